/-! steps of reading -/
def TkOK (T : Nat → Nat) (n : Nat) (d : Tk) : Prop := tkb d ≤ n ∧ tke d ≤ n ∧ tkK d ≤ 4 ∧ (tkK d = 0 ↔ tkb d = n) ∧ (tkK d ≠ 0 → tkb d < tke d) ∧ (tkK d = 1 → okL (tkR d) ∧ (tkR d).length ≤ 8) ∧ (tkK d = 2 → tkv d ≤ 9999) ∧ (tkK d = 3 → T (tkb d) ∈ sgs)
theorem run_in {P : Nat → Bool} {n : Nat} : ∀ d p, p + d = n → ∀ i, p ≤ i → i < run P n p → P i = true
  | 0, p, h, i, h1, h2 => by
    rw [run_st (fun q => by omega)] at h2
    omega
  | d + 1, p, h, i, h1, h2 => by
    by_cases z : p < n ∧ P p = true
    · rw [run_go z.1 z.2] at h2
      by_cases y : i = p
      · rw [y]; exact z.2
      · exact run_in d (p + 1) (by omega) i (by omega) h2
    · rw [run_st z] at h2
      omega
theorem dv_b {T : Nat → Nat} {p : Nat} : ∀ k, (∀ i, i < k → T (p + i) ≤ 57) → dv T p k < 10 ^ k
  | 0, _ => Nat.zero_lt_one
  | k + 1, h => by
    have ih := dv_b k (fun i hi => h i (by omega))
    have h2 := h k (Nat.lt_succ_self _)
    rw [dv_s, Nat.pow_succ]
    omega
theorem tk_ok {T : Nat → Nat} {n p : Nat} (hp : p ≤ n) : TkOK T n (tk T n p) ∧ p ≤ tkb (tk T n p) := by
  unfold tk
  have rb := run_b (P := bl T) hp
  generalize run (bl T) n p = b at rb
  unfold tk1
  by_cases z : b = n
  · rw [if_pos z]
    exact ⟨⟨by show b ≤ n; omega, by show b ≤ n; omega, by show 0 ≤ 4; omega, ⟨fun _ => z, fun _ => rfl⟩, fun h => absurd rfl h, fun h => absurd (show (0 : Nat) = 1 from h) (by decide), fun h => absurd (show (0 : Nat) = 2 from h) (by decide), fun h => absurd (show (0 : Nat) = 3 from h) (by decide)⟩, rb.1⟩
  · rw [if_neg z]
    have lb := run_b (P := lt T) (show b ≤ n by omega)
    have db := run_b (P := dg T) (show b ≤ n by omega)
    by_cases y : b < run (lt T) n b
    · rw [if_pos y]
      have inl : ∀ i, i < run (lt T) n b - b → lt T (b + i) = true := fun i hi => run_in (n := n) (n - b) b (by omega) (b + i) (by omega) (by omega)
      by_cases v : run (lt T) n b - b ≤ 8
      · rw [if_pos v]
        exact ⟨⟨by show b ≤ n; omega, lb.2, by show 1 ≤ 4; omega, ⟨fun h => absurd (show (1 : Nat) = 0 from h) (by decide), fun h => absurd (show b = n from h) z⟩, fun _ => y, fun _ => ⟨rl_ok _ inl, by show (rl T b _).length ≤ 8; rw [rl_len]; exact v⟩, fun h => absurd (show (1 : Nat) = 2 from h) (by decide), fun h => absurd (show (1 : Nat) = 3 from h) (by decide)⟩, rb.1⟩
      · rw [if_neg v]
        exact ⟨⟨by show b ≤ n; omega, lb.2, by show 4 ≤ 4; omega, ⟨fun h => absurd (show (4 : Nat) = 0 from h) (by decide), fun h => absurd (show b = n from h) z⟩, fun _ => y, fun h => absurd (show (4 : Nat) = 1 from h) (by decide), fun h => absurd (show (4 : Nat) = 2 from h) (by decide), fun h => absurd (show (4 : Nat) = 3 from h) (by decide)⟩, rb.1⟩
    · rw [if_neg y]
      by_cases y2 : b < run (dg T) n b
      · rw [if_pos y2]
        by_cases v : run (dg T) n b - b ≤ 4
        · rw [if_pos v]
          have dvb := dv_b (T := T) (p := b) (run (dg T) n b - b) (fun i hi => (of_decide_eq_true (run_in (P := dg T) (n := n) (n - b) b (by omega) (b + i) (by omega) (by omega))).2)
          have p4 : 10 ^ (run (dg T) n b - b) ≤ 10 ^ 4 := Nat.pow_le_pow_right (by decide) v
          exact ⟨⟨by show b ≤ n; omega, db.2, by show 2 ≤ 4; omega, ⟨fun h => absurd (show (2 : Nat) = 0 from h) (by decide), fun h => absurd (show b = n from h) z⟩, fun _ => y2, fun h => absurd (show (2 : Nat) = 1 from h) (by decide), fun _ => by show dv T b _ ≤ 9999; omega, fun h => absurd (show (2 : Nat) = 3 from h) (by decide)⟩, rb.1⟩
        · rw [if_neg v]
          exact ⟨⟨by show b ≤ n; omega, db.2, by show 4 ≤ 4; omega, ⟨fun h => absurd (show (4 : Nat) = 0 from h) (by decide), fun h => absurd (show b = n from h) z⟩, fun _ => y2, fun h => absurd (show (4 : Nat) = 1 from h) (by decide), fun h => absurd (show (4 : Nat) = 2 from h) (by decide), fun h => absurd (show (4 : Nat) = 3 from h) (by decide)⟩, rb.1⟩
      · rw [if_neg y2]
        by_cases v : T b ∈ sgs
        · rw [if_pos v]
          exact ⟨⟨by show b ≤ n; omega, by show b + 1 ≤ n; omega, by show 3 ≤ 4; omega, ⟨fun h => absurd (show (3 : Nat) = 0 from h) (by decide), fun h => absurd (show b = n from h) z⟩, fun _ => by show b < b + 1; omega, fun h => absurd (show (3 : Nat) = 1 from h) (by decide), fun h => absurd (show (3 : Nat) = 2 from h) (by decide), fun _ => v⟩, rb.1⟩
        · rw [if_neg v]
          exact ⟨⟨by show b ≤ n; omega, by show b + 1 ≤ n; omega, by show 4 ≤ 4; omega, ⟨fun h => absurd (show (4 : Nat) = 0 from h) (by decide), fun h => absurd (show b = n from h) z⟩, fun _ => by show b < b + 1; omega, fun h => absurd (show (4 : Nat) = 1 from h) (by decide), fun h => absurd (show (4 : Nat) = 2 from h) (by decide), fun h => absurd (show (4 : Nat) = 3 from h) (by decide)⟩, rb.1⟩
def RdP (T : Nat → Nat) (n : Nat) (d : Tk) (m : Mm) : Prop := TpP T n m ∧ TkP T d m
def RdM (T : Nat → Nat) (n : Nat) (d : Tk) (m : Mm) : Prop := TqM T n m ∧ TkM d m
def WRP (a k : Nat) : Prop := (a = 1 ∧ 2 ≤ k ∧ k ≤ 6) ∨ (a = 3 ∧ (k = 1 ∨ k = 2))
def WRM (a k : Nat) : Prop := a = 0 ∧ ((4 ≤ k ∧ k ≤ 9) ∨ (39 ≤ k ∧ k ≤ 41))
theorem adv_P {T : Nat → Nat} {n : Nat} {d : Tk} {m : Mm} (hT : TpOK T n) (ok : TkOK T n d) (h : RdP T n d m) : Sat (f_X9_advance m) (fun q => RdP T n (tk T n (tke d)) q ∧ Kp (fun a k => a = 1 ∧ 2 ≤ k ∧ k ≤ 6) m q) := by
  refine (advP hT h.1 ok.2.1 h.2.2.1).mono ?_
  intro q ⟨a1, a2⟩
  exact ⟨⟨⟨(a2.1 _ _ (by omega)).trans h.1.1, fun i hi => (a2.1 _ _ (by omega)).trans (h.1.2 i hi)⟩, a1⟩, a2⟩
theorem adv_M {T : Nat → Nat} {n : Nat} {d : Tk} {m : Mm} (hT : TpOK T n) (ok : TkOK T n d) (h : RdM T n d m) : Sat (f_X12_nextToken m) (fun q => RdM T n (tk T n (tke d)) q ∧ Kp (fun a k => a = 0 ∧ 4 ≤ k ∧ k ≤ 8) m q) := by
  refine (nxM hT h.1 ok.2.1 h.2.2.1).mono ?_
  intro q ⟨a1, a2⟩
  exact ⟨⟨⟨(a2.1 _ _ (by omega)).trans h.1.1, fun i hi => (a2.1 _ _ (by omega)).trans (h.1.2 i hi)⟩, a1⟩, a2⟩
def isW (d : Tk) (k : Nat) : Bool := decide (tkK d = 1 ∧ wid (tkR d) = k)
def isG (T : Nat → Nat) (d : Tk) (s : Nat) : Bool := decide (tkK d = 3 ∧ T (tkb d) = s)
theorem isWordM {T : Nat → Nat} {n : Nat} {d : Tk} {m : Mm} {k : Nat} {c : Int64} (ok : TkOK T n d) (h : RdM T n d m) (hk : k < 29) (hc : c = nJ (encR 27 (wds.getD k []))) : f_X12_isWord c m = some (bO (isW d k), m) := by
  obtain ⟨-, -, e6, e7, -⟩ := h.2
  have k4 := ok.2.2.1
  unfold f_X12_isWord isW
  by_cases z : tkK d = 1
  · obtain ⟨l1, l2⟩ := ok.2.2.2.2.2.1 z
    have wo := wds_ok k hk
    have en := enc_eq (B := 27) (by decide) (by decide) l1 l2 wo.1 wo.2
    by_cases y : wid (tkR d) = k
    · have lc : lg_cmp (nJ (encR 27 (tkR d))) c = 0 := (lgc _ _).mpr (by rw [hc]; exact en.mpr ((wid_iff hk).mp y))
      rw [decide_eq_true (show tkK d = 1 ∧ wid (tkR d) = k from ⟨z, y⟩)]
      simp (disch := omega) only [e6, z, e7 z, lc, bnd_e, grd_t, bdI_e, bdV_e, bokA, bokB, ni_inb, ni_cl, nI_add, pk_mul, li_2, li_3, li_4, li_5, li_6, li_7, li_8, li_9, li_10, li_11, li_12, li_13, li_14, li_15, li_16, li_17, li_18, li_19, li_20, li_21, li_22, li_23, li_24, li_25, li_26, li_27, li_28, li_29, li_30, li_31, li_32, li_33, li_34, li_35, li_36, li_37, li_38, li_39, li_40, li_41, li_42, li_43, li_44, li_45, li_46, li_47, li_48, li_49, li_50, li_51, li_52, li_53, li_54, li_55, li_56, li_57, li_58, li_59, li_60, li_61, li_63, li_70, li_96, li_97, li_99, li_100, li_101, li_102, li_120, li_122, li_126, li_200, li_255, li_423, li_555, li_999, li_1000, li_1111, li_2968, li_9999, li_10631, li_12345, li_14092, li_21470, li_65536, li_99233, nz_eq, n1_eq, n1_lt, n1_gt, n1_le, n1_ge, n1_sub, n1_add, nm_add, nz_add, nz_add2, z1_ne, z1_lt, z1_le, nI_1, pk_sub, nI_ltI, nI_leI, nI_eq, ni_neg, ni_nneg, ni_pos0, ni_nle0, ni_m1, gI_eq, gI_ne, xI_sJ, xI_sR, xR_sI, xR_sJ, xJ_sI, xJ_sR, gJ_eq, gJ_ne, gR_eq, gR_ne, if_true, if_false, ite_true, ite_false, not_true_eq_false, not_false_eq_true, decide_true, and_self, true_and, and_true, false_and, and_false, or_true, true_or, or_false, false_or, reduceIte, ne_eq]
      rfl
    · have lc : ¬ lg_cmp (nJ (encR 27 (tkR d))) c = 0 := fun q => y ((wid_iff hk).mpr (en.mp (by rw [← hc]; exact (lgc _ _).mp q)))
      rw [decide_eq_false (show ¬ (tkK d = 1 ∧ wid (tkR d) = k) from fun q => y q.2)]
      simp (disch := omega) only [e6, z, e7 z, lc, bnd_e, grd_t, bdI_e, bdV_e, bokA, bokB, ni_inb, ni_cl, nI_add, pk_mul, li_2, li_3, li_4, li_5, li_6, li_7, li_8, li_9, li_10, li_11, li_12, li_13, li_14, li_15, li_16, li_17, li_18, li_19, li_20, li_21, li_22, li_23, li_24, li_25, li_26, li_27, li_28, li_29, li_30, li_31, li_32, li_33, li_34, li_35, li_36, li_37, li_38, li_39, li_40, li_41, li_42, li_43, li_44, li_45, li_46, li_47, li_48, li_49, li_50, li_51, li_52, li_53, li_54, li_55, li_56, li_57, li_58, li_59, li_60, li_61, li_63, li_70, li_96, li_97, li_99, li_100, li_101, li_102, li_120, li_122, li_126, li_200, li_255, li_423, li_555, li_999, li_1000, li_1111, li_2968, li_9999, li_10631, li_12345, li_14092, li_21470, li_65536, li_99233, nz_eq, n1_eq, n1_lt, n1_gt, n1_le, n1_ge, n1_sub, n1_add, nm_add, nz_add, nz_add2, z1_ne, z1_lt, z1_le, nI_1, pk_sub, nI_ltI, nI_leI, nI_eq, ni_neg, ni_nneg, ni_pos0, ni_nle0, ni_m1, gI_eq, gI_ne, xI_sJ, xI_sR, xR_sI, xR_sJ, xJ_sI, xJ_sR, gJ_eq, gJ_ne, gR_eq, gR_ne, if_true, if_false, ite_true, ite_false, not_true_eq_false, not_false_eq_true, decide_true, and_self, true_and, and_true, false_and, and_false, or_true, true_or, or_false, false_or, reduceIte, ne_eq]
      rfl
  · rw [decide_eq_false (show ¬ (tkK d = 1 ∧ wid (tkR d) = k) from fun q => z q.1)]
    simp (disch := omega) only [e6, z, bnd_e, grd_t, bdI_e, bdV_e, bokA, bokB, ni_inb, ni_cl, nI_add, pk_mul, li_2, li_3, li_4, li_5, li_6, li_7, li_8, li_9, li_10, li_11, li_12, li_13, li_14, li_15, li_16, li_17, li_18, li_19, li_20, li_21, li_22, li_23, li_24, li_25, li_26, li_27, li_28, li_29, li_30, li_31, li_32, li_33, li_34, li_35, li_36, li_37, li_38, li_39, li_40, li_41, li_42, li_43, li_44, li_45, li_46, li_47, li_48, li_49, li_50, li_51, li_52, li_53, li_54, li_55, li_56, li_57, li_58, li_59, li_60, li_61, li_63, li_70, li_96, li_97, li_99, li_100, li_101, li_102, li_120, li_122, li_126, li_200, li_255, li_423, li_555, li_999, li_1000, li_1111, li_2968, li_9999, li_10631, li_12345, li_14092, li_21470, li_65536, li_99233, nz_eq, n1_eq, n1_lt, n1_gt, n1_le, n1_ge, n1_sub, n1_add, nm_add, nz_add, nz_add2, z1_ne, z1_lt, z1_le, nI_1, pk_sub, nI_ltI, nI_leI, nI_eq, ni_neg, ni_nneg, ni_pos0, ni_nle0, ni_m1, gI_eq, gI_ne, xI_sJ, xI_sR, xR_sI, xR_sJ, xJ_sI, xJ_sR, gJ_eq, gJ_ne, gR_eq, gR_ne, if_true, if_false, ite_true, ite_false, not_true_eq_false, not_false_eq_true, decide_true, and_self, true_and, and_true, false_and, and_false, or_true, true_or, or_false, false_or, reduceIte, ne_eq]
    rfl
theorem isSignM {T : Nat → Nat} {n : Nat} {d : Tk} {m : Mm} {s : Nat} (hT : TpOK T n) (ok : TkOK T n d) (h : RdM T n d m) (hs : s < 127) : f_X12_isSign (nI s) m = some (bO (isG T d s), m) := by
  obtain ⟨e5, -, e6, -, -⟩ := h.2
  have k4 := ok.2.2.1
  have n0 := hT.1
  unfold f_X12_isSign isG
  by_cases z : tkK d = 3
  · have bn : tkb d < n := by
      have := ok.2.2.2.1
      have := ok.1
      omega
    have tb := hT.b bn
    have e1 := h.1.2 _ bn
    by_cases y : T (tkb d) = s
    · rw [decide_eq_true (show tkK d = 3 ∧ T (tkb d) = s from ⟨z, y⟩)]
      simp (disch := omega) only [e6, z, e5, e1, y, bnd_e, grd_t, bdI_e, bdV_e, bokA, bokB, ni_inb, ni_cl, nI_add, pk_mul, li_2, li_3, li_4, li_5, li_6, li_7, li_8, li_9, li_10, li_11, li_12, li_13, li_14, li_15, li_16, li_17, li_18, li_19, li_20, li_21, li_22, li_23, li_24, li_25, li_26, li_27, li_28, li_29, li_30, li_31, li_32, li_33, li_34, li_35, li_36, li_37, li_38, li_39, li_40, li_41, li_42, li_43, li_44, li_45, li_46, li_47, li_48, li_49, li_50, li_51, li_52, li_53, li_54, li_55, li_56, li_57, li_58, li_59, li_60, li_61, li_63, li_70, li_96, li_97, li_99, li_100, li_101, li_102, li_120, li_122, li_126, li_200, li_255, li_423, li_555, li_999, li_1000, li_1111, li_2968, li_9999, li_10631, li_12345, li_14092, li_21470, li_65536, li_99233, nz_eq, n1_eq, n1_lt, n1_gt, n1_le, n1_ge, n1_sub, n1_add, nm_add, nz_add, nz_add2, z1_ne, z1_lt, z1_le, nI_1, pk_sub, nI_ltI, nI_leI, nI_eq, ni_neg, ni_nneg, ni_pos0, ni_nle0, ni_m1, gI_eq, gI_ne, xI_sJ, xI_sR, xR_sI, xR_sJ, xJ_sI, xJ_sR, gJ_eq, gJ_ne, gR_eq, gR_ne, if_true, if_false, ite_true, ite_false, not_true_eq_false, not_false_eq_true, decide_true, and_self, true_and, and_true, false_and, and_false, or_true, true_or, or_false, false_or, reduceIte, ne_eq]
      rfl
    · rw [decide_eq_false (show ¬ (tkK d = 3 ∧ T (tkb d) = s) from fun q => y q.2)]
      simp (disch := omega) only [e6, z, e5, e1, y, bnd_e, grd_t, bdI_e, bdV_e, bokA, bokB, ni_inb, ni_cl, nI_add, pk_mul, li_2, li_3, li_4, li_5, li_6, li_7, li_8, li_9, li_10, li_11, li_12, li_13, li_14, li_15, li_16, li_17, li_18, li_19, li_20, li_21, li_22, li_23, li_24, li_25, li_26, li_27, li_28, li_29, li_30, li_31, li_32, li_33, li_34, li_35, li_36, li_37, li_38, li_39, li_40, li_41, li_42, li_43, li_44, li_45, li_46, li_47, li_48, li_49, li_50, li_51, li_52, li_53, li_54, li_55, li_56, li_57, li_58, li_59, li_60, li_61, li_63, li_70, li_96, li_97, li_99, li_100, li_101, li_102, li_120, li_122, li_126, li_200, li_255, li_423, li_555, li_999, li_1000, li_1111, li_2968, li_9999, li_10631, li_12345, li_14092, li_21470, li_65536, li_99233, nz_eq, n1_eq, n1_lt, n1_gt, n1_le, n1_ge, n1_sub, n1_add, nm_add, nz_add, nz_add2, z1_ne, z1_lt, z1_le, nI_1, pk_sub, nI_ltI, nI_leI, nI_eq, ni_neg, ni_nneg, ni_pos0, ni_nle0, ni_m1, gI_eq, gI_ne, xI_sJ, xI_sR, xR_sI, xR_sJ, xJ_sI, xJ_sR, gJ_eq, gJ_ne, gR_eq, gR_ne, if_true, if_false, ite_true, ite_false, not_true_eq_false, not_false_eq_true, decide_true, and_self, true_and, and_true, false_and, and_false, or_true, true_or, or_false, false_or, reduceIte, ne_eq]
      rfl
  · rw [decide_eq_false (show ¬ (tkK d = 3 ∧ T (tkb d) = s) from fun q => z q.1)]
    simp (disch := omega) only [e6, z, bnd_e, grd_t, bdI_e, bdV_e, bokA, bokB, ni_inb, ni_cl, nI_add, pk_mul, li_2, li_3, li_4, li_5, li_6, li_7, li_8, li_9, li_10, li_11, li_12, li_13, li_14, li_15, li_16, li_17, li_18, li_19, li_20, li_21, li_22, li_23, li_24, li_25, li_26, li_27, li_28, li_29, li_30, li_31, li_32, li_33, li_34, li_35, li_36, li_37, li_38, li_39, li_40, li_41, li_42, li_43, li_44, li_45, li_46, li_47, li_48, li_49, li_50, li_51, li_52, li_53, li_54, li_55, li_56, li_57, li_58, li_59, li_60, li_61, li_63, li_70, li_96, li_97, li_99, li_100, li_101, li_102, li_120, li_122, li_126, li_200, li_255, li_423, li_555, li_999, li_1000, li_1111, li_2968, li_9999, li_10631, li_12345, li_14092, li_21470, li_65536, li_99233, nz_eq, n1_eq, n1_lt, n1_gt, n1_le, n1_ge, n1_sub, n1_add, nm_add, nz_add, nz_add2, z1_ne, z1_lt, z1_le, nI_1, pk_sub, nI_ltI, nI_leI, nI_eq, ni_neg, ni_nneg, ni_pos0, ni_nle0, ni_m1, gI_eq, gI_ne, xI_sJ, xI_sR, xR_sI, xR_sJ, xJ_sI, xJ_sR, gJ_eq, gJ_ne, gR_eq, gR_ne, if_true, if_false, ite_true, ite_false, not_true_eq_false, not_false_eq_true, decide_true, and_self, true_and, and_true, false_and, and_false, or_true, true_or, or_false, false_or, reduceIte, ne_eq]
    rfl
theorem sgs_b : ∀ s, s ∈ sgs → 40 ≤ s ∧ s ≤ 61 := by decide
theorem ctk_b {T : Nat → Nat} {n : Nat} {d : Tk} (ok : TkOK T n d) : ctk T d ≤ 102 := by
  unfold ctk
  have := wid_le (tkR d)
  split
  · omega
  · split
    · omega
    · split
      · omega
      · split
        · rename_i h
          have := sgs_b _ (ok.2.2.2.2.2.2.2 h)
          omega
        · omega
theorem ctk_w {T : Nat → Nat} {n : Nat} {d : Tk} (ok : TkOK T n d) {k : Nat} (hk : k < 30) : ctk T d = k ↔ (tkK d = 1 ∧ wid (tkR d) = k) := by
  unfold ctk
  have w := wid_le (tkR d)
  by_cases z0 : tkK d = 0
  · rw [if_pos z0]; exact ⟨fun q => by omega, fun q => by omega⟩
  · rw [if_neg z0]
    by_cases z1 : tkK d = 1
    · rw [if_pos z1]; exact ⟨fun q => ⟨z1, q⟩, fun q => q.2⟩
    · rw [if_neg z1]
      by_cases z2 : tkK d = 2
      · rw [if_pos z2]; exact ⟨fun q => by omega, fun q => by omega⟩
      · rw [if_neg z2]
        by_cases z3 : tkK d = 3
        · rw [if_pos z3]
          have := sgs_b _ (ok.2.2.2.2.2.2.2 z3)
          exact ⟨fun q => by omega, fun q => by omega⟩
        · rw [if_neg z3]; exact ⟨fun q => by omega, fun q => by omega⟩
theorem ctk_s {T : Nat → Nat} {d : Tk} {s : Nat} (hs : s ∈ sgs) : ctk T d = s ↔ (tkK d = 3 ∧ T (tkb d) = s) := by
  unfold ctk
  have w := wid_le (tkR d)
  have sb := sgs_b s hs
  by_cases z0 : tkK d = 0
  · rw [if_pos z0]; exact ⟨fun q => by omega, fun q => by omega⟩
  · rw [if_neg z0]
    by_cases z1 : tkK d = 1
    · rw [if_pos z1]; exact ⟨fun q => by omega, fun q => by omega⟩
    · rw [if_neg z1]
      by_cases z2 : tkK d = 2
      · rw [if_pos z2]; exact ⟨fun q => by omega, fun q => by omega⟩
      · rw [if_neg z2]
        by_cases z3 : tkK d = 3
        · rw [if_pos z3]; exact ⟨fun q => ⟨z3, q⟩, fun q => q.2⟩
        · rw [if_neg z3]; exact ⟨fun q => by omega, fun q => by omega⟩
theorem ctk_n {T : Nat → Nat} {n : Nat} {d : Tk} (ok : TkOK T n d) : (ctk T d = 100 ↔ tkK d = 2) ∧ (ctk T d = 101 ↔ tkK d = 0) := by
  unfold ctk
  have w := wid_le (tkR d)
  by_cases z0 : tkK d = 0
  · rw [if_pos z0]; exact ⟨⟨fun q => by omega, fun q => by omega⟩, ⟨fun _ => z0, fun _ => rfl⟩⟩
  · rw [if_neg z0]
    by_cases z1 : tkK d = 1
    · rw [if_pos z1]; exact ⟨⟨fun q => by omega, fun q => by omega⟩, ⟨fun q => by omega, fun q => by omega⟩⟩
    · rw [if_neg z1]
      by_cases z2 : tkK d = 2
      · rw [if_pos z2]; exact ⟨⟨fun _ => z2, fun _ => rfl⟩, ⟨fun q => by omega, fun q => by omega⟩⟩
      · rw [if_neg z2]
        by_cases z3 : tkK d = 3
        · rw [if_pos z3]
          have := sgs_b _ (ok.2.2.2.2.2.2.2 z3)
          exact ⟨⟨fun q => by omega, fun q => by omega⟩, ⟨fun q => by omega, fun q => by omega⟩⟩
        · rw [if_neg z3]; exact ⟨⟨fun q => by omega, fun q => by omega⟩, ⟨fun q => by omega, fun q => by omega⟩⟩
/-- what comes of a step that both make: both fail, and say the same, or both go on -/
def Ou (T : Nat → Nat) (n b : Nat) (G : Mm → Mm → Prop) (mP mM : Mm) (q q' : Int32 × Mm) : Prop := Kp WRP mP q.2 ∧ Kp WRM mM q'.2 ∧ ((q.1 = 0 ∧ q'.1 = 0 ∧ gI q.2 3 2 = gI q'.2 0 9 ∧ ¬ gI q.2 3 2 = 0) ∨ (q.1 = 1 ∧ q'.1 = 1 ∧ ∃ d, TkOK T n d ∧ b < tkb d ∧ RdP T n d q.2 ∧ RdM T n d q'.2 ∧ G q.2 q'.2))
theorem wrongE {T : Nat → Nat} {n : Nat} {d : Tk} {mP : Mm} (hP : RdP T n d mP) (w : Nat) : f_X5_wrong (nI w) mP = some (0, sI mP 3 2 (nI (w + 16 * tkb d))) := by
  unfold f_X5_wrong
  simp (disch := omega) only [hP.2.1, bnd_e, grd_t, bdI_e, bdV_e, bokA, bokB, ni_inb, ni_cl, nI_add, pk_mul, li_2, li_3, li_4, li_5, li_6, li_7, li_8, li_9, li_10, li_11, li_12, li_13, li_14, li_15, li_16, li_17, li_18, li_19, li_20, li_21, li_22, li_23, li_24, li_25, li_26, li_27, li_28, li_29, li_30, li_31, li_32, li_33, li_34, li_35, li_36, li_37, li_38, li_39, li_40, li_41, li_42, li_43, li_44, li_45, li_46, li_47, li_48, li_49, li_50, li_51, li_52, li_53, li_54, li_55, li_56, li_57, li_58, li_59, li_60, li_61, li_63, li_70, li_96, li_97, li_99, li_100, li_101, li_102, li_120, li_122, li_126, li_200, li_255, li_423, li_555, li_999, li_1000, li_1111, li_2968, li_9999, li_10631, li_12345, li_14092, li_21470, li_65536, li_99233, nz_eq, n1_eq, n1_lt, n1_gt, n1_le, n1_ge, n1_sub, n1_add, nm_add, nz_add, nz_add2, z1_ne, z1_lt, z1_le, nI_1, pk_sub, nI_ltI, nI_leI, nI_eq, ni_neg, ni_nneg, ni_pos0, ni_nle0, ni_m1, gI_eq, gI_ne, xI_sJ, xI_sR, xR_sI, xR_sJ, xJ_sI, xJ_sR, gJ_eq, gJ_ne, gR_eq, gR_ne, if_true, if_false, ite_true, ite_false, not_true_eq_false, not_false_eq_true, decide_true, and_self, true_and, and_true, false_and, and_false, or_true, true_or, or_false, false_or, reduceIte, ne_eq]
theorem failsE {T : Nat → Nat} {n : Nat} {d : Tk} {mM : Mm} (hM : RdM T n d mM) (w : Nat) : f_X12_fails (nI w) mM = some (0, sI mM 0 9 (nI (w + 16 * tkb d))) := by
  unfold f_X12_fails
  simp (disch := omega) only [hM.2.1, bnd_e, grd_t, bdI_e, bdV_e, bokA, bokB, ni_inb, ni_cl, nI_add, pk_mul, li_2, li_3, li_4, li_5, li_6, li_7, li_8, li_9, li_10, li_11, li_12, li_13, li_14, li_15, li_16, li_17, li_18, li_19, li_20, li_21, li_22, li_23, li_24, li_25, li_26, li_27, li_28, li_29, li_30, li_31, li_32, li_33, li_34, li_35, li_36, li_37, li_38, li_39, li_40, li_41, li_42, li_43, li_44, li_45, li_46, li_47, li_48, li_49, li_50, li_51, li_52, li_53, li_54, li_55, li_56, li_57, li_58, li_59, li_60, li_61, li_63, li_70, li_96, li_97, li_99, li_100, li_101, li_102, li_120, li_122, li_126, li_200, li_255, li_423, li_555, li_999, li_1000, li_1111, li_2968, li_9999, li_10631, li_12345, li_14092, li_21470, li_65536, li_99233, nz_eq, n1_eq, n1_lt, n1_gt, n1_le, n1_ge, n1_sub, n1_add, nm_add, nz_add, nz_add2, z1_ne, z1_lt, z1_le, nI_1, pk_sub, nI_ltI, nI_leI, nI_eq, ni_neg, ni_nneg, ni_pos0, ni_nle0, ni_m1, gI_eq, gI_ne, xI_sJ, xI_sR, xR_sI, xR_sJ, xJ_sI, xJ_sR, gJ_eq, gJ_ne, gR_eq, gR_ne, if_true, if_false, ite_true, ite_false, not_true_eq_false, not_false_eq_true, decide_true, and_self, true_and, and_true, false_and, and_false, or_true, true_or, or_false, false_or, reduceIte, ne_eq]
theorem ouF {T : Nat → Nat} {n : Nat} {d : Tk} {mP mM : Mm} {b w : Nat} {G : Mm → Mm → Prop} (hT : TpOK T n) (ok : TkOK T n d) (hw : 1 ≤ w ∧ w ≤ 5) : Ou T n b G mP mM (0, sI mP 3 2 (nI (w + 16 * tkb d))) (0, sI mM 0 9 (nI (w + 16 * tkb d))) := by
  have n0 := hT.1
  have b1 := ok.1
  refine ⟨(Kp.refl mP).sI _ (by unfold WRP; omega), (Kp.refl mM).sI _ (by unfold WRM; omega), Or.inl ⟨rfl, rfl, ?_, ?_⟩⟩
  · rw [gI_eq _ _ _ _ _ _ rfl rfl, gI_eq _ _ _ _ _ _ rfl rfl]
  · rw [gI_eq _ _ _ _ _ _ rfl rfl, nz_eq _ (by omega)]
    omega
theorem Ou.mono {T : Nat → Nat} {n b b' : Nat} {G G' : Mm → Mm → Prop} {mP mM : Mm} {q q' : Int32 × Mm} (h : Ou T n b G mP mM q q') (hb : b' ≤ b) (hG : ∀ x y, G x y → G' x y) : Ou T n b' G' mP mM q q' := ⟨h.1, h.2.1, h.2.2.imp id (fun ⟨a1, a2, d, a3, a4, a5, a6, a7⟩ => ⟨a1, a2, d, a3, by omega, a5, a6, hG _ _ a7⟩)⟩
/-- one step behind another -/
theorem Ou.thn {T : Nat → Nat} {n b : Nat} {G G' : Mm → Mm → Prop} {mP mM mP0 mM0 : Mm} {q q' r r' : Int32 × Mm} (kP : Kp WRP mP0 mP) (kM : Kp WRM mM0 mM) (h : Ou T n b G' q.2 q'.2 r r') (h1 : Kp WRP mP q.2) (h2 : Kp WRM mM q'.2) : Ou T n b G' mP0 mM0 r r' := ⟨(kP.trans h1).trans h.1, (kM.trans h2).trans h.2.1, h.2.2⟩
theorem takeWB {T : Nat → Nat} {n : Nat} {d : Tk} {mP mM : Mm} {k : Nat} {c : Int64} (hT : TpOK T n) (ok : TkOK T n d) (hP : RdP T n d mP) (hM : RdM T n d mM) (hk : k < 29) (hc : c = nJ (encR 27 (wds.getD k []))) : S2 (f_X5_take (nI k) mP) (f_X12_needsWord c mM) (Ou T n (tkb d) (fun a b => (∀ k, gI a 3 k = gI mP 3 k) ∧ ∀ k, 39 ≤ k → gI b 0 k = gI mM 0 k) mP mM) := by
  have cb := ctk_b ok
  have cw := ctk_w (T := T) ok (k := k) (by omega)
  have iw := isWordM ok hM hk hc
  unfold f_X5_take f_X12_needsWord
  by_cases z : tkK d = 1 ∧ wid (tkR d) = k
  · have z1 : isW d k = true := decide_eq_true z
    rw [z1] at iw
    have b0 : ¬ bO true = 0 := by decide
    simp (disch := omega) only [hP.2.2.2.1, cw.mpr z, iw, b0, bnd_e, grd_t, bdI_e, bdV_e, bokA, bokB, ni_inb, ni_cl, nI_add, pk_mul, li_2, li_3, li_4, li_5, li_6, li_7, li_8, li_9, li_10, li_11, li_12, li_13, li_14, li_15, li_16, li_17, li_18, li_19, li_20, li_21, li_22, li_23, li_24, li_25, li_26, li_27, li_28, li_29, li_30, li_31, li_32, li_33, li_34, li_35, li_36, li_37, li_38, li_39, li_40, li_41, li_42, li_43, li_44, li_45, li_46, li_47, li_48, li_49, li_50, li_51, li_52, li_53, li_54, li_55, li_56, li_57, li_58, li_59, li_60, li_61, li_63, li_70, li_96, li_97, li_99, li_100, li_101, li_102, li_120, li_122, li_126, li_200, li_255, li_423, li_555, li_999, li_1000, li_1111, li_2968, li_9999, li_10631, li_12345, li_14092, li_21470, li_65536, li_99233, nz_eq, n1_eq, n1_lt, n1_gt, n1_le, n1_ge, n1_sub, n1_add, nm_add, nz_add, nz_add2, z1_ne, z1_lt, z1_le, nI_1, pk_sub, nI_ltI, nI_leI, nI_eq, ni_neg, ni_nneg, ni_pos0, ni_nle0, ni_m1, gI_eq, gI_ne, xI_sJ, xI_sR, xR_sI, xR_sJ, xJ_sI, xJ_sR, gJ_eq, gJ_ne, gR_eq, gR_ne, if_true, if_false, ite_true, ite_false, not_true_eq_false, not_false_eq_true, decide_true, and_self, true_and, and_true, false_and, and_false, or_true, true_or, or_false, false_or, reduceIte, ne_eq]
    obtain ⟨nP, eP, h1, h2⟩ := adv_P hT ok hP
    obtain ⟨nM, eM, h3, h4⟩ := adv_M hT ok hM
    have tok := tk_ok (T := T) ok.2.1
    have kb := ok.2.2.2.2.1 (by omega)
    exact ⟨(1, nP), (1, nM), by rw [eP, bdV_e], by rw [eM, bdV_e], h2.mono (fun a k q => by unfold WRP; omega), h4.mono (fun a k q => by unfold WRM; omega), Or.inr ⟨rfl, rfl, _, tok.1, by omega, h1, h3, fun k => h2.1 _ _ (by omega), fun k hk => h4.1 _ _ (by omega)⟩⟩
  · have z1 : isW d k = false := decide_eq_false z
    rw [z1] at iw
    have b0 : bO false = 0 := rfl
    have nz : ¬ ctk T d = k := fun q => z (cw.mp q)
    have e1 : f_X5_wrong 1 mP = some (0, sI mP 3 2 (nI (1 + 16 * tkb d))) := wrongE hP 1
    have e2 : f_X12_fails 1 mM = some (0, sI mM 0 9 (nI (1 + 16 * tkb d))) := failsE hM 1
    simp (disch := omega) only [hP.2.2.2.1, nz, iw, b0, e1, e2, bnd_e, grd_t, bdI_e, bdV_e, bokA, bokB, ni_inb, ni_cl, nI_add, pk_mul, li_2, li_3, li_4, li_5, li_6, li_7, li_8, li_9, li_10, li_11, li_12, li_13, li_14, li_15, li_16, li_17, li_18, li_19, li_20, li_21, li_22, li_23, li_24, li_25, li_26, li_27, li_28, li_29, li_30, li_31, li_32, li_33, li_34, li_35, li_36, li_37, li_38, li_39, li_40, li_41, li_42, li_43, li_44, li_45, li_46, li_47, li_48, li_49, li_50, li_51, li_52, li_53, li_54, li_55, li_56, li_57, li_58, li_59, li_60, li_61, li_63, li_70, li_96, li_97, li_99, li_100, li_101, li_102, li_120, li_122, li_126, li_200, li_255, li_423, li_555, li_999, li_1000, li_1111, li_2968, li_9999, li_10631, li_12345, li_14092, li_21470, li_65536, li_99233, nz_eq, n1_eq, n1_lt, n1_gt, n1_le, n1_ge, n1_sub, n1_add, nm_add, nz_add, nz_add2, z1_ne, z1_lt, z1_le, nI_1, pk_sub, nI_ltI, nI_leI, nI_eq, ni_neg, ni_nneg, ni_pos0, ni_nle0, ni_m1, gI_eq, gI_ne, xI_sJ, xI_sR, xR_sI, xR_sJ, xJ_sI, xJ_sR, gJ_eq, gJ_ne, gR_eq, gR_ne, if_true, if_false, ite_true, ite_false, not_true_eq_false, not_false_eq_true, decide_true, and_self, true_and, and_true, false_and, and_false, or_true, true_or, or_false, false_or, reduceIte, ne_eq]
    exact (S2_some _ _ _).mpr (ouF hT ok (by omega))
theorem takeSB {T : Nat → Nat} {n : Nat} {d : Tk} {mP mM : Mm} (hT : TpOK T n) (ok : TkOK T n d) (hP : RdP T n d mP) (hM : RdM T n d mM) : S2 (f_X5_take (nI 59) mP) (f_X12_closes mM) (Ou T n (tkb d) (fun a b => (∀ k, gI a 3 k = gI mP 3 k) ∧ ∀ k, 39 ≤ k → gI b 0 k = gI mM 0 k) mP mM) := by
  have cb := ctk_b ok
  have cw := ctk_s (T := T) (d := d) (s := 59) (by decide)
  have iw := isSignM hT ok hM (s := 59) (by decide)
  unfold f_X5_take f_X12_closes
  by_cases z : tkK d = 3 ∧ T (tkb d) = 59
  · have z1 : isG T d 59 = true := decide_eq_true z
    rw [z1] at iw
    have b0 : ¬ bO true = 0 := by decide
    simp (disch := omega) only [hP.2.2.2.1, cw.mpr z, iw, b0, bnd_e, grd_t, bdI_e, bdV_e, bokA, bokB, ni_inb, ni_cl, nI_add, pk_mul, li_2, li_3, li_4, li_5, li_6, li_7, li_8, li_9, li_10, li_11, li_12, li_13, li_14, li_15, li_16, li_17, li_18, li_19, li_20, li_21, li_22, li_23, li_24, li_25, li_26, li_27, li_28, li_29, li_30, li_31, li_32, li_33, li_34, li_35, li_36, li_37, li_38, li_39, li_40, li_41, li_42, li_43, li_44, li_45, li_46, li_47, li_48, li_49, li_50, li_51, li_52, li_53, li_54, li_55, li_56, li_57, li_58, li_59, li_60, li_61, li_63, li_70, li_96, li_97, li_99, li_100, li_101, li_102, li_120, li_122, li_126, li_200, li_255, li_423, li_555, li_999, li_1000, li_1111, li_2968, li_9999, li_10631, li_12345, li_14092, li_21470, li_65536, li_99233, nz_eq, n1_eq, n1_lt, n1_gt, n1_le, n1_ge, n1_sub, n1_add, nm_add, nz_add, nz_add2, z1_ne, z1_lt, z1_le, nI_1, pk_sub, nI_ltI, nI_leI, nI_eq, ni_neg, ni_nneg, ni_pos0, ni_nle0, ni_m1, gI_eq, gI_ne, xI_sJ, xI_sR, xR_sI, xR_sJ, xJ_sI, xJ_sR, gJ_eq, gJ_ne, gR_eq, gR_ne, if_true, if_false, ite_true, ite_false, not_true_eq_false, not_false_eq_true, decide_true, and_self, true_and, and_true, false_and, and_false, or_true, true_or, or_false, false_or, reduceIte, ne_eq]
    obtain ⟨nP, eP, h1, h2⟩ := adv_P hT ok hP
    obtain ⟨nM, eM, h3, h4⟩ := adv_M hT ok hM
    have tok := tk_ok (T := T) ok.2.1
    have kb := ok.2.2.2.2.1 (by omega)
    exact ⟨(1, nP), (1, nM), by rw [eP, bdV_e], by rw [eM, bdV_e], h2.mono (fun a k q => by unfold WRP; omega), h4.mono (fun a k q => by unfold WRM; omega), Or.inr ⟨rfl, rfl, _, tok.1, by omega, h1, h3, fun k => h2.1 _ _ (by omega), fun k hk => h4.1 _ _ (by omega)⟩⟩
  · have z1 : isG T d 59 = false := decide_eq_false z
    rw [z1] at iw
    have b0 : bO false = 0 := rfl
    have nz : ¬ ctk T d = 59 := fun q => z (cw.mp q)
    have e1 : f_X5_wrong 1 mP = some (0, sI mP 3 2 (nI (1 + 16 * tkb d))) := wrongE hP 1
    have e2 : f_X12_fails 1 mM = some (0, sI mM 0 9 (nI (1 + 16 * tkb d))) := failsE hM 1
    simp (disch := omega) only [hP.2.2.2.1, nz, iw, b0, e1, e2, bnd_e, grd_t, bdI_e, bdV_e, bokA, bokB, ni_inb, ni_cl, nI_add, pk_mul, li_2, li_3, li_4, li_5, li_6, li_7, li_8, li_9, li_10, li_11, li_12, li_13, li_14, li_15, li_16, li_17, li_18, li_19, li_20, li_21, li_22, li_23, li_24, li_25, li_26, li_27, li_28, li_29, li_30, li_31, li_32, li_33, li_34, li_35, li_36, li_37, li_38, li_39, li_40, li_41, li_42, li_43, li_44, li_45, li_46, li_47, li_48, li_49, li_50, li_51, li_52, li_53, li_54, li_55, li_56, li_57, li_58, li_59, li_60, li_61, li_63, li_70, li_96, li_97, li_99, li_100, li_101, li_102, li_120, li_122, li_126, li_200, li_255, li_423, li_555, li_999, li_1000, li_1111, li_2968, li_9999, li_10631, li_12345, li_14092, li_21470, li_65536, li_99233, nz_eq, n1_eq, n1_lt, n1_gt, n1_le, n1_ge, n1_sub, n1_add, nm_add, nz_add, nz_add2, z1_ne, z1_lt, z1_le, nI_1, pk_sub, nI_ltI, nI_leI, nI_eq, ni_neg, ni_nneg, ni_pos0, ni_nle0, ni_m1, gI_eq, gI_ne, xI_sJ, xI_sR, xR_sI, xR_sJ, xJ_sI, xJ_sR, gJ_eq, gJ_ne, gR_eq, gR_ne, if_true, if_false, ite_true, ite_false, not_true_eq_false, not_false_eq_true, decide_true, and_self, true_and, and_true, false_and, and_false, or_true, true_or, or_false, false_or, reduceIte, ne_eq]
    exact (S2_some _ _ _).mpr (ouF hT ok (by omega))
theorem takeNB {T : Nat → Nat} {n : Nat} {d : Tk} {mP mM : Mm} {lo hi : Nat} (hT : TpOK T n) (ok : TkOK T n d) (hP : RdP T n d mP) (hM : RdM T n d mM) (hl : lo ≤ 61) (hh : hi ≤ 999) : S2 (f_X5_takeNumber (nI lo) (nI hi) mP) (f_X12_needsNumber (nI lo) (nI hi) mM) (Ou T n (tkb d) (fun a b => (∃ v, lo ≤ v ∧ v ≤ hi ∧ gI a 3 1 = nI v ∧ gI b 0 39 = nI v) ∧ ∀ k, 40 ≤ k → gI b 0 k = gI mM 0 k) mP mM) := by
  have cb := ctk_b ok
  have cn := (ctk_n (T := T) ok).1
  have k4 := ok.2.2.1
  unfold f_X5_takeNumber f_X5_takeNumber_J40 f_X12_needsNumber
  by_cases z : tkK d = 2
  · have vb := ok.2.2.2.2.2.2.1 z
    have gP := hP.2.2.2.2.2 z
    have gM := hM.2.2.2.2.2 z
    by_cases y : tkv d < lo ∨ hi < tkv d
    · have e1 := wrongE hP 4
      have e2 := failsE hM 4
      by_cases y1 : tkv d < lo
      · simp (disch := omega) only [hP.2.2.2.1, cn.mpr z, hM.2.2.2.1, z, gP, gM, within_e, y1, e1, e2, bnd_e, grd_t, bdI_e, bdV_e, bokA, bokB, ni_inb, ni_cl, nI_add, pk_mul, li_2, li_3, li_4, li_5, li_6, li_7, li_8, li_9, li_10, li_11, li_12, li_13, li_14, li_15, li_16, li_17, li_18, li_19, li_20, li_21, li_22, li_23, li_24, li_25, li_26, li_27, li_28, li_29, li_30, li_31, li_32, li_33, li_34, li_35, li_36, li_37, li_38, li_39, li_40, li_41, li_42, li_43, li_44, li_45, li_46, li_47, li_48, li_49, li_50, li_51, li_52, li_53, li_54, li_55, li_56, li_57, li_58, li_59, li_60, li_61, li_63, li_70, li_96, li_97, li_99, li_100, li_101, li_102, li_120, li_122, li_126, li_200, li_255, li_423, li_555, li_999, li_1000, li_1111, li_2968, li_9999, li_10631, li_12345, li_14092, li_21470, li_65536, li_99233, nz_eq, n1_eq, n1_lt, n1_gt, n1_le, n1_ge, n1_sub, n1_add, nm_add, nz_add, nz_add2, z1_ne, z1_lt, z1_le, nI_1, pk_sub, nI_ltI, nI_leI, nI_eq, ni_neg, ni_nneg, ni_pos0, ni_nle0, ni_m1, gI_eq, gI_ne, xI_sJ, xI_sR, xR_sI, xR_sJ, xJ_sI, xJ_sR, gJ_eq, gJ_ne, gR_eq, gR_ne, if_true, if_false, ite_true, ite_false, not_true_eq_false, not_false_eq_true, decide_true, and_self, true_and, and_true, false_and, and_false, or_true, true_or, or_false, false_or, reduceIte, ne_eq]
        exact (S2_some _ _ _).mpr (ouF hT ok (by omega))
      · have y2 := y.resolve_left y1
        have y3 : ¬ tkv d ≤ hi := by omega
        simp (disch := omega) only [hP.2.2.2.1, cn.mpr z, hM.2.2.2.1, z, gP, gM, within_e, y1, y2, y3, e1, e2, bnd_e, grd_t, bdI_e, bdV_e, bokA, bokB, ni_inb, ni_cl, nI_add, pk_mul, li_2, li_3, li_4, li_5, li_6, li_7, li_8, li_9, li_10, li_11, li_12, li_13, li_14, li_15, li_16, li_17, li_18, li_19, li_20, li_21, li_22, li_23, li_24, li_25, li_26, li_27, li_28, li_29, li_30, li_31, li_32, li_33, li_34, li_35, li_36, li_37, li_38, li_39, li_40, li_41, li_42, li_43, li_44, li_45, li_46, li_47, li_48, li_49, li_50, li_51, li_52, li_53, li_54, li_55, li_56, li_57, li_58, li_59, li_60, li_61, li_63, li_70, li_96, li_97, li_99, li_100, li_101, li_102, li_120, li_122, li_126, li_200, li_255, li_423, li_555, li_999, li_1000, li_1111, li_2968, li_9999, li_10631, li_12345, li_14092, li_21470, li_65536, li_99233, nz_eq, n1_eq, n1_lt, n1_gt, n1_le, n1_ge, n1_sub, n1_add, nm_add, nz_add, nz_add2, z1_ne, z1_lt, z1_le, nI_1, pk_sub, nI_ltI, nI_leI, nI_eq, ni_neg, ni_nneg, ni_pos0, ni_nle0, ni_m1, gI_eq, gI_ne, xI_sJ, xI_sR, xR_sI, xR_sJ, xJ_sI, xJ_sR, gJ_eq, gJ_ne, gR_eq, gR_ne, if_true, if_false, ite_true, ite_false, not_true_eq_false, not_false_eq_true, decide_true, and_self, true_and, and_true, false_and, and_false, or_true, true_or, or_false, false_or, reduceIte, ne_eq]
        exact (S2_some _ _ _).mpr (ouF hT ok (by omega))
    · have y1 : ¬ tkv d < lo := fun q => y (Or.inl q)
      have y2 : ¬ hi < tkv d := fun q => y (Or.inr q)
      have y3 : tkv d ≤ hi := by omega
      simp (disch := omega) only [hP.2.2.2.1, cn.mpr z, hM.2.2.2.1, z, gP, gM, within_e, y1, y2, y3, bnd_e, grd_t, bdI_e, bdV_e, bokA, bokB, ni_inb, ni_cl, nI_add, pk_mul, li_2, li_3, li_4, li_5, li_6, li_7, li_8, li_9, li_10, li_11, li_12, li_13, li_14, li_15, li_16, li_17, li_18, li_19, li_20, li_21, li_22, li_23, li_24, li_25, li_26, li_27, li_28, li_29, li_30, li_31, li_32, li_33, li_34, li_35, li_36, li_37, li_38, li_39, li_40, li_41, li_42, li_43, li_44, li_45, li_46, li_47, li_48, li_49, li_50, li_51, li_52, li_53, li_54, li_55, li_56, li_57, li_58, li_59, li_60, li_61, li_63, li_70, li_96, li_97, li_99, li_100, li_101, li_102, li_120, li_122, li_126, li_200, li_255, li_423, li_555, li_999, li_1000, li_1111, li_2968, li_9999, li_10631, li_12345, li_14092, li_21470, li_65536, li_99233, nz_eq, n1_eq, n1_lt, n1_gt, n1_le, n1_ge, n1_sub, n1_add, nm_add, nz_add, nz_add2, z1_ne, z1_lt, z1_le, nI_1, pk_sub, nI_ltI, nI_leI, nI_eq, ni_neg, ni_nneg, ni_pos0, ni_nle0, ni_m1, gI_eq, gI_ne, xI_sJ, xI_sR, xR_sI, xR_sJ, xJ_sI, xJ_sR, gJ_eq, gJ_ne, gR_eq, gR_ne, if_true, if_false, ite_true, ite_false, not_true_eq_false, not_false_eq_true, decide_true, and_self, true_and, and_true, false_and, and_false, or_true, true_or, or_false, false_or, reduceIte, ne_eq]
      have hP2 : RdP T n d (sI mP 3 1 (nI (tkv d))) := ⟨⟨by simp (disch := omega) only [bnd_e, grd_t, bdI_e, bdV_e, bokA, bokB, ni_inb, ni_cl, nI_add, pk_mul, li_2, li_3, li_4, li_5, li_6, li_7, li_8, li_9, li_10, li_11, li_12, li_13, li_14, li_15, li_16, li_17, li_18, li_19, li_20, li_21, li_22, li_23, li_24, li_25, li_26, li_27, li_28, li_29, li_30, li_31, li_32, li_33, li_34, li_35, li_36, li_37, li_38, li_39, li_40, li_41, li_42, li_43, li_44, li_45, li_46, li_47, li_48, li_49, li_50, li_51, li_52, li_53, li_54, li_55, li_56, li_57, li_58, li_59, li_60, li_61, li_63, li_70, li_96, li_97, li_99, li_100, li_101, li_102, li_120, li_122, li_126, li_200, li_255, li_423, li_555, li_999, li_1000, li_1111, li_2968, li_9999, li_10631, li_12345, li_14092, li_21470, li_65536, li_99233, nz_eq, n1_eq, n1_lt, n1_gt, n1_le, n1_ge, n1_sub, n1_add, nm_add, nz_add, nz_add2, z1_ne, z1_lt, z1_le, nI_1, pk_sub, nI_ltI, nI_leI, nI_eq, ni_neg, ni_nneg, ni_pos0, ni_nle0, ni_m1, gI_eq, gI_ne, xI_sJ, xI_sR, xR_sI, xR_sJ, xJ_sI, xJ_sR, gJ_eq, gJ_ne, gR_eq, gR_ne, if_true, if_false, ite_true, ite_false, not_true_eq_false, not_false_eq_true, decide_true, and_self, true_and, and_true, false_and, and_false, or_true, true_or, or_false, false_or, reduceIte, ne_eq]; exact hP.1.1, fun i hi => by simp (disch := omega) only [bnd_e, grd_t, bdI_e, bdV_e, bokA, bokB, ni_inb, ni_cl, nI_add, pk_mul, li_2, li_3, li_4, li_5, li_6, li_7, li_8, li_9, li_10, li_11, li_12, li_13, li_14, li_15, li_16, li_17, li_18, li_19, li_20, li_21, li_22, li_23, li_24, li_25, li_26, li_27, li_28, li_29, li_30, li_31, li_32, li_33, li_34, li_35, li_36, li_37, li_38, li_39, li_40, li_41, li_42, li_43, li_44, li_45, li_46, li_47, li_48, li_49, li_50, li_51, li_52, li_53, li_54, li_55, li_56, li_57, li_58, li_59, li_60, li_61, li_63, li_70, li_96, li_97, li_99, li_100, li_101, li_102, li_120, li_122, li_126, li_200, li_255, li_423, li_555, li_999, li_1000, li_1111, li_2968, li_9999, li_10631, li_12345, li_14092, li_21470, li_65536, li_99233, nz_eq, n1_eq, n1_lt, n1_gt, n1_le, n1_ge, n1_sub, n1_add, nm_add, nz_add, nz_add2, z1_ne, z1_lt, z1_le, nI_1, pk_sub, nI_ltI, nI_leI, nI_eq, ni_neg, ni_nneg, ni_pos0, ni_nle0, ni_m1, gI_eq, gI_ne, xI_sJ, xI_sR, xR_sI, xR_sJ, xJ_sI, xJ_sR, gJ_eq, gJ_ne, gR_eq, gR_ne, if_true, if_false, ite_true, ite_false, not_true_eq_false, not_false_eq_true, decide_true, and_self, true_and, and_true, false_and, and_false, or_true, true_or, or_false, false_or, reduceIte, ne_eq]; exact hP.1.2 i hi⟩, by simp (disch := omega) only [bnd_e, grd_t, bdI_e, bdV_e, bokA, bokB, ni_inb, ni_cl, nI_add, pk_mul, li_2, li_3, li_4, li_5, li_6, li_7, li_8, li_9, li_10, li_11, li_12, li_13, li_14, li_15, li_16, li_17, li_18, li_19, li_20, li_21, li_22, li_23, li_24, li_25, li_26, li_27, li_28, li_29, li_30, li_31, li_32, li_33, li_34, li_35, li_36, li_37, li_38, li_39, li_40, li_41, li_42, li_43, li_44, li_45, li_46, li_47, li_48, li_49, li_50, li_51, li_52, li_53, li_54, li_55, li_56, li_57, li_58, li_59, li_60, li_61, li_63, li_70, li_96, li_97, li_99, li_100, li_101, li_102, li_120, li_122, li_126, li_200, li_255, li_423, li_555, li_999, li_1000, li_1111, li_2968, li_9999, li_10631, li_12345, li_14092, li_21470, li_65536, li_99233, nz_eq, n1_eq, n1_lt, n1_gt, n1_le, n1_ge, n1_sub, n1_add, nm_add, nz_add, nz_add2, z1_ne, z1_lt, z1_le, nI_1, pk_sub, nI_ltI, nI_leI, nI_eq, ni_neg, ni_nneg, ni_pos0, ni_nle0, ni_m1, gI_eq, gI_ne, xI_sJ, xI_sR, xR_sI, xR_sJ, xJ_sI, xJ_sR, gJ_eq, gJ_ne, gR_eq, gR_ne, if_true, if_false, ite_true, ite_false, not_true_eq_false, not_false_eq_true, decide_true, and_self, true_and, and_true, false_and, and_false, or_true, true_or, or_false, false_or, reduceIte, ne_eq]; exact hP.2.1, by simp (disch := omega) only [bnd_e, grd_t, bdI_e, bdV_e, bokA, bokB, ni_inb, ni_cl, nI_add, pk_mul, li_2, li_3, li_4, li_5, li_6, li_7, li_8, li_9, li_10, li_11, li_12, li_13, li_14, li_15, li_16, li_17, li_18, li_19, li_20, li_21, li_22, li_23, li_24, li_25, li_26, li_27, li_28, li_29, li_30, li_31, li_32, li_33, li_34, li_35, li_36, li_37, li_38, li_39, li_40, li_41, li_42, li_43, li_44, li_45, li_46, li_47, li_48, li_49, li_50, li_51, li_52, li_53, li_54, li_55, li_56, li_57, li_58, li_59, li_60, li_61, li_63, li_70, li_96, li_97, li_99, li_100, li_101, li_102, li_120, li_122, li_126, li_200, li_255, li_423, li_555, li_999, li_1000, li_1111, li_2968, li_9999, li_10631, li_12345, li_14092, li_21470, li_65536, li_99233, nz_eq, n1_eq, n1_lt, n1_gt, n1_le, n1_ge, n1_sub, n1_add, nm_add, nz_add, nz_add2, z1_ne, z1_lt, z1_le, nI_1, pk_sub, nI_ltI, nI_leI, nI_eq, ni_neg, ni_nneg, ni_pos0, ni_nle0, ni_m1, gI_eq, gI_ne, xI_sJ, xI_sR, xR_sI, xR_sJ, xJ_sI, xJ_sR, gJ_eq, gJ_ne, gR_eq, gR_ne, if_true, if_false, ite_true, ite_false, not_true_eq_false, not_false_eq_true, decide_true, and_self, true_and, and_true, false_and, and_false, or_true, true_or, or_false, false_or, reduceIte, ne_eq]; exact hP.2.2.1, by simp (disch := omega) only [bnd_e, grd_t, bdI_e, bdV_e, bokA, bokB, ni_inb, ni_cl, nI_add, pk_mul, li_2, li_3, li_4, li_5, li_6, li_7, li_8, li_9, li_10, li_11, li_12, li_13, li_14, li_15, li_16, li_17, li_18, li_19, li_20, li_21, li_22, li_23, li_24, li_25, li_26, li_27, li_28, li_29, li_30, li_31, li_32, li_33, li_34, li_35, li_36, li_37, li_38, li_39, li_40, li_41, li_42, li_43, li_44, li_45, li_46, li_47, li_48, li_49, li_50, li_51, li_52, li_53, li_54, li_55, li_56, li_57, li_58, li_59, li_60, li_61, li_63, li_70, li_96, li_97, li_99, li_100, li_101, li_102, li_120, li_122, li_126, li_200, li_255, li_423, li_555, li_999, li_1000, li_1111, li_2968, li_9999, li_10631, li_12345, li_14092, li_21470, li_65536, li_99233, nz_eq, n1_eq, n1_lt, n1_gt, n1_le, n1_ge, n1_sub, n1_add, nm_add, nz_add, nz_add2, z1_ne, z1_lt, z1_le, nI_1, pk_sub, nI_ltI, nI_leI, nI_eq, ni_neg, ni_nneg, ni_pos0, ni_nle0, ni_m1, gI_eq, gI_ne, xI_sJ, xI_sR, xR_sI, xR_sJ, xJ_sI, xJ_sR, gJ_eq, gJ_ne, gR_eq, gR_ne, if_true, if_false, ite_true, ite_false, not_true_eq_false, not_false_eq_true, decide_true, and_self, true_and, and_true, false_and, and_false, or_true, true_or, or_false, false_or, reduceIte, ne_eq]; exact hP.2.2.2.1, hP.2.2.2.2.1, fun h => by simp (disch := omega) only [bnd_e, grd_t, bdI_e, bdV_e, bokA, bokB, ni_inb, ni_cl, nI_add, pk_mul, li_2, li_3, li_4, li_5, li_6, li_7, li_8, li_9, li_10, li_11, li_12, li_13, li_14, li_15, li_16, li_17, li_18, li_19, li_20, li_21, li_22, li_23, li_24, li_25, li_26, li_27, li_28, li_29, li_30, li_31, li_32, li_33, li_34, li_35, li_36, li_37, li_38, li_39, li_40, li_41, li_42, li_43, li_44, li_45, li_46, li_47, li_48, li_49, li_50, li_51, li_52, li_53, li_54, li_55, li_56, li_57, li_58, li_59, li_60, li_61, li_63, li_70, li_96, li_97, li_99, li_100, li_101, li_102, li_120, li_122, li_126, li_200, li_255, li_423, li_555, li_999, li_1000, li_1111, li_2968, li_9999, li_10631, li_12345, li_14092, li_21470, li_65536, li_99233, nz_eq, n1_eq, n1_lt, n1_gt, n1_le, n1_ge, n1_sub, n1_add, nm_add, nz_add, nz_add2, z1_ne, z1_lt, z1_le, nI_1, pk_sub, nI_ltI, nI_leI, nI_eq, ni_neg, ni_nneg, ni_pos0, ni_nle0, ni_m1, gI_eq, gI_ne, xI_sJ, xI_sR, xR_sI, xR_sJ, xJ_sI, xJ_sR, gJ_eq, gJ_ne, gR_eq, gR_ne, if_true, if_false, ite_true, ite_false, not_true_eq_false, not_false_eq_true, decide_true, and_self, true_and, and_true, false_and, and_false, or_true, true_or, or_false, false_or, reduceIte, ne_eq]; exact hP.2.2.2.2.2 h⟩
      have hM2 : RdM T n d (sI mM 0 39 (nI (tkv d))) := ⟨⟨by simp (disch := omega) only [bnd_e, grd_t, bdI_e, bdV_e, bokA, bokB, ni_inb, ni_cl, nI_add, pk_mul, li_2, li_3, li_4, li_5, li_6, li_7, li_8, li_9, li_10, li_11, li_12, li_13, li_14, li_15, li_16, li_17, li_18, li_19, li_20, li_21, li_22, li_23, li_24, li_25, li_26, li_27, li_28, li_29, li_30, li_31, li_32, li_33, li_34, li_35, li_36, li_37, li_38, li_39, li_40, li_41, li_42, li_43, li_44, li_45, li_46, li_47, li_48, li_49, li_50, li_51, li_52, li_53, li_54, li_55, li_56, li_57, li_58, li_59, li_60, li_61, li_63, li_70, li_96, li_97, li_99, li_100, li_101, li_102, li_120, li_122, li_126, li_200, li_255, li_423, li_555, li_999, li_1000, li_1111, li_2968, li_9999, li_10631, li_12345, li_14092, li_21470, li_65536, li_99233, nz_eq, n1_eq, n1_lt, n1_gt, n1_le, n1_ge, n1_sub, n1_add, nm_add, nz_add, nz_add2, z1_ne, z1_lt, z1_le, nI_1, pk_sub, nI_ltI, nI_leI, nI_eq, ni_neg, ni_nneg, ni_pos0, ni_nle0, ni_m1, gI_eq, gI_ne, xI_sJ, xI_sR, xR_sI, xR_sJ, xJ_sI, xJ_sR, gJ_eq, gJ_ne, gR_eq, gR_ne, if_true, if_false, ite_true, ite_false, not_true_eq_false, not_false_eq_true, decide_true, and_self, true_and, and_true, false_and, and_false, or_true, true_or, or_false, false_or, reduceIte, ne_eq]; exact hM.1.1, fun i hi => by simp (disch := omega) only [bnd_e, grd_t, bdI_e, bdV_e, bokA, bokB, ni_inb, ni_cl, nI_add, pk_mul, li_2, li_3, li_4, li_5, li_6, li_7, li_8, li_9, li_10, li_11, li_12, li_13, li_14, li_15, li_16, li_17, li_18, li_19, li_20, li_21, li_22, li_23, li_24, li_25, li_26, li_27, li_28, li_29, li_30, li_31, li_32, li_33, li_34, li_35, li_36, li_37, li_38, li_39, li_40, li_41, li_42, li_43, li_44, li_45, li_46, li_47, li_48, li_49, li_50, li_51, li_52, li_53, li_54, li_55, li_56, li_57, li_58, li_59, li_60, li_61, li_63, li_70, li_96, li_97, li_99, li_100, li_101, li_102, li_120, li_122, li_126, li_200, li_255, li_423, li_555, li_999, li_1000, li_1111, li_2968, li_9999, li_10631, li_12345, li_14092, li_21470, li_65536, li_99233, nz_eq, n1_eq, n1_lt, n1_gt, n1_le, n1_ge, n1_sub, n1_add, nm_add, nz_add, nz_add2, z1_ne, z1_lt, z1_le, nI_1, pk_sub, nI_ltI, nI_leI, nI_eq, ni_neg, ni_nneg, ni_pos0, ni_nle0, ni_m1, gI_eq, gI_ne, xI_sJ, xI_sR, xR_sI, xR_sJ, xJ_sI, xJ_sR, gJ_eq, gJ_ne, gR_eq, gR_ne, if_true, if_false, ite_true, ite_false, not_true_eq_false, not_false_eq_true, decide_true, and_self, true_and, and_true, false_and, and_false, or_true, true_or, or_false, false_or, reduceIte, ne_eq]; exact hM.1.2 i hi⟩, by simp (disch := omega) only [bnd_e, grd_t, bdI_e, bdV_e, bokA, bokB, ni_inb, ni_cl, nI_add, pk_mul, li_2, li_3, li_4, li_5, li_6, li_7, li_8, li_9, li_10, li_11, li_12, li_13, li_14, li_15, li_16, li_17, li_18, li_19, li_20, li_21, li_22, li_23, li_24, li_25, li_26, li_27, li_28, li_29, li_30, li_31, li_32, li_33, li_34, li_35, li_36, li_37, li_38, li_39, li_40, li_41, li_42, li_43, li_44, li_45, li_46, li_47, li_48, li_49, li_50, li_51, li_52, li_53, li_54, li_55, li_56, li_57, li_58, li_59, li_60, li_61, li_63, li_70, li_96, li_97, li_99, li_100, li_101, li_102, li_120, li_122, li_126, li_200, li_255, li_423, li_555, li_999, li_1000, li_1111, li_2968, li_9999, li_10631, li_12345, li_14092, li_21470, li_65536, li_99233, nz_eq, n1_eq, n1_lt, n1_gt, n1_le, n1_ge, n1_sub, n1_add, nm_add, nz_add, nz_add2, z1_ne, z1_lt, z1_le, nI_1, pk_sub, nI_ltI, nI_leI, nI_eq, ni_neg, ni_nneg, ni_pos0, ni_nle0, ni_m1, gI_eq, gI_ne, xI_sJ, xI_sR, xR_sI, xR_sJ, xJ_sI, xJ_sR, gJ_eq, gJ_ne, gR_eq, gR_ne, if_true, if_false, ite_true, ite_false, not_true_eq_false, not_false_eq_true, decide_true, and_self, true_and, and_true, false_and, and_false, or_true, true_or, or_false, false_or, reduceIte, ne_eq]; exact hM.2.1, by simp (disch := omega) only [bnd_e, grd_t, bdI_e, bdV_e, bokA, bokB, ni_inb, ni_cl, nI_add, pk_mul, li_2, li_3, li_4, li_5, li_6, li_7, li_8, li_9, li_10, li_11, li_12, li_13, li_14, li_15, li_16, li_17, li_18, li_19, li_20, li_21, li_22, li_23, li_24, li_25, li_26, li_27, li_28, li_29, li_30, li_31, li_32, li_33, li_34, li_35, li_36, li_37, li_38, li_39, li_40, li_41, li_42, li_43, li_44, li_45, li_46, li_47, li_48, li_49, li_50, li_51, li_52, li_53, li_54, li_55, li_56, li_57, li_58, li_59, li_60, li_61, li_63, li_70, li_96, li_97, li_99, li_100, li_101, li_102, li_120, li_122, li_126, li_200, li_255, li_423, li_555, li_999, li_1000, li_1111, li_2968, li_9999, li_10631, li_12345, li_14092, li_21470, li_65536, li_99233, nz_eq, n1_eq, n1_lt, n1_gt, n1_le, n1_ge, n1_sub, n1_add, nm_add, nz_add, nz_add2, z1_ne, z1_lt, z1_le, nI_1, pk_sub, nI_ltI, nI_leI, nI_eq, ni_neg, ni_nneg, ni_pos0, ni_nle0, ni_m1, gI_eq, gI_ne, xI_sJ, xI_sR, xR_sI, xR_sJ, xJ_sI, xJ_sR, gJ_eq, gJ_ne, gR_eq, gR_ne, if_true, if_false, ite_true, ite_false, not_true_eq_false, not_false_eq_true, decide_true, and_self, true_and, and_true, false_and, and_false, or_true, true_or, or_false, false_or, reduceIte, ne_eq]; exact hM.2.2.1, by simp (disch := omega) only [bnd_e, grd_t, bdI_e, bdV_e, bokA, bokB, ni_inb, ni_cl, nI_add, pk_mul, li_2, li_3, li_4, li_5, li_6, li_7, li_8, li_9, li_10, li_11, li_12, li_13, li_14, li_15, li_16, li_17, li_18, li_19, li_20, li_21, li_22, li_23, li_24, li_25, li_26, li_27, li_28, li_29, li_30, li_31, li_32, li_33, li_34, li_35, li_36, li_37, li_38, li_39, li_40, li_41, li_42, li_43, li_44, li_45, li_46, li_47, li_48, li_49, li_50, li_51, li_52, li_53, li_54, li_55, li_56, li_57, li_58, li_59, li_60, li_61, li_63, li_70, li_96, li_97, li_99, li_100, li_101, li_102, li_120, li_122, li_126, li_200, li_255, li_423, li_555, li_999, li_1000, li_1111, li_2968, li_9999, li_10631, li_12345, li_14092, li_21470, li_65536, li_99233, nz_eq, n1_eq, n1_lt, n1_gt, n1_le, n1_ge, n1_sub, n1_add, nm_add, nz_add, nz_add2, z1_ne, z1_lt, z1_le, nI_1, pk_sub, nI_ltI, nI_leI, nI_eq, ni_neg, ni_nneg, ni_pos0, ni_nle0, ni_m1, gI_eq, gI_ne, xI_sJ, xI_sR, xR_sI, xR_sJ, xJ_sI, xJ_sR, gJ_eq, gJ_ne, gR_eq, gR_ne, if_true, if_false, ite_true, ite_false, not_true_eq_false, not_false_eq_true, decide_true, and_self, true_and, and_true, false_and, and_false, or_true, true_or, or_false, false_or, reduceIte, ne_eq]; exact hM.2.2.2.1, hM.2.2.2.2.1, fun h => by simp (disch := omega) only [bnd_e, grd_t, bdI_e, bdV_e, bokA, bokB, ni_inb, ni_cl, nI_add, pk_mul, li_2, li_3, li_4, li_5, li_6, li_7, li_8, li_9, li_10, li_11, li_12, li_13, li_14, li_15, li_16, li_17, li_18, li_19, li_20, li_21, li_22, li_23, li_24, li_25, li_26, li_27, li_28, li_29, li_30, li_31, li_32, li_33, li_34, li_35, li_36, li_37, li_38, li_39, li_40, li_41, li_42, li_43, li_44, li_45, li_46, li_47, li_48, li_49, li_50, li_51, li_52, li_53, li_54, li_55, li_56, li_57, li_58, li_59, li_60, li_61, li_63, li_70, li_96, li_97, li_99, li_100, li_101, li_102, li_120, li_122, li_126, li_200, li_255, li_423, li_555, li_999, li_1000, li_1111, li_2968, li_9999, li_10631, li_12345, li_14092, li_21470, li_65536, li_99233, nz_eq, n1_eq, n1_lt, n1_gt, n1_le, n1_ge, n1_sub, n1_add, nm_add, nz_add, nz_add2, z1_ne, z1_lt, z1_le, nI_1, pk_sub, nI_ltI, nI_leI, nI_eq, ni_neg, ni_nneg, ni_pos0, ni_nle0, ni_m1, gI_eq, gI_ne, xI_sJ, xI_sR, xR_sI, xR_sJ, xJ_sI, xJ_sR, gJ_eq, gJ_ne, gR_eq, gR_ne, if_true, if_false, ite_true, ite_false, not_true_eq_false, not_false_eq_true, decide_true, and_self, true_and, and_true, false_and, and_false, or_true, true_or, or_false, false_or, reduceIte, ne_eq]; exact hM.2.2.2.2.2 h⟩
      obtain ⟨nP, eP, h1, h2⟩ := adv_P hT ok hP2
      obtain ⟨nM, eM, h3, h4⟩ := adv_M hT ok hM2
      have tok := tk_ok (T := T) ok.2.1
      have kb := ok.2.2.2.2.1 (by omega)
      exact ⟨(1, nP), (1, nM), by rw [eP, bdV_e], by rw [eM, bdV_e], ((Kp.refl mP).sI _ (by unfold WRP; omega)).trans (h2.mono (fun a k q => by unfold WRP; omega)), ((Kp.refl mM).sI _ (by unfold WRM; omega)).trans (h4.mono (fun a k q => by unfold WRM; omega)), Or.inr ⟨rfl, rfl, _, tok.1, by omega, h1, h3, ⟨tkv d, by omega, y3, (h2.1 _ _ (by omega)).trans (gI_eq _ _ _ _ _ _ rfl rfl), (h4.1 _ _ (by omega)).trans (gI_eq _ _ _ _ _ _ rfl rfl)⟩, fun k hk => (h4.1 _ _ (by omega)).trans (gI_ne _ _ _ _ _ _ (by omega))⟩⟩
  · have nz : ¬ ctk T d = 100 := fun q => z (cn.mp q)
    have e1 : f_X5_wrong 1 mP = some (0, sI mP 3 2 (nI (1 + 16 * tkb d))) := wrongE hP 1
    have e2 : f_X12_fails 1 mM = some (0, sI mM 0 9 (nI (1 + 16 * tkb d))) := failsE hM 1
    simp (disch := omega) only [hP.2.2.2.1, nz, hM.2.2.2.1, z, e1, e2, bnd_e, grd_t, bdI_e, bdV_e, bokA, bokB, ni_inb, ni_cl, nI_add, pk_mul, li_2, li_3, li_4, li_5, li_6, li_7, li_8, li_9, li_10, li_11, li_12, li_13, li_14, li_15, li_16, li_17, li_18, li_19, li_20, li_21, li_22, li_23, li_24, li_25, li_26, li_27, li_28, li_29, li_30, li_31, li_32, li_33, li_34, li_35, li_36, li_37, li_38, li_39, li_40, li_41, li_42, li_43, li_44, li_45, li_46, li_47, li_48, li_49, li_50, li_51, li_52, li_53, li_54, li_55, li_56, li_57, li_58, li_59, li_60, li_61, li_63, li_70, li_96, li_97, li_99, li_100, li_101, li_102, li_120, li_122, li_126, li_200, li_255, li_423, li_555, li_999, li_1000, li_1111, li_2968, li_9999, li_10631, li_12345, li_14092, li_21470, li_65536, li_99233, nz_eq, n1_eq, n1_lt, n1_gt, n1_le, n1_ge, n1_sub, n1_add, nm_add, nz_add, nz_add2, z1_ne, z1_lt, z1_le, nI_1, pk_sub, nI_ltI, nI_leI, nI_eq, ni_neg, ni_nneg, ni_pos0, ni_nle0, ni_m1, gI_eq, gI_ne, xI_sJ, xI_sR, xR_sI, xR_sJ, xJ_sI, xJ_sR, gJ_eq, gJ_ne, gR_eq, gR_ne, if_true, if_false, ite_true, ite_false, not_true_eq_false, not_false_eq_true, decide_true, and_self, true_and, and_true, false_and, and_false, or_true, true_or, or_false, false_or, reduceIte, ne_eq]
    exact (S2_some _ _ _).mpr (ouF hT ok (by omega))
theorem takeVB {T : Nat → Nat} {n : Nat} {d : Tk} {mP mM : Mm} {k lo hi : Nat} {c : Int64} (hT : TpOK T n) (ok : TkOK T n d) (hP : RdP T n d mP) (hM : RdM T n d mM) (hk : k < 29) (hc : c = nJ (encR 27 (wds.getD k []))) (hl : lo ≤ 61) (hh : hi ≤ 999) : S2 (f_X5_takeValue (nI k) (nI lo) (nI hi) mP) (f_X12_needsBoth c (nI lo) (nI hi) mM) (Ou T n (tkb d) (fun a b => (∃ v, lo ≤ v ∧ v ≤ hi ∧ gI a 3 1 = nI v ∧ gI b 0 39 = nI v) ∧ ∀ k, 40 ≤ k → gI b 0 k = gI mM 0 k) mP mM) := by
  obtain ⟨q, q', e1, e2, h1, h2, h3⟩ := takeWB hT ok hP hM hk hc
  unfold f_X5_takeValue f_X12_needsBoth
  rw [e1, e2, bdI_e, bdI_e]
  rcases h3 with ⟨z1, z2, z3, z4⟩ | ⟨z1, z2, d', ok', lt', r1, r2, g1, g2⟩
  · rw [if_pos z1, if_pos z2]
    exact ⟨(0, q.2), (0, q'.2), rfl, rfl, h1, h2, Or.inl ⟨rfl, rfl, z3, z4⟩⟩
  · rw [if_neg (by rw [z1]; decide), if_neg (by rw [z2]; decide)]
    obtain ⟨r, r', e3, e4, h4⟩ := takeNB (lo := lo) (hi := hi) hT ok' r1 r2 hl hh
    rw [e3, e4, bdI_e, bdI_e]
    have h5 : Ou T n (tkb d) (fun a b => (∃ v, lo ≤ v ∧ v ≤ hi ∧ gI a 3 1 = nI v ∧ gI b 0 39 = nI v) ∧ ∀ k, 40 ≤ k → gI b 0 k = gI mM 0 k) mP mM r r' := ⟨h1.trans h4.1, h2.trans h4.2.1, h4.2.2.imp id (fun ⟨a1, a2, d2, a3, a4, a5, a6, a7, a8⟩ => ⟨a1, a2, d2, a3, by omega, a5, a6, a7, fun k hk => (a8 k hk).trans (g2 k (by omega))⟩)⟩
    rcases h5.2.2 with ⟨z1, z2, z3⟩ | ⟨z1, z2, z3⟩
    · rw [if_pos z1, if_pos z2]
      exact ⟨(0, r.2), (0, r'.2), rfl, rfl, h5.1, h5.2.1, Or.inl ⟨rfl, rfl, z3⟩⟩
    · rw [if_neg (by rw [z1]; decide), if_neg (by rw [z2]; decide)]
      exact ⟨(1, r.2), (1, r'.2), rfl, rfl, h5.1, h5.2.1, Or.inr ⟨rfl, rfl, z3⟩⟩
