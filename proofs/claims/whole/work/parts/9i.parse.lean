/-! the levels -/
theorem addT {b : Nat} {x : Int32} {m : Mm} (l1 : Lp.2.1 (b + 1) = 1000) : ∃ n, f_X2_add b x m = some n ∧ Kp (fun a k => (a = b ∧ k = 3) ∨ a = b + 1) m n := by
  unfold f_X2_add
  by_cases h1 : gI m b 3 < 0
  · rw [if_pos h1]
    exact ⟨m, rfl, Kp.refl m⟩
  · rw [if_neg h1]
    by_cases h2 : (1000 : Int32) ≤ gI m b 3
    · rw [if_pos h2]
      exact ⟨m, rfl, Kp.refl m⟩
    · rw [if_neg h2]
      have h3 : (gI m b 3).toNatClampNeg < 1000 := by
        have := mt Int32.le_iff_toInt_le.mpr h2
        have e : (1000 : Int32).toInt = 1000 := by decide
        show (gI m b 3).toInt.toNat < 1000
        omega
      have ib : inb (gI m b 3) (Lp.2.1 (b + 1)) = true := decide_eq_true (fun q => q.elim h1 (fun q => by rw [l1] at q; omega))
      rw [ib]
      exact ⟨_, rfl, ((Kp.refl m).sI _ (Or.inr rfl)).sI _ (Or.inl ⟨rfl, rfl⟩)⟩
def GdX (T : Nat → Nat) (n l b cb δ e : Nat) (MS : List Nat → ((Nat → Int32) → Int32) → Prop) (vb : Nat) (En : Tk → Mm → Prop) (d : Tk) (c : List Int32) (g : List Nat) (mP mM : Mm) (cl : Option (Int32 × Mm)) (lm : Nat → Option (Int32 × Mm)) : Prop := ∃ nP nM d' cP gM v t, cl = some (1, nP) ∧ (∀ N, lm (N + t) = rdL N (nI δ) 0 nM) ∧ Cor T n l b cb d d' c g cP gM v vb nP nM ∧ t ≤ tkb d' - tkb d ∧ MS gM v ∧ En d' nM ∧ Kp (WLp b) mP nP ∧ Kp (WMl (cb + g.length) δ e) mM nM
def OpT (T : Nat → Nat) (n l b δ e : Nat) (MS : List Nat → ((Nat → Int32) → Int32) → Prop) (vb : Nat) (En : Tk → Mm → Prop) (κ : Mm → Option (Int32 × Mm)) : Prop := ∀ cb d c g mP mM, PJ T n l b cb d c g mP mM → (δ = 0 ∨ ¬ gI mM 16 δ = 1) → (e ≤ δ → gI mM 17 δ = 0) → Bad n b (cb + g.length) δ e d mP mM (κ mP) (fun N => rdL N (nI δ) 1 mM) ∨ GdX T n l b cb δ e MS vb En d c g mP mM (κ mP) (fun N => rdL N (nI δ) 1 mM)
theorem popN_o {O : Nat → Int32} {δ : Nat} (h : δ = 0 ∨ ¬ O δ = 1) : popN O δ = δ := by
  cases δ with
  | zero => rfl
  | succ d =>
    show (if O (d + 1) = 1 then _ else _) = _
    rw [if_neg (h.resolve_left (Nat.succ_ne_zero _))]
/-- an operator of the level stands at the token -/
def Opr (T : Nat → Nat) (n δ e L : Nat) (x : Int32) (y : Nat) (d : Tk) (p : Nat) (m : Mm) : Prop := (∀ mP, f_X5_stepOf (nI (ctk T d)) (nI L) mP = some (x, mP)) ∧ ¬ x = 0 ∧ (¬ 0 ≤ x ∧ ¬ -11 < x ∧ ¬ x = -11) ∧ 1 ≤ y ∧ y ≤ 20000 ∧ tkK d ≠ 0 ∧ ∃ m1 m', (∀ k : Int32 → Int32 → Mm → Option (Int32 × Mm), f_X12_reads_B11 k (nI δ) 0 m = k (nI δ) 1 m') ∧ RdM T n (tk T n (tke d)) m' ∧ Kp (fun a k => a = 0 ∧ 4 ≤ k ∧ k ≤ 8) m1 m' ∧ (∀ k, gI m1 15 k = if k = p then nI y else gI m 15 k) ∧ gI m1 0 24 = nI (p + 1) ∧ gI m1 0 25 = gI m 0 25 ∧ (L = 0 → gI m1 17 δ = 0) ∧ (L = 1 → gI m1 17 δ = 1) ∧ Kp (WMl p δ e) m m1
section
variable {κe : Nat → Int32 → Int32 → Mm → Option (Int32 × Mm)} {κp : Nat → Int32 → Mm → Option (Int32 × Mm)} {κ : Mm → Option (Int32 × Mm)} {b δ L : Nat}
theorem cBody {k42 : Int32 → Int32 → Int32 → Mm → Option (Int32 × Mm)} {lim j t : Nat} {x : Int32} {m m16 : Mm} (hκ : ∀ m f, (if (3 : Int32) ≤ nI L then bdI (κp b (nI δ) m) f else bdI (κe b (nI δ) (nI L + 1) m) f) = (bdI (κ m) f : Option (Int32 × Mm))) (hl : lim ≤ 1000) (hj : j < lim) (ht : gI m 1 2 = nI t) (hs : f_X5_stepOf (nI t) (nI L) m = some (x, m)) (hx : ¬ x = 0) (ha : f_X9_advance m = some m16) : f_X5_expression_B42 κe κp b (nI δ) (nI L) k42 1 (nI lim) (nI j) m = bdI (κ m16) fun x18 m17 => bdV (f_X2_add b x m17) fun m26 => k42 x18 (nI lim) (nI (j + 1)) m26 := by
  have h1 : ¬ nI lim ≤ nI j := fun q => absurd ((nI_leI (by omega) (by omega)).mp q) (by omega)
  unfold f_X5_expression_B42 f_X5_expression_J104
  rw [if_neg h1, if_neg (show ¬ (1 : Int32) = 0 by decide), ht, hs, bdI_e, if_pos hx, ha, bdV_e, hκ]
  have e : nI j + 1 = nI (j + 1) := by simp (disch := omega) only [bnd_e, grd_t, bdI_e, bdV_e, bokA, bokB, ni_inb, ni_cl, nI_add, pk_mul, li_2, li_3, li_4, li_5, li_6, li_7, li_8, li_9, li_10, li_11, li_12, li_13, li_14, li_15, li_16, li_17, li_18, li_19, li_20, li_21, li_22, li_23, li_24, li_25, li_26, li_27, li_28, li_29, li_30, li_31, li_32, li_33, li_34, li_35, li_36, li_37, li_38, li_39, li_40, li_41, li_42, li_43, li_44, li_45, li_46, li_47, li_48, li_49, li_50, li_51, li_52, li_53, li_54, li_55, li_56, li_57, li_58, li_59, li_60, li_61, li_63, li_70, li_96, li_97, li_99, li_100, li_101, li_102, li_120, li_122, li_126, li_200, li_255, li_423, li_555, li_999, li_1000, li_1111, li_2968, li_9999, li_10631, li_12345, li_14092, li_21470, li_65536, li_99233, nz_eq, n1_eq, n1_lt, n1_gt, n1_le, n1_ge, n1_sub, n1_add, nm_add, nz_add, nz_add2, z1_ne, z1_lt, z1_le, nI_1, pk_sub, nI_ltI, nI_leI, nI_eq, ni_neg, ni_nneg, ni_pos0, ni_nle0, ni_m1, gI_eq, gI_ne, xI_sJ, xI_sR, xR_sI, xR_sJ, xJ_sI, xJ_sR, gJ_eq, gJ_ne, gR_eq, gR_ne, if_true, if_false, ite_true, ite_false, not_true_eq_false, not_false_eq_true, decide_true, and_self, true_and, and_true, false_and, and_false, or_true, true_or, or_false, false_or, reduceIte, ne_eq]
  simp only [bnd_e, e]
theorem cStop {k42 : Int32 → Int32 → Int32 → Mm → Option (Int32 × Mm)} {lim j t : Nat} {m : Mm} (hl : lim ≤ 1000) (hj : j < lim) (ht : gI m 1 2 = nI t) (hs : f_X5_stepOf (nI t) (nI L) m = some (0, m)) : f_X5_expression_B42 κe κp b (nI δ) (nI L) k42 1 (nI lim) (nI j) m = some (1, m) := by
  have h1 : ¬ nI lim ≤ nI j := fun q => absurd ((nI_leI (by omega) (by omega)).mp q) (by omega)
  unfold f_X5_expression_B42
  rw [if_neg h1, if_neg (show ¬ (1 : Int32) = 0 by decide), ht, hs, bdI_e, if_neg (fun q => q rfl)]
  rfl
theorem cLim {k42 : Int32 → Int32 → Int32 → Mm → Option (Int32 × Mm)} {j : Nat} {m : Mm} : f_X5_expression_B42 κe κp b (nI δ) (nI L) k42 1 (nI j) (nI j) m = some (1, m) := by
  unfold f_X5_expression_B42
  rw [if_pos (Int32.le_refl _)]
  rfl
theorem cZero {k42 : Int32 → Int32 → Int32 → Mm → Option (Int32 × Mm)} {x y : Int32} {m : Mm} : f_X5_expression_B42 κe κp b (nI δ) (nI L) k42 0 x y m = some (0, m) := by
  unfold f_X5_expression_B42
  by_cases h : x ≤ y
  · rw [if_pos h]; rfl
  · rw [if_neg h, if_pos rfl]; rfl
end
