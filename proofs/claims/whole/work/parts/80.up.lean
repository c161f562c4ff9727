/-! days in a row -/
def tuW (wr : Nat → Nat) (k : Nat) : Nat := if wr k = 9 then 9 else 0
theorem tuW_b (wr : Nat → Nat) (k : Nat) : tuW wr k ≤ 9 := by unfold tuW; split <;> omega
def rowAt (h : Nat) (m : Mm) (i : Nat) : Int32 := if i < 5 then gI m h (i + 1) else gI m (h + 1) (i - 5)
theorem rowAt_w (h : Nat) (m : Mm) (k : Nat) : rowAt h m (5 + k) = gI m (h + 1) k := by
  unfold rowAt
  rw [if_neg (by omega), Nat.add_sub_cancel_left]
theorem rowAt_P (h : Nat) (m : Mm) : RowP h (rowAt h m) m := ⟨rfl, rfl, rfl, rfl, rfl, fun k _ => (rowAt_w h m k).symm⟩
theorem tuneT {e f t : Nat} {wr : Nat → Nat} {m : Mm} {pr : Int32} (he : 1 ≤ e ∧ e ≤ 30) (hf : f ≤ 59) (ht : t ≤ 60) (hw : ∀ k, k < 12 → wr k ≤ 9) (r : RwP 66 f t wr m) (h2 : gI m 66 2 = nI e) : Sat (f_X6_tuneUp 66 pr m) (fun q => RwP 66 f t (tuW wr) q.2 ∧ gI q.2 66 2 = nI e ∧ gI q.2 66 5 = gI m 66 5 + pr ∧ Kp (fun a _ => a = 66 ∨ a = 67) m q.2) := by
  have ok : RowOK (rowAt 66 m) := ⟨⟨e, he.1, he.2, h2⟩, ⟨f, hf, r.1⟩, ⟨t, ht, r.2.1⟩, fun k hk => ⟨wr k, hw k hk, (rowAt_w 66 m k).trans (r.2.2 k hk)⟩⟩
  refine (tuneUpP ok (rowAt_P 66 m) (by rfl)).mono ?_
  intro q ⟨_, a2, a3⟩
  refine ⟨⟨a2.2.2.1.trans r.1, a2.2.2.2.1.trans r.2.1, fun k hk => ?_⟩, a2.2.1.trans h2, a2.2.2.2.2.1.trans rfl, a3⟩
  rw [a2.2.2.2.2.2 k hk]
  unfold tuS
  rw [if_neg (by omega), if_pos (by omega), rowAt_w, r.2.2 k hk]
  unfold tuW
  have := hw k hk
  by_cases z : wr k = 9
  · rw [z, if_pos rfl, if_pos rfl]
  · rw [if_neg (fun q => z ((nI_eq (by omega) (by decide)).mp q)), if_neg z]
    rfl
theorem mendT {e f t : Nat} {wr : Nat → Nat} {m : Mm} {pr : Int32} (hw : ∀ k, k < 12 → wr k ≤ 9) (r : RwM e f t wr m) (hp : gI m 2 6 = pr) : Sat (f_X12_mends m) (fun q => RwM e f t (tuW wr) q.2 ∧ gI q.2 35 4 = gI m 35 4 + pr ∧ Kp (fun a k => a = 35 ∧ k < 17) m q.2) := by
  have rr : RowM 35 0 (fun i => gI m 35 i) m := fun i _ => by rw [Nat.zero_add]
  refine (mendsM rr hp).mono ?_
  intro q ⟨_, a2, a3⟩
  refine ⟨⟨(a2.at0 (by decide)).trans r.1, (a2.at0 (by decide)).trans r.2.1, (a2.at0 (by decide)).trans r.2.2.1, fun k hk => ?_⟩, (a2.at0 (by decide)).trans rfl, a3⟩
  rw [a2.at0 (by omega)]
  show (if 5 + k = 4 then gI m 35 4 + pr else if 5 ≤ 5 + k then (if gI m 35 (5 + k) = nI 9 then gI m 35 (5 + k) else 0) else gI m 35 (5 + k)) = _
  rw [if_neg (by omega), if_pos (by omega), r.2.2.2 k hk]
  unfold tuW
  have := hw k hk
  by_cases z : wr k = 9
  · rw [z, if_pos rfl, if_pos rfl]
  · rw [if_neg (fun q => z ((nI_eq (by omega) (by decide)).mp q)), if_neg z]
    rfl
/-- the wear ahead of the day, mended or not; behind so many days; the joys of them -/
def mdW (at' n : Nat) (wr : Nat → Nat) : Nat → Nat := if n = at' then tuW wr else wr
noncomputable def rnW (E : Ev) (wr : Nat → Nat) (at' : Nat) : Nat → (Nat → Nat)
  | 0 => wr
  | n + 1 => dwr (dyD E (mdW at' n (rnW E wr at' n)))
noncomputable def rnJ (E : Ev) (wr : Nat → Nat) (at' : Nat) : Nat → Int32
  | 0 => 0
  | n + 1 => rnJ E wr at' n + djy (dyD E (mdW at' n (rnW E wr at' n)))
theorem mdW_b {wr : Nat → Nat} (at' n : Nat) (h : ∀ k, k < 12 → wr k ≤ 9) : ∀ k, k < 12 → mdW at' n wr k ≤ 9 := by
  intro k hk
  unfold mdW
  split
  · exact tuW_b wr k
  · exact h k hk
theorem rnW_b {E : Ev} (hE : EvOK E) {wr : Nat → Nat} (at' : Nat) (h : ∀ k, k < 12 → wr k ≤ 9) : ∀ n k, k < 12 → rnW E wr at' n k ≤ 9
  | 0, k, hk => h k hk
  | n + 1, k, hk => dwr_ok hE (mdW_b at' n (rnW_b hE at' h n)) k hk
/-- a day more, of the one -/
theorem passN {E : Ev} {st : Nat} {m : Mm} {wr : Nat → Nat} (hE : EvOK E) (hC : CfOK (eC E)) (cx : CxP (eC E) (eJ E) (eW E) st m) (pr : PrP E st m) (r : RwP 66 (eF E) (eT E) wr m) (hwr : ∀ k, k < 12 → wr k ≤ 9) : Sat (f_X1_pass 66 (eX E) m) (fun n => gI n 82 10 = djy (dyD E wr) ∧ gI n 82 11 = dbn (dyD E wr) ∧ PrP E st n ∧ RwP 66 (eF E) (eT E) (dwr (dyD E wr)) n ∧ CxP (eC E) (eJ E) (eW E) st n ∧ (∀ k, gI n 66 k = gI m 66 k) ∧ (∀ k, gI n 165 k = gI m 165 k) ∧ (∀ k, gJ n 0 k = gJ m 0 k) ∧ KT st m n) := by
  refine (passT hE (Or.inr rfl) cx pr r hwr).mono ?_
  intro n ⟨a1, a2, a3, a4⟩
  have hst := cx.1
  have kt : KT st m n := a4.kt (fun a k q => by unfold WP at q; unfold WT; omega)
  exact ⟨a1.2.2.2.2.2.1, a1.2.2.2.2.2.2.1, a2, a3, cx.keep hC kt, fun k => a4.1 _ _ (by unfold WP; omega), fun k => a4.1 _ _ (by unfold WP; omega), fun k => a4.2.1 _ _ (by unfold WP; omega), kt⟩
def WMq (a k : Nat) : Prop := (a = 0 ∧ (k = 63 ∨ k = 64)) ∨ (18 ≤ a ∧ a ≤ 27) ∨ (42 ≤ a ∧ a ≤ 46) ∨ (a = 35 ∧ k < 17) ∨ a = 41
def WTn (a k : Nat) : Prop := (a = 0 ∧ (k = 63 ∨ k = 64)) ∨ (18 ≤ a ∧ a ≤ 27) ∨ (42 ≤ a ∧ a ≤ 46) ∨ a = 41 ∨ a = 37 ∨ a = 36
theorem WTn_vm {a k : Nat} (h : VM a k) : ¬ WTn a k := by
  unfold VM at h
  unfold WTn
  omega
def Fr (W : Nat → Nat → Prop) (m n : Mm) : Prop := ∀ a k, ¬ W a k → gI n a k = gI m a k
theorem Fr.refl {W : Nat → Nat → Prop} (m : Mm) : Fr W m m := fun _ _ _ => rfl
theorem Fr.trans {W : Nat → Nat → Prop} {m n o : Mm} (h : Fr W m n) (g : Fr W n o) : Fr W m o := fun a k q => (g a k q).trans (h a k q)
theorem Fr.cx {C : Nat → Nat → Nat} {jP wP : List Int32} {m n : Mm} (hC : CfOK C) (q : CxM C jP wP m) (h : Fr WMq m n) : CxM C jP wP n := q.keep hC (fun a k r => h a k (by unfold vM0 at r; unfold WMq; omega))
/-- a day more, of the other -/
theorem passesN {E : Ev} {m : Mm} {wr : Nat → Nat} (hE : EvOK E) (hC : CfOK (eC E)) (cx : CxM (eC E) (eJ E) (eW E) m) (r : RwM (eE E) (eF E) (eT E) wr m) (hwr : ∀ k, k < 12 → wr k ≤ 9) (hA : ∀ p, p < eP E → eA E p = eC E 8 p) (hx : gI m 0 62 = eX E) : Sat (f_X12_passes m) (fun q => q.1 = djy (dyD E wr) ∧ RwM (eE E) (eF E) (eT E) (dwr (dyD E wr)) q.2 ∧ CxM (eC E) (eJ E) (eW E) q.2 ∧ gI q.2 0 62 = eX E ∧ gI q.2 35 4 = gI m 35 4 ∧ Fr WMq m q.2) := by
  refine (passesT hE cx r hwr hA hx).mono ?_
  intro q ⟨a1, a2, a3, a4, a5⟩
  have fr : Fr WMq m q.2 := fun a k h => a5.1 a k (by unfold WMq at h; unfold WMp WMd; omega)
  exact ⟨a1, a3, fr.cx hC cx, (fr _ _ (by unfold WMq; omega)).trans hx, a5.1 _ _ (by unfold WMp WMd; omega), fr⟩
theorem Fr.back {m m' n : Mm} {S : Nat → Int32} (rm : RowM 35 0 S m) (f1 : Fr (fun a k => WMq a k ∨ (a = 36 ∧ k < 17)) m m') (c1 : RowM 35 0 S n) (c2 : Kp (fun a k => a = 35 ∧ 0 ≤ k ∧ k < 0 + 17) m' n) : Fr WTn m n := by
  intro a k h
  by_cases z : a = 35 ∧ k < 17
  · obtain ⟨rfl, z2⟩ := z
    exact (c1.at0 z2).trans (rm.at0 z2).symm
  · rw [c2.1 _ _ (by omega)]
    exact f1 a k (by unfold WTn at h; unfold WMq; omega)
/-! 22: lasts -/
def lsR (w : Nat → Nat) : Nat → Nat → Int32
  | 0, _ => -1
  | n + 1, i => if w i < 9 then lsR w n (i + 1) else nI i
theorem st_lasts : St_lasts Rel := by
  intro a mP mM ⟨C, st, S, hR⟩
  have hK : RelC C st S mP (sI mM 0 0 0) := hR.keep (SaP.refl _ _) (SaM.thr _ _)
  have no : (a < 0 ∨ nI 12 ≤ a) → ∃ (r : Int32) (mP2 mM2 : Mm), f_X11_lasts a mP = some (r, mP2) ∧ f_X12_lasts a mM = some (r, mM2) ∧ Rel mP2 mM2 := by
    intro h
    refine ⟨-1, mP, sI mM 0 0 0, ?_, ?_, ⟨C, st, S, hK⟩⟩
    · unfold f_X11_lasts
      simp (disch := omega) only [isKeyP_no h, bnd_e, grd_t, bdI_e, bdV_e, bokA, bokB, ni_inb, ni_cl, nI_add, pk_mul, li_2, li_3, li_4, li_5, li_6, li_7, li_8, li_9, li_10, li_11, li_12, li_13, li_14, li_15, li_16, li_17, li_18, li_19, li_20, li_21, li_22, li_23, li_24, li_25, li_26, li_27, li_28, li_29, li_30, li_31, li_32, li_33, li_34, li_35, li_36, li_37, li_38, li_39, li_40, li_41, li_42, li_43, li_44, li_45, li_46, li_47, li_48, li_49, li_50, li_51, li_52, li_53, li_54, li_55, li_56, li_57, li_58, li_59, li_60, li_61, li_63, li_70, li_96, li_97, li_99, li_100, li_101, li_102, li_120, li_122, li_126, li_200, li_255, li_423, li_555, li_999, li_1000, li_1111, li_2968, li_9999, li_10631, li_12345, li_14092, li_21470, li_65536, li_99233, nz_eq, n1_eq, n1_lt, n1_gt, n1_le, n1_ge, n1_sub, n1_add, nm_add, nz_add, nz_add2, z1_ne, z1_lt, z1_le, nI_1, pk_sub, nI_ltI, nI_leI, nI_eq, ni_neg, ni_nneg, ni_pos0, ni_nle0, ni_m1, gI_eq, gI_ne, xI_sJ, xI_sR, xR_sI, xR_sJ, xJ_sI, xJ_sR, gJ_eq, gJ_ne, gR_eq, gR_ne, if_true, if_false, ite_true, ite_false, not_true_eq_false, not_false_eq_true, decide_true, and_self, true_and, and_true, false_and, and_false, or_true, true_or, or_false, false_or, reduceIte, ne_eq]
    · unfold f_X12_lasts
      simp (disch := omega) only [isKeyM_no h, bnd_e, grd_t, bdI_e, bdV_e, bokA, bokB, ni_inb, ni_cl, nI_add, pk_mul, li_2, li_3, li_4, li_5, li_6, li_7, li_8, li_9, li_10, li_11, li_12, li_13, li_14, li_15, li_16, li_17, li_18, li_19, li_20, li_21, li_22, li_23, li_24, li_25, li_26, li_27, li_28, li_29, li_30, li_31, li_32, li_33, li_34, li_35, li_36, li_37, li_38, li_39, li_40, li_41, li_42, li_43, li_44, li_45, li_46, li_47, li_48, li_49, li_50, li_51, li_52, li_53, li_54, li_55, li_56, li_57, li_58, li_59, li_60, li_61, li_63, li_70, li_96, li_97, li_99, li_100, li_101, li_102, li_120, li_122, li_126, li_200, li_255, li_423, li_555, li_999, li_1000, li_1111, li_2968, li_9999, li_10631, li_12345, li_14092, li_21470, li_65536, li_99233, nz_eq, n1_eq, n1_lt, n1_gt, n1_le, n1_ge, n1_sub, n1_add, nm_add, nz_add, nz_add2, z1_ne, z1_lt, z1_le, nI_1, pk_sub, nI_ltI, nI_leI, nI_eq, ni_neg, ni_nneg, ni_pos0, ni_nle0, ni_m1, gI_eq, gI_ne, xI_sJ, xI_sR, xR_sI, xR_sJ, xJ_sI, xJ_sR, gJ_eq, gJ_ne, gR_eq, gR_ne, if_true, if_false, ite_true, ite_false, not_true_eq_false, not_false_eq_true, decide_true, and_self, true_and, and_true, false_and, and_false, or_true, true_or, or_false, false_or, reduceIte, ne_eq]
  rcases pk_ix a (n := 12) (by decide) with h | h | ⟨j, hj, rfl⟩
  · exact no (Or.inl h)
  · exact no (Or.inr h)
  · refine of_key ?_
    obtain ⟨jP, wP, e, f, t, wr, b⟩ := hR.bas
    obtain ⟨cx, cm0, hC, lq, ⟨be, bf, bt, bw⟩, bs⟩ := id b
    have hst := hR.st
    have hE := mkE_ok b be.2 (by omega : f ≤ 60) bt 0
    obtain ⟨E, eqE⟩ : ∃ E, E = mkE C e f t 0 jP wP := ⟨_, rfl⟩
    obtain ⟨w, hw⟩ : ∃ w : Nat → Nat, w = fun i => rnW E wr 1000 i j := ⟨_, rfl⟩
    obtain ⟨N, hN⟩ : ∃ N, N = 61 := ⟨_, rfl⟩
    have nomd : ∀ n, n ≤ 60 → ∀ v : Nat → Nat, mdW 1000 n v = v := fun n hn v => if_neg (by omega)
    have rb := rnW_b hE 1000 bw
    rw [← eqE] at rb
    have mm : Sat (bdV (f_X12_copies 35 0 36 0 (sI mM 0 0 0)) fun m4 => lop (fun _ _ => none) (f_X12_lasts_B30 (nI j)) 4000 0 m4) (fun q => q.1 = lsR w N 0 ∧ Fr WTn (sI mM 0 0 0) q.2) := by
      have cm : CxM C jP wP (sI mM 0 0 0) := cm0.keep hC (fun a k r => gI_ne _ _ _ _ _ _ (by unfold vM0 at r; omega))
      have rm := hK.2.2.1.2.2
      have h62 := hK.2.2.2.2.2.2.2.2.2
      generalize sI mM 0 0 0 = m at cm rm h62
      rw [Sat_bdV]
      refine (copyM (c := 35) (o := 0) (c' := 36) (o' := 0) rm (by decide) (by decide) (by decide) (by decide) (by decide)).mono ?_
      intro n1 ⟨a1, a2⟩
      have tail : ∀ i n', i ≤ N → Fr (fun a k => WMq a k ∨ (a = 36 ∧ k < 17)) m n' → RowM 36 0 S n' → (if i = N then (-1 : Int32) else nI i) = lsR w N 0 → Sat (f_X12_lasts_J60 (nI j) (nI i) n') (fun q => q.1 = lsR w N 0 ∧ Fr WTn m q.2) := by
        intro i n' hi f1 r1 hv
        unfold f_X12_lasts_J60
        rw [Sat_bdV]
        refine (copyM (c := 36) (o := 0) (c' := 35) (o' := 0) r1 (by decide) (by decide) (by decide) (by decide) (by decide)).mono ?_
        intro n2 ⟨c1, c2⟩
        have fb := Fr.back rm f1 c1 c2
        by_cases z : i = N
        · rw [if_pos z] at hv
          have z' : i = 61 := by omega
          simp (disch := omega) only [z', bnd_e, grd_t, bdI_e, bdV_e, bokA, bokB, ni_inb, ni_cl, nI_add, pk_mul, li_2, li_3, li_4, li_5, li_6, li_7, li_8, li_9, li_10, li_11, li_12, li_13, li_14, li_15, li_16, li_17, li_18, li_19, li_20, li_21, li_22, li_23, li_24, li_25, li_26, li_27, li_28, li_29, li_30, li_31, li_32, li_33, li_34, li_35, li_36, li_37, li_38, li_39, li_40, li_41, li_42, li_43, li_44, li_45, li_46, li_47, li_48, li_49, li_50, li_51, li_52, li_53, li_54, li_55, li_56, li_57, li_58, li_59, li_60, li_61, li_63, li_70, li_96, li_97, li_99, li_100, li_101, li_102, li_120, li_122, li_126, li_200, li_255, li_423, li_555, li_999, li_1000, li_1111, li_2968, li_9999, li_10631, li_12345, li_14092, li_21470, li_65536, li_99233, nz_eq, n1_eq, n1_lt, n1_gt, n1_le, n1_ge, n1_sub, n1_add, nm_add, nz_add, nz_add2, z1_ne, z1_lt, z1_le, nI_1, pk_sub, nI_ltI, nI_leI, nI_eq, ni_neg, ni_nneg, ni_pos0, ni_nle0, ni_m1, gI_eq, gI_ne, xI_sJ, xI_sR, xR_sI, xR_sJ, xJ_sI, xJ_sR, gJ_eq, gJ_ne, gR_eq, gR_ne, if_true, if_false, ite_true, ite_false, not_true_eq_false, not_false_eq_true, decide_true, and_self, true_and, and_true, false_and, and_false, or_true, true_or, or_false, false_or, reduceIte, ne_eq]
          exact (Sat_some _ _).mpr ⟨hv, fb⟩
        · rw [if_neg z] at hv
          have z' : ¬ i = 61 := by omega
          simp (disch := omega) only [z', bnd_e, grd_t, bdI_e, bdV_e, bokA, bokB, ni_inb, ni_cl, nI_add, pk_mul, li_2, li_3, li_4, li_5, li_6, li_7, li_8, li_9, li_10, li_11, li_12, li_13, li_14, li_15, li_16, li_17, li_18, li_19, li_20, li_21, li_22, li_23, li_24, li_25, li_26, li_27, li_28, li_29, li_30, li_31, li_32, li_33, li_34, li_35, li_36, li_37, li_38, li_39, li_40, li_41, li_42, li_43, li_44, li_45, li_46, li_47, li_48, li_49, li_50, li_51, li_52, li_53, li_54, li_55, li_56, li_57, li_58, li_59, li_60, li_61, li_63, li_70, li_96, li_97, li_99, li_100, li_101, li_102, li_120, li_122, li_126, li_200, li_255, li_423, li_555, li_999, li_1000, li_1111, li_2968, li_9999, li_10631, li_12345, li_14092, li_21470, li_65536, li_99233, nz_eq, n1_eq, n1_lt, n1_gt, n1_le, n1_ge, n1_sub, n1_add, nm_add, nz_add, nz_add2, z1_ne, z1_lt, z1_le, nI_1, pk_sub, nI_ltI, nI_leI, nI_eq, ni_neg, ni_nneg, ni_pos0, ni_nle0, ni_m1, gI_eq, gI_ne, xI_sJ, xI_sR, xR_sI, xR_sJ, xJ_sI, xJ_sR, gJ_eq, gJ_ne, gR_eq, gR_ne, if_true, if_false, ite_true, ite_false, not_true_eq_false, not_false_eq_true, decide_true, and_self, true_and, and_true, false_and, and_false, or_true, true_or, or_false, false_or, reduceIte, ne_eq]
          exact (Sat_some _ _).mpr ⟨hv, fb⟩
      refine cnt1 N (by omega) (fun i n' => Fr (fun a k => WMq a k ∨ (a = 36 ∧ k < 17)) m n' ∧ RowM 36 0 S n' ∧ RwM e f t (rnW E wr 1000 i) n' ∧ CxM C jP wP n' ∧ gI n' 0 62 = 0 ∧ lsR w (N - i) i = lsR w N 0) ?_ ?_ ⟨fun a k h => a2.1 a k (by omega), a1, (rm.keep (fun i hi => a2.1 _ _ (by omega))).rw bs, cm.keep hC (fun a k r => a2.1 _ _ (by unfold vM0 at r; omega)), (a2.1 _ _ (by omega)).trans h62, rfl⟩
      · intro i n' k hi ⟨c1, c2, c3, c4, c5, c6⟩ hk
        have n1 : ¬ 61 ≤ i := by omega
        have e35 := c3.2.2.2 j hj
        have wb := rb i j hj
        have hwi : w i = rnW E wr 1000 i j := by rw [hw]
        have ls : lsR w (N - i) i = if w i < 9 then lsR w (N - (i + 1)) (i + 1) else nI i := by
          obtain ⟨M, hM⟩ : ∃ M, N - i = M + 1 := ⟨N - i - 1, by omega⟩
          rw [hM, show N - (i + 1) = M by omega]
          rfl
        unfold f_X12_lasts_B30
        by_cases z : 9 ≤ rnW E wr 1000 i j
        · simp (disch := omega) only [n1, e35, z, bnd_e, grd_t, bdI_e, bdV_e, bokA, bokB, ni_inb, ni_cl, nI_add, pk_mul, li_2, li_3, li_4, li_5, li_6, li_7, li_8, li_9, li_10, li_11, li_12, li_13, li_14, li_15, li_16, li_17, li_18, li_19, li_20, li_21, li_22, li_23, li_24, li_25, li_26, li_27, li_28, li_29, li_30, li_31, li_32, li_33, li_34, li_35, li_36, li_37, li_38, li_39, li_40, li_41, li_42, li_43, li_44, li_45, li_46, li_47, li_48, li_49, li_50, li_51, li_52, li_53, li_54, li_55, li_56, li_57, li_58, li_59, li_60, li_61, li_63, li_70, li_96, li_97, li_99, li_100, li_101, li_102, li_120, li_122, li_126, li_200, li_255, li_423, li_555, li_999, li_1000, li_1111, li_2968, li_9999, li_10631, li_12345, li_14092, li_21470, li_65536, li_99233, nz_eq, n1_eq, n1_lt, n1_gt, n1_le, n1_ge, n1_sub, n1_add, nm_add, nz_add, nz_add2, z1_ne, z1_lt, z1_le, nI_1, pk_sub, nI_ltI, nI_leI, nI_eq, ni_neg, ni_nneg, ni_pos0, ni_nle0, ni_m1, gI_eq, gI_ne, xI_sJ, xI_sR, xR_sI, xR_sJ, xJ_sI, xJ_sR, gJ_eq, gJ_ne, gR_eq, gR_ne, if_true, if_false, ite_true, ite_false, not_true_eq_false, not_false_eq_true, decide_true, and_self, true_and, and_true, false_and, and_false, or_true, true_or, or_false, false_or, reduceIte, ne_eq]
          refine tail i n' (by omega) c1 c2 ?_
          rw [if_neg (by omega), ← c6, ls, if_neg (by omega)]
        · simp (disch := omega) only [n1, e35, z, Sat_bdI, bnd_e, grd_t, bdI_e, bdV_e, bokA, bokB, ni_inb, ni_cl, nI_add, pk_mul, li_2, li_3, li_4, li_5, li_6, li_7, li_8, li_9, li_10, li_11, li_12, li_13, li_14, li_15, li_16, li_17, li_18, li_19, li_20, li_21, li_22, li_23, li_24, li_25, li_26, li_27, li_28, li_29, li_30, li_31, li_32, li_33, li_34, li_35, li_36, li_37, li_38, li_39, li_40, li_41, li_42, li_43, li_44, li_45, li_46, li_47, li_48, li_49, li_50, li_51, li_52, li_53, li_54, li_55, li_56, li_57, li_58, li_59, li_60, li_61, li_63, li_70, li_96, li_97, li_99, li_100, li_101, li_102, li_120, li_122, li_126, li_200, li_255, li_423, li_555, li_999, li_1000, li_1111, li_2968, li_9999, li_10631, li_12345, li_14092, li_21470, li_65536, li_99233, nz_eq, n1_eq, n1_lt, n1_gt, n1_le, n1_ge, n1_sub, n1_add, nm_add, nz_add, nz_add2, z1_ne, z1_lt, z1_le, nI_1, pk_sub, nI_ltI, nI_leI, nI_eq, ni_neg, ni_nneg, ni_pos0, ni_nle0, ni_m1, gI_eq, gI_ne, xI_sJ, xI_sR, xR_sI, xR_sJ, xJ_sI, xJ_sR, gJ_eq, gJ_ne, gR_eq, gR_ne, if_true, if_false, ite_true, ite_false, not_true_eq_false, not_false_eq_true, decide_true, and_self, true_and, and_true, false_and, and_false, or_true, true_or, or_false, false_or, reduceIte, ne_eq]
          have ps := passesN (E := mkE C e f t 0 jP wP) (wr := rnW E wr 1000 i) hE hC c4 c3 (rb i) (fun _ _ => rfl) c5
          rw [← eqE] at ps
          refine ps.mono ?_
          intro q ⟨p1, p2, p3, p4, p5, p6⟩
          have es : rnW E wr 1000 (i + 1) = dwr (dyD E (rnW E wr 1000 i)) := by
            show dwr (dyD E (mdW 1000 i (rnW E wr 1000 i))) = _
            rw [nomd i (by omega)]
          refine hk _ ⟨fun a k h => (p6 a k (fun r => h (Or.inl r))).trans (c1 a k h), c2.keep (fun i hi => p6 _ _ (by unfold WMq; omega)), ?_, ?_, ?_, ?_⟩
          · rw [es]
            rw [eqE] at p2 ⊢
            exact p2
          · rw [eqE] at p3
            exact p3
          · rw [eqE] at p4
            exact p4
          · rw [← c6, ls, if_pos (by omega)]
      · intro n' k ⟨c1, c2, c3, c4, c5, c6⟩
        have n1 : 61 ≤ N := by omega
        unfold f_X12_lasts_B30
        simp (disch := omega) only [n1, bnd_e, grd_t, bdI_e, bdV_e, bokA, bokB, ni_inb, ni_cl, nI_add, pk_mul, li_2, li_3, li_4, li_5, li_6, li_7, li_8, li_9, li_10, li_11, li_12, li_13, li_14, li_15, li_16, li_17, li_18, li_19, li_20, li_21, li_22, li_23, li_24, li_25, li_26, li_27, li_28, li_29, li_30, li_31, li_32, li_33, li_34, li_35, li_36, li_37, li_38, li_39, li_40, li_41, li_42, li_43, li_44, li_45, li_46, li_47, li_48, li_49, li_50, li_51, li_52, li_53, li_54, li_55, li_56, li_57, li_58, li_59, li_60, li_61, li_63, li_70, li_96, li_97, li_99, li_100, li_101, li_102, li_120, li_122, li_126, li_200, li_255, li_423, li_555, li_999, li_1000, li_1111, li_2968, li_9999, li_10631, li_12345, li_14092, li_21470, li_65536, li_99233, nz_eq, n1_eq, n1_lt, n1_gt, n1_le, n1_ge, n1_sub, n1_add, nm_add, nz_add, nz_add2, z1_ne, z1_lt, z1_le, nI_1, pk_sub, nI_ltI, nI_leI, nI_eq, ni_neg, ni_nneg, ni_pos0, ni_nle0, ni_m1, gI_eq, gI_ne, xI_sJ, xI_sR, xR_sI, xR_sJ, xJ_sI, xJ_sR, gJ_eq, gJ_ne, gR_eq, gR_ne, if_true, if_false, ite_true, ite_false, not_true_eq_false, not_false_eq_true, decide_true, and_self, true_and, and_true, false_and, and_false, or_true, true_or, or_false, false_or, reduceIte, ne_eq]
        refine tail N n' (Nat.le_refl _) c1 c2 ?_
        rw [if_pos rfl, ← c6, Nat.sub_self]
        rfl
    have pp : Sat (f_X11_lasts (nI j) mP) (fun q => q.1 = lsR w N 0 ∧ KT st mP q.2) := by
      unfold f_X11_lasts
      simp (disch := omega) only [isKeyP_yes hj, bnd_e, grd_t, bdI_e, bdV_e, bokA, bokB, ni_inb, ni_cl, nI_add, pk_mul, li_2, li_3, li_4, li_5, li_6, li_7, li_8, li_9, li_10, li_11, li_12, li_13, li_14, li_15, li_16, li_17, li_18, li_19, li_20, li_21, li_22, li_23, li_24, li_25, li_26, li_27, li_28, li_29, li_30, li_31, li_32, li_33, li_34, li_35, li_36, li_37, li_38, li_39, li_40, li_41, li_42, li_43, li_44, li_45, li_46, li_47, li_48, li_49, li_50, li_51, li_52, li_53, li_54, li_55, li_56, li_57, li_58, li_59, li_60, li_61, li_63, li_70, li_96, li_97, li_99, li_100, li_101, li_102, li_120, li_122, li_126, li_200, li_255, li_423, li_555, li_999, li_1000, li_1111, li_2968, li_9999, li_10631, li_12345, li_14092, li_21470, li_65536, li_99233, nz_eq, n1_eq, n1_lt, n1_gt, n1_le, n1_ge, n1_sub, n1_add, nm_add, nz_add, nz_add2, z1_ne, z1_lt, z1_le, nI_1, pk_sub, nI_ltI, nI_leI, nI_eq, ni_neg, ni_nneg, ni_pos0, ni_nle0, ni_m1, gI_eq, gI_ne, xI_sJ, xI_sR, xR_sI, xR_sJ, xJ_sI, xJ_sR, gJ_eq, gJ_ne, gR_eq, gR_ne, if_true, if_false, ite_true, ite_false, not_true_eq_false, not_false_eq_true, decide_true, and_self, true_and, and_true, false_and, and_false, or_true, true_or, or_false, false_or, reduceIte, ne_eq]
      rw [Sat_bdV]
      refine (copyP (h0 := 66) hR.2.2.1.2.1 (by rfl) l65 (by omega)).mono ?_
      intro n1 ⟨a1, a2⟩
      have k1 : KT st mP n1 := a2.kt (fun a k q => by unfold WT; omega)
      have cx1 := cx.keep hC k1
      have r1 : RwP 66 f t wr n1 := a1.rw bs
      simp (disch := omega) only [cx1.2.1, Lst hst, a1.2.1.trans bs.1, Sat_bdV, bnd_e, grd_t, bdI_e, bdV_e, bokA, bokB, ni_inb, ni_cl, nI_add, pk_mul, li_2, li_3, li_4, li_5, li_6, li_7, li_8, li_9, li_10, li_11, li_12, li_13, li_14, li_15, li_16, li_17, li_18, li_19, li_20, li_21, li_22, li_23, li_24, li_25, li_26, li_27, li_28, li_29, li_30, li_31, li_32, li_33, li_34, li_35, li_36, li_37, li_38, li_39, li_40, li_41, li_42, li_43, li_44, li_45, li_46, li_47, li_48, li_49, li_50, li_51, li_52, li_53, li_54, li_55, li_56, li_57, li_58, li_59, li_60, li_61, li_63, li_70, li_96, li_97, li_99, li_100, li_101, li_102, li_120, li_122, li_126, li_200, li_255, li_423, li_555, li_999, li_1000, li_1111, li_2968, li_9999, li_10631, li_12345, li_14092, li_21470, li_65536, li_99233, nz_eq, n1_eq, n1_lt, n1_gt, n1_le, n1_ge, n1_sub, n1_add, nm_add, nz_add, nz_add2, z1_ne, z1_lt, z1_le, nI_1, pk_sub, nI_ltI, nI_leI, nI_eq, ni_neg, ni_nneg, ni_pos0, ni_nle0, ni_m1, gI_eq, gI_ne, xI_sJ, xI_sR, xR_sI, xR_sJ, xJ_sI, xJ_sR, gJ_eq, gJ_ne, gR_eq, gR_ne, if_true, if_false, ite_true, ite_false, not_true_eq_false, not_false_eq_true, decide_true, and_self, true_and, and_true, false_and, and_false, or_true, true_or, or_false, false_or, reduceIte, ne_eq]
      refine (prepT (E := mkE C e f t 0 jP wP) hE cx1 (fun _ _ => rfl)).mono ?_
      intro n2 ⟨b1, b2, b3, b4⟩
      have r2 : RwP 66 f t wr n2 := ⟨(b2 _ _ (by unfold WPr; omega)).trans r1.1, (b2 _ _ (by unfold WPr; omega)).trans r1.2.1, fun k hk => (b2 _ _ (by unfold WPr; omega)).trans (r1.2.2 k hk)⟩
      refine cnt1 N (by omega) (fun i n' => KT st mP n' ∧ PrP E st n' ∧ RwP 66 f t (rnW E wr 1000 i) n' ∧ CxP C jP wP st n' ∧ lsR w (N - i) i = lsR w N 0) ?_ ?_ ⟨k1.trans b4, by rw [eqE]; exact b1, r2, cx1.keep hC b4, rfl⟩
      · intro i n' k hi ⟨c1, c2, c3, c4, c6⟩ hk
        have n1' : ¬ 60 < i := by omega
        have e67 : gI n' 67 j = nI (rnW E wr 1000 i j) := c3.2.2 j hj
        have wb := rb i j hj
        have hwi : w i = rnW E wr 1000 i j := by rw [hw]
        have ls : lsR w (N - i) i = if w i < 9 then lsR w (N - (i + 1)) (i + 1) else nI i := by
          obtain ⟨M, hM⟩ : ∃ M, N - i = M + 1 := ⟨N - i - 1, by omega⟩
          rw [hM, show N - (i + 1) = M by omega]
          rfl
        unfold f_X11_lasts_B40
        by_cases z : rnW E wr 1000 i j < 9
        · simp (disch := omega) only [n1', e67, z, Sat_bdV, bnd_e, grd_t, bdI_e, bdV_e, bokA, bokB, ni_inb, ni_cl, nI_add, pk_mul, li_2, li_3, li_4, li_5, li_6, li_7, li_8, li_9, li_10, li_11, li_12, li_13, li_14, li_15, li_16, li_17, li_18, li_19, li_20, li_21, li_22, li_23, li_24, li_25, li_26, li_27, li_28, li_29, li_30, li_31, li_32, li_33, li_34, li_35, li_36, li_37, li_38, li_39, li_40, li_41, li_42, li_43, li_44, li_45, li_46, li_47, li_48, li_49, li_50, li_51, li_52, li_53, li_54, li_55, li_56, li_57, li_58, li_59, li_60, li_61, li_63, li_70, li_96, li_97, li_99, li_100, li_101, li_102, li_120, li_122, li_126, li_200, li_255, li_423, li_555, li_999, li_1000, li_1111, li_2968, li_9999, li_10631, li_12345, li_14092, li_21470, li_65536, li_99233, nz_eq, n1_eq, n1_lt, n1_gt, n1_le, n1_ge, n1_sub, n1_add, nm_add, nz_add, nz_add2, z1_ne, z1_lt, z1_le, nI_1, pk_sub, nI_ltI, nI_leI, nI_eq, ni_neg, ni_nneg, ni_pos0, ni_nle0, ni_m1, gI_eq, gI_ne, xI_sJ, xI_sR, xR_sI, xR_sJ, xJ_sI, xJ_sR, gJ_eq, gJ_ne, gR_eq, gR_ne, if_true, if_false, ite_true, ite_false, not_true_eq_false, not_false_eq_true, decide_true, and_self, true_and, and_true, false_and, and_false, or_true, true_or, or_false, false_or, reduceIte, ne_eq]
          rw [eqE] at c2
          have ps := passN (E := mkE C e f t 0 jP wP) (wr := rnW E wr 1000 i) hE hC c4 c2 c3 (rb i)
          rw [← eqE] at ps
          have ex : eX E = 0 := by rw [eqE]; rfl
          rw [ex] at ps
          refine ps.mono ?_
          intro q ⟨p1, p2, p3, p4, p5, p6, p7, p8, p9⟩
          have es : rnW E wr 1000 (i + 1) = dwr (dyD E (rnW E wr 1000 i)) := by
            show dwr (dyD E (mdW 1000 i (rnW E wr 1000 i))) = _
            rw [nomd i (by omega)]
          refine hk _ ⟨c1.trans p9, p3, ?_, ?_, ?_⟩
          · rw [es]
            rw [eqE] at p4 ⊢
            exact p4
          · rw [eqE] at p5
            exact p5
          · rw [← c6, ls, if_pos (by omega)]
        · simp (disch := omega) only [n1', e67, z, bnd_e, grd_t, bdI_e, bdV_e, bokA, bokB, ni_inb, ni_cl, nI_add, pk_mul, li_2, li_3, li_4, li_5, li_6, li_7, li_8, li_9, li_10, li_11, li_12, li_13, li_14, li_15, li_16, li_17, li_18, li_19, li_20, li_21, li_22, li_23, li_24, li_25, li_26, li_27, li_28, li_29, li_30, li_31, li_32, li_33, li_34, li_35, li_36, li_37, li_38, li_39, li_40, li_41, li_42, li_43, li_44, li_45, li_46, li_47, li_48, li_49, li_50, li_51, li_52, li_53, li_54, li_55, li_56, li_57, li_58, li_59, li_60, li_61, li_63, li_70, li_96, li_97, li_99, li_100, li_101, li_102, li_120, li_122, li_126, li_200, li_255, li_423, li_555, li_999, li_1000, li_1111, li_2968, li_9999, li_10631, li_12345, li_14092, li_21470, li_65536, li_99233, nz_eq, n1_eq, n1_lt, n1_gt, n1_le, n1_ge, n1_sub, n1_add, nm_add, nz_add, nz_add2, z1_ne, z1_lt, z1_le, nI_1, pk_sub, nI_ltI, nI_leI, nI_eq, ni_neg, ni_nneg, ni_pos0, ni_nle0, ni_m1, gI_eq, gI_ne, xI_sJ, xI_sR, xR_sI, xR_sJ, xJ_sI, xJ_sR, gJ_eq, gJ_ne, gR_eq, gR_ne, if_true, if_false, ite_true, ite_false, not_true_eq_false, not_false_eq_true, decide_true, and_self, true_and, and_true, false_and, and_false, or_true, true_or, or_false, false_or, reduceIte, ne_eq]
          exact (Sat_some _ _).mpr ⟨by rw [← c6, ls, if_neg (by omega)], c1⟩
      · intro n' k ⟨c1, c2, c3, c4, c6⟩
        have n1' : 60 < N := by omega
        unfold f_X11_lasts_B40
        simp (disch := omega) only [n1', bnd_e, grd_t, bdI_e, bdV_e, bokA, bokB, ni_inb, ni_cl, nI_add, pk_mul, li_2, li_3, li_4, li_5, li_6, li_7, li_8, li_9, li_10, li_11, li_12, li_13, li_14, li_15, li_16, li_17, li_18, li_19, li_20, li_21, li_22, li_23, li_24, li_25, li_26, li_27, li_28, li_29, li_30, li_31, li_32, li_33, li_34, li_35, li_36, li_37, li_38, li_39, li_40, li_41, li_42, li_43, li_44, li_45, li_46, li_47, li_48, li_49, li_50, li_51, li_52, li_53, li_54, li_55, li_56, li_57, li_58, li_59, li_60, li_61, li_63, li_70, li_96, li_97, li_99, li_100, li_101, li_102, li_120, li_122, li_126, li_200, li_255, li_423, li_555, li_999, li_1000, li_1111, li_2968, li_9999, li_10631, li_12345, li_14092, li_21470, li_65536, li_99233, nz_eq, n1_eq, n1_lt, n1_gt, n1_le, n1_ge, n1_sub, n1_add, nm_add, nz_add, nz_add2, z1_ne, z1_lt, z1_le, nI_1, pk_sub, nI_ltI, nI_leI, nI_eq, ni_neg, ni_nneg, ni_pos0, ni_nle0, ni_m1, gI_eq, gI_ne, xI_sJ, xI_sR, xR_sI, xR_sJ, xJ_sI, xJ_sR, gJ_eq, gJ_ne, gR_eq, gR_ne, if_true, if_false, ite_true, ite_false, not_true_eq_false, not_false_eq_true, decide_true, and_self, true_and, and_true, false_and, and_false, or_true, true_or, or_false, false_or, reduceIte, ne_eq]
        refine (Sat_some _ _).mpr ⟨?_, c1⟩
        rw [← c6, Nat.sub_self]
        rfl
    have mm' : Sat (f_X12_lasts (nI j) mM) (fun q => q.1 = lsR w N 0 ∧ Fr WTn (sI mM 0 0 0) q.2) := by
      unfold f_X12_lasts
      simp (disch := omega) only [isKeyM_yes hj, bnd_e, grd_t, bdI_e, bdV_e, bokA, bokB, ni_inb, ni_cl, nI_add, pk_mul, li_2, li_3, li_4, li_5, li_6, li_7, li_8, li_9, li_10, li_11, li_12, li_13, li_14, li_15, li_16, li_17, li_18, li_19, li_20, li_21, li_22, li_23, li_24, li_25, li_26, li_27, li_28, li_29, li_30, li_31, li_32, li_33, li_34, li_35, li_36, li_37, li_38, li_39, li_40, li_41, li_42, li_43, li_44, li_45, li_46, li_47, li_48, li_49, li_50, li_51, li_52, li_53, li_54, li_55, li_56, li_57, li_58, li_59, li_60, li_61, li_63, li_70, li_96, li_97, li_99, li_100, li_101, li_102, li_120, li_122, li_126, li_200, li_255, li_423, li_555, li_999, li_1000, li_1111, li_2968, li_9999, li_10631, li_12345, li_14092, li_21470, li_65536, li_99233, nz_eq, n1_eq, n1_lt, n1_gt, n1_le, n1_ge, n1_sub, n1_add, nm_add, nz_add, nz_add2, z1_ne, z1_lt, z1_le, nI_1, pk_sub, nI_ltI, nI_leI, nI_eq, ni_neg, ni_nneg, ni_pos0, ni_nle0, ni_m1, gI_eq, gI_ne, xI_sJ, xI_sR, xR_sI, xR_sJ, xJ_sI, xJ_sR, gJ_eq, gJ_ne, gR_eq, gR_ne, if_true, if_false, ite_true, ite_false, not_true_eq_false, not_false_eq_true, decide_true, and_self, true_and, and_true, false_and, and_false, or_true, true_or, or_false, false_or, reduceIte, ne_eq]
      exact mm
    refine pp.mono ?_
    intro q ⟨q1, q2⟩
    refine mm'.mono ?_
    intro q' ⟨r1, r2⟩
    exact ⟨q1.trans r1.symm, C, st, S, hK.keep (q2.sa hst) (fun a k v => r2 a k (WTn_vm v))⟩
