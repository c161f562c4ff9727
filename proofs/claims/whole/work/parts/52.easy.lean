/-! plain rewriting -/
theorem bnd_e {α β : Type} (x : α) (f : α → β) : bnd x f = f x := Eq.trans rfl (Eq.refl _)
theorem grd_t {α : Type} (x : Option α) : grd true x = x := Eq.trans rfl (Eq.refl _)
theorem bdI_e {β : Type} (q : Int32 × Mm) (f : Int32 → Mm → Option β) : bdI (some q) f = f q.1 q.2 := Eq.trans rfl (Eq.refl _)
theorem bdV_e {β : Type} (q : Mm) (f : Mm → Option β) : bdV (some q) f = f q := Eq.trans rfl (Eq.refl _)
theorem li_2 : (2 : Int32) = nI 2 := Eq.trans rfl (Eq.refl _)
theorem li_3 : (3 : Int32) = nI 3 := Eq.trans rfl (Eq.refl _)
theorem li_4 : (4 : Int32) = nI 4 := Eq.trans rfl (Eq.refl _)
theorem li_5 : (5 : Int32) = nI 5 := Eq.trans rfl (Eq.refl _)
theorem li_6 : (6 : Int32) = nI 6 := Eq.trans rfl (Eq.refl _)
theorem li_7 : (7 : Int32) = nI 7 := Eq.trans rfl (Eq.refl _)
theorem li_8 : (8 : Int32) = nI 8 := Eq.trans rfl (Eq.refl _)
theorem li_9 : (9 : Int32) = nI 9 := Eq.trans rfl (Eq.refl _)
theorem li_10 : (10 : Int32) = nI 10 := Eq.trans rfl (Eq.refl _)
theorem li_11 : (11 : Int32) = nI 11 := Eq.trans rfl (Eq.refl _)
theorem li_12 : (12 : Int32) = nI 12 := Eq.trans rfl (Eq.refl _)
theorem li_13 : (13 : Int32) = nI 13 := Eq.trans rfl (Eq.refl _)
theorem li_14 : (14 : Int32) = nI 14 := Eq.trans rfl (Eq.refl _)
theorem li_15 : (15 : Int32) = nI 15 := Eq.trans rfl (Eq.refl _)
theorem li_16 : (16 : Int32) = nI 16 := Eq.trans rfl (Eq.refl _)
theorem li_17 : (17 : Int32) = nI 17 := Eq.trans rfl (Eq.refl _)
theorem li_18 : (18 : Int32) = nI 18 := Eq.trans rfl (Eq.refl _)
theorem li_19 : (19 : Int32) = nI 19 := Eq.trans rfl (Eq.refl _)
theorem li_20 : (20 : Int32) = nI 20 := Eq.trans rfl (Eq.refl _)
theorem li_21 : (21 : Int32) = nI 21 := Eq.trans rfl (Eq.refl _)
theorem li_22 : (22 : Int32) = nI 22 := Eq.trans rfl (Eq.refl _)
theorem li_23 : (23 : Int32) = nI 23 := Eq.trans rfl (Eq.refl _)
theorem li_24 : (24 : Int32) = nI 24 := Eq.trans rfl (Eq.refl _)
theorem li_25 : (25 : Int32) = nI 25 := Eq.trans rfl (Eq.refl _)
theorem li_26 : (26 : Int32) = nI 26 := Eq.trans rfl (Eq.refl _)
theorem li_27 : (27 : Int32) = nI 27 := Eq.trans rfl (Eq.refl _)
theorem li_28 : (28 : Int32) = nI 28 := Eq.trans rfl (Eq.refl _)
theorem li_29 : (29 : Int32) = nI 29 := Eq.trans rfl (Eq.refl _)
theorem li_30 : (30 : Int32) = nI 30 := Eq.trans rfl (Eq.refl _)
theorem li_31 : (31 : Int32) = nI 31 := Eq.trans rfl (Eq.refl _)
theorem li_32 : (32 : Int32) = nI 32 := Eq.trans rfl (Eq.refl _)
theorem li_33 : (33 : Int32) = nI 33 := Eq.trans rfl (Eq.refl _)
theorem li_34 : (34 : Int32) = nI 34 := Eq.trans rfl (Eq.refl _)
theorem li_35 : (35 : Int32) = nI 35 := Eq.trans rfl (Eq.refl _)
theorem li_36 : (36 : Int32) = nI 36 := Eq.trans rfl (Eq.refl _)
theorem li_37 : (37 : Int32) = nI 37 := Eq.trans rfl (Eq.refl _)
theorem li_38 : (38 : Int32) = nI 38 := Eq.trans rfl (Eq.refl _)
theorem li_39 : (39 : Int32) = nI 39 := Eq.trans rfl (Eq.refl _)
theorem li_40 : (40 : Int32) = nI 40 := Eq.trans rfl (Eq.refl _)
theorem li_41 : (41 : Int32) = nI 41 := Eq.trans rfl (Eq.refl _)
theorem li_42 : (42 : Int32) = nI 42 := Eq.trans rfl (Eq.refl _)
theorem li_43 : (43 : Int32) = nI 43 := Eq.trans rfl (Eq.refl _)
theorem li_44 : (44 : Int32) = nI 44 := Eq.trans rfl (Eq.refl _)
theorem li_45 : (45 : Int32) = nI 45 := Eq.trans rfl (Eq.refl _)
theorem li_46 : (46 : Int32) = nI 46 := Eq.trans rfl (Eq.refl _)
theorem li_47 : (47 : Int32) = nI 47 := Eq.trans rfl (Eq.refl _)
theorem li_48 : (48 : Int32) = nI 48 := Eq.trans rfl (Eq.refl _)
theorem li_49 : (49 : Int32) = nI 49 := Eq.trans rfl (Eq.refl _)
theorem li_50 : (50 : Int32) = nI 50 := Eq.trans rfl (Eq.refl _)
theorem li_51 : (51 : Int32) = nI 51 := Eq.trans rfl (Eq.refl _)
theorem li_52 : (52 : Int32) = nI 52 := Eq.trans rfl (Eq.refl _)
theorem li_53 : (53 : Int32) = nI 53 := Eq.trans rfl (Eq.refl _)
theorem li_54 : (54 : Int32) = nI 54 := Eq.trans rfl (Eq.refl _)
theorem li_55 : (55 : Int32) = nI 55 := Eq.trans rfl (Eq.refl _)
theorem li_56 : (56 : Int32) = nI 56 := Eq.trans rfl (Eq.refl _)
theorem li_57 : (57 : Int32) = nI 57 := Eq.trans rfl (Eq.refl _)
theorem li_58 : (58 : Int32) = nI 58 := Eq.trans rfl (Eq.refl _)
theorem li_59 : (59 : Int32) = nI 59 := Eq.trans rfl (Eq.refl _)
theorem li_60 : (60 : Int32) = nI 60 := Eq.trans rfl (Eq.refl _)
theorem li_61 : (61 : Int32) = nI 61 := Eq.trans rfl (Eq.refl _)
theorem li_63 : (63 : Int32) = nI 63 := Eq.trans rfl (Eq.refl _)
theorem li_70 : (70 : Int32) = nI 70 := Eq.trans rfl (Eq.refl _)
theorem li_96 : (96 : Int32) = nI 96 := Eq.trans rfl (Eq.refl _)
theorem li_97 : (97 : Int32) = nI 97 := Eq.trans rfl (Eq.refl _)
theorem li_99 : (99 : Int32) = nI 99 := Eq.trans rfl (Eq.refl _)
theorem li_100 : (100 : Int32) = nI 100 := Eq.trans rfl (Eq.refl _)
theorem li_101 : (101 : Int32) = nI 101 := Eq.trans rfl (Eq.refl _)
theorem li_102 : (102 : Int32) = nI 102 := Eq.trans rfl (Eq.refl _)
theorem li_120 : (120 : Int32) = nI 120 := Eq.trans rfl (Eq.refl _)
theorem li_122 : (122 : Int32) = nI 122 := Eq.trans rfl (Eq.refl _)
theorem li_126 : (126 : Int32) = nI 126 := Eq.trans rfl (Eq.refl _)
theorem li_200 : (200 : Int32) = nI 200 := Eq.trans rfl (Eq.refl _)
theorem li_255 : (255 : Int32) = nI 255 := Eq.trans rfl (Eq.refl _)
theorem li_423 : (423 : Int32) = nI 423 := Eq.trans rfl (Eq.refl _)
theorem li_555 : (555 : Int32) = nI 555 := Eq.trans rfl (Eq.refl _)
theorem li_999 : (999 : Int32) = nI 999 := Eq.trans rfl (Eq.refl _)
theorem li_1000 : (1000 : Int32) = nI 1000 := Eq.trans rfl (Eq.refl _)
theorem li_1111 : (1111 : Int32) = nI 1111 := Eq.trans rfl (Eq.refl _)
theorem li_2968 : (2968 : Int32) = nI 2968 := Eq.trans rfl (Eq.refl _)
theorem li_9999 : (9999 : Int32) = nI 9999 := Eq.trans rfl (Eq.refl _)
theorem li_10631 : (10631 : Int32) = nI 10631 := Eq.trans rfl (Eq.refl _)
theorem li_12345 : (12345 : Int32) = nI 12345 := Eq.trans rfl (Eq.refl _)
theorem li_14092 : (14092 : Int32) = nI 14092 := Eq.trans rfl (Eq.refl _)
theorem li_21470 : (21470 : Int32) = nI 21470 := Eq.trans rfl (Eq.refl _)
theorem li_65536 : (65536 : Int32) = nI 65536 := Eq.trans rfl (Eq.refl _)
theorem li_99233 : (99233 : Int32) = nI 99233 := Eq.trans rfl (Eq.refl _)
theorem nz_eq (a : Nat) (ha : a < 2 ^ 31) : (nI a = 0) = (a = 0) := propext (nI_eq ha (by decide))
theorem n1_eq (a : Nat) (ha : a < 2 ^ 31) : (nI a = 1) = (a = 1) := propext (nI_eq ha (by decide))
theorem n1_lt (a : Nat) (ha : a < 2 ^ 31) : (nI a < 1) = (a < 1) := propext (nI_ltI ha (by decide))
theorem n1_gt (a : Nat) (ha : a < 2 ^ 31) : (1 < nI a) = (1 < a) := propext (nI_ltI (by decide) ha)
theorem n1_le (a : Nat) (ha : a < 2 ^ 31) : (nI a ≤ 1) = (a ≤ 1) := propext (nI_leI ha (by decide))
theorem n1_ge (a : Nat) (ha : a < 2 ^ 31) : (1 ≤ nI a) = (1 ≤ a) := propext (nI_leI (by decide) ha)
theorem n1_sub (a : Nat) (h : 1 ≤ a) : nI a - 1 = nI (a - 1) := pk_sub h
theorem n1_add (a : Nat) : 1 + nI a = nI (1 + a) := nI_add 1 a
theorem nm_add (a : Nat) (h : 1 ≤ a) : nI a + -1 = nI (a - 1) := by
  obtain ⟨b, rfl⟩ := Nat.exists_eq_add_of_le' h
  rw [Nat.add_sub_cancel]; exact pk_m1 b
theorem nz_add (a : Nat) : nI a + 0 = nI a := nI_add a 0
theorem nz_add2 (a : Nat) : 0 + nI a = nI a := by rw [show (0 : Int32) = nI 0 from rfl, nI_add, Nat.zero_add]
theorem z1_ne : ((1 : Int32) = 0) = False := eq_false (by decide)
theorem z1_lt : ((-1 : Int32) < 0) = True := eq_true (by decide)
theorem z1_le : (0 ≤ (-1 : Int32)) = False := eq_false (by decide)
theorem ni_nneg (a : Nat) (ha : a < 2 ^ 31) : (0 ≤ nI a) = True := eq_true (nI_pos' ha)
theorem ni_pos0 (a : Nat) (ha : a < 2 ^ 31) : (0 < nI a) = (0 < a) := propext (nI_ltI (by decide) ha)
theorem ni_nle0 (a : Nat) (ha : a < 2 ^ 31) : (nI a ≤ 0) = (a ≤ 0) := propext (nI_leI ha (by decide))
theorem xI_sJ (m : Mm) (a k : Nat) (v : Int64) (b j : Nat) : gI (sJ m a k v) b j = gI m b j := Eq.trans rfl (Eq.refl _)
theorem xI_sR (m : Mm) (a k : Nat) (v : Nat) (b j : Nat) : gI (sR m a k v) b j = gI m b j := Eq.trans rfl (Eq.refl _)
theorem xJ_sI (m : Mm) (a k : Nat) (v : Int32) (b j : Nat) : gJ (sI m a k v) b j = gJ m b j := Eq.trans rfl (Eq.refl _)
theorem xJ_sR (m : Mm) (a k : Nat) (v : Nat) (b j : Nat) : gJ (sR m a k v) b j = gJ m b j := Eq.trans rfl (Eq.refl _)
theorem xR_sI (m : Mm) (a k : Nat) (v : Int32) (b j : Nat) : gR (sI m a k v) b j = gR m b j := Eq.trans rfl (Eq.refl _)
theorem xR_sJ (m : Mm) (a k : Nat) (v : Int64) (b j : Nat) : gR (sJ m a k v) b j = gR m b j := Eq.trans rfl (Eq.refl _)
theorem ni_0 : nI 0 = 0 := Eq.trans rfl (Eq.refl _)
theorem bokA : bok 0 = true := Eq.trans rfl (Eq.refl _)
theorem bokB : bok 1 = true := Eq.trans rfl (Eq.refl _)
/-! the cells of a station -/
theorem Lst {st : Nat} (h : st = 4 ∨ st = 34) : Lp.1 st = 7 := by rcases h with rfl | rfl <;> rfl
theorem Lst1 {st : Nat} (h : st = 4 ∨ st = 34) : Lp.2.1 (st + 1) = 5 := by rcases h with rfl | rfl <;> rfl
theorem Lst2 {st : Nat} (h : st = 4 ∨ st = 34) : Lp.2.1 (st + 2) = 5 := by rcases h with rfl | rfl <;> rfl
theorem Lst3 {st : Nat} (h : st = 4 ∨ st = 34) : Lp.2.1 (st + 3) = 5 := by rcases h with rfl | rfl <;> rfl
theorem Lst9 {st : Nat} (h : st = 4 ∨ st = 34) : Lp.2.1 (st + 9) = 7 := by rcases h with rfl | rfl <;> rfl
theorem LstT {st : Nat} (h : st = 4 ∨ st = 34) {t : Nat} (ht : t < 5) : Lp.2.1 (st + 3 + (1 + t)) = 9 := by
  rcases h with rfl | rfl
  · exact (by decide : ∀ t, t < 5 → Lp.2.1 (4 + 3 + (1 + t)) = 9) t ht
  · exact (by decide : ∀ t, t < 5 → Lp.2.1 (34 + 3 + (1 + t)) = 9) t ht
theorem LstS {st : Nat} (h : st = 4 ∨ st = 34) {p : Nat} (hp : p < 7) : Lp.2.1 (st + 9 + (7 + 2 * p) + 1) = 18 := by
  rcases h with rfl | rfl
  · exact (by decide : ∀ p, p < 7 → Lp.2.1 (4 + 9 + (7 + 2 * p) + 1) = 18) p hp
  · exact (by decide : ∀ p, p < 7 → Lp.2.1 (34 + 9 + (7 + 2 * p) + 1) = 18) p hp
/-! folds, and loops that only read -/
def ifo (f : Nat → Int32 → Int32) (z : Int32) : Nat → Int32
  | 0 => z
  | n + 1 => f n (ifo f z n)
theorem ifo_ext {f g : Nat → Int32 → Int32} (z : Int32) : ∀ {n : Nat}, (∀ i a, i < n → f i a = g i a) → ifo f z n = ifo g z n
  | 0, _ => rfl
  | n + 1, h => by
    show f n (ifo f z n) = g n (ifo g z n)
    rw [ifo_ext z (n := n) (fun i a hi => h i a (by omega)), h n _ (by omega)]
theorem acc_lop {β : Type} {zz : Int32 → Int32 → Mm → Option β} {b : (Int32 → Int32 → Mm → Option β) → Int32 → Int32 → Mm → Option β} {m : Mm} {f : Nat → Int32 → Int32} {z : Int32} {R : Int32 → Option β} (E : Nat) (hs : ∀ i acc k, i < E → b k acc (nI i) m = k (f i acc) (nI (i + 1)) m) (hx : ∀ acc k, b k acc (nI E) m = R acc) : ∀ N i, i ≤ E → E - i < N → lop zz b N (ifo f z i) (nI i) m = R (ifo f z E)
  | 0, _, _, h => absurd h (by omega)
  | N + 1, i, hi, hN => by
    show b (lop zz b N) (ifo f z i) (nI i) m = _
    rcases Nat.lt_or_ge i E with q | q
    · rw [hs _ _ _ q]
      exact acc_lop E hs hx N (i + 1) (by omega) (by omega)
    · have : i = E := by omega
      subst this
      exact hx _ _
theorem acc_lop0 {β : Type} {zz : Int32 → Int32 → Mm → Option β} {b : (Int32 → Int32 → Mm → Option β) → Int32 → Int32 → Mm → Option β} {m : Mm} {f : Nat → Int32 → Int32} {z : Int32} {R : Int32 → Option β} (E : Nat) (hE : E < 4000) (hs : ∀ i acc k, i < E → b k acc (nI i) m = k (f i acc) (nI (i + 1)) m) (hx : ∀ acc k, b k acc (nI E) m = R acc) : lop zz b 4000 z 0 m = R (ifo f z E) := acc_lop (z := z) E hs hx 4000 0 (by omega) (by omega)
/-! the parts of the relation -/
theorem RelC.st {C : Nat → Nat → Nat} {st : Nat} {S : Nat → Int32} {mP mM : Mm} (h : RelC C st S mP mM) : st = 4 ∨ st = 34 := h.1.1
theorem RelC.gr {C : Nat → Nat → Nat} {st : Nat} {S : Nat → Int32} {mP mM : Mm} (h : RelC C st S mP mM) : gR mP 0 2 = st := h.1.2.1
theorem RelC.ok {C : Nat → Nat → Nat} {st : Nat} {S : Nat → Int32} {mP mM : Mm} (h : RelC C st S mP mM) : CfOK C := h.2.1.1
theorem RelC.cP {C : Nat → Nat → Nat} {st : Nat} {S : Nat → Int32} {mP mM : Mm} (h : RelC C st S mP mM) : CfP C st mP := h.2.1.2.1
theorem RelC.cM {C : Nat → Nat → Nat} {st : Nat} {S : Nat → Int32} {mP mM : Mm} (h : RelC C st S mP mM) : CfM C mM := h.2.1.2.2.1
theorem CfM.thr {C : Nat → Nat → Nat} {m : Mm} (hC : CfOK C) (h : CfM C m) (v : Int32) : CfM C (sI m 0 0 v) := h.keep hC (fun a k q => gI_ne _ _ _ _ _ _ (by omega))
/-! who is a passer, what is a key, what lies within -/
theorem within_e (a l h : Int32) (m : Mm) : f_X12_within a l h m = some (if a < l ∨ h < a then 0 else 1, m) := by
  unfold f_X12_within
  by_cases h1 : a < l
  · simp only [h1, if_true, true_or]; rfl
  · by_cases h2 : h < a
    · simp only [h1, h2, if_true, if_false, or_true]; rfl
    · simp only [h1, h2, if_false, or_self]; rfl
theorem isPasP_no {C : Nat → Nat → Nat} {st : Nat} {m : Mm} (hs : st = 4 ∨ st = 34) (hg : gR m 0 2 = st) (hP : gI m st 7 = nI (C 0 1)) {a : Int32} (h : a < 0 ∨ nI (C 0 1) ≤ a) : f_X11_isPasser a m = some (0, m) := by
  unfold f_X11_isPasser
  by_cases h0 : a < 0
  · rw [if_pos h0]; rfl
  · have h1 := h.resolve_left h0
    simp (disch := omega) only [h0, hg, Lst hs, hP, h1, bnd_e, grd_t, bdI_e, bdV_e, bokA, bokB, ni_inb, ni_cl, nI_add, pk_mul, li_2, li_3, li_4, li_5, li_6, li_7, li_8, li_9, li_10, li_11, li_12, li_13, li_14, li_15, li_16, li_17, li_18, li_19, li_20, li_21, li_22, li_23, li_24, li_25, li_26, li_27, li_28, li_29, li_30, li_31, li_32, li_33, li_34, li_35, li_36, li_37, li_38, li_39, li_40, li_41, li_42, li_43, li_44, li_45, li_46, li_47, li_48, li_49, li_50, li_51, li_52, li_53, li_54, li_55, li_56, li_57, li_58, li_59, li_60, li_61, li_63, li_70, li_96, li_97, li_99, li_100, li_101, li_102, li_120, li_122, li_126, li_200, li_255, li_423, li_555, li_999, li_1000, li_1111, li_2968, li_9999, li_10631, li_12345, li_14092, li_21470, li_65536, li_99233, nz_eq, n1_eq, n1_lt, n1_gt, n1_le, n1_ge, n1_sub, n1_add, nm_add, nz_add, nz_add2, z1_ne, z1_lt, z1_le, nI_1, pk_sub, nI_ltI, nI_leI, nI_eq, ni_neg, ni_nneg, ni_pos0, ni_nle0, ni_m1, gI_eq, gI_ne, xI_sJ, xI_sR, xR_sI, xR_sJ, xJ_sI, xJ_sR, gJ_eq, gJ_ne, gR_eq, gR_ne, if_true, if_false, ite_true, ite_false, not_true_eq_false, not_false_eq_true, decide_true, and_self, true_and, and_true, false_and, and_false, or_true, true_or, or_false, false_or, reduceIte, ne_eq]
theorem isPasP_yes {C : Nat → Nat → Nat} {st : Nat} {m : Mm} (hs : st = 4 ∨ st = 34) (hg : gR m 0 2 = st) (hP : gI m st 7 = nI (C 0 1)) (hn : C 0 1 ≤ 7) {j : Nat} (h : j < C 0 1) : f_X11_isPasser (nI j) m = some (1, m) := by
  unfold f_X11_isPasser
  have h1 : ¬ C 0 1 ≤ j := by omega
  have h2 : ¬ 7 ≤ j := by omega
  simp (disch := omega) only [hg, Lst hs, hP, h1, h2, bnd_e, grd_t, bdI_e, bdV_e, bokA, bokB, ni_inb, ni_cl, nI_add, pk_mul, li_2, li_3, li_4, li_5, li_6, li_7, li_8, li_9, li_10, li_11, li_12, li_13, li_14, li_15, li_16, li_17, li_18, li_19, li_20, li_21, li_22, li_23, li_24, li_25, li_26, li_27, li_28, li_29, li_30, li_31, li_32, li_33, li_34, li_35, li_36, li_37, li_38, li_39, li_40, li_41, li_42, li_43, li_44, li_45, li_46, li_47, li_48, li_49, li_50, li_51, li_52, li_53, li_54, li_55, li_56, li_57, li_58, li_59, li_60, li_61, li_63, li_70, li_96, li_97, li_99, li_100, li_101, li_102, li_120, li_122, li_126, li_200, li_255, li_423, li_555, li_999, li_1000, li_1111, li_2968, li_9999, li_10631, li_12345, li_14092, li_21470, li_65536, li_99233, nz_eq, n1_eq, n1_lt, n1_gt, n1_le, n1_ge, n1_sub, n1_add, nm_add, nz_add, nz_add2, z1_ne, z1_lt, z1_le, nI_1, pk_sub, nI_ltI, nI_leI, nI_eq, ni_neg, ni_nneg, ni_pos0, ni_nle0, ni_m1, gI_eq, gI_ne, xI_sJ, xI_sR, xR_sI, xR_sJ, xJ_sI, xJ_sR, gJ_eq, gJ_ne, gR_eq, gR_ne, if_true, if_false, ite_true, ite_false, not_true_eq_false, not_false_eq_true, decide_true, and_self, true_and, and_true, false_and, and_false, or_true, true_or, or_false, false_or, reduceIte, ne_eq]
theorem isPasM_no {C : Nat → Nat → Nat} {m : Mm} (hP : gI m 2 1 = nI (C 0 1)) {a : Int32} (h : a < 0 ∨ nI (C 0 1) ≤ a) : f_X12_isPasser a m = some (0, m) := by
  unfold f_X12_isPasser
  by_cases h0 : a < 0
  · rw [if_pos h0]; rfl
  · have h1 := h.resolve_left h0
    simp (disch := omega) only [h0, hP, h1, bnd_e, grd_t, bdI_e, bdV_e, bokA, bokB, ni_inb, ni_cl, nI_add, pk_mul, li_2, li_3, li_4, li_5, li_6, li_7, li_8, li_9, li_10, li_11, li_12, li_13, li_14, li_15, li_16, li_17, li_18, li_19, li_20, li_21, li_22, li_23, li_24, li_25, li_26, li_27, li_28, li_29, li_30, li_31, li_32, li_33, li_34, li_35, li_36, li_37, li_38, li_39, li_40, li_41, li_42, li_43, li_44, li_45, li_46, li_47, li_48, li_49, li_50, li_51, li_52, li_53, li_54, li_55, li_56, li_57, li_58, li_59, li_60, li_61, li_63, li_70, li_96, li_97, li_99, li_100, li_101, li_102, li_120, li_122, li_126, li_200, li_255, li_423, li_555, li_999, li_1000, li_1111, li_2968, li_9999, li_10631, li_12345, li_14092, li_21470, li_65536, li_99233, nz_eq, n1_eq, n1_lt, n1_gt, n1_le, n1_ge, n1_sub, n1_add, nm_add, nz_add, nz_add2, z1_ne, z1_lt, z1_le, nI_1, pk_sub, nI_ltI, nI_leI, nI_eq, ni_neg, ni_nneg, ni_pos0, ni_nle0, ni_m1, gI_eq, gI_ne, xI_sJ, xI_sR, xR_sI, xR_sJ, xJ_sI, xJ_sR, gJ_eq, gJ_ne, gR_eq, gR_ne, if_true, if_false, ite_true, ite_false, not_true_eq_false, not_false_eq_true, decide_true, and_self, true_and, and_true, false_and, and_false, or_true, true_or, or_false, false_or, reduceIte, ne_eq]
theorem isPasM_yes {C : Nat → Nat → Nat} {m : Mm} (hP : gI m 2 1 = nI (C 0 1)) (hn : C 0 1 ≤ 7) {j : Nat} (h : j < C 0 1) : f_X12_isPasser (nI j) m = some (1, m) := by
  unfold f_X12_isPasser
  have h1 : ¬ C 0 1 ≤ j := by omega
  simp (disch := omega) only [hP, h1, bnd_e, grd_t, bdI_e, bdV_e, bokA, bokB, ni_inb, ni_cl, nI_add, pk_mul, li_2, li_3, li_4, li_5, li_6, li_7, li_8, li_9, li_10, li_11, li_12, li_13, li_14, li_15, li_16, li_17, li_18, li_19, li_20, li_21, li_22, li_23, li_24, li_25, li_26, li_27, li_28, li_29, li_30, li_31, li_32, li_33, li_34, li_35, li_36, li_37, li_38, li_39, li_40, li_41, li_42, li_43, li_44, li_45, li_46, li_47, li_48, li_49, li_50, li_51, li_52, li_53, li_54, li_55, li_56, li_57, li_58, li_59, li_60, li_61, li_63, li_70, li_96, li_97, li_99, li_100, li_101, li_102, li_120, li_122, li_126, li_200, li_255, li_423, li_555, li_999, li_1000, li_1111, li_2968, li_9999, li_10631, li_12345, li_14092, li_21470, li_65536, li_99233, nz_eq, n1_eq, n1_lt, n1_gt, n1_le, n1_ge, n1_sub, n1_add, nm_add, nz_add, nz_add2, z1_ne, z1_lt, z1_le, nI_1, pk_sub, nI_ltI, nI_leI, nI_eq, ni_neg, ni_nneg, ni_pos0, ni_nle0, ni_m1, gI_eq, gI_ne, xI_sJ, xI_sR, xR_sI, xR_sJ, xJ_sI, xJ_sR, gJ_eq, gJ_ne, gR_eq, gR_ne, if_true, if_false, ite_true, ite_false, not_true_eq_false, not_false_eq_true, decide_true, and_self, true_and, and_true, false_and, and_false, or_true, true_or, or_false, false_or, reduceIte, ne_eq]
theorem isKeyP_no {m : Mm} {a : Int32} (h : a < 0 ∨ nI 12 ≤ a) : f_X11_isKey a m = some (0, m) := by
  unfold f_X11_isKey
  by_cases h0 : a < 0
  · rw [if_pos h0]; rfl
  · have h1 : nI 12 ≤ a := h.resolve_left h0
    simp (disch := omega) only [h0, h1, bnd_e, grd_t, bdI_e, bdV_e, bokA, bokB, ni_inb, ni_cl, nI_add, pk_mul, li_2, li_3, li_4, li_5, li_6, li_7, li_8, li_9, li_10, li_11, li_12, li_13, li_14, li_15, li_16, li_17, li_18, li_19, li_20, li_21, li_22, li_23, li_24, li_25, li_26, li_27, li_28, li_29, li_30, li_31, li_32, li_33, li_34, li_35, li_36, li_37, li_38, li_39, li_40, li_41, li_42, li_43, li_44, li_45, li_46, li_47, li_48, li_49, li_50, li_51, li_52, li_53, li_54, li_55, li_56, li_57, li_58, li_59, li_60, li_61, li_63, li_70, li_96, li_97, li_99, li_100, li_101, li_102, li_120, li_122, li_126, li_200, li_255, li_423, li_555, li_999, li_1000, li_1111, li_2968, li_9999, li_10631, li_12345, li_14092, li_21470, li_65536, li_99233, nz_eq, n1_eq, n1_lt, n1_gt, n1_le, n1_ge, n1_sub, n1_add, nm_add, nz_add, nz_add2, z1_ne, z1_lt, z1_le, nI_1, pk_sub, nI_ltI, nI_leI, nI_eq, ni_neg, ni_nneg, ni_pos0, ni_nle0, ni_m1, gI_eq, gI_ne, xI_sJ, xI_sR, xR_sI, xR_sJ, xJ_sI, xJ_sR, gJ_eq, gJ_ne, gR_eq, gR_ne, if_true, if_false, ite_true, ite_false, not_true_eq_false, not_false_eq_true, decide_true, and_self, true_and, and_true, false_and, and_false, or_true, true_or, or_false, false_or, reduceIte, ne_eq]
theorem isKeyP_yes {m : Mm} {j : Nat} (h : j < 12) : f_X11_isKey (nI j) m = some (1, m) := by
  unfold f_X11_isKey
  have h1 : ¬ 12 ≤ j := by omega
  simp (disch := omega) only [h1, bnd_e, grd_t, bdI_e, bdV_e, bokA, bokB, ni_inb, ni_cl, nI_add, pk_mul, li_2, li_3, li_4, li_5, li_6, li_7, li_8, li_9, li_10, li_11, li_12, li_13, li_14, li_15, li_16, li_17, li_18, li_19, li_20, li_21, li_22, li_23, li_24, li_25, li_26, li_27, li_28, li_29, li_30, li_31, li_32, li_33, li_34, li_35, li_36, li_37, li_38, li_39, li_40, li_41, li_42, li_43, li_44, li_45, li_46, li_47, li_48, li_49, li_50, li_51, li_52, li_53, li_54, li_55, li_56, li_57, li_58, li_59, li_60, li_61, li_63, li_70, li_96, li_97, li_99, li_100, li_101, li_102, li_120, li_122, li_126, li_200, li_255, li_423, li_555, li_999, li_1000, li_1111, li_2968, li_9999, li_10631, li_12345, li_14092, li_21470, li_65536, li_99233, nz_eq, n1_eq, n1_lt, n1_gt, n1_le, n1_ge, n1_sub, n1_add, nm_add, nz_add, nz_add2, z1_ne, z1_lt, z1_le, nI_1, pk_sub, nI_ltI, nI_leI, nI_eq, ni_neg, ni_nneg, ni_pos0, ni_nle0, ni_m1, gI_eq, gI_ne, xI_sJ, xI_sR, xR_sI, xR_sJ, xJ_sI, xJ_sR, gJ_eq, gJ_ne, gR_eq, gR_ne, if_true, if_false, ite_true, ite_false, not_true_eq_false, not_false_eq_true, decide_true, and_self, true_and, and_true, false_and, and_false, or_true, true_or, or_false, false_or, reduceIte, ne_eq]
theorem isKeyM_no {m : Mm} {a : Int32} (h : a < 0 ∨ nI 12 ≤ a) : f_X12_isKey a m = some (0, m) := by
  unfold f_X12_isKey
  by_cases h0 : a < 0
  · rw [if_pos h0]; rfl
  · have h1 : nI 12 ≤ a := h.resolve_left h0
    simp (disch := omega) only [h0, h1, bnd_e, grd_t, bdI_e, bdV_e, bokA, bokB, ni_inb, ni_cl, nI_add, pk_mul, li_2, li_3, li_4, li_5, li_6, li_7, li_8, li_9, li_10, li_11, li_12, li_13, li_14, li_15, li_16, li_17, li_18, li_19, li_20, li_21, li_22, li_23, li_24, li_25, li_26, li_27, li_28, li_29, li_30, li_31, li_32, li_33, li_34, li_35, li_36, li_37, li_38, li_39, li_40, li_41, li_42, li_43, li_44, li_45, li_46, li_47, li_48, li_49, li_50, li_51, li_52, li_53, li_54, li_55, li_56, li_57, li_58, li_59, li_60, li_61, li_63, li_70, li_96, li_97, li_99, li_100, li_101, li_102, li_120, li_122, li_126, li_200, li_255, li_423, li_555, li_999, li_1000, li_1111, li_2968, li_9999, li_10631, li_12345, li_14092, li_21470, li_65536, li_99233, nz_eq, n1_eq, n1_lt, n1_gt, n1_le, n1_ge, n1_sub, n1_add, nm_add, nz_add, nz_add2, z1_ne, z1_lt, z1_le, nI_1, pk_sub, nI_ltI, nI_leI, nI_eq, ni_neg, ni_nneg, ni_pos0, ni_nle0, ni_m1, gI_eq, gI_ne, xI_sJ, xI_sR, xR_sI, xR_sJ, xJ_sI, xJ_sR, gJ_eq, gJ_ne, gR_eq, gR_ne, if_true, if_false, ite_true, ite_false, not_true_eq_false, not_false_eq_true, decide_true, and_self, true_and, and_true, false_and, and_false, or_true, true_or, or_false, false_or, reduceIte, ne_eq]
theorem isKeyM_yes {m : Mm} {j : Nat} (h : j < 12) : f_X12_isKey (nI j) m = some (1, m) := by
  unfold f_X12_isKey
  have h1 : ¬ 12 ≤ j := by omega
  simp (disch := omega) only [h1, bnd_e, grd_t, bdI_e, bdV_e, bokA, bokB, ni_inb, ni_cl, nI_add, pk_mul, li_2, li_3, li_4, li_5, li_6, li_7, li_8, li_9, li_10, li_11, li_12, li_13, li_14, li_15, li_16, li_17, li_18, li_19, li_20, li_21, li_22, li_23, li_24, li_25, li_26, li_27, li_28, li_29, li_30, li_31, li_32, li_33, li_34, li_35, li_36, li_37, li_38, li_39, li_40, li_41, li_42, li_43, li_44, li_45, li_46, li_47, li_48, li_49, li_50, li_51, li_52, li_53, li_54, li_55, li_56, li_57, li_58, li_59, li_60, li_61, li_63, li_70, li_96, li_97, li_99, li_100, li_101, li_102, li_120, li_122, li_126, li_200, li_255, li_423, li_555, li_999, li_1000, li_1111, li_2968, li_9999, li_10631, li_12345, li_14092, li_21470, li_65536, li_99233, nz_eq, n1_eq, n1_lt, n1_gt, n1_le, n1_ge, n1_sub, n1_add, nm_add, nz_add, nz_add2, z1_ne, z1_lt, z1_le, nI_1, pk_sub, nI_ltI, nI_leI, nI_eq, ni_neg, ni_nneg, ni_pos0, ni_nle0, ni_m1, gI_eq, gI_ne, xI_sJ, xI_sR, xR_sI, xR_sJ, xJ_sI, xJ_sR, gJ_eq, gJ_ne, gR_eq, gR_ne, if_true, if_false, ite_true, ite_false, not_true_eq_false, not_false_eq_true, decide_true, and_self, true_and, and_true, false_and, and_false, or_true, true_or, or_false, false_or, reduceIte, ne_eq]
/-! 7: key -/
theorem st_key : St_key Rel := by
  intro a mP mM ⟨C, st, S, hR⟩
  have hK : Rel mP (sI mM 0 0 0) := ⟨C, st, S, hR.keep (SaP.refl _ _) (SaM.thr _ _)⟩
  rcases pk_ix a (n := 12) (by decide) with h | h | ⟨j, hj, rfl⟩
  · refine ⟨-1, mP, sI mM 0 0 0, ?_, ?_, hK⟩
    · unfold f_X11_key
      simp (disch := omega) only [isKeyP_no (Or.inl h), bnd_e, grd_t, bdI_e, bdV_e, bokA, bokB, ni_inb, ni_cl, nI_add, pk_mul, li_2, li_3, li_4, li_5, li_6, li_7, li_8, li_9, li_10, li_11, li_12, li_13, li_14, li_15, li_16, li_17, li_18, li_19, li_20, li_21, li_22, li_23, li_24, li_25, li_26, li_27, li_28, li_29, li_30, li_31, li_32, li_33, li_34, li_35, li_36, li_37, li_38, li_39, li_40, li_41, li_42, li_43, li_44, li_45, li_46, li_47, li_48, li_49, li_50, li_51, li_52, li_53, li_54, li_55, li_56, li_57, li_58, li_59, li_60, li_61, li_63, li_70, li_96, li_97, li_99, li_100, li_101, li_102, li_120, li_122, li_126, li_200, li_255, li_423, li_555, li_999, li_1000, li_1111, li_2968, li_9999, li_10631, li_12345, li_14092, li_21470, li_65536, li_99233, nz_eq, n1_eq, n1_lt, n1_gt, n1_le, n1_ge, n1_sub, n1_add, nm_add, nz_add, nz_add2, z1_ne, z1_lt, z1_le, nI_1, pk_sub, nI_ltI, nI_leI, nI_eq, ni_neg, ni_nneg, ni_pos0, ni_nle0, ni_m1, gI_eq, gI_ne, xI_sJ, xI_sR, xR_sI, xR_sJ, xJ_sI, xJ_sR, gJ_eq, gJ_ne, gR_eq, gR_ne, if_true, if_false, ite_true, ite_false, not_true_eq_false, not_false_eq_true, decide_true, and_self, true_and, and_true, false_and, and_false, or_true, true_or, or_false, false_or, reduceIte, ne_eq]
    · unfold f_X12_key
      simp (disch := omega) only [isKeyM_no (Or.inl h), bnd_e, grd_t, bdI_e, bdV_e, bokA, bokB, ni_inb, ni_cl, nI_add, pk_mul, li_2, li_3, li_4, li_5, li_6, li_7, li_8, li_9, li_10, li_11, li_12, li_13, li_14, li_15, li_16, li_17, li_18, li_19, li_20, li_21, li_22, li_23, li_24, li_25, li_26, li_27, li_28, li_29, li_30, li_31, li_32, li_33, li_34, li_35, li_36, li_37, li_38, li_39, li_40, li_41, li_42, li_43, li_44, li_45, li_46, li_47, li_48, li_49, li_50, li_51, li_52, li_53, li_54, li_55, li_56, li_57, li_58, li_59, li_60, li_61, li_63, li_70, li_96, li_97, li_99, li_100, li_101, li_102, li_120, li_122, li_126, li_200, li_255, li_423, li_555, li_999, li_1000, li_1111, li_2968, li_9999, li_10631, li_12345, li_14092, li_21470, li_65536, li_99233, nz_eq, n1_eq, n1_lt, n1_gt, n1_le, n1_ge, n1_sub, n1_add, nm_add, nz_add, nz_add2, z1_ne, z1_lt, z1_le, nI_1, pk_sub, nI_ltI, nI_leI, nI_eq, ni_neg, ni_nneg, ni_pos0, ni_nle0, ni_m1, gI_eq, gI_ne, xI_sJ, xI_sR, xR_sI, xR_sJ, xJ_sI, xJ_sR, gJ_eq, gJ_ne, gR_eq, gR_ne, if_true, if_false, ite_true, ite_false, not_true_eq_false, not_false_eq_true, decide_true, and_self, true_and, and_true, false_and, and_false, or_true, true_or, or_false, false_or, reduceIte, ne_eq]
  · refine ⟨-1, mP, sI mM 0 0 0, ?_, ?_, hK⟩
    · unfold f_X11_key
      simp (disch := omega) only [isKeyP_no (Or.inr h), bnd_e, grd_t, bdI_e, bdV_e, bokA, bokB, ni_inb, ni_cl, nI_add, pk_mul, li_2, li_3, li_4, li_5, li_6, li_7, li_8, li_9, li_10, li_11, li_12, li_13, li_14, li_15, li_16, li_17, li_18, li_19, li_20, li_21, li_22, li_23, li_24, li_25, li_26, li_27, li_28, li_29, li_30, li_31, li_32, li_33, li_34, li_35, li_36, li_37, li_38, li_39, li_40, li_41, li_42, li_43, li_44, li_45, li_46, li_47, li_48, li_49, li_50, li_51, li_52, li_53, li_54, li_55, li_56, li_57, li_58, li_59, li_60, li_61, li_63, li_70, li_96, li_97, li_99, li_100, li_101, li_102, li_120, li_122, li_126, li_200, li_255, li_423, li_555, li_999, li_1000, li_1111, li_2968, li_9999, li_10631, li_12345, li_14092, li_21470, li_65536, li_99233, nz_eq, n1_eq, n1_lt, n1_gt, n1_le, n1_ge, n1_sub, n1_add, nm_add, nz_add, nz_add2, z1_ne, z1_lt, z1_le, nI_1, pk_sub, nI_ltI, nI_leI, nI_eq, ni_neg, ni_nneg, ni_pos0, ni_nle0, ni_m1, gI_eq, gI_ne, xI_sJ, xI_sR, xR_sI, xR_sJ, xJ_sI, xJ_sR, gJ_eq, gJ_ne, gR_eq, gR_ne, if_true, if_false, ite_true, ite_false, not_true_eq_false, not_false_eq_true, decide_true, and_self, true_and, and_true, false_and, and_false, or_true, true_or, or_false, false_or, reduceIte, ne_eq]
    · unfold f_X12_key
      simp (disch := omega) only [isKeyM_no (Or.inr h), bnd_e, grd_t, bdI_e, bdV_e, bokA, bokB, ni_inb, ni_cl, nI_add, pk_mul, li_2, li_3, li_4, li_5, li_6, li_7, li_8, li_9, li_10, li_11, li_12, li_13, li_14, li_15, li_16, li_17, li_18, li_19, li_20, li_21, li_22, li_23, li_24, li_25, li_26, li_27, li_28, li_29, li_30, li_31, li_32, li_33, li_34, li_35, li_36, li_37, li_38, li_39, li_40, li_41, li_42, li_43, li_44, li_45, li_46, li_47, li_48, li_49, li_50, li_51, li_52, li_53, li_54, li_55, li_56, li_57, li_58, li_59, li_60, li_61, li_63, li_70, li_96, li_97, li_99, li_100, li_101, li_102, li_120, li_122, li_126, li_200, li_255, li_423, li_555, li_999, li_1000, li_1111, li_2968, li_9999, li_10631, li_12345, li_14092, li_21470, li_65536, li_99233, nz_eq, n1_eq, n1_lt, n1_gt, n1_le, n1_ge, n1_sub, n1_add, nm_add, nz_add, nz_add2, z1_ne, z1_lt, z1_le, nI_1, pk_sub, nI_ltI, nI_leI, nI_eq, ni_neg, ni_nneg, ni_pos0, ni_nle0, ni_m1, gI_eq, gI_ne, xI_sJ, xI_sR, xR_sI, xR_sJ, xJ_sI, xJ_sR, gJ_eq, gJ_ne, gR_eq, gR_ne, if_true, if_false, ite_true, ite_false, not_true_eq_false, not_false_eq_true, decide_true, and_self, true_and, and_true, false_and, and_false, or_true, true_or, or_false, false_or, reduceIte, ne_eq]
  · have h1 := hR.2.2.1.2.1.2.2.2.2.2 j hj
    have h2 := hR.2.2.1.2.2 (5 + j) (by omega)
    rw [Nat.zero_add] at h2
    refine ⟨S (5 + j), mP, sI mM 0 0 0, ?_, ?_, hK⟩
    · unfold f_X11_key
      simp (disch := omega) only [isKeyP_yes hj, h1, bnd_e, grd_t, bdI_e, bdV_e, bokA, bokB, ni_inb, ni_cl, nI_add, pk_mul, li_2, li_3, li_4, li_5, li_6, li_7, li_8, li_9, li_10, li_11, li_12, li_13, li_14, li_15, li_16, li_17, li_18, li_19, li_20, li_21, li_22, li_23, li_24, li_25, li_26, li_27, li_28, li_29, li_30, li_31, li_32, li_33, li_34, li_35, li_36, li_37, li_38, li_39, li_40, li_41, li_42, li_43, li_44, li_45, li_46, li_47, li_48, li_49, li_50, li_51, li_52, li_53, li_54, li_55, li_56, li_57, li_58, li_59, li_60, li_61, li_63, li_70, li_96, li_97, li_99, li_100, li_101, li_102, li_120, li_122, li_126, li_200, li_255, li_423, li_555, li_999, li_1000, li_1111, li_2968, li_9999, li_10631, li_12345, li_14092, li_21470, li_65536, li_99233, nz_eq, n1_eq, n1_lt, n1_gt, n1_le, n1_ge, n1_sub, n1_add, nm_add, nz_add, nz_add2, z1_ne, z1_lt, z1_le, nI_1, pk_sub, nI_ltI, nI_leI, nI_eq, ni_neg, ni_nneg, ni_pos0, ni_nle0, ni_m1, gI_eq, gI_ne, xI_sJ, xI_sR, xR_sI, xR_sJ, xJ_sI, xJ_sR, gJ_eq, gJ_ne, gR_eq, gR_ne, if_true, if_false, ite_true, ite_false, not_true_eq_false, not_false_eq_true, decide_true, and_self, true_and, and_true, false_and, and_false, or_true, true_or, or_false, false_or, reduceIte, ne_eq]
    · unfold f_X12_key
      simp (disch := omega) only [isKeyM_yes hj, h2, bnd_e, grd_t, bdI_e, bdV_e, bokA, bokB, ni_inb, ni_cl, nI_add, pk_mul, li_2, li_3, li_4, li_5, li_6, li_7, li_8, li_9, li_10, li_11, li_12, li_13, li_14, li_15, li_16, li_17, li_18, li_19, li_20, li_21, li_22, li_23, li_24, li_25, li_26, li_27, li_28, li_29, li_30, li_31, li_32, li_33, li_34, li_35, li_36, li_37, li_38, li_39, li_40, li_41, li_42, li_43, li_44, li_45, li_46, li_47, li_48, li_49, li_50, li_51, li_52, li_53, li_54, li_55, li_56, li_57, li_58, li_59, li_60, li_61, li_63, li_70, li_96, li_97, li_99, li_100, li_101, li_102, li_120, li_122, li_126, li_200, li_255, li_423, li_555, li_999, li_1000, li_1111, li_2968, li_9999, li_10631, li_12345, li_14092, li_21470, li_65536, li_99233, nz_eq, n1_eq, n1_lt, n1_gt, n1_le, n1_ge, n1_sub, n1_add, nm_add, nz_add, nz_add2, z1_ne, z1_lt, z1_le, nI_1, pk_sub, nI_ltI, nI_leI, nI_eq, ni_neg, ni_nneg, ni_pos0, ni_nle0, ni_m1, gI_eq, gI_ne, xI_sJ, xI_sR, xR_sI, xR_sJ, xJ_sI, xJ_sR, gJ_eq, gJ_ne, gR_eq, gR_ne, if_true, if_false, ite_true, ite_false, not_true_eq_false, not_false_eq_true, decide_true, and_self, true_and, and_true, false_and, and_false, or_true, true_or, or_false, false_or, reduceIte, ne_eq]
