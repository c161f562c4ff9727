theorem lop_p {σ : Type} (z : σ) (b : σ → σ) : ∀ N, 0 < N → lop z b N = b (lop z b (N - 1))
  | 0, h => absurd h (Nat.lt_irrefl _)
  | _ + 1, _ => rfl
section
variable {κe : Nat → Int32 → Int32 → Mm → Option (Int32 × Mm)} {κp : Nat → Int32 → Mm → Option (Int32 × Mm)} {κ : Mm → Option (Int32 × Mm)} {b δ L : Nat}
theorem cZeroL {N : Nat} {x y : Int32} {m : Mm} (h : 0 < N) : lop (fun _ _ _ _ => none) (f_X5_expression_B42 κe κp b (nI δ) (nI L)) N 0 x y m = some (0, m) := by
  rw [lop_p _ _ N h]
  exact cZero
theorem j37 (x : Int32) (m : Mm) : f_X5_expression_J37 κe κp b (nI δ) (nI L) x 1000 m = lop (fun _ _ _ _ => none) (f_X5_expression_B42 κe κp b (nI δ) (nI L)) 4000 x (nI 1000) (nI 0) m := by
  unfold f_X5_expression_J37
  rw [li_1000]
  rfl
theorem j37a (x : Int32) (m : Mm) : f_X5_expression_J37 κe κp b (nI δ) (nI L) x 1 m = lop (fun _ _ _ _ => none) (f_X5_expression_B42 κe κp b (nI δ) (nI L)) 4000 x (nI 1) (nI 0) m := by
  unfold f_X5_expression_J37
  rw [li_1]
  rfl
theorem exN {m : Mm} (hκ : ∀ m f, (if (3 : Int32) ≤ nI L then bdI (κp b (nI δ) m) f else bdI (κe b (nI δ) (nI L + 1) m) f) = (bdI (κ m) f : Option (Int32 × Mm))) (hL : ¬ nI L = 1) : f_X5_expression_r κe κp b (nI δ) (nI L) m = bdI (κ m) (fun x m => lop (fun _ _ _ _ => none) (f_X5_expression_B42 κe κp b (nI δ) (nI L)) 4000 x (nI 1000) (nI 0) m) := by
  have e := hκ m (fun x m => f_X5_expression_J23 κe κp b (nI δ) (nI L) x m)
  unfold f_X5_expression_r
  refine e.trans ?_
  have j : (fun x m => f_X5_expression_J23 κe κp b (nI δ) (nI L) x m) = (fun x m => lop (fun _ _ _ _ => none) (f_X5_expression_B42 κe κp b (nI δ) (nI L)) 4000 x (nI 1000) (nI 0) m) := by
    funext x m
    unfold f_X5_expression_J23
    rw [if_pos hL]
    exact j37 x m
  rw [j]
theorem ex1 {m : Mm} (hκ : ∀ m f, (if (3 : Int32) ≤ nI 1 then bdI (κp b (nI δ) m) f else bdI (κe b (nI δ) (nI 1 + 1) m) f) = (bdI (κ m) f : Option (Int32 × Mm))) : f_X5_expression_r κe κp b (nI δ) (nI 1) m = bdI (κ m) (fun x m => lop (fun _ _ _ _ => none) (f_X5_expression_B42 κe κp b (nI δ) (nI 1)) 4000 x (nI 1) (nI 0) m) := by
  have e := hκ m (fun x m => f_X5_expression_J23 κe κp b (nI δ) (nI 1) x m)
  unfold f_X5_expression_r
  refine e.trans ?_
  have j : (fun x m => f_X5_expression_J23 κe κp b (nI δ) (nI 1) x m) = (fun x m => lop (fun _ _ _ _ => none) (f_X5_expression_B42 κe κp b (nI δ) (nI 1)) 4000 x (nI 1) (nI 0) m) := by
    funext x m
    unfold f_X5_expression_J23
    rw [if_neg (show ¬ ¬ nI 1 = 1 from fun q => q rfl)]
    exact j37a x m
  rw [j]
end
theorem WMl.up {cb cb' δ δ' e e' a k : Nat} (h : WMl cb' δ' e' a k) (h1 : cb ≤ cb') (h2 : δ ≤ δ') (h3 : e ≤ e') : WMl cb δ e a k := by
  unfold WMl at h ⊢
  omega
theorem lvlN {T : Nat → Nat} {n l b δ e eo L : Nat} {MS MSo : List Nat → ((Nat → Int32) → Int32) → Prop} {vbo : Nat} {Eno En : Tk → Mm → Prop} {κe : Nat → Int32 → Int32 → Mm → Option (Int32 × Mm)} {κp : Nat → Int32 → Mm → Option (Int32 × Mm)} {κ : Mm → Option (Int32 × Mm)} (hT : TpOK T n) (hκ : ∀ m f, (if (3 : Int32) ≤ nI L then bdI (κp b (nI δ) m) f else bdI (κe b (nI δ) (nI L + 1) m) f) = (bdI (κ m) f : Option (Int32 × Mm))) (hOp : OpT T n l b δ eo MSo vbo Eno κ) (hL : ¬ nI L = 1) (hpre : eo ≤ δ → L = 0) (hee : e ≤ eo) (h1 : 1 ≤ vbo) (hone : ∀ g v, MSo g v → MS g v) (hst : ∀ cb d c g mP mM, PJ T n l b cb d c g mP mM → Eno d mM → ((∀ mP, f_X5_stepOf (nI (ctk T d)) (nI L) mP = some (0, mP)) ∧ En d mM) ∨ ∃ x y, Opr T n δ e L x y d (cb + g.length) mM ∧ ∀ gM v gM' w, MS gM v → MSo gM' w → MS (gM ++ y :: gM') (fun f => evJoin x (v f) (w f))) : OpT T n l b δ e MS (vbo + 1) En (f_X5_expression_r κe κp b (nI δ) (nI L)) := by
  intro cb d c g mP mM hJ ho h17
  have n0 := hT.1
  rw [exN hκ hL]
  rcases hOp cb d c g mP mM hJ ho (fun q => h17 (by omega)) with bad | gd
  · obtain ⟨nP, nM, e1, e2, e3, e4, e5, e6⟩ := bad
    rw [e1, bdI_e, cZeroL (by decide)]
    exact Or.inl ⟨nP, nM, rfl, e2, e3, e4, e5, e6.mono (fun a k q => q.up (Nat.le_refl _) (Nat.le_refl _) hee)⟩
  · obtain ⟨nP, nM, d', cP, gM, v, t, e1, e2, hC, e3, e4, e5, e6, e7⟩ := gd
    obtain ⟨c1, c2, c3, c4, c5⟩ := hC
    rw [e1, bdI_e]
    exact loopB hT hκ hOp hJ.1.2.2.2.1 ho hpre hee h1 hst (n - tkb d') 4000 0 t d' cP gM v nP nM (Nat.le_refl _) (by omega) (by omega) e2 ⟨c1, c2, c3, c4.up (by omega), c5⟩ e3 (hone _ _ e4) e5 e6 (e7.mono (fun a k q => q.up (Nat.le_refl _) (Nat.le_refl _) hee))
theorem lvl1 {T : Nat → Nat} {n l b δ vbo : Nat} {κe : Nat → Int32 → Int32 → Mm → Option (Int32 × Mm)} {κp : Nat → Int32 → Mm → Option (Int32 × Mm)} {κ : Mm → Option (Int32 × Mm)} (hT : TpOK T n) (hδ : δ < 7) (hκ : ∀ m f, (if (3 : Int32) ≤ nI 1 then bdI (κp b (nI δ) m) f else bdI (κe b (nI δ) (nI 1 + 1) m) f) = (bdI (κ m) f : Option (Int32 × Mm))) (hOp : OpT T n l b δ (δ + 1) (M2 δ) vbo (fun d _ => E2 T d) κ) (h1 : 1 ≤ vbo) : OpT T n l b δ δ (M1 δ) (vbo + 1) (E1 T δ) (f_X5_expression_r κe κp b (nI δ) (nI 1)) := by
  intro cb d c g mP mM hJ ho h17
  have n0 := hT.1
  rw [ex1 hκ]
  rcases hOp cb d c g mP mM hJ ho (fun q => absurd q (by omega)) with bad | gd
  · obtain ⟨nP, nM, e1, e2, e3, e4, e5, e6⟩ := bad
    rw [e1, bdI_e, cZeroL (by decide)]
    exact Or.inl ⟨nP, nM, rfl, e2, e3, e4, e5, e6.mono (fun a k q => q.up (Nat.le_refl _) (Nat.le_refl _) (Nat.le_succ _))⟩
  · obtain ⟨nP, nM, d', cP, gM, v, t, e1, e2, ⟨c1, c2, c3, c4, c5⟩, e3, e4, e5, e6, e7⟩ := gd
    rw [e1, bdI_e, lop_p _ _ 4000 (by decide)]
    have k17 : gI nM 17 δ = 0 := (e7.1 _ _ (by unfold WMl; omega)).trans (h17 (Nat.le_refl _))
    have e7' : Kp (WMl (cb + g.length) δ δ) mM nM := e7.mono (fun a k q => q.up (Nat.le_refl _) (Nat.le_refl _) (Nat.le_succ _))
    have hC' : Cor T n l b cb d d' c g cP gM v (vbo + 1) nP nM := ⟨c1, c2, c3, c4.up (by omega), c5⟩
    rcases cmpS hT hδ c1 k17 e5 with ⟨s1, s2⟩ | ⟨x, y, s1, s2⟩
    · rw [cStop (lim := 1) (j := 0) (by decide) (by decide) c1.1.2.1.2.2.2.1 (s1 nP)]
      exact Or.inr ⟨nP, nM, d', cP, gM, v, t, rfl, e2, hC', e3, ⟨Mte.one e4.1, Ste.one e4.2⟩, s2, e6, e7'⟩
    · rcases stpB (lm := fun N => rdL N (nI δ) 1 mM) (MS := M1 δ) (lim := 1) (j := 0) hT hκ hOp hJ.1.2.2.2.1 ho e2 hC' e3 e6 e7' s1 (fun q => absurd q (by omega)) (Nat.le_succ _) (fun gM' w q => s2 gM v gM' w e4 q) h1 (by decide) (by decide) with ⟨nP', f1, f2⟩ | ⟨nP', nM', d2, cP', gM', v', t', f1, f2, f3, f4, f5, f6, f7, f8, f9, f10⟩
      · rw [f1, cZeroL (by decide)]
        exact Or.inl f2
      · simp only [Nat.zero_add] at f1
        rw [f1, lop_p _ _ (4000 - 1) (by decide), cLim]
        exact Or.inr ⟨nP', nM', d2, cP', gM', v', t', rfl, f2, f3, f4, f5, ⟨f6, Or.inr (by rw [f10 rfl (Nat.lt_succ_self _)]; decide)⟩, f7, f8⟩
