/-- an operator and what stands behind it -/
theorem stpB {T : Nat → Nat} {n l b cb δ e eo L : Nat} {MS MSo : List Nat → ((Nat → Int32) → Int32) → Prop} {vbo : Nat} {Eno : Tk → Mm → Prop} {κe : Nat → Int32 → Int32 → Mm → Option (Int32 × Mm)} {κp : Nat → Int32 → Mm → Option (Int32 × Mm)} {κ : Mm → Option (Int32 × Mm)} {d d' : Tk} {c cP : List Int32} {g gM : List Nat} {mP mM nP nM : Mm} {lm : Nat → Option (Int32 × Mm)} {v : (Nat → Int32) → Int32} {t y lim j : Nat} {x : Int32} (hT : TpOK T n) (hκ : ∀ m f, (if (3 : Int32) ≤ nI L then bdI (κp b (nI δ) m) f else bdI (κe b (nI δ) (nI L + 1) m) f) = (bdI (κ m) f : Option (Int32 × Mm))) (hOp : OpT T n l b δ eo MSo vbo Eno κ) (hc0 : c.length ≤ tkb d) (ho : δ = 0 ∨ ¬ gI mM 16 δ = 1) (hlm : ∀ N, lm (N + t) = rdL N (nI δ) 0 nM) (hC : Cor T n l b cb d d' c g cP gM v (vbo + 1) nP nM) (ht : t ≤ tkb d' - tkb d) (hk : Kp (WLp b) mP nP) (hkM : Kp (WMl (cb + g.length) δ e) mM nM) (hop : Opr T n δ e L x y d' (cb + (g ++ gM).length) nM) (hpre : eo ≤ δ → L = 0) (hee : e ≤ eo) (hcomb : ∀ gM' w, MSo gM' w → MS (gM ++ y :: gM') (fun f => evJoin x (v f) (w f))) (h1 : 1 ≤ vbo) (hl : lim ≤ 1000) (hj : j < lim) : (∃ nP', (∀ k42, f_X5_expression_B42 κe κp b (nI δ) (nI L) k42 1 (nI lim) (nI j) nP = k42 0 (nI lim) (nI (j + 1)) nP') ∧ Bad n b (cb + g.length) δ e d mP mM (some (0, nP')) lm) ∨ (∃ nP' nM' d2 cP' gM' v' t', (∀ k42, f_X5_expression_B42 κe κp b (nI δ) (nI L) k42 1 (nI lim) (nI j) nP = k42 1 (nI lim) (nI (j + 1)) nP') ∧ (∀ N, lm (N + t') = rdL N (nI δ) 0 nM') ∧ Cor T n l b cb d d2 c g cP' gM' v' (vbo + 1) nP' nM' ∧ t' ≤ tkb d2 - tkb d ∧ MS gM' v' ∧ Eno d2 nM' ∧ Kp (WLp b) mP nP' ∧ Kp (WMl (cb + g.length) δ e) mM nM' ∧ tkb d' < tkb d2 ∧ (L = 1 → δ < eo → gI nM' 17 δ = 1)) := by
  obtain ⟨hJ, c1, c2, c3, c4, c5, c6, c7⟩ := hC
  obtain ⟨o1, o2, o3, o4, o5, o6, m1, m', o7, o8, o9, o10, o11, o12, o13, o14, o15⟩ := hop
  obtain ⟨hP, hM, hc, hb, hcb⟩ := id hJ
  obtain ⟨ok, rP, lw, cl, fl, l1, b4⟩ := id hP
  have n0 := hT.1
  have kb := ok.2.2.2.2.1 o6
  have tok := tk_ok (T := T) (n := n) ok.2.1
  have tn := tok.1.1
  obtain ⟨m16, ea, r1, r2⟩ := adv_P hT ok rP
  have lw1 : LwP (c ++ cP) b m16 := lw.keep (r2.1 _ _ (by omega)) (fun k => r2.1 _ _ (by omega))
  have lt1 : LwT T n l b (tk T n (tke d')) ((c ++ cP) ++ []) m16 := by
    rw [List.append_nil]
    exact ⟨tok.1, r1, lw1, by omega, (r2.1 _ _ (by omega)).trans fl, l1, b4⟩
  have hj1 := hJ.put hT o6 lt1 o8 o9 o10 o11 o12
  rw [List.append_nil] at hj1
  have lg : (g ++ gM ++ [y]).length = g.length + gM.length + 1 := by rw [List.length_append, List.length_append]; rfl
  have lg2 : (g ++ gM).length = g.length + gM.length := List.length_append
  have k16 : gI m' 16 δ = gI mM 16 δ := by
    rw [o9.1 _ _ (by omega), o15.1 _ _ (by unfold WMl; omega), hkM.1 _ _ (by unfold WMl; omega)]
  have km' : Kp (WMl (cb + g.length) δ e) mM m' := (hkM.trans (o15.mono (fun a k q => by unfold WMl at q ⊢; omega))).trans (o9.mono (fun a k q => by unfold WMl; omega))
  have kP16 : Kp (WLp b) mP m16 := hk.trans (r2.mono (fun a k q => by unfold WLp WRP; omega))
  have body : ∀ k42 : Int32 → Int32 → Int32 → Mm → Option (Int32 × Mm), f_X5_expression_B42 κe κp b (nI δ) (nI L) k42 1 (nI lim) (nI j) nP = bdI (κ m16) fun x18 m17 => bdV (f_X2_add b x m17) fun m26 => k42 x18 (nI lim) (nI (j + 1)) m26 := fun k42 => cBody hκ hl hj rP.2.2.2.1 (o1 nP) o2 ea
  have stp : ∀ N, lm (N + 1 + t) = rdL N (nI δ) 1 m' := fun N => by rw [hlm, rdL_s, o7]
  rcases hOp cb (tk T n (tke d')) (c ++ cP) (g ++ gM ++ [y]) m16 m' hj1 (by rw [k16]; exact ho) (fun q => by rw [o9.1 _ _ (by omega)]; exact o13 (hpre q)) with bad | gd
  · obtain ⟨nP2, nM2, e1, e2, e3, e4, e5, e6⟩ := bad
    obtain ⟨nP3, a1, a2⟩ := addT (x := x) (m := nP2) l1
    have e32 : gI nP3 3 2 = gI nP2 3 2 := a2.1 _ _ (by omega)
    refine Or.inl ⟨nP3, fun k42 => by rw [body, e1, bdI_e, a1, bdV_e], nP3, nM2, rfl, fun N hN => ?_, by rw [e32]; exact e3, by rw [e32]; exact e4, (kP16.trans e5).trans (a2.mono (fun a k q => by unfold WLp; omega)), km'.trans (e6.mono (fun a k q => by rw [lg] at q; unfold WMl at q ⊢; omega))⟩
    obtain ⟨N', rfl⟩ : ∃ N', N = N' + 1 + t := ⟨N - 1 - t, by omega⟩
    rw [stp]
    exact e2 N' (by omega)
  · obtain ⟨nP2, nM2, d2, cP2, gM2, w, t2, e1, e2, ⟨hJ2, f1, f2, f3, f4, f5, f6, f7⟩, e3, e4, e5, e6, e7⟩ := gd
    obtain ⟨hP2, hM2, hc2, hb2, hcb2⟩ := id hJ2
    obtain ⟨ok2, rP2, lw2, cl2, fl2, -, -⟩ := id hP2
    have tn2 := ok2.1
    have cc1 : (c ++ cP).length = c.length + cP.length := List.length_append
    have cc2 : (c ++ cP ++ cP2).length = c.length + cP.length + cP2.length := by rw [List.length_append, cc1]
    obtain ⟨nP3, a1, a2, a3⟩ := addC (x := x) l1 lw2 (by omega)
    have cc3 : (c ++ cP ++ cP2 ++ [x]).length = c.length + cP.length + cP2.length + 1 := by rw [List.length_append, cc2]; rfl
    have as1 : c ++ (cP ++ cP2 ++ [x]) = c ++ cP ++ cP2 ++ [x] := by simp only [List.append_assoc]
    have as2 : g ++ (gM ++ y :: gM2) = g ++ gM ++ [y] ++ gM2 := by simp only [List.append_assoc, List.cons_append, List.nil_append]
    refine Or.inr ⟨nP3, nM2, d2, cP ++ cP2 ++ [x], gM ++ y :: gM2, fun f => evJoin x (v f) (w f), t2 + 1 + t, fun k42 => by rw [body, e1, bdI_e, a1, bdV_e], fun N => ?_, ⟨?_, by omega, ?_, Vpp.bin o3 c3 f3 h1, fun f g' hfg => by show evJoin x (v f) (w f) = evJoin x (v g') (w g'); rw [c4 f g' hfg, f4 f g' hfg], ?_, ?_, ?_⟩, by omega, hcomb gM2 w e4, e5, (kP16.trans e6).trans (a3.mono (fun a k q => by unfold WLp; omega)), km'.trans (e7.mono (fun a k q => by rw [lg] at q; unfold WMl at q ⊢; omega)), by omega, fun q1 q2 => ?_⟩
    · rw [show N + (t2 + 1 + t) = (N + t2) + 1 + t by omega, stp]
      exact e2 N
    · rw [as1, as2]
      exact ⟨⟨ok2, rP2.kp (fun a k h => a3.1 _ _ (by omega)) (a3.2.1 _ _ (by omega)), a2, by rw [cc3]; omega, (a3.1 _ _ (by omega)).trans fl2, l1, b4⟩, hM2, hc2, hb2, hcb2⟩
    · have : (cP ++ cP2 ++ [x]).length = cP.length + cP2.length + 1 := by rw [List.length_append, List.length_append]; rfl
      omega
    · exact fun q => absurd (List.append_eq_nil_iff.mp q).2 (List.cons_ne_nil _ _)
    · exact fun q => absurd (List.append_eq_nil_iff.mp q).2 (List.cons_ne_nil _ _)
    · intro z hz
      rcases List.mem_append.mp hz with q | q
      · exact c7 z q
      · rcases List.mem_cons.mp q with q | q
        · rw [q]; exact ⟨o4, o5⟩
        · exact f7 z q
    · rw [e7.1 _ _ (by unfold WMl; omega), o9.1 _ _ (by omega)]
      exact o14 q1
/-- a level with many operators -/
theorem loopB {T : Nat → Nat} {n l b cb δ e eo L : Nat} {MS MSo : List Nat → ((Nat → Int32) → Int32) → Prop} {vbo : Nat} {Eno En : Tk → Mm → Prop} {κe : Nat → Int32 → Int32 → Mm → Option (Int32 × Mm)} {κp : Nat → Int32 → Mm → Option (Int32 × Mm)} {κ : Mm → Option (Int32 × Mm)} {d : Tk} {c : List Int32} {g : List Nat} {mP mM : Mm} {lm : Nat → Option (Int32 × Mm)} (hT : TpOK T n) (hκ : ∀ m f, (if (3 : Int32) ≤ nI L then bdI (κp b (nI δ) m) f else bdI (κe b (nI δ) (nI L + 1) m) f) = (bdI (κ m) f : Option (Int32 × Mm))) (hOp : OpT T n l b δ eo MSo vbo Eno κ) (hc0 : c.length ≤ tkb d) (ho : δ = 0 ∨ ¬ gI mM 16 δ = 1) (hpre : eo ≤ δ → L = 0) (hee : e ≤ eo) (h1 : 1 ≤ vbo) (hst : ∀ cb d c g mP mM, PJ T n l b cb d c g mP mM → Eno d mM → ((∀ mP, f_X5_stepOf (nI (ctk T d)) (nI L) mP = some (0, mP)) ∧ En d mM) ∨ ∃ x y, Opr T n δ e L x y d (cb + g.length) mM ∧ ∀ gM v gM' w, MS gM v → MSo gM' w → MS (gM ++ y :: gM') (fun f => evJoin x (v f) (w f))) : ∀ (r N j t : Nat) (d' : Tk) (cP : List Int32) (gM : List Nat) (v : (Nat → Int32) → Int32) (nP nM : Mm), n - tkb d' ≤ r → r < N → j < tkb d' → (∀ N, lm (N + t) = rdL N (nI δ) 0 nM) → Cor T n l b cb d d' c g cP gM v (vbo + 1) nP nM → t ≤ tkb d' - tkb d → MS gM v → Eno d' nM → Kp (WLp b) mP nP → Kp (WMl (cb + g.length) δ e) mM nM → Bad n b (cb + g.length) δ e d mP mM (lop (fun _ _ _ _ => none) (f_X5_expression_B42 κe κp b (nI δ) (nI L)) N 1 (nI 1000) (nI j) nP) lm ∨ GdX T n l b cb δ e MS (vbo + 1) En d c g mP mM (lop (fun _ _ _ _ => none) (f_X5_expression_B42 κe κp b (nI δ) (nI L)) N 1 (nI 1000) (nI j) nP) lm
  | _, 0, _, _, _, _, _, _, _, _, _, h, _, _, _, _, _, _, _, _ => absurd h (Nat.not_lt_zero _)
  | r, N + 1, j, t, d', cP, gM, v, nP, nM, hr, hN, hj, hlm, hC, ht, hMS, hE, hk, hkM => by
    have n0 := hT.1
    have tn := hC.1.1.1.1
    show Bad n b (cb + g.length) δ e d mP mM (f_X5_expression_B42 κe κp b (nI δ) (nI L) (lop (fun _ _ _ _ => none) (f_X5_expression_B42 κe κp b (nI δ) (nI L)) N) 1 (nI 1000) (nI j) nP) lm ∨ GdX T n l b cb δ e MS (vbo + 1) En d c g mP mM (f_X5_expression_B42 κe κp b (nI δ) (nI L) (lop (fun _ _ _ _ => none) (f_X5_expression_B42 κe κp b (nI δ) (nI L)) N) 1 (nI 1000) (nI j) nP) lm
    rcases hst cb d' (c ++ cP) (g ++ gM) nP nM hC.1 hE with ⟨s1, s2⟩ | ⟨x, y, s1, s2⟩
    · rw [cStop (Nat.le_refl _) (by omega) hC.1.1.2.1.2.2.2.1 (s1 nP)]
      exact Or.inr ⟨nP, nM, d', cP, gM, v, t, rfl, hlm, hC, ht, hMS, s2, hk, hkM⟩
    · rcases stpB (MS := MS) (lim := 1000) (j := j) hT hκ hOp hc0 ho hlm hC ht hk hkM s1 hpre hee (fun gM' w q => s2 gM v gM' w hMS q) h1 (Nat.le_refl _) (by omega) with ⟨nP', e1, e2⟩ | ⟨nP', nM', d2, cP', gM', v', t', e1, e2, e3, e4, e5, e6, e7, e8, e9, -⟩
      · rw [e1]
        have k0 := s1.2.2.2.2.2.1
        have oi := hC.1.1.1.2.2.2.1
        cases N with
        | zero => omega
        | succ N =>
          show Bad n b (cb + g.length) δ e d mP mM (f_X5_expression_B42 κe κp b (nI δ) (nI L) (lop (fun _ _ _ _ => none) (f_X5_expression_B42 κe κp b (nI δ) (nI L)) N) 0 (nI 1000) (nI (j + 1)) nP') lm ∨ _
          rw [cZero]
          exact Or.inl e2
      · rw [e1]
        have tn2 := e3.1.1.1.1
        exact loopB hT hκ hOp hc0 ho hpre hee h1 hst (n - tkb d2) N (j + 1) t' d2 cP' gM' v' nP' nM' (Nat.le_refl _) (by omega) (by omega) e2 e3 e4 e5 e6 e7 e8
