/-! the line of the hours -/
theorem openL {T : Nat → Nat} {n s : Nat} {d : Tk} {mP mM : Mm} {C : Nat → Nat → Nat} {NT NP : Nat → List Nat} {x y : Int32} {told : Bool} (hT : TpOK T n) (ok : TkOK T n d) (hP : RdP T n d mP) (hM : RdM T n d mM) (hA : DfA C NT NP s mP mM) (hk : ctk T d = 9) (hk0 : tkK d ≠ 0) (hx : gI mP s 13 = x) (hy : gI mM 0 26 = y) (h1 : (x &&& ((1 : Int32) <<< (nI 9 &&& 31))) = 0 ↔ told = false) (h2 : (y >>> (nI 4 &&& 31)) &&& 1 = 1 ↔ told = true) : S2 (bdI (f_X5_toldFirst s mP) fun x10 m9 => if x10 = 0 then (grd (bok ((0))) (some ((0), m9))) else (bdI (f_X5_hoursTold s m9) fun x12 m11 => if x12 = 0 then (grd (bok ((0))) (some ((0), m11))) else (bdI (f_X5_take (nI 59) m11) fun x14 m13 => if x14 = 0 then (grd (bok ((0))) (some ((0), m13))) else (grd (bok ((1))) (some ((1), m13)))))) (f_X12_readsOpen mM) (OuD T n (tkb d) s (fun _ a c => ∃ C', DfA C' NT NP s a c ∧ gI a s 13 = (x ||| ((1 : Int32) <<< (nI 9 &&& 31))) ∧ gI c 0 26 = (y ||| ((1 : Int32) <<< (nI 4 &&& 31))) ∧ Kp (fun a k => WRP a k ∨ (a = s ∧ 6 ≤ k ∧ k ≤ 13)) mP a ∧ Kp (fun a k => WRM a k ∨ (a = 0 ∧ k = 26) ∨ (a = 2 ∧ 7 ≤ k)) mM c) mP mM) := by
  have hs := hA.2.1
  have n0 := hT.1
  have ne1 : ¬ (1 : Int32) = 0 := by decide
  unfold f_X12_readsOpen
  have t4 : ∀ m, f_X12_isTwice 4 m = f_X12_isTwice (nI 4) m := fun m => rfl
  rw [t4]
  by_cases z : told = true
  · rw [toldP1 hP hk hx (fun q => by rw [h1.mp q] at z; cases z), twice1 hy (h2.mpr z), bdI_e, bdI_e, if_pos rfl, if_neg ne1]
    have e2 : f_X12_fails 3 mM = some (0, sI mM 0 9 (nI (3 + 16 * tkb d))) := failsE hM 3
    rw [e2, bdI_e]
    exact ⟨_, _, rfl, rfl, OuD.bad hT ok hs (by omega) (Kp.refl _) (Kp.refl _)⟩
  · have zf : told = false := Bool.eq_false_iff.mpr z
    obtain ⟨nP, eP, r1, x', kP⟩ := toldP2 hT ok hs hP hk hx (h1.mpr zf)
    rw [eP, twice2 hy (fun q => z (h2.mp q)), bdI_e, bdI_e, if_neg ne1, if_pos rfl]
    have hM1 : RdM T n d (sI mM 0 26 (y ||| ((1 : Int32) <<< (nI 4 &&& 31)))) := hM.kp (fun a k h => gI_ne _ _ _ _ _ _ (by omega)) rfl
    obtain ⟨nM, eM, r2, kM0⟩ := adv_M hT ok hM1
    have kM : Kp (fun a k => WRM a k ∨ (a = 0 ∧ k = 26)) mM nM := ((Kp.refl mM).sI _ (by omega)).trans (kM0.mono (fun a k q => by unfold WRM; omega))
    have y' : gI nM 0 26 = (y ||| ((1 : Int32) <<< (nI 4 &&& 31))) := (kM0.1 _ _ (by omega)).trans (gI_eq _ _ _ _ _ _ rfl rfl)
    have tok := tk_ok (T := T) ok.2.1
    have kb := ok.2.2.2.2.1 hk0
    obtain ⟨q, q', e1, e2, h5⟩ := takeNB (lo := 0) (hi := 59) hT tok.1 r1 r2 (by decide) (by decide)
    have e1' : f_X5_takeNumber 0 59 nP = some q := e1
    have e2' : f_X12_needsNumber 0 59 nM = some q' := e2
    unfold f_X5_hoursTold f_X12_needsSpan
    rw [eM, bdV_e, e1', e2', bdI_e, bdI_e]
    have kP5 := h5.1
    have kM5 := h5.2.1
    have kPq : Kp (fun a k => WRP a k ∨ (a = s ∧ 6 ≤ k ∧ k ≤ 13)) mP q.2 := (kP.mono (fun a k h => by unfold WRP at h ⊢; omega)).trans (kP5.mono (fun a k h => Or.inl h))
    have kMq : Kp (fun a k => WRM a k ∨ (a = 0 ∧ k = 26) ∨ (a = 2 ∧ 7 ≤ k)) mM q'.2 := (kM.mono (fun a k h => by unfold WRM at h ⊢; omega)).trans (kM5.mono (fun a k h => Or.inl h))
    have wP : ∀ a k, WRP a k ∨ (a = s ∧ 6 ≤ k ∧ k ≤ 13) → WSt s a k := fun a k h => by unfold WRP at h; unfold WSt WRP; omega
    have wM : ∀ a k, WRM a k ∨ (a = 0 ∧ k = 26) ∨ (a = 2 ∧ 7 ≤ k) → XSt a k := fun a k h => by unfold WRM at h; unfold XSt WRM; omega
    rcases h5.2.2 with ⟨z1, z2, z3, z4⟩ | ⟨z1, z2, d2, o2, l2, s1, s2, ⟨v, v1, v2, v3, v4⟩, g2⟩
    · rw [z1, z2, if_neg (fun r => r rfl), if_neg (fun r => r rfl), show grd (bok (0 : Int32)) (some ((0 : Int32), q.2)) = some (0, q.2) from rfl, show grd (bok (0 : Int32)) (some ((0 : Int32), q'.2)) = some (0, q'.2) from rfl, bdI_e, bdI_e, if_pos rfl, if_neg (fun r => r rfl)]
      exact ⟨_, _, rfl, rfl, OuD.no (kPq.mono wP) (kMq.mono wM) z3 z4⟩
    · rw [z1, z2, if_pos ne1, if_pos ne1, bnd_e, bnd_e, v3, v4]
      have hP6 : RdP T n d2 (sI q.2 s 10 (nI v)) := s1.kp (fun a k h => gI_ne _ _ _ _ _ _ (by omega)) rfl
      have hM6 : RdM T n d2 (sI q'.2 0 41 (nI v)) := s2.kp (fun a k h => gI_ne _ _ _ _ _ _ (by omega)) rfl
      obtain ⟨r, r', e3, e4, h6⟩ := takeVB (k := 10) (lo := v + 1) (hi := 60) hT o2 hP6 hM6 (by decide) kw_to (by omega) (by decide)
      have a1 : gI (sI q.2 s 10 (nI v)) s 10 + 1 = nI (v + 1) := by rw [gI_eq _ _ _ _ _ _ rfl rfl]; exact nI_add v 1
      have a2 : gI (sI q'.2 0 41 (nI v)) 0 41 + 1 = nI (v + 1) := by rw [gI_eq _ _ _ _ _ _ rfl rfl]; exact nI_add v 1
      have e3' : f_X5_takeValue 10 (nI (v + 1)) 60 (sI q.2 s 10 (nI v)) = some r := e3
      have e4' : f_X12_needsBoth 555 (nI (v + 1)) 60 (sI q'.2 0 41 (nI v)) = some r' := e4
      rw [a1, a2, e3', e4', bdI_e, bdI_e, bnd_e]
      have kP6 := h6.1
      have kM6 := h6.2.1
      have kPr : Kp (fun a k => WRP a k ∨ (a = s ∧ 6 ≤ k ∧ k ≤ 13)) mP r.2 := (kPq.sI _ (by omega)).trans (kP6.mono (fun a k h => Or.inl h))
      have kMr : Kp (fun a k => WRM a k ∨ (a = 0 ∧ k = 26) ∨ (a = 2 ∧ 7 ≤ k)) mM r'.2 := (kMq.sI _ (by unfold WRM; omega)).trans (kM6.mono (fun a k h => Or.inl h))
      rcases h6.2.2 with ⟨z5, z6, z7, z8⟩ | ⟨z5, z6, d3, o3, l3, t1, t2, ⟨u, u1, u2, u3, u4⟩, g3⟩
      · rw [z5, z6, show grd (bok (0 : Int32)) (some ((0 : Int32), sI r.2 s 11 (gI r.2 3 1))) = some (0, sI r.2 s 11 (gI r.2 3 1)) from rfl, show grd (bok (0 : Int32)) (some ((0 : Int32), r'.2)) = some (0, r'.2) from rfl, bdI_e, bdI_e, if_pos rfl, if_neg (fun r => r rfl)]
        refine ⟨_, _, rfl, rfl, OuD.no ((kPr.mono wP).sI _ (by unfold WSt; omega)) (kMr.mono wM) ?_ ?_⟩
        · rw [gI_ne _ _ _ _ _ _ (by omega)]
          exact z7
        · rw [gI_ne _ _ _ _ _ _ (by omega)]
          exact z8
      · have e41 : gI r'.2 0 41 = nI v := (g3 41 (by decide)).trans (gI_eq _ _ _ _ _ _ rfl rfl)
        rw [z5, z6, u3, show grd (bok (1 : Int32)) (some ((1 : Int32), sI r.2 s 11 (nI u))) = some (1, sI r.2 s 11 (nI u)) from rfl, show grd (bok (1 : Int32)) (some ((1 : Int32), r'.2)) = some (1, r'.2) from rfl, bdI_e, bdI_e, if_neg ne1, if_pos ne1, bnd_e, bnd_e, e41, gI_ne _ _ _ _ _ _ (by omega), u4]
        have kPs := kPr.sI (a := s) (k := 11) (nI u) (by omega)
        have kMs := (kMr.sI (a := 2) (k := 11) (nI v) (by omega)).sI (a := 2) (k := 12) (nI u) (by omega)
        have er10 : gI r.2 s 10 = nI v := (kP6.1 _ _ (by unfold WRP; omega)).trans (gI_eq _ _ _ _ _ _ rfl rfl)
        have eA : ∀ a k, ¬ (WRP a k ∨ (a = s ∧ k = 13) ∨ (a = s ∧ k = 10) ∨ (a = s ∧ k = 11)) → gI (sI r.2 s 11 (nI u)) a k = gI mP a k := fun a k h => ((((gI_ne _ _ _ _ _ _ (by omega)).trans (kP6.1 _ _ (fun r => h (Or.inl r)))).trans (gI_ne _ _ _ _ _ _ (by omega))).trans (kP5.1 _ _ (fun r => h (Or.inl r)))).trans (kP.1 _ _ (fun r => h (r.imp id Or.inl)))
        have eB : ∀ a k, ¬ (WRM a k ∨ (a = 0 ∧ k = 26) ∨ (a = 2 ∧ (k = 11 ∨ k = 12))) → gI (sI (sI r'.2 2 11 (nI v)) 2 12 (nI u)) a k = gI mM a k := fun a k h => (((((gI_ne _ _ _ _ _ _ (by omega)).trans (gI_ne _ _ _ _ _ _ (by omega))).trans (kM6.1 _ _ (fun r => h (Or.inl r)))).trans (gI_ne _ _ _ _ _ _ (by unfold WRM at h; omega))).trans (kM5.1 _ _ (fun r => h (Or.inl r)))).trans (kM.1 _ _ (fun r => h (r.imp id Or.inl)))
        refine endS hT o3 (by omega) (t1.kp (fun a k h => gI_ne _ _ _ _ _ _ (by omega)) rfl) (t2.kp (fun a k h => (gI_ne _ _ _ _ _ _ (by omega)).trans (gI_ne _ _ _ _ _ _ (by omega))) rfl) (kPs.mono wP) (kMs.mono wM) (fun d' a c k1 k2 _ => ⟨c0 (c0 C 4 v) 5 u, ⟨c0_ok2 hA.1 v2 (by omega) u2, ?_⟩, ?_, ?_, kPs.trans (k1.mono (fun a k h => Or.inl h)), kMs.trans (k2.mono (fun a k h => Or.inl h))⟩)
        · have b1 : DfB (c0 C 4 v) NT NP s (sI mP s 10 (nI v)) (sI mM 2 11 (nI v)) := DfB.num hA.1.1 hA.1.2.1 hA.2 (by omega) (gI_eq _ _ _ _ _ _ rfl rfl) (gI_eq _ _ _ _ _ _ rfl rfl) (fun a k _ h => gI_ne _ _ _ _ _ _ (by omega)) (fun _ _ _ => rfl) (fun a k _ h => gI_ne _ _ _ _ _ _ (by omega)) (fun _ _ _ => rfl)
          refine DfB.num (by rw [c0_ne (by decide)]; exact hA.1.1) (by rw [c0_ne (by decide)]; exact hA.1.2.1) b1 (by omega) ?_ ?_ (fun a k h1 h2 => ?_) (fun a k h => ?_) (fun a k h1 h2 => ?_) (fun a k h => ?_)
          · rw [k1.1 _ _ (by unfold WRP; omega), gI_eq _ _ _ _ _ _ rfl rfl]
          · rw [k2.1 _ _ (by unfold WRM; omega), gI_eq _ _ _ _ _ _ rfl rfl]
          · rw [k1.1 _ _ (by unfold WRP; unfold vD at h1; omega)]
            by_cases w : a = s ∧ k = 10
            · rw [w.1, w.2, gI_ne _ _ _ _ _ _ (by omega), er10, gI_eq _ _ _ _ _ _ rfl rfl]
            · rw [eA a k (by unfold WRP; unfold vD at h1; omega), gI_ne _ _ _ _ _ _ (by omega)]
          · rw [k1.2.1 _ _ (by unfold WRP; unfold vDj at h; omega)]
            exact kPs.2.1 _ _ (by unfold WRP; unfold vDj at h; omega)
          · rw [k2.1 _ _ (by unfold WRM; unfold vE at h1; omega)]
            by_cases w : a = 2 ∧ k = 11
            · rw [w.1, w.2, gI_ne _ _ _ _ _ _ (by omega), gI_eq _ _ _ _ _ _ rfl rfl, gI_eq _ _ _ _ _ _ rfl rfl]
            · rw [eB a k (by unfold WRM; unfold vE at h1; omega), gI_ne _ _ _ _ _ _ (by omega)]
          · rw [k2.2.1 _ _ (by unfold WRM; omega)]
            exact kMs.2.1 _ _ (by unfold WRM; omega)
        · rw [k1.1 _ _ (by unfold WRP; omega), gI_ne _ _ _ _ _ _ (by omega), kP6.1 _ _ (by unfold WRP; omega), gI_ne _ _ _ _ _ _ (by omega), kP5.1 _ _ (by unfold WRP; omega)]
          exact x'
        · rw [k2.1 _ _ (by unfold WRM; omega), gI_ne _ _ _ _ _ _ (by omega), gI_ne _ _ _ _ _ _ (by omega), kM6.1 _ _ (by unfold WRM; omega), gI_ne _ _ _ _ _ _ (by omega), kM5.1 _ _ (by unfold WRM; omega)]
          exact y'
