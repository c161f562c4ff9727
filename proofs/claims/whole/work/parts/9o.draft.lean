/-! lines with a number -/
theorem OuD.no {T : Nat → Nat} {n b s : Nat} {G : Tk → Mm → Mm → Prop} {mP mM a c : Mm} (kP : Kp (WSt s) mP a) (kM : Kp XSt mM c) (h : gI a 3 2 = gI c 0 9) (h' : ¬ gI a 3 2 = 0) : OuD T n b s G mP mM (0, a) (0, c) := ⟨kP, kM, Or.inl ⟨rfl, rfl, h, h'⟩⟩
theorem WSt.r {s a k : Nat} (h : WRP a k) : WSt s a k := Or.inl h
theorem XSt.r {a k : Nat} (h : WRM a k) : XSt a k := Or.inl h
/-- both fail at once -/
theorem OuD.bad {T : Nat → Nat} {n b s w : Nat} {d : Tk} {G : Tk → Mm → Mm → Prop} {mP0 mM0 mP mM : Mm} (hT : TpOK T n) (ok : TkOK T n d) (hs : s = 4 ∨ s = 34) (hw : 1 ≤ w ∧ w ≤ 5) (kP : Kp (WSt s) mP0 mP) (kM : Kp XSt mM0 mM) : OuD T n b s G mP0 mM0 (0, sI mP 3 2 (nI (w + 16 * tkb d))) (0, sI mM 0 9 (nI (w + 16 * tkb d))) := by
  have n0 := hT.1
  have b1 := ok.1
  refine OuD.no (kP.sI _ (by unfold WSt WRP; omega)) (kM.sI _ (by unfold XSt WRM; omega)) ?_ ?_
  · rw [gI_eq _ _ _ _ _ _ rfl rfl, gI_eq _ _ _ _ _ _ rfl rfl]
  · rw [gI_eq _ _ _ _ _ _ rfl rfl, nz_eq _ (by omega)]
    omega
theorem endS {T : Nat → Nat} {n b s : Nat} {d : Tk} {G : Tk → Mm → Mm → Prop} {mP0 mM0 mP mM : Mm} (hT : TpOK T n) (ok : TkOK T n d) (hb : b ≤ tkb d) (hP : RdP T n d mP) (hM : RdM T n d mM) (kP : Kp (WSt s) mP0 mP) (kM : Kp XSt mM0 mM) (hG : ∀ d' a c, Kp WRP mP a → Kp WRM mM c → tkb d < tkb d' → G d' a c) : S2 (bdI (f_X5_take (nI 59) mP) fun x14 m13 => if x14 = 0 then (grd (bok ((0))) (some ((0), m13))) else (grd (bok ((1))) (some ((1), m13)))) (bdI (f_X12_closes mM) fun x m => grd (bok x) (some (x, m))) (OuD T n b s G mP0 mM0) := by
  obtain ⟨q, q', e1, e2, h1⟩ := takeSB hT ok hP hM
  rw [e1, e2, bdI_e, bdI_e]
  have k1 := kP.trans (h1.1.mono (fun a k h => WSt.r (s := s) h))
  have k2 := kM.trans (h1.2.1.mono (fun a k h => XSt.r h))
  rcases h1.2.2 with ⟨z1, z2, z3, z4⟩ | ⟨z1, z2, d', o, lt', r1, r2, g⟩
  · rw [if_pos z1, z2]
    exact ⟨(0, q.2), (0, q'.2), rfl, rfl, OuD.no k1 k2 z3 z4⟩
  · rw [if_neg (by rw [z1]; decide), z2]
    exact ⟨(1, q.2), (1, q'.2), rfl, rfl, k1, k2, Or.inr ⟨rfl, rfl, d', o, by omega, r1, r2, hG d' _ _ h1.1 h1.2.1 lt'⟩⟩
theorem toldP1 {T : Nat → Nat} {n s k : Nat} {d : Tk} {mP : Mm} {x : Int32} (hP : RdP T n d mP) (hk : ctk T d = k) (hx : gI mP s 13 = x) (h : ¬ (x &&& ((1 : Int32) <<< (nI k &&& 31))) = 0) : f_X5_toldFirst s mP = some (0, sI mP 3 2 (nI (3 + 16 * tkb d))) := by
  have e1 : f_X5_wrong 3 mP = some (0, sI mP 3 2 (nI (3 + 16 * tkb d))) := wrongE hP 3
  unfold f_X5_toldFirst
  rw [hP.2.2.2.1, hk, hx, bnd_e, if_neg h, e1, bdI_e]
  rfl
theorem toldP2 {T : Nat → Nat} {n s k : Nat} {d : Tk} {mP : Mm} {x : Int32} (hT : TpOK T n) (ok : TkOK T n d) (hs : s = 4 ∨ s = 34) (hP : RdP T n d mP) (hk : ctk T d = k) (hx : gI mP s 13 = x) (h : (x &&& ((1 : Int32) <<< (nI k &&& 31))) = 0) : ∃ nP, f_X5_toldFirst s mP = some (1, nP) ∧ RdP T n (tk T n (tke d)) nP ∧ gI nP s 13 = (x ||| ((1 : Int32) <<< (nI k &&& 31))) ∧ Kp (fun a k => WRP a k ∨ (a = s ∧ k = 13)) mP nP := by
  have hP1 : RdP T n d (sI mP s 13 (x ||| ((1 : Int32) <<< (nI k &&& 31)))) := hP.kp (fun a k h => gI_ne _ _ _ _ _ _ (by omega)) rfl
  obtain ⟨nP, eP, h1, h2⟩ := adv_P hT ok hP1
  refine ⟨nP, ?_, h1, (h2.1 _ _ (by omega)).trans (gI_eq _ _ _ _ _ _ rfl rfl), ((Kp.refl mP).sI _ (by omega)).trans (h2.mono (fun a k q => by unfold WRP; omega))⟩
  unfold f_X5_toldFirst
  rw [hP.2.2.2.1, hk, hx, bnd_e, if_pos h, bnd_e, eP, bdV_e]
  rfl
theorem twice1 {i : Nat} {y : Int32} {mM : Mm} (hy : gI mM 0 26 = y) (h : (y >>> (nI i &&& 31)) &&& 1 = 1) : f_X12_isTwice (nI i) mM = some (1, mM) := by
  unfold f_X12_isTwice
  rw [hy, if_neg (fun q => q h)]
  rfl
theorem twice2 {i : Nat} {y : Int32} {mM : Mm} (hy : gI mM 0 26 = y) (h : ¬ (y >>> (nI i &&& 31)) &&& 1 = 1) : f_X12_isTwice (nI i) mM = some (0, sI mM 0 26 (y ||| ((1 : Int32) <<< (nI i &&& 31)))) := by
  unfold f_X12_isTwice
  rw [hy, if_pos h, bnd_e]
  rfl
theorem oneL {T : Nat → Nat} {n s i k lo hi : Nat} {d : Tk} {mP mM : Mm} {C : Nat → Nat → Nat} {NT NP : Nat → List Nat} {x y : Int32} {told : Bool} (hT : TpOK T n) (ok : TkOK T n d) (hP : RdP T n d mP) (hM : RdM T n d mM) (hA : DfA C NT NP s mP mM) (hk : ctk T d = k) (hk0 : tkK d ≠ 0) (hx : gI mP s 13 = x) (hy : gI mM 0 26 = y) (h1 : (x &&& ((1 : Int32) <<< (nI k &&& 31))) = 0 ↔ told = false) (h2 : (y >>> (nI i &&& 31)) &&& 1 = 1 ↔ told = true) (hi2 : 2 ≤ i ∧ i < 7) (hl : lo ≤ 61) (hh : hi ≤ 999) (hok : ∀ v, lo ≤ v → v ≤ hi → CfOK (c0 C i v)) : S2 (bdI (f_X5_toldFirst s mP) fun x10 m9 => if x10 = 0 then (grd (bok ((0))) (some ((0), m9))) else (bdI (bdI (f_X5_takeNumber (nI lo) (nI hi) m9) fun x2 m1 => bnd (sI m1 s (6 + i) (gI m1 3 1)) fun m3 => grd (bok x2) (some (x2, m3))) fun x12 m11 => if x12 = 0 then (grd (bok ((0))) (some ((0), m11))) else (bdI (f_X5_take (nI 59) m11) fun x14 m13 => if x14 = 0 then (grd (bok ((0))) (some ((0), m13))) else (grd (bok ((1))) (some ((1), m13)))))) (f_X12_readsOne (nI i) (nI lo) (nI hi) mM) (OuD T n (tkb d) s (fun _ a c => ∃ v, DfA (c0 C i v) NT NP s a c ∧ gI a s 13 = (x ||| ((1 : Int32) <<< (nI k &&& 31))) ∧ gI c 0 26 = (y ||| ((1 : Int32) <<< (nI i &&& 31))) ∧ Kp (fun a k => WRP a k ∨ (a = s ∧ 6 ≤ k ∧ k ≤ 13)) mP a ∧ Kp (fun a k => WRM a k ∨ (a = 0 ∧ k = 26) ∨ (a = 2 ∧ 7 ≤ k)) mM c) mP mM) := by
  have hs := hA.2.1
  have n0 := hT.1
  unfold f_X12_readsOne
  by_cases z : told = true
  · rw [toldP1 hP hk hx (fun q => by rw [h1.mp q] at z; cases z), twice1 hy (h2.mpr z), bdI_e, bdI_e, if_pos rfl, if_neg (show ¬ (1 : Int32) = 0 by decide)]
    have e2 : f_X12_fails 3 mM = some (0, sI mM 0 9 (nI (3 + 16 * tkb d))) := failsE hM 3
    rw [e2, bdI_e]
    exact ⟨_, _, rfl, rfl, OuD.bad hT ok hs (by omega) (Kp.refl _) (Kp.refl _)⟩
  · have zf : told = false := Bool.eq_false_iff.mpr z
    obtain ⟨nP, eP, r1, x', kP⟩ := toldP2 hT ok hs hP hk hx (h1.mpr zf)
    rw [eP, twice2 hy (fun q => z (h2.mp q)), bdI_e, bdI_e, if_neg (show ¬ (1 : Int32) = 0 by decide), if_pos rfl]
    have hM1 : RdM T n d (sI mM 0 26 (y ||| ((1 : Int32) <<< (nI i &&& 31)))) := hM.kp (fun a k h => gI_ne _ _ _ _ _ _ (by omega)) rfl
    obtain ⟨nM, eM, r2, kM0⟩ := adv_M hT ok hM1
    have kM : Kp (fun a k => WRM a k ∨ (a = 0 ∧ k = 26)) mM nM := ((Kp.refl mM).sI _ (by omega)).trans (kM0.mono (fun a k q => by unfold WRM; omega))
    have y' : gI nM 0 26 = (y ||| ((1 : Int32) <<< (nI i &&& 31))) := (kM0.1 _ _ (by omega)).trans (gI_eq _ _ _ _ _ _ rfl rfl)
    have tok := tk_ok (T := T) ok.2.1
    have kb := ok.2.2.2.2.1 hk0
    obtain ⟨q, q', e1, e2, h5⟩ := takeNB (lo := lo) (hi := hi) hT tok.1 r1 r2 hl hh
    rw [eM, bdV_e, e1, e2, bdI_e, bdI_e, bnd_e]
    have kP5 := h5.1
    have kM5 := h5.2.1
    rcases h5.2.2 with ⟨z1, z2, z3, z4⟩ | ⟨z1, z2, d2, o2, l2, s1, s2, ⟨v, v1, v2, v3, v4⟩, g2⟩
    · rw [z1, z2, show grd (bok (0 : Int32)) (some ((0 : Int32), sI q.2 s (6 + i) (gI q.2 3 1))) = some (0, sI q.2 s (6 + i) (gI q.2 3 1)) from rfl, bdI_e, if_pos rfl, if_neg (fun r => r rfl)]
      refine ⟨_, _, rfl, rfl, OuD.no (((kP.mono (fun a k h => ?_)).trans (kP5.mono (fun a k h => WSt.r h))).sI _ ?_) ((kM.mono (fun a k h => ?_)).trans (kM5.mono (fun a k h => XSt.r h))) ?_ ?_⟩
      · unfold WRP at h
        unfold WSt WRP
        omega
      · unfold WSt
        omega
      · unfold WRM at h
        unfold XSt WRM
        omega
      · rw [gI_ne _ _ _ _ _ _ (by omega)]
        exact z3
      · rw [gI_ne _ _ _ _ _ _ (by omega)]
        exact z4
    · rw [z1, z2, v3, show grd (bok (1 : Int32)) (some ((1 : Int32), sI q.2 s (6 + i) (nI v))) = some (1, sI q.2 s (6 + i) (nI v)) from rfl, bdI_e, if_neg (show ¬ (1 : Int32) = 0 by decide), if_pos (show ¬ (1 : Int32) = 0 by decide)]
      have e7 : (7 : Int32) + nI i = nI (7 + i) := nI_add 7 i
      rw [e7, ni_inb (show 7 + i < 14 by omega) (by decide), grd_t, bnd_e, ni_cl _ (by omega), v4]
      have kPs : Kp (fun a k => WRP a k ∨ (a = s ∧ 6 ≤ k ∧ k ≤ 13)) mP (sI q.2 s (6 + i) (nI v)) := ((kP.mono (fun a k h => by unfold WRP at h ⊢; omega)).trans (kP5.mono (fun a k h => Or.inl h))).sI _ (by omega)
      have kMs : Kp (fun a k => WRM a k ∨ (a = 0 ∧ k = 26) ∨ (a = 2 ∧ 7 ≤ k)) mM (sI q'.2 2 (7 + i) (nI v)) := ((kM.mono (fun a k h => by unfold WRM at h ⊢; omega)).trans (kM5.mono (fun a k h => Or.inl h))).sI _ (by omega)
      have eA : ∀ a k, ¬ (WRP a k ∨ (a = s ∧ k = 13) ∨ (a = s ∧ k = 6 + i)) → gI (sI q.2 s (6 + i) (nI v)) a k = gI mP a k := fun a k h => ((gI_ne _ _ _ _ _ _ (by omega)).trans (kP5.1 _ _ (fun r => h (Or.inl r)))).trans (kP.1 _ _ (fun r => h (r.imp id Or.inl)))
      have eB : ∀ a k, ¬ (WRM a k ∨ (a = 0 ∧ k = 26) ∨ (a = 2 ∧ k = 7 + i)) → gI (sI q'.2 2 (7 + i) (nI v)) a k = gI mM a k := fun a k h => ((gI_ne _ _ _ _ _ _ (by omega)).trans (kM5.1 _ _ (fun r => h (Or.inl r)))).trans (kM.1 _ _ (fun r => h (r.imp id Or.inl)))
      refine endS hT o2 (by omega) (s1.kp (fun a k h => gI_ne _ _ _ _ _ _ (by omega)) rfl) (s2.kp (fun a k h => gI_ne _ _ _ _ _ _ (by omega)) rfl) (kPs.mono (fun a k h => by unfold WRP at h; unfold WSt WRP; omega)) (kMs.mono (fun a k h => by unfold WRM at h; unfold XSt WRM; omega)) (fun d' a c k1 k2 _ => ⟨v, ?_, ?_, ?_, kPs.trans (k1.mono (fun a k h => Or.inl h)), kMs.trans (k2.mono (fun a k h => Or.inl h))⟩)
      · refine hA.num hi2 (hok v v1 v2) ?_ ?_ (fun a k h1 h2 => ?_) (fun a k h => ?_) (fun a k h1 h2 => ?_) (fun a k h => ?_)
        · rw [k1.1 _ _ (by unfold WRP; omega), gI_eq _ _ _ _ _ _ rfl rfl]
        · rw [k2.1 _ _ (by unfold WRM; omega), gI_eq _ _ _ _ _ _ rfl rfl]
        · rw [k1.1 _ _ (by unfold WRP; unfold vD at h1; omega)]
          exact eA a k (by unfold WRP; unfold vD at h1; omega)
        · rw [k1.2.1 _ _ (by unfold WRP; unfold vDj at h; omega)]
          exact kPs.2.1 _ _ (by unfold WRP; unfold vDj at h; omega)
        · rw [k2.1 _ _ (by unfold WRM; unfold vE at h1; omega)]
          exact eB a k (by unfold WRM; unfold vE at h1; omega)
        · rw [k2.2.1 _ _ (by unfold WRM; omega)]
          exact kMs.2.1 _ _ (by unfold WRM; omega)
      · rw [k1.1 _ _ (by unfold WRP; omega), gI_ne _ _ _ _ _ _ (by omega), kP5.1 _ _ (by unfold WRP; omega)]
        exact x'
      · rw [k2.1 _ _ (by unfold WRM; omega), gI_ne _ _ _ _ _ _ (by omega), kM5.1 _ _ (by unfold WRM; omega)]
        exact y'
