/-! what is being told: the draft of the one, the second rows of the other -/
def Q1 (C : Nat → Nat → Nat) (s : Nat) (m : Mm) : Prop := ∀ j, j < 7 → gI m s (6 + j) = nI (C 0 j)
def Q2 (C : Nat → Nat → Nat) (s : Nat) (m : Mm) : Prop := ∀ t, t < C 0 0 → gI m (s + 2) t = nI (C 1 t) ∧ ∀ i, i < C 1 t → gI m (s + 3 + (1 + t)) i = nI (C 2 (9 * t + i))
def Q3 (C : Nat → Nat → Nat) (s : Nat) (m : Mm) : Prop := ∀ p, p < C 0 1 → gI m (s + 9 + (7 + 2 * p)) 3 = nI (C 3 p) ∧ gI m (s + 9 + (7 + 2 * p)) 4 = nI (C 4 p) ∧ gI m (s + 9 + (7 + 2 * p)) 5 = nI (C 5 p) ∧ gI m (s + 9 + (7 + 2 * p)) 6 = nI (C 6 p) ∧ gI m (s + 9 + (7 + 2 * p)) 7 = nI (C 7 p) ∧ gI m (s + 9 + (7 + 2 * p)) 8 = nI (C 8 p) ∧
    gI m (s + 9 + (7 + 2 * p)) 1 = nI (skN C p) ∧ ∀ i, i < skN C p → gI m (s + 9 + (7 + 2 * p) + 1) i = nI (skK C p i)
def N1 (C : Nat → Nat → Nat) (m : Mm) : Prop := ∀ j, j < 7 → gI m 2 (7 + j) = nI (C 0 j)
def N2 (C : Nat → Nat → Nat) (m : Mm) : Prop := ∀ t, t < C 0 0 → gI m 6 (5 + t) = nI (C 1 t) ∧ ∀ i, i < C 1 t → gI m 5 (9 * (5 + t) + i) = nI (C 2 (9 * t + i))
def N3 (C : Nat → Nat → Nat) (m : Mm) : Prop := ∀ p, p < C 0 1 → gI m 7 (7 + p) = nI (C 3 p) ∧ gI m 8 (7 + p) = nI (C 4 p) ∧ gI m 9 (7 + p) = nI (C 5 p) ∧ gI m 10 (7 + p) = nI (C 6 p) ∧ gI m 11 (7 + p) = nI (C 7 p) ∧ gI m 12 (7 + p) = nI (C 8 p)
/-- names: of tunes, of passers -/
def NmT (C : Nat → Nat → Nat) (s : Nat) (NT : Nat → List Nat) (mP mM : Mm) : Prop := ∀ t, t < C 0 0 → okL (NT t) ∧ (NT t).length ≤ 8 ∧ gJ mP (s + 1) t = nJ (encR 32 (NT t)) ∧ gJ mM 3 (5 + t) = nJ (encR 27 (NT t))
def NmQ (C : Nat → Nat → Nat) (s : Nat) (NP : Nat → List Nat) (mP mM : Mm) : Prop := ∀ p, p < C 0 1 → okL (NP p) ∧ (NP p).length ≤ 8 ∧ gJ mP (s + 9 + (7 + 2 * p)) 2 = nJ (encR 32 (NP p)) ∧ gJ mM 4 (7 + p) = nJ (encR 27 (NP p))
def DfB (C : Nat → Nat → Nat) (NT NP : Nat → List Nat) (s : Nat) (mP mM : Mm) : Prop := (s = 4 ∨ s = 34) ∧ Q1 C s mP ∧ Q2 C s mP ∧ Q3 C s mP ∧ N1 C mM ∧ N2 C mM ∧ N3 C mM ∧ NmT C s NT mP mM ∧ NmQ C s NP mP mM
def DfA (C : Nat → Nat → Nat) (NT NP : Nat → List Nat) (s : Nat) (mP mM : Mm) : Prop := CfOK C ∧ DfB C NT NP s mP mM
theorem DfA.cfP {C : Nat → Nat → Nat} {NT NP : Nat → List Nat} {s : Nat} {mP mM : Mm} (h : DfA C NT NP s mP mM) : CfP C s mP := by
  obtain ⟨h1, h2, h3, h4, h5, -⟩ := h
  exact ⟨h3 0 (by decide), h3 1 (by decide), h3 2 (by decide), h3 3 (by decide), h3 4 (by decide), h3 5 (by decide), h3 6 (by decide), h4, h5⟩
/-- the cells that it lies in -/
def vD (s a k : Nat) : Prop := (a = s ∧ 6 ≤ k ∧ k < 13) ∨ a = s + 2 ∨ (s + 4 ≤ a ∧ a ≤ s + 8) ∨ (s + 16 ≤ a ∧ a < s + 30)
def vDj (s a k : Nat) : Prop := a = s + 1 ∨ (s + 16 ≤ a ∧ a < s + 30 ∧ k = 2)
def vE (a k : Nat) : Prop := (a = 2 ∧ 7 ≤ k) ∨ (a = 5 ∧ 45 ≤ k) ∨ (a = 6 ∧ 5 ≤ k) ∨ (7 ≤ a ∧ a ≤ 12 ∧ 7 ≤ k)
theorem Q1.keep {C : Nat → Nat → Nat} {s : Nat} {m n : Mm} (h : Q1 C s m) (e : ∀ k, 6 ≤ k → k < 13 → gI n s k = gI m s k) : Q1 C s n := fun j hj => (e _ (by omega) (by omega)).trans (h j hj)
theorem Q2.keep {C : Nat → Nat → Nat} {s : Nat} {m n : Mm} (c1 : C 0 0 ≤ 5) (h : Q2 C s m) (e : ∀ a k, a = s + 2 ∨ (s + 4 ≤ a ∧ a ≤ s + 8) → gI n a k = gI m a k) : Q2 C s n := fun t ht => ⟨(e _ _ (by omega)).trans (h t ht).1, fun i hi => (e _ _ (by omega)).trans ((h t ht).2 i hi)⟩
theorem Q3.keep {C : Nat → Nat → Nat} {s : Nat} {m n : Mm} (c1 : C 0 1 ≤ 7) (h : Q3 C s m) (e : ∀ a k, (s + 16 ≤ a ∧ a < s + 30) → gI n a k = gI m a k) : Q3 C s n := fun p hp => by
  obtain ⟨a1, a2, a3, a4, a5, a6, a7, a8⟩ := h p hp
  exact ⟨(e _ _ (by omega)).trans a1, (e _ _ (by omega)).trans a2, (e _ _ (by omega)).trans a3, (e _ _ (by omega)).trans a4, (e _ _ (by omega)).trans a5, (e _ _ (by omega)).trans a6, (e _ _ (by omega)).trans a7, fun i hi => (e _ _ (by omega)).trans (a8 i hi)⟩
theorem N1.keep {C : Nat → Nat → Nat} {m n : Mm} (h : N1 C m) (e : ∀ k, 7 ≤ k → gI n 2 k = gI m 2 k) : N1 C n := fun j hj => (e _ (by omega)).trans (h j hj)
theorem N2.keep {C : Nat → Nat → Nat} {m n : Mm} (h : N2 C m) (e : ∀ a k, (a = 5 ∧ 45 ≤ k) ∨ (a = 6 ∧ 5 ≤ k) → gI n a k = gI m a k) : N2 C n := fun t ht => ⟨(e _ _ (by omega)).trans (h t ht).1, fun i hi => (e _ _ (by omega)).trans ((h t ht).2 i hi)⟩
theorem N3.keep {C : Nat → Nat → Nat} {m n : Mm} (h : N3 C m) (e : ∀ a k, (7 ≤ a ∧ a ≤ 12 ∧ 7 ≤ k) → gI n a k = gI m a k) : N3 C n := fun p hp => by
  obtain ⟨a1, a2, a3, a4, a5, a6⟩ := h p hp
  exact ⟨(e _ _ (by omega)).trans a1, (e _ _ (by omega)).trans a2, (e _ _ (by omega)).trans a3, (e _ _ (by omega)).trans a4, (e _ _ (by omega)).trans a5, (e _ _ (by omega)).trans a6⟩
theorem NmT.keep {C : Nat → Nat → Nat} {s : Nat} {NT : Nat → List Nat} {mP mM nP nM : Mm} (h : NmT C s NT mP mM) (e : ∀ k, gJ nP (s + 1) k = gJ mP (s + 1) k) (f : ∀ k, gJ nM 3 k = gJ mM 3 k) : NmT C s NT nP nM := fun t ht => by
  obtain ⟨a1, a2, a3, a4⟩ := h t ht
  exact ⟨a1, a2, (e _).trans a3, (f _).trans a4⟩
theorem NmQ.keep {C : Nat → Nat → Nat} {s : Nat} {NP : Nat → List Nat} {mP mM nP nM : Mm} (c1 : C 0 1 ≤ 7) (h : NmQ C s NP mP mM) (e : ∀ a, s + 16 ≤ a → a < s + 30 → gJ nP a 2 = gJ mP a 2) (f : ∀ k, gJ nM 4 k = gJ mM 4 k) : NmQ C s NP nP nM := fun p hp => by
  obtain ⟨a1, a2, a3, a4⟩ := h p hp
  exact ⟨a1, a2, (e _ (by omega) (by omega)).trans a3, (f _).trans a4⟩
theorem DfA.keep {C : Nat → Nat → Nat} {NT NP : Nat → List Nat} {s : Nat} {mP mM nP nM : Mm} (h : DfA C NT NP s mP mM) (e : ∀ a k, vD s a k → gI nP a k = gI mP a k) (ej : ∀ a k, vDj s a k → gJ nP a k = gJ mP a k) (f : ∀ a k, vE a k → gI nM a k = gI mM a k) (fj : ∀ a k, a = 3 ∨ a = 4 → gJ nM a k = gJ mM a k) : DfA C NT NP s nP nM := by
  obtain ⟨h1, h2, h3, h4, h5, h6, h7, h8, h9, h10⟩ := h
  have c1 := h1.1
  have c2 := h1.2.1
  exact ⟨h1, h2, h3.keep (fun k q1 q2 => e _ _ (by unfold vD; omega)), h4.keep c1 (fun a k q => e _ _ (by unfold vD; omega)), h5.keep c2 (fun a k q => e _ _ (by unfold vD; omega)), h6.keep (fun k q => f _ _ (by unfold vE; omega)), h7.keep (fun a k q => f _ _ (by unfold vE; omega)), h8.keep (fun a k q => f _ _ (by unfold vE; omega)), h9.keep (fun k => ej _ _ (by unfold vDj; omega)) (fun k => fj _ _ (by omega)), h10.keep c2 (fun a q1 q2 => ej _ _ (by unfold vDj; omega)) (fun k => fj _ _ (by omega))⟩
/-- one number told -/
def c0 (C : Nat → Nat → Nat) (i v : Nat) : Nat → Nat → Nat
  | 0, j => if j = i then v else C 0 j
  | a + 1, j => C (a + 1) j
theorem c0_ne {C : Nat → Nat → Nat} {i v j : Nat} (h : j ≠ i) : c0 C i v 0 j = C 0 j := if_neg h
theorem c0_eq {C : Nat → Nat → Nat} {i v : Nat} : c0 C i v 0 i = v := if_pos rfl
theorem c0_ok {C : Nat → Nat → Nat} {i v : Nat} (h : CfOK C) (hi : i = 2 ∨ i = 3 ∨ i = 6) (hv : (i = 2 → v ≤ 59) ∧ (i = 3 → 1 ≤ v ∧ v ≤ 30) ∧ (i = 6 → v ≤ 999)) : CfOK (c0 C i v) := by
  obtain ⟨h1, h2, h3, h4, h5, h6, h7, h8, h9⟩ := h
  obtain ⟨v2, v3, v6⟩ := hv
  rcases hi with rfl | rfl | rfl
  · refine ⟨?_, ?_, ?_, ?_, ?_, ?_, ?_, fun t ht => ?_, fun p hp => ?_⟩
    · rw [c0_ne (by decide)]; exact h1
    · rw [c0_ne (by decide)]; exact h2
    · rw [c0_eq]; exact v2 rfl
    · rw [c0_ne (by decide)]; exact h4
    · rw [c0_ne (by decide)]; exact h5
    · rw [c0_ne (by decide), c0_ne (by decide)]; exact h6
    · rw [c0_ne (by decide)]; exact h7
    · rw [c0_ne (by decide)] at ht; exact h8 t ht
    · rw [c0_ne (by decide)] at hp ⊢; exact h9 p hp
  · refine ⟨?_, ?_, ?_, ?_, ?_, ?_, ?_, fun t ht => ?_, fun p hp => ?_⟩
    · rw [c0_ne (by decide)]; exact h1
    · rw [c0_ne (by decide)]; exact h2
    · rw [c0_ne (by decide)]; exact h3
    · rw [c0_eq]; exact v3 rfl
    · rw [c0_ne (by decide)]; exact h5
    · rw [c0_ne (by decide), c0_ne (by decide)]; exact h6
    · rw [c0_ne (by decide)]; exact h7
    · rw [c0_ne (by decide)] at ht; exact h8 t ht
    · rw [c0_ne (by decide)] at hp ⊢; exact h9 p hp
  · refine ⟨?_, ?_, ?_, ?_, ?_, ?_, ?_, fun t ht => ?_, fun p hp => ?_⟩
    · rw [c0_ne (by decide)]; exact h1
    · rw [c0_ne (by decide)]; exact h2
    · rw [c0_ne (by decide)]; exact h3
    · rw [c0_ne (by decide)]; exact h4
    · rw [c0_ne (by decide)]; exact h5
    · rw [c0_ne (by decide), c0_ne (by decide)]; exact h6
    · rw [c0_eq]; exact v6 rfl
    · rw [c0_ne (by decide)] at ht; exact h8 t ht
    · rw [c0_ne (by decide)] at hp ⊢; exact h9 p hp
theorem c0_ok2 {C : Nat → Nat → Nat} {f u : Nat} (h : CfOK C) (h1 : f ≤ 59) (h2 : f < u) (h3 : u ≤ 60) : CfOK (c0 (c0 C 4 f) 5 u) := by
  obtain ⟨a1, a2, a3, a4, a5, a6, a7, a8, a9⟩ := h
  refine ⟨?_, ?_, ?_, ?_, ?_, ?_, ?_, fun t ht => ?_, fun p hp => ?_⟩
  · rw [c0_ne (by decide), c0_ne (by decide)]; exact a1
  · rw [c0_ne (by decide), c0_ne (by decide)]; exact a2
  · rw [c0_ne (by decide), c0_ne (by decide)]; exact a3
  · rw [c0_ne (by decide), c0_ne (by decide)]; exact a4
  · rw [c0_ne (by decide), c0_eq]; exact h1
  · rw [c0_ne (by decide), c0_eq, c0_eq]; exact ⟨h2, h3⟩
  · rw [c0_ne (by decide), c0_ne (by decide)]; exact a7
  · rw [c0_ne (by decide), c0_ne (by decide)] at ht; exact a8 t ht
  · rw [c0_ne (by decide), c0_ne (by decide)] at hp ⊢; exact a9 p hp
theorem DfB.num {C : Nat → Nat → Nat} {NT NP : Nat → List Nat} {s i v : Nat} {mP mM nP nM : Mm} (c1 : C 0 0 ≤ 5) (c2 : C 0 1 ≤ 7) (h : DfB C NT NP s mP mM) (hi : 2 ≤ i ∧ i < 7) (e0 : gI nP s (6 + i) = nI v) (f0 : gI nM 2 (7 + i) = nI v) (e : ∀ a k, vD s a k → ¬ (a = s ∧ k = 6 + i) → gI nP a k = gI mP a k) (ej : ∀ a k, vDj s a k → gJ nP a k = gJ mP a k) (f : ∀ a k, vE a k → ¬ (a = 2 ∧ k = 7 + i) → gI nM a k = gI mM a k) (fj : ∀ a k, a = 3 ∨ a = 4 → gJ nM a k = gJ mM a k) : DfB (c0 C i v) NT NP s nP nM := by
  obtain ⟨h2, h3, h4, h5, h6, h7, h8, h9, h10⟩ := h
  have z0 : c0 C i v 0 0 = C 0 0 := c0_ne (by omega)
  have z1 : c0 C i v 0 1 = C 0 1 := c0_ne (by omega)
  have k4 : Q2 C s nP := h4.keep c1 (fun a k q => e _ _ (by unfold vD; omega) (by omega))
  have k5 : Q3 C s nP := h5.keep c2 (fun a k q => e _ _ (by unfold vD; omega) (by omega))
  have k7 : N2 C nM := h7.keep (fun a k q => f _ _ (by unfold vE; omega) (by omega))
  have k8 : N3 C nM := h8.keep (fun a k q => f _ _ (by unfold vE; omega) (by omega))
  have k9 : NmT C s NT nP nM := h9.keep (fun k => ej _ _ (by unfold vDj; omega)) (fun k => fj _ _ (by omega))
  have k10 : NmQ C s NP nP nM := h10.keep c2 (fun a q1 q2 => ej _ _ (by unfold vDj; omega)) (fun k => fj _ _ (by omega))
  refine ⟨h2, fun j hj => ?_, fun t ht => k4 t (by omega), fun p hp => k5 p (by omega), fun j hj => ?_, fun t ht => k7 t (by omega), fun p hp => k8 p (by omega), fun t ht => k9 t (by omega), fun p hp => k10 p (by omega)⟩
  · by_cases z : j = i
    · rw [z, c0_eq]; exact e0
    · rw [c0_ne z, e _ _ (by unfold vD; omega) (by omega)]; exact h3 j hj
  · by_cases z : j = i
    · rw [z, c0_eq]; exact f0
    · rw [c0_ne z, f _ _ (by unfold vE; omega) (by omega)]; exact h6 j hj
theorem DfA.num {C : Nat → Nat → Nat} {NT NP : Nat → List Nat} {s i v : Nat} {mP mM nP nM : Mm} (h : DfA C NT NP s mP mM) (hi : 2 ≤ i ∧ i < 7) (hok : CfOK (c0 C i v)) (e0 : gI nP s (6 + i) = nI v) (f0 : gI nM 2 (7 + i) = nI v) (e : ∀ a k, vD s a k → ¬ (a = s ∧ k = 6 + i) → gI nP a k = gI mP a k) (ej : ∀ a k, vDj s a k → gJ nP a k = gJ mP a k) (f : ∀ a k, vE a k → ¬ (a = 2 ∧ k = 7 + i) → gI nM a k = gI mM a k) (fj : ∀ a k, a = 3 ∨ a = 4 → gJ nM a k = gJ mM a k) : DfA (c0 C i v) NT NP s nP nM := ⟨hok, DfB.num h.1.1 h.1.2.1 h.2 hi e0 f0 e ej f fj⟩
/-! what has been told -/
def tP (a b c d e f : Bool) : Int32 := nI ((if a then 128 else 0) + (if b then 256 else 0) + (if c then 512 else 0) + (if d then 2048 else 0) + (if e then 4096 else 0) + (if f then 8192 else 0))
def tM (a b c d : Bool) : Int32 := nI ((if a then 4 else 0) + (if b then 8 else 0) + (if c then 16 else 0) + (if d then 64 else 0))
theorem tP_t : ∀ a b c d e f : Bool, (tP a b c d e f &&& (1 <<< (nI 7 &&& 31)) = 0 ↔ a = false) ∧ (tP a b c d e f &&& (1 <<< (nI 8 &&& 31)) = 0 ↔ b = false) ∧ (tP a b c d e f &&& (1 <<< (nI 9 &&& 31)) = 0 ↔ c = false) ∧ (tP a b c d e f &&& (1 <<< (nI 11 &&& 31)) = 0 ↔ d = false) ∧ (tP a b c d e f &&& (1 <<< (nI 12 &&& 31)) = 0 ↔ e = false) ∧ (tP a b c d e f &&& (1 <<< (nI 13 &&& 31)) = 0 ↔ f = false) := by decide +kernel
theorem tP_s : ∀ a b c d e f : Bool, tP a b c d e f ||| (1 <<< (nI 7 &&& 31)) = tP true b c d e f ∧ tP a b c d e f ||| (1 <<< (nI 8 &&& 31)) = tP a true c d e f ∧ tP a b c d e f ||| (1 <<< (nI 9 &&& 31)) = tP a b true d e f ∧ tP a b c d e f ||| (1 <<< (nI 11 &&& 31)) = tP a b c true e f ∧ tP a b c d e f ||| (1 <<< (nI 12 &&& 31)) = tP a b c d true f ∧ tP a b c d e f ||| (1 <<< (nI 13 &&& 31)) = tP a b c d e true := by decide +kernel
theorem tM_t : ∀ a b c d : Bool, ((tM a b c d >>> (nI 2 &&& 31)) &&& 1 = 1 ↔ a = true) ∧ ((tM a b c d >>> (nI 3 &&& 31)) &&& 1 = 1 ↔ b = true) ∧ ((tM a b c d >>> (nI 4 &&& 31)) &&& 1 = 1 ↔ c = true) ∧ ((tM a b c d >>> (nI 6 &&& 31)) &&& 1 = 1 ↔ d = true) := by decide +kernel
theorem tM_s : ∀ a b c d : Bool, tM a b c d ||| (1 <<< (nI 2 &&& 31)) = tM true b c d ∧ tM a b c d ||| (1 <<< (nI 3 &&& 31)) = tM a true c d ∧ tM a b c d ||| (1 <<< (nI 4 &&& 31)) = tM a b true d ∧ tM a b c d ||| (1 <<< (nI 6 &&& 31)) = tM a b c true := by decide +kernel
def DfT (a b c d e f : Bool) (s : Nat) (mP mM : Mm) : Prop := gI mP s 13 = tP a b c d e f ∧ gI mM 0 26 = tM a b c d
/-- a law, told or not -/
def LwN (c : List Int32) (l a : Nat) (m : Mm) : Prop := a + c.length ≤ 1000 ∧ gI m 13 (2 + l) = nI (1000 + a) ∧ gI m 14 (2 + l) = nI (1000 + a + c.length) ∧ ∀ i, i < c.length → gI m 15 (1000 + a + i) = c.getD i 0
def DfL (l b : Nat) (e : Bool) (cp : Nat) (mP mM : Mm) : Prop := ∃ c cM a, LwP c b mP ∧ LwN cM l a mM ∧ LwEq c cM l ∧ a + cM.length ≤ cp ∧ (e = true ↔ cM ≠ [])
theorem DfL.keep {l b cp cp' : Nat} {e : Bool} {mP mM nP nM : Mm} (h : DfL l b e cp mP mM) (hc : cp ≤ cp') (e0 : gI nP b 3 = gI mP b 3) (e1 : ∀ k, gI nP (b + 1) k = gI mP (b + 1) k) (f1 : gI nM 13 (2 + l) = gI mM 13 (2 + l)) (f2 : gI nM 14 (2 + l) = gI mM 14 (2 + l)) (f3 : ∀ k, 1000 ≤ k → k < 1000 + cp → gI nM 15 k = gI mM 15 k) : DfL l b e cp' nP nM := by
  obtain ⟨c, cM, a, h1, ⟨h2, h3, h4, h5⟩, h6, h7, h8⟩ := h
  exact ⟨c, cM, a, h1.keep e0 e1, ⟨h2, f1.trans h3, f2.trans h4, fun i hi => (f3 _ (by omega) (by omega)).trans (h5 i hi)⟩, h6, by omega, h8⟩
def Dft (s : Nat) (d : Tk) (mP mM : Mm) : Prop := ∃ C NT NP, ∃ t0 t1 t2 t3 e0 e1 : Bool, ∃ cp, DfA C NT NP s mP mM ∧ DfT t0 t1 t2 t3 e0 e1 s mP mM ∧ gI mM 0 24 = nI (1000 + cp) ∧ cp ≤ tkb d ∧ DfL 0 (s + 10) e0 cp mP mM ∧ DfL 1 (s + 13) e1 cp mP mM ∧ FlP mP
/-- all that is written in a line -/
def WSt (s a k : Nat) : Prop := WRP a k ∨ (s ≤ a ∧ a < s + 30 ∧ ¬ ((a = s + 10 ∨ a = s + 13) ∧ k = 2))
def XSt (a k : Nat) : Prop := WRM a k ∨ (a = 0 ∧ 24 ≤ k ∧ k ≤ 26) ∨ (a = 2 ∧ 7 ≤ k) ∨ a = 3 ∨ a = 4 ∨ (a = 5 ∧ 45 ≤ k) ∨ (a = 6 ∧ 5 ≤ k) ∨ (7 ≤ a ∧ a ≤ 12 ∧ 7 ≤ k) ∨ ((a = 13 ∨ a = 14) ∧ 2 ≤ k) ∨ (a = 15 ∧ 1000 ≤ k) ∨ a = 16 ∨ a = 17
def OuD (T : Nat → Nat) (n b s : Nat) (G : Tk → Mm → Mm → Prop) (mP mM : Mm) (q q' : Int32 × Mm) : Prop := Kp (WSt s) mP q.2 ∧ Kp XSt mM q'.2 ∧ ((q.1 = 0 ∧ q'.1 = 0 ∧ gI q.2 3 2 = gI q'.2 0 9 ∧ ¬ gI q.2 3 2 = 0) ∨ (q.1 = 1 ∧ q'.1 = 1 ∧ ∃ d, TkOK T n d ∧ b < tkb d ∧ RdP T n d q.2 ∧ RdM T n d q'.2 ∧ G d q.2 q'.2))
