/-! the parts of the relation one by one: 0 the station, 1 how it is, 2 the tape, 3 the week, 4 what is found, 5 what can be undone, 6 marks, 7 the rest -/
def vP0 (st a k : Nat) : Prop := st ≤ a ∧ a < st + 30 ∧ ¬ (a = st + 12 ∨ a = st + 15 ∨ ((a = st + 10 ∨ a = st + 13) ∧ k = 4))
def vP1 (st a k : Nat) : Prop := a = 64 ∨ a = 65
def vP2 (st a k : Nat) : Prop := (a = 1 ∧ k = 1) ∨ a = 2
def vP3 (st a k : Nat) : Prop := 68 ≤ a ∧ a ≤ 71
def vP4 (st a k : Nat) : Prop := 76 ≤ a ∧ a ≤ 78
def vP5 (st a k : Nat) : Prop := (a = 0 ∧ (k = 13 ∨ k = 14)) ∨ (132 ≤ a ∧ a ≤ 164)
def vP6 (st a k : Nat) : Prop := 91 ≤ a ∧ a ≤ 131
def vP7 (st a k : Nat) : Prop := (a = 14 ∨ a = 17 ∨ a = 44 ∨ a = 47) ∧ k = 2
def vM0 (a k : Nat) : Prop := (a = 2 ∧ k < 7) ∨ (a = 5 ∧ k < 45) ∨ (a = 6 ∧ k < 5) ∨ (7 ≤ a ∧ a ≤ 12 ∧ k < 7) ∨ ((a = 13 ∨ a = 14) ∧ k < 2) ∨ (a = 15 ∧ k < 1000)
def vM1 (a k : Nat) : Prop := a = 35 ∧ k < 17
def vM2 (a k : Nat) : Prop := (a = 0 ∧ k = 1) ∨ (a = 1 ∧ k < 1000)
def vM3 (a k : Nat) : Prop := (a = 28 ∧ k = 0) ∨ (29 ≤ a ∧ a ≤ 31 ∧ k < 40)
def vM4 (a k : Nat) : Prop := (a = 32 ∧ k = 0) ∨ (33 ≤ a ∧ a ≤ 34 ∧ k < 8)
def vM5 (a k : Nat) : Prop := (a = 0 ∧ k = 55) ∨ (a = 39 ∧ k < 272)
def vM6 (a k : Nat) : Prop := (28 ≤ a ∧ a ≤ 34 ∧ ((a = 28 ∧ 1 ≤ k ∧ k < 5) ∨ (a = 32 ∧ 1 ≤ k ∧ k < 5) ∨ (a ≠ 28 ∧ a ≤ 31 ∧ 40 ≤ k ∧ k < 200) ∨ (33 ≤ a ∧ 8 ≤ k ∧ k < 40))) ∨ (a = 38 ∧ k < 68) ∨ (a = 40 ∧ k < 4)
def vM7 (a k : Nat) : Prop := a = 0 ∧ k = 62
theorem CuM.kp {r : Nat} {Q : Nat → Nat → Nat} {m n : Mm} (hQ : CuOK Q) (q : CuM r Q m) (e0 : gI n 32 r = gI m 32 r) (e : ∀ c i, 33 ≤ c → c ≤ 34 → i < 8 → gI n c (8 * r + i) = gI m c (8 * r + i)) : CuM r Q n := by
  refine ⟨e0.trans q.1, fun i hi => ?_⟩
  have h8 : i < 8 := Nat.lt_of_lt_of_le hi hQ.1
  rw [e 33 i (by decide) (by decide) h8, e 34 i (by decide) (by decide) h8]
  exact q.2 i hi
theorem RCf.kp {C : Nat → Nat → Nat} {st : Nat} {mP mM nP nM : Mm} (q : RCf C st mP mM) (e : ∀ a k, vP0 st a k → gI nP a k = gI mP a k) (f : ∀ a k, vM0 a k → gI nM a k = gI mM a k) : RCf C st nP nM := by
  obtain ⟨hC, hP, hM, jP, jM, wP, wM, aj, aw, h1, h2, h3, h4, h5, h6⟩ := q
  refine ⟨hC, hP.keep hC (fun a k a1 a2 a3 => e a k ⟨a1, a2, a3⟩), hM.keep hC (fun a k h => f a k ?_), jP, jM, wP, wM, aj, aw, h1.keep (e _ _ (by unfold vP0; omega)) (fun k => e _ _ (by unfold vP0; omega)), h2.keep (f _ _ (by unfold vM0; omega)) (f _ _ (by unfold vM0; omega)) (fun k hk => f _ _ (by unfold vM0; omega)), h3, h4.keep (e _ _ (by unfold vP0; omega)) (fun k => e _ _ (by unfold vP0; omega)), h5.keep (f _ _ (by unfold vM0; omega)) (f _ _ (by unfold vM0; omega)) (fun k hk => f _ _ (by unfold vM0; omega)), h6⟩
  rcases h with h | h | h | h
  · exact Or.inl h
  · exact Or.inr (Or.inl h)
  · exact Or.inr (Or.inr (Or.inl h))
  · exact Or.inr (Or.inr (Or.inr (Or.inl h)))
theorem RSt.kp {S : Nat → Int32} {mP mM nP nM : Mm} (q : RSt S mP mM) (e : ∀ a k, vP1 0 a k → gI nP a k = gI mP a k) (f : ∀ a k, vM1 a k → gI nM a k = gI mM a k) : RSt S nP nM :=
  ⟨q.1, q.2.1.keep (fun k => e _ _ (Or.inl rfl)) (fun k => e _ _ (Or.inr rfl)), q.2.2.keep (fun i hi => f _ _ ⟨rfl, by omega⟩)⟩
theorem RTp.kp {mP mM nP nM : Mm} (q : RTp mP mM) (e : ∀ a k, vP2 0 a k → gI nP a k = gI mP a k) (f : ∀ a k, vM2 a k → gI nM a k = gI mM a k) : RTp nP nM := by
  obtain ⟨T, n, hT, h1, h2⟩ := q
  have := hT.1
  exact ⟨T, n, hT, ⟨(e _ _ (Or.inl ⟨rfl, rfl⟩)).trans h1.1, fun i hi => (e _ _ (Or.inr rfl)).trans (h1.2 i hi)⟩, ⟨(f 0 1 (Or.inl ⟨rfl, rfl⟩)).trans h2.1, fun i hi => (f 1 i (Or.inr ⟨rfl, by omega⟩)).trans (h2.2 i hi)⟩⟩
theorem RWk.kp {mP mM nP nM : Mm} (q : RWk mP mM) (e : ∀ a k, vP3 0 a k → gI nP a k = gI mP a k) (f : ∀ a k, vM3 a k → gI nM a k = gI mM a k) : RWk nP nM := by
  obtain ⟨W, hW, h1, h2⟩ := q
  exact ⟨W, hW, h1.keep (fun k => e _ _ ⟨by decide, by decide⟩) (fun k => e _ _ ⟨by decide, by decide⟩) (fun k => e _ _ ⟨by decide, by decide⟩) (fun k => e _ _ ⟨by decide, by decide⟩), h2.keep hW (f _ _ (Or.inl ⟨rfl, rfl⟩)) (fun c i h1 h2 hi => f _ _ (Or.inr ⟨h1, h2, by omega⟩))⟩
theorem RCu.kp {mP mM nP nM : Mm} (q : RCu mP mM) (e : ∀ a k, vP4 0 a k → gI nP a k = gI mP a k) (f : ∀ a k, vM4 a k → gI nM a k = gI mM a k) : RCu nP nM := by
  obtain ⟨Q, hQ, h1, h2⟩ := q
  exact ⟨Q, hQ, h1.keep (fun k => e _ _ ⟨by decide, by decide⟩) (fun k => e _ _ ⟨by decide, by decide⟩) (fun k => e _ _ ⟨by decide, by decide⟩), h2.kp hQ (f _ _ (Or.inl ⟨rfl, rfl⟩)) (fun c i h1 h2 hi => f _ _ (Or.inr ⟨h1, h2, by omega⟩))⟩
theorem RUn.kp {mP mM nP nM : Mm} (q : RUn mP mM) (e : ∀ a k, vP5 0 a k → gI nP a k = gI mP a k) (f : ∀ a k, vM5 a k → gI nM a k = gI mM a k) : RUn nP nM := by
  obtain ⟨x, d, hx, hd, h1, h2, h3, h4⟩ := q
  refine ⟨x, d, hx, hd, (e _ _ (Or.inl ⟨rfl, Or.inl rfl⟩)).trans h1, (e _ _ (Or.inl ⟨rfl, Or.inr rfl⟩)).trans h2, (f _ _ (Or.inl ⟨rfl, rfl⟩)).trans h3, fun i hi => ?_⟩
  obtain ⟨S, a1, a2, a3⟩ := h4 i hi
  exact ⟨S, a1, a2.keep (fun k => e _ _ (Or.inr ⟨by omega, by omega⟩)) (fun k => e _ _ (Or.inr ⟨by omega, by omega⟩)), a3.keep (fun j hj => f _ _ (Or.inr ⟨rfl, by omega⟩))⟩
theorem RMk1.kp {i : Nat} {mP mM nP nM : Mm} (q : RMk1 i mP mM) (e : ∀ a k, 91 + (1 + 10 * i) ≤ a → a < 91 + (1 + 10 * i) + 10 → gI nP a k = gI mP a k) (f1 : gI nM 28 (1 + i) = gI mM 28 (1 + i)) (f2 : ∀ a j, 29 ≤ a → a ≤ 31 → j < 40 → gI nM a (40 * (1 + i) + j) = gI mM a (40 * (1 + i) + j)) (f3 : gI nM 32 (1 + i) = gI mM 32 (1 + i)) (f4 : ∀ a j, 33 ≤ a → a ≤ 34 → j < 8 → gI nM a (8 * (1 + i) + j) = gI mM a (8 * (1 + i) + j)) (f5 : ∀ j, j < 17 → gI nM 38 (17 * i + j) = gI mM 38 (17 * i + j)) (f6 : gI nM 40 i = gI mM 40 i) : RMk1 i nP nM := by
  rcases q with h | ⟨h1, h2, S, W, Q, a1, a2, a3, a4, a5, a6, a7, a8, a9⟩
  · exact Or.inl ⟨(e _ _ (by omega) (by omega)).trans h.1, f6.trans h.2⟩
  · refine Or.inr ⟨(e _ _ (by omega) (by omega)).trans h1, f6.trans h2, S, W, Q, a1, a2.keep (fun k => e _ _ (by omega) (by omega)) (fun k => e _ _ (by omega) (by omega)), a3.keep f5, a4, ?_, a6.keep a4 f1 f2, a7, ?_, a9.kp a7 f3 f4⟩
    · exact a5.keep (fun k => e _ _ (by omega) (by omega)) (fun k => e _ _ (by omega) (by omega)) (fun k => e _ _ (by omega) (by omega)) (fun k => e _ _ (by omega) (by omega))
    · exact a8.keep (fun k => e _ _ (by omega) (by omega)) (fun k => e _ _ (by omega) (by omega)) (fun k => e _ _ (by omega) (by omega))
theorem RMk.kp {mP mM nP nM : Mm} (q : RMk mP mM) (e : ∀ a k, vP6 0 a k → gI nP a k = gI mP a k) (f : ∀ a k, vM6 a k → gI nM a k = gI mM a k) : RMk nP nM := fun i hi => (q i hi).kp (fun a k h1 h2 => e a k ⟨by omega, by omega⟩)
  (f _ _ (Or.inl ⟨by decide, by decide, Or.inl ⟨rfl, by omega, by omega⟩⟩)) (fun a j h1 h2 hj => f _ _ (Or.inl ⟨by omega, by omega, Or.inr (Or.inr (Or.inl ⟨by omega, h2, by omega, by omega⟩))⟩)) (f _ _ (Or.inl ⟨by decide, by decide, Or.inr (Or.inl ⟨rfl, by omega, by omega⟩)⟩)) (fun a j h1 h2 hj => f _ _ (Or.inl ⟨by omega, by omega, Or.inr (Or.inr (Or.inr ⟨h1, by omega, by omega⟩))⟩)) (fun j hj => f _ _ (Or.inr (Or.inl ⟨rfl, by omega⟩))) (f _ _ (Or.inr (Or.inr ⟨rfl, hi⟩)))
theorem FlP.kp {m n : Mm} (q : FlP m) (e : ∀ a k, vP7 0 a k → gI n a k = gI m a k) : FlP n := ⟨(e _ _ ⟨by decide, rfl⟩).trans q.1, (e _ _ ⟨by decide, rfl⟩).trans q.2.1, (e _ _ ⟨by decide, rfl⟩).trans q.2.2.1, (e _ _ ⟨by decide, rfl⟩).trans q.2.2.2⟩
/-- all but one part stands -/
def RelB (c : Nat) (C : Nat → Nat → Nat) (st : Nat) (S : Nat → Int32) (mP mM : Mm) : Prop := (st = 4 ∨ st = 34) ∧ (gR mP 0 2 = st ∧ gR mP 0 3 = 38 - st) ∧ (c ≠ 0 → RCf C st mP mM) ∧ (c ≠ 1 → RSt S mP mM) ∧ (c ≠ 2 → RTp mP mM) ∧ (c ≠ 3 → RWk mP mM) ∧ (c ≠ 4 → RCu mP mM) ∧ (c ≠ 5 → RUn mP mM) ∧ (c ≠ 6 → RMk mP mM) ∧ FlP mP ∧ gI mM 0 62 = 0
theorem RelC.but {C : Nat → Nat → Nat} {st : Nat} {S : Nat → Int32} {mP mM nP nM : Mm} (q : RelC C st S mP mM) (c : Nat) {W X : Nat → Nat → Prop} (e : ∀ a k, ¬ W a k → gI nP a k = gI mP a k) (r : ∀ k, gR nP 0 k = gR mP 0 k) (f : ∀ a k, ¬ X a k → gI nM a k = gI mM a k)
  (p0 : c ≠ 0 → ∀ a k, vP0 st a k → ¬ W a k) (p1 : c ≠ 1 → ∀ a k, vP1 0 a k → ¬ W a k) (p2 : c ≠ 2 → ∀ a k, vP2 0 a k → ¬ W a k) (p3 : c ≠ 3 → ∀ a k, vP3 0 a k → ¬ W a k) (p4 : c ≠ 4 → ∀ a k, vP4 0 a k → ¬ W a k) (p5 : c ≠ 5 → ∀ a k, vP5 0 a k → ¬ W a k) (p6 : c ≠ 6 → ∀ a k, vP6 0 a k → ¬ W a k) (p7 : ∀ a k, vP7 0 a k → ¬ W a k)
  (m0 : c ≠ 0 → ∀ a k, vM0 a k → ¬ X a k) (m1 : c ≠ 1 → ∀ a k, vM1 a k → ¬ X a k) (m2 : c ≠ 2 → ∀ a k, vM2 a k → ¬ X a k) (m3 : c ≠ 3 → ∀ a k, vM3 a k → ¬ X a k) (m4 : c ≠ 4 → ∀ a k, vM4 a k → ¬ X a k) (m5 : c ≠ 5 → ∀ a k, vM5 a k → ¬ X a k) (m6 : c ≠ 6 → ∀ a k, vM6 a k → ¬ X a k) (m7 : ∀ a k, vM7 a k → ¬ X a k) : RelB c C st S nP nM := by
  obtain ⟨⟨h0, h1, h1'⟩, h2, h3, h4, h5, h6, h7', h8, h9, h10⟩ := q
  exact ⟨h0, ⟨(r _).trans h1, (r _).trans h1'⟩, fun n => h2.kp (fun a k v => e a k (p0 n a k v)) (fun a k v => f a k (m0 n a k v)), fun n => h3.kp (fun a k v => e a k (p1 n a k v)) (fun a k v => f a k (m1 n a k v)), fun n => h4.kp (fun a k v => e a k (p2 n a k v)) (fun a k v => f a k (m2 n a k v)), fun n => h5.kp (fun a k v => e a k (p3 n a k v)) (fun a k v => f a k (m3 n a k v)), fun n => h6.kp (fun a k v => e a k (p4 n a k v)) (fun a k v => f a k (m4 n a k v)), fun n => h7'.kp (fun a k v => e a k (p5 n a k v)) (fun a k v => f a k (m5 n a k v)), fun n => h8.kp (fun a k v => e a k (p6 n a k v)) (fun a k v => f a k (m6 n a k v)),
    h9.kp (fun a k v => e a k (p7 a k v)), (f 0 62 (m7 _ _ ⟨rfl, rfl⟩)).trans h10⟩
theorem RelB.all {c : Nat} {C : Nat → Nat → Nat} {st : Nat} {S : Nat → Int32} {mP mM : Mm} (q : RelB c C st S mP mM) (h0 : c = 0 → RCf C st mP mM) (h1 : c = 1 → RSt S mP mM) (h2 : c = 2 → RTp mP mM) (h3 : c = 3 → RWk mP mM) (h4 : c = 4 → RCu mP mM) (h5 : c = 5 → RUn mP mM) (h6 : c = 6 → RMk mP mM) : RelC C st S mP mM := by
  obtain ⟨a0, a1, b0, b1, b2, b3, b4, b5, b6, b7, b8⟩ := q
  exact ⟨⟨a0, a1.1, a1.2⟩, if h : c = 0 then h0 h else b0 h, if h : c = 1 then h1 h else b1 h, if h : c = 2 then h2 h else b2 h, if h : c = 3 then h3 h else b3 h, if h : c = 4 then h4 h else b4 h, if h : c = 5 then h5 h else b5 h, if h : c = 6 then h6 h else b6 h, b7, b8⟩
theorem RelB.st {C : Nat → Nat → Nat} {st : Nat} {S S2 : Nat → Int32} {mP mM : Mm} (q : RelB 1 C st S mP mM) (h : RSt S2 mP mM) : RelC C st S2 mP mM := by
  obtain ⟨a0, a1, b0, b1, b2, b3, b4, b5, b6, b7, b8⟩ := q
  exact ⟨⟨a0, a1.1, a1.2⟩, b0 (by decide), h, b2 (by decide), b3 (by decide), b4 (by decide), b5 (by decide), b6 (by decide), b7, b8⟩
theorem RelB.tp {C : Nat → Nat → Nat} {st : Nat} {S : Nat → Int32} {mP mM : Mm} (q : RelB 2 C st S mP mM) (h : RTp mP mM) : RelC C st S mP mM := q.all (fun h => absurd h (by decide)) (fun h => absurd h (by decide)) (fun _ => h) (fun h => absurd h (by decide)) (fun h => absurd h (by decide)) (fun h => absurd h (by decide)) (fun h => absurd h (by decide))
theorem RelB.wk {C : Nat → Nat → Nat} {st : Nat} {S : Nat → Int32} {mP mM : Mm} (q : RelB 3 C st S mP mM) (h : RWk mP mM) : RelC C st S mP mM := q.all (fun h => absurd h (by decide)) (fun h => absurd h (by decide)) (fun h => absurd h (by decide)) (fun _ => h) (fun h => absurd h (by decide)) (fun h => absurd h (by decide)) (fun h => absurd h (by decide))
theorem RelB.cu {C : Nat → Nat → Nat} {st : Nat} {S : Nat → Int32} {mP mM : Mm} (q : RelB 4 C st S mP mM) (h : RCu mP mM) : RelC C st S mP mM := q.all (fun h => absurd h (by decide)) (fun h => absurd h (by decide)) (fun h => absurd h (by decide)) (fun h => absurd h (by decide)) (fun _ => h) (fun h => absurd h (by decide)) (fun h => absurd h (by decide))
theorem RelB.un {C : Nat → Nat → Nat} {st : Nat} {S : Nat → Int32} {mP mM : Mm} (q : RelB 5 C st S mP mM) (h : RUn mP mM) : RelC C st S mP mM := q.all (fun h => absurd h (by decide)) (fun h => absurd h (by decide)) (fun h => absurd h (by decide)) (fun h => absurd h (by decide)) (fun h => absurd h (by decide)) (fun _ => h) (fun h => absurd h (by decide))
theorem RelB.mk {C : Nat → Nat → Nat} {st : Nat} {S : Nat → Int32} {mP mM : Mm} (q : RelB 6 C st S mP mM) (h : RMk mP mM) : RelC C st S mP mM := q.all (fun h => absurd h (by decide)) (fun h => absurd h (by decide)) (fun h => absurd h (by decide)) (fun h => absurd h (by decide)) (fun h => absurd h (by decide)) (fun h => absurd h (by decide)) (fun _ => h)

