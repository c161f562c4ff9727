/-! what class and reference have in common between two calls -/
/-- the configuration: 0 the numbers (tunes, passers, waits, each, from, to, price), 1 lengths, 2 keys, 3 kind, 4 tune, 5 skill, 6 shyness, 7 stays, 8 comes -/
def CfOK (C : Nat → Nat → Nat) : Prop :=
  C 0 0 ≤ 5 ∧ C 0 1 ≤ 7 ∧ C 0 2 ≤ 59 ∧ (1 ≤ C 0 3 ∧ C 0 3 ≤ 30) ∧ C 0 4 ≤ 59 ∧ (C 0 4 < C 0 5 ∧ C 0 5 ≤ 60) ∧ C 0 6 ≤ 999 ∧
  (∀ t, t < C 0 0 → 1 ≤ C 1 t ∧ C 1 t ≤ 9 ∧ ∀ i, i < C 1 t → C 2 (9 * t + i) < 12) ∧
  (∀ p, p < C 0 1 → C 3 p ≤ 3 ∧ C 4 p < C 0 0 ∧ C 5 p ≤ 9 ∧ C 6 p ≤ 9 ∧ (1 ≤ C 7 p ∧ C 7 p ≤ 30) ∧ C 8 p ≤ 59)
/-- how many keys of his tune he plays, all his strikes, and the key of a strike -/
def rwO (C : Nat → Nat → Nat) (p : Nat) : Nat := if C 3 p = 1 then min 3 (C 1 (C 4 p)) else C 1 (C 4 p)
def skN (C : Nat → Nat → Nat) (p : Nat) : Nat := if C 3 p = 2 then 2 * rwO C p else rwO C p
def skK (C : Nat → Nat → Nat) (p i : Nat) : Nat := C 2 (9 * C 4 p + i % rwO C p)
def CfP (C : Nat → Nat → Nat) (st : Nat) (m : Mm) : Prop :=
  gI m st 6 = nI (C 0 0) ∧ gI m st 7 = nI (C 0 1) ∧ gI m st 8 = nI (C 0 2) ∧ gI m st 9 = nI (C 0 3) ∧ gI m st 10 = nI (C 0 4) ∧ gI m st 11 = nI (C 0 5) ∧ gI m st 12 = nI (C 0 6) ∧
  (∀ t, t < C 0 0 → gI m (st + 2) t = nI (C 1 t) ∧ ∀ i, i < C 1 t → gI m (st + 3 + (1 + t)) i = nI (C 2 (9 * t + i))) ∧
  (∀ p, p < C 0 1 → gI m (st + 9 + (7 + 2 * p)) 3 = nI (C 3 p) ∧ gI m (st + 9 + (7 + 2 * p)) 4 = nI (C 4 p) ∧ gI m (st + 9 + (7 + 2 * p)) 5 = nI (C 5 p) ∧ gI m (st + 9 + (7 + 2 * p)) 6 = nI (C 6 p) ∧ gI m (st + 9 + (7 + 2 * p)) 7 = nI (C 7 p) ∧ gI m (st + 9 + (7 + 2 * p)) 8 = nI (C 8 p) ∧
    gI m (st + 9 + (7 + 2 * p)) 1 = nI (skN C p) ∧ ∀ i, i < skN C p → gI m (st + 9 + (7 + 2 * p) + 1) i = nI (skK C p i))
def CfM (C : Nat → Nat → Nat) (m : Mm) : Prop :=
  (∀ i, i < 7 → gI m 2 i = nI (C 0 i)) ∧
  (∀ t, t < C 0 0 → gI m 6 t = nI (C 1 t) ∧ ∀ i, i < C 1 t → gI m 5 (9 * t + i) = nI (C 2 (9 * t + i))) ∧
  (∀ p, p < C 0 1 → gI m 7 p = nI (C 3 p) ∧ gI m 8 p = nI (C 4 p) ∧ gI m 9 p = nI (C 5 p) ∧ gI m 10 p = nI (C 6 p) ∧ gI m 11 p = nI (C 7 p) ∧ gI m 12 p = nI (C 8 p))
/-! the class's way to work a law out -/
def evPush (v : Int32) (S : List Int32) : List Int32 := if S.length < 32 then v :: S else S
def evTop (S : List Int32) : Int32 := S.headD 0
def evJoin (c l r : Int32) : Int32 := if c = -12 then (if l ≠ 0 ∧ r ≠ 0 then 1 else 0) else if c = -13 then (if l ≠ 0 ∨ r ≠ 0 then 1 else 0) else if c = -14 then (if l < r then 1 else 0) else if c = -15 then (if l = r then 1 else 0) else if c = -16 then l + r else if c = -17 then l - r else l * r
def evStep (f : Nat → Int32) (S : List Int32) (c : Int32) : List Int32 :=
  if 0 ≤ c then evPush c S
  else if -11 < c then evPush (if 0 ≤ -1 - c ∧ -1 - c < 6 then f (-1 - c).toNatClampNeg else 0) S
  else if c = -11 then evPush (if evTop S = 0 then 1 else 0) S.tail
  else evPush (evJoin c (evTop S.tail) (evTop S)) S.tail.tail
def evP (c : List Int32) (f : Nat → Int32) : Int32 := evTop (c.foldl (evStep f) [])
def LwP (c : List Int32) (b : Nat) (m : Mm) : Prop := c.length ≤ 1000 ∧ gI m b 3 = nI c.length ∧ ∀ i, i < c.length → gI m (b + 1) i = c.getD i 0
def LwM (c : List Int32) (l a : Nat) (m : Mm) : Prop := a + c.length ≤ 1000 ∧ gI m 13 l = nI a ∧ gI m 14 l = nI (a + c.length) ∧ ∀ i, i < c.length → gI m 15 (a + i) = c.getD i 0
def okF (l i : Nat) : Prop := if l = 0 then i < 4 else (i = 0 ∨ i = 4 ∨ i = 5)
/-- the reference works out the same of its own code, whatever lies in its rows -/
def LwEq (cP cM : List Int32) (l : Nat) : Prop := (cP = [] ↔ cM = []) ∧ (∀ f g : Nat → Int32, (∀ i, okF l i → f i = g i) → evP cP f = evP cP g) ∧
  (cM ≠ [] → ∀ (m : Mm) (a : Nat), LwM cM l a m → Sat (f_X12_worked (nI l) m) (fun q => q.1 = evP cP (fun i => gI m 27 (i + 1)) ∧ Kp (fun a _ => 18 ≤ a ∧ a ≤ 26) m q.2))
/-! the tape, rows of how it is, weeks, what is found -/
def TpP (T : Nat → Nat) (n : Nat) (m : Mm) : Prop := gI m 1 1 = nI n ∧ ∀ i, i < n → gI m 2 i = nI (T i)
def TpM (T : Nat → Nat) (n : Nat) (m : Mm) : Prop := gI m 0 1 = nI n ∧ ∀ i, i < n → gI m 1 i = nI (T i)
def TpOK (T : Nat → Nat) (n : Nat) : Prop := n ≤ 1000 ∧ ∀ i, i < n → T i = 10 ∨ (32 ≤ T i ∧ T i ≤ 126)
def RowP (h : Nat) (S : Nat → Int32) (m : Mm) : Prop := gI m h 1 = S 0 ∧ gI m h 2 = S 1 ∧ gI m h 3 = S 2 ∧ gI m h 4 = S 3 ∧ gI m h 5 = S 4 ∧ ∀ k, k < 12 → gI m (h + 1) k = S (5 + k)
def RowM (c o : Nat) (S : Nat → Int32) (m : Mm) : Prop := ∀ i, i < 17 → gI m c (o + i) = S i
def RowOK (S : Nat → Int32) : Prop := (∃ e, 1 ≤ e ∧ e ≤ 30 ∧ S 1 = nI e) ∧ (∃ f, f ≤ 59 ∧ S 2 = nI f) ∧ (∃ t, t ≤ 60 ∧ S 3 = nI t) ∧ ∀ k, k < 12 → ∃ w, w ≤ 9 ∧ S (5 + k) = nI w
def wkC (k : Nat) : Nat := if k = 0 then 14 else if k = 1 then 15 else if k = 2 then 8 else 9
def WkOK (W : Nat → Nat → Nat) : Prop := W 0 0 ≤ 40 ∧ ∀ i, i < W 0 0 → W 1 i ≤ 3 ∧ (W 1 i = 2 → 1 ≤ W 2 i ∧ W 2 i ≤ 30) ∧ (W 1 i = 3 → W 2 i ≤ 59 ∧ W 3 i ≤ 60)
def WkP (h : Nat) (W : Nat → Nat → Nat) (m : Mm) : Prop := gI m h 3 = nI (W 0 0) ∧ ∀ i, i < W 0 0 → gI m (h + 1) i = nI (wkC (W 1 i)) ∧ (2 ≤ W 1 i → gI m (h + 2) i = nI (W 2 i)) ∧ (W 1 i = 3 → gI m (h + 3) i = nI (W 3 i))
def WkM (r : Nat) (W : Nat → Nat → Nat) (m : Mm) : Prop := gI m 28 r = nI (W 0 0) ∧ ∀ i, i < W 0 0 → gI m 29 (40 * r + i) = nI (W 1 i) ∧ (2 ≤ W 1 i → gI m 30 (40 * r + i) = nI (W 2 i)) ∧ (W 1 i = 3 → gI m 31 (40 * r + i) = nI (W 3 i))
def CuOK (Q : Nat → Nat → Nat) : Prop := Q 0 0 ≤ 8 ∧ ∀ i, i < Q 0 0 → Q 1 i < 12 ∧ Q 2 i ≤ 9
def CuP (h : Nat) (Q : Nat → Nat → Nat) (m : Mm) : Prop := gI m h 2 = nI (Q 0 0) ∧ ∀ i, i < Q 0 0 → gI m (h + 1) i = nI (Q 1 i) ∧ gI m (h + 2) i = nI (Q 2 i)
def CuM (r : Nat) (Q : Nat → Nat → Nat) (m : Mm) : Prop := gI m 32 r = nI (Q 0 0) ∧ ∀ i, i < Q 0 0 → gI m 33 (8 * r + i) = nI (Q 1 i) ∧ gI m 34 (8 * r + i) = nI (Q 2 i)
def FlP (m : Mm) : Prop := gI m 14 2 = 1 ∧ gI m 17 2 = 0 ∧ gI m 44 2 = 1 ∧ gI m 47 2 = 0
def StP (st : Nat) (m : Mm) : Prop := (st = 4 ∨ st = 34) ∧ gR m 0 2 = st ∧ gR m 0 3 = 38 - st
/-- the station as it is told, with its laws -/
def RCf (C : Nat → Nat → Nat) (st : Nat) (mP mM : Mm) : Prop := CfOK C ∧ CfP C st mP ∧ CfM C mM ∧ ∃ jP jM wP wM : List Int32, ∃ aj aw : Nat, LwP jP (st + 10) mP ∧ LwM jM 0 aj mM ∧ LwEq jP jM 0 ∧ LwP wP (st + 13) mP ∧ LwM wM 1 aw mM ∧ LwEq wP wM 1
def RTp (mP mM : Mm) : Prop := ∃ T n, TpOK T n ∧ TpP T n mP ∧ TpM T n mM
def RSt (S : Nat → Int32) (mP mM : Mm) : Prop := RowOK S ∧ RowP 64 S mP ∧ RowM 35 0 S mM
def RWk (mP mM : Mm) : Prop := ∃ W, WkOK W ∧ WkP 68 W mP ∧ WkM 0 W mM
def RCu (mP mM : Mm) : Prop := ∃ Q, CuOK Q ∧ CuP 76 Q mP ∧ CuM 0 Q mM
def RUn (mP mM : Mm) : Prop := ∃ x d : Nat, x < 16 ∧ d ≤ 16 ∧ gI mP 0 13 = nI x ∧ gI mP 0 14 = nI d ∧ gI mM 0 55 = nI d ∧ ∀ i, i < d → ∃ S, RowOK S ∧ RowP (132 + (1 + 2 * ((x + 16 - d + i) % 16))) S mP ∧ RowM 39 (17 * i) S mM
def RMk1 (i : Nat) (mP mM : Mm) : Prop := (gI mP (91 + (1 + 10 * i)) 3 = 0 ∧ gI mM 40 i = 0) ∨ (gI mP (91 + (1 + 10 * i)) 3 = 1 ∧ gI mM 40 i = 1 ∧ ∃ S W Q, RowOK S ∧ RowP (91 + (1 + 10 * i) + 1) S mP ∧ RowM 38 (17 * i) S mM ∧ WkOK W ∧ WkP (91 + (1 + 10 * i) + 3) W mP ∧ WkM (1 + i) W mM ∧ CuOK Q ∧ CuP (91 + (1 + 10 * i) + 7) Q mP ∧ CuM (1 + i) Q mM)
def RMk (mP mM : Mm) : Prop := ∀ i, i < 4 → RMk1 i mP mM
def RelC (C : Nat → Nat → Nat) (st : Nat) (S : Nat → Int32) (mP mM : Mm) : Prop := StP st mP ∧ RCf C st mP mM ∧ RSt S mP mM ∧ RTp mP mM ∧ RWk mP mM ∧ RCu mP mM ∧ RUn mP mM ∧ RMk mP mM ∧ FlP mP ∧ gI mM 0 62 = 0
def Rel (mP mM : Mm) : Prop := ∃ C st S, RelC C st S mP mM
/-! what is looked at -/
def VP (st a k : Nat) : Prop := (a = 1 ∧ k = 1) ∨ a = 2 ∨ a = 0 ∨ (st ≤ a ∧ a < st + 30 ∧ ¬ (a = st + 12 ∨ a = st + 15 ∨ ((a = st + 10 ∨ a = st + 13) ∧ k = 4))) ∨ a = 64 ∨ a = 65 ∨ (68 ≤ a ∧ a ≤ 71) ∨ (76 ≤ a ∧ a ≤ 78) ∨ (91 ≤ a ∧ a ≤ 164) ∨ ((a = 14 ∨ a = 17 ∨ a = 44 ∨ a = 47) ∧ k = 2)
def VM (a k : Nat) : Prop := (a = 0 ∧ (k = 1 ∨ k = 55 ∨ k = 62)) ∨ a = 1 ∨ (a = 2 ∧ k < 7) ∨ (a = 5 ∧ k < 45) ∨ (a = 6 ∧ k < 5) ∨ (7 ≤ a ∧ a ≤ 12 ∧ k < 7) ∨ ((a = 13 ∨ a = 14) ∧ k < 2) ∨ (a = 15 ∧ k < 1000) ∨ (a = 28 ∧ k < 5) ∨ (29 ≤ a ∧ a ≤ 31 ∧ k < 200) ∨ (32 ≤ a ∧ a ≤ 34) ∨ a = 35 ∨ (38 ≤ a ∧ a ≤ 40)
def SaP (st : Nat) (m n : Mm) : Prop := (∀ a k, VP st a k → gI n a k = gI m a k) ∧ gR n 0 2 = gR m 0 2 ∧ gR n 0 3 = gR m 0 3
def SaM (m n : Mm) : Prop := ∀ a k, VM a k → gI n a k = gI m a k
theorem SaP.refl (st : Nat) (m : Mm) : SaP st m m := ⟨fun _ _ _ => rfl, rfl, rfl⟩
theorem SaM.refl (m : Mm) : SaM m m := fun _ _ _ => rfl
theorem RowP.keep {h : Nat} {S : Nat → Int32} {m n : Mm} (q : RowP h S m) (e : ∀ k, gI n h k = gI m h k) (e1 : ∀ k, gI n (h + 1) k = gI m (h + 1) k) : RowP h S n := by
  unfold RowP at *
  simp only [e, e1]
  exact q
theorem RowM.keep {c o : Nat} {S : Nat → Int32} {m n : Mm} (q : RowM c o S m) (e : ∀ i, i < 17 → gI n c (o + i) = gI m c (o + i)) : RowM c o S n := fun i hi => (e i hi).trans (q i hi)
theorem WkP.keep {h : Nat} {W : Nat → Nat → Nat} {m n : Mm} (q : WkP h W m) (e : ∀ k, gI n h k = gI m h k) (e1 : ∀ k, gI n (h + 1) k = gI m (h + 1) k) (e2 : ∀ k, gI n (h + 2) k = gI m (h + 2) k) (e3 : ∀ k, gI n (h + 3) k = gI m (h + 3) k) : WkP h W n := by
  unfold WkP at *
  simp only [e, e1, e2, e3]
  exact q
theorem WkM.keep {r : Nat} {W : Nat → Nat → Nat} {m n : Mm} (hW : WkOK W) (q : WkM r W m) (e0 : gI n 28 r = gI m 28 r) (e : ∀ c i, 29 ≤ c → c ≤ 31 → i < 40 → gI n c (40 * r + i) = gI m c (40 * r + i)) : WkM r W n := by
  refine ⟨e0.trans q.1, fun i hi => ?_⟩
  have h40 : i < 40 := Nat.lt_of_lt_of_le hi hW.1
  rw [e 29 i (by decide) (by decide) h40, e 30 i (by decide) (by decide) h40, e 31 i (by decide) (by decide) h40]
  exact q.2 i hi
theorem CuP.keep {h : Nat} {Q : Nat → Nat → Nat} {m n : Mm} (q : CuP h Q m) (e : ∀ k, gI n h k = gI m h k) (e1 : ∀ k, gI n (h + 1) k = gI m (h + 1) k) (e2 : ∀ k, gI n (h + 2) k = gI m (h + 2) k) : CuP h Q n := by
  unfold CuP at *
  simp only [e, e1, e2]
  exact q
theorem CuM.keep {r : Nat} {Q : Nat → Nat → Nat} {m n : Mm} (q : CuM r Q m) (e : ∀ c i, 32 ≤ c → c ≤ 34 → gI n c i = gI m c i) : CuM r Q n := by
  unfold CuM at *
  simp only [e 32 _ (by decide) (by decide), e 33 _ (by decide) (by decide), e 34 _ (by decide) (by decide)]
  exact q
theorem CfP.keep {C : Nat → Nat → Nat} {st : Nat} {m n : Mm} (hC : CfOK C) (q : CfP C st m) (e : ∀ a k, st ≤ a → a < st + 30 → ¬ (a = st + 12 ∨ a = st + 15 ∨ ((a = st + 10 ∨ a = st + 13) ∧ k = 4)) → gI n a k = gI m a k) : CfP C st n := by
  obtain ⟨h1, h2, h3, h4, h5, h6, h7, h8, h9⟩ := q
  have c1 := hC.1
  have c2 := hC.2.1
  refine ⟨?_, ?_, ?_, ?_, ?_, ?_, ?_, fun t ht => ⟨?_, fun i hi => ?_⟩, fun p hp => ⟨?_, ?_, ?_, ?_, ?_, ?_, ?_, fun i hi => ?_⟩⟩
  · rw [e _ _ (by omega) (by omega) (by omega)]; exact h1
  · rw [e _ _ (by omega) (by omega) (by omega)]; exact h2
  · rw [e _ _ (by omega) (by omega) (by omega)]; exact h3
  · rw [e _ _ (by omega) (by omega) (by omega)]; exact h4
  · rw [e _ _ (by omega) (by omega) (by omega)]; exact h5
  · rw [e _ _ (by omega) (by omega) (by omega)]; exact h6
  · rw [e _ _ (by omega) (by omega) (by omega)]; exact h7
  · rw [e _ _ (by omega) (by omega) (by omega)]; exact (h8 t ht).1
  · rw [e _ _ (by omega) (by omega) (by omega)]; exact (h8 t ht).2 i hi
  · rw [e _ _ (by omega) (by omega) (by omega)]; exact (h9 p hp).1
  · rw [e _ _ (by omega) (by omega) (by omega)]; exact (h9 p hp).2.1
  · rw [e _ _ (by omega) (by omega) (by omega)]; exact (h9 p hp).2.2.1
  · rw [e _ _ (by omega) (by omega) (by omega)]; exact (h9 p hp).2.2.2.1
  · rw [e _ _ (by omega) (by omega) (by omega)]; exact (h9 p hp).2.2.2.2.1
  · rw [e _ _ (by omega) (by omega) (by omega)]; exact (h9 p hp).2.2.2.2.2.1
  · rw [e _ _ (by omega) (by omega) (by omega)]; exact (h9 p hp).2.2.2.2.2.2.1
  · rw [e _ _ (by omega) (by omega) (by omega)]; exact (h9 p hp).2.2.2.2.2.2.2 i hi
theorem CfM.keep {C : Nat → Nat → Nat} {m n : Mm} (hC : CfOK C) (q : CfM C m) (e : ∀ a k, (a = 2 ∧ k < 7) ∨ (a = 5 ∧ k < 45) ∨ (a = 6 ∧ k < 5) ∨ (7 ≤ a ∧ a ≤ 12 ∧ k < 7) → gI n a k = gI m a k) : CfM C n := by
  obtain ⟨h1, h2, h3⟩ := q
  have c1 := hC.1
  have c2 := hC.2.1
  have c3 := hC.2.2.2.2.2.2.2.1
  refine ⟨fun i hi => ?_, fun t ht => ⟨?_, fun i hi => ?_⟩, fun p hp => ⟨?_, ?_, ?_, ?_, ?_, ?_⟩⟩
  · rw [e _ _ (by omega)]; exact h1 i hi
  · rw [e _ _ (by omega)]; exact (h2 t ht).1
  · have := (c3 t ht).2.1
    rw [e _ _ (by omega)]; exact (h2 t ht).2 i hi
  · rw [e _ _ (by omega)]; exact (h3 p hp).1
  · rw [e _ _ (by omega)]; exact (h3 p hp).2.1
  · rw [e _ _ (by omega)]; exact (h3 p hp).2.2.1
  · rw [e _ _ (by omega)]; exact (h3 p hp).2.2.2.1
  · rw [e _ _ (by omega)]; exact (h3 p hp).2.2.2.2.1
  · rw [e _ _ (by omega)]; exact (h3 p hp).2.2.2.2.2
theorem LwP.keep {c : List Int32} {b : Nat} {m n : Mm} (q : LwP c b m) (e0 : gI n b 3 = gI m b 3) (e : ∀ k, gI n (b + 1) k = gI m (b + 1) k) : LwP c b n := ⟨q.1, e0.trans q.2.1, fun i hi => (e i).trans (q.2.2 i hi)⟩
theorem LwM.keep {c : List Int32} {l a : Nat} {m n : Mm} (q : LwM c l a m) (e0 : gI n 13 l = gI m 13 l) (e1 : gI n 14 l = gI m 14 l) (e : ∀ k, k < 1000 → gI n 15 k = gI m 15 k) : LwM c l a n := ⟨q.1, e0.trans q.2.1, e1.trans q.2.2.1, fun i hi => (e _ (by have := q.1; omega)).trans (q.2.2.2 i hi)⟩
theorem RCf.keep {C : Nat → Nat → Nat} {st : Nat} {mP mM nP nM : Mm} (q : RCf C st mP mM) (e : ∀ a k, st ≤ a → a < st + 30 → ¬ (a = st + 12 ∨ a = st + 15 ∨ ((a = st + 10 ∨ a = st + 13) ∧ k = 4)) → gI nP a k = gI mP a k) (f : SaM mM nM) : RCf C st nP nM := by
  obtain ⟨hC, hP, hM, jP, jM, wP, wM, aj, aw, h1, h2, h3, h4, h5, h6⟩ := q
  refine ⟨hC, hP.keep hC e, hM.keep hC (fun a k h => f a k (by unfold VM; omega)), jP, jM, wP, wM, aj, aw, h1.keep (e _ _ (by omega) (by omega) (by omega)) (fun k => e _ _ (by omega) (by omega) (by omega)), h2.keep (f _ _ (by unfold VM; omega)) (f _ _ (by unfold VM; omega)) (fun k hk => f _ _ (by unfold VM; omega)), h3, h4.keep (e _ _ (by omega) (by omega) (by omega)) (fun k => e _ _ (by omega) (by omega) (by omega)), h5.keep (f _ _ (by unfold VM; omega)) (f _ _ (by unfold VM; omega)) (fun k hk => f _ _ (by unfold VM; omega)), h6⟩
theorem RTp.keep {mP mM nP nM : Mm} (q : RTp mP mM) (e0 : gI nP 1 1 = gI mP 1 1) (e1 : ∀ k, gI nP 2 k = gI mP 2 k) (f : SaM mM nM) : RTp nP nM := by
  obtain ⟨T, n, hT, h1, h2⟩ := q
  exact ⟨T, n, hT, ⟨e0.trans h1.1, fun i hi => (e1 i).trans (h1.2 i hi)⟩, ⟨(f 0 1 (by unfold VM; omega)).trans h2.1, fun i hi => (f 1 i (by unfold VM; omega)).trans (h2.2 i hi)⟩⟩
theorem RWk.keep {mP mM nP nM : Mm} (q : RWk mP mM) (e : ∀ a k, 68 ≤ a → a ≤ 71 → gI nP a k = gI mP a k) (f : SaM mM nM) : RWk nP nM := by
  obtain ⟨W, hW, h1, h2⟩ := q
  exact ⟨W, hW, h1.keep (fun k => e _ _ (by omega) (by omega)) (fun k => e _ _ (by omega) (by omega)) (fun k => e _ _ (by omega) (by omega)) (fun k => e _ _ (by omega) (by omega)), h2.keep hW (f _ _ (by unfold VM; omega)) (fun c i _ _ hi => f _ _ (by unfold VM; omega))⟩
theorem RCu.keep {mP mM nP nM : Mm} (q : RCu mP mM) (e : ∀ a k, 76 ≤ a → a ≤ 78 → gI nP a k = gI mP a k) (f : SaM mM nM) : RCu nP nM := by
  obtain ⟨Q, hQ, h1, h2⟩ := q
  exact ⟨Q, hQ, h1.keep (fun k => e _ _ (by omega) (by omega)) (fun k => e _ _ (by omega) (by omega)) (fun k => e _ _ (by omega) (by omega)), h2.keep (fun c i _ _ => f _ _ (by unfold VM; omega))⟩
theorem RUn.keep {mP mM nP nM : Mm} (q : RUn mP mM) (e : ∀ a k, a = 0 ∨ (91 ≤ a ∧ a ≤ 164) → gI nP a k = gI mP a k) (f : SaM mM nM) : RUn nP nM := by
  obtain ⟨x, d, hx, hd, h1, h2, h3, h4⟩ := q
  refine ⟨x, d, hx, hd, (e _ _ (by omega)).trans h1, (e _ _ (by omega)).trans h2, (f _ _ (by unfold VM; omega)).trans h3, fun i hi => ?_⟩
  obtain ⟨S, a1, a2, a3⟩ := h4 i hi
  exact ⟨S, a1, a2.keep (fun k => e _ _ (by omega)) (fun k => e _ _ (by omega)), a3.keep (fun j hj => f _ _ (by unfold VM; omega))⟩
theorem RMk.keep {mP mM nP nM : Mm} (q : RMk mP mM) (e : ∀ a k, (91 ≤ a ∧ a ≤ 164) → gI nP a k = gI mP a k) (f : SaM mM nM) : RMk nP nM := by
  intro i hi
  rcases q i hi with h | ⟨h1, h2, S, W, Q, a1, a2, a3, a4, a5, a6, a7, a8, a9⟩
  · exact Or.inl ⟨(e _ _ (by omega)).trans h.1, (f _ _ (by unfold VM; omega)).trans h.2⟩
  · refine Or.inr ⟨(e _ _ (by omega)).trans h1, (f _ _ (by unfold VM; omega)).trans h2, S, W, Q, a1, a2.keep (fun k => e _ _ (by omega)) (fun k => e _ _ (by omega)), a3.keep (fun j hj => f _ _ (by unfold VM; omega)), a4, ?_, a6.keep a4 (f _ _ (by unfold VM; omega)) (fun c j _ _ hj => f _ _ (by unfold VM; omega)), a7, ?_, a9.keep (fun c j _ _ => f _ _ (by unfold VM; omega))⟩
    · exact a5.keep (fun k => e _ _ (by omega)) (fun k => e _ _ (by omega)) (fun k => e _ _ (by omega)) (fun k => e _ _ (by omega))
    · exact a8.keep (fun k => e _ _ (by omega)) (fun k => e _ _ (by omega)) (fun k => e _ _ (by omega))
theorem RSt.keep {S : Nat → Int32} {mP mM nP nM : Mm} (q : RSt S mP mM) (e : ∀ a k, a = 64 ∨ a = 65 → gI nP a k = gI mP a k) (f : SaM mM nM) : RSt S nP nM :=
  ⟨q.1, q.2.1.keep (fun k => e _ _ (by omega)) (fun k => e _ _ (by omega)), q.2.2.keep (fun i hi => f _ _ (by unfold VM; omega))⟩
theorem RelC.keep {C : Nat → Nat → Nat} {st : Nat} {S : Nat → Int32} {mP mM nP nM : Mm} (q : RelC C st S mP mM) (e : SaP st mP nP) (f : SaM mM nM) : RelC C st S nP nM := by
  obtain ⟨h1, h2, h3, h4, h5, h6, h7, h8, h9, h10⟩ := q
  have hs := h1.1
  exact ⟨⟨h1.1, e.2.1.trans h1.2.1, e.2.2.trans h1.2.2⟩, h2.keep (fun a k a1 a2 a3 => e.1 a k (by unfold VP; omega)) f, h3.keep (fun a k h => e.1 a k (by unfold VP; omega)) f,
    h4.keep (e.1 _ _ (by unfold VP; omega)) (fun k => e.1 _ _ (by unfold VP; omega)) f, h5.keep (fun a k a1 a2 => e.1 _ _ (by unfold VP; omega)) f, h6.keep (fun a k a1 a2 => e.1 _ _ (by unfold VP; omega)) f,
    h7.keep (fun a k a1 => e.1 _ _ (by unfold VP; omega)) f, h8.keep (fun a k a1 => e.1 _ _ (by unfold VP; omega)) f,
    ⟨(e.1 _ _ (by unfold VP; omega)).trans h9.1, (e.1 _ _ (by unfold VP; omega)).trans h9.2.1, (e.1 _ _ (by unfold VP; omega)).trans h9.2.2.1, (e.1 _ _ (by unfold VP; omega)).trans h9.2.2.2⟩, (f _ _ (by unfold VM; omega)).trans h10⟩
theorem SaM.thr (m : Mm) (v : Int32) : SaM m (sI m 0 0 v) := fun a k h => gI_ne _ _ _ _ _ _ (by unfold VM at h; omega)
theorem Kp.saP {W : Nat → Nat → Prop} {st : Nat} {m n : Mm} (h : Kp W m n) (d : ∀ a k, VP st a k → ¬ W a k) : SaP st m n := ⟨fun a k v => h.1 a k (d a k v), h.2.2 _ _, h.2.2 _ _⟩
theorem Kp.saM {W : Nat → Nat → Prop} {m n : Mm} (h : Kp W m n) (d : ∀ a k, VM a k → ¬ W a k) : SaM m n := fun a k v => h.1 a k (d a k v)
