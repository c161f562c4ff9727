/-! a calculus for the plain functions: what they answer, and that they answer -/
def Sat {α : Type} (o : Option α) (Q : α → Prop) : Prop := ∃ a, o = some a ∧ Q a
theorem Sat_some {α : Type} (a : α) (Q : α → Prop) : Sat (some a) Q ↔ Q a := ⟨fun ⟨_, h, q⟩ => by cases h; exact q, fun h => ⟨a, rfl, h⟩⟩
theorem Sat_grd {α : Type} (b : Bool) (x : Option α) (Q : α → Prop) : Sat (grd b x) Q ↔ (b = true ∧ Sat x Q) := by
  unfold grd
  constructor
  · intro h
    split at h
    · exact ⟨by assumption, h⟩
    · obtain ⟨_, h, _⟩ := h
      cases h
  · intro h
    rw [if_pos h.1]
    exact h.2
theorem Sat_bnd {α β : Type} (x : α) (f : α → Option β) (Q : β → Prop) : Sat (bnd x f) Q ↔ Sat (f x) Q := Iff.rfl
theorem Sat_bdI {β : Type} (x : Option (Int32 × Mm)) (f : Int32 → Mm → Option β) (Q : β → Prop) : Sat (bdI x f) Q ↔ Sat x (fun q => Sat (f q.1 q.2) Q) := by
  cases x with
  | none => exact ⟨fun ⟨_, h, _⟩ => (by cases h), fun ⟨_, h, _⟩ => (by cases h)⟩
  | some q => rw [Sat_some]; exact Iff.rfl
theorem Sat_bdV {β : Type} (x : Option Mm) (f : Mm → Option β) (Q : β → Prop) : Sat (bdV x f) Q ↔ Sat x (fun q => Sat (f q) Q) := by
  cases x with
  | none => exact ⟨fun ⟨_, h, _⟩ => (by cases h), fun ⟨_, h, _⟩ => (by cases h)⟩
  | some q => rw [Sat_some]; exact Iff.rfl
theorem Sat_ite {α : Type} (c : Prop) [Decidable c] (x y : Option α) (Q : α → Prop) : Sat (if c then x else y) Q ↔ ((c → Sat x Q) ∧ (¬ c → Sat y Q)) := by
  by_cases h : c
  · rw [if_pos h]; exact ⟨fun a => ⟨fun _ => a, fun n => absurd h n⟩, fun a => a.1 h⟩
  · rw [if_neg h]; exact ⟨fun a => ⟨fun n => absurd n h, fun _ => a⟩, fun a => a.2 h⟩
theorem Sat.mono {α : Type} {o : Option α} {P Q : α → Prop} (h : Sat o P) (f : ∀ a, P a → Q a) : Sat o Q := by
  obtain ⟨a, e, p⟩ := h
  exact ⟨a, e, f a p⟩
theorem Sat.eq {α : Type} {o : Option α} {a : α} {Q : α → Prop} (h : o = some a) (q : Q a) : Sat o Q := ⟨a, h, q⟩
/-- if it answers, so -/
def Par {α : Type} (o : Option α) (Q : α → Prop) : Prop := ∀ a, o = some a → Q a
theorem Sat.par {α : Type} {o : Option α} {P Q : α → Prop} (h : Sat o P) (g : Par o Q) : Sat o (fun a => P a ∧ Q a) := by
  obtain ⟨a, e, p⟩ := h
  exact ⟨a, e, p, g a e⟩
theorem Par_some {α : Type} {a : α} {Q : α → Prop} (h : Q a) : Par (some a) Q := fun _ e => by cases e; exact h
theorem Par_none {α : Type} {Q : α → Prop} : Par (none : Option α) Q := fun _ e => by cases e
theorem Par_grd {α : Type} {b : Bool} {x : Option α} {Q : α → Prop} (h : b = true → Par x Q) : Par (grd b x) Q := fun a e => h (grd_some e).1 a (grd_some e).2
theorem Par_bnd {α β : Type} {x : α} {f : α → Option β} {Q : β → Prop} (h : Par (f x) Q) : Par (bnd x f) Q := h
theorem Par_bdI {β : Type} {x : Option (Int32 × Mm)} {f : Int32 → Mm → Option β} {P : Int32 × Mm → Prop} {Q : β → Prop} (hx : Par x P) (h : ∀ r m, P (r, m) → Par (f r m) Q) : Par (bdI x f) Q := by
  intro a e
  obtain ⟨r, m, e1, e2⟩ := bdI_some e
  exact h r m (hx _ e1) a e2
theorem Par_bdV {β : Type} {x : Option Mm} {f : Mm → Option β} {P : Mm → Prop} {Q : β → Prop} (hx : Par x P) (h : ∀ m, P m → Par (f m) Q) : Par (bdV x f) Q := by
  intro a e
  obtain ⟨m, e1, e2⟩ := bdV_some e
  exact h m (hx _ e1) a e2
theorem Par_ite {α : Type} {c : Prop} [Decidable c] {x y : Option α} {Q : α → Prop} (h : c → Par x Q) (g : ¬ c → Par y Q) : Par (if c then x else y) Q := by
  by_cases q : c
  · rw [if_pos q]; exact h q
  · rw [if_neg q]; exact g q
theorem Par.mono {α : Type} {o : Option α} {P Q : α → Prop} (h : Par o P) (f : ∀ a, P a → Q a) : Par o Q := fun a e => f a (h a e)
/-- both answer, so -/
def S2 {α β : Type} (x : Option α) (y : Option β) (Q : α → β → Prop) : Prop := ∃ a b, x = some a ∧ y = some b ∧ Q a b
theorem S2_some {α β : Type} (a : α) (b : β) (Q : α → β → Prop) : S2 (some a) (some b) Q ↔ Q a b := ⟨fun ⟨_, _, h, g, q⟩ => by cases h; cases g; exact q, fun h => ⟨a, b, rfl, rfl, h⟩⟩
theorem S2.of {α β : Type} {x : Option α} {y : Option β} {Q : α → β → Prop} (h : Sat x (fun a => Sat y (Q a))) : S2 x y Q := by
  obtain ⟨a, e, b, g, q⟩ := h
  exact ⟨a, b, e, g, q⟩
theorem S2.sat {α β : Type} {x : Option α} {y : Option β} {Q : α → β → Prop} (h : S2 x y Q) : Sat x (fun a => Sat y (Q a)) := by
  obtain ⟨a, b, e, g, q⟩ := h
  exact ⟨a, e, b, g, q⟩
theorem S2_iff {α β : Type} {x : Option α} {y : Option β} {Q : α → β → Prop} : S2 x y Q ↔ Sat x (fun a => Sat y (Q a)) := ⟨S2.sat, S2.of⟩
/-- a step of the one, then of the other -/
theorem S2.swap {α β : Type} {x : Option α} {y : Option β} {Q : α → β → Prop} (h : S2 y x (fun b a => Q a b)) : S2 x y Q := by
  obtain ⟨a, b, e, g, q⟩ := h
  exact ⟨b, a, g, e, q⟩
theorem S2_grd {α β : Type} (b : Bool) (x : Option α) (y : Option β) (Q : α → β → Prop) : S2 (grd b x) y Q ↔ (b = true ∧ S2 x y Q) := by rw [S2_iff, Sat_grd, ← S2_iff]
theorem S2_bnd {γ α β : Type} (v : γ) (f : γ → Option α) (y : Option β) (Q : α → β → Prop) : S2 (bnd v f) y Q ↔ S2 (f v) y Q := Iff.rfl
theorem S2_bdI {α β : Type} (x : Option (Int32 × Mm)) (f : Int32 → Mm → Option α) (y : Option β) (Q : α → β → Prop) : S2 (bdI x f) y Q ↔ Sat x (fun q => S2 (f q.1 q.2) y Q) := by simp only [S2_iff, Sat_bdI]
theorem S2_bdV {α β : Type} (x : Option Mm) (f : Mm → Option α) (y : Option β) (Q : α → β → Prop) : S2 (bdV x f) y Q ↔ Sat x (fun q => S2 (f q) y Q) := by simp only [S2_iff, Sat_bdV]
theorem S2_ite {α β : Type} (c : Prop) [Decidable c] (u v : Option α) (y : Option β) (Q : α → β → Prop) : S2 (if c then u else v) y Q ↔ ((c → S2 u y Q) ∧ (¬ c → S2 v y Q)) := by rw [S2_iff, Sat_ite, ← S2_iff, ← S2_iff]
theorem S2R_iff {α β : Type} {x : Option α} {y : Option β} {Q : α → β → Prop} : S2 x y Q ↔ Sat y (fun b => Sat x (fun a => Q a b)) := ⟨fun ⟨a, b, e, g, q⟩ => ⟨b, g, a, e, q⟩, fun ⟨b, g, a, e, q⟩ => ⟨a, b, e, g, q⟩⟩
theorem S2R_grd {α β : Type} (b : Bool) (x : Option α) (y : Option β) (Q : α → β → Prop) : S2 x (grd b y) Q ↔ (b = true ∧ S2 x y Q) := by rw [S2R_iff, Sat_grd, ← S2R_iff]
theorem S2R_bnd {γ α β : Type} (v : γ) (x : Option α) (f : γ → Option β) (Q : α → β → Prop) : S2 x (bnd v f) Q ↔ S2 x (f v) Q := Iff.rfl
theorem S2R_bdI {α β : Type} (x : Option α) (y : Option (Int32 × Mm)) (f : Int32 → Mm → Option β) (Q : α → β → Prop) : S2 x (bdI y f) Q ↔ Sat y (fun q => S2 x (f q.1 q.2) Q) := by simp only [S2R_iff, Sat_bdI]
theorem S2R_bdV {α β : Type} (x : Option α) (y : Option Mm) (f : Mm → Option β) (Q : α → β → Prop) : S2 x (bdV y f) Q ↔ Sat y (fun q => S2 x (f q) Q) := by simp only [S2R_iff, Sat_bdV]
theorem S2R_ite {α β : Type} (c : Prop) [Decidable c] (x : Option α) (u v : Option β) (Q : α → β → Prop) : S2 x (if c then u else v) Q ↔ ((c → S2 x u Q) ∧ (¬ c → S2 x v Q)) := by rw [S2R_iff, Sat_ite, ← S2R_iff, ← S2R_iff]
/-! loops: with a number that falls; with none, where it need not end; two side by side -/
theorem lopR1 {A1 β : Type} {z : A1 → Option β} {b : (A1 → Option β) → A1 → Option β} {Q : β → Prop} (I : Nat → A1 → Prop) (hs : ∀ (n : Nat) (x1 : A1) (k : A1 → Option β), I n x1 → (∀ (n2 : Nat) (y1 : A1), n2 < n → I n2 y1 → Sat (k y1) Q) → Sat (b k x1) Q) : ∀ (N n : Nat), n < N → ∀ (x1 : A1), I n x1 → Sat (lop z b N x1) Q
  | 0, _, h, _, _ => absurd h (Nat.not_lt_zero _)
  | N + 1, n, h, x1, hI => hs n x1 _ hI (fun n2 y1 h2 hI2 => lopR1 I hs N n2 (by omega) y1 hI2)
theorem lopP1 {A1 β : Type} {b : (A1 → Option β) → A1 → Option β} {Q : β → Prop} (I : A1 → Prop) (hs : ∀ (x1 : A1) (k : A1 → Option β), I x1 → (∀ (y1 : A1), I y1 → Par (k y1) Q) → Par (b k x1) Q) : ∀ (N : Nat) (x1 : A1), I x1 → Par (lop (fun _ => none) b N x1) Q
  | 0, _, _ => Par_none
  | N + 1, x1, hI => hs x1 _ hI (fun y1 hI2 => lopP1 I hs N y1 hI2)
theorem lopR2 {A1 A2 β : Type} {z : A1 → A2 → Option β} {b : (A1 → A2 → Option β) → A1 → A2 → Option β} {Q : β → Prop} (I : Nat → A1 → A2 → Prop) (hs : ∀ (n : Nat) (x1 : A1) (x2 : A2) (k : A1 → A2 → Option β), I n x1 x2 → (∀ (n2 : Nat) (y1 : A1) (y2 : A2), n2 < n → I n2 y1 y2 → Sat (k y1 y2) Q) → Sat (b k x1 x2) Q) : ∀ (N n : Nat), n < N → ∀ (x1 : A1) (x2 : A2), I n x1 x2 → Sat (lop z b N x1 x2) Q
  | 0, _, h, _, _, _ => absurd h (Nat.not_lt_zero _)
  | N + 1, n, h, x1, x2, hI => hs n x1 x2 _ hI (fun n2 y1 y2 h2 hI2 => lopR2 I hs N n2 (by omega) y1 y2 hI2)
theorem lopP2 {A1 A2 β : Type} {b : (A1 → A2 → Option β) → A1 → A2 → Option β} {Q : β → Prop} (I : A1 → A2 → Prop) (hs : ∀ (x1 : A1) (x2 : A2) (k : A1 → A2 → Option β), I x1 x2 → (∀ (y1 : A1) (y2 : A2), I y1 y2 → Par (k y1 y2) Q) → Par (b k x1 x2) Q) : ∀ (N : Nat) (x1 : A1) (x2 : A2), I x1 x2 → Par (lop (fun _ _ => none) b N x1 x2) Q
  | 0, _, _, _ => Par_none
  | N + 1, x1, x2, hI => hs x1 x2 _ hI (fun y1 y2 hI2 => lopP2 I hs N y1 y2 hI2)
theorem lopR3 {A1 A2 A3 β : Type} {z : A1 → A2 → A3 → Option β} {b : (A1 → A2 → A3 → Option β) → A1 → A2 → A3 → Option β} {Q : β → Prop} (I : Nat → A1 → A2 → A3 → Prop) (hs : ∀ (n : Nat) (x1 : A1) (x2 : A2) (x3 : A3) (k : A1 → A2 → A3 → Option β), I n x1 x2 x3 → (∀ (n2 : Nat) (y1 : A1) (y2 : A2) (y3 : A3), n2 < n → I n2 y1 y2 y3 → Sat (k y1 y2 y3) Q) → Sat (b k x1 x2 x3) Q) : ∀ (N n : Nat), n < N → ∀ (x1 : A1) (x2 : A2) (x3 : A3), I n x1 x2 x3 → Sat (lop z b N x1 x2 x3) Q
  | 0, _, h, _, _, _, _ => absurd h (Nat.not_lt_zero _)
  | N + 1, n, h, x1, x2, x3, hI => hs n x1 x2 x3 _ hI (fun n2 y1 y2 y3 h2 hI2 => lopR3 I hs N n2 (by omega) y1 y2 y3 hI2)
theorem lopP3 {A1 A2 A3 β : Type} {b : (A1 → A2 → A3 → Option β) → A1 → A2 → A3 → Option β} {Q : β → Prop} (I : A1 → A2 → A3 → Prop) (hs : ∀ (x1 : A1) (x2 : A2) (x3 : A3) (k : A1 → A2 → A3 → Option β), I x1 x2 x3 → (∀ (y1 : A1) (y2 : A2) (y3 : A3), I y1 y2 y3 → Par (k y1 y2 y3) Q) → Par (b k x1 x2 x3) Q) : ∀ (N : Nat) (x1 : A1) (x2 : A2) (x3 : A3), I x1 x2 x3 → Par (lop (fun _ _ _ => none) b N x1 x2 x3) Q
  | 0, _, _, _, _ => Par_none
  | N + 1, x1, x2, x3, hI => hs x1 x2 x3 _ hI (fun y1 y2 y3 hI2 => lopP3 I hs N y1 y2 y3 hI2)
theorem lopR4 {A1 A2 A3 A4 β : Type} {z : A1 → A2 → A3 → A4 → Option β} {b : (A1 → A2 → A3 → A4 → Option β) → A1 → A2 → A3 → A4 → Option β} {Q : β → Prop} (I : Nat → A1 → A2 → A3 → A4 → Prop) (hs : ∀ (n : Nat) (x1 : A1) (x2 : A2) (x3 : A3) (x4 : A4) (k : A1 → A2 → A3 → A4 → Option β), I n x1 x2 x3 x4 → (∀ (n2 : Nat) (y1 : A1) (y2 : A2) (y3 : A3) (y4 : A4), n2 < n → I n2 y1 y2 y3 y4 → Sat (k y1 y2 y3 y4) Q) → Sat (b k x1 x2 x3 x4) Q) : ∀ (N n : Nat), n < N → ∀ (x1 : A1) (x2 : A2) (x3 : A3) (x4 : A4), I n x1 x2 x3 x4 → Sat (lop z b N x1 x2 x3 x4) Q
  | 0, _, h, _, _, _, _, _ => absurd h (Nat.not_lt_zero _)
  | N + 1, n, h, x1, x2, x3, x4, hI => hs n x1 x2 x3 x4 _ hI (fun n2 y1 y2 y3 y4 h2 hI2 => lopR4 I hs N n2 (by omega) y1 y2 y3 y4 hI2)
theorem lopP4 {A1 A2 A3 A4 β : Type} {b : (A1 → A2 → A3 → A4 → Option β) → A1 → A2 → A3 → A4 → Option β} {Q : β → Prop} (I : A1 → A2 → A3 → A4 → Prop) (hs : ∀ (x1 : A1) (x2 : A2) (x3 : A3) (x4 : A4) (k : A1 → A2 → A3 → A4 → Option β), I x1 x2 x3 x4 → (∀ (y1 : A1) (y2 : A2) (y3 : A3) (y4 : A4), I y1 y2 y3 y4 → Par (k y1 y2 y3 y4) Q) → Par (b k x1 x2 x3 x4) Q) : ∀ (N : Nat) (x1 : A1) (x2 : A2) (x3 : A3) (x4 : A4), I x1 x2 x3 x4 → Par (lop (fun _ _ _ _ => none) b N x1 x2 x3 x4) Q
  | 0, _, _, _, _, _ => Par_none
  | N + 1, x1, x2, x3, x4, hI => hs x1 x2 x3 x4 _ hI (fun y1 y2 y3 y4 hI2 => lopP4 I hs N y1 y2 y3 y4 hI2)
theorem lopR5 {A1 A2 A3 A4 A5 β : Type} {z : A1 → A2 → A3 → A4 → A5 → Option β} {b : (A1 → A2 → A3 → A4 → A5 → Option β) → A1 → A2 → A3 → A4 → A5 → Option β} {Q : β → Prop} (I : Nat → A1 → A2 → A3 → A4 → A5 → Prop) (hs : ∀ (n : Nat) (x1 : A1) (x2 : A2) (x3 : A3) (x4 : A4) (x5 : A5) (k : A1 → A2 → A3 → A4 → A5 → Option β), I n x1 x2 x3 x4 x5 → (∀ (n2 : Nat) (y1 : A1) (y2 : A2) (y3 : A3) (y4 : A4) (y5 : A5), n2 < n → I n2 y1 y2 y3 y4 y5 → Sat (k y1 y2 y3 y4 y5) Q) → Sat (b k x1 x2 x3 x4 x5) Q) : ∀ (N n : Nat), n < N → ∀ (x1 : A1) (x2 : A2) (x3 : A3) (x4 : A4) (x5 : A5), I n x1 x2 x3 x4 x5 → Sat (lop z b N x1 x2 x3 x4 x5) Q
  | 0, _, h, _, _, _, _, _, _ => absurd h (Nat.not_lt_zero _)
  | N + 1, n, h, x1, x2, x3, x4, x5, hI => hs n x1 x2 x3 x4 x5 _ hI (fun n2 y1 y2 y3 y4 y5 h2 hI2 => lopR5 I hs N n2 (by omega) y1 y2 y3 y4 y5 hI2)
theorem lopP5 {A1 A2 A3 A4 A5 β : Type} {b : (A1 → A2 → A3 → A4 → A5 → Option β) → A1 → A2 → A3 → A4 → A5 → Option β} {Q : β → Prop} (I : A1 → A2 → A3 → A4 → A5 → Prop) (hs : ∀ (x1 : A1) (x2 : A2) (x3 : A3) (x4 : A4) (x5 : A5) (k : A1 → A2 → A3 → A4 → A5 → Option β), I x1 x2 x3 x4 x5 → (∀ (y1 : A1) (y2 : A2) (y3 : A3) (y4 : A4) (y5 : A5), I y1 y2 y3 y4 y5 → Par (k y1 y2 y3 y4 y5) Q) → Par (b k x1 x2 x3 x4 x5) Q) : ∀ (N : Nat) (x1 : A1) (x2 : A2) (x3 : A3) (x4 : A4) (x5 : A5), I x1 x2 x3 x4 x5 → Par (lop (fun _ _ _ _ _ => none) b N x1 x2 x3 x4 x5) Q
  | 0, _, _, _, _, _, _ => Par_none
  | N + 1, x1, x2, x3, x4, x5, hI => hs x1 x2 x3 x4 x5 _ hI (fun y1 y2 y3 y4 y5 hI2 => lopP5 I hs N y1 y2 y3 y4 y5 hI2)
theorem lopR6 {A1 A2 A3 A4 A5 A6 β : Type} {z : A1 → A2 → A3 → A4 → A5 → A6 → Option β} {b : (A1 → A2 → A3 → A4 → A5 → A6 → Option β) → A1 → A2 → A3 → A4 → A5 → A6 → Option β} {Q : β → Prop} (I : Nat → A1 → A2 → A3 → A4 → A5 → A6 → Prop) (hs : ∀ (n : Nat) (x1 : A1) (x2 : A2) (x3 : A3) (x4 : A4) (x5 : A5) (x6 : A6) (k : A1 → A2 → A3 → A4 → A5 → A6 → Option β), I n x1 x2 x3 x4 x5 x6 → (∀ (n2 : Nat) (y1 : A1) (y2 : A2) (y3 : A3) (y4 : A4) (y5 : A5) (y6 : A6), n2 < n → I n2 y1 y2 y3 y4 y5 y6 → Sat (k y1 y2 y3 y4 y5 y6) Q) → Sat (b k x1 x2 x3 x4 x5 x6) Q) : ∀ (N n : Nat), n < N → ∀ (x1 : A1) (x2 : A2) (x3 : A3) (x4 : A4) (x5 : A5) (x6 : A6), I n x1 x2 x3 x4 x5 x6 → Sat (lop z b N x1 x2 x3 x4 x5 x6) Q
  | 0, _, h, _, _, _, _, _, _, _ => absurd h (Nat.not_lt_zero _)
  | N + 1, n, h, x1, x2, x3, x4, x5, x6, hI => hs n x1 x2 x3 x4 x5 x6 _ hI (fun n2 y1 y2 y3 y4 y5 y6 h2 hI2 => lopR6 I hs N n2 (by omega) y1 y2 y3 y4 y5 y6 hI2)
theorem lopP6 {A1 A2 A3 A4 A5 A6 β : Type} {b : (A1 → A2 → A3 → A4 → A5 → A6 → Option β) → A1 → A2 → A3 → A4 → A5 → A6 → Option β} {Q : β → Prop} (I : A1 → A2 → A3 → A4 → A5 → A6 → Prop) (hs : ∀ (x1 : A1) (x2 : A2) (x3 : A3) (x4 : A4) (x5 : A5) (x6 : A6) (k : A1 → A2 → A3 → A4 → A5 → A6 → Option β), I x1 x2 x3 x4 x5 x6 → (∀ (y1 : A1) (y2 : A2) (y3 : A3) (y4 : A4) (y5 : A5) (y6 : A6), I y1 y2 y3 y4 y5 y6 → Par (k y1 y2 y3 y4 y5 y6) Q) → Par (b k x1 x2 x3 x4 x5 x6) Q) : ∀ (N : Nat) (x1 : A1) (x2 : A2) (x3 : A3) (x4 : A4) (x5 : A5) (x6 : A6), I x1 x2 x3 x4 x5 x6 → Par (lop (fun _ _ _ _ _ _ => none) b N x1 x2 x3 x4 x5 x6) Q
  | 0, _, _, _, _, _, _, _ => Par_none
  | N + 1, x1, x2, x3, x4, x5, x6, hI => hs x1 x2 x3 x4 x5 x6 _ hI (fun y1 y2 y3 y4 y5 y6 hI2 => lopP6 I hs N y1 y2 y3 y4 y5 y6 hI2)
theorem lopR7 {A1 A2 A3 A4 A5 A6 A7 β : Type} {z : A1 → A2 → A3 → A4 → A5 → A6 → A7 → Option β} {b : (A1 → A2 → A3 → A4 → A5 → A6 → A7 → Option β) → A1 → A2 → A3 → A4 → A5 → A6 → A7 → Option β} {Q : β → Prop} (I : Nat → A1 → A2 → A3 → A4 → A5 → A6 → A7 → Prop) (hs : ∀ (n : Nat) (x1 : A1) (x2 : A2) (x3 : A3) (x4 : A4) (x5 : A5) (x6 : A6) (x7 : A7) (k : A1 → A2 → A3 → A4 → A5 → A6 → A7 → Option β), I n x1 x2 x3 x4 x5 x6 x7 → (∀ (n2 : Nat) (y1 : A1) (y2 : A2) (y3 : A3) (y4 : A4) (y5 : A5) (y6 : A6) (y7 : A7), n2 < n → I n2 y1 y2 y3 y4 y5 y6 y7 → Sat (k y1 y2 y3 y4 y5 y6 y7) Q) → Sat (b k x1 x2 x3 x4 x5 x6 x7) Q) : ∀ (N n : Nat), n < N → ∀ (x1 : A1) (x2 : A2) (x3 : A3) (x4 : A4) (x5 : A5) (x6 : A6) (x7 : A7), I n x1 x2 x3 x4 x5 x6 x7 → Sat (lop z b N x1 x2 x3 x4 x5 x6 x7) Q
  | 0, _, h, _, _, _, _, _, _, _, _ => absurd h (Nat.not_lt_zero _)
  | N + 1, n, h, x1, x2, x3, x4, x5, x6, x7, hI => hs n x1 x2 x3 x4 x5 x6 x7 _ hI (fun n2 y1 y2 y3 y4 y5 y6 y7 h2 hI2 => lopR7 I hs N n2 (by omega) y1 y2 y3 y4 y5 y6 y7 hI2)
theorem lopP7 {A1 A2 A3 A4 A5 A6 A7 β : Type} {b : (A1 → A2 → A3 → A4 → A5 → A6 → A7 → Option β) → A1 → A2 → A3 → A4 → A5 → A6 → A7 → Option β} {Q : β → Prop} (I : A1 → A2 → A3 → A4 → A5 → A6 → A7 → Prop) (hs : ∀ (x1 : A1) (x2 : A2) (x3 : A3) (x4 : A4) (x5 : A5) (x6 : A6) (x7 : A7) (k : A1 → A2 → A3 → A4 → A5 → A6 → A7 → Option β), I x1 x2 x3 x4 x5 x6 x7 → (∀ (y1 : A1) (y2 : A2) (y3 : A3) (y4 : A4) (y5 : A5) (y6 : A6) (y7 : A7), I y1 y2 y3 y4 y5 y6 y7 → Par (k y1 y2 y3 y4 y5 y6 y7) Q) → Par (b k x1 x2 x3 x4 x5 x6 x7) Q) : ∀ (N : Nat) (x1 : A1) (x2 : A2) (x3 : A3) (x4 : A4) (x5 : A5) (x6 : A6) (x7 : A7), I x1 x2 x3 x4 x5 x6 x7 → Par (lop (fun _ _ _ _ _ _ _ => none) b N x1 x2 x3 x4 x5 x6 x7) Q
  | 0, _, _, _, _, _, _, _, _ => Par_none
  | N + 1, x1, x2, x3, x4, x5, x6, x7, hI => hs x1 x2 x3 x4 x5 x6 x7 _ hI (fun y1 y2 y3 y4 y5 y6 y7 hI2 => lopP7 I hs N y1 y2 y3 y4 y5 y6 y7 hI2)
theorem lopS11 {A1 B1 α β : Type} {z : A1 → Option α} {b : (A1 → Option α) → A1 → Option α} {w : B1 → Option β} {c : (B1 → Option β) → B1 → Option β} {Q : α → β → Prop} (I : Nat → A1 → B1 → Prop) (hs : ∀ (n : Nat) (x1 : A1) (u1 : B1) (k : A1 → Option α) (l : B1 → Option β), I n x1 u1 → (∀ (n2 : Nat) (y1 : A1) (v1 : B1), n2 < n → I n2 y1 v1 → S2 (k y1) (l v1) Q) → S2 (b k x1) (c l u1) Q) : ∀ (N n : Nat), n < N → ∀ (x1 : A1) (u1 : B1), I n x1 u1 → S2 (lop z b N x1) (lop w c N u1) Q
  | 0, _, h, _, _, _ => absurd h (Nat.not_lt_zero _)
  | N + 1, n, h, x1, u1, hI => hs n x1 u1 _ _ hI (fun n2 y1 v1 h2 hI2 => lopS11 I hs N n2 (by omega) y1 v1 hI2)
theorem lopS12 {A1 B1 B2 α β : Type} {z : A1 → Option α} {b : (A1 → Option α) → A1 → Option α} {w : B1 → B2 → Option β} {c : (B1 → B2 → Option β) → B1 → B2 → Option β} {Q : α → β → Prop} (I : Nat → A1 → B1 → B2 → Prop) (hs : ∀ (n : Nat) (x1 : A1) (u1 : B1) (u2 : B2) (k : A1 → Option α) (l : B1 → B2 → Option β), I n x1 u1 u2 → (∀ (n2 : Nat) (y1 : A1) (v1 : B1) (v2 : B2), n2 < n → I n2 y1 v1 v2 → S2 (k y1) (l v1 v2) Q) → S2 (b k x1) (c l u1 u2) Q) : ∀ (N n : Nat), n < N → ∀ (x1 : A1) (u1 : B1) (u2 : B2), I n x1 u1 u2 → S2 (lop z b N x1) (lop w c N u1 u2) Q
  | 0, _, h, _, _, _, _ => absurd h (Nat.not_lt_zero _)
  | N + 1, n, h, x1, u1, u2, hI => hs n x1 u1 u2 _ _ hI (fun n2 y1 v1 v2 h2 hI2 => lopS12 I hs N n2 (by omega) y1 v1 v2 hI2)
theorem lopS13 {A1 B1 B2 B3 α β : Type} {z : A1 → Option α} {b : (A1 → Option α) → A1 → Option α} {w : B1 → B2 → B3 → Option β} {c : (B1 → B2 → B3 → Option β) → B1 → B2 → B3 → Option β} {Q : α → β → Prop} (I : Nat → A1 → B1 → B2 → B3 → Prop) (hs : ∀ (n : Nat) (x1 : A1) (u1 : B1) (u2 : B2) (u3 : B3) (k : A1 → Option α) (l : B1 → B2 → B3 → Option β), I n x1 u1 u2 u3 → (∀ (n2 : Nat) (y1 : A1) (v1 : B1) (v2 : B2) (v3 : B3), n2 < n → I n2 y1 v1 v2 v3 → S2 (k y1) (l v1 v2 v3) Q) → S2 (b k x1) (c l u1 u2 u3) Q) : ∀ (N n : Nat), n < N → ∀ (x1 : A1) (u1 : B1) (u2 : B2) (u3 : B3), I n x1 u1 u2 u3 → S2 (lop z b N x1) (lop w c N u1 u2 u3) Q
  | 0, _, h, _, _, _, _, _ => absurd h (Nat.not_lt_zero _)
  | N + 1, n, h, x1, u1, u2, u3, hI => hs n x1 u1 u2 u3 _ _ hI (fun n2 y1 v1 v2 v3 h2 hI2 => lopS13 I hs N n2 (by omega) y1 v1 v2 v3 hI2)
theorem lopS14 {A1 B1 B2 B3 B4 α β : Type} {z : A1 → Option α} {b : (A1 → Option α) → A1 → Option α} {w : B1 → B2 → B3 → B4 → Option β} {c : (B1 → B2 → B3 → B4 → Option β) → B1 → B2 → B3 → B4 → Option β} {Q : α → β → Prop} (I : Nat → A1 → B1 → B2 → B3 → B4 → Prop) (hs : ∀ (n : Nat) (x1 : A1) (u1 : B1) (u2 : B2) (u3 : B3) (u4 : B4) (k : A1 → Option α) (l : B1 → B2 → B3 → B4 → Option β), I n x1 u1 u2 u3 u4 → (∀ (n2 : Nat) (y1 : A1) (v1 : B1) (v2 : B2) (v3 : B3) (v4 : B4), n2 < n → I n2 y1 v1 v2 v3 v4 → S2 (k y1) (l v1 v2 v3 v4) Q) → S2 (b k x1) (c l u1 u2 u3 u4) Q) : ∀ (N n : Nat), n < N → ∀ (x1 : A1) (u1 : B1) (u2 : B2) (u3 : B3) (u4 : B4), I n x1 u1 u2 u3 u4 → S2 (lop z b N x1) (lop w c N u1 u2 u3 u4) Q
  | 0, _, h, _, _, _, _, _, _ => absurd h (Nat.not_lt_zero _)
  | N + 1, n, h, x1, u1, u2, u3, u4, hI => hs n x1 u1 u2 u3 u4 _ _ hI (fun n2 y1 v1 v2 v3 v4 h2 hI2 => lopS14 I hs N n2 (by omega) y1 v1 v2 v3 v4 hI2)
theorem lopS15 {A1 B1 B2 B3 B4 B5 α β : Type} {z : A1 → Option α} {b : (A1 → Option α) → A1 → Option α} {w : B1 → B2 → B3 → B4 → B5 → Option β} {c : (B1 → B2 → B3 → B4 → B5 → Option β) → B1 → B2 → B3 → B4 → B5 → Option β} {Q : α → β → Prop} (I : Nat → A1 → B1 → B2 → B3 → B4 → B5 → Prop) (hs : ∀ (n : Nat) (x1 : A1) (u1 : B1) (u2 : B2) (u3 : B3) (u4 : B4) (u5 : B5) (k : A1 → Option α) (l : B1 → B2 → B3 → B4 → B5 → Option β), I n x1 u1 u2 u3 u4 u5 → (∀ (n2 : Nat) (y1 : A1) (v1 : B1) (v2 : B2) (v3 : B3) (v4 : B4) (v5 : B5), n2 < n → I n2 y1 v1 v2 v3 v4 v5 → S2 (k y1) (l v1 v2 v3 v4 v5) Q) → S2 (b k x1) (c l u1 u2 u3 u4 u5) Q) : ∀ (N n : Nat), n < N → ∀ (x1 : A1) (u1 : B1) (u2 : B2) (u3 : B3) (u4 : B4) (u5 : B5), I n x1 u1 u2 u3 u4 u5 → S2 (lop z b N x1) (lop w c N u1 u2 u3 u4 u5) Q
  | 0, _, h, _, _, _, _, _, _, _ => absurd h (Nat.not_lt_zero _)
  | N + 1, n, h, x1, u1, u2, u3, u4, u5, hI => hs n x1 u1 u2 u3 u4 u5 _ _ hI (fun n2 y1 v1 v2 v3 v4 v5 h2 hI2 => lopS15 I hs N n2 (by omega) y1 v1 v2 v3 v4 v5 hI2)
theorem lopS21 {A1 A2 B1 α β : Type} {z : A1 → A2 → Option α} {b : (A1 → A2 → Option α) → A1 → A2 → Option α} {w : B1 → Option β} {c : (B1 → Option β) → B1 → Option β} {Q : α → β → Prop} (I : Nat → A1 → A2 → B1 → Prop) (hs : ∀ (n : Nat) (x1 : A1) (x2 : A2) (u1 : B1) (k : A1 → A2 → Option α) (l : B1 → Option β), I n x1 x2 u1 → (∀ (n2 : Nat) (y1 : A1) (y2 : A2) (v1 : B1), n2 < n → I n2 y1 y2 v1 → S2 (k y1 y2) (l v1) Q) → S2 (b k x1 x2) (c l u1) Q) : ∀ (N n : Nat), n < N → ∀ (x1 : A1) (x2 : A2) (u1 : B1), I n x1 x2 u1 → S2 (lop z b N x1 x2) (lop w c N u1) Q
  | 0, _, h, _, _, _, _ => absurd h (Nat.not_lt_zero _)
  | N + 1, n, h, x1, x2, u1, hI => hs n x1 x2 u1 _ _ hI (fun n2 y1 y2 v1 h2 hI2 => lopS21 I hs N n2 (by omega) y1 y2 v1 hI2)
theorem lopS22 {A1 A2 B1 B2 α β : Type} {z : A1 → A2 → Option α} {b : (A1 → A2 → Option α) → A1 → A2 → Option α} {w : B1 → B2 → Option β} {c : (B1 → B2 → Option β) → B1 → B2 → Option β} {Q : α → β → Prop} (I : Nat → A1 → A2 → B1 → B2 → Prop) (hs : ∀ (n : Nat) (x1 : A1) (x2 : A2) (u1 : B1) (u2 : B2) (k : A1 → A2 → Option α) (l : B1 → B2 → Option β), I n x1 x2 u1 u2 → (∀ (n2 : Nat) (y1 : A1) (y2 : A2) (v1 : B1) (v2 : B2), n2 < n → I n2 y1 y2 v1 v2 → S2 (k y1 y2) (l v1 v2) Q) → S2 (b k x1 x2) (c l u1 u2) Q) : ∀ (N n : Nat), n < N → ∀ (x1 : A1) (x2 : A2) (u1 : B1) (u2 : B2), I n x1 x2 u1 u2 → S2 (lop z b N x1 x2) (lop w c N u1 u2) Q
  | 0, _, h, _, _, _, _, _ => absurd h (Nat.not_lt_zero _)
  | N + 1, n, h, x1, x2, u1, u2, hI => hs n x1 x2 u1 u2 _ _ hI (fun n2 y1 y2 v1 v2 h2 hI2 => lopS22 I hs N n2 (by omega) y1 y2 v1 v2 hI2)
theorem lopS23 {A1 A2 B1 B2 B3 α β : Type} {z : A1 → A2 → Option α} {b : (A1 → A2 → Option α) → A1 → A2 → Option α} {w : B1 → B2 → B3 → Option β} {c : (B1 → B2 → B3 → Option β) → B1 → B2 → B3 → Option β} {Q : α → β → Prop} (I : Nat → A1 → A2 → B1 → B2 → B3 → Prop) (hs : ∀ (n : Nat) (x1 : A1) (x2 : A2) (u1 : B1) (u2 : B2) (u3 : B3) (k : A1 → A2 → Option α) (l : B1 → B2 → B3 → Option β), I n x1 x2 u1 u2 u3 → (∀ (n2 : Nat) (y1 : A1) (y2 : A2) (v1 : B1) (v2 : B2) (v3 : B3), n2 < n → I n2 y1 y2 v1 v2 v3 → S2 (k y1 y2) (l v1 v2 v3) Q) → S2 (b k x1 x2) (c l u1 u2 u3) Q) : ∀ (N n : Nat), n < N → ∀ (x1 : A1) (x2 : A2) (u1 : B1) (u2 : B2) (u3 : B3), I n x1 x2 u1 u2 u3 → S2 (lop z b N x1 x2) (lop w c N u1 u2 u3) Q
  | 0, _, h, _, _, _, _, _, _ => absurd h (Nat.not_lt_zero _)
  | N + 1, n, h, x1, x2, u1, u2, u3, hI => hs n x1 x2 u1 u2 u3 _ _ hI (fun n2 y1 y2 v1 v2 v3 h2 hI2 => lopS23 I hs N n2 (by omega) y1 y2 v1 v2 v3 hI2)
theorem lopS24 {A1 A2 B1 B2 B3 B4 α β : Type} {z : A1 → A2 → Option α} {b : (A1 → A2 → Option α) → A1 → A2 → Option α} {w : B1 → B2 → B3 → B4 → Option β} {c : (B1 → B2 → B3 → B4 → Option β) → B1 → B2 → B3 → B4 → Option β} {Q : α → β → Prop} (I : Nat → A1 → A2 → B1 → B2 → B3 → B4 → Prop) (hs : ∀ (n : Nat) (x1 : A1) (x2 : A2) (u1 : B1) (u2 : B2) (u3 : B3) (u4 : B4) (k : A1 → A2 → Option α) (l : B1 → B2 → B3 → B4 → Option β), I n x1 x2 u1 u2 u3 u4 → (∀ (n2 : Nat) (y1 : A1) (y2 : A2) (v1 : B1) (v2 : B2) (v3 : B3) (v4 : B4), n2 < n → I n2 y1 y2 v1 v2 v3 v4 → S2 (k y1 y2) (l v1 v2 v3 v4) Q) → S2 (b k x1 x2) (c l u1 u2 u3 u4) Q) : ∀ (N n : Nat), n < N → ∀ (x1 : A1) (x2 : A2) (u1 : B1) (u2 : B2) (u3 : B3) (u4 : B4), I n x1 x2 u1 u2 u3 u4 → S2 (lop z b N x1 x2) (lop w c N u1 u2 u3 u4) Q
  | 0, _, h, _, _, _, _, _, _, _ => absurd h (Nat.not_lt_zero _)
  | N + 1, n, h, x1, x2, u1, u2, u3, u4, hI => hs n x1 x2 u1 u2 u3 u4 _ _ hI (fun n2 y1 y2 v1 v2 v3 v4 h2 hI2 => lopS24 I hs N n2 (by omega) y1 y2 v1 v2 v3 v4 hI2)
theorem lopS25 {A1 A2 B1 B2 B3 B4 B5 α β : Type} {z : A1 → A2 → Option α} {b : (A1 → A2 → Option α) → A1 → A2 → Option α} {w : B1 → B2 → B3 → B4 → B5 → Option β} {c : (B1 → B2 → B3 → B4 → B5 → Option β) → B1 → B2 → B3 → B4 → B5 → Option β} {Q : α → β → Prop} (I : Nat → A1 → A2 → B1 → B2 → B3 → B4 → B5 → Prop) (hs : ∀ (n : Nat) (x1 : A1) (x2 : A2) (u1 : B1) (u2 : B2) (u3 : B3) (u4 : B4) (u5 : B5) (k : A1 → A2 → Option α) (l : B1 → B2 → B3 → B4 → B5 → Option β), I n x1 x2 u1 u2 u3 u4 u5 → (∀ (n2 : Nat) (y1 : A1) (y2 : A2) (v1 : B1) (v2 : B2) (v3 : B3) (v4 : B4) (v5 : B5), n2 < n → I n2 y1 y2 v1 v2 v3 v4 v5 → S2 (k y1 y2) (l v1 v2 v3 v4 v5) Q) → S2 (b k x1 x2) (c l u1 u2 u3 u4 u5) Q) : ∀ (N n : Nat), n < N → ∀ (x1 : A1) (x2 : A2) (u1 : B1) (u2 : B2) (u3 : B3) (u4 : B4) (u5 : B5), I n x1 x2 u1 u2 u3 u4 u5 → S2 (lop z b N x1 x2) (lop w c N u1 u2 u3 u4 u5) Q
  | 0, _, h, _, _, _, _, _, _, _, _ => absurd h (Nat.not_lt_zero _)
  | N + 1, n, h, x1, x2, u1, u2, u3, u4, u5, hI => hs n x1 x2 u1 u2 u3 u4 u5 _ _ hI (fun n2 y1 y2 v1 v2 v3 v4 v5 h2 hI2 => lopS25 I hs N n2 (by omega) y1 y2 v1 v2 v3 v4 v5 hI2)
theorem lopS31 {A1 A2 A3 B1 α β : Type} {z : A1 → A2 → A3 → Option α} {b : (A1 → A2 → A3 → Option α) → A1 → A2 → A3 → Option α} {w : B1 → Option β} {c : (B1 → Option β) → B1 → Option β} {Q : α → β → Prop} (I : Nat → A1 → A2 → A3 → B1 → Prop) (hs : ∀ (n : Nat) (x1 : A1) (x2 : A2) (x3 : A3) (u1 : B1) (k : A1 → A2 → A3 → Option α) (l : B1 → Option β), I n x1 x2 x3 u1 → (∀ (n2 : Nat) (y1 : A1) (y2 : A2) (y3 : A3) (v1 : B1), n2 < n → I n2 y1 y2 y3 v1 → S2 (k y1 y2 y3) (l v1) Q) → S2 (b k x1 x2 x3) (c l u1) Q) : ∀ (N n : Nat), n < N → ∀ (x1 : A1) (x2 : A2) (x3 : A3) (u1 : B1), I n x1 x2 x3 u1 → S2 (lop z b N x1 x2 x3) (lop w c N u1) Q
  | 0, _, h, _, _, _, _, _ => absurd h (Nat.not_lt_zero _)
  | N + 1, n, h, x1, x2, x3, u1, hI => hs n x1 x2 x3 u1 _ _ hI (fun n2 y1 y2 y3 v1 h2 hI2 => lopS31 I hs N n2 (by omega) y1 y2 y3 v1 hI2)
theorem lopS32 {A1 A2 A3 B1 B2 α β : Type} {z : A1 → A2 → A3 → Option α} {b : (A1 → A2 → A3 → Option α) → A1 → A2 → A3 → Option α} {w : B1 → B2 → Option β} {c : (B1 → B2 → Option β) → B1 → B2 → Option β} {Q : α → β → Prop} (I : Nat → A1 → A2 → A3 → B1 → B2 → Prop) (hs : ∀ (n : Nat) (x1 : A1) (x2 : A2) (x3 : A3) (u1 : B1) (u2 : B2) (k : A1 → A2 → A3 → Option α) (l : B1 → B2 → Option β), I n x1 x2 x3 u1 u2 → (∀ (n2 : Nat) (y1 : A1) (y2 : A2) (y3 : A3) (v1 : B1) (v2 : B2), n2 < n → I n2 y1 y2 y3 v1 v2 → S2 (k y1 y2 y3) (l v1 v2) Q) → S2 (b k x1 x2 x3) (c l u1 u2) Q) : ∀ (N n : Nat), n < N → ∀ (x1 : A1) (x2 : A2) (x3 : A3) (u1 : B1) (u2 : B2), I n x1 x2 x3 u1 u2 → S2 (lop z b N x1 x2 x3) (lop w c N u1 u2) Q
  | 0, _, h, _, _, _, _, _, _ => absurd h (Nat.not_lt_zero _)
  | N + 1, n, h, x1, x2, x3, u1, u2, hI => hs n x1 x2 x3 u1 u2 _ _ hI (fun n2 y1 y2 y3 v1 v2 h2 hI2 => lopS32 I hs N n2 (by omega) y1 y2 y3 v1 v2 hI2)
theorem lopS33 {A1 A2 A3 B1 B2 B3 α β : Type} {z : A1 → A2 → A3 → Option α} {b : (A1 → A2 → A3 → Option α) → A1 → A2 → A3 → Option α} {w : B1 → B2 → B3 → Option β} {c : (B1 → B2 → B3 → Option β) → B1 → B2 → B3 → Option β} {Q : α → β → Prop} (I : Nat → A1 → A2 → A3 → B1 → B2 → B3 → Prop) (hs : ∀ (n : Nat) (x1 : A1) (x2 : A2) (x3 : A3) (u1 : B1) (u2 : B2) (u3 : B3) (k : A1 → A2 → A3 → Option α) (l : B1 → B2 → B3 → Option β), I n x1 x2 x3 u1 u2 u3 → (∀ (n2 : Nat) (y1 : A1) (y2 : A2) (y3 : A3) (v1 : B1) (v2 : B2) (v3 : B3), n2 < n → I n2 y1 y2 y3 v1 v2 v3 → S2 (k y1 y2 y3) (l v1 v2 v3) Q) → S2 (b k x1 x2 x3) (c l u1 u2 u3) Q) : ∀ (N n : Nat), n < N → ∀ (x1 : A1) (x2 : A2) (x3 : A3) (u1 : B1) (u2 : B2) (u3 : B3), I n x1 x2 x3 u1 u2 u3 → S2 (lop z b N x1 x2 x3) (lop w c N u1 u2 u3) Q
  | 0, _, h, _, _, _, _, _, _, _ => absurd h (Nat.not_lt_zero _)
  | N + 1, n, h, x1, x2, x3, u1, u2, u3, hI => hs n x1 x2 x3 u1 u2 u3 _ _ hI (fun n2 y1 y2 y3 v1 v2 v3 h2 hI2 => lopS33 I hs N n2 (by omega) y1 y2 y3 v1 v2 v3 hI2)
theorem lopS34 {A1 A2 A3 B1 B2 B3 B4 α β : Type} {z : A1 → A2 → A3 → Option α} {b : (A1 → A2 → A3 → Option α) → A1 → A2 → A3 → Option α} {w : B1 → B2 → B3 → B4 → Option β} {c : (B1 → B2 → B3 → B4 → Option β) → B1 → B2 → B3 → B4 → Option β} {Q : α → β → Prop} (I : Nat → A1 → A2 → A3 → B1 → B2 → B3 → B4 → Prop) (hs : ∀ (n : Nat) (x1 : A1) (x2 : A2) (x3 : A3) (u1 : B1) (u2 : B2) (u3 : B3) (u4 : B4) (k : A1 → A2 → A3 → Option α) (l : B1 → B2 → B3 → B4 → Option β), I n x1 x2 x3 u1 u2 u3 u4 → (∀ (n2 : Nat) (y1 : A1) (y2 : A2) (y3 : A3) (v1 : B1) (v2 : B2) (v3 : B3) (v4 : B4), n2 < n → I n2 y1 y2 y3 v1 v2 v3 v4 → S2 (k y1 y2 y3) (l v1 v2 v3 v4) Q) → S2 (b k x1 x2 x3) (c l u1 u2 u3 u4) Q) : ∀ (N n : Nat), n < N → ∀ (x1 : A1) (x2 : A2) (x3 : A3) (u1 : B1) (u2 : B2) (u3 : B3) (u4 : B4), I n x1 x2 x3 u1 u2 u3 u4 → S2 (lop z b N x1 x2 x3) (lop w c N u1 u2 u3 u4) Q
  | 0, _, h, _, _, _, _, _, _, _, _ => absurd h (Nat.not_lt_zero _)
  | N + 1, n, h, x1, x2, x3, u1, u2, u3, u4, hI => hs n x1 x2 x3 u1 u2 u3 u4 _ _ hI (fun n2 y1 y2 y3 v1 v2 v3 v4 h2 hI2 => lopS34 I hs N n2 (by omega) y1 y2 y3 v1 v2 v3 v4 hI2)
theorem lopS35 {A1 A2 A3 B1 B2 B3 B4 B5 α β : Type} {z : A1 → A2 → A3 → Option α} {b : (A1 → A2 → A3 → Option α) → A1 → A2 → A3 → Option α} {w : B1 → B2 → B3 → B4 → B5 → Option β} {c : (B1 → B2 → B3 → B4 → B5 → Option β) → B1 → B2 → B3 → B4 → B5 → Option β} {Q : α → β → Prop} (I : Nat → A1 → A2 → A3 → B1 → B2 → B3 → B4 → B5 → Prop) (hs : ∀ (n : Nat) (x1 : A1) (x2 : A2) (x3 : A3) (u1 : B1) (u2 : B2) (u3 : B3) (u4 : B4) (u5 : B5) (k : A1 → A2 → A3 → Option α) (l : B1 → B2 → B3 → B4 → B5 → Option β), I n x1 x2 x3 u1 u2 u3 u4 u5 → (∀ (n2 : Nat) (y1 : A1) (y2 : A2) (y3 : A3) (v1 : B1) (v2 : B2) (v3 : B3) (v4 : B4) (v5 : B5), n2 < n → I n2 y1 y2 y3 v1 v2 v3 v4 v5 → S2 (k y1 y2 y3) (l v1 v2 v3 v4 v5) Q) → S2 (b k x1 x2 x3) (c l u1 u2 u3 u4 u5) Q) : ∀ (N n : Nat), n < N → ∀ (x1 : A1) (x2 : A2) (x3 : A3) (u1 : B1) (u2 : B2) (u3 : B3) (u4 : B4) (u5 : B5), I n x1 x2 x3 u1 u2 u3 u4 u5 → S2 (lop z b N x1 x2 x3) (lop w c N u1 u2 u3 u4 u5) Q
  | 0, _, h, _, _, _, _, _, _, _, _, _ => absurd h (Nat.not_lt_zero _)
  | N + 1, n, h, x1, x2, x3, u1, u2, u3, u4, u5, hI => hs n x1 x2 x3 u1 u2 u3 u4 u5 _ _ hI (fun n2 y1 y2 y3 v1 v2 v3 v4 v5 h2 hI2 => lopS35 I hs N n2 (by omega) y1 y2 y3 v1 v2 v3 v4 v5 hI2)
theorem lopS41 {A1 A2 A3 A4 B1 α β : Type} {z : A1 → A2 → A3 → A4 → Option α} {b : (A1 → A2 → A3 → A4 → Option α) → A1 → A2 → A3 → A4 → Option α} {w : B1 → Option β} {c : (B1 → Option β) → B1 → Option β} {Q : α → β → Prop} (I : Nat → A1 → A2 → A3 → A4 → B1 → Prop) (hs : ∀ (n : Nat) (x1 : A1) (x2 : A2) (x3 : A3) (x4 : A4) (u1 : B1) (k : A1 → A2 → A3 → A4 → Option α) (l : B1 → Option β), I n x1 x2 x3 x4 u1 → (∀ (n2 : Nat) (y1 : A1) (y2 : A2) (y3 : A3) (y4 : A4) (v1 : B1), n2 < n → I n2 y1 y2 y3 y4 v1 → S2 (k y1 y2 y3 y4) (l v1) Q) → S2 (b k x1 x2 x3 x4) (c l u1) Q) : ∀ (N n : Nat), n < N → ∀ (x1 : A1) (x2 : A2) (x3 : A3) (x4 : A4) (u1 : B1), I n x1 x2 x3 x4 u1 → S2 (lop z b N x1 x2 x3 x4) (lop w c N u1) Q
  | 0, _, h, _, _, _, _, _, _ => absurd h (Nat.not_lt_zero _)
  | N + 1, n, h, x1, x2, x3, x4, u1, hI => hs n x1 x2 x3 x4 u1 _ _ hI (fun n2 y1 y2 y3 y4 v1 h2 hI2 => lopS41 I hs N n2 (by omega) y1 y2 y3 y4 v1 hI2)
theorem lopS42 {A1 A2 A3 A4 B1 B2 α β : Type} {z : A1 → A2 → A3 → A4 → Option α} {b : (A1 → A2 → A3 → A4 → Option α) → A1 → A2 → A3 → A4 → Option α} {w : B1 → B2 → Option β} {c : (B1 → B2 → Option β) → B1 → B2 → Option β} {Q : α → β → Prop} (I : Nat → A1 → A2 → A3 → A4 → B1 → B2 → Prop) (hs : ∀ (n : Nat) (x1 : A1) (x2 : A2) (x3 : A3) (x4 : A4) (u1 : B1) (u2 : B2) (k : A1 → A2 → A3 → A4 → Option α) (l : B1 → B2 → Option β), I n x1 x2 x3 x4 u1 u2 → (∀ (n2 : Nat) (y1 : A1) (y2 : A2) (y3 : A3) (y4 : A4) (v1 : B1) (v2 : B2), n2 < n → I n2 y1 y2 y3 y4 v1 v2 → S2 (k y1 y2 y3 y4) (l v1 v2) Q) → S2 (b k x1 x2 x3 x4) (c l u1 u2) Q) : ∀ (N n : Nat), n < N → ∀ (x1 : A1) (x2 : A2) (x3 : A3) (x4 : A4) (u1 : B1) (u2 : B2), I n x1 x2 x3 x4 u1 u2 → S2 (lop z b N x1 x2 x3 x4) (lop w c N u1 u2) Q
  | 0, _, h, _, _, _, _, _, _, _ => absurd h (Nat.not_lt_zero _)
  | N + 1, n, h, x1, x2, x3, x4, u1, u2, hI => hs n x1 x2 x3 x4 u1 u2 _ _ hI (fun n2 y1 y2 y3 y4 v1 v2 h2 hI2 => lopS42 I hs N n2 (by omega) y1 y2 y3 y4 v1 v2 hI2)
theorem lopS43 {A1 A2 A3 A4 B1 B2 B3 α β : Type} {z : A1 → A2 → A3 → A4 → Option α} {b : (A1 → A2 → A3 → A4 → Option α) → A1 → A2 → A3 → A4 → Option α} {w : B1 → B2 → B3 → Option β} {c : (B1 → B2 → B3 → Option β) → B1 → B2 → B3 → Option β} {Q : α → β → Prop} (I : Nat → A1 → A2 → A3 → A4 → B1 → B2 → B3 → Prop) (hs : ∀ (n : Nat) (x1 : A1) (x2 : A2) (x3 : A3) (x4 : A4) (u1 : B1) (u2 : B2) (u3 : B3) (k : A1 → A2 → A3 → A4 → Option α) (l : B1 → B2 → B3 → Option β), I n x1 x2 x3 x4 u1 u2 u3 → (∀ (n2 : Nat) (y1 : A1) (y2 : A2) (y3 : A3) (y4 : A4) (v1 : B1) (v2 : B2) (v3 : B3), n2 < n → I n2 y1 y2 y3 y4 v1 v2 v3 → S2 (k y1 y2 y3 y4) (l v1 v2 v3) Q) → S2 (b k x1 x2 x3 x4) (c l u1 u2 u3) Q) : ∀ (N n : Nat), n < N → ∀ (x1 : A1) (x2 : A2) (x3 : A3) (x4 : A4) (u1 : B1) (u2 : B2) (u3 : B3), I n x1 x2 x3 x4 u1 u2 u3 → S2 (lop z b N x1 x2 x3 x4) (lop w c N u1 u2 u3) Q
  | 0, _, h, _, _, _, _, _, _, _, _ => absurd h (Nat.not_lt_zero _)
  | N + 1, n, h, x1, x2, x3, x4, u1, u2, u3, hI => hs n x1 x2 x3 x4 u1 u2 u3 _ _ hI (fun n2 y1 y2 y3 y4 v1 v2 v3 h2 hI2 => lopS43 I hs N n2 (by omega) y1 y2 y3 y4 v1 v2 v3 hI2)
theorem lopS44 {A1 A2 A3 A4 B1 B2 B3 B4 α β : Type} {z : A1 → A2 → A3 → A4 → Option α} {b : (A1 → A2 → A3 → A4 → Option α) → A1 → A2 → A3 → A4 → Option α} {w : B1 → B2 → B3 → B4 → Option β} {c : (B1 → B2 → B3 → B4 → Option β) → B1 → B2 → B3 → B4 → Option β} {Q : α → β → Prop} (I : Nat → A1 → A2 → A3 → A4 → B1 → B2 → B3 → B4 → Prop) (hs : ∀ (n : Nat) (x1 : A1) (x2 : A2) (x3 : A3) (x4 : A4) (u1 : B1) (u2 : B2) (u3 : B3) (u4 : B4) (k : A1 → A2 → A3 → A4 → Option α) (l : B1 → B2 → B3 → B4 → Option β), I n x1 x2 x3 x4 u1 u2 u3 u4 → (∀ (n2 : Nat) (y1 : A1) (y2 : A2) (y3 : A3) (y4 : A4) (v1 : B1) (v2 : B2) (v3 : B3) (v4 : B4), n2 < n → I n2 y1 y2 y3 y4 v1 v2 v3 v4 → S2 (k y1 y2 y3 y4) (l v1 v2 v3 v4) Q) → S2 (b k x1 x2 x3 x4) (c l u1 u2 u3 u4) Q) : ∀ (N n : Nat), n < N → ∀ (x1 : A1) (x2 : A2) (x3 : A3) (x4 : A4) (u1 : B1) (u2 : B2) (u3 : B3) (u4 : B4), I n x1 x2 x3 x4 u1 u2 u3 u4 → S2 (lop z b N x1 x2 x3 x4) (lop w c N u1 u2 u3 u4) Q
  | 0, _, h, _, _, _, _, _, _, _, _, _ => absurd h (Nat.not_lt_zero _)
  | N + 1, n, h, x1, x2, x3, x4, u1, u2, u3, u4, hI => hs n x1 x2 x3 x4 u1 u2 u3 u4 _ _ hI (fun n2 y1 y2 y3 y4 v1 v2 v3 v4 h2 hI2 => lopS44 I hs N n2 (by omega) y1 y2 y3 y4 v1 v2 v3 v4 hI2)
theorem lopS45 {A1 A2 A3 A4 B1 B2 B3 B4 B5 α β : Type} {z : A1 → A2 → A3 → A4 → Option α} {b : (A1 → A2 → A3 → A4 → Option α) → A1 → A2 → A3 → A4 → Option α} {w : B1 → B2 → B3 → B4 → B5 → Option β} {c : (B1 → B2 → B3 → B4 → B5 → Option β) → B1 → B2 → B3 → B4 → B5 → Option β} {Q : α → β → Prop} (I : Nat → A1 → A2 → A3 → A4 → B1 → B2 → B3 → B4 → B5 → Prop) (hs : ∀ (n : Nat) (x1 : A1) (x2 : A2) (x3 : A3) (x4 : A4) (u1 : B1) (u2 : B2) (u3 : B3) (u4 : B4) (u5 : B5) (k : A1 → A2 → A3 → A4 → Option α) (l : B1 → B2 → B3 → B4 → B5 → Option β), I n x1 x2 x3 x4 u1 u2 u3 u4 u5 → (∀ (n2 : Nat) (y1 : A1) (y2 : A2) (y3 : A3) (y4 : A4) (v1 : B1) (v2 : B2) (v3 : B3) (v4 : B4) (v5 : B5), n2 < n → I n2 y1 y2 y3 y4 v1 v2 v3 v4 v5 → S2 (k y1 y2 y3 y4) (l v1 v2 v3 v4 v5) Q) → S2 (b k x1 x2 x3 x4) (c l u1 u2 u3 u4 u5) Q) : ∀ (N n : Nat), n < N → ∀ (x1 : A1) (x2 : A2) (x3 : A3) (x4 : A4) (u1 : B1) (u2 : B2) (u3 : B3) (u4 : B4) (u5 : B5), I n x1 x2 x3 x4 u1 u2 u3 u4 u5 → S2 (lop z b N x1 x2 x3 x4) (lop w c N u1 u2 u3 u4 u5) Q
  | 0, _, h, _, _, _, _, _, _, _, _, _, _ => absurd h (Nat.not_lt_zero _)
  | N + 1, n, h, x1, x2, x3, x4, u1, u2, u3, u4, u5, hI => hs n x1 x2 x3 x4 u1 u2 u3 u4 u5 _ _ hI (fun n2 y1 y2 y3 y4 v1 v2 v3 v4 v5 h2 hI2 => lopS45 I hs N n2 (by omega) y1 y2 y3 y4 v1 v2 v3 v4 v5 hI2)
theorem lopS51 {A1 A2 A3 A4 A5 B1 α β : Type} {z : A1 → A2 → A3 → A4 → A5 → Option α} {b : (A1 → A2 → A3 → A4 → A5 → Option α) → A1 → A2 → A3 → A4 → A5 → Option α} {w : B1 → Option β} {c : (B1 → Option β) → B1 → Option β} {Q : α → β → Prop} (I : Nat → A1 → A2 → A3 → A4 → A5 → B1 → Prop) (hs : ∀ (n : Nat) (x1 : A1) (x2 : A2) (x3 : A3) (x4 : A4) (x5 : A5) (u1 : B1) (k : A1 → A2 → A3 → A4 → A5 → Option α) (l : B1 → Option β), I n x1 x2 x3 x4 x5 u1 → (∀ (n2 : Nat) (y1 : A1) (y2 : A2) (y3 : A3) (y4 : A4) (y5 : A5) (v1 : B1), n2 < n → I n2 y1 y2 y3 y4 y5 v1 → S2 (k y1 y2 y3 y4 y5) (l v1) Q) → S2 (b k x1 x2 x3 x4 x5) (c l u1) Q) : ∀ (N n : Nat), n < N → ∀ (x1 : A1) (x2 : A2) (x3 : A3) (x4 : A4) (x5 : A5) (u1 : B1), I n x1 x2 x3 x4 x5 u1 → S2 (lop z b N x1 x2 x3 x4 x5) (lop w c N u1) Q
  | 0, _, h, _, _, _, _, _, _, _ => absurd h (Nat.not_lt_zero _)
  | N + 1, n, h, x1, x2, x3, x4, x5, u1, hI => hs n x1 x2 x3 x4 x5 u1 _ _ hI (fun n2 y1 y2 y3 y4 y5 v1 h2 hI2 => lopS51 I hs N n2 (by omega) y1 y2 y3 y4 y5 v1 hI2)
theorem lopS52 {A1 A2 A3 A4 A5 B1 B2 α β : Type} {z : A1 → A2 → A3 → A4 → A5 → Option α} {b : (A1 → A2 → A3 → A4 → A5 → Option α) → A1 → A2 → A3 → A4 → A5 → Option α} {w : B1 → B2 → Option β} {c : (B1 → B2 → Option β) → B1 → B2 → Option β} {Q : α → β → Prop} (I : Nat → A1 → A2 → A3 → A4 → A5 → B1 → B2 → Prop) (hs : ∀ (n : Nat) (x1 : A1) (x2 : A2) (x3 : A3) (x4 : A4) (x5 : A5) (u1 : B1) (u2 : B2) (k : A1 → A2 → A3 → A4 → A5 → Option α) (l : B1 → B2 → Option β), I n x1 x2 x3 x4 x5 u1 u2 → (∀ (n2 : Nat) (y1 : A1) (y2 : A2) (y3 : A3) (y4 : A4) (y5 : A5) (v1 : B1) (v2 : B2), n2 < n → I n2 y1 y2 y3 y4 y5 v1 v2 → S2 (k y1 y2 y3 y4 y5) (l v1 v2) Q) → S2 (b k x1 x2 x3 x4 x5) (c l u1 u2) Q) : ∀ (N n : Nat), n < N → ∀ (x1 : A1) (x2 : A2) (x3 : A3) (x4 : A4) (x5 : A5) (u1 : B1) (u2 : B2), I n x1 x2 x3 x4 x5 u1 u2 → S2 (lop z b N x1 x2 x3 x4 x5) (lop w c N u1 u2) Q
  | 0, _, h, _, _, _, _, _, _, _, _ => absurd h (Nat.not_lt_zero _)
  | N + 1, n, h, x1, x2, x3, x4, x5, u1, u2, hI => hs n x1 x2 x3 x4 x5 u1 u2 _ _ hI (fun n2 y1 y2 y3 y4 y5 v1 v2 h2 hI2 => lopS52 I hs N n2 (by omega) y1 y2 y3 y4 y5 v1 v2 hI2)
theorem lopS53 {A1 A2 A3 A4 A5 B1 B2 B3 α β : Type} {z : A1 → A2 → A3 → A4 → A5 → Option α} {b : (A1 → A2 → A3 → A4 → A5 → Option α) → A1 → A2 → A3 → A4 → A5 → Option α} {w : B1 → B2 → B3 → Option β} {c : (B1 → B2 → B3 → Option β) → B1 → B2 → B3 → Option β} {Q : α → β → Prop} (I : Nat → A1 → A2 → A3 → A4 → A5 → B1 → B2 → B3 → Prop) (hs : ∀ (n : Nat) (x1 : A1) (x2 : A2) (x3 : A3) (x4 : A4) (x5 : A5) (u1 : B1) (u2 : B2) (u3 : B3) (k : A1 → A2 → A3 → A4 → A5 → Option α) (l : B1 → B2 → B3 → Option β), I n x1 x2 x3 x4 x5 u1 u2 u3 → (∀ (n2 : Nat) (y1 : A1) (y2 : A2) (y3 : A3) (y4 : A4) (y5 : A5) (v1 : B1) (v2 : B2) (v3 : B3), n2 < n → I n2 y1 y2 y3 y4 y5 v1 v2 v3 → S2 (k y1 y2 y3 y4 y5) (l v1 v2 v3) Q) → S2 (b k x1 x2 x3 x4 x5) (c l u1 u2 u3) Q) : ∀ (N n : Nat), n < N → ∀ (x1 : A1) (x2 : A2) (x3 : A3) (x4 : A4) (x5 : A5) (u1 : B1) (u2 : B2) (u3 : B3), I n x1 x2 x3 x4 x5 u1 u2 u3 → S2 (lop z b N x1 x2 x3 x4 x5) (lop w c N u1 u2 u3) Q
  | 0, _, h, _, _, _, _, _, _, _, _, _ => absurd h (Nat.not_lt_zero _)
  | N + 1, n, h, x1, x2, x3, x4, x5, u1, u2, u3, hI => hs n x1 x2 x3 x4 x5 u1 u2 u3 _ _ hI (fun n2 y1 y2 y3 y4 y5 v1 v2 v3 h2 hI2 => lopS53 I hs N n2 (by omega) y1 y2 y3 y4 y5 v1 v2 v3 hI2)
theorem lopS54 {A1 A2 A3 A4 A5 B1 B2 B3 B4 α β : Type} {z : A1 → A2 → A3 → A4 → A5 → Option α} {b : (A1 → A2 → A3 → A4 → A5 → Option α) → A1 → A2 → A3 → A4 → A5 → Option α} {w : B1 → B2 → B3 → B4 → Option β} {c : (B1 → B2 → B3 → B4 → Option β) → B1 → B2 → B3 → B4 → Option β} {Q : α → β → Prop} (I : Nat → A1 → A2 → A3 → A4 → A5 → B1 → B2 → B3 → B4 → Prop) (hs : ∀ (n : Nat) (x1 : A1) (x2 : A2) (x3 : A3) (x4 : A4) (x5 : A5) (u1 : B1) (u2 : B2) (u3 : B3) (u4 : B4) (k : A1 → A2 → A3 → A4 → A5 → Option α) (l : B1 → B2 → B3 → B4 → Option β), I n x1 x2 x3 x4 x5 u1 u2 u3 u4 → (∀ (n2 : Nat) (y1 : A1) (y2 : A2) (y3 : A3) (y4 : A4) (y5 : A5) (v1 : B1) (v2 : B2) (v3 : B3) (v4 : B4), n2 < n → I n2 y1 y2 y3 y4 y5 v1 v2 v3 v4 → S2 (k y1 y2 y3 y4 y5) (l v1 v2 v3 v4) Q) → S2 (b k x1 x2 x3 x4 x5) (c l u1 u2 u3 u4) Q) : ∀ (N n : Nat), n < N → ∀ (x1 : A1) (x2 : A2) (x3 : A3) (x4 : A4) (x5 : A5) (u1 : B1) (u2 : B2) (u3 : B3) (u4 : B4), I n x1 x2 x3 x4 x5 u1 u2 u3 u4 → S2 (lop z b N x1 x2 x3 x4 x5) (lop w c N u1 u2 u3 u4) Q
  | 0, _, h, _, _, _, _, _, _, _, _, _, _ => absurd h (Nat.not_lt_zero _)
  | N + 1, n, h, x1, x2, x3, x4, x5, u1, u2, u3, u4, hI => hs n x1 x2 x3 x4 x5 u1 u2 u3 u4 _ _ hI (fun n2 y1 y2 y3 y4 y5 v1 v2 v3 v4 h2 hI2 => lopS54 I hs N n2 (by omega) y1 y2 y3 y4 y5 v1 v2 v3 v4 hI2)
theorem lopS55 {A1 A2 A3 A4 A5 B1 B2 B3 B4 B5 α β : Type} {z : A1 → A2 → A3 → A4 → A5 → Option α} {b : (A1 → A2 → A3 → A4 → A5 → Option α) → A1 → A2 → A3 → A4 → A5 → Option α} {w : B1 → B2 → B3 → B4 → B5 → Option β} {c : (B1 → B2 → B3 → B4 → B5 → Option β) → B1 → B2 → B3 → B4 → B5 → Option β} {Q : α → β → Prop} (I : Nat → A1 → A2 → A3 → A4 → A5 → B1 → B2 → B3 → B4 → B5 → Prop) (hs : ∀ (n : Nat) (x1 : A1) (x2 : A2) (x3 : A3) (x4 : A4) (x5 : A5) (u1 : B1) (u2 : B2) (u3 : B3) (u4 : B4) (u5 : B5) (k : A1 → A2 → A3 → A4 → A5 → Option α) (l : B1 → B2 → B3 → B4 → B5 → Option β), I n x1 x2 x3 x4 x5 u1 u2 u3 u4 u5 → (∀ (n2 : Nat) (y1 : A1) (y2 : A2) (y3 : A3) (y4 : A4) (y5 : A5) (v1 : B1) (v2 : B2) (v3 : B3) (v4 : B4) (v5 : B5), n2 < n → I n2 y1 y2 y3 y4 y5 v1 v2 v3 v4 v5 → S2 (k y1 y2 y3 y4 y5) (l v1 v2 v3 v4 v5) Q) → S2 (b k x1 x2 x3 x4 x5) (c l u1 u2 u3 u4 u5) Q) : ∀ (N n : Nat), n < N → ∀ (x1 : A1) (x2 : A2) (x3 : A3) (x4 : A4) (x5 : A5) (u1 : B1) (u2 : B2) (u3 : B3) (u4 : B4) (u5 : B5), I n x1 x2 x3 x4 x5 u1 u2 u3 u4 u5 → S2 (lop z b N x1 x2 x3 x4 x5) (lop w c N u1 u2 u3 u4 u5) Q
  | 0, _, h, _, _, _, _, _, _, _, _, _, _, _ => absurd h (Nat.not_lt_zero _)
  | N + 1, n, h, x1, x2, x3, x4, x5, u1, u2, u3, u4, u5, hI => hs n x1 x2 x3 x4 x5 u1 u2 u3 u4 u5 _ _ hI (fun n2 y1 y2 y3 y4 y5 v1 v2 v3 v4 v5 h2 hI2 => lopS55 I hs N n2 (by omega) y1 y2 y3 y4 y5 v1 v2 v3 v4 v5 hI2)
/-! reading behind writing -/
theorem gI_eq (m : Mm) (a k : Nat) (v : Int32) (b j : Nat) (h : b = a) (g : j = k) : gI (sI m a k v) b j = v := by rw [gI_sI, if_pos ⟨h, g⟩]
theorem gI_ne (m : Mm) (a k : Nat) (v : Int32) (b j : Nat) (h : b ≠ a ∨ j ≠ k) : gI (sI m a k v) b j = gI m b j := by
  rw [gI_sI, if_neg (fun q => h.elim (fun n => n q.1) (fun n => n q.2))]
theorem gJ_eq (m : Mm) (a k : Nat) (v : Int64) (b j : Nat) (h : b = a) (g : j = k) : gJ (sJ m a k v) b j = v := by rw [gJ_sJ, if_pos ⟨h, g⟩]
theorem gJ_ne (m : Mm) (a k : Nat) (v : Int64) (b j : Nat) (h : b ≠ a ∨ j ≠ k) : gJ (sJ m a k v) b j = gJ m b j := by
  rw [gJ_sJ, if_neg (fun q => h.elim (fun n => n q.1) (fun n => n q.2))]
theorem gR_eq (m : Mm) (a k : Nat) (v : Nat) (b j : Nat) (h : b = a) (g : j = k) : gR (sR m a k v) b j = v := by rw [gR_sR, if_pos ⟨h, g⟩]
theorem gR_ne (m : Mm) (a k : Nat) (v : Nat) (b j : Nat) (h : b ≠ a ∨ j ≠ k) : gR (sR m a k v) b j = gR m b j := by
  rw [gR_sR, if_neg (fun q => h.elim (fun n => n q.1) (fun n => n q.2))]
theorem kp_ap {W : Nat → Nat → Prop} {a k b j : Nat} (q : ¬ W b j) (w : W a k) : b ≠ a ∨ j ≠ k := by
  by_cases e : b = a
  · exact Or.inr (fun g => by subst e; subst g; exact q w)
  · exact Or.inl e
/-- what is written lies within W -/
def Kp (W : Nat → Nat → Prop) (m n : Mm) : Prop := (∀ a k, ¬ W a k → gI n a k = gI m a k) ∧ (∀ a k, ¬ W a k → gJ n a k = gJ m a k) ∧ (∀ a k, gR n a k = gR m a k)
theorem Kp.refl {W : Nat → Nat → Prop} (m : Mm) : Kp W m m := ⟨fun _ _ _ => rfl, fun _ _ _ => rfl, fun _ _ => rfl⟩
theorem Kp.trans {W : Nat → Nat → Prop} {m n o : Mm} (h : Kp W m n) (g : Kp W n o) : Kp W m o := ⟨fun a k q => (g.1 a k q).trans (h.1 a k q), fun a k q => (g.2.1 a k q).trans (h.2.1 a k q), fun a k => (g.2.2 a k).trans (h.2.2 a k)⟩
theorem Kp.mono {W V : Nat → Nat → Prop} {m n : Mm} (h : Kp W m n) (g : ∀ a k, W a k → V a k) : Kp V m n := ⟨fun a k q => h.1 a k (fun w => q (g a k w)), fun a k q => h.2.1 a k (fun w => q (g a k w)), h.2.2⟩
theorem Kp.sI {W : Nat → Nat → Prop} {m n : Mm} (h : Kp W m n) {a k : Nat} (v : Int32) (w : W a k) : Kp W m (sI n a k v) := ⟨fun b j q => by rw [gI_ne _ _ _ _ _ _ (kp_ap q w)]; exact h.1 b j q, fun b j q => h.2.1 b j q, h.2.2⟩
theorem Kp.sJ {W : Nat → Nat → Prop} {m n : Mm} (h : Kp W m n) {a k : Nat} (v : Int64) (w : W a k) : Kp W m (sJ n a k v) := ⟨fun b j q => h.1 b j q, fun b j q => by rw [gJ_ne _ _ _ _ _ _ (kp_ap q w)]; exact h.2.1 b j q, h.2.2⟩
/-! numbers -/
theorem li_1 : (1 : Int32) = nI 1 := rfl
theorem ni_inb {a n : Nat} (h : a < n) (hn : n < 2 ^ 31) : inb (nI a) n = true := decide_eq_true (nI_in h hn)
theorem ni_inb' (a n : Nat) (ha : a < 2 ^ 31) : inb (nI a) n = decide (a < n) := by
  unfold inb
  by_cases h : a < n
  · rw [decide_eq_true h]; exact decide_eq_true (by rw [nI_clamp ha]; exact fun q => q.elim (nI_pos ha) (fun q => by omega))
  · rw [decide_eq_false h]; exact decide_eq_false (by rw [nI_clamp ha]; exact fun q => q (Or.inr (by omega)))
theorem ni_neg (a : Nat) (ha : a < 2 ^ 31) : (nI a < 0) = False := eq_false (nI_pos ha)
theorem ni_m1 (a : Nat) (ha : a < 2 ^ 31) : (nI a = -1) = False := eq_false (fun h => nI_pos ha (by rw [h]; decide))
theorem ni_cl (a : Nat) (ha : a < 2 ^ 31) : (nI a).toNatClampNeg = a := nI_clamp ha
theorem bok0 : bok 0 = true := rfl
theorem bok1 : bok 1 = true := rfl
