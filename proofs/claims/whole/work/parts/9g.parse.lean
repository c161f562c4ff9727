/-! both read a law -/
def PJ (T : Nat → Nat) (n l b cb : Nat) (d : Tk) (c : List Int32) (g : List Nat) (mP mM : Mm) : Prop := LwT T n l b d c mP ∧ LwS T n l (cb + g.length) d mM ∧ (∀ i, i < g.length → gI mM 15 (cb + i) = nI (g.getD i 0)) ∧ cb + g.length < 1000 + tkb d ∧ 1000 ≤ cb
def WMl (cb δ e a k : Nat) : Prop := (a = 0 ∧ ((4 ≤ k ∧ k ≤ 9) ∨ k = 24)) ∨ (a = 15 ∧ cb ≤ k) ∨ (a = 16 ∧ δ < k) ∨ (a = 17 ∧ e ≤ k)
noncomputable def rdL (N : Nat) (x y : Int32) (m : Mm) : Option (Int32 × Mm) := lop (fun _ _ _ => none) f_X12_reads_B11 N x y m
theorem rdL_s (N : Nat) (x y : Int32) (m : Mm) : rdL (N + 1) x y m = f_X12_reads_B11 (rdL N) x y m := rfl
/-- both fail alike -/
def Bad (n b cb δ e : Nat) (d : Tk) (mP mM : Mm) (cl : Option (Int32 × Mm)) (lm : Nat → Option (Int32 × Mm)) : Prop := ∃ nP nM, cl = some (0, nP) ∧ (∀ N, n - tkb d < N → lm N = some (0, nM)) ∧ gI nP 3 2 = gI nM 0 9 ∧ ¬ gI nP 3 2 = 0 ∧ Kp (WLp b) mP nP ∧ Kp (WMl cb δ e) mM nM
def CB (g : List Nat) : Prop := ∀ x, x ∈ g → 1 ≤ x ∧ x ≤ 20000
/-- what both have read since d -/
def Cor (T : Nat → Nat) (n l b cb : Nat) (d d' : Tk) (c : List Int32) (g : List Nat) (cP : List Int32) (gM : List Nat) (v : (Nat → Int32) → Int32) (vb : Nat) (nP nM : Mm) : Prop := PJ T n l b cb d' (c ++ cP) (g ++ gM) nP nM ∧ tkb d < tkb d' ∧ cP.length ≤ tkb d' - tkb d ∧ Vpp cP v vb ∧ DepV l v ∧ cP ≠ [] ∧ gM ≠ [] ∧ CB gM
/-- a part read by both -/
def GdP (T : Nat → Nat) (n l b cb δ : Nat) (d : Tk) (c : List Int32) (g : List Nat) (mP mM : Mm) (cl : Option (Int32 × Mm)) (lm : Nat → Option (Int32 × Mm)) : Prop := ∃ nP nM d' cP gM v t, cl = some (1, nP) ∧ (∀ N, lm (N + t) = rdL N (nI (popN (fun i => gI mM 16 i) δ)) 0 nM) ∧ Cor T n l b cb d d' c g cP gM v (1 + 4 * (5 - δ)) nP nM ∧ t ≤ tkb d' - tkb d ∧ Mpt gM v ∧ Spt gM (5 - δ) ∧ Kp (WLp b) mP nP ∧ Kp (WMl (cb + g.length) δ (δ + 1)) mM nM
theorem PJ.put {T : Nat → Nat} {n l b cb x : Nat} {d : Tk} {c cP : List Int32} {g : List Nat} {mP mM nP nM m1 : Mm} (h : PJ T n l b cb d c g mP mM) (hT : TpOK T n) (h0 : tkK d ≠ 0) (hP : LwT T n l b (tk T n (tke d)) (c ++ cP) nP) (hM : RdM T n (tk T n (tke d)) nM) (k1 : Kp (fun a k => a = 0 ∧ 4 ≤ k ∧ k ≤ 8) m1 nM) (e15 : ∀ k, gI m1 15 k = if k = cb + g.length then nI x else gI mM 15 k) (e24 : gI m1 0 24 = nI (cb + g.length + 1)) (e25 : gI m1 0 25 = gI mM 0 25) : PJ T n l b cb (tk T n (tke d)) (c ++ cP) (g ++ [x]) nP nM := by
  obtain ⟨-, ⟨ok, -, h25, -, -⟩, hc, hb, h1⟩ := h
  have n0 := hT.1
  have kb := ok.2.2.2.2.1 h0
  have tok := tk_ok (T := T) (n := n) ok.2.1
  have tn := tok.1.1
  have lg : (g ++ [x]).length = g.length + 1 := by rw [List.length_append]; rfl
  refine ⟨hP, ⟨tok.1, hM, ((k1.1 _ _ (by omega)).trans e25).trans h25, by rw [lg]; exact (k1.1 _ _ (by omega)).trans e24, by rw [lg]; omega⟩, fun i hi => ?_, by rw [lg]; omega, h1⟩
  rw [lg] at hi
  rw [k1.1 _ _ (by omega), e15]
  by_cases z : i = g.length
  · subst z
    rw [if_pos rfl, snoc_eq]
  · rw [if_neg (by omega), snoc_lt (by omega)]
    exact hc i (by omega)
