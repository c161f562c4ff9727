/-! a law worked out by the other, as a plain function: the depth, and the cells 18 to 26 -/
abbrev Wk : Type := Nat × (Nat → Nat → Int32)
def up (K : Nat → Nat → Int32) (c i : Nat) (v : Int32) : Nat → Nat → Int32 := fun a j => if a = c ∧ j = i then v else K a j
theorem up_eq (K : Nat → Nat → Int32) (c i : Nat) (v : Int32) : up K c i v c i = v := if_pos ⟨rfl, rfl⟩
theorem up_ne {K : Nat → Nat → Int32} {c i a j : Nat} {v : Int32} (h : a ≠ c ∨ j ≠ i) : up K c i v a j = K a j := if_neg (fun q => h.elim (fun h => h q.1) (fun h => h q.2))
def kOp (K : Nat → Nat → Int32) (d : Nat) : Nat → Nat → Int32 := up (up (up (up (up K 19 d 0) 21 d 0) 22 d 0) 23 d (nI 20)) 25 d 0
def kSv (K : Nat → Nat → Int32) (d : Nat) : Int32 := if K 23 d = nI 21 then K 22 d - K 24 d else K 22 d + K 24 d
def kSu (K : Nat → Nat → Int32) (d : Nat) : Nat → Nat → Int32 := up (up K 22 d (kSv K d)) 25 d 0
def kTv (K : Nat → Nat → Int32) (d : Nat) : Int32 := if K 21 d = nI 24 then (if K 20 d < kSv K d then 1 else 0) else if K 21 d = nI 25 then (if K 20 d = kSv K d then 1 else 0) else kSv K d
def kLv (K : Nat → Nat → Int32) (d : Nat) : Int32 := if K 19 d = nI 26 then (if K 18 d ≠ 0 ∧ kTv K d ≠ 0 then 1 else 0) else if K 19 d = nI 27 then (if K 18 d ≠ 0 ∨ kTv K d ≠ 0 then 1 else 0) else kTv K d
def kTe (K : Nat → Nat → Int32) (d : Nat) : Nat → Nat → Int32 := up (up (up (up (kSu K d) 18 d (kLv K d)) 21 d 0) 22 d 0) 23 d (nI 20)
def kDe (K : Nat → Nat → Int32) : Nat → Int32 → Wk
  | 0, v => (0, up K 24 0 (if K 25 0 = 0 then v else K 24 0 * v))
  | d + 1, v => if K 26 (d + 1) = 1 then kDe K d (if v = 0 then 1 else 0) else (d + 1, up K 24 (d + 1) (if K 25 (d + 1) = 0 then v else K 24 (d + 1) * v))
def kSt (f : Nat → Int32) (s : Wk) (c : Nat) : Wk :=
  if c = 28 ∨ c = 30 then (s.1 + 1, kOp (up s.2 26 (s.1 + 1) (if c = 30 then 1 else 0)) (s.1 + 1))
  else if c = 20 ∨ c = 21 then (s.1, up (kSu s.2 s.1) 23 s.1 (nI c))
  else if c = 22 then (s.1, up s.2 25 s.1 (nI c))
  else if c = 24 ∨ c = 25 then (s.1, up (up (up (up (kSu s.2 s.1) 20 s.1 (kSv s.2 s.1)) 21 s.1 (nI c)) 22 s.1 0) 23 s.1 (nI 20))
  else if c = 26 ∨ c = 27 then (s.1, up (kTe s.2 s.1) 19 s.1 (nI c))
  else if c = 29 then kDe (kTe s.2 s.1) (s.1 - 1) (kLv s.2 s.1)
  else kDe s.2 s.1 (if 100 ≤ c then nI (c - 100) else if c < 20 then f c else 0)
/-! what stands for what: the one's code, the other's code, the value -/
def Vpp (cP : List Int32) (v : (Nat → Int32) → Int32) (e : Nat) : Prop := ∀ f S, S.length + e ≤ 32 → cP.foldl (evStep f) S = v f :: S
def fM (f : Nat → Int32) (c : Nat) : Int32 := f (c - 1)
def sam (K K1 : Nat → Nat → Int32) (d : Nat) : Prop := ∀ c i, i < d → K1 c i = K c i
def opn (K : Nat → Nat → Int32) (d : Nat) : Prop := d = 0 ∨ K 26 d ≠ 1
/-- a part: its value is handed on -/
def Mpt (cM : List Nat) (v : (Nat → Int32) → Int32) : Prop := ∀ f d K, ∃ K1, (∀ c i, i ≤ d → K1 c i = K c i) ∧ cM.foldl (kSt (fM f)) (d, K) = kDe K1 d (v f)
def Mpr (cM : List Nat) (v : (Nat → Int32) → Int32) : Prop := ∀ f d K, opn K d → K 25 d = 0 → ∃ K1, cM.foldl (kSt (fM f)) (d, K) = (d, K1) ∧ sam K K1 d ∧ (∀ c, c ≠ 24 → c ≠ 25 → K1 c d = K c d) ∧ K1 24 d = v f
def Msu (cM : List Nat) (v : (Nat → Int32) → Int32) : Prop := ∀ f d K, opn K d → K 25 d = 0 → K 22 d = 0 → K 23 d = nI 20 → ∃ K1, cM.foldl (kSt (fM f)) (d, K) = (d, K1) ∧ sam K K1 d ∧ (∀ c, c ≠ 22 → c ≠ 23 → c ≠ 24 → c ≠ 25 → K1 c d = K c d) ∧ kSv K1 d = v f
def Mte (cM : List Nat) (v : (Nat → Int32) → Int32) : Prop := ∀ f d K, opn K d → K 25 d = 0 → K 22 d = 0 → K 23 d = nI 20 → K 21 d = 0 → ∃ K1, cM.foldl (kSt (fM f)) (d, K) = (d, K1) ∧ sam K K1 d ∧ (∀ c, c = 18 ∨ c = 19 ∨ c = 26 → K1 c d = K c d) ∧ kTv K1 d = v f
def Mlo (cM : List Nat) (v : (Nat → Int32) → Int32) : Prop := ∀ f d K, opn K d → K 25 d = 0 → K 22 d = 0 → K 23 d = nI 20 → K 21 d = 0 → K 19 d = 0 → ∃ K1, cM.foldl (kSt (fM f)) (d, K) = (d, K1) ∧ sam K K1 d ∧ (K1 26 d = K 26 d) ∧ kLv K1 d = v f
theorem kDe_o {K : Nat → Nat → Int32} {d : Nat} (h : opn K d) (v : Int32) : kDe K d v = (d, up K 24 d (if K 25 d = 0 then v else K 24 d * v)) := by
  cases d with
  | zero => rfl
  | succ d =>
    show (if K 26 (d + 1) = 1 then _ else _) = _
    rw [if_neg (h.resolve_left (Nat.succ_ne_zero _))]
/-! how they are put together -/
theorem Mpt.atom {c : Nat} {v : (Nat → Int32) → Int32} (hc : c < 20 ∨ 100 ≤ c) (hv : ∀ f, v f = if 100 ≤ c then nI (c - 100) else if c < 20 then fM f c else 0) : Mpt [c] v := by
  intro f d K
  refine ⟨K, fun _ _ _ => rfl, ?_⟩
  rw [hv f]
  show kSt (fM f) (d, K) c = _
  unfold kSt
  rw [if_neg (by omega), if_neg (by omega), if_neg (by omega), if_neg (by omega), if_neg (by omega), if_neg (by omega)]
theorem Mpt.not {cM : List Nat} {v : (Nat → Int32) → Int32} (h : Mpt cM v) : Mpt (30 :: cM) (fun f => if v f = 0 then 1 else 0) := by
  intro f d K
  obtain ⟨K1, h1, h2⟩ := h f (d + 1) (kOp (up K 26 (d + 1) 1) (d + 1))
  refine ⟨K1, fun c i hi => ?_, ?_⟩
  · rw [h1 c i (by omega)]
    unfold kOp
    rw [up_ne (by omega), up_ne (by omega), up_ne (by omega), up_ne (by omega), up_ne (by omega), up_ne (by omega)]
  · show cM.foldl (kSt (fM f)) (kSt (fM f) (d, K) 30) = _
    have e : kSt (fM f) (d, K) 30 = (d + 1, kOp (up K 26 (d + 1) 1) (d + 1)) := by
      unfold kSt
      rw [if_pos (Or.inr rfl), if_pos rfl]
    rw [e, h2]
    show (if K1 26 (d + 1) = 1 then _ else _) = _
    rw [if_pos]
    rw [h1 26 (d + 1) (Nat.le_refl _)]
    unfold kOp
    rw [up_ne (by omega), up_ne (by omega), up_ne (by omega), up_ne (by omega), up_ne (by omega), up_eq]
theorem Mpt.par {cM : List Nat} {v : (Nat → Int32) → Int32} (h : Mlo cM v) : Mpt (28 :: (cM ++ [29])) v := by
  intro f d K
  have hk : ∀ c i, i ≠ d + 1 → kOp (up K 26 (d + 1) 0) (d + 1) c i = K c i := by
    intro c i hi
    unfold kOp
    rw [up_ne (by omega), up_ne (by omega), up_ne (by omega), up_ne (by omega), up_ne (by omega), up_ne (by omega)]
  have g26 : kOp (up K 26 (d + 1) 0) (d + 1) 26 (d + 1) = 0 := by
    unfold kOp
    rw [up_ne (by omega), up_ne (by omega), up_ne (by omega), up_ne (by omega), up_ne (by omega), up_eq]
  have g25 : kOp (up K 26 (d + 1) 0) (d + 1) 25 (d + 1) = 0 := by
    unfold kOp
    rw [up_eq]
  have g23 : kOp (up K 26 (d + 1) 0) (d + 1) 23 (d + 1) = nI 20 := by
    unfold kOp
    rw [up_ne (by omega), up_eq]
  have g22 : kOp (up K 26 (d + 1) 0) (d + 1) 22 (d + 1) = 0 := by
    unfold kOp
    rw [up_ne (by omega), up_ne (by omega), up_eq]
  have g21 : kOp (up K 26 (d + 1) 0) (d + 1) 21 (d + 1) = 0 := by
    unfold kOp
    rw [up_ne (by omega), up_ne (by omega), up_ne (by omega), up_eq]
  have g19 : kOp (up K 26 (d + 1) 0) (d + 1) 19 (d + 1) = 0 := by
    unfold kOp
    rw [up_ne (by omega), up_ne (by omega), up_ne (by omega), up_ne (by omega), up_eq]
  obtain ⟨K1, h1, h2, h3, h4⟩ := h f (d + 1) (kOp (up K 26 (d + 1) 0) (d + 1)) (Or.inr (by rw [g26]; decide)) g25 g22 g23 g21 g19
  refine ⟨kTe K1 (d + 1), fun c i hi => ?_, ?_⟩
  · unfold kTe kSu
    rw [up_ne (by omega), up_ne (by omega), up_ne (by omega), up_ne (by omega), up_ne (by omega), up_ne (by omega), h2 c i (by omega), hk c i (by omega)]
  · show (cM ++ [29]).foldl (kSt (fM f)) (kSt (fM f) (d, K) 28) = _
    have e : kSt (fM f) (d, K) 28 = (d + 1, kOp (up K 26 (d + 1) 0) (d + 1)) := by
      unfold kSt
      rw [if_pos (Or.inl rfl), if_neg (by decide)]
    rw [e, List.foldl_append, h1]
    show kSt (fM f) (d + 1, K1) 29 = _
    unfold kSt
    rw [if_neg (by decide), if_neg (by decide), if_neg (by decide), if_neg (by decide), if_neg (by decide), if_pos rfl, h4]
    rfl
theorem Mpr.one {cM : List Nat} {v : (Nat → Int32) → Int32} (h : Mpt cM v) : Mpr cM v := by
  intro f d K ho h25
  obtain ⟨K1, h1, h2⟩ := h f d K
  have ho1 : opn K1 d := ho.imp id (fun q => by rw [h1 26 d (Nat.le_refl _)]; exact q)
  rw [kDe_o ho1, h1 25 d (Nat.le_refl _), if_pos h25] at h2
  refine ⟨up K1 24 d (v f), h2, fun c i hi => ?_, fun c c1 c2 => ?_, up_eq _ _ _ _⟩
  · rw [up_ne (by omega), h1 c i (by omega)]
  · rw [up_ne (by omega), h1 c d (Nat.le_refl _)]
theorem Mpr.mul {cM dM : List Nat} {v w : (Nat → Int32) → Int32} (h : Mpr cM v) (g : Mpt dM w) : Mpr (cM ++ 22 :: dM) (fun f => v f * w f) := by
  intro f d K ho h25
  obtain ⟨K1, h1, h2, h3, h4⟩ := h f d K ho h25
  obtain ⟨K2, g1, g2⟩ := g f d (up K1 25 d (nI 22))
  have e : kSt (fM f) (d, K1) 22 = (d, up K1 25 d (nI 22)) := by
    unfold kSt
    rw [if_neg (by decide), if_neg (by decide), if_pos rfl]
  have ho2 : opn K2 d := ho.imp id (fun q => by rw [g1 26 d (Nat.le_refl _), up_ne (by omega), h3 26 (by decide) (by decide)]; exact q)
  have k25 : K2 25 d = nI 22 := by rw [g1 25 d (Nat.le_refl _), up_eq]
  have k24 : K2 24 d = v f := by rw [g1 24 d (Nat.le_refl _), up_ne (by omega), h4]
  rw [kDe_o ho2, k25, if_neg (by decide), k24] at g2
  refine ⟨up K2 24 d (v f * w f), ?_, fun c i hi => ?_, fun c c1 c2 => ?_, up_eq _ _ _ _⟩
  · rw [List.foldl_append, h1]
    show dM.foldl (kSt (fM f)) (kSt (fM f) (d, K1) 22) = _
    rw [e, g2]
  · rw [up_ne (by omega), g1 c i (by omega), up_ne (by omega), h2 c i hi]
  · rw [up_ne (by omega), g1 c d (Nat.le_refl _), up_ne (by omega), h3 c c1 c2]
theorem Msu.one {cM : List Nat} {v : (Nat → Int32) → Int32} (h : Mpr cM v) : Msu cM v := by
  intro f d K ho h25 h22 h23
  obtain ⟨K1, h1, h2, h3, h4⟩ := h f d K ho h25
  refine ⟨K1, h1, h2, fun c c1 c2 c3 c4 => h3 c c3 c4, ?_⟩
  unfold kSv
  rw [h3 23 (by decide) (by decide), h23, if_neg (by decide), h3 22 (by decide) (by decide), h22, Int32.zero_add, h4]
theorem Msu.two {cM dM : List Nat} {v w : (Nat → Int32) → Int32} {c : Nat} (hc : c = 20 ∨ c = 21) (h : Msu cM v) (g : Mpr dM w) : Msu (cM ++ c :: dM) (fun f => if c = 21 then v f - w f else v f + w f) := by
  intro f d K ho h25 h22 h23
  obtain ⟨K1, h1, h2, h3, h4⟩ := h f d K ho h25 h22 h23
  have e : kSt (fM f) (d, K1) c = (d, up (kSu K1 d) 23 d (nI c)) := by
    unfold kSt
    rw [if_neg (by omega), if_pos hc]
  have ho2 : opn (up (kSu K1 d) 23 d (nI c)) d := ho.imp id (fun q => by
    unfold kSu
    rw [up_ne (by omega), up_ne (by omega), up_ne (by omega), h3 26 (by decide) (by decide) (by decide) (by decide)]
    exact q)
  have m25 : up (kSu K1 d) 23 d (nI c) 25 d = 0 := by
    unfold kSu
    rw [up_ne (by omega), up_eq]
  obtain ⟨K2, g1, g2, g3, g4⟩ := g f d (up (kSu K1 d) 23 d (nI c)) ho2 m25
  refine ⟨K2, ?_, fun a i hi => ?_, fun a a1 a2 a3 a4 => ?_, ?_⟩
  · rw [List.foldl_append, h1]
    show dM.foldl (kSt (fM f)) (kSt (fM f) (d, K1) c) = _
    rw [e, g1]
  · rw [g2 a i hi]
    unfold kSu
    rw [up_ne (by omega), up_ne (by omega), up_ne (by omega), h2 a i hi]
  · rw [g3 a a3 a4]
    unfold kSu
    rw [up_ne (by omega), up_ne (by omega), up_ne (by omega), h3 a a1 a2 a3 a4]
  · have k23 : K2 23 d = nI c := by rw [g3 23 (by decide) (by decide), up_eq]
    have k22 : K2 22 d = v f := by
      rw [g3 22 (by decide) (by decide)]
      unfold kSu
      rw [up_ne (by omega), up_ne (by omega), up_eq, h4]
    unfold kSv
    rw [k23, k22, g4]
    rcases hc with rfl | rfl
    · rw [if_neg (show ¬ nI 20 = nI 21 by decide)]
      exact (if_neg (by decide)).symm
    · rw [if_pos rfl]
      exact (if_pos rfl).symm
theorem Mte.one {cM : List Nat} {v : (Nat → Int32) → Int32} (h : Msu cM v) : Mte cM v := by
  intro f d K ho h25 h22 h23 h21
  obtain ⟨K1, h1, h2, h3, h4⟩ := h f d K ho h25 h22 h23
  refine ⟨K1, h1, h2, fun c hc => h3 c (by omega) (by omega) (by omega) (by omega), ?_⟩
  unfold kTv
  rw [h3 21 (by decide) (by decide) (by decide) (by decide), h21, if_neg (by decide), if_neg (by decide), h4]
theorem Mte.two {cM dM : List Nat} {v w : (Nat → Int32) → Int32} {c : Nat} (hc : c = 24 ∨ c = 25) (h : Msu cM v) (g : Msu dM w) : Mte (cM ++ c :: dM) (fun f => if c = 24 then (if v f < w f then 1 else 0) else (if v f = w f then 1 else 0)) := by
  intro f d K ho h25 h22 h23 h21
  obtain ⟨K1, h1, h2, h3, h4⟩ := h f d K ho h25 h22 h23
  obtain ⟨M, hM⟩ : ∃ M, M = up (up (up (up (kSu K1 d) 20 d (kSv K1 d)) 21 d (nI c)) 22 d 0) 23 d (nI 20) := ⟨_, rfl⟩
  have e : kSt (fM f) (d, K1) c = (d, M) := by
    rw [hM]
    unfold kSt
    rw [if_neg (by omega), if_neg (by omega), if_neg (by omega), if_pos hc]
  have mo : ∀ a i, (i ≠ d ∨ (a ≠ 20 ∧ a ≠ 21 ∧ a ≠ 22 ∧ a ≠ 23 ∧ a ≠ 25)) → M a i = K1 a i := by
    intro a i q
    rw [hM]
    unfold kSu
    rw [up_ne (by omega), up_ne (by omega), up_ne (by omega), up_ne (by omega), up_ne (by omega), up_ne (by omega)]
  have m25 : M 25 d = 0 := by
    rw [hM]
    unfold kSu
    rw [up_ne (by omega), up_ne (by omega), up_ne (by omega), up_ne (by omega), up_eq]
  have m22 : M 22 d = 0 := by rw [hM, up_ne (by omega), up_eq]
  have m23 : M 23 d = nI 20 := by rw [hM, up_eq]
  have m21 : M 21 d = nI c := by rw [hM, up_ne (by omega), up_ne (by omega), up_eq]
  have m20 : M 20 d = v f := by rw [hM, up_ne (by omega), up_ne (by omega), up_ne (by omega), up_eq, h4]
  have ho2 : opn M d := ho.imp id (fun q => by rw [mo 26 d (by omega), h3 26 (by decide) (by decide) (by decide) (by decide)]; exact q)
  obtain ⟨K2, g1, g2, g3, g4⟩ := g f d M ho2 m25 m22 m23
  refine ⟨K2, ?_, fun a i hi => ?_, fun a ha => ?_, ?_⟩
  · rw [List.foldl_append, h1]
    show dM.foldl (kSt (fM f)) (kSt (fM f) (d, K1) c) = _
    rw [e, g1]
  · rw [g2 a i hi, mo a i (by omega), h2 a i hi]
  · rw [g3 a (by omega) (by omega) (by omega) (by omega), mo a d (by omega), h3 a (by omega) (by omega) (by omega) (by omega)]
  · unfold kTv
    rw [g3 21 (by decide) (by decide) (by decide) (by decide), m21, g3 20 (by decide) (by decide) (by decide) (by decide), m20, g4]
    rcases hc with rfl | rfl
    · rw [if_pos rfl]
      exact (if_pos rfl).symm
    · rw [if_neg (show ¬ nI 25 = nI 24 by decide), if_pos rfl]
      exact (if_neg (by decide)).symm
theorem Mlo.one {cM : List Nat} {v : (Nat → Int32) → Int32} (h : Mte cM v) : Mlo cM v := by
  intro f d K ho h25 h22 h23 h21 h19
  obtain ⟨K1, h1, h2, h3, h4⟩ := h f d K ho h25 h22 h23 h21
  refine ⟨K1, h1, h2, h3 26 (by omega), ?_⟩
  unfold kLv
  rw [h3 19 (by omega), h19, if_neg (by decide), if_neg (by decide), h4]
theorem Mlo.two {cM dM : List Nat} {v w : (Nat → Int32) → Int32} {c : Nat} (hc : c = 26 ∨ c = 27) (h : Mlo cM v) (g : Mte dM w) : Mlo (cM ++ c :: dM) (fun f => if c = 26 then (if v f ≠ 0 ∧ w f ≠ 0 then 1 else 0) else (if v f ≠ 0 ∨ w f ≠ 0 then 1 else 0)) := by
  intro f d K ho h25 h22 h23 h21 h19
  obtain ⟨K1, h1, h2, h3, h4⟩ := h f d K ho h25 h22 h23 h21 h19
  obtain ⟨M, hM⟩ : ∃ M, M = up (kTe K1 d) 19 d (nI c) := ⟨_, rfl⟩
  have e : kSt (fM f) (d, K1) c = (d, M) := by
    rw [hM]
    unfold kSt
    rw [if_neg (by omega), if_neg (by omega), if_neg (by omega), if_neg (by omega), if_pos hc]
  have mo : ∀ a i, (i ≠ d ∨ a = 26) → M a i = K1 a i := by
    intro a i q
    rw [hM]
    unfold kTe kSu
    rw [up_ne (by omega), up_ne (by omega), up_ne (by omega), up_ne (by omega), up_ne (by omega), up_ne (by omega), up_ne (by omega)]
  have m25 : M 25 d = 0 := by
    rw [hM]
    unfold kTe kSu
    rw [up_ne (by omega), up_ne (by omega), up_ne (by omega), up_ne (by omega), up_ne (by omega), up_eq]
  have m23 : M 23 d = nI 20 := by
    rw [hM]
    unfold kTe
    rw [up_ne (by omega), up_eq]
  have m22 : M 22 d = 0 := by
    rw [hM]
    unfold kTe
    rw [up_ne (by omega), up_ne (by omega), up_eq]
  have m21 : M 21 d = 0 := by
    rw [hM]
    unfold kTe
    rw [up_ne (by omega), up_ne (by omega), up_ne (by omega), up_eq]
  have m18 : M 18 d = v f := by
    rw [hM]
    unfold kTe
    rw [up_ne (by omega), up_ne (by omega), up_ne (by omega), up_ne (by omega), up_eq, h4]
  have m19 : M 19 d = nI c := by rw [hM, up_eq]
  have ho2 : opn M d := ho.imp id (fun q => by rw [mo 26 d (Or.inr rfl), h3]; exact q)
  obtain ⟨K2, g1, g2, g3, g4⟩ := g f d M ho2 m25 m22 m23 m21
  refine ⟨K2, ?_, fun a i hi => ?_, ?_, ?_⟩
  · rw [List.foldl_append, h1]
    show dM.foldl (kSt (fM f)) (kSt (fM f) (d, K1) c) = _
    rw [e, g1]
  · rw [g2 a i hi, mo a i (by omega), h2 a i hi]
  · rw [g3 26 (by omega), mo 26 d (Or.inr rfl), h3]
  · unfold kLv
    rw [g3 19 (by omega), m19, g3 18 (by omega), m18, g4]
    rcases hc with rfl | rfl
    · rw [if_pos rfl]
      exact (if_pos rfl).symm
    · rw [if_neg (show ¬ nI 27 = nI 26 by decide), if_pos rfl]
      exact (if_neg (by decide)).symm
