/-! how deep it goes -/
def Sfe (f : Nat → Int32) (B : Nat) : Wk → List Nat → Prop
  | s, [] => s.1 ≤ B
  | s, c :: cs => s.1 ≤ B ∧ (c = 29 → 1 ≤ s.1) ∧ Sfe f B (kSt f s c) cs
theorem Sfe.app {f : Nat → Int32} {B : Nat} : ∀ {a b : List Nat} {s : Wk}, Sfe f B s a → Sfe f B (a.foldl (kSt f) s) b → Sfe f B s (a ++ b)
  | [], _, _, _, h => h
  | _ :: _, _, _, h, g => ⟨h.1, h.2.1, Sfe.app h.2.2 g⟩
theorem kDe_le (K : Nat → Nat → Int32) : ∀ d v, (kDe K d v).1 ≤ d
  | 0, _ => Nat.le_refl _
  | d + 1, v => by
    unfold kDe
    split
    · exact Nat.le_succ_of_le (kDe_le K d _)
    · exact Nat.le_refl _
def Spt (cM : List Nat) (b : Nat) : Prop := ∀ f d K B, d + b ≤ B → Sfe (fM f) B (d, K) cM
def Sex (cM : List Nat) (b : Nat) : Prop := ∀ f d K B, opn K d → K 25 d = 0 → K 22 d = 0 → K 23 d = nI 20 → K 21 d = 0 → K 19 d = 0 → d + b ≤ B → Sfe (fM f) B (d, K) cM
def Spr (cM : List Nat) (b : Nat) : Prop := ∀ f d K B, opn K d → K 25 d = 0 → d + b ≤ B → Sfe (fM f) B (d, K) cM
def Ssu (cM : List Nat) (b : Nat) : Prop := ∀ f d K B, opn K d → K 25 d = 0 → K 22 d = 0 → K 23 d = nI 20 → d + b ≤ B → Sfe (fM f) B (d, K) cM
def Ste (cM : List Nat) (b : Nat) : Prop := ∀ f d K B, opn K d → K 25 d = 0 → K 22 d = 0 → K 23 d = nI 20 → K 21 d = 0 → d + b ≤ B → Sfe (fM f) B (d, K) cM
theorem Spt.atom {c b : Nat} (hc : c < 20 ∨ 100 ≤ c) : Spt [c] b := by
  intro f d K B hB
  refine ⟨by show d ≤ B; omega, fun h => absurd h (by omega), ?_⟩
  show (kSt (fM f) (d, K) c).1 ≤ B
  unfold kSt
  rw [if_neg (by omega), if_neg (by omega), if_neg (by omega), if_neg (by omega), if_neg (by omega), if_neg (by omega)]
  exact Nat.le_trans (kDe_le _ _ _) (by show d ≤ B; omega)
theorem Spt.not {cM : List Nat} {b : Nat} (h : Spt cM b) : Spt (30 :: cM) (b + 1) := by
  intro f d K B hB
  refine ⟨by show d ≤ B; omega, fun h => absurd h (by omega), ?_⟩
  have e : kSt (fM f) (d, K) 30 = (d + 1, kOp (up K 26 (d + 1) 1) (d + 1)) := by
    unfold kSt
    rw [if_pos (Or.inr rfl), if_pos rfl]
  rw [e]
  exact h f (d + 1) _ B (by omega)
theorem kOp_in (K : Nat → Nat → Int32) (d : Nat) : kOp (up K 26 (d + 1) 0) (d + 1) 26 (d + 1) = 0 ∧ kOp (up K 26 (d + 1) 0) (d + 1) 25 (d + 1) = 0 ∧ kOp (up K 26 (d + 1) 0) (d + 1) 23 (d + 1) = nI 20 ∧ kOp (up K 26 (d + 1) 0) (d + 1) 22 (d + 1) = 0 ∧ kOp (up K 26 (d + 1) 0) (d + 1) 21 (d + 1) = 0 ∧ kOp (up K 26 (d + 1) 0) (d + 1) 19 (d + 1) = 0 := by
  unfold kOp
  refine ⟨?_, ?_, ?_, ?_, ?_, ?_⟩
  · rw [up_ne (by omega), up_ne (by omega), up_ne (by omega), up_ne (by omega), up_ne (by omega), up_eq]
  · rw [up_eq]
  · rw [up_ne (by omega), up_eq]
  · rw [up_ne (by omega), up_ne (by omega), up_eq]
  · rw [up_ne (by omega), up_ne (by omega), up_ne (by omega), up_eq]
  · rw [up_ne (by omega), up_ne (by omega), up_ne (by omega), up_ne (by omega), up_eq]
theorem Spt.par {cM : List Nat} {v : (Nat → Int32) → Int32} {b : Nat} (hm : Mlo cM v) (h : Sex cM b) : Spt (28 :: (cM ++ [29])) (b + 1) := by
  intro f d K B hB
  refine ⟨by show d ≤ B; omega, fun h => absurd h (by omega), ?_⟩
  have e : kSt (fM f) (d, K) 28 = (d + 1, kOp (up K 26 (d + 1) 0) (d + 1)) := by
    unfold kSt
    rw [if_pos (Or.inl rfl), if_neg (by decide)]
  rw [e]
  obtain ⟨g26, g25, g23, g22, g21, g19⟩ := kOp_in K d
  have ho : opn (kOp (up K 26 (d + 1) 0) (d + 1)) (d + 1) := Or.inr (by rw [g26]; decide)
  refine Sfe.app (h f (d + 1) _ B ho g25 g22 g23 g21 g19 (by omega)) ?_
  obtain ⟨K1, h1, h2, h3, h4⟩ := hm f (d + 1) _ ho g25 g22 g23 g21 g19
  rw [h1]
  refine ⟨by show d + 1 ≤ B; omega, fun _ => by show 1 ≤ d + 1; omega, ?_⟩
  show (kSt (fM f) (d + 1, K1) 29).1 ≤ B
  unfold kSt
  rw [if_neg (by decide), if_neg (by decide), if_neg (by decide), if_neg (by decide), if_neg (by decide), if_pos rfl]
  exact Nat.le_trans (kDe_le _ _ _) (by show d + 1 - 1 ≤ B; omega)
theorem Spr.one {cM : List Nat} {b : Nat} (h : Spt cM b) : Spr cM b := fun f d K B _ _ hB => h f d K B hB
theorem Spr.mul {cM dM : List Nat} {v : (Nat → Int32) → Int32} {b : Nat} (hm : Mpr cM v) (h : Spr cM b) (g : Spt dM b) : Spr (cM ++ 22 :: dM) b := by
  intro f d K B ho h25 hB
  refine Sfe.app (h f d K B ho h25 hB) ?_
  obtain ⟨K1, h1, h2, h3, h4⟩ := hm f d K ho h25
  have e : kSt (fM f) (d, K1) 22 = (d, up K1 25 d (nI 22)) := by
    unfold kSt
    rw [if_neg (by decide), if_neg (by decide), if_pos rfl]
  rw [h1]
  refine ⟨by show d ≤ B; omega, fun h => absurd h (by omega), ?_⟩
  rw [e]
  exact g f d _ B hB
theorem Ssu.one {cM : List Nat} {b : Nat} (h : Spr cM b) : Ssu cM b := fun f d K B ho h25 _ _ hB => h f d K B ho h25 hB
theorem Ssu.two {cM dM : List Nat} {v : (Nat → Int32) → Int32} {b c : Nat} (hc : c = 20 ∨ c = 21) (hm : Msu cM v) (h : Ssu cM b) (g : Spr dM b) : Ssu (cM ++ c :: dM) b := by
  intro f d K B ho h25 h22 h23 hB
  refine Sfe.app (h f d K B ho h25 h22 h23 hB) ?_
  obtain ⟨K1, h1, h2, h3, h4⟩ := hm f d K ho h25 h22 h23
  have e : kSt (fM f) (d, K1) c = (d, up (kSu K1 d) 23 d (nI c)) := by
    unfold kSt
    rw [if_neg (by omega), if_pos hc]
  have ho2 : opn (up (kSu K1 d) 23 d (nI c)) d := ho.imp id (fun q => by
    unfold kSu
    rw [up_ne (by omega), up_ne (by omega), up_ne (by omega), h3 26 (by decide) (by decide) (by decide) (by decide)]
    exact q)
  have m25 : up (kSu K1 d) 23 d (nI c) 25 d = 0 := by
    unfold kSu
    rw [up_ne (by omega), up_eq]
  rw [h1]
  refine ⟨by show d ≤ B; omega, fun h => absurd h (by omega), ?_⟩
  rw [e]
  exact g f d _ B ho2 m25 hB
theorem Ste.one {cM : List Nat} {b : Nat} (h : Ssu cM b) : Ste cM b := fun f d K B ho h25 h22 h23 _ hB => h f d K B ho h25 h22 h23 hB
theorem Ste.two {cM dM : List Nat} {v : (Nat → Int32) → Int32} {b c : Nat} (hc : c = 24 ∨ c = 25) (hm : Msu cM v) (h : Ssu cM b) (g : Ssu dM b) : Ste (cM ++ c :: dM) b := by
  intro f d K B ho h25 h22 h23 h21 hB
  refine Sfe.app (h f d K B ho h25 h22 h23 hB) ?_
  obtain ⟨K1, h1, h2, h3, h4⟩ := hm f d K ho h25 h22 h23
  obtain ⟨M, hM⟩ : ∃ M, M = up (up (up (up (kSu K1 d) 20 d (kSv K1 d)) 21 d (nI c)) 22 d 0) 23 d (nI 20) := ⟨_, rfl⟩
  have e : kSt (fM f) (d, K1) c = (d, M) := by
    rw [hM]
    unfold kSt
    rw [if_neg (by omega), if_neg (by omega), if_neg (by omega), if_pos hc]
  have m26 : M 26 d = K1 26 d := by
    rw [hM]
    unfold kSu
    rw [up_ne (by omega), up_ne (by omega), up_ne (by omega), up_ne (by omega), up_ne (by omega), up_ne (by omega)]
  have m25 : M 25 d = 0 := by
    rw [hM]
    unfold kSu
    rw [up_ne (by omega), up_ne (by omega), up_ne (by omega), up_ne (by omega), up_eq]
  have m22 : M 22 d = 0 := by rw [hM, up_ne (by omega), up_eq]
  have m23 : M 23 d = nI 20 := by rw [hM, up_eq]
  have ho2 : opn M d := ho.imp id (fun q => by rw [m26, h3 26 (by decide) (by decide) (by decide) (by decide)]; exact q)
  rw [h1]
  refine ⟨by show d ≤ B; omega, fun h => absurd h (by omega), ?_⟩
  rw [e]
  exact g f d M B ho2 m25 m22 m23 hB
theorem Sex.one {cM : List Nat} {b : Nat} (h : Ste cM b) : Sex cM b := fun f d K B ho h25 h22 h23 h21 _ hB => h f d K B ho h25 h22 h23 h21 hB
theorem Sex.two {cM dM : List Nat} {v : (Nat → Int32) → Int32} {b c : Nat} (hc : c = 26 ∨ c = 27) (hm : Mlo cM v) (h : Sex cM b) (g : Ste dM b) : Sex (cM ++ c :: dM) b := by
  intro f d K B ho h25 h22 h23 h21 h19 hB
  refine Sfe.app (h f d K B ho h25 h22 h23 h21 h19 hB) ?_
  obtain ⟨K1, h1, h2, h3, h4⟩ := hm f d K ho h25 h22 h23 h21 h19
  obtain ⟨M, hM⟩ : ∃ M, M = up (kTe K1 d) 19 d (nI c) := ⟨_, rfl⟩
  have e : kSt (fM f) (d, K1) c = (d, M) := by
    rw [hM]
    unfold kSt
    rw [if_neg (by omega), if_neg (by omega), if_neg (by omega), if_neg (by omega), if_pos hc]
  have m26 : M 26 d = K1 26 d := by
    rw [hM]
    unfold kTe kSu
    rw [up_ne (by omega), up_ne (by omega), up_ne (by omega), up_ne (by omega), up_ne (by omega), up_ne (by omega), up_ne (by omega)]
  have m25 : M 25 d = 0 := by
    rw [hM]
    unfold kTe kSu
    rw [up_ne (by omega), up_ne (by omega), up_ne (by omega), up_ne (by omega), up_ne (by omega), up_eq]
  have m23 : M 23 d = nI 20 := by
    rw [hM]
    unfold kTe
    rw [up_ne (by omega), up_eq]
  have m22 : M 22 d = 0 := by
    rw [hM]
    unfold kTe
    rw [up_ne (by omega), up_ne (by omega), up_eq]
  have m21 : M 21 d = 0 := by
    rw [hM]
    unfold kTe
    rw [up_ne (by omega), up_ne (by omega), up_ne (by omega), up_eq]
  have ho2 : opn M d := ho.imp id (fun q => by rw [m26, h3]; exact q)
  rw [h1]
  refine ⟨by show d ≤ B; omega, fun h => absurd h (by omega), ?_⟩
  rw [e]
  exact g f d M B ho2 m25 m22 m23 m21 hB
/-! the one's code -/
theorem Vpp.num {n e : Nat} (hn : n < 2 ^ 31) (he : 1 ≤ e) : Vpp [nI n] (fun _ => nI n) e := by
  intro f S hS
  show evStep f S (nI n) = _
  unfold evStep
  rw [if_pos (nI_pos' hn), evPush_lt (by omega)]
theorem fct_i : ∀ i, i < 6 → ¬ (0 : Int32) ≤ -1 - nI i ∧ (-11 : Int32) < -1 - nI i ∧ (0 ≤ (-1 : Int32) - (-1 - nI i) ∧ (-1 : Int32) - (-1 - nI i) < 6) ∧ ((-1 : Int32) - (-1 - nI i)).toNatClampNeg = i := by decide +kernel
theorem Vpp.fct {i e : Nat} (hi : i < 6) (he : 1 ≤ e) : Vpp [-1 - nI i] (fun f => f i) e := by
  intro f S hS
  obtain ⟨h1, h2, h3, h4⟩ := fct_i i hi
  rw [List.foldl_cons, List.foldl_nil]
  unfold evStep
  rw [if_neg h1, if_pos h2, if_pos h3, h4, evPush_lt (by omega)]
theorem Vpp.not {cP : List Int32} {v : (Nat → Int32) → Int32} {e : Nat} (he : 1 ≤ e) (h : Vpp cP v e) : Vpp (cP ++ [-11]) (fun f => if v f = 0 then 1 else 0) e := by
  intro f S hS
  rw [List.foldl_append, h f S hS]
  show evStep f (v f :: S) (-11) = _
  unfold evStep
  rw [if_neg (by decide), if_neg (by decide), if_pos rfl]
  show evPush (if v f = 0 then 1 else 0) S = _
  rw [evPush_lt (by omega)]
theorem Vpp.bin {cP dP : List Int32} {v w : (Nat → Int32) → Int32} {e : Nat} {c : Int32} (hc : ¬ 0 ≤ c ∧ ¬ -11 < c ∧ ¬ c = -11) (h : Vpp cP v (e + 1)) (g : Vpp dP w e) (he : 1 ≤ e) : Vpp (cP ++ dP ++ [c]) (fun f => evJoin c (v f) (w f)) (e + 1) := by
  intro f S hS
  rw [List.foldl_append, List.foldl_append, h f S hS, g f (v f :: S) (by show S.length + 1 + e ≤ 32; omega)]
  show evStep f (w f :: v f :: S) c = _
  unfold evStep
  rw [if_neg hc.1, if_neg hc.2.1, if_neg hc.2.2]
  show evPush (evJoin c (v f) (w f)) S = _
  rw [evPush_lt (by omega)]
theorem Vpp.up {cP : List Int32} {v : (Nat → Int32) → Int32} {e e' : Nat} (h : Vpp cP v e) (he : e ≤ e') : Vpp cP v e' := fun f S hS => h f S (by omega)
