/-! the world while it is made -/
abbrev Fl : Type := Nat → Nat → Bool
def fS (fl : Fl) (a k : Nat) : Fl := fun b j => if b = a ∧ j = k then true else fl b j
def fZ (fl : Fl) (a n : Nat) : Fl := fun b j => if b = a then decide (n ≤ j) else fl b j
def zr (m : Mm) (a : Nat) : Mm := (fun b j => if b = a then 0 else m.1 b j, fun b j => if b = a then 0 else m.2.1 b j, fun b j => if b = a then 0 else m.2.2 b j)
def zrn (m : Mm) (a n : Nat) : Mm := (fun b j => if a ≤ b ∧ b < a + n then 0 else m.1 b j, fun b j => if a ≤ b ∧ b < a + n then 0 else m.2.1 b j, fun b j => if a ≤ b ∧ b < a + n then 0 else m.2.2 b j)
def fT (fl : Fl) (a : Nat) : Fl := fun b j => if b = a then true else fl b j
theorem fS_ne {fl : Fl} {a k b j : Nat} (h : ¬ (b = a ∧ j = k)) : fS fl a k b j = fl b j := if_neg h
theorem gI_zr (m : Mm) (a b j : Nat) : gI (zr m a) b j = if b = a then 0 else gI m b j := rfl
theorem gJ_zr (m : Mm) (a b j : Nat) : gJ (zr m a) b j = if b = a then 0 else gJ m b j := rfl
theorem gR_zr (m : Mm) (a b j : Nat) : gR (zr m a) b j = if b = a then 0 else gR m b j := rfl
def slF (ad : Nat → Nat) (m : Mm) (fl : Fl) (c i k t : Nat) : Value := if t = 0 ∨ t = 1 then slv ad m c i k t else if fl i k = true then slv ad m c i k t else .null
def celF (Λ : Ly) (ad : Nat → Nat) (cy : Nat → ClassId) (m : Mm) (fl : Fl) (i : Nat) : va_E :=
  if Λ.1 i < 13 then .inr (Λ.1 i, (fcl (Λ.1 i)).mapIdx (fun k t => slF ad m fl (Λ.1 i) i k t))
  else if Λ.1 i = 15 then .inl (cy 15, Λ.2.1 i, .inr (.inl (fun k => gJ m i k)))
  else if Λ.1 i < 17 then .inl (cy (Λ.1 i), Λ.2.1 i, .inl (fun k => gI m i k))
  else .inl (cy (Λ.1 i), Λ.2.1 i, .inr (.inr (.inr (.inr (fun k => if fl i k = true then some (ad (i + eo (Λ.1 i) k)) else none)))))
def wlF (Λ : Ly) (ad : Nat → Nat) (cy : Nat → ClassId) (m : Mm) (fl : Fl) (k : Nat) : va_W := (List.range k).map (fun i => (ad i, celF Λ ad cy m fl i))
theorem wlF_get {Λ : Ly} (ad : Nat → Nat) (cy : Nat → ClassId) (m : Mm) (fl : Fl) {i k : Nat} (h : i < k) : (wlF Λ ad cy m fl k)[i]? = some (ad i, celF Λ ad cy m fl i) := by
  simp [wlF, h]
theorem wlF_set {Λ : Ly} {ad : Nat → Nat} {cy : Nat → ClassId} {m m' : Mm} {fl fl' : Fl} {i k : Nat} {e : va_E} (h : i < k) (he : celF Λ ad cy m' fl' i = e) (ho : ∀ j, j ≠ i → celF Λ ad cy m' fl' j = celF Λ ad cy m fl j) : (wlF Λ ad cy m fl k).set i (ad i, e) = wlF Λ ad cy m' fl' k := by
  apply List.ext_getElem?
  intro j
  by_cases hj : j = i
  · subst hj
    rw [wlF_get ad cy m' fl' h, List.getElem?_set_self (by simpa [wlF] using h), he]
  · rw [List.getElem?_set_ne (fun q => hj q.symm)]
    by_cases hn : j < k
    · rw [wlF_get ad cy m fl hn, wlF_get ad cy m' fl' hn, ho j hj]
    · simp [wlF, hn]
theorem wlF_push {Λ : Ly} {ad : Nat → Nat} {cy : Nat → ClassId} {m m' : Mm} {fl fl' : Fl} {k : Nat} (ho : ∀ j, j < k → celF Λ ad cy m' fl' j = celF Λ ad cy m fl j) : wlF Λ ad cy m' fl' (k + 1) = wlF Λ ad cy m fl k ++ [(ad k, celF Λ ad cy m' fl' k)] := by
  unfold wlF
  rw [List.range_succ, List.map_append]
  congr 1
  apply List.map_congr_left
  intro j hj
  rw [ho j (List.mem_range.mp hj)]
theorem celF_O {Λ : Ly} (ad : Nat → Nat) (cy : Nat → ClassId) (m : Mm) (fl : Fl) {i c : Nat} (h : Λ.1 i = c) (hc : c < 13) : celF Λ ad cy m fl i = .inr (c, (fcl c).mapIdx (fun k t => slF ad m fl c i k t)) := by
  subst h; simp only [celF, if_pos hc]
theorem celF_J {Λ : Ly} (ad : Nat → Nat) (cy : Nat → ClassId) (m : Mm) (fl : Fl) {i : Nat} (h : Λ.1 i = 15) : celF Λ ad cy m fl i = .inl (cy 15, Λ.2.1 i, .inr (.inl (fun k => gJ m i k))) := by
  simp [celF, h]
theorem celF_I {Λ : Ly} (ad : Nat → Nat) (cy : Nat → ClassId) (m : Mm) (fl : Fl) {i c : Nat} (h : Λ.1 i = c) (hc : c = 13 ∨ c = 14 ∨ c = 16) : celF Λ ad cy m fl i = .inl (cy c, Λ.2.1 i, .inl (fun k => gI m i k)) := by
  rcases hc with rfl | rfl | rfl <;> simp [celF, h]
theorem celF_R {Λ : Ly} (ad : Nat → Nat) (cy : Nat → ClassId) (m : Mm) (fl : Fl) {i c : Nat} (h : Λ.1 i = c) (hc : 17 ≤ c) : celF Λ ad cy m fl i = .inl (cy c, Λ.2.1 i, .inr (.inr (.inr (.inr (fun k => if fl i k = true then some (ad (i + eo c k)) else none))))) := by
  subst h
  unfold celF
  rw [if_neg (by omega), if_neg (by omega), if_neg (by omega)]
/-- what a cell shows depends on its own row alone -/
theorem celF_cong {Λ : Ly} {ad : Nat → Nat} {cy : Nat → ClassId} {m m' : Mm} {fl fl' : Fl} {i : Nat} (h1 : ∀ k, gI m' i k = gI m i k) (h2 : ∀ k, gJ m' i k = gJ m i k) (h3 : ∀ k, gR m' i k = gR m i k) (h4 : ∀ k, fl' i k = fl i k) : celF Λ ad cy m' fl' i = celF Λ ad cy m fl i := by
  simp only [celF, slF, slv, h1, h2, h3, h4]
theorem cF_zr {Λ : Ly} {ad : Nat → Nat} {cy : Nat → ClassId} {m : Mm} {fl : Fl} {k n i : Nat} (h : i ≠ k) : celF Λ ad cy (zr m k) (fZ fl k n) i = celF Λ ad cy m fl i :=
  celF_cong (fun j => by rw [gI_zr, if_neg h]) (fun j => by rw [gJ_zr, if_neg h]) (fun j => by rw [gR_zr, if_neg h]) (fun j => by simp only [fZ, if_neg h])
theorem fsF_set {ad : Nat → Nat} {m m' : Mm} {fl fl' : Fl} {c i k : Nat} {w : Value} (hk : ∀ t, (fcl c)[k]? = some t → slF ad m' fl' c i k t = w) (ho : ∀ j t, j ≠ k → slF ad m' fl' c i j t = slF ad m fl c i j t) : ((fcl c).mapIdx (fun k t => slF ad m fl c i k t)).set k w = (fcl c).mapIdx (fun k t => slF ad m' fl' c i k t) := by
  apply List.ext_getElem?
  intro j
  by_cases hj : j = k
  · subst hj
    by_cases hl : j < (fcl c).length
    · rw [List.getElem?_set_self (by simpa using hl), List.getElem?_mapIdx, List.getElem?_eq_getElem hl]
      exact congrArg some (hk _ (List.getElem?_eq_getElem hl)).symm
    · rw [List.set_eq_of_length_le (by simpa using Nat.le_of_not_lt hl), List.getElem?_mapIdx, List.getElem?_mapIdx, List.getElem?_eq_none (Nat.le_of_not_lt hl)]
      rfl
  · rw [List.getElem?_set_ne (fun q => hj q.symm), List.getElem?_mapIdx, List.getElem?_mapIdx]
    cases (fcl c)[j]? with
    | none => rfl
    | some t => exact congrArg some (ho j t hj).symm
theorem fsF_len (ad : Nat → Nat) (m : Mm) (fl : Fl) (c i : Nat) {k t : Nat} (h : (fcl c)[k]? = some t) : k < ((fcl c).mapIdx (fun k t => slF ad m fl c i k t)).length := by rw [List.length_mapIdx]; exact (List.getElem?_eq_some_iff.mp h).1
def dfv (t : Nat) : Value := if t = 0 then .int 0 else if t = 1 then .long 0 else .null
theorem fsF_new (ad : Nat → Nat) (m : Mm) (fl : Fl) (c k n : Nat) (hn : (fcl c).length ≤ n) {j : Nat} (h : j < (fcl c).length) : dfv ((fcl c).getD j 0) = vp_V ((fcl c).mapIdx (fun j t => slF ad (zr m k) (fZ fl k n) c k j t)) j := by
  unfold vp_V
  rw [List.getD_eq_getElem?_getD, List.getD_eq_getElem?_getD, List.getElem?_mapIdx, List.getElem?_eq_getElem h]
  simp only [Option.map_some, Option.getD_some, slF, slv, gI_zr, gJ_zr, fZ, if_true, dfv]
  have hq : decide (n ≤ j) = false := decide_eq_false (by omega)
  simp only [hq]
  by_cases h0 : (fcl c)[j] = 0
  · simp [h0]
  · by_cases h1 : (fcl c)[j] = 1
    · simp [h1]
    · simp [h0, h1]
theorem df_0 : ∀ j, j < 3 → defaultValue (tyX0 j) = dfv ((fcl 0).getD j 0) := by
  intro j hj
  match j, hj with
  | 0, _ => rfl
  | 1, _ => rfl
  | 2, _ => rfl
  | j + 3, h => exact absurd h (by omega)
theorem df_1 : ∀ j, j < 15 → defaultValue (tyX1 j) = dfv ((fcl 1).getD j 0) := by
  intro j hj
  match j, hj with
  | 0, _ => rfl
  | 1, _ => rfl
  | 2, _ => rfl
  | 3, _ => rfl
  | 4, _ => rfl
  | 5, _ => rfl
  | 6, _ => rfl
  | 7, _ => rfl
  | 8, _ => rfl
  | 9, _ => rfl
  | 10, _ => rfl
  | 11, _ => rfl
  | 12, _ => rfl
  | 13, _ => rfl
  | 14, _ => rfl
  | j + 15, h => exact absurd h (by omega)
theorem df_2 : ∀ j, j < 5 → defaultValue (tyX2 j) = dfv ((fcl 2).getD j 0) := by
  intro j hj
  match j, hj with
  | 0, _ => rfl
  | 1, _ => rfl
  | 2, _ => rfl
  | 3, _ => rfl
  | 4, _ => rfl
  | j + 5, h => exact absurd h (by omega)
theorem df_3 : ∀ j, j < 4 → defaultValue (tyX3 j) = dfv ((fcl 3).getD j 0) := by
  intro j hj
  match j, hj with
  | 0, _ => rfl
  | 1, _ => rfl
  | 2, _ => rfl
  | 3, _ => rfl
  | j + 4, h => exact absurd h (by omega)
theorem df_4 : ∀ j, j < 9 → defaultValue (tyX4 j) = dfv ((fcl 4).getD j 0) := by
  intro j hj
  match j, hj with
  | 0, _ => rfl
  | 1, _ => rfl
  | 2, _ => rfl
  | 3, _ => rfl
  | 4, _ => rfl
  | 5, _ => rfl
  | 6, _ => rfl
  | 7, _ => rfl
  | 8, _ => rfl
  | j + 9, h => exact absurd h (by omega)
theorem df_5 : ∀ j, j < 3 → defaultValue (tyX5 j) = dfv ((fcl 5).getD j 0) := by
  intro j hj
  match j, hj with
  | 0, _ => rfl
  | 1, _ => rfl
  | 2, _ => rfl
  | j + 3, h => exact absurd h (by omega)
theorem df_6 : ∀ j, j < 6 → defaultValue (tyX6 j) = dfv ((fcl 6).getD j 0) := by
  intro j hj
  match j, hj with
  | 0, _ => rfl
  | 1, _ => rfl
  | 2, _ => rfl
  | 3, _ => rfl
  | 4, _ => rfl
  | 5, _ => rfl
  | j + 6, h => exact absurd h (by omega)
theorem df_7 : ∀ j, j < 14 → defaultValue (tyX7 j) = dfv ((fcl 7).getD j 0) := by
  intro j hj
  match j, hj with
  | 0, _ => rfl
  | 1, _ => rfl
  | 2, _ => rfl
  | 3, _ => rfl
  | 4, _ => rfl
  | 5, _ => rfl
  | 6, _ => rfl
  | 7, _ => rfl
  | 8, _ => rfl
  | 9, _ => rfl
  | 10, _ => rfl
  | 11, _ => rfl
  | 12, _ => rfl
  | 13, _ => rfl
  | j + 14, h => exact absurd h (by omega)
theorem df_8 : ∀ j, j < 5 → defaultValue (tyX8 j) = dfv ((fcl 8).getD j 0) := by
  intro j hj
  match j, hj with
  | 0, _ => rfl
  | 1, _ => rfl
  | 2, _ => rfl
  | 3, _ => rfl
  | 4, _ => rfl
  | j + 5, h => exact absurd h (by omega)
theorem df_9 : ∀ j, j < 7 → defaultValue (tyX9 j) = dfv ((fcl 9).getD j 0) := by
  intro j hj
  match j, hj with
  | 0, _ => rfl
  | 1, _ => rfl
  | 2, _ => rfl
  | 3, _ => rfl
  | 4, _ => rfl
  | 5, _ => rfl
  | 6, _ => rfl
  | j + 7, h => exact absurd h (by omega)
theorem df_10 : ∀ j, j < 4 → defaultValue (tyX10 j) = dfv ((fcl 10).getD j 0) := by
  intro j hj
  match j, hj with
  | 0, _ => rfl
  | 1, _ => rfl
  | 2, _ => rfl
  | 3, _ => rfl
  | j + 4, h => exact absurd h (by omega)
theorem df_11 : ∀ j, j < 17 → defaultValue (tyX11 j) = dfv ((fcl 11).getD j 0) := by
  intro j hj
  match j, hj with
  | 0, _ => rfl
  | 1, _ => rfl
  | 2, _ => rfl
  | 3, _ => rfl
  | 4, _ => rfl
  | 5, _ => rfl
  | 6, _ => rfl
  | 7, _ => rfl
  | 8, _ => rfl
  | 9, _ => rfl
  | 10, _ => rfl
  | 11, _ => rfl
  | 12, _ => rfl
  | 13, _ => rfl
  | 14, _ => rfl
  | 15, _ => rfl
  | 16, _ => rfl
  | j + 17, h => exact absurd h (by omega)
theorem df_12 : ∀ j, j < 67 → defaultValue (tyX12 j) = dfv ((fcl 12).getD j 0) := by
  intro j hj
  match j, hj with
  | 0, _ => rfl
  | 1, _ => rfl
  | 2, _ => rfl
  | 3, _ => rfl
  | 4, _ => rfl
  | 5, _ => rfl
  | 6, _ => rfl
  | 7, _ => rfl
  | 8, _ => rfl
  | 9, _ => rfl
  | 10, _ => rfl
  | 11, _ => rfl
  | 12, _ => rfl
  | 13, _ => rfl
  | 14, _ => rfl
  | 15, _ => rfl
  | 16, _ => rfl
  | 17, _ => rfl
  | 18, _ => rfl
  | 19, _ => rfl
  | 20, _ => rfl
  | 21, _ => rfl
  | 22, _ => rfl
  | 23, _ => rfl
  | 24, _ => rfl
  | 25, _ => rfl
  | 26, _ => rfl
  | 27, _ => rfl
  | 28, _ => rfl
  | 29, _ => rfl
  | 30, _ => rfl
  | 31, _ => rfl
  | 32, _ => rfl
  | 33, _ => rfl
  | 34, _ => rfl
  | 35, _ => rfl
  | 36, _ => rfl
  | 37, _ => rfl
  | 38, _ => rfl
  | 39, _ => rfl
  | 40, _ => rfl
  | 41, _ => rfl
  | 42, _ => rfl
  | 43, _ => rfl
  | 44, _ => rfl
  | 45, _ => rfl
  | 46, _ => rfl
  | 47, _ => rfl
  | 48, _ => rfl
  | 49, _ => rfl
  | 50, _ => rfl
  | 51, _ => rfl
  | 52, _ => rfl
  | 53, _ => rfl
  | 54, _ => rfl
  | 55, _ => rfl
  | 56, _ => rfl
  | 57, _ => rfl
  | 58, _ => rfl
  | 59, _ => rfl
  | 60, _ => rfl
  | 61, _ => rfl
  | 62, _ => rfl
  | 63, _ => rfl
  | 64, _ => rfl
  | 65, _ => rfl
  | 66, _ => rfl
  | j + 67, h => exact absurd h (by omega)
def JdF (p : Program) (l : Launch) (e : Env) (R : Room) (s : State) (m : MethodId) (args : Array Value) (below : List Frame) (meth : Method) (c : Code) (nL : Nat) (Q : State → Prop) (A : Nat → Prop) (dC : Nat → ClassId) (dI : Nat → Nat → Nat) (cy : Nat → ClassId) (Λ : Ly) (ad : Nat → Nat) (k0 : Nat) (mem : Mm) (fl : Fl) (ce sl pc : Nat) (lv : List (Nat × Value)) (st : List Value) : Prop := ∀ (H : Heap) (locs : List Loc) (ls : Array Slot), va_P (dC, dI) vwCl (wlF Λ ad cy mem fl k0) H → va_D A (wlF Λ ad cy mem fl k0) → va_S A s.heap H locs → lv_has ls nL lv → W p l e R s m args below meth c H locs ce sl Q (F0 m pc ls st)
def nsm : List Cond := [.methodLinkNest "StationPiano" 11 ⟨"StationPiano$Tape", "<init>", "()V"⟩ "StationPiano", .methodLinkNest "StationPiano$Station" 55 ⟨"StationPiano$Passer", "<init>", "()V"⟩ "StationPiano", .methodLinkNest "StationPiano" 37 ⟨"StationPiano$State", "<init>", "()V"⟩ "StationPiano", .methodLinkNest "StationPiano" 47 ⟨"StationPiano$Week", "<init>", "()V"⟩ "StationPiano", .methodLinkNest "StationPiano" 57 ⟨"StationPiano$Clues", "<init>", "()V"⟩ "StationPiano", .methodLinkNest "StationPiano" 64 ⟨"StationPiano$Suspects", "<init>", "()V"⟩ "StationPiano", .methodLinkNest "StationPiano" 84 ⟨"StationPiano$Mark", "<init>", "()V"⟩ "StationPiano", .methodLinkNest "StationPiano$Mark" 9 ⟨"StationPiano$State", "<init>", "()V"⟩ "StationPiano", .methodLinkNest "StationPiano$Mark" 18 ⟨"StationPiano$Week", "<init>", "()V"⟩ "StationPiano", .methodLinkNest "StationPiano$Mark" 25 ⟨"StationPiano$Clues", "<init>", "()V"⟩ "StationPiano"]
def AO (U : State) : Prop := va_AO "StationPiano$Mark" U ∧ va_AO "StationPiano$Passer" U ∧ va_AO "StationPiano$State" U ∧ va_AOA .int U ∧ (∀ w ∈ nsm, va_Nw w U)
def PrN (Λ : Ly) (ad : Nat → Nat) (cy : Nat → ClassId) (dC : Nat → ClassId) (dI : Nat → Nat → Nat) (ks : (Nat → Nat) × (Nat → Nat)) (av : List Value) (k0 : Nat) (mem : Mm) (fl : Fl) : Array Value → State → Prop := va_Pc av (fun U => U.heap.size = ad k0 ∧ va_P (dC, dI) vwCl (wlF Λ ad cy mem fl k0) U.heap ∧ va_K (dC, dI) vwCl (tyl cy) U ∧ va_D (fun _ => True) (wlF Λ ad cy mem fl k0) ∧ NB U ∧ EX ks (va_A (wlF Λ ad cy mem fl k0) (ad k0)) U ∧ AO U)
/-- the words on arrays that stay outside uw -/
def aow : List Cond := [.arrayOver (.object "StationPiano$Mark"), .arrayOver (.object "StationPiano$Passer"), .arrayOver (.object "StationPiano$State"), .arrayOver (.array .int)]
theorem nsm_t : nsm.all (fun w => w.onTables) = true := by decide +kernel
def nsmF : Cond → Bool := fun w => match w with
  | .methodLinkNest _ _ _ _ => true
  | _ => false
theorem nsm_f : nsm.all nsmF = true := by decide +kernel
theorem AO_word {ty : FieldType} {s U : State} (hW : s.WarmedH U.vm) (h : va_AOA ty s) : va_AOA ty U := by
  have e := Cond.arrayOver_setVmC (args := #[]) (s := s) hW.alike (.array ty)
  exact (show (Cond.arrayOver (.array ty)).before #[] (s.setVm U.vm) = true from e.trans h)
theorem AO_same {ty : FieldType} {u U : State} (hv : u.vm = U.vm) (h : va_AOA ty u) : va_AOA ty U := by
  have e := Cond.arrayOver_setVmC (args := #[]) (s := u) (vm' := U.vm) (hv ▸ Vm.Alike.refl u.vm) (.array ty)
  exact (show (Cond.arrayOver (.array ty)).before #[] (u.setVm U.vm) = true from e.trans h)
theorem AO.warm {s U : State} (hW : s.WarmedH U.vm) (h : AO s) : AO U := ⟨va_AO.moved hW.alike h.1, va_AO.moved hW.alike h.2.1, va_AO.moved hW.alike h.2.2.1, AO_word hW h.2.2.2.1, fun w hw => by
  have h1 := List.all_eq_true.mp nsm_f w hw
  have h2 := h.2.2.2.2 w hw
  cases w <;> first | exact va_Nw.warmM hW h2 | cases h1⟩
theorem AO.same {u U : State} (hv : u.vm = U.vm) (h : AO u) : AO U := ⟨va_AO.moved (hv ▸ Vm.Alike.refl u.vm) h.1, va_AO.moved (hv ▸ Vm.Alike.refl u.vm) h.2.1, va_AO.moved (hv ▸ Vm.Alike.refl u.vm) h.2.2.1, AO_same hv h.2.2.2.1, fun w hw => va_Nw.same (List.all_eq_true.mp nsm_t w hw) hv (h.2.2.2.2 w hw)⟩
/-- the contract of a maker: it goes from the first k0 cells to the first k1 -/
theorem sz0 {s : State} {ad : Nat → Nat} {k c : Nat} (hs0 : s.heap.size = ad k) (had : ∀ i, ad i = ad 0 + i) : s.heap.size + c = ad (k + c) := by rw [hs0, had k, had (k + c)]; omega
def CtN (l : Launch) (Λ : Ly) (ad : Nat → Nat) (cy : Nat → ClassId) (dC : Nat → ClassId) (dI : Nat → Nat → Nat) (ks : (Nat → Nat) × (Nat → Nat)) (y : MethodName) (cc : ByteArray) (maxL : Nat) (rm : Room) (av : List Value) (k0 : Nat) (mem : Mm) (fl : Fl) (k1 : Nat) (mem2 : Mm) (fl2 : Fl) (mc ms : Nat) : Prop := Met l y (Cond.code y cc maxL none :: uw) rm (PrN Λ ad cy dC dI ks av k0 mem fl) (va_Qv (fun (_ : Unit) => True) (fun _ t => va_P (dC, dI) vwCl (wlF Λ ad cy mem2 fl2 k1) t.heap ∧ va_D (va_A (wlF Λ ad cy mem fl k0) (ad k0)) (wlF Λ ad cy mem2 fl2 k1)) (va_A (wlF Λ ad cy mem fl k0) (ad k0))) mc ms (va_A (wlF Λ ad cy mem fl k0) (ad k0))
theorem CtN.of {l : Launch} {Λ : Ly} {ad : Nat → Nat} {cy : Nat → ClassId} {dC : Nat → ClassId} {dI : Nat → Nat → Nat} {ks : (Nat → Nat) × (Nat → Nat)} {y : MethodName} {rm : Room} {av : List Value} {k0 : Nat} {mem : Mm} {fl : Fl} {k1 : Nat} {mem2 : Mm} {fl2 : Fl} {mc ms : Nat} {cc : ByteArray} {maxL : Nat} {own : String} (ho : y.cls = own) (hy : plainName y.cls = true) (hn : y.name = "<init>") (hlen : (lg_sl av).length ≤ maxL) (body : ∀ (p : Program) (e : Env) (s : State) (m : MethodId) (args : Array Value) (below : List Frame) (meth : Method) (c : Code) (A : Nat → Prop), Cx p l e rm s m args below meth c cc maxL own none A dC dI cy ks → AO s → meth.name = "<init>" → s.heap.size = ad k0 → JdF p l e rm s m args below meth c maxL (MQ below (va_Qv (fun (_ : Unit) => True) (fun _ t => va_P (dC, dI) vwCl (wlF Λ ad cy mem2 fl2 k1) t.heap ∧ va_D A (wlF Λ ad cy mem2 fl2 k1)) A) args s mc ms A) A dC dI cy Λ ad k0 mem fl 0 0 0 (lv_args 0 av) []) : CtN l Λ ad cy dC dI ks y cc maxL rm av k0 mem fl k1 mem2 fl2 mc ms := by
  refine Met.ofW (cc := cc) (maxL := maxL) (ret := none) hy rfl ?_
  intro p e s m args below meth c s₁ B hml hv
  obtain ⟨rfl, hsz, hP, hK, hD0, hN, hE, hAO⟩ := hv
  have hts : ∀ w ∈ uw, w.before av.toArray s = true := fun w hw => atoms_spec (ws := Cond.code y cc maxL none :: uw) B.pre w (List.mem_cons_of_mem _ hw)
  have hown : s.vm.findClass own = some m.cls := ho ▸ findClass_of_methodNamed B.named
  have hin : meth.name = "<init>" := (name_of_methodNamed B.named B.method).1.trans hn
  have hD := hD0.self (sz := ad k0)
  have hl := lv_entry av (n := maxL) hlen
  rw [lg_entry_eq]
  generalize (lg_sl av ++ List.replicate (maxL - (lg_sl av).length) Slot.unset).toArray = ls at hl ⊢
  exact body p e s m av.toArray below meth c _ ⟨B.exec, B.bytes, hml, hown, hts, hK, hN, fun q h => Or.inr (hsz ▸ h), B.returns, B.notSynchronized, hE⟩ hAO hin hsz s.heap [] ls hP hD va_S.rf hl
section ConRows
variable {p : Program} {l : Launch} {e : Env} {R : Room} {s : State} {m : MethodId} {args : Array Value} {below : List Frame} {meth : Method} {c : Code} {cc : ByteArray} {nL : Nat} {own : String} {ret : Option FieldType} {Q : State → Prop} {A : Nat → Prop} {dC : Nat → ClassId} {dI : Nat → Nat → Nat} {cy : Nat → ClassId} {Λ : Ly} {ad : Nat → Nat} {ks : (Nat → Nat) × (Nat → Nat)} {k0 : Nat} {mem : Mm} {fl : Fl} {ce sl pc : Nat} {lv : List (Nat × Value)} {st : List Value}
theorem n_iload_n (X : Cx p l e R s m args below meth c cc nL own ret A dC dI cy ks) {k : Fin 4} {i : Nat} {x : Int32} (hd : decode cc pc = .ok (.iload_n k, 1)) (hi : (k : Nat) = i) (q : Nat) (hl : lv[q]? = some (i, .int x)) (h : JdF p l e R s m args below meth c nL Q A dC dI cy Λ ad (k0) (mem) (fl) (ce) (sl) (pc + 1) (lv) (.int x :: st)) : JdF p l e R s m args below meth c nL Q A dC dI cy Λ ad (k0) (mem) (fl) (ce) (sl) (pc) (lv) (st) := fun H locs ls hP hD hS hL => lv_iload_n X.1 X.2.1 hd hi (lv_at hL q hl) (h H locs ls hP hD hS hL)
theorem n_istore_n (X : Cx p l e R s m args below meth c cc nL own ret A dC dI cy ks) {k : Fin 4} {i : Nat} {x : Int32} {lv2 : List (Nat × Value)} (hd : decode cc pc = .ok (.istore_n k, 1)) (hi : (k : Nat) = i) (hn : i < nL) (hl : (i, Value.int x) :: lv.filter (fun q => !(q.1 == i) && !(q.1 + 1 == i && q.2.category == 2)) = lv2) (h : JdF p l e R s m args below meth c nL Q A dC dI cy Λ ad (k0) (mem) (fl) (ce) (sl) (pc + 1) (lv2) (st)) : JdF p l e R s m args below meth c nL Q A dC dI cy Λ ad (k0) (mem) (fl) (ce) (sl) (pc) (lv) (.int x :: st) := fun H locs ls hP hD hS hL => lv_istore_n X.1 X.2.1 hd hi hL hn hl (fun ls hL => h H locs ls hP hD hS hL)
theorem n_aload_n (X : Cx p l e R s m args below meth c cc nL own ret A dC dI cy ks) {k : Fin 4} {i : Nat} {x : Nat} (hd : decode cc pc = .ok (.aload_n k, 1)) (hi : (k : Nat) = i) (q : Nat) (hl : lv[q]? = some (i, .ref x)) (h : JdF p l e R s m args below meth c nL Q A dC dI cy Λ ad (k0) (mem) (fl) (ce) (sl) (pc + 1) (lv) (.ref x :: st)) : JdF p l e R s m args below meth c nL Q A dC dI cy Λ ad (k0) (mem) (fl) (ce) (sl) (pc) (lv) (st) := fun H locs ls hP hD hS hL => lv_aload_n X.1 X.2.1 hd hi (lv_at hL q hl) (h H locs ls hP hD hS hL)
theorem n_astore_n (X : Cx p l e R s m args below meth c cc nL own ret A dC dI cy ks) {k : Fin 4} {i : Nat} {x : Nat} {lv2 : List (Nat × Value)} (hd : decode cc pc = .ok (.astore_n k, 1)) (hi : (k : Nat) = i) (hn : i < nL) (hl : (i, Value.ref x) :: lv.filter (fun q => !(q.1 == i) && !(q.1 + 1 == i && q.2.category == 2)) = lv2) (h : JdF p l e R s m args below meth c nL Q A dC dI cy Λ ad (k0) (mem) (fl) (ce) (sl) (pc + 1) (lv2) (st)) : JdF p l e R s m args below meth c nL Q A dC dI cy Λ ad (k0) (mem) (fl) (ce) (sl) (pc) (lv) (.ref x :: st) := fun H locs ls hP hD hS hL => lv_astore_n X.1 X.2.1 hd hi hL hn hl (fun ls hL => h H locs ls hP hD hS hL)
theorem n_iinc (X : Cx p l e R s m args below meth c cc nL own ret A dC dI cy ks) {i : Nat} {n : Int} {x v : Int32} {lv2 : List (Nat × Value)} (hd : decode cc pc = .ok (.iinc i n, 3)) (k : Nat) (hk : lv[k]? = some (i, .int x)) (hv : x + Int32.ofInt n = v) (hn : i < nL) (hl : (i, Value.int v) :: lv.filter (fun q => !(q.1 == i) && !(q.1 + 1 == i && q.2.category == 2)) = lv2) (h : JdF p l e R s m args below meth c nL Q A dC dI cy Λ ad (k0) (mem) (fl) (ce) (sl) (pc + 3) (lv2) (st)) : JdF p l e R s m args below meth c nL Q A dC dI cy Λ ad (k0) (mem) (fl) (ce) (sl) (pc) (lv) (st) := fun H locs ls hP hD hS hL => lv_iinc X.1 X.2.1 hd hL hk hv hn hl (fun ls hL => h H locs ls hP hD hS hL)
theorem n_iconst (X : Cx p l e R s m args below meth c cc nL own ret A dC dI cy ks) {n : Int} {v : Int32} (hd : decode cc pc = .ok (.iconst n, 1)) (hv : Int32.ofInt n = v) (h : JdF p l e R s m args below meth c nL Q A dC dI cy Λ ad (k0) (mem) (fl) (ce) (sl) (pc + 1) (lv) (.int v :: st)) : JdF p l e R s m args below meth c nL Q A dC dI cy Λ ad (k0) (mem) (fl) (ce) (sl) (pc) (lv) (st) := fun H locs ls hP hD hS hL => lv_iconst X.1 X.2.1 hd hv (h H locs ls hP hD hS hL)
theorem n_bipush (X : Cx p l e R s m args below meth c cc nL own ret A dC dI cy ks) {n : Int} {v : Int32} (hd : decode cc pc = .ok (.bipush n, 2)) (hv : (Int8.ofInt n).toInt32 = v) (h : JdF p l e R s m args below meth c nL Q A dC dI cy Λ ad (k0) (mem) (fl) (ce) (sl) (pc + 2) (lv) (.int v :: st)) : JdF p l e R s m args below meth c nL Q A dC dI cy Λ ad (k0) (mem) (fl) (ce) (sl) (pc) (lv) (st) := fun H locs ls hP hD hS hL => lv_bipush X.1 X.2.1 hd hv (h H locs ls hP hD hS hL)
theorem n_sipush (X : Cx p l e R s m args below meth c cc nL own ret A dC dI cy ks) {n : Int} {v : Int32} (hd : decode cc pc = .ok (.sipush n, 3)) (hv : (Int16.ofInt n).toInt32 = v) (h : JdF p l e R s m args below meth c nL Q A dC dI cy Λ ad (k0) (mem) (fl) (ce) (sl) (pc + 3) (lv) (.int v :: st)) : JdF p l e R s m args below meth c nL Q A dC dI cy Λ ad (k0) (mem) (fl) (ce) (sl) (pc) (lv) (st) := fun H locs ls hP hD hS hL => lv_sipush X.1 X.2.1 hd hv (h H locs ls hP hD hS hL)
theorem n_dup (X : Cx p l e R s m args below meth c cc nL own ret A dC dI cy ks) {va : Value} (hd : decode cc pc = .ok (.dup, 1)) (hva : va.category = 1) (h : JdF p l e R s m args below meth c nL Q A dC dI cy Λ ad (k0) (mem) (fl) (ce) (sl) (pc + 1) (lv) (va :: va :: st)) : JdF p l e R s m args below meth c nL Q A dC dI cy Λ ad (k0) (mem) (fl) (ce) (sl) (pc) (lv) (va :: st) := fun H locs ls hP hD hS hL => lv_dup X.1 X.2.1 hd hva (h H locs ls hP hD hS hL)
theorem n_goto (X : Cx p l e R s m args below meth c cc nL own ret A dC dI cy ks) {off : Int} {tgt : Nat} (hd : decode cc pc = .ok (.goto off, 3)) (ht : (pc : Int) + off = (tgt : Int)) (h : JdF p l e R s m args below meth c nL Q A dC dI cy Λ ad (k0) (mem) (fl) (ce) (sl) (tgt) (lv) (st)) : JdF p l e R s m args below meth c nL Q A dC dI cy Λ ad (k0) (mem) (fl) (ce) (sl) (pc) (lv) (st) := fun H locs ls hP hD hS hL => lv_goto X.1 X.2.1 hd ht (h H locs ls hP hD hS hL)
theorem n_icmp_ge_t (X : Cx p l e R s m args below meth c cc nL own ret A dC dI cy ks) {x y : Int32} {off : Int} {tgt : Nat} (hd : decode cc pc = .ok (.if_icmp .ge off, 3)) (ht : (pc : Int) + off = (tgt : Int)) (hc : y ≤ x) (h : JdF p l e R s m args below meth c nL Q A dC dI cy Λ ad (k0) (mem) (fl) (ce) (sl) (tgt) (lv) (st)) : JdF p l e R s m args below meth c nL Q A dC dI cy Λ ad (k0) (mem) (fl) (ce) (sl) (pc) (lv) (.int y :: .int x :: st) := fun H locs ls hP hD hS hL => lv_icmp_ge X.1 X.2.1 hd ht (fun _ => h H locs ls hP hD hS hL) (fun q => absurd hc q)
theorem n_icmp_ge_f (X : Cx p l e R s m args below meth c cc nL own ret A dC dI cy ks) {x y : Int32} {off : Int} {tgt : Nat} (hd : decode cc pc = .ok (.if_icmp .ge off, 3)) (ht : (pc : Int) + off = (tgt : Int)) (hc : ¬ y ≤ x) (h : JdF p l e R s m args below meth c nL Q A dC dI cy Λ ad (k0) (mem) (fl) (ce) (sl) (pc + 3) (lv) (st)) : JdF p l e R s m args below meth c nL Q A dC dI cy Λ ad (k0) (mem) (fl) (ce) (sl) (pc) (lv) (.int y :: .int x :: st) := fun H locs ls hP hD hS hL => lv_icmp_ge X.1 X.2.1 hd ht (fun q => absurd q hc) (fun _ => h H locs ls hP hD hS hL)
theorem n_obj (X : Cx p l e R s m args below meth c cc nL own ret A dC dI cy ks) {idx a : Nat} (w1 : Cond.methodLink own idx Lib.objectInit ∈ uw) (w2 : Cond.instanceMethod Lib.objectInit ∈ uw) (w3 : Cond.code Lib.objectInit ⟨#[0xb1]⟩ 1 none ∈ uw) (hd : decode cc pc = .ok (.invokespecial idx, 3)) (hf : 1 ≤ R.frames) (hlo : (st.map fun v => v.category).sum + 12 ≤ R.locals) (h : JdF p l e R s m args below meth c nL Q A dC dI cy Λ ad (k0) (mem) (fl) (ce) (sl) (pc + 3) (lv) (st)) : JdF p l e R s m args below meth c nL Q A dC dI cy Λ ad (k0) (mem) (fl) (ce) (sl) (pc) (lv) (.ref a :: st) :=
  fun H locs ls hP hD hS hL => W.objInit X.1 X.2.1 X.2.2.2.1 (X.2.2.2.2.1 _ w1) (X.2.2.2.2.1 _ w2) (X.2.2.2.2.1 _ w3) rfl (hL.1.trans X.2.2.1.symm) rfl hd hf (by simpa [JFrame.monitorRoom] using hlo) (h H locs ls hP hD hS hL)
theorem n_putI (X : Cx p l e R s m args below meth c cc nL own ret A dC dI cy ks) {i c2 k index : Nat} {C : String} {T : u_T} {Nf : Nat} {v : Int32} {ty0 : Nat → FieldType}  (hN : i < k0) (hk : Λ.1 i = c2) (hc : vwCl[c2]? = some (C, T, Nf)) (h13 : c2 < 13) (hin : ∀ w ∈ u_ws C T Nf, w ∈ uw) (hkN : k < Nf) (hlk : Cond.fieldLink own index (T k).1 (T k).2.1 (T k).2.2.1 ∈ uw) (hty : ∀ k, k < Nf → parseFieldDescriptor (T k).2.2.1 = some (ty0 k)) (hnm : ∀ a, a < Nf → ∀ b, b < Nf → a ≠ b → (T a).2.1 ≠ (T b).2.1) (hfin : (T k).2.2.2 = false) (hde : parseFieldDescriptor (T k).2.2.1 = some .int)  (ht : (fcl c2)[k]? = some 0) (hd : decode cc pc = .ok (.putfield index, 3)) (h : JdF p l e R s m args below meth c nL Q A dC dI cy Λ ad (k0) (sI mem i k v) (fl) (ce) (sl) (pc + 3) (lv) (st)) : JdF p l e R s m args below meth c nL Q A dC dI cy Λ ad (k0) (mem) (fl) (ce) (sl) (pc) (lv) (.int v :: .ref (ad i) :: st) := by
  intro H locs ls hP hD hS hL
  refine va_put X.1 X.2.1 X.2.2.2.2.1 hin ty0 hty hnm X.2.2.2.1 X.2.2.2.2.2.1 hP hD hS i ((wlF_get ad cy mem fl hN).trans (congrArg (fun z => some (ad i, z)) (celF_O ad cy mem fl hk h13))) hc k hkN (X.2.2.2.2.1 _ hlk) (fun _ h9 => h9) hfin hde rfl rfl (fsF_len ad mem fl c2 i ht) hd (fun H1 locs hP hD hS => ?_)
  rw [fsF_set (m' := sI mem i k v) (fl' := fl) (fun t q => by cases (Option.some.inj (ht.symm.trans q)); simp [slF, slv, gI_sI]) (fun j t q => by simp only [slF, slv_I ad mem c2 i j i k v t (fun z => q z.2)]), wlF_set hN (celF_O ad cy _ _ hk h13) (fun j q => celF_cong (fun z => by rw [gI_sI, if_neg (fun y => q y.1)]) (fun z => gJ_sI _ _ _ _ _ _) (fun z => gR_sI _ _ _ _ _ _) (fun _ => rfl))] at hP hD
  exact h H1 locs ls hP hD hS hL
theorem n_putZF (X : Cx p l e R s m args below meth c cc nL own ret A dC dI cy ks) {i c2 k index : Nat} {C : String} {T : u_T} {Nf : Nat} {v : Int32} {ty0 : Nat → FieldType}  (hN : i < k0) (hk : Λ.1 i = c2) (hc : vwCl[c2]? = some (C, T, Nf)) (h13 : c2 < 13) (hin : ∀ w ∈ u_ws C T Nf, w ∈ uw) (hkN : k < Nf) (hlk : Cond.fieldLink own index (T k).1 (T k).2.1 (T k).2.2.1 ∈ uw) (hty : ∀ k, k < Nf → parseFieldDescriptor (T k).2.2.1 = some (ty0 k)) (hnm : ∀ a, a < Nf → ∀ b, b < Nf → a ≠ b → (T a).2.1 ≠ (T b).2.1) (hfin : (T k).2.2.2 = true) (hmn : meth.name = "<init>") (hdecl : (T k).1 = own) (hde : parseFieldDescriptor (T k).2.2.1 = some .boolean) (hz9 : bok v = true) (ht : (fcl c2)[k]? = some 0) (hd : decode cc pc = .ok (.putfield index, 3)) (h : JdF p l e R s m args below meth c nL Q A dC dI cy Λ ad (k0) (sI mem i k v) (fl) (ce) (sl) (pc + 3) (lv) (st)) : JdF p l e R s m args below meth c nL Q A dC dI cy Λ ad (k0) (mem) (fl) (ce) (sl) (pc) (lv) (.int v :: .ref (ad i) :: st) := by
  intro H locs ls hP hD hS hL
  refine va_putF X.1 X.2.1 X.2.2.2.2.1 hin ty0 hty hnm X.2.2.2.1 X.2.2.2.2.2.1 hP hD hS i ((wlF_get ad cy mem fl hN).trans (congrArg (fun z => some (ad i, z)) (celF_O ad cy mem fl hk h13))) hc k hkN (X.2.2.2.2.1 _ hlk) (fun _ h9 => h9) hfin hmn hdecl hde (bok_nar hz9) (bok_fit hz9) (fsF_len ad mem fl c2 i ht) hd (fun H1 locs hP hD hS => ?_)
  rw [fsF_set (m' := sI mem i k v) (fl' := fl) (fun t q => by cases (Option.some.inj (ht.symm.trans q)); simp [slF, slv, gI_sI]) (fun j t q => by simp only [slF, slv_I ad mem c2 i j i k v t (fun z => q z.2)]), wlF_set hN (celF_O ad cy _ _ hk h13) (fun j q => celF_cong (fun z => by rw [gI_sI, if_neg (fun y => q y.1)]) (fun z => gJ_sI _ _ _ _ _ _) (fun z => gR_sI _ _ _ _ _ _) (fun _ => rfl))] at hP hD
  exact h H1 locs ls hP hD hS hL
theorem n_putF (X : Cx p l e R s m args below meth c cc nL own ret A dC dI cy ks) {i c2 k index : Nat} {C : String} {T : u_T} {Nf : Nat} {v of : Nat} {ty0 : Nat → FieldType} {tyv : FieldType} (hN : i < k0) (hk : Λ.1 i = c2) (hc : vwCl[c2]? = some (C, T, Nf)) (h13 : c2 < 13) (hin : ∀ w ∈ u_ws C T Nf, w ∈ uw) (hkN : k < Nf) (hlk : Cond.fieldLink own index (T k).1 (T k).2.1 (T k).2.2.1 ∈ uw) (hty : ∀ k, k < Nf → parseFieldDescriptor (T k).2.2.1 = some (ty0 k)) (hnm : ∀ a, a < Nf → ∀ b, b < Nf → a ≠ b → (T a).2.1 ≠ (T b).2.1) (hfin : (T k).2.2.2 = true) (hmn : meth.name = "<init>") (hdecl : (T k).1 = own) (hde : parseFieldDescriptor (T k).2.2.1 = some tyv) (hof : (ofl c2).getD k 0 = of) (hv : i + of = v) (hnar : narrow tyv (.ref (ad v)) = .ref (ad v)) (hfit : fits tyv (.ref (ad v)) = true) (ht : (fcl c2)[k]? = some 2) (hd : decode cc pc = .ok (.putfield index, 3)) (h : JdF p l e R s m args below meth c nL Q A dC dI cy Λ ad (k0) (mem) (fS fl i k) (ce) (sl) (pc + 3) (lv) (st)) : JdF p l e R s m args below meth c nL Q A dC dI cy Λ ad (k0) (mem) (fl) (ce) (sl) (pc) (lv) (.ref (ad v) :: .ref (ad i) :: st) := by
  intro H locs ls hP hD hS hL
  refine va_putF X.1 X.2.1 X.2.2.2.2.1 hin ty0 hty hnm X.2.2.2.1 X.2.2.2.2.2.1 hP hD hS i ((wlF_get ad cy mem fl hN).trans (congrArg (fun z => some (ad i, z)) (celF_O ad cy mem fl hk h13))) hc k hkN (X.2.2.2.2.1 _ hlk) (fun _ h9 => h9) hfin hmn hdecl hde hnar hfit (fsF_len ad mem fl c2 i ht) hd (fun H1 locs hP hD hS => ?_)
  rw [fsF_set (m' := mem) (fl' := fS fl i k) (fun t q => by cases (Option.some.inj (ht.symm.trans q)); subst hv; subst hof; simp [slF, slv, fS]) (fun j t q => by simp only [slF, fS_ne (fun y => q y.2)]), wlF_set hN (celF_O ad cy _ _ hk h13) (fun j q => celF_cong (fun _ => rfl) (fun _ => rfl) (fun _ => rfl) (fun z => fS_ne (fun y => q y.1)))] at hP hD
  exact h H1 locs ls hP hD hS hL
theorem n_putB (X : Cx p l e R s m args below meth c cc nL own ret A dC dI cy ks) {i c2 k index : Nat} {C : String} {T : u_T} {Nf : Nat} {v of : Nat} {ty0 : Nat → FieldType} {tyv : FieldType} (hN : i < k0) (hk : Λ.1 i = c2) (hc : vwCl[c2]? = some (C, T, Nf)) (h13 : c2 < 13) (hin : ∀ w ∈ u_ws C T Nf, w ∈ uw) (hkN : k < Nf) (hlk : Cond.fieldLink own index (T k).1 (T k).2.1 (T k).2.2.1 ∈ uw) (hty : ∀ k, k < Nf → parseFieldDescriptor (T k).2.2.1 = some (ty0 k)) (hnm : ∀ a, a < Nf → ∀ b, b < Nf → a ≠ b → (T a).2.1 ≠ (T b).2.1) (hfin : (T k).2.2.2 = true) (hmn : meth.name = "<init>") (hdecl : (T k).1 = own) (hde : parseFieldDescriptor (T k).2.2.1 = some tyv) (hof : (ofl c2).getD k 0 = of) (hv : i - of = v) (hnar : narrow tyv (.ref (ad v)) = .ref (ad v)) (hfit : fits tyv (.ref (ad v)) = true) (ht : (fcl c2)[k]? = some 4) (hd : decode cc pc = .ok (.putfield index, 3)) (h : JdF p l e R s m args below meth c nL Q A dC dI cy Λ ad (k0) (mem) (fS fl i k) (ce) (sl) (pc + 3) (lv) (st)) : JdF p l e R s m args below meth c nL Q A dC dI cy Λ ad (k0) (mem) (fl) (ce) (sl) (pc) (lv) (.ref (ad v) :: .ref (ad i) :: st) := by
  intro H locs ls hP hD hS hL
  refine va_putF X.1 X.2.1 X.2.2.2.2.1 hin ty0 hty hnm X.2.2.2.1 X.2.2.2.2.2.1 hP hD hS i ((wlF_get ad cy mem fl hN).trans (congrArg (fun z => some (ad i, z)) (celF_O ad cy mem fl hk h13))) hc k hkN (X.2.2.2.2.1 _ hlk) (fun _ h9 => h9) hfin hmn hdecl hde hnar hfit (fsF_len ad mem fl c2 i ht) hd (fun H1 locs hP hD hS => ?_)
  rw [fsF_set (m' := mem) (fl' := fS fl i k) (fun t q => by cases (Option.some.inj (ht.symm.trans q)); subst hv; subst hof; simp [slF, slv, fS]) (fun j t q => by simp only [slF, fS_ne (fun y => q y.2)]), wlF_set hN (celF_O ad cy _ _ hk h13) (fun j q => celF_cong (fun _ => rfl) (fun _ => rfl) (fun _ => rfl) (fun z => fS_ne (fun y => q y.1)))] at hP hD
  exact h H1 locs ls hP hD hS hL
theorem n_putM (X : Cx p l e R s m args below meth c cc nL own ret A dC dI cy ks) {i c2 k index : Nat} {C : String} {T : u_T} {Nf : Nat} {v : Nat} {cn : String} {ty0 : Nat → FieldType}  (hN : i < k0) (hk : Λ.1 i = c2) (hc : vwCl[c2]? = some (C, T, Nf)) (h13 : c2 < 13) (hin : ∀ w ∈ u_ws C T Nf, w ∈ uw) (hkN : k < Nf) (hlk : Cond.fieldLink own index (T k).1 (T k).2.1 (T k).2.2.1 ∈ uw) (hty : ∀ k, k < Nf → parseFieldDescriptor (T k).2.2.1 = some (ty0 k)) (hnm : ∀ a, a < Nf → ∀ b, b < Nf → a ≠ b → (T a).2.1 ≠ (T b).2.1) (hfin : (T k).2.2.2 = false) (hde : parseFieldDescriptor (T k).2.2.1 = some (.object cn))  (ht : (fcl c2)[k]? = some 3) (hd : decode cc pc = .ok (.putfield index, 3)) (h : JdF p l e R s m args below meth c nL Q A dC dI cy Λ ad (k0) (sR mem i k v) (fS fl i k) (ce) (sl) (pc + 3) (lv) (st)) : JdF p l e R s m args below meth c nL Q A dC dI cy Λ ad (k0) (mem) (fl) (ce) (sl) (pc) (lv) (.ref (ad v) :: .ref (ad i) :: st) := by
  intro H locs ls hP hD hS hL
  refine va_put X.1 X.2.1 X.2.2.2.2.1 hin ty0 hty hnm X.2.2.2.1 X.2.2.2.2.2.1 hP hD hS i ((wlF_get ad cy mem fl hN).trans (congrArg (fun z => some (ad i, z)) (celF_O ad cy mem fl hk h13))) hc k hkN (X.2.2.2.2.1 _ hlk) (fun _ h9 => h9) hfin hde rfl rfl (fsF_len ad mem fl c2 i ht) hd (fun H1 locs hP hD hS => ?_)
  rw [fsF_set (m' := sR mem i k v) (fl' := fS fl i k) (fun t q => by cases (Option.some.inj (ht.symm.trans q)); simp [slF, slv, fS, gR_sR]) (fun j t q => by simp only [slF, slv_R ad mem c2 i j i k v t (fun z => q z.2), fS_ne (fun y => q y.2)]), wlF_set hN (celF_O ad cy _ _ hk h13) (fun j q => celF_cong (fun z => gI_sR _ _ _ _ _ _) (fun z => gJ_sR _ _ _ _ _ _) (fun z => by rw [gR_sR, if_neg (fun y => q y.1)]) (fun z => fS_ne (fun y => q y.1)))] at hP hD
  exact h H1 locs ls hP hD hS hL
theorem fsF_get (ad : Nat → Nat) (m : Mm) (fl : Fl) (c i : Nat) {k t : Nat} (h : (fcl c)[k]? = some t) : ((fcl c).mapIdx (fun k t => slF ad m fl c i k t))[k]? = some (slF ad m fl c i k t) := by rw [List.getElem?_mapIdx, h]; rfl
theorem n_getF (X : Cx p l e R s m args below meth c cc nL own ret A dC dI cy ks) {i c2 k index : Nat} {C : String} {T : u_T} {Nf : Nat} {v of : Nat} (hof : (ofl c2).getD k 0 = of) (hv : i + of = v) (hN : i < k0) (hk : Λ.1 i = c2) (hc : vwCl[c2]? = some (C, T, Nf)) (h13 : c2 < 13) (hin : ∀ w ∈ u_ws C T Nf, w ∈ uw) (hkN : k < Nf) (hlk : Cond.fieldLink own index (T k).1 (T k).2.1 (T k).2.2.1 ∈ uw) (hfg : fl i k = true) (ht : (fcl c2)[k]? = some 2) (hd : decode cc pc = .ok (.getfield index, 3)) (h : JdF p l e R s m args below meth c nL Q A dC dI cy Λ ad (k0) (mem) (fl) (ce) (sl) (pc + 3) (lv) (.ref (ad v) :: st)) : JdF p l e R s m args below meth c nL Q A dC dI cy Λ ad (k0) (mem) (fl) (ce) (sl) (pc) (lv) (.ref (ad i) :: st) :=
  fun H locs ls hP hD hS hL => va_get X.1 X.2.1 X.2.2.2.2.1 hin X.2.2.2.1 X.2.2.2.2.2.1 hP i ((wlF_get ad cy mem fl hN).trans (congrArg (fun z => some (ad i, z)) (celF_O ad cy mem fl hk h13))) hc k hkN (X.2.2.2.2.1 _ hlk) (fun _ h9 => h9) ((fsF_get ad mem fl c2 i ht).trans (congrArg some (by subst hv; subst hof; simp [slF, slv, hfg]))) hd (h H locs ls hP hD hS hL)
theorem n_getM (X : Cx p l e R s m args below meth c cc nL own ret A dC dI cy ks) {i c2 k index : Nat} {C : String} {T : u_T} {Nf : Nat} {v : Nat} (hv : gR mem i k = v) (hN : i < k0) (hk : Λ.1 i = c2) (hc : vwCl[c2]? = some (C, T, Nf)) (h13 : c2 < 13) (hin : ∀ w ∈ u_ws C T Nf, w ∈ uw) (hkN : k < Nf) (hlk : Cond.fieldLink own index (T k).1 (T k).2.1 (T k).2.2.1 ∈ uw) (hfg : fl i k = true) (ht : (fcl c2)[k]? = some 3) (hd : decode cc pc = .ok (.getfield index, 3)) (h : JdF p l e R s m args below meth c nL Q A dC dI cy Λ ad (k0) (mem) (fl) (ce) (sl) (pc + 3) (lv) (.ref (ad v) :: st)) : JdF p l e R s m args below meth c nL Q A dC dI cy Λ ad (k0) (mem) (fl) (ce) (sl) (pc) (lv) (.ref (ad i) :: st) :=
  fun H locs ls hP hD hS hL => va_get X.1 X.2.1 X.2.2.2.2.1 hin X.2.2.2.1 X.2.2.2.2.2.1 hP i ((wlF_get ad cy mem fl hN).trans (congrArg (fun z => some (ad i, z)) (celF_O ad cy mem fl hk h13))) hc k hkN (X.2.2.2.2.1 _ hlk) (fun _ h9 => h9) ((fsF_get ad mem fl c2 i ht).trans (congrArg some (by subst hv; simp [slF, slv, hfg]))) hd (h H locs ls hP hD hS hL)
theorem arrV_cong {cA : ClassId} {N : Nat} {f g : Nat → Value} (h : ∀ j, j < N → f j = g j) : arrV cA N f = arrV cA N g := by
  unfold arrV
  congr 1
  apply Array.ext
  · simp
  · intro i h1 h2
    simp only [Array.getElem_ofFn]
    exact h i (by simpa using h1)

theorem w_size {H : Heap} {locs : List Loc} {g : JFrame} (h : H.size ≤ s.heap.size + ce → W p l e R s m args below meth c H locs ce sl Q g) : W p l e R s m args below meth c H locs ce sl Q g := fun T hT X => h (by rw [← hT]; exact X.same.2.2.1) T hT X
theorem sz_eq {D : va_G} {H : Heap} (hpos : 0 < k0) (had : ∀ i, ad i = ad 0 + i) (hsz : s.heap.size + ce = ad k0) (hP : va_P D vwCl (wlF Λ ad cy mem fl k0) H) (hle : H.size ≤ s.heap.size + ce) : H.size = ad k0 := by
  have h1 := (hP (k0 - 1) _ (wlF_get ad cy mem fl (Nat.sub_lt hpos (by decide)))).lt
  have h2 := had k0
  have h3 := had (k0 - 1)
  have h4 : ad (k0 - 1) < H.size := h1
  omega
theorem al_P {D : va_G} {H H1 : Heap} {locs : List Loc} {mem' : Mm} {fl' : Fl} {n : Nat} (had : ∀ i, ad i = ad 0 + i) (hP : va_P D vwCl (wlF Λ ad cy mem fl k0) H) (hD : va_D A (wlF Λ ad cy mem fl k0)) (hS : va_S A s.heap H locs) (hA : ∀ q : Nat, s.heap.size ≤ q → A q) (hz : H.size = ad k0) (z1 : H1.size = ad k0 + n) (o1 : ∀ q, q < ad k0 → H1[q]? = H[q]?) (hat : ∀ i, i < n → va_at D vwCl (ad (k0 + i), celF Λ ad cy mem' fl' (k0 + i)) H1) (ho : ∀ j, j < k0 → celF Λ ad cy mem' fl' j = celF Λ ad cy mem fl j) : va_P D vwCl (wlF Λ ad cy mem' fl' (k0 + n)) H1 ∧ va_D A (wlF Λ ad cy mem' fl' (k0 + n)) ∧ va_S A s.heap H1 locs := by
  have key : ∀ (j : Nat) (q : Nat × va_E), (wlF Λ ad cy mem' fl' (k0 + n))[j]? = some q → j < k0 + n ∧ q = (ad j, celF Λ ad cy mem' fl' j) := by
    intro j q hq
    by_cases hj : j < k0 + n
    · rw [wlF_get ad cy mem' fl' hj] at hq
      exact ⟨hj, (Option.some.inj hq).symm⟩
    · simp [wlF, hj] at hq
  refine ⟨fun j q hq => ?_, ⟨fun i j p q hi hj hpq => ?_, fun j q hq => ?_⟩, ?_⟩
  · obtain ⟨hj, rfl⟩ := key j q hq
    by_cases h0 : j < k0
    · rw [ho j h0]
      have h1 := hP j _ (wlF_get ad cy mem fl h0)
      exact h1.kept (o1 _ (by have := had j; have := had k0; show ad j < ad k0; omega))
    · have := hat (j - k0) (by omega)
      rw [show k0 + (j - k0) = j by omega] at this
      exact this
  · obtain ⟨h1, rfl⟩ := key i p hi
    obtain ⟨h2, rfl⟩ := key j q hj
    have hpq : ad i = ad j := hpq
    have := had i
    have := had j
    omega
  · obtain ⟨hj, rfl⟩ := key j q hq
    by_cases h0 : j < k0
    · exact (show A (ad j) from hD.2 j _ (wlF_get (Λ := Λ) ad cy mem fl h0))
    · refine hA _ ?_
      have := hS.1
      have := had j
      have := had k0
      show s.heap.size ≤ ad j
      omega
  · refine ⟨Nat.le_trans hS.1 (by omega), fun x h1 h2 => ?_, hS.2.2⟩
    rw [o1 x (by have := hS.1; omega)]
    exact hS.2.1 x h1 h2
theorem n_newaI (X : Cx p l e R s m args below meth c cc nL own ret A dC dI cy ks) {n : Int32} {N : Nat} (hpos : 0 < k0) (had : ∀ i, ad i = ad 0 + i) (hsz : s.heap.size + ce = ad k0) (hk : Λ.1 k0 = 14) (hl : Λ.2.1 k0 = N) (hn : ¬ n < 0) (hN : n.toNatClampNeg = N) (w9 : Cond.arrayClass .int ∈ uw) (hby : N * 4 ≤ 536870912) (hce : ce + 1 ≤ R.cells) (hsl : sl + N ≤ R.slots) (hd : decode cc pc = .ok (.newarray .int, 2)) (h : JdF p l e R s m args below meth c nL Q A dC dI cy Λ ad (k0 + 1) (zr mem k0) (fZ fl k0 N) (ce + 1) (sl + N) (pc + 2) (lv) (.ref (ad k0) :: st)) : JdF p l e R s m args below meth c nL Q A dC dI cy Λ ad (k0) (mem) (fl) (ce) (sl) (pc) (lv) (.int n :: st) := by
  intro H locs ls hP hD hS hL
  refine w_size (fun hle => ?_)
  have hz : H.size = ad k0 := sz_eq hpos had hsz hP hle
  refine va_newaK (atype := .int) X.1 X.2.1 (X.2.2.2.2.1 _ w9) rfl hd rfl hn hN hby hce hsl hz fun H1 cA e1 z1 o1 hAr hNm => ?_
  have hcA : cA = cy 14 := Option.some.inj (hNm.symm.trans (X.2.2.2.2.2.1.2 1 _ rfl).2)
  subst hcA
  obtain ⟨q1, q2, q3⟩ := al_P (mem' := zr mem k0) (fl' := fZ fl k0 N) (n := 1) had hP hD hS X.2.2.2.2.2.2.2.1 hz z1 o1 (fun i hi => by
    rw [show i = 0 by omega]
    show va_at _ _ (ad k0, celF Λ ad cy (zr mem k0) (fZ fl k0 N) k0) H1
    rw [celF_I ad cy _ _ hk (by decide)]
    show H1[ad k0]? = some (vp_cell _ _)
    rw [e1, hl]
    exact congrArg some (arrV_cong (g := fun j => Value.int (gI (zr mem k0) k0 j)) (fun j _ => by rw [gI_zr, if_pos rfl]; rfl))) (fun j hj => cF_zr (by omega))
  exact h H1 locs ls q1 q2 q3 hL
theorem n_newaB (X : Cx p l e R s m args below meth c cc nL own ret A dC dI cy ks) {n : Int32} {N : Nat} (hpos : 0 < k0) (had : ∀ i, ad i = ad 0 + i) (hsz : s.heap.size + ce = ad k0) (hk : Λ.1 k0 = 13) (hl : Λ.2.1 k0 = N) (hn : ¬ n < 0) (hN : n.toNatClampNeg = N) (w9 : Cond.arrayClass .byte ∈ uw) (hby : N * 1 ≤ 536870912) (hce : ce + 1 ≤ R.cells) (hsl : sl + N ≤ R.slots) (hd : decode cc pc = .ok (.newarray .byte, 2)) (h : JdF p l e R s m args below meth c nL Q A dC dI cy Λ ad (k0 + 1) (zr mem k0) (fZ fl k0 N) (ce + 1) (sl + N) (pc + 2) (lv) (.ref (ad k0) :: st)) : JdF p l e R s m args below meth c nL Q A dC dI cy Λ ad (k0) (mem) (fl) (ce) (sl) (pc) (lv) (.int n :: st) := by
  intro H locs ls hP hD hS hL
  refine w_size (fun hle => ?_)
  have hz : H.size = ad k0 := sz_eq hpos had hsz hP hle
  refine va_newaK (atype := .byte) X.1 X.2.1 (X.2.2.2.2.1 _ w9) rfl hd rfl hn hN hby hce hsl hz fun H1 cA e1 z1 o1 hAr hNm => ?_
  have hcA : cA = cy 13 := Option.some.inj (hNm.symm.trans (X.2.2.2.2.2.1.2 0 _ rfl).2)
  subst hcA
  obtain ⟨q1, q2, q3⟩ := al_P (mem' := zr mem k0) (fl' := fZ fl k0 N) (n := 1) had hP hD hS X.2.2.2.2.2.2.2.1 hz z1 o1 (fun i hi => by
    rw [show i = 0 by omega]
    show va_at _ _ (ad k0, celF Λ ad cy (zr mem k0) (fZ fl k0 N) k0) H1
    rw [celF_I ad cy _ _ hk (by decide)]
    show H1[ad k0]? = some (vp_cell _ _)
    rw [e1, hl]
    exact congrArg some (arrV_cong (g := fun j => Value.int (gI (zr mem k0) k0 j)) (fun j _ => by rw [gI_zr, if_pos rfl]; rfl))) (fun j hj => cF_zr (by omega))
  exact h H1 locs ls q1 q2 q3 hL
theorem n_newaZ (X : Cx p l e R s m args below meth c cc nL own ret A dC dI cy ks) {n : Int32} {N : Nat} (hpos : 0 < k0) (had : ∀ i, ad i = ad 0 + i) (hsz : s.heap.size + ce = ad k0) (hk : Λ.1 k0 = 16) (hl : Λ.2.1 k0 = N) (hn : ¬ n < 0) (hN : n.toNatClampNeg = N) (w9 : Cond.arrayClass .boolean ∈ uw) (hby : N * 1 ≤ 536870912) (hce : ce + 1 ≤ R.cells) (hsl : sl + N ≤ R.slots) (hd : decode cc pc = .ok (.newarray .boolean, 2)) (h : JdF p l e R s m args below meth c nL Q A dC dI cy Λ ad (k0 + 1) (zr mem k0) (fZ fl k0 N) (ce + 1) (sl + N) (pc + 2) (lv) (.ref (ad k0) :: st)) : JdF p l e R s m args below meth c nL Q A dC dI cy Λ ad (k0) (mem) (fl) (ce) (sl) (pc) (lv) (.int n :: st) := by
  intro H locs ls hP hD hS hL
  refine w_size (fun hle => ?_)
  have hz : H.size = ad k0 := sz_eq hpos had hsz hP hle
  refine va_newaK (atype := .boolean) X.1 X.2.1 (X.2.2.2.2.1 _ w9) rfl hd rfl hn hN hby hce hsl hz fun H1 cA e1 z1 o1 hAr hNm => ?_
  have hcA : cA = cy 16 := Option.some.inj (hNm.symm.trans (X.2.2.2.2.2.1.2 3 _ rfl).2)
  subst hcA
  obtain ⟨q1, q2, q3⟩ := al_P (mem' := zr mem k0) (fl' := fZ fl k0 N) (n := 1) had hP hD hS X.2.2.2.2.2.2.2.1 hz z1 o1 (fun i hi => by
    rw [show i = 0 by omega]
    show va_at _ _ (ad k0, celF Λ ad cy (zr mem k0) (fZ fl k0 N) k0) H1
    rw [celF_I ad cy _ _ hk (by decide)]
    show H1[ad k0]? = some (vp_cell _ _)
    rw [e1, hl]
    exact congrArg some (arrV_cong (g := fun j => Value.int (gI (zr mem k0) k0 j)) (fun j _ => by rw [gI_zr, if_pos rfl]; rfl))) (fun j hj => cF_zr (by omega))
  exact h H1 locs ls q1 q2 q3 hL
theorem n_newaJ (X : Cx p l e R s m args below meth c cc nL own ret A dC dI cy ks) {n : Int32} {N : Nat} (hpos : 0 < k0) (had : ∀ i, ad i = ad 0 + i) (hsz : s.heap.size + ce = ad k0) (hk : Λ.1 k0 = 15) (hl : Λ.2.1 k0 = N) (hn : ¬ n < 0) (hN : n.toNatClampNeg = N) (w9 : Cond.arrayClass .long ∈ uw) (hby : N * 8 ≤ 536870912) (hce : ce + 1 ≤ R.cells) (hsl : sl + N ≤ R.slots) (hd : decode cc pc = .ok (.newarray .long, 2)) (h : JdF p l e R s m args below meth c nL Q A dC dI cy Λ ad (k0 + 1) (zr mem k0) (fZ fl k0 N) (ce + 1) (sl + N) (pc + 2) (lv) (.ref (ad k0) :: st)) : JdF p l e R s m args below meth c nL Q A dC dI cy Λ ad (k0) (mem) (fl) (ce) (sl) (pc) (lv) (.int n :: st) := by
  intro H locs ls hP hD hS hL
  refine w_size (fun hle => ?_)
  have hz : H.size = ad k0 := sz_eq hpos had hsz hP hle
  refine va_newaK (atype := .long) X.1 X.2.1 (X.2.2.2.2.1 _ w9) rfl hd rfl hn hN hby hce hsl hz fun H1 cA e1 z1 o1 hAr hNm => ?_
  have hcA : cA = cy 15 := Option.some.inj (hNm.symm.trans (X.2.2.2.2.2.1.2 2 _ rfl).2)
  subst hcA
  obtain ⟨q1, q2, q3⟩ := al_P (mem' := zr mem k0) (fl' := fZ fl k0 N) (n := 1) had hP hD hS X.2.2.2.2.2.2.2.1 hz z1 o1 (fun i hi => by
    rw [show i = 0 by omega]
    show va_at _ _ (ad k0, celF Λ ad cy (zr mem k0) (fZ fl k0 N) k0) H1
    rw [celF_J ad cy _ _ hk]
    show H1[ad k0]? = some (vp_cell _ _)
    rw [e1, hl]
    exact congrArg some (arrV_cong (g := fun j => Value.long (gJ (zr mem k0) k0 j)) (fun j _ => by rw [gJ_zr, if_pos rfl]; rfl))) (fun j hj => cF_zr (by omega))
  exact h H1 locs ls q1 q2 q3 hL
theorem n_new (X : Cx p l e R s m args below meth c cc nL own ret A dC dI cy ks) {c2 index : Nat} {C : String} {T : u_T} {Nf : Nat} {ty0 : Nat → FieldType} (hpos : 0 < k0) (had : ∀ i, ad i = ad 0 + i) (hsz : s.heap.size + ce = ad k0) (hk : Λ.1 k0 = c2) (h13 : c2 < 13) (hc : vwCl[c2]? = some (C, T, Nf)) (hin : ∀ w ∈ u_ws C T Nf, w ∈ uw) (hty : ∀ k, k < Nf → parseFieldDescriptor (T k).2.2.1 = some (ty0 k)) (hdf : ∀ j, j < Nf → defaultValue (ty0 j) = dfv ((fcl c2).getD j 0)) (hfl : (fcl c2).length = Nf) (w1 : Cond.classLink own index C ∈ uw) (w2 : Cond.instantiable C Nf ∈ uw) (w3 : Cond.initialized C ∈ uw) (hce : ce + 1 ≤ R.cells) (hsl : sl + Nf ≤ R.slots) (hd : decode cc pc = .ok (.new index, 3)) (h : JdF p l e R s m args below meth c nL Q A dC dI cy Λ ad (k0 + 1) (zr mem k0) (fZ fl k0 Nf) (ce + 1) (sl + Nf) (pc + 3) (lv) (.ref (ad k0) :: st)) : JdF p l e R s m args below meth c nL Q A dC dI cy Λ ad (k0) (mem) (fl) (ce) (sl) (pc) (lv) (st) := by
  intro H locs ls hP hD hS hL
  refine w_size (fun hle => ?_)
  have hz : H.size = ad k0 := sz_eq hpos had hsz hP hle
  have hKn := X.2.2.2.2.2.1.1 c2 _ hc
  refine W.newcK X.1 X.2.1 X.2.2.2.1 (X.2.2.2.2.1 _ w1) (X.2.2.2.2.1 _ w2) (X.2.2.2.2.1 _ w3) rfl hd hce hsl hKn.2.1 hz fun H1 kC hkC e1 z1 o1 => ?_
  obtain ⟨q1, q2, q3⟩ := al_P (mem' := zr mem k0) (fl' := fZ fl k0 Nf) (n := 1) had hP hD hS X.2.2.2.2.2.2.2.1 hz z1 o1 (fun i hi => by
    rw [show i = 0 by omega]
    show va_at _ _ (ad k0, celF Λ ad cy (zr mem k0) (fZ fl k0 Nf) k0) H1
    rw [celF_O ad cy _ _ hk h13]
    exact ⟨_, hc, (u_born ty0 X.2.2.2.2.1 hin hKn hkC e1 hty).to (fun j hj => (hdf j hj).trans (fsF_new ad mem fl c2 k0 Nf (Nat.le_of_eq hfl) (by rw [hfl]; exact hj)))⟩) (fun j hj => cF_zr (by omega))
  exact h H1 locs ls q1 q2 q3 hL
theorem n_newq17 (X : Cx p l e R s m args below meth c cc nL own ret A dC dI cy ks) {n : Int32} {N index : Nat} (h9 : AO s) (hpos : 0 < k0) (had : ∀ i, ad i = ad 0 + i) (hsz : s.heap.size + ce = ad k0) (hk : Λ.1 k0 = 17) (hl : Λ.2.1 k0 = N) (hn : ¬ n < 0) (hN : n.toNatClampNeg = N) (w9 : Cond.classLink own index "StationPiano$Mark" ∈ uw) (hby : N * 4 ≤ 536870912) (hce : ce + 1 ≤ R.cells) (hsl : sl + N ≤ R.slots) (hd : decode cc pc = .ok (.anewarray index, 3)) (h : JdF p l e R s m args below meth c nL Q A dC dI cy Λ ad (k0 + 1) (zr mem k0) (fZ fl k0 N) (ce + 1) (sl + N) (pc + 3) (lv) (.ref (ad k0) :: st)) : JdF p l e R s m args below meth c nL Q A dC dI cy Λ ad (k0) (mem) (fl) (ce) (sl) (pc) (lv) (.int n :: st) := by
  subst hN
  intro H locs ls hP hD hS hL
  refine w_size (fun hle => ?_)
  have hz : H.size = ad k0 := sz_eq hpos had hsz hP hle
  refine W.anew X.1 X.2.1 X.2.2.2.1 (X.2.2.2.2.1 _ w9) (va_AO.use h9.1) rfl hd rfl hn hby hce hsl fun cA kA comp f1 f2 f3 f4 => ?_
  have hcA : cA = cy 17 := by
    obtain ⟨kA2, comp2, g1, g2, g3, g4⟩ := (X.2.2.2.2.2.1.2 4 _ rfl).2
    exact Option.some.inj (f1.symm.trans g4)
  subst hcA
  generalize hH1 : H.push ({ cls := cy 17, slots := Array.replicate n.toNatClampNeg .null, vm := .none } : Cell) = H1
  have z1 : H1.size = ad k0 + 1 := by rw [← hH1, Array.size_push, hz]
  have e1 : H1[ad k0]? = some (arrV (cy 17) n.toNatClampNeg (fun _ => .null)) := by rw [← hH1, ← hz, Array.getElem?_push_size, ← arrV_new]
  have o1 : ∀ q : Nat, q < ad k0 → H1[q]? = H[q]? := fun q hq => by rw [← hH1, Array.getElem?_push, if_neg (by rw [hz]; exact Nat.ne_of_lt hq)]
  obtain ⟨q1, q2, q3⟩ := al_P (mem' := zr mem k0) (fl' := fZ fl k0 n.toNatClampNeg) (n := 1) had hP hD hS X.2.2.2.2.2.2.2.1 hz z1 o1 (fun i hi => by
    rw [show i = 0 by omega]
    show va_at _ _ (ad k0, celF Λ ad cy (zr mem k0) (fZ fl k0 n.toNatClampNeg) k0) H1
    rw [celF_R ad cy _ _ hk (by decide)]
    show H1[ad k0]? = some (vp_cell _ _)
    rw [e1, hl, vp_cell_q]
    refine congrArg some (arrV_cong (fun j hj => ?_))
    have hq : decide (n.toNatClampNeg ≤ j) = false := decide_eq_false (by omega)
    simp [fZ, hq, va_rf]) (fun j hj => cF_zr (by omega))
  rw [hz]
  exact h H1 locs ls q1 q2 q3 hL
theorem n_newq18 (X : Cx p l e R s m args below meth c cc nL own ret A dC dI cy ks) {n : Int32} {N index : Nat} (h9 : AO s) (hpos : 0 < k0) (had : ∀ i, ad i = ad 0 + i) (hsz : s.heap.size + ce = ad k0) (hk : Λ.1 k0 = 18) (hl : Λ.2.1 k0 = N) (hn : ¬ n < 0) (hN : n.toNatClampNeg = N) (w9 : Cond.classLink own index "StationPiano$Passer" ∈ uw) (hby : N * 4 ≤ 536870912) (hce : ce + 1 ≤ R.cells) (hsl : sl + N ≤ R.slots) (hd : decode cc pc = .ok (.anewarray index, 3)) (h : JdF p l e R s m args below meth c nL Q A dC dI cy Λ ad (k0 + 1) (zr mem k0) (fZ fl k0 N) (ce + 1) (sl + N) (pc + 3) (lv) (.ref (ad k0) :: st)) : JdF p l e R s m args below meth c nL Q A dC dI cy Λ ad (k0) (mem) (fl) (ce) (sl) (pc) (lv) (.int n :: st) := by
  subst hN
  intro H locs ls hP hD hS hL
  refine w_size (fun hle => ?_)
  have hz : H.size = ad k0 := sz_eq hpos had hsz hP hle
  refine W.anew X.1 X.2.1 X.2.2.2.1 (X.2.2.2.2.1 _ w9) (va_AO.use h9.2.1) rfl hd rfl hn hby hce hsl fun cA kA comp f1 f2 f3 f4 => ?_
  have hcA : cA = cy 18 := by
    obtain ⟨kA2, comp2, g1, g2, g3, g4⟩ := (X.2.2.2.2.2.1.2 5 _ rfl).2
    exact Option.some.inj (f1.symm.trans g4)
  subst hcA
  generalize hH1 : H.push ({ cls := cy 18, slots := Array.replicate n.toNatClampNeg .null, vm := .none } : Cell) = H1
  have z1 : H1.size = ad k0 + 1 := by rw [← hH1, Array.size_push, hz]
  have e1 : H1[ad k0]? = some (arrV (cy 18) n.toNatClampNeg (fun _ => .null)) := by rw [← hH1, ← hz, Array.getElem?_push_size, ← arrV_new]
  have o1 : ∀ q : Nat, q < ad k0 → H1[q]? = H[q]? := fun q hq => by rw [← hH1, Array.getElem?_push, if_neg (by rw [hz]; exact Nat.ne_of_lt hq)]
  obtain ⟨q1, q2, q3⟩ := al_P (mem' := zr mem k0) (fl' := fZ fl k0 n.toNatClampNeg) (n := 1) had hP hD hS X.2.2.2.2.2.2.2.1 hz z1 o1 (fun i hi => by
    rw [show i = 0 by omega]
    show va_at _ _ (ad k0, celF Λ ad cy (zr mem k0) (fZ fl k0 n.toNatClampNeg) k0) H1
    rw [celF_R ad cy _ _ hk (by decide)]
    show H1[ad k0]? = some (vp_cell _ _)
    rw [e1, hl, vp_cell_q]
    refine congrArg some (arrV_cong (fun j hj => ?_))
    have hq : decide (n.toNatClampNeg ≤ j) = false := decide_eq_false (by omega)
    simp [fZ, hq, va_rf]) (fun j hj => cF_zr (by omega))
  rw [hz]
  exact h H1 locs ls q1 q2 q3 hL
theorem n_newq19 (X : Cx p l e R s m args below meth c cc nL own ret A dC dI cy ks) {n : Int32} {N index : Nat} (h9 : AO s) (hpos : 0 < k0) (had : ∀ i, ad i = ad 0 + i) (hsz : s.heap.size + ce = ad k0) (hk : Λ.1 k0 = 19) (hl : Λ.2.1 k0 = N) (hn : ¬ n < 0) (hN : n.toNatClampNeg = N) (w9 : Cond.classLink own index "StationPiano$State" ∈ uw) (hby : N * 4 ≤ 536870912) (hce : ce + 1 ≤ R.cells) (hsl : sl + N ≤ R.slots) (hd : decode cc pc = .ok (.anewarray index, 3)) (h : JdF p l e R s m args below meth c nL Q A dC dI cy Λ ad (k0 + 1) (zr mem k0) (fZ fl k0 N) (ce + 1) (sl + N) (pc + 3) (lv) (.ref (ad k0) :: st)) : JdF p l e R s m args below meth c nL Q A dC dI cy Λ ad (k0) (mem) (fl) (ce) (sl) (pc) (lv) (.int n :: st) := by
  subst hN
  intro H locs ls hP hD hS hL
  refine w_size (fun hle => ?_)
  have hz : H.size = ad k0 := sz_eq hpos had hsz hP hle
  refine W.anew X.1 X.2.1 X.2.2.2.1 (X.2.2.2.2.1 _ w9) (va_AO.use h9.2.2.1) rfl hd rfl hn hby hce hsl fun cA kA comp f1 f2 f3 f4 => ?_
  have hcA : cA = cy 19 := by
    obtain ⟨kA2, comp2, g1, g2, g3, g4⟩ := (X.2.2.2.2.2.1.2 6 _ rfl).2
    exact Option.some.inj (f1.symm.trans g4)
  subst hcA
  generalize hH1 : H.push ({ cls := cy 19, slots := Array.replicate n.toNatClampNeg .null, vm := .none } : Cell) = H1
  have z1 : H1.size = ad k0 + 1 := by rw [← hH1, Array.size_push, hz]
  have e1 : H1[ad k0]? = some (arrV (cy 19) n.toNatClampNeg (fun _ => .null)) := by rw [← hH1, ← hz, Array.getElem?_push_size, ← arrV_new]
  have o1 : ∀ q : Nat, q < ad k0 → H1[q]? = H[q]? := fun q hq => by rw [← hH1, Array.getElem?_push, if_neg (by rw [hz]; exact Nat.ne_of_lt hq)]
  obtain ⟨q1, q2, q3⟩ := al_P (mem' := zr mem k0) (fl' := fZ fl k0 n.toNatClampNeg) (n := 1) had hP hD hS X.2.2.2.2.2.2.2.1 hz z1 o1 (fun i hi => by
    rw [show i = 0 by omega]
    show va_at _ _ (ad k0, celF Λ ad cy (zr mem k0) (fZ fl k0 n.toNatClampNeg) k0) H1
    rw [celF_R ad cy _ _ hk (by decide)]
    show H1[ad k0]? = some (vp_cell _ _)
    rw [e1, hl, vp_cell_q]
    refine congrArg some (arrV_cong (fun j hj => ?_))
    have hq : decide (n.toNatClampNeg ≤ j) = false := decide_eq_false (by omega)
    simp [fZ, hq, va_rf]) (fun j hj => cF_zr (by omega))
  rw [hz]
  exact h H1 locs ls q1 q2 q3 hL
theorem n_ast17 (X : Cx p l e R s m args below meth c cc nL own ret A dC dI cy ks) {i v : Nat} {x : Int32} {j : Nat} (hN : i < k0) (hk : Λ.1 i = 17) (hx : x.toNatClampNeg = j) (hi9 : vp_in x (Λ.2.1 i)) (hv : i + eo 17 j = v) (hvN : v < k0) (hvk : Λ.1 v = 3) (hd : decode cc pc = .ok (.aastore, 1)) (h : JdF p l e R s m args below meth c nL Q A dC dI cy Λ ad (k0) (mem) (fS fl i j) (ce) (sl) (pc + 1) (lv) (st)) : JdF p l e R s m args below meth c nL Q A dC dI cy Λ ad (k0) (mem) (fl) (ce) (sl) (pc) (lv) (.ref (ad v) :: .int x :: .ref (ad i) :: st) := by
  intro H locs ls hP hD hS hL
  refine va_astq X.1 X.2.1 X.2.2.2.2.2.1 hP hD hS i 4 v 3 ((wlF_get ad cy mem fl hN).trans (congrArg (fun z => some (ad i, z)) (celF_R ad cy mem fl hk (by decide)))) (r := (RX3, TX3, (fcl 3).length)) rfl ((wlF_get ad cy mem fl hvN).trans (congrArg (fun z => some (ad v, z)) (celF_O ad cy mem fl hvk (by decide)))) rfl hi9 hd (fun H1 locs hP hD hS => ?_)
  rw [wlF_set (m' := mem) (fl' := fS fl i j) hN (by
    rw [celF_R ad cy _ _ hk (by decide)]
    refine congrArg (fun (f : Nat → Option Nat) => (Sum.inl (cy 17, (Λ.2.1 i, Sum.inr (Sum.inr (Sum.inr (Sum.inr f))))) : va_E)) (funext fun q => ?_)
    subst hv
    subst hx
    by_cases hq : q = x.toNatClampNeg
    · subst hq; simp [fS, va_up]
    · simp [fS, va_up, hq]) (fun z q => celF_cong (fun _ => rfl) (fun _ => rfl) (fun _ => rfl) (fun y => fS_ne (fun u => q u.1)))] at hP hD
  exact h H1 locs ls hP hD hS hL
theorem n_ast18 (X : Cx p l e R s m args below meth c cc nL own ret A dC dI cy ks) {i v : Nat} {x : Int32} {j : Nat} (hN : i < k0) (hk : Λ.1 i = 18) (hx : x.toNatClampNeg = j) (hi9 : vp_in x (Λ.2.1 i)) (hv : i + eo 18 j = v) (hvN : v < k0) (hvk : Λ.1 v = 4) (hd : decode cc pc = .ok (.aastore, 1)) (h : JdF p l e R s m args below meth c nL Q A dC dI cy Λ ad (k0) (mem) (fS fl i j) (ce) (sl) (pc + 1) (lv) (st)) : JdF p l e R s m args below meth c nL Q A dC dI cy Λ ad (k0) (mem) (fl) (ce) (sl) (pc) (lv) (.ref (ad v) :: .int x :: .ref (ad i) :: st) := by
  intro H locs ls hP hD hS hL
  refine va_astq X.1 X.2.1 X.2.2.2.2.2.1 hP hD hS i 5 v 4 ((wlF_get ad cy mem fl hN).trans (congrArg (fun z => some (ad i, z)) (celF_R ad cy mem fl hk (by decide)))) (r := (RX4, TX4, (fcl 4).length)) rfl ((wlF_get ad cy mem fl hvN).trans (congrArg (fun z => some (ad v, z)) (celF_O ad cy mem fl hvk (by decide)))) rfl hi9 hd (fun H1 locs hP hD hS => ?_)
  rw [wlF_set (m' := mem) (fl' := fS fl i j) hN (by
    rw [celF_R ad cy _ _ hk (by decide)]
    refine congrArg (fun (f : Nat → Option Nat) => (Sum.inl (cy 18, (Λ.2.1 i, Sum.inr (Sum.inr (Sum.inr (Sum.inr f))))) : va_E)) (funext fun q => ?_)
    subst hv
    subst hx
    by_cases hq : q = x.toNatClampNeg
    · subst hq; simp [fS, va_up]
    · simp [fS, va_up, hq]) (fun z q => celF_cong (fun _ => rfl) (fun _ => rfl) (fun _ => rfl) (fun y => fS_ne (fun u => q u.1)))] at hP hD
  exact h H1 locs ls hP hD hS hL
theorem n_ast19 (X : Cx p l e R s m args below meth c cc nL own ret A dC dI cy ks) {i v : Nat} {x : Int32} {j : Nat} (hN : i < k0) (hk : Λ.1 i = 19) (hx : x.toNatClampNeg = j) (hi9 : vp_in x (Λ.2.1 i)) (hv : i + eo 19 j = v) (hvN : v < k0) (hvk : Λ.1 v = 6) (hd : decode cc pc = .ok (.aastore, 1)) (h : JdF p l e R s m args below meth c nL Q A dC dI cy Λ ad (k0) (mem) (fS fl i j) (ce) (sl) (pc + 1) (lv) (st)) : JdF p l e R s m args below meth c nL Q A dC dI cy Λ ad (k0) (mem) (fl) (ce) (sl) (pc) (lv) (.ref (ad v) :: .int x :: .ref (ad i) :: st) := by
  intro H locs ls hP hD hS hL
  refine va_astq X.1 X.2.1 X.2.2.2.2.2.1 hP hD hS i 6 v 6 ((wlF_get ad cy mem fl hN).trans (congrArg (fun z => some (ad i, z)) (celF_R ad cy mem fl hk (by decide)))) (r := (RX6, TX6, (fcl 6).length)) rfl ((wlF_get ad cy mem fl hvN).trans (congrArg (fun z => some (ad v, z)) (celF_O ad cy mem fl hvk (by decide)))) rfl hi9 hd (fun H1 locs hP hD hS => ?_)
  rw [wlF_set (m' := mem) (fl' := fS fl i j) hN (by
    rw [celF_R ad cy _ _ hk (by decide)]
    refine congrArg (fun (f : Nat → Option Nat) => (Sum.inl (cy 19, (Λ.2.1 i, Sum.inr (Sum.inr (Sum.inr (Sum.inr f))))) : va_E)) (funext fun q => ?_)
    subst hv
    subst hx
    by_cases hq : q = x.toNatClampNeg
    · subst hq; simp [fS, va_up]
    · simp [fS, va_up, hq]) (fun z q => celF_cong (fun _ => rfl) (fun _ => rfl) (fun _ => rfl) (fun y => fS_ne (fun u => q u.1)))] at hP hD
  exact h H1 locs ls hP hD hS hL
theorem n_vret {k1 : Nat} {mem2 : Mm} {fl2 : Fl} {mc ms : Nat} (X : Cx p l e R s m args below meth c cc nL own ret A dC dI cy ks) (hr : ret = none) (hd : decode cc pc = .ok (.return_, 1)) (e1 : k0 = k1) (e2 : mem = mem2) (e3 : fl = fl2) (e4 : ce = mc) (e5 : sl = ms) : JdF p l e R s m args below meth c nL (MQ below (va_Qv (fun (_ : Unit) => True) (fun _ t => va_P (dC, dI) vwCl (wlF Λ ad cy mem2 fl2 k1) t.heap ∧ va_D A (wlF Λ ad cy mem2 fl2 k1)) A) args s mc ms A) A dC dI cy Λ ad k0 mem fl ce sl pc lv [] := by
  subst e1; subst e2; subst e3; subst e4; subst e5
  exact fun H locs ls hP hD hS hL => W.vret X.1 X.2.1 (X.2.2.2.2.2.2.2.2.1.trans hr) (fun t ht hW => ⟨⟨(), rfl, trivial, by rw [ht]; exact hP, hD⟩, hS.F ht⟩) hS.2.2 hd X.2.2.2.2.2.2.2.2.2.1
theorem prn_blind {k0 : Nat} {mem : Mm} {fl : Fl} {av : List Value} : FrameBlind (PrN Λ ad cy dC dI ks av k0 mem fl) := fun a U g mk q => by
  obtain ⟨q0, q1, qP, qK, qD, qN, qE, qA⟩ := q
  exact ⟨q0, q1, qP, va_K.moved (u := U) (U := U.calling g mk a) (Vm.Alike.refl U.vm) qK, qD, NB.same (u := U) (U := U.calling g mk a) rfl qN, EX.same (u := U) (U := U.calling g mk a) rfl rfl qE, AO.same (u := U) (U := U.calling g mk a) rfl qA⟩
theorem n_cI (X : Cx p l e R s m args below meth c cc nL own ret A dC dI cy ks) {y : MethodName} {rm : Room} {index maxL n i : Nat} {bytes : ByteArray} {As rest : List Value} {k1 : Nat} {mem2 : Mm} {fl2 : Fl} {mc ms : Nat} (h9 : AO s) (hpos : 0 < k0) (had : ∀ i, ad i = ad 0 + i) (hsz : s.heap.size + ce = ad k0) (hM : CtN l Λ ad cy dC dI ks y bytes maxL rm (.ref (ad i) :: As) k0 mem fl k1 mem2 fl2 mc ms) (w1 : Cond.methodLink own index y ∈ uw) (w2 : Cond.instanceMethod y ∈ uw) (w4 : Cond.initialized y.cls ∈ uw) (w5 : Cond.code y bytes maxL none ∈ uw) (hnm : y.name = "<init>") (hrc : rm.cells = mc) (hrs : rm.slots = ms) (hdd : y.cls ≠ "java/lang/invoke/MethodHandle" ∧ y.cls ≠ "java/lang/invoke/VarHandle" ∧ (parseMethodDescriptor y.desc).map (fun d => d.parameters.length) = some n) (hR : rm.frames + 1 ≤ R.frames ∧ 8 + (maxL + 11) + rm.locals ≤ R.locals) (hn : As.length = n) (hsum : (rest.map fun v => v.category).sum ≤ 8) (hce : ce + mc ≤ R.cells) (hsl : sl + ms ≤ R.slots) (hd : decode cc pc = .ok (.invokespecial index, 3)) (hst : st = As.reverse ++ .ref (ad i) :: rest) (h : JdF p l e R s m args below meth c nL Q A dC dI cy Λ ad (k1) (mem2) (fl2) (ce + mc) (sl + ms) (pc + 3) (lv) (rest)) : JdF p l e R s m args below meth c nL Q A dC dI cy Λ ad (k0) (mem) (fl) (ce) (sl) (pc) (lv) (st) := by
  intro H locs ls hP hD hS hL
  refine w_size (fun hle => ?_)
  have hz : H.size = ad k0 := sz_eq hpos had hsz hP hle
  have hFr := fr_in hP hD hS X.2.2.2.2.2.2.2.1
  rw [hz] at hFr
  subst hst
  refine va_callv (va_runI (As := As) (rest := rest) ⟨X.1, X.2.1, X.2.2.1, X.2.2.2.1, X.2.2.2.2.1⟩ hM ⟨callB_of n X.2.2.2.2.1 (good_of w5) rfl hrc hrs (X.2.2.2.2.1 _ w4) (X.2.2.2.2.1 _ w1) hdd hR, hnm, X.2.2.2.2.1 _ w2⟩ ⟨prn_blind, fun U hU hW => ⟨rfl, by rw [hU]; exact hz, by rw [hU]; exact hP, va_K.moved hW.alike X.2.2.2.2.2.1, hD.weaken (fun _ _ _ _ => trivial), NB.warm hW X.2.2.2.2.2.2.1, EX.step X.2.2.2.2.2.2.2.2.2.2 hS hFr hU hW, AO.warm hW h9⟩⟩ rfl hn hL.1 rfl (lv_room hsum) hd ⟨hce, hsl⟩) hS (fun q _ z => hFr q z) hFr (fun u t H1 locs ht hvm hw hB hz1 hk1 hS2 => h H1 locs ls (by rw [← ht]; exact hB.1) (hB.2.weaken (fun _ _ _ q => hFr _ q)) hS2 hL)
theorem n_cIN (X : Cx p l e R s m args below meth c cc nL own ret A dC dI cy ks) {y : MethodName} {rm : Room} {index maxL n i : Nat} {bytes : ByteArray} {As rest : List Value} {k1 : Nat} {mem2 : Mm} {fl2 : Fl} {mc ms : Nat} (h9 : AO s) (hpos : 0 < k0) (had : ∀ i, ad i = ad 0 + i) (hsz : s.heap.size + ce = ad k0) (hM : CtN l Λ ad cy dC dI ks y bytes maxL rm (.ref (ad i) :: As) k0 mem fl k1 mem2 fl2 mc ms) {host : String} (w1 : va_Nw (.methodLinkNest own index y host) s) (w2 : Cond.instanceMethod y ∈ uw) (w4 : Cond.initialized y.cls ∈ uw) (w5 : Cond.code y bytes maxL none ∈ uw) (hnm : y.name = "<init>") (hrc : rm.cells = mc) (hrs : rm.slots = ms) (hdd : y.cls ≠ "java/lang/invoke/MethodHandle" ∧ y.cls ≠ "java/lang/invoke/VarHandle" ∧ (parseMethodDescriptor y.desc).map (fun d => d.parameters.length) = some n) (hR : rm.frames + 1 ≤ R.frames ∧ 8 + (maxL + 11) + rm.locals ≤ R.locals) (hn : As.length = n) (hsum : (rest.map fun v => v.category).sum ≤ 8) (hce : ce + mc ≤ R.cells) (hsl : sl + ms ≤ R.slots) (hd : decode cc pc = .ok (.invokespecial index, 3)) (hst : st = As.reverse ++ .ref (ad i) :: rest) (h : JdF p l e R s m args below meth c nL Q A dC dI cy Λ ad (k1) (mem2) (fl2) (ce + mc) (sl + ms) (pc + 3) (lv) (rest)) : JdF p l e R s m args below meth c nL Q A dC dI cy Λ ad (k0) (mem) (fl) (ce) (sl) (pc) (lv) (st) := by
  intro H locs ls hP hD hS hL
  refine w_size (fun hle => ?_)
  have hz : H.size = ad k0 := sz_eq hpos had hsz hP hle
  have hFr := fr_in hP hD hS X.2.2.2.2.2.2.2.1
  rw [hz] at hFr
  subst hst
  refine va_callv (va_runIN (As := As) (rest := rest) ⟨X.1, X.2.1, X.2.2.1, X.2.2.2.1, X.2.2.2.2.1⟩ hM ⟨va_cnB n X.2.2.2.2.1 (good_of w5) rfl hrc hrs w1 (X.2.2.2.2.1 _ w4) hdd hR, hnm, X.2.2.2.2.1 _ w2⟩ ⟨prn_blind, fun U hU hW => ⟨rfl, by rw [hU]; exact hz, by rw [hU]; exact hP, va_K.moved hW.alike X.2.2.2.2.2.1, hD.weaken (fun _ _ _ _ => trivial), NB.warm hW X.2.2.2.2.2.2.1, EX.step X.2.2.2.2.2.2.2.2.2.2 hS hFr hU hW, AO.warm hW h9⟩⟩ rfl hn hL.1 rfl (lv_room hsum) hd ⟨hce, hsl⟩) hS (fun q _ z => hFr q z) hFr (fun u t H1 locs ht hvm hw hB hz1 hk1 hS2 => h H1 locs ls (by rw [← ht]; exact hB.1) (hB.2.weaken (fun _ _ _ q => hFr _ q)) hS2 hL)
theorem n_cVV (X : Cx p l e R s m args below meth c cc nL own ret A dC dI cy ks) {y : MethodName} {rm : Room} {index maxL n i ci : Nat} {bytes : ByteArray} {rt : Option FieldType} {C : String} {T : u_T} {Nf : Nat} {As rest : List Value} {mem2 : Mm} (hfull : ∀ m : Mm, wlF Λ ad cy m fl Λ.2.2 = wld Λ ad cy m) (hk0 : k0 = Λ.2.2) (hM : CtV l Λ ad cy dC dI ks y bytes maxL rt rm (.ref (ad i) :: As) mem mem2) (hN : i < Λ.2.2) (hk : Λ.1 i = ci) (hc : vwCl[ci]? = some (C, T, Nf)) (h13 : ci < 13) (w1 : Cond.methodLink own index y ∈ uw) (w2 : Cond.instanceMethod y ∈ uw) (w3 : Cond.selects C y y ∈ uw) (w4 : Cond.initialized C ∈ uw) (w5 : Cond.code y bytes maxL rt ∈ uw) (hrc : rm.cells = 0) (hrs : rm.slots = 0) (hdd : y.cls = C ∧ y.cls ≠ "java/lang/invoke/MethodHandle" ∧ y.cls ≠ "java/lang/invoke/VarHandle" ∧ (parseMethodDescriptor y.desc).map (fun d => d.parameters.length) = some n) (hR : rm.frames + 1 ≤ R.frames ∧ 8 + (maxL + 11) + rm.locals ≤ R.locals) (hn : As.length = n) (hsum : (rest.map fun v => v.category).sum ≤ 8) (hce : ce ≤ R.cells) (hsl : sl ≤ R.slots) (hd : decode cc pc = .ok (.invokevirtual index, 3)) (hst : st = As.reverse ++ .ref (ad i) :: rest) (h : JdF p l e R s m args below meth c nL Q A dC dI cy Λ ad (Λ.2.2) (mem2) (fl) (ce) (sl) (pc + 3) (lv) (rest)) : JdF p l e R s m args below meth c nL Q A dC dI cy Λ ad (k0) (mem) (fl) (ce) (sl) (pc) (lv) (st) := by
  subst hk0
  intro H locs ls hP hD hS hL
  rw [hfull] at hP hD
  have hFr := fr_in hP hD hS X.2.2.2.2.2.2.2.1
  subst hst
  refine va_callv (va_runV (As := As) (rest := rest) ⟨X.1, X.2.1, X.2.2.1, X.2.2.2.1, X.2.2.2.2.1⟩ (hM H.size) (by obtain ⟨hC, hdd⟩ := hdd; exact ⟨callB_of n X.2.2.2.2.1 (good_of w5) rfl hrc hrs (X.2.2.2.2.1 _ (hC ▸ w4)) (X.2.2.2.2.1 _ w1) hdd hR, X.2.2.2.2.1 _ w2, X.2.2.2.2.1 _ w3⟩) ⟨pre_blind, va_recv X.2.2.2.2.2.1 hP hc ((wld_get ad cy mem hN).trans (congrArg (fun z => some (ad i, z)) (cel_O ad cy mem hk h13))), fun U hU hW => ⟨rfl, by rw [hU], by rw [hU]; exact hP, va_K.moved hW.alike X.2.2.2.2.2.1, hD.weaken (fun _ _ _ _ => trivial), NB.warm hW X.2.2.2.2.2.2.1, EX.step X.2.2.2.2.2.2.2.2.2.2 hS hFr hU hW⟩⟩ rfl hn hL.1 rfl (lv_room hsum) hd ⟨hce, hsl⟩) hS (fun q _ z => hFr q z) hFr (fun u t H1 locs ht hvm hw hB hz1 hk1 hS2 => h H1 locs ls (by rw [hfull, ← ht]; exact hB.1) (by rw [hfull]; exact hB.2.weaken (fun _ _ _ q => hFr _ q)) hS2 hL)
theorem n_mna (X : Cx p l e R s m args below meth c cc nL own ret A dC dI cy ks) {n k : Int32} {N' K' index : Nat} (h9 : AO s) (hpos : 0 < k0) (had : ∀ i, ad i = ad 0 + i) (hsz : s.heap.size + ce = ad k0) (hk0 : Λ.1 k0 = 20) (hl : Λ.2.1 k0 = N') (hin : ∀ i, i < N' → Λ.1 (k0 + (1 + i)) = 14 ∧ Λ.2.1 (k0 + (1 + i)) = K') (hn : ¬ n < 0) (hk : ¬ k < 0) (hN : n.toNatClampNeg = N') (hM : k.toNatClampNeg = K') (w9 : Cond.classLink own index "[[I" ∈ uw) (wa : Cond.arrayClass .int ∈ uw) (hb1 : N' * 4 ≤ 536870912) (hb2 : K' * 4 ≤ 536870912) (hb3 : K' ≤ 536870912) (hce : ce + (1 + N') ≤ R.cells) (hsl : sl + (N' + N' * K') ≤ R.slots) (hd : decode cc pc = .ok (.multianewarray index 2, 4)) (h : JdF p l e R s m args below meth c nL Q A dC dI cy Λ ad (k0 + (1 + N')) (zrn mem k0 (1 + N')) (fT fl k0) (ce + 1 + N') (sl + N' + N' * K') (pc + 4) (lv) (.ref (ad k0) :: st)) : JdF p l e R s m args below meth c nL Q A dC dI cy Λ ad (k0) (mem) (fl) (ce) (sl) (pc) (lv) (.int k :: .int n :: st) := by
  subst hN
  subst hM
  intro H locs ls hP hD hS hL
  refine w_size (fun hle => ?_)
  have hz : H.size = ad k0 := sz_eq hpos had hsz hP hle
  intro T hT Xs
  obtain ⟨vm₁, cA, comp, -, fA, fC, hO, -, X', step⟩ := Xs.multianewarray2F (ty := .int) X.1 X.2.2.2.1 (X.2.2.2.2.1 _ w9) (va_AOA.use h9.2.2.2.1) (X.2.2.2.2.1 _ wa) (g := F0 m pc ls (.int k :: .int n :: st)) rfl (by rw [X.2.1]; exact hd) rfl hn hk hb1 hb2 hb3 rfl rfl hce hsl
  have hcc : comp = cy 14 := Option.some.inj (fC.symm.trans (X.2.2.2.2.2.1.2 1 _ rfl).2)
  have hcA : cA = cy 20 := Option.some.inj (fA.symm.trans (X.2.2.2.2.2.1.2 7 _ rfl).2)
  subst hcc
  subst hcA
  generalize hF : Jvm.Free.Multi.fill (T.setVm vm₁) (cy 20) (cy 14) n.toNatClampNeg k.toNatClampNeg (defaultValue .int) n.toNatClampNeg = F at X' step
  have hTh : (T.setVm vm₁).heap = H := hT
  obtain ⟨f1, f2, -, -⟩ := Jvm.Free.Multi.fill_facts (T.setVm vm₁) (cy 20) (cy 14) n.toNatClampNeg k.toNatClampNeg (defaultValue .int) n.toNatClampNeg
  rw [hF, hTh] at f1 f2
  have hold : ∀ x : Nat, x < ad k0 → F.heap[x]? = H[x]? := fun x hx => by
    have := Jvm.Free.Multi.fill_old (T.setVm vm₁) (cy 20) (cy 14) n.toNatClampNeg k.toNatClampNeg (defaultValue .int) (a := x) (by rw [hTh, hz]; exact hx) n.toNatClampNeg
    rw [hF, hTh] at this
    exact this
  have hrow : ∀ j : Nat, j < n.toNatClampNeg → F.heap[H.size + 1 + j]? = some (Jvm.Free.Multi.innerC (cy 14) k.toNatClampNeg (defaultValue .int)) := fun j hj => by
    have := Jvm.Free.Multi.fill_inner (T.setVm vm₁) (cy 20) (cy 14) n.toNatClampNeg k.toNatClampNeg (defaultValue .int) n.toNatClampNeg j hj
    rw [hF, hTh] at this
    exact this
  have hout := vr_outer (cy 20) n.toNatClampNeg H.size n.toNatClampNeg
  rw [hout, hz] at f2
  obtain ⟨q1, q2, q3⟩ := al_P (mem' := zrn mem k0 (1 + n.toNatClampNeg)) (fl' := fT fl k0) (n := 1 + n.toNatClampNeg) (H1 := F.heap) had hP hD hS X.2.2.2.2.2.2.2.1 hz (by rw [f1, hz]; omega) hold (fun i hi => by
    rcases Nat.eq_zero_or_pos i with h0 | h0
    · subst h0
      show va_at _ _ (ad k0, celF Λ ad cy (zrn mem k0 (1 + n.toNatClampNeg)) (fT fl k0) k0) F.heap
      rw [celF_R ad cy _ _ hk0 (by decide)]
      show F.heap[ad k0]? = some (vp_cell _ _)
      rw [f2, hl, vp_cell_q]
      refine congrArg some (arrV_cong (fun j hj => ?_))
      have e1 := had k0
      have e2 := had (k0 + eo 20 j)
      have e3 : eo 20 j = 1 + j := rfl
      rw [e3] at e2
      show va_rf (if j < n.toNatClampNeg then some (ad k0 + 1 + j) else none) = va_rf (if fT fl k0 k0 j = true then some (ad (k0 + eo 20 j)) else none)
      rw [if_pos hj, if_pos (show fT fl k0 k0 j = true from if_pos rfl), e3, show ad k0 + 1 + j = ad (k0 + (1 + j)) by omega]
    · obtain ⟨i, rfl⟩ : ∃ z, i = 1 + z := ⟨i - 1, by omega⟩
      obtain ⟨g1, g2⟩ := hin i (by omega)
      rw [celF_I ad cy _ _ g1 (by decide)]
      show F.heap[ad (k0 + (1 + i))]? = some (vp_cell _ _)
      rw [show ad (k0 + (1 + i)) = H.size + 1 + i by have := had k0; have := had (k0 + (1 + i)); omega, hrow i (by omega), g2]
      show some ({ cls := cy 14, slots := Array.replicate k.toNatClampNeg (.int 0), vm := .none } : Cell) = _
      rw [arrV_new]
      refine congrArg some (arrV_cong (g := fun j => Value.int (gI (zrn mem k0 (1 + n.toNatClampNeg)) (k0 + (1 + i)) j)) (fun j hj => ?_))
      show Value.int 0 = Value.int (gI (zrn mem k0 (1 + n.toNatClampNeg)) (k0 + (1 + i)) j)
      rw [show gI (zrn mem k0 (1 + n.toNatClampNeg)) (k0 + (1 + i)) j = 0 from if_pos (by omega)]) (fun j hj => celF_cong (fun z => if_neg (by omega)) (fun z => if_neg (by omega)) (fun z => if_neg (by omega)) (fun z => by simp only [fT]; rw [if_neg (by omega)]))
  obtain ⟨t, a1, b1⟩ := h F.heap locs ls q1 q2 q3 hL F rfl X'
  refine ⟨t, step t ?_, b1⟩
  have e : T.heap.size = ad k0 := by rw [hT, hz]
  rw [e]
  exact a1

end ConRows
