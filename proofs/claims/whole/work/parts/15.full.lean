theorem wlF_full {Λ : Ly} {ad : Nat → Nat} {cy : Nat → ClassId} {m : Mm} {fl : Fl} (h1 : ∀ i, i < Λ.2.2 → Λ.1 i < 13 → ∀ k, k < (fcl (Λ.1 i)).length → ((fcl (Λ.1 i)).getD k 0 = 0 ∨ (fcl (Λ.1 i)).getD k 0 = 1 ∨ fl i k = true)) (h2 : ∀ i, i < Λ.2.2 → 17 ≤ Λ.1 i → ∀ k, fl i k = true) : wlF Λ ad cy m fl Λ.2.2 = wld Λ ad cy m := by
  unfold wlF wld
  apply List.map_congr_left
  intro i hi
  have hi := List.mem_range.mp hi
  refine congrArg (fun e => (ad i, e)) ?_
  by_cases h13 : Λ.1 i < 13
  · rw [celF_O ad cy m fl rfl h13, cel_O ad cy m rfl h13]
    refine congrArg (fun l => (Sum.inr (Λ.1 i, l) : va_E)) ?_
    apply List.ext_getElem?
    intro k
    rw [List.getElem?_mapIdx, List.getElem?_mapIdx]
    by_cases hk : k < (fcl (Λ.1 i)).length
    · have h := h1 i hi h13 k hk
      rw [List.getD_eq_getElem?_getD, List.getElem?_eq_getElem hk, Option.getD_some] at h
      rw [List.getElem?_eq_getElem hk]
      simp only [Option.map_some, slF]
      rcases h with h | h | h
      · rw [if_pos (Or.inl h)]
      · rw [if_pos (Or.inr h)]
      · rw [h]; simp
    · rw [List.getElem?_eq_none (Nat.le_of_not_lt hk)]
      rfl
  · by_cases h17 : 17 ≤ Λ.1 i
    · rw [celF_R ad cy m fl rfl h17, cel_R ad cy m rfl h17]
      have hq := h2 i hi h17
      simp only [hq, if_true]
    · unfold celF cel
      rw [if_neg h13, if_neg h13]
      by_cases h15 : Λ.1 i = 15
      · rw [if_pos h15, if_pos h15]
      · rw [if_neg h15, if_neg h15, if_pos (by omega), if_pos (by omega)]
set_option maxHeartbeats 8000000 in
set_option maxRecDepth 100000 in
theorem lp_full_a (fl : Fl) : ∀ i, i < 166 → Lp.1 i < 13 → ∀ k, k < (fcl (Lp.1 i)).length → ((fcl (Lp.1 i)).getD k 0 = 0 ∨ (fcl (Lp.1 i)).getD k 0 = 1 ∨ if_11 fl i k = true) := by
  intro i hi h13
  match i, hi, h13 with
  | 0, _, _ =>
    intro k hk
    match k, hk with
    | 0, _ => exact Or.inr (Or.inr rfl)
    | 1, _ => exact Or.inr (Or.inr rfl)
    | 2, _ => exact Or.inr (Or.inr rfl)
    | 3, _ => exact Or.inr (Or.inr rfl)
    | 4, _ => exact Or.inr (Or.inr rfl)
    | 5, _ => exact Or.inr (Or.inr rfl)
    | 6, _ => exact Or.inr (Or.inr rfl)
    | 7, _ => exact Or.inr (Or.inr rfl)
    | 8, _ => exact Or.inr (Or.inr rfl)
    | 9, _ => exact Or.inr (Or.inr rfl)
    | 10, _ => exact Or.inr (Or.inr rfl)
    | 11, _ => exact Or.inr (Or.inr rfl)
    | 12, _ => exact Or.inr (Or.inr rfl)
    | 13, _ => exact Or.inl rfl
    | 14, _ => exact Or.inl rfl
    | 15, _ => exact Or.inr (Or.inr rfl)
    | 16, _ => exact Or.inr (Or.inl rfl)
    | k + 17, h => exact absurd (show k + 17 < 17 from h) (by omega)
  | 1, _, _ =>
    intro k hk
    match k, hk with
    | 0, _ => exact Or.inr (Or.inr rfl)
    | 1, _ => exact Or.inl rfl
    | 2, _ => exact Or.inl rfl
    | 3, _ => exact Or.inl rfl
    | 4, _ => exact Or.inl rfl
    | 5, _ => exact Or.inl rfl
    | 6, _ => exact Or.inr (Or.inl rfl)
    | k + 7, h => exact absurd (show k + 7 < 7 from h) (by omega)
  | 2, _, h => exact absurd h (by decide)
  | 3, _, _ =>
    intro k hk
    match k, hk with
    | 0, _ => exact Or.inr (Or.inr rfl)
    | 1, _ => exact Or.inl rfl
    | 2, _ => exact Or.inl rfl
    | k + 3, h => exact absurd (show k + 3 < 3 from h) (by omega)
  | 4, _, _ =>
    intro k hk
    match k, hk with
    | 0, _ => exact Or.inr (Or.inr rfl)
    | 1, _ => exact Or.inr (Or.inr rfl)
    | 2, _ => exact Or.inr (Or.inr rfl)
    | 3, _ => exact Or.inr (Or.inr rfl)
    | 4, _ => exact Or.inr (Or.inr rfl)
    | 5, _ => exact Or.inr (Or.inr rfl)
    | 6, _ => exact Or.inl rfl
    | 7, _ => exact Or.inl rfl
    | 8, _ => exact Or.inl rfl
    | 9, _ => exact Or.inl rfl
    | 10, _ => exact Or.inl rfl
    | 11, _ => exact Or.inl rfl
    | 12, _ => exact Or.inl rfl
    | 13, _ => exact Or.inl rfl
    | k + 14, h => exact absurd (show k + 14 < 14 from h) (by omega)
  | 5, _, h => exact absurd h (by decide)
  | 6, _, h => exact absurd h (by decide)
  | 7, _, h => exact absurd h (by decide)
  | 8, _, h => exact absurd h (by decide)
  | 9, _, h => exact absurd h (by decide)
  | 10, _, h => exact absurd h (by decide)
  | 11, _, h => exact absurd h (by decide)
  | 12, _, h => exact absurd h (by decide)
  | 13, _, h => exact absurd h (by decide)
  | 14, _, _ =>
    intro k hk
    match k, hk with
    | 0, _ => exact Or.inr (Or.inr rfl)
    | 1, _ => exact Or.inr (Or.inr rfl)
    | 2, _ => exact Or.inl rfl
    | 3, _ => exact Or.inl rfl
    | 4, _ => exact Or.inl rfl
    | k + 5, h => exact absurd (show k + 5 < 5 from h) (by omega)
  | 15, _, h => exact absurd h (by decide)
  | 16, _, h => exact absurd h (by decide)
  | 17, _, _ =>
    intro k hk
    match k, hk with
    | 0, _ => exact Or.inr (Or.inr rfl)
    | 1, _ => exact Or.inr (Or.inr rfl)
    | 2, _ => exact Or.inl rfl
    | 3, _ => exact Or.inl rfl
    | 4, _ => exact Or.inl rfl
    | k + 5, h => exact absurd (show k + 5 < 5 from h) (by omega)
  | 18, _, h => exact absurd h (by decide)
  | 19, _, h => exact absurd h (by decide)
  | 20, _, _ =>
    intro k hk
    match k, hk with
    | 0, _ => exact Or.inr (Or.inr rfl)
    | 1, _ => exact Or.inl rfl
    | 2, _ => exact Or.inr (Or.inl rfl)
    | 3, _ => exact Or.inl rfl
    | 4, _ => exact Or.inl rfl
    | 5, _ => exact Or.inl rfl
    | 6, _ => exact Or.inl rfl
    | 7, _ => exact Or.inl rfl
    | 8, _ => exact Or.inl rfl
    | k + 9, h => exact absurd (show k + 9 < 9 from h) (by omega)
  | 21, _, h => exact absurd h (by decide)
  | 22, _, _ =>
    intro k hk
    match k, hk with
    | 0, _ => exact Or.inr (Or.inr rfl)
    | 1, _ => exact Or.inl rfl
    | 2, _ => exact Or.inr (Or.inl rfl)
    | 3, _ => exact Or.inl rfl
    | 4, _ => exact Or.inl rfl
    | 5, _ => exact Or.inl rfl
    | 6, _ => exact Or.inl rfl
    | 7, _ => exact Or.inl rfl
    | 8, _ => exact Or.inl rfl
    | k + 9, h => exact absurd (show k + 9 < 9 from h) (by omega)
  | 23, _, h => exact absurd h (by decide)
  | 24, _, _ =>
    intro k hk
    match k, hk with
    | 0, _ => exact Or.inr (Or.inr rfl)
    | 1, _ => exact Or.inl rfl
    | 2, _ => exact Or.inr (Or.inl rfl)
    | 3, _ => exact Or.inl rfl
    | 4, _ => exact Or.inl rfl
    | 5, _ => exact Or.inl rfl
    | 6, _ => exact Or.inl rfl
    | 7, _ => exact Or.inl rfl
    | 8, _ => exact Or.inl rfl
    | k + 9, h => exact absurd (show k + 9 < 9 from h) (by omega)
  | 25, _, h => exact absurd h (by decide)
  | 26, _, _ =>
    intro k hk
    match k, hk with
    | 0, _ => exact Or.inr (Or.inr rfl)
    | 1, _ => exact Or.inl rfl
    | 2, _ => exact Or.inr (Or.inl rfl)
    | 3, _ => exact Or.inl rfl
    | 4, _ => exact Or.inl rfl
    | 5, _ => exact Or.inl rfl
    | 6, _ => exact Or.inl rfl
    | 7, _ => exact Or.inl rfl
    | 8, _ => exact Or.inl rfl
    | k + 9, h => exact absurd (show k + 9 < 9 from h) (by omega)
  | 27, _, h => exact absurd h (by decide)
  | 28, _, _ =>
    intro k hk
    match k, hk with
    | 0, _ => exact Or.inr (Or.inr rfl)
    | 1, _ => exact Or.inl rfl
    | 2, _ => exact Or.inr (Or.inl rfl)
    | 3, _ => exact Or.inl rfl
    | 4, _ => exact Or.inl rfl
    | 5, _ => exact Or.inl rfl
    | 6, _ => exact Or.inl rfl
    | 7, _ => exact Or.inl rfl
    | 8, _ => exact Or.inl rfl
    | k + 9, h => exact absurd (show k + 9 < 9 from h) (by omega)
  | 29, _, h => exact absurd h (by decide)
  | 30, _, _ =>
    intro k hk
    match k, hk with
    | 0, _ => exact Or.inr (Or.inr rfl)
    | 1, _ => exact Or.inl rfl
    | 2, _ => exact Or.inr (Or.inl rfl)
    | 3, _ => exact Or.inl rfl
    | 4, _ => exact Or.inl rfl
    | 5, _ => exact Or.inl rfl
    | 6, _ => exact Or.inl rfl
    | 7, _ => exact Or.inl rfl
    | 8, _ => exact Or.inl rfl
    | k + 9, h => exact absurd (show k + 9 < 9 from h) (by omega)
  | 31, _, h => exact absurd h (by decide)
  | 32, _, _ =>
    intro k hk
    match k, hk with
    | 0, _ => exact Or.inr (Or.inr rfl)
    | 1, _ => exact Or.inl rfl
    | 2, _ => exact Or.inr (Or.inl rfl)
    | 3, _ => exact Or.inl rfl
    | 4, _ => exact Or.inl rfl
    | 5, _ => exact Or.inl rfl
    | 6, _ => exact Or.inl rfl
    | 7, _ => exact Or.inl rfl
    | 8, _ => exact Or.inl rfl
    | k + 9, h => exact absurd (show k + 9 < 9 from h) (by omega)
  | 33, _, h => exact absurd h (by decide)
  | 34, _, _ =>
    intro k hk
    match k, hk with
    | 0, _ => exact Or.inr (Or.inr rfl)
    | 1, _ => exact Or.inr (Or.inr rfl)
    | 2, _ => exact Or.inr (Or.inr rfl)
    | 3, _ => exact Or.inr (Or.inr rfl)
    | 4, _ => exact Or.inr (Or.inr rfl)
    | 5, _ => exact Or.inr (Or.inr rfl)
    | 6, _ => exact Or.inl rfl
    | 7, _ => exact Or.inl rfl
    | 8, _ => exact Or.inl rfl
    | 9, _ => exact Or.inl rfl
    | 10, _ => exact Or.inl rfl
    | 11, _ => exact Or.inl rfl
    | 12, _ => exact Or.inl rfl
    | 13, _ => exact Or.inl rfl
    | k + 14, h => exact absurd (show k + 14 < 14 from h) (by omega)
  | 35, _, h => exact absurd h (by decide)
  | 36, _, h => exact absurd h (by decide)
  | 37, _, h => exact absurd h (by decide)
  | 38, _, h => exact absurd h (by decide)
  | 39, _, h => exact absurd h (by decide)
  | 40, _, h => exact absurd h (by decide)
  | 41, _, h => exact absurd h (by decide)
  | 42, _, h => exact absurd h (by decide)
  | 43, _, h => exact absurd h (by decide)
  | 44, _, _ =>
    intro k hk
    match k, hk with
    | 0, _ => exact Or.inr (Or.inr rfl)
    | 1, _ => exact Or.inr (Or.inr rfl)
    | 2, _ => exact Or.inl rfl
    | 3, _ => exact Or.inl rfl
    | 4, _ => exact Or.inl rfl
    | k + 5, h => exact absurd (show k + 5 < 5 from h) (by omega)
  | 45, _, h => exact absurd h (by decide)
  | 46, _, h => exact absurd h (by decide)
  | 47, _, _ =>
    intro k hk
    match k, hk with
    | 0, _ => exact Or.inr (Or.inr rfl)
    | 1, _ => exact Or.inr (Or.inr rfl)
    | 2, _ => exact Or.inl rfl
    | 3, _ => exact Or.inl rfl
    | 4, _ => exact Or.inl rfl
    | k + 5, h => exact absurd (show k + 5 < 5 from h) (by omega)
  | 48, _, h => exact absurd h (by decide)
  | 49, _, h => exact absurd h (by decide)
  | 50, _, _ =>
    intro k hk
    match k, hk with
    | 0, _ => exact Or.inr (Or.inr rfl)
    | 1, _ => exact Or.inl rfl
    | 2, _ => exact Or.inr (Or.inl rfl)
    | 3, _ => exact Or.inl rfl
    | 4, _ => exact Or.inl rfl
    | 5, _ => exact Or.inl rfl
    | 6, _ => exact Or.inl rfl
    | 7, _ => exact Or.inl rfl
    | 8, _ => exact Or.inl rfl
    | k + 9, h => exact absurd (show k + 9 < 9 from h) (by omega)
  | 51, _, h => exact absurd h (by decide)
  | 52, _, _ =>
    intro k hk
    match k, hk with
    | 0, _ => exact Or.inr (Or.inr rfl)
    | 1, _ => exact Or.inl rfl
    | 2, _ => exact Or.inr (Or.inl rfl)
    | 3, _ => exact Or.inl rfl
    | 4, _ => exact Or.inl rfl
    | 5, _ => exact Or.inl rfl
    | 6, _ => exact Or.inl rfl
    | 7, _ => exact Or.inl rfl
    | 8, _ => exact Or.inl rfl
    | k + 9, h => exact absurd (show k + 9 < 9 from h) (by omega)
  | 53, _, h => exact absurd h (by decide)
  | 54, _, _ =>
    intro k hk
    match k, hk with
    | 0, _ => exact Or.inr (Or.inr rfl)
    | 1, _ => exact Or.inl rfl
    | 2, _ => exact Or.inr (Or.inl rfl)
    | 3, _ => exact Or.inl rfl
    | 4, _ => exact Or.inl rfl
    | 5, _ => exact Or.inl rfl
    | 6, _ => exact Or.inl rfl
    | 7, _ => exact Or.inl rfl
    | 8, _ => exact Or.inl rfl
    | k + 9, h => exact absurd (show k + 9 < 9 from h) (by omega)
  | 55, _, h => exact absurd h (by decide)
  | 56, _, _ =>
    intro k hk
    match k, hk with
    | 0, _ => exact Or.inr (Or.inr rfl)
    | 1, _ => exact Or.inl rfl
    | 2, _ => exact Or.inr (Or.inl rfl)
    | 3, _ => exact Or.inl rfl
    | 4, _ => exact Or.inl rfl
    | 5, _ => exact Or.inl rfl
    | 6, _ => exact Or.inl rfl
    | 7, _ => exact Or.inl rfl
    | 8, _ => exact Or.inl rfl
    | k + 9, h => exact absurd (show k + 9 < 9 from h) (by omega)
  | 57, _, h => exact absurd h (by decide)
  | 58, _, _ =>
    intro k hk
    match k, hk with
    | 0, _ => exact Or.inr (Or.inr rfl)
    | 1, _ => exact Or.inl rfl
    | 2, _ => exact Or.inr (Or.inl rfl)
    | 3, _ => exact Or.inl rfl
    | 4, _ => exact Or.inl rfl
    | 5, _ => exact Or.inl rfl
    | 6, _ => exact Or.inl rfl
    | 7, _ => exact Or.inl rfl
    | 8, _ => exact Or.inl rfl
    | k + 9, h => exact absurd (show k + 9 < 9 from h) (by omega)
  | 59, _, h => exact absurd h (by decide)
  | 60, _, _ =>
    intro k hk
    match k, hk with
    | 0, _ => exact Or.inr (Or.inr rfl)
    | 1, _ => exact Or.inl rfl
    | 2, _ => exact Or.inr (Or.inl rfl)
    | 3, _ => exact Or.inl rfl
    | 4, _ => exact Or.inl rfl
    | 5, _ => exact Or.inl rfl
    | 6, _ => exact Or.inl rfl
    | 7, _ => exact Or.inl rfl
    | 8, _ => exact Or.inl rfl
    | k + 9, h => exact absurd (show k + 9 < 9 from h) (by omega)
  | 61, _, h => exact absurd h (by decide)
  | 62, _, _ =>
    intro k hk
    match k, hk with
    | 0, _ => exact Or.inr (Or.inr rfl)
    | 1, _ => exact Or.inl rfl
    | 2, _ => exact Or.inr (Or.inl rfl)
    | 3, _ => exact Or.inl rfl
    | 4, _ => exact Or.inl rfl
    | 5, _ => exact Or.inl rfl
    | 6, _ => exact Or.inl rfl
    | 7, _ => exact Or.inl rfl
    | 8, _ => exact Or.inl rfl
    | k + 9, h => exact absurd (show k + 9 < 9 from h) (by omega)
  | 63, _, h => exact absurd h (by decide)
  | 64, _, _ =>
    intro k hk
    match k, hk with
    | 0, _ => exact Or.inr (Or.inr rfl)
    | 1, _ => exact Or.inl rfl
    | 2, _ => exact Or.inl rfl
    | 3, _ => exact Or.inl rfl
    | 4, _ => exact Or.inl rfl
    | 5, _ => exact Or.inl rfl
    | k + 6, h => exact absurd (show k + 6 < 6 from h) (by omega)
  | 65, _, h => exact absurd h (by decide)
  | 66, _, _ =>
    intro k hk
    match k, hk with
    | 0, _ => exact Or.inr (Or.inr rfl)
    | 1, _ => exact Or.inl rfl
    | 2, _ => exact Or.inl rfl
    | 3, _ => exact Or.inl rfl
    | 4, _ => exact Or.inl rfl
    | 5, _ => exact Or.inl rfl
    | k + 6, h => exact absurd (show k + 6 < 6 from h) (by omega)
  | 67, _, h => exact absurd h (by decide)
  | 68, _, _ =>
    intro k hk
    match k, hk with
    | 0, _ => exact Or.inr (Or.inr rfl)
    | 1, _ => exact Or.inr (Or.inr rfl)
    | 2, _ => exact Or.inr (Or.inr rfl)
    | 3, _ => exact Or.inl rfl
    | k + 4, h => exact absurd (show k + 4 < 4 from h) (by omega)
  | 69, _, h => exact absurd h (by decide)
  | 70, _, h => exact absurd h (by decide)
  | 71, _, h => exact absurd h (by decide)
  | 72, _, _ =>
    intro k hk
    match k, hk with
    | 0, _ => exact Or.inr (Or.inr rfl)
    | 1, _ => exact Or.inr (Or.inr rfl)
    | 2, _ => exact Or.inr (Or.inr rfl)
    | 3, _ => exact Or.inl rfl
    | k + 4, h => exact absurd (show k + 4 < 4 from h) (by omega)
  | 73, _, h => exact absurd h (by decide)
  | 74, _, h => exact absurd h (by decide)
  | 75, _, h => exact absurd h (by decide)
  | 76, _, _ =>
    intro k hk
    match k, hk with
    | 0, _ => exact Or.inr (Or.inr rfl)
    | 1, _ => exact Or.inr (Or.inr rfl)
    | 2, _ => exact Or.inl rfl
    | k + 3, h => exact absurd (show k + 3 < 3 from h) (by omega)
  | 77, _, h => exact absurd h (by decide)
  | 78, _, h => exact absurd h (by decide)
  | 79, _, _ =>
    intro k hk
    match k, hk with
    | 0, _ => exact Or.inr (Or.inr rfl)
    | 1, _ => exact Or.inr (Or.inr rfl)
    | 2, _ => exact Or.inl rfl
    | 3, _ => exact Or.inl rfl
    | 4, _ => exact Or.inl rfl
    | k + 5, h => exact absurd (show k + 5 < 5 from h) (by omega)
  | 80, _, h => exact absurd h (by decide)
  | 81, _, h => exact absurd h (by decide)
  | 82, _, _ =>
    intro k hk
    match k, hk with
    | 0, _ => exact Or.inr (Or.inr rfl)
    | 1, _ => exact Or.inr (Or.inr rfl)
    | 2, _ => exact Or.inr (Or.inr rfl)
    | 3, _ => exact Or.inr (Or.inr rfl)
    | 4, _ => exact Or.inr (Or.inr rfl)
    | 5, _ => exact Or.inr (Or.inr rfl)
    | 6, _ => exact Or.inr (Or.inr rfl)
    | 7, _ => exact Or.inr (Or.inr rfl)
    | 8, _ => exact Or.inl rfl
    | 9, _ => exact Or.inl rfl
    | 10, _ => exact Or.inl rfl
    | 11, _ => exact Or.inl rfl
    | 12, _ => exact Or.inl rfl
    | 13, _ => exact Or.inl rfl
    | 14, _ => exact Or.inr (Or.inr rfl)
    | k + 15, h => exact absurd (show k + 15 < 15 from h) (by omega)
  | 83, _, h => exact absurd h (by decide)
  | 84, _, h => exact absurd h (by decide)
  | 85, _, h => exact absurd h (by decide)
  | 86, _, h => exact absurd h (by decide)
  | 87, _, h => exact absurd h (by decide)
  | 88, _, h => exact absurd h (by decide)
  | 89, _, h => exact absurd h (by decide)
  | 90, _, h => exact absurd h (by decide)
  | 91, _, h => exact absurd h (by decide)
  | 92, _, _ =>
    intro k hk
    match k, hk with
    | 0, _ => exact Or.inr (Or.inr rfl)
    | 1, _ => exact Or.inr (Or.inr rfl)
    | 2, _ => exact Or.inr (Or.inr rfl)
    | 3, _ => exact Or.inl rfl
    | k + 4, h => exact absurd (show k + 4 < 4 from h) (by omega)
  | 93, _, _ =>
    intro k hk
    match k, hk with
    | 0, _ => exact Or.inr (Or.inr rfl)
    | 1, _ => exact Or.inl rfl
    | 2, _ => exact Or.inl rfl
    | 3, _ => exact Or.inl rfl
    | 4, _ => exact Or.inl rfl
    | 5, _ => exact Or.inl rfl
    | k + 6, h => exact absurd (show k + 6 < 6 from h) (by omega)
  | 94, _, h => exact absurd h (by decide)
  | 95, _, _ =>
    intro k hk
    match k, hk with
    | 0, _ => exact Or.inr (Or.inr rfl)
    | 1, _ => exact Or.inr (Or.inr rfl)
    | 2, _ => exact Or.inr (Or.inr rfl)
    | 3, _ => exact Or.inl rfl
    | k + 4, h => exact absurd (show k + 4 < 4 from h) (by omega)
  | 96, _, h => exact absurd h (by decide)
  | 97, _, h => exact absurd h (by decide)
  | 98, _, h => exact absurd h (by decide)
  | 99, _, _ =>
    intro k hk
    match k, hk with
    | 0, _ => exact Or.inr (Or.inr rfl)
    | 1, _ => exact Or.inr (Or.inr rfl)
    | 2, _ => exact Or.inl rfl
    | k + 3, h => exact absurd (show k + 3 < 3 from h) (by omega)
  | 100, _, h => exact absurd h (by decide)
  | 101, _, h => exact absurd h (by decide)
  | 102, _, _ =>
    intro k hk
    match k, hk with
    | 0, _ => exact Or.inr (Or.inr rfl)
    | 1, _ => exact Or.inr (Or.inr rfl)
    | 2, _ => exact Or.inr (Or.inr rfl)
    | 3, _ => exact Or.inl rfl
    | k + 4, h => exact absurd (show k + 4 < 4 from h) (by omega)
  | 103, _, _ =>
    intro k hk
    match k, hk with
    | 0, _ => exact Or.inr (Or.inr rfl)
    | 1, _ => exact Or.inl rfl
    | 2, _ => exact Or.inl rfl
    | 3, _ => exact Or.inl rfl
    | 4, _ => exact Or.inl rfl
    | 5, _ => exact Or.inl rfl
    | k + 6, h => exact absurd (show k + 6 < 6 from h) (by omega)
  | 104, _, h => exact absurd h (by decide)
  | 105, _, _ =>
    intro k hk
    match k, hk with
    | 0, _ => exact Or.inr (Or.inr rfl)
    | 1, _ => exact Or.inr (Or.inr rfl)
    | 2, _ => exact Or.inr (Or.inr rfl)
    | 3, _ => exact Or.inl rfl
    | k + 4, h => exact absurd (show k + 4 < 4 from h) (by omega)
  | 106, _, h => exact absurd h (by decide)
  | 107, _, h => exact absurd h (by decide)
  | 108, _, h => exact absurd h (by decide)
  | 109, _, _ =>
    intro k hk
    match k, hk with
    | 0, _ => exact Or.inr (Or.inr rfl)
    | 1, _ => exact Or.inr (Or.inr rfl)
    | 2, _ => exact Or.inl rfl
    | k + 3, h => exact absurd (show k + 3 < 3 from h) (by omega)
  | 110, _, h => exact absurd h (by decide)
  | 111, _, h => exact absurd h (by decide)
  | 112, _, _ =>
    intro k hk
    match k, hk with
    | 0, _ => exact Or.inr (Or.inr rfl)
    | 1, _ => exact Or.inr (Or.inr rfl)
    | 2, _ => exact Or.inr (Or.inr rfl)
    | 3, _ => exact Or.inl rfl
    | k + 4, h => exact absurd (show k + 4 < 4 from h) (by omega)
  | 113, _, _ =>
    intro k hk
    match k, hk with
    | 0, _ => exact Or.inr (Or.inr rfl)
    | 1, _ => exact Or.inl rfl
    | 2, _ => exact Or.inl rfl
    | 3, _ => exact Or.inl rfl
    | 4, _ => exact Or.inl rfl
    | 5, _ => exact Or.inl rfl
    | k + 6, h => exact absurd (show k + 6 < 6 from h) (by omega)
  | 114, _, h => exact absurd h (by decide)
  | 115, _, _ =>
    intro k hk
    match k, hk with
    | 0, _ => exact Or.inr (Or.inr rfl)
    | 1, _ => exact Or.inr (Or.inr rfl)
    | 2, _ => exact Or.inr (Or.inr rfl)
    | 3, _ => exact Or.inl rfl
    | k + 4, h => exact absurd (show k + 4 < 4 from h) (by omega)
  | 116, _, h => exact absurd h (by decide)
  | 117, _, h => exact absurd h (by decide)
  | 118, _, h => exact absurd h (by decide)
  | 119, _, _ =>
    intro k hk
    match k, hk with
    | 0, _ => exact Or.inr (Or.inr rfl)
    | 1, _ => exact Or.inr (Or.inr rfl)
    | 2, _ => exact Or.inl rfl
    | k + 3, h => exact absurd (show k + 3 < 3 from h) (by omega)
  | 120, _, h => exact absurd h (by decide)
  | 121, _, h => exact absurd h (by decide)
  | 122, _, _ =>
    intro k hk
    match k, hk with
    | 0, _ => exact Or.inr (Or.inr rfl)
    | 1, _ => exact Or.inr (Or.inr rfl)
    | 2, _ => exact Or.inr (Or.inr rfl)
    | 3, _ => exact Or.inl rfl
    | k + 4, h => exact absurd (show k + 4 < 4 from h) (by omega)
  | 123, _, _ =>
    intro k hk
    match k, hk with
    | 0, _ => exact Or.inr (Or.inr rfl)
    | 1, _ => exact Or.inl rfl
    | 2, _ => exact Or.inl rfl
    | 3, _ => exact Or.inl rfl
    | 4, _ => exact Or.inl rfl
    | 5, _ => exact Or.inl rfl
    | k + 6, h => exact absurd (show k + 6 < 6 from h) (by omega)
  | 124, _, h => exact absurd h (by decide)
  | 125, _, _ =>
    intro k hk
    match k, hk with
    | 0, _ => exact Or.inr (Or.inr rfl)
    | 1, _ => exact Or.inr (Or.inr rfl)
    | 2, _ => exact Or.inr (Or.inr rfl)
    | 3, _ => exact Or.inl rfl
    | k + 4, h => exact absurd (show k + 4 < 4 from h) (by omega)
  | 126, _, h => exact absurd h (by decide)
  | 127, _, h => exact absurd h (by decide)
  | 128, _, h => exact absurd h (by decide)
  | 129, _, _ =>
    intro k hk
    match k, hk with
    | 0, _ => exact Or.inr (Or.inr rfl)
    | 1, _ => exact Or.inr (Or.inr rfl)
    | 2, _ => exact Or.inl rfl
    | k + 3, h => exact absurd (show k + 3 < 3 from h) (by omega)
  | 130, _, h => exact absurd h (by decide)
  | 131, _, h => exact absurd h (by decide)
  | 132, _, h => exact absurd h (by decide)
  | 133, _, _ =>
    intro k hk
    match k, hk with
    | 0, _ => exact Or.inr (Or.inr rfl)
    | 1, _ => exact Or.inl rfl
    | 2, _ => exact Or.inl rfl
    | 3, _ => exact Or.inl rfl
    | 4, _ => exact Or.inl rfl
    | 5, _ => exact Or.inl rfl
    | k + 6, h => exact absurd (show k + 6 < 6 from h) (by omega)
  | 134, _, h => exact absurd h (by decide)
  | 135, _, _ =>
    intro k hk
    match k, hk with
    | 0, _ => exact Or.inr (Or.inr rfl)
    | 1, _ => exact Or.inl rfl
    | 2, _ => exact Or.inl rfl
    | 3, _ => exact Or.inl rfl
    | 4, _ => exact Or.inl rfl
    | 5, _ => exact Or.inl rfl
    | k + 6, h => exact absurd (show k + 6 < 6 from h) (by omega)
  | 136, _, h => exact absurd h (by decide)
  | 137, _, _ =>
    intro k hk
    match k, hk with
    | 0, _ => exact Or.inr (Or.inr rfl)
    | 1, _ => exact Or.inl rfl
    | 2, _ => exact Or.inl rfl
    | 3, _ => exact Or.inl rfl
    | 4, _ => exact Or.inl rfl
    | 5, _ => exact Or.inl rfl
    | k + 6, h => exact absurd (show k + 6 < 6 from h) (by omega)
  | 138, _, h => exact absurd h (by decide)
  | 139, _, _ =>
    intro k hk
    match k, hk with
    | 0, _ => exact Or.inr (Or.inr rfl)
    | 1, _ => exact Or.inl rfl
    | 2, _ => exact Or.inl rfl
    | 3, _ => exact Or.inl rfl
    | 4, _ => exact Or.inl rfl
    | 5, _ => exact Or.inl rfl
    | k + 6, h => exact absurd (show k + 6 < 6 from h) (by omega)
  | 140, _, h => exact absurd h (by decide)
  | 141, _, _ =>
    intro k hk
    match k, hk with
    | 0, _ => exact Or.inr (Or.inr rfl)
    | 1, _ => exact Or.inl rfl
    | 2, _ => exact Or.inl rfl
    | 3, _ => exact Or.inl rfl
    | 4, _ => exact Or.inl rfl
    | 5, _ => exact Or.inl rfl
    | k + 6, h => exact absurd (show k + 6 < 6 from h) (by omega)
  | 142, _, h => exact absurd h (by decide)
  | 143, _, _ =>
    intro k hk
    match k, hk with
    | 0, _ => exact Or.inr (Or.inr rfl)
    | 1, _ => exact Or.inl rfl
    | 2, _ => exact Or.inl rfl
    | 3, _ => exact Or.inl rfl
    | 4, _ => exact Or.inl rfl
    | 5, _ => exact Or.inl rfl
    | k + 6, h => exact absurd (show k + 6 < 6 from h) (by omega)
  | 144, _, h => exact absurd h (by decide)
  | 145, _, _ =>
    intro k hk
    match k, hk with
    | 0, _ => exact Or.inr (Or.inr rfl)
    | 1, _ => exact Or.inl rfl
    | 2, _ => exact Or.inl rfl
    | 3, _ => exact Or.inl rfl
    | 4, _ => exact Or.inl rfl
    | 5, _ => exact Or.inl rfl
    | k + 6, h => exact absurd (show k + 6 < 6 from h) (by omega)
  | 146, _, h => exact absurd h (by decide)
  | 147, _, _ =>
    intro k hk
    match k, hk with
    | 0, _ => exact Or.inr (Or.inr rfl)
    | 1, _ => exact Or.inl rfl
    | 2, _ => exact Or.inl rfl
    | 3, _ => exact Or.inl rfl
    | 4, _ => exact Or.inl rfl
    | 5, _ => exact Or.inl rfl
    | k + 6, h => exact absurd (show k + 6 < 6 from h) (by omega)
  | 148, _, h => exact absurd h (by decide)
  | 149, _, _ =>
    intro k hk
    match k, hk with
    | 0, _ => exact Or.inr (Or.inr rfl)
    | 1, _ => exact Or.inl rfl
    | 2, _ => exact Or.inl rfl
    | 3, _ => exact Or.inl rfl
    | 4, _ => exact Or.inl rfl
    | 5, _ => exact Or.inl rfl
    | k + 6, h => exact absurd (show k + 6 < 6 from h) (by omega)
  | 150, _, h => exact absurd h (by decide)
  | 151, _, _ =>
    intro k hk
    match k, hk with
    | 0, _ => exact Or.inr (Or.inr rfl)
    | 1, _ => exact Or.inl rfl
    | 2, _ => exact Or.inl rfl
    | 3, _ => exact Or.inl rfl
    | 4, _ => exact Or.inl rfl
    | 5, _ => exact Or.inl rfl
    | k + 6, h => exact absurd (show k + 6 < 6 from h) (by omega)
  | 152, _, h => exact absurd h (by decide)
  | 153, _, _ =>
    intro k hk
    match k, hk with
    | 0, _ => exact Or.inr (Or.inr rfl)
    | 1, _ => exact Or.inl rfl
    | 2, _ => exact Or.inl rfl
    | 3, _ => exact Or.inl rfl
    | 4, _ => exact Or.inl rfl
    | 5, _ => exact Or.inl rfl
    | k + 6, h => exact absurd (show k + 6 < 6 from h) (by omega)
  | 154, _, h => exact absurd h (by decide)
  | 155, _, _ =>
    intro k hk
    match k, hk with
    | 0, _ => exact Or.inr (Or.inr rfl)
    | 1, _ => exact Or.inl rfl
    | 2, _ => exact Or.inl rfl
    | 3, _ => exact Or.inl rfl
    | 4, _ => exact Or.inl rfl
    | 5, _ => exact Or.inl rfl
    | k + 6, h => exact absurd (show k + 6 < 6 from h) (by omega)
  | 156, _, h => exact absurd h (by decide)
  | 157, _, _ =>
    intro k hk
    match k, hk with
    | 0, _ => exact Or.inr (Or.inr rfl)
    | 1, _ => exact Or.inl rfl
    | 2, _ => exact Or.inl rfl
    | 3, _ => exact Or.inl rfl
    | 4, _ => exact Or.inl rfl
    | 5, _ => exact Or.inl rfl
    | k + 6, h => exact absurd (show k + 6 < 6 from h) (by omega)
  | 158, _, h => exact absurd h (by decide)
  | 159, _, _ =>
    intro k hk
    match k, hk with
    | 0, _ => exact Or.inr (Or.inr rfl)
    | 1, _ => exact Or.inl rfl
    | 2, _ => exact Or.inl rfl
    | 3, _ => exact Or.inl rfl
    | 4, _ => exact Or.inl rfl
    | 5, _ => exact Or.inl rfl
    | k + 6, h => exact absurd (show k + 6 < 6 from h) (by omega)
  | 160, _, h => exact absurd h (by decide)
  | 161, _, _ =>
    intro k hk
    match k, hk with
    | 0, _ => exact Or.inr (Or.inr rfl)
    | 1, _ => exact Or.inl rfl
    | 2, _ => exact Or.inl rfl
    | 3, _ => exact Or.inl rfl
    | 4, _ => exact Or.inl rfl
    | 5, _ => exact Or.inl rfl
    | k + 6, h => exact absurd (show k + 6 < 6 from h) (by omega)
  | 162, _, h => exact absurd h (by decide)
  | 163, _, _ =>
    intro k hk
    match k, hk with
    | 0, _ => exact Or.inr (Or.inr rfl)
    | 1, _ => exact Or.inl rfl
    | 2, _ => exact Or.inl rfl
    | 3, _ => exact Or.inl rfl
    | 4, _ => exact Or.inl rfl
    | 5, _ => exact Or.inl rfl
    | k + 6, h => exact absurd (show k + 6 < 6 from h) (by omega)
  | 164, _, h => exact absurd h (by decide)
  | 165, _, h => exact absurd h (by decide)
  | i + 166, h, _ => exact absurd h (by omega)
set_option maxHeartbeats 8000000 in
set_option maxRecDepth 100000 in
theorem lp_full_b (fl : Fl) : ∀ i, i < 166 → 17 ≤ Lp.1 i → ∀ k, if_11 fl i k = true := by
  intro i hi h17
  match i, hi, h17 with
  | 0, _, h => exact absurd h (by decide)
  | 1, _, h => exact absurd h (by decide)
  | 2, _, h => exact absurd h (by decide)
  | 3, _, h => exact absurd h (by decide)
  | 4, _, h => exact absurd h (by decide)
  | 5, _, h => exact absurd h (by decide)
  | 6, _, h => exact absurd h (by decide)
  | 7, _, _ =>
    intro k
    match k with
    | 0 => rfl
    | 1 => rfl
    | 2 => rfl
    | 3 => rfl
    | 4 => rfl
    | k + 5 => rfl
  | 8, _, h => exact absurd h (by decide)
  | 9, _, h => exact absurd h (by decide)
  | 10, _, h => exact absurd h (by decide)
  | 11, _, h => exact absurd h (by decide)
  | 12, _, h => exact absurd h (by decide)
  | 13, _, _ =>
    intro k
    match k with
    | 0 => rfl
    | 1 => rfl
    | 2 => rfl
    | 3 => rfl
    | 4 => rfl
    | 5 => rfl
    | 6 => rfl
    | k + 7 => rfl
  | 14, _, h => exact absurd h (by decide)
  | 15, _, h => exact absurd h (by decide)
  | 16, _, h => exact absurd h (by decide)
  | 17, _, h => exact absurd h (by decide)
  | 18, _, h => exact absurd h (by decide)
  | 19, _, h => exact absurd h (by decide)
  | 20, _, h => exact absurd h (by decide)
  | 21, _, h => exact absurd h (by decide)
  | 22, _, h => exact absurd h (by decide)
  | 23, _, h => exact absurd h (by decide)
  | 24, _, h => exact absurd h (by decide)
  | 25, _, h => exact absurd h (by decide)
  | 26, _, h => exact absurd h (by decide)
  | 27, _, h => exact absurd h (by decide)
  | 28, _, h => exact absurd h (by decide)
  | 29, _, h => exact absurd h (by decide)
  | 30, _, h => exact absurd h (by decide)
  | 31, _, h => exact absurd h (by decide)
  | 32, _, h => exact absurd h (by decide)
  | 33, _, h => exact absurd h (by decide)
  | 34, _, h => exact absurd h (by decide)
  | 35, _, h => exact absurd h (by decide)
  | 36, _, h => exact absurd h (by decide)
  | 37, _, _ =>
    intro k
    match k with
    | 0 => rfl
    | 1 => rfl
    | 2 => rfl
    | 3 => rfl
    | 4 => rfl
    | k + 5 => rfl
  | 38, _, h => exact absurd h (by decide)
  | 39, _, h => exact absurd h (by decide)
  | 40, _, h => exact absurd h (by decide)
  | 41, _, h => exact absurd h (by decide)
  | 42, _, h => exact absurd h (by decide)
  | 43, _, _ =>
    intro k
    match k with
    | 0 => rfl
    | 1 => rfl
    | 2 => rfl
    | 3 => rfl
    | 4 => rfl
    | 5 => rfl
    | 6 => rfl
    | k + 7 => rfl
  | 44, _, h => exact absurd h (by decide)
  | 45, _, h => exact absurd h (by decide)
  | 46, _, h => exact absurd h (by decide)
  | 47, _, h => exact absurd h (by decide)
  | 48, _, h => exact absurd h (by decide)
  | 49, _, h => exact absurd h (by decide)
  | 50, _, h => exact absurd h (by decide)
  | 51, _, h => exact absurd h (by decide)
  | 52, _, h => exact absurd h (by decide)
  | 53, _, h => exact absurd h (by decide)
  | 54, _, h => exact absurd h (by decide)
  | 55, _, h => exact absurd h (by decide)
  | 56, _, h => exact absurd h (by decide)
  | 57, _, h => exact absurd h (by decide)
  | 58, _, h => exact absurd h (by decide)
  | 59, _, h => exact absurd h (by decide)
  | 60, _, h => exact absurd h (by decide)
  | 61, _, h => exact absurd h (by decide)
  | 62, _, h => exact absurd h (by decide)
  | 63, _, h => exact absurd h (by decide)
  | 64, _, h => exact absurd h (by decide)
  | 65, _, h => exact absurd h (by decide)
  | 66, _, h => exact absurd h (by decide)
  | 67, _, h => exact absurd h (by decide)
  | 68, _, h => exact absurd h (by decide)
  | 69, _, h => exact absurd h (by decide)
  | 70, _, h => exact absurd h (by decide)
  | 71, _, h => exact absurd h (by decide)
  | 72, _, h => exact absurd h (by decide)
  | 73, _, h => exact absurd h (by decide)
  | 74, _, h => exact absurd h (by decide)
  | 75, _, h => exact absurd h (by decide)
  | 76, _, h => exact absurd h (by decide)
  | 77, _, h => exact absurd h (by decide)
  | 78, _, h => exact absurd h (by decide)
  | 79, _, h => exact absurd h (by decide)
  | 80, _, h => exact absurd h (by decide)
  | 81, _, h => exact absurd h (by decide)
  | 82, _, h => exact absurd h (by decide)
  | 83, _, h => exact absurd h (by decide)
  | 84, _, h => exact absurd h (by decide)
  | 85, _, h => exact absurd h (by decide)
  | 86, _, h => exact absurd h (by decide)
  | 87, _, h => exact absurd h (by decide)
  | 88, _, h => exact absurd h (by decide)
  | 89, _, h => exact absurd h (by decide)
  | 90, _, h => exact absurd h (by decide)
  | 91, _, _ =>
    intro k
    match k with
    | 0 => rfl
    | 1 => rfl
    | 2 => rfl
    | 3 => rfl
    | k + 4 => rfl
  | 92, _, h => exact absurd h (by decide)
  | 93, _, h => exact absurd h (by decide)
  | 94, _, h => exact absurd h (by decide)
  | 95, _, h => exact absurd h (by decide)
  | 96, _, h => exact absurd h (by decide)
  | 97, _, h => exact absurd h (by decide)
  | 98, _, h => exact absurd h (by decide)
  | 99, _, h => exact absurd h (by decide)
  | 100, _, h => exact absurd h (by decide)
  | 101, _, h => exact absurd h (by decide)
  | 102, _, h => exact absurd h (by decide)
  | 103, _, h => exact absurd h (by decide)
  | 104, _, h => exact absurd h (by decide)
  | 105, _, h => exact absurd h (by decide)
  | 106, _, h => exact absurd h (by decide)
  | 107, _, h => exact absurd h (by decide)
  | 108, _, h => exact absurd h (by decide)
  | 109, _, h => exact absurd h (by decide)
  | 110, _, h => exact absurd h (by decide)
  | 111, _, h => exact absurd h (by decide)
  | 112, _, h => exact absurd h (by decide)
  | 113, _, h => exact absurd h (by decide)
  | 114, _, h => exact absurd h (by decide)
  | 115, _, h => exact absurd h (by decide)
  | 116, _, h => exact absurd h (by decide)
  | 117, _, h => exact absurd h (by decide)
  | 118, _, h => exact absurd h (by decide)
  | 119, _, h => exact absurd h (by decide)
  | 120, _, h => exact absurd h (by decide)
  | 121, _, h => exact absurd h (by decide)
  | 122, _, h => exact absurd h (by decide)
  | 123, _, h => exact absurd h (by decide)
  | 124, _, h => exact absurd h (by decide)
  | 125, _, h => exact absurd h (by decide)
  | 126, _, h => exact absurd h (by decide)
  | 127, _, h => exact absurd h (by decide)
  | 128, _, h => exact absurd h (by decide)
  | 129, _, h => exact absurd h (by decide)
  | 130, _, h => exact absurd h (by decide)
  | 131, _, h => exact absurd h (by decide)
  | 132, _, _ =>
    intro k
    match k with
    | 0 => rfl
    | 1 => rfl
    | 2 => rfl
    | 3 => rfl
    | 4 => rfl
    | 5 => rfl
    | 6 => rfl
    | 7 => rfl
    | 8 => rfl
    | 9 => rfl
    | 10 => rfl
    | 11 => rfl
    | 12 => rfl
    | 13 => rfl
    | 14 => rfl
    | 15 => rfl
    | k + 16 => rfl
  | 133, _, h => exact absurd h (by decide)
  | 134, _, h => exact absurd h (by decide)
  | 135, _, h => exact absurd h (by decide)
  | 136, _, h => exact absurd h (by decide)
  | 137, _, h => exact absurd h (by decide)
  | 138, _, h => exact absurd h (by decide)
  | 139, _, h => exact absurd h (by decide)
  | 140, _, h => exact absurd h (by decide)
  | 141, _, h => exact absurd h (by decide)
  | 142, _, h => exact absurd h (by decide)
  | 143, _, h => exact absurd h (by decide)
  | 144, _, h => exact absurd h (by decide)
  | 145, _, h => exact absurd h (by decide)
  | 146, _, h => exact absurd h (by decide)
  | 147, _, h => exact absurd h (by decide)
  | 148, _, h => exact absurd h (by decide)
  | 149, _, h => exact absurd h (by decide)
  | 150, _, h => exact absurd h (by decide)
  | 151, _, h => exact absurd h (by decide)
  | 152, _, h => exact absurd h (by decide)
  | 153, _, h => exact absurd h (by decide)
  | 154, _, h => exact absurd h (by decide)
  | 155, _, h => exact absurd h (by decide)
  | 156, _, h => exact absurd h (by decide)
  | 157, _, h => exact absurd h (by decide)
  | 158, _, h => exact absurd h (by decide)
  | 159, _, h => exact absurd h (by decide)
  | 160, _, h => exact absurd h (by decide)
  | 161, _, h => exact absurd h (by decide)
  | 162, _, h => exact absurd h (by decide)
  | 163, _, h => exact absurd h (by decide)
  | 164, _, h => exact absurd h (by decide)
  | 165, _, h => exact absurd h (by decide)
  | i + 166, h, _ => exact absurd h (by omega)
theorem lp_full {fl : Fl} {ad : Nat → Nat} {cy : Nat → ClassId} {m : Mm} : wlF Lp ad cy m (if_11 fl) Lp.2.2 = wld Lp ad cy m := wlF_full (lp_full_a fl) (lp_full_b fl)
