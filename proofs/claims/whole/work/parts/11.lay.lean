/-! the layouts: the kinds and lengths of the cells, in the order in which the constructors make them -/
def Lp_k : List Nat := [11, 9, 13, 5, 7, 15, 14, 20, 14, 14, 14, 14, 14, 18, 2, 14, 14, 2, 14, 14, 4, 14, 4, 14, 4, 14, 4, 14, 4, 14, 4, 14, 4, 14, 7, 15, 14, 20, 14, 14, 14, 14, 14, 18, 2, 14, 14, 2, 14, 14, 4, 14, 4, 14, 4, 14, 4, 14, 4, 14, 4, 14, 4, 14, 6, 14, 6, 14, 10, 14, 14, 14, 10, 14, 14, 14, 0, 14, 14, 8, 14, 14, 1, 14, 14, 14, 14, 14, 14, 14, 14, 17, 3, 6, 14, 10, 14, 14, 14, 0, 14, 14, 3, 6, 14, 10, 14, 14, 14, 0, 14, 14, 3, 6, 14, 10, 14, 14, 14, 0, 14, 14, 3, 6, 14, 10, 14, 14, 14, 0, 14, 14, 19, 6, 14, 6, 14, 6, 14, 6, 14, 6, 14, 6, 14, 6, 14, 6, 14, 6, 14, 6, 14, 6, 14, 6, 14, 6, 14, 6, 14, 6, 14, 6, 14, 14]
def Lp_n : List Nat := [0, 0, 1000, 0, 0, 5, 5, 5, 9, 9, 9, 9, 9, 7, 0, 1000, 32, 0, 1000, 32, 0, 18, 0, 18, 0, 18, 0, 18, 0, 18, 0, 18, 0, 18, 0, 5, 5, 5, 9, 9, 9, 9, 9, 7, 0, 1000, 32, 0, 1000, 32, 0, 18, 0, 18, 0, 18, 0, 18, 0, 18, 0, 18, 0, 18, 0, 12, 0, 12, 0, 40, 40, 40, 0, 40, 40, 40, 0, 8, 8, 0, 12, 120, 0, 7, 7, 7, 7, 70, 6, 5, 7, 4, 0, 0, 12, 0, 40, 40, 40, 0, 8, 8, 0, 0, 12, 0, 40, 40, 40, 0, 8, 8, 0, 0, 12, 0, 40, 40, 40, 0, 8, 8, 0, 0, 12, 0, 40, 40, 40, 0, 8, 8, 16, 0, 12, 0, 12, 0, 12, 0, 12, 0, 12, 0, 12, 0, 12, 0, 12, 0, 12, 0, 12, 0, 12, 0, 12, 0, 12, 0, 12, 0, 12, 0, 12, 3]
def Lp : Ly := (fun i => Lp_k.getD i 99, fun i => Lp_n.getD i 0, 166)
theorem Lp_N {i c : Nat} (h : Lp.1 i = c) (hc : Nat.blt c 99 = true) : i < Lp.2.2 := by
  rcases Nat.lt_or_ge i 166 with q | q
  · exact q
  · exfalso
    have h2 : Lp.1 i = 99 := by
      show Lp_k.getD i 99 = 99
      rw [List.getD_eq_getElem?_getD, List.getElem?_eq_none (show Lp_k.length ≤ i from q)]
      rfl
    rw [h2] at h
    subst h
    cases hc
theorem Lp_0_0 {i : Nat} (h : Lp.1 i = 0) : Lp.1 (i + 1) = 14 := (by decide +kernel : ∀ i, i < 166 → Lp.1 i = 0 → Lp.1 (i + 1) = 14) i (Lp_N h rfl) h
theorem Lp_0_1 {i : Nat} (h : Lp.1 i = 0) : Lp.1 (i + 2) = 14 := (by decide +kernel : ∀ i, i < 166 → Lp.1 i = 0 → Lp.1 (i + 2) = 14) i (Lp_N h rfl) h
theorem Lp_1_0 {i : Nat} (h : Lp.1 i = 1) : Lp.1 (i + 1) = 14 := (by decide +kernel : ∀ i, i < 166 → Lp.1 i = 1 → Lp.1 (i + 1) = 14) i (Lp_N h rfl) h
theorem Lp_1_1 {i : Nat} (h : Lp.1 i = 1) : Lp.1 (i + 2) = 14 := (by decide +kernel : ∀ i, i < 166 → Lp.1 i = 1 → Lp.1 (i + 2) = 14) i (Lp_N h rfl) h
theorem Lp_1_2 {i : Nat} (h : Lp.1 i = 1) : Lp.1 (i + 3) = 14 := (by decide +kernel : ∀ i, i < 166 → Lp.1 i = 1 → Lp.1 (i + 3) = 14) i (Lp_N h rfl) h
theorem Lp_1_3 {i : Nat} (h : Lp.1 i = 1) : Lp.1 (i + 4) = 14 := (by decide +kernel : ∀ i, i < 166 → Lp.1 i = 1 → Lp.1 (i + 4) = 14) i (Lp_N h rfl) h
theorem Lp_1_4 {i : Nat} (h : Lp.1 i = 1) : Lp.1 (i + 5) = 14 := (by decide +kernel : ∀ i, i < 166 → Lp.1 i = 1 → Lp.1 (i + 5) = 14) i (Lp_N h rfl) h
theorem Lp_1_5 {i : Nat} (h : Lp.1 i = 1) : Lp.1 (i + 6) = 14 := (by decide +kernel : ∀ i, i < 166 → Lp.1 i = 1 → Lp.1 (i + 6) = 14) i (Lp_N h rfl) h
theorem Lp_1_6 {i : Nat} (h : Lp.1 i = 1) : Lp.1 (i + 7) = 14 := (by decide +kernel : ∀ i, i < 166 → Lp.1 i = 1 → Lp.1 (i + 7) = 14) i (Lp_N h rfl) h
theorem Lp_1_7 {i : Nat} (h : Lp.1 i = 1) : Lp.1 (i + 8) = 14 := (by decide +kernel : ∀ i, i < 166 → Lp.1 i = 1 → Lp.1 (i + 8) = 14) i (Lp_N h rfl) h
theorem Lp_2_0 {i : Nat} (h : Lp.1 i = 2) : Lp.1 (i + 1) = 14 := (by decide +kernel : ∀ i, i < 166 → Lp.1 i = 2 → Lp.1 (i + 1) = 14) i (Lp_N h rfl) h
theorem Lp_2_1 {i : Nat} (h : Lp.1 i = 2) : Lp.1 (i + 2) = 14 := (by decide +kernel : ∀ i, i < 166 → Lp.1 i = 2 → Lp.1 (i + 2) = 14) i (Lp_N h rfl) h
theorem Lp_3_0 {i : Nat} (h : Lp.1 i = 3) : Lp.1 (i + 1) = 6 := (by decide +kernel : ∀ i, i < 166 → Lp.1 i = 3 → Lp.1 (i + 1) = 6) i (Lp_N h rfl) h
theorem Lp_3_1 {i : Nat} (h : Lp.1 i = 3) : Lp.1 (i + 3) = 10 := (by decide +kernel : ∀ i, i < 166 → Lp.1 i = 3 → Lp.1 (i + 3) = 10) i (Lp_N h rfl) h
theorem Lp_3_2 {i : Nat} (h : Lp.1 i = 3) : Lp.1 (i + 7) = 0 := (by decide +kernel : ∀ i, i < 166 → Lp.1 i = 3 → Lp.1 (i + 7) = 0) i (Lp_N h rfl) h
theorem Lp_4_0 {i : Nat} (h : Lp.1 i = 4) : Lp.1 (i + 1) = 14 := (by decide +kernel : ∀ i, i < 166 → Lp.1 i = 4 → Lp.1 (i + 1) = 14) i (Lp_N h rfl) h
theorem Lp_5_0 {i : Nat} (h : Lp.1 i = 5) : Lp.1 (i - 2) = 9 := (by decide +kernel : ∀ i, i < 166 → Lp.1 i = 5 → Lp.1 (i - 2) = 9) i (Lp_N h rfl) h
theorem Lp_6_0 {i : Nat} (h : Lp.1 i = 6) : Lp.1 (i + 1) = 14 := (by decide +kernel : ∀ i, i < 166 → Lp.1 i = 6 → Lp.1 (i + 1) = 14) i (Lp_N h rfl) h
theorem Lp_7_0 {i : Nat} (h : Lp.1 i = 7) : Lp.1 (i + 1) = 15 := (by decide +kernel : ∀ i, i < 166 → Lp.1 i = 7 → Lp.1 (i + 1) = 15) i (Lp_N h rfl) h
theorem Lp_7_1 {i : Nat} (h : Lp.1 i = 7) : Lp.1 (i + 2) = 14 := (by decide +kernel : ∀ i, i < 166 → Lp.1 i = 7 → Lp.1 (i + 2) = 14) i (Lp_N h rfl) h
theorem Lp_7_2 {i : Nat} (h : Lp.1 i = 7) : Lp.1 (i + 3) = 20 := (by decide +kernel : ∀ i, i < 166 → Lp.1 i = 7 → Lp.1 (i + 3) = 20) i (Lp_N h rfl) h
theorem Lp_7_3 {i : Nat} (h : Lp.1 i = 7) : Lp.1 (i + 9) = 18 := (by decide +kernel : ∀ i, i < 166 → Lp.1 i = 7 → Lp.1 (i + 9) = 18) i (Lp_N h rfl) h
theorem Lp_7_4 {i : Nat} (h : Lp.1 i = 7) : Lp.1 (i + 10) = 2 := (by decide +kernel : ∀ i, i < 166 → Lp.1 i = 7 → Lp.1 (i + 10) = 2) i (Lp_N h rfl) h
theorem Lp_7_5 {i : Nat} (h : Lp.1 i = 7) : Lp.1 (i + 13) = 2 := (by decide +kernel : ∀ i, i < 166 → Lp.1 i = 7 → Lp.1 (i + 13) = 2) i (Lp_N h rfl) h
theorem Lp_8_0 {i : Nat} (h : Lp.1 i = 8) : Lp.1 (i + 1) = 14 := (by decide +kernel : ∀ i, i < 166 → Lp.1 i = 8 → Lp.1 (i + 1) = 14) i (Lp_N h rfl) h
theorem Lp_8_1 {i : Nat} (h : Lp.1 i = 8) : Lp.1 (i + 2) = 14 := (by decide +kernel : ∀ i, i < 166 → Lp.1 i = 8 → Lp.1 (i + 2) = 14) i (Lp_N h rfl) h
theorem Lp_9_0 {i : Nat} (h : Lp.1 i = 9) : Lp.1 (i + 1) = 13 := (by decide +kernel : ∀ i, i < 166 → Lp.1 i = 9 → Lp.1 (i + 1) = 13) i (Lp_N h rfl) h
theorem Lp_10_0 {i : Nat} (h : Lp.1 i = 10) : Lp.1 (i + 1) = 14 := (by decide +kernel : ∀ i, i < 166 → Lp.1 i = 10 → Lp.1 (i + 1) = 14) i (Lp_N h rfl) h
theorem Lp_10_1 {i : Nat} (h : Lp.1 i = 10) : Lp.1 (i + 2) = 14 := (by decide +kernel : ∀ i, i < 166 → Lp.1 i = 10 → Lp.1 (i + 2) = 14) i (Lp_N h rfl) h
theorem Lp_10_2 {i : Nat} (h : Lp.1 i = 10) : Lp.1 (i + 3) = 14 := (by decide +kernel : ∀ i, i < 166 → Lp.1 i = 10 → Lp.1 (i + 3) = 14) i (Lp_N h rfl) h
theorem Lp_11_0 {i : Nat} (h : Lp.1 i = 11) : Lp.1 (i + 1) = 9 := (by decide +kernel : ∀ i, i < 166 → Lp.1 i = 11 → Lp.1 (i + 1) = 9) i (Lp_N h rfl) h
theorem Lp_11_1 {i : Nat} (h : Lp.1 i = 11) : Lp.1 (i + 3) = 5 := (by decide +kernel : ∀ i, i < 166 → Lp.1 i = 11 → Lp.1 (i + 3) = 5) i (Lp_N h rfl) h
theorem Lp_11_4 {i : Nat} (h : Lp.1 i = 11) : Lp.1 (i + 64) = 6 := (by decide +kernel : ∀ i, i < 166 → Lp.1 i = 11 → Lp.1 (i + 64) = 6) i (Lp_N h rfl) h
theorem Lp_11_5 {i : Nat} (h : Lp.1 i = 11) : Lp.1 (i + 66) = 6 := (by decide +kernel : ∀ i, i < 166 → Lp.1 i = 11 → Lp.1 (i + 66) = 6) i (Lp_N h rfl) h
theorem Lp_11_6 {i : Nat} (h : Lp.1 i = 11) : Lp.1 (i + 68) = 10 := (by decide +kernel : ∀ i, i < 166 → Lp.1 i = 11 → Lp.1 (i + 68) = 10) i (Lp_N h rfl) h
theorem Lp_11_7 {i : Nat} (h : Lp.1 i = 11) : Lp.1 (i + 72) = 10 := (by decide +kernel : ∀ i, i < 166 → Lp.1 i = 11 → Lp.1 (i + 72) = 10) i (Lp_N h rfl) h
theorem Lp_11_8 {i : Nat} (h : Lp.1 i = 11) : Lp.1 (i + 76) = 0 := (by decide +kernel : ∀ i, i < 166 → Lp.1 i = 11 → Lp.1 (i + 76) = 0) i (Lp_N h rfl) h
theorem Lp_11_9 {i : Nat} (h : Lp.1 i = 11) : Lp.1 (i + 79) = 8 := (by decide +kernel : ∀ i, i < 166 → Lp.1 i = 11 → Lp.1 (i + 79) = 8) i (Lp_N h rfl) h
theorem Lp_11_10 {i : Nat} (h : Lp.1 i = 11) : Lp.1 (i + 82) = 1 := (by decide +kernel : ∀ i, i < 166 → Lp.1 i = 11 → Lp.1 (i + 82) = 1) i (Lp_N h rfl) h
theorem Lp_11_11 {i : Nat} (h : Lp.1 i = 11) : Lp.1 (i + 91) = 17 := (by decide +kernel : ∀ i, i < 166 → Lp.1 i = 11 → Lp.1 (i + 91) = 17) i (Lp_N h rfl) h
theorem Lp_11_12 {i : Nat} (h : Lp.1 i = 11) : Lp.1 (i + 132) = 19 := (by decide +kernel : ∀ i, i < 166 → Lp.1 i = 11 → Lp.1 (i + 132) = 19) i (Lp_N h rfl) h
theorem Lp_11_15 {i : Nat} (h : Lp.1 i = 11) : Lp.1 (i + 165) = 14 := (by decide +kernel : ∀ i, i < 166 → Lp.1 i = 11 → Lp.1 (i + 165) = 14) i (Lp_N h rfl) h
theorem Lp_e17 {i : Nat} (h : Lp.1 i = 17) : ∀ j, j < Lp.2.1 i → Lp.1 (i + eo 17 j) = 3 := fun j hj =>
  have a := (by decide +kernel : ∀ i, i < 166 → Lp.1 i = 17 → Lp.2.1 i ≤ 16 ∧ ∀ j, j < 16 → j < Lp.2.1 i → Lp.1 (i + eo 17 j) = 3) i (Lp_N h rfl) h
  a.2 j (Nat.lt_of_lt_of_le hj a.1) hj
theorem Lp_e18 {i : Nat} (h : Lp.1 i = 18) : ∀ j, j < Lp.2.1 i → Lp.1 (i + eo 18 j) = 4 := fun j hj =>
  have a := (by decide +kernel : ∀ i, i < 166 → Lp.1 i = 18 → Lp.2.1 i ≤ 16 ∧ ∀ j, j < 16 → j < Lp.2.1 i → Lp.1 (i + eo 18 j) = 4) i (Lp_N h rfl) h
  a.2 j (Nat.lt_of_lt_of_le hj a.1) hj
theorem Lp_e19 {i : Nat} (h : Lp.1 i = 19) : ∀ j, j < Lp.2.1 i → Lp.1 (i + eo 19 j) = 6 := fun j hj =>
  have a := (by decide +kernel : ∀ i, i < 166 → Lp.1 i = 19 → Lp.2.1 i ≤ 16 ∧ ∀ j, j < 16 → j < Lp.2.1 i → Lp.1 (i + eo 19 j) = 6) i (Lp_N h rfl) h
  a.2 j (Nat.lt_of_lt_of_le hj a.1) hj
theorem Lp_e20 {i : Nat} (h : Lp.1 i = 20) : ∀ j, j < Lp.2.1 i → Lp.1 (i + eo 20 j) = 14 := fun j hj =>
  have a := (by decide +kernel : ∀ i, i < 166 → Lp.1 i = 20 → Lp.2.1 i ≤ 16 ∧ ∀ j, j < 16 → j < Lp.2.1 i → Lp.1 (i + eo 20 j) = 14) i (Lp_N h rfl) h
  a.2 j (Nat.lt_of_lt_of_le hj a.1) hj
def Lm_k : List Nat := [12, 14, 14, 15, 15, 14, 14, 14, 14, 14, 14, 14, 14, 14, 14, 14, 14, 16, 14, 14, 14, 14, 14, 14, 14, 14, 14, 14, 14, 14, 14, 14, 14, 14, 14, 14, 14, 14, 14, 14, 16, 14, 14, 14, 14, 14, 14, 14]
def Lm_n : List Nat := [0, 1000, 14, 10, 14, 90, 10, 14, 14, 14, 14, 14, 14, 4, 4, 2000, 7, 7, 7, 7, 7, 7, 7, 7, 7, 7, 7, 20, 6, 240, 240, 240, 5, 40, 40, 17, 17, 17, 68, 272, 4, 7, 7, 7, 7, 60, 7, 10]
def Lm : Ly := (fun i => Lm_k.getD i 99, fun i => Lm_n.getD i 0, 48)
theorem Lm_N {i c : Nat} (h : Lm.1 i = c) (hc : Nat.blt c 99 = true) : i < Lm.2.2 := by
  rcases Nat.lt_or_ge i 48 with q | q
  · exact q
  · exfalso
    have h2 : Lm.1 i = 99 := by
      show Lm_k.getD i 99 = 99
      rw [List.getD_eq_getElem?_getD, List.getElem?_eq_none (show Lm_k.length ≤ i from q)]
      rfl
    rw [h2] at h
    subst h
    cases hc
theorem Lm_12_2 {i : Nat} (h : Lm.1 i = 12) : Lm.1 (i + 1) = 14 := (by decide +kernel : ∀ i, i < 48 → Lm.1 i = 12 → Lm.1 (i + 1) = 14) i (Lm_N h rfl) h
theorem Lm_12_10 {i : Nat} (h : Lm.1 i = 12) : Lm.1 (i + 2) = 14 := (by decide +kernel : ∀ i, i < 48 → Lm.1 i = 12 → Lm.1 (i + 2) = 14) i (Lm_N h rfl) h
theorem Lm_12_11 {i : Nat} (h : Lm.1 i = 12) : Lm.1 (i + 3) = 15 := (by decide +kernel : ∀ i, i < 48 → Lm.1 i = 12 → Lm.1 (i + 3) = 15) i (Lm_N h rfl) h
theorem Lm_12_12 {i : Nat} (h : Lm.1 i = 12) : Lm.1 (i + 4) = 15 := (by decide +kernel : ∀ i, i < 48 → Lm.1 i = 12 → Lm.1 (i + 4) = 15) i (Lm_N h rfl) h
theorem Lm_12_13 {i : Nat} (h : Lm.1 i = 12) : Lm.1 (i + 5) = 14 := (by decide +kernel : ∀ i, i < 48 → Lm.1 i = 12 → Lm.1 (i + 5) = 14) i (Lm_N h rfl) h
theorem Lm_12_14 {i : Nat} (h : Lm.1 i = 12) : Lm.1 (i + 6) = 14 := (by decide +kernel : ∀ i, i < 48 → Lm.1 i = 12 → Lm.1 (i + 6) = 14) i (Lm_N h rfl) h
theorem Lm_12_15 {i : Nat} (h : Lm.1 i = 12) : Lm.1 (i + 7) = 14 := (by decide +kernel : ∀ i, i < 48 → Lm.1 i = 12 → Lm.1 (i + 7) = 14) i (Lm_N h rfl) h
theorem Lm_12_16 {i : Nat} (h : Lm.1 i = 12) : Lm.1 (i + 8) = 14 := (by decide +kernel : ∀ i, i < 48 → Lm.1 i = 12 → Lm.1 (i + 8) = 14) i (Lm_N h rfl) h
theorem Lm_12_17 {i : Nat} (h : Lm.1 i = 12) : Lm.1 (i + 9) = 14 := (by decide +kernel : ∀ i, i < 48 → Lm.1 i = 12 → Lm.1 (i + 9) = 14) i (Lm_N h rfl) h
theorem Lm_12_18 {i : Nat} (h : Lm.1 i = 12) : Lm.1 (i + 10) = 14 := (by decide +kernel : ∀ i, i < 48 → Lm.1 i = 12 → Lm.1 (i + 10) = 14) i (Lm_N h rfl) h
theorem Lm_12_19 {i : Nat} (h : Lm.1 i = 12) : Lm.1 (i + 11) = 14 := (by decide +kernel : ∀ i, i < 48 → Lm.1 i = 12 → Lm.1 (i + 11) = 14) i (Lm_N h rfl) h
theorem Lm_12_20 {i : Nat} (h : Lm.1 i = 12) : Lm.1 (i + 12) = 14 := (by decide +kernel : ∀ i, i < 48 → Lm.1 i = 12 → Lm.1 (i + 12) = 14) i (Lm_N h rfl) h
theorem Lm_12_21 {i : Nat} (h : Lm.1 i = 12) : Lm.1 (i + 13) = 14 := (by decide +kernel : ∀ i, i < 48 → Lm.1 i = 12 → Lm.1 (i + 13) = 14) i (Lm_N h rfl) h
theorem Lm_12_22 {i : Nat} (h : Lm.1 i = 12) : Lm.1 (i + 14) = 14 := (by decide +kernel : ∀ i, i < 48 → Lm.1 i = 12 → Lm.1 (i + 14) = 14) i (Lm_N h rfl) h
theorem Lm_12_23 {i : Nat} (h : Lm.1 i = 12) : Lm.1 (i + 15) = 14 := (by decide +kernel : ∀ i, i < 48 → Lm.1 i = 12 → Lm.1 (i + 15) = 14) i (Lm_N h rfl) h
theorem Lm_12_27 {i : Nat} (h : Lm.1 i = 12) : Lm.1 (i + 16) = 14 := (by decide +kernel : ∀ i, i < 48 → Lm.1 i = 12 → Lm.1 (i + 16) = 14) i (Lm_N h rfl) h
theorem Lm_12_28 {i : Nat} (h : Lm.1 i = 12) : Lm.1 (i + 17) = 16 := (by decide +kernel : ∀ i, i < 48 → Lm.1 i = 12 → Lm.1 (i + 17) = 16) i (Lm_N h rfl) h
theorem Lm_12_29 {i : Nat} (h : Lm.1 i = 12) : Lm.1 (i + 18) = 14 := (by decide +kernel : ∀ i, i < 48 → Lm.1 i = 12 → Lm.1 (i + 18) = 14) i (Lm_N h rfl) h
theorem Lm_12_30 {i : Nat} (h : Lm.1 i = 12) : Lm.1 (i + 19) = 14 := (by decide +kernel : ∀ i, i < 48 → Lm.1 i = 12 → Lm.1 (i + 19) = 14) i (Lm_N h rfl) h
theorem Lm_12_31 {i : Nat} (h : Lm.1 i = 12) : Lm.1 (i + 20) = 14 := (by decide +kernel : ∀ i, i < 48 → Lm.1 i = 12 → Lm.1 (i + 20) = 14) i (Lm_N h rfl) h
theorem Lm_12_32 {i : Nat} (h : Lm.1 i = 12) : Lm.1 (i + 21) = 14 := (by decide +kernel : ∀ i, i < 48 → Lm.1 i = 12 → Lm.1 (i + 21) = 14) i (Lm_N h rfl) h
theorem Lm_12_33 {i : Nat} (h : Lm.1 i = 12) : Lm.1 (i + 22) = 14 := (by decide +kernel : ∀ i, i < 48 → Lm.1 i = 12 → Lm.1 (i + 22) = 14) i (Lm_N h rfl) h
theorem Lm_12_34 {i : Nat} (h : Lm.1 i = 12) : Lm.1 (i + 23) = 14 := (by decide +kernel : ∀ i, i < 48 → Lm.1 i = 12 → Lm.1 (i + 23) = 14) i (Lm_N h rfl) h
theorem Lm_12_35 {i : Nat} (h : Lm.1 i = 12) : Lm.1 (i + 24) = 14 := (by decide +kernel : ∀ i, i < 48 → Lm.1 i = 12 → Lm.1 (i + 24) = 14) i (Lm_N h rfl) h
theorem Lm_12_36 {i : Nat} (h : Lm.1 i = 12) : Lm.1 (i + 25) = 14 := (by decide +kernel : ∀ i, i < 48 → Lm.1 i = 12 → Lm.1 (i + 25) = 14) i (Lm_N h rfl) h
theorem Lm_12_37 {i : Nat} (h : Lm.1 i = 12) : Lm.1 (i + 26) = 14 := (by decide +kernel : ∀ i, i < 48 → Lm.1 i = 12 → Lm.1 (i + 26) = 14) i (Lm_N h rfl) h
theorem Lm_12_38 {i : Nat} (h : Lm.1 i = 12) : Lm.1 (i + 27) = 14 := (by decide +kernel : ∀ i, i < 48 → Lm.1 i = 12 → Lm.1 (i + 27) = 14) i (Lm_N h rfl) h
theorem Lm_12_42 {i : Nat} (h : Lm.1 i = 12) : Lm.1 (i + 28) = 14 := (by decide +kernel : ∀ i, i < 48 → Lm.1 i = 12 → Lm.1 (i + 28) = 14) i (Lm_N h rfl) h
theorem Lm_12_43 {i : Nat} (h : Lm.1 i = 12) : Lm.1 (i + 29) = 14 := (by decide +kernel : ∀ i, i < 48 → Lm.1 i = 12 → Lm.1 (i + 29) = 14) i (Lm_N h rfl) h
theorem Lm_12_44 {i : Nat} (h : Lm.1 i = 12) : Lm.1 (i + 30) = 14 := (by decide +kernel : ∀ i, i < 48 → Lm.1 i = 12 → Lm.1 (i + 30) = 14) i (Lm_N h rfl) h
theorem Lm_12_45 {i : Nat} (h : Lm.1 i = 12) : Lm.1 (i + 31) = 14 := (by decide +kernel : ∀ i, i < 48 → Lm.1 i = 12 → Lm.1 (i + 31) = 14) i (Lm_N h rfl) h
theorem Lm_12_46 {i : Nat} (h : Lm.1 i = 12) : Lm.1 (i + 32) = 14 := (by decide +kernel : ∀ i, i < 48 → Lm.1 i = 12 → Lm.1 (i + 32) = 14) i (Lm_N h rfl) h
theorem Lm_12_47 {i : Nat} (h : Lm.1 i = 12) : Lm.1 (i + 33) = 14 := (by decide +kernel : ∀ i, i < 48 → Lm.1 i = 12 → Lm.1 (i + 33) = 14) i (Lm_N h rfl) h
theorem Lm_12_48 {i : Nat} (h : Lm.1 i = 12) : Lm.1 (i + 34) = 14 := (by decide +kernel : ∀ i, i < 48 → Lm.1 i = 12 → Lm.1 (i + 34) = 14) i (Lm_N h rfl) h
theorem Lm_12_49 {i : Nat} (h : Lm.1 i = 12) : Lm.1 (i + 35) = 14 := (by decide +kernel : ∀ i, i < 48 → Lm.1 i = 12 → Lm.1 (i + 35) = 14) i (Lm_N h rfl) h
theorem Lm_12_50 {i : Nat} (h : Lm.1 i = 12) : Lm.1 (i + 36) = 14 := (by decide +kernel : ∀ i, i < 48 → Lm.1 i = 12 → Lm.1 (i + 36) = 14) i (Lm_N h rfl) h
theorem Lm_12_51 {i : Nat} (h : Lm.1 i = 12) : Lm.1 (i + 37) = 14 := (by decide +kernel : ∀ i, i < 48 → Lm.1 i = 12 → Lm.1 (i + 37) = 14) i (Lm_N h rfl) h
theorem Lm_12_52 {i : Nat} (h : Lm.1 i = 12) : Lm.1 (i + 38) = 14 := (by decide +kernel : ∀ i, i < 48 → Lm.1 i = 12 → Lm.1 (i + 38) = 14) i (Lm_N h rfl) h
theorem Lm_12_53 {i : Nat} (h : Lm.1 i = 12) : Lm.1 (i + 39) = 14 := (by decide +kernel : ∀ i, i < 48 → Lm.1 i = 12 → Lm.1 (i + 39) = 14) i (Lm_N h rfl) h
theorem Lm_12_54 {i : Nat} (h : Lm.1 i = 12) : Lm.1 (i + 40) = 16 := (by decide +kernel : ∀ i, i < 48 → Lm.1 i = 12 → Lm.1 (i + 40) = 16) i (Lm_N h rfl) h
theorem Lm_12_56 {i : Nat} (h : Lm.1 i = 12) : Lm.1 (i + 41) = 14 := (by decide +kernel : ∀ i, i < 48 → Lm.1 i = 12 → Lm.1 (i + 41) = 14) i (Lm_N h rfl) h
theorem Lm_12_57 {i : Nat} (h : Lm.1 i = 12) : Lm.1 (i + 42) = 14 := (by decide +kernel : ∀ i, i < 48 → Lm.1 i = 12 → Lm.1 (i + 42) = 14) i (Lm_N h rfl) h
theorem Lm_12_58 {i : Nat} (h : Lm.1 i = 12) : Lm.1 (i + 43) = 14 := (by decide +kernel : ∀ i, i < 48 → Lm.1 i = 12 → Lm.1 (i + 43) = 14) i (Lm_N h rfl) h
theorem Lm_12_59 {i : Nat} (h : Lm.1 i = 12) : Lm.1 (i + 44) = 14 := (by decide +kernel : ∀ i, i < 48 → Lm.1 i = 12 → Lm.1 (i + 44) = 14) i (Lm_N h rfl) h
theorem Lm_12_60 {i : Nat} (h : Lm.1 i = 12) : Lm.1 (i + 45) = 14 := (by decide +kernel : ∀ i, i < 48 → Lm.1 i = 12 → Lm.1 (i + 45) = 14) i (Lm_N h rfl) h
theorem Lm_12_61 {i : Nat} (h : Lm.1 i = 12) : Lm.1 (i + 46) = 14 := (by decide +kernel : ∀ i, i < 48 → Lm.1 i = 12 → Lm.1 (i + 46) = 14) i (Lm_N h rfl) h
theorem Lm_12_65 {i : Nat} (h : Lm.1 i = 12) : Lm.1 (i + 47) = 14 := (by decide +kernel : ∀ i, i < 48 → Lm.1 i = 12 → Lm.1 (i + 47) = 14) i (Lm_N h rfl) h
theorem g_kd {β : Type} {c P : Prop} {i : Decidable c} {a : Option β} {o : β} (h : grd (@decide c i) a = some o) (k : c → a = some o → P) : P := k (of_decide_eq_true (grd_some h).1) (grd_some h).2
theorem r_div {β : Type} {c P : Prop} {i : Decidable c} {a : Option β} {o : β} (h : grd (@decide c i) a = some o) (k : c → a = some o → P) : P := k (of_decide_eq_true (grd_some h).1) (grd_some h).2
theorem r_gz {β : Type} {P : Prop} {v : Int32} {a : Option β} {o : β} (h : grd (bok v) a = some o) (k : bok v = true → a = some o → P) : P := k (grd_some h).1 (grd_some h).2
theorem r_inc {β : Type} {P : Prop} {x : Int32} {f : Int32 → Option β} {o : β} (h : bnd x f = some o) (k : ∀ y : Int32, y = x → f y = some o → P) : P := k x rfl h
theorem ti_ne {x v : Int32} {n : Int} (hv : v.toInt = n) (h : ¬ x = v) : ¬ n = x.toInt := fun q => h (Int32.toInt_inj.mp (q.symm.trans hv.symm))
theorem tsw_out {x : Int32} {lo hi : Int} (n : Nat) (h : ∀ j : Nat, j < n → ¬ x = Int32.ofInt (lo + j)) (hn : hi = lo + n - 1) : x.toInt < lo ∨ hi < x.toInt := by
  rcases Int.lt_or_le x.toInt lo with q | q
  · exact Or.inl q
  · rcases Int.lt_or_le hi x.toInt with q2 | q2
    · exact Or.inr q2
    · exfalso
      refine h (x.toInt - lo).toNat (by omega) ?_
      rw [Int.toNat_of_nonneg (by omega), show lo + (x.toInt - lo) = x.toInt by omega]
      exact (Int32.ofInt_toInt x).symm
