theorem nst_tbl : ∀ w ∈ nst, w ∈ lw_tbl := by
  unfold nst
  refine List.forall_mem_cons.mpr ⟨tb_1 (List.mem_of_getElem? (i := 41) rfl), ?_⟩
  refine List.forall_mem_cons.mpr ⟨tb_1 (List.mem_of_getElem? (i := 42) rfl), ?_⟩
  refine List.forall_mem_cons.mpr ⟨tb_1 (List.mem_of_getElem? (i := 44) rfl), ?_⟩
  refine List.forall_mem_cons.mpr ⟨tb_1 (List.mem_of_getElem? (i := 48) rfl), ?_⟩
  refine List.forall_mem_cons.mpr ⟨tb_1 (List.mem_of_getElem? (i := 50) rfl), ?_⟩
  refine List.forall_mem_cons.mpr ⟨tb_1 (List.mem_of_getElem? (i := 102) rfl), ?_⟩
  refine List.forall_mem_cons.mpr ⟨tb_1 (List.mem_of_getElem? (i := 124) rfl), ?_⟩
  refine List.forall_mem_cons.mpr ⟨tb_1 (List.mem_of_getElem? (i := 126) rfl), ?_⟩
  refine List.forall_mem_cons.mpr ⟨tb_1 (List.mem_of_getElem? (i := 127) rfl), ?_⟩
  refine List.forall_mem_cons.mpr ⟨tb_1 (List.mem_of_getElem? (i := 128) rfl), ?_⟩
  refine List.forall_mem_cons.mpr ⟨tb_1 (List.mem_of_getElem? (i := 129) rfl), ?_⟩
  refine List.forall_mem_cons.mpr ⟨tb_1 (List.mem_of_getElem? (i := 131) rfl), ?_⟩
  refine List.forall_mem_cons.mpr ⟨tb_1 (List.mem_of_getElem? (i := 132) rfl), ?_⟩
  refine List.forall_mem_cons.mpr ⟨tb_1 (List.mem_of_getElem? (i := 133) rfl), ?_⟩
  refine List.forall_mem_cons.mpr ⟨tb_1 (List.mem_of_getElem? (i := 134) rfl), ?_⟩
  refine List.forall_mem_cons.mpr ⟨tb_1 (List.mem_of_getElem? (i := 135) rfl), ?_⟩
  refine List.forall_mem_cons.mpr ⟨tb_1 (List.mem_of_getElem? (i := 136) rfl), ?_⟩
  refine List.forall_mem_cons.mpr ⟨tb_1 (List.mem_of_getElem? (i := 137) rfl), ?_⟩
  refine List.forall_mem_cons.mpr ⟨tb_1 (List.mem_of_getElem? (i := 138) rfl), ?_⟩
  refine List.forall_mem_cons.mpr ⟨tb_1 (List.mem_of_getElem? (i := 140) rfl), ?_⟩
  refine List.forall_mem_cons.mpr ⟨tb_1 (List.mem_of_getElem? (i := 141) rfl), ?_⟩
  refine List.forall_mem_cons.mpr ⟨tb_1 (List.mem_of_getElem? (i := 143) rfl), ?_⟩
  refine List.forall_mem_cons.mpr ⟨tb_1 (List.mem_of_getElem? (i := 144) rfl), ?_⟩
  refine List.forall_mem_cons.mpr ⟨tb_1 (List.mem_of_getElem? (i := 145) rfl), ?_⟩
  refine List.forall_mem_cons.mpr ⟨tb_1 (List.mem_of_getElem? (i := 146) rfl), ?_⟩
  refine List.forall_mem_cons.mpr ⟨tb_1 (List.mem_of_getElem? (i := 167) rfl), ?_⟩
  refine List.forall_mem_cons.mpr ⟨tb_1 (List.mem_of_getElem? (i := 169) rfl), ?_⟩
  refine List.forall_mem_cons.mpr ⟨tb_1 (List.mem_of_getElem? (i := 170) rfl), ?_⟩
  refine List.forall_mem_cons.mpr ⟨tb_1 (List.mem_of_getElem? (i := 172) rfl), ?_⟩
  refine List.forall_mem_cons.mpr ⟨tb_1 (List.mem_of_getElem? (i := 173) rfl), ?_⟩
  refine List.forall_mem_cons.mpr ⟨tb_1 (List.mem_of_getElem? (i := 175) rfl), ?_⟩
  refine List.forall_mem_cons.mpr ⟨tb_1 (List.mem_of_getElem? (i := 176) rfl), ?_⟩
  refine List.forall_mem_cons.mpr ⟨tb_1 (List.mem_of_getElem? (i := 177) rfl), ?_⟩
  refine List.forall_mem_cons.mpr ⟨tb_1 (List.mem_of_getElem? (i := 178) rfl), ?_⟩
  refine List.forall_mem_cons.mpr ⟨tb_1 (List.mem_of_getElem? (i := 180) rfl), ?_⟩
  refine List.forall_mem_cons.mpr ⟨tb_1 (List.mem_of_getElem? (i := 182) rfl), ?_⟩
  refine List.forall_mem_cons.mpr ⟨tb_1 (List.mem_of_getElem? (i := 184) rfl), ?_⟩
  refine List.forall_mem_cons.mpr ⟨tb_1 (List.mem_of_getElem? (i := 185) rfl), ?_⟩
  refine List.forall_mem_cons.mpr ⟨tb_1 (List.mem_of_getElem? (i := 186) rfl), ?_⟩
  refine List.forall_mem_cons.mpr ⟨tb_1 (List.mem_of_getElem? (i := 188) rfl), ?_⟩
  refine List.forall_mem_cons.mpr ⟨tb_1 (List.mem_of_getElem? (i := 189) rfl), ?_⟩
  refine List.forall_mem_cons.mpr ⟨tb_1 (List.mem_of_getElem? (i := 190) rfl), ?_⟩
  refine List.forall_mem_cons.mpr ⟨tb_1 (List.mem_of_getElem? (i := 192) rfl), ?_⟩
  refine List.forall_mem_cons.mpr ⟨tb_1 (List.mem_of_getElem? (i := 193) rfl), ?_⟩
  refine List.forall_mem_cons.mpr ⟨tb_1 (List.mem_of_getElem? (i := 194) rfl), ?_⟩
  refine List.forall_mem_cons.mpr ⟨tb_1 (List.mem_of_getElem? (i := 196) rfl), ?_⟩
  refine List.forall_mem_cons.mpr ⟨tb_1 (List.mem_of_getElem? (i := 197) rfl), ?_⟩
  refine List.forall_mem_cons.mpr ⟨tb_1 (List.mem_of_getElem? (i := 199) rfl), ?_⟩
  refine List.forall_mem_cons.mpr ⟨tb_1 (List.mem_of_getElem? (i := 200) rfl), ?_⟩
  refine List.forall_mem_cons.mpr ⟨tb_1 (List.mem_of_getElem? (i := 202) rfl), ?_⟩
  refine List.forall_mem_cons.mpr ⟨tb_1 (List.mem_of_getElem? (i := 203) rfl), ?_⟩
  refine List.forall_mem_cons.mpr ⟨tb_1 (List.mem_of_getElem? (i := 205) rfl), ?_⟩
  refine List.forall_mem_cons.mpr ⟨tb_1 (List.mem_of_getElem? (i := 206) rfl), ?_⟩
  refine List.forall_mem_cons.mpr ⟨tb_1 (List.mem_of_getElem? (i := 208) rfl), ?_⟩
  refine List.forall_mem_cons.mpr ⟨tb_2 (List.mem_of_getElem? (i := 5) rfl), ?_⟩
  refine List.forall_mem_cons.mpr ⟨tb_2 (List.mem_of_getElem? (i := 6) rfl), ?_⟩
  refine List.forall_mem_cons.mpr ⟨tb_2 (List.mem_of_getElem? (i := 8) rfl), ?_⟩
  refine List.forall_mem_cons.mpr ⟨tb_2 (List.mem_of_getElem? (i := 10) rfl), ?_⟩
  refine List.forall_mem_cons.mpr ⟨tb_2 (List.mem_of_getElem? (i := 12) rfl), ?_⟩
  refine List.forall_mem_cons.mpr ⟨tb_2 (List.mem_of_getElem? (i := 13) rfl), ?_⟩
  refine List.forall_mem_cons.mpr ⟨tb_2 (List.mem_of_getElem? (i := 15) rfl), ?_⟩
  refine List.forall_mem_cons.mpr ⟨tb_2 (List.mem_of_getElem? (i := 16) rfl), ?_⟩
  refine List.forall_mem_cons.mpr ⟨tb_2 (List.mem_of_getElem? (i := 18) rfl), ?_⟩
  refine List.forall_mem_cons.mpr ⟨tb_2 (List.mem_of_getElem? (i := 39) rfl), ?_⟩
  refine List.forall_mem_cons.mpr ⟨tb_2 (List.mem_of_getElem? (i := 41) rfl), ?_⟩
  refine List.forall_mem_cons.mpr ⟨tb_2 (List.mem_of_getElem? (i := 43) rfl), ?_⟩
  refine List.forall_mem_cons.mpr ⟨tb_2 (List.mem_of_getElem? (i := 45) rfl), ?_⟩
  refine List.forall_mem_cons.mpr ⟨tb_2 (List.mem_of_getElem? (i := 46) rfl), ?_⟩
  refine List.forall_mem_cons.mpr ⟨tb_2 (List.mem_of_getElem? (i := 65) rfl), ?_⟩
  refine List.forall_mem_cons.mpr ⟨tb_2 (List.mem_of_getElem? (i := 82) rfl), ?_⟩
  refine List.forall_mem_cons.mpr ⟨tb_2 (List.mem_of_getElem? (i := 84) rfl), ?_⟩
  refine List.forall_mem_cons.mpr ⟨tb_2 (List.mem_of_getElem? (i := 86) rfl), ?_⟩
  refine List.forall_mem_cons.mpr ⟨tb_2 (List.mem_of_getElem? (i := 105) rfl), ?_⟩
  refine List.forall_mem_cons.mpr ⟨tb_2 (List.mem_of_getElem? (i := 107) rfl), ?_⟩
  refine List.forall_mem_cons.mpr ⟨tb_2 (List.mem_of_getElem? (i := 109) rfl), ?_⟩
  refine List.forall_mem_cons.mpr ⟨tb_2 (List.mem_of_getElem? (i := 118) rfl), ?_⟩
  refine List.forall_mem_cons.mpr ⟨tb_2 (List.mem_of_getElem? (i := 120) rfl), ?_⟩
  refine List.forall_mem_cons.mpr ⟨tb_2 (List.mem_of_getElem? (i := 172) rfl), ?_⟩
  exact fun _ h => nomatch h
theorem nsm_tbl : ∀ w ∈ nsm, w ∈ lw_tbl := by
  unfold nsm
  refine List.forall_mem_cons.mpr ⟨tb_1 (List.mem_of_getElem? (i := 35) rfl), ?_⟩
  refine List.forall_mem_cons.mpr ⟨tb_1 (List.mem_of_getElem? (i := 119) rfl), ?_⟩
  refine List.forall_mem_cons.mpr ⟨tb_2 (List.mem_of_getElem? (i := 0) rfl), ?_⟩
  refine List.forall_mem_cons.mpr ⟨tb_2 (List.mem_of_getElem? (i := 34) rfl), ?_⟩
  refine List.forall_mem_cons.mpr ⟨tb_2 (List.mem_of_getElem? (i := 58) rfl), ?_⟩
  refine List.forall_mem_cons.mpr ⟨tb_2 (List.mem_of_getElem? (i := 75) rfl), ?_⟩
  refine List.forall_mem_cons.mpr ⟨tb_2 (List.mem_of_getElem? (i := 158) rfl), ?_⟩
  refine List.forall_mem_cons.mpr ⟨tb_2 (List.mem_of_getElem? (i := 163) rfl), ?_⟩
  refine List.forall_mem_cons.mpr ⟨tb_2 (List.mem_of_getElem? (i := 165) rfl), ?_⟩
  refine List.forall_mem_cons.mpr ⟨tb_2 (List.mem_of_getElem? (i := 167) rfl), ?_⟩
  exact fun _ h => nomatch h
theorem xb_tbl : ∀ w ∈ xb, w ∈ lw_tbl := by
  unfold xb
  refine List.forall_mem_cons.mpr ⟨(tb_5 (List.mem_of_getElem? (i := 64) rfl)), ?_⟩
  refine List.forall_mem_cons.mpr ⟨(tb_5 (List.mem_of_getElem? (i := 65) rfl)), ?_⟩
  refine List.forall_mem_cons.mpr ⟨(tb_5 (List.mem_of_getElem? (i := 67) rfl)), ?_⟩
  refine List.forall_mem_cons.mpr ⟨(tb_5 (List.mem_of_getElem? (i := 69) rfl)), ?_⟩
  exact fun _ h => nomatch h
abbrev m00 : Mm := (fun _ _ => 0, fun _ _ => 0, fun _ _ => 0)
abbrev f00 : Fl := fun _ _ => false
/-- the relation holds of what the constructors make -/
def InitOK (Rel : Mm → Mm → Prop) : Prop := ∃ mv0 mv1 : Mm, f_X12_usual 0 (im_12 (zr m00 0)) = some mv0 ∧ f_X12_fresh mv0 = some mv1 ∧ Rel (im_11 (zr m00 0)) mv1
def atC : Jvm.Cond → List Bool → Jvm.Cond
  | c, [] => c
  | .and a _, false :: p => atC a p
  | .and _ b, true :: p => atC b p
  | c, _ => c
theorem at_of {args : Array Value} {s : State} : ∀ (p : List Bool) (T : Jvm.Cond), T.before args s = true → (atC T p).before args s = true
  | [], T, h => by cases T <;> exact h
  | false :: p, T, h => by
    cases T
    case and a b => rw [Cond.before_and, Bool.and_eq_true] at h; exact at_of p a h.1
    all_goals exact h
  | true :: p, T, h => by
    cases T
    case and a b => rw [Cond.before_and, Bool.and_eq_true] at h; exact at_of p b h.2
    all_goals exact h
theorem fl_succ {P : Nat → Prop} {n : Nat} (h : ∀ j, j < n → P j) (k : P n) : ∀ j, j < n + 1 → P j := fun j hj => if e : j = n then e ▸ k else h j (by omega)
theorem fl_zero {P : Nat → Prop} : ∀ j, j < 0 → P j := fun _ h => absurd h (by omega)
theorem ns_b0 {s : State} {b : Nat} (hgv : (Jvm.Cond.and given_1 narrow_1).before #[Value.ref b] s = true) : ∀ j, j < 154 → (Cond.eq (.elem (.field (.string "StationPiano$Tape" 55) "java/lang/String" "value" "[B") (.int (Int32.ofNat j))) (.int ((ksB.getD 0 []).getD j 0))).before #[Value.ref b] s = true := by
  refine fl_succ (n := 153) ?_ (at_of [true, true, true, true, false, true, true, true, true] _ hgv)
  refine fl_succ (n := 152) ?_ (at_of [true, true, true, true, false, true, true, true, false] _ hgv)
  refine fl_succ (n := 151) ?_ (at_of [true, true, true, true, false, true, true, false] _ hgv)
  refine fl_succ (n := 150) ?_ (at_of [true, true, true, true, false, true, false, true, true] _ hgv)
  refine fl_succ (n := 149) ?_ (at_of [true, true, true, true, false, true, false, true, false] _ hgv)
  refine fl_succ (n := 148) ?_ (at_of [true, true, true, true, false, true, false, false] _ hgv)
  refine fl_succ (n := 147) ?_ (at_of [true, true, true, true, false, false, true, true, true] _ hgv)
  refine fl_succ (n := 146) ?_ (at_of [true, true, true, true, false, false, true, true, false] _ hgv)
  refine fl_succ (n := 145) ?_ (at_of [true, true, true, true, false, false, true, false] _ hgv)
  refine fl_succ (n := 144) ?_ (at_of [true, true, true, true, false, false, false, true, true] _ hgv)
  refine fl_succ (n := 143) ?_ (at_of [true, true, true, true, false, false, false, true, false] _ hgv)
  refine fl_succ (n := 142) ?_ (at_of [true, true, true, true, false, false, false, false] _ hgv)
  refine fl_succ (n := 141) ?_ (at_of [true, true, true, false, true, true, true, true, true] _ hgv)
  refine fl_succ (n := 140) ?_ (at_of [true, true, true, false, true, true, true, true, false] _ hgv)
  refine fl_succ (n := 139) ?_ (at_of [true, true, true, false, true, true, true, false] _ hgv)
  refine fl_succ (n := 138) ?_ (at_of [true, true, true, false, true, true, false, true, true] _ hgv)
  refine fl_succ (n := 137) ?_ (at_of [true, true, true, false, true, true, false, true, false] _ hgv)
  refine fl_succ (n := 136) ?_ (at_of [true, true, true, false, true, true, false, false] _ hgv)
  refine fl_succ (n := 135) ?_ (at_of [true, true, true, false, true, false, true, true, true] _ hgv)
  refine fl_succ (n := 134) ?_ (at_of [true, true, true, false, true, false, true, true, false] _ hgv)
  refine fl_succ (n := 133) ?_ (at_of [true, true, true, false, true, false, true, false] _ hgv)
  refine fl_succ (n := 132) ?_ (at_of [true, true, true, false, true, false, false, true, true] _ hgv)
  refine fl_succ (n := 131) ?_ (at_of [true, true, true, false, true, false, false, true, false] _ hgv)
  refine fl_succ (n := 130) ?_ (at_of [true, true, true, false, true, false, false, false] _ hgv)
  refine fl_succ (n := 129) ?_ (at_of [true, true, true, false, false, true, true, true, true] _ hgv)
  refine fl_succ (n := 128) ?_ (at_of [true, true, true, false, false, true, true, true, false] _ hgv)
  refine fl_succ (n := 127) ?_ (at_of [true, true, true, false, false, true, true, false] _ hgv)
  refine fl_succ (n := 126) ?_ (at_of [true, true, true, false, false, true, false, true, true] _ hgv)
  refine fl_succ (n := 125) ?_ (at_of [true, true, true, false, false, true, false, true, false] _ hgv)
  refine fl_succ (n := 124) ?_ (at_of [true, true, true, false, false, true, false, false] _ hgv)
  refine fl_succ (n := 123) ?_ (at_of [true, true, true, false, false, false, true, true, true] _ hgv)
  refine fl_succ (n := 122) ?_ (at_of [true, true, true, false, false, false, true, true, false] _ hgv)
  refine fl_succ (n := 121) ?_ (at_of [true, true, true, false, false, false, true, false] _ hgv)
  refine fl_succ (n := 120) ?_ (at_of [true, true, true, false, false, false, false, true, true] _ hgv)
  refine fl_succ (n := 119) ?_ (at_of [true, true, true, false, false, false, false, true, false] _ hgv)
  refine fl_succ (n := 118) ?_ (at_of [true, true, true, false, false, false, false, false] _ hgv)
  refine fl_succ (n := 117) ?_ (at_of [true, true, false, true, true, true, true, true, true] _ hgv)
  refine fl_succ (n := 116) ?_ (at_of [true, true, false, true, true, true, true, true, false] _ hgv)
  refine fl_succ (n := 115) ?_ (at_of [true, true, false, true, true, true, true, false] _ hgv)
  refine fl_succ (n := 114) ?_ (at_of [true, true, false, true, true, true, false, true, true] _ hgv)
  refine fl_succ (n := 113) ?_ (at_of [true, true, false, true, true, true, false, true, false] _ hgv)
  refine fl_succ (n := 112) ?_ (at_of [true, true, false, true, true, true, false, false] _ hgv)
  refine fl_succ (n := 111) ?_ (at_of [true, true, false, true, true, false, true, true, true] _ hgv)
  refine fl_succ (n := 110) ?_ (at_of [true, true, false, true, true, false, true, true, false] _ hgv)
  refine fl_succ (n := 109) ?_ (at_of [true, true, false, true, true, false, true, false] _ hgv)
  refine fl_succ (n := 108) ?_ (at_of [true, true, false, true, true, false, false, true, true] _ hgv)
  refine fl_succ (n := 107) ?_ (at_of [true, true, false, true, true, false, false, true, false] _ hgv)
  refine fl_succ (n := 106) ?_ (at_of [true, true, false, true, true, false, false, false] _ hgv)
  refine fl_succ (n := 105) ?_ (at_of [true, true, false, true, false, true, true, true, true] _ hgv)
  refine fl_succ (n := 104) ?_ (at_of [true, true, false, true, false, true, true, true, false] _ hgv)
  refine fl_succ (n := 103) ?_ (at_of [true, true, false, true, false, true, true, false] _ hgv)
  refine fl_succ (n := 102) ?_ (at_of [true, true, false, true, false, true, false, true, true] _ hgv)
  refine fl_succ (n := 101) ?_ (at_of [true, true, false, true, false, true, false, true, false] _ hgv)
  refine fl_succ (n := 100) ?_ (at_of [true, true, false, true, false, true, false, false] _ hgv)
  refine fl_succ (n := 99) ?_ (at_of [true, true, false, true, false, false, true, true, true] _ hgv)
  refine fl_succ (n := 98) ?_ (at_of [true, true, false, true, false, false, true, true, false] _ hgv)
  refine fl_succ (n := 97) ?_ (at_of [true, true, false, true, false, false, true, false] _ hgv)
  refine fl_succ (n := 96) ?_ (at_of [true, true, false, true, false, false, false, true, true] _ hgv)
  refine fl_succ (n := 95) ?_ (at_of [true, true, false, true, false, false, false, true, false] _ hgv)
  refine fl_succ (n := 94) ?_ (at_of [true, true, false, true, false, false, false, false] _ hgv)
  refine fl_succ (n := 93) ?_ (at_of [true, true, false, false, true, true, true, true, true] _ hgv)
  refine fl_succ (n := 92) ?_ (at_of [true, true, false, false, true, true, true, true, false] _ hgv)
  refine fl_succ (n := 91) ?_ (at_of [true, true, false, false, true, true, true, false] _ hgv)
  refine fl_succ (n := 90) ?_ (at_of [true, true, false, false, true, true, false, true, true] _ hgv)
  refine fl_succ (n := 89) ?_ (at_of [true, true, false, false, true, true, false, true, false] _ hgv)
  refine fl_succ (n := 88) ?_ (at_of [true, true, false, false, true, true, false, false] _ hgv)
  refine fl_succ (n := 87) ?_ (at_of [true, true, false, false, true, false, true, true, true] _ hgv)
  refine fl_succ (n := 86) ?_ (at_of [true, true, false, false, true, false, true, true, false] _ hgv)
  refine fl_succ (n := 85) ?_ (at_of [true, true, false, false, true, false, true, false] _ hgv)
  refine fl_succ (n := 84) ?_ (at_of [true, true, false, false, true, false, false, true, true] _ hgv)
  refine fl_succ (n := 83) ?_ (at_of [true, true, false, false, true, false, false, true, false] _ hgv)
  refine fl_succ (n := 82) ?_ (at_of [true, true, false, false, true, false, false, false] _ hgv)
  refine fl_succ (n := 81) ?_ (at_of [true, true, false, false, false, true, true, true, true] _ hgv)
  refine fl_succ (n := 80) ?_ (at_of [true, true, false, false, false, true, true, true, false] _ hgv)
  refine fl_succ (n := 79) ?_ (at_of [true, true, false, false, false, true, true, false] _ hgv)
  refine fl_succ (n := 78) ?_ (at_of [true, true, false, false, false, true, false, true, true] _ hgv)
  refine fl_succ (n := 77) ?_ (at_of [true, true, false, false, false, true, false, true, false] _ hgv)
  refine fl_succ (n := 76) ?_ (at_of [true, true, false, false, false, true, false, false] _ hgv)
  refine fl_succ (n := 75) ?_ (at_of [true, true, false, false, false, false, true, true, true] _ hgv)
  refine fl_succ (n := 74) ?_ (at_of [true, true, false, false, false, false, true, true, false] _ hgv)
  refine fl_succ (n := 73) ?_ (at_of [true, true, false, false, false, false, true, false] _ hgv)
  refine fl_succ (n := 72) ?_ (at_of [true, true, false, false, false, false, false, true, true] _ hgv)
  refine fl_succ (n := 71) ?_ (at_of [true, true, false, false, false, false, false, true, false] _ hgv)
  refine fl_succ (n := 70) ?_ (at_of [true, true, false, false, false, false, false, false] _ hgv)
  refine fl_succ (n := 69) ?_ (at_of [true, false, true, true, true, true, true, true, true] _ hgv)
  refine fl_succ (n := 68) ?_ (at_of [true, false, true, true, true, true, true, true, false] _ hgv)
  refine fl_succ (n := 67) ?_ (at_of [true, false, true, true, true, true, true, false] _ hgv)
  refine fl_succ (n := 66) ?_ (at_of [true, false, true, true, true, true, false, true, true] _ hgv)
  refine fl_succ (n := 65) ?_ (at_of [true, false, true, true, true, true, false, true, false] _ hgv)
  refine fl_succ (n := 64) ?_ (at_of [true, false, true, true, true, true, false, false] _ hgv)
  refine fl_succ (n := 63) ?_ (at_of [true, false, true, true, true, false, true, true, true] _ hgv)
  refine fl_succ (n := 62) ?_ (at_of [true, false, true, true, true, false, true, true, false] _ hgv)
  refine fl_succ (n := 61) ?_ (at_of [true, false, true, true, true, false, true, false] _ hgv)
  refine fl_succ (n := 60) ?_ (at_of [true, false, true, true, true, false, false, true, true] _ hgv)
  refine fl_succ (n := 59) ?_ (at_of [true, false, true, true, true, false, false, true, false] _ hgv)
  refine fl_succ (n := 58) ?_ (at_of [true, false, true, true, true, false, false, false] _ hgv)
  refine fl_succ (n := 57) ?_ (at_of [true, false, true, true, false, true, true, true, true] _ hgv)
  refine fl_succ (n := 56) ?_ (at_of [true, false, true, true, false, true, true, true, false] _ hgv)
  refine fl_succ (n := 55) ?_ (at_of [true, false, true, true, false, true, true, false] _ hgv)
  refine fl_succ (n := 54) ?_ (at_of [true, false, true, true, false, true, false, true, true] _ hgv)
  refine fl_succ (n := 53) ?_ (at_of [true, false, true, true, false, true, false, true, false] _ hgv)
  refine fl_succ (n := 52) ?_ (at_of [true, false, true, true, false, true, false, false] _ hgv)
  refine fl_succ (n := 51) ?_ (at_of [true, false, true, true, false, false, true, true, true] _ hgv)
  refine fl_succ (n := 50) ?_ (at_of [true, false, true, true, false, false, true, true, false] _ hgv)
  refine fl_succ (n := 49) ?_ (at_of [true, false, true, true, false, false, true, false] _ hgv)
  refine fl_succ (n := 48) ?_ (at_of [true, false, true, true, false, false, false, true, true] _ hgv)
  refine fl_succ (n := 47) ?_ (at_of [true, false, true, true, false, false, false, true, false] _ hgv)
  refine fl_succ (n := 46) ?_ (at_of [true, false, true, true, false, false, false, false] _ hgv)
  refine fl_succ (n := 45) ?_ (at_of [true, false, true, false, true, true, true, true, true] _ hgv)
  refine fl_succ (n := 44) ?_ (at_of [true, false, true, false, true, true, true, true, false] _ hgv)
  refine fl_succ (n := 43) ?_ (at_of [true, false, true, false, true, true, true, false] _ hgv)
  refine fl_succ (n := 42) ?_ (at_of [true, false, true, false, true, true, false, true, true] _ hgv)
  refine fl_succ (n := 41) ?_ (at_of [true, false, true, false, true, true, false, true, false] _ hgv)
  refine fl_succ (n := 40) ?_ (at_of [true, false, true, false, true, true, false, false] _ hgv)
  refine fl_succ (n := 39) ?_ (at_of [true, false, true, false, true, false, true, true, true] _ hgv)
  refine fl_succ (n := 38) ?_ (at_of [true, false, true, false, true, false, true, true, false] _ hgv)
  refine fl_succ (n := 37) ?_ (at_of [true, false, true, false, true, false, true, false] _ hgv)
  refine fl_succ (n := 36) ?_ (at_of [true, false, true, false, true, false, false, true, true] _ hgv)
  refine fl_succ (n := 35) ?_ (at_of [true, false, true, false, true, false, false, true, false] _ hgv)
  refine fl_succ (n := 34) ?_ (at_of [true, false, true, false, true, false, false, false] _ hgv)
  refine fl_succ (n := 33) ?_ (at_of [true, false, true, false, false, true, true, true, true] _ hgv)
  refine fl_succ (n := 32) ?_ (at_of [true, false, true, false, false, true, true, true, false] _ hgv)
  refine fl_succ (n := 31) ?_ (at_of [true, false, true, false, false, true, true, false] _ hgv)
  refine fl_succ (n := 30) ?_ (at_of [true, false, true, false, false, true, false, true, true] _ hgv)
  refine fl_succ (n := 29) ?_ (at_of [true, false, true, false, false, true, false, true, false] _ hgv)
  refine fl_succ (n := 28) ?_ (at_of [true, false, true, false, false, true, false, false] _ hgv)
  refine fl_succ (n := 27) ?_ (at_of [true, false, true, false, false, false, true, true, true] _ hgv)
  refine fl_succ (n := 26) ?_ (at_of [true, false, true, false, false, false, true, true, false] _ hgv)
  refine fl_succ (n := 25) ?_ (at_of [true, false, true, false, false, false, true, false] _ hgv)
  refine fl_succ (n := 24) ?_ (at_of [true, false, true, false, false, false, false, true, true] _ hgv)
  refine fl_succ (n := 23) ?_ (at_of [true, false, true, false, false, false, false, true, false] _ hgv)
  refine fl_succ (n := 22) ?_ (at_of [true, false, true, false, false, false, false, false] _ hgv)
  refine fl_succ (n := 21) ?_ (at_of [true, false, false, true, true, true, true, true, true] _ hgv)
  refine fl_succ (n := 20) ?_ (at_of [true, false, false, true, true, true, true, true, false] _ hgv)
  refine fl_succ (n := 19) ?_ (at_of [true, false, false, true, true, true, true, false] _ hgv)
  refine fl_succ (n := 18) ?_ (at_of [true, false, false, true, true, true, false, true, true] _ hgv)
  refine fl_succ (n := 17) ?_ (at_of [true, false, false, true, true, true, false, true, false] _ hgv)
  refine fl_succ (n := 16) ?_ (at_of [true, false, false, true, true, true, false, false] _ hgv)
  refine fl_succ (n := 15) ?_ (at_of [true, false, false, true, true, false, true, true, true] _ hgv)
  refine fl_succ (n := 14) ?_ (at_of [true, false, false, true, true, false, true, true, false] _ hgv)
  refine fl_succ (n := 13) ?_ (at_of [true, false, false, true, true, false, true, false] _ hgv)
  refine fl_succ (n := 12) ?_ (at_of [true, false, false, true, true, false, false, true, true] _ hgv)
  refine fl_succ (n := 11) ?_ (at_of [true, false, false, true, true, false, false, true, false] _ hgv)
  refine fl_succ (n := 10) ?_ (at_of [true, false, false, true, true, false, false, false] _ hgv)
  refine fl_succ (n := 9) ?_ (at_of [true, false, false, true, false, true, true, true, true] _ hgv)
  refine fl_succ (n := 8) ?_ (at_of [true, false, false, true, false, true, true, true, false] _ hgv)
  refine fl_succ (n := 7) ?_ (at_of [true, false, false, true, false, true, true, false] _ hgv)
  refine fl_succ (n := 6) ?_ (at_of [true, false, false, true, false, true, false, true, true] _ hgv)
  refine fl_succ (n := 5) ?_ (at_of [true, false, false, true, false, true, false, true, false] _ hgv)
  refine fl_succ (n := 4) ?_ (at_of [true, false, false, true, false, true, false, false] _ hgv)
  refine fl_succ (n := 3) ?_ (at_of [true, false, false, true, false, false, true, true, true] _ hgv)
  refine fl_succ (n := 2) ?_ (at_of [true, false, false, true, false, false, true, true, false] _ hgv)
  refine fl_succ (n := 1) ?_ (at_of [true, false, false, true, false, false, true, false] _ hgv)
  refine fl_succ (n := 0) ?_ (at_of [true, false, false, true, false, false, false, true, true] _ hgv)
  exact fl_zero
theorem ns_ex0 {s : State} {b : Nat} (hgv : (Jvm.Cond.and given_1 narrow_1).before #[Value.ref b] s = true) : (Cond.exactly (.string "StationPiano$Tape" 55) "java/lang/String").before #[Value.ref b] s = true := at_of [true, false, false, false, true, true, true, true, false] _ hgv
theorem ns_co0 {s : State} {b : Nat} (hgv : (Jvm.Cond.and given_1 narrow_1).before #[Value.ref b] s = true) : (Cond.eq (.field (.string "StationPiano$Tape" 55) "java/lang/String" "coder" "B") (.int 0)).before #[Value.ref b] s = true := at_of [true, false, false, false, true, true, true, true, true] _ hgv
theorem ns_ar0 {s : State} {b : Nat} (hgv : (Jvm.Cond.and given_1 narrow_1).before #[Value.ref b] s = true) : (Cond.arrayOf (.field (.string "StationPiano$Tape" 55) "java/lang/String" "value" "[B") .byte).before #[Value.ref b] s = true := at_of [true, false, false, true, false, false, false, false] _ hgv
theorem ns_le0 {s : State} {b : Nat} (hgv : (Jvm.Cond.and given_1 narrow_1).before #[Value.ref b] s = true) : (Cond.eq (.length (.field (.string "StationPiano$Tape" 55) "java/lang/String" "value" "[B")) (.int (Int32.ofNat (ksL.getD 0 0)))).before #[Value.ref b] s = true := at_of [true, false, false, true, false, false, false, true, false] _ hgv
theorem ns_b1 {s : State} {b : Nat} (hgv : (Jvm.Cond.and given_1 narrow_1).before #[Value.ref b] s = true) : ∀ j, j < 8 → (Cond.eq (.elem (.field (.string "StationPiano$Tape" 48) "java/lang/String" "value" "[B") (.int (Int32.ofNat j))) (.int ((ksB.getD 1 []).getD j 0))).before #[Value.ref b] s = true := by
  refine fl_succ (n := 7) ?_ (at_of [true, true, true, true, true, true, true, true, false] _ hgv)
  refine fl_succ (n := 6) ?_ (at_of [true, true, true, true, true, true, true, false, true] _ hgv)
  refine fl_succ (n := 5) ?_ (at_of [true, true, true, true, true, true, true, false, false] _ hgv)
  refine fl_succ (n := 4) ?_ (at_of [true, true, true, true, true, true, false, true, true] _ hgv)
  refine fl_succ (n := 3) ?_ (at_of [true, true, true, true, true, true, false, true, false] _ hgv)
  refine fl_succ (n := 2) ?_ (at_of [true, true, true, true, true, true, false, false] _ hgv)
  refine fl_succ (n := 1) ?_ (at_of [true, true, true, true, true, false, true, true, true] _ hgv)
  refine fl_succ (n := 0) ?_ (at_of [true, true, true, true, true, false, true, true, false] _ hgv)
  exact fl_zero
theorem ns_ex1 {s : State} {b : Nat} (hgv : (Jvm.Cond.and given_1 narrow_1).before #[Value.ref b] s = true) : (Cond.exactly (.string "StationPiano$Tape" 48) "java/lang/String").before #[Value.ref b] s = true := at_of [true, true, true, true, true, false, false, false] _ hgv
theorem ns_co1 {s : State} {b : Nat} (hgv : (Jvm.Cond.and given_1 narrow_1).before #[Value.ref b] s = true) : (Cond.eq (.field (.string "StationPiano$Tape" 48) "java/lang/String" "coder" "B") (.int 0)).before #[Value.ref b] s = true := at_of [true, true, true, true, true, false, false, true, false] _ hgv
theorem ns_ar1 {s : State} {b : Nat} (hgv : (Jvm.Cond.and given_1 narrow_1).before #[Value.ref b] s = true) : (Cond.arrayOf (.field (.string "StationPiano$Tape" 48) "java/lang/String" "value" "[B") .byte).before #[Value.ref b] s = true := at_of [true, true, true, true, true, false, false, true, true] _ hgv
theorem ns_le1 {s : State} {b : Nat} (hgv : (Jvm.Cond.and given_1 narrow_1).before #[Value.ref b] s = true) : (Cond.eq (.length (.field (.string "StationPiano$Tape" 48) "java/lang/String" "value" "[B")) (.int (Int32.ofNat (ksL.getD 1 0)))).before #[Value.ref b] s = true := at_of [true, true, true, true, true, false, true, false] _ hgv
theorem ns_ne {s : State} {b : Nat} (hgv : (Jvm.Cond.and given_1 narrow_1).before #[Value.ref b] s = true) : (Cond.not (Cond.eq (.string "StationPiano$Tape" 55) (.string "StationPiano$Tape" 48))).before #[Value.ref b] s = true := at_of [true, true, true, true, true, true, true, true, true] _ hgv
theorem ns_cs {s : State} {b : Nat} (hgv : (Jvm.Cond.and given_1 narrow_1).before #[Value.ref b] s = true) : (Cond.eq (.static "java/lang/String" "COMPACT_STRINGS" "Z") (.int 1)).before #[Value.ref b] s = true := at_of [true, false, false, false, false, false, false, true, true] _ hgv
theorem ns_fo {s : State} {b : Nat} (hgv : (Jvm.Cond.and given_1 narrow_1).before #[Value.ref b] s = true) : (Cond.isRef (.static "jdk/internal/util/Preconditions" "SIOOBE_FORMATTER" "Ljava/util/function/BiFunction;")).before #[Value.ref b] s = true := at_of [true, false, false, false, false, false, true, false] _ hgv
theorem ns_us {s : State} {b : Nat} (hgv : (Jvm.Cond.and given_1 narrow_1).before #[Value.ref b] s = true) : (Cond.isRef (.static Bundle.tN "UNASSIGNED_STACK" Bundle.steD)).before #[Value.ref b] s = true := at_of [true, false, false, false, false, true, false, true, false] _ hgv
theorem ns_ss {s : State} {b : Nat} (hgv : (Jvm.Cond.and given_1 narrow_1).before #[Value.ref b] s = true) : (Cond.isRef (.static Bundle.tN "SUPPRESSED_SENTINEL" Bundle.listD)).before #[Value.ref b] s = true := at_of [true, false, false, false, false, true, false, true, true] _ hgv
set_option maxHeartbeats 8000000 in
set_option maxRecDepth 100000 in
theorem start_EX {s : State} {b : Nat} (hts : ∀ w ∈ lw_tbl, w.before #[Value.ref b] s = true) (hgv : (Jvm.Cond.and given_1 narrow_1).before #[Value.ref b] s = true) : ∃ ks : (Nat → Nat) × (Nat → Nat), EX ks (fun q : Nat => s.heap.size ≤ q) s := by
  have hA : ∀ a : Nat, a < s.heap.size → ¬ (fun q : Nat => s.heap.size ≤ q) a := fun a h => Nat.not_le.mpr h
  obtain ⟨adK, adV, hk, he⟩ := vk_Sof (args := #[Value.ref b]) (s := s) (N := 2) (tm := fun i => if i = 0 then .string "StationPiano$Tape" 55 else .string "StationPiano$Tape" 48) (len := ksL) (byt := ksB) (A := fun q : Nat => s.heap.size ≤ q)
    (fun i hi => by match i, hi with | 0, _ => decide | 1, _ => decide | i + 2, h => exact absurd h (by omega))
    (fun i hi => by match i, hi with | 0, _ => exact ns_ex0 hgv | 1, _ => exact ns_ex1 hgv | i + 2, h => exact absurd h (by omega))
    (fun i hi => by match i, hi with | 0, _ => exact ns_co0 hgv | 1, _ => exact ns_co1 hgv | i + 2, h => exact absurd h (by omega))
    (fun i hi => by match i, hi with | 0, _ => exact ns_ar0 hgv | 1, _ => exact ns_ar1 hgv | i + 2, h => exact absurd h (by omega))
    (fun i hi => by match i, hi with | 0, _ => exact ns_le0 hgv | 1, _ => exact ns_le1 hgv | i + 2, h => exact absurd h (by omega))
    (fun i hi => by match i, hi with | 0, _ => exact fun j hj => ns_b0 hgv j hj | 1, _ => exact fun j hj => ns_b1 hgv j hj | i + 2, h => exact absurd h (by omega))
    (fun i j hi hj hij => by
      match i, j, hi, hj, hij with
      | 0, 0, _, _, h => exact absurd rfl h
      | 0, 1, _, _, _ => exact Or.inl (ns_ne hgv)
      | 1, 0, _, _, _ => exact Or.inr (ns_ne hgv)
      | 1, 1, _, _, h => exact absurd rfl h
      | i + 2, _, h, _, _ => exact absurd h (by omega)
      | _, j + 2, _, h, _ => exact absurd h (by omega)) hA
  refine ⟨(adK, adV), ⟨hk, vk_R.of (A := #[Value.ref b]) (hts _ (tb_3 (List.mem_of_getElem? (i := 35) rfl))) (he 0 (by decide)), vk_R.of (A := #[Value.ref b]) (hts _ (tb_3 (List.mem_of_getElem? (i := 84) rfl))) (he 1 (by decide))⟩, ?_, ?_⟩
  · exact va_Zof (hts _ (tb_3 (List.mem_of_getElem? (i := 45) rfl))) (hts _ (tb_1 (List.mem_of_getElem? (i := 14) rfl))) (va_eqt (ns_cs hgv)) hA
  · exact (vx_Zqof (hts _ (tb_3 (List.mem_of_getElem? (i := 61) rfl))) (hts _ (tb_1 (List.mem_of_getElem? (i := 16) rfl))) (ns_fo hgv) hA).1
theorem start_XT {s : State} {b : Nat} (hts : ∀ w ∈ lw_tbl, w.before #[Value.ref b] s = true) (hgv : (Jvm.Cond.and given_1 narrow_1).before #[Value.ref b] s = true) : XT (fun q : Nat => s.heap.size ≤ q) s := by
  have hA : ∀ a : Nat, a < s.heap.size → ¬ (fun q : Nat => s.heap.size ≤ q) a := fun a h => Nat.not_le.mpr h
  exact ⟨fun w hw => va_Nw.of (List.all_eq_true.mp xb_t w hw) (hts w (xb_tbl w hw)), vx_Zqof (hts _ (tb_5 (List.mem_of_getElem? (i := 89) rfl))) (hts _ (tb_1 (List.mem_of_getElem? (i := 20) rfl))) (ns_us hgv) hA, vx_Zqof (hts _ (tb_5 (List.mem_of_getElem? (i := 91) rfl))) (hts _ (tb_1 (List.mem_of_getElem? (i := 20) rfl))) (ns_ss hgv) hA⟩
theorem start_AO {s : State} {b : Nat} (hts : ∀ w ∈ lw_tbl, w.before #[Value.ref b] s = true) : AO s := ⟨va_AO.of (A := #[Value.ref b]) (hts _ (tb_2 (List.mem_of_getElem? (i := 156) rfl))), va_AO.of (A := #[Value.ref b]) (hts _ (tb_1 (List.mem_of_getElem? (i := 92) rfl))), va_AO.of (A := #[Value.ref b]) (hts _ (tb_2 (List.mem_of_getElem? (i := 182) rfl))), (show (Cond.arrayOver (.array .int)).before #[Value.ref b] s = true from hts _ (tb_1 (List.mem_of_getElem? (i := 90) rfl))), fun w hw => va_Nw.of (List.all_eq_true.mp nsm_t w hw) (hts w (nsm_tbl w hw))⟩
set_option maxHeartbeats 8000000 in
theorem start_K {s : State} {b : Nat} (hts : ∀ w ∈ lw_tbl, w.before #[Value.ref b] s = true) : ∃ (dC : Nat → ClassId) (dI : Nat → Nat → Nat) (cy : Nat → ClassId), va_K (dC, dI) vwCl (tyl cy) s := by
  have htu : ∀ w ∈ uw, w.before #[Value.ref b] s = true := fun w hw => hts w (List.mem_filter.mp hw).1
  obtain ⟨c0, i0, k0⟩ := u_known (C := RX0) (T := TX0) (N := 3) (n := 3) htu ui_0 (htu _ uw2_57)
  obtain ⟨c1, i1, k1⟩ := u_known (C := RX1) (T := TX1) (N := 15) (n := 15) htu ui_1 (htu _ uw2_99)
  obtain ⟨c2, i2, k2⟩ := u_known (C := RX2) (T := TX2) (N := 5) (n := 5) htu ui_2 (htu _ uw1_94)
  obtain ⟨c3, i3, k3⟩ := u_known (C := RX3) (T := TX3) (N := 4) (n := 4) htu ui_3 (htu _ uw2_157)
  obtain ⟨c4, i4, k4⟩ := u_known (C := RX4) (T := TX4) (N := 9) (n := 9) htu ui_4 (htu _ uw1_118)
  obtain ⟨c5, i5, k5⟩ := u_known (C := RX5) (T := TX5) (N := 3) (n := 3) htu ui_5 (htu _ uw1_68)
  obtain ⟨c6, i6, k6⟩ := u_known (C := RX6) (T := TX6) (N := 6) (n := 6) htu ui_6 (htu _ uw1_239)
  obtain ⟨c7, i7, k7⟩ := u_known (C := RX7) (T := TX7) (N := 14) (n := 14) htu ui_7 (htu _ uw1_84)
  obtain ⟨c8, i8, k8⟩ := u_known (C := RX8) (T := TX8) (N := 5) (n := 5) htu ui_8 (htu _ uw2_74)
  obtain ⟨c9, i9, k9⟩ := u_known (C := RX9) (T := TX9) (N := 7) (n := 7) htu ui_9 (htu _ uw1_34)
  obtain ⟨c10, i10, k10⟩ := u_known (C := RX10) (T := TX10) (N := 4) (n := 4) htu ui_10 (htu _ uw2_33)
  obtain ⟨c11, i11, k11⟩ := u_known (C := RX11) (T := TX11) (N := 17) (n := 17) htu ui_11 (htu _ uw1_26)
  obtain ⟨c12, i12, k12⟩ := u_known (C := RX12) (T := TX12) (N := 67) (n := 67) htu ui_12 (htu _ uw5_207)
  obtain ⟨a0, ka0, co0, fa0, fb0, fc0⟩ := Cond.arrayClass_spec (htu _ uw1_66)
  obtain ⟨a1, ka1, co1, fa1, fb1, fc1⟩ := Cond.arrayClass_spec (htu _ uw1_117)
  obtain ⟨a2, ka2, co2, fa2, fb2, fc2⟩ := Cond.arrayClass_spec (htu _ uw1_116)
  obtain ⟨a3, ka3, co3, fa3, fb3, fc3⟩ := Cond.arrayClass_spec (htu _ uw6_182)
  obtain ⟨co4, a4, ka4, fo4, fi4, fb4, fc4, fa4⟩ := Cond.arrayOver_spec (hts _ (tb_2 (List.mem_of_getElem? (i := 156) rfl)))
  obtain ⟨co5, a5, ka5, fo5, fi5, fb5, fc5, fa5⟩ := Cond.arrayOver_spec (hts _ (tb_1 (List.mem_of_getElem? (i := 92) rfl)))
  obtain ⟨co6, a6, ka6, fo6, fi6, fb6, fc6, fa6⟩ := Cond.arrayOver_spec (hts _ (tb_2 (List.mem_of_getElem? (i := 182) rfl)))
  obtain ⟨co7, a7, ka7, fo7, fb7, fc7, fa7⟩ := Cond.arrayOver_specA (hts _ (tb_1 (List.mem_of_getElem? (i := 90) rfl)))
  refine ⟨(fun k => if k = 0 then c0 else if k = 1 then c1 else if k = 2 then c2 else if k = 3 then c3 else if k = 4 then c4 else if k = 5 then c5 else if k = 6 then c6 else if k = 7 then c7 else if k = 8 then c8 else if k = 9 then c9 else if k = 10 then c10 else if k = 11 then c11 else c12), (fun k => if k = 0 then i0 else if k = 1 then i1 else if k = 2 then i2 else if k = 3 then i3 else if k = 4 then i4 else if k = 5 then i5 else if k = 6 then i6 else if k = 7 then i7 else if k = 8 then i8 else if k = 9 then i9 else if k = 10 then i10 else if k = 11 then i11 else i12), (fun k => if k = 13 then a0 else if k = 14 then a1 else if k = 15 then a2 else if k = 16 then a3 else if k = 17 then a4 else if k = 18 then a5 else if k = 19 then a6 else a7), ?_, ?_⟩
  · intro k q hq
    match k, hq with
    | 0, hq => cases hq; exact k0
    | 1, hq => cases hq; exact k1
    | 2, hq => cases hq; exact k2
    | 3, hq => cases hq; exact k3
    | 4, hq => cases hq; exact k4
    | 5, hq => cases hq; exact k5
    | 6, hq => cases hq; exact k6
    | 7, hq => cases hq; exact k7
    | 8, hq => cases hq; exact k8
    | 9, hq => cases hq; exact k9
    | 10, hq => cases hq; exact k10
    | 11, hq => cases hq; exact k11
    | 12, hq => cases hq; exact k12
    | k + 13, hq => simp [vwCl] at hq
  · intro k q hq
    match k, hq with
    | 0, hq => cases hq; exact ⟨fun n z => ⟨fun k h => (by cases h), ka0, fb0, co0, fc0⟩, fa0⟩
    | 1, hq => cases hq; exact ⟨fun n z => ⟨fun k h => (by cases h), ka1, fb1, co1, fc1⟩, fa1⟩
    | 2, hq => cases hq; exact ⟨fun n z => ⟨fun k h => (by cases h), ka2, fb2, co2, fc2⟩, fa2⟩
    | 3, hq => cases hq; exact ⟨fun n z => ⟨fun k h => (by cases h), ka3, fb3, co3, fc3⟩, fa3⟩
    | 4, hq => cases hq; exact ⟨fun n z => ⟨fun k h => (by cases h), ka4, fb4, co4, fc4⟩, ka4, co4, fb4, fc4, fo4, fa4⟩
    | 5, hq => cases hq; exact ⟨fun n z => ⟨fun k h => (by cases h), ka5, fb5, co5, fc5⟩, ka5, co5, fb5, fc5, fo5, fa5⟩
    | 6, hq => cases hq; exact ⟨fun n z => ⟨fun k h => (by cases h), ka6, fb6, co6, fc6⟩, ka6, co6, fb6, fc6, fo6, fa6⟩
    | 7, hq => cases hq; exact ⟨fun n z => ⟨fun k h => (by cases h), ka7, fb7, co7, fc7⟩, fa7⟩
    | k + 8, hq => simp [tyl] at hq
