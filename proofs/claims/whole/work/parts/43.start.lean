theorem nst_tbl : ∀ w ∈ nst, w ∈ lw_tbl := by
  unfold nst
  refine List.forall_mem_cons.mpr ⟨tb_1 (List.mem_of_getElem? (i := 41) rfl), ?_⟩
  refine List.forall_mem_cons.mpr ⟨tb_1 (List.mem_of_getElem? (i := 42) rfl), ?_⟩
  refine List.forall_mem_cons.mpr ⟨tb_1 (List.mem_of_getElem? (i := 44) rfl), ?_⟩
  refine List.forall_mem_cons.mpr ⟨tb_1 (List.mem_of_getElem? (i := 48) rfl), ?_⟩
  refine List.forall_mem_cons.mpr ⟨tb_1 (List.mem_of_getElem? (i := 50) rfl), ?_⟩
  refine List.forall_mem_cons.mpr ⟨tb_1 (List.mem_of_getElem? (i := 102) rfl), ?_⟩
  refine List.forall_mem_cons.mpr ⟨tb_1 (List.mem_of_getElem? (i := 124) rfl), ?_⟩
  refine List.forall_mem_cons.mpr ⟨tb_1 (List.mem_of_getElem? (i := 126) rfl), ?_⟩
  refine List.forall_mem_cons.mpr ⟨tb_1 (List.mem_of_getElem? (i := 127) rfl), ?_⟩
  refine List.forall_mem_cons.mpr ⟨tb_1 (List.mem_of_getElem? (i := 128) rfl), ?_⟩
  refine List.forall_mem_cons.mpr ⟨tb_1 (List.mem_of_getElem? (i := 129) rfl), ?_⟩
  refine List.forall_mem_cons.mpr ⟨tb_1 (List.mem_of_getElem? (i := 131) rfl), ?_⟩
  refine List.forall_mem_cons.mpr ⟨tb_1 (List.mem_of_getElem? (i := 132) rfl), ?_⟩
  refine List.forall_mem_cons.mpr ⟨tb_1 (List.mem_of_getElem? (i := 133) rfl), ?_⟩
  refine List.forall_mem_cons.mpr ⟨tb_1 (List.mem_of_getElem? (i := 134) rfl), ?_⟩
  refine List.forall_mem_cons.mpr ⟨tb_1 (List.mem_of_getElem? (i := 135) rfl), ?_⟩
  refine List.forall_mem_cons.mpr ⟨tb_1 (List.mem_of_getElem? (i := 136) rfl), ?_⟩
  refine List.forall_mem_cons.mpr ⟨tb_1 (List.mem_of_getElem? (i := 137) rfl), ?_⟩
  refine List.forall_mem_cons.mpr ⟨tb_1 (List.mem_of_getElem? (i := 138) rfl), ?_⟩
  refine List.forall_mem_cons.mpr ⟨tb_1 (List.mem_of_getElem? (i := 140) rfl), ?_⟩
  refine List.forall_mem_cons.mpr ⟨tb_1 (List.mem_of_getElem? (i := 141) rfl), ?_⟩
  refine List.forall_mem_cons.mpr ⟨tb_1 (List.mem_of_getElem? (i := 143) rfl), ?_⟩
  refine List.forall_mem_cons.mpr ⟨tb_1 (List.mem_of_getElem? (i := 144) rfl), ?_⟩
  refine List.forall_mem_cons.mpr ⟨tb_1 (List.mem_of_getElem? (i := 145) rfl), ?_⟩
  refine List.forall_mem_cons.mpr ⟨tb_1 (List.mem_of_getElem? (i := 146) rfl), ?_⟩
  refine List.forall_mem_cons.mpr ⟨tb_1 (List.mem_of_getElem? (i := 167) rfl), ?_⟩
  refine List.forall_mem_cons.mpr ⟨tb_1 (List.mem_of_getElem? (i := 169) rfl), ?_⟩
  refine List.forall_mem_cons.mpr ⟨tb_1 (List.mem_of_getElem? (i := 170) rfl), ?_⟩
  refine List.forall_mem_cons.mpr ⟨tb_1 (List.mem_of_getElem? (i := 172) rfl), ?_⟩
  refine List.forall_mem_cons.mpr ⟨tb_1 (List.mem_of_getElem? (i := 173) rfl), ?_⟩
  refine List.forall_mem_cons.mpr ⟨tb_1 (List.mem_of_getElem? (i := 175) rfl), ?_⟩
  refine List.forall_mem_cons.mpr ⟨tb_1 (List.mem_of_getElem? (i := 176) rfl), ?_⟩
  refine List.forall_mem_cons.mpr ⟨tb_1 (List.mem_of_getElem? (i := 177) rfl), ?_⟩
  refine List.forall_mem_cons.mpr ⟨tb_1 (List.mem_of_getElem? (i := 178) rfl), ?_⟩
  refine List.forall_mem_cons.mpr ⟨tb_1 (List.mem_of_getElem? (i := 180) rfl), ?_⟩
  refine List.forall_mem_cons.mpr ⟨tb_1 (List.mem_of_getElem? (i := 182) rfl), ?_⟩
  refine List.forall_mem_cons.mpr ⟨tb_1 (List.mem_of_getElem? (i := 184) rfl), ?_⟩
  refine List.forall_mem_cons.mpr ⟨tb_1 (List.mem_of_getElem? (i := 185) rfl), ?_⟩
  refine List.forall_mem_cons.mpr ⟨tb_1 (List.mem_of_getElem? (i := 186) rfl), ?_⟩
  refine List.forall_mem_cons.mpr ⟨tb_1 (List.mem_of_getElem? (i := 188) rfl), ?_⟩
  refine List.forall_mem_cons.mpr ⟨tb_1 (List.mem_of_getElem? (i := 189) rfl), ?_⟩
  refine List.forall_mem_cons.mpr ⟨tb_1 (List.mem_of_getElem? (i := 190) rfl), ?_⟩
  refine List.forall_mem_cons.mpr ⟨tb_1 (List.mem_of_getElem? (i := 192) rfl), ?_⟩
  refine List.forall_mem_cons.mpr ⟨tb_1 (List.mem_of_getElem? (i := 193) rfl), ?_⟩
  refine List.forall_mem_cons.mpr ⟨tb_1 (List.mem_of_getElem? (i := 194) rfl), ?_⟩
  refine List.forall_mem_cons.mpr ⟨tb_1 (List.mem_of_getElem? (i := 196) rfl), ?_⟩
  refine List.forall_mem_cons.mpr ⟨tb_1 (List.mem_of_getElem? (i := 197) rfl), ?_⟩
  refine List.forall_mem_cons.mpr ⟨tb_1 (List.mem_of_getElem? (i := 199) rfl), ?_⟩
  refine List.forall_mem_cons.mpr ⟨tb_1 (List.mem_of_getElem? (i := 200) rfl), ?_⟩
  refine List.forall_mem_cons.mpr ⟨tb_1 (List.mem_of_getElem? (i := 202) rfl), ?_⟩
  refine List.forall_mem_cons.mpr ⟨tb_1 (List.mem_of_getElem? (i := 203) rfl), ?_⟩
  refine List.forall_mem_cons.mpr ⟨tb_1 (List.mem_of_getElem? (i := 205) rfl), ?_⟩
  refine List.forall_mem_cons.mpr ⟨tb_1 (List.mem_of_getElem? (i := 206) rfl), ?_⟩
  refine List.forall_mem_cons.mpr ⟨tb_1 (List.mem_of_getElem? (i := 208) rfl), ?_⟩
  refine List.forall_mem_cons.mpr ⟨tb_2 (List.mem_of_getElem? (i := 5) rfl), ?_⟩
  refine List.forall_mem_cons.mpr ⟨tb_2 (List.mem_of_getElem? (i := 6) rfl), ?_⟩
  refine List.forall_mem_cons.mpr ⟨tb_2 (List.mem_of_getElem? (i := 8) rfl), ?_⟩
  refine List.forall_mem_cons.mpr ⟨tb_2 (List.mem_of_getElem? (i := 10) rfl), ?_⟩
  refine List.forall_mem_cons.mpr ⟨tb_2 (List.mem_of_getElem? (i := 12) rfl), ?_⟩
  refine List.forall_mem_cons.mpr ⟨tb_2 (List.mem_of_getElem? (i := 13) rfl), ?_⟩
  refine List.forall_mem_cons.mpr ⟨tb_2 (List.mem_of_getElem? (i := 15) rfl), ?_⟩
  refine List.forall_mem_cons.mpr ⟨tb_2 (List.mem_of_getElem? (i := 16) rfl), ?_⟩
  refine List.forall_mem_cons.mpr ⟨tb_2 (List.mem_of_getElem? (i := 18) rfl), ?_⟩
  refine List.forall_mem_cons.mpr ⟨tb_2 (List.mem_of_getElem? (i := 39) rfl), ?_⟩
  refine List.forall_mem_cons.mpr ⟨tb_2 (List.mem_of_getElem? (i := 41) rfl), ?_⟩
  refine List.forall_mem_cons.mpr ⟨tb_2 (List.mem_of_getElem? (i := 43) rfl), ?_⟩
  refine List.forall_mem_cons.mpr ⟨tb_2 (List.mem_of_getElem? (i := 45) rfl), ?_⟩
  refine List.forall_mem_cons.mpr ⟨tb_2 (List.mem_of_getElem? (i := 46) rfl), ?_⟩
  refine List.forall_mem_cons.mpr ⟨tb_2 (List.mem_of_getElem? (i := 65) rfl), ?_⟩
  refine List.forall_mem_cons.mpr ⟨tb_2 (List.mem_of_getElem? (i := 82) rfl), ?_⟩
  refine List.forall_mem_cons.mpr ⟨tb_2 (List.mem_of_getElem? (i := 84) rfl), ?_⟩
  refine List.forall_mem_cons.mpr ⟨tb_2 (List.mem_of_getElem? (i := 86) rfl), ?_⟩
  refine List.forall_mem_cons.mpr ⟨tb_2 (List.mem_of_getElem? (i := 105) rfl), ?_⟩
  refine List.forall_mem_cons.mpr ⟨tb_2 (List.mem_of_getElem? (i := 107) rfl), ?_⟩
  refine List.forall_mem_cons.mpr ⟨tb_2 (List.mem_of_getElem? (i := 109) rfl), ?_⟩
  refine List.forall_mem_cons.mpr ⟨tb_2 (List.mem_of_getElem? (i := 118) rfl), ?_⟩
  refine List.forall_mem_cons.mpr ⟨tb_2 (List.mem_of_getElem? (i := 120) rfl), ?_⟩
  refine List.forall_mem_cons.mpr ⟨tb_2 (List.mem_of_getElem? (i := 172) rfl), ?_⟩
  exact fun _ h => nomatch h
theorem nsm_tbl : ∀ w ∈ nsm, w ∈ lw_tbl := by
  unfold nsm
  refine List.forall_mem_cons.mpr ⟨tb_1 (List.mem_of_getElem? (i := 35) rfl), ?_⟩
  refine List.forall_mem_cons.mpr ⟨tb_1 (List.mem_of_getElem? (i := 119) rfl), ?_⟩
  refine List.forall_mem_cons.mpr ⟨tb_2 (List.mem_of_getElem? (i := 0) rfl), ?_⟩
  refine List.forall_mem_cons.mpr ⟨tb_2 (List.mem_of_getElem? (i := 34) rfl), ?_⟩
  refine List.forall_mem_cons.mpr ⟨tb_2 (List.mem_of_getElem? (i := 58) rfl), ?_⟩
  refine List.forall_mem_cons.mpr ⟨tb_2 (List.mem_of_getElem? (i := 75) rfl), ?_⟩
  refine List.forall_mem_cons.mpr ⟨tb_2 (List.mem_of_getElem? (i := 158) rfl), ?_⟩
  refine List.forall_mem_cons.mpr ⟨tb_2 (List.mem_of_getElem? (i := 163) rfl), ?_⟩
  refine List.forall_mem_cons.mpr ⟨tb_2 (List.mem_of_getElem? (i := 165) rfl), ?_⟩
  refine List.forall_mem_cons.mpr ⟨tb_2 (List.mem_of_getElem? (i := 167) rfl), ?_⟩
  exact fun _ h => nomatch h
theorem xb_tbl : ∀ w ∈ xb, w ∈ lw_tbl := by
  unfold xb
  refine List.forall_mem_cons.mpr ⟨(tb_5 (List.mem_of_getElem? (i := 64) rfl)), ?_⟩
  refine List.forall_mem_cons.mpr ⟨(tb_5 (List.mem_of_getElem? (i := 65) rfl)), ?_⟩
  refine List.forall_mem_cons.mpr ⟨(tb_5 (List.mem_of_getElem? (i := 67) rfl)), ?_⟩
  refine List.forall_mem_cons.mpr ⟨(tb_5 (List.mem_of_getElem? (i := 69) rfl)), ?_⟩
  exact fun _ h => nomatch h
abbrev m00 : Mm := (fun _ _ => 0, fun _ _ => 0, fun _ _ => 0)
abbrev f00 : Fl := fun _ _ => false
/-- the relation holds of what the constructors make -/
def InitOK (Rel : Mm → Mm → Prop) : Prop := ∃ mv0 mv1 : Mm, f_X12_usual 0 (im_12 (zr m00 0)) = some mv0 ∧ f_X12_fresh mv0 = some mv1 ∧ Rel (im_11 (zr m00 0)) mv1
set_option maxRecDepth 100000 in
theorem ns_b0 : ∀ j, j < 154 → (Cond.eq (.elem (.field (.string "StationPiano$Tape" 55) "java/lang/String" "value" "[B") (.int (Int32.ofNat j))) (.int ((ksB.getD 0 []).getD j 0))) ∈ flatC (Jvm.Cond.and given_1 narrow_1) := by decide +kernel
theorem ns_ex0 : Cond.exactly (.string "StationPiano$Tape" 55) "java/lang/String" ∈ flatC (Jvm.Cond.and given_1 narrow_1) := by decide +kernel
theorem ns_co0 : Cond.eq (.field (.string "StationPiano$Tape" 55) "java/lang/String" "coder" "B") (.int 0) ∈ flatC (Jvm.Cond.and given_1 narrow_1) := by decide +kernel
theorem ns_ar0 : Cond.arrayOf (.field (.string "StationPiano$Tape" 55) "java/lang/String" "value" "[B") .byte ∈ flatC (Jvm.Cond.and given_1 narrow_1) := by decide +kernel
theorem ns_le0 : Cond.eq (.length (.field (.string "StationPiano$Tape" 55) "java/lang/String" "value" "[B")) (.int (Int32.ofNat (ksL.getD 0 0))) ∈ flatC (Jvm.Cond.and given_1 narrow_1) := by decide +kernel
set_option maxRecDepth 100000 in
theorem ns_b1 : ∀ j, j < 8 → (Cond.eq (.elem (.field (.string "StationPiano$Tape" 48) "java/lang/String" "value" "[B") (.int (Int32.ofNat j))) (.int ((ksB.getD 1 []).getD j 0))) ∈ flatC (Jvm.Cond.and given_1 narrow_1) := by decide +kernel
theorem ns_ex1 : Cond.exactly (.string "StationPiano$Tape" 48) "java/lang/String" ∈ flatC (Jvm.Cond.and given_1 narrow_1) := by decide +kernel
theorem ns_co1 : Cond.eq (.field (.string "StationPiano$Tape" 48) "java/lang/String" "coder" "B") (.int 0) ∈ flatC (Jvm.Cond.and given_1 narrow_1) := by decide +kernel
theorem ns_ar1 : Cond.arrayOf (.field (.string "StationPiano$Tape" 48) "java/lang/String" "value" "[B") .byte ∈ flatC (Jvm.Cond.and given_1 narrow_1) := by decide +kernel
theorem ns_le1 : Cond.eq (.length (.field (.string "StationPiano$Tape" 48) "java/lang/String" "value" "[B")) (.int (Int32.ofNat (ksL.getD 1 0))) ∈ flatC (Jvm.Cond.and given_1 narrow_1) := by decide +kernel
theorem ns_ne : Cond.not (Cond.eq (.string "StationPiano$Tape" 55) (.string "StationPiano$Tape" 48)) ∈ flatC (Jvm.Cond.and given_1 narrow_1) ∨ Cond.not (Cond.eq (.string "StationPiano$Tape" 48) (.string "StationPiano$Tape" 55)) ∈ flatC (Jvm.Cond.and given_1 narrow_1) := by decide +kernel
theorem ns_cs : Cond.eq (.static "java/lang/String" "COMPACT_STRINGS" "Z") (.int 1) ∈ flatC (Jvm.Cond.and given_1 narrow_1) := by decide +kernel
theorem ns_fo : Cond.isRef (.static "jdk/internal/util/Preconditions" "SIOOBE_FORMATTER" "Ljava/util/function/BiFunction;") ∈ flatC (Jvm.Cond.and given_1 narrow_1) := by decide +kernel
theorem ns_us : Cond.isRef (.static Bundle.tN "UNASSIGNED_STACK" Bundle.steD) ∈ flatC (Jvm.Cond.and given_1 narrow_1) := by decide +kernel
theorem ns_ss : Cond.isRef (.static Bundle.tN "SUPPRESSED_SENTINEL" Bundle.listD) ∈ flatC (Jvm.Cond.and given_1 narrow_1) := by decide +kernel
set_option maxHeartbeats 8000000 in
set_option maxRecDepth 100000 in
theorem start_EX {s : State} {b : Nat} (hts : ∀ w ∈ lw_tbl, w.before #[Value.ref b] s = true) (hgv : (Jvm.Cond.and given_1 narrow_1).before #[Value.ref b] s = true) : ∃ ks : (Nat → Nat) × (Nat → Nat), EX ks (fun q : Nat => s.heap.size ≤ q) s := by
  have hs := flat_of_before _ hgv
  have hA : ∀ a : Nat, a < s.heap.size → ¬ (fun q : Nat => s.heap.size ≤ q) a := fun a h => Nat.not_le.mpr h
  obtain ⟨adK, adV, hk, he⟩ := vk_Sof (args := #[Value.ref b]) (s := s) (N := 2) (tm := fun i => if i = 0 then .string "StationPiano$Tape" 55 else .string "StationPiano$Tape" 48) (len := ksL) (byt := ksB) (A := fun q : Nat => s.heap.size ≤ q)
    (fun i hi => by match i, hi with | 0, _ => decide | 1, _ => decide | i + 2, h => exact absurd h (by omega))
    (fun i hi => by match i, hi with | 0, _ => exact hs _ ns_ex0 | 1, _ => exact hs _ ns_ex1 | i + 2, h => exact absurd h (by omega))
    (fun i hi => by match i, hi with | 0, _ => exact hs _ ns_co0 | 1, _ => exact hs _ ns_co1 | i + 2, h => exact absurd h (by omega))
    (fun i hi => by match i, hi with | 0, _ => exact hs _ ns_ar0 | 1, _ => exact hs _ ns_ar1 | i + 2, h => exact absurd h (by omega))
    (fun i hi => by match i, hi with | 0, _ => exact hs _ ns_le0 | 1, _ => exact hs _ ns_le1 | i + 2, h => exact absurd h (by omega))
    (fun i hi => by match i, hi with | 0, _ => exact fun j hj => hs _ (ns_b0 j hj) | 1, _ => exact fun j hj => hs _ (ns_b1 j hj) | i + 2, h => exact absurd h (by omega))
    (fun i j hi hj hij => by
      match i, j, hi, hj, hij with
      | 0, 0, _, _, h => exact absurd rfl h
      | 0, 1, _, _, _ => exact ns_ne.elim (fun z => Or.inl (hs _ z)) (fun z => Or.inr (hs _ z))
      | 1, 0, _, _, _ => exact ns_ne.elim (fun z => Or.inr (hs _ z)) (fun z => Or.inl (hs _ z))
      | 1, 1, _, _, h => exact absurd rfl h
      | i + 2, _, h, _, _ => exact absurd h (by omega)
      | _, j + 2, _, h, _ => exact absurd h (by omega)) hA
  refine ⟨(adK, adV), ⟨hk, vk_R.of (A := #[Value.ref b]) (hts _ (tb_3 (List.mem_of_getElem? (i := 35) rfl))) (he 0 (by decide)), vk_R.of (A := #[Value.ref b]) (hts _ (tb_3 (List.mem_of_getElem? (i := 84) rfl))) (he 1 (by decide))⟩, ?_, ?_⟩
  · exact va_Zof (hts _ (tb_3 (List.mem_of_getElem? (i := 45) rfl))) (hts _ (tb_1 (List.mem_of_getElem? (i := 14) rfl))) (va_eqt (hs _ ns_cs)) hA
  · exact (vx_Zqof (hts _ (tb_3 (List.mem_of_getElem? (i := 61) rfl))) (hts _ (tb_1 (List.mem_of_getElem? (i := 16) rfl))) (hs _ ns_fo) hA).1
theorem start_XT {s : State} {b : Nat} (hts : ∀ w ∈ lw_tbl, w.before #[Value.ref b] s = true) (hgv : (Jvm.Cond.and given_1 narrow_1).before #[Value.ref b] s = true) : XT (fun q : Nat => s.heap.size ≤ q) s := by
  have hs := flat_of_before _ hgv
  have hA : ∀ a : Nat, a < s.heap.size → ¬ (fun q : Nat => s.heap.size ≤ q) a := fun a h => Nat.not_le.mpr h
  exact ⟨fun w hw => va_Nw.of (List.all_eq_true.mp xb_t w hw) (hts w (xb_tbl w hw)), vx_Zqof (hts _ (tb_5 (List.mem_of_getElem? (i := 89) rfl))) (hts _ (tb_1 (List.mem_of_getElem? (i := 20) rfl))) (hs _ ns_us) hA, vx_Zqof (hts _ (tb_5 (List.mem_of_getElem? (i := 91) rfl))) (hts _ (tb_1 (List.mem_of_getElem? (i := 20) rfl))) (hs _ ns_ss) hA⟩
theorem start_AO {s : State} {b : Nat} (hts : ∀ w ∈ lw_tbl, w.before #[Value.ref b] s = true) : AO s := ⟨va_AO.of (A := #[Value.ref b]) (hts _ (tb_2 (List.mem_of_getElem? (i := 156) rfl))), va_AO.of (A := #[Value.ref b]) (hts _ (tb_1 (List.mem_of_getElem? (i := 92) rfl))), va_AO.of (A := #[Value.ref b]) (hts _ (tb_2 (List.mem_of_getElem? (i := 182) rfl))), (show (Cond.arrayOver (.array .int)).before #[Value.ref b] s = true from hts _ (tb_1 (List.mem_of_getElem? (i := 90) rfl))), fun w hw => va_Nw.of (List.all_eq_true.mp nsm_t w hw) (hts w (nsm_tbl w hw))⟩
set_option maxHeartbeats 8000000 in
theorem start_K {s : State} {b : Nat} (hts : ∀ w ∈ lw_tbl, w.before #[Value.ref b] s = true) : ∃ (dC : Nat → ClassId) (dI : Nat → Nat → Nat) (cy : Nat → ClassId), va_K (dC, dI) vwCl (tyl cy) s := by
  have htu : ∀ w ∈ uw, w.before #[Value.ref b] s = true := fun w hw => hts w (List.mem_filter.mp hw).1
  obtain ⟨c0, i0, k0⟩ := u_known (C := RX0) (T := TX0) (N := 3) (n := 3) htu ui_0 (htu _ uw2_57)
  obtain ⟨c1, i1, k1⟩ := u_known (C := RX1) (T := TX1) (N := 15) (n := 15) htu ui_1 (htu _ uw2_99)
  obtain ⟨c2, i2, k2⟩ := u_known (C := RX2) (T := TX2) (N := 5) (n := 5) htu ui_2 (htu _ uw1_94)
  obtain ⟨c3, i3, k3⟩ := u_known (C := RX3) (T := TX3) (N := 4) (n := 4) htu ui_3 (htu _ uw2_157)
  obtain ⟨c4, i4, k4⟩ := u_known (C := RX4) (T := TX4) (N := 9) (n := 9) htu ui_4 (htu _ uw1_118)
  obtain ⟨c5, i5, k5⟩ := u_known (C := RX5) (T := TX5) (N := 3) (n := 3) htu ui_5 (htu _ uw1_68)
  obtain ⟨c6, i6, k6⟩ := u_known (C := RX6) (T := TX6) (N := 6) (n := 6) htu ui_6 (htu _ uw1_239)
  obtain ⟨c7, i7, k7⟩ := u_known (C := RX7) (T := TX7) (N := 14) (n := 14) htu ui_7 (htu _ uw1_84)
  obtain ⟨c8, i8, k8⟩ := u_known (C := RX8) (T := TX8) (N := 5) (n := 5) htu ui_8 (htu _ uw2_74)
  obtain ⟨c9, i9, k9⟩ := u_known (C := RX9) (T := TX9) (N := 7) (n := 7) htu ui_9 (htu _ uw1_34)
  obtain ⟨c10, i10, k10⟩ := u_known (C := RX10) (T := TX10) (N := 4) (n := 4) htu ui_10 (htu _ uw2_33)
  obtain ⟨c11, i11, k11⟩ := u_known (C := RX11) (T := TX11) (N := 17) (n := 17) htu ui_11 (htu _ uw1_26)
  obtain ⟨c12, i12, k12⟩ := u_known (C := RX12) (T := TX12) (N := 67) (n := 67) htu ui_12 (htu _ uw5_207)
  obtain ⟨a0, ka0, co0, fa0, fb0, fc0⟩ := Cond.arrayClass_spec (htu _ uw1_66)
  obtain ⟨a1, ka1, co1, fa1, fb1, fc1⟩ := Cond.arrayClass_spec (htu _ uw1_117)
  obtain ⟨a2, ka2, co2, fa2, fb2, fc2⟩ := Cond.arrayClass_spec (htu _ uw1_116)
  obtain ⟨a3, ka3, co3, fa3, fb3, fc3⟩ := Cond.arrayClass_spec (htu _ uw6_182)
  obtain ⟨co4, a4, ka4, fo4, fi4, fb4, fc4, fa4⟩ := Cond.arrayOver_spec (hts _ (tb_2 (List.mem_of_getElem? (i := 156) rfl)))
  obtain ⟨co5, a5, ka5, fo5, fi5, fb5, fc5, fa5⟩ := Cond.arrayOver_spec (hts _ (tb_1 (List.mem_of_getElem? (i := 92) rfl)))
  obtain ⟨co6, a6, ka6, fo6, fi6, fb6, fc6, fa6⟩ := Cond.arrayOver_spec (hts _ (tb_2 (List.mem_of_getElem? (i := 182) rfl)))
  obtain ⟨co7, a7, ka7, fo7, fb7, fc7, fa7⟩ := Cond.arrayOver_specA (hts _ (tb_1 (List.mem_of_getElem? (i := 90) rfl)))
  refine ⟨(fun k => if k = 0 then c0 else if k = 1 then c1 else if k = 2 then c2 else if k = 3 then c3 else if k = 4 then c4 else if k = 5 then c5 else if k = 6 then c6 else if k = 7 then c7 else if k = 8 then c8 else if k = 9 then c9 else if k = 10 then c10 else if k = 11 then c11 else c12), (fun k => if k = 0 then i0 else if k = 1 then i1 else if k = 2 then i2 else if k = 3 then i3 else if k = 4 then i4 else if k = 5 then i5 else if k = 6 then i6 else if k = 7 then i7 else if k = 8 then i8 else if k = 9 then i9 else if k = 10 then i10 else if k = 11 then i11 else i12), (fun k => if k = 13 then a0 else if k = 14 then a1 else if k = 15 then a2 else if k = 16 then a3 else if k = 17 then a4 else if k = 18 then a5 else if k = 19 then a6 else a7), ?_, ?_⟩
  · intro k q hq
    match k, hq with
    | 0, hq => cases hq; exact k0
    | 1, hq => cases hq; exact k1
    | 2, hq => cases hq; exact k2
    | 3, hq => cases hq; exact k3
    | 4, hq => cases hq; exact k4
    | 5, hq => cases hq; exact k5
    | 6, hq => cases hq; exact k6
    | 7, hq => cases hq; exact k7
    | 8, hq => cases hq; exact k8
    | 9, hq => cases hq; exact k9
    | 10, hq => cases hq; exact k10
    | 11, hq => cases hq; exact k11
    | 12, hq => cases hq; exact k12
    | k + 13, hq => simp [vwCl] at hq
  · intro k q hq
    match k, hq with
    | 0, hq => cases hq; exact ⟨fun n z => ⟨fun k h => (by cases h), ka0, fb0, co0, fc0⟩, fa0⟩
    | 1, hq => cases hq; exact ⟨fun n z => ⟨fun k h => (by cases h), ka1, fb1, co1, fc1⟩, fa1⟩
    | 2, hq => cases hq; exact ⟨fun n z => ⟨fun k h => (by cases h), ka2, fb2, co2, fc2⟩, fa2⟩
    | 3, hq => cases hq; exact ⟨fun n z => ⟨fun k h => (by cases h), ka3, fb3, co3, fc3⟩, fa3⟩
    | 4, hq => cases hq; exact ⟨fun n z => ⟨fun k h => (by cases h), ka4, fb4, co4, fc4⟩, ka4, co4, fb4, fc4, fo4, fa4⟩
    | 5, hq => cases hq; exact ⟨fun n z => ⟨fun k h => (by cases h), ka5, fb5, co5, fc5⟩, ka5, co5, fb5, fc5, fo5, fa5⟩
    | 6, hq => cases hq; exact ⟨fun n z => ⟨fun k h => (by cases h), ka6, fb6, co6, fc6⟩, ka6, co6, fb6, fc6, fo6, fa6⟩
    | 7, hq => cases hq; exact ⟨fun n z => ⟨fun k h => (by cases h), ka7, fb7, co7, fc7⟩, fa7⟩
    | k + 8, hq => simp [tyl] at hq
