noncomputable def f_X11_strikes (h0 : Nat) (p1 : Int32) (p2 : Int32) (mem : Mm) : Option (Int32 × Mm) :=
  bdI (f_X11_isPasser h0 p1 mem) fun x2 m1 => if x2 = 0 then (some ((-1), m1)) else (bdI (f_X11_isKey p2 m1) fun x4 m3 => if ¬ x4 = 0 then (grd (decide (Lp.1 (gR m3 h0 2) = 7)) (bnd (gR m3 h0 2) fun q5 => grd (inb p1 (Lp.2.1 (q5 + 9))) (bnd (q5 + 9 + (7 + 2 * p1.toNatClampNeg)) fun q6 => bdI (f_X4_strikesOn q6 p2 m3) fun x8 m7 => some (x8, m7)))) else (some ((-1), m3)))
theorem dd_X11_strikes : yX11_strikes.cls = RX11 ∧ yX11_strikes.cls ≠ "java/lang/invoke/MethodHandle" ∧ yX11_strikes.cls ≠ "java/lang/invoke/VarHandle" ∧ (parseMethodDescriptor yX11_strikes.desc).map (fun d => d.parameters.length) = some 2 := by decide +kernel
set_option maxHeartbeats 4000000 in
set_option maxRecDepth 100000 in
theorem k_X11_strikes {l : Launch} {ad : Nat → Nat} {cy : Nat → ClassId} {dC : Nat → ClassId} {dI : Nat → Nat → Nat} {ks : (Nat → Nat) × (Nat → Nat)} {h0 : Nat} {p1 : Int32} {p2 : Int32} {mem : Mm} {r2 : Int32} {mem2 : Mm} (e0 : Lp.1 h0 = 11) (h : f_X11_strikes h0 p1 p2 mem = some (r2, mem2)) : CtI l Lp ad cy dC dI ks yX11_strikes cX11_strikes 3 (some .int) ({ frames := 1, cells := 0, slots := 0, locals := 23 }) [.ref (ad (h0)), .int (p1), .int (p2)] mem r2 mem2 := by
  refine CtI.of (cc := cX11_strikes) (maxL := 3) (ret := (some .int)) (own := RX11) rfl (by decide) (Nat.le_of_ble_eq_true rfl) ?_
  intro p e s m args below meth c A X
  have hts := X.2.2.2.2.1
  have hl120 := X.2.2.2.2.2.2.1 (.fieldLinkNest "StationPiano" 120 "StationPiano$Station" "passers" "[LStationPiano$Passer;" "StationPiano") (List.mem_of_getElem? (i := 32) rfl)
  unfold f_X11_strikes at h
  refine r_aload_n X dX11_strikes_0 rfl 0 rfl ?_
  refine r_iload_n X dX11_strikes_1 rfl 1 rfl ?_
  refine r_cVI (As := [.int (p1)]) (rest := []) X (fun r9 m9 hg => k_X11_isPasser e0 hg) h (Lp_N e0 rfl) e0 rfl (by decide) uw4_38 uw4_40 us2_7 uw1_1 uw4_41 rfl rfl dd_X11_isPasser ⟨Nat.le_of_ble_eq_true rfl, Nat.le_of_ble_eq_true rfl⟩ rfl (Nat.le_of_ble_eq_true rfl) dX11_strikes_2 rfl (fun x2 m1 h => ?_)
  refine r_if_eq (tgt := 15) X dX11_strikes_5 (by decide) h (fun h => ?_) (fun h => ?_)
  · refine r_iconst (v := (-1)) X dX11_strikes_15 (by decide) ?_
    exact r_iret2 X rfl dX11_strikes_16 h
  · refine r_iload_n X dX11_strikes_8 rfl 2 rfl ?_
    refine r_cSI (As := [.int (p2)]) (rest := []) X (fun r9 m9 hg => k_X11_isKey hg) h uw4_54 uw4_55 uw1_1 uw4_56 rfl rfl dd_X11_isKey ⟨Nat.le_of_ble_eq_true rfl, Nat.le_of_ble_eq_true rfl⟩ rfl (Nat.le_of_ble_eq_true rfl) dX11_strikes_9 rfl (fun x4 m3 h => ?_)
    refine r_if_ne (tgt := 17) X dX11_strikes_12 (by decide) h (fun h => ?_) (fun h => ?_)
    · refine r_aload_n X dX11_strikes_17 rfl 0 rfl ?_
      refine r_getR X 7 (k := 2) (Lp_N e0 rfl) e0 rfl (by decide) ui_11 (by decide) uw2_185 rfl h dX11_strikes_18 (fun q5 eq5 h => ?_)
      refine r_getFN X (k := 3) (of := 9) rfl (Lp_N eq5 rfl) eq5 rfl (by decide) ui_7 (by decide) hl120 rfl dX11_strikes_21 ?_
      refine r_iload_n X dX11_strikes_24 rfl 1 rfl ?_
      refine r_ald18 X (Lp_N (Lp_7_3 eq5) rfl) (Lp_7_3 eq5) (Lp_e18 (Lp_7_3 eq5)) rfl h dX11_strikes_25 (fun q6 eq6 h => ?_)
      refine r_iload_n X dX11_strikes_26 rfl 2 rfl ?_
      refine r_cVI (As := [.int (p2)]) (rest := []) X (fun r9 m9 hg => k_X4_strikesOn eq6 hg) h (Lp_N eq6 rfl) eq6 rfl (by decide) uw4_217 uw4_218 uw4_219 uw1_6 uw4_220 rfl rfl dd_X4_strikesOn ⟨Nat.le_of_ble_eq_true rfl, Nat.le_of_ble_eq_true rfl⟩ rfl (Nat.le_of_ble_eq_true rfl) dX11_strikes_27 rfl (fun x8 m7 h => ?_)
      exact r_iret2 X rfl dX11_strikes_30 h
    · refine r_iconst (v := (-1)) X dX11_strikes_15 (by decide) ?_
      exact r_iret2 X rfl dX11_strikes_16 h
noncomputable def f_X11_find (h0 : Nat) (p1 : Int32) (p2 : Int32) (mem : Mm) : Option (Int32 × Mm) :=
  bdI (f_X11_isKey p1 mem) fun x2 m1 => if x2 = 0 then (grd (bok ((0))) (some ((0), m1))) else (if p2 < 0 then (grd (bok ((0))) (some ((0), m1))) else (if ((9)) < p2 then (grd (bok ((0))) (some ((0), m1))) else (bdI (f_X0_add (h0 + 76) p1 p2 m1) fun x4 m3 => if x4 = 0 then (grd (bok ((0))) (some ((0), m3))) else (grd (bok ((1))) (some ((1), m3))))))
theorem dd_X11_find : yX11_find.cls = RX11 ∧ yX11_find.cls ≠ "java/lang/invoke/MethodHandle" ∧ yX11_find.cls ≠ "java/lang/invoke/VarHandle" ∧ (parseMethodDescriptor yX11_find.desc).map (fun d => d.parameters.length) = some 2 := by decide +kernel
set_option maxHeartbeats 4000000 in
set_option maxRecDepth 100000 in
theorem k_X11_find {l : Launch} {ad : Nat → Nat} {cy : Nat → ClassId} {dC : Nat → ClassId} {dI : Nat → Nat → Nat} {ks : (Nat → Nat) × (Nat → Nat)} {h0 : Nat} {p1 : Int32} {p2 : Int32} {mem : Mm} {r2 : Int32} {mem2 : Mm} (e0 : Lp.1 h0 = 11) (h : f_X11_find h0 p1 p2 mem = some (r2, mem2)) : CtI l Lp ad cy dC dI ks yX11_find cX11_find 3 (some .boolean) ({ frames := 1, cells := 0, slots := 0, locals := 22 }) [.ref (ad (h0)), .int (p1), .int (p2)] mem r2 mem2 := by
  refine CtI.of (cc := cX11_find) (maxL := 3) (ret := (some .boolean)) (own := RX11) rfl (by decide) (Nat.le_of_ble_eq_true rfl) ?_
  intro p e s m args below meth c A X
  have hts := X.2.2.2.2.1
  unfold f_X11_find at h
  refine r_iload_n X dX11_find_0 rfl 1 rfl ?_
  refine r_cSI (As := [.int (p1)]) (rest := []) X (fun r9 m9 hg => k_X11_isKey hg) h uw4_54 uw4_55 uw1_1 uw4_56 rfl rfl dd_X11_isKey ⟨Nat.le_of_ble_eq_true rfl, Nat.le_of_ble_eq_true rfl⟩ rfl (Nat.le_of_ble_eq_true rfl) dX11_find_1 rfl (fun x2 m1 h => ?_)
  refine r_if_eq (tgt := 33) X dX11_find_4 (by decide) h (fun h => ?_) (fun h => ?_)
  · refine r_iconst (v := (0)) X dX11_find_33 (by decide) ?_
    exact r_zret2 X rfl dX11_find_34 h
  · refine r_iload_n X dX11_find_7 rfl 2 rfl ?_
    refine r_if_lt (tgt := 33) X dX11_find_8 (by decide) h (fun h => ?_) (fun h => ?_)
    · refine r_iconst (v := (0)) X dX11_find_33 (by decide) ?_
      exact r_zret2 X rfl dX11_find_34 h
    · refine r_iload_n X dX11_find_11 rfl 2 rfl ?_
      refine r_bipush (v := (9)) X dX11_find_12 (by decide) ?_
      refine r_icmp_gt (tgt := 33) X dX11_find_14 (by decide) h (fun h => ?_) (fun h => ?_)
      · refine r_iconst (v := (0)) X dX11_find_33 (by decide) ?_
        exact r_zret2 X rfl dX11_find_34 h
      · refine r_aload_n X dX11_find_17 rfl 0 rfl ?_
        refine r_getF X (k := 8) (of := 76) rfl (Lp_N e0 rfl) e0 rfl (by decide) ui_11 (by decide) uw2_191 rfl dX11_find_18 ?_
        refine r_iload_n X dX11_find_21 rfl 1 rfl ?_
        refine r_iload_n X dX11_find_22 rfl 2 rfl ?_
        refine r_cVI (As := [.int (p1), .int (p2)]) (rest := []) X (fun r9 m9 hg => k_X0_add (Lp_11_8 e0) hg) h (Lp_N (Lp_11_8 e0) rfl) (Lp_11_8 e0) rfl (by decide) uw4_225 uw4_226 uw4_227 uw1_9 uw4_228 rfl rfl dd_X0_add ⟨Nat.le_of_ble_eq_true rfl, Nat.le_of_ble_eq_true rfl⟩ rfl (Nat.le_of_ble_eq_true rfl) dX11_find_23 rfl (fun x4 m3 h => ?_)
        refine r_if_eq (tgt := 33) X dX11_find_26 (by decide) h (fun h => ?_) (fun h => ?_)
        · refine r_iconst (v := (0)) X dX11_find_33 (by decide) ?_
          exact r_zret2 X rfl dX11_find_34 h
        · refine r_iconst (v := (1)) X dX11_find_29 (by decide) ?_
          refine r_goto (tgt := 34) X dX11_find_30 (by decide) ?_
          exact r_zret2 X rfl dX11_find_34 h
noncomputable def f_X11_sets (h0 : Nat) (p1 : Int32) (mem : Mm) : Option (Int32 × Mm) :=
  if p1 < 0 then (some ((-1), mem)) else (if p1 ≤ ((2)) then (grd (decide (Lp.1 (gR mem h0 2) = 7)) (bnd (gR mem h0 2) fun q1 => bdV (f_X1_prepare (h0 + 82) q1 (gI mem (h0 + 64) 2) mem) fun m2 => grd (decide (Lp.1 (gR m2 h0 2) = 7)) (bnd (gR m2 h0 2) fun q3 => bdV (f_X8_search (h0 + 79) q3 (h0 + 82) (h0 + 76) m2) fun m4 => if ¬ p1 = 0 then (if ¬ (gI m4 (h0 + 79) 2) = 0 then (if ¬ p1 = ((1)) then (some (gI m4 (h0 + 79) 4, m4)) else (some (gI m4 (h0 + 79) 3, m4))) else (some ((-1), m4))) else (some (gI m4 (h0 + 79) 2, m4))))) else (some ((-1), mem)))
theorem dd_X11_sets : yX11_sets.cls = RX11 ∧ yX11_sets.cls ≠ "java/lang/invoke/MethodHandle" ∧ yX11_sets.cls ≠ "java/lang/invoke/VarHandle" ∧ (parseMethodDescriptor yX11_sets.desc).map (fun d => d.parameters.length) = some 1 := by decide +kernel
set_option maxHeartbeats 4000000 in
set_option maxRecDepth 100000 in
theorem k_X11_sets {l : Launch} {ad : Nat → Nat} {cy : Nat → ClassId} {dC : Nat → ClassId} {dI : Nat → Nat → Nat} {ks : (Nat → Nat) × (Nat → Nat)} {h0 : Nat} {p1 : Int32} {mem : Mm} {r2 : Int32} {mem2 : Mm} (e0 : Lp.1 h0 = 11) (h : f_X11_sets h0 p1 mem = some (r2, mem2)) : CtI l Lp ad cy dC dI ks yX11_sets cX11_sets 2 (some .int) ({ frames := 4, cells := 0, slots := 0, locals := 93 }) [.ref (ad (h0)), .int (p1)] mem r2 mem2 := by
  refine CtI.of (cc := cX11_sets) (maxL := 2) (ret := (some .int)) (own := RX11) rfl (by decide) (Nat.le_of_ble_eq_true rfl) ?_
  intro p e s m args below meth c A X
  have hts := X.2.2.2.2.1
  have hl138 := X.2.2.2.2.2.2.1 (.fieldLinkNest "StationPiano" 138 "StationPiano$State" "minutes" "I" "StationPiano") (List.mem_of_getElem? (i := 57) rfl)
  have hl258 := X.2.2.2.2.2.2.1 (.fieldLinkNest "StationPiano" 258 "StationPiano$Suspects" "setCount" "I" "StationPiano") (List.mem_of_getElem? (i := 69) rfl)
  have hl261 := X.2.2.2.2.2.2.1 (.fieldLinkNest "StationPiano" 261 "StationPiano$Suspects" "inAll" "I" "StationPiano") (List.mem_of_getElem? (i := 70) rfl)
  have hl264 := X.2.2.2.2.2.2.1 (.fieldLinkNest "StationPiano" 264 "StationPiano$Suspects" "inSome" "I" "StationPiano") (List.mem_of_getElem? (i := 71) rfl)
  unfold f_X11_sets at h
  refine r_iload_n X dX11_sets_0 rfl 1 rfl ?_
  refine r_if_lt (tgt := 9) X dX11_sets_1 (by decide) h (fun h => ?_) (fun h => ?_)
  · refine r_iconst (v := (-1)) X dX11_sets_9 (by decide) ?_
    exact r_iret2 X rfl dX11_sets_10 h
  · refine r_iload_n X dX11_sets_4 rfl 1 rfl ?_
    refine r_iconst (v := (2)) X dX11_sets_5 (by decide) ?_
    refine r_icmp_le (tgt := 11) X dX11_sets_6 (by decide) h (fun h => ?_) (fun h => ?_)
    · refine r_aload_n X dX11_sets_11 rfl 0 rfl ?_
      refine r_getF X (k := 10) (of := 82) rfl (Lp_N e0 rfl) e0 rfl (by decide) ui_11 (by decide) uw2_193 rfl dX11_sets_12 ?_
      refine r_aload_n X dX11_sets_15 rfl 0 rfl ?_
      refine r_getR X 7 (k := 2) (Lp_N e0 rfl) e0 rfl (by decide) ui_11 (by decide) uw2_185 rfl h dX11_sets_16 (fun q1 eq1 h => ?_)
      refine r_aload_n X dX11_sets_19 rfl 0 rfl ?_
      refine r_getF X (k := 4) (of := 64) rfl (Lp_N e0 rfl) e0 rfl (by decide) ui_11 (by decide) uw2_187 rfl dX11_sets_20 ?_
      refine r_getIN X (k := 2) (Lp_N (Lp_11_4 e0) rfl) (Lp_11_4 e0) rfl (by decide) ui_6 (by decide) hl138 rfl dX11_sets_23 ?_
      refine r_cVV (As := [.ref (ad (q1)), .int (gI mem (h0 + 64) 2)]) (rest := []) X (fun m9 hg => k_X1_prepare (Lp_11_10 e0) eq1 hg) h (Lp_N (Lp_11_10 e0) rfl) (Lp_11_10 e0) rfl (by decide) uw4_69 uw4_70 uw4_71 uw1_11 uw4_72 rfl rfl dd_X1_prepare ⟨Nat.le_of_ble_eq_true rfl, Nat.le_of_ble_eq_true rfl⟩ rfl (Nat.le_of_ble_eq_true rfl) dX11_sets_26 rfl (fun m2 h => ?_)
      refine r_aload_n X dX11_sets_29 rfl 0 rfl ?_
      refine r_getF X (k := 9) (of := 79) rfl (Lp_N e0 rfl) e0 rfl (by decide) ui_11 (by decide) uw2_192 rfl dX11_sets_30 ?_
      refine r_aload_n X dX11_sets_33 rfl 0 rfl ?_
      refine r_getR X 7 (k := 2) (Lp_N e0 rfl) e0 rfl (by decide) ui_11 (by decide) uw2_185 rfl h dX11_sets_34 (fun q3 eq3 h => ?_)
      refine r_aload_n X dX11_sets_37 rfl 0 rfl ?_
      refine r_getF X (k := 10) (of := 82) rfl (Lp_N e0 rfl) e0 rfl (by decide) ui_11 (by decide) uw2_193 rfl dX11_sets_38 ?_
      refine r_aload_n X dX11_sets_41 rfl 0 rfl ?_
      refine r_getF X (k := 8) (of := 76) rfl (Lp_N e0 rfl) e0 rfl (by decide) ui_11 (by decide) uw2_191 rfl dX11_sets_42 ?_
      refine r_cVV (As := [.ref (ad (q3)), .ref (ad (h0 + 82)), .ref (ad (h0 + 76))]) (rest := []) X (fun m9 hg => k_X8_search (Lp_11_9 e0) eq3 (Lp_11_10 e0) (Lp_11_8 e0) hg) h (Lp_N (Lp_11_9 e0) rfl) (Lp_11_9 e0) rfl (by decide) uw4_233 uw4_234 uw4_235 uw1_10 uw4_236 rfl rfl dd_X8_search ⟨Nat.le_of_ble_eq_true rfl, Nat.le_of_ble_eq_true rfl⟩ rfl (Nat.le_of_ble_eq_true rfl) dX11_sets_45 rfl (fun m4 h => ?_)
      refine r_iload_n X dX11_sets_48 rfl 1 rfl ?_
      refine r_if_ne (tgt := 60) X dX11_sets_49 (by decide) h (fun h => ?_) (fun h => ?_)
      · refine r_aload_n X dX11_sets_60 rfl 0 rfl ?_
        refine r_getF X (k := 9) (of := 79) rfl (Lp_N e0 rfl) e0 rfl (by decide) ui_11 (by decide) uw2_192 rfl dX11_sets_61 ?_
        refine r_getIN X (k := 2) (Lp_N (Lp_11_9 e0) rfl) (Lp_11_9 e0) rfl (by decide) ui_8 (by decide) hl258 rfl dX11_sets_64 ?_
        refine r_if_ne (tgt := 72) X dX11_sets_67 (by decide) h (fun h => ?_) (fun h => ?_)
        · refine r_iload_n X dX11_sets_72 rfl 1 rfl ?_
          refine r_iconst (v := (1)) X dX11_sets_73 (by decide) ?_
          refine r_icmp_ne (tgt := 87) X dX11_sets_74 (by decide) h (fun h => ?_) (fun h => ?_)
          · refine r_aload_n X dX11_sets_87 rfl 0 rfl ?_
            refine r_getF X (k := 9) (of := 79) rfl (Lp_N e0 rfl) e0 rfl (by decide) ui_11 (by decide) uw2_192 rfl dX11_sets_88 ?_
            refine r_getIN X (k := 4) (Lp_N (Lp_11_9 e0) rfl) (Lp_11_9 e0) rfl (by decide) ui_8 (by decide) hl264 rfl dX11_sets_91 ?_
            exact r_iret2 X rfl dX11_sets_94 h
          · refine r_aload_n X dX11_sets_77 rfl 0 rfl ?_
            refine r_getF X (k := 9) (of := 79) rfl (Lp_N e0 rfl) e0 rfl (by decide) ui_11 (by decide) uw2_192 rfl dX11_sets_78 ?_
            refine r_getIN X (k := 3) (Lp_N (Lp_11_9 e0) rfl) (Lp_11_9 e0) rfl (by decide) ui_8 (by decide) hl261 rfl dX11_sets_81 ?_
            refine r_goto (tgt := 94) X dX11_sets_84 (by decide) ?_
            exact r_iret2 X rfl dX11_sets_94 h
        · refine r_iconst (v := (-1)) X dX11_sets_70 (by decide) ?_
          exact r_iret2 X rfl dX11_sets_71 h
      · refine r_aload_n X dX11_sets_52 rfl 0 rfl ?_
        refine r_getF X (k := 9) (of := 79) rfl (Lp_N e0 rfl) e0 rfl (by decide) ui_11 (by decide) uw2_192 rfl dX11_sets_53 ?_
        refine r_getIN X (k := 2) (Lp_N (Lp_11_9 e0) rfl) (Lp_11_9 e0) rfl (by decide) ui_8 (by decide) hl258 rfl dX11_sets_56 ?_
        exact r_iret2 X rfl dX11_sets_59 h
    · refine r_iconst (v := (-1)) X dX11_sets_9 (by decide) ?_
      exact r_iret2 X rfl dX11_sets_10 h
noncomputable def f_X11_look_J89 (h0 : Nat) (k49 : Int32 → Int32 → Int32 → Mm → Option (Int32 × Mm)) (x16 : Int32) (x17 : Int32) (x18 : Int32) (m19 : Mm) : Option (Int32 × Mm) :=
  bnd (x18 + (1)) fun x20 => k49 x16 x17 x20 m19
noncomputable def f_X11_look_B49 (h0 : Nat) (k49 : Int32 → Int32 → Int32 → Mm → Option (Int32 × Mm)) (x6 : Int32) (x7 : Int32) (x8 : Int32) (m9 : Mm) : Option (Int32 × Mm) :=
  if ((12)) ≤ x8 then (some (x7, m9)) else (bdI (f_X0_has (h0 + 76) x8 m9) fun x11 m10 => if ¬ x11 = 0 then (f_X11_look_J89 h0 k49 x6 x7 x8 m10) else (bdI (f_X8_mostAlike (h0 + 79) x8 m10) fun x13 m12 => if x6 ≤ x13 then (f_X11_look_J89 h0 k49 x6 x7 x8 m12) else (bdI (f_X8_mostAlike (h0 + 79) x8 m12) fun x15 m14 => f_X11_look_J89 h0 k49 x15 x8 x8 m14)))
noncomputable def f_X11_look (h0 : Nat) (mem : Mm) : Option (Int32 × Mm) :=
  grd (decide (Lp.1 (gR mem h0 2) = 7)) (bnd (gR mem h0 2) fun q1 => bdV (f_X1_prepare (h0 + 82) q1 (gI mem (h0 + 64) 2) mem) fun m2 => grd (decide (Lp.1 (gR m2 h0 2) = 7)) (bnd (gR m2 h0 2) fun q3 => bdV (f_X8_search (h0 + 79) q3 (h0 + 82) (h0 + 76) m2) fun m4 => bnd (gI m4 (h0 + 79) 2) fun x5 => lop (fun _ _ _ _ => none) (f_X11_look_B49 h0 ) 4000 x5 ((-1)) ((0)) m4))
theorem dd_X11_look : yX11_look.cls = RX11 ∧ yX11_look.cls ≠ "java/lang/invoke/MethodHandle" ∧ yX11_look.cls ≠ "java/lang/invoke/VarHandle" ∧ (parseMethodDescriptor yX11_look.desc).map (fun d => d.parameters.length) = some 0 := by decide +kernel
set_option maxHeartbeats 4000000 in
set_option maxRecDepth 100000 in
theorem k_X11_look {l : Launch} {ad : Nat → Nat} {cy : Nat → ClassId} {dC : Nat → ClassId} {dI : Nat → Nat → Nat} {ks : (Nat → Nat) × (Nat → Nat)} {h0 : Nat} {mem : Mm} {r2 : Int32} {mem2 : Mm} (e0 : Lp.1 h0 = 11) (h : f_X11_look h0 mem = some (r2, mem2)) : CtI l Lp ad cy dC dI ks yX11_look cX11_look 4 (some .int) ({ frames := 4, cells := 0, slots := 0, locals := 93 }) [.ref (ad (h0))] mem r2 mem2 := by
  refine CtI.of (cc := cX11_look) (maxL := 4) (ret := (some .int)) (own := RX11) rfl (by decide) (Nat.le_of_ble_eq_true rfl) ?_
  intro p e s m args below meth c A X
  have hts := X.2.2.2.2.1
  have hl138 := X.2.2.2.2.2.2.1 (.fieldLinkNest "StationPiano" 138 "StationPiano$State" "minutes" "I" "StationPiano") (List.mem_of_getElem? (i := 57) rfl)
  have hl258 := X.2.2.2.2.2.2.1 (.fieldLinkNest "StationPiano" 258 "StationPiano$Suspects" "setCount" "I" "StationPiano") (List.mem_of_getElem? (i := 69) rfl)
  have hJ89 : ∀ (k49 : Int32 → Int32 → Int32 → Mm → Option (Int32 × Mm)) (hk49 : ∀ (x6 : Int32) (x7 : Int32) (x8 : Int32) (m9 : Mm), k49 x6 x7 x8 m9 = some (r2, mem2) → Jd p l e ({ frames := 4, cells := 0, slots := 0, locals := 93 }) s m args below meth c 4 (MQ below (PsI Lp ad cy dC dI r2 mem2 A) args s 0 0 A) A dC dI cy Lp ad m9 49 [(0, .ref (ad (h0))), (1, .int (x6)), (2, .int (x7)), (3, .int (x8))] []) (x16 : Int32) (x17 : Int32) (x18 : Int32) (m19 : Mm), f_X11_look_J89 h0 k49 x16 x17 x18 m19 = some (r2, mem2) → Jd p l e ({ frames := 4, cells := 0, slots := 0, locals := 93 }) s m args below meth c 4 (MQ below (PsI Lp ad cy dC dI r2 mem2 A) args s 0 0 A) A dC dI cy Lp ad m19 89 [(0, .ref (ad (h0))), (1, .int (x16)), (2, .int (x17)), (3, .int (x18))] [] := by
    intro k49 hk49 x16 x17 x18 m19 h
    unfold f_X11_look_J89 at h
    refine r_inc h (fun x20 e9 h => ?_)
    refine r_iinc (v := x20) (lv2 := [(3, .int (x20)), (0, .ref (ad (h0))), (1, .int (x16)), (2, .int (x17))]) X dX11_look_89 3 rfl (by rw [e9]; rfl) (by decide) rfl ?_
    refine r_goto (tgt := 49) X dX11_look_92 (by decide) ?_
    exact r_sub [1, 2, 3, 0] rfl (hk49 x16 x17 x20 m19 h)
  have hJ49 : ∀ (k49 : Int32 → Int32 → Int32 → Mm → Option (Int32 × Mm)) (hk49 : ∀ (x6 : Int32) (x7 : Int32) (x8 : Int32) (m9 : Mm), k49 x6 x7 x8 m9 = some (r2, mem2) → Jd p l e ({ frames := 4, cells := 0, slots := 0, locals := 93 }) s m args below meth c 4 (MQ below (PsI Lp ad cy dC dI r2 mem2 A) args s 0 0 A) A dC dI cy Lp ad m9 49 [(0, .ref (ad (h0))), (1, .int (x6)), (2, .int (x7)), (3, .int (x8))] []) (x6 : Int32) (x7 : Int32) (x8 : Int32) (m9 : Mm), f_X11_look_B49 h0 k49 x6 x7 x8 m9 = some (r2, mem2) → Jd p l e ({ frames := 4, cells := 0, slots := 0, locals := 93 }) s m args below meth c 4 (MQ below (PsI Lp ad cy dC dI r2 mem2 A) args s 0 0 A) A dC dI cy Lp ad m9 49 [(0, .ref (ad (h0))), (1, .int (x6)), (2, .int (x7)), (3, .int (x8))] [] := by
    intro k49 hk49 x6 x7 x8 m9 h
    unfold f_X11_look_B49 at h
    refine r_iload_n X dX11_look_49 rfl 3 rfl ?_
    refine r_bipush (v := (12)) X dX11_look_50 (by decide) ?_
    refine r_icmp_ge (tgt := 95) X dX11_look_52 (by decide) h (fun h => ?_) (fun h => ?_)
    · refine r_iload_n X dX11_look_95 rfl 2 rfl ?_
      exact r_iret2 X rfl dX11_look_96 h
    · refine r_aload_n X dX11_look_55 rfl 0 rfl ?_
      refine r_getF X (k := 8) (of := 76) rfl (Lp_N e0 rfl) e0 rfl (by decide) ui_11 (by decide) uw2_191 rfl dX11_look_56 ?_
      refine r_iload_n X dX11_look_59 rfl 3 rfl ?_
      refine r_cVI (As := [.int (x8)]) (rest := []) X (fun r9 m9 hg => k_X0_has (Lp_11_8 e0) hg) h (Lp_N (Lp_11_8 e0) rfl) (Lp_11_8 e0) rfl (by decide) uw5_16 uw5_17 uw5_18 uw1_9 uw5_19 rfl rfl dd_X0_has ⟨Nat.le_of_ble_eq_true rfl, Nat.le_of_ble_eq_true rfl⟩ rfl (Nat.le_of_ble_eq_true rfl) dX11_look_60 rfl (fun x11 m10 h => ?_)
      refine r_if_ne (tgt := 89) X dX11_look_63 (by decide) h (fun h => ?_) (fun h => ?_)
      · exact r_sub [0, 1, 2, 3] rfl (hJ89 k49 hk49 x6 x7 x8 m10 h)
      · refine r_aload_n X dX11_look_66 rfl 0 rfl ?_
        refine r_getF X (k := 9) (of := 79) rfl (Lp_N e0 rfl) e0 rfl (by decide) ui_11 (by decide) uw2_192 rfl dX11_look_67 ?_
        refine r_iload_n X dX11_look_70 rfl 3 rfl ?_
        refine r_cVI (As := [.int (x8)]) (rest := []) X (fun r9 m9 hg => k_X8_mostAlike (Lp_11_9 e0) hg) h (Lp_N (Lp_11_9 e0) rfl) (Lp_11_9 e0) rfl (by decide) uw5_20 uw5_21 uw5_22 uw1_10 uw5_23 rfl rfl dd_X8_mostAlike ⟨Nat.le_of_ble_eq_true rfl, Nat.le_of_ble_eq_true rfl⟩ rfl (Nat.le_of_ble_eq_true rfl) dX11_look_71 rfl (fun x13 m12 h => ?_)
        refine r_iload_n X dX11_look_74 rfl 1 rfl ?_
        refine r_icmp_ge (tgt := 89) X dX11_look_75 (by decide) h (fun h => ?_) (fun h => ?_)
        · exact r_sub [0, 1, 2, 3] rfl (hJ89 k49 hk49 x6 x7 x8 m12 h)
        · refine r_aload_n X dX11_look_78 rfl 0 rfl ?_
          refine r_getF X (k := 9) (of := 79) rfl (Lp_N e0 rfl) e0 rfl (by decide) ui_11 (by decide) uw2_192 rfl dX11_look_79 ?_
          refine r_iload_n X dX11_look_82 rfl 3 rfl ?_
          refine r_cVI (As := [.int (x8)]) (rest := []) X (fun r9 m9 hg => k_X8_mostAlike (Lp_11_9 e0) hg) h (Lp_N (Lp_11_9 e0) rfl) (Lp_11_9 e0) rfl (by decide) uw5_20 uw5_21 uw5_22 uw1_10 uw5_23 rfl rfl dd_X8_mostAlike ⟨Nat.le_of_ble_eq_true rfl, Nat.le_of_ble_eq_true rfl⟩ rfl (Nat.le_of_ble_eq_true rfl) dX11_look_83 rfl (fun x15 m14 h => ?_)
          refine r_istore_n (lv2 := [(1, .int (x15)), (0, .ref (ad (h0))), (2, .int (x7)), (3, .int (x8))]) X dX11_look_86 rfl (by decide) rfl ?_
          refine r_iload_n X dX11_look_87 rfl 3 rfl ?_
          refine r_istore_n (lv2 := [(2, .int (x8)), (1, .int (x15)), (0, .ref (ad (h0))), (3, .int (x8))]) X dX11_look_88 rfl (by decide) rfl ?_
          exact r_sub [2, 1, 0, 3] rfl (hJ89 k49 hk49 x15 x8 x8 m14 h)
  have hL49 : ∀ (n : Nat), ∀ (x6 : Int32) (x7 : Int32) (x8 : Int32) (m9 : Mm), lop (fun _ _ _ _ => none) (f_X11_look_B49 h0 ) n x6 x7 x8 m9 = some (r2, mem2) → Jd p l e ({ frames := 4, cells := 0, slots := 0, locals := 93 }) s m args below meth c 4 (MQ below (PsI Lp ad cy dC dI r2 mem2 A) args s 0 0 A) A dC dI cy Lp ad m9 49 [(0, .ref (ad (h0))), (1, .int (x6)), (2, .int (x7)), (3, .int (x8))] [] := by
    intro  n
    induction n with
    | zero => intro _ _ _ _ h; cases h
    | succ n ih => intro a0 a1 a2 a3 h; exact hJ49  _ ih a0 a1 a2 a3 h
  unfold f_X11_look at h
  refine r_aload_n X dX11_look_0 rfl 0 rfl ?_
  refine r_getF X (k := 10) (of := 82) rfl (Lp_N e0 rfl) e0 rfl (by decide) ui_11 (by decide) uw2_193 rfl dX11_look_1 ?_
  refine r_aload_n X dX11_look_4 rfl 0 rfl ?_
  refine r_getR X 7 (k := 2) (Lp_N e0 rfl) e0 rfl (by decide) ui_11 (by decide) uw2_185 rfl h dX11_look_5 (fun q1 eq1 h => ?_)
  refine r_aload_n X dX11_look_8 rfl 0 rfl ?_
  refine r_getF X (k := 4) (of := 64) rfl (Lp_N e0 rfl) e0 rfl (by decide) ui_11 (by decide) uw2_187 rfl dX11_look_9 ?_
  refine r_getIN X (k := 2) (Lp_N (Lp_11_4 e0) rfl) (Lp_11_4 e0) rfl (by decide) ui_6 (by decide) hl138 rfl dX11_look_12 ?_
  refine r_cVV (As := [.ref (ad (q1)), .int (gI mem (h0 + 64) 2)]) (rest := []) X (fun m9 hg => k_X1_prepare (Lp_11_10 e0) eq1 hg) h (Lp_N (Lp_11_10 e0) rfl) (Lp_11_10 e0) rfl (by decide) uw4_69 uw4_70 uw4_71 uw1_11 uw4_72 rfl rfl dd_X1_prepare ⟨Nat.le_of_ble_eq_true rfl, Nat.le_of_ble_eq_true rfl⟩ rfl (Nat.le_of_ble_eq_true rfl) dX11_look_15 rfl (fun m2 h => ?_)
  refine r_aload_n X dX11_look_18 rfl 0 rfl ?_
  refine r_getF X (k := 9) (of := 79) rfl (Lp_N e0 rfl) e0 rfl (by decide) ui_11 (by decide) uw2_192 rfl dX11_look_19 ?_
  refine r_aload_n X dX11_look_22 rfl 0 rfl ?_
  refine r_getR X 7 (k := 2) (Lp_N e0 rfl) e0 rfl (by decide) ui_11 (by decide) uw2_185 rfl h dX11_look_23 (fun q3 eq3 h => ?_)
  refine r_aload_n X dX11_look_26 rfl 0 rfl ?_
  refine r_getF X (k := 10) (of := 82) rfl (Lp_N e0 rfl) e0 rfl (by decide) ui_11 (by decide) uw2_193 rfl dX11_look_27 ?_
  refine r_aload_n X dX11_look_30 rfl 0 rfl ?_
  refine r_getF X (k := 8) (of := 76) rfl (Lp_N e0 rfl) e0 rfl (by decide) ui_11 (by decide) uw2_191 rfl dX11_look_31 ?_
  refine r_cVV (As := [.ref (ad (q3)), .ref (ad (h0 + 82)), .ref (ad (h0 + 76))]) (rest := []) X (fun m9 hg => k_X8_search (Lp_11_9 e0) eq3 (Lp_11_10 e0) (Lp_11_8 e0) hg) h (Lp_N (Lp_11_9 e0) rfl) (Lp_11_9 e0) rfl (by decide) uw4_233 uw4_234 uw4_235 uw1_10 uw4_236 rfl rfl dd_X8_search ⟨Nat.le_of_ble_eq_true rfl, Nat.le_of_ble_eq_true rfl⟩ rfl (Nat.le_of_ble_eq_true rfl) dX11_look_34 rfl (fun m4 h => ?_)
  refine r_aload_n X dX11_look_37 rfl 0 rfl ?_
  refine r_getF X (k := 9) (of := 79) rfl (Lp_N e0 rfl) e0 rfl (by decide) ui_11 (by decide) uw2_192 rfl dX11_look_38 ?_
  refine r_getIN X (k := 2) (Lp_N (Lp_11_9 e0) rfl) (Lp_11_9 e0) rfl (by decide) ui_8 (by decide) hl258 rfl dX11_look_41 ?_
  refine r_nmI h (fun x5 h => ?_)
  refine r_istore_n (lv2 := [(1, .int (x5)), (0, .ref (ad (h0)))]) X dX11_look_44 rfl (by decide) rfl ?_
  refine r_iconst (v := (-1)) X dX11_look_45 (by decide) ?_
  refine r_istore_n (lv2 := [(2, .int ((-1))), (1, .int (x5)), (0, .ref (ad (h0)))]) X dX11_look_46 rfl (by decide) rfl ?_
  refine r_iconst (v := (0)) X dX11_look_47 (by decide) ?_
  refine r_istore_n (lv2 := [(3, .int ((0))), (2, .int ((-1))), (1, .int (x5)), (0, .ref (ad (h0)))]) X dX11_look_48 rfl (by decide) rfl ?_
  exact r_sub [3, 2, 1, 0] rfl (hL49 4000 x5 ((-1)) ((0)) m4 h)
noncomputable def f_X11_share_J52 (h0 : Nat) (p1 : Int32) (x12 : Int32) (x13 : Int32) (m14 : Mm) : Option (Int32 × Mm) :=
  if x13 ≤ 0 then (some ((-1), m14)) else (grd (decide (Lp.1 (gR m14 h0 2) = 7)) (bnd (gR m14 h0 2) fun q15 => grd (decide (Lp.1 (gR m14 h0 2) = 7)) (bnd (gR m14 h0 2) fun q16 => grd (inb x12 (Lp.2.1 (q16 + 9))) (bnd (q16 + 9 + (7 + 2 * x12.toNatClampNeg)) fun q17 => grd (decide (¬ x13 = 0)) (some ((((gI m14 q15 12) * ((1000))) * (gI m14 q17 1)) / x13, m14))))))
noncomputable def f_X11_share_B14 (h0 : Nat) (p1 : Int32) (k14 : Int32 → Int32 → Int32 → Mm → Option (Int32 × Mm)) (x3 : Int32) (x4 : Int32) (x5 : Int32) (m6 : Mm) : Option (Int32 × Mm) :=
  grd (decide (Lp.1 (gR m6 h0 2) = 7)) (bnd (gR m6 h0 2) fun q7 => if (gI m6 q7 7) ≤ x5 then (f_X11_share_J52 h0 p1 x3 x4 m6) else (if ((7)) ≤ x5 then (f_X11_share_J52 h0 p1 x3 x4 m6) else (grd (decide (Lp.1 (gR m6 h0 2) = 7)) (bnd (gR m6 h0 2) fun q8 => grd (inb x5 (Lp.2.1 (q8 + 9))) (bnd (q8 + 9 + (7 + 2 * x5.toNatClampNeg)) fun q9 => bnd (x4 + (gI m6 q9 1)) fun x10 => bnd (x5 + (1)) fun x11 => k14 x3 x10 x11 m6)))))
noncomputable def f_X11_share (h0 : Nat) (p1 : Int32) (mem : Mm) : Option (Int32 × Mm) :=
  bdI (f_X11_isPasser h0 p1 mem) fun x2 m1 => if ¬ x2 = 0 then (lop (fun _ _ _ _ => none) (f_X11_share_B14 h0 p1 ) 4000 p1 ((0)) ((0)) m1) else (some ((-1), m1))
theorem dd_X11_share : yX11_share.cls = RX11 ∧ yX11_share.cls ≠ "java/lang/invoke/MethodHandle" ∧ yX11_share.cls ≠ "java/lang/invoke/VarHandle" ∧ (parseMethodDescriptor yX11_share.desc).map (fun d => d.parameters.length) = some 1 := by decide +kernel
set_option maxHeartbeats 4000000 in
set_option maxRecDepth 100000 in
theorem k_X11_share {l : Launch} {ad : Nat → Nat} {cy : Nat → ClassId} {dC : Nat → ClassId} {dI : Nat → Nat → Nat} {ks : (Nat → Nat) × (Nat → Nat)} {h0 : Nat} {p1 : Int32} {mem : Mm} {r2 : Int32} {mem2 : Mm} (e0 : Lp.1 h0 = 11) (h : f_X11_share h0 p1 mem = some (r2, mem2)) : CtI l Lp ad cy dC dI ks yX11_share cX11_share 4 (some .int) ({ frames := 1, cells := 0, slots := 0, locals := 21 }) [.ref (ad (h0)), .int (p1)] mem r2 mem2 := by
  refine CtI.of (cc := cX11_share) (maxL := 4) (ret := (some .int)) (own := RX11) rfl (by decide) (Nat.le_of_ble_eq_true rfl) ?_
  intro p e s m args below meth c A X
  have hts := X.2.2.2.2.1
  have hl120 := X.2.2.2.2.2.2.1 (.fieldLinkNest "StationPiano" 120 "StationPiano$Station" "passers" "[LStationPiano$Passer;" "StationPiano") (List.mem_of_getElem? (i := 32) rfl)
  have hl173 := X.2.2.2.2.2.2.1 (.fieldLinkNest "StationPiano" 173 "StationPiano$Station" "passerCount" "I" "StationPiano") (List.mem_of_getElem? (i := 40) rfl)
  have hl193 := X.2.2.2.2.2.2.1 (.fieldLinkNest "StationPiano" 193 "StationPiano$Station" "price" "I" "StationPiano") (List.mem_of_getElem? (i := 51) rfl)
  have hl273 := X.2.2.2.2.2.2.1 (.fieldLinkNest "StationPiano" 273 "StationPiano$Passer" "struckCount" "I" "StationPiano") (List.mem_of_getElem? (i := 8) rfl)
  have hJ52 : ∀ (x12 : Int32) (x13 : Int32) (m14 : Mm), f_X11_share_J52 h0 p1 x12 x13 m14 = some (r2, mem2) → Jd p l e ({ frames := 1, cells := 0, slots := 0, locals := 21 }) s m args below meth c 4 (MQ below (PsI Lp ad cy dC dI r2 mem2 A) args s 0 0 A) A dC dI cy Lp ad m14 52 [(0, .ref (ad (h0))), (1, .int (x12)), (2, .int (x13))] [] := by
    intro x12 x13 m14 h
    unfold f_X11_share_J52 at h
    refine r_iload_n X dX11_share_52 rfl 2 rfl ?_
    refine r_if_le (tgt := 85) X dX11_share_53 (by decide) h (fun h => ?_) (fun h => ?_)
    · refine r_iconst (v := (-1)) X dX11_share_85 (by decide) ?_
      exact r_iret2 X rfl dX11_share_86 h
    · refine r_aload_n X dX11_share_56 rfl 0 rfl ?_
      refine r_getR X 7 (k := 2) (Lp_N e0 rfl) e0 rfl (by decide) ui_11 (by decide) uw2_185 rfl h dX11_share_57 (fun q15 eq15 h => ?_)
      refine r_getIN X (k := 12) (Lp_N eq15 rfl) eq15 rfl (by decide) ui_7 (by decide) hl193 rfl dX11_share_60 ?_
      refine r_sipush (v := (1000)) X dX11_share_63 (by decide) ?_
      refine r_imul X dX11_share_66 ?_
      refine r_aload_n X dX11_share_67 rfl 0 rfl ?_
      refine r_getR X 7 (k := 2) (Lp_N e0 rfl) e0 rfl (by decide) ui_11 (by decide) uw2_185 rfl h dX11_share_68 (fun q16 eq16 h => ?_)
      refine r_getFN X (k := 3) (of := 9) rfl (Lp_N eq16 rfl) eq16 rfl (by decide) ui_7 (by decide) hl120 rfl dX11_share_71 ?_
      refine r_iload_n X dX11_share_74 rfl 1 rfl ?_
      refine r_ald18 X (Lp_N (Lp_7_3 eq16) rfl) (Lp_7_3 eq16) (Lp_e18 (Lp_7_3 eq16)) rfl h dX11_share_75 (fun q17 eq17 h => ?_)
      refine r_getIN X (k := 1) (Lp_N eq17 rfl) eq17 rfl (by decide) ui_4 (by decide) hl273 rfl dX11_share_76 ?_
      refine r_imul X dX11_share_79 ?_
      refine r_iload_n X dX11_share_80 rfl 2 rfl ?_
      refine r_div h (fun hz h => ?_)
      refine r_idiv X dX11_share_81 hz ?_
      refine r_goto (tgt := 86) X dX11_share_82 (by decide) ?_
      exact r_iret2 X rfl dX11_share_86 h
  have hJ14 : ∀ (k14 : Int32 → Int32 → Int32 → Mm → Option (Int32 × Mm)) (hk14 : ∀ (x3 : Int32) (x4 : Int32) (x5 : Int32) (m6 : Mm), k14 x3 x4 x5 m6 = some (r2, mem2) → Jd p l e ({ frames := 1, cells := 0, slots := 0, locals := 21 }) s m args below meth c 4 (MQ below (PsI Lp ad cy dC dI r2 mem2 A) args s 0 0 A) A dC dI cy Lp ad m6 14 [(0, .ref (ad (h0))), (1, .int (x3)), (2, .int (x4)), (3, .int (x5))] []) (x3 : Int32) (x4 : Int32) (x5 : Int32) (m6 : Mm), f_X11_share_B14 h0 p1 k14 x3 x4 x5 m6 = some (r2, mem2) → Jd p l e ({ frames := 1, cells := 0, slots := 0, locals := 21 }) s m args below meth c 4 (MQ below (PsI Lp ad cy dC dI r2 mem2 A) args s 0 0 A) A dC dI cy Lp ad m6 14 [(0, .ref (ad (h0))), (1, .int (x3)), (2, .int (x4)), (3, .int (x5))] [] := by
    intro k14 hk14 x3 x4 x5 m6 h
    unfold f_X11_share_B14 at h
    refine r_iload_n X dX11_share_14 rfl 3 rfl ?_
    refine r_aload_n X dX11_share_15 rfl 0 rfl ?_
    refine r_getR X 7 (k := 2) (Lp_N e0 rfl) e0 rfl (by decide) ui_11 (by decide) uw2_185 rfl h dX11_share_16 (fun q7 eq7 h => ?_)
    refine r_getIN X (k := 7) (Lp_N eq7 rfl) eq7 rfl (by decide) ui_7 (by decide) hl173 rfl dX11_share_19 ?_
    refine r_icmp_ge (tgt := 52) X dX11_share_22 (by decide) h (fun h => ?_) (fun h => ?_)
    · exact r_sub [0, 1, 2] rfl (hJ52 x3 x4 m6 h)
    · refine r_iload_n X dX11_share_25 rfl 3 rfl ?_
      refine r_bipush (v := (7)) X dX11_share_26 (by decide) ?_
      refine r_icmp_ge (tgt := 52) X dX11_share_28 (by decide) h (fun h => ?_) (fun h => ?_)
      · exact r_sub [0, 1, 2] rfl (hJ52 x3 x4 m6 h)
      · refine r_iload_n X dX11_share_31 rfl 2 rfl ?_
        refine r_aload_n X dX11_share_32 rfl 0 rfl ?_
        refine r_getR X 7 (k := 2) (Lp_N e0 rfl) e0 rfl (by decide) ui_11 (by decide) uw2_185 rfl h dX11_share_33 (fun q8 eq8 h => ?_)
        refine r_getFN X (k := 3) (of := 9) rfl (Lp_N eq8 rfl) eq8 rfl (by decide) ui_7 (by decide) hl120 rfl dX11_share_36 ?_
        refine r_iload_n X dX11_share_39 rfl 3 rfl ?_
        refine r_ald18 X (Lp_N (Lp_7_3 eq8) rfl) (Lp_7_3 eq8) (Lp_e18 (Lp_7_3 eq8)) rfl h dX11_share_40 (fun q9 eq9 h => ?_)
        refine r_getIN X (k := 1) (Lp_N eq9 rfl) eq9 rfl (by decide) ui_4 (by decide) hl273 rfl dX11_share_41 ?_
        refine r_iadd X dX11_share_44 ?_
        refine r_nmI h (fun x10 h => ?_)
        refine r_istore_n (lv2 := [(2, .int (x10)), (0, .ref (ad (h0))), (1, .int (x3)), (3, .int (x5))]) X dX11_share_45 rfl (by decide) rfl ?_
        refine r_inc h (fun x11 e9 h => ?_)
        refine r_iinc (v := x11) (lv2 := [(3, .int (x11)), (2, .int (x10)), (0, .ref (ad (h0))), (1, .int (x3))]) X dX11_share_46 3 rfl (by rw [e9]; rfl) (by decide) rfl ?_
        refine r_goto (tgt := 14) X dX11_share_49 (by decide) ?_
        exact r_sub [2, 3, 1, 0] rfl (hk14 x3 x10 x11 m6 h)
  have hL14 : ∀ (n : Nat), ∀ (x3 : Int32) (x4 : Int32) (x5 : Int32) (m6 : Mm), lop (fun _ _ _ _ => none) (f_X11_share_B14 h0 p1 ) n x3 x4 x5 m6 = some (r2, mem2) → Jd p l e ({ frames := 1, cells := 0, slots := 0, locals := 21 }) s m args below meth c 4 (MQ below (PsI Lp ad cy dC dI r2 mem2 A) args s 0 0 A) A dC dI cy Lp ad m6 14 [(0, .ref (ad (h0))), (1, .int (x3)), (2, .int (x4)), (3, .int (x5))] [] := by
    intro  n
    induction n with
    | zero => intro _ _ _ _ h; cases h
    | succ n ih => intro a0 a1 a2 a3 h; exact hJ14  _ ih a0 a1 a2 a3 h
  unfold f_X11_share at h
  refine r_aload_n X dX11_share_0 rfl 0 rfl ?_
  refine r_iload_n X dX11_share_1 rfl 1 rfl ?_
  refine r_cVI (As := [.int (p1)]) (rest := []) X (fun r9 m9 hg => k_X11_isPasser e0 hg) h (Lp_N e0 rfl) e0 rfl (by decide) uw4_38 uw4_40 us2_7 uw1_1 uw4_41 rfl rfl dd_X11_isPasser ⟨Nat.le_of_ble_eq_true rfl, Nat.le_of_ble_eq_true rfl⟩ rfl (Nat.le_of_ble_eq_true rfl) dX11_share_2 rfl (fun x2 m1 h => ?_)
  refine r_if_ne (tgt := 10) X dX11_share_5 (by decide) h (fun h => ?_) (fun h => ?_)
  · refine r_iconst (v := (0)) X dX11_share_10 (by decide) ?_
    refine r_istore_n (lv2 := [(2, .int ((0))), (0, .ref (ad (h0))), (1, .int (p1))]) X dX11_share_11 rfl (by decide) rfl ?_
    refine r_iconst (v := (0)) X dX11_share_12 (by decide) ?_
    refine r_istore_n (lv2 := [(3, .int ((0))), (2, .int ((0))), (0, .ref (ad (h0))), (1, .int (p1))]) X dX11_share_13 rfl (by decide) rfl ?_
    exact r_sub [2, 3, 1, 0] rfl (hL14 4000 p1 ((0)) ((0)) m1 h)
  · refine r_iconst (v := (-1)) X dX11_share_8 (by decide) ?_
    exact r_iret2 X rfl dX11_share_9 h
noncomputable def f_X11_isDigit (p0 : Int32) (mem : Mm) : Option (Int32 × Mm) :=
  if p0 < 0 then (grd (bok ((0))) (some ((0), mem))) else (if ((9)) < p0 then (grd (bok ((0))) (some ((0), mem))) else (grd (bok ((1))) (some ((1), mem))))
theorem dd_X11_isDigit : yX11_isDigit.cls ≠ "java/lang/invoke/MethodHandle" ∧ yX11_isDigit.cls ≠ "java/lang/invoke/VarHandle" ∧ (parseMethodDescriptor yX11_isDigit.desc).map (fun d => d.parameters.length) = some 1 := by decide +kernel
set_option maxHeartbeats 4000000 in
set_option maxRecDepth 100000 in
theorem k_X11_isDigit {l : Launch} {ad : Nat → Nat} {cy : Nat → ClassId} {dC : Nat → ClassId} {dI : Nat → Nat → Nat} {ks : (Nat → Nat) × (Nat → Nat)} {p0 : Int32} {mem : Mm} {r2 : Int32} {mem2 : Mm}  (h : f_X11_isDigit p0 mem = some (r2, mem2)) : CtI l Lp ad cy dC dI ks yX11_isDigit cX11_isDigit 1 (some .boolean) ({ frames := 0, cells := 0, slots := 0, locals := 0 }) [.int (p0)] mem r2 mem2 := by
  refine CtI.of (cc := cX11_isDigit) (maxL := 1) (ret := (some .boolean)) (own := RX11) rfl (by decide) (Nat.le_of_ble_eq_true rfl) ?_
  intro p e s m args below meth c A X
  have hts := X.2.2.2.2.1
  unfold f_X11_isDigit at h
  refine r_iload_n X dX11_isDigit_0 rfl 0 rfl ?_
  refine r_if_lt (tgt := 14) X dX11_isDigit_1 (by decide) h (fun h => ?_) (fun h => ?_)
  · refine r_iconst (v := (0)) X dX11_isDigit_14 (by decide) ?_
    exact r_zret2 X rfl dX11_isDigit_15 h
  · refine r_iload_n X dX11_isDigit_4 rfl 0 rfl ?_
    refine r_bipush (v := (9)) X dX11_isDigit_5 (by decide) ?_
    refine r_icmp_gt (tgt := 14) X dX11_isDigit_7 (by decide) h (fun h => ?_) (fun h => ?_)
    · refine r_iconst (v := (0)) X dX11_isDigit_14 (by decide) ?_
      exact r_zret2 X rfl dX11_isDigit_15 h
    · refine r_iconst (v := (1)) X dX11_isDigit_10 (by decide) ?_
      refine r_goto (tgt := 15) X dX11_isDigit_11 (by decide) ?_
      exact r_zret2 X rfl dX11_isDigit_15 h
noncomputable def f_X11_gain (p0 : Int32) (p1 : Int32) (p2 : Int32) (p3 : Int32) (p4 : Int32) (mem : Mm) : Option (Int32 × Mm) :=
  if ¬ p3 = ((1)) then (if ¬ p4 = ((1)) then (some ((0), mem)) else (some (p2, mem))) else (if ¬ p4 = ((1)) then (some (p1, mem)) else (some (-p0, mem)))
theorem dd_X11_gain : yX11_gain.cls ≠ "java/lang/invoke/MethodHandle" ∧ yX11_gain.cls ≠ "java/lang/invoke/VarHandle" ∧ (parseMethodDescriptor yX11_gain.desc).map (fun d => d.parameters.length) = some 5 := by decide +kernel
set_option maxHeartbeats 4000000 in
set_option maxRecDepth 100000 in
theorem k_X11_gain {l : Launch} {ad : Nat → Nat} {cy : Nat → ClassId} {dC : Nat → ClassId} {dI : Nat → Nat → Nat} {ks : (Nat → Nat) × (Nat → Nat)} {p0 : Int32} {p1 : Int32} {p2 : Int32} {p3 : Int32} {p4 : Int32} {mem : Mm} {r2 : Int32} {mem2 : Mm}  (h : f_X11_gain p0 p1 p2 p3 p4 mem = some (r2, mem2)) : CtI l Lp ad cy dC dI ks yX11_gain cX11_gain 5 (some .int) ({ frames := 0, cells := 0, slots := 0, locals := 0 }) [.int (p0), .int (p1), .int (p2), .int (p3), .int (p4)] mem r2 mem2 := by
  refine CtI.of (cc := cX11_gain) (maxL := 5) (ret := (some .int)) (own := RX11) rfl (by decide) (Nat.le_of_ble_eq_true rfl) ?_
  intro p e s m args below meth c A X
  have hts := X.2.2.2.2.1
  unfold f_X11_gain at h
  refine r_iload_n X dX11_gain_0 rfl 3 rfl ?_
  refine r_iconst (v := (1)) X dX11_gain_1 (by decide) ?_
  refine r_icmp_ne (tgt := 18) X dX11_gain_2 (by decide) h (fun h => ?_) (fun h => ?_)
  · refine r_iload X dX11_gain_18 4 rfl ?_
    refine r_iconst (v := (1)) X dX11_gain_20 (by decide) ?_
    refine r_icmp_ne (tgt := 28) X dX11_gain_21 (by decide) h (fun h => ?_) (fun h => ?_)
    · refine r_iconst (v := (0)) X dX11_gain_28 (by decide) ?_
      exact r_iret2 X rfl dX11_gain_29 h
    · refine r_iload_n X dX11_gain_24 rfl 2 rfl ?_
      refine r_goto (tgt := 29) X dX11_gain_25 (by decide) ?_
      exact r_iret2 X rfl dX11_gain_29 h
  · refine r_iload X dX11_gain_5 4 rfl ?_
    refine r_iconst (v := (1)) X dX11_gain_7 (by decide) ?_
    refine r_icmp_ne (tgt := 16) X dX11_gain_8 (by decide) h (fun h => ?_) (fun h => ?_)
    · refine r_iload_n X dX11_gain_16 rfl 1 rfl ?_
      exact r_iret2 X rfl dX11_gain_17 h
    · refine r_iload_n X dX11_gain_11 rfl 0 rfl ?_
      refine r_ineg X dX11_gain_12 ?_
      refine r_goto (tgt := 17) X dX11_gain_13 (by decide) ?_
      exact r_iret2 X rfl dX11_gain_17 h
noncomputable def f_X11_isRest (p0 : Int32) (p1 : Int32) (p2 : Int32) (p3 : Int32) (mem : Mm) : Option (Int32 × Mm) :=
  grd (decide (¬ (2 : Int32) = 0)) (bnd (p3 / ((2))) fun x1 => grd (decide (¬ (2 : Int32) = 0)) (bnd (p3 - p3 / ((2)) * ((2))) fun x2 => bdI (f_X11_gain p0 p1 p2 (((1)) - x1) x2 mem) fun x4 m3 => bdI (f_X11_gain p0 p1 p2 x1 x2 m3) fun x6 m5 => if x6 < x4 then (grd (bok ((0))) (some ((0), m5))) else (bdI (f_X11_gain p0 p1 p2 (((1)) - x2) x1 m5) fun x8 m7 => bdI (f_X11_gain p0 p1 p2 x2 x1 m7) fun x10 m9 => if x10 < x8 then (grd (bok ((0))) (some ((0), m9))) else (grd (bok ((1))) (some ((1), m9))))))
theorem dd_X11_isRest : yX11_isRest.cls ≠ "java/lang/invoke/MethodHandle" ∧ yX11_isRest.cls ≠ "java/lang/invoke/VarHandle" ∧ (parseMethodDescriptor yX11_isRest.desc).map (fun d => d.parameters.length) = some 4 := by decide +kernel
set_option maxHeartbeats 4000000 in
set_option maxRecDepth 100000 in
theorem k_X11_isRest {l : Launch} {ad : Nat → Nat} {cy : Nat → ClassId} {dC : Nat → ClassId} {dI : Nat → Nat → Nat} {ks : (Nat → Nat) × (Nat → Nat)} {p0 : Int32} {p1 : Int32} {p2 : Int32} {p3 : Int32} {mem : Mm} {r2 : Int32} {mem2 : Mm}  (h : f_X11_isRest p0 p1 p2 p3 mem = some (r2, mem2)) : CtI l Lp ad cy dC dI ks yX11_isRest cX11_isRest 6 (some .boolean) ({ frames := 1, cells := 0, slots := 0, locals := 24 }) [.int (p0), .int (p1), .int (p2), .int (p3)] mem r2 mem2 := by
  refine CtI.of (cc := cX11_isRest) (maxL := 6) (ret := (some .boolean)) (own := RX11) rfl (by decide) (Nat.le_of_ble_eq_true rfl) ?_
  intro p e s m args below meth c A X
  have hts := X.2.2.2.2.1
  unfold f_X11_isRest at h
  refine r_iload_n X dX11_isRest_0 rfl 3 rfl ?_
  refine r_iconst (v := (2)) X dX11_isRest_1 (by decide) ?_
  refine r_div h (fun hz h => ?_)
  refine r_idiv X dX11_isRest_2 hz ?_
  refine r_nmI h (fun x1 h => ?_)
  refine r_istore (lv2 := [(4, .int (x1)), (0, .int (p0)), (1, .int (p1)), (2, .int (p2)), (3, .int (p3))]) X dX11_isRest_3 (by decide) rfl ?_
  refine r_iload_n X dX11_isRest_5 rfl 4 rfl ?_
  refine r_iconst (v := (2)) X dX11_isRest_6 (by decide) ?_
  refine r_div h (fun hz h => ?_)
  refine r_irem X dX11_isRest_7 hz ?_
  refine r_nmI h (fun x2 h => ?_)
  refine r_istore (lv2 := [(5, .int (x2)), (4, .int (x1)), (0, .int (p0)), (1, .int (p1)), (2, .int (p2)), (3, .int (p3))]) X dX11_isRest_8 (by decide) rfl ?_
  refine r_iload_n X dX11_isRest_10 rfl 2 rfl ?_
  refine r_iload_n X dX11_isRest_11 rfl 3 rfl ?_
  refine r_iload_n X dX11_isRest_12 rfl 4 rfl ?_
  refine r_iconst (v := (1)) X dX11_isRest_13 (by decide) ?_
  refine r_iload X dX11_isRest_14 1 rfl ?_
  refine r_isub X dX11_isRest_16 ?_
  refine r_iload X dX11_isRest_17 0 rfl ?_
  refine r_cSI (As := [.int (p0), .int (p1), .int (p2), .int (((1)) - x1), .int (x2)]) (rest := []) X (fun r9 m9 hg => k_X11_gain hg) h uw5_173 uw5_174 uw1_1 uw5_175 rfl rfl dd_X11_gain ⟨Nat.le_of_ble_eq_true rfl, Nat.le_of_ble_eq_true rfl⟩ rfl (Nat.le_of_ble_eq_true rfl) dX11_isRest_19 rfl (fun x4 m3 h => ?_)
  refine r_iload_n X dX11_isRest_22 rfl 2 rfl ?_
  refine r_iload_n X dX11_isRest_23 rfl 3 rfl ?_
  refine r_iload_n X dX11_isRest_24 rfl 4 rfl ?_
  refine r_iload X dX11_isRest_25 1 rfl ?_
  refine r_iload X dX11_isRest_27 0 rfl ?_
  refine r_cSI (As := [.int (p0), .int (p1), .int (p2), .int (x1), .int (x2)]) (rest := [.int (x4)]) X (fun r9 m9 hg => k_X11_gain hg) h uw5_173 uw5_174 uw1_1 uw5_175 rfl rfl dd_X11_gain ⟨Nat.le_of_ble_eq_true rfl, Nat.le_of_ble_eq_true rfl⟩ rfl (Nat.le_of_ble_eq_true rfl) dX11_isRest_29 rfl (fun x6 m5 h => ?_)
  refine r_icmp_gt (tgt := 64) X dX11_isRest_32 (by decide) h (fun h => ?_) (fun h => ?_)
  · refine r_iconst (v := (0)) X dX11_isRest_64 (by decide) ?_
    exact r_zret2 X rfl dX11_isRest_65 h
  · refine r_iload_n X dX11_isRest_35 rfl 2 rfl ?_
    refine r_iload_n X dX11_isRest_36 rfl 3 rfl ?_
    refine r_iload_n X dX11_isRest_37 rfl 4 rfl ?_
    refine r_iconst (v := (1)) X dX11_isRest_38 (by decide) ?_
    refine r_iload X dX11_isRest_39 0 rfl ?_
    refine r_isub X dX11_isRest_41 ?_
    refine r_iload X dX11_isRest_42 1 rfl ?_
    refine r_cSI (As := [.int (p0), .int (p1), .int (p2), .int (((1)) - x2), .int (x1)]) (rest := []) X (fun r9 m9 hg => k_X11_gain hg) h uw5_173 uw5_174 uw1_1 uw5_175 rfl rfl dd_X11_gain ⟨Nat.le_of_ble_eq_true rfl, Nat.le_of_ble_eq_true rfl⟩ rfl (Nat.le_of_ble_eq_true rfl) dX11_isRest_44 rfl (fun x8 m7 h => ?_)
    refine r_iload_n X dX11_isRest_47 rfl 2 rfl ?_
    refine r_iload_n X dX11_isRest_48 rfl 3 rfl ?_
    refine r_iload_n X dX11_isRest_49 rfl 4 rfl ?_
    refine r_iload X dX11_isRest_50 0 rfl ?_
    refine r_iload X dX11_isRest_52 1 rfl ?_
    refine r_cSI (As := [.int (p0), .int (p1), .int (p2), .int (x2), .int (x1)]) (rest := [.int (x8)]) X (fun r9 m9 hg => k_X11_gain hg) h uw5_173 uw5_174 uw1_1 uw5_175 rfl rfl dd_X11_gain ⟨Nat.le_of_ble_eq_true rfl, Nat.le_of_ble_eq_true rfl⟩ rfl (Nat.le_of_ble_eq_true rfl) dX11_isRest_54 rfl (fun x10 m9 h => ?_)
    refine r_icmp_gt (tgt := 64) X dX11_isRest_57 (by decide) h (fun h => ?_) (fun h => ?_)
    · refine r_iconst (v := (0)) X dX11_isRest_64 (by decide) ?_
      exact r_zret2 X rfl dX11_isRest_65 h
    · refine r_iconst (v := (1)) X dX11_isRest_60 (by decide) ?_
      refine r_goto (tgt := 65) X dX11_isRest_61 (by decide) ?_
      exact r_zret2 X rfl dX11_isRest_65 h
noncomputable def f_X11_draw (h0 : Nat) (p1 : Int32) (mem : Mm) : Option (Int32 × Mm) :=
  bnd (sJ mem h0 16 ((((gJ mem h0 16) * ((1103515245))) + ((12345))) &&& ((2147483647)))) fun m1 => if p1 ≤ 0 then (some ((0), m1)) else (grd (decide (¬ (65536 : Int64) = 0)) (grd (decide (¬ (p1.toInt64) = 0)) (some ((((gJ m1 h0 16) / ((65536))) - ((gJ m1 h0 16) / ((65536))) / (p1.toInt64) * (p1.toInt64)).toInt32, m1))))
theorem dd_X11_draw : yX11_draw.cls = RX11 ∧ yX11_draw.cls ≠ "java/lang/invoke/MethodHandle" ∧ yX11_draw.cls ≠ "java/lang/invoke/VarHandle" ∧ (parseMethodDescriptor yX11_draw.desc).map (fun d => d.parameters.length) = some 1 := by decide +kernel
set_option maxHeartbeats 4000000 in
set_option maxRecDepth 100000 in
theorem k_X11_draw {l : Launch} {ad : Nat → Nat} {cy : Nat → ClassId} {dC : Nat → ClassId} {dI : Nat → Nat → Nat} {ks : (Nat → Nat) × (Nat → Nat)} {h0 : Nat} {p1 : Int32} {mem : Mm} {r2 : Int32} {mem2 : Mm} (e0 : Lp.1 h0 = 11) (h : f_X11_draw h0 p1 mem = some (r2, mem2)) : CtI l Lp ad cy dC dI ks yX11_draw cX11_draw 2 (some .int) ({ frames := 0, cells := 0, slots := 0, locals := 0 }) [.ref (ad (h0)), .int (p1)] mem r2 mem2 := by
  refine CtI.of (cc := cX11_draw) (maxL := 2) (ret := (some .int)) (own := RX11) rfl (by decide) (Nat.le_of_ble_eq_true rfl) ?_
  intro p e s m args below meth c A X
  have hts := X.2.2.2.2.1
  unfold f_X11_draw at h
  refine r_aload_n X dX11_draw_0 rfl 0 rfl ?_
  refine r_aload_n X dX11_draw_1 rfl 0 rfl ?_
  refine r_getJ X (k := 16) (Lp_N e0 rfl) e0 rfl (by decide) ui_11 (by decide) uw2_199 rfl dX11_draw_2 ?_
  refine r_ldc2 (v := 1103515245) X dX11_draw_5 uw5_198 ?_
  refine r_lmul X dX11_draw_8 ?_
  refine r_ldc2 (v := 12345) X dX11_draw_9 uw5_199 ?_
  refine r_ladd X dX11_draw_12 ?_
  refine r_ldc2 (v := 2147483647) X dX11_draw_13 uw5_200 ?_
  refine r_land X dX11_draw_16 ?_
  refine r_putJ X (k := 16) (Lp_N e0 rfl) e0 rfl (by decide) ui_11 (by decide) uw2_199 tyX11_ok nmX11 rfl rfl rfl dX11_draw_17 ?_
  refine r_nmM h (fun m1 h => ?_)
  refine r_iload_n X dX11_draw_20 rfl 1 rfl ?_
  refine r_if_le (tgt := 39) X dX11_draw_21 (by decide) h (fun h => ?_) (fun h => ?_)
  · refine r_iconst (v := (0)) X dX11_draw_39 (by decide) ?_
    exact r_iret2 X rfl dX11_draw_40 h
  · refine r_aload_n X dX11_draw_24 rfl 0 rfl ?_
    refine r_getJ X (k := 16) (Lp_N e0 rfl) e0 rfl (by decide) ui_11 (by decide) uw2_199 rfl dX11_draw_25 ?_
    refine r_ldc2 (v := 65536) X dX11_draw_28 uw5_201 ?_
    refine r_div h (fun hz h => ?_)
    refine r_ldiv X dX11_draw_31 hz ?_
    refine r_iload_n X dX11_draw_32 rfl 1 rfl ?_
    refine r_i2l X dX11_draw_33 ?_
    refine r_div h (fun hz h => ?_)
    refine r_lrem X dX11_draw_34 hz ?_
    refine r_l2i X dX11_draw_35 ?_
    refine r_goto (tgt := 40) X dX11_draw_36 (by decide) ?_
    exact r_iret2 X rfl dX11_draw_40 h
noncomputable def f_X11_drawMonths_J170 (h0 : Nat) (p1 : Int32) (p2 : Int32) (k51 : Int32 → Int32 → Int32 → Int32 → Mm → Option Mm) (x40 : Int32) (x41 : Int32) (x42 : Int32) (x43 : Int32) (m44 : Mm) : Option Mm :=
  bnd (x43 + (1)) fun x45 => k51 x40 x41 x42 x45 m44
noncomputable def f_X11_drawMonths_J101 (h0 : Nat) (p1 : Int32) (p2 : Int32) (k51 : Int32 → Int32 → Int32 → Int32 → Mm → Option Mm) (x25 : Int32) (x26 : Int32) (x27 : Int32) (x28 : Int32) (m29 : Mm) : Option Mm :=
  bdV (f_X1_pass (h0 + 82) (h0 + 66) ((0)) m29) fun m30 => bnd (x26 + (gI m30 (h0 + 82) 10)) fun x31 => bnd (x27 + (gI m30 (h0 + 82) 11)) fun x32 => bdI (f_X6_keysAbove (h0 + 66) ((5)) m30) fun x34 m33 => if x34 < ((3)) then (f_X11_drawMonths_J170 h0 p1 p2 k51 x25 x31 x32 x28 m33) else (bdI (f_X11_draw h0 ((4)) m33) fun x36 m35 => if ¬ x36 = 0 then (f_X11_drawMonths_J170 h0 p1 p2 k51 x25 x31 x32 x28 m35) else (grd (decide (Lp.1 (gR m35 h0 2) = 7)) (bnd (gR m35 h0 2) fun q37 => bdI (f_X6_tuneUp (h0 + 66) (gI m35 q37 12) m35) fun x39 m38 => f_X11_drawMonths_J170 h0 p1 p2 k51 x25 x31 x32 x28 m38)))
noncomputable def f_X11_drawMonths_B60 (h0 : Nat) (p1 : Int32) (p2 : Int32) (k51 : Int32 → Int32 → Int32 → Int32 → Mm → Option Mm) (k60 : Int32 → Int32 → Int32 → Int32 → Int32 → Mm → Option Mm) (x14 : Int32) (x15 : Int32) (x16 : Int32) (x17 : Int32) (x18 : Int32) (m19 : Mm) : Option Mm :=
  grd (decide (Lp.1 (gR m19 h0 2) = 7)) (bnd (gR m19 h0 2) fun q20 => if (gI m19 q20 7) ≤ x18 then (f_X11_drawMonths_J101 h0 p1 p2 k51 x14 x15 x16 x17 m19) else (if ((7)) ≤ x18 then (f_X11_drawMonths_J101 h0 p1 p2 k51 x14 x15 x16 x17 m19) else (bdI (f_X11_draw h0 ((60)) m19) fun x22 m21 => grd (inb x18 (Lp.2.1 (h0 + 82 + 3))) (bnd (sI m21 (h0 + 82 + 3) x18.toNatClampNeg x22) fun m23 => bnd (x18 + (1)) fun x24 => k60 x14 x15 x16 x17 x24 m23))))
noncomputable def f_X11_drawMonths_B51 (h0 : Nat) (p1 : Int32) (p2 : Int32) (k51 : Int32 → Int32 → Int32 → Int32 → Mm → Option Mm) (x6 : Int32) (x7 : Int32) (x8 : Int32) (x9 : Int32) (m10 : Mm) : Option Mm :=
  if x6 ≤ x9 then (grd (inb ((0)) (Lp.2.1 (h0 + 165))) (bnd (sI m10 (h0 + 165) (0 : Int32).toNatClampNeg x7) fun m11 => grd (inb ((1)) (Lp.2.1 (h0 + 165))) (bnd (sI m11 (h0 + 165) (1 : Int32).toNatClampNeg x8) fun m12 => grd (inb ((2)) (Lp.2.1 (h0 + 165))) (bnd (sI m12 (h0 + 165) (2 : Int32).toNatClampNeg (gI m12 (h0 + 66) 5)) fun m13 => some m13)))) else (lop (fun _ _ _ _ _ _ => none) (f_X11_drawMonths_B60 h0 p1 p2 k51) 4000 x6 x7 x8 x9 ((0)) m10)
noncomputable def f_X11_drawMonths (h0 : Nat) (p1 : Int32) (p2 : Int32) (mem : Mm) : Option Mm :=
  bnd (sJ mem h0 16 (p1.toInt64)) fun m1 => bdV (f_X6_copyFrom (h0 + 66) (h0 + 64) m1) fun m2 => bnd (sI m2 (h0 + 66) 5 ((0))) fun m3 => grd (decide (Lp.1 (gR m3 h0 2) = 7)) (bnd (gR m3 h0 2) fun q4 => bdV (f_X1_prepare (h0 + 82) q4 (gI m3 (h0 + 66) 2) m3) fun m5 => lop (fun _ _ _ _ _ => none) (f_X11_drawMonths_B51 h0 p1 p2 ) 4000 p2 ((0)) ((0)) ((0)) m5)
theorem dd_X11_drawMonths : yX11_drawMonths.cls = RX11 ∧ yX11_drawMonths.cls ≠ "java/lang/invoke/MethodHandle" ∧ yX11_drawMonths.cls ≠ "java/lang/invoke/VarHandle" ∧ (parseMethodDescriptor yX11_drawMonths.desc).map (fun d => d.parameters.length) = some 2 := by decide +kernel
set_option maxHeartbeats 4000000 in
set_option maxRecDepth 100000 in
theorem k_X11_drawMonths {l : Launch} {ad : Nat → Nat} {cy : Nat → ClassId} {dC : Nat → ClassId} {dI : Nat → Nat → Nat} {ks : (Nat → Nat) × (Nat → Nat)} {h0 : Nat} {p1 : Int32} {p2 : Int32} {mem : Mm} {mem2 : Mm} (e0 : Lp.1 h0 = 11) (h : f_X11_drawMonths h0 p1 p2 mem = some mem2) : CtV l Lp ad cy dC dI ks yX11_drawMonths cX11_drawMonths 7 none ({ frames := 5, cells := 0, slots := 0, locals := 112 }) [.ref (ad (h0)), .int (p1), .int (p2)] mem mem2 := by
  refine CtV.of (cc := cX11_drawMonths) (maxL := 7) (ret := none) (own := RX11) rfl (by decide) (Nat.le_of_ble_eq_true rfl) ?_
  intro p e s m args below meth c A X
  have hts := X.2.2.2.2.1
  have hl138 := X.2.2.2.2.2.2.1 (.fieldLinkNest "StationPiano" 138 "StationPiano$State" "minutes" "I" "StationPiano") (List.mem_of_getElem? (i := 57) rfl)
  have hl173 := X.2.2.2.2.2.2.1 (.fieldLinkNest "StationPiano" 173 "StationPiano$Station" "passerCount" "I" "StationPiano") (List.mem_of_getElem? (i := 40) rfl)
  have hl190 := X.2.2.2.2.2.2.1 (.fieldLinkNest "StationPiano" 190 "StationPiano$DayRun" "joySum" "I" "StationPiano") (List.mem_of_getElem? (i := 75) rfl)
  have hl193 := X.2.2.2.2.2.2.1 (.fieldLinkNest "StationPiano" 193 "StationPiano$Station" "price" "I" "StationPiano") (List.mem_of_getElem? (i := 51) rfl)
  have hl301 := X.2.2.2.2.2.2.1 (.fieldLinkNest "StationPiano" 301 "StationPiano$State" "paid" "I" "StationPiano") (List.mem_of_getElem? (i := 62) rfl)
  have hl335 := X.2.2.2.2.2.2.1 (.fieldLinkNest "StationPiano" 335 "StationPiano$DayRun" "arrives" "[I" "StationPiano") (List.mem_of_getElem? (i := 74) rfl)
  have hl340 := X.2.2.2.2.2.2.1 (.fieldLinkNest "StationPiano" 340 "StationPiano$DayRun" "begun" "I" "StationPiano") (List.mem_of_getElem? (i := 76) rfl)
  have hJ170 : ∀ (k51 : Int32 → Int32 → Int32 → Int32 → Mm → Option Mm) (hk51 : ∀ (x6 : Int32) (x7 : Int32) (x8 : Int32) (x9 : Int32) (m10 : Mm), k51 x6 x7 x8 x9 m10 = some mem2 → Jd p l e ({ frames := 5, cells := 0, slots := 0, locals := 112 }) s m args below meth c 7 (MQ below (PsV Lp ad cy dC dI mem2 A) args s 0 0 A) A dC dI cy Lp ad m10 51 [(0, .ref (ad (h0))), (2, .int (x6)), (3, .int (x7)), (4, .int (x8)), (5, .int (x9))] []) (x40 : Int32) (x41 : Int32) (x42 : Int32) (x43 : Int32) (m44 : Mm), f_X11_drawMonths_J170 h0 p1 p2 k51 x40 x41 x42 x43 m44 = some mem2 → Jd p l e ({ frames := 5, cells := 0, slots := 0, locals := 112 }) s m args below meth c 7 (MQ below (PsV Lp ad cy dC dI mem2 A) args s 0 0 A) A dC dI cy Lp ad m44 170 [(0, .ref (ad (h0))), (2, .int (x40)), (3, .int (x41)), (4, .int (x42)), (5, .int (x43))] [] := by
    intro k51 hk51 x40 x41 x42 x43 m44 h
    unfold f_X11_drawMonths_J170 at h
    refine r_inc h (fun x45 e9 h => ?_)
    refine r_iinc (v := x45) (lv2 := [(5, .int (x45)), (0, .ref (ad (h0))), (2, .int (x40)), (3, .int (x41)), (4, .int (x42))]) X dX11_drawMonths_170 4 rfl (by rw [e9]; rfl) (by decide) rfl ?_
    refine r_goto (tgt := 51) X dX11_drawMonths_173 (by decide) ?_
    exact r_sub [1, 2, 3, 4, 0] rfl (hk51 x40 x41 x42 x45 m44 h)
  have hJ101 : ∀ (k51 : Int32 → Int32 → Int32 → Int32 → Mm → Option Mm) (hk51 : ∀ (x6 : Int32) (x7 : Int32) (x8 : Int32) (x9 : Int32) (m10 : Mm), k51 x6 x7 x8 x9 m10 = some mem2 → Jd p l e ({ frames := 5, cells := 0, slots := 0, locals := 112 }) s m args below meth c 7 (MQ below (PsV Lp ad cy dC dI mem2 A) args s 0 0 A) A dC dI cy Lp ad m10 51 [(0, .ref (ad (h0))), (2, .int (x6)), (3, .int (x7)), (4, .int (x8)), (5, .int (x9))] []) (x25 : Int32) (x26 : Int32) (x27 : Int32) (x28 : Int32) (m29 : Mm), f_X11_drawMonths_J101 h0 p1 p2 k51 x25 x26 x27 x28 m29 = some mem2 → Jd p l e ({ frames := 5, cells := 0, slots := 0, locals := 112 }) s m args below meth c 7 (MQ below (PsV Lp ad cy dC dI mem2 A) args s 0 0 A) A dC dI cy Lp ad m29 101 [(0, .ref (ad (h0))), (2, .int (x25)), (3, .int (x26)), (4, .int (x27)), (5, .int (x28))] [] := by
    intro k51 hk51 x25 x26 x27 x28 m29 h
    unfold f_X11_drawMonths_J101 at h
    refine r_aload_n X dX11_drawMonths_101 rfl 0 rfl ?_
    refine r_getF X (k := 10) (of := 82) rfl (Lp_N e0 rfl) e0 rfl (by decide) ui_11 (by decide) uw2_193 rfl dX11_drawMonths_102 ?_
    refine r_aload_n X dX11_drawMonths_105 rfl 0 rfl ?_
    refine r_getF X (k := 5) (of := 66) rfl (Lp_N e0 rfl) e0 rfl (by decide) ui_11 (by decide) uw2_188 rfl dX11_drawMonths_106 ?_
    refine r_iconst (v := (0)) X dX11_drawMonths_109 (by decide) ?_
    refine r_cVV (As := [.ref (ad (h0 + 66)), .int ((0))]) (rest := []) X (fun m9 hg => k_X1_pass (Lp_11_10 e0) (Lp_11_5 e0) hg) h (Lp_N (Lp_11_10 e0) rfl) (Lp_11_10 e0) rfl (by decide) uw4_96 uw4_97 uw4_98 uw1_11 uw4_99 rfl rfl dd_X1_pass ⟨Nat.le_of_ble_eq_true rfl, Nat.le_of_ble_eq_true rfl⟩ rfl (Nat.le_of_ble_eq_true rfl) dX11_drawMonths_110 rfl (fun m30 h => ?_)
    refine r_iload_n X dX11_drawMonths_113 rfl 2 rfl ?_
    refine r_aload_n X dX11_drawMonths_114 rfl 0 rfl ?_
    refine r_getF X (k := 10) (of := 82) rfl (Lp_N e0 rfl) e0 rfl (by decide) ui_11 (by decide) uw2_193 rfl dX11_drawMonths_115 ?_
    refine r_getIN X (k := 10) (Lp_N (Lp_11_10 e0) rfl) (Lp_11_10 e0) rfl (by decide) ui_1 (by decide) hl190 rfl dX11_drawMonths_118 ?_
    refine r_iadd X dX11_drawMonths_121 ?_
    refine r_nmI h (fun x31 h => ?_)
    refine r_istore_n (lv2 := [(3, .int (x31)), (0, .ref (ad (h0))), (2, .int (x25)), (4, .int (x27)), (5, .int (x28))]) X dX11_drawMonths_122 rfl (by decide) rfl ?_
    refine r_iload X dX11_drawMonths_123 3 rfl ?_
    refine r_aload_n X dX11_drawMonths_125 rfl 1 rfl ?_
    refine r_getF X (k := 10) (of := 82) rfl (Lp_N e0 rfl) e0 rfl (by decide) ui_11 (by decide) uw2_193 rfl dX11_drawMonths_126 ?_
    refine r_getIN X (k := 11) (Lp_N (Lp_11_10 e0) rfl) (Lp_11_10 e0) rfl (by decide) ui_1 (by decide) hl340 rfl dX11_drawMonths_129 ?_
    refine r_iadd X dX11_drawMonths_132 ?_
    refine r_nmI h (fun x32 h => ?_)
    refine r_istore (lv2 := [(4, .int (x32)), (3, .int (x31)), (0, .ref (ad (h0))), (2, .int (x25)), (5, .int (x28))]) X dX11_drawMonths_133 (by decide) rfl ?_
    refine r_aload_n X dX11_drawMonths_135 rfl 2 rfl ?_
    refine r_getF X (k := 5) (of := 66) rfl (Lp_N e0 rfl) e0 rfl (by decide) ui_11 (by decide) uw2_188 rfl dX11_drawMonths_136 ?_
    refine r_iconst (v := (5)) X dX11_drawMonths_139 (by decide) ?_
    refine r_cVI (As := [.int ((5))]) (rest := []) X (fun r9 m9 hg => k_X6_keysAbove (Lp_11_5 e0) hg) h (Lp_N (Lp_11_5 e0) rfl) (Lp_11_5 e0) rfl (by decide) uw5_202 uw5_203 uw5_204 uw1_7 uw5_205 rfl rfl dd_X6_keysAbove ⟨Nat.le_of_ble_eq_true rfl, Nat.le_of_ble_eq_true rfl⟩ rfl (Nat.le_of_ble_eq_true rfl) dX11_drawMonths_140 rfl (fun x34 m33 h => ?_)
    refine r_iconst (v := (3)) X dX11_drawMonths_143 (by decide) ?_
    refine r_icmp_lt (tgt := 170) X dX11_drawMonths_144 (by decide) h (fun h => ?_) (fun h => ?_)
    · exact r_sub [2, 3, 1, 0, 4] rfl (hJ170 k51 hk51 x25 x31 x32 x28 m33 h)
    · refine r_aload_n X dX11_drawMonths_147 rfl 2 rfl ?_
      refine r_iconst (v := (4)) X dX11_drawMonths_148 (by decide) ?_
      refine r_cVI (As := [.int ((4))]) (rest := []) X (fun r9 m9 hg => k_X11_draw e0 hg) h (Lp_N e0 rfl) e0 rfl (by decide) uw5_194 uw5_196 us3_11 uw1_1 uw5_197 rfl rfl dd_X11_draw ⟨Nat.le_of_ble_eq_true rfl, Nat.le_of_ble_eq_true rfl⟩ rfl (Nat.le_of_ble_eq_true rfl) dX11_drawMonths_149 rfl (fun x36 m35 h => ?_)
      refine r_if_ne (tgt := 170) X dX11_drawMonths_152 (by decide) h (fun h => ?_) (fun h => ?_)
      · exact r_sub [2, 3, 1, 0, 4] rfl (hJ170 k51 hk51 x25 x31 x32 x28 m35 h)
      · refine r_aload_n X dX11_drawMonths_155 rfl 2 rfl ?_
        refine r_getF X (k := 5) (of := 66) rfl (Lp_N e0 rfl) e0 rfl (by decide) ui_11 (by decide) uw2_188 rfl dX11_drawMonths_156 ?_
        refine r_aload_n X dX11_drawMonths_159 rfl 2 rfl ?_
        refine r_getR X 7 (k := 2) (Lp_N e0 rfl) e0 rfl (by decide) ui_11 (by decide) uw2_185 rfl h dX11_drawMonths_160 (fun q37 eq37 h => ?_)
        refine r_getIN X (k := 12) (Lp_N eq37 rfl) eq37 rfl (by decide) ui_7 (by decide) hl193 rfl dX11_drawMonths_163 ?_
        refine r_cVI (As := [.int (gI m35 q37 12)]) (rest := []) X (fun r9 m9 hg => k_X6_tuneUp (Lp_11_5 e0) hg) h (Lp_N (Lp_11_5 e0) rfl) (Lp_11_5 e0) rfl (by decide) uw4_170 uw4_171 uw4_172 uw1_7 uw4_173 rfl rfl dd_X6_tuneUp ⟨Nat.le_of_ble_eq_true rfl, Nat.le_of_ble_eq_true rfl⟩ rfl (Nat.le_of_ble_eq_true rfl) dX11_drawMonths_166 rfl (fun x39 m38 h => ?_)
        refine r_pop X dX11_drawMonths_169 rfl ?_
        exact r_sub [2, 3, 1, 0, 4] rfl (hJ170 k51 hk51 x25 x31 x32 x28 m38 h)
  have hJ60 : ∀ (k51 : Int32 → Int32 → Int32 → Int32 → Mm → Option Mm) (hk51 : ∀ (x6 : Int32) (x7 : Int32) (x8 : Int32) (x9 : Int32) (m10 : Mm), k51 x6 x7 x8 x9 m10 = some mem2 → Jd p l e ({ frames := 5, cells := 0, slots := 0, locals := 112 }) s m args below meth c 7 (MQ below (PsV Lp ad cy dC dI mem2 A) args s 0 0 A) A dC dI cy Lp ad m10 51 [(0, .ref (ad (h0))), (2, .int (x6)), (3, .int (x7)), (4, .int (x8)), (5, .int (x9))] []) (k60 : Int32 → Int32 → Int32 → Int32 → Int32 → Mm → Option Mm) (hk60 : ∀ (x14 : Int32) (x15 : Int32) (x16 : Int32) (x17 : Int32) (x18 : Int32) (m19 : Mm), k60 x14 x15 x16 x17 x18 m19 = some mem2 → Jd p l e ({ frames := 5, cells := 0, slots := 0, locals := 112 }) s m args below meth c 7 (MQ below (PsV Lp ad cy dC dI mem2 A) args s 0 0 A) A dC dI cy Lp ad m19 60 [(0, .ref (ad (h0))), (2, .int (x14)), (3, .int (x15)), (4, .int (x16)), (5, .int (x17)), (6, .int (x18))] []) (x14 : Int32) (x15 : Int32) (x16 : Int32) (x17 : Int32) (x18 : Int32) (m19 : Mm), f_X11_drawMonths_B60 h0 p1 p2 k51 k60 x14 x15 x16 x17 x18 m19 = some mem2 → Jd p l e ({ frames := 5, cells := 0, slots := 0, locals := 112 }) s m args below meth c 7 (MQ below (PsV Lp ad cy dC dI mem2 A) args s 0 0 A) A dC dI cy Lp ad m19 60 [(0, .ref (ad (h0))), (2, .int (x14)), (3, .int (x15)), (4, .int (x16)), (5, .int (x17)), (6, .int (x18))] [] := by
    intro k51 hk51 k60 hk60 x14 x15 x16 x17 x18 m19 h
    unfold f_X11_drawMonths_B60 at h
    refine r_iload X dX11_drawMonths_60 5 rfl ?_
    refine r_aload_n X dX11_drawMonths_62 rfl 0 rfl ?_
    refine r_getR X 7 (k := 2) (Lp_N e0 rfl) e0 rfl (by decide) ui_11 (by decide) uw2_185 rfl h dX11_drawMonths_63 (fun q20 eq20 h => ?_)
    refine r_getIN X (k := 7) (Lp_N eq20 rfl) eq20 rfl (by decide) ui_7 (by decide) hl173 rfl dX11_drawMonths_66 ?_
    refine r_icmp_ge (tgt := 101) X dX11_drawMonths_69 (by decide) h (fun h => ?_) (fun h => ?_)
    · exact r_sub [0, 1, 2, 3, 4] rfl (hJ101 k51 hk51 x14 x15 x16 x17 m19 h)
    · refine r_iload X dX11_drawMonths_72 5 rfl ?_
      refine r_bipush (v := (7)) X dX11_drawMonths_74 (by decide) ?_
      refine r_icmp_ge (tgt := 101) X dX11_drawMonths_76 (by decide) h (fun h => ?_) (fun h => ?_)
      · exact r_sub [0, 1, 2, 3, 4] rfl (hJ101 k51 hk51 x14 x15 x16 x17 m19 h)
      · refine r_aload_n X dX11_drawMonths_79 rfl 0 rfl ?_
        refine r_getF X (k := 10) (of := 82) rfl (Lp_N e0 rfl) e0 rfl (by decide) ui_11 (by decide) uw2_193 rfl dX11_drawMonths_80 ?_
        refine r_getFN X (k := 2) (of := 3) rfl (Lp_N (Lp_11_10 e0) rfl) (Lp_11_10 e0) rfl (by decide) ui_1 (by decide) hl335 rfl dX11_drawMonths_83 ?_
        refine r_iload X dX11_drawMonths_86 5 rfl ?_
        refine r_aload_n X dX11_drawMonths_88 rfl 0 rfl ?_
        refine r_bipush (v := (60)) X dX11_drawMonths_89 (by decide) ?_
        refine r_cVI (As := [.int ((60))]) (rest := [.int (x18), .ref (ad (h0 + 82 + 3))]) X (fun r9 m9 hg => k_X11_draw e0 hg) h (Lp_N e0 rfl) e0 rfl (by decide) uw5_194 uw5_196 us3_11 uw1_1 uw5_197 rfl rfl dd_X11_draw ⟨Nat.le_of_ble_eq_true rfl, Nat.le_of_ble_eq_true rfl⟩ rfl (Nat.le_of_ble_eq_true rfl) dX11_drawMonths_91 rfl (fun x22 m21 h => ?_)
        refine r_iast X (Lp_N (Lp_1_2 (Lp_11_10 e0)) rfl) (Lp_1_2 (Lp_11_10 e0)) h dX11_drawMonths_94 (fun h => ?_)
        refine r_nmM h (fun m23 h => ?_)
        refine r_inc h (fun x24 e9 h => ?_)
        refine r_iinc (v := x24) (lv2 := [(6, .int (x24)), (0, .ref (ad (h0))), (2, .int (x14)), (3, .int (x15)), (4, .int (x16)), (5, .int (x17))]) X dX11_drawMonths_95 5 rfl (by rw [e9]; rfl) (by decide) rfl ?_
        refine r_goto (tgt := 60) X dX11_drawMonths_98 (by decide) ?_
        exact r_sub [1, 2, 3, 4, 5, 0] rfl (hk60 x14 x15 x16 x17 x24 m23 h)
  have hL60 : ∀ (k51 : Int32 → Int32 → Int32 → Int32 → Mm → Option Mm) (hk51 : ∀ (x6 : Int32) (x7 : Int32) (x8 : Int32) (x9 : Int32) (m10 : Mm), k51 x6 x7 x8 x9 m10 = some mem2 → Jd p l e ({ frames := 5, cells := 0, slots := 0, locals := 112 }) s m args below meth c 7 (MQ below (PsV Lp ad cy dC dI mem2 A) args s 0 0 A) A dC dI cy Lp ad m10 51 [(0, .ref (ad (h0))), (2, .int (x6)), (3, .int (x7)), (4, .int (x8)), (5, .int (x9))] []) (n : Nat), ∀ (x14 : Int32) (x15 : Int32) (x16 : Int32) (x17 : Int32) (x18 : Int32) (m19 : Mm), lop (fun _ _ _ _ _ _ => none) (f_X11_drawMonths_B60 h0 p1 p2 k51) n x14 x15 x16 x17 x18 m19 = some mem2 → Jd p l e ({ frames := 5, cells := 0, slots := 0, locals := 112 }) s m args below meth c 7 (MQ below (PsV Lp ad cy dC dI mem2 A) args s 0 0 A) A dC dI cy Lp ad m19 60 [(0, .ref (ad (h0))), (2, .int (x14)), (3, .int (x15)), (4, .int (x16)), (5, .int (x17)), (6, .int (x18))] [] := by
    intro k51 hk51 n
    induction n with
    | zero => intro _ _ _ _ _ _ h; cases h
    | succ n ih => intro a0 a1 a2 a3 a4 a5 h; exact hJ60 k51 hk51 _ ih a0 a1 a2 a3 a4 a5 h
  have hJ51 : ∀ (k51 : Int32 → Int32 → Int32 → Int32 → Mm → Option Mm) (hk51 : ∀ (x6 : Int32) (x7 : Int32) (x8 : Int32) (x9 : Int32) (m10 : Mm), k51 x6 x7 x8 x9 m10 = some mem2 → Jd p l e ({ frames := 5, cells := 0, slots := 0, locals := 112 }) s m args below meth c 7 (MQ below (PsV Lp ad cy dC dI mem2 A) args s 0 0 A) A dC dI cy Lp ad m10 51 [(0, .ref (ad (h0))), (2, .int (x6)), (3, .int (x7)), (4, .int (x8)), (5, .int (x9))] []) (x6 : Int32) (x7 : Int32) (x8 : Int32) (x9 : Int32) (m10 : Mm), f_X11_drawMonths_B51 h0 p1 p2 k51 x6 x7 x8 x9 m10 = some mem2 → Jd p l e ({ frames := 5, cells := 0, slots := 0, locals := 112 }) s m args below meth c 7 (MQ below (PsV Lp ad cy dC dI mem2 A) args s 0 0 A) A dC dI cy Lp ad m10 51 [(0, .ref (ad (h0))), (2, .int (x6)), (3, .int (x7)), (4, .int (x8)), (5, .int (x9))] [] := by
    intro k51 hk51 x6 x7 x8 x9 m10 h
    unfold f_X11_drawMonths_B51 at h
    refine r_iload X dX11_drawMonths_51 4 rfl ?_
    refine r_iload_n X dX11_drawMonths_53 rfl 1 rfl ?_
    refine r_icmp_ge (tgt := 176) X dX11_drawMonths_54 (by decide) h (fun h => ?_) (fun h => ?_)
    · refine r_aload_n X dX11_drawMonths_176 rfl 0 rfl ?_
      refine r_getF X (k := 15) (of := 165) rfl (Lp_N e0 rfl) e0 rfl (by decide) ui_11 (by decide) uw2_198 rfl dX11_drawMonths_177 ?_
      refine r_iconst (v := (0)) X dX11_drawMonths_180 (by decide) ?_
      refine r_iload_n X dX11_drawMonths_181 rfl 2 rfl ?_
      refine r_iast X (Lp_N (Lp_11_15 e0) rfl) (Lp_11_15 e0) h dX11_drawMonths_182 (fun h => ?_)
      refine r_nmM h (fun m11 h => ?_)
      refine r_aload_n X dX11_drawMonths_183 rfl 0 rfl ?_
      refine r_getF X (k := 15) (of := 165) rfl (Lp_N e0 rfl) e0 rfl (by decide) ui_11 (by decide) uw2_198 rfl dX11_drawMonths_184 ?_
      refine r_iconst (v := (1)) X dX11_drawMonths_187 (by decide) ?_
      refine r_iload X dX11_drawMonths_188 3 rfl ?_
      refine r_iast X (Lp_N (Lp_11_15 e0) rfl) (Lp_11_15 e0) h dX11_drawMonths_190 (fun h => ?_)
      refine r_nmM h (fun m12 h => ?_)
      refine r_aload_n X dX11_drawMonths_191 rfl 0 rfl ?_
      refine r_getF X (k := 15) (of := 165) rfl (Lp_N e0 rfl) e0 rfl (by decide) ui_11 (by decide) uw2_198 rfl dX11_drawMonths_192 ?_
      refine r_iconst (v := (2)) X dX11_drawMonths_195 (by decide) ?_
      refine r_aload_n X dX11_drawMonths_196 rfl 0 rfl ?_
      refine r_getF X (k := 5) (of := 66) rfl (Lp_N e0 rfl) e0 rfl (by decide) ui_11 (by decide) uw2_188 rfl dX11_drawMonths_197 ?_
      refine r_getIN X (k := 5) (Lp_N (Lp_11_5 e0) rfl) (Lp_11_5 e0) rfl (by decide) ui_6 (by decide) hl301 rfl dX11_drawMonths_200 ?_
      refine r_iast X (Lp_N (Lp_11_15 e0) rfl) (Lp_11_15 e0) h dX11_drawMonths_203 (fun h => ?_)
      refine r_nmM h (fun m13 h => ?_)
      exact r_vret X rfl dX11_drawMonths_204 h
    · refine r_iconst (v := (0)) X dX11_drawMonths_57 (by decide) ?_
      refine r_istore (lv2 := [(6, .int ((0))), (0, .ref (ad (h0))), (2, .int (x6)), (3, .int (x7)), (4, .int (x8)), (5, .int (x9))]) X dX11_drawMonths_58 (by decide) rfl ?_
      exact r_sub [1, 2, 3, 4, 5, 0] rfl (hL60 k51 hk51 4000 x6 x7 x8 x9 ((0)) m10 h)
  have hL51 : ∀ (n : Nat), ∀ (x6 : Int32) (x7 : Int32) (x8 : Int32) (x9 : Int32) (m10 : Mm), lop (fun _ _ _ _ _ => none) (f_X11_drawMonths_B51 h0 p1 p2 ) n x6 x7 x8 x9 m10 = some mem2 → Jd p l e ({ frames := 5, cells := 0, slots := 0, locals := 112 }) s m args below meth c 7 (MQ below (PsV Lp ad cy dC dI mem2 A) args s 0 0 A) A dC dI cy Lp ad m10 51 [(0, .ref (ad (h0))), (2, .int (x6)), (3, .int (x7)), (4, .int (x8)), (5, .int (x9))] [] := by
    intro  n
    induction n with
    | zero => intro _ _ _ _ _ h; cases h
    | succ n ih => intro a0 a1 a2 a3 a4 h; exact hJ51  _ ih a0 a1 a2 a3 a4 h
  unfold f_X11_drawMonths at h
  refine r_iconst (v := (0)) X dX11_drawMonths_0 (by decide) ?_
  refine r_istore_n (lv2 := [(3, .int ((0))), (0, .ref (ad (h0))), (1, .int (p1)), (2, .int (p2))]) X dX11_drawMonths_1 rfl (by decide) rfl ?_
  refine r_iconst (v := (0)) X dX11_drawMonths_2 (by decide) ?_
  refine r_istore (lv2 := [(4, .int ((0))), (3, .int ((0))), (0, .ref (ad (h0))), (1, .int (p1)), (2, .int (p2))]) X dX11_drawMonths_3 (by decide) rfl ?_
  refine r_aload_n X dX11_drawMonths_5 rfl 2 rfl ?_
  refine r_iload_n X dX11_drawMonths_6 rfl 3 rfl ?_
  refine r_i2l X dX11_drawMonths_7 ?_
  refine r_putJ X (k := 16) (Lp_N e0 rfl) e0 rfl (by decide) ui_11 (by decide) uw2_199 tyX11_ok nmX11 rfl rfl rfl dX11_drawMonths_8 ?_
  refine r_nmM h (fun m1 h => ?_)
  refine r_aload_n X dX11_drawMonths_11 rfl 2 rfl ?_
  refine r_getF X (k := 5) (of := 66) rfl (Lp_N e0 rfl) e0 rfl (by decide) ui_11 (by decide) uw2_188 rfl dX11_drawMonths_12 ?_
  refine r_aload_n X dX11_drawMonths_15 rfl 2 rfl ?_
  refine r_getF X (k := 4) (of := 64) rfl (Lp_N e0 rfl) e0 rfl (by decide) ui_11 (by decide) uw2_187 rfl dX11_drawMonths_16 ?_
  refine r_cVV (As := [.ref (ad (h0 + 64))]) (rest := []) X (fun m9 hg => k_X6_copyFrom (Lp_11_5 e0) (Lp_11_4 e0) hg) h (Lp_N (Lp_11_5 e0) rfl) (Lp_11_5 e0) rfl (by decide) uw4_65 uw4_66 uw4_67 uw1_7 uw4_68 rfl rfl dd_X6_copyFrom ⟨Nat.le_of_ble_eq_true rfl, Nat.le_of_ble_eq_true rfl⟩ rfl (Nat.le_of_ble_eq_true rfl) dX11_drawMonths_19 rfl (fun m2 h => ?_)
  refine r_aload_n X dX11_drawMonths_22 rfl 2 rfl ?_
  refine r_getF X (k := 5) (of := 66) rfl (Lp_N e0 rfl) e0 rfl (by decide) ui_11 (by decide) uw2_188 rfl dX11_drawMonths_23 ?_
  refine r_iconst (v := (0)) X dX11_drawMonths_26 (by decide) ?_
  refine r_putIN X (k := 5) (Lp_N (Lp_11_5 e0) rfl) (Lp_11_5 e0) rfl (by decide) ui_6 (by decide) hl301 tyX6_ok nmX6 rfl rfl rfl dX11_drawMonths_27 ?_
  refine r_nmM h (fun m3 h => ?_)
  refine r_aload_n X dX11_drawMonths_30 rfl 2 rfl ?_
  refine r_getF X (k := 10) (of := 82) rfl (Lp_N e0 rfl) e0 rfl (by decide) ui_11 (by decide) uw2_193 rfl dX11_drawMonths_31 ?_
  refine r_aload_n X dX11_drawMonths_34 rfl 2 rfl ?_
  refine r_getR X 7 (k := 2) (Lp_N e0 rfl) e0 rfl (by decide) ui_11 (by decide) uw2_185 rfl h dX11_drawMonths_35 (fun q4 eq4 h => ?_)
  refine r_aload_n X dX11_drawMonths_38 rfl 2 rfl ?_
  refine r_getF X (k := 5) (of := 66) rfl (Lp_N e0 rfl) e0 rfl (by decide) ui_11 (by decide) uw2_188 rfl dX11_drawMonths_39 ?_
  refine r_getIN X (k := 2) (Lp_N (Lp_11_5 e0) rfl) (Lp_11_5 e0) rfl (by decide) ui_6 (by decide) hl138 rfl dX11_drawMonths_42 ?_
  refine r_cVV (As := [.ref (ad (q4)), .int (gI m3 (h0 + 66) 2)]) (rest := []) X (fun m9 hg => k_X1_prepare (Lp_11_10 e0) eq4 hg) h (Lp_N (Lp_11_10 e0) rfl) (Lp_11_10 e0) rfl (by decide) uw4_69 uw4_70 uw4_71 uw1_11 uw4_72 rfl rfl dd_X1_prepare ⟨Nat.le_of_ble_eq_true rfl, Nat.le_of_ble_eq_true rfl⟩ rfl (Nat.le_of_ble_eq_true rfl) dX11_drawMonths_45 rfl (fun m5 h => ?_)
  refine r_iconst (v := (0)) X dX11_drawMonths_48 (by decide) ?_
  refine r_istore (lv2 := [(5, .int ((0))), (4, .int ((0))), (3, .int ((0))), (0, .ref (ad (h0))), (1, .int (p1)), (2, .int (p2))]) X dX11_drawMonths_49 (by decide) rfl ?_
  exact r_sub [3, 5, 2, 1, 0] rfl (hL51 4000 p2 ((0)) ((0)) ((0)) m5 h)
noncomputable def f_X11_mark (h0 : Nat) (p1 : Int32) (p2 : Int32) (mem : Mm) : Option (Int32 × Mm) :=
  if p1 < 0 then (grd (bok ((0))) (some ((0), mem))) else (if p1 < ((4)) then (grd (inb p1 (Lp.2.1 (h0 + 91))) (bnd (h0 + 91 + (1 + 10 * p1.toNatClampNeg)) fun q1 => if ¬ p2 = 0 then (if ¬ (gI mem q1 3) = 0 then (bdV (f_X3_bringBack q1 (h0 + 64) (h0 + 68) (h0 + 76) mem) fun m2 => bnd (sI m2 h0 14 ((0))) fun m3 => grd (bok ((1))) (some ((1), m3))) else (grd (bok ((0))) (some ((0), mem)))) else (bdV (f_X3_lay q1 (h0 + 64) (h0 + 68) (h0 + 76) mem) fun m4 => grd (bok ((1))) (some ((1), m4))))) else (grd (bok ((0))) (some ((0), mem))))
theorem dd_X11_mark : yX11_mark.cls = RX11 ∧ yX11_mark.cls ≠ "java/lang/invoke/MethodHandle" ∧ yX11_mark.cls ≠ "java/lang/invoke/VarHandle" ∧ (parseMethodDescriptor yX11_mark.desc).map (fun d => d.parameters.length) = some 2 := by decide +kernel
set_option maxHeartbeats 4000000 in
set_option maxRecDepth 100000 in
theorem k_X11_mark {l : Launch} {ad : Nat → Nat} {cy : Nat → ClassId} {dC : Nat → ClassId} {dI : Nat → Nat → Nat} {ks : (Nat → Nat) × (Nat → Nat)} {h0 : Nat} {p1 : Int32} {p2 : Int32} {mem : Mm} {r2 : Int32} {mem2 : Mm} (e0 : Lp.1 h0 = 11) (h : f_X11_mark h0 p1 p2 mem = some (r2, mem2)) : CtI l Lp ad cy dC dI ks yX11_mark cX11_mark 4 (some .boolean) ({ frames := 2, cells := 0, slots := 0, locals := 45 }) [.ref (ad (h0)), .int (p1), .int (p2)] mem r2 mem2 := by
  refine CtI.of (cc := cX11_mark) (maxL := 4) (ret := (some .boolean)) (own := RX11) rfl (by decide) (Nat.le_of_ble_eq_true rfl) ?_
  intro p e s m args below meth c A X
  have hts := X.2.2.2.2.1
  have hl291 := X.2.2.2.2.2.2.1 (.fieldLinkNest "StationPiano" 291 "StationPiano$Mark" "laid" "Z" "StationPiano") (List.mem_of_getElem? (i := 77) rfl)
  unfold f_X11_mark at h
  refine r_iload_n X dX11_mark_0 rfl 1 rfl ?_
  refine r_if_lt (tgt := 9) X dX11_mark_1 (by decide) h (fun h => ?_) (fun h => ?_)
  · refine r_iconst (v := (0)) X dX11_mark_9 (by decide) ?_
    exact r_zret2 X rfl dX11_mark_10 h
  · refine r_iload_n X dX11_mark_4 rfl 1 rfl ?_
    refine r_iconst (v := (4)) X dX11_mark_5 (by decide) ?_
    refine r_icmp_lt (tgt := 11) X dX11_mark_6 (by decide) h (fun h => ?_) (fun h => ?_)
    · refine r_aload_n X dX11_mark_11 rfl 0 rfl ?_
      refine r_getF X (k := 11) (of := 91) rfl (Lp_N e0 rfl) e0 rfl (by decide) ui_11 (by decide) uw2_194 rfl dX11_mark_12 ?_
      refine r_iload_n X dX11_mark_15 rfl 1 rfl ?_
      refine r_ald17 X (Lp_N (Lp_11_11 e0) rfl) (Lp_11_11 e0) (Lp_e17 (Lp_11_11 e0)) rfl h dX11_mark_16 (fun q1 eq1 h => ?_)
      refine r_astore_n (lv2 := [(3, .ref (ad (q1))), (0, .ref (ad (h0))), (1, .int (p1)), (2, .int (p2))]) X dX11_mark_17 rfl (by decide) rfl ?_
      refine r_iload_n X dX11_mark_18 rfl 3 rfl ?_
      refine r_if_ne (tgt := 40) X dX11_mark_19 (by decide) h (fun h => ?_) (fun h => ?_)
      · refine r_aload_n X dX11_mark_40 rfl 0 rfl ?_
        refine r_getIN X (k := 3) (Lp_N eq1 rfl) eq1 rfl (by decide) ui_3 (by decide) hl291 rfl dX11_mark_41 ?_
        refine r_if_ne (tgt := 49) X dX11_mark_44 (by decide) h (fun h => ?_) (fun h => ?_)
        · refine r_aload_n X dX11_mark_49 rfl 0 rfl ?_
          refine r_aload_n X dX11_mark_50 rfl 1 rfl ?_
          refine r_getF X (k := 4) (of := 64) rfl (Lp_N e0 rfl) e0 rfl (by decide) ui_11 (by decide) uw2_187 rfl dX11_mark_51 ?_
          refine r_aload_n X dX11_mark_54 rfl 1 rfl ?_
          refine r_getF X (k := 6) (of := 68) rfl (Lp_N e0 rfl) e0 rfl (by decide) ui_11 (by decide) uw2_189 rfl dX11_mark_55 ?_
          refine r_aload_n X dX11_mark_58 rfl 1 rfl ?_
          refine r_getF X (k := 8) (of := 76) rfl (Lp_N e0 rfl) e0 rfl (by decide) ui_11 (by decide) uw2_191 rfl dX11_mark_59 ?_
          refine r_cVV (As := [.ref (ad (h0 + 64)), .ref (ad (h0 + 68)), .ref (ad (h0 + 76))]) (rest := []) X (fun m9 hg => k_X3_bringBack eq1 (Lp_11_4 e0) (Lp_11_6 e0) (Lp_11_8 e0) hg) h (Lp_N eq1 rfl) eq1 rfl (by decide) uw5_42 uw5_43 uw5_44 uw1_12 uw5_45 rfl rfl dd_X3_bringBack ⟨Nat.le_of_ble_eq_true rfl, Nat.le_of_ble_eq_true rfl⟩ rfl (Nat.le_of_ble_eq_true rfl) dX11_mark_62 rfl (fun m2 h => ?_)
          refine r_aload_n X dX11_mark_65 rfl 1 rfl ?_
          refine r_iconst (v := (0)) X dX11_mark_66 (by decide) ?_
          refine r_putI X (k := 14) (Lp_N e0 rfl) e0 rfl (by decide) ui_11 (by decide) uw2_197 tyX11_ok nmX11 rfl rfl rfl dX11_mark_67 ?_
          refine r_nmM h (fun m3 h => ?_)
          refine r_iconst (v := (1)) X dX11_mark_70 (by decide) ?_
          exact r_zret2 X rfl dX11_mark_71 h
        · refine r_iconst (v := (0)) X dX11_mark_47 (by decide) ?_
          exact r_zret2 X rfl dX11_mark_48 h
      · refine r_aload_n X dX11_mark_22 rfl 0 rfl ?_
        refine r_aload_n X dX11_mark_23 rfl 1 rfl ?_
        refine r_getF X (k := 4) (of := 64) rfl (Lp_N e0 rfl) e0 rfl (by decide) ui_11 (by decide) uw2_187 rfl dX11_mark_24 ?_
        refine r_aload_n X dX11_mark_27 rfl 1 rfl ?_
        refine r_getF X (k := 6) (of := 68) rfl (Lp_N e0 rfl) e0 rfl (by decide) ui_11 (by decide) uw2_189 rfl dX11_mark_28 ?_
        refine r_aload_n X dX11_mark_31 rfl 1 rfl ?_
        refine r_getF X (k := 8) (of := 76) rfl (Lp_N e0 rfl) e0 rfl (by decide) ui_11 (by decide) uw2_191 rfl dX11_mark_32 ?_
        refine r_cVV (As := [.ref (ad (h0 + 64)), .ref (ad (h0 + 68)), .ref (ad (h0 + 76))]) (rest := []) X (fun m9 hg => k_X3_lay eq1 (Lp_11_4 e0) (Lp_11_6 e0) (Lp_11_8 e0) hg) h (Lp_N eq1 rfl) eq1 rfl (by decide) uw5_32 uw5_33 uw5_34 uw1_12 uw5_35 rfl rfl dd_X3_lay ⟨Nat.le_of_ble_eq_true rfl, Nat.le_of_ble_eq_true rfl⟩ rfl (Nat.le_of_ble_eq_true rfl) dX11_mark_35 rfl (fun m4 h => ?_)
        refine r_iconst (v := (1)) X dX11_mark_38 (by decide) ?_
        exact r_zret2 X rfl dX11_mark_39 h
    · refine r_iconst (v := (0)) X dX11_mark_9 (by decide) ?_
      exact r_zret2 X rfl dX11_mark_10 h
noncomputable def f_X11_count (h0 : Nat) (p1 : Int32) (mem : Mm) : Option (Int32 × Mm) :=
  if p1 = (0) then (grd (decide (Lp.1 (gR mem h0 2) = 7)) (bnd (gR mem h0 2) fun q1 => some (gI mem q1 6, mem))) else (if p1 = (1) then (grd (decide (Lp.1 (gR mem h0 2) = 7)) (bnd (gR mem h0 2) fun q2 => some (gI mem q2 7, mem))) else (if p1 = (2) then (grd (decide (Lp.1 (gR mem h0 2) = 7)) (bnd (gR mem h0 2) fun q3 => some (gI mem q3 8, mem))) else (if p1 = (3) then (some (gI mem (h0 + 64) 2, mem)) else (if p1 = (4) then (some (gI mem (h0 + 64) 3, mem)) else (if p1 = (5) then (some (gI mem (h0 + 64) 4, mem)) else (if p1 = (6) then (grd (decide (Lp.1 (gR mem h0 2) = 7)) (bnd (gR mem h0 2) fun q4 => some (gI mem q4 12, mem))) else (if p1 = (7) then (some (gI mem (h0 + 64) 1, mem)) else (if p1 = (8) then (some (gI mem (h0 + 64) 5, mem)) else (if p1 = (9) then (bdI (f_X6_goneKeys (h0 + 64) mem) fun x6 m5 => some (x6, m5)) else (if p1 = (10) then (some (gI mem (h0 + 68) 3, mem)) else (if p1 = (11) then (some (gI mem (h0 + 76) 2, mem)) else (if p1 = (12) then (some (gI mem h0 14, mem)) else (if p1 = (13) then (some (gI mem (h0 + 1) 1, mem)) else (some ((-1), mem)))))))))))))))
theorem dd_X11_count : yX11_count.cls = RX11 ∧ yX11_count.cls ≠ "java/lang/invoke/MethodHandle" ∧ yX11_count.cls ≠ "java/lang/invoke/VarHandle" ∧ (parseMethodDescriptor yX11_count.desc).map (fun d => d.parameters.length) = some 1 := by decide +kernel
set_option maxHeartbeats 4000000 in
set_option maxRecDepth 100000 in
theorem k_X11_count {l : Launch} {ad : Nat → Nat} {cy : Nat → ClassId} {dC : Nat → ClassId} {dI : Nat → Nat → Nat} {ks : (Nat → Nat) × (Nat → Nat)} {h0 : Nat} {p1 : Int32} {mem : Mm} {r2 : Int32} {mem2 : Mm} (e0 : Lp.1 h0 = 11) (h : f_X11_count h0 p1 mem = some (r2, mem2)) : CtI l Lp ad cy dC dI ks yX11_count cX11_count 2 (some .int) ({ frames := 1, cells := 0, slots := 0, locals := 22 }) [.ref (ad (h0)), .int (p1)] mem r2 mem2 := by
  refine CtI.of (cc := cX11_count) (maxL := 2) (ret := (some .int)) (own := RX11) rfl (by decide) (Nat.le_of_ble_eq_true rfl) ?_
  intro p e s m args below meth c A X
  have hts := X.2.2.2.2.1
  have hl97 := X.2.2.2.2.2.2.1 (.fieldLinkNest "StationPiano" 97 "StationPiano$Tape" "length" "I" "StationPiano") (List.mem_of_getElem? (i := 0) rfl)
  have hl138 := X.2.2.2.2.2.2.1 (.fieldLinkNest "StationPiano" 138 "StationPiano$State" "minutes" "I" "StationPiano") (List.mem_of_getElem? (i := 57) rfl)
  have hl148 := X.2.2.2.2.2.2.1 (.fieldLinkNest "StationPiano" 148 "StationPiano$Station" "tuneCount" "I" "StationPiano") (List.mem_of_getElem? (i := 36) rfl)
  have hl173 := X.2.2.2.2.2.2.1 (.fieldLinkNest "StationPiano" 173 "StationPiano$Station" "passerCount" "I" "StationPiano") (List.mem_of_getElem? (i := 40) rfl)
  have hl187 := X.2.2.2.2.2.2.1 (.fieldLinkNest "StationPiano" 187 "StationPiano$State" "day" "I" "StationPiano") (List.mem_of_getElem? (i := 56) rfl)
  have hl193 := X.2.2.2.2.2.2.1 (.fieldLinkNest "StationPiano" 193 "StationPiano$Station" "price" "I" "StationPiano") (List.mem_of_getElem? (i := 51) rfl)
  have hl202 := X.2.2.2.2.2.2.1 (.fieldLinkNest "StationPiano" 202 "StationPiano$State" "from" "I" "StationPiano") (List.mem_of_getElem? (i := 59) rfl)
  have hl205 := X.2.2.2.2.2.2.1 (.fieldLinkNest "StationPiano" 205 "StationPiano$State" "to" "I" "StationPiano") (List.mem_of_getElem? (i := 61) rfl)
  have hl298 := X.2.2.2.2.2.2.1 (.fieldLinkNest "StationPiano" 298 "StationPiano$Station" "waits" "I" "StationPiano") (List.mem_of_getElem? (i := 44) rfl)
  have hl301 := X.2.2.2.2.2.2.1 (.fieldLinkNest "StationPiano" 301 "StationPiano$State" "paid" "I" "StationPiano") (List.mem_of_getElem? (i := 62) rfl)
  have hl308 := X.2.2.2.2.2.2.1 (.fieldLinkNest "StationPiano" 308 "StationPiano$Week" "length" "I" "StationPiano") (List.mem_of_getElem? (i := 67) rfl)
  have hl309 := X.2.2.2.2.2.2.1 (.fieldLinkNest "StationPiano" 309 "StationPiano$Clues" "length" "I" "StationPiano") (List.mem_of_getElem? (i := 68) rfl)
  unfold f_X11_count at h
  refine r_iload_n X dX11_count_0 rfl 1 rfl ?_
  by_cases c1_0 : p1 = (0)
  · have h := ite_p c1_0 h
    refine r_tin (off := 71) (tgt := 72) X dX11_count_1 (by rw [c1_0]; decide) (by rw [c1_0]; decide) (by rw [c1_0]; rfl) (by decide) ?_
    refine r_aload_n X dX11_count_72 rfl 0 rfl ?_
    refine r_getR X 7 (k := 2) (Lp_N e0 rfl) e0 rfl (by decide) ui_11 (by decide) uw2_185 rfl h dX11_count_73 (fun q1 eq1 h => ?_)
    refine r_getIN X (k := 6) (Lp_N eq1 rfl) eq1 rfl (by decide) ui_7 (by decide) hl148 rfl dX11_count_76 ?_
    exact r_iret2 X rfl dX11_count_79 h
  have h := ite_n c1_0 h
  by_cases c1_1 : p1 = (1)
  · have h := ite_p c1_1 h
    refine r_tin (off := 79) (tgt := 80) X dX11_count_1 (by rw [c1_1]; decide) (by rw [c1_1]; decide) (by rw [c1_1]; rfl) (by decide) ?_
    refine r_aload_n X dX11_count_80 rfl 0 rfl ?_
    refine r_getR X 7 (k := 2) (Lp_N e0 rfl) e0 rfl (by decide) ui_11 (by decide) uw2_185 rfl h dX11_count_81 (fun q2 eq2 h => ?_)
    refine r_getIN X (k := 7) (Lp_N eq2 rfl) eq2 rfl (by decide) ui_7 (by decide) hl173 rfl dX11_count_84 ?_
    exact r_iret2 X rfl dX11_count_87 h
  have h := ite_n c1_1 h
  by_cases c1_2 : p1 = (2)
  · have h := ite_p c1_2 h
    refine r_tin (off := 87) (tgt := 88) X dX11_count_1 (by rw [c1_2]; decide) (by rw [c1_2]; decide) (by rw [c1_2]; rfl) (by decide) ?_
    refine r_aload_n X dX11_count_88 rfl 0 rfl ?_
    refine r_getR X 7 (k := 2) (Lp_N e0 rfl) e0 rfl (by decide) ui_11 (by decide) uw2_185 rfl h dX11_count_89 (fun q3 eq3 h => ?_)
    refine r_getIN X (k := 8) (Lp_N eq3 rfl) eq3 rfl (by decide) ui_7 (by decide) hl298 rfl dX11_count_92 ?_
    exact r_iret2 X rfl dX11_count_95 h
  have h := ite_n c1_2 h
  by_cases c1_3 : p1 = (3)
  · have h := ite_p c1_3 h
    refine r_tin (off := 95) (tgt := 96) X dX11_count_1 (by rw [c1_3]; decide) (by rw [c1_3]; decide) (by rw [c1_3]; rfl) (by decide) ?_
    refine r_aload_n X dX11_count_96 rfl 0 rfl ?_
    refine r_getF X (k := 4) (of := 64) rfl (Lp_N e0 rfl) e0 rfl (by decide) ui_11 (by decide) uw2_187 rfl dX11_count_97 ?_
    refine r_getIN X (k := 2) (Lp_N (Lp_11_4 e0) rfl) (Lp_11_4 e0) rfl (by decide) ui_6 (by decide) hl138 rfl dX11_count_100 ?_
    exact r_iret2 X rfl dX11_count_103 h
  have h := ite_n c1_3 h
  by_cases c1_4 : p1 = (4)
  · have h := ite_p c1_4 h
    refine r_tin (off := 103) (tgt := 104) X dX11_count_1 (by rw [c1_4]; decide) (by rw [c1_4]; decide) (by rw [c1_4]; rfl) (by decide) ?_
    refine r_aload_n X dX11_count_104 rfl 0 rfl ?_
    refine r_getF X (k := 4) (of := 64) rfl (Lp_N e0 rfl) e0 rfl (by decide) ui_11 (by decide) uw2_187 rfl dX11_count_105 ?_
    refine r_getIN X (k := 3) (Lp_N (Lp_11_4 e0) rfl) (Lp_11_4 e0) rfl (by decide) ui_6 (by decide) hl202 rfl dX11_count_108 ?_
    exact r_iret2 X rfl dX11_count_111 h
  have h := ite_n c1_4 h
  by_cases c1_5 : p1 = (5)
  · have h := ite_p c1_5 h
    refine r_tin (off := 111) (tgt := 112) X dX11_count_1 (by rw [c1_5]; decide) (by rw [c1_5]; decide) (by rw [c1_5]; rfl) (by decide) ?_
    refine r_aload_n X dX11_count_112 rfl 0 rfl ?_
    refine r_getF X (k := 4) (of := 64) rfl (Lp_N e0 rfl) e0 rfl (by decide) ui_11 (by decide) uw2_187 rfl dX11_count_113 ?_
    refine r_getIN X (k := 4) (Lp_N (Lp_11_4 e0) rfl) (Lp_11_4 e0) rfl (by decide) ui_6 (by decide) hl205 rfl dX11_count_116 ?_
    exact r_iret2 X rfl dX11_count_119 h
  have h := ite_n c1_5 h
  by_cases c1_6 : p1 = (6)
  · have h := ite_p c1_6 h
    refine r_tin (off := 119) (tgt := 120) X dX11_count_1 (by rw [c1_6]; decide) (by rw [c1_6]; decide) (by rw [c1_6]; rfl) (by decide) ?_
    refine r_aload_n X dX11_count_120 rfl 0 rfl ?_
    refine r_getR X 7 (k := 2) (Lp_N e0 rfl) e0 rfl (by decide) ui_11 (by decide) uw2_185 rfl h dX11_count_121 (fun q4 eq4 h => ?_)
    refine r_getIN X (k := 12) (Lp_N eq4 rfl) eq4 rfl (by decide) ui_7 (by decide) hl193 rfl dX11_count_124 ?_
    exact r_iret2 X rfl dX11_count_127 h
  have h := ite_n c1_6 h
  by_cases c1_7 : p1 = (7)
  · have h := ite_p c1_7 h
    refine r_tin (off := 127) (tgt := 128) X dX11_count_1 (by rw [c1_7]; decide) (by rw [c1_7]; decide) (by rw [c1_7]; rfl) (by decide) ?_
    refine r_aload_n X dX11_count_128 rfl 0 rfl ?_
    refine r_getF X (k := 4) (of := 64) rfl (Lp_N e0 rfl) e0 rfl (by decide) ui_11 (by decide) uw2_187 rfl dX11_count_129 ?_
    refine r_getIN X (k := 1) (Lp_N (Lp_11_4 e0) rfl) (Lp_11_4 e0) rfl (by decide) ui_6 (by decide) hl187 rfl dX11_count_132 ?_
    exact r_iret2 X rfl dX11_count_135 h
  have h := ite_n c1_7 h
  by_cases c1_8 : p1 = (8)
  · have h := ite_p c1_8 h
    refine r_tin (off := 135) (tgt := 136) X dX11_count_1 (by rw [c1_8]; decide) (by rw [c1_8]; decide) (by rw [c1_8]; rfl) (by decide) ?_
    refine r_aload_n X dX11_count_136 rfl 0 rfl ?_
    refine r_getF X (k := 4) (of := 64) rfl (Lp_N e0 rfl) e0 rfl (by decide) ui_11 (by decide) uw2_187 rfl dX11_count_137 ?_
    refine r_getIN X (k := 5) (Lp_N (Lp_11_4 e0) rfl) (Lp_11_4 e0) rfl (by decide) ui_6 (by decide) hl301 rfl dX11_count_140 ?_
    exact r_iret2 X rfl dX11_count_143 h
  have h := ite_n c1_8 h
  by_cases c1_9 : p1 = (9)
  · have h := ite_p c1_9 h
    refine r_tin (off := 143) (tgt := 144) X dX11_count_1 (by rw [c1_9]; decide) (by rw [c1_9]; decide) (by rw [c1_9]; rfl) (by decide) ?_
    refine r_aload_n X dX11_count_144 rfl 0 rfl ?_
    refine r_getF X (k := 4) (of := 64) rfl (Lp_N e0 rfl) e0 rfl (by decide) ui_11 (by decide) uw2_187 rfl dX11_count_145 ?_
    refine r_cVI (As := []) (rest := []) X (fun r9 m9 hg => k_X6_goneKeys (Lp_11_4 e0) hg) h (Lp_N (Lp_11_4 e0) rfl) (Lp_11_4 e0) rfl (by decide) uw5_50 uw5_51 uw5_52 uw1_7 uw5_53 rfl rfl dd_X6_goneKeys ⟨Nat.le_of_ble_eq_true rfl, Nat.le_of_ble_eq_true rfl⟩ rfl (Nat.le_of_ble_eq_true rfl) dX11_count_148 rfl (fun x6 m5 h => ?_)
    exact r_iret2 X rfl dX11_count_151 h
  have h := ite_n c1_9 h
  by_cases c1_10 : p1 = (10)
  · have h := ite_p c1_10 h
    refine r_tin (off := 151) (tgt := 152) X dX11_count_1 (by rw [c1_10]; decide) (by rw [c1_10]; decide) (by rw [c1_10]; rfl) (by decide) ?_
    refine r_aload_n X dX11_count_152 rfl 0 rfl ?_
    refine r_getF X (k := 6) (of := 68) rfl (Lp_N e0 rfl) e0 rfl (by decide) ui_11 (by decide) uw2_189 rfl dX11_count_153 ?_
    refine r_getIN X (k := 3) (Lp_N (Lp_11_6 e0) rfl) (Lp_11_6 e0) rfl (by decide) ui_10 (by decide) hl308 rfl dX11_count_156 ?_
    exact r_iret2 X rfl dX11_count_159 h
  have h := ite_n c1_10 h
  by_cases c1_11 : p1 = (11)
  · have h := ite_p c1_11 h
    refine r_tin (off := 159) (tgt := 160) X dX11_count_1 (by rw [c1_11]; decide) (by rw [c1_11]; decide) (by rw [c1_11]; rfl) (by decide) ?_
    refine r_aload_n X dX11_count_160 rfl 0 rfl ?_
    refine r_getF X (k := 8) (of := 76) rfl (Lp_N e0 rfl) e0 rfl (by decide) ui_11 (by decide) uw2_191 rfl dX11_count_161 ?_
    refine r_getIN X (k := 2) (Lp_N (Lp_11_8 e0) rfl) (Lp_11_8 e0) rfl (by decide) ui_0 (by decide) hl309 rfl dX11_count_164 ?_
    exact r_iret2 X rfl dX11_count_167 h
  have h := ite_n c1_11 h
  by_cases c1_12 : p1 = (12)
  · have h := ite_p c1_12 h
    refine r_tin (off := 167) (tgt := 168) X dX11_count_1 (by rw [c1_12]; decide) (by rw [c1_12]; decide) (by rw [c1_12]; rfl) (by decide) ?_
    refine r_aload_n X dX11_count_168 rfl 0 rfl ?_
    refine r_getI X (k := 14) (Lp_N e0 rfl) e0 rfl (by decide) ui_11 (by decide) uw2_197 rfl dX11_count_169 ?_
    exact r_iret2 X rfl dX11_count_172 h
  have h := ite_n c1_12 h
  by_cases c1_13 : p1 = (13)
  · have h := ite_p c1_13 h
    refine r_tin (off := 172) (tgt := 173) X dX11_count_1 (by rw [c1_13]; decide) (by rw [c1_13]; decide) (by rw [c1_13]; rfl) (by decide) ?_
    refine r_aload_n X dX11_count_173 rfl 0 rfl ?_
    refine r_getF X (k := 0) (of := 1) rfl (Lp_N e0 rfl) e0 rfl (by decide) ui_11 (by decide) uw2_183 rfl dX11_count_174 ?_
    refine r_getIN X (k := 1) (Lp_N (Lp_11_0 e0) rfl) (Lp_11_0 e0) rfl (by decide) ui_9 (by decide) hl97 rfl dX11_count_177 ?_
    exact r_iret2 X rfl dX11_count_180 h
  have h := ite_n c1_13 h
  refine r_tout (tgt := 181) X dX11_count_1 (tsw_out 14 (fun j hj => by rcases (show j = 0 ∨ j = 1 ∨ j = 2 ∨ j = 3 ∨ j = 4 ∨ j = 5 ∨ j = 6 ∨ j = 7 ∨ j = 8 ∨ j = 9 ∨ j = 10 ∨ j = 11 ∨ j = 12 ∨ j = 13 by omega) with rfl | rfl | rfl | rfl | rfl | rfl | rfl | rfl | rfl | rfl | rfl | rfl | rfl | rfl <;> assumption) (by decide)) (by decide) ?_
  refine r_iconst (v := (-1)) X dX11_count_181 (by decide) ?_
  exact r_iret2 X rfl dX11_count_182 h
