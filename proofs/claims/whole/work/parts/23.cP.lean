noncomputable def f_X9_rewind (h0 : Nat) (mem : Mm) : Option Mm :=
  bnd (sI mem h0 4 ((0))) fun m1 => bdV (f_X9_advance h0 m1) fun m2 => some m2
theorem dd_X9_rewind : yX9_rewind.cls = RX9 ∧ yX9_rewind.cls ≠ "java/lang/invoke/MethodHandle" ∧ yX9_rewind.cls ≠ "java/lang/invoke/VarHandle" ∧ (parseMethodDescriptor yX9_rewind.desc).map (fun d => d.parameters.length) = some 0 := by decide +kernel
set_option maxHeartbeats 4000000 in
set_option maxRecDepth 100000 in
theorem k_X9_rewind {l : Launch} {ad : Nat → Nat} {cy : Nat → ClassId} {dC : Nat → ClassId} {dI : Nat → Nat → Nat} {ks : (Nat → Nat) × (Nat → Nat)} {h0 : Nat} {mem : Mm} {mem2 : Mm} (e0 : Lp.1 h0 = 9) (h : f_X9_rewind h0 mem = some mem2) : CtV l Lp ad cy dC dI ks yX9_rewind cX9_rewind 1 none ({ frames := 6, cells := 0, slots := 0, locals := 131 }) [.ref (ad (h0))] mem mem2 := by
  refine CtV.of (cc := cX9_rewind) (maxL := 1) (ret := none) (own := RX9) rfl (by decide) (Nat.le_of_ble_eq_true rfl) ?_
  intro p e s m args below meth c A X
  have hts := X.2.2.2.2.1
  unfold f_X9_rewind at h
  refine r_aload_n X dX9_rewind_0 rfl 0 rfl ?_
  refine r_iconst (v := (0)) X dX9_rewind_1 (by decide) ?_
  refine r_putI X (k := 4) (Lp_N e0 rfl) e0 rfl (by decide) ui_9 (by decide) uw1_46 tyX9_ok nmX9 rfl rfl rfl dX9_rewind_2 ?_
  refine r_nmM h (fun m1 h => ?_)
  refine r_aload_n X dX9_rewind_5 rfl 0 rfl ?_
  refine r_cVV (As := []) (rest := []) X (fun m9 hg => k_X9_advance e0 hg) h (Lp_N e0 rfl) e0 rfl (by decide) uw3_23 uw3_24 uw3_25 uw1_2 uw3_26 rfl rfl dd_X9_advance ⟨Nat.le_of_ble_eq_true rfl, Nat.le_of_ble_eq_true rfl⟩ rfl (Nat.le_of_ble_eq_true rfl) dX9_rewind_6 rfl (fun m2 h => ?_)
  exact r_vret X rfl dX9_rewind_9 h
noncomputable def f_X5_readStation_B18 (h0 : Nat) (h1 : Nat) (k18 : Int32 → Mm → Option (Int32 × Mm)) (x4 : Int32) (m5 : Mm) : Option (Int32 × Mm) :=
  if ((1000)) < x4 then (some ((0), m5)) else (if (gI m5 (h0 - 2) 2) = ((101)) then (some ((0), m5)) else (bdI (f_X5_stationLine h0 h1 m5) fun x7 m6 => if ¬ x7 = 0 then (bnd (x4 + (1)) fun x8 => k18 x8 m6) else (some (gI m6 h0 2, m6))))
noncomputable def f_X5_readStation (h0 : Nat) (h1 : Nat) (mem : Mm) : Option (Int32 × Mm) :=
  bdV (f_X7_clear h1 mem) fun m1 => bnd (sI m1 h0 2 ((0))) fun m2 => bdV (f_X9_rewind (h0 - 2) m2) fun m3 => lop (fun _ _ => none) (f_X5_readStation_B18 h0 h1 ) 4000 ((0)) m3
theorem dd_X5_readStation : yX5_readStation.cls = RX5 ∧ yX5_readStation.cls ≠ "java/lang/invoke/MethodHandle" ∧ yX5_readStation.cls ≠ "java/lang/invoke/VarHandle" ∧ (parseMethodDescriptor yX5_readStation.desc).map (fun d => d.parameters.length) = some 1 := by decide +kernel
set_option maxHeartbeats 4000000 in
set_option maxRecDepth 100000 in
theorem k_X5_readStation {l : Launch} {ad : Nat → Nat} {cy : Nat → ClassId} {dC : Nat → ClassId} {dI : Nat → Nat → Nat} {ks : (Nat → Nat) × (Nat → Nat)} {h0 : Nat} {h1 : Nat} {mem : Mm} {r2 : Int32} {mem2 : Mm} (e0 : Lp.1 h0 = 5) (e1 : Lp.1 h1 = 7) (h : f_X5_readStation h0 h1 mem = some (r2, mem2)) : CtI l Lp ad cy dC dI ks yX5_readStation cX5_readStation 3 (some .int) ({ frames := 74, cells := 0, slots := 0, locals := 4048 }) [.ref (ad (h0)), .ref (ad (h1))] mem r2 mem2 := by
  refine CtI.of (cc := cX5_readStation) (maxL := 3) (ret := (some .int)) (own := RX5) rfl (by decide) (Nat.le_of_ble_eq_true rfl) ?_
  intro p e s m args below meth c A X
  have hts := X.2.2.2.2.1
  have hl29 := X.2.2.2.2.2.2.1 (.fieldLinkNest "StationPiano$Reader" 29 "StationPiano$Tape" "token" "I" "StationPiano") (List.mem_of_getElem? (i := 1) rfl)
  have hJ18 : ∀ (k18 : Int32 → Mm → Option (Int32 × Mm)) (hk18 : ∀ (x4 : Int32) (m5 : Mm), k18 x4 m5 = some (r2, mem2) → Jd p l e ({ frames := 74, cells := 0, slots := 0, locals := 4048 }) s m args below meth c 3 (MQ below (PsI Lp ad cy dC dI r2 mem2 A) args s 0 0 A) A dC dI cy Lp ad m5 18 [(0, .ref (ad (h0))), (1, .ref (ad (h1))), (2, .int (x4))] []) (x4 : Int32) (m5 : Mm), f_X5_readStation_B18 h0 h1 k18 x4 m5 = some (r2, mem2) → Jd p l e ({ frames := 74, cells := 0, slots := 0, locals := 4048 }) s m args below meth c 3 (MQ below (PsI Lp ad cy dC dI r2 mem2 A) args s 0 0 A) A dC dI cy Lp ad m5 18 [(0, .ref (ad (h0))), (1, .ref (ad (h1))), (2, .int (x4))] [] := by
    intro k18 hk18 x4 m5 h
    unfold f_X5_readStation_B18 at h
    refine r_iload_n X dX5_readStation_18 rfl 2 rfl ?_
    refine r_sipush (v := (1000)) X dX5_readStation_19 (by decide) ?_
    refine r_icmp_gt (tgt := 56) X dX5_readStation_22 (by decide) h (fun h => ?_) (fun h => ?_)
    · refine r_iconst (v := (0)) X dX5_readStation_56 (by decide) ?_
      exact r_iret2 X rfl dX5_readStation_57 h
    · refine r_aload_n X dX5_readStation_25 rfl 0 rfl ?_
      refine r_getB X (k := 0) (of := 2) rfl (Lp_N e0 rfl) e0 rfl (by decide) ui_5 (by decide) uw1_73 rfl dX5_readStation_26 ?_
      refine r_getIN X (k := 2) (Lp_N (Lp_5_0 e0) rfl) (Lp_5_0 e0) rfl (by decide) ui_9 (by decide) hl29 rfl dX5_readStation_29 ?_
      refine r_bipush (v := (101)) X dX5_readStation_32 (by decide) ?_
      refine r_icmp_eq (tgt := 56) X dX5_readStation_34 (by decide) h (fun h => ?_) (fun h => ?_)
      · refine r_iconst (v := (0)) X dX5_readStation_56 (by decide) ?_
        exact r_iret2 X rfl dX5_readStation_57 h
      · refine r_aload_n X dX5_readStation_37 rfl 0 rfl ?_
        refine r_aload_n X dX5_readStation_38 rfl 1 rfl ?_
        refine r_cVI (As := [.ref (ad (h1))]) (rest := []) X (fun r9 m9 hg => k_X5_stationLine e0 e1 hg) h (Lp_N e0 rfl) e0 rfl (by decide) uw3_144 uw3_146 us1_2 uw1_3 uw3_147 rfl rfl dd_X5_stationLine ⟨Nat.le_of_ble_eq_true rfl, Nat.le_of_ble_eq_true rfl⟩ rfl (Nat.le_of_ble_eq_true rfl) dX5_readStation_39 rfl (fun x7 m6 h => ?_)
        refine r_if_ne (tgt := 50) X dX5_readStation_42 (by decide) h (fun h => ?_) (fun h => ?_)
        · refine r_inc h (fun x8 e9 h => ?_)
          refine r_iinc (v := x8) (lv2 := [(2, .int (x8)), (0, .ref (ad (h0))), (1, .ref (ad (h1)))]) X dX5_readStation_50 2 rfl (by rw [e9]; rfl) (by decide) rfl ?_
          refine r_goto (tgt := 18) X dX5_readStation_53 (by decide) ?_
          exact r_sub [1, 2, 0] rfl (hk18 x8 m6 h)
        · refine r_aload_n X dX5_readStation_45 rfl 0 rfl ?_
          refine r_getI X (k := 2) (Lp_N e0 rfl) e0 rfl (by decide) ui_5 (by decide) uw1_75 rfl dX5_readStation_46 ?_
          exact r_iret2 X rfl dX5_readStation_49 h
  have hL18 : ∀ (n : Nat), ∀ (x4 : Int32) (m5 : Mm), lop (fun _ _ => none) (f_X5_readStation_B18 h0 h1 ) n x4 m5 = some (r2, mem2) → Jd p l e ({ frames := 74, cells := 0, slots := 0, locals := 4048 }) s m args below meth c 3 (MQ below (PsI Lp ad cy dC dI r2 mem2 A) args s 0 0 A) A dC dI cy Lp ad m5 18 [(0, .ref (ad (h0))), (1, .ref (ad (h1))), (2, .int (x4))] [] := by
    intro  n
    induction n with
    | zero => intro _ _ h; cases h
    | succ n ih => intro a0 a1 h; exact hJ18  _ ih a0 a1 h
  unfold f_X5_readStation at h
  refine r_aload_n X dX5_readStation_0 rfl 1 rfl ?_
  refine r_cVV (As := []) (rest := []) X (fun m9 hg => k_X7_clear e1 hg) h (Lp_N e1 rfl) e1 rfl (by decide) uw3_15 uw3_16 uw3_17 uw1_4 uw3_18 rfl rfl dd_X7_clear ⟨Nat.le_of_ble_eq_true rfl, Nat.le_of_ble_eq_true rfl⟩ rfl (Nat.le_of_ble_eq_true rfl) dX5_readStation_1 rfl (fun m1 h => ?_)
  refine r_aload_n X dX5_readStation_4 rfl 0 rfl ?_
  refine r_iconst (v := (0)) X dX5_readStation_5 (by decide) ?_
  refine r_putI X (k := 2) (Lp_N e0 rfl) e0 rfl (by decide) ui_5 (by decide) uw1_75 tyX5_ok nmX5 rfl rfl rfl dX5_readStation_6 ?_
  refine r_nmM h (fun m2 h => ?_)
  refine r_aload_n X dX5_readStation_9 rfl 0 rfl ?_
  refine r_getB X (k := 0) (of := 2) rfl (Lp_N e0 rfl) e0 rfl (by decide) ui_5 (by decide) uw1_73 rfl dX5_readStation_10 ?_
  refine r_cVV (As := []) (rest := []) X (fun m9 hg => k_X9_rewind (Lp_5_0 e0) hg) h (Lp_N (Lp_5_0 e0) rfl) (Lp_5_0 e0) rfl (by decide) uw3_19 uw3_20 uw3_21 uw1_2 uw3_22 rfl rfl dd_X9_rewind ⟨Nat.le_of_ble_eq_true rfl, Nat.le_of_ble_eq_true rfl⟩ rfl (Nat.le_of_ble_eq_true rfl) dX5_readStation_13 rfl (fun m3 h => ?_)
  refine r_iconst (v := (0)) X dX5_readStation_16 (by decide) ?_
  refine r_istore_n (lv2 := [(2, .int ((0))), (0, .ref (ad (h0))), (1, .ref (ad (h1)))]) X dX5_readStation_17 rfl (by decide) rfl ?_
  exact r_sub [1, 2, 0] rfl (hL18 4000 ((0)) m3 h)
noncomputable def f_X10_add (h0 : Nat) (p1 : Int32) (p2 : Int32) (p3 : Int32) (mem : Mm) : Option Mm :=
  if (gI mem h0 3) < 0 then (some mem) else (if ((40)) ≤ (gI mem h0 3) then (some mem) else (grd (inb (gI mem h0 3) (Lp.2.1 (h0 + 1))) (bnd (sI mem (h0 + 1) (gI mem h0 3).toNatClampNeg p1) fun m1 => grd (inb (gI m1 h0 3) (Lp.2.1 (h0 + 2))) (bnd (sI m1 (h0 + 2) (gI m1 h0 3).toNatClampNeg p2) fun m2 => grd (inb (gI m2 h0 3) (Lp.2.1 (h0 + 3))) (bnd (sI m2 (h0 + 3) (gI m2 h0 3).toNatClampNeg p3) fun m3 => bnd (sI m3 h0 3 ((gI m3 h0 3) + ((1)))) fun m4 => some m4)))))
theorem dd_X10_add : yX10_add.cls = RX10 ∧ yX10_add.cls ≠ "java/lang/invoke/MethodHandle" ∧ yX10_add.cls ≠ "java/lang/invoke/VarHandle" ∧ (parseMethodDescriptor yX10_add.desc).map (fun d => d.parameters.length) = some 3 := by decide +kernel
set_option maxHeartbeats 4000000 in
set_option maxRecDepth 100000 in
theorem k_X10_add {l : Launch} {ad : Nat → Nat} {cy : Nat → ClassId} {dC : Nat → ClassId} {dI : Nat → Nat → Nat} {ks : (Nat → Nat) × (Nat → Nat)} {h0 : Nat} {p1 : Int32} {p2 : Int32} {p3 : Int32} {mem : Mm} {mem2 : Mm} (e0 : Lp.1 h0 = 10) (h : f_X10_add h0 p1 p2 p3 mem = some mem2) : CtV l Lp ad cy dC dI ks yX10_add cX10_add 4 none ({ frames := 0, cells := 0, slots := 0, locals := 0 }) [.ref (ad (h0)), .int (p1), .int (p2), .int (p3)] mem mem2 := by
  refine CtV.of (cc := cX10_add) (maxL := 4) (ret := none) (own := RX10) rfl (by decide) (Nat.le_of_ble_eq_true rfl) ?_
  intro p e s m args below meth c A X
  have hts := X.2.2.2.2.1
  unfold f_X10_add at h
  refine r_aload_n X dX10_add_0 rfl 0 rfl ?_
  refine r_getI X (k := 3) (Lp_N e0 rfl) e0 rfl (by decide) ui_10 (by decide) uw2_44 rfl dX10_add_1 ?_
  refine r_if_lt (tgt := 56) X dX10_add_4 (by decide) h (fun h => ?_) (fun h => ?_)
  · exact r_vret X rfl dX10_add_56 h
  · refine r_aload_n X dX10_add_7 rfl 0 rfl ?_
    refine r_getI X (k := 3) (Lp_N e0 rfl) e0 rfl (by decide) ui_10 (by decide) uw2_44 rfl dX10_add_8 ?_
    refine r_bipush (v := (40)) X dX10_add_11 (by decide) ?_
    refine r_icmp_ge (tgt := 56) X dX10_add_13 (by decide) h (fun h => ?_) (fun h => ?_)
    · exact r_vret X rfl dX10_add_56 h
    · refine r_aload_n X dX10_add_16 rfl 0 rfl ?_
      refine r_getF X (k := 0) (of := 1) rfl (Lp_N e0 rfl) e0 rfl (by decide) ui_10 (by decide) uw2_38 rfl dX10_add_17 ?_
      refine r_aload_n X dX10_add_20 rfl 0 rfl ?_
      refine r_getI X (k := 3) (Lp_N e0 rfl) e0 rfl (by decide) ui_10 (by decide) uw2_44 rfl dX10_add_21 ?_
      refine r_iload_n X dX10_add_24 rfl 1 rfl ?_
      refine r_iast X (Lp_N (Lp_10_0 e0) rfl) (Lp_10_0 e0) h dX10_add_25 (fun h => ?_)
      refine r_nmM h (fun m1 h => ?_)
      refine r_aload_n X dX10_add_26 rfl 0 rfl ?_
      refine r_getF X (k := 1) (of := 2) rfl (Lp_N e0 rfl) e0 rfl (by decide) ui_10 (by decide) uw2_40 rfl dX10_add_27 ?_
      refine r_aload_n X dX10_add_30 rfl 0 rfl ?_
      refine r_getI X (k := 3) (Lp_N e0 rfl) e0 rfl (by decide) ui_10 (by decide) uw2_44 rfl dX10_add_31 ?_
      refine r_iload_n X dX10_add_34 rfl 2 rfl ?_
      refine r_iast X (Lp_N (Lp_10_1 e0) rfl) (Lp_10_1 e0) h dX10_add_35 (fun h => ?_)
      refine r_nmM h (fun m2 h => ?_)
      refine r_aload_n X dX10_add_36 rfl 0 rfl ?_
      refine r_getF X (k := 2) (of := 3) rfl (Lp_N e0 rfl) e0 rfl (by decide) ui_10 (by decide) uw2_42 rfl dX10_add_37 ?_
      refine r_aload_n X dX10_add_40 rfl 0 rfl ?_
      refine r_getI X (k := 3) (Lp_N e0 rfl) e0 rfl (by decide) ui_10 (by decide) uw2_44 rfl dX10_add_41 ?_
      refine r_iload_n X dX10_add_44 rfl 3 rfl ?_
      refine r_iast X (Lp_N (Lp_10_2 e0) rfl) (Lp_10_2 e0) h dX10_add_45 (fun h => ?_)
      refine r_nmM h (fun m3 h => ?_)
      refine r_aload_n X dX10_add_46 rfl 0 rfl ?_
      refine r_dup X dX10_add_47 rfl ?_
      refine r_getI X (k := 3) (Lp_N e0 rfl) e0 rfl (by decide) ui_10 (by decide) uw2_44 rfl dX10_add_48 ?_
      refine r_iconst (v := (1)) X dX10_add_51 (by decide) ?_
      refine r_iadd X dX10_add_52 ?_
      refine r_putI X (k := 3) (Lp_N e0 rfl) e0 rfl (by decide) ui_10 (by decide) uw2_44 tyX10_ok nmX10 rfl rfl rfl dX10_add_53 ?_
      refine r_nmM h (fun m4 h => ?_)
      exact r_vret X rfl dX10_add_56 h
noncomputable def f_X5_weekLine_J136 (h0 : Nat) (h1 : Nat) (x18 : Int32) (x19 : Int32) (x20 : Int32) (m21 : Mm) : Option (Int32 × Mm) :=
  bdV (f_X10_add h1 x18 x19 x20 m21) fun m22 => bdI (f_X5_take h0 ((59)) m22) fun x24 m23 => grd (bok x24) (some (x24, m23))
noncomputable def f_X5_weekLine_J38 (h0 : Nat) (h1 : Nat) (x4 : Int32) (m5 : Mm) : Option (Int32 × Mm) :=
  if (gI m5 h1 3) < ((40)) then (bdV (f_X9_advance (h0 - 2) m5) fun m6 => if ¬ x4 = ((8)) then (if ¬ x4 = ((9)) then (f_X5_weekLine_J136 h0 h1 x4 ((0)) ((0)) m6) else (bdI (f_X5_takeNumber h0 ((0)) ((59)) m6) fun x8 m7 => if ¬ x8 = 0 then (bnd (gI m7 h0 1) fun x9 => bdI (f_X5_takeValue h0 ((10)) (x9 + ((1))) ((60)) m7) fun x11 m10 => if ¬ x11 = 0 then (bnd (gI m10 h0 1) fun x12 => f_X5_weekLine_J136 h0 h1 x4 x9 x12 m10) else (grd (bok ((0))) (some ((0), m10)))) else (grd (bok ((0))) (some ((0), m7))))) else (bdI (f_X5_takeNumber h0 ((1)) ((30)) m6) fun x14 m13 => if ¬ x14 = 0 then (bnd (gI m13 h0 1) fun x15 => f_X5_weekLine_J136 h0 h1 x4 x15 ((0)) m13) else (grd (bok ((0))) (some ((0), m13))))) else (bdI (f_X5_wrong h0 ((5)) m5) fun x17 m16 => grd (bok x17) (some (x17, m16)))
noncomputable def f_X5_weekLine (h0 : Nat) (h1 : Nat) (mem : Mm) : Option (Int32 × Mm) :=
  bnd (gI mem (h0 - 2) 2) fun x1 => if x1 = ((14)) then (f_X5_weekLine_J38 h0 h1 x1 mem) else (if x1 = ((15)) then (f_X5_weekLine_J38 h0 h1 x1 mem) else (if x1 = ((8)) then (f_X5_weekLine_J38 h0 h1 x1 mem) else (if x1 = ((9)) then (f_X5_weekLine_J38 h0 h1 x1 mem) else (bdI (f_X5_wrong h0 ((1)) mem) fun x3 m2 => grd (bok x3) (some (x3, m2))))))
theorem dd_X5_weekLine : yX5_weekLine.cls = RX5 ∧ yX5_weekLine.cls ≠ "java/lang/invoke/MethodHandle" ∧ yX5_weekLine.cls ≠ "java/lang/invoke/VarHandle" ∧ (parseMethodDescriptor yX5_weekLine.desc).map (fun d => d.parameters.length) = some 1 := by decide +kernel
set_option maxHeartbeats 4000000 in
set_option maxRecDepth 100000 in
theorem k_X5_weekLine {l : Launch} {ad : Nat → Nat} {cy : Nat → ClassId} {dC : Nat → ClassId} {dI : Nat → Nat → Nat} {ks : (Nat → Nat) × (Nat → Nat)} {h0 : Nat} {h1 : Nat} {mem : Mm} {r2 : Int32} {mem2 : Mm} (e0 : Lp.1 h0 = 5) (e1 : Lp.1 h1 = 10) (h : f_X5_weekLine h0 h1 mem = some (r2, mem2)) : CtI l Lp ad cy dC dI ks yX5_weekLine cX5_weekLine 5 (some .boolean) ({ frames := 8, cells := 0, slots := 0, locals := 176 }) [.ref (ad (h0)), .ref (ad (h1))] mem r2 mem2 := by
  refine CtI.of (cc := cX5_weekLine) (maxL := 5) (ret := (some .boolean)) (own := RX5) rfl (by decide) (Nat.le_of_ble_eq_true rfl) ?_
  intro p e s m args below meth c A X
  have hts := X.2.2.2.2.1
  have hl29 := X.2.2.2.2.2.2.1 (.fieldLinkNest "StationPiano$Reader" 29 "StationPiano$Tape" "token" "I" "StationPiano") (List.mem_of_getElem? (i := 1) rfl)
  have hl36 := X.2.2.2.2.2.2.1 (.fieldLinkNest "StationPiano$Reader" 36 "StationPiano$Week" "length" "I" "StationPiano") (List.mem_of_getElem? (i := 66) rfl)
  have hJ136 : ∀ (x18 : Int32) (x19 : Int32) (x20 : Int32) (m21 : Mm), f_X5_weekLine_J136 h0 h1 x18 x19 x20 m21 = some (r2, mem2) → Jd p l e ({ frames := 8, cells := 0, slots := 0, locals := 176 }) s m args below meth c 5 (MQ below (PsI Lp ad cy dC dI r2 mem2 A) args s 0 0 A) A dC dI cy Lp ad m21 136 [(0, .ref (ad (h0))), (1, .ref (ad (h1))), (2, .int (x18)), (3, .int (x19)), (4, .int (x20))] [] := by
    intro x18 x19 x20 m21 h
    unfold f_X5_weekLine_J136 at h
    refine r_aload_n X dX5_weekLine_136 rfl 1 rfl ?_
    refine r_iload_n X dX5_weekLine_137 rfl 2 rfl ?_
    refine r_iload_n X dX5_weekLine_138 rfl 3 rfl ?_
    refine r_iload X dX5_weekLine_139 4 rfl ?_
    refine r_cVV (As := [.int (x18), .int (x19), .int (x20)]) (rest := []) X (fun m9 hg => k_X10_add e1 hg) h (Lp_N e1 rfl) e1 rfl (by decide) uw4_26 uw4_27 uw4_28 uw1_8 uw4_29 rfl rfl dd_X10_add ⟨Nat.le_of_ble_eq_true rfl, Nat.le_of_ble_eq_true rfl⟩ rfl (Nat.le_of_ble_eq_true rfl) dX5_weekLine_141 rfl (fun m22 h => ?_)
    refine r_aload_n X dX5_weekLine_144 rfl 0 rfl ?_
    refine r_bipush (v := (59)) X dX5_weekLine_145 (by decide) ?_
    refine r_cVI (As := [.int ((59))]) (rest := []) X (fun r9 m9 hg => k_X5_take e0 hg) h (Lp_N e0 rfl) e0 rfl (by decide) uw3_181 uw3_183 us1_9 uw1_3 uw3_184 rfl rfl dd_X5_take ⟨Nat.le_of_ble_eq_true rfl, Nat.le_of_ble_eq_true rfl⟩ rfl (Nat.le_of_ble_eq_true rfl) dX5_weekLine_147 rfl (fun x24 m23 h => ?_)
    exact r_zret2 X rfl dX5_weekLine_150 h
  have hJ38 : ∀ (x4 : Int32) (m5 : Mm), f_X5_weekLine_J38 h0 h1 x4 m5 = some (r2, mem2) → Jd p l e ({ frames := 8, cells := 0, slots := 0, locals := 176 }) s m args below meth c 5 (MQ below (PsI Lp ad cy dC dI r2 mem2 A) args s 0 0 A) A dC dI cy Lp ad m5 38 [(0, .ref (ad (h0))), (1, .ref (ad (h1))), (2, .int (x4))] [] := by
    intro x4 m5 h
    unfold f_X5_weekLine_J38 at h
    refine r_aload_n X dX5_weekLine_38 rfl 1 rfl ?_
    refine r_getIN X (k := 3) (Lp_N e1 rfl) e1 rfl (by decide) ui_10 (by decide) hl36 rfl dX5_weekLine_39 ?_
    refine r_bipush (v := (40)) X dX5_weekLine_42 (by decide) ?_
    refine r_icmp_lt (tgt := 53) X dX5_weekLine_44 (by decide) h (fun h => ?_) (fun h => ?_)
    · refine r_iconst (v := (0)) X dX5_weekLine_53 (by decide) ?_
      refine r_istore_n (lv2 := [(3, .int ((0))), (0, .ref (ad (h0))), (1, .ref (ad (h1))), (2, .int (x4))]) X dX5_weekLine_54 rfl (by decide) rfl ?_
      refine r_iconst (v := (0)) X dX5_weekLine_55 (by decide) ?_
      refine r_istore (lv2 := [(4, .int ((0))), (3, .int ((0))), (0, .ref (ad (h0))), (1, .ref (ad (h1))), (2, .int (x4))]) X dX5_weekLine_56 (by decide) rfl ?_
      refine r_aload_n X dX5_weekLine_58 rfl 2 rfl ?_
      refine r_getB X (k := 0) (of := 2) rfl (Lp_N e0 rfl) e0 rfl (by decide) ui_5 (by decide) uw1_73 rfl dX5_weekLine_59 ?_
      refine r_cVV (As := []) (rest := []) X (fun m9 hg => k_X9_advance (Lp_5_0 e0) hg) h (Lp_N (Lp_5_0 e0) rfl) (Lp_5_0 e0) rfl (by decide) uw3_156 uw3_24 uw3_25 uw1_2 uw3_26 rfl rfl dd_X9_advance ⟨Nat.le_of_ble_eq_true rfl, Nat.le_of_ble_eq_true rfl⟩ rfl (Nat.le_of_ble_eq_true rfl) dX5_weekLine_62 rfl (fun m6 h => ?_)
      refine r_iload_n X dX5_weekLine_65 rfl 4 rfl ?_
      refine r_bipush (v := (8)) X dX5_weekLine_66 (by decide) ?_
      refine r_icmp_ne (tgt := 91) X dX5_weekLine_68 (by decide) h (fun h => ?_) (fun h => ?_)
      · refine r_iload_n X dX5_weekLine_91 rfl 4 rfl ?_
        refine r_bipush (v := (9)) X dX5_weekLine_92 (by decide) ?_
        refine r_icmp_ne (tgt := 136) X dX5_weekLine_94 (by decide) h (fun h => ?_) (fun h => ?_)
        · exact r_sub [2, 3, 4, 1, 0] rfl (hJ136 x4 ((0)) ((0)) m6 h)
        · refine r_aload_n X dX5_weekLine_97 rfl 2 rfl ?_
          refine r_iconst (v := (0)) X dX5_weekLine_98 (by decide) ?_
          refine r_bipush (v := (59)) X dX5_weekLine_99 (by decide) ?_
          refine r_cVI (As := [.int ((0)), .int ((59))]) (rest := []) X (fun r9 m9 hg => k_X5_takeNumber e0 hg) h (Lp_N e0 rfl) e0 rfl (by decide) uw3_177 uw3_179 us1_8 uw1_3 uw3_180 rfl rfl dd_X5_takeNumber ⟨Nat.le_of_ble_eq_true rfl, Nat.le_of_ble_eq_true rfl⟩ rfl (Nat.le_of_ble_eq_true rfl) dX5_weekLine_101 rfl (fun x8 m7 h => ?_)
          refine r_if_ne (tgt := 109) X dX5_weekLine_104 (by decide) h (fun h => ?_) (fun h => ?_)
          · refine r_aload_n X dX5_weekLine_109 rfl 2 rfl ?_
            refine r_getI X (k := 1) (Lp_N e0 rfl) e0 rfl (by decide) ui_5 (by decide) uw1_74 rfl dX5_weekLine_110 ?_
            refine r_nmI h (fun x9 h => ?_)
            refine r_istore_n (lv2 := [(3, .int (x9)), (4, .int ((0))), (0, .ref (ad (h0))), (1, .ref (ad (h1))), (2, .int (x4))]) X dX5_weekLine_113 rfl (by decide) rfl ?_
            refine r_aload_n X dX5_weekLine_114 rfl 2 rfl ?_
            refine r_bipush (v := (10)) X dX5_weekLine_115 (by decide) ?_
            refine r_iload_n X dX5_weekLine_117 rfl 0 rfl ?_
            refine r_iconst (v := (1)) X dX5_weekLine_118 (by decide) ?_
            refine r_iadd X dX5_weekLine_119 ?_
            refine r_bipush (v := (60)) X dX5_weekLine_120 (by decide) ?_
            refine r_cVI (As := [.int ((10)), .int (x9 + ((1))), .int ((60))]) (rest := []) X (fun r9 m9 hg => k_X5_takeValue e0 hg) h (Lp_N e0 rfl) e0 rfl (by decide) uw3_203 uw3_205 us1_13 uw1_3 uw3_206 rfl rfl dd_X5_takeValue ⟨Nat.le_of_ble_eq_true rfl, Nat.le_of_ble_eq_true rfl⟩ rfl (Nat.le_of_ble_eq_true rfl) dX5_weekLine_122 rfl (fun x11 m10 h => ?_)
            refine r_if_ne (tgt := 130) X dX5_weekLine_125 (by decide) h (fun h => ?_) (fun h => ?_)
            · refine r_aload_n X dX5_weekLine_130 rfl 2 rfl ?_
              refine r_getI X (k := 1) (Lp_N e0 rfl) e0 rfl (by decide) ui_5 (by decide) uw1_74 rfl dX5_weekLine_131 ?_
              refine r_nmI h (fun x12 h => ?_)
              refine r_istore (lv2 := [(4, .int (x12)), (3, .int (x9)), (0, .ref (ad (h0))), (1, .ref (ad (h1))), (2, .int (x4))]) X dX5_weekLine_134 (by decide) rfl ?_
              exact r_sub [2, 3, 4, 1, 0] rfl (hJ136 x4 x9 x12 m10 h)
            · refine r_iconst (v := (0)) X dX5_weekLine_128 (by decide) ?_
              exact r_zret2 X rfl dX5_weekLine_129 h
          · refine r_iconst (v := (0)) X dX5_weekLine_107 (by decide) ?_
            exact r_zret2 X rfl dX5_weekLine_108 h
      · refine r_aload_n X dX5_weekLine_71 rfl 2 rfl ?_
        refine r_iconst (v := (1)) X dX5_weekLine_72 (by decide) ?_
        refine r_bipush (v := (30)) X dX5_weekLine_73 (by decide) ?_
        refine r_cVI (As := [.int ((1)), .int ((30))]) (rest := []) X (fun r9 m9 hg => k_X5_takeNumber e0 hg) h (Lp_N e0 rfl) e0 rfl (by decide) uw3_177 uw3_179 us1_8 uw1_3 uw3_180 rfl rfl dd_X5_takeNumber ⟨Nat.le_of_ble_eq_true rfl, Nat.le_of_ble_eq_true rfl⟩ rfl (Nat.le_of_ble_eq_true rfl) dX5_weekLine_75 rfl (fun x14 m13 h => ?_)
        refine r_if_ne (tgt := 83) X dX5_weekLine_78 (by decide) h (fun h => ?_) (fun h => ?_)
        · refine r_aload_n X dX5_weekLine_83 rfl 2 rfl ?_
          refine r_getI X (k := 1) (Lp_N e0 rfl) e0 rfl (by decide) ui_5 (by decide) uw1_74 rfl dX5_weekLine_84 ?_
          refine r_nmI h (fun x15 h => ?_)
          refine r_istore_n (lv2 := [(3, .int (x15)), (4, .int ((0))), (0, .ref (ad (h0))), (1, .ref (ad (h1))), (2, .int (x4))]) X dX5_weekLine_87 rfl (by decide) rfl ?_
          refine r_goto (tgt := 136) X dX5_weekLine_88 (by decide) ?_
          exact r_sub [2, 3, 4, 0, 1] rfl (hJ136 x4 x15 ((0)) m13 h)
        · refine r_iconst (v := (0)) X dX5_weekLine_81 (by decide) ?_
          exact r_zret2 X rfl dX5_weekLine_82 h
    · refine r_aload_n X dX5_weekLine_47 rfl 0 rfl ?_
      refine r_iconst (v := (5)) X dX5_weekLine_48 (by decide) ?_
      refine r_cVI (As := [.int ((5))]) (rest := []) X (fun r9 m9 hg => k_X5_wrong e0 hg) h (Lp_N e0 rfl) e0 rfl (by decide) uw3_152 uw3_154 us1_4 uw1_3 uw3_155 rfl rfl dd_X5_wrong ⟨Nat.le_of_ble_eq_true rfl, Nat.le_of_ble_eq_true rfl⟩ rfl (Nat.le_of_ble_eq_true rfl) dX5_weekLine_49 rfl (fun x17 m16 h => ?_)
      exact r_zret2 X rfl dX5_weekLine_52 h
  unfold f_X5_weekLine at h
  refine r_aload_n X dX5_weekLine_0 rfl 0 rfl ?_
  refine r_getB X (k := 0) (of := 2) rfl (Lp_N e0 rfl) e0 rfl (by decide) ui_5 (by decide) uw1_73 rfl dX5_weekLine_1 ?_
  refine r_getIN X (k := 2) (Lp_N (Lp_5_0 e0) rfl) (Lp_5_0 e0) rfl (by decide) ui_9 (by decide) hl29 rfl dX5_weekLine_4 ?_
  refine r_nmI h (fun x1 h => ?_)
  refine r_istore_n (lv2 := [(2, .int (x1)), (0, .ref (ad (h0))), (1, .ref (ad (h1)))]) X dX5_weekLine_7 rfl (by decide) rfl ?_
  refine r_iload_n X dX5_weekLine_8 rfl 0 rfl ?_
  refine r_bipush (v := (14)) X dX5_weekLine_9 (by decide) ?_
  refine r_icmp_eq (tgt := 38) X dX5_weekLine_11 (by decide) h (fun h => ?_) (fun h => ?_)
  · exact r_sub [1, 2, 0] rfl (hJ38 x1 mem h)
  · refine r_iload_n X dX5_weekLine_14 rfl 0 rfl ?_
    refine r_bipush (v := (15)) X dX5_weekLine_15 (by decide) ?_
    refine r_icmp_eq (tgt := 38) X dX5_weekLine_17 (by decide) h (fun h => ?_) (fun h => ?_)
    · exact r_sub [1, 2, 0] rfl (hJ38 x1 mem h)
    · refine r_iload_n X dX5_weekLine_20 rfl 0 rfl ?_
      refine r_bipush (v := (8)) X dX5_weekLine_21 (by decide) ?_
      refine r_icmp_eq (tgt := 38) X dX5_weekLine_23 (by decide) h (fun h => ?_) (fun h => ?_)
      · exact r_sub [1, 2, 0] rfl (hJ38 x1 mem h)
      · refine r_iload_n X dX5_weekLine_26 rfl 0 rfl ?_
        refine r_bipush (v := (9)) X dX5_weekLine_27 (by decide) ?_
        refine r_icmp_eq (tgt := 38) X dX5_weekLine_29 (by decide) h (fun h => ?_) (fun h => ?_)
        · exact r_sub [1, 2, 0] rfl (hJ38 x1 mem h)
        · refine r_aload_n X dX5_weekLine_32 rfl 1 rfl ?_
          refine r_iconst (v := (1)) X dX5_weekLine_33 (by decide) ?_
          refine r_cVI (As := [.int ((1))]) (rest := []) X (fun r9 m9 hg => k_X5_wrong e0 hg) h (Lp_N e0 rfl) e0 rfl (by decide) uw3_152 uw3_154 us1_4 uw1_3 uw3_155 rfl rfl dd_X5_wrong ⟨Nat.le_of_ble_eq_true rfl, Nat.le_of_ble_eq_true rfl⟩ rfl (Nat.le_of_ble_eq_true rfl) dX5_weekLine_34 rfl (fun x3 m2 h => ?_)
          exact r_zret2 X rfl dX5_weekLine_37 h
noncomputable def f_X5_readWeek_B19 (h0 : Nat) (h1 : Nat) (k19 : Int32 → Mm → Option (Int32 × Mm)) (x4 : Int32) (m5 : Mm) : Option (Int32 × Mm) :=
  if ((1000)) < x4 then (some ((0), m5)) else (if (gI m5 (h0 - 2) 2) = ((101)) then (some ((0), m5)) else (bdI (f_X5_weekLine h0 h1 m5) fun x7 m6 => if ¬ x7 = 0 then (bnd (x4 + (1)) fun x8 => k19 x8 m6) else (some (gI m6 h0 2, m6))))
noncomputable def f_X5_readWeek (h0 : Nat) (h1 : Nat) (mem : Mm) : Option (Int32 × Mm) :=
  bnd (sI mem h1 3 ((0))) fun m1 => bnd (sI m1 h0 2 ((0))) fun m2 => bdV (f_X9_rewind (h0 - 2) m2) fun m3 => lop (fun _ _ => none) (f_X5_readWeek_B19 h0 h1 ) 4000 ((0)) m3
theorem dd_X5_readWeek : yX5_readWeek.cls = RX5 ∧ yX5_readWeek.cls ≠ "java/lang/invoke/MethodHandle" ∧ yX5_readWeek.cls ≠ "java/lang/invoke/VarHandle" ∧ (parseMethodDescriptor yX5_readWeek.desc).map (fun d => d.parameters.length) = some 1 := by decide +kernel
set_option maxHeartbeats 4000000 in
set_option maxRecDepth 100000 in
theorem k_X5_readWeek {l : Launch} {ad : Nat → Nat} {cy : Nat → ClassId} {dC : Nat → ClassId} {dI : Nat → Nat → Nat} {ks : (Nat → Nat) × (Nat → Nat)} {h0 : Nat} {h1 : Nat} {mem : Mm} {r2 : Int32} {mem2 : Mm} (e0 : Lp.1 h0 = 5) (e1 : Lp.1 h1 = 10) (h : f_X5_readWeek h0 h1 mem = some (r2, mem2)) : CtI l Lp ad cy dC dI ks yX5_readWeek cX5_readWeek 3 (some .int) ({ frames := 9, cells := 0, slots := 0, locals := 200 }) [.ref (ad (h0)), .ref (ad (h1))] mem r2 mem2 := by
  refine CtI.of (cc := cX5_readWeek) (maxL := 3) (ret := (some .int)) (own := RX5) rfl (by decide) (Nat.le_of_ble_eq_true rfl) ?_
  intro p e s m args below meth c A X
  have hts := X.2.2.2.2.1
  have hl29 := X.2.2.2.2.2.2.1 (.fieldLinkNest "StationPiano$Reader" 29 "StationPiano$Tape" "token" "I" "StationPiano") (List.mem_of_getElem? (i := 1) rfl)
  have hl36 := X.2.2.2.2.2.2.1 (.fieldLinkNest "StationPiano$Reader" 36 "StationPiano$Week" "length" "I" "StationPiano") (List.mem_of_getElem? (i := 66) rfl)
  have hJ19 : ∀ (k19 : Int32 → Mm → Option (Int32 × Mm)) (hk19 : ∀ (x4 : Int32) (m5 : Mm), k19 x4 m5 = some (r2, mem2) → Jd p l e ({ frames := 9, cells := 0, slots := 0, locals := 200 }) s m args below meth c 3 (MQ below (PsI Lp ad cy dC dI r2 mem2 A) args s 0 0 A) A dC dI cy Lp ad m5 19 [(0, .ref (ad (h0))), (1, .ref (ad (h1))), (2, .int (x4))] []) (x4 : Int32) (m5 : Mm), f_X5_readWeek_B19 h0 h1 k19 x4 m5 = some (r2, mem2) → Jd p l e ({ frames := 9, cells := 0, slots := 0, locals := 200 }) s m args below meth c 3 (MQ below (PsI Lp ad cy dC dI r2 mem2 A) args s 0 0 A) A dC dI cy Lp ad m5 19 [(0, .ref (ad (h0))), (1, .ref (ad (h1))), (2, .int (x4))] [] := by
    intro k19 hk19 x4 m5 h
    unfold f_X5_readWeek_B19 at h
    refine r_iload_n X dX5_readWeek_19 rfl 2 rfl ?_
    refine r_sipush (v := (1000)) X dX5_readWeek_20 (by decide) ?_
    refine r_icmp_gt (tgt := 57) X dX5_readWeek_23 (by decide) h (fun h => ?_) (fun h => ?_)
    · refine r_iconst (v := (0)) X dX5_readWeek_57 (by decide) ?_
      exact r_iret2 X rfl dX5_readWeek_58 h
    · refine r_aload_n X dX5_readWeek_26 rfl 0 rfl ?_
      refine r_getB X (k := 0) (of := 2) rfl (Lp_N e0 rfl) e0 rfl (by decide) ui_5 (by decide) uw1_73 rfl dX5_readWeek_27 ?_
      refine r_getIN X (k := 2) (Lp_N (Lp_5_0 e0) rfl) (Lp_5_0 e0) rfl (by decide) ui_9 (by decide) hl29 rfl dX5_readWeek_30 ?_
      refine r_bipush (v := (101)) X dX5_readWeek_33 (by decide) ?_
      refine r_icmp_eq (tgt := 57) X dX5_readWeek_35 (by decide) h (fun h => ?_) (fun h => ?_)
      · refine r_iconst (v := (0)) X dX5_readWeek_57 (by decide) ?_
        exact r_iret2 X rfl dX5_readWeek_58 h
      · refine r_aload_n X dX5_readWeek_38 rfl 0 rfl ?_
        refine r_aload_n X dX5_readWeek_39 rfl 1 rfl ?_
        refine r_cVI (As := [.ref (ad (h1))]) (rest := []) X (fun r9 m9 hg => k_X5_weekLine e0 e1 hg) h (Lp_N e0 rfl) e0 rfl (by decide) uw4_22 uw4_24 us2_6 uw1_3 uw4_25 rfl rfl dd_X5_weekLine ⟨Nat.le_of_ble_eq_true rfl, Nat.le_of_ble_eq_true rfl⟩ rfl (Nat.le_of_ble_eq_true rfl) dX5_readWeek_40 rfl (fun x7 m6 h => ?_)
        refine r_if_ne (tgt := 51) X dX5_readWeek_43 (by decide) h (fun h => ?_) (fun h => ?_)
        · refine r_inc h (fun x8 e9 h => ?_)
          refine r_iinc (v := x8) (lv2 := [(2, .int (x8)), (0, .ref (ad (h0))), (1, .ref (ad (h1)))]) X dX5_readWeek_51 2 rfl (by rw [e9]; rfl) (by decide) rfl ?_
          refine r_goto (tgt := 19) X dX5_readWeek_54 (by decide) ?_
          exact r_sub [1, 2, 0] rfl (hk19 x8 m6 h)
        · refine r_aload_n X dX5_readWeek_46 rfl 0 rfl ?_
          refine r_getI X (k := 2) (Lp_N e0 rfl) e0 rfl (by decide) ui_5 (by decide) uw1_75 rfl dX5_readWeek_47 ?_
          exact r_iret2 X rfl dX5_readWeek_50 h
  have hL19 : ∀ (n : Nat), ∀ (x4 : Int32) (m5 : Mm), lop (fun _ _ => none) (f_X5_readWeek_B19 h0 h1 ) n x4 m5 = some (r2, mem2) → Jd p l e ({ frames := 9, cells := 0, slots := 0, locals := 200 }) s m args below meth c 3 (MQ below (PsI Lp ad cy dC dI r2 mem2 A) args s 0 0 A) A dC dI cy Lp ad m5 19 [(0, .ref (ad (h0))), (1, .ref (ad (h1))), (2, .int (x4))] [] := by
    intro  n
    induction n with
    | zero => intro _ _ h; cases h
    | succ n ih => intro a0 a1 h; exact hJ19  _ ih a0 a1 h
  unfold f_X5_readWeek at h
  refine r_aload_n X dX5_readWeek_0 rfl 1 rfl ?_
  refine r_iconst (v := (0)) X dX5_readWeek_1 (by decide) ?_
  refine r_putIN X (k := 3) (Lp_N e1 rfl) e1 rfl (by decide) ui_10 (by decide) hl36 tyX10_ok nmX10 rfl rfl rfl dX5_readWeek_2 ?_
  refine r_nmM h (fun m1 h => ?_)
  refine r_aload_n X dX5_readWeek_5 rfl 0 rfl ?_
  refine r_iconst (v := (0)) X dX5_readWeek_6 (by decide) ?_
  refine r_putI X (k := 2) (Lp_N e0 rfl) e0 rfl (by decide) ui_5 (by decide) uw1_75 tyX5_ok nmX5 rfl rfl rfl dX5_readWeek_7 ?_
  refine r_nmM h (fun m2 h => ?_)
  refine r_aload_n X dX5_readWeek_10 rfl 0 rfl ?_
  refine r_getB X (k := 0) (of := 2) rfl (Lp_N e0 rfl) e0 rfl (by decide) ui_5 (by decide) uw1_73 rfl dX5_readWeek_11 ?_
  refine r_cVV (As := []) (rest := []) X (fun m9 hg => k_X9_rewind (Lp_5_0 e0) hg) h (Lp_N (Lp_5_0 e0) rfl) (Lp_5_0 e0) rfl (by decide) uw3_19 uw3_20 uw3_21 uw1_2 uw3_22 rfl rfl dd_X9_rewind ⟨Nat.le_of_ble_eq_true rfl, Nat.le_of_ble_eq_true rfl⟩ rfl (Nat.le_of_ble_eq_true rfl) dX5_readWeek_14 rfl (fun m3 h => ?_)
  refine r_iconst (v := (0)) X dX5_readWeek_17 (by decide) ?_
  refine r_istore_n (lv2 := [(2, .int ((0))), (0, .ref (ad (h0))), (1, .ref (ad (h1)))]) X dX5_readWeek_18 rfl (by decide) rfl ?_
  exact r_sub [1, 2, 0] rfl (hL19 4000 ((0)) m3 h)
noncomputable def f_X6_begin_B2 (h0 : Nat) (h1 : Nat) (k2 : Int32 → Mm → Option Mm) (x1 : Int32) (m2 : Mm) : Option Mm :=
  if ((12)) ≤ x1 then (bnd (sI m2 h0 1 ((0))) fun m3 => bnd (sI m3 h0 2 (gI m3 h1 9)) fun m4 => bnd (sI m4 h0 3 (gI m4 h1 10)) fun m5 => bnd (sI m5 h0 4 (gI m5 h1 11)) fun m6 => bnd (sI m6 h0 5 ((0))) fun m7 => some m7) else (grd (inb x1 (Lp.2.1 (h0 + 1))) (bnd (sI m2 (h0 + 1) x1.toNatClampNeg ((0))) fun m8 => bnd (x1 + (1)) fun x9 => k2 x9 m8))
noncomputable def f_X6_begin (h0 : Nat) (h1 : Nat) (mem : Mm) : Option Mm :=
  lop (fun _ _ => none) (f_X6_begin_B2 h0 h1 ) 4000 ((0)) mem
theorem dd_X6_begin : yX6_begin.cls = RX6 ∧ yX6_begin.cls ≠ "java/lang/invoke/MethodHandle" ∧ yX6_begin.cls ≠ "java/lang/invoke/VarHandle" ∧ (parseMethodDescriptor yX6_begin.desc).map (fun d => d.parameters.length) = some 1 := by decide +kernel
set_option maxHeartbeats 4000000 in
set_option maxRecDepth 100000 in
theorem k_X6_begin {l : Launch} {ad : Nat → Nat} {cy : Nat → ClassId} {dC : Nat → ClassId} {dI : Nat → Nat → Nat} {ks : (Nat → Nat) × (Nat → Nat)} {h0 : Nat} {h1 : Nat} {mem : Mm} {mem2 : Mm} (e0 : Lp.1 h0 = 6) (e1 : Lp.1 h1 = 7) (h : f_X6_begin h0 h1 mem = some mem2) : CtV l Lp ad cy dC dI ks yX6_begin cX6_begin 3 none ({ frames := 0, cells := 0, slots := 0, locals := 0 }) [.ref (ad (h0)), .ref (ad (h1))] mem mem2 := by
  refine CtV.of (cc := cX6_begin) (maxL := 3) (ret := none) (own := RX6) rfl (by decide) (Nat.le_of_ble_eq_true rfl) ?_
  intro p e s m args below meth c A X
  have hts := X.2.2.2.2.1
  have hl31 := X.2.2.2.2.2.2.1 (.fieldLinkNest "StationPiano$State" 31 "StationPiano$Station" "minutes" "I" "StationPiano") (List.mem_of_getElem? (i := 45) rfl)
  have hl34 := X.2.2.2.2.2.2.1 (.fieldLinkNest "StationPiano$State" 34 "StationPiano$Station" "from" "I" "StationPiano") (List.mem_of_getElem? (i := 47) rfl)
  have hl35 := X.2.2.2.2.2.2.1 (.fieldLinkNest "StationPiano$State" 35 "StationPiano$Station" "to" "I" "StationPiano") (List.mem_of_getElem? (i := 49) rfl)
  have hJ2 : ∀ (k2 : Int32 → Mm → Option Mm) (hk2 : ∀ (x1 : Int32) (m2 : Mm), k2 x1 m2 = some mem2 → Jd p l e ({ frames := 0, cells := 0, slots := 0, locals := 0 }) s m args below meth c 3 (MQ below (PsV Lp ad cy dC dI mem2 A) args s 0 0 A) A dC dI cy Lp ad m2 2 [(0, .ref (ad (h0))), (1, .ref (ad (h1))), (2, .int (x1))] []) (x1 : Int32) (m2 : Mm), f_X6_begin_B2 h0 h1 k2 x1 m2 = some mem2 → Jd p l e ({ frames := 0, cells := 0, slots := 0, locals := 0 }) s m args below meth c 3 (MQ below (PsV Lp ad cy dC dI mem2 A) args s 0 0 A) A dC dI cy Lp ad m2 2 [(0, .ref (ad (h0))), (1, .ref (ad (h1))), (2, .int (x1))] [] := by
    intro k2 hk2 x1 m2 h
    unfold f_X6_begin_B2 at h
    refine r_iload_n X dX6_begin_2 rfl 2 rfl ?_
    refine r_bipush (v := (12)) X dX6_begin_3 (by decide) ?_
    refine r_icmp_ge (tgt := 21) X dX6_begin_5 (by decide) h (fun h => ?_) (fun h => ?_)
    · refine r_aload_n X dX6_begin_21 rfl 0 rfl ?_
      refine r_iconst (v := (0)) X dX6_begin_22 (by decide) ?_
      refine r_putI X (k := 1) (Lp_N e0 rfl) e0 rfl (by decide) ui_6 (by decide) uw2_7 tyX6_ok nmX6 rfl rfl rfl dX6_begin_23 ?_
      refine r_nmM h (fun m3 h => ?_)
      refine r_aload_n X dX6_begin_26 rfl 0 rfl ?_
      refine r_aload_n X dX6_begin_27 rfl 1 rfl ?_
      refine r_getIN X (k := 9) (Lp_N e1 rfl) e1 rfl (by decide) ui_7 (by decide) hl31 rfl dX6_begin_28 ?_
      refine r_putI X (k := 2) (Lp_N e0 rfl) e0 rfl (by decide) ui_6 (by decide) uw2_9 tyX6_ok nmX6 rfl rfl rfl dX6_begin_31 ?_
      refine r_nmM h (fun m4 h => ?_)
      refine r_aload_n X dX6_begin_34 rfl 0 rfl ?_
      refine r_aload_n X dX6_begin_35 rfl 1 rfl ?_
      refine r_getIN X (k := 10) (Lp_N e1 rfl) e1 rfl (by decide) ui_7 (by decide) hl34 rfl dX6_begin_36 ?_
      refine r_putI X (k := 3) (Lp_N e0 rfl) e0 rfl (by decide) ui_6 (by decide) uw2_11 tyX6_ok nmX6 rfl rfl rfl dX6_begin_39 ?_
      refine r_nmM h (fun m5 h => ?_)
      refine r_aload_n X dX6_begin_42 rfl 0 rfl ?_
      refine r_aload_n X dX6_begin_43 rfl 1 rfl ?_
      refine r_getIN X (k := 11) (Lp_N e1 rfl) e1 rfl (by decide) ui_7 (by decide) hl35 rfl dX6_begin_44 ?_
      refine r_putI X (k := 4) (Lp_N e0 rfl) e0 rfl (by decide) ui_6 (by decide) uw2_14 tyX6_ok nmX6 rfl rfl rfl dX6_begin_47 ?_
      refine r_nmM h (fun m6 h => ?_)
      refine r_aload_n X dX6_begin_50 rfl 0 rfl ?_
      refine r_iconst (v := (0)) X dX6_begin_51 (by decide) ?_
      refine r_putI X (k := 5) (Lp_N e0 rfl) e0 rfl (by decide) ui_6 (by decide) uw2_17 tyX6_ok nmX6 rfl rfl rfl dX6_begin_52 ?_
      refine r_nmM h (fun m7 h => ?_)
      exact r_vret X rfl dX6_begin_55 h
    · refine r_aload_n X dX6_begin_8 rfl 0 rfl ?_
      refine r_getF X (k := 0) (of := 1) rfl (Lp_N e0 rfl) e0 rfl (by decide) ui_6 (by decide) uw2_4 rfl dX6_begin_9 ?_
      refine r_iload_n X dX6_begin_12 rfl 2 rfl ?_
      refine r_iconst (v := (0)) X dX6_begin_13 (by decide) ?_
      refine r_iast X (Lp_N (Lp_6_0 e0) rfl) (Lp_6_0 e0) h dX6_begin_14 (fun h => ?_)
      refine r_nmM h (fun m8 h => ?_)
      refine r_inc h (fun x9 e9 h => ?_)
      refine r_iinc (v := x9) (lv2 := [(2, .int (x9)), (0, .ref (ad (h0))), (1, .ref (ad (h1)))]) X dX6_begin_15 2 rfl (by rw [e9]; rfl) (by decide) rfl ?_
      refine r_goto (tgt := 2) X dX6_begin_18 (by decide) ?_
      exact r_sub [1, 2, 0] rfl (hk2 x9 m8 h)
  have hL2 : ∀ (n : Nat), ∀ (x1 : Int32) (m2 : Mm), lop (fun _ _ => none) (f_X6_begin_B2 h0 h1 ) n x1 m2 = some mem2 → Jd p l e ({ frames := 0, cells := 0, slots := 0, locals := 0 }) s m args below meth c 3 (MQ below (PsV Lp ad cy dC dI mem2 A) args s 0 0 A) A dC dI cy Lp ad m2 2 [(0, .ref (ad (h0))), (1, .ref (ad (h1))), (2, .int (x1))] [] := by
    intro  n
    induction n with
    | zero => intro _ _ h; cases h
    | succ n ih => intro a0 a1 h; exact hJ2  _ ih a0 a1 h
  unfold f_X6_begin at h
  refine r_iconst (v := (0)) X dX6_begin_0 (by decide) ?_
  refine r_istore_n (lv2 := [(2, .int ((0))), (0, .ref (ad (h0))), (1, .ref (ad (h1)))]) X dX6_begin_1 rfl (by decide) rfl ?_
  exact r_sub [1, 2, 0] rfl (hL2 4000 ((0)) mem h)
noncomputable def f_X6_tuneUp_J37 (h0 : Nat) (p1 : Int32) (k4 : Int32 → Int32 → Int32 → Mm → Option (Int32 × Mm)) (x8 : Int32) (x9 : Int32) (x10 : Int32) (m11 : Mm) : Option (Int32 × Mm) :=
  bnd (x10 + (1)) fun x12 => k4 x8 x9 x12 m11
noncomputable def f_X6_tuneUp_B4 (h0 : Nat) (p1 : Int32) (k4 : Int32 → Int32 → Int32 → Mm → Option (Int32 × Mm)) (x1 : Int32) (x2 : Int32) (x3 : Int32) (m4 : Mm) : Option (Int32 × Mm) :=
  if ((12)) ≤ x3 then (bnd (sI m4 h0 5 ((gI m4 h0 5) + x1)) fun m5 => some (x2, m5)) else (grd (inb x3 (Lp.2.1 (h0 + 1))) (if ((9)) ≤ (gI m4 (h0 + 1) x3.toNatClampNeg) then (f_X6_tuneUp_J37 h0 p1 k4 x1 x2 x3 m4) else (grd (inb x3 (Lp.2.1 (h0 + 1))) (bnd (x2 + (gI m4 (h0 + 1) x3.toNatClampNeg)) fun x6 => grd (inb x3 (Lp.2.1 (h0 + 1))) (bnd (sI m4 (h0 + 1) x3.toNatClampNeg ((0))) fun m7 => f_X6_tuneUp_J37 h0 p1 k4 x1 x6 x3 m7)))))
noncomputable def f_X6_tuneUp (h0 : Nat) (p1 : Int32) (mem : Mm) : Option (Int32 × Mm) :=
  lop (fun _ _ _ _ => none) (f_X6_tuneUp_B4 h0 p1 ) 4000 p1 ((0)) ((0)) mem
theorem dd_X6_tuneUp : yX6_tuneUp.cls = RX6 ∧ yX6_tuneUp.cls ≠ "java/lang/invoke/MethodHandle" ∧ yX6_tuneUp.cls ≠ "java/lang/invoke/VarHandle" ∧ (parseMethodDescriptor yX6_tuneUp.desc).map (fun d => d.parameters.length) = some 1 := by decide +kernel
set_option maxHeartbeats 4000000 in
set_option maxRecDepth 100000 in
theorem k_X6_tuneUp {l : Launch} {ad : Nat → Nat} {cy : Nat → ClassId} {dC : Nat → ClassId} {dI : Nat → Nat → Nat} {ks : (Nat → Nat) × (Nat → Nat)} {h0 : Nat} {p1 : Int32} {mem : Mm} {r2 : Int32} {mem2 : Mm} (e0 : Lp.1 h0 = 6) (h : f_X6_tuneUp h0 p1 mem = some (r2, mem2)) : CtI l Lp ad cy dC dI ks yX6_tuneUp cX6_tuneUp 4 (some .int) ({ frames := 0, cells := 0, slots := 0, locals := 0 }) [.ref (ad (h0)), .int (p1)] mem r2 mem2 := by
  refine CtI.of (cc := cX6_tuneUp) (maxL := 4) (ret := (some .int)) (own := RX6) rfl (by decide) (Nat.le_of_ble_eq_true rfl) ?_
  intro p e s m args below meth c A X
  have hts := X.2.2.2.2.1
  have hJ37 : ∀ (k4 : Int32 → Int32 → Int32 → Mm → Option (Int32 × Mm)) (hk4 : ∀ (x1 : Int32) (x2 : Int32) (x3 : Int32) (m4 : Mm), k4 x1 x2 x3 m4 = some (r2, mem2) → Jd p l e ({ frames := 0, cells := 0, slots := 0, locals := 0 }) s m args below meth c 4 (MQ below (PsI Lp ad cy dC dI r2 mem2 A) args s 0 0 A) A dC dI cy Lp ad m4 4 [(0, .ref (ad (h0))), (1, .int (x1)), (2, .int (x2)), (3, .int (x3))] []) (x8 : Int32) (x9 : Int32) (x10 : Int32) (m11 : Mm), f_X6_tuneUp_J37 h0 p1 k4 x8 x9 x10 m11 = some (r2, mem2) → Jd p l e ({ frames := 0, cells := 0, slots := 0, locals := 0 }) s m args below meth c 4 (MQ below (PsI Lp ad cy dC dI r2 mem2 A) args s 0 0 A) A dC dI cy Lp ad m11 37 [(0, .ref (ad (h0))), (1, .int (x8)), (2, .int (x9)), (3, .int (x10))] [] := by
    intro k4 hk4 x8 x9 x10 m11 h
    unfold f_X6_tuneUp_J37 at h
    refine r_inc h (fun x12 e9 h => ?_)
    refine r_iinc (v := x12) (lv2 := [(3, .int (x12)), (0, .ref (ad (h0))), (1, .int (x8)), (2, .int (x9))]) X dX6_tuneUp_37 3 rfl (by rw [e9]; rfl) (by decide) rfl ?_
    refine r_goto (tgt := 4) X dX6_tuneUp_40 (by decide) ?_
    exact r_sub [1, 2, 3, 0] rfl (hk4 x8 x9 x12 m11 h)
  have hJ4 : ∀ (k4 : Int32 → Int32 → Int32 → Mm → Option (Int32 × Mm)) (hk4 : ∀ (x1 : Int32) (x2 : Int32) (x3 : Int32) (m4 : Mm), k4 x1 x2 x3 m4 = some (r2, mem2) → Jd p l e ({ frames := 0, cells := 0, slots := 0, locals := 0 }) s m args below meth c 4 (MQ below (PsI Lp ad cy dC dI r2 mem2 A) args s 0 0 A) A dC dI cy Lp ad m4 4 [(0, .ref (ad (h0))), (1, .int (x1)), (2, .int (x2)), (3, .int (x3))] []) (x1 : Int32) (x2 : Int32) (x3 : Int32) (m4 : Mm), f_X6_tuneUp_B4 h0 p1 k4 x1 x2 x3 m4 = some (r2, mem2) → Jd p l e ({ frames := 0, cells := 0, slots := 0, locals := 0 }) s m args below meth c 4 (MQ below (PsI Lp ad cy dC dI r2 mem2 A) args s 0 0 A) A dC dI cy Lp ad m4 4 [(0, .ref (ad (h0))), (1, .int (x1)), (2, .int (x2)), (3, .int (x3))] [] := by
    intro k4 hk4 x1 x2 x3 m4 h
    unfold f_X6_tuneUp_B4 at h
    refine r_iload_n X dX6_tuneUp_4 rfl 3 rfl ?_
    refine r_bipush (v := (12)) X dX6_tuneUp_5 (by decide) ?_
    refine r_icmp_ge (tgt := 43) X dX6_tuneUp_7 (by decide) h (fun h => ?_) (fun h => ?_)
    · refine r_aload_n X dX6_tuneUp_43 rfl 0 rfl ?_
      refine r_dup X dX6_tuneUp_44 rfl ?_
      refine r_getI X (k := 5) (Lp_N e0 rfl) e0 rfl (by decide) ui_6 (by decide) uw2_17 rfl dX6_tuneUp_45 ?_
      refine r_iload_n X dX6_tuneUp_48 rfl 1 rfl ?_
      refine r_iadd X dX6_tuneUp_49 ?_
      refine r_putI X (k := 5) (Lp_N e0 rfl) e0 rfl (by decide) ui_6 (by decide) uw2_17 tyX6_ok nmX6 rfl rfl rfl dX6_tuneUp_50 ?_
      refine r_nmM h (fun m5 h => ?_)
      refine r_iload_n X dX6_tuneUp_53 rfl 2 rfl ?_
      exact r_iret2 X rfl dX6_tuneUp_54 h
    · refine r_aload_n X dX6_tuneUp_10 rfl 0 rfl ?_
      refine r_getF X (k := 0) (of := 1) rfl (Lp_N e0 rfl) e0 rfl (by decide) ui_6 (by decide) uw2_4 rfl dX6_tuneUp_11 ?_
      refine r_iload_n X dX6_tuneUp_14 rfl 3 rfl ?_
      refine r_iald X (Lp_N (Lp_6_0 e0) rfl) (Lp_6_0 e0) h dX6_tuneUp_15 (fun h => ?_)
      refine r_bipush (v := (9)) X dX6_tuneUp_16 (by decide) ?_
      refine r_icmp_ge (tgt := 37) X dX6_tuneUp_18 (by decide) h (fun h => ?_) (fun h => ?_)
      · exact r_sub [0, 1, 2, 3] rfl (hJ37 k4 hk4 x1 x2 x3 m4 h)
      · refine r_iload_n X dX6_tuneUp_21 rfl 2 rfl ?_
        refine r_aload_n X dX6_tuneUp_22 rfl 0 rfl ?_
        refine r_getF X (k := 0) (of := 1) rfl (Lp_N e0 rfl) e0 rfl (by decide) ui_6 (by decide) uw2_4 rfl dX6_tuneUp_23 ?_
        refine r_iload_n X dX6_tuneUp_26 rfl 3 rfl ?_
        refine r_iald X (Lp_N (Lp_6_0 e0) rfl) (Lp_6_0 e0) h dX6_tuneUp_27 (fun h => ?_)
        refine r_iadd X dX6_tuneUp_28 ?_
        refine r_nmI h (fun x6 h => ?_)
        refine r_istore_n (lv2 := [(2, .int (x6)), (0, .ref (ad (h0))), (1, .int (x1)), (3, .int (x3))]) X dX6_tuneUp_29 rfl (by decide) rfl ?_
        refine r_aload_n X dX6_tuneUp_30 rfl 1 rfl ?_
        refine r_getF X (k := 0) (of := 1) rfl (Lp_N e0 rfl) e0 rfl (by decide) ui_6 (by decide) uw2_4 rfl dX6_tuneUp_31 ?_
        refine r_iload_n X dX6_tuneUp_34 rfl 3 rfl ?_
        refine r_iconst (v := (0)) X dX6_tuneUp_35 (by decide) ?_
        refine r_iast X (Lp_N (Lp_6_0 e0) rfl) (Lp_6_0 e0) h dX6_tuneUp_36 (fun h => ?_)
        refine r_nmM h (fun m7 h => ?_)
        exact r_sub [1, 2, 0, 3] rfl (hJ37 k4 hk4 x1 x6 x3 m7 h)
  have hL4 : ∀ (n : Nat), ∀ (x1 : Int32) (x2 : Int32) (x3 : Int32) (m4 : Mm), lop (fun _ _ _ _ => none) (f_X6_tuneUp_B4 h0 p1 ) n x1 x2 x3 m4 = some (r2, mem2) → Jd p l e ({ frames := 0, cells := 0, slots := 0, locals := 0 }) s m args below meth c 4 (MQ below (PsI Lp ad cy dC dI r2 mem2 A) args s 0 0 A) A dC dI cy Lp ad m4 4 [(0, .ref (ad (h0))), (1, .int (x1)), (2, .int (x2)), (3, .int (x3))] [] := by
    intro  n
    induction n with
    | zero => intro _ _ _ _ h; cases h
    | succ n ih => intro a0 a1 a2 a3 h; exact hJ4  _ ih a0 a1 a2 a3 h
  unfold f_X6_tuneUp at h
  refine r_iconst (v := (0)) X dX6_tuneUp_0 (by decide) ?_
  refine r_istore_n (lv2 := [(2, .int ((0))), (0, .ref (ad (h0))), (1, .int (p1))]) X dX6_tuneUp_1 rfl (by decide) rfl ?_
  refine r_iconst (v := (0)) X dX6_tuneUp_2 (by decide) ?_
  refine r_istore_n (lv2 := [(3, .int ((0))), (2, .int ((0))), (0, .ref (ad (h0))), (1, .int (p1))]) X dX6_tuneUp_3 rfl (by decide) rfl ?_
  exact r_sub [2, 3, 1, 0] rfl (hL4 4000 p1 ((0)) ((0)) mem h)
noncomputable def f_X6_goneKeys_J27 (h0 : Nat) (k4 : Int32 → Int32 → Mm → Option (Int32 × Mm)) (x5 : Int32) (x6 : Int32) (m7 : Mm) : Option (Int32 × Mm) :=
  bnd (x6 + (1)) fun x8 => k4 x5 x8 m7
noncomputable def f_X6_goneKeys_B4 (h0 : Nat) (k4 : Int32 → Int32 → Mm → Option (Int32 × Mm)) (x1 : Int32) (x2 : Int32) (m3 : Mm) : Option (Int32 × Mm) :=
  if ((12)) ≤ x2 then (some (x1, m3)) else (grd (inb x2 (Lp.2.1 (h0 + 1))) (if (gI m3 (h0 + 1) x2.toNatClampNeg) < ((9)) then (f_X6_goneKeys_J27 h0 k4 x1 x2 m3) else (bnd (x1 ||| (((1)) <<< (x2 &&& 31))) fun x4 => f_X6_goneKeys_J27 h0 k4 x4 x2 m3)))
noncomputable def f_X6_goneKeys (h0 : Nat) (mem : Mm) : Option (Int32 × Mm) :=
  lop (fun _ _ _ => none) (f_X6_goneKeys_B4 h0 ) 4000 ((0)) ((0)) mem
theorem dd_X6_goneKeys : yX6_goneKeys.cls = RX6 ∧ yX6_goneKeys.cls ≠ "java/lang/invoke/MethodHandle" ∧ yX6_goneKeys.cls ≠ "java/lang/invoke/VarHandle" ∧ (parseMethodDescriptor yX6_goneKeys.desc).map (fun d => d.parameters.length) = some 0 := by decide +kernel
set_option maxHeartbeats 4000000 in
set_option maxRecDepth 100000 in
theorem k_X6_goneKeys {l : Launch} {ad : Nat → Nat} {cy : Nat → ClassId} {dC : Nat → ClassId} {dI : Nat → Nat → Nat} {ks : (Nat → Nat) × (Nat → Nat)} {h0 : Nat} {mem : Mm} {r2 : Int32} {mem2 : Mm} (e0 : Lp.1 h0 = 6) (h : f_X6_goneKeys h0 mem = some (r2, mem2)) : CtI l Lp ad cy dC dI ks yX6_goneKeys cX6_goneKeys 3 (some .int) ({ frames := 0, cells := 0, slots := 0, locals := 0 }) [.ref (ad (h0))] mem r2 mem2 := by
  refine CtI.of (cc := cX6_goneKeys) (maxL := 3) (ret := (some .int)) (own := RX6) rfl (by decide) (Nat.le_of_ble_eq_true rfl) ?_
  intro p e s m args below meth c A X
  have hts := X.2.2.2.2.1
  have hJ27 : ∀ (k4 : Int32 → Int32 → Mm → Option (Int32 × Mm)) (hk4 : ∀ (x1 : Int32) (x2 : Int32) (m3 : Mm), k4 x1 x2 m3 = some (r2, mem2) → Jd p l e ({ frames := 0, cells := 0, slots := 0, locals := 0 }) s m args below meth c 3 (MQ below (PsI Lp ad cy dC dI r2 mem2 A) args s 0 0 A) A dC dI cy Lp ad m3 4 [(0, .ref (ad (h0))), (1, .int (x1)), (2, .int (x2))] []) (x5 : Int32) (x6 : Int32) (m7 : Mm), f_X6_goneKeys_J27 h0 k4 x5 x6 m7 = some (r2, mem2) → Jd p l e ({ frames := 0, cells := 0, slots := 0, locals := 0 }) s m args below meth c 3 (MQ below (PsI Lp ad cy dC dI r2 mem2 A) args s 0 0 A) A dC dI cy Lp ad m7 27 [(0, .ref (ad (h0))), (1, .int (x5)), (2, .int (x6))] [] := by
    intro k4 hk4 x5 x6 m7 h
    unfold f_X6_goneKeys_J27 at h
    refine r_inc h (fun x8 e9 h => ?_)
    refine r_iinc (v := x8) (lv2 := [(2, .int (x8)), (0, .ref (ad (h0))), (1, .int (x5))]) X dX6_goneKeys_27 2 rfl (by rw [e9]; rfl) (by decide) rfl ?_
    refine r_goto (tgt := 4) X dX6_goneKeys_30 (by decide) ?_
    exact r_sub [1, 2, 0] rfl (hk4 x5 x8 m7 h)
  have hJ4 : ∀ (k4 : Int32 → Int32 → Mm → Option (Int32 × Mm)) (hk4 : ∀ (x1 : Int32) (x2 : Int32) (m3 : Mm), k4 x1 x2 m3 = some (r2, mem2) → Jd p l e ({ frames := 0, cells := 0, slots := 0, locals := 0 }) s m args below meth c 3 (MQ below (PsI Lp ad cy dC dI r2 mem2 A) args s 0 0 A) A dC dI cy Lp ad m3 4 [(0, .ref (ad (h0))), (1, .int (x1)), (2, .int (x2))] []) (x1 : Int32) (x2 : Int32) (m3 : Mm), f_X6_goneKeys_B4 h0 k4 x1 x2 m3 = some (r2, mem2) → Jd p l e ({ frames := 0, cells := 0, slots := 0, locals := 0 }) s m args below meth c 3 (MQ below (PsI Lp ad cy dC dI r2 mem2 A) args s 0 0 A) A dC dI cy Lp ad m3 4 [(0, .ref (ad (h0))), (1, .int (x1)), (2, .int (x2))] [] := by
    intro k4 hk4 x1 x2 m3 h
    unfold f_X6_goneKeys_B4 at h
    refine r_iload_n X dX6_goneKeys_4 rfl 2 rfl ?_
    refine r_bipush (v := (12)) X dX6_goneKeys_5 (by decide) ?_
    refine r_icmp_ge (tgt := 33) X dX6_goneKeys_7 (by decide) h (fun h => ?_) (fun h => ?_)
    · refine r_iload_n X dX6_goneKeys_33 rfl 1 rfl ?_
      exact r_iret2 X rfl dX6_goneKeys_34 h
    · refine r_aload_n X dX6_goneKeys_10 rfl 0 rfl ?_
      refine r_getF X (k := 0) (of := 1) rfl (Lp_N e0 rfl) e0 rfl (by decide) ui_6 (by decide) uw2_4 rfl dX6_goneKeys_11 ?_
      refine r_iload_n X dX6_goneKeys_14 rfl 2 rfl ?_
      refine r_iald X (Lp_N (Lp_6_0 e0) rfl) (Lp_6_0 e0) h dX6_goneKeys_15 (fun h => ?_)
      refine r_bipush (v := (9)) X dX6_goneKeys_16 (by decide) ?_
      refine r_icmp_lt (tgt := 27) X dX6_goneKeys_18 (by decide) h (fun h => ?_) (fun h => ?_)
      · exact r_sub [0, 1, 2] rfl (hJ27 k4 hk4 x1 x2 m3 h)
      · refine r_iload_n X dX6_goneKeys_21 rfl 1 rfl ?_
        refine r_iconst (v := (1)) X dX6_goneKeys_22 (by decide) ?_
        refine r_iload_n X dX6_goneKeys_23 rfl 2 rfl ?_
        refine r_ishl X dX6_goneKeys_24 ?_
        refine r_ior X dX6_goneKeys_25 ?_
        refine r_nmI h (fun x4 h => ?_)
        refine r_istore_n (lv2 := [(1, .int (x4)), (0, .ref (ad (h0))), (2, .int (x2))]) X dX6_goneKeys_26 rfl (by decide) rfl ?_
        exact r_sub [1, 0, 2] rfl (hJ27 k4 hk4 x4 x2 m3 h)
  have hL4 : ∀ (n : Nat), ∀ (x1 : Int32) (x2 : Int32) (m3 : Mm), lop (fun _ _ _ => none) (f_X6_goneKeys_B4 h0 ) n x1 x2 m3 = some (r2, mem2) → Jd p l e ({ frames := 0, cells := 0, slots := 0, locals := 0 }) s m args below meth c 3 (MQ below (PsI Lp ad cy dC dI r2 mem2 A) args s 0 0 A) A dC dI cy Lp ad m3 4 [(0, .ref (ad (h0))), (1, .int (x1)), (2, .int (x2))] [] := by
    intro  n
    induction n with
    | zero => intro _ _ _ h; cases h
    | succ n ih => intro a0 a1 a2 h; exact hJ4  _ ih a0 a1 a2 h
  unfold f_X6_goneKeys at h
  refine r_iconst (v := (0)) X dX6_goneKeys_0 (by decide) ?_
  refine r_istore_n (lv2 := [(1, .int ((0))), (0, .ref (ad (h0)))]) X dX6_goneKeys_1 rfl (by decide) rfl ?_
  refine r_iconst (v := (0)) X dX6_goneKeys_2 (by decide) ?_
  refine r_istore_n (lv2 := [(2, .int ((0))), (1, .int ((0))), (0, .ref (ad (h0)))]) X dX6_goneKeys_3 rfl (by decide) rfl ?_
  exact r_sub [2, 1, 0] rfl (hL4 4000 ((0)) ((0)) mem h)
noncomputable def f_X6_keysAbove_J23 (h0 : Nat) (p1 : Int32) (k4 : Int32 → Int32 → Int32 → Mm → Option (Int32 × Mm)) (x6 : Int32) (x7 : Int32) (x8 : Int32) (m9 : Mm) : Option (Int32 × Mm) :=
  bnd (x8 + (1)) fun x10 => k4 x6 x7 x10 m9
noncomputable def f_X6_keysAbove_B4 (h0 : Nat) (p1 : Int32) (k4 : Int32 → Int32 → Int32 → Mm → Option (Int32 × Mm)) (x1 : Int32) (x2 : Int32) (x3 : Int32) (m4 : Mm) : Option (Int32 × Mm) :=
  if ((12)) ≤ x3 then (some (x2, m4)) else (grd (inb x3 (Lp.2.1 (h0 + 1))) (if (gI m4 (h0 + 1) x3.toNatClampNeg) ≤ x1 then (f_X6_keysAbove_J23 h0 p1 k4 x1 x2 x3 m4) else (bnd (x2 + (1)) fun x5 => f_X6_keysAbove_J23 h0 p1 k4 x1 x5 x3 m4)))
noncomputable def f_X6_keysAbove (h0 : Nat) (p1 : Int32) (mem : Mm) : Option (Int32 × Mm) :=
  lop (fun _ _ _ _ => none) (f_X6_keysAbove_B4 h0 p1 ) 4000 p1 ((0)) ((0)) mem
theorem dd_X6_keysAbove : yX6_keysAbove.cls = RX6 ∧ yX6_keysAbove.cls ≠ "java/lang/invoke/MethodHandle" ∧ yX6_keysAbove.cls ≠ "java/lang/invoke/VarHandle" ∧ (parseMethodDescriptor yX6_keysAbove.desc).map (fun d => d.parameters.length) = some 1 := by decide +kernel
set_option maxHeartbeats 4000000 in
set_option maxRecDepth 100000 in
theorem k_X6_keysAbove {l : Launch} {ad : Nat → Nat} {cy : Nat → ClassId} {dC : Nat → ClassId} {dI : Nat → Nat → Nat} {ks : (Nat → Nat) × (Nat → Nat)} {h0 : Nat} {p1 : Int32} {mem : Mm} {r2 : Int32} {mem2 : Mm} (e0 : Lp.1 h0 = 6) (h : f_X6_keysAbove h0 p1 mem = some (r2, mem2)) : CtI l Lp ad cy dC dI ks yX6_keysAbove cX6_keysAbove 4 (some .int) ({ frames := 0, cells := 0, slots := 0, locals := 0 }) [.ref (ad (h0)), .int (p1)] mem r2 mem2 := by
  refine CtI.of (cc := cX6_keysAbove) (maxL := 4) (ret := (some .int)) (own := RX6) rfl (by decide) (Nat.le_of_ble_eq_true rfl) ?_
  intro p e s m args below meth c A X
  have hts := X.2.2.2.2.1
  have hJ23 : ∀ (k4 : Int32 → Int32 → Int32 → Mm → Option (Int32 × Mm)) (hk4 : ∀ (x1 : Int32) (x2 : Int32) (x3 : Int32) (m4 : Mm), k4 x1 x2 x3 m4 = some (r2, mem2) → Jd p l e ({ frames := 0, cells := 0, slots := 0, locals := 0 }) s m args below meth c 4 (MQ below (PsI Lp ad cy dC dI r2 mem2 A) args s 0 0 A) A dC dI cy Lp ad m4 4 [(0, .ref (ad (h0))), (1, .int (x1)), (2, .int (x2)), (3, .int (x3))] []) (x6 : Int32) (x7 : Int32) (x8 : Int32) (m9 : Mm), f_X6_keysAbove_J23 h0 p1 k4 x6 x7 x8 m9 = some (r2, mem2) → Jd p l e ({ frames := 0, cells := 0, slots := 0, locals := 0 }) s m args below meth c 4 (MQ below (PsI Lp ad cy dC dI r2 mem2 A) args s 0 0 A) A dC dI cy Lp ad m9 23 [(0, .ref (ad (h0))), (1, .int (x6)), (2, .int (x7)), (3, .int (x8))] [] := by
    intro k4 hk4 x6 x7 x8 m9 h
    unfold f_X6_keysAbove_J23 at h
    refine r_inc h (fun x10 e9 h => ?_)
    refine r_iinc (v := x10) (lv2 := [(3, .int (x10)), (0, .ref (ad (h0))), (1, .int (x6)), (2, .int (x7))]) X dX6_keysAbove_23 3 rfl (by rw [e9]; rfl) (by decide) rfl ?_
    refine r_goto (tgt := 4) X dX6_keysAbove_26 (by decide) ?_
    exact r_sub [1, 2, 3, 0] rfl (hk4 x6 x7 x10 m9 h)
  have hJ4 : ∀ (k4 : Int32 → Int32 → Int32 → Mm → Option (Int32 × Mm)) (hk4 : ∀ (x1 : Int32) (x2 : Int32) (x3 : Int32) (m4 : Mm), k4 x1 x2 x3 m4 = some (r2, mem2) → Jd p l e ({ frames := 0, cells := 0, slots := 0, locals := 0 }) s m args below meth c 4 (MQ below (PsI Lp ad cy dC dI r2 mem2 A) args s 0 0 A) A dC dI cy Lp ad m4 4 [(0, .ref (ad (h0))), (1, .int (x1)), (2, .int (x2)), (3, .int (x3))] []) (x1 : Int32) (x2 : Int32) (x3 : Int32) (m4 : Mm), f_X6_keysAbove_B4 h0 p1 k4 x1 x2 x3 m4 = some (r2, mem2) → Jd p l e ({ frames := 0, cells := 0, slots := 0, locals := 0 }) s m args below meth c 4 (MQ below (PsI Lp ad cy dC dI r2 mem2 A) args s 0 0 A) A dC dI cy Lp ad m4 4 [(0, .ref (ad (h0))), (1, .int (x1)), (2, .int (x2)), (3, .int (x3))] [] := by
    intro k4 hk4 x1 x2 x3 m4 h
    unfold f_X6_keysAbove_B4 at h
    refine r_iload_n X dX6_keysAbove_4 rfl 3 rfl ?_
    refine r_bipush (v := (12)) X dX6_keysAbove_5 (by decide) ?_
    refine r_icmp_ge (tgt := 29) X dX6_keysAbove_7 (by decide) h (fun h => ?_) (fun h => ?_)
    · refine r_iload_n X dX6_keysAbove_29 rfl 2 rfl ?_
      exact r_iret2 X rfl dX6_keysAbove_30 h
    · refine r_aload_n X dX6_keysAbove_10 rfl 0 rfl ?_
      refine r_getF X (k := 0) (of := 1) rfl (Lp_N e0 rfl) e0 rfl (by decide) ui_6 (by decide) uw2_4 rfl dX6_keysAbove_11 ?_
      refine r_iload_n X dX6_keysAbove_14 rfl 3 rfl ?_
      refine r_iald X (Lp_N (Lp_6_0 e0) rfl) (Lp_6_0 e0) h dX6_keysAbove_15 (fun h => ?_)
      refine r_iload_n X dX6_keysAbove_16 rfl 1 rfl ?_
      refine r_icmp_le (tgt := 23) X dX6_keysAbove_17 (by decide) h (fun h => ?_) (fun h => ?_)
      · exact r_sub [0, 1, 2, 3] rfl (hJ23 k4 hk4 x1 x2 x3 m4 h)
      · refine r_inc h (fun x5 e9 h => ?_)
        refine r_iinc (v := x5) (lv2 := [(2, .int (x5)), (0, .ref (ad (h0))), (1, .int (x1)), (3, .int (x3))]) X dX6_keysAbove_20 2 rfl (by rw [e9]; rfl) (by decide) rfl ?_
        exact r_sub [1, 2, 0, 3] rfl (hJ23 k4 hk4 x1 x5 x3 m4 h)
  have hL4 : ∀ (n : Nat), ∀ (x1 : Int32) (x2 : Int32) (x3 : Int32) (m4 : Mm), lop (fun _ _ _ _ => none) (f_X6_keysAbove_B4 h0 p1 ) n x1 x2 x3 m4 = some (r2, mem2) → Jd p l e ({ frames := 0, cells := 0, slots := 0, locals := 0 }) s m args below meth c 4 (MQ below (PsI Lp ad cy dC dI r2 mem2 A) args s 0 0 A) A dC dI cy Lp ad m4 4 [(0, .ref (ad (h0))), (1, .int (x1)), (2, .int (x2)), (3, .int (x3))] [] := by
    intro  n
    induction n with
    | zero => intro _ _ _ _ h; cases h
    | succ n ih => intro a0 a1 a2 a3 h; exact hJ4  _ ih a0 a1 a2 a3 h
  unfold f_X6_keysAbove at h
  refine r_iconst (v := (0)) X dX6_keysAbove_0 (by decide) ?_
  refine r_istore_n (lv2 := [(2, .int ((0))), (0, .ref (ad (h0))), (1, .int (p1))]) X dX6_keysAbove_1 rfl (by decide) rfl ?_
  refine r_iconst (v := (0)) X dX6_keysAbove_2 (by decide) ?_
  refine r_istore_n (lv2 := [(3, .int ((0))), (2, .int ((0))), (0, .ref (ad (h0))), (1, .int (p1))]) X dX6_keysAbove_3 rfl (by decide) rfl ?_
  exact r_sub [2, 3, 1, 0] rfl (hL4 4000 p1 ((0)) ((0)) mem h)
noncomputable def f_X8_playOnNew_J67 (h0 : Nat) (p1 : Int32) (p2 : Int32) (h3 : Nat) (h4 : Nat) (k27 : Int32 → Int32 → Int32 → Mm → Option Mm) (x13 : Int32) (x14 : Int32) (x15 : Int32) (m16 : Mm) : Option Mm :=
  bnd (x15 + (1)) fun x17 => k27 x13 x14 x17 m16
noncomputable def f_X8_playOnNew_B27 (h0 : Nat) (p1 : Int32) (p2 : Int32) (h3 : Nat) (h4 : Nat) (k27 : Int32 → Int32 → Int32 → Mm → Option Mm) (x7 : Int32) (x8 : Int32) (x9 : Int32) (m10 : Mm) : Option Mm :=
  if x8 ≤ x9 then (some m10) else (if ((7)) ≤ x9 then (some m10) else (if ((x7 >>> (x9 &&& 31)) &&& ((1))) = 0 then (f_X8_playOnNew_J67 h0 p1 p2 h3 h4 k27 x7 x8 x9 m10) else (grd (inb x9 (Lp.2.1 (h3 + 9))) (bnd (h3 + 9 + (7 + 2 * x9.toNatClampNeg)) fun q11 => bdV (f_X1_strikeAll h4 q11 x9 (h0 + 1) m10) fun m12 => f_X8_playOnNew_J67 h0 p1 p2 h3 h4 k27 x7 x8 x9 m12))))
noncomputable def f_X8_playOnNew_B3 (h0 : Nat) (p1 : Int32) (p2 : Int32) (h3 : Nat) (h4 : Nat) (k3 : Int32 → Int32 → Int32 → Mm → Option Mm) (x1 : Int32) (x2 : Int32) (x3 : Int32) (m4 : Mm) : Option Mm :=
  if ((12)) ≤ x3 then (lop (fun _ _ _ _ => none) (f_X8_playOnNew_B27 h0 p1 p2 h3 h4 ) 4000 x1 x2 ((0)) m4) else (grd (inb x3 (Lp.2.1 (h0 + 1))) (bnd (sI m4 (h0 + 1) x3.toNatClampNeg ((0))) fun m5 => bnd (x3 + (1)) fun x6 => k3 x1 x2 x6 m5))
noncomputable def f_X8_playOnNew (h0 : Nat) (p1 : Int32) (p2 : Int32) (h3 : Nat) (h4 : Nat) (mem : Mm) : Option Mm :=
  lop (fun _ _ _ _ => none) (f_X8_playOnNew_B3 h0 p1 p2 h3 h4 ) 4000 p1 p2 ((0)) mem
theorem dd_X8_playOnNew : yX8_playOnNew.cls = RX8 ∧ yX8_playOnNew.cls ≠ "java/lang/invoke/MethodHandle" ∧ yX8_playOnNew.cls ≠ "java/lang/invoke/VarHandle" ∧ (parseMethodDescriptor yX8_playOnNew.desc).map (fun d => d.parameters.length) = some 4 := by decide +kernel
set_option maxHeartbeats 4000000 in
set_option maxRecDepth 100000 in
theorem k_X8_playOnNew {l : Launch} {ad : Nat → Nat} {cy : Nat → ClassId} {dC : Nat → ClassId} {dI : Nat → Nat → Nat} {ks : (Nat → Nat) × (Nat → Nat)} {h0 : Nat} {p1 : Int32} {p2 : Int32} {h3 : Nat} {h4 : Nat} {mem : Mm} {mem2 : Mm} (e0 : Lp.1 h0 = 8) (e3 : Lp.1 h3 = 7) (e4 : Lp.1 h4 = 1) (h : f_X8_playOnNew h0 p1 p2 h3 h4 mem = some mem2) : CtV l Lp ad cy dC dI ks yX8_playOnNew cX8_playOnNew 6 none ({ frames := 1, cells := 0, slots := 0, locals := 26 }) [.ref (ad (h0)), .int (p1), .int (p2), .ref (ad (h3)), .ref (ad (h4))] mem mem2 := by
  refine CtV.of (cc := cX8_playOnNew) (maxL := 6) (ret := none) (own := RX8) rfl (by decide) (Nat.le_of_ble_eq_true rfl) ?_
  intro p e s m args below meth c A X
  have hts := X.2.2.2.2.1
  have hl55 := X.2.2.2.2.2.2.1 (.fieldLinkNest "StationPiano$Suspects" 55 "StationPiano$Station" "passers" "[LStationPiano$Passer;" "StationPiano") (List.mem_of_getElem? (i := 31) rfl)
  have hJ67 : ∀ (k27 : Int32 → Int32 → Int32 → Mm → Option Mm) (hk27 : ∀ (x7 : Int32) (x8 : Int32) (x9 : Int32) (m10 : Mm), k27 x7 x8 x9 m10 = some mem2 → Jd p l e ({ frames := 1, cells := 0, slots := 0, locals := 26 }) s m args below meth c 6 (MQ below (PsV Lp ad cy dC dI mem2 A) args s 0 0 A) A dC dI cy Lp ad m10 27 [(0, .ref (ad (h0))), (1, .int (x7)), (2, .int (x8)), (3, .ref (ad (h3))), (4, .ref (ad (h4))), (5, .int (x9))] []) (x13 : Int32) (x14 : Int32) (x15 : Int32) (m16 : Mm), f_X8_playOnNew_J67 h0 p1 p2 h3 h4 k27 x13 x14 x15 m16 = some mem2 → Jd p l e ({ frames := 1, cells := 0, slots := 0, locals := 26 }) s m args below meth c 6 (MQ below (PsV Lp ad cy dC dI mem2 A) args s 0 0 A) A dC dI cy Lp ad m16 67 [(0, .ref (ad (h0))), (1, .int (x13)), (2, .int (x14)), (3, .ref (ad (h3))), (4, .ref (ad (h4))), (5, .int (x15))] [] := by
    intro k27 hk27 x13 x14 x15 m16 h
    unfold f_X8_playOnNew_J67 at h
    refine r_inc h (fun x17 e9 h => ?_)
    refine r_iinc (v := x17) (lv2 := [(5, .int (x17)), (0, .ref (ad (h0))), (1, .int (x13)), (2, .int (x14)), (3, .ref (ad (h3))), (4, .ref (ad (h4)))]) X dX8_playOnNew_67 5 rfl (by rw [e9]; rfl) (by decide) rfl ?_
    refine r_goto (tgt := 27) X dX8_playOnNew_70 (by decide) ?_
    exact r_sub [1, 2, 3, 4, 5, 0] rfl (hk27 x13 x14 x17 m16 h)
  have hJ27 : ∀ (k27 : Int32 → Int32 → Int32 → Mm → Option Mm) (hk27 : ∀ (x7 : Int32) (x8 : Int32) (x9 : Int32) (m10 : Mm), k27 x7 x8 x9 m10 = some mem2 → Jd p l e ({ frames := 1, cells := 0, slots := 0, locals := 26 }) s m args below meth c 6 (MQ below (PsV Lp ad cy dC dI mem2 A) args s 0 0 A) A dC dI cy Lp ad m10 27 [(0, .ref (ad (h0))), (1, .int (x7)), (2, .int (x8)), (3, .ref (ad (h3))), (4, .ref (ad (h4))), (5, .int (x9))] []) (x7 : Int32) (x8 : Int32) (x9 : Int32) (m10 : Mm), f_X8_playOnNew_B27 h0 p1 p2 h3 h4 k27 x7 x8 x9 m10 = some mem2 → Jd p l e ({ frames := 1, cells := 0, slots := 0, locals := 26 }) s m args below meth c 6 (MQ below (PsV Lp ad cy dC dI mem2 A) args s 0 0 A) A dC dI cy Lp ad m10 27 [(0, .ref (ad (h0))), (1, .int (x7)), (2, .int (x8)), (3, .ref (ad (h3))), (4, .ref (ad (h4))), (5, .int (x9))] [] := by
    intro k27 hk27 x7 x8 x9 m10 h
    unfold f_X8_playOnNew_B27 at h
    refine r_iload X dX8_playOnNew_27 5 rfl ?_
    refine r_iload_n X dX8_playOnNew_29 rfl 2 rfl ?_
    refine r_icmp_ge (tgt := 73) X dX8_playOnNew_30 (by decide) h (fun h => ?_) (fun h => ?_)
    · exact r_vret X rfl dX8_playOnNew_73 h
    · refine r_iload X dX8_playOnNew_33 5 rfl ?_
      refine r_bipush (v := (7)) X dX8_playOnNew_35 (by decide) ?_
      refine r_icmp_ge (tgt := 73) X dX8_playOnNew_37 (by decide) h (fun h => ?_) (fun h => ?_)
      · exact r_vret X rfl dX8_playOnNew_73 h
      · refine r_iload_n X dX8_playOnNew_40 rfl 1 rfl ?_
        refine r_iload X dX8_playOnNew_41 5 rfl ?_
        refine r_ishr X dX8_playOnNew_43 ?_
        refine r_iconst (v := (1)) X dX8_playOnNew_44 (by decide) ?_
        refine r_iand X dX8_playOnNew_45 ?_
        refine r_if_eq (tgt := 67) X dX8_playOnNew_46 (by decide) h (fun h => ?_) (fun h => ?_)
        · exact r_sub [0, 1, 2, 3, 4, 5] rfl (hJ67 k27 hk27 x7 x8 x9 m10 h)
        · refine r_aload X dX8_playOnNew_49 4 rfl ?_
          refine r_aload_n X dX8_playOnNew_51 rfl 3 rfl ?_
          refine r_getFN X (k := 3) (of := 9) rfl (Lp_N e3 rfl) e3 rfl (by decide) ui_7 (by decide) hl55 rfl dX8_playOnNew_52 ?_
          refine r_iload X dX8_playOnNew_55 5 rfl ?_
          refine r_ald18 X (Lp_N (Lp_7_3 e3) rfl) (Lp_7_3 e3) (Lp_e18 (Lp_7_3 e3)) rfl h dX8_playOnNew_57 (fun q11 eq11 h => ?_)
          refine r_iload X dX8_playOnNew_58 5 rfl ?_
          refine r_aload_n X dX8_playOnNew_60 rfl 0 rfl ?_
          refine r_getF X (k := 0) (of := 1) rfl (Lp_N e0 rfl) e0 rfl (by decide) ui_8 (by decide) uw2_79 rfl dX8_playOnNew_61 ?_
          refine r_cVV (As := [.ref (ad (q11)), .int (x9), .ref (ad (h0 + 1))]) (rest := []) X (fun m9 hg => k_X1_strikeAll e4 eq11 (Lp_8_0 e0) hg) h (Lp_N e4 rfl) e4 rfl (by decide) uw5_3 uw4_126 uw4_127 uw1_11 uw4_128 rfl rfl dd_X1_strikeAll ⟨Nat.le_of_ble_eq_true rfl, Nat.le_of_ble_eq_true rfl⟩ rfl (Nat.le_of_ble_eq_true rfl) dX8_playOnNew_64 rfl (fun m12 h => ?_)
          exact r_sub [0, 1, 2, 3, 4, 5] rfl (hJ67 k27 hk27 x7 x8 x9 m12 h)
  have hL27 : ∀ (n : Nat), ∀ (x7 : Int32) (x8 : Int32) (x9 : Int32) (m10 : Mm), lop (fun _ _ _ _ => none) (f_X8_playOnNew_B27 h0 p1 p2 h3 h4 ) n x7 x8 x9 m10 = some mem2 → Jd p l e ({ frames := 1, cells := 0, slots := 0, locals := 26 }) s m args below meth c 6 (MQ below (PsV Lp ad cy dC dI mem2 A) args s 0 0 A) A dC dI cy Lp ad m10 27 [(0, .ref (ad (h0))), (1, .int (x7)), (2, .int (x8)), (3, .ref (ad (h3))), (4, .ref (ad (h4))), (5, .int (x9))] [] := by
    intro  n
    induction n with
    | zero => intro _ _ _ _ h; cases h
    | succ n ih => intro a0 a1 a2 a3 h; exact hJ27  _ ih a0 a1 a2 a3 h
  have hJ3 : ∀ (k3 : Int32 → Int32 → Int32 → Mm → Option Mm) (hk3 : ∀ (x1 : Int32) (x2 : Int32) (x3 : Int32) (m4 : Mm), k3 x1 x2 x3 m4 = some mem2 → Jd p l e ({ frames := 1, cells := 0, slots := 0, locals := 26 }) s m args below meth c 6 (MQ below (PsV Lp ad cy dC dI mem2 A) args s 0 0 A) A dC dI cy Lp ad m4 3 [(0, .ref (ad (h0))), (1, .int (x1)), (2, .int (x2)), (3, .ref (ad (h3))), (4, .ref (ad (h4))), (5, .int (x3))] []) (x1 : Int32) (x2 : Int32) (x3 : Int32) (m4 : Mm), f_X8_playOnNew_B3 h0 p1 p2 h3 h4 k3 x1 x2 x3 m4 = some mem2 → Jd p l e ({ frames := 1, cells := 0, slots := 0, locals := 26 }) s m args below meth c 6 (MQ below (PsV Lp ad cy dC dI mem2 A) args s 0 0 A) A dC dI cy Lp ad m4 3 [(0, .ref (ad (h0))), (1, .int (x1)), (2, .int (x2)), (3, .ref (ad (h3))), (4, .ref (ad (h4))), (5, .int (x3))] [] := by
    intro k3 hk3 x1 x2 x3 m4 h
    unfold f_X8_playOnNew_B3 at h
    refine r_iload X dX8_playOnNew_3 5 rfl ?_
    refine r_bipush (v := (12)) X dX8_playOnNew_5 (by decide) ?_
    refine r_icmp_ge (tgt := 24) X dX8_playOnNew_7 (by decide) h (fun h => ?_) (fun h => ?_)
    · refine r_iconst (v := (0)) X dX8_playOnNew_24 (by decide) ?_
      refine r_istore (lv2 := [(5, .int ((0))), (0, .ref (ad (h0))), (1, .int (x1)), (2, .int (x2)), (3, .ref (ad (h3))), (4, .ref (ad (h4)))]) X dX8_playOnNew_25 (by decide) rfl ?_
      exact r_sub [1, 2, 3, 4, 5, 0] rfl (hL27 4000 x1 x2 ((0)) m4 h)
    · refine r_aload_n X dX8_playOnNew_10 rfl 0 rfl ?_
      refine r_getF X (k := 0) (of := 1) rfl (Lp_N e0 rfl) e0 rfl (by decide) ui_8 (by decide) uw2_79 rfl dX8_playOnNew_11 ?_
      refine r_iload X dX8_playOnNew_14 5 rfl ?_
      refine r_iconst (v := (0)) X dX8_playOnNew_16 (by decide) ?_
      refine r_iast X (Lp_N (Lp_8_0 e0) rfl) (Lp_8_0 e0) h dX8_playOnNew_17 (fun h => ?_)
      refine r_nmM h (fun m5 h => ?_)
      refine r_inc h (fun x6 e9 h => ?_)
      refine r_iinc (v := x6) (lv2 := [(5, .int (x6)), (0, .ref (ad (h0))), (1, .int (x1)), (2, .int (x2)), (3, .ref (ad (h3))), (4, .ref (ad (h4)))]) X dX8_playOnNew_18 5 rfl (by rw [e9]; rfl) (by decide) rfl ?_
      refine r_goto (tgt := 3) X dX8_playOnNew_21 (by decide) ?_
      exact r_sub [1, 2, 3, 4, 5, 0] rfl (hk3 x1 x2 x6 m5 h)
  have hL3 : ∀ (n : Nat), ∀ (x1 : Int32) (x2 : Int32) (x3 : Int32) (m4 : Mm), lop (fun _ _ _ _ => none) (f_X8_playOnNew_B3 h0 p1 p2 h3 h4 ) n x1 x2 x3 m4 = some mem2 → Jd p l e ({ frames := 1, cells := 0, slots := 0, locals := 26 }) s m args below meth c 6 (MQ below (PsV Lp ad cy dC dI mem2 A) args s 0 0 A) A dC dI cy Lp ad m4 3 [(0, .ref (ad (h0))), (1, .int (x1)), (2, .int (x2)), (3, .ref (ad (h3))), (4, .ref (ad (h4))), (5, .int (x3))] [] := by
    intro  n
    induction n with
    | zero => intro _ _ _ _ h; cases h
    | succ n ih => intro a0 a1 a2 a3 h; exact hJ3  _ ih a0 a1 a2 a3 h
  unfold f_X8_playOnNew at h
  refine r_iconst (v := (0)) X dX8_playOnNew_0 (by decide) ?_
  refine r_istore (lv2 := [(5, .int ((0))), (0, .ref (ad (h0))), (1, .int (p1)), (2, .int (p2)), (3, .ref (ad (h3))), (4, .ref (ad (h4)))]) X dX8_playOnNew_1 (by decide) rfl ?_
  exact r_sub [1, 2, 3, 4, 5, 0] rfl (hL3 4000 p1 p2 ((0)) mem h)
noncomputable def f_X8_tallyWear_J40 (h0 : Nat) (k2 : Int32 → Mm → Option Mm) (x5 : Int32) (m6 : Mm) : Option Mm :=
  bnd (x5 + (1)) fun x7 => k2 x7 m6
noncomputable def f_X8_tallyWear_B2 (h0 : Nat) (k2 : Int32 → Mm → Option Mm) (x1 : Int32) (m2 : Mm) : Option Mm :=
  if ((12)) ≤ x1 then (some m2) else (grd (inb x1 (Lp.2.1 (h0 + 1))) (bnd ((x1 * ((10))) + (gI m2 (h0 + 1) x1.toNatClampNeg)) fun x3 => if x3 < 0 then (f_X8_tallyWear_J40 h0 k2 x1 m2) else (if ((120)) ≤ x3 then (f_X8_tallyWear_J40 h0 k2 x1 m2) else (grd (inb x3 (Lp.2.1 (h0 + 2))) (grd (inb x3 (Lp.2.1 (h0 + 2))) (bnd (sI m2 (h0 + 2) x3.toNatClampNeg ((gI m2 (h0 + 2) x3.toNatClampNeg) + ((1)))) fun m4 => f_X8_tallyWear_J40 h0 k2 x1 m4))))))
noncomputable def f_X8_tallyWear (h0 : Nat) (mem : Mm) : Option Mm :=
  lop (fun _ _ => none) (f_X8_tallyWear_B2 h0 ) 4000 ((0)) mem
theorem dd_X8_tallyWear : yX8_tallyWear.cls = RX8 ∧ yX8_tallyWear.cls ≠ "java/lang/invoke/MethodHandle" ∧ yX8_tallyWear.cls ≠ "java/lang/invoke/VarHandle" ∧ (parseMethodDescriptor yX8_tallyWear.desc).map (fun d => d.parameters.length) = some 0 := by decide +kernel
set_option maxHeartbeats 4000000 in
set_option maxRecDepth 100000 in
theorem k_X8_tallyWear {l : Launch} {ad : Nat → Nat} {cy : Nat → ClassId} {dC : Nat → ClassId} {dI : Nat → Nat → Nat} {ks : (Nat → Nat) × (Nat → Nat)} {h0 : Nat} {mem : Mm} {mem2 : Mm} (e0 : Lp.1 h0 = 8) (h : f_X8_tallyWear h0 mem = some mem2) : CtV l Lp ad cy dC dI ks yX8_tallyWear cX8_tallyWear 3 none ({ frames := 0, cells := 0, slots := 0, locals := 0 }) [.ref (ad (h0))] mem mem2 := by
  refine CtV.of (cc := cX8_tallyWear) (maxL := 3) (ret := none) (own := RX8) rfl (by decide) (Nat.le_of_ble_eq_true rfl) ?_
  intro p e s m args below meth c A X
  have hts := X.2.2.2.2.1
  have hJ40 : ∀ (k2 : Int32 → Mm → Option Mm) (hk2 : ∀ (x1 : Int32) (m2 : Mm), k2 x1 m2 = some mem2 → Jd p l e ({ frames := 0, cells := 0, slots := 0, locals := 0 }) s m args below meth c 3 (MQ below (PsV Lp ad cy dC dI mem2 A) args s 0 0 A) A dC dI cy Lp ad m2 2 [(0, .ref (ad (h0))), (1, .int (x1))] []) (x5 : Int32) (m6 : Mm), f_X8_tallyWear_J40 h0 k2 x5 m6 = some mem2 → Jd p l e ({ frames := 0, cells := 0, slots := 0, locals := 0 }) s m args below meth c 3 (MQ below (PsV Lp ad cy dC dI mem2 A) args s 0 0 A) A dC dI cy Lp ad m6 40 [(0, .ref (ad (h0))), (1, .int (x5))] [] := by
    intro k2 hk2 x5 m6 h
    unfold f_X8_tallyWear_J40 at h
    refine r_inc h (fun x7 e9 h => ?_)
    refine r_iinc (v := x7) (lv2 := [(1, .int (x7)), (0, .ref (ad (h0)))]) X dX8_tallyWear_40 1 rfl (by rw [e9]; rfl) (by decide) rfl ?_
    refine r_goto (tgt := 2) X dX8_tallyWear_43 (by decide) ?_
    exact r_sub [1, 0] rfl (hk2 x7 m6 h)
  have hJ2 : ∀ (k2 : Int32 → Mm → Option Mm) (hk2 : ∀ (x1 : Int32) (m2 : Mm), k2 x1 m2 = some mem2 → Jd p l e ({ frames := 0, cells := 0, slots := 0, locals := 0 }) s m args below meth c 3 (MQ below (PsV Lp ad cy dC dI mem2 A) args s 0 0 A) A dC dI cy Lp ad m2 2 [(0, .ref (ad (h0))), (1, .int (x1))] []) (x1 : Int32) (m2 : Mm), f_X8_tallyWear_B2 h0 k2 x1 m2 = some mem2 → Jd p l e ({ frames := 0, cells := 0, slots := 0, locals := 0 }) s m args below meth c 3 (MQ below (PsV Lp ad cy dC dI mem2 A) args s 0 0 A) A dC dI cy Lp ad m2 2 [(0, .ref (ad (h0))), (1, .int (x1))] [] := by
    intro k2 hk2 x1 m2 h
    unfold f_X8_tallyWear_B2 at h
    refine r_iload_n X dX8_tallyWear_2 rfl 1 rfl ?_
    refine r_bipush (v := (12)) X dX8_tallyWear_3 (by decide) ?_
    refine r_icmp_ge (tgt := 46) X dX8_tallyWear_5 (by decide) h (fun h => ?_) (fun h => ?_)
    · exact r_vret X rfl dX8_tallyWear_46 h
    · refine r_iload_n X dX8_tallyWear_8 rfl 1 rfl ?_
      refine r_bipush (v := (10)) X dX8_tallyWear_9 (by decide) ?_
      refine r_imul X dX8_tallyWear_11 ?_
      refine r_aload_n X dX8_tallyWear_12 rfl 0 rfl ?_
      refine r_getF X (k := 0) (of := 1) rfl (Lp_N e0 rfl) e0 rfl (by decide) ui_8 (by decide) uw2_79 rfl dX8_tallyWear_13 ?_
      refine r_iload_n X dX8_tallyWear_16 rfl 1 rfl ?_
      refine r_iald X (Lp_N (Lp_8_0 e0) rfl) (Lp_8_0 e0) h dX8_tallyWear_17 (fun h => ?_)
      refine r_iadd X dX8_tallyWear_18 ?_
      refine r_nmI h (fun x3 h => ?_)
      refine r_istore_n (lv2 := [(2, .int (x3)), (0, .ref (ad (h0))), (1, .int (x1))]) X dX8_tallyWear_19 rfl (by decide) rfl ?_
      refine r_iload_n X dX8_tallyWear_20 rfl 0 rfl ?_
      refine r_if_lt (tgt := 40) X dX8_tallyWear_21 (by decide) h (fun h => ?_) (fun h => ?_)
      · exact r_sub [1, 2] rfl (hJ40 k2 hk2 x1 m2 h)
      · refine r_iload_n X dX8_tallyWear_24 rfl 0 rfl ?_
        refine r_bipush (v := (120)) X dX8_tallyWear_25 (by decide) ?_
        refine r_icmp_ge (tgt := 40) X dX8_tallyWear_27 (by decide) h (fun h => ?_) (fun h => ?_)
        · exact r_sub [1, 2] rfl (hJ40 k2 hk2 x1 m2 h)
        · refine r_aload_n X dX8_tallyWear_30 rfl 1 rfl ?_
          refine r_getF X (k := 1) (of := 2) rfl (Lp_N e0 rfl) e0 rfl (by decide) ui_8 (by decide) uw2_80 rfl dX8_tallyWear_31 ?_
          refine r_iload_n X dX8_tallyWear_34 rfl 0 rfl ?_
          refine r_dup2 X dX8_tallyWear_35 rfl rfl ?_
          refine r_iald X (Lp_N (Lp_8_1 e0) rfl) (Lp_8_1 e0) h dX8_tallyWear_36 (fun h => ?_)
          refine r_iconst (v := (1)) X dX8_tallyWear_37 (by decide) ?_
          refine r_iadd X dX8_tallyWear_38 ?_
          refine r_iast X (Lp_N (Lp_8_1 e0) rfl) (Lp_8_1 e0) h dX8_tallyWear_39 (fun h => ?_)
          refine r_nmM h (fun m4 h => ?_)
          exact r_sub [1, 2] rfl (hJ40 k2 hk2 x1 m4 h)
  have hL2 : ∀ (n : Nat), ∀ (x1 : Int32) (m2 : Mm), lop (fun _ _ => none) (f_X8_tallyWear_B2 h0 ) n x1 m2 = some mem2 → Jd p l e ({ frames := 0, cells := 0, slots := 0, locals := 0 }) s m args below meth c 3 (MQ below (PsV Lp ad cy dC dI mem2 A) args s 0 0 A) A dC dI cy Lp ad m2 2 [(0, .ref (ad (h0))), (1, .int (x1))] [] := by
    intro  n
    induction n with
    | zero => intro _ _ h; cases h
    | succ n ih => intro a0 a1 h; exact hJ2  _ ih a0 a1 h
  unfold f_X8_tallyWear at h
  refine r_iconst (v := (0)) X dX8_tallyWear_0 (by decide) ?_
  refine r_istore_n (lv2 := [(1, .int ((0))), (0, .ref (ad (h0)))]) X dX8_tallyWear_1 rfl (by decide) rfl ?_
  exact r_sub [1, 0] rfl (hL2 4000 ((0)) mem h)
noncomputable def f_X8_search_J130 (h0 : Nat) (h1 : Nat) (h2 : Nat) (h3 : Nat) (k66 : Int32 → Int32 → Int32 → Mm → Option Mm) (x24 : Int32) (x25 : Int32) (x26 : Int32) (m27 : Mm) : Option Mm :=
  bnd (x26 + (1)) fun x28 => k66 x24 x25 x28 m27
noncomputable def f_X8_search_B66 (h0 : Nat) (h1 : Nat) (h2 : Nat) (h3 : Nat) (k66 : Int32 → Int32 → Int32 → Mm → Option Mm) (x13 : Int32) (x14 : Int32) (x15 : Int32) (m16 : Mm) : Option Mm :=
  if x14 ≤ x15 then (some m16) else (bdV (f_X8_playOnNew h0 x15 x13 h1 h2 m16) fun m17 => bdI (f_X0_allSo h3 (h0 + 1) m17) fun x19 m18 => if x19 = 0 then (f_X8_search_J130 h0 h1 h2 h3 k66 x13 x14 x15 m18) else (bnd (sI m18 h0 2 ((gI m18 h0 2) + ((1)))) fun m20 => bnd (sI m20 h0 3 ((gI m20 h0 3) &&& x15)) fun m21 => bnd (sI m21 h0 4 ((gI m21 h0 4) ||| x15)) fun m22 => bdV (f_X8_tallyWear h0 m22) fun m23 => f_X8_search_J130 h0 h1 h2 h3 k66 x13 x14 x15 m23))
noncomputable def f_X8_search_B42 (h0 : Nat) (h1 : Nat) (h2 : Nat) (h3 : Nat) (k42 : Int32 → Int32 → Int32 → Mm → Option Mm) (x7 : Int32) (x8 : Int32) (x9 : Int32) (m10 : Mm) : Option Mm :=
  if ((120)) ≤ x9 then (lop (fun _ _ _ _ => none) (f_X8_search_B66 h0 h1 h2 h3 ) 4000 x7 x8 ((0)) m10) else (grd (inb x9 (Lp.2.1 (h0 + 2))) (bnd (sI m10 (h0 + 2) x9.toNatClampNeg ((0))) fun m11 => bnd (x9 + (1)) fun x12 => k42 x7 x8 x12 m11))
noncomputable def f_X8_search (h0 : Nat) (h1 : Nat) (h2 : Nat) (h3 : Nat) (mem : Mm) : Option Mm :=
  bnd (if gI mem h1 7 < (7) then gI mem h1 7 else (7)) fun x1 => bnd (if (0) < x1 then x1 else (0)) fun x2 => bnd (((1)) <<< (x2 &&& 31)) fun x3 => bnd (sI mem h0 2 ((0))) fun m4 => bnd (sI m4 h0 3 (x3 - ((1)))) fun m5 => bnd (sI m5 h0 4 ((0))) fun m6 => lop (fun _ _ _ _ => none) (f_X8_search_B42 h0 h1 h2 h3 ) 4000 x2 x3 ((0)) m6
theorem dd_X8_search : yX8_search.cls = RX8 ∧ yX8_search.cls ≠ "java/lang/invoke/MethodHandle" ∧ yX8_search.cls ≠ "java/lang/invoke/VarHandle" ∧ (parseMethodDescriptor yX8_search.desc).map (fun d => d.parameters.length) = some 3 := by decide +kernel
set_option maxHeartbeats 4000000 in
set_option maxRecDepth 100000 in
theorem k_X8_search {l : Launch} {ad : Nat → Nat} {cy : Nat → ClassId} {dC : Nat → ClassId} {dI : Nat → Nat → Nat} {ks : (Nat → Nat) × (Nat → Nat)} {h0 : Nat} {h1 : Nat} {h2 : Nat} {h3 : Nat} {mem : Mm} {mem2 : Mm} (e0 : Lp.1 h0 = 8) (e1 : Lp.1 h1 = 7) (e2 : Lp.1 h2 = 1) (e3 : Lp.1 h3 = 0) (h : f_X8_search h0 h1 h2 h3 mem = some mem2) : CtV l Lp ad cy dC dI ks yX8_search cX8_search 7 none ({ frames := 2, cells := 0, slots := 0, locals := 51 }) [.ref (ad (h0)), .ref (ad (h1)), .ref (ad (h2)), .ref (ad (h3))] mem mem2 := by
  refine CtV.of (cc := cX8_search) (maxL := 7) (ret := none) (own := RX8) rfl (by decide) (Nat.le_of_ble_eq_true rfl) ?_
  intro p e s m args below meth c A X
  have hts := X.2.2.2.2.1
  have hl18 := X.2.2.2.2.2.2.1 (.fieldLinkNest "StationPiano$Suspects" 18 "StationPiano$Station" "passerCount" "I" "StationPiano") (List.mem_of_getElem? (i := 38) rfl)
  have hJ130 : ∀ (k66 : Int32 → Int32 → Int32 → Mm → Option Mm) (hk66 : ∀ (x13 : Int32) (x14 : Int32) (x15 : Int32) (m16 : Mm), k66 x13 x14 x15 m16 = some mem2 → Jd p l e ({ frames := 2, cells := 0, slots := 0, locals := 51 }) s m args below meth c 7 (MQ below (PsV Lp ad cy dC dI mem2 A) args s 0 0 A) A dC dI cy Lp ad m16 66 [(0, .ref (ad (h0))), (1, .ref (ad (h1))), (2, .ref (ad (h2))), (3, .ref (ad (h3))), (4, .int (x13)), (5, .int (x14)), (6, .int (x15))] []) (x24 : Int32) (x25 : Int32) (x26 : Int32) (m27 : Mm), f_X8_search_J130 h0 h1 h2 h3 k66 x24 x25 x26 m27 = some mem2 → Jd p l e ({ frames := 2, cells := 0, slots := 0, locals := 51 }) s m args below meth c 7 (MQ below (PsV Lp ad cy dC dI mem2 A) args s 0 0 A) A dC dI cy Lp ad m27 130 [(0, .ref (ad (h0))), (1, .ref (ad (h1))), (2, .ref (ad (h2))), (3, .ref (ad (h3))), (4, .int (x24)), (5, .int (x25)), (6, .int (x26))] [] := by
    intro k66 hk66 x24 x25 x26 m27 h
    unfold f_X8_search_J130 at h
    refine r_inc h (fun x28 e9 h => ?_)
    refine r_iinc (v := x28) (lv2 := [(6, .int (x28)), (0, .ref (ad (h0))), (1, .ref (ad (h1))), (2, .ref (ad (h2))), (3, .ref (ad (h3))), (4, .int (x24)), (5, .int (x25))]) X dX8_search_130 6 rfl (by rw [e9]; rfl) (by decide) rfl ?_
    refine r_goto (tgt := 66) X dX8_search_133 (by decide) ?_
    exact r_sub [1, 2, 3, 4, 5, 6, 0] rfl (hk66 x24 x25 x28 m27 h)
  have hJ66 : ∀ (k66 : Int32 → Int32 → Int32 → Mm → Option Mm) (hk66 : ∀ (x13 : Int32) (x14 : Int32) (x15 : Int32) (m16 : Mm), k66 x13 x14 x15 m16 = some mem2 → Jd p l e ({ frames := 2, cells := 0, slots := 0, locals := 51 }) s m args below meth c 7 (MQ below (PsV Lp ad cy dC dI mem2 A) args s 0 0 A) A dC dI cy Lp ad m16 66 [(0, .ref (ad (h0))), (1, .ref (ad (h1))), (2, .ref (ad (h2))), (3, .ref (ad (h3))), (4, .int (x13)), (5, .int (x14)), (6, .int (x15))] []) (x13 : Int32) (x14 : Int32) (x15 : Int32) (m16 : Mm), f_X8_search_B66 h0 h1 h2 h3 k66 x13 x14 x15 m16 = some mem2 → Jd p l e ({ frames := 2, cells := 0, slots := 0, locals := 51 }) s m args below meth c 7 (MQ below (PsV Lp ad cy dC dI mem2 A) args s 0 0 A) A dC dI cy Lp ad m16 66 [(0, .ref (ad (h0))), (1, .ref (ad (h1))), (2, .ref (ad (h2))), (3, .ref (ad (h3))), (4, .int (x13)), (5, .int (x14)), (6, .int (x15))] [] := by
    intro k66 hk66 x13 x14 x15 m16 h
    unfold f_X8_search_B66 at h
    refine r_iload X dX8_search_66 6 rfl ?_
    refine r_iload X dX8_search_68 5 rfl ?_
    refine r_icmp_ge (tgt := 136) X dX8_search_70 (by decide) h (fun h => ?_) (fun h => ?_)
    · exact r_vret X rfl dX8_search_136 h
    · refine r_aload_n X dX8_search_73 rfl 0 rfl ?_
      refine r_iload X dX8_search_74 6 rfl ?_
      refine r_iload X dX8_search_76 4 rfl ?_
      refine r_aload_n X dX8_search_78 rfl 1 rfl ?_
      refine r_aload_n X dX8_search_79 rfl 2 rfl ?_
      refine r_cVV (As := [.int (x15), .int (x13), .ref (ad (h1)), .ref (ad (h2))]) (rest := []) X (fun m9 hg => k_X8_playOnNew e0 e1 e2 hg) h (Lp_N e0 rfl) e0 rfl (by decide) uw4_239 uw5_1 us3_3 uw1_10 uw5_2 rfl rfl dd_X8_playOnNew ⟨Nat.le_of_ble_eq_true rfl, Nat.le_of_ble_eq_true rfl⟩ rfl (Nat.le_of_ble_eq_true rfl) dX8_search_80 rfl (fun m17 h => ?_)
      refine r_aload_n X dX8_search_83 rfl 3 rfl ?_
      refine r_aload_n X dX8_search_84 rfl 0 rfl ?_
      refine r_getF X (k := 0) (of := 1) rfl (Lp_N e0 rfl) e0 rfl (by decide) ui_8 (by decide) uw2_79 rfl dX8_search_85 ?_
      refine r_cVI (As := [.ref (ad (h0 + 1))]) (rest := []) X (fun r9 m9 hg => k_X0_allSo e3 (Lp_8_0 e0) hg) h (Lp_N e3 rfl) e3 rfl (by decide) uw5_4 uw5_5 uw5_6 uw1_9 uw5_7 rfl rfl dd_X0_allSo ⟨Nat.le_of_ble_eq_true rfl, Nat.le_of_ble_eq_true rfl⟩ rfl (Nat.le_of_ble_eq_true rfl) dX8_search_88 rfl (fun x19 m18 h => ?_)
      refine r_if_eq (tgt := 130) X dX8_search_91 (by decide) h (fun h => ?_) (fun h => ?_)
      · exact r_sub [0, 1, 2, 3, 4, 5, 6] rfl (hJ130 k66 hk66 x13 x14 x15 m18 h)
      · refine r_aload_n X dX8_search_94 rfl 0 rfl ?_
        refine r_dup X dX8_search_95 rfl ?_
        refine r_getI X (k := 2) (Lp_N e0 rfl) e0 rfl (by decide) ui_8 (by decide) uw2_81 rfl dX8_search_96 ?_
        refine r_iconst (v := (1)) X dX8_search_99 (by decide) ?_
        refine r_iadd X dX8_search_100 ?_
        refine r_putI X (k := 2) (Lp_N e0 rfl) e0 rfl (by decide) ui_8 (by decide) uw2_81 tyX8_ok nmX8 rfl rfl rfl dX8_search_101 ?_
        refine r_nmM h (fun m20 h => ?_)
        refine r_aload_n X dX8_search_104 rfl 0 rfl ?_
        refine r_dup X dX8_search_105 rfl ?_
        refine r_getI X (k := 3) (Lp_N e0 rfl) e0 rfl (by decide) ui_8 (by decide) uw2_83 rfl dX8_search_106 ?_
        refine r_iload X dX8_search_109 6 rfl ?_
        refine r_iand X dX8_search_111 ?_
        refine r_putI X (k := 3) (Lp_N e0 rfl) e0 rfl (by decide) ui_8 (by decide) uw2_83 tyX8_ok nmX8 rfl rfl rfl dX8_search_112 ?_
        refine r_nmM h (fun m21 h => ?_)
        refine r_aload_n X dX8_search_115 rfl 0 rfl ?_
        refine r_dup X dX8_search_116 rfl ?_
        refine r_getI X (k := 4) (Lp_N e0 rfl) e0 rfl (by decide) ui_8 (by decide) uw2_85 rfl dX8_search_117 ?_
        refine r_iload X dX8_search_120 6 rfl ?_
        refine r_ior X dX8_search_122 ?_
        refine r_putI X (k := 4) (Lp_N e0 rfl) e0 rfl (by decide) ui_8 (by decide) uw2_85 tyX8_ok nmX8 rfl rfl rfl dX8_search_123 ?_
        refine r_nmM h (fun m22 h => ?_)
        refine r_aload_n X dX8_search_126 rfl 0 rfl ?_
        refine r_cVV (As := []) (rest := []) X (fun m9 hg => k_X8_tallyWear e0 hg) h (Lp_N e0 rfl) e0 rfl (by decide) uw5_8 uw5_10 us3_4 uw1_10 uw5_11 rfl rfl dd_X8_tallyWear ⟨Nat.le_of_ble_eq_true rfl, Nat.le_of_ble_eq_true rfl⟩ rfl (Nat.le_of_ble_eq_true rfl) dX8_search_127 rfl (fun m23 h => ?_)
        exact r_sub [0, 1, 2, 3, 4, 5, 6] rfl (hJ130 k66 hk66 x13 x14 x15 m23 h)
  have hL66 : ∀ (n : Nat), ∀ (x13 : Int32) (x14 : Int32) (x15 : Int32) (m16 : Mm), lop (fun _ _ _ _ => none) (f_X8_search_B66 h0 h1 h2 h3 ) n x13 x14 x15 m16 = some mem2 → Jd p l e ({ frames := 2, cells := 0, slots := 0, locals := 51 }) s m args below meth c 7 (MQ below (PsV Lp ad cy dC dI mem2 A) args s 0 0 A) A dC dI cy Lp ad m16 66 [(0, .ref (ad (h0))), (1, .ref (ad (h1))), (2, .ref (ad (h2))), (3, .ref (ad (h3))), (4, .int (x13)), (5, .int (x14)), (6, .int (x15))] [] := by
    intro  n
    induction n with
    | zero => intro _ _ _ _ h; cases h
    | succ n ih => intro a0 a1 a2 a3 h; exact hJ66  _ ih a0 a1 a2 a3 h
  have hJ42 : ∀ (k42 : Int32 → Int32 → Int32 → Mm → Option Mm) (hk42 : ∀ (x7 : Int32) (x8 : Int32) (x9 : Int32) (m10 : Mm), k42 x7 x8 x9 m10 = some mem2 → Jd p l e ({ frames := 2, cells := 0, slots := 0, locals := 51 }) s m args below meth c 7 (MQ below (PsV Lp ad cy dC dI mem2 A) args s 0 0 A) A dC dI cy Lp ad m10 42 [(0, .ref (ad (h0))), (1, .ref (ad (h1))), (2, .ref (ad (h2))), (3, .ref (ad (h3))), (4, .int (x7)), (5, .int (x8)), (6, .int (x9))] []) (x7 : Int32) (x8 : Int32) (x9 : Int32) (m10 : Mm), f_X8_search_B42 h0 h1 h2 h3 k42 x7 x8 x9 m10 = some mem2 → Jd p l e ({ frames := 2, cells := 0, slots := 0, locals := 51 }) s m args below meth c 7 (MQ below (PsV Lp ad cy dC dI mem2 A) args s 0 0 A) A dC dI cy Lp ad m10 42 [(0, .ref (ad (h0))), (1, .ref (ad (h1))), (2, .ref (ad (h2))), (3, .ref (ad (h3))), (4, .int (x7)), (5, .int (x8)), (6, .int (x9))] [] := by
    intro k42 hk42 x7 x8 x9 m10 h
    unfold f_X8_search_B42 at h
    refine r_iload X dX8_search_42 6 rfl ?_
    refine r_bipush (v := (120)) X dX8_search_44 (by decide) ?_
    refine r_icmp_ge (tgt := 63) X dX8_search_46 (by decide) h (fun h => ?_) (fun h => ?_)
    · refine r_iconst (v := (0)) X dX8_search_63 (by decide) ?_
      refine r_istore (lv2 := [(6, .int ((0))), (0, .ref (ad (h0))), (1, .ref (ad (h1))), (2, .ref (ad (h2))), (3, .ref (ad (h3))), (4, .int (x7)), (5, .int (x8))]) X dX8_search_64 (by decide) rfl ?_
      exact r_sub [1, 2, 3, 4, 5, 6, 0] rfl (hL66 4000 x7 x8 ((0)) m10 h)
    · refine r_aload_n X dX8_search_49 rfl 0 rfl ?_
      refine r_getF X (k := 1) (of := 2) rfl (Lp_N e0 rfl) e0 rfl (by decide) ui_8 (by decide) uw2_80 rfl dX8_search_50 ?_
      refine r_iload X dX8_search_53 6 rfl ?_
      refine r_iconst (v := (0)) X dX8_search_55 (by decide) ?_
      refine r_iast X (Lp_N (Lp_8_1 e0) rfl) (Lp_8_1 e0) h dX8_search_56 (fun h => ?_)
      refine r_nmM h (fun m11 h => ?_)
      refine r_inc h (fun x12 e9 h => ?_)
      refine r_iinc (v := x12) (lv2 := [(6, .int (x12)), (0, .ref (ad (h0))), (1, .ref (ad (h1))), (2, .ref (ad (h2))), (3, .ref (ad (h3))), (4, .int (x7)), (5, .int (x8))]) X dX8_search_57 6 rfl (by rw [e9]; rfl) (by decide) rfl ?_
      refine r_goto (tgt := 42) X dX8_search_60 (by decide) ?_
      exact r_sub [1, 2, 3, 4, 5, 6, 0] rfl (hk42 x7 x8 x12 m11 h)
  have hL42 : ∀ (n : Nat), ∀ (x7 : Int32) (x8 : Int32) (x9 : Int32) (m10 : Mm), lop (fun _ _ _ _ => none) (f_X8_search_B42 h0 h1 h2 h3 ) n x7 x8 x9 m10 = some mem2 → Jd p l e ({ frames := 2, cells := 0, slots := 0, locals := 51 }) s m args below meth c 7 (MQ below (PsV Lp ad cy dC dI mem2 A) args s 0 0 A) A dC dI cy Lp ad m10 42 [(0, .ref (ad (h0))), (1, .ref (ad (h1))), (2, .ref (ad (h2))), (3, .ref (ad (h3))), (4, .int (x7)), (5, .int (x8)), (6, .int (x9))] [] := by
    intro  n
    induction n with
    | zero => intro _ _ _ _ h; cases h
    | succ n ih => intro a0 a1 a2 a3 h; exact hJ42  _ ih a0 a1 a2 a3 h
  unfold f_X8_search at h
  refine r_iconst (v := (0)) X dX8_search_0 (by decide) ?_
  refine r_bipush (v := (7)) X dX8_search_1 (by decide) ?_
  refine r_aload_n X dX8_search_3 rfl 1 rfl ?_
  refine r_getIN X (k := 7) (Lp_N e1 rfl) e1 rfl (by decide) ui_7 (by decide) hl18 rfl dX8_search_4 ?_
  refine r_mmin X uw4_237 uw3_104 uw1_18 uw3_105 (Nat.le_of_ble_eq_true rfl) (Nat.le_of_ble_eq_true rfl) dX8_search_7 ?_
  refine r_nmI h (fun x1 h => ?_)
  refine r_mmax X uw4_238 uw3_101 uw1_18 uw3_102 (Nat.le_of_ble_eq_true rfl) (Nat.le_of_ble_eq_true rfl) dX8_search_10 ?_
  refine r_nmI h (fun x2 h => ?_)
  refine r_istore (lv2 := [(4, .int (x2)), (0, .ref (ad (h0))), (1, .ref (ad (h1))), (2, .ref (ad (h2))), (3, .ref (ad (h3)))]) X dX8_search_13 (by decide) rfl ?_
  refine r_iconst (v := (1)) X dX8_search_15 (by decide) ?_
  refine r_iload X dX8_search_16 0 rfl ?_
  refine r_ishl X dX8_search_18 ?_
  refine r_nmI h (fun x3 h => ?_)
  refine r_istore (lv2 := [(5, .int (x3)), (4, .int (x2)), (0, .ref (ad (h0))), (1, .ref (ad (h1))), (2, .ref (ad (h2))), (3, .ref (ad (h3)))]) X dX8_search_19 (by decide) rfl ?_
  refine r_aload_n X dX8_search_21 rfl 2 rfl ?_
  refine r_iconst (v := (0)) X dX8_search_22 (by decide) ?_
  refine r_putI X (k := 2) (Lp_N e0 rfl) e0 rfl (by decide) ui_8 (by decide) uw2_81 tyX8_ok nmX8 rfl rfl rfl dX8_search_23 ?_
  refine r_nmM h (fun m4 h => ?_)
  refine r_aload_n X dX8_search_26 rfl 2 rfl ?_
  refine r_iload X dX8_search_27 0 rfl ?_
  refine r_iconst (v := (1)) X dX8_search_29 (by decide) ?_
  refine r_isub X dX8_search_30 ?_
  refine r_putI X (k := 3) (Lp_N e0 rfl) e0 rfl (by decide) ui_8 (by decide) uw2_83 tyX8_ok nmX8 rfl rfl rfl dX8_search_31 ?_
  refine r_nmM h (fun m5 h => ?_)
  refine r_aload_n X dX8_search_34 rfl 2 rfl ?_
  refine r_iconst (v := (0)) X dX8_search_35 (by decide) ?_
  refine r_putI X (k := 4) (Lp_N e0 rfl) e0 rfl (by decide) ui_8 (by decide) uw2_85 tyX8_ok nmX8 rfl rfl rfl dX8_search_36 ?_
  refine r_nmM h (fun m6 h => ?_)
  refine r_iconst (v := (0)) X dX8_search_39 (by decide) ?_
  refine r_istore (lv2 := [(6, .int ((0))), (5, .int (x3)), (4, .int (x2)), (0, .ref (ad (h0))), (1, .ref (ad (h1))), (2, .ref (ad (h2))), (3, .ref (ad (h3)))]) X dX8_search_40 (by decide) rfl ?_
  exact r_sub [3, 4, 5, 6, 2, 1, 0] rfl (hL42 4000 x2 x3 ((0)) m6 h)
noncomputable def f_X8_mostAlike_J42 (h0 : Nat) (p1 : Int32) (k4 : Int32 → Int32 → Int32 → Mm → Option (Int32 × Mm)) (x7 : Int32) (x8 : Int32) (x9 : Int32) (m10 : Mm) : Option (Int32 × Mm) :=
  bnd (x9 + (1)) fun x11 => k4 x7 x8 x11 m10
noncomputable def f_X8_mostAlike_B4 (h0 : Nat) (p1 : Int32) (k4 : Int32 → Int32 → Int32 → Mm → Option (Int32 × Mm)) (x1 : Int32) (x2 : Int32) (x3 : Int32) (m4 : Mm) : Option (Int32 × Mm) :=
  if ((10)) ≤ x3 then (some (x2, m4)) else (bnd ((x1 * ((10))) + x3) fun x5 => if x5 < 0 then (f_X8_mostAlike_J42 h0 p1 k4 x1 x2 x3 m4) else (if ((120)) ≤ x5 then (f_X8_mostAlike_J42 h0 p1 k4 x1 x2 x3 m4) else (grd (inb x5 (Lp.2.1 (h0 + 2))) (bnd (if x2 < gI m4 (h0 + 2) x5.toNatClampNeg then gI m4 (h0 + 2) x5.toNatClampNeg else x2) fun x6 => f_X8_mostAlike_J42 h0 p1 k4 x1 x6 x3 m4))))
noncomputable def f_X8_mostAlike (h0 : Nat) (p1 : Int32) (mem : Mm) : Option (Int32 × Mm) :=
  lop (fun _ _ _ _ => none) (f_X8_mostAlike_B4 h0 p1 ) 4000 p1 ((0)) ((0)) mem
theorem dd_X8_mostAlike : yX8_mostAlike.cls = RX8 ∧ yX8_mostAlike.cls ≠ "java/lang/invoke/MethodHandle" ∧ yX8_mostAlike.cls ≠ "java/lang/invoke/VarHandle" ∧ (parseMethodDescriptor yX8_mostAlike.desc).map (fun d => d.parameters.length) = some 1 := by decide +kernel
set_option maxHeartbeats 4000000 in
set_option maxRecDepth 100000 in
theorem k_X8_mostAlike {l : Launch} {ad : Nat → Nat} {cy : Nat → ClassId} {dC : Nat → ClassId} {dI : Nat → Nat → Nat} {ks : (Nat → Nat) × (Nat → Nat)} {h0 : Nat} {p1 : Int32} {mem : Mm} {r2 : Int32} {mem2 : Mm} (e0 : Lp.1 h0 = 8) (h : f_X8_mostAlike h0 p1 mem = some (r2, mem2)) : CtI l Lp ad cy dC dI ks yX8_mostAlike cX8_mostAlike 5 (some .int) ({ frames := 1, cells := 0, slots := 0, locals := 21 }) [.ref (ad (h0)), .int (p1)] mem r2 mem2 := by
  refine CtI.of (cc := cX8_mostAlike) (maxL := 5) (ret := (some .int)) (own := RX8) rfl (by decide) (Nat.le_of_ble_eq_true rfl) ?_
  intro p e s m args below meth c A X
  have hts := X.2.2.2.2.1
  have hJ42 : ∀ (k4 : Int32 → Int32 → Int32 → Mm → Option (Int32 × Mm)) (hk4 : ∀ (x1 : Int32) (x2 : Int32) (x3 : Int32) (m4 : Mm), k4 x1 x2 x3 m4 = some (r2, mem2) → Jd p l e ({ frames := 1, cells := 0, slots := 0, locals := 21 }) s m args below meth c 5 (MQ below (PsI Lp ad cy dC dI r2 mem2 A) args s 0 0 A) A dC dI cy Lp ad m4 4 [(0, .ref (ad (h0))), (1, .int (x1)), (2, .int (x2)), (3, .int (x3))] []) (x7 : Int32) (x8 : Int32) (x9 : Int32) (m10 : Mm), f_X8_mostAlike_J42 h0 p1 k4 x7 x8 x9 m10 = some (r2, mem2) → Jd p l e ({ frames := 1, cells := 0, slots := 0, locals := 21 }) s m args below meth c 5 (MQ below (PsI Lp ad cy dC dI r2 mem2 A) args s 0 0 A) A dC dI cy Lp ad m10 42 [(0, .ref (ad (h0))), (1, .int (x7)), (2, .int (x8)), (3, .int (x9))] [] := by
    intro k4 hk4 x7 x8 x9 m10 h
    unfold f_X8_mostAlike_J42 at h
    refine r_inc h (fun x11 e9 h => ?_)
    refine r_iinc (v := x11) (lv2 := [(3, .int (x11)), (0, .ref (ad (h0))), (1, .int (x7)), (2, .int (x8))]) X dX8_mostAlike_42 3 rfl (by rw [e9]; rfl) (by decide) rfl ?_
    refine r_goto (tgt := 4) X dX8_mostAlike_45 (by decide) ?_
    exact r_sub [1, 2, 3, 0] rfl (hk4 x7 x8 x11 m10 h)
  have hJ4 : ∀ (k4 : Int32 → Int32 → Int32 → Mm → Option (Int32 × Mm)) (hk4 : ∀ (x1 : Int32) (x2 : Int32) (x3 : Int32) (m4 : Mm), k4 x1 x2 x3 m4 = some (r2, mem2) → Jd p l e ({ frames := 1, cells := 0, slots := 0, locals := 21 }) s m args below meth c 5 (MQ below (PsI Lp ad cy dC dI r2 mem2 A) args s 0 0 A) A dC dI cy Lp ad m4 4 [(0, .ref (ad (h0))), (1, .int (x1)), (2, .int (x2)), (3, .int (x3))] []) (x1 : Int32) (x2 : Int32) (x3 : Int32) (m4 : Mm), f_X8_mostAlike_B4 h0 p1 k4 x1 x2 x3 m4 = some (r2, mem2) → Jd p l e ({ frames := 1, cells := 0, slots := 0, locals := 21 }) s m args below meth c 5 (MQ below (PsI Lp ad cy dC dI r2 mem2 A) args s 0 0 A) A dC dI cy Lp ad m4 4 [(0, .ref (ad (h0))), (1, .int (x1)), (2, .int (x2)), (3, .int (x3))] [] := by
    intro k4 hk4 x1 x2 x3 m4 h
    unfold f_X8_mostAlike_B4 at h
    refine r_iload_n X dX8_mostAlike_4 rfl 3 rfl ?_
    refine r_bipush (v := (10)) X dX8_mostAlike_5 (by decide) ?_
    refine r_icmp_ge (tgt := 48) X dX8_mostAlike_7 (by decide) h (fun h => ?_) (fun h => ?_)
    · refine r_iload_n X dX8_mostAlike_48 rfl 2 rfl ?_
      exact r_iret2 X rfl dX8_mostAlike_49 h
    · refine r_iload_n X dX8_mostAlike_10 rfl 1 rfl ?_
      refine r_bipush (v := (10)) X dX8_mostAlike_11 (by decide) ?_
      refine r_imul X dX8_mostAlike_13 ?_
      refine r_iload_n X dX8_mostAlike_14 rfl 3 rfl ?_
      refine r_iadd X dX8_mostAlike_15 ?_
      refine r_nmI h (fun x5 h => ?_)
      refine r_istore (lv2 := [(4, .int (x5)), (0, .ref (ad (h0))), (1, .int (x1)), (2, .int (x2)), (3, .int (x3))]) X dX8_mostAlike_16 (by decide) rfl ?_
      refine r_iload X dX8_mostAlike_18 0 rfl ?_
      refine r_if_lt (tgt := 42) X dX8_mostAlike_20 (by decide) h (fun h => ?_) (fun h => ?_)
      · exact r_sub [1, 2, 3, 4] rfl (hJ42 k4 hk4 x1 x2 x3 m4 h)
      · refine r_iload X dX8_mostAlike_23 0 rfl ?_
        refine r_bipush (v := (120)) X dX8_mostAlike_25 (by decide) ?_
        refine r_icmp_ge (tgt := 42) X dX8_mostAlike_27 (by decide) h (fun h => ?_) (fun h => ?_)
        · exact r_sub [1, 2, 3, 4] rfl (hJ42 k4 hk4 x1 x2 x3 m4 h)
        · refine r_iload_n X dX8_mostAlike_30 rfl 3 rfl ?_
          refine r_aload_n X dX8_mostAlike_31 rfl 1 rfl ?_
          refine r_getF X (k := 1) (of := 2) rfl (Lp_N e0 rfl) e0 rfl (by decide) ui_8 (by decide) uw2_80 rfl dX8_mostAlike_32 ?_
          refine r_iload X dX8_mostAlike_35 0 rfl ?_
          refine r_iald X (Lp_N (Lp_8_1 e0) rfl) (Lp_8_1 e0) h dX8_mostAlike_37 (fun h => ?_)
          refine r_mmax X uw4_238 uw3_101 uw1_18 uw3_102 (Nat.le_of_ble_eq_true rfl) (Nat.le_of_ble_eq_true rfl) dX8_mostAlike_38 ?_
          refine r_nmI h (fun x6 h => ?_)
          refine r_istore_n (lv2 := [(2, .int (x6)), (4, .int (x5)), (0, .ref (ad (h0))), (1, .int (x1)), (3, .int (x3))]) X dX8_mostAlike_41 rfl (by decide) rfl ?_
          exact r_sub [2, 3, 0, 4] rfl (hJ42 k4 hk4 x1 x6 x3 m4 h)
  have hL4 : ∀ (n : Nat), ∀ (x1 : Int32) (x2 : Int32) (x3 : Int32) (m4 : Mm), lop (fun _ _ _ _ => none) (f_X8_mostAlike_B4 h0 p1 ) n x1 x2 x3 m4 = some (r2, mem2) → Jd p l e ({ frames := 1, cells := 0, slots := 0, locals := 21 }) s m args below meth c 5 (MQ below (PsI Lp ad cy dC dI r2 mem2 A) args s 0 0 A) A dC dI cy Lp ad m4 4 [(0, .ref (ad (h0))), (1, .int (x1)), (2, .int (x2)), (3, .int (x3))] [] := by
    intro  n
    induction n with
    | zero => intro _ _ _ _ h; cases h
    | succ n ih => intro a0 a1 a2 a3 h; exact hJ4  _ ih a0 a1 a2 a3 h
  unfold f_X8_mostAlike at h
  refine r_iconst (v := (0)) X dX8_mostAlike_0 (by decide) ?_
  refine r_istore_n (lv2 := [(2, .int ((0))), (0, .ref (ad (h0))), (1, .int (p1))]) X dX8_mostAlike_1 rfl (by decide) rfl ?_
  refine r_iconst (v := (0)) X dX8_mostAlike_2 (by decide) ?_
  refine r_istore_n (lv2 := [(3, .int ((0))), (2, .int ((0))), (0, .ref (ad (h0))), (1, .int (p1))]) X dX8_mostAlike_3 rfl (by decide) rfl ?_
  exact r_sub [2, 3, 1, 0] rfl (hL4 4000 p1 ((0)) ((0)) mem h)
noncomputable def f_X9_add_J35 (h0 : Nat) (p1 : Int32) (x1 : Int32) (m2 : Mm) : Option Mm :=
  grd (inb (gI m2 h0 1) (Lp.2.1 (h0 + 1))) (bnd (sI m2 (h0 + 1) (gI m2 h0 1).toNatClampNeg (vp_nar .byte (x1.toInt8.toInt32))) fun m3 => bnd (sI m3 h0 1 ((gI m3 h0 1) + ((1)))) fun m4 => some m4)
noncomputable def f_X9_add (h0 : Nat) (p1 : Int32) (mem : Mm) : Option Mm :=
  if (gI mem h0 1) < 0 then (some mem) else (if ((1000)) ≤ (gI mem h0 1) then (some mem) else (if p1 = ((10)) then (f_X9_add_J35 h0 p1 p1 mem) else (if p1 < ((32)) then (some mem) else (if ((126)) < p1 then (some mem) else (f_X9_add_J35 h0 p1 p1 mem)))))
theorem dd_X9_add : yX9_add.cls = RX9 ∧ yX9_add.cls ≠ "java/lang/invoke/MethodHandle" ∧ yX9_add.cls ≠ "java/lang/invoke/VarHandle" ∧ (parseMethodDescriptor yX9_add.desc).map (fun d => d.parameters.length) = some 1 := by decide +kernel
set_option maxHeartbeats 4000000 in
set_option maxRecDepth 100000 in
theorem k_X9_add {l : Launch} {ad : Nat → Nat} {cy : Nat → ClassId} {dC : Nat → ClassId} {dI : Nat → Nat → Nat} {ks : (Nat → Nat) × (Nat → Nat)} {h0 : Nat} {p1 : Int32} {mem : Mm} {mem2 : Mm} (e0 : Lp.1 h0 = 9) (h : f_X9_add h0 p1 mem = some mem2) : CtV l Lp ad cy dC dI ks yX9_add cX9_add 2 none ({ frames := 0, cells := 0, slots := 0, locals := 0 }) [.ref (ad (h0)), .int (p1)] mem mem2 := by
  refine CtV.of (cc := cX9_add) (maxL := 2) (ret := none) (own := RX9) rfl (by decide) (Nat.le_of_ble_eq_true rfl) ?_
  intro p e s m args below meth c A X
  have hts := X.2.2.2.2.1
  have hJ35 : ∀ (x1 : Int32) (m2 : Mm), f_X9_add_J35 h0 p1 x1 m2 = some mem2 → Jd p l e ({ frames := 0, cells := 0, slots := 0, locals := 0 }) s m args below meth c 2 (MQ below (PsV Lp ad cy dC dI mem2 A) args s 0 0 A) A dC dI cy Lp ad m2 35 [(0, .ref (ad (h0))), (1, .int (x1))] [] := by
    intro x1 m2 h
    unfold f_X9_add_J35 at h
    refine r_aload_n X dX9_add_35 rfl 0 rfl ?_
    refine r_getF X (k := 0) (of := 1) rfl (Lp_N e0 rfl) e0 rfl (by decide) ui_9 (by decide) uw1_39 rfl dX9_add_36 ?_
    refine r_aload_n X dX9_add_39 rfl 0 rfl ?_
    refine r_getI X (k := 1) (Lp_N e0 rfl) e0 rfl (by decide) ui_9 (by decide) uw1_40 rfl dX9_add_40 ?_
    refine r_iload_n X dX9_add_43 rfl 1 rfl ?_
    refine r_i2b X dX9_add_44 ?_
    refine r_bast X (Lp_N (Lp_9_0 e0) rfl) (Lp_9_0 e0) h dX9_add_45 (fun h => ?_)
    refine r_nmM h (fun m3 h => ?_)
    refine r_aload_n X dX9_add_46 rfl 0 rfl ?_
    refine r_dup X dX9_add_47 rfl ?_
    refine r_getI X (k := 1) (Lp_N e0 rfl) e0 rfl (by decide) ui_9 (by decide) uw1_40 rfl dX9_add_48 ?_
    refine r_iconst (v := (1)) X dX9_add_51 (by decide) ?_
    refine r_iadd X dX9_add_52 ?_
    refine r_putI X (k := 1) (Lp_N e0 rfl) e0 rfl (by decide) ui_9 (by decide) uw1_40 tyX9_ok nmX9 rfl rfl rfl dX9_add_53 ?_
    refine r_nmM h (fun m4 h => ?_)
    exact r_vret X rfl dX9_add_56 h
  unfold f_X9_add at h
  refine r_aload_n X dX9_add_0 rfl 0 rfl ?_
  refine r_getI X (k := 1) (Lp_N e0 rfl) e0 rfl (by decide) ui_9 (by decide) uw1_40 rfl dX9_add_1 ?_
  refine r_if_lt (tgt := 56) X dX9_add_4 (by decide) h (fun h => ?_) (fun h => ?_)
  · exact r_vret X rfl dX9_add_56 h
  · refine r_aload_n X dX9_add_7 rfl 0 rfl ?_
    refine r_getI X (k := 1) (Lp_N e0 rfl) e0 rfl (by decide) ui_9 (by decide) uw1_40 rfl dX9_add_8 ?_
    refine r_sipush (v := (1000)) X dX9_add_11 (by decide) ?_
    refine r_icmp_ge (tgt := 56) X dX9_add_14 (by decide) h (fun h => ?_) (fun h => ?_)
    · exact r_vret X rfl dX9_add_56 h
    · refine r_iload_n X dX9_add_17 rfl 1 rfl ?_
      refine r_bipush (v := (10)) X dX9_add_18 (by decide) ?_
      refine r_icmp_eq (tgt := 35) X dX9_add_20 (by decide) h (fun h => ?_) (fun h => ?_)
      · exact r_sub [0, 1] rfl (hJ35 p1 mem h)
      · refine r_iload_n X dX9_add_23 rfl 1 rfl ?_
        refine r_bipush (v := (32)) X dX9_add_24 (by decide) ?_
        refine r_icmp_lt (tgt := 56) X dX9_add_26 (by decide) h (fun h => ?_) (fun h => ?_)
        · exact r_vret X rfl dX9_add_56 h
        · refine r_iload_n X dX9_add_29 rfl 1 rfl ?_
          refine r_bipush (v := (126)) X dX9_add_30 (by decide) ?_
          refine r_icmp_gt (tgt := 56) X dX9_add_32 (by decide) h (fun h => ?_) (fun h => ?_)
          · exact r_vret X rfl dX9_add_56 h
          · exact r_sub [0, 1] rfl (hJ35 p1 mem h)
noncomputable def f_X11_feedBytes_B3 (h0 : Nat) (p1 : Int64) (k3 : Int64 → Int32 → Mm → Option Mm) (x1 : Int64) (x2 : Int32) (m3 : Mm) : Option Mm :=
  if x2 < 0 then (some m3) else (bdV (f_X9_add (h0 + 1) ((((x1.toUInt64 >>> (x2.toInt64.toUInt64 &&& Int64.toUInt64 63)).toInt64).toInt32) &&& ((255))) m3) fun m4 => bnd (x2 + (-8)) fun x5 => k3 x1 x5 m4)
noncomputable def f_X11_feedBytes (h0 : Nat) (p1 : Int64) (mem : Mm) : Option Mm :=
  lop (fun _ _ _ => none) (f_X11_feedBytes_B3 h0 p1 ) 4000 p1 ((56)) mem
theorem dd_X11_feedBytes : yX11_feedBytes.cls = RX11 ∧ yX11_feedBytes.cls ≠ "java/lang/invoke/MethodHandle" ∧ yX11_feedBytes.cls ≠ "java/lang/invoke/VarHandle" ∧ (parseMethodDescriptor yX11_feedBytes.desc).map (fun d => d.parameters.length) = some 1 := by decide +kernel
set_option maxHeartbeats 4000000 in
set_option maxRecDepth 100000 in
theorem k_X11_feedBytes {l : Launch} {ad : Nat → Nat} {cy : Nat → ClassId} {dC : Nat → ClassId} {dI : Nat → Nat → Nat} {ks : (Nat → Nat) × (Nat → Nat)} {h0 : Nat} {p1 : Int64} {mem : Mm} {mem2 : Mm} (e0 : Lp.1 h0 = 11) (h : f_X11_feedBytes h0 p1 mem = some mem2) : CtV l Lp ad cy dC dI ks yX11_feedBytes cX11_feedBytes 4 none ({ frames := 1, cells := 0, slots := 0, locals := 21 }) [.ref (ad (h0)), .long (p1)] mem mem2 := by
  refine CtV.of (cc := cX11_feedBytes) (maxL := 4) (ret := none) (own := RX11) rfl (by decide) (Nat.le_of_ble_eq_true rfl) ?_
  intro p e s m args below meth c A X
  have hts := X.2.2.2.2.1
  have hJ3 : ∀ (k3 : Int64 → Int32 → Mm → Option Mm) (hk3 : ∀ (x1 : Int64) (x2 : Int32) (m3 : Mm), k3 x1 x2 m3 = some mem2 → Jd p l e ({ frames := 1, cells := 0, slots := 0, locals := 21 }) s m args below meth c 4 (MQ below (PsV Lp ad cy dC dI mem2 A) args s 0 0 A) A dC dI cy Lp ad m3 3 [(0, .ref (ad (h0))), (1, .long (x1)), (3, .int (x2))] []) (x1 : Int64) (x2 : Int32) (m3 : Mm), f_X11_feedBytes_B3 h0 p1 k3 x1 x2 m3 = some mem2 → Jd p l e ({ frames := 1, cells := 0, slots := 0, locals := 21 }) s m args below meth c 4 (MQ below (PsV Lp ad cy dC dI mem2 A) args s 0 0 A) A dC dI cy Lp ad m3 3 [(0, .ref (ad (h0))), (1, .long (x1)), (3, .int (x2))] [] := by
    intro k3 hk3 x1 x2 m3 h
    unfold f_X11_feedBytes_B3 at h
    refine r_iload_n X dX11_feedBytes_3 rfl 2 rfl ?_
    refine r_if_lt (tgt := 28) X dX11_feedBytes_4 (by decide) h (fun h => ?_) (fun h => ?_)
    · exact r_vret X rfl dX11_feedBytes_28 h
    · refine r_aload_n X dX11_feedBytes_7 rfl 0 rfl ?_
      refine r_getF X (k := 0) (of := 1) rfl (Lp_N e0 rfl) e0 rfl (by decide) ui_11 (by decide) uw2_183 rfl dX11_feedBytes_8 ?_
      refine r_lload_n X dX11_feedBytes_11 rfl 1 rfl ?_
      refine r_iload_n X dX11_feedBytes_12 rfl 2 rfl ?_
      refine r_lushr X dX11_feedBytes_13 ?_
      refine r_l2i X dX11_feedBytes_14 ?_
      refine r_sipush (v := (255)) X dX11_feedBytes_15 (by decide) ?_
      refine r_iand X dX11_feedBytes_18 ?_
      refine r_cVV (As := [.int ((((x1.toUInt64 >>> (x2.toInt64.toUInt64 &&& Int64.toUInt64 63)).toInt64).toInt32) &&& ((255)))]) (rest := []) X (fun m9 hg => k_X9_add (Lp_11_0 e0) hg) h (Lp_N (Lp_11_0 e0) rfl) (Lp_11_0 e0) rfl (by decide) uw3_3 uw3_4 uw3_5 uw1_2 uw3_6 rfl rfl dd_X9_add ⟨Nat.le_of_ble_eq_true rfl, Nat.le_of_ble_eq_true rfl⟩ rfl (Nat.le_of_ble_eq_true rfl) dX11_feedBytes_19 rfl (fun m4 h => ?_)
      refine r_inc h (fun x5 e9 h => ?_)
      refine r_iinc (v := x5) (lv2 := [(3, .int (x5)), (0, .ref (ad (h0))), (1, .long (x1))]) X dX11_feedBytes_22 2 rfl (by rw [e9]; rfl) (by decide) rfl ?_
      refine r_goto (tgt := 3) X dX11_feedBytes_25 (by decide) ?_
      exact r_sub [1, 2, 0] rfl (hk3 x1 x5 m4 h)
  have hL3 : ∀ (n : Nat), ∀ (x1 : Int64) (x2 : Int32) (m3 : Mm), lop (fun _ _ _ => none) (f_X11_feedBytes_B3 h0 p1 ) n x1 x2 m3 = some mem2 → Jd p l e ({ frames := 1, cells := 0, slots := 0, locals := 21 }) s m args below meth c 4 (MQ below (PsV Lp ad cy dC dI mem2 A) args s 0 0 A) A dC dI cy Lp ad m3 3 [(0, .ref (ad (h0))), (1, .long (x1)), (3, .int (x2))] [] := by
    intro  n
    induction n with
    | zero => intro _ _ _ h; cases h
    | succ n ih => intro a0 a1 a2 h; exact hJ3  _ ih a0 a1 a2 h
  unfold f_X11_feedBytes at h
  refine r_bipush (v := (56)) X dX11_feedBytes_0 (by decide) ?_
  refine r_istore_n (lv2 := [(3, .int ((56))), (0, .ref (ad (h0))), (1, .long (p1))]) X dX11_feedBytes_2 rfl (by decide) rfl ?_
  exact r_sub [1, 2, 0] rfl (hL3 4000 p1 ((56)) mem h)
noncomputable def f_X11_feed (h0 : Nat) (p1 : Int64) (p2 : Int64) (p3 : Int64) (mem : Mm) : Option (Int32 × Mm) :=
  bdV (f_X11_feedBytes h0 p1 mem) fun m1 => bdV (f_X11_feedBytes h0 p2 m1) fun m2 => bdV (f_X11_feedBytes h0 p3 m2) fun m3 => some (gI m3 (h0 + 1) 1, m3)
theorem dd_X11_feed : yX11_feed.cls = RX11 ∧ yX11_feed.cls ≠ "java/lang/invoke/MethodHandle" ∧ yX11_feed.cls ≠ "java/lang/invoke/VarHandle" ∧ (parseMethodDescriptor yX11_feed.desc).map (fun d => d.parameters.length) = some 3 := by decide +kernel
set_option maxHeartbeats 4000000 in
set_option maxRecDepth 100000 in
theorem k_X11_feed {l : Launch} {ad : Nat → Nat} {cy : Nat → ClassId} {dC : Nat → ClassId} {dI : Nat → Nat → Nat} {ks : (Nat → Nat) × (Nat → Nat)} {h0 : Nat} {p1 : Int64} {p2 : Int64} {p3 : Int64} {mem : Mm} {r2 : Int32} {mem2 : Mm} (e0 : Lp.1 h0 = 11) (h : f_X11_feed h0 p1 p2 p3 mem = some (r2, mem2)) : CtI l Lp ad cy dC dI ks yX11_feed cX11_feed 7 (some .int) ({ frames := 2, cells := 0, slots := 0, locals := 44 }) [.ref (ad (h0)), .long (p1), .long (p2), .long (p3)] mem r2 mem2 := by
  refine CtI.of (cc := cX11_feed) (maxL := 7) (ret := (some .int)) (own := RX11) rfl (by decide) (Nat.le_of_ble_eq_true rfl) ?_
  intro p e s m args below meth c A X
  have hts := X.2.2.2.2.1
  have hl97 := X.2.2.2.2.2.2.1 (.fieldLinkNest "StationPiano" 97 "StationPiano$Tape" "length" "I" "StationPiano") (List.mem_of_getElem? (i := 0) rfl)
  unfold f_X11_feed at h
  refine r_aload_n X dX11_feed_0 rfl 0 rfl ?_
  refine r_lload_n X dX11_feed_1 rfl 1 rfl ?_
  refine r_cVV (As := [.long (p1)]) (rest := []) X (fun m9 hg => k_X11_feedBytes e0 hg) h (Lp_N e0 rfl) e0 rfl (by decide) uw2_239 uw3_1 us1_0 uw1_1 uw3_2 rfl rfl dd_X11_feedBytes ⟨Nat.le_of_ble_eq_true rfl, Nat.le_of_ble_eq_true rfl⟩ rfl (Nat.le_of_ble_eq_true rfl) dX11_feed_2 rfl (fun m1 h => ?_)
  refine r_aload_n X dX11_feed_5 rfl 0 rfl ?_
  refine r_lload_n X dX11_feed_6 rfl 2 rfl ?_
  refine r_cVV (As := [.long (p2)]) (rest := []) X (fun m9 hg => k_X11_feedBytes e0 hg) h (Lp_N e0 rfl) e0 rfl (by decide) uw2_239 uw3_1 us1_0 uw1_1 uw3_2 rfl rfl dd_X11_feedBytes ⟨Nat.le_of_ble_eq_true rfl, Nat.le_of_ble_eq_true rfl⟩ rfl (Nat.le_of_ble_eq_true rfl) dX11_feed_7 rfl (fun m2 h => ?_)
  refine r_aload_n X dX11_feed_10 rfl 0 rfl ?_
  refine r_lload X dX11_feed_11 3 rfl ?_
  refine r_cVV (As := [.long (p3)]) (rest := []) X (fun m9 hg => k_X11_feedBytes e0 hg) h (Lp_N e0 rfl) e0 rfl (by decide) uw2_239 uw3_1 us1_0 uw1_1 uw3_2 rfl rfl dd_X11_feedBytes ⟨Nat.le_of_ble_eq_true rfl, Nat.le_of_ble_eq_true rfl⟩ rfl (Nat.le_of_ble_eq_true rfl) dX11_feed_13 rfl (fun m3 h => ?_)
  refine r_aload_n X dX11_feed_16 rfl 0 rfl ?_
  refine r_getF X (k := 0) (of := 1) rfl (Lp_N e0 rfl) e0 rfl (by decide) ui_11 (by decide) uw2_183 rfl dX11_feed_17 ?_
  refine r_getIN X (k := 1) (Lp_N (Lp_11_0 e0) rfl) (Lp_11_0 e0) rfl (by decide) ui_9 (by decide) hl97 rfl dX11_feed_20 ?_
  exact r_iret2 X rfl dX11_feed_23 h
noncomputable def f_X11_beginStation_B34 (h0 : Nat) (k34 : Int32 → Mm → Option Mm) (x6 : Int32) (m7 : Mm) : Option Mm :=
  if ((4)) ≤ x6 then (some m7) else (grd (inb x6 (Lp.2.1 (h0 + 91))) (bnd (h0 + 91 + (1 + 10 * x6.toNatClampNeg)) fun q8 => grd (bok ((0))) (bnd (sI m7 q8 3 ((0))) fun m9 => bnd (x6 + (1)) fun x10 => k34 x10 m9)))
noncomputable def f_X11_beginStation (h0 : Nat) (mem : Mm) : Option Mm :=
  grd (decide (Lp.1 (gR mem h0 2) = 7)) (bnd (gR mem h0 2) fun q1 => bdV (f_X6_begin (h0 + 64) q1 mem) fun m2 => bnd (sI m2 (h0 + 68) 3 ((0))) fun m3 => bnd (sI m3 (h0 + 76) 2 ((0))) fun m4 => bnd (sI m4 h0 14 ((0))) fun m5 => lop (fun _ _ => none) (f_X11_beginStation_B34 h0 ) 4000 ((0)) m5)
theorem dd_X11_beginStation : yX11_beginStation.cls = RX11 ∧ yX11_beginStation.cls ≠ "java/lang/invoke/MethodHandle" ∧ yX11_beginStation.cls ≠ "java/lang/invoke/VarHandle" ∧ (parseMethodDescriptor yX11_beginStation.desc).map (fun d => d.parameters.length) = some 0 := by decide +kernel
set_option maxHeartbeats 4000000 in
set_option maxRecDepth 100000 in
theorem k_X11_beginStation {l : Launch} {ad : Nat → Nat} {cy : Nat → ClassId} {dC : Nat → ClassId} {dI : Nat → Nat → Nat} {ks : (Nat → Nat) × (Nat → Nat)} {h0 : Nat} {mem : Mm} {mem2 : Mm} (e0 : Lp.1 h0 = 11) (h : f_X11_beginStation h0 mem = some mem2) : CtV l Lp ad cy dC dI ks yX11_beginStation cX11_beginStation 2 none ({ frames := 1, cells := 0, slots := 0, locals := 22 }) [.ref (ad (h0))] mem mem2 := by
  refine CtV.of (cc := cX11_beginStation) (maxL := 2) (ret := none) (own := RX11) rfl (by decide) (Nat.le_of_ble_eq_true rfl) ?_
  intro p e s m args below meth c A X
  have hts := X.2.2.2.2.1
  have hl291 := X.2.2.2.2.2.2.1 (.fieldLinkNest "StationPiano" 291 "StationPiano$Mark" "laid" "Z" "StationPiano") (List.mem_of_getElem? (i := 77) rfl)
  have hl308 := X.2.2.2.2.2.2.1 (.fieldLinkNest "StationPiano" 308 "StationPiano$Week" "length" "I" "StationPiano") (List.mem_of_getElem? (i := 67) rfl)
  have hl309 := X.2.2.2.2.2.2.1 (.fieldLinkNest "StationPiano" 309 "StationPiano$Clues" "length" "I" "StationPiano") (List.mem_of_getElem? (i := 68) rfl)
  have hJ34 : ∀ (k34 : Int32 → Mm → Option Mm) (hk34 : ∀ (x6 : Int32) (m7 : Mm), k34 x6 m7 = some mem2 → Jd p l e ({ frames := 1, cells := 0, slots := 0, locals := 22 }) s m args below meth c 2 (MQ below (PsV Lp ad cy dC dI mem2 A) args s 0 0 A) A dC dI cy Lp ad m7 34 [(0, .ref (ad (h0))), (1, .int (x6))] []) (x6 : Int32) (m7 : Mm), f_X11_beginStation_B34 h0 k34 x6 m7 = some mem2 → Jd p l e ({ frames := 1, cells := 0, slots := 0, locals := 22 }) s m args below meth c 2 (MQ below (PsV Lp ad cy dC dI mem2 A) args s 0 0 A) A dC dI cy Lp ad m7 34 [(0, .ref (ad (h0))), (1, .int (x6))] [] := by
    intro k34 hk34 x6 m7 h
    unfold f_X11_beginStation_B34 at h
    refine r_iload_n X dX11_beginStation_34 rfl 1 rfl ?_
    refine r_iconst (v := (4)) X dX11_beginStation_35 (by decide) ?_
    refine r_icmp_ge (tgt := 55) X dX11_beginStation_36 (by decide) h (fun h => ?_) (fun h => ?_)
    · exact r_vret X rfl dX11_beginStation_55 h
    · refine r_aload_n X dX11_beginStation_39 rfl 0 rfl ?_
      refine r_getF X (k := 11) (of := 91) rfl (Lp_N e0 rfl) e0 rfl (by decide) ui_11 (by decide) uw2_194 rfl dX11_beginStation_40 ?_
      refine r_iload_n X dX11_beginStation_43 rfl 1 rfl ?_
      refine r_ald17 X (Lp_N (Lp_11_11 e0) rfl) (Lp_11_11 e0) (Lp_e17 (Lp_11_11 e0)) rfl h dX11_beginStation_44 (fun q8 eq8 h => ?_)
      refine r_iconst (v := (0)) X dX11_beginStation_45 (by decide) ?_
      refine r_gz h (fun hz h => ?_)
      refine r_putZN X (k := 3) (Lp_N eq8 rfl) eq8 rfl (by decide) ui_3 (by decide) hl291 tyX3_ok nmX3 rfl rfl hz rfl dX11_beginStation_46 ?_
      refine r_nmM h (fun m9 h => ?_)
      refine r_inc h (fun x10 e9 h => ?_)
      refine r_iinc (v := x10) (lv2 := [(1, .int (x10)), (0, .ref (ad (h0)))]) X dX11_beginStation_49 1 rfl (by rw [e9]; rfl) (by decide) rfl ?_
      refine r_goto (tgt := 34) X dX11_beginStation_52 (by decide) ?_
      exact r_sub [1, 0] rfl (hk34 x10 m9 h)
  have hL34 : ∀ (n : Nat), ∀ (x6 : Int32) (m7 : Mm), lop (fun _ _ => none) (f_X11_beginStation_B34 h0 ) n x6 m7 = some mem2 → Jd p l e ({ frames := 1, cells := 0, slots := 0, locals := 22 }) s m args below meth c 2 (MQ below (PsV Lp ad cy dC dI mem2 A) args s 0 0 A) A dC dI cy Lp ad m7 34 [(0, .ref (ad (h0))), (1, .int (x6))] [] := by
    intro  n
    induction n with
    | zero => intro _ _ h; cases h
    | succ n ih => intro a0 a1 h; exact hJ34  _ ih a0 a1 h
  unfold f_X11_beginStation at h
  refine r_aload_n X dX11_beginStation_0 rfl 0 rfl ?_
  refine r_getF X (k := 4) (of := 64) rfl (Lp_N e0 rfl) e0 rfl (by decide) ui_11 (by decide) uw2_187 rfl dX11_beginStation_1 ?_
  refine r_aload_n X dX11_beginStation_4 rfl 0 rfl ?_
  refine r_getR X 7 (k := 2) (Lp_N e0 rfl) e0 rfl (by decide) ui_11 (by decide) uw2_185 rfl h dX11_beginStation_5 (fun q1 eq1 h => ?_)
  refine r_cVV (As := [.ref (ad (q1))]) (rest := []) X (fun m9 hg => k_X6_begin (Lp_11_4 e0) eq1 hg) h (Lp_N (Lp_11_4 e0) rfl) (Lp_11_4 e0) rfl (by decide) uw4_10 uw4_11 uw4_12 uw1_7 uw4_13 rfl rfl dd_X6_begin ⟨Nat.le_of_ble_eq_true rfl, Nat.le_of_ble_eq_true rfl⟩ rfl (Nat.le_of_ble_eq_true rfl) dX11_beginStation_8 rfl (fun m2 h => ?_)
  refine r_aload_n X dX11_beginStation_11 rfl 0 rfl ?_
  refine r_getF X (k := 6) (of := 68) rfl (Lp_N e0 rfl) e0 rfl (by decide) ui_11 (by decide) uw2_189 rfl dX11_beginStation_12 ?_
  refine r_iconst (v := (0)) X dX11_beginStation_15 (by decide) ?_
  refine r_putIN X (k := 3) (Lp_N (Lp_11_6 e0) rfl) (Lp_11_6 e0) rfl (by decide) ui_10 (by decide) hl308 tyX10_ok nmX10 rfl rfl rfl dX11_beginStation_16 ?_
  refine r_nmM h (fun m3 h => ?_)
  refine r_aload_n X dX11_beginStation_19 rfl 0 rfl ?_
  refine r_getF X (k := 8) (of := 76) rfl (Lp_N e0 rfl) e0 rfl (by decide) ui_11 (by decide) uw2_191 rfl dX11_beginStation_20 ?_
  refine r_iconst (v := (0)) X dX11_beginStation_23 (by decide) ?_
  refine r_putIN X (k := 2) (Lp_N (Lp_11_8 e0) rfl) (Lp_11_8 e0) rfl (by decide) ui_0 (by decide) hl309 tyX0_ok nmX0 rfl rfl rfl dX11_beginStation_24 ?_
  refine r_nmM h (fun m4 h => ?_)
  refine r_aload_n X dX11_beginStation_27 rfl 0 rfl ?_
  refine r_iconst (v := (0)) X dX11_beginStation_28 (by decide) ?_
  refine r_putI X (k := 14) (Lp_N e0 rfl) e0 rfl (by decide) ui_11 (by decide) uw2_197 tyX11_ok nmX11 rfl rfl rfl dX11_beginStation_29 ?_
  refine r_nmM h (fun m5 h => ?_)
  refine r_iconst (v := (0)) X dX11_beginStation_32 (by decide) ?_
  refine r_istore_n (lv2 := [(1, .int ((0))), (0, .ref (ad (h0)))]) X dX11_beginStation_33 rfl (by decide) rfl ?_
  exact r_sub [1, 0] rfl (hL34 4000 ((0)) m5 h)
noncomputable def f_X11_station (h0 : Nat) (mem : Mm) : Option (Int32 × Mm) :=
  grd (decide (Lp.1 (gR mem h0 3) = 7)) (bnd (gR mem h0 3) fun q1 => bdI (f_X5_readStation (h0 + 3) q1 mem) fun x3 m2 => bnd (sI m2 (h0 + 1) 1 ((0))) fun m4 => if ¬ x3 = 0 then (some (x3, m4)) else (grd (decide (Lp.1 (gR m4 h0 2) = 7)) (bnd (gR m4 h0 2) fun q5 => grd (decide (Lp.1 (gR m4 h0 3) = 7)) (bnd (gR m4 h0 3) fun q6 => bnd (sR m4 h0 2 q6) fun m7 => bnd (sR m7 h0 3 q5) fun m8 => bdV (f_X11_beginStation h0 m8) fun m9 => some (x3, m9)))))
theorem dd_X11_station : yX11_station.cls = RX11 ∧ yX11_station.cls ≠ "java/lang/invoke/MethodHandle" ∧ yX11_station.cls ≠ "java/lang/invoke/VarHandle" ∧ (parseMethodDescriptor yX11_station.desc).map (fun d => d.parameters.length) = some 0 := by decide +kernel
set_option maxHeartbeats 4000000 in
set_option maxRecDepth 100000 in
theorem k_X11_station {l : Launch} {ad : Nat → Nat} {cy : Nat → ClassId} {dC : Nat → ClassId} {dI : Nat → Nat → Nat} {ks : (Nat → Nat) × (Nat → Nat)} {h0 : Nat} {mem : Mm} {r2 : Int32} {mem2 : Mm} (e0 : Lp.1 h0 = 11) (h : f_X11_station h0 mem = some (r2, mem2)) : CtI l Lp ad cy dC dI ks yX11_station cX11_station 3 (some .int) ({ frames := 75, cells := 0, slots := 0, locals := 4070 }) [.ref (ad (h0))] mem r2 mem2 := by
  refine CtI.of (cc := cX11_station) (maxL := 3) (ret := (some .int)) (own := RX11) rfl (by decide) (Nat.le_of_ble_eq_true rfl) ?_
  intro p e s m args below meth c A X
  have hts := X.2.2.2.2.1
  have hl97 := X.2.2.2.2.2.2.1 (.fieldLinkNest "StationPiano" 97 "StationPiano$Tape" "length" "I" "StationPiano") (List.mem_of_getElem? (i := 0) rfl)
  unfold f_X11_station at h
  refine r_aload_n X dX11_station_0 rfl 0 rfl ?_
  refine r_getF X (k := 1) (of := 3) rfl (Lp_N e0 rfl) e0 rfl (by decide) ui_11 (by decide) uw2_184 rfl dX11_station_1 ?_
  refine r_aload_n X dX11_station_4 rfl 0 rfl ?_
  refine r_getR X 7 (k := 3) (Lp_N e0 rfl) e0 rfl (by decide) ui_11 (by decide) uw2_186 rfl h dX11_station_5 (fun q1 eq1 h => ?_)
  refine r_cVI (As := [.ref (ad (q1))]) (rest := []) X (fun r9 m9 hg => k_X5_readStation (Lp_11_1 e0) eq1 hg) h (Lp_N (Lp_11_1 e0) rfl) (Lp_11_1 e0) rfl (by decide) uw3_11 uw3_12 uw3_13 uw1_3 uw3_14 rfl rfl dd_X5_readStation ⟨Nat.le_of_ble_eq_true rfl, Nat.le_of_ble_eq_true rfl⟩ rfl (Nat.le_of_ble_eq_true rfl) dX11_station_8 rfl (fun x3 m2 h => ?_)
  refine r_istore_n (lv2 := [(1, .int (x3)), (0, .ref (ad (h0)))]) X dX11_station_11 rfl (by decide) rfl ?_
  refine r_aload_n X dX11_station_12 rfl 1 rfl ?_
  refine r_getF X (k := 0) (of := 1) rfl (Lp_N e0 rfl) e0 rfl (by decide) ui_11 (by decide) uw2_183 rfl dX11_station_13 ?_
  refine r_iconst (v := (0)) X dX11_station_16 (by decide) ?_
  refine r_putIN X (k := 1) (Lp_N (Lp_11_0 e0) rfl) (Lp_11_0 e0) rfl (by decide) ui_9 (by decide) hl97 tyX9_ok nmX9 rfl rfl rfl dX11_station_17 ?_
  refine r_nmM h (fun m4 h => ?_)
  refine r_iload_n X dX11_station_20 rfl 0 rfl ?_
  refine r_if_ne (tgt := 46) X dX11_station_21 (by decide) h (fun h => ?_) (fun h => ?_)
  · refine r_iload_n X dX11_station_46 rfl 0 rfl ?_
    exact r_iret2 X rfl dX11_station_47 h
  · refine r_aload_n X dX11_station_24 rfl 1 rfl ?_
    refine r_getR X 7 (k := 2) (Lp_N e0 rfl) e0 rfl (by decide) ui_11 (by decide) uw2_185 rfl h dX11_station_25 (fun q5 eq5 h => ?_)
    refine r_astore_n (lv2 := [(2, .ref (ad (q5))), (1, .int (x3)), (0, .ref (ad (h0)))]) X dX11_station_28 rfl (by decide) rfl ?_
    refine r_aload_n X dX11_station_29 rfl 2 rfl ?_
    refine r_aload_n X dX11_station_30 rfl 2 rfl ?_
    refine r_getR X 7 (k := 3) (Lp_N e0 rfl) e0 rfl (by decide) ui_11 (by decide) uw2_186 rfl h dX11_station_31 (fun q6 eq6 h => ?_)
    refine r_putR X (k := 2) (Lp_N e0 rfl) e0 rfl (by decide) ui_11 (by decide) uw2_185 tyX11_ok nmX11 rfl rfl rfl dX11_station_34 ?_
    refine r_nmM h (fun m7 h => ?_)
    refine r_aload_n X dX11_station_37 rfl 2 rfl ?_
    refine r_aload_n X dX11_station_38 rfl 0 rfl ?_
    refine r_putR X (k := 3) (Lp_N e0 rfl) e0 rfl (by decide) ui_11 (by decide) uw2_186 tyX11_ok nmX11 rfl rfl rfl dX11_station_39 ?_
    refine r_nmM h (fun m8 h => ?_)
    refine r_aload_n X dX11_station_42 rfl 2 rfl ?_
    refine r_cVV (As := []) (rest := []) X (fun m9 hg => k_X11_beginStation e0 hg) h (Lp_N e0 rfl) e0 rfl (by decide) uw4_6 uw4_8 us2_5 uw1_1 uw4_9 rfl rfl dd_X11_beginStation ⟨Nat.le_of_ble_eq_true rfl, Nat.le_of_ble_eq_true rfl⟩ rfl (Nat.le_of_ble_eq_true rfl) dX11_station_43 rfl (fun m9 h => ?_)
    refine r_iload_n X dX11_station_46 rfl 1 rfl ?_
    exact r_iret2 X rfl dX11_station_47 h
noncomputable def f_X11_week (h0 : Nat) (mem : Mm) : Option (Int32 × Mm) :=
  bdI (f_X5_readWeek (h0 + 3) (h0 + 72) mem) fun x2 m1 => bnd (sI m1 (h0 + 1) 1 ((0))) fun m3 => if ¬ x2 = 0 then (some (x2, m3)) else (bdV (f_X10_copyFrom (h0 + 68) (h0 + 72) m3) fun m4 => some (x2, m4))
theorem dd_X11_week : yX11_week.cls = RX11 ∧ yX11_week.cls ≠ "java/lang/invoke/MethodHandle" ∧ yX11_week.cls ≠ "java/lang/invoke/VarHandle" ∧ (parseMethodDescriptor yX11_week.desc).map (fun d => d.parameters.length) = some 0 := by decide +kernel
set_option maxHeartbeats 4000000 in
set_option maxRecDepth 100000 in
theorem k_X11_week {l : Launch} {ad : Nat → Nat} {cy : Nat → ClassId} {dC : Nat → ClassId} {dI : Nat → Nat → Nat} {ks : (Nat → Nat) × (Nat → Nat)} {h0 : Nat} {mem : Mm} {r2 : Int32} {mem2 : Mm} (e0 : Lp.1 h0 = 11) (h : f_X11_week h0 mem = some (r2, mem2)) : CtI l Lp ad cy dC dI ks yX11_week cX11_week 2 (some .int) ({ frames := 10, cells := 0, slots := 0, locals := 222 }) [.ref (ad (h0))] mem r2 mem2 := by
  refine CtI.of (cc := cX11_week) (maxL := 2) (ret := (some .int)) (own := RX11) rfl (by decide) (Nat.le_of_ble_eq_true rfl) ?_
  intro p e s m args below meth c A X
  have hts := X.2.2.2.2.1
  have hl97 := X.2.2.2.2.2.2.1 (.fieldLinkNest "StationPiano" 97 "StationPiano$Tape" "length" "I" "StationPiano") (List.mem_of_getElem? (i := 0) rfl)
  unfold f_X11_week at h
  refine r_aload_n X dX11_week_0 rfl 0 rfl ?_
  refine r_getF X (k := 1) (of := 3) rfl (Lp_N e0 rfl) e0 rfl (by decide) ui_11 (by decide) uw2_184 rfl dX11_week_1 ?_
  refine r_aload_n X dX11_week_4 rfl 0 rfl ?_
  refine r_getF X (k := 7) (of := 72) rfl (Lp_N e0 rfl) e0 rfl (by decide) ui_11 (by decide) uw2_190 rfl dX11_week_5 ?_
  refine r_cVI (As := [.ref (ad (h0 + 72))]) (rest := []) X (fun r9 m9 hg => k_X5_readWeek (Lp_11_1 e0) (Lp_11_7 e0) hg) h (Lp_N (Lp_11_1 e0) rfl) (Lp_11_1 e0) rfl (by decide) uw4_18 uw4_19 uw4_20 uw1_3 uw4_21 rfl rfl dd_X5_readWeek ⟨Nat.le_of_ble_eq_true rfl, Nat.le_of_ble_eq_true rfl⟩ rfl (Nat.le_of_ble_eq_true rfl) dX11_week_8 rfl (fun x2 m1 h => ?_)
  refine r_istore_n (lv2 := [(1, .int (x2)), (0, .ref (ad (h0)))]) X dX11_week_11 rfl (by decide) rfl ?_
  refine r_aload_n X dX11_week_12 rfl 1 rfl ?_
  refine r_getF X (k := 0) (of := 1) rfl (Lp_N e0 rfl) e0 rfl (by decide) ui_11 (by decide) uw2_183 rfl dX11_week_13 ?_
  refine r_iconst (v := (0)) X dX11_week_16 (by decide) ?_
  refine r_putIN X (k := 1) (Lp_N (Lp_11_0 e0) rfl) (Lp_11_0 e0) rfl (by decide) ui_9 (by decide) hl97 tyX9_ok nmX9 rfl rfl rfl dX11_week_17 ?_
  refine r_nmM h (fun m3 h => ?_)
  refine r_iload_n X dX11_week_20 rfl 0 rfl ?_
  refine r_if_ne (tgt := 35) X dX11_week_21 (by decide) h (fun h => ?_) (fun h => ?_)
  · refine r_iload_n X dX11_week_35 rfl 0 rfl ?_
    exact r_iret2 X rfl dX11_week_36 h
  · refine r_aload_n X dX11_week_24 rfl 1 rfl ?_
    refine r_getF X (k := 6) (of := 68) rfl (Lp_N e0 rfl) e0 rfl (by decide) ui_11 (by decide) uw2_189 rfl dX11_week_25 ?_
    refine r_aload_n X dX11_week_28 rfl 1 rfl ?_
    refine r_getF X (k := 7) (of := 72) rfl (Lp_N e0 rfl) e0 rfl (by decide) ui_11 (by decide) uw2_190 rfl dX11_week_29 ?_
    refine r_cVV (As := [.ref (ad (h0 + 72))]) (rest := []) X (fun m9 hg => k_X10_copyFrom (Lp_11_6 e0) (Lp_11_7 e0) hg) h (Lp_N (Lp_11_6 e0) rfl) (Lp_11_6 e0) rfl (by decide) uw4_30 uw4_31 uw4_32 uw1_8 uw4_33 rfl rfl dd_X10_copyFrom ⟨Nat.le_of_ble_eq_true rfl, Nat.le_of_ble_eq_true rfl⟩ rfl (Nat.le_of_ble_eq_true rfl) dX11_week_32 rfl (fun m4 h => ?_)
    refine r_iload_n X dX11_week_35 rfl 0 rfl ?_
    exact r_iret2 X rfl dX11_week_36 h
noncomputable def f_X11_isPasser (h0 : Nat) (p1 : Int32) (mem : Mm) : Option (Int32 × Mm) :=
  if p1 < 0 then (grd (bok ((0))) (some ((0), mem))) else (grd (decide (Lp.1 (gR mem h0 2) = 7)) (bnd (gR mem h0 2) fun q1 => if (gI mem q1 7) ≤ p1 then (grd (bok ((0))) (some ((0), mem))) else (if ((7)) ≤ p1 then (grd (bok ((0))) (some ((0), mem))) else (grd (bok ((1))) (some ((1), mem))))))
theorem dd_X11_isPasser : yX11_isPasser.cls = RX11 ∧ yX11_isPasser.cls ≠ "java/lang/invoke/MethodHandle" ∧ yX11_isPasser.cls ≠ "java/lang/invoke/VarHandle" ∧ (parseMethodDescriptor yX11_isPasser.desc).map (fun d => d.parameters.length) = some 1 := by decide +kernel
set_option maxHeartbeats 4000000 in
set_option maxRecDepth 100000 in
theorem k_X11_isPasser {l : Launch} {ad : Nat → Nat} {cy : Nat → ClassId} {dC : Nat → ClassId} {dI : Nat → Nat → Nat} {ks : (Nat → Nat) × (Nat → Nat)} {h0 : Nat} {p1 : Int32} {mem : Mm} {r2 : Int32} {mem2 : Mm} (e0 : Lp.1 h0 = 11) (h : f_X11_isPasser h0 p1 mem = some (r2, mem2)) : CtI l Lp ad cy dC dI ks yX11_isPasser cX11_isPasser 2 (some .boolean) ({ frames := 0, cells := 0, slots := 0, locals := 0 }) [.ref (ad (h0)), .int (p1)] mem r2 mem2 := by
  refine CtI.of (cc := cX11_isPasser) (maxL := 2) (ret := (some .boolean)) (own := RX11) rfl (by decide) (Nat.le_of_ble_eq_true rfl) ?_
  intro p e s m args below meth c A X
  have hts := X.2.2.2.2.1
  have hl173 := X.2.2.2.2.2.2.1 (.fieldLinkNest "StationPiano" 173 "StationPiano$Station" "passerCount" "I" "StationPiano") (List.mem_of_getElem? (i := 40) rfl)
  unfold f_X11_isPasser at h
  refine r_iload_n X dX11_isPasser_0 rfl 1 rfl ?_
  refine r_if_lt (tgt := 25) X dX11_isPasser_1 (by decide) h (fun h => ?_) (fun h => ?_)
  · refine r_iconst (v := (0)) X dX11_isPasser_25 (by decide) ?_
    exact r_zret2 X rfl dX11_isPasser_26 h
  · refine r_iload_n X dX11_isPasser_4 rfl 1 rfl ?_
    refine r_aload_n X dX11_isPasser_5 rfl 0 rfl ?_
    refine r_getR X 7 (k := 2) (Lp_N e0 rfl) e0 rfl (by decide) ui_11 (by decide) uw2_185 rfl h dX11_isPasser_6 (fun q1 eq1 h => ?_)
    refine r_getIN X (k := 7) (Lp_N eq1 rfl) eq1 rfl (by decide) ui_7 (by decide) hl173 rfl dX11_isPasser_9 ?_
    refine r_icmp_ge (tgt := 25) X dX11_isPasser_12 (by decide) h (fun h => ?_) (fun h => ?_)
    · refine r_iconst (v := (0)) X dX11_isPasser_25 (by decide) ?_
      exact r_zret2 X rfl dX11_isPasser_26 h
    · refine r_iload_n X dX11_isPasser_15 rfl 1 rfl ?_
      refine r_bipush (v := (7)) X dX11_isPasser_16 (by decide) ?_
      refine r_icmp_ge (tgt := 25) X dX11_isPasser_18 (by decide) h (fun h => ?_) (fun h => ?_)
      · refine r_iconst (v := (0)) X dX11_isPasser_25 (by decide) ?_
        exact r_zret2 X rfl dX11_isPasser_26 h
      · refine r_iconst (v := (1)) X dX11_isPasser_21 (by decide) ?_
        refine r_goto (tgt := 26) X dX11_isPasser_22 (by decide) ?_
        exact r_zret2 X rfl dX11_isPasser_26 h
noncomputable def f_X11_passer (h0 : Nat) (p1 : Int32) (p2 : Int32) (mem : Mm) : Option (Int32 × Mm) :=
  bdI (f_X11_isPasser h0 p1 mem) fun x2 m1 => if ¬ x2 = 0 then (grd (decide (Lp.1 (gR m1 h0 2) = 7)) (bnd (gR m1 h0 2) fun q3 => grd (inb p1 (Lp.2.1 (q3 + 9))) (bnd (q3 + 9 + (7 + 2 * p1.toNatClampNeg)) fun q4 => if p2 = (0) then (some (gI m1 q4 3, m1)) else (if p2 = (1) then (some (gI m1 q4 4, m1)) else (if p2 = (2) then (some (gI m1 q4 5, m1)) else (if p2 = (3) then (some (gI m1 q4 6, m1)) else (if p2 = (4) then (bdI (f_X4_playsFor q4 (gI m1 (h0 + 64) 2) m1) fun x6 m5 => some (x6, m5)) else (if p2 = (5) then (some (gI m1 q4 8, m1)) else (some ((-1), m1)))))))))) else (some ((-1), m1))
theorem dd_X11_passer : yX11_passer.cls = RX11 ∧ yX11_passer.cls ≠ "java/lang/invoke/MethodHandle" ∧ yX11_passer.cls ≠ "java/lang/invoke/VarHandle" ∧ (parseMethodDescriptor yX11_passer.desc).map (fun d => d.parameters.length) = some 2 := by decide +kernel
set_option maxHeartbeats 4000000 in
set_option maxRecDepth 100000 in
theorem k_X11_passer {l : Launch} {ad : Nat → Nat} {cy : Nat → ClassId} {dC : Nat → ClassId} {dI : Nat → Nat → Nat} {ks : (Nat → Nat) × (Nat → Nat)} {h0 : Nat} {p1 : Int32} {p2 : Int32} {mem : Mm} {r2 : Int32} {mem2 : Mm} (e0 : Lp.1 h0 = 11) (h : f_X11_passer h0 p1 p2 mem = some (r2, mem2)) : CtI l Lp ad cy dC dI ks yX11_passer cX11_passer 4 (some .int) ({ frames := 2, cells := 0, slots := 0, locals := 42 }) [.ref (ad (h0)), .int (p1), .int (p2)] mem r2 mem2 := by
  refine CtI.of (cc := cX11_passer) (maxL := 4) (ret := (some .int)) (own := RX11) rfl (by decide) (Nat.le_of_ble_eq_true rfl) ?_
  intro p e s m args below meth c A X
  have hts := X.2.2.2.2.1
  have hl120 := X.2.2.2.2.2.2.1 (.fieldLinkNest "StationPiano" 120 "StationPiano$Station" "passers" "[LStationPiano$Passer;" "StationPiano") (List.mem_of_getElem? (i := 32) rfl)
  have hl124 := X.2.2.2.2.2.2.1 (.fieldLinkNest "StationPiano" 124 "StationPiano$Passer" "kind" "I" "StationPiano") (List.mem_of_getElem? (i := 11) rfl)
  have hl129 := X.2.2.2.2.2.2.1 (.fieldLinkNest "StationPiano" 129 "StationPiano$Passer" "tune" "I" "StationPiano") (List.mem_of_getElem? (i := 13) rfl)
  have hl132 := X.2.2.2.2.2.2.1 (.fieldLinkNest "StationPiano" 132 "StationPiano$Passer" "skill" "I" "StationPiano") (List.mem_of_getElem? (i := 17) rfl)
  have hl135 := X.2.2.2.2.2.2.1 (.fieldLinkNest "StationPiano" 135 "StationPiano$Passer" "shyness" "I" "StationPiano") (List.mem_of_getElem? (i := 19) rfl)
  have hl138 := X.2.2.2.2.2.2.1 (.fieldLinkNest "StationPiano" 138 "StationPiano$State" "minutes" "I" "StationPiano") (List.mem_of_getElem? (i := 57) rfl)
  have hl145 := X.2.2.2.2.2.2.1 (.fieldLinkNest "StationPiano" 145 "StationPiano$Passer" "arrives" "I" "StationPiano") (List.mem_of_getElem? (i := 23) rfl)
  unfold f_X11_passer at h
  refine r_aload_n X dX11_passer_0 rfl 0 rfl ?_
  refine r_iload_n X dX11_passer_1 rfl 1 rfl ?_
  refine r_cVI (As := [.int (p1)]) (rest := []) X (fun r9 m9 hg => k_X11_isPasser e0 hg) h (Lp_N e0 rfl) e0 rfl (by decide) uw4_38 uw4_40 us2_7 uw1_1 uw4_41 rfl rfl dd_X11_isPasser ⟨Nat.le_of_ble_eq_true rfl, Nat.le_of_ble_eq_true rfl⟩ rfl (Nat.le_of_ble_eq_true rfl) dX11_passer_2 rfl (fun x2 m1 h => ?_)
  refine r_if_ne (tgt := 10) X dX11_passer_5 (by decide) h (fun h => ?_) (fun h => ?_)
  · refine r_aload_n X dX11_passer_10 rfl 0 rfl ?_
    refine r_getR X 7 (k := 2) (Lp_N e0 rfl) e0 rfl (by decide) ui_11 (by decide) uw2_185 rfl h dX11_passer_11 (fun q3 eq3 h => ?_)
    refine r_getFN X (k := 3) (of := 9) rfl (Lp_N eq3 rfl) eq3 rfl (by decide) ui_7 (by decide) hl120 rfl dX11_passer_14 ?_
    refine r_iload_n X dX11_passer_17 rfl 1 rfl ?_
    refine r_ald18 X (Lp_N (Lp_7_3 eq3) rfl) (Lp_7_3 eq3) (Lp_e18 (Lp_7_3 eq3)) rfl h dX11_passer_18 (fun q4 eq4 h => ?_)
    refine r_astore_n (lv2 := [(3, .ref (ad (q4))), (0, .ref (ad (h0))), (1, .int (p1)), (2, .int (p2))]) X dX11_passer_19 rfl (by decide) rfl ?_
    refine r_iload_n X dX11_passer_20 rfl 3 rfl ?_
    by_cases c21_0 : p2 = (0)
    · have h := ite_p c21_0 h
      refine r_tin (off := 39) (tgt := 60) X dX11_passer_21 (by rw [c21_0]; decide) (by rw [c21_0]; decide) (by rw [c21_0]; rfl) (by decide) ?_
      refine r_aload_n X dX11_passer_60 rfl 0 rfl ?_
      refine r_getIN X (k := 3) (Lp_N eq4 rfl) eq4 rfl (by decide) ui_4 (by decide) hl124 rfl dX11_passer_61 ?_
      exact r_iret2 X rfl dX11_passer_64 h
    have h := ite_n c21_0 h
    by_cases c21_1 : p2 = (1)
    · have h := ite_p c21_1 h
      refine r_tin (off := 44) (tgt := 65) X dX11_passer_21 (by rw [c21_1]; decide) (by rw [c21_1]; decide) (by rw [c21_1]; rfl) (by decide) ?_
      refine r_aload_n X dX11_passer_65 rfl 0 rfl ?_
      refine r_getIN X (k := 4) (Lp_N eq4 rfl) eq4 rfl (by decide) ui_4 (by decide) hl129 rfl dX11_passer_66 ?_
      exact r_iret2 X rfl dX11_passer_69 h
    have h := ite_n c21_1 h
    by_cases c21_2 : p2 = (2)
    · have h := ite_p c21_2 h
      refine r_tin (off := 49) (tgt := 70) X dX11_passer_21 (by rw [c21_2]; decide) (by rw [c21_2]; decide) (by rw [c21_2]; rfl) (by decide) ?_
      refine r_aload_n X dX11_passer_70 rfl 0 rfl ?_
      refine r_getIN X (k := 5) (Lp_N eq4 rfl) eq4 rfl (by decide) ui_4 (by decide) hl132 rfl dX11_passer_71 ?_
      exact r_iret2 X rfl dX11_passer_74 h
    have h := ite_n c21_2 h
    by_cases c21_3 : p2 = (3)
    · have h := ite_p c21_3 h
      refine r_tin (off := 54) (tgt := 75) X dX11_passer_21 (by rw [c21_3]; decide) (by rw [c21_3]; decide) (by rw [c21_3]; rfl) (by decide) ?_
      refine r_aload_n X dX11_passer_75 rfl 0 rfl ?_
      refine r_getIN X (k := 6) (Lp_N eq4 rfl) eq4 rfl (by decide) ui_4 (by decide) hl135 rfl dX11_passer_76 ?_
      exact r_iret2 X rfl dX11_passer_79 h
    have h := ite_n c21_3 h
    by_cases c21_4 : p2 = (4)
    · have h := ite_p c21_4 h
      refine r_tin (off := 59) (tgt := 80) X dX11_passer_21 (by rw [c21_4]; decide) (by rw [c21_4]; decide) (by rw [c21_4]; rfl) (by decide) ?_
      refine r_aload_n X dX11_passer_80 rfl 0 rfl ?_
      refine r_aload_n X dX11_passer_81 rfl 1 rfl ?_
      refine r_getF X (k := 4) (of := 64) rfl (Lp_N e0 rfl) e0 rfl (by decide) ui_11 (by decide) uw2_187 rfl dX11_passer_82 ?_
      refine r_getIN X (k := 2) (Lp_N (Lp_11_4 e0) rfl) (Lp_11_4 e0) rfl (by decide) ui_6 (by decide) hl138 rfl dX11_passer_85 ?_
      refine r_cVI (As := [.int (gI m1 (h0 + 64) 2)]) (rest := []) X (fun r9 m9 hg => k_X4_playsFor eq4 hg) h (Lp_N eq4 rfl) eq4 rfl (by decide) uw4_42 uw4_43 uw4_44 uw1_6 uw4_45 rfl rfl dd_X4_playsFor ⟨Nat.le_of_ble_eq_true rfl, Nat.le_of_ble_eq_true rfl⟩ rfl (Nat.le_of_ble_eq_true rfl) dX11_passer_88 rfl (fun x6 m5 h => ?_)
      exact r_iret2 X rfl dX11_passer_91 h
    have h := ite_n c21_4 h
    by_cases c21_5 : p2 = (5)
    · have h := ite_p c21_5 h
      refine r_tin (off := 71) (tgt := 92) X dX11_passer_21 (by rw [c21_5]; decide) (by rw [c21_5]; decide) (by rw [c21_5]; rfl) (by decide) ?_
      refine r_aload_n X dX11_passer_92 rfl 0 rfl ?_
      refine r_getIN X (k := 8) (Lp_N eq4 rfl) eq4 rfl (by decide) ui_4 (by decide) hl145 rfl dX11_passer_93 ?_
      exact r_iret2 X rfl dX11_passer_96 h
    have h := ite_n c21_5 h
    refine r_tout (tgt := 97) X dX11_passer_21 (tsw_out 6 (fun j hj => by rcases (show j = 0 ∨ j = 1 ∨ j = 2 ∨ j = 3 ∨ j = 4 ∨ j = 5 by omega) with rfl | rfl | rfl | rfl | rfl | rfl <;> assumption) (by decide)) (by decide) ?_
    refine r_iconst (v := (-1)) X dX11_passer_97 (by decide) ?_
    exact r_iret2 X rfl dX11_passer_98 h
  · refine r_iconst (v := (-1)) X dX11_passer_8 (by decide) ?_
    exact r_iret2 X rfl dX11_passer_9 h
noncomputable def f_X11_tune (h0 : Nat) (p1 : Int32) (p2 : Int32) (mem : Mm) : Option (Int32 × Mm) :=
  if p1 < 0 then (some ((-1), mem)) else (grd (decide (Lp.1 (gR mem h0 2) = 7)) (bnd (gR mem h0 2) fun q1 => if (gI mem q1 6) ≤ p1 then (some ((-1), mem)) else (if ((5)) ≤ p1 then (some ((-1), mem)) else (if p2 < 0 then (some ((-1), mem)) else (if p2 < ((9)) then (grd (decide (Lp.1 (gR mem h0 2) = 7)) (bnd (gR mem h0 2) fun q2 => grd (inb p1 (Lp.2.1 (q2 + 2))) (if (gI mem (q2 + 2) p1.toNatClampNeg) ≤ p2 then (some ((-1), mem)) else (grd (decide (Lp.1 (gR mem h0 2) = 7)) (bnd (gR mem h0 2) fun q3 => grd (inb p1 (Lp.2.1 (q3 + 3))) (bnd (q3 + 3 + (1 + p1.toNatClampNeg)) fun q4 => grd (inb p2 (Lp.2.1 q4)) (some (gI mem q4 p2.toNatClampNeg, mem)))))))) else (some ((-1), mem)))))))
theorem dd_X11_tune : yX11_tune.cls = RX11 ∧ yX11_tune.cls ≠ "java/lang/invoke/MethodHandle" ∧ yX11_tune.cls ≠ "java/lang/invoke/VarHandle" ∧ (parseMethodDescriptor yX11_tune.desc).map (fun d => d.parameters.length) = some 2 := by decide +kernel
set_option maxHeartbeats 4000000 in
set_option maxRecDepth 100000 in
theorem k_X11_tune {l : Launch} {ad : Nat → Nat} {cy : Nat → ClassId} {dC : Nat → ClassId} {dI : Nat → Nat → Nat} {ks : (Nat → Nat) × (Nat → Nat)} {h0 : Nat} {p1 : Int32} {p2 : Int32} {mem : Mm} {r2 : Int32} {mem2 : Mm} (e0 : Lp.1 h0 = 11) (h : f_X11_tune h0 p1 p2 mem = some (r2, mem2)) : CtI l Lp ad cy dC dI ks yX11_tune cX11_tune 3 (some .int) ({ frames := 0, cells := 0, slots := 0, locals := 0 }) [.ref (ad (h0)), .int (p1), .int (p2)] mem r2 mem2 := by
  refine CtI.of (cc := cX11_tune) (maxL := 3) (ret := (some .int)) (own := RX11) rfl (by decide) (Nat.le_of_ble_eq_true rfl) ?_
  intro p e s m args below meth c A X
  have hts := X.2.2.2.2.1
  have hl148 := X.2.2.2.2.2.2.1 (.fieldLinkNest "StationPiano" 148 "StationPiano$Station" "tuneCount" "I" "StationPiano") (List.mem_of_getElem? (i := 36) rfl)
  have hl151 := X.2.2.2.2.2.2.1 (.fieldLinkNest "StationPiano" 151 "StationPiano$Station" "tuneLengths" "[I" "StationPiano") (List.mem_of_getElem? (i := 26) rfl)
  have hl154 := X.2.2.2.2.2.2.1 (.fieldLinkNest "StationPiano" 154 "StationPiano$Station" "tuneKeys" "[[I" "StationPiano") (List.mem_of_getElem? (i := 28) rfl)
  unfold f_X11_tune at h
  refine r_iload_n X dX11_tune_0 rfl 1 rfl ?_
  refine r_if_lt (tgt := 30) X dX11_tune_1 (by decide) h (fun h => ?_) (fun h => ?_)
  · refine r_iconst (v := (-1)) X dX11_tune_30 (by decide) ?_
    exact r_iret2 X rfl dX11_tune_31 h
  · refine r_iload_n X dX11_tune_4 rfl 1 rfl ?_
    refine r_aload_n X dX11_tune_5 rfl 0 rfl ?_
    refine r_getR X 7 (k := 2) (Lp_N e0 rfl) e0 rfl (by decide) ui_11 (by decide) uw2_185 rfl h dX11_tune_6 (fun q1 eq1 h => ?_)
    refine r_getIN X (k := 6) (Lp_N eq1 rfl) eq1 rfl (by decide) ui_7 (by decide) hl148 rfl dX11_tune_9 ?_
    refine r_icmp_ge (tgt := 30) X dX11_tune_12 (by decide) h (fun h => ?_) (fun h => ?_)
    · refine r_iconst (v := (-1)) X dX11_tune_30 (by decide) ?_
      exact r_iret2 X rfl dX11_tune_31 h
    · refine r_iload_n X dX11_tune_15 rfl 1 rfl ?_
      refine r_iconst (v := (5)) X dX11_tune_16 (by decide) ?_
      refine r_icmp_ge (tgt := 30) X dX11_tune_17 (by decide) h (fun h => ?_) (fun h => ?_)
      · refine r_iconst (v := (-1)) X dX11_tune_30 (by decide) ?_
        exact r_iret2 X rfl dX11_tune_31 h
      · refine r_iload_n X dX11_tune_20 rfl 2 rfl ?_
        refine r_if_lt (tgt := 30) X dX11_tune_21 (by decide) h (fun h => ?_) (fun h => ?_)
        · refine r_iconst (v := (-1)) X dX11_tune_30 (by decide) ?_
          exact r_iret2 X rfl dX11_tune_31 h
        · refine r_iload_n X dX11_tune_24 rfl 2 rfl ?_
          refine r_bipush (v := (9)) X dX11_tune_25 (by decide) ?_
          refine r_icmp_lt (tgt := 32) X dX11_tune_27 (by decide) h (fun h => ?_) (fun h => ?_)
          · refine r_iload_n X dX11_tune_32 rfl 2 rfl ?_
            refine r_aload_n X dX11_tune_33 rfl 0 rfl ?_
            refine r_getR X 7 (k := 2) (Lp_N e0 rfl) e0 rfl (by decide) ui_11 (by decide) uw2_185 rfl h dX11_tune_34 (fun q2 eq2 h => ?_)
            refine r_getFN X (k := 1) (of := 2) rfl (Lp_N eq2 rfl) eq2 rfl (by decide) ui_7 (by decide) hl151 rfl dX11_tune_37 ?_
            refine r_iload_n X dX11_tune_40 rfl 1 rfl ?_
            refine r_iald X (Lp_N (Lp_7_1 eq2) rfl) (Lp_7_1 eq2) h dX11_tune_41 (fun h => ?_)
            refine r_icmp_ge (tgt := 59) X dX11_tune_42 (by decide) h (fun h => ?_) (fun h => ?_)
            · refine r_iconst (v := (-1)) X dX11_tune_59 (by decide) ?_
              exact r_iret2 X rfl dX11_tune_60 h
            · refine r_aload_n X dX11_tune_45 rfl 0 rfl ?_
              refine r_getR X 7 (k := 2) (Lp_N e0 rfl) e0 rfl (by decide) ui_11 (by decide) uw2_185 rfl h dX11_tune_46 (fun q3 eq3 h => ?_)
              refine r_getFN X (k := 2) (of := 3) rfl (Lp_N eq3 rfl) eq3 rfl (by decide) ui_7 (by decide) hl154 rfl dX11_tune_49 ?_
              refine r_iload_n X dX11_tune_52 rfl 1 rfl ?_
              refine r_ald20 X (Lp_N (Lp_7_2 eq3) rfl) (Lp_7_2 eq3) (Lp_e20 (Lp_7_2 eq3)) rfl h dX11_tune_53 (fun q4 eq4 h => ?_)
              refine r_iload_n X dX11_tune_54 rfl 2 rfl ?_
              refine r_iald X (Lp_N eq4 rfl) eq4 h dX11_tune_55 (fun h => ?_)
              refine r_goto (tgt := 60) X dX11_tune_56 (by decide) ?_
              exact r_iret2 X rfl dX11_tune_60 h
          · refine r_iconst (v := (-1)) X dX11_tune_30 (by decide) ?_
            exact r_iret2 X rfl dX11_tune_31 h
noncomputable def f_X11_isKey (p0 : Int32) (mem : Mm) : Option (Int32 × Mm) :=
  if p0 < 0 then (grd (bok ((0))) (some ((0), mem))) else (if ((12)) ≤ p0 then (grd (bok ((0))) (some ((0), mem))) else (grd (bok ((1))) (some ((1), mem))))
theorem dd_X11_isKey : yX11_isKey.cls ≠ "java/lang/invoke/MethodHandle" ∧ yX11_isKey.cls ≠ "java/lang/invoke/VarHandle" ∧ (parseMethodDescriptor yX11_isKey.desc).map (fun d => d.parameters.length) = some 1 := by decide +kernel
set_option maxHeartbeats 4000000 in
set_option maxRecDepth 100000 in
theorem k_X11_isKey {l : Launch} {ad : Nat → Nat} {cy : Nat → ClassId} {dC : Nat → ClassId} {dI : Nat → Nat → Nat} {ks : (Nat → Nat) × (Nat → Nat)} {p0 : Int32} {mem : Mm} {r2 : Int32} {mem2 : Mm}  (h : f_X11_isKey p0 mem = some (r2, mem2)) : CtI l Lp ad cy dC dI ks yX11_isKey cX11_isKey 1 (some .boolean) ({ frames := 0, cells := 0, slots := 0, locals := 0 }) [.int (p0)] mem r2 mem2 := by
  refine CtI.of (cc := cX11_isKey) (maxL := 1) (ret := (some .boolean)) (own := RX11) rfl (by decide) (Nat.le_of_ble_eq_true rfl) ?_
  intro p e s m args below meth c A X
  have hts := X.2.2.2.2.1
  unfold f_X11_isKey at h
  refine r_iload_n X dX11_isKey_0 rfl 0 rfl ?_
  refine r_if_lt (tgt := 14) X dX11_isKey_1 (by decide) h (fun h => ?_) (fun h => ?_)
  · refine r_iconst (v := (0)) X dX11_isKey_14 (by decide) ?_
    exact r_zret2 X rfl dX11_isKey_15 h
  · refine r_iload_n X dX11_isKey_4 rfl 0 rfl ?_
    refine r_bipush (v := (12)) X dX11_isKey_5 (by decide) ?_
    refine r_icmp_ge (tgt := 14) X dX11_isKey_7 (by decide) h (fun h => ?_) (fun h => ?_)
    · refine r_iconst (v := (0)) X dX11_isKey_14 (by decide) ?_
      exact r_zret2 X rfl dX11_isKey_15 h
    · refine r_iconst (v := (1)) X dX11_isKey_10 (by decide) ?_
      refine r_goto (tgt := 15) X dX11_isKey_11 (by decide) ?_
      exact r_zret2 X rfl dX11_isKey_15 h
noncomputable def f_X11_key (h0 : Nat) (p1 : Int32) (mem : Mm) : Option (Int32 × Mm) :=
  bdI (f_X11_isKey p1 mem) fun x2 m1 => if x2 = 0 then (some ((-1), m1)) else (grd (inb p1 (Lp.2.1 (h0 + 64 + 1))) (some (gI m1 (h0 + 64 + 1) p1.toNatClampNeg, m1)))
theorem dd_X11_key : yX11_key.cls = RX11 ∧ yX11_key.cls ≠ "java/lang/invoke/MethodHandle" ∧ yX11_key.cls ≠ "java/lang/invoke/VarHandle" ∧ (parseMethodDescriptor yX11_key.desc).map (fun d => d.parameters.length) = some 1 := by decide +kernel
set_option maxHeartbeats 4000000 in
set_option maxRecDepth 100000 in
theorem k_X11_key {l : Launch} {ad : Nat → Nat} {cy : Nat → ClassId} {dC : Nat → ClassId} {dI : Nat → Nat → Nat} {ks : (Nat → Nat) × (Nat → Nat)} {h0 : Nat} {p1 : Int32} {mem : Mm} {r2 : Int32} {mem2 : Mm} (e0 : Lp.1 h0 = 11) (h : f_X11_key h0 p1 mem = some (r2, mem2)) : CtI l Lp ad cy dC dI ks yX11_key cX11_key 2 (some .int) ({ frames := 1, cells := 0, slots := 0, locals := 20 }) [.ref (ad (h0)), .int (p1)] mem r2 mem2 := by
  refine CtI.of (cc := cX11_key) (maxL := 2) (ret := (some .int)) (own := RX11) rfl (by decide) (Nat.le_of_ble_eq_true rfl) ?_
  intro p e s m args below meth c A X
  have hts := X.2.2.2.2.1
  have hl161 := X.2.2.2.2.2.2.1 (.fieldLinkNest "StationPiano" 161 "StationPiano$State" "wear" "[I" "StationPiano") (List.mem_of_getElem? (i := 55) rfl)
  unfold f_X11_key at h
  refine r_iload_n X dX11_key_0 rfl 1 rfl ?_
  refine r_cSI (As := [.int (p1)]) (rest := []) X (fun r9 m9 hg => k_X11_isKey hg) h uw4_54 uw4_55 uw1_1 uw4_56 rfl rfl dd_X11_isKey ⟨Nat.le_of_ble_eq_true rfl, Nat.le_of_ble_eq_true rfl⟩ rfl (Nat.le_of_ble_eq_true rfl) dX11_key_1 rfl (fun x2 m1 h => ?_)
  refine r_if_eq (tgt := 19) X dX11_key_4 (by decide) h (fun h => ?_) (fun h => ?_)
  · refine r_iconst (v := (-1)) X dX11_key_19 (by decide) ?_
    exact r_iret2 X rfl dX11_key_20 h
  · refine r_aload_n X dX11_key_7 rfl 0 rfl ?_
    refine r_getF X (k := 4) (of := 64) rfl (Lp_N e0 rfl) e0 rfl (by decide) ui_11 (by decide) uw2_187 rfl dX11_key_8 ?_
    refine r_getFN X (k := 0) (of := 1) rfl (Lp_N (Lp_11_4 e0) rfl) (Lp_11_4 e0) rfl (by decide) ui_6 (by decide) hl161 rfl dX11_key_11 ?_
    refine r_iload_n X dX11_key_14 rfl 1 rfl ?_
    refine r_iald X (Lp_N (Lp_6_0 (Lp_11_4 e0)) rfl) (Lp_6_0 (Lp_11_4 e0)) h dX11_key_15 (fun h => ?_)
    refine r_goto (tgt := 20) X dX11_key_16 (by decide) ?_
    exact r_iret2 X rfl dX11_key_20 h
noncomputable def f_X11_tryDay (h0 : Nat) (p1 : Int32) (mem : Mm) : Option (Int32 × Mm) :=
  bdV (f_X6_copyFrom (h0 + 66) (h0 + 64) mem) fun m1 => grd (decide (Lp.1 (gR m1 h0 2) = 7)) (bnd (gR m1 h0 2) fun q2 => bdV (f_X1_prepare (h0 + 82) q2 (gI m1 (h0 + 66) 2) m1) fun m3 => bdV (f_X1_pass (h0 + 82) (h0 + 66) p1 m3) fun m4 => some (gI m4 (h0 + 82) 10, m4))
theorem dd_X11_tryDay : yX11_tryDay.cls = RX11 ∧ yX11_tryDay.cls ≠ "java/lang/invoke/MethodHandle" ∧ yX11_tryDay.cls ≠ "java/lang/invoke/VarHandle" ∧ (parseMethodDescriptor yX11_tryDay.desc).map (fun d => d.parameters.length) = some 1 := by decide +kernel
set_option maxHeartbeats 4000000 in
set_option maxRecDepth 100000 in
theorem k_X11_tryDay {l : Launch} {ad : Nat → Nat} {cy : Nat → ClassId} {dC : Nat → ClassId} {dI : Nat → Nat → Nat} {ks : (Nat → Nat) × (Nat → Nat)} {h0 : Nat} {p1 : Int32} {mem : Mm} {r2 : Int32} {mem2 : Mm} (e0 : Lp.1 h0 = 11) (h : f_X11_tryDay h0 p1 mem = some (r2, mem2)) : CtI l Lp ad cy dC dI ks yX11_tryDay cX11_tryDay 2 (some .int) ({ frames := 5, cells := 0, slots := 0, locals := 112 }) [.ref (ad (h0)), .int (p1)] mem r2 mem2 := by
  refine CtI.of (cc := cX11_tryDay) (maxL := 2) (ret := (some .int)) (own := RX11) rfl (by decide) (Nat.le_of_ble_eq_true rfl) ?_
  intro p e s m args below meth c A X
  have hts := X.2.2.2.2.1
  have hl138 := X.2.2.2.2.2.2.1 (.fieldLinkNest "StationPiano" 138 "StationPiano$State" "minutes" "I" "StationPiano") (List.mem_of_getElem? (i := 57) rfl)
  have hl190 := X.2.2.2.2.2.2.1 (.fieldLinkNest "StationPiano" 190 "StationPiano$DayRun" "joySum" "I" "StationPiano") (List.mem_of_getElem? (i := 75) rfl)
  unfold f_X11_tryDay at h
  refine r_aload_n X dX11_tryDay_0 rfl 0 rfl ?_
  refine r_getF X (k := 5) (of := 66) rfl (Lp_N e0 rfl) e0 rfl (by decide) ui_11 (by decide) uw2_188 rfl dX11_tryDay_1 ?_
  refine r_aload_n X dX11_tryDay_4 rfl 0 rfl ?_
  refine r_getF X (k := 4) (of := 64) rfl (Lp_N e0 rfl) e0 rfl (by decide) ui_11 (by decide) uw2_187 rfl dX11_tryDay_5 ?_
  refine r_cVV (As := [.ref (ad (h0 + 64))]) (rest := []) X (fun m9 hg => k_X6_copyFrom (Lp_11_5 e0) (Lp_11_4 e0) hg) h (Lp_N (Lp_11_5 e0) rfl) (Lp_11_5 e0) rfl (by decide) uw4_65 uw4_66 uw4_67 uw1_7 uw4_68 rfl rfl dd_X6_copyFrom ⟨Nat.le_of_ble_eq_true rfl, Nat.le_of_ble_eq_true rfl⟩ rfl (Nat.le_of_ble_eq_true rfl) dX11_tryDay_8 rfl (fun m1 h => ?_)
  refine r_aload_n X dX11_tryDay_11 rfl 0 rfl ?_
  refine r_getF X (k := 10) (of := 82) rfl (Lp_N e0 rfl) e0 rfl (by decide) ui_11 (by decide) uw2_193 rfl dX11_tryDay_12 ?_
  refine r_aload_n X dX11_tryDay_15 rfl 0 rfl ?_
  refine r_getR X 7 (k := 2) (Lp_N e0 rfl) e0 rfl (by decide) ui_11 (by decide) uw2_185 rfl h dX11_tryDay_16 (fun q2 eq2 h => ?_)
  refine r_aload_n X dX11_tryDay_19 rfl 0 rfl ?_
  refine r_getF X (k := 5) (of := 66) rfl (Lp_N e0 rfl) e0 rfl (by decide) ui_11 (by decide) uw2_188 rfl dX11_tryDay_20 ?_
  refine r_getIN X (k := 2) (Lp_N (Lp_11_5 e0) rfl) (Lp_11_5 e0) rfl (by decide) ui_6 (by decide) hl138 rfl dX11_tryDay_23 ?_
  refine r_cVV (As := [.ref (ad (q2)), .int (gI m1 (h0 + 66) 2)]) (rest := []) X (fun m9 hg => k_X1_prepare (Lp_11_10 e0) eq2 hg) h (Lp_N (Lp_11_10 e0) rfl) (Lp_11_10 e0) rfl (by decide) uw4_69 uw4_70 uw4_71 uw1_11 uw4_72 rfl rfl dd_X1_prepare ⟨Nat.le_of_ble_eq_true rfl, Nat.le_of_ble_eq_true rfl⟩ rfl (Nat.le_of_ble_eq_true rfl) dX11_tryDay_26 rfl (fun m3 h => ?_)
  refine r_aload_n X dX11_tryDay_29 rfl 0 rfl ?_
  refine r_getF X (k := 10) (of := 82) rfl (Lp_N e0 rfl) e0 rfl (by decide) ui_11 (by decide) uw2_193 rfl dX11_tryDay_30 ?_
  refine r_aload_n X dX11_tryDay_33 rfl 0 rfl ?_
  refine r_getF X (k := 5) (of := 66) rfl (Lp_N e0 rfl) e0 rfl (by decide) ui_11 (by decide) uw2_188 rfl dX11_tryDay_34 ?_
  refine r_iload_n X dX11_tryDay_37 rfl 1 rfl ?_
  refine r_cVV (As := [.ref (ad (h0 + 66)), .int (p1)]) (rest := []) X (fun m9 hg => k_X1_pass (Lp_11_10 e0) (Lp_11_5 e0) hg) h (Lp_N (Lp_11_10 e0) rfl) (Lp_11_10 e0) rfl (by decide) uw4_96 uw4_97 uw4_98 uw1_11 uw4_99 rfl rfl dd_X1_pass ⟨Nat.le_of_ble_eq_true rfl, Nat.le_of_ble_eq_true rfl⟩ rfl (Nat.le_of_ble_eq_true rfl) dX11_tryDay_38 rfl (fun m4 h => ?_)
  refine r_aload_n X dX11_tryDay_41 rfl 0 rfl ?_
  refine r_getF X (k := 10) (of := 82) rfl (Lp_N e0 rfl) e0 rfl (by decide) ui_11 (by decide) uw2_193 rfl dX11_tryDay_42 ?_
  refine r_getIN X (k := 10) (Lp_N (Lp_11_10 e0) rfl) (Lp_11_10 e0) rfl (by decide) ui_1 (by decide) hl190 rfl dX11_tryDay_45 ?_
  exact r_iret2 X rfl dX11_tryDay_48 h
noncomputable def f_X11_begins (h0 : Nat) (p1 : Int32) (mem : Mm) : Option (Int32 × Mm) :=
  bdI (f_X11_isPasser h0 p1 mem) fun x2 m1 => if ¬ x2 = 0 then (bdI (f_X11_tryDay h0 ((0)) m1) fun x4 m3 => grd (inb p1 (Lp.2.1 (h0 + 82 + 1))) (some (gI m3 (h0 + 82 + 1) p1.toNatClampNeg, m3))) else (some ((-1), m1))
theorem dd_X11_begins : yX11_begins.cls = RX11 ∧ yX11_begins.cls ≠ "java/lang/invoke/MethodHandle" ∧ yX11_begins.cls ≠ "java/lang/invoke/VarHandle" ∧ (parseMethodDescriptor yX11_begins.desc).map (fun d => d.parameters.length) = some 1 := by decide +kernel
set_option maxHeartbeats 4000000 in
set_option maxRecDepth 100000 in
theorem k_X11_begins {l : Launch} {ad : Nat → Nat} {cy : Nat → ClassId} {dC : Nat → ClassId} {dI : Nat → Nat → Nat} {ks : (Nat → Nat) × (Nat → Nat)} {h0 : Nat} {p1 : Int32} {mem : Mm} {r2 : Int32} {mem2 : Mm} (e0 : Lp.1 h0 = 11) (h : f_X11_begins h0 p1 mem = some (r2, mem2)) : CtI l Lp ad cy dC dI ks yX11_begins cX11_begins 2 (some .int) ({ frames := 6, cells := 0, slots := 0, locals := 133 }) [.ref (ad (h0)), .int (p1)] mem r2 mem2 := by
  refine CtI.of (cc := cX11_begins) (maxL := 2) (ret := (some .int)) (own := RX11) rfl (by decide) (Nat.le_of_ble_eq_true rfl) ?_
  intro p e s m args below meth c A X
  have hts := X.2.2.2.2.1
  have hl167 := X.2.2.2.2.2.2.1 (.fieldLinkNest "StationPiano" 167 "StationPiano$DayRun" "beginOf" "[I" "StationPiano") (List.mem_of_getElem? (i := 72) rfl)
  unfold f_X11_begins at h
  refine r_aload_n X dX11_begins_0 rfl 0 rfl ?_
  refine r_iload_n X dX11_begins_1 rfl 1 rfl ?_
  refine r_cVI (As := [.int (p1)]) (rest := []) X (fun r9 m9 hg => k_X11_isPasser e0 hg) h (Lp_N e0 rfl) e0 rfl (by decide) uw4_38 uw4_40 us2_7 uw1_1 uw4_41 rfl rfl dd_X11_isPasser ⟨Nat.le_of_ble_eq_true rfl, Nat.le_of_ble_eq_true rfl⟩ rfl (Nat.le_of_ble_eq_true rfl) dX11_begins_2 rfl (fun x2 m1 h => ?_)
  refine r_if_ne (tgt := 10) X dX11_begins_5 (by decide) h (fun h => ?_) (fun h => ?_)
  · refine r_aload_n X dX11_begins_10 rfl 0 rfl ?_
    refine r_iconst (v := (0)) X dX11_begins_11 (by decide) ?_
    refine r_cVI (As := [.int ((0))]) (rest := []) X (fun r9 m9 hg => k_X11_tryDay e0 hg) h (Lp_N e0 rfl) e0 rfl (by decide) uw4_61 uw4_63 us2_8 uw1_1 uw4_64 rfl rfl dd_X11_tryDay ⟨Nat.le_of_ble_eq_true rfl, Nat.le_of_ble_eq_true rfl⟩ rfl (Nat.le_of_ble_eq_true rfl) dX11_begins_12 rfl (fun x4 m3 h => ?_)
    refine r_pop X dX11_begins_15 rfl ?_
    refine r_aload_n X dX11_begins_16 rfl 0 rfl ?_
    refine r_getF X (k := 10) (of := 82) rfl (Lp_N e0 rfl) e0 rfl (by decide) ui_11 (by decide) uw2_193 rfl dX11_begins_17 ?_
    refine r_getFN X (k := 0) (of := 1) rfl (Lp_N (Lp_11_10 e0) rfl) (Lp_11_10 e0) rfl (by decide) ui_1 (by decide) hl167 rfl dX11_begins_20 ?_
    refine r_iload_n X dX11_begins_23 rfl 1 rfl ?_
    refine r_iald X (Lp_N (Lp_1_0 (Lp_11_10 e0)) rfl) (Lp_1_0 (Lp_11_10 e0)) h dX11_begins_24 (fun h => ?_)
    exact r_iret2 X rfl dX11_begins_25 h
  · refine r_iconst (v := (-1)) X dX11_begins_8 (by decide) ?_
    exact r_iret2 X rfl dX11_begins_9 h
noncomputable def f_X11_ends (h0 : Nat) (p1 : Int32) (mem : Mm) : Option (Int32 × Mm) :=
  bdI (f_X11_isPasser h0 p1 mem) fun x2 m1 => if ¬ x2 = 0 then (bdI (f_X11_tryDay h0 ((0)) m1) fun x4 m3 => grd (inb p1 (Lp.2.1 (h0 + 82 + 2))) (some (gI m3 (h0 + 82 + 2) p1.toNatClampNeg, m3))) else (some ((-1), m1))
theorem dd_X11_ends : yX11_ends.cls = RX11 ∧ yX11_ends.cls ≠ "java/lang/invoke/MethodHandle" ∧ yX11_ends.cls ≠ "java/lang/invoke/VarHandle" ∧ (parseMethodDescriptor yX11_ends.desc).map (fun d => d.parameters.length) = some 1 := by decide +kernel
set_option maxHeartbeats 4000000 in
set_option maxRecDepth 100000 in
theorem k_X11_ends {l : Launch} {ad : Nat → Nat} {cy : Nat → ClassId} {dC : Nat → ClassId} {dI : Nat → Nat → Nat} {ks : (Nat → Nat) × (Nat → Nat)} {h0 : Nat} {p1 : Int32} {mem : Mm} {r2 : Int32} {mem2 : Mm} (e0 : Lp.1 h0 = 11) (h : f_X11_ends h0 p1 mem = some (r2, mem2)) : CtI l Lp ad cy dC dI ks yX11_ends cX11_ends 2 (some .int) ({ frames := 6, cells := 0, slots := 0, locals := 133 }) [.ref (ad (h0)), .int (p1)] mem r2 mem2 := by
  refine CtI.of (cc := cX11_ends) (maxL := 2) (ret := (some .int)) (own := RX11) rfl (by decide) (Nat.le_of_ble_eq_true rfl) ?_
  intro p e s m args below meth c A X
  have hts := X.2.2.2.2.1
  have hl170 := X.2.2.2.2.2.2.1 (.fieldLinkNest "StationPiano" 170 "StationPiano$DayRun" "endOf" "[I" "StationPiano") (List.mem_of_getElem? (i := 73) rfl)
  unfold f_X11_ends at h
  refine r_aload_n X dX11_ends_0 rfl 0 rfl ?_
  refine r_iload_n X dX11_ends_1 rfl 1 rfl ?_
  refine r_cVI (As := [.int (p1)]) (rest := []) X (fun r9 m9 hg => k_X11_isPasser e0 hg) h (Lp_N e0 rfl) e0 rfl (by decide) uw4_38 uw4_40 us2_7 uw1_1 uw4_41 rfl rfl dd_X11_isPasser ⟨Nat.le_of_ble_eq_true rfl, Nat.le_of_ble_eq_true rfl⟩ rfl (Nat.le_of_ble_eq_true rfl) dX11_ends_2 rfl (fun x2 m1 h => ?_)
  refine r_if_ne (tgt := 10) X dX11_ends_5 (by decide) h (fun h => ?_) (fun h => ?_)
  · refine r_aload_n X dX11_ends_10 rfl 0 rfl ?_
    refine r_iconst (v := (0)) X dX11_ends_11 (by decide) ?_
    refine r_cVI (As := [.int ((0))]) (rest := []) X (fun r9 m9 hg => k_X11_tryDay e0 hg) h (Lp_N e0 rfl) e0 rfl (by decide) uw4_61 uw4_63 us2_8 uw1_1 uw4_64 rfl rfl dd_X11_tryDay ⟨Nat.le_of_ble_eq_true rfl, Nat.le_of_ble_eq_true rfl⟩ rfl (Nat.le_of_ble_eq_true rfl) dX11_ends_12 rfl (fun x4 m3 h => ?_)
    refine r_pop X dX11_ends_15 rfl ?_
    refine r_aload_n X dX11_ends_16 rfl 0 rfl ?_
    refine r_getF X (k := 10) (of := 82) rfl (Lp_N e0 rfl) e0 rfl (by decide) ui_11 (by decide) uw2_193 rfl dX11_ends_17 ?_
    refine r_getFN X (k := 1) (of := 2) rfl (Lp_N (Lp_11_10 e0) rfl) (Lp_11_10 e0) rfl (by decide) ui_1 (by decide) hl170 rfl dX11_ends_20 ?_
    refine r_iload_n X dX11_ends_23 rfl 1 rfl ?_
    refine r_iald X (Lp_N (Lp_1_1 (Lp_11_10 e0)) rfl) (Lp_1_1 (Lp_11_10 e0)) h dX11_ends_24 (fun h => ?_)
    exact r_iret2 X rfl dX11_ends_25 h
  · refine r_iconst (v := (-1)) X dX11_ends_8 (by decide) ?_
    exact r_iret2 X rfl dX11_ends_9 h
