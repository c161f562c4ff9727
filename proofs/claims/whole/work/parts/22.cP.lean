noncomputable def f_X5_takeValue (p1 : Int32) (p2 : Int32) (p3 : Int32) (mem : Mm) : Option (Int32 × Mm) :=
  bdI (f_X5_take p1 mem) fun x2 m1 => if x2 = 0 then (grd (bok ((0))) (some ((0), m1))) else (bdI (f_X5_takeNumber p2 p3 m1) fun x4 m3 => if x4 = 0 then (grd (bok ((0))) (some ((0), m3))) else (grd (bok ((1))) (some ((1), m3))))
theorem dd_X5_takeValue : yX5_takeValue.cls = RX5 ∧ yX5_takeValue.cls ≠ "java/lang/invoke/MethodHandle" ∧ yX5_takeValue.cls ≠ "java/lang/invoke/VarHandle" ∧ (parseMethodDescriptor yX5_takeValue.desc).map (fun d => d.parameters.length) = some 3 := by decide +kernel
set_option maxHeartbeats 4000000 in
set_option maxRecDepth 100000 in
theorem k_X5_takeValue {l : Launch} {ad : Nat → Nat} {cy : Nat → ClassId} {dC : Nat → ClassId} {dI : Nat → Nat → Nat} {ks : (Nat → Nat) × (Nat → Nat)} {p1 : Int32} {p2 : Int32} {p3 : Int32} {mem : Mm} {r2 : Int32} {mem2 : Mm}  (h : f_X5_takeValue p1 p2 p3 mem = some (r2, mem2)) : CtI l Lp ad cy dC dI ks yX5_takeValue cX5_takeValue 4 (some .boolean) ({ frames := 7, cells := 0, slots := 0, locals := 153 }) [.ref (ad (3)), .int (p1), .int (p2), .int (p3)] mem r2 mem2 := by
  refine CtI.of (cc := cX5_takeValue) (maxL := 4) (ret := (some .boolean)) (own := RX5) rfl (by decide) (Nat.le_of_ble_eq_true rfl) ?_
  intro p e s m args below meth c A X
  have hts := X.2.2.2.2.1
  unfold f_X5_takeValue at h
  refine r_aload_n X dX5_takeValue_0 rfl 0 rfl ?_
  refine r_iload_n X dX5_takeValue_1 rfl 1 rfl ?_
  refine r_cVI (As := [.int (p1)]) (rest := []) X (fun r9 m9 hg => k_X5_take hg) h (Lp_N Lpk_3 rfl) Lpk_3 rfl (by decide) uw3_181 uw3_183 us1_9 uw1_3 uw3_184 rfl rfl dd_X5_take ⟨Nat.le_of_ble_eq_true rfl, Nat.le_of_ble_eq_true rfl⟩ rfl (Nat.le_of_ble_eq_true rfl) dX5_takeValue_2 rfl (fun x2 m1 h => ?_)
  refine r_if_eq (tgt := 21) X dX5_takeValue_5 (by decide) h (fun h => ?_) (fun h => ?_)
  · refine r_iconst (v := (0)) X dX5_takeValue_21 (by decide) ?_
    exact r_zret2 X rfl dX5_takeValue_22 h
  · refine r_aload_n X dX5_takeValue_8 rfl 0 rfl ?_
    refine r_iload_n X dX5_takeValue_9 rfl 2 rfl ?_
    refine r_iload_n X dX5_takeValue_10 rfl 3 rfl ?_
    refine r_cVI (As := [.int (p2), .int (p3)]) (rest := []) X (fun r9 m9 hg => k_X5_takeNumber hg) h (Lp_N Lpk_3 rfl) Lpk_3 rfl (by decide) uw3_177 uw3_179 us1_8 uw1_3 uw3_180 rfl rfl dd_X5_takeNumber ⟨Nat.le_of_ble_eq_true rfl, Nat.le_of_ble_eq_true rfl⟩ rfl (Nat.le_of_ble_eq_true rfl) dX5_takeValue_11 rfl (fun x4 m3 h => ?_)
    refine r_if_eq (tgt := 21) X dX5_takeValue_14 (by decide) h (fun h => ?_) (fun h => ?_)
    · refine r_iconst (v := (0)) X dX5_takeValue_21 (by decide) ?_
      exact r_zret2 X rfl dX5_takeValue_22 h
    · refine r_iconst (v := (1)) X dX5_takeValue_17 (by decide) ?_
      refine r_goto (tgt := 22) X dX5_takeValue_18 (by decide) ?_
      exact r_zret2 X rfl dX5_takeValue_22 h
noncomputable def f_X5_hoursTold (h1 : Nat) (mem : Mm) : Option (Int32 × Mm) :=
  bdI (f_X5_takeNumber ((0)) ((59)) mem) fun x2 m1 => if ¬ x2 = 0 then (bnd (sI m1 h1 10 (gI m1 3 1)) fun m3 => bdI (f_X5_takeValue ((10)) ((gI m3 h1 10) + ((1))) ((60)) m3) fun x5 m4 => bnd (sI m4 h1 11 (gI m4 3 1)) fun m6 => grd (bok x5) (some (x5, m6))) else (grd (bok ((0))) (some ((0), m1)))
theorem dd_X5_hoursTold : yX5_hoursTold.cls = RX5 ∧ yX5_hoursTold.cls ≠ "java/lang/invoke/MethodHandle" ∧ yX5_hoursTold.cls ≠ "java/lang/invoke/VarHandle" ∧ (parseMethodDescriptor yX5_hoursTold.desc).map (fun d => d.parameters.length) = some 1 := by decide +kernel
set_option maxHeartbeats 4000000 in
set_option maxRecDepth 100000 in
theorem k_X5_hoursTold {l : Launch} {ad : Nat → Nat} {cy : Nat → ClassId} {dC : Nat → ClassId} {dI : Nat → Nat → Nat} {ks : (Nat → Nat) × (Nat → Nat)} {h1 : Nat} {mem : Mm} {r2 : Int32} {mem2 : Mm} (e1 : Lp.1 h1 = 7) (h : f_X5_hoursTold h1 mem = some (r2, mem2)) : CtI l Lp ad cy dC dI ks yX5_hoursTold cX5_hoursTold 3 (some .boolean) ({ frames := 8, cells := 0, slots := 0, locals := 176 }) [.ref (ad (3)), .ref (ad (h1))] mem r2 mem2 := by
  refine CtI.of (cc := cX5_hoursTold) (maxL := 3) (ret := (some .boolean)) (own := RX5) rfl (by decide) (Nat.le_of_ble_eq_true rfl) ?_
  intro p e s m args below meth c A X
  have hts := X.2.2.2.2.1
  have hl129 := X.2.2.2.2.2.2.1 (.fieldLinkNest "StationPiano$Reader" 129 "StationPiano$Station" "from" "I" "StationPiano") (List.mem_of_getElem? (i := 48) rfl)
  have hl132 := X.2.2.2.2.2.2.1 (.fieldLinkNest "StationPiano$Reader" 132 "StationPiano$Station" "to" "I" "StationPiano") (List.mem_of_getElem? (i := 50) rfl)
  unfold f_X5_hoursTold at h
  refine r_aload_n X dX5_hoursTold_0 rfl 0 rfl ?_
  refine r_iconst (v := (0)) X dX5_hoursTold_1 (by decide) ?_
  refine r_bipush (v := (59)) X dX5_hoursTold_2 (by decide) ?_
  refine r_cVI (As := [.int ((0)), .int ((59))]) (rest := []) X (fun r9 m9 hg => k_X5_takeNumber hg) h (Lp_N Lpk_3 rfl) Lpk_3 rfl (by decide) uw3_177 uw3_179 us1_8 uw1_3 uw3_180 rfl rfl dd_X5_takeNumber ⟨Nat.le_of_ble_eq_true rfl, Nat.le_of_ble_eq_true rfl⟩ rfl (Nat.le_of_ble_eq_true rfl) dX5_hoursTold_4 rfl (fun x2 m1 h => ?_)
  refine r_if_ne (tgt := 12) X dX5_hoursTold_7 (by decide) h (fun h => ?_) (fun h => ?_)
  · refine r_aload_n X dX5_hoursTold_12 rfl 1 rfl ?_
    refine r_aload_n X dX5_hoursTold_13 rfl 0 rfl ?_
    refine r_getI X (k := 1) (Lp_N Lpk_3 rfl) Lpk_3 rfl (by decide) ui_5 (by decide) uw1_74 rfl dX5_hoursTold_14 ?_
    refine r_putIN X (k := 10) (Lp_N e1 rfl) e1 rfl (by decide) ui_7 (by decide) hl129 tyX7_ok nmX7 rfl rfl rfl dX5_hoursTold_17 ?_
    refine r_nmM h (fun m3 h => ?_)
    refine r_aload_n X dX5_hoursTold_20 rfl 0 rfl ?_
    refine r_bipush (v := (10)) X dX5_hoursTold_21 (by decide) ?_
    refine r_aload_n X dX5_hoursTold_23 rfl 1 rfl ?_
    refine r_getIN X (k := 10) (Lp_N e1 rfl) e1 rfl (by decide) ui_7 (by decide) hl129 rfl dX5_hoursTold_24 ?_
    refine r_iconst (v := (1)) X dX5_hoursTold_27 (by decide) ?_
    refine r_iadd X dX5_hoursTold_28 ?_
    refine r_bipush (v := (60)) X dX5_hoursTold_29 (by decide) ?_
    refine r_cVI (As := [.int ((10)), .int ((gI m3 h1 10) + ((1))), .int ((60))]) (rest := []) X (fun r9 m9 hg => k_X5_takeValue hg) h (Lp_N Lpk_3 rfl) Lpk_3 rfl (by decide) uw3_203 uw3_205 us1_13 uw1_3 uw3_206 rfl rfl dd_X5_takeValue ⟨Nat.le_of_ble_eq_true rfl, Nat.le_of_ble_eq_true rfl⟩ rfl (Nat.le_of_ble_eq_true rfl) dX5_hoursTold_31 rfl (fun x5 m4 h => ?_)
    refine r_istore_n (lv2 := [(2, .int (x5)), (0, .ref (ad (3))), (1, .ref (ad (h1)))]) X dX5_hoursTold_34 rfl (by decide) rfl ?_
    refine r_aload_n X dX5_hoursTold_35 rfl 2 rfl ?_
    refine r_aload_n X dX5_hoursTold_36 rfl 1 rfl ?_
    refine r_getI X (k := 1) (Lp_N Lpk_3 rfl) Lpk_3 rfl (by decide) ui_5 (by decide) uw1_74 rfl dX5_hoursTold_37 ?_
    refine r_putIN X (k := 11) (Lp_N e1 rfl) e1 rfl (by decide) ui_7 (by decide) hl132 tyX7_ok nmX7 rfl rfl rfl dX5_hoursTold_40 ?_
    refine r_nmM h (fun m6 h => ?_)
    refine r_iload_n X dX5_hoursTold_43 rfl 0 rfl ?_
    exact r_zret2 X rfl dX5_hoursTold_44 h
  · refine r_iconst (v := (0)) X dX5_hoursTold_10 (by decide) ?_
    exact r_zret2 X rfl dX5_hoursTold_11 h
noncomputable def f_X5_isName  (mem : Mm) : Option (Int32 × Mm) :=
  if (gI mem 1 2) < ((23)) then (grd (bok ((0))) (some ((0), mem))) else (if ((29)) < (gI mem 1 2) then (grd (bok ((0))) (some ((0), mem))) else (grd (bok ((1))) (some ((1), mem))))
theorem dd_X5_isName : yX5_isName.cls = RX5 ∧ yX5_isName.cls ≠ "java/lang/invoke/MethodHandle" ∧ yX5_isName.cls ≠ "java/lang/invoke/VarHandle" ∧ (parseMethodDescriptor yX5_isName.desc).map (fun d => d.parameters.length) = some 0 := by decide +kernel
set_option maxHeartbeats 4000000 in
set_option maxRecDepth 100000 in
theorem k_X5_isName {l : Launch} {ad : Nat → Nat} {cy : Nat → ClassId} {dC : Nat → ClassId} {dI : Nat → Nat → Nat} {ks : (Nat → Nat) × (Nat → Nat)}  {mem : Mm} {r2 : Int32} {mem2 : Mm}  (h : f_X5_isName  mem = some (r2, mem2)) : CtI l Lp ad cy dC dI ks yX5_isName cX5_isName 1 (some .boolean) ({ frames := 0, cells := 0, slots := 0, locals := 0 }) [.ref (ad (3))] mem r2 mem2 := by
  refine CtI.of (cc := cX5_isName) (maxL := 1) (ret := (some .boolean)) (own := RX5) rfl (by decide) (Nat.le_of_ble_eq_true rfl) ?_
  intro p e s m args below meth c A X
  have hts := X.2.2.2.2.1
  have hl29 := X.2.2.2.2.2.2.1 (.fieldLinkNest "StationPiano$Reader" 29 "StationPiano$Tape" "token" "I" "StationPiano") (List.mem_of_getElem? (i := 1) rfl)
  unfold f_X5_isName at h
  refine r_aload_n X dX5_isName_0 rfl 0 rfl ?_
  refine r_getB X (k := 0) (of := 2) rfl (Lp_N Lpk_3 rfl) Lpk_3 rfl (by decide) ui_5 (by decide) uw1_73 rfl dX5_isName_1 ?_
  refine r_getIN X (k := 2) (Lp_N Lpk_1 rfl) Lpk_1 rfl (by decide) ui_9 (by decide) hl29 rfl dX5_isName_4 ?_
  refine r_bipush (v := (23)) X dX5_isName_7 (by decide) ?_
  refine r_icmp_lt (tgt := 28) X dX5_isName_9 (by decide) h (fun h => ?_) (fun h => ?_)
  · refine r_iconst (v := (0)) X dX5_isName_28 (by decide) ?_
    exact r_zret2 X rfl dX5_isName_29 h
  · refine r_aload_n X dX5_isName_12 rfl 0 rfl ?_
    refine r_getB X (k := 0) (of := 2) rfl (Lp_N Lpk_3 rfl) Lpk_3 rfl (by decide) ui_5 (by decide) uw1_73 rfl dX5_isName_13 ?_
    refine r_getIN X (k := 2) (Lp_N Lpk_1 rfl) Lpk_1 rfl (by decide) ui_9 (by decide) hl29 rfl dX5_isName_16 ?_
    refine r_bipush (v := (29)) X dX5_isName_19 (by decide) ?_
    refine r_icmp_gt (tgt := 28) X dX5_isName_21 (by decide) h (fun h => ?_) (fun h => ?_)
    · refine r_iconst (v := (0)) X dX5_isName_28 (by decide) ?_
      exact r_zret2 X rfl dX5_isName_29 h
    · refine r_iconst (v := (1)) X dX5_isName_24 (by decide) ?_
      refine r_goto (tgt := 29) X dX5_isName_25 (by decide) ?_
      exact r_zret2 X rfl dX5_isName_29 h
noncomputable def f_X7_tuneNamed_B2 (h0 : Nat) (p1 : Int64) (k2 : Int32 → Mm → Option (Int32 × Mm)) (x1 : Int32) (m2 : Mm) : Option (Int32 × Mm) :=
  if (gI m2 h0 6) ≤ x1 then (some ((-1), m2)) else (if ((5)) ≤ x1 then (some ((-1), m2)) else (grd (inb x1 (Lp.2.1 (h0 + 1))) (if ¬ (lg_cmp (gJ m2 (h0 + 1) x1.toNatClampNeg) p1) = 0 then (bnd (x1 + (1)) fun x3 => k2 x3 m2) else (some (x1, m2)))))
noncomputable def f_X7_tuneNamed (h0 : Nat) (p1 : Int64) (mem : Mm) : Option (Int32 × Mm) :=
  lop (fun _ _ => none) (f_X7_tuneNamed_B2 h0 p1 ) 4000 ((0)) mem
theorem dd_X7_tuneNamed : yX7_tuneNamed.cls = RX7 ∧ yX7_tuneNamed.cls ≠ "java/lang/invoke/MethodHandle" ∧ yX7_tuneNamed.cls ≠ "java/lang/invoke/VarHandle" ∧ (parseMethodDescriptor yX7_tuneNamed.desc).map (fun d => d.parameters.length) = some 1 := by decide +kernel
set_option maxHeartbeats 4000000 in
set_option maxRecDepth 100000 in
theorem k_X7_tuneNamed {l : Launch} {ad : Nat → Nat} {cy : Nat → ClassId} {dC : Nat → ClassId} {dI : Nat → Nat → Nat} {ks : (Nat → Nat) × (Nat → Nat)} {h0 : Nat} {p1 : Int64} {mem : Mm} {r2 : Int32} {mem2 : Mm} (e0 : Lp.1 h0 = 7) (h : f_X7_tuneNamed h0 p1 mem = some (r2, mem2)) : CtI l Lp ad cy dC dI ks yX7_tuneNamed cX7_tuneNamed 4 (some .int) ({ frames := 0, cells := 0, slots := 0, locals := 0 }) [.ref (ad (h0)), .long (p1)] mem r2 mem2 := by
  refine CtI.of (cc := cX7_tuneNamed) (maxL := 4) (ret := (some .int)) (own := RX7) rfl (by decide) (Nat.le_of_ble_eq_true rfl) ?_
  intro p e s m args below meth c A X
  have hts := X.2.2.2.2.1
  have hJ2 : ∀ (k2 : Int32 → Mm → Option (Int32 × Mm)) (hk2 : ∀ (x1 : Int32) (m2 : Mm), k2 x1 m2 = some (r2, mem2) → Jd p l e ({ frames := 0, cells := 0, slots := 0, locals := 0 }) s m args below meth c 4 (MQ below (PsI Lp ad cy dC dI r2 mem2 A) args s 0 0 A) A dC dI cy Lp ad m2 2 [(0, .ref (ad (h0))), (1, .long (p1)), (3, .int (x1))] []) (x1 : Int32) (m2 : Mm), f_X7_tuneNamed_B2 h0 p1 k2 x1 m2 = some (r2, mem2) → Jd p l e ({ frames := 0, cells := 0, slots := 0, locals := 0 }) s m args below meth c 4 (MQ below (PsI Lp ad cy dC dI r2 mem2 A) args s 0 0 A) A dC dI cy Lp ad m2 2 [(0, .ref (ad (h0))), (1, .long (p1)), (3, .int (x1))] [] := by
    intro k2 hk2 x1 m2 h
    unfold f_X7_tuneNamed_B2 at h
    refine r_iload_n X dX7_tuneNamed_2 rfl 2 rfl ?_
    refine r_aload_n X dX7_tuneNamed_3 rfl 0 rfl ?_
    refine r_getI X (k := 6) (Lp_N e0 rfl) e0 rfl (by decide) ui_7 (by decide) uw1_183 rfl dX7_tuneNamed_4 ?_
    refine r_icmp_ge (tgt := 34) X dX7_tuneNamed_7 (by decide) h (fun h => ?_) (fun h => ?_)
    · refine r_iconst (v := (-1)) X dX7_tuneNamed_34 (by decide) ?_
      exact r_iret2 X rfl dX7_tuneNamed_35 h
    · refine r_iload_n X dX7_tuneNamed_10 rfl 2 rfl ?_
      refine r_iconst (v := (5)) X dX7_tuneNamed_11 (by decide) ?_
      refine r_icmp_ge (tgt := 34) X dX7_tuneNamed_12 (by decide) h (fun h => ?_) (fun h => ?_)
      · refine r_iconst (v := (-1)) X dX7_tuneNamed_34 (by decide) ?_
        exact r_iret2 X rfl dX7_tuneNamed_35 h
      · refine r_aload_n X dX7_tuneNamed_15 rfl 0 rfl ?_
        refine r_getF X (k := 0) (of := 1) rfl (Lp_N e0 rfl) e0 rfl (by decide) ui_7 (by decide) uw1_166 rfl dX7_tuneNamed_16 ?_
        refine r_iload_n X dX7_tuneNamed_19 rfl 2 rfl ?_
        refine r_lald X (Lp_N (Lp_7_0 e0) rfl) (Lp_7_0 e0) h dX7_tuneNamed_20 (fun h => ?_)
        refine r_lload_n X dX7_tuneNamed_21 rfl 1 rfl ?_
        refine r_lcmp X dX7_tuneNamed_22 ?_
        refine r_if_ne (tgt := 28) X dX7_tuneNamed_23 (by decide) h (fun h => ?_) (fun h => ?_)
        · refine r_inc h (fun x3 e9 h => ?_)
          refine r_iinc (v := x3) (lv2 := [(3, .int (x3)), (0, .ref (ad (h0))), (1, .long (p1))]) X dX7_tuneNamed_28 2 rfl (by rw [e9]; rfl) (by decide) rfl ?_
          refine r_goto (tgt := 2) X dX7_tuneNamed_31 (by decide) ?_
          exact r_sub [1, 2, 0] rfl (hk2 x3 m2 h)
        · refine r_iload_n X dX7_tuneNamed_26 rfl 2 rfl ?_
          exact r_iret2 X rfl dX7_tuneNamed_27 h
  have hL2 : ∀ (n : Nat), ∀ (x1 : Int32) (m2 : Mm), lop (fun _ _ => none) (f_X7_tuneNamed_B2 h0 p1 ) n x1 m2 = some (r2, mem2) → Jd p l e ({ frames := 0, cells := 0, slots := 0, locals := 0 }) s m args below meth c 4 (MQ below (PsI Lp ad cy dC dI r2 mem2 A) args s 0 0 A) A dC dI cy Lp ad m2 2 [(0, .ref (ad (h0))), (1, .long (p1)), (3, .int (x1))] [] := by
    intro  n
    induction n with
    | zero => intro _ _ h; cases h
    | succ n ih => intro a0 a1 h; exact hJ2  _ ih a0 a1 h
  unfold f_X7_tuneNamed at h
  refine r_iconst (v := (0)) X dX7_tuneNamed_0 (by decide) ?_
  refine r_istore_n (lv2 := [(3, .int ((0))), (0, .ref (ad (h0))), (1, .long (p1))]) X dX7_tuneNamed_1 rfl (by decide) rfl ?_
  exact r_sub [1, 2, 0] rfl (hL2 4000 ((0)) mem h)
noncomputable def f_X7_hasName_J38 (h0 : Nat) (p1 : Int64) (m5 : Mm) : Option (Int32 × Mm) :=
  bdI (f_X7_tuneNamed h0 p1 m5) fun x7 m6 => if x7 = ((-1)) then (grd (bok ((0))) (some ((0), m6))) else (grd (bok ((1))) (some ((1), m6)))
noncomputable def f_X7_hasName_B2 (h0 : Nat) (p1 : Int64) (k2 : Int32 → Mm → Option (Int32 × Mm)) (x1 : Int32) (m2 : Mm) : Option (Int32 × Mm) :=
  if (gI m2 h0 7) ≤ x1 then (f_X7_hasName_J38 h0 p1 m2) else (if ((7)) ≤ x1 then (f_X7_hasName_J38 h0 p1 m2) else (grd (inb x1 (Lp.2.1 (h0 + 9))) (bnd (h0 + 9 + (7 + 2 * x1.toNatClampNeg)) fun q3 => if ¬ (lg_cmp (gJ m2 q3 2) p1) = 0 then (bnd (x1 + (1)) fun x4 => k2 x4 m2) else (grd (bok ((1))) (some ((1), m2))))))
noncomputable def f_X7_hasName (h0 : Nat) (p1 : Int64) (mem : Mm) : Option (Int32 × Mm) :=
  lop (fun _ _ => none) (f_X7_hasName_B2 h0 p1 ) 4000 ((0)) mem
theorem dd_X7_hasName : yX7_hasName.cls = RX7 ∧ yX7_hasName.cls ≠ "java/lang/invoke/MethodHandle" ∧ yX7_hasName.cls ≠ "java/lang/invoke/VarHandle" ∧ (parseMethodDescriptor yX7_hasName.desc).map (fun d => d.parameters.length) = some 1 := by decide +kernel
set_option maxHeartbeats 4000000 in
set_option maxRecDepth 100000 in
theorem k_X7_hasName {l : Launch} {ad : Nat → Nat} {cy : Nat → ClassId} {dC : Nat → ClassId} {dI : Nat → Nat → Nat} {ks : (Nat → Nat) × (Nat → Nat)} {h0 : Nat} {p1 : Int64} {mem : Mm} {r2 : Int32} {mem2 : Mm} (e0 : Lp.1 h0 = 7) (h : f_X7_hasName h0 p1 mem = some (r2, mem2)) : CtI l Lp ad cy dC dI ks yX7_hasName cX7_hasName 4 (some .boolean) ({ frames := 1, cells := 0, slots := 0, locals := 23 }) [.ref (ad (h0)), .long (p1)] mem r2 mem2 := by
  refine CtI.of (cc := cX7_hasName) (maxL := 4) (ret := (some .boolean)) (own := RX7) rfl (by decide) (Nat.le_of_ble_eq_true rfl) ?_
  intro p e s m args below meth c A X
  have hts := X.2.2.2.2.1
  have hl71 := X.2.2.2.2.2.2.1 (.fieldLinkNest "StationPiano$Station" 71 "StationPiano$Passer" "name" "J" "StationPiano") (List.mem_of_getElem? (i := 9) rfl)
  have hJ38 : ∀ (m5 : Mm), f_X7_hasName_J38 h0 p1 m5 = some (r2, mem2) → Jd p l e ({ frames := 1, cells := 0, slots := 0, locals := 23 }) s m args below meth c 4 (MQ below (PsI Lp ad cy dC dI r2 mem2 A) args s 0 0 A) A dC dI cy Lp ad m5 38 [(0, .ref (ad (h0))), (1, .long (p1))] [] := by
    intro m5 h
    unfold f_X7_hasName_J38 at h
    refine r_aload_n X dX7_hasName_38 rfl 0 rfl ?_
    refine r_lload_n X dX7_hasName_39 rfl 1 rfl ?_
    refine r_cVI (As := [.long (p1)]) (rest := []) X (fun r9 m9 hg => k_X7_tuneNamed e0 hg) h (Lp_N e0 rfl) e0 rfl (by decide) uw3_169 uw3_170 uw3_171 uw1_4 uw3_172 rfl rfl dd_X7_tuneNamed ⟨Nat.le_of_ble_eq_true rfl, Nat.le_of_ble_eq_true rfl⟩ rfl (Nat.le_of_ble_eq_true rfl) dX7_hasName_40 rfl (fun x7 m6 h => ?_)
    refine r_iconst (v := (-1)) X dX7_hasName_43 (by decide) ?_
    refine r_icmp_eq (tgt := 51) X dX7_hasName_44 (by decide) h (fun h => ?_) (fun h => ?_)
    · refine r_iconst (v := (0)) X dX7_hasName_51 (by decide) ?_
      exact r_zret2 X rfl dX7_hasName_52 h
    · refine r_iconst (v := (1)) X dX7_hasName_47 (by decide) ?_
      refine r_goto (tgt := 52) X dX7_hasName_48 (by decide) ?_
      exact r_zret2 X rfl dX7_hasName_52 h
  have hJ2 : ∀ (k2 : Int32 → Mm → Option (Int32 × Mm)) (hk2 : ∀ (x1 : Int32) (m2 : Mm), k2 x1 m2 = some (r2, mem2) → Jd p l e ({ frames := 1, cells := 0, slots := 0, locals := 23 }) s m args below meth c 4 (MQ below (PsI Lp ad cy dC dI r2 mem2 A) args s 0 0 A) A dC dI cy Lp ad m2 2 [(0, .ref (ad (h0))), (1, .long (p1)), (3, .int (x1))] []) (x1 : Int32) (m2 : Mm), f_X7_hasName_B2 h0 p1 k2 x1 m2 = some (r2, mem2) → Jd p l e ({ frames := 1, cells := 0, slots := 0, locals := 23 }) s m args below meth c 4 (MQ below (PsI Lp ad cy dC dI r2 mem2 A) args s 0 0 A) A dC dI cy Lp ad m2 2 [(0, .ref (ad (h0))), (1, .long (p1)), (3, .int (x1))] [] := by
    intro k2 hk2 x1 m2 h
    unfold f_X7_hasName_B2 at h
    refine r_iload_n X dX7_hasName_2 rfl 2 rfl ?_
    refine r_aload_n X dX7_hasName_3 rfl 0 rfl ?_
    refine r_getI X (k := 7) (Lp_N e0 rfl) e0 rfl (by decide) ui_7 (by decide) uw1_187 rfl dX7_hasName_4 ?_
    refine r_icmp_ge (tgt := 38) X dX7_hasName_7 (by decide) h (fun h => ?_) (fun h => ?_)
    · exact r_sub [0, 1] rfl (hJ38 m2 h)
    · refine r_iload_n X dX7_hasName_10 rfl 2 rfl ?_
      refine r_bipush (v := (7)) X dX7_hasName_11 (by decide) ?_
      refine r_icmp_ge (tgt := 38) X dX7_hasName_13 (by decide) h (fun h => ?_) (fun h => ?_)
      · exact r_sub [0, 1] rfl (hJ38 m2 h)
      · refine r_aload_n X dX7_hasName_16 rfl 0 rfl ?_
        refine r_getF X (k := 3) (of := 9) rfl (Lp_N e0 rfl) e0 rfl (by decide) ui_7 (by decide) uw1_174 rfl dX7_hasName_17 ?_
        refine r_iload_n X dX7_hasName_20 rfl 2 rfl ?_
        refine r_ald18 X (Lp_N (Lp_7_3 e0) rfl) (Lp_7_3 e0) (Lp_e18 (Lp_7_3 e0)) rfl h dX7_hasName_21 (fun q3 eq3 h => ?_)
        refine r_getJN X (k := 2) (Lp_N eq3 rfl) eq3 rfl (by decide) ui_4 (by decide) hl71 rfl dX7_hasName_22 ?_
        refine r_lload_n X dX7_hasName_25 rfl 1 rfl ?_
        refine r_lcmp X dX7_hasName_26 ?_
        refine r_if_ne (tgt := 32) X dX7_hasName_27 (by decide) h (fun h => ?_) (fun h => ?_)
        · refine r_inc h (fun x4 e9 h => ?_)
          refine r_iinc (v := x4) (lv2 := [(3, .int (x4)), (0, .ref (ad (h0))), (1, .long (p1))]) X dX7_hasName_32 2 rfl (by rw [e9]; rfl) (by decide) rfl ?_
          refine r_goto (tgt := 2) X dX7_hasName_35 (by decide) ?_
          exact r_sub [1, 2, 0] rfl (hk2 x4 m2 h)
        · refine r_iconst (v := (1)) X dX7_hasName_30 (by decide) ?_
          exact r_zret2 X rfl dX7_hasName_31 h
  have hL2 : ∀ (n : Nat), ∀ (x1 : Int32) (m2 : Mm), lop (fun _ _ => none) (f_X7_hasName_B2 h0 p1 ) n x1 m2 = some (r2, mem2) → Jd p l e ({ frames := 1, cells := 0, slots := 0, locals := 23 }) s m args below meth c 4 (MQ below (PsI Lp ad cy dC dI r2 mem2 A) args s 0 0 A) A dC dI cy Lp ad m2 2 [(0, .ref (ad (h0))), (1, .long (p1)), (3, .int (x1))] [] := by
    intro  n
    induction n with
    | zero => intro _ _ h; cases h
    | succ n ih => intro a0 a1 h; exact hJ2  _ ih a0 a1 h
  unfold f_X7_hasName at h
  refine r_iconst (v := (0)) X dX7_hasName_0 (by decide) ?_
  refine r_istore_n (lv2 := [(3, .int ((0))), (0, .ref (ad (h0))), (1, .long (p1))]) X dX7_hasName_1 rfl (by decide) rfl ?_
  exact r_sub [1, 2, 0] rfl (hL2 4000 ((0)) mem h)
noncomputable def f_X5_mayBeNewName (h1 : Nat) (mem : Mm) : Option (Int32 × Mm) :=
  bdI (f_X5_isName  mem) fun x2 m1 => if ¬ x2 = 0 then (bdI (f_X7_hasName h1 (gJ m1 1 6) m1) fun x4 m3 => if x4 = 0 then (grd (bok ((1))) (some ((1), m3))) else (bdI (f_X5_wrong ((3)) m3) fun x6 m5 => grd (bok x6) (some (x6, m5)))) else (bdI (f_X5_wrong ((1)) m1) fun x8 m7 => grd (bok x8) (some (x8, m7)))
theorem dd_X5_mayBeNewName : yX5_mayBeNewName.cls = RX5 ∧ yX5_mayBeNewName.cls ≠ "java/lang/invoke/MethodHandle" ∧ yX5_mayBeNewName.cls ≠ "java/lang/invoke/VarHandle" ∧ (parseMethodDescriptor yX5_mayBeNewName.desc).map (fun d => d.parameters.length) = some 1 := by decide +kernel
set_option maxHeartbeats 4000000 in
set_option maxRecDepth 100000 in
theorem k_X5_mayBeNewName {l : Launch} {ad : Nat → Nat} {cy : Nat → ClassId} {dC : Nat → ClassId} {dI : Nat → Nat → Nat} {ks : (Nat → Nat) × (Nat → Nat)} {h1 : Nat} {mem : Mm} {r2 : Int32} {mem2 : Mm} (e1 : Lp.1 h1 = 7) (h : f_X5_mayBeNewName h1 mem = some (r2, mem2)) : CtI l Lp ad cy dC dI ks yX5_mayBeNewName cX5_mayBeNewName 2 (some .boolean) ({ frames := 2, cells := 0, slots := 0, locals := 46 }) [.ref (ad (3)), .ref (ad (h1))] mem r2 mem2 := by
  refine CtI.of (cc := cX5_mayBeNewName) (maxL := 2) (ret := (some .boolean)) (own := RX5) rfl (by decide) (Nat.le_of_ble_eq_true rfl) ?_
  intro p e s m args below meth c A X
  have hts := X.2.2.2.2.1
  have hl72 := X.2.2.2.2.2.2.1 (.fieldLinkNest "StationPiano$Reader" 72 "StationPiano$Tape" "letters" "J" "StationPiano") (List.mem_of_getElem? (i := 4) rfl)
  unfold f_X5_mayBeNewName at h
  refine r_aload_n X dX5_mayBeNewName_0 rfl 0 rfl ?_
  refine r_cVI (As := []) (rest := []) X (fun r9 m9 hg => k_X5_isName hg) h (Lp_N Lpk_3 rfl) Lpk_3 rfl (by decide) uw3_161 uw3_163 us1_6 uw1_3 uw3_164 rfl rfl dd_X5_isName ⟨Nat.le_of_ble_eq_true rfl, Nat.le_of_ble_eq_true rfl⟩ rfl (Nat.le_of_ble_eq_true rfl) dX5_mayBeNewName_1 rfl (fun x2 m1 h => ?_)
  refine r_if_ne (tgt := 13) X dX5_mayBeNewName_4 (by decide) h (fun h => ?_) (fun h => ?_)
  · refine r_aload_n X dX5_mayBeNewName_13 rfl 1 rfl ?_
    refine r_aload_n X dX5_mayBeNewName_14 rfl 0 rfl ?_
    refine r_getB X (k := 0) (of := 2) rfl (Lp_N Lpk_3 rfl) Lpk_3 rfl (by decide) ui_5 (by decide) uw1_73 rfl dX5_mayBeNewName_15 ?_
    refine r_getJN X (k := 6) (Lp_N Lpk_1 rfl) Lpk_1 rfl (by decide) ui_9 (by decide) hl72 rfl dX5_mayBeNewName_18 ?_
    refine r_cVI (As := [.long (gJ m1 1 6)]) (rest := []) X (fun r9 m9 hg => k_X7_hasName e1 hg) h (Lp_N e1 rfl) e1 rfl (by decide) uw3_165 uw3_166 uw3_167 uw1_4 uw3_168 rfl rfl dd_X7_hasName ⟨Nat.le_of_ble_eq_true rfl, Nat.le_of_ble_eq_true rfl⟩ rfl (Nat.le_of_ble_eq_true rfl) dX5_mayBeNewName_21 rfl (fun x4 m3 h => ?_)
    refine r_if_eq (tgt := 35) X dX5_mayBeNewName_24 (by decide) h (fun h => ?_) (fun h => ?_)
    · refine r_iconst (v := (1)) X dX5_mayBeNewName_35 (by decide) ?_
      exact r_zret2 X rfl dX5_mayBeNewName_36 h
    · refine r_aload_n X dX5_mayBeNewName_27 rfl 0 rfl ?_
      refine r_iconst (v := (3)) X dX5_mayBeNewName_28 (by decide) ?_
      refine r_cVI (As := [.int ((3))]) (rest := []) X (fun r9 m9 hg => k_X5_wrong hg) h (Lp_N Lpk_3 rfl) Lpk_3 rfl (by decide) uw3_152 uw3_154 us1_4 uw1_3 uw3_155 rfl rfl dd_X5_wrong ⟨Nat.le_of_ble_eq_true rfl, Nat.le_of_ble_eq_true rfl⟩ rfl (Nat.le_of_ble_eq_true rfl) dX5_mayBeNewName_29 rfl (fun x6 m5 h => ?_)
      refine r_goto (tgt := 36) X dX5_mayBeNewName_32 (by decide) ?_
      exact r_zret2 X rfl dX5_mayBeNewName_36 h
  · refine r_aload_n X dX5_mayBeNewName_7 rfl 0 rfl ?_
    refine r_iconst (v := (1)) X dX5_mayBeNewName_8 (by decide) ?_
    refine r_cVI (As := [.int ((1))]) (rest := []) X (fun r9 m9 hg => k_X5_wrong hg) h (Lp_N Lpk_3 rfl) Lpk_3 rfl (by decide) uw3_152 uw3_154 us1_4 uw1_3 uw3_155 rfl rfl dd_X5_wrong ⟨Nat.le_of_ble_eq_true rfl, Nat.le_of_ble_eq_true rfl⟩ rfl (Nat.le_of_ble_eq_true rfl) dX5_mayBeNewName_9 rfl (fun x8 m7 h => ?_)
    exact r_zret2 X rfl dX5_mayBeNewName_12 h
noncomputable def f_X5_takeKind_J24 (h1 : Nat) (m3 : Mm) : Option (Int32 × Mm) :=
  bdI (f_X5_wrong ((1)) m3) fun x5 m4 => grd (bok x5) (some (x5, m4))
noncomputable def f_X5_takeKind (h1 : Nat) (mem : Mm) : Option (Int32 × Mm) :=
  if (gI mem 1 2) < ((16)) then (f_X5_takeKind_J24 h1 mem) else (if (gI mem 1 2) ≤ ((19)) then (bnd (sI mem h1 3 ((((0)) + (gI mem 1 2)) - ((16)))) fun m1 => bdV (f_X9_advance  m1) fun m2 => grd (bok ((1))) (some ((1), m2))) else (f_X5_takeKind_J24 h1 mem))
theorem dd_X5_takeKind : yX5_takeKind.cls = RX5 ∧ yX5_takeKind.cls ≠ "java/lang/invoke/MethodHandle" ∧ yX5_takeKind.cls ≠ "java/lang/invoke/VarHandle" ∧ (parseMethodDescriptor yX5_takeKind.desc).map (fun d => d.parameters.length) = some 1 := by decide +kernel
set_option maxHeartbeats 4000000 in
set_option maxRecDepth 100000 in
theorem k_X5_takeKind {l : Launch} {ad : Nat → Nat} {cy : Nat → ClassId} {dC : Nat → ClassId} {dI : Nat → Nat → Nat} {ks : (Nat → Nat) × (Nat → Nat)} {h1 : Nat} {mem : Mm} {r2 : Int32} {mem2 : Mm} (e1 : Lp.1 h1 = 4) (h : f_X5_takeKind h1 mem = some (r2, mem2)) : CtI l Lp ad cy dC dI ks yX5_takeKind cX5_takeKind 2 (some .boolean) ({ frames := 6, cells := 0, slots := 0, locals := 131 }) [.ref (ad (3)), .ref (ad (h1))] mem r2 mem2 := by
  refine CtI.of (cc := cX5_takeKind) (maxL := 2) (ret := (some .boolean)) (own := RX5) rfl (by decide) (Nat.le_of_ble_eq_true rfl) ?_
  intro p e s m args below meth c A X
  have hts := X.2.2.2.2.1
  have hl29 := X.2.2.2.2.2.2.1 (.fieldLinkNest "StationPiano$Reader" 29 "StationPiano$Tape" "token" "I" "StationPiano") (List.mem_of_getElem? (i := 1) rfl)
  have hl192 := X.2.2.2.2.2.2.1 (.fieldLinkNest "StationPiano$Reader" 192 "StationPiano$Passer" "kind" "I" "StationPiano") (List.mem_of_getElem? (i := 12) rfl)
  have hJ24 : ∀ (m3 : Mm), f_X5_takeKind_J24 h1 m3 = some (r2, mem2) → Jd p l e ({ frames := 6, cells := 0, slots := 0, locals := 131 }) s m args below meth c 2 (MQ below (PsI Lp ad cy dC dI r2 mem2 A) args s 0 0 A) A dC dI cy Lp ad m3 24 [(0, .ref (ad (3)))] [] := by
    intro m3 h
    unfold f_X5_takeKind_J24 at h
    refine r_aload_n X dX5_takeKind_24 rfl 0 rfl ?_
    refine r_iconst (v := (1)) X dX5_takeKind_25 (by decide) ?_
    refine r_cVI (As := [.int ((1))]) (rest := []) X (fun r9 m9 hg => k_X5_wrong hg) h (Lp_N Lpk_3 rfl) Lpk_3 rfl (by decide) uw3_152 uw3_154 us1_4 uw1_3 uw3_155 rfl rfl dd_X5_wrong ⟨Nat.le_of_ble_eq_true rfl, Nat.le_of_ble_eq_true rfl⟩ rfl (Nat.le_of_ble_eq_true rfl) dX5_takeKind_26 rfl (fun x5 m4 h => ?_)
    exact r_zret2 X rfl dX5_takeKind_29 h
  unfold f_X5_takeKind at h
  refine r_aload_n X dX5_takeKind_0 rfl 0 rfl ?_
  refine r_getB X (k := 0) (of := 2) rfl (Lp_N Lpk_3 rfl) Lpk_3 rfl (by decide) ui_5 (by decide) uw1_73 rfl dX5_takeKind_1 ?_
  refine r_getIN X (k := 2) (Lp_N Lpk_1 rfl) Lpk_1 rfl (by decide) ui_9 (by decide) hl29 rfl dX5_takeKind_4 ?_
  refine r_bipush (v := (16)) X dX5_takeKind_7 (by decide) ?_
  refine r_icmp_lt (tgt := 24) X dX5_takeKind_9 (by decide) h (fun h => ?_) (fun h => ?_)
  · exact r_sub [0] rfl (hJ24 mem h)
  · refine r_aload_n X dX5_takeKind_12 rfl 0 rfl ?_
    refine r_getB X (k := 0) (of := 2) rfl (Lp_N Lpk_3 rfl) Lpk_3 rfl (by decide) ui_5 (by decide) uw1_73 rfl dX5_takeKind_13 ?_
    refine r_getIN X (k := 2) (Lp_N Lpk_1 rfl) Lpk_1 rfl (by decide) ui_9 (by decide) hl29 rfl dX5_takeKind_16 ?_
    refine r_bipush (v := (19)) X dX5_takeKind_19 (by decide) ?_
    refine r_icmp_le (tgt := 30) X dX5_takeKind_21 (by decide) h (fun h => ?_) (fun h => ?_)
    · refine r_aload_n X dX5_takeKind_30 rfl 1 rfl ?_
      refine r_iconst (v := (0)) X dX5_takeKind_31 (by decide) ?_
      refine r_aload_n X dX5_takeKind_32 rfl 0 rfl ?_
      refine r_getB X (k := 0) (of := 2) rfl (Lp_N Lpk_3 rfl) Lpk_3 rfl (by decide) ui_5 (by decide) uw1_73 rfl dX5_takeKind_33 ?_
      refine r_getIN X (k := 2) (Lp_N Lpk_1 rfl) Lpk_1 rfl (by decide) ui_9 (by decide) hl29 rfl dX5_takeKind_36 ?_
      refine r_iadd X dX5_takeKind_39 ?_
      refine r_bipush (v := (16)) X dX5_takeKind_40 (by decide) ?_
      refine r_isub X dX5_takeKind_42 ?_
      refine r_putIN X (k := 3) (Lp_N e1 rfl) e1 rfl (by decide) ui_4 (by decide) hl192 tyX4_ok nmX4 rfl rfl rfl dX5_takeKind_43 ?_
      refine r_nmM h (fun m1 h => ?_)
      refine r_aload_n X dX5_takeKind_46 rfl 0 rfl ?_
      refine r_getB X (k := 0) (of := 2) rfl (Lp_N Lpk_3 rfl) Lpk_3 rfl (by decide) ui_5 (by decide) uw1_73 rfl dX5_takeKind_47 ?_
      refine r_cVV (As := []) (rest := []) X (fun m9 hg => k_X9_advance hg) h (Lp_N Lpk_1 rfl) Lpk_1 rfl (by decide) uw3_156 uw3_24 uw3_25 uw1_2 uw3_26 rfl rfl dd_X9_advance ⟨Nat.le_of_ble_eq_true rfl, Nat.le_of_ble_eq_true rfl⟩ rfl (Nat.le_of_ble_eq_true rfl) dX5_takeKind_50 rfl (fun m2 h => ?_)
      refine r_iconst (v := (1)) X dX5_takeKind_53 (by decide) ?_
      exact r_zret2 X rfl dX5_takeKind_54 h
    · exact r_sub [0] rfl (hJ24 mem h)
noncomputable def f_X5_takeTune_J34 (h1 : Nat) (h2 : Nat) (m11 : Mm) : Option (Int32 × Mm) :=
  bdI (f_X5_wrong ((2)) m11) fun x13 m12 => grd (bok x13) (some (x13, m12))
noncomputable def f_X5_takeTune (h1 : Nat) (h2 : Nat) (mem : Mm) : Option (Int32 × Mm) :=
  bdI (f_X5_isName  mem) fun x2 m1 => if ¬ x2 = 0 then (bdI (f_X7_tuneNamed h1 (gJ m1 1 6) m1) fun x4 m3 => if x4 < 0 then (f_X5_takeTune_J34 h1 h2 m3) else (if x4 < ((5)) then (bnd (sI m3 h2 4 x4) fun m5 => grd (inb x4 (Lp.2.1 (h1 + 3))) (bnd (h1 + 3 + (1 + x4.toNatClampNeg)) fun q6 => grd (inb x4 (Lp.2.1 (h1 + 2))) (bdV (f_X4_learn h2 q6 (gI m5 (h1 + 2) x4.toNatClampNeg) m5) fun m7 => bdV (f_X9_advance  m7) fun m8 => grd (bok ((1))) (some ((1), m8))))) else (f_X5_takeTune_J34 h1 h2 m3))) else (bdI (f_X5_wrong ((1)) m1) fun x10 m9 => grd (bok x10) (some (x10, m9)))
theorem dd_X5_takeTune : yX5_takeTune.cls = RX5 ∧ yX5_takeTune.cls ≠ "java/lang/invoke/MethodHandle" ∧ yX5_takeTune.cls ≠ "java/lang/invoke/VarHandle" ∧ (parseMethodDescriptor yX5_takeTune.desc).map (fun d => d.parameters.length) = some 2 := by decide +kernel
set_option maxHeartbeats 4000000 in
set_option maxRecDepth 100000 in
theorem k_X5_takeTune {l : Launch} {ad : Nat → Nat} {cy : Nat → ClassId} {dC : Nat → ClassId} {dI : Nat → Nat → Nat} {ks : (Nat → Nat) × (Nat → Nat)} {h1 : Nat} {h2 : Nat} {mem : Mm} {r2 : Int32} {mem2 : Mm} (e1 : Lp.1 h1 = 7) (e2 : Lp.1 h2 = 4) (h : f_X5_takeTune h1 h2 mem = some (r2, mem2)) : CtI l Lp ad cy dC dI ks yX5_takeTune cX5_takeTune 4 (some .boolean) ({ frames := 6, cells := 0, slots := 0, locals := 131 }) [.ref (ad (3)), .ref (ad (h1)), .ref (ad (h2))] mem r2 mem2 := by
  refine CtI.of (cc := cX5_takeTune) (maxL := 4) (ret := (some .boolean)) (own := RX5) rfl (by decide) (Nat.le_of_ble_eq_true rfl) ?_
  intro p e s m args below meth c A X
  have hts := X.2.2.2.2.1
  have hl72 := X.2.2.2.2.2.2.1 (.fieldLinkNest "StationPiano$Reader" 72 "StationPiano$Tape" "letters" "J" "StationPiano") (List.mem_of_getElem? (i := 4) rfl)
  have hl148 := X.2.2.2.2.2.2.1 (.fieldLinkNest "StationPiano$Reader" 148 "StationPiano$Station" "tuneLengths" "[I" "StationPiano") (List.mem_of_getElem? (i := 27) rfl)
  have hl156 := X.2.2.2.2.2.2.1 (.fieldLinkNest "StationPiano$Reader" 156 "StationPiano$Station" "tuneKeys" "[[I" "StationPiano") (List.mem_of_getElem? (i := 29) rfl)
  have hl199 := X.2.2.2.2.2.2.1 (.fieldLinkNest "StationPiano$Reader" 199 "StationPiano$Passer" "tune" "I" "StationPiano") (List.mem_of_getElem? (i := 15) rfl)
  have hJ34 : ∀ (m11 : Mm), f_X5_takeTune_J34 h1 h2 m11 = some (r2, mem2) → Jd p l e ({ frames := 6, cells := 0, slots := 0, locals := 131 }) s m args below meth c 4 (MQ below (PsI Lp ad cy dC dI r2 mem2 A) args s 0 0 A) A dC dI cy Lp ad m11 34 [(0, .ref (ad (3)))] [] := by
    intro m11 h
    unfold f_X5_takeTune_J34 at h
    refine r_aload_n X dX5_takeTune_34 rfl 0 rfl ?_
    refine r_iconst (v := (2)) X dX5_takeTune_35 (by decide) ?_
    refine r_cVI (As := [.int ((2))]) (rest := []) X (fun r9 m9 hg => k_X5_wrong hg) h (Lp_N Lpk_3 rfl) Lpk_3 rfl (by decide) uw3_152 uw3_154 us1_4 uw1_3 uw3_155 rfl rfl dd_X5_wrong ⟨Nat.le_of_ble_eq_true rfl, Nat.le_of_ble_eq_true rfl⟩ rfl (Nat.le_of_ble_eq_true rfl) dX5_takeTune_36 rfl (fun x13 m12 h => ?_)
    exact r_zret2 X rfl dX5_takeTune_39 h
  unfold f_X5_takeTune at h
  refine r_aload_n X dX5_takeTune_0 rfl 0 rfl ?_
  refine r_cVI (As := []) (rest := []) X (fun r9 m9 hg => k_X5_isName hg) h (Lp_N Lpk_3 rfl) Lpk_3 rfl (by decide) uw3_161 uw3_163 us1_6 uw1_3 uw3_164 rfl rfl dd_X5_isName ⟨Nat.le_of_ble_eq_true rfl, Nat.le_of_ble_eq_true rfl⟩ rfl (Nat.le_of_ble_eq_true rfl) dX5_takeTune_1 rfl (fun x2 m1 h => ?_)
  refine r_if_ne (tgt := 13) X dX5_takeTune_4 (by decide) h (fun h => ?_) (fun h => ?_)
  · refine r_aload_n X dX5_takeTune_13 rfl 1 rfl ?_
    refine r_aload_n X dX5_takeTune_14 rfl 0 rfl ?_
    refine r_getB X (k := 0) (of := 2) rfl (Lp_N Lpk_3 rfl) Lpk_3 rfl (by decide) ui_5 (by decide) uw1_73 rfl dX5_takeTune_15 ?_
    refine r_getJN X (k := 6) (Lp_N Lpk_1 rfl) Lpk_1 rfl (by decide) ui_9 (by decide) hl72 rfl dX5_takeTune_18 ?_
    refine r_cVI (As := [.long (gJ m1 1 6)]) (rest := []) X (fun r9 m9 hg => k_X7_tuneNamed e1 hg) h (Lp_N e1 rfl) e1 rfl (by decide) uw3_197 uw3_170 uw3_171 uw1_4 uw3_172 rfl rfl dd_X7_tuneNamed ⟨Nat.le_of_ble_eq_true rfl, Nat.le_of_ble_eq_true rfl⟩ rfl (Nat.le_of_ble_eq_true rfl) dX5_takeTune_21 rfl (fun x4 m3 h => ?_)
    refine r_istore_n (lv2 := [(3, .int (x4)), (0, .ref (ad (3))), (1, .ref (ad (h1))), (2, .ref (ad (h2)))]) X dX5_takeTune_24 rfl (by decide) rfl ?_
    refine r_iload_n X dX5_takeTune_25 rfl 0 rfl ?_
    refine r_if_lt (tgt := 34) X dX5_takeTune_26 (by decide) h (fun h => ?_) (fun h => ?_)
    · exact r_sub [1] rfl (hJ34 m3 h)
    · refine r_iload_n X dX5_takeTune_29 rfl 0 rfl ?_
      refine r_iconst (v := (5)) X dX5_takeTune_30 (by decide) ?_
      refine r_icmp_lt (tgt := 40) X dX5_takeTune_31 (by decide) h (fun h => ?_) (fun h => ?_)
      · refine r_aload_n X dX5_takeTune_40 rfl 3 rfl ?_
        refine r_iload_n X dX5_takeTune_41 rfl 0 rfl ?_
        refine r_putIN X (k := 4) (Lp_N e2 rfl) e2 rfl (by decide) ui_4 (by decide) hl199 tyX4_ok nmX4 rfl rfl rfl dX5_takeTune_42 ?_
        refine r_nmM h (fun m5 h => ?_)
        refine r_aload_n X dX5_takeTune_45 rfl 3 rfl ?_
        refine r_aload_n X dX5_takeTune_46 rfl 2 rfl ?_
        refine r_getFN X (k := 2) (of := 3) rfl (Lp_N e1 rfl) e1 rfl (by decide) ui_7 (by decide) hl156 rfl dX5_takeTune_47 ?_
        refine r_iload_n X dX5_takeTune_50 rfl 0 rfl ?_
        refine r_ald20 X (Lp_N (Lp_7_2 e1) rfl) (Lp_7_2 e1) (Lp_e20 (Lp_7_2 e1)) rfl h dX5_takeTune_51 (fun q6 eq6 h => ?_)
        refine r_aload_n X dX5_takeTune_52 rfl 2 rfl ?_
        refine r_getFN X (k := 1) (of := 2) rfl (Lp_N e1 rfl) e1 rfl (by decide) ui_7 (by decide) hl148 rfl dX5_takeTune_53 ?_
        refine r_iload_n X dX5_takeTune_56 rfl 0 rfl ?_
        refine r_iald X (Lp_N (Lp_7_1 e1) rfl) (Lp_7_1 e1) h dX5_takeTune_57 (fun h => ?_)
        refine r_cVV (As := [.ref (ad (q6)), .int (gI m5 (h1 + 2) x4.toNatClampNeg)]) (rest := []) X (fun m9 hg => k_X4_learn e2 eq6 hg) h (Lp_N e2 rfl) e2 rfl (by decide) uw3_198 uw3_199 uw3_200 uw1_6 uw3_201 rfl rfl dd_X4_learn ⟨Nat.le_of_ble_eq_true rfl, Nat.le_of_ble_eq_true rfl⟩ rfl (Nat.le_of_ble_eq_true rfl) dX5_takeTune_58 rfl (fun m7 h => ?_)
        refine r_aload_n X dX5_takeTune_61 rfl 1 rfl ?_
        refine r_getB X (k := 0) (of := 2) rfl (Lp_N Lpk_3 rfl) Lpk_3 rfl (by decide) ui_5 (by decide) uw1_73 rfl dX5_takeTune_62 ?_
        refine r_cVV (As := []) (rest := []) X (fun m9 hg => k_X9_advance hg) h (Lp_N Lpk_1 rfl) Lpk_1 rfl (by decide) uw3_156 uw3_24 uw3_25 uw1_2 uw3_26 rfl rfl dd_X9_advance ⟨Nat.le_of_ble_eq_true rfl, Nat.le_of_ble_eq_true rfl⟩ rfl (Nat.le_of_ble_eq_true rfl) dX5_takeTune_65 rfl (fun m8 h => ?_)
        refine r_iconst (v := (1)) X dX5_takeTune_68 (by decide) ?_
        exact r_zret2 X rfl dX5_takeTune_69 h
      · exact r_sub [1] rfl (hJ34 m3 h)
  · refine r_aload_n X dX5_takeTune_7 rfl 0 rfl ?_
    refine r_iconst (v := (1)) X dX5_takeTune_8 (by decide) ?_
    refine r_cVI (As := [.int ((1))]) (rest := []) X (fun r9 m9 hg => k_X5_wrong hg) h (Lp_N Lpk_3 rfl) Lpk_3 rfl (by decide) uw3_152 uw3_154 us1_4 uw1_3 uw3_155 rfl rfl dd_X5_wrong ⟨Nat.le_of_ble_eq_true rfl, Nat.le_of_ble_eq_true rfl⟩ rfl (Nat.le_of_ble_eq_true rfl) dX5_takeTune_9 rfl (fun x10 m9 h => ?_)
    exact r_zret2 X rfl dX5_takeTune_12 h
noncomputable def f_X5_passerLine_J16 (h1 : Nat) (m26 : Mm) : Option (Int32 × Mm) :=
  bdI (f_X5_wrong ((5)) m26) fun x28 m27 => grd (bok x28) (some (x28, m27))
noncomputable def f_X5_passerLine (h1 : Nat) (mem : Mm) : Option (Int32 × Mm) :=
  if (gI mem h1 7) < 0 then (f_X5_passerLine_J16 h1 mem) else (if (gI mem h1 7) < ((7)) then (bdV (f_X9_advance  mem) fun m1 => bdI (f_X5_mayBeNewName h1 m1) fun x3 m2 => if ¬ x3 = 0 then (grd (inb (gI m2 h1 7) (Lp.2.1 (h1 + 9))) (bnd (h1 + 9 + (7 + 2 * (gI m2 h1 7).toNatClampNeg)) fun q4 => bnd (sJ m2 q4 2 (gJ m2 1 6)) fun m5 => bnd (sI m5 h1 7 ((gI m5 h1 7) + ((1)))) fun m6 => bdV (f_X9_advance  m6) fun m7 => bdI (f_X5_takeKind q4 m7) fun x9 m8 => if x9 = 0 then (grd (bok ((0))) (some ((0), m8))) else (bdI (f_X5_take ((2)) m8) fun x11 m10 => if x11 = 0 then (grd (bok ((0))) (some ((0), m10))) else (bdI (f_X5_takeTune h1 q4 m10) fun x13 m12 => if ¬ x13 = 0 then (bdI (f_X5_takeValue ((3)) ((0)) ((9)) m12) fun x15 m14 => if ¬ x15 = 0 then (bnd (sI m14 q4 5 (gI m14 3 1)) fun m16 => bdI (f_X5_takeValue ((4)) ((0)) ((9)) m16) fun x18 m17 => if ¬ x18 = 0 then (bnd (sI m17 q4 6 (gI m17 3 1)) fun m19 => bdI (f_X5_takeValue ((5)) ((1)) ((30)) m19) fun x21 m20 => if ¬ x21 = 0 then (bnd (sI m20 q4 7 (gI m20 3 1)) fun m22 => bdI (f_X5_takeValue ((6)) ((0)) ((59)) m22) fun x24 m23 => if ¬ x24 = 0 then (bnd (sI m23 q4 8 (gI m23 3 1)) fun m25 => grd (bok ((1))) (some ((1), m25))) else (grd (bok ((0))) (some ((0), m23)))) else (grd (bok ((0))) (some ((0), m20)))) else (grd (bok ((0))) (some ((0), m17)))) else (grd (bok ((0))) (some ((0), m14)))) else (grd (bok ((0))) (some ((0), m12))))))) else (grd (bok ((0))) (some ((0), m2)))) else (f_X5_passerLine_J16 h1 mem))
theorem dd_X5_passerLine : yX5_passerLine.cls = RX5 ∧ yX5_passerLine.cls ≠ "java/lang/invoke/MethodHandle" ∧ yX5_passerLine.cls ≠ "java/lang/invoke/VarHandle" ∧ (parseMethodDescriptor yX5_passerLine.desc).map (fun d => d.parameters.length) = some 1 := by decide +kernel
set_option maxHeartbeats 4000000 in
set_option maxRecDepth 100000 in
theorem k_X5_passerLine {l : Launch} {ad : Nat → Nat} {cy : Nat → ClassId} {dC : Nat → ClassId} {dI : Nat → Nat → Nat} {ks : (Nat → Nat) × (Nat → Nat)} {h1 : Nat} {mem : Mm} {r2 : Int32} {mem2 : Mm} (e1 : Lp.1 h1 = 7) (h : f_X5_passerLine h1 mem = some (r2, mem2)) : CtI l Lp ad cy dC dI ks yX5_passerLine cX5_passerLine 3 (some .boolean) ({ frames := 8, cells := 0, slots := 0, locals := 176 }) [.ref (ad (3)), .ref (ad (h1))] mem r2 mem2 := by
  refine CtI.of (cc := cX5_passerLine) (maxL := 3) (ret := (some .boolean)) (own := RX5) rfl (by decide) (Nat.le_of_ble_eq_true rfl) ?_
  intro p e s m args below meth c A X
  have hts := X.2.2.2.2.1
  have hl72 := X.2.2.2.2.2.2.1 (.fieldLinkNest "StationPiano$Reader" 72 "StationPiano$Tape" "letters" "J" "StationPiano") (List.mem_of_getElem? (i := 4) rfl)
  have hl160 := X.2.2.2.2.2.2.1 (.fieldLinkNest "StationPiano$Reader" 160 "StationPiano$Station" "passerCount" "I" "StationPiano") (List.mem_of_getElem? (i := 41) rfl)
  have hl163 := X.2.2.2.2.2.2.1 (.fieldLinkNest "StationPiano$Reader" 163 "StationPiano$Station" "passers" "[LStationPiano$Passer;" "StationPiano") (List.mem_of_getElem? (i := 33) rfl)
  have hl167 := X.2.2.2.2.2.2.1 (.fieldLinkNest "StationPiano$Reader" 167 "StationPiano$Passer" "name" "J" "StationPiano") (List.mem_of_getElem? (i := 10) rfl)
  have hl180 := X.2.2.2.2.2.2.1 (.fieldLinkNest "StationPiano$Reader" 180 "StationPiano$Passer" "skill" "I" "StationPiano") (List.mem_of_getElem? (i := 18) rfl)
  have hl183 := X.2.2.2.2.2.2.1 (.fieldLinkNest "StationPiano$Reader" 183 "StationPiano$Passer" "shyness" "I" "StationPiano") (List.mem_of_getElem? (i := 20) rfl)
  have hl186 := X.2.2.2.2.2.2.1 (.fieldLinkNest "StationPiano$Reader" 186 "StationPiano$Passer" "stays" "I" "StationPiano") (List.mem_of_getElem? (i := 21) rfl)
  have hl189 := X.2.2.2.2.2.2.1 (.fieldLinkNest "StationPiano$Reader" 189 "StationPiano$Passer" "arrives" "I" "StationPiano") (List.mem_of_getElem? (i := 24) rfl)
  have hJ16 : ∀ (m26 : Mm), f_X5_passerLine_J16 h1 m26 = some (r2, mem2) → Jd p l e ({ frames := 8, cells := 0, slots := 0, locals := 176 }) s m args below meth c 3 (MQ below (PsI Lp ad cy dC dI r2 mem2 A) args s 0 0 A) A dC dI cy Lp ad m26 16 [(0, .ref (ad (3)))] [] := by
    intro m26 h
    unfold f_X5_passerLine_J16 at h
    refine r_aload_n X dX5_passerLine_16 rfl 0 rfl ?_
    refine r_iconst (v := (5)) X dX5_passerLine_17 (by decide) ?_
    refine r_cVI (As := [.int ((5))]) (rest := []) X (fun r9 m9 hg => k_X5_wrong hg) h (Lp_N Lpk_3 rfl) Lpk_3 rfl (by decide) uw3_152 uw3_154 us1_4 uw1_3 uw3_155 rfl rfl dd_X5_wrong ⟨Nat.le_of_ble_eq_true rfl, Nat.le_of_ble_eq_true rfl⟩ rfl (Nat.le_of_ble_eq_true rfl) dX5_passerLine_18 rfl (fun x28 m27 h => ?_)
    exact r_zret2 X rfl dX5_passerLine_21 h
  unfold f_X5_passerLine at h
  refine r_aload_n X dX5_passerLine_0 rfl 1 rfl ?_
  refine r_getIN X (k := 7) (Lp_N e1 rfl) e1 rfl (by decide) ui_7 (by decide) hl160 rfl dX5_passerLine_1 ?_
  refine r_if_lt (tgt := 16) X dX5_passerLine_4 (by decide) h (fun h => ?_) (fun h => ?_)
  · exact r_sub [0] rfl (hJ16 mem h)
  · refine r_aload_n X dX5_passerLine_7 rfl 1 rfl ?_
    refine r_getIN X (k := 7) (Lp_N e1 rfl) e1 rfl (by decide) ui_7 (by decide) hl160 rfl dX5_passerLine_8 ?_
    refine r_bipush (v := (7)) X dX5_passerLine_11 (by decide) ?_
    refine r_icmp_lt (tgt := 22) X dX5_passerLine_13 (by decide) h (fun h => ?_) (fun h => ?_)
    · refine r_aload_n X dX5_passerLine_22 rfl 0 rfl ?_
      refine r_getB X (k := 0) (of := 2) rfl (Lp_N Lpk_3 rfl) Lpk_3 rfl (by decide) ui_5 (by decide) uw1_73 rfl dX5_passerLine_23 ?_
      refine r_cVV (As := []) (rest := []) X (fun m9 hg => k_X9_advance hg) h (Lp_N Lpk_1 rfl) Lpk_1 rfl (by decide) uw3_156 uw3_24 uw3_25 uw1_2 uw3_26 rfl rfl dd_X9_advance ⟨Nat.le_of_ble_eq_true rfl, Nat.le_of_ble_eq_true rfl⟩ rfl (Nat.le_of_ble_eq_true rfl) dX5_passerLine_26 rfl (fun m1 h => ?_)
      refine r_aload_n X dX5_passerLine_29 rfl 0 rfl ?_
      refine r_aload_n X dX5_passerLine_30 rfl 1 rfl ?_
      refine r_cVI (As := [.ref (ad (h1))]) (rest := []) X (fun r9 m9 hg => k_X5_mayBeNewName e1 hg) h (Lp_N Lpk_3 rfl) Lpk_3 rfl (by decide) uw3_157 uw3_159 us1_5 uw1_3 uw3_160 rfl rfl dd_X5_mayBeNewName ⟨Nat.le_of_ble_eq_true rfl, Nat.le_of_ble_eq_true rfl⟩ rfl (Nat.le_of_ble_eq_true rfl) dX5_passerLine_31 rfl (fun x3 m2 h => ?_)
      refine r_if_ne (tgt := 39) X dX5_passerLine_34 (by decide) h (fun h => ?_) (fun h => ?_)
      · refine r_aload_n X dX5_passerLine_39 rfl 1 rfl ?_
        refine r_getFN X (k := 3) (of := 9) rfl (Lp_N e1 rfl) e1 rfl (by decide) ui_7 (by decide) hl163 rfl dX5_passerLine_40 ?_
        refine r_aload_n X dX5_passerLine_43 rfl 1 rfl ?_
        refine r_getIN X (k := 7) (Lp_N e1 rfl) e1 rfl (by decide) ui_7 (by decide) hl160 rfl dX5_passerLine_44 ?_
        refine r_ald18 X (Lp_N (Lp_7_3 e1) rfl) (Lp_7_3 e1) (Lp_e18 (Lp_7_3 e1)) rfl h dX5_passerLine_47 (fun q4 eq4 h => ?_)
        refine r_astore_n (lv2 := [(2, .ref (ad (q4))), (0, .ref (ad (3))), (1, .ref (ad (h1)))]) X dX5_passerLine_48 rfl (by decide) rfl ?_
        refine r_aload_n X dX5_passerLine_49 rfl 0 rfl ?_
        refine r_aload_n X dX5_passerLine_50 rfl 1 rfl ?_
        refine r_getB X (k := 0) (of := 2) rfl (Lp_N Lpk_3 rfl) Lpk_3 rfl (by decide) ui_5 (by decide) uw1_73 rfl dX5_passerLine_51 ?_
        refine r_getJN X (k := 6) (Lp_N Lpk_1 rfl) Lpk_1 rfl (by decide) ui_9 (by decide) hl72 rfl dX5_passerLine_54 ?_
        refine r_putJN X (k := 2) (Lp_N eq4 rfl) eq4 rfl (by decide) ui_4 (by decide) hl167 tyX4_ok nmX4 rfl rfl rfl dX5_passerLine_57 ?_
        refine r_nmM h (fun m5 h => ?_)
        refine r_aload_n X dX5_passerLine_60 rfl 2 rfl ?_
        refine r_dup X dX5_passerLine_61 rfl ?_
        refine r_getIN X (k := 7) (Lp_N e1 rfl) e1 rfl (by decide) ui_7 (by decide) hl160 rfl dX5_passerLine_62 ?_
        refine r_iconst (v := (1)) X dX5_passerLine_65 (by decide) ?_
        refine r_iadd X dX5_passerLine_66 ?_
        refine r_putIN X (k := 7) (Lp_N e1 rfl) e1 rfl (by decide) ui_7 (by decide) hl160 tyX7_ok nmX7 rfl rfl rfl dX5_passerLine_67 ?_
        refine r_nmM h (fun m6 h => ?_)
        refine r_aload_n X dX5_passerLine_70 rfl 1 rfl ?_
        refine r_getB X (k := 0) (of := 2) rfl (Lp_N Lpk_3 rfl) Lpk_3 rfl (by decide) ui_5 (by decide) uw1_73 rfl dX5_passerLine_71 ?_
        refine r_cVV (As := []) (rest := []) X (fun m9 hg => k_X9_advance hg) h (Lp_N Lpk_1 rfl) Lpk_1 rfl (by decide) uw3_156 uw3_24 uw3_25 uw1_2 uw3_26 rfl rfl dd_X9_advance ⟨Nat.le_of_ble_eq_true rfl, Nat.le_of_ble_eq_true rfl⟩ rfl (Nat.le_of_ble_eq_true rfl) dX5_passerLine_74 rfl (fun m7 h => ?_)
        refine r_aload_n X dX5_passerLine_77 rfl 1 rfl ?_
        refine r_aload_n X dX5_passerLine_78 rfl 0 rfl ?_
        refine r_cVI (As := [.ref (ad (q4))]) (rest := []) X (fun r9 m9 hg => k_X5_takeKind eq4 hg) h (Lp_N Lpk_3 rfl) Lpk_3 rfl (by decide) uw3_189 uw3_191 us1_11 uw1_3 uw3_192 rfl rfl dd_X5_takeKind ⟨Nat.le_of_ble_eq_true rfl, Nat.le_of_ble_eq_true rfl⟩ rfl (Nat.le_of_ble_eq_true rfl) dX5_passerLine_79 rfl (fun x9 m8 h => ?_)
        refine r_if_eq (tgt := 102) X dX5_passerLine_82 (by decide) h (fun h => ?_) (fun h => ?_)
        · refine r_iconst (v := (0)) X dX5_passerLine_102 (by decide) ?_
          exact r_zret2 X rfl dX5_passerLine_103 h
        · refine r_aload_n X dX5_passerLine_85 rfl 1 rfl ?_
          refine r_iconst (v := (2)) X dX5_passerLine_86 (by decide) ?_
          refine r_cVI (As := [.int ((2))]) (rest := []) X (fun r9 m9 hg => k_X5_take hg) h (Lp_N Lpk_3 rfl) Lpk_3 rfl (by decide) uw3_181 uw3_183 us1_9 uw1_3 uw3_184 rfl rfl dd_X5_take ⟨Nat.le_of_ble_eq_true rfl, Nat.le_of_ble_eq_true rfl⟩ rfl (Nat.le_of_ble_eq_true rfl) dX5_passerLine_87 rfl (fun x11 m10 h => ?_)
          refine r_if_eq (tgt := 102) X dX5_passerLine_90 (by decide) h (fun h => ?_) (fun h => ?_)
          · refine r_iconst (v := (0)) X dX5_passerLine_102 (by decide) ?_
            exact r_zret2 X rfl dX5_passerLine_103 h
          · refine r_aload_n X dX5_passerLine_93 rfl 1 rfl ?_
            refine r_aload_n X dX5_passerLine_94 rfl 2 rfl ?_
            refine r_aload_n X dX5_passerLine_95 rfl 0 rfl ?_
            refine r_cVI (As := [.ref (ad (h1)), .ref (ad (q4))]) (rest := []) X (fun r9 m9 hg => k_X5_takeTune e1 eq4 hg) h (Lp_N Lpk_3 rfl) Lpk_3 rfl (by decide) uw3_193 uw3_195 us1_12 uw1_3 uw3_196 rfl rfl dd_X5_takeTune ⟨Nat.le_of_ble_eq_true rfl, Nat.le_of_ble_eq_true rfl⟩ rfl (Nat.le_of_ble_eq_true rfl) dX5_passerLine_96 rfl (fun x13 m12 h => ?_)
            refine r_if_ne (tgt := 104) X dX5_passerLine_99 (by decide) h (fun h => ?_) (fun h => ?_)
            · refine r_aload_n X dX5_passerLine_104 rfl 1 rfl ?_
              refine r_iconst (v := (3)) X dX5_passerLine_105 (by decide) ?_
              refine r_iconst (v := (0)) X dX5_passerLine_106 (by decide) ?_
              refine r_bipush (v := (9)) X dX5_passerLine_107 (by decide) ?_
              refine r_cVI (As := [.int ((3)), .int ((0)), .int ((9))]) (rest := []) X (fun r9 m9 hg => k_X5_takeValue hg) h (Lp_N Lpk_3 rfl) Lpk_3 rfl (by decide) uw3_203 uw3_205 us1_13 uw1_3 uw3_206 rfl rfl dd_X5_takeValue ⟨Nat.le_of_ble_eq_true rfl, Nat.le_of_ble_eq_true rfl⟩ rfl (Nat.le_of_ble_eq_true rfl) dX5_passerLine_109 rfl (fun x15 m14 h => ?_)
              refine r_if_ne (tgt := 117) X dX5_passerLine_112 (by decide) h (fun h => ?_) (fun h => ?_)
              · refine r_aload_n X dX5_passerLine_117 rfl 0 rfl ?_
                refine r_aload_n X dX5_passerLine_118 rfl 1 rfl ?_
                refine r_getI X (k := 1) (Lp_N Lpk_3 rfl) Lpk_3 rfl (by decide) ui_5 (by decide) uw1_74 rfl dX5_passerLine_119 ?_
                refine r_putIN X (k := 5) (Lp_N eq4 rfl) eq4 rfl (by decide) ui_4 (by decide) hl180 tyX4_ok nmX4 rfl rfl rfl dX5_passerLine_122 ?_
                refine r_nmM h (fun m16 h => ?_)
                refine r_aload_n X dX5_passerLine_125 rfl 1 rfl ?_
                refine r_iconst (v := (4)) X dX5_passerLine_126 (by decide) ?_
                refine r_iconst (v := (0)) X dX5_passerLine_127 (by decide) ?_
                refine r_bipush (v := (9)) X dX5_passerLine_128 (by decide) ?_
                refine r_cVI (As := [.int ((4)), .int ((0)), .int ((9))]) (rest := []) X (fun r9 m9 hg => k_X5_takeValue hg) h (Lp_N Lpk_3 rfl) Lpk_3 rfl (by decide) uw3_203 uw3_205 us1_13 uw1_3 uw3_206 rfl rfl dd_X5_takeValue ⟨Nat.le_of_ble_eq_true rfl, Nat.le_of_ble_eq_true rfl⟩ rfl (Nat.le_of_ble_eq_true rfl) dX5_passerLine_130 rfl (fun x18 m17 h => ?_)
                refine r_if_ne (tgt := 138) X dX5_passerLine_133 (by decide) h (fun h => ?_) (fun h => ?_)
                · refine r_aload_n X dX5_passerLine_138 rfl 0 rfl ?_
                  refine r_aload_n X dX5_passerLine_139 rfl 1 rfl ?_
                  refine r_getI X (k := 1) (Lp_N Lpk_3 rfl) Lpk_3 rfl (by decide) ui_5 (by decide) uw1_74 rfl dX5_passerLine_140 ?_
                  refine r_putIN X (k := 6) (Lp_N eq4 rfl) eq4 rfl (by decide) ui_4 (by decide) hl183 tyX4_ok nmX4 rfl rfl rfl dX5_passerLine_143 ?_
                  refine r_nmM h (fun m19 h => ?_)
                  refine r_aload_n X dX5_passerLine_146 rfl 1 rfl ?_
                  refine r_iconst (v := (5)) X dX5_passerLine_147 (by decide) ?_
                  refine r_iconst (v := (1)) X dX5_passerLine_148 (by decide) ?_
                  refine r_bipush (v := (30)) X dX5_passerLine_149 (by decide) ?_
                  refine r_cVI (As := [.int ((5)), .int ((1)), .int ((30))]) (rest := []) X (fun r9 m9 hg => k_X5_takeValue hg) h (Lp_N Lpk_3 rfl) Lpk_3 rfl (by decide) uw3_203 uw3_205 us1_13 uw1_3 uw3_206 rfl rfl dd_X5_takeValue ⟨Nat.le_of_ble_eq_true rfl, Nat.le_of_ble_eq_true rfl⟩ rfl (Nat.le_of_ble_eq_true rfl) dX5_passerLine_151 rfl (fun x21 m20 h => ?_)
                  refine r_if_ne (tgt := 159) X dX5_passerLine_154 (by decide) h (fun h => ?_) (fun h => ?_)
                  · refine r_aload_n X dX5_passerLine_159 rfl 0 rfl ?_
                    refine r_aload_n X dX5_passerLine_160 rfl 1 rfl ?_
                    refine r_getI X (k := 1) (Lp_N Lpk_3 rfl) Lpk_3 rfl (by decide) ui_5 (by decide) uw1_74 rfl dX5_passerLine_161 ?_
                    refine r_putIN X (k := 7) (Lp_N eq4 rfl) eq4 rfl (by decide) ui_4 (by decide) hl186 tyX4_ok nmX4 rfl rfl rfl dX5_passerLine_164 ?_
                    refine r_nmM h (fun m22 h => ?_)
                    refine r_aload_n X dX5_passerLine_167 rfl 1 rfl ?_
                    refine r_bipush (v := (6)) X dX5_passerLine_168 (by decide) ?_
                    refine r_iconst (v := (0)) X dX5_passerLine_170 (by decide) ?_
                    refine r_bipush (v := (59)) X dX5_passerLine_171 (by decide) ?_
                    refine r_cVI (As := [.int ((6)), .int ((0)), .int ((59))]) (rest := []) X (fun r9 m9 hg => k_X5_takeValue hg) h (Lp_N Lpk_3 rfl) Lpk_3 rfl (by decide) uw3_203 uw3_205 us1_13 uw1_3 uw3_206 rfl rfl dd_X5_takeValue ⟨Nat.le_of_ble_eq_true rfl, Nat.le_of_ble_eq_true rfl⟩ rfl (Nat.le_of_ble_eq_true rfl) dX5_passerLine_173 rfl (fun x24 m23 h => ?_)
                    refine r_if_ne (tgt := 181) X dX5_passerLine_176 (by decide) h (fun h => ?_) (fun h => ?_)
                    · refine r_aload_n X dX5_passerLine_181 rfl 0 rfl ?_
                      refine r_aload_n X dX5_passerLine_182 rfl 1 rfl ?_
                      refine r_getI X (k := 1) (Lp_N Lpk_3 rfl) Lpk_3 rfl (by decide) ui_5 (by decide) uw1_74 rfl dX5_passerLine_183 ?_
                      refine r_putIN X (k := 8) (Lp_N eq4 rfl) eq4 rfl (by decide) ui_4 (by decide) hl189 tyX4_ok nmX4 rfl rfl rfl dX5_passerLine_186 ?_
                      refine r_nmM h (fun m25 h => ?_)
                      refine r_iconst (v := (1)) X dX5_passerLine_189 (by decide) ?_
                      exact r_zret2 X rfl dX5_passerLine_190 h
                    · refine r_iconst (v := (0)) X dX5_passerLine_179 (by decide) ?_
                      exact r_zret2 X rfl dX5_passerLine_180 h
                  · refine r_iconst (v := (0)) X dX5_passerLine_157 (by decide) ?_
                    exact r_zret2 X rfl dX5_passerLine_158 h
                · refine r_iconst (v := (0)) X dX5_passerLine_136 (by decide) ?_
                  exact r_zret2 X rfl dX5_passerLine_137 h
              · refine r_iconst (v := (0)) X dX5_passerLine_115 (by decide) ?_
                exact r_zret2 X rfl dX5_passerLine_116 h
            · refine r_iconst (v := (0)) X dX5_passerLine_102 (by decide) ?_
              exact r_zret2 X rfl dX5_passerLine_103 h
      · refine r_iconst (v := (0)) X dX5_passerLine_37 (by decide) ?_
        exact r_zret2 X rfl dX5_passerLine_38 h
    · exact r_sub [0] rfl (hJ16 mem h)
noncomputable def f_X5_priceTold (h1 : Nat) (mem : Mm) : Option (Int32 × Mm) :=
  bdI (f_X5_takeNumber ((0)) ((999)) mem) fun x2 m1 => bnd (sI m1 h1 12 (gI m1 3 1)) fun m3 => grd (bok x2) (some (x2, m3))
theorem dd_X5_priceTold : yX5_priceTold.cls = RX5 ∧ yX5_priceTold.cls ≠ "java/lang/invoke/MethodHandle" ∧ yX5_priceTold.cls ≠ "java/lang/invoke/VarHandle" ∧ (parseMethodDescriptor yX5_priceTold.desc).map (fun d => d.parameters.length) = some 1 := by decide +kernel
set_option maxHeartbeats 4000000 in
set_option maxRecDepth 100000 in
theorem k_X5_priceTold {l : Launch} {ad : Nat → Nat} {cy : Nat → ClassId} {dC : Nat → ClassId} {dI : Nat → Nat → Nat} {ks : (Nat → Nat) × (Nat → Nat)} {h1 : Nat} {mem : Mm} {r2 : Int32} {mem2 : Mm} (e1 : Lp.1 h1 = 7) (h : f_X5_priceTold h1 mem = some (r2, mem2)) : CtI l Lp ad cy dC dI ks yX5_priceTold cX5_priceTold 3 (some .boolean) ({ frames := 7, cells := 0, slots := 0, locals := 153 }) [.ref (ad (3)), .ref (ad (h1))] mem r2 mem2 := by
  refine CtI.of (cc := cX5_priceTold) (maxL := 3) (ret := (some .boolean)) (own := RX5) rfl (by decide) (Nat.le_of_ble_eq_true rfl) ?_
  intro p e s m args below meth c A X
  have hts := X.2.2.2.2.1
  have hl135 := X.2.2.2.2.2.2.1 (.fieldLinkNest "StationPiano$Reader" 135 "StationPiano$Station" "price" "I" "StationPiano") (List.mem_of_getElem? (i := 52) rfl)
  unfold f_X5_priceTold at h
  refine r_aload_n X dX5_priceTold_0 rfl 0 rfl ?_
  refine r_iconst (v := (0)) X dX5_priceTold_1 (by decide) ?_
  refine r_sipush (v := (999)) X dX5_priceTold_2 (by decide) ?_
  refine r_cVI (As := [.int ((0)), .int ((999))]) (rest := []) X (fun r9 m9 hg => k_X5_takeNumber hg) h (Lp_N Lpk_3 rfl) Lpk_3 rfl (by decide) uw3_177 uw3_179 us1_8 uw1_3 uw3_180 rfl rfl dd_X5_takeNumber ⟨Nat.le_of_ble_eq_true rfl, Nat.le_of_ble_eq_true rfl⟩ rfl (Nat.le_of_ble_eq_true rfl) dX5_priceTold_5 rfl (fun x2 m1 h => ?_)
  refine r_istore_n (lv2 := [(2, .int (x2)), (0, .ref (ad (3))), (1, .ref (ad (h1)))]) X dX5_priceTold_8 rfl (by decide) rfl ?_
  refine r_aload_n X dX5_priceTold_9 rfl 2 rfl ?_
  refine r_aload_n X dX5_priceTold_10 rfl 1 rfl ?_
  refine r_getI X (k := 1) (Lp_N Lpk_3 rfl) Lpk_3 rfl (by decide) ui_5 (by decide) uw1_74 rfl dX5_priceTold_11 ?_
  refine r_putIN X (k := 12) (Lp_N e1 rfl) e1 rfl (by decide) ui_7 (by decide) hl135 tyX7_ok nmX7 rfl rfl rfl dX5_priceTold_14 ?_
  refine r_nmM h (fun m3 h => ?_)
  refine r_iload_n X dX5_priceTold_17 rfl 0 rfl ?_
  exact r_zret2 X rfl dX5_priceTold_18 h
noncomputable def f_X5_toldFirst (h1 : Nat) (mem : Mm) : Option (Int32 × Mm) :=
  bnd (((1)) <<< ((gI mem 1 2) &&& 31)) fun x1 => if ((gI mem h1 13) &&& x1) = 0 then (bnd (sI mem h1 13 ((gI mem h1 13) ||| x1)) fun m2 => bdV (f_X9_advance  m2) fun m3 => grd (bok ((1))) (some ((1), m3))) else (bdI (f_X5_wrong ((3)) mem) fun x5 m4 => grd (bok x5) (some (x5, m4)))
theorem dd_X5_toldFirst : yX5_toldFirst.cls = RX5 ∧ yX5_toldFirst.cls ≠ "java/lang/invoke/MethodHandle" ∧ yX5_toldFirst.cls ≠ "java/lang/invoke/VarHandle" ∧ (parseMethodDescriptor yX5_toldFirst.desc).map (fun d => d.parameters.length) = some 1 := by decide +kernel
set_option maxHeartbeats 4000000 in
set_option maxRecDepth 100000 in
theorem k_X5_toldFirst {l : Launch} {ad : Nat → Nat} {cy : Nat → ClassId} {dC : Nat → ClassId} {dI : Nat → Nat → Nat} {ks : (Nat → Nat) × (Nat → Nat)} {h1 : Nat} {mem : Mm} {r2 : Int32} {mem2 : Mm} (e1 : Lp.1 h1 = 7) (h : f_X5_toldFirst h1 mem = some (r2, mem2)) : CtI l Lp ad cy dC dI ks yX5_toldFirst cX5_toldFirst 3 (some .boolean) ({ frames := 6, cells := 0, slots := 0, locals := 131 }) [.ref (ad (3)), .ref (ad (h1))] mem r2 mem2 := by
  refine CtI.of (cc := cX5_toldFirst) (maxL := 3) (ret := (some .boolean)) (own := RX5) rfl (by decide) (Nat.le_of_ble_eq_true rfl) ?_
  intro p e s m args below meth c A X
  have hts := X.2.2.2.2.1
  have hl29 := X.2.2.2.2.2.2.1 (.fieldLinkNest "StationPiano$Reader" 29 "StationPiano$Tape" "token" "I" "StationPiano") (List.mem_of_getElem? (i := 1) rfl)
  have hl120 := X.2.2.2.2.2.2.1 (.fieldLinkNest "StationPiano$Reader" 120 "StationPiano$Station" "toldOnce" "I" "StationPiano") (List.mem_of_getElem? (i := 53) rfl)
  unfold f_X5_toldFirst at h
  refine r_iconst (v := (1)) X dX5_toldFirst_0 (by decide) ?_
  refine r_aload_n X dX5_toldFirst_1 rfl 0 rfl ?_
  refine r_getB X (k := 0) (of := 2) rfl (Lp_N Lpk_3 rfl) Lpk_3 rfl (by decide) ui_5 (by decide) uw1_73 rfl dX5_toldFirst_2 ?_
  refine r_getIN X (k := 2) (Lp_N Lpk_1 rfl) Lpk_1 rfl (by decide) ui_9 (by decide) hl29 rfl dX5_toldFirst_5 ?_
  refine r_ishl X dX5_toldFirst_8 ?_
  refine r_nmI h (fun x1 h => ?_)
  refine r_istore_n (lv2 := [(2, .int (x1)), (0, .ref (ad (3))), (1, .ref (ad (h1)))]) X dX5_toldFirst_9 rfl (by decide) rfl ?_
  refine r_aload_n X dX5_toldFirst_10 rfl 2 rfl ?_
  refine r_getIN X (k := 13) (Lp_N e1 rfl) e1 rfl (by decide) ui_7 (by decide) hl120 rfl dX5_toldFirst_11 ?_
  refine r_iload_n X dX5_toldFirst_14 rfl 0 rfl ?_
  refine r_iand X dX5_toldFirst_15 ?_
  refine r_if_eq (tgt := 25) X dX5_toldFirst_16 (by decide) h (fun h => ?_) (fun h => ?_)
  · refine r_aload_n X dX5_toldFirst_25 rfl 2 rfl ?_
    refine r_dup X dX5_toldFirst_26 rfl ?_
    refine r_getIN X (k := 13) (Lp_N e1 rfl) e1 rfl (by decide) ui_7 (by decide) hl120 rfl dX5_toldFirst_27 ?_
    refine r_iload_n X dX5_toldFirst_30 rfl 0 rfl ?_
    refine r_ior X dX5_toldFirst_31 ?_
    refine r_putIN X (k := 13) (Lp_N e1 rfl) e1 rfl (by decide) ui_7 (by decide) hl120 tyX7_ok nmX7 rfl rfl rfl dX5_toldFirst_32 ?_
    refine r_nmM h (fun m2 h => ?_)
    refine r_aload_n X dX5_toldFirst_35 rfl 1 rfl ?_
    refine r_getB X (k := 0) (of := 2) rfl (Lp_N Lpk_3 rfl) Lpk_3 rfl (by decide) ui_5 (by decide) uw1_73 rfl dX5_toldFirst_36 ?_
    refine r_cVV (As := []) (rest := []) X (fun m9 hg => k_X9_advance hg) h (Lp_N Lpk_1 rfl) Lpk_1 rfl (by decide) uw3_156 uw3_24 uw3_25 uw1_2 uw3_26 rfl rfl dd_X9_advance ⟨Nat.le_of_ble_eq_true rfl, Nat.le_of_ble_eq_true rfl⟩ rfl (Nat.le_of_ble_eq_true rfl) dX5_toldFirst_39 rfl (fun m3 h => ?_)
    refine r_iconst (v := (1)) X dX5_toldFirst_42 (by decide) ?_
    exact r_zret2 X rfl dX5_toldFirst_43 h
  · refine r_aload_n X dX5_toldFirst_19 rfl 1 rfl ?_
    refine r_iconst (v := (3)) X dX5_toldFirst_20 (by decide) ?_
    refine r_cVI (As := [.int ((3))]) (rest := []) X (fun r9 m9 hg => k_X5_wrong hg) h (Lp_N Lpk_3 rfl) Lpk_3 rfl (by decide) uw3_152 uw3_154 us1_4 uw1_3 uw3_155 rfl rfl dd_X5_wrong ⟨Nat.le_of_ble_eq_true rfl, Nat.le_of_ble_eq_true rfl⟩ rfl (Nat.le_of_ble_eq_true rfl) dX5_toldFirst_21 rfl (fun x5 m4 h => ?_)
    exact r_zret2 X rfl dX5_toldFirst_24 h
noncomputable def f_X5_takeKey_J41 (h1 : Nat) (p2 : Int32) (m9 : Mm) : Option (Int32 × Mm) :=
  bdI (f_X5_wrong ((5)) m9) fun x11 m10 => grd (bok x11) (some (x11, m10))
noncomputable def f_X5_takeKey_J47 (h1 : Nat) (p2 : Int32) (x2 : Int32) (m3 : Mm) : Option (Int32 × Mm) :=
  bdI (f_X5_takeNumber ((0)) ((11)) m3) fun x5 m4 => if ¬ x5 = 0 then (grd (inb p2 (Lp.2.1 (h1 + 3))) (bnd (h1 + 3 + (1 + p2.toNatClampNeg)) fun q6 => grd (inb x2 (Lp.2.1 q6)) (bnd (sI m4 q6 x2.toNatClampNeg (gI m4 3 1)) fun m7 => grd (inb p2 (Lp.2.1 (h1 + 2))) (bnd (sI m7 (h1 + 2) p2.toNatClampNeg (x2 + ((1)))) fun m8 => grd (bok ((1))) (some ((1), m8)))))) else (grd (bok ((0))) (some ((0), m4)))
noncomputable def f_X5_takeKey (h1 : Nat) (p2 : Int32) (mem : Mm) : Option (Int32 × Mm) :=
  grd (inb p2 (Lp.2.1 (h1 + 2))) (bnd (gI mem (h1 + 2) p2.toNatClampNeg) fun x1 => if ¬ (gI mem 1 2) = ((100)) then (f_X5_takeKey_J47 h1 p2 x1 mem) else (if ((12)) ≤ (gI mem 1 5) then (f_X5_takeKey_J47 h1 p2 x1 mem) else (if x1 < 0 then (f_X5_takeKey_J41 h1 p2 mem) else (if x1 < ((9)) then (f_X5_takeKey_J47 h1 p2 x1 mem) else (f_X5_takeKey_J41 h1 p2 mem)))))
theorem dd_X5_takeKey : yX5_takeKey.cls = RX5 ∧ yX5_takeKey.cls ≠ "java/lang/invoke/MethodHandle" ∧ yX5_takeKey.cls ≠ "java/lang/invoke/VarHandle" ∧ (parseMethodDescriptor yX5_takeKey.desc).map (fun d => d.parameters.length) = some 2 := by decide +kernel
set_option maxHeartbeats 4000000 in
set_option maxRecDepth 100000 in
theorem k_X5_takeKey {l : Launch} {ad : Nat → Nat} {cy : Nat → ClassId} {dC : Nat → ClassId} {dI : Nat → Nat → Nat} {ks : (Nat → Nat) × (Nat → Nat)} {h1 : Nat} {p2 : Int32} {mem : Mm} {r2 : Int32} {mem2 : Mm} (e1 : Lp.1 h1 = 7) (h : f_X5_takeKey h1 p2 mem = some (r2, mem2)) : CtI l Lp ad cy dC dI ks yX5_takeKey cX5_takeKey 4 (some .boolean) ({ frames := 7, cells := 0, slots := 0, locals := 153 }) [.ref (ad (3)), .ref (ad (h1)), .int (p2)] mem r2 mem2 := by
  refine CtI.of (cc := cX5_takeKey) (maxL := 4) (ret := (some .boolean)) (own := RX5) rfl (by decide) (Nat.le_of_ble_eq_true rfl) ?_
  intro p e s m args below meth c A X
  have hts := X.2.2.2.2.1
  have hl29 := X.2.2.2.2.2.2.1 (.fieldLinkNest "StationPiano$Reader" 29 "StationPiano$Tape" "token" "I" "StationPiano") (List.mem_of_getElem? (i := 1) rfl)
  have hl55 := X.2.2.2.2.2.2.1 (.fieldLinkNest "StationPiano$Reader" 55 "StationPiano$Tape" "number" "I" "StationPiano") (List.mem_of_getElem? (i := 3) rfl)
  have hl148 := X.2.2.2.2.2.2.1 (.fieldLinkNest "StationPiano$Reader" 148 "StationPiano$Station" "tuneLengths" "[I" "StationPiano") (List.mem_of_getElem? (i := 27) rfl)
  have hl156 := X.2.2.2.2.2.2.1 (.fieldLinkNest "StationPiano$Reader" 156 "StationPiano$Station" "tuneKeys" "[[I" "StationPiano") (List.mem_of_getElem? (i := 29) rfl)
  have hJ41 : ∀ (m9 : Mm), f_X5_takeKey_J41 h1 p2 m9 = some (r2, mem2) → Jd p l e ({ frames := 7, cells := 0, slots := 0, locals := 153 }) s m args below meth c 4 (MQ below (PsI Lp ad cy dC dI r2 mem2 A) args s 0 0 A) A dC dI cy Lp ad m9 41 [(0, .ref (ad (3)))] [] := by
    intro m9 h
    unfold f_X5_takeKey_J41 at h
    refine r_aload_n X dX5_takeKey_41 rfl 0 rfl ?_
    refine r_iconst (v := (5)) X dX5_takeKey_42 (by decide) ?_
    refine r_cVI (As := [.int ((5))]) (rest := []) X (fun r9 m9 hg => k_X5_wrong hg) h (Lp_N Lpk_3 rfl) Lpk_3 rfl (by decide) uw3_152 uw3_154 us1_4 uw1_3 uw3_155 rfl rfl dd_X5_wrong ⟨Nat.le_of_ble_eq_true rfl, Nat.le_of_ble_eq_true rfl⟩ rfl (Nat.le_of_ble_eq_true rfl) dX5_takeKey_43 rfl (fun x11 m10 h => ?_)
    exact r_zret2 X rfl dX5_takeKey_46 h
  have hJ47 : ∀ (x2 : Int32) (m3 : Mm), f_X5_takeKey_J47 h1 p2 x2 m3 = some (r2, mem2) → Jd p l e ({ frames := 7, cells := 0, slots := 0, locals := 153 }) s m args below meth c 4 (MQ below (PsI Lp ad cy dC dI r2 mem2 A) args s 0 0 A) A dC dI cy Lp ad m3 47 [(0, .ref (ad (3))), (1, .ref (ad (h1))), (2, .int (p2)), (3, .int (x2))] [] := by
    intro x2 m3 h
    unfold f_X5_takeKey_J47 at h
    refine r_aload_n X dX5_takeKey_47 rfl 0 rfl ?_
    refine r_iconst (v := (0)) X dX5_takeKey_48 (by decide) ?_
    refine r_bipush (v := (11)) X dX5_takeKey_49 (by decide) ?_
    refine r_cVI (As := [.int ((0)), .int ((11))]) (rest := []) X (fun r9 m9 hg => k_X5_takeNumber hg) h (Lp_N Lpk_3 rfl) Lpk_3 rfl (by decide) uw3_177 uw3_179 us1_8 uw1_3 uw3_180 rfl rfl dd_X5_takeNumber ⟨Nat.le_of_ble_eq_true rfl, Nat.le_of_ble_eq_true rfl⟩ rfl (Nat.le_of_ble_eq_true rfl) dX5_takeKey_51 rfl (fun x5 m4 h => ?_)
    refine r_if_ne (tgt := 59) X dX5_takeKey_54 (by decide) h (fun h => ?_) (fun h => ?_)
    · refine r_aload_n X dX5_takeKey_59 rfl 1 rfl ?_
      refine r_getFN X (k := 2) (of := 3) rfl (Lp_N e1 rfl) e1 rfl (by decide) ui_7 (by decide) hl156 rfl dX5_takeKey_60 ?_
      refine r_iload_n X dX5_takeKey_63 rfl 2 rfl ?_
      refine r_ald20 X (Lp_N (Lp_7_2 e1) rfl) (Lp_7_2 e1) (Lp_e20 (Lp_7_2 e1)) rfl h dX5_takeKey_64 (fun q6 eq6 h => ?_)
      refine r_iload_n X dX5_takeKey_65 rfl 3 rfl ?_
      refine r_aload_n X dX5_takeKey_66 rfl 0 rfl ?_
      refine r_getI X (k := 1) (Lp_N Lpk_3 rfl) Lpk_3 rfl (by decide) ui_5 (by decide) uw1_74 rfl dX5_takeKey_67 ?_
      refine r_iast X (Lp_N eq6 rfl) eq6 h dX5_takeKey_70 (fun h => ?_)
      refine r_nmM h (fun m7 h => ?_)
      refine r_aload_n X dX5_takeKey_71 rfl 1 rfl ?_
      refine r_getFN X (k := 1) (of := 2) rfl (Lp_N e1 rfl) e1 rfl (by decide) ui_7 (by decide) hl148 rfl dX5_takeKey_72 ?_
      refine r_iload_n X dX5_takeKey_75 rfl 2 rfl ?_
      refine r_iload_n X dX5_takeKey_76 rfl 3 rfl ?_
      refine r_iconst (v := (1)) X dX5_takeKey_77 (by decide) ?_
      refine r_iadd X dX5_takeKey_78 ?_
      refine r_iast X (Lp_N (Lp_7_1 e1) rfl) (Lp_7_1 e1) h dX5_takeKey_79 (fun h => ?_)
      refine r_nmM h (fun m8 h => ?_)
      refine r_iconst (v := (1)) X dX5_takeKey_80 (by decide) ?_
      exact r_zret2 X rfl dX5_takeKey_81 h
    · refine r_iconst (v := (0)) X dX5_takeKey_57 (by decide) ?_
      exact r_zret2 X rfl dX5_takeKey_58 h
  unfold f_X5_takeKey at h
  refine r_aload_n X dX5_takeKey_0 rfl 1 rfl ?_
  refine r_getFN X (k := 1) (of := 2) rfl (Lp_N e1 rfl) e1 rfl (by decide) ui_7 (by decide) hl148 rfl dX5_takeKey_1 ?_
  refine r_iload_n X dX5_takeKey_4 rfl 2 rfl ?_
  refine r_iald X (Lp_N (Lp_7_1 e1) rfl) (Lp_7_1 e1) h dX5_takeKey_5 (fun h => ?_)
  refine r_nmI h (fun x1 h => ?_)
  refine r_istore_n (lv2 := [(3, .int (x1)), (0, .ref (ad (3))), (1, .ref (ad (h1))), (2, .int (p2))]) X dX5_takeKey_6 rfl (by decide) rfl ?_
  refine r_aload_n X dX5_takeKey_7 rfl 1 rfl ?_
  refine r_getB X (k := 0) (of := 2) rfl (Lp_N Lpk_3 rfl) Lpk_3 rfl (by decide) ui_5 (by decide) uw1_73 rfl dX5_takeKey_8 ?_
  refine r_getIN X (k := 2) (Lp_N Lpk_1 rfl) Lpk_1 rfl (by decide) ui_9 (by decide) hl29 rfl dX5_takeKey_11 ?_
  refine r_bipush (v := (100)) X dX5_takeKey_14 (by decide) ?_
  refine r_icmp_ne (tgt := 47) X dX5_takeKey_16 (by decide) h (fun h => ?_) (fun h => ?_)
  · exact r_sub [1, 2, 3, 0] rfl (hJ47 x1 mem h)
  · refine r_aload_n X dX5_takeKey_19 rfl 1 rfl ?_
    refine r_getB X (k := 0) (of := 2) rfl (Lp_N Lpk_3 rfl) Lpk_3 rfl (by decide) ui_5 (by decide) uw1_73 rfl dX5_takeKey_20 ?_
    refine r_getIN X (k := 5) (Lp_N Lpk_1 rfl) Lpk_1 rfl (by decide) ui_9 (by decide) hl55 rfl dX5_takeKey_23 ?_
    refine r_bipush (v := (12)) X dX5_takeKey_26 (by decide) ?_
    refine r_icmp_ge (tgt := 47) X dX5_takeKey_28 (by decide) h (fun h => ?_) (fun h => ?_)
    · exact r_sub [1, 2, 3, 0] rfl (hJ47 x1 mem h)
    · refine r_iload_n X dX5_takeKey_31 rfl 0 rfl ?_
      refine r_if_lt (tgt := 41) X dX5_takeKey_32 (by decide) h (fun h => ?_) (fun h => ?_)
      · exact r_sub [1] rfl (hJ41 mem h)
      · refine r_iload_n X dX5_takeKey_35 rfl 0 rfl ?_
        refine r_bipush (v := (9)) X dX5_takeKey_36 (by decide) ?_
        refine r_icmp_lt (tgt := 47) X dX5_takeKey_38 (by decide) h (fun h => ?_) (fun h => ?_)
        · exact r_sub [1, 2, 3, 0] rfl (hJ47 x1 mem h)
        · exact r_sub [1] rfl (hJ41 mem h)
noncomputable def f_X5_tuneLine_J14 (h1 : Nat) (m11 : Mm) : Option (Int32 × Mm) :=
  bdI (f_X5_wrong ((5)) m11) fun x13 m12 => grd (bok x13) (some (x13, m12))
noncomputable def f_X5_tuneLine_B87 (h1 : Nat) (k87 : Int32 → Int32 → Mm → Option (Int32 × Mm)) (x14 : Int32) (x15 : Int32) (m16 : Mm) : Option (Int32 × Mm) :=
  if ((9)) < x15 then (grd (bok ((1))) (some ((1), m16))) else (if ¬ (gI m16 1 2) = ((100)) then (grd (bok ((1))) (some ((1), m16))) else (bdI (f_X5_takeKey h1 x14 m16) fun x18 m17 => if ¬ x18 = 0 then (bnd (x15 + (1)) fun x19 => k87 x14 x19 m17) else (grd (bok ((0))) (some ((0), m17)))))
noncomputable def f_X5_tuneLine (h1 : Nat) (mem : Mm) : Option (Int32 × Mm) :=
  bnd (gI mem h1 6) fun x1 => if x1 < 0 then (f_X5_tuneLine_J14 h1 mem) else (if x1 < ((5)) then (bdV (f_X9_advance  mem) fun m2 => bdI (f_X5_mayBeNewName h1 m2) fun x4 m3 => if ¬ x4 = 0 then (grd (inb x1 (Lp.2.1 (h1 + 1))) (bnd (sJ m3 (h1 + 1) x1.toNatClampNeg (gJ m3 1 6)) fun m5 => grd (inb x1 (Lp.2.1 (h1 + 2))) (bnd (sI m5 (h1 + 2) x1.toNatClampNeg ((0))) fun m6 => bnd (sI m6 h1 6 ((gI m6 h1 6) + ((1)))) fun m7 => bdV (f_X9_advance  m7) fun m8 => bdI (f_X5_takeKey h1 x1 m8) fun x10 m9 => if ¬ x10 = 0 then (lop (fun _ _ _ => none) (f_X5_tuneLine_B87 h1 ) 4000 x1 ((0)) m9) else (grd (bok ((0))) (some ((0), m9)))))) else (grd (bok ((0))) (some ((0), m3)))) else (f_X5_tuneLine_J14 h1 mem))
theorem dd_X5_tuneLine : yX5_tuneLine.cls = RX5 ∧ yX5_tuneLine.cls ≠ "java/lang/invoke/MethodHandle" ∧ yX5_tuneLine.cls ≠ "java/lang/invoke/VarHandle" ∧ (parseMethodDescriptor yX5_tuneLine.desc).map (fun d => d.parameters.length) = some 1 := by decide +kernel
set_option maxHeartbeats 4000000 in
set_option maxRecDepth 100000 in
theorem k_X5_tuneLine {l : Launch} {ad : Nat → Nat} {cy : Nat → ClassId} {dC : Nat → ClassId} {dI : Nat → Nat → Nat} {ks : (Nat → Nat) × (Nat → Nat)} {h1 : Nat} {mem : Mm} {r2 : Int32} {mem2 : Mm} (e1 : Lp.1 h1 = 7) (h : f_X5_tuneLine h1 mem = some (r2, mem2)) : CtI l Lp ad cy dC dI ks yX5_tuneLine cX5_tuneLine 4 (some .boolean) ({ frames := 8, cells := 0, slots := 0, locals := 176 }) [.ref (ad (3)), .ref (ad (h1))] mem r2 mem2 := by
  refine CtI.of (cc := cX5_tuneLine) (maxL := 4) (ret := (some .boolean)) (own := RX5) rfl (by decide) (Nat.le_of_ble_eq_true rfl) ?_
  intro p e s m args below meth c A X
  have hts := X.2.2.2.2.1
  have hl29 := X.2.2.2.2.2.2.1 (.fieldLinkNest "StationPiano$Reader" 29 "StationPiano$Tape" "token" "I" "StationPiano") (List.mem_of_getElem? (i := 1) rfl)
  have hl72 := X.2.2.2.2.2.2.1 (.fieldLinkNest "StationPiano$Reader" 72 "StationPiano$Tape" "letters" "J" "StationPiano") (List.mem_of_getElem? (i := 4) rfl)
  have hl138 := X.2.2.2.2.2.2.1 (.fieldLinkNest "StationPiano$Reader" 138 "StationPiano$Station" "tuneCount" "I" "StationPiano") (List.mem_of_getElem? (i := 37) rfl)
  have hl144 := X.2.2.2.2.2.2.1 (.fieldLinkNest "StationPiano$Reader" 144 "StationPiano$Station" "tuneNames" "[J" "StationPiano") (List.mem_of_getElem? (i := 25) rfl)
  have hl148 := X.2.2.2.2.2.2.1 (.fieldLinkNest "StationPiano$Reader" 148 "StationPiano$Station" "tuneLengths" "[I" "StationPiano") (List.mem_of_getElem? (i := 27) rfl)
  have hJ14 : ∀ (m11 : Mm), f_X5_tuneLine_J14 h1 m11 = some (r2, mem2) → Jd p l e ({ frames := 8, cells := 0, slots := 0, locals := 176 }) s m args below meth c 4 (MQ below (PsI Lp ad cy dC dI r2 mem2 A) args s 0 0 A) A dC dI cy Lp ad m11 14 [(0, .ref (ad (3)))] [] := by
    intro m11 h
    unfold f_X5_tuneLine_J14 at h
    refine r_aload_n X dX5_tuneLine_14 rfl 0 rfl ?_
    refine r_iconst (v := (5)) X dX5_tuneLine_15 (by decide) ?_
    refine r_cVI (As := [.int ((5))]) (rest := []) X (fun r9 m9 hg => k_X5_wrong hg) h (Lp_N Lpk_3 rfl) Lpk_3 rfl (by decide) uw3_152 uw3_154 us1_4 uw1_3 uw3_155 rfl rfl dd_X5_wrong ⟨Nat.le_of_ble_eq_true rfl, Nat.le_of_ble_eq_true rfl⟩ rfl (Nat.le_of_ble_eq_true rfl) dX5_tuneLine_16 rfl (fun x13 m12 h => ?_)
    exact r_zret2 X rfl dX5_tuneLine_19 h
  have hJ87 : ∀ (k87 : Int32 → Int32 → Mm → Option (Int32 × Mm)) (hk87 : ∀ (x14 : Int32) (x15 : Int32) (m16 : Mm), k87 x14 x15 m16 = some (r2, mem2) → Jd p l e ({ frames := 8, cells := 0, slots := 0, locals := 176 }) s m args below meth c 4 (MQ below (PsI Lp ad cy dC dI r2 mem2 A) args s 0 0 A) A dC dI cy Lp ad m16 87 [(0, .ref (ad (3))), (1, .ref (ad (h1))), (2, .int (x14)), (3, .int (x15))] []) (x14 : Int32) (x15 : Int32) (m16 : Mm), f_X5_tuneLine_B87 h1 k87 x14 x15 m16 = some (r2, mem2) → Jd p l e ({ frames := 8, cells := 0, slots := 0, locals := 176 }) s m args below meth c 4 (MQ below (PsI Lp ad cy dC dI r2 mem2 A) args s 0 0 A) A dC dI cy Lp ad m16 87 [(0, .ref (ad (3))), (1, .ref (ad (h1))), (2, .int (x14)), (3, .int (x15))] [] := by
    intro k87 hk87 x14 x15 m16 h
    unfold f_X5_tuneLine_B87 at h
    refine r_iload_n X dX5_tuneLine_87 rfl 3 rfl ?_
    refine r_bipush (v := (9)) X dX5_tuneLine_88 (by decide) ?_
    refine r_icmp_gt (tgt := 122) X dX5_tuneLine_90 (by decide) h (fun h => ?_) (fun h => ?_)
    · refine r_iconst (v := (1)) X dX5_tuneLine_122 (by decide) ?_
      exact r_zret2 X rfl dX5_tuneLine_123 h
    · refine r_aload_n X dX5_tuneLine_93 rfl 0 rfl ?_
      refine r_getB X (k := 0) (of := 2) rfl (Lp_N Lpk_3 rfl) Lpk_3 rfl (by decide) ui_5 (by decide) uw1_73 rfl dX5_tuneLine_94 ?_
      refine r_getIN X (k := 2) (Lp_N Lpk_1 rfl) Lpk_1 rfl (by decide) ui_9 (by decide) hl29 rfl dX5_tuneLine_97 ?_
      refine r_bipush (v := (100)) X dX5_tuneLine_100 (by decide) ?_
      refine r_icmp_ne (tgt := 122) X dX5_tuneLine_102 (by decide) h (fun h => ?_) (fun h => ?_)
      · refine r_iconst (v := (1)) X dX5_tuneLine_122 (by decide) ?_
        exact r_zret2 X rfl dX5_tuneLine_123 h
      · refine r_aload_n X dX5_tuneLine_105 rfl 0 rfl ?_
        refine r_aload_n X dX5_tuneLine_106 rfl 1 rfl ?_
        refine r_iload_n X dX5_tuneLine_107 rfl 2 rfl ?_
        refine r_cVI (As := [.ref (ad (h1)), .int (x14)]) (rest := []) X (fun r9 m9 hg => k_X5_takeKey e1 hg) h (Lp_N Lpk_3 rfl) Lpk_3 rfl (by decide) uw3_173 uw3_175 us1_7 uw1_3 uw3_176 rfl rfl dd_X5_takeKey ⟨Nat.le_of_ble_eq_true rfl, Nat.le_of_ble_eq_true rfl⟩ rfl (Nat.le_of_ble_eq_true rfl) dX5_tuneLine_108 rfl (fun x18 m17 h => ?_)
        refine r_if_ne (tgt := 116) X dX5_tuneLine_111 (by decide) h (fun h => ?_) (fun h => ?_)
        · refine r_inc h (fun x19 e9 h => ?_)
          refine r_iinc (v := x19) (lv2 := [(3, .int (x19)), (0, .ref (ad (3))), (1, .ref (ad (h1))), (2, .int (x14))]) X dX5_tuneLine_116 3 rfl (by rw [e9]; rfl) (by decide) rfl ?_
          refine r_goto (tgt := 87) X dX5_tuneLine_119 (by decide) ?_
          exact r_sub [1, 2, 3, 0] rfl (hk87 x14 x19 m17 h)
        · refine r_iconst (v := (0)) X dX5_tuneLine_114 (by decide) ?_
          exact r_zret2 X rfl dX5_tuneLine_115 h
  have hL87 : ∀ (n : Nat), ∀ (x14 : Int32) (x15 : Int32) (m16 : Mm), lop (fun _ _ _ => none) (f_X5_tuneLine_B87 h1 ) n x14 x15 m16 = some (r2, mem2) → Jd p l e ({ frames := 8, cells := 0, slots := 0, locals := 176 }) s m args below meth c 4 (MQ below (PsI Lp ad cy dC dI r2 mem2 A) args s 0 0 A) A dC dI cy Lp ad m16 87 [(0, .ref (ad (3))), (1, .ref (ad (h1))), (2, .int (x14)), (3, .int (x15))] [] := by
    intro  n
    induction n with
    | zero => intro _ _ _ h; cases h
    | succ n ih => intro a0 a1 a2 h; exact hJ87  _ ih a0 a1 a2 h
  unfold f_X5_tuneLine at h
  refine r_aload_n X dX5_tuneLine_0 rfl 1 rfl ?_
  refine r_getIN X (k := 6) (Lp_N e1 rfl) e1 rfl (by decide) ui_7 (by decide) hl138 rfl dX5_tuneLine_1 ?_
  refine r_nmI h (fun x1 h => ?_)
  refine r_istore_n (lv2 := [(2, .int (x1)), (0, .ref (ad (3))), (1, .ref (ad (h1)))]) X dX5_tuneLine_4 rfl (by decide) rfl ?_
  refine r_iload_n X dX5_tuneLine_5 rfl 0 rfl ?_
  refine r_if_lt (tgt := 14) X dX5_tuneLine_6 (by decide) h (fun h => ?_) (fun h => ?_)
  · exact r_sub [1] rfl (hJ14 mem h)
  · refine r_iload_n X dX5_tuneLine_9 rfl 0 rfl ?_
    refine r_iconst (v := (5)) X dX5_tuneLine_10 (by decide) ?_
    refine r_icmp_lt (tgt := 20) X dX5_tuneLine_11 (by decide) h (fun h => ?_) (fun h => ?_)
    · refine r_aload_n X dX5_tuneLine_20 rfl 1 rfl ?_
      refine r_getB X (k := 0) (of := 2) rfl (Lp_N Lpk_3 rfl) Lpk_3 rfl (by decide) ui_5 (by decide) uw1_73 rfl dX5_tuneLine_21 ?_
      refine r_cVV (As := []) (rest := []) X (fun m9 hg => k_X9_advance hg) h (Lp_N Lpk_1 rfl) Lpk_1 rfl (by decide) uw3_156 uw3_24 uw3_25 uw1_2 uw3_26 rfl rfl dd_X9_advance ⟨Nat.le_of_ble_eq_true rfl, Nat.le_of_ble_eq_true rfl⟩ rfl (Nat.le_of_ble_eq_true rfl) dX5_tuneLine_24 rfl (fun m2 h => ?_)
      refine r_aload_n X dX5_tuneLine_27 rfl 1 rfl ?_
      refine r_aload_n X dX5_tuneLine_28 rfl 2 rfl ?_
      refine r_cVI (As := [.ref (ad (h1))]) (rest := []) X (fun r9 m9 hg => k_X5_mayBeNewName e1 hg) h (Lp_N Lpk_3 rfl) Lpk_3 rfl (by decide) uw3_157 uw3_159 us1_5 uw1_3 uw3_160 rfl rfl dd_X5_mayBeNewName ⟨Nat.le_of_ble_eq_true rfl, Nat.le_of_ble_eq_true rfl⟩ rfl (Nat.le_of_ble_eq_true rfl) dX5_tuneLine_29 rfl (fun x4 m3 h => ?_)
      refine r_if_ne (tgt := 37) X dX5_tuneLine_32 (by decide) h (fun h => ?_) (fun h => ?_)
      · refine r_aload_n X dX5_tuneLine_37 rfl 2 rfl ?_
        refine r_getFN X (k := 0) (of := 1) rfl (Lp_N e1 rfl) e1 rfl (by decide) ui_7 (by decide) hl144 rfl dX5_tuneLine_38 ?_
        refine r_iload_n X dX5_tuneLine_41 rfl 0 rfl ?_
        refine r_aload_n X dX5_tuneLine_42 rfl 1 rfl ?_
        refine r_getB X (k := 0) (of := 2) rfl (Lp_N Lpk_3 rfl) Lpk_3 rfl (by decide) ui_5 (by decide) uw1_73 rfl dX5_tuneLine_43 ?_
        refine r_getJN X (k := 6) (Lp_N Lpk_1 rfl) Lpk_1 rfl (by decide) ui_9 (by decide) hl72 rfl dX5_tuneLine_46 ?_
        refine r_last X (Lp_N (Lp_7_0 e1) rfl) (Lp_7_0 e1) h dX5_tuneLine_49 (fun h => ?_)
        refine r_nmM h (fun m5 h => ?_)
        refine r_aload_n X dX5_tuneLine_50 rfl 2 rfl ?_
        refine r_getFN X (k := 1) (of := 2) rfl (Lp_N e1 rfl) e1 rfl (by decide) ui_7 (by decide) hl148 rfl dX5_tuneLine_51 ?_
        refine r_iload_n X dX5_tuneLine_54 rfl 0 rfl ?_
        refine r_iconst (v := (0)) X dX5_tuneLine_55 (by decide) ?_
        refine r_iast X (Lp_N (Lp_7_1 e1) rfl) (Lp_7_1 e1) h dX5_tuneLine_56 (fun h => ?_)
        refine r_nmM h (fun m6 h => ?_)
        refine r_aload_n X dX5_tuneLine_57 rfl 2 rfl ?_
        refine r_dup X dX5_tuneLine_58 rfl ?_
        refine r_getIN X (k := 6) (Lp_N e1 rfl) e1 rfl (by decide) ui_7 (by decide) hl138 rfl dX5_tuneLine_59 ?_
        refine r_iconst (v := (1)) X dX5_tuneLine_62 (by decide) ?_
        refine r_iadd X dX5_tuneLine_63 ?_
        refine r_putIN X (k := 6) (Lp_N e1 rfl) e1 rfl (by decide) ui_7 (by decide) hl138 tyX7_ok nmX7 rfl rfl rfl dX5_tuneLine_64 ?_
        refine r_nmM h (fun m7 h => ?_)
        refine r_aload_n X dX5_tuneLine_67 rfl 1 rfl ?_
        refine r_getB X (k := 0) (of := 2) rfl (Lp_N Lpk_3 rfl) Lpk_3 rfl (by decide) ui_5 (by decide) uw1_73 rfl dX5_tuneLine_68 ?_
        refine r_cVV (As := []) (rest := []) X (fun m9 hg => k_X9_advance hg) h (Lp_N Lpk_1 rfl) Lpk_1 rfl (by decide) uw3_156 uw3_24 uw3_25 uw1_2 uw3_26 rfl rfl dd_X9_advance ⟨Nat.le_of_ble_eq_true rfl, Nat.le_of_ble_eq_true rfl⟩ rfl (Nat.le_of_ble_eq_true rfl) dX5_tuneLine_71 rfl (fun m8 h => ?_)
        refine r_aload_n X dX5_tuneLine_74 rfl 1 rfl ?_
        refine r_aload_n X dX5_tuneLine_75 rfl 2 rfl ?_
        refine r_iload_n X dX5_tuneLine_76 rfl 0 rfl ?_
        refine r_cVI (As := [.ref (ad (h1)), .int (x1)]) (rest := []) X (fun r9 m9 hg => k_X5_takeKey e1 hg) h (Lp_N Lpk_3 rfl) Lpk_3 rfl (by decide) uw3_173 uw3_175 us1_7 uw1_3 uw3_176 rfl rfl dd_X5_takeKey ⟨Nat.le_of_ble_eq_true rfl, Nat.le_of_ble_eq_true rfl⟩ rfl (Nat.le_of_ble_eq_true rfl) dX5_tuneLine_77 rfl (fun x10 m9 h => ?_)
        refine r_if_ne (tgt := 85) X dX5_tuneLine_80 (by decide) h (fun h => ?_) (fun h => ?_)
        · refine r_iconst (v := (0)) X dX5_tuneLine_85 (by decide) ?_
          refine r_istore_n (lv2 := [(3, .int ((0))), (2, .int (x1)), (0, .ref (ad (3))), (1, .ref (ad (h1)))]) X dX5_tuneLine_86 rfl (by decide) rfl ?_
          exact r_sub [2, 3, 1, 0] rfl (hL87 4000 x1 ((0)) m9 h)
        · refine r_iconst (v := (0)) X dX5_tuneLine_83 (by decide) ?_
          exact r_zret2 X rfl dX5_tuneLine_84 h
      · refine r_iconst (v := (0)) X dX5_tuneLine_35 (by decide) ?_
        exact r_zret2 X rfl dX5_tuneLine_36 h
    · exact r_sub [1] rfl (hJ14 mem h)
noncomputable def f_X5_waitsTold (h1 : Nat) (mem : Mm) : Option (Int32 × Mm) :=
  bdI (f_X5_takeNumber ((0)) ((59)) mem) fun x2 m1 => bnd (sI m1 h1 8 (gI m1 3 1)) fun m3 => grd (bok x2) (some (x2, m3))
theorem dd_X5_waitsTold : yX5_waitsTold.cls = RX5 ∧ yX5_waitsTold.cls ≠ "java/lang/invoke/MethodHandle" ∧ yX5_waitsTold.cls ≠ "java/lang/invoke/VarHandle" ∧ (parseMethodDescriptor yX5_waitsTold.desc).map (fun d => d.parameters.length) = some 1 := by decide +kernel
set_option maxHeartbeats 4000000 in
set_option maxRecDepth 100000 in
theorem k_X5_waitsTold {l : Launch} {ad : Nat → Nat} {cy : Nat → ClassId} {dC : Nat → ClassId} {dI : Nat → Nat → Nat} {ks : (Nat → Nat) × (Nat → Nat)} {h1 : Nat} {mem : Mm} {r2 : Int32} {mem2 : Mm} (e1 : Lp.1 h1 = 7) (h : f_X5_waitsTold h1 mem = some (r2, mem2)) : CtI l Lp ad cy dC dI ks yX5_waitsTold cX5_waitsTold 3 (some .boolean) ({ frames := 7, cells := 0, slots := 0, locals := 153 }) [.ref (ad (3)), .ref (ad (h1))] mem r2 mem2 := by
  refine CtI.of (cc := cX5_waitsTold) (maxL := 3) (ret := (some .boolean)) (own := RX5) rfl (by decide) (Nat.le_of_ble_eq_true rfl) ?_
  intro p e s m args below meth c A X
  have hts := X.2.2.2.2.1
  have hl123 := X.2.2.2.2.2.2.1 (.fieldLinkNest "StationPiano$Reader" 123 "StationPiano$Station" "waits" "I" "StationPiano") (List.mem_of_getElem? (i := 43) rfl)
  unfold f_X5_waitsTold at h
  refine r_aload_n X dX5_waitsTold_0 rfl 0 rfl ?_
  refine r_iconst (v := (0)) X dX5_waitsTold_1 (by decide) ?_
  refine r_bipush (v := (59)) X dX5_waitsTold_2 (by decide) ?_
  refine r_cVI (As := [.int ((0)), .int ((59))]) (rest := []) X (fun r9 m9 hg => k_X5_takeNumber hg) h (Lp_N Lpk_3 rfl) Lpk_3 rfl (by decide) uw3_177 uw3_179 us1_8 uw1_3 uw3_180 rfl rfl dd_X5_takeNumber ⟨Nat.le_of_ble_eq_true rfl, Nat.le_of_ble_eq_true rfl⟩ rfl (Nat.le_of_ble_eq_true rfl) dX5_waitsTold_4 rfl (fun x2 m1 h => ?_)
  refine r_istore_n (lv2 := [(2, .int (x2)), (0, .ref (ad (3))), (1, .ref (ad (h1)))]) X dX5_waitsTold_7 rfl (by decide) rfl ?_
  refine r_aload_n X dX5_waitsTold_8 rfl 2 rfl ?_
  refine r_aload_n X dX5_waitsTold_9 rfl 1 rfl ?_
  refine r_getI X (k := 1) (Lp_N Lpk_3 rfl) Lpk_3 rfl (by decide) ui_5 (by decide) uw1_74 rfl dX5_waitsTold_10 ?_
  refine r_putIN X (k := 8) (Lp_N e1 rfl) e1 rfl (by decide) ui_7 (by decide) hl123 tyX7_ok nmX7 rfl rfl rfl dX5_waitsTold_13 ?_
  refine r_nmM h (fun m3 h => ?_)
  refine r_iload_n X dX5_waitsTold_16 rfl 0 rfl ?_
  exact r_zret2 X rfl dX5_waitsTold_17 h
noncomputable def f_X5_stationLine_J318 (h1 : Nat) (m45 : Mm) : Option (Int32 × Mm) :=
  bdI (f_X5_wrong ((1)) m45) fun x47 m46 => grd (bok x47) (some (x47, m46))
noncomputable def f_X5_stationLine (h1 : Nat) (mem : Mm) : Option (Int32 × Mm) :=
  if (gI mem 1 2) = (0) then (bdI (f_X5_tuneLine h1 mem) fun x2 m1 => if x2 = 0 then (grd (bok ((0))) (some ((0), m1))) else (bdI (f_X5_take ((59)) m1) fun x4 m3 => if x4 = 0 then (grd (bok ((0))) (some ((0), m3))) else (grd (bok ((1))) (some ((1), m3))))) else (if (gI mem 1 2) = (1) then (bdI (f_X5_passerLine h1 mem) fun x6 m5 => if x6 = 0 then (grd (bok ((0))) (some ((0), m5))) else (bdI (f_X5_take ((59)) m5) fun x8 m7 => if x8 = 0 then (grd (bok ((0))) (some ((0), m7))) else (grd (bok ((1))) (some ((1), m7))))) else (if (gI mem 1 2) = (2) then (f_X5_stationLine_J318 h1 mem) else (if (gI mem 1 2) = (3) then (f_X5_stationLine_J318 h1 mem) else (if (gI mem 1 2) = (4) then (f_X5_stationLine_J318 h1 mem) else (if (gI mem 1 2) = (5) then (f_X5_stationLine_J318 h1 mem) else (if (gI mem 1 2) = (6) then (f_X5_stationLine_J318 h1 mem) else (if (gI mem 1 2) = (7) then (bdI (f_X5_toldFirst h1 mem) fun x10 m9 => if x10 = 0 then (grd (bok ((0))) (some ((0), m9))) else (bdI (f_X5_waitsTold h1 m9) fun x12 m11 => if x12 = 0 then (grd (bok ((0))) (some ((0), m11))) else (bdI (f_X5_take ((59)) m11) fun x14 m13 => if x14 = 0 then (grd (bok ((0))) (some ((0), m13))) else (grd (bok ((1))) (some ((1), m13)))))) else (if (gI mem 1 2) = (8) then (bdI (f_X5_toldFirst h1 mem) fun x16 m15 => if x16 = 0 then (grd (bok ((0))) (some ((0), m15))) else (bdI (f_X5_eachTold h1 m15) fun x18 m17 => if x18 = 0 then (grd (bok ((0))) (some ((0), m17))) else (bdI (f_X5_take ((59)) m17) fun x20 m19 => if x20 = 0 then (grd (bok ((0))) (some ((0), m19))) else (grd (bok ((1))) (some ((1), m19)))))) else (if (gI mem 1 2) = (9) then (bdI (f_X5_toldFirst h1 mem) fun x22 m21 => if x22 = 0 then (grd (bok ((0))) (some ((0), m21))) else (bdI (f_X5_hoursTold h1 m21) fun x24 m23 => if x24 = 0 then (grd (bok ((0))) (some ((0), m23))) else (bdI (f_X5_take ((59)) m23) fun x26 m25 => if x26 = 0 then (grd (bok ((0))) (some ((0), m25))) else (grd (bok ((1))) (some ((1), m25)))))) else (if (gI mem 1 2) = (10) then (f_X5_stationLine_J318 h1 mem) else (if (gI mem 1 2) = (11) then (bdI (f_X5_toldFirst h1 mem) fun x28 m27 => if x28 = 0 then (grd (bok ((0))) (some ((0), m27))) else (bdI (f_X5_priceTold h1 m27) fun x30 m29 => if x30 = 0 then (grd (bok ((0))) (some ((0), m29))) else (bdI (f_X5_take ((59)) m29) fun x32 m31 => if x32 = 0 then (grd (bok ((0))) (some ((0), m31))) else (grd (bok ((1))) (some ((1), m31)))))) else (if (gI mem 1 2) = (12) then (bdI (f_X5_toldFirst h1 mem) fun x34 m33 => if x34 = 0 then (grd (bok ((0))) (some ((0), m33))) else (bdI (f_X5_expression (h1 + 10) ((0)) ((0)) m33) fun x36 m35 => if x36 = 0 then (grd (bok ((0))) (some ((0), m35))) else (bdI (f_X5_take ((59)) m35) fun x38 m37 => if x38 = 0 then (grd (bok ((0))) (some ((0), m37))) else (grd (bok ((1))) (some ((1), m37)))))) else (if (gI mem 1 2) = (13) then (bdI (f_X5_toldFirst h1 mem) fun x40 m39 => if x40 = 0 then (grd (bok ((0))) (some ((0), m39))) else (bdI (f_X5_expression (h1 + 13) ((0)) ((0)) m39) fun x42 m41 => if x42 = 0 then (grd (bok ((0))) (some ((0), m41))) else (bdI (f_X5_take ((59)) m41) fun x44 m43 => if x44 = 0 then (grd (bok ((0))) (some ((0), m43))) else (grd (bok ((1))) (some ((1), m43)))))) else (f_X5_stationLine_J318 h1 mem))))))))))))))
theorem dd_X5_stationLine : yX5_stationLine.cls = RX5 ∧ yX5_stationLine.cls ≠ "java/lang/invoke/MethodHandle" ∧ yX5_stationLine.cls ≠ "java/lang/invoke/VarHandle" ∧ (parseMethodDescriptor yX5_stationLine.desc).map (fun d => d.parameters.length) = some 1 := by decide +kernel
set_option maxHeartbeats 4000000 in
set_option maxRecDepth 100000 in
theorem k_X5_stationLine {l : Launch} {ad : Nat → Nat} {cy : Nat → ClassId} {dC : Nat → ClassId} {dI : Nat → Nat → Nat} {ks : (Nat → Nat) × (Nat → Nat)} {h1 : Nat} {mem : Mm} {r2 : Int32} {mem2 : Mm} (e1 : Lp.1 h1 = 7) (h : f_X5_stationLine h1 mem = some (r2, mem2)) : CtI l Lp ad cy dC dI ks yX5_stationLine cX5_stationLine 2 (some .boolean) ({ frames := 73, cells := 0, slots := 0, locals := 4027 }) [.ref (ad (3)), .ref (ad (h1))] mem r2 mem2 := by
  refine CtI.of (cc := cX5_stationLine) (maxL := 2) (ret := (some .boolean)) (own := RX5) rfl (by decide) (Nat.le_of_ble_eq_true rfl) ?_
  intro p e s m args below meth c A X
  have hts := X.2.2.2.2.1
  have hl29 := X.2.2.2.2.2.2.1 (.fieldLinkNest "StationPiano$Reader" 29 "StationPiano$Tape" "token" "I" "StationPiano") (List.mem_of_getElem? (i := 1) rfl)
  have hl109 := X.2.2.2.2.2.2.1 (.fieldLinkNest "StationPiano$Reader" 109 "StationPiano$Station" "joys" "LStationPiano$Law;" "StationPiano") (List.mem_of_getElem? (i := 34) rfl)
  have hl117 := X.2.2.2.2.2.2.1 (.fieldLinkNest "StationPiano$Reader" 117 "StationPiano$Station" "wears" "LStationPiano$Law;" "StationPiano") (List.mem_of_getElem? (i := 35) rfl)
  have hJ318 : ∀ (m45 : Mm), f_X5_stationLine_J318 h1 m45 = some (r2, mem2) → Jd p l e ({ frames := 73, cells := 0, slots := 0, locals := 4027 }) s m args below meth c 2 (MQ below (PsI Lp ad cy dC dI r2 mem2 A) args s 0 0 A) A dC dI cy Lp ad m45 318 [(0, .ref (ad (3)))] [] := by
    intro m45 h
    unfold f_X5_stationLine_J318 at h
    refine r_aload_n X dX5_stationLine_318 rfl 0 rfl ?_
    refine r_iconst (v := (1)) X dX5_stationLine_319 (by decide) ?_
    refine r_cVI (As := [.int ((1))]) (rest := []) X (fun r9 m9 hg => k_X5_wrong hg) h (Lp_N Lpk_3 rfl) Lpk_3 rfl (by decide) uw3_152 uw3_154 us1_4 uw1_3 uw3_155 rfl rfl dd_X5_wrong ⟨Nat.le_of_ble_eq_true rfl, Nat.le_of_ble_eq_true rfl⟩ rfl (Nat.le_of_ble_eq_true rfl) dX5_stationLine_320 rfl (fun x47 m46 h => ?_)
    exact r_zret2 X rfl dX5_stationLine_323 h
  unfold f_X5_stationLine at h
  refine r_aload_n X dX5_stationLine_0 rfl 0 rfl ?_
  refine r_getB X (k := 0) (of := 2) rfl (Lp_N Lpk_3 rfl) Lpk_3 rfl (by decide) ui_5 (by decide) uw1_73 rfl dX5_stationLine_1 ?_
  refine r_getIN X (k := 2) (Lp_N Lpk_1 rfl) Lpk_1 rfl (by decide) ui_9 (by decide) hl29 rfl dX5_stationLine_4 ?_
  by_cases c7_0 : (gI mem 1 2) = (0)
  · have h := ite_p c7_0 h
    refine r_tin (off := 69) (tgt := 76) X dX5_stationLine_7 (by rw [c7_0]; decide) (by rw [c7_0]; decide) (by rw [c7_0]; rfl) (by decide) ?_
    refine r_aload_n X dX5_stationLine_76 rfl 0 rfl ?_
    refine r_aload_n X dX5_stationLine_77 rfl 1 rfl ?_
    refine r_cVI (As := [.ref (ad (h1))]) (rest := []) X (fun r9 m9 hg => k_X5_tuneLine e1 hg) h (Lp_N Lpk_3 rfl) Lpk_3 rfl (by decide) uw3_148 uw3_150 us1_3 uw1_3 uw3_151 rfl rfl dd_X5_tuneLine ⟨Nat.le_of_ble_eq_true rfl, Nat.le_of_ble_eq_true rfl⟩ rfl (Nat.le_of_ble_eq_true rfl) dX5_stationLine_78 rfl (fun x2 m1 h => ?_)
    refine r_if_eq (tgt := 97) X dX5_stationLine_81 (by decide) h (fun h => ?_) (fun h => ?_)
    · refine r_iconst (v := (0)) X dX5_stationLine_97 (by decide) ?_
      exact r_zret2 X rfl dX5_stationLine_98 h
    · refine r_aload_n X dX5_stationLine_84 rfl 0 rfl ?_
      refine r_bipush (v := (59)) X dX5_stationLine_85 (by decide) ?_
      refine r_cVI (As := [.int ((59))]) (rest := []) X (fun r9 m9 hg => k_X5_take hg) h (Lp_N Lpk_3 rfl) Lpk_3 rfl (by decide) uw3_181 uw3_183 us1_9 uw1_3 uw3_184 rfl rfl dd_X5_take ⟨Nat.le_of_ble_eq_true rfl, Nat.le_of_ble_eq_true rfl⟩ rfl (Nat.le_of_ble_eq_true rfl) dX5_stationLine_87 rfl (fun x4 m3 h => ?_)
      refine r_if_eq (tgt := 97) X dX5_stationLine_90 (by decide) h (fun h => ?_) (fun h => ?_)
      · refine r_iconst (v := (0)) X dX5_stationLine_97 (by decide) ?_
        exact r_zret2 X rfl dX5_stationLine_98 h
      · refine r_iconst (v := (1)) X dX5_stationLine_93 (by decide) ?_
        refine r_goto (tgt := 98) X dX5_stationLine_94 (by decide) ?_
        exact r_zret2 X rfl dX5_stationLine_98 h
  have h := ite_n c7_0 h
  by_cases c7_1 : (gI mem 1 2) = (1)
  · have h := ite_p c7_1 h
    refine r_tin (off := 92) (tgt := 99) X dX5_stationLine_7 (by rw [c7_1]; decide) (by rw [c7_1]; decide) (by rw [c7_1]; rfl) (by decide) ?_
    refine r_aload_n X dX5_stationLine_99 rfl 0 rfl ?_
    refine r_aload_n X dX5_stationLine_100 rfl 1 rfl ?_
    refine r_cVI (As := [.ref (ad (h1))]) (rest := []) X (fun r9 m9 hg => k_X5_passerLine e1 hg) h (Lp_N Lpk_3 rfl) Lpk_3 rfl (by decide) uw3_185 uw3_187 us1_10 uw1_3 uw3_188 rfl rfl dd_X5_passerLine ⟨Nat.le_of_ble_eq_true rfl, Nat.le_of_ble_eq_true rfl⟩ rfl (Nat.le_of_ble_eq_true rfl) dX5_stationLine_101 rfl (fun x6 m5 h => ?_)
    refine r_if_eq (tgt := 120) X dX5_stationLine_104 (by decide) h (fun h => ?_) (fun h => ?_)
    · refine r_iconst (v := (0)) X dX5_stationLine_120 (by decide) ?_
      exact r_zret2 X rfl dX5_stationLine_121 h
    · refine r_aload_n X dX5_stationLine_107 rfl 0 rfl ?_
      refine r_bipush (v := (59)) X dX5_stationLine_108 (by decide) ?_
      refine r_cVI (As := [.int ((59))]) (rest := []) X (fun r9 m9 hg => k_X5_take hg) h (Lp_N Lpk_3 rfl) Lpk_3 rfl (by decide) uw3_181 uw3_183 us1_9 uw1_3 uw3_184 rfl rfl dd_X5_take ⟨Nat.le_of_ble_eq_true rfl, Nat.le_of_ble_eq_true rfl⟩ rfl (Nat.le_of_ble_eq_true rfl) dX5_stationLine_110 rfl (fun x8 m7 h => ?_)
      refine r_if_eq (tgt := 120) X dX5_stationLine_113 (by decide) h (fun h => ?_) (fun h => ?_)
      · refine r_iconst (v := (0)) X dX5_stationLine_120 (by decide) ?_
        exact r_zret2 X rfl dX5_stationLine_121 h
      · refine r_iconst (v := (1)) X dX5_stationLine_116 (by decide) ?_
        refine r_goto (tgt := 121) X dX5_stationLine_117 (by decide) ?_
        exact r_zret2 X rfl dX5_stationLine_121 h
  have h := ite_n c7_1 h
  by_cases c7_2 : (gI mem 1 2) = (2)
  · have h := ite_p c7_2 h
    refine r_tin (off := 311) (tgt := 318) X dX5_stationLine_7 (by rw [c7_2]; decide) (by rw [c7_2]; decide) (by rw [c7_2]; rfl) (by decide) ?_
    exact r_sub [0] rfl (hJ318 mem h)
  have h := ite_n c7_2 h
  by_cases c7_3 : (gI mem 1 2) = (3)
  · have h := ite_p c7_3 h
    refine r_tin (off := 311) (tgt := 318) X dX5_stationLine_7 (by rw [c7_3]; decide) (by rw [c7_3]; decide) (by rw [c7_3]; rfl) (by decide) ?_
    exact r_sub [0] rfl (hJ318 mem h)
  have h := ite_n c7_3 h
  by_cases c7_4 : (gI mem 1 2) = (4)
  · have h := ite_p c7_4 h
    refine r_tin (off := 311) (tgt := 318) X dX5_stationLine_7 (by rw [c7_4]; decide) (by rw [c7_4]; decide) (by rw [c7_4]; rfl) (by decide) ?_
    exact r_sub [0] rfl (hJ318 mem h)
  have h := ite_n c7_4 h
  by_cases c7_5 : (gI mem 1 2) = (5)
  · have h := ite_p c7_5 h
    refine r_tin (off := 311) (tgt := 318) X dX5_stationLine_7 (by rw [c7_5]; decide) (by rw [c7_5]; decide) (by rw [c7_5]; rfl) (by decide) ?_
    exact r_sub [0] rfl (hJ318 mem h)
  have h := ite_n c7_5 h
  by_cases c7_6 : (gI mem 1 2) = (6)
  · have h := ite_p c7_6 h
    refine r_tin (off := 311) (tgt := 318) X dX5_stationLine_7 (by rw [c7_6]; decide) (by rw [c7_6]; decide) (by rw [c7_6]; rfl) (by decide) ?_
    exact r_sub [0] rfl (hJ318 mem h)
  have h := ite_n c7_6 h
  by_cases c7_7 : (gI mem 1 2) = (7)
  · have h := ite_p c7_7 h
    refine r_tin (off := 115) (tgt := 122) X dX5_stationLine_7 (by rw [c7_7]; decide) (by rw [c7_7]; decide) (by rw [c7_7]; rfl) (by decide) ?_
    refine r_aload_n X dX5_stationLine_122 rfl 0 rfl ?_
    refine r_aload_n X dX5_stationLine_123 rfl 1 rfl ?_
    refine r_cVI (As := [.ref (ad (h1))]) (rest := []) X (fun r9 m9 hg => k_X5_toldFirst e1 hg) h (Lp_N Lpk_3 rfl) Lpk_3 rfl (by decide) uw3_207 uw3_209 us1_14 uw1_3 uw3_210 rfl rfl dd_X5_toldFirst ⟨Nat.le_of_ble_eq_true rfl, Nat.le_of_ble_eq_true rfl⟩ rfl (Nat.le_of_ble_eq_true rfl) dX5_stationLine_124 rfl (fun x10 m9 h => ?_)
    refine r_if_eq (tgt := 151) X dX5_stationLine_127 (by decide) h (fun h => ?_) (fun h => ?_)
    · refine r_iconst (v := (0)) X dX5_stationLine_151 (by decide) ?_
      exact r_zret2 X rfl dX5_stationLine_152 h
    · refine r_aload_n X dX5_stationLine_130 rfl 0 rfl ?_
      refine r_aload_n X dX5_stationLine_131 rfl 1 rfl ?_
      refine r_cVI (As := [.ref (ad (h1))]) (rest := []) X (fun r9 m9 hg => k_X5_waitsTold e1 hg) h (Lp_N Lpk_3 rfl) Lpk_3 rfl (by decide) uw3_211 uw3_213 us1_15 uw1_3 uw3_214 rfl rfl dd_X5_waitsTold ⟨Nat.le_of_ble_eq_true rfl, Nat.le_of_ble_eq_true rfl⟩ rfl (Nat.le_of_ble_eq_true rfl) dX5_stationLine_132 rfl (fun x12 m11 h => ?_)
      refine r_if_eq (tgt := 151) X dX5_stationLine_135 (by decide) h (fun h => ?_) (fun h => ?_)
      · refine r_iconst (v := (0)) X dX5_stationLine_151 (by decide) ?_
        exact r_zret2 X rfl dX5_stationLine_152 h
      · refine r_aload_n X dX5_stationLine_138 rfl 0 rfl ?_
        refine r_bipush (v := (59)) X dX5_stationLine_139 (by decide) ?_
        refine r_cVI (As := [.int ((59))]) (rest := []) X (fun r9 m9 hg => k_X5_take hg) h (Lp_N Lpk_3 rfl) Lpk_3 rfl (by decide) uw3_181 uw3_183 us1_9 uw1_3 uw3_184 rfl rfl dd_X5_take ⟨Nat.le_of_ble_eq_true rfl, Nat.le_of_ble_eq_true rfl⟩ rfl (Nat.le_of_ble_eq_true rfl) dX5_stationLine_141 rfl (fun x14 m13 h => ?_)
        refine r_if_eq (tgt := 151) X dX5_stationLine_144 (by decide) h (fun h => ?_) (fun h => ?_)
        · refine r_iconst (v := (0)) X dX5_stationLine_151 (by decide) ?_
          exact r_zret2 X rfl dX5_stationLine_152 h
        · refine r_iconst (v := (1)) X dX5_stationLine_147 (by decide) ?_
          refine r_goto (tgt := 152) X dX5_stationLine_148 (by decide) ?_
          exact r_zret2 X rfl dX5_stationLine_152 h
  have h := ite_n c7_7 h
  by_cases c7_8 : (gI mem 1 2) = (8)
  · have h := ite_p c7_8 h
    refine r_tin (off := 146) (tgt := 153) X dX5_stationLine_7 (by rw [c7_8]; decide) (by rw [c7_8]; decide) (by rw [c7_8]; rfl) (by decide) ?_
    refine r_aload_n X dX5_stationLine_153 rfl 0 rfl ?_
    refine r_aload_n X dX5_stationLine_154 rfl 1 rfl ?_
    refine r_cVI (As := [.ref (ad (h1))]) (rest := []) X (fun r9 m9 hg => k_X5_toldFirst e1 hg) h (Lp_N Lpk_3 rfl) Lpk_3 rfl (by decide) uw3_207 uw3_209 us1_14 uw1_3 uw3_210 rfl rfl dd_X5_toldFirst ⟨Nat.le_of_ble_eq_true rfl, Nat.le_of_ble_eq_true rfl⟩ rfl (Nat.le_of_ble_eq_true rfl) dX5_stationLine_155 rfl (fun x16 m15 h => ?_)
    refine r_if_eq (tgt := 182) X dX5_stationLine_158 (by decide) h (fun h => ?_) (fun h => ?_)
    · refine r_iconst (v := (0)) X dX5_stationLine_182 (by decide) ?_
      exact r_zret2 X rfl dX5_stationLine_183 h
    · refine r_aload_n X dX5_stationLine_161 rfl 0 rfl ?_
      refine r_aload_n X dX5_stationLine_162 rfl 1 rfl ?_
      refine r_cVI (As := [.ref (ad (h1))]) (rest := []) X (fun r9 m9 hg => k_X5_eachTold e1 hg) h (Lp_N Lpk_3 rfl) Lpk_3 rfl (by decide) uw3_215 uw3_217 us2_0 uw1_3 uw3_218 rfl rfl dd_X5_eachTold ⟨Nat.le_of_ble_eq_true rfl, Nat.le_of_ble_eq_true rfl⟩ rfl (Nat.le_of_ble_eq_true rfl) dX5_stationLine_163 rfl (fun x18 m17 h => ?_)
      refine r_if_eq (tgt := 182) X dX5_stationLine_166 (by decide) h (fun h => ?_) (fun h => ?_)
      · refine r_iconst (v := (0)) X dX5_stationLine_182 (by decide) ?_
        exact r_zret2 X rfl dX5_stationLine_183 h
      · refine r_aload_n X dX5_stationLine_169 rfl 0 rfl ?_
        refine r_bipush (v := (59)) X dX5_stationLine_170 (by decide) ?_
        refine r_cVI (As := [.int ((59))]) (rest := []) X (fun r9 m9 hg => k_X5_take hg) h (Lp_N Lpk_3 rfl) Lpk_3 rfl (by decide) uw3_181 uw3_183 us1_9 uw1_3 uw3_184 rfl rfl dd_X5_take ⟨Nat.le_of_ble_eq_true rfl, Nat.le_of_ble_eq_true rfl⟩ rfl (Nat.le_of_ble_eq_true rfl) dX5_stationLine_172 rfl (fun x20 m19 h => ?_)
        refine r_if_eq (tgt := 182) X dX5_stationLine_175 (by decide) h (fun h => ?_) (fun h => ?_)
        · refine r_iconst (v := (0)) X dX5_stationLine_182 (by decide) ?_
          exact r_zret2 X rfl dX5_stationLine_183 h
        · refine r_iconst (v := (1)) X dX5_stationLine_178 (by decide) ?_
          refine r_goto (tgt := 183) X dX5_stationLine_179 (by decide) ?_
          exact r_zret2 X rfl dX5_stationLine_183 h
  have h := ite_n c7_8 h
  by_cases c7_9 : (gI mem 1 2) = (9)
  · have h := ite_p c7_9 h
    refine r_tin (off := 177) (tgt := 184) X dX5_stationLine_7 (by rw [c7_9]; decide) (by rw [c7_9]; decide) (by rw [c7_9]; rfl) (by decide) ?_
    refine r_aload_n X dX5_stationLine_184 rfl 0 rfl ?_
    refine r_aload_n X dX5_stationLine_185 rfl 1 rfl ?_
    refine r_cVI (As := [.ref (ad (h1))]) (rest := []) X (fun r9 m9 hg => k_X5_toldFirst e1 hg) h (Lp_N Lpk_3 rfl) Lpk_3 rfl (by decide) uw3_207 uw3_209 us1_14 uw1_3 uw3_210 rfl rfl dd_X5_toldFirst ⟨Nat.le_of_ble_eq_true rfl, Nat.le_of_ble_eq_true rfl⟩ rfl (Nat.le_of_ble_eq_true rfl) dX5_stationLine_186 rfl (fun x22 m21 h => ?_)
    refine r_if_eq (tgt := 213) X dX5_stationLine_189 (by decide) h (fun h => ?_) (fun h => ?_)
    · refine r_iconst (v := (0)) X dX5_stationLine_213 (by decide) ?_
      exact r_zret2 X rfl dX5_stationLine_214 h
    · refine r_aload_n X dX5_stationLine_192 rfl 0 rfl ?_
      refine r_aload_n X dX5_stationLine_193 rfl 1 rfl ?_
      refine r_cVI (As := [.ref (ad (h1))]) (rest := []) X (fun r9 m9 hg => k_X5_hoursTold e1 hg) h (Lp_N Lpk_3 rfl) Lpk_3 rfl (by decide) uw3_219 uw3_221 us2_1 uw1_3 uw3_222 rfl rfl dd_X5_hoursTold ⟨Nat.le_of_ble_eq_true rfl, Nat.le_of_ble_eq_true rfl⟩ rfl (Nat.le_of_ble_eq_true rfl) dX5_stationLine_194 rfl (fun x24 m23 h => ?_)
      refine r_if_eq (tgt := 213) X dX5_stationLine_197 (by decide) h (fun h => ?_) (fun h => ?_)
      · refine r_iconst (v := (0)) X dX5_stationLine_213 (by decide) ?_
        exact r_zret2 X rfl dX5_stationLine_214 h
      · refine r_aload_n X dX5_stationLine_200 rfl 0 rfl ?_
        refine r_bipush (v := (59)) X dX5_stationLine_201 (by decide) ?_
        refine r_cVI (As := [.int ((59))]) (rest := []) X (fun r9 m9 hg => k_X5_take hg) h (Lp_N Lpk_3 rfl) Lpk_3 rfl (by decide) uw3_181 uw3_183 us1_9 uw1_3 uw3_184 rfl rfl dd_X5_take ⟨Nat.le_of_ble_eq_true rfl, Nat.le_of_ble_eq_true rfl⟩ rfl (Nat.le_of_ble_eq_true rfl) dX5_stationLine_203 rfl (fun x26 m25 h => ?_)
        refine r_if_eq (tgt := 213) X dX5_stationLine_206 (by decide) h (fun h => ?_) (fun h => ?_)
        · refine r_iconst (v := (0)) X dX5_stationLine_213 (by decide) ?_
          exact r_zret2 X rfl dX5_stationLine_214 h
        · refine r_iconst (v := (1)) X dX5_stationLine_209 (by decide) ?_
          refine r_goto (tgt := 214) X dX5_stationLine_210 (by decide) ?_
          exact r_zret2 X rfl dX5_stationLine_214 h
  have h := ite_n c7_9 h
  by_cases c7_10 : (gI mem 1 2) = (10)
  · have h := ite_p c7_10 h
    refine r_tin (off := 311) (tgt := 318) X dX5_stationLine_7 (by rw [c7_10]; decide) (by rw [c7_10]; decide) (by rw [c7_10]; rfl) (by decide) ?_
    exact r_sub [0] rfl (hJ318 mem h)
  have h := ite_n c7_10 h
  by_cases c7_11 : (gI mem 1 2) = (11)
  · have h := ite_p c7_11 h
    refine r_tin (off := 208) (tgt := 215) X dX5_stationLine_7 (by rw [c7_11]; decide) (by rw [c7_11]; decide) (by rw [c7_11]; rfl) (by decide) ?_
    refine r_aload_n X dX5_stationLine_215 rfl 0 rfl ?_
    refine r_aload_n X dX5_stationLine_216 rfl 1 rfl ?_
    refine r_cVI (As := [.ref (ad (h1))]) (rest := []) X (fun r9 m9 hg => k_X5_toldFirst e1 hg) h (Lp_N Lpk_3 rfl) Lpk_3 rfl (by decide) uw3_207 uw3_209 us1_14 uw1_3 uw3_210 rfl rfl dd_X5_toldFirst ⟨Nat.le_of_ble_eq_true rfl, Nat.le_of_ble_eq_true rfl⟩ rfl (Nat.le_of_ble_eq_true rfl) dX5_stationLine_217 rfl (fun x28 m27 h => ?_)
    refine r_if_eq (tgt := 244) X dX5_stationLine_220 (by decide) h (fun h => ?_) (fun h => ?_)
    · refine r_iconst (v := (0)) X dX5_stationLine_244 (by decide) ?_
      exact r_zret2 X rfl dX5_stationLine_245 h
    · refine r_aload_n X dX5_stationLine_223 rfl 0 rfl ?_
      refine r_aload_n X dX5_stationLine_224 rfl 1 rfl ?_
      refine r_cVI (As := [.ref (ad (h1))]) (rest := []) X (fun r9 m9 hg => k_X5_priceTold e1 hg) h (Lp_N Lpk_3 rfl) Lpk_3 rfl (by decide) uw3_223 uw3_225 us2_2 uw1_3 uw3_226 rfl rfl dd_X5_priceTold ⟨Nat.le_of_ble_eq_true rfl, Nat.le_of_ble_eq_true rfl⟩ rfl (Nat.le_of_ble_eq_true rfl) dX5_stationLine_225 rfl (fun x30 m29 h => ?_)
      refine r_if_eq (tgt := 244) X dX5_stationLine_228 (by decide) h (fun h => ?_) (fun h => ?_)
      · refine r_iconst (v := (0)) X dX5_stationLine_244 (by decide) ?_
        exact r_zret2 X rfl dX5_stationLine_245 h
      · refine r_aload_n X dX5_stationLine_231 rfl 0 rfl ?_
        refine r_bipush (v := (59)) X dX5_stationLine_232 (by decide) ?_
        refine r_cVI (As := [.int ((59))]) (rest := []) X (fun r9 m9 hg => k_X5_take hg) h (Lp_N Lpk_3 rfl) Lpk_3 rfl (by decide) uw3_181 uw3_183 us1_9 uw1_3 uw3_184 rfl rfl dd_X5_take ⟨Nat.le_of_ble_eq_true rfl, Nat.le_of_ble_eq_true rfl⟩ rfl (Nat.le_of_ble_eq_true rfl) dX5_stationLine_234 rfl (fun x32 m31 h => ?_)
        refine r_if_eq (tgt := 244) X dX5_stationLine_237 (by decide) h (fun h => ?_) (fun h => ?_)
        · refine r_iconst (v := (0)) X dX5_stationLine_244 (by decide) ?_
          exact r_zret2 X rfl dX5_stationLine_245 h
        · refine r_iconst (v := (1)) X dX5_stationLine_240 (by decide) ?_
          refine r_goto (tgt := 245) X dX5_stationLine_241 (by decide) ?_
          exact r_zret2 X rfl dX5_stationLine_245 h
  have h := ite_n c7_11 h
  by_cases c7_12 : (gI mem 1 2) = (12)
  · have h := ite_p c7_12 h
    refine r_tin (off := 239) (tgt := 246) X dX5_stationLine_7 (by rw [c7_12]; decide) (by rw [c7_12]; decide) (by rw [c7_12]; rfl) (by decide) ?_
    refine r_aload_n X dX5_stationLine_246 rfl 0 rfl ?_
    refine r_aload_n X dX5_stationLine_247 rfl 1 rfl ?_
    refine r_cVI (As := [.ref (ad (h1))]) (rest := []) X (fun r9 m9 hg => k_X5_toldFirst e1 hg) h (Lp_N Lpk_3 rfl) Lpk_3 rfl (by decide) uw3_207 uw3_209 us1_14 uw1_3 uw3_210 rfl rfl dd_X5_toldFirst ⟨Nat.le_of_ble_eq_true rfl, Nat.le_of_ble_eq_true rfl⟩ rfl (Nat.le_of_ble_eq_true rfl) dX5_stationLine_248 rfl (fun x34 m33 h => ?_)
    refine r_if_eq (tgt := 280) X dX5_stationLine_251 (by decide) h (fun h => ?_) (fun h => ?_)
    · refine r_iconst (v := (0)) X dX5_stationLine_280 (by decide) ?_
      exact r_zret2 X rfl dX5_stationLine_281 h
    · refine r_aload_n X dX5_stationLine_254 rfl 0 rfl ?_
      refine r_aload_n X dX5_stationLine_255 rfl 1 rfl ?_
      refine r_getFN X (k := 4) (of := 10) rfl (Lp_N e1 rfl) e1 rfl (by decide) ui_7 (by decide) hl109 rfl dX5_stationLine_256 ?_
      refine r_iconst (v := (0)) X dX5_stationLine_259 (by decide) ?_
      refine r_iconst (v := (0)) X dX5_stationLine_260 (by decide) ?_
      refine r_cVI (As := [.ref (ad (h1 + 10)), .int ((0)), .int ((0))]) (rest := []) X (fun r9 m9 hg => k_X5_expression (Lp_7_4 e1) hg) h (Lp_N Lpk_3 rfl) Lpk_3 rfl (by decide) uw3_227 uw3_229 us2_3 uw1_3 uw3_230 rfl rfl dd_X5_expression ⟨Nat.le_of_ble_eq_true rfl, Nat.le_of_ble_eq_true rfl⟩ rfl (Nat.le_of_ble_eq_true rfl) dX5_stationLine_261 rfl (fun x36 m35 h => ?_)
      refine r_if_eq (tgt := 280) X dX5_stationLine_264 (by decide) h (fun h => ?_) (fun h => ?_)
      · refine r_iconst (v := (0)) X dX5_stationLine_280 (by decide) ?_
        exact r_zret2 X rfl dX5_stationLine_281 h
      · refine r_aload_n X dX5_stationLine_267 rfl 0 rfl ?_
        refine r_bipush (v := (59)) X dX5_stationLine_268 (by decide) ?_
        refine r_cVI (As := [.int ((59))]) (rest := []) X (fun r9 m9 hg => k_X5_take hg) h (Lp_N Lpk_3 rfl) Lpk_3 rfl (by decide) uw3_181 uw3_183 us1_9 uw1_3 uw3_184 rfl rfl dd_X5_take ⟨Nat.le_of_ble_eq_true rfl, Nat.le_of_ble_eq_true rfl⟩ rfl (Nat.le_of_ble_eq_true rfl) dX5_stationLine_270 rfl (fun x38 m37 h => ?_)
        refine r_if_eq (tgt := 280) X dX5_stationLine_273 (by decide) h (fun h => ?_) (fun h => ?_)
        · refine r_iconst (v := (0)) X dX5_stationLine_280 (by decide) ?_
          exact r_zret2 X rfl dX5_stationLine_281 h
        · refine r_iconst (v := (1)) X dX5_stationLine_276 (by decide) ?_
          refine r_goto (tgt := 281) X dX5_stationLine_277 (by decide) ?_
          exact r_zret2 X rfl dX5_stationLine_281 h
  have h := ite_n c7_12 h
  by_cases c7_13 : (gI mem 1 2) = (13)
  · have h := ite_p c7_13 h
    refine r_tin (off := 275) (tgt := 282) X dX5_stationLine_7 (by rw [c7_13]; decide) (by rw [c7_13]; decide) (by rw [c7_13]; rfl) (by decide) ?_
    refine r_aload_n X dX5_stationLine_282 rfl 0 rfl ?_
    refine r_aload_n X dX5_stationLine_283 rfl 1 rfl ?_
    refine r_cVI (As := [.ref (ad (h1))]) (rest := []) X (fun r9 m9 hg => k_X5_toldFirst e1 hg) h (Lp_N Lpk_3 rfl) Lpk_3 rfl (by decide) uw3_207 uw3_209 us1_14 uw1_3 uw3_210 rfl rfl dd_X5_toldFirst ⟨Nat.le_of_ble_eq_true rfl, Nat.le_of_ble_eq_true rfl⟩ rfl (Nat.le_of_ble_eq_true rfl) dX5_stationLine_284 rfl (fun x40 m39 h => ?_)
    refine r_if_eq (tgt := 316) X dX5_stationLine_287 (by decide) h (fun h => ?_) (fun h => ?_)
    · refine r_iconst (v := (0)) X dX5_stationLine_316 (by decide) ?_
      exact r_zret2 X rfl dX5_stationLine_317 h
    · refine r_aload_n X dX5_stationLine_290 rfl 0 rfl ?_
      refine r_aload_n X dX5_stationLine_291 rfl 1 rfl ?_
      refine r_getFN X (k := 5) (of := 13) rfl (Lp_N e1 rfl) e1 rfl (by decide) ui_7 (by decide) hl117 rfl dX5_stationLine_292 ?_
      refine r_iconst (v := (0)) X dX5_stationLine_295 (by decide) ?_
      refine r_iconst (v := (0)) X dX5_stationLine_296 (by decide) ?_
      refine r_cVI (As := [.ref (ad (h1 + 13)), .int ((0)), .int ((0))]) (rest := []) X (fun r9 m9 hg => k_X5_expression (Lp_7_5 e1) hg) h (Lp_N Lpk_3 rfl) Lpk_3 rfl (by decide) uw3_227 uw3_229 us2_3 uw1_3 uw3_230 rfl rfl dd_X5_expression ⟨Nat.le_of_ble_eq_true rfl, Nat.le_of_ble_eq_true rfl⟩ rfl (Nat.le_of_ble_eq_true rfl) dX5_stationLine_297 rfl (fun x42 m41 h => ?_)
      refine r_if_eq (tgt := 316) X dX5_stationLine_300 (by decide) h (fun h => ?_) (fun h => ?_)
      · refine r_iconst (v := (0)) X dX5_stationLine_316 (by decide) ?_
        exact r_zret2 X rfl dX5_stationLine_317 h
      · refine r_aload_n X dX5_stationLine_303 rfl 0 rfl ?_
        refine r_bipush (v := (59)) X dX5_stationLine_304 (by decide) ?_
        refine r_cVI (As := [.int ((59))]) (rest := []) X (fun r9 m9 hg => k_X5_take hg) h (Lp_N Lpk_3 rfl) Lpk_3 rfl (by decide) uw3_181 uw3_183 us1_9 uw1_3 uw3_184 rfl rfl dd_X5_take ⟨Nat.le_of_ble_eq_true rfl, Nat.le_of_ble_eq_true rfl⟩ rfl (Nat.le_of_ble_eq_true rfl) dX5_stationLine_306 rfl (fun x44 m43 h => ?_)
        refine r_if_eq (tgt := 316) X dX5_stationLine_309 (by decide) h (fun h => ?_) (fun h => ?_)
        · refine r_iconst (v := (0)) X dX5_stationLine_316 (by decide) ?_
          exact r_zret2 X rfl dX5_stationLine_317 h
        · refine r_iconst (v := (1)) X dX5_stationLine_312 (by decide) ?_
          refine r_goto (tgt := 317) X dX5_stationLine_313 (by decide) ?_
          exact r_zret2 X rfl dX5_stationLine_317 h
  have h := ite_n c7_13 h
  refine r_tout (tgt := 318) X dX5_stationLine_7 (tsw_out 14 (fun j hj => by rcases (show j = 0 ∨ j = 1 ∨ j = 2 ∨ j = 3 ∨ j = 4 ∨ j = 5 ∨ j = 6 ∨ j = 7 ∨ j = 8 ∨ j = 9 ∨ j = 10 ∨ j = 11 ∨ j = 12 ∨ j = 13 by omega) with rfl | rfl | rfl | rfl | rfl | rfl | rfl | rfl | rfl | rfl | rfl | rfl | rfl | rfl <;> assumption) (by decide)) (by decide) ?_
  exact r_sub [0] rfl (hJ318 mem h)
noncomputable def f_X7_clear (h0 : Nat) (mem : Mm) : Option Mm :=
  bnd (sI mem h0 6 ((0))) fun m1 => bnd (sI m1 h0 7 ((0))) fun m2 => bnd (sI m2 (h0 + 10) 3 ((0))) fun m3 => bnd (sI m3 (h0 + 13) 3 ((0))) fun m4 => bnd (sI m4 h0 8 ((5))) fun m5 => bnd (sI m5 h0 9 ((30))) fun m6 => bnd (sI m6 h0 10 ((0))) fun m7 => bnd (sI m7 h0 11 ((60))) fun m8 => bnd (sI m8 h0 12 ((60))) fun m9 => bnd (sI m9 h0 13 ((0))) fun m10 => some m10
theorem dd_X7_clear : yX7_clear.cls = RX7 ∧ yX7_clear.cls ≠ "java/lang/invoke/MethodHandle" ∧ yX7_clear.cls ≠ "java/lang/invoke/VarHandle" ∧ (parseMethodDescriptor yX7_clear.desc).map (fun d => d.parameters.length) = some 0 := by decide +kernel
set_option maxHeartbeats 4000000 in
set_option maxRecDepth 100000 in
theorem k_X7_clear {l : Launch} {ad : Nat → Nat} {cy : Nat → ClassId} {dC : Nat → ClassId} {dI : Nat → Nat → Nat} {ks : (Nat → Nat) × (Nat → Nat)} {h0 : Nat} {mem : Mm} {mem2 : Mm} (e0 : Lp.1 h0 = 7) (h : f_X7_clear h0 mem = some mem2) : CtV l Lp ad cy dC dI ks yX7_clear cX7_clear 1 none ({ frames := 0, cells := 0, slots := 0, locals := 0 }) [.ref (ad (h0))] mem mem2 := by
  refine CtV.of (cc := cX7_clear) (maxL := 1) (ret := none) (own := RX7) rfl (by decide) (Nat.le_of_ble_eq_true rfl) ?_
  intro p e s m args below meth c A X
  have hts := X.2.2.2.2.1
  have hl62 := X.2.2.2.2.2.2.1 (.fieldLinkNest "StationPiano$Station" 62 "StationPiano$Law" "length" "I" "StationPiano") (List.mem_of_getElem? (i := 5) rfl)
  unfold f_X7_clear at h
  refine r_aload_n X dX7_clear_0 rfl 0 rfl ?_
  refine r_iconst (v := (0)) X dX7_clear_1 (by decide) ?_
  refine r_putI X (k := 6) (Lp_N e0 rfl) e0 rfl (by decide) ui_7 (by decide) uw1_183 tyX7_ok nmX7 rfl rfl rfl dX7_clear_2 ?_
  refine r_nmM h (fun m1 h => ?_)
  refine r_aload_n X dX7_clear_5 rfl 0 rfl ?_
  refine r_iconst (v := (0)) X dX7_clear_6 (by decide) ?_
  refine r_putI X (k := 7) (Lp_N e0 rfl) e0 rfl (by decide) ui_7 (by decide) uw1_187 tyX7_ok nmX7 rfl rfl rfl dX7_clear_7 ?_
  refine r_nmM h (fun m2 h => ?_)
  refine r_aload_n X dX7_clear_10 rfl 0 rfl ?_
  refine r_getF X (k := 4) (of := 10) rfl (Lp_N e0 rfl) e0 rfl (by decide) ui_7 (by decide) uw1_179 rfl dX7_clear_11 ?_
  refine r_iconst (v := (0)) X dX7_clear_14 (by decide) ?_
  refine r_putIN X (k := 3) (Lp_N (Lp_7_4 e0) rfl) (Lp_7_4 e0) rfl (by decide) ui_2 (by decide) hl62 tyX2_ok nmX2 rfl rfl rfl dX7_clear_15 ?_
  refine r_nmM h (fun m3 h => ?_)
  refine r_aload_n X dX7_clear_18 rfl 0 rfl ?_
  refine r_getF X (k := 5) (of := 13) rfl (Lp_N e0 rfl) e0 rfl (by decide) ui_7 (by decide) uw1_181 rfl dX7_clear_19 ?_
  refine r_iconst (v := (0)) X dX7_clear_22 (by decide) ?_
  refine r_putIN X (k := 3) (Lp_N (Lp_7_5 e0) rfl) (Lp_7_5 e0) rfl (by decide) ui_2 (by decide) hl62 tyX2_ok nmX2 rfl rfl rfl dX7_clear_23 ?_
  refine r_nmM h (fun m4 h => ?_)
  refine r_aload_n X dX7_clear_26 rfl 0 rfl ?_
  refine r_iconst (v := (5)) X dX7_clear_27 (by decide) ?_
  refine r_putI X (k := 8) (Lp_N e0 rfl) e0 rfl (by decide) ui_7 (by decide) uw1_191 tyX7_ok nmX7 rfl rfl rfl dX7_clear_28 ?_
  refine r_nmM h (fun m5 h => ?_)
  refine r_aload_n X dX7_clear_31 rfl 0 rfl ?_
  refine r_bipush (v := (30)) X dX7_clear_32 (by decide) ?_
  refine r_putI X (k := 9) (Lp_N e0 rfl) e0 rfl (by decide) ui_7 (by decide) uw1_195 tyX7_ok nmX7 rfl rfl rfl dX7_clear_34 ?_
  refine r_nmM h (fun m6 h => ?_)
  refine r_aload_n X dX7_clear_37 rfl 0 rfl ?_
  refine r_iconst (v := (0)) X dX7_clear_38 (by decide) ?_
  refine r_putI X (k := 10) (Lp_N e0 rfl) e0 rfl (by decide) ui_7 (by decide) uw1_198 tyX7_ok nmX7 rfl rfl rfl dX7_clear_39 ?_
  refine r_nmM h (fun m7 h => ?_)
  refine r_aload_n X dX7_clear_42 rfl 0 rfl ?_
  refine r_bipush (v := (60)) X dX7_clear_43 (by decide) ?_
  refine r_putI X (k := 11) (Lp_N e0 rfl) e0 rfl (by decide) ui_7 (by decide) uw1_201 tyX7_ok nmX7 rfl rfl rfl dX7_clear_45 ?_
  refine r_nmM h (fun m8 h => ?_)
  refine r_aload_n X dX7_clear_48 rfl 0 rfl ?_
  refine r_bipush (v := (60)) X dX7_clear_49 (by decide) ?_
  refine r_putI X (k := 12) (Lp_N e0 rfl) e0 rfl (by decide) ui_7 (by decide) uw1_204 tyX7_ok nmX7 rfl rfl rfl dX7_clear_51 ?_
  refine r_nmM h (fun m9 h => ?_)
  refine r_aload_n X dX7_clear_54 rfl 0 rfl ?_
  refine r_iconst (v := (0)) X dX7_clear_55 (by decide) ?_
  refine r_putI X (k := 13) (Lp_N e0 rfl) e0 rfl (by decide) ui_7 (by decide) uw1_207 tyX7_ok nmX7 rfl rfl rfl dX7_clear_56 ?_
  refine r_nmM h (fun m10 h => ?_)
  exact r_vret X rfl dX7_clear_59 h
noncomputable def f_X9_rewind  (mem : Mm) : Option Mm :=
  bnd (sI mem 1 4 ((0))) fun m1 => bdV (f_X9_advance  m1) fun m2 => some m2
theorem dd_X9_rewind : yX9_rewind.cls = RX9 ∧ yX9_rewind.cls ≠ "java/lang/invoke/MethodHandle" ∧ yX9_rewind.cls ≠ "java/lang/invoke/VarHandle" ∧ (parseMethodDescriptor yX9_rewind.desc).map (fun d => d.parameters.length) = some 0 := by decide +kernel
set_option maxHeartbeats 4000000 in
set_option maxRecDepth 100000 in
theorem k_X9_rewind {l : Launch} {ad : Nat → Nat} {cy : Nat → ClassId} {dC : Nat → ClassId} {dI : Nat → Nat → Nat} {ks : (Nat → Nat) × (Nat → Nat)}  {mem : Mm} {mem2 : Mm}  (h : f_X9_rewind  mem = some mem2) : CtV l Lp ad cy dC dI ks yX9_rewind cX9_rewind 1 none ({ frames := 6, cells := 0, slots := 0, locals := 131 }) [.ref (ad (1))] mem mem2 := by
  refine CtV.of (cc := cX9_rewind) (maxL := 1) (ret := none) (own := RX9) rfl (by decide) (Nat.le_of_ble_eq_true rfl) ?_
  intro p e s m args below meth c A X
  have hts := X.2.2.2.2.1
  unfold f_X9_rewind at h
  refine r_aload_n X dX9_rewind_0 rfl 0 rfl ?_
  refine r_iconst (v := (0)) X dX9_rewind_1 (by decide) ?_
  refine r_putI X (k := 4) (Lp_N Lpk_1 rfl) Lpk_1 rfl (by decide) ui_9 (by decide) uw1_46 tyX9_ok nmX9 rfl rfl rfl dX9_rewind_2 ?_
  refine r_nmM h (fun m1 h => ?_)
  refine r_aload_n X dX9_rewind_5 rfl 0 rfl ?_
  refine r_cVV (As := []) (rest := []) X (fun m9 hg => k_X9_advance hg) h (Lp_N Lpk_1 rfl) Lpk_1 rfl (by decide) uw3_23 uw3_24 uw3_25 uw1_2 uw3_26 rfl rfl dd_X9_advance ⟨Nat.le_of_ble_eq_true rfl, Nat.le_of_ble_eq_true rfl⟩ rfl (Nat.le_of_ble_eq_true rfl) dX9_rewind_6 rfl (fun m2 h => ?_)
  exact r_vret X rfl dX9_rewind_9 h
noncomputable def f_X5_readStation_B18 (h1 : Nat) (k18 : Int32 → Mm → Option (Int32 × Mm)) (x4 : Int32) (m5 : Mm) : Option (Int32 × Mm) :=
  if ((1000)) < x4 then (some ((0), m5)) else (if (gI m5 1 2) = ((101)) then (some ((0), m5)) else (bdI (f_X5_stationLine h1 m5) fun x7 m6 => if ¬ x7 = 0 then (bnd (x4 + (1)) fun x8 => k18 x8 m6) else (some (gI m6 3 2, m6))))
noncomputable def f_X5_readStation (h1 : Nat) (mem : Mm) : Option (Int32 × Mm) :=
  bdV (f_X7_clear h1 mem) fun m1 => bnd (sI m1 3 2 ((0))) fun m2 => bdV (f_X9_rewind  m2) fun m3 => lop (fun _ _ => none) (f_X5_readStation_B18 h1 ) 4000 ((0)) m3
theorem dd_X5_readStation : yX5_readStation.cls = RX5 ∧ yX5_readStation.cls ≠ "java/lang/invoke/MethodHandle" ∧ yX5_readStation.cls ≠ "java/lang/invoke/VarHandle" ∧ (parseMethodDescriptor yX5_readStation.desc).map (fun d => d.parameters.length) = some 1 := by decide +kernel
set_option maxHeartbeats 4000000 in
set_option maxRecDepth 100000 in
theorem k_X5_readStation {l : Launch} {ad : Nat → Nat} {cy : Nat → ClassId} {dC : Nat → ClassId} {dI : Nat → Nat → Nat} {ks : (Nat → Nat) × (Nat → Nat)} {h1 : Nat} {mem : Mm} {r2 : Int32} {mem2 : Mm} (e1 : Lp.1 h1 = 7) (h : f_X5_readStation h1 mem = some (r2, mem2)) : CtI l Lp ad cy dC dI ks yX5_readStation cX5_readStation 3 (some .int) ({ frames := 74, cells := 0, slots := 0, locals := 4048 }) [.ref (ad (3)), .ref (ad (h1))] mem r2 mem2 := by
  refine CtI.of (cc := cX5_readStation) (maxL := 3) (ret := (some .int)) (own := RX5) rfl (by decide) (Nat.le_of_ble_eq_true rfl) ?_
  intro p e s m args below meth c A X
  have hts := X.2.2.2.2.1
  have hl29 := X.2.2.2.2.2.2.1 (.fieldLinkNest "StationPiano$Reader" 29 "StationPiano$Tape" "token" "I" "StationPiano") (List.mem_of_getElem? (i := 1) rfl)
  have hJ18 : ∀ (k18 : Int32 → Mm → Option (Int32 × Mm)) (hk18 : ∀ (x4 : Int32) (m5 : Mm), k18 x4 m5 = some (r2, mem2) → Jd p l e ({ frames := 74, cells := 0, slots := 0, locals := 4048 }) s m args below meth c 3 (MQ below (PsI Lp ad cy dC dI r2 mem2 A) args s 0 0 A) A dC dI cy Lp ad m5 18 [(0, .ref (ad (3))), (1, .ref (ad (h1))), (2, .int (x4))] []) (x4 : Int32) (m5 : Mm), f_X5_readStation_B18 h1 k18 x4 m5 = some (r2, mem2) → Jd p l e ({ frames := 74, cells := 0, slots := 0, locals := 4048 }) s m args below meth c 3 (MQ below (PsI Lp ad cy dC dI r2 mem2 A) args s 0 0 A) A dC dI cy Lp ad m5 18 [(0, .ref (ad (3))), (1, .ref (ad (h1))), (2, .int (x4))] [] := by
    intro k18 hk18 x4 m5 h
    unfold f_X5_readStation_B18 at h
    refine r_iload_n X dX5_readStation_18 rfl 2 rfl ?_
    refine r_sipush (v := (1000)) X dX5_readStation_19 (by decide) ?_
    refine r_icmp_gt (tgt := 56) X dX5_readStation_22 (by decide) h (fun h => ?_) (fun h => ?_)
    · refine r_iconst (v := (0)) X dX5_readStation_56 (by decide) ?_
      exact r_iret2 X rfl dX5_readStation_57 h
    · refine r_aload_n X dX5_readStation_25 rfl 0 rfl ?_
      refine r_getB X (k := 0) (of := 2) rfl (Lp_N Lpk_3 rfl) Lpk_3 rfl (by decide) ui_5 (by decide) uw1_73 rfl dX5_readStation_26 ?_
      refine r_getIN X (k := 2) (Lp_N Lpk_1 rfl) Lpk_1 rfl (by decide) ui_9 (by decide) hl29 rfl dX5_readStation_29 ?_
      refine r_bipush (v := (101)) X dX5_readStation_32 (by decide) ?_
      refine r_icmp_eq (tgt := 56) X dX5_readStation_34 (by decide) h (fun h => ?_) (fun h => ?_)
      · refine r_iconst (v := (0)) X dX5_readStation_56 (by decide) ?_
        exact r_iret2 X rfl dX5_readStation_57 h
      · refine r_aload_n X dX5_readStation_37 rfl 0 rfl ?_
        refine r_aload_n X dX5_readStation_38 rfl 1 rfl ?_
        refine r_cVI (As := [.ref (ad (h1))]) (rest := []) X (fun r9 m9 hg => k_X5_stationLine e1 hg) h (Lp_N Lpk_3 rfl) Lpk_3 rfl (by decide) uw3_144 uw3_146 us1_2 uw1_3 uw3_147 rfl rfl dd_X5_stationLine ⟨Nat.le_of_ble_eq_true rfl, Nat.le_of_ble_eq_true rfl⟩ rfl (Nat.le_of_ble_eq_true rfl) dX5_readStation_39 rfl (fun x7 m6 h => ?_)
        refine r_if_ne (tgt := 50) X dX5_readStation_42 (by decide) h (fun h => ?_) (fun h => ?_)
        · refine r_inc h (fun x8 e9 h => ?_)
          refine r_iinc (v := x8) (lv2 := [(2, .int (x8)), (0, .ref (ad (3))), (1, .ref (ad (h1)))]) X dX5_readStation_50 2 rfl (by rw [e9]; rfl) (by decide) rfl ?_
          refine r_goto (tgt := 18) X dX5_readStation_53 (by decide) ?_
          exact r_sub [1, 2, 0] rfl (hk18 x8 m6 h)
        · refine r_aload_n X dX5_readStation_45 rfl 0 rfl ?_
          refine r_getI X (k := 2) (Lp_N Lpk_3 rfl) Lpk_3 rfl (by decide) ui_5 (by decide) uw1_75 rfl dX5_readStation_46 ?_
          exact r_iret2 X rfl dX5_readStation_49 h
  have hL18 : ∀ (n : Nat), ∀ (x4 : Int32) (m5 : Mm), lop (fun _ _ => none) (f_X5_readStation_B18 h1 ) n x4 m5 = some (r2, mem2) → Jd p l e ({ frames := 74, cells := 0, slots := 0, locals := 4048 }) s m args below meth c 3 (MQ below (PsI Lp ad cy dC dI r2 mem2 A) args s 0 0 A) A dC dI cy Lp ad m5 18 [(0, .ref (ad (3))), (1, .ref (ad (h1))), (2, .int (x4))] [] := by
    intro  n
    induction n with
    | zero => intro _ _ h; cases h
    | succ n ih => intro a0 a1 h; exact hJ18  _ ih a0 a1 h
  unfold f_X5_readStation at h
  refine r_aload_n X dX5_readStation_0 rfl 1 rfl ?_
  refine r_cVV (As := []) (rest := []) X (fun m9 hg => k_X7_clear e1 hg) h (Lp_N e1 rfl) e1 rfl (by decide) uw3_15 uw3_16 uw3_17 uw1_4 uw3_18 rfl rfl dd_X7_clear ⟨Nat.le_of_ble_eq_true rfl, Nat.le_of_ble_eq_true rfl⟩ rfl (Nat.le_of_ble_eq_true rfl) dX5_readStation_1 rfl (fun m1 h => ?_)
  refine r_aload_n X dX5_readStation_4 rfl 0 rfl ?_
  refine r_iconst (v := (0)) X dX5_readStation_5 (by decide) ?_
  refine r_putI X (k := 2) (Lp_N Lpk_3 rfl) Lpk_3 rfl (by decide) ui_5 (by decide) uw1_75 tyX5_ok nmX5 rfl rfl rfl dX5_readStation_6 ?_
  refine r_nmM h (fun m2 h => ?_)
  refine r_aload_n X dX5_readStation_9 rfl 0 rfl ?_
  refine r_getB X (k := 0) (of := 2) rfl (Lp_N Lpk_3 rfl) Lpk_3 rfl (by decide) ui_5 (by decide) uw1_73 rfl dX5_readStation_10 ?_
  refine r_cVV (As := []) (rest := []) X (fun m9 hg => k_X9_rewind hg) h (Lp_N Lpk_1 rfl) Lpk_1 rfl (by decide) uw3_19 uw3_20 uw3_21 uw1_2 uw3_22 rfl rfl dd_X9_rewind ⟨Nat.le_of_ble_eq_true rfl, Nat.le_of_ble_eq_true rfl⟩ rfl (Nat.le_of_ble_eq_true rfl) dX5_readStation_13 rfl (fun m3 h => ?_)
  refine r_iconst (v := (0)) X dX5_readStation_16 (by decide) ?_
  refine r_istore_n (lv2 := [(2, .int ((0))), (0, .ref (ad (3))), (1, .ref (ad (h1)))]) X dX5_readStation_17 rfl (by decide) rfl ?_
  exact r_sub [1, 2, 0] rfl (hL18 4000 ((0)) m3 h)
noncomputable def f_X10_add (h0 : Nat) (p1 : Int32) (p2 : Int32) (p3 : Int32) (mem : Mm) : Option Mm :=
  if (gI mem h0 3) < 0 then (some mem) else (if ((40)) ≤ (gI mem h0 3) then (some mem) else (grd (inb (gI mem h0 3) (Lp.2.1 (h0 + 1))) (bnd (sI mem (h0 + 1) (gI mem h0 3).toNatClampNeg p1) fun m1 => grd (inb (gI m1 h0 3) (Lp.2.1 (h0 + 2))) (bnd (sI m1 (h0 + 2) (gI m1 h0 3).toNatClampNeg p2) fun m2 => grd (inb (gI m2 h0 3) (Lp.2.1 (h0 + 3))) (bnd (sI m2 (h0 + 3) (gI m2 h0 3).toNatClampNeg p3) fun m3 => bnd (sI m3 h0 3 ((gI m3 h0 3) + ((1)))) fun m4 => some m4)))))
theorem dd_X10_add : yX10_add.cls = RX10 ∧ yX10_add.cls ≠ "java/lang/invoke/MethodHandle" ∧ yX10_add.cls ≠ "java/lang/invoke/VarHandle" ∧ (parseMethodDescriptor yX10_add.desc).map (fun d => d.parameters.length) = some 3 := by decide +kernel
set_option maxHeartbeats 4000000 in
set_option maxRecDepth 100000 in
theorem k_X10_add {l : Launch} {ad : Nat → Nat} {cy : Nat → ClassId} {dC : Nat → ClassId} {dI : Nat → Nat → Nat} {ks : (Nat → Nat) × (Nat → Nat)} {h0 : Nat} {p1 : Int32} {p2 : Int32} {p3 : Int32} {mem : Mm} {mem2 : Mm} (e0 : Lp.1 h0 = 10) (h : f_X10_add h0 p1 p2 p3 mem = some mem2) : CtV l Lp ad cy dC dI ks yX10_add cX10_add 4 none ({ frames := 0, cells := 0, slots := 0, locals := 0 }) [.ref (ad (h0)), .int (p1), .int (p2), .int (p3)] mem mem2 := by
  refine CtV.of (cc := cX10_add) (maxL := 4) (ret := none) (own := RX10) rfl (by decide) (Nat.le_of_ble_eq_true rfl) ?_
  intro p e s m args below meth c A X
  have hts := X.2.2.2.2.1
  unfold f_X10_add at h
  refine r_aload_n X dX10_add_0 rfl 0 rfl ?_
  refine r_getI X (k := 3) (Lp_N e0 rfl) e0 rfl (by decide) ui_10 (by decide) uw2_44 rfl dX10_add_1 ?_
  refine r_if_lt (tgt := 56) X dX10_add_4 (by decide) h (fun h => ?_) (fun h => ?_)
  · exact r_vret X rfl dX10_add_56 h
  · refine r_aload_n X dX10_add_7 rfl 0 rfl ?_
    refine r_getI X (k := 3) (Lp_N e0 rfl) e0 rfl (by decide) ui_10 (by decide) uw2_44 rfl dX10_add_8 ?_
    refine r_bipush (v := (40)) X dX10_add_11 (by decide) ?_
    refine r_icmp_ge (tgt := 56) X dX10_add_13 (by decide) h (fun h => ?_) (fun h => ?_)
    · exact r_vret X rfl dX10_add_56 h
    · refine r_aload_n X dX10_add_16 rfl 0 rfl ?_
      refine r_getF X (k := 0) (of := 1) rfl (Lp_N e0 rfl) e0 rfl (by decide) ui_10 (by decide) uw2_38 rfl dX10_add_17 ?_
      refine r_aload_n X dX10_add_20 rfl 0 rfl ?_
      refine r_getI X (k := 3) (Lp_N e0 rfl) e0 rfl (by decide) ui_10 (by decide) uw2_44 rfl dX10_add_21 ?_
      refine r_iload_n X dX10_add_24 rfl 1 rfl ?_
      refine r_iast X (Lp_N (Lp_10_0 e0) rfl) (Lp_10_0 e0) h dX10_add_25 (fun h => ?_)
      refine r_nmM h (fun m1 h => ?_)
      refine r_aload_n X dX10_add_26 rfl 0 rfl ?_
      refine r_getF X (k := 1) (of := 2) rfl (Lp_N e0 rfl) e0 rfl (by decide) ui_10 (by decide) uw2_40 rfl dX10_add_27 ?_
      refine r_aload_n X dX10_add_30 rfl 0 rfl ?_
      refine r_getI X (k := 3) (Lp_N e0 rfl) e0 rfl (by decide) ui_10 (by decide) uw2_44 rfl dX10_add_31 ?_
      refine r_iload_n X dX10_add_34 rfl 2 rfl ?_
      refine r_iast X (Lp_N (Lp_10_1 e0) rfl) (Lp_10_1 e0) h dX10_add_35 (fun h => ?_)
      refine r_nmM h (fun m2 h => ?_)
      refine r_aload_n X dX10_add_36 rfl 0 rfl ?_
      refine r_getF X (k := 2) (of := 3) rfl (Lp_N e0 rfl) e0 rfl (by decide) ui_10 (by decide) uw2_42 rfl dX10_add_37 ?_
      refine r_aload_n X dX10_add_40 rfl 0 rfl ?_
      refine r_getI X (k := 3) (Lp_N e0 rfl) e0 rfl (by decide) ui_10 (by decide) uw2_44 rfl dX10_add_41 ?_
      refine r_iload_n X dX10_add_44 rfl 3 rfl ?_
      refine r_iast X (Lp_N (Lp_10_2 e0) rfl) (Lp_10_2 e0) h dX10_add_45 (fun h => ?_)
      refine r_nmM h (fun m3 h => ?_)
      refine r_aload_n X dX10_add_46 rfl 0 rfl ?_
      refine r_dup X dX10_add_47 rfl ?_
      refine r_getI X (k := 3) (Lp_N e0 rfl) e0 rfl (by decide) ui_10 (by decide) uw2_44 rfl dX10_add_48 ?_
      refine r_iconst (v := (1)) X dX10_add_51 (by decide) ?_
      refine r_iadd X dX10_add_52 ?_
      refine r_putI X (k := 3) (Lp_N e0 rfl) e0 rfl (by decide) ui_10 (by decide) uw2_44 tyX10_ok nmX10 rfl rfl rfl dX10_add_53 ?_
      refine r_nmM h (fun m4 h => ?_)
      exact r_vret X rfl dX10_add_56 h
noncomputable def f_X5_weekLine_J136 (h1 : Nat) (x18 : Int32) (x19 : Int32) (x20 : Int32) (m21 : Mm) : Option (Int32 × Mm) :=
  bdV (f_X10_add h1 x18 x19 x20 m21) fun m22 => bdI (f_X5_take ((59)) m22) fun x24 m23 => grd (bok x24) (some (x24, m23))
noncomputable def f_X5_weekLine_J38 (h1 : Nat) (x4 : Int32) (m5 : Mm) : Option (Int32 × Mm) :=
  if (gI m5 h1 3) < ((40)) then (bdV (f_X9_advance  m5) fun m6 => if ¬ x4 = ((8)) then (if ¬ x4 = ((9)) then (f_X5_weekLine_J136 h1 x4 ((0)) ((0)) m6) else (bdI (f_X5_takeNumber ((0)) ((59)) m6) fun x8 m7 => if ¬ x8 = 0 then (bnd (gI m7 3 1) fun x9 => bdI (f_X5_takeValue ((10)) (x9 + ((1))) ((60)) m7) fun x11 m10 => if ¬ x11 = 0 then (bnd (gI m10 3 1) fun x12 => f_X5_weekLine_J136 h1 x4 x9 x12 m10) else (grd (bok ((0))) (some ((0), m10)))) else (grd (bok ((0))) (some ((0), m7))))) else (bdI (f_X5_takeNumber ((1)) ((30)) m6) fun x14 m13 => if ¬ x14 = 0 then (bnd (gI m13 3 1) fun x15 => f_X5_weekLine_J136 h1 x4 x15 ((0)) m13) else (grd (bok ((0))) (some ((0), m13))))) else (bdI (f_X5_wrong ((5)) m5) fun x17 m16 => grd (bok x17) (some (x17, m16)))
noncomputable def f_X5_weekLine (h1 : Nat) (mem : Mm) : Option (Int32 × Mm) :=
  bnd (gI mem 1 2) fun x1 => if x1 = ((14)) then (f_X5_weekLine_J38 h1 x1 mem) else (if x1 = ((15)) then (f_X5_weekLine_J38 h1 x1 mem) else (if x1 = ((8)) then (f_X5_weekLine_J38 h1 x1 mem) else (if x1 = ((9)) then (f_X5_weekLine_J38 h1 x1 mem) else (bdI (f_X5_wrong ((1)) mem) fun x3 m2 => grd (bok x3) (some (x3, m2))))))
theorem dd_X5_weekLine : yX5_weekLine.cls = RX5 ∧ yX5_weekLine.cls ≠ "java/lang/invoke/MethodHandle" ∧ yX5_weekLine.cls ≠ "java/lang/invoke/VarHandle" ∧ (parseMethodDescriptor yX5_weekLine.desc).map (fun d => d.parameters.length) = some 1 := by decide +kernel
set_option maxHeartbeats 4000000 in
set_option maxRecDepth 100000 in
theorem k_X5_weekLine {l : Launch} {ad : Nat → Nat} {cy : Nat → ClassId} {dC : Nat → ClassId} {dI : Nat → Nat → Nat} {ks : (Nat → Nat) × (Nat → Nat)} {h1 : Nat} {mem : Mm} {r2 : Int32} {mem2 : Mm} (e1 : Lp.1 h1 = 10) (h : f_X5_weekLine h1 mem = some (r2, mem2)) : CtI l Lp ad cy dC dI ks yX5_weekLine cX5_weekLine 5 (some .boolean) ({ frames := 8, cells := 0, slots := 0, locals := 176 }) [.ref (ad (3)), .ref (ad (h1))] mem r2 mem2 := by
  refine CtI.of (cc := cX5_weekLine) (maxL := 5) (ret := (some .boolean)) (own := RX5) rfl (by decide) (Nat.le_of_ble_eq_true rfl) ?_
  intro p e s m args below meth c A X
  have hts := X.2.2.2.2.1
  have hl29 := X.2.2.2.2.2.2.1 (.fieldLinkNest "StationPiano$Reader" 29 "StationPiano$Tape" "token" "I" "StationPiano") (List.mem_of_getElem? (i := 1) rfl)
  have hl36 := X.2.2.2.2.2.2.1 (.fieldLinkNest "StationPiano$Reader" 36 "StationPiano$Week" "length" "I" "StationPiano") (List.mem_of_getElem? (i := 66) rfl)
  have hJ136 : ∀ (x18 : Int32) (x19 : Int32) (x20 : Int32) (m21 : Mm), f_X5_weekLine_J136 h1 x18 x19 x20 m21 = some (r2, mem2) → Jd p l e ({ frames := 8, cells := 0, slots := 0, locals := 176 }) s m args below meth c 5 (MQ below (PsI Lp ad cy dC dI r2 mem2 A) args s 0 0 A) A dC dI cy Lp ad m21 136 [(0, .ref (ad (3))), (1, .ref (ad (h1))), (2, .int (x18)), (3, .int (x19)), (4, .int (x20))] [] := by
    intro x18 x19 x20 m21 h
    unfold f_X5_weekLine_J136 at h
    refine r_aload_n X dX5_weekLine_136 rfl 1 rfl ?_
    refine r_iload_n X dX5_weekLine_137 rfl 2 rfl ?_
    refine r_iload_n X dX5_weekLine_138 rfl 3 rfl ?_
    refine r_iload X dX5_weekLine_139 4 rfl ?_
    refine r_cVV (As := [.int (x18), .int (x19), .int (x20)]) (rest := []) X (fun m9 hg => k_X10_add e1 hg) h (Lp_N e1 rfl) e1 rfl (by decide) uw4_26 uw4_27 uw4_28 uw1_8 uw4_29 rfl rfl dd_X10_add ⟨Nat.le_of_ble_eq_true rfl, Nat.le_of_ble_eq_true rfl⟩ rfl (Nat.le_of_ble_eq_true rfl) dX5_weekLine_141 rfl (fun m22 h => ?_)
    refine r_aload_n X dX5_weekLine_144 rfl 0 rfl ?_
    refine r_bipush (v := (59)) X dX5_weekLine_145 (by decide) ?_
    refine r_cVI (As := [.int ((59))]) (rest := []) X (fun r9 m9 hg => k_X5_take hg) h (Lp_N Lpk_3 rfl) Lpk_3 rfl (by decide) uw3_181 uw3_183 us1_9 uw1_3 uw3_184 rfl rfl dd_X5_take ⟨Nat.le_of_ble_eq_true rfl, Nat.le_of_ble_eq_true rfl⟩ rfl (Nat.le_of_ble_eq_true rfl) dX5_weekLine_147 rfl (fun x24 m23 h => ?_)
    exact r_zret2 X rfl dX5_weekLine_150 h
  have hJ38 : ∀ (x4 : Int32) (m5 : Mm), f_X5_weekLine_J38 h1 x4 m5 = some (r2, mem2) → Jd p l e ({ frames := 8, cells := 0, slots := 0, locals := 176 }) s m args below meth c 5 (MQ below (PsI Lp ad cy dC dI r2 mem2 A) args s 0 0 A) A dC dI cy Lp ad m5 38 [(0, .ref (ad (3))), (1, .ref (ad (h1))), (2, .int (x4))] [] := by
    intro x4 m5 h
    unfold f_X5_weekLine_J38 at h
    refine r_aload_n X dX5_weekLine_38 rfl 1 rfl ?_
    refine r_getIN X (k := 3) (Lp_N e1 rfl) e1 rfl (by decide) ui_10 (by decide) hl36 rfl dX5_weekLine_39 ?_
    refine r_bipush (v := (40)) X dX5_weekLine_42 (by decide) ?_
    refine r_icmp_lt (tgt := 53) X dX5_weekLine_44 (by decide) h (fun h => ?_) (fun h => ?_)
    · refine r_iconst (v := (0)) X dX5_weekLine_53 (by decide) ?_
      refine r_istore_n (lv2 := [(3, .int ((0))), (0, .ref (ad (3))), (1, .ref (ad (h1))), (2, .int (x4))]) X dX5_weekLine_54 rfl (by decide) rfl ?_
      refine r_iconst (v := (0)) X dX5_weekLine_55 (by decide) ?_
      refine r_istore (lv2 := [(4, .int ((0))), (3, .int ((0))), (0, .ref (ad (3))), (1, .ref (ad (h1))), (2, .int (x4))]) X dX5_weekLine_56 (by decide) rfl ?_
      refine r_aload_n X dX5_weekLine_58 rfl 2 rfl ?_
      refine r_getB X (k := 0) (of := 2) rfl (Lp_N Lpk_3 rfl) Lpk_3 rfl (by decide) ui_5 (by decide) uw1_73 rfl dX5_weekLine_59 ?_
      refine r_cVV (As := []) (rest := []) X (fun m9 hg => k_X9_advance hg) h (Lp_N Lpk_1 rfl) Lpk_1 rfl (by decide) uw3_156 uw3_24 uw3_25 uw1_2 uw3_26 rfl rfl dd_X9_advance ⟨Nat.le_of_ble_eq_true rfl, Nat.le_of_ble_eq_true rfl⟩ rfl (Nat.le_of_ble_eq_true rfl) dX5_weekLine_62 rfl (fun m6 h => ?_)
      refine r_iload_n X dX5_weekLine_65 rfl 4 rfl ?_
      refine r_bipush (v := (8)) X dX5_weekLine_66 (by decide) ?_
      refine r_icmp_ne (tgt := 91) X dX5_weekLine_68 (by decide) h (fun h => ?_) (fun h => ?_)
      · refine r_iload_n X dX5_weekLine_91 rfl 4 rfl ?_
        refine r_bipush (v := (9)) X dX5_weekLine_92 (by decide) ?_
        refine r_icmp_ne (tgt := 136) X dX5_weekLine_94 (by decide) h (fun h => ?_) (fun h => ?_)
        · exact r_sub [2, 3, 4, 1, 0] rfl (hJ136 x4 ((0)) ((0)) m6 h)
        · refine r_aload_n X dX5_weekLine_97 rfl 2 rfl ?_
          refine r_iconst (v := (0)) X dX5_weekLine_98 (by decide) ?_
          refine r_bipush (v := (59)) X dX5_weekLine_99 (by decide) ?_
          refine r_cVI (As := [.int ((0)), .int ((59))]) (rest := []) X (fun r9 m9 hg => k_X5_takeNumber hg) h (Lp_N Lpk_3 rfl) Lpk_3 rfl (by decide) uw3_177 uw3_179 us1_8 uw1_3 uw3_180 rfl rfl dd_X5_takeNumber ⟨Nat.le_of_ble_eq_true rfl, Nat.le_of_ble_eq_true rfl⟩ rfl (Nat.le_of_ble_eq_true rfl) dX5_weekLine_101 rfl (fun x8 m7 h => ?_)
          refine r_if_ne (tgt := 109) X dX5_weekLine_104 (by decide) h (fun h => ?_) (fun h => ?_)
          · refine r_aload_n X dX5_weekLine_109 rfl 2 rfl ?_
            refine r_getI X (k := 1) (Lp_N Lpk_3 rfl) Lpk_3 rfl (by decide) ui_5 (by decide) uw1_74 rfl dX5_weekLine_110 ?_
            refine r_nmI h (fun x9 h => ?_)
            refine r_istore_n (lv2 := [(3, .int (x9)), (4, .int ((0))), (0, .ref (ad (3))), (1, .ref (ad (h1))), (2, .int (x4))]) X dX5_weekLine_113 rfl (by decide) rfl ?_
            refine r_aload_n X dX5_weekLine_114 rfl 2 rfl ?_
            refine r_bipush (v := (10)) X dX5_weekLine_115 (by decide) ?_
            refine r_iload_n X dX5_weekLine_117 rfl 0 rfl ?_
            refine r_iconst (v := (1)) X dX5_weekLine_118 (by decide) ?_
            refine r_iadd X dX5_weekLine_119 ?_
            refine r_bipush (v := (60)) X dX5_weekLine_120 (by decide) ?_
            refine r_cVI (As := [.int ((10)), .int (x9 + ((1))), .int ((60))]) (rest := []) X (fun r9 m9 hg => k_X5_takeValue hg) h (Lp_N Lpk_3 rfl) Lpk_3 rfl (by decide) uw3_203 uw3_205 us1_13 uw1_3 uw3_206 rfl rfl dd_X5_takeValue ⟨Nat.le_of_ble_eq_true rfl, Nat.le_of_ble_eq_true rfl⟩ rfl (Nat.le_of_ble_eq_true rfl) dX5_weekLine_122 rfl (fun x11 m10 h => ?_)
            refine r_if_ne (tgt := 130) X dX5_weekLine_125 (by decide) h (fun h => ?_) (fun h => ?_)
            · refine r_aload_n X dX5_weekLine_130 rfl 2 rfl ?_
              refine r_getI X (k := 1) (Lp_N Lpk_3 rfl) Lpk_3 rfl (by decide) ui_5 (by decide) uw1_74 rfl dX5_weekLine_131 ?_
              refine r_nmI h (fun x12 h => ?_)
              refine r_istore (lv2 := [(4, .int (x12)), (3, .int (x9)), (0, .ref (ad (3))), (1, .ref (ad (h1))), (2, .int (x4))]) X dX5_weekLine_134 (by decide) rfl ?_
              exact r_sub [2, 3, 4, 1, 0] rfl (hJ136 x4 x9 x12 m10 h)
            · refine r_iconst (v := (0)) X dX5_weekLine_128 (by decide) ?_
              exact r_zret2 X rfl dX5_weekLine_129 h
          · refine r_iconst (v := (0)) X dX5_weekLine_107 (by decide) ?_
            exact r_zret2 X rfl dX5_weekLine_108 h
      · refine r_aload_n X dX5_weekLine_71 rfl 2 rfl ?_
        refine r_iconst (v := (1)) X dX5_weekLine_72 (by decide) ?_
        refine r_bipush (v := (30)) X dX5_weekLine_73 (by decide) ?_
        refine r_cVI (As := [.int ((1)), .int ((30))]) (rest := []) X (fun r9 m9 hg => k_X5_takeNumber hg) h (Lp_N Lpk_3 rfl) Lpk_3 rfl (by decide) uw3_177 uw3_179 us1_8 uw1_3 uw3_180 rfl rfl dd_X5_takeNumber ⟨Nat.le_of_ble_eq_true rfl, Nat.le_of_ble_eq_true rfl⟩ rfl (Nat.le_of_ble_eq_true rfl) dX5_weekLine_75 rfl (fun x14 m13 h => ?_)
        refine r_if_ne (tgt := 83) X dX5_weekLine_78 (by decide) h (fun h => ?_) (fun h => ?_)
        · refine r_aload_n X dX5_weekLine_83 rfl 2 rfl ?_
          refine r_getI X (k := 1) (Lp_N Lpk_3 rfl) Lpk_3 rfl (by decide) ui_5 (by decide) uw1_74 rfl dX5_weekLine_84 ?_
          refine r_nmI h (fun x15 h => ?_)
          refine r_istore_n (lv2 := [(3, .int (x15)), (4, .int ((0))), (0, .ref (ad (3))), (1, .ref (ad (h1))), (2, .int (x4))]) X dX5_weekLine_87 rfl (by decide) rfl ?_
          refine r_goto (tgt := 136) X dX5_weekLine_88 (by decide) ?_
          exact r_sub [2, 3, 4, 0, 1] rfl (hJ136 x4 x15 ((0)) m13 h)
        · refine r_iconst (v := (0)) X dX5_weekLine_81 (by decide) ?_
          exact r_zret2 X rfl dX5_weekLine_82 h
    · refine r_aload_n X dX5_weekLine_47 rfl 0 rfl ?_
      refine r_iconst (v := (5)) X dX5_weekLine_48 (by decide) ?_
      refine r_cVI (As := [.int ((5))]) (rest := []) X (fun r9 m9 hg => k_X5_wrong hg) h (Lp_N Lpk_3 rfl) Lpk_3 rfl (by decide) uw3_152 uw3_154 us1_4 uw1_3 uw3_155 rfl rfl dd_X5_wrong ⟨Nat.le_of_ble_eq_true rfl, Nat.le_of_ble_eq_true rfl⟩ rfl (Nat.le_of_ble_eq_true rfl) dX5_weekLine_49 rfl (fun x17 m16 h => ?_)
      exact r_zret2 X rfl dX5_weekLine_52 h
  unfold f_X5_weekLine at h
  refine r_aload_n X dX5_weekLine_0 rfl 0 rfl ?_
  refine r_getB X (k := 0) (of := 2) rfl (Lp_N Lpk_3 rfl) Lpk_3 rfl (by decide) ui_5 (by decide) uw1_73 rfl dX5_weekLine_1 ?_
  refine r_getIN X (k := 2) (Lp_N Lpk_1 rfl) Lpk_1 rfl (by decide) ui_9 (by decide) hl29 rfl dX5_weekLine_4 ?_
  refine r_nmI h (fun x1 h => ?_)
  refine r_istore_n (lv2 := [(2, .int (x1)), (0, .ref (ad (3))), (1, .ref (ad (h1)))]) X dX5_weekLine_7 rfl (by decide) rfl ?_
  refine r_iload_n X dX5_weekLine_8 rfl 0 rfl ?_
  refine r_bipush (v := (14)) X dX5_weekLine_9 (by decide) ?_
  refine r_icmp_eq (tgt := 38) X dX5_weekLine_11 (by decide) h (fun h => ?_) (fun h => ?_)
  · exact r_sub [1, 2, 0] rfl (hJ38 x1 mem h)
  · refine r_iload_n X dX5_weekLine_14 rfl 0 rfl ?_
    refine r_bipush (v := (15)) X dX5_weekLine_15 (by decide) ?_
    refine r_icmp_eq (tgt := 38) X dX5_weekLine_17 (by decide) h (fun h => ?_) (fun h => ?_)
    · exact r_sub [1, 2, 0] rfl (hJ38 x1 mem h)
    · refine r_iload_n X dX5_weekLine_20 rfl 0 rfl ?_
      refine r_bipush (v := (8)) X dX5_weekLine_21 (by decide) ?_
      refine r_icmp_eq (tgt := 38) X dX5_weekLine_23 (by decide) h (fun h => ?_) (fun h => ?_)
      · exact r_sub [1, 2, 0] rfl (hJ38 x1 mem h)
      · refine r_iload_n X dX5_weekLine_26 rfl 0 rfl ?_
        refine r_bipush (v := (9)) X dX5_weekLine_27 (by decide) ?_
        refine r_icmp_eq (tgt := 38) X dX5_weekLine_29 (by decide) h (fun h => ?_) (fun h => ?_)
        · exact r_sub [1, 2, 0] rfl (hJ38 x1 mem h)
        · refine r_aload_n X dX5_weekLine_32 rfl 1 rfl ?_
          refine r_iconst (v := (1)) X dX5_weekLine_33 (by decide) ?_
          refine r_cVI (As := [.int ((1))]) (rest := []) X (fun r9 m9 hg => k_X5_wrong hg) h (Lp_N Lpk_3 rfl) Lpk_3 rfl (by decide) uw3_152 uw3_154 us1_4 uw1_3 uw3_155 rfl rfl dd_X5_wrong ⟨Nat.le_of_ble_eq_true rfl, Nat.le_of_ble_eq_true rfl⟩ rfl (Nat.le_of_ble_eq_true rfl) dX5_weekLine_34 rfl (fun x3 m2 h => ?_)
          exact r_zret2 X rfl dX5_weekLine_37 h
noncomputable def f_X5_readWeek_B19 (h1 : Nat) (k19 : Int32 → Mm → Option (Int32 × Mm)) (x4 : Int32) (m5 : Mm) : Option (Int32 × Mm) :=
  if ((1000)) < x4 then (some ((0), m5)) else (if (gI m5 1 2) = ((101)) then (some ((0), m5)) else (bdI (f_X5_weekLine h1 m5) fun x7 m6 => if ¬ x7 = 0 then (bnd (x4 + (1)) fun x8 => k19 x8 m6) else (some (gI m6 3 2, m6))))
noncomputable def f_X5_readWeek (h1 : Nat) (mem : Mm) : Option (Int32 × Mm) :=
  bnd (sI mem h1 3 ((0))) fun m1 => bnd (sI m1 3 2 ((0))) fun m2 => bdV (f_X9_rewind  m2) fun m3 => lop (fun _ _ => none) (f_X5_readWeek_B19 h1 ) 4000 ((0)) m3
theorem dd_X5_readWeek : yX5_readWeek.cls = RX5 ∧ yX5_readWeek.cls ≠ "java/lang/invoke/MethodHandle" ∧ yX5_readWeek.cls ≠ "java/lang/invoke/VarHandle" ∧ (parseMethodDescriptor yX5_readWeek.desc).map (fun d => d.parameters.length) = some 1 := by decide +kernel
set_option maxHeartbeats 4000000 in
set_option maxRecDepth 100000 in
theorem k_X5_readWeek {l : Launch} {ad : Nat → Nat} {cy : Nat → ClassId} {dC : Nat → ClassId} {dI : Nat → Nat → Nat} {ks : (Nat → Nat) × (Nat → Nat)} {h1 : Nat} {mem : Mm} {r2 : Int32} {mem2 : Mm} (e1 : Lp.1 h1 = 10) (h : f_X5_readWeek h1 mem = some (r2, mem2)) : CtI l Lp ad cy dC dI ks yX5_readWeek cX5_readWeek 3 (some .int) ({ frames := 9, cells := 0, slots := 0, locals := 200 }) [.ref (ad (3)), .ref (ad (h1))] mem r2 mem2 := by
  refine CtI.of (cc := cX5_readWeek) (maxL := 3) (ret := (some .int)) (own := RX5) rfl (by decide) (Nat.le_of_ble_eq_true rfl) ?_
  intro p e s m args below meth c A X
  have hts := X.2.2.2.2.1
  have hl29 := X.2.2.2.2.2.2.1 (.fieldLinkNest "StationPiano$Reader" 29 "StationPiano$Tape" "token" "I" "StationPiano") (List.mem_of_getElem? (i := 1) rfl)
  have hl36 := X.2.2.2.2.2.2.1 (.fieldLinkNest "StationPiano$Reader" 36 "StationPiano$Week" "length" "I" "StationPiano") (List.mem_of_getElem? (i := 66) rfl)
  have hJ19 : ∀ (k19 : Int32 → Mm → Option (Int32 × Mm)) (hk19 : ∀ (x4 : Int32) (m5 : Mm), k19 x4 m5 = some (r2, mem2) → Jd p l e ({ frames := 9, cells := 0, slots := 0, locals := 200 }) s m args below meth c 3 (MQ below (PsI Lp ad cy dC dI r2 mem2 A) args s 0 0 A) A dC dI cy Lp ad m5 19 [(0, .ref (ad (3))), (1, .ref (ad (h1))), (2, .int (x4))] []) (x4 : Int32) (m5 : Mm), f_X5_readWeek_B19 h1 k19 x4 m5 = some (r2, mem2) → Jd p l e ({ frames := 9, cells := 0, slots := 0, locals := 200 }) s m args below meth c 3 (MQ below (PsI Lp ad cy dC dI r2 mem2 A) args s 0 0 A) A dC dI cy Lp ad m5 19 [(0, .ref (ad (3))), (1, .ref (ad (h1))), (2, .int (x4))] [] := by
    intro k19 hk19 x4 m5 h
    unfold f_X5_readWeek_B19 at h
    refine r_iload_n X dX5_readWeek_19 rfl 2 rfl ?_
    refine r_sipush (v := (1000)) X dX5_readWeek_20 (by decide) ?_
    refine r_icmp_gt (tgt := 57) X dX5_readWeek_23 (by decide) h (fun h => ?_) (fun h => ?_)
    · refine r_iconst (v := (0)) X dX5_readWeek_57 (by decide) ?_
      exact r_iret2 X rfl dX5_readWeek_58 h
    · refine r_aload_n X dX5_readWeek_26 rfl 0 rfl ?_
      refine r_getB X (k := 0) (of := 2) rfl (Lp_N Lpk_3 rfl) Lpk_3 rfl (by decide) ui_5 (by decide) uw1_73 rfl dX5_readWeek_27 ?_
      refine r_getIN X (k := 2) (Lp_N Lpk_1 rfl) Lpk_1 rfl (by decide) ui_9 (by decide) hl29 rfl dX5_readWeek_30 ?_
      refine r_bipush (v := (101)) X dX5_readWeek_33 (by decide) ?_
      refine r_icmp_eq (tgt := 57) X dX5_readWeek_35 (by decide) h (fun h => ?_) (fun h => ?_)
      · refine r_iconst (v := (0)) X dX5_readWeek_57 (by decide) ?_
        exact r_iret2 X rfl dX5_readWeek_58 h
      · refine r_aload_n X dX5_readWeek_38 rfl 0 rfl ?_
        refine r_aload_n X dX5_readWeek_39 rfl 1 rfl ?_
        refine r_cVI (As := [.ref (ad (h1))]) (rest := []) X (fun r9 m9 hg => k_X5_weekLine e1 hg) h (Lp_N Lpk_3 rfl) Lpk_3 rfl (by decide) uw4_22 uw4_24 us2_6 uw1_3 uw4_25 rfl rfl dd_X5_weekLine ⟨Nat.le_of_ble_eq_true rfl, Nat.le_of_ble_eq_true rfl⟩ rfl (Nat.le_of_ble_eq_true rfl) dX5_readWeek_40 rfl (fun x7 m6 h => ?_)
        refine r_if_ne (tgt := 51) X dX5_readWeek_43 (by decide) h (fun h => ?_) (fun h => ?_)
        · refine r_inc h (fun x8 e9 h => ?_)
          refine r_iinc (v := x8) (lv2 := [(2, .int (x8)), (0, .ref (ad (3))), (1, .ref (ad (h1)))]) X dX5_readWeek_51 2 rfl (by rw [e9]; rfl) (by decide) rfl ?_
          refine r_goto (tgt := 19) X dX5_readWeek_54 (by decide) ?_
          exact r_sub [1, 2, 0] rfl (hk19 x8 m6 h)
        · refine r_aload_n X dX5_readWeek_46 rfl 0 rfl ?_
          refine r_getI X (k := 2) (Lp_N Lpk_3 rfl) Lpk_3 rfl (by decide) ui_5 (by decide) uw1_75 rfl dX5_readWeek_47 ?_
          exact r_iret2 X rfl dX5_readWeek_50 h
  have hL19 : ∀ (n : Nat), ∀ (x4 : Int32) (m5 : Mm), lop (fun _ _ => none) (f_X5_readWeek_B19 h1 ) n x4 m5 = some (r2, mem2) → Jd p l e ({ frames := 9, cells := 0, slots := 0, locals := 200 }) s m args below meth c 3 (MQ below (PsI Lp ad cy dC dI r2 mem2 A) args s 0 0 A) A dC dI cy Lp ad m5 19 [(0, .ref (ad (3))), (1, .ref (ad (h1))), (2, .int (x4))] [] := by
    intro  n
    induction n with
    | zero => intro _ _ h; cases h
    | succ n ih => intro a0 a1 h; exact hJ19  _ ih a0 a1 h
  unfold f_X5_readWeek at h
  refine r_aload_n X dX5_readWeek_0 rfl 1 rfl ?_
  refine r_iconst (v := (0)) X dX5_readWeek_1 (by decide) ?_
  refine r_putIN X (k := 3) (Lp_N e1 rfl) e1 rfl (by decide) ui_10 (by decide) hl36 tyX10_ok nmX10 rfl rfl rfl dX5_readWeek_2 ?_
  refine r_nmM h (fun m1 h => ?_)
  refine r_aload_n X dX5_readWeek_5 rfl 0 rfl ?_
  refine r_iconst (v := (0)) X dX5_readWeek_6 (by decide) ?_
  refine r_putI X (k := 2) (Lp_N Lpk_3 rfl) Lpk_3 rfl (by decide) ui_5 (by decide) uw1_75 tyX5_ok nmX5 rfl rfl rfl dX5_readWeek_7 ?_
  refine r_nmM h (fun m2 h => ?_)
  refine r_aload_n X dX5_readWeek_10 rfl 0 rfl ?_
  refine r_getB X (k := 0) (of := 2) rfl (Lp_N Lpk_3 rfl) Lpk_3 rfl (by decide) ui_5 (by decide) uw1_73 rfl dX5_readWeek_11 ?_
  refine r_cVV (As := []) (rest := []) X (fun m9 hg => k_X9_rewind hg) h (Lp_N Lpk_1 rfl) Lpk_1 rfl (by decide) uw3_19 uw3_20 uw3_21 uw1_2 uw3_22 rfl rfl dd_X9_rewind ⟨Nat.le_of_ble_eq_true rfl, Nat.le_of_ble_eq_true rfl⟩ rfl (Nat.le_of_ble_eq_true rfl) dX5_readWeek_14 rfl (fun m3 h => ?_)
  refine r_iconst (v := (0)) X dX5_readWeek_17 (by decide) ?_
  refine r_istore_n (lv2 := [(2, .int ((0))), (0, .ref (ad (3))), (1, .ref (ad (h1)))]) X dX5_readWeek_18 rfl (by decide) rfl ?_
  exact r_sub [1, 2, 0] rfl (hL19 4000 ((0)) m3 h)
noncomputable def f_X6_begin_B2 (h0 : Nat) (h1 : Nat) (k2 : Int32 → Mm → Option Mm) (x1 : Int32) (m2 : Mm) : Option Mm :=
  if ((12)) ≤ x1 then (bnd (sI m2 h0 1 ((0))) fun m3 => bnd (sI m3 h0 2 (gI m3 h1 9)) fun m4 => bnd (sI m4 h0 3 (gI m4 h1 10)) fun m5 => bnd (sI m5 h0 4 (gI m5 h1 11)) fun m6 => bnd (sI m6 h0 5 ((0))) fun m7 => some m7) else (grd (inb x1 (Lp.2.1 (h0 + 1))) (bnd (sI m2 (h0 + 1) x1.toNatClampNeg ((0))) fun m8 => bnd (x1 + (1)) fun x9 => k2 x9 m8))
noncomputable def f_X6_begin (h0 : Nat) (h1 : Nat) (mem : Mm) : Option Mm :=
  lop (fun _ _ => none) (f_X6_begin_B2 h0 h1 ) 4000 ((0)) mem
theorem dd_X6_begin : yX6_begin.cls = RX6 ∧ yX6_begin.cls ≠ "java/lang/invoke/MethodHandle" ∧ yX6_begin.cls ≠ "java/lang/invoke/VarHandle" ∧ (parseMethodDescriptor yX6_begin.desc).map (fun d => d.parameters.length) = some 1 := by decide +kernel
set_option maxHeartbeats 4000000 in
set_option maxRecDepth 100000 in
theorem k_X6_begin {l : Launch} {ad : Nat → Nat} {cy : Nat → ClassId} {dC : Nat → ClassId} {dI : Nat → Nat → Nat} {ks : (Nat → Nat) × (Nat → Nat)} {h0 : Nat} {h1 : Nat} {mem : Mm} {mem2 : Mm} (e0 : Lp.1 h0 = 6) (e1 : Lp.1 h1 = 7) (h : f_X6_begin h0 h1 mem = some mem2) : CtV l Lp ad cy dC dI ks yX6_begin cX6_begin 3 none ({ frames := 0, cells := 0, slots := 0, locals := 0 }) [.ref (ad (h0)), .ref (ad (h1))] mem mem2 := by
  refine CtV.of (cc := cX6_begin) (maxL := 3) (ret := none) (own := RX6) rfl (by decide) (Nat.le_of_ble_eq_true rfl) ?_
  intro p e s m args below meth c A X
  have hts := X.2.2.2.2.1
  have hl31 := X.2.2.2.2.2.2.1 (.fieldLinkNest "StationPiano$State" 31 "StationPiano$Station" "minutes" "I" "StationPiano") (List.mem_of_getElem? (i := 45) rfl)
  have hl34 := X.2.2.2.2.2.2.1 (.fieldLinkNest "StationPiano$State" 34 "StationPiano$Station" "from" "I" "StationPiano") (List.mem_of_getElem? (i := 47) rfl)
  have hl35 := X.2.2.2.2.2.2.1 (.fieldLinkNest "StationPiano$State" 35 "StationPiano$Station" "to" "I" "StationPiano") (List.mem_of_getElem? (i := 49) rfl)
  have hJ2 : ∀ (k2 : Int32 → Mm → Option Mm) (hk2 : ∀ (x1 : Int32) (m2 : Mm), k2 x1 m2 = some mem2 → Jd p l e ({ frames := 0, cells := 0, slots := 0, locals := 0 }) s m args below meth c 3 (MQ below (PsV Lp ad cy dC dI mem2 A) args s 0 0 A) A dC dI cy Lp ad m2 2 [(0, .ref (ad (h0))), (1, .ref (ad (h1))), (2, .int (x1))] []) (x1 : Int32) (m2 : Mm), f_X6_begin_B2 h0 h1 k2 x1 m2 = some mem2 → Jd p l e ({ frames := 0, cells := 0, slots := 0, locals := 0 }) s m args below meth c 3 (MQ below (PsV Lp ad cy dC dI mem2 A) args s 0 0 A) A dC dI cy Lp ad m2 2 [(0, .ref (ad (h0))), (1, .ref (ad (h1))), (2, .int (x1))] [] := by
    intro k2 hk2 x1 m2 h
    unfold f_X6_begin_B2 at h
    refine r_iload_n X dX6_begin_2 rfl 2 rfl ?_
    refine r_bipush (v := (12)) X dX6_begin_3 (by decide) ?_
    refine r_icmp_ge (tgt := 21) X dX6_begin_5 (by decide) h (fun h => ?_) (fun h => ?_)
    · refine r_aload_n X dX6_begin_21 rfl 0 rfl ?_
      refine r_iconst (v := (0)) X dX6_begin_22 (by decide) ?_
      refine r_putI X (k := 1) (Lp_N e0 rfl) e0 rfl (by decide) ui_6 (by decide) uw2_7 tyX6_ok nmX6 rfl rfl rfl dX6_begin_23 ?_
      refine r_nmM h (fun m3 h => ?_)
      refine r_aload_n X dX6_begin_26 rfl 0 rfl ?_
      refine r_aload_n X dX6_begin_27 rfl 1 rfl ?_
      refine r_getIN X (k := 9) (Lp_N e1 rfl) e1 rfl (by decide) ui_7 (by decide) hl31 rfl dX6_begin_28 ?_
      refine r_putI X (k := 2) (Lp_N e0 rfl) e0 rfl (by decide) ui_6 (by decide) uw2_9 tyX6_ok nmX6 rfl rfl rfl dX6_begin_31 ?_
      refine r_nmM h (fun m4 h => ?_)
      refine r_aload_n X dX6_begin_34 rfl 0 rfl ?_
      refine r_aload_n X dX6_begin_35 rfl 1 rfl ?_
      refine r_getIN X (k := 10) (Lp_N e1 rfl) e1 rfl (by decide) ui_7 (by decide) hl34 rfl dX6_begin_36 ?_
      refine r_putI X (k := 3) (Lp_N e0 rfl) e0 rfl (by decide) ui_6 (by decide) uw2_11 tyX6_ok nmX6 rfl rfl rfl dX6_begin_39 ?_
      refine r_nmM h (fun m5 h => ?_)
      refine r_aload_n X dX6_begin_42 rfl 0 rfl ?_
      refine r_aload_n X dX6_begin_43 rfl 1 rfl ?_
      refine r_getIN X (k := 11) (Lp_N e1 rfl) e1 rfl (by decide) ui_7 (by decide) hl35 rfl dX6_begin_44 ?_
      refine r_putI X (k := 4) (Lp_N e0 rfl) e0 rfl (by decide) ui_6 (by decide) uw2_14 tyX6_ok nmX6 rfl rfl rfl dX6_begin_47 ?_
      refine r_nmM h (fun m6 h => ?_)
      refine r_aload_n X dX6_begin_50 rfl 0 rfl ?_
      refine r_iconst (v := (0)) X dX6_begin_51 (by decide) ?_
      refine r_putI X (k := 5) (Lp_N e0 rfl) e0 rfl (by decide) ui_6 (by decide) uw2_17 tyX6_ok nmX6 rfl rfl rfl dX6_begin_52 ?_
      refine r_nmM h (fun m7 h => ?_)
      exact r_vret X rfl dX6_begin_55 h
    · refine r_aload_n X dX6_begin_8 rfl 0 rfl ?_
      refine r_getF X (k := 0) (of := 1) rfl (Lp_N e0 rfl) e0 rfl (by decide) ui_6 (by decide) uw2_4 rfl dX6_begin_9 ?_
      refine r_iload_n X dX6_begin_12 rfl 2 rfl ?_
      refine r_iconst (v := (0)) X dX6_begin_13 (by decide) ?_
      refine r_iast X (Lp_N (Lp_6_0 e0) rfl) (Lp_6_0 e0) h dX6_begin_14 (fun h => ?_)
      refine r_nmM h (fun m8 h => ?_)
      refine r_inc h (fun x9 e9 h => ?_)
      refine r_iinc (v := x9) (lv2 := [(2, .int (x9)), (0, .ref (ad (h0))), (1, .ref (ad (h1)))]) X dX6_begin_15 2 rfl (by rw [e9]; rfl) (by decide) rfl ?_
      refine r_goto (tgt := 2) X dX6_begin_18 (by decide) ?_
      exact r_sub [1, 2, 0] rfl (hk2 x9 m8 h)
  have hL2 : ∀ (n : Nat), ∀ (x1 : Int32) (m2 : Mm), lop (fun _ _ => none) (f_X6_begin_B2 h0 h1 ) n x1 m2 = some mem2 → Jd p l e ({ frames := 0, cells := 0, slots := 0, locals := 0 }) s m args below meth c 3 (MQ below (PsV Lp ad cy dC dI mem2 A) args s 0 0 A) A dC dI cy Lp ad m2 2 [(0, .ref (ad (h0))), (1, .ref (ad (h1))), (2, .int (x1))] [] := by
    intro  n
    induction n with
    | zero => intro _ _ h; cases h
    | succ n ih => intro a0 a1 h; exact hJ2  _ ih a0 a1 h
  unfold f_X6_begin at h
  refine r_iconst (v := (0)) X dX6_begin_0 (by decide) ?_
  refine r_istore_n (lv2 := [(2, .int ((0))), (0, .ref (ad (h0))), (1, .ref (ad (h1)))]) X dX6_begin_1 rfl (by decide) rfl ?_
  exact r_sub [1, 2, 0] rfl (hL2 4000 ((0)) mem h)
