noncomputable def f_X11_isDigit (p0 : Int32) (mem : Mm) : Option (Int32 × Mm) :=
  if p0 < 0 then (grd (bok ((0))) (some ((0), mem))) else (if ((9)) < p0 then (grd (bok ((0))) (some ((0), mem))) else (grd (bok ((1))) (some ((1), mem))))
theorem dd_X11_isDigit : yX11_isDigit.cls ≠ "java/lang/invoke/MethodHandle" ∧ yX11_isDigit.cls ≠ "java/lang/invoke/VarHandle" ∧ (parseMethodDescriptor yX11_isDigit.desc).map (fun d => d.parameters.length) = some 1 := by decide +kernel
set_option maxHeartbeats 4000000 in
set_option maxRecDepth 100000 in
theorem k_X11_isDigit {l : Launch} {ad : Nat → Nat} {cy : Nat → ClassId} {dC : Nat → ClassId} {dI : Nat → Nat → Nat} {ks : (Nat → Nat) × (Nat → Nat)} {p0 : Int32} {mem : Mm} {r2 : Int32} {mem2 : Mm}  (h : f_X11_isDigit p0 mem = some (r2, mem2)) : CtI l Lp ad cy dC dI ks yX11_isDigit cX11_isDigit 1 (some .boolean) ({ frames := 0, cells := 0, slots := 0, locals := 0 }) [.int (p0)] mem r2 mem2 := by
  refine CtI.of (cc := cX11_isDigit) (maxL := 1) (ret := (some .boolean)) (own := RX11) rfl (by decide) (Nat.le_of_ble_eq_true rfl) ?_
  intro p e s m args below meth c A X
  have hts := X.2.2.2.2.1
  unfold f_X11_isDigit at h
  refine r_iload_n X dX11_isDigit_0 rfl 0 rfl ?_
  refine r_if_lt (tgt := 14) X dX11_isDigit_1 (by decide) h (fun h => ?_) (fun h => ?_)
  · refine r_iconst (v := (0)) X dX11_isDigit_14 (by decide) ?_
    exact r_zret2 X rfl dX11_isDigit_15 h
  · refine r_iload_n X dX11_isDigit_4 rfl 0 rfl ?_
    refine r_bipush (v := (9)) X dX11_isDigit_5 (by decide) ?_
    refine r_icmp_gt (tgt := 14) X dX11_isDigit_7 (by decide) h (fun h => ?_) (fun h => ?_)
    · refine r_iconst (v := (0)) X dX11_isDigit_14 (by decide) ?_
      exact r_zret2 X rfl dX11_isDigit_15 h
    · refine r_iconst (v := (1)) X dX11_isDigit_10 (by decide) ?_
      refine r_goto (tgt := 15) X dX11_isDigit_11 (by decide) ?_
      exact r_zret2 X rfl dX11_isDigit_15 h
noncomputable def f_X11_gain (p0 : Int32) (p1 : Int32) (p2 : Int32) (p3 : Int32) (p4 : Int32) (mem : Mm) : Option (Int32 × Mm) :=
  if ¬ p3 = ((1)) then (if ¬ p4 = ((1)) then (some ((0), mem)) else (some (p2, mem))) else (if ¬ p4 = ((1)) then (some (p1, mem)) else (some (-p0, mem)))
theorem dd_X11_gain : yX11_gain.cls ≠ "java/lang/invoke/MethodHandle" ∧ yX11_gain.cls ≠ "java/lang/invoke/VarHandle" ∧ (parseMethodDescriptor yX11_gain.desc).map (fun d => d.parameters.length) = some 5 := by decide +kernel
set_option maxHeartbeats 4000000 in
set_option maxRecDepth 100000 in
theorem k_X11_gain {l : Launch} {ad : Nat → Nat} {cy : Nat → ClassId} {dC : Nat → ClassId} {dI : Nat → Nat → Nat} {ks : (Nat → Nat) × (Nat → Nat)} {p0 : Int32} {p1 : Int32} {p2 : Int32} {p3 : Int32} {p4 : Int32} {mem : Mm} {r2 : Int32} {mem2 : Mm}  (h : f_X11_gain p0 p1 p2 p3 p4 mem = some (r2, mem2)) : CtI l Lp ad cy dC dI ks yX11_gain cX11_gain 5 (some .int) ({ frames := 0, cells := 0, slots := 0, locals := 0 }) [.int (p0), .int (p1), .int (p2), .int (p3), .int (p4)] mem r2 mem2 := by
  refine CtI.of (cc := cX11_gain) (maxL := 5) (ret := (some .int)) (own := RX11) rfl (by decide) (Nat.le_of_ble_eq_true rfl) ?_
  intro p e s m args below meth c A X
  have hts := X.2.2.2.2.1
  unfold f_X11_gain at h
  refine r_iload_n X dX11_gain_0 rfl 3 rfl ?_
  refine r_iconst (v := (1)) X dX11_gain_1 (by decide) ?_
  refine r_icmp_ne (tgt := 18) X dX11_gain_2 (by decide) h (fun h => ?_) (fun h => ?_)
  · refine r_iload X dX11_gain_18 4 rfl ?_
    refine r_iconst (v := (1)) X dX11_gain_20 (by decide) ?_
    refine r_icmp_ne (tgt := 28) X dX11_gain_21 (by decide) h (fun h => ?_) (fun h => ?_)
    · refine r_iconst (v := (0)) X dX11_gain_28 (by decide) ?_
      exact r_iret2 X rfl dX11_gain_29 h
    · refine r_iload_n X dX11_gain_24 rfl 2 rfl ?_
      refine r_goto (tgt := 29) X dX11_gain_25 (by decide) ?_
      exact r_iret2 X rfl dX11_gain_29 h
  · refine r_iload X dX11_gain_5 4 rfl ?_
    refine r_iconst (v := (1)) X dX11_gain_7 (by decide) ?_
    refine r_icmp_ne (tgt := 16) X dX11_gain_8 (by decide) h (fun h => ?_) (fun h => ?_)
    · refine r_iload_n X dX11_gain_16 rfl 1 rfl ?_
      exact r_iret2 X rfl dX11_gain_17 h
    · refine r_iload_n X dX11_gain_11 rfl 0 rfl ?_
      refine r_ineg X dX11_gain_12 ?_
      refine r_goto (tgt := 17) X dX11_gain_13 (by decide) ?_
      exact r_iret2 X rfl dX11_gain_17 h
noncomputable def f_X11_isRest (p0 : Int32) (p1 : Int32) (p2 : Int32) (p3 : Int32) (mem : Mm) : Option (Int32 × Mm) :=
  grd (decide (¬ (2 : Int32) = 0)) (bnd (p3 / ((2))) fun x1 => grd (decide (¬ (2 : Int32) = 0)) (bnd (p3 - p3 / ((2)) * ((2))) fun x2 => bdI (f_X11_gain p0 p1 p2 (((1)) - x1) x2 mem) fun x4 m3 => bdI (f_X11_gain p0 p1 p2 x1 x2 m3) fun x6 m5 => if x6 < x4 then (grd (bok ((0))) (some ((0), m5))) else (bdI (f_X11_gain p0 p1 p2 (((1)) - x2) x1 m5) fun x8 m7 => bdI (f_X11_gain p0 p1 p2 x2 x1 m7) fun x10 m9 => if x10 < x8 then (grd (bok ((0))) (some ((0), m9))) else (grd (bok ((1))) (some ((1), m9))))))
theorem dd_X11_isRest : yX11_isRest.cls ≠ "java/lang/invoke/MethodHandle" ∧ yX11_isRest.cls ≠ "java/lang/invoke/VarHandle" ∧ (parseMethodDescriptor yX11_isRest.desc).map (fun d => d.parameters.length) = some 4 := by decide +kernel
set_option maxHeartbeats 4000000 in
set_option maxRecDepth 100000 in
theorem k_X11_isRest {l : Launch} {ad : Nat → Nat} {cy : Nat → ClassId} {dC : Nat → ClassId} {dI : Nat → Nat → Nat} {ks : (Nat → Nat) × (Nat → Nat)} {p0 : Int32} {p1 : Int32} {p2 : Int32} {p3 : Int32} {mem : Mm} {r2 : Int32} {mem2 : Mm}  (h : f_X11_isRest p0 p1 p2 p3 mem = some (r2, mem2)) : CtI l Lp ad cy dC dI ks yX11_isRest cX11_isRest 6 (some .boolean) ({ frames := 1, cells := 0, slots := 0, locals := 24 }) [.int (p0), .int (p1), .int (p2), .int (p3)] mem r2 mem2 := by
  refine CtI.of (cc := cX11_isRest) (maxL := 6) (ret := (some .boolean)) (own := RX11) rfl (by decide) (Nat.le_of_ble_eq_true rfl) ?_
  intro p e s m args below meth c A X
  have hts := X.2.2.2.2.1
  unfold f_X11_isRest at h
  refine r_iload_n X dX11_isRest_0 rfl 3 rfl ?_
  refine r_iconst (v := (2)) X dX11_isRest_1 (by decide) ?_
  refine r_div h (fun hz h => ?_)
  refine r_idiv X dX11_isRest_2 hz ?_
  refine r_nmI h (fun x1 h => ?_)
  refine r_istore (lv2 := [(4, .int (x1)), (0, .int (p0)), (1, .int (p1)), (2, .int (p2)), (3, .int (p3))]) X dX11_isRest_3 (by decide) rfl ?_
  refine r_iload_n X dX11_isRest_5 rfl 4 rfl ?_
  refine r_iconst (v := (2)) X dX11_isRest_6 (by decide) ?_
  refine r_div h (fun hz h => ?_)
  refine r_irem X dX11_isRest_7 hz ?_
  refine r_nmI h (fun x2 h => ?_)
  refine r_istore (lv2 := [(5, .int (x2)), (4, .int (x1)), (0, .int (p0)), (1, .int (p1)), (2, .int (p2)), (3, .int (p3))]) X dX11_isRest_8 (by decide) rfl ?_
  refine r_iload_n X dX11_isRest_10 rfl 2 rfl ?_
  refine r_iload_n X dX11_isRest_11 rfl 3 rfl ?_
  refine r_iload_n X dX11_isRest_12 rfl 4 rfl ?_
  refine r_iconst (v := (1)) X dX11_isRest_13 (by decide) ?_
  refine r_iload X dX11_isRest_14 1 rfl ?_
  refine r_isub X dX11_isRest_16 ?_
  refine r_iload X dX11_isRest_17 0 rfl ?_
  refine r_cSI (As := [.int (p0), .int (p1), .int (p2), .int (((1)) - x1), .int (x2)]) (rest := []) X (fun r9 m9 hg => k_X11_gain hg) h uw5_173 uw5_174 uw1_1 uw5_175 rfl rfl dd_X11_gain ⟨Nat.le_of_ble_eq_true rfl, Nat.le_of_ble_eq_true rfl⟩ rfl (Nat.le_of_ble_eq_true rfl) dX11_isRest_19 rfl (fun x4 m3 h => ?_)
  refine r_iload_n X dX11_isRest_22 rfl 2 rfl ?_
  refine r_iload_n X dX11_isRest_23 rfl 3 rfl ?_
  refine r_iload_n X dX11_isRest_24 rfl 4 rfl ?_
  refine r_iload X dX11_isRest_25 1 rfl ?_
  refine r_iload X dX11_isRest_27 0 rfl ?_
  refine r_cSI (As := [.int (p0), .int (p1), .int (p2), .int (x1), .int (x2)]) (rest := [.int (x4)]) X (fun r9 m9 hg => k_X11_gain hg) h uw5_173 uw5_174 uw1_1 uw5_175 rfl rfl dd_X11_gain ⟨Nat.le_of_ble_eq_true rfl, Nat.le_of_ble_eq_true rfl⟩ rfl (Nat.le_of_ble_eq_true rfl) dX11_isRest_29 rfl (fun x6 m5 h => ?_)
  refine r_icmp_gt (tgt := 64) X dX11_isRest_32 (by decide) h (fun h => ?_) (fun h => ?_)
  · refine r_iconst (v := (0)) X dX11_isRest_64 (by decide) ?_
    exact r_zret2 X rfl dX11_isRest_65 h
  · refine r_iload_n X dX11_isRest_35 rfl 2 rfl ?_
    refine r_iload_n X dX11_isRest_36 rfl 3 rfl ?_
    refine r_iload_n X dX11_isRest_37 rfl 4 rfl ?_
    refine r_iconst (v := (1)) X dX11_isRest_38 (by decide) ?_
    refine r_iload X dX11_isRest_39 0 rfl ?_
    refine r_isub X dX11_isRest_41 ?_
    refine r_iload X dX11_isRest_42 1 rfl ?_
    refine r_cSI (As := [.int (p0), .int (p1), .int (p2), .int (((1)) - x2), .int (x1)]) (rest := []) X (fun r9 m9 hg => k_X11_gain hg) h uw5_173 uw5_174 uw1_1 uw5_175 rfl rfl dd_X11_gain ⟨Nat.le_of_ble_eq_true rfl, Nat.le_of_ble_eq_true rfl⟩ rfl (Nat.le_of_ble_eq_true rfl) dX11_isRest_44 rfl (fun x8 m7 h => ?_)
    refine r_iload_n X dX11_isRest_47 rfl 2 rfl ?_
    refine r_iload_n X dX11_isRest_48 rfl 3 rfl ?_
    refine r_iload_n X dX11_isRest_49 rfl 4 rfl ?_
    refine r_iload X dX11_isRest_50 0 rfl ?_
    refine r_iload X dX11_isRest_52 1 rfl ?_
    refine r_cSI (As := [.int (p0), .int (p1), .int (p2), .int (x2), .int (x1)]) (rest := [.int (x8)]) X (fun r9 m9 hg => k_X11_gain hg) h uw5_173 uw5_174 uw1_1 uw5_175 rfl rfl dd_X11_gain ⟨Nat.le_of_ble_eq_true rfl, Nat.le_of_ble_eq_true rfl⟩ rfl (Nat.le_of_ble_eq_true rfl) dX11_isRest_54 rfl (fun x10 m9 h => ?_)
    refine r_icmp_gt (tgt := 64) X dX11_isRest_57 (by decide) h (fun h => ?_) (fun h => ?_)
    · refine r_iconst (v := (0)) X dX11_isRest_64 (by decide) ?_
      exact r_zret2 X rfl dX11_isRest_65 h
    · refine r_iconst (v := (1)) X dX11_isRest_60 (by decide) ?_
      refine r_goto (tgt := 65) X dX11_isRest_61 (by decide) ?_
      exact r_zret2 X rfl dX11_isRest_65 h
noncomputable def f_X11_rests_J27 (p1 : Int32) (p2 : Int32) (p3 : Int32) (p4 : Int32) (m7 : Mm) : Option (Option Int32 × Mm) :=
  some (none, m7)
noncomputable def f_X11_rests_J74 (p1 : Int32) (p2 : Int32) (p3 : Int32) (p4 : Int32) (k41 : Int32 → Int32 → Mm → Option (Option Int32 × Mm)) (x14 : Int32) (x15 : Int32) (m16 : Mm) : Option (Option Int32 × Mm) :=
  bnd (x15 + (1)) fun x17 => k41 x14 x17 m16
noncomputable def f_X11_rests_B41 (p1 : Int32) (p2 : Int32) (p3 : Int32) (p4 : Int32) (k41 : Int32 → Int32 → Mm → Option (Option Int32 × Mm)) (x8 : Int32) (x9 : Int32) (m10 : Mm) : Option (Option Int32 × Mm) :=
  if ((4)) ≤ x9 then (if p4 = ((-1)) then (some (some (x8), m10)) else (some (none, m10))) else (bdI (f_X11_isRest p1 p2 p3 x9 m10) fun x12 m11 => if ¬ x12 = 0 then (if ¬ x8 = p4 then (bnd (x8 + (1)) fun x13 => f_X11_rests_J74 p1 p2 p3 p4 k41 x13 x9 m11) else (some (some (x9), m11))) else (f_X11_rests_J74 p1 p2 p3 p4 k41 x8 x9 m11))
noncomputable def f_X11_rests (p1 : Int32) (p2 : Int32) (p3 : Int32) (p4 : Int32) (mem : Mm) : Option (Option Int32 × Mm) :=
  bdI (f_X11_isDigit p1 mem) fun x2 m1 => if x2 = 0 then (f_X11_rests_J27 p1 p2 p3 p4 m1) else (bdI (f_X11_isDigit p2 m1) fun x4 m3 => if x4 = 0 then (f_X11_rests_J27 p1 p2 p3 p4 m3) else (bdI (f_X11_isDigit p3 m3) fun x6 m5 => if x6 = 0 then (f_X11_rests_J27 p1 p2 p3 p4 m5) else (if ((-1)) ≤ p4 then (lop (fun _ _ _ => none) (f_X11_rests_B41 p1 p2 p3 p4 ) 4000 ((0)) ((0)) m5) else (f_X11_rests_J27 p1 p2 p3 p4 m5))))
theorem dd_X11_rests : yX11_rests.cls = RX11 ∧ yX11_rests.cls ≠ "java/lang/invoke/MethodHandle" ∧ yX11_rests.cls ≠ "java/lang/invoke/VarHandle" ∧ (parseMethodDescriptor yX11_rests.desc).map (fun d => d.parameters.length) = some 4 := by decide +kernel
set_option maxHeartbeats 4000000 in
set_option maxRecDepth 100000 in
theorem k_X11_rests {l : Launch} {ad : Nat → Nat} {cy : Nat → ClassId} {dC : Nat → ClassId} {dI : Nat → Nat → Nat} {ks : (Nat → Nat) × (Nat → Nat)} {p1 : Int32} {p2 : Int32} {p3 : Int32} {p4 : Int32} {mem : Mm} {o2 : Option Int32} {mem2 : Mm} (hnt : l.stackTraces = false)  (h : f_X11_rests p1 p2 p3 p4 mem = some (o2, mem2)) : CtX l Lp ad cy dC dI ks yX11_rests cX11_rests 7 (some .int) ({ frames := 6, cells := 1, slots := 6, locals := 89 }) [.ref (ad (0)), .int (p1), .int (p2), .int (p3), .int (p4)] mem o2 mem2 := by
  refine CtX.of (cc := cX11_rests) (maxL := 7) (ret := (some .int)) (own := RX11) rfl (by decide) (Nat.le_of_ble_eq_true rfl) ?_
  intro p e s m args below meth c A X hT hex
  have hts := X.2.2.2.2.1
  have hJ27 : ∀ (m7 : Mm), f_X11_rests_J27 p1 p2 p3 p4 m7 = some (o2, mem2) → Jd p l e ({ frames := 6, cells := 1, slots := 6, locals := 89 }) s m args below meth c 7 (vx_MQ below (QcX Lp ad cy dC dI o2 mem2 A) (XcX Lp ad cy dC dI o2 mem2 A) args s 1 6 A) A dC dI cy Lp ad m7 27 [] [] := by
    intro m7 h
    unfold f_X11_rests_J27 at h
    exact r_throw X hT hnt hex rfl dX11_rests_27 dX11_rests_30 dX11_rests_31 dX11_rests_34 (Nat.le_of_ble_eq_true rfl) (Nat.le_of_ble_eq_true rfl) (Nat.le_of_ble_eq_true rfl) (Nat.le_of_ble_eq_true rfl) h
  have hJ74 : ∀ (k41 : Int32 → Int32 → Mm → Option (Option Int32 × Mm)) (hk41 : ∀ (x8 : Int32) (x9 : Int32) (m10 : Mm), k41 x8 x9 m10 = some (o2, mem2) → Jd p l e ({ frames := 6, cells := 1, slots := 6, locals := 89 }) s m args below meth c 7 (vx_MQ below (QcX Lp ad cy dC dI o2 mem2 A) (XcX Lp ad cy dC dI o2 mem2 A) args s 1 6 A) A dC dI cy Lp ad m10 41 [(1, .int (p1)), (2, .int (p2)), (3, .int (p3)), (4, .int (p4)), (5, .int (x8)), (6, .int (x9))] []) (x14 : Int32) (x15 : Int32) (m16 : Mm), f_X11_rests_J74 p1 p2 p3 p4 k41 x14 x15 m16 = some (o2, mem2) → Jd p l e ({ frames := 6, cells := 1, slots := 6, locals := 89 }) s m args below meth c 7 (vx_MQ below (QcX Lp ad cy dC dI o2 mem2 A) (XcX Lp ad cy dC dI o2 mem2 A) args s 1 6 A) A dC dI cy Lp ad m16 74 [(1, .int (p1)), (2, .int (p2)), (3, .int (p3)), (4, .int (p4)), (5, .int (x14)), (6, .int (x15))] [] := by
    intro k41 hk41 x14 x15 m16 h
    unfold f_X11_rests_J74 at h
    refine r_inc h (fun x17 e9 h => ?_)
    refine r_iinc (v := x17) (lv2 := [(6, .int (x17)), (1, .int (p1)), (2, .int (p2)), (3, .int (p3)), (4, .int (p4)), (5, .int (x14))]) X dX11_rests_74 5 rfl (by rw [e9]; rfl) (by decide) rfl ?_
    refine r_goto (tgt := 41) X dX11_rests_77 (by decide) ?_
    exact r_sub [1, 2, 3, 4, 5, 0] rfl (hk41 x14 x17 m16 h)
  have hJ41 : ∀ (k41 : Int32 → Int32 → Mm → Option (Option Int32 × Mm)) (hk41 : ∀ (x8 : Int32) (x9 : Int32) (m10 : Mm), k41 x8 x9 m10 = some (o2, mem2) → Jd p l e ({ frames := 6, cells := 1, slots := 6, locals := 89 }) s m args below meth c 7 (vx_MQ below (QcX Lp ad cy dC dI o2 mem2 A) (XcX Lp ad cy dC dI o2 mem2 A) args s 1 6 A) A dC dI cy Lp ad m10 41 [(1, .int (p1)), (2, .int (p2)), (3, .int (p3)), (4, .int (p4)), (5, .int (x8)), (6, .int (x9))] []) (x8 : Int32) (x9 : Int32) (m10 : Mm), f_X11_rests_B41 p1 p2 p3 p4 k41 x8 x9 m10 = some (o2, mem2) → Jd p l e ({ frames := 6, cells := 1, slots := 6, locals := 89 }) s m args below meth c 7 (vx_MQ below (QcX Lp ad cy dC dI o2 mem2 A) (XcX Lp ad cy dC dI o2 mem2 A) args s 1 6 A) A dC dI cy Lp ad m10 41 [(1, .int (p1)), (2, .int (p2)), (3, .int (p3)), (4, .int (p4)), (5, .int (x8)), (6, .int (x9))] [] := by
    intro k41 hk41 x8 x9 m10 h
    unfold f_X11_rests_B41 at h
    refine r_iload X dX11_rests_41 5 rfl ?_
    refine r_iconst (v := (4)) X dX11_rests_43 (by decide) ?_
    refine r_icmp_ge (tgt := 80) X dX11_rests_44 (by decide) h (fun h => ?_) (fun h => ?_)
    · refine r_iload X dX11_rests_80 3 rfl ?_
      refine r_iconst (v := (-1)) X dX11_rests_82 (by decide) ?_
      refine r_icmp_eq (tgt := 94) X dX11_rests_83 (by decide) h (fun h => ?_) (fun h => ?_)
      · refine r_iload X dX11_rests_94 4 rfl ?_
        exact r_iretX X rfl dX11_rests_96 h
      · exact r_throw X hT hnt hex rfl dX11_rests_86 dX11_rests_89 dX11_rests_90 dX11_rests_93 (Nat.le_of_ble_eq_true rfl) (Nat.le_of_ble_eq_true rfl) (Nat.le_of_ble_eq_true rfl) (Nat.le_of_ble_eq_true rfl) h
    · refine r_iload_n X dX11_rests_47 rfl 0 rfl ?_
      refine r_iload_n X dX11_rests_48 rfl 1 rfl ?_
      refine r_iload_n X dX11_rests_49 rfl 2 rfl ?_
      refine r_iload X dX11_rests_50 5 rfl ?_
      refine r_cSI (As := [.int (p1), .int (p2), .int (p3), .int (x9)]) (rest := []) X (fun r9 m9 hg => k_X11_isRest hg) h uw5_170 uw5_171 uw1_1 uw5_172 rfl rfl dd_X11_isRest ⟨Nat.le_of_ble_eq_true rfl, Nat.le_of_ble_eq_true rfl⟩ rfl (Nat.le_of_ble_eq_true rfl) dX11_rests_52 rfl (fun x12 m11 h => ?_)
      refine r_if_ne (tgt := 61) X dX11_rests_55 (by decide) h (fun h => ?_) (fun h => ?_)
      · refine r_iload X dX11_rests_61 4 rfl ?_
        refine r_iload X dX11_rests_63 3 rfl ?_
        refine r_icmp_ne (tgt := 71) X dX11_rests_65 (by decide) h (fun h => ?_) (fun h => ?_)
        · refine r_inc h (fun x13 e9 h => ?_)
          refine r_iinc (v := x13) (lv2 := [(5, .int (x13)), (1, .int (p1)), (2, .int (p2)), (3, .int (p3)), (4, .int (p4)), (6, .int (x9))]) X dX11_rests_71 4 rfl (by rw [e9]; rfl) (by decide) rfl ?_
          exact r_sub [1, 2, 3, 4, 0, 5] rfl (hJ74 k41 hk41 x13 x9 m11 h)
        · refine r_iload X dX11_rests_68 5 rfl ?_
          exact r_iretX X rfl dX11_rests_70 h
      · refine r_goto (tgt := 74) X dX11_rests_58 (by decide) ?_
        exact r_sub [0, 1, 2, 3, 4, 5] rfl (hJ74 k41 hk41 x8 x9 m11 h)
  have hL41 : ∀ (n : Nat), ∀ (x8 : Int32) (x9 : Int32) (m10 : Mm), lop (fun _ _ _ => none) (f_X11_rests_B41 p1 p2 p3 p4 ) n x8 x9 m10 = some (o2, mem2) → Jd p l e ({ frames := 6, cells := 1, slots := 6, locals := 89 }) s m args below meth c 7 (vx_MQ below (QcX Lp ad cy dC dI o2 mem2 A) (XcX Lp ad cy dC dI o2 mem2 A) args s 1 6 A) A dC dI cy Lp ad m10 41 [(1, .int (p1)), (2, .int (p2)), (3, .int (p3)), (4, .int (p4)), (5, .int (x8)), (6, .int (x9))] [] := by
    intro  n
    induction n with
    | zero => intro _ _ _ h; cases h
    | succ n ih => intro a0 a1 a2 h; exact hJ41  _ ih a0 a1 a2 h
  unfold f_X11_rests at h
  refine r_iload_n X dX11_rests_0 rfl 1 rfl ?_
  refine r_cSI (As := [.int (p1)]) (rest := []) X (fun r9 m9 hg => k_X11_isDigit hg) h uw5_167 uw5_168 uw1_1 uw5_169 rfl rfl dd_X11_isDigit ⟨Nat.le_of_ble_eq_true rfl, Nat.le_of_ble_eq_true rfl⟩ rfl (Nat.le_of_ble_eq_true rfl) dX11_rests_1 rfl (fun x2 m1 h => ?_)
  refine r_if_eq (tgt := 27) X dX11_rests_4 (by decide) h (fun h => ?_) (fun h => ?_)
  · exact r_sub [] rfl (hJ27 m1 h)
  · refine r_iload_n X dX11_rests_7 rfl 2 rfl ?_
    refine r_cSI (As := [.int (p2)]) (rest := []) X (fun r9 m9 hg => k_X11_isDigit hg) h uw5_167 uw5_168 uw1_1 uw5_169 rfl rfl dd_X11_isDigit ⟨Nat.le_of_ble_eq_true rfl, Nat.le_of_ble_eq_true rfl⟩ rfl (Nat.le_of_ble_eq_true rfl) dX11_rests_8 rfl (fun x4 m3 h => ?_)
    refine r_if_eq (tgt := 27) X dX11_rests_11 (by decide) h (fun h => ?_) (fun h => ?_)
    · exact r_sub [] rfl (hJ27 m3 h)
    · refine r_iload_n X dX11_rests_14 rfl 3 rfl ?_
      refine r_cSI (As := [.int (p3)]) (rest := []) X (fun r9 m9 hg => k_X11_isDigit hg) h uw5_167 uw5_168 uw1_1 uw5_169 rfl rfl dd_X11_isDigit ⟨Nat.le_of_ble_eq_true rfl, Nat.le_of_ble_eq_true rfl⟩ rfl (Nat.le_of_ble_eq_true rfl) dX11_rests_15 rfl (fun x6 m5 h => ?_)
      refine r_if_eq (tgt := 27) X dX11_rests_18 (by decide) h (fun h => ?_) (fun h => ?_)
      · exact r_sub [] rfl (hJ27 m5 h)
      · refine r_iload X dX11_rests_21 4 rfl ?_
        refine r_iconst (v := (-1)) X dX11_rests_23 (by decide) ?_
        refine r_icmp_ge (tgt := 35) X dX11_rests_24 (by decide) h (fun h => ?_) (fun h => ?_)
        · refine r_iconst (v := (0)) X dX11_rests_35 (by decide) ?_
          refine r_istore (lv2 := [(5, .int ((0))), (0, .ref (ad (0))), (1, .int (p1)), (2, .int (p2)), (3, .int (p3)), (4, .int (p4))]) X dX11_rests_36 (by decide) rfl ?_
          refine r_iconst (v := (0)) X dX11_rests_38 (by decide) ?_
          refine r_istore (lv2 := [(6, .int ((0))), (5, .int ((0))), (0, .ref (ad (0))), (1, .int (p1)), (2, .int (p2)), (3, .int (p3)), (4, .int (p4))]) X dX11_rests_39 (by decide) rfl ?_
          exact r_sub [3, 4, 5, 6, 1, 0] rfl (hL41 4000 ((0)) ((0)) m5 h)
        · exact r_sub [] rfl (hJ27 m5 h)
noncomputable def f_X11_rule_J18 (p1 : Int32) (p2 : Int32) (m7 : Mm) : Option (Option Int32 × Mm) :=
  some (none, m7)
noncomputable def f_X11_rule_B62 (p1 : Int32) (p2 : Int32) (k62 : Int32 → Int32 → Mm → Option (Option Int32 × Mm)) (x8 : Int32) (x9 : Int32) (m10 : Mm) : Option (Option Int32 × Mm) :=
  if p1 ≤ x9 then (some (some (x8), m10)) else (bdV (f_X1_pass 66 ((0)) m10) fun m11 => bnd (x8 + (gI m11 82 10)) fun x12 => bnd (x9 + (1)) fun x13 => k62 x12 x13 m11)
noncomputable def f_X11_rule (p1 : Int32) (p2 : Int32) (mem : Mm) : Option (Option Int32 × Mm) :=
  if p1 < ((1)) then (f_X11_rule_J18 p1 p2 mem) else (if ((30)) < p1 then (f_X11_rule_J18 p1 p2 mem) else (bdI (f_X11_isEach p2 mem) fun x2 m1 => if ¬ x2 = 0 then (bdV (f_X6_copyFrom 66 64 m1) fun m3 => bnd (sI m3 66 2 p2) fun m4 => grd (decide (Lp.1 (gR m4 0 2) = 7)) (bnd (gR m4 0 2) fun q5 => bdV (f_X1_prepare q5 p2 m4) fun m6 => lop (fun _ _ _ => none) (f_X11_rule_B62 p1 p2 ) 4000 ((0)) ((0)) m6)) else (f_X11_rule_J18 p1 p2 m1)))
theorem dd_X11_rule : yX11_rule.cls = RX11 ∧ yX11_rule.cls ≠ "java/lang/invoke/MethodHandle" ∧ yX11_rule.cls ≠ "java/lang/invoke/VarHandle" ∧ (parseMethodDescriptor yX11_rule.desc).map (fun d => d.parameters.length) = some 2 := by decide +kernel
set_option maxHeartbeats 4000000 in
set_option maxRecDepth 100000 in
theorem k_X11_rule {l : Launch} {ad : Nat → Nat} {cy : Nat → ClassId} {dC : Nat → ClassId} {dI : Nat → Nat → Nat} {ks : (Nat → Nat) × (Nat → Nat)} {p1 : Int32} {p2 : Int32} {mem : Mm} {o2 : Option Int32} {mem2 : Mm} (hnt : l.stackTraces = false)  (h : f_X11_rule p1 p2 mem = some (o2, mem2)) : CtX l Lp ad cy dC dI ks yX11_rule cX11_rule 5 (some .int) ({ frames := 6, cells := 1, slots := 6, locals := 112 }) [.ref (ad (0)), .int (p1), .int (p2)] mem o2 mem2 := by
  refine CtX.of (cc := cX11_rule) (maxL := 5) (ret := (some .int)) (own := RX11) rfl (by decide) (Nat.le_of_ble_eq_true rfl) ?_
  intro p e s m args below meth c A X hT hex
  have hts := X.2.2.2.2.1
  have hl138 := X.2.2.2.2.2.2.1 (.fieldLinkNest "StationPiano" 138 "StationPiano$State" "minutes" "I" "StationPiano") (List.mem_of_getElem? (i := 57) rfl)
  have hl190 := X.2.2.2.2.2.2.1 (.fieldLinkNest "StationPiano" 190 "StationPiano$DayRun" "joySum" "I" "StationPiano") (List.mem_of_getElem? (i := 75) rfl)
  have hJ18 : ∀ (m7 : Mm), f_X11_rule_J18 p1 p2 m7 = some (o2, mem2) → Jd p l e ({ frames := 6, cells := 1, slots := 6, locals := 112 }) s m args below meth c 5 (vx_MQ below (QcX Lp ad cy dC dI o2 mem2 A) (XcX Lp ad cy dC dI o2 mem2 A) args s 1 6 A) A dC dI cy Lp ad m7 18 [] [] := by
    intro m7 h
    unfold f_X11_rule_J18 at h
    exact r_throw X hT hnt hex rfl dX11_rule_18 dX11_rule_21 dX11_rule_22 dX11_rule_25 (Nat.le_of_ble_eq_true rfl) (Nat.le_of_ble_eq_true rfl) (Nat.le_of_ble_eq_true rfl) (Nat.le_of_ble_eq_true rfl) h
  have hJ62 : ∀ (k62 : Int32 → Int32 → Mm → Option (Option Int32 × Mm)) (hk62 : ∀ (x8 : Int32) (x9 : Int32) (m10 : Mm), k62 x8 x9 m10 = some (o2, mem2) → Jd p l e ({ frames := 6, cells := 1, slots := 6, locals := 112 }) s m args below meth c 5 (vx_MQ below (QcX Lp ad cy dC dI o2 mem2 A) (XcX Lp ad cy dC dI o2 mem2 A) args s 1 6 A) A dC dI cy Lp ad m10 62 [(0, .ref (ad (0))), (1, .int (p1)), (3, .int (x8)), (4, .int (x9))] []) (x8 : Int32) (x9 : Int32) (m10 : Mm), f_X11_rule_B62 p1 p2 k62 x8 x9 m10 = some (o2, mem2) → Jd p l e ({ frames := 6, cells := 1, slots := 6, locals := 112 }) s m args below meth c 5 (vx_MQ below (QcX Lp ad cy dC dI o2 mem2 A) (XcX Lp ad cy dC dI o2 mem2 A) args s 1 6 A) A dC dI cy Lp ad m10 62 [(0, .ref (ad (0))), (1, .int (p1)), (3, .int (x8)), (4, .int (x9))] [] := by
    intro k62 hk62 x8 x9 m10 h
    unfold f_X11_rule_B62 at h
    refine r_iload X dX11_rule_62 3 rfl ?_
    refine r_iload_n X dX11_rule_64 rfl 1 rfl ?_
    refine r_icmp_ge (tgt := 96) X dX11_rule_65 (by decide) h (fun h => ?_) (fun h => ?_)
    · refine r_iload_n X dX11_rule_96 rfl 2 rfl ?_
      exact r_iretX X rfl dX11_rule_97 h
    · refine r_aload_n X dX11_rule_68 rfl 0 rfl ?_
      refine r_getF X (k := 10) (of := 82) rfl (Lp_N Lpk_0 rfl) Lpk_0 rfl (by decide) ui_11 (by decide) uw2_193 rfl dX11_rule_69 ?_
      refine r_aload_n X dX11_rule_72 rfl 0 rfl ?_
      refine r_getF X (k := 5) (of := 66) rfl (Lp_N Lpk_0 rfl) Lpk_0 rfl (by decide) ui_11 (by decide) uw2_188 rfl dX11_rule_73 ?_
      refine r_iconst (v := (0)) X dX11_rule_76 (by decide) ?_
      refine r_cVV (As := [.ref (ad (66)), .int ((0))]) (rest := []) X (fun m9 hg => k_X1_pass Lpk_66 hg) h (Lp_N Lpk_82 rfl) Lpk_82 rfl (by decide) uw4_96 uw4_97 uw4_98 uw1_11 uw4_99 rfl rfl dd_X1_pass ⟨Nat.le_of_ble_eq_true rfl, Nat.le_of_ble_eq_true rfl⟩ rfl (Nat.le_of_ble_eq_true rfl) dX11_rule_77 rfl (fun m11 h => ?_)
      refine r_iload_n X dX11_rule_80 rfl 2 rfl ?_
      refine r_aload_n X dX11_rule_81 rfl 0 rfl ?_
      refine r_getF X (k := 10) (of := 82) rfl (Lp_N Lpk_0 rfl) Lpk_0 rfl (by decide) ui_11 (by decide) uw2_193 rfl dX11_rule_82 ?_
      refine r_getIN X (k := 10) (Lp_N Lpk_82 rfl) Lpk_82 rfl (by decide) ui_1 (by decide) hl190 rfl dX11_rule_85 ?_
      refine r_iadd X dX11_rule_88 ?_
      refine r_nmI h (fun x12 h => ?_)
      refine r_istore_n (lv2 := [(3, .int (x12)), (0, .ref (ad (0))), (1, .int (p1)), (4, .int (x9))]) X dX11_rule_89 rfl (by decide) rfl ?_
      refine r_inc h (fun x13 e9 h => ?_)
      refine r_iinc (v := x13) (lv2 := [(4, .int (x13)), (3, .int (x12)), (0, .ref (ad (0))), (1, .int (p1))]) X dX11_rule_90 3 rfl (by rw [e9]; rfl) (by decide) rfl ?_
      refine r_goto (tgt := 62) X dX11_rule_93 (by decide) ?_
      exact r_sub [2, 3, 1, 0] rfl (hk62 x12 x13 m11 h)
  have hL62 : ∀ (n : Nat), ∀ (x8 : Int32) (x9 : Int32) (m10 : Mm), lop (fun _ _ _ => none) (f_X11_rule_B62 p1 p2 ) n x8 x9 m10 = some (o2, mem2) → Jd p l e ({ frames := 6, cells := 1, slots := 6, locals := 112 }) s m args below meth c 5 (vx_MQ below (QcX Lp ad cy dC dI o2 mem2 A) (XcX Lp ad cy dC dI o2 mem2 A) args s 1 6 A) A dC dI cy Lp ad m10 62 [(0, .ref (ad (0))), (1, .int (p1)), (3, .int (x8)), (4, .int (x9))] [] := by
    intro  n
    induction n with
    | zero => intro _ _ _ h; cases h
    | succ n ih => intro a0 a1 a2 h; exact hJ62  _ ih a0 a1 a2 h
  unfold f_X11_rule at h
  refine r_iload_n X dX11_rule_0 rfl 1 rfl ?_
  refine r_iconst (v := (1)) X dX11_rule_1 (by decide) ?_
  refine r_icmp_lt (tgt := 18) X dX11_rule_2 (by decide) h (fun h => ?_) (fun h => ?_)
  · exact r_sub [] rfl (hJ18 mem h)
  · refine r_iload_n X dX11_rule_5 rfl 1 rfl ?_
    refine r_bipush (v := (30)) X dX11_rule_6 (by decide) ?_
    refine r_icmp_gt (tgt := 18) X dX11_rule_8 (by decide) h (fun h => ?_) (fun h => ?_)
    · exact r_sub [] rfl (hJ18 mem h)
    · refine r_iload_n X dX11_rule_11 rfl 2 rfl ?_
      refine r_cSI (As := [.int (p2)]) (rest := []) X (fun r9 m9 hg => k_X11_isEach hg) h uw4_178 uw4_179 uw1_1 uw4_180 rfl rfl dd_X11_isEach ⟨Nat.le_of_ble_eq_true rfl, Nat.le_of_ble_eq_true rfl⟩ rfl (Nat.le_of_ble_eq_true rfl) dX11_rule_12 rfl (fun x2 m1 h => ?_)
      refine r_if_ne (tgt := 26) X dX11_rule_15 (by decide) h (fun h => ?_) (fun h => ?_)
      · refine r_aload_n X dX11_rule_26 rfl 0 rfl ?_
        refine r_getF X (k := 5) (of := 66) rfl (Lp_N Lpk_0 rfl) Lpk_0 rfl (by decide) ui_11 (by decide) uw2_188 rfl dX11_rule_27 ?_
        refine r_aload_n X dX11_rule_30 rfl 0 rfl ?_
        refine r_getF X (k := 4) (of := 64) rfl (Lp_N Lpk_0 rfl) Lpk_0 rfl (by decide) ui_11 (by decide) uw2_187 rfl dX11_rule_31 ?_
        refine r_cVV (As := [.ref (ad (64))]) (rest := []) X (fun m9 hg => k_X6_copyFrom Lpk_66 Lpk_64 hg) h (Lp_N Lpk_66 rfl) Lpk_66 rfl (by decide) uw4_65 uw4_66 uw4_67 uw1_7 uw4_68 rfl rfl dd_X6_copyFrom ⟨Nat.le_of_ble_eq_true rfl, Nat.le_of_ble_eq_true rfl⟩ rfl (Nat.le_of_ble_eq_true rfl) dX11_rule_34 rfl (fun m3 h => ?_)
        refine r_aload_n X dX11_rule_37 rfl 0 rfl ?_
        refine r_getF X (k := 5) (of := 66) rfl (Lp_N Lpk_0 rfl) Lpk_0 rfl (by decide) ui_11 (by decide) uw2_188 rfl dX11_rule_38 ?_
        refine r_iload_n X dX11_rule_41 rfl 2 rfl ?_
        refine r_putIN X (k := 2) (Lp_N Lpk_66 rfl) Lpk_66 rfl (by decide) ui_6 (by decide) hl138 tyX6_ok nmX6 rfl rfl rfl dX11_rule_42 ?_
        refine r_nmM h (fun m4 h => ?_)
        refine r_aload_n X dX11_rule_45 rfl 0 rfl ?_
        refine r_getF X (k := 10) (of := 82) rfl (Lp_N Lpk_0 rfl) Lpk_0 rfl (by decide) ui_11 (by decide) uw2_193 rfl dX11_rule_46 ?_
        refine r_aload_n X dX11_rule_49 rfl 0 rfl ?_
        refine r_getR X 7 (k := 2) (Lp_N Lpk_0 rfl) Lpk_0 rfl (by decide) ui_11 (by decide) uw2_185 rfl h dX11_rule_50 (fun q5 eq5 h => ?_)
        refine r_iload_n X dX11_rule_53 rfl 2 rfl ?_
        refine r_cVV (As := [.ref (ad (q5)), .int (p2)]) (rest := []) X (fun m9 hg => k_X1_prepare eq5 hg) h (Lp_N Lpk_82 rfl) Lpk_82 rfl (by decide) uw4_69 uw4_70 uw4_71 uw1_11 uw4_72 rfl rfl dd_X1_prepare ⟨Nat.le_of_ble_eq_true rfl, Nat.le_of_ble_eq_true rfl⟩ rfl (Nat.le_of_ble_eq_true rfl) dX11_rule_54 rfl (fun m6 h => ?_)
        refine r_iconst (v := (0)) X dX11_rule_57 (by decide) ?_
        refine r_istore_n (lv2 := [(3, .int ((0))), (0, .ref (ad (0))), (1, .int (p1)), (2, .int (p2))]) X dX11_rule_58 rfl (by decide) rfl ?_
        refine r_iconst (v := (0)) X dX11_rule_59 (by decide) ?_
        refine r_istore (lv2 := [(4, .int ((0))), (3, .int ((0))), (0, .ref (ad (0))), (1, .int (p1)), (2, .int (p2))]) X dX11_rule_60 (by decide) rfl ?_
        exact r_sub [2, 3, 1, 0] rfl (hL62 4000 ((0)) ((0)) m6 h)
      · exact r_sub [] rfl (hJ18 m1 h)
noncomputable def f_X11_draw (p1 : Int32) (mem : Mm) : Option (Int32 × Mm) :=
  bnd (sJ mem 0 16 ((((gJ mem 0 16) * ((1103515245))) + ((12345))) &&& ((2147483647)))) fun m1 => if p1 ≤ 0 then (some ((0), m1)) else (grd (decide (¬ (65536 : Int64) = 0)) (grd (decide (¬ (p1.toInt64) = 0)) (some ((((gJ m1 0 16) / ((65536))) - ((gJ m1 0 16) / ((65536))) / (p1.toInt64) * (p1.toInt64)).toInt32, m1))))
theorem dd_X11_draw : yX11_draw.cls = RX11 ∧ yX11_draw.cls ≠ "java/lang/invoke/MethodHandle" ∧ yX11_draw.cls ≠ "java/lang/invoke/VarHandle" ∧ (parseMethodDescriptor yX11_draw.desc).map (fun d => d.parameters.length) = some 1 := by decide +kernel
set_option maxHeartbeats 4000000 in
set_option maxRecDepth 100000 in
theorem k_X11_draw {l : Launch} {ad : Nat → Nat} {cy : Nat → ClassId} {dC : Nat → ClassId} {dI : Nat → Nat → Nat} {ks : (Nat → Nat) × (Nat → Nat)} {p1 : Int32} {mem : Mm} {r2 : Int32} {mem2 : Mm}  (h : f_X11_draw p1 mem = some (r2, mem2)) : CtI l Lp ad cy dC dI ks yX11_draw cX11_draw 2 (some .int) ({ frames := 0, cells := 0, slots := 0, locals := 0 }) [.ref (ad (0)), .int (p1)] mem r2 mem2 := by
  refine CtI.of (cc := cX11_draw) (maxL := 2) (ret := (some .int)) (own := RX11) rfl (by decide) (Nat.le_of_ble_eq_true rfl) ?_
  intro p e s m args below meth c A X
  have hts := X.2.2.2.2.1
  unfold f_X11_draw at h
  refine r_aload_n X dX11_draw_0 rfl 0 rfl ?_
  refine r_aload_n X dX11_draw_1 rfl 0 rfl ?_
  refine r_getJ X (k := 16) (Lp_N Lpk_0 rfl) Lpk_0 rfl (by decide) ui_11 (by decide) uw2_199 rfl dX11_draw_2 ?_
  refine r_ldc2 (v := 1103515245) X dX11_draw_5 uw5_198 ?_
  refine r_lmul X dX11_draw_8 ?_
  refine r_ldc2 (v := 12345) X dX11_draw_9 uw5_199 ?_
  refine r_ladd X dX11_draw_12 ?_
  refine r_ldc2 (v := 2147483647) X dX11_draw_13 uw5_200 ?_
  refine r_land X dX11_draw_16 ?_
  refine r_putJ X (k := 16) (Lp_N Lpk_0 rfl) Lpk_0 rfl (by decide) ui_11 (by decide) uw2_199 tyX11_ok nmX11 rfl rfl rfl dX11_draw_17 ?_
  refine r_nmM h (fun m1 h => ?_)
  refine r_iload_n X dX11_draw_20 rfl 1 rfl ?_
  refine r_if_le (tgt := 39) X dX11_draw_21 (by decide) h (fun h => ?_) (fun h => ?_)
  · refine r_iconst (v := (0)) X dX11_draw_39 (by decide) ?_
    exact r_iret2 X rfl dX11_draw_40 h
  · refine r_aload_n X dX11_draw_24 rfl 0 rfl ?_
    refine r_getJ X (k := 16) (Lp_N Lpk_0 rfl) Lpk_0 rfl (by decide) ui_11 (by decide) uw2_199 rfl dX11_draw_25 ?_
    refine r_ldc2 (v := 65536) X dX11_draw_28 uw5_201 ?_
    refine r_div h (fun hz h => ?_)
    refine r_ldiv X dX11_draw_31 hz ?_
    refine r_iload_n X dX11_draw_32 rfl 1 rfl ?_
    refine r_i2l X dX11_draw_33 ?_
    refine r_div h (fun hz h => ?_)
    refine r_lrem X dX11_draw_34 hz ?_
    refine r_l2i X dX11_draw_35 ?_
    refine r_goto (tgt := 40) X dX11_draw_36 (by decide) ?_
    exact r_iret2 X rfl dX11_draw_40 h
noncomputable def f_X11_drawMonths_J170 (p1 : Int32) (p2 : Int32) (k51 : Int32 → Int32 → Int32 → Mm → Option Mm) (x37 : Int32) (x38 : Int32) (x39 : Int32) (m40 : Mm) : Option Mm :=
  bnd (x39 + (1)) fun x41 => k51 x37 x38 x41 m40
noncomputable def f_X11_drawMonths_J101 (p1 : Int32) (p2 : Int32) (k51 : Int32 → Int32 → Int32 → Mm → Option Mm) (x23 : Int32) (x24 : Int32) (x25 : Int32) (m26 : Mm) : Option Mm :=
  bdV (f_X1_pass 66 ((0)) m26) fun m27 => bnd (x23 + (gI m27 82 10)) fun x28 => bnd (x24 + (gI m27 82 11)) fun x29 => bdI (f_X6_keysAbove 66 ((5)) m27) fun x31 m30 => if x31 < ((3)) then (f_X11_drawMonths_J170 p1 p2 k51 x28 x29 x25 m30) else (bdI (f_X11_draw ((4)) m30) fun x33 m32 => if ¬ x33 = 0 then (f_X11_drawMonths_J170 p1 p2 k51 x28 x29 x25 m32) else (grd (decide (Lp.1 (gR m32 0 2) = 7)) (bnd (gR m32 0 2) fun q34 => bdI (f_X6_tuneUp 66 (gI m32 q34 12) m32) fun x36 m35 => f_X11_drawMonths_J170 p1 p2 k51 x28 x29 x25 m35)))
noncomputable def f_X11_drawMonths_B60 (p1 : Int32) (p2 : Int32) (k51 : Int32 → Int32 → Int32 → Mm → Option Mm) (k60 : Int32 → Int32 → Int32 → Int32 → Mm → Option Mm) (x13 : Int32) (x14 : Int32) (x15 : Int32) (x16 : Int32) (m17 : Mm) : Option Mm :=
  grd (decide (Lp.1 (gR m17 0 2) = 7)) (bnd (gR m17 0 2) fun q18 => if (gI m17 q18 7) ≤ x16 then (f_X11_drawMonths_J101 p1 p2 k51 x13 x14 x15 m17) else (if ((7)) ≤ x16 then (f_X11_drawMonths_J101 p1 p2 k51 x13 x14 x15 m17) else (bdI (f_X11_draw ((60)) m17) fun x20 m19 => grd (inb x16 7) (bnd (sI m19 85 x16.toNatClampNeg x20) fun m21 => bnd (x16 + (1)) fun x22 => k60 x13 x14 x15 x22 m21))))
noncomputable def f_X11_drawMonths_B51 (p1 : Int32) (p2 : Int32) (k51 : Int32 → Int32 → Int32 → Mm → Option Mm) (x6 : Int32) (x7 : Int32) (x8 : Int32) (m9 : Mm) : Option Mm :=
  if p2 ≤ x8 then (bnd (sI m9 165 0 x6) fun m10 => bnd (sI m10 165 1 x7) fun m11 => bnd (sI m11 165 2 (gI m11 66 5)) fun m12 => some m12) else (lop (fun _ _ _ _ _ => none) (f_X11_drawMonths_B60 p1 p2 k51) 4000 x6 x7 x8 ((0)) m9)
noncomputable def f_X11_drawMonths (p1 : Int32) (p2 : Int32) (mem : Mm) : Option Mm :=
  bnd (sJ mem 0 16 (p1.toInt64)) fun m1 => bdV (f_X6_copyFrom 66 64 m1) fun m2 => bnd (sI m2 66 5 ((0))) fun m3 => grd (decide (Lp.1 (gR m3 0 2) = 7)) (bnd (gR m3 0 2) fun q4 => bdV (f_X1_prepare q4 (gI m3 66 2) m3) fun m5 => lop (fun _ _ _ _ => none) (f_X11_drawMonths_B51 p1 p2 ) 4000 ((0)) ((0)) ((0)) m5)
theorem dd_X11_drawMonths : yX11_drawMonths.cls = RX11 ∧ yX11_drawMonths.cls ≠ "java/lang/invoke/MethodHandle" ∧ yX11_drawMonths.cls ≠ "java/lang/invoke/VarHandle" ∧ (parseMethodDescriptor yX11_drawMonths.desc).map (fun d => d.parameters.length) = some 2 := by decide +kernel
set_option maxHeartbeats 4000000 in
set_option maxRecDepth 100000 in
theorem k_X11_drawMonths {l : Launch} {ad : Nat → Nat} {cy : Nat → ClassId} {dC : Nat → ClassId} {dI : Nat → Nat → Nat} {ks : (Nat → Nat) × (Nat → Nat)} {p1 : Int32} {p2 : Int32} {mem : Mm} {mem2 : Mm}  (h : f_X11_drawMonths p1 p2 mem = some mem2) : CtV l Lp ad cy dC dI ks yX11_drawMonths cX11_drawMonths 7 none ({ frames := 5, cells := 0, slots := 0, locals := 112 }) [.ref (ad (0)), .int (p1), .int (p2)] mem mem2 := by
  refine CtV.of (cc := cX11_drawMonths) (maxL := 7) (ret := none) (own := RX11) rfl (by decide) (Nat.le_of_ble_eq_true rfl) ?_
  intro p e s m args below meth c A X
  have hts := X.2.2.2.2.1
  have hl138 := X.2.2.2.2.2.2.1 (.fieldLinkNest "StationPiano" 138 "StationPiano$State" "minutes" "I" "StationPiano") (List.mem_of_getElem? (i := 57) rfl)
  have hl173 := X.2.2.2.2.2.2.1 (.fieldLinkNest "StationPiano" 173 "StationPiano$Station" "passerCount" "I" "StationPiano") (List.mem_of_getElem? (i := 40) rfl)
  have hl190 := X.2.2.2.2.2.2.1 (.fieldLinkNest "StationPiano" 190 "StationPiano$DayRun" "joySum" "I" "StationPiano") (List.mem_of_getElem? (i := 75) rfl)
  have hl193 := X.2.2.2.2.2.2.1 (.fieldLinkNest "StationPiano" 193 "StationPiano$Station" "price" "I" "StationPiano") (List.mem_of_getElem? (i := 51) rfl)
  have hl301 := X.2.2.2.2.2.2.1 (.fieldLinkNest "StationPiano" 301 "StationPiano$State" "paid" "I" "StationPiano") (List.mem_of_getElem? (i := 62) rfl)
  have hl335 := X.2.2.2.2.2.2.1 (.fieldLinkNest "StationPiano" 335 "StationPiano$DayRun" "arrives" "[I" "StationPiano") (List.mem_of_getElem? (i := 74) rfl)
  have hl340 := X.2.2.2.2.2.2.1 (.fieldLinkNest "StationPiano" 340 "StationPiano$DayRun" "begun" "I" "StationPiano") (List.mem_of_getElem? (i := 76) rfl)
  have hJ170 : ∀ (k51 : Int32 → Int32 → Int32 → Mm → Option Mm) (hk51 : ∀ (x6 : Int32) (x7 : Int32) (x8 : Int32) (m9 : Mm), k51 x6 x7 x8 m9 = some mem2 → Jd p l e ({ frames := 5, cells := 0, slots := 0, locals := 112 }) s m args below meth c 7 (MQ below (PsV Lp ad cy dC dI mem2 A) args s 0 0 A) A dC dI cy Lp ad m9 51 [(0, .ref (ad (0))), (2, .int (p2)), (3, .int (x6)), (4, .int (x7)), (5, .int (x8))] []) (x37 : Int32) (x38 : Int32) (x39 : Int32) (m40 : Mm), f_X11_drawMonths_J170 p1 p2 k51 x37 x38 x39 m40 = some mem2 → Jd p l e ({ frames := 5, cells := 0, slots := 0, locals := 112 }) s m args below meth c 7 (MQ below (PsV Lp ad cy dC dI mem2 A) args s 0 0 A) A dC dI cy Lp ad m40 170 [(0, .ref (ad (0))), (2, .int (p2)), (3, .int (x37)), (4, .int (x38)), (5, .int (x39))] [] := by
    intro k51 hk51 x37 x38 x39 m40 h
    unfold f_X11_drawMonths_J170 at h
    refine r_inc h (fun x41 e9 h => ?_)
    refine r_iinc (v := x41) (lv2 := [(5, .int (x41)), (0, .ref (ad (0))), (2, .int (p2)), (3, .int (x37)), (4, .int (x38))]) X dX11_drawMonths_170 4 rfl (by rw [e9]; rfl) (by decide) rfl ?_
    refine r_goto (tgt := 51) X dX11_drawMonths_173 (by decide) ?_
    exact r_sub [1, 2, 3, 4, 0] rfl (hk51 x37 x38 x41 m40 h)
  have hJ101 : ∀ (k51 : Int32 → Int32 → Int32 → Mm → Option Mm) (hk51 : ∀ (x6 : Int32) (x7 : Int32) (x8 : Int32) (m9 : Mm), k51 x6 x7 x8 m9 = some mem2 → Jd p l e ({ frames := 5, cells := 0, slots := 0, locals := 112 }) s m args below meth c 7 (MQ below (PsV Lp ad cy dC dI mem2 A) args s 0 0 A) A dC dI cy Lp ad m9 51 [(0, .ref (ad (0))), (2, .int (p2)), (3, .int (x6)), (4, .int (x7)), (5, .int (x8))] []) (x23 : Int32) (x24 : Int32) (x25 : Int32) (m26 : Mm), f_X11_drawMonths_J101 p1 p2 k51 x23 x24 x25 m26 = some mem2 → Jd p l e ({ frames := 5, cells := 0, slots := 0, locals := 112 }) s m args below meth c 7 (MQ below (PsV Lp ad cy dC dI mem2 A) args s 0 0 A) A dC dI cy Lp ad m26 101 [(0, .ref (ad (0))), (2, .int (p2)), (3, .int (x23)), (4, .int (x24)), (5, .int (x25))] [] := by
    intro k51 hk51 x23 x24 x25 m26 h
    unfold f_X11_drawMonths_J101 at h
    refine r_aload_n X dX11_drawMonths_101 rfl 0 rfl ?_
    refine r_getF X (k := 10) (of := 82) rfl (Lp_N Lpk_0 rfl) Lpk_0 rfl (by decide) ui_11 (by decide) uw2_193 rfl dX11_drawMonths_102 ?_
    refine r_aload_n X dX11_drawMonths_105 rfl 0 rfl ?_
    refine r_getF X (k := 5) (of := 66) rfl (Lp_N Lpk_0 rfl) Lpk_0 rfl (by decide) ui_11 (by decide) uw2_188 rfl dX11_drawMonths_106 ?_
    refine r_iconst (v := (0)) X dX11_drawMonths_109 (by decide) ?_
    refine r_cVV (As := [.ref (ad (66)), .int ((0))]) (rest := []) X (fun m9 hg => k_X1_pass Lpk_66 hg) h (Lp_N Lpk_82 rfl) Lpk_82 rfl (by decide) uw4_96 uw4_97 uw4_98 uw1_11 uw4_99 rfl rfl dd_X1_pass ⟨Nat.le_of_ble_eq_true rfl, Nat.le_of_ble_eq_true rfl⟩ rfl (Nat.le_of_ble_eq_true rfl) dX11_drawMonths_110 rfl (fun m27 h => ?_)
    refine r_iload_n X dX11_drawMonths_113 rfl 2 rfl ?_
    refine r_aload_n X dX11_drawMonths_114 rfl 0 rfl ?_
    refine r_getF X (k := 10) (of := 82) rfl (Lp_N Lpk_0 rfl) Lpk_0 rfl (by decide) ui_11 (by decide) uw2_193 rfl dX11_drawMonths_115 ?_
    refine r_getIN X (k := 10) (Lp_N Lpk_82 rfl) Lpk_82 rfl (by decide) ui_1 (by decide) hl190 rfl dX11_drawMonths_118 ?_
    refine r_iadd X dX11_drawMonths_121 ?_
    refine r_nmI h (fun x28 h => ?_)
    refine r_istore_n (lv2 := [(3, .int (x28)), (0, .ref (ad (0))), (2, .int (p2)), (4, .int (x24)), (5, .int (x25))]) X dX11_drawMonths_122 rfl (by decide) rfl ?_
    refine r_iload X dX11_drawMonths_123 3 rfl ?_
    refine r_aload_n X dX11_drawMonths_125 rfl 1 rfl ?_
    refine r_getF X (k := 10) (of := 82) rfl (Lp_N Lpk_0 rfl) Lpk_0 rfl (by decide) ui_11 (by decide) uw2_193 rfl dX11_drawMonths_126 ?_
    refine r_getIN X (k := 11) (Lp_N Lpk_82 rfl) Lpk_82 rfl (by decide) ui_1 (by decide) hl340 rfl dX11_drawMonths_129 ?_
    refine r_iadd X dX11_drawMonths_132 ?_
    refine r_nmI h (fun x29 h => ?_)
    refine r_istore (lv2 := [(4, .int (x29)), (3, .int (x28)), (0, .ref (ad (0))), (2, .int (p2)), (5, .int (x25))]) X dX11_drawMonths_133 (by decide) rfl ?_
    refine r_aload_n X dX11_drawMonths_135 rfl 2 rfl ?_
    refine r_getF X (k := 5) (of := 66) rfl (Lp_N Lpk_0 rfl) Lpk_0 rfl (by decide) ui_11 (by decide) uw2_188 rfl dX11_drawMonths_136 ?_
    refine r_iconst (v := (5)) X dX11_drawMonths_139 (by decide) ?_
    refine r_cVI (As := [.int ((5))]) (rest := []) X (fun r9 m9 hg => k_X6_keysAbove Lpk_66 hg) h (Lp_N Lpk_66 rfl) Lpk_66 rfl (by decide) uw5_202 uw5_203 uw5_204 uw1_7 uw5_205 rfl rfl dd_X6_keysAbove ⟨Nat.le_of_ble_eq_true rfl, Nat.le_of_ble_eq_true rfl⟩ rfl (Nat.le_of_ble_eq_true rfl) dX11_drawMonths_140 rfl (fun x31 m30 h => ?_)
    refine r_iconst (v := (3)) X dX11_drawMonths_143 (by decide) ?_
    refine r_icmp_lt (tgt := 170) X dX11_drawMonths_144 (by decide) h (fun h => ?_) (fun h => ?_)
    · exact r_sub [2, 3, 1, 0, 4] rfl (hJ170 k51 hk51 x28 x29 x25 m30 h)
    · refine r_aload_n X dX11_drawMonths_147 rfl 2 rfl ?_
      refine r_iconst (v := (4)) X dX11_drawMonths_148 (by decide) ?_
      refine r_cVI (As := [.int ((4))]) (rest := []) X (fun r9 m9 hg => k_X11_draw hg) h (Lp_N Lpk_0 rfl) Lpk_0 rfl (by decide) uw5_194 uw5_196 us3_11 uw1_1 uw5_197 rfl rfl dd_X11_draw ⟨Nat.le_of_ble_eq_true rfl, Nat.le_of_ble_eq_true rfl⟩ rfl (Nat.le_of_ble_eq_true rfl) dX11_drawMonths_149 rfl (fun x33 m32 h => ?_)
      refine r_if_ne (tgt := 170) X dX11_drawMonths_152 (by decide) h (fun h => ?_) (fun h => ?_)
      · exact r_sub [2, 3, 1, 0, 4] rfl (hJ170 k51 hk51 x28 x29 x25 m32 h)
      · refine r_aload_n X dX11_drawMonths_155 rfl 2 rfl ?_
        refine r_getF X (k := 5) (of := 66) rfl (Lp_N Lpk_0 rfl) Lpk_0 rfl (by decide) ui_11 (by decide) uw2_188 rfl dX11_drawMonths_156 ?_
        refine r_aload_n X dX11_drawMonths_159 rfl 2 rfl ?_
        refine r_getR X 7 (k := 2) (Lp_N Lpk_0 rfl) Lpk_0 rfl (by decide) ui_11 (by decide) uw2_185 rfl h dX11_drawMonths_160 (fun q34 eq34 h => ?_)
        refine r_getIN X (k := 12) (Lp_N eq34 rfl) eq34 rfl (by decide) ui_7 (by decide) hl193 rfl dX11_drawMonths_163 ?_
        refine r_cVI (As := [.int (gI m32 q34 12)]) (rest := []) X (fun r9 m9 hg => k_X6_tuneUp Lpk_66 hg) h (Lp_N Lpk_66 rfl) Lpk_66 rfl (by decide) uw4_170 uw4_171 uw4_172 uw1_7 uw4_173 rfl rfl dd_X6_tuneUp ⟨Nat.le_of_ble_eq_true rfl, Nat.le_of_ble_eq_true rfl⟩ rfl (Nat.le_of_ble_eq_true rfl) dX11_drawMonths_166 rfl (fun x36 m35 h => ?_)
        refine r_pop X dX11_drawMonths_169 rfl ?_
        exact r_sub [2, 3, 1, 0, 4] rfl (hJ170 k51 hk51 x28 x29 x25 m35 h)
  have hJ60 : ∀ (k51 : Int32 → Int32 → Int32 → Mm → Option Mm) (hk51 : ∀ (x6 : Int32) (x7 : Int32) (x8 : Int32) (m9 : Mm), k51 x6 x7 x8 m9 = some mem2 → Jd p l e ({ frames := 5, cells := 0, slots := 0, locals := 112 }) s m args below meth c 7 (MQ below (PsV Lp ad cy dC dI mem2 A) args s 0 0 A) A dC dI cy Lp ad m9 51 [(0, .ref (ad (0))), (2, .int (p2)), (3, .int (x6)), (4, .int (x7)), (5, .int (x8))] []) (k60 : Int32 → Int32 → Int32 → Int32 → Mm → Option Mm) (hk60 : ∀ (x13 : Int32) (x14 : Int32) (x15 : Int32) (x16 : Int32) (m17 : Mm), k60 x13 x14 x15 x16 m17 = some mem2 → Jd p l e ({ frames := 5, cells := 0, slots := 0, locals := 112 }) s m args below meth c 7 (MQ below (PsV Lp ad cy dC dI mem2 A) args s 0 0 A) A dC dI cy Lp ad m17 60 [(0, .ref (ad (0))), (2, .int (p2)), (3, .int (x13)), (4, .int (x14)), (5, .int (x15)), (6, .int (x16))] []) (x13 : Int32) (x14 : Int32) (x15 : Int32) (x16 : Int32) (m17 : Mm), f_X11_drawMonths_B60 p1 p2 k51 k60 x13 x14 x15 x16 m17 = some mem2 → Jd p l e ({ frames := 5, cells := 0, slots := 0, locals := 112 }) s m args below meth c 7 (MQ below (PsV Lp ad cy dC dI mem2 A) args s 0 0 A) A dC dI cy Lp ad m17 60 [(0, .ref (ad (0))), (2, .int (p2)), (3, .int (x13)), (4, .int (x14)), (5, .int (x15)), (6, .int (x16))] [] := by
    intro k51 hk51 k60 hk60 x13 x14 x15 x16 m17 h
    unfold f_X11_drawMonths_B60 at h
    refine r_iload X dX11_drawMonths_60 5 rfl ?_
    refine r_aload_n X dX11_drawMonths_62 rfl 0 rfl ?_
    refine r_getR X 7 (k := 2) (Lp_N Lpk_0 rfl) Lpk_0 rfl (by decide) ui_11 (by decide) uw2_185 rfl h dX11_drawMonths_63 (fun q18 eq18 h => ?_)
    refine r_getIN X (k := 7) (Lp_N eq18 rfl) eq18 rfl (by decide) ui_7 (by decide) hl173 rfl dX11_drawMonths_66 ?_
    refine r_icmp_ge (tgt := 101) X dX11_drawMonths_69 (by decide) h (fun h => ?_) (fun h => ?_)
    · exact r_sub [0, 1, 2, 3, 4] rfl (hJ101 k51 hk51 x13 x14 x15 m17 h)
    · refine r_iload X dX11_drawMonths_72 5 rfl ?_
      refine r_bipush (v := (7)) X dX11_drawMonths_74 (by decide) ?_
      refine r_icmp_ge (tgt := 101) X dX11_drawMonths_76 (by decide) h (fun h => ?_) (fun h => ?_)
      · exact r_sub [0, 1, 2, 3, 4] rfl (hJ101 k51 hk51 x13 x14 x15 m17 h)
      · refine r_aload_n X dX11_drawMonths_79 rfl 0 rfl ?_
        refine r_getF X (k := 10) (of := 82) rfl (Lp_N Lpk_0 rfl) Lpk_0 rfl (by decide) ui_11 (by decide) uw2_193 rfl dX11_drawMonths_80 ?_
        refine r_getFN X (k := 2) (of := 3) rfl (Lp_N Lpk_82 rfl) Lpk_82 rfl (by decide) ui_1 (by decide) hl335 rfl dX11_drawMonths_83 ?_
        refine r_iload X dX11_drawMonths_86 5 rfl ?_
        refine r_aload_n X dX11_drawMonths_88 rfl 0 rfl ?_
        refine r_bipush (v := (60)) X dX11_drawMonths_89 (by decide) ?_
        refine r_cVI (As := [.int ((60))]) (rest := [.int (x16), .ref (ad (85))]) X (fun r9 m9 hg => k_X11_draw hg) h (Lp_N Lpk_0 rfl) Lpk_0 rfl (by decide) uw5_194 uw5_196 us3_11 uw1_1 uw5_197 rfl rfl dd_X11_draw ⟨Nat.le_of_ble_eq_true rfl, Nat.le_of_ble_eq_true rfl⟩ rfl (Nat.le_of_ble_eq_true rfl) dX11_drawMonths_91 rfl (fun x20 m19 h => ?_)
        refine r_iast X (Lp_N Lpk_85 rfl) Lpk_85 h dX11_drawMonths_94 (fun h => ?_)
        refine r_nmM h (fun m21 h => ?_)
        refine r_inc h (fun x22 e9 h => ?_)
        refine r_iinc (v := x22) (lv2 := [(6, .int (x22)), (0, .ref (ad (0))), (2, .int (p2)), (3, .int (x13)), (4, .int (x14)), (5, .int (x15))]) X dX11_drawMonths_95 5 rfl (by rw [e9]; rfl) (by decide) rfl ?_
        refine r_goto (tgt := 60) X dX11_drawMonths_98 (by decide) ?_
        exact r_sub [1, 2, 3, 4, 5, 0] rfl (hk60 x13 x14 x15 x22 m21 h)
  have hL60 : ∀ (k51 : Int32 → Int32 → Int32 → Mm → Option Mm) (hk51 : ∀ (x6 : Int32) (x7 : Int32) (x8 : Int32) (m9 : Mm), k51 x6 x7 x8 m9 = some mem2 → Jd p l e ({ frames := 5, cells := 0, slots := 0, locals := 112 }) s m args below meth c 7 (MQ below (PsV Lp ad cy dC dI mem2 A) args s 0 0 A) A dC dI cy Lp ad m9 51 [(0, .ref (ad (0))), (2, .int (p2)), (3, .int (x6)), (4, .int (x7)), (5, .int (x8))] []) (n : Nat), ∀ (x13 : Int32) (x14 : Int32) (x15 : Int32) (x16 : Int32) (m17 : Mm), lop (fun _ _ _ _ _ => none) (f_X11_drawMonths_B60 p1 p2 k51) n x13 x14 x15 x16 m17 = some mem2 → Jd p l e ({ frames := 5, cells := 0, slots := 0, locals := 112 }) s m args below meth c 7 (MQ below (PsV Lp ad cy dC dI mem2 A) args s 0 0 A) A dC dI cy Lp ad m17 60 [(0, .ref (ad (0))), (2, .int (p2)), (3, .int (x13)), (4, .int (x14)), (5, .int (x15)), (6, .int (x16))] [] := by
    intro k51 hk51 n
    induction n with
    | zero => intro _ _ _ _ _ h; cases h
    | succ n ih => intro a0 a1 a2 a3 a4 h; exact hJ60 k51 hk51 _ ih a0 a1 a2 a3 a4 h
  have hJ51 : ∀ (k51 : Int32 → Int32 → Int32 → Mm → Option Mm) (hk51 : ∀ (x6 : Int32) (x7 : Int32) (x8 : Int32) (m9 : Mm), k51 x6 x7 x8 m9 = some mem2 → Jd p l e ({ frames := 5, cells := 0, slots := 0, locals := 112 }) s m args below meth c 7 (MQ below (PsV Lp ad cy dC dI mem2 A) args s 0 0 A) A dC dI cy Lp ad m9 51 [(0, .ref (ad (0))), (2, .int (p2)), (3, .int (x6)), (4, .int (x7)), (5, .int (x8))] []) (x6 : Int32) (x7 : Int32) (x8 : Int32) (m9 : Mm), f_X11_drawMonths_B51 p1 p2 k51 x6 x7 x8 m9 = some mem2 → Jd p l e ({ frames := 5, cells := 0, slots := 0, locals := 112 }) s m args below meth c 7 (MQ below (PsV Lp ad cy dC dI mem2 A) args s 0 0 A) A dC dI cy Lp ad m9 51 [(0, .ref (ad (0))), (2, .int (p2)), (3, .int (x6)), (4, .int (x7)), (5, .int (x8))] [] := by
    intro k51 hk51 x6 x7 x8 m9 h
    unfold f_X11_drawMonths_B51 at h
    refine r_iload X dX11_drawMonths_51 4 rfl ?_
    refine r_iload_n X dX11_drawMonths_53 rfl 1 rfl ?_
    refine r_icmp_ge (tgt := 176) X dX11_drawMonths_54 (by decide) h (fun h => ?_) (fun h => ?_)
    · refine r_aload_n X dX11_drawMonths_176 rfl 0 rfl ?_
      refine r_getF X (k := 15) (of := 165) rfl (Lp_N Lpk_0 rfl) Lpk_0 rfl (by decide) ui_11 (by decide) uw2_198 rfl dX11_drawMonths_177 ?_
      refine r_iconst (v := (0)) X dX11_drawMonths_180 (by decide) ?_
      refine r_iload_n X dX11_drawMonths_181 rfl 2 rfl ?_
      refine r_iast X (Lp_N Lpk_165 rfl) Lpk_165 (g_in rfl h) dX11_drawMonths_182 (fun h => ?_)
      refine r_nmM h (fun m10 h => ?_)
      refine r_aload_n X dX11_drawMonths_183 rfl 0 rfl ?_
      refine r_getF X (k := 15) (of := 165) rfl (Lp_N Lpk_0 rfl) Lpk_0 rfl (by decide) ui_11 (by decide) uw2_198 rfl dX11_drawMonths_184 ?_
      refine r_iconst (v := (1)) X dX11_drawMonths_187 (by decide) ?_
      refine r_iload X dX11_drawMonths_188 3 rfl ?_
      refine r_iast X (Lp_N Lpk_165 rfl) Lpk_165 (g_in rfl h) dX11_drawMonths_190 (fun h => ?_)
      refine r_nmM h (fun m11 h => ?_)
      refine r_aload_n X dX11_drawMonths_191 rfl 0 rfl ?_
      refine r_getF X (k := 15) (of := 165) rfl (Lp_N Lpk_0 rfl) Lpk_0 rfl (by decide) ui_11 (by decide) uw2_198 rfl dX11_drawMonths_192 ?_
      refine r_iconst (v := (2)) X dX11_drawMonths_195 (by decide) ?_
      refine r_aload_n X dX11_drawMonths_196 rfl 0 rfl ?_
      refine r_getF X (k := 5) (of := 66) rfl (Lp_N Lpk_0 rfl) Lpk_0 rfl (by decide) ui_11 (by decide) uw2_188 rfl dX11_drawMonths_197 ?_
      refine r_getIN X (k := 5) (Lp_N Lpk_66 rfl) Lpk_66 rfl (by decide) ui_6 (by decide) hl301 rfl dX11_drawMonths_200 ?_
      refine r_iast X (Lp_N Lpk_165 rfl) Lpk_165 (g_in rfl h) dX11_drawMonths_203 (fun h => ?_)
      refine r_nmM h (fun m12 h => ?_)
      exact r_vret X rfl dX11_drawMonths_204 h
    · refine r_iconst (v := (0)) X dX11_drawMonths_57 (by decide) ?_
      refine r_istore (lv2 := [(6, .int ((0))), (0, .ref (ad (0))), (2, .int (p2)), (3, .int (x6)), (4, .int (x7)), (5, .int (x8))]) X dX11_drawMonths_58 (by decide) rfl ?_
      exact r_sub [1, 2, 3, 4, 5, 0] rfl (hL60 k51 hk51 4000 x6 x7 x8 ((0)) m9 h)
  have hL51 : ∀ (n : Nat), ∀ (x6 : Int32) (x7 : Int32) (x8 : Int32) (m9 : Mm), lop (fun _ _ _ _ => none) (f_X11_drawMonths_B51 p1 p2 ) n x6 x7 x8 m9 = some mem2 → Jd p l e ({ frames := 5, cells := 0, slots := 0, locals := 112 }) s m args below meth c 7 (MQ below (PsV Lp ad cy dC dI mem2 A) args s 0 0 A) A dC dI cy Lp ad m9 51 [(0, .ref (ad (0))), (2, .int (p2)), (3, .int (x6)), (4, .int (x7)), (5, .int (x8))] [] := by
    intro  n
    induction n with
    | zero => intro _ _ _ _ h; cases h
    | succ n ih => intro a0 a1 a2 a3 h; exact hJ51  _ ih a0 a1 a2 a3 h
  unfold f_X11_drawMonths at h
  refine r_iconst (v := (0)) X dX11_drawMonths_0 (by decide) ?_
  refine r_istore_n (lv2 := [(3, .int ((0))), (0, .ref (ad (0))), (1, .int (p1)), (2, .int (p2))]) X dX11_drawMonths_1 rfl (by decide) rfl ?_
  refine r_iconst (v := (0)) X dX11_drawMonths_2 (by decide) ?_
  refine r_istore (lv2 := [(4, .int ((0))), (3, .int ((0))), (0, .ref (ad (0))), (1, .int (p1)), (2, .int (p2))]) X dX11_drawMonths_3 (by decide) rfl ?_
  refine r_aload_n X dX11_drawMonths_5 rfl 2 rfl ?_
  refine r_iload_n X dX11_drawMonths_6 rfl 3 rfl ?_
  refine r_i2l X dX11_drawMonths_7 ?_
  refine r_putJ X (k := 16) (Lp_N Lpk_0 rfl) Lpk_0 rfl (by decide) ui_11 (by decide) uw2_199 tyX11_ok nmX11 rfl rfl rfl dX11_drawMonths_8 ?_
  refine r_nmM h (fun m1 h => ?_)
  refine r_aload_n X dX11_drawMonths_11 rfl 2 rfl ?_
  refine r_getF X (k := 5) (of := 66) rfl (Lp_N Lpk_0 rfl) Lpk_0 rfl (by decide) ui_11 (by decide) uw2_188 rfl dX11_drawMonths_12 ?_
  refine r_aload_n X dX11_drawMonths_15 rfl 2 rfl ?_
  refine r_getF X (k := 4) (of := 64) rfl (Lp_N Lpk_0 rfl) Lpk_0 rfl (by decide) ui_11 (by decide) uw2_187 rfl dX11_drawMonths_16 ?_
  refine r_cVV (As := [.ref (ad (64))]) (rest := []) X (fun m9 hg => k_X6_copyFrom Lpk_66 Lpk_64 hg) h (Lp_N Lpk_66 rfl) Lpk_66 rfl (by decide) uw4_65 uw4_66 uw4_67 uw1_7 uw4_68 rfl rfl dd_X6_copyFrom ⟨Nat.le_of_ble_eq_true rfl, Nat.le_of_ble_eq_true rfl⟩ rfl (Nat.le_of_ble_eq_true rfl) dX11_drawMonths_19 rfl (fun m2 h => ?_)
  refine r_aload_n X dX11_drawMonths_22 rfl 2 rfl ?_
  refine r_getF X (k := 5) (of := 66) rfl (Lp_N Lpk_0 rfl) Lpk_0 rfl (by decide) ui_11 (by decide) uw2_188 rfl dX11_drawMonths_23 ?_
  refine r_iconst (v := (0)) X dX11_drawMonths_26 (by decide) ?_
  refine r_putIN X (k := 5) (Lp_N Lpk_66 rfl) Lpk_66 rfl (by decide) ui_6 (by decide) hl301 tyX6_ok nmX6 rfl rfl rfl dX11_drawMonths_27 ?_
  refine r_nmM h (fun m3 h => ?_)
  refine r_aload_n X dX11_drawMonths_30 rfl 2 rfl ?_
  refine r_getF X (k := 10) (of := 82) rfl (Lp_N Lpk_0 rfl) Lpk_0 rfl (by decide) ui_11 (by decide) uw2_193 rfl dX11_drawMonths_31 ?_
  refine r_aload_n X dX11_drawMonths_34 rfl 2 rfl ?_
  refine r_getR X 7 (k := 2) (Lp_N Lpk_0 rfl) Lpk_0 rfl (by decide) ui_11 (by decide) uw2_185 rfl h dX11_drawMonths_35 (fun q4 eq4 h => ?_)
  refine r_aload_n X dX11_drawMonths_38 rfl 2 rfl ?_
  refine r_getF X (k := 5) (of := 66) rfl (Lp_N Lpk_0 rfl) Lpk_0 rfl (by decide) ui_11 (by decide) uw2_188 rfl dX11_drawMonths_39 ?_
  refine r_getIN X (k := 2) (Lp_N Lpk_66 rfl) Lpk_66 rfl (by decide) ui_6 (by decide) hl138 rfl dX11_drawMonths_42 ?_
  refine r_cVV (As := [.ref (ad (q4)), .int (gI m3 66 2)]) (rest := []) X (fun m9 hg => k_X1_prepare eq4 hg) h (Lp_N Lpk_82 rfl) Lpk_82 rfl (by decide) uw4_69 uw4_70 uw4_71 uw1_11 uw4_72 rfl rfl dd_X1_prepare ⟨Nat.le_of_ble_eq_true rfl, Nat.le_of_ble_eq_true rfl⟩ rfl (Nat.le_of_ble_eq_true rfl) dX11_drawMonths_45 rfl (fun m5 h => ?_)
  refine r_iconst (v := (0)) X dX11_drawMonths_48 (by decide) ?_
  refine r_istore (lv2 := [(5, .int ((0))), (4, .int ((0))), (3, .int ((0))), (0, .ref (ad (0))), (1, .int (p1)), (2, .int (p2))]) X dX11_drawMonths_49 (by decide) rfl ?_
  exact r_sub [3, 5, 2, 1, 0] rfl (hL51 4000 ((0)) ((0)) ((0)) m5 h)
noncomputable def f_X11_months_J31 (p1 : Int32) (p2 : Int32) (p3 : Int32) (m2 : Mm) : Option (Option Int32 × Mm) :=
  some (none, m2)
noncomputable def f_X11_months (p1 : Int32) (p2 : Int32) (p3 : Int32) (mem : Mm) : Option (Option Int32 × Mm) :=
  if p1 < 0 then (f_X11_months_J31 p1 p2 p3 mem) else (if ((9999)) < p1 then (f_X11_months_J31 p1 p2 p3 mem) else (if p2 < ((1)) then (f_X11_months_J31 p1 p2 p3 mem) else (if ((60)) < p2 then (f_X11_months_J31 p1 p2 p3 mem) else (if p3 < 0 then (f_X11_months_J31 p1 p2 p3 mem) else (if p3 ≤ ((2)) then (bdV (f_X11_drawMonths p1 p2 mem) fun m1 => grd (inb p3 3) (some (some (gI m1 165 p3.toNatClampNeg), m1))) else (f_X11_months_J31 p1 p2 p3 mem))))))
theorem dd_X11_months : yX11_months.cls = RX11 ∧ yX11_months.cls ≠ "java/lang/invoke/MethodHandle" ∧ yX11_months.cls ≠ "java/lang/invoke/VarHandle" ∧ (parseMethodDescriptor yX11_months.desc).map (fun d => d.parameters.length) = some 3 := by decide +kernel
set_option maxHeartbeats 4000000 in
set_option maxRecDepth 100000 in
theorem k_X11_months {l : Launch} {ad : Nat → Nat} {cy : Nat → ClassId} {dC : Nat → ClassId} {dI : Nat → Nat → Nat} {ks : (Nat → Nat) × (Nat → Nat)} {p1 : Int32} {p2 : Int32} {p3 : Int32} {mem : Mm} {o2 : Option Int32} {mem2 : Mm} (hnt : l.stackTraces = false)  (h : f_X11_months p1 p2 p3 mem = some (o2, mem2)) : CtX l Lp ad cy dC dI ks yX11_months cX11_months 4 (some .int) ({ frames := 6, cells := 1, slots := 6, locals := 138 }) [.ref (ad (0)), .int (p1), .int (p2), .int (p3)] mem o2 mem2 := by
  refine CtX.of (cc := cX11_months) (maxL := 4) (ret := (some .int)) (own := RX11) rfl (by decide) (Nat.le_of_ble_eq_true rfl) ?_
  intro p e s m args below meth c A X hT hex
  have hts := X.2.2.2.2.1
  have hJ31 : ∀ (m2 : Mm), f_X11_months_J31 p1 p2 p3 m2 = some (o2, mem2) → Jd p l e ({ frames := 6, cells := 1, slots := 6, locals := 138 }) s m args below meth c 4 (vx_MQ below (QcX Lp ad cy dC dI o2 mem2 A) (XcX Lp ad cy dC dI o2 mem2 A) args s 1 6 A) A dC dI cy Lp ad m2 31 [] [] := by
    intro m2 h
    unfold f_X11_months_J31 at h
    exact r_throw X hT hnt hex rfl dX11_months_31 dX11_months_34 dX11_months_35 dX11_months_38 (Nat.le_of_ble_eq_true rfl) (Nat.le_of_ble_eq_true rfl) (Nat.le_of_ble_eq_true rfl) (Nat.le_of_ble_eq_true rfl) h
  unfold f_X11_months at h
  refine r_iload_n X dX11_months_0 rfl 1 rfl ?_
  refine r_if_lt (tgt := 31) X dX11_months_1 (by decide) h (fun h => ?_) (fun h => ?_)
  · exact r_sub [] rfl (hJ31 mem h)
  · refine r_iload_n X dX11_months_4 rfl 1 rfl ?_
    refine r_sipush (v := (9999)) X dX11_months_5 (by decide) ?_
    refine r_icmp_gt (tgt := 31) X dX11_months_8 (by decide) h (fun h => ?_) (fun h => ?_)
    · exact r_sub [] rfl (hJ31 mem h)
    · refine r_iload_n X dX11_months_11 rfl 2 rfl ?_
      refine r_iconst (v := (1)) X dX11_months_12 (by decide) ?_
      refine r_icmp_lt (tgt := 31) X dX11_months_13 (by decide) h (fun h => ?_) (fun h => ?_)
      · exact r_sub [] rfl (hJ31 mem h)
      · refine r_iload_n X dX11_months_16 rfl 2 rfl ?_
        refine r_bipush (v := (60)) X dX11_months_17 (by decide) ?_
        refine r_icmp_gt (tgt := 31) X dX11_months_19 (by decide) h (fun h => ?_) (fun h => ?_)
        · exact r_sub [] rfl (hJ31 mem h)
        · refine r_iload_n X dX11_months_22 rfl 3 rfl ?_
          refine r_if_lt (tgt := 31) X dX11_months_23 (by decide) h (fun h => ?_) (fun h => ?_)
          · exact r_sub [] rfl (hJ31 mem h)
          · refine r_iload_n X dX11_months_26 rfl 3 rfl ?_
            refine r_iconst (v := (2)) X dX11_months_27 (by decide) ?_
            refine r_icmp_le (tgt := 39) X dX11_months_28 (by decide) h (fun h => ?_) (fun h => ?_)
            · refine r_aload_n X dX11_months_39 rfl 0 rfl ?_
              refine r_iload_n X dX11_months_40 rfl 1 rfl ?_
              refine r_iload_n X dX11_months_41 rfl 2 rfl ?_
              refine r_cVV (As := [.int (p1), .int (p2)]) (rest := []) X (fun m9 hg => k_X11_drawMonths hg) h (Lp_N Lpk_0 rfl) Lpk_0 rfl (by decide) uw5_190 uw5_192 us3_10 uw1_1 uw5_193 rfl rfl dd_X11_drawMonths ⟨Nat.le_of_ble_eq_true rfl, Nat.le_of_ble_eq_true rfl⟩ rfl (Nat.le_of_ble_eq_true rfl) dX11_months_42 rfl (fun m1 h => ?_)
              refine r_aload_n X dX11_months_45 rfl 0 rfl ?_
              refine r_getF X (k := 15) (of := 165) rfl (Lp_N Lpk_0 rfl) Lpk_0 rfl (by decide) ui_11 (by decide) uw2_198 rfl dX11_months_46 ?_
              refine r_iload_n X dX11_months_49 rfl 3 rfl ?_
              refine r_iald X (Lp_N Lpk_165 rfl) Lpk_165 h dX11_months_50 (fun h => ?_)
              exact r_iretX X rfl dX11_months_51 h
            · exact r_sub [] rfl (hJ31 mem h)
noncomputable def f_X11_mark (p1 : Int32) (p2 : Int32) (mem : Mm) : Option (Int32 × Mm) :=
  if p1 < 0 then (grd (bok ((0))) (some ((0), mem))) else (if p1 < ((4)) then (grd (inb p1 4) (bnd (91 + (1 + 10 * p1.toNatClampNeg)) fun q1 => if ¬ p2 = 0 then (if ¬ (gI mem q1 3) = 0 then (bdV (f_X3_bringBack q1 64 68 76 mem) fun m2 => bnd (sI m2 0 14 ((0))) fun m3 => grd (bok ((1))) (some ((1), m3))) else (grd (bok ((0))) (some ((0), mem)))) else (bdV (f_X3_lay q1 64 68 76 mem) fun m4 => grd (bok ((1))) (some ((1), m4))))) else (grd (bok ((0))) (some ((0), mem))))
theorem dd_X11_mark : yX11_mark.cls = RX11 ∧ yX11_mark.cls ≠ "java/lang/invoke/MethodHandle" ∧ yX11_mark.cls ≠ "java/lang/invoke/VarHandle" ∧ (parseMethodDescriptor yX11_mark.desc).map (fun d => d.parameters.length) = some 2 := by decide +kernel
set_option maxHeartbeats 4000000 in
set_option maxRecDepth 100000 in
theorem k_X11_mark {l : Launch} {ad : Nat → Nat} {cy : Nat → ClassId} {dC : Nat → ClassId} {dI : Nat → Nat → Nat} {ks : (Nat → Nat) × (Nat → Nat)} {p1 : Int32} {p2 : Int32} {mem : Mm} {r2 : Int32} {mem2 : Mm}  (h : f_X11_mark p1 p2 mem = some (r2, mem2)) : CtI l Lp ad cy dC dI ks yX11_mark cX11_mark 4 (some .boolean) ({ frames := 2, cells := 0, slots := 0, locals := 45 }) [.ref (ad (0)), .int (p1), .int (p2)] mem r2 mem2 := by
  refine CtI.of (cc := cX11_mark) (maxL := 4) (ret := (some .boolean)) (own := RX11) rfl (by decide) (Nat.le_of_ble_eq_true rfl) ?_
  intro p e s m args below meth c A X
  have hts := X.2.2.2.2.1
  have hl291 := X.2.2.2.2.2.2.1 (.fieldLinkNest "StationPiano" 291 "StationPiano$Mark" "laid" "Z" "StationPiano") (List.mem_of_getElem? (i := 77) rfl)
  unfold f_X11_mark at h
  refine r_iload_n X dX11_mark_0 rfl 1 rfl ?_
  refine r_if_lt (tgt := 9) X dX11_mark_1 (by decide) h (fun h => ?_) (fun h => ?_)
  · refine r_iconst (v := (0)) X dX11_mark_9 (by decide) ?_
    exact r_zret2 X rfl dX11_mark_10 h
  · refine r_iload_n X dX11_mark_4 rfl 1 rfl ?_
    refine r_iconst (v := (4)) X dX11_mark_5 (by decide) ?_
    refine r_icmp_lt (tgt := 11) X dX11_mark_6 (by decide) h (fun h => ?_) (fun h => ?_)
    · refine r_aload_n X dX11_mark_11 rfl 0 rfl ?_
      refine r_getF X (k := 11) (of := 91) rfl (Lp_N Lpk_0 rfl) Lpk_0 rfl (by decide) ui_11 (by decide) uw2_194 rfl dX11_mark_12 ?_
      refine r_iload_n X dX11_mark_15 rfl 1 rfl ?_
      refine r_ald17 X (Lp_N Lpk_91 rfl) Lpk_91 (Lp_e17 Lpk_91) rfl h dX11_mark_16 (fun q1 eq1 h => ?_)
      refine r_astore_n (lv2 := [(3, .ref (ad (q1))), (0, .ref (ad (0))), (1, .int (p1)), (2, .int (p2))]) X dX11_mark_17 rfl (by decide) rfl ?_
      refine r_iload_n X dX11_mark_18 rfl 3 rfl ?_
      refine r_if_ne (tgt := 40) X dX11_mark_19 (by decide) h (fun h => ?_) (fun h => ?_)
      · refine r_aload_n X dX11_mark_40 rfl 0 rfl ?_
        refine r_getIN X (k := 3) (Lp_N eq1 rfl) eq1 rfl (by decide) ui_3 (by decide) hl291 rfl dX11_mark_41 ?_
        refine r_if_ne (tgt := 49) X dX11_mark_44 (by decide) h (fun h => ?_) (fun h => ?_)
        · refine r_aload_n X dX11_mark_49 rfl 0 rfl ?_
          refine r_aload_n X dX11_mark_50 rfl 1 rfl ?_
          refine r_getF X (k := 4) (of := 64) rfl (Lp_N Lpk_0 rfl) Lpk_0 rfl (by decide) ui_11 (by decide) uw2_187 rfl dX11_mark_51 ?_
          refine r_aload_n X dX11_mark_54 rfl 1 rfl ?_
          refine r_getF X (k := 6) (of := 68) rfl (Lp_N Lpk_0 rfl) Lpk_0 rfl (by decide) ui_11 (by decide) uw2_189 rfl dX11_mark_55 ?_
          refine r_aload_n X dX11_mark_58 rfl 1 rfl ?_
          refine r_getF X (k := 8) (of := 76) rfl (Lp_N Lpk_0 rfl) Lpk_0 rfl (by decide) ui_11 (by decide) uw2_191 rfl dX11_mark_59 ?_
          refine r_cVV (As := [.ref (ad (64)), .ref (ad (68)), .ref (ad (76))]) (rest := []) X (fun m9 hg => k_X3_bringBack eq1 Lpk_64 Lpk_68 Lpk_76 hg) h (Lp_N eq1 rfl) eq1 rfl (by decide) uw5_42 uw5_43 uw5_44 uw1_12 uw5_45 rfl rfl dd_X3_bringBack ⟨Nat.le_of_ble_eq_true rfl, Nat.le_of_ble_eq_true rfl⟩ rfl (Nat.le_of_ble_eq_true rfl) dX11_mark_62 rfl (fun m2 h => ?_)
          refine r_aload_n X dX11_mark_65 rfl 1 rfl ?_
          refine r_iconst (v := (0)) X dX11_mark_66 (by decide) ?_
          refine r_putI X (k := 14) (Lp_N Lpk_0 rfl) Lpk_0 rfl (by decide) ui_11 (by decide) uw2_197 tyX11_ok nmX11 rfl rfl rfl dX11_mark_67 ?_
          refine r_nmM h (fun m3 h => ?_)
          refine r_iconst (v := (1)) X dX11_mark_70 (by decide) ?_
          exact r_zret2 X rfl dX11_mark_71 h
        · refine r_iconst (v := (0)) X dX11_mark_47 (by decide) ?_
          exact r_zret2 X rfl dX11_mark_48 h
      · refine r_aload_n X dX11_mark_22 rfl 0 rfl ?_
        refine r_aload_n X dX11_mark_23 rfl 1 rfl ?_
        refine r_getF X (k := 4) (of := 64) rfl (Lp_N Lpk_0 rfl) Lpk_0 rfl (by decide) ui_11 (by decide) uw2_187 rfl dX11_mark_24 ?_
        refine r_aload_n X dX11_mark_27 rfl 1 rfl ?_
        refine r_getF X (k := 6) (of := 68) rfl (Lp_N Lpk_0 rfl) Lpk_0 rfl (by decide) ui_11 (by decide) uw2_189 rfl dX11_mark_28 ?_
        refine r_aload_n X dX11_mark_31 rfl 1 rfl ?_
        refine r_getF X (k := 8) (of := 76) rfl (Lp_N Lpk_0 rfl) Lpk_0 rfl (by decide) ui_11 (by decide) uw2_191 rfl dX11_mark_32 ?_
        refine r_cVV (As := [.ref (ad (64)), .ref (ad (68)), .ref (ad (76))]) (rest := []) X (fun m9 hg => k_X3_lay eq1 Lpk_64 Lpk_68 Lpk_76 hg) h (Lp_N eq1 rfl) eq1 rfl (by decide) uw5_32 uw5_33 uw5_34 uw1_12 uw5_35 rfl rfl dd_X3_lay ⟨Nat.le_of_ble_eq_true rfl, Nat.le_of_ble_eq_true rfl⟩ rfl (Nat.le_of_ble_eq_true rfl) dX11_mark_35 rfl (fun m4 h => ?_)
        refine r_iconst (v := (1)) X dX11_mark_38 (by decide) ?_
        exact r_zret2 X rfl dX11_mark_39 h
    · refine r_iconst (v := (0)) X dX11_mark_9 (by decide) ?_
      exact r_zret2 X rfl dX11_mark_10 h
noncomputable def f_X11_count (p1 : Int32) (mem : Mm) : Option (Int32 × Mm) :=
  if p1 = (0) then (grd (decide (Lp.1 (gR mem 0 2) = 7)) (bnd (gR mem 0 2) fun q1 => some (gI mem q1 6, mem))) else (if p1 = (1) then (grd (decide (Lp.1 (gR mem 0 2) = 7)) (bnd (gR mem 0 2) fun q2 => some (gI mem q2 7, mem))) else (if p1 = (2) then (grd (decide (Lp.1 (gR mem 0 2) = 7)) (bnd (gR mem 0 2) fun q3 => some (gI mem q3 8, mem))) else (if p1 = (3) then (some (gI mem 64 2, mem)) else (if p1 = (4) then (some (gI mem 64 3, mem)) else (if p1 = (5) then (some (gI mem 64 4, mem)) else (if p1 = (6) then (grd (decide (Lp.1 (gR mem 0 2) = 7)) (bnd (gR mem 0 2) fun q4 => some (gI mem q4 12, mem))) else (if p1 = (7) then (some (gI mem 64 1, mem)) else (if p1 = (8) then (some (gI mem 64 5, mem)) else (if p1 = (9) then (bdI (f_X6_goneKeys 64 mem) fun x6 m5 => some (x6, m5)) else (if p1 = (10) then (some (gI mem 68 3, mem)) else (if p1 = (11) then (some (gI mem 76 2, mem)) else (if p1 = (12) then (some (gI mem 0 14, mem)) else (if p1 = (13) then (some (gI mem 1 1, mem)) else (some ((-1), mem)))))))))))))))
theorem dd_X11_count : yX11_count.cls = RX11 ∧ yX11_count.cls ≠ "java/lang/invoke/MethodHandle" ∧ yX11_count.cls ≠ "java/lang/invoke/VarHandle" ∧ (parseMethodDescriptor yX11_count.desc).map (fun d => d.parameters.length) = some 1 := by decide +kernel
set_option maxHeartbeats 4000000 in
set_option maxRecDepth 100000 in
theorem k_X11_count {l : Launch} {ad : Nat → Nat} {cy : Nat → ClassId} {dC : Nat → ClassId} {dI : Nat → Nat → Nat} {ks : (Nat → Nat) × (Nat → Nat)} {p1 : Int32} {mem : Mm} {r2 : Int32} {mem2 : Mm}  (h : f_X11_count p1 mem = some (r2, mem2)) : CtI l Lp ad cy dC dI ks yX11_count cX11_count 2 (some .int) ({ frames := 1, cells := 0, slots := 0, locals := 22 }) [.ref (ad (0)), .int (p1)] mem r2 mem2 := by
  refine CtI.of (cc := cX11_count) (maxL := 2) (ret := (some .int)) (own := RX11) rfl (by decide) (Nat.le_of_ble_eq_true rfl) ?_
  intro p e s m args below meth c A X
  have hts := X.2.2.2.2.1
  have hl97 := X.2.2.2.2.2.2.1 (.fieldLinkNest "StationPiano" 97 "StationPiano$Tape" "length" "I" "StationPiano") (List.mem_of_getElem? (i := 0) rfl)
  have hl138 := X.2.2.2.2.2.2.1 (.fieldLinkNest "StationPiano" 138 "StationPiano$State" "minutes" "I" "StationPiano") (List.mem_of_getElem? (i := 57) rfl)
  have hl148 := X.2.2.2.2.2.2.1 (.fieldLinkNest "StationPiano" 148 "StationPiano$Station" "tuneCount" "I" "StationPiano") (List.mem_of_getElem? (i := 36) rfl)
  have hl173 := X.2.2.2.2.2.2.1 (.fieldLinkNest "StationPiano" 173 "StationPiano$Station" "passerCount" "I" "StationPiano") (List.mem_of_getElem? (i := 40) rfl)
  have hl187 := X.2.2.2.2.2.2.1 (.fieldLinkNest "StationPiano" 187 "StationPiano$State" "day" "I" "StationPiano") (List.mem_of_getElem? (i := 56) rfl)
  have hl193 := X.2.2.2.2.2.2.1 (.fieldLinkNest "StationPiano" 193 "StationPiano$Station" "price" "I" "StationPiano") (List.mem_of_getElem? (i := 51) rfl)
  have hl202 := X.2.2.2.2.2.2.1 (.fieldLinkNest "StationPiano" 202 "StationPiano$State" "from" "I" "StationPiano") (List.mem_of_getElem? (i := 59) rfl)
  have hl205 := X.2.2.2.2.2.2.1 (.fieldLinkNest "StationPiano" 205 "StationPiano$State" "to" "I" "StationPiano") (List.mem_of_getElem? (i := 61) rfl)
  have hl298 := X.2.2.2.2.2.2.1 (.fieldLinkNest "StationPiano" 298 "StationPiano$Station" "waits" "I" "StationPiano") (List.mem_of_getElem? (i := 44) rfl)
  have hl301 := X.2.2.2.2.2.2.1 (.fieldLinkNest "StationPiano" 301 "StationPiano$State" "paid" "I" "StationPiano") (List.mem_of_getElem? (i := 62) rfl)
  have hl308 := X.2.2.2.2.2.2.1 (.fieldLinkNest "StationPiano" 308 "StationPiano$Week" "length" "I" "StationPiano") (List.mem_of_getElem? (i := 67) rfl)
  have hl309 := X.2.2.2.2.2.2.1 (.fieldLinkNest "StationPiano" 309 "StationPiano$Clues" "length" "I" "StationPiano") (List.mem_of_getElem? (i := 68) rfl)
  unfold f_X11_count at h
  refine r_iload_n X dX11_count_0 rfl 1 rfl ?_
  by_cases c1_0 : p1 = (0)
  · have h := ite_p c1_0 h
    refine r_tin (off := 71) (tgt := 72) X dX11_count_1 (by rw [c1_0]; decide) (by rw [c1_0]; decide) (by rw [c1_0]; rfl) (by decide) ?_
    refine r_aload_n X dX11_count_72 rfl 0 rfl ?_
    refine r_getR X 7 (k := 2) (Lp_N Lpk_0 rfl) Lpk_0 rfl (by decide) ui_11 (by decide) uw2_185 rfl h dX11_count_73 (fun q1 eq1 h => ?_)
    refine r_getIN X (k := 6) (Lp_N eq1 rfl) eq1 rfl (by decide) ui_7 (by decide) hl148 rfl dX11_count_76 ?_
    exact r_iret2 X rfl dX11_count_79 h
  have h := ite_n c1_0 h
  by_cases c1_1 : p1 = (1)
  · have h := ite_p c1_1 h
    refine r_tin (off := 79) (tgt := 80) X dX11_count_1 (by rw [c1_1]; decide) (by rw [c1_1]; decide) (by rw [c1_1]; rfl) (by decide) ?_
    refine r_aload_n X dX11_count_80 rfl 0 rfl ?_
    refine r_getR X 7 (k := 2) (Lp_N Lpk_0 rfl) Lpk_0 rfl (by decide) ui_11 (by decide) uw2_185 rfl h dX11_count_81 (fun q2 eq2 h => ?_)
    refine r_getIN X (k := 7) (Lp_N eq2 rfl) eq2 rfl (by decide) ui_7 (by decide) hl173 rfl dX11_count_84 ?_
    exact r_iret2 X rfl dX11_count_87 h
  have h := ite_n c1_1 h
  by_cases c1_2 : p1 = (2)
  · have h := ite_p c1_2 h
    refine r_tin (off := 87) (tgt := 88) X dX11_count_1 (by rw [c1_2]; decide) (by rw [c1_2]; decide) (by rw [c1_2]; rfl) (by decide) ?_
    refine r_aload_n X dX11_count_88 rfl 0 rfl ?_
    refine r_getR X 7 (k := 2) (Lp_N Lpk_0 rfl) Lpk_0 rfl (by decide) ui_11 (by decide) uw2_185 rfl h dX11_count_89 (fun q3 eq3 h => ?_)
    refine r_getIN X (k := 8) (Lp_N eq3 rfl) eq3 rfl (by decide) ui_7 (by decide) hl298 rfl dX11_count_92 ?_
    exact r_iret2 X rfl dX11_count_95 h
  have h := ite_n c1_2 h
  by_cases c1_3 : p1 = (3)
  · have h := ite_p c1_3 h
    refine r_tin (off := 95) (tgt := 96) X dX11_count_1 (by rw [c1_3]; decide) (by rw [c1_3]; decide) (by rw [c1_3]; rfl) (by decide) ?_
    refine r_aload_n X dX11_count_96 rfl 0 rfl ?_
    refine r_getF X (k := 4) (of := 64) rfl (Lp_N Lpk_0 rfl) Lpk_0 rfl (by decide) ui_11 (by decide) uw2_187 rfl dX11_count_97 ?_
    refine r_getIN X (k := 2) (Lp_N Lpk_64 rfl) Lpk_64 rfl (by decide) ui_6 (by decide) hl138 rfl dX11_count_100 ?_
    exact r_iret2 X rfl dX11_count_103 h
  have h := ite_n c1_3 h
  by_cases c1_4 : p1 = (4)
  · have h := ite_p c1_4 h
    refine r_tin (off := 103) (tgt := 104) X dX11_count_1 (by rw [c1_4]; decide) (by rw [c1_4]; decide) (by rw [c1_4]; rfl) (by decide) ?_
    refine r_aload_n X dX11_count_104 rfl 0 rfl ?_
    refine r_getF X (k := 4) (of := 64) rfl (Lp_N Lpk_0 rfl) Lpk_0 rfl (by decide) ui_11 (by decide) uw2_187 rfl dX11_count_105 ?_
    refine r_getIN X (k := 3) (Lp_N Lpk_64 rfl) Lpk_64 rfl (by decide) ui_6 (by decide) hl202 rfl dX11_count_108 ?_
    exact r_iret2 X rfl dX11_count_111 h
  have h := ite_n c1_4 h
  by_cases c1_5 : p1 = (5)
  · have h := ite_p c1_5 h
    refine r_tin (off := 111) (tgt := 112) X dX11_count_1 (by rw [c1_5]; decide) (by rw [c1_5]; decide) (by rw [c1_5]; rfl) (by decide) ?_
    refine r_aload_n X dX11_count_112 rfl 0 rfl ?_
    refine r_getF X (k := 4) (of := 64) rfl (Lp_N Lpk_0 rfl) Lpk_0 rfl (by decide) ui_11 (by decide) uw2_187 rfl dX11_count_113 ?_
    refine r_getIN X (k := 4) (Lp_N Lpk_64 rfl) Lpk_64 rfl (by decide) ui_6 (by decide) hl205 rfl dX11_count_116 ?_
    exact r_iret2 X rfl dX11_count_119 h
  have h := ite_n c1_5 h
  by_cases c1_6 : p1 = (6)
  · have h := ite_p c1_6 h
    refine r_tin (off := 119) (tgt := 120) X dX11_count_1 (by rw [c1_6]; decide) (by rw [c1_6]; decide) (by rw [c1_6]; rfl) (by decide) ?_
    refine r_aload_n X dX11_count_120 rfl 0 rfl ?_
    refine r_getR X 7 (k := 2) (Lp_N Lpk_0 rfl) Lpk_0 rfl (by decide) ui_11 (by decide) uw2_185 rfl h dX11_count_121 (fun q4 eq4 h => ?_)
    refine r_getIN X (k := 12) (Lp_N eq4 rfl) eq4 rfl (by decide) ui_7 (by decide) hl193 rfl dX11_count_124 ?_
    exact r_iret2 X rfl dX11_count_127 h
  have h := ite_n c1_6 h
  by_cases c1_7 : p1 = (7)
  · have h := ite_p c1_7 h
    refine r_tin (off := 127) (tgt := 128) X dX11_count_1 (by rw [c1_7]; decide) (by rw [c1_7]; decide) (by rw [c1_7]; rfl) (by decide) ?_
    refine r_aload_n X dX11_count_128 rfl 0 rfl ?_
    refine r_getF X (k := 4) (of := 64) rfl (Lp_N Lpk_0 rfl) Lpk_0 rfl (by decide) ui_11 (by decide) uw2_187 rfl dX11_count_129 ?_
    refine r_getIN X (k := 1) (Lp_N Lpk_64 rfl) Lpk_64 rfl (by decide) ui_6 (by decide) hl187 rfl dX11_count_132 ?_
    exact r_iret2 X rfl dX11_count_135 h
  have h := ite_n c1_7 h
  by_cases c1_8 : p1 = (8)
  · have h := ite_p c1_8 h
    refine r_tin (off := 135) (tgt := 136) X dX11_count_1 (by rw [c1_8]; decide) (by rw [c1_8]; decide) (by rw [c1_8]; rfl) (by decide) ?_
    refine r_aload_n X dX11_count_136 rfl 0 rfl ?_
    refine r_getF X (k := 4) (of := 64) rfl (Lp_N Lpk_0 rfl) Lpk_0 rfl (by decide) ui_11 (by decide) uw2_187 rfl dX11_count_137 ?_
    refine r_getIN X (k := 5) (Lp_N Lpk_64 rfl) Lpk_64 rfl (by decide) ui_6 (by decide) hl301 rfl dX11_count_140 ?_
    exact r_iret2 X rfl dX11_count_143 h
  have h := ite_n c1_8 h
  by_cases c1_9 : p1 = (9)
  · have h := ite_p c1_9 h
    refine r_tin (off := 143) (tgt := 144) X dX11_count_1 (by rw [c1_9]; decide) (by rw [c1_9]; decide) (by rw [c1_9]; rfl) (by decide) ?_
    refine r_aload_n X dX11_count_144 rfl 0 rfl ?_
    refine r_getF X (k := 4) (of := 64) rfl (Lp_N Lpk_0 rfl) Lpk_0 rfl (by decide) ui_11 (by decide) uw2_187 rfl dX11_count_145 ?_
    refine r_cVI (As := []) (rest := []) X (fun r9 m9 hg => k_X6_goneKeys Lpk_64 hg) h (Lp_N Lpk_64 rfl) Lpk_64 rfl (by decide) uw5_50 uw5_51 uw5_52 uw1_7 uw5_53 rfl rfl dd_X6_goneKeys ⟨Nat.le_of_ble_eq_true rfl, Nat.le_of_ble_eq_true rfl⟩ rfl (Nat.le_of_ble_eq_true rfl) dX11_count_148 rfl (fun x6 m5 h => ?_)
    exact r_iret2 X rfl dX11_count_151 h
  have h := ite_n c1_9 h
  by_cases c1_10 : p1 = (10)
  · have h := ite_p c1_10 h
    refine r_tin (off := 151) (tgt := 152) X dX11_count_1 (by rw [c1_10]; decide) (by rw [c1_10]; decide) (by rw [c1_10]; rfl) (by decide) ?_
    refine r_aload_n X dX11_count_152 rfl 0 rfl ?_
    refine r_getF X (k := 6) (of := 68) rfl (Lp_N Lpk_0 rfl) Lpk_0 rfl (by decide) ui_11 (by decide) uw2_189 rfl dX11_count_153 ?_
    refine r_getIN X (k := 3) (Lp_N Lpk_68 rfl) Lpk_68 rfl (by decide) ui_10 (by decide) hl308 rfl dX11_count_156 ?_
    exact r_iret2 X rfl dX11_count_159 h
  have h := ite_n c1_10 h
  by_cases c1_11 : p1 = (11)
  · have h := ite_p c1_11 h
    refine r_tin (off := 159) (tgt := 160) X dX11_count_1 (by rw [c1_11]; decide) (by rw [c1_11]; decide) (by rw [c1_11]; rfl) (by decide) ?_
    refine r_aload_n X dX11_count_160 rfl 0 rfl ?_
    refine r_getF X (k := 8) (of := 76) rfl (Lp_N Lpk_0 rfl) Lpk_0 rfl (by decide) ui_11 (by decide) uw2_191 rfl dX11_count_161 ?_
    refine r_getIN X (k := 2) (Lp_N Lpk_76 rfl) Lpk_76 rfl (by decide) ui_0 (by decide) hl309 rfl dX11_count_164 ?_
    exact r_iret2 X rfl dX11_count_167 h
  have h := ite_n c1_11 h
  by_cases c1_12 : p1 = (12)
  · have h := ite_p c1_12 h
    refine r_tin (off := 167) (tgt := 168) X dX11_count_1 (by rw [c1_12]; decide) (by rw [c1_12]; decide) (by rw [c1_12]; rfl) (by decide) ?_
    refine r_aload_n X dX11_count_168 rfl 0 rfl ?_
    refine r_getI X (k := 14) (Lp_N Lpk_0 rfl) Lpk_0 rfl (by decide) ui_11 (by decide) uw2_197 rfl dX11_count_169 ?_
    exact r_iret2 X rfl dX11_count_172 h
  have h := ite_n c1_12 h
  by_cases c1_13 : p1 = (13)
  · have h := ite_p c1_13 h
    refine r_tin (off := 172) (tgt := 173) X dX11_count_1 (by rw [c1_13]; decide) (by rw [c1_13]; decide) (by rw [c1_13]; rfl) (by decide) ?_
    refine r_aload_n X dX11_count_173 rfl 0 rfl ?_
    refine r_getF X (k := 0) (of := 1) rfl (Lp_N Lpk_0 rfl) Lpk_0 rfl (by decide) ui_11 (by decide) uw2_183 rfl dX11_count_174 ?_
    refine r_getIN X (k := 1) (Lp_N Lpk_1 rfl) Lpk_1 rfl (by decide) ui_9 (by decide) hl97 rfl dX11_count_177 ?_
    exact r_iret2 X rfl dX11_count_180 h
  have h := ite_n c1_13 h
  refine r_tout (tgt := 181) X dX11_count_1 (tsw_out 14 (fun j hj => by rcases (show j = 0 ∨ j = 1 ∨ j = 2 ∨ j = 3 ∨ j = 4 ∨ j = 5 ∨ j = 6 ∨ j = 7 ∨ j = 8 ∨ j = 9 ∨ j = 10 ∨ j = 11 ∨ j = 12 ∨ j = 13 by omega) with rfl | rfl | rfl | rfl | rfl | rfl | rfl | rfl | rfl | rfl | rfl | rfl | rfl | rfl <;> assumption) (by decide)) (by decide) ?_
  refine r_iconst (v := (-1)) X dX11_count_181 (by decide) ?_
  exact r_iret2 X rfl dX11_count_182 h
