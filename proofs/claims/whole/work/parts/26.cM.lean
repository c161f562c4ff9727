noncomputable def f_X12_fresh_B2 (k2 : Int32 → Mm → Option Mm) (x1 : Int32) (m2 : Mm) : Option Mm :=
  if ((17)) ≤ x1 then (bnd (sI m2 35 1 (gI m2 2 3)) fun m3 => bnd (sI m3 35 2 (gI m3 2 4)) fun m4 => bnd (sI m4 35 3 (gI m4 2 5)) fun m5 => some m5) else (grd (inb x1 17) (bnd (sI m2 35 x1.toNatClampNeg ((0))) fun m6 => bnd (x1 + (1)) fun x7 => k2 x7 m6))
noncomputable def f_X12_fresh  (mem : Mm) : Option Mm :=
  lop (fun _ _ => none) (f_X12_fresh_B2 ) 4000 ((0)) mem
theorem dd_X12_fresh : yX12_fresh.cls = RX12 ∧ yX12_fresh.cls ≠ "java/lang/invoke/MethodHandle" ∧ yX12_fresh.cls ≠ "java/lang/invoke/VarHandle" ∧ (parseMethodDescriptor yX12_fresh.desc).map (fun d => d.parameters.length) = some 0 := by decide +kernel
set_option maxHeartbeats 4000000 in
set_option maxRecDepth 100000 in
theorem k_X12_fresh {l : Launch} {ad : Nat → Nat} {cy : Nat → ClassId} {dC : Nat → ClassId} {dI : Nat → Nat → Nat} {ks : (Nat → Nat) × (Nat → Nat)}  {mem : Mm} {mem2 : Mm}  (h : f_X12_fresh  mem = some mem2) : CtV l Lm ad cy dC dI ks yX12_fresh cX12_fresh 2 none ({ frames := 0, cells := 0, slots := 0, locals := 0 }) [.ref (ad (0))] mem mem2 := by
  refine CtV.of (cc := cX12_fresh) (maxL := 2) (ret := none) (own := RX12) rfl (by decide) (Nat.le_of_ble_eq_true rfl) ?_
  intro p e s m args below meth c A X
  have hts := X.2.2.2.2.1
  have hJ2 : ∀ (k2 : Int32 → Mm → Option Mm) (hk2 : ∀ (x1 : Int32) (m2 : Mm), k2 x1 m2 = some mem2 → Jd p l e ({ frames := 0, cells := 0, slots := 0, locals := 0 }) s m args below meth c 2 (MQ below (PsV Lm ad cy dC dI mem2 A) args s 0 0 A) A dC dI cy Lm ad m2 2 [(0, .ref (ad (0))), (1, .int (x1))] []) (x1 : Int32) (m2 : Mm), f_X12_fresh_B2 k2 x1 m2 = some mem2 → Jd p l e ({ frames := 0, cells := 0, slots := 0, locals := 0 }) s m args below meth c 2 (MQ below (PsV Lm ad cy dC dI mem2 A) args s 0 0 A) A dC dI cy Lm ad m2 2 [(0, .ref (ad (0))), (1, .int (x1))] [] := by
    intro k2 hk2 x1 m2 h
    unfold f_X12_fresh_B2 at h
    refine r_iload_n X dX12_fresh_2 rfl 1 rfl ?_
    refine r_bipush (v := (17)) X dX12_fresh_3 (by decide) ?_
    refine r_icmp_ge (tgt := 21) X dX12_fresh_5 (by decide) h (fun h => ?_) (fun h => ?_)
    · refine r_aload_n X dX12_fresh_21 rfl 0 rfl ?_
      refine r_getF X (k := 49) (of := 35) rfl (Lm_N Lmk_0 rfl) Lmk_0 rfl (by decide) ui_12 (by decide) uw6_29 rfl dX12_fresh_22 ?_
      refine r_iconst (v := (1)) X dX12_fresh_25 (by decide) ?_
      refine r_aload_n X dX12_fresh_26 rfl 0 rfl ?_
      refine r_getF X (k := 10) (of := 2) rfl (Lm_N Lmk_0 rfl) Lmk_0 rfl (by decide) ui_12 (by decide) uw5_230 rfl dX12_fresh_27 ?_
      refine r_iconst (v := (3)) X dX12_fresh_30 (by decide) ?_
      refine r_iald X (Lm_N Lmk_2 rfl) Lmk_2 (g_in rfl h) dX12_fresh_31 (fun h => ?_)
      refine r_iast X (Lm_N Lmk_35 rfl) Lmk_35 (g_in rfl h) dX12_fresh_32 (fun h => ?_)
      refine r_nmM h (fun m3 h => ?_)
      refine r_aload_n X dX12_fresh_33 rfl 0 rfl ?_
      refine r_getF X (k := 49) (of := 35) rfl (Lm_N Lmk_0 rfl) Lmk_0 rfl (by decide) ui_12 (by decide) uw6_29 rfl dX12_fresh_34 ?_
      refine r_iconst (v := (2)) X dX12_fresh_37 (by decide) ?_
      refine r_aload_n X dX12_fresh_38 rfl 0 rfl ?_
      refine r_getF X (k := 10) (of := 2) rfl (Lm_N Lmk_0 rfl) Lmk_0 rfl (by decide) ui_12 (by decide) uw5_230 rfl dX12_fresh_39 ?_
      refine r_iconst (v := (4)) X dX12_fresh_42 (by decide) ?_
      refine r_iald X (Lm_N Lmk_2 rfl) Lmk_2 (g_in rfl h) dX12_fresh_43 (fun h => ?_)
      refine r_iast X (Lm_N Lmk_35 rfl) Lmk_35 (g_in rfl h) dX12_fresh_44 (fun h => ?_)
      refine r_nmM h (fun m4 h => ?_)
      refine r_aload_n X dX12_fresh_45 rfl 0 rfl ?_
      refine r_getF X (k := 49) (of := 35) rfl (Lm_N Lmk_0 rfl) Lmk_0 rfl (by decide) ui_12 (by decide) uw6_29 rfl dX12_fresh_46 ?_
      refine r_iconst (v := (3)) X dX12_fresh_49 (by decide) ?_
      refine r_aload_n X dX12_fresh_50 rfl 0 rfl ?_
      refine r_getF X (k := 10) (of := 2) rfl (Lm_N Lmk_0 rfl) Lmk_0 rfl (by decide) ui_12 (by decide) uw5_230 rfl dX12_fresh_51 ?_
      refine r_iconst (v := (5)) X dX12_fresh_54 (by decide) ?_
      refine r_iald X (Lm_N Lmk_2 rfl) Lmk_2 (g_in rfl h) dX12_fresh_55 (fun h => ?_)
      refine r_iast X (Lm_N Lmk_35 rfl) Lmk_35 (g_in rfl h) dX12_fresh_56 (fun h => ?_)
      refine r_nmM h (fun m5 h => ?_)
      exact r_vret X rfl dX12_fresh_57 h
    · refine r_aload_n X dX12_fresh_8 rfl 0 rfl ?_
      refine r_getF X (k := 49) (of := 35) rfl (Lm_N Lmk_0 rfl) Lmk_0 rfl (by decide) ui_12 (by decide) uw6_29 rfl dX12_fresh_9 ?_
      refine r_iload_n X dX12_fresh_12 rfl 1 rfl ?_
      refine r_iconst (v := (0)) X dX12_fresh_13 (by decide) ?_
      refine r_iast X (Lm_N Lmk_35 rfl) Lmk_35 h dX12_fresh_14 (fun h => ?_)
      refine r_nmM h (fun m6 h => ?_)
      refine r_inc h (fun x7 e9 h => ?_)
      refine r_iinc (v := x7) (lv2 := [(1, .int (x7)), (0, .ref (ad (0)))]) X dX12_fresh_15 1 rfl (by rw [e9]; rfl) (by decide) rfl ?_
      refine r_goto (tgt := 2) X dX12_fresh_18 (by decide) ?_
      exact r_sub [1, 0] rfl (hk2 x7 m6 h)
  have hL2 : ∀ (n : Nat), ∀ (x1 : Int32) (m2 : Mm), lop (fun _ _ => none) (f_X12_fresh_B2 ) n x1 m2 = some mem2 → Jd p l e ({ frames := 0, cells := 0, slots := 0, locals := 0 }) s m args below meth c 2 (MQ below (PsV Lm ad cy dC dI mem2 A) args s 0 0 A) A dC dI cy Lm ad m2 2 [(0, .ref (ad (0))), (1, .int (x1))] [] := by
    intro  n
    induction n with
    | zero => intro _ _ h; cases h
    | succ n ih => intro a0 a1 h; exact hJ2  _ ih a0 a1 h
  unfold f_X12_fresh at h
  refine r_iconst (v := (0)) X dX12_fresh_0 (by decide) ?_
  refine r_istore_n (lv2 := [(1, .int ((0))), (0, .ref (ad (0)))]) X dX12_fresh_1 rfl (by decide) rfl ?_
  exact r_sub [1, 0] rfl (hL2 4000 ((0)) mem h)
noncomputable def f_X12_usual (p1 : Int32) (mem : Mm) : Option Mm :=
  grd (inb ((((7)) * p1) + ((0))) 14) (bnd (sI mem 2 ((((7)) * p1) + ((0))).toNatClampNeg ((0))) fun m1 => grd (inb ((((7)) * p1) + ((1))) 14) (bnd (sI m1 2 ((((7)) * p1) + ((1))).toNatClampNeg ((0))) fun m2 => grd (inb ((((7)) * p1) + ((2))) 14) (bnd (sI m2 2 ((((7)) * p1) + ((2))).toNatClampNeg ((5))) fun m3 => grd (inb ((((7)) * p1) + ((3))) 14) (bnd (sI m3 2 ((((7)) * p1) + ((3))).toNatClampNeg ((30))) fun m4 => grd (inb ((((7)) * p1) + ((4))) 14) (bnd (sI m4 2 ((((7)) * p1) + ((4))).toNatClampNeg ((0))) fun m5 => grd (inb ((((7)) * p1) + ((5))) 14) (bnd (sI m5 2 ((((7)) * p1) + ((5))).toNatClampNeg ((60))) fun m6 => grd (inb ((((7)) * p1) + ((6))) 14) (bnd (sI m6 2 ((((7)) * p1) + ((6))).toNatClampNeg ((60))) fun m7 => some m7)))))))
theorem dd_X12_usual : yX12_usual.cls = RX12 ∧ yX12_usual.cls ≠ "java/lang/invoke/MethodHandle" ∧ yX12_usual.cls ≠ "java/lang/invoke/VarHandle" ∧ (parseMethodDescriptor yX12_usual.desc).map (fun d => d.parameters.length) = some 1 := by decide +kernel
set_option maxHeartbeats 4000000 in
set_option maxRecDepth 100000 in
theorem k_X12_usual {l : Launch} {ad : Nat → Nat} {cy : Nat → ClassId} {dC : Nat → ClassId} {dI : Nat → Nat → Nat} {ks : (Nat → Nat) × (Nat → Nat)} {p1 : Int32} {mem : Mm} {mem2 : Mm}  (h : f_X12_usual p1 mem = some mem2) : CtV l Lm ad cy dC dI ks yX12_usual cX12_usual 2 none ({ frames := 0, cells := 0, slots := 0, locals := 0 }) [.ref (ad (0)), .int (p1)] mem mem2 := by
  refine CtV.of (cc := cX12_usual) (maxL := 2) (ret := none) (own := RX12) rfl (by decide) (Nat.le_of_ble_eq_true rfl) ?_
  intro p e s m args below meth c A X
  have hts := X.2.2.2.2.1
  unfold f_X12_usual at h
  refine r_aload_n X dX12_usual_0 rfl 0 rfl ?_
  refine r_getF X (k := 10) (of := 2) rfl (Lm_N Lmk_0 rfl) Lmk_0 rfl (by decide) ui_12 (by decide) uw5_230 rfl dX12_usual_1 ?_
  refine r_bipush (v := (7)) X dX12_usual_4 (by decide) ?_
  refine r_iload_n X dX12_usual_6 rfl 1 rfl ?_
  refine r_imul X dX12_usual_7 ?_
  refine r_iconst (v := (0)) X dX12_usual_8 (by decide) ?_
  refine r_iadd X dX12_usual_9 ?_
  refine r_iconst (v := (0)) X dX12_usual_10 (by decide) ?_
  refine r_iast X (Lm_N Lmk_2 rfl) Lmk_2 h dX12_usual_11 (fun h => ?_)
  refine r_nmM h (fun m1 h => ?_)
  refine r_aload_n X dX12_usual_12 rfl 0 rfl ?_
  refine r_getF X (k := 10) (of := 2) rfl (Lm_N Lmk_0 rfl) Lmk_0 rfl (by decide) ui_12 (by decide) uw5_230 rfl dX12_usual_13 ?_
  refine r_bipush (v := (7)) X dX12_usual_16 (by decide) ?_
  refine r_iload_n X dX12_usual_18 rfl 1 rfl ?_
  refine r_imul X dX12_usual_19 ?_
  refine r_iconst (v := (1)) X dX12_usual_20 (by decide) ?_
  refine r_iadd X dX12_usual_21 ?_
  refine r_iconst (v := (0)) X dX12_usual_22 (by decide) ?_
  refine r_iast X (Lm_N Lmk_2 rfl) Lmk_2 h dX12_usual_23 (fun h => ?_)
  refine r_nmM h (fun m2 h => ?_)
  refine r_aload_n X dX12_usual_24 rfl 0 rfl ?_
  refine r_getF X (k := 10) (of := 2) rfl (Lm_N Lmk_0 rfl) Lmk_0 rfl (by decide) ui_12 (by decide) uw5_230 rfl dX12_usual_25 ?_
  refine r_bipush (v := (7)) X dX12_usual_28 (by decide) ?_
  refine r_iload_n X dX12_usual_30 rfl 1 rfl ?_
  refine r_imul X dX12_usual_31 ?_
  refine r_iconst (v := (2)) X dX12_usual_32 (by decide) ?_
  refine r_iadd X dX12_usual_33 ?_
  refine r_iconst (v := (5)) X dX12_usual_34 (by decide) ?_
  refine r_iast X (Lm_N Lmk_2 rfl) Lmk_2 h dX12_usual_35 (fun h => ?_)
  refine r_nmM h (fun m3 h => ?_)
  refine r_aload_n X dX12_usual_36 rfl 0 rfl ?_
  refine r_getF X (k := 10) (of := 2) rfl (Lm_N Lmk_0 rfl) Lmk_0 rfl (by decide) ui_12 (by decide) uw5_230 rfl dX12_usual_37 ?_
  refine r_bipush (v := (7)) X dX12_usual_40 (by decide) ?_
  refine r_iload_n X dX12_usual_42 rfl 1 rfl ?_
  refine r_imul X dX12_usual_43 ?_
  refine r_iconst (v := (3)) X dX12_usual_44 (by decide) ?_
  refine r_iadd X dX12_usual_45 ?_
  refine r_bipush (v := (30)) X dX12_usual_46 (by decide) ?_
  refine r_iast X (Lm_N Lmk_2 rfl) Lmk_2 h dX12_usual_48 (fun h => ?_)
  refine r_nmM h (fun m4 h => ?_)
  refine r_aload_n X dX12_usual_49 rfl 0 rfl ?_
  refine r_getF X (k := 10) (of := 2) rfl (Lm_N Lmk_0 rfl) Lmk_0 rfl (by decide) ui_12 (by decide) uw5_230 rfl dX12_usual_50 ?_
  refine r_bipush (v := (7)) X dX12_usual_53 (by decide) ?_
  refine r_iload_n X dX12_usual_55 rfl 1 rfl ?_
  refine r_imul X dX12_usual_56 ?_
  refine r_iconst (v := (4)) X dX12_usual_57 (by decide) ?_
  refine r_iadd X dX12_usual_58 ?_
  refine r_iconst (v := (0)) X dX12_usual_59 (by decide) ?_
  refine r_iast X (Lm_N Lmk_2 rfl) Lmk_2 h dX12_usual_60 (fun h => ?_)
  refine r_nmM h (fun m5 h => ?_)
  refine r_aload_n X dX12_usual_61 rfl 0 rfl ?_
  refine r_getF X (k := 10) (of := 2) rfl (Lm_N Lmk_0 rfl) Lmk_0 rfl (by decide) ui_12 (by decide) uw5_230 rfl dX12_usual_62 ?_
  refine r_bipush (v := (7)) X dX12_usual_65 (by decide) ?_
  refine r_iload_n X dX12_usual_67 rfl 1 rfl ?_
  refine r_imul X dX12_usual_68 ?_
  refine r_iconst (v := (5)) X dX12_usual_69 (by decide) ?_
  refine r_iadd X dX12_usual_70 ?_
  refine r_bipush (v := (60)) X dX12_usual_71 (by decide) ?_
  refine r_iast X (Lm_N Lmk_2 rfl) Lmk_2 h dX12_usual_73 (fun h => ?_)
  refine r_nmM h (fun m6 h => ?_)
  refine r_aload_n X dX12_usual_74 rfl 0 rfl ?_
  refine r_getF X (k := 10) (of := 2) rfl (Lm_N Lmk_0 rfl) Lmk_0 rfl (by decide) ui_12 (by decide) uw5_230 rfl dX12_usual_75 ?_
  refine r_bipush (v := (7)) X dX12_usual_78 (by decide) ?_
  refine r_iload_n X dX12_usual_80 rfl 1 rfl ?_
  refine r_imul X dX12_usual_81 ?_
  refine r_bipush (v := (6)) X dX12_usual_82 (by decide) ?_
  refine r_iadd X dX12_usual_84 ?_
  refine r_bipush (v := (60)) X dX12_usual_85 (by decide) ?_
  refine r_iast X (Lm_N Lmk_2 rfl) Lmk_2 h dX12_usual_87 (fun h => ?_)
  refine r_nmM h (fun m7 h => ?_)
  exact r_vret X rfl dX12_usual_88 h
noncomputable def f_X12_thrown  (mem : Mm) : Option (Int32 × Mm) :=
  some (gI mem 0 0, mem)
theorem dd_X12_thrown : yX12_thrown.cls = RX12 ∧ yX12_thrown.cls ≠ "java/lang/invoke/MethodHandle" ∧ yX12_thrown.cls ≠ "java/lang/invoke/VarHandle" ∧ (parseMethodDescriptor yX12_thrown.desc).map (fun d => d.parameters.length) = some 0 := by decide +kernel
set_option maxHeartbeats 4000000 in
set_option maxRecDepth 100000 in
theorem k_X12_thrown {l : Launch} {ad : Nat → Nat} {cy : Nat → ClassId} {dC : Nat → ClassId} {dI : Nat → Nat → Nat} {ks : (Nat → Nat) × (Nat → Nat)}  {mem : Mm} {r2 : Int32} {mem2 : Mm}  (h : f_X12_thrown  mem = some (r2, mem2)) : CtI l Lm ad cy dC dI ks yX12_thrown cX12_thrown 1 (some .int) ({ frames := 0, cells := 0, slots := 0, locals := 0 }) [.ref (ad (0))] mem r2 mem2 := by
  refine CtI.of (cc := cX12_thrown) (maxL := 1) (ret := (some .int)) (own := RX12) rfl (by decide) (Nat.le_of_ble_eq_true rfl) ?_
  intro p e s m args below meth c A X
  have hts := X.2.2.2.2.1
  unfold f_X12_thrown at h
  refine r_aload_n X dX12_thrown_0 rfl 0 rfl ?_
  refine r_getI X (k := 0) (Lm_N Lmk_0 rfl) Lmk_0 rfl (by decide) ui_12 (by decide) uw5_220 rfl dX12_thrown_1 ?_
  exact r_iret2 X rfl dX12_thrown_4 h
noncomputable def f_X12_within (p0 : Int32) (p1 : Int32) (p2 : Int32) (mem : Mm) : Option (Int32 × Mm) :=
  if p0 < p1 then (grd (bok ((0))) (some ((0), mem))) else (if p2 < p0 then (grd (bok ((0))) (some ((0), mem))) else (grd (bok ((1))) (some ((1), mem))))
theorem dd_X12_within : yX12_within.cls ≠ "java/lang/invoke/MethodHandle" ∧ yX12_within.cls ≠ "java/lang/invoke/VarHandle" ∧ (parseMethodDescriptor yX12_within.desc).map (fun d => d.parameters.length) = some 3 := by decide +kernel
set_option maxHeartbeats 4000000 in
set_option maxRecDepth 100000 in
theorem k_X12_within {l : Launch} {ad : Nat → Nat} {cy : Nat → ClassId} {dC : Nat → ClassId} {dI : Nat → Nat → Nat} {ks : (Nat → Nat) × (Nat → Nat)} {p0 : Int32} {p1 : Int32} {p2 : Int32} {mem : Mm} {r2 : Int32} {mem2 : Mm}  (h : f_X12_within p0 p1 p2 mem = some (r2, mem2)) : CtI l Lm ad cy dC dI ks yX12_within cX12_within 3 (some .boolean) ({ frames := 0, cells := 0, slots := 0, locals := 0 }) [.int (p0), .int (p1), .int (p2)] mem r2 mem2 := by
  refine CtI.of (cc := cX12_within) (maxL := 3) (ret := (some .boolean)) (own := RX12) rfl (by decide) (Nat.le_of_ble_eq_true rfl) ?_
  intro p e s m args below meth c A X
  have hts := X.2.2.2.2.1
  unfold f_X12_within at h
  refine r_iload_n X dX12_within_0 rfl 0 rfl ?_
  refine r_iload_n X dX12_within_1 rfl 1 rfl ?_
  refine r_icmp_lt (tgt := 14) X dX12_within_2 (by decide) h (fun h => ?_) (fun h => ?_)
  · refine r_iconst (v := (0)) X dX12_within_14 (by decide) ?_
    exact r_zret2 X rfl dX12_within_15 h
  · refine r_iload_n X dX12_within_5 rfl 0 rfl ?_
    refine r_iload_n X dX12_within_6 rfl 2 rfl ?_
    refine r_icmp_gt (tgt := 14) X dX12_within_7 (by decide) h (fun h => ?_) (fun h => ?_)
    · refine r_iconst (v := (0)) X dX12_within_14 (by decide) ?_
      exact r_zret2 X rfl dX12_within_15 h
    · refine r_iconst (v := (1)) X dX12_within_10 (by decide) ?_
      refine r_goto (tgt := 15) X dX12_within_11 (by decide) ?_
      exact r_zret2 X rfl dX12_within_15 h
noncomputable def f_X12_between (p0 : Int32) (p1 : Int32) (p2 : Int32) (mem : Mm) : Option (Int32 × Mm) :=
  if p1 ≤ p0 then (if p0 ≤ p2 then (some (p0, mem)) else (some (p2, mem))) else (some (p1, mem))
theorem dd_X12_between : yX12_between.cls ≠ "java/lang/invoke/MethodHandle" ∧ yX12_between.cls ≠ "java/lang/invoke/VarHandle" ∧ (parseMethodDescriptor yX12_between.desc).map (fun d => d.parameters.length) = some 3 := by decide +kernel
set_option maxHeartbeats 4000000 in
set_option maxRecDepth 100000 in
theorem k_X12_between {l : Launch} {ad : Nat → Nat} {cy : Nat → ClassId} {dC : Nat → ClassId} {dI : Nat → Nat → Nat} {ks : (Nat → Nat) × (Nat → Nat)} {p0 : Int32} {p1 : Int32} {p2 : Int32} {mem : Mm} {r2 : Int32} {mem2 : Mm}  (h : f_X12_between p0 p1 p2 mem = some (r2, mem2)) : CtI l Lm ad cy dC dI ks yX12_between cX12_between 3 (some .int) ({ frames := 0, cells := 0, slots := 0, locals := 0 }) [.int (p0), .int (p1), .int (p2)] mem r2 mem2 := by
  refine CtI.of (cc := cX12_between) (maxL := 3) (ret := (some .int)) (own := RX12) rfl (by decide) (Nat.le_of_ble_eq_true rfl) ?_
  intro p e s m args below meth c A X
  have hts := X.2.2.2.2.1
  unfold f_X12_between at h
  refine r_iload_n X dX12_between_0 rfl 0 rfl ?_
  refine r_iload_n X dX12_between_1 rfl 1 rfl ?_
  refine r_icmp_ge (tgt := 9) X dX12_between_2 (by decide) h (fun h => ?_) (fun h => ?_)
  · refine r_iload_n X dX12_between_9 rfl 0 rfl ?_
    refine r_iload_n X dX12_between_10 rfl 2 rfl ?_
    refine r_icmp_le (tgt := 18) X dX12_between_11 (by decide) h (fun h => ?_) (fun h => ?_)
    · refine r_iload_n X dX12_between_18 rfl 0 rfl ?_
      exact r_iret2 X rfl dX12_between_19 h
    · refine r_iload_n X dX12_between_14 rfl 2 rfl ?_
      refine r_goto (tgt := 19) X dX12_between_15 (by decide) ?_
      exact r_iret2 X rfl dX12_between_19 h
  · refine r_iload_n X dX12_between_5 rfl 1 rfl ?_
    refine r_goto (tgt := 19) X dX12_between_6 (by decide) ?_
    exact r_iret2 X rfl dX12_between_19 h
noncomputable def f_X12_bits_B4 (p0 : Int32) (k4 : Int32 → Int32 → Mm → Option (Int32 × Mm)) (x1 : Int32) (x2 : Int32) (m3 : Mm) : Option (Int32 × Mm) :=
  if ((7)) ≤ x2 then (some (x1, m3)) else (bnd (x1 + ((p0 >>> (x2 &&& 31)) &&& ((1)))) fun x4 => bnd (x2 + (1)) fun x5 => k4 x4 x5 m3)
noncomputable def f_X12_bits (p0 : Int32) (mem : Mm) : Option (Int32 × Mm) :=
  lop (fun _ _ _ => none) (f_X12_bits_B4 p0 ) 4000 ((0)) ((0)) mem
theorem dd_X12_bits : yX12_bits.cls ≠ "java/lang/invoke/MethodHandle" ∧ yX12_bits.cls ≠ "java/lang/invoke/VarHandle" ∧ (parseMethodDescriptor yX12_bits.desc).map (fun d => d.parameters.length) = some 1 := by decide +kernel
set_option maxHeartbeats 4000000 in
set_option maxRecDepth 100000 in
theorem k_X12_bits {l : Launch} {ad : Nat → Nat} {cy : Nat → ClassId} {dC : Nat → ClassId} {dI : Nat → Nat → Nat} {ks : (Nat → Nat) × (Nat → Nat)} {p0 : Int32} {mem : Mm} {r2 : Int32} {mem2 : Mm}  (h : f_X12_bits p0 mem = some (r2, mem2)) : CtI l Lm ad cy dC dI ks yX12_bits cX12_bits 3 (some .int) ({ frames := 0, cells := 0, slots := 0, locals := 0 }) [.int (p0)] mem r2 mem2 := by
  refine CtI.of (cc := cX12_bits) (maxL := 3) (ret := (some .int)) (own := RX12) rfl (by decide) (Nat.le_of_ble_eq_true rfl) ?_
  intro p e s m args below meth c A X
  have hts := X.2.2.2.2.1
  have hJ4 : ∀ (k4 : Int32 → Int32 → Mm → Option (Int32 × Mm)) (hk4 : ∀ (x1 : Int32) (x2 : Int32) (m3 : Mm), k4 x1 x2 m3 = some (r2, mem2) → Jd p l e ({ frames := 0, cells := 0, slots := 0, locals := 0 }) s m args below meth c 3 (MQ below (PsI Lm ad cy dC dI r2 mem2 A) args s 0 0 A) A dC dI cy Lm ad m3 4 [(0, .int (p0)), (1, .int (x1)), (2, .int (x2))] []) (x1 : Int32) (x2 : Int32) (m3 : Mm), f_X12_bits_B4 p0 k4 x1 x2 m3 = some (r2, mem2) → Jd p l e ({ frames := 0, cells := 0, slots := 0, locals := 0 }) s m args below meth c 3 (MQ below (PsI Lm ad cy dC dI r2 mem2 A) args s 0 0 A) A dC dI cy Lm ad m3 4 [(0, .int (p0)), (1, .int (x1)), (2, .int (x2))] [] := by
    intro k4 hk4 x1 x2 m3 h
    unfold f_X12_bits_B4 at h
    refine r_iload_n X dX12_bits_4 rfl 2 rfl ?_
    refine r_bipush (v := (7)) X dX12_bits_5 (by decide) ?_
    refine r_icmp_ge (tgt := 24) X dX12_bits_7 (by decide) h (fun h => ?_) (fun h => ?_)
    · refine r_iload_n X dX12_bits_24 rfl 1 rfl ?_
      exact r_iret2 X rfl dX12_bits_25 h
    · refine r_iload_n X dX12_bits_10 rfl 1 rfl ?_
      refine r_iload_n X dX12_bits_11 rfl 0 rfl ?_
      refine r_iload_n X dX12_bits_12 rfl 2 rfl ?_
      refine r_ishr X dX12_bits_13 ?_
      refine r_iconst (v := (1)) X dX12_bits_14 (by decide) ?_
      refine r_iand X dX12_bits_15 ?_
      refine r_iadd X dX12_bits_16 ?_
      refine r_nmI h (fun x4 h => ?_)
      refine r_istore_n (lv2 := [(1, .int (x4)), (0, .int (p0)), (2, .int (x2))]) X dX12_bits_17 rfl (by decide) rfl ?_
      refine r_inc h (fun x5 e9 h => ?_)
      refine r_iinc (v := x5) (lv2 := [(2, .int (x5)), (1, .int (x4)), (0, .int (p0))]) X dX12_bits_18 2 rfl (by rw [e9]; rfl) (by decide) rfl ?_
      refine r_goto (tgt := 4) X dX12_bits_21 (by decide) ?_
      exact r_sub [2, 1, 0] rfl (hk4 x4 x5 m3 h)
  have hL4 : ∀ (n : Nat), ∀ (x1 : Int32) (x2 : Int32) (m3 : Mm), lop (fun _ _ _ => none) (f_X12_bits_B4 p0 ) n x1 x2 m3 = some (r2, mem2) → Jd p l e ({ frames := 0, cells := 0, slots := 0, locals := 0 }) s m args below meth c 3 (MQ below (PsI Lm ad cy dC dI r2 mem2 A) args s 0 0 A) A dC dI cy Lm ad m3 4 [(0, .int (p0)), (1, .int (x1)), (2, .int (x2))] [] := by
    intro  n
    induction n with
    | zero => intro _ _ _ h; cases h
    | succ n ih => intro a0 a1 a2 h; exact hJ4  _ ih a0 a1 a2 h
  unfold f_X12_bits at h
  refine r_iconst (v := (0)) X dX12_bits_0 (by decide) ?_
  refine r_istore_n (lv2 := [(1, .int ((0))), (0, .int (p0))]) X dX12_bits_1 rfl (by decide) rfl ?_
  refine r_iconst (v := (0)) X dX12_bits_2 (by decide) ?_
  refine r_istore_n (lv2 := [(2, .int ((0))), (1, .int ((0))), (0, .int (p0))]) X dX12_bits_3 rfl (by decide) rfl ?_
  exact r_sub [2, 1, 0] rfl (hL4 4000 ((0)) ((0)) mem h)
noncomputable def f_X12_feed_J114 (p1 : Int64) (p2 : Int64) (p3 : Int64) (k8 : Int32 → Mm → Option (Int32 × Mm)) (x8 : Int32) (m9 : Mm) : Option (Int32 × Mm) :=
  bnd (x8 + (1)) fun x10 => k8 x10 m9
noncomputable def f_X12_feed_J93 (p1 : Int64) (p2 : Int64) (p3 : Int64) (k8 : Int32 → Mm → Option (Int32 × Mm)) (x11 : Int32) (x12 : Int32) (m13 : Mm) : Option (Int32 × Mm) :=
  grd (inb (gI m13 0 1) 1000) (bnd (sI m13 1 (gI m13 0 1).toNatClampNeg x12) fun m14 => bnd (sI m14 0 1 ((gI m14 0 1) + ((1)))) fun m15 => f_X12_feed_J114 p1 p2 p3 k8 x11 m15)
noncomputable def f_X12_feed_J39 (p1 : Int64) (p2 : Int64) (p3 : Int64) (k8 : Int32 → Mm → Option (Int32 × Mm)) (x4 : Int32) (x5 : Int64) (m6 : Mm) : Option (Int32 × Mm) :=
  bnd ((((x5.toUInt64 >>> ((((56)) - (((8)) * (x4 &&& ((7))))).toInt64.toUInt64 &&& Int64.toUInt64 63)).toInt64) &&& ((255))).toInt32) fun x7 => if ((1000)) ≤ (gI m6 0 1) then (f_X12_feed_J114 p1 p2 p3 k8 x4 m6) else (if x7 = ((10)) then (f_X12_feed_J93 p1 p2 p3 k8 x4 x7 m6) else (if x7 < ((32)) then (f_X12_feed_J114 p1 p2 p3 k8 x4 m6) else (if ((126)) < x7 then (f_X12_feed_J114 p1 p2 p3 k8 x4 m6) else (f_X12_feed_J93 p1 p2 p3 k8 x4 x7 m6))))
noncomputable def f_X12_feed_B8 (p1 : Int64) (p2 : Int64) (p3 : Int64) (k8 : Int32 → Mm → Option (Int32 × Mm)) (x2 : Int32) (m3 : Mm) : Option (Int32 × Mm) :=
  if ((24)) ≤ x2 then (some (gI m3 0 1, m3)) else (if ((8)) ≤ x2 then (if ((16)) ≤ x2 then (f_X12_feed_J39 p1 p2 p3 k8 x2 p3 m3) else (f_X12_feed_J39 p1 p2 p3 k8 x2 p2 m3)) else (f_X12_feed_J39 p1 p2 p3 k8 x2 p1 m3))
noncomputable def f_X12_feed (p1 : Int64) (p2 : Int64) (p3 : Int64) (mem : Mm) : Option (Int32 × Mm) :=
  bnd (sI mem 0 0 ((0))) fun m1 => lop (fun _ _ => none) (f_X12_feed_B8 p1 p2 p3 ) 4000 ((0)) m1
theorem dd_X12_feed : yX12_feed.cls = RX12 ∧ yX12_feed.cls ≠ "java/lang/invoke/MethodHandle" ∧ yX12_feed.cls ≠ "java/lang/invoke/VarHandle" ∧ (parseMethodDescriptor yX12_feed.desc).map (fun d => d.parameters.length) = some 3 := by decide +kernel
set_option maxHeartbeats 4000000 in
set_option maxRecDepth 100000 in
theorem k_X12_feed {l : Launch} {ad : Nat → Nat} {cy : Nat → ClassId} {dC : Nat → ClassId} {dI : Nat → Nat → Nat} {ks : (Nat → Nat) × (Nat → Nat)} {p1 : Int64} {p2 : Int64} {p3 : Int64} {mem : Mm} {r2 : Int32} {mem2 : Mm}  (h : f_X12_feed p1 p2 p3 mem = some (r2, mem2)) : CtI l Lm ad cy dC dI ks yX12_feed cX12_feed 11 (some .int) ({ frames := 0, cells := 0, slots := 0, locals := 0 }) [.ref (ad (0)), .long (p1), .long (p2), .long (p3)] mem r2 mem2 := by
  refine CtI.of (cc := cX12_feed) (maxL := 11) (ret := (some .int)) (own := RX12) rfl (by decide) (Nat.le_of_ble_eq_true rfl) ?_
  intro p e s m args below meth c A X
  have hts := X.2.2.2.2.1
  have hJ114 : ∀ (k8 : Int32 → Mm → Option (Int32 × Mm)) (hk8 : ∀ (x2 : Int32) (m3 : Mm), k8 x2 m3 = some (r2, mem2) → Jd p l e ({ frames := 0, cells := 0, slots := 0, locals := 0 }) s m args below meth c 11 (MQ below (PsI Lm ad cy dC dI r2 mem2 A) args s 0 0 A) A dC dI cy Lm ad m3 8 [(0, .ref (ad (0))), (1, .long (p1)), (3, .long (p2)), (5, .long (p3)), (7, .int (x2))] []) (x8 : Int32) (m9 : Mm), f_X12_feed_J114 p1 p2 p3 k8 x8 m9 = some (r2, mem2) → Jd p l e ({ frames := 0, cells := 0, slots := 0, locals := 0 }) s m args below meth c 11 (MQ below (PsI Lm ad cy dC dI r2 mem2 A) args s 0 0 A) A dC dI cy Lm ad m9 114 [(0, .ref (ad (0))), (1, .long (p1)), (3, .long (p2)), (5, .long (p3)), (7, .int (x8))] [] := by
    intro k8 hk8 x8 m9 h
    unfold f_X12_feed_J114 at h
    refine r_inc h (fun x10 e9 h => ?_)
    refine r_iinc (v := x10) (lv2 := [(7, .int (x10)), (0, .ref (ad (0))), (1, .long (p1)), (3, .long (p2)), (5, .long (p3))]) X dX12_feed_114 4 rfl (by rw [e9]; rfl) (by decide) rfl ?_
    refine r_goto (tgt := 8) X dX12_feed_117 (by decide) ?_
    exact r_sub [1, 2, 3, 4, 0] rfl (hk8 x10 m9 h)
  have hJ93 : ∀ (k8 : Int32 → Mm → Option (Int32 × Mm)) (hk8 : ∀ (x2 : Int32) (m3 : Mm), k8 x2 m3 = some (r2, mem2) → Jd p l e ({ frames := 0, cells := 0, slots := 0, locals := 0 }) s m args below meth c 11 (MQ below (PsI Lm ad cy dC dI r2 mem2 A) args s 0 0 A) A dC dI cy Lm ad m3 8 [(0, .ref (ad (0))), (1, .long (p1)), (3, .long (p2)), (5, .long (p3)), (7, .int (x2))] []) (x11 : Int32) (x12 : Int32) (m13 : Mm), f_X12_feed_J93 p1 p2 p3 k8 x11 x12 m13 = some (r2, mem2) → Jd p l e ({ frames := 0, cells := 0, slots := 0, locals := 0 }) s m args below meth c 11 (MQ below (PsI Lm ad cy dC dI r2 mem2 A) args s 0 0 A) A dC dI cy Lm ad m13 93 [(0, .ref (ad (0))), (1, .long (p1)), (3, .long (p2)), (5, .long (p3)), (7, .int (x11)), (10, .int (x12))] [] := by
    intro k8 hk8 x11 x12 m13 h
    unfold f_X12_feed_J93 at h
    refine r_aload_n X dX12_feed_93 rfl 0 rfl ?_
    refine r_getF X (k := 2) (of := 1) rfl (Lm_N Lmk_0 rfl) Lmk_0 rfl (by decide) ui_12 (by decide) uw5_222 rfl dX12_feed_94 ?_
    refine r_aload_n X dX12_feed_97 rfl 0 rfl ?_
    refine r_getI X (k := 1) (Lm_N Lmk_0 rfl) Lmk_0 rfl (by decide) ui_12 (by decide) uw5_221 rfl dX12_feed_98 ?_
    refine r_iload X dX12_feed_101 5 rfl ?_
    refine r_iast X (Lm_N Lmk_1 rfl) Lmk_1 h dX12_feed_103 (fun h => ?_)
    refine r_nmM h (fun m14 h => ?_)
    refine r_aload_n X dX12_feed_104 rfl 0 rfl ?_
    refine r_dup X dX12_feed_105 rfl ?_
    refine r_getI X (k := 1) (Lm_N Lmk_0 rfl) Lmk_0 rfl (by decide) ui_12 (by decide) uw5_221 rfl dX12_feed_106 ?_
    refine r_iconst (v := (1)) X dX12_feed_109 (by decide) ?_
    refine r_iadd X dX12_feed_110 ?_
    refine r_putI X (k := 1) (Lm_N Lmk_0 rfl) Lmk_0 rfl (by decide) ui_12 (by decide) uw5_221 tyX12_ok nmX12 rfl rfl rfl dX12_feed_111 ?_
    refine r_nmM h (fun m15 h => ?_)
    exact r_sub [0, 1, 2, 3, 4] rfl (hJ114 k8 hk8 x11 m15 h)
  have hJ39 : ∀ (k8 : Int32 → Mm → Option (Int32 × Mm)) (hk8 : ∀ (x2 : Int32) (m3 : Mm), k8 x2 m3 = some (r2, mem2) → Jd p l e ({ frames := 0, cells := 0, slots := 0, locals := 0 }) s m args below meth c 11 (MQ below (PsI Lm ad cy dC dI r2 mem2 A) args s 0 0 A) A dC dI cy Lm ad m3 8 [(0, .ref (ad (0))), (1, .long (p1)), (3, .long (p2)), (5, .long (p3)), (7, .int (x2))] []) (x4 : Int32) (x5 : Int64) (m6 : Mm), f_X12_feed_J39 p1 p2 p3 k8 x4 x5 m6 = some (r2, mem2) → Jd p l e ({ frames := 0, cells := 0, slots := 0, locals := 0 }) s m args below meth c 11 (MQ below (PsI Lm ad cy dC dI r2 mem2 A) args s 0 0 A) A dC dI cy Lm ad m6 39 [(0, .ref (ad (0))), (1, .long (p1)), (3, .long (p2)), (5, .long (p3)), (7, .int (x4))] [.long (x5)] := by
    intro k8 hk8 x4 x5 m6 h
    unfold f_X12_feed_J39 at h
    refine r_lstore (lv2 := [(8, .long (x5)), (0, .ref (ad (0))), (1, .long (p1)), (3, .long (p2)), (5, .long (p3)), (7, .int (x4))]) X dX12_feed_39 (by decide) rfl ?_
    refine r_lload X dX12_feed_41 0 rfl ?_
    refine r_bipush (v := (56)) X dX12_feed_43 (by decide) ?_
    refine r_bipush (v := (8)) X dX12_feed_45 (by decide) ?_
    refine r_iload X dX12_feed_47 5 rfl ?_
    refine r_bipush (v := (7)) X dX12_feed_49 (by decide) ?_
    refine r_iand X dX12_feed_51 ?_
    refine r_imul X dX12_feed_52 ?_
    refine r_isub X dX12_feed_53 ?_
    refine r_lushr X dX12_feed_54 ?_
    refine r_ldc2 (v := 255) X dX12_feed_55 uw6_191 ?_
    refine r_land X dX12_feed_58 ?_
    refine r_l2i X dX12_feed_59 ?_
    refine r_nmI h (fun x7 h => ?_)
    refine r_istore (lv2 := [(10, .int (x7)), (8, .long (x5)), (0, .ref (ad (0))), (1, .long (p1)), (3, .long (p2)), (5, .long (p3)), (7, .int (x4))]) X dX12_feed_60 (by decide) rfl ?_
    refine r_aload_n X dX12_feed_62 rfl 2 rfl ?_
    refine r_getI X (k := 1) (Lm_N Lmk_0 rfl) Lmk_0 rfl (by decide) ui_12 (by decide) uw5_221 rfl dX12_feed_63 ?_
    refine r_sipush (v := (1000)) X dX12_feed_66 (by decide) ?_
    refine r_icmp_ge (tgt := 114) X dX12_feed_69 (by decide) h (fun h => ?_) (fun h => ?_)
    · exact r_sub [2, 3, 4, 5, 6] rfl (hJ114 k8 hk8 x4 m6 h)
    · refine r_iload X dX12_feed_72 0 rfl ?_
      refine r_bipush (v := (10)) X dX12_feed_74 (by decide) ?_
      refine r_icmp_eq (tgt := 93) X dX12_feed_76 (by decide) h (fun h => ?_) (fun h => ?_)
      · exact r_sub [2, 3, 4, 5, 6, 0] rfl (hJ93 k8 hk8 x4 x7 m6 h)
      · refine r_iload X dX12_feed_79 0 rfl ?_
        refine r_bipush (v := (32)) X dX12_feed_81 (by decide) ?_
        refine r_icmp_lt (tgt := 114) X dX12_feed_83 (by decide) h (fun h => ?_) (fun h => ?_)
        · exact r_sub [2, 3, 4, 5, 6] rfl (hJ114 k8 hk8 x4 m6 h)
        · refine r_iload X dX12_feed_86 0 rfl ?_
          refine r_bipush (v := (126)) X dX12_feed_88 (by decide) ?_
          refine r_icmp_gt (tgt := 114) X dX12_feed_90 (by decide) h (fun h => ?_) (fun h => ?_)
          · exact r_sub [2, 3, 4, 5, 6] rfl (hJ114 k8 hk8 x4 m6 h)
          · exact r_sub [2, 3, 4, 5, 6, 0] rfl (hJ93 k8 hk8 x4 x7 m6 h)
  have hJ8 : ∀ (k8 : Int32 → Mm → Option (Int32 × Mm)) (hk8 : ∀ (x2 : Int32) (m3 : Mm), k8 x2 m3 = some (r2, mem2) → Jd p l e ({ frames := 0, cells := 0, slots := 0, locals := 0 }) s m args below meth c 11 (MQ below (PsI Lm ad cy dC dI r2 mem2 A) args s 0 0 A) A dC dI cy Lm ad m3 8 [(0, .ref (ad (0))), (1, .long (p1)), (3, .long (p2)), (5, .long (p3)), (7, .int (x2))] []) (x2 : Int32) (m3 : Mm), f_X12_feed_B8 p1 p2 p3 k8 x2 m3 = some (r2, mem2) → Jd p l e ({ frames := 0, cells := 0, slots := 0, locals := 0 }) s m args below meth c 11 (MQ below (PsI Lm ad cy dC dI r2 mem2 A) args s 0 0 A) A dC dI cy Lm ad m3 8 [(0, .ref (ad (0))), (1, .long (p1)), (3, .long (p2)), (5, .long (p3)), (7, .int (x2))] [] := by
    intro k8 hk8 x2 m3 h
    unfold f_X12_feed_B8 at h
    refine r_iload X dX12_feed_8 4 rfl ?_
    refine r_bipush (v := (24)) X dX12_feed_10 (by decide) ?_
    refine r_icmp_ge (tgt := 120) X dX12_feed_12 (by decide) h (fun h => ?_) (fun h => ?_)
    · refine r_aload_n X dX12_feed_120 rfl 0 rfl ?_
      refine r_getI X (k := 1) (Lm_N Lmk_0 rfl) Lmk_0 rfl (by decide) ui_12 (by decide) uw5_221 rfl dX12_feed_121 ?_
      exact r_iret2 X rfl dX12_feed_124 h
    · refine r_iload X dX12_feed_15 4 rfl ?_
      refine r_bipush (v := (8)) X dX12_feed_17 (by decide) ?_
      refine r_icmp_ge (tgt := 26) X dX12_feed_19 (by decide) h (fun h => ?_) (fun h => ?_)
      · refine r_iload X dX12_feed_26 4 rfl ?_
        refine r_bipush (v := (16)) X dX12_feed_28 (by decide) ?_
        refine r_icmp_ge (tgt := 37) X dX12_feed_30 (by decide) h (fun h => ?_) (fun h => ?_)
        · refine r_lload X dX12_feed_37 3 rfl ?_
          exact r_sub [0, 1, 2, 3, 4] rfl (hJ39 k8 hk8 x2 p3 m3 h)
        · refine r_lload_n X dX12_feed_33 rfl 2 rfl ?_
          refine r_goto (tgt := 39) X dX12_feed_34 (by decide) ?_
          exact r_sub [0, 1, 2, 3, 4] rfl (hJ39 k8 hk8 x2 p2 m3 h)
      · refine r_lload_n X dX12_feed_22 rfl 1 rfl ?_
        refine r_goto (tgt := 39) X dX12_feed_23 (by decide) ?_
        exact r_sub [0, 1, 2, 3, 4] rfl (hJ39 k8 hk8 x2 p1 m3 h)
  have hL8 : ∀ (n : Nat), ∀ (x2 : Int32) (m3 : Mm), lop (fun _ _ => none) (f_X12_feed_B8 p1 p2 p3 ) n x2 m3 = some (r2, mem2) → Jd p l e ({ frames := 0, cells := 0, slots := 0, locals := 0 }) s m args below meth c 11 (MQ below (PsI Lm ad cy dC dI r2 mem2 A) args s 0 0 A) A dC dI cy Lm ad m3 8 [(0, .ref (ad (0))), (1, .long (p1)), (3, .long (p2)), (5, .long (p3)), (7, .int (x2))] [] := by
    intro  n
    induction n with
    | zero => intro _ _ h; cases h
    | succ n ih => intro a0 a1 h; exact hJ8  _ ih a0 a1 h
  unfold f_X12_feed at h
  refine r_aload_n X dX12_feed_0 rfl 0 rfl ?_
  refine r_iconst (v := (0)) X dX12_feed_1 (by decide) ?_
  refine r_putI X (k := 0) (Lm_N Lmk_0 rfl) Lmk_0 rfl (by decide) ui_12 (by decide) uw5_220 tyX12_ok nmX12 rfl rfl rfl dX12_feed_2 ?_
  refine r_nmM h (fun m1 h => ?_)
  refine r_iconst (v := (0)) X dX12_feed_5 (by decide) ?_
  refine r_istore (lv2 := [(7, .int ((0))), (0, .ref (ad (0))), (1, .long (p1)), (3, .long (p2)), (5, .long (p3))]) X dX12_feed_6 (by decide) rfl ?_
  exact r_sub [1, 2, 3, 4, 0] rfl (hL8 4000 ((0)) m1 h)
noncomputable def f_X12_signAt (p1 : Int32) (mem : Mm) : Option (Int32 × Mm) :=
  if (gI mem 0 3) ≤ p1 then (some ((0), mem)) else (grd (inb p1 1000) (some (gI mem 1 p1.toNatClampNeg, mem)))
theorem dd_X12_signAt : yX12_signAt.cls = RX12 ∧ yX12_signAt.cls ≠ "java/lang/invoke/MethodHandle" ∧ yX12_signAt.cls ≠ "java/lang/invoke/VarHandle" ∧ (parseMethodDescriptor yX12_signAt.desc).map (fun d => d.parameters.length) = some 1 := by decide +kernel
set_option maxHeartbeats 4000000 in
set_option maxRecDepth 100000 in
theorem k_X12_signAt {l : Launch} {ad : Nat → Nat} {cy : Nat → ClassId} {dC : Nat → ClassId} {dI : Nat → Nat → Nat} {ks : (Nat → Nat) × (Nat → Nat)} {p1 : Int32} {mem : Mm} {r2 : Int32} {mem2 : Mm}  (h : f_X12_signAt p1 mem = some (r2, mem2)) : CtI l Lm ad cy dC dI ks yX12_signAt cX12_signAt 2 (some .int) ({ frames := 0, cells := 0, slots := 0, locals := 0 }) [.ref (ad (0)), .int (p1)] mem r2 mem2 := by
  refine CtI.of (cc := cX12_signAt) (maxL := 2) (ret := (some .int)) (own := RX12) rfl (by decide) (Nat.le_of_ble_eq_true rfl) ?_
  intro p e s m args below meth c A X
  have hts := X.2.2.2.2.1
  unfold f_X12_signAt at h
  refine r_iload_n X dX12_signAt_0 rfl 1 rfl ?_
  refine r_aload_n X dX12_signAt_1 rfl 0 rfl ?_
  refine r_getI X (k := 3) (Lm_N Lmk_0 rfl) Lmk_0 rfl (by decide) ui_12 (by decide) uw5_223 rfl dX12_signAt_2 ?_
  refine r_icmp_ge (tgt := 17) X dX12_signAt_5 (by decide) h (fun h => ?_) (fun h => ?_)
  · refine r_iconst (v := (0)) X dX12_signAt_17 (by decide) ?_
    exact r_iret2 X rfl dX12_signAt_18 h
  · refine r_aload_n X dX12_signAt_8 rfl 0 rfl ?_
    refine r_getF X (k := 2) (of := 1) rfl (Lm_N Lmk_0 rfl) Lmk_0 rfl (by decide) ui_12 (by decide) uw5_222 rfl dX12_signAt_9 ?_
    refine r_iload_n X dX12_signAt_12 rfl 1 rfl ?_
    refine r_iald X (Lm_N Lmk_1 rfl) Lmk_1 h dX12_signAt_13 (fun h => ?_)
    refine r_goto (tgt := 18) X dX12_signAt_14 (by decide) ?_
    exact r_iret2 X rfl dX12_signAt_18 h
noncomputable def f_X12_nextToken_J39 (k0 : Mm → Option Mm) (m8 : Mm) : Option Mm :=
  bnd (sI m8 0 4 ((gI m8 0 4) + ((1)))) fun m9 => k0 m9
noncomputable def f_X12_nextToken_J175 (k109 : Mm → Option Mm) (m32 : Mm) : Option Mm :=
  bnd (sI m32 0 4 ((gI m32 0 4) + ((1)))) fun m33 => k109 m33
noncomputable def f_X12_nextToken_J208 (x40 : Int32) (m41 : Mm) : Option Mm :=
  bnd (sI m41 0 6 x40) fun m42 => some m42
noncomputable def f_X12_nextToken_J188 (m31 : Mm) : Option Mm :=
  if ((gI m31 0 4) - (gI m31 0 5)) ≤ ((8)) then (f_X12_nextToken_J208 ((1)) m31) else (f_X12_nextToken_J208 ((4)) m31)
noncomputable def f_X12_nextToken_B109 (k109 : Mm → Option Mm) (m12 : Mm) : Option Mm :=
  bdI (f_X12_signAt (gI m12 0 4) m12) fun x14 m13 => if x14 < ((97)) then (f_X12_nextToken_J188 m13) else (bdI (f_X12_signAt (gI m13 0 4) m13) fun x16 m15 => if ((122)) < x16 then (f_X12_nextToken_J188 m15) else (if ((8)) ≤ ((gI m15 0 4) - (gI m15 0 5)) then (f_X12_nextToken_J175 k109 m15) else (bdI (f_X12_signAt (gI m15 0 4) m15) fun x18 m17 => bnd (sJ m17 0 7 ((((gJ m15 0 7) * ((27))) + (x18.toInt64)) - ((96)))) fun m19 => f_X12_nextToken_J175 k109 m19)))
noncomputable def f_X12_nextToken_J286 (k224 : Mm → Option Mm) (m38 : Mm) : Option Mm :=
  bnd (sI m38 0 4 ((gI m38 0 4) + ((1)))) fun m39 => k224 m39
noncomputable def f_X12_nextToken_J318 (x47 : Int32) (m48 : Mm) : Option Mm :=
  bnd (sI m48 0 6 x47) fun m49 => some m49
noncomputable def f_X12_nextToken_J299 (m37 : Mm) : Option Mm :=
  if ((gI m37 0 4) - (gI m37 0 5)) ≤ ((4)) then (f_X12_nextToken_J318 ((2)) m37) else (f_X12_nextToken_J318 ((4)) m37)
noncomputable def f_X12_nextToken_B224 (k224 : Mm → Option Mm) (m23 : Mm) : Option Mm :=
  bdI (f_X12_signAt (gI m23 0 4) m23) fun x25 m24 => if x25 < ((48)) then (f_X12_nextToken_J299 m24) else (bdI (f_X12_signAt (gI m24 0 4) m24) fun x27 m26 => if ((57)) < x27 then (f_X12_nextToken_J299 m26) else (if ((4)) ≤ ((gI m26 0 4) - (gI m26 0 5)) then (f_X12_nextToken_J286 k224 m26) else (bdI (f_X12_signAt (gI m26 0 4) m26) fun x29 m28 => bnd (sI m28 0 8 ((((gI m26 0 8) * ((10))) + x29) - ((48)))) fun m30 => f_X12_nextToken_J286 k224 m30)))
noncomputable def f_X12_nextToken_J368 (x44 : Int32) (m45 : Mm) : Option Mm :=
  bnd (sI m45 0 6 x44) fun m46 => some m46
noncomputable def f_X12_nextToken_J363 (m36 : Mm) : Option Mm :=
  f_X12_nextToken_J368 ((3)) m36
noncomputable def f_X12_nextToken_J367 (m43 : Mm) : Option Mm :=
  f_X12_nextToken_J368 ((4)) m43
noncomputable def f_X12_nextToken_J345 (x34 : Int32) (m35 : Mm) : Option Mm :=
  if x34 = ((45)) then (f_X12_nextToken_J363 m35) else (if x34 < ((59)) then (f_X12_nextToken_J367 m35) else (if ((61)) < x34 then (f_X12_nextToken_J367 m35) else (f_X12_nextToken_J363 m35)))
noncomputable def f_X12_nextToken_J322 (x20 : Int32) (m21 : Mm) : Option Mm :=
  bnd (sI m21 0 4 ((gI m21 0 4) + ((1)))) fun m22 => if x20 < ((40)) then (f_X12_nextToken_J345 x20 m22) else (if x20 ≤ ((43)) then (f_X12_nextToken_J363 m22) else (f_X12_nextToken_J345 x20 m22))
noncomputable def f_X12_nextToken_J212 (x10 : Int32) (m11 : Mm) : Option Mm :=
  if x10 < ((48)) then (f_X12_nextToken_J322 x10 m11) else (if ((57)) < x10 then (f_X12_nextToken_J322 x10 m11) else (lop (fun _ => none) (f_X12_nextToken_B224 ) 4000 m11))
noncomputable def f_X12_nextToken_J52 (m2 : Mm) : Option Mm :=
  bnd (sI m2 0 5 (gI m2 0 4)) fun m3 => bnd (sJ m3 0 7 ((0))) fun m4 => bnd (sI m4 0 8 ((0))) fun m5 => if ¬ (gI m5 0 4) = (gI m5 0 3) then (grd (inb (gI m5 0 4) 1000) (bnd (gI m5 1 (gI m5 0 4).toNatClampNeg) fun x6 => if x6 < ((97)) then (f_X12_nextToken_J212 x6 m5) else (if ((122)) < x6 then (f_X12_nextToken_J212 x6 m5) else (lop (fun _ => none) (f_X12_nextToken_B109 ) 4000 m5)))) else (bnd (sI m5 0 6 ((0))) fun m7 => some m7)
noncomputable def f_X12_nextToken_B0 (k0 : Mm → Option Mm) (m1 : Mm) : Option Mm :=
  if (gI m1 0 3) ≤ (gI m1 0 4) then (f_X12_nextToken_J52 m1) else (grd (inb (gI m1 0 4) 1000) (if (gI m1 1 (gI m1 0 4).toNatClampNeg) = ((32)) then (f_X12_nextToken_J39 k0 m1) else (grd (inb (gI m1 0 4) 1000) (if ¬ (gI m1 1 (gI m1 0 4).toNatClampNeg) = ((10)) then (f_X12_nextToken_J52 m1) else (f_X12_nextToken_J39 k0 m1)))))
noncomputable def f_X12_nextToken  (mem : Mm) : Option Mm :=
  lop (fun _ => none) (f_X12_nextToken_B0 ) 4000 mem
theorem dd_X12_nextToken : yX12_nextToken.cls = RX12 ∧ yX12_nextToken.cls ≠ "java/lang/invoke/MethodHandle" ∧ yX12_nextToken.cls ≠ "java/lang/invoke/VarHandle" ∧ (parseMethodDescriptor yX12_nextToken.desc).map (fun d => d.parameters.length) = some 0 := by decide +kernel
set_option maxHeartbeats 4000000 in
set_option maxRecDepth 100000 in
theorem k_X12_nextToken {l : Launch} {ad : Nat → Nat} {cy : Nat → ClassId} {dC : Nat → ClassId} {dI : Nat → Nat → Nat} {ks : (Nat → Nat) × (Nat → Nat)}  {mem : Mm} {mem2 : Mm}  (h : f_X12_nextToken  mem = some mem2) : CtV l Lm ad cy dC dI ks yX12_nextToken cX12_nextToken 2 none ({ frames := 1, cells := 0, slots := 0, locals := 21 }) [.ref (ad (0))] mem mem2 := by
  refine CtV.of (cc := cX12_nextToken) (maxL := 2) (ret := none) (own := RX12) rfl (by decide) (Nat.le_of_ble_eq_true rfl) ?_
  intro p e s m args below meth c A X
  have hts := X.2.2.2.2.1
  have hJ39 : ∀ (k0 : Mm → Option Mm) (hk0 : ∀ (m1 : Mm), k0 m1 = some mem2 → Jd p l e ({ frames := 1, cells := 0, slots := 0, locals := 21 }) s m args below meth c 2 (MQ below (PsV Lm ad cy dC dI mem2 A) args s 0 0 A) A dC dI cy Lm ad m1 0 [(0, .ref (ad (0)))] []) (m8 : Mm), f_X12_nextToken_J39 k0 m8 = some mem2 → Jd p l e ({ frames := 1, cells := 0, slots := 0, locals := 21 }) s m args below meth c 2 (MQ below (PsV Lm ad cy dC dI mem2 A) args s 0 0 A) A dC dI cy Lm ad m8 39 [(0, .ref (ad (0)))] [] := by
    intro k0 hk0 m8 h
    unfold f_X12_nextToken_J39 at h
    refine r_aload_n X dX12_nextToken_39 rfl 0 rfl ?_
    refine r_dup X dX12_nextToken_40 rfl ?_
    refine r_getI X (k := 4) (Lm_N Lmk_0 rfl) Lmk_0 rfl (by decide) ui_12 (by decide) uw5_224 rfl dX12_nextToken_41 ?_
    refine r_iconst (v := (1)) X dX12_nextToken_44 (by decide) ?_
    refine r_iadd X dX12_nextToken_45 ?_
    refine r_putI X (k := 4) (Lm_N Lmk_0 rfl) Lmk_0 rfl (by decide) ui_12 (by decide) uw5_224 tyX12_ok nmX12 rfl rfl rfl dX12_nextToken_46 ?_
    refine r_nmM h (fun m9 h => ?_)
    refine r_goto (tgt := 0) X dX12_nextToken_49 (by decide) ?_
    exact r_sub [0] rfl (hk0 m9 h)
  have hJ175 : ∀ (k109 : Mm → Option Mm) (hk109 : ∀ (m12 : Mm), k109 m12 = some mem2 → Jd p l e ({ frames := 1, cells := 0, slots := 0, locals := 21 }) s m args below meth c 2 (MQ below (PsV Lm ad cy dC dI mem2 A) args s 0 0 A) A dC dI cy Lm ad m12 109 [(0, .ref (ad (0)))] []) (m32 : Mm), f_X12_nextToken_J175 k109 m32 = some mem2 → Jd p l e ({ frames := 1, cells := 0, slots := 0, locals := 21 }) s m args below meth c 2 (MQ below (PsV Lm ad cy dC dI mem2 A) args s 0 0 A) A dC dI cy Lm ad m32 175 [(0, .ref (ad (0)))] [] := by
    intro k109 hk109 m32 h
    unfold f_X12_nextToken_J175 at h
    refine r_aload_n X dX12_nextToken_175 rfl 0 rfl ?_
    refine r_dup X dX12_nextToken_176 rfl ?_
    refine r_getI X (k := 4) (Lm_N Lmk_0 rfl) Lmk_0 rfl (by decide) ui_12 (by decide) uw5_224 rfl dX12_nextToken_177 ?_
    refine r_iconst (v := (1)) X dX12_nextToken_180 (by decide) ?_
    refine r_iadd X dX12_nextToken_181 ?_
    refine r_putI X (k := 4) (Lm_N Lmk_0 rfl) Lmk_0 rfl (by decide) ui_12 (by decide) uw5_224 tyX12_ok nmX12 rfl rfl rfl dX12_nextToken_182 ?_
    refine r_nmM h (fun m33 h => ?_)
    refine r_goto (tgt := 109) X dX12_nextToken_185 (by decide) ?_
    exact r_sub [0] rfl (hk109 m33 h)
  have hJ208 : ∀ (x40 : Int32) (m41 : Mm), f_X12_nextToken_J208 x40 m41 = some mem2 → Jd p l e ({ frames := 1, cells := 0, slots := 0, locals := 21 }) s m args below meth c 2 (MQ below (PsV Lm ad cy dC dI mem2 A) args s 0 0 A) A dC dI cy Lm ad m41 208 [] [.int (x40), .ref (ad (0))] := by
    intro x40 m41 h
    unfold f_X12_nextToken_J208 at h
    refine r_putI X (k := 6) (Lm_N Lmk_0 rfl) Lmk_0 rfl (by decide) ui_12 (by decide) uw5_226 tyX12_ok nmX12 rfl rfl rfl dX12_nextToken_208 ?_
    refine r_nmM h (fun m42 h => ?_)
    exact r_vret X rfl dX12_nextToken_211 h
  have hJ188 : ∀ (m31 : Mm), f_X12_nextToken_J188 m31 = some mem2 → Jd p l e ({ frames := 1, cells := 0, slots := 0, locals := 21 }) s m args below meth c 2 (MQ below (PsV Lm ad cy dC dI mem2 A) args s 0 0 A) A dC dI cy Lm ad m31 188 [(0, .ref (ad (0)))] [] := by
    intro m31 h
    unfold f_X12_nextToken_J188 at h
    refine r_aload_n X dX12_nextToken_188 rfl 0 rfl ?_
    refine r_aload_n X dX12_nextToken_189 rfl 0 rfl ?_
    refine r_getI X (k := 4) (Lm_N Lmk_0 rfl) Lmk_0 rfl (by decide) ui_12 (by decide) uw5_224 rfl dX12_nextToken_190 ?_
    refine r_aload_n X dX12_nextToken_193 rfl 0 rfl ?_
    refine r_getI X (k := 5) (Lm_N Lmk_0 rfl) Lmk_0 rfl (by decide) ui_12 (by decide) uw5_225 rfl dX12_nextToken_194 ?_
    refine r_isub X dX12_nextToken_197 ?_
    refine r_bipush (v := (8)) X dX12_nextToken_198 (by decide) ?_
    refine r_icmp_le (tgt := 207) X dX12_nextToken_200 (by decide) h (fun h => ?_) (fun h => ?_)
    · refine r_iconst (v := (1)) X dX12_nextToken_207 (by decide) ?_
      exact r_sub [] rfl (hJ208 ((1)) m31 h)
    · refine r_iconst (v := (4)) X dX12_nextToken_203 (by decide) ?_
      refine r_goto (tgt := 208) X dX12_nextToken_204 (by decide) ?_
      exact r_sub [] rfl (hJ208 ((4)) m31 h)
  have hJ109 : ∀ (k109 : Mm → Option Mm) (hk109 : ∀ (m12 : Mm), k109 m12 = some mem2 → Jd p l e ({ frames := 1, cells := 0, slots := 0, locals := 21 }) s m args below meth c 2 (MQ below (PsV Lm ad cy dC dI mem2 A) args s 0 0 A) A dC dI cy Lm ad m12 109 [(0, .ref (ad (0)))] []) (m12 : Mm), f_X12_nextToken_B109 k109 m12 = some mem2 → Jd p l e ({ frames := 1, cells := 0, slots := 0, locals := 21 }) s m args below meth c 2 (MQ below (PsV Lm ad cy dC dI mem2 A) args s 0 0 A) A dC dI cy Lm ad m12 109 [(0, .ref (ad (0)))] [] := by
    intro k109 hk109 m12 h
    unfold f_X12_nextToken_B109 at h
    refine r_aload_n X dX12_nextToken_109 rfl 0 rfl ?_
    refine r_aload_n X dX12_nextToken_110 rfl 0 rfl ?_
    refine r_getI X (k := 4) (Lm_N Lmk_0 rfl) Lmk_0 rfl (by decide) ui_12 (by decide) uw5_224 rfl dX12_nextToken_111 ?_
    refine r_cVI (As := [.int (gI m12 0 4)]) (rest := []) X (fun r9 m9 hg => k_X12_signAt hg) h (Lm_N Lmk_0 rfl) Lmk_0 rfl (by decide) uw6_208 uw6_210 us4_1 uw1_13 uw6_211 rfl rfl dd_X12_signAt ⟨Nat.le_of_ble_eq_true rfl, Nat.le_of_ble_eq_true rfl⟩ rfl (Nat.le_of_ble_eq_true rfl) dX12_nextToken_114 rfl (fun x14 m13 h => ?_)
    refine r_bipush (v := (97)) X dX12_nextToken_117 (by decide) ?_
    refine r_icmp_lt (tgt := 188) X dX12_nextToken_119 (by decide) h (fun h => ?_) (fun h => ?_)
    · exact r_sub [0] rfl (hJ188 m13 h)
    · refine r_aload_n X dX12_nextToken_122 rfl 0 rfl ?_
      refine r_aload_n X dX12_nextToken_123 rfl 0 rfl ?_
      refine r_getI X (k := 4) (Lm_N Lmk_0 rfl) Lmk_0 rfl (by decide) ui_12 (by decide) uw5_224 rfl dX12_nextToken_124 ?_
      refine r_cVI (As := [.int (gI m13 0 4)]) (rest := []) X (fun r9 m9 hg => k_X12_signAt hg) h (Lm_N Lmk_0 rfl) Lmk_0 rfl (by decide) uw6_208 uw6_210 us4_1 uw1_13 uw6_211 rfl rfl dd_X12_signAt ⟨Nat.le_of_ble_eq_true rfl, Nat.le_of_ble_eq_true rfl⟩ rfl (Nat.le_of_ble_eq_true rfl) dX12_nextToken_127 rfl (fun x16 m15 h => ?_)
      refine r_bipush (v := (122)) X dX12_nextToken_130 (by decide) ?_
      refine r_icmp_gt (tgt := 188) X dX12_nextToken_132 (by decide) h (fun h => ?_) (fun h => ?_)
      · exact r_sub [0] rfl (hJ188 m15 h)
      · refine r_aload_n X dX12_nextToken_135 rfl 0 rfl ?_
        refine r_getI X (k := 4) (Lm_N Lmk_0 rfl) Lmk_0 rfl (by decide) ui_12 (by decide) uw5_224 rfl dX12_nextToken_136 ?_
        refine r_aload_n X dX12_nextToken_139 rfl 0 rfl ?_
        refine r_getI X (k := 5) (Lm_N Lmk_0 rfl) Lmk_0 rfl (by decide) ui_12 (by decide) uw5_225 rfl dX12_nextToken_140 ?_
        refine r_isub X dX12_nextToken_143 ?_
        refine r_bipush (v := (8)) X dX12_nextToken_144 (by decide) ?_
        refine r_icmp_ge (tgt := 175) X dX12_nextToken_146 (by decide) h (fun h => ?_) (fun h => ?_)
        · exact r_sub [0] rfl (hJ175 k109 hk109 m15 h)
        · refine r_aload_n X dX12_nextToken_149 rfl 0 rfl ?_
          refine r_aload_n X dX12_nextToken_150 rfl 0 rfl ?_
          refine r_getJ X (k := 7) (Lm_N Lmk_0 rfl) Lmk_0 rfl (by decide) ui_12 (by decide) uw5_227 rfl dX12_nextToken_151 ?_
          refine r_ldc2 (v := 27) X dX12_nextToken_154 uw6_212 ?_
          refine r_lmul X dX12_nextToken_157 ?_
          refine r_aload_n X dX12_nextToken_158 rfl 0 rfl ?_
          refine r_aload_n X dX12_nextToken_159 rfl 0 rfl ?_
          refine r_getI X (k := 4) (Lm_N Lmk_0 rfl) Lmk_0 rfl (by decide) ui_12 (by decide) uw5_224 rfl dX12_nextToken_160 ?_
          refine r_cVI (As := [.int (gI m15 0 4)]) (rest := [.long ((gJ m15 0 7) * ((27))), .ref (ad (0))]) X (fun r9 m9 hg => k_X12_signAt hg) h (Lm_N Lmk_0 rfl) Lmk_0 rfl (by decide) uw6_208 uw6_210 us4_1 uw1_13 uw6_211 rfl rfl dd_X12_signAt ⟨Nat.le_of_ble_eq_true rfl, Nat.le_of_ble_eq_true rfl⟩ rfl (Nat.le_of_ble_eq_true rfl) dX12_nextToken_163 rfl (fun x18 m17 h => ?_)
          refine r_i2l X dX12_nextToken_166 ?_
          refine r_ladd X dX12_nextToken_167 ?_
          refine r_ldc2 (v := 96) X dX12_nextToken_168 uw6_213 ?_
          refine r_lsub X dX12_nextToken_171 ?_
          refine r_putJ X (k := 7) (Lm_N Lmk_0 rfl) Lmk_0 rfl (by decide) ui_12 (by decide) uw5_227 tyX12_ok nmX12 rfl rfl rfl dX12_nextToken_172 ?_
          refine r_nmM h (fun m19 h => ?_)
          exact r_sub [0] rfl (hJ175 k109 hk109 m19 h)
  have hL109 : ∀ (n : Nat), ∀ (m12 : Mm), lop (fun _ => none) (f_X12_nextToken_B109 ) n m12 = some mem2 → Jd p l e ({ frames := 1, cells := 0, slots := 0, locals := 21 }) s m args below meth c 2 (MQ below (PsV Lm ad cy dC dI mem2 A) args s 0 0 A) A dC dI cy Lm ad m12 109 [(0, .ref (ad (0)))] [] := by
    intro  n
    induction n with
    | zero => intro _ h; cases h
    | succ n ih => intro a0 h; exact hJ109  _ ih a0 h
  have hJ286 : ∀ (k224 : Mm → Option Mm) (hk224 : ∀ (m23 : Mm), k224 m23 = some mem2 → Jd p l e ({ frames := 1, cells := 0, slots := 0, locals := 21 }) s m args below meth c 2 (MQ below (PsV Lm ad cy dC dI mem2 A) args s 0 0 A) A dC dI cy Lm ad m23 224 [(0, .ref (ad (0)))] []) (m38 : Mm), f_X12_nextToken_J286 k224 m38 = some mem2 → Jd p l e ({ frames := 1, cells := 0, slots := 0, locals := 21 }) s m args below meth c 2 (MQ below (PsV Lm ad cy dC dI mem2 A) args s 0 0 A) A dC dI cy Lm ad m38 286 [(0, .ref (ad (0)))] [] := by
    intro k224 hk224 m38 h
    unfold f_X12_nextToken_J286 at h
    refine r_aload_n X dX12_nextToken_286 rfl 0 rfl ?_
    refine r_dup X dX12_nextToken_287 rfl ?_
    refine r_getI X (k := 4) (Lm_N Lmk_0 rfl) Lmk_0 rfl (by decide) ui_12 (by decide) uw5_224 rfl dX12_nextToken_288 ?_
    refine r_iconst (v := (1)) X dX12_nextToken_291 (by decide) ?_
    refine r_iadd X dX12_nextToken_292 ?_
    refine r_putI X (k := 4) (Lm_N Lmk_0 rfl) Lmk_0 rfl (by decide) ui_12 (by decide) uw5_224 tyX12_ok nmX12 rfl rfl rfl dX12_nextToken_293 ?_
    refine r_nmM h (fun m39 h => ?_)
    refine r_goto (tgt := 224) X dX12_nextToken_296 (by decide) ?_
    exact r_sub [0] rfl (hk224 m39 h)
  have hJ318 : ∀ (x47 : Int32) (m48 : Mm), f_X12_nextToken_J318 x47 m48 = some mem2 → Jd p l e ({ frames := 1, cells := 0, slots := 0, locals := 21 }) s m args below meth c 2 (MQ below (PsV Lm ad cy dC dI mem2 A) args s 0 0 A) A dC dI cy Lm ad m48 318 [] [.int (x47), .ref (ad (0))] := by
    intro x47 m48 h
    unfold f_X12_nextToken_J318 at h
    refine r_putI X (k := 6) (Lm_N Lmk_0 rfl) Lmk_0 rfl (by decide) ui_12 (by decide) uw5_226 tyX12_ok nmX12 rfl rfl rfl dX12_nextToken_318 ?_
    refine r_nmM h (fun m49 h => ?_)
    exact r_vret X rfl dX12_nextToken_321 h
  have hJ299 : ∀ (m37 : Mm), f_X12_nextToken_J299 m37 = some mem2 → Jd p l e ({ frames := 1, cells := 0, slots := 0, locals := 21 }) s m args below meth c 2 (MQ below (PsV Lm ad cy dC dI mem2 A) args s 0 0 A) A dC dI cy Lm ad m37 299 [(0, .ref (ad (0)))] [] := by
    intro m37 h
    unfold f_X12_nextToken_J299 at h
    refine r_aload_n X dX12_nextToken_299 rfl 0 rfl ?_
    refine r_aload_n X dX12_nextToken_300 rfl 0 rfl ?_
    refine r_getI X (k := 4) (Lm_N Lmk_0 rfl) Lmk_0 rfl (by decide) ui_12 (by decide) uw5_224 rfl dX12_nextToken_301 ?_
    refine r_aload_n X dX12_nextToken_304 rfl 0 rfl ?_
    refine r_getI X (k := 5) (Lm_N Lmk_0 rfl) Lmk_0 rfl (by decide) ui_12 (by decide) uw5_225 rfl dX12_nextToken_305 ?_
    refine r_isub X dX12_nextToken_308 ?_
    refine r_iconst (v := (4)) X dX12_nextToken_309 (by decide) ?_
    refine r_icmp_le (tgt := 317) X dX12_nextToken_310 (by decide) h (fun h => ?_) (fun h => ?_)
    · refine r_iconst (v := (2)) X dX12_nextToken_317 (by decide) ?_
      exact r_sub [] rfl (hJ318 ((2)) m37 h)
    · refine r_iconst (v := (4)) X dX12_nextToken_313 (by decide) ?_
      refine r_goto (tgt := 318) X dX12_nextToken_314 (by decide) ?_
      exact r_sub [] rfl (hJ318 ((4)) m37 h)
  have hJ224 : ∀ (k224 : Mm → Option Mm) (hk224 : ∀ (m23 : Mm), k224 m23 = some mem2 → Jd p l e ({ frames := 1, cells := 0, slots := 0, locals := 21 }) s m args below meth c 2 (MQ below (PsV Lm ad cy dC dI mem2 A) args s 0 0 A) A dC dI cy Lm ad m23 224 [(0, .ref (ad (0)))] []) (m23 : Mm), f_X12_nextToken_B224 k224 m23 = some mem2 → Jd p l e ({ frames := 1, cells := 0, slots := 0, locals := 21 }) s m args below meth c 2 (MQ below (PsV Lm ad cy dC dI mem2 A) args s 0 0 A) A dC dI cy Lm ad m23 224 [(0, .ref (ad (0)))] [] := by
    intro k224 hk224 m23 h
    unfold f_X12_nextToken_B224 at h
    refine r_aload_n X dX12_nextToken_224 rfl 0 rfl ?_
    refine r_aload_n X dX12_nextToken_225 rfl 0 rfl ?_
    refine r_getI X (k := 4) (Lm_N Lmk_0 rfl) Lmk_0 rfl (by decide) ui_12 (by decide) uw5_224 rfl dX12_nextToken_226 ?_
    refine r_cVI (As := [.int (gI m23 0 4)]) (rest := []) X (fun r9 m9 hg => k_X12_signAt hg) h (Lm_N Lmk_0 rfl) Lmk_0 rfl (by decide) uw6_208 uw6_210 us4_1 uw1_13 uw6_211 rfl rfl dd_X12_signAt ⟨Nat.le_of_ble_eq_true rfl, Nat.le_of_ble_eq_true rfl⟩ rfl (Nat.le_of_ble_eq_true rfl) dX12_nextToken_229 rfl (fun x25 m24 h => ?_)
    refine r_bipush (v := (48)) X dX12_nextToken_232 (by decide) ?_
    refine r_icmp_lt (tgt := 299) X dX12_nextToken_234 (by decide) h (fun h => ?_) (fun h => ?_)
    · exact r_sub [0] rfl (hJ299 m24 h)
    · refine r_aload_n X dX12_nextToken_237 rfl 0 rfl ?_
      refine r_aload_n X dX12_nextToken_238 rfl 0 rfl ?_
      refine r_getI X (k := 4) (Lm_N Lmk_0 rfl) Lmk_0 rfl (by decide) ui_12 (by decide) uw5_224 rfl dX12_nextToken_239 ?_
      refine r_cVI (As := [.int (gI m24 0 4)]) (rest := []) X (fun r9 m9 hg => k_X12_signAt hg) h (Lm_N Lmk_0 rfl) Lmk_0 rfl (by decide) uw6_208 uw6_210 us4_1 uw1_13 uw6_211 rfl rfl dd_X12_signAt ⟨Nat.le_of_ble_eq_true rfl, Nat.le_of_ble_eq_true rfl⟩ rfl (Nat.le_of_ble_eq_true rfl) dX12_nextToken_242 rfl (fun x27 m26 h => ?_)
      refine r_bipush (v := (57)) X dX12_nextToken_245 (by decide) ?_
      refine r_icmp_gt (tgt := 299) X dX12_nextToken_247 (by decide) h (fun h => ?_) (fun h => ?_)
      · exact r_sub [0] rfl (hJ299 m26 h)
      · refine r_aload_n X dX12_nextToken_250 rfl 0 rfl ?_
        refine r_getI X (k := 4) (Lm_N Lmk_0 rfl) Lmk_0 rfl (by decide) ui_12 (by decide) uw5_224 rfl dX12_nextToken_251 ?_
        refine r_aload_n X dX12_nextToken_254 rfl 0 rfl ?_
        refine r_getI X (k := 5) (Lm_N Lmk_0 rfl) Lmk_0 rfl (by decide) ui_12 (by decide) uw5_225 rfl dX12_nextToken_255 ?_
        refine r_isub X dX12_nextToken_258 ?_
        refine r_iconst (v := (4)) X dX12_nextToken_259 (by decide) ?_
        refine r_icmp_ge (tgt := 286) X dX12_nextToken_260 (by decide) h (fun h => ?_) (fun h => ?_)
        · exact r_sub [0] rfl (hJ286 k224 hk224 m26 h)
        · refine r_aload_n X dX12_nextToken_263 rfl 0 rfl ?_
          refine r_aload_n X dX12_nextToken_264 rfl 0 rfl ?_
          refine r_getI X (k := 8) (Lm_N Lmk_0 rfl) Lmk_0 rfl (by decide) ui_12 (by decide) uw5_228 rfl dX12_nextToken_265 ?_
          refine r_bipush (v := (10)) X dX12_nextToken_268 (by decide) ?_
          refine r_imul X dX12_nextToken_270 ?_
          refine r_aload_n X dX12_nextToken_271 rfl 0 rfl ?_
          refine r_aload_n X dX12_nextToken_272 rfl 0 rfl ?_
          refine r_getI X (k := 4) (Lm_N Lmk_0 rfl) Lmk_0 rfl (by decide) ui_12 (by decide) uw5_224 rfl dX12_nextToken_273 ?_
          refine r_cVI (As := [.int (gI m26 0 4)]) (rest := [.int ((gI m26 0 8) * ((10))), .ref (ad (0))]) X (fun r9 m9 hg => k_X12_signAt hg) h (Lm_N Lmk_0 rfl) Lmk_0 rfl (by decide) uw6_208 uw6_210 us4_1 uw1_13 uw6_211 rfl rfl dd_X12_signAt ⟨Nat.le_of_ble_eq_true rfl, Nat.le_of_ble_eq_true rfl⟩ rfl (Nat.le_of_ble_eq_true rfl) dX12_nextToken_276 rfl (fun x29 m28 h => ?_)
          refine r_iadd X dX12_nextToken_279 ?_
          refine r_bipush (v := (48)) X dX12_nextToken_280 (by decide) ?_
          refine r_isub X dX12_nextToken_282 ?_
          refine r_putI X (k := 8) (Lm_N Lmk_0 rfl) Lmk_0 rfl (by decide) ui_12 (by decide) uw5_228 tyX12_ok nmX12 rfl rfl rfl dX12_nextToken_283 ?_
          refine r_nmM h (fun m30 h => ?_)
          exact r_sub [0] rfl (hJ286 k224 hk224 m30 h)
  have hL224 : ∀ (n : Nat), ∀ (m23 : Mm), lop (fun _ => none) (f_X12_nextToken_B224 ) n m23 = some mem2 → Jd p l e ({ frames := 1, cells := 0, slots := 0, locals := 21 }) s m args below meth c 2 (MQ below (PsV Lm ad cy dC dI mem2 A) args s 0 0 A) A dC dI cy Lm ad m23 224 [(0, .ref (ad (0)))] [] := by
    intro  n
    induction n with
    | zero => intro _ h; cases h
    | succ n ih => intro a0 h; exact hJ224  _ ih a0 h
  have hJ368 : ∀ (x44 : Int32) (m45 : Mm), f_X12_nextToken_J368 x44 m45 = some mem2 → Jd p l e ({ frames := 1, cells := 0, slots := 0, locals := 21 }) s m args below meth c 2 (MQ below (PsV Lm ad cy dC dI mem2 A) args s 0 0 A) A dC dI cy Lm ad m45 368 [] [.int (x44), .ref (ad (0))] := by
    intro x44 m45 h
    unfold f_X12_nextToken_J368 at h
    refine r_putI X (k := 6) (Lm_N Lmk_0 rfl) Lmk_0 rfl (by decide) ui_12 (by decide) uw5_226 tyX12_ok nmX12 rfl rfl rfl dX12_nextToken_368 ?_
    refine r_nmM h (fun m46 h => ?_)
    exact r_vret X rfl dX12_nextToken_371 h
  have hJ363 : ∀ (m36 : Mm), f_X12_nextToken_J363 m36 = some mem2 → Jd p l e ({ frames := 1, cells := 0, slots := 0, locals := 21 }) s m args below meth c 2 (MQ below (PsV Lm ad cy dC dI mem2 A) args s 0 0 A) A dC dI cy Lm ad m36 363 [] [.ref (ad (0))] := by
    intro m36 h
    unfold f_X12_nextToken_J363 at h
    refine r_iconst (v := (3)) X dX12_nextToken_363 (by decide) ?_
    refine r_goto (tgt := 368) X dX12_nextToken_364 (by decide) ?_
    exact r_sub [] rfl (hJ368 ((3)) m36 h)
  have hJ367 : ∀ (m43 : Mm), f_X12_nextToken_J367 m43 = some mem2 → Jd p l e ({ frames := 1, cells := 0, slots := 0, locals := 21 }) s m args below meth c 2 (MQ below (PsV Lm ad cy dC dI mem2 A) args s 0 0 A) A dC dI cy Lm ad m43 367 [] [.ref (ad (0))] := by
    intro m43 h
    unfold f_X12_nextToken_J367 at h
    refine r_iconst (v := (4)) X dX12_nextToken_367 (by decide) ?_
    exact r_sub [] rfl (hJ368 ((4)) m43 h)
  have hJ345 : ∀ (x34 : Int32) (m35 : Mm), f_X12_nextToken_J345 x34 m35 = some mem2 → Jd p l e ({ frames := 1, cells := 0, slots := 0, locals := 21 }) s m args below meth c 2 (MQ below (PsV Lm ad cy dC dI mem2 A) args s 0 0 A) A dC dI cy Lm ad m35 345 [(1, .int (x34))] [.ref (ad (0))] := by
    intro x34 m35 h
    unfold f_X12_nextToken_J345 at h
    refine r_iload_n X dX12_nextToken_345 rfl 0 rfl ?_
    refine r_bipush (v := (45)) X dX12_nextToken_346 (by decide) ?_
    refine r_icmp_eq (tgt := 363) X dX12_nextToken_348 (by decide) h (fun h => ?_) (fun h => ?_)
    · exact r_sub [] rfl (hJ363 m35 h)
    · refine r_iload_n X dX12_nextToken_351 rfl 0 rfl ?_
      refine r_bipush (v := (59)) X dX12_nextToken_352 (by decide) ?_
      refine r_icmp_lt (tgt := 367) X dX12_nextToken_354 (by decide) h (fun h => ?_) (fun h => ?_)
      · exact r_sub [] rfl (hJ367 m35 h)
      · refine r_iload_n X dX12_nextToken_357 rfl 0 rfl ?_
        refine r_bipush (v := (61)) X dX12_nextToken_358 (by decide) ?_
        refine r_icmp_gt (tgt := 367) X dX12_nextToken_360 (by decide) h (fun h => ?_) (fun h => ?_)
        · exact r_sub [] rfl (hJ367 m35 h)
        · exact r_sub [] rfl (hJ363 m35 h)
  have hJ322 : ∀ (x20 : Int32) (m21 : Mm), f_X12_nextToken_J322 x20 m21 = some mem2 → Jd p l e ({ frames := 1, cells := 0, slots := 0, locals := 21 }) s m args below meth c 2 (MQ below (PsV Lm ad cy dC dI mem2 A) args s 0 0 A) A dC dI cy Lm ad m21 322 [(0, .ref (ad (0))), (1, .int (x20))] [] := by
    intro x20 m21 h
    unfold f_X12_nextToken_J322 at h
    refine r_aload_n X dX12_nextToken_322 rfl 0 rfl ?_
    refine r_dup X dX12_nextToken_323 rfl ?_
    refine r_getI X (k := 4) (Lm_N Lmk_0 rfl) Lmk_0 rfl (by decide) ui_12 (by decide) uw5_224 rfl dX12_nextToken_324 ?_
    refine r_iconst (v := (1)) X dX12_nextToken_327 (by decide) ?_
    refine r_iadd X dX12_nextToken_328 ?_
    refine r_putI X (k := 4) (Lm_N Lmk_0 rfl) Lmk_0 rfl (by decide) ui_12 (by decide) uw5_224 tyX12_ok nmX12 rfl rfl rfl dX12_nextToken_329 ?_
    refine r_nmM h (fun m22 h => ?_)
    refine r_aload_n X dX12_nextToken_332 rfl 0 rfl ?_
    refine r_iload_n X dX12_nextToken_333 rfl 1 rfl ?_
    refine r_bipush (v := (40)) X dX12_nextToken_334 (by decide) ?_
    refine r_icmp_lt (tgt := 345) X dX12_nextToken_336 (by decide) h (fun h => ?_) (fun h => ?_)
    · exact r_sub [1] rfl (hJ345 x20 m22 h)
    · refine r_iload_n X dX12_nextToken_339 rfl 1 rfl ?_
      refine r_bipush (v := (43)) X dX12_nextToken_340 (by decide) ?_
      refine r_icmp_le (tgt := 363) X dX12_nextToken_342 (by decide) h (fun h => ?_) (fun h => ?_)
      · exact r_sub [] rfl (hJ363 m22 h)
      · exact r_sub [1] rfl (hJ345 x20 m22 h)
  have hJ212 : ∀ (x10 : Int32) (m11 : Mm), f_X12_nextToken_J212 x10 m11 = some mem2 → Jd p l e ({ frames := 1, cells := 0, slots := 0, locals := 21 }) s m args below meth c 2 (MQ below (PsV Lm ad cy dC dI mem2 A) args s 0 0 A) A dC dI cy Lm ad m11 212 [(0, .ref (ad (0))), (1, .int (x10))] [] := by
    intro x10 m11 h
    unfold f_X12_nextToken_J212 at h
    refine r_iload_n X dX12_nextToken_212 rfl 1 rfl ?_
    refine r_bipush (v := (48)) X dX12_nextToken_213 (by decide) ?_
    refine r_icmp_lt (tgt := 322) X dX12_nextToken_215 (by decide) h (fun h => ?_) (fun h => ?_)
    · exact r_sub [0, 1] rfl (hJ322 x10 m11 h)
    · refine r_iload_n X dX12_nextToken_218 rfl 1 rfl ?_
      refine r_bipush (v := (57)) X dX12_nextToken_219 (by decide) ?_
      refine r_icmp_gt (tgt := 322) X dX12_nextToken_221 (by decide) h (fun h => ?_) (fun h => ?_)
      · exact r_sub [0, 1] rfl (hJ322 x10 m11 h)
      · exact r_sub [0] rfl (hL224 4000 m11 h)
  have hJ52 : ∀ (m2 : Mm), f_X12_nextToken_J52 m2 = some mem2 → Jd p l e ({ frames := 1, cells := 0, slots := 0, locals := 21 }) s m args below meth c 2 (MQ below (PsV Lm ad cy dC dI mem2 A) args s 0 0 A) A dC dI cy Lm ad m2 52 [(0, .ref (ad (0)))] [] := by
    intro m2 h
    unfold f_X12_nextToken_J52 at h
    refine r_aload_n X dX12_nextToken_52 rfl 0 rfl ?_
    refine r_aload_n X dX12_nextToken_53 rfl 0 rfl ?_
    refine r_getI X (k := 4) (Lm_N Lmk_0 rfl) Lmk_0 rfl (by decide) ui_12 (by decide) uw5_224 rfl dX12_nextToken_54 ?_
    refine r_putI X (k := 5) (Lm_N Lmk_0 rfl) Lmk_0 rfl (by decide) ui_12 (by decide) uw5_225 tyX12_ok nmX12 rfl rfl rfl dX12_nextToken_57 ?_
    refine r_nmM h (fun m3 h => ?_)
    refine r_aload_n X dX12_nextToken_60 rfl 0 rfl ?_
    refine r_lconst (v := 0) X dX12_nextToken_61 (by decide) ?_
    refine r_putJ X (k := 7) (Lm_N Lmk_0 rfl) Lmk_0 rfl (by decide) ui_12 (by decide) uw5_227 tyX12_ok nmX12 rfl rfl rfl dX12_nextToken_62 ?_
    refine r_nmM h (fun m4 h => ?_)
    refine r_aload_n X dX12_nextToken_65 rfl 0 rfl ?_
    refine r_iconst (v := (0)) X dX12_nextToken_66 (by decide) ?_
    refine r_putI X (k := 8) (Lm_N Lmk_0 rfl) Lmk_0 rfl (by decide) ui_12 (by decide) uw5_228 tyX12_ok nmX12 rfl rfl rfl dX12_nextToken_67 ?_
    refine r_nmM h (fun m5 h => ?_)
    refine r_aload_n X dX12_nextToken_70 rfl 0 rfl ?_
    refine r_getI X (k := 4) (Lm_N Lmk_0 rfl) Lmk_0 rfl (by decide) ui_12 (by decide) uw5_224 rfl dX12_nextToken_71 ?_
    refine r_aload_n X dX12_nextToken_74 rfl 0 rfl ?_
    refine r_getI X (k := 3) (Lm_N Lmk_0 rfl) Lmk_0 rfl (by decide) ui_12 (by decide) uw5_223 rfl dX12_nextToken_75 ?_
    refine r_icmp_ne (tgt := 87) X dX12_nextToken_78 (by decide) h (fun h => ?_) (fun h => ?_)
    · refine r_aload_n X dX12_nextToken_87 rfl 0 rfl ?_
      refine r_getF X (k := 2) (of := 1) rfl (Lm_N Lmk_0 rfl) Lmk_0 rfl (by decide) ui_12 (by decide) uw5_222 rfl dX12_nextToken_88 ?_
      refine r_aload_n X dX12_nextToken_91 rfl 0 rfl ?_
      refine r_getI X (k := 4) (Lm_N Lmk_0 rfl) Lmk_0 rfl (by decide) ui_12 (by decide) uw5_224 rfl dX12_nextToken_92 ?_
      refine r_iald X (Lm_N Lmk_1 rfl) Lmk_1 h dX12_nextToken_95 (fun h => ?_)
      refine r_nmI h (fun x6 h => ?_)
      refine r_istore_n (lv2 := [(1, .int (x6)), (0, .ref (ad (0)))]) X dX12_nextToken_96 rfl (by decide) rfl ?_
      refine r_iload_n X dX12_nextToken_97 rfl 0 rfl ?_
      refine r_bipush (v := (97)) X dX12_nextToken_98 (by decide) ?_
      refine r_icmp_lt (tgt := 212) X dX12_nextToken_100 (by decide) h (fun h => ?_) (fun h => ?_)
      · exact r_sub [1, 0] rfl (hJ212 x6 m5 h)
      · refine r_iload_n X dX12_nextToken_103 rfl 0 rfl ?_
        refine r_bipush (v := (122)) X dX12_nextToken_104 (by decide) ?_
        refine r_icmp_gt (tgt := 212) X dX12_nextToken_106 (by decide) h (fun h => ?_) (fun h => ?_)
        · exact r_sub [1, 0] rfl (hJ212 x6 m5 h)
        · exact r_sub [1] rfl (hL109 4000 m5 h)
    · refine r_aload_n X dX12_nextToken_81 rfl 0 rfl ?_
      refine r_iconst (v := (0)) X dX12_nextToken_82 (by decide) ?_
      refine r_putI X (k := 6) (Lm_N Lmk_0 rfl) Lmk_0 rfl (by decide) ui_12 (by decide) uw5_226 tyX12_ok nmX12 rfl rfl rfl dX12_nextToken_83 ?_
      refine r_nmM h (fun m7 h => ?_)
      exact r_vret X rfl dX12_nextToken_86 h
  have hJ0 : ∀ (k0 : Mm → Option Mm) (hk0 : ∀ (m1 : Mm), k0 m1 = some mem2 → Jd p l e ({ frames := 1, cells := 0, slots := 0, locals := 21 }) s m args below meth c 2 (MQ below (PsV Lm ad cy dC dI mem2 A) args s 0 0 A) A dC dI cy Lm ad m1 0 [(0, .ref (ad (0)))] []) (m1 : Mm), f_X12_nextToken_B0 k0 m1 = some mem2 → Jd p l e ({ frames := 1, cells := 0, slots := 0, locals := 21 }) s m args below meth c 2 (MQ below (PsV Lm ad cy dC dI mem2 A) args s 0 0 A) A dC dI cy Lm ad m1 0 [(0, .ref (ad (0)))] [] := by
    intro k0 hk0 m1 h
    unfold f_X12_nextToken_B0 at h
    refine r_aload_n X dX12_nextToken_0 rfl 0 rfl ?_
    refine r_getI X (k := 4) (Lm_N Lmk_0 rfl) Lmk_0 rfl (by decide) ui_12 (by decide) uw5_224 rfl dX12_nextToken_1 ?_
    refine r_aload_n X dX12_nextToken_4 rfl 0 rfl ?_
    refine r_getI X (k := 3) (Lm_N Lmk_0 rfl) Lmk_0 rfl (by decide) ui_12 (by decide) uw5_223 rfl dX12_nextToken_5 ?_
    refine r_icmp_ge (tgt := 52) X dX12_nextToken_8 (by decide) h (fun h => ?_) (fun h => ?_)
    · exact r_sub [0] rfl (hJ52 m1 h)
    · refine r_aload_n X dX12_nextToken_11 rfl 0 rfl ?_
      refine r_getF X (k := 2) (of := 1) rfl (Lm_N Lmk_0 rfl) Lmk_0 rfl (by decide) ui_12 (by decide) uw5_222 rfl dX12_nextToken_12 ?_
      refine r_aload_n X dX12_nextToken_15 rfl 0 rfl ?_
      refine r_getI X (k := 4) (Lm_N Lmk_0 rfl) Lmk_0 rfl (by decide) ui_12 (by decide) uw5_224 rfl dX12_nextToken_16 ?_
      refine r_iald X (Lm_N Lmk_1 rfl) Lmk_1 h dX12_nextToken_19 (fun h => ?_)
      refine r_bipush (v := (32)) X dX12_nextToken_20 (by decide) ?_
      refine r_icmp_eq (tgt := 39) X dX12_nextToken_22 (by decide) h (fun h => ?_) (fun h => ?_)
      · exact r_sub [0] rfl (hJ39 k0 hk0 m1 h)
      · refine r_aload_n X dX12_nextToken_25 rfl 0 rfl ?_
        refine r_getF X (k := 2) (of := 1) rfl (Lm_N Lmk_0 rfl) Lmk_0 rfl (by decide) ui_12 (by decide) uw5_222 rfl dX12_nextToken_26 ?_
        refine r_aload_n X dX12_nextToken_29 rfl 0 rfl ?_
        refine r_getI X (k := 4) (Lm_N Lmk_0 rfl) Lmk_0 rfl (by decide) ui_12 (by decide) uw5_224 rfl dX12_nextToken_30 ?_
        refine r_iald X (Lm_N Lmk_1 rfl) Lmk_1 h dX12_nextToken_33 (fun h => ?_)
        refine r_bipush (v := (10)) X dX12_nextToken_34 (by decide) ?_
        refine r_icmp_ne (tgt := 52) X dX12_nextToken_36 (by decide) h (fun h => ?_) (fun h => ?_)
        · exact r_sub [0] rfl (hJ52 m1 h)
        · exact r_sub [0] rfl (hJ39 k0 hk0 m1 h)
  have hL0 : ∀ (n : Nat), ∀ (m1 : Mm), lop (fun _ => none) (f_X12_nextToken_B0 ) n m1 = some mem2 → Jd p l e ({ frames := 1, cells := 0, slots := 0, locals := 21 }) s m args below meth c 2 (MQ below (PsV Lm ad cy dC dI mem2 A) args s 0 0 A) A dC dI cy Lm ad m1 0 [(0, .ref (ad (0)))] [] := by
    intro  n
    induction n with
    | zero => intro _ h; cases h
    | succ n ih => intro a0 h; exact hJ0  _ ih a0 h
  unfold f_X12_nextToken at h
  exact r_sub [0] rfl (hL0 4000 mem h)
noncomputable def f_X12_isWord (p1 : Int64) (mem : Mm) : Option (Int32 × Mm) :=
  if ¬ (gI mem 0 6) = ((1)) then (grd (bok ((0))) (some ((0), mem))) else (if ¬ (lg_cmp (gJ mem 0 7) p1) = 0 then (grd (bok ((0))) (some ((0), mem))) else (grd (bok ((1))) (some ((1), mem))))
theorem dd_X12_isWord : yX12_isWord.cls = RX12 ∧ yX12_isWord.cls ≠ "java/lang/invoke/MethodHandle" ∧ yX12_isWord.cls ≠ "java/lang/invoke/VarHandle" ∧ (parseMethodDescriptor yX12_isWord.desc).map (fun d => d.parameters.length) = some 1 := by decide +kernel
set_option maxHeartbeats 4000000 in
set_option maxRecDepth 100000 in
theorem k_X12_isWord {l : Launch} {ad : Nat → Nat} {cy : Nat → ClassId} {dC : Nat → ClassId} {dI : Nat → Nat → Nat} {ks : (Nat → Nat) × (Nat → Nat)} {p1 : Int64} {mem : Mm} {r2 : Int32} {mem2 : Mm}  (h : f_X12_isWord p1 mem = some (r2, mem2)) : CtI l Lm ad cy dC dI ks yX12_isWord cX12_isWord 3 (some .boolean) ({ frames := 0, cells := 0, slots := 0, locals := 0 }) [.ref (ad (0)), .long (p1)] mem r2 mem2 := by
  refine CtI.of (cc := cX12_isWord) (maxL := 3) (ret := (some .boolean)) (own := RX12) rfl (by decide) (Nat.le_of_ble_eq_true rfl) ?_
  intro p e s m args below meth c A X
  have hts := X.2.2.2.2.1
  unfold f_X12_isWord at h
  refine r_aload_n X dX12_isWord_0 rfl 0 rfl ?_
  refine r_getI X (k := 6) (Lm_N Lmk_0 rfl) Lmk_0 rfl (by decide) ui_12 (by decide) uw5_226 rfl dX12_isWord_1 ?_
  refine r_iconst (v := (1)) X dX12_isWord_4 (by decide) ?_
  refine r_icmp_ne (tgt := 21) X dX12_isWord_5 (by decide) h (fun h => ?_) (fun h => ?_)
  · refine r_iconst (v := (0)) X dX12_isWord_21 (by decide) ?_
    exact r_zret2 X rfl dX12_isWord_22 h
  · refine r_aload_n X dX12_isWord_8 rfl 0 rfl ?_
    refine r_getJ X (k := 7) (Lm_N Lmk_0 rfl) Lmk_0 rfl (by decide) ui_12 (by decide) uw5_227 rfl dX12_isWord_9 ?_
    refine r_lload_n X dX12_isWord_12 rfl 1 rfl ?_
    refine r_lcmp X dX12_isWord_13 ?_
    refine r_if_ne (tgt := 21) X dX12_isWord_14 (by decide) h (fun h => ?_) (fun h => ?_)
    · refine r_iconst (v := (0)) X dX12_isWord_21 (by decide) ?_
      exact r_zret2 X rfl dX12_isWord_22 h
    · refine r_iconst (v := (1)) X dX12_isWord_17 (by decide) ?_
      refine r_goto (tgt := 22) X dX12_isWord_18 (by decide) ?_
      exact r_zret2 X rfl dX12_isWord_22 h
noncomputable def f_X12_isSign (p1 : Int32) (mem : Mm) : Option (Int32 × Mm) :=
  if ¬ (gI mem 0 6) = ((3)) then (grd (bok ((0))) (some ((0), mem))) else (grd (inb (gI mem 0 5) 1000) (if ¬ (gI mem 1 (gI mem 0 5).toNatClampNeg) = p1 then (grd (bok ((0))) (some ((0), mem))) else (grd (bok ((1))) (some ((1), mem)))))
theorem dd_X12_isSign : yX12_isSign.cls = RX12 ∧ yX12_isSign.cls ≠ "java/lang/invoke/MethodHandle" ∧ yX12_isSign.cls ≠ "java/lang/invoke/VarHandle" ∧ (parseMethodDescriptor yX12_isSign.desc).map (fun d => d.parameters.length) = some 1 := by decide +kernel
set_option maxHeartbeats 4000000 in
set_option maxRecDepth 100000 in
theorem k_X12_isSign {l : Launch} {ad : Nat → Nat} {cy : Nat → ClassId} {dC : Nat → ClassId} {dI : Nat → Nat → Nat} {ks : (Nat → Nat) × (Nat → Nat)} {p1 : Int32} {mem : Mm} {r2 : Int32} {mem2 : Mm}  (h : f_X12_isSign p1 mem = some (r2, mem2)) : CtI l Lm ad cy dC dI ks yX12_isSign cX12_isSign 2 (some .boolean) ({ frames := 0, cells := 0, slots := 0, locals := 0 }) [.ref (ad (0)), .int (p1)] mem r2 mem2 := by
  refine CtI.of (cc := cX12_isSign) (maxL := 2) (ret := (some .boolean)) (own := RX12) rfl (by decide) (Nat.le_of_ble_eq_true rfl) ?_
  intro p e s m args below meth c A X
  have hts := X.2.2.2.2.1
  unfold f_X12_isSign at h
  refine r_aload_n X dX12_isSign_0 rfl 0 rfl ?_
  refine r_getI X (k := 6) (Lm_N Lmk_0 rfl) Lmk_0 rfl (by decide) ui_12 (by decide) uw5_226 rfl dX12_isSign_1 ?_
  refine r_iconst (v := (3)) X dX12_isSign_4 (by decide) ?_
  refine r_icmp_ne (tgt := 25) X dX12_isSign_5 (by decide) h (fun h => ?_) (fun h => ?_)
  · refine r_iconst (v := (0)) X dX12_isSign_25 (by decide) ?_
    exact r_zret2 X rfl dX12_isSign_26 h
  · refine r_aload_n X dX12_isSign_8 rfl 0 rfl ?_
    refine r_getF X (k := 2) (of := 1) rfl (Lm_N Lmk_0 rfl) Lmk_0 rfl (by decide) ui_12 (by decide) uw5_222 rfl dX12_isSign_9 ?_
    refine r_aload_n X dX12_isSign_12 rfl 0 rfl ?_
    refine r_getI X (k := 5) (Lm_N Lmk_0 rfl) Lmk_0 rfl (by decide) ui_12 (by decide) uw5_225 rfl dX12_isSign_13 ?_
    refine r_iald X (Lm_N Lmk_1 rfl) Lmk_1 h dX12_isSign_16 (fun h => ?_)
    refine r_iload_n X dX12_isSign_17 rfl 1 rfl ?_
    refine r_icmp_ne (tgt := 25) X dX12_isSign_18 (by decide) h (fun h => ?_) (fun h => ?_)
    · refine r_iconst (v := (0)) X dX12_isSign_25 (by decide) ?_
      exact r_zret2 X rfl dX12_isSign_26 h
    · refine r_iconst (v := (1)) X dX12_isSign_21 (by decide) ?_
      refine r_goto (tgt := 26) X dX12_isSign_22 (by decide) ?_
      exact r_zret2 X rfl dX12_isSign_26 h
noncomputable def f_X12_fails (p1 : Int32) (mem : Mm) : Option (Int32 × Mm) :=
  bnd (sI mem 0 9 (p1 + (((16)) * (gI mem 0 5)))) fun m1 => grd (bok ((0))) (some ((0), m1))
theorem dd_X12_fails : yX12_fails.cls = RX12 ∧ yX12_fails.cls ≠ "java/lang/invoke/MethodHandle" ∧ yX12_fails.cls ≠ "java/lang/invoke/VarHandle" ∧ (parseMethodDescriptor yX12_fails.desc).map (fun d => d.parameters.length) = some 1 := by decide +kernel
set_option maxHeartbeats 4000000 in
set_option maxRecDepth 100000 in
theorem k_X12_fails {l : Launch} {ad : Nat → Nat} {cy : Nat → ClassId} {dC : Nat → ClassId} {dI : Nat → Nat → Nat} {ks : (Nat → Nat) × (Nat → Nat)} {p1 : Int32} {mem : Mm} {r2 : Int32} {mem2 : Mm}  (h : f_X12_fails p1 mem = some (r2, mem2)) : CtI l Lm ad cy dC dI ks yX12_fails cX12_fails 2 (some .boolean) ({ frames := 0, cells := 0, slots := 0, locals := 0 }) [.ref (ad (0)), .int (p1)] mem r2 mem2 := by
  refine CtI.of (cc := cX12_fails) (maxL := 2) (ret := (some .boolean)) (own := RX12) rfl (by decide) (Nat.le_of_ble_eq_true rfl) ?_
  intro p e s m args below meth c A X
  have hts := X.2.2.2.2.1
  unfold f_X12_fails at h
  refine r_aload_n X dX12_fails_0 rfl 0 rfl ?_
  refine r_iload_n X dX12_fails_1 rfl 1 rfl ?_
  refine r_bipush (v := (16)) X dX12_fails_2 (by decide) ?_
  refine r_aload_n X dX12_fails_4 rfl 0 rfl ?_
  refine r_getI X (k := 5) (Lm_N Lmk_0 rfl) Lmk_0 rfl (by decide) ui_12 (by decide) uw5_225 rfl dX12_fails_5 ?_
  refine r_imul X dX12_fails_8 ?_
  refine r_iadd X dX12_fails_9 ?_
  refine r_putI X (k := 9) (Lm_N Lmk_0 rfl) Lmk_0 rfl (by decide) ui_12 (by decide) uw5_229 tyX12_ok nmX12 rfl rfl rfl dX12_fails_10 ?_
  refine r_nmM h (fun m1 h => ?_)
  refine r_iconst (v := (0)) X dX12_fails_13 (by decide) ?_
  exact r_zret2 X rfl dX12_fails_14 h
noncomputable def f_X12_puts (p1 : Int32) (mem : Mm) : Option Mm :=
  grd (inb (gI mem 0 24) 2000) (bnd (sI mem 15 (gI mem 0 24).toNatClampNeg p1) fun m1 => bnd (sI m1 0 24 ((gI m1 0 24) + ((1)))) fun m2 => some m2)
theorem dd_X12_puts : yX12_puts.cls = RX12 ∧ yX12_puts.cls ≠ "java/lang/invoke/MethodHandle" ∧ yX12_puts.cls ≠ "java/lang/invoke/VarHandle" ∧ (parseMethodDescriptor yX12_puts.desc).map (fun d => d.parameters.length) = some 1 := by decide +kernel
set_option maxHeartbeats 4000000 in
set_option maxRecDepth 100000 in
theorem k_X12_puts {l : Launch} {ad : Nat → Nat} {cy : Nat → ClassId} {dC : Nat → ClassId} {dI : Nat → Nat → Nat} {ks : (Nat → Nat) × (Nat → Nat)} {p1 : Int32} {mem : Mm} {mem2 : Mm}  (h : f_X12_puts p1 mem = some mem2) : CtV l Lm ad cy dC dI ks yX12_puts cX12_puts 2 none ({ frames := 0, cells := 0, slots := 0, locals := 0 }) [.ref (ad (0)), .int (p1)] mem mem2 := by
  refine CtV.of (cc := cX12_puts) (maxL := 2) (ret := none) (own := RX12) rfl (by decide) (Nat.le_of_ble_eq_true rfl) ?_
  intro p e s m args below meth c A X
  have hts := X.2.2.2.2.1
  unfold f_X12_puts at h
  refine r_aload_n X dX12_puts_0 rfl 0 rfl ?_
  refine r_getF X (k := 23) (of := 15) rfl (Lm_N Lmk_0 rfl) Lmk_0 rfl (by decide) ui_12 (by decide) uw6_3 rfl dX12_puts_1 ?_
  refine r_aload_n X dX12_puts_4 rfl 0 rfl ?_
  refine r_getI X (k := 24) (Lm_N Lmk_0 rfl) Lmk_0 rfl (by decide) ui_12 (by decide) uw6_4 rfl dX12_puts_5 ?_
  refine r_iload_n X dX12_puts_8 rfl 1 rfl ?_
  refine r_iast X (Lm_N Lmk_15 rfl) Lmk_15 h dX12_puts_9 (fun h => ?_)
  refine r_nmM h (fun m1 h => ?_)
  refine r_aload_n X dX12_puts_10 rfl 0 rfl ?_
  refine r_dup X dX12_puts_11 rfl ?_
  refine r_getI X (k := 24) (Lm_N Lmk_0 rfl) Lmk_0 rfl (by decide) ui_12 (by decide) uw6_4 rfl dX12_puts_12 ?_
  refine r_iconst (v := (1)) X dX12_puts_15 (by decide) ?_
  refine r_iadd X dX12_puts_16 ?_
  refine r_putI X (k := 24) (Lm_N Lmk_0 rfl) Lmk_0 rfl (by decide) ui_12 (by decide) uw6_4 tyX12_ok nmX12 rfl rfl rfl dX12_puts_17 ?_
  refine r_nmM h (fun m2 h => ?_)
  exact r_vret X rfl dX12_puts_20 h
noncomputable def f_X12_fact  (mem : Mm) : Option (Int32 × Mm) :=
  if (gI mem 0 6) = ((1)) then (if ¬ (lg_cmp (gJ mem 0 7) ((21470))) = 0 then (if ¬ (gI mem 0 25) = 0 then (if ¬ (lg_cmp (gJ mem 0 7) ((427333))) = 0 then (if ¬ (lg_cmp (gJ mem 0 7) ((247516))) = 0 then (some ((0), mem)) else (some ((6), mem))) else (some ((5), mem))) else (if ¬ (lg_cmp (gJ mem 0 7) ((464144))) = 0 then (if ¬ (lg_cmp (gJ mem 0 7) ((226024039))) = 0 then (if ¬ (lg_cmp (gJ mem 0 7) ((375062))) = 0 then (some ((0), mem)) else (some ((4), mem))) else (some ((3), mem))) else (some ((2), mem)))) else (some ((1), mem))) else (some ((0), mem))
theorem dd_X12_fact : yX12_fact.cls = RX12 ∧ yX12_fact.cls ≠ "java/lang/invoke/MethodHandle" ∧ yX12_fact.cls ≠ "java/lang/invoke/VarHandle" ∧ (parseMethodDescriptor yX12_fact.desc).map (fun d => d.parameters.length) = some 0 := by decide +kernel
set_option maxHeartbeats 4000000 in
set_option maxRecDepth 100000 in
theorem k_X12_fact {l : Launch} {ad : Nat → Nat} {cy : Nat → ClassId} {dC : Nat → ClassId} {dI : Nat → Nat → Nat} {ks : (Nat → Nat) × (Nat → Nat)}  {mem : Mm} {r2 : Int32} {mem2 : Mm}  (h : f_X12_fact  mem = some (r2, mem2)) : CtI l Lm ad cy dC dI ks yX12_fact cX12_fact 1 (some .int) ({ frames := 0, cells := 0, slots := 0, locals := 0 }) [.ref (ad (0))] mem r2 mem2 := by
  refine CtI.of (cc := cX12_fact) (maxL := 1) (ret := (some .int)) (own := RX12) rfl (by decide) (Nat.le_of_ble_eq_true rfl) ?_
  intro p e s m args below meth c A X
  have hts := X.2.2.2.2.1
  unfold f_X12_fact at h
  refine r_aload_n X dX12_fact_0 rfl 0 rfl ?_
  refine r_getI X (k := 6) (Lm_N Lmk_0 rfl) Lmk_0 rfl (by decide) ui_12 (by decide) uw5_226 rfl dX12_fact_1 ?_
  refine r_iconst (v := (1)) X dX12_fact_4 (by decide) ?_
  refine r_icmp_eq (tgt := 10) X dX12_fact_5 (by decide) h (fun h => ?_) (fun h => ?_)
  · refine r_aload_n X dX12_fact_10 rfl 0 rfl ?_
    refine r_getJ X (k := 7) (Lm_N Lmk_0 rfl) Lmk_0 rfl (by decide) ui_12 (by decide) uw5_227 rfl dX12_fact_11 ?_
    refine r_ldc2 (v := 21470) X dX12_fact_14 uw7_80 ?_
    refine r_lcmp X dX12_fact_17 ?_
    refine r_if_ne (tgt := 23) X dX12_fact_18 (by decide) h (fun h => ?_) (fun h => ?_)
    · refine r_aload_n X dX12_fact_23 rfl 0 rfl ?_
      refine r_getI X (k := 25) (Lm_N Lmk_0 rfl) Lmk_0 rfl (by decide) ui_12 (by decide) uw6_5 rfl dX12_fact_24 ?_
      refine r_if_ne (tgt := 77) X dX12_fact_27 (by decide) h (fun h => ?_) (fun h => ?_)
      · refine r_aload_n X dX12_fact_77 rfl 0 rfl ?_
        refine r_getJ X (k := 7) (Lm_N Lmk_0 rfl) Lmk_0 rfl (by decide) ui_12 (by decide) uw5_227 rfl dX12_fact_78 ?_
        refine r_ldc2 (v := 427333) X dX12_fact_81 uw7_84 ?_
        refine r_lcmp X dX12_fact_84 ?_
        refine r_if_ne (tgt := 92) X dX12_fact_85 (by decide) h (fun h => ?_) (fun h => ?_)
        · refine r_aload_n X dX12_fact_92 rfl 0 rfl ?_
          refine r_getJ X (k := 7) (Lm_N Lmk_0 rfl) Lmk_0 rfl (by decide) ui_12 (by decide) uw5_227 rfl dX12_fact_93 ?_
          refine r_ldc2 (v := 247516) X dX12_fact_96 uw7_85 ?_
          refine r_lcmp X dX12_fact_99 ?_
          refine r_if_ne (tgt := 108) X dX12_fact_100 (by decide) h (fun h => ?_) (fun h => ?_)
          · refine r_iconst (v := (0)) X dX12_fact_108 (by decide) ?_
            exact r_iret2 X rfl dX12_fact_109 h
          · refine r_bipush (v := (6)) X dX12_fact_103 (by decide) ?_
            refine r_goto (tgt := 109) X dX12_fact_105 (by decide) ?_
            exact r_iret2 X rfl dX12_fact_109 h
        · refine r_iconst (v := (5)) X dX12_fact_88 (by decide) ?_
          refine r_goto (tgt := 109) X dX12_fact_89 (by decide) ?_
          exact r_iret2 X rfl dX12_fact_109 h
      · refine r_aload_n X dX12_fact_30 rfl 0 rfl ?_
        refine r_getJ X (k := 7) (Lm_N Lmk_0 rfl) Lmk_0 rfl (by decide) ui_12 (by decide) uw5_227 rfl dX12_fact_31 ?_
        refine r_ldc2 (v := 464144) X dX12_fact_34 uw7_81 ?_
        refine r_lcmp X dX12_fact_37 ?_
        refine r_if_ne (tgt := 45) X dX12_fact_38 (by decide) h (fun h => ?_) (fun h => ?_)
        · refine r_aload_n X dX12_fact_45 rfl 0 rfl ?_
          refine r_getJ X (k := 7) (Lm_N Lmk_0 rfl) Lmk_0 rfl (by decide) ui_12 (by decide) uw5_227 rfl dX12_fact_46 ?_
          refine r_ldc2 (v := 226024039) X dX12_fact_49 uw7_82 ?_
          refine r_lcmp X dX12_fact_52 ?_
          refine r_if_ne (tgt := 60) X dX12_fact_53 (by decide) h (fun h => ?_) (fun h => ?_)
          · refine r_aload_n X dX12_fact_60 rfl 0 rfl ?_
            refine r_getJ X (k := 7) (Lm_N Lmk_0 rfl) Lmk_0 rfl (by decide) ui_12 (by decide) uw5_227 rfl dX12_fact_61 ?_
            refine r_ldc2 (v := 375062) X dX12_fact_64 uw7_83 ?_
            refine r_lcmp X dX12_fact_67 ?_
            refine r_if_ne (tgt := 75) X dX12_fact_68 (by decide) h (fun h => ?_) (fun h => ?_)
            · refine r_iconst (v := (0)) X dX12_fact_75 (by decide) ?_
              exact r_iret2 X rfl dX12_fact_76 h
            · refine r_iconst (v := (4)) X dX12_fact_71 (by decide) ?_
              refine r_goto (tgt := 76) X dX12_fact_72 (by decide) ?_
              exact r_iret2 X rfl dX12_fact_76 h
          · refine r_iconst (v := (3)) X dX12_fact_56 (by decide) ?_
            refine r_goto (tgt := 76) X dX12_fact_57 (by decide) ?_
            exact r_iret2 X rfl dX12_fact_76 h
        · refine r_iconst (v := (2)) X dX12_fact_41 (by decide) ?_
          refine r_goto (tgt := 76) X dX12_fact_42 (by decide) ?_
          exact r_iret2 X rfl dX12_fact_76 h
    · refine r_iconst (v := (1)) X dX12_fact_21 (by decide) ?_
      exact r_iret2 X rfl dX12_fact_22 h
  · refine r_iconst (v := (0)) X dX12_fact_8 (by decide) ?_
    exact r_iret2 X rfl dX12_fact_9 h
noncomputable def f_X12_reads_J172 (k11 : Int32 → Int32 → Mm → Option (Int32 × Mm)) (x113 : Int32) (x114 : Int32) (m115 : Mm) : Option (Int32 × Mm) :=
  bdV (f_X12_nextToken  m115) fun m116 => k11 x113 x114 m116
noncomputable def f_X12_reads_J120 (k11 : Int32 → Int32 → Mm → Option (Int32 × Mm)) (x106 : Int32) (x107 : Int32) (x108 : Int32) (x109 : Int32) (m110 : Mm) : Option (Int32 × Mm) :=
  grd (inb x109 7) (bnd (sI m110 16 x109.toNatClampNeg x108) fun m111 => grd (inb x106 7) (bnd (sI m111 17 x106.toNatClampNeg (vp_nar .boolean ((0)))) fun m112 => f_X12_reads_J172 k11 x106 x107 m112))
noncomputable def f_X12_reads_J99 (k11 : Int32 → Int32 → Mm → Option (Int32 × Mm)) (x95 : Int32) (x96 : Int32) (x97 : Int32) (x98 : Int32) (m99 : Mm) : Option (Int32 × Mm) :=
  bdV (f_X12_puts x98 m99) fun m100 => bnd (x95 + (1)) fun x101 => if x97 = 0 then (f_X12_reads_J120 k11 x101 x96 ((2)) x101 m100) else (f_X12_reads_J120 k11 x101 x96 ((1)) x101 m100)
noncomputable def f_X12_reads_J86 (k11 : Int32 → Int32 → Mm → Option (Int32 × Mm)) (x75 : Int32) (x76 : Int32) (x77 : Int32) (m78 : Mm) : Option (Int32 × Mm) :=
  if x77 = 0 then (f_X12_reads_J99 k11 x75 x76 x77 ((28)) m78) else (f_X12_reads_J99 k11 x75 x76 x77 ((30)) m78)
noncomputable def f_X12_reads_B152 (k11 : Int32 → Int32 → Mm → Option (Int32 × Mm)) (k152 : Int32 → Int32 → Mm → Option (Int32 × Mm)) (x102 : Int32) (x103 : Int32) (m104 : Mm) : Option (Int32 × Mm) :=
  if x102 ≤ 0 then (f_X12_reads_J172 k11 x102 x103 m104) else (grd (inb x102 7) (if ¬ (gI m104 16 x102.toNatClampNeg) = ((1)) then (f_X12_reads_J172 k11 x102 x103 m104) else (bnd (x102 + (-1)) fun x105 => k152 x105 x103 m104)))
noncomputable def f_X12_reads_J147 (k11 : Int32 → Int32 → Mm → Option (Int32 × Mm)) (x79 : Int32) (x80 : Int32) (m81 : Mm) : Option (Int32 × Mm) :=
  bdV (f_X12_puts x80 m81) fun m82 => lop (fun _ _ _ => none) (f_X12_reads_B152 k11) 4000 x79 ((0)) m82
noncomputable def f_X12_reads_J65 (k11 : Int32 → Int32 → Mm → Option (Int32 × Mm)) (x45 : Int32) (x46 : Int32) (x47 : Int32) (x48 : Int32) (x49 : Int32) (m50 : Mm) : Option (Int32 × Mm) :=
  if ¬ x45 = ((5)) then (if ¬ x48 = 0 then (f_X12_reads_J86 k11 x45 x46 x48 m50) else (if x49 = 0 then (if x47 ≤ 0 then (f_X12_reads_J147 k11 x45 (((100)) + (gI m50 0 8)) m50) else (f_X12_reads_J147 k11 x45 x47 m50)) else (f_X12_reads_J86 k11 x45 x46 x48 m50))) else (bdI (f_X12_fails ((5)) m50) fun x52 m51 => grd (bok x52) (some (x52, m51)))
noncomputable def f_X12_reads_J424 (k11 : Int32 → Int32 → Mm → Option (Int32 × Mm)) (x83 : Int32) (x84 : Int32) (m85 : Mm) : Option (Int32 × Mm) :=
  bdV (f_X12_nextToken  m85) fun m86 => k11 x83 x84 m86
noncomputable def f_X12_reads_J237 (k11 : Int32 → Int32 → Mm → Option (Int32 × Mm)) (x53 : Int32) (x54 : Int32) (m55 : Mm) : Option (Int32 × Mm) :=
  bdV (f_X12_puts x54 m55) fun m56 => f_X12_reads_J424 k11 x53 ((1)) m56
noncomputable def f_X12_reads_J206 (k11 : Int32 → Int32 → Mm → Option (Int32 × Mm)) (x23 : Int32) (m24 : Mm) : Option (Int32 × Mm) :=
  bdI (f_X12_isSign ((43)) m24) fun x26 m25 => if x26 = 0 then (bdI (f_X12_isSign ((45)) m25) fun x28 m27 => if x28 = 0 then (f_X12_reads_J237 k11 x23 ((22)) m27) else (f_X12_reads_J237 k11 x23 ((21)) m27)) else (f_X12_reads_J237 k11 x23 ((20)) m25)
noncomputable def f_X12_reads_J289 (k11 : Int32 → Int32 → Mm → Option (Int32 × Mm)) (x57 : Int32) (x58 : Int32) (m59 : Mm) : Option (Int32 × Mm) :=
  bdV (f_X12_puts x58 m59) fun m60 => grd (inb x57 7) (bnd (sI m60 17 x57.toNatClampNeg (vp_nar .boolean ((1)))) fun m61 => f_X12_reads_J424 k11 x57 ((1)) m61)
noncomputable def f_X12_reads_J342 (k11 : Int32 → Int32 → Mm → Option (Int32 × Mm)) (x87 : Int32) (x88 : Int32) (m89 : Mm) : Option (Int32 × Mm) :=
  bdV (f_X12_puts x88 m89) fun m90 => grd (inb x87 7) (bnd (sI m90 17 x87.toNatClampNeg (vp_nar .boolean ((0)))) fun m91 => f_X12_reads_J424 k11 x87 ((1)) m91)
noncomputable def f_X12_reads_J324 (k11 : Int32 → Int32 → Mm → Option (Int32 × Mm)) (x62 : Int32) (m63 : Mm) : Option (Int32 × Mm) :=
  bdI (f_X12_isWord ((1111)) m63) fun x65 m64 => if x65 = 0 then (f_X12_reads_J342 k11 x62 ((27)) m64) else (f_X12_reads_J342 k11 x62 ((26)) m64)
noncomputable def f_X12_reads_B379 (k11 : Int32 → Int32 → Mm → Option (Int32 × Mm)) (k379 : Int32 → Int32 → Mm → Option (Int32 × Mm)) (x71 : Int32) (x72 : Int32) (m73 : Mm) : Option (Int32 × Mm) :=
  if x71 ≤ 0 then (f_X12_reads_J424 k11 x71 x72 m73) else (grd (inb x71 7) (if ¬ (gI m73 16 x71.toNatClampNeg) = ((1)) then (f_X12_reads_J424 k11 x71 x72 m73) else (bnd (x71 + (-1)) fun x74 => k379 x74 x72 m73)))
noncomputable def f_X12_reads_J418 (m92 : Mm) : Option (Int32 × Mm) :=
  bdI (f_X12_fails ((1)) m92) fun x94 m93 => grd (bok x94) (some (x94, m93))
noncomputable def f_X12_reads_J399 (x66 : Int32) (m67 : Mm) : Option (Int32 × Mm) :=
  if ¬ x66 = 0 then (f_X12_reads_J418 m67) else (bdI (f_X12_isSign ((59)) m67) fun x69 m68 => if x69 = 0 then (f_X12_reads_J418 m68) else (bdV (f_X12_nextToken  m68) fun m70 => grd (bok ((1))) (some ((1), m70))))
noncomputable def f_X12_reads_J304 (k11 : Int32 → Int32 → Mm → Option (Int32 × Mm)) (x34 : Int32) (x35 : Int32) (m36 : Mm) : Option (Int32 × Mm) :=
  bdI (f_X12_isWord ((1111)) m36) fun x38 m37 => if ¬ x38 = 0 then (f_X12_reads_J324 k11 x34 m37) else (bdI (f_X12_isWord ((423)) m37) fun x40 m39 => if x40 = 0 then (bdI (f_X12_isSign ((41)) m39) fun x42 m41 => if x42 = 0 then (f_X12_reads_J399 x34 m41) else (if x34 ≤ 0 then (f_X12_reads_J399 x34 m41) else (bdV (f_X12_puts ((29)) m41) fun m43 => bnd (x34 + (-1)) fun x44 => lop (fun _ _ _ => none) (f_X12_reads_B379 k11) 4000 x44 x35 m43))) else (f_X12_reads_J324 k11 x34 m39))
noncomputable def f_X12_reads_J263 (k11 : Int32 → Int32 → Mm → Option (Int32 × Mm)) (x29 : Int32) (x30 : Int32) (m31 : Mm) : Option (Int32 × Mm) :=
  grd (inb x29 7) (if ¬ (gI m31 17 x29.toNatClampNeg) = 0 then (f_X12_reads_J304 k11 x29 x30 m31) else (bdI (f_X12_isSign ((60)) m31) fun x33 m32 => if x33 = 0 then (f_X12_reads_J289 k11 x29 ((25)) m32) else (f_X12_reads_J289 k11 x29 ((24)) m32)))
noncomputable def f_X12_reads_B11 (k11 : Int32 → Int32 → Mm → Option (Int32 × Mm)) (x2 : Int32) (x3 : Int32) (m4 : Mm) : Option (Int32 × Mm) :=
  if x3 = 0 then (bdI (f_X12_isSign ((43)) m4) fun x6 m5 => if ¬ x6 = 0 then (f_X12_reads_J206 k11 x2 m5) else (bdI (f_X12_isSign ((45)) m5) fun x8 m7 => if ¬ x8 = 0 then (f_X12_reads_J206 k11 x2 m7) else (bdI (f_X12_isSign ((42)) m7) fun x10 m9 => if x10 = 0 then (bdI (f_X12_isSign ((60)) m9) fun x12 m11 => if ¬ x12 = 0 then (f_X12_reads_J263 k11 x2 x3 m11) else (bdI (f_X12_isSign ((61)) m11) fun x14 m13 => if x14 = 0 then (f_X12_reads_J304 k11 x2 x3 m13) else (f_X12_reads_J263 k11 x2 x3 m13))) else (f_X12_reads_J206 k11 x2 m9)))) else (bdI (f_X12_fact  m4) fun x16 m15 => bdI (f_X12_isWord ((10631)) m15) fun x18 m17 => bdI (f_X12_isSign ((40)) m17) fun x20 m19 => if ¬ x16 = 0 then (f_X12_reads_J65 k11 x2 x3 x16 x18 x20 m19) else (if ¬ x18 = 0 then (f_X12_reads_J65 k11 x2 x3 x16 x18 x20 m19) else (if ¬ x20 = 0 then (f_X12_reads_J65 k11 x2 x3 x16 x18 x20 m19) else (if (gI m19 0 6) = ((2)) then (f_X12_reads_J65 k11 x2 x3 x16 x18 x20 m19) else (bdI (f_X12_fails ((1)) m19) fun x22 m21 => grd (bok x22) (some (x22, m21)))))))
noncomputable def f_X12_reads  (mem : Mm) : Option (Int32 × Mm) :=
  bnd (sI mem 17 0 (vp_nar .boolean ((0)))) fun m1 => lop (fun _ _ _ => none) (f_X12_reads_B11 ) 4000 ((0)) ((1)) m1
theorem dd_X12_reads : yX12_reads.cls = RX12 ∧ yX12_reads.cls ≠ "java/lang/invoke/MethodHandle" ∧ yX12_reads.cls ≠ "java/lang/invoke/VarHandle" ∧ (parseMethodDescriptor yX12_reads.desc).map (fun d => d.parameters.length) = some 0 := by decide +kernel
set_option maxHeartbeats 4000000 in
set_option maxRecDepth 100000 in
theorem k_X12_reads {l : Launch} {ad : Nat → Nat} {cy : Nat → ClassId} {dC : Nat → ClassId} {dI : Nat → Nat → Nat} {ks : (Nat → Nat) × (Nat → Nat)}  {mem : Mm} {r2 : Int32} {mem2 : Mm}  (h : f_X12_reads  mem = some (r2, mem2)) : CtI l Lm ad cy dC dI ks yX12_reads cX12_reads 6 (some .boolean) ({ frames := 2, cells := 0, slots := 0, locals := 42 }) [.ref (ad (0))] mem r2 mem2 := by
  refine CtI.of (cc := cX12_reads) (maxL := 6) (ret := (some .boolean)) (own := RX12) rfl (by decide) (Nat.le_of_ble_eq_true rfl) ?_
  intro p e s m args below meth c A X
  have hts := X.2.2.2.2.1
  have hJ172 : ∀ (k11 : Int32 → Int32 → Mm → Option (Int32 × Mm)) (hk11 : ∀ (x2 : Int32) (x3 : Int32) (m4 : Mm), k11 x2 x3 m4 = some (r2, mem2) → Jd p l e ({ frames := 2, cells := 0, slots := 0, locals := 42 }) s m args below meth c 6 (MQ below (PsI Lm ad cy dC dI r2 mem2 A) args s 0 0 A) A dC dI cy Lm ad m4 11 [(0, .ref (ad (0))), (1, .int (x2)), (2, .int (x3))] []) (x113 : Int32) (x114 : Int32) (m115 : Mm), f_X12_reads_J172 k11 x113 x114 m115 = some (r2, mem2) → Jd p l e ({ frames := 2, cells := 0, slots := 0, locals := 42 }) s m args below meth c 6 (MQ below (PsI Lm ad cy dC dI r2 mem2 A) args s 0 0 A) A dC dI cy Lm ad m115 172 [(0, .ref (ad (0))), (1, .int (x113)), (2, .int (x114))] [] := by
    intro k11 hk11 x113 x114 m115 h
    unfold f_X12_reads_J172 at h
    refine r_aload_n X dX12_reads_172 rfl 0 rfl ?_
    refine r_cVV (As := []) (rest := []) X (fun m9 hg => k_X12_nextToken hg) h (Lm_N Lmk_0 rfl) Lmk_0 rfl (by decide) uw6_204 uw6_206 us4_0 uw1_13 uw6_207 rfl rfl dd_X12_nextToken ⟨Nat.le_of_ble_eq_true rfl, Nat.le_of_ble_eq_true rfl⟩ rfl (Nat.le_of_ble_eq_true rfl) dX12_reads_173 rfl (fun m116 h => ?_)
    refine r_goto (tgt := 11) X dX12_reads_176 (by decide) ?_
    exact r_sub [0, 1, 2] rfl (hk11 x113 x114 m116 h)
  have hJ120 : ∀ (k11 : Int32 → Int32 → Mm → Option (Int32 × Mm)) (hk11 : ∀ (x2 : Int32) (x3 : Int32) (m4 : Mm), k11 x2 x3 m4 = some (r2, mem2) → Jd p l e ({ frames := 2, cells := 0, slots := 0, locals := 42 }) s m args below meth c 6 (MQ below (PsI Lm ad cy dC dI r2 mem2 A) args s 0 0 A) A dC dI cy Lm ad m4 11 [(0, .ref (ad (0))), (1, .int (x2)), (2, .int (x3))] []) (x106 : Int32) (x107 : Int32) (x108 : Int32) (x109 : Int32) (m110 : Mm), f_X12_reads_J120 k11 x106 x107 x108 x109 m110 = some (r2, mem2) → Jd p l e ({ frames := 2, cells := 0, slots := 0, locals := 42 }) s m args below meth c 6 (MQ below (PsI Lm ad cy dC dI r2 mem2 A) args s 0 0 A) A dC dI cy Lm ad m110 120 [(0, .ref (ad (0))), (1, .int (x106)), (2, .int (x107))] [.int (x108), .int (x109), .ref (ad (16))] := by
    intro k11 hk11 x106 x107 x108 x109 m110 h
    unfold f_X12_reads_J120 at h
    refine r_iast X (Lm_N Lmk_16 rfl) Lmk_16 h dX12_reads_120 (fun h => ?_)
    refine r_nmM h (fun m111 h => ?_)
    refine r_aload_n X dX12_reads_121 rfl 0 rfl ?_
    refine r_getF X (k := 28) (of := 17) rfl (Lm_N Lmk_0 rfl) Lmk_0 rfl (by decide) ui_12 (by decide) uw6_8 rfl dX12_reads_122 ?_
    refine r_iload_n X dX12_reads_125 rfl 1 rfl ?_
    refine r_iconst (v := (0)) X dX12_reads_126 (by decide) ?_
    refine r_zast X (Lm_N Lmk_17 rfl) Lmk_17 h dX12_reads_127 (fun h => ?_)
    refine r_nmM h (fun m112 h => ?_)
    refine r_goto (tgt := 172) X dX12_reads_128 (by decide) ?_
    exact r_sub [0, 1, 2] rfl (hJ172 k11 hk11 x106 x107 m112 h)
  have hJ99 : ∀ (k11 : Int32 → Int32 → Mm → Option (Int32 × Mm)) (hk11 : ∀ (x2 : Int32) (x3 : Int32) (m4 : Mm), k11 x2 x3 m4 = some (r2, mem2) → Jd p l e ({ frames := 2, cells := 0, slots := 0, locals := 42 }) s m args below meth c 6 (MQ below (PsI Lm ad cy dC dI r2 mem2 A) args s 0 0 A) A dC dI cy Lm ad m4 11 [(0, .ref (ad (0))), (1, .int (x2)), (2, .int (x3))] []) (x95 : Int32) (x96 : Int32) (x97 : Int32) (x98 : Int32) (m99 : Mm), f_X12_reads_J99 k11 x95 x96 x97 x98 m99 = some (r2, mem2) → Jd p l e ({ frames := 2, cells := 0, slots := 0, locals := 42 }) s m args below meth c 6 (MQ below (PsI Lm ad cy dC dI r2 mem2 A) args s 0 0 A) A dC dI cy Lm ad m99 99 [(0, .ref (ad (0))), (1, .int (x95)), (2, .int (x96)), (4, .int (x97))] [.int (x98), .ref (ad (0))] := by
    intro k11 hk11 x95 x96 x97 x98 m99 h
    unfold f_X12_reads_J99 at h
    refine r_cVV (As := [.int (x98)]) (rest := []) X (fun m9 hg => k_X12_puts hg) h (Lm_N Lmk_0 rfl) Lmk_0 rfl (by decide) uw7_86 uw7_88 us5_6 uw1_13 uw7_89 rfl rfl dd_X12_puts ⟨Nat.le_of_ble_eq_true rfl, Nat.le_of_ble_eq_true rfl⟩ rfl (Nat.le_of_ble_eq_true rfl) dX12_reads_99 rfl (fun m100 h => ?_)
    refine r_inc h (fun x101 e9 h => ?_)
    refine r_iinc (v := x101) (lv2 := [(1, .int (x101)), (0, .ref (ad (0))), (2, .int (x96)), (4, .int (x97))]) X dX12_reads_102 1 rfl (by rw [e9]; rfl) (by decide) rfl ?_
    refine r_aload_n X dX12_reads_105 rfl 1 rfl ?_
    refine r_getF X (k := 27) (of := 16) rfl (Lm_N Lmk_0 rfl) Lmk_0 rfl (by decide) ui_12 (by decide) uw6_7 rfl dX12_reads_106 ?_
    refine r_iload_n X dX12_reads_109 rfl 0 rfl ?_
    refine r_iload X dX12_reads_110 3 rfl ?_
    refine r_if_eq (tgt := 119) X dX12_reads_112 (by decide) h (fun h => ?_) (fun h => ?_)
    · refine r_iconst (v := (2)) X dX12_reads_119 (by decide) ?_
      exact r_sub [1, 0, 2] rfl (hJ120 k11 hk11 x101 x96 ((2)) x101 m100 h)
    · refine r_iconst (v := (1)) X dX12_reads_115 (by decide) ?_
      refine r_goto (tgt := 120) X dX12_reads_116 (by decide) ?_
      exact r_sub [1, 0, 2] rfl (hJ120 k11 hk11 x101 x96 ((1)) x101 m100 h)
  have hJ86 : ∀ (k11 : Int32 → Int32 → Mm → Option (Int32 × Mm)) (hk11 : ∀ (x2 : Int32) (x3 : Int32) (m4 : Mm), k11 x2 x3 m4 = some (r2, mem2) → Jd p l e ({ frames := 2, cells := 0, slots := 0, locals := 42 }) s m args below meth c 6 (MQ below (PsI Lm ad cy dC dI r2 mem2 A) args s 0 0 A) A dC dI cy Lm ad m4 11 [(0, .ref (ad (0))), (1, .int (x2)), (2, .int (x3))] []) (x75 : Int32) (x76 : Int32) (x77 : Int32) (m78 : Mm), f_X12_reads_J86 k11 x75 x76 x77 m78 = some (r2, mem2) → Jd p l e ({ frames := 2, cells := 0, slots := 0, locals := 42 }) s m args below meth c 6 (MQ below (PsI Lm ad cy dC dI r2 mem2 A) args s 0 0 A) A dC dI cy Lm ad m78 86 [(0, .ref (ad (0))), (1, .int (x75)), (2, .int (x76)), (4, .int (x77))] [] := by
    intro k11 hk11 x75 x76 x77 m78 h
    unfold f_X12_reads_J86 at h
    refine r_aload_n X dX12_reads_86 rfl 0 rfl ?_
    refine r_iload X dX12_reads_87 3 rfl ?_
    refine r_if_eq (tgt := 97) X dX12_reads_89 (by decide) h (fun h => ?_) (fun h => ?_)
    · refine r_bipush (v := (28)) X dX12_reads_97 (by decide) ?_
      exact r_sub [0, 1, 2, 3] rfl (hJ99 k11 hk11 x75 x76 x77 ((28)) m78 h)
    · refine r_bipush (v := (30)) X dX12_reads_92 (by decide) ?_
      refine r_goto (tgt := 99) X dX12_reads_94 (by decide) ?_
      exact r_sub [0, 1, 2, 3] rfl (hJ99 k11 hk11 x75 x76 x77 ((30)) m78 h)
  have hJ152 : ∀ (k11 : Int32 → Int32 → Mm → Option (Int32 × Mm)) (hk11 : ∀ (x2 : Int32) (x3 : Int32) (m4 : Mm), k11 x2 x3 m4 = some (r2, mem2) → Jd p l e ({ frames := 2, cells := 0, slots := 0, locals := 42 }) s m args below meth c 6 (MQ below (PsI Lm ad cy dC dI r2 mem2 A) args s 0 0 A) A dC dI cy Lm ad m4 11 [(0, .ref (ad (0))), (1, .int (x2)), (2, .int (x3))] []) (k152 : Int32 → Int32 → Mm → Option (Int32 × Mm)) (hk152 : ∀ (x102 : Int32) (x103 : Int32) (m104 : Mm), k152 x102 x103 m104 = some (r2, mem2) → Jd p l e ({ frames := 2, cells := 0, slots := 0, locals := 42 }) s m args below meth c 6 (MQ below (PsI Lm ad cy dC dI r2 mem2 A) args s 0 0 A) A dC dI cy Lm ad m104 152 [(0, .ref (ad (0))), (1, .int (x102)), (2, .int (x103))] []) (x102 : Int32) (x103 : Int32) (m104 : Mm), f_X12_reads_B152 k11 k152 x102 x103 m104 = some (r2, mem2) → Jd p l e ({ frames := 2, cells := 0, slots := 0, locals := 42 }) s m args below meth c 6 (MQ below (PsI Lm ad cy dC dI r2 mem2 A) args s 0 0 A) A dC dI cy Lm ad m104 152 [(0, .ref (ad (0))), (1, .int (x102)), (2, .int (x103))] [] := by
    intro k11 hk11 k152 hk152 x102 x103 m104 h
    unfold f_X12_reads_B152 at h
    refine r_iload_n X dX12_reads_152 rfl 1 rfl ?_
    refine r_if_le (tgt := 172) X dX12_reads_153 (by decide) h (fun h => ?_) (fun h => ?_)
    · exact r_sub [0, 1, 2] rfl (hJ172 k11 hk11 x102 x103 m104 h)
    · refine r_aload_n X dX12_reads_156 rfl 0 rfl ?_
      refine r_getF X (k := 27) (of := 16) rfl (Lm_N Lmk_0 rfl) Lmk_0 rfl (by decide) ui_12 (by decide) uw6_7 rfl dX12_reads_157 ?_
      refine r_iload_n X dX12_reads_160 rfl 1 rfl ?_
      refine r_iald X (Lm_N Lmk_16 rfl) Lmk_16 h dX12_reads_161 (fun h => ?_)
      refine r_iconst (v := (1)) X dX12_reads_162 (by decide) ?_
      refine r_icmp_ne (tgt := 172) X dX12_reads_163 (by decide) h (fun h => ?_) (fun h => ?_)
      · exact r_sub [0, 1, 2] rfl (hJ172 k11 hk11 x102 x103 m104 h)
      · refine r_inc h (fun x105 e9 h => ?_)
        refine r_iinc (v := x105) (lv2 := [(1, .int (x105)), (0, .ref (ad (0))), (2, .int (x103))]) X dX12_reads_166 1 rfl (by rw [e9]; rfl) (by decide) rfl ?_
        refine r_goto (tgt := 152) X dX12_reads_169 (by decide) ?_
        exact r_sub [1, 0, 2] rfl (hk152 x105 x103 m104 h)
  have hL152 : ∀ (k11 : Int32 → Int32 → Mm → Option (Int32 × Mm)) (hk11 : ∀ (x2 : Int32) (x3 : Int32) (m4 : Mm), k11 x2 x3 m4 = some (r2, mem2) → Jd p l e ({ frames := 2, cells := 0, slots := 0, locals := 42 }) s m args below meth c 6 (MQ below (PsI Lm ad cy dC dI r2 mem2 A) args s 0 0 A) A dC dI cy Lm ad m4 11 [(0, .ref (ad (0))), (1, .int (x2)), (2, .int (x3))] []) (n : Nat), ∀ (x102 : Int32) (x103 : Int32) (m104 : Mm), lop (fun _ _ _ => none) (f_X12_reads_B152 k11) n x102 x103 m104 = some (r2, mem2) → Jd p l e ({ frames := 2, cells := 0, slots := 0, locals := 42 }) s m args below meth c 6 (MQ below (PsI Lm ad cy dC dI r2 mem2 A) args s 0 0 A) A dC dI cy Lm ad m104 152 [(0, .ref (ad (0))), (1, .int (x102)), (2, .int (x103))] [] := by
    intro k11 hk11 n
    induction n with
    | zero => intro _ _ _ h; cases h
    | succ n ih => intro a0 a1 a2 h; exact hJ152 k11 hk11 _ ih a0 a1 a2 h
  have hJ147 : ∀ (k11 : Int32 → Int32 → Mm → Option (Int32 × Mm)) (hk11 : ∀ (x2 : Int32) (x3 : Int32) (m4 : Mm), k11 x2 x3 m4 = some (r2, mem2) → Jd p l e ({ frames := 2, cells := 0, slots := 0, locals := 42 }) s m args below meth c 6 (MQ below (PsI Lm ad cy dC dI r2 mem2 A) args s 0 0 A) A dC dI cy Lm ad m4 11 [(0, .ref (ad (0))), (1, .int (x2)), (2, .int (x3))] []) (x79 : Int32) (x80 : Int32) (m81 : Mm), f_X12_reads_J147 k11 x79 x80 m81 = some (r2, mem2) → Jd p l e ({ frames := 2, cells := 0, slots := 0, locals := 42 }) s m args below meth c 6 (MQ below (PsI Lm ad cy dC dI r2 mem2 A) args s 0 0 A) A dC dI cy Lm ad m81 147 [(0, .ref (ad (0))), (1, .int (x79))] [.int (x80), .ref (ad (0))] := by
    intro k11 hk11 x79 x80 m81 h
    unfold f_X12_reads_J147 at h
    refine r_cVV (As := [.int (x80)]) (rest := []) X (fun m9 hg => k_X12_puts hg) h (Lm_N Lmk_0 rfl) Lmk_0 rfl (by decide) uw7_86 uw7_88 us5_6 uw1_13 uw7_89 rfl rfl dd_X12_puts ⟨Nat.le_of_ble_eq_true rfl, Nat.le_of_ble_eq_true rfl⟩ rfl (Nat.le_of_ble_eq_true rfl) dX12_reads_147 rfl (fun m82 h => ?_)
    refine r_iconst (v := (0)) X dX12_reads_150 (by decide) ?_
    refine r_istore_n (lv2 := [(2, .int ((0))), (0, .ref (ad (0))), (1, .int (x79))]) X dX12_reads_151 rfl (by decide) rfl ?_
    exact r_sub [1, 2, 0] rfl (hL152 k11 hk11 4000 x79 ((0)) m82 h)
  have hJ65 : ∀ (k11 : Int32 → Int32 → Mm → Option (Int32 × Mm)) (hk11 : ∀ (x2 : Int32) (x3 : Int32) (m4 : Mm), k11 x2 x3 m4 = some (r2, mem2) → Jd p l e ({ frames := 2, cells := 0, slots := 0, locals := 42 }) s m args below meth c 6 (MQ below (PsI Lm ad cy dC dI r2 mem2 A) args s 0 0 A) A dC dI cy Lm ad m4 11 [(0, .ref (ad (0))), (1, .int (x2)), (2, .int (x3))] []) (x45 : Int32) (x46 : Int32) (x47 : Int32) (x48 : Int32) (x49 : Int32) (m50 : Mm), f_X12_reads_J65 k11 x45 x46 x47 x48 x49 m50 = some (r2, mem2) → Jd p l e ({ frames := 2, cells := 0, slots := 0, locals := 42 }) s m args below meth c 6 (MQ below (PsI Lm ad cy dC dI r2 mem2 A) args s 0 0 A) A dC dI cy Lm ad m50 65 [(0, .ref (ad (0))), (1, .int (x45)), (2, .int (x46)), (3, .int (x47)), (4, .int (x48)), (5, .int (x49))] [] := by
    intro k11 hk11 x45 x46 x47 x48 x49 m50 h
    unfold f_X12_reads_J65 at h
    refine r_iload_n X dX12_reads_65 rfl 1 rfl ?_
    refine r_iconst (v := (5)) X dX12_reads_66 (by decide) ?_
    refine r_icmp_ne (tgt := 76) X dX12_reads_67 (by decide) h (fun h => ?_) (fun h => ?_)
    · refine r_iload X dX12_reads_76 4 rfl ?_
      refine r_if_ne (tgt := 86) X dX12_reads_78 (by decide) h (fun h => ?_) (fun h => ?_)
      · exact r_sub [0, 1, 2, 4] rfl (hJ86 k11 hk11 x45 x46 x48 m50 h)
      · refine r_iload X dX12_reads_81 5 rfl ?_
        refine r_if_eq (tgt := 131) X dX12_reads_83 (by decide) h (fun h => ?_) (fun h => ?_)
        · refine r_aload_n X dX12_reads_131 rfl 0 rfl ?_
          refine r_iload_n X dX12_reads_132 rfl 3 rfl ?_
          refine r_if_le (tgt := 140) X dX12_reads_133 (by decide) h (fun h => ?_) (fun h => ?_)
          · refine r_bipush (v := (100)) X dX12_reads_140 (by decide) ?_
            refine r_aload_n X dX12_reads_142 rfl 0 rfl ?_
            refine r_getI X (k := 8) (Lm_N Lmk_0 rfl) Lmk_0 rfl (by decide) ui_12 (by decide) uw5_228 rfl dX12_reads_143 ?_
            refine r_iadd X dX12_reads_146 ?_
            exact r_sub [0, 1] rfl (hJ147 k11 hk11 x45 (((100)) + (gI m50 0 8)) m50 h)
          · refine r_iload_n X dX12_reads_136 rfl 3 rfl ?_
            refine r_goto (tgt := 147) X dX12_reads_137 (by decide) ?_
            exact r_sub [0, 1] rfl (hJ147 k11 hk11 x45 x47 m50 h)
        · exact r_sub [0, 1, 2, 4] rfl (hJ86 k11 hk11 x45 x46 x48 m50 h)
    · refine r_aload_n X dX12_reads_70 rfl 0 rfl ?_
      refine r_iconst (v := (5)) X dX12_reads_71 (by decide) ?_
      refine r_cVI (As := [.int ((5))]) (rest := []) X (fun r9 m9 hg => k_X12_fails hg) h (Lm_N Lmk_0 rfl) Lmk_0 rfl (by decide) uw6_223 uw6_225 us4_4 uw1_13 uw6_226 rfl rfl dd_X12_fails ⟨Nat.le_of_ble_eq_true rfl, Nat.le_of_ble_eq_true rfl⟩ rfl (Nat.le_of_ble_eq_true rfl) dX12_reads_72 rfl (fun x52 m51 h => ?_)
      exact r_zret2 X rfl dX12_reads_75 h
  have hJ424 : ∀ (k11 : Int32 → Int32 → Mm → Option (Int32 × Mm)) (hk11 : ∀ (x2 : Int32) (x3 : Int32) (m4 : Mm), k11 x2 x3 m4 = some (r2, mem2) → Jd p l e ({ frames := 2, cells := 0, slots := 0, locals := 42 }) s m args below meth c 6 (MQ below (PsI Lm ad cy dC dI r2 mem2 A) args s 0 0 A) A dC dI cy Lm ad m4 11 [(0, .ref (ad (0))), (1, .int (x2)), (2, .int (x3))] []) (x83 : Int32) (x84 : Int32) (m85 : Mm), f_X12_reads_J424 k11 x83 x84 m85 = some (r2, mem2) → Jd p l e ({ frames := 2, cells := 0, slots := 0, locals := 42 }) s m args below meth c 6 (MQ below (PsI Lm ad cy dC dI r2 mem2 A) args s 0 0 A) A dC dI cy Lm ad m85 424 [(0, .ref (ad (0))), (1, .int (x83)), (2, .int (x84))] [] := by
    intro k11 hk11 x83 x84 m85 h
    unfold f_X12_reads_J424 at h
    refine r_aload_n X dX12_reads_424 rfl 0 rfl ?_
    refine r_cVV (As := []) (rest := []) X (fun m9 hg => k_X12_nextToken hg) h (Lm_N Lmk_0 rfl) Lmk_0 rfl (by decide) uw6_204 uw6_206 us4_0 uw1_13 uw6_207 rfl rfl dd_X12_nextToken ⟨Nat.le_of_ble_eq_true rfl, Nat.le_of_ble_eq_true rfl⟩ rfl (Nat.le_of_ble_eq_true rfl) dX12_reads_425 rfl (fun m86 h => ?_)
    refine r_goto (tgt := 11) X dX12_reads_428 (by decide) ?_
    exact r_sub [0, 1, 2] rfl (hk11 x83 x84 m86 h)
  have hJ237 : ∀ (k11 : Int32 → Int32 → Mm → Option (Int32 × Mm)) (hk11 : ∀ (x2 : Int32) (x3 : Int32) (m4 : Mm), k11 x2 x3 m4 = some (r2, mem2) → Jd p l e ({ frames := 2, cells := 0, slots := 0, locals := 42 }) s m args below meth c 6 (MQ below (PsI Lm ad cy dC dI r2 mem2 A) args s 0 0 A) A dC dI cy Lm ad m4 11 [(0, .ref (ad (0))), (1, .int (x2)), (2, .int (x3))] []) (x53 : Int32) (x54 : Int32) (m55 : Mm), f_X12_reads_J237 k11 x53 x54 m55 = some (r2, mem2) → Jd p l e ({ frames := 2, cells := 0, slots := 0, locals := 42 }) s m args below meth c 6 (MQ below (PsI Lm ad cy dC dI r2 mem2 A) args s 0 0 A) A dC dI cy Lm ad m55 237 [(0, .ref (ad (0))), (1, .int (x53))] [.int (x54), .ref (ad (0))] := by
    intro k11 hk11 x53 x54 m55 h
    unfold f_X12_reads_J237 at h
    refine r_cVV (As := [.int (x54)]) (rest := []) X (fun m9 hg => k_X12_puts hg) h (Lm_N Lmk_0 rfl) Lmk_0 rfl (by decide) uw7_86 uw7_88 us5_6 uw1_13 uw7_89 rfl rfl dd_X12_puts ⟨Nat.le_of_ble_eq_true rfl, Nat.le_of_ble_eq_true rfl⟩ rfl (Nat.le_of_ble_eq_true rfl) dX12_reads_237 rfl (fun m56 h => ?_)
    refine r_iconst (v := (1)) X dX12_reads_240 (by decide) ?_
    refine r_istore_n (lv2 := [(2, .int ((1))), (0, .ref (ad (0))), (1, .int (x53))]) X dX12_reads_241 rfl (by decide) rfl ?_
    refine r_goto (tgt := 424) X dX12_reads_242 (by decide) ?_
    exact r_sub [1, 2, 0] rfl (hJ424 k11 hk11 x53 ((1)) m56 h)
  have hJ206 : ∀ (k11 : Int32 → Int32 → Mm → Option (Int32 × Mm)) (hk11 : ∀ (x2 : Int32) (x3 : Int32) (m4 : Mm), k11 x2 x3 m4 = some (r2, mem2) → Jd p l e ({ frames := 2, cells := 0, slots := 0, locals := 42 }) s m args below meth c 6 (MQ below (PsI Lm ad cy dC dI r2 mem2 A) args s 0 0 A) A dC dI cy Lm ad m4 11 [(0, .ref (ad (0))), (1, .int (x2)), (2, .int (x3))] []) (x23 : Int32) (m24 : Mm), f_X12_reads_J206 k11 x23 m24 = some (r2, mem2) → Jd p l e ({ frames := 2, cells := 0, slots := 0, locals := 42 }) s m args below meth c 6 (MQ below (PsI Lm ad cy dC dI r2 mem2 A) args s 0 0 A) A dC dI cy Lm ad m24 206 [(0, .ref (ad (0))), (1, .int (x23))] [] := by
    intro k11 hk11 x23 m24 h
    unfold f_X12_reads_J206 at h
    refine r_aload_n X dX12_reads_206 rfl 0 rfl ?_
    refine r_aload_n X dX12_reads_207 rfl 0 rfl ?_
    refine r_bipush (v := (43)) X dX12_reads_208 (by decide) ?_
    refine r_cVI (As := [.int ((43))]) (rest := [.ref (ad (0))]) X (fun r9 m9 hg => k_X12_isSign hg) h (Lm_N Lmk_0 rfl) Lmk_0 rfl (by decide) uw7_25 uw7_27 us4_9 uw1_13 uw7_28 rfl rfl dd_X12_isSign ⟨Nat.le_of_ble_eq_true rfl, Nat.le_of_ble_eq_true rfl⟩ rfl (Nat.le_of_ble_eq_true rfl) dX12_reads_210 rfl (fun x26 m25 h => ?_)
    refine r_if_eq (tgt := 221) X dX12_reads_213 (by decide) h (fun h => ?_) (fun h => ?_)
    · refine r_aload_n X dX12_reads_221 rfl 0 rfl ?_
      refine r_bipush (v := (45)) X dX12_reads_222 (by decide) ?_
      refine r_cVI (As := [.int ((45))]) (rest := [.ref (ad (0))]) X (fun r9 m9 hg => k_X12_isSign hg) h (Lm_N Lmk_0 rfl) Lmk_0 rfl (by decide) uw7_25 uw7_27 us4_9 uw1_13 uw7_28 rfl rfl dd_X12_isSign ⟨Nat.le_of_ble_eq_true rfl, Nat.le_of_ble_eq_true rfl⟩ rfl (Nat.le_of_ble_eq_true rfl) dX12_reads_224 rfl (fun x28 m27 h => ?_)
      refine r_if_eq (tgt := 235) X dX12_reads_227 (by decide) h (fun h => ?_) (fun h => ?_)
      · refine r_bipush (v := (22)) X dX12_reads_235 (by decide) ?_
        exact r_sub [0, 1] rfl (hJ237 k11 hk11 x23 ((22)) m27 h)
      · refine r_bipush (v := (21)) X dX12_reads_230 (by decide) ?_
        refine r_goto (tgt := 237) X dX12_reads_232 (by decide) ?_
        exact r_sub [0, 1] rfl (hJ237 k11 hk11 x23 ((21)) m27 h)
    · refine r_bipush (v := (20)) X dX12_reads_216 (by decide) ?_
      refine r_goto (tgt := 237) X dX12_reads_218 (by decide) ?_
      exact r_sub [0, 1] rfl (hJ237 k11 hk11 x23 ((20)) m25 h)
  have hJ289 : ∀ (k11 : Int32 → Int32 → Mm → Option (Int32 × Mm)) (hk11 : ∀ (x2 : Int32) (x3 : Int32) (m4 : Mm), k11 x2 x3 m4 = some (r2, mem2) → Jd p l e ({ frames := 2, cells := 0, slots := 0, locals := 42 }) s m args below meth c 6 (MQ below (PsI Lm ad cy dC dI r2 mem2 A) args s 0 0 A) A dC dI cy Lm ad m4 11 [(0, .ref (ad (0))), (1, .int (x2)), (2, .int (x3))] []) (x57 : Int32) (x58 : Int32) (m59 : Mm), f_X12_reads_J289 k11 x57 x58 m59 = some (r2, mem2) → Jd p l e ({ frames := 2, cells := 0, slots := 0, locals := 42 }) s m args below meth c 6 (MQ below (PsI Lm ad cy dC dI r2 mem2 A) args s 0 0 A) A dC dI cy Lm ad m59 289 [(0, .ref (ad (0))), (1, .int (x57))] [.int (x58), .ref (ad (0))] := by
    intro k11 hk11 x57 x58 m59 h
    unfold f_X12_reads_J289 at h
    refine r_cVV (As := [.int (x58)]) (rest := []) X (fun m9 hg => k_X12_puts hg) h (Lm_N Lmk_0 rfl) Lmk_0 rfl (by decide) uw7_86 uw7_88 us5_6 uw1_13 uw7_89 rfl rfl dd_X12_puts ⟨Nat.le_of_ble_eq_true rfl, Nat.le_of_ble_eq_true rfl⟩ rfl (Nat.le_of_ble_eq_true rfl) dX12_reads_289 rfl (fun m60 h => ?_)
    refine r_aload_n X dX12_reads_292 rfl 0 rfl ?_
    refine r_getF X (k := 28) (of := 17) rfl (Lm_N Lmk_0 rfl) Lmk_0 rfl (by decide) ui_12 (by decide) uw6_8 rfl dX12_reads_293 ?_
    refine r_iload_n X dX12_reads_296 rfl 1 rfl ?_
    refine r_iconst (v := (1)) X dX12_reads_297 (by decide) ?_
    refine r_zast X (Lm_N Lmk_17 rfl) Lmk_17 h dX12_reads_298 (fun h => ?_)
    refine r_nmM h (fun m61 h => ?_)
    refine r_iconst (v := (1)) X dX12_reads_299 (by decide) ?_
    refine r_istore_n (lv2 := [(2, .int ((1))), (0, .ref (ad (0))), (1, .int (x57))]) X dX12_reads_300 rfl (by decide) rfl ?_
    refine r_goto (tgt := 424) X dX12_reads_301 (by decide) ?_
    exact r_sub [1, 2, 0] rfl (hJ424 k11 hk11 x57 ((1)) m61 h)
  have hJ342 : ∀ (k11 : Int32 → Int32 → Mm → Option (Int32 × Mm)) (hk11 : ∀ (x2 : Int32) (x3 : Int32) (m4 : Mm), k11 x2 x3 m4 = some (r2, mem2) → Jd p l e ({ frames := 2, cells := 0, slots := 0, locals := 42 }) s m args below meth c 6 (MQ below (PsI Lm ad cy dC dI r2 mem2 A) args s 0 0 A) A dC dI cy Lm ad m4 11 [(0, .ref (ad (0))), (1, .int (x2)), (2, .int (x3))] []) (x87 : Int32) (x88 : Int32) (m89 : Mm), f_X12_reads_J342 k11 x87 x88 m89 = some (r2, mem2) → Jd p l e ({ frames := 2, cells := 0, slots := 0, locals := 42 }) s m args below meth c 6 (MQ below (PsI Lm ad cy dC dI r2 mem2 A) args s 0 0 A) A dC dI cy Lm ad m89 342 [(0, .ref (ad (0))), (1, .int (x87))] [.int (x88), .ref (ad (0))] := by
    intro k11 hk11 x87 x88 m89 h
    unfold f_X12_reads_J342 at h
    refine r_cVV (As := [.int (x88)]) (rest := []) X (fun m9 hg => k_X12_puts hg) h (Lm_N Lmk_0 rfl) Lmk_0 rfl (by decide) uw7_86 uw7_88 us5_6 uw1_13 uw7_89 rfl rfl dd_X12_puts ⟨Nat.le_of_ble_eq_true rfl, Nat.le_of_ble_eq_true rfl⟩ rfl (Nat.le_of_ble_eq_true rfl) dX12_reads_342 rfl (fun m90 h => ?_)
    refine r_aload_n X dX12_reads_345 rfl 0 rfl ?_
    refine r_getF X (k := 28) (of := 17) rfl (Lm_N Lmk_0 rfl) Lmk_0 rfl (by decide) ui_12 (by decide) uw6_8 rfl dX12_reads_346 ?_
    refine r_iload_n X dX12_reads_349 rfl 1 rfl ?_
    refine r_iconst (v := (0)) X dX12_reads_350 (by decide) ?_
    refine r_zast X (Lm_N Lmk_17 rfl) Lmk_17 h dX12_reads_351 (fun h => ?_)
    refine r_nmM h (fun m91 h => ?_)
    refine r_iconst (v := (1)) X dX12_reads_352 (by decide) ?_
    refine r_istore_n (lv2 := [(2, .int ((1))), (0, .ref (ad (0))), (1, .int (x87))]) X dX12_reads_353 rfl (by decide) rfl ?_
    refine r_goto (tgt := 424) X dX12_reads_354 (by decide) ?_
    exact r_sub [1, 2, 0] rfl (hJ424 k11 hk11 x87 ((1)) m91 h)
  have hJ324 : ∀ (k11 : Int32 → Int32 → Mm → Option (Int32 × Mm)) (hk11 : ∀ (x2 : Int32) (x3 : Int32) (m4 : Mm), k11 x2 x3 m4 = some (r2, mem2) → Jd p l e ({ frames := 2, cells := 0, slots := 0, locals := 42 }) s m args below meth c 6 (MQ below (PsI Lm ad cy dC dI r2 mem2 A) args s 0 0 A) A dC dI cy Lm ad m4 11 [(0, .ref (ad (0))), (1, .int (x2)), (2, .int (x3))] []) (x62 : Int32) (m63 : Mm), f_X12_reads_J324 k11 x62 m63 = some (r2, mem2) → Jd p l e ({ frames := 2, cells := 0, slots := 0, locals := 42 }) s m args below meth c 6 (MQ below (PsI Lm ad cy dC dI r2 mem2 A) args s 0 0 A) A dC dI cy Lm ad m63 324 [(0, .ref (ad (0))), (1, .int (x62))] [] := by
    intro k11 hk11 x62 m63 h
    unfold f_X12_reads_J324 at h
    refine r_aload_n X dX12_reads_324 rfl 0 rfl ?_
    refine r_aload_n X dX12_reads_325 rfl 0 rfl ?_
    refine r_ldc2 (v := 1111) X dX12_reads_326 uw7_15 ?_
    refine r_cVI (As := [.long ((1111))]) (rest := [.ref (ad (0))]) X (fun r9 m9 hg => k_X12_isWord hg) h (Lm_N Lmk_0 rfl) Lmk_0 rfl (by decide) uw6_215 uw6_217 us4_2 uw1_13 uw6_218 rfl rfl dd_X12_isWord ⟨Nat.le_of_ble_eq_true rfl, Nat.le_of_ble_eq_true rfl⟩ rfl (Nat.le_of_ble_eq_true rfl) dX12_reads_329 rfl (fun x65 m64 h => ?_)
    refine r_if_eq (tgt := 340) X dX12_reads_332 (by decide) h (fun h => ?_) (fun h => ?_)
    · refine r_bipush (v := (27)) X dX12_reads_340 (by decide) ?_
      exact r_sub [0, 1] rfl (hJ342 k11 hk11 x62 ((27)) m64 h)
    · refine r_bipush (v := (26)) X dX12_reads_335 (by decide) ?_
      refine r_goto (tgt := 342) X dX12_reads_337 (by decide) ?_
      exact r_sub [0, 1] rfl (hJ342 k11 hk11 x62 ((26)) m64 h)
  have hJ379 : ∀ (k11 : Int32 → Int32 → Mm → Option (Int32 × Mm)) (hk11 : ∀ (x2 : Int32) (x3 : Int32) (m4 : Mm), k11 x2 x3 m4 = some (r2, mem2) → Jd p l e ({ frames := 2, cells := 0, slots := 0, locals := 42 }) s m args below meth c 6 (MQ below (PsI Lm ad cy dC dI r2 mem2 A) args s 0 0 A) A dC dI cy Lm ad m4 11 [(0, .ref (ad (0))), (1, .int (x2)), (2, .int (x3))] []) (k379 : Int32 → Int32 → Mm → Option (Int32 × Mm)) (hk379 : ∀ (x71 : Int32) (x72 : Int32) (m73 : Mm), k379 x71 x72 m73 = some (r2, mem2) → Jd p l e ({ frames := 2, cells := 0, slots := 0, locals := 42 }) s m args below meth c 6 (MQ below (PsI Lm ad cy dC dI r2 mem2 A) args s 0 0 A) A dC dI cy Lm ad m73 379 [(0, .ref (ad (0))), (1, .int (x71)), (2, .int (x72))] []) (x71 : Int32) (x72 : Int32) (m73 : Mm), f_X12_reads_B379 k11 k379 x71 x72 m73 = some (r2, mem2) → Jd p l e ({ frames := 2, cells := 0, slots := 0, locals := 42 }) s m args below meth c 6 (MQ below (PsI Lm ad cy dC dI r2 mem2 A) args s 0 0 A) A dC dI cy Lm ad m73 379 [(0, .ref (ad (0))), (1, .int (x71)), (2, .int (x72))] [] := by
    intro k11 hk11 k379 hk379 x71 x72 m73 h
    unfold f_X12_reads_B379 at h
    refine r_iload_n X dX12_reads_379 rfl 1 rfl ?_
    refine r_if_le (tgt := 424) X dX12_reads_380 (by decide) h (fun h => ?_) (fun h => ?_)
    · exact r_sub [0, 1, 2] rfl (hJ424 k11 hk11 x71 x72 m73 h)
    · refine r_aload_n X dX12_reads_383 rfl 0 rfl ?_
      refine r_getF X (k := 27) (of := 16) rfl (Lm_N Lmk_0 rfl) Lmk_0 rfl (by decide) ui_12 (by decide) uw6_7 rfl dX12_reads_384 ?_
      refine r_iload_n X dX12_reads_387 rfl 1 rfl ?_
      refine r_iald X (Lm_N Lmk_16 rfl) Lmk_16 h dX12_reads_388 (fun h => ?_)
      refine r_iconst (v := (1)) X dX12_reads_389 (by decide) ?_
      refine r_icmp_ne (tgt := 424) X dX12_reads_390 (by decide) h (fun h => ?_) (fun h => ?_)
      · exact r_sub [0, 1, 2] rfl (hJ424 k11 hk11 x71 x72 m73 h)
      · refine r_inc h (fun x74 e9 h => ?_)
        refine r_iinc (v := x74) (lv2 := [(1, .int (x74)), (0, .ref (ad (0))), (2, .int (x72))]) X dX12_reads_393 1 rfl (by rw [e9]; rfl) (by decide) rfl ?_
        refine r_goto (tgt := 379) X dX12_reads_396 (by decide) ?_
        exact r_sub [1, 0, 2] rfl (hk379 x74 x72 m73 h)
  have hL379 : ∀ (k11 : Int32 → Int32 → Mm → Option (Int32 × Mm)) (hk11 : ∀ (x2 : Int32) (x3 : Int32) (m4 : Mm), k11 x2 x3 m4 = some (r2, mem2) → Jd p l e ({ frames := 2, cells := 0, slots := 0, locals := 42 }) s m args below meth c 6 (MQ below (PsI Lm ad cy dC dI r2 mem2 A) args s 0 0 A) A dC dI cy Lm ad m4 11 [(0, .ref (ad (0))), (1, .int (x2)), (2, .int (x3))] []) (n : Nat), ∀ (x71 : Int32) (x72 : Int32) (m73 : Mm), lop (fun _ _ _ => none) (f_X12_reads_B379 k11) n x71 x72 m73 = some (r2, mem2) → Jd p l e ({ frames := 2, cells := 0, slots := 0, locals := 42 }) s m args below meth c 6 (MQ below (PsI Lm ad cy dC dI r2 mem2 A) args s 0 0 A) A dC dI cy Lm ad m73 379 [(0, .ref (ad (0))), (1, .int (x71)), (2, .int (x72))] [] := by
    intro k11 hk11 n
    induction n with
    | zero => intro _ _ _ h; cases h
    | succ n ih => intro a0 a1 a2 h; exact hJ379 k11 hk11 _ ih a0 a1 a2 h
  have hJ418 : ∀ (m92 : Mm), f_X12_reads_J418 m92 = some (r2, mem2) → Jd p l e ({ frames := 2, cells := 0, slots := 0, locals := 42 }) s m args below meth c 6 (MQ below (PsI Lm ad cy dC dI r2 mem2 A) args s 0 0 A) A dC dI cy Lm ad m92 418 [(0, .ref (ad (0)))] [] := by
    intro m92 h
    unfold f_X12_reads_J418 at h
    refine r_aload_n X dX12_reads_418 rfl 0 rfl ?_
    refine r_iconst (v := (1)) X dX12_reads_419 (by decide) ?_
    refine r_cVI (As := [.int ((1))]) (rest := []) X (fun r9 m9 hg => k_X12_fails hg) h (Lm_N Lmk_0 rfl) Lmk_0 rfl (by decide) uw6_223 uw6_225 us4_4 uw1_13 uw6_226 rfl rfl dd_X12_fails ⟨Nat.le_of_ble_eq_true rfl, Nat.le_of_ble_eq_true rfl⟩ rfl (Nat.le_of_ble_eq_true rfl) dX12_reads_420 rfl (fun x94 m93 h => ?_)
    exact r_zret2 X rfl dX12_reads_423 h
  have hJ399 : ∀ (x66 : Int32) (m67 : Mm), f_X12_reads_J399 x66 m67 = some (r2, mem2) → Jd p l e ({ frames := 2, cells := 0, slots := 0, locals := 42 }) s m args below meth c 6 (MQ below (PsI Lm ad cy dC dI r2 mem2 A) args s 0 0 A) A dC dI cy Lm ad m67 399 [(0, .ref (ad (0))), (1, .int (x66))] [] := by
    intro x66 m67 h
    unfold f_X12_reads_J399 at h
    refine r_iload_n X dX12_reads_399 rfl 1 rfl ?_
    refine r_if_ne (tgt := 418) X dX12_reads_400 (by decide) h (fun h => ?_) (fun h => ?_)
    · exact r_sub [0] rfl (hJ418 m67 h)
    · refine r_aload_n X dX12_reads_403 rfl 0 rfl ?_
      refine r_bipush (v := (59)) X dX12_reads_404 (by decide) ?_
      refine r_cVI (As := [.int ((59))]) (rest := []) X (fun r9 m9 hg => k_X12_isSign hg) h (Lm_N Lmk_0 rfl) Lmk_0 rfl (by decide) uw7_25 uw7_27 us4_9 uw1_13 uw7_28 rfl rfl dd_X12_isSign ⟨Nat.le_of_ble_eq_true rfl, Nat.le_of_ble_eq_true rfl⟩ rfl (Nat.le_of_ble_eq_true rfl) dX12_reads_406 rfl (fun x69 m68 h => ?_)
      refine r_if_eq (tgt := 418) X dX12_reads_409 (by decide) h (fun h => ?_) (fun h => ?_)
      · exact r_sub [0] rfl (hJ418 m68 h)
      · refine r_aload_n X dX12_reads_412 rfl 0 rfl ?_
        refine r_cVV (As := []) (rest := []) X (fun m9 hg => k_X12_nextToken hg) h (Lm_N Lmk_0 rfl) Lmk_0 rfl (by decide) uw6_204 uw6_206 us4_0 uw1_13 uw6_207 rfl rfl dd_X12_nextToken ⟨Nat.le_of_ble_eq_true rfl, Nat.le_of_ble_eq_true rfl⟩ rfl (Nat.le_of_ble_eq_true rfl) dX12_reads_413 rfl (fun m70 h => ?_)
        refine r_iconst (v := (1)) X dX12_reads_416 (by decide) ?_
        exact r_zret2 X rfl dX12_reads_417 h
  have hJ304 : ∀ (k11 : Int32 → Int32 → Mm → Option (Int32 × Mm)) (hk11 : ∀ (x2 : Int32) (x3 : Int32) (m4 : Mm), k11 x2 x3 m4 = some (r2, mem2) → Jd p l e ({ frames := 2, cells := 0, slots := 0, locals := 42 }) s m args below meth c 6 (MQ below (PsI Lm ad cy dC dI r2 mem2 A) args s 0 0 A) A dC dI cy Lm ad m4 11 [(0, .ref (ad (0))), (1, .int (x2)), (2, .int (x3))] []) (x34 : Int32) (x35 : Int32) (m36 : Mm), f_X12_reads_J304 k11 x34 x35 m36 = some (r2, mem2) → Jd p l e ({ frames := 2, cells := 0, slots := 0, locals := 42 }) s m args below meth c 6 (MQ below (PsI Lm ad cy dC dI r2 mem2 A) args s 0 0 A) A dC dI cy Lm ad m36 304 [(0, .ref (ad (0))), (1, .int (x34)), (2, .int (x35))] [] := by
    intro k11 hk11 x34 x35 m36 h
    unfold f_X12_reads_J304 at h
    refine r_aload_n X dX12_reads_304 rfl 0 rfl ?_
    refine r_ldc2 (v := 1111) X dX12_reads_305 uw7_15 ?_
    refine r_cVI (As := [.long ((1111))]) (rest := []) X (fun r9 m9 hg => k_X12_isWord hg) h (Lm_N Lmk_0 rfl) Lmk_0 rfl (by decide) uw6_215 uw6_217 us4_2 uw1_13 uw6_218 rfl rfl dd_X12_isWord ⟨Nat.le_of_ble_eq_true rfl, Nat.le_of_ble_eq_true rfl⟩ rfl (Nat.le_of_ble_eq_true rfl) dX12_reads_308 rfl (fun x38 m37 h => ?_)
    refine r_if_ne (tgt := 324) X dX12_reads_311 (by decide) h (fun h => ?_) (fun h => ?_)
    · exact r_sub [0, 1] rfl (hJ324 k11 hk11 x34 m37 h)
    · refine r_aload_n X dX12_reads_314 rfl 0 rfl ?_
      refine r_ldc2 (v := 423) X dX12_reads_315 uw7_16 ?_
      refine r_cVI (As := [.long ((423))]) (rest := []) X (fun r9 m9 hg => k_X12_isWord hg) h (Lm_N Lmk_0 rfl) Lmk_0 rfl (by decide) uw6_215 uw6_217 us4_2 uw1_13 uw6_218 rfl rfl dd_X12_isWord ⟨Nat.le_of_ble_eq_true rfl, Nat.le_of_ble_eq_true rfl⟩ rfl (Nat.le_of_ble_eq_true rfl) dX12_reads_318 rfl (fun x40 m39 h => ?_)
      refine r_if_eq (tgt := 357) X dX12_reads_321 (by decide) h (fun h => ?_) (fun h => ?_)
      · refine r_aload_n X dX12_reads_357 rfl 0 rfl ?_
        refine r_bipush (v := (41)) X dX12_reads_358 (by decide) ?_
        refine r_cVI (As := [.int ((41))]) (rest := []) X (fun r9 m9 hg => k_X12_isSign hg) h (Lm_N Lmk_0 rfl) Lmk_0 rfl (by decide) uw7_25 uw7_27 us4_9 uw1_13 uw7_28 rfl rfl dd_X12_isSign ⟨Nat.le_of_ble_eq_true rfl, Nat.le_of_ble_eq_true rfl⟩ rfl (Nat.le_of_ble_eq_true rfl) dX12_reads_360 rfl (fun x42 m41 h => ?_)
        refine r_if_eq (tgt := 399) X dX12_reads_363 (by decide) h (fun h => ?_) (fun h => ?_)
        · exact r_sub [0, 1] rfl (hJ399 x34 m41 h)
        · refine r_iload_n X dX12_reads_366 rfl 1 rfl ?_
          refine r_if_le (tgt := 399) X dX12_reads_367 (by decide) h (fun h => ?_) (fun h => ?_)
          · exact r_sub [0, 1] rfl (hJ399 x34 m41 h)
          · refine r_aload_n X dX12_reads_370 rfl 0 rfl ?_
            refine r_bipush (v := (29)) X dX12_reads_371 (by decide) ?_
            refine r_cVV (As := [.int ((29))]) (rest := []) X (fun m9 hg => k_X12_puts hg) h (Lm_N Lmk_0 rfl) Lmk_0 rfl (by decide) uw7_86 uw7_88 us5_6 uw1_13 uw7_89 rfl rfl dd_X12_puts ⟨Nat.le_of_ble_eq_true rfl, Nat.le_of_ble_eq_true rfl⟩ rfl (Nat.le_of_ble_eq_true rfl) dX12_reads_373 rfl (fun m43 h => ?_)
            refine r_inc h (fun x44 e9 h => ?_)
            refine r_iinc (v := x44) (lv2 := [(1, .int (x44)), (0, .ref (ad (0))), (2, .int (x35))]) X dX12_reads_376 1 rfl (by rw [e9]; rfl) (by decide) rfl ?_
            exact r_sub [1, 0, 2] rfl (hL379 k11 hk11 4000 x44 x35 m43 h)
      · exact r_sub [0, 1] rfl (hJ324 k11 hk11 x34 m39 h)
  have hJ263 : ∀ (k11 : Int32 → Int32 → Mm → Option (Int32 × Mm)) (hk11 : ∀ (x2 : Int32) (x3 : Int32) (m4 : Mm), k11 x2 x3 m4 = some (r2, mem2) → Jd p l e ({ frames := 2, cells := 0, slots := 0, locals := 42 }) s m args below meth c 6 (MQ below (PsI Lm ad cy dC dI r2 mem2 A) args s 0 0 A) A dC dI cy Lm ad m4 11 [(0, .ref (ad (0))), (1, .int (x2)), (2, .int (x3))] []) (x29 : Int32) (x30 : Int32) (m31 : Mm), f_X12_reads_J263 k11 x29 x30 m31 = some (r2, mem2) → Jd p l e ({ frames := 2, cells := 0, slots := 0, locals := 42 }) s m args below meth c 6 (MQ below (PsI Lm ad cy dC dI r2 mem2 A) args s 0 0 A) A dC dI cy Lm ad m31 263 [(0, .ref (ad (0))), (1, .int (x29)), (2, .int (x30))] [] := by
    intro k11 hk11 x29 x30 m31 h
    unfold f_X12_reads_J263 at h
    refine r_aload_n X dX12_reads_263 rfl 0 rfl ?_
    refine r_getF X (k := 28) (of := 17) rfl (Lm_N Lmk_0 rfl) Lmk_0 rfl (by decide) ui_12 (by decide) uw6_8 rfl dX12_reads_264 ?_
    refine r_iload_n X dX12_reads_267 rfl 1 rfl ?_
    refine r_zald X (Lm_N Lmk_17 rfl) Lmk_17 h dX12_reads_268 (fun h => ?_)
    refine r_if_ne (tgt := 304) X dX12_reads_269 (by decide) h (fun h => ?_) (fun h => ?_)
    · exact r_sub [0, 1, 2] rfl (hJ304 k11 hk11 x29 x30 m31 h)
    · refine r_aload_n X dX12_reads_272 rfl 0 rfl ?_
      refine r_aload_n X dX12_reads_273 rfl 0 rfl ?_
      refine r_bipush (v := (60)) X dX12_reads_274 (by decide) ?_
      refine r_cVI (As := [.int ((60))]) (rest := [.ref (ad (0))]) X (fun r9 m9 hg => k_X12_isSign hg) h (Lm_N Lmk_0 rfl) Lmk_0 rfl (by decide) uw7_25 uw7_27 us4_9 uw1_13 uw7_28 rfl rfl dd_X12_isSign ⟨Nat.le_of_ble_eq_true rfl, Nat.le_of_ble_eq_true rfl⟩ rfl (Nat.le_of_ble_eq_true rfl) dX12_reads_276 rfl (fun x33 m32 h => ?_)
      refine r_if_eq (tgt := 287) X dX12_reads_279 (by decide) h (fun h => ?_) (fun h => ?_)
      · refine r_bipush (v := (25)) X dX12_reads_287 (by decide) ?_
        exact r_sub [0, 1] rfl (hJ289 k11 hk11 x29 ((25)) m32 h)
      · refine r_bipush (v := (24)) X dX12_reads_282 (by decide) ?_
        refine r_goto (tgt := 289) X dX12_reads_284 (by decide) ?_
        exact r_sub [0, 1] rfl (hJ289 k11 hk11 x29 ((24)) m32 h)
  have hJ11 : ∀ (k11 : Int32 → Int32 → Mm → Option (Int32 × Mm)) (hk11 : ∀ (x2 : Int32) (x3 : Int32) (m4 : Mm), k11 x2 x3 m4 = some (r2, mem2) → Jd p l e ({ frames := 2, cells := 0, slots := 0, locals := 42 }) s m args below meth c 6 (MQ below (PsI Lm ad cy dC dI r2 mem2 A) args s 0 0 A) A dC dI cy Lm ad m4 11 [(0, .ref (ad (0))), (1, .int (x2)), (2, .int (x3))] []) (x2 : Int32) (x3 : Int32) (m4 : Mm), f_X12_reads_B11 k11 x2 x3 m4 = some (r2, mem2) → Jd p l e ({ frames := 2, cells := 0, slots := 0, locals := 42 }) s m args below meth c 6 (MQ below (PsI Lm ad cy dC dI r2 mem2 A) args s 0 0 A) A dC dI cy Lm ad m4 11 [(0, .ref (ad (0))), (1, .int (x2)), (2, .int (x3))] [] := by
    intro k11 hk11 x2 x3 m4 h
    unfold f_X12_reads_B11 at h
    refine r_iload_n X dX12_reads_11 rfl 2 rfl ?_
    refine r_if_eq (tgt := 179) X dX12_reads_12 (by decide) h (fun h => ?_) (fun h => ?_)
    · refine r_aload_n X dX12_reads_179 rfl 0 rfl ?_
      refine r_bipush (v := (43)) X dX12_reads_180 (by decide) ?_
      refine r_cVI (As := [.int ((43))]) (rest := []) X (fun r9 m9 hg => k_X12_isSign hg) h (Lm_N Lmk_0 rfl) Lmk_0 rfl (by decide) uw7_25 uw7_27 us4_9 uw1_13 uw7_28 rfl rfl dd_X12_isSign ⟨Nat.le_of_ble_eq_true rfl, Nat.le_of_ble_eq_true rfl⟩ rfl (Nat.le_of_ble_eq_true rfl) dX12_reads_182 rfl (fun x6 m5 h => ?_)
      refine r_if_ne (tgt := 206) X dX12_reads_185 (by decide) h (fun h => ?_) (fun h => ?_)
      · exact r_sub [0, 1] rfl (hJ206 k11 hk11 x2 m5 h)
      · refine r_aload_n X dX12_reads_188 rfl 0 rfl ?_
        refine r_bipush (v := (45)) X dX12_reads_189 (by decide) ?_
        refine r_cVI (As := [.int ((45))]) (rest := []) X (fun r9 m9 hg => k_X12_isSign hg) h (Lm_N Lmk_0 rfl) Lmk_0 rfl (by decide) uw7_25 uw7_27 us4_9 uw1_13 uw7_28 rfl rfl dd_X12_isSign ⟨Nat.le_of_ble_eq_true rfl, Nat.le_of_ble_eq_true rfl⟩ rfl (Nat.le_of_ble_eq_true rfl) dX12_reads_191 rfl (fun x8 m7 h => ?_)
        refine r_if_ne (tgt := 206) X dX12_reads_194 (by decide) h (fun h => ?_) (fun h => ?_)
        · exact r_sub [0, 1] rfl (hJ206 k11 hk11 x2 m7 h)
        · refine r_aload_n X dX12_reads_197 rfl 0 rfl ?_
          refine r_bipush (v := (42)) X dX12_reads_198 (by decide) ?_
          refine r_cVI (As := [.int ((42))]) (rest := []) X (fun r9 m9 hg => k_X12_isSign hg) h (Lm_N Lmk_0 rfl) Lmk_0 rfl (by decide) uw7_25 uw7_27 us4_9 uw1_13 uw7_28 rfl rfl dd_X12_isSign ⟨Nat.le_of_ble_eq_true rfl, Nat.le_of_ble_eq_true rfl⟩ rfl (Nat.le_of_ble_eq_true rfl) dX12_reads_200 rfl (fun x10 m9 h => ?_)
          refine r_if_eq (tgt := 245) X dX12_reads_203 (by decide) h (fun h => ?_) (fun h => ?_)
          · refine r_aload_n X dX12_reads_245 rfl 0 rfl ?_
            refine r_bipush (v := (60)) X dX12_reads_246 (by decide) ?_
            refine r_cVI (As := [.int ((60))]) (rest := []) X (fun r9 m9 hg => k_X12_isSign hg) h (Lm_N Lmk_0 rfl) Lmk_0 rfl (by decide) uw7_25 uw7_27 us4_9 uw1_13 uw7_28 rfl rfl dd_X12_isSign ⟨Nat.le_of_ble_eq_true rfl, Nat.le_of_ble_eq_true rfl⟩ rfl (Nat.le_of_ble_eq_true rfl) dX12_reads_248 rfl (fun x12 m11 h => ?_)
            refine r_if_ne (tgt := 263) X dX12_reads_251 (by decide) h (fun h => ?_) (fun h => ?_)
            · exact r_sub [0, 1, 2] rfl (hJ263 k11 hk11 x2 x3 m11 h)
            · refine r_aload_n X dX12_reads_254 rfl 0 rfl ?_
              refine r_bipush (v := (61)) X dX12_reads_255 (by decide) ?_
              refine r_cVI (As := [.int ((61))]) (rest := []) X (fun r9 m9 hg => k_X12_isSign hg) h (Lm_N Lmk_0 rfl) Lmk_0 rfl (by decide) uw7_25 uw7_27 us4_9 uw1_13 uw7_28 rfl rfl dd_X12_isSign ⟨Nat.le_of_ble_eq_true rfl, Nat.le_of_ble_eq_true rfl⟩ rfl (Nat.le_of_ble_eq_true rfl) dX12_reads_257 rfl (fun x14 m13 h => ?_)
              refine r_if_eq (tgt := 304) X dX12_reads_260 (by decide) h (fun h => ?_) (fun h => ?_)
              · exact r_sub [0, 1, 2] rfl (hJ304 k11 hk11 x2 x3 m13 h)
              · exact r_sub [0, 1, 2] rfl (hJ263 k11 hk11 x2 x3 m13 h)
          · exact r_sub [0, 1] rfl (hJ206 k11 hk11 x2 m9 h)
    · refine r_aload_n X dX12_reads_15 rfl 0 rfl ?_
      refine r_cVI (As := []) (rest := []) X (fun r9 m9 hg => k_X12_fact hg) h (Lm_N Lmk_0 rfl) Lmk_0 rfl (by decide) uw7_76 uw7_78 us5_5 uw1_13 uw7_79 rfl rfl dd_X12_fact ⟨Nat.le_of_ble_eq_true rfl, Nat.le_of_ble_eq_true rfl⟩ rfl (Nat.le_of_ble_eq_true rfl) dX12_reads_16 rfl (fun x16 m15 h => ?_)
      refine r_istore_n (lv2 := [(3, .int (x16)), (0, .ref (ad (0))), (1, .int (x2)), (2, .int (x3))]) X dX12_reads_19 rfl (by decide) rfl ?_
      refine r_aload_n X dX12_reads_20 rfl 1 rfl ?_
      refine r_ldc2 (v := 10631) X dX12_reads_21 uw7_14 ?_
      refine r_cVI (As := [.long ((10631))]) (rest := []) X (fun r9 m9 hg => k_X12_isWord hg) h (Lm_N Lmk_0 rfl) Lmk_0 rfl (by decide) uw6_215 uw6_217 us4_2 uw1_13 uw6_218 rfl rfl dd_X12_isWord ⟨Nat.le_of_ble_eq_true rfl, Nat.le_of_ble_eq_true rfl⟩ rfl (Nat.le_of_ble_eq_true rfl) dX12_reads_24 rfl (fun x18 m17 h => ?_)
      refine r_istore (lv2 := [(4, .int (x18)), (3, .int (x16)), (0, .ref (ad (0))), (1, .int (x2)), (2, .int (x3))]) X dX12_reads_27 (by decide) rfl ?_
      refine r_aload_n X dX12_reads_29 rfl 2 rfl ?_
      refine r_bipush (v := (40)) X dX12_reads_30 (by decide) ?_
      refine r_cVI (As := [.int ((40))]) (rest := []) X (fun r9 m9 hg => k_X12_isSign hg) h (Lm_N Lmk_0 rfl) Lmk_0 rfl (by decide) uw7_25 uw7_27 us4_9 uw1_13 uw7_28 rfl rfl dd_X12_isSign ⟨Nat.le_of_ble_eq_true rfl, Nat.le_of_ble_eq_true rfl⟩ rfl (Nat.le_of_ble_eq_true rfl) dX12_reads_32 rfl (fun x20 m19 h => ?_)
      refine r_istore (lv2 := [(5, .int (x20)), (4, .int (x18)), (3, .int (x16)), (0, .ref (ad (0))), (1, .int (x2)), (2, .int (x3))]) X dX12_reads_35 (by decide) rfl ?_
      refine r_iload_n X dX12_reads_37 rfl 2 rfl ?_
      refine r_if_ne (tgt := 65) X dX12_reads_38 (by decide) h (fun h => ?_) (fun h => ?_)
      · exact r_sub [3, 4, 5, 2, 1, 0] rfl (hJ65 k11 hk11 x2 x3 x16 x18 x20 m19 h)
      · refine r_iload X dX12_reads_41 1 rfl ?_
        refine r_if_ne (tgt := 65) X dX12_reads_43 (by decide) h (fun h => ?_) (fun h => ?_)
        · exact r_sub [3, 4, 5, 2, 1, 0] rfl (hJ65 k11 hk11 x2 x3 x16 x18 x20 m19 h)
        · refine r_iload X dX12_reads_46 0 rfl ?_
          refine r_if_ne (tgt := 65) X dX12_reads_48 (by decide) h (fun h => ?_) (fun h => ?_)
          · exact r_sub [3, 4, 5, 2, 1, 0] rfl (hJ65 k11 hk11 x2 x3 x16 x18 x20 m19 h)
          · refine r_aload_n X dX12_reads_51 rfl 3 rfl ?_
            refine r_getI X (k := 6) (Lm_N Lmk_0 rfl) Lmk_0 rfl (by decide) ui_12 (by decide) uw5_226 rfl dX12_reads_52 ?_
            refine r_iconst (v := (2)) X dX12_reads_55 (by decide) ?_
            refine r_icmp_eq (tgt := 65) X dX12_reads_56 (by decide) h (fun h => ?_) (fun h => ?_)
            · exact r_sub [3, 4, 5, 2, 1, 0] rfl (hJ65 k11 hk11 x2 x3 x16 x18 x20 m19 h)
            · refine r_aload_n X dX12_reads_59 rfl 3 rfl ?_
              refine r_iconst (v := (1)) X dX12_reads_60 (by decide) ?_
              refine r_cVI (As := [.int ((1))]) (rest := []) X (fun r9 m9 hg => k_X12_fails hg) h (Lm_N Lmk_0 rfl) Lmk_0 rfl (by decide) uw6_223 uw6_225 us4_4 uw1_13 uw6_226 rfl rfl dd_X12_fails ⟨Nat.le_of_ble_eq_true rfl, Nat.le_of_ble_eq_true rfl⟩ rfl (Nat.le_of_ble_eq_true rfl) dX12_reads_61 rfl (fun x22 m21 h => ?_)
              exact r_zret2 X rfl dX12_reads_64 h
  have hL11 : ∀ (n : Nat), ∀ (x2 : Int32) (x3 : Int32) (m4 : Mm), lop (fun _ _ _ => none) (f_X12_reads_B11 ) n x2 x3 m4 = some (r2, mem2) → Jd p l e ({ frames := 2, cells := 0, slots := 0, locals := 42 }) s m args below meth c 6 (MQ below (PsI Lm ad cy dC dI r2 mem2 A) args s 0 0 A) A dC dI cy Lm ad m4 11 [(0, .ref (ad (0))), (1, .int (x2)), (2, .int (x3))] [] := by
    intro  n
    induction n with
    | zero => intro _ _ _ h; cases h
    | succ n ih => intro a0 a1 a2 h; exact hJ11  _ ih a0 a1 a2 h
  unfold f_X12_reads at h
  refine r_iconst (v := (0)) X dX12_reads_0 (by decide) ?_
  refine r_istore_n (lv2 := [(1, .int ((0))), (0, .ref (ad (0)))]) X dX12_reads_1 rfl (by decide) rfl ?_
  refine r_iconst (v := (1)) X dX12_reads_2 (by decide) ?_
  refine r_istore_n (lv2 := [(2, .int ((1))), (1, .int ((0))), (0, .ref (ad (0)))]) X dX12_reads_3 rfl (by decide) rfl ?_
  refine r_aload_n X dX12_reads_4 rfl 2 rfl ?_
  refine r_getF X (k := 28) (of := 17) rfl (Lm_N Lmk_0 rfl) Lmk_0 rfl (by decide) ui_12 (by decide) uw6_8 rfl dX12_reads_5 ?_
  refine r_iconst (v := (0)) X dX12_reads_8 (by decide) ?_
  refine r_iconst (v := (0)) X dX12_reads_9 (by decide) ?_
  refine r_zast X (Lm_N Lmk_17 rfl) Lmk_17 (g_in rfl h) dX12_reads_10 (fun h => ?_)
  refine r_nmM h (fun m1 h => ?_)
  exact r_sub [2, 1, 0] rfl (hL11 4000 ((0)) ((1)) m1 h)
noncomputable def f_X12_opens (p1 : Int32) (mem : Mm) : Option Mm :=
  grd (inb p1 7) (bnd (sI mem 19 p1.toNatClampNeg ((0))) fun m1 => grd (inb p1 7) (bnd (sI m1 21 p1.toNatClampNeg ((0))) fun m2 => grd (inb p1 7) (bnd (sI m2 22 p1.toNatClampNeg ((0))) fun m3 => grd (inb p1 7) (bnd (sI m3 23 p1.toNatClampNeg ((20))) fun m4 => grd (inb p1 7) (bnd (sI m4 25 p1.toNatClampNeg ((0))) fun m5 => some m5)))))
theorem dd_X12_opens : yX12_opens.cls = RX12 ∧ yX12_opens.cls ≠ "java/lang/invoke/MethodHandle" ∧ yX12_opens.cls ≠ "java/lang/invoke/VarHandle" ∧ (parseMethodDescriptor yX12_opens.desc).map (fun d => d.parameters.length) = some 1 := by decide +kernel
set_option maxHeartbeats 4000000 in
set_option maxRecDepth 100000 in
theorem k_X12_opens {l : Launch} {ad : Nat → Nat} {cy : Nat → ClassId} {dC : Nat → ClassId} {dI : Nat → Nat → Nat} {ks : (Nat → Nat) × (Nat → Nat)} {p1 : Int32} {mem : Mm} {mem2 : Mm}  (h : f_X12_opens p1 mem = some mem2) : CtV l Lm ad cy dC dI ks yX12_opens cX12_opens 2 none ({ frames := 0, cells := 0, slots := 0, locals := 0 }) [.ref (ad (0)), .int (p1)] mem mem2 := by
  refine CtV.of (cc := cX12_opens) (maxL := 2) (ret := none) (own := RX12) rfl (by decide) (Nat.le_of_ble_eq_true rfl) ?_
  intro p e s m args below meth c A X
  have hts := X.2.2.2.2.1
  unfold f_X12_opens at h
  refine r_aload_n X dX12_opens_0 rfl 0 rfl ?_
  refine r_getF X (k := 30) (of := 19) rfl (Lm_N Lmk_0 rfl) Lmk_0 rfl (by decide) ui_12 (by decide) uw6_10 rfl dX12_opens_1 ?_
  refine r_iload_n X dX12_opens_4 rfl 1 rfl ?_
  refine r_iconst (v := (0)) X dX12_opens_5 (by decide) ?_
  refine r_iast X (Lm_N Lmk_19 rfl) Lmk_19 h dX12_opens_6 (fun h => ?_)
  refine r_nmM h (fun m1 h => ?_)
  refine r_aload_n X dX12_opens_7 rfl 0 rfl ?_
  refine r_getF X (k := 32) (of := 21) rfl (Lm_N Lmk_0 rfl) Lmk_0 rfl (by decide) ui_12 (by decide) uw6_12 rfl dX12_opens_8 ?_
  refine r_iload_n X dX12_opens_11 rfl 1 rfl ?_
  refine r_iconst (v := (0)) X dX12_opens_12 (by decide) ?_
  refine r_iast X (Lm_N Lmk_21 rfl) Lmk_21 h dX12_opens_13 (fun h => ?_)
  refine r_nmM h (fun m2 h => ?_)
  refine r_aload_n X dX12_opens_14 rfl 0 rfl ?_
  refine r_getF X (k := 33) (of := 22) rfl (Lm_N Lmk_0 rfl) Lmk_0 rfl (by decide) ui_12 (by decide) uw6_13 rfl dX12_opens_15 ?_
  refine r_iload_n X dX12_opens_18 rfl 1 rfl ?_
  refine r_iconst (v := (0)) X dX12_opens_19 (by decide) ?_
  refine r_iast X (Lm_N Lmk_22 rfl) Lmk_22 h dX12_opens_20 (fun h => ?_)
  refine r_nmM h (fun m3 h => ?_)
  refine r_aload_n X dX12_opens_21 rfl 0 rfl ?_
  refine r_getF X (k := 34) (of := 23) rfl (Lm_N Lmk_0 rfl) Lmk_0 rfl (by decide) ui_12 (by decide) uw6_14 rfl dX12_opens_22 ?_
  refine r_iload_n X dX12_opens_25 rfl 1 rfl ?_
  refine r_bipush (v := (20)) X dX12_opens_26 (by decide) ?_
  refine r_iast X (Lm_N Lmk_23 rfl) Lmk_23 h dX12_opens_28 (fun h => ?_)
  refine r_nmM h (fun m4 h => ?_)
  refine r_aload_n X dX12_opens_29 rfl 0 rfl ?_
  refine r_getF X (k := 36) (of := 25) rfl (Lm_N Lmk_0 rfl) Lmk_0 rfl (by decide) ui_12 (by decide) uw6_16 rfl dX12_opens_30 ?_
  refine r_iload_n X dX12_opens_33 rfl 1 rfl ?_
  refine r_iconst (v := (0)) X dX12_opens_34 (by decide) ?_
  refine r_iast X (Lm_N Lmk_25 rfl) Lmk_25 h dX12_opens_35 (fun h => ?_)
  refine r_nmM h (fun m5 h => ?_)
  exact r_vret X rfl dX12_opens_36 h
noncomputable def f_X12_sums_J45 (p1 : Int32) (x1 : Int32) (x2 : Int32) (m3 : Mm) : Option Mm :=
  grd (inb x2 7) (bnd (sI m3 22 x2.toNatClampNeg x1) fun m4 => grd (inb p1 7) (bnd (sI m4 25 p1.toNatClampNeg ((0))) fun m5 => some m5))
noncomputable def f_X12_sums (p1 : Int32) (mem : Mm) : Option Mm :=
  grd (inb p1 7) (if ¬ (gI mem 23 p1.toNatClampNeg) = ((21)) then (grd (inb p1 7) (grd (inb p1 7) (f_X12_sums_J45 p1 ((gI mem 22 p1.toNatClampNeg) + (gI mem 24 p1.toNatClampNeg)) p1 mem))) else (grd (inb p1 7) (grd (inb p1 7) (f_X12_sums_J45 p1 ((gI mem 22 p1.toNatClampNeg) - (gI mem 24 p1.toNatClampNeg)) p1 mem))))
theorem dd_X12_sums : yX12_sums.cls = RX12 ∧ yX12_sums.cls ≠ "java/lang/invoke/MethodHandle" ∧ yX12_sums.cls ≠ "java/lang/invoke/VarHandle" ∧ (parseMethodDescriptor yX12_sums.desc).map (fun d => d.parameters.length) = some 1 := by decide +kernel
set_option maxHeartbeats 4000000 in
set_option maxRecDepth 100000 in
theorem k_X12_sums {l : Launch} {ad : Nat → Nat} {cy : Nat → ClassId} {dC : Nat → ClassId} {dI : Nat → Nat → Nat} {ks : (Nat → Nat) × (Nat → Nat)} {p1 : Int32} {mem : Mm} {mem2 : Mm}  (h : f_X12_sums p1 mem = some mem2) : CtV l Lm ad cy dC dI ks yX12_sums cX12_sums 2 none ({ frames := 0, cells := 0, slots := 0, locals := 0 }) [.ref (ad (0)), .int (p1)] mem mem2 := by
  refine CtV.of (cc := cX12_sums) (maxL := 2) (ret := none) (own := RX12) rfl (by decide) (Nat.le_of_ble_eq_true rfl) ?_
  intro p e s m args below meth c A X
  have hts := X.2.2.2.2.1
  have hJ45 : ∀ (x1 : Int32) (x2 : Int32) (m3 : Mm), f_X12_sums_J45 p1 x1 x2 m3 = some mem2 → Jd p l e ({ frames := 0, cells := 0, slots := 0, locals := 0 }) s m args below meth c 2 (MQ below (PsV Lm ad cy dC dI mem2 A) args s 0 0 A) A dC dI cy Lm ad m3 45 [(0, .ref (ad (0))), (1, .int (p1))] [.int (x1), .int (x2), .ref (ad (22))] := by
    intro x1 x2 m3 h
    unfold f_X12_sums_J45 at h
    refine r_iast X (Lm_N Lmk_22 rfl) Lmk_22 h dX12_sums_45 (fun h => ?_)
    refine r_nmM h (fun m4 h => ?_)
    refine r_aload_n X dX12_sums_46 rfl 0 rfl ?_
    refine r_getF X (k := 36) (of := 25) rfl (Lm_N Lmk_0 rfl) Lmk_0 rfl (by decide) ui_12 (by decide) uw6_16 rfl dX12_sums_47 ?_
    refine r_iload_n X dX12_sums_50 rfl 1 rfl ?_
    refine r_iconst (v := (0)) X dX12_sums_51 (by decide) ?_
    refine r_iast X (Lm_N Lmk_25 rfl) Lmk_25 h dX12_sums_52 (fun h => ?_)
    refine r_nmM h (fun m5 h => ?_)
    exact r_vret X rfl dX12_sums_53 h
  unfold f_X12_sums at h
  refine r_aload_n X dX12_sums_0 rfl 0 rfl ?_
  refine r_getF X (k := 33) (of := 22) rfl (Lm_N Lmk_0 rfl) Lmk_0 rfl (by decide) ui_12 (by decide) uw6_13 rfl dX12_sums_1 ?_
  refine r_iload_n X dX12_sums_4 rfl 1 rfl ?_
  refine r_aload_n X dX12_sums_5 rfl 0 rfl ?_
  refine r_getF X (k := 34) (of := 23) rfl (Lm_N Lmk_0 rfl) Lmk_0 rfl (by decide) ui_12 (by decide) uw6_14 rfl dX12_sums_6 ?_
  refine r_iload_n X dX12_sums_9 rfl 1 rfl ?_
  refine r_iald X (Lm_N Lmk_23 rfl) Lmk_23 h dX12_sums_10 (fun h => ?_)
  refine r_bipush (v := (21)) X dX12_sums_11 (by decide) ?_
  refine r_icmp_ne (tgt := 32) X dX12_sums_13 (by decide) h (fun h => ?_) (fun h => ?_)
  · refine r_aload_n X dX12_sums_32 rfl 0 rfl ?_
    refine r_getF X (k := 33) (of := 22) rfl (Lm_N Lmk_0 rfl) Lmk_0 rfl (by decide) ui_12 (by decide) uw6_13 rfl dX12_sums_33 ?_
    refine r_iload_n X dX12_sums_36 rfl 1 rfl ?_
    refine r_iald X (Lm_N Lmk_22 rfl) Lmk_22 h dX12_sums_37 (fun h => ?_)
    refine r_aload_n X dX12_sums_38 rfl 0 rfl ?_
    refine r_getF X (k := 35) (of := 24) rfl (Lm_N Lmk_0 rfl) Lmk_0 rfl (by decide) ui_12 (by decide) uw6_15 rfl dX12_sums_39 ?_
    refine r_iload_n X dX12_sums_42 rfl 1 rfl ?_
    refine r_iald X (Lm_N Lmk_24 rfl) Lmk_24 h dX12_sums_43 (fun h => ?_)
    refine r_iadd X dX12_sums_44 ?_
    exact r_sub [0, 1] rfl (hJ45 ((gI mem 22 p1.toNatClampNeg) + (gI mem 24 p1.toNatClampNeg)) p1 mem h)
  · refine r_aload_n X dX12_sums_16 rfl 0 rfl ?_
    refine r_getF X (k := 33) (of := 22) rfl (Lm_N Lmk_0 rfl) Lmk_0 rfl (by decide) ui_12 (by decide) uw6_13 rfl dX12_sums_17 ?_
    refine r_iload_n X dX12_sums_20 rfl 1 rfl ?_
    refine r_iald X (Lm_N Lmk_22 rfl) Lmk_22 h dX12_sums_21 (fun h => ?_)
    refine r_aload_n X dX12_sums_22 rfl 0 rfl ?_
    refine r_getF X (k := 35) (of := 24) rfl (Lm_N Lmk_0 rfl) Lmk_0 rfl (by decide) ui_12 (by decide) uw6_15 rfl dX12_sums_23 ?_
    refine r_iload_n X dX12_sums_26 rfl 1 rfl ?_
    refine r_iald X (Lm_N Lmk_24 rfl) Lmk_24 h dX12_sums_27 (fun h => ?_)
    refine r_isub X dX12_sums_28 ?_
    refine r_goto (tgt := 45) X dX12_sums_29 (by decide) ?_
    exact r_sub [0, 1] rfl (hJ45 ((gI mem 22 p1.toNatClampNeg) - (gI mem 24 p1.toNatClampNeg)) p1 mem h)
noncomputable def f_X12_tests_J136 (p1 : Int32) (x16 : Int32) (m17 : Mm) : Option Mm :=
  grd (inb p1 7) (bnd (sI m17 18 p1.toNatClampNeg x16) fun m18 => grd (inb p1 7) (bnd (sI m18 21 p1.toNatClampNeg ((0))) fun m19 => grd (inb p1 7) (bnd (sI m19 22 p1.toNatClampNeg ((0))) fun m20 => grd (inb p1 7) (bnd (sI m20 23 p1.toNatClampNeg ((20))) fun m21 => some m21))))
noncomputable def f_X12_tests_J135 (p1 : Int32) (x23 : Int32) (m24 : Mm) : Option Mm :=
  f_X12_tests_J136 p1 x23 m24
noncomputable def f_X12_tests_J130 (p1 : Int32) (m22 : Mm) : Option Mm :=
  f_X12_tests_J135 p1 ((1)) m22
noncomputable def f_X12_tests_J106 (p1 : Int32) (x11 : Int32) (m12 : Mm) : Option Mm :=
  grd (inb p1 7) (if ¬ (gI m12 19 p1.toNatClampNeg) = ((27)) then (f_X12_tests_J136 p1 x11 m12) else (grd (inb p1 7) (if ¬ (gI m12 18 p1.toNatClampNeg) = 0 then (f_X12_tests_J130 p1 m12) else (if x11 = 0 then (f_X12_tests_J135 p1 ((0)) m12) else (f_X12_tests_J130 p1 m12)))))
noncomputable def f_X12_tests_J105 (p1 : Int32) (x14 : Int32) (m15 : Mm) : Option Mm :=
  f_X12_tests_J106 p1 x14 m15
noncomputable def f_X12_tests_J104 (p1 : Int32) (m13 : Mm) : Option Mm :=
  f_X12_tests_J105 p1 ((0)) m13
noncomputable def f_X12_tests_J76 (p1 : Int32) (x7 : Int32) (m8 : Mm) : Option Mm :=
  grd (inb p1 7) (if ¬ (gI m8 19 p1.toNatClampNeg) = ((26)) then (f_X12_tests_J106 p1 x7 m8) else (grd (inb p1 7) (if (gI m8 18 p1.toNatClampNeg) = 0 then (f_X12_tests_J104 p1 m8) else (if x7 = 0 then (f_X12_tests_J104 p1 m8) else (f_X12_tests_J105 p1 ((1)) m8)))))
noncomputable def f_X12_tests_J75 (p1 : Int32) (x9 : Int32) (m10 : Mm) : Option Mm :=
  f_X12_tests_J76 p1 x9 m10
noncomputable def f_X12_tests_J44 (p1 : Int32) (x3 : Int32) (m4 : Mm) : Option Mm :=
  grd (inb p1 7) (if ¬ (gI m4 21 p1.toNatClampNeg) = ((25)) then (f_X12_tests_J76 p1 x3 m4) else (grd (inb p1 7) (grd (inb p1 7) (if ¬ (gI m4 20 p1.toNatClampNeg) = (gI m4 22 p1.toNatClampNeg) then (f_X12_tests_J75 p1 ((0)) m4) else (f_X12_tests_J75 p1 ((1)) m4)))))
noncomputable def f_X12_tests_J43 (p1 : Int32) (x5 : Int32) (m6 : Mm) : Option Mm :=
  f_X12_tests_J44 p1 x5 m6
noncomputable def f_X12_tests (p1 : Int32) (mem : Mm) : Option Mm :=
  bdV (f_X12_sums p1 mem) fun m1 => grd (inb p1 7) (bnd (gI m1 22 p1.toNatClampNeg) fun x2 => grd (inb p1 7) (if ¬ (gI m1 21 p1.toNatClampNeg) = ((24)) then (f_X12_tests_J44 p1 x2 m1) else (grd (inb p1 7) (grd (inb p1 7) (if (gI m1 22 p1.toNatClampNeg) ≤ (gI m1 20 p1.toNatClampNeg) then (f_X12_tests_J43 p1 ((0)) m1) else (f_X12_tests_J43 p1 ((1)) m1))))))
theorem dd_X12_tests : yX12_tests.cls = RX12 ∧ yX12_tests.cls ≠ "java/lang/invoke/MethodHandle" ∧ yX12_tests.cls ≠ "java/lang/invoke/VarHandle" ∧ (parseMethodDescriptor yX12_tests.desc).map (fun d => d.parameters.length) = some 1 := by decide +kernel
set_option maxHeartbeats 4000000 in
set_option maxRecDepth 100000 in
theorem k_X12_tests {l : Launch} {ad : Nat → Nat} {cy : Nat → ClassId} {dC : Nat → ClassId} {dI : Nat → Nat → Nat} {ks : (Nat → Nat) × (Nat → Nat)} {p1 : Int32} {mem : Mm} {mem2 : Mm}  (h : f_X12_tests p1 mem = some mem2) : CtV l Lm ad cy dC dI ks yX12_tests cX12_tests 3 none ({ frames := 1, cells := 0, slots := 0, locals := 21 }) [.ref (ad (0)), .int (p1)] mem mem2 := by
  refine CtV.of (cc := cX12_tests) (maxL := 3) (ret := none) (own := RX12) rfl (by decide) (Nat.le_of_ble_eq_true rfl) ?_
  intro p e s m args below meth c A X
  have hts := X.2.2.2.2.1
  have hJ136 : ∀ (x16 : Int32) (m17 : Mm), f_X12_tests_J136 p1 x16 m17 = some mem2 → Jd p l e ({ frames := 1, cells := 0, slots := 0, locals := 21 }) s m args below meth c 3 (MQ below (PsV Lm ad cy dC dI mem2 A) args s 0 0 A) A dC dI cy Lm ad m17 136 [(0, .ref (ad (0))), (1, .int (p1)), (2, .int (x16))] [] := by
    intro x16 m17 h
    unfold f_X12_tests_J136 at h
    refine r_aload_n X dX12_tests_136 rfl 0 rfl ?_
    refine r_getF X (k := 29) (of := 18) rfl (Lm_N Lmk_0 rfl) Lmk_0 rfl (by decide) ui_12 (by decide) uw6_9 rfl dX12_tests_137 ?_
    refine r_iload_n X dX12_tests_140 rfl 1 rfl ?_
    refine r_iload_n X dX12_tests_141 rfl 2 rfl ?_
    refine r_iast X (Lm_N Lmk_18 rfl) Lmk_18 h dX12_tests_142 (fun h => ?_)
    refine r_nmM h (fun m18 h => ?_)
    refine r_aload_n X dX12_tests_143 rfl 0 rfl ?_
    refine r_getF X (k := 32) (of := 21) rfl (Lm_N Lmk_0 rfl) Lmk_0 rfl (by decide) ui_12 (by decide) uw6_12 rfl dX12_tests_144 ?_
    refine r_iload_n X dX12_tests_147 rfl 1 rfl ?_
    refine r_iconst (v := (0)) X dX12_tests_148 (by decide) ?_
    refine r_iast X (Lm_N Lmk_21 rfl) Lmk_21 h dX12_tests_149 (fun h => ?_)
    refine r_nmM h (fun m19 h => ?_)
    refine r_aload_n X dX12_tests_150 rfl 0 rfl ?_
    refine r_getF X (k := 33) (of := 22) rfl (Lm_N Lmk_0 rfl) Lmk_0 rfl (by decide) ui_12 (by decide) uw6_13 rfl dX12_tests_151 ?_
    refine r_iload_n X dX12_tests_154 rfl 1 rfl ?_
    refine r_iconst (v := (0)) X dX12_tests_155 (by decide) ?_
    refine r_iast X (Lm_N Lmk_22 rfl) Lmk_22 h dX12_tests_156 (fun h => ?_)
    refine r_nmM h (fun m20 h => ?_)
    refine r_aload_n X dX12_tests_157 rfl 0 rfl ?_
    refine r_getF X (k := 34) (of := 23) rfl (Lm_N Lmk_0 rfl) Lmk_0 rfl (by decide) ui_12 (by decide) uw6_14 rfl dX12_tests_158 ?_
    refine r_iload_n X dX12_tests_161 rfl 1 rfl ?_
    refine r_bipush (v := (20)) X dX12_tests_162 (by decide) ?_
    refine r_iast X (Lm_N Lmk_23 rfl) Lmk_23 h dX12_tests_164 (fun h => ?_)
    refine r_nmM h (fun m21 h => ?_)
    exact r_vret X rfl dX12_tests_165 h
  have hJ135 : ∀ (x23 : Int32) (m24 : Mm), f_X12_tests_J135 p1 x23 m24 = some mem2 → Jd p l e ({ frames := 1, cells := 0, slots := 0, locals := 21 }) s m args below meth c 3 (MQ below (PsV Lm ad cy dC dI mem2 A) args s 0 0 A) A dC dI cy Lm ad m24 135 [(0, .ref (ad (0))), (1, .int (p1))] [.int (x23)] := by
    intro x23 m24 h
    unfold f_X12_tests_J135 at h
    refine r_istore_n (lv2 := [(2, .int (x23)), (0, .ref (ad (0))), (1, .int (p1))]) X dX12_tests_135 rfl (by decide) rfl ?_
    exact r_sub [1, 2, 0] rfl (hJ136 x23 m24 h)
  have hJ130 : ∀ (m22 : Mm), f_X12_tests_J130 p1 m22 = some mem2 → Jd p l e ({ frames := 1, cells := 0, slots := 0, locals := 21 }) s m args below meth c 3 (MQ below (PsV Lm ad cy dC dI mem2 A) args s 0 0 A) A dC dI cy Lm ad m22 130 [(0, .ref (ad (0))), (1, .int (p1))] [] := by
    intro m22 h
    unfold f_X12_tests_J130 at h
    refine r_iconst (v := (1)) X dX12_tests_130 (by decide) ?_
    refine r_goto (tgt := 135) X dX12_tests_131 (by decide) ?_
    exact r_sub [0, 1] rfl (hJ135 ((1)) m22 h)
  have hJ106 : ∀ (x11 : Int32) (m12 : Mm), f_X12_tests_J106 p1 x11 m12 = some mem2 → Jd p l e ({ frames := 1, cells := 0, slots := 0, locals := 21 }) s m args below meth c 3 (MQ below (PsV Lm ad cy dC dI mem2 A) args s 0 0 A) A dC dI cy Lm ad m12 106 [(0, .ref (ad (0))), (1, .int (p1)), (2, .int (x11))] [] := by
    intro x11 m12 h
    unfold f_X12_tests_J106 at h
    refine r_aload_n X dX12_tests_106 rfl 0 rfl ?_
    refine r_getF X (k := 30) (of := 19) rfl (Lm_N Lmk_0 rfl) Lmk_0 rfl (by decide) ui_12 (by decide) uw6_10 rfl dX12_tests_107 ?_
    refine r_iload_n X dX12_tests_110 rfl 1 rfl ?_
    refine r_iald X (Lm_N Lmk_19 rfl) Lmk_19 h dX12_tests_111 (fun h => ?_)
    refine r_bipush (v := (27)) X dX12_tests_112 (by decide) ?_
    refine r_icmp_ne (tgt := 136) X dX12_tests_114 (by decide) h (fun h => ?_) (fun h => ?_)
    · exact r_sub [0, 1, 2] rfl (hJ136 x11 m12 h)
    · refine r_aload_n X dX12_tests_117 rfl 0 rfl ?_
      refine r_getF X (k := 29) (of := 18) rfl (Lm_N Lmk_0 rfl) Lmk_0 rfl (by decide) ui_12 (by decide) uw6_9 rfl dX12_tests_118 ?_
      refine r_iload_n X dX12_tests_121 rfl 1 rfl ?_
      refine r_iald X (Lm_N Lmk_18 rfl) Lmk_18 h dX12_tests_122 (fun h => ?_)
      refine r_if_ne (tgt := 130) X dX12_tests_123 (by decide) h (fun h => ?_) (fun h => ?_)
      · exact r_sub [0, 1] rfl (hJ130 m12 h)
      · refine r_iload_n X dX12_tests_126 rfl 2 rfl ?_
        refine r_if_eq (tgt := 134) X dX12_tests_127 (by decide) h (fun h => ?_) (fun h => ?_)
        · refine r_iconst (v := (0)) X dX12_tests_134 (by decide) ?_
          exact r_sub [0, 1] rfl (hJ135 ((0)) m12 h)
        · exact r_sub [0, 1] rfl (hJ130 m12 h)
  have hJ105 : ∀ (x14 : Int32) (m15 : Mm), f_X12_tests_J105 p1 x14 m15 = some mem2 → Jd p l e ({ frames := 1, cells := 0, slots := 0, locals := 21 }) s m args below meth c 3 (MQ below (PsV Lm ad cy dC dI mem2 A) args s 0 0 A) A dC dI cy Lm ad m15 105 [(0, .ref (ad (0))), (1, .int (p1))] [.int (x14)] := by
    intro x14 m15 h
    unfold f_X12_tests_J105 at h
    refine r_istore_n (lv2 := [(2, .int (x14)), (0, .ref (ad (0))), (1, .int (p1))]) X dX12_tests_105 rfl (by decide) rfl ?_
    exact r_sub [1, 2, 0] rfl (hJ106 x14 m15 h)
  have hJ104 : ∀ (m13 : Mm), f_X12_tests_J104 p1 m13 = some mem2 → Jd p l e ({ frames := 1, cells := 0, slots := 0, locals := 21 }) s m args below meth c 3 (MQ below (PsV Lm ad cy dC dI mem2 A) args s 0 0 A) A dC dI cy Lm ad m13 104 [(0, .ref (ad (0))), (1, .int (p1))] [] := by
    intro m13 h
    unfold f_X12_tests_J104 at h
    refine r_iconst (v := (0)) X dX12_tests_104 (by decide) ?_
    exact r_sub [0, 1] rfl (hJ105 ((0)) m13 h)
  have hJ76 : ∀ (x7 : Int32) (m8 : Mm), f_X12_tests_J76 p1 x7 m8 = some mem2 → Jd p l e ({ frames := 1, cells := 0, slots := 0, locals := 21 }) s m args below meth c 3 (MQ below (PsV Lm ad cy dC dI mem2 A) args s 0 0 A) A dC dI cy Lm ad m8 76 [(0, .ref (ad (0))), (1, .int (p1)), (2, .int (x7))] [] := by
    intro x7 m8 h
    unfold f_X12_tests_J76 at h
    refine r_aload_n X dX12_tests_76 rfl 0 rfl ?_
    refine r_getF X (k := 30) (of := 19) rfl (Lm_N Lmk_0 rfl) Lmk_0 rfl (by decide) ui_12 (by decide) uw6_10 rfl dX12_tests_77 ?_
    refine r_iload_n X dX12_tests_80 rfl 1 rfl ?_
    refine r_iald X (Lm_N Lmk_19 rfl) Lmk_19 h dX12_tests_81 (fun h => ?_)
    refine r_bipush (v := (26)) X dX12_tests_82 (by decide) ?_
    refine r_icmp_ne (tgt := 106) X dX12_tests_84 (by decide) h (fun h => ?_) (fun h => ?_)
    · exact r_sub [0, 1, 2] rfl (hJ106 x7 m8 h)
    · refine r_aload_n X dX12_tests_87 rfl 0 rfl ?_
      refine r_getF X (k := 29) (of := 18) rfl (Lm_N Lmk_0 rfl) Lmk_0 rfl (by decide) ui_12 (by decide) uw6_9 rfl dX12_tests_88 ?_
      refine r_iload_n X dX12_tests_91 rfl 1 rfl ?_
      refine r_iald X (Lm_N Lmk_18 rfl) Lmk_18 h dX12_tests_92 (fun h => ?_)
      refine r_if_eq (tgt := 104) X dX12_tests_93 (by decide) h (fun h => ?_) (fun h => ?_)
      · exact r_sub [0, 1] rfl (hJ104 m8 h)
      · refine r_iload_n X dX12_tests_96 rfl 2 rfl ?_
        refine r_if_eq (tgt := 104) X dX12_tests_97 (by decide) h (fun h => ?_) (fun h => ?_)
        · exact r_sub [0, 1] rfl (hJ104 m8 h)
        · refine r_iconst (v := (1)) X dX12_tests_100 (by decide) ?_
          refine r_goto (tgt := 105) X dX12_tests_101 (by decide) ?_
          exact r_sub [0, 1] rfl (hJ105 ((1)) m8 h)
  have hJ75 : ∀ (x9 : Int32) (m10 : Mm), f_X12_tests_J75 p1 x9 m10 = some mem2 → Jd p l e ({ frames := 1, cells := 0, slots := 0, locals := 21 }) s m args below meth c 3 (MQ below (PsV Lm ad cy dC dI mem2 A) args s 0 0 A) A dC dI cy Lm ad m10 75 [(0, .ref (ad (0))), (1, .int (p1))] [.int (x9)] := by
    intro x9 m10 h
    unfold f_X12_tests_J75 at h
    refine r_istore_n (lv2 := [(2, .int (x9)), (0, .ref (ad (0))), (1, .int (p1))]) X dX12_tests_75 rfl (by decide) rfl ?_
    exact r_sub [1, 2, 0] rfl (hJ76 x9 m10 h)
  have hJ44 : ∀ (x3 : Int32) (m4 : Mm), f_X12_tests_J44 p1 x3 m4 = some mem2 → Jd p l e ({ frames := 1, cells := 0, slots := 0, locals := 21 }) s m args below meth c 3 (MQ below (PsV Lm ad cy dC dI mem2 A) args s 0 0 A) A dC dI cy Lm ad m4 44 [(0, .ref (ad (0))), (1, .int (p1)), (2, .int (x3))] [] := by
    intro x3 m4 h
    unfold f_X12_tests_J44 at h
    refine r_aload_n X dX12_tests_44 rfl 0 rfl ?_
    refine r_getF X (k := 32) (of := 21) rfl (Lm_N Lmk_0 rfl) Lmk_0 rfl (by decide) ui_12 (by decide) uw6_12 rfl dX12_tests_45 ?_
    refine r_iload_n X dX12_tests_48 rfl 1 rfl ?_
    refine r_iald X (Lm_N Lmk_21 rfl) Lmk_21 h dX12_tests_49 (fun h => ?_)
    refine r_bipush (v := (25)) X dX12_tests_50 (by decide) ?_
    refine r_icmp_ne (tgt := 76) X dX12_tests_52 (by decide) h (fun h => ?_) (fun h => ?_)
    · exact r_sub [0, 1, 2] rfl (hJ76 x3 m4 h)
    · refine r_aload_n X dX12_tests_55 rfl 0 rfl ?_
      refine r_getF X (k := 31) (of := 20) rfl (Lm_N Lmk_0 rfl) Lmk_0 rfl (by decide) ui_12 (by decide) uw6_11 rfl dX12_tests_56 ?_
      refine r_iload_n X dX12_tests_59 rfl 1 rfl ?_
      refine r_iald X (Lm_N Lmk_20 rfl) Lmk_20 h dX12_tests_60 (fun h => ?_)
      refine r_aload_n X dX12_tests_61 rfl 0 rfl ?_
      refine r_getF X (k := 33) (of := 22) rfl (Lm_N Lmk_0 rfl) Lmk_0 rfl (by decide) ui_12 (by decide) uw6_13 rfl dX12_tests_62 ?_
      refine r_iload_n X dX12_tests_65 rfl 1 rfl ?_
      refine r_iald X (Lm_N Lmk_22 rfl) Lmk_22 h dX12_tests_66 (fun h => ?_)
      refine r_icmp_ne (tgt := 74) X dX12_tests_67 (by decide) h (fun h => ?_) (fun h => ?_)
      · refine r_iconst (v := (0)) X dX12_tests_74 (by decide) ?_
        exact r_sub [0, 1] rfl (hJ75 ((0)) m4 h)
      · refine r_iconst (v := (1)) X dX12_tests_70 (by decide) ?_
        refine r_goto (tgt := 75) X dX12_tests_71 (by decide) ?_
        exact r_sub [0, 1] rfl (hJ75 ((1)) m4 h)
  have hJ43 : ∀ (x5 : Int32) (m6 : Mm), f_X12_tests_J43 p1 x5 m6 = some mem2 → Jd p l e ({ frames := 1, cells := 0, slots := 0, locals := 21 }) s m args below meth c 3 (MQ below (PsV Lm ad cy dC dI mem2 A) args s 0 0 A) A dC dI cy Lm ad m6 43 [(0, .ref (ad (0))), (1, .int (p1))] [.int (x5)] := by
    intro x5 m6 h
    unfold f_X12_tests_J43 at h
    refine r_istore_n (lv2 := [(2, .int (x5)), (0, .ref (ad (0))), (1, .int (p1))]) X dX12_tests_43 rfl (by decide) rfl ?_
    exact r_sub [1, 2, 0] rfl (hJ44 x5 m6 h)
  unfold f_X12_tests at h
  refine r_aload_n X dX12_tests_0 rfl 0 rfl ?_
  refine r_iload_n X dX12_tests_1 rfl 1 rfl ?_
  refine r_cVV (As := [.int (p1)]) (rest := []) X (fun m9 hg => k_X12_sums hg) h (Lm_N Lmk_0 rfl) Lmk_0 rfl (by decide) uw7_201 uw7_203 us6_12 uw1_13 uw7_204 rfl rfl dd_X12_sums ⟨Nat.le_of_ble_eq_true rfl, Nat.le_of_ble_eq_true rfl⟩ rfl (Nat.le_of_ble_eq_true rfl) dX12_tests_2 rfl (fun m1 h => ?_)
  refine r_aload_n X dX12_tests_5 rfl 0 rfl ?_
  refine r_getF X (k := 33) (of := 22) rfl (Lm_N Lmk_0 rfl) Lmk_0 rfl (by decide) ui_12 (by decide) uw6_13 rfl dX12_tests_6 ?_
  refine r_iload_n X dX12_tests_9 rfl 1 rfl ?_
  refine r_iald X (Lm_N Lmk_22 rfl) Lmk_22 h dX12_tests_10 (fun h => ?_)
  refine r_nmI h (fun x2 h => ?_)
  refine r_istore_n (lv2 := [(2, .int (x2)), (0, .ref (ad (0))), (1, .int (p1))]) X dX12_tests_11 rfl (by decide) rfl ?_
  refine r_aload_n X dX12_tests_12 rfl 1 rfl ?_
  refine r_getF X (k := 32) (of := 21) rfl (Lm_N Lmk_0 rfl) Lmk_0 rfl (by decide) ui_12 (by decide) uw6_12 rfl dX12_tests_13 ?_
  refine r_iload_n X dX12_tests_16 rfl 2 rfl ?_
  refine r_iald X (Lm_N Lmk_21 rfl) Lmk_21 h dX12_tests_17 (fun h => ?_)
  refine r_bipush (v := (24)) X dX12_tests_18 (by decide) ?_
  refine r_icmp_ne (tgt := 44) X dX12_tests_20 (by decide) h (fun h => ?_) (fun h => ?_)
  · exact r_sub [1, 2, 0] rfl (hJ44 x2 m1 h)
  · refine r_aload_n X dX12_tests_23 rfl 1 rfl ?_
    refine r_getF X (k := 31) (of := 20) rfl (Lm_N Lmk_0 rfl) Lmk_0 rfl (by decide) ui_12 (by decide) uw6_11 rfl dX12_tests_24 ?_
    refine r_iload_n X dX12_tests_27 rfl 2 rfl ?_
    refine r_iald X (Lm_N Lmk_20 rfl) Lmk_20 h dX12_tests_28 (fun h => ?_)
    refine r_aload_n X dX12_tests_29 rfl 1 rfl ?_
    refine r_getF X (k := 33) (of := 22) rfl (Lm_N Lmk_0 rfl) Lmk_0 rfl (by decide) ui_12 (by decide) uw6_13 rfl dX12_tests_30 ?_
    refine r_iload_n X dX12_tests_33 rfl 2 rfl ?_
    refine r_iald X (Lm_N Lmk_22 rfl) Lmk_22 h dX12_tests_34 (fun h => ?_)
    refine r_icmp_ge (tgt := 42) X dX12_tests_35 (by decide) h (fun h => ?_) (fun h => ?_)
    · refine r_iconst (v := (0)) X dX12_tests_42 (by decide) ?_
      exact r_sub [1, 2] rfl (hJ43 ((0)) m1 h)
    · refine r_iconst (v := (1)) X dX12_tests_38 (by decide) ?_
      refine r_goto (tgt := 43) X dX12_tests_39 (by decide) ?_
      exact r_sub [1, 2] rfl (hJ43 ((1)) m1 h)
