noncomputable def f_X2_knows_J40 (h0 : Nat) (p1 : Int32) (m2 : Mm) : Option (Int32 × Mm) :=
  grd (bok ((1))) (some ((1), m2))
noncomputable def f_X2_knows_J33 (h0 : Nat) (p1 : Int32) (x3 : Int32) (m4 : Mm) : Option (Int32 × Mm) :=
  if ¬ x3 = (gI m4 h0 2) then (grd (bok ((0))) (some ((0), m4))) else (f_X2_knows_J40 h0 p1 m4)
noncomputable def f_X2_knows (h0 : Nat) (p1 : Int32) (mem : Mm) : Option (Int32 × Mm) :=
  if p1 < ((23)) then (grd (bok ((0))) (some ((0), mem))) else (if p1 ≤ ((28)) then (bnd (p1 - ((23))) fun x1 => if x1 = 0 then (f_X2_knows_J40 h0 p1 mem) else (if ((4)) ≤ x1 then (f_X2_knows_J33 h0 p1 ((0)) mem) else (f_X2_knows_J33 h0 p1 ((1)) mem))) else (grd (bok ((0))) (some ((0), mem))))
theorem dd_X2_knows : yX2_knows.cls = RX2 ∧ yX2_knows.cls ≠ "java/lang/invoke/MethodHandle" ∧ yX2_knows.cls ≠ "java/lang/invoke/VarHandle" ∧ (parseMethodDescriptor yX2_knows.desc).map (fun d => d.parameters.length) = some 1 := by decide +kernel
set_option maxHeartbeats 4000000 in
set_option maxRecDepth 100000 in
theorem k_X2_knows {l : Launch} {ad : Nat → Nat} {cy : Nat → ClassId} {dC : Nat → ClassId} {dI : Nat → Nat → Nat} {ks : (Nat → Nat) × (Nat → Nat)} {h0 : Nat} {p1 : Int32} {mem : Mm} {r2 : Int32} {mem2 : Mm} (e0 : Lp.1 h0 = 2) (h : f_X2_knows h0 p1 mem = some (r2, mem2)) : CtI l Lp ad cy dC dI ks yX2_knows cX2_knows 3 (some .boolean) ({ frames := 0, cells := 0, slots := 0, locals := 0 }) [.ref (ad (h0)), .int (p1)] mem r2 mem2 := by
  refine CtI.of (cc := cX2_knows) (maxL := 3) (ret := (some .boolean)) (own := RX2) rfl (by decide) (Nat.le_of_ble_eq_true rfl) ?_
  intro p e s m args below meth c A X
  have hts := X.2.2.2.2.1
  have hJ40 : ∀ (m2 : Mm), f_X2_knows_J40 h0 p1 m2 = some (r2, mem2) → Jd p l e ({ frames := 0, cells := 0, slots := 0, locals := 0 }) s m args below meth c 3 (MQ below (PsI Lp ad cy dC dI r2 mem2 A) args s 0 0 A) A dC dI cy Lp ad m2 40 [] [] := by
    intro m2 h
    unfold f_X2_knows_J40 at h
    refine r_iconst (v := (1)) X dX2_knows_40 (by decide) ?_
    refine r_goto (tgt := 45) X dX2_knows_41 (by decide) ?_
    exact r_zret2 X rfl dX2_knows_45 h
  have hJ33 : ∀ (x3 : Int32) (m4 : Mm), f_X2_knows_J33 h0 p1 x3 m4 = some (r2, mem2) → Jd p l e ({ frames := 0, cells := 0, slots := 0, locals := 0 }) s m args below meth c 3 (MQ below (PsI Lp ad cy dC dI r2 mem2 A) args s 0 0 A) A dC dI cy Lp ad m4 33 [(0, .ref (ad (h0)))] [.int (x3)] := by
    intro x3 m4 h
    unfold f_X2_knows_J33 at h
    refine r_aload_n X dX2_knows_33 rfl 0 rfl ?_
    refine r_getI X (k := 2) (Lp_N e0 rfl) e0 rfl (by decide) ui_2 (by decide) uw1_101 rfl dX2_knows_34 ?_
    refine r_icmp_ne (tgt := 44) X dX2_knows_37 (by decide) h (fun h => ?_) (fun h => ?_)
    · refine r_iconst (v := (0)) X dX2_knows_44 (by decide) ?_
      exact r_zret2 X rfl dX2_knows_45 h
    · exact r_sub [] rfl (hJ40 m4 h)
  unfold f_X2_knows at h
  refine r_iload_n X dX2_knows_0 rfl 1 rfl ?_
  refine r_bipush (v := (23)) X dX2_knows_1 (by decide) ?_
  refine r_icmp_lt (tgt := 12) X dX2_knows_3 (by decide) h (fun h => ?_) (fun h => ?_)
  · refine r_iconst (v := (0)) X dX2_knows_12 (by decide) ?_
    exact r_zret2 X rfl dX2_knows_13 h
  · refine r_iload_n X dX2_knows_6 rfl 1 rfl ?_
    refine r_bipush (v := (28)) X dX2_knows_7 (by decide) ?_
    refine r_icmp_le (tgt := 14) X dX2_knows_9 (by decide) h (fun h => ?_) (fun h => ?_)
    · refine r_iload_n X dX2_knows_14 rfl 1 rfl ?_
      refine r_bipush (v := (23)) X dX2_knows_15 (by decide) ?_
      refine r_isub X dX2_knows_17 ?_
      refine r_nmI h (fun x1 h => ?_)
      refine r_istore_n (lv2 := [(2, .int (x1)), (0, .ref (ad (h0))), (1, .int (p1))]) X dX2_knows_18 rfl (by decide) rfl ?_
      refine r_iload_n X dX2_knows_19 rfl 0 rfl ?_
      refine r_if_eq (tgt := 40) X dX2_knows_20 (by decide) h (fun h => ?_) (fun h => ?_)
      · exact r_sub [] rfl (hJ40 mem h)
      · refine r_iload_n X dX2_knows_23 rfl 0 rfl ?_
        refine r_iconst (v := (4)) X dX2_knows_24 (by decide) ?_
        refine r_icmp_ge (tgt := 32) X dX2_knows_25 (by decide) h (fun h => ?_) (fun h => ?_)
        · refine r_iconst (v := (0)) X dX2_knows_32 (by decide) ?_
          exact r_sub [1] rfl (hJ33 ((0)) mem h)
        · refine r_iconst (v := (1)) X dX2_knows_28 (by decide) ?_
          refine r_goto (tgt := 33) X dX2_knows_29 (by decide) ?_
          exact r_sub [1] rfl (hJ33 ((1)) mem h)
    · refine r_iconst (v := (0)) X dX2_knows_12 (by decide) ?_
      exact r_zret2 X rfl dX2_knows_13 h
noncomputable def f_X2_add (h0 : Nat) (p1 : Int32) (mem : Mm) : Option Mm :=
  if (gI mem h0 3) < 0 then (some mem) else (if ((1000)) ≤ (gI mem h0 3) then (some mem) else (grd (inb (gI mem h0 3) (Lp.2.1 (h0 + 1))) (bnd (sI mem (h0 + 1) (gI mem h0 3).toNatClampNeg p1) fun m1 => bnd (sI m1 h0 3 ((gI m1 h0 3) + ((1)))) fun m2 => some m2)))
theorem dd_X2_add : yX2_add.cls = RX2 ∧ yX2_add.cls ≠ "java/lang/invoke/MethodHandle" ∧ yX2_add.cls ≠ "java/lang/invoke/VarHandle" ∧ (parseMethodDescriptor yX2_add.desc).map (fun d => d.parameters.length) = some 1 := by decide +kernel
set_option maxHeartbeats 4000000 in
set_option maxRecDepth 100000 in
theorem k_X2_add {l : Launch} {ad : Nat → Nat} {cy : Nat → ClassId} {dC : Nat → ClassId} {dI : Nat → Nat → Nat} {ks : (Nat → Nat) × (Nat → Nat)} {h0 : Nat} {p1 : Int32} {mem : Mm} {mem2 : Mm} (e0 : Lp.1 h0 = 2) (h : f_X2_add h0 p1 mem = some mem2) : CtV l Lp ad cy dC dI ks yX2_add cX2_add 2 none ({ frames := 0, cells := 0, slots := 0, locals := 0 }) [.ref (ad (h0)), .int (p1)] mem mem2 := by
  refine CtV.of (cc := cX2_add) (maxL := 2) (ret := none) (own := RX2) rfl (by decide) (Nat.le_of_ble_eq_true rfl) ?_
  intro p e s m args below meth c A X
  have hts := X.2.2.2.2.1
  unfold f_X2_add at h
  refine r_aload_n X dX2_add_0 rfl 0 rfl ?_
  refine r_getI X (k := 3) (Lp_N e0 rfl) e0 rfl (by decide) ui_2 (by decide) uw1_103 rfl dX2_add_1 ?_
  refine r_if_lt (tgt := 37) X dX2_add_4 (by decide) h (fun h => ?_) (fun h => ?_)
  · exact r_vret X rfl dX2_add_37 h
  · refine r_aload_n X dX2_add_7 rfl 0 rfl ?_
    refine r_getI X (k := 3) (Lp_N e0 rfl) e0 rfl (by decide) ui_2 (by decide) uw1_103 rfl dX2_add_8 ?_
    refine r_sipush (v := (1000)) X dX2_add_11 (by decide) ?_
    refine r_icmp_ge (tgt := 37) X dX2_add_14 (by decide) h (fun h => ?_) (fun h => ?_)
    · exact r_vret X rfl dX2_add_37 h
    · refine r_aload_n X dX2_add_17 rfl 0 rfl ?_
      refine r_getF X (k := 0) (of := 1) rfl (Lp_N e0 rfl) e0 rfl (by decide) ui_2 (by decide) uw1_99 rfl dX2_add_18 ?_
      refine r_aload_n X dX2_add_21 rfl 0 rfl ?_
      refine r_getI X (k := 3) (Lp_N e0 rfl) e0 rfl (by decide) ui_2 (by decide) uw1_103 rfl dX2_add_22 ?_
      refine r_iload_n X dX2_add_25 rfl 1 rfl ?_
      refine r_iast X (Lp_N (Lp_2_0 e0) rfl) (Lp_2_0 e0) h dX2_add_26 (fun h => ?_)
      refine r_nmM h (fun m1 h => ?_)
      refine r_aload_n X dX2_add_27 rfl 0 rfl ?_
      refine r_dup X dX2_add_28 rfl ?_
      refine r_getI X (k := 3) (Lp_N e0 rfl) e0 rfl (by decide) ui_2 (by decide) uw1_103 rfl dX2_add_29 ?_
      refine r_iconst (v := (1)) X dX2_add_32 (by decide) ?_
      refine r_iadd X dX2_add_33 ?_
      refine r_putI X (k := 3) (Lp_N e0 rfl) e0 rfl (by decide) ui_2 (by decide) uw1_103 tyX2_ok nmX2 rfl rfl rfl dX2_add_34 ?_
      refine r_nmM h (fun m2 h => ?_)
      exact r_vret X rfl dX2_add_37 h
noncomputable def f_X10_copyFrom_B10 (h0 : Nat) (h1 : Nat) (k10 : Int32 → Mm → Option Mm) (x2 : Int32) (m3 : Mm) : Option Mm :=
  if (gI m3 h0 3) ≤ x2 then (some m3) else (if ((40)) ≤ x2 then (some m3) else (grd (inb x2 (Lp.2.1 (h1 + 1))) (grd (inb x2 (Lp.2.1 (h0 + 1))) (bnd (sI m3 (h0 + 1) x2.toNatClampNeg (gI m3 (h1 + 1) x2.toNatClampNeg)) fun m4 => grd (inb x2 (Lp.2.1 (h1 + 2))) (grd (inb x2 (Lp.2.1 (h0 + 2))) (bnd (sI m4 (h0 + 2) x2.toNatClampNeg (gI m4 (h1 + 2) x2.toNatClampNeg)) fun m5 => grd (inb x2 (Lp.2.1 (h1 + 3))) (grd (inb x2 (Lp.2.1 (h0 + 3))) (bnd (sI m5 (h0 + 3) x2.toNatClampNeg (gI m5 (h1 + 3) x2.toNatClampNeg)) fun m6 => bnd (x2 + (1)) fun x7 => k10 x7 m6))))))))
noncomputable def f_X10_copyFrom (h0 : Nat) (h1 : Nat) (mem : Mm) : Option Mm :=
  bnd (sI mem h0 3 (gI mem h1 3)) fun m1 => lop (fun _ _ => none) (f_X10_copyFrom_B10 h0 h1 ) 4000 ((0)) m1
theorem dd_X10_copyFrom : yX10_copyFrom.cls = RX10 ∧ yX10_copyFrom.cls ≠ "java/lang/invoke/MethodHandle" ∧ yX10_copyFrom.cls ≠ "java/lang/invoke/VarHandle" ∧ (parseMethodDescriptor yX10_copyFrom.desc).map (fun d => d.parameters.length) = some 1 := by decide +kernel
set_option maxHeartbeats 4000000 in
set_option maxRecDepth 100000 in
theorem k_X10_copyFrom {l : Launch} {ad : Nat → Nat} {cy : Nat → ClassId} {dC : Nat → ClassId} {dI : Nat → Nat → Nat} {ks : (Nat → Nat) × (Nat → Nat)} {h0 : Nat} {h1 : Nat} {mem : Mm} {mem2 : Mm} (e0 : Lp.1 h0 = 10) (e1 : Lp.1 h1 = 10) (h : f_X10_copyFrom h0 h1 mem = some mem2) : CtV l Lp ad cy dC dI ks yX10_copyFrom cX10_copyFrom 3 none ({ frames := 0, cells := 0, slots := 0, locals := 0 }) [.ref (ad (h0)), .ref (ad (h1))] mem mem2 := by
  refine CtV.of (cc := cX10_copyFrom) (maxL := 3) (ret := none) (own := RX10) rfl (by decide) (Nat.le_of_ble_eq_true rfl) ?_
  intro p e s m args below meth c A X
  have hts := X.2.2.2.2.1
  have hJ10 : ∀ (k10 : Int32 → Mm → Option Mm) (hk10 : ∀ (x2 : Int32) (m3 : Mm), k10 x2 m3 = some mem2 → Jd p l e ({ frames := 0, cells := 0, slots := 0, locals := 0 }) s m args below meth c 3 (MQ below (PsV Lp ad cy dC dI mem2 A) args s 0 0 A) A dC dI cy Lp ad m3 10 [(0, .ref (ad (h0))), (1, .ref (ad (h1))), (2, .int (x2))] []) (x2 : Int32) (m3 : Mm), f_X10_copyFrom_B10 h0 h1 k10 x2 m3 = some mem2 → Jd p l e ({ frames := 0, cells := 0, slots := 0, locals := 0 }) s m args below meth c 3 (MQ below (PsV Lp ad cy dC dI mem2 A) args s 0 0 A) A dC dI cy Lp ad m3 10 [(0, .ref (ad (h0))), (1, .ref (ad (h1))), (2, .int (x2))] [] := by
    intro k10 hk10 x2 m3 h
    unfold f_X10_copyFrom_B10 at h
    refine r_iload_n X dX10_copyFrom_10 rfl 2 rfl ?_
    refine r_aload_n X dX10_copyFrom_11 rfl 0 rfl ?_
    refine r_getI X (k := 3) (Lp_N e0 rfl) e0 rfl (by decide) ui_10 (by decide) uw2_44 rfl dX10_copyFrom_12 ?_
    refine r_icmp_ge (tgt := 66) X dX10_copyFrom_15 (by decide) h (fun h => ?_) (fun h => ?_)
    · exact r_vret X rfl dX10_copyFrom_66 h
    · refine r_iload_n X dX10_copyFrom_18 rfl 2 rfl ?_
      refine r_bipush (v := (40)) X dX10_copyFrom_19 (by decide) ?_
      refine r_icmp_ge (tgt := 66) X dX10_copyFrom_21 (by decide) h (fun h => ?_) (fun h => ?_)
      · exact r_vret X rfl dX10_copyFrom_66 h
      · refine r_aload_n X dX10_copyFrom_24 rfl 0 rfl ?_
        refine r_getF X (k := 0) (of := 1) rfl (Lp_N e0 rfl) e0 rfl (by decide) ui_10 (by decide) uw2_38 rfl dX10_copyFrom_25 ?_
        refine r_iload_n X dX10_copyFrom_28 rfl 2 rfl ?_
        refine r_aload_n X dX10_copyFrom_29 rfl 1 rfl ?_
        refine r_getF X (k := 0) (of := 1) rfl (Lp_N e1 rfl) e1 rfl (by decide) ui_10 (by decide) uw2_38 rfl dX10_copyFrom_30 ?_
        refine r_iload_n X dX10_copyFrom_33 rfl 2 rfl ?_
        refine r_iald X (Lp_N (Lp_10_0 e1) rfl) (Lp_10_0 e1) h dX10_copyFrom_34 (fun h => ?_)
        refine r_iast X (Lp_N (Lp_10_0 e0) rfl) (Lp_10_0 e0) h dX10_copyFrom_35 (fun h => ?_)
        refine r_nmM h (fun m4 h => ?_)
        refine r_aload_n X dX10_copyFrom_36 rfl 0 rfl ?_
        refine r_getF X (k := 1) (of := 2) rfl (Lp_N e0 rfl) e0 rfl (by decide) ui_10 (by decide) uw2_40 rfl dX10_copyFrom_37 ?_
        refine r_iload_n X dX10_copyFrom_40 rfl 2 rfl ?_
        refine r_aload_n X dX10_copyFrom_41 rfl 1 rfl ?_
        refine r_getF X (k := 1) (of := 2) rfl (Lp_N e1 rfl) e1 rfl (by decide) ui_10 (by decide) uw2_40 rfl dX10_copyFrom_42 ?_
        refine r_iload_n X dX10_copyFrom_45 rfl 2 rfl ?_
        refine r_iald X (Lp_N (Lp_10_1 e1) rfl) (Lp_10_1 e1) h dX10_copyFrom_46 (fun h => ?_)
        refine r_iast X (Lp_N (Lp_10_1 e0) rfl) (Lp_10_1 e0) h dX10_copyFrom_47 (fun h => ?_)
        refine r_nmM h (fun m5 h => ?_)
        refine r_aload_n X dX10_copyFrom_48 rfl 0 rfl ?_
        refine r_getF X (k := 2) (of := 3) rfl (Lp_N e0 rfl) e0 rfl (by decide) ui_10 (by decide) uw2_42 rfl dX10_copyFrom_49 ?_
        refine r_iload_n X dX10_copyFrom_52 rfl 2 rfl ?_
        refine r_aload_n X dX10_copyFrom_53 rfl 1 rfl ?_
        refine r_getF X (k := 2) (of := 3) rfl (Lp_N e1 rfl) e1 rfl (by decide) ui_10 (by decide) uw2_42 rfl dX10_copyFrom_54 ?_
        refine r_iload_n X dX10_copyFrom_57 rfl 2 rfl ?_
        refine r_iald X (Lp_N (Lp_10_2 e1) rfl) (Lp_10_2 e1) h dX10_copyFrom_58 (fun h => ?_)
        refine r_iast X (Lp_N (Lp_10_2 e0) rfl) (Lp_10_2 e0) h dX10_copyFrom_59 (fun h => ?_)
        refine r_nmM h (fun m6 h => ?_)
        refine r_inc h (fun x7 e9 h => ?_)
        refine r_iinc (v := x7) (lv2 := [(2, .int (x7)), (0, .ref (ad (h0))), (1, .ref (ad (h1)))]) X dX10_copyFrom_60 2 rfl (by rw [e9]; rfl) (by decide) rfl ?_
        refine r_goto (tgt := 10) X dX10_copyFrom_63 (by decide) ?_
        exact r_sub [1, 2, 0] rfl (hk10 x7 m6 h)
  have hL10 : ∀ (n : Nat), ∀ (x2 : Int32) (m3 : Mm), lop (fun _ _ => none) (f_X10_copyFrom_B10 h0 h1 ) n x2 m3 = some mem2 → Jd p l e ({ frames := 0, cells := 0, slots := 0, locals := 0 }) s m args below meth c 3 (MQ below (PsV Lp ad cy dC dI mem2 A) args s 0 0 A) A dC dI cy Lp ad m3 10 [(0, .ref (ad (h0))), (1, .ref (ad (h1))), (2, .int (x2))] [] := by
    intro  n
    induction n with
    | zero => intro _ _ h; cases h
    | succ n ih => intro a0 a1 h; exact hJ10  _ ih a0 a1 h
  unfold f_X10_copyFrom at h
  refine r_aload_n X dX10_copyFrom_0 rfl 0 rfl ?_
  refine r_aload_n X dX10_copyFrom_1 rfl 1 rfl ?_
  refine r_getI X (k := 3) (Lp_N e1 rfl) e1 rfl (by decide) ui_10 (by decide) uw2_44 rfl dX10_copyFrom_2 ?_
  refine r_putI X (k := 3) (Lp_N e0 rfl) e0 rfl (by decide) ui_10 (by decide) uw2_44 tyX10_ok nmX10 rfl rfl rfl dX10_copyFrom_5 ?_
  refine r_nmM h (fun m1 h => ?_)
  refine r_iconst (v := (0)) X dX10_copyFrom_8 (by decide) ?_
  refine r_istore_n (lv2 := [(2, .int ((0))), (0, .ref (ad (h0))), (1, .ref (ad (h1)))]) X dX10_copyFrom_9 rfl (by decide) rfl ?_
  exact r_sub [1, 2, 0] rfl (hL10 4000 ((0)) m1 h)
noncomputable def f_X6_copyFrom_B2 (h0 : Nat) (h1 : Nat) (k2 : Int32 → Mm → Option Mm) (x1 : Int32) (m2 : Mm) : Option Mm :=
  if ((12)) ≤ x1 then (bnd (sI m2 h0 1 (gI m2 h1 1)) fun m3 => bnd (sI m3 h0 2 (gI m3 h1 2)) fun m4 => bnd (sI m4 h0 3 (gI m4 h1 3)) fun m5 => bnd (sI m5 h0 4 (gI m5 h1 4)) fun m6 => bnd (sI m6 h0 5 (gI m6 h1 5)) fun m7 => some m7) else (grd (inb x1 (Lp.2.1 (h1 + 1))) (grd (inb x1 (Lp.2.1 (h0 + 1))) (bnd (sI m2 (h0 + 1) x1.toNatClampNeg (gI m2 (h1 + 1) x1.toNatClampNeg)) fun m8 => bnd (x1 + (1)) fun x9 => k2 x9 m8)))
noncomputable def f_X6_copyFrom (h0 : Nat) (h1 : Nat) (mem : Mm) : Option Mm :=
  lop (fun _ _ => none) (f_X6_copyFrom_B2 h0 h1 ) 4000 ((0)) mem
theorem dd_X6_copyFrom : yX6_copyFrom.cls = RX6 ∧ yX6_copyFrom.cls ≠ "java/lang/invoke/MethodHandle" ∧ yX6_copyFrom.cls ≠ "java/lang/invoke/VarHandle" ∧ (parseMethodDescriptor yX6_copyFrom.desc).map (fun d => d.parameters.length) = some 1 := by decide +kernel
set_option maxHeartbeats 4000000 in
set_option maxRecDepth 100000 in
theorem k_X6_copyFrom {l : Launch} {ad : Nat → Nat} {cy : Nat → ClassId} {dC : Nat → ClassId} {dI : Nat → Nat → Nat} {ks : (Nat → Nat) × (Nat → Nat)} {h0 : Nat} {h1 : Nat} {mem : Mm} {mem2 : Mm} (e0 : Lp.1 h0 = 6) (e1 : Lp.1 h1 = 6) (h : f_X6_copyFrom h0 h1 mem = some mem2) : CtV l Lp ad cy dC dI ks yX6_copyFrom cX6_copyFrom 3 none ({ frames := 0, cells := 0, slots := 0, locals := 0 }) [.ref (ad (h0)), .ref (ad (h1))] mem mem2 := by
  refine CtV.of (cc := cX6_copyFrom) (maxL := 3) (ret := none) (own := RX6) rfl (by decide) (Nat.le_of_ble_eq_true rfl) ?_
  intro p e s m args below meth c A X
  have hts := X.2.2.2.2.1
  have hJ2 : ∀ (k2 : Int32 → Mm → Option Mm) (hk2 : ∀ (x1 : Int32) (m2 : Mm), k2 x1 m2 = some mem2 → Jd p l e ({ frames := 0, cells := 0, slots := 0, locals := 0 }) s m args below meth c 3 (MQ below (PsV Lp ad cy dC dI mem2 A) args s 0 0 A) A dC dI cy Lp ad m2 2 [(0, .ref (ad (h0))), (1, .ref (ad (h1))), (2, .int (x1))] []) (x1 : Int32) (m2 : Mm), f_X6_copyFrom_B2 h0 h1 k2 x1 m2 = some mem2 → Jd p l e ({ frames := 0, cells := 0, slots := 0, locals := 0 }) s m args below meth c 3 (MQ below (PsV Lp ad cy dC dI mem2 A) args s 0 0 A) A dC dI cy Lp ad m2 2 [(0, .ref (ad (h0))), (1, .ref (ad (h1))), (2, .int (x1))] [] := by
    intro k2 hk2 x1 m2 h
    unfold f_X6_copyFrom_B2 at h
    refine r_iload_n X dX6_copyFrom_2 rfl 2 rfl ?_
    refine r_bipush (v := (12)) X dX6_copyFrom_3 (by decide) ?_
    refine r_icmp_ge (tgt := 26) X dX6_copyFrom_5 (by decide) h (fun h => ?_) (fun h => ?_)
    · refine r_aload_n X dX6_copyFrom_26 rfl 0 rfl ?_
      refine r_aload_n X dX6_copyFrom_27 rfl 1 rfl ?_
      refine r_getI X (k := 1) (Lp_N e1 rfl) e1 rfl (by decide) ui_6 (by decide) uw2_7 rfl dX6_copyFrom_28 ?_
      refine r_putI X (k := 1) (Lp_N e0 rfl) e0 rfl (by decide) ui_6 (by decide) uw2_7 tyX6_ok nmX6 rfl rfl rfl dX6_copyFrom_31 ?_
      refine r_nmM h (fun m3 h => ?_)
      refine r_aload_n X dX6_copyFrom_34 rfl 0 rfl ?_
      refine r_aload_n X dX6_copyFrom_35 rfl 1 rfl ?_
      refine r_getI X (k := 2) (Lp_N e1 rfl) e1 rfl (by decide) ui_6 (by decide) uw2_9 rfl dX6_copyFrom_36 ?_
      refine r_putI X (k := 2) (Lp_N e0 rfl) e0 rfl (by decide) ui_6 (by decide) uw2_9 tyX6_ok nmX6 rfl rfl rfl dX6_copyFrom_39 ?_
      refine r_nmM h (fun m4 h => ?_)
      refine r_aload_n X dX6_copyFrom_42 rfl 0 rfl ?_
      refine r_aload_n X dX6_copyFrom_43 rfl 1 rfl ?_
      refine r_getI X (k := 3) (Lp_N e1 rfl) e1 rfl (by decide) ui_6 (by decide) uw2_11 rfl dX6_copyFrom_44 ?_
      refine r_putI X (k := 3) (Lp_N e0 rfl) e0 rfl (by decide) ui_6 (by decide) uw2_11 tyX6_ok nmX6 rfl rfl rfl dX6_copyFrom_47 ?_
      refine r_nmM h (fun m5 h => ?_)
      refine r_aload_n X dX6_copyFrom_50 rfl 0 rfl ?_
      refine r_aload_n X dX6_copyFrom_51 rfl 1 rfl ?_
      refine r_getI X (k := 4) (Lp_N e1 rfl) e1 rfl (by decide) ui_6 (by decide) uw2_14 rfl dX6_copyFrom_52 ?_
      refine r_putI X (k := 4) (Lp_N e0 rfl) e0 rfl (by decide) ui_6 (by decide) uw2_14 tyX6_ok nmX6 rfl rfl rfl dX6_copyFrom_55 ?_
      refine r_nmM h (fun m6 h => ?_)
      refine r_aload_n X dX6_copyFrom_58 rfl 0 rfl ?_
      refine r_aload_n X dX6_copyFrom_59 rfl 1 rfl ?_
      refine r_getI X (k := 5) (Lp_N e1 rfl) e1 rfl (by decide) ui_6 (by decide) uw2_17 rfl dX6_copyFrom_60 ?_
      refine r_putI X (k := 5) (Lp_N e0 rfl) e0 rfl (by decide) ui_6 (by decide) uw2_17 tyX6_ok nmX6 rfl rfl rfl dX6_copyFrom_63 ?_
      refine r_nmM h (fun m7 h => ?_)
      exact r_vret X rfl dX6_copyFrom_66 h
    · refine r_aload_n X dX6_copyFrom_8 rfl 0 rfl ?_
      refine r_getF X (k := 0) (of := 1) rfl (Lp_N e0 rfl) e0 rfl (by decide) ui_6 (by decide) uw2_4 rfl dX6_copyFrom_9 ?_
      refine r_iload_n X dX6_copyFrom_12 rfl 2 rfl ?_
      refine r_aload_n X dX6_copyFrom_13 rfl 1 rfl ?_
      refine r_getF X (k := 0) (of := 1) rfl (Lp_N e1 rfl) e1 rfl (by decide) ui_6 (by decide) uw2_4 rfl dX6_copyFrom_14 ?_
      refine r_iload_n X dX6_copyFrom_17 rfl 2 rfl ?_
      refine r_iald X (Lp_N (Lp_6_0 e1) rfl) (Lp_6_0 e1) h dX6_copyFrom_18 (fun h => ?_)
      refine r_iast X (Lp_N (Lp_6_0 e0) rfl) (Lp_6_0 e0) h dX6_copyFrom_19 (fun h => ?_)
      refine r_nmM h (fun m8 h => ?_)
      refine r_inc h (fun x9 e9 h => ?_)
      refine r_iinc (v := x9) (lv2 := [(2, .int (x9)), (0, .ref (ad (h0))), (1, .ref (ad (h1)))]) X dX6_copyFrom_20 2 rfl (by rw [e9]; rfl) (by decide) rfl ?_
      refine r_goto (tgt := 2) X dX6_copyFrom_23 (by decide) ?_
      exact r_sub [1, 2, 0] rfl (hk2 x9 m8 h)
  have hL2 : ∀ (n : Nat), ∀ (x1 : Int32) (m2 : Mm), lop (fun _ _ => none) (f_X6_copyFrom_B2 h0 h1 ) n x1 m2 = some mem2 → Jd p l e ({ frames := 0, cells := 0, slots := 0, locals := 0 }) s m args below meth c 3 (MQ below (PsV Lp ad cy dC dI mem2 A) args s 0 0 A) A dC dI cy Lp ad m2 2 [(0, .ref (ad (h0))), (1, .ref (ad (h1))), (2, .int (x1))] [] := by
    intro  n
    induction n with
    | zero => intro _ _ h; cases h
    | succ n ih => intro a0 a1 h; exact hJ2  _ ih a0 a1 h
  unfold f_X6_copyFrom at h
  refine r_iconst (v := (0)) X dX6_copyFrom_0 (by decide) ?_
  refine r_istore_n (lv2 := [(2, .int ((0))), (0, .ref (ad (h0))), (1, .ref (ad (h1)))]) X dX6_copyFrom_1 rfl (by decide) rfl ?_
  exact r_sub [1, 2, 0] rfl (hL2 4000 ((0)) mem h)
noncomputable def f_X3_lay (h0 : Nat) (h1 : Nat) (h2 : Nat) (h3 : Nat) (mem : Mm) : Option Mm :=
  bdV (f_X6_copyFrom (h0 + 1) h1 mem) fun m1 => bdV (f_X10_copyFrom (h0 + 3) h2 m1) fun m2 => bdV (f_X0_copyFrom (h0 + 7) h3 m2) fun m3 => grd (bok ((1))) (bnd (sI m3 h0 3 ((1))) fun m4 => some m4)
theorem dd_X3_lay : yX3_lay.cls = RX3 ∧ yX3_lay.cls ≠ "java/lang/invoke/MethodHandle" ∧ yX3_lay.cls ≠ "java/lang/invoke/VarHandle" ∧ (parseMethodDescriptor yX3_lay.desc).map (fun d => d.parameters.length) = some 3 := by decide +kernel
set_option maxHeartbeats 4000000 in
set_option maxRecDepth 100000 in
theorem k_X3_lay {l : Launch} {ad : Nat → Nat} {cy : Nat → ClassId} {dC : Nat → ClassId} {dI : Nat → Nat → Nat} {ks : (Nat → Nat) × (Nat → Nat)} {h0 : Nat} {h1 : Nat} {h2 : Nat} {h3 : Nat} {mem : Mm} {mem2 : Mm} (e0 : Lp.1 h0 = 3) (e1 : Lp.1 h1 = 6) (e2 : Lp.1 h2 = 10) (e3 : Lp.1 h3 = 0) (h : f_X3_lay h0 h1 h2 h3 mem = some mem2) : CtV l Lp ad cy dC dI ks yX3_lay cX3_lay 4 none ({ frames := 1, cells := 0, slots := 0, locals := 22 }) [.ref (ad (h0)), .ref (ad (h1)), .ref (ad (h2)), .ref (ad (h3))] mem mem2 := by
  refine CtV.of (cc := cX3_lay) (maxL := 4) (ret := none) (own := RX3) rfl (by decide) (Nat.le_of_ble_eq_true rfl) ?_
  intro p e s m args below meth c A X
  have hts := X.2.2.2.2.1
  unfold f_X3_lay at h
  refine r_aload_n X dX3_lay_0 rfl 0 rfl ?_
  refine r_getF X (k := 0) (of := 1) rfl (Lp_N e0 rfl) e0 rfl (by decide) ui_3 (by decide) uw2_168 rfl dX3_lay_1 ?_
  refine r_aload_n X dX3_lay_4 rfl 1 rfl ?_
  refine r_cVV (As := [.ref (ad (h1))]) (rest := []) X (fun m9 hg => k_X6_copyFrom (Lp_3_0 e0) e1 hg) h (Lp_N (Lp_3_0 e0) rfl) (Lp_3_0 e0) rfl (by decide) uw5_36 uw4_66 uw4_67 uw1_7 uw4_68 rfl rfl dd_X6_copyFrom ⟨Nat.le_of_ble_eq_true rfl, Nat.le_of_ble_eq_true rfl⟩ rfl (Nat.le_of_ble_eq_true rfl) dX3_lay_5 rfl (fun m1 h => ?_)
  refine r_aload_n X dX3_lay_8 rfl 0 rfl ?_
  refine r_getF X (k := 1) (of := 3) rfl (Lp_N e0 rfl) e0 rfl (by decide) ui_3 (by decide) uw2_169 rfl dX3_lay_9 ?_
  refine r_aload_n X dX3_lay_12 rfl 2 rfl ?_
  refine r_cVV (As := [.ref (ad (h2))]) (rest := []) X (fun m9 hg => k_X10_copyFrom (Lp_3_1 e0) e2 hg) h (Lp_N (Lp_3_1 e0) rfl) (Lp_3_1 e0) rfl (by decide) uw5_37 uw4_31 uw4_32 uw1_8 uw4_33 rfl rfl dd_X10_copyFrom ⟨Nat.le_of_ble_eq_true rfl, Nat.le_of_ble_eq_true rfl⟩ rfl (Nat.le_of_ble_eq_true rfl) dX3_lay_13 rfl (fun m2 h => ?_)
  refine r_aload_n X dX3_lay_16 rfl 0 rfl ?_
  refine r_getF X (k := 2) (of := 7) rfl (Lp_N e0 rfl) e0 rfl (by decide) ui_3 (by decide) uw2_170 rfl dX3_lay_17 ?_
  refine r_aload_n X dX3_lay_20 rfl 3 rfl ?_
  refine r_cVV (As := [.ref (ad (h3))]) (rest := []) X (fun m9 hg => k_X0_copyFrom (Lp_3_2 e0) e3 hg) h (Lp_N (Lp_3_2 e0) rfl) (Lp_3_2 e0) rfl (by decide) uw5_38 uw5_39 uw5_40 uw1_9 uw5_41 rfl rfl dd_X0_copyFrom ⟨Nat.le_of_ble_eq_true rfl, Nat.le_of_ble_eq_true rfl⟩ rfl (Nat.le_of_ble_eq_true rfl) dX3_lay_21 rfl (fun m3 h => ?_)
  refine r_aload_n X dX3_lay_24 rfl 0 rfl ?_
  refine r_iconst (v := (1)) X dX3_lay_25 (by decide) ?_
  refine r_gz h (fun hz h => ?_)
  refine r_putZ X (k := 3) (Lp_N e0 rfl) e0 rfl (by decide) ui_3 (by decide) uw2_171 tyX3_ok nmX3 rfl rfl hz rfl dX3_lay_26 ?_
  refine r_nmM h (fun m4 h => ?_)
  exact r_vret X rfl dX3_lay_29 h
noncomputable def f_X3_bringBack (h0 : Nat) (h1 : Nat) (h2 : Nat) (h3 : Nat) (mem : Mm) : Option Mm :=
  bdV (f_X6_copyFrom h1 (h0 + 1) mem) fun m1 => bdV (f_X10_copyFrom h2 (h0 + 3) m1) fun m2 => bdV (f_X0_copyFrom h3 (h0 + 7) m2) fun m3 => some m3
theorem dd_X3_bringBack : yX3_bringBack.cls = RX3 ∧ yX3_bringBack.cls ≠ "java/lang/invoke/MethodHandle" ∧ yX3_bringBack.cls ≠ "java/lang/invoke/VarHandle" ∧ (parseMethodDescriptor yX3_bringBack.desc).map (fun d => d.parameters.length) = some 3 := by decide +kernel
set_option maxHeartbeats 4000000 in
set_option maxRecDepth 100000 in
theorem k_X3_bringBack {l : Launch} {ad : Nat → Nat} {cy : Nat → ClassId} {dC : Nat → ClassId} {dI : Nat → Nat → Nat} {ks : (Nat → Nat) × (Nat → Nat)} {h0 : Nat} {h1 : Nat} {h2 : Nat} {h3 : Nat} {mem : Mm} {mem2 : Mm} (e0 : Lp.1 h0 = 3) (e1 : Lp.1 h1 = 6) (e2 : Lp.1 h2 = 10) (e3 : Lp.1 h3 = 0) (h : f_X3_bringBack h0 h1 h2 h3 mem = some mem2) : CtV l Lp ad cy dC dI ks yX3_bringBack cX3_bringBack 4 none ({ frames := 1, cells := 0, slots := 0, locals := 22 }) [.ref (ad (h0)), .ref (ad (h1)), .ref (ad (h2)), .ref (ad (h3))] mem mem2 := by
  refine CtV.of (cc := cX3_bringBack) (maxL := 4) (ret := none) (own := RX3) rfl (by decide) (Nat.le_of_ble_eq_true rfl) ?_
  intro p e s m args below meth c A X
  have hts := X.2.2.2.2.1
  unfold f_X3_bringBack at h
  refine r_aload_n X dX3_bringBack_0 rfl 1 rfl ?_
  refine r_aload_n X dX3_bringBack_1 rfl 0 rfl ?_
  refine r_getF X (k := 0) (of := 1) rfl (Lp_N e0 rfl) e0 rfl (by decide) ui_3 (by decide) uw2_168 rfl dX3_bringBack_2 ?_
  refine r_cVV (As := [.ref (ad (h0 + 1))]) (rest := []) X (fun m9 hg => k_X6_copyFrom e1 (Lp_3_0 e0) hg) h (Lp_N e1 rfl) e1 rfl (by decide) uw5_36 uw4_66 uw4_67 uw1_7 uw4_68 rfl rfl dd_X6_copyFrom ⟨Nat.le_of_ble_eq_true rfl, Nat.le_of_ble_eq_true rfl⟩ rfl (Nat.le_of_ble_eq_true rfl) dX3_bringBack_5 rfl (fun m1 h => ?_)
  refine r_aload_n X dX3_bringBack_8 rfl 2 rfl ?_
  refine r_aload_n X dX3_bringBack_9 rfl 0 rfl ?_
  refine r_getF X (k := 1) (of := 3) rfl (Lp_N e0 rfl) e0 rfl (by decide) ui_3 (by decide) uw2_169 rfl dX3_bringBack_10 ?_
  refine r_cVV (As := [.ref (ad (h0 + 3))]) (rest := []) X (fun m9 hg => k_X10_copyFrom e2 (Lp_3_1 e0) hg) h (Lp_N e2 rfl) e2 rfl (by decide) uw5_37 uw4_31 uw4_32 uw1_8 uw4_33 rfl rfl dd_X10_copyFrom ⟨Nat.le_of_ble_eq_true rfl, Nat.le_of_ble_eq_true rfl⟩ rfl (Nat.le_of_ble_eq_true rfl) dX3_bringBack_13 rfl (fun m2 h => ?_)
  refine r_aload_n X dX3_bringBack_16 rfl 3 rfl ?_
  refine r_aload_n X dX3_bringBack_17 rfl 0 rfl ?_
  refine r_getF X (k := 2) (of := 7) rfl (Lp_N e0 rfl) e0 rfl (by decide) ui_3 (by decide) uw2_170 rfl dX3_bringBack_18 ?_
  refine r_cVV (As := [.ref (ad (h0 + 7))]) (rest := []) X (fun m9 hg => k_X0_copyFrom e3 (Lp_3_2 e0) hg) h (Lp_N e3 rfl) e3 rfl (by decide) uw5_38 uw5_39 uw5_40 uw1_9 uw5_41 rfl rfl dd_X0_copyFrom ⟨Nat.le_of_ble_eq_true rfl, Nat.le_of_ble_eq_true rfl⟩ rfl (Nat.le_of_ble_eq_true rfl) dX3_bringBack_21 rfl (fun m3 h => ?_)
  exact r_vret X rfl dX3_bringBack_24 h
noncomputable def f_X4_learn_J103 (h0 : Nat) (h1 : Nat) (p2 : Int32) (k41 : Int32 → Int32 → Int32 → Mm → Option Mm) (k51 : Int32 → Int32 → Int32 → Int32 → Mm → Option Mm) (x24 : Int32) (x25 : Int32) (x26 : Int32) (x27 : Int32) (m28 : Mm) : Option Mm :=
  bnd (x27 + (1)) fun x29 => k51 x24 x25 x26 x29 m28
noncomputable def f_X4_learn_J109 (h0 : Nat) (h1 : Nat) (p2 : Int32) (k41 : Int32 → Int32 → Int32 → Mm → Option Mm) (x19 : Int32) (x20 : Int32) (x21 : Int32) (m22 : Mm) : Option Mm :=
  bnd (x21 + (1)) fun x23 => k41 x19 x20 x23 m22
noncomputable def f_X4_learn_B51 (h0 : Nat) (h1 : Nat) (p2 : Int32) (k41 : Int32 → Int32 → Int32 → Mm → Option Mm) (k51 : Int32 → Int32 → Int32 → Int32 → Mm → Option Mm) (x12 : Int32) (x13 : Int32) (x14 : Int32) (x15 : Int32) (m16 : Mm) : Option Mm :=
  if x12 ≤ x15 then (f_X4_learn_J109 h0 h1 p2 k41 x12 x13 x14 m16) else (if (Int32.ofNat (Lp.2.1 h1)) ≤ x15 then (f_X4_learn_J109 h0 h1 p2 k41 x12 x13 x14 m16) else (if (gI m16 h0 1) < 0 then (f_X4_learn_J103 h0 h1 p2 k41 k51 x12 x13 x14 x15 m16) else (if ((18)) ≤ (gI m16 h0 1) then (f_X4_learn_J103 h0 h1 p2 k41 k51 x12 x13 x14 x15 m16) else (grd (inb x15 (Lp.2.1 h1)) (grd (inb (gI m16 h0 1) (Lp.2.1 (h0 + 1))) (bnd (sI m16 (h0 + 1) (gI m16 h0 1).toNatClampNeg (gI m16 h1 x15.toNatClampNeg)) fun m17 => bnd (sI m17 h0 1 ((gI m17 h0 1) + ((1)))) fun m18 => f_X4_learn_J103 h0 h1 p2 k41 k51 x12 x13 x14 x15 m18))))))
noncomputable def f_X4_learn_B41 (h0 : Nat) (h1 : Nat) (p2 : Int32) (k41 : Int32 → Int32 → Int32 → Mm → Option Mm) (x8 : Int32) (x9 : Int32) (x10 : Int32) (m11 : Mm) : Option Mm :=
  if x9 ≤ x10 then (some m11) else (lop (fun _ _ _ _ _ => none) (f_X4_learn_B51 h0 h1 p2 k41) 4000 x8 x9 x10 ((0)) m11)
noncomputable def f_X4_learn_J31 (h0 : Nat) (h1 : Nat) (p2 : Int32) (x4 : Int32) (x5 : Int32) (m6 : Mm) : Option Mm :=
  bnd (sI m6 h0 1 ((0))) fun m7 => lop (fun _ _ _ _ => none) (f_X4_learn_B41 h0 h1 p2 ) 4000 x4 x5 ((0)) m7
noncomputable def f_X4_learn_J17 (h0 : Nat) (h1 : Nat) (p2 : Int32) (x2 : Int32) (m3 : Mm) : Option Mm :=
  if ¬ (gI m3 h0 3) = ((2)) then (f_X4_learn_J31 h0 h1 p2 x2 ((1)) m3) else (f_X4_learn_J31 h0 h1 p2 x2 ((2)) m3)
noncomputable def f_X4_learn (h0 : Nat) (h1 : Nat) (p2 : Int32) (mem : Mm) : Option Mm :=
  if ¬ (gI mem h0 3) = ((1)) then (f_X4_learn_J17 h0 h1 p2 p2 mem) else (bnd (if p2 < (3) then p2 else (3)) fun x1 => f_X4_learn_J17 h0 h1 p2 x1 mem)
theorem dd_X4_learn : yX4_learn.cls = RX4 ∧ yX4_learn.cls ≠ "java/lang/invoke/MethodHandle" ∧ yX4_learn.cls ≠ "java/lang/invoke/VarHandle" ∧ (parseMethodDescriptor yX4_learn.desc).map (fun d => d.parameters.length) = some 2 := by decide +kernel
set_option maxHeartbeats 4000000 in
set_option maxRecDepth 100000 in
theorem k_X4_learn {l : Launch} {ad : Nat → Nat} {cy : Nat → ClassId} {dC : Nat → ClassId} {dI : Nat → Nat → Nat} {ks : (Nat → Nat) × (Nat → Nat)} {h0 : Nat} {h1 : Nat} {p2 : Int32} {mem : Mm} {mem2 : Mm} (e0 : Lp.1 h0 = 4) (e1 : Lp.1 h1 = 14) (h : f_X4_learn h0 h1 p2 mem = some mem2) : CtV l Lp ad cy dC dI ks yX4_learn cX4_learn 7 none ({ frames := 1, cells := 0, slots := 0, locals := 21 }) [.ref (ad (h0)), .ref (ad (h1)), .int (p2)] mem mem2 := by
  refine CtV.of (cc := cX4_learn) (maxL := 7) (ret := none) (own := RX4) rfl (by decide) (Nat.le_of_ble_eq_true rfl) ?_
  intro p e s m args below meth c A X
  have hts := X.2.2.2.2.1
  have hJ103 : ∀ (k41 : Int32 → Int32 → Int32 → Mm → Option Mm) (hk41 : ∀ (x8 : Int32) (x9 : Int32) (x10 : Int32) (m11 : Mm), k41 x8 x9 x10 m11 = some mem2 → Jd p l e ({ frames := 1, cells := 0, slots := 0, locals := 21 }) s m args below meth c 7 (MQ below (PsV Lp ad cy dC dI mem2 A) args s 0 0 A) A dC dI cy Lp ad m11 41 [(0, .ref (ad (h0))), (1, .ref (ad (h1))), (3, .int (x8)), (4, .int (x9)), (5, .int (x10))] []) (k51 : Int32 → Int32 → Int32 → Int32 → Mm → Option Mm) (hk51 : ∀ (x12 : Int32) (x13 : Int32) (x14 : Int32) (x15 : Int32) (m16 : Mm), k51 x12 x13 x14 x15 m16 = some mem2 → Jd p l e ({ frames := 1, cells := 0, slots := 0, locals := 21 }) s m args below meth c 7 (MQ below (PsV Lp ad cy dC dI mem2 A) args s 0 0 A) A dC dI cy Lp ad m16 51 [(0, .ref (ad (h0))), (1, .ref (ad (h1))), (3, .int (x12)), (4, .int (x13)), (5, .int (x14)), (6, .int (x15))] []) (x24 : Int32) (x25 : Int32) (x26 : Int32) (x27 : Int32) (m28 : Mm), f_X4_learn_J103 h0 h1 p2 k41 k51 x24 x25 x26 x27 m28 = some mem2 → Jd p l e ({ frames := 1, cells := 0, slots := 0, locals := 21 }) s m args below meth c 7 (MQ below (PsV Lp ad cy dC dI mem2 A) args s 0 0 A) A dC dI cy Lp ad m28 103 [(0, .ref (ad (h0))), (1, .ref (ad (h1))), (3, .int (x24)), (4, .int (x25)), (5, .int (x26)), (6, .int (x27))] [] := by
    intro k41 hk41 k51 hk51 x24 x25 x26 x27 m28 h
    unfold f_X4_learn_J103 at h
    refine r_inc h (fun x29 e9 h => ?_)
    refine r_iinc (v := x29) (lv2 := [(6, .int (x29)), (0, .ref (ad (h0))), (1, .ref (ad (h1))), (3, .int (x24)), (4, .int (x25)), (5, .int (x26))]) X dX4_learn_103 5 rfl (by rw [e9]; rfl) (by decide) rfl ?_
    refine r_goto (tgt := 51) X dX4_learn_106 (by decide) ?_
    exact r_sub [1, 2, 3, 4, 5, 0] rfl (hk51 x24 x25 x26 x29 m28 h)
  have hJ109 : ∀ (k41 : Int32 → Int32 → Int32 → Mm → Option Mm) (hk41 : ∀ (x8 : Int32) (x9 : Int32) (x10 : Int32) (m11 : Mm), k41 x8 x9 x10 m11 = some mem2 → Jd p l e ({ frames := 1, cells := 0, slots := 0, locals := 21 }) s m args below meth c 7 (MQ below (PsV Lp ad cy dC dI mem2 A) args s 0 0 A) A dC dI cy Lp ad m11 41 [(0, .ref (ad (h0))), (1, .ref (ad (h1))), (3, .int (x8)), (4, .int (x9)), (5, .int (x10))] []) (x19 : Int32) (x20 : Int32) (x21 : Int32) (m22 : Mm), f_X4_learn_J109 h0 h1 p2 k41 x19 x20 x21 m22 = some mem2 → Jd p l e ({ frames := 1, cells := 0, slots := 0, locals := 21 }) s m args below meth c 7 (MQ below (PsV Lp ad cy dC dI mem2 A) args s 0 0 A) A dC dI cy Lp ad m22 109 [(0, .ref (ad (h0))), (1, .ref (ad (h1))), (3, .int (x19)), (4, .int (x20)), (5, .int (x21))] [] := by
    intro k41 hk41 x19 x20 x21 m22 h
    unfold f_X4_learn_J109 at h
    refine r_inc h (fun x23 e9 h => ?_)
    refine r_iinc (v := x23) (lv2 := [(5, .int (x23)), (0, .ref (ad (h0))), (1, .ref (ad (h1))), (3, .int (x19)), (4, .int (x20))]) X dX4_learn_109 4 rfl (by rw [e9]; rfl) (by decide) rfl ?_
    refine r_goto (tgt := 41) X dX4_learn_112 (by decide) ?_
    exact r_sub [1, 2, 3, 4, 0] rfl (hk41 x19 x20 x23 m22 h)
  have hJ51 : ∀ (k41 : Int32 → Int32 → Int32 → Mm → Option Mm) (hk41 : ∀ (x8 : Int32) (x9 : Int32) (x10 : Int32) (m11 : Mm), k41 x8 x9 x10 m11 = some mem2 → Jd p l e ({ frames := 1, cells := 0, slots := 0, locals := 21 }) s m args below meth c 7 (MQ below (PsV Lp ad cy dC dI mem2 A) args s 0 0 A) A dC dI cy Lp ad m11 41 [(0, .ref (ad (h0))), (1, .ref (ad (h1))), (3, .int (x8)), (4, .int (x9)), (5, .int (x10))] []) (k51 : Int32 → Int32 → Int32 → Int32 → Mm → Option Mm) (hk51 : ∀ (x12 : Int32) (x13 : Int32) (x14 : Int32) (x15 : Int32) (m16 : Mm), k51 x12 x13 x14 x15 m16 = some mem2 → Jd p l e ({ frames := 1, cells := 0, slots := 0, locals := 21 }) s m args below meth c 7 (MQ below (PsV Lp ad cy dC dI mem2 A) args s 0 0 A) A dC dI cy Lp ad m16 51 [(0, .ref (ad (h0))), (1, .ref (ad (h1))), (3, .int (x12)), (4, .int (x13)), (5, .int (x14)), (6, .int (x15))] []) (x12 : Int32) (x13 : Int32) (x14 : Int32) (x15 : Int32) (m16 : Mm), f_X4_learn_B51 h0 h1 p2 k41 k51 x12 x13 x14 x15 m16 = some mem2 → Jd p l e ({ frames := 1, cells := 0, slots := 0, locals := 21 }) s m args below meth c 7 (MQ below (PsV Lp ad cy dC dI mem2 A) args s 0 0 A) A dC dI cy Lp ad m16 51 [(0, .ref (ad (h0))), (1, .ref (ad (h1))), (3, .int (x12)), (4, .int (x13)), (5, .int (x14)), (6, .int (x15))] [] := by
    intro k41 hk41 k51 hk51 x12 x13 x14 x15 m16 h
    unfold f_X4_learn_B51 at h
    refine r_iload X dX4_learn_51 5 rfl ?_
    refine r_iload_n X dX4_learn_53 rfl 2 rfl ?_
    refine r_icmp_ge (tgt := 109) X dX4_learn_54 (by decide) h (fun h => ?_) (fun h => ?_)
    · exact r_sub [0, 1, 2, 3, 4] rfl (hJ109 k41 hk41 x12 x13 x14 m16 h)
    · refine r_iload X dX4_learn_57 5 rfl ?_
      refine r_aload_n X dX4_learn_59 rfl 1 rfl ?_
      refine r_alenI X (Lp_N e1 rfl) e1 dX4_learn_60 ?_
      refine r_icmp_ge (tgt := 109) X dX4_learn_61 (by decide) h (fun h => ?_) (fun h => ?_)
      · exact r_sub [0, 1, 2, 3, 4] rfl (hJ109 k41 hk41 x12 x13 x14 m16 h)
      · refine r_aload_n X dX4_learn_64 rfl 0 rfl ?_
        refine r_getI X (k := 1) (Lp_N e0 rfl) e0 rfl (by decide) ui_4 (by decide) uw1_125 rfl dX4_learn_65 ?_
        refine r_if_lt (tgt := 103) X dX4_learn_68 (by decide) h (fun h => ?_) (fun h => ?_)
        · exact r_sub [0, 1, 2, 3, 4, 5] rfl (hJ103 k41 hk41 k51 hk51 x12 x13 x14 x15 m16 h)
        · refine r_aload_n X dX4_learn_71 rfl 0 rfl ?_
          refine r_getI X (k := 1) (Lp_N e0 rfl) e0 rfl (by decide) ui_4 (by decide) uw1_125 rfl dX4_learn_72 ?_
          refine r_bipush (v := (18)) X dX4_learn_75 (by decide) ?_
          refine r_icmp_ge (tgt := 103) X dX4_learn_77 (by decide) h (fun h => ?_) (fun h => ?_)
          · exact r_sub [0, 1, 2, 3, 4, 5] rfl (hJ103 k41 hk41 k51 hk51 x12 x13 x14 x15 m16 h)
          · refine r_aload_n X dX4_learn_80 rfl 0 rfl ?_
            refine r_getF X (k := 0) (of := 1) rfl (Lp_N e0 rfl) e0 rfl (by decide) ui_4 (by decide) uw1_123 rfl dX4_learn_81 ?_
            refine r_aload_n X dX4_learn_84 rfl 0 rfl ?_
            refine r_getI X (k := 1) (Lp_N e0 rfl) e0 rfl (by decide) ui_4 (by decide) uw1_125 rfl dX4_learn_85 ?_
            refine r_aload_n X dX4_learn_88 rfl 1 rfl ?_
            refine r_iload X dX4_learn_89 5 rfl ?_
            refine r_iald X (Lp_N e1 rfl) e1 h dX4_learn_91 (fun h => ?_)
            refine r_iast X (Lp_N (Lp_4_0 e0) rfl) (Lp_4_0 e0) h dX4_learn_92 (fun h => ?_)
            refine r_nmM h (fun m17 h => ?_)
            refine r_aload_n X dX4_learn_93 rfl 0 rfl ?_
            refine r_dup X dX4_learn_94 rfl ?_
            refine r_getI X (k := 1) (Lp_N e0 rfl) e0 rfl (by decide) ui_4 (by decide) uw1_125 rfl dX4_learn_95 ?_
            refine r_iconst (v := (1)) X dX4_learn_98 (by decide) ?_
            refine r_iadd X dX4_learn_99 ?_
            refine r_putI X (k := 1) (Lp_N e0 rfl) e0 rfl (by decide) ui_4 (by decide) uw1_125 tyX4_ok nmX4 rfl rfl rfl dX4_learn_100 ?_
            refine r_nmM h (fun m18 h => ?_)
            exact r_sub [0, 1, 2, 3, 4, 5] rfl (hJ103 k41 hk41 k51 hk51 x12 x13 x14 x15 m18 h)
  have hL51 : ∀ (k41 : Int32 → Int32 → Int32 → Mm → Option Mm) (hk41 : ∀ (x8 : Int32) (x9 : Int32) (x10 : Int32) (m11 : Mm), k41 x8 x9 x10 m11 = some mem2 → Jd p l e ({ frames := 1, cells := 0, slots := 0, locals := 21 }) s m args below meth c 7 (MQ below (PsV Lp ad cy dC dI mem2 A) args s 0 0 A) A dC dI cy Lp ad m11 41 [(0, .ref (ad (h0))), (1, .ref (ad (h1))), (3, .int (x8)), (4, .int (x9)), (5, .int (x10))] []) (n : Nat), ∀ (x12 : Int32) (x13 : Int32) (x14 : Int32) (x15 : Int32) (m16 : Mm), lop (fun _ _ _ _ _ => none) (f_X4_learn_B51 h0 h1 p2 k41) n x12 x13 x14 x15 m16 = some mem2 → Jd p l e ({ frames := 1, cells := 0, slots := 0, locals := 21 }) s m args below meth c 7 (MQ below (PsV Lp ad cy dC dI mem2 A) args s 0 0 A) A dC dI cy Lp ad m16 51 [(0, .ref (ad (h0))), (1, .ref (ad (h1))), (3, .int (x12)), (4, .int (x13)), (5, .int (x14)), (6, .int (x15))] [] := by
    intro k41 hk41 n
    induction n with
    | zero => intro _ _ _ _ _ h; cases h
    | succ n ih => intro a0 a1 a2 a3 a4 h; exact hJ51 k41 hk41 _ ih a0 a1 a2 a3 a4 h
  have hJ41 : ∀ (k41 : Int32 → Int32 → Int32 → Mm → Option Mm) (hk41 : ∀ (x8 : Int32) (x9 : Int32) (x10 : Int32) (m11 : Mm), k41 x8 x9 x10 m11 = some mem2 → Jd p l e ({ frames := 1, cells := 0, slots := 0, locals := 21 }) s m args below meth c 7 (MQ below (PsV Lp ad cy dC dI mem2 A) args s 0 0 A) A dC dI cy Lp ad m11 41 [(0, .ref (ad (h0))), (1, .ref (ad (h1))), (3, .int (x8)), (4, .int (x9)), (5, .int (x10))] []) (x8 : Int32) (x9 : Int32) (x10 : Int32) (m11 : Mm), f_X4_learn_B41 h0 h1 p2 k41 x8 x9 x10 m11 = some mem2 → Jd p l e ({ frames := 1, cells := 0, slots := 0, locals := 21 }) s m args below meth c 7 (MQ below (PsV Lp ad cy dC dI mem2 A) args s 0 0 A) A dC dI cy Lp ad m11 41 [(0, .ref (ad (h0))), (1, .ref (ad (h1))), (3, .int (x8)), (4, .int (x9)), (5, .int (x10))] [] := by
    intro k41 hk41 x8 x9 x10 m11 h
    unfold f_X4_learn_B41 at h
    refine r_iload X dX4_learn_41 4 rfl ?_
    refine r_iload X dX4_learn_43 3 rfl ?_
    refine r_icmp_ge (tgt := 115) X dX4_learn_45 (by decide) h (fun h => ?_) (fun h => ?_)
    · exact r_vret X rfl dX4_learn_115 h
    · refine r_iconst (v := (0)) X dX4_learn_48 (by decide) ?_
      refine r_istore (lv2 := [(6, .int ((0))), (0, .ref (ad (h0))), (1, .ref (ad (h1))), (3, .int (x8)), (4, .int (x9)), (5, .int (x10))]) X dX4_learn_49 (by decide) rfl ?_
      exact r_sub [1, 2, 3, 4, 5, 0] rfl (hL51 k41 hk41 4000 x8 x9 x10 ((0)) m11 h)
  have hL41 : ∀ (n : Nat), ∀ (x8 : Int32) (x9 : Int32) (x10 : Int32) (m11 : Mm), lop (fun _ _ _ _ => none) (f_X4_learn_B41 h0 h1 p2 ) n x8 x9 x10 m11 = some mem2 → Jd p l e ({ frames := 1, cells := 0, slots := 0, locals := 21 }) s m args below meth c 7 (MQ below (PsV Lp ad cy dC dI mem2 A) args s 0 0 A) A dC dI cy Lp ad m11 41 [(0, .ref (ad (h0))), (1, .ref (ad (h1))), (3, .int (x8)), (4, .int (x9)), (5, .int (x10))] [] := by
    intro  n
    induction n with
    | zero => intro _ _ _ _ h; cases h
    | succ n ih => intro a0 a1 a2 a3 h; exact hJ41  _ ih a0 a1 a2 a3 h
  have hJ31 : ∀ (x4 : Int32) (x5 : Int32) (m6 : Mm), f_X4_learn_J31 h0 h1 p2 x4 x5 m6 = some mem2 → Jd p l e ({ frames := 1, cells := 0, slots := 0, locals := 21 }) s m args below meth c 7 (MQ below (PsV Lp ad cy dC dI mem2 A) args s 0 0 A) A dC dI cy Lp ad m6 31 [(0, .ref (ad (h0))), (1, .ref (ad (h1))), (3, .int (x4))] [.int (x5)] := by
    intro x4 x5 m6 h
    unfold f_X4_learn_J31 at h
    refine r_istore (lv2 := [(4, .int (x5)), (0, .ref (ad (h0))), (1, .ref (ad (h1))), (3, .int (x4))]) X dX4_learn_31 (by decide) rfl ?_
    refine r_aload_n X dX4_learn_33 rfl 1 rfl ?_
    refine r_iconst (v := (0)) X dX4_learn_34 (by decide) ?_
    refine r_putI X (k := 1) (Lp_N e0 rfl) e0 rfl (by decide) ui_4 (by decide) uw1_125 tyX4_ok nmX4 rfl rfl rfl dX4_learn_35 ?_
    refine r_nmM h (fun m7 h => ?_)
    refine r_iconst (v := (0)) X dX4_learn_38 (by decide) ?_
    refine r_istore (lv2 := [(5, .int ((0))), (4, .int (x5)), (0, .ref (ad (h0))), (1, .ref (ad (h1))), (3, .int (x4))]) X dX4_learn_39 (by decide) rfl ?_
    exact r_sub [2, 3, 4, 1, 0] rfl (hL41 4000 x4 x5 ((0)) m7 h)
  have hJ17 : ∀ (x2 : Int32) (m3 : Mm), f_X4_learn_J17 h0 h1 p2 x2 m3 = some mem2 → Jd p l e ({ frames := 1, cells := 0, slots := 0, locals := 21 }) s m args below meth c 7 (MQ below (PsV Lp ad cy dC dI mem2 A) args s 0 0 A) A dC dI cy Lp ad m3 17 [(0, .ref (ad (h0))), (1, .ref (ad (h1)))] [.int (x2)] := by
    intro x2 m3 h
    unfold f_X4_learn_J17 at h
    refine r_istore_n (lv2 := [(3, .int (x2)), (0, .ref (ad (h0))), (1, .ref (ad (h1)))]) X dX4_learn_17 rfl (by decide) rfl ?_
    refine r_aload_n X dX4_learn_18 rfl 1 rfl ?_
    refine r_getI X (k := 3) (Lp_N e0 rfl) e0 rfl (by decide) ui_4 (by decide) uw1_130 rfl dX4_learn_19 ?_
    refine r_iconst (v := (2)) X dX4_learn_22 (by decide) ?_
    refine r_icmp_ne (tgt := 30) X dX4_learn_23 (by decide) h (fun h => ?_) (fun h => ?_)
    · refine r_iconst (v := (1)) X dX4_learn_30 (by decide) ?_
      exact r_sub [1, 2, 0] rfl (hJ31 x2 ((1)) m3 h)
    · refine r_iconst (v := (2)) X dX4_learn_26 (by decide) ?_
      refine r_goto (tgt := 31) X dX4_learn_27 (by decide) ?_
      exact r_sub [1, 2, 0] rfl (hJ31 x2 ((2)) m3 h)
  unfold f_X4_learn at h
  refine r_aload_n X dX4_learn_0 rfl 0 rfl ?_
  refine r_getI X (k := 3) (Lp_N e0 rfl) e0 rfl (by decide) ui_4 (by decide) uw1_130 rfl dX4_learn_1 ?_
  refine r_iconst (v := (1)) X dX4_learn_4 (by decide) ?_
  refine r_icmp_ne (tgt := 16) X dX4_learn_5 (by decide) h (fun h => ?_) (fun h => ?_)
  · refine r_iload_n X dX4_learn_16 rfl 2 rfl ?_
    exact r_sub [0, 1] rfl (hJ17 p2 mem h)
  · refine r_iconst (v := (3)) X dX4_learn_8 (by decide) ?_
    refine r_iload_n X dX4_learn_9 rfl 2 rfl ?_
    refine r_mmin X uw3_202 uw3_104 uw1_18 uw3_105 (Nat.le_of_ble_eq_true rfl) (Nat.le_of_ble_eq_true rfl) dX4_learn_10 ?_
    refine r_nmI h (fun x1 h => ?_)
    refine r_goto (tgt := 17) X dX4_learn_13 (by decide) ?_
    exact r_sub [0, 1] rfl (hJ17 x1 mem h)
noncomputable def f_X4_strikesOn_J31 (h0 : Nat) (p1 : Int32) (k4 : Int32 → Int32 → Mm → Option (Int32 × Mm)) (x5 : Int32) (x6 : Int32) (m7 : Mm) : Option (Int32 × Mm) :=
  bnd (x6 + (1)) fun x8 => k4 x5 x8 m7
noncomputable def f_X4_strikesOn_B4 (h0 : Nat) (p1 : Int32) (k4 : Int32 → Int32 → Mm → Option (Int32 × Mm)) (x1 : Int32) (x2 : Int32) (m3 : Mm) : Option (Int32 × Mm) :=
  if (gI m3 h0 1) ≤ x2 then (some (x1, m3)) else (if ((18)) ≤ x2 then (some (x1, m3)) else (grd (inb x2 (Lp.2.1 (h0 + 1))) (if ¬ (gI m3 (h0 + 1) x2.toNatClampNeg) = p1 then (f_X4_strikesOn_J31 h0 p1 k4 x1 x2 m3) else (bnd (x1 + (1)) fun x4 => f_X4_strikesOn_J31 h0 p1 k4 x4 x2 m3))))
noncomputable def f_X4_strikesOn (h0 : Nat) (p1 : Int32) (mem : Mm) : Option (Int32 × Mm) :=
  lop (fun _ _ _ => none) (f_X4_strikesOn_B4 h0 p1 ) 4000 ((0)) ((0)) mem
theorem dd_X4_strikesOn : yX4_strikesOn.cls = RX4 ∧ yX4_strikesOn.cls ≠ "java/lang/invoke/MethodHandle" ∧ yX4_strikesOn.cls ≠ "java/lang/invoke/VarHandle" ∧ (parseMethodDescriptor yX4_strikesOn.desc).map (fun d => d.parameters.length) = some 1 := by decide +kernel
set_option maxHeartbeats 4000000 in
set_option maxRecDepth 100000 in
theorem k_X4_strikesOn {l : Launch} {ad : Nat → Nat} {cy : Nat → ClassId} {dC : Nat → ClassId} {dI : Nat → Nat → Nat} {ks : (Nat → Nat) × (Nat → Nat)} {h0 : Nat} {p1 : Int32} {mem : Mm} {r2 : Int32} {mem2 : Mm} (e0 : Lp.1 h0 = 4) (h : f_X4_strikesOn h0 p1 mem = some (r2, mem2)) : CtI l Lp ad cy dC dI ks yX4_strikesOn cX4_strikesOn 4 (some .int) ({ frames := 0, cells := 0, slots := 0, locals := 0 }) [.ref (ad (h0)), .int (p1)] mem r2 mem2 := by
  refine CtI.of (cc := cX4_strikesOn) (maxL := 4) (ret := (some .int)) (own := RX4) rfl (by decide) (Nat.le_of_ble_eq_true rfl) ?_
  intro p e s m args below meth c A X
  have hts := X.2.2.2.2.1
  have hJ31 : ∀ (k4 : Int32 → Int32 → Mm → Option (Int32 × Mm)) (hk4 : ∀ (x1 : Int32) (x2 : Int32) (m3 : Mm), k4 x1 x2 m3 = some (r2, mem2) → Jd p l e ({ frames := 0, cells := 0, slots := 0, locals := 0 }) s m args below meth c 4 (MQ below (PsI Lp ad cy dC dI r2 mem2 A) args s 0 0 A) A dC dI cy Lp ad m3 4 [(0, .ref (ad (h0))), (1, .int (p1)), (2, .int (x1)), (3, .int (x2))] []) (x5 : Int32) (x6 : Int32) (m7 : Mm), f_X4_strikesOn_J31 h0 p1 k4 x5 x6 m7 = some (r2, mem2) → Jd p l e ({ frames := 0, cells := 0, slots := 0, locals := 0 }) s m args below meth c 4 (MQ below (PsI Lp ad cy dC dI r2 mem2 A) args s 0 0 A) A dC dI cy Lp ad m7 31 [(0, .ref (ad (h0))), (1, .int (p1)), (2, .int (x5)), (3, .int (x6))] [] := by
    intro k4 hk4 x5 x6 m7 h
    unfold f_X4_strikesOn_J31 at h
    refine r_inc h (fun x8 e9 h => ?_)
    refine r_iinc (v := x8) (lv2 := [(3, .int (x8)), (0, .ref (ad (h0))), (1, .int (p1)), (2, .int (x5))]) X dX4_strikesOn_31 3 rfl (by rw [e9]; rfl) (by decide) rfl ?_
    refine r_goto (tgt := 4) X dX4_strikesOn_34 (by decide) ?_
    exact r_sub [1, 2, 3, 0] rfl (hk4 x5 x8 m7 h)
  have hJ4 : ∀ (k4 : Int32 → Int32 → Mm → Option (Int32 × Mm)) (hk4 : ∀ (x1 : Int32) (x2 : Int32) (m3 : Mm), k4 x1 x2 m3 = some (r2, mem2) → Jd p l e ({ frames := 0, cells := 0, slots := 0, locals := 0 }) s m args below meth c 4 (MQ below (PsI Lp ad cy dC dI r2 mem2 A) args s 0 0 A) A dC dI cy Lp ad m3 4 [(0, .ref (ad (h0))), (1, .int (p1)), (2, .int (x1)), (3, .int (x2))] []) (x1 : Int32) (x2 : Int32) (m3 : Mm), f_X4_strikesOn_B4 h0 p1 k4 x1 x2 m3 = some (r2, mem2) → Jd p l e ({ frames := 0, cells := 0, slots := 0, locals := 0 }) s m args below meth c 4 (MQ below (PsI Lp ad cy dC dI r2 mem2 A) args s 0 0 A) A dC dI cy Lp ad m3 4 [(0, .ref (ad (h0))), (1, .int (p1)), (2, .int (x1)), (3, .int (x2))] [] := by
    intro k4 hk4 x1 x2 m3 h
    unfold f_X4_strikesOn_B4 at h
    refine r_iload_n X dX4_strikesOn_4 rfl 3 rfl ?_
    refine r_aload_n X dX4_strikesOn_5 rfl 0 rfl ?_
    refine r_getI X (k := 1) (Lp_N e0 rfl) e0 rfl (by decide) ui_4 (by decide) uw1_125 rfl dX4_strikesOn_6 ?_
    refine r_icmp_ge (tgt := 37) X dX4_strikesOn_9 (by decide) h (fun h => ?_) (fun h => ?_)
    · refine r_iload_n X dX4_strikesOn_37 rfl 2 rfl ?_
      exact r_iret2 X rfl dX4_strikesOn_38 h
    · refine r_iload_n X dX4_strikesOn_12 rfl 3 rfl ?_
      refine r_bipush (v := (18)) X dX4_strikesOn_13 (by decide) ?_
      refine r_icmp_ge (tgt := 37) X dX4_strikesOn_15 (by decide) h (fun h => ?_) (fun h => ?_)
      · refine r_iload_n X dX4_strikesOn_37 rfl 2 rfl ?_
        exact r_iret2 X rfl dX4_strikesOn_38 h
      · refine r_aload_n X dX4_strikesOn_18 rfl 0 rfl ?_
        refine r_getF X (k := 0) (of := 1) rfl (Lp_N e0 rfl) e0 rfl (by decide) ui_4 (by decide) uw1_123 rfl dX4_strikesOn_19 ?_
        refine r_iload_n X dX4_strikesOn_22 rfl 3 rfl ?_
        refine r_iald X (Lp_N (Lp_4_0 e0) rfl) (Lp_4_0 e0) h dX4_strikesOn_23 (fun h => ?_)
        refine r_iload_n X dX4_strikesOn_24 rfl 1 rfl ?_
        refine r_icmp_ne (tgt := 31) X dX4_strikesOn_25 (by decide) h (fun h => ?_) (fun h => ?_)
        · exact r_sub [0, 1, 2, 3] rfl (hJ31 k4 hk4 x1 x2 m3 h)
        · refine r_inc h (fun x4 e9 h => ?_)
          refine r_iinc (v := x4) (lv2 := [(2, .int (x4)), (0, .ref (ad (h0))), (1, .int (p1)), (3, .int (x2))]) X dX4_strikesOn_28 2 rfl (by rw [e9]; rfl) (by decide) rfl ?_
          exact r_sub [1, 2, 0, 3] rfl (hJ31 k4 hk4 x4 x2 m3 h)
  have hL4 : ∀ (n : Nat), ∀ (x1 : Int32) (x2 : Int32) (m3 : Mm), lop (fun _ _ _ => none) (f_X4_strikesOn_B4 h0 p1 ) n x1 x2 m3 = some (r2, mem2) → Jd p l e ({ frames := 0, cells := 0, slots := 0, locals := 0 }) s m args below meth c 4 (MQ below (PsI Lp ad cy dC dI r2 mem2 A) args s 0 0 A) A dC dI cy Lp ad m3 4 [(0, .ref (ad (h0))), (1, .int (p1)), (2, .int (x1)), (3, .int (x2))] [] := by
    intro  n
    induction n with
    | zero => intro _ _ _ h; cases h
    | succ n ih => intro a0 a1 a2 h; exact hJ4  _ ih a0 a1 a2 h
  unfold f_X4_strikesOn at h
  refine r_iconst (v := (0)) X dX4_strikesOn_0 (by decide) ?_
  refine r_istore_n (lv2 := [(2, .int ((0))), (0, .ref (ad (h0))), (1, .int (p1))]) X dX4_strikesOn_1 rfl (by decide) rfl ?_
  refine r_iconst (v := (0)) X dX4_strikesOn_2 (by decide) ?_
  refine r_istore_n (lv2 := [(3, .int ((0))), (2, .int ((0))), (0, .ref (ad (h0))), (1, .int (p1))]) X dX4_strikesOn_3 rfl (by decide) rfl ?_
  exact r_sub [2, 3, 1, 0] rfl (hL4 4000 ((0)) ((0)) mem h)
noncomputable def f_X5_wrong (p1 : Int32) (mem : Mm) : Option (Int32 × Mm) :=
  bnd (sI mem 3 2 (p1 + (((16)) * (gI mem 1 3)))) fun m1 => grd (bok ((0))) (some ((0), m1))
theorem dd_X5_wrong : yX5_wrong.cls = RX5 ∧ yX5_wrong.cls ≠ "java/lang/invoke/MethodHandle" ∧ yX5_wrong.cls ≠ "java/lang/invoke/VarHandle" ∧ (parseMethodDescriptor yX5_wrong.desc).map (fun d => d.parameters.length) = some 1 := by decide +kernel
set_option maxHeartbeats 4000000 in
set_option maxRecDepth 100000 in
theorem k_X5_wrong {l : Launch} {ad : Nat → Nat} {cy : Nat → ClassId} {dC : Nat → ClassId} {dI : Nat → Nat → Nat} {ks : (Nat → Nat) × (Nat → Nat)} {p1 : Int32} {mem : Mm} {r2 : Int32} {mem2 : Mm}  (h : f_X5_wrong p1 mem = some (r2, mem2)) : CtI l Lp ad cy dC dI ks yX5_wrong cX5_wrong 2 (some .boolean) ({ frames := 0, cells := 0, slots := 0, locals := 0 }) [.ref (ad (3)), .int (p1)] mem r2 mem2 := by
  refine CtI.of (cc := cX5_wrong) (maxL := 2) (ret := (some .boolean)) (own := RX5) rfl (by decide) (Nat.le_of_ble_eq_true rfl) ?_
  intro p e s m args below meth c A X
  have hts := X.2.2.2.2.1
  have hl45 := X.2.2.2.2.2.2.1 (.fieldLinkNest "StationPiano$Reader" 45 "StationPiano$Tape" "place" "I" "StationPiano") (List.mem_of_getElem? (i := 2) rfl)
  unfold f_X5_wrong at h
  refine r_aload_n X dX5_wrong_0 rfl 0 rfl ?_
  refine r_iload_n X dX5_wrong_1 rfl 1 rfl ?_
  refine r_bipush (v := (16)) X dX5_wrong_2 (by decide) ?_
  refine r_aload_n X dX5_wrong_4 rfl 0 rfl ?_
  refine r_getB X (k := 0) (of := 2) rfl (Lp_N Lpk_3 rfl) Lpk_3 rfl (by decide) ui_5 (by decide) uw1_73 rfl dX5_wrong_5 ?_
  refine r_getIN X (k := 3) (Lp_N Lpk_1 rfl) Lpk_1 rfl (by decide) ui_9 (by decide) hl45 rfl dX5_wrong_8 ?_
  refine r_imul X dX5_wrong_11 ?_
  refine r_iadd X dX5_wrong_12 ?_
  refine r_putI X (k := 2) (Lp_N Lpk_3 rfl) Lpk_3 rfl (by decide) ui_5 (by decide) uw1_75 tyX5_ok nmX5 rfl rfl rfl dX5_wrong_13 ?_
  refine r_nmM h (fun m1 h => ?_)
  refine r_iconst (v := (0)) X dX5_wrong_16 (by decide) ?_
  exact r_zret2 X rfl dX5_wrong_17 h
noncomputable def f_J0_isLatin1_aae02 (h0 : Nat) (mem : Mm) : Option (Int32 × Mm) :=
  grd (bok ((1))) (some ((1), mem))
theorem dd_J0_isLatin1_aae02 : yJ0_isLatin1_aae02.cls = RJ0 ∧ yJ0_isLatin1_aae02.cls ≠ "java/lang/invoke/MethodHandle" ∧ yJ0_isLatin1_aae02.cls ≠ "java/lang/invoke/VarHandle" ∧ (parseMethodDescriptor yJ0_isLatin1_aae02.desc).map (fun d => d.parameters.length) = some 0 := by decide +kernel
set_option maxHeartbeats 4000000 in
set_option maxRecDepth 100000 in
theorem k_J0_isLatin1_aae02 {l : Launch} {ad : Nat → Nat} {cy : Nat → ClassId} {dC : Nat → ClassId} {dI : Nat → Nat → Nat} {ks : (Nat → Nat) × (Nat → Nat)} {h0 : Nat} {mem : Mm} {r2 : Int32} {mem2 : Mm} (e0 : h0 < 2) (h : f_J0_isLatin1_aae02 h0 mem = some (r2, mem2)) : CtI l Lp ad cy dC dI ks yJ0_isLatin1_aae02 cJ0_isLatin1_aae02 1 (some .boolean) ({ frames := 0, cells := 0, slots := 0, locals := 0 }) [.ref (ks.1 (h0))] mem r2 mem2 := by
  refine CtI.of (cc := cJ0_isLatin1_aae02) (maxL := 1) (ret := (some .boolean)) (own := RJ0) rfl (by decide) (Nat.le_of_ble_eq_true rfl) ?_
  intro p e s m args below meth c A X
  have hts := X.2.2.2.2.1
  unfold f_J0_isLatin1_aae02 at h
  refine r_gsC X uw3_44 dJ0_isLatin1_aae02_0 ?_
  refine r_if_eq_f (tgt := 17) X dJ0_isLatin1_aae02_3 (by decide) (by decide) ?_
  refine r_aload_n X dJ0_isLatin1_aae02_6 rfl 0 rfl ?_
  refine r_scod X e0 uw8_175 dJ0_isLatin1_aae02_7 ?_
  refine r_if_ne_f (tgt := 17) X dJ0_isLatin1_aae02_10 (by decide) (by decide) ?_
  refine r_iconst (v := (1)) X dJ0_isLatin1_aae02_13 (by decide) ?_
  refine r_goto (tgt := 18) X dJ0_isLatin1_aae02_14 (by decide) ?_
  exact r_zret2 X rfl dJ0_isLatin1_aae02_18 h
noncomputable def f_J0_coder_7d493 (h0 : Nat) (mem : Mm) : Option (Int32 × Mm) :=
  grd (decide (vp_nar .byte ((0)) = ((0)))) (some ((0), mem))
theorem dd_J0_coder_7d493 : yJ0_coder_7d493.cls = RJ0 ∧ yJ0_coder_7d493.cls ≠ "java/lang/invoke/MethodHandle" ∧ yJ0_coder_7d493.cls ≠ "java/lang/invoke/VarHandle" ∧ (parseMethodDescriptor yJ0_coder_7d493.desc).map (fun d => d.parameters.length) = some 0 := by decide +kernel
set_option maxHeartbeats 4000000 in
set_option maxRecDepth 100000 in
theorem k_J0_coder_7d493 {l : Launch} {ad : Nat → Nat} {cy : Nat → ClassId} {dC : Nat → ClassId} {dI : Nat → Nat → Nat} {ks : (Nat → Nat) × (Nat → Nat)} {h0 : Nat} {mem : Mm} {r2 : Int32} {mem2 : Mm} (e0 : h0 < 2) (h : f_J0_coder_7d493 h0 mem = some (r2, mem2)) : CtI l Lp ad cy dC dI ks yJ0_coder_7d493 cJ0_coder_7d493 1 (some .byte) ({ frames := 0, cells := 0, slots := 0, locals := 0 }) [.ref (ks.1 (h0))] mem r2 mem2 := by
  refine CtI.of (cc := cJ0_coder_7d493) (maxL := 1) (ret := (some .byte)) (own := RJ0) rfl (by decide) (Nat.le_of_ble_eq_true rfl) ?_
  intro p e s m args below meth c A X
  have hts := X.2.2.2.2.1
  unfold f_J0_coder_7d493 at h
  refine r_gsC X uw3_44 dJ0_coder_7d493_0 ?_
  refine r_if_eq_f (tgt := 13) X dJ0_coder_7d493_3 (by decide) (by decide) ?_
  refine r_aload_n X dJ0_coder_7d493_6 rfl 0 rfl ?_
  refine r_scod X e0 uw8_175 dJ0_coder_7d493_7 ?_
  refine r_goto (tgt := 14) X dJ0_coder_7d493_10 (by decide) ?_
  exact r_yret2 X rfl dJ0_coder_7d493_14 h
noncomputable def f_J0_length_8abf5 (h0 : Nat) (mem : Mm) : Option (Int32 × Mm) :=
  bdI (f_J0_coder_7d493 h0 mem) fun x2 m1 => some ((Int32.ofNat (ksL.getD h0 0)) >>> (x2 &&& 31), m1)
theorem dd_J0_length_8abf5 : yJ0_length_8abf5.cls = RJ0 ∧ yJ0_length_8abf5.cls ≠ "java/lang/invoke/MethodHandle" ∧ yJ0_length_8abf5.cls ≠ "java/lang/invoke/VarHandle" ∧ (parseMethodDescriptor yJ0_length_8abf5.desc).map (fun d => d.parameters.length) = some 0 := by decide +kernel
set_option maxHeartbeats 4000000 in
set_option maxRecDepth 100000 in
theorem k_J0_length_8abf5 {l : Launch} {ad : Nat → Nat} {cy : Nat → ClassId} {dC : Nat → ClassId} {dI : Nat → Nat → Nat} {ks : (Nat → Nat) × (Nat → Nat)} {h0 : Nat} {mem : Mm} {r2 : Int32} {mem2 : Mm} (e0 : h0 < 2) (h : f_J0_length_8abf5 h0 mem = some (r2, mem2)) : CtI l Lp ad cy dC dI ks yJ0_length_8abf5 cJ0_length_8abf5 1 (some .int) ({ frames := 1, cells := 0, slots := 0, locals := 20 }) [.ref (ks.1 (h0))] mem r2 mem2 := by
  refine CtI.of (cc := cJ0_length_8abf5) (maxL := 1) (ret := (some .int)) (own := RJ0) rfl (by decide) (Nat.le_of_ble_eq_true rfl) ?_
  intro p e s m args below meth c A X
  have hts := X.2.2.2.2.1
  unfold f_J0_length_8abf5 at h
  refine r_aload_n X dJ0_length_8abf5_0 rfl 0 rfl ?_
  refine r_sval X e0 uw8_174 dJ0_length_8abf5_1 ?_
  refine r_slen X e0 dJ0_length_8abf5_4 ?_
  refine r_aload_n X dJ0_length_8abf5_5 rfl 0 rfl ?_
  refine r_cKI (As := []) (rest := [.int (Int32.ofNat (ksL.getD h0 0))]) X (fun r9 m9 hg => k_J0_coder_7d493 e0 hg) h e0 uw3_40 uw3_41 uw3_42 uw1_14 uw3_43 rfl rfl dd_J0_coder_7d493 ⟨Nat.le_of_ble_eq_true rfl, Nat.le_of_ble_eq_true rfl⟩ rfl (Nat.le_of_ble_eq_true rfl) dJ0_length_8abf5_6 rfl (fun x2 m1 h => ?_)
  refine r_ishr X dJ0_length_8abf5_9 ?_
  exact r_iret2 X rfl dJ0_length_8abf5_10 h
noncomputable def f_J1_canEncode_9a6ad (p0 : Int32) (mem : Mm) : Option (Int32 × Mm) :=
  if p0 < 0 then (grd (bok ((0))) (some ((0), mem))) else (if ((255)) < p0 then (grd (bok ((0))) (some ((0), mem))) else (grd (bok ((1))) (some ((1), mem))))
theorem dd_J1_canEncode_9a6ad : yJ1_canEncode_9a6ad.cls ≠ "java/lang/invoke/MethodHandle" ∧ yJ1_canEncode_9a6ad.cls ≠ "java/lang/invoke/VarHandle" ∧ (parseMethodDescriptor yJ1_canEncode_9a6ad.desc).map (fun d => d.parameters.length) = some 1 := by decide +kernel
set_option maxHeartbeats 4000000 in
set_option maxRecDepth 100000 in
theorem k_J1_canEncode_9a6ad {l : Launch} {ad : Nat → Nat} {cy : Nat → ClassId} {dC : Nat → ClassId} {dI : Nat → Nat → Nat} {ks : (Nat → Nat) × (Nat → Nat)} {p0 : Int32} {mem : Mm} {r2 : Int32} {mem2 : Mm}  (h : f_J1_canEncode_9a6ad p0 mem = some (r2, mem2)) : CtI l Lp ad cy dC dI ks yJ1_canEncode_9a6ad cJ1_canEncode_9a6ad 1 (some .boolean) ({ frames := 0, cells := 0, slots := 0, locals := 0 }) [.int (p0)] mem r2 mem2 := by
  refine CtI.of (cc := cJ1_canEncode_9a6ad) (maxL := 1) (ret := (some .boolean)) (own := RJ1) rfl (by decide) (Nat.le_of_ble_eq_true rfl) ?_
  intro p e s m args below meth c A X
  have hts := X.2.2.2.2.1
  unfold f_J1_canEncode_9a6ad at h
  refine r_iload_n X dJ1_canEncode_9a6ad_0 rfl 0 rfl ?_
  refine r_if_lt (tgt := 15) X dJ1_canEncode_9a6ad_1 (by decide) h (fun h => ?_) (fun h => ?_)
  · refine r_iconst (v := (0)) X dJ1_canEncode_9a6ad_15 (by decide) ?_
    exact r_zret2 X rfl dJ1_canEncode_9a6ad_16 h
  · refine r_iload_n X dJ1_canEncode_9a6ad_4 rfl 0 rfl ?_
    refine r_sipush (v := (255)) X dJ1_canEncode_9a6ad_5 (by decide) ?_
    refine r_icmp_gt (tgt := 15) X dJ1_canEncode_9a6ad_8 (by decide) h (fun h => ?_) (fun h => ?_)
    · refine r_iconst (v := (0)) X dJ1_canEncode_9a6ad_15 (by decide) ?_
      exact r_zret2 X rfl dJ1_canEncode_9a6ad_16 h
    · refine r_iconst (v := (1)) X dJ1_canEncode_9a6ad_11 (by decide) ?_
      refine r_goto (tgt := 16) X dJ1_canEncode_9a6ad_12 (by decide) ?_
      exact r_zret2 X rfl dJ1_canEncode_9a6ad_16 h
noncomputable def f_J1_indexOfChar_4cfef_B7 (h0 : Nat) (p1 : Int32) (p2 : Int32) (p3 : Int32) (k7 : Int32 → Int32 → Mm → Option (Int32 × Mm)) (x1 : Int32) (x2 : Int32) (m3 : Mm) : Option (Int32 × Mm) :=
  if p3 ≤ x2 then (some ((-1), m3)) else (grd (inb x2 (ksL.getD h0 0)) (if ¬ ((ksB.getD h0 []).getD x2.toNatClampNeg 0) = x1 then (bnd (x2 + (1)) fun x4 => k7 x1 x4 m3) else (some (x2, m3))))
noncomputable def f_J1_indexOfChar_4cfef (h0 : Nat) (p1 : Int32) (p2 : Int32) (p3 : Int32) (mem : Mm) : Option (Int32 × Mm) :=
  lop (fun _ _ _ => none) (f_J1_indexOfChar_4cfef_B7 h0 p1 p2 p3 ) 4000 (p1.toInt8.toInt32) p2 mem
theorem dd_J1_indexOfChar_4cfef : yJ1_indexOfChar_4cfef.cls ≠ "java/lang/invoke/MethodHandle" ∧ yJ1_indexOfChar_4cfef.cls ≠ "java/lang/invoke/VarHandle" ∧ (parseMethodDescriptor yJ1_indexOfChar_4cfef.desc).map (fun d => d.parameters.length) = some 4 := by decide +kernel
set_option maxHeartbeats 4000000 in
set_option maxRecDepth 100000 in
theorem k_J1_indexOfChar_4cfef {l : Launch} {ad : Nat → Nat} {cy : Nat → ClassId} {dC : Nat → ClassId} {dI : Nat → Nat → Nat} {ks : (Nat → Nat) × (Nat → Nat)} {h0 : Nat} {p1 : Int32} {p2 : Int32} {p3 : Int32} {mem : Mm} {r2 : Int32} {mem2 : Mm} (e0 : h0 < 2) (h : f_J1_indexOfChar_4cfef h0 p1 p2 p3 mem = some (r2, mem2)) : CtI l Lp ad cy dC dI ks yJ1_indexOfChar_4cfef cJ1_indexOfChar_4cfef 6 (some .int) ({ frames := 0, cells := 0, slots := 0, locals := 0 }) [.ref (ks.2 (h0)), .int (p1), .int (p2), .int (p3)] mem r2 mem2 := by
  refine CtI.of (cc := cJ1_indexOfChar_4cfef) (maxL := 6) (ret := (some .int)) (own := RJ1) rfl (by decide) (Nat.le_of_ble_eq_true rfl) ?_
  intro p e s m args below meth c A X
  have hts := X.2.2.2.2.1
  have hJ7 : ∀ (k7 : Int32 → Int32 → Mm → Option (Int32 × Mm)) (hk7 : ∀ (x1 : Int32) (x2 : Int32) (m3 : Mm), k7 x1 x2 m3 = some (r2, mem2) → Jd p l e ({ frames := 0, cells := 0, slots := 0, locals := 0 }) s m args below meth c 6 (MQ below (PsI Lp ad cy dC dI r2 mem2 A) args s 0 0 A) A dC dI cy Lp ad m3 7 [(0, .ref (ks.2 (h0))), (3, .int (p3)), (4, .int (x1)), (5, .int (x2))] []) (x1 : Int32) (x2 : Int32) (m3 : Mm), f_J1_indexOfChar_4cfef_B7 h0 p1 p2 p3 k7 x1 x2 m3 = some (r2, mem2) → Jd p l e ({ frames := 0, cells := 0, slots := 0, locals := 0 }) s m args below meth c 6 (MQ below (PsI Lp ad cy dC dI r2 mem2 A) args s 0 0 A) A dC dI cy Lp ad m3 7 [(0, .ref (ks.2 (h0))), (3, .int (p3)), (4, .int (x1)), (5, .int (x2))] [] := by
    intro k7 hk7 x1 x2 m3 h
    unfold f_J1_indexOfChar_4cfef_B7 at h
    refine r_iload X dJ1_indexOfChar_4cfef_7 3 rfl ?_
    refine r_iload_n X dJ1_indexOfChar_4cfef_9 rfl 1 rfl ?_
    refine r_icmp_ge (tgt := 31) X dJ1_indexOfChar_4cfef_10 (by decide) h (fun h => ?_) (fun h => ?_)
    · refine r_iconst (v := (-1)) X dJ1_indexOfChar_4cfef_31 (by decide) ?_
      exact r_iret2 X rfl dJ1_indexOfChar_4cfef_32 h
    · refine r_aload_n X dJ1_indexOfChar_4cfef_13 rfl 0 rfl ?_
      refine r_iload X dJ1_indexOfChar_4cfef_14 3 rfl ?_
      refine r_sbald X e0 h dJ1_indexOfChar_4cfef_16 (fun h => ?_)
      refine r_iload X dJ1_indexOfChar_4cfef_17 2 rfl ?_
      refine r_icmp_ne (tgt := 25) X dJ1_indexOfChar_4cfef_19 (by decide) h (fun h => ?_) (fun h => ?_)
      · refine r_inc h (fun x4 e9 h => ?_)
        refine r_iinc (v := x4) (lv2 := [(5, .int (x4)), (0, .ref (ks.2 (h0))), (3, .int (p3)), (4, .int (x1))]) X dJ1_indexOfChar_4cfef_25 3 rfl (by rw [e9]; rfl) (by decide) rfl ?_
        refine r_goto (tgt := 7) X dJ1_indexOfChar_4cfef_28 (by decide) ?_
        exact r_sub [1, 2, 3, 0] rfl (hk7 x1 x4 m3 h)
      · refine r_iload X dJ1_indexOfChar_4cfef_22 3 rfl ?_
        exact r_iret2 X rfl dJ1_indexOfChar_4cfef_24 h
  have hL7 : ∀ (n : Nat), ∀ (x1 : Int32) (x2 : Int32) (m3 : Mm), lop (fun _ _ _ => none) (f_J1_indexOfChar_4cfef_B7 h0 p1 p2 p3 ) n x1 x2 m3 = some (r2, mem2) → Jd p l e ({ frames := 0, cells := 0, slots := 0, locals := 0 }) s m args below meth c 6 (MQ below (PsI Lp ad cy dC dI r2 mem2 A) args s 0 0 A) A dC dI cy Lp ad m3 7 [(0, .ref (ks.2 (h0))), (3, .int (p3)), (4, .int (x1)), (5, .int (x2))] [] := by
    intro  n
    induction n with
    | zero => intro _ _ _ h; cases h
    | succ n ih => intro a0 a1 a2 h; exact hJ7  _ ih a0 a1 a2 h
  unfold f_J1_indexOfChar_4cfef at h
  refine r_iload_n X dJ1_indexOfChar_4cfef_0 rfl 1 rfl ?_
  refine r_i2b X dJ1_indexOfChar_4cfef_1 ?_
  refine r_istore (lv2 := [(4, .int (p1.toInt8.toInt32)), (0, .ref (ks.2 (h0))), (1, .int (p1)), (2, .int (p2)), (3, .int (p3))]) X dJ1_indexOfChar_4cfef_2 (by decide) rfl ?_
  refine r_iload_n X dJ1_indexOfChar_4cfef_4 rfl 3 rfl ?_
  refine r_istore (lv2 := [(5, .int (p2)), (4, .int (p1.toInt8.toInt32)), (0, .ref (ks.2 (h0))), (1, .int (p1)), (2, .int (p2)), (3, .int (p3))]) X dJ1_indexOfChar_4cfef_5 (by decide) rfl ?_
  exact r_sub [2, 5, 1, 0] rfl (hL7 4000 (p1.toInt8.toInt32) p2 mem h)
noncomputable def f_J1_indexOf_4cfef (h0 : Nat) (p1 : Int32) (p2 : Int32) (p3 : Int32) (mem : Mm) : Option (Int32 × Mm) :=
  bdI (f_J1_canEncode_9a6ad p1 mem) fun x2 m1 => if ¬ x2 = 0 then (bnd (if p2 < (0) then (0) else p2) fun x3 => bnd (if Int32.ofNat (ksL.getD h0 0) < p3 then Int32.ofNat (ksL.getD h0 0) else p3) fun x4 => if x3 < x4 then (bdI (f_J1_indexOfChar_4cfef h0 p1 x3 x4 m1) fun x6 m5 => some (x6, m5)) else (some ((-1), m1))) else (some ((-1), m1))
theorem dd_J1_indexOf_4cfef : yJ1_indexOf_4cfef.cls ≠ "java/lang/invoke/MethodHandle" ∧ yJ1_indexOf_4cfef.cls ≠ "java/lang/invoke/VarHandle" ∧ (parseMethodDescriptor yJ1_indexOf_4cfef.desc).map (fun d => d.parameters.length) = some 4 := by decide +kernel
set_option maxHeartbeats 4000000 in
set_option maxRecDepth 100000 in
theorem k_J1_indexOf_4cfef {l : Launch} {ad : Nat → Nat} {cy : Nat → ClassId} {dC : Nat → ClassId} {dI : Nat → Nat → Nat} {ks : (Nat → Nat) × (Nat → Nat)} {h0 : Nat} {p1 : Int32} {p2 : Int32} {p3 : Int32} {mem : Mm} {r2 : Int32} {mem2 : Mm} (e0 : h0 < 2) (h : f_J1_indexOf_4cfef h0 p1 p2 p3 mem = some (r2, mem2)) : CtI l Lp ad cy dC dI ks yJ1_indexOf_4cfef cJ1_indexOf_4cfef 4 (some .int) ({ frames := 1, cells := 0, slots := 0, locals := 25 }) [.ref (ks.2 (h0)), .int (p1), .int (p2), .int (p3)] mem r2 mem2 := by
  refine CtI.of (cc := cJ1_indexOf_4cfef) (maxL := 4) (ret := (some .int)) (own := RJ1) rfl (by decide) (Nat.le_of_ble_eq_true rfl) ?_
  intro p e s m args below meth c A X
  have hts := X.2.2.2.2.1
  unfold f_J1_indexOf_4cfef at h
  refine r_iload_n X dJ1_indexOf_4cfef_0 rfl 1 rfl ?_
  refine r_cSI (As := [.int (p1)]) (rest := []) X (fun r9 m9 hg => k_J1_canEncode_9a6ad hg) h uw3_97 uw3_98 uw1_15 uw3_99 rfl rfl dd_J1_canEncode_9a6ad ⟨Nat.le_of_ble_eq_true rfl, Nat.le_of_ble_eq_true rfl⟩ rfl (Nat.le_of_ble_eq_true rfl) dJ1_indexOf_4cfef_1 rfl (fun x2 m1 h => ?_)
  refine r_if_ne (tgt := 9) X dJ1_indexOf_4cfef_4 (by decide) h (fun h => ?_) (fun h => ?_)
  · refine r_iload_n X dJ1_indexOf_4cfef_9 rfl 2 rfl ?_
    refine r_iconst (v := (0)) X dJ1_indexOf_4cfef_10 (by decide) ?_
    refine r_mmax X uw3_100 uw3_101 uw1_18 uw3_102 (Nat.le_of_ble_eq_true rfl) (Nat.le_of_ble_eq_true rfl) dJ1_indexOf_4cfef_11 ?_
    refine r_nmI h (fun x3 h => ?_)
    refine r_istore_n (lv2 := [(2, .int (x3)), (0, .ref (ks.2 (h0))), (1, .int (p1)), (3, .int (p3))]) X dJ1_indexOf_4cfef_14 rfl (by decide) rfl ?_
    refine r_iload_n X dJ1_indexOf_4cfef_15 rfl 3 rfl ?_
    refine r_aload_n X dJ1_indexOf_4cfef_16 rfl 1 rfl ?_
    refine r_slen X e0 dJ1_indexOf_4cfef_17 ?_
    refine r_mmin X uw3_103 uw3_104 uw1_18 uw3_105 (Nat.le_of_ble_eq_true rfl) (Nat.le_of_ble_eq_true rfl) dJ1_indexOf_4cfef_18 ?_
    refine r_nmI h (fun x4 h => ?_)
    refine r_istore_n (lv2 := [(3, .int (x4)), (2, .int (x3)), (0, .ref (ks.2 (h0))), (1, .int (p1))]) X dJ1_indexOf_4cfef_21 rfl (by decide) rfl ?_
    refine r_iload_n X dJ1_indexOf_4cfef_22 rfl 1 rfl ?_
    refine r_iload_n X dJ1_indexOf_4cfef_23 rfl 0 rfl ?_
    refine r_icmp_lt (tgt := 29) X dJ1_indexOf_4cfef_24 (by decide) h (fun h => ?_) (fun h => ?_)
    · refine r_aload_n X dJ1_indexOf_4cfef_29 rfl 2 rfl ?_
      refine r_iload_n X dJ1_indexOf_4cfef_30 rfl 3 rfl ?_
      refine r_iload_n X dJ1_indexOf_4cfef_31 rfl 1 rfl ?_
      refine r_iload_n X dJ1_indexOf_4cfef_32 rfl 0 rfl ?_
      refine r_cSI (As := [.ref (ks.2 (h0)), .int (p1), .int (x3), .int (x4)]) (rest := []) X (fun r9 m9 hg => k_J1_indexOfChar_4cfef e0 hg) h uw3_106 uw3_107 uw1_15 uw3_108 rfl rfl dd_J1_indexOfChar_4cfef ⟨Nat.le_of_ble_eq_true rfl, Nat.le_of_ble_eq_true rfl⟩ rfl (Nat.le_of_ble_eq_true rfl) dJ1_indexOf_4cfef_33 rfl (fun x6 m5 h => ?_)
      exact r_iret2 X rfl dJ1_indexOf_4cfef_36 h
    · refine r_iconst (v := (-1)) X dJ1_indexOf_4cfef_27 (by decide) ?_
      exact r_iret2 X rfl dJ1_indexOf_4cfef_28 h
  · refine r_iconst (v := (-1)) X dJ1_indexOf_4cfef_7 (by decide) ?_
    exact r_iret2 X rfl dJ1_indexOf_4cfef_8 h
noncomputable def f_J0_indexOf_7cf53 (h0 : Nat) (p1 : Int32) (p2 : Int32) (mem : Mm) : Option (Int32 × Mm) :=
  bdI (f_J0_isLatin1_aae02 h0 mem) fun x2 m1 => if x2 = 0 then (none) else (bdI (f_J0_length_8abf5 h0 m1) fun x6 m5 => bdI (f_J1_indexOf_4cfef h0 p1 p2 x6 m5) fun x8 m7 => some (x8, m7))
theorem dd_J0_indexOf_7cf53 : yJ0_indexOf_7cf53.cls = RJ0 ∧ yJ0_indexOf_7cf53.cls ≠ "java/lang/invoke/MethodHandle" ∧ yJ0_indexOf_7cf53.cls ≠ "java/lang/invoke/VarHandle" ∧ (parseMethodDescriptor yJ0_indexOf_7cf53.desc).map (fun d => d.parameters.length) = some 2 := by decide +kernel
set_option maxHeartbeats 4000000 in
set_option maxRecDepth 100000 in
theorem k_J0_indexOf_7cf53 {l : Launch} {ad : Nat → Nat} {cy : Nat → ClassId} {dC : Nat → ClassId} {dI : Nat → Nat → Nat} {ks : (Nat → Nat) × (Nat → Nat)} {h0 : Nat} {p1 : Int32} {p2 : Int32} {mem : Mm} {r2 : Int32} {mem2 : Mm} (e0 : h0 < 2) (h : f_J0_indexOf_7cf53 h0 p1 p2 mem = some (r2, mem2)) : CtI l Lp ad cy dC dI ks yJ0_indexOf_7cf53 cJ0_indexOf_7cf53 3 (some .int) ({ frames := 2, cells := 0, slots := 0, locals := 48 }) [.ref (ks.1 (h0)), .int (p1), .int (p2)] mem r2 mem2 := by
  refine CtI.of (cc := cJ0_indexOf_7cf53) (maxL := 3) (ret := (some .int)) (own := RJ0) rfl (by decide) (Nat.le_of_ble_eq_true rfl) ?_
  intro p e s m args below meth c A X
  have hts := X.2.2.2.2.1
  unfold f_J0_indexOf_7cf53 at h
  refine r_aload_n X dJ0_indexOf_7cf53_0 rfl 0 rfl ?_
  refine r_cKI (As := []) (rest := []) X (fun r9 m9 hg => k_J0_isLatin1_aae02 e0 hg) h e0 uw3_50 uw3_51 uw3_52 uw1_14 uw3_53 rfl rfl dd_J0_isLatin1_aae02 ⟨Nat.le_of_ble_eq_true rfl, Nat.le_of_ble_eq_true rfl⟩ rfl (Nat.le_of_ble_eq_true rfl) dJ0_indexOf_7cf53_1 rfl (fun x2 m1 h => ?_)
  refine r_if_eq (tgt := 23) X dJ0_indexOf_7cf53_4 (by decide) h (fun h => ?_) (fun h => ?_)
  · cases h
  · refine r_aload_n X dJ0_indexOf_7cf53_7 rfl 0 rfl ?_
    refine r_sval X e0 uw8_174 dJ0_indexOf_7cf53_8 ?_
    refine r_iload_n X dJ0_indexOf_7cf53_11 rfl 1 rfl ?_
    refine r_iload_n X dJ0_indexOf_7cf53_12 rfl 2 rfl ?_
    refine r_aload_n X dJ0_indexOf_7cf53_13 rfl 0 rfl ?_
    refine r_cKI (As := []) (rest := [.int (p2), .int (p1), .ref (ks.2 (h0))]) X (fun r9 m9 hg => k_J0_length_8abf5 e0 hg) h e0 uw3_93 uw3_37 uw3_38 uw1_14 uw3_39 rfl rfl dd_J0_length_8abf5 ⟨Nat.le_of_ble_eq_true rfl, Nat.le_of_ble_eq_true rfl⟩ rfl (Nat.le_of_ble_eq_true rfl) dJ0_indexOf_7cf53_14 rfl (fun x6 m5 h => ?_)
    refine r_cSI (As := [.ref (ks.2 (h0)), .int (p1), .int (p2), .int (x6)]) (rest := []) X (fun r9 m9 hg => k_J1_indexOf_4cfef e0 hg) h uw3_94 uw3_95 uw1_15 uw3_96 rfl rfl dd_J1_indexOf_4cfef ⟨Nat.le_of_ble_eq_true rfl, Nat.le_of_ble_eq_true rfl⟩ rfl (Nat.le_of_ble_eq_true rfl) dJ0_indexOf_7cf53_17 rfl (fun x8 m7 h => ?_)
    refine r_goto (tgt := 36) X dJ0_indexOf_7cf53_20 (by decide) ?_
    exact r_iret2 X rfl dJ0_indexOf_7cf53_36 h
noncomputable def f_J0_indexOf_0f7a4 (h0 : Nat) (p1 : Int32) (mem : Mm) : Option (Int32 × Mm) :=
  bdI (f_J0_indexOf_7cf53 h0 p1 ((0)) mem) fun x2 m1 => some (x2, m1)
theorem dd_J0_indexOf_0f7a4 : yJ0_indexOf_0f7a4.cls = RJ0 ∧ yJ0_indexOf_0f7a4.cls ≠ "java/lang/invoke/MethodHandle" ∧ yJ0_indexOf_0f7a4.cls ≠ "java/lang/invoke/VarHandle" ∧ (parseMethodDescriptor yJ0_indexOf_0f7a4.desc).map (fun d => d.parameters.length) = some 1 := by decide +kernel
set_option maxHeartbeats 4000000 in
set_option maxRecDepth 100000 in
theorem k_J0_indexOf_0f7a4 {l : Launch} {ad : Nat → Nat} {cy : Nat → ClassId} {dC : Nat → ClassId} {dI : Nat → Nat → Nat} {ks : (Nat → Nat) × (Nat → Nat)} {h0 : Nat} {p1 : Int32} {mem : Mm} {r2 : Int32} {mem2 : Mm} (e0 : h0 < 2) (h : f_J0_indexOf_0f7a4 h0 p1 mem = some (r2, mem2)) : CtI l Lp ad cy dC dI ks yJ0_indexOf_0f7a4 cJ0_indexOf_0f7a4 2 (some .int) ({ frames := 3, cells := 0, slots := 0, locals := 70 }) [.ref (ks.1 (h0)), .int (p1)] mem r2 mem2 := by
  refine CtI.of (cc := cJ0_indexOf_0f7a4) (maxL := 2) (ret := (some .int)) (own := RJ0) rfl (by decide) (Nat.le_of_ble_eq_true rfl) ?_
  intro p e s m args below meth c A X
  have hts := X.2.2.2.2.1
  unfold f_J0_indexOf_0f7a4 at h
  refine r_aload_n X dJ0_indexOf_0f7a4_0 rfl 0 rfl ?_
  refine r_iload_n X dJ0_indexOf_0f7a4_1 rfl 1 rfl ?_
  refine r_iconst (v := (0)) X dJ0_indexOf_0f7a4_2 (by decide) ?_
  refine r_cKI (As := [.int (p1), .int ((0))]) (rest := []) X (fun r9 m9 hg => k_J0_indexOf_7cf53 e0 hg) h e0 uw3_89 uw3_90 uw3_91 uw1_14 uw3_92 rfl rfl dd_J0_indexOf_7cf53 ⟨Nat.le_of_ble_eq_true rfl, Nat.le_of_ble_eq_true rfl⟩ rfl (Nat.le_of_ble_eq_true rfl) dJ0_indexOf_0f7a4_3 rfl (fun x2 m1 h => ?_)
  exact r_iret2 X rfl dJ0_indexOf_0f7a4_6 h
noncomputable def f_X9_signAt (p1 : Int32) (mem : Mm) : Option (Int32 × Mm) :=
  if p1 < 0 then (some ((0), mem)) else (if (gI mem 1 1) ≤ p1 then (some ((0), mem)) else (if ((1000)) ≤ p1 then (some ((0), mem)) else (grd (inb p1 1000) (some (gI mem 2 p1.toNatClampNeg, mem)))))
theorem dd_X9_signAt : yX9_signAt.cls = RX9 ∧ yX9_signAt.cls ≠ "java/lang/invoke/MethodHandle" ∧ yX9_signAt.cls ≠ "java/lang/invoke/VarHandle" ∧ (parseMethodDescriptor yX9_signAt.desc).map (fun d => d.parameters.length) = some 1 := by decide +kernel
set_option maxHeartbeats 4000000 in
set_option maxRecDepth 100000 in
theorem k_X9_signAt {l : Launch} {ad : Nat → Nat} {cy : Nat → ClassId} {dC : Nat → ClassId} {dI : Nat → Nat → Nat} {ks : (Nat → Nat) × (Nat → Nat)} {p1 : Int32} {mem : Mm} {r2 : Int32} {mem2 : Mm}  (h : f_X9_signAt p1 mem = some (r2, mem2)) : CtI l Lp ad cy dC dI ks yX9_signAt cX9_signAt 2 (some .int) ({ frames := 0, cells := 0, slots := 0, locals := 0 }) [.ref (ad (1)), .int (p1)] mem r2 mem2 := by
  refine CtI.of (cc := cX9_signAt) (maxL := 2) (ret := (some .int)) (own := RX9) rfl (by decide) (Nat.le_of_ble_eq_true rfl) ?_
  intro p e s m args below meth c A X
  have hts := X.2.2.2.2.1
  unfold f_X9_signAt at h
  refine r_iload_n X dX9_signAt_0 rfl 1 rfl ?_
  refine r_if_lt (tgt := 28) X dX9_signAt_1 (by decide) h (fun h => ?_) (fun h => ?_)
  · refine r_iconst (v := (0)) X dX9_signAt_28 (by decide) ?_
    exact r_iret2 X rfl dX9_signAt_29 h
  · refine r_iload_n X dX9_signAt_4 rfl 1 rfl ?_
    refine r_aload_n X dX9_signAt_5 rfl 0 rfl ?_
    refine r_getI X (k := 1) (Lp_N Lpk_1 rfl) Lpk_1 rfl (by decide) ui_9 (by decide) uw1_40 rfl dX9_signAt_6 ?_
    refine r_icmp_ge (tgt := 28) X dX9_signAt_9 (by decide) h (fun h => ?_) (fun h => ?_)
    · refine r_iconst (v := (0)) X dX9_signAt_28 (by decide) ?_
      exact r_iret2 X rfl dX9_signAt_29 h
    · refine r_iload_n X dX9_signAt_12 rfl 1 rfl ?_
      refine r_sipush (v := (1000)) X dX9_signAt_13 (by decide) ?_
      refine r_icmp_ge (tgt := 28) X dX9_signAt_16 (by decide) h (fun h => ?_) (fun h => ?_)
      · refine r_iconst (v := (0)) X dX9_signAt_28 (by decide) ?_
        exact r_iret2 X rfl dX9_signAt_29 h
      · refine r_aload_n X dX9_signAt_19 rfl 0 rfl ?_
        refine r_getF X (k := 0) (of := 1) rfl (Lp_N Lpk_1 rfl) Lpk_1 rfl (by decide) ui_9 (by decide) uw1_39 rfl dX9_signAt_20 ?_
        refine r_iload_n X dX9_signAt_23 rfl 1 rfl ?_
        refine r_bald X (Lp_N Lpk_2 rfl) Lpk_2 h dX9_signAt_24 (fun h => ?_)
        refine r_goto (tgt := 29) X dX9_signAt_25 (by decide) ?_
        exact r_iret2 X rfl dX9_signAt_29 h
noncomputable def f_J3_checkIndex_8e157 (p0 : Int32) (p1 : Int32) (mem : Mm) : Option (Int32 × Mm) :=
  if p0 < 0 then (none) else (if p0 < p1 then (some (p0, mem)) else (none))
theorem dd_J3_checkIndex_8e157 : yJ3_checkIndex_8e157.cls ≠ "java/lang/invoke/MethodHandle" ∧ yJ3_checkIndex_8e157.cls ≠ "java/lang/invoke/VarHandle" ∧ (parseMethodDescriptor yJ3_checkIndex_8e157.desc).map (fun d => d.parameters.length) = some 3 := by decide +kernel
set_option maxHeartbeats 4000000 in
set_option maxRecDepth 100000 in
theorem k_J3_checkIndex_8e157_n {l : Launch} {ad : Nat → Nat} {cy : Nat → ClassId} {dC : Nat → ClassId} {dI : Nat → Nat → Nat} {ks : (Nat → Nat) × (Nat → Nat)} {p0 : Int32} {p1 : Int32} {mem : Mm} {r2 : Int32} {mem2 : Mm}  (h : f_J3_checkIndex_8e157 p0 p1 mem = some (r2, mem2)) : CtI l Lp ad cy dC dI ks yJ3_checkIndex_8e157 cJ3_checkIndex_8e157 3 (some .int) ({ frames := 0, cells := 0, slots := 0, locals := 0 }) [.int (p0), .int (p1), .null] mem r2 mem2 := by
  refine CtI.of (cc := cJ3_checkIndex_8e157) (maxL := 3) (ret := (some .int)) (own := RJ3) rfl (by decide) (Nat.le_of_ble_eq_true rfl) ?_
  intro p e s m args below meth c A X
  have hts := X.2.2.2.2.1
  unfold f_J3_checkIndex_8e157 at h
  refine r_iload_n X dJ3_checkIndex_8e157_0 rfl 0 rfl ?_
  refine r_if_lt (tgt := 9) X dJ3_checkIndex_8e157_1 (by decide) h (fun h => ?_) (fun h => ?_)
  · cases h
  · refine r_iload_n X dJ3_checkIndex_8e157_4 rfl 0 rfl ?_
    refine r_iload_n X dJ3_checkIndex_8e157_5 rfl 1 rfl ?_
    refine r_icmp_lt (tgt := 16) X dJ3_checkIndex_8e157_6 (by decide) h (fun h => ?_) (fun h => ?_)
    · refine r_iload_n X dJ3_checkIndex_8e157_16 rfl 0 rfl ?_
      exact r_iret2 X rfl dJ3_checkIndex_8e157_17 h
    · cases h
set_option maxHeartbeats 4000000 in
set_option maxRecDepth 100000 in
theorem k_J3_checkIndex_8e157_t {l : Launch} {ad : Nat → Nat} {cy : Nat → ClassId} {dC : Nat → ClassId} {dI : Nat → Nat → Nat} {ks : (Nat → Nat) × (Nat → Nat)} {p0 : Int32} {p1 : Int32} {t9 : Nat} {mem : Mm} {r2 : Int32} {mem2 : Mm}  (h : f_J3_checkIndex_8e157 p0 p1 mem = some (r2, mem2)) : CtI l Lp ad cy dC dI ks yJ3_checkIndex_8e157 cJ3_checkIndex_8e157 3 (some .int) ({ frames := 0, cells := 0, slots := 0, locals := 0 }) [.int (p0), .int (p1), .ref t9] mem r2 mem2 := by
  refine CtI.of (cc := cJ3_checkIndex_8e157) (maxL := 3) (ret := (some .int)) (own := RJ3) rfl (by decide) (Nat.le_of_ble_eq_true rfl) ?_
  intro p e s m args below meth c A X
  have hts := X.2.2.2.2.1
  unfold f_J3_checkIndex_8e157 at h
  refine r_iload_n X dJ3_checkIndex_8e157_0 rfl 0 rfl ?_
  refine r_if_lt (tgt := 9) X dJ3_checkIndex_8e157_1 (by decide) h (fun h => ?_) (fun h => ?_)
  · cases h
  · refine r_iload_n X dJ3_checkIndex_8e157_4 rfl 0 rfl ?_
    refine r_iload_n X dJ3_checkIndex_8e157_5 rfl 1 rfl ?_
    refine r_icmp_lt (tgt := 16) X dJ3_checkIndex_8e157_6 (by decide) h (fun h => ?_) (fun h => ?_)
    · refine r_iload_n X dJ3_checkIndex_8e157_16 rfl 0 rfl ?_
      exact r_iret2 X rfl dJ3_checkIndex_8e157_17 h
    · cases h
noncomputable def f_J0_checkIndex_df160 (p0 : Int32) (p1 : Int32) (mem : Mm) : Option Mm :=
  bdI (f_J3_checkIndex_8e157 p0 p1 mem) fun x2 m1 => some m1
theorem dd_J0_checkIndex_df160 : yJ0_checkIndex_df160.cls ≠ "java/lang/invoke/MethodHandle" ∧ yJ0_checkIndex_df160.cls ≠ "java/lang/invoke/VarHandle" ∧ (parseMethodDescriptor yJ0_checkIndex_df160.desc).map (fun d => d.parameters.length) = some 2 := by decide +kernel
set_option maxHeartbeats 4000000 in
set_option maxRecDepth 100000 in
theorem k_J0_checkIndex_df160 {l : Launch} {ad : Nat → Nat} {cy : Nat → ClassId} {dC : Nat → ClassId} {dI : Nat → Nat → Nat} {ks : (Nat → Nat) × (Nat → Nat)} {p0 : Int32} {p1 : Int32} {mem : Mm} {mem2 : Mm}  (h : f_J0_checkIndex_df160 p0 p1 mem = some mem2) : CtV l Lp ad cy dC dI ks yJ0_checkIndex_df160 cJ0_checkIndex_df160 2 none ({ frames := 1, cells := 0, slots := 0, locals := 22 }) [.int (p0), .int (p1)] mem mem2 := by
  refine CtV.of (cc := cJ0_checkIndex_df160) (maxL := 2) (ret := none) (own := RJ0) rfl (by decide) (Nat.le_of_ble_eq_true rfl) ?_
  intro p e s m args below meth c A X
  have hts := X.2.2.2.2.1
  unfold f_J0_checkIndex_df160 at h
  refine r_iload_n X dJ0_checkIndex_df160_0 rfl 0 rfl ?_
  refine r_iload_n X dJ0_checkIndex_df160_1 rfl 1 rfl ?_
  refine r_gsF X uw3_60 dJ0_checkIndex_df160_2 ?_ (fun t9 => ?_)
  · refine r_cSI (As := [.int (p0), .int (p1), .null]) (rest := []) X (fun r9 m9 hg => k_J3_checkIndex_8e157_n hg) h uw3_62 uw3_63 uw1_16 uw3_64 rfl rfl dd_J3_checkIndex_8e157 ⟨Nat.le_of_ble_eq_true rfl, Nat.le_of_ble_eq_true rfl⟩ rfl (Nat.le_of_ble_eq_true rfl) dJ0_checkIndex_df160_5 rfl (fun x2 m1 h => ?_)
    refine r_pop X dJ0_checkIndex_df160_8 rfl ?_
    exact r_vret X rfl dJ0_checkIndex_df160_9 h
  · refine r_cSI (As := [.int (p0), .int (p1), .ref t9]) (rest := []) X (fun r9 m9 hg => k_J3_checkIndex_8e157_t hg) h uw3_62 uw3_63 uw1_16 uw3_64 rfl rfl dd_J3_checkIndex_8e157 ⟨Nat.le_of_ble_eq_true rfl, Nat.le_of_ble_eq_true rfl⟩ rfl (Nat.le_of_ble_eq_true rfl) dJ0_checkIndex_df160_5 rfl (fun x2 m1 h => ?_)
    refine r_pop X dJ0_checkIndex_df160_8 rfl ?_
    exact r_vret X rfl dJ0_checkIndex_df160_9 h
noncomputable def f_J1_charAt_3b067 (h0 : Nat) (p1 : Int32) (mem : Mm) : Option (Int32 × Mm) :=
  bdV (f_J0_checkIndex_df160 p1 (Int32.ofNat (ksL.getD h0 0)) mem) fun m1 => grd (inb p1 (ksL.getD h0 0)) (grd (decide (vp_nar .char (((((ksB.getD h0 []).getD p1.toNatClampNeg 0) &&& ((255))).toUInt32 % 65536).toInt32) = (((((ksB.getD h0 []).getD p1.toNatClampNeg 0) &&& ((255))).toUInt32 % 65536).toInt32))) (some (((((ksB.getD h0 []).getD p1.toNatClampNeg 0) &&& ((255))).toUInt32 % 65536).toInt32, m1)))
theorem dd_J1_charAt_3b067 : yJ1_charAt_3b067.cls ≠ "java/lang/invoke/MethodHandle" ∧ yJ1_charAt_3b067.cls ≠ "java/lang/invoke/VarHandle" ∧ (parseMethodDescriptor yJ1_charAt_3b067.desc).map (fun d => d.parameters.length) = some 2 := by decide +kernel
set_option maxHeartbeats 4000000 in
set_option maxRecDepth 100000 in
theorem k_J1_charAt_3b067 {l : Launch} {ad : Nat → Nat} {cy : Nat → ClassId} {dC : Nat → ClassId} {dI : Nat → Nat → Nat} {ks : (Nat → Nat) × (Nat → Nat)} {h0 : Nat} {p1 : Int32} {mem : Mm} {r2 : Int32} {mem2 : Mm} (e0 : h0 < 2) (h : f_J1_charAt_3b067 h0 p1 mem = some (r2, mem2)) : CtI l Lp ad cy dC dI ks yJ1_charAt_3b067 cJ1_charAt_3b067 2 (some .char) ({ frames := 2, cells := 0, slots := 0, locals := 43 }) [.ref (ks.2 (h0)), .int (p1)] mem r2 mem2 := by
  refine CtI.of (cc := cJ1_charAt_3b067) (maxL := 2) (ret := (some .char)) (own := RJ1) rfl (by decide) (Nat.le_of_ble_eq_true rfl) ?_
  intro p e s m args below meth c A X
  have hts := X.2.2.2.2.1
  unfold f_J1_charAt_3b067 at h
  refine r_iload_n X dJ1_charAt_3b067_0 rfl 1 rfl ?_
  refine r_aload_n X dJ1_charAt_3b067_1 rfl 0 rfl ?_
  refine r_slen X e0 dJ1_charAt_3b067_2 ?_
  refine r_cSV (As := [.int (p1), .int (Int32.ofNat (ksL.getD h0 0))]) (rest := []) X (fun m9 hg => k_J0_checkIndex_df160 hg) h uw3_57 uw3_58 uw1_14 uw3_59 rfl rfl dd_J0_checkIndex_df160 ⟨Nat.le_of_ble_eq_true rfl, Nat.le_of_ble_eq_true rfl⟩ rfl (Nat.le_of_ble_eq_true rfl) dJ1_charAt_3b067_3 rfl (fun m1 h => ?_)
  refine r_aload_n X dJ1_charAt_3b067_6 rfl 0 rfl ?_
  refine r_iload_n X dJ1_charAt_3b067_7 rfl 1 rfl ?_
  refine r_sbald X e0 h dJ1_charAt_3b067_8 (fun h => ?_)
  refine r_sipush (v := (255)) X dJ1_charAt_3b067_9 (by decide) ?_
  refine r_iand X dJ1_charAt_3b067_12 ?_
  refine r_i2c X dJ1_charAt_3b067_13 ?_
  exact r_cret2 X rfl dJ1_charAt_3b067_14 h
noncomputable def f_J0_charAt_5068e (h0 : Nat) (p1 : Int32) (mem : Mm) : Option (Int32 × Mm) :=
  bdI (f_J0_isLatin1_aae02 h0 mem) fun x2 m1 => if x2 = 0 then (none) else (bdI (f_J1_charAt_3b067 h0 p1 m1) fun x4 m3 => grd (decide (vp_nar .char x4 = x4)) (some (x4, m3)))
theorem dd_J0_charAt_5068e : yJ0_charAt_5068e.cls = RJ0 ∧ yJ0_charAt_5068e.cls ≠ "java/lang/invoke/MethodHandle" ∧ yJ0_charAt_5068e.cls ≠ "java/lang/invoke/VarHandle" ∧ (parseMethodDescriptor yJ0_charAt_5068e.desc).map (fun d => d.parameters.length) = some 1 := by decide +kernel
set_option maxHeartbeats 4000000 in
set_option maxRecDepth 100000 in
theorem k_J0_charAt_5068e {l : Launch} {ad : Nat → Nat} {cy : Nat → ClassId} {dC : Nat → ClassId} {dI : Nat → Nat → Nat} {ks : (Nat → Nat) × (Nat → Nat)} {h0 : Nat} {p1 : Int32} {mem : Mm} {r2 : Int32} {mem2 : Mm} (e0 : h0 < 2) (h : f_J0_charAt_5068e h0 p1 mem = some (r2, mem2)) : CtI l Lp ad cy dC dI ks yJ0_charAt_5068e cJ0_charAt_5068e 2 (some .char) ({ frames := 3, cells := 0, slots := 0, locals := 64 }) [.ref (ks.1 (h0)), .int (p1)] mem r2 mem2 := by
  refine CtI.of (cc := cJ0_charAt_5068e) (maxL := 2) (ret := (some .char)) (own := RJ0) rfl (by decide) (Nat.le_of_ble_eq_true rfl) ?_
  intro p e s m args below meth c A X
  have hts := X.2.2.2.2.1
  unfold f_J0_charAt_5068e at h
  refine r_aload_n X dJ0_charAt_5068e_0 rfl 0 rfl ?_
  refine r_cKI (As := []) (rest := []) X (fun r9 m9 hg => k_J0_isLatin1_aae02 e0 hg) h e0 uw3_50 uw3_51 uw3_52 uw1_14 uw3_53 rfl rfl dd_J0_isLatin1_aae02 ⟨Nat.le_of_ble_eq_true rfl, Nat.le_of_ble_eq_true rfl⟩ rfl (Nat.le_of_ble_eq_true rfl) dJ0_charAt_5068e_1 rfl (fun x2 m1 h => ?_)
  refine r_if_eq (tgt := 16) X dJ0_charAt_5068e_4 (by decide) h (fun h => ?_) (fun h => ?_)
  · cases h
  · refine r_aload_n X dJ0_charAt_5068e_7 rfl 0 rfl ?_
    refine r_sval X e0 uw8_174 dJ0_charAt_5068e_8 ?_
    refine r_iload_n X dJ0_charAt_5068e_11 rfl 1 rfl ?_
    refine r_cSI (As := [.ref (ks.2 (h0)), .int (p1)]) (rest := []) X (fun r9 m9 hg => k_J1_charAt_3b067 e0 hg) h uw3_54 uw3_55 uw1_15 uw3_56 rfl rfl dd_J1_charAt_3b067 ⟨Nat.le_of_ble_eq_true rfl, Nat.le_of_ble_eq_true rfl⟩ rfl (Nat.le_of_ble_eq_true rfl) dJ0_charAt_5068e_12 rfl (fun x4 m3 h => ?_)
    exact r_cret2 X rfl dJ0_charAt_5068e_15 h
noncomputable def f_X9_wordNumber_J66 (p0 : Int64) (k8 : Int64 → Int32 → Int32 → Mm → Option (Int32 × Mm)) (x11 : Int64) (x12 : Int32) (x13 : Int32) (m14 : Mm) : Option (Int32 × Mm) :=
  bnd (x13 + (1)) fun x15 => k8 x11 x12 x15 m14
noncomputable def f_X9_wordNumber_B8 (p0 : Int64) (k8 : Int64 → Int32 → Int32 → Mm → Option (Int32 × Mm)) (x1 : Int64) (x2 : Int32) (x3 : Int32) (m4 : Mm) : Option (Int32 × Mm) :=
  bdI (f_J0_length_8abf5 0 m4) fun x6 m5 => if x6 ≤ x3 then (some ((29), m5)) else (bdI (f_J0_charAt_5068e 0 x3 m5) fun x8 m7 => if x8 = ((32)) then (if ¬ (lg_cmp x1 p0) = 0 then (bnd (x2 + (1)) fun x9 => f_X9_wordNumber_J66 p0 k8 ((0)) x9 x3 m7) else (some (x2, m7))) else (bnd ((x1 * ((32))) + (((x8 - ((97))) + ((1))).toInt64)) fun x10 => f_X9_wordNumber_J66 p0 k8 x10 x2 x3 m7))
noncomputable def f_X9_wordNumber (p0 : Int64) (mem : Mm) : Option (Int32 × Mm) :=
  lop (fun _ _ _ _ => none) (f_X9_wordNumber_B8 p0 ) 4000 ((0)) ((0)) ((0)) mem
theorem dd_X9_wordNumber : yX9_wordNumber.cls ≠ "java/lang/invoke/MethodHandle" ∧ yX9_wordNumber.cls ≠ "java/lang/invoke/VarHandle" ∧ (parseMethodDescriptor yX9_wordNumber.desc).map (fun d => d.parameters.length) = some 1 := by decide +kernel
set_option maxHeartbeats 4000000 in
set_option maxRecDepth 100000 in
theorem k_X9_wordNumber {l : Launch} {ad : Nat → Nat} {cy : Nat → ClassId} {dC : Nat → ClassId} {dI : Nat → Nat → Nat} {ks : (Nat → Nat) × (Nat → Nat)} {p0 : Int64} {mem : Mm} {r2 : Int32} {mem2 : Mm}  (h : f_X9_wordNumber p0 mem = some (r2, mem2)) : CtI l Lp ad cy dC dI ks yX9_wordNumber cX9_wordNumber 7 (some .int) ({ frames := 4, cells := 0, slots := 0, locals := 85 }) [.long (p0)] mem r2 mem2 := by
  refine CtI.of (cc := cX9_wordNumber) (maxL := 7) (ret := (some .int)) (own := RX9) rfl (by decide) (Nat.le_of_ble_eq_true rfl) ?_
  intro p e s m args below meth c A X
  have hts := X.2.2.2.2.1
  have hJ66 : ∀ (k8 : Int64 → Int32 → Int32 → Mm → Option (Int32 × Mm)) (hk8 : ∀ (x1 : Int64) (x2 : Int32) (x3 : Int32) (m4 : Mm), k8 x1 x2 x3 m4 = some (r2, mem2) → Jd p l e ({ frames := 4, cells := 0, slots := 0, locals := 85 }) s m args below meth c 7 (MQ below (PsI Lp ad cy dC dI r2 mem2 A) args s 0 0 A) A dC dI cy Lp ad m4 8 [(0, .long (p0)), (2, .long (x1)), (4, .int (x2)), (5, .int (x3))] []) (x11 : Int64) (x12 : Int32) (x13 : Int32) (m14 : Mm), f_X9_wordNumber_J66 p0 k8 x11 x12 x13 m14 = some (r2, mem2) → Jd p l e ({ frames := 4, cells := 0, slots := 0, locals := 85 }) s m args below meth c 7 (MQ below (PsI Lp ad cy dC dI r2 mem2 A) args s 0 0 A) A dC dI cy Lp ad m14 66 [(0, .long (p0)), (2, .long (x11)), (4, .int (x12)), (5, .int (x13))] [] := by
    intro k8 hk8 x11 x12 x13 m14 h
    unfold f_X9_wordNumber_J66 at h
    refine r_inc h (fun x15 e9 h => ?_)
    refine r_iinc (v := x15) (lv2 := [(5, .int (x15)), (0, .long (p0)), (2, .long (x11)), (4, .int (x12))]) X dX9_wordNumber_66 3 rfl (by rw [e9]; rfl) (by decide) rfl ?_
    refine r_goto (tgt := 8) X dX9_wordNumber_69 (by decide) ?_
    exact r_sub [1, 2, 3, 0] rfl (hk8 x11 x12 x15 m14 h)
  have hJ8 : ∀ (k8 : Int64 → Int32 → Int32 → Mm → Option (Int32 × Mm)) (hk8 : ∀ (x1 : Int64) (x2 : Int32) (x3 : Int32) (m4 : Mm), k8 x1 x2 x3 m4 = some (r2, mem2) → Jd p l e ({ frames := 4, cells := 0, slots := 0, locals := 85 }) s m args below meth c 7 (MQ below (PsI Lp ad cy dC dI r2 mem2 A) args s 0 0 A) A dC dI cy Lp ad m4 8 [(0, .long (p0)), (2, .long (x1)), (4, .int (x2)), (5, .int (x3))] []) (x1 : Int64) (x2 : Int32) (x3 : Int32) (m4 : Mm), f_X9_wordNumber_B8 p0 k8 x1 x2 x3 m4 = some (r2, mem2) → Jd p l e ({ frames := 4, cells := 0, slots := 0, locals := 85 }) s m args below meth c 7 (MQ below (PsI Lp ad cy dC dI r2 mem2 A) args s 0 0 A) A dC dI cy Lp ad m4 8 [(0, .long (p0)), (2, .long (x1)), (4, .int (x2)), (5, .int (x3))] [] := by
    intro k8 hk8 x1 x2 x3 m4 h
    unfold f_X9_wordNumber_B8 at h
    refine r_iload X dX9_wordNumber_8 3 rfl ?_
    refine r_ldcS0 X dX9_wordNumber_10 rfl ?_
    refine r_cKI (As := []) (rest := [.int (x3)]) X (fun r9 m9 hg => k_J0_length_8abf5 (by decide) hg) h (by decide) uw3_36 uw3_37 uw3_38 uw1_14 uw3_39 rfl rfl dd_J0_length_8abf5 ⟨Nat.le_of_ble_eq_true rfl, Nat.le_of_ble_eq_true rfl⟩ rfl (Nat.le_of_ble_eq_true rfl) dX9_wordNumber_12 rfl (fun x6 m5 h => ?_)
    refine r_icmp_ge (tgt := 72) X dX9_wordNumber_15 (by decide) h (fun h => ?_) (fun h => ?_)
    · refine r_bipush (v := (29)) X dX9_wordNumber_72 (by decide) ?_
      exact r_iret2 X rfl dX9_wordNumber_74 h
    · refine r_ldcS0 X dX9_wordNumber_18 rfl ?_
      refine r_iload X dX9_wordNumber_20 3 rfl ?_
      refine r_cKI (As := [.int (x3)]) (rest := []) X (fun r9 m9 hg => k_J0_charAt_5068e (by decide) hg) h (by decide) uw3_46 uw3_47 uw3_48 uw1_14 uw3_49 rfl rfl dd_J0_charAt_5068e ⟨Nat.le_of_ble_eq_true rfl, Nat.le_of_ble_eq_true rfl⟩ rfl (Nat.le_of_ble_eq_true rfl) dX9_wordNumber_22 rfl (fun x8 m7 h => ?_)
      refine r_istore (lv2 := [(6, .int (x8)), (0, .long (p0)), (2, .long (x1)), (4, .int (x2)), (5, .int (x3))]) X dX9_wordNumber_25 (by decide) rfl ?_
      refine r_iload X dX9_wordNumber_27 0 rfl ?_
      refine r_bipush (v := (32)) X dX9_wordNumber_29 (by decide) ?_
      refine r_icmp_eq (tgt := 52) X dX9_wordNumber_31 (by decide) h (fun h => ?_) (fun h => ?_)
      · refine r_lload_n X dX9_wordNumber_52 rfl 2 rfl ?_
        refine r_lload_n X dX9_wordNumber_53 rfl 1 rfl ?_
        refine r_lcmp X dX9_wordNumber_54 ?_
        refine r_if_ne (tgt := 61) X dX9_wordNumber_55 (by decide) h (fun h => ?_) (fun h => ?_)
        · refine r_lconst (v := 0) X dX9_wordNumber_61 (by decide) ?_
          refine r_lstore_n (lv2 := [(2, .long ((0))), (6, .int (x8)), (0, .long (p0)), (4, .int (x2)), (5, .int (x3))]) X dX9_wordNumber_62 rfl (by decide) rfl ?_
          refine r_inc h (fun x9 e9 h => ?_)
          refine r_iinc (v := x9) (lv2 := [(4, .int (x9)), (2, .long ((0))), (6, .int (x8)), (0, .long (p0)), (5, .int (x3))]) X dX9_wordNumber_63 3 rfl (by rw [e9]; rfl) (by decide) rfl ?_
          exact r_sub [3, 1, 0, 4] rfl (hJ66 k8 hk8 ((0)) x9 x3 m7 h)
        · refine r_iload X dX9_wordNumber_58 3 rfl ?_
          exact r_iret2 X rfl dX9_wordNumber_60 h
      · refine r_lload_n X dX9_wordNumber_34 rfl 2 rfl ?_
        refine r_ldc2 (v := 32) X dX9_wordNumber_35 uw3_31 ?_
        refine r_lmul X dX9_wordNumber_38 ?_
        refine r_iload X dX9_wordNumber_39 0 rfl ?_
        refine r_bipush (v := (97)) X dX9_wordNumber_41 (by decide) ?_
        refine r_isub X dX9_wordNumber_43 ?_
        refine r_iconst (v := (1)) X dX9_wordNumber_44 (by decide) ?_
        refine r_iadd X dX9_wordNumber_45 ?_
        refine r_i2l X dX9_wordNumber_46 ?_
        refine r_ladd X dX9_wordNumber_47 ?_
        refine r_nmJ h (fun x10 h => ?_)
        refine r_lstore_n (lv2 := [(2, .long (x10)), (6, .int (x8)), (0, .long (p0)), (4, .int (x2)), (5, .int (x3))]) X dX9_wordNumber_48 rfl (by decide) rfl ?_
        refine r_goto (tgt := 66) X dX9_wordNumber_49 (by decide) ?_
        exact r_sub [2, 0, 3, 4] rfl (hJ66 k8 hk8 x10 x2 x3 m7 h)
  have hL8 : ∀ (n : Nat), ∀ (x1 : Int64) (x2 : Int32) (x3 : Int32) (m4 : Mm), lop (fun _ _ _ _ => none) (f_X9_wordNumber_B8 p0 ) n x1 x2 x3 m4 = some (r2, mem2) → Jd p l e ({ frames := 4, cells := 0, slots := 0, locals := 85 }) s m args below meth c 7 (MQ below (PsI Lp ad cy dC dI r2 mem2 A) args s 0 0 A) A dC dI cy Lp ad m4 8 [(0, .long (p0)), (2, .long (x1)), (4, .int (x2)), (5, .int (x3))] [] := by
    intro  n
    induction n with
    | zero => intro _ _ _ _ h; cases h
    | succ n ih => intro a0 a1 a2 a3 h; exact hJ8  _ ih a0 a1 a2 a3 h
  unfold f_X9_wordNumber at h
  refine r_lconst (v := 0) X dX9_wordNumber_0 (by decide) ?_
  refine r_lstore_n (lv2 := [(2, .long ((0))), (0, .long (p0))]) X dX9_wordNumber_1 rfl (by decide) rfl ?_
  refine r_iconst (v := (0)) X dX9_wordNumber_2 (by decide) ?_
  refine r_istore (lv2 := [(4, .int ((0))), (2, .long ((0))), (0, .long (p0))]) X dX9_wordNumber_3 (by decide) rfl ?_
  refine r_iconst (v := (0)) X dX9_wordNumber_5 (by decide) ?_
  refine r_istore (lv2 := [(5, .int ((0))), (4, .int ((0))), (2, .long ((0))), (0, .long (p0))]) X dX9_wordNumber_6 (by decide) rfl ?_
  exact r_sub [3, 2, 1, 0] rfl (hL8 4000 ((0)) ((0)) ((0)) mem h)
noncomputable def f_X9_advance_J37 (k0 : Mm → Option Mm) (m10 : Mm) : Option Mm :=
  bnd (sI m10 1 4 ((gI m10 1 4) + ((1)))) fun m11 => k0 m11
noncomputable def f_X9_advance_J196 (x34 : Int32) (m35 : Mm) : Option Mm :=
  bnd (sI m35 1 2 x34) fun m36 => some m36
noncomputable def f_X9_advance_J310 (x48 : Int32) (m49 : Mm) : Option Mm :=
  bnd (sI m49 1 2 x48) fun m50 => some m50
noncomputable def f_X9_advance_J345 (x44 : Int32) (m45 : Mm) : Option Mm :=
  bnd (sI m45 1 2 x44) fun m46 => bnd (sI m46 1 4 ((gI m46 1 4) + ((1)))) fun m47 => some m47
noncomputable def f_X9_advance_J278 (m37 : Mm) : Option Mm :=
  if (gI m37 1 4) ≤ (gI m37 1 3) then (bdI (f_X9_signAt (gI m37 1 3) m37) fun x39 m38 => bdI (f_J0_indexOf_0f7a4 1 ((x39.toUInt32 % 65536).toInt32) m38) fun x41 m40 => if x41 < 0 then (f_X9_advance_J345 ((102)) m40) else (bdI (f_X9_signAt (gI m40 1 3) m40) fun x43 m42 => f_X9_advance_J345 x43 m42)) else (if ((gI m37 1 4) - (gI m37 1 3)) ≤ ((4)) then (f_X9_advance_J310 ((100)) m37) else (f_X9_advance_J310 ((102)) m37))
noncomputable def f_X9_advance_B205 (k205 : Mm → Option Mm) (m25 : Mm) : Option Mm :=
  if (gI m25 1 1) ≤ (gI m25 1 4) then (f_X9_advance_J278 m25) else (bdI (f_X9_signAt (gI m25 1 4) m25) fun x27 m26 => if x27 < ((48)) then (f_X9_advance_J278 m26) else (bdI (f_X9_signAt (gI m26 1 4) m26) fun x29 m28 => if ((57)) < x29 then (f_X9_advance_J278 m28) else (bdI (f_X9_signAt (gI m28 1 4) m28) fun x31 m30 => bnd (sI m30 1 5 ((((gI m28 1 5) * ((10))) + x31) - ((48)))) fun m32 => bnd (sI m32 1 4 ((gI m32 1 4) + ((1)))) fun m33 => k205 m33)))
noncomputable def f_X9_advance_J158 (m21 : Mm) : Option Mm :=
  if (gI m21 1 4) ≤ (gI m21 1 3) then (bnd (sI m21 1 5 ((0))) fun m22 => lop (fun _ => none) (f_X9_advance_B205 ) 4000 m22) else (if ((gI m21 1 4) - (gI m21 1 3)) ≤ ((8)) then (bdI (f_X9_wordNumber (gJ m21 1 6) m21) fun x24 m23 => f_X9_advance_J196 x24 m23) else (f_X9_advance_J196 ((102)) m21))
noncomputable def f_X9_advance_B81 (k81 : Mm → Option Mm) (m12 : Mm) : Option Mm :=
  if (gI m12 1 1) ≤ (gI m12 1 4) then (f_X9_advance_J158 m12) else (bdI (f_X9_signAt (gI m12 1 4) m12) fun x14 m13 => if x14 < ((97)) then (f_X9_advance_J158 m13) else (bdI (f_X9_signAt (gI m13 1 4) m13) fun x16 m15 => if ((122)) < x16 then (f_X9_advance_J158 m15) else (bdI (f_X9_signAt (gI m15 1 4) m15) fun x18 m17 => bnd (sJ m17 1 6 (((gJ m15 1 6) * ((32))) + (((x18 - ((97))) + ((1))).toInt64))) fun m19 => bnd (sI m19 1 4 ((gI m19 1 4) + ((1)))) fun m20 => k81 m20)))
noncomputable def f_X9_advance_J50 (m6 : Mm) : Option Mm :=
  bnd (sI m6 1 3 (gI m6 1 4)) fun m7 => if (gI m7 1 3) < (gI m7 1 1) then (bnd (sJ m7 1 6 ((0))) fun m8 => lop (fun _ => none) (f_X9_advance_B81 ) 4000 m8) else (bnd (sI m7 1 2 ((101))) fun m9 => some m9)
noncomputable def f_X9_advance_B0 (k0 : Mm → Option Mm) (m1 : Mm) : Option Mm :=
  if (gI m1 1 1) ≤ (gI m1 1 4) then (f_X9_advance_J50 m1) else (bdI (f_X9_signAt (gI m1 1 4) m1) fun x3 m2 => if x3 = ((10)) then (f_X9_advance_J37 k0 m2) else (bdI (f_X9_signAt (gI m2 1 4) m2) fun x5 m4 => if ¬ x5 = ((32)) then (f_X9_advance_J50 m4) else (f_X9_advance_J37 k0 m4)))
noncomputable def f_X9_advance  (mem : Mm) : Option Mm :=
  lop (fun _ => none) (f_X9_advance_B0 ) 4000 mem
theorem dd_X9_advance : yX9_advance.cls = RX9 ∧ yX9_advance.cls ≠ "java/lang/invoke/MethodHandle" ∧ yX9_advance.cls ≠ "java/lang/invoke/VarHandle" ∧ (parseMethodDescriptor yX9_advance.desc).map (fun d => d.parameters.length) = some 0 := by decide +kernel
set_option maxHeartbeats 4000000 in
set_option maxRecDepth 100000 in
theorem k_X9_advance {l : Launch} {ad : Nat → Nat} {cy : Nat → ClassId} {dC : Nat → ClassId} {dI : Nat → Nat → Nat} {ks : (Nat → Nat) × (Nat → Nat)}  {mem : Mm} {mem2 : Mm}  (h : f_X9_advance  mem = some mem2) : CtV l Lp ad cy dC dI ks yX9_advance cX9_advance 1 none ({ frames := 5, cells := 0, slots := 0, locals := 111 }) [.ref (ad (1))] mem mem2 := by
  refine CtV.of (cc := cX9_advance) (maxL := 1) (ret := none) (own := RX9) rfl (by decide) (Nat.le_of_ble_eq_true rfl) ?_
  intro p e s m args below meth c A X
  have hts := X.2.2.2.2.1
  have hJ37 : ∀ (k0 : Mm → Option Mm) (hk0 : ∀ (m1 : Mm), k0 m1 = some mem2 → Jd p l e ({ frames := 5, cells := 0, slots := 0, locals := 111 }) s m args below meth c 1 (MQ below (PsV Lp ad cy dC dI mem2 A) args s 0 0 A) A dC dI cy Lp ad m1 0 [(0, .ref (ad (1)))] []) (m10 : Mm), f_X9_advance_J37 k0 m10 = some mem2 → Jd p l e ({ frames := 5, cells := 0, slots := 0, locals := 111 }) s m args below meth c 1 (MQ below (PsV Lp ad cy dC dI mem2 A) args s 0 0 A) A dC dI cy Lp ad m10 37 [(0, .ref (ad (1)))] [] := by
    intro k0 hk0 m10 h
    unfold f_X9_advance_J37 at h
    refine r_aload_n X dX9_advance_37 rfl 0 rfl ?_
    refine r_dup X dX9_advance_38 rfl ?_
    refine r_getI X (k := 4) (Lp_N Lpk_1 rfl) Lpk_1 rfl (by decide) ui_9 (by decide) uw1_46 rfl dX9_advance_39 ?_
    refine r_iconst (v := (1)) X dX9_advance_42 (by decide) ?_
    refine r_iadd X dX9_advance_43 ?_
    refine r_putI X (k := 4) (Lp_N Lpk_1 rfl) Lpk_1 rfl (by decide) ui_9 (by decide) uw1_46 tyX9_ok nmX9 rfl rfl rfl dX9_advance_44 ?_
    refine r_nmM h (fun m11 h => ?_)
    refine r_goto (tgt := 0) X dX9_advance_47 (by decide) ?_
    exact r_sub [0] rfl (hk0 m11 h)
  have hJ196 : ∀ (x34 : Int32) (m35 : Mm), f_X9_advance_J196 x34 m35 = some mem2 → Jd p l e ({ frames := 5, cells := 0, slots := 0, locals := 111 }) s m args below meth c 1 (MQ below (PsV Lp ad cy dC dI mem2 A) args s 0 0 A) A dC dI cy Lp ad m35 196 [] [.int (x34), .ref (ad (1))] := by
    intro x34 m35 h
    unfold f_X9_advance_J196 at h
    refine r_putI X (k := 2) (Lp_N Lpk_1 rfl) Lpk_1 rfl (by decide) ui_9 (by decide) uw1_43 tyX9_ok nmX9 rfl rfl rfl dX9_advance_196 ?_
    refine r_nmM h (fun m36 h => ?_)
    exact r_vret X rfl dX9_advance_199 h
  have hJ310 : ∀ (x48 : Int32) (m49 : Mm), f_X9_advance_J310 x48 m49 = some mem2 → Jd p l e ({ frames := 5, cells := 0, slots := 0, locals := 111 }) s m args below meth c 1 (MQ below (PsV Lp ad cy dC dI mem2 A) args s 0 0 A) A dC dI cy Lp ad m49 310 [] [.int (x48), .ref (ad (1))] := by
    intro x48 m49 h
    unfold f_X9_advance_J310 at h
    refine r_putI X (k := 2) (Lp_N Lpk_1 rfl) Lpk_1 rfl (by decide) ui_9 (by decide) uw1_43 tyX9_ok nmX9 rfl rfl rfl dX9_advance_310 ?_
    refine r_nmM h (fun m50 h => ?_)
    exact r_vret X rfl dX9_advance_313 h
  have hJ345 : ∀ (x44 : Int32) (m45 : Mm), f_X9_advance_J345 x44 m45 = some mem2 → Jd p l e ({ frames := 5, cells := 0, slots := 0, locals := 111 }) s m args below meth c 1 (MQ below (PsV Lp ad cy dC dI mem2 A) args s 0 0 A) A dC dI cy Lp ad m45 345 [(0, .ref (ad (1)))] [.int (x44), .ref (ad (1))] := by
    intro x44 m45 h
    unfold f_X9_advance_J345 at h
    refine r_putI X (k := 2) (Lp_N Lpk_1 rfl) Lpk_1 rfl (by decide) ui_9 (by decide) uw1_43 tyX9_ok nmX9 rfl rfl rfl dX9_advance_345 ?_
    refine r_nmM h (fun m46 h => ?_)
    refine r_aload_n X dX9_advance_348 rfl 0 rfl ?_
    refine r_dup X dX9_advance_349 rfl ?_
    refine r_getI X (k := 4) (Lp_N Lpk_1 rfl) Lpk_1 rfl (by decide) ui_9 (by decide) uw1_46 rfl dX9_advance_350 ?_
    refine r_iconst (v := (1)) X dX9_advance_353 (by decide) ?_
    refine r_iadd X dX9_advance_354 ?_
    refine r_putI X (k := 4) (Lp_N Lpk_1 rfl) Lpk_1 rfl (by decide) ui_9 (by decide) uw1_46 tyX9_ok nmX9 rfl rfl rfl dX9_advance_355 ?_
    refine r_nmM h (fun m47 h => ?_)
    exact r_vret X rfl dX9_advance_358 h
  have hJ278 : ∀ (m37 : Mm), f_X9_advance_J278 m37 = some mem2 → Jd p l e ({ frames := 5, cells := 0, slots := 0, locals := 111 }) s m args below meth c 1 (MQ below (PsV Lp ad cy dC dI mem2 A) args s 0 0 A) A dC dI cy Lp ad m37 278 [(0, .ref (ad (1)))] [] := by
    intro m37 h
    unfold f_X9_advance_J278 at h
    refine r_aload_n X dX9_advance_278 rfl 0 rfl ?_
    refine r_getI X (k := 4) (Lp_N Lpk_1 rfl) Lpk_1 rfl (by decide) ui_9 (by decide) uw1_46 rfl dX9_advance_279 ?_
    refine r_aload_n X dX9_advance_282 rfl 0 rfl ?_
    refine r_getI X (k := 3) (Lp_N Lpk_1 rfl) Lpk_1 rfl (by decide) ui_9 (by decide) uw1_45 rfl dX9_advance_283 ?_
    refine r_icmp_le (tgt := 314) X dX9_advance_286 (by decide) h (fun h => ?_) (fun h => ?_)
    · refine r_aload_n X dX9_advance_314 rfl 0 rfl ?_
      refine r_ldcS1 X dX9_advance_315 rfl ?_
      refine r_aload_n X dX9_advance_317 rfl 0 rfl ?_
      refine r_aload_n X dX9_advance_318 rfl 0 rfl ?_
      refine r_getI X (k := 3) (Lp_N Lpk_1 rfl) Lpk_1 rfl (by decide) ui_9 (by decide) uw1_45 rfl dX9_advance_319 ?_
      refine r_cVI (As := [.int (gI m37 1 3)]) (rest := [.ref (ks.1 (1)), .ref (ad (1))]) X (fun r9 m9 hg => k_X9_signAt hg) h (Lp_N Lpk_1 rfl) Lpk_1 rfl (by decide) uw3_27 uw3_29 us1_1 uw1_2 uw3_30 rfl rfl dd_X9_signAt ⟨Nat.le_of_ble_eq_true rfl, Nat.le_of_ble_eq_true rfl⟩ rfl (Nat.le_of_ble_eq_true rfl) dX9_advance_322 rfl (fun x39 m38 h => ?_)
      refine r_i2c X dX9_advance_325 ?_
      refine r_cKI (As := [.int ((x39.toUInt32 % 65536).toInt32)]) (rest := [.ref (ad (1))]) X (fun r9 m9 hg => k_J0_indexOf_0f7a4 (by decide) hg) h (by decide) uw3_85 uw3_86 uw3_87 uw1_14 uw3_88 rfl rfl dd_J0_indexOf_0f7a4 ⟨Nat.le_of_ble_eq_true rfl, Nat.le_of_ble_eq_true rfl⟩ rfl (Nat.le_of_ble_eq_true rfl) dX9_advance_326 rfl (fun x41 m40 h => ?_)
      refine r_if_lt (tgt := 343) X dX9_advance_329 (by decide) h (fun h => ?_) (fun h => ?_)
      · refine r_bipush (v := (102)) X dX9_advance_343 (by decide) ?_
        exact r_sub [0] rfl (hJ345 ((102)) m40 h)
      · refine r_aload_n X dX9_advance_332 rfl 0 rfl ?_
        refine r_aload_n X dX9_advance_333 rfl 0 rfl ?_
        refine r_getI X (k := 3) (Lp_N Lpk_1 rfl) Lpk_1 rfl (by decide) ui_9 (by decide) uw1_45 rfl dX9_advance_334 ?_
        refine r_cVI (As := [.int (gI m40 1 3)]) (rest := [.ref (ad (1))]) X (fun r9 m9 hg => k_X9_signAt hg) h (Lp_N Lpk_1 rfl) Lpk_1 rfl (by decide) uw3_27 uw3_29 us1_1 uw1_2 uw3_30 rfl rfl dd_X9_signAt ⟨Nat.le_of_ble_eq_true rfl, Nat.le_of_ble_eq_true rfl⟩ rfl (Nat.le_of_ble_eq_true rfl) dX9_advance_337 rfl (fun x43 m42 h => ?_)
        refine r_goto (tgt := 345) X dX9_advance_340 (by decide) ?_
        exact r_sub [0] rfl (hJ345 x43 m42 h)
    · refine r_aload_n X dX9_advance_289 rfl 0 rfl ?_
      refine r_aload_n X dX9_advance_290 rfl 0 rfl ?_
      refine r_getI X (k := 4) (Lp_N Lpk_1 rfl) Lpk_1 rfl (by decide) ui_9 (by decide) uw1_46 rfl dX9_advance_291 ?_
      refine r_aload_n X dX9_advance_294 rfl 0 rfl ?_
      refine r_getI X (k := 3) (Lp_N Lpk_1 rfl) Lpk_1 rfl (by decide) ui_9 (by decide) uw1_45 rfl dX9_advance_295 ?_
      refine r_isub X dX9_advance_298 ?_
      refine r_iconst (v := (4)) X dX9_advance_299 (by decide) ?_
      refine r_icmp_le (tgt := 308) X dX9_advance_300 (by decide) h (fun h => ?_) (fun h => ?_)
      · refine r_bipush (v := (100)) X dX9_advance_308 (by decide) ?_
        exact r_sub [] rfl (hJ310 ((100)) m37 h)
      · refine r_bipush (v := (102)) X dX9_advance_303 (by decide) ?_
        refine r_goto (tgt := 310) X dX9_advance_305 (by decide) ?_
        exact r_sub [] rfl (hJ310 ((102)) m37 h)
  have hJ205 : ∀ (k205 : Mm → Option Mm) (hk205 : ∀ (m25 : Mm), k205 m25 = some mem2 → Jd p l e ({ frames := 5, cells := 0, slots := 0, locals := 111 }) s m args below meth c 1 (MQ below (PsV Lp ad cy dC dI mem2 A) args s 0 0 A) A dC dI cy Lp ad m25 205 [(0, .ref (ad (1)))] []) (m25 : Mm), f_X9_advance_B205 k205 m25 = some mem2 → Jd p l e ({ frames := 5, cells := 0, slots := 0, locals := 111 }) s m args below meth c 1 (MQ below (PsV Lp ad cy dC dI mem2 A) args s 0 0 A) A dC dI cy Lp ad m25 205 [(0, .ref (ad (1)))] [] := by
    intro k205 hk205 m25 h
    unfold f_X9_advance_B205 at h
    refine r_aload_n X dX9_advance_205 rfl 0 rfl ?_
    refine r_getI X (k := 4) (Lp_N Lpk_1 rfl) Lpk_1 rfl (by decide) ui_9 (by decide) uw1_46 rfl dX9_advance_206 ?_
    refine r_aload_n X dX9_advance_209 rfl 0 rfl ?_
    refine r_getI X (k := 1) (Lp_N Lpk_1 rfl) Lpk_1 rfl (by decide) ui_9 (by decide) uw1_40 rfl dX9_advance_210 ?_
    refine r_icmp_ge (tgt := 278) X dX9_advance_213 (by decide) h (fun h => ?_) (fun h => ?_)
    · exact r_sub [0] rfl (hJ278 m25 h)
    · refine r_aload_n X dX9_advance_216 rfl 0 rfl ?_
      refine r_aload_n X dX9_advance_217 rfl 0 rfl ?_
      refine r_getI X (k := 4) (Lp_N Lpk_1 rfl) Lpk_1 rfl (by decide) ui_9 (by decide) uw1_46 rfl dX9_advance_218 ?_
      refine r_cVI (As := [.int (gI m25 1 4)]) (rest := []) X (fun r9 m9 hg => k_X9_signAt hg) h (Lp_N Lpk_1 rfl) Lpk_1 rfl (by decide) uw3_27 uw3_29 us1_1 uw1_2 uw3_30 rfl rfl dd_X9_signAt ⟨Nat.le_of_ble_eq_true rfl, Nat.le_of_ble_eq_true rfl⟩ rfl (Nat.le_of_ble_eq_true rfl) dX9_advance_221 rfl (fun x27 m26 h => ?_)
      refine r_bipush (v := (48)) X dX9_advance_224 (by decide) ?_
      refine r_icmp_lt (tgt := 278) X dX9_advance_226 (by decide) h (fun h => ?_) (fun h => ?_)
      · exact r_sub [0] rfl (hJ278 m26 h)
      · refine r_aload_n X dX9_advance_229 rfl 0 rfl ?_
        refine r_aload_n X dX9_advance_230 rfl 0 rfl ?_
        refine r_getI X (k := 4) (Lp_N Lpk_1 rfl) Lpk_1 rfl (by decide) ui_9 (by decide) uw1_46 rfl dX9_advance_231 ?_
        refine r_cVI (As := [.int (gI m26 1 4)]) (rest := []) X (fun r9 m9 hg => k_X9_signAt hg) h (Lp_N Lpk_1 rfl) Lpk_1 rfl (by decide) uw3_27 uw3_29 us1_1 uw1_2 uw3_30 rfl rfl dd_X9_signAt ⟨Nat.le_of_ble_eq_true rfl, Nat.le_of_ble_eq_true rfl⟩ rfl (Nat.le_of_ble_eq_true rfl) dX9_advance_234 rfl (fun x29 m28 h => ?_)
        refine r_bipush (v := (57)) X dX9_advance_237 (by decide) ?_
        refine r_icmp_gt (tgt := 278) X dX9_advance_239 (by decide) h (fun h => ?_) (fun h => ?_)
        · exact r_sub [0] rfl (hJ278 m28 h)
        · refine r_aload_n X dX9_advance_242 rfl 0 rfl ?_
          refine r_aload_n X dX9_advance_243 rfl 0 rfl ?_
          refine r_getI X (k := 5) (Lp_N Lpk_1 rfl) Lpk_1 rfl (by decide) ui_9 (by decide) uw1_47 rfl dX9_advance_244 ?_
          refine r_bipush (v := (10)) X dX9_advance_247 (by decide) ?_
          refine r_imul X dX9_advance_249 ?_
          refine r_aload_n X dX9_advance_250 rfl 0 rfl ?_
          refine r_aload_n X dX9_advance_251 rfl 0 rfl ?_
          refine r_getI X (k := 4) (Lp_N Lpk_1 rfl) Lpk_1 rfl (by decide) ui_9 (by decide) uw1_46 rfl dX9_advance_252 ?_
          refine r_cVI (As := [.int (gI m28 1 4)]) (rest := [.int ((gI m28 1 5) * ((10))), .ref (ad (1))]) X (fun r9 m9 hg => k_X9_signAt hg) h (Lp_N Lpk_1 rfl) Lpk_1 rfl (by decide) uw3_27 uw3_29 us1_1 uw1_2 uw3_30 rfl rfl dd_X9_signAt ⟨Nat.le_of_ble_eq_true rfl, Nat.le_of_ble_eq_true rfl⟩ rfl (Nat.le_of_ble_eq_true rfl) dX9_advance_255 rfl (fun x31 m30 h => ?_)
          refine r_iadd X dX9_advance_258 ?_
          refine r_bipush (v := (48)) X dX9_advance_259 (by decide) ?_
          refine r_isub X dX9_advance_261 ?_
          refine r_putI X (k := 5) (Lp_N Lpk_1 rfl) Lpk_1 rfl (by decide) ui_9 (by decide) uw1_47 tyX9_ok nmX9 rfl rfl rfl dX9_advance_262 ?_
          refine r_nmM h (fun m32 h => ?_)
          refine r_aload_n X dX9_advance_265 rfl 0 rfl ?_
          refine r_dup X dX9_advance_266 rfl ?_
          refine r_getI X (k := 4) (Lp_N Lpk_1 rfl) Lpk_1 rfl (by decide) ui_9 (by decide) uw1_46 rfl dX9_advance_267 ?_
          refine r_iconst (v := (1)) X dX9_advance_270 (by decide) ?_
          refine r_iadd X dX9_advance_271 ?_
          refine r_putI X (k := 4) (Lp_N Lpk_1 rfl) Lpk_1 rfl (by decide) ui_9 (by decide) uw1_46 tyX9_ok nmX9 rfl rfl rfl dX9_advance_272 ?_
          refine r_nmM h (fun m33 h => ?_)
          refine r_goto (tgt := 205) X dX9_advance_275 (by decide) ?_
          exact r_sub [0] rfl (hk205 m33 h)
  have hL205 : ∀ (n : Nat), ∀ (m25 : Mm), lop (fun _ => none) (f_X9_advance_B205 ) n m25 = some mem2 → Jd p l e ({ frames := 5, cells := 0, slots := 0, locals := 111 }) s m args below meth c 1 (MQ below (PsV Lp ad cy dC dI mem2 A) args s 0 0 A) A dC dI cy Lp ad m25 205 [(0, .ref (ad (1)))] [] := by
    intro  n
    induction n with
    | zero => intro _ h; cases h
    | succ n ih => intro a0 h; exact hJ205  _ ih a0 h
  have hJ158 : ∀ (m21 : Mm), f_X9_advance_J158 m21 = some mem2 → Jd p l e ({ frames := 5, cells := 0, slots := 0, locals := 111 }) s m args below meth c 1 (MQ below (PsV Lp ad cy dC dI mem2 A) args s 0 0 A) A dC dI cy Lp ad m21 158 [(0, .ref (ad (1)))] [] := by
    intro m21 h
    unfold f_X9_advance_J158 at h
    refine r_aload_n X dX9_advance_158 rfl 0 rfl ?_
    refine r_getI X (k := 4) (Lp_N Lpk_1 rfl) Lpk_1 rfl (by decide) ui_9 (by decide) uw1_46 rfl dX9_advance_159 ?_
    refine r_aload_n X dX9_advance_162 rfl 0 rfl ?_
    refine r_getI X (k := 3) (Lp_N Lpk_1 rfl) Lpk_1 rfl (by decide) ui_9 (by decide) uw1_45 rfl dX9_advance_163 ?_
    refine r_icmp_le (tgt := 200) X dX9_advance_166 (by decide) h (fun h => ?_) (fun h => ?_)
    · refine r_aload_n X dX9_advance_200 rfl 0 rfl ?_
      refine r_iconst (v := (0)) X dX9_advance_201 (by decide) ?_
      refine r_putI X (k := 5) (Lp_N Lpk_1 rfl) Lpk_1 rfl (by decide) ui_9 (by decide) uw1_47 tyX9_ok nmX9 rfl rfl rfl dX9_advance_202 ?_
      refine r_nmM h (fun m22 h => ?_)
      exact r_sub [0] rfl (hL205 4000 m22 h)
    · refine r_aload_n X dX9_advance_169 rfl 0 rfl ?_
      refine r_aload_n X dX9_advance_170 rfl 0 rfl ?_
      refine r_getI X (k := 4) (Lp_N Lpk_1 rfl) Lpk_1 rfl (by decide) ui_9 (by decide) uw1_46 rfl dX9_advance_171 ?_
      refine r_aload_n X dX9_advance_174 rfl 0 rfl ?_
      refine r_getI X (k := 3) (Lp_N Lpk_1 rfl) Lpk_1 rfl (by decide) ui_9 (by decide) uw1_45 rfl dX9_advance_175 ?_
      refine r_isub X dX9_advance_178 ?_
      refine r_bipush (v := (8)) X dX9_advance_179 (by decide) ?_
      refine r_icmp_le (tgt := 189) X dX9_advance_181 (by decide) h (fun h => ?_) (fun h => ?_)
      · refine r_aload_n X dX9_advance_189 rfl 0 rfl ?_
        refine r_getJ X (k := 6) (Lp_N Lpk_1 rfl) Lpk_1 rfl (by decide) ui_9 (by decide) uw1_49 rfl dX9_advance_190 ?_
        refine r_cSI (As := [.long (gJ m21 1 6)]) (rest := [.ref (ad (1))]) X (fun r9 m9 hg => k_X9_wordNumber hg) h uw3_32 uw3_33 uw1_2 uw3_34 rfl rfl dd_X9_wordNumber ⟨Nat.le_of_ble_eq_true rfl, Nat.le_of_ble_eq_true rfl⟩ rfl (Nat.le_of_ble_eq_true rfl) dX9_advance_193 rfl (fun x24 m23 h => ?_)
        exact r_sub [] rfl (hJ196 x24 m23 h)
      · refine r_bipush (v := (102)) X dX9_advance_184 (by decide) ?_
        refine r_goto (tgt := 196) X dX9_advance_186 (by decide) ?_
        exact r_sub [] rfl (hJ196 ((102)) m21 h)
  have hJ81 : ∀ (k81 : Mm → Option Mm) (hk81 : ∀ (m12 : Mm), k81 m12 = some mem2 → Jd p l e ({ frames := 5, cells := 0, slots := 0, locals := 111 }) s m args below meth c 1 (MQ below (PsV Lp ad cy dC dI mem2 A) args s 0 0 A) A dC dI cy Lp ad m12 81 [(0, .ref (ad (1)))] []) (m12 : Mm), f_X9_advance_B81 k81 m12 = some mem2 → Jd p l e ({ frames := 5, cells := 0, slots := 0, locals := 111 }) s m args below meth c 1 (MQ below (PsV Lp ad cy dC dI mem2 A) args s 0 0 A) A dC dI cy Lp ad m12 81 [(0, .ref (ad (1)))] [] := by
    intro k81 hk81 m12 h
    unfold f_X9_advance_B81 at h
    refine r_aload_n X dX9_advance_81 rfl 0 rfl ?_
    refine r_getI X (k := 4) (Lp_N Lpk_1 rfl) Lpk_1 rfl (by decide) ui_9 (by decide) uw1_46 rfl dX9_advance_82 ?_
    refine r_aload_n X dX9_advance_85 rfl 0 rfl ?_
    refine r_getI X (k := 1) (Lp_N Lpk_1 rfl) Lpk_1 rfl (by decide) ui_9 (by decide) uw1_40 rfl dX9_advance_86 ?_
    refine r_icmp_ge (tgt := 158) X dX9_advance_89 (by decide) h (fun h => ?_) (fun h => ?_)
    · exact r_sub [0] rfl (hJ158 m12 h)
    · refine r_aload_n X dX9_advance_92 rfl 0 rfl ?_
      refine r_aload_n X dX9_advance_93 rfl 0 rfl ?_
      refine r_getI X (k := 4) (Lp_N Lpk_1 rfl) Lpk_1 rfl (by decide) ui_9 (by decide) uw1_46 rfl dX9_advance_94 ?_
      refine r_cVI (As := [.int (gI m12 1 4)]) (rest := []) X (fun r9 m9 hg => k_X9_signAt hg) h (Lp_N Lpk_1 rfl) Lpk_1 rfl (by decide) uw3_27 uw3_29 us1_1 uw1_2 uw3_30 rfl rfl dd_X9_signAt ⟨Nat.le_of_ble_eq_true rfl, Nat.le_of_ble_eq_true rfl⟩ rfl (Nat.le_of_ble_eq_true rfl) dX9_advance_97 rfl (fun x14 m13 h => ?_)
      refine r_bipush (v := (97)) X dX9_advance_100 (by decide) ?_
      refine r_icmp_lt (tgt := 158) X dX9_advance_102 (by decide) h (fun h => ?_) (fun h => ?_)
      · exact r_sub [0] rfl (hJ158 m13 h)
      · refine r_aload_n X dX9_advance_105 rfl 0 rfl ?_
        refine r_aload_n X dX9_advance_106 rfl 0 rfl ?_
        refine r_getI X (k := 4) (Lp_N Lpk_1 rfl) Lpk_1 rfl (by decide) ui_9 (by decide) uw1_46 rfl dX9_advance_107 ?_
        refine r_cVI (As := [.int (gI m13 1 4)]) (rest := []) X (fun r9 m9 hg => k_X9_signAt hg) h (Lp_N Lpk_1 rfl) Lpk_1 rfl (by decide) uw3_27 uw3_29 us1_1 uw1_2 uw3_30 rfl rfl dd_X9_signAt ⟨Nat.le_of_ble_eq_true rfl, Nat.le_of_ble_eq_true rfl⟩ rfl (Nat.le_of_ble_eq_true rfl) dX9_advance_110 rfl (fun x16 m15 h => ?_)
        refine r_bipush (v := (122)) X dX9_advance_113 (by decide) ?_
        refine r_icmp_gt (tgt := 158) X dX9_advance_115 (by decide) h (fun h => ?_) (fun h => ?_)
        · exact r_sub [0] rfl (hJ158 m15 h)
        · refine r_aload_n X dX9_advance_118 rfl 0 rfl ?_
          refine r_aload_n X dX9_advance_119 rfl 0 rfl ?_
          refine r_getJ X (k := 6) (Lp_N Lpk_1 rfl) Lpk_1 rfl (by decide) ui_9 (by decide) uw1_49 rfl dX9_advance_120 ?_
          refine r_ldc2 (v := 32) X dX9_advance_123 uw3_31 ?_
          refine r_lmul X dX9_advance_126 ?_
          refine r_aload_n X dX9_advance_127 rfl 0 rfl ?_
          refine r_aload_n X dX9_advance_128 rfl 0 rfl ?_
          refine r_getI X (k := 4) (Lp_N Lpk_1 rfl) Lpk_1 rfl (by decide) ui_9 (by decide) uw1_46 rfl dX9_advance_129 ?_
          refine r_cVI (As := [.int (gI m15 1 4)]) (rest := [.long ((gJ m15 1 6) * ((32))), .ref (ad (1))]) X (fun r9 m9 hg => k_X9_signAt hg) h (Lp_N Lpk_1 rfl) Lpk_1 rfl (by decide) uw3_27 uw3_29 us1_1 uw1_2 uw3_30 rfl rfl dd_X9_signAt ⟨Nat.le_of_ble_eq_true rfl, Nat.le_of_ble_eq_true rfl⟩ rfl (Nat.le_of_ble_eq_true rfl) dX9_advance_132 rfl (fun x18 m17 h => ?_)
          refine r_bipush (v := (97)) X dX9_advance_135 (by decide) ?_
          refine r_isub X dX9_advance_137 ?_
          refine r_iconst (v := (1)) X dX9_advance_138 (by decide) ?_
          refine r_iadd X dX9_advance_139 ?_
          refine r_i2l X dX9_advance_140 ?_
          refine r_ladd X dX9_advance_141 ?_
          refine r_putJ X (k := 6) (Lp_N Lpk_1 rfl) Lpk_1 rfl (by decide) ui_9 (by decide) uw1_49 tyX9_ok nmX9 rfl rfl rfl dX9_advance_142 ?_
          refine r_nmM h (fun m19 h => ?_)
          refine r_aload_n X dX9_advance_145 rfl 0 rfl ?_
          refine r_dup X dX9_advance_146 rfl ?_
          refine r_getI X (k := 4) (Lp_N Lpk_1 rfl) Lpk_1 rfl (by decide) ui_9 (by decide) uw1_46 rfl dX9_advance_147 ?_
          refine r_iconst (v := (1)) X dX9_advance_150 (by decide) ?_
          refine r_iadd X dX9_advance_151 ?_
          refine r_putI X (k := 4) (Lp_N Lpk_1 rfl) Lpk_1 rfl (by decide) ui_9 (by decide) uw1_46 tyX9_ok nmX9 rfl rfl rfl dX9_advance_152 ?_
          refine r_nmM h (fun m20 h => ?_)
          refine r_goto (tgt := 81) X dX9_advance_155 (by decide) ?_
          exact r_sub [0] rfl (hk81 m20 h)
  have hL81 : ∀ (n : Nat), ∀ (m12 : Mm), lop (fun _ => none) (f_X9_advance_B81 ) n m12 = some mem2 → Jd p l e ({ frames := 5, cells := 0, slots := 0, locals := 111 }) s m args below meth c 1 (MQ below (PsV Lp ad cy dC dI mem2 A) args s 0 0 A) A dC dI cy Lp ad m12 81 [(0, .ref (ad (1)))] [] := by
    intro  n
    induction n with
    | zero => intro _ h; cases h
    | succ n ih => intro a0 h; exact hJ81  _ ih a0 h
  have hJ50 : ∀ (m6 : Mm), f_X9_advance_J50 m6 = some mem2 → Jd p l e ({ frames := 5, cells := 0, slots := 0, locals := 111 }) s m args below meth c 1 (MQ below (PsV Lp ad cy dC dI mem2 A) args s 0 0 A) A dC dI cy Lp ad m6 50 [(0, .ref (ad (1)))] [] := by
    intro m6 h
    unfold f_X9_advance_J50 at h
    refine r_aload_n X dX9_advance_50 rfl 0 rfl ?_
    refine r_aload_n X dX9_advance_51 rfl 0 rfl ?_
    refine r_getI X (k := 4) (Lp_N Lpk_1 rfl) Lpk_1 rfl (by decide) ui_9 (by decide) uw1_46 rfl dX9_advance_52 ?_
    refine r_putI X (k := 3) (Lp_N Lpk_1 rfl) Lpk_1 rfl (by decide) ui_9 (by decide) uw1_45 tyX9_ok nmX9 rfl rfl rfl dX9_advance_55 ?_
    refine r_nmM h (fun m7 h => ?_)
    refine r_aload_n X dX9_advance_58 rfl 0 rfl ?_
    refine r_getI X (k := 3) (Lp_N Lpk_1 rfl) Lpk_1 rfl (by decide) ui_9 (by decide) uw1_45 rfl dX9_advance_59 ?_
    refine r_aload_n X dX9_advance_62 rfl 0 rfl ?_
    refine r_getI X (k := 1) (Lp_N Lpk_1 rfl) Lpk_1 rfl (by decide) ui_9 (by decide) uw1_40 rfl dX9_advance_63 ?_
    refine r_icmp_lt (tgt := 76) X dX9_advance_66 (by decide) h (fun h => ?_) (fun h => ?_)
    · refine r_aload_n X dX9_advance_76 rfl 0 rfl ?_
      refine r_lconst (v := 0) X dX9_advance_77 (by decide) ?_
      refine r_putJ X (k := 6) (Lp_N Lpk_1 rfl) Lpk_1 rfl (by decide) ui_9 (by decide) uw1_49 tyX9_ok nmX9 rfl rfl rfl dX9_advance_78 ?_
      refine r_nmM h (fun m8 h => ?_)
      exact r_sub [0] rfl (hL81 4000 m8 h)
    · refine r_aload_n X dX9_advance_69 rfl 0 rfl ?_
      refine r_bipush (v := (101)) X dX9_advance_70 (by decide) ?_
      refine r_putI X (k := 2) (Lp_N Lpk_1 rfl) Lpk_1 rfl (by decide) ui_9 (by decide) uw1_43 tyX9_ok nmX9 rfl rfl rfl dX9_advance_72 ?_
      refine r_nmM h (fun m9 h => ?_)
      exact r_vret X rfl dX9_advance_75 h
  have hJ0 : ∀ (k0 : Mm → Option Mm) (hk0 : ∀ (m1 : Mm), k0 m1 = some mem2 → Jd p l e ({ frames := 5, cells := 0, slots := 0, locals := 111 }) s m args below meth c 1 (MQ below (PsV Lp ad cy dC dI mem2 A) args s 0 0 A) A dC dI cy Lp ad m1 0 [(0, .ref (ad (1)))] []) (m1 : Mm), f_X9_advance_B0 k0 m1 = some mem2 → Jd p l e ({ frames := 5, cells := 0, slots := 0, locals := 111 }) s m args below meth c 1 (MQ below (PsV Lp ad cy dC dI mem2 A) args s 0 0 A) A dC dI cy Lp ad m1 0 [(0, .ref (ad (1)))] [] := by
    intro k0 hk0 m1 h
    unfold f_X9_advance_B0 at h
    refine r_aload_n X dX9_advance_0 rfl 0 rfl ?_
    refine r_getI X (k := 4) (Lp_N Lpk_1 rfl) Lpk_1 rfl (by decide) ui_9 (by decide) uw1_46 rfl dX9_advance_1 ?_
    refine r_aload_n X dX9_advance_4 rfl 0 rfl ?_
    refine r_getI X (k := 1) (Lp_N Lpk_1 rfl) Lpk_1 rfl (by decide) ui_9 (by decide) uw1_40 rfl dX9_advance_5 ?_
    refine r_icmp_ge (tgt := 50) X dX9_advance_8 (by decide) h (fun h => ?_) (fun h => ?_)
    · exact r_sub [0] rfl (hJ50 m1 h)
    · refine r_aload_n X dX9_advance_11 rfl 0 rfl ?_
      refine r_aload_n X dX9_advance_12 rfl 0 rfl ?_
      refine r_getI X (k := 4) (Lp_N Lpk_1 rfl) Lpk_1 rfl (by decide) ui_9 (by decide) uw1_46 rfl dX9_advance_13 ?_
      refine r_cVI (As := [.int (gI m1 1 4)]) (rest := []) X (fun r9 m9 hg => k_X9_signAt hg) h (Lp_N Lpk_1 rfl) Lpk_1 rfl (by decide) uw3_27 uw3_29 us1_1 uw1_2 uw3_30 rfl rfl dd_X9_signAt ⟨Nat.le_of_ble_eq_true rfl, Nat.le_of_ble_eq_true rfl⟩ rfl (Nat.le_of_ble_eq_true rfl) dX9_advance_16 rfl (fun x3 m2 h => ?_)
      refine r_bipush (v := (10)) X dX9_advance_19 (by decide) ?_
      refine r_icmp_eq (tgt := 37) X dX9_advance_21 (by decide) h (fun h => ?_) (fun h => ?_)
      · exact r_sub [0] rfl (hJ37 k0 hk0 m2 h)
      · refine r_aload_n X dX9_advance_24 rfl 0 rfl ?_
        refine r_aload_n X dX9_advance_25 rfl 0 rfl ?_
        refine r_getI X (k := 4) (Lp_N Lpk_1 rfl) Lpk_1 rfl (by decide) ui_9 (by decide) uw1_46 rfl dX9_advance_26 ?_
        refine r_cVI (As := [.int (gI m2 1 4)]) (rest := []) X (fun r9 m9 hg => k_X9_signAt hg) h (Lp_N Lpk_1 rfl) Lpk_1 rfl (by decide) uw3_27 uw3_29 us1_1 uw1_2 uw3_30 rfl rfl dd_X9_signAt ⟨Nat.le_of_ble_eq_true rfl, Nat.le_of_ble_eq_true rfl⟩ rfl (Nat.le_of_ble_eq_true rfl) dX9_advance_29 rfl (fun x5 m4 h => ?_)
        refine r_bipush (v := (32)) X dX9_advance_32 (by decide) ?_
        refine r_icmp_ne (tgt := 50) X dX9_advance_34 (by decide) h (fun h => ?_) (fun h => ?_)
        · exact r_sub [0] rfl (hJ50 m4 h)
        · exact r_sub [0] rfl (hJ37 k0 hk0 m4 h)
  have hL0 : ∀ (n : Nat), ∀ (m1 : Mm), lop (fun _ => none) (f_X9_advance_B0 ) n m1 = some mem2 → Jd p l e ({ frames := 5, cells := 0, slots := 0, locals := 111 }) s m args below meth c 1 (MQ below (PsV Lp ad cy dC dI mem2 A) args s 0 0 A) A dC dI cy Lp ad m1 0 [(0, .ref (ad (1)))] [] := by
    intro  n
    induction n with
    | zero => intro _ h; cases h
    | succ n ih => intro a0 h; exact hJ0  _ ih a0 h
  unfold f_X9_advance at h
  exact r_sub [0] rfl (hL0 4000 mem h)
noncomputable def f_X5_takeNumber_J40 (p1 : Int32) (p2 : Int32) (m5 : Mm) : Option (Int32 × Mm) :=
  bdI (f_X5_wrong ((4)) m5) fun x7 m6 => grd (bok x7) (some (x7, m6))
noncomputable def f_X5_takeNumber (p1 : Int32) (p2 : Int32) (mem : Mm) : Option (Int32 × Mm) :=
  if (gI mem 1 2) = ((100)) then (if (gI mem 1 5) < p1 then (f_X5_takeNumber_J40 p1 p2 mem) else (if (gI mem 1 5) ≤ p2 then (bnd (sI mem 3 1 (gI mem 1 5)) fun m1 => bdV (f_X9_advance  m1) fun m2 => grd (bok ((1))) (some ((1), m2))) else (f_X5_takeNumber_J40 p1 p2 mem))) else (bdI (f_X5_wrong ((1)) mem) fun x4 m3 => grd (bok x4) (some (x4, m3)))
theorem dd_X5_takeNumber : yX5_takeNumber.cls = RX5 ∧ yX5_takeNumber.cls ≠ "java/lang/invoke/MethodHandle" ∧ yX5_takeNumber.cls ≠ "java/lang/invoke/VarHandle" ∧ (parseMethodDescriptor yX5_takeNumber.desc).map (fun d => d.parameters.length) = some 2 := by decide +kernel
set_option maxHeartbeats 4000000 in
set_option maxRecDepth 100000 in
theorem k_X5_takeNumber {l : Launch} {ad : Nat → Nat} {cy : Nat → ClassId} {dC : Nat → ClassId} {dI : Nat → Nat → Nat} {ks : (Nat → Nat) × (Nat → Nat)} {p1 : Int32} {p2 : Int32} {mem : Mm} {r2 : Int32} {mem2 : Mm}  (h : f_X5_takeNumber p1 p2 mem = some (r2, mem2)) : CtI l Lp ad cy dC dI ks yX5_takeNumber cX5_takeNumber 3 (some .boolean) ({ frames := 6, cells := 0, slots := 0, locals := 131 }) [.ref (ad (3)), .int (p1), .int (p2)] mem r2 mem2 := by
  refine CtI.of (cc := cX5_takeNumber) (maxL := 3) (ret := (some .boolean)) (own := RX5) rfl (by decide) (Nat.le_of_ble_eq_true rfl) ?_
  intro p e s m args below meth c A X
  have hts := X.2.2.2.2.1
  have hl29 := X.2.2.2.2.2.2.1 (.fieldLinkNest "StationPiano$Reader" 29 "StationPiano$Tape" "token" "I" "StationPiano") (List.mem_of_getElem? (i := 1) rfl)
  have hl55 := X.2.2.2.2.2.2.1 (.fieldLinkNest "StationPiano$Reader" 55 "StationPiano$Tape" "number" "I" "StationPiano") (List.mem_of_getElem? (i := 3) rfl)
  have hJ40 : ∀ (m5 : Mm), f_X5_takeNumber_J40 p1 p2 m5 = some (r2, mem2) → Jd p l e ({ frames := 6, cells := 0, slots := 0, locals := 131 }) s m args below meth c 3 (MQ below (PsI Lp ad cy dC dI r2 mem2 A) args s 0 0 A) A dC dI cy Lp ad m5 40 [(0, .ref (ad (3)))] [] := by
    intro m5 h
    unfold f_X5_takeNumber_J40 at h
    refine r_aload_n X dX5_takeNumber_40 rfl 0 rfl ?_
    refine r_iconst (v := (4)) X dX5_takeNumber_41 (by decide) ?_
    refine r_cVI (As := [.int ((4))]) (rest := []) X (fun r9 m9 hg => k_X5_wrong hg) h (Lp_N Lpk_3 rfl) Lpk_3 rfl (by decide) uw3_152 uw3_154 us1_4 uw1_3 uw3_155 rfl rfl dd_X5_wrong ⟨Nat.le_of_ble_eq_true rfl, Nat.le_of_ble_eq_true rfl⟩ rfl (Nat.le_of_ble_eq_true rfl) dX5_takeNumber_42 rfl (fun x7 m6 h => ?_)
    exact r_zret2 X rfl dX5_takeNumber_45 h
  unfold f_X5_takeNumber at h
  refine r_aload_n X dX5_takeNumber_0 rfl 0 rfl ?_
  refine r_getB X (k := 0) (of := 2) rfl (Lp_N Lpk_3 rfl) Lpk_3 rfl (by decide) ui_5 (by decide) uw1_73 rfl dX5_takeNumber_1 ?_
  refine r_getIN X (k := 2) (Lp_N Lpk_1 rfl) Lpk_1 rfl (by decide) ui_9 (by decide) hl29 rfl dX5_takeNumber_4 ?_
  refine r_bipush (v := (100)) X dX5_takeNumber_7 (by decide) ?_
  refine r_icmp_eq (tgt := 18) X dX5_takeNumber_9 (by decide) h (fun h => ?_) (fun h => ?_)
  · refine r_aload_n X dX5_takeNumber_18 rfl 0 rfl ?_
    refine r_getB X (k := 0) (of := 2) rfl (Lp_N Lpk_3 rfl) Lpk_3 rfl (by decide) ui_5 (by decide) uw1_73 rfl dX5_takeNumber_19 ?_
    refine r_getIN X (k := 5) (Lp_N Lpk_1 rfl) Lpk_1 rfl (by decide) ui_9 (by decide) hl55 rfl dX5_takeNumber_22 ?_
    refine r_iload_n X dX5_takeNumber_25 rfl 1 rfl ?_
    refine r_icmp_lt (tgt := 40) X dX5_takeNumber_26 (by decide) h (fun h => ?_) (fun h => ?_)
    · exact r_sub [0] rfl (hJ40 mem h)
    · refine r_aload_n X dX5_takeNumber_29 rfl 0 rfl ?_
      refine r_getB X (k := 0) (of := 2) rfl (Lp_N Lpk_3 rfl) Lpk_3 rfl (by decide) ui_5 (by decide) uw1_73 rfl dX5_takeNumber_30 ?_
      refine r_getIN X (k := 5) (Lp_N Lpk_1 rfl) Lpk_1 rfl (by decide) ui_9 (by decide) hl55 rfl dX5_takeNumber_33 ?_
      refine r_iload_n X dX5_takeNumber_36 rfl 2 rfl ?_
      refine r_icmp_le (tgt := 46) X dX5_takeNumber_37 (by decide) h (fun h => ?_) (fun h => ?_)
      · refine r_aload_n X dX5_takeNumber_46 rfl 0 rfl ?_
        refine r_aload_n X dX5_takeNumber_47 rfl 0 rfl ?_
        refine r_getB X (k := 0) (of := 2) rfl (Lp_N Lpk_3 rfl) Lpk_3 rfl (by decide) ui_5 (by decide) uw1_73 rfl dX5_takeNumber_48 ?_
        refine r_getIN X (k := 5) (Lp_N Lpk_1 rfl) Lpk_1 rfl (by decide) ui_9 (by decide) hl55 rfl dX5_takeNumber_51 ?_
        refine r_putI X (k := 1) (Lp_N Lpk_3 rfl) Lpk_3 rfl (by decide) ui_5 (by decide) uw1_74 tyX5_ok nmX5 rfl rfl rfl dX5_takeNumber_54 ?_
        refine r_nmM h (fun m1 h => ?_)
        refine r_aload_n X dX5_takeNumber_57 rfl 0 rfl ?_
        refine r_getB X (k := 0) (of := 2) rfl (Lp_N Lpk_3 rfl) Lpk_3 rfl (by decide) ui_5 (by decide) uw1_73 rfl dX5_takeNumber_58 ?_
        refine r_cVV (As := []) (rest := []) X (fun m9 hg => k_X9_advance hg) h (Lp_N Lpk_1 rfl) Lpk_1 rfl (by decide) uw3_156 uw3_24 uw3_25 uw1_2 uw3_26 rfl rfl dd_X9_advance ⟨Nat.le_of_ble_eq_true rfl, Nat.le_of_ble_eq_true rfl⟩ rfl (Nat.le_of_ble_eq_true rfl) dX5_takeNumber_61 rfl (fun m2 h => ?_)
        refine r_iconst (v := (1)) X dX5_takeNumber_64 (by decide) ?_
        exact r_zret2 X rfl dX5_takeNumber_65 h
      · exact r_sub [0] rfl (hJ40 mem h)
  · refine r_aload_n X dX5_takeNumber_12 rfl 0 rfl ?_
    refine r_iconst (v := (1)) X dX5_takeNumber_13 (by decide) ?_
    refine r_cVI (As := [.int ((1))]) (rest := []) X (fun r9 m9 hg => k_X5_wrong hg) h (Lp_N Lpk_3 rfl) Lpk_3 rfl (by decide) uw3_152 uw3_154 us1_4 uw1_3 uw3_155 rfl rfl dd_X5_wrong ⟨Nat.le_of_ble_eq_true rfl, Nat.le_of_ble_eq_true rfl⟩ rfl (Nat.le_of_ble_eq_true rfl) dX5_takeNumber_14 rfl (fun x4 m3 h => ?_)
    exact r_zret2 X rfl dX5_takeNumber_17 h
noncomputable def f_X5_eachTold (h1 : Nat) (mem : Mm) : Option (Int32 × Mm) :=
  bdI (f_X5_takeNumber ((1)) ((30)) mem) fun x2 m1 => bnd (sI m1 h1 9 (gI m1 3 1)) fun m3 => grd (bok x2) (some (x2, m3))
theorem dd_X5_eachTold : yX5_eachTold.cls = RX5 ∧ yX5_eachTold.cls ≠ "java/lang/invoke/MethodHandle" ∧ yX5_eachTold.cls ≠ "java/lang/invoke/VarHandle" ∧ (parseMethodDescriptor yX5_eachTold.desc).map (fun d => d.parameters.length) = some 1 := by decide +kernel
set_option maxHeartbeats 4000000 in
set_option maxRecDepth 100000 in
theorem k_X5_eachTold {l : Launch} {ad : Nat → Nat} {cy : Nat → ClassId} {dC : Nat → ClassId} {dI : Nat → Nat → Nat} {ks : (Nat → Nat) × (Nat → Nat)} {h1 : Nat} {mem : Mm} {r2 : Int32} {mem2 : Mm} (e1 : Lp.1 h1 = 7) (h : f_X5_eachTold h1 mem = some (r2, mem2)) : CtI l Lp ad cy dC dI ks yX5_eachTold cX5_eachTold 3 (some .boolean) ({ frames := 7, cells := 0, slots := 0, locals := 153 }) [.ref (ad (3)), .ref (ad (h1))] mem r2 mem2 := by
  refine CtI.of (cc := cX5_eachTold) (maxL := 3) (ret := (some .boolean)) (own := RX5) rfl (by decide) (Nat.le_of_ble_eq_true rfl) ?_
  intro p e s m args below meth c A X
  have hts := X.2.2.2.2.1
  have hl126 := X.2.2.2.2.2.2.1 (.fieldLinkNest "StationPiano$Reader" 126 "StationPiano$Station" "minutes" "I" "StationPiano") (List.mem_of_getElem? (i := 46) rfl)
  unfold f_X5_eachTold at h
  refine r_aload_n X dX5_eachTold_0 rfl 0 rfl ?_
  refine r_iconst (v := (1)) X dX5_eachTold_1 (by decide) ?_
  refine r_bipush (v := (30)) X dX5_eachTold_2 (by decide) ?_
  refine r_cVI (As := [.int ((1)), .int ((30))]) (rest := []) X (fun r9 m9 hg => k_X5_takeNumber hg) h (Lp_N Lpk_3 rfl) Lpk_3 rfl (by decide) uw3_177 uw3_179 us1_8 uw1_3 uw3_180 rfl rfl dd_X5_takeNumber ⟨Nat.le_of_ble_eq_true rfl, Nat.le_of_ble_eq_true rfl⟩ rfl (Nat.le_of_ble_eq_true rfl) dX5_eachTold_4 rfl (fun x2 m1 h => ?_)
  refine r_istore_n (lv2 := [(2, .int (x2)), (0, .ref (ad (3))), (1, .ref (ad (h1)))]) X dX5_eachTold_7 rfl (by decide) rfl ?_
  refine r_aload_n X dX5_eachTold_8 rfl 2 rfl ?_
  refine r_aload_n X dX5_eachTold_9 rfl 1 rfl ?_
  refine r_getI X (k := 1) (Lp_N Lpk_3 rfl) Lpk_3 rfl (by decide) ui_5 (by decide) uw1_74 rfl dX5_eachTold_10 ?_
  refine r_putIN X (k := 9) (Lp_N e1 rfl) e1 rfl (by decide) ui_7 (by decide) hl126 tyX7_ok nmX7 rfl rfl rfl dX5_eachTold_13 ?_
  refine r_nmM h (fun m3 h => ?_)
  refine r_iload_n X dX5_eachTold_16 rfl 0 rfl ?_
  exact r_zret2 X rfl dX5_eachTold_17 h
noncomputable def f_X5_take (p1 : Int32) (mem : Mm) : Option (Int32 × Mm) :=
  if (gI mem 1 2) = p1 then (bdV (f_X9_advance  mem) fun m1 => grd (bok ((1))) (some ((1), m1))) else (bdI (f_X5_wrong ((1)) mem) fun x3 m2 => grd (bok x3) (some (x3, m2)))
theorem dd_X5_take : yX5_take.cls = RX5 ∧ yX5_take.cls ≠ "java/lang/invoke/MethodHandle" ∧ yX5_take.cls ≠ "java/lang/invoke/VarHandle" ∧ (parseMethodDescriptor yX5_take.desc).map (fun d => d.parameters.length) = some 1 := by decide +kernel
set_option maxHeartbeats 4000000 in
set_option maxRecDepth 100000 in
theorem k_X5_take {l : Launch} {ad : Nat → Nat} {cy : Nat → ClassId} {dC : Nat → ClassId} {dI : Nat → Nat → Nat} {ks : (Nat → Nat) × (Nat → Nat)} {p1 : Int32} {mem : Mm} {r2 : Int32} {mem2 : Mm}  (h : f_X5_take p1 mem = some (r2, mem2)) : CtI l Lp ad cy dC dI ks yX5_take cX5_take 2 (some .boolean) ({ frames := 6, cells := 0, slots := 0, locals := 131 }) [.ref (ad (3)), .int (p1)] mem r2 mem2 := by
  refine CtI.of (cc := cX5_take) (maxL := 2) (ret := (some .boolean)) (own := RX5) rfl (by decide) (Nat.le_of_ble_eq_true rfl) ?_
  intro p e s m args below meth c A X
  have hts := X.2.2.2.2.1
  have hl29 := X.2.2.2.2.2.2.1 (.fieldLinkNest "StationPiano$Reader" 29 "StationPiano$Tape" "token" "I" "StationPiano") (List.mem_of_getElem? (i := 1) rfl)
  unfold f_X5_take at h
  refine r_aload_n X dX5_take_0 rfl 0 rfl ?_
  refine r_getB X (k := 0) (of := 2) rfl (Lp_N Lpk_3 rfl) Lpk_3 rfl (by decide) ui_5 (by decide) uw1_73 rfl dX5_take_1 ?_
  refine r_getIN X (k := 2) (Lp_N Lpk_1 rfl) Lpk_1 rfl (by decide) ui_9 (by decide) hl29 rfl dX5_take_4 ?_
  refine r_iload_n X dX5_take_7 rfl 1 rfl ?_
  refine r_icmp_eq (tgt := 17) X dX5_take_8 (by decide) h (fun h => ?_) (fun h => ?_)
  · refine r_aload_n X dX5_take_17 rfl 0 rfl ?_
    refine r_getB X (k := 0) (of := 2) rfl (Lp_N Lpk_3 rfl) Lpk_3 rfl (by decide) ui_5 (by decide) uw1_73 rfl dX5_take_18 ?_
    refine r_cVV (As := []) (rest := []) X (fun m9 hg => k_X9_advance hg) h (Lp_N Lpk_1 rfl) Lpk_1 rfl (by decide) uw3_156 uw3_24 uw3_25 uw1_2 uw3_26 rfl rfl dd_X9_advance ⟨Nat.le_of_ble_eq_true rfl, Nat.le_of_ble_eq_true rfl⟩ rfl (Nat.le_of_ble_eq_true rfl) dX5_take_21 rfl (fun m1 h => ?_)
    refine r_iconst (v := (1)) X dX5_take_24 (by decide) ?_
    exact r_zret2 X rfl dX5_take_25 h
  · refine r_aload_n X dX5_take_11 rfl 0 rfl ?_
    refine r_iconst (v := (1)) X dX5_take_12 (by decide) ?_
    refine r_cVI (As := [.int ((1))]) (rest := []) X (fun r9 m9 hg => k_X5_wrong hg) h (Lp_N Lpk_3 rfl) Lpk_3 rfl (by decide) uw3_152 uw3_154 us1_4 uw1_3 uw3_155 rfl rfl dd_X5_wrong ⟨Nat.le_of_ble_eq_true rfl, Nat.le_of_ble_eq_true rfl⟩ rfl (Nat.le_of_ble_eq_true rfl) dX5_take_13 rfl (fun x3 m2 h => ?_)
    exact r_zret2 X rfl dX5_take_16 h
theorem dd_X5_expression : yX5_expression.cls = RX5 ∧ yX5_expression.cls ≠ "java/lang/invoke/MethodHandle" ∧ yX5_expression.cls ≠ "java/lang/invoke/VarHandle" ∧ (parseMethodDescriptor yX5_expression.desc).map (fun d => d.parameters.length) = some 3 := by decide +kernel
noncomputable def f_X5_part_J143 (κe : Nat → Int32 → Int32 → Mm → Option (Int32 × Mm)) (κp : Nat → Int32 → Mm → Option (Int32 × Mm)) (h1 : Nat) (p2 : Int32) (x20 : Int32) (m21 : Mm) : Option (Int32 × Mm) :=
  bdV (f_X2_add h1 x20 m21) fun m22 => grd (bok ((1))) (some ((1), m22))
noncomputable def f_X5_part_J49 (κe : Nat → Int32 → Int32 → Mm → Option (Int32 × Mm)) (κp : Nat → Int32 → Mm → Option (Int32 × Mm)) (h1 : Nat) (p2 : Int32) (x7 : Int32) (x8 : Int32) (m9 : Mm) : Option (Int32 × Mm) :=
  if p2 < ((5)) then (bdV (f_X9_advance  m9) fun m10 => if ¬ x7 = ((40)) then (if ¬ x7 = ((20)) then (if ¬ x7 = ((100)) then (f_X5_part_J143 κe κp h1 p2 (((-1)) - (x7 - ((23)))) m10) else (f_X5_part_J143 κe κp h1 p2 x8 m10)) else (bdI (κp h1 (p2 + ((1))) m10) fun x12 m11 => bdV (f_X2_add h1 ((-11)) m11) fun m13 => grd (bok x12) (some (x12, m13)))) else (bdI (κe h1 (p2 + ((1))) ((0)) m10) fun x15 m14 => if x15 = 0 then (grd (bok ((0))) (some ((0), m14))) else (bdI (f_X5_take ((41)) m14) fun x17 m16 => if x17 = 0 then (grd (bok ((0))) (some ((0), m16))) else (grd (bok ((1))) (some ((1), m16)))))) else (bdI (f_X5_wrong ((5)) m9) fun x19 m18 => grd (bok x19) (some (x19, m18)))
noncomputable def f_X5_part_r (κe : Nat → Int32 → Int32 → Mm → Option (Int32 × Mm)) (κp : Nat → Int32 → Mm → Option (Int32 × Mm)) (h1 : Nat) (p2 : Int32) (mem : Mm) : Option (Int32 × Mm) :=
  bnd (gI mem 1 2) fun x1 => bnd (gI mem 1 5) fun x2 => if x1 = ((100)) then (f_X5_part_J49 κe κp h1 p2 x1 x2 mem) else (if x1 = ((20)) then (f_X5_part_J49 κe κp h1 p2 x1 x2 mem) else (if x1 = ((40)) then (f_X5_part_J49 κe κp h1 p2 x1 x2 mem) else (bdI (f_X2_knows h1 x1 mem) fun x4 m3 => if ¬ x4 = 0 then (f_X5_part_J49 κe κp h1 p2 x1 x2 m3) else (bdI (f_X5_wrong ((1)) m3) fun x6 m5 => grd (bok x6) (some (x6, m5))))))
theorem dd_X5_part : yX5_part.cls = RX5 ∧ yX5_part.cls ≠ "java/lang/invoke/MethodHandle" ∧ yX5_part.cls ≠ "java/lang/invoke/VarHandle" ∧ (parseMethodDescriptor yX5_part.desc).map (fun d => d.parameters.length) = some 2 := by decide +kernel
set_option maxHeartbeats 4000000 in
set_option maxRecDepth 100000 in
theorem k_X5_part_r {l : Launch} {ad : Nat → Nat} {cy : Nat → ClassId} {dC : Nat → ClassId} {dI : Nat → Nat → Nat} {ks : (Nat → Nat) × (Nat → Nat)} {n9 : Nat} {κe : Nat → Int32 → Int32 → Mm → Option (Int32 × Mm)} {κp : Nat → Int32 → Mm → Option (Int32 × Mm)} {h1 : Nat} {p2 : Int32} {mem : Mm} {r2 : Int32} {mem2 : Mm} (hκe : ∀ {b : Nat} {x y : Int32} {m m2 : Mm} {r : Int32}, Lp.1 b = 2 → κe b x y m = some (r, m2) → CtI l Lp ad cy dC dI ks yX5_expression cX5_expression 8 (some .boolean) (rmR n9) [.ref (ad 3), .ref (ad b), .int x, .int y] m r m2) (hκp : ∀ {b : Nat} {x : Int32} {m m2 : Mm} {r : Int32}, Lp.1 b = 2 → κp b x m = some (r, m2) → CtI l Lp ad cy dC dI ks yX5_part cX5_part 6 (some .boolean) (rmR n9) [.ref (ad 3), .ref (ad b), .int x] m r m2) (e1 : Lp.1 h1 = 2) (h : f_X5_part_r κe κp h1 p2 mem = some (r2, mem2)) : CtI l Lp ad cy dC dI ks yX5_part cX5_part 6 (some .boolean) (rmR (n9 + 1)) [.ref (ad (3)), .ref (ad (h1)), .int (p2)] mem r2 mem2 := by
  refine CtI.of (cc := cX5_part) (maxL := 6) (ret := (some .boolean)) (own := RX5) rfl (by decide) (Nat.le_of_ble_eq_true rfl) ?_
  intro p e s m args below meth c A X
  have hts := X.2.2.2.2.1
  have hl29 := X.2.2.2.2.2.2.1 (.fieldLinkNest "StationPiano$Reader" 29 "StationPiano$Tape" "token" "I" "StationPiano") (List.mem_of_getElem? (i := 1) rfl)
  have hl55 := X.2.2.2.2.2.2.1 (.fieldLinkNest "StationPiano$Reader" 55 "StationPiano$Tape" "number" "I" "StationPiano") (List.mem_of_getElem? (i := 3) rfl)
  have hJ143 : ∀ (x20 : Int32) (m21 : Mm), f_X5_part_J143 κe κp h1 p2 x20 m21 = some (r2, mem2) → Jd p l e (rmR (n9 + 1)) s m args below meth c 6 (MQ below (PsI Lp ad cy dC dI r2 mem2 A) args s 0 0 A) A dC dI cy Lp ad m21 143 [] [.int (x20), .ref (ad (h1))] := by
    intro x20 m21 h
    unfold f_X5_part_J143 at h
    refine r_cVV (As := [.int (x20)]) (rest := []) X (fun m9 hg => k_X2_add e1 hg) h (Lp_N e1 rfl) e1 rfl (by decide) uw3_239 uw4_0 uw4_1 uw1_5 uw4_2 rfl rfl dd_X2_add ⟨by simp only [rmR]; omega, by simp only [rmR]; omega⟩ rfl (Nat.le_of_ble_eq_true rfl) dX5_part_143 rfl (fun m22 h => ?_)
    refine r_iconst (v := (1)) X dX5_part_146 (by decide) ?_
    exact r_zret2 X rfl dX5_part_147 h
  have hJ49 : ∀ (x7 : Int32) (x8 : Int32) (m9 : Mm), f_X5_part_J49 κe κp h1 p2 x7 x8 m9 = some (r2, mem2) → Jd p l e (rmR (n9 + 1)) s m args below meth c 6 (MQ below (PsI Lp ad cy dC dI r2 mem2 A) args s 0 0 A) A dC dI cy Lp ad m9 49 [(0, .ref (ad (3))), (1, .ref (ad (h1))), (2, .int (p2)), (3, .int (x7)), (4, .int (x8))] [] := by
    intro x7 x8 m9 h
    unfold f_X5_part_J49 at h
    refine r_iload_n X dX5_part_49 rfl 2 rfl ?_
    refine r_iconst (v := (5)) X dX5_part_50 (by decide) ?_
    refine r_icmp_lt (tgt := 60) X dX5_part_51 (by decide) h (fun h => ?_) (fun h => ?_)
    · refine r_aload_n X dX5_part_60 rfl 0 rfl ?_
      refine r_getB X (k := 0) (of := 2) rfl (Lp_N Lpk_3 rfl) Lpk_3 rfl (by decide) ui_5 (by decide) uw1_73 rfl dX5_part_61 ?_
      refine r_cVV (As := []) (rest := []) X (fun m9 hg => k_X9_advance hg) h (Lp_N Lpk_1 rfl) Lpk_1 rfl (by decide) uw3_156 uw3_24 uw3_25 uw1_2 uw3_26 rfl rfl dd_X9_advance ⟨by simp only [rmR]; omega, by simp only [rmR]; omega⟩ rfl (Nat.le_of_ble_eq_true rfl) dX5_part_64 rfl (fun m10 h => ?_)
      refine r_iload_n X dX5_part_67 rfl 3 rfl ?_
      refine r_bipush (v := (40)) X dX5_part_68 (by decide) ?_
      refine r_icmp_ne (tgt := 100) X dX5_part_70 (by decide) h (fun h => ?_) (fun h => ?_)
      · refine r_iload_n X dX5_part_100 rfl 3 rfl ?_
        refine r_bipush (v := (20)) X dX5_part_101 (by decide) ?_
        refine r_icmp_ne (tgt := 125) X dX5_part_103 (by decide) h (fun h => ?_) (fun h => ?_)
        · refine r_aload_n X dX5_part_125 rfl 1 rfl ?_
          refine r_iload_n X dX5_part_126 rfl 3 rfl ?_
          refine r_bipush (v := (100)) X dX5_part_127 (by decide) ?_
          refine r_icmp_ne (tgt := 137) X dX5_part_129 (by decide) h (fun h => ?_) (fun h => ?_)
          · refine r_iconst (v := (-1)) X dX5_part_137 (by decide) ?_
            refine r_iload_n X dX5_part_138 rfl 3 rfl ?_
            refine r_bipush (v := (23)) X dX5_part_139 (by decide) ?_
            refine r_isub X dX5_part_141 ?_
            refine r_isub X dX5_part_142 ?_
            exact r_sub [] rfl (hJ143 (((-1)) - (x7 - ((23)))) m10 h)
          · refine r_iload X dX5_part_132 4 rfl ?_
            refine r_goto (tgt := 143) X dX5_part_134 (by decide) ?_
            exact r_sub [] rfl (hJ143 x8 m10 h)
        · refine r_aload_n X dX5_part_106 rfl 0 rfl ?_
          refine r_aload_n X dX5_part_107 rfl 1 rfl ?_
          refine r_iload_n X dX5_part_108 rfl 2 rfl ?_
          refine r_iconst (v := (1)) X dX5_part_109 (by decide) ?_
          refine r_iadd X dX5_part_110 ?_
          refine r_cVI (As := [.ref (ad (h1)), .int (p2 + ((1)))]) (rest := []) X (fun r9 m9 hg => hκp e1 hg) h (Lp_N Lpk_3 rfl) Lpk_3 rfl (by decide) uw3_231 uw3_233 us2_4 uw1_3 uw3_234 rfl rfl dd_X5_part ⟨by simp only [rmR]; omega, by simp only [rmR]; omega⟩ rfl (Nat.le_of_ble_eq_true rfl) dX5_part_111 rfl (fun x12 m11 h => ?_)
          refine r_istore (lv2 := [(5, .int (x12)), (0, .ref (ad (3))), (1, .ref (ad (h1))), (2, .int (p2)), (3, .int (x7)), (4, .int (x8))]) X dX5_part_114 (by decide) rfl ?_
          refine r_aload_n X dX5_part_116 rfl 2 rfl ?_
          refine r_bipush (v := (-11)) X dX5_part_117 (by decide) ?_
          refine r_cVV (As := [.int ((-11))]) (rest := []) X (fun m9 hg => k_X2_add e1 hg) h (Lp_N e1 rfl) e1 rfl (by decide) uw3_239 uw4_0 uw4_1 uw1_5 uw4_2 rfl rfl dd_X2_add ⟨by simp only [rmR]; omega, by simp only [rmR]; omega⟩ rfl (Nat.le_of_ble_eq_true rfl) dX5_part_119 rfl (fun m13 h => ?_)
          refine r_iload X dX5_part_122 0 rfl ?_
          exact r_zret2 X rfl dX5_part_124 h
      · refine r_aload_n X dX5_part_73 rfl 0 rfl ?_
        refine r_aload_n X dX5_part_74 rfl 1 rfl ?_
        refine r_iload_n X dX5_part_75 rfl 2 rfl ?_
        refine r_iconst (v := (1)) X dX5_part_76 (by decide) ?_
        refine r_iadd X dX5_part_77 ?_
        refine r_iconst (v := (0)) X dX5_part_78 (by decide) ?_
        refine r_cVI (As := [.ref (ad (h1)), .int (p2 + ((1))), .int ((0))]) (rest := []) X (fun r9 m9 hg => hκe e1 hg) h (Lp_N Lpk_3 rfl) Lpk_3 rfl (by decide) uw3_227 uw3_229 us2_3 uw1_3 uw3_230 rfl rfl dd_X5_expression ⟨by simp only [rmR]; omega, by simp only [rmR]; omega⟩ rfl (Nat.le_of_ble_eq_true rfl) dX5_part_79 rfl (fun x15 m14 h => ?_)
        refine r_if_eq (tgt := 98) X dX5_part_82 (by decide) h (fun h => ?_) (fun h => ?_)
        · refine r_iconst (v := (0)) X dX5_part_98 (by decide) ?_
          exact r_zret2 X rfl dX5_part_99 h
        · refine r_aload_n X dX5_part_85 rfl 0 rfl ?_
          refine r_bipush (v := (41)) X dX5_part_86 (by decide) ?_
          refine r_cVI (As := [.int ((41))]) (rest := []) X (fun r9 m9 hg => k_X5_take hg) h (Lp_N Lpk_3 rfl) Lpk_3 rfl (by decide) uw3_181 uw3_183 us1_9 uw1_3 uw3_184 rfl rfl dd_X5_take ⟨by simp only [rmR]; omega, by simp only [rmR]; omega⟩ rfl (Nat.le_of_ble_eq_true rfl) dX5_part_88 rfl (fun x17 m16 h => ?_)
          refine r_if_eq (tgt := 98) X dX5_part_91 (by decide) h (fun h => ?_) (fun h => ?_)
          · refine r_iconst (v := (0)) X dX5_part_98 (by decide) ?_
            exact r_zret2 X rfl dX5_part_99 h
          · refine r_iconst (v := (1)) X dX5_part_94 (by decide) ?_
            refine r_goto (tgt := 99) X dX5_part_95 (by decide) ?_
            exact r_zret2 X rfl dX5_part_99 h
    · refine r_aload_n X dX5_part_54 rfl 0 rfl ?_
      refine r_iconst (v := (5)) X dX5_part_55 (by decide) ?_
      refine r_cVI (As := [.int ((5))]) (rest := []) X (fun r9 m9 hg => k_X5_wrong hg) h (Lp_N Lpk_3 rfl) Lpk_3 rfl (by decide) uw3_152 uw3_154 us1_4 uw1_3 uw3_155 rfl rfl dd_X5_wrong ⟨by simp only [rmR]; omega, by simp only [rmR]; omega⟩ rfl (Nat.le_of_ble_eq_true rfl) dX5_part_56 rfl (fun x19 m18 h => ?_)
      exact r_zret2 X rfl dX5_part_59 h
  unfold f_X5_part_r at h
  refine r_aload_n X dX5_part_0 rfl 0 rfl ?_
  refine r_getB X (k := 0) (of := 2) rfl (Lp_N Lpk_3 rfl) Lpk_3 rfl (by decide) ui_5 (by decide) uw1_73 rfl dX5_part_1 ?_
  refine r_getIN X (k := 2) (Lp_N Lpk_1 rfl) Lpk_1 rfl (by decide) ui_9 (by decide) hl29 rfl dX5_part_4 ?_
  refine r_nmI h (fun x1 h => ?_)
  refine r_istore_n (lv2 := [(3, .int (x1)), (0, .ref (ad (3))), (1, .ref (ad (h1))), (2, .int (p2))]) X dX5_part_7 rfl (by decide) rfl ?_
  refine r_aload_n X dX5_part_8 rfl 1 rfl ?_
  refine r_getB X (k := 0) (of := 2) rfl (Lp_N Lpk_3 rfl) Lpk_3 rfl (by decide) ui_5 (by decide) uw1_73 rfl dX5_part_9 ?_
  refine r_getIN X (k := 5) (Lp_N Lpk_1 rfl) Lpk_1 rfl (by decide) ui_9 (by decide) hl55 rfl dX5_part_12 ?_
  refine r_nmI h (fun x2 h => ?_)
  refine r_istore (lv2 := [(4, .int (x2)), (3, .int (x1)), (0, .ref (ad (3))), (1, .ref (ad (h1))), (2, .int (p2))]) X dX5_part_15 (by decide) rfl ?_
  refine r_iload_n X dX5_part_17 rfl 1 rfl ?_
  refine r_bipush (v := (100)) X dX5_part_18 (by decide) ?_
  refine r_icmp_eq (tgt := 49) X dX5_part_20 (by decide) h (fun h => ?_) (fun h => ?_)
  · exact r_sub [2, 3, 4, 1, 0] rfl (hJ49 x1 x2 mem h)
  · refine r_iload_n X dX5_part_23 rfl 1 rfl ?_
    refine r_bipush (v := (20)) X dX5_part_24 (by decide) ?_
    refine r_icmp_eq (tgt := 49) X dX5_part_26 (by decide) h (fun h => ?_) (fun h => ?_)
    · exact r_sub [2, 3, 4, 1, 0] rfl (hJ49 x1 x2 mem h)
    · refine r_iload_n X dX5_part_29 rfl 1 rfl ?_
      refine r_bipush (v := (40)) X dX5_part_30 (by decide) ?_
      refine r_icmp_eq (tgt := 49) X dX5_part_32 (by decide) h (fun h => ?_) (fun h => ?_)
      · exact r_sub [2, 3, 4, 1, 0] rfl (hJ49 x1 x2 mem h)
      · refine r_aload_n X dX5_part_35 rfl 3 rfl ?_
        refine r_iload_n X dX5_part_36 rfl 1 rfl ?_
        refine r_cVI (As := [.int (x1)]) (rest := []) X (fun r9 m9 hg => k_X2_knows e1 hg) h (Lp_N e1 rfl) e1 rfl (by decide) uw3_235 uw3_236 uw3_237 uw1_5 uw3_238 rfl rfl dd_X2_knows ⟨by simp only [rmR]; omega, by simp only [rmR]; omega⟩ rfl (Nat.le_of_ble_eq_true rfl) dX5_part_37 rfl (fun x4 m3 h => ?_)
        refine r_if_ne (tgt := 49) X dX5_part_40 (by decide) h (fun h => ?_) (fun h => ?_)
        · exact r_sub [2, 3, 4, 1, 0] rfl (hJ49 x1 x2 m3 h)
        · refine r_aload_n X dX5_part_43 rfl 2 rfl ?_
          refine r_iconst (v := (1)) X dX5_part_44 (by decide) ?_
          refine r_cVI (As := [.int ((1))]) (rest := []) X (fun r9 m9 hg => k_X5_wrong hg) h (Lp_N Lpk_3 rfl) Lpk_3 rfl (by decide) uw3_152 uw3_154 us1_4 uw1_3 uw3_155 rfl rfl dd_X5_wrong ⟨by simp only [rmR]; omega, by simp only [rmR]; omega⟩ rfl (Nat.le_of_ble_eq_true rfl) dX5_part_45 rfl (fun x6 m5 h => ?_)
          exact r_zret2 X rfl dX5_part_48 h
noncomputable def f_X5_stepOf (p0 : Int32) (p1 : Int32) (mem : Mm) : Option (Int32 × Mm) :=
  if p1 = (0) then (if ¬ p0 = ((21)) then (if ¬ p0 = ((22)) then (some ((0), mem)) else (some ((-13), mem))) else (some ((-12), mem))) else (if p1 = (1) then (if ¬ p0 = ((60)) then (if ¬ p0 = ((61)) then (some ((0), mem)) else (some ((-15), mem))) else (some ((-14), mem))) else (if p1 = (2) then (if ¬ p0 = ((43)) then (if ¬ p0 = ((45)) then (some ((0), mem)) else (some ((-17), mem))) else (some ((-16), mem))) else (if ¬ p0 = ((42)) then (some ((0), mem)) else (some ((-18), mem)))))
theorem dd_X5_stepOf : yX5_stepOf.cls ≠ "java/lang/invoke/MethodHandle" ∧ yX5_stepOf.cls ≠ "java/lang/invoke/VarHandle" ∧ (parseMethodDescriptor yX5_stepOf.desc).map (fun d => d.parameters.length) = some 2 := by decide +kernel
set_option maxHeartbeats 4000000 in
set_option maxRecDepth 100000 in
theorem k_X5_stepOf {l : Launch} {ad : Nat → Nat} {cy : Nat → ClassId} {dC : Nat → ClassId} {dI : Nat → Nat → Nat} {ks : (Nat → Nat) × (Nat → Nat)} {p0 : Int32} {p1 : Int32} {mem : Mm} {r2 : Int32} {mem2 : Mm}  (h : f_X5_stepOf p0 p1 mem = some (r2, mem2)) : CtI l Lp ad cy dC dI ks yX5_stepOf cX5_stepOf 2 (some .int) ({ frames := 0, cells := 0, slots := 0, locals := 0 }) [.int (p0), .int (p1)] mem r2 mem2 := by
  refine CtI.of (cc := cX5_stepOf) (maxL := 2) (ret := (some .int)) (own := RX5) rfl (by decide) (Nat.le_of_ble_eq_true rfl) ?_
  intro p e s m args below meth c A X
  have hts := X.2.2.2.2.1
  unfold f_X5_stepOf at h
  refine r_iload_n X dX5_stepOf_0 rfl 1 rfl ?_
  by_cases c1_0 : p1 = (0)
  · have h := ite_p c1_0 h
    refine r_tin (off := 27) (tgt := 28) X dX5_stepOf_1 (by rw [c1_0]; decide) (by rw [c1_0]; decide) (by rw [c1_0]; rfl) (by decide) ?_
    refine r_iload_n X dX5_stepOf_28 rfl 0 rfl ?_
    refine r_bipush (v := (21)) X dX5_stepOf_29 (by decide) ?_
    refine r_icmp_ne (tgt := 39) X dX5_stepOf_31 (by decide) h (fun h => ?_) (fun h => ?_)
    · refine r_iload_n X dX5_stepOf_39 rfl 0 rfl ?_
      refine r_bipush (v := (22)) X dX5_stepOf_40 (by decide) ?_
      refine r_icmp_ne (tgt := 50) X dX5_stepOf_42 (by decide) h (fun h => ?_) (fun h => ?_)
      · refine r_iconst (v := (0)) X dX5_stepOf_50 (by decide) ?_
        exact r_iret2 X rfl dX5_stepOf_51 h
      · refine r_bipush (v := (-13)) X dX5_stepOf_45 (by decide) ?_
        refine r_goto (tgt := 51) X dX5_stepOf_47 (by decide) ?_
        exact r_iret2 X rfl dX5_stepOf_51 h
    · refine r_bipush (v := (-12)) X dX5_stepOf_34 (by decide) ?_
      refine r_goto (tgt := 51) X dX5_stepOf_36 (by decide) ?_
      exact r_iret2 X rfl dX5_stepOf_51 h
  have h := ite_n c1_0 h
  by_cases c1_1 : p1 = (1)
  · have h := ite_p c1_1 h
    refine r_tin (off := 51) (tgt := 52) X dX5_stepOf_1 (by rw [c1_1]; decide) (by rw [c1_1]; decide) (by rw [c1_1]; rfl) (by decide) ?_
    refine r_iload_n X dX5_stepOf_52 rfl 0 rfl ?_
    refine r_bipush (v := (60)) X dX5_stepOf_53 (by decide) ?_
    refine r_icmp_ne (tgt := 63) X dX5_stepOf_55 (by decide) h (fun h => ?_) (fun h => ?_)
    · refine r_iload_n X dX5_stepOf_63 rfl 0 rfl ?_
      refine r_bipush (v := (61)) X dX5_stepOf_64 (by decide) ?_
      refine r_icmp_ne (tgt := 74) X dX5_stepOf_66 (by decide) h (fun h => ?_) (fun h => ?_)
      · refine r_iconst (v := (0)) X dX5_stepOf_74 (by decide) ?_
        exact r_iret2 X rfl dX5_stepOf_75 h
      · refine r_bipush (v := (-15)) X dX5_stepOf_69 (by decide) ?_
        refine r_goto (tgt := 75) X dX5_stepOf_71 (by decide) ?_
        exact r_iret2 X rfl dX5_stepOf_75 h
    · refine r_bipush (v := (-14)) X dX5_stepOf_58 (by decide) ?_
      refine r_goto (tgt := 75) X dX5_stepOf_60 (by decide) ?_
      exact r_iret2 X rfl dX5_stepOf_75 h
  have h := ite_n c1_1 h
  by_cases c1_2 : p1 = (2)
  · have h := ite_p c1_2 h
    refine r_tin (off := 75) (tgt := 76) X dX5_stepOf_1 (by rw [c1_2]; decide) (by rw [c1_2]; decide) (by rw [c1_2]; rfl) (by decide) ?_
    refine r_iload_n X dX5_stepOf_76 rfl 0 rfl ?_
    refine r_bipush (v := (43)) X dX5_stepOf_77 (by decide) ?_
    refine r_icmp_ne (tgt := 87) X dX5_stepOf_79 (by decide) h (fun h => ?_) (fun h => ?_)
    · refine r_iload_n X dX5_stepOf_87 rfl 0 rfl ?_
      refine r_bipush (v := (45)) X dX5_stepOf_88 (by decide) ?_
      refine r_icmp_ne (tgt := 98) X dX5_stepOf_90 (by decide) h (fun h => ?_) (fun h => ?_)
      · refine r_iconst (v := (0)) X dX5_stepOf_98 (by decide) ?_
        exact r_iret2 X rfl dX5_stepOf_99 h
      · refine r_bipush (v := (-17)) X dX5_stepOf_93 (by decide) ?_
        refine r_goto (tgt := 99) X dX5_stepOf_95 (by decide) ?_
        exact r_iret2 X rfl dX5_stepOf_99 h
    · refine r_bipush (v := (-16)) X dX5_stepOf_82 (by decide) ?_
      refine r_goto (tgt := 99) X dX5_stepOf_84 (by decide) ?_
      exact r_iret2 X rfl dX5_stepOf_99 h
  have h := ite_n c1_2 h
  refine r_tout (tgt := 100) X dX5_stepOf_1 (tsw_out 3 (fun j hj => by rcases (show j = 0 ∨ j = 1 ∨ j = 2 by omega) with rfl | rfl | rfl <;> assumption) (by decide)) (by decide) ?_
  refine r_iload_n X dX5_stepOf_100 rfl 0 rfl ?_
  refine r_bipush (v := (42)) X dX5_stepOf_101 (by decide) ?_
  refine r_icmp_ne (tgt := 111) X dX5_stepOf_103 (by decide) h (fun h => ?_) (fun h => ?_)
  · refine r_iconst (v := (0)) X dX5_stepOf_111 (by decide) ?_
    exact r_iret2 X rfl dX5_stepOf_112 h
  · refine r_bipush (v := (-18)) X dX5_stepOf_106 (by decide) ?_
    refine r_goto (tgt := 112) X dX5_stepOf_108 (by decide) ?_
    exact r_iret2 X rfl dX5_stepOf_112 h
noncomputable def f_X5_expression_J104 (κe : Nat → Int32 → Int32 → Mm → Option (Int32 × Mm)) (κp : Nat → Int32 → Mm → Option (Int32 × Mm)) (h1 : Nat) (p2 : Int32) (p3 : Int32) (k42 : Int32 → Int32 → Int32 → Mm → Option (Int32 × Mm)) (x21 : Int32) (x22 : Int32) (x23 : Int32) (x24 : Int32) (m25 : Mm) : Option (Int32 × Mm) :=
  bdV (f_X2_add h1 x23 m25) fun m26 => bnd (x22 + (1)) fun x27 => k42 x24 x21 x27 m26
noncomputable def f_X5_expression_B42 (κe : Nat → Int32 → Int32 → Mm → Option (Int32 × Mm)) (κp : Nat → Int32 → Mm → Option (Int32 × Mm)) (h1 : Nat) (p2 : Int32) (p3 : Int32) (k42 : Int32 → Int32 → Int32 → Mm → Option (Int32 × Mm)) (x10 : Int32) (x11 : Int32) (x12 : Int32) (m13 : Mm) : Option (Int32 × Mm) :=
  if x11 ≤ x12 then (grd (bok x10) (some (x10, m13))) else (if x10 = 0 then (grd (bok x10) (some (x10, m13))) else (bdI (f_X5_stepOf (gI m13 1 2) p3 m13) fun x15 m14 => if ¬ x15 = 0 then (bdV (f_X9_advance  m14) fun m16 => if ((3)) ≤ p3 then (bdI (κp h1 p2 m16) fun x18 m17 => f_X5_expression_J104 κe κp h1 p2 p3 k42 x11 x12 x15 x18 m17) else (bdI (κe h1 p2 (p3 + ((1))) m16) fun x20 m19 => f_X5_expression_J104 κe κp h1 p2 p3 k42 x11 x12 x15 x20 m19)) else (grd (bok ((1))) (some ((1), m14)))))
noncomputable def f_X5_expression_J37 (κe : Nat → Int32 → Int32 → Mm → Option (Int32 × Mm)) (κp : Nat → Int32 → Mm → Option (Int32 × Mm)) (h1 : Nat) (p2 : Int32) (p3 : Int32) (x7 : Int32) (x8 : Int32) (m9 : Mm) : Option (Int32 × Mm) :=
  lop (fun _ _ _ _ => none) (f_X5_expression_B42 κe κp h1 p2 p3 ) 4000 x7 x8 ((0)) m9
noncomputable def f_X5_expression_J23 (κe : Nat → Int32 → Int32 → Mm → Option (Int32 × Mm)) (κp : Nat → Int32 → Mm → Option (Int32 × Mm)) (h1 : Nat) (p2 : Int32) (p3 : Int32) (x5 : Int32) (m6 : Mm) : Option (Int32 × Mm) :=
  if ¬ p3 = ((1)) then (f_X5_expression_J37 κe κp h1 p2 p3 x5 ((1000)) m6) else (f_X5_expression_J37 κe κp h1 p2 p3 x5 ((1)) m6)
noncomputable def f_X5_expression_r (κe : Nat → Int32 → Int32 → Mm → Option (Int32 × Mm)) (κp : Nat → Int32 → Mm → Option (Int32 × Mm)) (h1 : Nat) (p2 : Int32) (p3 : Int32) (mem : Mm) : Option (Int32 × Mm) :=
  if ((3)) ≤ p3 then (bdI (κp h1 p2 mem) fun x2 m1 => f_X5_expression_J23 κe κp h1 p2 p3 x2 m1) else (bdI (κe h1 p2 (p3 + ((1))) mem) fun x4 m3 => f_X5_expression_J23 κe κp h1 p2 p3 x4 m3)
set_option maxHeartbeats 4000000 in
set_option maxRecDepth 100000 in
theorem k_X5_expression_r {l : Launch} {ad : Nat → Nat} {cy : Nat → ClassId} {dC : Nat → ClassId} {dI : Nat → Nat → Nat} {ks : (Nat → Nat) × (Nat → Nat)} {n9 : Nat} {κe : Nat → Int32 → Int32 → Mm → Option (Int32 × Mm)} {κp : Nat → Int32 → Mm → Option (Int32 × Mm)} {h1 : Nat} {p2 : Int32} {p3 : Int32} {mem : Mm} {r2 : Int32} {mem2 : Mm} (hκe : ∀ {b : Nat} {x y : Int32} {m m2 : Mm} {r : Int32}, Lp.1 b = 2 → κe b x y m = some (r, m2) → CtI l Lp ad cy dC dI ks yX5_expression cX5_expression 8 (some .boolean) (rmR n9) [.ref (ad 3), .ref (ad b), .int x, .int y] m r m2) (hκp : ∀ {b : Nat} {x : Int32} {m m2 : Mm} {r : Int32}, Lp.1 b = 2 → κp b x m = some (r, m2) → CtI l Lp ad cy dC dI ks yX5_part cX5_part 6 (some .boolean) (rmR n9) [.ref (ad 3), .ref (ad b), .int x] m r m2) (e1 : Lp.1 h1 = 2) (h : f_X5_expression_r κe κp h1 p2 p3 mem = some (r2, mem2)) : CtI l Lp ad cy dC dI ks yX5_expression cX5_expression 8 (some .boolean) (rmR (n9 + 1)) [.ref (ad (3)), .ref (ad (h1)), .int (p2), .int (p3)] mem r2 mem2 := by
  refine CtI.of (cc := cX5_expression) (maxL := 8) (ret := (some .boolean)) (own := RX5) rfl (by decide) (Nat.le_of_ble_eq_true rfl) ?_
  intro p e s m args below meth c A X
  have hts := X.2.2.2.2.1
  have hl29 := X.2.2.2.2.2.2.1 (.fieldLinkNest "StationPiano$Reader" 29 "StationPiano$Tape" "token" "I" "StationPiano") (List.mem_of_getElem? (i := 1) rfl)
  have hJ104 : ∀ (k42 : Int32 → Int32 → Int32 → Mm → Option (Int32 × Mm)) (hk42 : ∀ (x10 : Int32) (x11 : Int32) (x12 : Int32) (m13 : Mm), k42 x10 x11 x12 m13 = some (r2, mem2) → Jd p l e (rmR (n9 + 1)) s m args below meth c 8 (MQ below (PsI Lp ad cy dC dI r2 mem2 A) args s 0 0 A) A dC dI cy Lp ad m13 42 [(0, .ref (ad (3))), (1, .ref (ad (h1))), (2, .int (p2)), (3, .int (p3)), (4, .int (x10)), (5, .int (x11)), (6, .int (x12))] []) (x21 : Int32) (x22 : Int32) (x23 : Int32) (x24 : Int32) (m25 : Mm), f_X5_expression_J104 κe κp h1 p2 p3 k42 x21 x22 x23 x24 m25 = some (r2, mem2) → Jd p l e (rmR (n9 + 1)) s m args below meth c 8 (MQ below (PsI Lp ad cy dC dI r2 mem2 A) args s 0 0 A) A dC dI cy Lp ad m25 104 [(0, .ref (ad (3))), (1, .ref (ad (h1))), (2, .int (p2)), (3, .int (p3)), (5, .int (x21)), (6, .int (x22)), (7, .int (x23))] [.int (x24)] := by
    intro k42 hk42 x21 x22 x23 x24 m25 h
    unfold f_X5_expression_J104 at h
    refine r_istore (lv2 := [(4, .int (x24)), (0, .ref (ad (3))), (1, .ref (ad (h1))), (2, .int (p2)), (3, .int (p3)), (5, .int (x21)), (6, .int (x22)), (7, .int (x23))]) X dX5_expression_104 (by decide) rfl ?_
    refine r_aload_n X dX5_expression_106 rfl 2 rfl ?_
    refine r_iload X dX5_expression_107 7 rfl ?_
    refine r_cVV (As := [.int (x23)]) (rest := []) X (fun m9 hg => k_X2_add e1 hg) h (Lp_N e1 rfl) e1 rfl (by decide) uw3_239 uw4_0 uw4_1 uw1_5 uw4_2 rfl rfl dd_X2_add ⟨by simp only [rmR]; omega, by simp only [rmR]; omega⟩ rfl (Nat.le_of_ble_eq_true rfl) dX5_expression_109 rfl (fun m26 h => ?_)
    refine r_inc h (fun x27 e9 h => ?_)
    refine r_iinc (v := x27) (lv2 := [(6, .int (x27)), (4, .int (x24)), (0, .ref (ad (3))), (1, .ref (ad (h1))), (2, .int (p2)), (3, .int (p3)), (5, .int (x21)), (7, .int (x23))]) X dX5_expression_112 6 rfl (by rw [e9]; rfl) (by decide) rfl ?_
    refine r_goto (tgt := 42) X dX5_expression_115 (by decide) ?_
    exact r_sub [2, 3, 4, 5, 1, 6, 0] rfl (hk42 x24 x21 x27 m26 h)
  have hJ42 : ∀ (k42 : Int32 → Int32 → Int32 → Mm → Option (Int32 × Mm)) (hk42 : ∀ (x10 : Int32) (x11 : Int32) (x12 : Int32) (m13 : Mm), k42 x10 x11 x12 m13 = some (r2, mem2) → Jd p l e (rmR (n9 + 1)) s m args below meth c 8 (MQ below (PsI Lp ad cy dC dI r2 mem2 A) args s 0 0 A) A dC dI cy Lp ad m13 42 [(0, .ref (ad (3))), (1, .ref (ad (h1))), (2, .int (p2)), (3, .int (p3)), (4, .int (x10)), (5, .int (x11)), (6, .int (x12))] []) (x10 : Int32) (x11 : Int32) (x12 : Int32) (m13 : Mm), f_X5_expression_B42 κe κp h1 p2 p3 k42 x10 x11 x12 m13 = some (r2, mem2) → Jd p l e (rmR (n9 + 1)) s m args below meth c 8 (MQ below (PsI Lp ad cy dC dI r2 mem2 A) args s 0 0 A) A dC dI cy Lp ad m13 42 [(0, .ref (ad (3))), (1, .ref (ad (h1))), (2, .int (p2)), (3, .int (p3)), (4, .int (x10)), (5, .int (x11)), (6, .int (x12))] [] := by
    intro k42 hk42 x10 x11 x12 m13 h
    unfold f_X5_expression_B42 at h
    refine r_iload X dX5_expression_42 6 rfl ?_
    refine r_iload X dX5_expression_44 5 rfl ?_
    refine r_icmp_ge (tgt := 118) X dX5_expression_46 (by decide) h (fun h => ?_) (fun h => ?_)
    · refine r_iload X dX5_expression_118 4 rfl ?_
      exact r_zret2 X rfl dX5_expression_120 h
    · refine r_iload X dX5_expression_49 4 rfl ?_
      refine r_if_eq (tgt := 118) X dX5_expression_51 (by decide) h (fun h => ?_) (fun h => ?_)
      · refine r_iload X dX5_expression_118 4 rfl ?_
        exact r_zret2 X rfl dX5_expression_120 h
      · refine r_aload_n X dX5_expression_54 rfl 0 rfl ?_
        refine r_getB X (k := 0) (of := 2) rfl (Lp_N Lpk_3 rfl) Lpk_3 rfl (by decide) ui_5 (by decide) uw1_73 rfl dX5_expression_55 ?_
        refine r_getIN X (k := 2) (Lp_N Lpk_1 rfl) Lpk_1 rfl (by decide) ui_9 (by decide) hl29 rfl dX5_expression_58 ?_
        refine r_iload_n X dX5_expression_61 rfl 3 rfl ?_
        refine r_cSI (As := [.int (gI m13 1 2), .int (p3)]) (rest := []) X (fun r9 m9 hg => k_X5_stepOf hg) h uw4_3 uw4_4 uw1_3 uw4_5 rfl rfl dd_X5_stepOf ⟨by simp only [rmR]; omega, by simp only [rmR]; omega⟩ rfl (Nat.le_of_ble_eq_true rfl) dX5_expression_62 rfl (fun x15 m14 h => ?_)
        refine r_istore (lv2 := [(7, .int (x15)), (0, .ref (ad (3))), (1, .ref (ad (h1))), (2, .int (p2)), (3, .int (p3)), (4, .int (x10)), (5, .int (x11)), (6, .int (x12))]) X dX5_expression_65 (by decide) rfl ?_
        refine r_iload X dX5_expression_67 0 rfl ?_
        refine r_if_ne (tgt := 74) X dX5_expression_69 (by decide) h (fun h => ?_) (fun h => ?_)
        · refine r_aload_n X dX5_expression_74 rfl 1 rfl ?_
          refine r_getB X (k := 0) (of := 2) rfl (Lp_N Lpk_3 rfl) Lpk_3 rfl (by decide) ui_5 (by decide) uw1_73 rfl dX5_expression_75 ?_
          refine r_cVV (As := []) (rest := []) X (fun m9 hg => k_X9_advance hg) h (Lp_N Lpk_1 rfl) Lpk_1 rfl (by decide) uw3_156 uw3_24 uw3_25 uw1_2 uw3_26 rfl rfl dd_X9_advance ⟨by simp only [rmR]; omega, by simp only [rmR]; omega⟩ rfl (Nat.le_of_ble_eq_true rfl) dX5_expression_78 rfl (fun m16 h => ?_)
          refine r_iload_n X dX5_expression_81 rfl 4 rfl ?_
          refine r_iconst (v := (3)) X dX5_expression_82 (by decide) ?_
          refine r_icmp_ge (tgt := 98) X dX5_expression_83 (by decide) h (fun h => ?_) (fun h => ?_)
          · refine r_aload_n X dX5_expression_98 rfl 1 rfl ?_
            refine r_aload_n X dX5_expression_99 rfl 2 rfl ?_
            refine r_iload_n X dX5_expression_100 rfl 3 rfl ?_
            refine r_cVI (As := [.ref (ad (h1)), .int (p2)]) (rest := []) X (fun r9 m9 hg => hκp e1 hg) h (Lp_N Lpk_3 rfl) Lpk_3 rfl (by decide) uw3_231 uw3_233 us2_4 uw1_3 uw3_234 rfl rfl dd_X5_part ⟨by simp only [rmR]; omega, by simp only [rmR]; omega⟩ rfl (Nat.le_of_ble_eq_true rfl) dX5_expression_101 rfl (fun x18 m17 h => ?_)
            exact r_sub [1, 2, 3, 4, 6, 7, 0] rfl (hJ104 k42 hk42 x11 x12 x15 x18 m17 h)
          · refine r_aload_n X dX5_expression_86 rfl 1 rfl ?_
            refine r_aload_n X dX5_expression_87 rfl 2 rfl ?_
            refine r_iload_n X dX5_expression_88 rfl 3 rfl ?_
            refine r_iload_n X dX5_expression_89 rfl 4 rfl ?_
            refine r_iconst (v := (1)) X dX5_expression_90 (by decide) ?_
            refine r_iadd X dX5_expression_91 ?_
            refine r_cVI (As := [.ref (ad (h1)), .int (p2), .int (p3 + ((1)))]) (rest := []) X (fun r9 m9 hg => hκe e1 hg) h (Lp_N Lpk_3 rfl) Lpk_3 rfl (by decide) uw3_227 uw3_229 us2_3 uw1_3 uw3_230 rfl rfl dd_X5_expression ⟨by simp only [rmR]; omega, by simp only [rmR]; omega⟩ rfl (Nat.le_of_ble_eq_true rfl) dX5_expression_92 rfl (fun x20 m19 h => ?_)
            refine r_goto (tgt := 104) X dX5_expression_95 (by decide) ?_
            exact r_sub [1, 2, 3, 4, 6, 7, 0] rfl (hJ104 k42 hk42 x11 x12 x15 x20 m19 h)
        · refine r_iconst (v := (1)) X dX5_expression_72 (by decide) ?_
          exact r_zret2 X rfl dX5_expression_73 h
  have hL42 : ∀ (n : Nat), ∀ (x10 : Int32) (x11 : Int32) (x12 : Int32) (m13 : Mm), lop (fun _ _ _ _ => none) (f_X5_expression_B42 κe κp h1 p2 p3 ) n x10 x11 x12 m13 = some (r2, mem2) → Jd p l e (rmR (n9 + 1)) s m args below meth c 8 (MQ below (PsI Lp ad cy dC dI r2 mem2 A) args s 0 0 A) A dC dI cy Lp ad m13 42 [(0, .ref (ad (3))), (1, .ref (ad (h1))), (2, .int (p2)), (3, .int (p3)), (4, .int (x10)), (5, .int (x11)), (6, .int (x12))] [] := by
    intro  n
    induction n with
    | zero => intro _ _ _ _ h; cases h
    | succ n ih => intro a0 a1 a2 a3 h; exact hJ42  _ ih a0 a1 a2 a3 h
  have hJ37 : ∀ (x7 : Int32) (x8 : Int32) (m9 : Mm), f_X5_expression_J37 κe κp h1 p2 p3 x7 x8 m9 = some (r2, mem2) → Jd p l e (rmR (n9 + 1)) s m args below meth c 8 (MQ below (PsI Lp ad cy dC dI r2 mem2 A) args s 0 0 A) A dC dI cy Lp ad m9 37 [(0, .ref (ad (3))), (1, .ref (ad (h1))), (2, .int (p2)), (3, .int (p3)), (4, .int (x7))] [.int (x8)] := by
    intro x7 x8 m9 h
    unfold f_X5_expression_J37 at h
    refine r_istore (lv2 := [(5, .int (x8)), (0, .ref (ad (3))), (1, .ref (ad (h1))), (2, .int (p2)), (3, .int (p3)), (4, .int (x7))]) X dX5_expression_37 (by decide) rfl ?_
    refine r_iconst (v := (0)) X dX5_expression_39 (by decide) ?_
    refine r_istore (lv2 := [(6, .int ((0))), (5, .int (x8)), (0, .ref (ad (3))), (1, .ref (ad (h1))), (2, .int (p2)), (3, .int (p3)), (4, .int (x7))]) X dX5_expression_40 (by decide) rfl ?_
    exact r_sub [2, 3, 4, 5, 6, 1, 0] rfl (hL42 4000 x7 x8 ((0)) m9 h)
  have hJ23 : ∀ (x5 : Int32) (m6 : Mm), f_X5_expression_J23 κe κp h1 p2 p3 x5 m6 = some (r2, mem2) → Jd p l e (rmR (n9 + 1)) s m args below meth c 8 (MQ below (PsI Lp ad cy dC dI r2 mem2 A) args s 0 0 A) A dC dI cy Lp ad m6 23 [(0, .ref (ad (3))), (1, .ref (ad (h1))), (2, .int (p2)), (3, .int (p3))] [.int (x5)] := by
    intro x5 m6 h
    unfold f_X5_expression_J23 at h
    refine r_istore (lv2 := [(4, .int (x5)), (0, .ref (ad (3))), (1, .ref (ad (h1))), (2, .int (p2)), (3, .int (p3))]) X dX5_expression_23 (by decide) rfl ?_
    refine r_iload_n X dX5_expression_25 rfl 4 rfl ?_
    refine r_iconst (v := (1)) X dX5_expression_26 (by decide) ?_
    refine r_icmp_ne (tgt := 34) X dX5_expression_27 (by decide) h (fun h => ?_) (fun h => ?_)
    · refine r_sipush (v := (1000)) X dX5_expression_34 (by decide) ?_
      exact r_sub [1, 2, 3, 4, 0] rfl (hJ37 x5 ((1000)) m6 h)
    · refine r_iconst (v := (1)) X dX5_expression_30 (by decide) ?_
      refine r_goto (tgt := 37) X dX5_expression_31 (by decide) ?_
      exact r_sub [1, 2, 3, 4, 0] rfl (hJ37 x5 ((1)) m6 h)
  unfold f_X5_expression_r at h
  refine r_iload_n X dX5_expression_0 rfl 3 rfl ?_
  refine r_iconst (v := (3)) X dX5_expression_1 (by decide) ?_
  refine r_icmp_ge (tgt := 17) X dX5_expression_2 (by decide) h (fun h => ?_) (fun h => ?_)
  · refine r_aload_n X dX5_expression_17 rfl 0 rfl ?_
    refine r_aload_n X dX5_expression_18 rfl 1 rfl ?_
    refine r_iload_n X dX5_expression_19 rfl 2 rfl ?_
    refine r_cVI (As := [.ref (ad (h1)), .int (p2)]) (rest := []) X (fun r9 m9 hg => hκp e1 hg) h (Lp_N Lpk_3 rfl) Lpk_3 rfl (by decide) uw3_231 uw3_233 us2_4 uw1_3 uw3_234 rfl rfl dd_X5_part ⟨by simp only [rmR]; omega, by simp only [rmR]; omega⟩ rfl (Nat.le_of_ble_eq_true rfl) dX5_expression_20 rfl (fun x2 m1 h => ?_)
    exact r_sub [0, 1, 2, 3] rfl (hJ23 x2 m1 h)
  · refine r_aload_n X dX5_expression_5 rfl 0 rfl ?_
    refine r_aload_n X dX5_expression_6 rfl 1 rfl ?_
    refine r_iload_n X dX5_expression_7 rfl 2 rfl ?_
    refine r_iload_n X dX5_expression_8 rfl 3 rfl ?_
    refine r_iconst (v := (1)) X dX5_expression_9 (by decide) ?_
    refine r_iadd X dX5_expression_10 ?_
    refine r_cVI (As := [.ref (ad (h1)), .int (p2), .int (p3 + ((1)))]) (rest := []) X (fun r9 m9 hg => hκe e1 hg) h (Lp_N Lpk_3 rfl) Lpk_3 rfl (by decide) uw3_227 uw3_229 us2_3 uw1_3 uw3_230 rfl rfl dd_X5_expression ⟨by simp only [rmR]; omega, by simp only [rmR]; omega⟩ rfl (Nat.le_of_ble_eq_true rfl) dX5_expression_11 rfl (fun x4 m3 h => ?_)
    refine r_goto (tgt := 23) X dX5_expression_14 (by decide) ?_
    exact r_sub [0, 1, 2, 3] rfl (hJ23 x4 m3 h)
noncomputable def F_X5 : Nat → (Nat → Int32 → Int32 → Mm → Option (Int32 × Mm)) × (Nat → Int32 → Mm → Option (Int32 × Mm)) := lop (fun _ _ _ _ => none, fun _ _ _ => none) (fun κ => (f_X5_expression_r κ.1 κ.2, f_X5_part_r κ.1 κ.2))
theorem k_X5_rec {l : Launch} {ad : Nat → Nat} {cy : Nat → ClassId} {dC : Nat → ClassId} {dI : Nat → Nat → Nat} {ks : (Nat → Nat) × (Nat → Nat)} : ∀ n9 : Nat, (∀ {b : Nat} {x y : Int32} {m m2 : Mm} {r : Int32}, Lp.1 b = 2 → (F_X5 n9).1 b x y m = some (r, m2) → CtI l Lp ad cy dC dI ks yX5_expression cX5_expression 8 (some .boolean) (rmR n9) [.ref (ad 3), .ref (ad b), .int x, .int y] m r m2) ∧ (∀ {b : Nat} {x : Int32} {m m2 : Mm} {r : Int32}, Lp.1 b = 2 → (F_X5 n9).2 b x m = some (r, m2) → CtI l Lp ad cy dC dI ks yX5_part cX5_part 6 (some .boolean) (rmR n9) [.ref (ad 3), .ref (ad b), .int x] m r m2) := by
  intro n9
  induction n9 with
  | zero => exact ⟨fun _ h => (by cases h), fun _ h => (by cases h)⟩
  | succ n ih => exact ⟨fun e1 h => k_X5_expression_r ih.1 ih.2 e1 h, fun e1 h => k_X5_part_r ih.1 ih.2 e1 h⟩
noncomputable def f_X5_expression (h1 : Nat) (p2 p3 : Int32) (mem : Mm) : Option (Int32 × Mm) := (F_X5 60).1 h1 p2 p3 mem
theorem k_X5_expression {l : Launch} {ad : Nat → Nat} {cy : Nat → ClassId} {dC : Nat → ClassId} {dI : Nat → Nat → Nat} {ks : (Nat → Nat) × (Nat → Nat)} {h1 : Nat} {p2 p3 : Int32} {mem : Mm} {r2 : Int32} {mem2 : Mm} (e1 : Lp.1 h1 = 2) (h : f_X5_expression h1 p2 p3 mem = some (r2, mem2)) : CtI l Lp ad cy dC dI ks yX5_expression cX5_expression 8 (some .boolean) (rmR 60) [.ref (ad 3), .ref (ad h1), .int p2, .int p3] mem r2 mem2 := (k_X5_rec 60).1 e1 h
