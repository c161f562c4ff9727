noncomputable def f_X0_add (h0 : Nat) (p1 : Int32) (p2 : Int32) (mem : Mm) : Option (Int32 × Mm) :=
  if (gI mem h0 2) < 0 then (grd (bok ((0))) (some ((0), mem))) else (if (gI mem h0 2) < ((8)) then (grd (inb (gI mem h0 2) (Lp.2.1 (h0 + 1))) (bnd (sI mem (h0 + 1) (gI mem h0 2).toNatClampNeg p1) fun m1 => grd (inb (gI m1 h0 2) (Lp.2.1 (h0 + 2))) (bnd (sI m1 (h0 + 2) (gI m1 h0 2).toNatClampNeg p2) fun m2 => bnd (sI m2 h0 2 ((gI m2 h0 2) + ((1)))) fun m3 => grd (bok ((1))) (some ((1), m3))))) else (grd (bok ((0))) (some ((0), mem))))
theorem dd_X0_add : yX0_add.cls = RX0 ∧ yX0_add.cls ≠ "java/lang/invoke/MethodHandle" ∧ yX0_add.cls ≠ "java/lang/invoke/VarHandle" ∧ (parseMethodDescriptor yX0_add.desc).map (fun d => d.parameters.length) = some 2 := by decide +kernel
set_option maxHeartbeats 4000000 in
set_option maxRecDepth 100000 in
theorem k_X0_add {l : Launch} {ad : Nat → Nat} {cy : Nat → ClassId} {dC : Nat → ClassId} {dI : Nat → Nat → Nat} {ks : (Nat → Nat) × (Nat → Nat)} {h0 : Nat} {p1 : Int32} {p2 : Int32} {mem : Mm} {r2 : Int32} {mem2 : Mm} (e0 : Lp.1 h0 = 0) (h : f_X0_add h0 p1 p2 mem = some (r2, mem2)) : CtI l Lp ad cy dC dI ks yX0_add cX0_add 3 (some .boolean) ({ frames := 0, cells := 0, slots := 0, locals := 0 }) [.ref (ad (h0)), .int (p1), .int (p2)] mem r2 mem2 := by
  refine CtI.of (cc := cX0_add) (maxL := 3) (ret := (some .boolean)) (own := RX0) rfl (by decide) (Nat.le_of_ble_eq_true rfl) ?_
  intro p e s m args below meth c A X
  have hts := X.2.2.2.2.1
  unfold f_X0_add at h
  refine r_aload_n X dX0_add_0 rfl 0 rfl ?_
  refine r_getI X (k := 2) (Lp_N e0 rfl) e0 rfl (by decide) ui_0 (by decide) uw2_64 rfl dX0_add_1 ?_
  refine r_if_lt (tgt := 16) X dX0_add_4 (by decide) h (fun h => ?_) (fun h => ?_)
  · refine r_iconst (v := (0)) X dX0_add_16 (by decide) ?_
    exact r_zret2 X rfl dX0_add_17 h
  · refine r_aload_n X dX0_add_7 rfl 0 rfl ?_
    refine r_getI X (k := 2) (Lp_N e0 rfl) e0 rfl (by decide) ui_0 (by decide) uw2_64 rfl dX0_add_8 ?_
    refine r_bipush (v := (8)) X dX0_add_11 (by decide) ?_
    refine r_icmp_lt (tgt := 18) X dX0_add_13 (by decide) h (fun h => ?_) (fun h => ?_)
    · refine r_aload_n X dX0_add_18 rfl 0 rfl ?_
      refine r_getF X (k := 0) (of := 1) rfl (Lp_N e0 rfl) e0 rfl (by decide) ui_0 (by decide) uw2_62 rfl dX0_add_19 ?_
      refine r_aload_n X dX0_add_22 rfl 0 rfl ?_
      refine r_getI X (k := 2) (Lp_N e0 rfl) e0 rfl (by decide) ui_0 (by decide) uw2_64 rfl dX0_add_23 ?_
      refine r_iload_n X dX0_add_26 rfl 1 rfl ?_
      refine r_iast X (Lp_N (Lp_0_0 e0) rfl) (Lp_0_0 e0) h dX0_add_27 (fun h => ?_)
      refine r_nmM h (fun m1 h => ?_)
      refine r_aload_n X dX0_add_28 rfl 0 rfl ?_
      refine r_getF X (k := 1) (of := 2) rfl (Lp_N e0 rfl) e0 rfl (by decide) ui_0 (by decide) uw2_63 rfl dX0_add_29 ?_
      refine r_aload_n X dX0_add_32 rfl 0 rfl ?_
      refine r_getI X (k := 2) (Lp_N e0 rfl) e0 rfl (by decide) ui_0 (by decide) uw2_64 rfl dX0_add_33 ?_
      refine r_iload_n X dX0_add_36 rfl 2 rfl ?_
      refine r_iast X (Lp_N (Lp_0_1 e0) rfl) (Lp_0_1 e0) h dX0_add_37 (fun h => ?_)
      refine r_nmM h (fun m2 h => ?_)
      refine r_aload_n X dX0_add_38 rfl 0 rfl ?_
      refine r_dup X dX0_add_39 rfl ?_
      refine r_getI X (k := 2) (Lp_N e0 rfl) e0 rfl (by decide) ui_0 (by decide) uw2_64 rfl dX0_add_40 ?_
      refine r_iconst (v := (1)) X dX0_add_43 (by decide) ?_
      refine r_iadd X dX0_add_44 ?_
      refine r_putI X (k := 2) (Lp_N e0 rfl) e0 rfl (by decide) ui_0 (by decide) uw2_64 tyX0_ok nmX0 rfl rfl rfl dX0_add_45 ?_
      refine r_nmM h (fun m3 h => ?_)
      refine r_iconst (v := (1)) X dX0_add_48 (by decide) ?_
      exact r_zret2 X rfl dX0_add_49 h
    · refine r_iconst (v := (0)) X dX0_add_16 (by decide) ?_
      exact r_zret2 X rfl dX0_add_17 h
noncomputable def f_X0_has_B2 (h0 : Nat) (p1 : Int32) (k2 : Int32 → Mm → Option (Int32 × Mm)) (x1 : Int32) (m2 : Mm) : Option (Int32 × Mm) :=
  if (gI m2 h0 2) ≤ x1 then (grd (bok ((0))) (some ((0), m2))) else (if ((8)) ≤ x1 then (grd (bok ((0))) (some ((0), m2))) else (grd (inb x1 (Lp.2.1 (h0 + 1))) (if ¬ (gI m2 (h0 + 1) x1.toNatClampNeg) = p1 then (bnd (x1 + (1)) fun x3 => k2 x3 m2) else (grd (bok ((1))) (some ((1), m2))))))
noncomputable def f_X0_has (h0 : Nat) (p1 : Int32) (mem : Mm) : Option (Int32 × Mm) :=
  lop (fun _ _ => none) (f_X0_has_B2 h0 p1 ) 4000 ((0)) mem
theorem dd_X0_has : yX0_has.cls = RX0 ∧ yX0_has.cls ≠ "java/lang/invoke/MethodHandle" ∧ yX0_has.cls ≠ "java/lang/invoke/VarHandle" ∧ (parseMethodDescriptor yX0_has.desc).map (fun d => d.parameters.length) = some 1 := by decide +kernel
set_option maxHeartbeats 4000000 in
set_option maxRecDepth 100000 in
theorem k_X0_has {l : Launch} {ad : Nat → Nat} {cy : Nat → ClassId} {dC : Nat → ClassId} {dI : Nat → Nat → Nat} {ks : (Nat → Nat) × (Nat → Nat)} {h0 : Nat} {p1 : Int32} {mem : Mm} {r2 : Int32} {mem2 : Mm} (e0 : Lp.1 h0 = 0) (h : f_X0_has h0 p1 mem = some (r2, mem2)) : CtI l Lp ad cy dC dI ks yX0_has cX0_has 3 (some .boolean) ({ frames := 0, cells := 0, slots := 0, locals := 0 }) [.ref (ad (h0)), .int (p1)] mem r2 mem2 := by
  refine CtI.of (cc := cX0_has) (maxL := 3) (ret := (some .boolean)) (own := RX0) rfl (by decide) (Nat.le_of_ble_eq_true rfl) ?_
  intro p e s m args below meth c A X
  have hts := X.2.2.2.2.1
  have hJ2 : ∀ (k2 : Int32 → Mm → Option (Int32 × Mm)) (hk2 : ∀ (x1 : Int32) (m2 : Mm), k2 x1 m2 = some (r2, mem2) → Jd p l e ({ frames := 0, cells := 0, slots := 0, locals := 0 }) s m args below meth c 3 (MQ below (PsI Lp ad cy dC dI r2 mem2 A) args s 0 0 A) A dC dI cy Lp ad m2 2 [(0, .ref (ad (h0))), (1, .int (p1)), (2, .int (x1))] []) (x1 : Int32) (m2 : Mm), f_X0_has_B2 h0 p1 k2 x1 m2 = some (r2, mem2) → Jd p l e ({ frames := 0, cells := 0, slots := 0, locals := 0 }) s m args below meth c 3 (MQ below (PsI Lp ad cy dC dI r2 mem2 A) args s 0 0 A) A dC dI cy Lp ad m2 2 [(0, .ref (ad (h0))), (1, .int (p1)), (2, .int (x1))] [] := by
    intro k2 hk2 x1 m2 h
    unfold f_X0_has_B2 at h
    refine r_iload_n X dX0_has_2 rfl 2 rfl ?_
    refine r_aload_n X dX0_has_3 rfl 0 rfl ?_
    refine r_getI X (k := 2) (Lp_N e0 rfl) e0 rfl (by decide) ui_0 (by decide) uw2_64 rfl dX0_has_4 ?_
    refine r_icmp_ge (tgt := 34) X dX0_has_7 (by decide) h (fun h => ?_) (fun h => ?_)
    · refine r_iconst (v := (0)) X dX0_has_34 (by decide) ?_
      exact r_zret2 X rfl dX0_has_35 h
    · refine r_iload_n X dX0_has_10 rfl 2 rfl ?_
      refine r_bipush (v := (8)) X dX0_has_11 (by decide) ?_
      refine r_icmp_ge (tgt := 34) X dX0_has_13 (by decide) h (fun h => ?_) (fun h => ?_)
      · refine r_iconst (v := (0)) X dX0_has_34 (by decide) ?_
        exact r_zret2 X rfl dX0_has_35 h
      · refine r_aload_n X dX0_has_16 rfl 0 rfl ?_
        refine r_getF X (k := 0) (of := 1) rfl (Lp_N e0 rfl) e0 rfl (by decide) ui_0 (by decide) uw2_62 rfl dX0_has_17 ?_
        refine r_iload_n X dX0_has_20 rfl 2 rfl ?_
        refine r_iald X (Lp_N (Lp_0_0 e0) rfl) (Lp_0_0 e0) h dX0_has_21 (fun h => ?_)
        refine r_iload_n X dX0_has_22 rfl 1 rfl ?_
        refine r_icmp_ne (tgt := 28) X dX0_has_23 (by decide) h (fun h => ?_) (fun h => ?_)
        · refine r_inc h (fun x3 e9 h => ?_)
          refine r_iinc (v := x3) (lv2 := [(2, .int (x3)), (0, .ref (ad (h0))), (1, .int (p1))]) X dX0_has_28 2 rfl (by rw [e9]; rfl) (by decide) rfl ?_
          refine r_goto (tgt := 2) X dX0_has_31 (by decide) ?_
          exact r_sub [1, 2, 0] rfl (hk2 x3 m2 h)
        · refine r_iconst (v := (1)) X dX0_has_26 (by decide) ?_
          exact r_zret2 X rfl dX0_has_27 h
  have hL2 : ∀ (n : Nat), ∀ (x1 : Int32) (m2 : Mm), lop (fun _ _ => none) (f_X0_has_B2 h0 p1 ) n x1 m2 = some (r2, mem2) → Jd p l e ({ frames := 0, cells := 0, slots := 0, locals := 0 }) s m args below meth c 3 (MQ below (PsI Lp ad cy dC dI r2 mem2 A) args s 0 0 A) A dC dI cy Lp ad m2 2 [(0, .ref (ad (h0))), (1, .int (p1)), (2, .int (x1))] [] := by
    intro  n
    induction n with
    | zero => intro _ _ h; cases h
    | succ n ih => intro a0 a1 h; exact hJ2  _ ih a0 a1 h
  unfold f_X0_has at h
  refine r_iconst (v := (0)) X dX0_has_0 (by decide) ?_
  refine r_istore_n (lv2 := [(2, .int ((0))), (0, .ref (ad (h0))), (1, .int (p1))]) X dX0_has_1 rfl (by decide) rfl ?_
  exact r_sub [1, 2, 0] rfl (hL2 4000 ((0)) mem h)
noncomputable def f_X0_allSo_B2 (h0 : Nat) (h1 : Nat) (k2 : Int32 → Mm → Option (Int32 × Mm)) (x1 : Int32) (m2 : Mm) : Option (Int32 × Mm) :=
  if (gI m2 h0 2) ≤ x1 then (grd (bok ((1))) (some ((1), m2))) else (if ((8)) ≤ x1 then (grd (bok ((1))) (some ((1), m2))) else (grd (inb x1 (Lp.2.1 (h0 + 1))) (bnd (gI m2 (h0 + 1) x1.toNatClampNeg) fun x3 => if x3 < 0 then (grd (bok ((0))) (some ((0), m2))) else (if (Int32.ofNat (Lp.2.1 h1)) ≤ x3 then (grd (bok ((0))) (some ((0), m2))) else (grd (inb x3 (Lp.2.1 h1)) (grd (inb x1 (Lp.2.1 (h0 + 2))) (if (gI m2 h1 x3.toNatClampNeg) = (gI m2 (h0 + 2) x1.toNatClampNeg) then (bnd (x1 + (1)) fun x4 => k2 x4 m2) else (grd (bok ((0))) (some ((0), m2))))))))))
noncomputable def f_X0_allSo (h0 : Nat) (h1 : Nat) (mem : Mm) : Option (Int32 × Mm) :=
  lop (fun _ _ => none) (f_X0_allSo_B2 h0 h1 ) 4000 ((0)) mem
theorem dd_X0_allSo : yX0_allSo.cls = RX0 ∧ yX0_allSo.cls ≠ "java/lang/invoke/MethodHandle" ∧ yX0_allSo.cls ≠ "java/lang/invoke/VarHandle" ∧ (parseMethodDescriptor yX0_allSo.desc).map (fun d => d.parameters.length) = some 1 := by decide +kernel
set_option maxHeartbeats 4000000 in
set_option maxRecDepth 100000 in
theorem k_X0_allSo {l : Launch} {ad : Nat → Nat} {cy : Nat → ClassId} {dC : Nat → ClassId} {dI : Nat → Nat → Nat} {ks : (Nat → Nat) × (Nat → Nat)} {h0 : Nat} {h1 : Nat} {mem : Mm} {r2 : Int32} {mem2 : Mm} (e0 : Lp.1 h0 = 0) (e1 : Lp.1 h1 = 14) (h : f_X0_allSo h0 h1 mem = some (r2, mem2)) : CtI l Lp ad cy dC dI ks yX0_allSo cX0_allSo 4 (some .boolean) ({ frames := 0, cells := 0, slots := 0, locals := 0 }) [.ref (ad (h0)), .ref (ad (h1))] mem r2 mem2 := by
  refine CtI.of (cc := cX0_allSo) (maxL := 4) (ret := (some .boolean)) (own := RX0) rfl (by decide) (Nat.le_of_ble_eq_true rfl) ?_
  intro p e s m args below meth c A X
  have hts := X.2.2.2.2.1
  have hJ2 : ∀ (k2 : Int32 → Mm → Option (Int32 × Mm)) (hk2 : ∀ (x1 : Int32) (m2 : Mm), k2 x1 m2 = some (r2, mem2) → Jd p l e ({ frames := 0, cells := 0, slots := 0, locals := 0 }) s m args below meth c 4 (MQ below (PsI Lp ad cy dC dI r2 mem2 A) args s 0 0 A) A dC dI cy Lp ad m2 2 [(0, .ref (ad (h0))), (1, .ref (ad (h1))), (2, .int (x1))] []) (x1 : Int32) (m2 : Mm), f_X0_allSo_B2 h0 h1 k2 x1 m2 = some (r2, mem2) → Jd p l e ({ frames := 0, cells := 0, slots := 0, locals := 0 }) s m args below meth c 4 (MQ below (PsI Lp ad cy dC dI r2 mem2 A) args s 0 0 A) A dC dI cy Lp ad m2 2 [(0, .ref (ad (h0))), (1, .ref (ad (h1))), (2, .int (x1))] [] := by
    intro k2 hk2 x1 m2 h
    unfold f_X0_allSo_B2 at h
    refine r_iload_n X dX0_allSo_2 rfl 2 rfl ?_
    refine r_aload_n X dX0_allSo_3 rfl 0 rfl ?_
    refine r_getI X (k := 2) (Lp_N e0 rfl) e0 rfl (by decide) ui_0 (by decide) uw2_64 rfl dX0_allSo_4 ?_
    refine r_icmp_ge (tgt := 53) X dX0_allSo_7 (by decide) h (fun h => ?_) (fun h => ?_)
    · refine r_iconst (v := (1)) X dX0_allSo_53 (by decide) ?_
      exact r_zret2 X rfl dX0_allSo_54 h
    · refine r_iload_n X dX0_allSo_10 rfl 2 rfl ?_
      refine r_bipush (v := (8)) X dX0_allSo_11 (by decide) ?_
      refine r_icmp_ge (tgt := 53) X dX0_allSo_13 (by decide) h (fun h => ?_) (fun h => ?_)
      · refine r_iconst (v := (1)) X dX0_allSo_53 (by decide) ?_
        exact r_zret2 X rfl dX0_allSo_54 h
      · refine r_aload_n X dX0_allSo_16 rfl 0 rfl ?_
        refine r_getF X (k := 0) (of := 1) rfl (Lp_N e0 rfl) e0 rfl (by decide) ui_0 (by decide) uw2_62 rfl dX0_allSo_17 ?_
        refine r_iload_n X dX0_allSo_20 rfl 2 rfl ?_
        refine r_iald X (Lp_N (Lp_0_0 e0) rfl) (Lp_0_0 e0) h dX0_allSo_21 (fun h => ?_)
        refine r_nmI h (fun x3 h => ?_)
        refine r_istore_n (lv2 := [(3, .int (x3)), (0, .ref (ad (h0))), (1, .ref (ad (h1))), (2, .int (x1))]) X dX0_allSo_22 rfl (by decide) rfl ?_
        refine r_iload_n X dX0_allSo_23 rfl 0 rfl ?_
        refine r_if_lt (tgt := 45) X dX0_allSo_24 (by decide) h (fun h => ?_) (fun h => ?_)
        · refine r_iconst (v := (0)) X dX0_allSo_45 (by decide) ?_
          exact r_zret2 X rfl dX0_allSo_46 h
        · refine r_iload_n X dX0_allSo_27 rfl 0 rfl ?_
          refine r_aload_n X dX0_allSo_28 rfl 2 rfl ?_
          refine r_alenI X (Lp_N e1 rfl) e1 dX0_allSo_29 ?_
          refine r_icmp_ge (tgt := 45) X dX0_allSo_30 (by decide) h (fun h => ?_) (fun h => ?_)
          · refine r_iconst (v := (0)) X dX0_allSo_45 (by decide) ?_
            exact r_zret2 X rfl dX0_allSo_46 h
          · refine r_aload_n X dX0_allSo_33 rfl 2 rfl ?_
            refine r_iload_n X dX0_allSo_34 rfl 0 rfl ?_
            refine r_iald X (Lp_N e1 rfl) e1 h dX0_allSo_35 (fun h => ?_)
            refine r_aload_n X dX0_allSo_36 rfl 1 rfl ?_
            refine r_getF X (k := 1) (of := 2) rfl (Lp_N e0 rfl) e0 rfl (by decide) ui_0 (by decide) uw2_63 rfl dX0_allSo_37 ?_
            refine r_iload_n X dX0_allSo_40 rfl 3 rfl ?_
            refine r_iald X (Lp_N (Lp_0_1 e0) rfl) (Lp_0_1 e0) h dX0_allSo_41 (fun h => ?_)
            refine r_icmp_eq (tgt := 47) X dX0_allSo_42 (by decide) h (fun h => ?_) (fun h => ?_)
            · refine r_inc h (fun x4 e9 h => ?_)
              refine r_iinc (v := x4) (lv2 := [(2, .int (x4)), (3, .int (x3)), (0, .ref (ad (h0))), (1, .ref (ad (h1)))]) X dX0_allSo_47 3 rfl (by rw [e9]; rfl) (by decide) rfl ?_
              refine r_goto (tgt := 2) X dX0_allSo_50 (by decide) ?_
              exact r_sub [2, 3, 0] rfl (hk2 x4 m2 h)
            · refine r_iconst (v := (0)) X dX0_allSo_45 (by decide) ?_
              exact r_zret2 X rfl dX0_allSo_46 h
  have hL2 : ∀ (n : Nat), ∀ (x1 : Int32) (m2 : Mm), lop (fun _ _ => none) (f_X0_allSo_B2 h0 h1 ) n x1 m2 = some (r2, mem2) → Jd p l e ({ frames := 0, cells := 0, slots := 0, locals := 0 }) s m args below meth c 4 (MQ below (PsI Lp ad cy dC dI r2 mem2 A) args s 0 0 A) A dC dI cy Lp ad m2 2 [(0, .ref (ad (h0))), (1, .ref (ad (h1))), (2, .int (x1))] [] := by
    intro  n
    induction n with
    | zero => intro _ _ h; cases h
    | succ n ih => intro a0 a1 h; exact hJ2  _ ih a0 a1 h
  unfold f_X0_allSo at h
  refine r_iconst (v := (0)) X dX0_allSo_0 (by decide) ?_
  refine r_istore_n (lv2 := [(2, .int ((0))), (0, .ref (ad (h0))), (1, .ref (ad (h1)))]) X dX0_allSo_1 rfl (by decide) rfl ?_
  exact r_sub [1, 2, 0] rfl (hL2 4000 ((0)) mem h)
noncomputable def f_X0_copyFrom_B10 (h0 : Nat) (h1 : Nat) (k10 : Int32 → Mm → Option Mm) (x2 : Int32) (m3 : Mm) : Option Mm :=
  if (gI m3 h0 2) ≤ x2 then (some m3) else (if ((8)) ≤ x2 then (some m3) else (grd (inb x2 (Lp.2.1 (h1 + 1))) (grd (inb x2 (Lp.2.1 (h0 + 1))) (bnd (sI m3 (h0 + 1) x2.toNatClampNeg (gI m3 (h1 + 1) x2.toNatClampNeg)) fun m4 => grd (inb x2 (Lp.2.1 (h1 + 2))) (grd (inb x2 (Lp.2.1 (h0 + 2))) (bnd (sI m4 (h0 + 2) x2.toNatClampNeg (gI m4 (h1 + 2) x2.toNatClampNeg)) fun m5 => bnd (x2 + (1)) fun x6 => k10 x6 m5))))))
noncomputable def f_X0_copyFrom (h0 : Nat) (h1 : Nat) (mem : Mm) : Option Mm :=
  bnd (sI mem h0 2 (gI mem h1 2)) fun m1 => lop (fun _ _ => none) (f_X0_copyFrom_B10 h0 h1 ) 4000 ((0)) m1
theorem dd_X0_copyFrom : yX0_copyFrom.cls = RX0 ∧ yX0_copyFrom.cls ≠ "java/lang/invoke/MethodHandle" ∧ yX0_copyFrom.cls ≠ "java/lang/invoke/VarHandle" ∧ (parseMethodDescriptor yX0_copyFrom.desc).map (fun d => d.parameters.length) = some 1 := by decide +kernel
set_option maxHeartbeats 4000000 in
set_option maxRecDepth 100000 in
theorem k_X0_copyFrom {l : Launch} {ad : Nat → Nat} {cy : Nat → ClassId} {dC : Nat → ClassId} {dI : Nat → Nat → Nat} {ks : (Nat → Nat) × (Nat → Nat)} {h0 : Nat} {h1 : Nat} {mem : Mm} {mem2 : Mm} (e0 : Lp.1 h0 = 0) (e1 : Lp.1 h1 = 0) (h : f_X0_copyFrom h0 h1 mem = some mem2) : CtV l Lp ad cy dC dI ks yX0_copyFrom cX0_copyFrom 3 none ({ frames := 0, cells := 0, slots := 0, locals := 0 }) [.ref (ad (h0)), .ref (ad (h1))] mem mem2 := by
  refine CtV.of (cc := cX0_copyFrom) (maxL := 3) (ret := none) (own := RX0) rfl (by decide) (Nat.le_of_ble_eq_true rfl) ?_
  intro p e s m args below meth c A X
  have hts := X.2.2.2.2.1
  have hJ10 : ∀ (k10 : Int32 → Mm → Option Mm) (hk10 : ∀ (x2 : Int32) (m3 : Mm), k10 x2 m3 = some mem2 → Jd p l e ({ frames := 0, cells := 0, slots := 0, locals := 0 }) s m args below meth c 3 (MQ below (PsV Lp ad cy dC dI mem2 A) args s 0 0 A) A dC dI cy Lp ad m3 10 [(0, .ref (ad (h0))), (1, .ref (ad (h1))), (2, .int (x2))] []) (x2 : Int32) (m3 : Mm), f_X0_copyFrom_B10 h0 h1 k10 x2 m3 = some mem2 → Jd p l e ({ frames := 0, cells := 0, slots := 0, locals := 0 }) s m args below meth c 3 (MQ below (PsV Lp ad cy dC dI mem2 A) args s 0 0 A) A dC dI cy Lp ad m3 10 [(0, .ref (ad (h0))), (1, .ref (ad (h1))), (2, .int (x2))] [] := by
    intro k10 hk10 x2 m3 h
    unfold f_X0_copyFrom_B10 at h
    refine r_iload_n X dX0_copyFrom_10 rfl 2 rfl ?_
    refine r_aload_n X dX0_copyFrom_11 rfl 0 rfl ?_
    refine r_getI X (k := 2) (Lp_N e0 rfl) e0 rfl (by decide) ui_0 (by decide) uw2_64 rfl dX0_copyFrom_12 ?_
    refine r_icmp_ge (tgt := 54) X dX0_copyFrom_15 (by decide) h (fun h => ?_) (fun h => ?_)
    · exact r_vret X rfl dX0_copyFrom_54 h
    · refine r_iload_n X dX0_copyFrom_18 rfl 2 rfl ?_
      refine r_bipush (v := (8)) X dX0_copyFrom_19 (by decide) ?_
      refine r_icmp_ge (tgt := 54) X dX0_copyFrom_21 (by decide) h (fun h => ?_) (fun h => ?_)
      · exact r_vret X rfl dX0_copyFrom_54 h
      · refine r_aload_n X dX0_copyFrom_24 rfl 0 rfl ?_
        refine r_getF X (k := 0) (of := 1) rfl (Lp_N e0 rfl) e0 rfl (by decide) ui_0 (by decide) uw2_62 rfl dX0_copyFrom_25 ?_
        refine r_iload_n X dX0_copyFrom_28 rfl 2 rfl ?_
        refine r_aload_n X dX0_copyFrom_29 rfl 1 rfl ?_
        refine r_getF X (k := 0) (of := 1) rfl (Lp_N e1 rfl) e1 rfl (by decide) ui_0 (by decide) uw2_62 rfl dX0_copyFrom_30 ?_
        refine r_iload_n X dX0_copyFrom_33 rfl 2 rfl ?_
        refine r_iald X (Lp_N (Lp_0_0 e1) rfl) (Lp_0_0 e1) h dX0_copyFrom_34 (fun h => ?_)
        refine r_iast X (Lp_N (Lp_0_0 e0) rfl) (Lp_0_0 e0) h dX0_copyFrom_35 (fun h => ?_)
        refine r_nmM h (fun m4 h => ?_)
        refine r_aload_n X dX0_copyFrom_36 rfl 0 rfl ?_
        refine r_getF X (k := 1) (of := 2) rfl (Lp_N e0 rfl) e0 rfl (by decide) ui_0 (by decide) uw2_63 rfl dX0_copyFrom_37 ?_
        refine r_iload_n X dX0_copyFrom_40 rfl 2 rfl ?_
        refine r_aload_n X dX0_copyFrom_41 rfl 1 rfl ?_
        refine r_getF X (k := 1) (of := 2) rfl (Lp_N e1 rfl) e1 rfl (by decide) ui_0 (by decide) uw2_63 rfl dX0_copyFrom_42 ?_
        refine r_iload_n X dX0_copyFrom_45 rfl 2 rfl ?_
        refine r_iald X (Lp_N (Lp_0_1 e1) rfl) (Lp_0_1 e1) h dX0_copyFrom_46 (fun h => ?_)
        refine r_iast X (Lp_N (Lp_0_1 e0) rfl) (Lp_0_1 e0) h dX0_copyFrom_47 (fun h => ?_)
        refine r_nmM h (fun m5 h => ?_)
        refine r_inc h (fun x6 e9 h => ?_)
        refine r_iinc (v := x6) (lv2 := [(2, .int (x6)), (0, .ref (ad (h0))), (1, .ref (ad (h1)))]) X dX0_copyFrom_48 2 rfl (by rw [e9]; rfl) (by decide) rfl ?_
        refine r_goto (tgt := 10) X dX0_copyFrom_51 (by decide) ?_
        exact r_sub [1, 2, 0] rfl (hk10 x6 m5 h)
  have hL10 : ∀ (n : Nat), ∀ (x2 : Int32) (m3 : Mm), lop (fun _ _ => none) (f_X0_copyFrom_B10 h0 h1 ) n x2 m3 = some mem2 → Jd p l e ({ frames := 0, cells := 0, slots := 0, locals := 0 }) s m args below meth c 3 (MQ below (PsV Lp ad cy dC dI mem2 A) args s 0 0 A) A dC dI cy Lp ad m3 10 [(0, .ref (ad (h0))), (1, .ref (ad (h1))), (2, .int (x2))] [] := by
    intro  n
    induction n with
    | zero => intro _ _ h; cases h
    | succ n ih => intro a0 a1 h; exact hJ10  _ ih a0 a1 h
  unfold f_X0_copyFrom at h
  refine r_aload_n X dX0_copyFrom_0 rfl 0 rfl ?_
  refine r_aload_n X dX0_copyFrom_1 rfl 1 rfl ?_
  refine r_getI X (k := 2) (Lp_N e1 rfl) e1 rfl (by decide) ui_0 (by decide) uw2_64 rfl dX0_copyFrom_2 ?_
  refine r_putI X (k := 2) (Lp_N e0 rfl) e0 rfl (by decide) ui_0 (by decide) uw2_64 tyX0_ok nmX0 rfl rfl rfl dX0_copyFrom_5 ?_
  refine r_nmM h (fun m1 h => ?_)
  refine r_iconst (v := (0)) X dX0_copyFrom_8 (by decide) ?_
  refine r_istore_n (lv2 := [(2, .int ((0))), (0, .ref (ad (h0))), (1, .ref (ad (h1)))]) X dX0_copyFrom_9 rfl (by decide) rfl ?_
  exact r_sub [1, 2, 0] rfl (hL10 4000 ((0)) m1 h)
noncomputable def f_X4_playsFor (h0 : Nat) (p1 : Int32) (mem : Mm) : Option (Int32 × Mm) :=
  if ¬ (gI mem h0 3) = ((3)) then (bnd (if p1 < gI mem h0 7 then p1 else gI mem h0 7) fun x1 => some (x1, mem)) else (some (gI mem h0 7, mem))
theorem dd_X4_playsFor : yX4_playsFor.cls = RX4 ∧ yX4_playsFor.cls ≠ "java/lang/invoke/MethodHandle" ∧ yX4_playsFor.cls ≠ "java/lang/invoke/VarHandle" ∧ (parseMethodDescriptor yX4_playsFor.desc).map (fun d => d.parameters.length) = some 1 := by decide +kernel
set_option maxHeartbeats 4000000 in
set_option maxRecDepth 100000 in
theorem k_X4_playsFor {l : Launch} {ad : Nat → Nat} {cy : Nat → ClassId} {dC : Nat → ClassId} {dI : Nat → Nat → Nat} {ks : (Nat → Nat) × (Nat → Nat)} {h0 : Nat} {p1 : Int32} {mem : Mm} {r2 : Int32} {mem2 : Mm} (e0 : Lp.1 h0 = 4) (h : f_X4_playsFor h0 p1 mem = some (r2, mem2)) : CtI l Lp ad cy dC dI ks yX4_playsFor cX4_playsFor 2 (some .int) ({ frames := 1, cells := 0, slots := 0, locals := 21 }) [.ref (ad (h0)), .int (p1)] mem r2 mem2 := by
  refine CtI.of (cc := cX4_playsFor) (maxL := 2) (ret := (some .int)) (own := RX4) rfl (by decide) (Nat.le_of_ble_eq_true rfl) ?_
  intro p e s m args below meth c A X
  have hts := X.2.2.2.2.1
  unfold f_X4_playsFor at h
  refine r_aload_n X dX4_playsFor_0 rfl 0 rfl ?_
  refine r_getI X (k := 3) (Lp_N e0 rfl) e0 rfl (by decide) ui_4 (by decide) uw1_130 rfl dX4_playsFor_1 ?_
  refine r_iconst (v := (3)) X dX4_playsFor_4 (by decide) ?_
  refine r_icmp_ne (tgt := 15) X dX4_playsFor_5 (by decide) h (fun h => ?_) (fun h => ?_)
  · refine r_aload_n X dX4_playsFor_15 rfl 0 rfl ?_
    refine r_getI X (k := 7) (Lp_N e0 rfl) e0 rfl (by decide) ui_4 (by decide) uw1_142 rfl dX4_playsFor_16 ?_
    refine r_iload_n X dX4_playsFor_19 rfl 1 rfl ?_
    refine r_mmin X uw3_202 uw3_104 uw1_18 uw3_105 (Nat.le_of_ble_eq_true rfl) (Nat.le_of_ble_eq_true rfl) dX4_playsFor_20 ?_
    refine r_nmI h (fun x1 h => ?_)
    exact r_iret2 X rfl dX4_playsFor_23 h
  · refine r_aload_n X dX4_playsFor_8 rfl 0 rfl ?_
    refine r_getI X (k := 7) (Lp_N e0 rfl) e0 rfl (by decide) ui_4 (by decide) uw1_142 rfl dX4_playsFor_9 ?_
    refine r_goto (tgt := 23) X dX4_playsFor_12 (by decide) ?_
    exact r_iret2 X rfl dX4_playsFor_23 h
noncomputable def f_X2_joined_J62 (p0 : Int32) (p1 : Int32) (p2 : Int32) (m1 : Mm) : Option (Int32 × Mm) :=
  some ((1), m1)
noncomputable def f_X2_joined (p0 : Int32) (p1 : Int32) (p2 : Int32) (mem : Mm) : Option (Int32 × Mm) :=
  if p0 = (-17) then (some (p1 - p2, mem)) else (if p0 = (-16) then (some (p1 + p2, mem)) else (if p0 = (-15) then (if ¬ p1 = p2 then (some ((0), mem)) else (some ((1), mem))) else (if p0 = (-14) then (if p2 ≤ p1 then (some ((0), mem)) else (some ((1), mem))) else (if p0 = (-13) then (if ¬ p1 = 0 then (f_X2_joined_J62 p0 p1 p2 mem) else (if p2 = 0 then (some ((0), mem)) else (f_X2_joined_J62 p0 p1 p2 mem))) else (if p0 = (-12) then (if p1 = 0 then (some ((0), mem)) else (if p2 = 0 then (some ((0), mem)) else (some ((1), mem)))) else (some (p1 * p2, mem)))))))
theorem dd_X2_joined : yX2_joined.cls ≠ "java/lang/invoke/MethodHandle" ∧ yX2_joined.cls ≠ "java/lang/invoke/VarHandle" ∧ (parseMethodDescriptor yX2_joined.desc).map (fun d => d.parameters.length) = some 3 := by decide +kernel
set_option maxHeartbeats 4000000 in
set_option maxRecDepth 100000 in
theorem k_X2_joined {l : Launch} {ad : Nat → Nat} {cy : Nat → ClassId} {dC : Nat → ClassId} {dI : Nat → Nat → Nat} {ks : (Nat → Nat) × (Nat → Nat)} {p0 : Int32} {p1 : Int32} {p2 : Int32} {mem : Mm} {r2 : Int32} {mem2 : Mm}  (h : f_X2_joined p0 p1 p2 mem = some (r2, mem2)) : CtI l Lp ad cy dC dI ks yX2_joined cX2_joined 3 (some .int) ({ frames := 0, cells := 0, slots := 0, locals := 0 }) [.int (p0), .int (p1), .int (p2)] mem r2 mem2 := by
  refine CtI.of (cc := cX2_joined) (maxL := 3) (ret := (some .int)) (own := RX2) rfl (by decide) (Nat.le_of_ble_eq_true rfl) ?_
  intro p e s m args below meth c A X
  have hts := X.2.2.2.2.1
  have hJ62 : ∀ (m1 : Mm), f_X2_joined_J62 p0 p1 p2 m1 = some (r2, mem2) → Jd p l e ({ frames := 0, cells := 0, slots := 0, locals := 0 }) s m args below meth c 3 (MQ below (PsI Lp ad cy dC dI r2 mem2 A) args s 0 0 A) A dC dI cy Lp ad m1 62 [] [] := by
    intro m1 h
    unfold f_X2_joined_J62 at h
    refine r_iconst (v := (1)) X dX2_joined_62 (by decide) ?_
    refine r_goto (tgt := 67) X dX2_joined_63 (by decide) ?_
    exact r_iret2 X rfl dX2_joined_67 h
  unfold f_X2_joined at h
  refine r_iload_n X dX2_joined_0 rfl 0 rfl ?_
  by_cases c1_0 : p0 = (-17)
  · have h := ite_p c1_0 h
    refine r_tin (off := 93) (tgt := 94) X dX2_joined_1 (by rw [c1_0]; decide) (by rw [c1_0]; decide) (by rw [c1_0]; rfl) (by decide) ?_
    refine r_iload_n X dX2_joined_94 rfl 1 rfl ?_
    refine r_iload_n X dX2_joined_95 rfl 2 rfl ?_
    refine r_isub X dX2_joined_96 ?_
    exact r_iret2 X rfl dX2_joined_97 h
  have h := ite_n c1_0 h
  by_cases c1_1 : p0 = (-16)
  · have h := ite_p c1_1 h
    refine r_tin (off := 89) (tgt := 90) X dX2_joined_1 (by rw [c1_1]; decide) (by rw [c1_1]; decide) (by rw [c1_1]; rfl) (by decide) ?_
    refine r_iload_n X dX2_joined_90 rfl 1 rfl ?_
    refine r_iload_n X dX2_joined_91 rfl 2 rfl ?_
    refine r_iadd X dX2_joined_92 ?_
    exact r_iret2 X rfl dX2_joined_93 h
  have h := ite_n c1_1 h
  by_cases c1_2 : p0 = (-15)
  · have h := ite_p c1_2 h
    refine r_tin (off := 78) (tgt := 79) X dX2_joined_1 (by rw [c1_2]; decide) (by rw [c1_2]; decide) (by rw [c1_2]; rfl) (by decide) ?_
    refine r_iload_n X dX2_joined_79 rfl 1 rfl ?_
    refine r_iload_n X dX2_joined_80 rfl 2 rfl ?_
    refine r_icmp_ne (tgt := 88) X dX2_joined_81 (by decide) h (fun h => ?_) (fun h => ?_)
    · refine r_iconst (v := (0)) X dX2_joined_88 (by decide) ?_
      exact r_iret2 X rfl dX2_joined_89 h
    · refine r_iconst (v := (1)) X dX2_joined_84 (by decide) ?_
      refine r_goto (tgt := 89) X dX2_joined_85 (by decide) ?_
      exact r_iret2 X rfl dX2_joined_89 h
  have h := ite_n c1_2 h
  by_cases c1_3 : p0 = (-14)
  · have h := ite_p c1_3 h
    refine r_tin (off := 67) (tgt := 68) X dX2_joined_1 (by rw [c1_3]; decide) (by rw [c1_3]; decide) (by rw [c1_3]; rfl) (by decide) ?_
    refine r_iload_n X dX2_joined_68 rfl 1 rfl ?_
    refine r_iload_n X dX2_joined_69 rfl 2 rfl ?_
    refine r_icmp_ge (tgt := 77) X dX2_joined_70 (by decide) h (fun h => ?_) (fun h => ?_)
    · refine r_iconst (v := (0)) X dX2_joined_77 (by decide) ?_
      exact r_iret2 X rfl dX2_joined_78 h
    · refine r_iconst (v := (1)) X dX2_joined_73 (by decide) ?_
      refine r_goto (tgt := 78) X dX2_joined_74 (by decide) ?_
      exact r_iret2 X rfl dX2_joined_78 h
  have h := ite_n c1_3 h
  by_cases c1_4 : p0 = (-13)
  · have h := ite_p c1_4 h
    refine r_tin (off := 53) (tgt := 54) X dX2_joined_1 (by rw [c1_4]; decide) (by rw [c1_4]; decide) (by rw [c1_4]; rfl) (by decide) ?_
    refine r_iload_n X dX2_joined_54 rfl 1 rfl ?_
    refine r_if_ne (tgt := 62) X dX2_joined_55 (by decide) h (fun h => ?_) (fun h => ?_)
    · exact r_sub [] rfl (hJ62 mem h)
    · refine r_iload_n X dX2_joined_58 rfl 2 rfl ?_
      refine r_if_eq (tgt := 66) X dX2_joined_59 (by decide) h (fun h => ?_) (fun h => ?_)
      · refine r_iconst (v := (0)) X dX2_joined_66 (by decide) ?_
        exact r_iret2 X rfl dX2_joined_67 h
      · exact r_sub [] rfl (hJ62 mem h)
  have h := ite_n c1_4 h
  by_cases c1_5 : p0 = (-12)
  · have h := ite_p c1_5 h
    refine r_tin (off := 39) (tgt := 40) X dX2_joined_1 (by rw [c1_5]; decide) (by rw [c1_5]; decide) (by rw [c1_5]; rfl) (by decide) ?_
    refine r_iload_n X dX2_joined_40 rfl 1 rfl ?_
    refine r_if_eq (tgt := 52) X dX2_joined_41 (by decide) h (fun h => ?_) (fun h => ?_)
    · refine r_iconst (v := (0)) X dX2_joined_52 (by decide) ?_
      exact r_iret2 X rfl dX2_joined_53 h
    · refine r_iload_n X dX2_joined_44 rfl 2 rfl ?_
      refine r_if_eq (tgt := 52) X dX2_joined_45 (by decide) h (fun h => ?_) (fun h => ?_)
      · refine r_iconst (v := (0)) X dX2_joined_52 (by decide) ?_
        exact r_iret2 X rfl dX2_joined_53 h
      · refine r_iconst (v := (1)) X dX2_joined_48 (by decide) ?_
        refine r_goto (tgt := 53) X dX2_joined_49 (by decide) ?_
        exact r_iret2 X rfl dX2_joined_53 h
  have h := ite_n c1_5 h
  refine r_tout (tgt := 98) X dX2_joined_1 (tsw_out 6 (fun j hj => by rcases (show j = 0 ∨ j = 1 ∨ j = 2 ∨ j = 3 ∨ j = 4 ∨ j = 5 by omega) with rfl | rfl | rfl | rfl | rfl | rfl <;> assumption) (by decide)) (by decide) ?_
  refine r_iload_n X dX2_joined_98 rfl 1 rfl ?_
  refine r_iload_n X dX2_joined_99 rfl 2 rfl ?_
  refine r_imul X dX2_joined_100 ?_
  exact r_iret2 X rfl dX2_joined_101 h
noncomputable def f_X2_pop (h0 : Nat) (mem : Mm) : Option (Int32 × Mm) :=
  if (gI mem h0 4) ≤ 0 then (some ((0), mem)) else (if (gI mem h0 4) ≤ ((32)) then (bnd (sI mem h0 4 ((gI mem h0 4) - ((1)))) fun m1 => grd (inb (gI m1 h0 4) (Lp.2.1 (h0 + 2))) (some (gI m1 (h0 + 2) (gI m1 h0 4).toNatClampNeg, m1))) else (some ((0), mem)))
theorem dd_X2_pop : yX2_pop.cls = RX2 ∧ yX2_pop.cls ≠ "java/lang/invoke/MethodHandle" ∧ yX2_pop.cls ≠ "java/lang/invoke/VarHandle" ∧ (parseMethodDescriptor yX2_pop.desc).map (fun d => d.parameters.length) = some 0 := by decide +kernel
set_option maxHeartbeats 4000000 in
set_option maxRecDepth 100000 in
theorem k_X2_pop {l : Launch} {ad : Nat → Nat} {cy : Nat → ClassId} {dC : Nat → ClassId} {dI : Nat → Nat → Nat} {ks : (Nat → Nat) × (Nat → Nat)} {h0 : Nat} {mem : Mm} {r2 : Int32} {mem2 : Mm} (e0 : Lp.1 h0 = 2) (h : f_X2_pop h0 mem = some (r2, mem2)) : CtI l Lp ad cy dC dI ks yX2_pop cX2_pop 1 (some .int) ({ frames := 0, cells := 0, slots := 0, locals := 0 }) [.ref (ad (h0))] mem r2 mem2 := by
  refine CtI.of (cc := cX2_pop) (maxL := 1) (ret := (some .int)) (own := RX2) rfl (by decide) (Nat.le_of_ble_eq_true rfl) ?_
  intro p e s m args below meth c A X
  have hts := X.2.2.2.2.1
  unfold f_X2_pop at h
  refine r_aload_n X dX2_pop_0 rfl 0 rfl ?_
  refine r_getI X (k := 4) (Lp_N e0 rfl) e0 rfl (by decide) ui_2 (by decide) uw1_104 rfl dX2_pop_1 ?_
  refine r_if_le (tgt := 16) X dX2_pop_4 (by decide) h (fun h => ?_) (fun h => ?_)
  · refine r_iconst (v := (0)) X dX2_pop_16 (by decide) ?_
    exact r_iret2 X rfl dX2_pop_17 h
  · refine r_aload_n X dX2_pop_7 rfl 0 rfl ?_
    refine r_getI X (k := 4) (Lp_N e0 rfl) e0 rfl (by decide) ui_2 (by decide) uw1_104 rfl dX2_pop_8 ?_
    refine r_bipush (v := (32)) X dX2_pop_11 (by decide) ?_
    refine r_icmp_le (tgt := 18) X dX2_pop_13 (by decide) h (fun h => ?_) (fun h => ?_)
    · refine r_aload_n X dX2_pop_18 rfl 0 rfl ?_
      refine r_dup X dX2_pop_19 rfl ?_
      refine r_getI X (k := 4) (Lp_N e0 rfl) e0 rfl (by decide) ui_2 (by decide) uw1_104 rfl dX2_pop_20 ?_
      refine r_iconst (v := (1)) X dX2_pop_23 (by decide) ?_
      refine r_isub X dX2_pop_24 ?_
      refine r_putI X (k := 4) (Lp_N e0 rfl) e0 rfl (by decide) ui_2 (by decide) uw1_104 tyX2_ok nmX2 rfl rfl rfl dX2_pop_25 ?_
      refine r_nmM h (fun m1 h => ?_)
      refine r_aload_n X dX2_pop_28 rfl 0 rfl ?_
      refine r_getF X (k := 1) (of := 2) rfl (Lp_N e0 rfl) e0 rfl (by decide) ui_2 (by decide) uw1_100 rfl dX2_pop_29 ?_
      refine r_aload_n X dX2_pop_32 rfl 0 rfl ?_
      refine r_getI X (k := 4) (Lp_N e0 rfl) e0 rfl (by decide) ui_2 (by decide) uw1_104 rfl dX2_pop_33 ?_
      refine r_iald X (Lp_N (Lp_2_1 e0) rfl) (Lp_2_1 e0) h dX2_pop_36 (fun h => ?_)
      exact r_iret2 X rfl dX2_pop_37 h
    · refine r_iconst (v := (0)) X dX2_pop_16 (by decide) ?_
      exact r_iret2 X rfl dX2_pop_17 h
noncomputable def f_X2_push (h0 : Nat) (p1 : Int32) (mem : Mm) : Option Mm :=
  if (gI mem h0 4) < 0 then (some mem) else (if ((32)) ≤ (gI mem h0 4) then (some mem) else (grd (inb (gI mem h0 4) (Lp.2.1 (h0 + 2))) (bnd (sI mem (h0 + 2) (gI mem h0 4).toNatClampNeg p1) fun m1 => bnd (sI m1 h0 4 ((gI m1 h0 4) + ((1)))) fun m2 => some m2)))
theorem dd_X2_push : yX2_push.cls = RX2 ∧ yX2_push.cls ≠ "java/lang/invoke/MethodHandle" ∧ yX2_push.cls ≠ "java/lang/invoke/VarHandle" ∧ (parseMethodDescriptor yX2_push.desc).map (fun d => d.parameters.length) = some 1 := by decide +kernel
set_option maxHeartbeats 4000000 in
set_option maxRecDepth 100000 in
theorem k_X2_push {l : Launch} {ad : Nat → Nat} {cy : Nat → ClassId} {dC : Nat → ClassId} {dI : Nat → Nat → Nat} {ks : (Nat → Nat) × (Nat → Nat)} {h0 : Nat} {p1 : Int32} {mem : Mm} {mem2 : Mm} (e0 : Lp.1 h0 = 2) (h : f_X2_push h0 p1 mem = some mem2) : CtV l Lp ad cy dC dI ks yX2_push cX2_push 2 none ({ frames := 0, cells := 0, slots := 0, locals := 0 }) [.ref (ad (h0)), .int (p1)] mem mem2 := by
  refine CtV.of (cc := cX2_push) (maxL := 2) (ret := none) (own := RX2) rfl (by decide) (Nat.le_of_ble_eq_true rfl) ?_
  intro p e s m args below meth c A X
  have hts := X.2.2.2.2.1
  unfold f_X2_push at h
  refine r_aload_n X dX2_push_0 rfl 0 rfl ?_
  refine r_getI X (k := 4) (Lp_N e0 rfl) e0 rfl (by decide) ui_2 (by decide) uw1_104 rfl dX2_push_1 ?_
  refine r_if_lt (tgt := 36) X dX2_push_4 (by decide) h (fun h => ?_) (fun h => ?_)
  · exact r_vret X rfl dX2_push_36 h
  · refine r_aload_n X dX2_push_7 rfl 0 rfl ?_
    refine r_getI X (k := 4) (Lp_N e0 rfl) e0 rfl (by decide) ui_2 (by decide) uw1_104 rfl dX2_push_8 ?_
    refine r_bipush (v := (32)) X dX2_push_11 (by decide) ?_
    refine r_icmp_ge (tgt := 36) X dX2_push_13 (by decide) h (fun h => ?_) (fun h => ?_)
    · exact r_vret X rfl dX2_push_36 h
    · refine r_aload_n X dX2_push_16 rfl 0 rfl ?_
      refine r_getF X (k := 1) (of := 2) rfl (Lp_N e0 rfl) e0 rfl (by decide) ui_2 (by decide) uw1_100 rfl dX2_push_17 ?_
      refine r_aload_n X dX2_push_20 rfl 0 rfl ?_
      refine r_getI X (k := 4) (Lp_N e0 rfl) e0 rfl (by decide) ui_2 (by decide) uw1_104 rfl dX2_push_21 ?_
      refine r_iload_n X dX2_push_24 rfl 1 rfl ?_
      refine r_iast X (Lp_N (Lp_2_1 e0) rfl) (Lp_2_1 e0) h dX2_push_25 (fun h => ?_)
      refine r_nmM h (fun m1 h => ?_)
      refine r_aload_n X dX2_push_26 rfl 0 rfl ?_
      refine r_dup X dX2_push_27 rfl ?_
      refine r_getI X (k := 4) (Lp_N e0 rfl) e0 rfl (by decide) ui_2 (by decide) uw1_104 rfl dX2_push_28 ?_
      refine r_iconst (v := (1)) X dX2_push_31 (by decide) ?_
      refine r_iadd X dX2_push_32 ?_
      refine r_putI X (k := 4) (Lp_N e0 rfl) e0 rfl (by decide) ui_2 (by decide) uw1_104 tyX2_ok nmX2 rfl rfl rfl dX2_push_33 ?_
      refine r_nmM h (fun m2 h => ?_)
      exact r_vret X rfl dX2_push_36 h
noncomputable def f_X2_valueBy_J124 (h0 : Nat) (h1 : Nat) (k7 : Int32 → Mm → Option (Int32 × Mm)) (x19 : Int32) (m20 : Mm) : Option (Int32 × Mm) :=
  bnd (x19 + (1)) fun x21 => k7 x21 m20
noncomputable def f_X2_valueBy_J73 (h0 : Nat) (h1 : Nat) (k7 : Int32 → Mm → Option (Int32 × Mm)) (x28 : Int32) (x29 : Int32) (m30 : Mm) : Option (Int32 × Mm) :=
  bdV (f_X2_push h0 x29 m30) fun m31 => f_X2_valueBy_J124 h0 h1 k7 x28 m31
noncomputable def f_X2_valueBy_J72 (h0 : Nat) (h1 : Nat) (k7 : Int32 → Mm → Option (Int32 × Mm)) (x26 : Int32) (m27 : Mm) : Option (Int32 × Mm) :=
  f_X2_valueBy_J73 h0 h1 k7 x26 ((0)) m27
noncomputable def f_X2_valueBy_J98 (h0 : Nat) (h1 : Nat) (k7 : Int32 → Mm → Option (Int32 × Mm)) (x22 : Int32) (x23 : Int32) (m24 : Mm) : Option (Int32 × Mm) :=
  bdV (f_X2_push h0 x23 m24) fun m25 => f_X2_valueBy_J124 h0 h1 k7 x22 m25
noncomputable def f_X2_valueBy_J130 (h0 : Nat) (h1 : Nat) (m16 : Mm) : Option (Int32 × Mm) :=
  bdI (f_X2_pop h0 m16) fun x18 m17 => some (x18, m17)
noncomputable def f_X2_valueBy_B7 (h0 : Nat) (h1 : Nat) (k7 : Int32 → Mm → Option (Int32 × Mm)) (x2 : Int32) (m3 : Mm) : Option (Int32 × Mm) :=
  if (gI m3 h0 3) ≤ x2 then (f_X2_valueBy_J130 h0 h1 m3) else (if ((1000)) ≤ x2 then (f_X2_valueBy_J130 h0 h1 m3) else (grd (inb x2 (Lp.2.1 (h0 + 1))) (bnd (gI m3 (h0 + 1) x2.toNatClampNeg) fun x4 => if x4 < 0 then (if x4 ≤ ((-11)) then (if ¬ x4 = ((-11)) then (bdI (f_X2_pop h0 m3) fun x6 m5 => bdI (f_X2_pop h0 m5) fun x8 m7 => bdI (f_X2_joined x4 x8 x6 m7) fun x10 m9 => bdV (f_X2_push h0 x10 m9) fun m11 => f_X2_valueBy_J124 h0 h1 k7 x2 m11) else (bdI (f_X2_pop h0 m3) fun x13 m12 => if ¬ x13 = 0 then (f_X2_valueBy_J98 h0 h1 k7 x2 ((0)) m12) else (f_X2_valueBy_J98 h0 h1 k7 x2 ((1)) m12))) else (bnd (((-1)) - x4) fun x14 => if x14 < 0 then (f_X2_valueBy_J72 h0 h1 k7 x2 m3) else (if (Int32.ofNat (Lp.2.1 h1)) ≤ x14 then (f_X2_valueBy_J72 h0 h1 k7 x2 m3) else (grd (inb x14 (Lp.2.1 h1)) (f_X2_valueBy_J73 h0 h1 k7 x2 (gI m3 h1 x14.toNatClampNeg) m3))))) else (bdV (f_X2_push h0 x4 m3) fun m15 => f_X2_valueBy_J124 h0 h1 k7 x2 m15))))
noncomputable def f_X2_valueBy (h0 : Nat) (h1 : Nat) (mem : Mm) : Option (Int32 × Mm) :=
  bnd (sI mem h0 4 ((0))) fun m1 => lop (fun _ _ => none) (f_X2_valueBy_B7 h0 h1 ) 4000 ((0)) m1
theorem dd_X2_valueBy : yX2_valueBy.cls = RX2 ∧ yX2_valueBy.cls ≠ "java/lang/invoke/MethodHandle" ∧ yX2_valueBy.cls ≠ "java/lang/invoke/VarHandle" ∧ (parseMethodDescriptor yX2_valueBy.desc).map (fun d => d.parameters.length) = some 1 := by decide +kernel
set_option maxHeartbeats 4000000 in
set_option maxRecDepth 100000 in
theorem k_X2_valueBy {l : Launch} {ad : Nat → Nat} {cy : Nat → ClassId} {dC : Nat → ClassId} {dI : Nat → Nat → Nat} {ks : (Nat → Nat) × (Nat → Nat)} {h0 : Nat} {h1 : Nat} {mem : Mm} {r2 : Int32} {mem2 : Mm} (e0 : Lp.1 h0 = 2) (e1 : Lp.1 h1 = 14) (h : f_X2_valueBy h0 h1 mem = some (r2, mem2)) : CtI l Lp ad cy dC dI ks yX2_valueBy cX2_valueBy 5 (some .int) ({ frames := 1, cells := 0, slots := 0, locals := 22 }) [.ref (ad (h0)), .ref (ad (h1))] mem r2 mem2 := by
  refine CtI.of (cc := cX2_valueBy) (maxL := 5) (ret := (some .int)) (own := RX2) rfl (by decide) (Nat.le_of_ble_eq_true rfl) ?_
  intro p e s m args below meth c A X
  have hts := X.2.2.2.2.1
  have hJ124 : ∀ (k7 : Int32 → Mm → Option (Int32 × Mm)) (hk7 : ∀ (x2 : Int32) (m3 : Mm), k7 x2 m3 = some (r2, mem2) → Jd p l e ({ frames := 1, cells := 0, slots := 0, locals := 22 }) s m args below meth c 5 (MQ below (PsI Lp ad cy dC dI r2 mem2 A) args s 0 0 A) A dC dI cy Lp ad m3 7 [(0, .ref (ad (h0))), (1, .ref (ad (h1))), (2, .int (x2))] []) (x19 : Int32) (m20 : Mm), f_X2_valueBy_J124 h0 h1 k7 x19 m20 = some (r2, mem2) → Jd p l e ({ frames := 1, cells := 0, slots := 0, locals := 22 }) s m args below meth c 5 (MQ below (PsI Lp ad cy dC dI r2 mem2 A) args s 0 0 A) A dC dI cy Lp ad m20 124 [(0, .ref (ad (h0))), (1, .ref (ad (h1))), (2, .int (x19))] [] := by
    intro k7 hk7 x19 m20 h
    unfold f_X2_valueBy_J124 at h
    refine r_inc h (fun x21 e9 h => ?_)
    refine r_iinc (v := x21) (lv2 := [(2, .int (x21)), (0, .ref (ad (h0))), (1, .ref (ad (h1)))]) X dX2_valueBy_124 2 rfl (by rw [e9]; rfl) (by decide) rfl ?_
    refine r_goto (tgt := 7) X dX2_valueBy_127 (by decide) ?_
    exact r_sub [1, 2, 0] rfl (hk7 x21 m20 h)
  have hJ73 : ∀ (k7 : Int32 → Mm → Option (Int32 × Mm)) (hk7 : ∀ (x2 : Int32) (m3 : Mm), k7 x2 m3 = some (r2, mem2) → Jd p l e ({ frames := 1, cells := 0, slots := 0, locals := 22 }) s m args below meth c 5 (MQ below (PsI Lp ad cy dC dI r2 mem2 A) args s 0 0 A) A dC dI cy Lp ad m3 7 [(0, .ref (ad (h0))), (1, .ref (ad (h1))), (2, .int (x2))] []) (x28 : Int32) (x29 : Int32) (m30 : Mm), f_X2_valueBy_J73 h0 h1 k7 x28 x29 m30 = some (r2, mem2) → Jd p l e ({ frames := 1, cells := 0, slots := 0, locals := 22 }) s m args below meth c 5 (MQ below (PsI Lp ad cy dC dI r2 mem2 A) args s 0 0 A) A dC dI cy Lp ad m30 73 [(0, .ref (ad (h0))), (1, .ref (ad (h1))), (2, .int (x28))] [.int (x29), .ref (ad (h0))] := by
    intro k7 hk7 x28 x29 m30 h
    unfold f_X2_valueBy_J73 at h
    refine r_cVV (As := [.int (x29)]) (rest := []) X (fun m9 hg => k_X2_push e0 hg) h (Lp_N e0 rfl) e0 rfl (by decide) uw4_82 uw4_84 us2_9 uw1_5 uw4_85 rfl rfl dd_X2_push ⟨Nat.le_of_ble_eq_true rfl, Nat.le_of_ble_eq_true rfl⟩ rfl (Nat.le_of_ble_eq_true rfl) dX2_valueBy_73 rfl (fun m31 h => ?_)
    refine r_goto (tgt := 124) X dX2_valueBy_76 (by decide) ?_
    exact r_sub [0, 1, 2] rfl (hJ124 k7 hk7 x28 m31 h)
  have hJ72 : ∀ (k7 : Int32 → Mm → Option (Int32 × Mm)) (hk7 : ∀ (x2 : Int32) (m3 : Mm), k7 x2 m3 = some (r2, mem2) → Jd p l e ({ frames := 1, cells := 0, slots := 0, locals := 22 }) s m args below meth c 5 (MQ below (PsI Lp ad cy dC dI r2 mem2 A) args s 0 0 A) A dC dI cy Lp ad m3 7 [(0, .ref (ad (h0))), (1, .ref (ad (h1))), (2, .int (x2))] []) (x26 : Int32) (m27 : Mm), f_X2_valueBy_J72 h0 h1 k7 x26 m27 = some (r2, mem2) → Jd p l e ({ frames := 1, cells := 0, slots := 0, locals := 22 }) s m args below meth c 5 (MQ below (PsI Lp ad cy dC dI r2 mem2 A) args s 0 0 A) A dC dI cy Lp ad m27 72 [(0, .ref (ad (h0))), (1, .ref (ad (h1))), (2, .int (x26))] [.ref (ad (h0))] := by
    intro k7 hk7 x26 m27 h
    unfold f_X2_valueBy_J72 at h
    refine r_iconst (v := (0)) X dX2_valueBy_72 (by decide) ?_
    exact r_sub [0, 1, 2] rfl (hJ73 k7 hk7 x26 ((0)) m27 h)
  have hJ98 : ∀ (k7 : Int32 → Mm → Option (Int32 × Mm)) (hk7 : ∀ (x2 : Int32) (m3 : Mm), k7 x2 m3 = some (r2, mem2) → Jd p l e ({ frames := 1, cells := 0, slots := 0, locals := 22 }) s m args below meth c 5 (MQ below (PsI Lp ad cy dC dI r2 mem2 A) args s 0 0 A) A dC dI cy Lp ad m3 7 [(0, .ref (ad (h0))), (1, .ref (ad (h1))), (2, .int (x2))] []) (x22 : Int32) (x23 : Int32) (m24 : Mm), f_X2_valueBy_J98 h0 h1 k7 x22 x23 m24 = some (r2, mem2) → Jd p l e ({ frames := 1, cells := 0, slots := 0, locals := 22 }) s m args below meth c 5 (MQ below (PsI Lp ad cy dC dI r2 mem2 A) args s 0 0 A) A dC dI cy Lp ad m24 98 [(0, .ref (ad (h0))), (1, .ref (ad (h1))), (2, .int (x22))] [.int (x23), .ref (ad (h0))] := by
    intro k7 hk7 x22 x23 m24 h
    unfold f_X2_valueBy_J98 at h
    refine r_cVV (As := [.int (x23)]) (rest := []) X (fun m9 hg => k_X2_push e0 hg) h (Lp_N e0 rfl) e0 rfl (by decide) uw4_82 uw4_84 us2_9 uw1_5 uw4_85 rfl rfl dd_X2_push ⟨Nat.le_of_ble_eq_true rfl, Nat.le_of_ble_eq_true rfl⟩ rfl (Nat.le_of_ble_eq_true rfl) dX2_valueBy_98 rfl (fun m25 h => ?_)
    refine r_goto (tgt := 124) X dX2_valueBy_101 (by decide) ?_
    exact r_sub [0, 1, 2] rfl (hJ124 k7 hk7 x22 m25 h)
  have hJ130 : ∀ (m16 : Mm), f_X2_valueBy_J130 h0 h1 m16 = some (r2, mem2) → Jd p l e ({ frames := 1, cells := 0, slots := 0, locals := 22 }) s m args below meth c 5 (MQ below (PsI Lp ad cy dC dI r2 mem2 A) args s 0 0 A) A dC dI cy Lp ad m16 130 [(0, .ref (ad (h0)))] [] := by
    intro m16 h
    unfold f_X2_valueBy_J130 at h
    refine r_aload_n X dX2_valueBy_130 rfl 0 rfl ?_
    refine r_cVI (As := []) (rest := []) X (fun r9 m9 hg => k_X2_pop e0 hg) h (Lp_N e0 rfl) e0 rfl (by decide) uw4_86 uw4_88 us2_10 uw1_5 uw4_89 rfl rfl dd_X2_pop ⟨Nat.le_of_ble_eq_true rfl, Nat.le_of_ble_eq_true rfl⟩ rfl (Nat.le_of_ble_eq_true rfl) dX2_valueBy_131 rfl (fun x18 m17 h => ?_)
    exact r_iret2 X rfl dX2_valueBy_134 h
  have hJ7 : ∀ (k7 : Int32 → Mm → Option (Int32 × Mm)) (hk7 : ∀ (x2 : Int32) (m3 : Mm), k7 x2 m3 = some (r2, mem2) → Jd p l e ({ frames := 1, cells := 0, slots := 0, locals := 22 }) s m args below meth c 5 (MQ below (PsI Lp ad cy dC dI r2 mem2 A) args s 0 0 A) A dC dI cy Lp ad m3 7 [(0, .ref (ad (h0))), (1, .ref (ad (h1))), (2, .int (x2))] []) (x2 : Int32) (m3 : Mm), f_X2_valueBy_B7 h0 h1 k7 x2 m3 = some (r2, mem2) → Jd p l e ({ frames := 1, cells := 0, slots := 0, locals := 22 }) s m args below meth c 5 (MQ below (PsI Lp ad cy dC dI r2 mem2 A) args s 0 0 A) A dC dI cy Lp ad m3 7 [(0, .ref (ad (h0))), (1, .ref (ad (h1))), (2, .int (x2))] [] := by
    intro k7 hk7 x2 m3 h
    unfold f_X2_valueBy_B7 at h
    refine r_iload_n X dX2_valueBy_7 rfl 2 rfl ?_
    refine r_aload_n X dX2_valueBy_8 rfl 0 rfl ?_
    refine r_getI X (k := 3) (Lp_N e0 rfl) e0 rfl (by decide) ui_2 (by decide) uw1_103 rfl dX2_valueBy_9 ?_
    refine r_icmp_ge (tgt := 130) X dX2_valueBy_12 (by decide) h (fun h => ?_) (fun h => ?_)
    · exact r_sub [0] rfl (hJ130 m3 h)
    · refine r_iload_n X dX2_valueBy_15 rfl 2 rfl ?_
      refine r_sipush (v := (1000)) X dX2_valueBy_16 (by decide) ?_
      refine r_icmp_ge (tgt := 130) X dX2_valueBy_19 (by decide) h (fun h => ?_) (fun h => ?_)
      · exact r_sub [0] rfl (hJ130 m3 h)
      · refine r_aload_n X dX2_valueBy_22 rfl 0 rfl ?_
        refine r_getF X (k := 0) (of := 1) rfl (Lp_N e0 rfl) e0 rfl (by decide) ui_2 (by decide) uw1_99 rfl dX2_valueBy_23 ?_
        refine r_iload_n X dX2_valueBy_26 rfl 2 rfl ?_
        refine r_iald X (Lp_N (Lp_2_0 e0) rfl) (Lp_2_0 e0) h dX2_valueBy_27 (fun h => ?_)
        refine r_nmI h (fun x4 h => ?_)
        refine r_istore_n (lv2 := [(3, .int (x4)), (0, .ref (ad (h0))), (1, .ref (ad (h1))), (2, .int (x2))]) X dX2_valueBy_28 rfl (by decide) rfl ?_
        refine r_iload_n X dX2_valueBy_29 rfl 0 rfl ?_
        refine r_if_lt (tgt := 41) X dX2_valueBy_30 (by decide) h (fun h => ?_) (fun h => ?_)
        · refine r_iload_n X dX2_valueBy_41 rfl 0 rfl ?_
          refine r_bipush (v := (-11)) X dX2_valueBy_42 (by decide) ?_
          refine r_icmp_le (tgt := 79) X dX2_valueBy_44 (by decide) h (fun h => ?_) (fun h => ?_)
          · refine r_iload_n X dX2_valueBy_79 rfl 0 rfl ?_
            refine r_bipush (v := (-11)) X dX2_valueBy_80 (by decide) ?_
            refine r_icmp_ne (tgt := 104) X dX2_valueBy_82 (by decide) h (fun h => ?_) (fun h => ?_)
            · refine r_aload_n X dX2_valueBy_104 rfl 1 rfl ?_
              refine r_cVI (As := []) (rest := []) X (fun r9 m9 hg => k_X2_pop e0 hg) h (Lp_N e0 rfl) e0 rfl (by decide) uw4_86 uw4_88 us2_10 uw1_5 uw4_89 rfl rfl dd_X2_pop ⟨Nat.le_of_ble_eq_true rfl, Nat.le_of_ble_eq_true rfl⟩ rfl (Nat.le_of_ble_eq_true rfl) dX2_valueBy_105 rfl (fun x6 m5 h => ?_)
              refine r_istore (lv2 := [(4, .int (x6)), (3, .int (x4)), (0, .ref (ad (h0))), (1, .ref (ad (h1))), (2, .int (x2))]) X dX2_valueBy_108 (by decide) rfl ?_
              refine r_aload_n X dX2_valueBy_110 rfl 2 rfl ?_
              refine r_iload_n X dX2_valueBy_111 rfl 1 rfl ?_
              refine r_aload_n X dX2_valueBy_112 rfl 2 rfl ?_
              refine r_cVI (As := []) (rest := [.int (x4), .ref (ad (h0))]) X (fun r9 m9 hg => k_X2_pop e0 hg) h (Lp_N e0 rfl) e0 rfl (by decide) uw4_86 uw4_88 us2_10 uw1_5 uw4_89 rfl rfl dd_X2_pop ⟨Nat.le_of_ble_eq_true rfl, Nat.le_of_ble_eq_true rfl⟩ rfl (Nat.le_of_ble_eq_true rfl) dX2_valueBy_113 rfl (fun x8 m7 h => ?_)
              refine r_iload X dX2_valueBy_116 0 rfl ?_
              refine r_cSI (As := [.int (x4), .int (x8), .int (x6)]) (rest := [.ref (ad (h0))]) X (fun r9 m9 hg => k_X2_joined hg) h uw4_90 uw4_91 uw1_5 uw4_92 rfl rfl dd_X2_joined ⟨Nat.le_of_ble_eq_true rfl, Nat.le_of_ble_eq_true rfl⟩ rfl (Nat.le_of_ble_eq_true rfl) dX2_valueBy_118 rfl (fun x10 m9 h => ?_)
              refine r_cVV (As := [.int (x10)]) (rest := []) X (fun m9 hg => k_X2_push e0 hg) h (Lp_N e0 rfl) e0 rfl (by decide) uw4_82 uw4_84 us2_9 uw1_5 uw4_85 rfl rfl dd_X2_push ⟨Nat.le_of_ble_eq_true rfl, Nat.le_of_ble_eq_true rfl⟩ rfl (Nat.le_of_ble_eq_true rfl) dX2_valueBy_121 rfl (fun m11 h => ?_)
              exact r_sub [2, 3, 4] rfl (hJ124 k7 hk7 x2 m11 h)
            · refine r_aload_n X dX2_valueBy_85 rfl 1 rfl ?_
              refine r_aload_n X dX2_valueBy_86 rfl 1 rfl ?_
              refine r_cVI (As := []) (rest := [.ref (ad (h0))]) X (fun r9 m9 hg => k_X2_pop e0 hg) h (Lp_N e0 rfl) e0 rfl (by decide) uw4_86 uw4_88 us2_10 uw1_5 uw4_89 rfl rfl dd_X2_pop ⟨Nat.le_of_ble_eq_true rfl, Nat.le_of_ble_eq_true rfl⟩ rfl (Nat.le_of_ble_eq_true rfl) dX2_valueBy_87 rfl (fun x13 m12 h => ?_)
              refine r_if_ne (tgt := 97) X dX2_valueBy_90 (by decide) h (fun h => ?_) (fun h => ?_)
              · refine r_iconst (v := (0)) X dX2_valueBy_97 (by decide) ?_
                exact r_sub [1, 2, 3] rfl (hJ98 k7 hk7 x2 ((0)) m12 h)
              · refine r_iconst (v := (1)) X dX2_valueBy_93 (by decide) ?_
                refine r_goto (tgt := 98) X dX2_valueBy_94 (by decide) ?_
                exact r_sub [1, 2, 3] rfl (hJ98 k7 hk7 x2 ((1)) m12 h)
          · refine r_iconst (v := (-1)) X dX2_valueBy_47 (by decide) ?_
            refine r_iload_n X dX2_valueBy_48 rfl 0 rfl ?_
            refine r_isub X dX2_valueBy_49 ?_
            refine r_nmI h (fun x14 h => ?_)
            refine r_istore (lv2 := [(4, .int (x14)), (3, .int (x4)), (0, .ref (ad (h0))), (1, .ref (ad (h1))), (2, .int (x2))]) X dX2_valueBy_50 (by decide) rfl ?_
            refine r_aload_n X dX2_valueBy_52 rfl 2 rfl ?_
            refine r_iload X dX2_valueBy_53 0 rfl ?_
            refine r_if_lt (tgt := 72) X dX2_valueBy_55 (by decide) h (fun h => ?_) (fun h => ?_)
            · exact r_sub [2, 3, 4] rfl (hJ72 k7 hk7 x2 m3 h)
            · refine r_iload X dX2_valueBy_58 0 rfl ?_
              refine r_aload_n X dX2_valueBy_60 rfl 3 rfl ?_
              refine r_alenI X (Lp_N e1 rfl) e1 dX2_valueBy_61 ?_
              refine r_icmp_ge (tgt := 72) X dX2_valueBy_62 (by decide) h (fun h => ?_) (fun h => ?_)
              · exact r_sub [2, 3, 4] rfl (hJ72 k7 hk7 x2 m3 h)
              · refine r_aload_n X dX2_valueBy_65 rfl 3 rfl ?_
                refine r_iload X dX2_valueBy_66 0 rfl ?_
                refine r_iald X (Lp_N e1 rfl) e1 h dX2_valueBy_68 (fun h => ?_)
                refine r_goto (tgt := 73) X dX2_valueBy_69 (by decide) ?_
                exact r_sub [2, 3, 4] rfl (hJ73 k7 hk7 x2 (gI m3 h1 x14.toNatClampNeg) m3 h)
        · refine r_aload_n X dX2_valueBy_33 rfl 1 rfl ?_
          refine r_iload_n X dX2_valueBy_34 rfl 0 rfl ?_
          refine r_cVV (As := [.int (x4)]) (rest := []) X (fun m9 hg => k_X2_push e0 hg) h (Lp_N e0 rfl) e0 rfl (by decide) uw4_82 uw4_84 us2_9 uw1_5 uw4_85 rfl rfl dd_X2_push ⟨Nat.le_of_ble_eq_true rfl, Nat.le_of_ble_eq_true rfl⟩ rfl (Nat.le_of_ble_eq_true rfl) dX2_valueBy_35 rfl (fun m15 h => ?_)
          refine r_goto (tgt := 124) X dX2_valueBy_38 (by decide) ?_
          exact r_sub [1, 2, 3] rfl (hJ124 k7 hk7 x2 m15 h)
  have hL7 : ∀ (n : Nat), ∀ (x2 : Int32) (m3 : Mm), lop (fun _ _ => none) (f_X2_valueBy_B7 h0 h1 ) n x2 m3 = some (r2, mem2) → Jd p l e ({ frames := 1, cells := 0, slots := 0, locals := 22 }) s m args below meth c 5 (MQ below (PsI Lp ad cy dC dI r2 mem2 A) args s 0 0 A) A dC dI cy Lp ad m3 7 [(0, .ref (ad (h0))), (1, .ref (ad (h1))), (2, .int (x2))] [] := by
    intro  n
    induction n with
    | zero => intro _ _ h; cases h
    | succ n ih => intro a0 a1 h; exact hJ7  _ ih a0 a1 h
  unfold f_X2_valueBy at h
  refine r_aload_n X dX2_valueBy_0 rfl 0 rfl ?_
  refine r_iconst (v := (0)) X dX2_valueBy_1 (by decide) ?_
  refine r_putI X (k := 4) (Lp_N e0 rfl) e0 rfl (by decide) ui_2 (by decide) uw1_104 tyX2_ok nmX2 rfl rfl rfl dX2_valueBy_2 ?_
  refine r_nmM h (fun m1 h => ?_)
  refine r_iconst (v := (0)) X dX2_valueBy_5 (by decide) ?_
  refine r_istore_n (lv2 := [(2, .int ((0))), (0, .ref (ad (h0))), (1, .ref (ad (h1)))]) X dX2_valueBy_6 rfl (by decide) rfl ?_
  exact r_sub [1, 2, 0] rfl (hL7 4000 ((0)) m1 h)
noncomputable def f_X7_wearBy_J22 (h0 : Nat) (h1 : Nat) (x3 : Int32) (m4 : Mm) : Option (Int32 × Mm) :=
  bnd (if x3 < (9) then x3 else (9)) fun x5 => bnd (if (0) < x5 then x5 else (0)) fun x6 => some (x6, m4)
noncomputable def f_X7_wearBy (h0 : Nat) (h1 : Nat) (mem : Mm) : Option (Int32 × Mm) :=
  if (gI mem (h0 + 13) 3) ≤ 0 then (f_X7_wearBy_J22 h0 h1 ((1)) mem) else (bdI (f_X2_valueBy (h0 + 13) h1 mem) fun x2 m1 => f_X7_wearBy_J22 h0 h1 x2 m1)
theorem dd_X7_wearBy : yX7_wearBy.cls = RX7 ∧ yX7_wearBy.cls ≠ "java/lang/invoke/MethodHandle" ∧ yX7_wearBy.cls ≠ "java/lang/invoke/VarHandle" ∧ (parseMethodDescriptor yX7_wearBy.desc).map (fun d => d.parameters.length) = some 1 := by decide +kernel
set_option maxHeartbeats 4000000 in
set_option maxRecDepth 100000 in
theorem k_X7_wearBy {l : Launch} {ad : Nat → Nat} {cy : Nat → ClassId} {dC : Nat → ClassId} {dI : Nat → Nat → Nat} {ks : (Nat → Nat) × (Nat → Nat)} {h0 : Nat} {h1 : Nat} {mem : Mm} {r2 : Int32} {mem2 : Mm} (e0 : Lp.1 h0 = 7) (e1 : Lp.1 h1 = 14) (h : f_X7_wearBy h0 h1 mem = some (r2, mem2)) : CtI l Lp ad cy dC dI ks yX7_wearBy cX7_wearBy 3 (some .int) ({ frames := 2, cells := 0, slots := 0, locals := 46 }) [.ref (ad (h0)), .ref (ad (h1))] mem r2 mem2 := by
  refine CtI.of (cc := cX7_wearBy) (maxL := 3) (ret := (some .int)) (own := RX7) rfl (by decide) (Nat.le_of_ble_eq_true rfl) ?_
  intro p e s m args below meth c A X
  have hts := X.2.2.2.2.1
  have hl62 := X.2.2.2.2.2.2.1 (.fieldLinkNest "StationPiano$Station" 62 "StationPiano$Law" "length" "I" "StationPiano") (List.mem_of_getElem? (i := 5) rfl)
  have hJ22 : ∀ (x3 : Int32) (m4 : Mm), f_X7_wearBy_J22 h0 h1 x3 m4 = some (r2, mem2) → Jd p l e ({ frames := 2, cells := 0, slots := 0, locals := 46 }) s m args below meth c 3 (MQ below (PsI Lp ad cy dC dI r2 mem2 A) args s 0 0 A) A dC dI cy Lp ad m4 22 [] [.int (x3)] := by
    intro x3 m4 h
    unfold f_X7_wearBy_J22 at h
    refine r_istore_n (lv2 := [(2, .int (x3))]) X dX7_wearBy_22 rfl (by decide) rfl ?_
    refine r_iconst (v := (0)) X dX7_wearBy_23 (by decide) ?_
    refine r_bipush (v := (9)) X dX7_wearBy_24 (by decide) ?_
    refine r_iload_n X dX7_wearBy_26 rfl 0 rfl ?_
    refine r_mmin X uw4_93 uw3_104 uw1_18 uw3_105 (Nat.le_of_ble_eq_true rfl) (Nat.le_of_ble_eq_true rfl) dX7_wearBy_27 ?_
    refine r_nmI h (fun x5 h => ?_)
    refine r_mmax X uw4_94 uw3_101 uw1_18 uw3_102 (Nat.le_of_ble_eq_true rfl) (Nat.le_of_ble_eq_true rfl) dX7_wearBy_30 ?_
    refine r_nmI h (fun x6 h => ?_)
    exact r_iret2 X rfl dX7_wearBy_33 h
  unfold f_X7_wearBy at h
  refine r_aload_n X dX7_wearBy_0 rfl 0 rfl ?_
  refine r_getF X (k := 5) (of := 13) rfl (Lp_N e0 rfl) e0 rfl (by decide) ui_7 (by decide) uw1_181 rfl dX7_wearBy_1 ?_
  refine r_getIN X (k := 3) (Lp_N (Lp_7_5 e0) rfl) (Lp_7_5 e0) rfl (by decide) ui_2 (by decide) hl62 rfl dX7_wearBy_4 ?_
  refine r_if_le (tgt := 21) X dX7_wearBy_7 (by decide) h (fun h => ?_) (fun h => ?_)
  · refine r_iconst (v := (1)) X dX7_wearBy_21 (by decide) ?_
    exact r_sub [] rfl (hJ22 ((1)) mem h)
  · refine r_aload_n X dX7_wearBy_10 rfl 0 rfl ?_
    refine r_getF X (k := 5) (of := 13) rfl (Lp_N e0 rfl) e0 rfl (by decide) ui_7 (by decide) uw1_181 rfl dX7_wearBy_11 ?_
    refine r_aload_n X dX7_wearBy_14 rfl 1 rfl ?_
    refine r_cVI (As := [.ref (ad (h1))]) (rest := []) X (fun r9 m9 hg => k_X2_valueBy (Lp_7_5 e0) e1 hg) h (Lp_N (Lp_7_5 e0) rfl) (Lp_7_5 e0) rfl (by decide) uw4_78 uw4_79 uw4_80 uw1_5 uw4_81 rfl rfl dd_X2_valueBy ⟨Nat.le_of_ble_eq_true rfl, Nat.le_of_ble_eq_true rfl⟩ rfl (Nat.le_of_ble_eq_true rfl) dX7_wearBy_15 rfl (fun x2 m1 h => ?_)
    refine r_goto (tgt := 22) X dX7_wearBy_18 (by decide) ?_
    exact r_sub [] rfl (hJ22 x2 m1 h)
noncomputable def f_X1_prepare_B78 (h1 : Nat) (p2 : Int32) (k7 : Int32 → Mm → Option Mm) (k78 : Int32 → Int32 → Mm → Option Mm) (x11 : Int32) (x12 : Int32) (m13 : Mm) : Option Mm :=
  if ((10)) ≤ x12 then (bnd (x11 + (1)) fun x14 => k7 x14 m13) else (bnd (sI m13 88 4 x12) fun m15 => bdI (f_X7_wearBy h1 88 m15) fun x17 m16 => bnd (if x12 + x17 < (9) then x12 + x17 else (9)) fun x18 => grd (inb ((x11 * ((10))) + x12) 70) (bnd (sI m16 87 ((x11 * ((10))) + x12).toNatClampNeg x18) fun m19 => bnd (x12 + (1)) fun x20 => k78 x11 x20 m19))
noncomputable def f_X1_prepare_B7 (h1 : Nat) (p2 : Int32) (k7 : Int32 → Mm → Option Mm) (x2 : Int32) (m3 : Mm) : Option Mm :=
  if (gI m3 h1 7) ≤ x2 then (some m3) else (if ((7)) ≤ x2 then (some m3) else (grd (inb x2 (Lp.2.1 (h1 + 9))) (bnd (h1 + 9 + (7 + 2 * x2.toNatClampNeg)) fun q4 => grd (inb x2 7) (bnd (sI m3 85 x2.toNatClampNeg (gI m3 q4 8)) fun m5 => bdI (f_X4_playsFor q4 p2 m5) fun x7 m6 => grd (inb x2 7) (bnd (sI m6 86 x2.toNatClampNeg x7) fun m8 => bnd (sI m8 88 0 (gI m8 q4 5)) fun m9 => grd (inb x2 7) (bnd (sI m9 88 5 (gI m9 86 x2.toNatClampNeg)) fun m10 => lop (fun _ _ _ => none) (f_X1_prepare_B78 h1 p2 k7) 4000 x2 ((0)) m10))))))
noncomputable def f_X1_prepare (h1 : Nat) (p2 : Int32) (mem : Mm) : Option Mm :=
  bnd (sR mem 82 14 h1) fun m1 => lop (fun _ _ => none) (f_X1_prepare_B7 h1 p2 ) 4000 ((0)) m1
theorem dd_X1_prepare : yX1_prepare.cls = RX1 ∧ yX1_prepare.cls ≠ "java/lang/invoke/MethodHandle" ∧ yX1_prepare.cls ≠ "java/lang/invoke/VarHandle" ∧ (parseMethodDescriptor yX1_prepare.desc).map (fun d => d.parameters.length) = some 2 := by decide +kernel
set_option maxHeartbeats 4000000 in
set_option maxRecDepth 100000 in
theorem k_X1_prepare {l : Launch} {ad : Nat → Nat} {cy : Nat → ClassId} {dC : Nat → ClassId} {dI : Nat → Nat → Nat} {ks : (Nat → Nat) × (Nat → Nat)} {h1 : Nat} {p2 : Int32} {mem : Mm} {mem2 : Mm} (e1 : Lp.1 h1 = 7) (h : f_X1_prepare h1 p2 mem = some mem2) : CtV l Lp ad cy dC dI ks yX1_prepare cX1_prepare 6 none ({ frames := 3, cells := 0, slots := 0, locals := 68 }) [.ref (ad (82)), .ref (ad (h1)), .int (p2)] mem mem2 := by
  refine CtV.of (cc := cX1_prepare) (maxL := 6) (ret := none) (own := RX1) rfl (by decide) (Nat.le_of_ble_eq_true rfl) ?_
  intro p e s m args below meth c A X
  have hts := X.2.2.2.2.1
  have hl40 := X.2.2.2.2.2.2.1 (.fieldLinkNest "StationPiano$DayRun" 40 "StationPiano$Station" "passerCount" "I" "StationPiano") (List.mem_of_getElem? (i := 39) rfl)
  have hl46 := X.2.2.2.2.2.2.1 (.fieldLinkNest "StationPiano$DayRun" 46 "StationPiano$Station" "passers" "[LStationPiano$Passer;" "StationPiano") (List.mem_of_getElem? (i := 30) rfl)
  have hl50 := X.2.2.2.2.2.2.1 (.fieldLinkNest "StationPiano$DayRun" 50 "StationPiano$Passer" "arrives" "I" "StationPiano") (List.mem_of_getElem? (i := 22) rfl)
  have hl57 := X.2.2.2.2.2.2.1 (.fieldLinkNest "StationPiano$DayRun" 57 "StationPiano$Passer" "skill" "I" "StationPiano") (List.mem_of_getElem? (i := 16) rfl)
  have hJ78 : ∀ (k7 : Int32 → Mm → Option Mm) (hk7 : ∀ (x2 : Int32) (m3 : Mm), k7 x2 m3 = some mem2 → Jd p l e ({ frames := 3, cells := 0, slots := 0, locals := 68 }) s m args below meth c 6 (MQ below (PsV Lp ad cy dC dI mem2 A) args s 0 0 A) A dC dI cy Lp ad m3 7 [(0, .ref (ad (82))), (1, .ref (ad (h1))), (2, .int (p2)), (3, .int (x2))] []) (k78 : Int32 → Int32 → Mm → Option Mm) (hk78 : ∀ (x11 : Int32) (x12 : Int32) (m13 : Mm), k78 x11 x12 m13 = some mem2 → Jd p l e ({ frames := 3, cells := 0, slots := 0, locals := 68 }) s m args below meth c 6 (MQ below (PsV Lp ad cy dC dI mem2 A) args s 0 0 A) A dC dI cy Lp ad m13 78 [(0, .ref (ad (82))), (1, .ref (ad (h1))), (2, .int (p2)), (3, .int (x11)), (5, .int (x12))] []) (x11 : Int32) (x12 : Int32) (m13 : Mm), f_X1_prepare_B78 h1 p2 k7 k78 x11 x12 m13 = some mem2 → Jd p l e ({ frames := 3, cells := 0, slots := 0, locals := 68 }) s m args below meth c 6 (MQ below (PsV Lp ad cy dC dI mem2 A) args s 0 0 A) A dC dI cy Lp ad m13 78 [(0, .ref (ad (82))), (1, .ref (ad (h1))), (2, .int (p2)), (3, .int (x11)), (5, .int (x12))] [] := by
    intro k7 hk7 k78 hk78 x11 x12 m13 h
    unfold f_X1_prepare_B78 at h
    refine r_iload X dX1_prepare_78 4 rfl ?_
    refine r_bipush (v := (10)) X dX1_prepare_80 (by decide) ?_
    refine r_icmp_ge (tgt := 127) X dX1_prepare_82 (by decide) h (fun h => ?_) (fun h => ?_)
    · refine r_inc h (fun x14 e9 h => ?_)
      refine r_iinc (v := x14) (lv2 := [(3, .int (x14)), (0, .ref (ad (82))), (1, .ref (ad (h1))), (2, .int (p2)), (5, .int (x12))]) X dX1_prepare_127 3 rfl (by rw [e9]; rfl) (by decide) rfl ?_
      refine r_goto (tgt := 7) X dX1_prepare_130 (by decide) ?_
      exact r_sub [1, 2, 3, 0] rfl (hk7 x14 m13 h)
    · refine r_aload_n X dX1_prepare_85 rfl 0 rfl ?_
      refine r_getF X (k := 5) (of := 6) rfl (Lp_N Lpk_82 rfl) Lpk_82 rfl (by decide) ui_1 (by decide) uw2_112 rfl dX1_prepare_86 ?_
      refine r_iconst (v := (4)) X dX1_prepare_89 (by decide) ?_
      refine r_iload X dX1_prepare_90 4 rfl ?_
      refine r_iast X (Lp_N Lpk_88 rfl) Lpk_88 (g_in rfl h) dX1_prepare_92 (fun h => ?_)
      refine r_nmM h (fun m15 h => ?_)
      refine r_aload_n X dX1_prepare_93 rfl 0 rfl ?_
      refine r_getF X (k := 4) (of := 5) rfl (Lp_N Lpk_82 rfl) Lpk_82 rfl (by decide) ui_1 (by decide) uw2_111 rfl dX1_prepare_94 ?_
      refine r_iload_n X dX1_prepare_97 rfl 3 rfl ?_
      refine r_bipush (v := (10)) X dX1_prepare_98 (by decide) ?_
      refine r_imul X dX1_prepare_100 ?_
      refine r_iload X dX1_prepare_101 4 rfl ?_
      refine r_iadd X dX1_prepare_103 ?_
      refine r_bipush (v := (9)) X dX1_prepare_104 (by decide) ?_
      refine r_iload X dX1_prepare_106 4 rfl ?_
      refine r_aload_n X dX1_prepare_108 rfl 1 rfl ?_
      refine r_aload_n X dX1_prepare_109 rfl 0 rfl ?_
      refine r_getF X (k := 5) (of := 6) rfl (Lp_N Lpk_82 rfl) Lpk_82 rfl (by decide) ui_1 (by decide) uw2_112 rfl dX1_prepare_110 ?_
      refine r_cVI (As := [.ref (ad (88))]) (rest := [.int (x12), .int ((9)), .int ((x11 * ((10))) + x12), .ref (ad (87))]) X (fun r9 m9 hg => k_X7_wearBy e1 Lpk_88 hg) h (Lp_N e1 rfl) e1 rfl (by decide) uw4_74 uw4_75 uw4_76 uw1_4 uw4_77 rfl rfl dd_X7_wearBy ⟨Nat.le_of_ble_eq_true rfl, Nat.le_of_ble_eq_true rfl⟩ rfl (Nat.le_of_ble_eq_true rfl) dX1_prepare_113 rfl (fun x17 m16 h => ?_)
      refine r_iadd X dX1_prepare_116 ?_
      refine r_mmin X uw4_95 uw3_104 uw1_18 uw3_105 (Nat.le_of_ble_eq_true rfl) (Nat.le_of_ble_eq_true rfl) dX1_prepare_117 ?_
      refine r_nmI h (fun x18 h => ?_)
      refine r_iast X (Lp_N Lpk_87 rfl) Lpk_87 h dX1_prepare_120 (fun h => ?_)
      refine r_nmM h (fun m19 h => ?_)
      refine r_inc h (fun x20 e9 h => ?_)
      refine r_iinc (v := x20) (lv2 := [(5, .int (x20)), (0, .ref (ad (82))), (1, .ref (ad (h1))), (2, .int (p2)), (3, .int (x11))]) X dX1_prepare_121 4 rfl (by rw [e9]; rfl) (by decide) rfl ?_
      refine r_goto (tgt := 78) X dX1_prepare_124 (by decide) ?_
      exact r_sub [1, 2, 3, 4, 0] rfl (hk78 x11 x20 m19 h)
  have hL78 : ∀ (k7 : Int32 → Mm → Option Mm) (hk7 : ∀ (x2 : Int32) (m3 : Mm), k7 x2 m3 = some mem2 → Jd p l e ({ frames := 3, cells := 0, slots := 0, locals := 68 }) s m args below meth c 6 (MQ below (PsV Lp ad cy dC dI mem2 A) args s 0 0 A) A dC dI cy Lp ad m3 7 [(0, .ref (ad (82))), (1, .ref (ad (h1))), (2, .int (p2)), (3, .int (x2))] []) (n : Nat), ∀ (x11 : Int32) (x12 : Int32) (m13 : Mm), lop (fun _ _ _ => none) (f_X1_prepare_B78 h1 p2 k7) n x11 x12 m13 = some mem2 → Jd p l e ({ frames := 3, cells := 0, slots := 0, locals := 68 }) s m args below meth c 6 (MQ below (PsV Lp ad cy dC dI mem2 A) args s 0 0 A) A dC dI cy Lp ad m13 78 [(0, .ref (ad (82))), (1, .ref (ad (h1))), (2, .int (p2)), (3, .int (x11)), (5, .int (x12))] [] := by
    intro k7 hk7 n
    induction n with
    | zero => intro _ _ _ h; cases h
    | succ n ih => intro a0 a1 a2 h; exact hJ78 k7 hk7 _ ih a0 a1 a2 h
  have hJ7 : ∀ (k7 : Int32 → Mm → Option Mm) (hk7 : ∀ (x2 : Int32) (m3 : Mm), k7 x2 m3 = some mem2 → Jd p l e ({ frames := 3, cells := 0, slots := 0, locals := 68 }) s m args below meth c 6 (MQ below (PsV Lp ad cy dC dI mem2 A) args s 0 0 A) A dC dI cy Lp ad m3 7 [(0, .ref (ad (82))), (1, .ref (ad (h1))), (2, .int (p2)), (3, .int (x2))] []) (x2 : Int32) (m3 : Mm), f_X1_prepare_B7 h1 p2 k7 x2 m3 = some mem2 → Jd p l e ({ frames := 3, cells := 0, slots := 0, locals := 68 }) s m args below meth c 6 (MQ below (PsV Lp ad cy dC dI mem2 A) args s 0 0 A) A dC dI cy Lp ad m3 7 [(0, .ref (ad (82))), (1, .ref (ad (h1))), (2, .int (p2)), (3, .int (x2))] [] := by
    intro k7 hk7 x2 m3 h
    unfold f_X1_prepare_B7 at h
    refine r_iload_n X dX1_prepare_7 rfl 3 rfl ?_
    refine r_aload_n X dX1_prepare_8 rfl 1 rfl ?_
    refine r_getIN X (k := 7) (Lp_N e1 rfl) e1 rfl (by decide) ui_7 (by decide) hl40 rfl dX1_prepare_9 ?_
    refine r_icmp_ge (tgt := 133) X dX1_prepare_12 (by decide) h (fun h => ?_) (fun h => ?_)
    · exact r_vret X rfl dX1_prepare_133 h
    · refine r_iload_n X dX1_prepare_15 rfl 3 rfl ?_
      refine r_bipush (v := (7)) X dX1_prepare_16 (by decide) ?_
      refine r_icmp_ge (tgt := 133) X dX1_prepare_18 (by decide) h (fun h => ?_) (fun h => ?_)
      · exact r_vret X rfl dX1_prepare_133 h
      · refine r_aload_n X dX1_prepare_21 rfl 1 rfl ?_
        refine r_getFN X (k := 3) (of := 9) rfl (Lp_N e1 rfl) e1 rfl (by decide) ui_7 (by decide) hl46 rfl dX1_prepare_22 ?_
        refine r_iload_n X dX1_prepare_25 rfl 3 rfl ?_
        refine r_ald18 X (Lp_N (Lp_7_3 e1) rfl) (Lp_7_3 e1) (Lp_e18 (Lp_7_3 e1)) rfl h dX1_prepare_26 (fun q4 eq4 h => ?_)
        refine r_astore (lv2 := [(4, .ref (ad (q4))), (0, .ref (ad (82))), (1, .ref (ad (h1))), (2, .int (p2)), (3, .int (x2))]) X dX1_prepare_27 (by decide) rfl ?_
        refine r_aload_n X dX1_prepare_29 rfl 1 rfl ?_
        refine r_getF X (k := 2) (of := 3) rfl (Lp_N Lpk_82 rfl) Lpk_82 rfl (by decide) ui_1 (by decide) uw2_108 rfl dX1_prepare_30 ?_
        refine r_iload_n X dX1_prepare_33 rfl 4 rfl ?_
        refine r_aload X dX1_prepare_34 0 rfl ?_
        refine r_getIN X (k := 8) (Lp_N eq4 rfl) eq4 rfl (by decide) ui_4 (by decide) hl50 rfl dX1_prepare_36 ?_
        refine r_iast X (Lp_N Lpk_85 rfl) Lpk_85 h dX1_prepare_39 (fun h => ?_)
        refine r_nmM h (fun m5 h => ?_)
        refine r_aload_n X dX1_prepare_40 rfl 1 rfl ?_
        refine r_getF X (k := 3) (of := 4) rfl (Lp_N Lpk_82 rfl) Lpk_82 rfl (by decide) ui_1 (by decide) uw2_110 rfl dX1_prepare_41 ?_
        refine r_iload_n X dX1_prepare_44 rfl 4 rfl ?_
        refine r_aload X dX1_prepare_45 0 rfl ?_
        refine r_iload_n X dX1_prepare_47 rfl 3 rfl ?_
        refine r_cVI (As := [.int (p2)]) (rest := [.int (x2), .ref (ad (86))]) X (fun r9 m9 hg => k_X4_playsFor eq4 hg) h (Lp_N eq4 rfl) eq4 rfl (by decide) uw4_73 uw4_43 uw4_44 uw1_6 uw4_45 rfl rfl dd_X4_playsFor ⟨Nat.le_of_ble_eq_true rfl, Nat.le_of_ble_eq_true rfl⟩ rfl (Nat.le_of_ble_eq_true rfl) dX1_prepare_48 rfl (fun x7 m6 h => ?_)
        refine r_iast X (Lp_N Lpk_86 rfl) Lpk_86 h dX1_prepare_51 (fun h => ?_)
        refine r_nmM h (fun m8 h => ?_)
        refine r_aload_n X dX1_prepare_52 rfl 1 rfl ?_
        refine r_getF X (k := 5) (of := 6) rfl (Lp_N Lpk_82 rfl) Lpk_82 rfl (by decide) ui_1 (by decide) uw2_112 rfl dX1_prepare_53 ?_
        refine r_iconst (v := (0)) X dX1_prepare_56 (by decide) ?_
        refine r_aload X dX1_prepare_57 0 rfl ?_
        refine r_getIN X (k := 5) (Lp_N eq4 rfl) eq4 rfl (by decide) ui_4 (by decide) hl57 rfl dX1_prepare_59 ?_
        refine r_iast X (Lp_N Lpk_88 rfl) Lpk_88 (g_in rfl h) dX1_prepare_62 (fun h => ?_)
        refine r_nmM h (fun m9 h => ?_)
        refine r_aload_n X dX1_prepare_63 rfl 1 rfl ?_
        refine r_getF X (k := 5) (of := 6) rfl (Lp_N Lpk_82 rfl) Lpk_82 rfl (by decide) ui_1 (by decide) uw2_112 rfl dX1_prepare_64 ?_
        refine r_iconst (v := (5)) X dX1_prepare_67 (by decide) ?_
        refine r_aload_n X dX1_prepare_68 rfl 1 rfl ?_
        refine r_getF X (k := 3) (of := 4) rfl (Lp_N Lpk_82 rfl) Lpk_82 rfl (by decide) ui_1 (by decide) uw2_110 rfl dX1_prepare_69 ?_
        refine r_iload_n X dX1_prepare_72 rfl 4 rfl ?_
        refine r_iald X (Lp_N Lpk_86 rfl) Lpk_86 h dX1_prepare_73 (fun h => ?_)
        refine r_iast X (Lp_N Lpk_88 rfl) Lpk_88 (g_in rfl h) dX1_prepare_74 (fun h => ?_)
        refine r_nmM h (fun m10 h => ?_)
        refine r_iconst (v := (0)) X dX1_prepare_75 (by decide) ?_
        refine r_istore (lv2 := [(5, .int ((0))), (4, .ref (ad (q4))), (0, .ref (ad (82))), (1, .ref (ad (h1))), (2, .int (p2)), (3, .int (x2))]) X dX1_prepare_76 (by decide) rfl ?_
        exact r_sub [2, 3, 4, 5, 0] rfl (hL78 k7 hk7 4000 x2 ((0)) m10 h)
  have hL7 : ∀ (n : Nat), ∀ (x2 : Int32) (m3 : Mm), lop (fun _ _ => none) (f_X1_prepare_B7 h1 p2 ) n x2 m3 = some mem2 → Jd p l e ({ frames := 3, cells := 0, slots := 0, locals := 68 }) s m args below meth c 6 (MQ below (PsV Lp ad cy dC dI mem2 A) args s 0 0 A) A dC dI cy Lp ad m3 7 [(0, .ref (ad (82))), (1, .ref (ad (h1))), (2, .int (p2)), (3, .int (x2))] [] := by
    intro  n
    induction n with
    | zero => intro _ _ h; cases h
    | succ n ih => intro a0 a1 h; exact hJ7  _ ih a0 a1 h
  unfold f_X1_prepare at h
  refine r_aload_n X dX1_prepare_0 rfl 0 rfl ?_
  refine r_aload_n X dX1_prepare_1 rfl 1 rfl ?_
  refine r_putR X (k := 14) (Lp_N Lpk_82 rfl) Lpk_82 rfl (by decide) ui_1 (by decide) uw2_123 tyX1_ok nmX1 rfl rfl rfl dX1_prepare_2 ?_
  refine r_nmM h (fun m1 h => ?_)
  refine r_iconst (v := (0)) X dX1_prepare_5 (by decide) ?_
  refine r_istore_n (lv2 := [(3, .int ((0))), (0, .ref (ad (82))), (1, .ref (ad (h1))), (2, .int (p2))]) X dX1_prepare_6 rfl (by decide) rfl ?_
  exact r_sub [1, 2, 3, 0] rfl (hL7 4000 ((0)) m1 h)
noncomputable def f_X1_strikeAll_J81 (h1 : Nat) (p2 : Int32) (h3 : Nat) (k3 : Int32 → Mm → Option Mm) (x5 : Int32) (m6 : Mm) : Option Mm :=
  bnd (x5 + (1)) fun x7 => k3 x7 m6
noncomputable def f_X1_strikeAll_J80 (h1 : Nat) (p2 : Int32) (h3 : Nat) (k3 : Int32 → Mm → Option Mm) (x12 : Int32) (x13 : Int32) (x14 : Int32) (m15 : Mm) : Option Mm :=
  grd (inb x14 (Lp.2.1 h3)) (bnd (sI m15 h3 x14.toNatClampNeg x13) fun m16 => f_X1_strikeAll_J81 h1 p2 h3 k3 x12 m16)
noncomputable def f_X1_strikeAll_J76 (h1 : Nat) (p2 : Int32) (h3 : Nat) (k3 : Int32 → Mm → Option Mm) (x8 : Int32) (x9 : Int32) (x10 : Int32) (m11 : Mm) : Option Mm :=
  grd (inb x9 (Lp.2.1 h3)) (f_X1_strikeAll_J80 h1 p2 h3 k3 x8 (gI m11 h3 x9.toNatClampNeg) x10 m11)
noncomputable def f_X1_strikeAll_B3 (h1 : Nat) (p2 : Int32) (h3 : Nat) (k3 : Int32 → Mm → Option Mm) (x1 : Int32) (m2 : Mm) : Option Mm :=
  if (gI m2 h1 1) ≤ x1 then (some m2) else (if ((18)) ≤ x1 then (some m2) else (grd (inb x1 (Lp.2.1 (h1 + 1))) (bnd (gI m2 (h1 + 1) x1.toNatClampNeg) fun x3 => if x3 < 0 then (f_X1_strikeAll_J81 h1 p2 h3 k3 x1 m2) else (if (Int32.ofNat (Lp.2.1 h3)) ≤ x3 then (f_X1_strikeAll_J81 h1 p2 h3 k3 x1 m2) else (grd (inb x3 (Lp.2.1 h3)) (bnd ((p2 * ((10))) + (gI m2 h3 x3.toNatClampNeg)) fun x4 => if x4 < 0 then (f_X1_strikeAll_J76 h1 p2 h3 k3 x1 x3 x3 m2) else (if ((70)) ≤ x4 then (f_X1_strikeAll_J76 h1 p2 h3 k3 x1 x3 x3 m2) else (grd (inb x4 70) (f_X1_strikeAll_J80 h1 p2 h3 k3 x1 (gI m2 87 x4.toNatClampNeg) x3 m2)))))))))
noncomputable def f_X1_strikeAll (h1 : Nat) (p2 : Int32) (h3 : Nat) (mem : Mm) : Option Mm :=
  lop (fun _ _ => none) (f_X1_strikeAll_B3 h1 p2 h3 ) 4000 ((0)) mem
theorem dd_X1_strikeAll : yX1_strikeAll.cls = RX1 ∧ yX1_strikeAll.cls ≠ "java/lang/invoke/MethodHandle" ∧ yX1_strikeAll.cls ≠ "java/lang/invoke/VarHandle" ∧ (parseMethodDescriptor yX1_strikeAll.desc).map (fun d => d.parameters.length) = some 3 := by decide +kernel
set_option maxHeartbeats 4000000 in
set_option maxRecDepth 100000 in
theorem k_X1_strikeAll {l : Launch} {ad : Nat → Nat} {cy : Nat → ClassId} {dC : Nat → ClassId} {dI : Nat → Nat → Nat} {ks : (Nat → Nat) × (Nat → Nat)} {h1 : Nat} {p2 : Int32} {h3 : Nat} {mem : Mm} {mem2 : Mm} (e1 : Lp.1 h1 = 4) (e3 : Lp.1 h3 = 14) (h : f_X1_strikeAll h1 p2 h3 mem = some mem2) : CtV l Lp ad cy dC dI ks yX1_strikeAll cX1_strikeAll 7 none ({ frames := 0, cells := 0, slots := 0, locals := 0 }) [.ref (ad (82)), .ref (ad (h1)), .int (p2), .ref (ad (h3))] mem mem2 := by
  refine CtV.of (cc := cX1_strikeAll) (maxL := 7) (ret := none) (own := RX1) rfl (by decide) (Nat.le_of_ble_eq_true rfl) ?_
  intro p e s m args below meth c A X
  have hts := X.2.2.2.2.1
  have hl70 := X.2.2.2.2.2.2.1 (.fieldLinkNest "StationPiano$DayRun" 70 "StationPiano$Passer" "struckCount" "I" "StationPiano") (List.mem_of_getElem? (i := 7) rfl)
  have hl73 := X.2.2.2.2.2.2.1 (.fieldLinkNest "StationPiano$DayRun" 73 "StationPiano$Passer" "struck" "[I" "StationPiano") (List.mem_of_getElem? (i := 6) rfl)
  have hJ81 : ∀ (k3 : Int32 → Mm → Option Mm) (hk3 : ∀ (x1 : Int32) (m2 : Mm), k3 x1 m2 = some mem2 → Jd p l e ({ frames := 0, cells := 0, slots := 0, locals := 0 }) s m args below meth c 7 (MQ below (PsV Lp ad cy dC dI mem2 A) args s 0 0 A) A dC dI cy Lp ad m2 3 [(0, .ref (ad (82))), (1, .ref (ad (h1))), (2, .int (p2)), (3, .ref (ad (h3))), (4, .int (x1))] []) (x5 : Int32) (m6 : Mm), f_X1_strikeAll_J81 h1 p2 h3 k3 x5 m6 = some mem2 → Jd p l e ({ frames := 0, cells := 0, slots := 0, locals := 0 }) s m args below meth c 7 (MQ below (PsV Lp ad cy dC dI mem2 A) args s 0 0 A) A dC dI cy Lp ad m6 81 [(0, .ref (ad (82))), (1, .ref (ad (h1))), (2, .int (p2)), (3, .ref (ad (h3))), (4, .int (x5))] [] := by
    intro k3 hk3 x5 m6 h
    unfold f_X1_strikeAll_J81 at h
    refine r_inc h (fun x7 e9 h => ?_)
    refine r_iinc (v := x7) (lv2 := [(4, .int (x7)), (0, .ref (ad (82))), (1, .ref (ad (h1))), (2, .int (p2)), (3, .ref (ad (h3)))]) X dX1_strikeAll_81 4 rfl (by rw [e9]; rfl) (by decide) rfl ?_
    refine r_goto (tgt := 3) X dX1_strikeAll_84 (by decide) ?_
    exact r_sub [1, 2, 3, 4, 0] rfl (hk3 x7 m6 h)
  have hJ80 : ∀ (k3 : Int32 → Mm → Option Mm) (hk3 : ∀ (x1 : Int32) (m2 : Mm), k3 x1 m2 = some mem2 → Jd p l e ({ frames := 0, cells := 0, slots := 0, locals := 0 }) s m args below meth c 7 (MQ below (PsV Lp ad cy dC dI mem2 A) args s 0 0 A) A dC dI cy Lp ad m2 3 [(0, .ref (ad (82))), (1, .ref (ad (h1))), (2, .int (p2)), (3, .ref (ad (h3))), (4, .int (x1))] []) (x12 : Int32) (x13 : Int32) (x14 : Int32) (m15 : Mm), f_X1_strikeAll_J80 h1 p2 h3 k3 x12 x13 x14 m15 = some mem2 → Jd p l e ({ frames := 0, cells := 0, slots := 0, locals := 0 }) s m args below meth c 7 (MQ below (PsV Lp ad cy dC dI mem2 A) args s 0 0 A) A dC dI cy Lp ad m15 80 [(0, .ref (ad (82))), (1, .ref (ad (h1))), (2, .int (p2)), (3, .ref (ad (h3))), (4, .int (x12))] [.int (x13), .int (x14), .ref (ad (h3))] := by
    intro k3 hk3 x12 x13 x14 m15 h
    unfold f_X1_strikeAll_J80 at h
    refine r_iast X (Lp_N e3 rfl) e3 h dX1_strikeAll_80 (fun h => ?_)
    refine r_nmM h (fun m16 h => ?_)
    exact r_sub [0, 1, 2, 3, 4] rfl (hJ81 k3 hk3 x12 m16 h)
  have hJ76 : ∀ (k3 : Int32 → Mm → Option Mm) (hk3 : ∀ (x1 : Int32) (m2 : Mm), k3 x1 m2 = some mem2 → Jd p l e ({ frames := 0, cells := 0, slots := 0, locals := 0 }) s m args below meth c 7 (MQ below (PsV Lp ad cy dC dI mem2 A) args s 0 0 A) A dC dI cy Lp ad m2 3 [(0, .ref (ad (82))), (1, .ref (ad (h1))), (2, .int (p2)), (3, .ref (ad (h3))), (4, .int (x1))] []) (x8 : Int32) (x9 : Int32) (x10 : Int32) (m11 : Mm), f_X1_strikeAll_J76 h1 p2 h3 k3 x8 x9 x10 m11 = some mem2 → Jd p l e ({ frames := 0, cells := 0, slots := 0, locals := 0 }) s m args below meth c 7 (MQ below (PsV Lp ad cy dC dI mem2 A) args s 0 0 A) A dC dI cy Lp ad m11 76 [(0, .ref (ad (82))), (1, .ref (ad (h1))), (2, .int (p2)), (3, .ref (ad (h3))), (4, .int (x8)), (5, .int (x9))] [.int (x10), .ref (ad (h3))] := by
    intro k3 hk3 x8 x9 x10 m11 h
    unfold f_X1_strikeAll_J76 at h
    refine r_aload_n X dX1_strikeAll_76 rfl 3 rfl ?_
    refine r_iload X dX1_strikeAll_77 5 rfl ?_
    refine r_iald X (Lp_N e3 rfl) e3 h dX1_strikeAll_79 (fun h => ?_)
    exact r_sub [0, 1, 2, 3, 4] rfl (hJ80 k3 hk3 x8 (gI m11 h3 x9.toNatClampNeg) x10 m11 h)
  have hJ3 : ∀ (k3 : Int32 → Mm → Option Mm) (hk3 : ∀ (x1 : Int32) (m2 : Mm), k3 x1 m2 = some mem2 → Jd p l e ({ frames := 0, cells := 0, slots := 0, locals := 0 }) s m args below meth c 7 (MQ below (PsV Lp ad cy dC dI mem2 A) args s 0 0 A) A dC dI cy Lp ad m2 3 [(0, .ref (ad (82))), (1, .ref (ad (h1))), (2, .int (p2)), (3, .ref (ad (h3))), (4, .int (x1))] []) (x1 : Int32) (m2 : Mm), f_X1_strikeAll_B3 h1 p2 h3 k3 x1 m2 = some mem2 → Jd p l e ({ frames := 0, cells := 0, slots := 0, locals := 0 }) s m args below meth c 7 (MQ below (PsV Lp ad cy dC dI mem2 A) args s 0 0 A) A dC dI cy Lp ad m2 3 [(0, .ref (ad (82))), (1, .ref (ad (h1))), (2, .int (p2)), (3, .ref (ad (h3))), (4, .int (x1))] [] := by
    intro k3 hk3 x1 m2 h
    unfold f_X1_strikeAll_B3 at h
    refine r_iload X dX1_strikeAll_3 4 rfl ?_
    refine r_aload_n X dX1_strikeAll_5 rfl 1 rfl ?_
    refine r_getIN X (k := 1) (Lp_N e1 rfl) e1 rfl (by decide) ui_4 (by decide) hl70 rfl dX1_strikeAll_6 ?_
    refine r_icmp_ge (tgt := 87) X dX1_strikeAll_9 (by decide) h (fun h => ?_) (fun h => ?_)
    · exact r_vret X rfl dX1_strikeAll_87 h
    · refine r_iload X dX1_strikeAll_12 4 rfl ?_
      refine r_bipush (v := (18)) X dX1_strikeAll_14 (by decide) ?_
      refine r_icmp_ge (tgt := 87) X dX1_strikeAll_16 (by decide) h (fun h => ?_) (fun h => ?_)
      · exact r_vret X rfl dX1_strikeAll_87 h
      · refine r_aload_n X dX1_strikeAll_19 rfl 1 rfl ?_
        refine r_getFN X (k := 0) (of := 1) rfl (Lp_N e1 rfl) e1 rfl (by decide) ui_4 (by decide) hl73 rfl dX1_strikeAll_20 ?_
        refine r_iload X dX1_strikeAll_23 4 rfl ?_
        refine r_iald X (Lp_N (Lp_4_0 e1) rfl) (Lp_4_0 e1) h dX1_strikeAll_25 (fun h => ?_)
        refine r_nmI h (fun x3 h => ?_)
        refine r_istore (lv2 := [(5, .int (x3)), (0, .ref (ad (82))), (1, .ref (ad (h1))), (2, .int (p2)), (3, .ref (ad (h3))), (4, .int (x1))]) X dX1_strikeAll_26 (by decide) rfl ?_
        refine r_iload X dX1_strikeAll_28 0 rfl ?_
        refine r_if_lt (tgt := 81) X dX1_strikeAll_30 (by decide) h (fun h => ?_) (fun h => ?_)
        · exact r_sub [1, 2, 3, 4, 5] rfl (hJ81 k3 hk3 x1 m2 h)
        · refine r_iload X dX1_strikeAll_33 0 rfl ?_
          refine r_aload_n X dX1_strikeAll_35 rfl 4 rfl ?_
          refine r_alenI X (Lp_N e3 rfl) e3 dX1_strikeAll_36 ?_
          refine r_icmp_ge (tgt := 81) X dX1_strikeAll_37 (by decide) h (fun h => ?_) (fun h => ?_)
          · exact r_sub [1, 2, 3, 4, 5] rfl (hJ81 k3 hk3 x1 m2 h)
          · refine r_iload_n X dX1_strikeAll_40 rfl 3 rfl ?_
            refine r_bipush (v := (10)) X dX1_strikeAll_41 (by decide) ?_
            refine r_imul X dX1_strikeAll_43 ?_
            refine r_aload_n X dX1_strikeAll_44 rfl 4 rfl ?_
            refine r_iload X dX1_strikeAll_45 0 rfl ?_
            refine r_iald X (Lp_N e3 rfl) e3 h dX1_strikeAll_47 (fun h => ?_)
            refine r_iadd X dX1_strikeAll_48 ?_
            refine r_nmI h (fun x4 h => ?_)
            refine r_istore (lv2 := [(6, .int (x4)), (5, .int (x3)), (0, .ref (ad (82))), (1, .ref (ad (h1))), (2, .int (p2)), (3, .ref (ad (h3))), (4, .int (x1))]) X dX1_strikeAll_49 (by decide) rfl ?_
            refine r_aload_n X dX1_strikeAll_51 rfl 5 rfl ?_
            refine r_iload X dX1_strikeAll_52 1 rfl ?_
            refine r_iload X dX1_strikeAll_54 0 rfl ?_
            refine r_if_lt (tgt := 76) X dX1_strikeAll_56 (by decide) h (fun h => ?_) (fun h => ?_)
            · exact r_sub [2, 3, 4, 5, 6, 1] rfl (hJ76 k3 hk3 x1 x3 x3 m2 h)
            · refine r_iload X dX1_strikeAll_59 0 rfl ?_
              refine r_bipush (v := (70)) X dX1_strikeAll_61 (by decide) ?_
              refine r_icmp_ge (tgt := 76) X dX1_strikeAll_63 (by decide) h (fun h => ?_) (fun h => ?_)
              · exact r_sub [2, 3, 4, 5, 6, 1] rfl (hJ76 k3 hk3 x1 x3 x3 m2 h)
              · refine r_aload_n X dX1_strikeAll_66 rfl 2 rfl ?_
                refine r_getF X (k := 4) (of := 5) rfl (Lp_N Lpk_82 rfl) Lpk_82 rfl (by decide) ui_1 (by decide) uw2_111 rfl dX1_strikeAll_67 ?_
                refine r_iload X dX1_strikeAll_70 0 rfl ?_
                refine r_iald X (Lp_N Lpk_87 rfl) Lpk_87 h dX1_strikeAll_72 (fun h => ?_)
                refine r_goto (tgt := 80) X dX1_strikeAll_73 (by decide) ?_
                exact r_sub [2, 3, 4, 5, 6] rfl (hJ80 k3 hk3 x1 (gI m2 87 x4.toNatClampNeg) x3 m2 h)
  have hL3 : ∀ (n : Nat), ∀ (x1 : Int32) (m2 : Mm), lop (fun _ _ => none) (f_X1_strikeAll_B3 h1 p2 h3 ) n x1 m2 = some mem2 → Jd p l e ({ frames := 0, cells := 0, slots := 0, locals := 0 }) s m args below meth c 7 (MQ below (PsV Lp ad cy dC dI mem2 A) args s 0 0 A) A dC dI cy Lp ad m2 3 [(0, .ref (ad (82))), (1, .ref (ad (h1))), (2, .int (p2)), (3, .ref (ad (h3))), (4, .int (x1))] [] := by
    intro  n
    induction n with
    | zero => intro _ _ h; cases h
    | succ n ih => intro a0 a1 h; exact hJ3  _ ih a0 a1 h
  unfold f_X1_strikeAll at h
  refine r_iconst (v := (0)) X dX1_strikeAll_0 (by decide) ?_
  refine r_istore (lv2 := [(4, .int ((0))), (0, .ref (ad (82))), (1, .ref (ad (h1))), (2, .int (p2)), (3, .ref (ad (h3)))]) X dX1_strikeAll_1 (by decide) rfl ?_
  exact r_sub [1, 2, 3, 4, 0] rfl (hL3 4000 ((0)) mem h)
noncomputable def f_X7_joyBy_J32 (h0 : Nat) (h1 : Nat) (x3 : Int32) (m4 : Mm) : Option (Int32 × Mm) :=
  bnd (if x3 < (99) then x3 else (99)) fun x5 => bnd (if (-99) < x5 then x5 else (-99)) fun x6 => some (x6, m4)
noncomputable def f_X7_joyBy (h0 : Nat) (h1 : Nat) (mem : Mm) : Option (Int32 × Mm) :=
  if (gI mem (h0 + 10) 3) ≤ 0 then (grd (inb ((0)) (Lp.2.1 h1)) (grd (inb ((1)) (Lp.2.1 h1)) (grd (inb ((3)) (Lp.2.1 h1)) (f_X7_joyBy_J32 h0 h1 (((gI mem h1 0) - (gI mem h1 1)) - (gI mem h1 3)) mem)))) else (bdI (f_X2_valueBy (h0 + 10) h1 mem) fun x2 m1 => f_X7_joyBy_J32 h0 h1 x2 m1)
theorem dd_X7_joyBy : yX7_joyBy.cls = RX7 ∧ yX7_joyBy.cls ≠ "java/lang/invoke/MethodHandle" ∧ yX7_joyBy.cls ≠ "java/lang/invoke/VarHandle" ∧ (parseMethodDescriptor yX7_joyBy.desc).map (fun d => d.parameters.length) = some 1 := by decide +kernel
set_option maxHeartbeats 4000000 in
set_option maxRecDepth 100000 in
theorem k_X7_joyBy {l : Launch} {ad : Nat → Nat} {cy : Nat → ClassId} {dC : Nat → ClassId} {dI : Nat → Nat → Nat} {ks : (Nat → Nat) × (Nat → Nat)} {h0 : Nat} {h1 : Nat} {mem : Mm} {r2 : Int32} {mem2 : Mm} (e0 : Lp.1 h0 = 7) (e1 : Lp.1 h1 = 14) (h : f_X7_joyBy h0 h1 mem = some (r2, mem2)) : CtI l Lp ad cy dC dI ks yX7_joyBy cX7_joyBy 3 (some .int) ({ frames := 2, cells := 0, slots := 0, locals := 46 }) [.ref (ad (h0)), .ref (ad (h1))] mem r2 mem2 := by
  refine CtI.of (cc := cX7_joyBy) (maxL := 3) (ret := (some .int)) (own := RX7) rfl (by decide) (Nat.le_of_ble_eq_true rfl) ?_
  intro p e s m args below meth c A X
  have hts := X.2.2.2.2.1
  have hl62 := X.2.2.2.2.2.2.1 (.fieldLinkNest "StationPiano$Station" 62 "StationPiano$Law" "length" "I" "StationPiano") (List.mem_of_getElem? (i := 5) rfl)
  have hJ32 : ∀ (x3 : Int32) (m4 : Mm), f_X7_joyBy_J32 h0 h1 x3 m4 = some (r2, mem2) → Jd p l e ({ frames := 2, cells := 0, slots := 0, locals := 46 }) s m args below meth c 3 (MQ below (PsI Lp ad cy dC dI r2 mem2 A) args s 0 0 A) A dC dI cy Lp ad m4 32 [] [.int (x3)] := by
    intro x3 m4 h
    unfold f_X7_joyBy_J32 at h
    refine r_istore_n (lv2 := [(2, .int (x3))]) X dX7_joyBy_32 rfl (by decide) rfl ?_
    refine r_bipush (v := (-99)) X dX7_joyBy_33 (by decide) ?_
    refine r_bipush (v := (99)) X dX7_joyBy_35 (by decide) ?_
    refine r_iload_n X dX7_joyBy_37 rfl 0 rfl ?_
    refine r_mmin X uw4_93 uw3_104 uw1_18 uw3_105 (Nat.le_of_ble_eq_true rfl) (Nat.le_of_ble_eq_true rfl) dX7_joyBy_38 ?_
    refine r_nmI h (fun x5 h => ?_)
    refine r_mmax X uw4_94 uw3_101 uw1_18 uw3_102 (Nat.le_of_ble_eq_true rfl) (Nat.le_of_ble_eq_true rfl) dX7_joyBy_41 ?_
    refine r_nmI h (fun x6 h => ?_)
    exact r_iret2 X rfl dX7_joyBy_44 h
  unfold f_X7_joyBy at h
  refine r_aload_n X dX7_joyBy_0 rfl 0 rfl ?_
  refine r_getF X (k := 4) (of := 10) rfl (Lp_N e0 rfl) e0 rfl (by decide) ui_7 (by decide) uw1_179 rfl dX7_joyBy_1 ?_
  refine r_getIN X (k := 3) (Lp_N (Lp_7_4 e0) rfl) (Lp_7_4 e0) rfl (by decide) ui_2 (by decide) hl62 rfl dX7_joyBy_4 ?_
  refine r_if_le (tgt := 21) X dX7_joyBy_7 (by decide) h (fun h => ?_) (fun h => ?_)
  · refine r_aload_n X dX7_joyBy_21 rfl 1 rfl ?_
    refine r_iconst (v := (0)) X dX7_joyBy_22 (by decide) ?_
    refine r_iald X (Lp_N e1 rfl) e1 h dX7_joyBy_23 (fun h => ?_)
    refine r_aload_n X dX7_joyBy_24 rfl 1 rfl ?_
    refine r_iconst (v := (1)) X dX7_joyBy_25 (by decide) ?_
    refine r_iald X (Lp_N e1 rfl) e1 h dX7_joyBy_26 (fun h => ?_)
    refine r_isub X dX7_joyBy_27 ?_
    refine r_aload_n X dX7_joyBy_28 rfl 1 rfl ?_
    refine r_iconst (v := (3)) X dX7_joyBy_29 (by decide) ?_
    refine r_iald X (Lp_N e1 rfl) e1 h dX7_joyBy_30 (fun h => ?_)
    refine r_isub X dX7_joyBy_31 ?_
    exact r_sub [] rfl (hJ32 (((gI mem h1 0) - (gI mem h1 1)) - (gI mem h1 3)) mem h)
  · refine r_aload_n X dX7_joyBy_10 rfl 0 rfl ?_
    refine r_getF X (k := 4) (of := 10) rfl (Lp_N e0 rfl) e0 rfl (by decide) ui_7 (by decide) uw1_179 rfl dX7_joyBy_11 ?_
    refine r_aload_n X dX7_joyBy_14 rfl 1 rfl ?_
    refine r_cVI (As := [.ref (ad (h1))]) (rest := []) X (fun r9 m9 hg => k_X2_valueBy (Lp_7_4 e0) e1 hg) h (Lp_N (Lp_7_4 e0) rfl) (Lp_7_4 e0) rfl (by decide) uw4_78 uw4_79 uw4_80 uw1_5 uw4_81 rfl rfl dd_X2_valueBy ⟨Nat.le_of_ble_eq_true rfl, Nat.le_of_ble_eq_true rfl⟩ rfl (Nat.le_of_ble_eq_true rfl) dX7_joyBy_15 rfl (fun x2 m1 h => ?_)
    refine r_goto (tgt := 32) X dX7_joyBy_18 (by decide) ?_
    exact r_sub [] rfl (hJ32 x2 m1 h)
noncomputable def f_X1_addJoy_J46 (m7 : Mm) : Option Mm :=
  bnd (sI m7 82 10 ((gI m7 82 10) + (gI m7 82 12))) fun m8 => some m8
noncomputable def f_X1_addJoy  (mem : Mm) : Option Mm :=
  if ¬ (gI mem 82 9) = ((-1)) then (if ¬ (gI mem 82 13) = 0 then (f_X1_addJoy_J46 mem) else (bnd (sI mem 88 2 (gI mem 82 8)) fun m1 => grd (decide (Lp.1 (gR m1 82 14) = 7)) (bnd (gR m1 82 14) fun q2 => bdI (f_X7_joyBy q2 88 m1) fun x4 m3 => bnd (sI m3 82 12 x4) fun m5 => grd (bok ((1))) (bnd (sI m5 82 13 ((1))) fun m6 => f_X1_addJoy_J46 m6)))) else (some mem)
theorem dd_X1_addJoy : yX1_addJoy.cls = RX1 ∧ yX1_addJoy.cls ≠ "java/lang/invoke/MethodHandle" ∧ yX1_addJoy.cls ≠ "java/lang/invoke/VarHandle" ∧ (parseMethodDescriptor yX1_addJoy.desc).map (fun d => d.parameters.length) = some 0 := by decide +kernel
set_option maxHeartbeats 4000000 in
set_option maxRecDepth 100000 in
theorem k_X1_addJoy {l : Launch} {ad : Nat → Nat} {cy : Nat → ClassId} {dC : Nat → ClassId} {dI : Nat → Nat → Nat} {ks : (Nat → Nat) × (Nat → Nat)}  {mem : Mm} {mem2 : Mm}  (h : f_X1_addJoy  mem = some mem2) : CtV l Lp ad cy dC dI ks yX1_addJoy cX1_addJoy 1 none ({ frames := 3, cells := 0, slots := 0, locals := 68 }) [.ref (ad (82))] mem mem2 := by
  refine CtV.of (cc := cX1_addJoy) (maxL := 1) (ret := none) (own := RX1) rfl (by decide) (Nat.le_of_ble_eq_true rfl) ?_
  intro p e s m args below meth c A X
  have hts := X.2.2.2.2.1
  have hJ46 : ∀ (m7 : Mm), f_X1_addJoy_J46 m7 = some mem2 → Jd p l e ({ frames := 3, cells := 0, slots := 0, locals := 68 }) s m args below meth c 1 (MQ below (PsV Lp ad cy dC dI mem2 A) args s 0 0 A) A dC dI cy Lp ad m7 46 [(0, .ref (ad (82)))] [] := by
    intro m7 h
    unfold f_X1_addJoy_J46 at h
    refine r_aload_n X dX1_addJoy_46 rfl 0 rfl ?_
    refine r_dup X dX1_addJoy_47 rfl ?_
    refine r_getI X (k := 10) (Lp_N Lpk_82 rfl) Lpk_82 rfl (by decide) ui_1 (by decide) uw2_117 rfl dX1_addJoy_48 ?_
    refine r_aload_n X dX1_addJoy_51 rfl 0 rfl ?_
    refine r_getI X (k := 12) (Lp_N Lpk_82 rfl) Lpk_82 rfl (by decide) ui_1 (by decide) uw2_121 rfl dX1_addJoy_52 ?_
    refine r_iadd X dX1_addJoy_55 ?_
    refine r_putI X (k := 10) (Lp_N Lpk_82 rfl) Lpk_82 rfl (by decide) ui_1 (by decide) uw2_117 tyX1_ok nmX1 rfl rfl rfl dX1_addJoy_56 ?_
    refine r_nmM h (fun m8 h => ?_)
    exact r_vret X rfl dX1_addJoy_59 h
  unfold f_X1_addJoy at h
  refine r_aload_n X dX1_addJoy_0 rfl 0 rfl ?_
  refine r_getI X (k := 9) (Lp_N Lpk_82 rfl) Lpk_82 rfl (by decide) ui_1 (by decide) uw2_116 rfl dX1_addJoy_1 ?_
  refine r_iconst (v := (-1)) X dX1_addJoy_4 (by decide) ?_
  refine r_icmp_ne (tgt := 9) X dX1_addJoy_5 (by decide) h (fun h => ?_) (fun h => ?_)
  · refine r_aload_n X dX1_addJoy_9 rfl 0 rfl ?_
    refine r_getI X (k := 13) (Lp_N Lpk_82 rfl) Lpk_82 rfl (by decide) ui_1 (by decide) uw2_122 rfl dX1_addJoy_10 ?_
    refine r_if_ne (tgt := 46) X dX1_addJoy_13 (by decide) h (fun h => ?_) (fun h => ?_)
    · exact r_sub [0] rfl (hJ46 mem h)
    · refine r_aload_n X dX1_addJoy_16 rfl 0 rfl ?_
      refine r_getF X (k := 5) (of := 6) rfl (Lp_N Lpk_82 rfl) Lpk_82 rfl (by decide) ui_1 (by decide) uw2_112 rfl dX1_addJoy_17 ?_
      refine r_iconst (v := (2)) X dX1_addJoy_20 (by decide) ?_
      refine r_aload_n X dX1_addJoy_21 rfl 0 rfl ?_
      refine r_getI X (k := 8) (Lp_N Lpk_82 rfl) Lpk_82 rfl (by decide) ui_1 (by decide) uw2_115 rfl dX1_addJoy_22 ?_
      refine r_iast X (Lp_N Lpk_88 rfl) Lpk_88 (g_in rfl h) dX1_addJoy_25 (fun h => ?_)
      refine r_nmM h (fun m1 h => ?_)
      refine r_aload_n X dX1_addJoy_26 rfl 0 rfl ?_
      refine r_aload_n X dX1_addJoy_27 rfl 0 rfl ?_
      refine r_getR X 7 (k := 14) (Lp_N Lpk_82 rfl) Lpk_82 rfl (by decide) ui_1 (by decide) uw2_123 rfl h dX1_addJoy_28 (fun q2 eq2 h => ?_)
      refine r_aload_n X dX1_addJoy_31 rfl 0 rfl ?_
      refine r_getF X (k := 5) (of := 6) rfl (Lp_N Lpk_82 rfl) Lpk_82 rfl (by decide) ui_1 (by decide) uw2_112 rfl dX1_addJoy_32 ?_
      refine r_cVI (As := [.ref (ad (88))]) (rest := [.ref (ad (82))]) X (fun r9 m9 hg => k_X7_joyBy eq2 Lpk_88 hg) h (Lp_N eq2 rfl) eq2 rfl (by decide) uw4_137 uw4_138 uw4_139 uw1_4 uw4_140 rfl rfl dd_X7_joyBy ⟨Nat.le_of_ble_eq_true rfl, Nat.le_of_ble_eq_true rfl⟩ rfl (Nat.le_of_ble_eq_true rfl) dX1_addJoy_35 rfl (fun x4 m3 h => ?_)
      refine r_putI X (k := 12) (Lp_N Lpk_82 rfl) Lpk_82 rfl (by decide) ui_1 (by decide) uw2_121 tyX1_ok nmX1 rfl rfl rfl dX1_addJoy_38 ?_
      refine r_nmM h (fun m5 h => ?_)
      refine r_aload_n X dX1_addJoy_41 rfl 0 rfl ?_
      refine r_iconst (v := (1)) X dX1_addJoy_42 (by decide) ?_
      refine r_gz h (fun hz h => ?_)
      refine r_putZ X (k := 13) (Lp_N Lpk_82 rfl) Lpk_82 rfl (by decide) ui_1 (by decide) uw2_122 tyX1_ok nmX1 rfl rfl hz rfl dX1_addJoy_43 ?_
      refine r_nmM h (fun m6 h => ?_)
      exact r_sub [0] rfl (hJ46 m6 h)
  · exact r_vret X rfl dX1_addJoy_8 h
noncomputable def f_X1_learnFacts_J51 (h1 : Nat) (h2 : Nat) (k5 : Int32 → Int32 → Mm → Option Mm) (x15 : Int32) (x16 : Int32) (x17 : Int32) (m18 : Mm) : Option Mm :=
  bnd (x17 + x16) fun x19 => bnd (x15 + (1)) fun x20 => k5 x19 x20 m18
noncomputable def f_X1_learnFacts_J50 (h1 : Nat) (h2 : Nat) (k5 : Int32 → Int32 → Mm → Option Mm) (x12 : Int32) (x13 : Int32) (m14 : Mm) : Option Mm :=
  f_X1_learnFacts_J51 h1 h2 k5 x12 ((0)) x13 m14
noncomputable def f_X1_learnFacts_J126 (h1 : Nat) (h2 : Nat) (m21 : Mm) : Option Mm :=
  grd (bok ((0))) (bnd (sI m21 82 13 ((0))) fun m22 => some m22)
noncomputable def f_X1_learnFacts_J59 (h1 : Nat) (h2 : Nat) (x5 : Int32) (m6 : Mm) : Option Mm :=
  bnd (sI m6 88 0 (gI m6 h1 5)) fun m7 => bnd (sI m7 88 1 x5) fun m8 => bnd (sI m8 88 3 ((0))) fun m9 => if (gI m9 h1 4) < 0 then (f_X1_learnFacts_J126 h1 h2 m9) else (if ((5)) ≤ (gI m9 h1 4) then (f_X1_learnFacts_J126 h1 h2 m9) else (grd (inb (gI m9 h1 4) 5) (bnd (sI m9 88 3 (gI m9 89 (gI m9 h1 4).toNatClampNeg)) fun m10 => grd (inb (gI m10 h1 4) 5) (grd (inb (gI m10 h1 4) 5) (bnd (sI m10 89 (gI m10 h1 4).toNatClampNeg ((gI m10 89 (gI m10 h1 4).toNatClampNeg) + ((1)))) fun m11 => f_X1_learnFacts_J126 h1 h2 m11)))))
noncomputable def f_X1_learnFacts_B5 (h1 : Nat) (h2 : Nat) (k5 : Int32 → Int32 → Mm → Option Mm) (x1 : Int32) (x2 : Int32) (m3 : Mm) : Option Mm :=
  if (gI m3 h1 1) ≤ x2 then (f_X1_learnFacts_J59 h1 h2 x1 m3) else (if ((18)) ≤ x2 then (f_X1_learnFacts_J59 h1 h2 x1 m3) else (grd (inb x2 (Lp.2.1 (h1 + 1))) (bnd (gI m3 (h1 + 1) x2.toNatClampNeg) fun x4 => if x4 < 0 then (f_X1_learnFacts_J50 h1 h2 k5 x2 x1 m3) else (if (Int32.ofNat (Lp.2.1 h2)) ≤ x4 then (f_X1_learnFacts_J50 h1 h2 k5 x2 x1 m3) else (grd (inb x4 (Lp.2.1 h2)) (f_X1_learnFacts_J51 h1 h2 k5 x2 (gI m3 h2 x4.toNatClampNeg) x1 m3))))))
noncomputable def f_X1_learnFacts (h1 : Nat) (h2 : Nat) (mem : Mm) : Option Mm :=
  lop (fun _ _ _ => none) (f_X1_learnFacts_B5 h1 h2 ) 4000 ((0)) ((0)) mem
theorem dd_X1_learnFacts : yX1_learnFacts.cls = RX1 ∧ yX1_learnFacts.cls ≠ "java/lang/invoke/MethodHandle" ∧ yX1_learnFacts.cls ≠ "java/lang/invoke/VarHandle" ∧ (parseMethodDescriptor yX1_learnFacts.desc).map (fun d => d.parameters.length) = some 2 := by decide +kernel
set_option maxHeartbeats 4000000 in
set_option maxRecDepth 100000 in
theorem k_X1_learnFacts {l : Launch} {ad : Nat → Nat} {cy : Nat → ClassId} {dC : Nat → ClassId} {dI : Nat → Nat → Nat} {ks : (Nat → Nat) × (Nat → Nat)} {h1 : Nat} {h2 : Nat} {mem : Mm} {mem2 : Mm} (e1 : Lp.1 h1 = 4) (e2 : Lp.1 h2 = 14) (h : f_X1_learnFacts h1 h2 mem = some mem2) : CtV l Lp ad cy dC dI ks yX1_learnFacts cX1_learnFacts 6 none ({ frames := 0, cells := 0, slots := 0, locals := 0 }) [.ref (ad (82)), .ref (ad (h1)), .ref (ad (h2))] mem mem2 := by
  refine CtV.of (cc := cX1_learnFacts) (maxL := 6) (ret := none) (own := RX1) rfl (by decide) (Nat.le_of_ble_eq_true rfl) ?_
  intro p e s m args below meth c A X
  have hts := X.2.2.2.2.1
  have hl57 := X.2.2.2.2.2.2.1 (.fieldLinkNest "StationPiano$DayRun" 57 "StationPiano$Passer" "skill" "I" "StationPiano") (List.mem_of_getElem? (i := 16) rfl)
  have hl70 := X.2.2.2.2.2.2.1 (.fieldLinkNest "StationPiano$DayRun" 70 "StationPiano$Passer" "struckCount" "I" "StationPiano") (List.mem_of_getElem? (i := 7) rfl)
  have hl73 := X.2.2.2.2.2.2.1 (.fieldLinkNest "StationPiano$DayRun" 73 "StationPiano$Passer" "struck" "[I" "StationPiano") (List.mem_of_getElem? (i := 6) rfl)
  have hl143 := X.2.2.2.2.2.2.1 (.fieldLinkNest "StationPiano$DayRun" 143 "StationPiano$Passer" "tune" "I" "StationPiano") (List.mem_of_getElem? (i := 14) rfl)
  have hJ51 : ∀ (k5 : Int32 → Int32 → Mm → Option Mm) (hk5 : ∀ (x1 : Int32) (x2 : Int32) (m3 : Mm), k5 x1 x2 m3 = some mem2 → Jd p l e ({ frames := 0, cells := 0, slots := 0, locals := 0 }) s m args below meth c 6 (MQ below (PsV Lp ad cy dC dI mem2 A) args s 0 0 A) A dC dI cy Lp ad m3 5 [(0, .ref (ad (82))), (1, .ref (ad (h1))), (2, .ref (ad (h2))), (3, .int (x1)), (4, .int (x2))] []) (x15 : Int32) (x16 : Int32) (x17 : Int32) (m18 : Mm), f_X1_learnFacts_J51 h1 h2 k5 x15 x16 x17 m18 = some mem2 → Jd p l e ({ frames := 0, cells := 0, slots := 0, locals := 0 }) s m args below meth c 6 (MQ below (PsV Lp ad cy dC dI mem2 A) args s 0 0 A) A dC dI cy Lp ad m18 51 [(0, .ref (ad (82))), (1, .ref (ad (h1))), (2, .ref (ad (h2))), (4, .int (x15))] [.int (x16), .int (x17)] := by
    intro k5 hk5 x15 x16 x17 m18 h
    unfold f_X1_learnFacts_J51 at h
    refine r_iadd X dX1_learnFacts_51 ?_
    refine r_nmI h (fun x19 h => ?_)
    refine r_istore_n (lv2 := [(3, .int (x19)), (0, .ref (ad (82))), (1, .ref (ad (h1))), (2, .ref (ad (h2))), (4, .int (x15))]) X dX1_learnFacts_52 rfl (by decide) rfl ?_
    refine r_inc h (fun x20 e9 h => ?_)
    refine r_iinc (v := x20) (lv2 := [(4, .int (x20)), (3, .int (x19)), (0, .ref (ad (82))), (1, .ref (ad (h1))), (2, .ref (ad (h2)))]) X dX1_learnFacts_53 4 rfl (by rw [e9]; rfl) (by decide) rfl ?_
    refine r_goto (tgt := 5) X dX1_learnFacts_56 (by decide) ?_
    exact r_sub [2, 3, 4, 1, 0] rfl (hk5 x19 x20 m18 h)
  have hJ50 : ∀ (k5 : Int32 → Int32 → Mm → Option Mm) (hk5 : ∀ (x1 : Int32) (x2 : Int32) (m3 : Mm), k5 x1 x2 m3 = some mem2 → Jd p l e ({ frames := 0, cells := 0, slots := 0, locals := 0 }) s m args below meth c 6 (MQ below (PsV Lp ad cy dC dI mem2 A) args s 0 0 A) A dC dI cy Lp ad m3 5 [(0, .ref (ad (82))), (1, .ref (ad (h1))), (2, .ref (ad (h2))), (3, .int (x1)), (4, .int (x2))] []) (x12 : Int32) (x13 : Int32) (m14 : Mm), f_X1_learnFacts_J50 h1 h2 k5 x12 x13 m14 = some mem2 → Jd p l e ({ frames := 0, cells := 0, slots := 0, locals := 0 }) s m args below meth c 6 (MQ below (PsV Lp ad cy dC dI mem2 A) args s 0 0 A) A dC dI cy Lp ad m14 50 [(0, .ref (ad (82))), (1, .ref (ad (h1))), (2, .ref (ad (h2))), (4, .int (x12))] [.int (x13)] := by
    intro k5 hk5 x12 x13 m14 h
    unfold f_X1_learnFacts_J50 at h
    refine r_iconst (v := (0)) X dX1_learnFacts_50 (by decide) ?_
    exact r_sub [0, 1, 2, 3] rfl (hJ51 k5 hk5 x12 ((0)) x13 m14 h)
  have hJ126 : ∀ (m21 : Mm), f_X1_learnFacts_J126 h1 h2 m21 = some mem2 → Jd p l e ({ frames := 0, cells := 0, slots := 0, locals := 0 }) s m args below meth c 6 (MQ below (PsV Lp ad cy dC dI mem2 A) args s 0 0 A) A dC dI cy Lp ad m21 126 [(0, .ref (ad (82)))] [] := by
    intro m21 h
    unfold f_X1_learnFacts_J126 at h
    refine r_aload_n X dX1_learnFacts_126 rfl 0 rfl ?_
    refine r_iconst (v := (0)) X dX1_learnFacts_127 (by decide) ?_
    refine r_gz h (fun hz h => ?_)
    refine r_putZ X (k := 13) (Lp_N Lpk_82 rfl) Lpk_82 rfl (by decide) ui_1 (by decide) uw2_122 tyX1_ok nmX1 rfl rfl hz rfl dX1_learnFacts_128 ?_
    refine r_nmM h (fun m22 h => ?_)
    exact r_vret X rfl dX1_learnFacts_131 h
  have hJ59 : ∀ (x5 : Int32) (m6 : Mm), f_X1_learnFacts_J59 h1 h2 x5 m6 = some mem2 → Jd p l e ({ frames := 0, cells := 0, slots := 0, locals := 0 }) s m args below meth c 6 (MQ below (PsV Lp ad cy dC dI mem2 A) args s 0 0 A) A dC dI cy Lp ad m6 59 [(0, .ref (ad (82))), (1, .ref (ad (h1))), (3, .int (x5))] [] := by
    intro x5 m6 h
    unfold f_X1_learnFacts_J59 at h
    refine r_aload_n X dX1_learnFacts_59 rfl 0 rfl ?_
    refine r_getF X (k := 5) (of := 6) rfl (Lp_N Lpk_82 rfl) Lpk_82 rfl (by decide) ui_1 (by decide) uw2_112 rfl dX1_learnFacts_60 ?_
    refine r_iconst (v := (0)) X dX1_learnFacts_63 (by decide) ?_
    refine r_aload_n X dX1_learnFacts_64 rfl 1 rfl ?_
    refine r_getIN X (k := 5) (Lp_N e1 rfl) e1 rfl (by decide) ui_4 (by decide) hl57 rfl dX1_learnFacts_65 ?_
    refine r_iast X (Lp_N Lpk_88 rfl) Lpk_88 (g_in rfl h) dX1_learnFacts_68 (fun h => ?_)
    refine r_nmM h (fun m7 h => ?_)
    refine r_aload_n X dX1_learnFacts_69 rfl 0 rfl ?_
    refine r_getF X (k := 5) (of := 6) rfl (Lp_N Lpk_82 rfl) Lpk_82 rfl (by decide) ui_1 (by decide) uw2_112 rfl dX1_learnFacts_70 ?_
    refine r_iconst (v := (1)) X dX1_learnFacts_73 (by decide) ?_
    refine r_iload_n X dX1_learnFacts_74 rfl 2 rfl ?_
    refine r_iast X (Lp_N Lpk_88 rfl) Lpk_88 (g_in rfl h) dX1_learnFacts_75 (fun h => ?_)
    refine r_nmM h (fun m8 h => ?_)
    refine r_aload_n X dX1_learnFacts_76 rfl 0 rfl ?_
    refine r_getF X (k := 5) (of := 6) rfl (Lp_N Lpk_82 rfl) Lpk_82 rfl (by decide) ui_1 (by decide) uw2_112 rfl dX1_learnFacts_77 ?_
    refine r_iconst (v := (3)) X dX1_learnFacts_80 (by decide) ?_
    refine r_iconst (v := (0)) X dX1_learnFacts_81 (by decide) ?_
    refine r_iast X (Lp_N Lpk_88 rfl) Lpk_88 (g_in rfl h) dX1_learnFacts_82 (fun h => ?_)
    refine r_nmM h (fun m9 h => ?_)
    refine r_aload_n X dX1_learnFacts_83 rfl 1 rfl ?_
    refine r_getIN X (k := 4) (Lp_N e1 rfl) e1 rfl (by decide) ui_4 (by decide) hl143 rfl dX1_learnFacts_84 ?_
    refine r_if_lt (tgt := 126) X dX1_learnFacts_87 (by decide) h (fun h => ?_) (fun h => ?_)
    · exact r_sub [0] rfl (hJ126 m9 h)
    · refine r_aload_n X dX1_learnFacts_90 rfl 1 rfl ?_
      refine r_getIN X (k := 4) (Lp_N e1 rfl) e1 rfl (by decide) ui_4 (by decide) hl143 rfl dX1_learnFacts_91 ?_
      refine r_iconst (v := (5)) X dX1_learnFacts_94 (by decide) ?_
      refine r_icmp_ge (tgt := 126) X dX1_learnFacts_95 (by decide) h (fun h => ?_) (fun h => ?_)
      · exact r_sub [0] rfl (hJ126 m9 h)
      · refine r_aload_n X dX1_learnFacts_98 rfl 0 rfl ?_
        refine r_getF X (k := 5) (of := 6) rfl (Lp_N Lpk_82 rfl) Lpk_82 rfl (by decide) ui_1 (by decide) uw2_112 rfl dX1_learnFacts_99 ?_
        refine r_iconst (v := (3)) X dX1_learnFacts_102 (by decide) ?_
        refine r_aload_n X dX1_learnFacts_103 rfl 0 rfl ?_
        refine r_getF X (k := 6) (of := 7) rfl (Lp_N Lpk_82 rfl) Lpk_82 rfl (by decide) ui_1 (by decide) uw2_113 rfl dX1_learnFacts_104 ?_
        refine r_aload_n X dX1_learnFacts_107 rfl 1 rfl ?_
        refine r_getIN X (k := 4) (Lp_N e1 rfl) e1 rfl (by decide) ui_4 (by decide) hl143 rfl dX1_learnFacts_108 ?_
        refine r_iald X (Lp_N Lpk_89 rfl) Lpk_89 h dX1_learnFacts_111 (fun h => ?_)
        refine r_iast X (Lp_N Lpk_88 rfl) Lpk_88 (g_in rfl h) dX1_learnFacts_112 (fun h => ?_)
        refine r_nmM h (fun m10 h => ?_)
        refine r_aload_n X dX1_learnFacts_113 rfl 0 rfl ?_
        refine r_getF X (k := 6) (of := 7) rfl (Lp_N Lpk_82 rfl) Lpk_82 rfl (by decide) ui_1 (by decide) uw2_113 rfl dX1_learnFacts_114 ?_
        refine r_aload_n X dX1_learnFacts_117 rfl 1 rfl ?_
        refine r_getIN X (k := 4) (Lp_N e1 rfl) e1 rfl (by decide) ui_4 (by decide) hl143 rfl dX1_learnFacts_118 ?_
        refine r_dup2 X dX1_learnFacts_121 rfl rfl ?_
        refine r_iald X (Lp_N Lpk_89 rfl) Lpk_89 h dX1_learnFacts_122 (fun h => ?_)
        refine r_iconst (v := (1)) X dX1_learnFacts_123 (by decide) ?_
        refine r_iadd X dX1_learnFacts_124 ?_
        refine r_iast X (Lp_N Lpk_89 rfl) Lpk_89 h dX1_learnFacts_125 (fun h => ?_)
        refine r_nmM h (fun m11 h => ?_)
        exact r_sub [0] rfl (hJ126 m11 h)
  have hJ5 : ∀ (k5 : Int32 → Int32 → Mm → Option Mm) (hk5 : ∀ (x1 : Int32) (x2 : Int32) (m3 : Mm), k5 x1 x2 m3 = some mem2 → Jd p l e ({ frames := 0, cells := 0, slots := 0, locals := 0 }) s m args below meth c 6 (MQ below (PsV Lp ad cy dC dI mem2 A) args s 0 0 A) A dC dI cy Lp ad m3 5 [(0, .ref (ad (82))), (1, .ref (ad (h1))), (2, .ref (ad (h2))), (3, .int (x1)), (4, .int (x2))] []) (x1 : Int32) (x2 : Int32) (m3 : Mm), f_X1_learnFacts_B5 h1 h2 k5 x1 x2 m3 = some mem2 → Jd p l e ({ frames := 0, cells := 0, slots := 0, locals := 0 }) s m args below meth c 6 (MQ below (PsV Lp ad cy dC dI mem2 A) args s 0 0 A) A dC dI cy Lp ad m3 5 [(0, .ref (ad (82))), (1, .ref (ad (h1))), (2, .ref (ad (h2))), (3, .int (x1)), (4, .int (x2))] [] := by
    intro k5 hk5 x1 x2 m3 h
    unfold f_X1_learnFacts_B5 at h
    refine r_iload X dX1_learnFacts_5 4 rfl ?_
    refine r_aload_n X dX1_learnFacts_7 rfl 1 rfl ?_
    refine r_getIN X (k := 1) (Lp_N e1 rfl) e1 rfl (by decide) ui_4 (by decide) hl70 rfl dX1_learnFacts_8 ?_
    refine r_icmp_ge (tgt := 59) X dX1_learnFacts_11 (by decide) h (fun h => ?_) (fun h => ?_)
    · exact r_sub [0, 1, 3] rfl (hJ59 x1 m3 h)
    · refine r_iload X dX1_learnFacts_14 4 rfl ?_
      refine r_bipush (v := (18)) X dX1_learnFacts_16 (by decide) ?_
      refine r_icmp_ge (tgt := 59) X dX1_learnFacts_18 (by decide) h (fun h => ?_) (fun h => ?_)
      · exact r_sub [0, 1, 3] rfl (hJ59 x1 m3 h)
      · refine r_aload_n X dX1_learnFacts_21 rfl 1 rfl ?_
        refine r_getFN X (k := 0) (of := 1) rfl (Lp_N e1 rfl) e1 rfl (by decide) ui_4 (by decide) hl73 rfl dX1_learnFacts_22 ?_
        refine r_iload X dX1_learnFacts_25 4 rfl ?_
        refine r_iald X (Lp_N (Lp_4_0 e1) rfl) (Lp_4_0 e1) h dX1_learnFacts_27 (fun h => ?_)
        refine r_nmI h (fun x4 h => ?_)
        refine r_istore (lv2 := [(5, .int (x4)), (0, .ref (ad (82))), (1, .ref (ad (h1))), (2, .ref (ad (h2))), (3, .int (x1)), (4, .int (x2))]) X dX1_learnFacts_28 (by decide) rfl ?_
        refine r_iload_n X dX1_learnFacts_30 rfl 4 rfl ?_
        refine r_iload X dX1_learnFacts_31 0 rfl ?_
        refine r_if_lt (tgt := 50) X dX1_learnFacts_33 (by decide) h (fun h => ?_) (fun h => ?_)
        · exact r_sub [1, 2, 3, 5] rfl (hJ50 k5 hk5 x2 x1 m3 h)
        · refine r_iload X dX1_learnFacts_36 0 rfl ?_
          refine r_aload_n X dX1_learnFacts_38 rfl 3 rfl ?_
          refine r_alenI X (Lp_N e2 rfl) e2 dX1_learnFacts_39 ?_
          refine r_icmp_ge (tgt := 50) X dX1_learnFacts_40 (by decide) h (fun h => ?_) (fun h => ?_)
          · exact r_sub [1, 2, 3, 5] rfl (hJ50 k5 hk5 x2 x1 m3 h)
          · refine r_aload_n X dX1_learnFacts_43 rfl 3 rfl ?_
            refine r_iload X dX1_learnFacts_44 0 rfl ?_
            refine r_iald X (Lp_N e2 rfl) e2 h dX1_learnFacts_46 (fun h => ?_)
            refine r_goto (tgt := 51) X dX1_learnFacts_47 (by decide) ?_
            exact r_sub [1, 2, 3, 5] rfl (hJ51 k5 hk5 x2 (gI m3 h2 x4.toNatClampNeg) x1 m3 h)
  have hL5 : ∀ (n : Nat), ∀ (x1 : Int32) (x2 : Int32) (m3 : Mm), lop (fun _ _ _ => none) (f_X1_learnFacts_B5 h1 h2 ) n x1 x2 m3 = some mem2 → Jd p l e ({ frames := 0, cells := 0, slots := 0, locals := 0 }) s m args below meth c 6 (MQ below (PsV Lp ad cy dC dI mem2 A) args s 0 0 A) A dC dI cy Lp ad m3 5 [(0, .ref (ad (82))), (1, .ref (ad (h1))), (2, .ref (ad (h2))), (3, .int (x1)), (4, .int (x2))] [] := by
    intro  n
    induction n with
    | zero => intro _ _ _ h; cases h
    | succ n ih => intro a0 a1 a2 h; exact hJ5  _ ih a0 a1 a2 h
  unfold f_X1_learnFacts at h
  refine r_iconst (v := (0)) X dX1_learnFacts_0 (by decide) ?_
  refine r_istore_n (lv2 := [(3, .int ((0))), (0, .ref (ad (82))), (1, .ref (ad (h1))), (2, .ref (ad (h2)))]) X dX1_learnFacts_1 rfl (by decide) rfl ?_
  refine r_iconst (v := (0)) X dX1_learnFacts_2 (by decide) ?_
  refine r_istore (lv2 := [(4, .int ((0))), (3, .int ((0))), (0, .ref (ad (82))), (1, .ref (ad (h1))), (2, .ref (ad (h2)))]) X dX1_learnFacts_3 (by decide) rfl ?_
  exact r_sub [2, 3, 4, 1, 0] rfl (hL5 4000 ((0)) ((0)) mem h)
noncomputable def f_X1_leaveLineAt_J44 (p1 : Int32) (m6 : Mm) : Option Mm :=
  bnd (sI m6 82 8 ((gI m6 82 8) - ((1)))) fun m7 => some m7
noncomputable def f_X1_leaveLineAt_B6 (p1 : Int32) (k6 : Int32 → Mm → Option Mm) (x2 : Int32) (m3 : Mm) : Option Mm :=
  if (gI m3 82 8) ≤ (x2 + ((1))) then (f_X1_leaveLineAt_J44 p1 m3) else (if ((7)) ≤ (x2 + ((1))) then (f_X1_leaveLineAt_J44 p1 m3) else (grd (inb (x2 + ((1))) 7) (grd (inb x2 7) (bnd (sI m3 90 x2.toNatClampNeg (gI m3 90 (x2 + ((1))).toNatClampNeg)) fun m4 => bnd (x2 + (1)) fun x5 => k6 x5 m4))))
noncomputable def f_X1_leaveLineAt (p1 : Int32) (mem : Mm) : Option Mm :=
  bnd (if (0) < p1 then p1 else (0)) fun x1 => lop (fun _ _ => none) (f_X1_leaveLineAt_B6 p1 ) 4000 x1 mem
theorem dd_X1_leaveLineAt : yX1_leaveLineAt.cls = RX1 ∧ yX1_leaveLineAt.cls ≠ "java/lang/invoke/MethodHandle" ∧ yX1_leaveLineAt.cls ≠ "java/lang/invoke/VarHandle" ∧ (parseMethodDescriptor yX1_leaveLineAt.desc).map (fun d => d.parameters.length) = some 1 := by decide +kernel
set_option maxHeartbeats 4000000 in
set_option maxRecDepth 100000 in
theorem k_X1_leaveLineAt {l : Launch} {ad : Nat → Nat} {cy : Nat → ClassId} {dC : Nat → ClassId} {dI : Nat → Nat → Nat} {ks : (Nat → Nat) × (Nat → Nat)} {p1 : Int32} {mem : Mm} {mem2 : Mm}  (h : f_X1_leaveLineAt p1 mem = some mem2) : CtV l Lp ad cy dC dI ks yX1_leaveLineAt cX1_leaveLineAt 3 none ({ frames := 1, cells := 0, slots := 0, locals := 21 }) [.ref (ad (82)), .int (p1)] mem mem2 := by
  refine CtV.of (cc := cX1_leaveLineAt) (maxL := 3) (ret := none) (own := RX1) rfl (by decide) (Nat.le_of_ble_eq_true rfl) ?_
  intro p e s m args below meth c A X
  have hts := X.2.2.2.2.1
  have hJ44 : ∀ (m6 : Mm), f_X1_leaveLineAt_J44 p1 m6 = some mem2 → Jd p l e ({ frames := 1, cells := 0, slots := 0, locals := 21 }) s m args below meth c 3 (MQ below (PsV Lp ad cy dC dI mem2 A) args s 0 0 A) A dC dI cy Lp ad m6 44 [(0, .ref (ad (82)))] [] := by
    intro m6 h
    unfold f_X1_leaveLineAt_J44 at h
    refine r_aload_n X dX1_leaveLineAt_44 rfl 0 rfl ?_
    refine r_dup X dX1_leaveLineAt_45 rfl ?_
    refine r_getI X (k := 8) (Lp_N Lpk_82 rfl) Lpk_82 rfl (by decide) ui_1 (by decide) uw2_115 rfl dX1_leaveLineAt_46 ?_
    refine r_iconst (v := (1)) X dX1_leaveLineAt_49 (by decide) ?_
    refine r_isub X dX1_leaveLineAt_50 ?_
    refine r_putI X (k := 8) (Lp_N Lpk_82 rfl) Lpk_82 rfl (by decide) ui_1 (by decide) uw2_115 tyX1_ok nmX1 rfl rfl rfl dX1_leaveLineAt_51 ?_
    refine r_nmM h (fun m7 h => ?_)
    exact r_vret X rfl dX1_leaveLineAt_54 h
  have hJ6 : ∀ (k6 : Int32 → Mm → Option Mm) (hk6 : ∀ (x2 : Int32) (m3 : Mm), k6 x2 m3 = some mem2 → Jd p l e ({ frames := 1, cells := 0, slots := 0, locals := 21 }) s m args below meth c 3 (MQ below (PsV Lp ad cy dC dI mem2 A) args s 0 0 A) A dC dI cy Lp ad m3 6 [(0, .ref (ad (82))), (2, .int (x2))] []) (x2 : Int32) (m3 : Mm), f_X1_leaveLineAt_B6 p1 k6 x2 m3 = some mem2 → Jd p l e ({ frames := 1, cells := 0, slots := 0, locals := 21 }) s m args below meth c 3 (MQ below (PsV Lp ad cy dC dI mem2 A) args s 0 0 A) A dC dI cy Lp ad m3 6 [(0, .ref (ad (82))), (2, .int (x2))] [] := by
    intro k6 hk6 x2 m3 h
    unfold f_X1_leaveLineAt_B6 at h
    refine r_iload_n X dX1_leaveLineAt_6 rfl 1 rfl ?_
    refine r_iconst (v := (1)) X dX1_leaveLineAt_7 (by decide) ?_
    refine r_iadd X dX1_leaveLineAt_8 ?_
    refine r_aload_n X dX1_leaveLineAt_9 rfl 0 rfl ?_
    refine r_getI X (k := 8) (Lp_N Lpk_82 rfl) Lpk_82 rfl (by decide) ui_1 (by decide) uw2_115 rfl dX1_leaveLineAt_10 ?_
    refine r_icmp_ge (tgt := 44) X dX1_leaveLineAt_13 (by decide) h (fun h => ?_) (fun h => ?_)
    · exact r_sub [0] rfl (hJ44 m3 h)
    · refine r_iload_n X dX1_leaveLineAt_16 rfl 1 rfl ?_
      refine r_iconst (v := (1)) X dX1_leaveLineAt_17 (by decide) ?_
      refine r_iadd X dX1_leaveLineAt_18 ?_
      refine r_bipush (v := (7)) X dX1_leaveLineAt_19 (by decide) ?_
      refine r_icmp_ge (tgt := 44) X dX1_leaveLineAt_21 (by decide) h (fun h => ?_) (fun h => ?_)
      · exact r_sub [0] rfl (hJ44 m3 h)
      · refine r_aload_n X dX1_leaveLineAt_24 rfl 0 rfl ?_
        refine r_getF X (k := 7) (of := 8) rfl (Lp_N Lpk_82 rfl) Lpk_82 rfl (by decide) ui_1 (by decide) uw2_114 rfl dX1_leaveLineAt_25 ?_
        refine r_iload_n X dX1_leaveLineAt_28 rfl 1 rfl ?_
        refine r_aload_n X dX1_leaveLineAt_29 rfl 0 rfl ?_
        refine r_getF X (k := 7) (of := 8) rfl (Lp_N Lpk_82 rfl) Lpk_82 rfl (by decide) ui_1 (by decide) uw2_114 rfl dX1_leaveLineAt_30 ?_
        refine r_iload_n X dX1_leaveLineAt_33 rfl 1 rfl ?_
        refine r_iconst (v := (1)) X dX1_leaveLineAt_34 (by decide) ?_
        refine r_iadd X dX1_leaveLineAt_35 ?_
        refine r_iald X (Lp_N Lpk_90 rfl) Lpk_90 h dX1_leaveLineAt_36 (fun h => ?_)
        refine r_iast X (Lp_N Lpk_90 rfl) Lpk_90 h dX1_leaveLineAt_37 (fun h => ?_)
        refine r_nmM h (fun m4 h => ?_)
        refine r_inc h (fun x5 e9 h => ?_)
        refine r_iinc (v := x5) (lv2 := [(2, .int (x5)), (0, .ref (ad (82)))]) X dX1_leaveLineAt_38 1 rfl (by rw [e9]; rfl) (by decide) rfl ?_
        refine r_goto (tgt := 6) X dX1_leaveLineAt_41 (by decide) ?_
        exact r_sub [1, 0] rfl (hk6 x5 m4 h)
  have hL6 : ∀ (n : Nat), ∀ (x2 : Int32) (m3 : Mm), lop (fun _ _ => none) (f_X1_leaveLineAt_B6 p1 ) n x2 m3 = some mem2 → Jd p l e ({ frames := 1, cells := 0, slots := 0, locals := 21 }) s m args below meth c 3 (MQ below (PsV Lp ad cy dC dI mem2 A) args s 0 0 A) A dC dI cy Lp ad m3 6 [(0, .ref (ad (82))), (2, .int (x2))] [] := by
    intro  n
    induction n with
    | zero => intro _ _ h; cases h
    | succ n ih => intro a0 a1 h; exact hJ6  _ ih a0 a1 h
  unfold f_X1_leaveLineAt at h
  refine r_iconst (v := (0)) X dX1_leaveLineAt_0 (by decide) ?_
  refine r_iload_n X dX1_leaveLineAt_1 rfl 1 rfl ?_
  refine r_mmax X uw4_124 uw3_101 uw1_18 uw3_102 (Nat.le_of_ble_eq_true rfl) (Nat.le_of_ble_eq_true rfl) dX1_leaveLineAt_2 ?_
  refine r_nmI h (fun x1 h => ?_)
  refine r_istore_n (lv2 := [(2, .int (x1)), (0, .ref (ad (82))), (1, .int (p1))]) X dX1_leaveLineAt_5 rfl (by decide) rfl ?_
  exact r_sub [1, 0] rfl (hL6 4000 x1 mem h)
noncomputable def f_X4_daresBefore_J19 (h0 : Nat) (p1 : Int32) (m1 : Mm) : Option (Int32 × Mm) :=
  grd (bok ((1))) (some ((1), m1))
noncomputable def f_X4_daresBefore (h0 : Nat) (p1 : Int32) (mem : Mm) : Option (Int32 × Mm) :=
  if (gI mem h0 3) = ((2)) then (f_X4_daresBefore_J19 h0 p1 mem) else (if ((9)) < ((gI mem h0 6) + p1) then (grd (bok ((0))) (some ((0), mem))) else (f_X4_daresBefore_J19 h0 p1 mem))
theorem dd_X4_daresBefore : yX4_daresBefore.cls = RX4 ∧ yX4_daresBefore.cls ≠ "java/lang/invoke/MethodHandle" ∧ yX4_daresBefore.cls ≠ "java/lang/invoke/VarHandle" ∧ (parseMethodDescriptor yX4_daresBefore.desc).map (fun d => d.parameters.length) = some 1 := by decide +kernel
set_option maxHeartbeats 4000000 in
set_option maxRecDepth 100000 in
theorem k_X4_daresBefore {l : Launch} {ad : Nat → Nat} {cy : Nat → ClassId} {dC : Nat → ClassId} {dI : Nat → Nat → Nat} {ks : (Nat → Nat) × (Nat → Nat)} {h0 : Nat} {p1 : Int32} {mem : Mm} {r2 : Int32} {mem2 : Mm} (e0 : Lp.1 h0 = 4) (h : f_X4_daresBefore h0 p1 mem = some (r2, mem2)) : CtI l Lp ad cy dC dI ks yX4_daresBefore cX4_daresBefore 2 (some .boolean) ({ frames := 0, cells := 0, slots := 0, locals := 0 }) [.ref (ad (h0)), .int (p1)] mem r2 mem2 := by
  refine CtI.of (cc := cX4_daresBefore) (maxL := 2) (ret := (some .boolean)) (own := RX4) rfl (by decide) (Nat.le_of_ble_eq_true rfl) ?_
  intro p e s m args below meth c A X
  have hts := X.2.2.2.2.1
  have hJ19 : ∀ (m1 : Mm), f_X4_daresBefore_J19 h0 p1 m1 = some (r2, mem2) → Jd p l e ({ frames := 0, cells := 0, slots := 0, locals := 0 }) s m args below meth c 2 (MQ below (PsI Lp ad cy dC dI r2 mem2 A) args s 0 0 A) A dC dI cy Lp ad m1 19 [] [] := by
    intro m1 h
    unfold f_X4_daresBefore_J19 at h
    refine r_iconst (v := (1)) X dX4_daresBefore_19 (by decide) ?_
    refine r_goto (tgt := 24) X dX4_daresBefore_20 (by decide) ?_
    exact r_zret2 X rfl dX4_daresBefore_24 h
  unfold f_X4_daresBefore at h
  refine r_aload_n X dX4_daresBefore_0 rfl 0 rfl ?_
  refine r_getI X (k := 3) (Lp_N e0 rfl) e0 rfl (by decide) ui_4 (by decide) uw1_130 rfl dX4_daresBefore_1 ?_
  refine r_iconst (v := (2)) X dX4_daresBefore_4 (by decide) ?_
  refine r_icmp_eq (tgt := 19) X dX4_daresBefore_5 (by decide) h (fun h => ?_) (fun h => ?_)
  · exact r_sub [] rfl (hJ19 mem h)
  · refine r_aload_n X dX4_daresBefore_8 rfl 0 rfl ?_
    refine r_getI X (k := 6) (Lp_N e0 rfl) e0 rfl (by decide) ui_4 (by decide) uw1_139 rfl dX4_daresBefore_9 ?_
    refine r_iload_n X dX4_daresBefore_12 rfl 1 rfl ?_
    refine r_iadd X dX4_daresBefore_13 ?_
    refine r_bipush (v := (9)) X dX4_daresBefore_14 (by decide) ?_
    refine r_icmp_gt (tgt := 23) X dX4_daresBefore_16 (by decide) h (fun h => ?_) (fun h => ?_)
    · refine r_iconst (v := (0)) X dX4_daresBefore_23 (by decide) ?_
      exact r_zret2 X rfl dX4_daresBefore_24 h
    · exact r_sub [] rfl (hJ19 mem h)
noncomputable def f_X1_beginPlaying_J120 (p1 : Int32) (h2 : Nat) (k2 : Int32 → Mm → Option Mm) (x18 : Int32) (m19 : Mm) : Option Mm :=
  bnd (x18 + (1)) fun x20 => k2 x20 m19
noncomputable def f_X1_beginPlaying_B2 (p1 : Int32) (h2 : Nat) (k2 : Int32 → Mm → Option Mm) (x1 : Int32) (m2 : Mm) : Option Mm :=
  if (gI m2 82 8) ≤ x1 then (some m2) else (if ((7)) ≤ x1 then (some m2) else (grd (inb x1 7) (bnd (gI m2 90 x1.toNatClampNeg) fun x3 => if x3 < 0 then (f_X1_beginPlaying_J120 p1 h2 k2 x1 m2) else (if ((7)) ≤ x3 then (f_X1_beginPlaying_J120 p1 h2 k2 x1 m2) else (grd (decide (Lp.1 (gR m2 82 14) = 7)) (bnd (gR m2 82 14) fun q4 => grd (inb x3 (Lp.2.1 (q4 + 9))) (bnd (q4 + 9 + (7 + 2 * x3.toNatClampNeg)) fun q5 => bdI (f_X4_daresBefore q5 ((gI m2 82 8) - ((1))) m2) fun x7 m6 => if x7 = 0 then (f_X1_beginPlaying_J120 p1 h2 k2 x1 m6) else (bdV (f_X1_leaveLineAt x1 m6) fun m8 => bnd (sI m8 82 9 x3) fun m9 => grd (inb x3 7) (bnd (sI m9 83 x3.toNatClampNeg p1) fun m10 => bnd (sI m10 82 11 ((gI m10 82 11) + ((1)))) fun m11 => grd (decide (Lp.1 (gR m11 82 14) = 7)) (bnd (gR m11 82 14) fun q12 => grd (inb x3 (Lp.2.1 (q12 + 9))) (bnd (q12 + 9 + (7 + 2 * x3.toNatClampNeg)) fun q13 => bdV (f_X1_strikeAll q13 x3 h2 m11) fun m14 => grd (decide (Lp.1 (gR m14 82 14) = 7)) (bnd (gR m14 82 14) fun q15 => grd (inb x3 (Lp.2.1 (q15 + 9))) (bnd (q15 + 9 + (7 + 2 * x3.toNatClampNeg)) fun q16 => bdV (f_X1_learnFacts q16 h2 m14) fun m17 => some m17)))))))))))))
noncomputable def f_X1_beginPlaying (p1 : Int32) (h2 : Nat) (mem : Mm) : Option Mm :=
  lop (fun _ _ => none) (f_X1_beginPlaying_B2 p1 h2 ) 4000 ((0)) mem
theorem dd_X1_beginPlaying : yX1_beginPlaying.cls = RX1 ∧ yX1_beginPlaying.cls ≠ "java/lang/invoke/MethodHandle" ∧ yX1_beginPlaying.cls ≠ "java/lang/invoke/VarHandle" ∧ (parseMethodDescriptor yX1_beginPlaying.desc).map (fun d => d.parameters.length) = some 2 := by decide +kernel
set_option maxHeartbeats 4000000 in
set_option maxRecDepth 100000 in
theorem k_X1_beginPlaying {l : Launch} {ad : Nat → Nat} {cy : Nat → ClassId} {dC : Nat → ClassId} {dI : Nat → Nat → Nat} {ks : (Nat → Nat) × (Nat → Nat)} {p1 : Int32} {h2 : Nat} {mem : Mm} {mem2 : Mm} (e2 : Lp.1 h2 = 14) (h : f_X1_beginPlaying p1 h2 mem = some mem2) : CtV l Lp ad cy dC dI ks yX1_beginPlaying cX1_beginPlaying 5 none ({ frames := 2, cells := 0, slots := 0, locals := 43 }) [.ref (ad (82)), .int (p1), .ref (ad (h2))] mem mem2 := by
  refine CtV.of (cc := cX1_beginPlaying) (maxL := 5) (ret := none) (own := RX1) rfl (by decide) (Nat.le_of_ble_eq_true rfl) ?_
  intro p e s m args below meth c A X
  have hts := X.2.2.2.2.1
  have hl46 := X.2.2.2.2.2.2.1 (.fieldLinkNest "StationPiano$DayRun" 46 "StationPiano$Station" "passers" "[LStationPiano$Passer;" "StationPiano") (List.mem_of_getElem? (i := 30) rfl)
  have hJ120 : ∀ (k2 : Int32 → Mm → Option Mm) (hk2 : ∀ (x1 : Int32) (m2 : Mm), k2 x1 m2 = some mem2 → Jd p l e ({ frames := 2, cells := 0, slots := 0, locals := 43 }) s m args below meth c 5 (MQ below (PsV Lp ad cy dC dI mem2 A) args s 0 0 A) A dC dI cy Lp ad m2 2 [(0, .ref (ad (82))), (1, .int (p1)), (2, .ref (ad (h2))), (3, .int (x1))] []) (x18 : Int32) (m19 : Mm), f_X1_beginPlaying_J120 p1 h2 k2 x18 m19 = some mem2 → Jd p l e ({ frames := 2, cells := 0, slots := 0, locals := 43 }) s m args below meth c 5 (MQ below (PsV Lp ad cy dC dI mem2 A) args s 0 0 A) A dC dI cy Lp ad m19 120 [(0, .ref (ad (82))), (1, .int (p1)), (2, .ref (ad (h2))), (3, .int (x18))] [] := by
    intro k2 hk2 x18 m19 h
    unfold f_X1_beginPlaying_J120 at h
    refine r_inc h (fun x20 e9 h => ?_)
    refine r_iinc (v := x20) (lv2 := [(3, .int (x20)), (0, .ref (ad (82))), (1, .int (p1)), (2, .ref (ad (h2)))]) X dX1_beginPlaying_120 3 rfl (by rw [e9]; rfl) (by decide) rfl ?_
    refine r_goto (tgt := 2) X dX1_beginPlaying_123 (by decide) ?_
    exact r_sub [1, 2, 3, 0] rfl (hk2 x20 m19 h)
  have hJ2 : ∀ (k2 : Int32 → Mm → Option Mm) (hk2 : ∀ (x1 : Int32) (m2 : Mm), k2 x1 m2 = some mem2 → Jd p l e ({ frames := 2, cells := 0, slots := 0, locals := 43 }) s m args below meth c 5 (MQ below (PsV Lp ad cy dC dI mem2 A) args s 0 0 A) A dC dI cy Lp ad m2 2 [(0, .ref (ad (82))), (1, .int (p1)), (2, .ref (ad (h2))), (3, .int (x1))] []) (x1 : Int32) (m2 : Mm), f_X1_beginPlaying_B2 p1 h2 k2 x1 m2 = some mem2 → Jd p l e ({ frames := 2, cells := 0, slots := 0, locals := 43 }) s m args below meth c 5 (MQ below (PsV Lp ad cy dC dI mem2 A) args s 0 0 A) A dC dI cy Lp ad m2 2 [(0, .ref (ad (82))), (1, .int (p1)), (2, .ref (ad (h2))), (3, .int (x1))] [] := by
    intro k2 hk2 x1 m2 h
    unfold f_X1_beginPlaying_B2 at h
    refine r_iload_n X dX1_beginPlaying_2 rfl 3 rfl ?_
    refine r_aload_n X dX1_beginPlaying_3 rfl 0 rfl ?_
    refine r_getI X (k := 8) (Lp_N Lpk_82 rfl) Lpk_82 rfl (by decide) ui_1 (by decide) uw2_115 rfl dX1_beginPlaying_4 ?_
    refine r_icmp_ge (tgt := 126) X dX1_beginPlaying_7 (by decide) h (fun h => ?_) (fun h => ?_)
    · exact r_vret X rfl dX1_beginPlaying_126 h
    · refine r_iload_n X dX1_beginPlaying_10 rfl 3 rfl ?_
      refine r_bipush (v := (7)) X dX1_beginPlaying_11 (by decide) ?_
      refine r_icmp_ge (tgt := 126) X dX1_beginPlaying_13 (by decide) h (fun h => ?_) (fun h => ?_)
      · exact r_vret X rfl dX1_beginPlaying_126 h
      · refine r_aload_n X dX1_beginPlaying_16 rfl 0 rfl ?_
        refine r_getF X (k := 7) (of := 8) rfl (Lp_N Lpk_82 rfl) Lpk_82 rfl (by decide) ui_1 (by decide) uw2_114 rfl dX1_beginPlaying_17 ?_
        refine r_iload_n X dX1_beginPlaying_20 rfl 3 rfl ?_
        refine r_iald X (Lp_N Lpk_90 rfl) Lpk_90 h dX1_beginPlaying_21 (fun h => ?_)
        refine r_nmI h (fun x3 h => ?_)
        refine r_istore (lv2 := [(4, .int (x3)), (0, .ref (ad (82))), (1, .int (p1)), (2, .ref (ad (h2))), (3, .int (x1))]) X dX1_beginPlaying_22 (by decide) rfl ?_
        refine r_iload X dX1_beginPlaying_24 0 rfl ?_
        refine r_if_lt (tgt := 120) X dX1_beginPlaying_26 (by decide) h (fun h => ?_) (fun h => ?_)
        · exact r_sub [1, 2, 3, 4] rfl (hJ120 k2 hk2 x1 m2 h)
        · refine r_iload X dX1_beginPlaying_29 0 rfl ?_
          refine r_bipush (v := (7)) X dX1_beginPlaying_31 (by decide) ?_
          refine r_icmp_ge (tgt := 120) X dX1_beginPlaying_33 (by decide) h (fun h => ?_) (fun h => ?_)
          · exact r_sub [1, 2, 3, 4] rfl (hJ120 k2 hk2 x1 m2 h)
          · refine r_aload_n X dX1_beginPlaying_36 rfl 1 rfl ?_
            refine r_getR X 7 (k := 14) (Lp_N Lpk_82 rfl) Lpk_82 rfl (by decide) ui_1 (by decide) uw2_123 rfl h dX1_beginPlaying_37 (fun q4 eq4 h => ?_)
            refine r_getFN X (k := 3) (of := 9) rfl (Lp_N eq4 rfl) eq4 rfl (by decide) ui_7 (by decide) hl46 rfl dX1_beginPlaying_40 ?_
            refine r_iload X dX1_beginPlaying_43 0 rfl ?_
            refine r_ald18 X (Lp_N (Lp_7_3 eq4) rfl) (Lp_7_3 eq4) (Lp_e18 (Lp_7_3 eq4)) rfl h dX1_beginPlaying_45 (fun q5 eq5 h => ?_)
            refine r_aload_n X dX1_beginPlaying_46 rfl 1 rfl ?_
            refine r_getI X (k := 8) (Lp_N Lpk_82 rfl) Lpk_82 rfl (by decide) ui_1 (by decide) uw2_115 rfl dX1_beginPlaying_47 ?_
            refine r_iconst (v := (1)) X dX1_beginPlaying_50 (by decide) ?_
            refine r_isub X dX1_beginPlaying_51 ?_
            refine r_cVI (As := [.int ((gI m2 82 8) - ((1)))]) (rest := []) X (fun r9 m9 hg => k_X4_daresBefore eq5 hg) h (Lp_N eq5 rfl) eq5 rfl (by decide) uw4_116 uw4_117 uw4_118 uw1_6 uw4_119 rfl rfl dd_X4_daresBefore ⟨Nat.le_of_ble_eq_true rfl, Nat.le_of_ble_eq_true rfl⟩ rfl (Nat.le_of_ble_eq_true rfl) dX1_beginPlaying_52 rfl (fun x7 m6 h => ?_)
            refine r_if_eq (tgt := 120) X dX1_beginPlaying_55 (by decide) h (fun h => ?_) (fun h => ?_)
            · exact r_sub [1, 2, 3, 4] rfl (hJ120 k2 hk2 x1 m6 h)
            · refine r_aload_n X dX1_beginPlaying_58 rfl 1 rfl ?_
              refine r_iload_n X dX1_beginPlaying_59 rfl 4 rfl ?_
              refine r_cVV (As := [.int (x1)]) (rest := []) X (fun m9 hg => k_X1_leaveLineAt hg) h (Lp_N Lpk_82 rfl) Lpk_82 rfl (by decide) uw4_120 uw4_122 us2_15 uw1_11 uw4_123 rfl rfl dd_X1_leaveLineAt ⟨Nat.le_of_ble_eq_true rfl, Nat.le_of_ble_eq_true rfl⟩ rfl (Nat.le_of_ble_eq_true rfl) dX1_beginPlaying_60 rfl (fun m8 h => ?_)
              refine r_aload_n X dX1_beginPlaying_63 rfl 1 rfl ?_
              refine r_iload X dX1_beginPlaying_64 0 rfl ?_
              refine r_putI X (k := 9) (Lp_N Lpk_82 rfl) Lpk_82 rfl (by decide) ui_1 (by decide) uw2_116 tyX1_ok nmX1 rfl rfl rfl dX1_beginPlaying_66 ?_
              refine r_nmM h (fun m9 h => ?_)
              refine r_aload_n X dX1_beginPlaying_69 rfl 1 rfl ?_
              refine r_getF X (k := 0) (of := 1) rfl (Lp_N Lpk_82 rfl) Lpk_82 rfl (by decide) ui_1 (by decide) uw2_104 rfl dX1_beginPlaying_70 ?_
              refine r_iload X dX1_beginPlaying_73 0 rfl ?_
              refine r_iload_n X dX1_beginPlaying_75 rfl 2 rfl ?_
              refine r_iast X (Lp_N Lpk_83 rfl) Lpk_83 h dX1_beginPlaying_76 (fun h => ?_)
              refine r_nmM h (fun m10 h => ?_)
              refine r_aload_n X dX1_beginPlaying_77 rfl 1 rfl ?_
              refine r_dup X dX1_beginPlaying_78 rfl ?_
              refine r_getI X (k := 11) (Lp_N Lpk_82 rfl) Lpk_82 rfl (by decide) ui_1 (by decide) uw2_119 rfl dX1_beginPlaying_79 ?_
              refine r_iconst (v := (1)) X dX1_beginPlaying_82 (by decide) ?_
              refine r_iadd X dX1_beginPlaying_83 ?_
              refine r_putI X (k := 11) (Lp_N Lpk_82 rfl) Lpk_82 rfl (by decide) ui_1 (by decide) uw2_119 tyX1_ok nmX1 rfl rfl rfl dX1_beginPlaying_84 ?_
              refine r_nmM h (fun m11 h => ?_)
              refine r_aload_n X dX1_beginPlaying_87 rfl 1 rfl ?_
              refine r_aload_n X dX1_beginPlaying_88 rfl 1 rfl ?_
              refine r_getR X 7 (k := 14) (Lp_N Lpk_82 rfl) Lpk_82 rfl (by decide) ui_1 (by decide) uw2_123 rfl h dX1_beginPlaying_89 (fun q12 eq12 h => ?_)
              refine r_getFN X (k := 3) (of := 9) rfl (Lp_N eq12 rfl) eq12 rfl (by decide) ui_7 (by decide) hl46 rfl dX1_beginPlaying_92 ?_
              refine r_iload X dX1_beginPlaying_95 0 rfl ?_
              refine r_ald18 X (Lp_N (Lp_7_3 eq12) rfl) (Lp_7_3 eq12) (Lp_e18 (Lp_7_3 eq12)) rfl h dX1_beginPlaying_97 (fun q13 eq13 h => ?_)
              refine r_iload X dX1_beginPlaying_98 0 rfl ?_
              refine r_aload_n X dX1_beginPlaying_100 rfl 3 rfl ?_
              refine r_cVV (As := [.ref (ad (q13)), .int (x3), .ref (ad (h2))]) (rest := []) X (fun m9 hg => k_X1_strikeAll eq13 e2 hg) h (Lp_N Lpk_82 rfl) Lpk_82 rfl (by decide) uw4_125 uw4_126 uw4_127 uw1_11 uw4_128 rfl rfl dd_X1_strikeAll ⟨Nat.le_of_ble_eq_true rfl, Nat.le_of_ble_eq_true rfl⟩ rfl (Nat.le_of_ble_eq_true rfl) dX1_beginPlaying_101 rfl (fun m14 h => ?_)
              refine r_aload_n X dX1_beginPlaying_104 rfl 1 rfl ?_
              refine r_aload_n X dX1_beginPlaying_105 rfl 1 rfl ?_
              refine r_getR X 7 (k := 14) (Lp_N Lpk_82 rfl) Lpk_82 rfl (by decide) ui_1 (by decide) uw2_123 rfl h dX1_beginPlaying_106 (fun q15 eq15 h => ?_)
              refine r_getFN X (k := 3) (of := 9) rfl (Lp_N eq15 rfl) eq15 rfl (by decide) ui_7 (by decide) hl46 rfl dX1_beginPlaying_109 ?_
              refine r_iload X dX1_beginPlaying_112 0 rfl ?_
              refine r_ald18 X (Lp_N (Lp_7_3 eq15) rfl) (Lp_7_3 eq15) (Lp_e18 (Lp_7_3 eq15)) rfl h dX1_beginPlaying_114 (fun q16 eq16 h => ?_)
              refine r_aload_n X dX1_beginPlaying_115 rfl 3 rfl ?_
              refine r_cVV (As := [.ref (ad (q16)), .ref (ad (h2))]) (rest := []) X (fun m9 hg => k_X1_learnFacts eq16 e2 hg) h (Lp_N Lpk_82 rfl) Lpk_82 rfl (by decide) uw4_129 uw4_131 us3_0 uw1_11 uw4_132 rfl rfl dd_X1_learnFacts ⟨Nat.le_of_ble_eq_true rfl, Nat.le_of_ble_eq_true rfl⟩ rfl (Nat.le_of_ble_eq_true rfl) dX1_beginPlaying_116 rfl (fun m17 h => ?_)
              exact r_vret X rfl dX1_beginPlaying_119 h
  have hL2 : ∀ (n : Nat), ∀ (x1 : Int32) (m2 : Mm), lop (fun _ _ => none) (f_X1_beginPlaying_B2 p1 h2 ) n x1 m2 = some mem2 → Jd p l e ({ frames := 2, cells := 0, slots := 0, locals := 43 }) s m args below meth c 5 (MQ below (PsV Lp ad cy dC dI mem2 A) args s 0 0 A) A dC dI cy Lp ad m2 2 [(0, .ref (ad (82))), (1, .int (p1)), (2, .ref (ad (h2))), (3, .int (x1))] [] := by
    intro  n
    induction n with
    | zero => intro _ _ h; cases h
    | succ n ih => intro a0 a1 h; exact hJ2  _ ih a0 a1 h
  unfold f_X1_beginPlaying at h
  refine r_iconst (v := (0)) X dX1_beginPlaying_0 (by decide) ?_
  refine r_istore_n (lv2 := [(3, .int ((0))), (0, .ref (ad (82))), (1, .int (p1)), (2, .ref (ad (h2)))]) X dX1_beginPlaying_1 rfl (by decide) rfl ?_
  exact r_sub [1, 2, 3, 0] rfl (hL2 4000 ((0)) mem h)
noncomputable def f_X1_endPlaying_J44 (p1 : Int32) (p2 : Int32) (m1 : Mm) : Option Mm :=
  grd (inb (gI m1 82 9) 7) (bnd (sI m1 84 (gI m1 82 9).toNatClampNeg p1) fun m2 => bnd (sI m2 82 9 ((-1))) fun m3 => some m3)
noncomputable def f_X1_endPlaying (p1 : Int32) (p2 : Int32) (mem : Mm) : Option Mm :=
  if (gI mem 82 9) < 0 then (some mem) else (if (gI mem 82 9) < ((7)) then (if p2 = 0 then (f_X1_endPlaying_J44 p1 p2 mem) else (grd (inb (gI mem 82 9) 7) (grd (inb (gI mem 82 9) 7) (if (p1 - (gI mem 83 (gI mem 82 9).toNatClampNeg)) < (gI mem 86 (gI mem 82 9).toNatClampNeg) then (some mem) else (f_X1_endPlaying_J44 p1 p2 mem))))) else (some mem))
theorem dd_X1_endPlaying : yX1_endPlaying.cls = RX1 ∧ yX1_endPlaying.cls ≠ "java/lang/invoke/MethodHandle" ∧ yX1_endPlaying.cls ≠ "java/lang/invoke/VarHandle" ∧ (parseMethodDescriptor yX1_endPlaying.desc).map (fun d => d.parameters.length) = some 2 := by decide +kernel
set_option maxHeartbeats 4000000 in
set_option maxRecDepth 100000 in
theorem k_X1_endPlaying {l : Launch} {ad : Nat → Nat} {cy : Nat → ClassId} {dC : Nat → ClassId} {dI : Nat → Nat → Nat} {ks : (Nat → Nat) × (Nat → Nat)} {p1 : Int32} {p2 : Int32} {mem : Mm} {mem2 : Mm}  (h : f_X1_endPlaying p1 p2 mem = some mem2) : CtV l Lp ad cy dC dI ks yX1_endPlaying cX1_endPlaying 3 none ({ frames := 0, cells := 0, slots := 0, locals := 0 }) [.ref (ad (82)), .int (p1), .int (p2)] mem mem2 := by
  refine CtV.of (cc := cX1_endPlaying) (maxL := 3) (ret := none) (own := RX1) rfl (by decide) (Nat.le_of_ble_eq_true rfl) ?_
  intro p e s m args below meth c A X
  have hts := X.2.2.2.2.1
  have hJ44 : ∀ (m1 : Mm), f_X1_endPlaying_J44 p1 p2 m1 = some mem2 → Jd p l e ({ frames := 0, cells := 0, slots := 0, locals := 0 }) s m args below meth c 3 (MQ below (PsV Lp ad cy dC dI mem2 A) args s 0 0 A) A dC dI cy Lp ad m1 44 [(0, .ref (ad (82))), (1, .int (p1))] [] := by
    intro m1 h
    unfold f_X1_endPlaying_J44 at h
    refine r_aload_n X dX1_endPlaying_44 rfl 0 rfl ?_
    refine r_getF X (k := 1) (of := 2) rfl (Lp_N Lpk_82 rfl) Lpk_82 rfl (by decide) ui_1 (by decide) uw2_106 rfl dX1_endPlaying_45 ?_
    refine r_aload_n X dX1_endPlaying_48 rfl 0 rfl ?_
    refine r_getI X (k := 9) (Lp_N Lpk_82 rfl) Lpk_82 rfl (by decide) ui_1 (by decide) uw2_116 rfl dX1_endPlaying_49 ?_
    refine r_iload_n X dX1_endPlaying_52 rfl 1 rfl ?_
    refine r_iast X (Lp_N Lpk_84 rfl) Lpk_84 h dX1_endPlaying_53 (fun h => ?_)
    refine r_nmM h (fun m2 h => ?_)
    refine r_aload_n X dX1_endPlaying_54 rfl 0 rfl ?_
    refine r_iconst (v := (-1)) X dX1_endPlaying_55 (by decide) ?_
    refine r_putI X (k := 9) (Lp_N Lpk_82 rfl) Lpk_82 rfl (by decide) ui_1 (by decide) uw2_116 tyX1_ok nmX1 rfl rfl rfl dX1_endPlaying_56 ?_
    refine r_nmM h (fun m3 h => ?_)
    exact r_vret X rfl dX1_endPlaying_59 h
  unfold f_X1_endPlaying at h
  refine r_aload_n X dX1_endPlaying_0 rfl 0 rfl ?_
  refine r_getI X (k := 9) (Lp_N Lpk_82 rfl) Lpk_82 rfl (by decide) ui_1 (by decide) uw2_116 rfl dX1_endPlaying_1 ?_
  refine r_if_lt (tgt := 16) X dX1_endPlaying_4 (by decide) h (fun h => ?_) (fun h => ?_)
  · exact r_vret X rfl dX1_endPlaying_16 h
  · refine r_aload_n X dX1_endPlaying_7 rfl 0 rfl ?_
    refine r_getI X (k := 9) (Lp_N Lpk_82 rfl) Lpk_82 rfl (by decide) ui_1 (by decide) uw2_116 rfl dX1_endPlaying_8 ?_
    refine r_bipush (v := (7)) X dX1_endPlaying_11 (by decide) ?_
    refine r_icmp_lt (tgt := 17) X dX1_endPlaying_13 (by decide) h (fun h => ?_) (fun h => ?_)
    · refine r_iload_n X dX1_endPlaying_17 rfl 2 rfl ?_
      refine r_if_eq (tgt := 44) X dX1_endPlaying_18 (by decide) h (fun h => ?_) (fun h => ?_)
      · exact r_sub [0, 1] rfl (hJ44 mem h)
      · refine r_iload_n X dX1_endPlaying_21 rfl 1 rfl ?_
        refine r_aload_n X dX1_endPlaying_22 rfl 0 rfl ?_
        refine r_getF X (k := 0) (of := 1) rfl (Lp_N Lpk_82 rfl) Lpk_82 rfl (by decide) ui_1 (by decide) uw2_104 rfl dX1_endPlaying_23 ?_
        refine r_aload_n X dX1_endPlaying_26 rfl 0 rfl ?_
        refine r_getI X (k := 9) (Lp_N Lpk_82 rfl) Lpk_82 rfl (by decide) ui_1 (by decide) uw2_116 rfl dX1_endPlaying_27 ?_
        refine r_iald X (Lp_N Lpk_83 rfl) Lpk_83 h dX1_endPlaying_30 (fun h => ?_)
        refine r_isub X dX1_endPlaying_31 ?_
        refine r_aload_n X dX1_endPlaying_32 rfl 0 rfl ?_
        refine r_getF X (k := 3) (of := 4) rfl (Lp_N Lpk_82 rfl) Lpk_82 rfl (by decide) ui_1 (by decide) uw2_110 rfl dX1_endPlaying_33 ?_
        refine r_aload_n X dX1_endPlaying_36 rfl 0 rfl ?_
        refine r_getI X (k := 9) (Lp_N Lpk_82 rfl) Lpk_82 rfl (by decide) ui_1 (by decide) uw2_116 rfl dX1_endPlaying_37 ?_
        refine r_iald X (Lp_N Lpk_86 rfl) Lpk_86 h dX1_endPlaying_40 (fun h => ?_)
        refine r_icmp_lt (tgt := 59) X dX1_endPlaying_41 (by decide) h (fun h => ?_) (fun h => ?_)
        · exact r_vret X rfl dX1_endPlaying_59 h
        · exact r_sub [0, 1] rfl (hJ44 mem h)
    · exact r_vret X rfl dX1_endPlaying_16 h
noncomputable def f_X1_leaveLine_J68 (p1 : Int32) (k4 : Int32 → Int32 → Mm → Option Mm) (x11 : Int32) (x12 : Int32) (m13 : Mm) : Option Mm :=
  bnd (x12 + (1)) fun x14 => k4 x11 x14 m13
noncomputable def f_X1_leaveLine_J87 (p1 : Int32) (x15 : Int32) (m16 : Mm) : Option Mm :=
  bnd (sI m16 82 8 x15) fun m17 => some m17
noncomputable def f_X1_leaveLine_J74 (p1 : Int32) (x8 : Int32) (m9 : Mm) : Option Mm :=
  if x8 = (gI m9 82 8) then (f_X1_leaveLine_J87 p1 x8 m9) else (grd (bok ((0))) (bnd (sI m9 82 13 ((0))) fun m10 => f_X1_leaveLine_J87 p1 x8 m10))
noncomputable def f_X1_leaveLine_B4 (p1 : Int32) (k4 : Int32 → Int32 → Mm → Option Mm) (x1 : Int32) (x2 : Int32) (m3 : Mm) : Option Mm :=
  if (gI m3 82 8) ≤ x2 then (f_X1_leaveLine_J74 p1 x1 m3) else (if ((7)) ≤ x2 then (f_X1_leaveLine_J74 p1 x1 m3) else (grd (inb x2 7) (bnd (gI m3 90 x2.toNatClampNeg) fun x4 => if x4 < 0 then (f_X1_leaveLine_J68 p1 k4 x1 x2 m3) else (if ((7)) ≤ x4 then (f_X1_leaveLine_J68 p1 k4 x1 x2 m3) else (grd (inb x4 7) (grd (decide (Lp.1 (gR m3 82 14) = 7)) (bnd (gR m3 82 14) fun q5 => if (gI m3 q5 8) < (p1 - (gI m3 85 x4.toNatClampNeg)) then (f_X1_leaveLine_J68 p1 k4 x1 x2 m3) else (grd (inb x1 7) (bnd (sI m3 90 x1.toNatClampNeg x4) fun m6 => bnd (x1 + (1)) fun x7 => f_X1_leaveLine_J68 p1 k4 x7 x2 m6)))))))))
noncomputable def f_X1_leaveLine (p1 : Int32) (mem : Mm) : Option Mm :=
  lop (fun _ _ _ => none) (f_X1_leaveLine_B4 p1 ) 4000 ((0)) ((0)) mem
theorem dd_X1_leaveLine : yX1_leaveLine.cls = RX1 ∧ yX1_leaveLine.cls ≠ "java/lang/invoke/MethodHandle" ∧ yX1_leaveLine.cls ≠ "java/lang/invoke/VarHandle" ∧ (parseMethodDescriptor yX1_leaveLine.desc).map (fun d => d.parameters.length) = some 1 := by decide +kernel
set_option maxHeartbeats 4000000 in
set_option maxRecDepth 100000 in
theorem k_X1_leaveLine {l : Launch} {ad : Nat → Nat} {cy : Nat → ClassId} {dC : Nat → ClassId} {dI : Nat → Nat → Nat} {ks : (Nat → Nat) × (Nat → Nat)} {p1 : Int32} {mem : Mm} {mem2 : Mm}  (h : f_X1_leaveLine p1 mem = some mem2) : CtV l Lp ad cy dC dI ks yX1_leaveLine cX1_leaveLine 5 none ({ frames := 0, cells := 0, slots := 0, locals := 0 }) [.ref (ad (82)), .int (p1)] mem mem2 := by
  refine CtV.of (cc := cX1_leaveLine) (maxL := 5) (ret := none) (own := RX1) rfl (by decide) (Nat.le_of_ble_eq_true rfl) ?_
  intro p e s m args below meth c A X
  have hts := X.2.2.2.2.1
  have hl122 := X.2.2.2.2.2.2.1 (.fieldLinkNest "StationPiano$DayRun" 122 "StationPiano$Station" "waits" "I" "StationPiano") (List.mem_of_getElem? (i := 42) rfl)
  have hJ68 : ∀ (k4 : Int32 → Int32 → Mm → Option Mm) (hk4 : ∀ (x1 : Int32) (x2 : Int32) (m3 : Mm), k4 x1 x2 m3 = some mem2 → Jd p l e ({ frames := 0, cells := 0, slots := 0, locals := 0 }) s m args below meth c 5 (MQ below (PsV Lp ad cy dC dI mem2 A) args s 0 0 A) A dC dI cy Lp ad m3 4 [(0, .ref (ad (82))), (1, .int (p1)), (2, .int (x1)), (3, .int (x2))] []) (x11 : Int32) (x12 : Int32) (m13 : Mm), f_X1_leaveLine_J68 p1 k4 x11 x12 m13 = some mem2 → Jd p l e ({ frames := 0, cells := 0, slots := 0, locals := 0 }) s m args below meth c 5 (MQ below (PsV Lp ad cy dC dI mem2 A) args s 0 0 A) A dC dI cy Lp ad m13 68 [(0, .ref (ad (82))), (1, .int (p1)), (2, .int (x11)), (3, .int (x12))] [] := by
    intro k4 hk4 x11 x12 m13 h
    unfold f_X1_leaveLine_J68 at h
    refine r_inc h (fun x14 e9 h => ?_)
    refine r_iinc (v := x14) (lv2 := [(3, .int (x14)), (0, .ref (ad (82))), (1, .int (p1)), (2, .int (x11))]) X dX1_leaveLine_68 3 rfl (by rw [e9]; rfl) (by decide) rfl ?_
    refine r_goto (tgt := 4) X dX1_leaveLine_71 (by decide) ?_
    exact r_sub [1, 2, 3, 0] rfl (hk4 x11 x14 m13 h)
  have hJ87 : ∀ (x15 : Int32) (m16 : Mm), f_X1_leaveLine_J87 p1 x15 m16 = some mem2 → Jd p l e ({ frames := 0, cells := 0, slots := 0, locals := 0 }) s m args below meth c 5 (MQ below (PsV Lp ad cy dC dI mem2 A) args s 0 0 A) A dC dI cy Lp ad m16 87 [(0, .ref (ad (82))), (2, .int (x15))] [] := by
    intro x15 m16 h
    unfold f_X1_leaveLine_J87 at h
    refine r_aload_n X dX1_leaveLine_87 rfl 0 rfl ?_
    refine r_iload_n X dX1_leaveLine_88 rfl 1 rfl ?_
    refine r_putI X (k := 8) (Lp_N Lpk_82 rfl) Lpk_82 rfl (by decide) ui_1 (by decide) uw2_115 tyX1_ok nmX1 rfl rfl rfl dX1_leaveLine_89 ?_
    refine r_nmM h (fun m17 h => ?_)
    exact r_vret X rfl dX1_leaveLine_92 h
  have hJ74 : ∀ (x8 : Int32) (m9 : Mm), f_X1_leaveLine_J74 p1 x8 m9 = some mem2 → Jd p l e ({ frames := 0, cells := 0, slots := 0, locals := 0 }) s m args below meth c 5 (MQ below (PsV Lp ad cy dC dI mem2 A) args s 0 0 A) A dC dI cy Lp ad m9 74 [(0, .ref (ad (82))), (2, .int (x8))] [] := by
    intro x8 m9 h
    unfold f_X1_leaveLine_J74 at h
    refine r_iload_n X dX1_leaveLine_74 rfl 1 rfl ?_
    refine r_aload_n X dX1_leaveLine_75 rfl 0 rfl ?_
    refine r_getI X (k := 8) (Lp_N Lpk_82 rfl) Lpk_82 rfl (by decide) ui_1 (by decide) uw2_115 rfl dX1_leaveLine_76 ?_
    refine r_icmp_eq (tgt := 87) X dX1_leaveLine_79 (by decide) h (fun h => ?_) (fun h => ?_)
    · exact r_sub [0, 1] rfl (hJ87 x8 m9 h)
    · refine r_aload_n X dX1_leaveLine_82 rfl 0 rfl ?_
      refine r_iconst (v := (0)) X dX1_leaveLine_83 (by decide) ?_
      refine r_gz h (fun hz h => ?_)
      refine r_putZ X (k := 13) (Lp_N Lpk_82 rfl) Lpk_82 rfl (by decide) ui_1 (by decide) uw2_122 tyX1_ok nmX1 rfl rfl hz rfl dX1_leaveLine_84 ?_
      refine r_nmM h (fun m10 h => ?_)
      exact r_sub [0, 1] rfl (hJ87 x8 m10 h)
  have hJ4 : ∀ (k4 : Int32 → Int32 → Mm → Option Mm) (hk4 : ∀ (x1 : Int32) (x2 : Int32) (m3 : Mm), k4 x1 x2 m3 = some mem2 → Jd p l e ({ frames := 0, cells := 0, slots := 0, locals := 0 }) s m args below meth c 5 (MQ below (PsV Lp ad cy dC dI mem2 A) args s 0 0 A) A dC dI cy Lp ad m3 4 [(0, .ref (ad (82))), (1, .int (p1)), (2, .int (x1)), (3, .int (x2))] []) (x1 : Int32) (x2 : Int32) (m3 : Mm), f_X1_leaveLine_B4 p1 k4 x1 x2 m3 = some mem2 → Jd p l e ({ frames := 0, cells := 0, slots := 0, locals := 0 }) s m args below meth c 5 (MQ below (PsV Lp ad cy dC dI mem2 A) args s 0 0 A) A dC dI cy Lp ad m3 4 [(0, .ref (ad (82))), (1, .int (p1)), (2, .int (x1)), (3, .int (x2))] [] := by
    intro k4 hk4 x1 x2 m3 h
    unfold f_X1_leaveLine_B4 at h
    refine r_iload_n X dX1_leaveLine_4 rfl 3 rfl ?_
    refine r_aload_n X dX1_leaveLine_5 rfl 0 rfl ?_
    refine r_getI X (k := 8) (Lp_N Lpk_82 rfl) Lpk_82 rfl (by decide) ui_1 (by decide) uw2_115 rfl dX1_leaveLine_6 ?_
    refine r_icmp_ge (tgt := 74) X dX1_leaveLine_9 (by decide) h (fun h => ?_) (fun h => ?_)
    · exact r_sub [0, 2] rfl (hJ74 x1 m3 h)
    · refine r_iload_n X dX1_leaveLine_12 rfl 3 rfl ?_
      refine r_bipush (v := (7)) X dX1_leaveLine_13 (by decide) ?_
      refine r_icmp_ge (tgt := 74) X dX1_leaveLine_15 (by decide) h (fun h => ?_) (fun h => ?_)
      · exact r_sub [0, 2] rfl (hJ74 x1 m3 h)
      · refine r_aload_n X dX1_leaveLine_18 rfl 0 rfl ?_
        refine r_getF X (k := 7) (of := 8) rfl (Lp_N Lpk_82 rfl) Lpk_82 rfl (by decide) ui_1 (by decide) uw2_114 rfl dX1_leaveLine_19 ?_
        refine r_iload_n X dX1_leaveLine_22 rfl 3 rfl ?_
        refine r_iald X (Lp_N Lpk_90 rfl) Lpk_90 h dX1_leaveLine_23 (fun h => ?_)
        refine r_nmI h (fun x4 h => ?_)
        refine r_istore (lv2 := [(4, .int (x4)), (0, .ref (ad (82))), (1, .int (p1)), (2, .int (x1)), (3, .int (x2))]) X dX1_leaveLine_24 (by decide) rfl ?_
        refine r_iload X dX1_leaveLine_26 0 rfl ?_
        refine r_if_lt (tgt := 68) X dX1_leaveLine_28 (by decide) h (fun h => ?_) (fun h => ?_)
        · exact r_sub [1, 2, 3, 4] rfl (hJ68 k4 hk4 x1 x2 m3 h)
        · refine r_iload X dX1_leaveLine_31 0 rfl ?_
          refine r_bipush (v := (7)) X dX1_leaveLine_33 (by decide) ?_
          refine r_icmp_ge (tgt := 68) X dX1_leaveLine_35 (by decide) h (fun h => ?_) (fun h => ?_)
          · exact r_sub [1, 2, 3, 4] rfl (hJ68 k4 hk4 x1 x2 m3 h)
          · refine r_iload_n X dX1_leaveLine_38 rfl 2 rfl ?_
            refine r_aload_n X dX1_leaveLine_39 rfl 1 rfl ?_
            refine r_getF X (k := 2) (of := 3) rfl (Lp_N Lpk_82 rfl) Lpk_82 rfl (by decide) ui_1 (by decide) uw2_108 rfl dX1_leaveLine_40 ?_
            refine r_iload X dX1_leaveLine_43 0 rfl ?_
            refine r_iald X (Lp_N Lpk_85 rfl) Lpk_85 h dX1_leaveLine_45 (fun h => ?_)
            refine r_isub X dX1_leaveLine_46 ?_
            refine r_aload_n X dX1_leaveLine_47 rfl 1 rfl ?_
            refine r_getR X 7 (k := 14) (Lp_N Lpk_82 rfl) Lpk_82 rfl (by decide) ui_1 (by decide) uw2_123 rfl h dX1_leaveLine_48 (fun q5 eq5 h => ?_)
            refine r_getIN X (k := 8) (Lp_N eq5 rfl) eq5 rfl (by decide) ui_7 (by decide) hl122 rfl dX1_leaveLine_51 ?_
            refine r_icmp_gt (tgt := 68) X dX1_leaveLine_54 (by decide) h (fun h => ?_) (fun h => ?_)
            · exact r_sub [1, 2, 3, 4] rfl (hJ68 k4 hk4 x1 x2 m3 h)
            · refine r_aload_n X dX1_leaveLine_57 rfl 1 rfl ?_
              refine r_getF X (k := 7) (of := 8) rfl (Lp_N Lpk_82 rfl) Lpk_82 rfl (by decide) ui_1 (by decide) uw2_114 rfl dX1_leaveLine_58 ?_
              refine r_iload_n X dX1_leaveLine_61 rfl 3 rfl ?_
              refine r_iload X dX1_leaveLine_62 0 rfl ?_
              refine r_iast X (Lp_N Lpk_90 rfl) Lpk_90 h dX1_leaveLine_64 (fun h => ?_)
              refine r_nmM h (fun m6 h => ?_)
              refine r_inc h (fun x7 e9 h => ?_)
              refine r_iinc (v := x7) (lv2 := [(2, .int (x7)), (4, .int (x4)), (0, .ref (ad (82))), (1, .int (p1)), (3, .int (x2))]) X dX1_leaveLine_65 3 rfl (by rw [e9]; rfl) (by decide) rfl ?_
              exact r_sub [2, 3, 0, 4] rfl (hJ68 k4 hk4 x7 x2 m6 h)
  have hL4 : ∀ (n : Nat), ∀ (x1 : Int32) (x2 : Int32) (m3 : Mm), lop (fun _ _ _ => none) (f_X1_leaveLine_B4 p1 ) n x1 x2 m3 = some mem2 → Jd p l e ({ frames := 0, cells := 0, slots := 0, locals := 0 }) s m args below meth c 5 (MQ below (PsV Lp ad cy dC dI mem2 A) args s 0 0 A) A dC dI cy Lp ad m3 4 [(0, .ref (ad (82))), (1, .int (p1)), (2, .int (x1)), (3, .int (x2))] [] := by
    intro  n
    induction n with
    | zero => intro _ _ _ h; cases h
    | succ n ih => intro a0 a1 a2 h; exact hJ4  _ ih a0 a1 a2 h
  unfold f_X1_leaveLine at h
  refine r_iconst (v := (0)) X dX1_leaveLine_0 (by decide) ?_
  refine r_istore_n (lv2 := [(2, .int ((0))), (0, .ref (ad (82))), (1, .int (p1))]) X dX1_leaveLine_1 rfl (by decide) rfl ?_
  refine r_iconst (v := (0)) X dX1_leaveLine_2 (by decide) ?_
  refine r_istore_n (lv2 := [(3, .int ((0))), (2, .int ((0))), (0, .ref (ad (82))), (1, .int (p1))]) X dX1_leaveLine_3 rfl (by decide) rfl ?_
  exact r_sub [2, 3, 1, 0] rfl (hL4 4000 ((0)) ((0)) mem h)
noncomputable def f_X1_standInLine_J78 (p1 : Int32) (p2 : Int32) (k2 : Int32 → Mm → Option Mm) (x7 : Int32) (m8 : Mm) : Option Mm :=
  bnd (x7 + (1)) fun x9 => k2 x9 m8
noncomputable def f_X1_standInLine_B2 (p1 : Int32) (p2 : Int32) (k2 : Int32 → Mm → Option Mm) (x1 : Int32) (m2 : Mm) : Option Mm :=
  grd (decide (Lp.1 (gR m2 82 14) = 7)) (bnd (gR m2 82 14) fun q3 => if (gI m2 q3 7) ≤ x1 then (some m2) else (if ((7)) ≤ x1 then (some m2) else (grd (inb x1 7) (if ¬ (gI m2 85 x1.toNatClampNeg) = p1 then (f_X1_standInLine_J78 p1 p2 k2 x1 m2) else (if ¬ ((p2 >>> (x1 &&& 31)) &&& ((1))) = 0 then (f_X1_standInLine_J78 p1 p2 k2 x1 m2) else (if (gI m2 82 8) < 0 then (f_X1_standInLine_J78 p1 p2 k2 x1 m2) else (if ((7)) ≤ (gI m2 82 8) then (f_X1_standInLine_J78 p1 p2 k2 x1 m2) else (grd (inb (gI m2 82 8) 7) (bnd (sI m2 90 (gI m2 82 8).toNatClampNeg x1) fun m4 => bnd (sI m4 82 8 ((gI m4 82 8) + ((1)))) fun m5 => grd (bok ((0))) (bnd (sI m5 82 13 ((0))) fun m6 => f_X1_standInLine_J78 p1 p2 k2 x1 m6))))))))))
noncomputable def f_X1_standInLine (p1 : Int32) (p2 : Int32) (mem : Mm) : Option Mm :=
  lop (fun _ _ => none) (f_X1_standInLine_B2 p1 p2 ) 4000 ((0)) mem
theorem dd_X1_standInLine : yX1_standInLine.cls = RX1 ∧ yX1_standInLine.cls ≠ "java/lang/invoke/MethodHandle" ∧ yX1_standInLine.cls ≠ "java/lang/invoke/VarHandle" ∧ (parseMethodDescriptor yX1_standInLine.desc).map (fun d => d.parameters.length) = some 2 := by decide +kernel
set_option maxHeartbeats 4000000 in
set_option maxRecDepth 100000 in
theorem k_X1_standInLine {l : Launch} {ad : Nat → Nat} {cy : Nat → ClassId} {dC : Nat → ClassId} {dI : Nat → Nat → Nat} {ks : (Nat → Nat) × (Nat → Nat)} {p1 : Int32} {p2 : Int32} {mem : Mm} {mem2 : Mm}  (h : f_X1_standInLine p1 p2 mem = some mem2) : CtV l Lp ad cy dC dI ks yX1_standInLine cX1_standInLine 4 none ({ frames := 0, cells := 0, slots := 0, locals := 0 }) [.ref (ad (82)), .int (p1), .int (p2)] mem mem2 := by
  refine CtV.of (cc := cX1_standInLine) (maxL := 4) (ret := none) (own := RX1) rfl (by decide) (Nat.le_of_ble_eq_true rfl) ?_
  intro p e s m args below meth c A X
  have hts := X.2.2.2.2.1
  have hl40 := X.2.2.2.2.2.2.1 (.fieldLinkNest "StationPiano$DayRun" 40 "StationPiano$Station" "passerCount" "I" "StationPiano") (List.mem_of_getElem? (i := 39) rfl)
  have hJ78 : ∀ (k2 : Int32 → Mm → Option Mm) (hk2 : ∀ (x1 : Int32) (m2 : Mm), k2 x1 m2 = some mem2 → Jd p l e ({ frames := 0, cells := 0, slots := 0, locals := 0 }) s m args below meth c 4 (MQ below (PsV Lp ad cy dC dI mem2 A) args s 0 0 A) A dC dI cy Lp ad m2 2 [(0, .ref (ad (82))), (1, .int (p1)), (2, .int (p2)), (3, .int (x1))] []) (x7 : Int32) (m8 : Mm), f_X1_standInLine_J78 p1 p2 k2 x7 m8 = some mem2 → Jd p l e ({ frames := 0, cells := 0, slots := 0, locals := 0 }) s m args below meth c 4 (MQ below (PsV Lp ad cy dC dI mem2 A) args s 0 0 A) A dC dI cy Lp ad m8 78 [(0, .ref (ad (82))), (1, .int (p1)), (2, .int (p2)), (3, .int (x7))] [] := by
    intro k2 hk2 x7 m8 h
    unfold f_X1_standInLine_J78 at h
    refine r_inc h (fun x9 e9 h => ?_)
    refine r_iinc (v := x9) (lv2 := [(3, .int (x9)), (0, .ref (ad (82))), (1, .int (p1)), (2, .int (p2))]) X dX1_standInLine_78 3 rfl (by rw [e9]; rfl) (by decide) rfl ?_
    refine r_goto (tgt := 2) X dX1_standInLine_81 (by decide) ?_
    exact r_sub [1, 2, 3, 0] rfl (hk2 x9 m8 h)
  have hJ2 : ∀ (k2 : Int32 → Mm → Option Mm) (hk2 : ∀ (x1 : Int32) (m2 : Mm), k2 x1 m2 = some mem2 → Jd p l e ({ frames := 0, cells := 0, slots := 0, locals := 0 }) s m args below meth c 4 (MQ below (PsV Lp ad cy dC dI mem2 A) args s 0 0 A) A dC dI cy Lp ad m2 2 [(0, .ref (ad (82))), (1, .int (p1)), (2, .int (p2)), (3, .int (x1))] []) (x1 : Int32) (m2 : Mm), f_X1_standInLine_B2 p1 p2 k2 x1 m2 = some mem2 → Jd p l e ({ frames := 0, cells := 0, slots := 0, locals := 0 }) s m args below meth c 4 (MQ below (PsV Lp ad cy dC dI mem2 A) args s 0 0 A) A dC dI cy Lp ad m2 2 [(0, .ref (ad (82))), (1, .int (p1)), (2, .int (p2)), (3, .int (x1))] [] := by
    intro k2 hk2 x1 m2 h
    unfold f_X1_standInLine_B2 at h
    refine r_iload_n X dX1_standInLine_2 rfl 3 rfl ?_
    refine r_aload_n X dX1_standInLine_3 rfl 0 rfl ?_
    refine r_getR X 7 (k := 14) (Lp_N Lpk_82 rfl) Lpk_82 rfl (by decide) ui_1 (by decide) uw2_123 rfl h dX1_standInLine_4 (fun q3 eq3 h => ?_)
    refine r_getIN X (k := 7) (Lp_N eq3 rfl) eq3 rfl (by decide) ui_7 (by decide) hl40 rfl dX1_standInLine_7 ?_
    refine r_icmp_ge (tgt := 84) X dX1_standInLine_10 (by decide) h (fun h => ?_) (fun h => ?_)
    · exact r_vret X rfl dX1_standInLine_84 h
    · refine r_iload_n X dX1_standInLine_13 rfl 3 rfl ?_
      refine r_bipush (v := (7)) X dX1_standInLine_14 (by decide) ?_
      refine r_icmp_ge (tgt := 84) X dX1_standInLine_16 (by decide) h (fun h => ?_) (fun h => ?_)
      · exact r_vret X rfl dX1_standInLine_84 h
      · refine r_aload_n X dX1_standInLine_19 rfl 0 rfl ?_
        refine r_getF X (k := 2) (of := 3) rfl (Lp_N Lpk_82 rfl) Lpk_82 rfl (by decide) ui_1 (by decide) uw2_108 rfl dX1_standInLine_20 ?_
        refine r_iload_n X dX1_standInLine_23 rfl 3 rfl ?_
        refine r_iald X (Lp_N Lpk_85 rfl) Lpk_85 h dX1_standInLine_24 (fun h => ?_)
        refine r_iload_n X dX1_standInLine_25 rfl 1 rfl ?_
        refine r_icmp_ne (tgt := 78) X dX1_standInLine_26 (by decide) h (fun h => ?_) (fun h => ?_)
        · exact r_sub [0, 1, 2, 3] rfl (hJ78 k2 hk2 x1 m2 h)
        · refine r_iload_n X dX1_standInLine_29 rfl 2 rfl ?_
          refine r_iload_n X dX1_standInLine_30 rfl 3 rfl ?_
          refine r_ishr X dX1_standInLine_31 ?_
          refine r_iconst (v := (1)) X dX1_standInLine_32 (by decide) ?_
          refine r_iand X dX1_standInLine_33 ?_
          refine r_if_ne (tgt := 78) X dX1_standInLine_34 (by decide) h (fun h => ?_) (fun h => ?_)
          · exact r_sub [0, 1, 2, 3] rfl (hJ78 k2 hk2 x1 m2 h)
          · refine r_aload_n X dX1_standInLine_37 rfl 0 rfl ?_
            refine r_getI X (k := 8) (Lp_N Lpk_82 rfl) Lpk_82 rfl (by decide) ui_1 (by decide) uw2_115 rfl dX1_standInLine_38 ?_
            refine r_if_lt (tgt := 78) X dX1_standInLine_41 (by decide) h (fun h => ?_) (fun h => ?_)
            · exact r_sub [0, 1, 2, 3] rfl (hJ78 k2 hk2 x1 m2 h)
            · refine r_aload_n X dX1_standInLine_44 rfl 0 rfl ?_
              refine r_getI X (k := 8) (Lp_N Lpk_82 rfl) Lpk_82 rfl (by decide) ui_1 (by decide) uw2_115 rfl dX1_standInLine_45 ?_
              refine r_bipush (v := (7)) X dX1_standInLine_48 (by decide) ?_
              refine r_icmp_ge (tgt := 78) X dX1_standInLine_50 (by decide) h (fun h => ?_) (fun h => ?_)
              · exact r_sub [0, 1, 2, 3] rfl (hJ78 k2 hk2 x1 m2 h)
              · refine r_aload_n X dX1_standInLine_53 rfl 0 rfl ?_
                refine r_getF X (k := 7) (of := 8) rfl (Lp_N Lpk_82 rfl) Lpk_82 rfl (by decide) ui_1 (by decide) uw2_114 rfl dX1_standInLine_54 ?_
                refine r_aload_n X dX1_standInLine_57 rfl 0 rfl ?_
                refine r_getI X (k := 8) (Lp_N Lpk_82 rfl) Lpk_82 rfl (by decide) ui_1 (by decide) uw2_115 rfl dX1_standInLine_58 ?_
                refine r_iload_n X dX1_standInLine_61 rfl 3 rfl ?_
                refine r_iast X (Lp_N Lpk_90 rfl) Lpk_90 h dX1_standInLine_62 (fun h => ?_)
                refine r_nmM h (fun m4 h => ?_)
                refine r_aload_n X dX1_standInLine_63 rfl 0 rfl ?_
                refine r_dup X dX1_standInLine_64 rfl ?_
                refine r_getI X (k := 8) (Lp_N Lpk_82 rfl) Lpk_82 rfl (by decide) ui_1 (by decide) uw2_115 rfl dX1_standInLine_65 ?_
                refine r_iconst (v := (1)) X dX1_standInLine_68 (by decide) ?_
                refine r_iadd X dX1_standInLine_69 ?_
                refine r_putI X (k := 8) (Lp_N Lpk_82 rfl) Lpk_82 rfl (by decide) ui_1 (by decide) uw2_115 tyX1_ok nmX1 rfl rfl rfl dX1_standInLine_70 ?_
                refine r_nmM h (fun m5 h => ?_)
                refine r_aload_n X dX1_standInLine_73 rfl 0 rfl ?_
                refine r_iconst (v := (0)) X dX1_standInLine_74 (by decide) ?_
                refine r_gz h (fun hz h => ?_)
                refine r_putZ X (k := 13) (Lp_N Lpk_82 rfl) Lpk_82 rfl (by decide) ui_1 (by decide) uw2_122 tyX1_ok nmX1 rfl rfl hz rfl dX1_standInLine_75 ?_
                refine r_nmM h (fun m6 h => ?_)
                exact r_sub [0, 1, 2, 3] rfl (hJ78 k2 hk2 x1 m6 h)
  have hL2 : ∀ (n : Nat), ∀ (x1 : Int32) (m2 : Mm), lop (fun _ _ => none) (f_X1_standInLine_B2 p1 p2 ) n x1 m2 = some mem2 → Jd p l e ({ frames := 0, cells := 0, slots := 0, locals := 0 }) s m args below meth c 4 (MQ below (PsV Lp ad cy dC dI mem2 A) args s 0 0 A) A dC dI cy Lp ad m2 2 [(0, .ref (ad (82))), (1, .int (p1)), (2, .int (p2)), (3, .int (x1))] [] := by
    intro  n
    induction n with
    | zero => intro _ _ h; cases h
    | succ n ih => intro a0 a1 h; exact hJ2  _ ih a0 a1 h
  unfold f_X1_standInLine at h
  refine r_iconst (v := (0)) X dX1_standInLine_0 (by decide) ?_
  refine r_istore_n (lv2 := [(3, .int ((0))), (0, .ref (ad (82))), (1, .int (p1)), (2, .int (p2))]) X dX1_standInLine_1 rfl (by decide) rfl ?_
  exact r_sub [1, 2, 3, 0] rfl (hL2 4000 ((0)) mem h)
noncomputable def f_X1_pass_J139 (h1 : Nat) (p2 : Int32) (k70 : Int32 → Mm → Option Mm) (x26 : Int32) (m27 : Mm) : Option Mm :=
  bdV (f_X1_addJoy  m27) fun m28 => bnd (x26 + (1)) fun x29 => k70 x29 m28
noncomputable def f_X1_pass_J97 (h1 : Nat) (p2 : Int32) (k70 : Int32 → Mm → Option Mm) (x19 : Int32) (x20 : Int32) (m21 : Mm) : Option Mm :=
  bdV (f_X1_standInLine x19 p2 m21) fun m22 => bdV (f_X1_endPlaying x19 x20 m22) fun m23 => bdV (f_X1_leaveLine x19 m23) fun m24 => if ¬ (gI m24 82 9) = ((-1)) then (f_X1_pass_J139 h1 p2 k70 x19 m24) else (if x20 = 0 then (f_X1_pass_J139 h1 p2 k70 x19 m24) else (bdV (f_X1_beginPlaying x19 (h1 + 1) m24) fun m25 => f_X1_pass_J139 h1 p2 k70 x19 m25))
noncomputable def f_X1_pass_J96 (h1 : Nat) (p2 : Int32) (k70 : Int32 → Mm → Option Mm) (x17 : Int32) (m18 : Mm) : Option Mm :=
  f_X1_pass_J97 h1 p2 k70 x17 ((0)) m18
noncomputable def f_X1_pass_B70 (h1 : Nat) (p2 : Int32) (k70 : Int32 → Mm → Option Mm) (x14 : Int32) (m15 : Mm) : Option Mm :=
  if ((60)) ≤ x14 then (bdV (f_X1_endPlaying ((60)) ((0)) m15) fun m16 => some m16) else (if x14 < (gI m15 h1 3) then (f_X1_pass_J96 h1 p2 k70 x14 m15) else (if (gI m15 h1 4) ≤ x14 then (f_X1_pass_J96 h1 p2 k70 x14 m15) else (f_X1_pass_J97 h1 p2 k70 x14 ((1)) m15)))
noncomputable def f_X1_pass_B50 (h1 : Nat) (p2 : Int32) (k50 : Int32 → Mm → Option Mm) (x10 : Int32) (m11 : Mm) : Option Mm :=
  if ((5)) ≤ x10 then (lop (fun _ _ => none) (f_X1_pass_B70 h1 p2 ) 4000 ((0)) m11) else (grd (inb x10 5) (bnd (sI m11 89 x10.toNatClampNeg ((0))) fun m12 => bnd (x10 + (1)) fun x13 => k50 x13 m12))
noncomputable def f_X1_pass_B22 (h1 : Nat) (p2 : Int32) (k22 : Int32 → Mm → Option Mm) (x5 : Int32) (m6 : Mm) : Option Mm :=
  if ((7)) ≤ x5 then (lop (fun _ _ => none) (f_X1_pass_B50 h1 p2 ) 4000 ((0)) m6) else (grd (inb x5 7) (bnd (sI m6 83 x5.toNatClampNeg ((-1))) fun m7 => grd (inb x5 7) (bnd (sI m7 84 x5.toNatClampNeg ((-1))) fun m8 => bnd (x5 + (1)) fun x9 => k22 x9 m8)))
noncomputable def f_X1_pass (h1 : Nat) (p2 : Int32) (mem : Mm) : Option Mm :=
  bnd (sI mem 82 10 ((0))) fun m1 => bnd (sI m1 82 11 ((0))) fun m2 => bnd (sI m2 82 8 ((0))) fun m3 => bnd (sI m3 82 9 ((-1))) fun m4 => lop (fun _ _ => none) (f_X1_pass_B22 h1 p2 ) 4000 ((0)) m4
theorem dd_X1_pass : yX1_pass.cls = RX1 ∧ yX1_pass.cls ≠ "java/lang/invoke/MethodHandle" ∧ yX1_pass.cls ≠ "java/lang/invoke/VarHandle" ∧ (parseMethodDescriptor yX1_pass.desc).map (fun d => d.parameters.length) = some 2 := by decide +kernel
set_option maxHeartbeats 4000000 in
set_option maxRecDepth 100000 in
theorem k_X1_pass {l : Launch} {ad : Nat → Nat} {cy : Nat → ClassId} {dC : Nat → ClassId} {dI : Nat → Nat → Nat} {ks : (Nat → Nat) × (Nat → Nat)} {h1 : Nat} {p2 : Int32} {mem : Mm} {mem2 : Mm} (e1 : Lp.1 h1 = 6) (h : f_X1_pass h1 p2 mem = some mem2) : CtV l Lp ad cy dC dI ks yX1_pass cX1_pass 5 none ({ frames := 4, cells := 0, slots := 0, locals := 88 }) [.ref (ad (82)), .ref (ad (h1)), .int (p2)] mem mem2 := by
  refine CtV.of (cc := cX1_pass) (maxL := 5) (ret := none) (own := RX1) rfl (by decide) (Nat.le_of_ble_eq_true rfl) ?_
  intro p e s m args below meth c A X
  have hts := X.2.2.2.2.1
  have hl88 := X.2.2.2.2.2.2.1 (.fieldLinkNest "StationPiano$DayRun" 88 "StationPiano$State" "from" "I" "StationPiano") (List.mem_of_getElem? (i := 58) rfl)
  have hl93 := X.2.2.2.2.2.2.1 (.fieldLinkNest "StationPiano$DayRun" 93 "StationPiano$State" "to" "I" "StationPiano") (List.mem_of_getElem? (i := 60) rfl)
  have hl108 := X.2.2.2.2.2.2.1 (.fieldLinkNest "StationPiano$DayRun" 108 "StationPiano$State" "wear" "[I" "StationPiano") (List.mem_of_getElem? (i := 54) rfl)
  have hJ139 : ∀ (k70 : Int32 → Mm → Option Mm) (hk70 : ∀ (x14 : Int32) (m15 : Mm), k70 x14 m15 = some mem2 → Jd p l e ({ frames := 4, cells := 0, slots := 0, locals := 88 }) s m args below meth c 5 (MQ below (PsV Lp ad cy dC dI mem2 A) args s 0 0 A) A dC dI cy Lp ad m15 70 [(0, .ref (ad (82))), (1, .ref (ad (h1))), (2, .int (p2)), (3, .int (x14))] []) (x26 : Int32) (m27 : Mm), f_X1_pass_J139 h1 p2 k70 x26 m27 = some mem2 → Jd p l e ({ frames := 4, cells := 0, slots := 0, locals := 88 }) s m args below meth c 5 (MQ below (PsV Lp ad cy dC dI mem2 A) args s 0 0 A) A dC dI cy Lp ad m27 139 [(0, .ref (ad (82))), (1, .ref (ad (h1))), (2, .int (p2)), (3, .int (x26))] [] := by
    intro k70 hk70 x26 m27 h
    unfold f_X1_pass_J139 at h
    refine r_aload_n X dX1_pass_139 rfl 0 rfl ?_
    refine r_cVV (As := []) (rest := []) X (fun m9 hg => k_X1_addJoy hg) h (Lp_N Lpk_82 rfl) Lpk_82 rfl (by decide) uw4_133 uw4_135 us3_1 uw1_11 uw4_136 rfl rfl dd_X1_addJoy ⟨Nat.le_of_ble_eq_true rfl, Nat.le_of_ble_eq_true rfl⟩ rfl (Nat.le_of_ble_eq_true rfl) dX1_pass_140 rfl (fun m28 h => ?_)
    refine r_inc h (fun x29 e9 h => ?_)
    refine r_iinc (v := x29) (lv2 := [(3, .int (x29)), (0, .ref (ad (82))), (1, .ref (ad (h1))), (2, .int (p2))]) X dX1_pass_143 3 rfl (by rw [e9]; rfl) (by decide) rfl ?_
    refine r_goto (tgt := 70) X dX1_pass_146 (by decide) ?_
    exact r_sub [1, 2, 3, 0] rfl (hk70 x29 m28 h)
  have hJ97 : ∀ (k70 : Int32 → Mm → Option Mm) (hk70 : ∀ (x14 : Int32) (m15 : Mm), k70 x14 m15 = some mem2 → Jd p l e ({ frames := 4, cells := 0, slots := 0, locals := 88 }) s m args below meth c 5 (MQ below (PsV Lp ad cy dC dI mem2 A) args s 0 0 A) A dC dI cy Lp ad m15 70 [(0, .ref (ad (82))), (1, .ref (ad (h1))), (2, .int (p2)), (3, .int (x14))] []) (x19 : Int32) (x20 : Int32) (m21 : Mm), f_X1_pass_J97 h1 p2 k70 x19 x20 m21 = some mem2 → Jd p l e ({ frames := 4, cells := 0, slots := 0, locals := 88 }) s m args below meth c 5 (MQ below (PsV Lp ad cy dC dI mem2 A) args s 0 0 A) A dC dI cy Lp ad m21 97 [(0, .ref (ad (82))), (1, .ref (ad (h1))), (2, .int (p2)), (3, .int (x19))] [.int (x20)] := by
    intro k70 hk70 x19 x20 m21 h
    unfold f_X1_pass_J97 at h
    refine r_istore (lv2 := [(4, .int (x20)), (0, .ref (ad (82))), (1, .ref (ad (h1))), (2, .int (p2)), (3, .int (x19))]) X dX1_pass_97 (by decide) rfl ?_
    refine r_aload_n X dX1_pass_99 rfl 1 rfl ?_
    refine r_iload_n X dX1_pass_100 rfl 4 rfl ?_
    refine r_iload_n X dX1_pass_101 rfl 3 rfl ?_
    refine r_cVV (As := [.int (x19), .int (p2)]) (rest := []) X (fun m9 hg => k_X1_standInLine hg) h (Lp_N Lpk_82 rfl) Lpk_82 rfl (by decide) uw4_100 uw4_102 us2_11 uw1_11 uw4_103 rfl rfl dd_X1_standInLine ⟨Nat.le_of_ble_eq_true rfl, Nat.le_of_ble_eq_true rfl⟩ rfl (Nat.le_of_ble_eq_true rfl) dX1_pass_102 rfl (fun m22 h => ?_)
    refine r_aload_n X dX1_pass_105 rfl 1 rfl ?_
    refine r_iload_n X dX1_pass_106 rfl 4 rfl ?_
    refine r_iload X dX1_pass_107 0 rfl ?_
    refine r_cVV (As := [.int (x19), .int (x20)]) (rest := []) X (fun m9 hg => k_X1_endPlaying hg) h (Lp_N Lpk_82 rfl) Lpk_82 rfl (by decide) uw4_104 uw4_106 us2_12 uw1_11 uw4_107 rfl rfl dd_X1_endPlaying ⟨Nat.le_of_ble_eq_true rfl, Nat.le_of_ble_eq_true rfl⟩ rfl (Nat.le_of_ble_eq_true rfl) dX1_pass_109 rfl (fun m23 h => ?_)
    refine r_aload_n X dX1_pass_112 rfl 1 rfl ?_
    refine r_iload_n X dX1_pass_113 rfl 4 rfl ?_
    refine r_cVV (As := [.int (x19)]) (rest := []) X (fun m9 hg => k_X1_leaveLine hg) h (Lp_N Lpk_82 rfl) Lpk_82 rfl (by decide) uw4_108 uw4_110 us2_13 uw1_11 uw4_111 rfl rfl dd_X1_leaveLine ⟨Nat.le_of_ble_eq_true rfl, Nat.le_of_ble_eq_true rfl⟩ rfl (Nat.le_of_ble_eq_true rfl) dX1_pass_114 rfl (fun m24 h => ?_)
    refine r_aload_n X dX1_pass_117 rfl 1 rfl ?_
    refine r_getI X (k := 9) (Lp_N Lpk_82 rfl) Lpk_82 rfl (by decide) ui_1 (by decide) uw2_116 rfl dX1_pass_118 ?_
    refine r_iconst (v := (-1)) X dX1_pass_121 (by decide) ?_
    refine r_icmp_ne (tgt := 139) X dX1_pass_122 (by decide) h (fun h => ?_) (fun h => ?_)
    · exact r_sub [1, 2, 3, 4] rfl (hJ139 k70 hk70 x19 m24 h)
    · refine r_iload X dX1_pass_125 0 rfl ?_
      refine r_if_eq (tgt := 139) X dX1_pass_127 (by decide) h (fun h => ?_) (fun h => ?_)
      · exact r_sub [1, 2, 3, 4] rfl (hJ139 k70 hk70 x19 m24 h)
      · refine r_aload_n X dX1_pass_130 rfl 1 rfl ?_
        refine r_iload_n X dX1_pass_131 rfl 4 rfl ?_
        refine r_aload_n X dX1_pass_132 rfl 2 rfl ?_
        refine r_getFN X (k := 0) (of := 1) rfl (Lp_N e1 rfl) e1 rfl (by decide) ui_6 (by decide) hl108 rfl dX1_pass_133 ?_
        refine r_cVV (As := [.int (x19), .ref (ad (h1 + 1))]) (rest := []) X (fun m9 hg => k_X1_beginPlaying (Lp_6_0 e1) hg) h (Lp_N Lpk_82 rfl) Lpk_82 rfl (by decide) uw4_112 uw4_114 us2_14 uw1_11 uw4_115 rfl rfl dd_X1_beginPlaying ⟨Nat.le_of_ble_eq_true rfl, Nat.le_of_ble_eq_true rfl⟩ rfl (Nat.le_of_ble_eq_true rfl) dX1_pass_136 rfl (fun m25 h => ?_)
        exact r_sub [1, 2, 3, 4] rfl (hJ139 k70 hk70 x19 m25 h)
  have hJ96 : ∀ (k70 : Int32 → Mm → Option Mm) (hk70 : ∀ (x14 : Int32) (m15 : Mm), k70 x14 m15 = some mem2 → Jd p l e ({ frames := 4, cells := 0, slots := 0, locals := 88 }) s m args below meth c 5 (MQ below (PsV Lp ad cy dC dI mem2 A) args s 0 0 A) A dC dI cy Lp ad m15 70 [(0, .ref (ad (82))), (1, .ref (ad (h1))), (2, .int (p2)), (3, .int (x14))] []) (x17 : Int32) (m18 : Mm), f_X1_pass_J96 h1 p2 k70 x17 m18 = some mem2 → Jd p l e ({ frames := 4, cells := 0, slots := 0, locals := 88 }) s m args below meth c 5 (MQ below (PsV Lp ad cy dC dI mem2 A) args s 0 0 A) A dC dI cy Lp ad m18 96 [(0, .ref (ad (82))), (1, .ref (ad (h1))), (2, .int (p2)), (3, .int (x17))] [] := by
    intro k70 hk70 x17 m18 h
    unfold f_X1_pass_J96 at h
    refine r_iconst (v := (0)) X dX1_pass_96 (by decide) ?_
    exact r_sub [0, 1, 2, 3] rfl (hJ97 k70 hk70 x17 ((0)) m18 h)
  have hJ70 : ∀ (k70 : Int32 → Mm → Option Mm) (hk70 : ∀ (x14 : Int32) (m15 : Mm), k70 x14 m15 = some mem2 → Jd p l e ({ frames := 4, cells := 0, slots := 0, locals := 88 }) s m args below meth c 5 (MQ below (PsV Lp ad cy dC dI mem2 A) args s 0 0 A) A dC dI cy Lp ad m15 70 [(0, .ref (ad (82))), (1, .ref (ad (h1))), (2, .int (p2)), (3, .int (x14))] []) (x14 : Int32) (m15 : Mm), f_X1_pass_B70 h1 p2 k70 x14 m15 = some mem2 → Jd p l e ({ frames := 4, cells := 0, slots := 0, locals := 88 }) s m args below meth c 5 (MQ below (PsV Lp ad cy dC dI mem2 A) args s 0 0 A) A dC dI cy Lp ad m15 70 [(0, .ref (ad (82))), (1, .ref (ad (h1))), (2, .int (p2)), (3, .int (x14))] [] := by
    intro k70 hk70 x14 m15 h
    unfold f_X1_pass_B70 at h
    refine r_iload_n X dX1_pass_70 rfl 3 rfl ?_
    refine r_bipush (v := (60)) X dX1_pass_71 (by decide) ?_
    refine r_icmp_ge (tgt := 149) X dX1_pass_73 (by decide) h (fun h => ?_) (fun h => ?_)
    · refine r_aload_n X dX1_pass_149 rfl 0 rfl ?_
      refine r_bipush (v := (60)) X dX1_pass_150 (by decide) ?_
      refine r_iconst (v := (0)) X dX1_pass_152 (by decide) ?_
      refine r_cVV (As := [.int ((60)), .int ((0))]) (rest := []) X (fun m9 hg => k_X1_endPlaying hg) h (Lp_N Lpk_82 rfl) Lpk_82 rfl (by decide) uw4_104 uw4_106 us2_12 uw1_11 uw4_107 rfl rfl dd_X1_endPlaying ⟨Nat.le_of_ble_eq_true rfl, Nat.le_of_ble_eq_true rfl⟩ rfl (Nat.le_of_ble_eq_true rfl) dX1_pass_153 rfl (fun m16 h => ?_)
      exact r_vret X rfl dX1_pass_156 h
    · refine r_aload_n X dX1_pass_76 rfl 1 rfl ?_
      refine r_getIN X (k := 3) (Lp_N e1 rfl) e1 rfl (by decide) ui_6 (by decide) hl88 rfl dX1_pass_77 ?_
      refine r_iload_n X dX1_pass_80 rfl 3 rfl ?_
      refine r_icmp_gt (tgt := 96) X dX1_pass_81 (by decide) h (fun h => ?_) (fun h => ?_)
      · exact r_sub [0, 1, 2, 3] rfl (hJ96 k70 hk70 x14 m15 h)
      · refine r_iload_n X dX1_pass_84 rfl 3 rfl ?_
        refine r_aload_n X dX1_pass_85 rfl 1 rfl ?_
        refine r_getIN X (k := 4) (Lp_N e1 rfl) e1 rfl (by decide) ui_6 (by decide) hl93 rfl dX1_pass_86 ?_
        refine r_icmp_ge (tgt := 96) X dX1_pass_89 (by decide) h (fun h => ?_) (fun h => ?_)
        · exact r_sub [0, 1, 2, 3] rfl (hJ96 k70 hk70 x14 m15 h)
        · refine r_iconst (v := (1)) X dX1_pass_92 (by decide) ?_
          refine r_goto (tgt := 97) X dX1_pass_93 (by decide) ?_
          exact r_sub [0, 1, 2, 3] rfl (hJ97 k70 hk70 x14 ((1)) m15 h)
  have hL70 : ∀ (n : Nat), ∀ (x14 : Int32) (m15 : Mm), lop (fun _ _ => none) (f_X1_pass_B70 h1 p2 ) n x14 m15 = some mem2 → Jd p l e ({ frames := 4, cells := 0, slots := 0, locals := 88 }) s m args below meth c 5 (MQ below (PsV Lp ad cy dC dI mem2 A) args s 0 0 A) A dC dI cy Lp ad m15 70 [(0, .ref (ad (82))), (1, .ref (ad (h1))), (2, .int (p2)), (3, .int (x14))] [] := by
    intro  n
    induction n with
    | zero => intro _ _ h; cases h
    | succ n ih => intro a0 a1 h; exact hJ70  _ ih a0 a1 h
  have hJ50 : ∀ (k50 : Int32 → Mm → Option Mm) (hk50 : ∀ (x10 : Int32) (m11 : Mm), k50 x10 m11 = some mem2 → Jd p l e ({ frames := 4, cells := 0, slots := 0, locals := 88 }) s m args below meth c 5 (MQ below (PsV Lp ad cy dC dI mem2 A) args s 0 0 A) A dC dI cy Lp ad m11 50 [(0, .ref (ad (82))), (1, .ref (ad (h1))), (2, .int (p2)), (3, .int (x10))] []) (x10 : Int32) (m11 : Mm), f_X1_pass_B50 h1 p2 k50 x10 m11 = some mem2 → Jd p l e ({ frames := 4, cells := 0, slots := 0, locals := 88 }) s m args below meth c 5 (MQ below (PsV Lp ad cy dC dI mem2 A) args s 0 0 A) A dC dI cy Lp ad m11 50 [(0, .ref (ad (82))), (1, .ref (ad (h1))), (2, .int (p2)), (3, .int (x10))] [] := by
    intro k50 hk50 x10 m11 h
    unfold f_X1_pass_B50 at h
    refine r_iload_n X dX1_pass_50 rfl 3 rfl ?_
    refine r_iconst (v := (5)) X dX1_pass_51 (by decide) ?_
    refine r_icmp_ge (tgt := 68) X dX1_pass_52 (by decide) h (fun h => ?_) (fun h => ?_)
    · refine r_iconst (v := (0)) X dX1_pass_68 (by decide) ?_
      refine r_istore_n (lv2 := [(3, .int ((0))), (0, .ref (ad (82))), (1, .ref (ad (h1))), (2, .int (p2))]) X dX1_pass_69 rfl (by decide) rfl ?_
      exact r_sub [1, 2, 3, 0] rfl (hL70 4000 ((0)) m11 h)
    · refine r_aload_n X dX1_pass_55 rfl 0 rfl ?_
      refine r_getF X (k := 6) (of := 7) rfl (Lp_N Lpk_82 rfl) Lpk_82 rfl (by decide) ui_1 (by decide) uw2_113 rfl dX1_pass_56 ?_
      refine r_iload_n X dX1_pass_59 rfl 3 rfl ?_
      refine r_iconst (v := (0)) X dX1_pass_60 (by decide) ?_
      refine r_iast X (Lp_N Lpk_89 rfl) Lpk_89 h dX1_pass_61 (fun h => ?_)
      refine r_nmM h (fun m12 h => ?_)
      refine r_inc h (fun x13 e9 h => ?_)
      refine r_iinc (v := x13) (lv2 := [(3, .int (x13)), (0, .ref (ad (82))), (1, .ref (ad (h1))), (2, .int (p2))]) X dX1_pass_62 3 rfl (by rw [e9]; rfl) (by decide) rfl ?_
      refine r_goto (tgt := 50) X dX1_pass_65 (by decide) ?_
      exact r_sub [1, 2, 3, 0] rfl (hk50 x13 m12 h)
  have hL50 : ∀ (n : Nat), ∀ (x10 : Int32) (m11 : Mm), lop (fun _ _ => none) (f_X1_pass_B50 h1 p2 ) n x10 m11 = some mem2 → Jd p l e ({ frames := 4, cells := 0, slots := 0, locals := 88 }) s m args below meth c 5 (MQ below (PsV Lp ad cy dC dI mem2 A) args s 0 0 A) A dC dI cy Lp ad m11 50 [(0, .ref (ad (82))), (1, .ref (ad (h1))), (2, .int (p2)), (3, .int (x10))] [] := by
    intro  n
    induction n with
    | zero => intro _ _ h; cases h
    | succ n ih => intro a0 a1 h; exact hJ50  _ ih a0 a1 h
  have hJ22 : ∀ (k22 : Int32 → Mm → Option Mm) (hk22 : ∀ (x5 : Int32) (m6 : Mm), k22 x5 m6 = some mem2 → Jd p l e ({ frames := 4, cells := 0, slots := 0, locals := 88 }) s m args below meth c 5 (MQ below (PsV Lp ad cy dC dI mem2 A) args s 0 0 A) A dC dI cy Lp ad m6 22 [(0, .ref (ad (82))), (1, .ref (ad (h1))), (2, .int (p2)), (3, .int (x5))] []) (x5 : Int32) (m6 : Mm), f_X1_pass_B22 h1 p2 k22 x5 m6 = some mem2 → Jd p l e ({ frames := 4, cells := 0, slots := 0, locals := 88 }) s m args below meth c 5 (MQ below (PsV Lp ad cy dC dI mem2 A) args s 0 0 A) A dC dI cy Lp ad m6 22 [(0, .ref (ad (82))), (1, .ref (ad (h1))), (2, .int (p2)), (3, .int (x5))] [] := by
    intro k22 hk22 x5 m6 h
    unfold f_X1_pass_B22 at h
    refine r_iload_n X dX1_pass_22 rfl 3 rfl ?_
    refine r_bipush (v := (7)) X dX1_pass_23 (by decide) ?_
    refine r_icmp_ge (tgt := 48) X dX1_pass_25 (by decide) h (fun h => ?_) (fun h => ?_)
    · refine r_iconst (v := (0)) X dX1_pass_48 (by decide) ?_
      refine r_istore_n (lv2 := [(3, .int ((0))), (0, .ref (ad (82))), (1, .ref (ad (h1))), (2, .int (p2))]) X dX1_pass_49 rfl (by decide) rfl ?_
      exact r_sub [1, 2, 3, 0] rfl (hL50 4000 ((0)) m6 h)
    · refine r_aload_n X dX1_pass_28 rfl 0 rfl ?_
      refine r_getF X (k := 0) (of := 1) rfl (Lp_N Lpk_82 rfl) Lpk_82 rfl (by decide) ui_1 (by decide) uw2_104 rfl dX1_pass_29 ?_
      refine r_iload_n X dX1_pass_32 rfl 3 rfl ?_
      refine r_iconst (v := (-1)) X dX1_pass_33 (by decide) ?_
      refine r_iast X (Lp_N Lpk_83 rfl) Lpk_83 h dX1_pass_34 (fun h => ?_)
      refine r_nmM h (fun m7 h => ?_)
      refine r_aload_n X dX1_pass_35 rfl 0 rfl ?_
      refine r_getF X (k := 1) (of := 2) rfl (Lp_N Lpk_82 rfl) Lpk_82 rfl (by decide) ui_1 (by decide) uw2_106 rfl dX1_pass_36 ?_
      refine r_iload_n X dX1_pass_39 rfl 3 rfl ?_
      refine r_iconst (v := (-1)) X dX1_pass_40 (by decide) ?_
      refine r_iast X (Lp_N Lpk_84 rfl) Lpk_84 h dX1_pass_41 (fun h => ?_)
      refine r_nmM h (fun m8 h => ?_)
      refine r_inc h (fun x9 e9 h => ?_)
      refine r_iinc (v := x9) (lv2 := [(3, .int (x9)), (0, .ref (ad (82))), (1, .ref (ad (h1))), (2, .int (p2))]) X dX1_pass_42 3 rfl (by rw [e9]; rfl) (by decide) rfl ?_
      refine r_goto (tgt := 22) X dX1_pass_45 (by decide) ?_
      exact r_sub [1, 2, 3, 0] rfl (hk22 x9 m8 h)
  have hL22 : ∀ (n : Nat), ∀ (x5 : Int32) (m6 : Mm), lop (fun _ _ => none) (f_X1_pass_B22 h1 p2 ) n x5 m6 = some mem2 → Jd p l e ({ frames := 4, cells := 0, slots := 0, locals := 88 }) s m args below meth c 5 (MQ below (PsV Lp ad cy dC dI mem2 A) args s 0 0 A) A dC dI cy Lp ad m6 22 [(0, .ref (ad (82))), (1, .ref (ad (h1))), (2, .int (p2)), (3, .int (x5))] [] := by
    intro  n
    induction n with
    | zero => intro _ _ h; cases h
    | succ n ih => intro a0 a1 h; exact hJ22  _ ih a0 a1 h
  unfold f_X1_pass at h
  refine r_aload_n X dX1_pass_0 rfl 0 rfl ?_
  refine r_iconst (v := (0)) X dX1_pass_1 (by decide) ?_
  refine r_putI X (k := 10) (Lp_N Lpk_82 rfl) Lpk_82 rfl (by decide) ui_1 (by decide) uw2_117 tyX1_ok nmX1 rfl rfl rfl dX1_pass_2 ?_
  refine r_nmM h (fun m1 h => ?_)
  refine r_aload_n X dX1_pass_5 rfl 0 rfl ?_
  refine r_iconst (v := (0)) X dX1_pass_6 (by decide) ?_
  refine r_putI X (k := 11) (Lp_N Lpk_82 rfl) Lpk_82 rfl (by decide) ui_1 (by decide) uw2_119 tyX1_ok nmX1 rfl rfl rfl dX1_pass_7 ?_
  refine r_nmM h (fun m2 h => ?_)
  refine r_aload_n X dX1_pass_10 rfl 0 rfl ?_
  refine r_iconst (v := (0)) X dX1_pass_11 (by decide) ?_
  refine r_putI X (k := 8) (Lp_N Lpk_82 rfl) Lpk_82 rfl (by decide) ui_1 (by decide) uw2_115 tyX1_ok nmX1 rfl rfl rfl dX1_pass_12 ?_
  refine r_nmM h (fun m3 h => ?_)
  refine r_aload_n X dX1_pass_15 rfl 0 rfl ?_
  refine r_iconst (v := (-1)) X dX1_pass_16 (by decide) ?_
  refine r_putI X (k := 9) (Lp_N Lpk_82 rfl) Lpk_82 rfl (by decide) ui_1 (by decide) uw2_116 tyX1_ok nmX1 rfl rfl rfl dX1_pass_17 ?_
  refine r_nmM h (fun m4 h => ?_)
  refine r_iconst (v := (0)) X dX1_pass_20 (by decide) ?_
  refine r_istore_n (lv2 := [(3, .int ((0))), (0, .ref (ad (82))), (1, .ref (ad (h1))), (2, .int (p2))]) X dX1_pass_21 rfl (by decide) rfl ?_
  exact r_sub [1, 2, 3, 0] rfl (hL22 4000 ((0)) m4 h)
