noncomputable def f_X6_tuneUp_J37 (h0 : Nat) (p1 : Int32) (k4 : Int32 → Int32 → Mm → Option (Int32 × Mm)) (x7 : Int32) (x8 : Int32) (m9 : Mm) : Option (Int32 × Mm) :=
  bnd (x8 + (1)) fun x10 => k4 x7 x10 m9
noncomputable def f_X6_tuneUp_B4 (h0 : Nat) (p1 : Int32) (k4 : Int32 → Int32 → Mm → Option (Int32 × Mm)) (x1 : Int32) (x2 : Int32) (m3 : Mm) : Option (Int32 × Mm) :=
  if ((12)) ≤ x2 then (bnd (sI m3 h0 5 ((gI m3 h0 5) + p1)) fun m4 => some (x1, m4)) else (grd (inb x2 (Lp.2.1 (h0 + 1))) (if ((9)) ≤ (gI m3 (h0 + 1) x2.toNatClampNeg) then (f_X6_tuneUp_J37 h0 p1 k4 x1 x2 m3) else (grd (inb x2 (Lp.2.1 (h0 + 1))) (bnd (x1 + (gI m3 (h0 + 1) x2.toNatClampNeg)) fun x5 => grd (inb x2 (Lp.2.1 (h0 + 1))) (bnd (sI m3 (h0 + 1) x2.toNatClampNeg ((0))) fun m6 => f_X6_tuneUp_J37 h0 p1 k4 x5 x2 m6)))))
noncomputable def f_X6_tuneUp (h0 : Nat) (p1 : Int32) (mem : Mm) : Option (Int32 × Mm) :=
  lop (fun _ _ _ => none) (f_X6_tuneUp_B4 h0 p1 ) 4000 ((0)) ((0)) mem
theorem dd_X6_tuneUp : yX6_tuneUp.cls = RX6 ∧ yX6_tuneUp.cls ≠ "java/lang/invoke/MethodHandle" ∧ yX6_tuneUp.cls ≠ "java/lang/invoke/VarHandle" ∧ (parseMethodDescriptor yX6_tuneUp.desc).map (fun d => d.parameters.length) = some 1 := by decide +kernel
set_option maxHeartbeats 4000000 in
set_option maxRecDepth 100000 in
theorem k_X6_tuneUp {l : Launch} {ad : Nat → Nat} {cy : Nat → ClassId} {dC : Nat → ClassId} {dI : Nat → Nat → Nat} {ks : (Nat → Nat) × (Nat → Nat)} {h0 : Nat} {p1 : Int32} {mem : Mm} {r2 : Int32} {mem2 : Mm} (e0 : Lp.1 h0 = 6) (h : f_X6_tuneUp h0 p1 mem = some (r2, mem2)) : CtI l Lp ad cy dC dI ks yX6_tuneUp cX6_tuneUp 4 (some .int) ({ frames := 0, cells := 0, slots := 0, locals := 0 }) [.ref (ad (h0)), .int (p1)] mem r2 mem2 := by
  refine CtI.of (cc := cX6_tuneUp) (maxL := 4) (ret := (some .int)) (own := RX6) rfl (by decide) (Nat.le_of_ble_eq_true rfl) ?_
  intro p e s m args below meth c A X
  have hts := X.2.2.2.2.1
  have hJ37 : ∀ (k4 : Int32 → Int32 → Mm → Option (Int32 × Mm)) (hk4 : ∀ (x1 : Int32) (x2 : Int32) (m3 : Mm), k4 x1 x2 m3 = some (r2, mem2) → Jd p l e ({ frames := 0, cells := 0, slots := 0, locals := 0 }) s m args below meth c 4 (MQ below (PsI Lp ad cy dC dI r2 mem2 A) args s 0 0 A) A dC dI cy Lp ad m3 4 [(0, .ref (ad (h0))), (1, .int (p1)), (2, .int (x1)), (3, .int (x2))] []) (x7 : Int32) (x8 : Int32) (m9 : Mm), f_X6_tuneUp_J37 h0 p1 k4 x7 x8 m9 = some (r2, mem2) → Jd p l e ({ frames := 0, cells := 0, slots := 0, locals := 0 }) s m args below meth c 4 (MQ below (PsI Lp ad cy dC dI r2 mem2 A) args s 0 0 A) A dC dI cy Lp ad m9 37 [(0, .ref (ad (h0))), (1, .int (p1)), (2, .int (x7)), (3, .int (x8))] [] := by
    intro k4 hk4 x7 x8 m9 h
    unfold f_X6_tuneUp_J37 at h
    refine r_inc h (fun x10 e9 h => ?_)
    refine r_iinc (v := x10) (lv2 := [(3, .int (x10)), (0, .ref (ad (h0))), (1, .int (p1)), (2, .int (x7))]) X dX6_tuneUp_37 3 rfl (by rw [e9]; rfl) (by decide) rfl ?_
    refine r_goto (tgt := 4) X dX6_tuneUp_40 (by decide) ?_
    exact r_sub [1, 2, 3, 0] rfl (hk4 x7 x10 m9 h)
  have hJ4 : ∀ (k4 : Int32 → Int32 → Mm → Option (Int32 × Mm)) (hk4 : ∀ (x1 : Int32) (x2 : Int32) (m3 : Mm), k4 x1 x2 m3 = some (r2, mem2) → Jd p l e ({ frames := 0, cells := 0, slots := 0, locals := 0 }) s m args below meth c 4 (MQ below (PsI Lp ad cy dC dI r2 mem2 A) args s 0 0 A) A dC dI cy Lp ad m3 4 [(0, .ref (ad (h0))), (1, .int (p1)), (2, .int (x1)), (3, .int (x2))] []) (x1 : Int32) (x2 : Int32) (m3 : Mm), f_X6_tuneUp_B4 h0 p1 k4 x1 x2 m3 = some (r2, mem2) → Jd p l e ({ frames := 0, cells := 0, slots := 0, locals := 0 }) s m args below meth c 4 (MQ below (PsI Lp ad cy dC dI r2 mem2 A) args s 0 0 A) A dC dI cy Lp ad m3 4 [(0, .ref (ad (h0))), (1, .int (p1)), (2, .int (x1)), (3, .int (x2))] [] := by
    intro k4 hk4 x1 x2 m3 h
    unfold f_X6_tuneUp_B4 at h
    refine r_iload_n X dX6_tuneUp_4 rfl 3 rfl ?_
    refine r_bipush (v := (12)) X dX6_tuneUp_5 (by decide) ?_
    refine r_icmp_ge (tgt := 43) X dX6_tuneUp_7 (by decide) h (fun h => ?_) (fun h => ?_)
    · refine r_aload_n X dX6_tuneUp_43 rfl 0 rfl ?_
      refine r_dup X dX6_tuneUp_44 rfl ?_
      refine r_getI X (k := 5) (Lp_N e0 rfl) e0 rfl (by decide) ui_6 (by decide) uw2_17 rfl dX6_tuneUp_45 ?_
      refine r_iload_n X dX6_tuneUp_48 rfl 1 rfl ?_
      refine r_iadd X dX6_tuneUp_49 ?_
      refine r_putI X (k := 5) (Lp_N e0 rfl) e0 rfl (by decide) ui_6 (by decide) uw2_17 tyX6_ok nmX6 rfl rfl rfl dX6_tuneUp_50 ?_
      refine r_nmM h (fun m4 h => ?_)
      refine r_iload_n X dX6_tuneUp_53 rfl 2 rfl ?_
      exact r_iret2 X rfl dX6_tuneUp_54 h
    · refine r_aload_n X dX6_tuneUp_10 rfl 0 rfl ?_
      refine r_getF X (k := 0) (of := 1) rfl (Lp_N e0 rfl) e0 rfl (by decide) ui_6 (by decide) uw2_4 rfl dX6_tuneUp_11 ?_
      refine r_iload_n X dX6_tuneUp_14 rfl 3 rfl ?_
      refine r_iald X (Lp_N (Lp_6_0 e0) rfl) (Lp_6_0 e0) h dX6_tuneUp_15 (fun h => ?_)
      refine r_bipush (v := (9)) X dX6_tuneUp_16 (by decide) ?_
      refine r_icmp_ge (tgt := 37) X dX6_tuneUp_18 (by decide) h (fun h => ?_) (fun h => ?_)
      · exact r_sub [0, 1, 2, 3] rfl (hJ37 k4 hk4 x1 x2 m3 h)
      · refine r_iload_n X dX6_tuneUp_21 rfl 2 rfl ?_
        refine r_aload_n X dX6_tuneUp_22 rfl 0 rfl ?_
        refine r_getF X (k := 0) (of := 1) rfl (Lp_N e0 rfl) e0 rfl (by decide) ui_6 (by decide) uw2_4 rfl dX6_tuneUp_23 ?_
        refine r_iload_n X dX6_tuneUp_26 rfl 3 rfl ?_
        refine r_iald X (Lp_N (Lp_6_0 e0) rfl) (Lp_6_0 e0) h dX6_tuneUp_27 (fun h => ?_)
        refine r_iadd X dX6_tuneUp_28 ?_
        refine r_nmI h (fun x5 h => ?_)
        refine r_istore_n (lv2 := [(2, .int (x5)), (0, .ref (ad (h0))), (1, .int (p1)), (3, .int (x2))]) X dX6_tuneUp_29 rfl (by decide) rfl ?_
        refine r_aload_n X dX6_tuneUp_30 rfl 1 rfl ?_
        refine r_getF X (k := 0) (of := 1) rfl (Lp_N e0 rfl) e0 rfl (by decide) ui_6 (by decide) uw2_4 rfl dX6_tuneUp_31 ?_
        refine r_iload_n X dX6_tuneUp_34 rfl 3 rfl ?_
        refine r_iconst (v := (0)) X dX6_tuneUp_35 (by decide) ?_
        refine r_iast X (Lp_N (Lp_6_0 e0) rfl) (Lp_6_0 e0) h dX6_tuneUp_36 (fun h => ?_)
        refine r_nmM h (fun m6 h => ?_)
        exact r_sub [1, 2, 0, 3] rfl (hJ37 k4 hk4 x5 x2 m6 h)
  have hL4 : ∀ (n : Nat), ∀ (x1 : Int32) (x2 : Int32) (m3 : Mm), lop (fun _ _ _ => none) (f_X6_tuneUp_B4 h0 p1 ) n x1 x2 m3 = some (r2, mem2) → Jd p l e ({ frames := 0, cells := 0, slots := 0, locals := 0 }) s m args below meth c 4 (MQ below (PsI Lp ad cy dC dI r2 mem2 A) args s 0 0 A) A dC dI cy Lp ad m3 4 [(0, .ref (ad (h0))), (1, .int (p1)), (2, .int (x1)), (3, .int (x2))] [] := by
    intro  n
    induction n with
    | zero => intro _ _ _ h; cases h
    | succ n ih => intro a0 a1 a2 h; exact hJ4  _ ih a0 a1 a2 h
  unfold f_X6_tuneUp at h
  refine r_iconst (v := (0)) X dX6_tuneUp_0 (by decide) ?_
  refine r_istore_n (lv2 := [(2, .int ((0))), (0, .ref (ad (h0))), (1, .int (p1))]) X dX6_tuneUp_1 rfl (by decide) rfl ?_
  refine r_iconst (v := (0)) X dX6_tuneUp_2 (by decide) ?_
  refine r_istore_n (lv2 := [(3, .int ((0))), (2, .int ((0))), (0, .ref (ad (h0))), (1, .int (p1))]) X dX6_tuneUp_3 rfl (by decide) rfl ?_
  exact r_sub [2, 3, 1, 0] rfl (hL4 4000 ((0)) ((0)) mem h)
noncomputable def f_X6_goneKeys_J27 (h0 : Nat) (k4 : Int32 → Int32 → Mm → Option (Int32 × Mm)) (x5 : Int32) (x6 : Int32) (m7 : Mm) : Option (Int32 × Mm) :=
  bnd (x6 + (1)) fun x8 => k4 x5 x8 m7
noncomputable def f_X6_goneKeys_B4 (h0 : Nat) (k4 : Int32 → Int32 → Mm → Option (Int32 × Mm)) (x1 : Int32) (x2 : Int32) (m3 : Mm) : Option (Int32 × Mm) :=
  if ((12)) ≤ x2 then (some (x1, m3)) else (grd (inb x2 (Lp.2.1 (h0 + 1))) (if (gI m3 (h0 + 1) x2.toNatClampNeg) < ((9)) then (f_X6_goneKeys_J27 h0 k4 x1 x2 m3) else (bnd (x1 ||| (((1)) <<< (x2 &&& 31))) fun x4 => f_X6_goneKeys_J27 h0 k4 x4 x2 m3)))
noncomputable def f_X6_goneKeys (h0 : Nat) (mem : Mm) : Option (Int32 × Mm) :=
  lop (fun _ _ _ => none) (f_X6_goneKeys_B4 h0 ) 4000 ((0)) ((0)) mem
theorem dd_X6_goneKeys : yX6_goneKeys.cls = RX6 ∧ yX6_goneKeys.cls ≠ "java/lang/invoke/MethodHandle" ∧ yX6_goneKeys.cls ≠ "java/lang/invoke/VarHandle" ∧ (parseMethodDescriptor yX6_goneKeys.desc).map (fun d => d.parameters.length) = some 0 := by decide +kernel
set_option maxHeartbeats 4000000 in
set_option maxRecDepth 100000 in
theorem k_X6_goneKeys {l : Launch} {ad : Nat → Nat} {cy : Nat → ClassId} {dC : Nat → ClassId} {dI : Nat → Nat → Nat} {ks : (Nat → Nat) × (Nat → Nat)} {h0 : Nat} {mem : Mm} {r2 : Int32} {mem2 : Mm} (e0 : Lp.1 h0 = 6) (h : f_X6_goneKeys h0 mem = some (r2, mem2)) : CtI l Lp ad cy dC dI ks yX6_goneKeys cX6_goneKeys 3 (some .int) ({ frames := 0, cells := 0, slots := 0, locals := 0 }) [.ref (ad (h0))] mem r2 mem2 := by
  refine CtI.of (cc := cX6_goneKeys) (maxL := 3) (ret := (some .int)) (own := RX6) rfl (by decide) (Nat.le_of_ble_eq_true rfl) ?_
  intro p e s m args below meth c A X
  have hts := X.2.2.2.2.1
  have hJ27 : ∀ (k4 : Int32 → Int32 → Mm → Option (Int32 × Mm)) (hk4 : ∀ (x1 : Int32) (x2 : Int32) (m3 : Mm), k4 x1 x2 m3 = some (r2, mem2) → Jd p l e ({ frames := 0, cells := 0, slots := 0, locals := 0 }) s m args below meth c 3 (MQ below (PsI Lp ad cy dC dI r2 mem2 A) args s 0 0 A) A dC dI cy Lp ad m3 4 [(0, .ref (ad (h0))), (1, .int (x1)), (2, .int (x2))] []) (x5 : Int32) (x6 : Int32) (m7 : Mm), f_X6_goneKeys_J27 h0 k4 x5 x6 m7 = some (r2, mem2) → Jd p l e ({ frames := 0, cells := 0, slots := 0, locals := 0 }) s m args below meth c 3 (MQ below (PsI Lp ad cy dC dI r2 mem2 A) args s 0 0 A) A dC dI cy Lp ad m7 27 [(0, .ref (ad (h0))), (1, .int (x5)), (2, .int (x6))] [] := by
    intro k4 hk4 x5 x6 m7 h
    unfold f_X6_goneKeys_J27 at h
    refine r_inc h (fun x8 e9 h => ?_)
    refine r_iinc (v := x8) (lv2 := [(2, .int (x8)), (0, .ref (ad (h0))), (1, .int (x5))]) X dX6_goneKeys_27 2 rfl (by rw [e9]; rfl) (by decide) rfl ?_
    refine r_goto (tgt := 4) X dX6_goneKeys_30 (by decide) ?_
    exact r_sub [1, 2, 0] rfl (hk4 x5 x8 m7 h)
  have hJ4 : ∀ (k4 : Int32 → Int32 → Mm → Option (Int32 × Mm)) (hk4 : ∀ (x1 : Int32) (x2 : Int32) (m3 : Mm), k4 x1 x2 m3 = some (r2, mem2) → Jd p l e ({ frames := 0, cells := 0, slots := 0, locals := 0 }) s m args below meth c 3 (MQ below (PsI Lp ad cy dC dI r2 mem2 A) args s 0 0 A) A dC dI cy Lp ad m3 4 [(0, .ref (ad (h0))), (1, .int (x1)), (2, .int (x2))] []) (x1 : Int32) (x2 : Int32) (m3 : Mm), f_X6_goneKeys_B4 h0 k4 x1 x2 m3 = some (r2, mem2) → Jd p l e ({ frames := 0, cells := 0, slots := 0, locals := 0 }) s m args below meth c 3 (MQ below (PsI Lp ad cy dC dI r2 mem2 A) args s 0 0 A) A dC dI cy Lp ad m3 4 [(0, .ref (ad (h0))), (1, .int (x1)), (2, .int (x2))] [] := by
    intro k4 hk4 x1 x2 m3 h
    unfold f_X6_goneKeys_B4 at h
    refine r_iload_n X dX6_goneKeys_4 rfl 2 rfl ?_
    refine r_bipush (v := (12)) X dX6_goneKeys_5 (by decide) ?_
    refine r_icmp_ge (tgt := 33) X dX6_goneKeys_7 (by decide) h (fun h => ?_) (fun h => ?_)
    · refine r_iload_n X dX6_goneKeys_33 rfl 1 rfl ?_
      exact r_iret2 X rfl dX6_goneKeys_34 h
    · refine r_aload_n X dX6_goneKeys_10 rfl 0 rfl ?_
      refine r_getF X (k := 0) (of := 1) rfl (Lp_N e0 rfl) e0 rfl (by decide) ui_6 (by decide) uw2_4 rfl dX6_goneKeys_11 ?_
      refine r_iload_n X dX6_goneKeys_14 rfl 2 rfl ?_
      refine r_iald X (Lp_N (Lp_6_0 e0) rfl) (Lp_6_0 e0) h dX6_goneKeys_15 (fun h => ?_)
      refine r_bipush (v := (9)) X dX6_goneKeys_16 (by decide) ?_
      refine r_icmp_lt (tgt := 27) X dX6_goneKeys_18 (by decide) h (fun h => ?_) (fun h => ?_)
      · exact r_sub [0, 1, 2] rfl (hJ27 k4 hk4 x1 x2 m3 h)
      · refine r_iload_n X dX6_goneKeys_21 rfl 1 rfl ?_
        refine r_iconst (v := (1)) X dX6_goneKeys_22 (by decide) ?_
        refine r_iload_n X dX6_goneKeys_23 rfl 2 rfl ?_
        refine r_ishl X dX6_goneKeys_24 ?_
        refine r_ior X dX6_goneKeys_25 ?_
        refine r_nmI h (fun x4 h => ?_)
        refine r_istore_n (lv2 := [(1, .int (x4)), (0, .ref (ad (h0))), (2, .int (x2))]) X dX6_goneKeys_26 rfl (by decide) rfl ?_
        exact r_sub [1, 0, 2] rfl (hJ27 k4 hk4 x4 x2 m3 h)
  have hL4 : ∀ (n : Nat), ∀ (x1 : Int32) (x2 : Int32) (m3 : Mm), lop (fun _ _ _ => none) (f_X6_goneKeys_B4 h0 ) n x1 x2 m3 = some (r2, mem2) → Jd p l e ({ frames := 0, cells := 0, slots := 0, locals := 0 }) s m args below meth c 3 (MQ below (PsI Lp ad cy dC dI r2 mem2 A) args s 0 0 A) A dC dI cy Lp ad m3 4 [(0, .ref (ad (h0))), (1, .int (x1)), (2, .int (x2))] [] := by
    intro  n
    induction n with
    | zero => intro _ _ _ h; cases h
    | succ n ih => intro a0 a1 a2 h; exact hJ4  _ ih a0 a1 a2 h
  unfold f_X6_goneKeys at h
  refine r_iconst (v := (0)) X dX6_goneKeys_0 (by decide) ?_
  refine r_istore_n (lv2 := [(1, .int ((0))), (0, .ref (ad (h0)))]) X dX6_goneKeys_1 rfl (by decide) rfl ?_
  refine r_iconst (v := (0)) X dX6_goneKeys_2 (by decide) ?_
  refine r_istore_n (lv2 := [(2, .int ((0))), (1, .int ((0))), (0, .ref (ad (h0)))]) X dX6_goneKeys_3 rfl (by decide) rfl ?_
  exact r_sub [2, 1, 0] rfl (hL4 4000 ((0)) ((0)) mem h)
noncomputable def f_X6_keysAbove_J23 (h0 : Nat) (p1 : Int32) (k4 : Int32 → Int32 → Mm → Option (Int32 × Mm)) (x5 : Int32) (x6 : Int32) (m7 : Mm) : Option (Int32 × Mm) :=
  bnd (x6 + (1)) fun x8 => k4 x5 x8 m7
noncomputable def f_X6_keysAbove_B4 (h0 : Nat) (p1 : Int32) (k4 : Int32 → Int32 → Mm → Option (Int32 × Mm)) (x1 : Int32) (x2 : Int32) (m3 : Mm) : Option (Int32 × Mm) :=
  if ((12)) ≤ x2 then (some (x1, m3)) else (grd (inb x2 (Lp.2.1 (h0 + 1))) (if (gI m3 (h0 + 1) x2.toNatClampNeg) ≤ p1 then (f_X6_keysAbove_J23 h0 p1 k4 x1 x2 m3) else (bnd (x1 + (1)) fun x4 => f_X6_keysAbove_J23 h0 p1 k4 x4 x2 m3)))
noncomputable def f_X6_keysAbove (h0 : Nat) (p1 : Int32) (mem : Mm) : Option (Int32 × Mm) :=
  lop (fun _ _ _ => none) (f_X6_keysAbove_B4 h0 p1 ) 4000 ((0)) ((0)) mem
theorem dd_X6_keysAbove : yX6_keysAbove.cls = RX6 ∧ yX6_keysAbove.cls ≠ "java/lang/invoke/MethodHandle" ∧ yX6_keysAbove.cls ≠ "java/lang/invoke/VarHandle" ∧ (parseMethodDescriptor yX6_keysAbove.desc).map (fun d => d.parameters.length) = some 1 := by decide +kernel
set_option maxHeartbeats 4000000 in
set_option maxRecDepth 100000 in
theorem k_X6_keysAbove {l : Launch} {ad : Nat → Nat} {cy : Nat → ClassId} {dC : Nat → ClassId} {dI : Nat → Nat → Nat} {ks : (Nat → Nat) × (Nat → Nat)} {h0 : Nat} {p1 : Int32} {mem : Mm} {r2 : Int32} {mem2 : Mm} (e0 : Lp.1 h0 = 6) (h : f_X6_keysAbove h0 p1 mem = some (r2, mem2)) : CtI l Lp ad cy dC dI ks yX6_keysAbove cX6_keysAbove 4 (some .int) ({ frames := 0, cells := 0, slots := 0, locals := 0 }) [.ref (ad (h0)), .int (p1)] mem r2 mem2 := by
  refine CtI.of (cc := cX6_keysAbove) (maxL := 4) (ret := (some .int)) (own := RX6) rfl (by decide) (Nat.le_of_ble_eq_true rfl) ?_
  intro p e s m args below meth c A X
  have hts := X.2.2.2.2.1
  have hJ23 : ∀ (k4 : Int32 → Int32 → Mm → Option (Int32 × Mm)) (hk4 : ∀ (x1 : Int32) (x2 : Int32) (m3 : Mm), k4 x1 x2 m3 = some (r2, mem2) → Jd p l e ({ frames := 0, cells := 0, slots := 0, locals := 0 }) s m args below meth c 4 (MQ below (PsI Lp ad cy dC dI r2 mem2 A) args s 0 0 A) A dC dI cy Lp ad m3 4 [(0, .ref (ad (h0))), (1, .int (p1)), (2, .int (x1)), (3, .int (x2))] []) (x5 : Int32) (x6 : Int32) (m7 : Mm), f_X6_keysAbove_J23 h0 p1 k4 x5 x6 m7 = some (r2, mem2) → Jd p l e ({ frames := 0, cells := 0, slots := 0, locals := 0 }) s m args below meth c 4 (MQ below (PsI Lp ad cy dC dI r2 mem2 A) args s 0 0 A) A dC dI cy Lp ad m7 23 [(0, .ref (ad (h0))), (1, .int (p1)), (2, .int (x5)), (3, .int (x6))] [] := by
    intro k4 hk4 x5 x6 m7 h
    unfold f_X6_keysAbove_J23 at h
    refine r_inc h (fun x8 e9 h => ?_)
    refine r_iinc (v := x8) (lv2 := [(3, .int (x8)), (0, .ref (ad (h0))), (1, .int (p1)), (2, .int (x5))]) X dX6_keysAbove_23 3 rfl (by rw [e9]; rfl) (by decide) rfl ?_
    refine r_goto (tgt := 4) X dX6_keysAbove_26 (by decide) ?_
    exact r_sub [1, 2, 3, 0] rfl (hk4 x5 x8 m7 h)
  have hJ4 : ∀ (k4 : Int32 → Int32 → Mm → Option (Int32 × Mm)) (hk4 : ∀ (x1 : Int32) (x2 : Int32) (m3 : Mm), k4 x1 x2 m3 = some (r2, mem2) → Jd p l e ({ frames := 0, cells := 0, slots := 0, locals := 0 }) s m args below meth c 4 (MQ below (PsI Lp ad cy dC dI r2 mem2 A) args s 0 0 A) A dC dI cy Lp ad m3 4 [(0, .ref (ad (h0))), (1, .int (p1)), (2, .int (x1)), (3, .int (x2))] []) (x1 : Int32) (x2 : Int32) (m3 : Mm), f_X6_keysAbove_B4 h0 p1 k4 x1 x2 m3 = some (r2, mem2) → Jd p l e ({ frames := 0, cells := 0, slots := 0, locals := 0 }) s m args below meth c 4 (MQ below (PsI Lp ad cy dC dI r2 mem2 A) args s 0 0 A) A dC dI cy Lp ad m3 4 [(0, .ref (ad (h0))), (1, .int (p1)), (2, .int (x1)), (3, .int (x2))] [] := by
    intro k4 hk4 x1 x2 m3 h
    unfold f_X6_keysAbove_B4 at h
    refine r_iload_n X dX6_keysAbove_4 rfl 3 rfl ?_
    refine r_bipush (v := (12)) X dX6_keysAbove_5 (by decide) ?_
    refine r_icmp_ge (tgt := 29) X dX6_keysAbove_7 (by decide) h (fun h => ?_) (fun h => ?_)
    · refine r_iload_n X dX6_keysAbove_29 rfl 2 rfl ?_
      exact r_iret2 X rfl dX6_keysAbove_30 h
    · refine r_aload_n X dX6_keysAbove_10 rfl 0 rfl ?_
      refine r_getF X (k := 0) (of := 1) rfl (Lp_N e0 rfl) e0 rfl (by decide) ui_6 (by decide) uw2_4 rfl dX6_keysAbove_11 ?_
      refine r_iload_n X dX6_keysAbove_14 rfl 3 rfl ?_
      refine r_iald X (Lp_N (Lp_6_0 e0) rfl) (Lp_6_0 e0) h dX6_keysAbove_15 (fun h => ?_)
      refine r_iload_n X dX6_keysAbove_16 rfl 1 rfl ?_
      refine r_icmp_le (tgt := 23) X dX6_keysAbove_17 (by decide) h (fun h => ?_) (fun h => ?_)
      · exact r_sub [0, 1, 2, 3] rfl (hJ23 k4 hk4 x1 x2 m3 h)
      · refine r_inc h (fun x4 e9 h => ?_)
        refine r_iinc (v := x4) (lv2 := [(2, .int (x4)), (0, .ref (ad (h0))), (1, .int (p1)), (3, .int (x2))]) X dX6_keysAbove_20 2 rfl (by rw [e9]; rfl) (by decide) rfl ?_
        exact r_sub [1, 2, 0, 3] rfl (hJ23 k4 hk4 x4 x2 m3 h)
  have hL4 : ∀ (n : Nat), ∀ (x1 : Int32) (x2 : Int32) (m3 : Mm), lop (fun _ _ _ => none) (f_X6_keysAbove_B4 h0 p1 ) n x1 x2 m3 = some (r2, mem2) → Jd p l e ({ frames := 0, cells := 0, slots := 0, locals := 0 }) s m args below meth c 4 (MQ below (PsI Lp ad cy dC dI r2 mem2 A) args s 0 0 A) A dC dI cy Lp ad m3 4 [(0, .ref (ad (h0))), (1, .int (p1)), (2, .int (x1)), (3, .int (x2))] [] := by
    intro  n
    induction n with
    | zero => intro _ _ _ h; cases h
    | succ n ih => intro a0 a1 a2 h; exact hJ4  _ ih a0 a1 a2 h
  unfold f_X6_keysAbove at h
  refine r_iconst (v := (0)) X dX6_keysAbove_0 (by decide) ?_
  refine r_istore_n (lv2 := [(2, .int ((0))), (0, .ref (ad (h0))), (1, .int (p1))]) X dX6_keysAbove_1 rfl (by decide) rfl ?_
  refine r_iconst (v := (0)) X dX6_keysAbove_2 (by decide) ?_
  refine r_istore_n (lv2 := [(3, .int ((0))), (2, .int ((0))), (0, .ref (ad (h0))), (1, .int (p1))]) X dX6_keysAbove_3 rfl (by decide) rfl ?_
  exact r_sub [2, 3, 1, 0] rfl (hL4 4000 ((0)) ((0)) mem h)
noncomputable def f_X8_playOnNew_J67 (p1 : Int32) (p2 : Int32) (h3 : Nat) (k27 : Int32 → Mm → Option Mm) (x9 : Int32) (m10 : Mm) : Option Mm :=
  bnd (x9 + (1)) fun x11 => k27 x11 m10
noncomputable def f_X8_playOnNew_B27 (p1 : Int32) (p2 : Int32) (h3 : Nat) (k27 : Int32 → Mm → Option Mm) (x5 : Int32) (m6 : Mm) : Option Mm :=
  if p2 ≤ x5 then (some m6) else (if ((7)) ≤ x5 then (some m6) else (if ((p1 >>> (x5 &&& 31)) &&& ((1))) = 0 then (f_X8_playOnNew_J67 p1 p2 h3 k27 x5 m6) else (grd (inb x5 (Lp.2.1 (h3 + 9))) (bnd (h3 + 9 + (7 + 2 * x5.toNatClampNeg)) fun q7 => bdV (f_X1_strikeAll q7 x5 80 m6) fun m8 => f_X8_playOnNew_J67 p1 p2 h3 k27 x5 m8))))
noncomputable def f_X8_playOnNew_B3 (p1 : Int32) (p2 : Int32) (h3 : Nat) (k3 : Int32 → Mm → Option Mm) (x1 : Int32) (m2 : Mm) : Option Mm :=
  if ((12)) ≤ x1 then (lop (fun _ _ => none) (f_X8_playOnNew_B27 p1 p2 h3 ) 4000 ((0)) m2) else (grd (inb x1 12) (bnd (sI m2 80 x1.toNatClampNeg ((0))) fun m3 => bnd (x1 + (1)) fun x4 => k3 x4 m3))
noncomputable def f_X8_playOnNew (p1 : Int32) (p2 : Int32) (h3 : Nat) (mem : Mm) : Option Mm :=
  lop (fun _ _ => none) (f_X8_playOnNew_B3 p1 p2 h3 ) 4000 ((0)) mem
theorem dd_X8_playOnNew : yX8_playOnNew.cls = RX8 ∧ yX8_playOnNew.cls ≠ "java/lang/invoke/MethodHandle" ∧ yX8_playOnNew.cls ≠ "java/lang/invoke/VarHandle" ∧ (parseMethodDescriptor yX8_playOnNew.desc).map (fun d => d.parameters.length) = some 4 := by decide +kernel
set_option maxHeartbeats 4000000 in
set_option maxRecDepth 100000 in
theorem k_X8_playOnNew {l : Launch} {ad : Nat → Nat} {cy : Nat → ClassId} {dC : Nat → ClassId} {dI : Nat → Nat → Nat} {ks : (Nat → Nat) × (Nat → Nat)} {p1 : Int32} {p2 : Int32} {h3 : Nat} {mem : Mm} {mem2 : Mm} (e3 : Lp.1 h3 = 7) (h : f_X8_playOnNew p1 p2 h3 mem = some mem2) : CtV l Lp ad cy dC dI ks yX8_playOnNew cX8_playOnNew 6 none ({ frames := 1, cells := 0, slots := 0, locals := 26 }) [.ref (ad (79)), .int (p1), .int (p2), .ref (ad (h3)), .ref (ad (82))] mem mem2 := by
  refine CtV.of (cc := cX8_playOnNew) (maxL := 6) (ret := none) (own := RX8) rfl (by decide) (Nat.le_of_ble_eq_true rfl) ?_
  intro p e s m args below meth c A X
  have hts := X.2.2.2.2.1
  have hl55 := X.2.2.2.2.2.2.1 (.fieldLinkNest "StationPiano$Suspects" 55 "StationPiano$Station" "passers" "[LStationPiano$Passer;" "StationPiano") (List.mem_of_getElem? (i := 31) rfl)
  have hJ67 : ∀ (k27 : Int32 → Mm → Option Mm) (hk27 : ∀ (x5 : Int32) (m6 : Mm), k27 x5 m6 = some mem2 → Jd p l e ({ frames := 1, cells := 0, slots := 0, locals := 26 }) s m args below meth c 6 (MQ below (PsV Lp ad cy dC dI mem2 A) args s 0 0 A) A dC dI cy Lp ad m6 27 [(0, .ref (ad (79))), (1, .int (p1)), (2, .int (p2)), (3, .ref (ad (h3))), (4, .ref (ad (82))), (5, .int (x5))] []) (x9 : Int32) (m10 : Mm), f_X8_playOnNew_J67 p1 p2 h3 k27 x9 m10 = some mem2 → Jd p l e ({ frames := 1, cells := 0, slots := 0, locals := 26 }) s m args below meth c 6 (MQ below (PsV Lp ad cy dC dI mem2 A) args s 0 0 A) A dC dI cy Lp ad m10 67 [(0, .ref (ad (79))), (1, .int (p1)), (2, .int (p2)), (3, .ref (ad (h3))), (4, .ref (ad (82))), (5, .int (x9))] [] := by
    intro k27 hk27 x9 m10 h
    unfold f_X8_playOnNew_J67 at h
    refine r_inc h (fun x11 e9 h => ?_)
    refine r_iinc (v := x11) (lv2 := [(5, .int (x11)), (0, .ref (ad (79))), (1, .int (p1)), (2, .int (p2)), (3, .ref (ad (h3))), (4, .ref (ad (82)))]) X dX8_playOnNew_67 5 rfl (by rw [e9]; rfl) (by decide) rfl ?_
    refine r_goto (tgt := 27) X dX8_playOnNew_70 (by decide) ?_
    exact r_sub [1, 2, 3, 4, 5, 0] rfl (hk27 x11 m10 h)
  have hJ27 : ∀ (k27 : Int32 → Mm → Option Mm) (hk27 : ∀ (x5 : Int32) (m6 : Mm), k27 x5 m6 = some mem2 → Jd p l e ({ frames := 1, cells := 0, slots := 0, locals := 26 }) s m args below meth c 6 (MQ below (PsV Lp ad cy dC dI mem2 A) args s 0 0 A) A dC dI cy Lp ad m6 27 [(0, .ref (ad (79))), (1, .int (p1)), (2, .int (p2)), (3, .ref (ad (h3))), (4, .ref (ad (82))), (5, .int (x5))] []) (x5 : Int32) (m6 : Mm), f_X8_playOnNew_B27 p1 p2 h3 k27 x5 m6 = some mem2 → Jd p l e ({ frames := 1, cells := 0, slots := 0, locals := 26 }) s m args below meth c 6 (MQ below (PsV Lp ad cy dC dI mem2 A) args s 0 0 A) A dC dI cy Lp ad m6 27 [(0, .ref (ad (79))), (1, .int (p1)), (2, .int (p2)), (3, .ref (ad (h3))), (4, .ref (ad (82))), (5, .int (x5))] [] := by
    intro k27 hk27 x5 m6 h
    unfold f_X8_playOnNew_B27 at h
    refine r_iload X dX8_playOnNew_27 5 rfl ?_
    refine r_iload_n X dX8_playOnNew_29 rfl 2 rfl ?_
    refine r_icmp_ge (tgt := 73) X dX8_playOnNew_30 (by decide) h (fun h => ?_) (fun h => ?_)
    · exact r_vret X rfl dX8_playOnNew_73 h
    · refine r_iload X dX8_playOnNew_33 5 rfl ?_
      refine r_bipush (v := (7)) X dX8_playOnNew_35 (by decide) ?_
      refine r_icmp_ge (tgt := 73) X dX8_playOnNew_37 (by decide) h (fun h => ?_) (fun h => ?_)
      · exact r_vret X rfl dX8_playOnNew_73 h
      · refine r_iload_n X dX8_playOnNew_40 rfl 1 rfl ?_
        refine r_iload X dX8_playOnNew_41 5 rfl ?_
        refine r_ishr X dX8_playOnNew_43 ?_
        refine r_iconst (v := (1)) X dX8_playOnNew_44 (by decide) ?_
        refine r_iand X dX8_playOnNew_45 ?_
        refine r_if_eq (tgt := 67) X dX8_playOnNew_46 (by decide) h (fun h => ?_) (fun h => ?_)
        · exact r_sub [0, 1, 2, 3, 4, 5] rfl (hJ67 k27 hk27 x5 m6 h)
        · refine r_aload X dX8_playOnNew_49 4 rfl ?_
          refine r_aload_n X dX8_playOnNew_51 rfl 3 rfl ?_
          refine r_getFN X (k := 3) (of := 9) rfl (Lp_N e3 rfl) e3 rfl (by decide) ui_7 (by decide) hl55 rfl dX8_playOnNew_52 ?_
          refine r_iload X dX8_playOnNew_55 5 rfl ?_
          refine r_ald18 X (Lp_N (Lp_7_3 e3) rfl) (Lp_7_3 e3) (Lp_e18 (Lp_7_3 e3)) rfl h dX8_playOnNew_57 (fun q7 eq7 h => ?_)
          refine r_iload X dX8_playOnNew_58 5 rfl ?_
          refine r_aload_n X dX8_playOnNew_60 rfl 0 rfl ?_
          refine r_getF X (k := 0) (of := 1) rfl (Lp_N Lpk_79 rfl) Lpk_79 rfl (by decide) ui_8 (by decide) uw2_79 rfl dX8_playOnNew_61 ?_
          refine r_cVV (As := [.ref (ad (q7)), .int (x5), .ref (ad (80))]) (rest := []) X (fun m9 hg => k_X1_strikeAll eq7 Lpk_80 hg) h (Lp_N Lpk_82 rfl) Lpk_82 rfl (by decide) uw5_3 uw4_126 uw4_127 uw1_11 uw4_128 rfl rfl dd_X1_strikeAll ⟨Nat.le_of_ble_eq_true rfl, Nat.le_of_ble_eq_true rfl⟩ rfl (Nat.le_of_ble_eq_true rfl) dX8_playOnNew_64 rfl (fun m8 h => ?_)
          exact r_sub [0, 1, 2, 3, 4, 5] rfl (hJ67 k27 hk27 x5 m8 h)
  have hL27 : ∀ (n : Nat), ∀ (x5 : Int32) (m6 : Mm), lop (fun _ _ => none) (f_X8_playOnNew_B27 p1 p2 h3 ) n x5 m6 = some mem2 → Jd p l e ({ frames := 1, cells := 0, slots := 0, locals := 26 }) s m args below meth c 6 (MQ below (PsV Lp ad cy dC dI mem2 A) args s 0 0 A) A dC dI cy Lp ad m6 27 [(0, .ref (ad (79))), (1, .int (p1)), (2, .int (p2)), (3, .ref (ad (h3))), (4, .ref (ad (82))), (5, .int (x5))] [] := by
    intro  n
    induction n with
    | zero => intro _ _ h; cases h
    | succ n ih => intro a0 a1 h; exact hJ27  _ ih a0 a1 h
  have hJ3 : ∀ (k3 : Int32 → Mm → Option Mm) (hk3 : ∀ (x1 : Int32) (m2 : Mm), k3 x1 m2 = some mem2 → Jd p l e ({ frames := 1, cells := 0, slots := 0, locals := 26 }) s m args below meth c 6 (MQ below (PsV Lp ad cy dC dI mem2 A) args s 0 0 A) A dC dI cy Lp ad m2 3 [(0, .ref (ad (79))), (1, .int (p1)), (2, .int (p2)), (3, .ref (ad (h3))), (4, .ref (ad (82))), (5, .int (x1))] []) (x1 : Int32) (m2 : Mm), f_X8_playOnNew_B3 p1 p2 h3 k3 x1 m2 = some mem2 → Jd p l e ({ frames := 1, cells := 0, slots := 0, locals := 26 }) s m args below meth c 6 (MQ below (PsV Lp ad cy dC dI mem2 A) args s 0 0 A) A dC dI cy Lp ad m2 3 [(0, .ref (ad (79))), (1, .int (p1)), (2, .int (p2)), (3, .ref (ad (h3))), (4, .ref (ad (82))), (5, .int (x1))] [] := by
    intro k3 hk3 x1 m2 h
    unfold f_X8_playOnNew_B3 at h
    refine r_iload X dX8_playOnNew_3 5 rfl ?_
    refine r_bipush (v := (12)) X dX8_playOnNew_5 (by decide) ?_
    refine r_icmp_ge (tgt := 24) X dX8_playOnNew_7 (by decide) h (fun h => ?_) (fun h => ?_)
    · refine r_iconst (v := (0)) X dX8_playOnNew_24 (by decide) ?_
      refine r_istore (lv2 := [(5, .int ((0))), (0, .ref (ad (79))), (1, .int (p1)), (2, .int (p2)), (3, .ref (ad (h3))), (4, .ref (ad (82)))]) X dX8_playOnNew_25 (by decide) rfl ?_
      exact r_sub [1, 2, 3, 4, 5, 0] rfl (hL27 4000 ((0)) m2 h)
    · refine r_aload_n X dX8_playOnNew_10 rfl 0 rfl ?_
      refine r_getF X (k := 0) (of := 1) rfl (Lp_N Lpk_79 rfl) Lpk_79 rfl (by decide) ui_8 (by decide) uw2_79 rfl dX8_playOnNew_11 ?_
      refine r_iload X dX8_playOnNew_14 5 rfl ?_
      refine r_iconst (v := (0)) X dX8_playOnNew_16 (by decide) ?_
      refine r_iast X (Lp_N Lpk_80 rfl) Lpk_80 h dX8_playOnNew_17 (fun h => ?_)
      refine r_nmM h (fun m3 h => ?_)
      refine r_inc h (fun x4 e9 h => ?_)
      refine r_iinc (v := x4) (lv2 := [(5, .int (x4)), (0, .ref (ad (79))), (1, .int (p1)), (2, .int (p2)), (3, .ref (ad (h3))), (4, .ref (ad (82)))]) X dX8_playOnNew_18 5 rfl (by rw [e9]; rfl) (by decide) rfl ?_
      refine r_goto (tgt := 3) X dX8_playOnNew_21 (by decide) ?_
      exact r_sub [1, 2, 3, 4, 5, 0] rfl (hk3 x4 m3 h)
  have hL3 : ∀ (n : Nat), ∀ (x1 : Int32) (m2 : Mm), lop (fun _ _ => none) (f_X8_playOnNew_B3 p1 p2 h3 ) n x1 m2 = some mem2 → Jd p l e ({ frames := 1, cells := 0, slots := 0, locals := 26 }) s m args below meth c 6 (MQ below (PsV Lp ad cy dC dI mem2 A) args s 0 0 A) A dC dI cy Lp ad m2 3 [(0, .ref (ad (79))), (1, .int (p1)), (2, .int (p2)), (3, .ref (ad (h3))), (4, .ref (ad (82))), (5, .int (x1))] [] := by
    intro  n
    induction n with
    | zero => intro _ _ h; cases h
    | succ n ih => intro a0 a1 h; exact hJ3  _ ih a0 a1 h
  unfold f_X8_playOnNew at h
  refine r_iconst (v := (0)) X dX8_playOnNew_0 (by decide) ?_
  refine r_istore (lv2 := [(5, .int ((0))), (0, .ref (ad (79))), (1, .int (p1)), (2, .int (p2)), (3, .ref (ad (h3))), (4, .ref (ad (82)))]) X dX8_playOnNew_1 (by decide) rfl ?_
  exact r_sub [1, 2, 3, 4, 5, 0] rfl (hL3 4000 ((0)) mem h)
noncomputable def f_X8_tallyWear_J40 (k2 : Int32 → Mm → Option Mm) (x5 : Int32) (m6 : Mm) : Option Mm :=
  bnd (x5 + (1)) fun x7 => k2 x7 m6
noncomputable def f_X8_tallyWear_B2 (k2 : Int32 → Mm → Option Mm) (x1 : Int32) (m2 : Mm) : Option Mm :=
  if ((12)) ≤ x1 then (some m2) else (grd (inb x1 12) (bnd ((x1 * ((10))) + (gI m2 80 x1.toNatClampNeg)) fun x3 => if x3 < 0 then (f_X8_tallyWear_J40 k2 x1 m2) else (if ((120)) ≤ x3 then (f_X8_tallyWear_J40 k2 x1 m2) else (grd (inb x3 120) (grd (inb x3 120) (bnd (sI m2 81 x3.toNatClampNeg ((gI m2 81 x3.toNatClampNeg) + ((1)))) fun m4 => f_X8_tallyWear_J40 k2 x1 m4))))))
noncomputable def f_X8_tallyWear  (mem : Mm) : Option Mm :=
  lop (fun _ _ => none) (f_X8_tallyWear_B2 ) 4000 ((0)) mem
theorem dd_X8_tallyWear : yX8_tallyWear.cls = RX8 ∧ yX8_tallyWear.cls ≠ "java/lang/invoke/MethodHandle" ∧ yX8_tallyWear.cls ≠ "java/lang/invoke/VarHandle" ∧ (parseMethodDescriptor yX8_tallyWear.desc).map (fun d => d.parameters.length) = some 0 := by decide +kernel
set_option maxHeartbeats 4000000 in
set_option maxRecDepth 100000 in
theorem k_X8_tallyWear {l : Launch} {ad : Nat → Nat} {cy : Nat → ClassId} {dC : Nat → ClassId} {dI : Nat → Nat → Nat} {ks : (Nat → Nat) × (Nat → Nat)}  {mem : Mm} {mem2 : Mm}  (h : f_X8_tallyWear  mem = some mem2) : CtV l Lp ad cy dC dI ks yX8_tallyWear cX8_tallyWear 3 none ({ frames := 0, cells := 0, slots := 0, locals := 0 }) [.ref (ad (79))] mem mem2 := by
  refine CtV.of (cc := cX8_tallyWear) (maxL := 3) (ret := none) (own := RX8) rfl (by decide) (Nat.le_of_ble_eq_true rfl) ?_
  intro p e s m args below meth c A X
  have hts := X.2.2.2.2.1
  have hJ40 : ∀ (k2 : Int32 → Mm → Option Mm) (hk2 : ∀ (x1 : Int32) (m2 : Mm), k2 x1 m2 = some mem2 → Jd p l e ({ frames := 0, cells := 0, slots := 0, locals := 0 }) s m args below meth c 3 (MQ below (PsV Lp ad cy dC dI mem2 A) args s 0 0 A) A dC dI cy Lp ad m2 2 [(0, .ref (ad (79))), (1, .int (x1))] []) (x5 : Int32) (m6 : Mm), f_X8_tallyWear_J40 k2 x5 m6 = some mem2 → Jd p l e ({ frames := 0, cells := 0, slots := 0, locals := 0 }) s m args below meth c 3 (MQ below (PsV Lp ad cy dC dI mem2 A) args s 0 0 A) A dC dI cy Lp ad m6 40 [(0, .ref (ad (79))), (1, .int (x5))] [] := by
    intro k2 hk2 x5 m6 h
    unfold f_X8_tallyWear_J40 at h
    refine r_inc h (fun x7 e9 h => ?_)
    refine r_iinc (v := x7) (lv2 := [(1, .int (x7)), (0, .ref (ad (79)))]) X dX8_tallyWear_40 1 rfl (by rw [e9]; rfl) (by decide) rfl ?_
    refine r_goto (tgt := 2) X dX8_tallyWear_43 (by decide) ?_
    exact r_sub [1, 0] rfl (hk2 x7 m6 h)
  have hJ2 : ∀ (k2 : Int32 → Mm → Option Mm) (hk2 : ∀ (x1 : Int32) (m2 : Mm), k2 x1 m2 = some mem2 → Jd p l e ({ frames := 0, cells := 0, slots := 0, locals := 0 }) s m args below meth c 3 (MQ below (PsV Lp ad cy dC dI mem2 A) args s 0 0 A) A dC dI cy Lp ad m2 2 [(0, .ref (ad (79))), (1, .int (x1))] []) (x1 : Int32) (m2 : Mm), f_X8_tallyWear_B2 k2 x1 m2 = some mem2 → Jd p l e ({ frames := 0, cells := 0, slots := 0, locals := 0 }) s m args below meth c 3 (MQ below (PsV Lp ad cy dC dI mem2 A) args s 0 0 A) A dC dI cy Lp ad m2 2 [(0, .ref (ad (79))), (1, .int (x1))] [] := by
    intro k2 hk2 x1 m2 h
    unfold f_X8_tallyWear_B2 at h
    refine r_iload_n X dX8_tallyWear_2 rfl 1 rfl ?_
    refine r_bipush (v := (12)) X dX8_tallyWear_3 (by decide) ?_
    refine r_icmp_ge (tgt := 46) X dX8_tallyWear_5 (by decide) h (fun h => ?_) (fun h => ?_)
    · exact r_vret X rfl dX8_tallyWear_46 h
    · refine r_iload_n X dX8_tallyWear_8 rfl 1 rfl ?_
      refine r_bipush (v := (10)) X dX8_tallyWear_9 (by decide) ?_
      refine r_imul X dX8_tallyWear_11 ?_
      refine r_aload_n X dX8_tallyWear_12 rfl 0 rfl ?_
      refine r_getF X (k := 0) (of := 1) rfl (Lp_N Lpk_79 rfl) Lpk_79 rfl (by decide) ui_8 (by decide) uw2_79 rfl dX8_tallyWear_13 ?_
      refine r_iload_n X dX8_tallyWear_16 rfl 1 rfl ?_
      refine r_iald X (Lp_N Lpk_80 rfl) Lpk_80 h dX8_tallyWear_17 (fun h => ?_)
      refine r_iadd X dX8_tallyWear_18 ?_
      refine r_nmI h (fun x3 h => ?_)
      refine r_istore_n (lv2 := [(2, .int (x3)), (0, .ref (ad (79))), (1, .int (x1))]) X dX8_tallyWear_19 rfl (by decide) rfl ?_
      refine r_iload_n X dX8_tallyWear_20 rfl 0 rfl ?_
      refine r_if_lt (tgt := 40) X dX8_tallyWear_21 (by decide) h (fun h => ?_) (fun h => ?_)
      · exact r_sub [1, 2] rfl (hJ40 k2 hk2 x1 m2 h)
      · refine r_iload_n X dX8_tallyWear_24 rfl 0 rfl ?_
        refine r_bipush (v := (120)) X dX8_tallyWear_25 (by decide) ?_
        refine r_icmp_ge (tgt := 40) X dX8_tallyWear_27 (by decide) h (fun h => ?_) (fun h => ?_)
        · exact r_sub [1, 2] rfl (hJ40 k2 hk2 x1 m2 h)
        · refine r_aload_n X dX8_tallyWear_30 rfl 1 rfl ?_
          refine r_getF X (k := 1) (of := 2) rfl (Lp_N Lpk_79 rfl) Lpk_79 rfl (by decide) ui_8 (by decide) uw2_80 rfl dX8_tallyWear_31 ?_
          refine r_iload_n X dX8_tallyWear_34 rfl 0 rfl ?_
          refine r_dup2 X dX8_tallyWear_35 rfl rfl ?_
          refine r_iald X (Lp_N Lpk_81 rfl) Lpk_81 h dX8_tallyWear_36 (fun h => ?_)
          refine r_iconst (v := (1)) X dX8_tallyWear_37 (by decide) ?_
          refine r_iadd X dX8_tallyWear_38 ?_
          refine r_iast X (Lp_N Lpk_81 rfl) Lpk_81 h dX8_tallyWear_39 (fun h => ?_)
          refine r_nmM h (fun m4 h => ?_)
          exact r_sub [1, 2] rfl (hJ40 k2 hk2 x1 m4 h)
  have hL2 : ∀ (n : Nat), ∀ (x1 : Int32) (m2 : Mm), lop (fun _ _ => none) (f_X8_tallyWear_B2 ) n x1 m2 = some mem2 → Jd p l e ({ frames := 0, cells := 0, slots := 0, locals := 0 }) s m args below meth c 3 (MQ below (PsV Lp ad cy dC dI mem2 A) args s 0 0 A) A dC dI cy Lp ad m2 2 [(0, .ref (ad (79))), (1, .int (x1))] [] := by
    intro  n
    induction n with
    | zero => intro _ _ h; cases h
    | succ n ih => intro a0 a1 h; exact hJ2  _ ih a0 a1 h
  unfold f_X8_tallyWear at h
  refine r_iconst (v := (0)) X dX8_tallyWear_0 (by decide) ?_
  refine r_istore_n (lv2 := [(1, .int ((0))), (0, .ref (ad (79)))]) X dX8_tallyWear_1 rfl (by decide) rfl ?_
  exact r_sub [1, 0] rfl (hL2 4000 ((0)) mem h)
noncomputable def f_X8_search_J130 (h1 : Nat) (h3 : Nat) (k66 : Int32 → Int32 → Int32 → Mm → Option Mm) (x24 : Int32) (x25 : Int32) (x26 : Int32) (m27 : Mm) : Option Mm :=
  bnd (x26 + (1)) fun x28 => k66 x24 x25 x28 m27
noncomputable def f_X8_search_B66 (h1 : Nat) (h3 : Nat) (k66 : Int32 → Int32 → Int32 → Mm → Option Mm) (x13 : Int32) (x14 : Int32) (x15 : Int32) (m16 : Mm) : Option Mm :=
  if x14 ≤ x15 then (some m16) else (bdV (f_X8_playOnNew x15 x13 h1 m16) fun m17 => bdI (f_X0_allSo h3 80 m17) fun x19 m18 => if x19 = 0 then (f_X8_search_J130 h1 h3 k66 x13 x14 x15 m18) else (bnd (sI m18 79 2 ((gI m18 79 2) + ((1)))) fun m20 => bnd (sI m20 79 3 ((gI m20 79 3) &&& x15)) fun m21 => bnd (sI m21 79 4 ((gI m21 79 4) ||| x15)) fun m22 => bdV (f_X8_tallyWear  m22) fun m23 => f_X8_search_J130 h1 h3 k66 x13 x14 x15 m23))
noncomputable def f_X8_search_B42 (h1 : Nat) (h3 : Nat) (k42 : Int32 → Int32 → Int32 → Mm → Option Mm) (x7 : Int32) (x8 : Int32) (x9 : Int32) (m10 : Mm) : Option Mm :=
  if ((120)) ≤ x9 then (lop (fun _ _ _ _ => none) (f_X8_search_B66 h1 h3 ) 4000 x7 x8 ((0)) m10) else (grd (inb x9 120) (bnd (sI m10 81 x9.toNatClampNeg ((0))) fun m11 => bnd (x9 + (1)) fun x12 => k42 x7 x8 x12 m11))
noncomputable def f_X8_search (h1 : Nat) (h3 : Nat) (mem : Mm) : Option Mm :=
  bnd (if gI mem h1 7 < (7) then gI mem h1 7 else (7)) fun x1 => bnd (if (0) < x1 then x1 else (0)) fun x2 => bnd (((1)) <<< (x2 &&& 31)) fun x3 => bnd (sI mem 79 2 ((0))) fun m4 => bnd (sI m4 79 3 (x3 - ((1)))) fun m5 => bnd (sI m5 79 4 ((0))) fun m6 => lop (fun _ _ _ _ => none) (f_X8_search_B42 h1 h3 ) 4000 x2 x3 ((0)) m6
theorem dd_X8_search : yX8_search.cls = RX8 ∧ yX8_search.cls ≠ "java/lang/invoke/MethodHandle" ∧ yX8_search.cls ≠ "java/lang/invoke/VarHandle" ∧ (parseMethodDescriptor yX8_search.desc).map (fun d => d.parameters.length) = some 3 := by decide +kernel
set_option maxHeartbeats 4000000 in
set_option maxRecDepth 100000 in
theorem k_X8_search {l : Launch} {ad : Nat → Nat} {cy : Nat → ClassId} {dC : Nat → ClassId} {dI : Nat → Nat → Nat} {ks : (Nat → Nat) × (Nat → Nat)} {h1 : Nat} {h3 : Nat} {mem : Mm} {mem2 : Mm} (e1 : Lp.1 h1 = 7) (e3 : Lp.1 h3 = 0) (h : f_X8_search h1 h3 mem = some mem2) : CtV l Lp ad cy dC dI ks yX8_search cX8_search 7 none ({ frames := 2, cells := 0, slots := 0, locals := 51 }) [.ref (ad (79)), .ref (ad (h1)), .ref (ad (82)), .ref (ad (h3))] mem mem2 := by
  refine CtV.of (cc := cX8_search) (maxL := 7) (ret := none) (own := RX8) rfl (by decide) (Nat.le_of_ble_eq_true rfl) ?_
  intro p e s m args below meth c A X
  have hts := X.2.2.2.2.1
  have hl18 := X.2.2.2.2.2.2.1 (.fieldLinkNest "StationPiano$Suspects" 18 "StationPiano$Station" "passerCount" "I" "StationPiano") (List.mem_of_getElem? (i := 38) rfl)
  have hJ130 : ∀ (k66 : Int32 → Int32 → Int32 → Mm → Option Mm) (hk66 : ∀ (x13 : Int32) (x14 : Int32) (x15 : Int32) (m16 : Mm), k66 x13 x14 x15 m16 = some mem2 → Jd p l e ({ frames := 2, cells := 0, slots := 0, locals := 51 }) s m args below meth c 7 (MQ below (PsV Lp ad cy dC dI mem2 A) args s 0 0 A) A dC dI cy Lp ad m16 66 [(0, .ref (ad (79))), (1, .ref (ad (h1))), (2, .ref (ad (82))), (3, .ref (ad (h3))), (4, .int (x13)), (5, .int (x14)), (6, .int (x15))] []) (x24 : Int32) (x25 : Int32) (x26 : Int32) (m27 : Mm), f_X8_search_J130 h1 h3 k66 x24 x25 x26 m27 = some mem2 → Jd p l e ({ frames := 2, cells := 0, slots := 0, locals := 51 }) s m args below meth c 7 (MQ below (PsV Lp ad cy dC dI mem2 A) args s 0 0 A) A dC dI cy Lp ad m27 130 [(0, .ref (ad (79))), (1, .ref (ad (h1))), (2, .ref (ad (82))), (3, .ref (ad (h3))), (4, .int (x24)), (5, .int (x25)), (6, .int (x26))] [] := by
    intro k66 hk66 x24 x25 x26 m27 h
    unfold f_X8_search_J130 at h
    refine r_inc h (fun x28 e9 h => ?_)
    refine r_iinc (v := x28) (lv2 := [(6, .int (x28)), (0, .ref (ad (79))), (1, .ref (ad (h1))), (2, .ref (ad (82))), (3, .ref (ad (h3))), (4, .int (x24)), (5, .int (x25))]) X dX8_search_130 6 rfl (by rw [e9]; rfl) (by decide) rfl ?_
    refine r_goto (tgt := 66) X dX8_search_133 (by decide) ?_
    exact r_sub [1, 2, 3, 4, 5, 6, 0] rfl (hk66 x24 x25 x28 m27 h)
  have hJ66 : ∀ (k66 : Int32 → Int32 → Int32 → Mm → Option Mm) (hk66 : ∀ (x13 : Int32) (x14 : Int32) (x15 : Int32) (m16 : Mm), k66 x13 x14 x15 m16 = some mem2 → Jd p l e ({ frames := 2, cells := 0, slots := 0, locals := 51 }) s m args below meth c 7 (MQ below (PsV Lp ad cy dC dI mem2 A) args s 0 0 A) A dC dI cy Lp ad m16 66 [(0, .ref (ad (79))), (1, .ref (ad (h1))), (2, .ref (ad (82))), (3, .ref (ad (h3))), (4, .int (x13)), (5, .int (x14)), (6, .int (x15))] []) (x13 : Int32) (x14 : Int32) (x15 : Int32) (m16 : Mm), f_X8_search_B66 h1 h3 k66 x13 x14 x15 m16 = some mem2 → Jd p l e ({ frames := 2, cells := 0, slots := 0, locals := 51 }) s m args below meth c 7 (MQ below (PsV Lp ad cy dC dI mem2 A) args s 0 0 A) A dC dI cy Lp ad m16 66 [(0, .ref (ad (79))), (1, .ref (ad (h1))), (2, .ref (ad (82))), (3, .ref (ad (h3))), (4, .int (x13)), (5, .int (x14)), (6, .int (x15))] [] := by
    intro k66 hk66 x13 x14 x15 m16 h
    unfold f_X8_search_B66 at h
    refine r_iload X dX8_search_66 6 rfl ?_
    refine r_iload X dX8_search_68 5 rfl ?_
    refine r_icmp_ge (tgt := 136) X dX8_search_70 (by decide) h (fun h => ?_) (fun h => ?_)
    · exact r_vret X rfl dX8_search_136 h
    · refine r_aload_n X dX8_search_73 rfl 0 rfl ?_
      refine r_iload X dX8_search_74 6 rfl ?_
      refine r_iload X dX8_search_76 4 rfl ?_
      refine r_aload_n X dX8_search_78 rfl 1 rfl ?_
      refine r_aload_n X dX8_search_79 rfl 2 rfl ?_
      refine r_cVV (As := [.int (x15), .int (x13), .ref (ad (h1)), .ref (ad (82))]) (rest := []) X (fun m9 hg => k_X8_playOnNew e1 hg) h (Lp_N Lpk_79 rfl) Lpk_79 rfl (by decide) uw4_239 uw5_1 us3_3 uw1_10 uw5_2 rfl rfl dd_X8_playOnNew ⟨Nat.le_of_ble_eq_true rfl, Nat.le_of_ble_eq_true rfl⟩ rfl (Nat.le_of_ble_eq_true rfl) dX8_search_80 rfl (fun m17 h => ?_)
      refine r_aload_n X dX8_search_83 rfl 3 rfl ?_
      refine r_aload_n X dX8_search_84 rfl 0 rfl ?_
      refine r_getF X (k := 0) (of := 1) rfl (Lp_N Lpk_79 rfl) Lpk_79 rfl (by decide) ui_8 (by decide) uw2_79 rfl dX8_search_85 ?_
      refine r_cVI (As := [.ref (ad (80))]) (rest := []) X (fun r9 m9 hg => k_X0_allSo e3 Lpk_80 hg) h (Lp_N e3 rfl) e3 rfl (by decide) uw5_4 uw5_5 uw5_6 uw1_9 uw5_7 rfl rfl dd_X0_allSo ⟨Nat.le_of_ble_eq_true rfl, Nat.le_of_ble_eq_true rfl⟩ rfl (Nat.le_of_ble_eq_true rfl) dX8_search_88 rfl (fun x19 m18 h => ?_)
      refine r_if_eq (tgt := 130) X dX8_search_91 (by decide) h (fun h => ?_) (fun h => ?_)
      · exact r_sub [0, 1, 2, 3, 4, 5, 6] rfl (hJ130 k66 hk66 x13 x14 x15 m18 h)
      · refine r_aload_n X dX8_search_94 rfl 0 rfl ?_
        refine r_dup X dX8_search_95 rfl ?_
        refine r_getI X (k := 2) (Lp_N Lpk_79 rfl) Lpk_79 rfl (by decide) ui_8 (by decide) uw2_81 rfl dX8_search_96 ?_
        refine r_iconst (v := (1)) X dX8_search_99 (by decide) ?_
        refine r_iadd X dX8_search_100 ?_
        refine r_putI X (k := 2) (Lp_N Lpk_79 rfl) Lpk_79 rfl (by decide) ui_8 (by decide) uw2_81 tyX8_ok nmX8 rfl rfl rfl dX8_search_101 ?_
        refine r_nmM h (fun m20 h => ?_)
        refine r_aload_n X dX8_search_104 rfl 0 rfl ?_
        refine r_dup X dX8_search_105 rfl ?_
        refine r_getI X (k := 3) (Lp_N Lpk_79 rfl) Lpk_79 rfl (by decide) ui_8 (by decide) uw2_83 rfl dX8_search_106 ?_
        refine r_iload X dX8_search_109 6 rfl ?_
        refine r_iand X dX8_search_111 ?_
        refine r_putI X (k := 3) (Lp_N Lpk_79 rfl) Lpk_79 rfl (by decide) ui_8 (by decide) uw2_83 tyX8_ok nmX8 rfl rfl rfl dX8_search_112 ?_
        refine r_nmM h (fun m21 h => ?_)
        refine r_aload_n X dX8_search_115 rfl 0 rfl ?_
        refine r_dup X dX8_search_116 rfl ?_
        refine r_getI X (k := 4) (Lp_N Lpk_79 rfl) Lpk_79 rfl (by decide) ui_8 (by decide) uw2_85 rfl dX8_search_117 ?_
        refine r_iload X dX8_search_120 6 rfl ?_
        refine r_ior X dX8_search_122 ?_
        refine r_putI X (k := 4) (Lp_N Lpk_79 rfl) Lpk_79 rfl (by decide) ui_8 (by decide) uw2_85 tyX8_ok nmX8 rfl rfl rfl dX8_search_123 ?_
        refine r_nmM h (fun m22 h => ?_)
        refine r_aload_n X dX8_search_126 rfl 0 rfl ?_
        refine r_cVV (As := []) (rest := []) X (fun m9 hg => k_X8_tallyWear hg) h (Lp_N Lpk_79 rfl) Lpk_79 rfl (by decide) uw5_8 uw5_10 us3_4 uw1_10 uw5_11 rfl rfl dd_X8_tallyWear ⟨Nat.le_of_ble_eq_true rfl, Nat.le_of_ble_eq_true rfl⟩ rfl (Nat.le_of_ble_eq_true rfl) dX8_search_127 rfl (fun m23 h => ?_)
        exact r_sub [0, 1, 2, 3, 4, 5, 6] rfl (hJ130 k66 hk66 x13 x14 x15 m23 h)
  have hL66 : ∀ (n : Nat), ∀ (x13 : Int32) (x14 : Int32) (x15 : Int32) (m16 : Mm), lop (fun _ _ _ _ => none) (f_X8_search_B66 h1 h3 ) n x13 x14 x15 m16 = some mem2 → Jd p l e ({ frames := 2, cells := 0, slots := 0, locals := 51 }) s m args below meth c 7 (MQ below (PsV Lp ad cy dC dI mem2 A) args s 0 0 A) A dC dI cy Lp ad m16 66 [(0, .ref (ad (79))), (1, .ref (ad (h1))), (2, .ref (ad (82))), (3, .ref (ad (h3))), (4, .int (x13)), (5, .int (x14)), (6, .int (x15))] [] := by
    intro  n
    induction n with
    | zero => intro _ _ _ _ h; cases h
    | succ n ih => intro a0 a1 a2 a3 h; exact hJ66  _ ih a0 a1 a2 a3 h
  have hJ42 : ∀ (k42 : Int32 → Int32 → Int32 → Mm → Option Mm) (hk42 : ∀ (x7 : Int32) (x8 : Int32) (x9 : Int32) (m10 : Mm), k42 x7 x8 x9 m10 = some mem2 → Jd p l e ({ frames := 2, cells := 0, slots := 0, locals := 51 }) s m args below meth c 7 (MQ below (PsV Lp ad cy dC dI mem2 A) args s 0 0 A) A dC dI cy Lp ad m10 42 [(0, .ref (ad (79))), (1, .ref (ad (h1))), (2, .ref (ad (82))), (3, .ref (ad (h3))), (4, .int (x7)), (5, .int (x8)), (6, .int (x9))] []) (x7 : Int32) (x8 : Int32) (x9 : Int32) (m10 : Mm), f_X8_search_B42 h1 h3 k42 x7 x8 x9 m10 = some mem2 → Jd p l e ({ frames := 2, cells := 0, slots := 0, locals := 51 }) s m args below meth c 7 (MQ below (PsV Lp ad cy dC dI mem2 A) args s 0 0 A) A dC dI cy Lp ad m10 42 [(0, .ref (ad (79))), (1, .ref (ad (h1))), (2, .ref (ad (82))), (3, .ref (ad (h3))), (4, .int (x7)), (5, .int (x8)), (6, .int (x9))] [] := by
    intro k42 hk42 x7 x8 x9 m10 h
    unfold f_X8_search_B42 at h
    refine r_iload X dX8_search_42 6 rfl ?_
    refine r_bipush (v := (120)) X dX8_search_44 (by decide) ?_
    refine r_icmp_ge (tgt := 63) X dX8_search_46 (by decide) h (fun h => ?_) (fun h => ?_)
    · refine r_iconst (v := (0)) X dX8_search_63 (by decide) ?_
      refine r_istore (lv2 := [(6, .int ((0))), (0, .ref (ad (79))), (1, .ref (ad (h1))), (2, .ref (ad (82))), (3, .ref (ad (h3))), (4, .int (x7)), (5, .int (x8))]) X dX8_search_64 (by decide) rfl ?_
      exact r_sub [1, 2, 3, 4, 5, 6, 0] rfl (hL66 4000 x7 x8 ((0)) m10 h)
    · refine r_aload_n X dX8_search_49 rfl 0 rfl ?_
      refine r_getF X (k := 1) (of := 2) rfl (Lp_N Lpk_79 rfl) Lpk_79 rfl (by decide) ui_8 (by decide) uw2_80 rfl dX8_search_50 ?_
      refine r_iload X dX8_search_53 6 rfl ?_
      refine r_iconst (v := (0)) X dX8_search_55 (by decide) ?_
      refine r_iast X (Lp_N Lpk_81 rfl) Lpk_81 h dX8_search_56 (fun h => ?_)
      refine r_nmM h (fun m11 h => ?_)
      refine r_inc h (fun x12 e9 h => ?_)
      refine r_iinc (v := x12) (lv2 := [(6, .int (x12)), (0, .ref (ad (79))), (1, .ref (ad (h1))), (2, .ref (ad (82))), (3, .ref (ad (h3))), (4, .int (x7)), (5, .int (x8))]) X dX8_search_57 6 rfl (by rw [e9]; rfl) (by decide) rfl ?_
      refine r_goto (tgt := 42) X dX8_search_60 (by decide) ?_
      exact r_sub [1, 2, 3, 4, 5, 6, 0] rfl (hk42 x7 x8 x12 m11 h)
  have hL42 : ∀ (n : Nat), ∀ (x7 : Int32) (x8 : Int32) (x9 : Int32) (m10 : Mm), lop (fun _ _ _ _ => none) (f_X8_search_B42 h1 h3 ) n x7 x8 x9 m10 = some mem2 → Jd p l e ({ frames := 2, cells := 0, slots := 0, locals := 51 }) s m args below meth c 7 (MQ below (PsV Lp ad cy dC dI mem2 A) args s 0 0 A) A dC dI cy Lp ad m10 42 [(0, .ref (ad (79))), (1, .ref (ad (h1))), (2, .ref (ad (82))), (3, .ref (ad (h3))), (4, .int (x7)), (5, .int (x8)), (6, .int (x9))] [] := by
    intro  n
    induction n with
    | zero => intro _ _ _ _ h; cases h
    | succ n ih => intro a0 a1 a2 a3 h; exact hJ42  _ ih a0 a1 a2 a3 h
  unfold f_X8_search at h
  refine r_iconst (v := (0)) X dX8_search_0 (by decide) ?_
  refine r_bipush (v := (7)) X dX8_search_1 (by decide) ?_
  refine r_aload_n X dX8_search_3 rfl 1 rfl ?_
  refine r_getIN X (k := 7) (Lp_N e1 rfl) e1 rfl (by decide) ui_7 (by decide) hl18 rfl dX8_search_4 ?_
  refine r_mmin X uw4_237 uw3_104 uw1_18 uw3_105 (Nat.le_of_ble_eq_true rfl) (Nat.le_of_ble_eq_true rfl) dX8_search_7 ?_
  refine r_nmI h (fun x1 h => ?_)
  refine r_mmax X uw4_238 uw3_101 uw1_18 uw3_102 (Nat.le_of_ble_eq_true rfl) (Nat.le_of_ble_eq_true rfl) dX8_search_10 ?_
  refine r_nmI h (fun x2 h => ?_)
  refine r_istore (lv2 := [(4, .int (x2)), (0, .ref (ad (79))), (1, .ref (ad (h1))), (2, .ref (ad (82))), (3, .ref (ad (h3)))]) X dX8_search_13 (by decide) rfl ?_
  refine r_iconst (v := (1)) X dX8_search_15 (by decide) ?_
  refine r_iload X dX8_search_16 0 rfl ?_
  refine r_ishl X dX8_search_18 ?_
  refine r_nmI h (fun x3 h => ?_)
  refine r_istore (lv2 := [(5, .int (x3)), (4, .int (x2)), (0, .ref (ad (79))), (1, .ref (ad (h1))), (2, .ref (ad (82))), (3, .ref (ad (h3)))]) X dX8_search_19 (by decide) rfl ?_
  refine r_aload_n X dX8_search_21 rfl 2 rfl ?_
  refine r_iconst (v := (0)) X dX8_search_22 (by decide) ?_
  refine r_putI X (k := 2) (Lp_N Lpk_79 rfl) Lpk_79 rfl (by decide) ui_8 (by decide) uw2_81 tyX8_ok nmX8 rfl rfl rfl dX8_search_23 ?_
  refine r_nmM h (fun m4 h => ?_)
  refine r_aload_n X dX8_search_26 rfl 2 rfl ?_
  refine r_iload X dX8_search_27 0 rfl ?_
  refine r_iconst (v := (1)) X dX8_search_29 (by decide) ?_
  refine r_isub X dX8_search_30 ?_
  refine r_putI X (k := 3) (Lp_N Lpk_79 rfl) Lpk_79 rfl (by decide) ui_8 (by decide) uw2_83 tyX8_ok nmX8 rfl rfl rfl dX8_search_31 ?_
  refine r_nmM h (fun m5 h => ?_)
  refine r_aload_n X dX8_search_34 rfl 2 rfl ?_
  refine r_iconst (v := (0)) X dX8_search_35 (by decide) ?_
  refine r_putI X (k := 4) (Lp_N Lpk_79 rfl) Lpk_79 rfl (by decide) ui_8 (by decide) uw2_85 tyX8_ok nmX8 rfl rfl rfl dX8_search_36 ?_
  refine r_nmM h (fun m6 h => ?_)
  refine r_iconst (v := (0)) X dX8_search_39 (by decide) ?_
  refine r_istore (lv2 := [(6, .int ((0))), (5, .int (x3)), (4, .int (x2)), (0, .ref (ad (79))), (1, .ref (ad (h1))), (2, .ref (ad (82))), (3, .ref (ad (h3)))]) X dX8_search_40 (by decide) rfl ?_
  exact r_sub [3, 4, 5, 6, 2, 1, 0] rfl (hL42 4000 x2 x3 ((0)) m6 h)
noncomputable def f_X8_mostAlike_J42 (p1 : Int32) (k4 : Int32 → Int32 → Mm → Option (Int32 × Mm)) (x6 : Int32) (x7 : Int32) (m8 : Mm) : Option (Int32 × Mm) :=
  bnd (x7 + (1)) fun x9 => k4 x6 x9 m8
noncomputable def f_X8_mostAlike_B4 (p1 : Int32) (k4 : Int32 → Int32 → Mm → Option (Int32 × Mm)) (x1 : Int32) (x2 : Int32) (m3 : Mm) : Option (Int32 × Mm) :=
  if ((10)) ≤ x2 then (some (x1, m3)) else (bnd ((p1 * ((10))) + x2) fun x4 => if x4 < 0 then (f_X8_mostAlike_J42 p1 k4 x1 x2 m3) else (if ((120)) ≤ x4 then (f_X8_mostAlike_J42 p1 k4 x1 x2 m3) else (grd (inb x4 120) (bnd (if x1 < gI m3 81 x4.toNatClampNeg then gI m3 81 x4.toNatClampNeg else x1) fun x5 => f_X8_mostAlike_J42 p1 k4 x5 x2 m3))))
noncomputable def f_X8_mostAlike (p1 : Int32) (mem : Mm) : Option (Int32 × Mm) :=
  lop (fun _ _ _ => none) (f_X8_mostAlike_B4 p1 ) 4000 ((0)) ((0)) mem
theorem dd_X8_mostAlike : yX8_mostAlike.cls = RX8 ∧ yX8_mostAlike.cls ≠ "java/lang/invoke/MethodHandle" ∧ yX8_mostAlike.cls ≠ "java/lang/invoke/VarHandle" ∧ (parseMethodDescriptor yX8_mostAlike.desc).map (fun d => d.parameters.length) = some 1 := by decide +kernel
set_option maxHeartbeats 4000000 in
set_option maxRecDepth 100000 in
theorem k_X8_mostAlike {l : Launch} {ad : Nat → Nat} {cy : Nat → ClassId} {dC : Nat → ClassId} {dI : Nat → Nat → Nat} {ks : (Nat → Nat) × (Nat → Nat)} {p1 : Int32} {mem : Mm} {r2 : Int32} {mem2 : Mm}  (h : f_X8_mostAlike p1 mem = some (r2, mem2)) : CtI l Lp ad cy dC dI ks yX8_mostAlike cX8_mostAlike 5 (some .int) ({ frames := 1, cells := 0, slots := 0, locals := 21 }) [.ref (ad (79)), .int (p1)] mem r2 mem2 := by
  refine CtI.of (cc := cX8_mostAlike) (maxL := 5) (ret := (some .int)) (own := RX8) rfl (by decide) (Nat.le_of_ble_eq_true rfl) ?_
  intro p e s m args below meth c A X
  have hts := X.2.2.2.2.1
  have hJ42 : ∀ (k4 : Int32 → Int32 → Mm → Option (Int32 × Mm)) (hk4 : ∀ (x1 : Int32) (x2 : Int32) (m3 : Mm), k4 x1 x2 m3 = some (r2, mem2) → Jd p l e ({ frames := 1, cells := 0, slots := 0, locals := 21 }) s m args below meth c 5 (MQ below (PsI Lp ad cy dC dI r2 mem2 A) args s 0 0 A) A dC dI cy Lp ad m3 4 [(0, .ref (ad (79))), (1, .int (p1)), (2, .int (x1)), (3, .int (x2))] []) (x6 : Int32) (x7 : Int32) (m8 : Mm), f_X8_mostAlike_J42 p1 k4 x6 x7 m8 = some (r2, mem2) → Jd p l e ({ frames := 1, cells := 0, slots := 0, locals := 21 }) s m args below meth c 5 (MQ below (PsI Lp ad cy dC dI r2 mem2 A) args s 0 0 A) A dC dI cy Lp ad m8 42 [(0, .ref (ad (79))), (1, .int (p1)), (2, .int (x6)), (3, .int (x7))] [] := by
    intro k4 hk4 x6 x7 m8 h
    unfold f_X8_mostAlike_J42 at h
    refine r_inc h (fun x9 e9 h => ?_)
    refine r_iinc (v := x9) (lv2 := [(3, .int (x9)), (0, .ref (ad (79))), (1, .int (p1)), (2, .int (x6))]) X dX8_mostAlike_42 3 rfl (by rw [e9]; rfl) (by decide) rfl ?_
    refine r_goto (tgt := 4) X dX8_mostAlike_45 (by decide) ?_
    exact r_sub [1, 2, 3, 0] rfl (hk4 x6 x9 m8 h)
  have hJ4 : ∀ (k4 : Int32 → Int32 → Mm → Option (Int32 × Mm)) (hk4 : ∀ (x1 : Int32) (x2 : Int32) (m3 : Mm), k4 x1 x2 m3 = some (r2, mem2) → Jd p l e ({ frames := 1, cells := 0, slots := 0, locals := 21 }) s m args below meth c 5 (MQ below (PsI Lp ad cy dC dI r2 mem2 A) args s 0 0 A) A dC dI cy Lp ad m3 4 [(0, .ref (ad (79))), (1, .int (p1)), (2, .int (x1)), (3, .int (x2))] []) (x1 : Int32) (x2 : Int32) (m3 : Mm), f_X8_mostAlike_B4 p1 k4 x1 x2 m3 = some (r2, mem2) → Jd p l e ({ frames := 1, cells := 0, slots := 0, locals := 21 }) s m args below meth c 5 (MQ below (PsI Lp ad cy dC dI r2 mem2 A) args s 0 0 A) A dC dI cy Lp ad m3 4 [(0, .ref (ad (79))), (1, .int (p1)), (2, .int (x1)), (3, .int (x2))] [] := by
    intro k4 hk4 x1 x2 m3 h
    unfold f_X8_mostAlike_B4 at h
    refine r_iload_n X dX8_mostAlike_4 rfl 3 rfl ?_
    refine r_bipush (v := (10)) X dX8_mostAlike_5 (by decide) ?_
    refine r_icmp_ge (tgt := 48) X dX8_mostAlike_7 (by decide) h (fun h => ?_) (fun h => ?_)
    · refine r_iload_n X dX8_mostAlike_48 rfl 2 rfl ?_
      exact r_iret2 X rfl dX8_mostAlike_49 h
    · refine r_iload_n X dX8_mostAlike_10 rfl 1 rfl ?_
      refine r_bipush (v := (10)) X dX8_mostAlike_11 (by decide) ?_
      refine r_imul X dX8_mostAlike_13 ?_
      refine r_iload_n X dX8_mostAlike_14 rfl 3 rfl ?_
      refine r_iadd X dX8_mostAlike_15 ?_
      refine r_nmI h (fun x4 h => ?_)
      refine r_istore (lv2 := [(4, .int (x4)), (0, .ref (ad (79))), (1, .int (p1)), (2, .int (x1)), (3, .int (x2))]) X dX8_mostAlike_16 (by decide) rfl ?_
      refine r_iload X dX8_mostAlike_18 0 rfl ?_
      refine r_if_lt (tgt := 42) X dX8_mostAlike_20 (by decide) h (fun h => ?_) (fun h => ?_)
      · exact r_sub [1, 2, 3, 4] rfl (hJ42 k4 hk4 x1 x2 m3 h)
      · refine r_iload X dX8_mostAlike_23 0 rfl ?_
        refine r_bipush (v := (120)) X dX8_mostAlike_25 (by decide) ?_
        refine r_icmp_ge (tgt := 42) X dX8_mostAlike_27 (by decide) h (fun h => ?_) (fun h => ?_)
        · exact r_sub [1, 2, 3, 4] rfl (hJ42 k4 hk4 x1 x2 m3 h)
        · refine r_iload_n X dX8_mostAlike_30 rfl 3 rfl ?_
          refine r_aload_n X dX8_mostAlike_31 rfl 1 rfl ?_
          refine r_getF X (k := 1) (of := 2) rfl (Lp_N Lpk_79 rfl) Lpk_79 rfl (by decide) ui_8 (by decide) uw2_80 rfl dX8_mostAlike_32 ?_
          refine r_iload X dX8_mostAlike_35 0 rfl ?_
          refine r_iald X (Lp_N Lpk_81 rfl) Lpk_81 h dX8_mostAlike_37 (fun h => ?_)
          refine r_mmax X uw4_238 uw3_101 uw1_18 uw3_102 (Nat.le_of_ble_eq_true rfl) (Nat.le_of_ble_eq_true rfl) dX8_mostAlike_38 ?_
          refine r_nmI h (fun x5 h => ?_)
          refine r_istore_n (lv2 := [(2, .int (x5)), (4, .int (x4)), (0, .ref (ad (79))), (1, .int (p1)), (3, .int (x2))]) X dX8_mostAlike_41 rfl (by decide) rfl ?_
          exact r_sub [2, 3, 0, 4] rfl (hJ42 k4 hk4 x5 x2 m3 h)
  have hL4 : ∀ (n : Nat), ∀ (x1 : Int32) (x2 : Int32) (m3 : Mm), lop (fun _ _ _ => none) (f_X8_mostAlike_B4 p1 ) n x1 x2 m3 = some (r2, mem2) → Jd p l e ({ frames := 1, cells := 0, slots := 0, locals := 21 }) s m args below meth c 5 (MQ below (PsI Lp ad cy dC dI r2 mem2 A) args s 0 0 A) A dC dI cy Lp ad m3 4 [(0, .ref (ad (79))), (1, .int (p1)), (2, .int (x1)), (3, .int (x2))] [] := by
    intro  n
    induction n with
    | zero => intro _ _ _ h; cases h
    | succ n ih => intro a0 a1 a2 h; exact hJ4  _ ih a0 a1 a2 h
  unfold f_X8_mostAlike at h
  refine r_iconst (v := (0)) X dX8_mostAlike_0 (by decide) ?_
  refine r_istore_n (lv2 := [(2, .int ((0))), (0, .ref (ad (79))), (1, .int (p1))]) X dX8_mostAlike_1 rfl (by decide) rfl ?_
  refine r_iconst (v := (0)) X dX8_mostAlike_2 (by decide) ?_
  refine r_istore_n (lv2 := [(3, .int ((0))), (2, .int ((0))), (0, .ref (ad (79))), (1, .int (p1))]) X dX8_mostAlike_3 rfl (by decide) rfl ?_
  exact r_sub [2, 3, 1, 0] rfl (hL4 4000 ((0)) ((0)) mem h)
noncomputable def f_X9_add_J35 (p1 : Int32) (m1 : Mm) : Option Mm :=
  grd (inb (gI m1 1 1) 1000) (bnd (sI m1 2 (gI m1 1 1).toNatClampNeg (vp_nar .byte (p1.toInt8.toInt32))) fun m2 => bnd (sI m2 1 1 ((gI m2 1 1) + ((1)))) fun m3 => some m3)
noncomputable def f_X9_add (p1 : Int32) (mem : Mm) : Option Mm :=
  if (gI mem 1 1) < 0 then (some mem) else (if ((1000)) ≤ (gI mem 1 1) then (some mem) else (if p1 = ((10)) then (f_X9_add_J35 p1 mem) else (if p1 < ((32)) then (some mem) else (if ((126)) < p1 then (some mem) else (f_X9_add_J35 p1 mem)))))
theorem dd_X9_add : yX9_add.cls = RX9 ∧ yX9_add.cls ≠ "java/lang/invoke/MethodHandle" ∧ yX9_add.cls ≠ "java/lang/invoke/VarHandle" ∧ (parseMethodDescriptor yX9_add.desc).map (fun d => d.parameters.length) = some 1 := by decide +kernel
set_option maxHeartbeats 4000000 in
set_option maxRecDepth 100000 in
theorem k_X9_add {l : Launch} {ad : Nat → Nat} {cy : Nat → ClassId} {dC : Nat → ClassId} {dI : Nat → Nat → Nat} {ks : (Nat → Nat) × (Nat → Nat)} {p1 : Int32} {mem : Mm} {mem2 : Mm}  (h : f_X9_add p1 mem = some mem2) : CtV l Lp ad cy dC dI ks yX9_add cX9_add 2 none ({ frames := 0, cells := 0, slots := 0, locals := 0 }) [.ref (ad (1)), .int (p1)] mem mem2 := by
  refine CtV.of (cc := cX9_add) (maxL := 2) (ret := none) (own := RX9) rfl (by decide) (Nat.le_of_ble_eq_true rfl) ?_
  intro p e s m args below meth c A X
  have hts := X.2.2.2.2.1
  have hJ35 : ∀ (m1 : Mm), f_X9_add_J35 p1 m1 = some mem2 → Jd p l e ({ frames := 0, cells := 0, slots := 0, locals := 0 }) s m args below meth c 2 (MQ below (PsV Lp ad cy dC dI mem2 A) args s 0 0 A) A dC dI cy Lp ad m1 35 [(0, .ref (ad (1))), (1, .int (p1))] [] := by
    intro m1 h
    unfold f_X9_add_J35 at h
    refine r_aload_n X dX9_add_35 rfl 0 rfl ?_
    refine r_getF X (k := 0) (of := 1) rfl (Lp_N Lpk_1 rfl) Lpk_1 rfl (by decide) ui_9 (by decide) uw1_39 rfl dX9_add_36 ?_
    refine r_aload_n X dX9_add_39 rfl 0 rfl ?_
    refine r_getI X (k := 1) (Lp_N Lpk_1 rfl) Lpk_1 rfl (by decide) ui_9 (by decide) uw1_40 rfl dX9_add_40 ?_
    refine r_iload_n X dX9_add_43 rfl 1 rfl ?_
    refine r_i2b X dX9_add_44 ?_
    refine r_bast X (Lp_N Lpk_2 rfl) Lpk_2 h dX9_add_45 (fun h => ?_)
    refine r_nmM h (fun m2 h => ?_)
    refine r_aload_n X dX9_add_46 rfl 0 rfl ?_
    refine r_dup X dX9_add_47 rfl ?_
    refine r_getI X (k := 1) (Lp_N Lpk_1 rfl) Lpk_1 rfl (by decide) ui_9 (by decide) uw1_40 rfl dX9_add_48 ?_
    refine r_iconst (v := (1)) X dX9_add_51 (by decide) ?_
    refine r_iadd X dX9_add_52 ?_
    refine r_putI X (k := 1) (Lp_N Lpk_1 rfl) Lpk_1 rfl (by decide) ui_9 (by decide) uw1_40 tyX9_ok nmX9 rfl rfl rfl dX9_add_53 ?_
    refine r_nmM h (fun m3 h => ?_)
    exact r_vret X rfl dX9_add_56 h
  unfold f_X9_add at h
  refine r_aload_n X dX9_add_0 rfl 0 rfl ?_
  refine r_getI X (k := 1) (Lp_N Lpk_1 rfl) Lpk_1 rfl (by decide) ui_9 (by decide) uw1_40 rfl dX9_add_1 ?_
  refine r_if_lt (tgt := 56) X dX9_add_4 (by decide) h (fun h => ?_) (fun h => ?_)
  · exact r_vret X rfl dX9_add_56 h
  · refine r_aload_n X dX9_add_7 rfl 0 rfl ?_
    refine r_getI X (k := 1) (Lp_N Lpk_1 rfl) Lpk_1 rfl (by decide) ui_9 (by decide) uw1_40 rfl dX9_add_8 ?_
    refine r_sipush (v := (1000)) X dX9_add_11 (by decide) ?_
    refine r_icmp_ge (tgt := 56) X dX9_add_14 (by decide) h (fun h => ?_) (fun h => ?_)
    · exact r_vret X rfl dX9_add_56 h
    · refine r_iload_n X dX9_add_17 rfl 1 rfl ?_
      refine r_bipush (v := (10)) X dX9_add_18 (by decide) ?_
      refine r_icmp_eq (tgt := 35) X dX9_add_20 (by decide) h (fun h => ?_) (fun h => ?_)
      · exact r_sub [0, 1] rfl (hJ35 mem h)
      · refine r_iload_n X dX9_add_23 rfl 1 rfl ?_
        refine r_bipush (v := (32)) X dX9_add_24 (by decide) ?_
        refine r_icmp_lt (tgt := 56) X dX9_add_26 (by decide) h (fun h => ?_) (fun h => ?_)
        · exact r_vret X rfl dX9_add_56 h
        · refine r_iload_n X dX9_add_29 rfl 1 rfl ?_
          refine r_bipush (v := (126)) X dX9_add_30 (by decide) ?_
          refine r_icmp_gt (tgt := 56) X dX9_add_32 (by decide) h (fun h => ?_) (fun h => ?_)
          · exact r_vret X rfl dX9_add_56 h
          · exact r_sub [0, 1] rfl (hJ35 mem h)
noncomputable def f_X11_feedBytes_B3 (p1 : Int64) (k3 : Int32 → Mm → Option Mm) (x1 : Int32) (m2 : Mm) : Option Mm :=
  if x1 < 0 then (some m2) else (bdV (f_X9_add ((((p1.toUInt64 >>> (x1.toInt64.toUInt64 &&& Int64.toUInt64 63)).toInt64).toInt32) &&& ((255))) m2) fun m3 => bnd (x1 + (-8)) fun x4 => k3 x4 m3)
noncomputable def f_X11_feedBytes (p1 : Int64) (mem : Mm) : Option Mm :=
  lop (fun _ _ => none) (f_X11_feedBytes_B3 p1 ) 4000 ((56)) mem
theorem dd_X11_feedBytes : yX11_feedBytes.cls = RX11 ∧ yX11_feedBytes.cls ≠ "java/lang/invoke/MethodHandle" ∧ yX11_feedBytes.cls ≠ "java/lang/invoke/VarHandle" ∧ (parseMethodDescriptor yX11_feedBytes.desc).map (fun d => d.parameters.length) = some 1 := by decide +kernel
set_option maxHeartbeats 4000000 in
set_option maxRecDepth 100000 in
theorem k_X11_feedBytes {l : Launch} {ad : Nat → Nat} {cy : Nat → ClassId} {dC : Nat → ClassId} {dI : Nat → Nat → Nat} {ks : (Nat → Nat) × (Nat → Nat)} {p1 : Int64} {mem : Mm} {mem2 : Mm}  (h : f_X11_feedBytes p1 mem = some mem2) : CtV l Lp ad cy dC dI ks yX11_feedBytes cX11_feedBytes 4 none ({ frames := 1, cells := 0, slots := 0, locals := 21 }) [.ref (ad (0)), .long (p1)] mem mem2 := by
  refine CtV.of (cc := cX11_feedBytes) (maxL := 4) (ret := none) (own := RX11) rfl (by decide) (Nat.le_of_ble_eq_true rfl) ?_
  intro p e s m args below meth c A X
  have hts := X.2.2.2.2.1
  have hJ3 : ∀ (k3 : Int32 → Mm → Option Mm) (hk3 : ∀ (x1 : Int32) (m2 : Mm), k3 x1 m2 = some mem2 → Jd p l e ({ frames := 1, cells := 0, slots := 0, locals := 21 }) s m args below meth c 4 (MQ below (PsV Lp ad cy dC dI mem2 A) args s 0 0 A) A dC dI cy Lp ad m2 3 [(0, .ref (ad (0))), (1, .long (p1)), (3, .int (x1))] []) (x1 : Int32) (m2 : Mm), f_X11_feedBytes_B3 p1 k3 x1 m2 = some mem2 → Jd p l e ({ frames := 1, cells := 0, slots := 0, locals := 21 }) s m args below meth c 4 (MQ below (PsV Lp ad cy dC dI mem2 A) args s 0 0 A) A dC dI cy Lp ad m2 3 [(0, .ref (ad (0))), (1, .long (p1)), (3, .int (x1))] [] := by
    intro k3 hk3 x1 m2 h
    unfold f_X11_feedBytes_B3 at h
    refine r_iload_n X dX11_feedBytes_3 rfl 2 rfl ?_
    refine r_if_lt (tgt := 28) X dX11_feedBytes_4 (by decide) h (fun h => ?_) (fun h => ?_)
    · exact r_vret X rfl dX11_feedBytes_28 h
    · refine r_aload_n X dX11_feedBytes_7 rfl 0 rfl ?_
      refine r_getF X (k := 0) (of := 1) rfl (Lp_N Lpk_0 rfl) Lpk_0 rfl (by decide) ui_11 (by decide) uw2_183 rfl dX11_feedBytes_8 ?_
      refine r_lload_n X dX11_feedBytes_11 rfl 1 rfl ?_
      refine r_iload_n X dX11_feedBytes_12 rfl 2 rfl ?_
      refine r_lushr X dX11_feedBytes_13 ?_
      refine r_l2i X dX11_feedBytes_14 ?_
      refine r_sipush (v := (255)) X dX11_feedBytes_15 (by decide) ?_
      refine r_iand X dX11_feedBytes_18 ?_
      refine r_cVV (As := [.int ((((p1.toUInt64 >>> (x1.toInt64.toUInt64 &&& Int64.toUInt64 63)).toInt64).toInt32) &&& ((255)))]) (rest := []) X (fun m9 hg => k_X9_add hg) h (Lp_N Lpk_1 rfl) Lpk_1 rfl (by decide) uw3_3 uw3_4 uw3_5 uw1_2 uw3_6 rfl rfl dd_X9_add ⟨Nat.le_of_ble_eq_true rfl, Nat.le_of_ble_eq_true rfl⟩ rfl (Nat.le_of_ble_eq_true rfl) dX11_feedBytes_19 rfl (fun m3 h => ?_)
      refine r_inc h (fun x4 e9 h => ?_)
      refine r_iinc (v := x4) (lv2 := [(3, .int (x4)), (0, .ref (ad (0))), (1, .long (p1))]) X dX11_feedBytes_22 2 rfl (by rw [e9]; rfl) (by decide) rfl ?_
      refine r_goto (tgt := 3) X dX11_feedBytes_25 (by decide) ?_
      exact r_sub [1, 2, 0] rfl (hk3 x4 m3 h)
  have hL3 : ∀ (n : Nat), ∀ (x1 : Int32) (m2 : Mm), lop (fun _ _ => none) (f_X11_feedBytes_B3 p1 ) n x1 m2 = some mem2 → Jd p l e ({ frames := 1, cells := 0, slots := 0, locals := 21 }) s m args below meth c 4 (MQ below (PsV Lp ad cy dC dI mem2 A) args s 0 0 A) A dC dI cy Lp ad m2 3 [(0, .ref (ad (0))), (1, .long (p1)), (3, .int (x1))] [] := by
    intro  n
    induction n with
    | zero => intro _ _ h; cases h
    | succ n ih => intro a0 a1 h; exact hJ3  _ ih a0 a1 h
  unfold f_X11_feedBytes at h
  refine r_bipush (v := (56)) X dX11_feedBytes_0 (by decide) ?_
  refine r_istore_n (lv2 := [(3, .int ((56))), (0, .ref (ad (0))), (1, .long (p1))]) X dX11_feedBytes_2 rfl (by decide) rfl ?_
  exact r_sub [1, 2, 0] rfl (hL3 4000 ((56)) mem h)
noncomputable def f_X11_feed (p1 : Int64) (p2 : Int64) (p3 : Int64) (mem : Mm) : Option (Int32 × Mm) :=
  bdV (f_X11_feedBytes p1 mem) fun m1 => bdV (f_X11_feedBytes p2 m1) fun m2 => bdV (f_X11_feedBytes p3 m2) fun m3 => some (gI m3 1 1, m3)
theorem dd_X11_feed : yX11_feed.cls = RX11 ∧ yX11_feed.cls ≠ "java/lang/invoke/MethodHandle" ∧ yX11_feed.cls ≠ "java/lang/invoke/VarHandle" ∧ (parseMethodDescriptor yX11_feed.desc).map (fun d => d.parameters.length) = some 3 := by decide +kernel
set_option maxHeartbeats 4000000 in
set_option maxRecDepth 100000 in
theorem k_X11_feed {l : Launch} {ad : Nat → Nat} {cy : Nat → ClassId} {dC : Nat → ClassId} {dI : Nat → Nat → Nat} {ks : (Nat → Nat) × (Nat → Nat)} {p1 : Int64} {p2 : Int64} {p3 : Int64} {mem : Mm} {r2 : Int32} {mem2 : Mm}  (h : f_X11_feed p1 p2 p3 mem = some (r2, mem2)) : CtI l Lp ad cy dC dI ks yX11_feed cX11_feed 7 (some .int) ({ frames := 2, cells := 0, slots := 0, locals := 44 }) [.ref (ad (0)), .long (p1), .long (p2), .long (p3)] mem r2 mem2 := by
  refine CtI.of (cc := cX11_feed) (maxL := 7) (ret := (some .int)) (own := RX11) rfl (by decide) (Nat.le_of_ble_eq_true rfl) ?_
  intro p e s m args below meth c A X
  have hts := X.2.2.2.2.1
  have hl97 := X.2.2.2.2.2.2.1 (.fieldLinkNest "StationPiano" 97 "StationPiano$Tape" "length" "I" "StationPiano") (List.mem_of_getElem? (i := 0) rfl)
  unfold f_X11_feed at h
  refine r_aload_n X dX11_feed_0 rfl 0 rfl ?_
  refine r_lload_n X dX11_feed_1 rfl 1 rfl ?_
  refine r_cVV (As := [.long (p1)]) (rest := []) X (fun m9 hg => k_X11_feedBytes hg) h (Lp_N Lpk_0 rfl) Lpk_0 rfl (by decide) uw2_239 uw3_1 us1_0 uw1_1 uw3_2 rfl rfl dd_X11_feedBytes ⟨Nat.le_of_ble_eq_true rfl, Nat.le_of_ble_eq_true rfl⟩ rfl (Nat.le_of_ble_eq_true rfl) dX11_feed_2 rfl (fun m1 h => ?_)
  refine r_aload_n X dX11_feed_5 rfl 0 rfl ?_
  refine r_lload_n X dX11_feed_6 rfl 2 rfl ?_
  refine r_cVV (As := [.long (p2)]) (rest := []) X (fun m9 hg => k_X11_feedBytes hg) h (Lp_N Lpk_0 rfl) Lpk_0 rfl (by decide) uw2_239 uw3_1 us1_0 uw1_1 uw3_2 rfl rfl dd_X11_feedBytes ⟨Nat.le_of_ble_eq_true rfl, Nat.le_of_ble_eq_true rfl⟩ rfl (Nat.le_of_ble_eq_true rfl) dX11_feed_7 rfl (fun m2 h => ?_)
  refine r_aload_n X dX11_feed_10 rfl 0 rfl ?_
  refine r_lload X dX11_feed_11 3 rfl ?_
  refine r_cVV (As := [.long (p3)]) (rest := []) X (fun m9 hg => k_X11_feedBytes hg) h (Lp_N Lpk_0 rfl) Lpk_0 rfl (by decide) uw2_239 uw3_1 us1_0 uw1_1 uw3_2 rfl rfl dd_X11_feedBytes ⟨Nat.le_of_ble_eq_true rfl, Nat.le_of_ble_eq_true rfl⟩ rfl (Nat.le_of_ble_eq_true rfl) dX11_feed_13 rfl (fun m3 h => ?_)
  refine r_aload_n X dX11_feed_16 rfl 0 rfl ?_
  refine r_getF X (k := 0) (of := 1) rfl (Lp_N Lpk_0 rfl) Lpk_0 rfl (by decide) ui_11 (by decide) uw2_183 rfl dX11_feed_17 ?_
  refine r_getIN X (k := 1) (Lp_N Lpk_1 rfl) Lpk_1 rfl (by decide) ui_9 (by decide) hl97 rfl dX11_feed_20 ?_
  exact r_iret2 X rfl dX11_feed_23 h
noncomputable def f_X11_beginStation_B34 (k34 : Int32 → Mm → Option Mm) (x6 : Int32) (m7 : Mm) : Option Mm :=
  if ((4)) ≤ x6 then (some m7) else (grd (inb x6 4) (bnd (91 + (1 + 10 * x6.toNatClampNeg)) fun q8 => grd (bok ((0))) (bnd (sI m7 q8 3 ((0))) fun m9 => bnd (x6 + (1)) fun x10 => k34 x10 m9)))
noncomputable def f_X11_beginStation  (mem : Mm) : Option Mm :=
  grd (decide (Lp.1 (gR mem 0 2) = 7)) (bnd (gR mem 0 2) fun q1 => bdV (f_X6_begin 64 q1 mem) fun m2 => bnd (sI m2 68 3 ((0))) fun m3 => bnd (sI m3 76 2 ((0))) fun m4 => bnd (sI m4 0 14 ((0))) fun m5 => lop (fun _ _ => none) (f_X11_beginStation_B34 ) 4000 ((0)) m5)
theorem dd_X11_beginStation : yX11_beginStation.cls = RX11 ∧ yX11_beginStation.cls ≠ "java/lang/invoke/MethodHandle" ∧ yX11_beginStation.cls ≠ "java/lang/invoke/VarHandle" ∧ (parseMethodDescriptor yX11_beginStation.desc).map (fun d => d.parameters.length) = some 0 := by decide +kernel
set_option maxHeartbeats 4000000 in
set_option maxRecDepth 100000 in
theorem k_X11_beginStation {l : Launch} {ad : Nat → Nat} {cy : Nat → ClassId} {dC : Nat → ClassId} {dI : Nat → Nat → Nat} {ks : (Nat → Nat) × (Nat → Nat)}  {mem : Mm} {mem2 : Mm}  (h : f_X11_beginStation  mem = some mem2) : CtV l Lp ad cy dC dI ks yX11_beginStation cX11_beginStation 2 none ({ frames := 1, cells := 0, slots := 0, locals := 22 }) [.ref (ad (0))] mem mem2 := by
  refine CtV.of (cc := cX11_beginStation) (maxL := 2) (ret := none) (own := RX11) rfl (by decide) (Nat.le_of_ble_eq_true rfl) ?_
  intro p e s m args below meth c A X
  have hts := X.2.2.2.2.1
  have hl291 := X.2.2.2.2.2.2.1 (.fieldLinkNest "StationPiano" 291 "StationPiano$Mark" "laid" "Z" "StationPiano") (List.mem_of_getElem? (i := 77) rfl)
  have hl308 := X.2.2.2.2.2.2.1 (.fieldLinkNest "StationPiano" 308 "StationPiano$Week" "length" "I" "StationPiano") (List.mem_of_getElem? (i := 67) rfl)
  have hl309 := X.2.2.2.2.2.2.1 (.fieldLinkNest "StationPiano" 309 "StationPiano$Clues" "length" "I" "StationPiano") (List.mem_of_getElem? (i := 68) rfl)
  have hJ34 : ∀ (k34 : Int32 → Mm → Option Mm) (hk34 : ∀ (x6 : Int32) (m7 : Mm), k34 x6 m7 = some mem2 → Jd p l e ({ frames := 1, cells := 0, slots := 0, locals := 22 }) s m args below meth c 2 (MQ below (PsV Lp ad cy dC dI mem2 A) args s 0 0 A) A dC dI cy Lp ad m7 34 [(0, .ref (ad (0))), (1, .int (x6))] []) (x6 : Int32) (m7 : Mm), f_X11_beginStation_B34 k34 x6 m7 = some mem2 → Jd p l e ({ frames := 1, cells := 0, slots := 0, locals := 22 }) s m args below meth c 2 (MQ below (PsV Lp ad cy dC dI mem2 A) args s 0 0 A) A dC dI cy Lp ad m7 34 [(0, .ref (ad (0))), (1, .int (x6))] [] := by
    intro k34 hk34 x6 m7 h
    unfold f_X11_beginStation_B34 at h
    refine r_iload_n X dX11_beginStation_34 rfl 1 rfl ?_
    refine r_iconst (v := (4)) X dX11_beginStation_35 (by decide) ?_
    refine r_icmp_ge (tgt := 55) X dX11_beginStation_36 (by decide) h (fun h => ?_) (fun h => ?_)
    · exact r_vret X rfl dX11_beginStation_55 h
    · refine r_aload_n X dX11_beginStation_39 rfl 0 rfl ?_
      refine r_getF X (k := 11) (of := 91) rfl (Lp_N Lpk_0 rfl) Lpk_0 rfl (by decide) ui_11 (by decide) uw2_194 rfl dX11_beginStation_40 ?_
      refine r_iload_n X dX11_beginStation_43 rfl 1 rfl ?_
      refine r_ald17 X (Lp_N Lpk_91 rfl) Lpk_91 (Lp_e17 Lpk_91) rfl h dX11_beginStation_44 (fun q8 eq8 h => ?_)
      refine r_iconst (v := (0)) X dX11_beginStation_45 (by decide) ?_
      refine r_gz h (fun hz h => ?_)
      refine r_putZN X (k := 3) (Lp_N eq8 rfl) eq8 rfl (by decide) ui_3 (by decide) hl291 tyX3_ok nmX3 rfl rfl hz rfl dX11_beginStation_46 ?_
      refine r_nmM h (fun m9 h => ?_)
      refine r_inc h (fun x10 e9 h => ?_)
      refine r_iinc (v := x10) (lv2 := [(1, .int (x10)), (0, .ref (ad (0)))]) X dX11_beginStation_49 1 rfl (by rw [e9]; rfl) (by decide) rfl ?_
      refine r_goto (tgt := 34) X dX11_beginStation_52 (by decide) ?_
      exact r_sub [1, 0] rfl (hk34 x10 m9 h)
  have hL34 : ∀ (n : Nat), ∀ (x6 : Int32) (m7 : Mm), lop (fun _ _ => none) (f_X11_beginStation_B34 ) n x6 m7 = some mem2 → Jd p l e ({ frames := 1, cells := 0, slots := 0, locals := 22 }) s m args below meth c 2 (MQ below (PsV Lp ad cy dC dI mem2 A) args s 0 0 A) A dC dI cy Lp ad m7 34 [(0, .ref (ad (0))), (1, .int (x6))] [] := by
    intro  n
    induction n with
    | zero => intro _ _ h; cases h
    | succ n ih => intro a0 a1 h; exact hJ34  _ ih a0 a1 h
  unfold f_X11_beginStation at h
  refine r_aload_n X dX11_beginStation_0 rfl 0 rfl ?_
  refine r_getF X (k := 4) (of := 64) rfl (Lp_N Lpk_0 rfl) Lpk_0 rfl (by decide) ui_11 (by decide) uw2_187 rfl dX11_beginStation_1 ?_
  refine r_aload_n X dX11_beginStation_4 rfl 0 rfl ?_
  refine r_getR X 7 (k := 2) (Lp_N Lpk_0 rfl) Lpk_0 rfl (by decide) ui_11 (by decide) uw2_185 rfl h dX11_beginStation_5 (fun q1 eq1 h => ?_)
  refine r_cVV (As := [.ref (ad (q1))]) (rest := []) X (fun m9 hg => k_X6_begin Lpk_64 eq1 hg) h (Lp_N Lpk_64 rfl) Lpk_64 rfl (by decide) uw4_10 uw4_11 uw4_12 uw1_7 uw4_13 rfl rfl dd_X6_begin ⟨Nat.le_of_ble_eq_true rfl, Nat.le_of_ble_eq_true rfl⟩ rfl (Nat.le_of_ble_eq_true rfl) dX11_beginStation_8 rfl (fun m2 h => ?_)
  refine r_aload_n X dX11_beginStation_11 rfl 0 rfl ?_
  refine r_getF X (k := 6) (of := 68) rfl (Lp_N Lpk_0 rfl) Lpk_0 rfl (by decide) ui_11 (by decide) uw2_189 rfl dX11_beginStation_12 ?_
  refine r_iconst (v := (0)) X dX11_beginStation_15 (by decide) ?_
  refine r_putIN X (k := 3) (Lp_N Lpk_68 rfl) Lpk_68 rfl (by decide) ui_10 (by decide) hl308 tyX10_ok nmX10 rfl rfl rfl dX11_beginStation_16 ?_
  refine r_nmM h (fun m3 h => ?_)
  refine r_aload_n X dX11_beginStation_19 rfl 0 rfl ?_
  refine r_getF X (k := 8) (of := 76) rfl (Lp_N Lpk_0 rfl) Lpk_0 rfl (by decide) ui_11 (by decide) uw2_191 rfl dX11_beginStation_20 ?_
  refine r_iconst (v := (0)) X dX11_beginStation_23 (by decide) ?_
  refine r_putIN X (k := 2) (Lp_N Lpk_76 rfl) Lpk_76 rfl (by decide) ui_0 (by decide) hl309 tyX0_ok nmX0 rfl rfl rfl dX11_beginStation_24 ?_
  refine r_nmM h (fun m4 h => ?_)
  refine r_aload_n X dX11_beginStation_27 rfl 0 rfl ?_
  refine r_iconst (v := (0)) X dX11_beginStation_28 (by decide) ?_
  refine r_putI X (k := 14) (Lp_N Lpk_0 rfl) Lpk_0 rfl (by decide) ui_11 (by decide) uw2_197 tyX11_ok nmX11 rfl rfl rfl dX11_beginStation_29 ?_
  refine r_nmM h (fun m5 h => ?_)
  refine r_iconst (v := (0)) X dX11_beginStation_32 (by decide) ?_
  refine r_istore_n (lv2 := [(1, .int ((0))), (0, .ref (ad (0)))]) X dX11_beginStation_33 rfl (by decide) rfl ?_
  exact r_sub [1, 0] rfl (hL34 4000 ((0)) m5 h)
noncomputable def f_X11_station  (mem : Mm) : Option (Int32 × Mm) :=
  grd (decide (Lp.1 (gR mem 0 3) = 7)) (bnd (gR mem 0 3) fun q1 => bdI (f_X5_readStation q1 mem) fun x3 m2 => bnd (sI m2 1 1 ((0))) fun m4 => if ¬ x3 = 0 then (some (x3, m4)) else (grd (decide (Lp.1 (gR m4 0 2) = 7)) (bnd (gR m4 0 2) fun q5 => grd (decide (Lp.1 (gR m4 0 3) = 7)) (bnd (gR m4 0 3) fun q6 => bnd (sR m4 0 2 q6) fun m7 => bnd (sR m7 0 3 q5) fun m8 => bdV (f_X11_beginStation  m8) fun m9 => some (x3, m9)))))
theorem dd_X11_station : yX11_station.cls = RX11 ∧ yX11_station.cls ≠ "java/lang/invoke/MethodHandle" ∧ yX11_station.cls ≠ "java/lang/invoke/VarHandle" ∧ (parseMethodDescriptor yX11_station.desc).map (fun d => d.parameters.length) = some 0 := by decide +kernel
set_option maxHeartbeats 4000000 in
set_option maxRecDepth 100000 in
theorem k_X11_station {l : Launch} {ad : Nat → Nat} {cy : Nat → ClassId} {dC : Nat → ClassId} {dI : Nat → Nat → Nat} {ks : (Nat → Nat) × (Nat → Nat)}  {mem : Mm} {r2 : Int32} {mem2 : Mm}  (h : f_X11_station  mem = some (r2, mem2)) : CtI l Lp ad cy dC dI ks yX11_station cX11_station 3 (some .int) ({ frames := 75, cells := 0, slots := 0, locals := 4070 }) [.ref (ad (0))] mem r2 mem2 := by
  refine CtI.of (cc := cX11_station) (maxL := 3) (ret := (some .int)) (own := RX11) rfl (by decide) (Nat.le_of_ble_eq_true rfl) ?_
  intro p e s m args below meth c A X
  have hts := X.2.2.2.2.1
  have hl97 := X.2.2.2.2.2.2.1 (.fieldLinkNest "StationPiano" 97 "StationPiano$Tape" "length" "I" "StationPiano") (List.mem_of_getElem? (i := 0) rfl)
  unfold f_X11_station at h
  refine r_aload_n X dX11_station_0 rfl 0 rfl ?_
  refine r_getF X (k := 1) (of := 3) rfl (Lp_N Lpk_0 rfl) Lpk_0 rfl (by decide) ui_11 (by decide) uw2_184 rfl dX11_station_1 ?_
  refine r_aload_n X dX11_station_4 rfl 0 rfl ?_
  refine r_getR X 7 (k := 3) (Lp_N Lpk_0 rfl) Lpk_0 rfl (by decide) ui_11 (by decide) uw2_186 rfl h dX11_station_5 (fun q1 eq1 h => ?_)
  refine r_cVI (As := [.ref (ad (q1))]) (rest := []) X (fun r9 m9 hg => k_X5_readStation eq1 hg) h (Lp_N Lpk_3 rfl) Lpk_3 rfl (by decide) uw3_11 uw3_12 uw3_13 uw1_3 uw3_14 rfl rfl dd_X5_readStation ⟨Nat.le_of_ble_eq_true rfl, Nat.le_of_ble_eq_true rfl⟩ rfl (Nat.le_of_ble_eq_true rfl) dX11_station_8 rfl (fun x3 m2 h => ?_)
  refine r_istore_n (lv2 := [(1, .int (x3)), (0, .ref (ad (0)))]) X dX11_station_11 rfl (by decide) rfl ?_
  refine r_aload_n X dX11_station_12 rfl 1 rfl ?_
  refine r_getF X (k := 0) (of := 1) rfl (Lp_N Lpk_0 rfl) Lpk_0 rfl (by decide) ui_11 (by decide) uw2_183 rfl dX11_station_13 ?_
  refine r_iconst (v := (0)) X dX11_station_16 (by decide) ?_
  refine r_putIN X (k := 1) (Lp_N Lpk_1 rfl) Lpk_1 rfl (by decide) ui_9 (by decide) hl97 tyX9_ok nmX9 rfl rfl rfl dX11_station_17 ?_
  refine r_nmM h (fun m4 h => ?_)
  refine r_iload_n X dX11_station_20 rfl 0 rfl ?_
  refine r_if_ne (tgt := 46) X dX11_station_21 (by decide) h (fun h => ?_) (fun h => ?_)
  · refine r_iload_n X dX11_station_46 rfl 0 rfl ?_
    exact r_iret2 X rfl dX11_station_47 h
  · refine r_aload_n X dX11_station_24 rfl 1 rfl ?_
    refine r_getR X 7 (k := 2) (Lp_N Lpk_0 rfl) Lpk_0 rfl (by decide) ui_11 (by decide) uw2_185 rfl h dX11_station_25 (fun q5 eq5 h => ?_)
    refine r_astore_n (lv2 := [(2, .ref (ad (q5))), (1, .int (x3)), (0, .ref (ad (0)))]) X dX11_station_28 rfl (by decide) rfl ?_
    refine r_aload_n X dX11_station_29 rfl 2 rfl ?_
    refine r_aload_n X dX11_station_30 rfl 2 rfl ?_
    refine r_getR X 7 (k := 3) (Lp_N Lpk_0 rfl) Lpk_0 rfl (by decide) ui_11 (by decide) uw2_186 rfl h dX11_station_31 (fun q6 eq6 h => ?_)
    refine r_putR X (k := 2) (Lp_N Lpk_0 rfl) Lpk_0 rfl (by decide) ui_11 (by decide) uw2_185 tyX11_ok nmX11 rfl rfl rfl dX11_station_34 ?_
    refine r_nmM h (fun m7 h => ?_)
    refine r_aload_n X dX11_station_37 rfl 2 rfl ?_
    refine r_aload_n X dX11_station_38 rfl 0 rfl ?_
    refine r_putR X (k := 3) (Lp_N Lpk_0 rfl) Lpk_0 rfl (by decide) ui_11 (by decide) uw2_186 tyX11_ok nmX11 rfl rfl rfl dX11_station_39 ?_
    refine r_nmM h (fun m8 h => ?_)
    refine r_aload_n X dX11_station_42 rfl 2 rfl ?_
    refine r_cVV (As := []) (rest := []) X (fun m9 hg => k_X11_beginStation hg) h (Lp_N Lpk_0 rfl) Lpk_0 rfl (by decide) uw4_6 uw4_8 us2_5 uw1_1 uw4_9 rfl rfl dd_X11_beginStation ⟨Nat.le_of_ble_eq_true rfl, Nat.le_of_ble_eq_true rfl⟩ rfl (Nat.le_of_ble_eq_true rfl) dX11_station_43 rfl (fun m9 h => ?_)
    refine r_iload_n X dX11_station_46 rfl 1 rfl ?_
    exact r_iret2 X rfl dX11_station_47 h
noncomputable def f_X11_week  (mem : Mm) : Option (Int32 × Mm) :=
  bdI (f_X5_readWeek 72 mem) fun x2 m1 => bnd (sI m1 1 1 ((0))) fun m3 => if ¬ x2 = 0 then (some (x2, m3)) else (bdV (f_X10_copyFrom 68 72 m3) fun m4 => some (x2, m4))
theorem dd_X11_week : yX11_week.cls = RX11 ∧ yX11_week.cls ≠ "java/lang/invoke/MethodHandle" ∧ yX11_week.cls ≠ "java/lang/invoke/VarHandle" ∧ (parseMethodDescriptor yX11_week.desc).map (fun d => d.parameters.length) = some 0 := by decide +kernel
set_option maxHeartbeats 4000000 in
set_option maxRecDepth 100000 in
theorem k_X11_week {l : Launch} {ad : Nat → Nat} {cy : Nat → ClassId} {dC : Nat → ClassId} {dI : Nat → Nat → Nat} {ks : (Nat → Nat) × (Nat → Nat)}  {mem : Mm} {r2 : Int32} {mem2 : Mm}  (h : f_X11_week  mem = some (r2, mem2)) : CtI l Lp ad cy dC dI ks yX11_week cX11_week 2 (some .int) ({ frames := 10, cells := 0, slots := 0, locals := 222 }) [.ref (ad (0))] mem r2 mem2 := by
  refine CtI.of (cc := cX11_week) (maxL := 2) (ret := (some .int)) (own := RX11) rfl (by decide) (Nat.le_of_ble_eq_true rfl) ?_
  intro p e s m args below meth c A X
  have hts := X.2.2.2.2.1
  have hl97 := X.2.2.2.2.2.2.1 (.fieldLinkNest "StationPiano" 97 "StationPiano$Tape" "length" "I" "StationPiano") (List.mem_of_getElem? (i := 0) rfl)
  unfold f_X11_week at h
  refine r_aload_n X dX11_week_0 rfl 0 rfl ?_
  refine r_getF X (k := 1) (of := 3) rfl (Lp_N Lpk_0 rfl) Lpk_0 rfl (by decide) ui_11 (by decide) uw2_184 rfl dX11_week_1 ?_
  refine r_aload_n X dX11_week_4 rfl 0 rfl ?_
  refine r_getF X (k := 7) (of := 72) rfl (Lp_N Lpk_0 rfl) Lpk_0 rfl (by decide) ui_11 (by decide) uw2_190 rfl dX11_week_5 ?_
  refine r_cVI (As := [.ref (ad (72))]) (rest := []) X (fun r9 m9 hg => k_X5_readWeek Lpk_72 hg) h (Lp_N Lpk_3 rfl) Lpk_3 rfl (by decide) uw4_18 uw4_19 uw4_20 uw1_3 uw4_21 rfl rfl dd_X5_readWeek ⟨Nat.le_of_ble_eq_true rfl, Nat.le_of_ble_eq_true rfl⟩ rfl (Nat.le_of_ble_eq_true rfl) dX11_week_8 rfl (fun x2 m1 h => ?_)
  refine r_istore_n (lv2 := [(1, .int (x2)), (0, .ref (ad (0)))]) X dX11_week_11 rfl (by decide) rfl ?_
  refine r_aload_n X dX11_week_12 rfl 1 rfl ?_
  refine r_getF X (k := 0) (of := 1) rfl (Lp_N Lpk_0 rfl) Lpk_0 rfl (by decide) ui_11 (by decide) uw2_183 rfl dX11_week_13 ?_
  refine r_iconst (v := (0)) X dX11_week_16 (by decide) ?_
  refine r_putIN X (k := 1) (Lp_N Lpk_1 rfl) Lpk_1 rfl (by decide) ui_9 (by decide) hl97 tyX9_ok nmX9 rfl rfl rfl dX11_week_17 ?_
  refine r_nmM h (fun m3 h => ?_)
  refine r_iload_n X dX11_week_20 rfl 0 rfl ?_
  refine r_if_ne (tgt := 35) X dX11_week_21 (by decide) h (fun h => ?_) (fun h => ?_)
  · refine r_iload_n X dX11_week_35 rfl 0 rfl ?_
    exact r_iret2 X rfl dX11_week_36 h
  · refine r_aload_n X dX11_week_24 rfl 1 rfl ?_
    refine r_getF X (k := 6) (of := 68) rfl (Lp_N Lpk_0 rfl) Lpk_0 rfl (by decide) ui_11 (by decide) uw2_189 rfl dX11_week_25 ?_
    refine r_aload_n X dX11_week_28 rfl 1 rfl ?_
    refine r_getF X (k := 7) (of := 72) rfl (Lp_N Lpk_0 rfl) Lpk_0 rfl (by decide) ui_11 (by decide) uw2_190 rfl dX11_week_29 ?_
    refine r_cVV (As := [.ref (ad (72))]) (rest := []) X (fun m9 hg => k_X10_copyFrom Lpk_68 Lpk_72 hg) h (Lp_N Lpk_68 rfl) Lpk_68 rfl (by decide) uw4_30 uw4_31 uw4_32 uw1_8 uw4_33 rfl rfl dd_X10_copyFrom ⟨Nat.le_of_ble_eq_true rfl, Nat.le_of_ble_eq_true rfl⟩ rfl (Nat.le_of_ble_eq_true rfl) dX11_week_32 rfl (fun m4 h => ?_)
    refine r_iload_n X dX11_week_35 rfl 0 rfl ?_
    exact r_iret2 X rfl dX11_week_36 h
noncomputable def f_X11_isPasser (p1 : Int32) (mem : Mm) : Option (Int32 × Mm) :=
  if p1 < 0 then (grd (bok ((0))) (some ((0), mem))) else (grd (decide (Lp.1 (gR mem 0 2) = 7)) (bnd (gR mem 0 2) fun q1 => if (gI mem q1 7) ≤ p1 then (grd (bok ((0))) (some ((0), mem))) else (if ((7)) ≤ p1 then (grd (bok ((0))) (some ((0), mem))) else (grd (bok ((1))) (some ((1), mem))))))
theorem dd_X11_isPasser : yX11_isPasser.cls = RX11 ∧ yX11_isPasser.cls ≠ "java/lang/invoke/MethodHandle" ∧ yX11_isPasser.cls ≠ "java/lang/invoke/VarHandle" ∧ (parseMethodDescriptor yX11_isPasser.desc).map (fun d => d.parameters.length) = some 1 := by decide +kernel
set_option maxHeartbeats 4000000 in
set_option maxRecDepth 100000 in
theorem k_X11_isPasser {l : Launch} {ad : Nat → Nat} {cy : Nat → ClassId} {dC : Nat → ClassId} {dI : Nat → Nat → Nat} {ks : (Nat → Nat) × (Nat → Nat)} {p1 : Int32} {mem : Mm} {r2 : Int32} {mem2 : Mm}  (h : f_X11_isPasser p1 mem = some (r2, mem2)) : CtI l Lp ad cy dC dI ks yX11_isPasser cX11_isPasser 2 (some .boolean) ({ frames := 0, cells := 0, slots := 0, locals := 0 }) [.ref (ad (0)), .int (p1)] mem r2 mem2 := by
  refine CtI.of (cc := cX11_isPasser) (maxL := 2) (ret := (some .boolean)) (own := RX11) rfl (by decide) (Nat.le_of_ble_eq_true rfl) ?_
  intro p e s m args below meth c A X
  have hts := X.2.2.2.2.1
  have hl173 := X.2.2.2.2.2.2.1 (.fieldLinkNest "StationPiano" 173 "StationPiano$Station" "passerCount" "I" "StationPiano") (List.mem_of_getElem? (i := 40) rfl)
  unfold f_X11_isPasser at h
  refine r_iload_n X dX11_isPasser_0 rfl 1 rfl ?_
  refine r_if_lt (tgt := 25) X dX11_isPasser_1 (by decide) h (fun h => ?_) (fun h => ?_)
  · refine r_iconst (v := (0)) X dX11_isPasser_25 (by decide) ?_
    exact r_zret2 X rfl dX11_isPasser_26 h
  · refine r_iload_n X dX11_isPasser_4 rfl 1 rfl ?_
    refine r_aload_n X dX11_isPasser_5 rfl 0 rfl ?_
    refine r_getR X 7 (k := 2) (Lp_N Lpk_0 rfl) Lpk_0 rfl (by decide) ui_11 (by decide) uw2_185 rfl h dX11_isPasser_6 (fun q1 eq1 h => ?_)
    refine r_getIN X (k := 7) (Lp_N eq1 rfl) eq1 rfl (by decide) ui_7 (by decide) hl173 rfl dX11_isPasser_9 ?_
    refine r_icmp_ge (tgt := 25) X dX11_isPasser_12 (by decide) h (fun h => ?_) (fun h => ?_)
    · refine r_iconst (v := (0)) X dX11_isPasser_25 (by decide) ?_
      exact r_zret2 X rfl dX11_isPasser_26 h
    · refine r_iload_n X dX11_isPasser_15 rfl 1 rfl ?_
      refine r_bipush (v := (7)) X dX11_isPasser_16 (by decide) ?_
      refine r_icmp_ge (tgt := 25) X dX11_isPasser_18 (by decide) h (fun h => ?_) (fun h => ?_)
      · refine r_iconst (v := (0)) X dX11_isPasser_25 (by decide) ?_
        exact r_zret2 X rfl dX11_isPasser_26 h
      · refine r_iconst (v := (1)) X dX11_isPasser_21 (by decide) ?_
        refine r_goto (tgt := 26) X dX11_isPasser_22 (by decide) ?_
        exact r_zret2 X rfl dX11_isPasser_26 h
noncomputable def f_X11_passer (p1 : Int32) (p2 : Int32) (mem : Mm) : Option (Int32 × Mm) :=
  bdI (f_X11_isPasser p1 mem) fun x2 m1 => if ¬ x2 = 0 then (grd (decide (Lp.1 (gR m1 0 2) = 7)) (bnd (gR m1 0 2) fun q3 => grd (inb p1 (Lp.2.1 (q3 + 9))) (bnd (q3 + 9 + (7 + 2 * p1.toNatClampNeg)) fun q4 => if p2 = (0) then (some (gI m1 q4 3, m1)) else (if p2 = (1) then (some (gI m1 q4 4, m1)) else (if p2 = (2) then (some (gI m1 q4 5, m1)) else (if p2 = (3) then (some (gI m1 q4 6, m1)) else (if p2 = (4) then (bdI (f_X4_playsFor q4 (gI m1 64 2) m1) fun x6 m5 => some (x6, m5)) else (if p2 = (5) then (some (gI m1 q4 8, m1)) else (some ((-1), m1)))))))))) else (some ((-1), m1))
theorem dd_X11_passer : yX11_passer.cls = RX11 ∧ yX11_passer.cls ≠ "java/lang/invoke/MethodHandle" ∧ yX11_passer.cls ≠ "java/lang/invoke/VarHandle" ∧ (parseMethodDescriptor yX11_passer.desc).map (fun d => d.parameters.length) = some 2 := by decide +kernel
set_option maxHeartbeats 4000000 in
set_option maxRecDepth 100000 in
theorem k_X11_passer {l : Launch} {ad : Nat → Nat} {cy : Nat → ClassId} {dC : Nat → ClassId} {dI : Nat → Nat → Nat} {ks : (Nat → Nat) × (Nat → Nat)} {p1 : Int32} {p2 : Int32} {mem : Mm} {r2 : Int32} {mem2 : Mm}  (h : f_X11_passer p1 p2 mem = some (r2, mem2)) : CtI l Lp ad cy dC dI ks yX11_passer cX11_passer 4 (some .int) ({ frames := 2, cells := 0, slots := 0, locals := 42 }) [.ref (ad (0)), .int (p1), .int (p2)] mem r2 mem2 := by
  refine CtI.of (cc := cX11_passer) (maxL := 4) (ret := (some .int)) (own := RX11) rfl (by decide) (Nat.le_of_ble_eq_true rfl) ?_
  intro p e s m args below meth c A X
  have hts := X.2.2.2.2.1
  have hl120 := X.2.2.2.2.2.2.1 (.fieldLinkNest "StationPiano" 120 "StationPiano$Station" "passers" "[LStationPiano$Passer;" "StationPiano") (List.mem_of_getElem? (i := 32) rfl)
  have hl124 := X.2.2.2.2.2.2.1 (.fieldLinkNest "StationPiano" 124 "StationPiano$Passer" "kind" "I" "StationPiano") (List.mem_of_getElem? (i := 11) rfl)
  have hl129 := X.2.2.2.2.2.2.1 (.fieldLinkNest "StationPiano" 129 "StationPiano$Passer" "tune" "I" "StationPiano") (List.mem_of_getElem? (i := 13) rfl)
  have hl132 := X.2.2.2.2.2.2.1 (.fieldLinkNest "StationPiano" 132 "StationPiano$Passer" "skill" "I" "StationPiano") (List.mem_of_getElem? (i := 17) rfl)
  have hl135 := X.2.2.2.2.2.2.1 (.fieldLinkNest "StationPiano" 135 "StationPiano$Passer" "shyness" "I" "StationPiano") (List.mem_of_getElem? (i := 19) rfl)
  have hl138 := X.2.2.2.2.2.2.1 (.fieldLinkNest "StationPiano" 138 "StationPiano$State" "minutes" "I" "StationPiano") (List.mem_of_getElem? (i := 57) rfl)
  have hl145 := X.2.2.2.2.2.2.1 (.fieldLinkNest "StationPiano" 145 "StationPiano$Passer" "arrives" "I" "StationPiano") (List.mem_of_getElem? (i := 23) rfl)
  unfold f_X11_passer at h
  refine r_aload_n X dX11_passer_0 rfl 0 rfl ?_
  refine r_iload_n X dX11_passer_1 rfl 1 rfl ?_
  refine r_cVI (As := [.int (p1)]) (rest := []) X (fun r9 m9 hg => k_X11_isPasser hg) h (Lp_N Lpk_0 rfl) Lpk_0 rfl (by decide) uw4_38 uw4_40 us2_7 uw1_1 uw4_41 rfl rfl dd_X11_isPasser ⟨Nat.le_of_ble_eq_true rfl, Nat.le_of_ble_eq_true rfl⟩ rfl (Nat.le_of_ble_eq_true rfl) dX11_passer_2 rfl (fun x2 m1 h => ?_)
  refine r_if_ne (tgt := 10) X dX11_passer_5 (by decide) h (fun h => ?_) (fun h => ?_)
  · refine r_aload_n X dX11_passer_10 rfl 0 rfl ?_
    refine r_getR X 7 (k := 2) (Lp_N Lpk_0 rfl) Lpk_0 rfl (by decide) ui_11 (by decide) uw2_185 rfl h dX11_passer_11 (fun q3 eq3 h => ?_)
    refine r_getFN X (k := 3) (of := 9) rfl (Lp_N eq3 rfl) eq3 rfl (by decide) ui_7 (by decide) hl120 rfl dX11_passer_14 ?_
    refine r_iload_n X dX11_passer_17 rfl 1 rfl ?_
    refine r_ald18 X (Lp_N (Lp_7_3 eq3) rfl) (Lp_7_3 eq3) (Lp_e18 (Lp_7_3 eq3)) rfl h dX11_passer_18 (fun q4 eq4 h => ?_)
    refine r_astore_n (lv2 := [(3, .ref (ad (q4))), (0, .ref (ad (0))), (1, .int (p1)), (2, .int (p2))]) X dX11_passer_19 rfl (by decide) rfl ?_
    refine r_iload_n X dX11_passer_20 rfl 3 rfl ?_
    by_cases c21_0 : p2 = (0)
    · have h := ite_p c21_0 h
      refine r_tin (off := 39) (tgt := 60) X dX11_passer_21 (by rw [c21_0]; decide) (by rw [c21_0]; decide) (by rw [c21_0]; rfl) (by decide) ?_
      refine r_aload_n X dX11_passer_60 rfl 0 rfl ?_
      refine r_getIN X (k := 3) (Lp_N eq4 rfl) eq4 rfl (by decide) ui_4 (by decide) hl124 rfl dX11_passer_61 ?_
      exact r_iret2 X rfl dX11_passer_64 h
    have h := ite_n c21_0 h
    by_cases c21_1 : p2 = (1)
    · have h := ite_p c21_1 h
      refine r_tin (off := 44) (tgt := 65) X dX11_passer_21 (by rw [c21_1]; decide) (by rw [c21_1]; decide) (by rw [c21_1]; rfl) (by decide) ?_
      refine r_aload_n X dX11_passer_65 rfl 0 rfl ?_
      refine r_getIN X (k := 4) (Lp_N eq4 rfl) eq4 rfl (by decide) ui_4 (by decide) hl129 rfl dX11_passer_66 ?_
      exact r_iret2 X rfl dX11_passer_69 h
    have h := ite_n c21_1 h
    by_cases c21_2 : p2 = (2)
    · have h := ite_p c21_2 h
      refine r_tin (off := 49) (tgt := 70) X dX11_passer_21 (by rw [c21_2]; decide) (by rw [c21_2]; decide) (by rw [c21_2]; rfl) (by decide) ?_
      refine r_aload_n X dX11_passer_70 rfl 0 rfl ?_
      refine r_getIN X (k := 5) (Lp_N eq4 rfl) eq4 rfl (by decide) ui_4 (by decide) hl132 rfl dX11_passer_71 ?_
      exact r_iret2 X rfl dX11_passer_74 h
    have h := ite_n c21_2 h
    by_cases c21_3 : p2 = (3)
    · have h := ite_p c21_3 h
      refine r_tin (off := 54) (tgt := 75) X dX11_passer_21 (by rw [c21_3]; decide) (by rw [c21_3]; decide) (by rw [c21_3]; rfl) (by decide) ?_
      refine r_aload_n X dX11_passer_75 rfl 0 rfl ?_
      refine r_getIN X (k := 6) (Lp_N eq4 rfl) eq4 rfl (by decide) ui_4 (by decide) hl135 rfl dX11_passer_76 ?_
      exact r_iret2 X rfl dX11_passer_79 h
    have h := ite_n c21_3 h
    by_cases c21_4 : p2 = (4)
    · have h := ite_p c21_4 h
      refine r_tin (off := 59) (tgt := 80) X dX11_passer_21 (by rw [c21_4]; decide) (by rw [c21_4]; decide) (by rw [c21_4]; rfl) (by decide) ?_
      refine r_aload_n X dX11_passer_80 rfl 0 rfl ?_
      refine r_aload_n X dX11_passer_81 rfl 1 rfl ?_
      refine r_getF X (k := 4) (of := 64) rfl (Lp_N Lpk_0 rfl) Lpk_0 rfl (by decide) ui_11 (by decide) uw2_187 rfl dX11_passer_82 ?_
      refine r_getIN X (k := 2) (Lp_N Lpk_64 rfl) Lpk_64 rfl (by decide) ui_6 (by decide) hl138 rfl dX11_passer_85 ?_
      refine r_cVI (As := [.int (gI m1 64 2)]) (rest := []) X (fun r9 m9 hg => k_X4_playsFor eq4 hg) h (Lp_N eq4 rfl) eq4 rfl (by decide) uw4_42 uw4_43 uw4_44 uw1_6 uw4_45 rfl rfl dd_X4_playsFor ⟨Nat.le_of_ble_eq_true rfl, Nat.le_of_ble_eq_true rfl⟩ rfl (Nat.le_of_ble_eq_true rfl) dX11_passer_88 rfl (fun x6 m5 h => ?_)
      exact r_iret2 X rfl dX11_passer_91 h
    have h := ite_n c21_4 h
    by_cases c21_5 : p2 = (5)
    · have h := ite_p c21_5 h
      refine r_tin (off := 71) (tgt := 92) X dX11_passer_21 (by rw [c21_5]; decide) (by rw [c21_5]; decide) (by rw [c21_5]; rfl) (by decide) ?_
      refine r_aload_n X dX11_passer_92 rfl 0 rfl ?_
      refine r_getIN X (k := 8) (Lp_N eq4 rfl) eq4 rfl (by decide) ui_4 (by decide) hl145 rfl dX11_passer_93 ?_
      exact r_iret2 X rfl dX11_passer_96 h
    have h := ite_n c21_5 h
    refine r_tout (tgt := 97) X dX11_passer_21 (tsw_out 6 (fun j hj => by rcases (show j = 0 ∨ j = 1 ∨ j = 2 ∨ j = 3 ∨ j = 4 ∨ j = 5 by omega) with rfl | rfl | rfl | rfl | rfl | rfl <;> assumption) (by decide)) (by decide) ?_
    refine r_iconst (v := (-1)) X dX11_passer_97 (by decide) ?_
    exact r_iret2 X rfl dX11_passer_98 h
  · refine r_iconst (v := (-1)) X dX11_passer_8 (by decide) ?_
    exact r_iret2 X rfl dX11_passer_9 h
noncomputable def f_X11_tune (p1 : Int32) (p2 : Int32) (mem : Mm) : Option (Int32 × Mm) :=
  if p1 < 0 then (some ((-1), mem)) else (grd (decide (Lp.1 (gR mem 0 2) = 7)) (bnd (gR mem 0 2) fun q1 => if (gI mem q1 6) ≤ p1 then (some ((-1), mem)) else (if ((5)) ≤ p1 then (some ((-1), mem)) else (if p2 < 0 then (some ((-1), mem)) else (if p2 < ((9)) then (grd (decide (Lp.1 (gR mem 0 2) = 7)) (bnd (gR mem 0 2) fun q2 => grd (inb p1 (Lp.2.1 (q2 + 2))) (if (gI mem (q2 + 2) p1.toNatClampNeg) ≤ p2 then (some ((-1), mem)) else (grd (decide (Lp.1 (gR mem 0 2) = 7)) (bnd (gR mem 0 2) fun q3 => grd (inb p1 (Lp.2.1 (q3 + 3))) (bnd (q3 + 3 + (1 + p1.toNatClampNeg)) fun q4 => grd (inb p2 (Lp.2.1 q4)) (some (gI mem q4 p2.toNatClampNeg, mem)))))))) else (some ((-1), mem)))))))
theorem dd_X11_tune : yX11_tune.cls = RX11 ∧ yX11_tune.cls ≠ "java/lang/invoke/MethodHandle" ∧ yX11_tune.cls ≠ "java/lang/invoke/VarHandle" ∧ (parseMethodDescriptor yX11_tune.desc).map (fun d => d.parameters.length) = some 2 := by decide +kernel
set_option maxHeartbeats 4000000 in
set_option maxRecDepth 100000 in
theorem k_X11_tune {l : Launch} {ad : Nat → Nat} {cy : Nat → ClassId} {dC : Nat → ClassId} {dI : Nat → Nat → Nat} {ks : (Nat → Nat) × (Nat → Nat)} {p1 : Int32} {p2 : Int32} {mem : Mm} {r2 : Int32} {mem2 : Mm}  (h : f_X11_tune p1 p2 mem = some (r2, mem2)) : CtI l Lp ad cy dC dI ks yX11_tune cX11_tune 3 (some .int) ({ frames := 0, cells := 0, slots := 0, locals := 0 }) [.ref (ad (0)), .int (p1), .int (p2)] mem r2 mem2 := by
  refine CtI.of (cc := cX11_tune) (maxL := 3) (ret := (some .int)) (own := RX11) rfl (by decide) (Nat.le_of_ble_eq_true rfl) ?_
  intro p e s m args below meth c A X
  have hts := X.2.2.2.2.1
  have hl148 := X.2.2.2.2.2.2.1 (.fieldLinkNest "StationPiano" 148 "StationPiano$Station" "tuneCount" "I" "StationPiano") (List.mem_of_getElem? (i := 36) rfl)
  have hl151 := X.2.2.2.2.2.2.1 (.fieldLinkNest "StationPiano" 151 "StationPiano$Station" "tuneLengths" "[I" "StationPiano") (List.mem_of_getElem? (i := 26) rfl)
  have hl154 := X.2.2.2.2.2.2.1 (.fieldLinkNest "StationPiano" 154 "StationPiano$Station" "tuneKeys" "[[I" "StationPiano") (List.mem_of_getElem? (i := 28) rfl)
  unfold f_X11_tune at h
  refine r_iload_n X dX11_tune_0 rfl 1 rfl ?_
  refine r_if_lt (tgt := 30) X dX11_tune_1 (by decide) h (fun h => ?_) (fun h => ?_)
  · refine r_iconst (v := (-1)) X dX11_tune_30 (by decide) ?_
    exact r_iret2 X rfl dX11_tune_31 h
  · refine r_iload_n X dX11_tune_4 rfl 1 rfl ?_
    refine r_aload_n X dX11_tune_5 rfl 0 rfl ?_
    refine r_getR X 7 (k := 2) (Lp_N Lpk_0 rfl) Lpk_0 rfl (by decide) ui_11 (by decide) uw2_185 rfl h dX11_tune_6 (fun q1 eq1 h => ?_)
    refine r_getIN X (k := 6) (Lp_N eq1 rfl) eq1 rfl (by decide) ui_7 (by decide) hl148 rfl dX11_tune_9 ?_
    refine r_icmp_ge (tgt := 30) X dX11_tune_12 (by decide) h (fun h => ?_) (fun h => ?_)
    · refine r_iconst (v := (-1)) X dX11_tune_30 (by decide) ?_
      exact r_iret2 X rfl dX11_tune_31 h
    · refine r_iload_n X dX11_tune_15 rfl 1 rfl ?_
      refine r_iconst (v := (5)) X dX11_tune_16 (by decide) ?_
      refine r_icmp_ge (tgt := 30) X dX11_tune_17 (by decide) h (fun h => ?_) (fun h => ?_)
      · refine r_iconst (v := (-1)) X dX11_tune_30 (by decide) ?_
        exact r_iret2 X rfl dX11_tune_31 h
      · refine r_iload_n X dX11_tune_20 rfl 2 rfl ?_
        refine r_if_lt (tgt := 30) X dX11_tune_21 (by decide) h (fun h => ?_) (fun h => ?_)
        · refine r_iconst (v := (-1)) X dX11_tune_30 (by decide) ?_
          exact r_iret2 X rfl dX11_tune_31 h
        · refine r_iload_n X dX11_tune_24 rfl 2 rfl ?_
          refine r_bipush (v := (9)) X dX11_tune_25 (by decide) ?_
          refine r_icmp_lt (tgt := 32) X dX11_tune_27 (by decide) h (fun h => ?_) (fun h => ?_)
          · refine r_iload_n X dX11_tune_32 rfl 2 rfl ?_
            refine r_aload_n X dX11_tune_33 rfl 0 rfl ?_
            refine r_getR X 7 (k := 2) (Lp_N Lpk_0 rfl) Lpk_0 rfl (by decide) ui_11 (by decide) uw2_185 rfl h dX11_tune_34 (fun q2 eq2 h => ?_)
            refine r_getFN X (k := 1) (of := 2) rfl (Lp_N eq2 rfl) eq2 rfl (by decide) ui_7 (by decide) hl151 rfl dX11_tune_37 ?_
            refine r_iload_n X dX11_tune_40 rfl 1 rfl ?_
            refine r_iald X (Lp_N (Lp_7_1 eq2) rfl) (Lp_7_1 eq2) h dX11_tune_41 (fun h => ?_)
            refine r_icmp_ge (tgt := 59) X dX11_tune_42 (by decide) h (fun h => ?_) (fun h => ?_)
            · refine r_iconst (v := (-1)) X dX11_tune_59 (by decide) ?_
              exact r_iret2 X rfl dX11_tune_60 h
            · refine r_aload_n X dX11_tune_45 rfl 0 rfl ?_
              refine r_getR X 7 (k := 2) (Lp_N Lpk_0 rfl) Lpk_0 rfl (by decide) ui_11 (by decide) uw2_185 rfl h dX11_tune_46 (fun q3 eq3 h => ?_)
              refine r_getFN X (k := 2) (of := 3) rfl (Lp_N eq3 rfl) eq3 rfl (by decide) ui_7 (by decide) hl154 rfl dX11_tune_49 ?_
              refine r_iload_n X dX11_tune_52 rfl 1 rfl ?_
              refine r_ald20 X (Lp_N (Lp_7_2 eq3) rfl) (Lp_7_2 eq3) (Lp_e20 (Lp_7_2 eq3)) rfl h dX11_tune_53 (fun q4 eq4 h => ?_)
              refine r_iload_n X dX11_tune_54 rfl 2 rfl ?_
              refine r_iald X (Lp_N eq4 rfl) eq4 h dX11_tune_55 (fun h => ?_)
              refine r_goto (tgt := 60) X dX11_tune_56 (by decide) ?_
              exact r_iret2 X rfl dX11_tune_60 h
          · refine r_iconst (v := (-1)) X dX11_tune_30 (by decide) ?_
            exact r_iret2 X rfl dX11_tune_31 h
noncomputable def f_X11_isKey (p0 : Int32) (mem : Mm) : Option (Int32 × Mm) :=
  if p0 < 0 then (grd (bok ((0))) (some ((0), mem))) else (if ((12)) ≤ p0 then (grd (bok ((0))) (some ((0), mem))) else (grd (bok ((1))) (some ((1), mem))))
theorem dd_X11_isKey : yX11_isKey.cls ≠ "java/lang/invoke/MethodHandle" ∧ yX11_isKey.cls ≠ "java/lang/invoke/VarHandle" ∧ (parseMethodDescriptor yX11_isKey.desc).map (fun d => d.parameters.length) = some 1 := by decide +kernel
set_option maxHeartbeats 4000000 in
set_option maxRecDepth 100000 in
theorem k_X11_isKey {l : Launch} {ad : Nat → Nat} {cy : Nat → ClassId} {dC : Nat → ClassId} {dI : Nat → Nat → Nat} {ks : (Nat → Nat) × (Nat → Nat)} {p0 : Int32} {mem : Mm} {r2 : Int32} {mem2 : Mm}  (h : f_X11_isKey p0 mem = some (r2, mem2)) : CtI l Lp ad cy dC dI ks yX11_isKey cX11_isKey 1 (some .boolean) ({ frames := 0, cells := 0, slots := 0, locals := 0 }) [.int (p0)] mem r2 mem2 := by
  refine CtI.of (cc := cX11_isKey) (maxL := 1) (ret := (some .boolean)) (own := RX11) rfl (by decide) (Nat.le_of_ble_eq_true rfl) ?_
  intro p e s m args below meth c A X
  have hts := X.2.2.2.2.1
  unfold f_X11_isKey at h
  refine r_iload_n X dX11_isKey_0 rfl 0 rfl ?_
  refine r_if_lt (tgt := 14) X dX11_isKey_1 (by decide) h (fun h => ?_) (fun h => ?_)
  · refine r_iconst (v := (0)) X dX11_isKey_14 (by decide) ?_
    exact r_zret2 X rfl dX11_isKey_15 h
  · refine r_iload_n X dX11_isKey_4 rfl 0 rfl ?_
    refine r_bipush (v := (12)) X dX11_isKey_5 (by decide) ?_
    refine r_icmp_ge (tgt := 14) X dX11_isKey_7 (by decide) h (fun h => ?_) (fun h => ?_)
    · refine r_iconst (v := (0)) X dX11_isKey_14 (by decide) ?_
      exact r_zret2 X rfl dX11_isKey_15 h
    · refine r_iconst (v := (1)) X dX11_isKey_10 (by decide) ?_
      refine r_goto (tgt := 15) X dX11_isKey_11 (by decide) ?_
      exact r_zret2 X rfl dX11_isKey_15 h
noncomputable def f_X11_key (p1 : Int32) (mem : Mm) : Option (Int32 × Mm) :=
  bdI (f_X11_isKey p1 mem) fun x2 m1 => if x2 = 0 then (some ((-1), m1)) else (grd (inb p1 12) (some (gI m1 65 p1.toNatClampNeg, m1)))
theorem dd_X11_key : yX11_key.cls = RX11 ∧ yX11_key.cls ≠ "java/lang/invoke/MethodHandle" ∧ yX11_key.cls ≠ "java/lang/invoke/VarHandle" ∧ (parseMethodDescriptor yX11_key.desc).map (fun d => d.parameters.length) = some 1 := by decide +kernel
set_option maxHeartbeats 4000000 in
set_option maxRecDepth 100000 in
theorem k_X11_key {l : Launch} {ad : Nat → Nat} {cy : Nat → ClassId} {dC : Nat → ClassId} {dI : Nat → Nat → Nat} {ks : (Nat → Nat) × (Nat → Nat)} {p1 : Int32} {mem : Mm} {r2 : Int32} {mem2 : Mm}  (h : f_X11_key p1 mem = some (r2, mem2)) : CtI l Lp ad cy dC dI ks yX11_key cX11_key 2 (some .int) ({ frames := 1, cells := 0, slots := 0, locals := 20 }) [.ref (ad (0)), .int (p1)] mem r2 mem2 := by
  refine CtI.of (cc := cX11_key) (maxL := 2) (ret := (some .int)) (own := RX11) rfl (by decide) (Nat.le_of_ble_eq_true rfl) ?_
  intro p e s m args below meth c A X
  have hts := X.2.2.2.2.1
  have hl161 := X.2.2.2.2.2.2.1 (.fieldLinkNest "StationPiano" 161 "StationPiano$State" "wear" "[I" "StationPiano") (List.mem_of_getElem? (i := 55) rfl)
  unfold f_X11_key at h
  refine r_iload_n X dX11_key_0 rfl 1 rfl ?_
  refine r_cSI (As := [.int (p1)]) (rest := []) X (fun r9 m9 hg => k_X11_isKey hg) h uw4_54 uw4_55 uw1_1 uw4_56 rfl rfl dd_X11_isKey ⟨Nat.le_of_ble_eq_true rfl, Nat.le_of_ble_eq_true rfl⟩ rfl (Nat.le_of_ble_eq_true rfl) dX11_key_1 rfl (fun x2 m1 h => ?_)
  refine r_if_eq (tgt := 19) X dX11_key_4 (by decide) h (fun h => ?_) (fun h => ?_)
  · refine r_iconst (v := (-1)) X dX11_key_19 (by decide) ?_
    exact r_iret2 X rfl dX11_key_20 h
  · refine r_aload_n X dX11_key_7 rfl 0 rfl ?_
    refine r_getF X (k := 4) (of := 64) rfl (Lp_N Lpk_0 rfl) Lpk_0 rfl (by decide) ui_11 (by decide) uw2_187 rfl dX11_key_8 ?_
    refine r_getFN X (k := 0) (of := 1) rfl (Lp_N Lpk_64 rfl) Lpk_64 rfl (by decide) ui_6 (by decide) hl161 rfl dX11_key_11 ?_
    refine r_iload_n X dX11_key_14 rfl 1 rfl ?_
    refine r_iald X (Lp_N Lpk_65 rfl) Lpk_65 h dX11_key_15 (fun h => ?_)
    refine r_goto (tgt := 20) X dX11_key_16 (by decide) ?_
    exact r_iret2 X rfl dX11_key_20 h
noncomputable def f_X11_tryDay (p1 : Int32) (mem : Mm) : Option (Int32 × Mm) :=
  bdV (f_X6_copyFrom 66 64 mem) fun m1 => grd (decide (Lp.1 (gR m1 0 2) = 7)) (bnd (gR m1 0 2) fun q2 => bdV (f_X1_prepare q2 (gI m1 66 2) m1) fun m3 => bdV (f_X1_pass 66 p1 m3) fun m4 => some (gI m4 82 10, m4))
theorem dd_X11_tryDay : yX11_tryDay.cls = RX11 ∧ yX11_tryDay.cls ≠ "java/lang/invoke/MethodHandle" ∧ yX11_tryDay.cls ≠ "java/lang/invoke/VarHandle" ∧ (parseMethodDescriptor yX11_tryDay.desc).map (fun d => d.parameters.length) = some 1 := by decide +kernel
set_option maxHeartbeats 4000000 in
set_option maxRecDepth 100000 in
theorem k_X11_tryDay {l : Launch} {ad : Nat → Nat} {cy : Nat → ClassId} {dC : Nat → ClassId} {dI : Nat → Nat → Nat} {ks : (Nat → Nat) × (Nat → Nat)} {p1 : Int32} {mem : Mm} {r2 : Int32} {mem2 : Mm}  (h : f_X11_tryDay p1 mem = some (r2, mem2)) : CtI l Lp ad cy dC dI ks yX11_tryDay cX11_tryDay 2 (some .int) ({ frames := 5, cells := 0, slots := 0, locals := 112 }) [.ref (ad (0)), .int (p1)] mem r2 mem2 := by
  refine CtI.of (cc := cX11_tryDay) (maxL := 2) (ret := (some .int)) (own := RX11) rfl (by decide) (Nat.le_of_ble_eq_true rfl) ?_
  intro p e s m args below meth c A X
  have hts := X.2.2.2.2.1
  have hl138 := X.2.2.2.2.2.2.1 (.fieldLinkNest "StationPiano" 138 "StationPiano$State" "minutes" "I" "StationPiano") (List.mem_of_getElem? (i := 57) rfl)
  have hl190 := X.2.2.2.2.2.2.1 (.fieldLinkNest "StationPiano" 190 "StationPiano$DayRun" "joySum" "I" "StationPiano") (List.mem_of_getElem? (i := 75) rfl)
  unfold f_X11_tryDay at h
  refine r_aload_n X dX11_tryDay_0 rfl 0 rfl ?_
  refine r_getF X (k := 5) (of := 66) rfl (Lp_N Lpk_0 rfl) Lpk_0 rfl (by decide) ui_11 (by decide) uw2_188 rfl dX11_tryDay_1 ?_
  refine r_aload_n X dX11_tryDay_4 rfl 0 rfl ?_
  refine r_getF X (k := 4) (of := 64) rfl (Lp_N Lpk_0 rfl) Lpk_0 rfl (by decide) ui_11 (by decide) uw2_187 rfl dX11_tryDay_5 ?_
  refine r_cVV (As := [.ref (ad (64))]) (rest := []) X (fun m9 hg => k_X6_copyFrom Lpk_66 Lpk_64 hg) h (Lp_N Lpk_66 rfl) Lpk_66 rfl (by decide) uw4_65 uw4_66 uw4_67 uw1_7 uw4_68 rfl rfl dd_X6_copyFrom ⟨Nat.le_of_ble_eq_true rfl, Nat.le_of_ble_eq_true rfl⟩ rfl (Nat.le_of_ble_eq_true rfl) dX11_tryDay_8 rfl (fun m1 h => ?_)
  refine r_aload_n X dX11_tryDay_11 rfl 0 rfl ?_
  refine r_getF X (k := 10) (of := 82) rfl (Lp_N Lpk_0 rfl) Lpk_0 rfl (by decide) ui_11 (by decide) uw2_193 rfl dX11_tryDay_12 ?_
  refine r_aload_n X dX11_tryDay_15 rfl 0 rfl ?_
  refine r_getR X 7 (k := 2) (Lp_N Lpk_0 rfl) Lpk_0 rfl (by decide) ui_11 (by decide) uw2_185 rfl h dX11_tryDay_16 (fun q2 eq2 h => ?_)
  refine r_aload_n X dX11_tryDay_19 rfl 0 rfl ?_
  refine r_getF X (k := 5) (of := 66) rfl (Lp_N Lpk_0 rfl) Lpk_0 rfl (by decide) ui_11 (by decide) uw2_188 rfl dX11_tryDay_20 ?_
  refine r_getIN X (k := 2) (Lp_N Lpk_66 rfl) Lpk_66 rfl (by decide) ui_6 (by decide) hl138 rfl dX11_tryDay_23 ?_
  refine r_cVV (As := [.ref (ad (q2)), .int (gI m1 66 2)]) (rest := []) X (fun m9 hg => k_X1_prepare eq2 hg) h (Lp_N Lpk_82 rfl) Lpk_82 rfl (by decide) uw4_69 uw4_70 uw4_71 uw1_11 uw4_72 rfl rfl dd_X1_prepare ⟨Nat.le_of_ble_eq_true rfl, Nat.le_of_ble_eq_true rfl⟩ rfl (Nat.le_of_ble_eq_true rfl) dX11_tryDay_26 rfl (fun m3 h => ?_)
  refine r_aload_n X dX11_tryDay_29 rfl 0 rfl ?_
  refine r_getF X (k := 10) (of := 82) rfl (Lp_N Lpk_0 rfl) Lpk_0 rfl (by decide) ui_11 (by decide) uw2_193 rfl dX11_tryDay_30 ?_
  refine r_aload_n X dX11_tryDay_33 rfl 0 rfl ?_
  refine r_getF X (k := 5) (of := 66) rfl (Lp_N Lpk_0 rfl) Lpk_0 rfl (by decide) ui_11 (by decide) uw2_188 rfl dX11_tryDay_34 ?_
  refine r_iload_n X dX11_tryDay_37 rfl 1 rfl ?_
  refine r_cVV (As := [.ref (ad (66)), .int (p1)]) (rest := []) X (fun m9 hg => k_X1_pass Lpk_66 hg) h (Lp_N Lpk_82 rfl) Lpk_82 rfl (by decide) uw4_96 uw4_97 uw4_98 uw1_11 uw4_99 rfl rfl dd_X1_pass ⟨Nat.le_of_ble_eq_true rfl, Nat.le_of_ble_eq_true rfl⟩ rfl (Nat.le_of_ble_eq_true rfl) dX11_tryDay_38 rfl (fun m4 h => ?_)
  refine r_aload_n X dX11_tryDay_41 rfl 0 rfl ?_
  refine r_getF X (k := 10) (of := 82) rfl (Lp_N Lpk_0 rfl) Lpk_0 rfl (by decide) ui_11 (by decide) uw2_193 rfl dX11_tryDay_42 ?_
  refine r_getIN X (k := 10) (Lp_N Lpk_82 rfl) Lpk_82 rfl (by decide) ui_1 (by decide) hl190 rfl dX11_tryDay_45 ?_
  exact r_iret2 X rfl dX11_tryDay_48 h
noncomputable def f_X11_begins (p1 : Int32) (mem : Mm) : Option (Int32 × Mm) :=
  bdI (f_X11_isPasser p1 mem) fun x2 m1 => if ¬ x2 = 0 then (bdI (f_X11_tryDay ((0)) m1) fun x4 m3 => grd (inb p1 7) (some (gI m3 83 p1.toNatClampNeg, m3))) else (some ((-1), m1))
theorem dd_X11_begins : yX11_begins.cls = RX11 ∧ yX11_begins.cls ≠ "java/lang/invoke/MethodHandle" ∧ yX11_begins.cls ≠ "java/lang/invoke/VarHandle" ∧ (parseMethodDescriptor yX11_begins.desc).map (fun d => d.parameters.length) = some 1 := by decide +kernel
set_option maxHeartbeats 4000000 in
set_option maxRecDepth 100000 in
theorem k_X11_begins {l : Launch} {ad : Nat → Nat} {cy : Nat → ClassId} {dC : Nat → ClassId} {dI : Nat → Nat → Nat} {ks : (Nat → Nat) × (Nat → Nat)} {p1 : Int32} {mem : Mm} {r2 : Int32} {mem2 : Mm}  (h : f_X11_begins p1 mem = some (r2, mem2)) : CtI l Lp ad cy dC dI ks yX11_begins cX11_begins 2 (some .int) ({ frames := 6, cells := 0, slots := 0, locals := 133 }) [.ref (ad (0)), .int (p1)] mem r2 mem2 := by
  refine CtI.of (cc := cX11_begins) (maxL := 2) (ret := (some .int)) (own := RX11) rfl (by decide) (Nat.le_of_ble_eq_true rfl) ?_
  intro p e s m args below meth c A X
  have hts := X.2.2.2.2.1
  have hl167 := X.2.2.2.2.2.2.1 (.fieldLinkNest "StationPiano" 167 "StationPiano$DayRun" "beginOf" "[I" "StationPiano") (List.mem_of_getElem? (i := 72) rfl)
  unfold f_X11_begins at h
  refine r_aload_n X dX11_begins_0 rfl 0 rfl ?_
  refine r_iload_n X dX11_begins_1 rfl 1 rfl ?_
  refine r_cVI (As := [.int (p1)]) (rest := []) X (fun r9 m9 hg => k_X11_isPasser hg) h (Lp_N Lpk_0 rfl) Lpk_0 rfl (by decide) uw4_38 uw4_40 us2_7 uw1_1 uw4_41 rfl rfl dd_X11_isPasser ⟨Nat.le_of_ble_eq_true rfl, Nat.le_of_ble_eq_true rfl⟩ rfl (Nat.le_of_ble_eq_true rfl) dX11_begins_2 rfl (fun x2 m1 h => ?_)
  refine r_if_ne (tgt := 10) X dX11_begins_5 (by decide) h (fun h => ?_) (fun h => ?_)
  · refine r_aload_n X dX11_begins_10 rfl 0 rfl ?_
    refine r_iconst (v := (0)) X dX11_begins_11 (by decide) ?_
    refine r_cVI (As := [.int ((0))]) (rest := []) X (fun r9 m9 hg => k_X11_tryDay hg) h (Lp_N Lpk_0 rfl) Lpk_0 rfl (by decide) uw4_61 uw4_63 us2_8 uw1_1 uw4_64 rfl rfl dd_X11_tryDay ⟨Nat.le_of_ble_eq_true rfl, Nat.le_of_ble_eq_true rfl⟩ rfl (Nat.le_of_ble_eq_true rfl) dX11_begins_12 rfl (fun x4 m3 h => ?_)
    refine r_pop X dX11_begins_15 rfl ?_
    refine r_aload_n X dX11_begins_16 rfl 0 rfl ?_
    refine r_getF X (k := 10) (of := 82) rfl (Lp_N Lpk_0 rfl) Lpk_0 rfl (by decide) ui_11 (by decide) uw2_193 rfl dX11_begins_17 ?_
    refine r_getFN X (k := 0) (of := 1) rfl (Lp_N Lpk_82 rfl) Lpk_82 rfl (by decide) ui_1 (by decide) hl167 rfl dX11_begins_20 ?_
    refine r_iload_n X dX11_begins_23 rfl 1 rfl ?_
    refine r_iald X (Lp_N Lpk_83 rfl) Lpk_83 h dX11_begins_24 (fun h => ?_)
    exact r_iret2 X rfl dX11_begins_25 h
  · refine r_iconst (v := (-1)) X dX11_begins_8 (by decide) ?_
    exact r_iret2 X rfl dX11_begins_9 h
noncomputable def f_X11_ends (p1 : Int32) (mem : Mm) : Option (Int32 × Mm) :=
  bdI (f_X11_isPasser p1 mem) fun x2 m1 => if ¬ x2 = 0 then (bdI (f_X11_tryDay ((0)) m1) fun x4 m3 => grd (inb p1 7) (some (gI m3 84 p1.toNatClampNeg, m3))) else (some ((-1), m1))
theorem dd_X11_ends : yX11_ends.cls = RX11 ∧ yX11_ends.cls ≠ "java/lang/invoke/MethodHandle" ∧ yX11_ends.cls ≠ "java/lang/invoke/VarHandle" ∧ (parseMethodDescriptor yX11_ends.desc).map (fun d => d.parameters.length) = some 1 := by decide +kernel
set_option maxHeartbeats 4000000 in
set_option maxRecDepth 100000 in
theorem k_X11_ends {l : Launch} {ad : Nat → Nat} {cy : Nat → ClassId} {dC : Nat → ClassId} {dI : Nat → Nat → Nat} {ks : (Nat → Nat) × (Nat → Nat)} {p1 : Int32} {mem : Mm} {r2 : Int32} {mem2 : Mm}  (h : f_X11_ends p1 mem = some (r2, mem2)) : CtI l Lp ad cy dC dI ks yX11_ends cX11_ends 2 (some .int) ({ frames := 6, cells := 0, slots := 0, locals := 133 }) [.ref (ad (0)), .int (p1)] mem r2 mem2 := by
  refine CtI.of (cc := cX11_ends) (maxL := 2) (ret := (some .int)) (own := RX11) rfl (by decide) (Nat.le_of_ble_eq_true rfl) ?_
  intro p e s m args below meth c A X
  have hts := X.2.2.2.2.1
  have hl170 := X.2.2.2.2.2.2.1 (.fieldLinkNest "StationPiano" 170 "StationPiano$DayRun" "endOf" "[I" "StationPiano") (List.mem_of_getElem? (i := 73) rfl)
  unfold f_X11_ends at h
  refine r_aload_n X dX11_ends_0 rfl 0 rfl ?_
  refine r_iload_n X dX11_ends_1 rfl 1 rfl ?_
  refine r_cVI (As := [.int (p1)]) (rest := []) X (fun r9 m9 hg => k_X11_isPasser hg) h (Lp_N Lpk_0 rfl) Lpk_0 rfl (by decide) uw4_38 uw4_40 us2_7 uw1_1 uw4_41 rfl rfl dd_X11_isPasser ⟨Nat.le_of_ble_eq_true rfl, Nat.le_of_ble_eq_true rfl⟩ rfl (Nat.le_of_ble_eq_true rfl) dX11_ends_2 rfl (fun x2 m1 h => ?_)
  refine r_if_ne (tgt := 10) X dX11_ends_5 (by decide) h (fun h => ?_) (fun h => ?_)
  · refine r_aload_n X dX11_ends_10 rfl 0 rfl ?_
    refine r_iconst (v := (0)) X dX11_ends_11 (by decide) ?_
    refine r_cVI (As := [.int ((0))]) (rest := []) X (fun r9 m9 hg => k_X11_tryDay hg) h (Lp_N Lpk_0 rfl) Lpk_0 rfl (by decide) uw4_61 uw4_63 us2_8 uw1_1 uw4_64 rfl rfl dd_X11_tryDay ⟨Nat.le_of_ble_eq_true rfl, Nat.le_of_ble_eq_true rfl⟩ rfl (Nat.le_of_ble_eq_true rfl) dX11_ends_12 rfl (fun x4 m3 h => ?_)
    refine r_pop X dX11_ends_15 rfl ?_
    refine r_aload_n X dX11_ends_16 rfl 0 rfl ?_
    refine r_getF X (k := 10) (of := 82) rfl (Lp_N Lpk_0 rfl) Lpk_0 rfl (by decide) ui_11 (by decide) uw2_193 rfl dX11_ends_17 ?_
    refine r_getFN X (k := 1) (of := 2) rfl (Lp_N Lpk_82 rfl) Lpk_82 rfl (by decide) ui_1 (by decide) hl170 rfl dX11_ends_20 ?_
    refine r_iload_n X dX11_ends_23 rfl 1 rfl ?_
    refine r_iald X (Lp_N Lpk_84 rfl) Lpk_84 h dX11_ends_24 (fun h => ?_)
    exact r_iret2 X rfl dX11_ends_25 h
  · refine r_iconst (v := (-1)) X dX11_ends_8 (by decide) ?_
    exact r_iret2 X rfl dX11_ends_9 h
noncomputable def f_X11_now_J78 (p1 : Int32) (k20 : Int32 → Mm → Option (Int32 × Mm)) (x6 : Int32) (m7 : Mm) : Option (Int32 × Mm) :=
  bnd (x6 + (1)) fun x8 => k20 x8 m7
noncomputable def f_X11_now_B20 (p1 : Int32) (k20 : Int32 → Mm → Option (Int32 × Mm)) (x3 : Int32) (m4 : Mm) : Option (Int32 × Mm) :=
  grd (decide (Lp.1 (gR m4 0 2) = 7)) (bnd (gR m4 0 2) fun q5 => if (gI m4 q5 7) ≤ x3 then (some ((-1), m4)) else (if ((7)) ≤ x3 then (some ((-1), m4)) else (grd (inb x3 7) (if (gI m4 83 x3.toNatClampNeg) = ((-1)) then (f_X11_now_J78 p1 k20 x3 m4) else (grd (inb x3 7) (if p1 < (gI m4 83 x3.toNatClampNeg) then (f_X11_now_J78 p1 k20 x3 m4) else (grd (inb x3 7) (if (gI m4 84 x3.toNatClampNeg) ≤ p1 then (f_X11_now_J78 p1 k20 x3 m4) else (some (x3, m4))))))))))
noncomputable def f_X11_now (p1 : Int32) (mem : Mm) : Option (Int32 × Mm) :=
  if p1 < 0 then (some ((-1), mem)) else (if p1 < ((60)) then (bdI (f_X11_tryDay ((0)) mem) fun x2 m1 => lop (fun _ _ => none) (f_X11_now_B20 p1 ) 4000 ((0)) m1) else (some ((-1), mem)))
theorem dd_X11_now : yX11_now.cls = RX11 ∧ yX11_now.cls ≠ "java/lang/invoke/MethodHandle" ∧ yX11_now.cls ≠ "java/lang/invoke/VarHandle" ∧ (parseMethodDescriptor yX11_now.desc).map (fun d => d.parameters.length) = some 1 := by decide +kernel
set_option maxHeartbeats 4000000 in
set_option maxRecDepth 100000 in
theorem k_X11_now {l : Launch} {ad : Nat → Nat} {cy : Nat → ClassId} {dC : Nat → ClassId} {dI : Nat → Nat → Nat} {ks : (Nat → Nat) × (Nat → Nat)} {p1 : Int32} {mem : Mm} {r2 : Int32} {mem2 : Mm}  (h : f_X11_now p1 mem = some (r2, mem2)) : CtI l Lp ad cy dC dI ks yX11_now cX11_now 3 (some .int) ({ frames := 6, cells := 0, slots := 0, locals := 133 }) [.ref (ad (0)), .int (p1)] mem r2 mem2 := by
  refine CtI.of (cc := cX11_now) (maxL := 3) (ret := (some .int)) (own := RX11) rfl (by decide) (Nat.le_of_ble_eq_true rfl) ?_
  intro p e s m args below meth c A X
  have hts := X.2.2.2.2.1
  have hl167 := X.2.2.2.2.2.2.1 (.fieldLinkNest "StationPiano" 167 "StationPiano$DayRun" "beginOf" "[I" "StationPiano") (List.mem_of_getElem? (i := 72) rfl)
  have hl170 := X.2.2.2.2.2.2.1 (.fieldLinkNest "StationPiano" 170 "StationPiano$DayRun" "endOf" "[I" "StationPiano") (List.mem_of_getElem? (i := 73) rfl)
  have hl173 := X.2.2.2.2.2.2.1 (.fieldLinkNest "StationPiano" 173 "StationPiano$Station" "passerCount" "I" "StationPiano") (List.mem_of_getElem? (i := 40) rfl)
  have hJ78 : ∀ (k20 : Int32 → Mm → Option (Int32 × Mm)) (hk20 : ∀ (x3 : Int32) (m4 : Mm), k20 x3 m4 = some (r2, mem2) → Jd p l e ({ frames := 6, cells := 0, slots := 0, locals := 133 }) s m args below meth c 3 (MQ below (PsI Lp ad cy dC dI r2 mem2 A) args s 0 0 A) A dC dI cy Lp ad m4 20 [(0, .ref (ad (0))), (1, .int (p1)), (2, .int (x3))] []) (x6 : Int32) (m7 : Mm), f_X11_now_J78 p1 k20 x6 m7 = some (r2, mem2) → Jd p l e ({ frames := 6, cells := 0, slots := 0, locals := 133 }) s m args below meth c 3 (MQ below (PsI Lp ad cy dC dI r2 mem2 A) args s 0 0 A) A dC dI cy Lp ad m7 78 [(0, .ref (ad (0))), (1, .int (p1)), (2, .int (x6))] [] := by
    intro k20 hk20 x6 m7 h
    unfold f_X11_now_J78 at h
    refine r_inc h (fun x8 e9 h => ?_)
    refine r_iinc (v := x8) (lv2 := [(2, .int (x8)), (0, .ref (ad (0))), (1, .int (p1))]) X dX11_now_78 2 rfl (by rw [e9]; rfl) (by decide) rfl ?_
    refine r_goto (tgt := 20) X dX11_now_81 (by decide) ?_
    exact r_sub [1, 2, 0] rfl (hk20 x8 m7 h)
  have hJ20 : ∀ (k20 : Int32 → Mm → Option (Int32 × Mm)) (hk20 : ∀ (x3 : Int32) (m4 : Mm), k20 x3 m4 = some (r2, mem2) → Jd p l e ({ frames := 6, cells := 0, slots := 0, locals := 133 }) s m args below meth c 3 (MQ below (PsI Lp ad cy dC dI r2 mem2 A) args s 0 0 A) A dC dI cy Lp ad m4 20 [(0, .ref (ad (0))), (1, .int (p1)), (2, .int (x3))] []) (x3 : Int32) (m4 : Mm), f_X11_now_B20 p1 k20 x3 m4 = some (r2, mem2) → Jd p l e ({ frames := 6, cells := 0, slots := 0, locals := 133 }) s m args below meth c 3 (MQ below (PsI Lp ad cy dC dI r2 mem2 A) args s 0 0 A) A dC dI cy Lp ad m4 20 [(0, .ref (ad (0))), (1, .int (p1)), (2, .int (x3))] [] := by
    intro k20 hk20 x3 m4 h
    unfold f_X11_now_B20 at h
    refine r_iload_n X dX11_now_20 rfl 2 rfl ?_
    refine r_aload_n X dX11_now_21 rfl 0 rfl ?_
    refine r_getR X 7 (k := 2) (Lp_N Lpk_0 rfl) Lpk_0 rfl (by decide) ui_11 (by decide) uw2_185 rfl h dX11_now_22 (fun q5 eq5 h => ?_)
    refine r_getIN X (k := 7) (Lp_N eq5 rfl) eq5 rfl (by decide) ui_7 (by decide) hl173 rfl dX11_now_25 ?_
    refine r_icmp_ge (tgt := 84) X dX11_now_28 (by decide) h (fun h => ?_) (fun h => ?_)
    · refine r_iconst (v := (-1)) X dX11_now_84 (by decide) ?_
      exact r_iret2 X rfl dX11_now_85 h
    · refine r_iload_n X dX11_now_31 rfl 2 rfl ?_
      refine r_bipush (v := (7)) X dX11_now_32 (by decide) ?_
      refine r_icmp_ge (tgt := 84) X dX11_now_34 (by decide) h (fun h => ?_) (fun h => ?_)
      · refine r_iconst (v := (-1)) X dX11_now_84 (by decide) ?_
        exact r_iret2 X rfl dX11_now_85 h
      · refine r_aload_n X dX11_now_37 rfl 0 rfl ?_
        refine r_getF X (k := 10) (of := 82) rfl (Lp_N Lpk_0 rfl) Lpk_0 rfl (by decide) ui_11 (by decide) uw2_193 rfl dX11_now_38 ?_
        refine r_getFN X (k := 0) (of := 1) rfl (Lp_N Lpk_82 rfl) Lpk_82 rfl (by decide) ui_1 (by decide) hl167 rfl dX11_now_41 ?_
        refine r_iload_n X dX11_now_44 rfl 2 rfl ?_
        refine r_iald X (Lp_N Lpk_83 rfl) Lpk_83 h dX11_now_45 (fun h => ?_)
        refine r_iconst (v := (-1)) X dX11_now_46 (by decide) ?_
        refine r_icmp_eq (tgt := 78) X dX11_now_47 (by decide) h (fun h => ?_) (fun h => ?_)
        · exact r_sub [0, 1, 2] rfl (hJ78 k20 hk20 x3 m4 h)
        · refine r_aload_n X dX11_now_50 rfl 0 rfl ?_
          refine r_getF X (k := 10) (of := 82) rfl (Lp_N Lpk_0 rfl) Lpk_0 rfl (by decide) ui_11 (by decide) uw2_193 rfl dX11_now_51 ?_
          refine r_getFN X (k := 0) (of := 1) rfl (Lp_N Lpk_82 rfl) Lpk_82 rfl (by decide) ui_1 (by decide) hl167 rfl dX11_now_54 ?_
          refine r_iload_n X dX11_now_57 rfl 2 rfl ?_
          refine r_iald X (Lp_N Lpk_83 rfl) Lpk_83 h dX11_now_58 (fun h => ?_)
          refine r_iload_n X dX11_now_59 rfl 1 rfl ?_
          refine r_icmp_gt (tgt := 78) X dX11_now_60 (by decide) h (fun h => ?_) (fun h => ?_)
          · exact r_sub [0, 1, 2] rfl (hJ78 k20 hk20 x3 m4 h)
          · refine r_iload_n X dX11_now_63 rfl 1 rfl ?_
            refine r_aload_n X dX11_now_64 rfl 0 rfl ?_
            refine r_getF X (k := 10) (of := 82) rfl (Lp_N Lpk_0 rfl) Lpk_0 rfl (by decide) ui_11 (by decide) uw2_193 rfl dX11_now_65 ?_
            refine r_getFN X (k := 1) (of := 2) rfl (Lp_N Lpk_82 rfl) Lpk_82 rfl (by decide) ui_1 (by decide) hl170 rfl dX11_now_68 ?_
            refine r_iload_n X dX11_now_71 rfl 2 rfl ?_
            refine r_iald X (Lp_N Lpk_84 rfl) Lpk_84 h dX11_now_72 (fun h => ?_)
            refine r_icmp_ge (tgt := 78) X dX11_now_73 (by decide) h (fun h => ?_) (fun h => ?_)
            · exact r_sub [0, 1, 2] rfl (hJ78 k20 hk20 x3 m4 h)
            · refine r_iload_n X dX11_now_76 rfl 2 rfl ?_
              exact r_iret2 X rfl dX11_now_77 h
  have hL20 : ∀ (n : Nat), ∀ (x3 : Int32) (m4 : Mm), lop (fun _ _ => none) (f_X11_now_B20 p1 ) n x3 m4 = some (r2, mem2) → Jd p l e ({ frames := 6, cells := 0, slots := 0, locals := 133 }) s m args below meth c 3 (MQ below (PsI Lp ad cy dC dI r2 mem2 A) args s 0 0 A) A dC dI cy Lp ad m4 20 [(0, .ref (ad (0))), (1, .int (p1)), (2, .int (x3))] [] := by
    intro  n
    induction n with
    | zero => intro _ _ h; cases h
    | succ n ih => intro a0 a1 h; exact hJ20  _ ih a0 a1 h
  unfold f_X11_now at h
  refine r_iload_n X dX11_now_0 rfl 1 rfl ?_
  refine r_if_lt (tgt := 10) X dX11_now_1 (by decide) h (fun h => ?_) (fun h => ?_)
  · refine r_iconst (v := (-1)) X dX11_now_10 (by decide) ?_
    exact r_iret2 X rfl dX11_now_11 h
  · refine r_iload_n X dX11_now_4 rfl 1 rfl ?_
    refine r_bipush (v := (60)) X dX11_now_5 (by decide) ?_
    refine r_icmp_lt (tgt := 12) X dX11_now_7 (by decide) h (fun h => ?_) (fun h => ?_)
    · refine r_aload_n X dX11_now_12 rfl 0 rfl ?_
      refine r_iconst (v := (0)) X dX11_now_13 (by decide) ?_
      refine r_cVI (As := [.int ((0))]) (rest := []) X (fun r9 m9 hg => k_X11_tryDay hg) h (Lp_N Lpk_0 rfl) Lpk_0 rfl (by decide) uw4_61 uw4_63 us2_8 uw1_1 uw4_64 rfl rfl dd_X11_tryDay ⟨Nat.le_of_ble_eq_true rfl, Nat.le_of_ble_eq_true rfl⟩ rfl (Nat.le_of_ble_eq_true rfl) dX11_now_14 rfl (fun x2 m1 h => ?_)
      refine r_pop X dX11_now_17 rfl ?_
      refine r_iconst (v := (0)) X dX11_now_18 (by decide) ?_
      refine r_istore_n (lv2 := [(2, .int ((0))), (0, .ref (ad (0))), (1, .int (p1))]) X dX11_now_19 rfl (by decide) rfl ?_
      exact r_sub [1, 2, 0] rfl (hL20 4000 ((0)) m1 h)
    · refine r_iconst (v := (-1)) X dX11_now_10 (by decide) ?_
      exact r_iret2 X rfl dX11_now_11 h
noncomputable def f_X11_away_J46 (k10 : Int32 → Int32 → Mm → Option (Int32 × Mm)) (x8 : Int32) (x9 : Int32) (m10 : Mm) : Option (Int32 × Mm) :=
  bnd (x9 + (1)) fun x11 => k10 x8 x11 m10
noncomputable def f_X11_away_B10 (k10 : Int32 → Int32 → Mm → Option (Int32 × Mm)) (x3 : Int32) (x4 : Int32) (m5 : Mm) : Option (Int32 × Mm) :=
  grd (decide (Lp.1 (gR m5 0 2) = 7)) (bnd (gR m5 0 2) fun q6 => if (gI m5 q6 7) ≤ x4 then (some (x3, m5)) else (if ((7)) ≤ x4 then (some (x3, m5)) else (grd (inb x4 7) (if ¬ (gI m5 83 x4.toNatClampNeg) = ((-1)) then (f_X11_away_J46 k10 x3 x4 m5) else (bnd (x3 ||| (((1)) <<< (x4 &&& 31))) fun x7 => f_X11_away_J46 k10 x7 x4 m5)))))
noncomputable def f_X11_away  (mem : Mm) : Option (Int32 × Mm) :=
  bdI (f_X11_tryDay ((0)) mem) fun x2 m1 => lop (fun _ _ _ => none) (f_X11_away_B10 ) 4000 ((0)) ((0)) m1
theorem dd_X11_away : yX11_away.cls = RX11 ∧ yX11_away.cls ≠ "java/lang/invoke/MethodHandle" ∧ yX11_away.cls ≠ "java/lang/invoke/VarHandle" ∧ (parseMethodDescriptor yX11_away.desc).map (fun d => d.parameters.length) = some 0 := by decide +kernel
set_option maxHeartbeats 4000000 in
set_option maxRecDepth 100000 in
theorem k_X11_away {l : Launch} {ad : Nat → Nat} {cy : Nat → ClassId} {dC : Nat → ClassId} {dI : Nat → Nat → Nat} {ks : (Nat → Nat) × (Nat → Nat)}  {mem : Mm} {r2 : Int32} {mem2 : Mm}  (h : f_X11_away  mem = some (r2, mem2)) : CtI l Lp ad cy dC dI ks yX11_away cX11_away 3 (some .int) ({ frames := 6, cells := 0, slots := 0, locals := 133 }) [.ref (ad (0))] mem r2 mem2 := by
  refine CtI.of (cc := cX11_away) (maxL := 3) (ret := (some .int)) (own := RX11) rfl (by decide) (Nat.le_of_ble_eq_true rfl) ?_
  intro p e s m args below meth c A X
  have hts := X.2.2.2.2.1
  have hl167 := X.2.2.2.2.2.2.1 (.fieldLinkNest "StationPiano" 167 "StationPiano$DayRun" "beginOf" "[I" "StationPiano") (List.mem_of_getElem? (i := 72) rfl)
  have hl173 := X.2.2.2.2.2.2.1 (.fieldLinkNest "StationPiano" 173 "StationPiano$Station" "passerCount" "I" "StationPiano") (List.mem_of_getElem? (i := 40) rfl)
  have hJ46 : ∀ (k10 : Int32 → Int32 → Mm → Option (Int32 × Mm)) (hk10 : ∀ (x3 : Int32) (x4 : Int32) (m5 : Mm), k10 x3 x4 m5 = some (r2, mem2) → Jd p l e ({ frames := 6, cells := 0, slots := 0, locals := 133 }) s m args below meth c 3 (MQ below (PsI Lp ad cy dC dI r2 mem2 A) args s 0 0 A) A dC dI cy Lp ad m5 10 [(0, .ref (ad (0))), (1, .int (x3)), (2, .int (x4))] []) (x8 : Int32) (x9 : Int32) (m10 : Mm), f_X11_away_J46 k10 x8 x9 m10 = some (r2, mem2) → Jd p l e ({ frames := 6, cells := 0, slots := 0, locals := 133 }) s m args below meth c 3 (MQ below (PsI Lp ad cy dC dI r2 mem2 A) args s 0 0 A) A dC dI cy Lp ad m10 46 [(0, .ref (ad (0))), (1, .int (x8)), (2, .int (x9))] [] := by
    intro k10 hk10 x8 x9 m10 h
    unfold f_X11_away_J46 at h
    refine r_inc h (fun x11 e9 h => ?_)
    refine r_iinc (v := x11) (lv2 := [(2, .int (x11)), (0, .ref (ad (0))), (1, .int (x8))]) X dX11_away_46 2 rfl (by rw [e9]; rfl) (by decide) rfl ?_
    refine r_goto (tgt := 10) X dX11_away_49 (by decide) ?_
    exact r_sub [1, 2, 0] rfl (hk10 x8 x11 m10 h)
  have hJ10 : ∀ (k10 : Int32 → Int32 → Mm → Option (Int32 × Mm)) (hk10 : ∀ (x3 : Int32) (x4 : Int32) (m5 : Mm), k10 x3 x4 m5 = some (r2, mem2) → Jd p l e ({ frames := 6, cells := 0, slots := 0, locals := 133 }) s m args below meth c 3 (MQ below (PsI Lp ad cy dC dI r2 mem2 A) args s 0 0 A) A dC dI cy Lp ad m5 10 [(0, .ref (ad (0))), (1, .int (x3)), (2, .int (x4))] []) (x3 : Int32) (x4 : Int32) (m5 : Mm), f_X11_away_B10 k10 x3 x4 m5 = some (r2, mem2) → Jd p l e ({ frames := 6, cells := 0, slots := 0, locals := 133 }) s m args below meth c 3 (MQ below (PsI Lp ad cy dC dI r2 mem2 A) args s 0 0 A) A dC dI cy Lp ad m5 10 [(0, .ref (ad (0))), (1, .int (x3)), (2, .int (x4))] [] := by
    intro k10 hk10 x3 x4 m5 h
    unfold f_X11_away_B10 at h
    refine r_iload_n X dX11_away_10 rfl 2 rfl ?_
    refine r_aload_n X dX11_away_11 rfl 0 rfl ?_
    refine r_getR X 7 (k := 2) (Lp_N Lpk_0 rfl) Lpk_0 rfl (by decide) ui_11 (by decide) uw2_185 rfl h dX11_away_12 (fun q6 eq6 h => ?_)
    refine r_getIN X (k := 7) (Lp_N eq6 rfl) eq6 rfl (by decide) ui_7 (by decide) hl173 rfl dX11_away_15 ?_
    refine r_icmp_ge (tgt := 52) X dX11_away_18 (by decide) h (fun h => ?_) (fun h => ?_)
    · refine r_iload_n X dX11_away_52 rfl 1 rfl ?_
      exact r_iret2 X rfl dX11_away_53 h
    · refine r_iload_n X dX11_away_21 rfl 2 rfl ?_
      refine r_bipush (v := (7)) X dX11_away_22 (by decide) ?_
      refine r_icmp_ge (tgt := 52) X dX11_away_24 (by decide) h (fun h => ?_) (fun h => ?_)
      · refine r_iload_n X dX11_away_52 rfl 1 rfl ?_
        exact r_iret2 X rfl dX11_away_53 h
      · refine r_aload_n X dX11_away_27 rfl 0 rfl ?_
        refine r_getF X (k := 10) (of := 82) rfl (Lp_N Lpk_0 rfl) Lpk_0 rfl (by decide) ui_11 (by decide) uw2_193 rfl dX11_away_28 ?_
        refine r_getFN X (k := 0) (of := 1) rfl (Lp_N Lpk_82 rfl) Lpk_82 rfl (by decide) ui_1 (by decide) hl167 rfl dX11_away_31 ?_
        refine r_iload_n X dX11_away_34 rfl 2 rfl ?_
        refine r_iald X (Lp_N Lpk_83 rfl) Lpk_83 h dX11_away_35 (fun h => ?_)
        refine r_iconst (v := (-1)) X dX11_away_36 (by decide) ?_
        refine r_icmp_ne (tgt := 46) X dX11_away_37 (by decide) h (fun h => ?_) (fun h => ?_)
        · exact r_sub [0, 1, 2] rfl (hJ46 k10 hk10 x3 x4 m5 h)
        · refine r_iload_n X dX11_away_40 rfl 1 rfl ?_
          refine r_iconst (v := (1)) X dX11_away_41 (by decide) ?_
          refine r_iload_n X dX11_away_42 rfl 2 rfl ?_
          refine r_ishl X dX11_away_43 ?_
          refine r_ior X dX11_away_44 ?_
          refine r_nmI h (fun x7 h => ?_)
          refine r_istore_n (lv2 := [(1, .int (x7)), (0, .ref (ad (0))), (2, .int (x4))]) X dX11_away_45 rfl (by decide) rfl ?_
          exact r_sub [1, 0, 2] rfl (hJ46 k10 hk10 x7 x4 m5 h)
  have hL10 : ∀ (n : Nat), ∀ (x3 : Int32) (x4 : Int32) (m5 : Mm), lop (fun _ _ _ => none) (f_X11_away_B10 ) n x3 x4 m5 = some (r2, mem2) → Jd p l e ({ frames := 6, cells := 0, slots := 0, locals := 133 }) s m args below meth c 3 (MQ below (PsI Lp ad cy dC dI r2 mem2 A) args s 0 0 A) A dC dI cy Lp ad m5 10 [(0, .ref (ad (0))), (1, .int (x3)), (2, .int (x4))] [] := by
    intro  n
    induction n with
    | zero => intro _ _ _ h; cases h
    | succ n ih => intro a0 a1 a2 h; exact hJ10  _ ih a0 a1 a2 h
  unfold f_X11_away at h
  refine r_aload_n X dX11_away_0 rfl 0 rfl ?_
  refine r_iconst (v := (0)) X dX11_away_1 (by decide) ?_
  refine r_cVI (As := [.int ((0))]) (rest := []) X (fun r9 m9 hg => k_X11_tryDay hg) h (Lp_N Lpk_0 rfl) Lpk_0 rfl (by decide) uw4_61 uw4_63 us2_8 uw1_1 uw4_64 rfl rfl dd_X11_tryDay ⟨Nat.le_of_ble_eq_true rfl, Nat.le_of_ble_eq_true rfl⟩ rfl (Nat.le_of_ble_eq_true rfl) dX11_away_2 rfl (fun x2 m1 h => ?_)
  refine r_pop X dX11_away_5 rfl ?_
  refine r_iconst (v := (0)) X dX11_away_6 (by decide) ?_
  refine r_istore_n (lv2 := [(1, .int ((0))), (0, .ref (ad (0)))]) X dX11_away_7 rfl (by decide) rfl ?_
  refine r_iconst (v := (0)) X dX11_away_8 (by decide) ?_
  refine r_istore_n (lv2 := [(2, .int ((0))), (1, .int ((0))), (0, .ref (ad (0)))]) X dX11_away_9 rfl (by decide) rfl ?_
  exact r_sub [2, 1, 0] rfl (hL10 4000 ((0)) ((0)) m1 h)
noncomputable def f_X11_joy  (mem : Mm) : Option (Int32 × Mm) :=
  bdI (f_X11_tryDay ((0)) mem) fun x2 m1 => some (x2, m1)
theorem dd_X11_joy : yX11_joy.cls = RX11 ∧ yX11_joy.cls ≠ "java/lang/invoke/MethodHandle" ∧ yX11_joy.cls ≠ "java/lang/invoke/VarHandle" ∧ (parseMethodDescriptor yX11_joy.desc).map (fun d => d.parameters.length) = some 0 := by decide +kernel
set_option maxHeartbeats 4000000 in
set_option maxRecDepth 100000 in
theorem k_X11_joy {l : Launch} {ad : Nat → Nat} {cy : Nat → ClassId} {dC : Nat → ClassId} {dI : Nat → Nat → Nat} {ks : (Nat → Nat) × (Nat → Nat)}  {mem : Mm} {r2 : Int32} {mem2 : Mm}  (h : f_X11_joy  mem = some (r2, mem2)) : CtI l Lp ad cy dC dI ks yX11_joy cX11_joy 1 (some .int) ({ frames := 6, cells := 0, slots := 0, locals := 133 }) [.ref (ad (0))] mem r2 mem2 := by
  refine CtI.of (cc := cX11_joy) (maxL := 1) (ret := (some .int)) (own := RX11) rfl (by decide) (Nat.le_of_ble_eq_true rfl) ?_
  intro p e s m args below meth c A X
  have hts := X.2.2.2.2.1
  unfold f_X11_joy at h
  refine r_aload_n X dX11_joy_0 rfl 0 rfl ?_
  refine r_iconst (v := (0)) X dX11_joy_1 (by decide) ?_
  refine r_cVI (As := [.int ((0))]) (rest := []) X (fun r9 m9 hg => k_X11_tryDay hg) h (Lp_N Lpk_0 rfl) Lpk_0 rfl (by decide) uw4_61 uw4_63 us2_8 uw1_1 uw4_64 rfl rfl dd_X11_tryDay ⟨Nat.le_of_ble_eq_true rfl, Nat.le_of_ble_eq_true rfl⟩ rfl (Nat.le_of_ble_eq_true rfl) dX11_joy_2 rfl (fun x2 m1 h => ?_)
  exact r_iret2 X rfl dX11_joy_5 h
noncomputable def f_X11_remember_J59 (x6 : Int32) (m7 : Mm) : Option Mm :=
  bnd (sI m7 0 13 x6) fun m8 => bnd (if (gI m8 0 14) + ((1)) < (16) then (gI m8 0 14) + ((1)) else (16)) fun x9 => bnd (sI m8 0 14 x9) fun m10 => some m10
noncomputable def f_X11_remember_J21 (m3 : Mm) : Option Mm :=
  grd (inb (gI m3 0 13) 16) (bnd (132 + (1 + 2 * (gI m3 0 13).toNatClampNeg)) fun q4 => bdV (f_X6_copyFrom q4 64 m3) fun m5 => if ((16)) ≤ ((gI m5 0 13) + ((1))) then (f_X11_remember_J59 ((0)) m5) else (f_X11_remember_J59 ((gI m5 0 13) + ((1))) m5))
noncomputable def f_X11_remember_J16 (m1 : Mm) : Option Mm :=
  bnd (sI m1 0 13 ((0))) fun m2 => f_X11_remember_J21 m2
noncomputable def f_X11_remember  (mem : Mm) : Option Mm :=
  if (gI mem 0 13) < 0 then (f_X11_remember_J16 mem) else (if (gI mem 0 13) < ((16)) then (f_X11_remember_J21 mem) else (f_X11_remember_J16 mem))
theorem dd_X11_remember : yX11_remember.cls = RX11 ∧ yX11_remember.cls ≠ "java/lang/invoke/MethodHandle" ∧ yX11_remember.cls ≠ "java/lang/invoke/VarHandle" ∧ (parseMethodDescriptor yX11_remember.desc).map (fun d => d.parameters.length) = some 0 := by decide +kernel
set_option maxHeartbeats 4000000 in
set_option maxRecDepth 100000 in
theorem k_X11_remember {l : Launch} {ad : Nat → Nat} {cy : Nat → ClassId} {dC : Nat → ClassId} {dI : Nat → Nat → Nat} {ks : (Nat → Nat) × (Nat → Nat)}  {mem : Mm} {mem2 : Mm}  (h : f_X11_remember  mem = some mem2) : CtV l Lp ad cy dC dI ks yX11_remember cX11_remember 1 none ({ frames := 1, cells := 0, slots := 0, locals := 22 }) [.ref (ad (0))] mem mem2 := by
  refine CtV.of (cc := cX11_remember) (maxL := 1) (ret := none) (own := RX11) rfl (by decide) (Nat.le_of_ble_eq_true rfl) ?_
  intro p e s m args below meth c A X
  have hts := X.2.2.2.2.1
  have hJ59 : ∀ (x6 : Int32) (m7 : Mm), f_X11_remember_J59 x6 m7 = some mem2 → Jd p l e ({ frames := 1, cells := 0, slots := 0, locals := 22 }) s m args below meth c 1 (MQ below (PsV Lp ad cy dC dI mem2 A) args s 0 0 A) A dC dI cy Lp ad m7 59 [(0, .ref (ad (0)))] [.int (x6), .ref (ad (0))] := by
    intro x6 m7 h
    unfold f_X11_remember_J59 at h
    refine r_putI X (k := 13) (Lp_N Lpk_0 rfl) Lpk_0 rfl (by decide) ui_11 (by decide) uw2_196 tyX11_ok nmX11 rfl rfl rfl dX11_remember_59 ?_
    refine r_nmM h (fun m8 h => ?_)
    refine r_aload_n X dX11_remember_62 rfl 0 rfl ?_
    refine r_bipush (v := (16)) X dX11_remember_63 (by decide) ?_
    refine r_aload_n X dX11_remember_65 rfl 0 rfl ?_
    refine r_getI X (k := 14) (Lp_N Lpk_0 rfl) Lpk_0 rfl (by decide) ui_11 (by decide) uw2_197 rfl dX11_remember_66 ?_
    refine r_iconst (v := (1)) X dX11_remember_69 (by decide) ?_
    refine r_iadd X dX11_remember_70 ?_
    refine r_mmin X uw4_165 uw3_104 uw1_18 uw3_105 (Nat.le_of_ble_eq_true rfl) (Nat.le_of_ble_eq_true rfl) dX11_remember_71 ?_
    refine r_nmI h (fun x9 h => ?_)
    refine r_putI X (k := 14) (Lp_N Lpk_0 rfl) Lpk_0 rfl (by decide) ui_11 (by decide) uw2_197 tyX11_ok nmX11 rfl rfl rfl dX11_remember_74 ?_
    refine r_nmM h (fun m10 h => ?_)
    exact r_vret X rfl dX11_remember_77 h
  have hJ21 : ∀ (m3 : Mm), f_X11_remember_J21 m3 = some mem2 → Jd p l e ({ frames := 1, cells := 0, slots := 0, locals := 22 }) s m args below meth c 1 (MQ below (PsV Lp ad cy dC dI mem2 A) args s 0 0 A) A dC dI cy Lp ad m3 21 [(0, .ref (ad (0)))] [] := by
    intro m3 h
    unfold f_X11_remember_J21 at h
    refine r_aload_n X dX11_remember_21 rfl 0 rfl ?_
    refine r_getF X (k := 12) (of := 132) rfl (Lp_N Lpk_0 rfl) Lpk_0 rfl (by decide) ui_11 (by decide) uw2_195 rfl dX11_remember_22 ?_
    refine r_aload_n X dX11_remember_25 rfl 0 rfl ?_
    refine r_getI X (k := 13) (Lp_N Lpk_0 rfl) Lpk_0 rfl (by decide) ui_11 (by decide) uw2_196 rfl dX11_remember_26 ?_
    refine r_ald19 X (Lp_N Lpk_132 rfl) Lpk_132 (Lp_e19 Lpk_132) rfl h dX11_remember_29 (fun q4 eq4 h => ?_)
    refine r_aload_n X dX11_remember_30 rfl 0 rfl ?_
    refine r_getF X (k := 4) (of := 64) rfl (Lp_N Lpk_0 rfl) Lpk_0 rfl (by decide) ui_11 (by decide) uw2_187 rfl dX11_remember_31 ?_
    refine r_cVV (As := [.ref (ad (64))]) (rest := []) X (fun m9 hg => k_X6_copyFrom eq4 Lpk_64 hg) h (Lp_N eq4 rfl) eq4 rfl (by decide) uw4_65 uw4_66 uw4_67 uw1_7 uw4_68 rfl rfl dd_X6_copyFrom ⟨Nat.le_of_ble_eq_true rfl, Nat.le_of_ble_eq_true rfl⟩ rfl (Nat.le_of_ble_eq_true rfl) dX11_remember_34 rfl (fun m5 h => ?_)
    refine r_aload_n X dX11_remember_37 rfl 0 rfl ?_
    refine r_aload_n X dX11_remember_38 rfl 0 rfl ?_
    refine r_getI X (k := 13) (Lp_N Lpk_0 rfl) Lpk_0 rfl (by decide) ui_11 (by decide) uw2_196 rfl dX11_remember_39 ?_
    refine r_iconst (v := (1)) X dX11_remember_42 (by decide) ?_
    refine r_iadd X dX11_remember_43 ?_
    refine r_bipush (v := (16)) X dX11_remember_44 (by decide) ?_
    refine r_icmp_ge (tgt := 58) X dX11_remember_46 (by decide) h (fun h => ?_) (fun h => ?_)
    · refine r_iconst (v := (0)) X dX11_remember_58 (by decide) ?_
      exact r_sub [0] rfl (hJ59 ((0)) m5 h)
    · refine r_aload_n X dX11_remember_49 rfl 0 rfl ?_
      refine r_getI X (k := 13) (Lp_N Lpk_0 rfl) Lpk_0 rfl (by decide) ui_11 (by decide) uw2_196 rfl dX11_remember_50 ?_
      refine r_iconst (v := (1)) X dX11_remember_53 (by decide) ?_
      refine r_iadd X dX11_remember_54 ?_
      refine r_goto (tgt := 59) X dX11_remember_55 (by decide) ?_
      exact r_sub [0] rfl (hJ59 ((gI m5 0 13) + ((1))) m5 h)
  have hJ16 : ∀ (m1 : Mm), f_X11_remember_J16 m1 = some mem2 → Jd p l e ({ frames := 1, cells := 0, slots := 0, locals := 22 }) s m args below meth c 1 (MQ below (PsV Lp ad cy dC dI mem2 A) args s 0 0 A) A dC dI cy Lp ad m1 16 [(0, .ref (ad (0)))] [] := by
    intro m1 h
    unfold f_X11_remember_J16 at h
    refine r_aload_n X dX11_remember_16 rfl 0 rfl ?_
    refine r_iconst (v := (0)) X dX11_remember_17 (by decide) ?_
    refine r_putI X (k := 13) (Lp_N Lpk_0 rfl) Lpk_0 rfl (by decide) ui_11 (by decide) uw2_196 tyX11_ok nmX11 rfl rfl rfl dX11_remember_18 ?_
    refine r_nmM h (fun m2 h => ?_)
    exact r_sub [0] rfl (hJ21 m2 h)
  unfold f_X11_remember at h
  refine r_aload_n X dX11_remember_0 rfl 0 rfl ?_
  refine r_getI X (k := 13) (Lp_N Lpk_0 rfl) Lpk_0 rfl (by decide) ui_11 (by decide) uw2_196 rfl dX11_remember_1 ?_
  refine r_if_lt (tgt := 16) X dX11_remember_4 (by decide) h (fun h => ?_) (fun h => ?_)
  · exact r_sub [0] rfl (hJ16 mem h)
  · refine r_aload_n X dX11_remember_7 rfl 0 rfl ?_
    refine r_getI X (k := 13) (Lp_N Lpk_0 rfl) Lpk_0 rfl (by decide) ui_11 (by decide) uw2_196 rfl dX11_remember_8 ?_
    refine r_bipush (v := (16)) X dX11_remember_11 (by decide) ?_
    refine r_icmp_lt (tgt := 21) X dX11_remember_13 (by decide) h (fun h => ?_) (fun h => ?_)
    · exact r_sub [0] rfl (hJ21 mem h)
    · exact r_sub [0] rfl (hJ16 mem h)
noncomputable def f_X11_day  (mem : Mm) : Option (Int32 × Mm) :=
  bdV (f_X11_remember  mem) fun m1 => grd (decide (Lp.1 (gR m1 0 2) = 7)) (bnd (gR m1 0 2) fun q2 => bdV (f_X1_prepare q2 (gI m1 64 2) m1) fun m3 => bdV (f_X1_pass 64 ((0)) m3) fun m4 => bnd (sI m4 64 1 ((gI m4 64 1) + ((1)))) fun m5 => some (gI m5 82 10, m5))
theorem dd_X11_day : yX11_day.cls = RX11 ∧ yX11_day.cls ≠ "java/lang/invoke/MethodHandle" ∧ yX11_day.cls ≠ "java/lang/invoke/VarHandle" ∧ (parseMethodDescriptor yX11_day.desc).map (fun d => d.parameters.length) = some 0 := by decide +kernel
set_option maxHeartbeats 4000000 in
set_option maxRecDepth 100000 in
theorem k_X11_day {l : Launch} {ad : Nat → Nat} {cy : Nat → ClassId} {dC : Nat → ClassId} {dI : Nat → Nat → Nat} {ks : (Nat → Nat) × (Nat → Nat)}  {mem : Mm} {r2 : Int32} {mem2 : Mm}  (h : f_X11_day  mem = some (r2, mem2)) : CtI l Lp ad cy dC dI ks yX11_day cX11_day 1 (some .int) ({ frames := 5, cells := 0, slots := 0, locals := 112 }) [.ref (ad (0))] mem r2 mem2 := by
  refine CtI.of (cc := cX11_day) (maxL := 1) (ret := (some .int)) (own := RX11) rfl (by decide) (Nat.le_of_ble_eq_true rfl) ?_
  intro p e s m args below meth c A X
  have hts := X.2.2.2.2.1
  have hl138 := X.2.2.2.2.2.2.1 (.fieldLinkNest "StationPiano" 138 "StationPiano$State" "minutes" "I" "StationPiano") (List.mem_of_getElem? (i := 57) rfl)
  have hl187 := X.2.2.2.2.2.2.1 (.fieldLinkNest "StationPiano" 187 "StationPiano$State" "day" "I" "StationPiano") (List.mem_of_getElem? (i := 56) rfl)
  have hl190 := X.2.2.2.2.2.2.1 (.fieldLinkNest "StationPiano" 190 "StationPiano$DayRun" "joySum" "I" "StationPiano") (List.mem_of_getElem? (i := 75) rfl)
  unfold f_X11_day at h
  refine r_aload_n X dX11_day_0 rfl 0 rfl ?_
  refine r_cVV (As := []) (rest := []) X (fun m9 hg => k_X11_remember hg) h (Lp_N Lpk_0 rfl) Lpk_0 rfl (by decide) uw4_161 uw4_163 us3_2 uw1_1 uw4_164 rfl rfl dd_X11_remember ⟨Nat.le_of_ble_eq_true rfl, Nat.le_of_ble_eq_true rfl⟩ rfl (Nat.le_of_ble_eq_true rfl) dX11_day_1 rfl (fun m1 h => ?_)
  refine r_aload_n X dX11_day_4 rfl 0 rfl ?_
  refine r_getF X (k := 10) (of := 82) rfl (Lp_N Lpk_0 rfl) Lpk_0 rfl (by decide) ui_11 (by decide) uw2_193 rfl dX11_day_5 ?_
  refine r_aload_n X dX11_day_8 rfl 0 rfl ?_
  refine r_getR X 7 (k := 2) (Lp_N Lpk_0 rfl) Lpk_0 rfl (by decide) ui_11 (by decide) uw2_185 rfl h dX11_day_9 (fun q2 eq2 h => ?_)
  refine r_aload_n X dX11_day_12 rfl 0 rfl ?_
  refine r_getF X (k := 4) (of := 64) rfl (Lp_N Lpk_0 rfl) Lpk_0 rfl (by decide) ui_11 (by decide) uw2_187 rfl dX11_day_13 ?_
  refine r_getIN X (k := 2) (Lp_N Lpk_64 rfl) Lpk_64 rfl (by decide) ui_6 (by decide) hl138 rfl dX11_day_16 ?_
  refine r_cVV (As := [.ref (ad (q2)), .int (gI m1 64 2)]) (rest := []) X (fun m9 hg => k_X1_prepare eq2 hg) h (Lp_N Lpk_82 rfl) Lpk_82 rfl (by decide) uw4_69 uw4_70 uw4_71 uw1_11 uw4_72 rfl rfl dd_X1_prepare ⟨Nat.le_of_ble_eq_true rfl, Nat.le_of_ble_eq_true rfl⟩ rfl (Nat.le_of_ble_eq_true rfl) dX11_day_19 rfl (fun m3 h => ?_)
  refine r_aload_n X dX11_day_22 rfl 0 rfl ?_
  refine r_getF X (k := 10) (of := 82) rfl (Lp_N Lpk_0 rfl) Lpk_0 rfl (by decide) ui_11 (by decide) uw2_193 rfl dX11_day_23 ?_
  refine r_aload_n X dX11_day_26 rfl 0 rfl ?_
  refine r_getF X (k := 4) (of := 64) rfl (Lp_N Lpk_0 rfl) Lpk_0 rfl (by decide) ui_11 (by decide) uw2_187 rfl dX11_day_27 ?_
  refine r_iconst (v := (0)) X dX11_day_30 (by decide) ?_
  refine r_cVV (As := [.ref (ad (64)), .int ((0))]) (rest := []) X (fun m9 hg => k_X1_pass Lpk_64 hg) h (Lp_N Lpk_82 rfl) Lpk_82 rfl (by decide) uw4_96 uw4_97 uw4_98 uw1_11 uw4_99 rfl rfl dd_X1_pass ⟨Nat.le_of_ble_eq_true rfl, Nat.le_of_ble_eq_true rfl⟩ rfl (Nat.le_of_ble_eq_true rfl) dX11_day_31 rfl (fun m4 h => ?_)
  refine r_aload_n X dX11_day_34 rfl 0 rfl ?_
  refine r_getF X (k := 4) (of := 64) rfl (Lp_N Lpk_0 rfl) Lpk_0 rfl (by decide) ui_11 (by decide) uw2_187 rfl dX11_day_35 ?_
  refine r_dup X dX11_day_38 rfl ?_
  refine r_getIN X (k := 1) (Lp_N Lpk_64 rfl) Lpk_64 rfl (by decide) ui_6 (by decide) hl187 rfl dX11_day_39 ?_
  refine r_iconst (v := (1)) X dX11_day_42 (by decide) ?_
  refine r_iadd X dX11_day_43 ?_
  refine r_putIN X (k := 1) (Lp_N Lpk_64 rfl) Lpk_64 rfl (by decide) ui_6 (by decide) hl187 tyX6_ok nmX6 rfl rfl rfl dX11_day_44 ?_
  refine r_nmM h (fun m5 h => ?_)
  refine r_aload_n X dX11_day_47 rfl 0 rfl ?_
  refine r_getF X (k := 10) (of := 82) rfl (Lp_N Lpk_0 rfl) Lpk_0 rfl (by decide) ui_11 (by decide) uw2_193 rfl dX11_day_48 ?_
  refine r_getIN X (k := 10) (Lp_N Lpk_82 rfl) Lpk_82 rfl (by decide) ui_1 (by decide) hl190 rfl dX11_day_51 ?_
  exact r_iret2 X rfl dX11_day_54 h
noncomputable def f_X11_mend  (mem : Mm) : Option (Int32 × Mm) :=
  bdV (f_X11_remember  mem) fun m1 => grd (decide (Lp.1 (gR m1 0 2) = 7)) (bnd (gR m1 0 2) fun q2 => bdI (f_X6_tuneUp 64 (gI m1 q2 12) m1) fun x4 m3 => some (x4, m3))
theorem dd_X11_mend : yX11_mend.cls = RX11 ∧ yX11_mend.cls ≠ "java/lang/invoke/MethodHandle" ∧ yX11_mend.cls ≠ "java/lang/invoke/VarHandle" ∧ (parseMethodDescriptor yX11_mend.desc).map (fun d => d.parameters.length) = some 0 := by decide +kernel
set_option maxHeartbeats 4000000 in
set_option maxRecDepth 100000 in
theorem k_X11_mend {l : Launch} {ad : Nat → Nat} {cy : Nat → ClassId} {dC : Nat → ClassId} {dI : Nat → Nat → Nat} {ks : (Nat → Nat) × (Nat → Nat)}  {mem : Mm} {r2 : Int32} {mem2 : Mm}  (h : f_X11_mend  mem = some (r2, mem2)) : CtI l Lp ad cy dC dI ks yX11_mend cX11_mend 1 (some .int) ({ frames := 2, cells := 0, slots := 0, locals := 42 }) [.ref (ad (0))] mem r2 mem2 := by
  refine CtI.of (cc := cX11_mend) (maxL := 1) (ret := (some .int)) (own := RX11) rfl (by decide) (Nat.le_of_ble_eq_true rfl) ?_
  intro p e s m args below meth c A X
  have hts := X.2.2.2.2.1
  have hl193 := X.2.2.2.2.2.2.1 (.fieldLinkNest "StationPiano" 193 "StationPiano$Station" "price" "I" "StationPiano") (List.mem_of_getElem? (i := 51) rfl)
  unfold f_X11_mend at h
  refine r_aload_n X dX11_mend_0 rfl 0 rfl ?_
  refine r_cVV (As := []) (rest := []) X (fun m9 hg => k_X11_remember hg) h (Lp_N Lpk_0 rfl) Lpk_0 rfl (by decide) uw4_161 uw4_163 us3_2 uw1_1 uw4_164 rfl rfl dd_X11_remember ⟨Nat.le_of_ble_eq_true rfl, Nat.le_of_ble_eq_true rfl⟩ rfl (Nat.le_of_ble_eq_true rfl) dX11_mend_1 rfl (fun m1 h => ?_)
  refine r_aload_n X dX11_mend_4 rfl 0 rfl ?_
  refine r_getF X (k := 4) (of := 64) rfl (Lp_N Lpk_0 rfl) Lpk_0 rfl (by decide) ui_11 (by decide) uw2_187 rfl dX11_mend_5 ?_
  refine r_aload_n X dX11_mend_8 rfl 0 rfl ?_
  refine r_getR X 7 (k := 2) (Lp_N Lpk_0 rfl) Lpk_0 rfl (by decide) ui_11 (by decide) uw2_185 rfl h dX11_mend_9 (fun q2 eq2 h => ?_)
  refine r_getIN X (k := 12) (Lp_N eq2 rfl) eq2 rfl (by decide) ui_7 (by decide) hl193 rfl dX11_mend_12 ?_
  refine r_cVI (As := [.int (gI m1 q2 12)]) (rest := []) X (fun r9 m9 hg => k_X6_tuneUp Lpk_64 hg) h (Lp_N Lpk_64 rfl) Lpk_64 rfl (by decide) uw4_170 uw4_171 uw4_172 uw1_7 uw4_173 rfl rfl dd_X6_tuneUp ⟨Nat.le_of_ble_eq_true rfl, Nat.le_of_ble_eq_true rfl⟩ rfl (Nat.le_of_ble_eq_true rfl) dX11_mend_15 rfl (fun x4 m3 h => ?_)
  exact r_iret2 X rfl dX11_mend_18 h
noncomputable def f_X11_isEach (p0 : Int32) (mem : Mm) : Option (Int32 × Mm) :=
  if p0 < ((1)) then (grd (bok ((0))) (some ((0), mem))) else (if ((30)) < p0 then (grd (bok ((0))) (some ((0), mem))) else (grd (bok ((1))) (some ((1), mem))))
theorem dd_X11_isEach : yX11_isEach.cls ≠ "java/lang/invoke/MethodHandle" ∧ yX11_isEach.cls ≠ "java/lang/invoke/VarHandle" ∧ (parseMethodDescriptor yX11_isEach.desc).map (fun d => d.parameters.length) = some 1 := by decide +kernel
set_option maxHeartbeats 4000000 in
set_option maxRecDepth 100000 in
theorem k_X11_isEach {l : Launch} {ad : Nat → Nat} {cy : Nat → ClassId} {dC : Nat → ClassId} {dI : Nat → Nat → Nat} {ks : (Nat → Nat) × (Nat → Nat)} {p0 : Int32} {mem : Mm} {r2 : Int32} {mem2 : Mm}  (h : f_X11_isEach p0 mem = some (r2, mem2)) : CtI l Lp ad cy dC dI ks yX11_isEach cX11_isEach 1 (some .boolean) ({ frames := 0, cells := 0, slots := 0, locals := 0 }) [.int (p0)] mem r2 mem2 := by
  refine CtI.of (cc := cX11_isEach) (maxL := 1) (ret := (some .boolean)) (own := RX11) rfl (by decide) (Nat.le_of_ble_eq_true rfl) ?_
  intro p e s m args below meth c A X
  have hts := X.2.2.2.2.1
  unfold f_X11_isEach at h
  refine r_iload_n X dX11_isEach_0 rfl 0 rfl ?_
  refine r_iconst (v := (1)) X dX11_isEach_1 (by decide) ?_
  refine r_icmp_lt (tgt := 15) X dX11_isEach_2 (by decide) h (fun h => ?_) (fun h => ?_)
  · refine r_iconst (v := (0)) X dX11_isEach_15 (by decide) ?_
    exact r_zret2 X rfl dX11_isEach_16 h
  · refine r_iload_n X dX11_isEach_5 rfl 0 rfl ?_
    refine r_bipush (v := (30)) X dX11_isEach_6 (by decide) ?_
    refine r_icmp_gt (tgt := 15) X dX11_isEach_8 (by decide) h (fun h => ?_) (fun h => ?_)
    · refine r_iconst (v := (0)) X dX11_isEach_15 (by decide) ?_
      exact r_zret2 X rfl dX11_isEach_16 h
    · refine r_iconst (v := (1)) X dX11_isEach_11 (by decide) ?_
      refine r_goto (tgt := 16) X dX11_isEach_12 (by decide) ?_
      exact r_zret2 X rfl dX11_isEach_16 h
noncomputable def f_X11_each (p1 : Int32) (mem : Mm) : Option (Int32 × Mm) :=
  bdI (f_X11_isEach p1 mem) fun x2 m1 => if ¬ x2 = 0 then (bdV (f_X11_remember  m1) fun m3 => bnd (sI m3 64 2 p1) fun m4 => grd (bok ((1))) (some ((1), m4))) else (grd (bok ((0))) (some ((0), m1)))
theorem dd_X11_each : yX11_each.cls = RX11 ∧ yX11_each.cls ≠ "java/lang/invoke/MethodHandle" ∧ yX11_each.cls ≠ "java/lang/invoke/VarHandle" ∧ (parseMethodDescriptor yX11_each.desc).map (fun d => d.parameters.length) = some 1 := by decide +kernel
set_option maxHeartbeats 4000000 in
set_option maxRecDepth 100000 in
theorem k_X11_each {l : Launch} {ad : Nat → Nat} {cy : Nat → ClassId} {dC : Nat → ClassId} {dI : Nat → Nat → Nat} {ks : (Nat → Nat) × (Nat → Nat)} {p1 : Int32} {mem : Mm} {r2 : Int32} {mem2 : Mm}  (h : f_X11_each p1 mem = some (r2, mem2)) : CtI l Lp ad cy dC dI ks yX11_each cX11_each 2 (some .boolean) ({ frames := 2, cells := 0, slots := 0, locals := 42 }) [.ref (ad (0)), .int (p1)] mem r2 mem2 := by
  refine CtI.of (cc := cX11_each) (maxL := 2) (ret := (some .boolean)) (own := RX11) rfl (by decide) (Nat.le_of_ble_eq_true rfl) ?_
  intro p e s m args below meth c A X
  have hts := X.2.2.2.2.1
  have hl138 := X.2.2.2.2.2.2.1 (.fieldLinkNest "StationPiano" 138 "StationPiano$State" "minutes" "I" "StationPiano") (List.mem_of_getElem? (i := 57) rfl)
  unfold f_X11_each at h
  refine r_iload_n X dX11_each_0 rfl 1 rfl ?_
  refine r_cSI (As := [.int (p1)]) (rest := []) X (fun r9 m9 hg => k_X11_isEach hg) h uw4_178 uw4_179 uw1_1 uw4_180 rfl rfl dd_X11_isEach ⟨Nat.le_of_ble_eq_true rfl, Nat.le_of_ble_eq_true rfl⟩ rfl (Nat.le_of_ble_eq_true rfl) dX11_each_1 rfl (fun x2 m1 h => ?_)
  refine r_if_ne (tgt := 9) X dX11_each_4 (by decide) h (fun h => ?_) (fun h => ?_)
  · refine r_aload_n X dX11_each_9 rfl 0 rfl ?_
    refine r_cVV (As := []) (rest := []) X (fun m9 hg => k_X11_remember hg) h (Lp_N Lpk_0 rfl) Lpk_0 rfl (by decide) uw4_161 uw4_163 us3_2 uw1_1 uw4_164 rfl rfl dd_X11_remember ⟨Nat.le_of_ble_eq_true rfl, Nat.le_of_ble_eq_true rfl⟩ rfl (Nat.le_of_ble_eq_true rfl) dX11_each_10 rfl (fun m3 h => ?_)
    refine r_aload_n X dX11_each_13 rfl 0 rfl ?_
    refine r_getF X (k := 4) (of := 64) rfl (Lp_N Lpk_0 rfl) Lpk_0 rfl (by decide) ui_11 (by decide) uw2_187 rfl dX11_each_14 ?_
    refine r_iload_n X dX11_each_17 rfl 1 rfl ?_
    refine r_putIN X (k := 2) (Lp_N Lpk_64 rfl) Lpk_64 rfl (by decide) ui_6 (by decide) hl138 tyX6_ok nmX6 rfl rfl rfl dX11_each_18 ?_
    refine r_nmM h (fun m4 h => ?_)
    refine r_iconst (v := (1)) X dX11_each_21 (by decide) ?_
    exact r_zret2 X rfl dX11_each_22 h
  · refine r_iconst (v := (0)) X dX11_each_7 (by decide) ?_
    exact r_zret2 X rfl dX11_each_8 h
noncomputable def f_X11_open (p1 : Int32) (p2 : Int32) (mem : Mm) : Option (Int32 × Mm) :=
  if p1 < 0 then (grd (bok ((0))) (some ((0), mem))) else (if ((60)) ≤ p1 then (grd (bok ((0))) (some ((0), mem))) else (if p2 ≤ p1 then (grd (bok ((0))) (some ((0), mem))) else (if p2 ≤ ((60)) then (bdV (f_X11_remember  mem) fun m1 => bnd (sI m1 64 3 p1) fun m2 => bnd (sI m2 64 4 p2) fun m3 => grd (bok ((1))) (some ((1), m3))) else (grd (bok ((0))) (some ((0), mem))))))
theorem dd_X11_open : yX11_open.cls = RX11 ∧ yX11_open.cls ≠ "java/lang/invoke/MethodHandle" ∧ yX11_open.cls ≠ "java/lang/invoke/VarHandle" ∧ (parseMethodDescriptor yX11_open.desc).map (fun d => d.parameters.length) = some 2 := by decide +kernel
set_option maxHeartbeats 4000000 in
set_option maxRecDepth 100000 in
theorem k_X11_open {l : Launch} {ad : Nat → Nat} {cy : Nat → ClassId} {dC : Nat → ClassId} {dI : Nat → Nat → Nat} {ks : (Nat → Nat) × (Nat → Nat)} {p1 : Int32} {p2 : Int32} {mem : Mm} {r2 : Int32} {mem2 : Mm}  (h : f_X11_open p1 p2 mem = some (r2, mem2)) : CtI l Lp ad cy dC dI ks yX11_open cX11_open 3 (some .boolean) ({ frames := 2, cells := 0, slots := 0, locals := 42 }) [.ref (ad (0)), .int (p1), .int (p2)] mem r2 mem2 := by
  refine CtI.of (cc := cX11_open) (maxL := 3) (ret := (some .boolean)) (own := RX11) rfl (by decide) (Nat.le_of_ble_eq_true rfl) ?_
  intro p e s m args below meth c A X
  have hts := X.2.2.2.2.1
  have hl202 := X.2.2.2.2.2.2.1 (.fieldLinkNest "StationPiano" 202 "StationPiano$State" "from" "I" "StationPiano") (List.mem_of_getElem? (i := 59) rfl)
  have hl205 := X.2.2.2.2.2.2.1 (.fieldLinkNest "StationPiano" 205 "StationPiano$State" "to" "I" "StationPiano") (List.mem_of_getElem? (i := 61) rfl)
  unfold f_X11_open at h
  refine r_iload_n X dX11_open_0 rfl 1 rfl ?_
  refine r_if_lt (tgt := 21) X dX11_open_1 (by decide) h (fun h => ?_) (fun h => ?_)
  · refine r_iconst (v := (0)) X dX11_open_21 (by decide) ?_
    exact r_zret2 X rfl dX11_open_22 h
  · refine r_iload_n X dX11_open_4 rfl 1 rfl ?_
    refine r_bipush (v := (60)) X dX11_open_5 (by decide) ?_
    refine r_icmp_ge (tgt := 21) X dX11_open_7 (by decide) h (fun h => ?_) (fun h => ?_)
    · refine r_iconst (v := (0)) X dX11_open_21 (by decide) ?_
      exact r_zret2 X rfl dX11_open_22 h
    · refine r_iload_n X dX11_open_10 rfl 2 rfl ?_
      refine r_iload_n X dX11_open_11 rfl 1 rfl ?_
      refine r_icmp_le (tgt := 21) X dX11_open_12 (by decide) h (fun h => ?_) (fun h => ?_)
      · refine r_iconst (v := (0)) X dX11_open_21 (by decide) ?_
        exact r_zret2 X rfl dX11_open_22 h
      · refine r_iload_n X dX11_open_15 rfl 2 rfl ?_
        refine r_bipush (v := (60)) X dX11_open_16 (by decide) ?_
        refine r_icmp_le (tgt := 23) X dX11_open_18 (by decide) h (fun h => ?_) (fun h => ?_)
        · refine r_aload_n X dX11_open_23 rfl 0 rfl ?_
          refine r_cVV (As := []) (rest := []) X (fun m9 hg => k_X11_remember hg) h (Lp_N Lpk_0 rfl) Lpk_0 rfl (by decide) uw4_161 uw4_163 us3_2 uw1_1 uw4_164 rfl rfl dd_X11_remember ⟨Nat.le_of_ble_eq_true rfl, Nat.le_of_ble_eq_true rfl⟩ rfl (Nat.le_of_ble_eq_true rfl) dX11_open_24 rfl (fun m1 h => ?_)
          refine r_aload_n X dX11_open_27 rfl 0 rfl ?_
          refine r_getF X (k := 4) (of := 64) rfl (Lp_N Lpk_0 rfl) Lpk_0 rfl (by decide) ui_11 (by decide) uw2_187 rfl dX11_open_28 ?_
          refine r_iload_n X dX11_open_31 rfl 1 rfl ?_
          refine r_putIN X (k := 3) (Lp_N Lpk_64 rfl) Lpk_64 rfl (by decide) ui_6 (by decide) hl202 tyX6_ok nmX6 rfl rfl rfl dX11_open_32 ?_
          refine r_nmM h (fun m2 h => ?_)
          refine r_aload_n X dX11_open_35 rfl 0 rfl ?_
          refine r_getF X (k := 4) (of := 64) rfl (Lp_N Lpk_0 rfl) Lpk_0 rfl (by decide) ui_11 (by decide) uw2_187 rfl dX11_open_36 ?_
          refine r_iload_n X dX11_open_39 rfl 2 rfl ?_
          refine r_putIN X (k := 4) (Lp_N Lpk_64 rfl) Lpk_64 rfl (by decide) ui_6 (by decide) hl205 tyX6_ok nmX6 rfl rfl rfl dX11_open_40 ?_
          refine r_nmM h (fun m3 h => ?_)
          refine r_iconst (v := (1)) X dX11_open_43 (by decide) ?_
          exact r_zret2 X rfl dX11_open_44 h
        · refine r_iconst (v := (0)) X dX11_open_21 (by decide) ?_
          exact r_zret2 X rfl dX11_open_22 h
