noncomputable def f_X12_passesDay_J80 (m16 : Mm) : Option (Int32 × Mm) :=
  bnd (sI m16 35 0 ((gI m16 35 0) + ((1)))) fun m17 => some (gI m17 0 63, m17)
noncomputable def f_X12_passesDay_B49 (k49 : Int32 → Int32 → Mm → Option (Int32 × Mm)) (x9 : Int32) (x10 : Int32) (m11 : Mm) : Option (Int32 × Mm) :=
  if ((60)) ≤ x10 then (if x9 < 0 then (f_X12_passesDay_J80 m11) else (grd (inb x9 7) (bnd (sI m11 44 x9.toNatClampNeg ((60))) fun m12 => f_X12_passesDay_J80 m12))) else (bdI (f_X12_passesMinute x10 x9 m11) fun x14 m13 => bnd (x10 + (1)) fun x15 => k49 x14 x15 m13)
noncomputable def f_X12_passesDay_B12 (k12 : Int32 → Mm → Option (Int32 × Mm)) (x3 : Int32) (m4 : Mm) : Option (Int32 × Mm) :=
  if ((7)) ≤ x3 then (lop (fun _ _ _ => none) (f_X12_passesDay_B49 ) 4000 ((-1)) ((0)) m4) else (grd (inb x3 7) (bnd (sI m4 42 x3.toNatClampNeg ((0))) fun m5 => grd (inb x3 7) (bnd (sI m5 43 x3.toNatClampNeg ((-1))) fun m6 => grd (inb x3 7) (bnd (sI m6 44 x3.toNatClampNeg ((-1))) fun m7 => bnd (x3 + (1)) fun x8 => k12 x8 m7))))
noncomputable def f_X12_passesDay  (mem : Mm) : Option (Int32 × Mm) :=
  bnd (sI mem 0 63 ((0))) fun m1 => bnd (sI m1 0 64 ((0))) fun m2 => lop (fun _ _ => none) (f_X12_passesDay_B12 ) 4000 ((0)) m2
theorem dd_X12_passesDay : yX12_passesDay.cls = RX12 ∧ yX12_passesDay.cls ≠ "java/lang/invoke/MethodHandle" ∧ yX12_passesDay.cls ≠ "java/lang/invoke/VarHandle" ∧ (parseMethodDescriptor yX12_passesDay.desc).map (fun d => d.parameters.length) = some 0 := by decide +kernel
set_option maxHeartbeats 4000000 in
set_option maxRecDepth 100000 in
theorem k_X12_passesDay {l : Launch} {ad : Nat → Nat} {cy : Nat → ClassId} {dC : Nat → ClassId} {dI : Nat → Nat → Nat} {ks : (Nat → Nat) × (Nat → Nat)}  {mem : Mm} {r2 : Int32} {mem2 : Mm}  (h : f_X12_passesDay  mem = some (r2, mem2)) : CtI l Lm ad cy dC dI ks yX12_passesDay cX12_passesDay 3 (some .int) ({ frames := 6, cells := 0, slots := 0, locals := 138 }) [.ref (ad (0))] mem r2 mem2 := by
  refine CtI.of (cc := cX12_passesDay) (maxL := 3) (ret := (some .int)) (own := RX12) rfl (by decide) (Nat.le_of_ble_eq_true rfl) ?_
  intro p e s m args below meth c A X
  have hts := X.2.2.2.2.1
  have hJ80 : ∀ (m16 : Mm), f_X12_passesDay_J80 m16 = some (r2, mem2) → Jd p l e ({ frames := 6, cells := 0, slots := 0, locals := 138 }) s m args below meth c 3 (MQ below (PsI Lm ad cy dC dI r2 mem2 A) args s 0 0 A) A dC dI cy Lm ad m16 80 [(0, .ref (ad (0)))] [] := by
    intro m16 h
    unfold f_X12_passesDay_J80 at h
    refine r_aload_n X dX12_passesDay_80 rfl 0 rfl ?_
    refine r_getF X (k := 49) (of := 35) rfl (Lm_N Lmk_0 rfl) Lmk_0 rfl (by decide) ui_12 (by decide) uw6_29 rfl dX12_passesDay_81 ?_
    refine r_iconst (v := (0)) X dX12_passesDay_84 (by decide) ?_
    refine r_dup2 X dX12_passesDay_85 rfl rfl ?_
    refine r_iald X (Lm_N Lmk_35 rfl) Lmk_35 (g_in rfl h) dX12_passesDay_86 (fun h => ?_)
    refine r_iconst (v := (1)) X dX12_passesDay_87 (by decide) ?_
    refine r_iadd X dX12_passesDay_88 ?_
    refine r_iast X (Lm_N Lmk_35 rfl) Lmk_35 (g_in rfl h) dX12_passesDay_89 (fun h => ?_)
    refine r_nmM h (fun m17 h => ?_)
    refine r_aload_n X dX12_passesDay_90 rfl 0 rfl ?_
    refine r_getI X (k := 63) (Lm_N Lmk_0 rfl) Lmk_0 rfl (by decide) ui_12 (by decide) uw6_43 rfl dX12_passesDay_91 ?_
    exact r_iret2 X rfl dX12_passesDay_94 h
  have hJ49 : ∀ (k49 : Int32 → Int32 → Mm → Option (Int32 × Mm)) (hk49 : ∀ (x9 : Int32) (x10 : Int32) (m11 : Mm), k49 x9 x10 m11 = some (r2, mem2) → Jd p l e ({ frames := 6, cells := 0, slots := 0, locals := 138 }) s m args below meth c 3 (MQ below (PsI Lm ad cy dC dI r2 mem2 A) args s 0 0 A) A dC dI cy Lm ad m11 49 [(0, .ref (ad (0))), (1, .int (x9)), (2, .int (x10))] []) (x9 : Int32) (x10 : Int32) (m11 : Mm), f_X12_passesDay_B49 k49 x9 x10 m11 = some (r2, mem2) → Jd p l e ({ frames := 6, cells := 0, slots := 0, locals := 138 }) s m args below meth c 3 (MQ below (PsI Lm ad cy dC dI r2 mem2 A) args s 0 0 A) A dC dI cy Lm ad m11 49 [(0, .ref (ad (0))), (1, .int (x9)), (2, .int (x10))] [] := by
    intro k49 hk49 x9 x10 m11 h
    unfold f_X12_passesDay_B49 at h
    refine r_iload_n X dX12_passesDay_49 rfl 2 rfl ?_
    refine r_bipush (v := (60)) X dX12_passesDay_50 (by decide) ?_
    refine r_icmp_ge (tgt := 68) X dX12_passesDay_52 (by decide) h (fun h => ?_) (fun h => ?_)
    · refine r_iload_n X dX12_passesDay_68 rfl 1 rfl ?_
      refine r_if_lt (tgt := 80) X dX12_passesDay_69 (by decide) h (fun h => ?_) (fun h => ?_)
      · exact r_sub [0] rfl (hJ80 m11 h)
      · refine r_aload_n X dX12_passesDay_72 rfl 0 rfl ?_
        refine r_getF X (k := 59) (of := 44) rfl (Lm_N Lmk_0 rfl) Lmk_0 rfl (by decide) ui_12 (by decide) uw6_39 rfl dX12_passesDay_73 ?_
        refine r_iload_n X dX12_passesDay_76 rfl 1 rfl ?_
        refine r_bipush (v := (60)) X dX12_passesDay_77 (by decide) ?_
        refine r_iast X (Lm_N Lmk_44 rfl) Lmk_44 h dX12_passesDay_79 (fun h => ?_)
        refine r_nmM h (fun m12 h => ?_)
        exact r_sub [0] rfl (hJ80 m12 h)
    · refine r_aload_n X dX12_passesDay_55 rfl 0 rfl ?_
      refine r_iload_n X dX12_passesDay_56 rfl 2 rfl ?_
      refine r_iload_n X dX12_passesDay_57 rfl 1 rfl ?_
      refine r_cVI (As := [.int (x10), .int (x9)]) (rest := []) X (fun r9 m9 hg => k_X12_passesMinute hg) h (Lm_N Lmk_0 rfl) Lmk_0 rfl (by decide) uw7_153 uw7_155 us6_0 uw1_13 uw7_156 rfl rfl dd_X12_passesMinute ⟨Nat.le_of_ble_eq_true rfl, Nat.le_of_ble_eq_true rfl⟩ rfl (Nat.le_of_ble_eq_true rfl) dX12_passesDay_58 rfl (fun x14 m13 h => ?_)
      refine r_istore_n (lv2 := [(1, .int (x14)), (0, .ref (ad (0))), (2, .int (x10))]) X dX12_passesDay_61 rfl (by decide) rfl ?_
      refine r_inc h (fun x15 e9 h => ?_)
      refine r_iinc (v := x15) (lv2 := [(2, .int (x15)), (1, .int (x14)), (0, .ref (ad (0)))]) X dX12_passesDay_62 2 rfl (by rw [e9]; rfl) (by decide) rfl ?_
      refine r_goto (tgt := 49) X dX12_passesDay_65 (by decide) ?_
      exact r_sub [2, 1, 0] rfl (hk49 x14 x15 m13 h)
  have hL49 : ∀ (n : Nat), ∀ (x9 : Int32) (x10 : Int32) (m11 : Mm), lop (fun _ _ _ => none) (f_X12_passesDay_B49 ) n x9 x10 m11 = some (r2, mem2) → Jd p l e ({ frames := 6, cells := 0, slots := 0, locals := 138 }) s m args below meth c 3 (MQ below (PsI Lm ad cy dC dI r2 mem2 A) args s 0 0 A) A dC dI cy Lm ad m11 49 [(0, .ref (ad (0))), (1, .int (x9)), (2, .int (x10))] [] := by
    intro  n
    induction n with
    | zero => intro _ _ _ h; cases h
    | succ n ih => intro a0 a1 a2 h; exact hJ49  _ ih a0 a1 a2 h
  have hJ12 : ∀ (k12 : Int32 → Mm → Option (Int32 × Mm)) (hk12 : ∀ (x3 : Int32) (m4 : Mm), k12 x3 m4 = some (r2, mem2) → Jd p l e ({ frames := 6, cells := 0, slots := 0, locals := 138 }) s m args below meth c 3 (MQ below (PsI Lm ad cy dC dI r2 mem2 A) args s 0 0 A) A dC dI cy Lm ad m4 12 [(0, .ref (ad (0))), (1, .int (x3))] []) (x3 : Int32) (m4 : Mm), f_X12_passesDay_B12 k12 x3 m4 = some (r2, mem2) → Jd p l e ({ frames := 6, cells := 0, slots := 0, locals := 138 }) s m args below meth c 3 (MQ below (PsI Lm ad cy dC dI r2 mem2 A) args s 0 0 A) A dC dI cy Lm ad m4 12 [(0, .ref (ad (0))), (1, .int (x3))] [] := by
    intro k12 hk12 x3 m4 h
    unfold f_X12_passesDay_B12 at h
    refine r_iload_n X dX12_passesDay_12 rfl 1 rfl ?_
    refine r_bipush (v := (7)) X dX12_passesDay_13 (by decide) ?_
    refine r_icmp_ge (tgt := 45) X dX12_passesDay_15 (by decide) h (fun h => ?_) (fun h => ?_)
    · refine r_iconst (v := (-1)) X dX12_passesDay_45 (by decide) ?_
      refine r_istore_n (lv2 := [(1, .int ((-1))), (0, .ref (ad (0)))]) X dX12_passesDay_46 rfl (by decide) rfl ?_
      refine r_iconst (v := (0)) X dX12_passesDay_47 (by decide) ?_
      refine r_istore_n (lv2 := [(2, .int ((0))), (1, .int ((-1))), (0, .ref (ad (0)))]) X dX12_passesDay_48 rfl (by decide) rfl ?_
      exact r_sub [2, 1, 0] rfl (hL49 4000 ((-1)) ((0)) m4 h)
    · refine r_aload_n X dX12_passesDay_18 rfl 0 rfl ?_
      refine r_getF X (k := 57) (of := 42) rfl (Lm_N Lmk_0 rfl) Lmk_0 rfl (by decide) ui_12 (by decide) uw6_37 rfl dX12_passesDay_19 ?_
      refine r_iload_n X dX12_passesDay_22 rfl 1 rfl ?_
      refine r_iconst (v := (0)) X dX12_passesDay_23 (by decide) ?_
      refine r_iast X (Lm_N Lmk_42 rfl) Lmk_42 h dX12_passesDay_24 (fun h => ?_)
      refine r_nmM h (fun m5 h => ?_)
      refine r_aload_n X dX12_passesDay_25 rfl 0 rfl ?_
      refine r_getF X (k := 58) (of := 43) rfl (Lm_N Lmk_0 rfl) Lmk_0 rfl (by decide) ui_12 (by decide) uw6_38 rfl dX12_passesDay_26 ?_
      refine r_iload_n X dX12_passesDay_29 rfl 1 rfl ?_
      refine r_iconst (v := (-1)) X dX12_passesDay_30 (by decide) ?_
      refine r_iast X (Lm_N Lmk_43 rfl) Lmk_43 h dX12_passesDay_31 (fun h => ?_)
      refine r_nmM h (fun m6 h => ?_)
      refine r_aload_n X dX12_passesDay_32 rfl 0 rfl ?_
      refine r_getF X (k := 59) (of := 44) rfl (Lm_N Lmk_0 rfl) Lmk_0 rfl (by decide) ui_12 (by decide) uw6_39 rfl dX12_passesDay_33 ?_
      refine r_iload_n X dX12_passesDay_36 rfl 1 rfl ?_
      refine r_iconst (v := (-1)) X dX12_passesDay_37 (by decide) ?_
      refine r_iast X (Lm_N Lmk_44 rfl) Lmk_44 h dX12_passesDay_38 (fun h => ?_)
      refine r_nmM h (fun m7 h => ?_)
      refine r_inc h (fun x8 e9 h => ?_)
      refine r_iinc (v := x8) (lv2 := [(1, .int (x8)), (0, .ref (ad (0)))]) X dX12_passesDay_39 1 rfl (by rw [e9]; rfl) (by decide) rfl ?_
      refine r_goto (tgt := 12) X dX12_passesDay_42 (by decide) ?_
      exact r_sub [1, 0] rfl (hk12 x8 m7 h)
  have hL12 : ∀ (n : Nat), ∀ (x3 : Int32) (m4 : Mm), lop (fun _ _ => none) (f_X12_passesDay_B12 ) n x3 m4 = some (r2, mem2) → Jd p l e ({ frames := 6, cells := 0, slots := 0, locals := 138 }) s m args below meth c 3 (MQ below (PsI Lm ad cy dC dI r2 mem2 A) args s 0 0 A) A dC dI cy Lm ad m4 12 [(0, .ref (ad (0))), (1, .int (x3))] [] := by
    intro  n
    induction n with
    | zero => intro _ _ h; cases h
    | succ n ih => intro a0 a1 h; exact hJ12  _ ih a0 a1 h
  unfold f_X12_passesDay at h
  refine r_aload_n X dX12_passesDay_0 rfl 0 rfl ?_
  refine r_iconst (v := (0)) X dX12_passesDay_1 (by decide) ?_
  refine r_putI X (k := 63) (Lm_N Lmk_0 rfl) Lmk_0 rfl (by decide) ui_12 (by decide) uw6_43 tyX12_ok nmX12 rfl rfl rfl dX12_passesDay_2 ?_
  refine r_nmM h (fun m1 h => ?_)
  refine r_aload_n X dX12_passesDay_5 rfl 0 rfl ?_
  refine r_iconst (v := (0)) X dX12_passesDay_6 (by decide) ?_
  refine r_putI X (k := 64) (Lm_N Lmk_0 rfl) Lmk_0 rfl (by decide) ui_12 (by decide) uw6_44 tyX12_ok nmX12 rfl rfl rfl dX12_passesDay_7 ?_
  refine r_nmM h (fun m2 h => ?_)
  refine r_iconst (v := (0)) X dX12_passesDay_10 (by decide) ?_
  refine r_istore_n (lv2 := [(1, .int ((0))), (0, .ref (ad (0)))]) X dX12_passesDay_11 rfl (by decide) rfl ?_
  exact r_sub [1, 0] rfl (hL12 4000 ((0)) m2 h)
noncomputable def f_X12_passes_B2 (k2 : Int32 → Mm → Option (Int32 × Mm)) (x1 : Int32) (m2 : Mm) : Option (Int32 × Mm) :=
  if ((7)) ≤ x1 then (bdI (f_X12_passesDay  m2) fun x4 m3 => some (x4, m3)) else (grd (inb x1 14) (grd (inb x1 7) (bnd (sI m2 41 x1.toNatClampNeg (gI m2 12 x1.toNatClampNeg)) fun m5 => bnd (x1 + (1)) fun x6 => k2 x6 m5)))
noncomputable def f_X12_passes  (mem : Mm) : Option (Int32 × Mm) :=
  lop (fun _ _ => none) (f_X12_passes_B2 ) 4000 ((0)) mem
theorem dd_X12_passes : yX12_passes.cls = RX12 ∧ yX12_passes.cls ≠ "java/lang/invoke/MethodHandle" ∧ yX12_passes.cls ≠ "java/lang/invoke/VarHandle" ∧ (parseMethodDescriptor yX12_passes.desc).map (fun d => d.parameters.length) = some 0 := by decide +kernel
set_option maxHeartbeats 4000000 in
set_option maxRecDepth 100000 in
theorem k_X12_passes {l : Launch} {ad : Nat → Nat} {cy : Nat → ClassId} {dC : Nat → ClassId} {dI : Nat → Nat → Nat} {ks : (Nat → Nat) × (Nat → Nat)}  {mem : Mm} {r2 : Int32} {mem2 : Mm}  (h : f_X12_passes  mem = some (r2, mem2)) : CtI l Lm ad cy dC dI ks yX12_passes cX12_passes 2 (some .int) ({ frames := 7, cells := 0, slots := 0, locals := 160 }) [.ref (ad (0))] mem r2 mem2 := by
  refine CtI.of (cc := cX12_passes) (maxL := 2) (ret := (some .int)) (own := RX12) rfl (by decide) (Nat.le_of_ble_eq_true rfl) ?_
  intro p e s m args below meth c A X
  have hts := X.2.2.2.2.1
  have hJ2 : ∀ (k2 : Int32 → Mm → Option (Int32 × Mm)) (hk2 : ∀ (x1 : Int32) (m2 : Mm), k2 x1 m2 = some (r2, mem2) → Jd p l e ({ frames := 7, cells := 0, slots := 0, locals := 160 }) s m args below meth c 2 (MQ below (PsI Lm ad cy dC dI r2 mem2 A) args s 0 0 A) A dC dI cy Lm ad m2 2 [(0, .ref (ad (0))), (1, .int (x1))] []) (x1 : Int32) (m2 : Mm), f_X12_passes_B2 k2 x1 m2 = some (r2, mem2) → Jd p l e ({ frames := 7, cells := 0, slots := 0, locals := 160 }) s m args below meth c 2 (MQ below (PsI Lm ad cy dC dI r2 mem2 A) args s 0 0 A) A dC dI cy Lm ad m2 2 [(0, .ref (ad (0))), (1, .int (x1))] [] := by
    intro k2 hk2 x1 m2 h
    unfold f_X12_passes_B2 at h
    refine r_iload_n X dX12_passes_2 rfl 1 rfl ?_
    refine r_bipush (v := (7)) X dX12_passes_3 (by decide) ?_
    refine r_icmp_ge (tgt := 26) X dX12_passes_5 (by decide) h (fun h => ?_) (fun h => ?_)
    · refine r_aload_n X dX12_passes_26 rfl 0 rfl ?_
      refine r_cVI (As := []) (rest := []) X (fun r9 m9 hg => k_X12_passesDay hg) h (Lm_N Lmk_0 rfl) Lmk_0 rfl (by decide) uw7_149 uw7_151 us5_15 uw1_13 uw7_152 rfl rfl dd_X12_passesDay ⟨Nat.le_of_ble_eq_true rfl, Nat.le_of_ble_eq_true rfl⟩ rfl (Nat.le_of_ble_eq_true rfl) dX12_passes_27 rfl (fun x4 m3 h => ?_)
      exact r_iret2 X rfl dX12_passes_30 h
    · refine r_aload_n X dX12_passes_8 rfl 0 rfl ?_
      refine r_getF X (k := 56) (of := 41) rfl (Lm_N Lmk_0 rfl) Lmk_0 rfl (by decide) ui_12 (by decide) uw6_36 rfl dX12_passes_9 ?_
      refine r_iload_n X dX12_passes_12 rfl 1 rfl ?_
      refine r_aload_n X dX12_passes_13 rfl 0 rfl ?_
      refine r_getF X (k := 20) (of := 12) rfl (Lm_N Lmk_0 rfl) Lmk_0 rfl (by decide) ui_12 (by decide) uw6_0 rfl dX12_passes_14 ?_
      refine r_iload_n X dX12_passes_17 rfl 1 rfl ?_
      refine r_iald X (Lm_N Lmk_12 rfl) Lmk_12 h dX12_passes_18 (fun h => ?_)
      refine r_iast X (Lm_N Lmk_41 rfl) Lmk_41 h dX12_passes_19 (fun h => ?_)
      refine r_nmM h (fun m5 h => ?_)
      refine r_inc h (fun x6 e9 h => ?_)
      refine r_iinc (v := x6) (lv2 := [(1, .int (x6)), (0, .ref (ad (0)))]) X dX12_passes_20 1 rfl (by rw [e9]; rfl) (by decide) rfl ?_
      refine r_goto (tgt := 2) X dX12_passes_23 (by decide) ?_
      exact r_sub [1, 0] rfl (hk2 x6 m5 h)
  have hL2 : ∀ (n : Nat), ∀ (x1 : Int32) (m2 : Mm), lop (fun _ _ => none) (f_X12_passes_B2 ) n x1 m2 = some (r2, mem2) → Jd p l e ({ frames := 7, cells := 0, slots := 0, locals := 160 }) s m args below meth c 2 (MQ below (PsI Lm ad cy dC dI r2 mem2 A) args s 0 0 A) A dC dI cy Lm ad m2 2 [(0, .ref (ad (0))), (1, .int (x1))] [] := by
    intro  n
    induction n with
    | zero => intro _ _ h; cases h
    | succ n ih => intro a0 a1 h; exact hJ2  _ ih a0 a1 h
  unfold f_X12_passes at h
  refine r_iconst (v := (0)) X dX12_passes_0 (by decide) ?_
  refine r_istore_n (lv2 := [(1, .int ((0))), (0, .ref (ad (0)))]) X dX12_passes_1 rfl (by decide) rfl ?_
  exact r_sub [1, 0] rfl (hL2 4000 ((0)) mem h)
noncomputable def f_X12_tries  (mem : Mm) : Option (Int32 × Mm) :=
  bdV (f_X12_copies 35 ((0)) 37 ((0)) mem) fun m1 => bdI (f_X12_passes  m1) fun x3 m2 => bdV (f_X12_copies 37 ((0)) 35 ((0)) m2) fun m4 => some (x3, m4)
theorem dd_X12_tries : yX12_tries.cls = RX12 ∧ yX12_tries.cls ≠ "java/lang/invoke/MethodHandle" ∧ yX12_tries.cls ≠ "java/lang/invoke/VarHandle" ∧ (parseMethodDescriptor yX12_tries.desc).map (fun d => d.parameters.length) = some 0 := by decide +kernel
set_option maxHeartbeats 4000000 in
set_option maxRecDepth 100000 in
theorem k_X12_tries {l : Launch} {ad : Nat → Nat} {cy : Nat → ClassId} {dC : Nat → ClassId} {dI : Nat → Nat → Nat} {ks : (Nat → Nat) × (Nat → Nat)}  {mem : Mm} {r2 : Int32} {mem2 : Mm}  (h : f_X12_tries  mem = some (r2, mem2)) : CtI l Lm ad cy dC dI ks yX12_tries cX12_tries 2 (some .int) ({ frames := 8, cells := 0, slots := 0, locals := 181 }) [.ref (ad (0))] mem r2 mem2 := by
  refine CtI.of (cc := cX12_tries) (maxL := 2) (ret := (some .int)) (own := RX12) rfl (by decide) (Nat.le_of_ble_eq_true rfl) ?_
  intro p e s m args below meth c A X
  have hts := X.2.2.2.2.1
  unfold f_X12_tries at h
  refine r_aload_n X dX12_tries_0 rfl 0 rfl ?_
  refine r_getF X (k := 49) (of := 35) rfl (Lm_N Lmk_0 rfl) Lmk_0 rfl (by decide) ui_12 (by decide) uw6_29 rfl dX12_tries_1 ?_
  refine r_iconst (v := (0)) X dX12_tries_4 (by decide) ?_
  refine r_aload_n X dX12_tries_5 rfl 0 rfl ?_
  refine r_getF X (k := 51) (of := 37) rfl (Lm_N Lmk_0 rfl) Lmk_0 rfl (by decide) ui_12 (by decide) uw6_31 rfl dX12_tries_6 ?_
  refine r_iconst (v := (0)) X dX12_tries_9 (by decide) ?_
  refine r_cSV (As := [.ref (ad (35)), .int ((0)), .ref (ad (37)), .int ((0))]) (rest := []) X (fun m9 hg => k_X12_copies Lmk_35 Lmk_37 hg) h uw7_142 uw7_143 uw1_13 uw7_144 rfl rfl dd_X12_copies ⟨Nat.le_of_ble_eq_true rfl, Nat.le_of_ble_eq_true rfl⟩ rfl (Nat.le_of_ble_eq_true rfl) dX12_tries_10 rfl (fun m1 h => ?_)
  refine r_aload_n X dX12_tries_13 rfl 0 rfl ?_
  refine r_cVI (As := []) (rest := []) X (fun r9 m9 hg => k_X12_passes hg) h (Lm_N Lmk_0 rfl) Lmk_0 rfl (by decide) uw7_145 uw7_147 us5_14 uw1_13 uw7_148 rfl rfl dd_X12_passes ⟨Nat.le_of_ble_eq_true rfl, Nat.le_of_ble_eq_true rfl⟩ rfl (Nat.le_of_ble_eq_true rfl) dX12_tries_14 rfl (fun x3 m2 h => ?_)
  refine r_istore_n (lv2 := [(1, .int (x3)), (0, .ref (ad (0)))]) X dX12_tries_17 rfl (by decide) rfl ?_
  refine r_aload_n X dX12_tries_18 rfl 1 rfl ?_
  refine r_getF X (k := 51) (of := 37) rfl (Lm_N Lmk_0 rfl) Lmk_0 rfl (by decide) ui_12 (by decide) uw6_31 rfl dX12_tries_19 ?_
  refine r_iconst (v := (0)) X dX12_tries_22 (by decide) ?_
  refine r_aload_n X dX12_tries_23 rfl 1 rfl ?_
  refine r_getF X (k := 49) (of := 35) rfl (Lm_N Lmk_0 rfl) Lmk_0 rfl (by decide) ui_12 (by decide) uw6_29 rfl dX12_tries_24 ?_
  refine r_iconst (v := (0)) X dX12_tries_27 (by decide) ?_
  refine r_cSV (As := [.ref (ad (37)), .int ((0)), .ref (ad (35)), .int ((0))]) (rest := []) X (fun m9 hg => k_X12_copies Lmk_37 Lmk_35 hg) h uw7_142 uw7_143 uw1_13 uw7_144 rfl rfl dd_X12_copies ⟨Nat.le_of_ble_eq_true rfl, Nat.le_of_ble_eq_true rfl⟩ rfl (Nat.le_of_ble_eq_true rfl) dX12_tries_28 rfl (fun m4 h => ?_)
  refine r_iload_n X dX12_tries_31 rfl 0 rfl ?_
  exact r_iret2 X rfl dX12_tries_32 h
noncomputable def f_X12_triesWithout (p1 : Int32) (mem : Mm) : Option (Int32 × Mm) :=
  bnd (sI mem 0 62 p1) fun m1 => bdI (f_X12_tries  m1) fun x3 m2 => bnd (sI m2 0 62 ((0))) fun m4 => some (x3, m4)
theorem dd_X12_triesWithout : yX12_triesWithout.cls = RX12 ∧ yX12_triesWithout.cls ≠ "java/lang/invoke/MethodHandle" ∧ yX12_triesWithout.cls ≠ "java/lang/invoke/VarHandle" ∧ (parseMethodDescriptor yX12_triesWithout.desc).map (fun d => d.parameters.length) = some 1 := by decide +kernel
set_option maxHeartbeats 4000000 in
set_option maxRecDepth 100000 in
theorem k_X12_triesWithout {l : Launch} {ad : Nat → Nat} {cy : Nat → ClassId} {dC : Nat → ClassId} {dI : Nat → Nat → Nat} {ks : (Nat → Nat) × (Nat → Nat)} {p1 : Int32} {mem : Mm} {r2 : Int32} {mem2 : Mm}  (h : f_X12_triesWithout p1 mem = some (r2, mem2)) : CtI l Lm ad cy dC dI ks yX12_triesWithout cX12_triesWithout 3 (some .int) ({ frames := 9, cells := 0, slots := 0, locals := 202 }) [.ref (ad (0)), .int (p1)] mem r2 mem2 := by
  refine CtI.of (cc := cX12_triesWithout) (maxL := 3) (ret := (some .int)) (own := RX12) rfl (by decide) (Nat.le_of_ble_eq_true rfl) ?_
  intro p e s m args below meth c A X
  have hts := X.2.2.2.2.1
  unfold f_X12_triesWithout at h
  refine r_aload_n X dX12_triesWithout_0 rfl 0 rfl ?_
  refine r_iload_n X dX12_triesWithout_1 rfl 1 rfl ?_
  refine r_putI X (k := 62) (Lm_N Lmk_0 rfl) Lmk_0 rfl (by decide) ui_12 (by decide) uw6_42 tyX12_ok nmX12 rfl rfl rfl dX12_triesWithout_2 ?_
  refine r_nmM h (fun m1 h => ?_)
  refine r_aload_n X dX12_triesWithout_5 rfl 0 rfl ?_
  refine r_cVI (As := []) (rest := []) X (fun r9 m9 hg => k_X12_tries hg) h (Lm_N Lmk_0 rfl) Lmk_0 rfl (by decide) uw7_138 uw7_140 us5_13 uw1_13 uw7_141 rfl rfl dd_X12_tries ⟨Nat.le_of_ble_eq_true rfl, Nat.le_of_ble_eq_true rfl⟩ rfl (Nat.le_of_ble_eq_true rfl) dX12_triesWithout_6 rfl (fun x3 m2 h => ?_)
  refine r_istore_n (lv2 := [(2, .int (x3)), (0, .ref (ad (0))), (1, .int (p1))]) X dX12_triesWithout_9 rfl (by decide) rfl ?_
  refine r_aload_n X dX12_triesWithout_10 rfl 1 rfl ?_
  refine r_iconst (v := (0)) X dX12_triesWithout_11 (by decide) ?_
  refine r_putI X (k := 62) (Lm_N Lmk_0 rfl) Lmk_0 rfl (by decide) ui_12 (by decide) uw6_42 tyX12_ok nmX12 rfl rfl rfl dX12_triesWithout_12 ?_
  refine r_nmM h (fun m4 h => ?_)
  refine r_iload_n X dX12_triesWithout_15 rfl 0 rfl ?_
  exact r_iret2 X rfl dX12_triesWithout_16 h
noncomputable def f_X12_mends_J40 (k4 : Int32 → Int32 → Mm → Option (Int32 × Mm)) (x7 : Int32) (x8 : Int32) (m9 : Mm) : Option (Int32 × Mm) :=
  bnd (x8 + (1)) fun x10 => k4 x7 x10 m9
noncomputable def f_X12_mends_B4 (k4 : Int32 → Int32 → Mm → Option (Int32 × Mm)) (x1 : Int32) (x2 : Int32) (m3 : Mm) : Option (Int32 × Mm) :=
  if ((17)) ≤ x2 then (bnd (sI m3 35 4 ((gI m3 35 4) + (gI m3 2 6))) fun m4 => some (x1, m4)) else (grd (inb x2 17) (if ¬ (gI m3 35 x2.toNatClampNeg) = ((9)) then (grd (inb x2 17) (bnd (x1 + (gI m3 35 x2.toNatClampNeg)) fun x5 => grd (inb x2 17) (bnd (sI m3 35 x2.toNatClampNeg ((0))) fun m6 => f_X12_mends_J40 k4 x5 x2 m6))) else (f_X12_mends_J40 k4 x1 x2 m3)))
noncomputable def f_X12_mends  (mem : Mm) : Option (Int32 × Mm) :=
  lop (fun _ _ _ => none) (f_X12_mends_B4 ) 4000 ((0)) ((5)) mem
theorem dd_X12_mends : yX12_mends.cls = RX12 ∧ yX12_mends.cls ≠ "java/lang/invoke/MethodHandle" ∧ yX12_mends.cls ≠ "java/lang/invoke/VarHandle" ∧ (parseMethodDescriptor yX12_mends.desc).map (fun d => d.parameters.length) = some 0 := by decide +kernel
set_option maxHeartbeats 4000000 in
set_option maxRecDepth 100000 in
theorem k_X12_mends {l : Launch} {ad : Nat → Nat} {cy : Nat → ClassId} {dC : Nat → ClassId} {dI : Nat → Nat → Nat} {ks : (Nat → Nat) × (Nat → Nat)}  {mem : Mm} {r2 : Int32} {mem2 : Mm}  (h : f_X12_mends  mem = some (r2, mem2)) : CtI l Lm ad cy dC dI ks yX12_mends cX12_mends 3 (some .int) ({ frames := 0, cells := 0, slots := 0, locals := 0 }) [.ref (ad (0))] mem r2 mem2 := by
  refine CtI.of (cc := cX12_mends) (maxL := 3) (ret := (some .int)) (own := RX12) rfl (by decide) (Nat.le_of_ble_eq_true rfl) ?_
  intro p e s m args below meth c A X
  have hts := X.2.2.2.2.1
  have hJ40 : ∀ (k4 : Int32 → Int32 → Mm → Option (Int32 × Mm)) (hk4 : ∀ (x1 : Int32) (x2 : Int32) (m3 : Mm), k4 x1 x2 m3 = some (r2, mem2) → Jd p l e ({ frames := 0, cells := 0, slots := 0, locals := 0 }) s m args below meth c 3 (MQ below (PsI Lm ad cy dC dI r2 mem2 A) args s 0 0 A) A dC dI cy Lm ad m3 4 [(0, .ref (ad (0))), (1, .int (x1)), (2, .int (x2))] []) (x7 : Int32) (x8 : Int32) (m9 : Mm), f_X12_mends_J40 k4 x7 x8 m9 = some (r2, mem2) → Jd p l e ({ frames := 0, cells := 0, slots := 0, locals := 0 }) s m args below meth c 3 (MQ below (PsI Lm ad cy dC dI r2 mem2 A) args s 0 0 A) A dC dI cy Lm ad m9 40 [(0, .ref (ad (0))), (1, .int (x7)), (2, .int (x8))] [] := by
    intro k4 hk4 x7 x8 m9 h
    unfold f_X12_mends_J40 at h
    refine r_inc h (fun x10 e9 h => ?_)
    refine r_iinc (v := x10) (lv2 := [(2, .int (x10)), (0, .ref (ad (0))), (1, .int (x7))]) X dX12_mends_40 2 rfl (by rw [e9]; rfl) (by decide) rfl ?_
    refine r_goto (tgt := 4) X dX12_mends_43 (by decide) ?_
    exact r_sub [1, 2, 0] rfl (hk4 x7 x10 m9 h)
  have hJ4 : ∀ (k4 : Int32 → Int32 → Mm → Option (Int32 × Mm)) (hk4 : ∀ (x1 : Int32) (x2 : Int32) (m3 : Mm), k4 x1 x2 m3 = some (r2, mem2) → Jd p l e ({ frames := 0, cells := 0, slots := 0, locals := 0 }) s m args below meth c 3 (MQ below (PsI Lm ad cy dC dI r2 mem2 A) args s 0 0 A) A dC dI cy Lm ad m3 4 [(0, .ref (ad (0))), (1, .int (x1)), (2, .int (x2))] []) (x1 : Int32) (x2 : Int32) (m3 : Mm), f_X12_mends_B4 k4 x1 x2 m3 = some (r2, mem2) → Jd p l e ({ frames := 0, cells := 0, slots := 0, locals := 0 }) s m args below meth c 3 (MQ below (PsI Lm ad cy dC dI r2 mem2 A) args s 0 0 A) A dC dI cy Lm ad m3 4 [(0, .ref (ad (0))), (1, .int (x1)), (2, .int (x2))] [] := by
    intro k4 hk4 x1 x2 m3 h
    unfold f_X12_mends_B4 at h
    refine r_iload_n X dX12_mends_4 rfl 2 rfl ?_
    refine r_bipush (v := (17)) X dX12_mends_5 (by decide) ?_
    refine r_icmp_ge (tgt := 46) X dX12_mends_7 (by decide) h (fun h => ?_) (fun h => ?_)
    · refine r_aload_n X dX12_mends_46 rfl 0 rfl ?_
      refine r_getF X (k := 49) (of := 35) rfl (Lm_N Lmk_0 rfl) Lmk_0 rfl (by decide) ui_12 (by decide) uw6_29 rfl dX12_mends_47 ?_
      refine r_iconst (v := (4)) X dX12_mends_50 (by decide) ?_
      refine r_dup2 X dX12_mends_51 rfl rfl ?_
      refine r_iald X (Lm_N Lmk_35 rfl) Lmk_35 (g_in rfl h) dX12_mends_52 (fun h => ?_)
      refine r_aload_n X dX12_mends_53 rfl 0 rfl ?_
      refine r_getF X (k := 10) (of := 2) rfl (Lm_N Lmk_0 rfl) Lmk_0 rfl (by decide) ui_12 (by decide) uw5_230 rfl dX12_mends_54 ?_
      refine r_bipush (v := (6)) X dX12_mends_57 (by decide) ?_
      refine r_iald X (Lm_N Lmk_2 rfl) Lmk_2 (g_in rfl h) dX12_mends_59 (fun h => ?_)
      refine r_iadd X dX12_mends_60 ?_
      refine r_iast X (Lm_N Lmk_35 rfl) Lmk_35 (g_in rfl h) dX12_mends_61 (fun h => ?_)
      refine r_nmM h (fun m4 h => ?_)
      refine r_iload_n X dX12_mends_62 rfl 1 rfl ?_
      exact r_iret2 X rfl dX12_mends_63 h
    · refine r_aload_n X dX12_mends_10 rfl 0 rfl ?_
      refine r_getF X (k := 49) (of := 35) rfl (Lm_N Lmk_0 rfl) Lmk_0 rfl (by decide) ui_12 (by decide) uw6_29 rfl dX12_mends_11 ?_
      refine r_iload_n X dX12_mends_14 rfl 2 rfl ?_
      refine r_iald X (Lm_N Lmk_35 rfl) Lmk_35 h dX12_mends_15 (fun h => ?_)
      refine r_bipush (v := (9)) X dX12_mends_16 (by decide) ?_
      refine r_icmp_ne (tgt := 24) X dX12_mends_18 (by decide) h (fun h => ?_) (fun h => ?_)
      · refine r_iload_n X dX12_mends_24 rfl 1 rfl ?_
        refine r_aload_n X dX12_mends_25 rfl 0 rfl ?_
        refine r_getF X (k := 49) (of := 35) rfl (Lm_N Lmk_0 rfl) Lmk_0 rfl (by decide) ui_12 (by decide) uw6_29 rfl dX12_mends_26 ?_
        refine r_iload_n X dX12_mends_29 rfl 2 rfl ?_
        refine r_iald X (Lm_N Lmk_35 rfl) Lmk_35 h dX12_mends_30 (fun h => ?_)
        refine r_iadd X dX12_mends_31 ?_
        refine r_nmI h (fun x5 h => ?_)
        refine r_istore_n (lv2 := [(1, .int (x5)), (0, .ref (ad (0))), (2, .int (x2))]) X dX12_mends_32 rfl (by decide) rfl ?_
        refine r_aload_n X dX12_mends_33 rfl 1 rfl ?_
        refine r_getF X (k := 49) (of := 35) rfl (Lm_N Lmk_0 rfl) Lmk_0 rfl (by decide) ui_12 (by decide) uw6_29 rfl dX12_mends_34 ?_
        refine r_iload_n X dX12_mends_37 rfl 2 rfl ?_
        refine r_iconst (v := (0)) X dX12_mends_38 (by decide) ?_
        refine r_iast X (Lm_N Lmk_35 rfl) Lmk_35 h dX12_mends_39 (fun h => ?_)
        refine r_nmM h (fun m6 h => ?_)
        exact r_sub [1, 0, 2] rfl (hJ40 k4 hk4 x5 x2 m6 h)
      · refine r_goto (tgt := 40) X dX12_mends_21 (by decide) ?_
        exact r_sub [0, 1, 2] rfl (hJ40 k4 hk4 x1 x2 m3 h)
  have hL4 : ∀ (n : Nat), ∀ (x1 : Int32) (x2 : Int32) (m3 : Mm), lop (fun _ _ _ => none) (f_X12_mends_B4 ) n x1 x2 m3 = some (r2, mem2) → Jd p l e ({ frames := 0, cells := 0, slots := 0, locals := 0 }) s m args below meth c 3 (MQ below (PsI Lm ad cy dC dI r2 mem2 A) args s 0 0 A) A dC dI cy Lm ad m3 4 [(0, .ref (ad (0))), (1, .int (x1)), (2, .int (x2))] [] := by
    intro  n
    induction n with
    | zero => intro _ _ _ h; cases h
    | succ n ih => intro a0 a1 a2 h; exact hJ4  _ ih a0 a1 a2 h
  unfold f_X12_mends at h
  refine r_iconst (v := (0)) X dX12_mends_0 (by decide) ?_
  refine r_istore_n (lv2 := [(1, .int ((0))), (0, .ref (ad (0)))]) X dX12_mends_1 rfl (by decide) rfl ?_
  refine r_iconst (v := (5)) X dX12_mends_2 (by decide) ?_
  refine r_istore_n (lv2 := [(2, .int ((5))), (1, .int ((0))), (0, .ref (ad (0)))]) X dX12_mends_3 rfl (by decide) rfl ?_
  exact r_sub [2, 1, 0] rfl (hL4 4000 ((0)) ((5)) mem h)
noncomputable def f_X12_goneKeys_J31 (k4 : Int32 → Int32 → Mm → Option (Int32 × Mm)) (x4 : Int32) (x5 : Int32) (x6 : Int32) (m7 : Mm) : Option (Int32 × Mm) :=
  bnd (x6 ||| x5) fun x8 => bnd (x4 + (1)) fun x9 => k4 x8 x9 m7
noncomputable def f_X12_goneKeys_B4 (k4 : Int32 → Int32 → Mm → Option (Int32 × Mm)) (x1 : Int32) (x2 : Int32) (m3 : Mm) : Option (Int32 × Mm) :=
  if ((12)) ≤ x2 then (some (x1, m3)) else (grd (inb (((5)) + x2) 17) (if ¬ (gI m3 35 (((5)) + x2).toNatClampNeg) = ((9)) then (f_X12_goneKeys_J31 k4 x2 ((0)) x1 m3) else (f_X12_goneKeys_J31 k4 x2 (((1)) <<< (x2 &&& 31)) x1 m3)))
noncomputable def f_X12_goneKeys  (mem : Mm) : Option (Int32 × Mm) :=
  lop (fun _ _ _ => none) (f_X12_goneKeys_B4 ) 4000 ((0)) ((0)) mem
theorem dd_X12_goneKeys : yX12_goneKeys.cls = RX12 ∧ yX12_goneKeys.cls ≠ "java/lang/invoke/MethodHandle" ∧ yX12_goneKeys.cls ≠ "java/lang/invoke/VarHandle" ∧ (parseMethodDescriptor yX12_goneKeys.desc).map (fun d => d.parameters.length) = some 0 := by decide +kernel
set_option maxHeartbeats 4000000 in
set_option maxRecDepth 100000 in
theorem k_X12_goneKeys {l : Launch} {ad : Nat → Nat} {cy : Nat → ClassId} {dC : Nat → ClassId} {dI : Nat → Nat → Nat} {ks : (Nat → Nat) × (Nat → Nat)}  {mem : Mm} {r2 : Int32} {mem2 : Mm}  (h : f_X12_goneKeys  mem = some (r2, mem2)) : CtI l Lm ad cy dC dI ks yX12_goneKeys cX12_goneKeys 3 (some .int) ({ frames := 0, cells := 0, slots := 0, locals := 0 }) [.ref (ad (0))] mem r2 mem2 := by
  refine CtI.of (cc := cX12_goneKeys) (maxL := 3) (ret := (some .int)) (own := RX12) rfl (by decide) (Nat.le_of_ble_eq_true rfl) ?_
  intro p e s m args below meth c A X
  have hts := X.2.2.2.2.1
  have hJ31 : ∀ (k4 : Int32 → Int32 → Mm → Option (Int32 × Mm)) (hk4 : ∀ (x1 : Int32) (x2 : Int32) (m3 : Mm), k4 x1 x2 m3 = some (r2, mem2) → Jd p l e ({ frames := 0, cells := 0, slots := 0, locals := 0 }) s m args below meth c 3 (MQ below (PsI Lm ad cy dC dI r2 mem2 A) args s 0 0 A) A dC dI cy Lm ad m3 4 [(0, .ref (ad (0))), (1, .int (x1)), (2, .int (x2))] []) (x4 : Int32) (x5 : Int32) (x6 : Int32) (m7 : Mm), f_X12_goneKeys_J31 k4 x4 x5 x6 m7 = some (r2, mem2) → Jd p l e ({ frames := 0, cells := 0, slots := 0, locals := 0 }) s m args below meth c 3 (MQ below (PsI Lm ad cy dC dI r2 mem2 A) args s 0 0 A) A dC dI cy Lm ad m7 31 [(0, .ref (ad (0))), (2, .int (x4))] [.int (x5), .int (x6)] := by
    intro k4 hk4 x4 x5 x6 m7 h
    unfold f_X12_goneKeys_J31 at h
    refine r_ior X dX12_goneKeys_31 ?_
    refine r_nmI h (fun x8 h => ?_)
    refine r_istore_n (lv2 := [(1, .int (x8)), (0, .ref (ad (0))), (2, .int (x4))]) X dX12_goneKeys_32 rfl (by decide) rfl ?_
    refine r_inc h (fun x9 e9 h => ?_)
    refine r_iinc (v := x9) (lv2 := [(2, .int (x9)), (1, .int (x8)), (0, .ref (ad (0)))]) X dX12_goneKeys_33 2 rfl (by rw [e9]; rfl) (by decide) rfl ?_
    refine r_goto (tgt := 4) X dX12_goneKeys_36 (by decide) ?_
    exact r_sub [2, 1, 0] rfl (hk4 x8 x9 m7 h)
  have hJ4 : ∀ (k4 : Int32 → Int32 → Mm → Option (Int32 × Mm)) (hk4 : ∀ (x1 : Int32) (x2 : Int32) (m3 : Mm), k4 x1 x2 m3 = some (r2, mem2) → Jd p l e ({ frames := 0, cells := 0, slots := 0, locals := 0 }) s m args below meth c 3 (MQ below (PsI Lm ad cy dC dI r2 mem2 A) args s 0 0 A) A dC dI cy Lm ad m3 4 [(0, .ref (ad (0))), (1, .int (x1)), (2, .int (x2))] []) (x1 : Int32) (x2 : Int32) (m3 : Mm), f_X12_goneKeys_B4 k4 x1 x2 m3 = some (r2, mem2) → Jd p l e ({ frames := 0, cells := 0, slots := 0, locals := 0 }) s m args below meth c 3 (MQ below (PsI Lm ad cy dC dI r2 mem2 A) args s 0 0 A) A dC dI cy Lm ad m3 4 [(0, .ref (ad (0))), (1, .int (x1)), (2, .int (x2))] [] := by
    intro k4 hk4 x1 x2 m3 h
    unfold f_X12_goneKeys_B4 at h
    refine r_iload_n X dX12_goneKeys_4 rfl 2 rfl ?_
    refine r_bipush (v := (12)) X dX12_goneKeys_5 (by decide) ?_
    refine r_icmp_ge (tgt := 39) X dX12_goneKeys_7 (by decide) h (fun h => ?_) (fun h => ?_)
    · refine r_iload_n X dX12_goneKeys_39 rfl 1 rfl ?_
      exact r_iret2 X rfl dX12_goneKeys_40 h
    · refine r_iload_n X dX12_goneKeys_10 rfl 1 rfl ?_
      refine r_aload_n X dX12_goneKeys_11 rfl 0 rfl ?_
      refine r_getF X (k := 49) (of := 35) rfl (Lm_N Lmk_0 rfl) Lmk_0 rfl (by decide) ui_12 (by decide) uw6_29 rfl dX12_goneKeys_12 ?_
      refine r_iconst (v := (5)) X dX12_goneKeys_15 (by decide) ?_
      refine r_iload_n X dX12_goneKeys_16 rfl 2 rfl ?_
      refine r_iadd X dX12_goneKeys_17 ?_
      refine r_iald X (Lm_N Lmk_35 rfl) Lmk_35 h dX12_goneKeys_18 (fun h => ?_)
      refine r_bipush (v := (9)) X dX12_goneKeys_19 (by decide) ?_
      refine r_icmp_ne (tgt := 30) X dX12_goneKeys_21 (by decide) h (fun h => ?_) (fun h => ?_)
      · refine r_iconst (v := (0)) X dX12_goneKeys_30 (by decide) ?_
        exact r_sub [0, 2] rfl (hJ31 k4 hk4 x2 ((0)) x1 m3 h)
      · refine r_iconst (v := (1)) X dX12_goneKeys_24 (by decide) ?_
        refine r_iload_n X dX12_goneKeys_25 rfl 2 rfl ?_
        refine r_ishl X dX12_goneKeys_26 ?_
        refine r_goto (tgt := 31) X dX12_goneKeys_27 (by decide) ?_
        exact r_sub [0, 2] rfl (hJ31 k4 hk4 x2 (((1)) <<< (x2 &&& 31)) x1 m3 h)
  have hL4 : ∀ (n : Nat), ∀ (x1 : Int32) (x2 : Int32) (m3 : Mm), lop (fun _ _ _ => none) (f_X12_goneKeys_B4 ) n x1 x2 m3 = some (r2, mem2) → Jd p l e ({ frames := 0, cells := 0, slots := 0, locals := 0 }) s m args below meth c 3 (MQ below (PsI Lm ad cy dC dI r2 mem2 A) args s 0 0 A) A dC dI cy Lm ad m3 4 [(0, .ref (ad (0))), (1, .int (x1)), (2, .int (x2))] [] := by
    intro  n
    induction n with
    | zero => intro _ _ _ h; cases h
    | succ n ih => intro a0 a1 a2 h; exact hJ4  _ ih a0 a1 a2 h
  unfold f_X12_goneKeys at h
  refine r_iconst (v := (0)) X dX12_goneKeys_0 (by decide) ?_
  refine r_istore_n (lv2 := [(1, .int ((0))), (0, .ref (ad (0)))]) X dX12_goneKeys_1 rfl (by decide) rfl ?_
  refine r_iconst (v := (0)) X dX12_goneKeys_2 (by decide) ?_
  refine r_istore_n (lv2 := [(2, .int ((0))), (1, .int ((0))), (0, .ref (ad (0)))]) X dX12_goneKeys_3 rfl (by decide) rfl ?_
  exact r_sub [2, 1, 0] rfl (hL4 4000 ((0)) ((0)) mem h)
noncomputable def f_X12_passer (p1 : Int32) (p2 : Int32) (mem : Mm) : Option (Int32 × Mm) :=
  bnd (sI mem 0 0 ((0))) fun m1 => bdI (f_X12_isPasser p1 m1) fun x3 m2 => if x3 = 0 then (some ((-1), m2)) else (bdI (f_X12_within p2 ((0)) ((5)) m2) fun x5 m4 => if ¬ x5 = 0 then (if ((2)) ≤ p2 then (if ((4)) ≤ p2 then (if ¬ p2 = ((4)) then (grd (inb p1 14) (some (gI m4 12 p1.toNatClampNeg, m4))) else (bdI (f_X12_minutesOf p1 m4) fun x7 m6 => some (x7, m6))) else (if ¬ p2 = ((2)) then (grd (inb p1 14) (some (gI m4 10 p1.toNatClampNeg, m4))) else (grd (inb p1 14) (some (gI m4 9 p1.toNatClampNeg, m4))))) else (if ¬ p2 = 0 then (grd (inb p1 14) (some (gI m4 8 p1.toNatClampNeg, m4))) else (grd (inb p1 14) (some (gI m4 7 p1.toNatClampNeg, m4))))) else (some ((-1), m4)))
theorem dd_X12_passer : yX12_passer.cls = RX12 ∧ yX12_passer.cls ≠ "java/lang/invoke/MethodHandle" ∧ yX12_passer.cls ≠ "java/lang/invoke/VarHandle" ∧ (parseMethodDescriptor yX12_passer.desc).map (fun d => d.parameters.length) = some 2 := by decide +kernel
set_option maxHeartbeats 4000000 in
set_option maxRecDepth 100000 in
theorem k_X12_passer {l : Launch} {ad : Nat → Nat} {cy : Nat → ClassId} {dC : Nat → ClassId} {dI : Nat → Nat → Nat} {ks : (Nat → Nat) × (Nat → Nat)} {p1 : Int32} {p2 : Int32} {mem : Mm} {r2 : Int32} {mem2 : Mm}  (h : f_X12_passer p1 p2 mem = some (r2, mem2)) : CtI l Lm ad cy dC dI ks yX12_passer cX12_passer 3 (some .int) ({ frames := 2, cells := 0, slots := 0, locals := 42 }) [.ref (ad (0)), .int (p1), .int (p2)] mem r2 mem2 := by
  refine CtI.of (cc := cX12_passer) (maxL := 3) (ret := (some .int)) (own := RX12) rfl (by decide) (Nat.le_of_ble_eq_true rfl) ?_
  intro p e s m args below meth c A X
  have hts := X.2.2.2.2.1
  unfold f_X12_passer at h
  refine r_aload_n X dX12_passer_0 rfl 0 rfl ?_
  refine r_iconst (v := (0)) X dX12_passer_1 (by decide) ?_
  refine r_putI X (k := 0) (Lm_N Lmk_0 rfl) Lmk_0 rfl (by decide) ui_12 (by decide) uw5_220 tyX12_ok nmX12 rfl rfl rfl dX12_passer_2 ?_
  refine r_nmM h (fun m1 h => ?_)
  refine r_aload_n X dX12_passer_5 rfl 0 rfl ?_
  refine r_iload_n X dX12_passer_6 rfl 1 rfl ?_
  refine r_cVI (As := [.int (p1)]) (rest := []) X (fun r9 m9 hg => k_X12_isPasser hg) h (Lm_N Lmk_0 rfl) Lmk_0 rfl (by decide) uw7_113 uw7_115 us5_10 uw1_13 uw7_116 rfl rfl dd_X12_isPasser ⟨Nat.le_of_ble_eq_true rfl, Nat.le_of_ble_eq_true rfl⟩ rfl (Nat.le_of_ble_eq_true rfl) dX12_passer_7 rfl (fun x3 m2 h => ?_)
  refine r_if_eq (tgt := 22) X dX12_passer_10 (by decide) h (fun h => ?_) (fun h => ?_)
  · refine r_iconst (v := (-1)) X dX12_passer_22 (by decide) ?_
    exact r_iret2 X rfl dX12_passer_23 h
  · refine r_iload_n X dX12_passer_13 rfl 2 rfl ?_
    refine r_iconst (v := (0)) X dX12_passer_14 (by decide) ?_
    refine r_iconst (v := (5)) X dX12_passer_15 (by decide) ?_
    refine r_cSI (As := [.int (p2), .int ((0)), .int ((5))]) (rest := []) X (fun r9 m9 hg => k_X12_within hg) h uw7_49 uw7_50 uw1_13 uw7_51 rfl rfl dd_X12_within ⟨Nat.le_of_ble_eq_true rfl, Nat.le_of_ble_eq_true rfl⟩ rfl (Nat.le_of_ble_eq_true rfl) dX12_passer_16 rfl (fun x5 m4 h => ?_)
    refine r_if_ne (tgt := 24) X dX12_passer_19 (by decide) h (fun h => ?_) (fun h => ?_)
    · refine r_iload_n X dX12_passer_24 rfl 2 rfl ?_
      refine r_iconst (v := (2)) X dX12_passer_25 (by decide) ?_
      refine r_icmp_ge (tgt := 49) X dX12_passer_26 (by decide) h (fun h => ?_) (fun h => ?_)
      · refine r_iload_n X dX12_passer_49 rfl 2 rfl ?_
        refine r_iconst (v := (4)) X dX12_passer_50 (by decide) ?_
        refine r_icmp_ge (tgt := 75) X dX12_passer_51 (by decide) h (fun h => ?_) (fun h => ?_)
        · refine r_iload_n X dX12_passer_75 rfl 2 rfl ?_
          refine r_iconst (v := (4)) X dX12_passer_76 (by decide) ?_
          refine r_icmp_ne (tgt := 88) X dX12_passer_77 (by decide) h (fun h => ?_) (fun h => ?_)
          · refine r_aload_n X dX12_passer_88 rfl 0 rfl ?_
            refine r_getF X (k := 20) (of := 12) rfl (Lm_N Lmk_0 rfl) Lmk_0 rfl (by decide) ui_12 (by decide) uw6_0 rfl dX12_passer_89 ?_
            refine r_iload_n X dX12_passer_92 rfl 1 rfl ?_
            refine r_iald X (Lm_N Lmk_12 rfl) Lmk_12 h dX12_passer_93 (fun h => ?_)
            exact r_iret2 X rfl dX12_passer_94 h
          · refine r_aload_n X dX12_passer_80 rfl 0 rfl ?_
            refine r_iload_n X dX12_passer_81 rfl 1 rfl ?_
            refine r_cVI (As := [.int (p1)]) (rest := []) X (fun r9 m9 hg => k_X12_minutesOf hg) h (Lm_N Lmk_0 rfl) Lmk_0 rfl (by decide) uw7_117 uw7_119 us5_11 uw1_13 uw7_120 rfl rfl dd_X12_minutesOf ⟨Nat.le_of_ble_eq_true rfl, Nat.le_of_ble_eq_true rfl⟩ rfl (Nat.le_of_ble_eq_true rfl) dX12_passer_82 rfl (fun x7 m6 h => ?_)
            refine r_goto (tgt := 94) X dX12_passer_85 (by decide) ?_
            exact r_iret2 X rfl dX12_passer_94 h
        · refine r_iload_n X dX12_passer_54 rfl 2 rfl ?_
          refine r_iconst (v := (2)) X dX12_passer_55 (by decide) ?_
          refine r_icmp_ne (tgt := 68) X dX12_passer_56 (by decide) h (fun h => ?_) (fun h => ?_)
          · refine r_aload_n X dX12_passer_68 rfl 0 rfl ?_
            refine r_getF X (k := 18) (of := 10) rfl (Lm_N Lmk_0 rfl) Lmk_0 rfl (by decide) ui_12 (by decide) uw5_238 rfl dX12_passer_69 ?_
            refine r_iload_n X dX12_passer_72 rfl 1 rfl ?_
            refine r_iald X (Lm_N Lmk_10 rfl) Lmk_10 h dX12_passer_73 (fun h => ?_)
            exact r_iret2 X rfl dX12_passer_74 h
          · refine r_aload_n X dX12_passer_59 rfl 0 rfl ?_
            refine r_getF X (k := 17) (of := 9) rfl (Lm_N Lmk_0 rfl) Lmk_0 rfl (by decide) ui_12 (by decide) uw5_237 rfl dX12_passer_60 ?_
            refine r_iload_n X dX12_passer_63 rfl 1 rfl ?_
            refine r_iald X (Lm_N Lmk_9 rfl) Lmk_9 h dX12_passer_64 (fun h => ?_)
            refine r_goto (tgt := 74) X dX12_passer_65 (by decide) ?_
            exact r_iret2 X rfl dX12_passer_74 h
      · refine r_iload_n X dX12_passer_29 rfl 2 rfl ?_
        refine r_if_ne (tgt := 42) X dX12_passer_30 (by decide) h (fun h => ?_) (fun h => ?_)
        · refine r_aload_n X dX12_passer_42 rfl 0 rfl ?_
          refine r_getF X (k := 16) (of := 8) rfl (Lm_N Lmk_0 rfl) Lmk_0 rfl (by decide) ui_12 (by decide) uw5_236 rfl dX12_passer_43 ?_
          refine r_iload_n X dX12_passer_46 rfl 1 rfl ?_
          refine r_iald X (Lm_N Lmk_8 rfl) Lmk_8 h dX12_passer_47 (fun h => ?_)
          exact r_iret2 X rfl dX12_passer_48 h
        · refine r_aload_n X dX12_passer_33 rfl 0 rfl ?_
          refine r_getF X (k := 15) (of := 7) rfl (Lm_N Lmk_0 rfl) Lmk_0 rfl (by decide) ui_12 (by decide) uw5_235 rfl dX12_passer_34 ?_
          refine r_iload_n X dX12_passer_37 rfl 1 rfl ?_
          refine r_iald X (Lm_N Lmk_7 rfl) Lmk_7 h dX12_passer_38 (fun h => ?_)
          refine r_goto (tgt := 48) X dX12_passer_39 (by decide) ?_
          exact r_iret2 X rfl dX12_passer_48 h
    · refine r_iconst (v := (-1)) X dX12_passer_22 (by decide) ?_
      exact r_iret2 X rfl dX12_passer_23 h
noncomputable def f_X12_tune (p1 : Int32) (p2 : Int32) (mem : Mm) : Option (Int32 × Mm) :=
  bnd (sI mem 0 0 ((0))) fun m1 => if p1 < 0 then (some ((-1), m1)) else (if (gI m1 2 0) ≤ p1 then (some ((-1), m1)) else (if p2 < 0 then (some ((-1), m1)) else (grd (inb p1 10) (if (gI m1 6 p1.toNatClampNeg) ≤ p2 then (some ((-1), m1)) else (grd (inb ((((9)) * p1) + p2) 90) (some (gI m1 5 ((((9)) * p1) + p2).toNatClampNeg, m1)))))))
theorem dd_X12_tune : yX12_tune.cls = RX12 ∧ yX12_tune.cls ≠ "java/lang/invoke/MethodHandle" ∧ yX12_tune.cls ≠ "java/lang/invoke/VarHandle" ∧ (parseMethodDescriptor yX12_tune.desc).map (fun d => d.parameters.length) = some 2 := by decide +kernel
set_option maxHeartbeats 4000000 in
set_option maxRecDepth 100000 in
theorem k_X12_tune {l : Launch} {ad : Nat → Nat} {cy : Nat → ClassId} {dC : Nat → ClassId} {dI : Nat → Nat → Nat} {ks : (Nat → Nat) × (Nat → Nat)} {p1 : Int32} {p2 : Int32} {mem : Mm} {r2 : Int32} {mem2 : Mm}  (h : f_X12_tune p1 p2 mem = some (r2, mem2)) : CtI l Lm ad cy dC dI ks yX12_tune cX12_tune 3 (some .int) ({ frames := 0, cells := 0, slots := 0, locals := 0 }) [.ref (ad (0)), .int (p1), .int (p2)] mem r2 mem2 := by
  refine CtI.of (cc := cX12_tune) (maxL := 3) (ret := (some .int)) (own := RX12) rfl (by decide) (Nat.le_of_ble_eq_true rfl) ?_
  intro p e s m args below meth c A X
  have hts := X.2.2.2.2.1
  unfold f_X12_tune at h
  refine r_aload_n X dX12_tune_0 rfl 0 rfl ?_
  refine r_iconst (v := (0)) X dX12_tune_1 (by decide) ?_
  refine r_putI X (k := 0) (Lm_N Lmk_0 rfl) Lmk_0 rfl (by decide) ui_12 (by decide) uw5_220 tyX12_ok nmX12 rfl rfl rfl dX12_tune_2 ?_
  refine r_nmM h (fun m1 h => ?_)
  refine r_iload_n X dX12_tune_5 rfl 1 rfl ?_
  refine r_if_lt (tgt := 47) X dX12_tune_6 (by decide) h (fun h => ?_) (fun h => ?_)
  · refine r_iconst (v := (-1)) X dX12_tune_47 (by decide) ?_
    exact r_iret2 X rfl dX12_tune_48 h
  · refine r_iload_n X dX12_tune_9 rfl 1 rfl ?_
    refine r_aload_n X dX12_tune_10 rfl 0 rfl ?_
    refine r_getF X (k := 10) (of := 2) rfl (Lm_N Lmk_0 rfl) Lmk_0 rfl (by decide) ui_12 (by decide) uw5_230 rfl dX12_tune_11 ?_
    refine r_iconst (v := (0)) X dX12_tune_14 (by decide) ?_
    refine r_iald X (Lm_N Lmk_2 rfl) Lmk_2 (g_in rfl h) dX12_tune_15 (fun h => ?_)
    refine r_icmp_ge (tgt := 47) X dX12_tune_16 (by decide) h (fun h => ?_) (fun h => ?_)
    · refine r_iconst (v := (-1)) X dX12_tune_47 (by decide) ?_
      exact r_iret2 X rfl dX12_tune_48 h
    · refine r_iload_n X dX12_tune_19 rfl 2 rfl ?_
      refine r_if_lt (tgt := 47) X dX12_tune_20 (by decide) h (fun h => ?_) (fun h => ?_)
      · refine r_iconst (v := (-1)) X dX12_tune_47 (by decide) ?_
        exact r_iret2 X rfl dX12_tune_48 h
      · refine r_iload_n X dX12_tune_23 rfl 2 rfl ?_
        refine r_aload_n X dX12_tune_24 rfl 0 rfl ?_
        refine r_getF X (k := 14) (of := 6) rfl (Lm_N Lmk_0 rfl) Lmk_0 rfl (by decide) ui_12 (by decide) uw5_234 rfl dX12_tune_25 ?_
        refine r_iload_n X dX12_tune_28 rfl 1 rfl ?_
        refine r_iald X (Lm_N Lmk_6 rfl) Lmk_6 h dX12_tune_29 (fun h => ?_)
        refine r_icmp_ge (tgt := 47) X dX12_tune_30 (by decide) h (fun h => ?_) (fun h => ?_)
        · refine r_iconst (v := (-1)) X dX12_tune_47 (by decide) ?_
          exact r_iret2 X rfl dX12_tune_48 h
        · refine r_aload_n X dX12_tune_33 rfl 0 rfl ?_
          refine r_getF X (k := 13) (of := 5) rfl (Lm_N Lmk_0 rfl) Lmk_0 rfl (by decide) ui_12 (by decide) uw5_233 rfl dX12_tune_34 ?_
          refine r_bipush (v := (9)) X dX12_tune_37 (by decide) ?_
          refine r_iload_n X dX12_tune_39 rfl 1 rfl ?_
          refine r_imul X dX12_tune_40 ?_
          refine r_iload_n X dX12_tune_41 rfl 2 rfl ?_
          refine r_iadd X dX12_tune_42 ?_
          refine r_iald X (Lm_N Lmk_5 rfl) Lmk_5 h dX12_tune_43 (fun h => ?_)
          refine r_goto (tgt := 48) X dX12_tune_44 (by decide) ?_
          exact r_iret2 X rfl dX12_tune_48 h
noncomputable def f_X12_key (p1 : Int32) (mem : Mm) : Option (Int32 × Mm) :=
  bnd (sI mem 0 0 ((0))) fun m1 => bdI (f_X12_isKey p1 m1) fun x3 m2 => if x3 = 0 then (some ((-1), m2)) else (grd (inb (((5)) + p1) 17) (some (gI m2 35 (((5)) + p1).toNatClampNeg, m2)))
theorem dd_X12_key : yX12_key.cls = RX12 ∧ yX12_key.cls ≠ "java/lang/invoke/MethodHandle" ∧ yX12_key.cls ≠ "java/lang/invoke/VarHandle" ∧ (parseMethodDescriptor yX12_key.desc).map (fun d => d.parameters.length) = some 1 := by decide +kernel
set_option maxHeartbeats 4000000 in
set_option maxRecDepth 100000 in
theorem k_X12_key {l : Launch} {ad : Nat → Nat} {cy : Nat → ClassId} {dC : Nat → ClassId} {dI : Nat → Nat → Nat} {ks : (Nat → Nat) × (Nat → Nat)} {p1 : Int32} {mem : Mm} {r2 : Int32} {mem2 : Mm}  (h : f_X12_key p1 mem = some (r2, mem2)) : CtI l Lm ad cy dC dI ks yX12_key cX12_key 2 (some .int) ({ frames := 1, cells := 0, slots := 0, locals := 21 }) [.ref (ad (0)), .int (p1)] mem r2 mem2 := by
  refine CtI.of (cc := cX12_key) (maxL := 2) (ret := (some .int)) (own := RX12) rfl (by decide) (Nat.le_of_ble_eq_true rfl) ?_
  intro p e s m args below meth c A X
  have hts := X.2.2.2.2.1
  unfold f_X12_key at h
  refine r_aload_n X dX12_key_0 rfl 0 rfl ?_
  refine r_iconst (v := (0)) X dX12_key_1 (by decide) ?_
  refine r_putI X (k := 0) (Lm_N Lmk_0 rfl) Lmk_0 rfl (by decide) ui_12 (by decide) uw5_220 tyX12_ok nmX12 rfl rfl rfl dX12_key_2 ?_
  refine r_nmM h (fun m1 h => ?_)
  refine r_aload_n X dX12_key_5 rfl 0 rfl ?_
  refine r_iload_n X dX12_key_6 rfl 1 rfl ?_
  refine r_cVI (As := [.int (p1)]) (rest := []) X (fun r9 m9 hg => k_X12_isKey hg) h (Lm_N Lmk_0 rfl) Lmk_0 rfl (by decide) uw7_130 uw7_132 us5_12 uw1_13 uw7_133 rfl rfl dd_X12_isKey ⟨Nat.le_of_ble_eq_true rfl, Nat.le_of_ble_eq_true rfl⟩ rfl (Nat.le_of_ble_eq_true rfl) dX12_key_7 rfl (fun x3 m2 h => ?_)
  refine r_if_eq (tgt := 24) X dX12_key_10 (by decide) h (fun h => ?_) (fun h => ?_)
  · refine r_iconst (v := (-1)) X dX12_key_24 (by decide) ?_
    exact r_iret2 X rfl dX12_key_25 h
  · refine r_aload_n X dX12_key_13 rfl 0 rfl ?_
    refine r_getF X (k := 49) (of := 35) rfl (Lm_N Lmk_0 rfl) Lmk_0 rfl (by decide) ui_12 (by decide) uw6_29 rfl dX12_key_14 ?_
    refine r_iconst (v := (5)) X dX12_key_17 (by decide) ?_
    refine r_iload_n X dX12_key_18 rfl 1 rfl ?_
    refine r_iadd X dX12_key_19 ?_
    refine r_iald X (Lm_N Lmk_35 rfl) Lmk_35 h dX12_key_20 (fun h => ?_)
    refine r_goto (tgt := 25) X dX12_key_21 (by decide) ?_
    exact r_iret2 X rfl dX12_key_25 h
noncomputable def f_X12_begins (p1 : Int32) (mem : Mm) : Option (Int32 × Mm) :=
  bnd (sI mem 0 0 ((0))) fun m1 => bdI (f_X12_isPasser p1 m1) fun x3 m2 => if ¬ x3 = 0 then (bdI (f_X12_tries  m2) fun x5 m4 => grd (inb p1 7) (some (gI m4 43 p1.toNatClampNeg, m4))) else (some ((-1), m2))
theorem dd_X12_begins : yX12_begins.cls = RX12 ∧ yX12_begins.cls ≠ "java/lang/invoke/MethodHandle" ∧ yX12_begins.cls ≠ "java/lang/invoke/VarHandle" ∧ (parseMethodDescriptor yX12_begins.desc).map (fun d => d.parameters.length) = some 1 := by decide +kernel
set_option maxHeartbeats 4000000 in
set_option maxRecDepth 100000 in
theorem k_X12_begins {l : Launch} {ad : Nat → Nat} {cy : Nat → ClassId} {dC : Nat → ClassId} {dI : Nat → Nat → Nat} {ks : (Nat → Nat) × (Nat → Nat)} {p1 : Int32} {mem : Mm} {r2 : Int32} {mem2 : Mm}  (h : f_X12_begins p1 mem = some (r2, mem2)) : CtI l Lm ad cy dC dI ks yX12_begins cX12_begins 2 (some .int) ({ frames := 9, cells := 0, slots := 0, locals := 202 }) [.ref (ad (0)), .int (p1)] mem r2 mem2 := by
  refine CtI.of (cc := cX12_begins) (maxL := 2) (ret := (some .int)) (own := RX12) rfl (by decide) (Nat.le_of_ble_eq_true rfl) ?_
  intro p e s m args below meth c A X
  have hts := X.2.2.2.2.1
  unfold f_X12_begins at h
  refine r_aload_n X dX12_begins_0 rfl 0 rfl ?_
  refine r_iconst (v := (0)) X dX12_begins_1 (by decide) ?_
  refine r_putI X (k := 0) (Lm_N Lmk_0 rfl) Lmk_0 rfl (by decide) ui_12 (by decide) uw5_220 tyX12_ok nmX12 rfl rfl rfl dX12_begins_2 ?_
  refine r_nmM h (fun m1 h => ?_)
  refine r_aload_n X dX12_begins_5 rfl 0 rfl ?_
  refine r_iload_n X dX12_begins_6 rfl 1 rfl ?_
  refine r_cVI (As := [.int (p1)]) (rest := []) X (fun r9 m9 hg => k_X12_isPasser hg) h (Lm_N Lmk_0 rfl) Lmk_0 rfl (by decide) uw7_113 uw7_115 us5_10 uw1_13 uw7_116 rfl rfl dd_X12_isPasser ⟨Nat.le_of_ble_eq_true rfl, Nat.le_of_ble_eq_true rfl⟩ rfl (Nat.le_of_ble_eq_true rfl) dX12_begins_7 rfl (fun x3 m2 h => ?_)
  refine r_if_ne (tgt := 15) X dX12_begins_10 (by decide) h (fun h => ?_) (fun h => ?_)
  · refine r_aload_n X dX12_begins_15 rfl 0 rfl ?_
    refine r_cVI (As := []) (rest := []) X (fun r9 m9 hg => k_X12_tries hg) h (Lm_N Lmk_0 rfl) Lmk_0 rfl (by decide) uw7_138 uw7_140 us5_13 uw1_13 uw7_141 rfl rfl dd_X12_tries ⟨Nat.le_of_ble_eq_true rfl, Nat.le_of_ble_eq_true rfl⟩ rfl (Nat.le_of_ble_eq_true rfl) dX12_begins_16 rfl (fun x5 m4 h => ?_)
    refine r_pop X dX12_begins_19 rfl ?_
    refine r_aload_n X dX12_begins_20 rfl 0 rfl ?_
    refine r_getF X (k := 58) (of := 43) rfl (Lm_N Lmk_0 rfl) Lmk_0 rfl (by decide) ui_12 (by decide) uw6_38 rfl dX12_begins_21 ?_
    refine r_iload_n X dX12_begins_24 rfl 1 rfl ?_
    refine r_iald X (Lm_N Lmk_43 rfl) Lmk_43 h dX12_begins_25 (fun h => ?_)
    exact r_iret2 X rfl dX12_begins_26 h
  · refine r_iconst (v := (-1)) X dX12_begins_13 (by decide) ?_
    exact r_iret2 X rfl dX12_begins_14 h
noncomputable def f_X12_ends (p1 : Int32) (mem : Mm) : Option (Int32 × Mm) :=
  bnd (sI mem 0 0 ((0))) fun m1 => bdI (f_X12_isPasser p1 m1) fun x3 m2 => if ¬ x3 = 0 then (bdI (f_X12_tries  m2) fun x5 m4 => grd (inb p1 7) (some (gI m4 44 p1.toNatClampNeg, m4))) else (some ((-1), m2))
theorem dd_X12_ends : yX12_ends.cls = RX12 ∧ yX12_ends.cls ≠ "java/lang/invoke/MethodHandle" ∧ yX12_ends.cls ≠ "java/lang/invoke/VarHandle" ∧ (parseMethodDescriptor yX12_ends.desc).map (fun d => d.parameters.length) = some 1 := by decide +kernel
set_option maxHeartbeats 4000000 in
set_option maxRecDepth 100000 in
theorem k_X12_ends {l : Launch} {ad : Nat → Nat} {cy : Nat → ClassId} {dC : Nat → ClassId} {dI : Nat → Nat → Nat} {ks : (Nat → Nat) × (Nat → Nat)} {p1 : Int32} {mem : Mm} {r2 : Int32} {mem2 : Mm}  (h : f_X12_ends p1 mem = some (r2, mem2)) : CtI l Lm ad cy dC dI ks yX12_ends cX12_ends 2 (some .int) ({ frames := 9, cells := 0, slots := 0, locals := 202 }) [.ref (ad (0)), .int (p1)] mem r2 mem2 := by
  refine CtI.of (cc := cX12_ends) (maxL := 2) (ret := (some .int)) (own := RX12) rfl (by decide) (Nat.le_of_ble_eq_true rfl) ?_
  intro p e s m args below meth c A X
  have hts := X.2.2.2.2.1
  unfold f_X12_ends at h
  refine r_aload_n X dX12_ends_0 rfl 0 rfl ?_
  refine r_iconst (v := (0)) X dX12_ends_1 (by decide) ?_
  refine r_putI X (k := 0) (Lm_N Lmk_0 rfl) Lmk_0 rfl (by decide) ui_12 (by decide) uw5_220 tyX12_ok nmX12 rfl rfl rfl dX12_ends_2 ?_
  refine r_nmM h (fun m1 h => ?_)
  refine r_aload_n X dX12_ends_5 rfl 0 rfl ?_
  refine r_iload_n X dX12_ends_6 rfl 1 rfl ?_
  refine r_cVI (As := [.int (p1)]) (rest := []) X (fun r9 m9 hg => k_X12_isPasser hg) h (Lm_N Lmk_0 rfl) Lmk_0 rfl (by decide) uw7_113 uw7_115 us5_10 uw1_13 uw7_116 rfl rfl dd_X12_isPasser ⟨Nat.le_of_ble_eq_true rfl, Nat.le_of_ble_eq_true rfl⟩ rfl (Nat.le_of_ble_eq_true rfl) dX12_ends_7 rfl (fun x3 m2 h => ?_)
  refine r_if_ne (tgt := 15) X dX12_ends_10 (by decide) h (fun h => ?_) (fun h => ?_)
  · refine r_aload_n X dX12_ends_15 rfl 0 rfl ?_
    refine r_cVI (As := []) (rest := []) X (fun r9 m9 hg => k_X12_tries hg) h (Lm_N Lmk_0 rfl) Lmk_0 rfl (by decide) uw7_138 uw7_140 us5_13 uw1_13 uw7_141 rfl rfl dd_X12_tries ⟨Nat.le_of_ble_eq_true rfl, Nat.le_of_ble_eq_true rfl⟩ rfl (Nat.le_of_ble_eq_true rfl) dX12_ends_16 rfl (fun x5 m4 h => ?_)
    refine r_pop X dX12_ends_19 rfl ?_
    refine r_aload_n X dX12_ends_20 rfl 0 rfl ?_
    refine r_getF X (k := 59) (of := 44) rfl (Lm_N Lmk_0 rfl) Lmk_0 rfl (by decide) ui_12 (by decide) uw6_39 rfl dX12_ends_21 ?_
    refine r_iload_n X dX12_ends_24 rfl 1 rfl ?_
    refine r_iald X (Lm_N Lmk_44 rfl) Lmk_44 h dX12_ends_25 (fun h => ?_)
    exact r_iret2 X rfl dX12_ends_26 h
  · refine r_iconst (v := (-1)) X dX12_ends_13 (by decide) ?_
    exact r_iret2 X rfl dX12_ends_14 h
noncomputable def f_X12_now (p1 : Int32) (mem : Mm) : Option (Int32 × Mm) :=
  bnd (sI mem 0 0 ((0))) fun m1 => bdI (f_X12_within p1 ((0)) ((59)) m1) fun x3 m2 => if ¬ x3 = 0 then (bdI (f_X12_tries  m2) fun x5 m4 => grd (inb p1 60) (some (gI m4 45 p1.toNatClampNeg, m4))) else (some ((-1), m2))
theorem dd_X12_now : yX12_now.cls = RX12 ∧ yX12_now.cls ≠ "java/lang/invoke/MethodHandle" ∧ yX12_now.cls ≠ "java/lang/invoke/VarHandle" ∧ (parseMethodDescriptor yX12_now.desc).map (fun d => d.parameters.length) = some 1 := by decide +kernel
set_option maxHeartbeats 4000000 in
set_option maxRecDepth 100000 in
theorem k_X12_now {l : Launch} {ad : Nat → Nat} {cy : Nat → ClassId} {dC : Nat → ClassId} {dI : Nat → Nat → Nat} {ks : (Nat → Nat) × (Nat → Nat)} {p1 : Int32} {mem : Mm} {r2 : Int32} {mem2 : Mm}  (h : f_X12_now p1 mem = some (r2, mem2)) : CtI l Lm ad cy dC dI ks yX12_now cX12_now 2 (some .int) ({ frames := 9, cells := 0, slots := 0, locals := 202 }) [.ref (ad (0)), .int (p1)] mem r2 mem2 := by
  refine CtI.of (cc := cX12_now) (maxL := 2) (ret := (some .int)) (own := RX12) rfl (by decide) (Nat.le_of_ble_eq_true rfl) ?_
  intro p e s m args below meth c A X
  have hts := X.2.2.2.2.1
  unfold f_X12_now at h
  refine r_aload_n X dX12_now_0 rfl 0 rfl ?_
  refine r_iconst (v := (0)) X dX12_now_1 (by decide) ?_
  refine r_putI X (k := 0) (Lm_N Lmk_0 rfl) Lmk_0 rfl (by decide) ui_12 (by decide) uw5_220 tyX12_ok nmX12 rfl rfl rfl dX12_now_2 ?_
  refine r_nmM h (fun m1 h => ?_)
  refine r_iload_n X dX12_now_5 rfl 1 rfl ?_
  refine r_iconst (v := (0)) X dX12_now_6 (by decide) ?_
  refine r_bipush (v := (59)) X dX12_now_7 (by decide) ?_
  refine r_cSI (As := [.int (p1), .int ((0)), .int ((59))]) (rest := []) X (fun r9 m9 hg => k_X12_within hg) h uw7_49 uw7_50 uw1_13 uw7_51 rfl rfl dd_X12_within ⟨Nat.le_of_ble_eq_true rfl, Nat.le_of_ble_eq_true rfl⟩ rfl (Nat.le_of_ble_eq_true rfl) dX12_now_9 rfl (fun x3 m2 h => ?_)
  refine r_if_ne (tgt := 17) X dX12_now_12 (by decide) h (fun h => ?_) (fun h => ?_)
  · refine r_aload_n X dX12_now_17 rfl 0 rfl ?_
    refine r_cVI (As := []) (rest := []) X (fun r9 m9 hg => k_X12_tries hg) h (Lm_N Lmk_0 rfl) Lmk_0 rfl (by decide) uw7_138 uw7_140 us5_13 uw1_13 uw7_141 rfl rfl dd_X12_tries ⟨Nat.le_of_ble_eq_true rfl, Nat.le_of_ble_eq_true rfl⟩ rfl (Nat.le_of_ble_eq_true rfl) dX12_now_18 rfl (fun x5 m4 h => ?_)
    refine r_pop X dX12_now_21 rfl ?_
    refine r_aload_n X dX12_now_22 rfl 0 rfl ?_
    refine r_getF X (k := 60) (of := 45) rfl (Lm_N Lmk_0 rfl) Lmk_0 rfl (by decide) ui_12 (by decide) uw6_40 rfl dX12_now_23 ?_
    refine r_iload_n X dX12_now_26 rfl 1 rfl ?_
    refine r_iald X (Lm_N Lmk_45 rfl) Lmk_45 h dX12_now_27 (fun h => ?_)
    exact r_iret2 X rfl dX12_now_28 h
  · refine r_iconst (v := (-1)) X dX12_now_15 (by decide) ?_
    exact r_iret2 X rfl dX12_now_16 h
noncomputable def f_X12_away_J41 (k14 : Int32 → Int32 → Mm → Option (Int32 × Mm)) (x7 : Int32) (x8 : Int32) (x9 : Int32) (m10 : Mm) : Option (Int32 × Mm) :=
  bnd (x9 ||| x8) fun x11 => bnd (x7 + (1)) fun x12 => k14 x11 x12 m10
noncomputable def f_X12_away_B14 (k14 : Int32 → Int32 → Mm → Option (Int32 × Mm)) (x4 : Int32) (x5 : Int32) (m6 : Mm) : Option (Int32 × Mm) :=
  if (gI m6 2 1) ≤ x5 then (some (x4, m6)) else (grd (inb x5 7) (if 0 ≤ (gI m6 43 x5.toNatClampNeg) then (f_X12_away_J41 k14 x5 ((0)) x4 m6) else (f_X12_away_J41 k14 x5 (((1)) <<< (x5 &&& 31)) x4 m6)))
noncomputable def f_X12_away  (mem : Mm) : Option (Int32 × Mm) :=
  bnd (sI mem 0 0 ((0))) fun m1 => bdI (f_X12_tries  m1) fun x3 m2 => lop (fun _ _ _ => none) (f_X12_away_B14 ) 4000 ((0)) ((0)) m2
theorem dd_X12_away : yX12_away.cls = RX12 ∧ yX12_away.cls ≠ "java/lang/invoke/MethodHandle" ∧ yX12_away.cls ≠ "java/lang/invoke/VarHandle" ∧ (parseMethodDescriptor yX12_away.desc).map (fun d => d.parameters.length) = some 0 := by decide +kernel
set_option maxHeartbeats 4000000 in
set_option maxRecDepth 100000 in
theorem k_X12_away {l : Launch} {ad : Nat → Nat} {cy : Nat → ClassId} {dC : Nat → ClassId} {dI : Nat → Nat → Nat} {ks : (Nat → Nat) × (Nat → Nat)}  {mem : Mm} {r2 : Int32} {mem2 : Mm}  (h : f_X12_away  mem = some (r2, mem2)) : CtI l Lm ad cy dC dI ks yX12_away cX12_away 3 (some .int) ({ frames := 9, cells := 0, slots := 0, locals := 202 }) [.ref (ad (0))] mem r2 mem2 := by
  refine CtI.of (cc := cX12_away) (maxL := 3) (ret := (some .int)) (own := RX12) rfl (by decide) (Nat.le_of_ble_eq_true rfl) ?_
  intro p e s m args below meth c A X
  have hts := X.2.2.2.2.1
  have hJ41 : ∀ (k14 : Int32 → Int32 → Mm → Option (Int32 × Mm)) (hk14 : ∀ (x4 : Int32) (x5 : Int32) (m6 : Mm), k14 x4 x5 m6 = some (r2, mem2) → Jd p l e ({ frames := 9, cells := 0, slots := 0, locals := 202 }) s m args below meth c 3 (MQ below (PsI Lm ad cy dC dI r2 mem2 A) args s 0 0 A) A dC dI cy Lm ad m6 14 [(0, .ref (ad (0))), (1, .int (x4)), (2, .int (x5))] []) (x7 : Int32) (x8 : Int32) (x9 : Int32) (m10 : Mm), f_X12_away_J41 k14 x7 x8 x9 m10 = some (r2, mem2) → Jd p l e ({ frames := 9, cells := 0, slots := 0, locals := 202 }) s m args below meth c 3 (MQ below (PsI Lm ad cy dC dI r2 mem2 A) args s 0 0 A) A dC dI cy Lm ad m10 41 [(0, .ref (ad (0))), (2, .int (x7))] [.int (x8), .int (x9)] := by
    intro k14 hk14 x7 x8 x9 m10 h
    unfold f_X12_away_J41 at h
    refine r_ior X dX12_away_41 ?_
    refine r_nmI h (fun x11 h => ?_)
    refine r_istore_n (lv2 := [(1, .int (x11)), (0, .ref (ad (0))), (2, .int (x7))]) X dX12_away_42 rfl (by decide) rfl ?_
    refine r_inc h (fun x12 e9 h => ?_)
    refine r_iinc (v := x12) (lv2 := [(2, .int (x12)), (1, .int (x11)), (0, .ref (ad (0)))]) X dX12_away_43 2 rfl (by rw [e9]; rfl) (by decide) rfl ?_
    refine r_goto (tgt := 14) X dX12_away_46 (by decide) ?_
    exact r_sub [2, 1, 0] rfl (hk14 x11 x12 m10 h)
  have hJ14 : ∀ (k14 : Int32 → Int32 → Mm → Option (Int32 × Mm)) (hk14 : ∀ (x4 : Int32) (x5 : Int32) (m6 : Mm), k14 x4 x5 m6 = some (r2, mem2) → Jd p l e ({ frames := 9, cells := 0, slots := 0, locals := 202 }) s m args below meth c 3 (MQ below (PsI Lm ad cy dC dI r2 mem2 A) args s 0 0 A) A dC dI cy Lm ad m6 14 [(0, .ref (ad (0))), (1, .int (x4)), (2, .int (x5))] []) (x4 : Int32) (x5 : Int32) (m6 : Mm), f_X12_away_B14 k14 x4 x5 m6 = some (r2, mem2) → Jd p l e ({ frames := 9, cells := 0, slots := 0, locals := 202 }) s m args below meth c 3 (MQ below (PsI Lm ad cy dC dI r2 mem2 A) args s 0 0 A) A dC dI cy Lm ad m6 14 [(0, .ref (ad (0))), (1, .int (x4)), (2, .int (x5))] [] := by
    intro k14 hk14 x4 x5 m6 h
    unfold f_X12_away_B14 at h
    refine r_iload_n X dX12_away_14 rfl 2 rfl ?_
    refine r_aload_n X dX12_away_15 rfl 0 rfl ?_
    refine r_getF X (k := 10) (of := 2) rfl (Lm_N Lmk_0 rfl) Lmk_0 rfl (by decide) ui_12 (by decide) uw5_230 rfl dX12_away_16 ?_
    refine r_iconst (v := (1)) X dX12_away_19 (by decide) ?_
    refine r_iald X (Lm_N Lmk_2 rfl) Lmk_2 (g_in rfl h) dX12_away_20 (fun h => ?_)
    refine r_icmp_ge (tgt := 49) X dX12_away_21 (by decide) h (fun h => ?_) (fun h => ?_)
    · refine r_iload_n X dX12_away_49 rfl 1 rfl ?_
      exact r_iret2 X rfl dX12_away_50 h
    · refine r_iload_n X dX12_away_24 rfl 1 rfl ?_
      refine r_aload_n X dX12_away_25 rfl 0 rfl ?_
      refine r_getF X (k := 58) (of := 43) rfl (Lm_N Lmk_0 rfl) Lmk_0 rfl (by decide) ui_12 (by decide) uw6_38 rfl dX12_away_26 ?_
      refine r_iload_n X dX12_away_29 rfl 2 rfl ?_
      refine r_iald X (Lm_N Lmk_43 rfl) Lmk_43 h dX12_away_30 (fun h => ?_)
      refine r_if_ge (tgt := 40) X dX12_away_31 (by decide) h (fun h => ?_) (fun h => ?_)
      · refine r_iconst (v := (0)) X dX12_away_40 (by decide) ?_
        exact r_sub [0, 2] rfl (hJ41 k14 hk14 x5 ((0)) x4 m6 h)
      · refine r_iconst (v := (1)) X dX12_away_34 (by decide) ?_
        refine r_iload_n X dX12_away_35 rfl 2 rfl ?_
        refine r_ishl X dX12_away_36 ?_
        refine r_goto (tgt := 41) X dX12_away_37 (by decide) ?_
        exact r_sub [0, 2] rfl (hJ41 k14 hk14 x5 (((1)) <<< (x5 &&& 31)) x4 m6 h)
  have hL14 : ∀ (n : Nat), ∀ (x4 : Int32) (x5 : Int32) (m6 : Mm), lop (fun _ _ _ => none) (f_X12_away_B14 ) n x4 x5 m6 = some (r2, mem2) → Jd p l e ({ frames := 9, cells := 0, slots := 0, locals := 202 }) s m args below meth c 3 (MQ below (PsI Lm ad cy dC dI r2 mem2 A) args s 0 0 A) A dC dI cy Lm ad m6 14 [(0, .ref (ad (0))), (1, .int (x4)), (2, .int (x5))] [] := by
    intro  n
    induction n with
    | zero => intro _ _ _ h; cases h
    | succ n ih => intro a0 a1 a2 h; exact hJ14  _ ih a0 a1 a2 h
  unfold f_X12_away at h
  refine r_aload_n X dX12_away_0 rfl 0 rfl ?_
  refine r_iconst (v := (0)) X dX12_away_1 (by decide) ?_
  refine r_putI X (k := 0) (Lm_N Lmk_0 rfl) Lmk_0 rfl (by decide) ui_12 (by decide) uw5_220 tyX12_ok nmX12 rfl rfl rfl dX12_away_2 ?_
  refine r_nmM h (fun m1 h => ?_)
  refine r_aload_n X dX12_away_5 rfl 0 rfl ?_
  refine r_cVI (As := []) (rest := []) X (fun r9 m9 hg => k_X12_tries hg) h (Lm_N Lmk_0 rfl) Lmk_0 rfl (by decide) uw7_138 uw7_140 us5_13 uw1_13 uw7_141 rfl rfl dd_X12_tries ⟨Nat.le_of_ble_eq_true rfl, Nat.le_of_ble_eq_true rfl⟩ rfl (Nat.le_of_ble_eq_true rfl) dX12_away_6 rfl (fun x3 m2 h => ?_)
  refine r_pop X dX12_away_9 rfl ?_
  refine r_iconst (v := (0)) X dX12_away_10 (by decide) ?_
  refine r_istore_n (lv2 := [(1, .int ((0))), (0, .ref (ad (0)))]) X dX12_away_11 rfl (by decide) rfl ?_
  refine r_iconst (v := (0)) X dX12_away_12 (by decide) ?_
  refine r_istore_n (lv2 := [(2, .int ((0))), (1, .int ((0))), (0, .ref (ad (0)))]) X dX12_away_13 rfl (by decide) rfl ?_
  exact r_sub [2, 1, 0] rfl (hL14 4000 ((0)) ((0)) m2 h)
noncomputable def f_X12_joy  (mem : Mm) : Option (Int32 × Mm) :=
  bnd (sI mem 0 0 ((0))) fun m1 => bdI (f_X12_tries  m1) fun x3 m2 => some (x3, m2)
theorem dd_X12_joy : yX12_joy.cls = RX12 ∧ yX12_joy.cls ≠ "java/lang/invoke/MethodHandle" ∧ yX12_joy.cls ≠ "java/lang/invoke/VarHandle" ∧ (parseMethodDescriptor yX12_joy.desc).map (fun d => d.parameters.length) = some 0 := by decide +kernel
set_option maxHeartbeats 4000000 in
set_option maxRecDepth 100000 in
theorem k_X12_joy {l : Launch} {ad : Nat → Nat} {cy : Nat → ClassId} {dC : Nat → ClassId} {dI : Nat → Nat → Nat} {ks : (Nat → Nat) × (Nat → Nat)}  {mem : Mm} {r2 : Int32} {mem2 : Mm}  (h : f_X12_joy  mem = some (r2, mem2)) : CtI l Lm ad cy dC dI ks yX12_joy cX12_joy 1 (some .int) ({ frames := 9, cells := 0, slots := 0, locals := 202 }) [.ref (ad (0))] mem r2 mem2 := by
  refine CtI.of (cc := cX12_joy) (maxL := 1) (ret := (some .int)) (own := RX12) rfl (by decide) (Nat.le_of_ble_eq_true rfl) ?_
  intro p e s m args below meth c A X
  have hts := X.2.2.2.2.1
  unfold f_X12_joy at h
  refine r_aload_n X dX12_joy_0 rfl 0 rfl ?_
  refine r_iconst (v := (0)) X dX12_joy_1 (by decide) ?_
  refine r_putI X (k := 0) (Lm_N Lmk_0 rfl) Lmk_0 rfl (by decide) ui_12 (by decide) uw5_220 tyX12_ok nmX12 rfl rfl rfl dX12_joy_2 ?_
  refine r_nmM h (fun m1 h => ?_)
  refine r_aload_n X dX12_joy_5 rfl 0 rfl ?_
  refine r_cVI (As := []) (rest := []) X (fun r9 m9 hg => k_X12_tries hg) h (Lm_N Lmk_0 rfl) Lmk_0 rfl (by decide) uw7_138 uw7_140 us5_13 uw1_13 uw7_141 rfl rfl dd_X12_tries ⟨Nat.le_of_ble_eq_true rfl, Nat.le_of_ble_eq_true rfl⟩ rfl (Nat.le_of_ble_eq_true rfl) dX12_joy_6 rfl (fun x3 m2 h => ?_)
  exact r_iret2 X rfl dX12_joy_9 h
noncomputable def f_X12_keeps_J49 (m1 : Mm) : Option Mm :=
  bdV (f_X12_copies 35 ((0)) 39 (((17)) * (gI m1 0 55)) m1) fun m2 => bnd (sI m2 0 55 ((gI m2 0 55) + ((1)))) fun m3 => some m3
noncomputable def f_X12_keeps_B11 (k11 : Int32 → Mm → Option Mm) (x4 : Int32) (m5 : Mm) : Option Mm :=
  if ((255)) ≤ x4 then (bnd (sI m5 0 55 ((gI m5 0 55) - ((1)))) fun m6 => f_X12_keeps_J49 m6) else (grd (inb (x4 + ((17))) 272) (grd (inb x4 272) (bnd (sI m5 39 x4.toNatClampNeg (gI m5 39 (x4 + ((17))).toNatClampNeg)) fun m7 => bnd (x4 + (1)) fun x8 => k11 x8 m7)))
noncomputable def f_X12_keeps  (mem : Mm) : Option Mm :=
  if ¬ (gI mem 0 55) = ((16)) then (f_X12_keeps_J49 mem) else (lop (fun _ _ => none) (f_X12_keeps_B11 ) 4000 ((0)) mem)
theorem dd_X12_keeps : yX12_keeps.cls = RX12 ∧ yX12_keeps.cls ≠ "java/lang/invoke/MethodHandle" ∧ yX12_keeps.cls ≠ "java/lang/invoke/VarHandle" ∧ (parseMethodDescriptor yX12_keeps.desc).map (fun d => d.parameters.length) = some 0 := by decide +kernel
set_option maxHeartbeats 4000000 in
set_option maxRecDepth 100000 in
theorem k_X12_keeps {l : Launch} {ad : Nat → Nat} {cy : Nat → ClassId} {dC : Nat → ClassId} {dI : Nat → Nat → Nat} {ks : (Nat → Nat) × (Nat → Nat)}  {mem : Mm} {mem2 : Mm}  (h : f_X12_keeps  mem = some mem2) : CtV l Lm ad cy dC dI ks yX12_keeps cX12_keeps 2 none ({ frames := 1, cells := 0, slots := 0, locals := 24 }) [.ref (ad (0))] mem mem2 := by
  refine CtV.of (cc := cX12_keeps) (maxL := 2) (ret := none) (own := RX12) rfl (by decide) (Nat.le_of_ble_eq_true rfl) ?_
  intro p e s m args below meth c A X
  have hts := X.2.2.2.2.1
  have hJ49 : ∀ (m1 : Mm), f_X12_keeps_J49 m1 = some mem2 → Jd p l e ({ frames := 1, cells := 0, slots := 0, locals := 24 }) s m args below meth c 2 (MQ below (PsV Lm ad cy dC dI mem2 A) args s 0 0 A) A dC dI cy Lm ad m1 49 [(0, .ref (ad (0)))] [] := by
    intro m1 h
    unfold f_X12_keeps_J49 at h
    refine r_aload_n X dX12_keeps_49 rfl 0 rfl ?_
    refine r_getF X (k := 49) (of := 35) rfl (Lm_N Lmk_0 rfl) Lmk_0 rfl (by decide) ui_12 (by decide) uw6_29 rfl dX12_keeps_50 ?_
    refine r_iconst (v := (0)) X dX12_keeps_53 (by decide) ?_
    refine r_aload_n X dX12_keeps_54 rfl 0 rfl ?_
    refine r_getF X (k := 53) (of := 39) rfl (Lm_N Lmk_0 rfl) Lmk_0 rfl (by decide) ui_12 (by decide) uw6_33 rfl dX12_keeps_55 ?_
    refine r_bipush (v := (17)) X dX12_keeps_58 (by decide) ?_
    refine r_aload_n X dX12_keeps_60 rfl 0 rfl ?_
    refine r_getI X (k := 55) (Lm_N Lmk_0 rfl) Lmk_0 rfl (by decide) ui_12 (by decide) uw6_35 rfl dX12_keeps_61 ?_
    refine r_imul X dX12_keeps_64 ?_
    refine r_cSV (As := [.ref (ad (35)), .int ((0)), .ref (ad (39)), .int (((17)) * (gI m1 0 55))]) (rest := []) X (fun m9 hg => k_X12_copies Lmk_35 Lmk_39 hg) h uw7_142 uw7_143 uw1_13 uw7_144 rfl rfl dd_X12_copies ⟨Nat.le_of_ble_eq_true rfl, Nat.le_of_ble_eq_true rfl⟩ rfl (Nat.le_of_ble_eq_true rfl) dX12_keeps_65 rfl (fun m2 h => ?_)
    refine r_aload_n X dX12_keeps_68 rfl 0 rfl ?_
    refine r_dup X dX12_keeps_69 rfl ?_
    refine r_getI X (k := 55) (Lm_N Lmk_0 rfl) Lmk_0 rfl (by decide) ui_12 (by decide) uw6_35 rfl dX12_keeps_70 ?_
    refine r_iconst (v := (1)) X dX12_keeps_73 (by decide) ?_
    refine r_iadd X dX12_keeps_74 ?_
    refine r_putI X (k := 55) (Lm_N Lmk_0 rfl) Lmk_0 rfl (by decide) ui_12 (by decide) uw6_35 tyX12_ok nmX12 rfl rfl rfl dX12_keeps_75 ?_
    refine r_nmM h (fun m3 h => ?_)
    exact r_vret X rfl dX12_keeps_78 h
  have hJ11 : ∀ (k11 : Int32 → Mm → Option Mm) (hk11 : ∀ (x4 : Int32) (m5 : Mm), k11 x4 m5 = some mem2 → Jd p l e ({ frames := 1, cells := 0, slots := 0, locals := 24 }) s m args below meth c 2 (MQ below (PsV Lm ad cy dC dI mem2 A) args s 0 0 A) A dC dI cy Lm ad m5 11 [(0, .ref (ad (0))), (1, .int (x4))] []) (x4 : Int32) (m5 : Mm), f_X12_keeps_B11 k11 x4 m5 = some mem2 → Jd p l e ({ frames := 1, cells := 0, slots := 0, locals := 24 }) s m args below meth c 2 (MQ below (PsV Lm ad cy dC dI mem2 A) args s 0 0 A) A dC dI cy Lm ad m5 11 [(0, .ref (ad (0))), (1, .int (x4))] [] := by
    intro k11 hk11 x4 m5 h
    unfold f_X12_keeps_B11 at h
    refine r_iload_n X dX12_keeps_11 rfl 1 rfl ?_
    refine r_sipush (v := (255)) X dX12_keeps_12 (by decide) ?_
    refine r_icmp_ge (tgt := 39) X dX12_keeps_15 (by decide) h (fun h => ?_) (fun h => ?_)
    · refine r_aload_n X dX12_keeps_39 rfl 0 rfl ?_
      refine r_dup X dX12_keeps_40 rfl ?_
      refine r_getI X (k := 55) (Lm_N Lmk_0 rfl) Lmk_0 rfl (by decide) ui_12 (by decide) uw6_35 rfl dX12_keeps_41 ?_
      refine r_iconst (v := (1)) X dX12_keeps_44 (by decide) ?_
      refine r_isub X dX12_keeps_45 ?_
      refine r_putI X (k := 55) (Lm_N Lmk_0 rfl) Lmk_0 rfl (by decide) ui_12 (by decide) uw6_35 tyX12_ok nmX12 rfl rfl rfl dX12_keeps_46 ?_
      refine r_nmM h (fun m6 h => ?_)
      exact r_sub [0] rfl (hJ49 m6 h)
    · refine r_aload_n X dX12_keeps_18 rfl 0 rfl ?_
      refine r_getF X (k := 53) (of := 39) rfl (Lm_N Lmk_0 rfl) Lmk_0 rfl (by decide) ui_12 (by decide) uw6_33 rfl dX12_keeps_19 ?_
      refine r_iload_n X dX12_keeps_22 rfl 1 rfl ?_
      refine r_aload_n X dX12_keeps_23 rfl 0 rfl ?_
      refine r_getF X (k := 53) (of := 39) rfl (Lm_N Lmk_0 rfl) Lmk_0 rfl (by decide) ui_12 (by decide) uw6_33 rfl dX12_keeps_24 ?_
      refine r_iload_n X dX12_keeps_27 rfl 1 rfl ?_
      refine r_bipush (v := (17)) X dX12_keeps_28 (by decide) ?_
      refine r_iadd X dX12_keeps_30 ?_
      refine r_iald X (Lm_N Lmk_39 rfl) Lmk_39 h dX12_keeps_31 (fun h => ?_)
      refine r_iast X (Lm_N Lmk_39 rfl) Lmk_39 h dX12_keeps_32 (fun h => ?_)
      refine r_nmM h (fun m7 h => ?_)
      refine r_inc h (fun x8 e9 h => ?_)
      refine r_iinc (v := x8) (lv2 := [(1, .int (x8)), (0, .ref (ad (0)))]) X dX12_keeps_33 1 rfl (by rw [e9]; rfl) (by decide) rfl ?_
      refine r_goto (tgt := 11) X dX12_keeps_36 (by decide) ?_
      exact r_sub [1, 0] rfl (hk11 x8 m7 h)
  have hL11 : ∀ (n : Nat), ∀ (x4 : Int32) (m5 : Mm), lop (fun _ _ => none) (f_X12_keeps_B11 ) n x4 m5 = some mem2 → Jd p l e ({ frames := 1, cells := 0, slots := 0, locals := 24 }) s m args below meth c 2 (MQ below (PsV Lm ad cy dC dI mem2 A) args s 0 0 A) A dC dI cy Lm ad m5 11 [(0, .ref (ad (0))), (1, .int (x4))] [] := by
    intro  n
    induction n with
    | zero => intro _ _ h; cases h
    | succ n ih => intro a0 a1 h; exact hJ11  _ ih a0 a1 h
  unfold f_X12_keeps at h
  refine r_aload_n X dX12_keeps_0 rfl 0 rfl ?_
  refine r_getI X (k := 55) (Lm_N Lmk_0 rfl) Lmk_0 rfl (by decide) ui_12 (by decide) uw6_35 rfl dX12_keeps_1 ?_
  refine r_bipush (v := (16)) X dX12_keeps_4 (by decide) ?_
  refine r_icmp_ne (tgt := 49) X dX12_keeps_6 (by decide) h (fun h => ?_) (fun h => ?_)
  · exact r_sub [0] rfl (hJ49 mem h)
  · refine r_iconst (v := (0)) X dX12_keeps_9 (by decide) ?_
    refine r_istore_n (lv2 := [(1, .int ((0))), (0, .ref (ad (0)))]) X dX12_keeps_10 rfl (by decide) rfl ?_
    exact r_sub [1, 0] rfl (hL11 4000 ((0)) mem h)
noncomputable def f_X12_day  (mem : Mm) : Option (Int32 × Mm) :=
  bnd (sI mem 0 0 ((0))) fun m1 => bdV (f_X12_keeps  m1) fun m2 => bdI (f_X12_passes  m2) fun x4 m3 => some (x4, m3)
theorem dd_X12_day : yX12_day.cls = RX12 ∧ yX12_day.cls ≠ "java/lang/invoke/MethodHandle" ∧ yX12_day.cls ≠ "java/lang/invoke/VarHandle" ∧ (parseMethodDescriptor yX12_day.desc).map (fun d => d.parameters.length) = some 0 := by decide +kernel
set_option maxHeartbeats 4000000 in
set_option maxRecDepth 100000 in
theorem k_X12_day {l : Launch} {ad : Nat → Nat} {cy : Nat → ClassId} {dC : Nat → ClassId} {dI : Nat → Nat → Nat} {ks : (Nat → Nat) × (Nat → Nat)}  {mem : Mm} {r2 : Int32} {mem2 : Mm}  (h : f_X12_day  mem = some (r2, mem2)) : CtI l Lm ad cy dC dI ks yX12_day cX12_day 1 (some .int) ({ frames := 8, cells := 0, slots := 0, locals := 181 }) [.ref (ad (0))] mem r2 mem2 := by
  refine CtI.of (cc := cX12_day) (maxL := 1) (ret := (some .int)) (own := RX12) rfl (by decide) (Nat.le_of_ble_eq_true rfl) ?_
  intro p e s m args below meth c A X
  have hts := X.2.2.2.2.1
  unfold f_X12_day at h
  refine r_aload_n X dX12_day_0 rfl 0 rfl ?_
  refine r_iconst (v := (0)) X dX12_day_1 (by decide) ?_
  refine r_putI X (k := 0) (Lm_N Lmk_0 rfl) Lmk_0 rfl (by decide) ui_12 (by decide) uw5_220 tyX12_ok nmX12 rfl rfl rfl dX12_day_2 ?_
  refine r_nmM h (fun m1 h => ?_)
  refine r_aload_n X dX12_day_5 rfl 0 rfl ?_
  refine r_cVV (As := []) (rest := []) X (fun m9 hg => k_X12_keeps hg) h (Lm_N Lmk_0 rfl) Lmk_0 rfl (by decide) uw8_0 uw8_2 us7_0 uw1_13 uw8_3 rfl rfl dd_X12_keeps ⟨Nat.le_of_ble_eq_true rfl, Nat.le_of_ble_eq_true rfl⟩ rfl (Nat.le_of_ble_eq_true rfl) dX12_day_6 rfl (fun m2 h => ?_)
  refine r_aload_n X dX12_day_9 rfl 0 rfl ?_
  refine r_cVI (As := []) (rest := []) X (fun r9 m9 hg => k_X12_passes hg) h (Lm_N Lmk_0 rfl) Lmk_0 rfl (by decide) uw7_145 uw7_147 us5_14 uw1_13 uw7_148 rfl rfl dd_X12_passes ⟨Nat.le_of_ble_eq_true rfl, Nat.le_of_ble_eq_true rfl⟩ rfl (Nat.le_of_ble_eq_true rfl) dX12_day_10 rfl (fun x4 m3 h => ?_)
  exact r_iret2 X rfl dX12_day_13 h
noncomputable def f_X12_mend  (mem : Mm) : Option (Int32 × Mm) :=
  bnd (sI mem 0 0 ((0))) fun m1 => bdV (f_X12_keeps  m1) fun m2 => bdI (f_X12_mends  m2) fun x4 m3 => some (x4, m3)
theorem dd_X12_mend : yX12_mend.cls = RX12 ∧ yX12_mend.cls ≠ "java/lang/invoke/MethodHandle" ∧ yX12_mend.cls ≠ "java/lang/invoke/VarHandle" ∧ (parseMethodDescriptor yX12_mend.desc).map (fun d => d.parameters.length) = some 0 := by decide +kernel
set_option maxHeartbeats 4000000 in
set_option maxRecDepth 100000 in
theorem k_X12_mend {l : Launch} {ad : Nat → Nat} {cy : Nat → ClassId} {dC : Nat → ClassId} {dI : Nat → Nat → Nat} {ks : (Nat → Nat) × (Nat → Nat)}  {mem : Mm} {r2 : Int32} {mem2 : Mm}  (h : f_X12_mend  mem = some (r2, mem2)) : CtI l Lm ad cy dC dI ks yX12_mend cX12_mend 1 (some .int) ({ frames := 2, cells := 0, slots := 0, locals := 45 }) [.ref (ad (0))] mem r2 mem2 := by
  refine CtI.of (cc := cX12_mend) (maxL := 1) (ret := (some .int)) (own := RX12) rfl (by decide) (Nat.le_of_ble_eq_true rfl) ?_
  intro p e s m args below meth c A X
  have hts := X.2.2.2.2.1
  unfold f_X12_mend at h
  refine r_aload_n X dX12_mend_0 rfl 0 rfl ?_
  refine r_iconst (v := (0)) X dX12_mend_1 (by decide) ?_
  refine r_putI X (k := 0) (Lm_N Lmk_0 rfl) Lmk_0 rfl (by decide) ui_12 (by decide) uw5_220 tyX12_ok nmX12 rfl rfl rfl dX12_mend_2 ?_
  refine r_nmM h (fun m1 h => ?_)
  refine r_aload_n X dX12_mend_5 rfl 0 rfl ?_
  refine r_cVV (As := []) (rest := []) X (fun m9 hg => k_X12_keeps hg) h (Lm_N Lmk_0 rfl) Lmk_0 rfl (by decide) uw8_0 uw8_2 us7_0 uw1_13 uw8_3 rfl rfl dd_X12_keeps ⟨Nat.le_of_ble_eq_true rfl, Nat.le_of_ble_eq_true rfl⟩ rfl (Nat.le_of_ble_eq_true rfl) dX12_mend_6 rfl (fun m2 h => ?_)
  refine r_aload_n X dX12_mend_9 rfl 0 rfl ?_
  refine r_cVI (As := []) (rest := []) X (fun r9 m9 hg => k_X12_mends hg) h (Lm_N Lmk_0 rfl) Lmk_0 rfl (by decide) uw8_8 uw8_10 us7_1 uw1_13 uw8_11 rfl rfl dd_X12_mends ⟨Nat.le_of_ble_eq_true rfl, Nat.le_of_ble_eq_true rfl⟩ rfl (Nat.le_of_ble_eq_true rfl) dX12_mend_10 rfl (fun x4 m3 h => ?_)
  exact r_iret2 X rfl dX12_mend_13 h
noncomputable def f_X12_each (p1 : Int32) (mem : Mm) : Option (Int32 × Mm) :=
  bnd (sI mem 0 0 ((0))) fun m1 => bdI (f_X12_within p1 ((1)) ((30)) m1) fun x3 m2 => if ¬ x3 = 0 then (bdV (f_X12_keeps  m2) fun m4 => bnd (sI m4 35 1 p1) fun m5 => grd (bok ((1))) (some ((1), m5))) else (grd (bok ((0))) (some ((0), m2)))
theorem dd_X12_each : yX12_each.cls = RX12 ∧ yX12_each.cls ≠ "java/lang/invoke/MethodHandle" ∧ yX12_each.cls ≠ "java/lang/invoke/VarHandle" ∧ (parseMethodDescriptor yX12_each.desc).map (fun d => d.parameters.length) = some 1 := by decide +kernel
set_option maxHeartbeats 4000000 in
set_option maxRecDepth 100000 in
theorem k_X12_each {l : Launch} {ad : Nat → Nat} {cy : Nat → ClassId} {dC : Nat → ClassId} {dI : Nat → Nat → Nat} {ks : (Nat → Nat) × (Nat → Nat)} {p1 : Int32} {mem : Mm} {r2 : Int32} {mem2 : Mm}  (h : f_X12_each p1 mem = some (r2, mem2)) : CtI l Lm ad cy dC dI ks yX12_each cX12_each 2 (some .boolean) ({ frames := 2, cells := 0, slots := 0, locals := 45 }) [.ref (ad (0)), .int (p1)] mem r2 mem2 := by
  refine CtI.of (cc := cX12_each) (maxL := 2) (ret := (some .boolean)) (own := RX12) rfl (by decide) (Nat.le_of_ble_eq_true rfl) ?_
  intro p e s m args below meth c A X
  have hts := X.2.2.2.2.1
  unfold f_X12_each at h
  refine r_aload_n X dX12_each_0 rfl 0 rfl ?_
  refine r_iconst (v := (0)) X dX12_each_1 (by decide) ?_
  refine r_putI X (k := 0) (Lm_N Lmk_0 rfl) Lmk_0 rfl (by decide) ui_12 (by decide) uw5_220 tyX12_ok nmX12 rfl rfl rfl dX12_each_2 ?_
  refine r_nmM h (fun m1 h => ?_)
  refine r_iload_n X dX12_each_5 rfl 1 rfl ?_
  refine r_iconst (v := (1)) X dX12_each_6 (by decide) ?_
  refine r_bipush (v := (30)) X dX12_each_7 (by decide) ?_
  refine r_cSI (As := [.int (p1), .int ((1)), .int ((30))]) (rest := []) X (fun r9 m9 hg => k_X12_within hg) h uw7_49 uw7_50 uw1_13 uw7_51 rfl rfl dd_X12_within ⟨Nat.le_of_ble_eq_true rfl, Nat.le_of_ble_eq_true rfl⟩ rfl (Nat.le_of_ble_eq_true rfl) dX12_each_9 rfl (fun x3 m2 h => ?_)
  refine r_if_ne (tgt := 17) X dX12_each_12 (by decide) h (fun h => ?_) (fun h => ?_)
  · refine r_aload_n X dX12_each_17 rfl 0 rfl ?_
    refine r_cVV (As := []) (rest := []) X (fun m9 hg => k_X12_keeps hg) h (Lm_N Lmk_0 rfl) Lmk_0 rfl (by decide) uw8_0 uw8_2 us7_0 uw1_13 uw8_3 rfl rfl dd_X12_keeps ⟨Nat.le_of_ble_eq_true rfl, Nat.le_of_ble_eq_true rfl⟩ rfl (Nat.le_of_ble_eq_true rfl) dX12_each_18 rfl (fun m4 h => ?_)
    refine r_aload_n X dX12_each_21 rfl 0 rfl ?_
    refine r_getF X (k := 49) (of := 35) rfl (Lm_N Lmk_0 rfl) Lmk_0 rfl (by decide) ui_12 (by decide) uw6_29 rfl dX12_each_22 ?_
    refine r_iconst (v := (1)) X dX12_each_25 (by decide) ?_
    refine r_iload_n X dX12_each_26 rfl 1 rfl ?_
    refine r_iast X (Lm_N Lmk_35 rfl) Lmk_35 (g_in rfl h) dX12_each_27 (fun h => ?_)
    refine r_nmM h (fun m5 h => ?_)
    refine r_iconst (v := (1)) X dX12_each_28 (by decide) ?_
    exact r_zret2 X rfl dX12_each_29 h
  · refine r_iconst (v := (0)) X dX12_each_15 (by decide) ?_
    exact r_zret2 X rfl dX12_each_16 h
noncomputable def f_X12_open (p1 : Int32) (p2 : Int32) (mem : Mm) : Option (Int32 × Mm) :=
  bnd (sI mem 0 0 ((0))) fun m1 => bdI (f_X12_within p1 ((0)) ((59)) m1) fun x3 m2 => if x3 = 0 then (grd (bok ((0))) (some ((0), m2))) else (if p2 ≤ p1 then (grd (bok ((0))) (some ((0), m2))) else (if p2 ≤ ((60)) then (bdV (f_X12_keeps  m2) fun m4 => bnd (sI m4 35 2 p1) fun m5 => bnd (sI m5 35 3 p2) fun m6 => grd (bok ((1))) (some ((1), m6))) else (grd (bok ((0))) (some ((0), m2)))))
theorem dd_X12_open : yX12_open.cls = RX12 ∧ yX12_open.cls ≠ "java/lang/invoke/MethodHandle" ∧ yX12_open.cls ≠ "java/lang/invoke/VarHandle" ∧ (parseMethodDescriptor yX12_open.desc).map (fun d => d.parameters.length) = some 2 := by decide +kernel
set_option maxHeartbeats 4000000 in
set_option maxRecDepth 100000 in
theorem k_X12_open {l : Launch} {ad : Nat → Nat} {cy : Nat → ClassId} {dC : Nat → ClassId} {dI : Nat → Nat → Nat} {ks : (Nat → Nat) × (Nat → Nat)} {p1 : Int32} {p2 : Int32} {mem : Mm} {r2 : Int32} {mem2 : Mm}  (h : f_X12_open p1 p2 mem = some (r2, mem2)) : CtI l Lm ad cy dC dI ks yX12_open cX12_open 3 (some .boolean) ({ frames := 2, cells := 0, slots := 0, locals := 45 }) [.ref (ad (0)), .int (p1), .int (p2)] mem r2 mem2 := by
  refine CtI.of (cc := cX12_open) (maxL := 3) (ret := (some .boolean)) (own := RX12) rfl (by decide) (Nat.le_of_ble_eq_true rfl) ?_
  intro p e s m args below meth c A X
  have hts := X.2.2.2.2.1
  unfold f_X12_open at h
  refine r_aload_n X dX12_open_0 rfl 0 rfl ?_
  refine r_iconst (v := (0)) X dX12_open_1 (by decide) ?_
  refine r_putI X (k := 0) (Lm_N Lmk_0 rfl) Lmk_0 rfl (by decide) ui_12 (by decide) uw5_220 tyX12_ok nmX12 rfl rfl rfl dX12_open_2 ?_
  refine r_nmM h (fun m1 h => ?_)
  refine r_iload_n X dX12_open_5 rfl 1 rfl ?_
  refine r_iconst (v := (0)) X dX12_open_6 (by decide) ?_
  refine r_bipush (v := (59)) X dX12_open_7 (by decide) ?_
  refine r_cSI (As := [.int (p1), .int ((0)), .int ((59))]) (rest := []) X (fun r9 m9 hg => k_X12_within hg) h uw7_49 uw7_50 uw1_13 uw7_51 rfl rfl dd_X12_within ⟨Nat.le_of_ble_eq_true rfl, Nat.le_of_ble_eq_true rfl⟩ rfl (Nat.le_of_ble_eq_true rfl) dX12_open_9 rfl (fun x3 m2 h => ?_)
  refine r_if_eq (tgt := 26) X dX12_open_12 (by decide) h (fun h => ?_) (fun h => ?_)
  · refine r_iconst (v := (0)) X dX12_open_26 (by decide) ?_
    exact r_zret2 X rfl dX12_open_27 h
  · refine r_iload_n X dX12_open_15 rfl 2 rfl ?_
    refine r_iload_n X dX12_open_16 rfl 1 rfl ?_
    refine r_icmp_le (tgt := 26) X dX12_open_17 (by decide) h (fun h => ?_) (fun h => ?_)
    · refine r_iconst (v := (0)) X dX12_open_26 (by decide) ?_
      exact r_zret2 X rfl dX12_open_27 h
    · refine r_iload_n X dX12_open_20 rfl 2 rfl ?_
      refine r_bipush (v := (60)) X dX12_open_21 (by decide) ?_
      refine r_icmp_le (tgt := 28) X dX12_open_23 (by decide) h (fun h => ?_) (fun h => ?_)
      · refine r_aload_n X dX12_open_28 rfl 0 rfl ?_
        refine r_cVV (As := []) (rest := []) X (fun m9 hg => k_X12_keeps hg) h (Lm_N Lmk_0 rfl) Lmk_0 rfl (by decide) uw8_0 uw8_2 us7_0 uw1_13 uw8_3 rfl rfl dd_X12_keeps ⟨Nat.le_of_ble_eq_true rfl, Nat.le_of_ble_eq_true rfl⟩ rfl (Nat.le_of_ble_eq_true rfl) dX12_open_29 rfl (fun m4 h => ?_)
        refine r_aload_n X dX12_open_32 rfl 0 rfl ?_
        refine r_getF X (k := 49) (of := 35) rfl (Lm_N Lmk_0 rfl) Lmk_0 rfl (by decide) ui_12 (by decide) uw6_29 rfl dX12_open_33 ?_
        refine r_iconst (v := (2)) X dX12_open_36 (by decide) ?_
        refine r_iload_n X dX12_open_37 rfl 1 rfl ?_
        refine r_iast X (Lm_N Lmk_35 rfl) Lmk_35 (g_in rfl h) dX12_open_38 (fun h => ?_)
        refine r_nmM h (fun m5 h => ?_)
        refine r_aload_n X dX12_open_39 rfl 0 rfl ?_
        refine r_getF X (k := 49) (of := 35) rfl (Lm_N Lmk_0 rfl) Lmk_0 rfl (by decide) ui_12 (by decide) uw6_29 rfl dX12_open_40 ?_
        refine r_iconst (v := (3)) X dX12_open_43 (by decide) ?_
        refine r_iload_n X dX12_open_44 rfl 2 rfl ?_
        refine r_iast X (Lm_N Lmk_35 rfl) Lmk_35 (g_in rfl h) dX12_open_45 (fun h => ?_)
        refine r_nmM h (fun m6 h => ?_)
        refine r_iconst (v := (1)) X dX12_open_46 (by decide) ?_
        exact r_zret2 X rfl dX12_open_47 h
      · refine r_iconst (v := (0)) X dX12_open_26 (by decide) ?_
        exact r_zret2 X rfl dX12_open_27 h
noncomputable def f_X12_undo  (mem : Mm) : Option (Int32 × Mm) :=
  bnd (sI mem 0 0 ((0))) fun m1 => if ¬ (gI m1 0 55) = 0 then (bnd (sI m1 0 55 ((gI m1 0 55) - ((1)))) fun m2 => bdV (f_X12_copies 39 (((17)) * (gI m2 0 55)) 35 ((0)) m2) fun m3 => grd (bok ((1))) (some ((1), m3))) else (grd (bok ((0))) (some ((0), m1)))
theorem dd_X12_undo : yX12_undo.cls = RX12 ∧ yX12_undo.cls ≠ "java/lang/invoke/MethodHandle" ∧ yX12_undo.cls ≠ "java/lang/invoke/VarHandle" ∧ (parseMethodDescriptor yX12_undo.desc).map (fun d => d.parameters.length) = some 0 := by decide +kernel
set_option maxHeartbeats 4000000 in
set_option maxRecDepth 100000 in
theorem k_X12_undo {l : Launch} {ad : Nat → Nat} {cy : Nat → ClassId} {dC : Nat → ClassId} {dI : Nat → Nat → Nat} {ks : (Nat → Nat) × (Nat → Nat)}  {mem : Mm} {r2 : Int32} {mem2 : Mm}  (h : f_X12_undo  mem = some (r2, mem2)) : CtI l Lm ad cy dC dI ks yX12_undo cX12_undo 1 (some .boolean) ({ frames := 1, cells := 0, slots := 0, locals := 24 }) [.ref (ad (0))] mem r2 mem2 := by
  refine CtI.of (cc := cX12_undo) (maxL := 1) (ret := (some .boolean)) (own := RX12) rfl (by decide) (Nat.le_of_ble_eq_true rfl) ?_
  intro p e s m args below meth c A X
  have hts := X.2.2.2.2.1
  unfold f_X12_undo at h
  refine r_aload_n X dX12_undo_0 rfl 0 rfl ?_
  refine r_iconst (v := (0)) X dX12_undo_1 (by decide) ?_
  refine r_putI X (k := 0) (Lm_N Lmk_0 rfl) Lmk_0 rfl (by decide) ui_12 (by decide) uw5_220 tyX12_ok nmX12 rfl rfl rfl dX12_undo_2 ?_
  refine r_nmM h (fun m1 h => ?_)
  refine r_aload_n X dX12_undo_5 rfl 0 rfl ?_
  refine r_getI X (k := 55) (Lm_N Lmk_0 rfl) Lmk_0 rfl (by decide) ui_12 (by decide) uw6_35 rfl dX12_undo_6 ?_
  refine r_if_ne (tgt := 14) X dX12_undo_9 (by decide) h (fun h => ?_) (fun h => ?_)
  · refine r_aload_n X dX12_undo_14 rfl 0 rfl ?_
    refine r_dup X dX12_undo_15 rfl ?_
    refine r_getI X (k := 55) (Lm_N Lmk_0 rfl) Lmk_0 rfl (by decide) ui_12 (by decide) uw6_35 rfl dX12_undo_16 ?_
    refine r_iconst (v := (1)) X dX12_undo_19 (by decide) ?_
    refine r_isub X dX12_undo_20 ?_
    refine r_putI X (k := 55) (Lm_N Lmk_0 rfl) Lmk_0 rfl (by decide) ui_12 (by decide) uw6_35 tyX12_ok nmX12 rfl rfl rfl dX12_undo_21 ?_
    refine r_nmM h (fun m2 h => ?_)
    refine r_aload_n X dX12_undo_24 rfl 0 rfl ?_
    refine r_getF X (k := 53) (of := 39) rfl (Lm_N Lmk_0 rfl) Lmk_0 rfl (by decide) ui_12 (by decide) uw6_33 rfl dX12_undo_25 ?_
    refine r_bipush (v := (17)) X dX12_undo_28 (by decide) ?_
    refine r_aload_n X dX12_undo_30 rfl 0 rfl ?_
    refine r_getI X (k := 55) (Lm_N Lmk_0 rfl) Lmk_0 rfl (by decide) ui_12 (by decide) uw6_35 rfl dX12_undo_31 ?_
    refine r_imul X dX12_undo_34 ?_
    refine r_aload_n X dX12_undo_35 rfl 0 rfl ?_
    refine r_getF X (k := 49) (of := 35) rfl (Lm_N Lmk_0 rfl) Lmk_0 rfl (by decide) ui_12 (by decide) uw6_29 rfl dX12_undo_36 ?_
    refine r_iconst (v := (0)) X dX12_undo_39 (by decide) ?_
    refine r_cSV (As := [.ref (ad (39)), .int (((17)) * (gI m2 0 55)), .ref (ad (35)), .int ((0))]) (rest := []) X (fun m9 hg => k_X12_copies Lmk_39 Lmk_35 hg) h uw7_142 uw7_143 uw1_13 uw7_144 rfl rfl dd_X12_copies ⟨Nat.le_of_ble_eq_true rfl, Nat.le_of_ble_eq_true rfl⟩ rfl (Nat.le_of_ble_eq_true rfl) dX12_undo_40 rfl (fun m3 h => ?_)
    refine r_iconst (v := (1)) X dX12_undo_43 (by decide) ?_
    exact r_zret2 X rfl dX12_undo_44 h
  · refine r_iconst (v := (0)) X dX12_undo_12 (by decide) ?_
    exact r_zret2 X rfl dX12_undo_13 h
noncomputable def f_X12_goes (p1 : Int32) (mem : Mm) : Option (Int32 × Mm) :=
  grd (inb p1 240) (if ¬ (gI mem 29 p1.toNatClampNeg) = 0 then (grd (inb p1 240) (if ¬ (gI mem 29 p1.toNatClampNeg) = ((1)) then (grd (inb p1 240) (if ¬ (gI mem 29 p1.toNatClampNeg) = ((2)) then (grd (inb p1 240) (bnd (sI mem 35 2 (gI mem 30 p1.toNatClampNeg)) fun m1 => grd (inb p1 240) (bnd (sI m1 35 3 (gI m1 31 p1.toNatClampNeg)) fun m2 => some ((0), m2)))) else (grd (inb p1 240) (bnd (sI mem 35 1 (gI mem 30 p1.toNatClampNeg)) fun m3 => some ((0), m3))))) else (bdI (f_X12_mends  mem) fun x5 m4 => some ((0), m4)))) else (bdI (f_X12_passes  mem) fun x7 m6 => some (x7, m6)))
theorem dd_X12_goes : yX12_goes.cls = RX12 ∧ yX12_goes.cls ≠ "java/lang/invoke/MethodHandle" ∧ yX12_goes.cls ≠ "java/lang/invoke/VarHandle" ∧ (parseMethodDescriptor yX12_goes.desc).map (fun d => d.parameters.length) = some 1 := by decide +kernel
set_option maxHeartbeats 4000000 in
set_option maxRecDepth 100000 in
theorem k_X12_goes {l : Launch} {ad : Nat → Nat} {cy : Nat → ClassId} {dC : Nat → ClassId} {dI : Nat → Nat → Nat} {ks : (Nat → Nat) × (Nat → Nat)} {p1 : Int32} {mem : Mm} {r2 : Int32} {mem2 : Mm}  (h : f_X12_goes p1 mem = some (r2, mem2)) : CtI l Lm ad cy dC dI ks yX12_goes cX12_goes 2 (some .int) ({ frames := 8, cells := 0, slots := 0, locals := 181 }) [.ref (ad (0)), .int (p1)] mem r2 mem2 := by
  refine CtI.of (cc := cX12_goes) (maxL := 2) (ret := (some .int)) (own := RX12) rfl (by decide) (Nat.le_of_ble_eq_true rfl) ?_
  intro p e s m args below meth c A X
  have hts := X.2.2.2.2.1
  unfold f_X12_goes at h
  refine r_aload_n X dX12_goes_0 rfl 0 rfl ?_
  refine r_getF X (k := 43) (of := 29) rfl (Lm_N Lmk_0 rfl) Lmk_0 rfl (by decide) ui_12 (by decide) uw6_23 rfl dX12_goes_1 ?_
  refine r_iload_n X dX12_goes_4 rfl 1 rfl ?_
  refine r_iald X (Lm_N Lmk_29 rfl) Lmk_29 h dX12_goes_5 (fun h => ?_)
  refine r_if_ne (tgt := 14) X dX12_goes_6 (by decide) h (fun h => ?_) (fun h => ?_)
  · refine r_aload_n X dX12_goes_14 rfl 0 rfl ?_
    refine r_getF X (k := 43) (of := 29) rfl (Lm_N Lmk_0 rfl) Lmk_0 rfl (by decide) ui_12 (by decide) uw6_23 rfl dX12_goes_15 ?_
    refine r_iload_n X dX12_goes_18 rfl 1 rfl ?_
    refine r_iald X (Lm_N Lmk_29 rfl) Lmk_29 h dX12_goes_19 (fun h => ?_)
    refine r_iconst (v := (1)) X dX12_goes_20 (by decide) ?_
    refine r_icmp_ne (tgt := 32) X dX12_goes_21 (by decide) h (fun h => ?_) (fun h => ?_)
    · refine r_aload_n X dX12_goes_32 rfl 0 rfl ?_
      refine r_getF X (k := 43) (of := 29) rfl (Lm_N Lmk_0 rfl) Lmk_0 rfl (by decide) ui_12 (by decide) uw6_23 rfl dX12_goes_33 ?_
      refine r_iload_n X dX12_goes_36 rfl 1 rfl ?_
      refine r_iald X (Lm_N Lmk_29 rfl) Lmk_29 h dX12_goes_37 (fun h => ?_)
      refine r_iconst (v := (2)) X dX12_goes_38 (by decide) ?_
      refine r_icmp_ne (tgt := 57) X dX12_goes_39 (by decide) h (fun h => ?_) (fun h => ?_)
      · refine r_aload_n X dX12_goes_57 rfl 0 rfl ?_
        refine r_getF X (k := 49) (of := 35) rfl (Lm_N Lmk_0 rfl) Lmk_0 rfl (by decide) ui_12 (by decide) uw6_29 rfl dX12_goes_58 ?_
        refine r_iconst (v := (2)) X dX12_goes_61 (by decide) ?_
        refine r_aload_n X dX12_goes_62 rfl 0 rfl ?_
        refine r_getF X (k := 44) (of := 30) rfl (Lm_N Lmk_0 rfl) Lmk_0 rfl (by decide) ui_12 (by decide) uw6_24 rfl dX12_goes_63 ?_
        refine r_iload_n X dX12_goes_66 rfl 1 rfl ?_
        refine r_iald X (Lm_N Lmk_30 rfl) Lmk_30 h dX12_goes_67 (fun h => ?_)
        refine r_iast X (Lm_N Lmk_35 rfl) Lmk_35 (g_in rfl h) dX12_goes_68 (fun h => ?_)
        refine r_nmM h (fun m1 h => ?_)
        refine r_aload_n X dX12_goes_69 rfl 0 rfl ?_
        refine r_getF X (k := 49) (of := 35) rfl (Lm_N Lmk_0 rfl) Lmk_0 rfl (by decide) ui_12 (by decide) uw6_29 rfl dX12_goes_70 ?_
        refine r_iconst (v := (3)) X dX12_goes_73 (by decide) ?_
        refine r_aload_n X dX12_goes_74 rfl 0 rfl ?_
        refine r_getF X (k := 45) (of := 31) rfl (Lm_N Lmk_0 rfl) Lmk_0 rfl (by decide) ui_12 (by decide) uw6_25 rfl dX12_goes_75 ?_
        refine r_iload_n X dX12_goes_78 rfl 1 rfl ?_
        refine r_iald X (Lm_N Lmk_31 rfl) Lmk_31 h dX12_goes_79 (fun h => ?_)
        refine r_iast X (Lm_N Lmk_35 rfl) Lmk_35 (g_in rfl h) dX12_goes_80 (fun h => ?_)
        refine r_nmM h (fun m2 h => ?_)
        refine r_iconst (v := (0)) X dX12_goes_81 (by decide) ?_
        exact r_iret2 X rfl dX12_goes_82 h
      · refine r_aload_n X dX12_goes_42 rfl 0 rfl ?_
        refine r_getF X (k := 49) (of := 35) rfl (Lm_N Lmk_0 rfl) Lmk_0 rfl (by decide) ui_12 (by decide) uw6_29 rfl dX12_goes_43 ?_
        refine r_iconst (v := (1)) X dX12_goes_46 (by decide) ?_
        refine r_aload_n X dX12_goes_47 rfl 0 rfl ?_
        refine r_getF X (k := 44) (of := 30) rfl (Lm_N Lmk_0 rfl) Lmk_0 rfl (by decide) ui_12 (by decide) uw6_24 rfl dX12_goes_48 ?_
        refine r_iload_n X dX12_goes_51 rfl 1 rfl ?_
        refine r_iald X (Lm_N Lmk_30 rfl) Lmk_30 h dX12_goes_52 (fun h => ?_)
        refine r_iast X (Lm_N Lmk_35 rfl) Lmk_35 (g_in rfl h) dX12_goes_53 (fun h => ?_)
        refine r_nmM h (fun m3 h => ?_)
        refine r_goto (tgt := 81) X dX12_goes_54 (by decide) ?_
        refine r_iconst (v := (0)) X dX12_goes_81 (by decide) ?_
        exact r_iret2 X rfl dX12_goes_82 h
    · refine r_aload_n X dX12_goes_24 rfl 0 rfl ?_
      refine r_cVI (As := []) (rest := []) X (fun r9 m9 hg => k_X12_mends hg) h (Lm_N Lmk_0 rfl) Lmk_0 rfl (by decide) uw8_8 uw8_10 us7_1 uw1_13 uw8_11 rfl rfl dd_X12_mends ⟨Nat.le_of_ble_eq_true rfl, Nat.le_of_ble_eq_true rfl⟩ rfl (Nat.le_of_ble_eq_true rfl) dX12_goes_25 rfl (fun x5 m4 h => ?_)
      refine r_pop X dX12_goes_28 rfl ?_
      refine r_goto (tgt := 81) X dX12_goes_29 (by decide) ?_
      refine r_iconst (v := (0)) X dX12_goes_81 (by decide) ?_
      exact r_iret2 X rfl dX12_goes_82 h
  · refine r_aload_n X dX12_goes_9 rfl 0 rfl ?_
    refine r_cVI (As := []) (rest := []) X (fun r9 m9 hg => k_X12_passes hg) h (Lm_N Lmk_0 rfl) Lmk_0 rfl (by decide) uw7_145 uw7_147 us5_14 uw1_13 uw7_148 rfl rfl dd_X12_passes ⟨Nat.le_of_ble_eq_true rfl, Nat.le_of_ble_eq_true rfl⟩ rfl (Nat.le_of_ble_eq_true rfl) dX12_goes_10 rfl (fun x7 m6 h => ?_)
    exact r_iret2 X rfl dX12_goes_13 h
noncomputable def f_X12_judged_J96 (p1 : Int32) (k52 : Int32 → Int32 → Int32 → Mm → Option (Int32 × Mm)) (x19 : Int32) (x20 : Int32) (x21 : Int32) (m22 : Mm) : Option (Int32 × Mm) :=
  bnd (x21 + (1)) fun x23 => k52 x19 x20 x23 m22
noncomputable def f_X12_judged_B52 (p1 : Int32) (k52 : Int32 → Int32 → Int32 → Mm → Option (Int32 × Mm)) (x8 : Int32) (x9 : Int32) (x10 : Int32) (m11 : Mm) : Option (Int32 × Mm) :=
  if (gI m11 28 0) ≤ x10 then (bnd (gI m11 35 4) fun x12 => bdV (f_X12_copies 36 ((0)) 35 ((0)) m11) fun m13 => if ¬ p1 = 0 then (if ¬ p1 = ((1)) then (some (x12, m13)) else (some (x9, m13))) else (some (x8, m13))) else (bdI (f_X12_goes x10 m11) fun x15 m14 => bnd (x9 + x15) fun x16 => grd (inb x10 240) (if ¬ (gI m14 29 x10.toNatClampNeg) = 0 then (f_X12_judged_J96 p1 k52 x8 x16 x10 m14) else (if 0 ≤ x8 then (f_X12_judged_J96 p1 k52 x8 x16 x10 m14) else (bdI (f_X12_goneKeys  m14) fun x18 m17 => if x18 = 0 then (f_X12_judged_J96 p1 k52 x8 x16 x10 m17) else (f_X12_judged_J96 p1 k52 x10 x16 x10 m17)))))
noncomputable def f_X12_judged_J15 (p1 : Int32) (x3 : Int32) (m4 : Mm) : Option (Int32 × Mm) :=
  bnd (sI m4 0 0 x3) fun m5 => if ¬ (gI m5 0 0) = ((1)) then (bdV (f_X12_copies 35 ((0)) 36 ((0)) m5) fun m6 => bdV (f_X12_fresh  m6) fun m7 => lop (fun _ _ _ _ => none) (f_X12_judged_B52 p1 ) 4000 ((-1)) ((0)) ((0)) m7) else (some ((0), m5))
noncomputable def f_X12_judged (p1 : Int32) (mem : Mm) : Option (Int32 × Mm) :=
  bdI (f_X12_within p1 ((0)) ((2)) mem) fun x2 m1 => if x2 = 0 then (f_X12_judged_J15 p1 ((1)) m1) else (f_X12_judged_J15 p1 ((0)) m1)
theorem dd_X12_judged : yX12_judged.cls = RX12 ∧ yX12_judged.cls ≠ "java/lang/invoke/MethodHandle" ∧ yX12_judged.cls ≠ "java/lang/invoke/VarHandle" ∧ (parseMethodDescriptor yX12_judged.desc).map (fun d => d.parameters.length) = some 1 := by decide +kernel
set_option maxHeartbeats 4000000 in
set_option maxRecDepth 100000 in
theorem k_X12_judged {l : Launch} {ad : Nat → Nat} {cy : Nat → ClassId} {dC : Nat → ClassId} {dI : Nat → Nat → Nat} {ks : (Nat → Nat) × (Nat → Nat)} {p1 : Int32} {mem : Mm} {r2 : Int32} {mem2 : Mm}  (h : f_X12_judged p1 mem = some (r2, mem2)) : CtI l Lm ad cy dC dI ks yX12_judged cX12_judged 5 (some .int) ({ frames := 9, cells := 0, slots := 0, locals := 202 }) [.ref (ad (0)), .int (p1)] mem r2 mem2 := by
  refine CtI.of (cc := cX12_judged) (maxL := 5) (ret := (some .int)) (own := RX12) rfl (by decide) (Nat.le_of_ble_eq_true rfl) ?_
  intro p e s m args below meth c A X
  have hts := X.2.2.2.2.1
  have hJ96 : ∀ (k52 : Int32 → Int32 → Int32 → Mm → Option (Int32 × Mm)) (hk52 : ∀ (x8 : Int32) (x9 : Int32) (x10 : Int32) (m11 : Mm), k52 x8 x9 x10 m11 = some (r2, mem2) → Jd p l e ({ frames := 9, cells := 0, slots := 0, locals := 202 }) s m args below meth c 5 (MQ below (PsI Lm ad cy dC dI r2 mem2 A) args s 0 0 A) A dC dI cy Lm ad m11 52 [(0, .ref (ad (0))), (1, .int (p1)), (2, .int (x8)), (3, .int (x9)), (4, .int (x10))] []) (x19 : Int32) (x20 : Int32) (x21 : Int32) (m22 : Mm), f_X12_judged_J96 p1 k52 x19 x20 x21 m22 = some (r2, mem2) → Jd p l e ({ frames := 9, cells := 0, slots := 0, locals := 202 }) s m args below meth c 5 (MQ below (PsI Lm ad cy dC dI r2 mem2 A) args s 0 0 A) A dC dI cy Lm ad m22 96 [(0, .ref (ad (0))), (1, .int (p1)), (2, .int (x19)), (3, .int (x20)), (4, .int (x21))] [] := by
    intro k52 hk52 x19 x20 x21 m22 h
    unfold f_X12_judged_J96 at h
    refine r_inc h (fun x23 e9 h => ?_)
    refine r_iinc (v := x23) (lv2 := [(4, .int (x23)), (0, .ref (ad (0))), (1, .int (p1)), (2, .int (x19)), (3, .int (x20))]) X dX12_judged_96 4 rfl (by rw [e9]; rfl) (by decide) rfl ?_
    refine r_goto (tgt := 52) X dX12_judged_99 (by decide) ?_
    exact r_sub [1, 2, 3, 4, 0] rfl (hk52 x19 x20 x23 m22 h)
  have hJ52 : ∀ (k52 : Int32 → Int32 → Int32 → Mm → Option (Int32 × Mm)) (hk52 : ∀ (x8 : Int32) (x9 : Int32) (x10 : Int32) (m11 : Mm), k52 x8 x9 x10 m11 = some (r2, mem2) → Jd p l e ({ frames := 9, cells := 0, slots := 0, locals := 202 }) s m args below meth c 5 (MQ below (PsI Lm ad cy dC dI r2 mem2 A) args s 0 0 A) A dC dI cy Lm ad m11 52 [(0, .ref (ad (0))), (1, .int (p1)), (2, .int (x8)), (3, .int (x9)), (4, .int (x10))] []) (x8 : Int32) (x9 : Int32) (x10 : Int32) (m11 : Mm), f_X12_judged_B52 p1 k52 x8 x9 x10 m11 = some (r2, mem2) → Jd p l e ({ frames := 9, cells := 0, slots := 0, locals := 202 }) s m args below meth c 5 (MQ below (PsI Lm ad cy dC dI r2 mem2 A) args s 0 0 A) A dC dI cy Lm ad m11 52 [(0, .ref (ad (0))), (1, .int (p1)), (2, .int (x8)), (3, .int (x9)), (4, .int (x10))] [] := by
    intro k52 hk52 x8 x9 x10 m11 h
    unfold f_X12_judged_B52 at h
    refine r_iload X dX12_judged_52 4 rfl ?_
    refine r_aload_n X dX12_judged_54 rfl 0 rfl ?_
    refine r_getF X (k := 42) (of := 28) rfl (Lm_N Lmk_0 rfl) Lmk_0 rfl (by decide) ui_12 (by decide) uw6_22 rfl dX12_judged_55 ?_
    refine r_iconst (v := (0)) X dX12_judged_58 (by decide) ?_
    refine r_iald X (Lm_N Lmk_28 rfl) Lmk_28 (g_in rfl h) dX12_judged_59 (fun h => ?_)
    refine r_icmp_ge (tgt := 102) X dX12_judged_60 (by decide) h (fun h => ?_) (fun h => ?_)
    · refine r_aload_n X dX12_judged_102 rfl 0 rfl ?_
      refine r_getF X (k := 49) (of := 35) rfl (Lm_N Lmk_0 rfl) Lmk_0 rfl (by decide) ui_12 (by decide) uw6_29 rfl dX12_judged_103 ?_
      refine r_iconst (v := (4)) X dX12_judged_106 (by decide) ?_
      refine r_iald X (Lm_N Lmk_35 rfl) Lmk_35 (g_in rfl h) dX12_judged_107 (fun h => ?_)
      refine r_nmI h (fun x12 h => ?_)
      refine r_istore (lv2 := [(4, .int (x12)), (0, .ref (ad (0))), (1, .int (p1)), (2, .int (x8)), (3, .int (x9))]) X dX12_judged_108 (by decide) rfl ?_
      refine r_aload_n X dX12_judged_110 rfl 1 rfl ?_
      refine r_getF X (k := 50) (of := 36) rfl (Lm_N Lmk_0 rfl) Lmk_0 rfl (by decide) ui_12 (by decide) uw6_30 rfl dX12_judged_111 ?_
      refine r_iconst (v := (0)) X dX12_judged_114 (by decide) ?_
      refine r_aload_n X dX12_judged_115 rfl 1 rfl ?_
      refine r_getF X (k := 49) (of := 35) rfl (Lm_N Lmk_0 rfl) Lmk_0 rfl (by decide) ui_12 (by decide) uw6_29 rfl dX12_judged_116 ?_
      refine r_iconst (v := (0)) X dX12_judged_119 (by decide) ?_
      refine r_cSV (As := [.ref (ad (36)), .int ((0)), .ref (ad (35)), .int ((0))]) (rest := []) X (fun m9 hg => k_X12_copies Lmk_36 Lmk_35 hg) h uw7_142 uw7_143 uw1_13 uw7_144 rfl rfl dd_X12_copies ⟨Nat.le_of_ble_eq_true rfl, Nat.le_of_ble_eq_true rfl⟩ rfl (Nat.le_of_ble_eq_true rfl) dX12_judged_120 rfl (fun m13 h => ?_)
      refine r_iload_n X dX12_judged_123 rfl 2 rfl ?_
      refine r_if_ne (tgt := 131) X dX12_judged_124 (by decide) h (fun h => ?_) (fun h => ?_)
      · refine r_iload_n X dX12_judged_131 rfl 2 rfl ?_
        refine r_iconst (v := (1)) X dX12_judged_132 (by decide) ?_
        refine r_icmp_ne (tgt := 140) X dX12_judged_133 (by decide) h (fun h => ?_) (fun h => ?_)
        · refine r_iload X dX12_judged_140 0 rfl ?_
          exact r_iret2 X rfl dX12_judged_142 h
        · refine r_iload_n X dX12_judged_136 rfl 4 rfl ?_
          refine r_goto (tgt := 142) X dX12_judged_137 (by decide) ?_
          exact r_iret2 X rfl dX12_judged_142 h
      · refine r_iload_n X dX12_judged_127 rfl 3 rfl ?_
        refine r_goto (tgt := 142) X dX12_judged_128 (by decide) ?_
        exact r_iret2 X rfl dX12_judged_142 h
    · refine r_iload_n X dX12_judged_63 rfl 3 rfl ?_
      refine r_aload_n X dX12_judged_64 rfl 0 rfl ?_
      refine r_iload X dX12_judged_65 4 rfl ?_
      refine r_cVI (As := [.int (x10)]) (rest := [.int (x9)]) X (fun r9 m9 hg => k_X12_goes hg) h (Lm_N Lmk_0 rfl) Lmk_0 rfl (by decide) uw8_28 uw8_30 us7_2 uw1_13 uw8_31 rfl rfl dd_X12_goes ⟨Nat.le_of_ble_eq_true rfl, Nat.le_of_ble_eq_true rfl⟩ rfl (Nat.le_of_ble_eq_true rfl) dX12_judged_67 rfl (fun x15 m14 h => ?_)
      refine r_iadd X dX12_judged_70 ?_
      refine r_nmI h (fun x16 h => ?_)
      refine r_istore_n (lv2 := [(3, .int (x16)), (0, .ref (ad (0))), (1, .int (p1)), (2, .int (x8)), (4, .int (x10))]) X dX12_judged_71 rfl (by decide) rfl ?_
      refine r_aload_n X dX12_judged_72 rfl 1 rfl ?_
      refine r_getF X (k := 43) (of := 29) rfl (Lm_N Lmk_0 rfl) Lmk_0 rfl (by decide) ui_12 (by decide) uw6_23 rfl dX12_judged_73 ?_
      refine r_iload X dX12_judged_76 4 rfl ?_
      refine r_iald X (Lm_N Lmk_29 rfl) Lmk_29 h dX12_judged_78 (fun h => ?_)
      refine r_if_ne (tgt := 96) X dX12_judged_79 (by decide) h (fun h => ?_) (fun h => ?_)
      · exact r_sub [1, 2, 3, 0, 4] rfl (hJ96 k52 hk52 x8 x16 x10 m14 h)
      · refine r_iload_n X dX12_judged_82 rfl 3 rfl ?_
        refine r_if_ge (tgt := 96) X dX12_judged_83 (by decide) h (fun h => ?_) (fun h => ?_)
        · exact r_sub [1, 2, 3, 0, 4] rfl (hJ96 k52 hk52 x8 x16 x10 m14 h)
        · refine r_aload_n X dX12_judged_86 rfl 1 rfl ?_
          refine r_cVI (As := []) (rest := []) X (fun r9 m9 hg => k_X12_goneKeys hg) h (Lm_N Lmk_0 rfl) Lmk_0 rfl (by decide) uw8_32 uw8_34 us7_3 uw1_13 uw8_35 rfl rfl dd_X12_goneKeys ⟨Nat.le_of_ble_eq_true rfl, Nat.le_of_ble_eq_true rfl⟩ rfl (Nat.le_of_ble_eq_true rfl) dX12_judged_87 rfl (fun x18 m17 h => ?_)
          refine r_if_eq (tgt := 96) X dX12_judged_90 (by decide) h (fun h => ?_) (fun h => ?_)
          · exact r_sub [1, 2, 3, 0, 4] rfl (hJ96 k52 hk52 x8 x16 x10 m17 h)
          · refine r_iload X dX12_judged_93 4 rfl ?_
            refine r_istore_n (lv2 := [(2, .int (x10)), (3, .int (x16)), (0, .ref (ad (0))), (1, .int (p1)), (4, .int (x10))]) X dX12_judged_95 rfl (by decide) rfl ?_
            exact r_sub [2, 3, 0, 1, 4] rfl (hJ96 k52 hk52 x10 x16 x10 m17 h)
  have hL52 : ∀ (n : Nat), ∀ (x8 : Int32) (x9 : Int32) (x10 : Int32) (m11 : Mm), lop (fun _ _ _ _ => none) (f_X12_judged_B52 p1 ) n x8 x9 x10 m11 = some (r2, mem2) → Jd p l e ({ frames := 9, cells := 0, slots := 0, locals := 202 }) s m args below meth c 5 (MQ below (PsI Lm ad cy dC dI r2 mem2 A) args s 0 0 A) A dC dI cy Lm ad m11 52 [(0, .ref (ad (0))), (1, .int (p1)), (2, .int (x8)), (3, .int (x9)), (4, .int (x10))] [] := by
    intro  n
    induction n with
    | zero => intro _ _ _ _ h; cases h
    | succ n ih => intro a0 a1 a2 a3 h; exact hJ52  _ ih a0 a1 a2 a3 h
  have hJ15 : ∀ (x3 : Int32) (m4 : Mm), f_X12_judged_J15 p1 x3 m4 = some (r2, mem2) → Jd p l e ({ frames := 9, cells := 0, slots := 0, locals := 202 }) s m args below meth c 5 (MQ below (PsI Lm ad cy dC dI r2 mem2 A) args s 0 0 A) A dC dI cy Lm ad m4 15 [(0, .ref (ad (0))), (1, .int (p1))] [.int (x3), .ref (ad (0))] := by
    intro x3 m4 h
    unfold f_X12_judged_J15 at h
    refine r_putI X (k := 0) (Lm_N Lmk_0 rfl) Lmk_0 rfl (by decide) ui_12 (by decide) uw5_220 tyX12_ok nmX12 rfl rfl rfl dX12_judged_15 ?_
    refine r_nmM h (fun m5 h => ?_)
    refine r_aload_n X dX12_judged_18 rfl 0 rfl ?_
    refine r_getI X (k := 0) (Lm_N Lmk_0 rfl) Lmk_0 rfl (by decide) ui_12 (by decide) uw5_220 rfl dX12_judged_19 ?_
    refine r_iconst (v := (1)) X dX12_judged_22 (by decide) ?_
    refine r_icmp_ne (tgt := 28) X dX12_judged_23 (by decide) h (fun h => ?_) (fun h => ?_)
    · refine r_aload_n X dX12_judged_28 rfl 0 rfl ?_
      refine r_getF X (k := 49) (of := 35) rfl (Lm_N Lmk_0 rfl) Lmk_0 rfl (by decide) ui_12 (by decide) uw6_29 rfl dX12_judged_29 ?_
      refine r_iconst (v := (0)) X dX12_judged_32 (by decide) ?_
      refine r_aload_n X dX12_judged_33 rfl 0 rfl ?_
      refine r_getF X (k := 50) (of := 36) rfl (Lm_N Lmk_0 rfl) Lmk_0 rfl (by decide) ui_12 (by decide) uw6_30 rfl dX12_judged_34 ?_
      refine r_iconst (v := (0)) X dX12_judged_37 (by decide) ?_
      refine r_cSV (As := [.ref (ad (35)), .int ((0)), .ref (ad (36)), .int ((0))]) (rest := []) X (fun m9 hg => k_X12_copies Lmk_35 Lmk_36 hg) h uw7_142 uw7_143 uw1_13 uw7_144 rfl rfl dd_X12_copies ⟨Nat.le_of_ble_eq_true rfl, Nat.le_of_ble_eq_true rfl⟩ rfl (Nat.le_of_ble_eq_true rfl) dX12_judged_38 rfl (fun m6 h => ?_)
      refine r_aload_n X dX12_judged_41 rfl 0 rfl ?_
      refine r_cVV (As := []) (rest := []) X (fun m9 hg => k_X12_fresh hg) h (Lm_N Lmk_0 rfl) Lmk_0 rfl (by decide) uw5_216 uw5_218 us3_13 uw1_13 uw5_219 rfl rfl dd_X12_fresh ⟨Nat.le_of_ble_eq_true rfl, Nat.le_of_ble_eq_true rfl⟩ rfl (Nat.le_of_ble_eq_true rfl) dX12_judged_42 rfl (fun m7 h => ?_)
      refine r_iconst (v := (-1)) X dX12_judged_45 (by decide) ?_
      refine r_istore_n (lv2 := [(2, .int ((-1))), (0, .ref (ad (0))), (1, .int (p1))]) X dX12_judged_46 rfl (by decide) rfl ?_
      refine r_iconst (v := (0)) X dX12_judged_47 (by decide) ?_
      refine r_istore_n (lv2 := [(3, .int ((0))), (2, .int ((-1))), (0, .ref (ad (0))), (1, .int (p1))]) X dX12_judged_48 rfl (by decide) rfl ?_
      refine r_iconst (v := (0)) X dX12_judged_49 (by decide) ?_
      refine r_istore (lv2 := [(4, .int ((0))), (3, .int ((0))), (2, .int ((-1))), (0, .ref (ad (0))), (1, .int (p1))]) X dX12_judged_50 (by decide) rfl ?_
      exact r_sub [3, 4, 2, 1, 0] rfl (hL52 4000 ((-1)) ((0)) ((0)) m7 h)
    · refine r_iconst (v := (0)) X dX12_judged_26 (by decide) ?_
      exact r_iret2 X rfl dX12_judged_27 h
  unfold f_X12_judged at h
  refine r_aload_n X dX12_judged_0 rfl 0 rfl ?_
  refine r_iload_n X dX12_judged_1 rfl 1 rfl ?_
  refine r_iconst (v := (0)) X dX12_judged_2 (by decide) ?_
  refine r_iconst (v := (2)) X dX12_judged_3 (by decide) ?_
  refine r_cSI (As := [.int (p1), .int ((0)), .int ((2))]) (rest := [.ref (ad (0))]) X (fun r9 m9 hg => k_X12_within hg) h uw7_49 uw7_50 uw1_13 uw7_51 rfl rfl dd_X12_within ⟨Nat.le_of_ble_eq_true rfl, Nat.le_of_ble_eq_true rfl⟩ rfl (Nat.le_of_ble_eq_true rfl) dX12_judged_4 rfl (fun x2 m1 h => ?_)
  refine r_if_eq (tgt := 14) X dX12_judged_7 (by decide) h (fun h => ?_) (fun h => ?_)
  · refine r_iconst (v := (1)) X dX12_judged_14 (by decide) ?_
    exact r_sub [0, 1] rfl (hJ15 ((1)) m1 h)
  · refine r_iconst (v := (0)) X dX12_judged_10 (by decide) ?_
    refine r_goto (tgt := 15) X dX12_judged_11 (by decide) ?_
    exact r_sub [0, 1] rfl (hJ15 ((0)) m1 h)
noncomputable def f_X12_best_J85 (p1 : Int32) (k43 : Int32 → Int32 → Int32 → Int32 → Mm → Option (Int32 × Mm)) (x20 : Int32) (x21 : Int32) (x22 : Int32) (x23 : Int32) (m24 : Mm) : Option (Int32 × Mm) :=
  bnd (x23 + (1)) fun x25 => k43 x20 x21 x22 x25 m24
noncomputable def f_X12_best_J78 (p1 : Int32) (k43 : Int32 → Int32 → Int32 → Int32 → Mm → Option (Int32 × Mm)) (x16 : Int32) (x17 : Int32) (x18 : Int32) (m19 : Mm) : Option (Int32 × Mm) :=
  f_X12_best_J85 p1 k43 x16 x17 x18 x17 m19
noncomputable def f_X12_best_B43 (p1 : Int32) (k43 : Int32 → Int32 → Int32 → Int32 → Mm → Option (Int32 × Mm)) (x7 : Int32) (x8 : Int32) (x9 : Int32) (x10 : Int32) (m11 : Mm) : Option (Int32 × Mm) :=
  if ((31)) ≤ x10 then (bnd (sI m11 35 1 x7) fun m12 => if ¬ p1 = 0 then (some (x9, m12)) else (some (x8, m12))) else (bnd (sI m11 35 1 x10) fun m13 => bdI (f_X12_tries  m13) fun x15 m14 => if x8 ≤ 0 then (f_X12_best_J78 p1 k43 x7 x10 x15 m14) else (if x9 < x15 then (f_X12_best_J78 p1 k43 x7 x10 x15 m14) else (f_X12_best_J85 p1 k43 x7 x8 x9 x10 m14)))
noncomputable def f_X12_best_J15 (p1 : Int32) (x3 : Int32) (m4 : Mm) : Option (Int32 × Mm) :=
  bnd (sI m4 0 0 x3) fun m5 => if ¬ (gI m5 0 0) = ((1)) then (bnd (gI m5 35 1) fun x6 => lop (fun _ _ _ _ _ => none) (f_X12_best_B43 p1 ) 4000 x6 ((0)) ((0)) ((1)) m5) else (some ((0), m5))
noncomputable def f_X12_best (p1 : Int32) (mem : Mm) : Option (Int32 × Mm) :=
  bdI (f_X12_within p1 ((0)) ((1)) mem) fun x2 m1 => if x2 = 0 then (f_X12_best_J15 p1 ((1)) m1) else (f_X12_best_J15 p1 ((0)) m1)
theorem dd_X12_best : yX12_best.cls = RX12 ∧ yX12_best.cls ≠ "java/lang/invoke/MethodHandle" ∧ yX12_best.cls ≠ "java/lang/invoke/VarHandle" ∧ (parseMethodDescriptor yX12_best.desc).map (fun d => d.parameters.length) = some 1 := by decide +kernel
set_option maxHeartbeats 4000000 in
set_option maxRecDepth 100000 in
theorem k_X12_best {l : Launch} {ad : Nat → Nat} {cy : Nat → ClassId} {dC : Nat → ClassId} {dI : Nat → Nat → Nat} {ks : (Nat → Nat) × (Nat → Nat)} {p1 : Int32} {mem : Mm} {r2 : Int32} {mem2 : Mm}  (h : f_X12_best p1 mem = some (r2, mem2)) : CtI l Lm ad cy dC dI ks yX12_best cX12_best 7 (some .int) ({ frames := 9, cells := 0, slots := 0, locals := 202 }) [.ref (ad (0)), .int (p1)] mem r2 mem2 := by
  refine CtI.of (cc := cX12_best) (maxL := 7) (ret := (some .int)) (own := RX12) rfl (by decide) (Nat.le_of_ble_eq_true rfl) ?_
  intro p e s m args below meth c A X
  have hts := X.2.2.2.2.1
  have hJ85 : ∀ (k43 : Int32 → Int32 → Int32 → Int32 → Mm → Option (Int32 × Mm)) (hk43 : ∀ (x7 : Int32) (x8 : Int32) (x9 : Int32) (x10 : Int32) (m11 : Mm), k43 x7 x8 x9 x10 m11 = some (r2, mem2) → Jd p l e ({ frames := 9, cells := 0, slots := 0, locals := 202 }) s m args below meth c 7 (MQ below (PsI Lm ad cy dC dI r2 mem2 A) args s 0 0 A) A dC dI cy Lm ad m11 43 [(0, .ref (ad (0))), (1, .int (p1)), (2, .int (x7)), (3, .int (x8)), (4, .int (x9)), (5, .int (x10))] []) (x20 : Int32) (x21 : Int32) (x22 : Int32) (x23 : Int32) (m24 : Mm), f_X12_best_J85 p1 k43 x20 x21 x22 x23 m24 = some (r2, mem2) → Jd p l e ({ frames := 9, cells := 0, slots := 0, locals := 202 }) s m args below meth c 7 (MQ below (PsI Lm ad cy dC dI r2 mem2 A) args s 0 0 A) A dC dI cy Lm ad m24 85 [(0, .ref (ad (0))), (1, .int (p1)), (2, .int (x20)), (3, .int (x21)), (4, .int (x22)), (5, .int (x23))] [] := by
    intro k43 hk43 x20 x21 x22 x23 m24 h
    unfold f_X12_best_J85 at h
    refine r_inc h (fun x25 e9 h => ?_)
    refine r_iinc (v := x25) (lv2 := [(5, .int (x25)), (0, .ref (ad (0))), (1, .int (p1)), (2, .int (x20)), (3, .int (x21)), (4, .int (x22))]) X dX12_best_85 5 rfl (by rw [e9]; rfl) (by decide) rfl ?_
    refine r_goto (tgt := 43) X dX12_best_88 (by decide) ?_
    exact r_sub [1, 2, 3, 4, 5, 0] rfl (hk43 x20 x21 x22 x25 m24 h)
  have hJ78 : ∀ (k43 : Int32 → Int32 → Int32 → Int32 → Mm → Option (Int32 × Mm)) (hk43 : ∀ (x7 : Int32) (x8 : Int32) (x9 : Int32) (x10 : Int32) (m11 : Mm), k43 x7 x8 x9 x10 m11 = some (r2, mem2) → Jd p l e ({ frames := 9, cells := 0, slots := 0, locals := 202 }) s m args below meth c 7 (MQ below (PsI Lm ad cy dC dI r2 mem2 A) args s 0 0 A) A dC dI cy Lm ad m11 43 [(0, .ref (ad (0))), (1, .int (p1)), (2, .int (x7)), (3, .int (x8)), (4, .int (x9)), (5, .int (x10))] []) (x16 : Int32) (x17 : Int32) (x18 : Int32) (m19 : Mm), f_X12_best_J78 p1 k43 x16 x17 x18 m19 = some (r2, mem2) → Jd p l e ({ frames := 9, cells := 0, slots := 0, locals := 202 }) s m args below meth c 7 (MQ below (PsI Lm ad cy dC dI r2 mem2 A) args s 0 0 A) A dC dI cy Lm ad m19 78 [(0, .ref (ad (0))), (1, .int (p1)), (2, .int (x16)), (5, .int (x17)), (6, .int (x18))] [] := by
    intro k43 hk43 x16 x17 x18 m19 h
    unfold f_X12_best_J78 at h
    refine r_iload X dX12_best_78 3 rfl ?_
    refine r_istore_n (lv2 := [(3, .int (x17)), (0, .ref (ad (0))), (1, .int (p1)), (2, .int (x16)), (5, .int (x17)), (6, .int (x18))]) X dX12_best_80 rfl (by decide) rfl ?_
    refine r_iload X dX12_best_81 5 rfl ?_
    refine r_istore (lv2 := [(4, .int (x18)), (3, .int (x17)), (0, .ref (ad (0))), (1, .int (p1)), (2, .int (x16)), (5, .int (x17)), (6, .int (x18))]) X dX12_best_83 (by decide) rfl ?_
    exact r_sub [2, 3, 4, 1, 0, 5] rfl (hJ85 k43 hk43 x16 x17 x18 x17 m19 h)
  have hJ43 : ∀ (k43 : Int32 → Int32 → Int32 → Int32 → Mm → Option (Int32 × Mm)) (hk43 : ∀ (x7 : Int32) (x8 : Int32) (x9 : Int32) (x10 : Int32) (m11 : Mm), k43 x7 x8 x9 x10 m11 = some (r2, mem2) → Jd p l e ({ frames := 9, cells := 0, slots := 0, locals := 202 }) s m args below meth c 7 (MQ below (PsI Lm ad cy dC dI r2 mem2 A) args s 0 0 A) A dC dI cy Lm ad m11 43 [(0, .ref (ad (0))), (1, .int (p1)), (2, .int (x7)), (3, .int (x8)), (4, .int (x9)), (5, .int (x10))] []) (x7 : Int32) (x8 : Int32) (x9 : Int32) (x10 : Int32) (m11 : Mm), f_X12_best_B43 p1 k43 x7 x8 x9 x10 m11 = some (r2, mem2) → Jd p l e ({ frames := 9, cells := 0, slots := 0, locals := 202 }) s m args below meth c 7 (MQ below (PsI Lm ad cy dC dI r2 mem2 A) args s 0 0 A) A dC dI cy Lm ad m11 43 [(0, .ref (ad (0))), (1, .int (p1)), (2, .int (x7)), (3, .int (x8)), (4, .int (x9)), (5, .int (x10))] [] := by
    intro k43 hk43 x7 x8 x9 x10 m11 h
    unfold f_X12_best_B43 at h
    refine r_iload X dX12_best_43 5 rfl ?_
    refine r_bipush (v := (31)) X dX12_best_45 (by decide) ?_
    refine r_icmp_ge (tgt := 91) X dX12_best_47 (by decide) h (fun h => ?_) (fun h => ?_)
    · refine r_aload_n X dX12_best_91 rfl 0 rfl ?_
      refine r_getF X (k := 49) (of := 35) rfl (Lm_N Lmk_0 rfl) Lmk_0 rfl (by decide) ui_12 (by decide) uw6_29 rfl dX12_best_92 ?_
      refine r_iconst (v := (1)) X dX12_best_95 (by decide) ?_
      refine r_iload_n X dX12_best_96 rfl 2 rfl ?_
      refine r_iast X (Lm_N Lmk_35 rfl) Lmk_35 (g_in rfl h) dX12_best_97 (fun h => ?_)
      refine r_nmM h (fun m12 h => ?_)
      refine r_iload_n X dX12_best_98 rfl 1 rfl ?_
      refine r_if_ne (tgt := 106) X dX12_best_99 (by decide) h (fun h => ?_) (fun h => ?_)
      · refine r_iload X dX12_best_106 4 rfl ?_
        exact r_iret2 X rfl dX12_best_108 h
      · refine r_iload_n X dX12_best_102 rfl 3 rfl ?_
        refine r_goto (tgt := 108) X dX12_best_103 (by decide) ?_
        exact r_iret2 X rfl dX12_best_108 h
    · refine r_aload_n X dX12_best_50 rfl 0 rfl ?_
      refine r_getF X (k := 49) (of := 35) rfl (Lm_N Lmk_0 rfl) Lmk_0 rfl (by decide) ui_12 (by decide) uw6_29 rfl dX12_best_51 ?_
      refine r_iconst (v := (1)) X dX12_best_54 (by decide) ?_
      refine r_iload X dX12_best_55 5 rfl ?_
      refine r_iast X (Lm_N Lmk_35 rfl) Lmk_35 (g_in rfl h) dX12_best_57 (fun h => ?_)
      refine r_nmM h (fun m13 h => ?_)
      refine r_aload_n X dX12_best_58 rfl 0 rfl ?_
      refine r_cVI (As := []) (rest := []) X (fun r9 m9 hg => k_X12_tries hg) h (Lm_N Lmk_0 rfl) Lmk_0 rfl (by decide) uw7_138 uw7_140 us5_13 uw1_13 uw7_141 rfl rfl dd_X12_tries ⟨Nat.le_of_ble_eq_true rfl, Nat.le_of_ble_eq_true rfl⟩ rfl (Nat.le_of_ble_eq_true rfl) dX12_best_59 rfl (fun x15 m14 h => ?_)
      refine r_istore (lv2 := [(6, .int (x15)), (0, .ref (ad (0))), (1, .int (p1)), (2, .int (x7)), (3, .int (x8)), (4, .int (x9)), (5, .int (x10))]) X dX12_best_62 (by decide) rfl ?_
      refine r_iload_n X dX12_best_64 rfl 4 rfl ?_
      refine r_if_le (tgt := 78) X dX12_best_65 (by decide) h (fun h => ?_) (fun h => ?_)
      · exact r_sub [1, 2, 3, 6, 0] rfl (hJ78 k43 hk43 x7 x10 x15 m14 h)
      · refine r_iload X dX12_best_68 0 rfl ?_
        refine r_iload X dX12_best_70 5 rfl ?_
        refine r_icmp_gt (tgt := 78) X dX12_best_72 (by decide) h (fun h => ?_) (fun h => ?_)
        · exact r_sub [1, 2, 3, 6, 0] rfl (hJ78 k43 hk43 x7 x10 x15 m14 h)
        · refine r_goto (tgt := 85) X dX12_best_75 (by decide) ?_
          exact r_sub [1, 2, 3, 4, 5, 6] rfl (hJ85 k43 hk43 x7 x8 x9 x10 m14 h)
  have hL43 : ∀ (n : Nat), ∀ (x7 : Int32) (x8 : Int32) (x9 : Int32) (x10 : Int32) (m11 : Mm), lop (fun _ _ _ _ _ => none) (f_X12_best_B43 p1 ) n x7 x8 x9 x10 m11 = some (r2, mem2) → Jd p l e ({ frames := 9, cells := 0, slots := 0, locals := 202 }) s m args below meth c 7 (MQ below (PsI Lm ad cy dC dI r2 mem2 A) args s 0 0 A) A dC dI cy Lm ad m11 43 [(0, .ref (ad (0))), (1, .int (p1)), (2, .int (x7)), (3, .int (x8)), (4, .int (x9)), (5, .int (x10))] [] := by
    intro  n
    induction n with
    | zero => intro _ _ _ _ _ h; cases h
    | succ n ih => intro a0 a1 a2 a3 a4 h; exact hJ43  _ ih a0 a1 a2 a3 a4 h
  have hJ15 : ∀ (x3 : Int32) (m4 : Mm), f_X12_best_J15 p1 x3 m4 = some (r2, mem2) → Jd p l e ({ frames := 9, cells := 0, slots := 0, locals := 202 }) s m args below meth c 7 (MQ below (PsI Lm ad cy dC dI r2 mem2 A) args s 0 0 A) A dC dI cy Lm ad m4 15 [(0, .ref (ad (0))), (1, .int (p1))] [.int (x3), .ref (ad (0))] := by
    intro x3 m4 h
    unfold f_X12_best_J15 at h
    refine r_putI X (k := 0) (Lm_N Lmk_0 rfl) Lmk_0 rfl (by decide) ui_12 (by decide) uw5_220 tyX12_ok nmX12 rfl rfl rfl dX12_best_15 ?_
    refine r_nmM h (fun m5 h => ?_)
    refine r_aload_n X dX12_best_18 rfl 0 rfl ?_
    refine r_getI X (k := 0) (Lm_N Lmk_0 rfl) Lmk_0 rfl (by decide) ui_12 (by decide) uw5_220 rfl dX12_best_19 ?_
    refine r_iconst (v := (1)) X dX12_best_22 (by decide) ?_
    refine r_icmp_ne (tgt := 28) X dX12_best_23 (by decide) h (fun h => ?_) (fun h => ?_)
    · refine r_aload_n X dX12_best_28 rfl 0 rfl ?_
      refine r_getF X (k := 49) (of := 35) rfl (Lm_N Lmk_0 rfl) Lmk_0 rfl (by decide) ui_12 (by decide) uw6_29 rfl dX12_best_29 ?_
      refine r_iconst (v := (1)) X dX12_best_32 (by decide) ?_
      refine r_iald X (Lm_N Lmk_35 rfl) Lmk_35 (g_in rfl h) dX12_best_33 (fun h => ?_)
      refine r_nmI h (fun x6 h => ?_)
      refine r_istore_n (lv2 := [(2, .int (x6)), (0, .ref (ad (0))), (1, .int (p1))]) X dX12_best_34 rfl (by decide) rfl ?_
      refine r_iconst (v := (0)) X dX12_best_35 (by decide) ?_
      refine r_istore_n (lv2 := [(3, .int ((0))), (2, .int (x6)), (0, .ref (ad (0))), (1, .int (p1))]) X dX12_best_36 rfl (by decide) rfl ?_
      refine r_iconst (v := (0)) X dX12_best_37 (by decide) ?_
      refine r_istore (lv2 := [(4, .int ((0))), (3, .int ((0))), (2, .int (x6)), (0, .ref (ad (0))), (1, .int (p1))]) X dX12_best_38 (by decide) rfl ?_
      refine r_iconst (v := (1)) X dX12_best_40 (by decide) ?_
      refine r_istore (lv2 := [(5, .int ((1))), (4, .int ((0))), (3, .int ((0))), (2, .int (x6)), (0, .ref (ad (0))), (1, .int (p1))]) X dX12_best_41 (by decide) rfl ?_
      exact r_sub [4, 5, 3, 2, 1, 0] rfl (hL43 4000 x6 ((0)) ((0)) ((1)) m5 h)
    · refine r_iconst (v := (0)) X dX12_best_26 (by decide) ?_
      exact r_iret2 X rfl dX12_best_27 h
  unfold f_X12_best at h
  refine r_aload_n X dX12_best_0 rfl 0 rfl ?_
  refine r_iload_n X dX12_best_1 rfl 1 rfl ?_
  refine r_iconst (v := (0)) X dX12_best_2 (by decide) ?_
  refine r_iconst (v := (1)) X dX12_best_3 (by decide) ?_
  refine r_cSI (As := [.int (p1), .int ((0)), .int ((1))]) (rest := [.ref (ad (0))]) X (fun r9 m9 hg => k_X12_within hg) h uw7_49 uw7_50 uw1_13 uw7_51 rfl rfl dd_X12_within ⟨Nat.le_of_ble_eq_true rfl, Nat.le_of_ble_eq_true rfl⟩ rfl (Nat.le_of_ble_eq_true rfl) dX12_best_4 rfl (fun x2 m1 h => ?_)
  refine r_if_eq (tgt := 14) X dX12_best_7 (by decide) h (fun h => ?_) (fun h => ?_)
  · refine r_iconst (v := (1)) X dX12_best_14 (by decide) ?_
    exact r_sub [0, 1] rfl (hJ15 ((1)) m1 h)
  · refine r_iconst (v := (0)) X dX12_best_10 (by decide) ?_
    refine r_goto (tgt := 15) X dX12_best_11 (by decide) ?_
    exact r_sub [0, 1] rfl (hJ15 ((0)) m1 h)
noncomputable def f_X12_hours_J96 (p1 : Int32) (k40 : Int32 → Int32 → Int32 → Int32 → Int32 → Mm → Option (Int32 × Mm)) (x23 : Int32) (x24 : Int32) (x25 : Int32) (x26 : Int32) (x27 : Int32) (m28 : Mm) : Option (Int32 × Mm) :=
  bnd (x27 + (1)) fun x29 => k40 x23 x24 x25 x26 x29 m28
noncomputable def f_X12_hours_J88 (p1 : Int32) (k40 : Int32 → Int32 → Int32 → Int32 → Int32 → Mm → Option (Int32 × Mm)) (x18 : Int32) (x19 : Int32) (x20 : Int32) (x21 : Int32) (m22 : Mm) : Option (Int32 × Mm) :=
  f_X12_hours_J96 p1 k40 x18 x19 x20 x21 x20 m22
noncomputable def f_X12_hours_B40 (p1 : Int32) (k40 : Int32 → Int32 → Int32 → Int32 → Int32 → Mm → Option (Int32 × Mm)) (x6 : Int32) (x7 : Int32) (x8 : Int32) (x9 : Int32) (x10 : Int32) (m11 : Mm) : Option (Int32 × Mm) :=
  if ((60)) < (x10 + p1) then (bnd (sI m11 35 2 x6) fun m12 => bnd (sI m12 35 3 x7) fun m13 => some (x8, m13)) else (bnd (sI m11 35 2 x10) fun m14 => bnd (sI m14 35 3 (x10 + p1)) fun m15 => bdI (f_X12_tries  m15) fun x17 m16 => if x8 < 0 then (f_X12_hours_J88 p1 k40 x6 x7 x10 x17 m16) else (if x9 < x17 then (f_X12_hours_J88 p1 k40 x6 x7 x10 x17 m16) else (f_X12_hours_J96 p1 k40 x6 x7 x8 x9 x10 m16)))
noncomputable def f_X12_hours (p1 : Int32) (mem : Mm) : Option (Int32 × Mm) :=
  bnd (sI mem 0 0 ((0))) fun m1 => bdI (f_X12_within p1 ((1)) ((60)) m1) fun x3 m2 => if ¬ x3 = 0 then (bnd (gI m2 35 2) fun x4 => bnd (gI m2 35 3) fun x5 => lop (fun _ _ _ _ _ _ => none) (f_X12_hours_B40 p1 ) 4000 x4 x5 ((-1)) ((0)) ((0)) m2) else (some ((-1), m2))
theorem dd_X12_hours : yX12_hours.cls = RX12 ∧ yX12_hours.cls ≠ "java/lang/invoke/MethodHandle" ∧ yX12_hours.cls ≠ "java/lang/invoke/VarHandle" ∧ (parseMethodDescriptor yX12_hours.desc).map (fun d => d.parameters.length) = some 1 := by decide +kernel
set_option maxHeartbeats 4000000 in
set_option maxRecDepth 100000 in
theorem k_X12_hours {l : Launch} {ad : Nat → Nat} {cy : Nat → ClassId} {dC : Nat → ClassId} {dI : Nat → Nat → Nat} {ks : (Nat → Nat) × (Nat → Nat)} {p1 : Int32} {mem : Mm} {r2 : Int32} {mem2 : Mm}  (h : f_X12_hours p1 mem = some (r2, mem2)) : CtI l Lm ad cy dC dI ks yX12_hours cX12_hours 8 (some .int) ({ frames := 9, cells := 0, slots := 0, locals := 202 }) [.ref (ad (0)), .int (p1)] mem r2 mem2 := by
  refine CtI.of (cc := cX12_hours) (maxL := 8) (ret := (some .int)) (own := RX12) rfl (by decide) (Nat.le_of_ble_eq_true rfl) ?_
  intro p e s m args below meth c A X
  have hts := X.2.2.2.2.1
  have hJ96 : ∀ (k40 : Int32 → Int32 → Int32 → Int32 → Int32 → Mm → Option (Int32 × Mm)) (hk40 : ∀ (x6 : Int32) (x7 : Int32) (x8 : Int32) (x9 : Int32) (x10 : Int32) (m11 : Mm), k40 x6 x7 x8 x9 x10 m11 = some (r2, mem2) → Jd p l e ({ frames := 9, cells := 0, slots := 0, locals := 202 }) s m args below meth c 8 (MQ below (PsI Lm ad cy dC dI r2 mem2 A) args s 0 0 A) A dC dI cy Lm ad m11 40 [(0, .ref (ad (0))), (1, .int (p1)), (2, .int (x6)), (3, .int (x7)), (4, .int (x8)), (5, .int (x9)), (6, .int (x10))] []) (x23 : Int32) (x24 : Int32) (x25 : Int32) (x26 : Int32) (x27 : Int32) (m28 : Mm), f_X12_hours_J96 p1 k40 x23 x24 x25 x26 x27 m28 = some (r2, mem2) → Jd p l e ({ frames := 9, cells := 0, slots := 0, locals := 202 }) s m args below meth c 8 (MQ below (PsI Lm ad cy dC dI r2 mem2 A) args s 0 0 A) A dC dI cy Lm ad m28 96 [(0, .ref (ad (0))), (1, .int (p1)), (2, .int (x23)), (3, .int (x24)), (4, .int (x25)), (5, .int (x26)), (6, .int (x27))] [] := by
    intro k40 hk40 x23 x24 x25 x26 x27 m28 h
    unfold f_X12_hours_J96 at h
    refine r_inc h (fun x29 e9 h => ?_)
    refine r_iinc (v := x29) (lv2 := [(6, .int (x29)), (0, .ref (ad (0))), (1, .int (p1)), (2, .int (x23)), (3, .int (x24)), (4, .int (x25)), (5, .int (x26))]) X dX12_hours_96 6 rfl (by rw [e9]; rfl) (by decide) rfl ?_
    refine r_goto (tgt := 40) X dX12_hours_99 (by decide) ?_
    exact r_sub [1, 2, 3, 4, 5, 6, 0] rfl (hk40 x23 x24 x25 x26 x29 m28 h)
  have hJ88 : ∀ (k40 : Int32 → Int32 → Int32 → Int32 → Int32 → Mm → Option (Int32 × Mm)) (hk40 : ∀ (x6 : Int32) (x7 : Int32) (x8 : Int32) (x9 : Int32) (x10 : Int32) (m11 : Mm), k40 x6 x7 x8 x9 x10 m11 = some (r2, mem2) → Jd p l e ({ frames := 9, cells := 0, slots := 0, locals := 202 }) s m args below meth c 8 (MQ below (PsI Lm ad cy dC dI r2 mem2 A) args s 0 0 A) A dC dI cy Lm ad m11 40 [(0, .ref (ad (0))), (1, .int (p1)), (2, .int (x6)), (3, .int (x7)), (4, .int (x8)), (5, .int (x9)), (6, .int (x10))] []) (x18 : Int32) (x19 : Int32) (x20 : Int32) (x21 : Int32) (m22 : Mm), f_X12_hours_J88 p1 k40 x18 x19 x20 x21 m22 = some (r2, mem2) → Jd p l e ({ frames := 9, cells := 0, slots := 0, locals := 202 }) s m args below meth c 8 (MQ below (PsI Lm ad cy dC dI r2 mem2 A) args s 0 0 A) A dC dI cy Lm ad m22 88 [(0, .ref (ad (0))), (1, .int (p1)), (2, .int (x18)), (3, .int (x19)), (6, .int (x20)), (7, .int (x21))] [] := by
    intro k40 hk40 x18 x19 x20 x21 m22 h
    unfold f_X12_hours_J88 at h
    refine r_iload X dX12_hours_88 4 rfl ?_
    refine r_istore (lv2 := [(4, .int (x20)), (0, .ref (ad (0))), (1, .int (p1)), (2, .int (x18)), (3, .int (x19)), (6, .int (x20)), (7, .int (x21))]) X dX12_hours_90 (by decide) rfl ?_
    refine r_iload X dX12_hours_92 6 rfl ?_
    refine r_istore (lv2 := [(5, .int (x21)), (4, .int (x20)), (0, .ref (ad (0))), (1, .int (p1)), (2, .int (x18)), (3, .int (x19)), (6, .int (x20)), (7, .int (x21))]) X dX12_hours_94 (by decide) rfl ?_
    exact r_sub [2, 3, 4, 5, 1, 0, 6] rfl (hJ96 k40 hk40 x18 x19 x20 x21 x20 m22 h)
  have hJ40 : ∀ (k40 : Int32 → Int32 → Int32 → Int32 → Int32 → Mm → Option (Int32 × Mm)) (hk40 : ∀ (x6 : Int32) (x7 : Int32) (x8 : Int32) (x9 : Int32) (x10 : Int32) (m11 : Mm), k40 x6 x7 x8 x9 x10 m11 = some (r2, mem2) → Jd p l e ({ frames := 9, cells := 0, slots := 0, locals := 202 }) s m args below meth c 8 (MQ below (PsI Lm ad cy dC dI r2 mem2 A) args s 0 0 A) A dC dI cy Lm ad m11 40 [(0, .ref (ad (0))), (1, .int (p1)), (2, .int (x6)), (3, .int (x7)), (4, .int (x8)), (5, .int (x9)), (6, .int (x10))] []) (x6 : Int32) (x7 : Int32) (x8 : Int32) (x9 : Int32) (x10 : Int32) (m11 : Mm), f_X12_hours_B40 p1 k40 x6 x7 x8 x9 x10 m11 = some (r2, mem2) → Jd p l e ({ frames := 9, cells := 0, slots := 0, locals := 202 }) s m args below meth c 8 (MQ below (PsI Lm ad cy dC dI r2 mem2 A) args s 0 0 A) A dC dI cy Lm ad m11 40 [(0, .ref (ad (0))), (1, .int (p1)), (2, .int (x6)), (3, .int (x7)), (4, .int (x8)), (5, .int (x9)), (6, .int (x10))] [] := by
    intro k40 hk40 x6 x7 x8 x9 x10 m11 h
    unfold f_X12_hours_B40 at h
    refine r_iload X dX12_hours_40 6 rfl ?_
    refine r_iload_n X dX12_hours_42 rfl 1 rfl ?_
    refine r_iadd X dX12_hours_43 ?_
    refine r_bipush (v := (60)) X dX12_hours_44 (by decide) ?_
    refine r_icmp_gt (tgt := 102) X dX12_hours_46 (by decide) h (fun h => ?_) (fun h => ?_)
    · refine r_aload_n X dX12_hours_102 rfl 0 rfl ?_
      refine r_getF X (k := 49) (of := 35) rfl (Lm_N Lmk_0 rfl) Lmk_0 rfl (by decide) ui_12 (by decide) uw6_29 rfl dX12_hours_103 ?_
      refine r_iconst (v := (2)) X dX12_hours_106 (by decide) ?_
      refine r_iload_n X dX12_hours_107 rfl 2 rfl ?_
      refine r_iast X (Lm_N Lmk_35 rfl) Lmk_35 (g_in rfl h) dX12_hours_108 (fun h => ?_)
      refine r_nmM h (fun m12 h => ?_)
      refine r_aload_n X dX12_hours_109 rfl 0 rfl ?_
      refine r_getF X (k := 49) (of := 35) rfl (Lm_N Lmk_0 rfl) Lmk_0 rfl (by decide) ui_12 (by decide) uw6_29 rfl dX12_hours_110 ?_
      refine r_iconst (v := (3)) X dX12_hours_113 (by decide) ?_
      refine r_iload_n X dX12_hours_114 rfl 3 rfl ?_
      refine r_iast X (Lm_N Lmk_35 rfl) Lmk_35 (g_in rfl h) dX12_hours_115 (fun h => ?_)
      refine r_nmM h (fun m13 h => ?_)
      refine r_iload X dX12_hours_116 4 rfl ?_
      exact r_iret2 X rfl dX12_hours_118 h
    · refine r_aload_n X dX12_hours_49 rfl 0 rfl ?_
      refine r_getF X (k := 49) (of := 35) rfl (Lm_N Lmk_0 rfl) Lmk_0 rfl (by decide) ui_12 (by decide) uw6_29 rfl dX12_hours_50 ?_
      refine r_iconst (v := (2)) X dX12_hours_53 (by decide) ?_
      refine r_iload X dX12_hours_54 6 rfl ?_
      refine r_iast X (Lm_N Lmk_35 rfl) Lmk_35 (g_in rfl h) dX12_hours_56 (fun h => ?_)
      refine r_nmM h (fun m14 h => ?_)
      refine r_aload_n X dX12_hours_57 rfl 0 rfl ?_
      refine r_getF X (k := 49) (of := 35) rfl (Lm_N Lmk_0 rfl) Lmk_0 rfl (by decide) ui_12 (by decide) uw6_29 rfl dX12_hours_58 ?_
      refine r_iconst (v := (3)) X dX12_hours_61 (by decide) ?_
      refine r_iload X dX12_hours_62 6 rfl ?_
      refine r_iload_n X dX12_hours_64 rfl 1 rfl ?_
      refine r_iadd X dX12_hours_65 ?_
      refine r_iast X (Lm_N Lmk_35 rfl) Lmk_35 (g_in rfl h) dX12_hours_66 (fun h => ?_)
      refine r_nmM h (fun m15 h => ?_)
      refine r_aload_n X dX12_hours_67 rfl 0 rfl ?_
      refine r_cVI (As := []) (rest := []) X (fun r9 m9 hg => k_X12_tries hg) h (Lm_N Lmk_0 rfl) Lmk_0 rfl (by decide) uw7_138 uw7_140 us5_13 uw1_13 uw7_141 rfl rfl dd_X12_tries ⟨Nat.le_of_ble_eq_true rfl, Nat.le_of_ble_eq_true rfl⟩ rfl (Nat.le_of_ble_eq_true rfl) dX12_hours_68 rfl (fun x17 m16 h => ?_)
      refine r_istore (lv2 := [(7, .int (x17)), (0, .ref (ad (0))), (1, .int (p1)), (2, .int (x6)), (3, .int (x7)), (4, .int (x8)), (5, .int (x9)), (6, .int (x10))]) X dX12_hours_71 (by decide) rfl ?_
      refine r_iload X dX12_hours_73 5 rfl ?_
      refine r_if_lt (tgt := 88) X dX12_hours_75 (by decide) h (fun h => ?_) (fun h => ?_)
      · exact r_sub [1, 2, 3, 4, 7, 0] rfl (hJ88 k40 hk40 x6 x7 x10 x17 m16 h)
      · refine r_iload X dX12_hours_78 0 rfl ?_
        refine r_iload X dX12_hours_80 6 rfl ?_
        refine r_icmp_gt (tgt := 88) X dX12_hours_82 (by decide) h (fun h => ?_) (fun h => ?_)
        · exact r_sub [1, 2, 3, 4, 7, 0] rfl (hJ88 k40 hk40 x6 x7 x10 x17 m16 h)
        · refine r_goto (tgt := 96) X dX12_hours_85 (by decide) ?_
          exact r_sub [1, 2, 3, 4, 5, 6, 7] rfl (hJ96 k40 hk40 x6 x7 x8 x9 x10 m16 h)
  have hL40 : ∀ (n : Nat), ∀ (x6 : Int32) (x7 : Int32) (x8 : Int32) (x9 : Int32) (x10 : Int32) (m11 : Mm), lop (fun _ _ _ _ _ _ => none) (f_X12_hours_B40 p1 ) n x6 x7 x8 x9 x10 m11 = some (r2, mem2) → Jd p l e ({ frames := 9, cells := 0, slots := 0, locals := 202 }) s m args below meth c 8 (MQ below (PsI Lm ad cy dC dI r2 mem2 A) args s 0 0 A) A dC dI cy Lm ad m11 40 [(0, .ref (ad (0))), (1, .int (p1)), (2, .int (x6)), (3, .int (x7)), (4, .int (x8)), (5, .int (x9)), (6, .int (x10))] [] := by
    intro  n
    induction n with
    | zero => intro _ _ _ _ _ _ h; cases h
    | succ n ih => intro a0 a1 a2 a3 a4 a5 h; exact hJ40  _ ih a0 a1 a2 a3 a4 a5 h
  unfold f_X12_hours at h
  refine r_aload_n X dX12_hours_0 rfl 0 rfl ?_
  refine r_iconst (v := (0)) X dX12_hours_1 (by decide) ?_
  refine r_putI X (k := 0) (Lm_N Lmk_0 rfl) Lmk_0 rfl (by decide) ui_12 (by decide) uw5_220 tyX12_ok nmX12 rfl rfl rfl dX12_hours_2 ?_
  refine r_nmM h (fun m1 h => ?_)
  refine r_iload_n X dX12_hours_5 rfl 1 rfl ?_
  refine r_iconst (v := (1)) X dX12_hours_6 (by decide) ?_
  refine r_bipush (v := (60)) X dX12_hours_7 (by decide) ?_
  refine r_cSI (As := [.int (p1), .int ((1)), .int ((60))]) (rest := []) X (fun r9 m9 hg => k_X12_within hg) h uw7_49 uw7_50 uw1_13 uw7_51 rfl rfl dd_X12_within ⟨Nat.le_of_ble_eq_true rfl, Nat.le_of_ble_eq_true rfl⟩ rfl (Nat.le_of_ble_eq_true rfl) dX12_hours_9 rfl (fun x3 m2 h => ?_)
  refine r_if_ne (tgt := 17) X dX12_hours_12 (by decide) h (fun h => ?_) (fun h => ?_)
  · refine r_aload_n X dX12_hours_17 rfl 0 rfl ?_
    refine r_getF X (k := 49) (of := 35) rfl (Lm_N Lmk_0 rfl) Lmk_0 rfl (by decide) ui_12 (by decide) uw6_29 rfl dX12_hours_18 ?_
    refine r_iconst (v := (2)) X dX12_hours_21 (by decide) ?_
    refine r_iald X (Lm_N Lmk_35 rfl) Lmk_35 (g_in rfl h) dX12_hours_22 (fun h => ?_)
    refine r_nmI h (fun x4 h => ?_)
    refine r_istore_n (lv2 := [(2, .int (x4)), (0, .ref (ad (0))), (1, .int (p1))]) X dX12_hours_23 rfl (by decide) rfl ?_
    refine r_aload_n X dX12_hours_24 rfl 1 rfl ?_
    refine r_getF X (k := 49) (of := 35) rfl (Lm_N Lmk_0 rfl) Lmk_0 rfl (by decide) ui_12 (by decide) uw6_29 rfl dX12_hours_25 ?_
    refine r_iconst (v := (3)) X dX12_hours_28 (by decide) ?_
    refine r_iald X (Lm_N Lmk_35 rfl) Lmk_35 (g_in rfl h) dX12_hours_29 (fun h => ?_)
    refine r_nmI h (fun x5 h => ?_)
    refine r_istore_n (lv2 := [(3, .int (x5)), (2, .int (x4)), (0, .ref (ad (0))), (1, .int (p1))]) X dX12_hours_30 rfl (by decide) rfl ?_
    refine r_iconst (v := (-1)) X dX12_hours_31 (by decide) ?_
    refine r_istore (lv2 := [(4, .int ((-1))), (3, .int (x5)), (2, .int (x4)), (0, .ref (ad (0))), (1, .int (p1))]) X dX12_hours_32 (by decide) rfl ?_
    refine r_iconst (v := (0)) X dX12_hours_34 (by decide) ?_
    refine r_istore (lv2 := [(5, .int ((0))), (4, .int ((-1))), (3, .int (x5)), (2, .int (x4)), (0, .ref (ad (0))), (1, .int (p1))]) X dX12_hours_35 (by decide) rfl ?_
    refine r_iconst (v := (0)) X dX12_hours_37 (by decide) ?_
    refine r_istore (lv2 := [(6, .int ((0))), (5, .int ((0))), (4, .int ((-1))), (3, .int (x5)), (2, .int (x4)), (0, .ref (ad (0))), (1, .int (p1))]) X dX12_hours_38 (by decide) rfl ?_
    exact r_sub [5, 6, 4, 3, 2, 1, 0] rfl (hL40 4000 x4 x5 ((-1)) ((0)) ((0)) m2 h)
  · refine r_iconst (v := (-1)) X dX12_hours_15 (by decide) ?_
    exact r_iret2 X rfl dX12_hours_16 h
noncomputable def f_X12_daysBring_J45 (p1 : Int32) (p2 : Int32) (k18 : Int32 → Int32 → Mm → Option (Int32 × Mm)) (x9 : Int32) (x10 : Int32) (m11 : Mm) : Option (Int32 × Mm) :=
  bdI (f_X12_passes  m11) fun x13 m12 => bnd (x9 + x13) fun x14 => bnd (x10 + (1)) fun x15 => k18 x14 x15 m12
noncomputable def f_X12_daysBring_B18 (p1 : Int32) (p2 : Int32) (k18 : Int32 → Int32 → Mm → Option (Int32 × Mm)) (x2 : Int32) (x3 : Int32) (m4 : Mm) : Option (Int32 × Mm) :=
  if p1 ≤ x3 then (bdV (f_X12_copies 36 ((0)) 35 ((0)) m4) fun m5 => some (x2, m5)) else (if ¬ x3 = p2 then (f_X12_daysBring_J45 p1 p2 k18 x2 x3 m4) else (bdI (f_X12_mends  m4) fun x7 m6 => bnd (x2 - (gI m6 2 6)) fun x8 => f_X12_daysBring_J45 p1 p2 k18 x8 x3 m6))
noncomputable def f_X12_daysBring (p1 : Int32) (p2 : Int32) (mem : Mm) : Option (Int32 × Mm) :=
  bdV (f_X12_copies 35 ((0)) 36 ((0)) mem) fun m1 => lop (fun _ _ _ => none) (f_X12_daysBring_B18 p1 p2 ) 4000 ((0)) ((0)) m1
theorem dd_X12_daysBring : yX12_daysBring.cls = RX12 ∧ yX12_daysBring.cls ≠ "java/lang/invoke/MethodHandle" ∧ yX12_daysBring.cls ≠ "java/lang/invoke/VarHandle" ∧ (parseMethodDescriptor yX12_daysBring.desc).map (fun d => d.parameters.length) = some 2 := by decide +kernel
set_option maxHeartbeats 4000000 in
set_option maxRecDepth 100000 in
theorem k_X12_daysBring {l : Launch} {ad : Nat → Nat} {cy : Nat → ClassId} {dC : Nat → ClassId} {dI : Nat → Nat → Nat} {ks : (Nat → Nat) × (Nat → Nat)} {p1 : Int32} {p2 : Int32} {mem : Mm} {r2 : Int32} {mem2 : Mm}  (h : f_X12_daysBring p1 p2 mem = some (r2, mem2)) : CtI l Lm ad cy dC dI ks yX12_daysBring cX12_daysBring 5 (some .int) ({ frames := 8, cells := 0, slots := 0, locals := 181 }) [.ref (ad (0)), .int (p1), .int (p2)] mem r2 mem2 := by
  refine CtI.of (cc := cX12_daysBring) (maxL := 5) (ret := (some .int)) (own := RX12) rfl (by decide) (Nat.le_of_ble_eq_true rfl) ?_
  intro p e s m args below meth c A X
  have hts := X.2.2.2.2.1
  have hJ45 : ∀ (k18 : Int32 → Int32 → Mm → Option (Int32 × Mm)) (hk18 : ∀ (x2 : Int32) (x3 : Int32) (m4 : Mm), k18 x2 x3 m4 = some (r2, mem2) → Jd p l e ({ frames := 8, cells := 0, slots := 0, locals := 181 }) s m args below meth c 5 (MQ below (PsI Lm ad cy dC dI r2 mem2 A) args s 0 0 A) A dC dI cy Lm ad m4 18 [(0, .ref (ad (0))), (1, .int (p1)), (2, .int (p2)), (3, .int (x2)), (4, .int (x3))] []) (x9 : Int32) (x10 : Int32) (m11 : Mm), f_X12_daysBring_J45 p1 p2 k18 x9 x10 m11 = some (r2, mem2) → Jd p l e ({ frames := 8, cells := 0, slots := 0, locals := 181 }) s m args below meth c 5 (MQ below (PsI Lm ad cy dC dI r2 mem2 A) args s 0 0 A) A dC dI cy Lm ad m11 45 [(0, .ref (ad (0))), (1, .int (p1)), (2, .int (p2)), (3, .int (x9)), (4, .int (x10))] [] := by
    intro k18 hk18 x9 x10 m11 h
    unfold f_X12_daysBring_J45 at h
    refine r_iload_n X dX12_daysBring_45 rfl 3 rfl ?_
    refine r_aload_n X dX12_daysBring_46 rfl 0 rfl ?_
    refine r_cVI (As := []) (rest := [.int (x9)]) X (fun r9 m9 hg => k_X12_passes hg) h (Lm_N Lmk_0 rfl) Lmk_0 rfl (by decide) uw7_145 uw7_147 us5_14 uw1_13 uw7_148 rfl rfl dd_X12_passes ⟨Nat.le_of_ble_eq_true rfl, Nat.le_of_ble_eq_true rfl⟩ rfl (Nat.le_of_ble_eq_true rfl) dX12_daysBring_47 rfl (fun x13 m12 h => ?_)
    refine r_iadd X dX12_daysBring_50 ?_
    refine r_nmI h (fun x14 h => ?_)
    refine r_istore_n (lv2 := [(3, .int (x14)), (0, .ref (ad (0))), (1, .int (p1)), (2, .int (p2)), (4, .int (x10))]) X dX12_daysBring_51 rfl (by decide) rfl ?_
    refine r_inc h (fun x15 e9 h => ?_)
    refine r_iinc (v := x15) (lv2 := [(4, .int (x15)), (3, .int (x14)), (0, .ref (ad (0))), (1, .int (p1)), (2, .int (p2))]) X dX12_daysBring_52 4 rfl (by rw [e9]; rfl) (by decide) rfl ?_
    refine r_goto (tgt := 18) X dX12_daysBring_55 (by decide) ?_
    exact r_sub [2, 3, 4, 1, 0] rfl (hk18 x14 x15 m12 h)
  have hJ18 : ∀ (k18 : Int32 → Int32 → Mm → Option (Int32 × Mm)) (hk18 : ∀ (x2 : Int32) (x3 : Int32) (m4 : Mm), k18 x2 x3 m4 = some (r2, mem2) → Jd p l e ({ frames := 8, cells := 0, slots := 0, locals := 181 }) s m args below meth c 5 (MQ below (PsI Lm ad cy dC dI r2 mem2 A) args s 0 0 A) A dC dI cy Lm ad m4 18 [(0, .ref (ad (0))), (1, .int (p1)), (2, .int (p2)), (3, .int (x2)), (4, .int (x3))] []) (x2 : Int32) (x3 : Int32) (m4 : Mm), f_X12_daysBring_B18 p1 p2 k18 x2 x3 m4 = some (r2, mem2) → Jd p l e ({ frames := 8, cells := 0, slots := 0, locals := 181 }) s m args below meth c 5 (MQ below (PsI Lm ad cy dC dI r2 mem2 A) args s 0 0 A) A dC dI cy Lm ad m4 18 [(0, .ref (ad (0))), (1, .int (p1)), (2, .int (p2)), (3, .int (x2)), (4, .int (x3))] [] := by
    intro k18 hk18 x2 x3 m4 h
    unfold f_X12_daysBring_B18 at h
    refine r_iload X dX12_daysBring_18 4 rfl ?_
    refine r_iload_n X dX12_daysBring_20 rfl 1 rfl ?_
    refine r_icmp_ge (tgt := 58) X dX12_daysBring_21 (by decide) h (fun h => ?_) (fun h => ?_)
    · refine r_aload_n X dX12_daysBring_58 rfl 0 rfl ?_
      refine r_getF X (k := 50) (of := 36) rfl (Lm_N Lmk_0 rfl) Lmk_0 rfl (by decide) ui_12 (by decide) uw6_30 rfl dX12_daysBring_59 ?_
      refine r_iconst (v := (0)) X dX12_daysBring_62 (by decide) ?_
      refine r_aload_n X dX12_daysBring_63 rfl 0 rfl ?_
      refine r_getF X (k := 49) (of := 35) rfl (Lm_N Lmk_0 rfl) Lmk_0 rfl (by decide) ui_12 (by decide) uw6_29 rfl dX12_daysBring_64 ?_
      refine r_iconst (v := (0)) X dX12_daysBring_67 (by decide) ?_
      refine r_cSV (As := [.ref (ad (36)), .int ((0)), .ref (ad (35)), .int ((0))]) (rest := []) X (fun m9 hg => k_X12_copies Lmk_36 Lmk_35 hg) h uw7_142 uw7_143 uw1_13 uw7_144 rfl rfl dd_X12_copies ⟨Nat.le_of_ble_eq_true rfl, Nat.le_of_ble_eq_true rfl⟩ rfl (Nat.le_of_ble_eq_true rfl) dX12_daysBring_68 rfl (fun m5 h => ?_)
      refine r_iload_n X dX12_daysBring_71 rfl 3 rfl ?_
      exact r_iret2 X rfl dX12_daysBring_72 h
    · refine r_iload X dX12_daysBring_24 4 rfl ?_
      refine r_iload_n X dX12_daysBring_26 rfl 2 rfl ?_
      refine r_icmp_ne (tgt := 45) X dX12_daysBring_27 (by decide) h (fun h => ?_) (fun h => ?_)
      · exact r_sub [0, 1, 2, 3, 4] rfl (hJ45 k18 hk18 x2 x3 m4 h)
      · refine r_aload_n X dX12_daysBring_30 rfl 0 rfl ?_
        refine r_cVI (As := []) (rest := []) X (fun r9 m9 hg => k_X12_mends hg) h (Lm_N Lmk_0 rfl) Lmk_0 rfl (by decide) uw8_8 uw8_10 us7_1 uw1_13 uw8_11 rfl rfl dd_X12_mends ⟨Nat.le_of_ble_eq_true rfl, Nat.le_of_ble_eq_true rfl⟩ rfl (Nat.le_of_ble_eq_true rfl) dX12_daysBring_31 rfl (fun x7 m6 h => ?_)
        refine r_pop X dX12_daysBring_34 rfl ?_
        refine r_iload_n X dX12_daysBring_35 rfl 3 rfl ?_
        refine r_aload_n X dX12_daysBring_36 rfl 0 rfl ?_
        refine r_getF X (k := 10) (of := 2) rfl (Lm_N Lmk_0 rfl) Lmk_0 rfl (by decide) ui_12 (by decide) uw5_230 rfl dX12_daysBring_37 ?_
        refine r_bipush (v := (6)) X dX12_daysBring_40 (by decide) ?_
        refine r_iald X (Lm_N Lmk_2 rfl) Lmk_2 (g_in rfl h) dX12_daysBring_42 (fun h => ?_)
        refine r_isub X dX12_daysBring_43 ?_
        refine r_nmI h (fun x8 h => ?_)
        refine r_istore_n (lv2 := [(3, .int (x8)), (0, .ref (ad (0))), (1, .int (p1)), (2, .int (p2)), (4, .int (x3))]) X dX12_daysBring_44 rfl (by decide) rfl ?_
        exact r_sub [1, 2, 3, 0, 4] rfl (hJ45 k18 hk18 x8 x3 m6 h)
  have hL18 : ∀ (n : Nat), ∀ (x2 : Int32) (x3 : Int32) (m4 : Mm), lop (fun _ _ _ => none) (f_X12_daysBring_B18 p1 p2 ) n x2 x3 m4 = some (r2, mem2) → Jd p l e ({ frames := 8, cells := 0, slots := 0, locals := 181 }) s m args below meth c 5 (MQ below (PsI Lm ad cy dC dI r2 mem2 A) args s 0 0 A) A dC dI cy Lm ad m4 18 [(0, .ref (ad (0))), (1, .int (p1)), (2, .int (p2)), (3, .int (x2)), (4, .int (x3))] [] := by
    intro  n
    induction n with
    | zero => intro _ _ _ h; cases h
    | succ n ih => intro a0 a1 a2 h; exact hJ18  _ ih a0 a1 a2 h
  unfold f_X12_daysBring at h
  refine r_aload_n X dX12_daysBring_0 rfl 0 rfl ?_
  refine r_getF X (k := 49) (of := 35) rfl (Lm_N Lmk_0 rfl) Lmk_0 rfl (by decide) ui_12 (by decide) uw6_29 rfl dX12_daysBring_1 ?_
  refine r_iconst (v := (0)) X dX12_daysBring_4 (by decide) ?_
  refine r_aload_n X dX12_daysBring_5 rfl 0 rfl ?_
  refine r_getF X (k := 50) (of := 36) rfl (Lm_N Lmk_0 rfl) Lmk_0 rfl (by decide) ui_12 (by decide) uw6_30 rfl dX12_daysBring_6 ?_
  refine r_iconst (v := (0)) X dX12_daysBring_9 (by decide) ?_
  refine r_cSV (As := [.ref (ad (35)), .int ((0)), .ref (ad (36)), .int ((0))]) (rest := []) X (fun m9 hg => k_X12_copies Lmk_35 Lmk_36 hg) h uw7_142 uw7_143 uw1_13 uw7_144 rfl rfl dd_X12_copies ⟨Nat.le_of_ble_eq_true rfl, Nat.le_of_ble_eq_true rfl⟩ rfl (Nat.le_of_ble_eq_true rfl) dX12_daysBring_10 rfl (fun m1 h => ?_)
  refine r_iconst (v := (0)) X dX12_daysBring_13 (by decide) ?_
  refine r_istore_n (lv2 := [(3, .int ((0))), (0, .ref (ad (0))), (1, .int (p1)), (2, .int (p2))]) X dX12_daysBring_14 rfl (by decide) rfl ?_
  refine r_iconst (v := (0)) X dX12_daysBring_15 (by decide) ?_
  refine r_istore (lv2 := [(4, .int ((0))), (3, .int ((0))), (0, .ref (ad (0))), (1, .int (p1)), (2, .int (p2))]) X dX12_daysBring_16 (by decide) rfl ?_
  exact r_sub [2, 3, 4, 1, 0] rfl (hL18 4000 ((0)) ((0)) m1 h)
noncomputable def f_X12_when_J93 (p1 : Int32) (p2 : Int32) (k51 : Int32 → Int32 → Int32 → Mm → Option (Int32 × Mm)) (x23 : Int32) (x24 : Int32) (x25 : Int32) (m26 : Mm) : Option (Int32 × Mm) :=
  bnd (x25 + (1)) fun x27 => k51 x23 x24 x27 m26
noncomputable def f_X12_when_J71 (p1 : Int32) (p2 : Int32) (k51 : Int32 → Int32 → Int32 → Mm → Option (Int32 × Mm)) (x15 : Int32) (x16 : Int32) (x17 : Int32) (x18 : Int32) (x19 : Int32) (m20 : Mm) : Option (Int32 × Mm) :=
  bdI (f_X12_daysBring x19 x18 m20) fun x22 m21 => if x16 < x22 then (f_X12_when_J93 p1 p2 k51 x17 x22 x17 m21) else (f_X12_when_J93 p1 p2 k51 x15 x16 x17 m21)
noncomputable def f_X12_when_B51 (p1 : Int32) (p2 : Int32) (k51 : Int32 → Int32 → Int32 → Mm → Option (Int32 × Mm)) (x11 : Int32) (x12 : Int32) (x13 : Int32) (m14 : Mm) : Option (Int32 × Mm) :=
  if p1 < x13 then (if ¬ p2 = 0 then (if ¬ x11 = p1 then (some (x11, m14)) else (some ((-1), m14))) else (some (x12, m14))) else (if ¬ x13 = p1 then (f_X12_when_J71 p1 p2 k51 x11 x12 x13 x13 p1 m14) else (f_X12_when_J71 p1 p2 k51 x11 x12 x13 ((-1)) p1 m14))
noncomputable def f_X12_when_J25 (p1 : Int32) (p2 : Int32) (x6 : Int32) (m7 : Mm) : Option (Int32 × Mm) :=
  bnd (sI m7 0 0 x6) fun m8 => if ¬ (gI m8 0 0) = ((1)) then (bdI (f_X12_daysBring p1 ((0)) m8) fun x10 m9 => lop (fun _ _ _ _ => none) (f_X12_when_B51 p1 p2 ) 4000 ((0)) x10 ((1)) m9) else (some ((0), m8))
noncomputable def f_X12_when_J24 (p1 : Int32) (p2 : Int32) (m5 : Mm) : Option (Int32 × Mm) :=
  f_X12_when_J25 p1 p2 ((1)) m5
noncomputable def f_X12_when (p1 : Int32) (p2 : Int32) (mem : Mm) : Option (Int32 × Mm) :=
  bdI (f_X12_within p1 ((1)) ((9)) mem) fun x2 m1 => if x2 = 0 then (f_X12_when_J24 p1 p2 m1) else (bdI (f_X12_within p2 ((0)) ((1)) m1) fun x4 m3 => if x4 = 0 then (f_X12_when_J24 p1 p2 m3) else (f_X12_when_J25 p1 p2 ((0)) m3))
theorem dd_X12_when : yX12_when.cls = RX12 ∧ yX12_when.cls ≠ "java/lang/invoke/MethodHandle" ∧ yX12_when.cls ≠ "java/lang/invoke/VarHandle" ∧ (parseMethodDescriptor yX12_when.desc).map (fun d => d.parameters.length) = some 2 := by decide +kernel
set_option maxHeartbeats 4000000 in
set_option maxRecDepth 100000 in
theorem k_X12_when {l : Launch} {ad : Nat → Nat} {cy : Nat → ClassId} {dC : Nat → ClassId} {dI : Nat → Nat → Nat} {ks : (Nat → Nat) × (Nat → Nat)} {p1 : Int32} {p2 : Int32} {mem : Mm} {r2 : Int32} {mem2 : Mm}  (h : f_X12_when p1 p2 mem = some (r2, mem2)) : CtI l Lm ad cy dC dI ks yX12_when cX12_when 7 (some .int) ({ frames := 9, cells := 0, slots := 0, locals := 205 }) [.ref (ad (0)), .int (p1), .int (p2)] mem r2 mem2 := by
  refine CtI.of (cc := cX12_when) (maxL := 7) (ret := (some .int)) (own := RX12) rfl (by decide) (Nat.le_of_ble_eq_true rfl) ?_
  intro p e s m args below meth c A X
  have hts := X.2.2.2.2.1
  have hJ93 : ∀ (k51 : Int32 → Int32 → Int32 → Mm → Option (Int32 × Mm)) (hk51 : ∀ (x11 : Int32) (x12 : Int32) (x13 : Int32) (m14 : Mm), k51 x11 x12 x13 m14 = some (r2, mem2) → Jd p l e ({ frames := 9, cells := 0, slots := 0, locals := 205 }) s m args below meth c 7 (MQ below (PsI Lm ad cy dC dI r2 mem2 A) args s 0 0 A) A dC dI cy Lm ad m14 51 [(0, .ref (ad (0))), (1, .int (p1)), (2, .int (p2)), (3, .int (x11)), (4, .int (x12)), (5, .int (x13))] []) (x23 : Int32) (x24 : Int32) (x25 : Int32) (m26 : Mm), f_X12_when_J93 p1 p2 k51 x23 x24 x25 m26 = some (r2, mem2) → Jd p l e ({ frames := 9, cells := 0, slots := 0, locals := 205 }) s m args below meth c 7 (MQ below (PsI Lm ad cy dC dI r2 mem2 A) args s 0 0 A) A dC dI cy Lm ad m26 93 [(0, .ref (ad (0))), (1, .int (p1)), (2, .int (p2)), (3, .int (x23)), (4, .int (x24)), (5, .int (x25))] [] := by
    intro k51 hk51 x23 x24 x25 m26 h
    unfold f_X12_when_J93 at h
    refine r_inc h (fun x27 e9 h => ?_)
    refine r_iinc (v := x27) (lv2 := [(5, .int (x27)), (0, .ref (ad (0))), (1, .int (p1)), (2, .int (p2)), (3, .int (x23)), (4, .int (x24))]) X dX12_when_93 5 rfl (by rw [e9]; rfl) (by decide) rfl ?_
    refine r_goto (tgt := 51) X dX12_when_96 (by decide) ?_
    exact r_sub [1, 2, 3, 4, 5, 0] rfl (hk51 x23 x24 x27 m26 h)
  have hJ71 : ∀ (k51 : Int32 → Int32 → Int32 → Mm → Option (Int32 × Mm)) (hk51 : ∀ (x11 : Int32) (x12 : Int32) (x13 : Int32) (m14 : Mm), k51 x11 x12 x13 m14 = some (r2, mem2) → Jd p l e ({ frames := 9, cells := 0, slots := 0, locals := 205 }) s m args below meth c 7 (MQ below (PsI Lm ad cy dC dI r2 mem2 A) args s 0 0 A) A dC dI cy Lm ad m14 51 [(0, .ref (ad (0))), (1, .int (p1)), (2, .int (p2)), (3, .int (x11)), (4, .int (x12)), (5, .int (x13))] []) (x15 : Int32) (x16 : Int32) (x17 : Int32) (x18 : Int32) (x19 : Int32) (m20 : Mm), f_X12_when_J71 p1 p2 k51 x15 x16 x17 x18 x19 m20 = some (r2, mem2) → Jd p l e ({ frames := 9, cells := 0, slots := 0, locals := 205 }) s m args below meth c 7 (MQ below (PsI Lm ad cy dC dI r2 mem2 A) args s 0 0 A) A dC dI cy Lm ad m20 71 [(0, .ref (ad (0))), (1, .int (p1)), (2, .int (p2)), (3, .int (x15)), (4, .int (x16)), (5, .int (x17))] [.int (x18), .int (x19), .ref (ad (0))] := by
    intro k51 hk51 x15 x16 x17 x18 x19 m20 h
    unfold f_X12_when_J71 at h
    refine r_cVI (As := [.int (x19), .int (x18)]) (rest := []) X (fun r9 m9 hg => k_X12_daysBring hg) h (Lm_N Lmk_0 rfl) Lmk_0 rfl (by decide) uw8_48 uw8_50 us7_4 uw1_13 uw8_51 rfl rfl dd_X12_daysBring ⟨Nat.le_of_ble_eq_true rfl, Nat.le_of_ble_eq_true rfl⟩ rfl (Nat.le_of_ble_eq_true rfl) dX12_when_71 rfl (fun x22 m21 h => ?_)
    refine r_istore (lv2 := [(6, .int (x22)), (0, .ref (ad (0))), (1, .int (p1)), (2, .int (p2)), (3, .int (x15)), (4, .int (x16)), (5, .int (x17))]) X dX12_when_74 (by decide) rfl ?_
    refine r_iload X dX12_when_76 0 rfl ?_
    refine r_iload X dX12_when_78 5 rfl ?_
    refine r_icmp_gt (tgt := 86) X dX12_when_80 (by decide) h (fun h => ?_) (fun h => ?_)
    · refine r_iload X dX12_when_86 6 rfl ?_
      refine r_istore_n (lv2 := [(3, .int (x17)), (6, .int (x22)), (0, .ref (ad (0))), (1, .int (p1)), (2, .int (p2)), (4, .int (x16)), (5, .int (x17))]) X dX12_when_88 rfl (by decide) rfl ?_
      refine r_iload X dX12_when_89 1 rfl ?_
      refine r_istore (lv2 := [(4, .int (x22)), (3, .int (x17)), (6, .int (x22)), (0, .ref (ad (0))), (1, .int (p1)), (2, .int (p2)), (5, .int (x17))]) X dX12_when_91 (by decide) rfl ?_
      exact r_sub [3, 4, 5, 1, 0, 6] rfl (hJ93 k51 hk51 x17 x22 x17 m21 h)
    · refine r_goto (tgt := 93) X dX12_when_83 (by decide) ?_
      exact r_sub [1, 2, 3, 4, 5, 6] rfl (hJ93 k51 hk51 x15 x16 x17 m21 h)
  have hJ51 : ∀ (k51 : Int32 → Int32 → Int32 → Mm → Option (Int32 × Mm)) (hk51 : ∀ (x11 : Int32) (x12 : Int32) (x13 : Int32) (m14 : Mm), k51 x11 x12 x13 m14 = some (r2, mem2) → Jd p l e ({ frames := 9, cells := 0, slots := 0, locals := 205 }) s m args below meth c 7 (MQ below (PsI Lm ad cy dC dI r2 mem2 A) args s 0 0 A) A dC dI cy Lm ad m14 51 [(0, .ref (ad (0))), (1, .int (p1)), (2, .int (p2)), (3, .int (x11)), (4, .int (x12)), (5, .int (x13))] []) (x11 : Int32) (x12 : Int32) (x13 : Int32) (m14 : Mm), f_X12_when_B51 p1 p2 k51 x11 x12 x13 m14 = some (r2, mem2) → Jd p l e ({ frames := 9, cells := 0, slots := 0, locals := 205 }) s m args below meth c 7 (MQ below (PsI Lm ad cy dC dI r2 mem2 A) args s 0 0 A) A dC dI cy Lm ad m14 51 [(0, .ref (ad (0))), (1, .int (p1)), (2, .int (p2)), (3, .int (x11)), (4, .int (x12)), (5, .int (x13))] [] := by
    intro k51 hk51 x11 x12 x13 m14 h
    unfold f_X12_when_B51 at h
    refine r_iload X dX12_when_51 5 rfl ?_
    refine r_iload_n X dX12_when_53 rfl 1 rfl ?_
    refine r_icmp_gt (tgt := 99) X dX12_when_54 (by decide) h (fun h => ?_) (fun h => ?_)
    · refine r_iload_n X dX12_when_99 rfl 2 rfl ?_
      refine r_if_ne (tgt := 108) X dX12_when_100 (by decide) h (fun h => ?_) (fun h => ?_)
      · refine r_iload_n X dX12_when_108 rfl 3 rfl ?_
        refine r_iload_n X dX12_when_109 rfl 1 rfl ?_
        refine r_icmp_ne (tgt := 117) X dX12_when_110 (by decide) h (fun h => ?_) (fun h => ?_)
        · refine r_iload_n X dX12_when_117 rfl 3 rfl ?_
          exact r_iret2 X rfl dX12_when_118 h
        · refine r_iconst (v := (-1)) X dX12_when_113 (by decide) ?_
          refine r_goto (tgt := 118) X dX12_when_114 (by decide) ?_
          exact r_iret2 X rfl dX12_when_118 h
      · refine r_iload X dX12_when_103 4 rfl ?_
        refine r_goto (tgt := 118) X dX12_when_105 (by decide) ?_
        exact r_iret2 X rfl dX12_when_118 h
    · refine r_aload_n X dX12_when_57 rfl 0 rfl ?_
      refine r_iload_n X dX12_when_58 rfl 1 rfl ?_
      refine r_iload X dX12_when_59 5 rfl ?_
      refine r_iload_n X dX12_when_61 rfl 1 rfl ?_
      refine r_icmp_ne (tgt := 69) X dX12_when_62 (by decide) h (fun h => ?_) (fun h => ?_)
      · refine r_iload X dX12_when_69 5 rfl ?_
        exact r_sub [0, 1, 2, 3, 4, 5] rfl (hJ71 k51 hk51 x11 x12 x13 x13 p1 m14 h)
      · refine r_iconst (v := (-1)) X dX12_when_65 (by decide) ?_
        refine r_goto (tgt := 71) X dX12_when_66 (by decide) ?_
        exact r_sub [0, 1, 2, 3, 4, 5] rfl (hJ71 k51 hk51 x11 x12 x13 ((-1)) p1 m14 h)
  have hL51 : ∀ (n : Nat), ∀ (x11 : Int32) (x12 : Int32) (x13 : Int32) (m14 : Mm), lop (fun _ _ _ _ => none) (f_X12_when_B51 p1 p2 ) n x11 x12 x13 m14 = some (r2, mem2) → Jd p l e ({ frames := 9, cells := 0, slots := 0, locals := 205 }) s m args below meth c 7 (MQ below (PsI Lm ad cy dC dI r2 mem2 A) args s 0 0 A) A dC dI cy Lm ad m14 51 [(0, .ref (ad (0))), (1, .int (p1)), (2, .int (p2)), (3, .int (x11)), (4, .int (x12)), (5, .int (x13))] [] := by
    intro  n
    induction n with
    | zero => intro _ _ _ _ h; cases h
    | succ n ih => intro a0 a1 a2 a3 h; exact hJ51  _ ih a0 a1 a2 a3 h
  have hJ25 : ∀ (x6 : Int32) (m7 : Mm), f_X12_when_J25 p1 p2 x6 m7 = some (r2, mem2) → Jd p l e ({ frames := 9, cells := 0, slots := 0, locals := 205 }) s m args below meth c 7 (MQ below (PsI Lm ad cy dC dI r2 mem2 A) args s 0 0 A) A dC dI cy Lm ad m7 25 [(0, .ref (ad (0))), (1, .int (p1)), (2, .int (p2))] [.int (x6), .ref (ad (0))] := by
    intro x6 m7 h
    unfold f_X12_when_J25 at h
    refine r_putI X (k := 0) (Lm_N Lmk_0 rfl) Lmk_0 rfl (by decide) ui_12 (by decide) uw5_220 tyX12_ok nmX12 rfl rfl rfl dX12_when_25 ?_
    refine r_nmM h (fun m8 h => ?_)
    refine r_aload_n X dX12_when_28 rfl 0 rfl ?_
    refine r_getI X (k := 0) (Lm_N Lmk_0 rfl) Lmk_0 rfl (by decide) ui_12 (by decide) uw5_220 rfl dX12_when_29 ?_
    refine r_iconst (v := (1)) X dX12_when_32 (by decide) ?_
    refine r_icmp_ne (tgt := 38) X dX12_when_33 (by decide) h (fun h => ?_) (fun h => ?_)
    · refine r_iconst (v := (0)) X dX12_when_38 (by decide) ?_
      refine r_istore_n (lv2 := [(3, .int ((0))), (0, .ref (ad (0))), (1, .int (p1)), (2, .int (p2))]) X dX12_when_39 rfl (by decide) rfl ?_
      refine r_aload_n X dX12_when_40 rfl 1 rfl ?_
      refine r_iload_n X dX12_when_41 rfl 2 rfl ?_
      refine r_iconst (v := (0)) X dX12_when_42 (by decide) ?_
      refine r_cVI (As := [.int (p1), .int ((0))]) (rest := []) X (fun r9 m9 hg => k_X12_daysBring hg) h (Lm_N Lmk_0 rfl) Lmk_0 rfl (by decide) uw8_48 uw8_50 us7_4 uw1_13 uw8_51 rfl rfl dd_X12_daysBring ⟨Nat.le_of_ble_eq_true rfl, Nat.le_of_ble_eq_true rfl⟩ rfl (Nat.le_of_ble_eq_true rfl) dX12_when_43 rfl (fun x10 m9 h => ?_)
      refine r_istore (lv2 := [(4, .int (x10)), (3, .int ((0))), (0, .ref (ad (0))), (1, .int (p1)), (2, .int (p2))]) X dX12_when_46 (by decide) rfl ?_
      refine r_iconst (v := (1)) X dX12_when_48 (by decide) ?_
      refine r_istore (lv2 := [(5, .int ((1))), (4, .int (x10)), (3, .int ((0))), (0, .ref (ad (0))), (1, .int (p1)), (2, .int (p2))]) X dX12_when_49 (by decide) rfl ?_
      exact r_sub [3, 4, 5, 2, 1, 0] rfl (hL51 4000 ((0)) x10 ((1)) m9 h)
    · refine r_iconst (v := (0)) X dX12_when_36 (by decide) ?_
      exact r_iret2 X rfl dX12_when_37 h
  have hJ24 : ∀ (m5 : Mm), f_X12_when_J24 p1 p2 m5 = some (r2, mem2) → Jd p l e ({ frames := 9, cells := 0, slots := 0, locals := 205 }) s m args below meth c 7 (MQ below (PsI Lm ad cy dC dI r2 mem2 A) args s 0 0 A) A dC dI cy Lm ad m5 24 [(0, .ref (ad (0))), (1, .int (p1)), (2, .int (p2))] [.ref (ad (0))] := by
    intro m5 h
    unfold f_X12_when_J24 at h
    refine r_iconst (v := (1)) X dX12_when_24 (by decide) ?_
    exact r_sub [0, 1, 2] rfl (hJ25 ((1)) m5 h)
  unfold f_X12_when at h
  refine r_aload_n X dX12_when_0 rfl 0 rfl ?_
  refine r_iload_n X dX12_when_1 rfl 1 rfl ?_
  refine r_iconst (v := (1)) X dX12_when_2 (by decide) ?_
  refine r_bipush (v := (9)) X dX12_when_3 (by decide) ?_
  refine r_cSI (As := [.int (p1), .int ((1)), .int ((9))]) (rest := [.ref (ad (0))]) X (fun r9 m9 hg => k_X12_within hg) h uw7_49 uw7_50 uw1_13 uw7_51 rfl rfl dd_X12_within ⟨Nat.le_of_ble_eq_true rfl, Nat.le_of_ble_eq_true rfl⟩ rfl (Nat.le_of_ble_eq_true rfl) dX12_when_5 rfl (fun x2 m1 h => ?_)
  refine r_if_eq (tgt := 24) X dX12_when_8 (by decide) h (fun h => ?_) (fun h => ?_)
  · exact r_sub [0, 1, 2] rfl (hJ24 m1 h)
  · refine r_iload_n X dX12_when_11 rfl 2 rfl ?_
    refine r_iconst (v := (0)) X dX12_when_12 (by decide) ?_
    refine r_iconst (v := (1)) X dX12_when_13 (by decide) ?_
    refine r_cSI (As := [.int (p2), .int ((0)), .int ((1))]) (rest := [.ref (ad (0))]) X (fun r9 m9 hg => k_X12_within hg) h uw7_49 uw7_50 uw1_13 uw7_51 rfl rfl dd_X12_within ⟨Nat.le_of_ble_eq_true rfl, Nat.le_of_ble_eq_true rfl⟩ rfl (Nat.le_of_ble_eq_true rfl) dX12_when_14 rfl (fun x4 m3 h => ?_)
    refine r_if_eq (tgt := 24) X dX12_when_17 (by decide) h (fun h => ?_) (fun h => ?_)
    · exact r_sub [0, 1, 2] rfl (hJ24 m3 h)
    · refine r_iconst (v := (0)) X dX12_when_20 (by decide) ?_
      refine r_goto (tgt := 25) X dX12_when_21 (by decide) ?_
      exact r_sub [0, 1, 2] rfl (hJ25 ((0)) m3 h)
