noncomputable def f_X12_rule_J26 (p1 : Int32) (p2 : Int32) (x6 : Int32) (m7 : Mm) : Option (Int32 × Mm) :=
  bnd (sI m7 0 0 x6) fun m8 => if ¬ (gI m8 0 0) = ((1)) then (bnd (gI m8 35 1) fun x9 => bnd (sI m8 35 1 p2) fun m10 => bdI (f_X12_daysBring p1 ((-1)) m10) fun x12 m11 => bnd (sI m11 35 1 x9) fun m13 => some (x12, m13)) else (some ((0), m8))
noncomputable def f_X12_rule_J25 (p1 : Int32) (p2 : Int32) (m5 : Mm) : Option (Int32 × Mm) :=
  f_X12_rule_J26 p1 p2 ((1)) m5
noncomputable def f_X12_rule (p1 : Int32) (p2 : Int32) (mem : Mm) : Option (Int32 × Mm) :=
  bdI (f_X12_within p1 ((1)) ((30)) mem) fun x2 m1 => if x2 = 0 then (f_X12_rule_J25 p1 p2 m1) else (bdI (f_X12_within p2 ((1)) ((30)) m1) fun x4 m3 => if x4 = 0 then (f_X12_rule_J25 p1 p2 m3) else (f_X12_rule_J26 p1 p2 ((0)) m3))
theorem dd_X12_rule : yX12_rule.cls = RX12 ∧ yX12_rule.cls ≠ "java/lang/invoke/MethodHandle" ∧ yX12_rule.cls ≠ "java/lang/invoke/VarHandle" ∧ (parseMethodDescriptor yX12_rule.desc).map (fun d => d.parameters.length) = some 2 := by decide +kernel
set_option maxHeartbeats 4000000 in
set_option maxRecDepth 100000 in
theorem k_X12_rule {l : Launch} {ad : Nat → Nat} {cy : Nat → ClassId} {dC : Nat → ClassId} {dI : Nat → Nat → Nat} {ks : (Nat → Nat) × (Nat → Nat)} {p1 : Int32} {p2 : Int32} {mem : Mm} {r2 : Int32} {mem2 : Mm}  (h : f_X12_rule p1 p2 mem = some (r2, mem2)) : CtI l Lm ad cy dC dI ks yX12_rule cX12_rule 5 (some .int) ({ frames := 9, cells := 0, slots := 0, locals := 205 }) [.ref (ad (0)), .int (p1), .int (p2)] mem r2 mem2 := by
  refine CtI.of (cc := cX12_rule) (maxL := 5) (ret := (some .int)) (own := RX12) rfl (by decide) (Nat.le_of_ble_eq_true rfl) ?_
  intro p e s m args below meth c A X
  have hts := X.2.2.2.2.1
  have hJ26 : ∀ (x6 : Int32) (m7 : Mm), f_X12_rule_J26 p1 p2 x6 m7 = some (r2, mem2) → Jd p l e ({ frames := 9, cells := 0, slots := 0, locals := 205 }) s m args below meth c 5 (MQ below (PsI Lm ad cy dC dI r2 mem2 A) args s 0 0 A) A dC dI cy Lm ad m7 26 [(0, .ref (ad (0))), (1, .int (p1)), (2, .int (p2))] [.int (x6), .ref (ad (0))] := by
    intro x6 m7 h
    unfold f_X12_rule_J26 at h
    refine r_putI X (k := 0) (Lm_N Lmk_0 rfl) Lmk_0 rfl (by decide) ui_12 (by decide) uw5_220 tyX12_ok nmX12 rfl rfl rfl dX12_rule_26 ?_
    refine r_nmM h (fun m8 h => ?_)
    refine r_aload_n X dX12_rule_29 rfl 0 rfl ?_
    refine r_getI X (k := 0) (Lm_N Lmk_0 rfl) Lmk_0 rfl (by decide) ui_12 (by decide) uw5_220 rfl dX12_rule_30 ?_
    refine r_iconst (v := (1)) X dX12_rule_33 (by decide) ?_
    refine r_icmp_ne (tgt := 39) X dX12_rule_34 (by decide) h (fun h => ?_) (fun h => ?_)
    · refine r_aload_n X dX12_rule_39 rfl 0 rfl ?_
      refine r_getF X (k := 49) (of := 35) rfl (Lm_N Lmk_0 rfl) Lmk_0 rfl (by decide) ui_12 (by decide) uw6_29 rfl dX12_rule_40 ?_
      refine r_iconst (v := (1)) X dX12_rule_43 (by decide) ?_
      refine r_iald X (Lm_N Lmk_35 rfl) Lmk_35 (g_in rfl h) dX12_rule_44 (fun h => ?_)
      refine r_nmI h (fun x9 h => ?_)
      refine r_istore_n (lv2 := [(3, .int (x9)), (0, .ref (ad (0))), (1, .int (p1)), (2, .int (p2))]) X dX12_rule_45 rfl (by decide) rfl ?_
      refine r_aload_n X dX12_rule_46 rfl 1 rfl ?_
      refine r_getF X (k := 49) (of := 35) rfl (Lm_N Lmk_0 rfl) Lmk_0 rfl (by decide) ui_12 (by decide) uw6_29 rfl dX12_rule_47 ?_
      refine r_iconst (v := (1)) X dX12_rule_50 (by decide) ?_
      refine r_iload_n X dX12_rule_51 rfl 3 rfl ?_
      refine r_iast X (Lm_N Lmk_35 rfl) Lmk_35 (g_in rfl h) dX12_rule_52 (fun h => ?_)
      refine r_nmM h (fun m10 h => ?_)
      refine r_aload_n X dX12_rule_53 rfl 1 rfl ?_
      refine r_iload_n X dX12_rule_54 rfl 2 rfl ?_
      refine r_iconst (v := (-1)) X dX12_rule_55 (by decide) ?_
      refine r_cVI (As := [.int (p1), .int ((-1))]) (rest := []) X (fun r9 m9 hg => k_X12_daysBring hg) h (Lm_N Lmk_0 rfl) Lmk_0 rfl (by decide) uw8_48 uw8_50 us7_4 uw1_13 uw8_51 rfl rfl dd_X12_daysBring ⟨Nat.le_of_ble_eq_true rfl, Nat.le_of_ble_eq_true rfl⟩ rfl (Nat.le_of_ble_eq_true rfl) dX12_rule_56 rfl (fun x12 m11 h => ?_)
      refine r_istore (lv2 := [(4, .int (x12)), (3, .int (x9)), (0, .ref (ad (0))), (1, .int (p1)), (2, .int (p2))]) X dX12_rule_59 (by decide) rfl ?_
      refine r_aload_n X dX12_rule_61 rfl 2 rfl ?_
      refine r_getF X (k := 49) (of := 35) rfl (Lm_N Lmk_0 rfl) Lmk_0 rfl (by decide) ui_12 (by decide) uw6_29 rfl dX12_rule_62 ?_
      refine r_iconst (v := (1)) X dX12_rule_65 (by decide) ?_
      refine r_iload_n X dX12_rule_66 rfl 1 rfl ?_
      refine r_iast X (Lm_N Lmk_35 rfl) Lmk_35 (g_in rfl h) dX12_rule_67 (fun h => ?_)
      refine r_nmM h (fun m13 h => ?_)
      refine r_iload X dX12_rule_68 0 rfl ?_
      exact r_iret2 X rfl dX12_rule_70 h
    · refine r_iconst (v := (0)) X dX12_rule_37 (by decide) ?_
      exact r_iret2 X rfl dX12_rule_38 h
  have hJ25 : ∀ (m5 : Mm), f_X12_rule_J25 p1 p2 m5 = some (r2, mem2) → Jd p l e ({ frames := 9, cells := 0, slots := 0, locals := 205 }) s m args below meth c 5 (MQ below (PsI Lm ad cy dC dI r2 mem2 A) args s 0 0 A) A dC dI cy Lm ad m5 25 [(0, .ref (ad (0))), (1, .int (p1)), (2, .int (p2))] [.ref (ad (0))] := by
    intro m5 h
    unfold f_X12_rule_J25 at h
    refine r_iconst (v := (1)) X dX12_rule_25 (by decide) ?_
    exact r_sub [0, 1, 2] rfl (hJ26 ((1)) m5 h)
  unfold f_X12_rule at h
  refine r_aload_n X dX12_rule_0 rfl 0 rfl ?_
  refine r_iload_n X dX12_rule_1 rfl 1 rfl ?_
  refine r_iconst (v := (1)) X dX12_rule_2 (by decide) ?_
  refine r_bipush (v := (30)) X dX12_rule_3 (by decide) ?_
  refine r_cSI (As := [.int (p1), .int ((1)), .int ((30))]) (rest := [.ref (ad (0))]) X (fun r9 m9 hg => k_X12_within hg) h uw7_49 uw7_50 uw1_13 uw7_51 rfl rfl dd_X12_within ⟨Nat.le_of_ble_eq_true rfl, Nat.le_of_ble_eq_true rfl⟩ rfl (Nat.le_of_ble_eq_true rfl) dX12_rule_5 rfl (fun x2 m1 h => ?_)
  refine r_if_eq (tgt := 25) X dX12_rule_8 (by decide) h (fun h => ?_) (fun h => ?_)
  · exact r_sub [0, 1, 2] rfl (hJ25 m1 h)
  · refine r_iload_n X dX12_rule_11 rfl 2 rfl ?_
    refine r_iconst (v := (1)) X dX12_rule_12 (by decide) ?_
    refine r_bipush (v := (30)) X dX12_rule_13 (by decide) ?_
    refine r_cSI (As := [.int (p2), .int ((1)), .int ((30))]) (rest := [.ref (ad (0))]) X (fun r9 m9 hg => k_X12_within hg) h uw7_49 uw7_50 uw1_13 uw7_51 rfl rfl dd_X12_within ⟨Nat.le_of_ble_eq_true rfl, Nat.le_of_ble_eq_true rfl⟩ rfl (Nat.le_of_ble_eq_true rfl) dX12_rule_15 rfl (fun x4 m3 h => ?_)
    refine r_if_eq (tgt := 25) X dX12_rule_18 (by decide) h (fun h => ?_) (fun h => ?_)
    · exact r_sub [0, 1, 2] rfl (hJ25 m3 h)
    · refine r_iconst (v := (0)) X dX12_rule_21 (by decide) ?_
      refine r_goto (tgt := 26) X dX12_rule_22 (by decide) ?_
      exact r_sub [0, 1, 2] rfl (hJ26 ((0)) m3 h)
noncomputable def f_X12_lasts_J60 (p1 : Int32) (x10 : Int32) (m11 : Mm) : Option (Int32 × Mm) :=
  bdV (f_X12_copies 36 ((0)) 35 ((0)) m11) fun m12 => if ¬ x10 = ((61)) then (some (x10, m12)) else (some ((-1), m12))
noncomputable def f_X12_lasts_B30 (p1 : Int32) (k30 : Int32 → Mm → Option (Int32 × Mm)) (x5 : Int32) (m6 : Mm) : Option (Int32 × Mm) :=
  if ((61)) ≤ x5 then (f_X12_lasts_J60 p1 x5 m6) else (grd (inb (((5)) + p1) 17) (if ((9)) ≤ (gI m6 35 (((5)) + p1).toNatClampNeg) then (f_X12_lasts_J60 p1 x5 m6) else (bdI (f_X12_passes  m6) fun x8 m7 => bnd (x5 + (1)) fun x9 => k30 x9 m7)))
noncomputable def f_X12_lasts (p1 : Int32) (mem : Mm) : Option (Int32 × Mm) :=
  bnd (sI mem 0 0 ((0))) fun m1 => bdI (f_X12_isKey p1 m1) fun x3 m2 => if ¬ x3 = 0 then (bdV (f_X12_copies 35 ((0)) 36 ((0)) m2) fun m4 => lop (fun _ _ => none) (f_X12_lasts_B30 p1 ) 4000 ((0)) m4) else (some ((-1), m2))
theorem dd_X12_lasts : yX12_lasts.cls = RX12 ∧ yX12_lasts.cls ≠ "java/lang/invoke/MethodHandle" ∧ yX12_lasts.cls ≠ "java/lang/invoke/VarHandle" ∧ (parseMethodDescriptor yX12_lasts.desc).map (fun d => d.parameters.length) = some 1 := by decide +kernel
set_option maxHeartbeats 4000000 in
set_option maxRecDepth 100000 in
theorem k_X12_lasts {l : Launch} {ad : Nat → Nat} {cy : Nat → ClassId} {dC : Nat → ClassId} {dI : Nat → Nat → Nat} {ks : (Nat → Nat) × (Nat → Nat)} {p1 : Int32} {mem : Mm} {r2 : Int32} {mem2 : Mm}  (h : f_X12_lasts p1 mem = some (r2, mem2)) : CtI l Lm ad cy dC dI ks yX12_lasts cX12_lasts 3 (some .int) ({ frames := 8, cells := 0, slots := 0, locals := 181 }) [.ref (ad (0)), .int (p1)] mem r2 mem2 := by
  refine CtI.of (cc := cX12_lasts) (maxL := 3) (ret := (some .int)) (own := RX12) rfl (by decide) (Nat.le_of_ble_eq_true rfl) ?_
  intro p e s m args below meth c A X
  have hts := X.2.2.2.2.1
  have hJ60 : ∀ (x10 : Int32) (m11 : Mm), f_X12_lasts_J60 p1 x10 m11 = some (r2, mem2) → Jd p l e ({ frames := 8, cells := 0, slots := 0, locals := 181 }) s m args below meth c 3 (MQ below (PsI Lm ad cy dC dI r2 mem2 A) args s 0 0 A) A dC dI cy Lm ad m11 60 [(0, .ref (ad (0))), (2, .int (x10))] [] := by
    intro x10 m11 h
    unfold f_X12_lasts_J60 at h
    refine r_aload_n X dX12_lasts_60 rfl 0 rfl ?_
    refine r_getF X (k := 50) (of := 36) rfl (Lm_N Lmk_0 rfl) Lmk_0 rfl (by decide) ui_12 (by decide) uw6_30 rfl dX12_lasts_61 ?_
    refine r_iconst (v := (0)) X dX12_lasts_64 (by decide) ?_
    refine r_aload_n X dX12_lasts_65 rfl 0 rfl ?_
    refine r_getF X (k := 49) (of := 35) rfl (Lm_N Lmk_0 rfl) Lmk_0 rfl (by decide) ui_12 (by decide) uw6_29 rfl dX12_lasts_66 ?_
    refine r_iconst (v := (0)) X dX12_lasts_69 (by decide) ?_
    refine r_cSV (As := [.ref (ad (36)), .int ((0)), .ref (ad (35)), .int ((0))]) (rest := []) X (fun m9 hg => k_X12_copies Lmk_36 Lmk_35 hg) h uw7_142 uw7_143 uw1_13 uw7_144 rfl rfl dd_X12_copies ⟨Nat.le_of_ble_eq_true rfl, Nat.le_of_ble_eq_true rfl⟩ rfl (Nat.le_of_ble_eq_true rfl) dX12_lasts_70 rfl (fun m12 h => ?_)
    refine r_iload_n X dX12_lasts_73 rfl 1 rfl ?_
    refine r_bipush (v := (61)) X dX12_lasts_74 (by decide) ?_
    refine r_icmp_ne (tgt := 83) X dX12_lasts_76 (by decide) h (fun h => ?_) (fun h => ?_)
    · refine r_iload_n X dX12_lasts_83 rfl 1 rfl ?_
      exact r_iret2 X rfl dX12_lasts_84 h
    · refine r_iconst (v := (-1)) X dX12_lasts_79 (by decide) ?_
      refine r_goto (tgt := 84) X dX12_lasts_80 (by decide) ?_
      exact r_iret2 X rfl dX12_lasts_84 h
  have hJ30 : ∀ (k30 : Int32 → Mm → Option (Int32 × Mm)) (hk30 : ∀ (x5 : Int32) (m6 : Mm), k30 x5 m6 = some (r2, mem2) → Jd p l e ({ frames := 8, cells := 0, slots := 0, locals := 181 }) s m args below meth c 3 (MQ below (PsI Lm ad cy dC dI r2 mem2 A) args s 0 0 A) A dC dI cy Lm ad m6 30 [(0, .ref (ad (0))), (1, .int (p1)), (2, .int (x5))] []) (x5 : Int32) (m6 : Mm), f_X12_lasts_B30 p1 k30 x5 m6 = some (r2, mem2) → Jd p l e ({ frames := 8, cells := 0, slots := 0, locals := 181 }) s m args below meth c 3 (MQ below (PsI Lm ad cy dC dI r2 mem2 A) args s 0 0 A) A dC dI cy Lm ad m6 30 [(0, .ref (ad (0))), (1, .int (p1)), (2, .int (x5))] [] := by
    intro k30 hk30 x5 m6 h
    unfold f_X12_lasts_B30 at h
    refine r_iload_n X dX12_lasts_30 rfl 2 rfl ?_
    refine r_bipush (v := (61)) X dX12_lasts_31 (by decide) ?_
    refine r_icmp_ge (tgt := 60) X dX12_lasts_33 (by decide) h (fun h => ?_) (fun h => ?_)
    · exact r_sub [0, 2] rfl (hJ60 x5 m6 h)
    · refine r_aload_n X dX12_lasts_36 rfl 0 rfl ?_
      refine r_getF X (k := 49) (of := 35) rfl (Lm_N Lmk_0 rfl) Lmk_0 rfl (by decide) ui_12 (by decide) uw6_29 rfl dX12_lasts_37 ?_
      refine r_iconst (v := (5)) X dX12_lasts_40 (by decide) ?_
      refine r_iload_n X dX12_lasts_41 rfl 1 rfl ?_
      refine r_iadd X dX12_lasts_42 ?_
      refine r_iald X (Lm_N Lmk_35 rfl) Lmk_35 h dX12_lasts_43 (fun h => ?_)
      refine r_bipush (v := (9)) X dX12_lasts_44 (by decide) ?_
      refine r_icmp_ge (tgt := 60) X dX12_lasts_46 (by decide) h (fun h => ?_) (fun h => ?_)
      · exact r_sub [0, 2] rfl (hJ60 x5 m6 h)
      · refine r_aload_n X dX12_lasts_49 rfl 0 rfl ?_
        refine r_cVI (As := []) (rest := []) X (fun r9 m9 hg => k_X12_passes hg) h (Lm_N Lmk_0 rfl) Lmk_0 rfl (by decide) uw7_145 uw7_147 us5_14 uw1_13 uw7_148 rfl rfl dd_X12_passes ⟨Nat.le_of_ble_eq_true rfl, Nat.le_of_ble_eq_true rfl⟩ rfl (Nat.le_of_ble_eq_true rfl) dX12_lasts_50 rfl (fun x8 m7 h => ?_)
        refine r_pop X dX12_lasts_53 rfl ?_
        refine r_inc h (fun x9 e9 h => ?_)
        refine r_iinc (v := x9) (lv2 := [(2, .int (x9)), (0, .ref (ad (0))), (1, .int (p1))]) X dX12_lasts_54 2 rfl (by rw [e9]; rfl) (by decide) rfl ?_
        refine r_goto (tgt := 30) X dX12_lasts_57 (by decide) ?_
        exact r_sub [1, 2, 0] rfl (hk30 x9 m7 h)
  have hL30 : ∀ (n : Nat), ∀ (x5 : Int32) (m6 : Mm), lop (fun _ _ => none) (f_X12_lasts_B30 p1 ) n x5 m6 = some (r2, mem2) → Jd p l e ({ frames := 8, cells := 0, slots := 0, locals := 181 }) s m args below meth c 3 (MQ below (PsI Lm ad cy dC dI r2 mem2 A) args s 0 0 A) A dC dI cy Lm ad m6 30 [(0, .ref (ad (0))), (1, .int (p1)), (2, .int (x5))] [] := by
    intro  n
    induction n with
    | zero => intro _ _ h; cases h
    | succ n ih => intro a0 a1 h; exact hJ30  _ ih a0 a1 h
  unfold f_X12_lasts at h
  refine r_aload_n X dX12_lasts_0 rfl 0 rfl ?_
  refine r_iconst (v := (0)) X dX12_lasts_1 (by decide) ?_
  refine r_putI X (k := 0) (Lm_N Lmk_0 rfl) Lmk_0 rfl (by decide) ui_12 (by decide) uw5_220 tyX12_ok nmX12 rfl rfl rfl dX12_lasts_2 ?_
  refine r_nmM h (fun m1 h => ?_)
  refine r_aload_n X dX12_lasts_5 rfl 0 rfl ?_
  refine r_iload_n X dX12_lasts_6 rfl 1 rfl ?_
  refine r_cVI (As := [.int (p1)]) (rest := []) X (fun r9 m9 hg => k_X12_isKey hg) h (Lm_N Lmk_0 rfl) Lmk_0 rfl (by decide) uw7_130 uw7_132 us5_12 uw1_13 uw7_133 rfl rfl dd_X12_isKey ⟨Nat.le_of_ble_eq_true rfl, Nat.le_of_ble_eq_true rfl⟩ rfl (Nat.le_of_ble_eq_true rfl) dX12_lasts_7 rfl (fun x3 m2 h => ?_)
  refine r_if_ne (tgt := 15) X dX12_lasts_10 (by decide) h (fun h => ?_) (fun h => ?_)
  · refine r_aload_n X dX12_lasts_15 rfl 0 rfl ?_
    refine r_getF X (k := 49) (of := 35) rfl (Lm_N Lmk_0 rfl) Lmk_0 rfl (by decide) ui_12 (by decide) uw6_29 rfl dX12_lasts_16 ?_
    refine r_iconst (v := (0)) X dX12_lasts_19 (by decide) ?_
    refine r_aload_n X dX12_lasts_20 rfl 0 rfl ?_
    refine r_getF X (k := 50) (of := 36) rfl (Lm_N Lmk_0 rfl) Lmk_0 rfl (by decide) ui_12 (by decide) uw6_30 rfl dX12_lasts_21 ?_
    refine r_iconst (v := (0)) X dX12_lasts_24 (by decide) ?_
    refine r_cSV (As := [.ref (ad (35)), .int ((0)), .ref (ad (36)), .int ((0))]) (rest := []) X (fun m9 hg => k_X12_copies Lmk_35 Lmk_36 hg) h uw7_142 uw7_143 uw1_13 uw7_144 rfl rfl dd_X12_copies ⟨Nat.le_of_ble_eq_true rfl, Nat.le_of_ble_eq_true rfl⟩ rfl (Nat.le_of_ble_eq_true rfl) dX12_lasts_25 rfl (fun m4 h => ?_)
    refine r_iconst (v := (0)) X dX12_lasts_28 (by decide) ?_
    refine r_istore_n (lv2 := [(2, .int ((0))), (0, .ref (ad (0))), (1, .int (p1))]) X dX12_lasts_29 rfl (by decide) rfl ?_
    exact r_sub [1, 2, 0] rfl (hL30 4000 ((0)) m4 h)
  · refine r_iconst (v := (-1)) X dX12_lasts_13 (by decide) ?_
    exact r_iret2 X rfl dX12_lasts_14 h
noncomputable def f_X12_without_J14 (p1 : Int32) (x3 : Int32) (m4 : Mm) : Option (Int32 × Mm) :=
  bnd (sI m4 0 0 x3) fun m5 => if ¬ (gI m5 0 0) = ((1)) then (bdI (f_X12_triesWithout (((1)) <<< (p1 &&& 31)) m5) fun x7 m6 => bdI (f_X12_tries  m6) fun x9 m8 => some (x7 - x9, m8)) else (some ((0), m5))
noncomputable def f_X12_without (p1 : Int32) (mem : Mm) : Option (Int32 × Mm) :=
  bdI (f_X12_isPasser p1 mem) fun x2 m1 => if x2 = 0 then (f_X12_without_J14 p1 ((1)) m1) else (f_X12_without_J14 p1 ((0)) m1)
theorem dd_X12_without : yX12_without.cls = RX12 ∧ yX12_without.cls ≠ "java/lang/invoke/MethodHandle" ∧ yX12_without.cls ≠ "java/lang/invoke/VarHandle" ∧ (parseMethodDescriptor yX12_without.desc).map (fun d => d.parameters.length) = some 1 := by decide +kernel
set_option maxHeartbeats 4000000 in
set_option maxRecDepth 100000 in
theorem k_X12_without {l : Launch} {ad : Nat → Nat} {cy : Nat → ClassId} {dC : Nat → ClassId} {dI : Nat → Nat → Nat} {ks : (Nat → Nat) × (Nat → Nat)} {p1 : Int32} {mem : Mm} {r2 : Int32} {mem2 : Mm}  (h : f_X12_without p1 mem = some (r2, mem2)) : CtI l Lm ad cy dC dI ks yX12_without cX12_without 2 (some .int) ({ frames := 10, cells := 0, slots := 0, locals := 224 }) [.ref (ad (0)), .int (p1)] mem r2 mem2 := by
  refine CtI.of (cc := cX12_without) (maxL := 2) (ret := (some .int)) (own := RX12) rfl (by decide) (Nat.le_of_ble_eq_true rfl) ?_
  intro p e s m args below meth c A X
  have hts := X.2.2.2.2.1
  have hJ14 : ∀ (x3 : Int32) (m4 : Mm), f_X12_without_J14 p1 x3 m4 = some (r2, mem2) → Jd p l e ({ frames := 10, cells := 0, slots := 0, locals := 224 }) s m args below meth c 2 (MQ below (PsI Lm ad cy dC dI r2 mem2 A) args s 0 0 A) A dC dI cy Lm ad m4 14 [(0, .ref (ad (0))), (1, .int (p1))] [.int (x3), .ref (ad (0))] := by
    intro x3 m4 h
    unfold f_X12_without_J14 at h
    refine r_putI X (k := 0) (Lm_N Lmk_0 rfl) Lmk_0 rfl (by decide) ui_12 (by decide) uw5_220 tyX12_ok nmX12 rfl rfl rfl dX12_without_14 ?_
    refine r_nmM h (fun m5 h => ?_)
    refine r_aload_n X dX12_without_17 rfl 0 rfl ?_
    refine r_getI X (k := 0) (Lm_N Lmk_0 rfl) Lmk_0 rfl (by decide) ui_12 (by decide) uw5_220 rfl dX12_without_18 ?_
    refine r_iconst (v := (1)) X dX12_without_21 (by decide) ?_
    refine r_icmp_ne (tgt := 29) X dX12_without_22 (by decide) h (fun h => ?_) (fun h => ?_)
    · refine r_aload_n X dX12_without_29 rfl 0 rfl ?_
      refine r_iconst (v := (1)) X dX12_without_30 (by decide) ?_
      refine r_iload_n X dX12_without_31 rfl 1 rfl ?_
      refine r_ishl X dX12_without_32 ?_
      refine r_cVI (As := [.int (((1)) <<< (p1 &&& 31))]) (rest := []) X (fun r9 m9 hg => k_X12_triesWithout hg) h (Lm_N Lmk_0 rfl) Lmk_0 rfl (by decide) uw8_64 uw8_66 us7_5 uw1_13 uw8_67 rfl rfl dd_X12_triesWithout ⟨Nat.le_of_ble_eq_true rfl, Nat.le_of_ble_eq_true rfl⟩ rfl (Nat.le_of_ble_eq_true rfl) dX12_without_33 rfl (fun x7 m6 h => ?_)
      refine r_aload_n X dX12_without_36 rfl 0 rfl ?_
      refine r_cVI (As := []) (rest := [.int (x7)]) X (fun r9 m9 hg => k_X12_tries hg) h (Lm_N Lmk_0 rfl) Lmk_0 rfl (by decide) uw7_138 uw7_140 us5_13 uw1_13 uw7_141 rfl rfl dd_X12_tries ⟨Nat.le_of_ble_eq_true rfl, Nat.le_of_ble_eq_true rfl⟩ rfl (Nat.le_of_ble_eq_true rfl) dX12_without_37 rfl (fun x9 m8 h => ?_)
      refine r_isub X dX12_without_40 ?_
      exact r_iret2 X rfl dX12_without_41 h
    · refine r_iconst (v := (0)) X dX12_without_25 (by decide) ?_
      refine r_goto (tgt := 41) X dX12_without_26 (by decide) ?_
      exact r_iret2 X rfl dX12_without_41 h
  unfold f_X12_without at h
  refine r_aload_n X dX12_without_0 rfl 0 rfl ?_
  refine r_aload_n X dX12_without_1 rfl 0 rfl ?_
  refine r_iload_n X dX12_without_2 rfl 1 rfl ?_
  refine r_cVI (As := [.int (p1)]) (rest := [.ref (ad (0))]) X (fun r9 m9 hg => k_X12_isPasser hg) h (Lm_N Lmk_0 rfl) Lmk_0 rfl (by decide) uw7_113 uw7_115 us5_10 uw1_13 uw7_116 rfl rfl dd_X12_isPasser ⟨Nat.le_of_ble_eq_true rfl, Nat.le_of_ble_eq_true rfl⟩ rfl (Nat.le_of_ble_eq_true rfl) dX12_without_3 rfl (fun x2 m1 h => ?_)
  refine r_if_eq (tgt := 13) X dX12_without_6 (by decide) h (fun h => ?_) (fun h => ?_)
  · refine r_iconst (v := (1)) X dX12_without_13 (by decide) ?_
    exact r_sub [0, 1] rfl (hJ14 ((1)) m1 h)
  · refine r_iconst (v := (0)) X dX12_without_9 (by decide) ?_
    refine r_goto (tgt := 14) X dX12_without_10 (by decide) ?_
    exact r_sub [0, 1] rfl (hJ14 ((0)) m1 h)
noncomputable def f_X12_rarer_J62 (p1 : Int32) (k24 : Int32 → Int32 → Mm → Option (Int32 × Mm)) (x16 : Int32) (x17 : Int32) (m18 : Mm) : Option (Int32 × Mm) :=
  bnd (x17 + (1)) fun x19 => k24 x16 x19 m18
noncomputable def f_X12_rarer_J51 (p1 : Int32) (k24 : Int32 → Int32 → Mm → Option (Int32 × Mm)) (x11 : Int32) (x12 : Int32) (m13 : Mm) : Option (Int32 × Mm) :=
  bdI (f_X12_triesWithout x12 m13) fun x15 m14 => if x15 < p1 then (f_X12_rarer_J62 p1 k24 x11 x12 m14) else (f_X12_rarer_J62 p1 k24 x12 x12 m14)
noncomputable def f_X12_rarer_B24 (p1 : Int32) (k24 : Int32 → Int32 → Mm → Option (Int32 × Mm)) (x4 : Int32) (x5 : Int32) (m6 : Mm) : Option (Int32 × Mm) :=
  if (((1)) <<< ((gI m6 2 1) &&& 31)) ≤ x5 then (some (x4, m6)) else (if x4 < 0 then (f_X12_rarer_J51 p1 k24 x4 x5 m6) else (bdI (f_X12_bits x5 m6) fun x8 m7 => bdI (f_X12_bits x4 m7) fun x10 m9 => if x10 ≤ x8 then (f_X12_rarer_J62 p1 k24 x4 x5 m9) else (f_X12_rarer_J51 p1 k24 x4 x5 m9)))
noncomputable def f_X12_rarer (p1 : Int32) (mem : Mm) : Option (Int32 × Mm) :=
  bnd (sI mem 0 0 ((0))) fun m1 => bdI (f_X12_within p1 ((-9999)) ((9999)) m1) fun x3 m2 => if ¬ x3 = 0 then (lop (fun _ _ _ => none) (f_X12_rarer_B24 p1 ) 4000 ((-1)) ((0)) m2) else (some ((-1), m2))
theorem dd_X12_rarer : yX12_rarer.cls = RX12 ∧ yX12_rarer.cls ≠ "java/lang/invoke/MethodHandle" ∧ yX12_rarer.cls ≠ "java/lang/invoke/VarHandle" ∧ (parseMethodDescriptor yX12_rarer.desc).map (fun d => d.parameters.length) = some 1 := by decide +kernel
set_option maxHeartbeats 4000000 in
set_option maxRecDepth 100000 in
theorem k_X12_rarer {l : Launch} {ad : Nat → Nat} {cy : Nat → ClassId} {dC : Nat → ClassId} {dI : Nat → Nat → Nat} {ks : (Nat → Nat) × (Nat → Nat)} {p1 : Int32} {mem : Mm} {r2 : Int32} {mem2 : Mm}  (h : f_X12_rarer p1 mem = some (r2, mem2)) : CtI l Lm ad cy dC dI ks yX12_rarer cX12_rarer 4 (some .int) ({ frames := 10, cells := 0, slots := 0, locals := 224 }) [.ref (ad (0)), .int (p1)] mem r2 mem2 := by
  refine CtI.of (cc := cX12_rarer) (maxL := 4) (ret := (some .int)) (own := RX12) rfl (by decide) (Nat.le_of_ble_eq_true rfl) ?_
  intro p e s m args below meth c A X
  have hts := X.2.2.2.2.1
  have hJ62 : ∀ (k24 : Int32 → Int32 → Mm → Option (Int32 × Mm)) (hk24 : ∀ (x4 : Int32) (x5 : Int32) (m6 : Mm), k24 x4 x5 m6 = some (r2, mem2) → Jd p l e ({ frames := 10, cells := 0, slots := 0, locals := 224 }) s m args below meth c 4 (MQ below (PsI Lm ad cy dC dI r2 mem2 A) args s 0 0 A) A dC dI cy Lm ad m6 24 [(0, .ref (ad (0))), (1, .int (p1)), (2, .int (x4)), (3, .int (x5))] []) (x16 : Int32) (x17 : Int32) (m18 : Mm), f_X12_rarer_J62 p1 k24 x16 x17 m18 = some (r2, mem2) → Jd p l e ({ frames := 10, cells := 0, slots := 0, locals := 224 }) s m args below meth c 4 (MQ below (PsI Lm ad cy dC dI r2 mem2 A) args s 0 0 A) A dC dI cy Lm ad m18 62 [(0, .ref (ad (0))), (1, .int (p1)), (2, .int (x16)), (3, .int (x17))] [] := by
    intro k24 hk24 x16 x17 m18 h
    unfold f_X12_rarer_J62 at h
    refine r_inc h (fun x19 e9 h => ?_)
    refine r_iinc (v := x19) (lv2 := [(3, .int (x19)), (0, .ref (ad (0))), (1, .int (p1)), (2, .int (x16))]) X dX12_rarer_62 3 rfl (by rw [e9]; rfl) (by decide) rfl ?_
    refine r_goto (tgt := 24) X dX12_rarer_65 (by decide) ?_
    exact r_sub [1, 2, 3, 0] rfl (hk24 x16 x19 m18 h)
  have hJ51 : ∀ (k24 : Int32 → Int32 → Mm → Option (Int32 × Mm)) (hk24 : ∀ (x4 : Int32) (x5 : Int32) (m6 : Mm), k24 x4 x5 m6 = some (r2, mem2) → Jd p l e ({ frames := 10, cells := 0, slots := 0, locals := 224 }) s m args below meth c 4 (MQ below (PsI Lm ad cy dC dI r2 mem2 A) args s 0 0 A) A dC dI cy Lm ad m6 24 [(0, .ref (ad (0))), (1, .int (p1)), (2, .int (x4)), (3, .int (x5))] []) (x11 : Int32) (x12 : Int32) (m13 : Mm), f_X12_rarer_J51 p1 k24 x11 x12 m13 = some (r2, mem2) → Jd p l e ({ frames := 10, cells := 0, slots := 0, locals := 224 }) s m args below meth c 4 (MQ below (PsI Lm ad cy dC dI r2 mem2 A) args s 0 0 A) A dC dI cy Lm ad m13 51 [(0, .ref (ad (0))), (1, .int (p1)), (2, .int (x11)), (3, .int (x12))] [] := by
    intro k24 hk24 x11 x12 m13 h
    unfold f_X12_rarer_J51 at h
    refine r_aload_n X dX12_rarer_51 rfl 0 rfl ?_
    refine r_iload_n X dX12_rarer_52 rfl 3 rfl ?_
    refine r_cVI (As := [.int (x12)]) (rest := []) X (fun r9 m9 hg => k_X12_triesWithout hg) h (Lm_N Lmk_0 rfl) Lmk_0 rfl (by decide) uw8_64 uw8_66 us7_5 uw1_13 uw8_67 rfl rfl dd_X12_triesWithout ⟨Nat.le_of_ble_eq_true rfl, Nat.le_of_ble_eq_true rfl⟩ rfl (Nat.le_of_ble_eq_true rfl) dX12_rarer_53 rfl (fun x15 m14 h => ?_)
    refine r_iload_n X dX12_rarer_56 rfl 1 rfl ?_
    refine r_icmp_lt (tgt := 62) X dX12_rarer_57 (by decide) h (fun h => ?_) (fun h => ?_)
    · exact r_sub [0, 1, 2, 3] rfl (hJ62 k24 hk24 x11 x12 m14 h)
    · refine r_iload_n X dX12_rarer_60 rfl 3 rfl ?_
      refine r_istore_n (lv2 := [(2, .int (x12)), (0, .ref (ad (0))), (1, .int (p1)), (3, .int (x12))]) X dX12_rarer_61 rfl (by decide) rfl ?_
      exact r_sub [1, 2, 0, 3] rfl (hJ62 k24 hk24 x12 x12 m14 h)
  have hJ24 : ∀ (k24 : Int32 → Int32 → Mm → Option (Int32 × Mm)) (hk24 : ∀ (x4 : Int32) (x5 : Int32) (m6 : Mm), k24 x4 x5 m6 = some (r2, mem2) → Jd p l e ({ frames := 10, cells := 0, slots := 0, locals := 224 }) s m args below meth c 4 (MQ below (PsI Lm ad cy dC dI r2 mem2 A) args s 0 0 A) A dC dI cy Lm ad m6 24 [(0, .ref (ad (0))), (1, .int (p1)), (2, .int (x4)), (3, .int (x5))] []) (x4 : Int32) (x5 : Int32) (m6 : Mm), f_X12_rarer_B24 p1 k24 x4 x5 m6 = some (r2, mem2) → Jd p l e ({ frames := 10, cells := 0, slots := 0, locals := 224 }) s m args below meth c 4 (MQ below (PsI Lm ad cy dC dI r2 mem2 A) args s 0 0 A) A dC dI cy Lm ad m6 24 [(0, .ref (ad (0))), (1, .int (p1)), (2, .int (x4)), (3, .int (x5))] [] := by
    intro k24 hk24 x4 x5 m6 h
    unfold f_X12_rarer_B24 at h
    refine r_iload_n X dX12_rarer_24 rfl 3 rfl ?_
    refine r_iconst (v := (1)) X dX12_rarer_25 (by decide) ?_
    refine r_aload_n X dX12_rarer_26 rfl 0 rfl ?_
    refine r_getF X (k := 10) (of := 2) rfl (Lm_N Lmk_0 rfl) Lmk_0 rfl (by decide) ui_12 (by decide) uw5_230 rfl dX12_rarer_27 ?_
    refine r_iconst (v := (1)) X dX12_rarer_30 (by decide) ?_
    refine r_iald X (Lm_N Lmk_2 rfl) Lmk_2 (g_in rfl h) dX12_rarer_31 (fun h => ?_)
    refine r_ishl X dX12_rarer_32 ?_
    refine r_icmp_ge (tgt := 68) X dX12_rarer_33 (by decide) h (fun h => ?_) (fun h => ?_)
    · refine r_iload_n X dX12_rarer_68 rfl 2 rfl ?_
      exact r_iret2 X rfl dX12_rarer_69 h
    · refine r_iload_n X dX12_rarer_36 rfl 2 rfl ?_
      refine r_if_lt (tgt := 51) X dX12_rarer_37 (by decide) h (fun h => ?_) (fun h => ?_)
      · exact r_sub [0, 1, 2, 3] rfl (hJ51 k24 hk24 x4 x5 m6 h)
      · refine r_iload_n X dX12_rarer_40 rfl 3 rfl ?_
        refine r_cSI (As := [.int (x5)]) (rest := []) X (fun r9 m9 hg => k_X12_bits hg) h uw8_72 uw8_73 uw1_13 uw8_74 rfl rfl dd_X12_bits ⟨Nat.le_of_ble_eq_true rfl, Nat.le_of_ble_eq_true rfl⟩ rfl (Nat.le_of_ble_eq_true rfl) dX12_rarer_41 rfl (fun x8 m7 h => ?_)
        refine r_iload_n X dX12_rarer_44 rfl 2 rfl ?_
        refine r_cSI (As := [.int (x4)]) (rest := [.int (x8)]) X (fun r9 m9 hg => k_X12_bits hg) h uw8_72 uw8_73 uw1_13 uw8_74 rfl rfl dd_X12_bits ⟨Nat.le_of_ble_eq_true rfl, Nat.le_of_ble_eq_true rfl⟩ rfl (Nat.le_of_ble_eq_true rfl) dX12_rarer_45 rfl (fun x10 m9 h => ?_)
        refine r_icmp_ge (tgt := 62) X dX12_rarer_48 (by decide) h (fun h => ?_) (fun h => ?_)
        · exact r_sub [0, 1, 2, 3] rfl (hJ62 k24 hk24 x4 x5 m9 h)
        · exact r_sub [0, 1, 2, 3] rfl (hJ51 k24 hk24 x4 x5 m9 h)
  have hL24 : ∀ (n : Nat), ∀ (x4 : Int32) (x5 : Int32) (m6 : Mm), lop (fun _ _ _ => none) (f_X12_rarer_B24 p1 ) n x4 x5 m6 = some (r2, mem2) → Jd p l e ({ frames := 10, cells := 0, slots := 0, locals := 224 }) s m args below meth c 4 (MQ below (PsI Lm ad cy dC dI r2 mem2 A) args s 0 0 A) A dC dI cy Lm ad m6 24 [(0, .ref (ad (0))), (1, .int (p1)), (2, .int (x4)), (3, .int (x5))] [] := by
    intro  n
    induction n with
    | zero => intro _ _ _ h; cases h
    | succ n ih => intro a0 a1 a2 h; exact hJ24  _ ih a0 a1 a2 h
  unfold f_X12_rarer at h
  refine r_aload_n X dX12_rarer_0 rfl 0 rfl ?_
  refine r_iconst (v := (0)) X dX12_rarer_1 (by decide) ?_
  refine r_putI X (k := 0) (Lm_N Lmk_0 rfl) Lmk_0 rfl (by decide) ui_12 (by decide) uw5_220 tyX12_ok nmX12 rfl rfl rfl dX12_rarer_2 ?_
  refine r_nmM h (fun m1 h => ?_)
  refine r_iload_n X dX12_rarer_5 rfl 1 rfl ?_
  refine r_sipush (v := (-9999)) X dX12_rarer_6 (by decide) ?_
  refine r_sipush (v := (9999)) X dX12_rarer_9 (by decide) ?_
  refine r_cSI (As := [.int (p1), .int ((-9999)), .int ((9999))]) (rest := []) X (fun r9 m9 hg => k_X12_within hg) h uw7_49 uw7_50 uw1_13 uw7_51 rfl rfl dd_X12_within ⟨Nat.le_of_ble_eq_true rfl, Nat.le_of_ble_eq_true rfl⟩ rfl (Nat.le_of_ble_eq_true rfl) dX12_rarer_12 rfl (fun x3 m2 h => ?_)
  refine r_if_ne (tgt := 20) X dX12_rarer_15 (by decide) h (fun h => ?_) (fun h => ?_)
  · refine r_iconst (v := (-1)) X dX12_rarer_20 (by decide) ?_
    refine r_istore_n (lv2 := [(2, .int ((-1))), (0, .ref (ad (0))), (1, .int (p1))]) X dX12_rarer_21 rfl (by decide) rfl ?_
    refine r_iconst (v := (0)) X dX12_rarer_22 (by decide) ?_
    refine r_istore_n (lv2 := [(3, .int ((0))), (2, .int ((-1))), (0, .ref (ad (0))), (1, .int (p1))]) X dX12_rarer_23 rfl (by decide) rfl ?_
    exact r_sub [2, 3, 1, 0] rfl (hL24 4000 ((-1)) ((0)) m2 h)
  · refine r_iconst (v := (-1)) X dX12_rarer_18 (by decide) ?_
    exact r_iret2 X rfl dX12_rarer_19 h
noncomputable def f_X12_dare_J48 (p1 : Int32) (k21 : Int32 → Int32 → Mm → Option (Int32 × Mm)) (x9 : Int32) (x10 : Int32) (x11 : Int32) (m12 : Mm) : Option (Int32 × Mm) :=
  bnd (x11 ||| x10) fun x13 => bnd (x9 + (1)) fun x14 => k21 x13 x14 m12
noncomputable def f_X12_dare_B21 (p1 : Int32) (k21 : Int32 → Int32 → Mm → Option (Int32 × Mm)) (x4 : Int32) (x5 : Int32) (m6 : Mm) : Option (Int32 × Mm) :=
  if (gI m6 2 1) ≤ x5 then (some (x4, m6)) else (bdI (f_X12_wouldDare x5 p1 m6) fun x8 m7 => if x8 = 0 then (f_X12_dare_J48 p1 k21 x5 ((0)) x4 m7) else (f_X12_dare_J48 p1 k21 x5 (((1)) <<< (x5 &&& 31)) x4 m7))
noncomputable def f_X12_dare (p1 : Int32) (mem : Mm) : Option (Int32 × Mm) :=
  bnd (sI mem 0 0 ((0))) fun m1 => bdI (f_X12_within p1 ((0)) ((9)) m1) fun x3 m2 => if ¬ x3 = 0 then (lop (fun _ _ _ => none) (f_X12_dare_B21 p1 ) 4000 ((0)) ((0)) m2) else (some ((-1), m2))
theorem dd_X12_dare : yX12_dare.cls = RX12 ∧ yX12_dare.cls ≠ "java/lang/invoke/MethodHandle" ∧ yX12_dare.cls ≠ "java/lang/invoke/VarHandle" ∧ (parseMethodDescriptor yX12_dare.desc).map (fun d => d.parameters.length) = some 1 := by decide +kernel
set_option maxHeartbeats 4000000 in
set_option maxRecDepth 100000 in
theorem k_X12_dare {l : Launch} {ad : Nat → Nat} {cy : Nat → ClassId} {dC : Nat → ClassId} {dI : Nat → Nat → Nat} {ks : (Nat → Nat) × (Nat → Nat)} {p1 : Int32} {mem : Mm} {r2 : Int32} {mem2 : Mm}  (h : f_X12_dare p1 mem = some (r2, mem2)) : CtI l Lm ad cy dC dI ks yX12_dare cX12_dare 4 (some .int) ({ frames := 1, cells := 0, slots := 0, locals := 22 }) [.ref (ad (0)), .int (p1)] mem r2 mem2 := by
  refine CtI.of (cc := cX12_dare) (maxL := 4) (ret := (some .int)) (own := RX12) rfl (by decide) (Nat.le_of_ble_eq_true rfl) ?_
  intro p e s m args below meth c A X
  have hts := X.2.2.2.2.1
  have hJ48 : ∀ (k21 : Int32 → Int32 → Mm → Option (Int32 × Mm)) (hk21 : ∀ (x4 : Int32) (x5 : Int32) (m6 : Mm), k21 x4 x5 m6 = some (r2, mem2) → Jd p l e ({ frames := 1, cells := 0, slots := 0, locals := 22 }) s m args below meth c 4 (MQ below (PsI Lm ad cy dC dI r2 mem2 A) args s 0 0 A) A dC dI cy Lm ad m6 21 [(0, .ref (ad (0))), (1, .int (p1)), (2, .int (x4)), (3, .int (x5))] []) (x9 : Int32) (x10 : Int32) (x11 : Int32) (m12 : Mm), f_X12_dare_J48 p1 k21 x9 x10 x11 m12 = some (r2, mem2) → Jd p l e ({ frames := 1, cells := 0, slots := 0, locals := 22 }) s m args below meth c 4 (MQ below (PsI Lm ad cy dC dI r2 mem2 A) args s 0 0 A) A dC dI cy Lm ad m12 48 [(0, .ref (ad (0))), (1, .int (p1)), (3, .int (x9))] [.int (x10), .int (x11)] := by
    intro k21 hk21 x9 x10 x11 m12 h
    unfold f_X12_dare_J48 at h
    refine r_ior X dX12_dare_48 ?_
    refine r_nmI h (fun x13 h => ?_)
    refine r_istore_n (lv2 := [(2, .int (x13)), (0, .ref (ad (0))), (1, .int (p1)), (3, .int (x9))]) X dX12_dare_49 rfl (by decide) rfl ?_
    refine r_inc h (fun x14 e9 h => ?_)
    refine r_iinc (v := x14) (lv2 := [(3, .int (x14)), (2, .int (x13)), (0, .ref (ad (0))), (1, .int (p1))]) X dX12_dare_50 3 rfl (by rw [e9]; rfl) (by decide) rfl ?_
    refine r_goto (tgt := 21) X dX12_dare_53 (by decide) ?_
    exact r_sub [2, 3, 1, 0] rfl (hk21 x13 x14 m12 h)
  have hJ21 : ∀ (k21 : Int32 → Int32 → Mm → Option (Int32 × Mm)) (hk21 : ∀ (x4 : Int32) (x5 : Int32) (m6 : Mm), k21 x4 x5 m6 = some (r2, mem2) → Jd p l e ({ frames := 1, cells := 0, slots := 0, locals := 22 }) s m args below meth c 4 (MQ below (PsI Lm ad cy dC dI r2 mem2 A) args s 0 0 A) A dC dI cy Lm ad m6 21 [(0, .ref (ad (0))), (1, .int (p1)), (2, .int (x4)), (3, .int (x5))] []) (x4 : Int32) (x5 : Int32) (m6 : Mm), f_X12_dare_B21 p1 k21 x4 x5 m6 = some (r2, mem2) → Jd p l e ({ frames := 1, cells := 0, slots := 0, locals := 22 }) s m args below meth c 4 (MQ below (PsI Lm ad cy dC dI r2 mem2 A) args s 0 0 A) A dC dI cy Lm ad m6 21 [(0, .ref (ad (0))), (1, .int (p1)), (2, .int (x4)), (3, .int (x5))] [] := by
    intro k21 hk21 x4 x5 m6 h
    unfold f_X12_dare_B21 at h
    refine r_iload_n X dX12_dare_21 rfl 3 rfl ?_
    refine r_aload_n X dX12_dare_22 rfl 0 rfl ?_
    refine r_getF X (k := 10) (of := 2) rfl (Lm_N Lmk_0 rfl) Lmk_0 rfl (by decide) ui_12 (by decide) uw5_230 rfl dX12_dare_23 ?_
    refine r_iconst (v := (1)) X dX12_dare_26 (by decide) ?_
    refine r_iald X (Lm_N Lmk_2 rfl) Lmk_2 (g_in rfl h) dX12_dare_27 (fun h => ?_)
    refine r_icmp_ge (tgt := 56) X dX12_dare_28 (by decide) h (fun h => ?_) (fun h => ?_)
    · refine r_iload_n X dX12_dare_56 rfl 2 rfl ?_
      exact r_iret2 X rfl dX12_dare_57 h
    · refine r_iload_n X dX12_dare_31 rfl 2 rfl ?_
      refine r_aload_n X dX12_dare_32 rfl 0 rfl ?_
      refine r_iload_n X dX12_dare_33 rfl 3 rfl ?_
      refine r_iload_n X dX12_dare_34 rfl 1 rfl ?_
      refine r_cVI (As := [.int (x5), .int (p1)]) (rest := [.int (x4)]) X (fun r9 m9 hg => k_X12_wouldDare hg) h (Lm_N Lmk_0 rfl) Lmk_0 rfl (by decide) uw7_169 uw7_171 us6_4 uw1_13 uw7_172 rfl rfl dd_X12_wouldDare ⟨Nat.le_of_ble_eq_true rfl, Nat.le_of_ble_eq_true rfl⟩ rfl (Nat.le_of_ble_eq_true rfl) dX12_dare_35 rfl (fun x8 m7 h => ?_)
      refine r_if_eq (tgt := 47) X dX12_dare_38 (by decide) h (fun h => ?_) (fun h => ?_)
      · refine r_iconst (v := (0)) X dX12_dare_47 (by decide) ?_
        exact r_sub [0, 1, 3] rfl (hJ48 k21 hk21 x5 ((0)) x4 m7 h)
      · refine r_iconst (v := (1)) X dX12_dare_41 (by decide) ?_
        refine r_iload_n X dX12_dare_42 rfl 3 rfl ?_
        refine r_ishl X dX12_dare_43 ?_
        refine r_goto (tgt := 48) X dX12_dare_44 (by decide) ?_
        exact r_sub [0, 1, 3] rfl (hJ48 k21 hk21 x5 (((1)) <<< (x5 &&& 31)) x4 m7 h)
  have hL21 : ∀ (n : Nat), ∀ (x4 : Int32) (x5 : Int32) (m6 : Mm), lop (fun _ _ _ => none) (f_X12_dare_B21 p1 ) n x4 x5 m6 = some (r2, mem2) → Jd p l e ({ frames := 1, cells := 0, slots := 0, locals := 22 }) s m args below meth c 4 (MQ below (PsI Lm ad cy dC dI r2 mem2 A) args s 0 0 A) A dC dI cy Lm ad m6 21 [(0, .ref (ad (0))), (1, .int (p1)), (2, .int (x4)), (3, .int (x5))] [] := by
    intro  n
    induction n with
    | zero => intro _ _ _ h; cases h
    | succ n ih => intro a0 a1 a2 h; exact hJ21  _ ih a0 a1 a2 h
  unfold f_X12_dare at h
  refine r_aload_n X dX12_dare_0 rfl 0 rfl ?_
  refine r_iconst (v := (0)) X dX12_dare_1 (by decide) ?_
  refine r_putI X (k := 0) (Lm_N Lmk_0 rfl) Lmk_0 rfl (by decide) ui_12 (by decide) uw5_220 tyX12_ok nmX12 rfl rfl rfl dX12_dare_2 ?_
  refine r_nmM h (fun m1 h => ?_)
  refine r_iload_n X dX12_dare_5 rfl 1 rfl ?_
  refine r_iconst (v := (0)) X dX12_dare_6 (by decide) ?_
  refine r_bipush (v := (9)) X dX12_dare_7 (by decide) ?_
  refine r_cSI (As := [.int (p1), .int ((0)), .int ((9))]) (rest := []) X (fun r9 m9 hg => k_X12_within hg) h uw7_49 uw7_50 uw1_13 uw7_51 rfl rfl dd_X12_within ⟨Nat.le_of_ble_eq_true rfl, Nat.le_of_ble_eq_true rfl⟩ rfl (Nat.le_of_ble_eq_true rfl) dX12_dare_9 rfl (fun x3 m2 h => ?_)
  refine r_if_ne (tgt := 17) X dX12_dare_12 (by decide) h (fun h => ?_) (fun h => ?_)
  · refine r_iconst (v := (0)) X dX12_dare_17 (by decide) ?_
    refine r_istore_n (lv2 := [(2, .int ((0))), (0, .ref (ad (0))), (1, .int (p1))]) X dX12_dare_18 rfl (by decide) rfl ?_
    refine r_iconst (v := (0)) X dX12_dare_19 (by decide) ?_
    refine r_istore_n (lv2 := [(3, .int ((0))), (2, .int ((0))), (0, .ref (ad (0))), (1, .int (p1))]) X dX12_dare_20 rfl (by decide) rfl ?_
    exact r_sub [2, 3, 1, 0] rfl (hL21 4000 ((0)) ((0)) m2 h)
  · refine r_iconst (v := (-1)) X dX12_dare_15 (by decide) ?_
    exact r_iret2 X rfl dX12_dare_16 h
noncomputable def f_X12_strikes (p1 : Int32) (p2 : Int32) (mem : Mm) : Option (Int32 × Mm) :=
  bnd (sI mem 0 0 ((0))) fun m1 => bdI (f_X12_isPasser p1 m1) fun x3 m2 => if x3 = 0 then (some ((-1), m2)) else (bdI (f_X12_isKey p2 m2) fun x5 m4 => if x5 = 0 then (some ((-1), m4)) else (bdI (f_X12_strikesOf p1 p2 m4) fun x7 m6 => some (x7, m6)))
theorem dd_X12_strikes : yX12_strikes.cls = RX12 ∧ yX12_strikes.cls ≠ "java/lang/invoke/MethodHandle" ∧ yX12_strikes.cls ≠ "java/lang/invoke/VarHandle" ∧ (parseMethodDescriptor yX12_strikes.desc).map (fun d => d.parameters.length) = some 2 := by decide +kernel
set_option maxHeartbeats 4000000 in
set_option maxRecDepth 100000 in
theorem k_X12_strikes {l : Launch} {ad : Nat → Nat} {cy : Nat → ClassId} {dC : Nat → ClassId} {dI : Nat → Nat → Nat} {ks : (Nat → Nat) × (Nat → Nat)} {p1 : Int32} {p2 : Int32} {mem : Mm} {r2 : Int32} {mem2 : Mm}  (h : f_X12_strikes p1 p2 mem = some (r2, mem2)) : CtI l Lm ad cy dC dI ks yX12_strikes cX12_strikes 3 (some .int) ({ frames := 4, cells := 0, slots := 0, locals := 89 }) [.ref (ad (0)), .int (p1), .int (p2)] mem r2 mem2 := by
  refine CtI.of (cc := cX12_strikes) (maxL := 3) (ret := (some .int)) (own := RX12) rfl (by decide) (Nat.le_of_ble_eq_true rfl) ?_
  intro p e s m args below meth c A X
  have hts := X.2.2.2.2.1
  unfold f_X12_strikes at h
  refine r_aload_n X dX12_strikes_0 rfl 0 rfl ?_
  refine r_iconst (v := (0)) X dX12_strikes_1 (by decide) ?_
  refine r_putI X (k := 0) (Lm_N Lmk_0 rfl) Lmk_0 rfl (by decide) ui_12 (by decide) uw5_220 tyX12_ok nmX12 rfl rfl rfl dX12_strikes_2 ?_
  refine r_nmM h (fun m1 h => ?_)
  refine r_aload_n X dX12_strikes_5 rfl 0 rfl ?_
  refine r_iload_n X dX12_strikes_6 rfl 1 rfl ?_
  refine r_cVI (As := [.int (p1)]) (rest := []) X (fun r9 m9 hg => k_X12_isPasser hg) h (Lm_N Lmk_0 rfl) Lmk_0 rfl (by decide) uw7_113 uw7_115 us5_10 uw1_13 uw7_116 rfl rfl dd_X12_isPasser ⟨Nat.le_of_ble_eq_true rfl, Nat.le_of_ble_eq_true rfl⟩ rfl (Nat.le_of_ble_eq_true rfl) dX12_strikes_7 rfl (fun x3 m2 h => ?_)
  refine r_if_eq (tgt := 30) X dX12_strikes_10 (by decide) h (fun h => ?_) (fun h => ?_)
  · refine r_iconst (v := (-1)) X dX12_strikes_30 (by decide) ?_
    exact r_iret2 X rfl dX12_strikes_31 h
  · refine r_aload_n X dX12_strikes_13 rfl 0 rfl ?_
    refine r_iload_n X dX12_strikes_14 rfl 2 rfl ?_
    refine r_cVI (As := [.int (p2)]) (rest := []) X (fun r9 m9 hg => k_X12_isKey hg) h (Lm_N Lmk_0 rfl) Lmk_0 rfl (by decide) uw7_130 uw7_132 us5_12 uw1_13 uw7_133 rfl rfl dd_X12_isKey ⟨Nat.le_of_ble_eq_true rfl, Nat.le_of_ble_eq_true rfl⟩ rfl (Nat.le_of_ble_eq_true rfl) dX12_strikes_15 rfl (fun x5 m4 h => ?_)
    refine r_if_eq (tgt := 30) X dX12_strikes_18 (by decide) h (fun h => ?_) (fun h => ?_)
    · refine r_iconst (v := (-1)) X dX12_strikes_30 (by decide) ?_
      exact r_iret2 X rfl dX12_strikes_31 h
    · refine r_aload_n X dX12_strikes_21 rfl 0 rfl ?_
      refine r_iload_n X dX12_strikes_22 rfl 1 rfl ?_
      refine r_iload_n X dX12_strikes_23 rfl 2 rfl ?_
      refine r_cVI (As := [.int (p1), .int (p2)]) (rest := []) X (fun r9 m9 hg => k_X12_strikesOf hg) h (Lm_N Lmk_0 rfl) Lmk_0 rfl (by decide) uw8_83 uw8_85 us7_6 uw1_13 uw8_86 rfl rfl dd_X12_strikesOf ⟨Nat.le_of_ble_eq_true rfl, Nat.le_of_ble_eq_true rfl⟩ rfl (Nat.le_of_ble_eq_true rfl) dX12_strikes_24 rfl (fun x7 m6 h => ?_)
      refine r_goto (tgt := 31) X dX12_strikes_27 (by decide) ?_
      exact r_iret2 X rfl dX12_strikes_31 h
noncomputable def f_X12_find (p1 : Int32) (p2 : Int32) (mem : Mm) : Option (Int32 × Mm) :=
  bnd (sI mem 0 0 ((0))) fun m1 => bdI (f_X12_isKey p1 m1) fun x3 m2 => if x3 = 0 then (grd (bok ((0))) (some ((0), m2))) else (bdI (f_X12_within p2 ((0)) ((9)) m2) fun x5 m4 => if x5 = 0 then (grd (bok ((0))) (some ((0), m4))) else (if ¬ (gI m4 32 0) = ((8)) then (grd (inb (gI m4 32 0) 40) (bnd (sI m4 33 (gI m4 32 0).toNatClampNeg p1) fun m6 => grd (inb (gI m6 32 0) 40) (bnd (sI m6 34 (gI m6 32 0).toNatClampNeg p2) fun m7 => bnd (sI m7 32 0 ((gI m7 32 0) + ((1)))) fun m8 => grd (bok ((1))) (some ((1), m8))))) else (grd (bok ((0))) (some ((0), m4)))))
theorem dd_X12_find : yX12_find.cls = RX12 ∧ yX12_find.cls ≠ "java/lang/invoke/MethodHandle" ∧ yX12_find.cls ≠ "java/lang/invoke/VarHandle" ∧ (parseMethodDescriptor yX12_find.desc).map (fun d => d.parameters.length) = some 2 := by decide +kernel
set_option maxHeartbeats 4000000 in
set_option maxRecDepth 100000 in
theorem k_X12_find {l : Launch} {ad : Nat → Nat} {cy : Nat → ClassId} {dC : Nat → ClassId} {dI : Nat → Nat → Nat} {ks : (Nat → Nat) × (Nat → Nat)} {p1 : Int32} {p2 : Int32} {mem : Mm} {r2 : Int32} {mem2 : Mm}  (h : f_X12_find p1 p2 mem = some (r2, mem2)) : CtI l Lm ad cy dC dI ks yX12_find cX12_find 3 (some .boolean) ({ frames := 1, cells := 0, slots := 0, locals := 22 }) [.ref (ad (0)), .int (p1), .int (p2)] mem r2 mem2 := by
  refine CtI.of (cc := cX12_find) (maxL := 3) (ret := (some .boolean)) (own := RX12) rfl (by decide) (Nat.le_of_ble_eq_true rfl) ?_
  intro p e s m args below meth c A X
  have hts := X.2.2.2.2.1
  unfold f_X12_find at h
  refine r_aload_n X dX12_find_0 rfl 0 rfl ?_
  refine r_iconst (v := (0)) X dX12_find_1 (by decide) ?_
  refine r_putI X (k := 0) (Lm_N Lmk_0 rfl) Lmk_0 rfl (by decide) ui_12 (by decide) uw5_220 tyX12_ok nmX12 rfl rfl rfl dX12_find_2 ?_
  refine r_nmM h (fun m1 h => ?_)
  refine r_aload_n X dX12_find_5 rfl 0 rfl ?_
  refine r_iload_n X dX12_find_6 rfl 1 rfl ?_
  refine r_cVI (As := [.int (p1)]) (rest := []) X (fun r9 m9 hg => k_X12_isKey hg) h (Lm_N Lmk_0 rfl) Lmk_0 rfl (by decide) uw7_130 uw7_132 us5_12 uw1_13 uw7_133 rfl rfl dd_X12_isKey ⟨Nat.le_of_ble_eq_true rfl, Nat.le_of_ble_eq_true rfl⟩ rfl (Nat.le_of_ble_eq_true rfl) dX12_find_7 rfl (fun x3 m2 h => ?_)
  refine r_if_eq (tgt := 34) X dX12_find_10 (by decide) h (fun h => ?_) (fun h => ?_)
  · refine r_iconst (v := (0)) X dX12_find_34 (by decide) ?_
    exact r_zret2 X rfl dX12_find_35 h
  · refine r_iload_n X dX12_find_13 rfl 2 rfl ?_
    refine r_iconst (v := (0)) X dX12_find_14 (by decide) ?_
    refine r_bipush (v := (9)) X dX12_find_15 (by decide) ?_
    refine r_cSI (As := [.int (p2), .int ((0)), .int ((9))]) (rest := []) X (fun r9 m9 hg => k_X12_within hg) h uw7_49 uw7_50 uw1_13 uw7_51 rfl rfl dd_X12_within ⟨Nat.le_of_ble_eq_true rfl, Nat.le_of_ble_eq_true rfl⟩ rfl (Nat.le_of_ble_eq_true rfl) dX12_find_17 rfl (fun x5 m4 h => ?_)
    refine r_if_eq (tgt := 34) X dX12_find_20 (by decide) h (fun h => ?_) (fun h => ?_)
    · refine r_iconst (v := (0)) X dX12_find_34 (by decide) ?_
      exact r_zret2 X rfl dX12_find_35 h
    · refine r_aload_n X dX12_find_23 rfl 0 rfl ?_
      refine r_getF X (k := 46) (of := 32) rfl (Lm_N Lmk_0 rfl) Lmk_0 rfl (by decide) ui_12 (by decide) uw6_26 rfl dX12_find_24 ?_
      refine r_iconst (v := (0)) X dX12_find_27 (by decide) ?_
      refine r_iald X (Lm_N Lmk_32 rfl) Lmk_32 (g_in rfl h) dX12_find_28 (fun h => ?_)
      refine r_bipush (v := (8)) X dX12_find_29 (by decide) ?_
      refine r_icmp_ne (tgt := 36) X dX12_find_31 (by decide) h (fun h => ?_) (fun h => ?_)
      · refine r_aload_n X dX12_find_36 rfl 0 rfl ?_
        refine r_getF X (k := 47) (of := 33) rfl (Lm_N Lmk_0 rfl) Lmk_0 rfl (by decide) ui_12 (by decide) uw6_27 rfl dX12_find_37 ?_
        refine r_aload_n X dX12_find_40 rfl 0 rfl ?_
        refine r_getF X (k := 46) (of := 32) rfl (Lm_N Lmk_0 rfl) Lmk_0 rfl (by decide) ui_12 (by decide) uw6_26 rfl dX12_find_41 ?_
        refine r_iconst (v := (0)) X dX12_find_44 (by decide) ?_
        refine r_iald X (Lm_N Lmk_32 rfl) Lmk_32 (g_in rfl h) dX12_find_45 (fun h => ?_)
        refine r_iload_n X dX12_find_46 rfl 1 rfl ?_
        refine r_iast X (Lm_N Lmk_33 rfl) Lmk_33 h dX12_find_47 (fun h => ?_)
        refine r_nmM h (fun m6 h => ?_)
        refine r_aload_n X dX12_find_48 rfl 0 rfl ?_
        refine r_getF X (k := 48) (of := 34) rfl (Lm_N Lmk_0 rfl) Lmk_0 rfl (by decide) ui_12 (by decide) uw6_28 rfl dX12_find_49 ?_
        refine r_aload_n X dX12_find_52 rfl 0 rfl ?_
        refine r_getF X (k := 46) (of := 32) rfl (Lm_N Lmk_0 rfl) Lmk_0 rfl (by decide) ui_12 (by decide) uw6_26 rfl dX12_find_53 ?_
        refine r_iconst (v := (0)) X dX12_find_56 (by decide) ?_
        refine r_iald X (Lm_N Lmk_32 rfl) Lmk_32 (g_in rfl h) dX12_find_57 (fun h => ?_)
        refine r_iload_n X dX12_find_58 rfl 2 rfl ?_
        refine r_iast X (Lm_N Lmk_34 rfl) Lmk_34 h dX12_find_59 (fun h => ?_)
        refine r_nmM h (fun m7 h => ?_)
        refine r_aload_n X dX12_find_60 rfl 0 rfl ?_
        refine r_getF X (k := 46) (of := 32) rfl (Lm_N Lmk_0 rfl) Lmk_0 rfl (by decide) ui_12 (by decide) uw6_26 rfl dX12_find_61 ?_
        refine r_iconst (v := (0)) X dX12_find_64 (by decide) ?_
        refine r_dup2 X dX12_find_65 rfl rfl ?_
        refine r_iald X (Lm_N Lmk_32 rfl) Lmk_32 (g_in rfl h) dX12_find_66 (fun h => ?_)
        refine r_iconst (v := (1)) X dX12_find_67 (by decide) ?_
        refine r_iadd X dX12_find_68 ?_
        refine r_iast X (Lm_N Lmk_32 rfl) Lmk_32 (g_in rfl h) dX12_find_69 (fun h => ?_)
        refine r_nmM h (fun m8 h => ?_)
        refine r_iconst (v := (1)) X dX12_find_70 (by decide) ?_
        exact r_zret2 X rfl dX12_find_71 h
      · refine r_iconst (v := (0)) X dX12_find_34 (by decide) ?_
        exact r_zret2 X rfl dX12_find_35 h
noncomputable def f_X12_wearBy_J61 (p1 : Int32) (p2 : Int32) (k5 : Int32 → Int32 → Mm → Option (Int32 × Mm)) (x14 : Int32) (x15 : Int32) (m16 : Mm) : Option (Int32 × Mm) :=
  bnd (x15 + (1)) fun x17 => k5 x14 x17 m16
noncomputable def f_X12_wearBy_B40 (p1 : Int32) (p2 : Int32) (k5 : Int32 → Int32 → Mm → Option (Int32 × Mm)) (k40 : Int32 → Int32 → Int32 → Int32 → Mm → Option (Int32 × Mm)) (x6 : Int32) (x7 : Int32) (x8 : Int32) (x9 : Int32) (m10 : Mm) : Option (Int32 × Mm) :=
  if x8 ≤ x9 then (f_X12_wearBy_J61 p1 p2 k5 x6 x7 m10) else (bdI (f_X12_wornBy x7 x6 m10) fun x12 m11 => bnd (x9 + (1)) fun x13 => k40 x12 x7 x8 x13 m11)
noncomputable def f_X12_wearBy_B5 (p1 : Int32) (p2 : Int32) (k5 : Int32 → Int32 → Mm → Option (Int32 × Mm)) (x1 : Int32) (x2 : Int32) (m3 : Mm) : Option (Int32 × Mm) :=
  if (gI m3 2 1) ≤ x2 then (some (x1, m3)) else (if ¬ ((p1 >>> (x2 &&& 31)) &&& ((1))) = 0 then (bdI (f_X12_strikesOf x2 p2 m3) fun x5 m4 => lop (fun _ _ _ _ _ => none) (f_X12_wearBy_B40 p1 p2 k5) 4000 x1 x2 x5 ((0)) m4) else (f_X12_wearBy_J61 p1 p2 k5 x1 x2 m3))
noncomputable def f_X12_wearBy (p1 : Int32) (p2 : Int32) (mem : Mm) : Option (Int32 × Mm) :=
  lop (fun _ _ _ => none) (f_X12_wearBy_B5 p1 p2 ) 4000 ((0)) ((0)) mem
theorem dd_X12_wearBy : yX12_wearBy.cls = RX12 ∧ yX12_wearBy.cls ≠ "java/lang/invoke/MethodHandle" ∧ yX12_wearBy.cls ≠ "java/lang/invoke/VarHandle" ∧ (parseMethodDescriptor yX12_wearBy.desc).map (fun d => d.parameters.length) = some 2 := by decide +kernel
set_option maxHeartbeats 4000000 in
set_option maxRecDepth 100000 in
theorem k_X12_wearBy {l : Launch} {ad : Nat → Nat} {cy : Nat → ClassId} {dC : Nat → ClassId} {dI : Nat → Nat → Nat} {ks : (Nat → Nat) × (Nat → Nat)} {p1 : Int32} {p2 : Int32} {mem : Mm} {r2 : Int32} {mem2 : Mm}  (h : f_X12_wearBy p1 p2 mem = some (r2, mem2)) : CtI l Lm ad cy dC dI ks yX12_wearBy cX12_wearBy 7 (some .int) ({ frames := 4, cells := 0, slots := 0, locals := 91 }) [.ref (ad (0)), .int (p1), .int (p2)] mem r2 mem2 := by
  refine CtI.of (cc := cX12_wearBy) (maxL := 7) (ret := (some .int)) (own := RX12) rfl (by decide) (Nat.le_of_ble_eq_true rfl) ?_
  intro p e s m args below meth c A X
  have hts := X.2.2.2.2.1
  have hJ61 : ∀ (k5 : Int32 → Int32 → Mm → Option (Int32 × Mm)) (hk5 : ∀ (x1 : Int32) (x2 : Int32) (m3 : Mm), k5 x1 x2 m3 = some (r2, mem2) → Jd p l e ({ frames := 4, cells := 0, slots := 0, locals := 91 }) s m args below meth c 7 (MQ below (PsI Lm ad cy dC dI r2 mem2 A) args s 0 0 A) A dC dI cy Lm ad m3 5 [(0, .ref (ad (0))), (1, .int (p1)), (2, .int (p2)), (3, .int (x1)), (4, .int (x2))] []) (x14 : Int32) (x15 : Int32) (m16 : Mm), f_X12_wearBy_J61 p1 p2 k5 x14 x15 m16 = some (r2, mem2) → Jd p l e ({ frames := 4, cells := 0, slots := 0, locals := 91 }) s m args below meth c 7 (MQ below (PsI Lm ad cy dC dI r2 mem2 A) args s 0 0 A) A dC dI cy Lm ad m16 61 [(0, .ref (ad (0))), (1, .int (p1)), (2, .int (p2)), (3, .int (x14)), (4, .int (x15))] [] := by
    intro k5 hk5 x14 x15 m16 h
    unfold f_X12_wearBy_J61 at h
    refine r_inc h (fun x17 e9 h => ?_)
    refine r_iinc (v := x17) (lv2 := [(4, .int (x17)), (0, .ref (ad (0))), (1, .int (p1)), (2, .int (p2)), (3, .int (x14))]) X dX12_wearBy_61 4 rfl (by rw [e9]; rfl) (by decide) rfl ?_
    refine r_goto (tgt := 5) X dX12_wearBy_64 (by decide) ?_
    exact r_sub [1, 2, 3, 4, 0] rfl (hk5 x14 x17 m16 h)
  have hJ40 : ∀ (k5 : Int32 → Int32 → Mm → Option (Int32 × Mm)) (hk5 : ∀ (x1 : Int32) (x2 : Int32) (m3 : Mm), k5 x1 x2 m3 = some (r2, mem2) → Jd p l e ({ frames := 4, cells := 0, slots := 0, locals := 91 }) s m args below meth c 7 (MQ below (PsI Lm ad cy dC dI r2 mem2 A) args s 0 0 A) A dC dI cy Lm ad m3 5 [(0, .ref (ad (0))), (1, .int (p1)), (2, .int (p2)), (3, .int (x1)), (4, .int (x2))] []) (k40 : Int32 → Int32 → Int32 → Int32 → Mm → Option (Int32 × Mm)) (hk40 : ∀ (x6 : Int32) (x7 : Int32) (x8 : Int32) (x9 : Int32) (m10 : Mm), k40 x6 x7 x8 x9 m10 = some (r2, mem2) → Jd p l e ({ frames := 4, cells := 0, slots := 0, locals := 91 }) s m args below meth c 7 (MQ below (PsI Lm ad cy dC dI r2 mem2 A) args s 0 0 A) A dC dI cy Lm ad m10 40 [(0, .ref (ad (0))), (1, .int (p1)), (2, .int (p2)), (3, .int (x6)), (4, .int (x7)), (5, .int (x8)), (6, .int (x9))] []) (x6 : Int32) (x7 : Int32) (x8 : Int32) (x9 : Int32) (m10 : Mm), f_X12_wearBy_B40 p1 p2 k5 k40 x6 x7 x8 x9 m10 = some (r2, mem2) → Jd p l e ({ frames := 4, cells := 0, slots := 0, locals := 91 }) s m args below meth c 7 (MQ below (PsI Lm ad cy dC dI r2 mem2 A) args s 0 0 A) A dC dI cy Lm ad m10 40 [(0, .ref (ad (0))), (1, .int (p1)), (2, .int (p2)), (3, .int (x6)), (4, .int (x7)), (5, .int (x8)), (6, .int (x9))] [] := by
    intro k5 hk5 k40 hk40 x6 x7 x8 x9 m10 h
    unfold f_X12_wearBy_B40 at h
    refine r_iload X dX12_wearBy_40 6 rfl ?_
    refine r_iload X dX12_wearBy_42 5 rfl ?_
    refine r_icmp_ge (tgt := 61) X dX12_wearBy_44 (by decide) h (fun h => ?_) (fun h => ?_)
    · exact r_sub [0, 1, 2, 3, 4] rfl (hJ61 k5 hk5 x6 x7 m10 h)
    · refine r_aload_n X dX12_wearBy_47 rfl 0 rfl ?_
      refine r_iload X dX12_wearBy_48 4 rfl ?_
      refine r_iload_n X dX12_wearBy_50 rfl 3 rfl ?_
      refine r_cVI (As := [.int (x7), .int (x6)]) (rest := []) X (fun r9 m9 hg => k_X12_wornBy hg) h (Lm_N Lmk_0 rfl) Lmk_0 rfl (by decide) uw7_189 uw7_191 us6_9 uw1_13 uw7_192 rfl rfl dd_X12_wornBy ⟨Nat.le_of_ble_eq_true rfl, Nat.le_of_ble_eq_true rfl⟩ rfl (Nat.le_of_ble_eq_true rfl) dX12_wearBy_51 rfl (fun x12 m11 h => ?_)
      refine r_istore_n (lv2 := [(3, .int (x12)), (0, .ref (ad (0))), (1, .int (p1)), (2, .int (p2)), (4, .int (x7)), (5, .int (x8)), (6, .int (x9))]) X dX12_wearBy_54 rfl (by decide) rfl ?_
      refine r_inc h (fun x13 e9 h => ?_)
      refine r_iinc (v := x13) (lv2 := [(6, .int (x13)), (3, .int (x12)), (0, .ref (ad (0))), (1, .int (p1)), (2, .int (p2)), (4, .int (x7)), (5, .int (x8))]) X dX12_wearBy_55 6 rfl (by rw [e9]; rfl) (by decide) rfl ?_
      refine r_goto (tgt := 40) X dX12_wearBy_58 (by decide) ?_
      exact r_sub [2, 3, 4, 1, 5, 6, 0] rfl (hk40 x12 x7 x8 x13 m11 h)
  have hL40 : ∀ (k5 : Int32 → Int32 → Mm → Option (Int32 × Mm)) (hk5 : ∀ (x1 : Int32) (x2 : Int32) (m3 : Mm), k5 x1 x2 m3 = some (r2, mem2) → Jd p l e ({ frames := 4, cells := 0, slots := 0, locals := 91 }) s m args below meth c 7 (MQ below (PsI Lm ad cy dC dI r2 mem2 A) args s 0 0 A) A dC dI cy Lm ad m3 5 [(0, .ref (ad (0))), (1, .int (p1)), (2, .int (p2)), (3, .int (x1)), (4, .int (x2))] []) (n : Nat), ∀ (x6 : Int32) (x7 : Int32) (x8 : Int32) (x9 : Int32) (m10 : Mm), lop (fun _ _ _ _ _ => none) (f_X12_wearBy_B40 p1 p2 k5) n x6 x7 x8 x9 m10 = some (r2, mem2) → Jd p l e ({ frames := 4, cells := 0, slots := 0, locals := 91 }) s m args below meth c 7 (MQ below (PsI Lm ad cy dC dI r2 mem2 A) args s 0 0 A) A dC dI cy Lm ad m10 40 [(0, .ref (ad (0))), (1, .int (p1)), (2, .int (p2)), (3, .int (x6)), (4, .int (x7)), (5, .int (x8)), (6, .int (x9))] [] := by
    intro k5 hk5 n
    induction n with
    | zero => intro _ _ _ _ _ h; cases h
    | succ n ih => intro a0 a1 a2 a3 a4 h; exact hJ40 k5 hk5 _ ih a0 a1 a2 a3 a4 h
  have hJ5 : ∀ (k5 : Int32 → Int32 → Mm → Option (Int32 × Mm)) (hk5 : ∀ (x1 : Int32) (x2 : Int32) (m3 : Mm), k5 x1 x2 m3 = some (r2, mem2) → Jd p l e ({ frames := 4, cells := 0, slots := 0, locals := 91 }) s m args below meth c 7 (MQ below (PsI Lm ad cy dC dI r2 mem2 A) args s 0 0 A) A dC dI cy Lm ad m3 5 [(0, .ref (ad (0))), (1, .int (p1)), (2, .int (p2)), (3, .int (x1)), (4, .int (x2))] []) (x1 : Int32) (x2 : Int32) (m3 : Mm), f_X12_wearBy_B5 p1 p2 k5 x1 x2 m3 = some (r2, mem2) → Jd p l e ({ frames := 4, cells := 0, slots := 0, locals := 91 }) s m args below meth c 7 (MQ below (PsI Lm ad cy dC dI r2 mem2 A) args s 0 0 A) A dC dI cy Lm ad m3 5 [(0, .ref (ad (0))), (1, .int (p1)), (2, .int (p2)), (3, .int (x1)), (4, .int (x2))] [] := by
    intro k5 hk5 x1 x2 m3 h
    unfold f_X12_wearBy_B5 at h
    refine r_iload X dX12_wearBy_5 4 rfl ?_
    refine r_aload_n X dX12_wearBy_7 rfl 0 rfl ?_
    refine r_getF X (k := 10) (of := 2) rfl (Lm_N Lmk_0 rfl) Lmk_0 rfl (by decide) ui_12 (by decide) uw5_230 rfl dX12_wearBy_8 ?_
    refine r_iconst (v := (1)) X dX12_wearBy_11 (by decide) ?_
    refine r_iald X (Lm_N Lmk_2 rfl) Lmk_2 (g_in rfl h) dX12_wearBy_12 (fun h => ?_)
    refine r_icmp_ge (tgt := 67) X dX12_wearBy_13 (by decide) h (fun h => ?_) (fun h => ?_)
    · refine r_iload_n X dX12_wearBy_67 rfl 3 rfl ?_
      exact r_iret2 X rfl dX12_wearBy_68 h
    · refine r_iload_n X dX12_wearBy_16 rfl 1 rfl ?_
      refine r_iload X dX12_wearBy_17 4 rfl ?_
      refine r_ishr X dX12_wearBy_19 ?_
      refine r_iconst (v := (1)) X dX12_wearBy_20 (by decide) ?_
      refine r_iand X dX12_wearBy_21 ?_
      refine r_if_ne (tgt := 28) X dX12_wearBy_22 (by decide) h (fun h => ?_) (fun h => ?_)
      · refine r_aload_n X dX12_wearBy_28 rfl 0 rfl ?_
        refine r_iload X dX12_wearBy_29 4 rfl ?_
        refine r_iload_n X dX12_wearBy_31 rfl 2 rfl ?_
        refine r_cVI (As := [.int (x2), .int (p2)]) (rest := []) X (fun r9 m9 hg => k_X12_strikesOf hg) h (Lm_N Lmk_0 rfl) Lmk_0 rfl (by decide) uw8_83 uw8_85 us7_6 uw1_13 uw8_86 rfl rfl dd_X12_strikesOf ⟨Nat.le_of_ble_eq_true rfl, Nat.le_of_ble_eq_true rfl⟩ rfl (Nat.le_of_ble_eq_true rfl) dX12_wearBy_32 rfl (fun x5 m4 h => ?_)
        refine r_istore (lv2 := [(5, .int (x5)), (0, .ref (ad (0))), (1, .int (p1)), (2, .int (p2)), (3, .int (x1)), (4, .int (x2))]) X dX12_wearBy_35 (by decide) rfl ?_
        refine r_iconst (v := (0)) X dX12_wearBy_37 (by decide) ?_
        refine r_istore (lv2 := [(6, .int ((0))), (5, .int (x5)), (0, .ref (ad (0))), (1, .int (p1)), (2, .int (p2)), (3, .int (x1)), (4, .int (x2))]) X dX12_wearBy_38 (by decide) rfl ?_
        exact r_sub [2, 3, 4, 5, 6, 1, 0] rfl (hL40 k5 hk5 4000 x1 x2 x5 ((0)) m4 h)
      · refine r_goto (tgt := 61) X dX12_wearBy_25 (by decide) ?_
        exact r_sub [0, 1, 2, 3, 4] rfl (hJ61 k5 hk5 x1 x2 m3 h)
  have hL5 : ∀ (n : Nat), ∀ (x1 : Int32) (x2 : Int32) (m3 : Mm), lop (fun _ _ _ => none) (f_X12_wearBy_B5 p1 p2 ) n x1 x2 m3 = some (r2, mem2) → Jd p l e ({ frames := 4, cells := 0, slots := 0, locals := 91 }) s m args below meth c 7 (MQ below (PsI Lm ad cy dC dI r2 mem2 A) args s 0 0 A) A dC dI cy Lm ad m3 5 [(0, .ref (ad (0))), (1, .int (p1)), (2, .int (p2)), (3, .int (x1)), (4, .int (x2))] [] := by
    intro  n
    induction n with
    | zero => intro _ _ _ h; cases h
    | succ n ih => intro a0 a1 a2 h; exact hJ5  _ ih a0 a1 a2 h
  unfold f_X12_wearBy at h
  refine r_iconst (v := (0)) X dX12_wearBy_0 (by decide) ?_
  refine r_istore_n (lv2 := [(3, .int ((0))), (0, .ref (ad (0))), (1, .int (p1)), (2, .int (p2))]) X dX12_wearBy_1 rfl (by decide) rfl ?_
  refine r_iconst (v := (0)) X dX12_wearBy_2 (by decide) ?_
  refine r_istore (lv2 := [(4, .int ((0))), (3, .int ((0))), (0, .ref (ad (0))), (1, .int (p1)), (2, .int (p2))]) X dX12_wearBy_3 (by decide) rfl ?_
  exact r_sub [2, 3, 4, 1, 0] rfl (hL5 4000 ((0)) ((0)) mem h)
noncomputable def f_X12_isAsFound_B2 (p1 : Int32) (k2 : Int32 → Mm → Option (Int32 × Mm)) (x1 : Int32) (m2 : Mm) : Option (Int32 × Mm) :=
  if (gI m2 32 0) ≤ x1 then (grd (bok ((1))) (some ((1), m2))) else (grd (inb x1 40) (bdI (f_X12_wearBy p1 (gI m2 33 x1.toNatClampNeg) m2) fun x4 m3 => grd (inb x1 40) (if x4 = (gI m3 34 x1.toNatClampNeg) then (bnd (x1 + (1)) fun x5 => k2 x5 m3) else (grd (bok ((0))) (some ((0), m3))))))
noncomputable def f_X12_isAsFound (p1 : Int32) (mem : Mm) : Option (Int32 × Mm) :=
  lop (fun _ _ => none) (f_X12_isAsFound_B2 p1 ) 4000 ((0)) mem
theorem dd_X12_isAsFound : yX12_isAsFound.cls = RX12 ∧ yX12_isAsFound.cls ≠ "java/lang/invoke/MethodHandle" ∧ yX12_isAsFound.cls ≠ "java/lang/invoke/VarHandle" ∧ (parseMethodDescriptor yX12_isAsFound.desc).map (fun d => d.parameters.length) = some 1 := by decide +kernel
set_option maxHeartbeats 4000000 in
set_option maxRecDepth 100000 in
theorem k_X12_isAsFound {l : Launch} {ad : Nat → Nat} {cy : Nat → ClassId} {dC : Nat → ClassId} {dI : Nat → Nat → Nat} {ks : (Nat → Nat) × (Nat → Nat)} {p1 : Int32} {mem : Mm} {r2 : Int32} {mem2 : Mm}  (h : f_X12_isAsFound p1 mem = some (r2, mem2)) : CtI l Lm ad cy dC dI ks yX12_isAsFound cX12_isAsFound 3 (some .boolean) ({ frames := 5, cells := 0, slots := 0, locals := 117 }) [.ref (ad (0)), .int (p1)] mem r2 mem2 := by
  refine CtI.of (cc := cX12_isAsFound) (maxL := 3) (ret := (some .boolean)) (own := RX12) rfl (by decide) (Nat.le_of_ble_eq_true rfl) ?_
  intro p e s m args below meth c A X
  have hts := X.2.2.2.2.1
  have hJ2 : ∀ (k2 : Int32 → Mm → Option (Int32 × Mm)) (hk2 : ∀ (x1 : Int32) (m2 : Mm), k2 x1 m2 = some (r2, mem2) → Jd p l e ({ frames := 5, cells := 0, slots := 0, locals := 117 }) s m args below meth c 3 (MQ below (PsI Lm ad cy dC dI r2 mem2 A) args s 0 0 A) A dC dI cy Lm ad m2 2 [(0, .ref (ad (0))), (1, .int (p1)), (2, .int (x1))] []) (x1 : Int32) (m2 : Mm), f_X12_isAsFound_B2 p1 k2 x1 m2 = some (r2, mem2) → Jd p l e ({ frames := 5, cells := 0, slots := 0, locals := 117 }) s m args below meth c 3 (MQ below (PsI Lm ad cy dC dI r2 mem2 A) args s 0 0 A) A dC dI cy Lm ad m2 2 [(0, .ref (ad (0))), (1, .int (p1)), (2, .int (x1))] [] := by
    intro k2 hk2 x1 m2 h
    unfold f_X12_isAsFound_B2 at h
    refine r_iload_n X dX12_isAsFound_2 rfl 2 rfl ?_
    refine r_aload_n X dX12_isAsFound_3 rfl 0 rfl ?_
    refine r_getF X (k := 46) (of := 32) rfl (Lm_N Lmk_0 rfl) Lmk_0 rfl (by decide) ui_12 (by decide) uw6_26 rfl dX12_isAsFound_4 ?_
    refine r_iconst (v := (0)) X dX12_isAsFound_7 (by decide) ?_
    refine r_iald X (Lm_N Lmk_32 rfl) Lmk_32 (g_in rfl h) dX12_isAsFound_8 (fun h => ?_)
    refine r_icmp_ge (tgt := 40) X dX12_isAsFound_9 (by decide) h (fun h => ?_) (fun h => ?_)
    · refine r_iconst (v := (1)) X dX12_isAsFound_40 (by decide) ?_
      exact r_zret2 X rfl dX12_isAsFound_41 h
    · refine r_aload_n X dX12_isAsFound_12 rfl 0 rfl ?_
      refine r_iload_n X dX12_isAsFound_13 rfl 1 rfl ?_
      refine r_aload_n X dX12_isAsFound_14 rfl 0 rfl ?_
      refine r_getF X (k := 47) (of := 33) rfl (Lm_N Lmk_0 rfl) Lmk_0 rfl (by decide) ui_12 (by decide) uw6_27 rfl dX12_isAsFound_15 ?_
      refine r_iload_n X dX12_isAsFound_18 rfl 2 rfl ?_
      refine r_iald X (Lm_N Lmk_33 rfl) Lmk_33 h dX12_isAsFound_19 (fun h => ?_)
      refine r_cVI (As := [.int (p1), .int (gI m2 33 x1.toNatClampNeg)]) (rest := []) X (fun r9 m9 hg => k_X12_wearBy hg) h (Lm_N Lmk_0 rfl) Lmk_0 rfl (by decide) uw8_99 uw8_101 us7_8 uw1_13 uw8_102 rfl rfl dd_X12_wearBy ⟨Nat.le_of_ble_eq_true rfl, Nat.le_of_ble_eq_true rfl⟩ rfl (Nat.le_of_ble_eq_true rfl) dX12_isAsFound_20 rfl (fun x4 m3 h => ?_)
      refine r_aload_n X dX12_isAsFound_23 rfl 0 rfl ?_
      refine r_getF X (k := 48) (of := 34) rfl (Lm_N Lmk_0 rfl) Lmk_0 rfl (by decide) ui_12 (by decide) uw6_28 rfl dX12_isAsFound_24 ?_
      refine r_iload_n X dX12_isAsFound_27 rfl 2 rfl ?_
      refine r_iald X (Lm_N Lmk_34 rfl) Lmk_34 h dX12_isAsFound_28 (fun h => ?_)
      refine r_icmp_eq (tgt := 34) X dX12_isAsFound_29 (by decide) h (fun h => ?_) (fun h => ?_)
      · refine r_inc h (fun x5 e9 h => ?_)
        refine r_iinc (v := x5) (lv2 := [(2, .int (x5)), (0, .ref (ad (0))), (1, .int (p1))]) X dX12_isAsFound_34 2 rfl (by rw [e9]; rfl) (by decide) rfl ?_
        refine r_goto (tgt := 2) X dX12_isAsFound_37 (by decide) ?_
        exact r_sub [1, 2, 0] rfl (hk2 x5 m3 h)
      · refine r_iconst (v := (0)) X dX12_isAsFound_32 (by decide) ?_
        exact r_zret2 X rfl dX12_isAsFound_33 h
  have hL2 : ∀ (n : Nat), ∀ (x1 : Int32) (m2 : Mm), lop (fun _ _ => none) (f_X12_isAsFound_B2 p1 ) n x1 m2 = some (r2, mem2) → Jd p l e ({ frames := 5, cells := 0, slots := 0, locals := 117 }) s m args below meth c 3 (MQ below (PsI Lm ad cy dC dI r2 mem2 A) args s 0 0 A) A dC dI cy Lm ad m2 2 [(0, .ref (ad (0))), (1, .int (p1)), (2, .int (x1))] [] := by
    intro  n
    induction n with
    | zero => intro _ _ h; cases h
    | succ n ih => intro a0 a1 h; exact hJ2  _ ih a0 a1 h
  unfold f_X12_isAsFound at h
  refine r_iconst (v := (0)) X dX12_isAsFound_0 (by decide) ?_
  refine r_istore_n (lv2 := [(2, .int ((0))), (0, .ref (ad (0))), (1, .int (p1))]) X dX12_isAsFound_1 rfl (by decide) rfl ?_
  exact r_sub [1, 2, 0] rfl (hL2 4000 ((0)) mem h)
noncomputable def f_X12_sets_J75 (p1 : Int32) (k35 : Int32 → Int32 → Int32 → Int32 → Mm → Option (Int32 × Mm)) (x17 : Int32) (x18 : Int32) (x19 : Int32) (x20 : Int32) (m21 : Mm) : Option (Int32 × Mm) :=
  bnd (x20 + (1)) fun x22 => k35 x17 x18 x19 x22 m21
noncomputable def f_X12_sets_J89 (p1 : Int32) (x15 : Int32) (m16 : Mm) : Option (Int32 × Mm) :=
  if ¬ p1 = 0 then (some ((-1), m16)) else (some (x15, m16))
noncomputable def f_X12_sets_B35 (p1 : Int32) (k35 : Int32 → Int32 → Int32 → Int32 → Mm → Option (Int32 × Mm)) (x5 : Int32) (x6 : Int32) (x7 : Int32) (x8 : Int32) (m9 : Mm) : Option (Int32 × Mm) :=
  if (((1)) <<< ((gI m9 2 1) &&& 31)) ≤ x8 then (if x5 = 0 then (f_X12_sets_J89 p1 x5 m9) else (if ¬ p1 = 0 then (if ¬ p1 = ((1)) then (some (x7, m9)) else (some (x6, m9))) else (f_X12_sets_J89 p1 x5 m9))) else (bdI (f_X12_isAsFound x8 m9) fun x11 m10 => if ¬ x11 = 0 then (bnd (x5 + (1)) fun x12 => bnd (x6 &&& x8) fun x13 => bnd (x7 ||| x8) fun x14 => f_X12_sets_J75 p1 k35 x12 x13 x14 x8 m10) else (f_X12_sets_J75 p1 k35 x5 x6 x7 x8 m10))
noncomputable def f_X12_sets (p1 : Int32) (mem : Mm) : Option (Int32 × Mm) :=
  bnd (sI mem 0 0 ((0))) fun m1 => bdI (f_X12_within p1 ((0)) ((2)) m1) fun x3 m2 => if ¬ x3 = 0 then (bnd ((((1)) <<< ((gI m2 2 1) &&& 31)) - ((1))) fun x4 => lop (fun _ _ _ _ _ => none) (f_X12_sets_B35 p1 ) 4000 ((0)) x4 ((0)) ((0)) m2) else (some ((-1), m2))
theorem dd_X12_sets : yX12_sets.cls = RX12 ∧ yX12_sets.cls ≠ "java/lang/invoke/MethodHandle" ∧ yX12_sets.cls ≠ "java/lang/invoke/VarHandle" ∧ (parseMethodDescriptor yX12_sets.desc).map (fun d => d.parameters.length) = some 1 := by decide +kernel
set_option maxHeartbeats 4000000 in
set_option maxRecDepth 100000 in
theorem k_X12_sets {l : Launch} {ad : Nat → Nat} {cy : Nat → ClassId} {dC : Nat → ClassId} {dI : Nat → Nat → Nat} {ks : (Nat → Nat) × (Nat → Nat)} {p1 : Int32} {mem : Mm} {r2 : Int32} {mem2 : Mm}  (h : f_X12_sets p1 mem = some (r2, mem2)) : CtI l Lm ad cy dC dI ks yX12_sets cX12_sets 6 (some .int) ({ frames := 6, cells := 0, slots := 0, locals := 139 }) [.ref (ad (0)), .int (p1)] mem r2 mem2 := by
  refine CtI.of (cc := cX12_sets) (maxL := 6) (ret := (some .int)) (own := RX12) rfl (by decide) (Nat.le_of_ble_eq_true rfl) ?_
  intro p e s m args below meth c A X
  have hts := X.2.2.2.2.1
  have hJ75 : ∀ (k35 : Int32 → Int32 → Int32 → Int32 → Mm → Option (Int32 × Mm)) (hk35 : ∀ (x5 : Int32) (x6 : Int32) (x7 : Int32) (x8 : Int32) (m9 : Mm), k35 x5 x6 x7 x8 m9 = some (r2, mem2) → Jd p l e ({ frames := 6, cells := 0, slots := 0, locals := 139 }) s m args below meth c 6 (MQ below (PsI Lm ad cy dC dI r2 mem2 A) args s 0 0 A) A dC dI cy Lm ad m9 35 [(0, .ref (ad (0))), (1, .int (p1)), (2, .int (x5)), (3, .int (x6)), (4, .int (x7)), (5, .int (x8))] []) (x17 : Int32) (x18 : Int32) (x19 : Int32) (x20 : Int32) (m21 : Mm), f_X12_sets_J75 p1 k35 x17 x18 x19 x20 m21 = some (r2, mem2) → Jd p l e ({ frames := 6, cells := 0, slots := 0, locals := 139 }) s m args below meth c 6 (MQ below (PsI Lm ad cy dC dI r2 mem2 A) args s 0 0 A) A dC dI cy Lm ad m21 75 [(0, .ref (ad (0))), (1, .int (p1)), (2, .int (x17)), (3, .int (x18)), (4, .int (x19)), (5, .int (x20))] [] := by
    intro k35 hk35 x17 x18 x19 x20 m21 h
    unfold f_X12_sets_J75 at h
    refine r_inc h (fun x22 e9 h => ?_)
    refine r_iinc (v := x22) (lv2 := [(5, .int (x22)), (0, .ref (ad (0))), (1, .int (p1)), (2, .int (x17)), (3, .int (x18)), (4, .int (x19))]) X dX12_sets_75 5 rfl (by rw [e9]; rfl) (by decide) rfl ?_
    refine r_goto (tgt := 35) X dX12_sets_78 (by decide) ?_
    exact r_sub [1, 2, 3, 4, 5, 0] rfl (hk35 x17 x18 x19 x22 m21 h)
  have hJ89 : ∀ (x15 : Int32) (m16 : Mm), f_X12_sets_J89 p1 x15 m16 = some (r2, mem2) → Jd p l e ({ frames := 6, cells := 0, slots := 0, locals := 139 }) s m args below meth c 6 (MQ below (PsI Lm ad cy dC dI r2 mem2 A) args s 0 0 A) A dC dI cy Lm ad m16 89 [(1, .int (p1)), (2, .int (x15))] [] := by
    intro x15 m16 h
    unfold f_X12_sets_J89 at h
    refine r_iload_n X dX12_sets_89 rfl 0 rfl ?_
    refine r_if_ne (tgt := 97) X dX12_sets_90 (by decide) h (fun h => ?_) (fun h => ?_)
    · refine r_iconst (v := (-1)) X dX12_sets_97 (by decide) ?_
      exact r_iret2 X rfl dX12_sets_98 h
    · refine r_iload_n X dX12_sets_93 rfl 1 rfl ?_
      refine r_goto (tgt := 98) X dX12_sets_94 (by decide) ?_
      exact r_iret2 X rfl dX12_sets_98 h
  have hJ35 : ∀ (k35 : Int32 → Int32 → Int32 → Int32 → Mm → Option (Int32 × Mm)) (hk35 : ∀ (x5 : Int32) (x6 : Int32) (x7 : Int32) (x8 : Int32) (m9 : Mm), k35 x5 x6 x7 x8 m9 = some (r2, mem2) → Jd p l e ({ frames := 6, cells := 0, slots := 0, locals := 139 }) s m args below meth c 6 (MQ below (PsI Lm ad cy dC dI r2 mem2 A) args s 0 0 A) A dC dI cy Lm ad m9 35 [(0, .ref (ad (0))), (1, .int (p1)), (2, .int (x5)), (3, .int (x6)), (4, .int (x7)), (5, .int (x8))] []) (x5 : Int32) (x6 : Int32) (x7 : Int32) (x8 : Int32) (m9 : Mm), f_X12_sets_B35 p1 k35 x5 x6 x7 x8 m9 = some (r2, mem2) → Jd p l e ({ frames := 6, cells := 0, slots := 0, locals := 139 }) s m args below meth c 6 (MQ below (PsI Lm ad cy dC dI r2 mem2 A) args s 0 0 A) A dC dI cy Lm ad m9 35 [(0, .ref (ad (0))), (1, .int (p1)), (2, .int (x5)), (3, .int (x6)), (4, .int (x7)), (5, .int (x8))] [] := by
    intro k35 hk35 x5 x6 x7 x8 m9 h
    unfold f_X12_sets_B35 at h
    refine r_iload X dX12_sets_35 5 rfl ?_
    refine r_iconst (v := (1)) X dX12_sets_37 (by decide) ?_
    refine r_aload_n X dX12_sets_38 rfl 0 rfl ?_
    refine r_getF X (k := 10) (of := 2) rfl (Lm_N Lmk_0 rfl) Lmk_0 rfl (by decide) ui_12 (by decide) uw5_230 rfl dX12_sets_39 ?_
    refine r_iconst (v := (1)) X dX12_sets_42 (by decide) ?_
    refine r_iald X (Lm_N Lmk_2 rfl) Lmk_2 (g_in rfl h) dX12_sets_43 (fun h => ?_)
    refine r_ishl X dX12_sets_44 ?_
    refine r_icmp_ge (tgt := 81) X dX12_sets_45 (by decide) h (fun h => ?_) (fun h => ?_)
    · refine r_iload_n X dX12_sets_81 rfl 2 rfl ?_
      refine r_if_eq (tgt := 89) X dX12_sets_82 (by decide) h (fun h => ?_) (fun h => ?_)
      · exact r_sub [1, 2] rfl (hJ89 x5 m9 h)
      · refine r_iload_n X dX12_sets_85 rfl 1 rfl ?_
        refine r_if_ne (tgt := 99) X dX12_sets_86 (by decide) h (fun h => ?_) (fun h => ?_)
        · refine r_iload_n X dX12_sets_99 rfl 1 rfl ?_
          refine r_iconst (v := (1)) X dX12_sets_100 (by decide) ?_
          refine r_icmp_ne (tgt := 108) X dX12_sets_101 (by decide) h (fun h => ?_) (fun h => ?_)
          · refine r_iload X dX12_sets_108 4 rfl ?_
            exact r_iret2 X rfl dX12_sets_110 h
          · refine r_iload_n X dX12_sets_104 rfl 3 rfl ?_
            refine r_goto (tgt := 110) X dX12_sets_105 (by decide) ?_
            exact r_iret2 X rfl dX12_sets_110 h
        · exact r_sub [1, 2] rfl (hJ89 x5 m9 h)
    · refine r_aload_n X dX12_sets_48 rfl 0 rfl ?_
      refine r_iload X dX12_sets_49 5 rfl ?_
      refine r_cVI (As := [.int (x8)]) (rest := []) X (fun r9 m9 hg => k_X12_isAsFound hg) h (Lm_N Lmk_0 rfl) Lmk_0 rfl (by decide) uw8_95 uw8_97 us7_7 uw1_13 uw8_98 rfl rfl dd_X12_isAsFound ⟨Nat.le_of_ble_eq_true rfl, Nat.le_of_ble_eq_true rfl⟩ rfl (Nat.le_of_ble_eq_true rfl) dX12_sets_51 rfl (fun x11 m10 h => ?_)
      refine r_if_ne (tgt := 60) X dX12_sets_54 (by decide) h (fun h => ?_) (fun h => ?_)
      · refine r_inc h (fun x12 e9 h => ?_)
        refine r_iinc (v := x12) (lv2 := [(2, .int (x12)), (0, .ref (ad (0))), (1, .int (p1)), (3, .int (x6)), (4, .int (x7)), (5, .int (x8))]) X dX12_sets_60 2 rfl (by rw [e9]; rfl) (by decide) rfl ?_
        refine r_iload_n X dX12_sets_63 rfl 3 rfl ?_
        refine r_iload X dX12_sets_64 5 rfl ?_
        refine r_iand X dX12_sets_66 ?_
        refine r_nmI h (fun x13 h => ?_)
        refine r_istore_n (lv2 := [(3, .int (x13)), (2, .int (x12)), (0, .ref (ad (0))), (1, .int (p1)), (4, .int (x7)), (5, .int (x8))]) X dX12_sets_67 rfl (by decide) rfl ?_
        refine r_iload X dX12_sets_68 4 rfl ?_
        refine r_iload X dX12_sets_70 5 rfl ?_
        refine r_ior X dX12_sets_72 ?_
        refine r_nmI h (fun x14 h => ?_)
        refine r_istore (lv2 := [(4, .int (x14)), (3, .int (x13)), (2, .int (x12)), (0, .ref (ad (0))), (1, .int (p1)), (5, .int (x8))]) X dX12_sets_73 (by decide) rfl ?_
        exact r_sub [3, 4, 2, 1, 0, 5] rfl (hJ75 k35 hk35 x12 x13 x14 x8 m10 h)
      · refine r_goto (tgt := 75) X dX12_sets_57 (by decide) ?_
        exact r_sub [0, 1, 2, 3, 4, 5] rfl (hJ75 k35 hk35 x5 x6 x7 x8 m10 h)
  have hL35 : ∀ (n : Nat), ∀ (x5 : Int32) (x6 : Int32) (x7 : Int32) (x8 : Int32) (m9 : Mm), lop (fun _ _ _ _ _ => none) (f_X12_sets_B35 p1 ) n x5 x6 x7 x8 m9 = some (r2, mem2) → Jd p l e ({ frames := 6, cells := 0, slots := 0, locals := 139 }) s m args below meth c 6 (MQ below (PsI Lm ad cy dC dI r2 mem2 A) args s 0 0 A) A dC dI cy Lm ad m9 35 [(0, .ref (ad (0))), (1, .int (p1)), (2, .int (x5)), (3, .int (x6)), (4, .int (x7)), (5, .int (x8))] [] := by
    intro  n
    induction n with
    | zero => intro _ _ _ _ _ h; cases h
    | succ n ih => intro a0 a1 a2 a3 a4 h; exact hJ35  _ ih a0 a1 a2 a3 a4 h
  unfold f_X12_sets at h
  refine r_aload_n X dX12_sets_0 rfl 0 rfl ?_
  refine r_iconst (v := (0)) X dX12_sets_1 (by decide) ?_
  refine r_putI X (k := 0) (Lm_N Lmk_0 rfl) Lmk_0 rfl (by decide) ui_12 (by decide) uw5_220 tyX12_ok nmX12 rfl rfl rfl dX12_sets_2 ?_
  refine r_nmM h (fun m1 h => ?_)
  refine r_iload_n X dX12_sets_5 rfl 1 rfl ?_
  refine r_iconst (v := (0)) X dX12_sets_6 (by decide) ?_
  refine r_iconst (v := (2)) X dX12_sets_7 (by decide) ?_
  refine r_cSI (As := [.int (p1), .int ((0)), .int ((2))]) (rest := []) X (fun r9 m9 hg => k_X12_within hg) h uw7_49 uw7_50 uw1_13 uw7_51 rfl rfl dd_X12_within ⟨Nat.le_of_ble_eq_true rfl, Nat.le_of_ble_eq_true rfl⟩ rfl (Nat.le_of_ble_eq_true rfl) dX12_sets_8 rfl (fun x3 m2 h => ?_)
  refine r_if_ne (tgt := 16) X dX12_sets_11 (by decide) h (fun h => ?_) (fun h => ?_)
  · refine r_iconst (v := (0)) X dX12_sets_16 (by decide) ?_
    refine r_istore_n (lv2 := [(2, .int ((0))), (0, .ref (ad (0))), (1, .int (p1))]) X dX12_sets_17 rfl (by decide) rfl ?_
    refine r_iconst (v := (1)) X dX12_sets_18 (by decide) ?_
    refine r_aload_n X dX12_sets_19 rfl 1 rfl ?_
    refine r_getF X (k := 10) (of := 2) rfl (Lm_N Lmk_0 rfl) Lmk_0 rfl (by decide) ui_12 (by decide) uw5_230 rfl dX12_sets_20 ?_
    refine r_iconst (v := (1)) X dX12_sets_23 (by decide) ?_
    refine r_iald X (Lm_N Lmk_2 rfl) Lmk_2 (g_in rfl h) dX12_sets_24 (fun h => ?_)
    refine r_ishl X dX12_sets_25 ?_
    refine r_iconst (v := (1)) X dX12_sets_26 (by decide) ?_
    refine r_isub X dX12_sets_27 ?_
    refine r_nmI h (fun x4 h => ?_)
    refine r_istore_n (lv2 := [(3, .int (x4)), (2, .int ((0))), (0, .ref (ad (0))), (1, .int (p1))]) X dX12_sets_28 rfl (by decide) rfl ?_
    refine r_iconst (v := (0)) X dX12_sets_29 (by decide) ?_
    refine r_istore (lv2 := [(4, .int ((0))), (3, .int (x4)), (2, .int ((0))), (0, .ref (ad (0))), (1, .int (p1))]) X dX12_sets_30 (by decide) rfl ?_
    refine r_iconst (v := (0)) X dX12_sets_32 (by decide) ?_
    refine r_istore (lv2 := [(5, .int ((0))), (4, .int ((0))), (3, .int (x4)), (2, .int ((0))), (0, .ref (ad (0))), (1, .int (p1))]) X dX12_sets_33 (by decide) rfl ?_
    exact r_sub [4, 5, 3, 2, 1, 0] rfl (hL35 4000 ((0)) x4 ((0)) ((0)) m2 h)
  · refine r_iconst (v := (-1)) X dX12_sets_14 (by decide) ?_
    exact r_iret2 X rfl dX12_sets_15 h
noncomputable def f_X12_mostAlike_J79 (p1 : Int32) (k25 : Int32 → Int32 → Mm → Option (Int32 × Mm)) (x15 : Int32) (x16 : Int32) (m17 : Mm) : Option (Int32 × Mm) :=
  bnd (x16 + (1)) fun x18 => k25 x15 x18 m17
noncomputable def f_X12_mostAlike_B25 (p1 : Int32) (k25 : Int32 → Int32 → Mm → Option (Int32 × Mm)) (x6 : Int32) (x7 : Int32) (m8 : Mm) : Option (Int32 × Mm) :=
  if (((1)) <<< ((gI m8 2 1) &&& 31)) ≤ x7 then (some (x6, m8)) else (bdI (f_X12_isAsFound x7 m8) fun x10 m9 => if ¬ x10 = 0 then (bdI (f_X12_wearBy x7 p1 m9) fun x12 m11 => grd (inb x12 10) (grd (inb x12 10) (bnd (sI m11 47 x12.toNatClampNeg ((gI m11 47 x12.toNatClampNeg) + ((1)))) fun m13 => grd (inb x12 10) (bnd (if x6 < gI m13 47 x12.toNatClampNeg then gI m13 47 x12.toNatClampNeg else x6) fun x14 => f_X12_mostAlike_J79 p1 k25 x14 x7 m13)))) else (f_X12_mostAlike_J79 p1 k25 x6 x7 m9))
noncomputable def f_X12_mostAlike_B4 (p1 : Int32) (k4 : Int32 → Int32 → Mm → Option (Int32 × Mm)) (x1 : Int32) (x2 : Int32) (m3 : Mm) : Option (Int32 × Mm) :=
  if ((10)) ≤ x2 then (lop (fun _ _ _ => none) (f_X12_mostAlike_B25 p1 ) 4000 x1 ((0)) m3) else (grd (inb x2 10) (bnd (sI m3 47 x2.toNatClampNeg ((0))) fun m4 => bnd (x2 + (1)) fun x5 => k4 x1 x5 m4))
noncomputable def f_X12_mostAlike (p1 : Int32) (mem : Mm) : Option (Int32 × Mm) :=
  lop (fun _ _ _ => none) (f_X12_mostAlike_B4 p1 ) 4000 ((0)) ((0)) mem
theorem dd_X12_mostAlike : yX12_mostAlike.cls = RX12 ∧ yX12_mostAlike.cls ≠ "java/lang/invoke/MethodHandle" ∧ yX12_mostAlike.cls ≠ "java/lang/invoke/VarHandle" ∧ (parseMethodDescriptor yX12_mostAlike.desc).map (fun d => d.parameters.length) = some 1 := by decide +kernel
set_option maxHeartbeats 4000000 in
set_option maxRecDepth 100000 in
theorem k_X12_mostAlike {l : Launch} {ad : Nat → Nat} {cy : Nat → ClassId} {dC : Nat → ClassId} {dI : Nat → Nat → Nat} {ks : (Nat → Nat) × (Nat → Nat)} {p1 : Int32} {mem : Mm} {r2 : Int32} {mem2 : Mm}  (h : f_X12_mostAlike p1 mem = some (r2, mem2)) : CtI l Lm ad cy dC dI ks yX12_mostAlike cX12_mostAlike 5 (some .int) ({ frames := 6, cells := 0, slots := 0, locals := 139 }) [.ref (ad (0)), .int (p1)] mem r2 mem2 := by
  refine CtI.of (cc := cX12_mostAlike) (maxL := 5) (ret := (some .int)) (own := RX12) rfl (by decide) (Nat.le_of_ble_eq_true rfl) ?_
  intro p e s m args below meth c A X
  have hts := X.2.2.2.2.1
  have hJ79 : ∀ (k25 : Int32 → Int32 → Mm → Option (Int32 × Mm)) (hk25 : ∀ (x6 : Int32) (x7 : Int32) (m8 : Mm), k25 x6 x7 m8 = some (r2, mem2) → Jd p l e ({ frames := 6, cells := 0, slots := 0, locals := 139 }) s m args below meth c 5 (MQ below (PsI Lm ad cy dC dI r2 mem2 A) args s 0 0 A) A dC dI cy Lm ad m8 25 [(0, .ref (ad (0))), (1, .int (p1)), (2, .int (x6)), (3, .int (x7))] []) (x15 : Int32) (x16 : Int32) (m17 : Mm), f_X12_mostAlike_J79 p1 k25 x15 x16 m17 = some (r2, mem2) → Jd p l e ({ frames := 6, cells := 0, slots := 0, locals := 139 }) s m args below meth c 5 (MQ below (PsI Lm ad cy dC dI r2 mem2 A) args s 0 0 A) A dC dI cy Lm ad m17 79 [(0, .ref (ad (0))), (1, .int (p1)), (2, .int (x15)), (3, .int (x16))] [] := by
    intro k25 hk25 x15 x16 m17 h
    unfold f_X12_mostAlike_J79 at h
    refine r_inc h (fun x18 e9 h => ?_)
    refine r_iinc (v := x18) (lv2 := [(3, .int (x18)), (0, .ref (ad (0))), (1, .int (p1)), (2, .int (x15))]) X dX12_mostAlike_79 3 rfl (by rw [e9]; rfl) (by decide) rfl ?_
    refine r_goto (tgt := 25) X dX12_mostAlike_82 (by decide) ?_
    exact r_sub [1, 2, 3, 0] rfl (hk25 x15 x18 m17 h)
  have hJ25 : ∀ (k25 : Int32 → Int32 → Mm → Option (Int32 × Mm)) (hk25 : ∀ (x6 : Int32) (x7 : Int32) (m8 : Mm), k25 x6 x7 m8 = some (r2, mem2) → Jd p l e ({ frames := 6, cells := 0, slots := 0, locals := 139 }) s m args below meth c 5 (MQ below (PsI Lm ad cy dC dI r2 mem2 A) args s 0 0 A) A dC dI cy Lm ad m8 25 [(0, .ref (ad (0))), (1, .int (p1)), (2, .int (x6)), (3, .int (x7))] []) (x6 : Int32) (x7 : Int32) (m8 : Mm), f_X12_mostAlike_B25 p1 k25 x6 x7 m8 = some (r2, mem2) → Jd p l e ({ frames := 6, cells := 0, slots := 0, locals := 139 }) s m args below meth c 5 (MQ below (PsI Lm ad cy dC dI r2 mem2 A) args s 0 0 A) A dC dI cy Lm ad m8 25 [(0, .ref (ad (0))), (1, .int (p1)), (2, .int (x6)), (3, .int (x7))] [] := by
    intro k25 hk25 x6 x7 m8 h
    unfold f_X12_mostAlike_B25 at h
    refine r_iload_n X dX12_mostAlike_25 rfl 3 rfl ?_
    refine r_iconst (v := (1)) X dX12_mostAlike_26 (by decide) ?_
    refine r_aload_n X dX12_mostAlike_27 rfl 0 rfl ?_
    refine r_getF X (k := 10) (of := 2) rfl (Lm_N Lmk_0 rfl) Lmk_0 rfl (by decide) ui_12 (by decide) uw5_230 rfl dX12_mostAlike_28 ?_
    refine r_iconst (v := (1)) X dX12_mostAlike_31 (by decide) ?_
    refine r_iald X (Lm_N Lmk_2 rfl) Lmk_2 (g_in rfl h) dX12_mostAlike_32 (fun h => ?_)
    refine r_ishl X dX12_mostAlike_33 ?_
    refine r_icmp_ge (tgt := 85) X dX12_mostAlike_34 (by decide) h (fun h => ?_) (fun h => ?_)
    · refine r_iload_n X dX12_mostAlike_85 rfl 2 rfl ?_
      exact r_iret2 X rfl dX12_mostAlike_86 h
    · refine r_aload_n X dX12_mostAlike_37 rfl 0 rfl ?_
      refine r_iload_n X dX12_mostAlike_38 rfl 3 rfl ?_
      refine r_cVI (As := [.int (x7)]) (rest := []) X (fun r9 m9 hg => k_X12_isAsFound hg) h (Lm_N Lmk_0 rfl) Lmk_0 rfl (by decide) uw8_95 uw8_97 us7_7 uw1_13 uw8_98 rfl rfl dd_X12_isAsFound ⟨Nat.le_of_ble_eq_true rfl, Nat.le_of_ble_eq_true rfl⟩ rfl (Nat.le_of_ble_eq_true rfl) dX12_mostAlike_39 rfl (fun x10 m9 h => ?_)
      refine r_if_ne (tgt := 48) X dX12_mostAlike_42 (by decide) h (fun h => ?_) (fun h => ?_)
      · refine r_aload_n X dX12_mostAlike_48 rfl 0 rfl ?_
        refine r_iload_n X dX12_mostAlike_49 rfl 3 rfl ?_
        refine r_iload_n X dX12_mostAlike_50 rfl 1 rfl ?_
        refine r_cVI (As := [.int (x7), .int (p1)]) (rest := []) X (fun r9 m9 hg => k_X12_wearBy hg) h (Lm_N Lmk_0 rfl) Lmk_0 rfl (by decide) uw8_99 uw8_101 us7_8 uw1_13 uw8_102 rfl rfl dd_X12_wearBy ⟨Nat.le_of_ble_eq_true rfl, Nat.le_of_ble_eq_true rfl⟩ rfl (Nat.le_of_ble_eq_true rfl) dX12_mostAlike_51 rfl (fun x12 m11 h => ?_)
        refine r_istore (lv2 := [(4, .int (x12)), (0, .ref (ad (0))), (1, .int (p1)), (2, .int (x6)), (3, .int (x7))]) X dX12_mostAlike_54 (by decide) rfl ?_
        refine r_aload_n X dX12_mostAlike_56 rfl 1 rfl ?_
        refine r_getF X (k := 65) (of := 47) rfl (Lm_N Lmk_0 rfl) Lmk_0 rfl (by decide) ui_12 (by decide) uw6_45 rfl dX12_mostAlike_57 ?_
        refine r_iload X dX12_mostAlike_60 0 rfl ?_
        refine r_dup2 X dX12_mostAlike_62 rfl rfl ?_
        refine r_iald X (Lm_N Lmk_47 rfl) Lmk_47 h dX12_mostAlike_63 (fun h => ?_)
        refine r_iconst (v := (1)) X dX12_mostAlike_64 (by decide) ?_
        refine r_iadd X dX12_mostAlike_65 ?_
        refine r_iast X (Lm_N Lmk_47 rfl) Lmk_47 h dX12_mostAlike_66 (fun h => ?_)
        refine r_nmM h (fun m13 h => ?_)
        refine r_iload_n X dX12_mostAlike_67 rfl 3 rfl ?_
        refine r_aload_n X dX12_mostAlike_68 rfl 1 rfl ?_
        refine r_getF X (k := 65) (of := 47) rfl (Lm_N Lmk_0 rfl) Lmk_0 rfl (by decide) ui_12 (by decide) uw6_45 rfl dX12_mostAlike_69 ?_
        refine r_iload X dX12_mostAlike_72 0 rfl ?_
        refine r_iald X (Lm_N Lmk_47 rfl) Lmk_47 h dX12_mostAlike_74 (fun h => ?_)
        refine r_mmax X uw8_116 uw3_101 uw1_18 uw3_102 (Nat.le_of_ble_eq_true rfl) (Nat.le_of_ble_eq_true rfl) dX12_mostAlike_75 ?_
        refine r_nmI h (fun x14 h => ?_)
        refine r_istore_n (lv2 := [(2, .int (x14)), (4, .int (x12)), (0, .ref (ad (0))), (1, .int (p1)), (3, .int (x7))]) X dX12_mostAlike_78 rfl (by decide) rfl ?_
        exact r_sub [2, 3, 0, 4] rfl (hJ79 k25 hk25 x14 x7 m13 h)
      · refine r_goto (tgt := 79) X dX12_mostAlike_45 (by decide) ?_
        exact r_sub [0, 1, 2, 3] rfl (hJ79 k25 hk25 x6 x7 m9 h)
  have hL25 : ∀ (n : Nat), ∀ (x6 : Int32) (x7 : Int32) (m8 : Mm), lop (fun _ _ _ => none) (f_X12_mostAlike_B25 p1 ) n x6 x7 m8 = some (r2, mem2) → Jd p l e ({ frames := 6, cells := 0, slots := 0, locals := 139 }) s m args below meth c 5 (MQ below (PsI Lm ad cy dC dI r2 mem2 A) args s 0 0 A) A dC dI cy Lm ad m8 25 [(0, .ref (ad (0))), (1, .int (p1)), (2, .int (x6)), (3, .int (x7))] [] := by
    intro  n
    induction n with
    | zero => intro _ _ _ h; cases h
    | succ n ih => intro a0 a1 a2 h; exact hJ25  _ ih a0 a1 a2 h
  have hJ4 : ∀ (k4 : Int32 → Int32 → Mm → Option (Int32 × Mm)) (hk4 : ∀ (x1 : Int32) (x2 : Int32) (m3 : Mm), k4 x1 x2 m3 = some (r2, mem2) → Jd p l e ({ frames := 6, cells := 0, slots := 0, locals := 139 }) s m args below meth c 5 (MQ below (PsI Lm ad cy dC dI r2 mem2 A) args s 0 0 A) A dC dI cy Lm ad m3 4 [(0, .ref (ad (0))), (1, .int (p1)), (2, .int (x1)), (3, .int (x2))] []) (x1 : Int32) (x2 : Int32) (m3 : Mm), f_X12_mostAlike_B4 p1 k4 x1 x2 m3 = some (r2, mem2) → Jd p l e ({ frames := 6, cells := 0, slots := 0, locals := 139 }) s m args below meth c 5 (MQ below (PsI Lm ad cy dC dI r2 mem2 A) args s 0 0 A) A dC dI cy Lm ad m3 4 [(0, .ref (ad (0))), (1, .int (p1)), (2, .int (x1)), (3, .int (x2))] [] := by
    intro k4 hk4 x1 x2 m3 h
    unfold f_X12_mostAlike_B4 at h
    refine r_iload_n X dX12_mostAlike_4 rfl 3 rfl ?_
    refine r_bipush (v := (10)) X dX12_mostAlike_5 (by decide) ?_
    refine r_icmp_ge (tgt := 23) X dX12_mostAlike_7 (by decide) h (fun h => ?_) (fun h => ?_)
    · refine r_iconst (v := (0)) X dX12_mostAlike_23 (by decide) ?_
      refine r_istore_n (lv2 := [(3, .int ((0))), (0, .ref (ad (0))), (1, .int (p1)), (2, .int (x1))]) X dX12_mostAlike_24 rfl (by decide) rfl ?_
      exact r_sub [1, 2, 3, 0] rfl (hL25 4000 x1 ((0)) m3 h)
    · refine r_aload_n X dX12_mostAlike_10 rfl 0 rfl ?_
      refine r_getF X (k := 65) (of := 47) rfl (Lm_N Lmk_0 rfl) Lmk_0 rfl (by decide) ui_12 (by decide) uw6_45 rfl dX12_mostAlike_11 ?_
      refine r_iload_n X dX12_mostAlike_14 rfl 3 rfl ?_
      refine r_iconst (v := (0)) X dX12_mostAlike_15 (by decide) ?_
      refine r_iast X (Lm_N Lmk_47 rfl) Lmk_47 h dX12_mostAlike_16 (fun h => ?_)
      refine r_nmM h (fun m4 h => ?_)
      refine r_inc h (fun x5 e9 h => ?_)
      refine r_iinc (v := x5) (lv2 := [(3, .int (x5)), (0, .ref (ad (0))), (1, .int (p1)), (2, .int (x1))]) X dX12_mostAlike_17 3 rfl (by rw [e9]; rfl) (by decide) rfl ?_
      refine r_goto (tgt := 4) X dX12_mostAlike_20 (by decide) ?_
      exact r_sub [1, 2, 3, 0] rfl (hk4 x1 x5 m4 h)
  have hL4 : ∀ (n : Nat), ∀ (x1 : Int32) (x2 : Int32) (m3 : Mm), lop (fun _ _ _ => none) (f_X12_mostAlike_B4 p1 ) n x1 x2 m3 = some (r2, mem2) → Jd p l e ({ frames := 6, cells := 0, slots := 0, locals := 139 }) s m args below meth c 5 (MQ below (PsI Lm ad cy dC dI r2 mem2 A) args s 0 0 A) A dC dI cy Lm ad m3 4 [(0, .ref (ad (0))), (1, .int (p1)), (2, .int (x1)), (3, .int (x2))] [] := by
    intro  n
    induction n with
    | zero => intro _ _ _ h; cases h
    | succ n ih => intro a0 a1 a2 h; exact hJ4  _ ih a0 a1 a2 h
  unfold f_X12_mostAlike at h
  refine r_iconst (v := (0)) X dX12_mostAlike_0 (by decide) ?_
  refine r_istore_n (lv2 := [(2, .int ((0))), (0, .ref (ad (0))), (1, .int (p1))]) X dX12_mostAlike_1 rfl (by decide) rfl ?_
  refine r_iconst (v := (0)) X dX12_mostAlike_2 (by decide) ?_
  refine r_istore_n (lv2 := [(3, .int ((0))), (2, .int ((0))), (0, .ref (ad (0))), (1, .int (p1))]) X dX12_mostAlike_3 rfl (by decide) rfl ?_
  exact r_sub [2, 3, 1, 0] rfl (hL4 4000 ((0)) ((0)) mem h)
noncomputable def f_X12_isFound_B2 (p1 : Int32) (k2 : Int32 → Mm → Option (Int32 × Mm)) (x1 : Int32) (m2 : Mm) : Option (Int32 × Mm) :=
  if (gI m2 32 0) ≤ x1 then (grd (bok ((0))) (some ((0), m2))) else (grd (inb x1 40) (if ¬ (gI m2 33 x1.toNatClampNeg) = p1 then (bnd (x1 + (1)) fun x3 => k2 x3 m2) else (grd (bok ((1))) (some ((1), m2)))))
noncomputable def f_X12_isFound (p1 : Int32) (mem : Mm) : Option (Int32 × Mm) :=
  lop (fun _ _ => none) (f_X12_isFound_B2 p1 ) 4000 ((0)) mem
theorem dd_X12_isFound : yX12_isFound.cls = RX12 ∧ yX12_isFound.cls ≠ "java/lang/invoke/MethodHandle" ∧ yX12_isFound.cls ≠ "java/lang/invoke/VarHandle" ∧ (parseMethodDescriptor yX12_isFound.desc).map (fun d => d.parameters.length) = some 1 := by decide +kernel
set_option maxHeartbeats 4000000 in
set_option maxRecDepth 100000 in
theorem k_X12_isFound {l : Launch} {ad : Nat → Nat} {cy : Nat → ClassId} {dC : Nat → ClassId} {dI : Nat → Nat → Nat} {ks : (Nat → Nat) × (Nat → Nat)} {p1 : Int32} {mem : Mm} {r2 : Int32} {mem2 : Mm}  (h : f_X12_isFound p1 mem = some (r2, mem2)) : CtI l Lm ad cy dC dI ks yX12_isFound cX12_isFound 3 (some .boolean) ({ frames := 0, cells := 0, slots := 0, locals := 0 }) [.ref (ad (0)), .int (p1)] mem r2 mem2 := by
  refine CtI.of (cc := cX12_isFound) (maxL := 3) (ret := (some .boolean)) (own := RX12) rfl (by decide) (Nat.le_of_ble_eq_true rfl) ?_
  intro p e s m args below meth c A X
  have hts := X.2.2.2.2.1
  have hJ2 : ∀ (k2 : Int32 → Mm → Option (Int32 × Mm)) (hk2 : ∀ (x1 : Int32) (m2 : Mm), k2 x1 m2 = some (r2, mem2) → Jd p l e ({ frames := 0, cells := 0, slots := 0, locals := 0 }) s m args below meth c 3 (MQ below (PsI Lm ad cy dC dI r2 mem2 A) args s 0 0 A) A dC dI cy Lm ad m2 2 [(0, .ref (ad (0))), (1, .int (p1)), (2, .int (x1))] []) (x1 : Int32) (m2 : Mm), f_X12_isFound_B2 p1 k2 x1 m2 = some (r2, mem2) → Jd p l e ({ frames := 0, cells := 0, slots := 0, locals := 0 }) s m args below meth c 3 (MQ below (PsI Lm ad cy dC dI r2 mem2 A) args s 0 0 A) A dC dI cy Lm ad m2 2 [(0, .ref (ad (0))), (1, .int (p1)), (2, .int (x1))] [] := by
    intro k2 hk2 x1 m2 h
    unfold f_X12_isFound_B2 at h
    refine r_iload_n X dX12_isFound_2 rfl 2 rfl ?_
    refine r_aload_n X dX12_isFound_3 rfl 0 rfl ?_
    refine r_getF X (k := 46) (of := 32) rfl (Lm_N Lmk_0 rfl) Lmk_0 rfl (by decide) ui_12 (by decide) uw6_26 rfl dX12_isFound_4 ?_
    refine r_iconst (v := (0)) X dX12_isFound_7 (by decide) ?_
    refine r_iald X (Lm_N Lmk_32 rfl) Lmk_32 (g_in rfl h) dX12_isFound_8 (fun h => ?_)
    refine r_icmp_ge (tgt := 30) X dX12_isFound_9 (by decide) h (fun h => ?_) (fun h => ?_)
    · refine r_iconst (v := (0)) X dX12_isFound_30 (by decide) ?_
      exact r_zret2 X rfl dX12_isFound_31 h
    · refine r_aload_n X dX12_isFound_12 rfl 0 rfl ?_
      refine r_getF X (k := 47) (of := 33) rfl (Lm_N Lmk_0 rfl) Lmk_0 rfl (by decide) ui_12 (by decide) uw6_27 rfl dX12_isFound_13 ?_
      refine r_iload_n X dX12_isFound_16 rfl 2 rfl ?_
      refine r_iald X (Lm_N Lmk_33 rfl) Lmk_33 h dX12_isFound_17 (fun h => ?_)
      refine r_iload_n X dX12_isFound_18 rfl 1 rfl ?_
      refine r_icmp_ne (tgt := 24) X dX12_isFound_19 (by decide) h (fun h => ?_) (fun h => ?_)
      · refine r_inc h (fun x3 e9 h => ?_)
        refine r_iinc (v := x3) (lv2 := [(2, .int (x3)), (0, .ref (ad (0))), (1, .int (p1))]) X dX12_isFound_24 2 rfl (by rw [e9]; rfl) (by decide) rfl ?_
        refine r_goto (tgt := 2) X dX12_isFound_27 (by decide) ?_
        exact r_sub [1, 2, 0] rfl (hk2 x3 m2 h)
      · refine r_iconst (v := (1)) X dX12_isFound_22 (by decide) ?_
        exact r_zret2 X rfl dX12_isFound_23 h
  have hL2 : ∀ (n : Nat), ∀ (x1 : Int32) (m2 : Mm), lop (fun _ _ => none) (f_X12_isFound_B2 p1 ) n x1 m2 = some (r2, mem2) → Jd p l e ({ frames := 0, cells := 0, slots := 0, locals := 0 }) s m args below meth c 3 (MQ below (PsI Lm ad cy dC dI r2 mem2 A) args s 0 0 A) A dC dI cy Lm ad m2 2 [(0, .ref (ad (0))), (1, .int (p1)), (2, .int (x1))] [] := by
    intro  n
    induction n with
    | zero => intro _ _ h; cases h
    | succ n ih => intro a0 a1 h; exact hJ2  _ ih a0 a1 h
  unfold f_X12_isFound at h
  refine r_iconst (v := (0)) X dX12_isFound_0 (by decide) ?_
  refine r_istore_n (lv2 := [(2, .int ((0))), (0, .ref (ad (0))), (1, .int (p1))]) X dX12_isFound_1 rfl (by decide) rfl ?_
  exact r_sub [1, 2, 0] rfl (hL2 4000 ((0)) mem h)
noncomputable def f_X12_look_J53 (k15 : Int32 → Int32 → Int32 → Mm → Option (Int32 × Mm)) (x12 : Int32) (x13 : Int32) (x14 : Int32) (m15 : Mm) : Option (Int32 × Mm) :=
  bnd (x14 + (1)) fun x16 => k15 x12 x13 x16 m15
noncomputable def f_X12_look_B15 (k15 : Int32 → Int32 → Int32 → Mm → Option (Int32 × Mm)) (x4 : Int32) (x5 : Int32) (x6 : Int32) (m7 : Mm) : Option (Int32 × Mm) :=
  if ((12)) ≤ x6 then (some (x5, m7)) else (bdI (f_X12_isFound x6 m7) fun x9 m8 => if x9 = 0 then (bdI (f_X12_mostAlike x6 m8) fun x11 m10 => if x11 < x4 then (f_X12_look_J53 k15 x11 x6 x6 m10) else (f_X12_look_J53 k15 x4 x5 x6 m10)) else (f_X12_look_J53 k15 x4 x5 x6 m8))
noncomputable def f_X12_look  (mem : Mm) : Option (Int32 × Mm) :=
  bnd (sI mem 0 0 ((0))) fun m1 => bdI (f_X12_sets ((0)) m1) fun x3 m2 => lop (fun _ _ _ _ => none) (f_X12_look_B15 ) 4000 x3 ((-1)) ((0)) m2
theorem dd_X12_look : yX12_look.cls = RX12 ∧ yX12_look.cls ≠ "java/lang/invoke/MethodHandle" ∧ yX12_look.cls ≠ "java/lang/invoke/VarHandle" ∧ (parseMethodDescriptor yX12_look.desc).map (fun d => d.parameters.length) = some 0 := by decide +kernel
set_option maxHeartbeats 4000000 in
set_option maxRecDepth 100000 in
theorem k_X12_look {l : Launch} {ad : Nat → Nat} {cy : Nat → ClassId} {dC : Nat → ClassId} {dI : Nat → Nat → Nat} {ks : (Nat → Nat) × (Nat → Nat)}  {mem : Mm} {r2 : Int32} {mem2 : Mm}  (h : f_X12_look  mem = some (r2, mem2)) : CtI l Lm ad cy dC dI ks yX12_look cX12_look 5 (some .int) ({ frames := 7, cells := 0, slots := 0, locals := 164 }) [.ref (ad (0))] mem r2 mem2 := by
  refine CtI.of (cc := cX12_look) (maxL := 5) (ret := (some .int)) (own := RX12) rfl (by decide) (Nat.le_of_ble_eq_true rfl) ?_
  intro p e s m args below meth c A X
  have hts := X.2.2.2.2.1
  have hJ53 : ∀ (k15 : Int32 → Int32 → Int32 → Mm → Option (Int32 × Mm)) (hk15 : ∀ (x4 : Int32) (x5 : Int32) (x6 : Int32) (m7 : Mm), k15 x4 x5 x6 m7 = some (r2, mem2) → Jd p l e ({ frames := 7, cells := 0, slots := 0, locals := 164 }) s m args below meth c 5 (MQ below (PsI Lm ad cy dC dI r2 mem2 A) args s 0 0 A) A dC dI cy Lm ad m7 15 [(0, .ref (ad (0))), (1, .int (x4)), (2, .int (x5)), (3, .int (x6))] []) (x12 : Int32) (x13 : Int32) (x14 : Int32) (m15 : Mm), f_X12_look_J53 k15 x12 x13 x14 m15 = some (r2, mem2) → Jd p l e ({ frames := 7, cells := 0, slots := 0, locals := 164 }) s m args below meth c 5 (MQ below (PsI Lm ad cy dC dI r2 mem2 A) args s 0 0 A) A dC dI cy Lm ad m15 53 [(0, .ref (ad (0))), (1, .int (x12)), (2, .int (x13)), (3, .int (x14))] [] := by
    intro k15 hk15 x12 x13 x14 m15 h
    unfold f_X12_look_J53 at h
    refine r_inc h (fun x16 e9 h => ?_)
    refine r_iinc (v := x16) (lv2 := [(3, .int (x16)), (0, .ref (ad (0))), (1, .int (x12)), (2, .int (x13))]) X dX12_look_53 3 rfl (by rw [e9]; rfl) (by decide) rfl ?_
    refine r_goto (tgt := 15) X dX12_look_56 (by decide) ?_
    exact r_sub [1, 2, 3, 0] rfl (hk15 x12 x13 x16 m15 h)
  have hJ15 : ∀ (k15 : Int32 → Int32 → Int32 → Mm → Option (Int32 × Mm)) (hk15 : ∀ (x4 : Int32) (x5 : Int32) (x6 : Int32) (m7 : Mm), k15 x4 x5 x6 m7 = some (r2, mem2) → Jd p l e ({ frames := 7, cells := 0, slots := 0, locals := 164 }) s m args below meth c 5 (MQ below (PsI Lm ad cy dC dI r2 mem2 A) args s 0 0 A) A dC dI cy Lm ad m7 15 [(0, .ref (ad (0))), (1, .int (x4)), (2, .int (x5)), (3, .int (x6))] []) (x4 : Int32) (x5 : Int32) (x6 : Int32) (m7 : Mm), f_X12_look_B15 k15 x4 x5 x6 m7 = some (r2, mem2) → Jd p l e ({ frames := 7, cells := 0, slots := 0, locals := 164 }) s m args below meth c 5 (MQ below (PsI Lm ad cy dC dI r2 mem2 A) args s 0 0 A) A dC dI cy Lm ad m7 15 [(0, .ref (ad (0))), (1, .int (x4)), (2, .int (x5)), (3, .int (x6))] [] := by
    intro k15 hk15 x4 x5 x6 m7 h
    unfold f_X12_look_B15 at h
    refine r_iload_n X dX12_look_15 rfl 3 rfl ?_
    refine r_bipush (v := (12)) X dX12_look_16 (by decide) ?_
    refine r_icmp_ge (tgt := 59) X dX12_look_18 (by decide) h (fun h => ?_) (fun h => ?_)
    · refine r_iload_n X dX12_look_59 rfl 2 rfl ?_
      exact r_iret2 X rfl dX12_look_60 h
    · refine r_aload_n X dX12_look_21 rfl 0 rfl ?_
      refine r_iload_n X dX12_look_22 rfl 3 rfl ?_
      refine r_cVI (As := [.int (x6)]) (rest := []) X (fun r9 m9 hg => k_X12_isFound hg) h (Lm_N Lmk_0 rfl) Lmk_0 rfl (by decide) uw8_108 uw8_110 us7_9 uw1_13 uw8_111 rfl rfl dd_X12_isFound ⟨Nat.le_of_ble_eq_true rfl, Nat.le_of_ble_eq_true rfl⟩ rfl (Nat.le_of_ble_eq_true rfl) dX12_look_23 rfl (fun x9 m8 h => ?_)
      refine r_if_eq (tgt := 32) X dX12_look_26 (by decide) h (fun h => ?_) (fun h => ?_)
      · refine r_aload_n X dX12_look_32 rfl 0 rfl ?_
        refine r_iload_n X dX12_look_33 rfl 3 rfl ?_
        refine r_cVI (As := [.int (x6)]) (rest := []) X (fun r9 m9 hg => k_X12_mostAlike hg) h (Lm_N Lmk_0 rfl) Lmk_0 rfl (by decide) uw8_112 uw8_114 us7_10 uw1_13 uw8_115 rfl rfl dd_X12_mostAlike ⟨Nat.le_of_ble_eq_true rfl, Nat.le_of_ble_eq_true rfl⟩ rfl (Nat.le_of_ble_eq_true rfl) dX12_look_34 rfl (fun x11 m10 h => ?_)
        refine r_istore (lv2 := [(4, .int (x11)), (0, .ref (ad (0))), (1, .int (x4)), (2, .int (x5)), (3, .int (x6))]) X dX12_look_37 (by decide) rfl ?_
        refine r_iload X dX12_look_39 0 rfl ?_
        refine r_iload_n X dX12_look_41 rfl 2 rfl ?_
        refine r_icmp_lt (tgt := 48) X dX12_look_42 (by decide) h (fun h => ?_) (fun h => ?_)
        · refine r_iload X dX12_look_48 0 rfl ?_
          refine r_istore_n (lv2 := [(1, .int (x11)), (4, .int (x11)), (0, .ref (ad (0))), (2, .int (x5)), (3, .int (x6))]) X dX12_look_50 rfl (by decide) rfl ?_
          refine r_iload_n X dX12_look_51 rfl 4 rfl ?_
          refine r_istore_n (lv2 := [(2, .int (x6)), (1, .int (x11)), (4, .int (x11)), (0, .ref (ad (0))), (3, .int (x6))]) X dX12_look_52 rfl (by decide) rfl ?_
          exact r_sub [3, 1, 0, 4] rfl (hJ53 k15 hk15 x11 x6 x6 m10 h)
        · refine r_goto (tgt := 53) X dX12_look_45 (by decide) ?_
          exact r_sub [1, 2, 3, 4] rfl (hJ53 k15 hk15 x4 x5 x6 m10 h)
      · refine r_goto (tgt := 53) X dX12_look_29 (by decide) ?_
        exact r_sub [0, 1, 2, 3] rfl (hJ53 k15 hk15 x4 x5 x6 m8 h)
  have hL15 : ∀ (n : Nat), ∀ (x4 : Int32) (x5 : Int32) (x6 : Int32) (m7 : Mm), lop (fun _ _ _ _ => none) (f_X12_look_B15 ) n x4 x5 x6 m7 = some (r2, mem2) → Jd p l e ({ frames := 7, cells := 0, slots := 0, locals := 164 }) s m args below meth c 5 (MQ below (PsI Lm ad cy dC dI r2 mem2 A) args s 0 0 A) A dC dI cy Lm ad m7 15 [(0, .ref (ad (0))), (1, .int (x4)), (2, .int (x5)), (3, .int (x6))] [] := by
    intro  n
    induction n with
    | zero => intro _ _ _ _ h; cases h
    | succ n ih => intro a0 a1 a2 a3 h; exact hJ15  _ ih a0 a1 a2 a3 h
  unfold f_X12_look at h
  refine r_aload_n X dX12_look_0 rfl 0 rfl ?_
  refine r_iconst (v := (0)) X dX12_look_1 (by decide) ?_
  refine r_putI X (k := 0) (Lm_N Lmk_0 rfl) Lmk_0 rfl (by decide) ui_12 (by decide) uw5_220 tyX12_ok nmX12 rfl rfl rfl dX12_look_2 ?_
  refine r_nmM h (fun m1 h => ?_)
  refine r_aload_n X dX12_look_5 rfl 0 rfl ?_
  refine r_iconst (v := (0)) X dX12_look_6 (by decide) ?_
  refine r_cVI (As := [.int ((0))]) (rest := []) X (fun r9 m9 hg => k_X12_sets hg) h (Lm_N Lmk_0 rfl) Lmk_0 rfl (by decide) uw8_107 uw8_92 uw8_93 uw1_13 uw8_94 rfl rfl dd_X12_sets ⟨Nat.le_of_ble_eq_true rfl, Nat.le_of_ble_eq_true rfl⟩ rfl (Nat.le_of_ble_eq_true rfl) dX12_look_7 rfl (fun x3 m2 h => ?_)
  refine r_istore_n (lv2 := [(1, .int (x3)), (0, .ref (ad (0)))]) X dX12_look_10 rfl (by decide) rfl ?_
  refine r_iconst (v := (-1)) X dX12_look_11 (by decide) ?_
  refine r_istore_n (lv2 := [(2, .int ((-1))), (1, .int (x3)), (0, .ref (ad (0)))]) X dX12_look_12 rfl (by decide) rfl ?_
  refine r_iconst (v := (0)) X dX12_look_13 (by decide) ?_
  refine r_istore_n (lv2 := [(3, .int ((0))), (2, .int ((-1))), (1, .int (x3)), (0, .ref (ad (0)))]) X dX12_look_14 rfl (by decide) rfl ?_
  exact r_sub [3, 2, 1, 0] rfl (hL15 4000 x3 ((-1)) ((0)) m2 h)
noncomputable def f_X12_share_B19 (p1 : Int32) (k19 : Int32 → Int32 → Mm → Option (Int32 × Mm)) (x4 : Int32) (x5 : Int32) (m6 : Mm) : Option (Int32 × Mm) :=
  if (gI m6 2 1) ≤ x5 then (bdI (f_X12_allStrikes p1 m6) fun x8 m7 => grd (decide (¬ x4 = 0)) (some ((((gI m6 2 6) * ((1000))) * x8) / x4, m7))) else (bdI (f_X12_allStrikes x5 m6) fun x10 m9 => bnd (x4 + x10) fun x11 => bnd (x5 + (1)) fun x12 => k19 x11 x12 m9)
noncomputable def f_X12_share (p1 : Int32) (mem : Mm) : Option (Int32 × Mm) :=
  bnd (sI mem 0 0 ((0))) fun m1 => bdI (f_X12_isPasser p1 m1) fun x3 m2 => if ¬ x3 = 0 then (lop (fun _ _ _ => none) (f_X12_share_B19 p1 ) 4000 ((0)) ((0)) m2) else (some ((-1), m2))
theorem dd_X12_share : yX12_share.cls = RX12 ∧ yX12_share.cls ≠ "java/lang/invoke/MethodHandle" ∧ yX12_share.cls ≠ "java/lang/invoke/VarHandle" ∧ (parseMethodDescriptor yX12_share.desc).map (fun d => d.parameters.length) = some 1 := by decide +kernel
set_option maxHeartbeats 4000000 in
set_option maxRecDepth 100000 in
theorem k_X12_share {l : Launch} {ad : Nat → Nat} {cy : Nat → ClassId} {dC : Nat → ClassId} {dI : Nat → Nat → Nat} {ks : (Nat → Nat) × (Nat → Nat)} {p1 : Int32} {mem : Mm} {r2 : Int32} {mem2 : Mm}  (h : f_X12_share p1 mem = some (r2, mem2)) : CtI l Lm ad cy dC dI ks yX12_share cX12_share 4 (some .int) ({ frames := 3, cells := 0, slots := 0, locals := 64 }) [.ref (ad (0)), .int (p1)] mem r2 mem2 := by
  refine CtI.of (cc := cX12_share) (maxL := 4) (ret := (some .int)) (own := RX12) rfl (by decide) (Nat.le_of_ble_eq_true rfl) ?_
  intro p e s m args below meth c A X
  have hts := X.2.2.2.2.1
  have hJ19 : ∀ (k19 : Int32 → Int32 → Mm → Option (Int32 × Mm)) (hk19 : ∀ (x4 : Int32) (x5 : Int32) (m6 : Mm), k19 x4 x5 m6 = some (r2, mem2) → Jd p l e ({ frames := 3, cells := 0, slots := 0, locals := 64 }) s m args below meth c 4 (MQ below (PsI Lm ad cy dC dI r2 mem2 A) args s 0 0 A) A dC dI cy Lm ad m6 19 [(0, .ref (ad (0))), (1, .int (p1)), (2, .int (x4)), (3, .int (x5))] []) (x4 : Int32) (x5 : Int32) (m6 : Mm), f_X12_share_B19 p1 k19 x4 x5 m6 = some (r2, mem2) → Jd p l e ({ frames := 3, cells := 0, slots := 0, locals := 64 }) s m args below meth c 4 (MQ below (PsI Lm ad cy dC dI r2 mem2 A) args s 0 0 A) A dC dI cy Lm ad m6 19 [(0, .ref (ad (0))), (1, .int (p1)), (2, .int (x4)), (3, .int (x5))] [] := by
    intro k19 hk19 x4 x5 m6 h
    unfold f_X12_share_B19 at h
    refine r_iload_n X dX12_share_19 rfl 3 rfl ?_
    refine r_aload_n X dX12_share_20 rfl 0 rfl ?_
    refine r_getF X (k := 10) (of := 2) rfl (Lm_N Lmk_0 rfl) Lmk_0 rfl (by decide) ui_12 (by decide) uw5_230 rfl dX12_share_21 ?_
    refine r_iconst (v := (1)) X dX12_share_24 (by decide) ?_
    refine r_iald X (Lm_N Lmk_2 rfl) Lmk_2 (g_in rfl h) dX12_share_25 (fun h => ?_)
    refine r_icmp_ge (tgt := 43) X dX12_share_26 (by decide) h (fun h => ?_) (fun h => ?_)
    · refine r_aload_n X dX12_share_43 rfl 0 rfl ?_
      refine r_getF X (k := 10) (of := 2) rfl (Lm_N Lmk_0 rfl) Lmk_0 rfl (by decide) ui_12 (by decide) uw5_230 rfl dX12_share_44 ?_
      refine r_bipush (v := (6)) X dX12_share_47 (by decide) ?_
      refine r_iald X (Lm_N Lmk_2 rfl) Lmk_2 (g_in rfl h) dX12_share_49 (fun h => ?_)
      refine r_sipush (v := (1000)) X dX12_share_50 (by decide) ?_
      refine r_imul X dX12_share_53 ?_
      refine r_aload_n X dX12_share_54 rfl 0 rfl ?_
      refine r_iload_n X dX12_share_55 rfl 1 rfl ?_
      refine r_cVI (As := [.int (p1)]) (rest := [.int ((gI m6 2 6) * ((1000)))]) X (fun r9 m9 hg => k_X12_allStrikes hg) h (Lm_N Lmk_0 rfl) Lmk_0 rfl (by decide) uw7_177 uw7_179 us6_6 uw1_13 uw7_180 rfl rfl dd_X12_allStrikes ⟨Nat.le_of_ble_eq_true rfl, Nat.le_of_ble_eq_true rfl⟩ rfl (Nat.le_of_ble_eq_true rfl) dX12_share_56 rfl (fun x8 m7 h => ?_)
      refine r_imul X dX12_share_59 ?_
      refine r_iload_n X dX12_share_60 rfl 2 rfl ?_
      refine r_div h (fun hz h => ?_)
      refine r_idiv X dX12_share_61 hz ?_
      exact r_iret2 X rfl dX12_share_62 h
    · refine r_iload_n X dX12_share_29 rfl 2 rfl ?_
      refine r_aload_n X dX12_share_30 rfl 0 rfl ?_
      refine r_iload_n X dX12_share_31 rfl 3 rfl ?_
      refine r_cVI (As := [.int (x5)]) (rest := [.int (x4)]) X (fun r9 m9 hg => k_X12_allStrikes hg) h (Lm_N Lmk_0 rfl) Lmk_0 rfl (by decide) uw7_177 uw7_179 us6_6 uw1_13 uw7_180 rfl rfl dd_X12_allStrikes ⟨Nat.le_of_ble_eq_true rfl, Nat.le_of_ble_eq_true rfl⟩ rfl (Nat.le_of_ble_eq_true rfl) dX12_share_32 rfl (fun x10 m9 h => ?_)
      refine r_iadd X dX12_share_35 ?_
      refine r_nmI h (fun x11 h => ?_)
      refine r_istore_n (lv2 := [(2, .int (x11)), (0, .ref (ad (0))), (1, .int (p1)), (3, .int (x5))]) X dX12_share_36 rfl (by decide) rfl ?_
      refine r_inc h (fun x12 e9 h => ?_)
      refine r_iinc (v := x12) (lv2 := [(3, .int (x12)), (2, .int (x11)), (0, .ref (ad (0))), (1, .int (p1))]) X dX12_share_37 3 rfl (by rw [e9]; rfl) (by decide) rfl ?_
      refine r_goto (tgt := 19) X dX12_share_40 (by decide) ?_
      exact r_sub [2, 3, 1, 0] rfl (hk19 x11 x12 m9 h)
  have hL19 : ∀ (n : Nat), ∀ (x4 : Int32) (x5 : Int32) (m6 : Mm), lop (fun _ _ _ => none) (f_X12_share_B19 p1 ) n x4 x5 m6 = some (r2, mem2) → Jd p l e ({ frames := 3, cells := 0, slots := 0, locals := 64 }) s m args below meth c 4 (MQ below (PsI Lm ad cy dC dI r2 mem2 A) args s 0 0 A) A dC dI cy Lm ad m6 19 [(0, .ref (ad (0))), (1, .int (p1)), (2, .int (x4)), (3, .int (x5))] [] := by
    intro  n
    induction n with
    | zero => intro _ _ _ h; cases h
    | succ n ih => intro a0 a1 a2 h; exact hJ19  _ ih a0 a1 a2 h
  unfold f_X12_share at h
  refine r_aload_n X dX12_share_0 rfl 0 rfl ?_
  refine r_iconst (v := (0)) X dX12_share_1 (by decide) ?_
  refine r_putI X (k := 0) (Lm_N Lmk_0 rfl) Lmk_0 rfl (by decide) ui_12 (by decide) uw5_220 tyX12_ok nmX12 rfl rfl rfl dX12_share_2 ?_
  refine r_nmM h (fun m1 h => ?_)
  refine r_aload_n X dX12_share_5 rfl 0 rfl ?_
  refine r_iload_n X dX12_share_6 rfl 1 rfl ?_
  refine r_cVI (As := [.int (p1)]) (rest := []) X (fun r9 m9 hg => k_X12_isPasser hg) h (Lm_N Lmk_0 rfl) Lmk_0 rfl (by decide) uw7_113 uw7_115 us5_10 uw1_13 uw7_116 rfl rfl dd_X12_isPasser ⟨Nat.le_of_ble_eq_true rfl, Nat.le_of_ble_eq_true rfl⟩ rfl (Nat.le_of_ble_eq_true rfl) dX12_share_7 rfl (fun x3 m2 h => ?_)
  refine r_if_ne (tgt := 15) X dX12_share_10 (by decide) h (fun h => ?_) (fun h => ?_)
  · refine r_iconst (v := (0)) X dX12_share_15 (by decide) ?_
    refine r_istore_n (lv2 := [(2, .int ((0))), (0, .ref (ad (0))), (1, .int (p1))]) X dX12_share_16 rfl (by decide) rfl ?_
    refine r_iconst (v := (0)) X dX12_share_17 (by decide) ?_
    refine r_istore_n (lv2 := [(3, .int ((0))), (2, .int ((0))), (0, .ref (ad (0))), (1, .int (p1))]) X dX12_share_18 rfl (by decide) rfl ?_
    exact r_sub [2, 3, 1, 0] rfl (hL19 4000 ((0)) ((0)) m2 h)
  · refine r_iconst (v := (-1)) X dX12_share_13 (by decide) ?_
    exact r_iret2 X rfl dX12_share_14 h
noncomputable def f_X12_getsBy (p0 : Int32) (p1 : Int32) (p2 : Int32) (p3 : Int32) (p4 : Int32) (mem : Mm) : Option (Int32 × Mm) :=
  if ¬ p3 = ((1)) then (if ¬ p4 = ((1)) then (some ((0), mem)) else (some (p2, mem))) else (if ¬ p4 = ((1)) then (some (p1, mem)) else (some (-p0, mem)))
theorem dd_X12_getsBy : yX12_getsBy.cls ≠ "java/lang/invoke/MethodHandle" ∧ yX12_getsBy.cls ≠ "java/lang/invoke/VarHandle" ∧ (parseMethodDescriptor yX12_getsBy.desc).map (fun d => d.parameters.length) = some 5 := by decide +kernel
set_option maxHeartbeats 4000000 in
set_option maxRecDepth 100000 in
theorem k_X12_getsBy {l : Launch} {ad : Nat → Nat} {cy : Nat → ClassId} {dC : Nat → ClassId} {dI : Nat → Nat → Nat} {ks : (Nat → Nat) × (Nat → Nat)} {p0 : Int32} {p1 : Int32} {p2 : Int32} {p3 : Int32} {p4 : Int32} {mem : Mm} {r2 : Int32} {mem2 : Mm}  (h : f_X12_getsBy p0 p1 p2 p3 p4 mem = some (r2, mem2)) : CtI l Lm ad cy dC dI ks yX12_getsBy cX12_getsBy 5 (some .int) ({ frames := 0, cells := 0, slots := 0, locals := 0 }) [.int (p0), .int (p1), .int (p2), .int (p3), .int (p4)] mem r2 mem2 := by
  refine CtI.of (cc := cX12_getsBy) (maxL := 5) (ret := (some .int)) (own := RX12) rfl (by decide) (Nat.le_of_ble_eq_true rfl) ?_
  intro p e s m args below meth c A X
  have hts := X.2.2.2.2.1
  unfold f_X12_getsBy at h
  refine r_iload_n X dX12_getsBy_0 rfl 3 rfl ?_
  refine r_iconst (v := (1)) X dX12_getsBy_1 (by decide) ?_
  refine r_icmp_ne (tgt := 20) X dX12_getsBy_2 (by decide) h (fun h => ?_) (fun h => ?_)
  · refine r_iload X dX12_getsBy_20 4 rfl ?_
    refine r_iconst (v := (1)) X dX12_getsBy_22 (by decide) ?_
    refine r_icmp_ne (tgt := 30) X dX12_getsBy_23 (by decide) h (fun h => ?_) (fun h => ?_)
    · refine r_iconst (v := (0)) X dX12_getsBy_30 (by decide) ?_
      exact r_iret2 X rfl dX12_getsBy_31 h
    · refine r_iload_n X dX12_getsBy_26 rfl 2 rfl ?_
      refine r_goto (tgt := 31) X dX12_getsBy_27 (by decide) ?_
      exact r_iret2 X rfl dX12_getsBy_31 h
  · refine r_iload X dX12_getsBy_5 4 rfl ?_
    refine r_iconst (v := (1)) X dX12_getsBy_7 (by decide) ?_
    refine r_icmp_ne (tgt := 16) X dX12_getsBy_8 (by decide) h (fun h => ?_) (fun h => ?_)
    · refine r_iload_n X dX12_getsBy_16 rfl 1 rfl ?_
      refine r_goto (tgt := 31) X dX12_getsBy_17 (by decide) ?_
      exact r_iret2 X rfl dX12_getsBy_31 h
    · refine r_iload_n X dX12_getsBy_11 rfl 0 rfl ?_
      refine r_ineg X dX12_getsBy_12 ?_
      refine r_goto (tgt := 31) X dX12_getsBy_13 (by decide) ?_
      exact r_iret2 X rfl dX12_getsBy_31 h
noncomputable def f_X12_rests_J145 (p1 : Int32) (p2 : Int32) (p3 : Int32) (p4 : Int32) (k61 : Int32 → Int32 → Mm → Option (Int32 × Mm)) (x29 : Int32) (x30 : Int32) (m31 : Mm) : Option (Int32 × Mm) :=
  bnd (x30 + (1)) fun x32 => k61 x29 x32 m31
noncomputable def f_X12_rests_J163 (p1 : Int32) (p2 : Int32) (p3 : Int32) (p4 : Int32) (x25 : Int32) (x26 : Int32) (m27 : Mm) : Option (Int32 × Mm) :=
  bnd (sI m27 0 0 x26) fun m28 => if ¬ p4 = ((-1)) then (some ((0), m28)) else (some (x25, m28))
noncomputable def f_X12_rests_B61 (p1 : Int32) (p2 : Int32) (p3 : Int32) (p4 : Int32) (k61 : Int32 → Int32 → Mm → Option (Int32 × Mm)) (x11 : Int32) (x12 : Int32) (m13 : Mm) : Option (Int32 × Mm) :=
  if ((4)) ≤ x12 then (if ¬ p4 = ((-1)) then (f_X12_rests_J163 p1 p2 p3 p4 x11 ((1)) m13) else (f_X12_rests_J163 p1 p2 p3 p4 x11 ((0)) m13)) else (grd (decide (¬ (2 : Int32) = 0)) (bnd (x12 / ((2))) fun x14 => grd (decide (¬ (2 : Int32) = 0)) (bnd (x12 - x12 / ((2)) * ((2))) fun x15 => bdI (f_X12_getsBy p1 p2 p3 (((1)) - x14) x15 m13) fun x17 m16 => bdI (f_X12_getsBy p1 p2 p3 x14 x15 m16) fun x19 m18 => if x19 < x17 then (f_X12_rests_J145 p1 p2 p3 p4 k61 x11 x12 m18) else (bdI (f_X12_getsBy p1 p2 p3 (((1)) - x15) x14 m18) fun x21 m20 => bdI (f_X12_getsBy p1 p2 p3 x15 x14 m20) fun x23 m22 => if x21 ≤ x23 then (if ¬ x11 = p4 then (bnd (x11 + (1)) fun x24 => f_X12_rests_J145 p1 p2 p3 p4 k61 x24 x12 m22) else (some (x12, m22))) else (f_X12_rests_J145 p1 p2 p3 p4 k61 x11 x12 m22)))))
noncomputable def f_X12_rests_J42 (p1 : Int32) (p2 : Int32) (p3 : Int32) (p4 : Int32) (x8 : Int32) (m9 : Mm) : Option (Int32 × Mm) :=
  bnd (sI m9 0 0 x8) fun m10 => if ¬ (gI m10 0 0) = ((1)) then (lop (fun _ _ _ => none) (f_X12_rests_B61 p1 p2 p3 p4 ) 4000 ((0)) ((0)) m10) else (some ((0), m10))
noncomputable def f_X12_rests_J41 (p1 : Int32) (p2 : Int32) (p3 : Int32) (p4 : Int32) (m7 : Mm) : Option (Int32 × Mm) :=
  f_X12_rests_J42 p1 p2 p3 p4 ((1)) m7
noncomputable def f_X12_rests (p1 : Int32) (p2 : Int32) (p3 : Int32) (p4 : Int32) (mem : Mm) : Option (Int32 × Mm) :=
  bdI (f_X12_within p1 ((0)) ((9)) mem) fun x2 m1 => if x2 = 0 then (f_X12_rests_J41 p1 p2 p3 p4 m1) else (bdI (f_X12_within p2 ((0)) ((9)) m1) fun x4 m3 => if x4 = 0 then (f_X12_rests_J41 p1 p2 p3 p4 m3) else (bdI (f_X12_within p3 ((0)) ((9)) m3) fun x6 m5 => if x6 = 0 then (f_X12_rests_J41 p1 p2 p3 p4 m5) else (if p4 < ((-1)) then (f_X12_rests_J41 p1 p2 p3 p4 m5) else (f_X12_rests_J42 p1 p2 p3 p4 ((0)) m5))))
theorem dd_X12_rests : yX12_rests.cls = RX12 ∧ yX12_rests.cls ≠ "java/lang/invoke/MethodHandle" ∧ yX12_rests.cls ≠ "java/lang/invoke/VarHandle" ∧ (parseMethodDescriptor yX12_rests.desc).map (fun d => d.parameters.length) = some 4 := by decide +kernel
set_option maxHeartbeats 4000000 in
set_option maxRecDepth 100000 in
theorem k_X12_rests {l : Launch} {ad : Nat → Nat} {cy : Nat → ClassId} {dC : Nat → ClassId} {dI : Nat → Nat → Nat} {ks : (Nat → Nat) × (Nat → Nat)} {p1 : Int32} {p2 : Int32} {p3 : Int32} {p4 : Int32} {mem : Mm} {r2 : Int32} {mem2 : Mm}  (h : f_X12_rests p1 p2 p3 p4 mem = some (r2, mem2)) : CtI l Lm ad cy dC dI ks yX12_rests cX12_rests 9 (some .int) ({ frames := 1, cells := 0, slots := 0, locals := 24 }) [.ref (ad (0)), .int (p1), .int (p2), .int (p3), .int (p4)] mem r2 mem2 := by
  refine CtI.of (cc := cX12_rests) (maxL := 9) (ret := (some .int)) (own := RX12) rfl (by decide) (Nat.le_of_ble_eq_true rfl) ?_
  intro p e s m args below meth c A X
  have hts := X.2.2.2.2.1
  have hJ145 : ∀ (k61 : Int32 → Int32 → Mm → Option (Int32 × Mm)) (hk61 : ∀ (x11 : Int32) (x12 : Int32) (m13 : Mm), k61 x11 x12 m13 = some (r2, mem2) → Jd p l e ({ frames := 1, cells := 0, slots := 0, locals := 24 }) s m args below meth c 9 (MQ below (PsI Lm ad cy dC dI r2 mem2 A) args s 0 0 A) A dC dI cy Lm ad m13 61 [(0, .ref (ad (0))), (1, .int (p1)), (2, .int (p2)), (3, .int (p3)), (4, .int (p4)), (5, .int (x11)), (6, .int (x12))] []) (x29 : Int32) (x30 : Int32) (m31 : Mm), f_X12_rests_J145 p1 p2 p3 p4 k61 x29 x30 m31 = some (r2, mem2) → Jd p l e ({ frames := 1, cells := 0, slots := 0, locals := 24 }) s m args below meth c 9 (MQ below (PsI Lm ad cy dC dI r2 mem2 A) args s 0 0 A) A dC dI cy Lm ad m31 145 [(0, .ref (ad (0))), (1, .int (p1)), (2, .int (p2)), (3, .int (p3)), (4, .int (p4)), (5, .int (x29)), (6, .int (x30))] [] := by
    intro k61 hk61 x29 x30 m31 h
    unfold f_X12_rests_J145 at h
    refine r_inc h (fun x32 e9 h => ?_)
    refine r_iinc (v := x32) (lv2 := [(6, .int (x32)), (0, .ref (ad (0))), (1, .int (p1)), (2, .int (p2)), (3, .int (p3)), (4, .int (p4)), (5, .int (x29))]) X dX12_rests_145 6 rfl (by rw [e9]; rfl) (by decide) rfl ?_
    refine r_goto (tgt := 61) X dX12_rests_148 (by decide) ?_
    exact r_sub [1, 2, 3, 4, 5, 6, 0] rfl (hk61 x29 x32 m31 h)
  have hJ163 : ∀ (x25 : Int32) (x26 : Int32) (m27 : Mm), f_X12_rests_J163 p1 p2 p3 p4 x25 x26 m27 = some (r2, mem2) → Jd p l e ({ frames := 1, cells := 0, slots := 0, locals := 24 }) s m args below meth c 9 (MQ below (PsI Lm ad cy dC dI r2 mem2 A) args s 0 0 A) A dC dI cy Lm ad m27 163 [(4, .int (p4)), (5, .int (x25))] [.int (x26), .ref (ad (0))] := by
    intro x25 x26 m27 h
    unfold f_X12_rests_J163 at h
    refine r_putI X (k := 0) (Lm_N Lmk_0 rfl) Lmk_0 rfl (by decide) ui_12 (by decide) uw5_220 tyX12_ok nmX12 rfl rfl rfl dX12_rests_163 ?_
    refine r_nmM h (fun m28 h => ?_)
    refine r_iload X dX12_rests_166 0 rfl ?_
    refine r_iconst (v := (-1)) X dX12_rests_168 (by decide) ?_
    refine r_icmp_ne (tgt := 177) X dX12_rests_169 (by decide) h (fun h => ?_) (fun h => ?_)
    · refine r_iconst (v := (0)) X dX12_rests_177 (by decide) ?_
      exact r_iret2 X rfl dX12_rests_178 h
    · refine r_iload X dX12_rests_172 1 rfl ?_
      refine r_goto (tgt := 178) X dX12_rests_174 (by decide) ?_
      exact r_iret2 X rfl dX12_rests_178 h
  have hJ61 : ∀ (k61 : Int32 → Int32 → Mm → Option (Int32 × Mm)) (hk61 : ∀ (x11 : Int32) (x12 : Int32) (m13 : Mm), k61 x11 x12 m13 = some (r2, mem2) → Jd p l e ({ frames := 1, cells := 0, slots := 0, locals := 24 }) s m args below meth c 9 (MQ below (PsI Lm ad cy dC dI r2 mem2 A) args s 0 0 A) A dC dI cy Lm ad m13 61 [(0, .ref (ad (0))), (1, .int (p1)), (2, .int (p2)), (3, .int (p3)), (4, .int (p4)), (5, .int (x11)), (6, .int (x12))] []) (x11 : Int32) (x12 : Int32) (m13 : Mm), f_X12_rests_B61 p1 p2 p3 p4 k61 x11 x12 m13 = some (r2, mem2) → Jd p l e ({ frames := 1, cells := 0, slots := 0, locals := 24 }) s m args below meth c 9 (MQ below (PsI Lm ad cy dC dI r2 mem2 A) args s 0 0 A) A dC dI cy Lm ad m13 61 [(0, .ref (ad (0))), (1, .int (p1)), (2, .int (p2)), (3, .int (p3)), (4, .int (p4)), (5, .int (x11)), (6, .int (x12))] [] := by
    intro k61 hk61 x11 x12 m13 h
    unfold f_X12_rests_B61 at h
    refine r_iload X dX12_rests_61 6 rfl ?_
    refine r_iconst (v := (4)) X dX12_rests_63 (by decide) ?_
    refine r_icmp_ge (tgt := 151) X dX12_rests_64 (by decide) h (fun h => ?_) (fun h => ?_)
    · refine r_aload_n X dX12_rests_151 rfl 0 rfl ?_
      refine r_iload X dX12_rests_152 4 rfl ?_
      refine r_iconst (v := (-1)) X dX12_rests_154 (by decide) ?_
      refine r_icmp_ne (tgt := 162) X dX12_rests_155 (by decide) h (fun h => ?_) (fun h => ?_)
      · refine r_iconst (v := (1)) X dX12_rests_162 (by decide) ?_
        exact r_sub [4, 5] rfl (hJ163 x11 ((1)) m13 h)
      · refine r_iconst (v := (0)) X dX12_rests_158 (by decide) ?_
        refine r_goto (tgt := 163) X dX12_rests_159 (by decide) ?_
        exact r_sub [4, 5] rfl (hJ163 x11 ((0)) m13 h)
    · refine r_iload X dX12_rests_67 6 rfl ?_
      refine r_iconst (v := (2)) X dX12_rests_69 (by decide) ?_
      refine r_div h (fun hz h => ?_)
      refine r_idiv X dX12_rests_70 hz ?_
      refine r_nmI h (fun x14 h => ?_)
      refine r_istore (lv2 := [(7, .int (x14)), (0, .ref (ad (0))), (1, .int (p1)), (2, .int (p2)), (3, .int (p3)), (4, .int (p4)), (5, .int (x11)), (6, .int (x12))]) X dX12_rests_71 (by decide) rfl ?_
      refine r_iload X dX12_rests_73 7 rfl ?_
      refine r_iconst (v := (2)) X dX12_rests_75 (by decide) ?_
      refine r_div h (fun hz h => ?_)
      refine r_irem X dX12_rests_76 hz ?_
      refine r_nmI h (fun x15 h => ?_)
      refine r_istore (lv2 := [(8, .int (x15)), (7, .int (x14)), (0, .ref (ad (0))), (1, .int (p1)), (2, .int (p2)), (3, .int (p3)), (4, .int (p4)), (5, .int (x11)), (6, .int (x12))]) X dX12_rests_77 (by decide) rfl ?_
      refine r_iload_n X dX12_rests_79 rfl 3 rfl ?_
      refine r_iload_n X dX12_rests_80 rfl 4 rfl ?_
      refine r_iload_n X dX12_rests_81 rfl 5 rfl ?_
      refine r_iconst (v := (1)) X dX12_rests_82 (by decide) ?_
      refine r_iload X dX12_rests_83 1 rfl ?_
      refine r_isub X dX12_rests_85 ?_
      refine r_iload X dX12_rests_86 0 rfl ?_
      refine r_cSI (As := [.int (p1), .int (p2), .int (p3), .int (((1)) - x14), .int (x15)]) (rest := []) X (fun r9 m9 hg => k_X12_getsBy hg) h uw8_125 uw8_126 uw1_13 uw8_127 rfl rfl dd_X12_getsBy ⟨Nat.le_of_ble_eq_true rfl, Nat.le_of_ble_eq_true rfl⟩ rfl (Nat.le_of_ble_eq_true rfl) dX12_rests_88 rfl (fun x17 m16 h => ?_)
      refine r_iload_n X dX12_rests_91 rfl 3 rfl ?_
      refine r_iload_n X dX12_rests_92 rfl 4 rfl ?_
      refine r_iload_n X dX12_rests_93 rfl 5 rfl ?_
      refine r_iload X dX12_rests_94 1 rfl ?_
      refine r_iload X dX12_rests_96 0 rfl ?_
      refine r_cSI (As := [.int (p1), .int (p2), .int (p3), .int (x14), .int (x15)]) (rest := [.int (x17)]) X (fun r9 m9 hg => k_X12_getsBy hg) h uw8_125 uw8_126 uw1_13 uw8_127 rfl rfl dd_X12_getsBy ⟨Nat.le_of_ble_eq_true rfl, Nat.le_of_ble_eq_true rfl⟩ rfl (Nat.le_of_ble_eq_true rfl) dX12_rests_98 rfl (fun x19 m18 h => ?_)
      refine r_icmp_gt (tgt := 145) X dX12_rests_101 (by decide) h (fun h => ?_) (fun h => ?_)
      · exact r_sub [2, 3, 4, 5, 6, 7, 8] rfl (hJ145 k61 hk61 x11 x12 m18 h)
      · refine r_iload_n X dX12_rests_104 rfl 3 rfl ?_
        refine r_iload_n X dX12_rests_105 rfl 4 rfl ?_
        refine r_iload_n X dX12_rests_106 rfl 5 rfl ?_
        refine r_iconst (v := (1)) X dX12_rests_107 (by decide) ?_
        refine r_iload X dX12_rests_108 0 rfl ?_
        refine r_isub X dX12_rests_110 ?_
        refine r_iload X dX12_rests_111 1 rfl ?_
        refine r_cSI (As := [.int (p1), .int (p2), .int (p3), .int (((1)) - x15), .int (x14)]) (rest := []) X (fun r9 m9 hg => k_X12_getsBy hg) h uw8_125 uw8_126 uw1_13 uw8_127 rfl rfl dd_X12_getsBy ⟨Nat.le_of_ble_eq_true rfl, Nat.le_of_ble_eq_true rfl⟩ rfl (Nat.le_of_ble_eq_true rfl) dX12_rests_113 rfl (fun x21 m20 h => ?_)
        refine r_iload_n X dX12_rests_116 rfl 3 rfl ?_
        refine r_iload_n X dX12_rests_117 rfl 4 rfl ?_
        refine r_iload_n X dX12_rests_118 rfl 5 rfl ?_
        refine r_iload X dX12_rests_119 0 rfl ?_
        refine r_iload X dX12_rests_121 1 rfl ?_
        refine r_cSI (As := [.int (p1), .int (p2), .int (p3), .int (x15), .int (x14)]) (rest := [.int (x21)]) X (fun r9 m9 hg => k_X12_getsBy hg) h uw8_125 uw8_126 uw1_13 uw8_127 rfl rfl dd_X12_getsBy ⟨Nat.le_of_ble_eq_true rfl, Nat.le_of_ble_eq_true rfl⟩ rfl (Nat.le_of_ble_eq_true rfl) dX12_rests_123 rfl (fun x23 m22 h => ?_)
        refine r_icmp_le (tgt := 132) X dX12_rests_126 (by decide) h (fun h => ?_) (fun h => ?_)
        · refine r_iload X dX12_rests_132 7 rfl ?_
          refine r_iload X dX12_rests_134 6 rfl ?_
          refine r_icmp_ne (tgt := 142) X dX12_rests_136 (by decide) h (fun h => ?_) (fun h => ?_)
          · refine r_inc h (fun x24 e9 h => ?_)
            refine r_iinc (v := x24) (lv2 := [(5, .int (x24)), (8, .int (x15)), (7, .int (x14)), (0, .ref (ad (0))), (1, .int (p1)), (2, .int (p2)), (3, .int (p3)), (4, .int (p4)), (6, .int (x12))]) X dX12_rests_142 7 rfl (by rw [e9]; rfl) (by decide) rfl ?_
            exact r_sub [3, 4, 5, 6, 7, 0, 8] rfl (hJ145 k61 hk61 x24 x12 m22 h)
          · refine r_iload X dX12_rests_139 8 rfl ?_
            exact r_iret2 X rfl dX12_rests_141 h
        · refine r_goto (tgt := 145) X dX12_rests_129 (by decide) ?_
          exact r_sub [2, 3, 4, 5, 6, 7, 8] rfl (hJ145 k61 hk61 x11 x12 m22 h)
  have hL61 : ∀ (n : Nat), ∀ (x11 : Int32) (x12 : Int32) (m13 : Mm), lop (fun _ _ _ => none) (f_X12_rests_B61 p1 p2 p3 p4 ) n x11 x12 m13 = some (r2, mem2) → Jd p l e ({ frames := 1, cells := 0, slots := 0, locals := 24 }) s m args below meth c 9 (MQ below (PsI Lm ad cy dC dI r2 mem2 A) args s 0 0 A) A dC dI cy Lm ad m13 61 [(0, .ref (ad (0))), (1, .int (p1)), (2, .int (p2)), (3, .int (p3)), (4, .int (p4)), (5, .int (x11)), (6, .int (x12))] [] := by
    intro  n
    induction n with
    | zero => intro _ _ _ h; cases h
    | succ n ih => intro a0 a1 a2 h; exact hJ61  _ ih a0 a1 a2 h
  have hJ42 : ∀ (x8 : Int32) (m9 : Mm), f_X12_rests_J42 p1 p2 p3 p4 x8 m9 = some (r2, mem2) → Jd p l e ({ frames := 1, cells := 0, slots := 0, locals := 24 }) s m args below meth c 9 (MQ below (PsI Lm ad cy dC dI r2 mem2 A) args s 0 0 A) A dC dI cy Lm ad m9 42 [(0, .ref (ad (0))), (1, .int (p1)), (2, .int (p2)), (3, .int (p3)), (4, .int (p4))] [.int (x8), .ref (ad (0))] := by
    intro x8 m9 h
    unfold f_X12_rests_J42 at h
    refine r_putI X (k := 0) (Lm_N Lmk_0 rfl) Lmk_0 rfl (by decide) ui_12 (by decide) uw5_220 tyX12_ok nmX12 rfl rfl rfl dX12_rests_42 ?_
    refine r_nmM h (fun m10 h => ?_)
    refine r_aload_n X dX12_rests_45 rfl 0 rfl ?_
    refine r_getI X (k := 0) (Lm_N Lmk_0 rfl) Lmk_0 rfl (by decide) ui_12 (by decide) uw5_220 rfl dX12_rests_46 ?_
    refine r_iconst (v := (1)) X dX12_rests_49 (by decide) ?_
    refine r_icmp_ne (tgt := 55) X dX12_rests_50 (by decide) h (fun h => ?_) (fun h => ?_)
    · refine r_iconst (v := (0)) X dX12_rests_55 (by decide) ?_
      refine r_istore (lv2 := [(5, .int ((0))), (0, .ref (ad (0))), (1, .int (p1)), (2, .int (p2)), (3, .int (p3)), (4, .int (p4))]) X dX12_rests_56 (by decide) rfl ?_
      refine r_iconst (v := (0)) X dX12_rests_58 (by decide) ?_
      refine r_istore (lv2 := [(6, .int ((0))), (5, .int ((0))), (0, .ref (ad (0))), (1, .int (p1)), (2, .int (p2)), (3, .int (p3)), (4, .int (p4))]) X dX12_rests_59 (by decide) rfl ?_
      exact r_sub [2, 3, 4, 5, 6, 1, 0] rfl (hL61 4000 ((0)) ((0)) m10 h)
    · refine r_iconst (v := (0)) X dX12_rests_53 (by decide) ?_
      exact r_iret2 X rfl dX12_rests_54 h
  have hJ41 : ∀ (m7 : Mm), f_X12_rests_J41 p1 p2 p3 p4 m7 = some (r2, mem2) → Jd p l e ({ frames := 1, cells := 0, slots := 0, locals := 24 }) s m args below meth c 9 (MQ below (PsI Lm ad cy dC dI r2 mem2 A) args s 0 0 A) A dC dI cy Lm ad m7 41 [(0, .ref (ad (0))), (1, .int (p1)), (2, .int (p2)), (3, .int (p3)), (4, .int (p4))] [.ref (ad (0))] := by
    intro m7 h
    unfold f_X12_rests_J41 at h
    refine r_iconst (v := (1)) X dX12_rests_41 (by decide) ?_
    exact r_sub [0, 1, 2, 3, 4] rfl (hJ42 ((1)) m7 h)
  unfold f_X12_rests at h
  refine r_aload_n X dX12_rests_0 rfl 0 rfl ?_
  refine r_iload_n X dX12_rests_1 rfl 1 rfl ?_
  refine r_iconst (v := (0)) X dX12_rests_2 (by decide) ?_
  refine r_bipush (v := (9)) X dX12_rests_3 (by decide) ?_
  refine r_cSI (As := [.int (p1), .int ((0)), .int ((9))]) (rest := [.ref (ad (0))]) X (fun r9 m9 hg => k_X12_within hg) h uw7_49 uw7_50 uw1_13 uw7_51 rfl rfl dd_X12_within ⟨Nat.le_of_ble_eq_true rfl, Nat.le_of_ble_eq_true rfl⟩ rfl (Nat.le_of_ble_eq_true rfl) dX12_rests_5 rfl (fun x2 m1 h => ?_)
  refine r_if_eq (tgt := 41) X dX12_rests_8 (by decide) h (fun h => ?_) (fun h => ?_)
  · exact r_sub [0, 1, 2, 3, 4] rfl (hJ41 m1 h)
  · refine r_iload_n X dX12_rests_11 rfl 2 rfl ?_
    refine r_iconst (v := (0)) X dX12_rests_12 (by decide) ?_
    refine r_bipush (v := (9)) X dX12_rests_13 (by decide) ?_
    refine r_cSI (As := [.int (p2), .int ((0)), .int ((9))]) (rest := [.ref (ad (0))]) X (fun r9 m9 hg => k_X12_within hg) h uw7_49 uw7_50 uw1_13 uw7_51 rfl rfl dd_X12_within ⟨Nat.le_of_ble_eq_true rfl, Nat.le_of_ble_eq_true rfl⟩ rfl (Nat.le_of_ble_eq_true rfl) dX12_rests_15 rfl (fun x4 m3 h => ?_)
    refine r_if_eq (tgt := 41) X dX12_rests_18 (by decide) h (fun h => ?_) (fun h => ?_)
    · exact r_sub [0, 1, 2, 3, 4] rfl (hJ41 m3 h)
    · refine r_iload_n X dX12_rests_21 rfl 3 rfl ?_
      refine r_iconst (v := (0)) X dX12_rests_22 (by decide) ?_
      refine r_bipush (v := (9)) X dX12_rests_23 (by decide) ?_
      refine r_cSI (As := [.int (p3), .int ((0)), .int ((9))]) (rest := [.ref (ad (0))]) X (fun r9 m9 hg => k_X12_within hg) h uw7_49 uw7_50 uw1_13 uw7_51 rfl rfl dd_X12_within ⟨Nat.le_of_ble_eq_true rfl, Nat.le_of_ble_eq_true rfl⟩ rfl (Nat.le_of_ble_eq_true rfl) dX12_rests_25 rfl (fun x6 m5 h => ?_)
      refine r_if_eq (tgt := 41) X dX12_rests_28 (by decide) h (fun h => ?_) (fun h => ?_)
      · exact r_sub [0, 1, 2, 3, 4] rfl (hJ41 m5 h)
      · refine r_iload X dX12_rests_31 4 rfl ?_
        refine r_iconst (v := (-1)) X dX12_rests_33 (by decide) ?_
        refine r_icmp_lt (tgt := 41) X dX12_rests_34 (by decide) h (fun h => ?_) (fun h => ?_)
        · exact r_sub [0, 1, 2, 3, 4] rfl (hJ41 m5 h)
        · refine r_iconst (v := (0)) X dX12_rests_37 (by decide) ?_
          refine r_goto (tgt := 42) X dX12_rests_38 (by decide) ?_
          exact r_sub [0, 1, 2, 3, 4] rfl (hJ42 ((0)) m5 h)
noncomputable def f_X12_draws (p1 : Int32) (mem : Mm) : Option (Int32 × Mm) :=
  grd (decide (¬ (2147483648 : Int64) = 0)) (bnd (sJ mem 0 66 ((((gJ mem 0 66) * ((1103515245))) + ((12345))) - (((gJ mem 0 66) * ((1103515245))) + ((12345))) / ((2147483648)) * ((2147483648)))) fun m1 => grd (decide (¬ (65536 : Int64) = 0)) (grd (decide (¬ (p1.toInt64) = 0)) (some ((((gJ m1 0 66) / ((65536))) - ((gJ m1 0 66) / ((65536))) / (p1.toInt64) * (p1.toInt64)).toInt32, m1))))
theorem dd_X12_draws : yX12_draws.cls = RX12 ∧ yX12_draws.cls ≠ "java/lang/invoke/MethodHandle" ∧ yX12_draws.cls ≠ "java/lang/invoke/VarHandle" ∧ (parseMethodDescriptor yX12_draws.desc).map (fun d => d.parameters.length) = some 1 := by decide +kernel
set_option maxHeartbeats 4000000 in
set_option maxRecDepth 100000 in
theorem k_X12_draws {l : Launch} {ad : Nat → Nat} {cy : Nat → ClassId} {dC : Nat → ClassId} {dI : Nat → Nat → Nat} {ks : (Nat → Nat) × (Nat → Nat)} {p1 : Int32} {mem : Mm} {r2 : Int32} {mem2 : Mm}  (h : f_X12_draws p1 mem = some (r2, mem2)) : CtI l Lm ad cy dC dI ks yX12_draws cX12_draws 2 (some .int) ({ frames := 0, cells := 0, slots := 0, locals := 0 }) [.ref (ad (0)), .int (p1)] mem r2 mem2 := by
  refine CtI.of (cc := cX12_draws) (maxL := 2) (ret := (some .int)) (own := RX12) rfl (by decide) (Nat.le_of_ble_eq_true rfl) ?_
  intro p e s m args below meth c A X
  have hts := X.2.2.2.2.1
  unfold f_X12_draws at h
  refine r_aload_n X dX12_draws_0 rfl 0 rfl ?_
  refine r_aload_n X dX12_draws_1 rfl 0 rfl ?_
  refine r_getJ X (k := 66) (Lm_N Lmk_0 rfl) Lmk_0 rfl (by decide) ui_12 (by decide) uw6_46 rfl dX12_draws_2 ?_
  refine r_ldc2 (v := 1103515245) X dX12_draws_5 uw8_136 ?_
  refine r_lmul X dX12_draws_8 ?_
  refine r_ldc2 (v := 12345) X dX12_draws_9 uw8_137 ?_
  refine r_ladd X dX12_draws_12 ?_
  refine r_ldc2 (v := 2147483648) X dX12_draws_13 uw8_138 ?_
  refine r_div h (fun hz h => ?_)
  refine r_lrem X dX12_draws_16 hz ?_
  refine r_putJ X (k := 66) (Lm_N Lmk_0 rfl) Lmk_0 rfl (by decide) ui_12 (by decide) uw6_46 tyX12_ok nmX12 rfl rfl rfl dX12_draws_17 ?_
  refine r_nmM h (fun m1 h => ?_)
  refine r_aload_n X dX12_draws_20 rfl 0 rfl ?_
  refine r_getJ X (k := 66) (Lm_N Lmk_0 rfl) Lmk_0 rfl (by decide) ui_12 (by decide) uw6_46 rfl dX12_draws_21 ?_
  refine r_ldc2 (v := 65536) X dX12_draws_24 uw8_139 ?_
  refine r_div h (fun hz h => ?_)
  refine r_ldiv X dX12_draws_27 hz ?_
  refine r_iload_n X dX12_draws_28 rfl 1 rfl ?_
  refine r_i2l X dX12_draws_29 ?_
  refine r_div h (fun hz h => ?_)
  refine r_lrem X dX12_draws_30 hz ?_
  refine r_l2i X dX12_draws_31 ?_
  exact r_iret2 X rfl dX12_draws_32 h
noncomputable def f_X12_badKeys_J28 (k4 : Int32 → Int32 → Mm → Option (Int32 × Mm)) (x4 : Int32) (x5 : Int32) (x6 : Int32) (m7 : Mm) : Option (Int32 × Mm) :=
  bnd (x6 + x5) fun x8 => bnd (x4 + (1)) fun x9 => k4 x8 x9 m7
noncomputable def f_X12_badKeys_B4 (k4 : Int32 → Int32 → Mm → Option (Int32 × Mm)) (x1 : Int32) (x2 : Int32) (m3 : Mm) : Option (Int32 × Mm) :=
  if ((12)) ≤ x2 then (some (x1, m3)) else (grd (inb (((5)) + x2) 17) (if (gI m3 35 (((5)) + x2).toNatClampNeg) ≤ ((5)) then (f_X12_badKeys_J28 k4 x2 ((0)) x1 m3) else (f_X12_badKeys_J28 k4 x2 ((1)) x1 m3)))
noncomputable def f_X12_badKeys  (mem : Mm) : Option (Int32 × Mm) :=
  lop (fun _ _ _ => none) (f_X12_badKeys_B4 ) 4000 ((0)) ((0)) mem
theorem dd_X12_badKeys : yX12_badKeys.cls = RX12 ∧ yX12_badKeys.cls ≠ "java/lang/invoke/MethodHandle" ∧ yX12_badKeys.cls ≠ "java/lang/invoke/VarHandle" ∧ (parseMethodDescriptor yX12_badKeys.desc).map (fun d => d.parameters.length) = some 0 := by decide +kernel
set_option maxHeartbeats 4000000 in
set_option maxRecDepth 100000 in
theorem k_X12_badKeys {l : Launch} {ad : Nat → Nat} {cy : Nat → ClassId} {dC : Nat → ClassId} {dI : Nat → Nat → Nat} {ks : (Nat → Nat) × (Nat → Nat)}  {mem : Mm} {r2 : Int32} {mem2 : Mm}  (h : f_X12_badKeys  mem = some (r2, mem2)) : CtI l Lm ad cy dC dI ks yX12_badKeys cX12_badKeys 3 (some .int) ({ frames := 0, cells := 0, slots := 0, locals := 0 }) [.ref (ad (0))] mem r2 mem2 := by
  refine CtI.of (cc := cX12_badKeys) (maxL := 3) (ret := (some .int)) (own := RX12) rfl (by decide) (Nat.le_of_ble_eq_true rfl) ?_
  intro p e s m args below meth c A X
  have hts := X.2.2.2.2.1
  have hJ28 : ∀ (k4 : Int32 → Int32 → Mm → Option (Int32 × Mm)) (hk4 : ∀ (x1 : Int32) (x2 : Int32) (m3 : Mm), k4 x1 x2 m3 = some (r2, mem2) → Jd p l e ({ frames := 0, cells := 0, slots := 0, locals := 0 }) s m args below meth c 3 (MQ below (PsI Lm ad cy dC dI r2 mem2 A) args s 0 0 A) A dC dI cy Lm ad m3 4 [(0, .ref (ad (0))), (1, .int (x1)), (2, .int (x2))] []) (x4 : Int32) (x5 : Int32) (x6 : Int32) (m7 : Mm), f_X12_badKeys_J28 k4 x4 x5 x6 m7 = some (r2, mem2) → Jd p l e ({ frames := 0, cells := 0, slots := 0, locals := 0 }) s m args below meth c 3 (MQ below (PsI Lm ad cy dC dI r2 mem2 A) args s 0 0 A) A dC dI cy Lm ad m7 28 [(0, .ref (ad (0))), (2, .int (x4))] [.int (x5), .int (x6)] := by
    intro k4 hk4 x4 x5 x6 m7 h
    unfold f_X12_badKeys_J28 at h
    refine r_iadd X dX12_badKeys_28 ?_
    refine r_nmI h (fun x8 h => ?_)
    refine r_istore_n (lv2 := [(1, .int (x8)), (0, .ref (ad (0))), (2, .int (x4))]) X dX12_badKeys_29 rfl (by decide) rfl ?_
    refine r_inc h (fun x9 e9 h => ?_)
    refine r_iinc (v := x9) (lv2 := [(2, .int (x9)), (1, .int (x8)), (0, .ref (ad (0)))]) X dX12_badKeys_30 2 rfl (by rw [e9]; rfl) (by decide) rfl ?_
    refine r_goto (tgt := 4) X dX12_badKeys_33 (by decide) ?_
    exact r_sub [2, 1, 0] rfl (hk4 x8 x9 m7 h)
  have hJ4 : ∀ (k4 : Int32 → Int32 → Mm → Option (Int32 × Mm)) (hk4 : ∀ (x1 : Int32) (x2 : Int32) (m3 : Mm), k4 x1 x2 m3 = some (r2, mem2) → Jd p l e ({ frames := 0, cells := 0, slots := 0, locals := 0 }) s m args below meth c 3 (MQ below (PsI Lm ad cy dC dI r2 mem2 A) args s 0 0 A) A dC dI cy Lm ad m3 4 [(0, .ref (ad (0))), (1, .int (x1)), (2, .int (x2))] []) (x1 : Int32) (x2 : Int32) (m3 : Mm), f_X12_badKeys_B4 k4 x1 x2 m3 = some (r2, mem2) → Jd p l e ({ frames := 0, cells := 0, slots := 0, locals := 0 }) s m args below meth c 3 (MQ below (PsI Lm ad cy dC dI r2 mem2 A) args s 0 0 A) A dC dI cy Lm ad m3 4 [(0, .ref (ad (0))), (1, .int (x1)), (2, .int (x2))] [] := by
    intro k4 hk4 x1 x2 m3 h
    unfold f_X12_badKeys_B4 at h
    refine r_iload_n X dX12_badKeys_4 rfl 2 rfl ?_
    refine r_bipush (v := (12)) X dX12_badKeys_5 (by decide) ?_
    refine r_icmp_ge (tgt := 36) X dX12_badKeys_7 (by decide) h (fun h => ?_) (fun h => ?_)
    · refine r_iload_n X dX12_badKeys_36 rfl 1 rfl ?_
      exact r_iret2 X rfl dX12_badKeys_37 h
    · refine r_iload_n X dX12_badKeys_10 rfl 1 rfl ?_
      refine r_aload_n X dX12_badKeys_11 rfl 0 rfl ?_
      refine r_getF X (k := 49) (of := 35) rfl (Lm_N Lmk_0 rfl) Lmk_0 rfl (by decide) ui_12 (by decide) uw6_29 rfl dX12_badKeys_12 ?_
      refine r_iconst (v := (5)) X dX12_badKeys_15 (by decide) ?_
      refine r_iload_n X dX12_badKeys_16 rfl 2 rfl ?_
      refine r_iadd X dX12_badKeys_17 ?_
      refine r_iald X (Lm_N Lmk_35 rfl) Lmk_35 h dX12_badKeys_18 (fun h => ?_)
      refine r_iconst (v := (5)) X dX12_badKeys_19 (by decide) ?_
      refine r_icmp_le (tgt := 27) X dX12_badKeys_20 (by decide) h (fun h => ?_) (fun h => ?_)
      · refine r_iconst (v := (0)) X dX12_badKeys_27 (by decide) ?_
        exact r_sub [0, 2] rfl (hJ28 k4 hk4 x2 ((0)) x1 m3 h)
      · refine r_iconst (v := (1)) X dX12_badKeys_23 (by decide) ?_
        refine r_goto (tgt := 28) X dX12_badKeys_24 (by decide) ?_
        exact r_sub [0, 2] rfl (hJ28 k4 hk4 x2 ((1)) x1 m3 h)
  have hL4 : ∀ (n : Nat), ∀ (x1 : Int32) (x2 : Int32) (m3 : Mm), lop (fun _ _ _ => none) (f_X12_badKeys_B4 ) n x1 x2 m3 = some (r2, mem2) → Jd p l e ({ frames := 0, cells := 0, slots := 0, locals := 0 }) s m args below meth c 3 (MQ below (PsI Lm ad cy dC dI r2 mem2 A) args s 0 0 A) A dC dI cy Lm ad m3 4 [(0, .ref (ad (0))), (1, .int (x1)), (2, .int (x2))] [] := by
    intro  n
    induction n with
    | zero => intro _ _ _ h; cases h
    | succ n ih => intro a0 a1 a2 h; exact hJ4  _ ih a0 a1 a2 h
  unfold f_X12_badKeys at h
  refine r_iconst (v := (0)) X dX12_badKeys_0 (by decide) ?_
  refine r_istore_n (lv2 := [(1, .int ((0))), (0, .ref (ad (0)))]) X dX12_badKeys_1 rfl (by decide) rfl ?_
  refine r_iconst (v := (0)) X dX12_badKeys_2 (by decide) ?_
  refine r_istore_n (lv2 := [(2, .int ((0))), (1, .int ((0))), (0, .ref (ad (0)))]) X dX12_badKeys_3 rfl (by decide) rfl ?_
  exact r_sub [2, 1, 0] rfl (hL4 4000 ((0)) ((0)) mem h)
noncomputable def f_X12_months_J155 (p1 : Int32) (p2 : Int32) (p3 : Int32) (k77 : Int32 → Int32 → Int32 → Mm → Option (Int32 × Mm)) (x38 : Int32) (x39 : Int32) (x40 : Int32) (m41 : Mm) : Option (Int32 × Mm) :=
  bnd (x40 + (1)) fun x42 => k77 x38 x39 x42 m41
noncomputable def f_X12_months_B86 (p1 : Int32) (p2 : Int32) (p3 : Int32) (k77 : Int32 → Int32 → Int32 → Mm → Option (Int32 × Mm)) (k86 : Int32 → Int32 → Int32 → Int32 → Mm → Option (Int32 × Mm)) (x19 : Int32) (x20 : Int32) (x21 : Int32) (x22 : Int32) (m23 : Mm) : Option (Int32 × Mm) :=
  if (gI m23 2 1) ≤ x22 then (bdI (f_X12_passesDay  m23) fun x25 m24 => bnd (x19 + x25) fun x26 => bnd (x20 + (gI m24 0 64)) fun x27 => bdI (f_X12_badKeys  m24) fun x29 m28 => if x29 ≤ ((2)) then (f_X12_months_J155 p1 p2 p3 k77 x26 x27 x21 m28) else (bdI (f_X12_draws ((4)) m28) fun x31 m30 => if ¬ x31 = 0 then (f_X12_months_J155 p1 p2 p3 k77 x26 x27 x21 m30) else (bdI (f_X12_mends  m30) fun x33 m32 => f_X12_months_J155 p1 p2 p3 k77 x26 x27 x21 m32))) else (bdI (f_X12_draws ((60)) m23) fun x35 m34 => grd (inb x22 7) (bnd (sI m34 41 x22.toNatClampNeg x35) fun m36 => bnd (x22 + (1)) fun x37 => k86 x19 x20 x21 x37 m36))
noncomputable def f_X12_months_B77 (p1 : Int32) (p2 : Int32) (p3 : Int32) (k77 : Int32 → Int32 → Int32 → Mm → Option (Int32 × Mm)) (x13 : Int32) (x14 : Int32) (x15 : Int32) (m16 : Mm) : Option (Int32 × Mm) :=
  if p2 ≤ x15 then (bnd (gI m16 35 4) fun x17 => bdV (f_X12_copies 36 ((0)) 35 ((0)) m16) fun m18 => if ¬ p3 = 0 then (if ¬ p3 = ((1)) then (some (x17 - (gI m18 35 4), m18)) else (some (x14, m18))) else (some (x13, m18))) else (lop (fun _ _ _ _ _ => none) (f_X12_months_B86 p1 p2 p3 k77) 4000 x13 x14 x15 ((0)) m16)
noncomputable def f_X12_months_J36 (p1 : Int32) (p2 : Int32) (p3 : Int32) (x8 : Int32) (m9 : Mm) : Option (Int32 × Mm) :=
  bnd (sI m9 0 0 x8) fun m10 => if ¬ (gI m10 0 0) = ((1)) then (bnd (sJ m10 0 66 (p1.toInt64)) fun m11 => bdV (f_X12_copies 35 ((0)) 36 ((0)) m11) fun m12 => lop (fun _ _ _ _ => none) (f_X12_months_B77 p1 p2 p3 ) 4000 ((0)) ((0)) ((0)) m12) else (some ((0), m10))
noncomputable def f_X12_months_J35 (p1 : Int32) (p2 : Int32) (p3 : Int32) (m7 : Mm) : Option (Int32 × Mm) :=
  f_X12_months_J36 p1 p2 p3 ((1)) m7
noncomputable def f_X12_months (p1 : Int32) (p2 : Int32) (p3 : Int32) (mem : Mm) : Option (Int32 × Mm) :=
  bdI (f_X12_within p1 ((0)) ((9999)) mem) fun x2 m1 => if x2 = 0 then (f_X12_months_J35 p1 p2 p3 m1) else (bdI (f_X12_within p2 ((1)) ((60)) m1) fun x4 m3 => if x4 = 0 then (f_X12_months_J35 p1 p2 p3 m3) else (bdI (f_X12_within p3 ((0)) ((2)) m3) fun x6 m5 => if x6 = 0 then (f_X12_months_J35 p1 p2 p3 m5) else (f_X12_months_J36 p1 p2 p3 ((0)) m5)))
theorem dd_X12_months : yX12_months.cls = RX12 ∧ yX12_months.cls ≠ "java/lang/invoke/MethodHandle" ∧ yX12_months.cls ≠ "java/lang/invoke/VarHandle" ∧ (parseMethodDescriptor yX12_months.desc).map (fun d => d.parameters.length) = some 3 := by decide +kernel
set_option maxHeartbeats 4000000 in
set_option maxRecDepth 100000 in
theorem k_X12_months {l : Launch} {ad : Nat → Nat} {cy : Nat → ClassId} {dC : Nat → ClassId} {dI : Nat → Nat → Nat} {ks : (Nat → Nat) × (Nat → Nat)} {p1 : Int32} {p2 : Int32} {p3 : Int32} {mem : Mm} {r2 : Int32} {mem2 : Mm}  (h : f_X12_months p1 p2 p3 mem = some (r2, mem2)) : CtI l Lm ad cy dC dI ks yX12_months cX12_months 8 (some .int) ({ frames := 7, cells := 0, slots := 0, locals := 160 }) [.ref (ad (0)), .int (p1), .int (p2), .int (p3)] mem r2 mem2 := by
  refine CtI.of (cc := cX12_months) (maxL := 8) (ret := (some .int)) (own := RX12) rfl (by decide) (Nat.le_of_ble_eq_true rfl) ?_
  intro p e s m args below meth c A X
  have hts := X.2.2.2.2.1
  have hJ155 : ∀ (k77 : Int32 → Int32 → Int32 → Mm → Option (Int32 × Mm)) (hk77 : ∀ (x13 : Int32) (x14 : Int32) (x15 : Int32) (m16 : Mm), k77 x13 x14 x15 m16 = some (r2, mem2) → Jd p l e ({ frames := 7, cells := 0, slots := 0, locals := 160 }) s m args below meth c 8 (MQ below (PsI Lm ad cy dC dI r2 mem2 A) args s 0 0 A) A dC dI cy Lm ad m16 77 [(0, .ref (ad (0))), (2, .int (p2)), (3, .int (p3)), (4, .int (x13)), (5, .int (x14)), (6, .int (x15))] []) (x38 : Int32) (x39 : Int32) (x40 : Int32) (m41 : Mm), f_X12_months_J155 p1 p2 p3 k77 x38 x39 x40 m41 = some (r2, mem2) → Jd p l e ({ frames := 7, cells := 0, slots := 0, locals := 160 }) s m args below meth c 8 (MQ below (PsI Lm ad cy dC dI r2 mem2 A) args s 0 0 A) A dC dI cy Lm ad m41 155 [(0, .ref (ad (0))), (2, .int (p2)), (3, .int (p3)), (4, .int (x38)), (5, .int (x39)), (6, .int (x40))] [] := by
    intro k77 hk77 x38 x39 x40 m41 h
    unfold f_X12_months_J155 at h
    refine r_inc h (fun x42 e9 h => ?_)
    refine r_iinc (v := x42) (lv2 := [(6, .int (x42)), (0, .ref (ad (0))), (2, .int (p2)), (3, .int (p3)), (4, .int (x38)), (5, .int (x39))]) X dX12_months_155 5 rfl (by rw [e9]; rfl) (by decide) rfl ?_
    refine r_goto (tgt := 77) X dX12_months_158 (by decide) ?_
    exact r_sub [1, 2, 3, 4, 5, 0] rfl (hk77 x38 x39 x42 m41 h)
  have hJ86 : ∀ (k77 : Int32 → Int32 → Int32 → Mm → Option (Int32 × Mm)) (hk77 : ∀ (x13 : Int32) (x14 : Int32) (x15 : Int32) (m16 : Mm), k77 x13 x14 x15 m16 = some (r2, mem2) → Jd p l e ({ frames := 7, cells := 0, slots := 0, locals := 160 }) s m args below meth c 8 (MQ below (PsI Lm ad cy dC dI r2 mem2 A) args s 0 0 A) A dC dI cy Lm ad m16 77 [(0, .ref (ad (0))), (2, .int (p2)), (3, .int (p3)), (4, .int (x13)), (5, .int (x14)), (6, .int (x15))] []) (k86 : Int32 → Int32 → Int32 → Int32 → Mm → Option (Int32 × Mm)) (hk86 : ∀ (x19 : Int32) (x20 : Int32) (x21 : Int32) (x22 : Int32) (m23 : Mm), k86 x19 x20 x21 x22 m23 = some (r2, mem2) → Jd p l e ({ frames := 7, cells := 0, slots := 0, locals := 160 }) s m args below meth c 8 (MQ below (PsI Lm ad cy dC dI r2 mem2 A) args s 0 0 A) A dC dI cy Lm ad m23 86 [(0, .ref (ad (0))), (2, .int (p2)), (3, .int (p3)), (4, .int (x19)), (5, .int (x20)), (6, .int (x21)), (7, .int (x22))] []) (x19 : Int32) (x20 : Int32) (x21 : Int32) (x22 : Int32) (m23 : Mm), f_X12_months_B86 p1 p2 p3 k77 k86 x19 x20 x21 x22 m23 = some (r2, mem2) → Jd p l e ({ frames := 7, cells := 0, slots := 0, locals := 160 }) s m args below meth c 8 (MQ below (PsI Lm ad cy dC dI r2 mem2 A) args s 0 0 A) A dC dI cy Lm ad m23 86 [(0, .ref (ad (0))), (2, .int (p2)), (3, .int (p3)), (4, .int (x19)), (5, .int (x20)), (6, .int (x21)), (7, .int (x22))] [] := by
    intro k77 hk77 k86 hk86 x19 x20 x21 x22 m23 h
    unfold f_X12_months_B86 at h
    refine r_iload X dX12_months_86 6 rfl ?_
    refine r_aload_n X dX12_months_88 rfl 0 rfl ?_
    refine r_getF X (k := 10) (of := 2) rfl (Lm_N Lmk_0 rfl) Lmk_0 rfl (by decide) ui_12 (by decide) uw5_230 rfl dX12_months_89 ?_
    refine r_iconst (v := (1)) X dX12_months_92 (by decide) ?_
    refine r_iald X (Lm_N Lmk_2 rfl) Lmk_2 (g_in rfl h) dX12_months_93 (fun h => ?_)
    refine r_icmp_ge (tgt := 116) X dX12_months_94 (by decide) h (fun h => ?_) (fun h => ?_)
    · refine r_iload X dX12_months_116 3 rfl ?_
      refine r_aload_n X dX12_months_118 rfl 0 rfl ?_
      refine r_cVI (As := []) (rest := [.int (x19)]) X (fun r9 m9 hg => k_X12_passesDay hg) h (Lm_N Lmk_0 rfl) Lmk_0 rfl (by decide) uw7_149 uw7_151 us5_15 uw1_13 uw7_152 rfl rfl dd_X12_passesDay ⟨Nat.le_of_ble_eq_true rfl, Nat.le_of_ble_eq_true rfl⟩ rfl (Nat.le_of_ble_eq_true rfl) dX12_months_119 rfl (fun x25 m24 h => ?_)
      refine r_iadd X dX12_months_122 ?_
      refine r_nmI h (fun x26 h => ?_)
      refine r_istore (lv2 := [(4, .int (x26)), (0, .ref (ad (0))), (2, .int (p2)), (3, .int (p3)), (5, .int (x20)), (6, .int (x21)), (7, .int (x22))]) X dX12_months_123 (by decide) rfl ?_
      refine r_iload X dX12_months_125 4 rfl ?_
      refine r_aload_n X dX12_months_127 rfl 1 rfl ?_
      refine r_getI X (k := 64) (Lm_N Lmk_0 rfl) Lmk_0 rfl (by decide) ui_12 (by decide) uw6_44 rfl dX12_months_128 ?_
      refine r_iadd X dX12_months_131 ?_
      refine r_nmI h (fun x27 h => ?_)
      refine r_istore (lv2 := [(5, .int (x27)), (4, .int (x26)), (0, .ref (ad (0))), (2, .int (p2)), (3, .int (p3)), (6, .int (x21)), (7, .int (x22))]) X dX12_months_132 (by decide) rfl ?_
      refine r_aload_n X dX12_months_134 rfl 2 rfl ?_
      refine r_cVI (As := []) (rest := []) X (fun r9 m9 hg => k_X12_badKeys hg) h (Lm_N Lmk_0 rfl) Lmk_0 rfl (by decide) uw8_140 uw8_142 us7_12 uw1_13 uw8_143 rfl rfl dd_X12_badKeys ⟨Nat.le_of_ble_eq_true rfl, Nat.le_of_ble_eq_true rfl⟩ rfl (Nat.le_of_ble_eq_true rfl) dX12_months_135 rfl (fun x29 m28 h => ?_)
      refine r_iconst (v := (2)) X dX12_months_138 (by decide) ?_
      refine r_icmp_le (tgt := 155) X dX12_months_139 (by decide) h (fun h => ?_) (fun h => ?_)
      · exact r_sub [2, 3, 4, 1, 0, 5] rfl (hJ155 k77 hk77 x26 x27 x21 m28 h)
      · refine r_aload_n X dX12_months_142 rfl 2 rfl ?_
        refine r_iconst (v := (4)) X dX12_months_143 (by decide) ?_
        refine r_cVI (As := [.int ((4))]) (rest := []) X (fun r9 m9 hg => k_X12_draws hg) h (Lm_N Lmk_0 rfl) Lmk_0 rfl (by decide) uw8_132 uw8_134 us7_11 uw1_13 uw8_135 rfl rfl dd_X12_draws ⟨Nat.le_of_ble_eq_true rfl, Nat.le_of_ble_eq_true rfl⟩ rfl (Nat.le_of_ble_eq_true rfl) dX12_months_144 rfl (fun x31 m30 h => ?_)
        refine r_if_ne (tgt := 155) X dX12_months_147 (by decide) h (fun h => ?_) (fun h => ?_)
        · exact r_sub [2, 3, 4, 1, 0, 5] rfl (hJ155 k77 hk77 x26 x27 x21 m30 h)
        · refine r_aload_n X dX12_months_150 rfl 2 rfl ?_
          refine r_cVI (As := []) (rest := []) X (fun r9 m9 hg => k_X12_mends hg) h (Lm_N Lmk_0 rfl) Lmk_0 rfl (by decide) uw8_8 uw8_10 us7_1 uw1_13 uw8_11 rfl rfl dd_X12_mends ⟨Nat.le_of_ble_eq_true rfl, Nat.le_of_ble_eq_true rfl⟩ rfl (Nat.le_of_ble_eq_true rfl) dX12_months_151 rfl (fun x33 m32 h => ?_)
          refine r_pop X dX12_months_154 rfl ?_
          exact r_sub [2, 3, 4, 1, 0, 5] rfl (hJ155 k77 hk77 x26 x27 x21 m32 h)
    · refine r_aload_n X dX12_months_97 rfl 0 rfl ?_
      refine r_getF X (k := 56) (of := 41) rfl (Lm_N Lmk_0 rfl) Lmk_0 rfl (by decide) ui_12 (by decide) uw6_36 rfl dX12_months_98 ?_
      refine r_iload X dX12_months_101 6 rfl ?_
      refine r_aload_n X dX12_months_103 rfl 0 rfl ?_
      refine r_bipush (v := (60)) X dX12_months_104 (by decide) ?_
      refine r_cVI (As := [.int ((60))]) (rest := [.int (x22), .ref (ad (41))]) X (fun r9 m9 hg => k_X12_draws hg) h (Lm_N Lmk_0 rfl) Lmk_0 rfl (by decide) uw8_132 uw8_134 us7_11 uw1_13 uw8_135 rfl rfl dd_X12_draws ⟨Nat.le_of_ble_eq_true rfl, Nat.le_of_ble_eq_true rfl⟩ rfl (Nat.le_of_ble_eq_true rfl) dX12_months_106 rfl (fun x35 m34 h => ?_)
      refine r_iast X (Lm_N Lmk_41 rfl) Lmk_41 h dX12_months_109 (fun h => ?_)
      refine r_nmM h (fun m36 h => ?_)
      refine r_inc h (fun x37 e9 h => ?_)
      refine r_iinc (v := x37) (lv2 := [(7, .int (x37)), (0, .ref (ad (0))), (2, .int (p2)), (3, .int (p3)), (4, .int (x19)), (5, .int (x20)), (6, .int (x21))]) X dX12_months_110 6 rfl (by rw [e9]; rfl) (by decide) rfl ?_
      refine r_goto (tgt := 86) X dX12_months_113 (by decide) ?_
      exact r_sub [1, 2, 3, 4, 5, 6, 0] rfl (hk86 x19 x20 x21 x37 m36 h)
  have hL86 : ∀ (k77 : Int32 → Int32 → Int32 → Mm → Option (Int32 × Mm)) (hk77 : ∀ (x13 : Int32) (x14 : Int32) (x15 : Int32) (m16 : Mm), k77 x13 x14 x15 m16 = some (r2, mem2) → Jd p l e ({ frames := 7, cells := 0, slots := 0, locals := 160 }) s m args below meth c 8 (MQ below (PsI Lm ad cy dC dI r2 mem2 A) args s 0 0 A) A dC dI cy Lm ad m16 77 [(0, .ref (ad (0))), (2, .int (p2)), (3, .int (p3)), (4, .int (x13)), (5, .int (x14)), (6, .int (x15))] []) (n : Nat), ∀ (x19 : Int32) (x20 : Int32) (x21 : Int32) (x22 : Int32) (m23 : Mm), lop (fun _ _ _ _ _ => none) (f_X12_months_B86 p1 p2 p3 k77) n x19 x20 x21 x22 m23 = some (r2, mem2) → Jd p l e ({ frames := 7, cells := 0, slots := 0, locals := 160 }) s m args below meth c 8 (MQ below (PsI Lm ad cy dC dI r2 mem2 A) args s 0 0 A) A dC dI cy Lm ad m23 86 [(0, .ref (ad (0))), (2, .int (p2)), (3, .int (p3)), (4, .int (x19)), (5, .int (x20)), (6, .int (x21)), (7, .int (x22))] [] := by
    intro k77 hk77 n
    induction n with
    | zero => intro _ _ _ _ _ h; cases h
    | succ n ih => intro a0 a1 a2 a3 a4 h; exact hJ86 k77 hk77 _ ih a0 a1 a2 a3 a4 h
  have hJ77 : ∀ (k77 : Int32 → Int32 → Int32 → Mm → Option (Int32 × Mm)) (hk77 : ∀ (x13 : Int32) (x14 : Int32) (x15 : Int32) (m16 : Mm), k77 x13 x14 x15 m16 = some (r2, mem2) → Jd p l e ({ frames := 7, cells := 0, slots := 0, locals := 160 }) s m args below meth c 8 (MQ below (PsI Lm ad cy dC dI r2 mem2 A) args s 0 0 A) A dC dI cy Lm ad m16 77 [(0, .ref (ad (0))), (2, .int (p2)), (3, .int (p3)), (4, .int (x13)), (5, .int (x14)), (6, .int (x15))] []) (x13 : Int32) (x14 : Int32) (x15 : Int32) (m16 : Mm), f_X12_months_B77 p1 p2 p3 k77 x13 x14 x15 m16 = some (r2, mem2) → Jd p l e ({ frames := 7, cells := 0, slots := 0, locals := 160 }) s m args below meth c 8 (MQ below (PsI Lm ad cy dC dI r2 mem2 A) args s 0 0 A) A dC dI cy Lm ad m16 77 [(0, .ref (ad (0))), (2, .int (p2)), (3, .int (p3)), (4, .int (x13)), (5, .int (x14)), (6, .int (x15))] [] := by
    intro k77 hk77 x13 x14 x15 m16 h
    unfold f_X12_months_B77 at h
    refine r_iload X dX12_months_77 5 rfl ?_
    refine r_iload_n X dX12_months_79 rfl 1 rfl ?_
    refine r_icmp_ge (tgt := 161) X dX12_months_80 (by decide) h (fun h => ?_) (fun h => ?_)
    · refine r_aload_n X dX12_months_161 rfl 0 rfl ?_
      refine r_getF X (k := 49) (of := 35) rfl (Lm_N Lmk_0 rfl) Lmk_0 rfl (by decide) ui_12 (by decide) uw6_29 rfl dX12_months_162 ?_
      refine r_iconst (v := (4)) X dX12_months_165 (by decide) ?_
      refine r_iald X (Lm_N Lmk_35 rfl) Lmk_35 (g_in rfl h) dX12_months_166 (fun h => ?_)
      refine r_nmI h (fun x17 h => ?_)
      refine r_istore (lv2 := [(6, .int (x17)), (0, .ref (ad (0))), (2, .int (p2)), (3, .int (p3)), (4, .int (x13)), (5, .int (x14))]) X dX12_months_167 (by decide) rfl ?_
      refine r_aload_n X dX12_months_169 rfl 1 rfl ?_
      refine r_getF X (k := 50) (of := 36) rfl (Lm_N Lmk_0 rfl) Lmk_0 rfl (by decide) ui_12 (by decide) uw6_30 rfl dX12_months_170 ?_
      refine r_iconst (v := (0)) X dX12_months_173 (by decide) ?_
      refine r_aload_n X dX12_months_174 rfl 1 rfl ?_
      refine r_getF X (k := 49) (of := 35) rfl (Lm_N Lmk_0 rfl) Lmk_0 rfl (by decide) ui_12 (by decide) uw6_29 rfl dX12_months_175 ?_
      refine r_iconst (v := (0)) X dX12_months_178 (by decide) ?_
      refine r_cSV (As := [.ref (ad (36)), .int ((0)), .ref (ad (35)), .int ((0))]) (rest := []) X (fun m9 hg => k_X12_copies Lmk_36 Lmk_35 hg) h uw7_142 uw7_143 uw1_13 uw7_144 rfl rfl dd_X12_copies ⟨Nat.le_of_ble_eq_true rfl, Nat.le_of_ble_eq_true rfl⟩ rfl (Nat.le_of_ble_eq_true rfl) dX12_months_179 rfl (fun m18 h => ?_)
      refine r_iload_n X dX12_months_182 rfl 3 rfl ?_
      refine r_if_ne (tgt := 191) X dX12_months_183 (by decide) h (fun h => ?_) (fun h => ?_)
      · refine r_iload_n X dX12_months_191 rfl 3 rfl ?_
        refine r_iconst (v := (1)) X dX12_months_192 (by decide) ?_
        refine r_icmp_ne (tgt := 201) X dX12_months_193 (by decide) h (fun h => ?_) (fun h => ?_)
        · refine r_iload X dX12_months_201 0 rfl ?_
          refine r_aload_n X dX12_months_203 rfl 1 rfl ?_
          refine r_getF X (k := 49) (of := 35) rfl (Lm_N Lmk_0 rfl) Lmk_0 rfl (by decide) ui_12 (by decide) uw6_29 rfl dX12_months_204 ?_
          refine r_iconst (v := (4)) X dX12_months_207 (by decide) ?_
          refine r_iald X (Lm_N Lmk_35 rfl) Lmk_35 (g_in rfl h) dX12_months_208 (fun h => ?_)
          refine r_isub X dX12_months_209 ?_
          exact r_iret2 X rfl dX12_months_210 h
        · refine r_iload X dX12_months_196 5 rfl ?_
          refine r_goto (tgt := 210) X dX12_months_198 (by decide) ?_
          exact r_iret2 X rfl dX12_months_210 h
      · refine r_iload X dX12_months_186 4 rfl ?_
        refine r_goto (tgt := 210) X dX12_months_188 (by decide) ?_
        exact r_iret2 X rfl dX12_months_210 h
    · refine r_iconst (v := (0)) X dX12_months_83 (by decide) ?_
      refine r_istore (lv2 := [(7, .int ((0))), (0, .ref (ad (0))), (2, .int (p2)), (3, .int (p3)), (4, .int (x13)), (5, .int (x14)), (6, .int (x15))]) X dX12_months_84 (by decide) rfl ?_
      exact r_sub [1, 2, 3, 4, 5, 6, 0] rfl (hL86 k77 hk77 4000 x13 x14 x15 ((0)) m16 h)
  have hL77 : ∀ (n : Nat), ∀ (x13 : Int32) (x14 : Int32) (x15 : Int32) (m16 : Mm), lop (fun _ _ _ _ => none) (f_X12_months_B77 p1 p2 p3 ) n x13 x14 x15 m16 = some (r2, mem2) → Jd p l e ({ frames := 7, cells := 0, slots := 0, locals := 160 }) s m args below meth c 8 (MQ below (PsI Lm ad cy dC dI r2 mem2 A) args s 0 0 A) A dC dI cy Lm ad m16 77 [(0, .ref (ad (0))), (2, .int (p2)), (3, .int (p3)), (4, .int (x13)), (5, .int (x14)), (6, .int (x15))] [] := by
    intro  n
    induction n with
    | zero => intro _ _ _ _ h; cases h
    | succ n ih => intro a0 a1 a2 a3 h; exact hJ77  _ ih a0 a1 a2 a3 h
  have hJ36 : ∀ (x8 : Int32) (m9 : Mm), f_X12_months_J36 p1 p2 p3 x8 m9 = some (r2, mem2) → Jd p l e ({ frames := 7, cells := 0, slots := 0, locals := 160 }) s m args below meth c 8 (MQ below (PsI Lm ad cy dC dI r2 mem2 A) args s 0 0 A) A dC dI cy Lm ad m9 36 [(0, .ref (ad (0))), (1, .int (p1)), (2, .int (p2)), (3, .int (p3))] [.int (x8), .ref (ad (0))] := by
    intro x8 m9 h
    unfold f_X12_months_J36 at h
    refine r_putI X (k := 0) (Lm_N Lmk_0 rfl) Lmk_0 rfl (by decide) ui_12 (by decide) uw5_220 tyX12_ok nmX12 rfl rfl rfl dX12_months_36 ?_
    refine r_nmM h (fun m10 h => ?_)
    refine r_aload_n X dX12_months_39 rfl 0 rfl ?_
    refine r_getI X (k := 0) (Lm_N Lmk_0 rfl) Lmk_0 rfl (by decide) ui_12 (by decide) uw5_220 rfl dX12_months_40 ?_
    refine r_iconst (v := (1)) X dX12_months_43 (by decide) ?_
    refine r_icmp_ne (tgt := 49) X dX12_months_44 (by decide) h (fun h => ?_) (fun h => ?_)
    · refine r_aload_n X dX12_months_49 rfl 0 rfl ?_
      refine r_iload_n X dX12_months_50 rfl 1 rfl ?_
      refine r_i2l X dX12_months_51 ?_
      refine r_putJ X (k := 66) (Lm_N Lmk_0 rfl) Lmk_0 rfl (by decide) ui_12 (by decide) uw6_46 tyX12_ok nmX12 rfl rfl rfl dX12_months_52 ?_
      refine r_nmM h (fun m11 h => ?_)
      refine r_aload_n X dX12_months_55 rfl 0 rfl ?_
      refine r_getF X (k := 49) (of := 35) rfl (Lm_N Lmk_0 rfl) Lmk_0 rfl (by decide) ui_12 (by decide) uw6_29 rfl dX12_months_56 ?_
      refine r_iconst (v := (0)) X dX12_months_59 (by decide) ?_
      refine r_aload_n X dX12_months_60 rfl 0 rfl ?_
      refine r_getF X (k := 50) (of := 36) rfl (Lm_N Lmk_0 rfl) Lmk_0 rfl (by decide) ui_12 (by decide) uw6_30 rfl dX12_months_61 ?_
      refine r_iconst (v := (0)) X dX12_months_64 (by decide) ?_
      refine r_cSV (As := [.ref (ad (35)), .int ((0)), .ref (ad (36)), .int ((0))]) (rest := []) X (fun m9 hg => k_X12_copies Lmk_35 Lmk_36 hg) h uw7_142 uw7_143 uw1_13 uw7_144 rfl rfl dd_X12_copies ⟨Nat.le_of_ble_eq_true rfl, Nat.le_of_ble_eq_true rfl⟩ rfl (Nat.le_of_ble_eq_true rfl) dX12_months_65 rfl (fun m12 h => ?_)
      refine r_iconst (v := (0)) X dX12_months_68 (by decide) ?_
      refine r_istore (lv2 := [(4, .int ((0))), (0, .ref (ad (0))), (1, .int (p1)), (2, .int (p2)), (3, .int (p3))]) X dX12_months_69 (by decide) rfl ?_
      refine r_iconst (v := (0)) X dX12_months_71 (by decide) ?_
      refine r_istore (lv2 := [(5, .int ((0))), (4, .int ((0))), (0, .ref (ad (0))), (1, .int (p1)), (2, .int (p2)), (3, .int (p3))]) X dX12_months_72 (by decide) rfl ?_
      refine r_iconst (v := (0)) X dX12_months_74 (by decide) ?_
      refine r_istore (lv2 := [(6, .int ((0))), (5, .int ((0))), (4, .int ((0))), (0, .ref (ad (0))), (1, .int (p1)), (2, .int (p2)), (3, .int (p3))]) X dX12_months_75 (by decide) rfl ?_
      exact r_sub [3, 5, 6, 2, 1, 0] rfl (hL77 4000 ((0)) ((0)) ((0)) m12 h)
    · refine r_iconst (v := (0)) X dX12_months_47 (by decide) ?_
      exact r_iret2 X rfl dX12_months_48 h
  have hJ35 : ∀ (m7 : Mm), f_X12_months_J35 p1 p2 p3 m7 = some (r2, mem2) → Jd p l e ({ frames := 7, cells := 0, slots := 0, locals := 160 }) s m args below meth c 8 (MQ below (PsI Lm ad cy dC dI r2 mem2 A) args s 0 0 A) A dC dI cy Lm ad m7 35 [(0, .ref (ad (0))), (1, .int (p1)), (2, .int (p2)), (3, .int (p3))] [.ref (ad (0))] := by
    intro m7 h
    unfold f_X12_months_J35 at h
    refine r_iconst (v := (1)) X dX12_months_35 (by decide) ?_
    exact r_sub [0, 1, 2, 3] rfl (hJ36 ((1)) m7 h)
  unfold f_X12_months at h
  refine r_aload_n X dX12_months_0 rfl 0 rfl ?_
  refine r_iload_n X dX12_months_1 rfl 1 rfl ?_
  refine r_iconst (v := (0)) X dX12_months_2 (by decide) ?_
  refine r_sipush (v := (9999)) X dX12_months_3 (by decide) ?_
  refine r_cSI (As := [.int (p1), .int ((0)), .int ((9999))]) (rest := [.ref (ad (0))]) X (fun r9 m9 hg => k_X12_within hg) h uw7_49 uw7_50 uw1_13 uw7_51 rfl rfl dd_X12_within ⟨Nat.le_of_ble_eq_true rfl, Nat.le_of_ble_eq_true rfl⟩ rfl (Nat.le_of_ble_eq_true rfl) dX12_months_6 rfl (fun x2 m1 h => ?_)
  refine r_if_eq (tgt := 35) X dX12_months_9 (by decide) h (fun h => ?_) (fun h => ?_)
  · exact r_sub [0, 1, 2, 3] rfl (hJ35 m1 h)
  · refine r_iload_n X dX12_months_12 rfl 2 rfl ?_
    refine r_iconst (v := (1)) X dX12_months_13 (by decide) ?_
    refine r_bipush (v := (60)) X dX12_months_14 (by decide) ?_
    refine r_cSI (As := [.int (p2), .int ((1)), .int ((60))]) (rest := [.ref (ad (0))]) X (fun r9 m9 hg => k_X12_within hg) h uw7_49 uw7_50 uw1_13 uw7_51 rfl rfl dd_X12_within ⟨Nat.le_of_ble_eq_true rfl, Nat.le_of_ble_eq_true rfl⟩ rfl (Nat.le_of_ble_eq_true rfl) dX12_months_16 rfl (fun x4 m3 h => ?_)
    refine r_if_eq (tgt := 35) X dX12_months_19 (by decide) h (fun h => ?_) (fun h => ?_)
    · exact r_sub [0, 1, 2, 3] rfl (hJ35 m3 h)
    · refine r_iload_n X dX12_months_22 rfl 3 rfl ?_
      refine r_iconst (v := (0)) X dX12_months_23 (by decide) ?_
      refine r_iconst (v := (2)) X dX12_months_24 (by decide) ?_
      refine r_cSI (As := [.int (p3), .int ((0)), .int ((2))]) (rest := [.ref (ad (0))]) X (fun r9 m9 hg => k_X12_within hg) h uw7_49 uw7_50 uw1_13 uw7_51 rfl rfl dd_X12_within ⟨Nat.le_of_ble_eq_true rfl, Nat.le_of_ble_eq_true rfl⟩ rfl (Nat.le_of_ble_eq_true rfl) dX12_months_25 rfl (fun x6 m5 h => ?_)
      refine r_if_eq (tgt := 35) X dX12_months_28 (by decide) h (fun h => ?_) (fun h => ?_)
      · exact r_sub [0, 1, 2, 3] rfl (hJ35 m5 h)
      · refine r_iconst (v := (0)) X dX12_months_31 (by decide) ?_
        refine r_goto (tgt := 36) X dX12_months_32 (by decide) ?_
        exact r_sub [0, 1, 2, 3] rfl (hJ36 ((0)) m5 h)
