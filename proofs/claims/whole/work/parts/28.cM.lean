noncomputable def f_X12_shifts_B2 (h0 : Nat) (p1 : Int32) (k2 : Int32 → Mm → Option Mm) (x1 : Int32) (m2 : Mm) : Option Mm :=
  if p1 ≤ x1 then (some m2) else (grd (inb (p1 + x1) (Lm.2.1 h0)) (grd (inb x1 (Lm.2.1 h0)) (bnd (sI m2 h0 x1.toNatClampNeg (gI m2 h0 (p1 + x1).toNatClampNeg)) fun m3 => bnd (x1 + (1)) fun x4 => k2 x4 m3)))
noncomputable def f_X12_shifts (h0 : Nat) (p1 : Int32) (mem : Mm) : Option Mm :=
  lop (fun _ _ => none) (f_X12_shifts_B2 h0 p1 ) 4000 ((0)) mem
theorem dd_X12_shifts : yX12_shifts.cls ≠ "java/lang/invoke/MethodHandle" ∧ yX12_shifts.cls ≠ "java/lang/invoke/VarHandle" ∧ (parseMethodDescriptor yX12_shifts.desc).map (fun d => d.parameters.length) = some 2 := by decide +kernel
set_option maxHeartbeats 4000000 in
set_option maxRecDepth 100000 in
theorem k_X12_shifts {l : Launch} {ad : Nat → Nat} {cy : Nat → ClassId} {dC : Nat → ClassId} {dI : Nat → Nat → Nat} {ks : (Nat → Nat) × (Nat → Nat)} {h0 : Nat} {p1 : Int32} {mem : Mm} {mem2 : Mm} (e0 : Lm.1 h0 = 14) (h : f_X12_shifts h0 p1 mem = some mem2) : CtV l Lm ad cy dC dI ks yX12_shifts cX12_shifts 3 none ({ frames := 0, cells := 0, slots := 0, locals := 0 }) [.ref (ad (h0)), .int (p1)] mem mem2 := by
  refine CtV.of (cc := cX12_shifts) (maxL := 3) (ret := none) (own := RX12) rfl (by decide) (Nat.le_of_ble_eq_true rfl) ?_
  intro p e s m args below meth c A X
  have hts := X.2.2.2.2.1
  have hJ2 : ∀ (k2 : Int32 → Mm → Option Mm) (hk2 : ∀ (x1 : Int32) (m2 : Mm), k2 x1 m2 = some mem2 → Jd p l e ({ frames := 0, cells := 0, slots := 0, locals := 0 }) s m args below meth c 3 (MQ below (PsV Lm ad cy dC dI mem2 A) args s 0 0 A) A dC dI cy Lm ad m2 2 [(0, .ref (ad (h0))), (1, .int (p1)), (2, .int (x1))] []) (x1 : Int32) (m2 : Mm), f_X12_shifts_B2 h0 p1 k2 x1 m2 = some mem2 → Jd p l e ({ frames := 0, cells := 0, slots := 0, locals := 0 }) s m args below meth c 3 (MQ below (PsV Lm ad cy dC dI mem2 A) args s 0 0 A) A dC dI cy Lm ad m2 2 [(0, .ref (ad (h0))), (1, .int (p1)), (2, .int (x1))] [] := by
    intro k2 hk2 x1 m2 h
    unfold f_X12_shifts_B2 at h
    refine r_iload_n X dX12_shifts_2 rfl 2 rfl ?_
    refine r_iload_n X dX12_shifts_3 rfl 1 rfl ?_
    refine r_icmp_ge (tgt := 21) X dX12_shifts_4 (by decide) h (fun h => ?_) (fun h => ?_)
    · exact r_vret X rfl dX12_shifts_21 h
    · refine r_aload_n X dX12_shifts_7 rfl 0 rfl ?_
      refine r_iload_n X dX12_shifts_8 rfl 2 rfl ?_
      refine r_aload_n X dX12_shifts_9 rfl 0 rfl ?_
      refine r_iload_n X dX12_shifts_10 rfl 1 rfl ?_
      refine r_iload_n X dX12_shifts_11 rfl 2 rfl ?_
      refine r_iadd X dX12_shifts_12 ?_
      refine r_iald X (Lm_N e0 rfl) e0 h dX12_shifts_13 (fun h => ?_)
      refine r_iast X (Lm_N e0 rfl) e0 h dX12_shifts_14 (fun h => ?_)
      refine r_nmM h (fun m3 h => ?_)
      refine r_inc h (fun x4 e9 h => ?_)
      refine r_iinc (v := x4) (lv2 := [(2, .int (x4)), (0, .ref (ad (h0))), (1, .int (p1))]) X dX12_shifts_15 2 rfl (by rw [e9]; rfl) (by decide) rfl ?_
      refine r_goto (tgt := 2) X dX12_shifts_18 (by decide) ?_
      exact r_sub [1, 2, 0] rfl (hk2 x4 m3 h)
  have hL2 : ∀ (n : Nat), ∀ (x1 : Int32) (m2 : Mm), lop (fun _ _ => none) (f_X12_shifts_B2 h0 p1 ) n x1 m2 = some mem2 → Jd p l e ({ frames := 0, cells := 0, slots := 0, locals := 0 }) s m args below meth c 3 (MQ below (PsV Lm ad cy dC dI mem2 A) args s 0 0 A) A dC dI cy Lm ad m2 2 [(0, .ref (ad (h0))), (1, .int (p1)), (2, .int (x1))] [] := by
    intro  n
    induction n with
    | zero => intro _ _ h; cases h
    | succ n ih => intro a0 a1 h; exact hJ2  _ ih a0 a1 h
  unfold f_X12_shifts at h
  refine r_iconst (v := (0)) X dX12_shifts_0 (by decide) ?_
  refine r_istore_n (lv2 := [(2, .int ((0))), (0, .ref (ad (h0))), (1, .int (p1))]) X dX12_shifts_1 rfl (by decide) rfl ?_
  exact r_sub [1, 2, 0] rfl (hL2 4000 ((0)) mem h)
noncomputable def f_X12_lays_B92 (k92 : Int32 → Mm → Option Mm) (x11 : Int32) (m12 : Mm) : Option Mm :=
  if ((2)) ≤ x11 then (some m12) else (grd (inb (((2)) + x11) 4) (grd (inb x11 4) (bnd (sI m12 13 x11.toNatClampNeg ((gI m12 13 (((2)) + x11).toNatClampNeg) - ((1000)))) fun m13 => grd (inb (((2)) + x11) 4) (grd (inb x11 4) (bnd (sI m13 14 x11.toNatClampNeg ((gI m13 14 (((2)) + x11).toNatClampNeg) - ((1000)))) fun m14 => bnd (x11 + (1)) fun x15 => k92 x15 m14)))))
noncomputable def f_X12_lays  (mem : Mm) : Option Mm :=
  bdV (f_X12_shifts 2 ((7)) mem) fun m1 => bdV (f_X12_shifts 5 ((45)) m1) fun m2 => bdV (f_X12_shifts 6 ((5)) m2) fun m3 => bdV (f_X12_shifts 7 ((7)) m3) fun m4 => bdV (f_X12_shifts 8 ((7)) m4) fun m5 => bdV (f_X12_shifts 9 ((7)) m5) fun m6 => bdV (f_X12_shifts 10 ((7)) m6) fun m7 => bdV (f_X12_shifts 11 ((7)) m7) fun m8 => bdV (f_X12_shifts 12 ((7)) m8) fun m9 => bdV (f_X12_shifts 15 ((1000)) m9) fun m10 => lop (fun _ _ => none) (f_X12_lays_B92 ) 4000 ((0)) m10
theorem dd_X12_lays : yX12_lays.cls = RX12 ∧ yX12_lays.cls ≠ "java/lang/invoke/MethodHandle" ∧ yX12_lays.cls ≠ "java/lang/invoke/VarHandle" ∧ (parseMethodDescriptor yX12_lays.desc).map (fun d => d.parameters.length) = some 0 := by decide +kernel
set_option maxHeartbeats 4000000 in
set_option maxRecDepth 100000 in
theorem k_X12_lays {l : Launch} {ad : Nat → Nat} {cy : Nat → ClassId} {dC : Nat → ClassId} {dI : Nat → Nat → Nat} {ks : (Nat → Nat) × (Nat → Nat)}  {mem : Mm} {mem2 : Mm}  (h : f_X12_lays  mem = some mem2) : CtV l Lm ad cy dC dI ks yX12_lays cX12_lays 2 none ({ frames := 1, cells := 0, slots := 0, locals := 22 }) [.ref (ad (0))] mem mem2 := by
  refine CtV.of (cc := cX12_lays) (maxL := 2) (ret := none) (own := RX12) rfl (by decide) (Nat.le_of_ble_eq_true rfl) ?_
  intro p e s m args below meth c A X
  have hts := X.2.2.2.2.1
  have hJ92 : ∀ (k92 : Int32 → Mm → Option Mm) (hk92 : ∀ (x11 : Int32) (m12 : Mm), k92 x11 m12 = some mem2 → Jd p l e ({ frames := 1, cells := 0, slots := 0, locals := 22 }) s m args below meth c 2 (MQ below (PsV Lm ad cy dC dI mem2 A) args s 0 0 A) A dC dI cy Lm ad m12 92 [(0, .ref (ad (0))), (1, .int (x11))] []) (x11 : Int32) (m12 : Mm), f_X12_lays_B92 k92 x11 m12 = some mem2 → Jd p l e ({ frames := 1, cells := 0, slots := 0, locals := 22 }) s m args below meth c 2 (MQ below (PsV Lm ad cy dC dI mem2 A) args s 0 0 A) A dC dI cy Lm ad m12 92 [(0, .ref (ad (0))), (1, .int (x11))] [] := by
    intro k92 hk92 x11 m12 h
    unfold f_X12_lays_B92 at h
    refine r_iload_n X dX12_lays_92 rfl 1 rfl ?_
    refine r_iconst (v := (2)) X dX12_lays_93 (by decide) ?_
    refine r_icmp_ge (tgt := 139) X dX12_lays_94 (by decide) h (fun h => ?_) (fun h => ?_)
    · exact r_vret X rfl dX12_lays_139 h
    · refine r_aload_n X dX12_lays_97 rfl 0 rfl ?_
      refine r_getF X (k := 21) (of := 13) rfl (Lm_N Lmk_0 rfl) Lmk_0 rfl (by decide) ui_12 (by decide) uw6_1 rfl dX12_lays_98 ?_
      refine r_iload_n X dX12_lays_101 rfl 1 rfl ?_
      refine r_aload_n X dX12_lays_102 rfl 0 rfl ?_
      refine r_getF X (k := 21) (of := 13) rfl (Lm_N Lmk_0 rfl) Lmk_0 rfl (by decide) ui_12 (by decide) uw6_1 rfl dX12_lays_103 ?_
      refine r_iconst (v := (2)) X dX12_lays_106 (by decide) ?_
      refine r_iload_n X dX12_lays_107 rfl 1 rfl ?_
      refine r_iadd X dX12_lays_108 ?_
      refine r_iald X (Lm_N Lmk_13 rfl) Lmk_13 h dX12_lays_109 (fun h => ?_)
      refine r_sipush (v := (1000)) X dX12_lays_110 (by decide) ?_
      refine r_isub X dX12_lays_113 ?_
      refine r_iast X (Lm_N Lmk_13 rfl) Lmk_13 h dX12_lays_114 (fun h => ?_)
      refine r_nmM h (fun m13 h => ?_)
      refine r_aload_n X dX12_lays_115 rfl 0 rfl ?_
      refine r_getF X (k := 22) (of := 14) rfl (Lm_N Lmk_0 rfl) Lmk_0 rfl (by decide) ui_12 (by decide) uw6_2 rfl dX12_lays_116 ?_
      refine r_iload_n X dX12_lays_119 rfl 1 rfl ?_
      refine r_aload_n X dX12_lays_120 rfl 0 rfl ?_
      refine r_getF X (k := 22) (of := 14) rfl (Lm_N Lmk_0 rfl) Lmk_0 rfl (by decide) ui_12 (by decide) uw6_2 rfl dX12_lays_121 ?_
      refine r_iconst (v := (2)) X dX12_lays_124 (by decide) ?_
      refine r_iload_n X dX12_lays_125 rfl 1 rfl ?_
      refine r_iadd X dX12_lays_126 ?_
      refine r_iald X (Lm_N Lmk_14 rfl) Lmk_14 h dX12_lays_127 (fun h => ?_)
      refine r_sipush (v := (1000)) X dX12_lays_128 (by decide) ?_
      refine r_isub X dX12_lays_131 ?_
      refine r_iast X (Lm_N Lmk_14 rfl) Lmk_14 h dX12_lays_132 (fun h => ?_)
      refine r_nmM h (fun m14 h => ?_)
      refine r_inc h (fun x15 e9 h => ?_)
      refine r_iinc (v := x15) (lv2 := [(1, .int (x15)), (0, .ref (ad (0)))]) X dX12_lays_133 1 rfl (by rw [e9]; rfl) (by decide) rfl ?_
      refine r_goto (tgt := 92) X dX12_lays_136 (by decide) ?_
      exact r_sub [1, 0] rfl (hk92 x15 m14 h)
  have hL92 : ∀ (n : Nat), ∀ (x11 : Int32) (m12 : Mm), lop (fun _ _ => none) (f_X12_lays_B92 ) n x11 m12 = some mem2 → Jd p l e ({ frames := 1, cells := 0, slots := 0, locals := 22 }) s m args below meth c 2 (MQ below (PsV Lm ad cy dC dI mem2 A) args s 0 0 A) A dC dI cy Lm ad m12 92 [(0, .ref (ad (0))), (1, .int (x11))] [] := by
    intro  n
    induction n with
    | zero => intro _ _ h; cases h
    | succ n ih => intro a0 a1 h; exact hJ92  _ ih a0 a1 h
  unfold f_X12_lays at h
  refine r_aload_n X dX12_lays_0 rfl 0 rfl ?_
  refine r_getF X (k := 10) (of := 2) rfl (Lm_N Lmk_0 rfl) Lmk_0 rfl (by decide) ui_12 (by decide) uw5_230 rfl dX12_lays_1 ?_
  refine r_bipush (v := (7)) X dX12_lays_4 (by decide) ?_
  refine r_cSV (As := [.ref (ad (2)), .int ((7))]) (rest := []) X (fun m9 hg => k_X12_shifts Lmk_2 hg) h uw7_94 uw7_95 uw1_13 uw7_96 rfl rfl dd_X12_shifts ⟨Nat.le_of_ble_eq_true rfl, Nat.le_of_ble_eq_true rfl⟩ rfl (Nat.le_of_ble_eq_true rfl) dX12_lays_6 rfl (fun m1 h => ?_)
  refine r_aload_n X dX12_lays_9 rfl 0 rfl ?_
  refine r_getF X (k := 13) (of := 5) rfl (Lm_N Lmk_0 rfl) Lmk_0 rfl (by decide) ui_12 (by decide) uw5_233 rfl dX12_lays_10 ?_
  refine r_bipush (v := (45)) X dX12_lays_13 (by decide) ?_
  refine r_cSV (As := [.ref (ad (5)), .int ((45))]) (rest := []) X (fun m9 hg => k_X12_shifts Lmk_5 hg) h uw7_94 uw7_95 uw1_13 uw7_96 rfl rfl dd_X12_shifts ⟨Nat.le_of_ble_eq_true rfl, Nat.le_of_ble_eq_true rfl⟩ rfl (Nat.le_of_ble_eq_true rfl) dX12_lays_15 rfl (fun m2 h => ?_)
  refine r_aload_n X dX12_lays_18 rfl 0 rfl ?_
  refine r_getF X (k := 14) (of := 6) rfl (Lm_N Lmk_0 rfl) Lmk_0 rfl (by decide) ui_12 (by decide) uw5_234 rfl dX12_lays_19 ?_
  refine r_iconst (v := (5)) X dX12_lays_22 (by decide) ?_
  refine r_cSV (As := [.ref (ad (6)), .int ((5))]) (rest := []) X (fun m9 hg => k_X12_shifts Lmk_6 hg) h uw7_94 uw7_95 uw1_13 uw7_96 rfl rfl dd_X12_shifts ⟨Nat.le_of_ble_eq_true rfl, Nat.le_of_ble_eq_true rfl⟩ rfl (Nat.le_of_ble_eq_true rfl) dX12_lays_23 rfl (fun m3 h => ?_)
  refine r_aload_n X dX12_lays_26 rfl 0 rfl ?_
  refine r_getF X (k := 15) (of := 7) rfl (Lm_N Lmk_0 rfl) Lmk_0 rfl (by decide) ui_12 (by decide) uw5_235 rfl dX12_lays_27 ?_
  refine r_bipush (v := (7)) X dX12_lays_30 (by decide) ?_
  refine r_cSV (As := [.ref (ad (7)), .int ((7))]) (rest := []) X (fun m9 hg => k_X12_shifts Lmk_7 hg) h uw7_94 uw7_95 uw1_13 uw7_96 rfl rfl dd_X12_shifts ⟨Nat.le_of_ble_eq_true rfl, Nat.le_of_ble_eq_true rfl⟩ rfl (Nat.le_of_ble_eq_true rfl) dX12_lays_32 rfl (fun m4 h => ?_)
  refine r_aload_n X dX12_lays_35 rfl 0 rfl ?_
  refine r_getF X (k := 16) (of := 8) rfl (Lm_N Lmk_0 rfl) Lmk_0 rfl (by decide) ui_12 (by decide) uw5_236 rfl dX12_lays_36 ?_
  refine r_bipush (v := (7)) X dX12_lays_39 (by decide) ?_
  refine r_cSV (As := [.ref (ad (8)), .int ((7))]) (rest := []) X (fun m9 hg => k_X12_shifts Lmk_8 hg) h uw7_94 uw7_95 uw1_13 uw7_96 rfl rfl dd_X12_shifts ⟨Nat.le_of_ble_eq_true rfl, Nat.le_of_ble_eq_true rfl⟩ rfl (Nat.le_of_ble_eq_true rfl) dX12_lays_41 rfl (fun m5 h => ?_)
  refine r_aload_n X dX12_lays_44 rfl 0 rfl ?_
  refine r_getF X (k := 17) (of := 9) rfl (Lm_N Lmk_0 rfl) Lmk_0 rfl (by decide) ui_12 (by decide) uw5_237 rfl dX12_lays_45 ?_
  refine r_bipush (v := (7)) X dX12_lays_48 (by decide) ?_
  refine r_cSV (As := [.ref (ad (9)), .int ((7))]) (rest := []) X (fun m9 hg => k_X12_shifts Lmk_9 hg) h uw7_94 uw7_95 uw1_13 uw7_96 rfl rfl dd_X12_shifts ⟨Nat.le_of_ble_eq_true rfl, Nat.le_of_ble_eq_true rfl⟩ rfl (Nat.le_of_ble_eq_true rfl) dX12_lays_50 rfl (fun m6 h => ?_)
  refine r_aload_n X dX12_lays_53 rfl 0 rfl ?_
  refine r_getF X (k := 18) (of := 10) rfl (Lm_N Lmk_0 rfl) Lmk_0 rfl (by decide) ui_12 (by decide) uw5_238 rfl dX12_lays_54 ?_
  refine r_bipush (v := (7)) X dX12_lays_57 (by decide) ?_
  refine r_cSV (As := [.ref (ad (10)), .int ((7))]) (rest := []) X (fun m9 hg => k_X12_shifts Lmk_10 hg) h uw7_94 uw7_95 uw1_13 uw7_96 rfl rfl dd_X12_shifts ⟨Nat.le_of_ble_eq_true rfl, Nat.le_of_ble_eq_true rfl⟩ rfl (Nat.le_of_ble_eq_true rfl) dX12_lays_59 rfl (fun m7 h => ?_)
  refine r_aload_n X dX12_lays_62 rfl 0 rfl ?_
  refine r_getF X (k := 19) (of := 11) rfl (Lm_N Lmk_0 rfl) Lmk_0 rfl (by decide) ui_12 (by decide) uw5_239 rfl dX12_lays_63 ?_
  refine r_bipush (v := (7)) X dX12_lays_66 (by decide) ?_
  refine r_cSV (As := [.ref (ad (11)), .int ((7))]) (rest := []) X (fun m9 hg => k_X12_shifts Lmk_11 hg) h uw7_94 uw7_95 uw1_13 uw7_96 rfl rfl dd_X12_shifts ⟨Nat.le_of_ble_eq_true rfl, Nat.le_of_ble_eq_true rfl⟩ rfl (Nat.le_of_ble_eq_true rfl) dX12_lays_68 rfl (fun m8 h => ?_)
  refine r_aload_n X dX12_lays_71 rfl 0 rfl ?_
  refine r_getF X (k := 20) (of := 12) rfl (Lm_N Lmk_0 rfl) Lmk_0 rfl (by decide) ui_12 (by decide) uw6_0 rfl dX12_lays_72 ?_
  refine r_bipush (v := (7)) X dX12_lays_75 (by decide) ?_
  refine r_cSV (As := [.ref (ad (12)), .int ((7))]) (rest := []) X (fun m9 hg => k_X12_shifts Lmk_12 hg) h uw7_94 uw7_95 uw1_13 uw7_96 rfl rfl dd_X12_shifts ⟨Nat.le_of_ble_eq_true rfl, Nat.le_of_ble_eq_true rfl⟩ rfl (Nat.le_of_ble_eq_true rfl) dX12_lays_77 rfl (fun m9 h => ?_)
  refine r_aload_n X dX12_lays_80 rfl 0 rfl ?_
  refine r_getF X (k := 23) (of := 15) rfl (Lm_N Lmk_0 rfl) Lmk_0 rfl (by decide) ui_12 (by decide) uw6_3 rfl dX12_lays_81 ?_
  refine r_sipush (v := (1000)) X dX12_lays_84 (by decide) ?_
  refine r_cSV (As := [.ref (ad (15)), .int ((1000))]) (rest := []) X (fun m9 hg => k_X12_shifts Lmk_15 hg) h uw7_94 uw7_95 uw1_13 uw7_96 rfl rfl dd_X12_shifts ⟨Nat.le_of_ble_eq_true rfl, Nat.le_of_ble_eq_true rfl⟩ rfl (Nat.le_of_ble_eq_true rfl) dX12_lays_87 rfl (fun m10 h => ?_)
  refine r_iconst (v := (0)) X dX12_lays_90 (by decide) ?_
  refine r_istore_n (lv2 := [(1, .int ((0))), (0, .ref (ad (0)))]) X dX12_lays_91 rfl (by decide) rfl ?_
  exact r_sub [1, 0] rfl (hL92 4000 ((0)) m10 h)
noncomputable def f_X12_copies_B3 (h0 : Nat) (p1 : Int32) (h2 : Nat) (p3 : Int32) (k3 : Int32 → Mm → Option Mm) (x1 : Int32) (m2 : Mm) : Option Mm :=
  if ((17)) ≤ x1 then (some m2) else (grd (inb (p1 + x1) (Lm.2.1 h0)) (grd (inb (p3 + x1) (Lm.2.1 h2)) (bnd (sI m2 h2 (p3 + x1).toNatClampNeg (gI m2 h0 (p1 + x1).toNatClampNeg)) fun m3 => bnd (x1 + (1)) fun x4 => k3 x4 m3)))
noncomputable def f_X12_copies (h0 : Nat) (p1 : Int32) (h2 : Nat) (p3 : Int32) (mem : Mm) : Option Mm :=
  lop (fun _ _ => none) (f_X12_copies_B3 h0 p1 h2 p3 ) 4000 ((0)) mem
theorem dd_X12_copies : yX12_copies.cls ≠ "java/lang/invoke/MethodHandle" ∧ yX12_copies.cls ≠ "java/lang/invoke/VarHandle" ∧ (parseMethodDescriptor yX12_copies.desc).map (fun d => d.parameters.length) = some 4 := by decide +kernel
set_option maxHeartbeats 4000000 in
set_option maxRecDepth 100000 in
theorem k_X12_copies {l : Launch} {ad : Nat → Nat} {cy : Nat → ClassId} {dC : Nat → ClassId} {dI : Nat → Nat → Nat} {ks : (Nat → Nat) × (Nat → Nat)} {h0 : Nat} {p1 : Int32} {h2 : Nat} {p3 : Int32} {mem : Mm} {mem2 : Mm} (e0 : Lm.1 h0 = 14) (e2 : Lm.1 h2 = 14) (h : f_X12_copies h0 p1 h2 p3 mem = some mem2) : CtV l Lm ad cy dC dI ks yX12_copies cX12_copies 5 none ({ frames := 0, cells := 0, slots := 0, locals := 0 }) [.ref (ad (h0)), .int (p1), .ref (ad (h2)), .int (p3)] mem mem2 := by
  refine CtV.of (cc := cX12_copies) (maxL := 5) (ret := none) (own := RX12) rfl (by decide) (Nat.le_of_ble_eq_true rfl) ?_
  intro p e s m args below meth c A X
  have hts := X.2.2.2.2.1
  have hJ3 : ∀ (k3 : Int32 → Mm → Option Mm) (hk3 : ∀ (x1 : Int32) (m2 : Mm), k3 x1 m2 = some mem2 → Jd p l e ({ frames := 0, cells := 0, slots := 0, locals := 0 }) s m args below meth c 5 (MQ below (PsV Lm ad cy dC dI mem2 A) args s 0 0 A) A dC dI cy Lm ad m2 3 [(0, .ref (ad (h0))), (1, .int (p1)), (2, .ref (ad (h2))), (3, .int (p3)), (4, .int (x1))] []) (x1 : Int32) (m2 : Mm), f_X12_copies_B3 h0 p1 h2 p3 k3 x1 m2 = some mem2 → Jd p l e ({ frames := 0, cells := 0, slots := 0, locals := 0 }) s m args below meth c 5 (MQ below (PsV Lm ad cy dC dI mem2 A) args s 0 0 A) A dC dI cy Lm ad m2 3 [(0, .ref (ad (h0))), (1, .int (p1)), (2, .ref (ad (h2))), (3, .int (p3)), (4, .int (x1))] [] := by
    intro k3 hk3 x1 m2 h
    unfold f_X12_copies_B3 at h
    refine r_iload X dX12_copies_3 4 rfl ?_
    refine r_bipush (v := (17)) X dX12_copies_5 (by decide) ?_
    refine r_icmp_ge (tgt := 28) X dX12_copies_7 (by decide) h (fun h => ?_) (fun h => ?_)
    · exact r_vret X rfl dX12_copies_28 h
    · refine r_aload_n X dX12_copies_10 rfl 2 rfl ?_
      refine r_iload_n X dX12_copies_11 rfl 3 rfl ?_
      refine r_iload X dX12_copies_12 4 rfl ?_
      refine r_iadd X dX12_copies_14 ?_
      refine r_aload_n X dX12_copies_15 rfl 0 rfl ?_
      refine r_iload_n X dX12_copies_16 rfl 1 rfl ?_
      refine r_iload X dX12_copies_17 4 rfl ?_
      refine r_iadd X dX12_copies_19 ?_
      refine r_iald X (Lm_N e0 rfl) e0 h dX12_copies_20 (fun h => ?_)
      refine r_iast X (Lm_N e2 rfl) e2 h dX12_copies_21 (fun h => ?_)
      refine r_nmM h (fun m3 h => ?_)
      refine r_inc h (fun x4 e9 h => ?_)
      refine r_iinc (v := x4) (lv2 := [(4, .int (x4)), (0, .ref (ad (h0))), (1, .int (p1)), (2, .ref (ad (h2))), (3, .int (p3))]) X dX12_copies_22 4 rfl (by rw [e9]; rfl) (by decide) rfl ?_
      refine r_goto (tgt := 3) X dX12_copies_25 (by decide) ?_
      exact r_sub [1, 2, 3, 4, 0] rfl (hk3 x4 m3 h)
  have hL3 : ∀ (n : Nat), ∀ (x1 : Int32) (m2 : Mm), lop (fun _ _ => none) (f_X12_copies_B3 h0 p1 h2 p3 ) n x1 m2 = some mem2 → Jd p l e ({ frames := 0, cells := 0, slots := 0, locals := 0 }) s m args below meth c 5 (MQ below (PsV Lm ad cy dC dI mem2 A) args s 0 0 A) A dC dI cy Lm ad m2 3 [(0, .ref (ad (h0))), (1, .int (p1)), (2, .ref (ad (h2))), (3, .int (p3)), (4, .int (x1))] [] := by
    intro  n
    induction n with
    | zero => intro _ _ h; cases h
    | succ n ih => intro a0 a1 h; exact hJ3  _ ih a0 a1 h
  unfold f_X12_copies at h
  refine r_iconst (v := (0)) X dX12_copies_0 (by decide) ?_
  refine r_istore (lv2 := [(4, .int ((0))), (0, .ref (ad (h0))), (1, .int (p1)), (2, .ref (ad (h2))), (3, .int (p3))]) X dX12_copies_1 (by decide) rfl ?_
  exact r_sub [1, 2, 3, 4, 0] rfl (hL3 4000 ((0)) mem h)
noncomputable def f_X12_readsLine_J157 (x28 : Int32) (x29 : Int32) (x30 : Int32) (m31 : Mm) : Option (Int32 × Mm) :=
  grd (inb x30 240) (bnd (sI m31 30 x30.toNatClampNeg x29) fun m32 => grd (inb x28 240) (bnd (sI m32 31 x28.toNatClampNeg (gI m32 0 39)) fun m33 => bnd (sI m33 28 5 ((gI m33 28 5) + ((1)))) fun m34 => bdI (f_X12_closes  m34) fun x36 m35 => grd (bok x36) (some (x36, m35))))
noncomputable def f_X12_readsLine_J136 (x25 : Int32) (x26 : Int32) (m27 : Mm) : Option (Int32 × Mm) :=
  if ¬ x25 = ((3)) then (f_X12_readsLine_J157 x26 (gI m27 0 39) x26 m27) else (f_X12_readsLine_J157 x26 (gI m27 0 41) x26 m27)
noncomputable def f_X12_readsLine_J122 (x20 : Int32) (x21 : Int32) (m22 : Mm) : Option (Int32 × Mm) :=
  if ¬ x20 = ((3)) then (f_X12_readsLine_J136 x20 x21 m22) else (bdI (f_X12_needsSpan  m22) fun x24 m23 => if ¬ x24 = 0 then (f_X12_readsLine_J136 x20 x21 m23) else (grd (bok ((0))) (some ((0), m23))))
noncomputable def f_X12_readsLine_J57 (x9 : Int32) (m10 : Mm) : Option (Int32 × Mm) :=
  if 0 ≤ x9 then (if ¬ (gI m10 28 5) = ((40)) then (bdV (f_X12_nextToken  m10) fun m11 => bnd (((200)) + (gI m11 28 5)) fun x12 => grd (inb x12 240) (bnd (sI m11 29 x12.toNatClampNeg x9) fun m13 => if ¬ x9 = ((2)) then (f_X12_readsLine_J122 x9 x12 m13) else (bdI (f_X12_needsNumber ((1)) ((30)) m13) fun x15 m14 => if x15 = 0 then (grd (bok ((0))) (some ((0), m14))) else (f_X12_readsLine_J122 x9 x12 m14)))) else (bdI (f_X12_fails ((5)) m10) fun x17 m16 => grd (bok x17) (some (x17, m16)))) else (bdI (f_X12_fails ((1)) m10) fun x19 m18 => grd (bok x19) (some (x19, m18)))
noncomputable def f_X12_readsLine  (mem : Mm) : Option (Int32 × Mm) :=
  bdI (f_X12_isWord ((2968)) mem) fun x2 m1 => if x2 = 0 then (bdI (f_X12_isWord ((259906)) m1) fun x4 m3 => if x4 = 0 then (bdI (f_X12_isWord ((99233)) m3) fun x6 m5 => if x6 = 0 then (bdI (f_X12_isWord ((307058)) m5) fun x8 m7 => if x8 = 0 then (f_X12_readsLine_J57 ((-1)) m7) else (f_X12_readsLine_J57 ((3)) m7)) else (f_X12_readsLine_J57 ((2)) m5)) else (f_X12_readsLine_J57 ((1)) m3)) else (f_X12_readsLine_J57 ((0)) m1)
theorem dd_X12_readsLine : yX12_readsLine.cls = RX12 ∧ yX12_readsLine.cls ≠ "java/lang/invoke/MethodHandle" ∧ yX12_readsLine.cls ≠ "java/lang/invoke/VarHandle" ∧ (parseMethodDescriptor yX12_readsLine.desc).map (fun d => d.parameters.length) = some 0 := by decide +kernel
set_option maxHeartbeats 4000000 in
set_option maxRecDepth 100000 in
theorem k_X12_readsLine {l : Launch} {ad : Nat → Nat} {cy : Nat → ClassId} {dC : Nat → ClassId} {dI : Nat → Nat → Nat} {ks : (Nat → Nat) × (Nat → Nat)}  {mem : Mm} {r2 : Int32} {mem2 : Mm}  (h : f_X12_readsLine  mem = some (r2, mem2)) : CtI l Lm ad cy dC dI ks yX12_readsLine cX12_readsLine 3 (some .boolean) ({ frames := 5, cells := 0, slots := 0, locals := 108 }) [.ref (ad (0))] mem r2 mem2 := by
  refine CtI.of (cc := cX12_readsLine) (maxL := 3) (ret := (some .boolean)) (own := RX12) rfl (by decide) (Nat.le_of_ble_eq_true rfl) ?_
  intro p e s m args below meth c A X
  have hts := X.2.2.2.2.1
  have hJ157 : ∀ (x28 : Int32) (x29 : Int32) (x30 : Int32) (m31 : Mm), f_X12_readsLine_J157 x28 x29 x30 m31 = some (r2, mem2) → Jd p l e ({ frames := 5, cells := 0, slots := 0, locals := 108 }) s m args below meth c 3 (MQ below (PsI Lm ad cy dC dI r2 mem2 A) args s 0 0 A) A dC dI cy Lm ad m31 157 [(0, .ref (ad (0))), (2, .int (x28))] [.int (x29), .int (x30), .ref (ad (30))] := by
    intro x28 x29 x30 m31 h
    unfold f_X12_readsLine_J157 at h
    refine r_iast X (Lm_N Lmk_30 rfl) Lmk_30 h dX12_readsLine_157 (fun h => ?_)
    refine r_nmM h (fun m32 h => ?_)
    refine r_aload_n X dX12_readsLine_158 rfl 0 rfl ?_
    refine r_getF X (k := 45) (of := 31) rfl (Lm_N Lmk_0 rfl) Lmk_0 rfl (by decide) ui_12 (by decide) uw6_25 rfl dX12_readsLine_159 ?_
    refine r_iload_n X dX12_readsLine_162 rfl 1 rfl ?_
    refine r_aload_n X dX12_readsLine_163 rfl 0 rfl ?_
    refine r_getI X (k := 39) (Lm_N Lmk_0 rfl) Lmk_0 rfl (by decide) ui_12 (by decide) uw6_19 rfl dX12_readsLine_164 ?_
    refine r_iast X (Lm_N Lmk_31 rfl) Lmk_31 h dX12_readsLine_167 (fun h => ?_)
    refine r_nmM h (fun m33 h => ?_)
    refine r_aload_n X dX12_readsLine_168 rfl 0 rfl ?_
    refine r_getF X (k := 42) (of := 28) rfl (Lm_N Lmk_0 rfl) Lmk_0 rfl (by decide) ui_12 (by decide) uw6_22 rfl dX12_readsLine_169 ?_
    refine r_iconst (v := (5)) X dX12_readsLine_172 (by decide) ?_
    refine r_dup2 X dX12_readsLine_173 rfl rfl ?_
    refine r_iald X (Lm_N Lmk_28 rfl) Lmk_28 (g_in rfl h) dX12_readsLine_174 (fun h => ?_)
    refine r_iconst (v := (1)) X dX12_readsLine_175 (by decide) ?_
    refine r_iadd X dX12_readsLine_176 ?_
    refine r_iast X (Lm_N Lmk_28 rfl) Lmk_28 (g_in rfl h) dX12_readsLine_177 (fun h => ?_)
    refine r_nmM h (fun m34 h => ?_)
    refine r_aload_n X dX12_readsLine_178 rfl 0 rfl ?_
    refine r_cVI (As := []) (rest := []) X (fun r9 m9 hg => k_X12_closes hg) h (Lm_N Lmk_0 rfl) Lmk_0 rfl (by decide) uw7_29 uw7_31 us4_10 uw1_13 uw7_32 rfl rfl dd_X12_closes ⟨Nat.le_of_ble_eq_true rfl, Nat.le_of_ble_eq_true rfl⟩ rfl (Nat.le_of_ble_eq_true rfl) dX12_readsLine_179 rfl (fun x36 m35 h => ?_)
    exact r_zret2 X rfl dX12_readsLine_182 h
  have hJ136 : ∀ (x25 : Int32) (x26 : Int32) (m27 : Mm), f_X12_readsLine_J136 x25 x26 m27 = some (r2, mem2) → Jd p l e ({ frames := 5, cells := 0, slots := 0, locals := 108 }) s m args below meth c 3 (MQ below (PsI Lm ad cy dC dI r2 mem2 A) args s 0 0 A) A dC dI cy Lm ad m27 136 [(0, .ref (ad (0))), (1, .int (x25)), (2, .int (x26))] [] := by
    intro x25 x26 m27 h
    unfold f_X12_readsLine_J136 at h
    refine r_aload_n X dX12_readsLine_136 rfl 0 rfl ?_
    refine r_getF X (k := 44) (of := 30) rfl (Lm_N Lmk_0 rfl) Lmk_0 rfl (by decide) ui_12 (by decide) uw6_24 rfl dX12_readsLine_137 ?_
    refine r_iload_n X dX12_readsLine_140 rfl 2 rfl ?_
    refine r_iload_n X dX12_readsLine_141 rfl 1 rfl ?_
    refine r_iconst (v := (3)) X dX12_readsLine_142 (by decide) ?_
    refine r_icmp_ne (tgt := 153) X dX12_readsLine_143 (by decide) h (fun h => ?_) (fun h => ?_)
    · refine r_aload_n X dX12_readsLine_153 rfl 0 rfl ?_
      refine r_getI X (k := 39) (Lm_N Lmk_0 rfl) Lmk_0 rfl (by decide) ui_12 (by decide) uw6_19 rfl dX12_readsLine_154 ?_
      exact r_sub [0, 2] rfl (hJ157 x26 (gI m27 0 39) x26 m27 h)
    · refine r_aload_n X dX12_readsLine_146 rfl 0 rfl ?_
      refine r_getI X (k := 41) (Lm_N Lmk_0 rfl) Lmk_0 rfl (by decide) ui_12 (by decide) uw6_21 rfl dX12_readsLine_147 ?_
      refine r_goto (tgt := 157) X dX12_readsLine_150 (by decide) ?_
      exact r_sub [0, 2] rfl (hJ157 x26 (gI m27 0 41) x26 m27 h)
  have hJ122 : ∀ (x20 : Int32) (x21 : Int32) (m22 : Mm), f_X12_readsLine_J122 x20 x21 m22 = some (r2, mem2) → Jd p l e ({ frames := 5, cells := 0, slots := 0, locals := 108 }) s m args below meth c 3 (MQ below (PsI Lm ad cy dC dI r2 mem2 A) args s 0 0 A) A dC dI cy Lm ad m22 122 [(0, .ref (ad (0))), (1, .int (x20)), (2, .int (x21))] [] := by
    intro x20 x21 m22 h
    unfold f_X12_readsLine_J122 at h
    refine r_iload_n X dX12_readsLine_122 rfl 1 rfl ?_
    refine r_iconst (v := (3)) X dX12_readsLine_123 (by decide) ?_
    refine r_icmp_ne (tgt := 136) X dX12_readsLine_124 (by decide) h (fun h => ?_) (fun h => ?_)
    · exact r_sub [0, 1, 2] rfl (hJ136 x20 x21 m22 h)
    · refine r_aload_n X dX12_readsLine_127 rfl 0 rfl ?_
      refine r_cVI (As := []) (rest := []) X (fun r9 m9 hg => k_X12_needsSpan hg) h (Lm_N Lmk_0 rfl) Lmk_0 rfl (by decide) uw7_64 uw7_66 us5_2 uw1_13 uw7_67 rfl rfl dd_X12_needsSpan ⟨Nat.le_of_ble_eq_true rfl, Nat.le_of_ble_eq_true rfl⟩ rfl (Nat.le_of_ble_eq_true rfl) dX12_readsLine_128 rfl (fun x24 m23 h => ?_)
      refine r_if_ne (tgt := 136) X dX12_readsLine_131 (by decide) h (fun h => ?_) (fun h => ?_)
      · exact r_sub [0, 1, 2] rfl (hJ136 x20 x21 m23 h)
      · refine r_iconst (v := (0)) X dX12_readsLine_134 (by decide) ?_
        exact r_zret2 X rfl dX12_readsLine_135 h
  have hJ57 : ∀ (x9 : Int32) (m10 : Mm), f_X12_readsLine_J57 x9 m10 = some (r2, mem2) → Jd p l e ({ frames := 5, cells := 0, slots := 0, locals := 108 }) s m args below meth c 3 (MQ below (PsI Lm ad cy dC dI r2 mem2 A) args s 0 0 A) A dC dI cy Lm ad m10 57 [(0, .ref (ad (0)))] [.int (x9)] := by
    intro x9 m10 h
    unfold f_X12_readsLine_J57 at h
    refine r_istore_n (lv2 := [(1, .int (x9)), (0, .ref (ad (0)))]) X dX12_readsLine_57 rfl (by decide) rfl ?_
    refine r_iload_n X dX12_readsLine_58 rfl 0 rfl ?_
    refine r_if_ge (tgt := 68) X dX12_readsLine_59 (by decide) h (fun h => ?_) (fun h => ?_)
    · refine r_aload_n X dX12_readsLine_68 rfl 1 rfl ?_
      refine r_getF X (k := 42) (of := 28) rfl (Lm_N Lmk_0 rfl) Lmk_0 rfl (by decide) ui_12 (by decide) uw6_22 rfl dX12_readsLine_69 ?_
      refine r_iconst (v := (5)) X dX12_readsLine_72 (by decide) ?_
      refine r_iald X (Lm_N Lmk_28 rfl) Lmk_28 (g_in rfl h) dX12_readsLine_73 (fun h => ?_)
      refine r_bipush (v := (40)) X dX12_readsLine_74 (by decide) ?_
      refine r_icmp_ne (tgt := 85) X dX12_readsLine_76 (by decide) h (fun h => ?_) (fun h => ?_)
      · refine r_aload_n X dX12_readsLine_85 rfl 1 rfl ?_
        refine r_cVV (As := []) (rest := []) X (fun m9 hg => k_X12_nextToken hg) h (Lm_N Lmk_0 rfl) Lmk_0 rfl (by decide) uw6_204 uw6_206 us4_0 uw1_13 uw6_207 rfl rfl dd_X12_nextToken ⟨Nat.le_of_ble_eq_true rfl, Nat.le_of_ble_eq_true rfl⟩ rfl (Nat.le_of_ble_eq_true rfl) dX12_readsLine_86 rfl (fun m11 h => ?_)
        refine r_sipush (v := (200)) X dX12_readsLine_89 (by decide) ?_
        refine r_aload_n X dX12_readsLine_92 rfl 1 rfl ?_
        refine r_getF X (k := 42) (of := 28) rfl (Lm_N Lmk_0 rfl) Lmk_0 rfl (by decide) ui_12 (by decide) uw6_22 rfl dX12_readsLine_93 ?_
        refine r_iconst (v := (5)) X dX12_readsLine_96 (by decide) ?_
        refine r_iald X (Lm_N Lmk_28 rfl) Lmk_28 (g_in rfl h) dX12_readsLine_97 (fun h => ?_)
        refine r_iadd X dX12_readsLine_98 ?_
        refine r_nmI h (fun x12 h => ?_)
        refine r_istore_n (lv2 := [(2, .int (x12)), (1, .int (x9)), (0, .ref (ad (0)))]) X dX12_readsLine_99 rfl (by decide) rfl ?_
        refine r_aload_n X dX12_readsLine_100 rfl 2 rfl ?_
        refine r_getF X (k := 43) (of := 29) rfl (Lm_N Lmk_0 rfl) Lmk_0 rfl (by decide) ui_12 (by decide) uw6_23 rfl dX12_readsLine_101 ?_
        refine r_iload_n X dX12_readsLine_104 rfl 0 rfl ?_
        refine r_iload_n X dX12_readsLine_105 rfl 1 rfl ?_
        refine r_iast X (Lm_N Lmk_29 rfl) Lmk_29 h dX12_readsLine_106 (fun h => ?_)
        refine r_nmM h (fun m13 h => ?_)
        refine r_iload_n X dX12_readsLine_107 rfl 1 rfl ?_
        refine r_iconst (v := (2)) X dX12_readsLine_108 (by decide) ?_
        refine r_icmp_ne (tgt := 122) X dX12_readsLine_109 (by decide) h (fun h => ?_) (fun h => ?_)
        · exact r_sub [2, 1, 0] rfl (hJ122 x9 x12 m13 h)
        · refine r_aload_n X dX12_readsLine_112 rfl 2 rfl ?_
          refine r_iconst (v := (1)) X dX12_readsLine_113 (by decide) ?_
          refine r_bipush (v := (30)) X dX12_readsLine_114 (by decide) ?_
          refine r_cVI (As := [.int ((1)), .int ((30))]) (rest := []) X (fun r9 m9 hg => k_X12_needsNumber hg) h (Lm_N Lmk_0 rfl) Lmk_0 rfl (by decide) uw7_45 uw7_47 us4_14 uw1_13 uw7_48 rfl rfl dd_X12_needsNumber ⟨Nat.le_of_ble_eq_true rfl, Nat.le_of_ble_eq_true rfl⟩ rfl (Nat.le_of_ble_eq_true rfl) dX12_readsLine_116 rfl (fun x15 m14 h => ?_)
          refine r_if_eq (tgt := 134) X dX12_readsLine_119 (by decide) h (fun h => ?_) (fun h => ?_)
          · refine r_iconst (v := (0)) X dX12_readsLine_134 (by decide) ?_
            exact r_zret2 X rfl dX12_readsLine_135 h
          · exact r_sub [2, 1, 0] rfl (hJ122 x9 x12 m14 h)
      · refine r_aload_n X dX12_readsLine_79 rfl 1 rfl ?_
        refine r_iconst (v := (5)) X dX12_readsLine_80 (by decide) ?_
        refine r_cVI (As := [.int ((5))]) (rest := []) X (fun r9 m9 hg => k_X12_fails hg) h (Lm_N Lmk_0 rfl) Lmk_0 rfl (by decide) uw6_223 uw6_225 us4_4 uw1_13 uw6_226 rfl rfl dd_X12_fails ⟨Nat.le_of_ble_eq_true rfl, Nat.le_of_ble_eq_true rfl⟩ rfl (Nat.le_of_ble_eq_true rfl) dX12_readsLine_81 rfl (fun x17 m16 h => ?_)
        exact r_zret2 X rfl dX12_readsLine_84 h
    · refine r_aload_n X dX12_readsLine_62 rfl 1 rfl ?_
      refine r_iconst (v := (1)) X dX12_readsLine_63 (by decide) ?_
      refine r_cVI (As := [.int ((1))]) (rest := []) X (fun r9 m9 hg => k_X12_fails hg) h (Lm_N Lmk_0 rfl) Lmk_0 rfl (by decide) uw6_223 uw6_225 us4_4 uw1_13 uw6_226 rfl rfl dd_X12_fails ⟨Nat.le_of_ble_eq_true rfl, Nat.le_of_ble_eq_true rfl⟩ rfl (Nat.le_of_ble_eq_true rfl) dX12_readsLine_64 rfl (fun x19 m18 h => ?_)
      exact r_zret2 X rfl dX12_readsLine_67 h
  unfold f_X12_readsLine at h
  refine r_aload_n X dX12_readsLine_0 rfl 0 rfl ?_
  refine r_ldc2 (v := 2968) X dX12_readsLine_1 uw7_8 ?_
  refine r_cVI (As := [.long ((2968))]) (rest := []) X (fun r9 m9 hg => k_X12_isWord hg) h (Lm_N Lmk_0 rfl) Lmk_0 rfl (by decide) uw6_215 uw6_217 us4_2 uw1_13 uw6_218 rfl rfl dd_X12_isWord ⟨Nat.le_of_ble_eq_true rfl, Nat.le_of_ble_eq_true rfl⟩ rfl (Nat.le_of_ble_eq_true rfl) dX12_readsLine_4 rfl (fun x2 m1 h => ?_)
  refine r_if_eq (tgt := 14) X dX12_readsLine_7 (by decide) h (fun h => ?_) (fun h => ?_)
  · refine r_aload_n X dX12_readsLine_14 rfl 0 rfl ?_
    refine r_ldc2 (v := 259906) X dX12_readsLine_15 uw7_9 ?_
    refine r_cVI (As := [.long ((259906))]) (rest := []) X (fun r9 m9 hg => k_X12_isWord hg) h (Lm_N Lmk_0 rfl) Lmk_0 rfl (by decide) uw6_215 uw6_217 us4_2 uw1_13 uw6_218 rfl rfl dd_X12_isWord ⟨Nat.le_of_ble_eq_true rfl, Nat.le_of_ble_eq_true rfl⟩ rfl (Nat.le_of_ble_eq_true rfl) dX12_readsLine_18 rfl (fun x4 m3 h => ?_)
    refine r_if_eq (tgt := 28) X dX12_readsLine_21 (by decide) h (fun h => ?_) (fun h => ?_)
    · refine r_aload_n X dX12_readsLine_28 rfl 0 rfl ?_
      refine r_ldc2 (v := 99233) X dX12_readsLine_29 uw7_2 ?_
      refine r_cVI (As := [.long ((99233))]) (rest := []) X (fun r9 m9 hg => k_X12_isWord hg) h (Lm_N Lmk_0 rfl) Lmk_0 rfl (by decide) uw6_215 uw6_217 us4_2 uw1_13 uw6_218 rfl rfl dd_X12_isWord ⟨Nat.le_of_ble_eq_true rfl, Nat.le_of_ble_eq_true rfl⟩ rfl (Nat.le_of_ble_eq_true rfl) dX12_readsLine_32 rfl (fun x6 m5 h => ?_)
      refine r_if_eq (tgt := 42) X dX12_readsLine_35 (by decide) h (fun h => ?_) (fun h => ?_)
      · refine r_aload_n X dX12_readsLine_42 rfl 0 rfl ?_
        refine r_ldc2 (v := 307058) X dX12_readsLine_43 uw7_3 ?_
        refine r_cVI (As := [.long ((307058))]) (rest := []) X (fun r9 m9 hg => k_X12_isWord hg) h (Lm_N Lmk_0 rfl) Lmk_0 rfl (by decide) uw6_215 uw6_217 us4_2 uw1_13 uw6_218 rfl rfl dd_X12_isWord ⟨Nat.le_of_ble_eq_true rfl, Nat.le_of_ble_eq_true rfl⟩ rfl (Nat.le_of_ble_eq_true rfl) dX12_readsLine_46 rfl (fun x8 m7 h => ?_)
        refine r_if_eq (tgt := 56) X dX12_readsLine_49 (by decide) h (fun h => ?_) (fun h => ?_)
        · refine r_iconst (v := (-1)) X dX12_readsLine_56 (by decide) ?_
          exact r_sub [0] rfl (hJ57 ((-1)) m7 h)
        · refine r_iconst (v := (3)) X dX12_readsLine_52 (by decide) ?_
          refine r_goto (tgt := 57) X dX12_readsLine_53 (by decide) ?_
          exact r_sub [0] rfl (hJ57 ((3)) m7 h)
      · refine r_iconst (v := (2)) X dX12_readsLine_38 (by decide) ?_
        refine r_goto (tgt := 57) X dX12_readsLine_39 (by decide) ?_
        exact r_sub [0] rfl (hJ57 ((2)) m5 h)
    · refine r_iconst (v := (1)) X dX12_readsLine_24 (by decide) ?_
      refine r_goto (tgt := 57) X dX12_readsLine_25 (by decide) ?_
      exact r_sub [0] rfl (hJ57 ((1)) m3 h)
  · refine r_iconst (v := (0)) X dX12_readsLine_10 (by decide) ?_
    refine r_goto (tgt := 57) X dX12_readsLine_11 (by decide) ?_
    exact r_sub [0] rfl (hJ57 ((0)) m1 h)
noncomputable def f_X12_laysLines_B14 (p1 : Int32) (p2 : Int32) (k14 : Int32 → Mm → Option Mm) (x2 : Int32) (m3 : Mm) : Option Mm :=
  if ((40)) ≤ x2 then (some m3) else (grd (inb ((((40)) * p1) + x2) 240) (grd (inb ((((40)) * p2) + x2) 240) (bnd (sI m3 29 ((((40)) * p2) + x2).toNatClampNeg (gI m3 29 ((((40)) * p1) + x2).toNatClampNeg)) fun m4 => grd (inb ((((40)) * p1) + x2) 240) (grd (inb ((((40)) * p2) + x2) 240) (bnd (sI m4 30 ((((40)) * p2) + x2).toNatClampNeg (gI m4 30 ((((40)) * p1) + x2).toNatClampNeg)) fun m5 => grd (inb ((((40)) * p1) + x2) 240) (grd (inb ((((40)) * p2) + x2) 240) (bnd (sI m5 31 ((((40)) * p2) + x2).toNatClampNeg (gI m5 31 ((((40)) * p1) + x2).toNatClampNeg)) fun m6 => bnd (x2 + (1)) fun x7 => k14 x7 m6)))))))
noncomputable def f_X12_laysLines (p1 : Int32) (p2 : Int32) (mem : Mm) : Option Mm :=
  grd (inb p1 6) (grd (inb p2 6) (bnd (sI mem 28 p2.toNatClampNeg (gI mem 28 p1.toNatClampNeg)) fun m1 => lop (fun _ _ => none) (f_X12_laysLines_B14 p1 p2 ) 4000 ((0)) m1))
theorem dd_X12_laysLines : yX12_laysLines.cls = RX12 ∧ yX12_laysLines.cls ≠ "java/lang/invoke/MethodHandle" ∧ yX12_laysLines.cls ≠ "java/lang/invoke/VarHandle" ∧ (parseMethodDescriptor yX12_laysLines.desc).map (fun d => d.parameters.length) = some 2 := by decide +kernel
set_option maxHeartbeats 4000000 in
set_option maxRecDepth 100000 in
theorem k_X12_laysLines {l : Launch} {ad : Nat → Nat} {cy : Nat → ClassId} {dC : Nat → ClassId} {dI : Nat → Nat → Nat} {ks : (Nat → Nat) × (Nat → Nat)} {p1 : Int32} {p2 : Int32} {mem : Mm} {mem2 : Mm}  (h : f_X12_laysLines p1 p2 mem = some mem2) : CtV l Lm ad cy dC dI ks yX12_laysLines cX12_laysLines 4 none ({ frames := 0, cells := 0, slots := 0, locals := 0 }) [.ref (ad (0)), .int (p1), .int (p2)] mem mem2 := by
  refine CtV.of (cc := cX12_laysLines) (maxL := 4) (ret := none) (own := RX12) rfl (by decide) (Nat.le_of_ble_eq_true rfl) ?_
  intro p e s m args below meth c A X
  have hts := X.2.2.2.2.1
  have hJ14 : ∀ (k14 : Int32 → Mm → Option Mm) (hk14 : ∀ (x2 : Int32) (m3 : Mm), k14 x2 m3 = some mem2 → Jd p l e ({ frames := 0, cells := 0, slots := 0, locals := 0 }) s m args below meth c 4 (MQ below (PsV Lm ad cy dC dI mem2 A) args s 0 0 A) A dC dI cy Lm ad m3 14 [(0, .ref (ad (0))), (1, .int (p1)), (2, .int (p2)), (3, .int (x2))] []) (x2 : Int32) (m3 : Mm), f_X12_laysLines_B14 p1 p2 k14 x2 m3 = some mem2 → Jd p l e ({ frames := 0, cells := 0, slots := 0, locals := 0 }) s m args below meth c 4 (MQ below (PsV Lm ad cy dC dI mem2 A) args s 0 0 A) A dC dI cy Lm ad m3 14 [(0, .ref (ad (0))), (1, .int (p1)), (2, .int (p2)), (3, .int (x2))] [] := by
    intro k14 hk14 x2 m3 h
    unfold f_X12_laysLines_B14 at h
    refine r_iload_n X dX12_laysLines_14 rfl 3 rfl ?_
    refine r_bipush (v := (40)) X dX12_laysLines_15 (by decide) ?_
    refine r_icmp_ge (tgt := 92) X dX12_laysLines_17 (by decide) h (fun h => ?_) (fun h => ?_)
    · exact r_vret X rfl dX12_laysLines_92 h
    · refine r_aload_n X dX12_laysLines_20 rfl 0 rfl ?_
      refine r_getF X (k := 43) (of := 29) rfl (Lm_N Lmk_0 rfl) Lmk_0 rfl (by decide) ui_12 (by decide) uw6_23 rfl dX12_laysLines_21 ?_
      refine r_bipush (v := (40)) X dX12_laysLines_24 (by decide) ?_
      refine r_iload_n X dX12_laysLines_26 rfl 2 rfl ?_
      refine r_imul X dX12_laysLines_27 ?_
      refine r_iload_n X dX12_laysLines_28 rfl 3 rfl ?_
      refine r_iadd X dX12_laysLines_29 ?_
      refine r_aload_n X dX12_laysLines_30 rfl 0 rfl ?_
      refine r_getF X (k := 43) (of := 29) rfl (Lm_N Lmk_0 rfl) Lmk_0 rfl (by decide) ui_12 (by decide) uw6_23 rfl dX12_laysLines_31 ?_
      refine r_bipush (v := (40)) X dX12_laysLines_34 (by decide) ?_
      refine r_iload_n X dX12_laysLines_36 rfl 1 rfl ?_
      refine r_imul X dX12_laysLines_37 ?_
      refine r_iload_n X dX12_laysLines_38 rfl 3 rfl ?_
      refine r_iadd X dX12_laysLines_39 ?_
      refine r_iald X (Lm_N Lmk_29 rfl) Lmk_29 h dX12_laysLines_40 (fun h => ?_)
      refine r_iast X (Lm_N Lmk_29 rfl) Lmk_29 h dX12_laysLines_41 (fun h => ?_)
      refine r_nmM h (fun m4 h => ?_)
      refine r_aload_n X dX12_laysLines_42 rfl 0 rfl ?_
      refine r_getF X (k := 44) (of := 30) rfl (Lm_N Lmk_0 rfl) Lmk_0 rfl (by decide) ui_12 (by decide) uw6_24 rfl dX12_laysLines_43 ?_
      refine r_bipush (v := (40)) X dX12_laysLines_46 (by decide) ?_
      refine r_iload_n X dX12_laysLines_48 rfl 2 rfl ?_
      refine r_imul X dX12_laysLines_49 ?_
      refine r_iload_n X dX12_laysLines_50 rfl 3 rfl ?_
      refine r_iadd X dX12_laysLines_51 ?_
      refine r_aload_n X dX12_laysLines_52 rfl 0 rfl ?_
      refine r_getF X (k := 44) (of := 30) rfl (Lm_N Lmk_0 rfl) Lmk_0 rfl (by decide) ui_12 (by decide) uw6_24 rfl dX12_laysLines_53 ?_
      refine r_bipush (v := (40)) X dX12_laysLines_56 (by decide) ?_
      refine r_iload_n X dX12_laysLines_58 rfl 1 rfl ?_
      refine r_imul X dX12_laysLines_59 ?_
      refine r_iload_n X dX12_laysLines_60 rfl 3 rfl ?_
      refine r_iadd X dX12_laysLines_61 ?_
      refine r_iald X (Lm_N Lmk_30 rfl) Lmk_30 h dX12_laysLines_62 (fun h => ?_)
      refine r_iast X (Lm_N Lmk_30 rfl) Lmk_30 h dX12_laysLines_63 (fun h => ?_)
      refine r_nmM h (fun m5 h => ?_)
      refine r_aload_n X dX12_laysLines_64 rfl 0 rfl ?_
      refine r_getF X (k := 45) (of := 31) rfl (Lm_N Lmk_0 rfl) Lmk_0 rfl (by decide) ui_12 (by decide) uw6_25 rfl dX12_laysLines_65 ?_
      refine r_bipush (v := (40)) X dX12_laysLines_68 (by decide) ?_
      refine r_iload_n X dX12_laysLines_70 rfl 2 rfl ?_
      refine r_imul X dX12_laysLines_71 ?_
      refine r_iload_n X dX12_laysLines_72 rfl 3 rfl ?_
      refine r_iadd X dX12_laysLines_73 ?_
      refine r_aload_n X dX12_laysLines_74 rfl 0 rfl ?_
      refine r_getF X (k := 45) (of := 31) rfl (Lm_N Lmk_0 rfl) Lmk_0 rfl (by decide) ui_12 (by decide) uw6_25 rfl dX12_laysLines_75 ?_
      refine r_bipush (v := (40)) X dX12_laysLines_78 (by decide) ?_
      refine r_iload_n X dX12_laysLines_80 rfl 1 rfl ?_
      refine r_imul X dX12_laysLines_81 ?_
      refine r_iload_n X dX12_laysLines_82 rfl 3 rfl ?_
      refine r_iadd X dX12_laysLines_83 ?_
      refine r_iald X (Lm_N Lmk_31 rfl) Lmk_31 h dX12_laysLines_84 (fun h => ?_)
      refine r_iast X (Lm_N Lmk_31 rfl) Lmk_31 h dX12_laysLines_85 (fun h => ?_)
      refine r_nmM h (fun m6 h => ?_)
      refine r_inc h (fun x7 e9 h => ?_)
      refine r_iinc (v := x7) (lv2 := [(3, .int (x7)), (0, .ref (ad (0))), (1, .int (p1)), (2, .int (p2))]) X dX12_laysLines_86 3 rfl (by rw [e9]; rfl) (by decide) rfl ?_
      refine r_goto (tgt := 14) X dX12_laysLines_89 (by decide) ?_
      exact r_sub [1, 2, 3, 0] rfl (hk14 x7 m6 h)
  have hL14 : ∀ (n : Nat), ∀ (x2 : Int32) (m3 : Mm), lop (fun _ _ => none) (f_X12_laysLines_B14 p1 p2 ) n x2 m3 = some mem2 → Jd p l e ({ frames := 0, cells := 0, slots := 0, locals := 0 }) s m args below meth c 4 (MQ below (PsV Lm ad cy dC dI mem2 A) args s 0 0 A) A dC dI cy Lm ad m3 14 [(0, .ref (ad (0))), (1, .int (p1)), (2, .int (p2)), (3, .int (x2))] [] := by
    intro  n
    induction n with
    | zero => intro _ _ h; cases h
    | succ n ih => intro a0 a1 h; exact hJ14  _ ih a0 a1 h
  unfold f_X12_laysLines at h
  refine r_aload_n X dX12_laysLines_0 rfl 0 rfl ?_
  refine r_getF X (k := 42) (of := 28) rfl (Lm_N Lmk_0 rfl) Lmk_0 rfl (by decide) ui_12 (by decide) uw6_22 rfl dX12_laysLines_1 ?_
  refine r_iload_n X dX12_laysLines_4 rfl 2 rfl ?_
  refine r_aload_n X dX12_laysLines_5 rfl 0 rfl ?_
  refine r_getF X (k := 42) (of := 28) rfl (Lm_N Lmk_0 rfl) Lmk_0 rfl (by decide) ui_12 (by decide) uw6_22 rfl dX12_laysLines_6 ?_
  refine r_iload_n X dX12_laysLines_9 rfl 1 rfl ?_
  refine r_iald X (Lm_N Lmk_28 rfl) Lmk_28 h dX12_laysLines_10 (fun h => ?_)
  refine r_iast X (Lm_N Lmk_28 rfl) Lmk_28 h dX12_laysLines_11 (fun h => ?_)
  refine r_nmM h (fun m1 h => ?_)
  refine r_iconst (v := (0)) X dX12_laysLines_12 (by decide) ?_
  refine r_istore_n (lv2 := [(3, .int ((0))), (0, .ref (ad (0))), (1, .int (p1)), (2, .int (p2))]) X dX12_laysLines_13 rfl (by decide) rfl ?_
  exact r_sub [1, 2, 3, 0] rfl (hL14 4000 ((0)) m1 h)
noncomputable def f_X12_laysFound_B14 (p1 : Int32) (p2 : Int32) (k14 : Int32 → Mm → Option Mm) (x2 : Int32) (m3 : Mm) : Option Mm :=
  if ((8)) ≤ x2 then (some m3) else (grd (inb ((((8)) * p1) + x2) 40) (grd (inb ((((8)) * p2) + x2) 40) (bnd (sI m3 33 ((((8)) * p2) + x2).toNatClampNeg (gI m3 33 ((((8)) * p1) + x2).toNatClampNeg)) fun m4 => grd (inb ((((8)) * p1) + x2) 40) (grd (inb ((((8)) * p2) + x2) 40) (bnd (sI m4 34 ((((8)) * p2) + x2).toNatClampNeg (gI m4 34 ((((8)) * p1) + x2).toNatClampNeg)) fun m5 => bnd (x2 + (1)) fun x6 => k14 x6 m5)))))
noncomputable def f_X12_laysFound (p1 : Int32) (p2 : Int32) (mem : Mm) : Option Mm :=
  grd (inb p1 5) (grd (inb p2 5) (bnd (sI mem 32 p2.toNatClampNeg (gI mem 32 p1.toNatClampNeg)) fun m1 => lop (fun _ _ => none) (f_X12_laysFound_B14 p1 p2 ) 4000 ((0)) m1))
theorem dd_X12_laysFound : yX12_laysFound.cls = RX12 ∧ yX12_laysFound.cls ≠ "java/lang/invoke/MethodHandle" ∧ yX12_laysFound.cls ≠ "java/lang/invoke/VarHandle" ∧ (parseMethodDescriptor yX12_laysFound.desc).map (fun d => d.parameters.length) = some 2 := by decide +kernel
set_option maxHeartbeats 4000000 in
set_option maxRecDepth 100000 in
theorem k_X12_laysFound {l : Launch} {ad : Nat → Nat} {cy : Nat → ClassId} {dC : Nat → ClassId} {dI : Nat → Nat → Nat} {ks : (Nat → Nat) × (Nat → Nat)} {p1 : Int32} {p2 : Int32} {mem : Mm} {mem2 : Mm}  (h : f_X12_laysFound p1 p2 mem = some mem2) : CtV l Lm ad cy dC dI ks yX12_laysFound cX12_laysFound 4 none ({ frames := 0, cells := 0, slots := 0, locals := 0 }) [.ref (ad (0)), .int (p1), .int (p2)] mem mem2 := by
  refine CtV.of (cc := cX12_laysFound) (maxL := 4) (ret := none) (own := RX12) rfl (by decide) (Nat.le_of_ble_eq_true rfl) ?_
  intro p e s m args below meth c A X
  have hts := X.2.2.2.2.1
  have hJ14 : ∀ (k14 : Int32 → Mm → Option Mm) (hk14 : ∀ (x2 : Int32) (m3 : Mm), k14 x2 m3 = some mem2 → Jd p l e ({ frames := 0, cells := 0, slots := 0, locals := 0 }) s m args below meth c 4 (MQ below (PsV Lm ad cy dC dI mem2 A) args s 0 0 A) A dC dI cy Lm ad m3 14 [(0, .ref (ad (0))), (1, .int (p1)), (2, .int (p2)), (3, .int (x2))] []) (x2 : Int32) (m3 : Mm), f_X12_laysFound_B14 p1 p2 k14 x2 m3 = some mem2 → Jd p l e ({ frames := 0, cells := 0, slots := 0, locals := 0 }) s m args below meth c 4 (MQ below (PsV Lm ad cy dC dI mem2 A) args s 0 0 A) A dC dI cy Lm ad m3 14 [(0, .ref (ad (0))), (1, .int (p1)), (2, .int (p2)), (3, .int (x2))] [] := by
    intro k14 hk14 x2 m3 h
    unfold f_X12_laysFound_B14 at h
    refine r_iload_n X dX12_laysFound_14 rfl 3 rfl ?_
    refine r_bipush (v := (8)) X dX12_laysFound_15 (by decide) ?_
    refine r_icmp_ge (tgt := 70) X dX12_laysFound_17 (by decide) h (fun h => ?_) (fun h => ?_)
    · exact r_vret X rfl dX12_laysFound_70 h
    · refine r_aload_n X dX12_laysFound_20 rfl 0 rfl ?_
      refine r_getF X (k := 47) (of := 33) rfl (Lm_N Lmk_0 rfl) Lmk_0 rfl (by decide) ui_12 (by decide) uw6_27 rfl dX12_laysFound_21 ?_
      refine r_bipush (v := (8)) X dX12_laysFound_24 (by decide) ?_
      refine r_iload_n X dX12_laysFound_26 rfl 2 rfl ?_
      refine r_imul X dX12_laysFound_27 ?_
      refine r_iload_n X dX12_laysFound_28 rfl 3 rfl ?_
      refine r_iadd X dX12_laysFound_29 ?_
      refine r_aload_n X dX12_laysFound_30 rfl 0 rfl ?_
      refine r_getF X (k := 47) (of := 33) rfl (Lm_N Lmk_0 rfl) Lmk_0 rfl (by decide) ui_12 (by decide) uw6_27 rfl dX12_laysFound_31 ?_
      refine r_bipush (v := (8)) X dX12_laysFound_34 (by decide) ?_
      refine r_iload_n X dX12_laysFound_36 rfl 1 rfl ?_
      refine r_imul X dX12_laysFound_37 ?_
      refine r_iload_n X dX12_laysFound_38 rfl 3 rfl ?_
      refine r_iadd X dX12_laysFound_39 ?_
      refine r_iald X (Lm_N Lmk_33 rfl) Lmk_33 h dX12_laysFound_40 (fun h => ?_)
      refine r_iast X (Lm_N Lmk_33 rfl) Lmk_33 h dX12_laysFound_41 (fun h => ?_)
      refine r_nmM h (fun m4 h => ?_)
      refine r_aload_n X dX12_laysFound_42 rfl 0 rfl ?_
      refine r_getF X (k := 48) (of := 34) rfl (Lm_N Lmk_0 rfl) Lmk_0 rfl (by decide) ui_12 (by decide) uw6_28 rfl dX12_laysFound_43 ?_
      refine r_bipush (v := (8)) X dX12_laysFound_46 (by decide) ?_
      refine r_iload_n X dX12_laysFound_48 rfl 2 rfl ?_
      refine r_imul X dX12_laysFound_49 ?_
      refine r_iload_n X dX12_laysFound_50 rfl 3 rfl ?_
      refine r_iadd X dX12_laysFound_51 ?_
      refine r_aload_n X dX12_laysFound_52 rfl 0 rfl ?_
      refine r_getF X (k := 48) (of := 34) rfl (Lm_N Lmk_0 rfl) Lmk_0 rfl (by decide) ui_12 (by decide) uw6_28 rfl dX12_laysFound_53 ?_
      refine r_bipush (v := (8)) X dX12_laysFound_56 (by decide) ?_
      refine r_iload_n X dX12_laysFound_58 rfl 1 rfl ?_
      refine r_imul X dX12_laysFound_59 ?_
      refine r_iload_n X dX12_laysFound_60 rfl 3 rfl ?_
      refine r_iadd X dX12_laysFound_61 ?_
      refine r_iald X (Lm_N Lmk_34 rfl) Lmk_34 h dX12_laysFound_62 (fun h => ?_)
      refine r_iast X (Lm_N Lmk_34 rfl) Lmk_34 h dX12_laysFound_63 (fun h => ?_)
      refine r_nmM h (fun m5 h => ?_)
      refine r_inc h (fun x6 e9 h => ?_)
      refine r_iinc (v := x6) (lv2 := [(3, .int (x6)), (0, .ref (ad (0))), (1, .int (p1)), (2, .int (p2))]) X dX12_laysFound_64 3 rfl (by rw [e9]; rfl) (by decide) rfl ?_
      refine r_goto (tgt := 14) X dX12_laysFound_67 (by decide) ?_
      exact r_sub [1, 2, 3, 0] rfl (hk14 x6 m5 h)
  have hL14 : ∀ (n : Nat), ∀ (x2 : Int32) (m3 : Mm), lop (fun _ _ => none) (f_X12_laysFound_B14 p1 p2 ) n x2 m3 = some mem2 → Jd p l e ({ frames := 0, cells := 0, slots := 0, locals := 0 }) s m args below meth c 4 (MQ below (PsV Lm ad cy dC dI mem2 A) args s 0 0 A) A dC dI cy Lm ad m3 14 [(0, .ref (ad (0))), (1, .int (p1)), (2, .int (p2)), (3, .int (x2))] [] := by
    intro  n
    induction n with
    | zero => intro _ _ h; cases h
    | succ n ih => intro a0 a1 h; exact hJ14  _ ih a0 a1 h
  unfold f_X12_laysFound at h
  refine r_aload_n X dX12_laysFound_0 rfl 0 rfl ?_
  refine r_getF X (k := 46) (of := 32) rfl (Lm_N Lmk_0 rfl) Lmk_0 rfl (by decide) ui_12 (by decide) uw6_26 rfl dX12_laysFound_1 ?_
  refine r_iload_n X dX12_laysFound_4 rfl 2 rfl ?_
  refine r_aload_n X dX12_laysFound_5 rfl 0 rfl ?_
  refine r_getF X (k := 46) (of := 32) rfl (Lm_N Lmk_0 rfl) Lmk_0 rfl (by decide) ui_12 (by decide) uw6_26 rfl dX12_laysFound_6 ?_
  refine r_iload_n X dX12_laysFound_9 rfl 1 rfl ?_
  refine r_iald X (Lm_N Lmk_32 rfl) Lmk_32 h dX12_laysFound_10 (fun h => ?_)
  refine r_iast X (Lm_N Lmk_32 rfl) Lmk_32 h dX12_laysFound_11 (fun h => ?_)
  refine r_nmM h (fun m1 h => ?_)
  refine r_iconst (v := (0)) X dX12_laysFound_12 (by decide) ?_
  refine r_istore_n (lv2 := [(3, .int ((0))), (0, .ref (ad (0))), (1, .int (p1)), (2, .int (p2))]) X dX12_laysFound_13 rfl (by decide) rfl ?_
  exact r_sub [1, 2, 3, 0] rfl (hL14 4000 ((0)) m1 h)
noncomputable def f_X12_station_B46 (k46 : Int32 → Mm → Option (Int32 × Mm)) (x9 : Int32) (m10 : Mm) : Option (Int32 × Mm) :=
  if ((4)) ≤ x9 then (some ((0), m10)) else (grd (inb x9 4) (bnd (sI m10 40 x9.toNatClampNeg (vp_nar .boolean ((0)))) fun m11 => bnd (x9 + (1)) fun x12 => k46 x12 m11))
noncomputable def f_X12_station  (mem : Mm) : Option (Int32 × Mm) :=
  bnd (sI mem 0 0 ((0))) fun m1 => bdI (f_X12_readsAll  m1) fun x3 m2 => if ¬ x3 = 0 then (bdV (f_X12_lays  m2) fun m4 => bdV (f_X12_fresh  m4) fun m5 => bnd (sI m5 28 0 ((0))) fun m6 => bnd (sI m6 32 0 ((0))) fun m7 => bnd (sI m7 0 55 ((0))) fun m8 => lop (fun _ _ => none) (f_X12_station_B46 ) 4000 ((0)) m8) else (some (gI m2 0 9, m2))
theorem dd_X12_station : yX12_station.cls = RX12 ∧ yX12_station.cls ≠ "java/lang/invoke/MethodHandle" ∧ yX12_station.cls ≠ "java/lang/invoke/VarHandle" ∧ (parseMethodDescriptor yX12_station.desc).map (fun d => d.parameters.length) = some 0 := by decide +kernel
set_option maxHeartbeats 4000000 in
set_option maxRecDepth 100000 in
theorem k_X12_station {l : Launch} {ad : Nat → Nat} {cy : Nat → ClassId} {dC : Nat → ClassId} {dI : Nat → Nat → Nat} {ks : (Nat → Nat) × (Nat → Nat)}  {mem : Mm} {r2 : Int32} {mem2 : Mm}  (h : f_X12_station  mem = some (r2, mem2)) : CtI l Lm ad cy dC dI ks yX12_station cX12_station 2 (some .int) ({ frames := 7, cells := 0, slots := 0, locals := 149 }) [.ref (ad (0))] mem r2 mem2 := by
  refine CtI.of (cc := cX12_station) (maxL := 2) (ret := (some .int)) (own := RX12) rfl (by decide) (Nat.le_of_ble_eq_true rfl) ?_
  intro p e s m args below meth c A X
  have hts := X.2.2.2.2.1
  have hJ46 : ∀ (k46 : Int32 → Mm → Option (Int32 × Mm)) (hk46 : ∀ (x9 : Int32) (m10 : Mm), k46 x9 m10 = some (r2, mem2) → Jd p l e ({ frames := 7, cells := 0, slots := 0, locals := 149 }) s m args below meth c 2 (MQ below (PsI Lm ad cy dC dI r2 mem2 A) args s 0 0 A) A dC dI cy Lm ad m10 46 [(0, .ref (ad (0))), (1, .int (x9))] []) (x9 : Int32) (m10 : Mm), f_X12_station_B46 k46 x9 m10 = some (r2, mem2) → Jd p l e ({ frames := 7, cells := 0, slots := 0, locals := 149 }) s m args below meth c 2 (MQ below (PsI Lm ad cy dC dI r2 mem2 A) args s 0 0 A) A dC dI cy Lm ad m10 46 [(0, .ref (ad (0))), (1, .int (x9))] [] := by
    intro k46 hk46 x9 m10 h
    unfold f_X12_station_B46 at h
    refine r_iload_n X dX12_station_46 rfl 1 rfl ?_
    refine r_iconst (v := (4)) X dX12_station_47 (by decide) ?_
    refine r_icmp_ge (tgt := 64) X dX12_station_48 (by decide) h (fun h => ?_) (fun h => ?_)
    · refine r_iconst (v := (0)) X dX12_station_64 (by decide) ?_
      exact r_iret2 X rfl dX12_station_65 h
    · refine r_aload_n X dX12_station_51 rfl 0 rfl ?_
      refine r_getF X (k := 54) (of := 40) rfl (Lm_N Lmk_0 rfl) Lmk_0 rfl (by decide) ui_12 (by decide) uw6_34 rfl dX12_station_52 ?_
      refine r_iload_n X dX12_station_55 rfl 1 rfl ?_
      refine r_iconst (v := (0)) X dX12_station_56 (by decide) ?_
      refine r_zast X (Lm_N Lmk_40 rfl) Lmk_40 h dX12_station_57 (fun h => ?_)
      refine r_nmM h (fun m11 h => ?_)
      refine r_inc h (fun x12 e9 h => ?_)
      refine r_iinc (v := x12) (lv2 := [(1, .int (x12)), (0, .ref (ad (0)))]) X dX12_station_58 1 rfl (by rw [e9]; rfl) (by decide) rfl ?_
      refine r_goto (tgt := 46) X dX12_station_61 (by decide) ?_
      exact r_sub [1, 0] rfl (hk46 x12 m11 h)
  have hL46 : ∀ (n : Nat), ∀ (x9 : Int32) (m10 : Mm), lop (fun _ _ => none) (f_X12_station_B46 ) n x9 m10 = some (r2, mem2) → Jd p l e ({ frames := 7, cells := 0, slots := 0, locals := 149 }) s m args below meth c 2 (MQ below (PsI Lm ad cy dC dI r2 mem2 A) args s 0 0 A) A dC dI cy Lm ad m10 46 [(0, .ref (ad (0))), (1, .int (x9))] [] := by
    intro  n
    induction n with
    | zero => intro _ _ h; cases h
    | succ n ih => intro a0 a1 h; exact hJ46  _ ih a0 a1 h
  unfold f_X12_station at h
  refine r_aload_n X dX12_station_0 rfl 0 rfl ?_
  refine r_iconst (v := (0)) X dX12_station_1 (by decide) ?_
  refine r_putI X (k := 0) (Lm_N Lmk_0 rfl) Lmk_0 rfl (by decide) ui_12 (by decide) uw5_220 tyX12_ok nmX12 rfl rfl rfl dX12_station_2 ?_
  refine r_nmM h (fun m1 h => ?_)
  refine r_aload_n X dX12_station_5 rfl 0 rfl ?_
  refine r_cVI (As := []) (rest := []) X (fun r9 m9 hg => k_X12_readsAll hg) h (Lm_N Lmk_0 rfl) Lmk_0 rfl (by decide) uw6_196 uw6_198 us3_14 uw1_13 uw6_199 rfl rfl dd_X12_readsAll ⟨Nat.le_of_ble_eq_true rfl, Nat.le_of_ble_eq_true rfl⟩ rfl (Nat.le_of_ble_eq_true rfl) dX12_station_6 rfl (fun x3 m2 h => ?_)
  refine r_if_ne (tgt := 17) X dX12_station_9 (by decide) h (fun h => ?_) (fun h => ?_)
  · refine r_aload_n X dX12_station_17 rfl 0 rfl ?_
    refine r_cVV (As := []) (rest := []) X (fun m9 hg => k_X12_lays hg) h (Lm_N Lmk_0 rfl) Lmk_0 rfl (by decide) uw7_90 uw7_92 us5_7 uw1_13 uw7_93 rfl rfl dd_X12_lays ⟨Nat.le_of_ble_eq_true rfl, Nat.le_of_ble_eq_true rfl⟩ rfl (Nat.le_of_ble_eq_true rfl) dX12_station_18 rfl (fun m4 h => ?_)
    refine r_aload_n X dX12_station_21 rfl 0 rfl ?_
    refine r_cVV (As := []) (rest := []) X (fun m9 hg => k_X12_fresh hg) h (Lm_N Lmk_0 rfl) Lmk_0 rfl (by decide) uw5_216 uw5_218 us3_13 uw1_13 uw5_219 rfl rfl dd_X12_fresh ⟨Nat.le_of_ble_eq_true rfl, Nat.le_of_ble_eq_true rfl⟩ rfl (Nat.le_of_ble_eq_true rfl) dX12_station_22 rfl (fun m5 h => ?_)
    refine r_aload_n X dX12_station_25 rfl 0 rfl ?_
    refine r_getF X (k := 42) (of := 28) rfl (Lm_N Lmk_0 rfl) Lmk_0 rfl (by decide) ui_12 (by decide) uw6_22 rfl dX12_station_26 ?_
    refine r_iconst (v := (0)) X dX12_station_29 (by decide) ?_
    refine r_iconst (v := (0)) X dX12_station_30 (by decide) ?_
    refine r_iast X (Lm_N Lmk_28 rfl) Lmk_28 (g_in rfl h) dX12_station_31 (fun h => ?_)
    refine r_nmM h (fun m6 h => ?_)
    refine r_aload_n X dX12_station_32 rfl 0 rfl ?_
    refine r_getF X (k := 46) (of := 32) rfl (Lm_N Lmk_0 rfl) Lmk_0 rfl (by decide) ui_12 (by decide) uw6_26 rfl dX12_station_33 ?_
    refine r_iconst (v := (0)) X dX12_station_36 (by decide) ?_
    refine r_iconst (v := (0)) X dX12_station_37 (by decide) ?_
    refine r_iast X (Lm_N Lmk_32 rfl) Lmk_32 (g_in rfl h) dX12_station_38 (fun h => ?_)
    refine r_nmM h (fun m7 h => ?_)
    refine r_aload_n X dX12_station_39 rfl 0 rfl ?_
    refine r_iconst (v := (0)) X dX12_station_40 (by decide) ?_
    refine r_putI X (k := 55) (Lm_N Lmk_0 rfl) Lmk_0 rfl (by decide) ui_12 (by decide) uw6_35 tyX12_ok nmX12 rfl rfl rfl dX12_station_41 ?_
    refine r_nmM h (fun m8 h => ?_)
    refine r_iconst (v := (0)) X dX12_station_44 (by decide) ?_
    refine r_istore_n (lv2 := [(1, .int ((0))), (0, .ref (ad (0)))]) X dX12_station_45 rfl (by decide) rfl ?_
    exact r_sub [1, 0] rfl (hL46 4000 ((0)) m8 h)
  · refine r_aload_n X dX12_station_12 rfl 0 rfl ?_
    refine r_getI X (k := 9) (Lm_N Lmk_0 rfl) Lmk_0 rfl (by decide) ui_12 (by decide) uw5_229 rfl dX12_station_13 ?_
    exact r_iret2 X rfl dX12_station_16 h
noncomputable def f_X12_week_B21 (k21 : Mm → Option (Int32 × Mm)) (m5 : Mm) : Option (Int32 × Mm) :=
  if (gI m5 0 6) = 0 then (bdV (f_X12_laysLines ((5)) ((0)) m5) fun m6 => some ((0), m6)) else (bdI (f_X12_readsLine  m5) fun x8 m7 => if ¬ x8 = 0 then (k21 m7) else (some (gI m7 0 9, m7)))
noncomputable def f_X12_week  (mem : Mm) : Option (Int32 × Mm) :=
  bnd (sI mem 0 0 ((0))) fun m1 => bnd (sI m1 28 5 ((0))) fun m2 => bnd (sI m2 0 39 ((0))) fun m3 => bdV (f_X12_begins0  m3) fun m4 => lop (fun _ => none) (f_X12_week_B21 ) 4000 m4
theorem dd_X12_week : yX12_week.cls = RX12 ∧ yX12_week.cls ≠ "java/lang/invoke/MethodHandle" ∧ yX12_week.cls ≠ "java/lang/invoke/VarHandle" ∧ (parseMethodDescriptor yX12_week.desc).map (fun d => d.parameters.length) = some 0 := by decide +kernel
set_option maxHeartbeats 4000000 in
set_option maxRecDepth 100000 in
theorem k_X12_week {l : Launch} {ad : Nat → Nat} {cy : Nat → ClassId} {dC : Nat → ClassId} {dI : Nat → Nat → Nat} {ks : (Nat → Nat) × (Nat → Nat)}  {mem : Mm} {r2 : Int32} {mem2 : Mm}  (h : f_X12_week  mem = some (r2, mem2)) : CtI l Lm ad cy dC dI ks yX12_week cX12_week 1 (some .int) ({ frames := 6, cells := 0, slots := 0, locals := 130 }) [.ref (ad (0))] mem r2 mem2 := by
  refine CtI.of (cc := cX12_week) (maxL := 1) (ret := (some .int)) (own := RX12) rfl (by decide) (Nat.le_of_ble_eq_true rfl) ?_
  intro p e s m args below meth c A X
  have hts := X.2.2.2.2.1
  have hJ21 : ∀ (k21 : Mm → Option (Int32 × Mm)) (hk21 : ∀ (m5 : Mm), k21 m5 = some (r2, mem2) → Jd p l e ({ frames := 6, cells := 0, slots := 0, locals := 130 }) s m args below meth c 1 (MQ below (PsI Lm ad cy dC dI r2 mem2 A) args s 0 0 A) A dC dI cy Lm ad m5 21 [(0, .ref (ad (0)))] []) (m5 : Mm), f_X12_week_B21 k21 m5 = some (r2, mem2) → Jd p l e ({ frames := 6, cells := 0, slots := 0, locals := 130 }) s m args below meth c 1 (MQ below (PsI Lm ad cy dC dI r2 mem2 A) args s 0 0 A) A dC dI cy Lm ad m5 21 [(0, .ref (ad (0)))] [] := by
    intro k21 hk21 m5 h
    unfold f_X12_week_B21 at h
    refine r_aload_n X dX12_week_21 rfl 0 rfl ?_
    refine r_getI X (k := 6) (Lm_N Lmk_0 rfl) Lmk_0 rfl (by decide) ui_12 (by decide) uw5_226 rfl dX12_week_22 ?_
    refine r_if_eq (tgt := 40) X dX12_week_25 (by decide) h (fun h => ?_) (fun h => ?_)
    · refine r_aload_n X dX12_week_40 rfl 0 rfl ?_
      refine r_iconst (v := (5)) X dX12_week_41 (by decide) ?_
      refine r_iconst (v := (0)) X dX12_week_42 (by decide) ?_
      refine r_cVV (As := [.int ((5)), .int ((0))]) (rest := []) X (fun m9 hg => k_X12_laysLines hg) h (Lm_N Lmk_0 rfl) Lmk_0 rfl (by decide) uw7_105 uw7_107 us5_9 uw1_13 uw7_108 rfl rfl dd_X12_laysLines ⟨Nat.le_of_ble_eq_true rfl, Nat.le_of_ble_eq_true rfl⟩ rfl (Nat.le_of_ble_eq_true rfl) dX12_week_43 rfl (fun m6 h => ?_)
      refine r_iconst (v := (0)) X dX12_week_46 (by decide) ?_
      exact r_iret2 X rfl dX12_week_47 h
    · refine r_aload_n X dX12_week_28 rfl 0 rfl ?_
      refine r_cVI (As := []) (rest := []) X (fun r9 m9 hg => k_X12_readsLine hg) h (Lm_N Lmk_0 rfl) Lmk_0 rfl (by decide) uw7_101 uw7_103 us5_8 uw1_13 uw7_104 rfl rfl dd_X12_readsLine ⟨Nat.le_of_ble_eq_true rfl, Nat.le_of_ble_eq_true rfl⟩ rfl (Nat.le_of_ble_eq_true rfl) dX12_week_29 rfl (fun x8 m7 h => ?_)
      refine r_if_ne (tgt := 21) X dX12_week_32 (by decide) h (fun h => ?_) (fun h => ?_)
      · exact r_sub [0] rfl (hk21 m7 h)
      · refine r_aload_n X dX12_week_35 rfl 0 rfl ?_
        refine r_getI X (k := 9) (Lm_N Lmk_0 rfl) Lmk_0 rfl (by decide) ui_12 (by decide) uw5_229 rfl dX12_week_36 ?_
        exact r_iret2 X rfl dX12_week_39 h
  have hL21 : ∀ (n : Nat), ∀ (m5 : Mm), lop (fun _ => none) (f_X12_week_B21 ) n m5 = some (r2, mem2) → Jd p l e ({ frames := 6, cells := 0, slots := 0, locals := 130 }) s m args below meth c 1 (MQ below (PsI Lm ad cy dC dI r2 mem2 A) args s 0 0 A) A dC dI cy Lm ad m5 21 [(0, .ref (ad (0)))] [] := by
    intro  n
    induction n with
    | zero => intro _ h; cases h
    | succ n ih => intro a0 h; exact hJ21  _ ih a0 h
  unfold f_X12_week at h
  refine r_aload_n X dX12_week_0 rfl 0 rfl ?_
  refine r_iconst (v := (0)) X dX12_week_1 (by decide) ?_
  refine r_putI X (k := 0) (Lm_N Lmk_0 rfl) Lmk_0 rfl (by decide) ui_12 (by decide) uw5_220 tyX12_ok nmX12 rfl rfl rfl dX12_week_2 ?_
  refine r_nmM h (fun m1 h => ?_)
  refine r_aload_n X dX12_week_5 rfl 0 rfl ?_
  refine r_getF X (k := 42) (of := 28) rfl (Lm_N Lmk_0 rfl) Lmk_0 rfl (by decide) ui_12 (by decide) uw6_22 rfl dX12_week_6 ?_
  refine r_iconst (v := (5)) X dX12_week_9 (by decide) ?_
  refine r_iconst (v := (0)) X dX12_week_10 (by decide) ?_
  refine r_iast X (Lm_N Lmk_28 rfl) Lmk_28 (g_in rfl h) dX12_week_11 (fun h => ?_)
  refine r_nmM h (fun m2 h => ?_)
  refine r_aload_n X dX12_week_12 rfl 0 rfl ?_
  refine r_iconst (v := (0)) X dX12_week_13 (by decide) ?_
  refine r_putI X (k := 39) (Lm_N Lmk_0 rfl) Lmk_0 rfl (by decide) ui_12 (by decide) uw6_19 tyX12_ok nmX12 rfl rfl rfl dX12_week_14 ?_
  refine r_nmM h (fun m3 h => ?_)
  refine r_aload_n X dX12_week_17 rfl 0 rfl ?_
  refine r_cVV (As := []) (rest := []) X (fun m9 hg => k_X12_begins0 hg) h (Lm_N Lmk_0 rfl) Lmk_0 rfl (by decide) uw6_200 uw6_202 us3_15 uw1_13 uw6_203 rfl rfl dd_X12_begins0 ⟨Nat.le_of_ble_eq_true rfl, Nat.le_of_ble_eq_true rfl⟩ rfl (Nat.le_of_ble_eq_true rfl) dX12_week_18 rfl (fun m4 h => ?_)
  exact r_sub [0] rfl (hL21 4000 m4 h)
noncomputable def f_X12_isPasser (p1 : Int32) (mem : Mm) : Option (Int32 × Mm) :=
  if p1 < 0 then (grd (bok ((0))) (some ((0), mem))) else (if (gI mem 2 1) ≤ p1 then (grd (bok ((0))) (some ((0), mem))) else (grd (bok ((1))) (some ((1), mem))))
theorem dd_X12_isPasser : yX12_isPasser.cls = RX12 ∧ yX12_isPasser.cls ≠ "java/lang/invoke/MethodHandle" ∧ yX12_isPasser.cls ≠ "java/lang/invoke/VarHandle" ∧ (parseMethodDescriptor yX12_isPasser.desc).map (fun d => d.parameters.length) = some 1 := by decide +kernel
set_option maxHeartbeats 4000000 in
set_option maxRecDepth 100000 in
theorem k_X12_isPasser {l : Launch} {ad : Nat → Nat} {cy : Nat → ClassId} {dC : Nat → ClassId} {dI : Nat → Nat → Nat} {ks : (Nat → Nat) × (Nat → Nat)} {p1 : Int32} {mem : Mm} {r2 : Int32} {mem2 : Mm}  (h : f_X12_isPasser p1 mem = some (r2, mem2)) : CtI l Lm ad cy dC dI ks yX12_isPasser cX12_isPasser 2 (some .boolean) ({ frames := 0, cells := 0, slots := 0, locals := 0 }) [.ref (ad (0)), .int (p1)] mem r2 mem2 := by
  refine CtI.of (cc := cX12_isPasser) (maxL := 2) (ret := (some .boolean)) (own := RX12) rfl (by decide) (Nat.le_of_ble_eq_true rfl) ?_
  intro p e s m args below meth c A X
  have hts := X.2.2.2.2.1
  unfold f_X12_isPasser at h
  refine r_iload_n X dX12_isPasser_0 rfl 1 rfl ?_
  refine r_if_lt (tgt := 18) X dX12_isPasser_1 (by decide) h (fun h => ?_) (fun h => ?_)
  · refine r_iconst (v := (0)) X dX12_isPasser_18 (by decide) ?_
    exact r_zret2 X rfl dX12_isPasser_19 h
  · refine r_iload_n X dX12_isPasser_4 rfl 1 rfl ?_
    refine r_aload_n X dX12_isPasser_5 rfl 0 rfl ?_
    refine r_getF X (k := 10) (of := 2) rfl (Lm_N Lmk_0 rfl) Lmk_0 rfl (by decide) ui_12 (by decide) uw5_230 rfl dX12_isPasser_6 ?_
    refine r_iconst (v := (1)) X dX12_isPasser_9 (by decide) ?_
    refine r_iald X (Lm_N Lmk_2 rfl) Lmk_2 (g_in rfl h) dX12_isPasser_10 (fun h => ?_)
    refine r_icmp_ge (tgt := 18) X dX12_isPasser_11 (by decide) h (fun h => ?_) (fun h => ?_)
    · refine r_iconst (v := (0)) X dX12_isPasser_18 (by decide) ?_
      exact r_zret2 X rfl dX12_isPasser_19 h
    · refine r_iconst (v := (1)) X dX12_isPasser_14 (by decide) ?_
      refine r_goto (tgt := 19) X dX12_isPasser_15 (by decide) ?_
      exact r_zret2 X rfl dX12_isPasser_19 h
noncomputable def f_X12_isKey (p1 : Int32) (mem : Mm) : Option (Int32 × Mm) :=
  if p1 < 0 then (grd (bok ((0))) (some ((0), mem))) else (if ((12)) ≤ p1 then (grd (bok ((0))) (some ((0), mem))) else (grd (bok ((1))) (some ((1), mem))))
theorem dd_X12_isKey : yX12_isKey.cls = RX12 ∧ yX12_isKey.cls ≠ "java/lang/invoke/MethodHandle" ∧ yX12_isKey.cls ≠ "java/lang/invoke/VarHandle" ∧ (parseMethodDescriptor yX12_isKey.desc).map (fun d => d.parameters.length) = some 1 := by decide +kernel
set_option maxHeartbeats 4000000 in
set_option maxRecDepth 100000 in
theorem k_X12_isKey {l : Launch} {ad : Nat → Nat} {cy : Nat → ClassId} {dC : Nat → ClassId} {dI : Nat → Nat → Nat} {ks : (Nat → Nat) × (Nat → Nat)} {p1 : Int32} {mem : Mm} {r2 : Int32} {mem2 : Mm}  (h : f_X12_isKey p1 mem = some (r2, mem2)) : CtI l Lm ad cy dC dI ks yX12_isKey cX12_isKey 2 (some .boolean) ({ frames := 0, cells := 0, slots := 0, locals := 0 }) [.ref (ad (0)), .int (p1)] mem r2 mem2 := by
  refine CtI.of (cc := cX12_isKey) (maxL := 2) (ret := (some .boolean)) (own := RX12) rfl (by decide) (Nat.le_of_ble_eq_true rfl) ?_
  intro p e s m args below meth c A X
  have hts := X.2.2.2.2.1
  unfold f_X12_isKey at h
  refine r_iload_n X dX12_isKey_0 rfl 1 rfl ?_
  refine r_if_lt (tgt := 14) X dX12_isKey_1 (by decide) h (fun h => ?_) (fun h => ?_)
  · refine r_iconst (v := (0)) X dX12_isKey_14 (by decide) ?_
    exact r_zret2 X rfl dX12_isKey_15 h
  · refine r_iload_n X dX12_isKey_4 rfl 1 rfl ?_
    refine r_bipush (v := (12)) X dX12_isKey_5 (by decide) ?_
    refine r_icmp_ge (tgt := 14) X dX12_isKey_7 (by decide) h (fun h => ?_) (fun h => ?_)
    · refine r_iconst (v := (0)) X dX12_isKey_14 (by decide) ?_
      exact r_zret2 X rfl dX12_isKey_15 h
    · refine r_iconst (v := (1)) X dX12_isKey_10 (by decide) ?_
      refine r_goto (tgt := 15) X dX12_isKey_11 (by decide) ?_
      exact r_zret2 X rfl dX12_isKey_15 h
noncomputable def f_X12_rowOf (p1 : Int32) (mem : Mm) : Option (Int32 × Mm) :=
  grd (inb p1 14) (grd (inb (gI mem 8 p1.toNatClampNeg) 10) (bnd (gI mem 6 (gI mem 8 p1.toNatClampNeg).toNatClampNeg) fun x1 => grd (inb p1 14) (if ¬ (gI mem 7 p1.toNatClampNeg) = ((1)) then (some (x1, mem)) else (bnd (if x1 < (3) then x1 else (3)) fun x2 => some (x2, mem)))))
theorem dd_X12_rowOf : yX12_rowOf.cls = RX12 ∧ yX12_rowOf.cls ≠ "java/lang/invoke/MethodHandle" ∧ yX12_rowOf.cls ≠ "java/lang/invoke/VarHandle" ∧ (parseMethodDescriptor yX12_rowOf.desc).map (fun d => d.parameters.length) = some 1 := by decide +kernel
set_option maxHeartbeats 4000000 in
set_option maxRecDepth 100000 in
theorem k_X12_rowOf {l : Launch} {ad : Nat → Nat} {cy : Nat → ClassId} {dC : Nat → ClassId} {dI : Nat → Nat → Nat} {ks : (Nat → Nat) × (Nat → Nat)} {p1 : Int32} {mem : Mm} {r2 : Int32} {mem2 : Mm}  (h : f_X12_rowOf p1 mem = some (r2, mem2)) : CtI l Lm ad cy dC dI ks yX12_rowOf cX12_rowOf 3 (some .int) ({ frames := 1, cells := 0, slots := 0, locals := 21 }) [.ref (ad (0)), .int (p1)] mem r2 mem2 := by
  refine CtI.of (cc := cX12_rowOf) (maxL := 3) (ret := (some .int)) (own := RX12) rfl (by decide) (Nat.le_of_ble_eq_true rfl) ?_
  intro p e s m args below meth c A X
  have hts := X.2.2.2.2.1
  unfold f_X12_rowOf at h
  refine r_aload_n X dX12_rowOf_0 rfl 0 rfl ?_
  refine r_getF X (k := 14) (of := 6) rfl (Lm_N Lmk_0 rfl) Lmk_0 rfl (by decide) ui_12 (by decide) uw5_234 rfl dX12_rowOf_1 ?_
  refine r_aload_n X dX12_rowOf_4 rfl 0 rfl ?_
  refine r_getF X (k := 16) (of := 8) rfl (Lm_N Lmk_0 rfl) Lmk_0 rfl (by decide) ui_12 (by decide) uw5_236 rfl dX12_rowOf_5 ?_
  refine r_iload_n X dX12_rowOf_8 rfl 1 rfl ?_
  refine r_iald X (Lm_N Lmk_8 rfl) Lmk_8 h dX12_rowOf_9 (fun h => ?_)
  refine r_iald X (Lm_N Lmk_6 rfl) Lmk_6 h dX12_rowOf_10 (fun h => ?_)
  refine r_nmI h (fun x1 h => ?_)
  refine r_istore_n (lv2 := [(2, .int (x1)), (0, .ref (ad (0))), (1, .int (p1))]) X dX12_rowOf_11 rfl (by decide) rfl ?_
  refine r_aload_n X dX12_rowOf_12 rfl 1 rfl ?_
  refine r_getF X (k := 15) (of := 7) rfl (Lm_N Lmk_0 rfl) Lmk_0 rfl (by decide) ui_12 (by decide) uw5_235 rfl dX12_rowOf_13 ?_
  refine r_iload_n X dX12_rowOf_16 rfl 2 rfl ?_
  refine r_iald X (Lm_N Lmk_7 rfl) Lmk_7 h dX12_rowOf_17 (fun h => ?_)
  refine r_iconst (v := (1)) X dX12_rowOf_18 (by decide) ?_
  refine r_icmp_ne (tgt := 30) X dX12_rowOf_19 (by decide) h (fun h => ?_) (fun h => ?_)
  · refine r_iload_n X dX12_rowOf_30 rfl 0 rfl ?_
    exact r_iret2 X rfl dX12_rowOf_31 h
  · refine r_iconst (v := (3)) X dX12_rowOf_22 (by decide) ?_
    refine r_iload_n X dX12_rowOf_23 rfl 0 rfl ?_
    refine r_mmin X uw7_121 uw3_104 uw1_18 uw3_105 (Nat.le_of_ble_eq_true rfl) (Nat.le_of_ble_eq_true rfl) dX12_rowOf_24 ?_
    refine r_nmI h (fun x2 h => ?_)
    refine r_goto (tgt := 31) X dX12_rowOf_27 (by decide) ?_
    exact r_iret2 X rfl dX12_rowOf_31 h
noncomputable def f_X12_allStrikes (p1 : Int32) (mem : Mm) : Option (Int32 × Mm) :=
  grd (inb p1 14) (if ¬ (gI mem 7 p1.toNatClampNeg) = ((2)) then (bdI (f_X12_rowOf p1 mem) fun x2 m1 => some (x2, m1)) else (bdI (f_X12_rowOf p1 mem) fun x4 m3 => some (((2)) * x4, m3)))
theorem dd_X12_allStrikes : yX12_allStrikes.cls = RX12 ∧ yX12_allStrikes.cls ≠ "java/lang/invoke/MethodHandle" ∧ yX12_allStrikes.cls ≠ "java/lang/invoke/VarHandle" ∧ (parseMethodDescriptor yX12_allStrikes.desc).map (fun d => d.parameters.length) = some 1 := by decide +kernel
set_option maxHeartbeats 4000000 in
set_option maxRecDepth 100000 in
theorem k_X12_allStrikes {l : Launch} {ad : Nat → Nat} {cy : Nat → ClassId} {dC : Nat → ClassId} {dI : Nat → Nat → Nat} {ks : (Nat → Nat) × (Nat → Nat)} {p1 : Int32} {mem : Mm} {r2 : Int32} {mem2 : Mm}  (h : f_X12_allStrikes p1 mem = some (r2, mem2)) : CtI l Lm ad cy dC dI ks yX12_allStrikes cX12_allStrikes 2 (some .int) ({ frames := 2, cells := 0, slots := 0, locals := 43 }) [.ref (ad (0)), .int (p1)] mem r2 mem2 := by
  refine CtI.of (cc := cX12_allStrikes) (maxL := 2) (ret := (some .int)) (own := RX12) rfl (by decide) (Nat.le_of_ble_eq_true rfl) ?_
  intro p e s m args below meth c A X
  have hts := X.2.2.2.2.1
  unfold f_X12_allStrikes at h
  refine r_aload_n X dX12_allStrikes_0 rfl 0 rfl ?_
  refine r_getF X (k := 15) (of := 7) rfl (Lm_N Lmk_0 rfl) Lmk_0 rfl (by decide) ui_12 (by decide) uw5_235 rfl dX12_allStrikes_1 ?_
  refine r_iload_n X dX12_allStrikes_4 rfl 1 rfl ?_
  refine r_iald X (Lm_N Lmk_7 rfl) Lmk_7 h dX12_allStrikes_5 (fun h => ?_)
  refine r_iconst (v := (2)) X dX12_allStrikes_6 (by decide) ?_
  refine r_icmp_ne (tgt := 20) X dX12_allStrikes_7 (by decide) h (fun h => ?_) (fun h => ?_)
  · refine r_aload_n X dX12_allStrikes_20 rfl 0 rfl ?_
    refine r_iload_n X dX12_allStrikes_21 rfl 1 rfl ?_
    refine r_cVI (As := [.int (p1)]) (rest := []) X (fun r9 m9 hg => k_X12_rowOf hg) h (Lm_N Lmk_0 rfl) Lmk_0 rfl (by decide) uw7_181 uw7_183 us6_7 uw1_13 uw7_184 rfl rfl dd_X12_rowOf ⟨Nat.le_of_ble_eq_true rfl, Nat.le_of_ble_eq_true rfl⟩ rfl (Nat.le_of_ble_eq_true rfl) dX12_allStrikes_22 rfl (fun x2 m1 h => ?_)
    exact r_iret2 X rfl dX12_allStrikes_25 h
  · refine r_iconst (v := (2)) X dX12_allStrikes_10 (by decide) ?_
    refine r_aload_n X dX12_allStrikes_11 rfl 0 rfl ?_
    refine r_iload_n X dX12_allStrikes_12 rfl 1 rfl ?_
    refine r_cVI (As := [.int (p1)]) (rest := [.int ((2))]) X (fun r9 m9 hg => k_X12_rowOf hg) h (Lm_N Lmk_0 rfl) Lmk_0 rfl (by decide) uw7_181 uw7_183 us6_7 uw1_13 uw7_184 rfl rfl dd_X12_rowOf ⟨Nat.le_of_ble_eq_true rfl, Nat.le_of_ble_eq_true rfl⟩ rfl (Nat.le_of_ble_eq_true rfl) dX12_allStrikes_13 rfl (fun x4 m3 h => ?_)
    refine r_imul X dX12_allStrikes_16 ?_
    refine r_goto (tgt := 25) X dX12_allStrikes_17 (by decide) ?_
    exact r_iret2 X rfl dX12_allStrikes_25 h
noncomputable def f_X12_keyAt (p1 : Int32) (p2 : Int32) (mem : Mm) : Option (Int32 × Mm) :=
  grd (inb p1 14) (bdI (f_X12_rowOf p1 mem) fun x2 m1 => grd (decide (¬ x2 = 0)) (grd (inb ((((9)) * (gI mem 8 p1.toNatClampNeg)) + (p2 - p2 / x2 * x2)) 90) (some (gI m1 5 ((((9)) * (gI mem 8 p1.toNatClampNeg)) + (p2 - p2 / x2 * x2)).toNatClampNeg, m1))))
theorem dd_X12_keyAt : yX12_keyAt.cls = RX12 ∧ yX12_keyAt.cls ≠ "java/lang/invoke/MethodHandle" ∧ yX12_keyAt.cls ≠ "java/lang/invoke/VarHandle" ∧ (parseMethodDescriptor yX12_keyAt.desc).map (fun d => d.parameters.length) = some 2 := by decide +kernel
set_option maxHeartbeats 4000000 in
set_option maxRecDepth 100000 in
theorem k_X12_keyAt {l : Launch} {ad : Nat → Nat} {cy : Nat → ClassId} {dC : Nat → ClassId} {dI : Nat → Nat → Nat} {ks : (Nat → Nat) × (Nat → Nat)} {p1 : Int32} {p2 : Int32} {mem : Mm} {r2 : Int32} {mem2 : Mm}  (h : f_X12_keyAt p1 p2 mem = some (r2, mem2)) : CtI l Lm ad cy dC dI ks yX12_keyAt cX12_keyAt 3 (some .int) ({ frames := 2, cells := 0, slots := 0, locals := 43 }) [.ref (ad (0)), .int (p1), .int (p2)] mem r2 mem2 := by
  refine CtI.of (cc := cX12_keyAt) (maxL := 3) (ret := (some .int)) (own := RX12) rfl (by decide) (Nat.le_of_ble_eq_true rfl) ?_
  intro p e s m args below meth c A X
  have hts := X.2.2.2.2.1
  unfold f_X12_keyAt at h
  refine r_aload_n X dX12_keyAt_0 rfl 0 rfl ?_
  refine r_getF X (k := 13) (of := 5) rfl (Lm_N Lmk_0 rfl) Lmk_0 rfl (by decide) ui_12 (by decide) uw5_233 rfl dX12_keyAt_1 ?_
  refine r_bipush (v := (9)) X dX12_keyAt_4 (by decide) ?_
  refine r_aload_n X dX12_keyAt_6 rfl 0 rfl ?_
  refine r_getF X (k := 16) (of := 8) rfl (Lm_N Lmk_0 rfl) Lmk_0 rfl (by decide) ui_12 (by decide) uw5_236 rfl dX12_keyAt_7 ?_
  refine r_iload_n X dX12_keyAt_10 rfl 1 rfl ?_
  refine r_iald X (Lm_N Lmk_8 rfl) Lmk_8 h dX12_keyAt_11 (fun h => ?_)
  refine r_imul X dX12_keyAt_12 ?_
  refine r_iload_n X dX12_keyAt_13 rfl 2 rfl ?_
  refine r_aload_n X dX12_keyAt_14 rfl 0 rfl ?_
  refine r_iload_n X dX12_keyAt_15 rfl 1 rfl ?_
  refine r_cVI (As := [.int (p1)]) (rest := [.int (p2), .int (((9)) * (gI mem 8 p1.toNatClampNeg)), .ref (ad (5))]) X (fun r9 m9 hg => k_X12_rowOf hg) h (Lm_N Lmk_0 rfl) Lmk_0 rfl (by decide) uw7_181 uw7_183 us6_7 uw1_13 uw7_184 rfl rfl dd_X12_rowOf ⟨Nat.le_of_ble_eq_true rfl, Nat.le_of_ble_eq_true rfl⟩ rfl (Nat.le_of_ble_eq_true rfl) dX12_keyAt_16 rfl (fun x2 m1 h => ?_)
  refine r_div h (fun hz h => ?_)
  refine r_irem X dX12_keyAt_19 hz ?_
  refine r_iadd X dX12_keyAt_20 ?_
  refine r_iald X (Lm_N Lmk_5 rfl) Lmk_5 h dX12_keyAt_21 (fun h => ?_)
  exact r_iret2 X rfl dX12_keyAt_22 h
noncomputable def f_X12_strikesOf_J32 (p1 : Int32) (p2 : Int32) (k5 : Int32 → Int32 → Mm → Option (Int32 × Mm)) (x8 : Int32) (x9 : Int32) (x10 : Int32) (m11 : Mm) : Option (Int32 × Mm) :=
  bnd (x10 + x9) fun x12 => bnd (x8 + (1)) fun x13 => k5 x12 x13 m11
noncomputable def f_X12_strikesOf_B5 (p1 : Int32) (p2 : Int32) (k5 : Int32 → Int32 → Mm → Option (Int32 × Mm)) (x1 : Int32) (x2 : Int32) (m3 : Mm) : Option (Int32 × Mm) :=
  bdI (f_X12_allStrikes p1 m3) fun x5 m4 => if x5 ≤ x2 then (some (x1, m4)) else (bdI (f_X12_keyAt p1 x2 m4) fun x7 m6 => if ¬ x7 = p2 then (f_X12_strikesOf_J32 p1 p2 k5 x2 ((0)) x1 m6) else (f_X12_strikesOf_J32 p1 p2 k5 x2 ((1)) x1 m6))
noncomputable def f_X12_strikesOf (p1 : Int32) (p2 : Int32) (mem : Mm) : Option (Int32 × Mm) :=
  lop (fun _ _ _ => none) (f_X12_strikesOf_B5 p1 p2 ) 4000 ((0)) ((0)) mem
theorem dd_X12_strikesOf : yX12_strikesOf.cls = RX12 ∧ yX12_strikesOf.cls ≠ "java/lang/invoke/MethodHandle" ∧ yX12_strikesOf.cls ≠ "java/lang/invoke/VarHandle" ∧ (parseMethodDescriptor yX12_strikesOf.desc).map (fun d => d.parameters.length) = some 2 := by decide +kernel
set_option maxHeartbeats 4000000 in
set_option maxRecDepth 100000 in
theorem k_X12_strikesOf {l : Launch} {ad : Nat → Nat} {cy : Nat → ClassId} {dC : Nat → ClassId} {dI : Nat → Nat → Nat} {ks : (Nat → Nat) × (Nat → Nat)} {p1 : Int32} {p2 : Int32} {mem : Mm} {r2 : Int32} {mem2 : Mm}  (h : f_X12_strikesOf p1 p2 mem = some (r2, mem2)) : CtI l Lm ad cy dC dI ks yX12_strikesOf cX12_strikesOf 5 (some .int) ({ frames := 3, cells := 0, slots := 0, locals := 65 }) [.ref (ad (0)), .int (p1), .int (p2)] mem r2 mem2 := by
  refine CtI.of (cc := cX12_strikesOf) (maxL := 5) (ret := (some .int)) (own := RX12) rfl (by decide) (Nat.le_of_ble_eq_true rfl) ?_
  intro p e s m args below meth c A X
  have hts := X.2.2.2.2.1
  have hJ32 : ∀ (k5 : Int32 → Int32 → Mm → Option (Int32 × Mm)) (hk5 : ∀ (x1 : Int32) (x2 : Int32) (m3 : Mm), k5 x1 x2 m3 = some (r2, mem2) → Jd p l e ({ frames := 3, cells := 0, slots := 0, locals := 65 }) s m args below meth c 5 (MQ below (PsI Lm ad cy dC dI r2 mem2 A) args s 0 0 A) A dC dI cy Lm ad m3 5 [(0, .ref (ad (0))), (1, .int (p1)), (2, .int (p2)), (3, .int (x1)), (4, .int (x2))] []) (x8 : Int32) (x9 : Int32) (x10 : Int32) (m11 : Mm), f_X12_strikesOf_J32 p1 p2 k5 x8 x9 x10 m11 = some (r2, mem2) → Jd p l e ({ frames := 3, cells := 0, slots := 0, locals := 65 }) s m args below meth c 5 (MQ below (PsI Lm ad cy dC dI r2 mem2 A) args s 0 0 A) A dC dI cy Lm ad m11 32 [(0, .ref (ad (0))), (1, .int (p1)), (2, .int (p2)), (4, .int (x8))] [.int (x9), .int (x10)] := by
    intro k5 hk5 x8 x9 x10 m11 h
    unfold f_X12_strikesOf_J32 at h
    refine r_iadd X dX12_strikesOf_32 ?_
    refine r_nmI h (fun x12 h => ?_)
    refine r_istore_n (lv2 := [(3, .int (x12)), (0, .ref (ad (0))), (1, .int (p1)), (2, .int (p2)), (4, .int (x8))]) X dX12_strikesOf_33 rfl (by decide) rfl ?_
    refine r_inc h (fun x13 e9 h => ?_)
    refine r_iinc (v := x13) (lv2 := [(4, .int (x13)), (3, .int (x12)), (0, .ref (ad (0))), (1, .int (p1)), (2, .int (p2))]) X dX12_strikesOf_34 4 rfl (by rw [e9]; rfl) (by decide) rfl ?_
    refine r_goto (tgt := 5) X dX12_strikesOf_37 (by decide) ?_
    exact r_sub [2, 3, 4, 1, 0] rfl (hk5 x12 x13 m11 h)
  have hJ5 : ∀ (k5 : Int32 → Int32 → Mm → Option (Int32 × Mm)) (hk5 : ∀ (x1 : Int32) (x2 : Int32) (m3 : Mm), k5 x1 x2 m3 = some (r2, mem2) → Jd p l e ({ frames := 3, cells := 0, slots := 0, locals := 65 }) s m args below meth c 5 (MQ below (PsI Lm ad cy dC dI r2 mem2 A) args s 0 0 A) A dC dI cy Lm ad m3 5 [(0, .ref (ad (0))), (1, .int (p1)), (2, .int (p2)), (3, .int (x1)), (4, .int (x2))] []) (x1 : Int32) (x2 : Int32) (m3 : Mm), f_X12_strikesOf_B5 p1 p2 k5 x1 x2 m3 = some (r2, mem2) → Jd p l e ({ frames := 3, cells := 0, slots := 0, locals := 65 }) s m args below meth c 5 (MQ below (PsI Lm ad cy dC dI r2 mem2 A) args s 0 0 A) A dC dI cy Lm ad m3 5 [(0, .ref (ad (0))), (1, .int (p1)), (2, .int (p2)), (3, .int (x1)), (4, .int (x2))] [] := by
    intro k5 hk5 x1 x2 m3 h
    unfold f_X12_strikesOf_B5 at h
    refine r_iload X dX12_strikesOf_5 4 rfl ?_
    refine r_aload_n X dX12_strikesOf_7 rfl 0 rfl ?_
    refine r_iload_n X dX12_strikesOf_8 rfl 1 rfl ?_
    refine r_cVI (As := [.int (p1)]) (rest := [.int (x2)]) X (fun r9 m9 hg => k_X12_allStrikes hg) h (Lm_N Lmk_0 rfl) Lmk_0 rfl (by decide) uw7_177 uw7_179 us6_6 uw1_13 uw7_180 rfl rfl dd_X12_allStrikes ⟨Nat.le_of_ble_eq_true rfl, Nat.le_of_ble_eq_true rfl⟩ rfl (Nat.le_of_ble_eq_true rfl) dX12_strikesOf_9 rfl (fun x5 m4 h => ?_)
    refine r_icmp_ge (tgt := 40) X dX12_strikesOf_12 (by decide) h (fun h => ?_) (fun h => ?_)
    · refine r_iload_n X dX12_strikesOf_40 rfl 3 rfl ?_
      exact r_iret2 X rfl dX12_strikesOf_41 h
    · refine r_iload_n X dX12_strikesOf_15 rfl 3 rfl ?_
      refine r_aload_n X dX12_strikesOf_16 rfl 0 rfl ?_
      refine r_iload_n X dX12_strikesOf_17 rfl 1 rfl ?_
      refine r_iload X dX12_strikesOf_18 4 rfl ?_
      refine r_cVI (As := [.int (p1), .int (x2)]) (rest := [.int (x1)]) X (fun r9 m9 hg => k_X12_keyAt hg) h (Lm_N Lmk_0 rfl) Lmk_0 rfl (by decide) uw7_185 uw7_187 us6_8 uw1_13 uw7_188 rfl rfl dd_X12_keyAt ⟨Nat.le_of_ble_eq_true rfl, Nat.le_of_ble_eq_true rfl⟩ rfl (Nat.le_of_ble_eq_true rfl) dX12_strikesOf_20 rfl (fun x7 m6 h => ?_)
      refine r_iload_n X dX12_strikesOf_23 rfl 2 rfl ?_
      refine r_icmp_ne (tgt := 31) X dX12_strikesOf_24 (by decide) h (fun h => ?_) (fun h => ?_)
      · refine r_iconst (v := (0)) X dX12_strikesOf_31 (by decide) ?_
        exact r_sub [0, 1, 2, 4] rfl (hJ32 k5 hk5 x2 ((0)) x1 m6 h)
      · refine r_iconst (v := (1)) X dX12_strikesOf_27 (by decide) ?_
        refine r_goto (tgt := 32) X dX12_strikesOf_28 (by decide) ?_
        exact r_sub [0, 1, 2, 4] rfl (hJ32 k5 hk5 x2 ((1)) x1 m6 h)
  have hL5 : ∀ (n : Nat), ∀ (x1 : Int32) (x2 : Int32) (m3 : Mm), lop (fun _ _ _ => none) (f_X12_strikesOf_B5 p1 p2 ) n x1 x2 m3 = some (r2, mem2) → Jd p l e ({ frames := 3, cells := 0, slots := 0, locals := 65 }) s m args below meth c 5 (MQ below (PsI Lm ad cy dC dI r2 mem2 A) args s 0 0 A) A dC dI cy Lm ad m3 5 [(0, .ref (ad (0))), (1, .int (p1)), (2, .int (p2)), (3, .int (x1)), (4, .int (x2))] [] := by
    intro  n
    induction n with
    | zero => intro _ _ _ h; cases h
    | succ n ih => intro a0 a1 a2 h; exact hJ5  _ ih a0 a1 a2 h
  unfold f_X12_strikesOf at h
  refine r_iconst (v := (0)) X dX12_strikesOf_0 (by decide) ?_
  refine r_istore_n (lv2 := [(3, .int ((0))), (0, .ref (ad (0))), (1, .int (p1)), (2, .int (p2))]) X dX12_strikesOf_1 rfl (by decide) rfl ?_
  refine r_iconst (v := (0)) X dX12_strikesOf_2 (by decide) ?_
  refine r_istore (lv2 := [(4, .int ((0))), (3, .int ((0))), (0, .ref (ad (0))), (1, .int (p1)), (2, .int (p2))]) X dX12_strikesOf_3 (by decide) rfl ?_
  exact r_sub [2, 3, 4, 1, 0] rfl (hL5 4000 ((0)) ((0)) mem h)
noncomputable def f_X12_minutesOf (p1 : Int32) (mem : Mm) : Option (Int32 × Mm) :=
  grd (inb p1 14) (if ¬ (gI mem 7 p1.toNatClampNeg) = ((3)) then (grd (inb p1 14) (bnd (if gI mem 35 1 < gI mem 11 p1.toNatClampNeg then gI mem 35 1 else gI mem 11 p1.toNatClampNeg) fun x1 => some (x1, mem))) else (grd (inb p1 14) (some (gI mem 11 p1.toNatClampNeg, mem))))
theorem dd_X12_minutesOf : yX12_minutesOf.cls = RX12 ∧ yX12_minutesOf.cls ≠ "java/lang/invoke/MethodHandle" ∧ yX12_minutesOf.cls ≠ "java/lang/invoke/VarHandle" ∧ (parseMethodDescriptor yX12_minutesOf.desc).map (fun d => d.parameters.length) = some 1 := by decide +kernel
set_option maxHeartbeats 4000000 in
set_option maxRecDepth 100000 in
theorem k_X12_minutesOf {l : Launch} {ad : Nat → Nat} {cy : Nat → ClassId} {dC : Nat → ClassId} {dI : Nat → Nat → Nat} {ks : (Nat → Nat) × (Nat → Nat)} {p1 : Int32} {mem : Mm} {r2 : Int32} {mem2 : Mm}  (h : f_X12_minutesOf p1 mem = some (r2, mem2)) : CtI l Lm ad cy dC dI ks yX12_minutesOf cX12_minutesOf 2 (some .int) ({ frames := 1, cells := 0, slots := 0, locals := 21 }) [.ref (ad (0)), .int (p1)] mem r2 mem2 := by
  refine CtI.of (cc := cX12_minutesOf) (maxL := 2) (ret := (some .int)) (own := RX12) rfl (by decide) (Nat.le_of_ble_eq_true rfl) ?_
  intro p e s m args below meth c A X
  have hts := X.2.2.2.2.1
  unfold f_X12_minutesOf at h
  refine r_aload_n X dX12_minutesOf_0 rfl 0 rfl ?_
  refine r_getF X (k := 15) (of := 7) rfl (Lm_N Lmk_0 rfl) Lmk_0 rfl (by decide) ui_12 (by decide) uw5_235 rfl dX12_minutesOf_1 ?_
  refine r_iload_n X dX12_minutesOf_4 rfl 1 rfl ?_
  refine r_iald X (Lm_N Lmk_7 rfl) Lmk_7 h dX12_minutesOf_5 (fun h => ?_)
  refine r_iconst (v := (3)) X dX12_minutesOf_6 (by decide) ?_
  refine r_icmp_ne (tgt := 19) X dX12_minutesOf_7 (by decide) h (fun h => ?_) (fun h => ?_)
  · refine r_aload_n X dX12_minutesOf_19 rfl 0 rfl ?_
    refine r_getF X (k := 19) (of := 11) rfl (Lm_N Lmk_0 rfl) Lmk_0 rfl (by decide) ui_12 (by decide) uw5_239 rfl dX12_minutesOf_20 ?_
    refine r_iload_n X dX12_minutesOf_23 rfl 1 rfl ?_
    refine r_iald X (Lm_N Lmk_11 rfl) Lmk_11 h dX12_minutesOf_24 (fun h => ?_)
    refine r_aload_n X dX12_minutesOf_25 rfl 0 rfl ?_
    refine r_getF X (k := 49) (of := 35) rfl (Lm_N Lmk_0 rfl) Lmk_0 rfl (by decide) ui_12 (by decide) uw6_29 rfl dX12_minutesOf_26 ?_
    refine r_iconst (v := (1)) X dX12_minutesOf_29 (by decide) ?_
    refine r_iald X (Lm_N Lmk_35 rfl) Lmk_35 (g_in rfl h) dX12_minutesOf_30 (fun h => ?_)
    refine r_mmin X uw7_121 uw3_104 uw1_18 uw3_105 (Nat.le_of_ble_eq_true rfl) (Nat.le_of_ble_eq_true rfl) dX12_minutesOf_31 ?_
    refine r_nmI h (fun x1 h => ?_)
    exact r_iret2 X rfl dX12_minutesOf_34 h
  · refine r_aload_n X dX12_minutesOf_10 rfl 0 rfl ?_
    refine r_getF X (k := 19) (of := 11) rfl (Lm_N Lmk_0 rfl) Lmk_0 rfl (by decide) ui_12 (by decide) uw5_239 rfl dX12_minutesOf_11 ?_
    refine r_iload_n X dX12_minutesOf_14 rfl 1 rfl ?_
    refine r_iald X (Lm_N Lmk_11 rfl) Lmk_11 h dX12_minutesOf_15 (fun h => ?_)
    refine r_goto (tgt := 34) X dX12_minutesOf_16 (by decide) ?_
    exact r_iret2 X rfl dX12_minutesOf_34 h
noncomputable def f_X12_wornBy_J54 (p1 : Int32) (p2 : Int32) (x8 : Int32) (m9 : Mm) : Option (Int32 × Mm) :=
  bdI (f_X12_between x8 ((0)) ((9)) m9) fun x11 m10 => bnd (if p2 + x11 < (9) then p2 + x11 else (9)) fun x12 => some (x12, m10)
noncomputable def f_X12_wornBy (p1 : Int32) (p2 : Int32) (mem : Mm) : Option (Int32 × Mm) :=
  if (gI mem 14 1) ≤ (gI mem 13 1) then (f_X12_wornBy_J54 p1 p2 ((1)) mem) else (grd (inb p1 14) (bnd (sI mem 27 1 (gI mem 9 p1.toNatClampNeg)) fun m1 => bnd (sI m1 27 5 p2) fun m2 => bdI (f_X12_minutesOf p1 m2) fun x4 m3 => bnd (sI m3 27 6 x4) fun m5 => bdI (f_X12_worked ((1)) m5) fun x7 m6 => f_X12_wornBy_J54 p1 p2 x7 m6))
theorem dd_X12_wornBy : yX12_wornBy.cls = RX12 ∧ yX12_wornBy.cls ≠ "java/lang/invoke/MethodHandle" ∧ yX12_wornBy.cls ≠ "java/lang/invoke/VarHandle" ∧ (parseMethodDescriptor yX12_wornBy.desc).map (fun d => d.parameters.length) = some 2 := by decide +kernel
set_option maxHeartbeats 4000000 in
set_option maxRecDepth 100000 in
theorem k_X12_wornBy {l : Launch} {ad : Nat → Nat} {cy : Nat → ClassId} {dC : Nat → ClassId} {dI : Nat → Nat → Nat} {ks : (Nat → Nat) × (Nat → Nat)} {p1 : Int32} {p2 : Int32} {mem : Mm} {r2 : Int32} {mem2 : Mm}  (h : f_X12_wornBy p1 p2 mem = some (r2, mem2)) : CtI l Lm ad cy dC dI ks yX12_wornBy cX12_wornBy 4 (some .int) ({ frames := 3, cells := 0, slots := 0, locals := 68 }) [.ref (ad (0)), .int (p1), .int (p2)] mem r2 mem2 := by
  refine CtI.of (cc := cX12_wornBy) (maxL := 4) (ret := (some .int)) (own := RX12) rfl (by decide) (Nat.le_of_ble_eq_true rfl) ?_
  intro p e s m args below meth c A X
  have hts := X.2.2.2.2.1
  have hJ54 : ∀ (x8 : Int32) (m9 : Mm), f_X12_wornBy_J54 p1 p2 x8 m9 = some (r2, mem2) → Jd p l e ({ frames := 3, cells := 0, slots := 0, locals := 68 }) s m args below meth c 4 (MQ below (PsI Lm ad cy dC dI r2 mem2 A) args s 0 0 A) A dC dI cy Lm ad m9 54 [(2, .int (p2)), (3, .int (x8))] [] := by
    intro x8 m9 h
    unfold f_X12_wornBy_J54 at h
    refine r_bipush (v := (9)) X dX12_wornBy_54 (by decide) ?_
    refine r_iload_n X dX12_wornBy_56 rfl 0 rfl ?_
    refine r_iload_n X dX12_wornBy_57 rfl 1 rfl ?_
    refine r_iconst (v := (0)) X dX12_wornBy_58 (by decide) ?_
    refine r_bipush (v := (9)) X dX12_wornBy_59 (by decide) ?_
    refine r_cSI (As := [.int (x8), .int ((0)), .int ((9))]) (rest := [.int (p2), .int ((9))]) X (fun r9 m9 hg => k_X12_between hg) h uw7_209 uw7_210 uw1_13 uw7_211 rfl rfl dd_X12_between ⟨Nat.le_of_ble_eq_true rfl, Nat.le_of_ble_eq_true rfl⟩ rfl (Nat.le_of_ble_eq_true rfl) dX12_wornBy_61 rfl (fun x11 m10 h => ?_)
    refine r_iadd X dX12_wornBy_64 ?_
    refine r_mmin X uw7_121 uw3_104 uw1_18 uw3_105 (Nat.le_of_ble_eq_true rfl) (Nat.le_of_ble_eq_true rfl) dX12_wornBy_65 ?_
    refine r_nmI h (fun x12 h => ?_)
    exact r_iret2 X rfl dX12_wornBy_68 h
  unfold f_X12_wornBy at h
  refine r_iconst (v := (1)) X dX12_wornBy_0 (by decide) ?_
  refine r_istore_n (lv2 := [(3, .int ((1))), (0, .ref (ad (0))), (1, .int (p1)), (2, .int (p2))]) X dX12_wornBy_1 rfl (by decide) rfl ?_
  refine r_aload_n X dX12_wornBy_2 rfl 1 rfl ?_
  refine r_getF X (k := 22) (of := 14) rfl (Lm_N Lmk_0 rfl) Lmk_0 rfl (by decide) ui_12 (by decide) uw6_2 rfl dX12_wornBy_3 ?_
  refine r_iconst (v := (1)) X dX12_wornBy_6 (by decide) ?_
  refine r_iald X (Lm_N Lmk_14 rfl) Lmk_14 (g_in rfl h) dX12_wornBy_7 (fun h => ?_)
  refine r_aload_n X dX12_wornBy_8 rfl 1 rfl ?_
  refine r_getF X (k := 21) (of := 13) rfl (Lm_N Lmk_0 rfl) Lmk_0 rfl (by decide) ui_12 (by decide) uw6_1 rfl dX12_wornBy_9 ?_
  refine r_iconst (v := (1)) X dX12_wornBy_12 (by decide) ?_
  refine r_iald X (Lm_N Lmk_13 rfl) Lmk_13 (g_in rfl h) dX12_wornBy_13 (fun h => ?_)
  refine r_icmp_le (tgt := 54) X dX12_wornBy_14 (by decide) h (fun h => ?_) (fun h => ?_)
  · exact r_sub [3, 0] rfl (hJ54 ((1)) mem h)
  · refine r_aload_n X dX12_wornBy_17 rfl 1 rfl ?_
    refine r_getF X (k := 38) (of := 27) rfl (Lm_N Lmk_0 rfl) Lmk_0 rfl (by decide) ui_12 (by decide) uw6_18 rfl dX12_wornBy_18 ?_
    refine r_iconst (v := (1)) X dX12_wornBy_21 (by decide) ?_
    refine r_aload_n X dX12_wornBy_22 rfl 1 rfl ?_
    refine r_getF X (k := 17) (of := 9) rfl (Lm_N Lmk_0 rfl) Lmk_0 rfl (by decide) ui_12 (by decide) uw5_237 rfl dX12_wornBy_23 ?_
    refine r_iload_n X dX12_wornBy_26 rfl 2 rfl ?_
    refine r_iald X (Lm_N Lmk_9 rfl) Lmk_9 h dX12_wornBy_27 (fun h => ?_)
    refine r_iast X (Lm_N Lmk_27 rfl) Lmk_27 (g_in rfl h) dX12_wornBy_28 (fun h => ?_)
    refine r_nmM h (fun m1 h => ?_)
    refine r_aload_n X dX12_wornBy_29 rfl 1 rfl ?_
    refine r_getF X (k := 38) (of := 27) rfl (Lm_N Lmk_0 rfl) Lmk_0 rfl (by decide) ui_12 (by decide) uw6_18 rfl dX12_wornBy_30 ?_
    refine r_iconst (v := (5)) X dX12_wornBy_33 (by decide) ?_
    refine r_iload_n X dX12_wornBy_34 rfl 3 rfl ?_
    refine r_iast X (Lm_N Lmk_27 rfl) Lmk_27 (g_in rfl h) dX12_wornBy_35 (fun h => ?_)
    refine r_nmM h (fun m2 h => ?_)
    refine r_aload_n X dX12_wornBy_36 rfl 1 rfl ?_
    refine r_getF X (k := 38) (of := 27) rfl (Lm_N Lmk_0 rfl) Lmk_0 rfl (by decide) ui_12 (by decide) uw6_18 rfl dX12_wornBy_37 ?_
    refine r_bipush (v := (6)) X dX12_wornBy_40 (by decide) ?_
    refine r_aload_n X dX12_wornBy_42 rfl 1 rfl ?_
    refine r_iload_n X dX12_wornBy_43 rfl 2 rfl ?_
    refine r_cVI (As := [.int (p1)]) (rest := [.int ((6)), .ref (ad (27))]) X (fun r9 m9 hg => k_X12_minutesOf hg) h (Lm_N Lmk_0 rfl) Lmk_0 rfl (by decide) uw7_117 uw7_119 us5_11 uw1_13 uw7_120 rfl rfl dd_X12_minutesOf ⟨Nat.le_of_ble_eq_true rfl, Nat.le_of_ble_eq_true rfl⟩ rfl (Nat.le_of_ble_eq_true rfl) dX12_wornBy_44 rfl (fun x4 m3 h => ?_)
    refine r_iast X (Lm_N Lmk_27 rfl) Lmk_27 (g_in rfl h) dX12_wornBy_47 (fun h => ?_)
    refine r_nmM h (fun m5 h => ?_)
    refine r_aload_n X dX12_wornBy_48 rfl 1 rfl ?_
    refine r_iconst (v := (1)) X dX12_wornBy_49 (by decide) ?_
    refine r_cVI (As := [.int ((1))]) (rest := []) X (fun r9 m9 hg => k_X12_worked hg) h (Lm_N Lmk_0 rfl) Lmk_0 rfl (by decide) uw7_193 uw7_195 us6_10 uw1_13 uw7_196 rfl rfl dd_X12_worked ⟨Nat.le_of_ble_eq_true rfl, Nat.le_of_ble_eq_true rfl⟩ rfl (Nat.le_of_ble_eq_true rfl) dX12_wornBy_50 rfl (fun x7 m6 h => ?_)
    refine r_istore_n (lv2 := [(3, .int (x7)), (0, .ref (ad (0))), (1, .int (p1)), (2, .int (p2))]) X dX12_wornBy_53 rfl (by decide) rfl ?_
    exact r_sub [3, 0] rfl (hJ54 x7 m6 h)
noncomputable def f_X12_wornFor_B4 (p1 : Int32) (k4 : Int32 → Int32 → Mm → Option (Int32 × Mm)) (x1 : Int32) (x2 : Int32) (m3 : Mm) : Option (Int32 × Mm) :=
  bdI (f_X12_allStrikes p1 m3) fun x5 m4 => if x5 ≤ x2 then (some (x1, m4)) else (bdI (f_X12_keyAt p1 x2 m4) fun x7 m6 => grd (inb (((5)) + x7) 17) (bnd (x1 + (gI m6 35 (((5)) + x7).toNatClampNeg)) fun x8 => bnd (x2 + (1)) fun x9 => k4 x8 x9 m6))
noncomputable def f_X12_wornFor (p1 : Int32) (mem : Mm) : Option (Int32 × Mm) :=
  lop (fun _ _ _ => none) (f_X12_wornFor_B4 p1 ) 4000 ((0)) ((0)) mem
theorem dd_X12_wornFor : yX12_wornFor.cls = RX12 ∧ yX12_wornFor.cls ≠ "java/lang/invoke/MethodHandle" ∧ yX12_wornFor.cls ≠ "java/lang/invoke/VarHandle" ∧ (parseMethodDescriptor yX12_wornFor.desc).map (fun d => d.parameters.length) = some 1 := by decide +kernel
set_option maxHeartbeats 4000000 in
set_option maxRecDepth 100000 in
theorem k_X12_wornFor {l : Launch} {ad : Nat → Nat} {cy : Nat → ClassId} {dC : Nat → ClassId} {dI : Nat → Nat → Nat} {ks : (Nat → Nat) × (Nat → Nat)} {p1 : Int32} {mem : Mm} {r2 : Int32} {mem2 : Mm}  (h : f_X12_wornFor p1 mem = some (r2, mem2)) : CtI l Lm ad cy dC dI ks yX12_wornFor cX12_wornFor 4 (some .int) ({ frames := 3, cells := 0, slots := 0, locals := 65 }) [.ref (ad (0)), .int (p1)] mem r2 mem2 := by
  refine CtI.of (cc := cX12_wornFor) (maxL := 4) (ret := (some .int)) (own := RX12) rfl (by decide) (Nat.le_of_ble_eq_true rfl) ?_
  intro p e s m args below meth c A X
  have hts := X.2.2.2.2.1
  have hJ4 : ∀ (k4 : Int32 → Int32 → Mm → Option (Int32 × Mm)) (hk4 : ∀ (x1 : Int32) (x2 : Int32) (m3 : Mm), k4 x1 x2 m3 = some (r2, mem2) → Jd p l e ({ frames := 3, cells := 0, slots := 0, locals := 65 }) s m args below meth c 4 (MQ below (PsI Lm ad cy dC dI r2 mem2 A) args s 0 0 A) A dC dI cy Lm ad m3 4 [(0, .ref (ad (0))), (1, .int (p1)), (2, .int (x1)), (3, .int (x2))] []) (x1 : Int32) (x2 : Int32) (m3 : Mm), f_X12_wornFor_B4 p1 k4 x1 x2 m3 = some (r2, mem2) → Jd p l e ({ frames := 3, cells := 0, slots := 0, locals := 65 }) s m args below meth c 4 (MQ below (PsI Lm ad cy dC dI r2 mem2 A) args s 0 0 A) A dC dI cy Lm ad m3 4 [(0, .ref (ad (0))), (1, .int (p1)), (2, .int (x1)), (3, .int (x2))] [] := by
    intro k4 hk4 x1 x2 m3 h
    unfold f_X12_wornFor_B4 at h
    refine r_iload_n X dX12_wornFor_4 rfl 3 rfl ?_
    refine r_aload_n X dX12_wornFor_5 rfl 0 rfl ?_
    refine r_iload_n X dX12_wornFor_6 rfl 1 rfl ?_
    refine r_cVI (As := [.int (p1)]) (rest := [.int (x2)]) X (fun r9 m9 hg => k_X12_allStrikes hg) h (Lm_N Lmk_0 rfl) Lmk_0 rfl (by decide) uw7_177 uw7_179 us6_6 uw1_13 uw7_180 rfl rfl dd_X12_allStrikes ⟨Nat.le_of_ble_eq_true rfl, Nat.le_of_ble_eq_true rfl⟩ rfl (Nat.le_of_ble_eq_true rfl) dX12_wornFor_7 rfl (fun x5 m4 h => ?_)
    refine r_icmp_ge (tgt := 35) X dX12_wornFor_10 (by decide) h (fun h => ?_) (fun h => ?_)
    · refine r_iload_n X dX12_wornFor_35 rfl 2 rfl ?_
      exact r_iret2 X rfl dX12_wornFor_36 h
    · refine r_iload_n X dX12_wornFor_13 rfl 2 rfl ?_
      refine r_aload_n X dX12_wornFor_14 rfl 0 rfl ?_
      refine r_getF X (k := 49) (of := 35) rfl (Lm_N Lmk_0 rfl) Lmk_0 rfl (by decide) ui_12 (by decide) uw6_29 rfl dX12_wornFor_15 ?_
      refine r_iconst (v := (5)) X dX12_wornFor_18 (by decide) ?_
      refine r_aload_n X dX12_wornFor_19 rfl 0 rfl ?_
      refine r_iload_n X dX12_wornFor_20 rfl 1 rfl ?_
      refine r_iload_n X dX12_wornFor_21 rfl 3 rfl ?_
      refine r_cVI (As := [.int (p1), .int (x2)]) (rest := [.int ((5)), .ref (ad (35)), .int (x1)]) X (fun r9 m9 hg => k_X12_keyAt hg) h (Lm_N Lmk_0 rfl) Lmk_0 rfl (by decide) uw7_185 uw7_187 us6_8 uw1_13 uw7_188 rfl rfl dd_X12_keyAt ⟨Nat.le_of_ble_eq_true rfl, Nat.le_of_ble_eq_true rfl⟩ rfl (Nat.le_of_ble_eq_true rfl) dX12_wornFor_22 rfl (fun x7 m6 h => ?_)
      refine r_iadd X dX12_wornFor_25 ?_
      refine r_iald X (Lm_N Lmk_35 rfl) Lmk_35 h dX12_wornFor_26 (fun h => ?_)
      refine r_iadd X dX12_wornFor_27 ?_
      refine r_nmI h (fun x8 h => ?_)
      refine r_istore_n (lv2 := [(2, .int (x8)), (0, .ref (ad (0))), (1, .int (p1)), (3, .int (x2))]) X dX12_wornFor_28 rfl (by decide) rfl ?_
      refine r_inc h (fun x9 e9 h => ?_)
      refine r_iinc (v := x9) (lv2 := [(3, .int (x9)), (2, .int (x8)), (0, .ref (ad (0))), (1, .int (p1))]) X dX12_wornFor_29 3 rfl (by rw [e9]; rfl) (by decide) rfl ?_
      refine r_goto (tgt := 4) X dX12_wornFor_32 (by decide) ?_
      exact r_sub [2, 3, 1, 0] rfl (hk4 x8 x9 m6 h)
  have hL4 : ∀ (n : Nat), ∀ (x1 : Int32) (x2 : Int32) (m3 : Mm), lop (fun _ _ _ => none) (f_X12_wornFor_B4 p1 ) n x1 x2 m3 = some (r2, mem2) → Jd p l e ({ frames := 3, cells := 0, slots := 0, locals := 65 }) s m args below meth c 4 (MQ below (PsI Lm ad cy dC dI r2 mem2 A) args s 0 0 A) A dC dI cy Lm ad m3 4 [(0, .ref (ad (0))), (1, .int (p1)), (2, .int (x1)), (3, .int (x2))] [] := by
    intro  n
    induction n with
    | zero => intro _ _ _ h; cases h
    | succ n ih => intro a0 a1 a2 h; exact hJ4  _ ih a0 a1 a2 h
  unfold f_X12_wornFor at h
  refine r_iconst (v := (0)) X dX12_wornFor_0 (by decide) ?_
  refine r_istore_n (lv2 := [(2, .int ((0))), (0, .ref (ad (0))), (1, .int (p1))]) X dX12_wornFor_1 rfl (by decide) rfl ?_
  refine r_iconst (v := (0)) X dX12_wornFor_2 (by decide) ?_
  refine r_istore_n (lv2 := [(3, .int ((0))), (2, .int ((0))), (0, .ref (ad (0))), (1, .int (p1))]) X dX12_wornFor_3 rfl (by decide) rfl ?_
  exact r_sub [2, 3, 1, 0] rfl (hL4 4000 ((0)) ((0)) mem h)
noncomputable def f_X12_standing_J30 (k4 : Int32 → Int32 → Mm → Option (Int32 × Mm)) (x4 : Int32) (x5 : Int32) (x6 : Int32) (m7 : Mm) : Option (Int32 × Mm) :=
  bnd (x6 + x5) fun x8 => bnd (x4 + (1)) fun x9 => k4 x8 x9 m7
noncomputable def f_X12_standing_B4 (k4 : Int32 → Int32 → Mm → Option (Int32 × Mm)) (x1 : Int32) (x2 : Int32) (m3 : Mm) : Option (Int32 × Mm) :=
  if (gI m3 2 1) ≤ x2 then (some (x1, m3)) else (grd (inb x2 7) (if ¬ (gI m3 42 x2.toNatClampNeg) = ((1)) then (f_X12_standing_J30 k4 x2 ((0)) x1 m3) else (f_X12_standing_J30 k4 x2 ((1)) x1 m3)))
noncomputable def f_X12_standing  (mem : Mm) : Option (Int32 × Mm) :=
  lop (fun _ _ _ => none) (f_X12_standing_B4 ) 4000 ((0)) ((0)) mem
theorem dd_X12_standing : yX12_standing.cls = RX12 ∧ yX12_standing.cls ≠ "java/lang/invoke/MethodHandle" ∧ yX12_standing.cls ≠ "java/lang/invoke/VarHandle" ∧ (parseMethodDescriptor yX12_standing.desc).map (fun d => d.parameters.length) = some 0 := by decide +kernel
set_option maxHeartbeats 4000000 in
set_option maxRecDepth 100000 in
theorem k_X12_standing {l : Launch} {ad : Nat → Nat} {cy : Nat → ClassId} {dC : Nat → ClassId} {dI : Nat → Nat → Nat} {ks : (Nat → Nat) × (Nat → Nat)}  {mem : Mm} {r2 : Int32} {mem2 : Mm}  (h : f_X12_standing  mem = some (r2, mem2)) : CtI l Lm ad cy dC dI ks yX12_standing cX12_standing 3 (some .int) ({ frames := 0, cells := 0, slots := 0, locals := 0 }) [.ref (ad (0))] mem r2 mem2 := by
  refine CtI.of (cc := cX12_standing) (maxL := 3) (ret := (some .int)) (own := RX12) rfl (by decide) (Nat.le_of_ble_eq_true rfl) ?_
  intro p e s m args below meth c A X
  have hts := X.2.2.2.2.1
  have hJ30 : ∀ (k4 : Int32 → Int32 → Mm → Option (Int32 × Mm)) (hk4 : ∀ (x1 : Int32) (x2 : Int32) (m3 : Mm), k4 x1 x2 m3 = some (r2, mem2) → Jd p l e ({ frames := 0, cells := 0, slots := 0, locals := 0 }) s m args below meth c 3 (MQ below (PsI Lm ad cy dC dI r2 mem2 A) args s 0 0 A) A dC dI cy Lm ad m3 4 [(0, .ref (ad (0))), (1, .int (x1)), (2, .int (x2))] []) (x4 : Int32) (x5 : Int32) (x6 : Int32) (m7 : Mm), f_X12_standing_J30 k4 x4 x5 x6 m7 = some (r2, mem2) → Jd p l e ({ frames := 0, cells := 0, slots := 0, locals := 0 }) s m args below meth c 3 (MQ below (PsI Lm ad cy dC dI r2 mem2 A) args s 0 0 A) A dC dI cy Lm ad m7 30 [(0, .ref (ad (0))), (2, .int (x4))] [.int (x5), .int (x6)] := by
    intro k4 hk4 x4 x5 x6 m7 h
    unfold f_X12_standing_J30 at h
    refine r_iadd X dX12_standing_30 ?_
    refine r_nmI h (fun x8 h => ?_)
    refine r_istore_n (lv2 := [(1, .int (x8)), (0, .ref (ad (0))), (2, .int (x4))]) X dX12_standing_31 rfl (by decide) rfl ?_
    refine r_inc h (fun x9 e9 h => ?_)
    refine r_iinc (v := x9) (lv2 := [(2, .int (x9)), (1, .int (x8)), (0, .ref (ad (0)))]) X dX12_standing_32 2 rfl (by rw [e9]; rfl) (by decide) rfl ?_
    refine r_goto (tgt := 4) X dX12_standing_35 (by decide) ?_
    exact r_sub [2, 1, 0] rfl (hk4 x8 x9 m7 h)
  have hJ4 : ∀ (k4 : Int32 → Int32 → Mm → Option (Int32 × Mm)) (hk4 : ∀ (x1 : Int32) (x2 : Int32) (m3 : Mm), k4 x1 x2 m3 = some (r2, mem2) → Jd p l e ({ frames := 0, cells := 0, slots := 0, locals := 0 }) s m args below meth c 3 (MQ below (PsI Lm ad cy dC dI r2 mem2 A) args s 0 0 A) A dC dI cy Lm ad m3 4 [(0, .ref (ad (0))), (1, .int (x1)), (2, .int (x2))] []) (x1 : Int32) (x2 : Int32) (m3 : Mm), f_X12_standing_B4 k4 x1 x2 m3 = some (r2, mem2) → Jd p l e ({ frames := 0, cells := 0, slots := 0, locals := 0 }) s m args below meth c 3 (MQ below (PsI Lm ad cy dC dI r2 mem2 A) args s 0 0 A) A dC dI cy Lm ad m3 4 [(0, .ref (ad (0))), (1, .int (x1)), (2, .int (x2))] [] := by
    intro k4 hk4 x1 x2 m3 h
    unfold f_X12_standing_B4 at h
    refine r_iload_n X dX12_standing_4 rfl 2 rfl ?_
    refine r_aload_n X dX12_standing_5 rfl 0 rfl ?_
    refine r_getF X (k := 10) (of := 2) rfl (Lm_N Lmk_0 rfl) Lmk_0 rfl (by decide) ui_12 (by decide) uw5_230 rfl dX12_standing_6 ?_
    refine r_iconst (v := (1)) X dX12_standing_9 (by decide) ?_
    refine r_iald X (Lm_N Lmk_2 rfl) Lmk_2 (g_in rfl h) dX12_standing_10 (fun h => ?_)
    refine r_icmp_ge (tgt := 38) X dX12_standing_11 (by decide) h (fun h => ?_) (fun h => ?_)
    · refine r_iload_n X dX12_standing_38 rfl 1 rfl ?_
      exact r_iret2 X rfl dX12_standing_39 h
    · refine r_iload_n X dX12_standing_14 rfl 1 rfl ?_
      refine r_aload_n X dX12_standing_15 rfl 0 rfl ?_
      refine r_getF X (k := 57) (of := 42) rfl (Lm_N Lmk_0 rfl) Lmk_0 rfl (by decide) ui_12 (by decide) uw6_37 rfl dX12_standing_16 ?_
      refine r_iload_n X dX12_standing_19 rfl 2 rfl ?_
      refine r_iald X (Lm_N Lmk_42 rfl) Lmk_42 h dX12_standing_20 (fun h => ?_)
      refine r_iconst (v := (1)) X dX12_standing_21 (by decide) ?_
      refine r_icmp_ne (tgt := 29) X dX12_standing_22 (by decide) h (fun h => ?_) (fun h => ?_)
      · refine r_iconst (v := (0)) X dX12_standing_29 (by decide) ?_
        exact r_sub [0, 2] rfl (hJ30 k4 hk4 x2 ((0)) x1 m3 h)
      · refine r_iconst (v := (1)) X dX12_standing_25 (by decide) ?_
        refine r_goto (tgt := 30) X dX12_standing_26 (by decide) ?_
        exact r_sub [0, 2] rfl (hJ30 k4 hk4 x2 ((1)) x1 m3 h)
  have hL4 : ∀ (n : Nat), ∀ (x1 : Int32) (x2 : Int32) (m3 : Mm), lop (fun _ _ _ => none) (f_X12_standing_B4 ) n x1 x2 m3 = some (r2, mem2) → Jd p l e ({ frames := 0, cells := 0, slots := 0, locals := 0 }) s m args below meth c 3 (MQ below (PsI Lm ad cy dC dI r2 mem2 A) args s 0 0 A) A dC dI cy Lm ad m3 4 [(0, .ref (ad (0))), (1, .int (x1)), (2, .int (x2))] [] := by
    intro  n
    induction n with
    | zero => intro _ _ _ h; cases h
    | succ n ih => intro a0 a1 a2 h; exact hJ4  _ ih a0 a1 a2 h
  unfold f_X12_standing at h
  refine r_iconst (v := (0)) X dX12_standing_0 (by decide) ?_
  refine r_istore_n (lv2 := [(1, .int ((0))), (0, .ref (ad (0)))]) X dX12_standing_1 rfl (by decide) rfl ?_
  refine r_iconst (v := (0)) X dX12_standing_2 (by decide) ?_
  refine r_istore_n (lv2 := [(2, .int ((0))), (1, .int ((0))), (0, .ref (ad (0)))]) X dX12_standing_3 rfl (by decide) rfl ?_
  exact r_sub [2, 1, 0] rfl (hL4 4000 ((0)) ((0)) mem h)
noncomputable def f_X12_wouldDare_J23 (p1 : Int32) (p2 : Int32) (m1 : Mm) : Option (Int32 × Mm) :=
  grd (bok ((1))) (some ((1), m1))
noncomputable def f_X12_wouldDare (p1 : Int32) (p2 : Int32) (mem : Mm) : Option (Int32 × Mm) :=
  grd (inb p1 14) (if (gI mem 7 p1.toNatClampNeg) = ((2)) then (f_X12_wouldDare_J23 p1 p2 mem) else (grd (inb p1 14) (if ((9)) < ((gI mem 10 p1.toNatClampNeg) + p2) then (grd (bok ((0))) (some ((0), mem))) else (f_X12_wouldDare_J23 p1 p2 mem))))
theorem dd_X12_wouldDare : yX12_wouldDare.cls = RX12 ∧ yX12_wouldDare.cls ≠ "java/lang/invoke/MethodHandle" ∧ yX12_wouldDare.cls ≠ "java/lang/invoke/VarHandle" ∧ (parseMethodDescriptor yX12_wouldDare.desc).map (fun d => d.parameters.length) = some 2 := by decide +kernel
set_option maxHeartbeats 4000000 in
set_option maxRecDepth 100000 in
theorem k_X12_wouldDare {l : Launch} {ad : Nat → Nat} {cy : Nat → ClassId} {dC : Nat → ClassId} {dI : Nat → Nat → Nat} {ks : (Nat → Nat) × (Nat → Nat)} {p1 : Int32} {p2 : Int32} {mem : Mm} {r2 : Int32} {mem2 : Mm}  (h : f_X12_wouldDare p1 p2 mem = some (r2, mem2)) : CtI l Lm ad cy dC dI ks yX12_wouldDare cX12_wouldDare 3 (some .boolean) ({ frames := 0, cells := 0, slots := 0, locals := 0 }) [.ref (ad (0)), .int (p1), .int (p2)] mem r2 mem2 := by
  refine CtI.of (cc := cX12_wouldDare) (maxL := 3) (ret := (some .boolean)) (own := RX12) rfl (by decide) (Nat.le_of_ble_eq_true rfl) ?_
  intro p e s m args below meth c A X
  have hts := X.2.2.2.2.1
  have hJ23 : ∀ (m1 : Mm), f_X12_wouldDare_J23 p1 p2 m1 = some (r2, mem2) → Jd p l e ({ frames := 0, cells := 0, slots := 0, locals := 0 }) s m args below meth c 3 (MQ below (PsI Lm ad cy dC dI r2 mem2 A) args s 0 0 A) A dC dI cy Lm ad m1 23 [] [] := by
    intro m1 h
    unfold f_X12_wouldDare_J23 at h
    refine r_iconst (v := (1)) X dX12_wouldDare_23 (by decide) ?_
    refine r_goto (tgt := 28) X dX12_wouldDare_24 (by decide) ?_
    exact r_zret2 X rfl dX12_wouldDare_28 h
  unfold f_X12_wouldDare at h
  refine r_aload_n X dX12_wouldDare_0 rfl 0 rfl ?_
  refine r_getF X (k := 15) (of := 7) rfl (Lm_N Lmk_0 rfl) Lmk_0 rfl (by decide) ui_12 (by decide) uw5_235 rfl dX12_wouldDare_1 ?_
  refine r_iload_n X dX12_wouldDare_4 rfl 1 rfl ?_
  refine r_iald X (Lm_N Lmk_7 rfl) Lmk_7 h dX12_wouldDare_5 (fun h => ?_)
  refine r_iconst (v := (2)) X dX12_wouldDare_6 (by decide) ?_
  refine r_icmp_eq (tgt := 23) X dX12_wouldDare_7 (by decide) h (fun h => ?_) (fun h => ?_)
  · exact r_sub [] rfl (hJ23 mem h)
  · refine r_aload_n X dX12_wouldDare_10 rfl 0 rfl ?_
    refine r_getF X (k := 18) (of := 10) rfl (Lm_N Lmk_0 rfl) Lmk_0 rfl (by decide) ui_12 (by decide) uw5_238 rfl dX12_wouldDare_11 ?_
    refine r_iload_n X dX12_wouldDare_14 rfl 1 rfl ?_
    refine r_iald X (Lm_N Lmk_10 rfl) Lmk_10 h dX12_wouldDare_15 (fun h => ?_)
    refine r_iload_n X dX12_wouldDare_16 rfl 2 rfl ?_
    refine r_iadd X dX12_wouldDare_17 ?_
    refine r_bipush (v := (9)) X dX12_wouldDare_18 (by decide) ?_
    refine r_icmp_gt (tgt := 27) X dX12_wouldDare_20 (by decide) h (fun h => ?_) (fun h => ?_)
    · refine r_iconst (v := (0)) X dX12_wouldDare_27 (by decide) ?_
      exact r_zret2 X rfl dX12_wouldDare_28 h
    · exact r_sub [] rfl (hJ23 mem h)
noncomputable def f_X12_isOpenAt (p1 : Int32) (mem : Mm) : Option (Int32 × Mm) :=
  if p1 < (gI mem 35 2) then (grd (bok ((0))) (some ((0), mem))) else (if (gI mem 35 3) ≤ p1 then (grd (bok ((0))) (some ((0), mem))) else (grd (bok ((1))) (some ((1), mem))))
theorem dd_X12_isOpenAt : yX12_isOpenAt.cls = RX12 ∧ yX12_isOpenAt.cls ≠ "java/lang/invoke/MethodHandle" ∧ yX12_isOpenAt.cls ≠ "java/lang/invoke/VarHandle" ∧ (parseMethodDescriptor yX12_isOpenAt.desc).map (fun d => d.parameters.length) = some 1 := by decide +kernel
set_option maxHeartbeats 4000000 in
set_option maxRecDepth 100000 in
theorem k_X12_isOpenAt {l : Launch} {ad : Nat → Nat} {cy : Nat → ClassId} {dC : Nat → ClassId} {dI : Nat → Nat → Nat} {ks : (Nat → Nat) × (Nat → Nat)} {p1 : Int32} {mem : Mm} {r2 : Int32} {mem2 : Mm}  (h : f_X12_isOpenAt p1 mem = some (r2, mem2)) : CtI l Lm ad cy dC dI ks yX12_isOpenAt cX12_isOpenAt 2 (some .boolean) ({ frames := 0, cells := 0, slots := 0, locals := 0 }) [.ref (ad (0)), .int (p1)] mem r2 mem2 := by
  refine CtI.of (cc := cX12_isOpenAt) (maxL := 2) (ret := (some .boolean)) (own := RX12) rfl (by decide) (Nat.le_of_ble_eq_true rfl) ?_
  intro p e s m args below meth c A X
  have hts := X.2.2.2.2.1
  unfold f_X12_isOpenAt at h
  refine r_iload_n X dX12_isOpenAt_0 rfl 1 rfl ?_
  refine r_aload_n X dX12_isOpenAt_1 rfl 0 rfl ?_
  refine r_getF X (k := 49) (of := 35) rfl (Lm_N Lmk_0 rfl) Lmk_0 rfl (by decide) ui_12 (by decide) uw6_29 rfl dX12_isOpenAt_2 ?_
  refine r_iconst (v := (2)) X dX12_isOpenAt_5 (by decide) ?_
  refine r_iald X (Lm_N Lmk_35 rfl) Lmk_35 (g_in rfl h) dX12_isOpenAt_6 (fun h => ?_)
  refine r_icmp_lt (tgt := 24) X dX12_isOpenAt_7 (by decide) h (fun h => ?_) (fun h => ?_)
  · refine r_iconst (v := (0)) X dX12_isOpenAt_24 (by decide) ?_
    exact r_zret2 X rfl dX12_isOpenAt_25 h
  · refine r_iload_n X dX12_isOpenAt_10 rfl 1 rfl ?_
    refine r_aload_n X dX12_isOpenAt_11 rfl 0 rfl ?_
    refine r_getF X (k := 49) (of := 35) rfl (Lm_N Lmk_0 rfl) Lmk_0 rfl (by decide) ui_12 (by decide) uw6_29 rfl dX12_isOpenAt_12 ?_
    refine r_iconst (v := (3)) X dX12_isOpenAt_15 (by decide) ?_
    refine r_iald X (Lm_N Lmk_35 rfl) Lmk_35 (g_in rfl h) dX12_isOpenAt_16 (fun h => ?_)
    refine r_icmp_ge (tgt := 24) X dX12_isOpenAt_17 (by decide) h (fun h => ?_) (fun h => ?_)
    · refine r_iconst (v := (0)) X dX12_isOpenAt_24 (by decide) ?_
      exact r_zret2 X rfl dX12_isOpenAt_25 h
    · refine r_iconst (v := (1)) X dX12_isOpenAt_20 (by decide) ?_
      refine r_goto (tgt := 25) X dX12_isOpenAt_21 (by decide) ?_
      exact r_zret2 X rfl dX12_isOpenAt_25 h
noncomputable def f_X12_firstDaring_J61 (k11 : Int32 → Int32 → Int32 → Mm → Option (Int32 × Mm)) (x10 : Int32) (x11 : Int32) (x12 : Int32) (m13 : Mm) : Option (Int32 × Mm) :=
  bnd (x12 + (1)) fun x14 => k11 x10 x11 x14 m13
noncomputable def f_X12_firstDaring_J59 (k11 : Int32 → Int32 → Int32 → Mm → Option (Int32 × Mm)) (x15 : Int32) (x16 : Int32) (m17 : Mm) : Option (Int32 × Mm) :=
  f_X12_firstDaring_J61 k11 x15 x16 x16 m17
noncomputable def f_X12_firstDaring_B11 (k11 : Int32 → Int32 → Int32 → Mm → Option (Int32 × Mm)) (x4 : Int32) (x5 : Int32) (x6 : Int32) (m7 : Mm) : Option (Int32 × Mm) :=
  if (gI m7 2 1) ≤ x6 then (some (x5, m7)) else (grd (inb x6 7) (if ¬ (gI m7 42 x6.toNatClampNeg) = ((1)) then (f_X12_firstDaring_J61 k11 x4 x5 x6 m7) else (bdI (f_X12_wouldDare x6 x4 m7) fun x9 m8 => if x9 = 0 then (f_X12_firstDaring_J61 k11 x4 x5 x6 m8) else (if x5 < 0 then (f_X12_firstDaring_J59 k11 x4 x6 m8) else (grd (inb x6 7) (grd (inb x5 7) (if (gI m8 41 x5.toNatClampNeg) ≤ (gI m8 41 x6.toNatClampNeg) then (f_X12_firstDaring_J61 k11 x4 x5 x6 m8) else (f_X12_firstDaring_J59 k11 x4 x6 m8))))))))
noncomputable def f_X12_firstDaring  (mem : Mm) : Option (Int32 × Mm) :=
  bdI (f_X12_standing  mem) fun x2 m1 => bnd (x2 - ((1))) fun x3 => lop (fun _ _ _ _ => none) (f_X12_firstDaring_B11 ) 4000 x3 ((-1)) ((0)) m1
theorem dd_X12_firstDaring : yX12_firstDaring.cls = RX12 ∧ yX12_firstDaring.cls ≠ "java/lang/invoke/MethodHandle" ∧ yX12_firstDaring.cls ≠ "java/lang/invoke/VarHandle" ∧ (parseMethodDescriptor yX12_firstDaring.desc).map (fun d => d.parameters.length) = some 0 := by decide +kernel
set_option maxHeartbeats 4000000 in
set_option maxRecDepth 100000 in
theorem k_X12_firstDaring {l : Launch} {ad : Nat → Nat} {cy : Nat → ClassId} {dC : Nat → ClassId} {dI : Nat → Nat → Nat} {ks : (Nat → Nat) × (Nat → Nat)}  {mem : Mm} {r2 : Int32} {mem2 : Mm}  (h : f_X12_firstDaring  mem = some (r2, mem2)) : CtI l Lm ad cy dC dI ks yX12_firstDaring cX12_firstDaring 4 (some .int) ({ frames := 1, cells := 0, slots := 0, locals := 22 }) [.ref (ad (0))] mem r2 mem2 := by
  refine CtI.of (cc := cX12_firstDaring) (maxL := 4) (ret := (some .int)) (own := RX12) rfl (by decide) (Nat.le_of_ble_eq_true rfl) ?_
  intro p e s m args below meth c A X
  have hts := X.2.2.2.2.1
  have hJ61 : ∀ (k11 : Int32 → Int32 → Int32 → Mm → Option (Int32 × Mm)) (hk11 : ∀ (x4 : Int32) (x5 : Int32) (x6 : Int32) (m7 : Mm), k11 x4 x5 x6 m7 = some (r2, mem2) → Jd p l e ({ frames := 1, cells := 0, slots := 0, locals := 22 }) s m args below meth c 4 (MQ below (PsI Lm ad cy dC dI r2 mem2 A) args s 0 0 A) A dC dI cy Lm ad m7 11 [(0, .ref (ad (0))), (1, .int (x4)), (2, .int (x5)), (3, .int (x6))] []) (x10 : Int32) (x11 : Int32) (x12 : Int32) (m13 : Mm), f_X12_firstDaring_J61 k11 x10 x11 x12 m13 = some (r2, mem2) → Jd p l e ({ frames := 1, cells := 0, slots := 0, locals := 22 }) s m args below meth c 4 (MQ below (PsI Lm ad cy dC dI r2 mem2 A) args s 0 0 A) A dC dI cy Lm ad m13 61 [(0, .ref (ad (0))), (1, .int (x10)), (2, .int (x11)), (3, .int (x12))] [] := by
    intro k11 hk11 x10 x11 x12 m13 h
    unfold f_X12_firstDaring_J61 at h
    refine r_inc h (fun x14 e9 h => ?_)
    refine r_iinc (v := x14) (lv2 := [(3, .int (x14)), (0, .ref (ad (0))), (1, .int (x10)), (2, .int (x11))]) X dX12_firstDaring_61 3 rfl (by rw [e9]; rfl) (by decide) rfl ?_
    refine r_goto (tgt := 11) X dX12_firstDaring_64 (by decide) ?_
    exact r_sub [1, 2, 3, 0] rfl (hk11 x10 x11 x14 m13 h)
  have hJ59 : ∀ (k11 : Int32 → Int32 → Int32 → Mm → Option (Int32 × Mm)) (hk11 : ∀ (x4 : Int32) (x5 : Int32) (x6 : Int32) (m7 : Mm), k11 x4 x5 x6 m7 = some (r2, mem2) → Jd p l e ({ frames := 1, cells := 0, slots := 0, locals := 22 }) s m args below meth c 4 (MQ below (PsI Lm ad cy dC dI r2 mem2 A) args s 0 0 A) A dC dI cy Lm ad m7 11 [(0, .ref (ad (0))), (1, .int (x4)), (2, .int (x5)), (3, .int (x6))] []) (x15 : Int32) (x16 : Int32) (m17 : Mm), f_X12_firstDaring_J59 k11 x15 x16 m17 = some (r2, mem2) → Jd p l e ({ frames := 1, cells := 0, slots := 0, locals := 22 }) s m args below meth c 4 (MQ below (PsI Lm ad cy dC dI r2 mem2 A) args s 0 0 A) A dC dI cy Lm ad m17 59 [(0, .ref (ad (0))), (1, .int (x15)), (3, .int (x16))] [] := by
    intro k11 hk11 x15 x16 m17 h
    unfold f_X12_firstDaring_J59 at h
    refine r_iload_n X dX12_firstDaring_59 rfl 2 rfl ?_
    refine r_istore_n (lv2 := [(2, .int (x16)), (0, .ref (ad (0))), (1, .int (x15)), (3, .int (x16))]) X dX12_firstDaring_60 rfl (by decide) rfl ?_
    exact r_sub [1, 2, 0, 3] rfl (hJ61 k11 hk11 x15 x16 x16 m17 h)
  have hJ11 : ∀ (k11 : Int32 → Int32 → Int32 → Mm → Option (Int32 × Mm)) (hk11 : ∀ (x4 : Int32) (x5 : Int32) (x6 : Int32) (m7 : Mm), k11 x4 x5 x6 m7 = some (r2, mem2) → Jd p l e ({ frames := 1, cells := 0, slots := 0, locals := 22 }) s m args below meth c 4 (MQ below (PsI Lm ad cy dC dI r2 mem2 A) args s 0 0 A) A dC dI cy Lm ad m7 11 [(0, .ref (ad (0))), (1, .int (x4)), (2, .int (x5)), (3, .int (x6))] []) (x4 : Int32) (x5 : Int32) (x6 : Int32) (m7 : Mm), f_X12_firstDaring_B11 k11 x4 x5 x6 m7 = some (r2, mem2) → Jd p l e ({ frames := 1, cells := 0, slots := 0, locals := 22 }) s m args below meth c 4 (MQ below (PsI Lm ad cy dC dI r2 mem2 A) args s 0 0 A) A dC dI cy Lm ad m7 11 [(0, .ref (ad (0))), (1, .int (x4)), (2, .int (x5)), (3, .int (x6))] [] := by
    intro k11 hk11 x4 x5 x6 m7 h
    unfold f_X12_firstDaring_B11 at h
    refine r_iload_n X dX12_firstDaring_11 rfl 3 rfl ?_
    refine r_aload_n X dX12_firstDaring_12 rfl 0 rfl ?_
    refine r_getF X (k := 10) (of := 2) rfl (Lm_N Lmk_0 rfl) Lmk_0 rfl (by decide) ui_12 (by decide) uw5_230 rfl dX12_firstDaring_13 ?_
    refine r_iconst (v := (1)) X dX12_firstDaring_16 (by decide) ?_
    refine r_iald X (Lm_N Lmk_2 rfl) Lmk_2 (g_in rfl h) dX12_firstDaring_17 (fun h => ?_)
    refine r_icmp_ge (tgt := 67) X dX12_firstDaring_18 (by decide) h (fun h => ?_) (fun h => ?_)
    · refine r_iload_n X dX12_firstDaring_67 rfl 2 rfl ?_
      exact r_iret2 X rfl dX12_firstDaring_68 h
    · refine r_aload_n X dX12_firstDaring_21 rfl 0 rfl ?_
      refine r_getF X (k := 57) (of := 42) rfl (Lm_N Lmk_0 rfl) Lmk_0 rfl (by decide) ui_12 (by decide) uw6_37 rfl dX12_firstDaring_22 ?_
      refine r_iload_n X dX12_firstDaring_25 rfl 3 rfl ?_
      refine r_iald X (Lm_N Lmk_42 rfl) Lmk_42 h dX12_firstDaring_26 (fun h => ?_)
      refine r_iconst (v := (1)) X dX12_firstDaring_27 (by decide) ?_
      refine r_icmp_ne (tgt := 61) X dX12_firstDaring_28 (by decide) h (fun h => ?_) (fun h => ?_)
      · exact r_sub [0, 1, 2, 3] rfl (hJ61 k11 hk11 x4 x5 x6 m7 h)
      · refine r_aload_n X dX12_firstDaring_31 rfl 0 rfl ?_
        refine r_iload_n X dX12_firstDaring_32 rfl 3 rfl ?_
        refine r_iload_n X dX12_firstDaring_33 rfl 1 rfl ?_
        refine r_cVI (As := [.int (x6), .int (x4)]) (rest := []) X (fun r9 m9 hg => k_X12_wouldDare hg) h (Lm_N Lmk_0 rfl) Lmk_0 rfl (by decide) uw7_169 uw7_171 us6_4 uw1_13 uw7_172 rfl rfl dd_X12_wouldDare ⟨Nat.le_of_ble_eq_true rfl, Nat.le_of_ble_eq_true rfl⟩ rfl (Nat.le_of_ble_eq_true rfl) dX12_firstDaring_34 rfl (fun x9 m8 h => ?_)
        refine r_if_eq (tgt := 61) X dX12_firstDaring_37 (by decide) h (fun h => ?_) (fun h => ?_)
        · exact r_sub [0, 1, 2, 3] rfl (hJ61 k11 hk11 x4 x5 x6 m8 h)
        · refine r_iload_n X dX12_firstDaring_40 rfl 2 rfl ?_
          refine r_if_lt (tgt := 59) X dX12_firstDaring_41 (by decide) h (fun h => ?_) (fun h => ?_)
          · exact r_sub [0, 1, 3] rfl (hJ59 k11 hk11 x4 x6 m8 h)
          · refine r_aload_n X dX12_firstDaring_44 rfl 0 rfl ?_
            refine r_getF X (k := 56) (of := 41) rfl (Lm_N Lmk_0 rfl) Lmk_0 rfl (by decide) ui_12 (by decide) uw6_36 rfl dX12_firstDaring_45 ?_
            refine r_iload_n X dX12_firstDaring_48 rfl 3 rfl ?_
            refine r_iald X (Lm_N Lmk_41 rfl) Lmk_41 h dX12_firstDaring_49 (fun h => ?_)
            refine r_aload_n X dX12_firstDaring_50 rfl 0 rfl ?_
            refine r_getF X (k := 56) (of := 41) rfl (Lm_N Lmk_0 rfl) Lmk_0 rfl (by decide) ui_12 (by decide) uw6_36 rfl dX12_firstDaring_51 ?_
            refine r_iload_n X dX12_firstDaring_54 rfl 2 rfl ?_
            refine r_iald X (Lm_N Lmk_41 rfl) Lmk_41 h dX12_firstDaring_55 (fun h => ?_)
            refine r_icmp_ge (tgt := 61) X dX12_firstDaring_56 (by decide) h (fun h => ?_) (fun h => ?_)
            · exact r_sub [0, 1, 2, 3] rfl (hJ61 k11 hk11 x4 x5 x6 m8 h)
            · exact r_sub [0, 1, 3] rfl (hJ59 k11 hk11 x4 x6 m8 h)
  have hL11 : ∀ (n : Nat), ∀ (x4 : Int32) (x5 : Int32) (x6 : Int32) (m7 : Mm), lop (fun _ _ _ _ => none) (f_X12_firstDaring_B11 ) n x4 x5 x6 m7 = some (r2, mem2) → Jd p l e ({ frames := 1, cells := 0, slots := 0, locals := 22 }) s m args below meth c 4 (MQ below (PsI Lm ad cy dC dI r2 mem2 A) args s 0 0 A) A dC dI cy Lm ad m7 11 [(0, .ref (ad (0))), (1, .int (x4)), (2, .int (x5)), (3, .int (x6))] [] := by
    intro  n
    induction n with
    | zero => intro _ _ _ _ h; cases h
    | succ n ih => intro a0 a1 a2 a3 h; exact hJ11  _ ih a0 a1 a2 a3 h
  unfold f_X12_firstDaring at h
  refine r_aload_n X dX12_firstDaring_0 rfl 0 rfl ?_
  refine r_cVI (As := []) (rest := []) X (fun r9 m9 hg => k_X12_standing hg) h (Lm_N Lmk_0 rfl) Lmk_0 rfl (by decide) uw7_165 uw7_167 us6_3 uw1_13 uw7_168 rfl rfl dd_X12_standing ⟨Nat.le_of_ble_eq_true rfl, Nat.le_of_ble_eq_true rfl⟩ rfl (Nat.le_of_ble_eq_true rfl) dX12_firstDaring_1 rfl (fun x2 m1 h => ?_)
  refine r_iconst (v := (1)) X dX12_firstDaring_4 (by decide) ?_
  refine r_isub X dX12_firstDaring_5 ?_
  refine r_nmI h (fun x3 h => ?_)
  refine r_istore_n (lv2 := [(1, .int (x3)), (0, .ref (ad (0)))]) X dX12_firstDaring_6 rfl (by decide) rfl ?_
  refine r_iconst (v := (-1)) X dX12_firstDaring_7 (by decide) ?_
  refine r_istore_n (lv2 := [(2, .int ((-1))), (1, .int (x3)), (0, .ref (ad (0)))]) X dX12_firstDaring_8 rfl (by decide) rfl ?_
  refine r_iconst (v := (0)) X dX12_firstDaring_9 (by decide) ?_
  refine r_istore_n (lv2 := [(3, .int ((0))), (2, .int ((-1))), (1, .int (x3)), (0, .ref (ad (0)))]) X dX12_firstDaring_10 rfl (by decide) rfl ?_
  exact r_sub [3, 2, 1, 0] rfl (hL11 4000 x3 ((-1)) ((0)) m1 h)
noncomputable def f_X12_beginsAt_J74 (p1 : Int32) (p2 : Int32) (k23 : Int32 → Mm → Option Mm) (x23 : Int32) (x24 : Int32) (x25 : Int32) (x26 : Int32) (m27 : Mm) : Option Mm :=
  grd (inb x26 7) (bnd (sI m27 46 x26.toNatClampNeg (x25 + x24)) fun m28 => bnd (x23 + (1)) fun x29 => k23 x29 m28)
noncomputable def f_X12_beginsAt_J73 (p1 : Int32) (p2 : Int32) (k23 : Int32 → Mm → Option Mm) (x19 : Int32) (x20 : Int32) (x21 : Int32) (m22 : Mm) : Option Mm :=
  f_X12_beginsAt_J74 p1 p2 k23 x19 ((0)) x20 x21 m22
noncomputable def f_X12_beginsAt_B84 (p1 : Int32) (p2 : Int32) (k84 : Int32 → Mm → Option Mm) (x6 : Int32) (m7 : Mm) : Option Mm :=
  bdI (f_X12_allStrikes p1 m7) fun x9 m8 => if x9 ≤ x6 then (bnd (sI m8 0 64 ((gI m8 0 64) + ((1)))) fun m10 => some m10) else (bdI (f_X12_keyAt p1 x6 m8) fun x12 m11 => bdI (f_X12_keyAt p1 x6 m11) fun x14 m13 => grd (inb (((5)) + x14) 17) (bdI (f_X12_wornBy p1 (gI m13 35 (((5)) + x14).toNatClampNeg) m13) fun x16 m15 => grd (inb (((5)) + x12) 17) (bnd (sI m15 35 (((5)) + x12).toNatClampNeg x16) fun m17 => bnd (x6 + (1)) fun x18 => k84 x18 m17)))
noncomputable def f_X12_beginsAt_B23 (p1 : Int32) (p2 : Int32) (k23 : Int32 → Mm → Option Mm) (x4 : Int32) (m5 : Mm) : Option Mm :=
  if (gI m5 2 1) ≤ x4 then (lop (fun _ _ => none) (f_X12_beginsAt_B84 p1 p2 ) 4000 ((0)) m5) else (grd (inb p1 7) (if x4 = p1 then (f_X12_beginsAt_J73 p1 p2 k23 x4 (gI m5 46 p1.toNatClampNeg) p1 m5) else (grd (inb x4 7) (if (gI m5 43 x4.toNatClampNeg) < 0 then (f_X12_beginsAt_J73 p1 p2 k23 x4 (gI m5 46 p1.toNatClampNeg) p1 m5) else (grd (inb x4 14) (grd (inb p1 14) (if ¬ (gI m5 8 x4.toNatClampNeg) = (gI m5 8 p1.toNatClampNeg) then (f_X12_beginsAt_J73 p1 p2 k23 x4 (gI m5 46 p1.toNatClampNeg) p1 m5) else (f_X12_beginsAt_J74 p1 p2 k23 x4 ((1)) (gI m5 46 p1.toNatClampNeg) p1 m5))))))))
noncomputable def f_X12_beginsAt (p1 : Int32) (p2 : Int32) (mem : Mm) : Option Mm :=
  grd (inb p1 7) (bnd (sI mem 42 p1.toNatClampNeg ((2))) fun m1 => grd (inb p1 7) (bnd (sI m1 43 p1.toNatClampNeg p2) fun m2 => grd (inb p1 7) (bnd (sI m2 46 p1.toNatClampNeg ((0))) fun m3 => lop (fun _ _ => none) (f_X12_beginsAt_B23 p1 p2 ) 4000 ((0)) m3)))
theorem dd_X12_beginsAt : yX12_beginsAt.cls = RX12 ∧ yX12_beginsAt.cls ≠ "java/lang/invoke/MethodHandle" ∧ yX12_beginsAt.cls ≠ "java/lang/invoke/VarHandle" ∧ (parseMethodDescriptor yX12_beginsAt.desc).map (fun d => d.parameters.length) = some 2 := by decide +kernel
set_option maxHeartbeats 4000000 in
set_option maxRecDepth 100000 in
theorem k_X12_beginsAt {l : Launch} {ad : Nat → Nat} {cy : Nat → ClassId} {dC : Nat → ClassId} {dI : Nat → Nat → Nat} {ks : (Nat → Nat) × (Nat → Nat)} {p1 : Int32} {p2 : Int32} {mem : Mm} {mem2 : Mm}  (h : f_X12_beginsAt p1 p2 mem = some mem2) : CtV l Lm ad cy dC dI ks yX12_beginsAt cX12_beginsAt 4 none ({ frames := 4, cells := 0, slots := 0, locals := 91 }) [.ref (ad (0)), .int (p1), .int (p2)] mem mem2 := by
  refine CtV.of (cc := cX12_beginsAt) (maxL := 4) (ret := none) (own := RX12) rfl (by decide) (Nat.le_of_ble_eq_true rfl) ?_
  intro p e s m args below meth c A X
  have hts := X.2.2.2.2.1
  have hJ74 : ∀ (k23 : Int32 → Mm → Option Mm) (hk23 : ∀ (x4 : Int32) (m5 : Mm), k23 x4 m5 = some mem2 → Jd p l e ({ frames := 4, cells := 0, slots := 0, locals := 91 }) s m args below meth c 4 (MQ below (PsV Lm ad cy dC dI mem2 A) args s 0 0 A) A dC dI cy Lm ad m5 23 [(0, .ref (ad (0))), (1, .int (p1)), (3, .int (x4))] []) (x23 : Int32) (x24 : Int32) (x25 : Int32) (x26 : Int32) (m27 : Mm), f_X12_beginsAt_J74 p1 p2 k23 x23 x24 x25 x26 m27 = some mem2 → Jd p l e ({ frames := 4, cells := 0, slots := 0, locals := 91 }) s m args below meth c 4 (MQ below (PsV Lm ad cy dC dI mem2 A) args s 0 0 A) A dC dI cy Lm ad m27 74 [(0, .ref (ad (0))), (1, .int (p1)), (3, .int (x23))] [.int (x24), .int (x25), .int (x26), .ref (ad (46))] := by
    intro k23 hk23 x23 x24 x25 x26 m27 h
    unfold f_X12_beginsAt_J74 at h
    refine r_iadd X dX12_beginsAt_74 ?_
    refine r_iast X (Lm_N Lmk_46 rfl) Lmk_46 h dX12_beginsAt_75 (fun h => ?_)
    refine r_nmM h (fun m28 h => ?_)
    refine r_inc h (fun x29 e9 h => ?_)
    refine r_iinc (v := x29) (lv2 := [(3, .int (x29)), (0, .ref (ad (0))), (1, .int (p1))]) X dX12_beginsAt_76 2 rfl (by rw [e9]; rfl) (by decide) rfl ?_
    refine r_goto (tgt := 23) X dX12_beginsAt_79 (by decide) ?_
    exact r_sub [1, 2, 0] rfl (hk23 x29 m28 h)
  have hJ73 : ∀ (k23 : Int32 → Mm → Option Mm) (hk23 : ∀ (x4 : Int32) (m5 : Mm), k23 x4 m5 = some mem2 → Jd p l e ({ frames := 4, cells := 0, slots := 0, locals := 91 }) s m args below meth c 4 (MQ below (PsV Lm ad cy dC dI mem2 A) args s 0 0 A) A dC dI cy Lm ad m5 23 [(0, .ref (ad (0))), (1, .int (p1)), (3, .int (x4))] []) (x19 : Int32) (x20 : Int32) (x21 : Int32) (m22 : Mm), f_X12_beginsAt_J73 p1 p2 k23 x19 x20 x21 m22 = some mem2 → Jd p l e ({ frames := 4, cells := 0, slots := 0, locals := 91 }) s m args below meth c 4 (MQ below (PsV Lm ad cy dC dI mem2 A) args s 0 0 A) A dC dI cy Lm ad m22 73 [(0, .ref (ad (0))), (1, .int (p1)), (3, .int (x19))] [.int (x20), .int (x21), .ref (ad (46))] := by
    intro k23 hk23 x19 x20 x21 m22 h
    unfold f_X12_beginsAt_J73 at h
    refine r_iconst (v := (0)) X dX12_beginsAt_73 (by decide) ?_
    exact r_sub [0, 1, 2] rfl (hJ74 k23 hk23 x19 ((0)) x20 x21 m22 h)
  have hJ84 : ∀ (k84 : Int32 → Mm → Option Mm) (hk84 : ∀ (x6 : Int32) (m7 : Mm), k84 x6 m7 = some mem2 → Jd p l e ({ frames := 4, cells := 0, slots := 0, locals := 91 }) s m args below meth c 4 (MQ below (PsV Lm ad cy dC dI mem2 A) args s 0 0 A) A dC dI cy Lm ad m7 84 [(0, .ref (ad (0))), (1, .int (p1)), (3, .int (x6))] []) (x6 : Int32) (m7 : Mm), f_X12_beginsAt_B84 p1 p2 k84 x6 m7 = some mem2 → Jd p l e ({ frames := 4, cells := 0, slots := 0, locals := 91 }) s m args below meth c 4 (MQ below (PsV Lm ad cy dC dI mem2 A) args s 0 0 A) A dC dI cy Lm ad m7 84 [(0, .ref (ad (0))), (1, .int (p1)), (3, .int (x6))] [] := by
    intro k84 hk84 x6 m7 h
    unfold f_X12_beginsAt_B84 at h
    refine r_iload_n X dX12_beginsAt_84 rfl 2 rfl ?_
    refine r_aload_n X dX12_beginsAt_85 rfl 0 rfl ?_
    refine r_iload_n X dX12_beginsAt_86 rfl 1 rfl ?_
    refine r_cVI (As := [.int (p1)]) (rest := [.int (x6)]) X (fun r9 m9 hg => k_X12_allStrikes hg) h (Lm_N Lmk_0 rfl) Lmk_0 rfl (by decide) uw7_177 uw7_179 us6_6 uw1_13 uw7_180 rfl rfl dd_X12_allStrikes ⟨Nat.le_of_ble_eq_true rfl, Nat.le_of_ble_eq_true rfl⟩ rfl (Nat.le_of_ble_eq_true rfl) dX12_beginsAt_87 rfl (fun x9 m8 h => ?_)
    refine r_icmp_ge (tgt := 130) X dX12_beginsAt_90 (by decide) h (fun h => ?_) (fun h => ?_)
    · refine r_aload_n X dX12_beginsAt_130 rfl 0 rfl ?_
      refine r_dup X dX12_beginsAt_131 rfl ?_
      refine r_getI X (k := 64) (Lm_N Lmk_0 rfl) Lmk_0 rfl (by decide) ui_12 (by decide) uw6_44 rfl dX12_beginsAt_132 ?_
      refine r_iconst (v := (1)) X dX12_beginsAt_135 (by decide) ?_
      refine r_iadd X dX12_beginsAt_136 ?_
      refine r_putI X (k := 64) (Lm_N Lmk_0 rfl) Lmk_0 rfl (by decide) ui_12 (by decide) uw6_44 tyX12_ok nmX12 rfl rfl rfl dX12_beginsAt_137 ?_
      refine r_nmM h (fun m10 h => ?_)
      exact r_vret X rfl dX12_beginsAt_140 h
    · refine r_aload_n X dX12_beginsAt_93 rfl 0 rfl ?_
      refine r_getF X (k := 49) (of := 35) rfl (Lm_N Lmk_0 rfl) Lmk_0 rfl (by decide) ui_12 (by decide) uw6_29 rfl dX12_beginsAt_94 ?_
      refine r_iconst (v := (5)) X dX12_beginsAt_97 (by decide) ?_
      refine r_aload_n X dX12_beginsAt_98 rfl 0 rfl ?_
      refine r_iload_n X dX12_beginsAt_99 rfl 1 rfl ?_
      refine r_iload_n X dX12_beginsAt_100 rfl 2 rfl ?_
      refine r_cVI (As := [.int (p1), .int (x6)]) (rest := [.int ((5)), .ref (ad (35))]) X (fun r9 m9 hg => k_X12_keyAt hg) h (Lm_N Lmk_0 rfl) Lmk_0 rfl (by decide) uw7_185 uw7_187 us6_8 uw1_13 uw7_188 rfl rfl dd_X12_keyAt ⟨Nat.le_of_ble_eq_true rfl, Nat.le_of_ble_eq_true rfl⟩ rfl (Nat.le_of_ble_eq_true rfl) dX12_beginsAt_101 rfl (fun x12 m11 h => ?_)
      refine r_iadd X dX12_beginsAt_104 ?_
      refine r_aload_n X dX12_beginsAt_105 rfl 0 rfl ?_
      refine r_iload_n X dX12_beginsAt_106 rfl 1 rfl ?_
      refine r_aload_n X dX12_beginsAt_107 rfl 0 rfl ?_
      refine r_getF X (k := 49) (of := 35) rfl (Lm_N Lmk_0 rfl) Lmk_0 rfl (by decide) ui_12 (by decide) uw6_29 rfl dX12_beginsAt_108 ?_
      refine r_iconst (v := (5)) X dX12_beginsAt_111 (by decide) ?_
      refine r_aload_n X dX12_beginsAt_112 rfl 0 rfl ?_
      refine r_iload_n X dX12_beginsAt_113 rfl 1 rfl ?_
      refine r_iload_n X dX12_beginsAt_114 rfl 2 rfl ?_
      refine r_cVI (As := [.int (p1), .int (x6)]) (rest := [.int ((5)), .ref (ad (35)), .int (p1), .ref (ad (0)), .int (((5)) + x12), .ref (ad (35))]) X (fun r9 m9 hg => k_X12_keyAt hg) h (Lm_N Lmk_0 rfl) Lmk_0 rfl (by decide) uw7_185 uw7_187 us6_8 uw1_13 uw7_188 rfl rfl dd_X12_keyAt ⟨Nat.le_of_ble_eq_true rfl, Nat.le_of_ble_eq_true rfl⟩ rfl (Nat.le_of_ble_eq_true rfl) dX12_beginsAt_115 rfl (fun x14 m13 h => ?_)
      refine r_iadd X dX12_beginsAt_118 ?_
      refine r_iald X (Lm_N Lmk_35 rfl) Lmk_35 h dX12_beginsAt_119 (fun h => ?_)
      refine r_cVI (As := [.int (p1), .int (gI m13 35 (((5)) + x14).toNatClampNeg)]) (rest := [.int (((5)) + x12), .ref (ad (35))]) X (fun r9 m9 hg => k_X12_wornBy hg) h (Lm_N Lmk_0 rfl) Lmk_0 rfl (by decide) uw7_189 uw7_191 us6_9 uw1_13 uw7_192 rfl rfl dd_X12_wornBy ⟨Nat.le_of_ble_eq_true rfl, Nat.le_of_ble_eq_true rfl⟩ rfl (Nat.le_of_ble_eq_true rfl) dX12_beginsAt_120 rfl (fun x16 m15 h => ?_)
      refine r_iast X (Lm_N Lmk_35 rfl) Lmk_35 h dX12_beginsAt_123 (fun h => ?_)
      refine r_nmM h (fun m17 h => ?_)
      refine r_inc h (fun x18 e9 h => ?_)
      refine r_iinc (v := x18) (lv2 := [(3, .int (x18)), (0, .ref (ad (0))), (1, .int (p1))]) X dX12_beginsAt_124 2 rfl (by rw [e9]; rfl) (by decide) rfl ?_
      refine r_goto (tgt := 84) X dX12_beginsAt_127 (by decide) ?_
      exact r_sub [1, 2, 0] rfl (hk84 x18 m17 h)
  have hL84 : ∀ (n : Nat), ∀ (x6 : Int32) (m7 : Mm), lop (fun _ _ => none) (f_X12_beginsAt_B84 p1 p2 ) n x6 m7 = some mem2 → Jd p l e ({ frames := 4, cells := 0, slots := 0, locals := 91 }) s m args below meth c 4 (MQ below (PsV Lm ad cy dC dI mem2 A) args s 0 0 A) A dC dI cy Lm ad m7 84 [(0, .ref (ad (0))), (1, .int (p1)), (3, .int (x6))] [] := by
    intro  n
    induction n with
    | zero => intro _ _ h; cases h
    | succ n ih => intro a0 a1 h; exact hJ84  _ ih a0 a1 h
  have hJ23 : ∀ (k23 : Int32 → Mm → Option Mm) (hk23 : ∀ (x4 : Int32) (m5 : Mm), k23 x4 m5 = some mem2 → Jd p l e ({ frames := 4, cells := 0, slots := 0, locals := 91 }) s m args below meth c 4 (MQ below (PsV Lm ad cy dC dI mem2 A) args s 0 0 A) A dC dI cy Lm ad m5 23 [(0, .ref (ad (0))), (1, .int (p1)), (3, .int (x4))] []) (x4 : Int32) (m5 : Mm), f_X12_beginsAt_B23 p1 p2 k23 x4 m5 = some mem2 → Jd p l e ({ frames := 4, cells := 0, slots := 0, locals := 91 }) s m args below meth c 4 (MQ below (PsV Lm ad cy dC dI mem2 A) args s 0 0 A) A dC dI cy Lm ad m5 23 [(0, .ref (ad (0))), (1, .int (p1)), (3, .int (x4))] [] := by
    intro k23 hk23 x4 m5 h
    unfold f_X12_beginsAt_B23 at h
    refine r_iload_n X dX12_beginsAt_23 rfl 2 rfl ?_
    refine r_aload_n X dX12_beginsAt_24 rfl 0 rfl ?_
    refine r_getF X (k := 10) (of := 2) rfl (Lm_N Lmk_0 rfl) Lmk_0 rfl (by decide) ui_12 (by decide) uw5_230 rfl dX12_beginsAt_25 ?_
    refine r_iconst (v := (1)) X dX12_beginsAt_28 (by decide) ?_
    refine r_iald X (Lm_N Lmk_2 rfl) Lmk_2 (g_in rfl h) dX12_beginsAt_29 (fun h => ?_)
    refine r_icmp_ge (tgt := 82) X dX12_beginsAt_30 (by decide) h (fun h => ?_) (fun h => ?_)
    · refine r_iconst (v := (0)) X dX12_beginsAt_82 (by decide) ?_
      refine r_istore_n (lv2 := [(3, .int ((0))), (0, .ref (ad (0))), (1, .int (p1))]) X dX12_beginsAt_83 rfl (by decide) rfl ?_
      exact r_sub [1, 2, 0] rfl (hL84 4000 ((0)) m5 h)
    · refine r_aload_n X dX12_beginsAt_33 rfl 0 rfl ?_
      refine r_getF X (k := 61) (of := 46) rfl (Lm_N Lmk_0 rfl) Lmk_0 rfl (by decide) ui_12 (by decide) uw6_41 rfl dX12_beginsAt_34 ?_
      refine r_iload_n X dX12_beginsAt_37 rfl 1 rfl ?_
      refine r_dup2 X dX12_beginsAt_38 rfl rfl ?_
      refine r_iald X (Lm_N Lmk_46 rfl) Lmk_46 h dX12_beginsAt_39 (fun h => ?_)
      refine r_iload_n X dX12_beginsAt_40 rfl 2 rfl ?_
      refine r_iload_n X dX12_beginsAt_41 rfl 1 rfl ?_
      refine r_icmp_eq (tgt := 73) X dX12_beginsAt_42 (by decide) h (fun h => ?_) (fun h => ?_)
      · exact r_sub [0, 1, 2] rfl (hJ73 k23 hk23 x4 (gI m5 46 p1.toNatClampNeg) p1 m5 h)
      · refine r_aload_n X dX12_beginsAt_45 rfl 0 rfl ?_
        refine r_getF X (k := 58) (of := 43) rfl (Lm_N Lmk_0 rfl) Lmk_0 rfl (by decide) ui_12 (by decide) uw6_38 rfl dX12_beginsAt_46 ?_
        refine r_iload_n X dX12_beginsAt_49 rfl 2 rfl ?_
        refine r_iald X (Lm_N Lmk_43 rfl) Lmk_43 h dX12_beginsAt_50 (fun h => ?_)
        refine r_if_lt (tgt := 73) X dX12_beginsAt_51 (by decide) h (fun h => ?_) (fun h => ?_)
        · exact r_sub [0, 1, 2] rfl (hJ73 k23 hk23 x4 (gI m5 46 p1.toNatClampNeg) p1 m5 h)
        · refine r_aload_n X dX12_beginsAt_54 rfl 0 rfl ?_
          refine r_getF X (k := 16) (of := 8) rfl (Lm_N Lmk_0 rfl) Lmk_0 rfl (by decide) ui_12 (by decide) uw5_236 rfl dX12_beginsAt_55 ?_
          refine r_iload_n X dX12_beginsAt_58 rfl 2 rfl ?_
          refine r_iald X (Lm_N Lmk_8 rfl) Lmk_8 h dX12_beginsAt_59 (fun h => ?_)
          refine r_aload_n X dX12_beginsAt_60 rfl 0 rfl ?_
          refine r_getF X (k := 16) (of := 8) rfl (Lm_N Lmk_0 rfl) Lmk_0 rfl (by decide) ui_12 (by decide) uw5_236 rfl dX12_beginsAt_61 ?_
          refine r_iload_n X dX12_beginsAt_64 rfl 1 rfl ?_
          refine r_iald X (Lm_N Lmk_8 rfl) Lmk_8 h dX12_beginsAt_65 (fun h => ?_)
          refine r_icmp_ne (tgt := 73) X dX12_beginsAt_66 (by decide) h (fun h => ?_) (fun h => ?_)
          · exact r_sub [0, 1, 2] rfl (hJ73 k23 hk23 x4 (gI m5 46 p1.toNatClampNeg) p1 m5 h)
          · refine r_iconst (v := (1)) X dX12_beginsAt_69 (by decide) ?_
            refine r_goto (tgt := 74) X dX12_beginsAt_70 (by decide) ?_
            exact r_sub [0, 1, 2] rfl (hJ74 k23 hk23 x4 ((1)) (gI m5 46 p1.toNatClampNeg) p1 m5 h)
  have hL23 : ∀ (n : Nat), ∀ (x4 : Int32) (m5 : Mm), lop (fun _ _ => none) (f_X12_beginsAt_B23 p1 p2 ) n x4 m5 = some mem2 → Jd p l e ({ frames := 4, cells := 0, slots := 0, locals := 91 }) s m args below meth c 4 (MQ below (PsV Lm ad cy dC dI mem2 A) args s 0 0 A) A dC dI cy Lm ad m5 23 [(0, .ref (ad (0))), (1, .int (p1)), (3, .int (x4))] [] := by
    intro  n
    induction n with
    | zero => intro _ _ h; cases h
    | succ n ih => intro a0 a1 h; exact hJ23  _ ih a0 a1 h
  unfold f_X12_beginsAt at h
  refine r_aload_n X dX12_beginsAt_0 rfl 0 rfl ?_
  refine r_getF X (k := 57) (of := 42) rfl (Lm_N Lmk_0 rfl) Lmk_0 rfl (by decide) ui_12 (by decide) uw6_37 rfl dX12_beginsAt_1 ?_
  refine r_iload_n X dX12_beginsAt_4 rfl 1 rfl ?_
  refine r_iconst (v := (2)) X dX12_beginsAt_5 (by decide) ?_
  refine r_iast X (Lm_N Lmk_42 rfl) Lmk_42 h dX12_beginsAt_6 (fun h => ?_)
  refine r_nmM h (fun m1 h => ?_)
  refine r_aload_n X dX12_beginsAt_7 rfl 0 rfl ?_
  refine r_getF X (k := 58) (of := 43) rfl (Lm_N Lmk_0 rfl) Lmk_0 rfl (by decide) ui_12 (by decide) uw6_38 rfl dX12_beginsAt_8 ?_
  refine r_iload_n X dX12_beginsAt_11 rfl 1 rfl ?_
  refine r_iload_n X dX12_beginsAt_12 rfl 2 rfl ?_
  refine r_iast X (Lm_N Lmk_43 rfl) Lmk_43 h dX12_beginsAt_13 (fun h => ?_)
  refine r_nmM h (fun m2 h => ?_)
  refine r_aload_n X dX12_beginsAt_14 rfl 0 rfl ?_
  refine r_getF X (k := 61) (of := 46) rfl (Lm_N Lmk_0 rfl) Lmk_0 rfl (by decide) ui_12 (by decide) uw6_41 rfl dX12_beginsAt_15 ?_
  refine r_iload_n X dX12_beginsAt_18 rfl 1 rfl ?_
  refine r_iconst (v := (0)) X dX12_beginsAt_19 (by decide) ?_
  refine r_iast X (Lm_N Lmk_46 rfl) Lmk_46 h dX12_beginsAt_20 (fun h => ?_)
  refine r_nmM h (fun m3 h => ?_)
  refine r_iconst (v := (0)) X dX12_beginsAt_21 (by decide) ?_
  refine r_istore_n (lv2 := [(3, .int ((0))), (0, .ref (ad (0))), (1, .int (p1)), (2, .int (p2))]) X dX12_beginsAt_22 rfl (by decide) rfl ?_
  exact r_sub [1, 2, 0] rfl (hL23 4000 ((0)) m3 h)
noncomputable def f_X12_joyOf_J84 (p1 : Int32) (x12 : Int32) (m13 : Mm) : Option (Int32 × Mm) :=
  bdI (f_X12_between x12 ((-99)) ((99)) m13) fun x15 m14 => some (x15, m14)
noncomputable def f_X12_joyOf (p1 : Int32) (mem : Mm) : Option (Int32 × Mm) :=
  bdI (f_X12_wornFor p1 mem) fun x2 m1 => grd (inb p1 14) (grd (inb p1 7) (bnd (((gI m1 9 p1.toNatClampNeg) - x2) - (gI m1 46 p1.toNatClampNeg)) fun x3 => if (gI m1 14 0) ≤ (gI m1 13 0) then (f_X12_joyOf_J84 p1 x3 m1) else (grd (inb p1 14) (bnd (sI m1 27 1 (gI m1 9 p1.toNatClampNeg)) fun m4 => bnd (sI m4 27 2 x2) fun m5 => bdI (f_X12_standing  m5) fun x7 m6 => bnd (sI m6 27 3 x7) fun m8 => grd (inb p1 7) (bnd (sI m8 27 4 (gI m8 46 p1.toNatClampNeg)) fun m9 => bdI (f_X12_worked ((0)) m9) fun x11 m10 => f_X12_joyOf_J84 p1 x11 m10)))))
theorem dd_X12_joyOf : yX12_joyOf.cls = RX12 ∧ yX12_joyOf.cls ≠ "java/lang/invoke/MethodHandle" ∧ yX12_joyOf.cls ≠ "java/lang/invoke/VarHandle" ∧ (parseMethodDescriptor yX12_joyOf.desc).map (fun d => d.parameters.length) = some 1 := by decide +kernel
set_option maxHeartbeats 4000000 in
set_option maxRecDepth 100000 in
theorem k_X12_joyOf {l : Launch} {ad : Nat → Nat} {cy : Nat → ClassId} {dC : Nat → ClassId} {dI : Nat → Nat → Nat} {ks : (Nat → Nat) × (Nat → Nat)} {p1 : Int32} {mem : Mm} {r2 : Int32} {mem2 : Mm}  (h : f_X12_joyOf p1 mem = some (r2, mem2)) : CtI l Lm ad cy dC dI ks yX12_joyOf cX12_joyOf 4 (some .int) ({ frames := 4, cells := 0, slots := 0, locals := 88 }) [.ref (ad (0)), .int (p1)] mem r2 mem2 := by
  refine CtI.of (cc := cX12_joyOf) (maxL := 4) (ret := (some .int)) (own := RX12) rfl (by decide) (Nat.le_of_ble_eq_true rfl) ?_
  intro p e s m args below meth c A X
  have hts := X.2.2.2.2.1
  have hJ84 : ∀ (x12 : Int32) (m13 : Mm), f_X12_joyOf_J84 p1 x12 m13 = some (r2, mem2) → Jd p l e ({ frames := 4, cells := 0, slots := 0, locals := 88 }) s m args below meth c 4 (MQ below (PsI Lm ad cy dC dI r2 mem2 A) args s 0 0 A) A dC dI cy Lm ad m13 84 [(3, .int (x12))] [] := by
    intro x12 m13 h
    unfold f_X12_joyOf_J84 at h
    refine r_iload_n X dX12_joyOf_84 rfl 0 rfl ?_
    refine r_bipush (v := (-99)) X dX12_joyOf_85 (by decide) ?_
    refine r_bipush (v := (99)) X dX12_joyOf_87 (by decide) ?_
    refine r_cSI (As := [.int (x12), .int ((-99)), .int ((99))]) (rest := []) X (fun r9 m9 hg => k_X12_between hg) h uw7_209 uw7_210 uw1_13 uw7_211 rfl rfl dd_X12_between ⟨Nat.le_of_ble_eq_true rfl, Nat.le_of_ble_eq_true rfl⟩ rfl (Nat.le_of_ble_eq_true rfl) dX12_joyOf_89 rfl (fun x15 m14 h => ?_)
    exact r_iret2 X rfl dX12_joyOf_92 h
  unfold f_X12_joyOf at h
  refine r_aload_n X dX12_joyOf_0 rfl 0 rfl ?_
  refine r_iload_n X dX12_joyOf_1 rfl 1 rfl ?_
  refine r_cVI (As := [.int (p1)]) (rest := []) X (fun r9 m9 hg => k_X12_wornFor hg) h (Lm_N Lmk_0 rfl) Lmk_0 rfl (by decide) uw7_216 uw7_218 us6_15 uw1_13 uw7_219 rfl rfl dd_X12_wornFor ⟨Nat.le_of_ble_eq_true rfl, Nat.le_of_ble_eq_true rfl⟩ rfl (Nat.le_of_ble_eq_true rfl) dX12_joyOf_2 rfl (fun x2 m1 h => ?_)
  refine r_istore_n (lv2 := [(2, .int (x2)), (0, .ref (ad (0))), (1, .int (p1))]) X dX12_joyOf_5 rfl (by decide) rfl ?_
  refine r_aload_n X dX12_joyOf_6 rfl 1 rfl ?_
  refine r_getF X (k := 17) (of := 9) rfl (Lm_N Lmk_0 rfl) Lmk_0 rfl (by decide) ui_12 (by decide) uw5_237 rfl dX12_joyOf_7 ?_
  refine r_iload_n X dX12_joyOf_10 rfl 2 rfl ?_
  refine r_iald X (Lm_N Lmk_9 rfl) Lmk_9 h dX12_joyOf_11 (fun h => ?_)
  refine r_iload_n X dX12_joyOf_12 rfl 0 rfl ?_
  refine r_isub X dX12_joyOf_13 ?_
  refine r_aload_n X dX12_joyOf_14 rfl 1 rfl ?_
  refine r_getF X (k := 61) (of := 46) rfl (Lm_N Lmk_0 rfl) Lmk_0 rfl (by decide) ui_12 (by decide) uw6_41 rfl dX12_joyOf_15 ?_
  refine r_iload_n X dX12_joyOf_18 rfl 2 rfl ?_
  refine r_iald X (Lm_N Lmk_46 rfl) Lmk_46 h dX12_joyOf_19 (fun h => ?_)
  refine r_isub X dX12_joyOf_20 ?_
  refine r_nmI h (fun x3 h => ?_)
  refine r_istore_n (lv2 := [(3, .int (x3)), (2, .int (x2)), (0, .ref (ad (0))), (1, .int (p1))]) X dX12_joyOf_21 rfl (by decide) rfl ?_
  refine r_aload_n X dX12_joyOf_22 rfl 2 rfl ?_
  refine r_getF X (k := 22) (of := 14) rfl (Lm_N Lmk_0 rfl) Lmk_0 rfl (by decide) ui_12 (by decide) uw6_2 rfl dX12_joyOf_23 ?_
  refine r_iconst (v := (0)) X dX12_joyOf_26 (by decide) ?_
  refine r_iald X (Lm_N Lmk_14 rfl) Lmk_14 (g_in rfl h) dX12_joyOf_27 (fun h => ?_)
  refine r_aload_n X dX12_joyOf_28 rfl 2 rfl ?_
  refine r_getF X (k := 21) (of := 13) rfl (Lm_N Lmk_0 rfl) Lmk_0 rfl (by decide) ui_12 (by decide) uw6_1 rfl dX12_joyOf_29 ?_
  refine r_iconst (v := (0)) X dX12_joyOf_32 (by decide) ?_
  refine r_iald X (Lm_N Lmk_13 rfl) Lmk_13 (g_in rfl h) dX12_joyOf_33 (fun h => ?_)
  refine r_icmp_le (tgt := 84) X dX12_joyOf_34 (by decide) h (fun h => ?_) (fun h => ?_)
  · exact r_sub [0] rfl (hJ84 x3 m1 h)
  · refine r_aload_n X dX12_joyOf_37 rfl 2 rfl ?_
    refine r_getF X (k := 38) (of := 27) rfl (Lm_N Lmk_0 rfl) Lmk_0 rfl (by decide) ui_12 (by decide) uw6_18 rfl dX12_joyOf_38 ?_
    refine r_iconst (v := (1)) X dX12_joyOf_41 (by decide) ?_
    refine r_aload_n X dX12_joyOf_42 rfl 2 rfl ?_
    refine r_getF X (k := 17) (of := 9) rfl (Lm_N Lmk_0 rfl) Lmk_0 rfl (by decide) ui_12 (by decide) uw5_237 rfl dX12_joyOf_43 ?_
    refine r_iload_n X dX12_joyOf_46 rfl 3 rfl ?_
    refine r_iald X (Lm_N Lmk_9 rfl) Lmk_9 h dX12_joyOf_47 (fun h => ?_)
    refine r_iast X (Lm_N Lmk_27 rfl) Lmk_27 (g_in rfl h) dX12_joyOf_48 (fun h => ?_)
    refine r_nmM h (fun m4 h => ?_)
    refine r_aload_n X dX12_joyOf_49 rfl 2 rfl ?_
    refine r_getF X (k := 38) (of := 27) rfl (Lm_N Lmk_0 rfl) Lmk_0 rfl (by decide) ui_12 (by decide) uw6_18 rfl dX12_joyOf_50 ?_
    refine r_iconst (v := (2)) X dX12_joyOf_53 (by decide) ?_
    refine r_iload_n X dX12_joyOf_54 rfl 1 rfl ?_
    refine r_iast X (Lm_N Lmk_27 rfl) Lmk_27 (g_in rfl h) dX12_joyOf_55 (fun h => ?_)
    refine r_nmM h (fun m5 h => ?_)
    refine r_aload_n X dX12_joyOf_56 rfl 2 rfl ?_
    refine r_getF X (k := 38) (of := 27) rfl (Lm_N Lmk_0 rfl) Lmk_0 rfl (by decide) ui_12 (by decide) uw6_18 rfl dX12_joyOf_57 ?_
    refine r_iconst (v := (3)) X dX12_joyOf_60 (by decide) ?_
    refine r_aload_n X dX12_joyOf_61 rfl 2 rfl ?_
    refine r_cVI (As := []) (rest := [.int ((3)), .ref (ad (27))]) X (fun r9 m9 hg => k_X12_standing hg) h (Lm_N Lmk_0 rfl) Lmk_0 rfl (by decide) uw7_165 uw7_167 us6_3 uw1_13 uw7_168 rfl rfl dd_X12_standing ⟨Nat.le_of_ble_eq_true rfl, Nat.le_of_ble_eq_true rfl⟩ rfl (Nat.le_of_ble_eq_true rfl) dX12_joyOf_62 rfl (fun x7 m6 h => ?_)
    refine r_iast X (Lm_N Lmk_27 rfl) Lmk_27 (g_in rfl h) dX12_joyOf_65 (fun h => ?_)
    refine r_nmM h (fun m8 h => ?_)
    refine r_aload_n X dX12_joyOf_66 rfl 2 rfl ?_
    refine r_getF X (k := 38) (of := 27) rfl (Lm_N Lmk_0 rfl) Lmk_0 rfl (by decide) ui_12 (by decide) uw6_18 rfl dX12_joyOf_67 ?_
    refine r_iconst (v := (4)) X dX12_joyOf_70 (by decide) ?_
    refine r_aload_n X dX12_joyOf_71 rfl 2 rfl ?_
    refine r_getF X (k := 61) (of := 46) rfl (Lm_N Lmk_0 rfl) Lmk_0 rfl (by decide) ui_12 (by decide) uw6_41 rfl dX12_joyOf_72 ?_
    refine r_iload_n X dX12_joyOf_75 rfl 3 rfl ?_
    refine r_iald X (Lm_N Lmk_46 rfl) Lmk_46 h dX12_joyOf_76 (fun h => ?_)
    refine r_iast X (Lm_N Lmk_27 rfl) Lmk_27 (g_in rfl h) dX12_joyOf_77 (fun h => ?_)
    refine r_nmM h (fun m9 h => ?_)
    refine r_aload_n X dX12_joyOf_78 rfl 2 rfl ?_
    refine r_iconst (v := (0)) X dX12_joyOf_79 (by decide) ?_
    refine r_cVI (As := [.int ((0))]) (rest := []) X (fun r9 m9 hg => k_X12_worked hg) h (Lm_N Lmk_0 rfl) Lmk_0 rfl (by decide) uw7_193 uw7_195 us6_10 uw1_13 uw7_196 rfl rfl dd_X12_worked ⟨Nat.le_of_ble_eq_true rfl, Nat.le_of_ble_eq_true rfl⟩ rfl (Nat.le_of_ble_eq_true rfl) dX12_joyOf_80 rfl (fun x11 m10 h => ?_)
    refine r_istore_n (lv2 := [(3, .int (x11)), (2, .int (x2)), (0, .ref (ad (0))), (1, .int (p1))]) X dX12_joyOf_83 rfl (by decide) rfl ?_
    exact r_sub [0] rfl (hJ84 x11 m10 h)
noncomputable def f_X12_passesMinute_J47 (p1 : Int32) (p2 : Int32) (k5 : Int32 → Int32 → Mm → Option (Int32 × Mm)) (x15 : Int32) (x16 : Int32) (m17 : Mm) : Option (Int32 × Mm) :=
  bnd (x16 + (1)) fun x18 => k5 x15 x18 m17
noncomputable def f_X12_passesMinute_J148 (p1 : Int32) (p2 : Int32) (k100 : Int32 → Int32 → Mm → Option (Int32 × Mm)) (x33 : Int32) (x34 : Int32) (m35 : Mm) : Option (Int32 × Mm) :=
  bnd (x34 + (1)) fun x36 => k100 x33 x36 m35
noncomputable def f_X12_passesMinute_J199 (p1 : Int32) (p2 : Int32) (x37 : Int32) (m38 : Mm) : Option (Int32 × Mm) :=
  grd (inb p1 60) (bnd (sI m38 45 p1.toNatClampNeg x37) fun m39 => some (x37, m39))
noncomputable def f_X12_passesMinute_J181 (p1 : Int32) (p2 : Int32) (x28 : Int32) (m29 : Mm) : Option (Int32 × Mm) :=
  if x28 < 0 then (f_X12_passesMinute_J199 p1 p2 x28 m29) else (bdI (f_X12_joyOf x28 m29) fun x31 m30 => bnd (sI m30 0 63 ((gI m29 0 63) + x31)) fun m32 => f_X12_passesMinute_J199 p1 p2 x28 m32)
noncomputable def f_X12_passesMinute_B100 (p1 : Int32) (p2 : Int32) (k100 : Int32 → Int32 → Mm → Option (Int32 × Mm)) (x19 : Int32) (x20 : Int32) (m21 : Mm) : Option (Int32 × Mm) :=
  if (gI m21 2 1) ≤ x20 then (if 0 ≤ x19 then (f_X12_passesMinute_J181 p1 p2 x19 m21) else (bdI (f_X12_isOpenAt p1 m21) fun x23 m22 => if x23 = 0 then (f_X12_passesMinute_J181 p1 p2 x19 m22) else (bdI (f_X12_firstDaring  m22) fun x25 m24 => if x25 < 0 then (f_X12_passesMinute_J181 p1 p2 x25 m24) else (bdV (f_X12_beginsAt x25 p1 m24) fun m26 => f_X12_passesMinute_J181 p1 p2 x25 m26)))) else (grd (inb x20 7) (if ¬ (gI m21 42 x20.toNatClampNeg) = ((1)) then (f_X12_passesMinute_J148 p1 p2 k100 x19 x20 m21) else (grd (inb x20 7) (if (p1 - (gI m21 41 x20.toNatClampNeg)) ≤ (gI m21 2 2) then (f_X12_passesMinute_J148 p1 p2 k100 x19 x20 m21) else (grd (inb x20 7) (bnd (sI m21 42 x20.toNatClampNeg ((3))) fun m27 => f_X12_passesMinute_J148 p1 p2 k100 x19 x20 m27))))))
noncomputable def f_X12_passesMinute_J97 (p1 : Int32) (p2 : Int32) (x9 : Int32) (m10 : Mm) : Option (Int32 × Mm) :=
  lop (fun _ _ _ => none) (f_X12_passesMinute_B100 p1 p2 ) 4000 x9 ((0)) m10
noncomputable def f_X12_passesMinute_J81 (p1 : Int32) (p2 : Int32) (x11 : Int32) (m12 : Mm) : Option (Int32 × Mm) :=
  grd (inb x11 7) (bnd (sI m12 42 x11.toNatClampNeg ((3))) fun m13 => grd (inb x11 7) (bnd (sI m13 44 x11.toNatClampNeg p1) fun m14 => f_X12_passesMinute_J97 p1 p2 ((-1)) m14))
noncomputable def f_X12_passesMinute_B5 (p1 : Int32) (p2 : Int32) (k5 : Int32 → Int32 → Mm → Option (Int32 × Mm)) (x1 : Int32) (x2 : Int32) (m3 : Mm) : Option (Int32 × Mm) :=
  if (gI m3 2 1) ≤ x2 then (if x1 < 0 then (f_X12_passesMinute_J97 p1 p2 x1 m3) else (grd (inb x1 7) (bdI (f_X12_minutesOf x1 m3) fun x5 m4 => if x5 ≤ (p1 - (gI m3 43 x1.toNatClampNeg)) then (f_X12_passesMinute_J81 p1 p2 x1 m4) else (bdI (f_X12_isOpenAt p1 m4) fun x7 m6 => if ¬ x7 = 0 then (f_X12_passesMinute_J97 p1 p2 x1 m6) else (f_X12_passesMinute_J81 p1 p2 x1 m6))))) else (grd (inb x2 7) (if ¬ (gI m3 41 x2.toNatClampNeg) = p1 then (f_X12_passesMinute_J47 p1 p2 k5 x1 x2 m3) else (if ¬ (((gI m3 0 62) >>> (x2 &&& 31)) &&& ((1))) = 0 then (f_X12_passesMinute_J47 p1 p2 k5 x1 x2 m3) else (grd (inb x2 7) (bnd (sI m3 42 x2.toNatClampNeg ((1))) fun m8 => f_X12_passesMinute_J47 p1 p2 k5 x1 x2 m8)))))
noncomputable def f_X12_passesMinute (p1 : Int32) (p2 : Int32) (mem : Mm) : Option (Int32 × Mm) :=
  lop (fun _ _ _ => none) (f_X12_passesMinute_B5 p1 p2 ) 4000 p2 ((0)) mem
theorem dd_X12_passesMinute : yX12_passesMinute.cls = RX12 ∧ yX12_passesMinute.cls ≠ "java/lang/invoke/MethodHandle" ∧ yX12_passesMinute.cls ≠ "java/lang/invoke/VarHandle" ∧ (parseMethodDescriptor yX12_passesMinute.desc).map (fun d => d.parameters.length) = some 2 := by decide +kernel
set_option maxHeartbeats 4000000 in
set_option maxRecDepth 100000 in
theorem k_X12_passesMinute {l : Launch} {ad : Nat → Nat} {cy : Nat → ClassId} {dC : Nat → ClassId} {dI : Nat → Nat → Nat} {ks : (Nat → Nat) × (Nat → Nat)} {p1 : Int32} {p2 : Int32} {mem : Mm} {r2 : Int32} {mem2 : Mm}  (h : f_X12_passesMinute p1 p2 mem = some (r2, mem2)) : CtI l Lm ad cy dC dI ks yX12_passesMinute cX12_passesMinute 5 (some .int) ({ frames := 5, cells := 0, slots := 0, locals := 114 }) [.ref (ad (0)), .int (p1), .int (p2)] mem r2 mem2 := by
  refine CtI.of (cc := cX12_passesMinute) (maxL := 5) (ret := (some .int)) (own := RX12) rfl (by decide) (Nat.le_of_ble_eq_true rfl) ?_
  intro p e s m args below meth c A X
  have hts := X.2.2.2.2.1
  have hJ47 : ∀ (k5 : Int32 → Int32 → Mm → Option (Int32 × Mm)) (hk5 : ∀ (x1 : Int32) (x2 : Int32) (m3 : Mm), k5 x1 x2 m3 = some (r2, mem2) → Jd p l e ({ frames := 5, cells := 0, slots := 0, locals := 114 }) s m args below meth c 5 (MQ below (PsI Lm ad cy dC dI r2 mem2 A) args s 0 0 A) A dC dI cy Lm ad m3 5 [(0, .ref (ad (0))), (1, .int (p1)), (3, .int (x1)), (4, .int (x2))] []) (x15 : Int32) (x16 : Int32) (m17 : Mm), f_X12_passesMinute_J47 p1 p2 k5 x15 x16 m17 = some (r2, mem2) → Jd p l e ({ frames := 5, cells := 0, slots := 0, locals := 114 }) s m args below meth c 5 (MQ below (PsI Lm ad cy dC dI r2 mem2 A) args s 0 0 A) A dC dI cy Lm ad m17 47 [(0, .ref (ad (0))), (1, .int (p1)), (3, .int (x15)), (4, .int (x16))] [] := by
    intro k5 hk5 x15 x16 m17 h
    unfold f_X12_passesMinute_J47 at h
    refine r_inc h (fun x18 e9 h => ?_)
    refine r_iinc (v := x18) (lv2 := [(4, .int (x18)), (0, .ref (ad (0))), (1, .int (p1)), (3, .int (x15))]) X dX12_passesMinute_47 3 rfl (by rw [e9]; rfl) (by decide) rfl ?_
    refine r_goto (tgt := 5) X dX12_passesMinute_50 (by decide) ?_
    exact r_sub [1, 2, 3, 0] rfl (hk5 x15 x18 m17 h)
  have hJ148 : ∀ (k100 : Int32 → Int32 → Mm → Option (Int32 × Mm)) (hk100 : ∀ (x19 : Int32) (x20 : Int32) (m21 : Mm), k100 x19 x20 m21 = some (r2, mem2) → Jd p l e ({ frames := 5, cells := 0, slots := 0, locals := 114 }) s m args below meth c 5 (MQ below (PsI Lm ad cy dC dI r2 mem2 A) args s 0 0 A) A dC dI cy Lm ad m21 100 [(0, .ref (ad (0))), (1, .int (p1)), (3, .int (x19)), (4, .int (x20))] []) (x33 : Int32) (x34 : Int32) (m35 : Mm), f_X12_passesMinute_J148 p1 p2 k100 x33 x34 m35 = some (r2, mem2) → Jd p l e ({ frames := 5, cells := 0, slots := 0, locals := 114 }) s m args below meth c 5 (MQ below (PsI Lm ad cy dC dI r2 mem2 A) args s 0 0 A) A dC dI cy Lm ad m35 148 [(0, .ref (ad (0))), (1, .int (p1)), (3, .int (x33)), (4, .int (x34))] [] := by
    intro k100 hk100 x33 x34 m35 h
    unfold f_X12_passesMinute_J148 at h
    refine r_inc h (fun x36 e9 h => ?_)
    refine r_iinc (v := x36) (lv2 := [(4, .int (x36)), (0, .ref (ad (0))), (1, .int (p1)), (3, .int (x33))]) X dX12_passesMinute_148 3 rfl (by rw [e9]; rfl) (by decide) rfl ?_
    refine r_goto (tgt := 100) X dX12_passesMinute_151 (by decide) ?_
    exact r_sub [1, 2, 3, 0] rfl (hk100 x33 x36 m35 h)
  have hJ199 : ∀ (x37 : Int32) (m38 : Mm), f_X12_passesMinute_J199 p1 p2 x37 m38 = some (r2, mem2) → Jd p l e ({ frames := 5, cells := 0, slots := 0, locals := 114 }) s m args below meth c 5 (MQ below (PsI Lm ad cy dC dI r2 mem2 A) args s 0 0 A) A dC dI cy Lm ad m38 199 [(0, .ref (ad (0))), (1, .int (p1)), (3, .int (x37))] [] := by
    intro x37 m38 h
    unfold f_X12_passesMinute_J199 at h
    refine r_aload_n X dX12_passesMinute_199 rfl 0 rfl ?_
    refine r_getF X (k := 60) (of := 45) rfl (Lm_N Lmk_0 rfl) Lmk_0 rfl (by decide) ui_12 (by decide) uw6_40 rfl dX12_passesMinute_200 ?_
    refine r_iload_n X dX12_passesMinute_203 rfl 1 rfl ?_
    refine r_iload_n X dX12_passesMinute_204 rfl 2 rfl ?_
    refine r_iast X (Lm_N Lmk_45 rfl) Lmk_45 h dX12_passesMinute_205 (fun h => ?_)
    refine r_nmM h (fun m39 h => ?_)
    refine r_iload_n X dX12_passesMinute_206 rfl 2 rfl ?_
    exact r_iret2 X rfl dX12_passesMinute_207 h
  have hJ181 : ∀ (x28 : Int32) (m29 : Mm), f_X12_passesMinute_J181 p1 p2 x28 m29 = some (r2, mem2) → Jd p l e ({ frames := 5, cells := 0, slots := 0, locals := 114 }) s m args below meth c 5 (MQ below (PsI Lm ad cy dC dI r2 mem2 A) args s 0 0 A) A dC dI cy Lm ad m29 181 [(0, .ref (ad (0))), (1, .int (p1)), (3, .int (x28))] [] := by
    intro x28 m29 h
    unfold f_X12_passesMinute_J181 at h
    refine r_iload_n X dX12_passesMinute_181 rfl 2 rfl ?_
    refine r_if_lt (tgt := 199) X dX12_passesMinute_182 (by decide) h (fun h => ?_) (fun h => ?_)
    · exact r_sub [0, 1, 2] rfl (hJ199 x28 m29 h)
    · refine r_aload_n X dX12_passesMinute_185 rfl 0 rfl ?_
      refine r_dup X dX12_passesMinute_186 rfl ?_
      refine r_getI X (k := 63) (Lm_N Lmk_0 rfl) Lmk_0 rfl (by decide) ui_12 (by decide) uw6_43 rfl dX12_passesMinute_187 ?_
      refine r_aload_n X dX12_passesMinute_190 rfl 0 rfl ?_
      refine r_iload_n X dX12_passesMinute_191 rfl 2 rfl ?_
      refine r_cVI (As := [.int (x28)]) (rest := [.int (gI m29 0 63), .ref (ad (0))]) X (fun r9 m9 hg => k_X12_joyOf hg) h (Lm_N Lmk_0 rfl) Lmk_0 rfl (by decide) uw7_212 uw7_214 us6_14 uw1_13 uw7_215 rfl rfl dd_X12_joyOf ⟨Nat.le_of_ble_eq_true rfl, Nat.le_of_ble_eq_true rfl⟩ rfl (Nat.le_of_ble_eq_true rfl) dX12_passesMinute_192 rfl (fun x31 m30 h => ?_)
      refine r_iadd X dX12_passesMinute_195 ?_
      refine r_putI X (k := 63) (Lm_N Lmk_0 rfl) Lmk_0 rfl (by decide) ui_12 (by decide) uw6_43 tyX12_ok nmX12 rfl rfl rfl dX12_passesMinute_196 ?_
      refine r_nmM h (fun m32 h => ?_)
      exact r_sub [0, 1, 2] rfl (hJ199 x28 m32 h)
  have hJ100 : ∀ (k100 : Int32 → Int32 → Mm → Option (Int32 × Mm)) (hk100 : ∀ (x19 : Int32) (x20 : Int32) (m21 : Mm), k100 x19 x20 m21 = some (r2, mem2) → Jd p l e ({ frames := 5, cells := 0, slots := 0, locals := 114 }) s m args below meth c 5 (MQ below (PsI Lm ad cy dC dI r2 mem2 A) args s 0 0 A) A dC dI cy Lm ad m21 100 [(0, .ref (ad (0))), (1, .int (p1)), (3, .int (x19)), (4, .int (x20))] []) (x19 : Int32) (x20 : Int32) (m21 : Mm), f_X12_passesMinute_B100 p1 p2 k100 x19 x20 m21 = some (r2, mem2) → Jd p l e ({ frames := 5, cells := 0, slots := 0, locals := 114 }) s m args below meth c 5 (MQ below (PsI Lm ad cy dC dI r2 mem2 A) args s 0 0 A) A dC dI cy Lm ad m21 100 [(0, .ref (ad (0))), (1, .int (p1)), (3, .int (x19)), (4, .int (x20))] [] := by
    intro k100 hk100 x19 x20 m21 h
    unfold f_X12_passesMinute_B100 at h
    refine r_iload X dX12_passesMinute_100 3 rfl ?_
    refine r_aload_n X dX12_passesMinute_102 rfl 0 rfl ?_
    refine r_getF X (k := 10) (of := 2) rfl (Lm_N Lmk_0 rfl) Lmk_0 rfl (by decide) ui_12 (by decide) uw5_230 rfl dX12_passesMinute_103 ?_
    refine r_iconst (v := (1)) X dX12_passesMinute_106 (by decide) ?_
    refine r_iald X (Lm_N Lmk_2 rfl) Lmk_2 (g_in rfl h) dX12_passesMinute_107 (fun h => ?_)
    refine r_icmp_ge (tgt := 154) X dX12_passesMinute_108 (by decide) h (fun h => ?_) (fun h => ?_)
    · refine r_iload_n X dX12_passesMinute_154 rfl 2 rfl ?_
      refine r_if_ge (tgt := 181) X dX12_passesMinute_155 (by decide) h (fun h => ?_) (fun h => ?_)
      · exact r_sub [0, 1, 2] rfl (hJ181 x19 m21 h)
      · refine r_aload_n X dX12_passesMinute_158 rfl 0 rfl ?_
        refine r_iload_n X dX12_passesMinute_159 rfl 1 rfl ?_
        refine r_cVI (As := [.int (p1)]) (rest := []) X (fun r9 m9 hg => k_X12_isOpenAt hg) h (Lm_N Lmk_0 rfl) Lmk_0 rfl (by decide) uw7_157 uw7_159 us6_1 uw1_13 uw7_160 rfl rfl dd_X12_isOpenAt ⟨Nat.le_of_ble_eq_true rfl, Nat.le_of_ble_eq_true rfl⟩ rfl (Nat.le_of_ble_eq_true rfl) dX12_passesMinute_160 rfl (fun x23 m22 h => ?_)
        refine r_if_eq (tgt := 181) X dX12_passesMinute_163 (by decide) h (fun h => ?_) (fun h => ?_)
        · exact r_sub [0, 1, 2] rfl (hJ181 x19 m22 h)
        · refine r_aload_n X dX12_passesMinute_166 rfl 0 rfl ?_
          refine r_cVI (As := []) (rest := []) X (fun r9 m9 hg => k_X12_firstDaring hg) h (Lm_N Lmk_0 rfl) Lmk_0 rfl (by decide) uw7_161 uw7_163 us6_2 uw1_13 uw7_164 rfl rfl dd_X12_firstDaring ⟨Nat.le_of_ble_eq_true rfl, Nat.le_of_ble_eq_true rfl⟩ rfl (Nat.le_of_ble_eq_true rfl) dX12_passesMinute_167 rfl (fun x25 m24 h => ?_)
          refine r_istore_n (lv2 := [(3, .int (x25)), (0, .ref (ad (0))), (1, .int (p1)), (4, .int (x20))]) X dX12_passesMinute_170 rfl (by decide) rfl ?_
          refine r_iload_n X dX12_passesMinute_171 rfl 0 rfl ?_
          refine r_if_lt (tgt := 181) X dX12_passesMinute_172 (by decide) h (fun h => ?_) (fun h => ?_)
          · exact r_sub [1, 2, 0] rfl (hJ181 x25 m24 h)
          · refine r_aload_n X dX12_passesMinute_175 rfl 1 rfl ?_
            refine r_iload_n X dX12_passesMinute_176 rfl 0 rfl ?_
            refine r_iload_n X dX12_passesMinute_177 rfl 2 rfl ?_
            refine r_cVV (As := [.int (x25), .int (p1)]) (rest := []) X (fun m9 hg => k_X12_beginsAt hg) h (Lm_N Lmk_0 rfl) Lmk_0 rfl (by decide) uw7_173 uw7_175 us6_5 uw1_13 uw7_176 rfl rfl dd_X12_beginsAt ⟨Nat.le_of_ble_eq_true rfl, Nat.le_of_ble_eq_true rfl⟩ rfl (Nat.le_of_ble_eq_true rfl) dX12_passesMinute_178 rfl (fun m26 h => ?_)
            exact r_sub [1, 2, 0] rfl (hJ181 x25 m26 h)
    · refine r_aload_n X dX12_passesMinute_111 rfl 0 rfl ?_
      refine r_getF X (k := 57) (of := 42) rfl (Lm_N Lmk_0 rfl) Lmk_0 rfl (by decide) ui_12 (by decide) uw6_37 rfl dX12_passesMinute_112 ?_
      refine r_iload X dX12_passesMinute_115 3 rfl ?_
      refine r_iald X (Lm_N Lmk_42 rfl) Lmk_42 h dX12_passesMinute_117 (fun h => ?_)
      refine r_iconst (v := (1)) X dX12_passesMinute_118 (by decide) ?_
      refine r_icmp_ne (tgt := 148) X dX12_passesMinute_119 (by decide) h (fun h => ?_) (fun h => ?_)
      · exact r_sub [0, 1, 2, 3] rfl (hJ148 k100 hk100 x19 x20 m21 h)
      · refine r_iload_n X dX12_passesMinute_122 rfl 1 rfl ?_
        refine r_aload_n X dX12_passesMinute_123 rfl 0 rfl ?_
        refine r_getF X (k := 56) (of := 41) rfl (Lm_N Lmk_0 rfl) Lmk_0 rfl (by decide) ui_12 (by decide) uw6_36 rfl dX12_passesMinute_124 ?_
        refine r_iload X dX12_passesMinute_127 3 rfl ?_
        refine r_iald X (Lm_N Lmk_41 rfl) Lmk_41 h dX12_passesMinute_129 (fun h => ?_)
        refine r_isub X dX12_passesMinute_130 ?_
        refine r_aload_n X dX12_passesMinute_131 rfl 0 rfl ?_
        refine r_getF X (k := 10) (of := 2) rfl (Lm_N Lmk_0 rfl) Lmk_0 rfl (by decide) ui_12 (by decide) uw5_230 rfl dX12_passesMinute_132 ?_
        refine r_iconst (v := (2)) X dX12_passesMinute_135 (by decide) ?_
        refine r_iald X (Lm_N Lmk_2 rfl) Lmk_2 (g_in rfl h) dX12_passesMinute_136 (fun h => ?_)
        refine r_icmp_le (tgt := 148) X dX12_passesMinute_137 (by decide) h (fun h => ?_) (fun h => ?_)
        · exact r_sub [0, 1, 2, 3] rfl (hJ148 k100 hk100 x19 x20 m21 h)
        · refine r_aload_n X dX12_passesMinute_140 rfl 0 rfl ?_
          refine r_getF X (k := 57) (of := 42) rfl (Lm_N Lmk_0 rfl) Lmk_0 rfl (by decide) ui_12 (by decide) uw6_37 rfl dX12_passesMinute_141 ?_
          refine r_iload X dX12_passesMinute_144 3 rfl ?_
          refine r_iconst (v := (3)) X dX12_passesMinute_146 (by decide) ?_
          refine r_iast X (Lm_N Lmk_42 rfl) Lmk_42 h dX12_passesMinute_147 (fun h => ?_)
          refine r_nmM h (fun m27 h => ?_)
          exact r_sub [0, 1, 2, 3] rfl (hJ148 k100 hk100 x19 x20 m27 h)
  have hL100 : ∀ (n : Nat), ∀ (x19 : Int32) (x20 : Int32) (m21 : Mm), lop (fun _ _ _ => none) (f_X12_passesMinute_B100 p1 p2 ) n x19 x20 m21 = some (r2, mem2) → Jd p l e ({ frames := 5, cells := 0, slots := 0, locals := 114 }) s m args below meth c 5 (MQ below (PsI Lm ad cy dC dI r2 mem2 A) args s 0 0 A) A dC dI cy Lm ad m21 100 [(0, .ref (ad (0))), (1, .int (p1)), (3, .int (x19)), (4, .int (x20))] [] := by
    intro  n
    induction n with
    | zero => intro _ _ _ h; cases h
    | succ n ih => intro a0 a1 a2 h; exact hJ100  _ ih a0 a1 a2 h
  have hJ97 : ∀ (x9 : Int32) (m10 : Mm), f_X12_passesMinute_J97 p1 p2 x9 m10 = some (r2, mem2) → Jd p l e ({ frames := 5, cells := 0, slots := 0, locals := 114 }) s m args below meth c 5 (MQ below (PsI Lm ad cy dC dI r2 mem2 A) args s 0 0 A) A dC dI cy Lm ad m10 97 [(0, .ref (ad (0))), (1, .int (p1)), (3, .int (x9))] [] := by
    intro x9 m10 h
    unfold f_X12_passesMinute_J97 at h
    refine r_iconst (v := (0)) X dX12_passesMinute_97 (by decide) ?_
    refine r_istore (lv2 := [(4, .int ((0))), (0, .ref (ad (0))), (1, .int (p1)), (3, .int (x9))]) X dX12_passesMinute_98 (by decide) rfl ?_
    exact r_sub [1, 2, 3, 0] rfl (hL100 4000 x9 ((0)) m10 h)
  have hJ81 : ∀ (x11 : Int32) (m12 : Mm), f_X12_passesMinute_J81 p1 p2 x11 m12 = some (r2, mem2) → Jd p l e ({ frames := 5, cells := 0, slots := 0, locals := 114 }) s m args below meth c 5 (MQ below (PsI Lm ad cy dC dI r2 mem2 A) args s 0 0 A) A dC dI cy Lm ad m12 81 [(0, .ref (ad (0))), (1, .int (p1)), (3, .int (x11))] [] := by
    intro x11 m12 h
    unfold f_X12_passesMinute_J81 at h
    refine r_aload_n X dX12_passesMinute_81 rfl 0 rfl ?_
    refine r_getF X (k := 57) (of := 42) rfl (Lm_N Lmk_0 rfl) Lmk_0 rfl (by decide) ui_12 (by decide) uw6_37 rfl dX12_passesMinute_82 ?_
    refine r_iload_n X dX12_passesMinute_85 rfl 2 rfl ?_
    refine r_iconst (v := (3)) X dX12_passesMinute_86 (by decide) ?_
    refine r_iast X (Lm_N Lmk_42 rfl) Lmk_42 h dX12_passesMinute_87 (fun h => ?_)
    refine r_nmM h (fun m13 h => ?_)
    refine r_aload_n X dX12_passesMinute_88 rfl 0 rfl ?_
    refine r_getF X (k := 59) (of := 44) rfl (Lm_N Lmk_0 rfl) Lmk_0 rfl (by decide) ui_12 (by decide) uw6_39 rfl dX12_passesMinute_89 ?_
    refine r_iload_n X dX12_passesMinute_92 rfl 2 rfl ?_
    refine r_iload_n X dX12_passesMinute_93 rfl 1 rfl ?_
    refine r_iast X (Lm_N Lmk_44 rfl) Lmk_44 h dX12_passesMinute_94 (fun h => ?_)
    refine r_nmM h (fun m14 h => ?_)
    refine r_iconst (v := (-1)) X dX12_passesMinute_95 (by decide) ?_
    refine r_istore_n (lv2 := [(3, .int ((-1))), (0, .ref (ad (0))), (1, .int (p1))]) X dX12_passesMinute_96 rfl (by decide) rfl ?_
    exact r_sub [1, 2, 0] rfl (hJ97 ((-1)) m14 h)
  have hJ5 : ∀ (k5 : Int32 → Int32 → Mm → Option (Int32 × Mm)) (hk5 : ∀ (x1 : Int32) (x2 : Int32) (m3 : Mm), k5 x1 x2 m3 = some (r2, mem2) → Jd p l e ({ frames := 5, cells := 0, slots := 0, locals := 114 }) s m args below meth c 5 (MQ below (PsI Lm ad cy dC dI r2 mem2 A) args s 0 0 A) A dC dI cy Lm ad m3 5 [(0, .ref (ad (0))), (1, .int (p1)), (3, .int (x1)), (4, .int (x2))] []) (x1 : Int32) (x2 : Int32) (m3 : Mm), f_X12_passesMinute_B5 p1 p2 k5 x1 x2 m3 = some (r2, mem2) → Jd p l e ({ frames := 5, cells := 0, slots := 0, locals := 114 }) s m args below meth c 5 (MQ below (PsI Lm ad cy dC dI r2 mem2 A) args s 0 0 A) A dC dI cy Lm ad m3 5 [(0, .ref (ad (0))), (1, .int (p1)), (3, .int (x1)), (4, .int (x2))] [] := by
    intro k5 hk5 x1 x2 m3 h
    unfold f_X12_passesMinute_B5 at h
    refine r_iload X dX12_passesMinute_5 3 rfl ?_
    refine r_aload_n X dX12_passesMinute_7 rfl 0 rfl ?_
    refine r_getF X (k := 10) (of := 2) rfl (Lm_N Lmk_0 rfl) Lmk_0 rfl (by decide) ui_12 (by decide) uw5_230 rfl dX12_passesMinute_8 ?_
    refine r_iconst (v := (1)) X dX12_passesMinute_11 (by decide) ?_
    refine r_iald X (Lm_N Lmk_2 rfl) Lmk_2 (g_in rfl h) dX12_passesMinute_12 (fun h => ?_)
    refine r_icmp_ge (tgt := 53) X dX12_passesMinute_13 (by decide) h (fun h => ?_) (fun h => ?_)
    · refine r_iload_n X dX12_passesMinute_53 rfl 2 rfl ?_
      refine r_if_lt (tgt := 97) X dX12_passesMinute_54 (by decide) h (fun h => ?_) (fun h => ?_)
      · exact r_sub [0, 1, 2] rfl (hJ97 x1 m3 h)
      · refine r_iload_n X dX12_passesMinute_57 rfl 1 rfl ?_
        refine r_aload_n X dX12_passesMinute_58 rfl 0 rfl ?_
        refine r_getF X (k := 58) (of := 43) rfl (Lm_N Lmk_0 rfl) Lmk_0 rfl (by decide) ui_12 (by decide) uw6_38 rfl dX12_passesMinute_59 ?_
        refine r_iload_n X dX12_passesMinute_62 rfl 2 rfl ?_
        refine r_iald X (Lm_N Lmk_43 rfl) Lmk_43 h dX12_passesMinute_63 (fun h => ?_)
        refine r_isub X dX12_passesMinute_64 ?_
        refine r_aload_n X dX12_passesMinute_65 rfl 0 rfl ?_
        refine r_iload_n X dX12_passesMinute_66 rfl 2 rfl ?_
        refine r_cVI (As := [.int (x1)]) (rest := [.int (p1 - (gI m3 43 x1.toNatClampNeg))]) X (fun r9 m9 hg => k_X12_minutesOf hg) h (Lm_N Lmk_0 rfl) Lmk_0 rfl (by decide) uw7_117 uw7_119 us5_11 uw1_13 uw7_120 rfl rfl dd_X12_minutesOf ⟨Nat.le_of_ble_eq_true rfl, Nat.le_of_ble_eq_true rfl⟩ rfl (Nat.le_of_ble_eq_true rfl) dX12_passesMinute_67 rfl (fun x5 m4 h => ?_)
        refine r_icmp_ge (tgt := 81) X dX12_passesMinute_70 (by decide) h (fun h => ?_) (fun h => ?_)
        · exact r_sub [0, 1, 2] rfl (hJ81 x1 m4 h)
        · refine r_aload_n X dX12_passesMinute_73 rfl 0 rfl ?_
          refine r_iload_n X dX12_passesMinute_74 rfl 1 rfl ?_
          refine r_cVI (As := [.int (p1)]) (rest := []) X (fun r9 m9 hg => k_X12_isOpenAt hg) h (Lm_N Lmk_0 rfl) Lmk_0 rfl (by decide) uw7_157 uw7_159 us6_1 uw1_13 uw7_160 rfl rfl dd_X12_isOpenAt ⟨Nat.le_of_ble_eq_true rfl, Nat.le_of_ble_eq_true rfl⟩ rfl (Nat.le_of_ble_eq_true rfl) dX12_passesMinute_75 rfl (fun x7 m6 h => ?_)
          refine r_if_ne (tgt := 97) X dX12_passesMinute_78 (by decide) h (fun h => ?_) (fun h => ?_)
          · exact r_sub [0, 1, 2] rfl (hJ97 x1 m6 h)
          · exact r_sub [0, 1, 2] rfl (hJ81 x1 m6 h)
    · refine r_aload_n X dX12_passesMinute_16 rfl 0 rfl ?_
      refine r_getF X (k := 56) (of := 41) rfl (Lm_N Lmk_0 rfl) Lmk_0 rfl (by decide) ui_12 (by decide) uw6_36 rfl dX12_passesMinute_17 ?_
      refine r_iload X dX12_passesMinute_20 3 rfl ?_
      refine r_iald X (Lm_N Lmk_41 rfl) Lmk_41 h dX12_passesMinute_22 (fun h => ?_)
      refine r_iload_n X dX12_passesMinute_23 rfl 1 rfl ?_
      refine r_icmp_ne (tgt := 47) X dX12_passesMinute_24 (by decide) h (fun h => ?_) (fun h => ?_)
      · exact r_sub [0, 1, 2, 3] rfl (hJ47 k5 hk5 x1 x2 m3 h)
      · refine r_aload_n X dX12_passesMinute_27 rfl 0 rfl ?_
        refine r_getI X (k := 62) (Lm_N Lmk_0 rfl) Lmk_0 rfl (by decide) ui_12 (by decide) uw6_42 rfl dX12_passesMinute_28 ?_
        refine r_iload X dX12_passesMinute_31 3 rfl ?_
        refine r_ishr X dX12_passesMinute_33 ?_
        refine r_iconst (v := (1)) X dX12_passesMinute_34 (by decide) ?_
        refine r_iand X dX12_passesMinute_35 ?_
        refine r_if_ne (tgt := 47) X dX12_passesMinute_36 (by decide) h (fun h => ?_) (fun h => ?_)
        · exact r_sub [0, 1, 2, 3] rfl (hJ47 k5 hk5 x1 x2 m3 h)
        · refine r_aload_n X dX12_passesMinute_39 rfl 0 rfl ?_
          refine r_getF X (k := 57) (of := 42) rfl (Lm_N Lmk_0 rfl) Lmk_0 rfl (by decide) ui_12 (by decide) uw6_37 rfl dX12_passesMinute_40 ?_
          refine r_iload X dX12_passesMinute_43 3 rfl ?_
          refine r_iconst (v := (1)) X dX12_passesMinute_45 (by decide) ?_
          refine r_iast X (Lm_N Lmk_42 rfl) Lmk_42 h dX12_passesMinute_46 (fun h => ?_)
          refine r_nmM h (fun m8 h => ?_)
          exact r_sub [0, 1, 2, 3] rfl (hJ47 k5 hk5 x1 x2 m8 h)
  have hL5 : ∀ (n : Nat), ∀ (x1 : Int32) (x2 : Int32) (m3 : Mm), lop (fun _ _ _ => none) (f_X12_passesMinute_B5 p1 p2 ) n x1 x2 m3 = some (r2, mem2) → Jd p l e ({ frames := 5, cells := 0, slots := 0, locals := 114 }) s m args below meth c 5 (MQ below (PsI Lm ad cy dC dI r2 mem2 A) args s 0 0 A) A dC dI cy Lm ad m3 5 [(0, .ref (ad (0))), (1, .int (p1)), (3, .int (x1)), (4, .int (x2))] [] := by
    intro  n
    induction n with
    | zero => intro _ _ _ h; cases h
    | succ n ih => intro a0 a1 a2 h; exact hJ5  _ ih a0 a1 a2 h
  unfold f_X12_passesMinute at h
  refine r_iload_n X dX12_passesMinute_0 rfl 2 rfl ?_
  refine r_istore_n (lv2 := [(3, .int (p2)), (0, .ref (ad (0))), (1, .int (p1)), (2, .int (p2))]) X dX12_passesMinute_1 rfl (by decide) rfl ?_
  refine r_iconst (v := (0)) X dX12_passesMinute_2 (by decide) ?_
  refine r_istore (lv2 := [(4, .int ((0))), (3, .int (p2)), (0, .ref (ad (0))), (1, .int (p1)), (2, .int (p2))]) X dX12_passesMinute_3 (by decide) rfl ?_
  exact r_sub [2, 3, 1, 0] rfl (hL5 4000 p2 ((0)) mem h)
