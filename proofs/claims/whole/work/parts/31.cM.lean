noncomputable def f_X12_mark_J59 (p1 : Int32) (p2 : Int32) (x8 : Int32) (x9 : Int32) (m10 : Mm) : Option (Int32 × Mm) :=
  bdV (f_X12_laysLines x8 x9 m10) fun m11 => bdV (f_X12_laysFound x8 x9 m11) fun m12 => if p2 = 0 then (bdV (f_X12_copies 35 ((0)) 38 (((17)) * p1) m12) fun m13 => grd (bok ((1))) (some ((1), m13))) else (bdV (f_X12_copies 38 (((17)) * p1) 35 ((0)) m12) fun m14 => bnd (sI m14 0 55 ((0))) fun m15 => grd (bok ((1))) (some ((1), m15)))
noncomputable def f_X12_mark_J47 (p1 : Int32) (p2 : Int32) (x6 : Int32) (m7 : Mm) : Option (Int32 × Mm) :=
  if p2 = 0 then (f_X12_mark_J59 p1 p2 x6 (((1)) + p1) m7) else (f_X12_mark_J59 p1 p2 x6 ((0)) m7)
noncomputable def f_X12_mark_J29 (p1 : Int32) (p2 : Int32) (m4 : Mm) : Option (Int32 × Mm) :=
  grd (inb p1 4) (bnd (sI m4 40 p1.toNatClampNeg (vp_nar .boolean ((1)))) fun m5 => if p2 = 0 then (f_X12_mark_J47 p1 p2 ((0)) m5) else (f_X12_mark_J47 p1 p2 (((1)) + p1) m5))
noncomputable def f_X12_mark (p1 : Int32) (p2 : Int32) (mem : Mm) : Option (Int32 × Mm) :=
  bnd (sI mem 0 0 ((0))) fun m1 => bdI (f_X12_within p1 ((0)) ((3)) m1) fun x3 m2 => if x3 = 0 then (grd (bok ((0))) (some ((0), m2))) else (if p2 = 0 then (f_X12_mark_J29 p1 p2 m2) else (grd (inb p1 4) (if ¬ (gI m2 40 p1.toNatClampNeg) = 0 then (f_X12_mark_J29 p1 p2 m2) else (grd (bok ((0))) (some ((0), m2))))))
theorem dd_X12_mark : yX12_mark.cls = RX12 ∧ yX12_mark.cls ≠ "java/lang/invoke/MethodHandle" ∧ yX12_mark.cls ≠ "java/lang/invoke/VarHandle" ∧ (parseMethodDescriptor yX12_mark.desc).map (fun d => d.parameters.length) = some 2 := by decide +kernel
set_option maxHeartbeats 4000000 in
set_option maxRecDepth 100000 in
theorem k_X12_mark {l : Launch} {ad : Nat → Nat} {cy : Nat → ClassId} {dC : Nat → ClassId} {dI : Nat → Nat → Nat} {ks : (Nat → Nat) × (Nat → Nat)} {p1 : Int32} {p2 : Int32} {mem : Mm} {r2 : Int32} {mem2 : Mm}  (h : f_X12_mark p1 p2 mem = some (r2, mem2)) : CtI l Lm ad cy dC dI ks yX12_mark cX12_mark 5 (some .boolean) ({ frames := 1, cells := 0, slots := 0, locals := 24 }) [.ref (ad (0)), .int (p1), .int (p2)] mem r2 mem2 := by
  refine CtI.of (cc := cX12_mark) (maxL := 5) (ret := (some .boolean)) (own := RX12) rfl (by decide) (Nat.le_of_ble_eq_true rfl) ?_
  intro p e s m args below meth c A X
  have hts := X.2.2.2.2.1
  have hJ59 : ∀ (x8 : Int32) (x9 : Int32) (m10 : Mm), f_X12_mark_J59 p1 p2 x8 x9 m10 = some (r2, mem2) → Jd p l e ({ frames := 1, cells := 0, slots := 0, locals := 24 }) s m args below meth c 5 (MQ below (PsI Lm ad cy dC dI r2 mem2 A) args s 0 0 A) A dC dI cy Lm ad m10 59 [(0, .ref (ad (0))), (1, .int (p1)), (2, .int (p2)), (3, .int (x8))] [.int (x9)] := by
    intro x8 x9 m10 h
    unfold f_X12_mark_J59 at h
    refine r_istore (lv2 := [(4, .int (x9)), (0, .ref (ad (0))), (1, .int (p1)), (2, .int (p2)), (3, .int (x8))]) X dX12_mark_59 (by decide) rfl ?_
    refine r_aload_n X dX12_mark_61 rfl 1 rfl ?_
    refine r_iload_n X dX12_mark_62 rfl 4 rfl ?_
    refine r_iload X dX12_mark_63 0 rfl ?_
    refine r_cVV (As := [.int (x8), .int (x9)]) (rest := []) X (fun m9 hg => k_X12_laysLines hg) h (Lm_N Lmk_0 rfl) Lmk_0 rfl (by decide) uw7_105 uw7_107 us5_9 uw1_13 uw7_108 rfl rfl dd_X12_laysLines ⟨Nat.le_of_ble_eq_true rfl, Nat.le_of_ble_eq_true rfl⟩ rfl (Nat.le_of_ble_eq_true rfl) dX12_mark_65 rfl (fun m11 h => ?_)
    refine r_aload_n X dX12_mark_68 rfl 1 rfl ?_
    refine r_iload_n X dX12_mark_69 rfl 4 rfl ?_
    refine r_iload X dX12_mark_70 0 rfl ?_
    refine r_cVV (As := [.int (x8), .int (x9)]) (rest := []) X (fun m9 hg => k_X12_laysFound hg) h (Lm_N Lmk_0 rfl) Lmk_0 rfl (by decide) uw8_148 uw8_150 us7_13 uw1_13 uw8_151 rfl rfl dd_X12_laysFound ⟨Nat.le_of_ble_eq_true rfl, Nat.le_of_ble_eq_true rfl⟩ rfl (Nat.le_of_ble_eq_true rfl) dX12_mark_72 rfl (fun m12 h => ?_)
    refine r_iload_n X dX12_mark_75 rfl 3 rfl ?_
    refine r_if_eq (tgt := 103) X dX12_mark_76 (by decide) h (fun h => ?_) (fun h => ?_)
    · refine r_aload_n X dX12_mark_103 rfl 1 rfl ?_
      refine r_getF X (k := 49) (of := 35) rfl (Lm_N Lmk_0 rfl) Lmk_0 rfl (by decide) ui_12 (by decide) uw6_29 rfl dX12_mark_104 ?_
      refine r_iconst (v := (0)) X dX12_mark_107 (by decide) ?_
      refine r_aload_n X dX12_mark_108 rfl 1 rfl ?_
      refine r_getF X (k := 52) (of := 38) rfl (Lm_N Lmk_0 rfl) Lmk_0 rfl (by decide) ui_12 (by decide) uw6_32 rfl dX12_mark_109 ?_
      refine r_bipush (v := (17)) X dX12_mark_112 (by decide) ?_
      refine r_iload_n X dX12_mark_114 rfl 2 rfl ?_
      refine r_imul X dX12_mark_115 ?_
      refine r_cSV (As := [.ref (ad (35)), .int ((0)), .ref (ad (38)), .int (((17)) * p1)]) (rest := []) X (fun m9 hg => k_X12_copies Lmk_35 Lmk_38 hg) h uw7_142 uw7_143 uw1_13 uw7_144 rfl rfl dd_X12_copies ⟨Nat.le_of_ble_eq_true rfl, Nat.le_of_ble_eq_true rfl⟩ rfl (Nat.le_of_ble_eq_true rfl) dX12_mark_116 rfl (fun m13 h => ?_)
      refine r_iconst (v := (1)) X dX12_mark_119 (by decide) ?_
      exact r_zret2 X rfl dX12_mark_120 h
    · refine r_aload_n X dX12_mark_79 rfl 1 rfl ?_
      refine r_getF X (k := 52) (of := 38) rfl (Lm_N Lmk_0 rfl) Lmk_0 rfl (by decide) ui_12 (by decide) uw6_32 rfl dX12_mark_80 ?_
      refine r_bipush (v := (17)) X dX12_mark_83 (by decide) ?_
      refine r_iload_n X dX12_mark_85 rfl 2 rfl ?_
      refine r_imul X dX12_mark_86 ?_
      refine r_aload_n X dX12_mark_87 rfl 1 rfl ?_
      refine r_getF X (k := 49) (of := 35) rfl (Lm_N Lmk_0 rfl) Lmk_0 rfl (by decide) ui_12 (by decide) uw6_29 rfl dX12_mark_88 ?_
      refine r_iconst (v := (0)) X dX12_mark_91 (by decide) ?_
      refine r_cSV (As := [.ref (ad (38)), .int (((17)) * p1), .ref (ad (35)), .int ((0))]) (rest := []) X (fun m9 hg => k_X12_copies Lmk_38 Lmk_35 hg) h uw7_142 uw7_143 uw1_13 uw7_144 rfl rfl dd_X12_copies ⟨Nat.le_of_ble_eq_true rfl, Nat.le_of_ble_eq_true rfl⟩ rfl (Nat.le_of_ble_eq_true rfl) dX12_mark_92 rfl (fun m14 h => ?_)
      refine r_aload_n X dX12_mark_95 rfl 1 rfl ?_
      refine r_iconst (v := (0)) X dX12_mark_96 (by decide) ?_
      refine r_putI X (k := 55) (Lm_N Lmk_0 rfl) Lmk_0 rfl (by decide) ui_12 (by decide) uw6_35 tyX12_ok nmX12 rfl rfl rfl dX12_mark_97 ?_
      refine r_nmM h (fun m15 h => ?_)
      refine r_goto (tgt := 119) X dX12_mark_100 (by decide) ?_
      refine r_iconst (v := (1)) X dX12_mark_119 (by decide) ?_
      exact r_zret2 X rfl dX12_mark_120 h
  have hJ47 : ∀ (x6 : Int32) (m7 : Mm), f_X12_mark_J47 p1 p2 x6 m7 = some (r2, mem2) → Jd p l e ({ frames := 1, cells := 0, slots := 0, locals := 24 }) s m args below meth c 5 (MQ below (PsI Lm ad cy dC dI r2 mem2 A) args s 0 0 A) A dC dI cy Lm ad m7 47 [(0, .ref (ad (0))), (1, .int (p1)), (2, .int (p2))] [.int (x6)] := by
    intro x6 m7 h
    unfold f_X12_mark_J47 at h
    refine r_istore_n (lv2 := [(3, .int (x6)), (0, .ref (ad (0))), (1, .int (p1)), (2, .int (p2))]) X dX12_mark_47 rfl (by decide) rfl ?_
    refine r_iload_n X dX12_mark_48 rfl 3 rfl ?_
    refine r_if_eq (tgt := 56) X dX12_mark_49 (by decide) h (fun h => ?_) (fun h => ?_)
    · refine r_iconst (v := (1)) X dX12_mark_56 (by decide) ?_
      refine r_iload_n X dX12_mark_57 rfl 2 rfl ?_
      refine r_iadd X dX12_mark_58 ?_
      exact r_sub [1, 2, 3, 0] rfl (hJ59 x6 (((1)) + p1) m7 h)
    · refine r_iconst (v := (0)) X dX12_mark_52 (by decide) ?_
      refine r_goto (tgt := 59) X dX12_mark_53 (by decide) ?_
      exact r_sub [1, 2, 3, 0] rfl (hJ59 x6 ((0)) m7 h)
  have hJ29 : ∀ (m4 : Mm), f_X12_mark_J29 p1 p2 m4 = some (r2, mem2) → Jd p l e ({ frames := 1, cells := 0, slots := 0, locals := 24 }) s m args below meth c 5 (MQ below (PsI Lm ad cy dC dI r2 mem2 A) args s 0 0 A) A dC dI cy Lm ad m4 29 [(0, .ref (ad (0))), (1, .int (p1)), (2, .int (p2))] [] := by
    intro m4 h
    unfold f_X12_mark_J29 at h
    refine r_aload_n X dX12_mark_29 rfl 0 rfl ?_
    refine r_getF X (k := 54) (of := 40) rfl (Lm_N Lmk_0 rfl) Lmk_0 rfl (by decide) ui_12 (by decide) uw6_34 rfl dX12_mark_30 ?_
    refine r_iload_n X dX12_mark_33 rfl 1 rfl ?_
    refine r_iconst (v := (1)) X dX12_mark_34 (by decide) ?_
    refine r_zast X (Lm_N Lmk_40 rfl) Lmk_40 h dX12_mark_35 (fun h => ?_)
    refine r_nmM h (fun m5 h => ?_)
    refine r_iload_n X dX12_mark_36 rfl 2 rfl ?_
    refine r_if_eq (tgt := 46) X dX12_mark_37 (by decide) h (fun h => ?_) (fun h => ?_)
    · refine r_iconst (v := (0)) X dX12_mark_46 (by decide) ?_
      exact r_sub [0, 1, 2] rfl (hJ47 ((0)) m5 h)
    · refine r_iconst (v := (1)) X dX12_mark_40 (by decide) ?_
      refine r_iload_n X dX12_mark_41 rfl 1 rfl ?_
      refine r_iadd X dX12_mark_42 ?_
      refine r_goto (tgt := 47) X dX12_mark_43 (by decide) ?_
      exact r_sub [0, 1, 2] rfl (hJ47 (((1)) + p1) m5 h)
  unfold f_X12_mark at h
  refine r_aload_n X dX12_mark_0 rfl 0 rfl ?_
  refine r_iconst (v := (0)) X dX12_mark_1 (by decide) ?_
  refine r_putI X (k := 0) (Lm_N Lmk_0 rfl) Lmk_0 rfl (by decide) ui_12 (by decide) uw5_220 tyX12_ok nmX12 rfl rfl rfl dX12_mark_2 ?_
  refine r_nmM h (fun m1 h => ?_)
  refine r_iload_n X dX12_mark_5 rfl 1 rfl ?_
  refine r_iconst (v := (0)) X dX12_mark_6 (by decide) ?_
  refine r_iconst (v := (3)) X dX12_mark_7 (by decide) ?_
  refine r_cSI (As := [.int (p1), .int ((0)), .int ((3))]) (rest := []) X (fun r9 m9 hg => k_X12_within hg) h uw7_49 uw7_50 uw1_13 uw7_51 rfl rfl dd_X12_within ⟨Nat.le_of_ble_eq_true rfl, Nat.le_of_ble_eq_true rfl⟩ rfl (Nat.le_of_ble_eq_true rfl) dX12_mark_8 rfl (fun x3 m2 h => ?_)
  refine r_if_eq (tgt := 27) X dX12_mark_11 (by decide) h (fun h => ?_) (fun h => ?_)
  · refine r_iconst (v := (0)) X dX12_mark_27 (by decide) ?_
    exact r_zret2 X rfl dX12_mark_28 h
  · refine r_iload_n X dX12_mark_14 rfl 2 rfl ?_
    refine r_if_eq (tgt := 29) X dX12_mark_15 (by decide) h (fun h => ?_) (fun h => ?_)
    · exact r_sub [0, 1, 2] rfl (hJ29 m2 h)
    · refine r_aload_n X dX12_mark_18 rfl 0 rfl ?_
      refine r_getF X (k := 54) (of := 40) rfl (Lm_N Lmk_0 rfl) Lmk_0 rfl (by decide) ui_12 (by decide) uw6_34 rfl dX12_mark_19 ?_
      refine r_iload_n X dX12_mark_22 rfl 1 rfl ?_
      refine r_zald X (Lm_N Lmk_40 rfl) Lmk_40 h dX12_mark_23 (fun h => ?_)
      refine r_if_ne (tgt := 29) X dX12_mark_24 (by decide) h (fun h => ?_) (fun h => ?_)
      · exact r_sub [0, 1, 2] rfl (hJ29 m2 h)
      · refine r_iconst (v := (0)) X dX12_mark_27 (by decide) ?_
        exact r_zret2 X rfl dX12_mark_28 h
noncomputable def f_X12_count (p1 : Int32) (mem : Mm) : Option (Int32 × Mm) :=
  bnd (sI mem 0 0 ((0))) fun m1 => bdI (f_X12_within p1 ((0)) ((13)) m1) fun x3 m2 => if ¬ x3 = 0 then (if ((3)) ≤ p1 then (if ((6)) ≤ p1 then (if ((8)) ≤ p1 then (if ((10)) ≤ p1 then (if ((12)) ≤ p1 then (if ¬ p1 = ((12)) then (some (gI m2 0 1, m2)) else (some (gI m2 0 55, m2))) else (if ¬ p1 = ((10)) then (some (gI m2 32 0, m2)) else (some (gI m2 28 0, m2)))) else (if ¬ p1 = ((8)) then (bdI (f_X12_goneKeys  m2) fun x5 m4 => some (x5, m4)) else (some (gI m2 35 4, m2)))) else (if ¬ p1 = ((6)) then (some (gI m2 35 0, m2)) else (some (gI m2 2 6, m2)))) else (if ¬ p1 = ((3)) then (if ¬ p1 = ((4)) then (some (gI m2 35 3, m2)) else (some (gI m2 35 2, m2))) else (some (gI m2 35 1, m2)))) else (grd (inb p1 14) (some (gI m2 2 p1.toNatClampNeg, m2)))) else (some ((-1), m2))
theorem dd_X12_count : yX12_count.cls = RX12 ∧ yX12_count.cls ≠ "java/lang/invoke/MethodHandle" ∧ yX12_count.cls ≠ "java/lang/invoke/VarHandle" ∧ (parseMethodDescriptor yX12_count.desc).map (fun d => d.parameters.length) = some 1 := by decide +kernel
set_option maxHeartbeats 4000000 in
set_option maxRecDepth 100000 in
theorem k_X12_count {l : Launch} {ad : Nat → Nat} {cy : Nat → ClassId} {dC : Nat → ClassId} {dI : Nat → Nat → Nat} {ks : (Nat → Nat) × (Nat → Nat)} {p1 : Int32} {mem : Mm} {r2 : Int32} {mem2 : Mm}  (h : f_X12_count p1 mem = some (r2, mem2)) : CtI l Lm ad cy dC dI ks yX12_count cX12_count 2 (some .int) ({ frames := 1, cells := 0, slots := 0, locals := 22 }) [.ref (ad (0)), .int (p1)] mem r2 mem2 := by
  refine CtI.of (cc := cX12_count) (maxL := 2) (ret := (some .int)) (own := RX12) rfl (by decide) (Nat.le_of_ble_eq_true rfl) ?_
  intro p e s m args below meth c A X
  have hts := X.2.2.2.2.1
  unfold f_X12_count at h
  refine r_aload_n X dX12_count_0 rfl 0 rfl ?_
  refine r_iconst (v := (0)) X dX12_count_1 (by decide) ?_
  refine r_putI X (k := 0) (Lm_N Lmk_0 rfl) Lmk_0 rfl (by decide) ui_12 (by decide) uw5_220 tyX12_ok nmX12 rfl rfl rfl dX12_count_2 ?_
  refine r_nmM h (fun m1 h => ?_)
  refine r_iload_n X dX12_count_5 rfl 1 rfl ?_
  refine r_iconst (v := (0)) X dX12_count_6 (by decide) ?_
  refine r_bipush (v := (13)) X dX12_count_7 (by decide) ?_
  refine r_cSI (As := [.int (p1), .int ((0)), .int ((13))]) (rest := []) X (fun r9 m9 hg => k_X12_within hg) h uw7_49 uw7_50 uw1_13 uw7_51 rfl rfl dd_X12_within ⟨Nat.le_of_ble_eq_true rfl, Nat.le_of_ble_eq_true rfl⟩ rfl (Nat.le_of_ble_eq_true rfl) dX12_count_9 rfl (fun x3 m2 h => ?_)
  refine r_if_ne (tgt := 17) X dX12_count_12 (by decide) h (fun h => ?_) (fun h => ?_)
  · refine r_iload_n X dX12_count_17 rfl 1 rfl ?_
    refine r_iconst (v := (3)) X dX12_count_18 (by decide) ?_
    refine r_icmp_ge (tgt := 29) X dX12_count_19 (by decide) h (fun h => ?_) (fun h => ?_)
    · refine r_iload_n X dX12_count_29 rfl 1 rfl ?_
      refine r_bipush (v := (6)) X dX12_count_30 (by decide) ?_
      refine r_icmp_ge (tgt := 70) X dX12_count_32 (by decide) h (fun h => ?_) (fun h => ?_)
      · refine r_iload_n X dX12_count_70 rfl 1 rfl ?_
        refine r_bipush (v := (8)) X dX12_count_71 (by decide) ?_
        refine r_icmp_ge (tgt := 99) X dX12_count_73 (by decide) h (fun h => ?_) (fun h => ?_)
        · refine r_iload_n X dX12_count_99 rfl 1 rfl ?_
          refine r_bipush (v := (10)) X dX12_count_100 (by decide) ?_
          refine r_icmp_ge (tgt := 125) X dX12_count_102 (by decide) h (fun h => ?_) (fun h => ?_)
          · refine r_iload_n X dX12_count_125 rfl 1 rfl ?_
            refine r_bipush (v := (12)) X dX12_count_126 (by decide) ?_
            refine r_icmp_ge (tgt := 153) X dX12_count_128 (by decide) h (fun h => ?_) (fun h => ?_)
            · refine r_iload_n X dX12_count_153 rfl 1 rfl ?_
              refine r_bipush (v := (12)) X dX12_count_154 (by decide) ?_
              refine r_icmp_ne (tgt := 166) X dX12_count_156 (by decide) h (fun h => ?_) (fun h => ?_)
              · refine r_aload_n X dX12_count_166 rfl 0 rfl ?_
                refine r_getI X (k := 1) (Lm_N Lmk_0 rfl) Lmk_0 rfl (by decide) ui_12 (by decide) uw5_221 rfl dX12_count_167 ?_
                exact r_iret2 X rfl dX12_count_170 h
              · refine r_aload_n X dX12_count_159 rfl 0 rfl ?_
                refine r_getI X (k := 55) (Lm_N Lmk_0 rfl) Lmk_0 rfl (by decide) ui_12 (by decide) uw6_35 rfl dX12_count_160 ?_
                refine r_goto (tgt := 170) X dX12_count_163 (by decide) ?_
                exact r_iret2 X rfl dX12_count_170 h
            · refine r_iload_n X dX12_count_131 rfl 1 rfl ?_
              refine r_bipush (v := (10)) X dX12_count_132 (by decide) ?_
              refine r_icmp_ne (tgt := 146) X dX12_count_134 (by decide) h (fun h => ?_) (fun h => ?_)
              · refine r_aload_n X dX12_count_146 rfl 0 rfl ?_
                refine r_getF X (k := 46) (of := 32) rfl (Lm_N Lmk_0 rfl) Lmk_0 rfl (by decide) ui_12 (by decide) uw6_26 rfl dX12_count_147 ?_
                refine r_iconst (v := (0)) X dX12_count_150 (by decide) ?_
                refine r_iald X (Lm_N Lmk_32 rfl) Lmk_32 (g_in rfl h) dX12_count_151 (fun h => ?_)
                exact r_iret2 X rfl dX12_count_152 h
              · refine r_aload_n X dX12_count_137 rfl 0 rfl ?_
                refine r_getF X (k := 42) (of := 28) rfl (Lm_N Lmk_0 rfl) Lmk_0 rfl (by decide) ui_12 (by decide) uw6_22 rfl dX12_count_138 ?_
                refine r_iconst (v := (0)) X dX12_count_141 (by decide) ?_
                refine r_iald X (Lm_N Lmk_28 rfl) Lmk_28 (g_in rfl h) dX12_count_142 (fun h => ?_)
                refine r_goto (tgt := 152) X dX12_count_143 (by decide) ?_
                exact r_iret2 X rfl dX12_count_152 h
          · refine r_iload_n X dX12_count_105 rfl 1 rfl ?_
            refine r_bipush (v := (8)) X dX12_count_106 (by decide) ?_
            refine r_icmp_ne (tgt := 120) X dX12_count_108 (by decide) h (fun h => ?_) (fun h => ?_)
            · refine r_aload_n X dX12_count_120 rfl 0 rfl ?_
              refine r_cVI (As := []) (rest := []) X (fun r9 m9 hg => k_X12_goneKeys hg) h (Lm_N Lmk_0 rfl) Lmk_0 rfl (by decide) uw8_32 uw8_34 us7_3 uw1_13 uw8_35 rfl rfl dd_X12_goneKeys ⟨Nat.le_of_ble_eq_true rfl, Nat.le_of_ble_eq_true rfl⟩ rfl (Nat.le_of_ble_eq_true rfl) dX12_count_121 rfl (fun x5 m4 h => ?_)
              exact r_iret2 X rfl dX12_count_124 h
            · refine r_aload_n X dX12_count_111 rfl 0 rfl ?_
              refine r_getF X (k := 49) (of := 35) rfl (Lm_N Lmk_0 rfl) Lmk_0 rfl (by decide) ui_12 (by decide) uw6_29 rfl dX12_count_112 ?_
              refine r_iconst (v := (4)) X dX12_count_115 (by decide) ?_
              refine r_iald X (Lm_N Lmk_35 rfl) Lmk_35 (g_in rfl h) dX12_count_116 (fun h => ?_)
              refine r_goto (tgt := 124) X dX12_count_117 (by decide) ?_
              exact r_iret2 X rfl dX12_count_124 h
        · refine r_iload_n X dX12_count_76 rfl 1 rfl ?_
          refine r_bipush (v := (6)) X dX12_count_77 (by decide) ?_
          refine r_icmp_ne (tgt := 92) X dX12_count_79 (by decide) h (fun h => ?_) (fun h => ?_)
          · refine r_aload_n X dX12_count_92 rfl 0 rfl ?_
            refine r_getF X (k := 49) (of := 35) rfl (Lm_N Lmk_0 rfl) Lmk_0 rfl (by decide) ui_12 (by decide) uw6_29 rfl dX12_count_93 ?_
            refine r_iconst (v := (0)) X dX12_count_96 (by decide) ?_
            refine r_iald X (Lm_N Lmk_35 rfl) Lmk_35 (g_in rfl h) dX12_count_97 (fun h => ?_)
            exact r_iret2 X rfl dX12_count_98 h
          · refine r_aload_n X dX12_count_82 rfl 0 rfl ?_
            refine r_getF X (k := 10) (of := 2) rfl (Lm_N Lmk_0 rfl) Lmk_0 rfl (by decide) ui_12 (by decide) uw5_230 rfl dX12_count_83 ?_
            refine r_bipush (v := (6)) X dX12_count_86 (by decide) ?_
            refine r_iald X (Lm_N Lmk_2 rfl) Lmk_2 (g_in rfl h) dX12_count_88 (fun h => ?_)
            refine r_goto (tgt := 98) X dX12_count_89 (by decide) ?_
            exact r_iret2 X rfl dX12_count_98 h
      · refine r_iload_n X dX12_count_35 rfl 1 rfl ?_
        refine r_iconst (v := (3)) X dX12_count_36 (by decide) ?_
        refine r_icmp_ne (tgt := 49) X dX12_count_37 (by decide) h (fun h => ?_) (fun h => ?_)
        · refine r_iload_n X dX12_count_49 rfl 1 rfl ?_
          refine r_iconst (v := (4)) X dX12_count_50 (by decide) ?_
          refine r_icmp_ne (tgt := 63) X dX12_count_51 (by decide) h (fun h => ?_) (fun h => ?_)
          · refine r_aload_n X dX12_count_63 rfl 0 rfl ?_
            refine r_getF X (k := 49) (of := 35) rfl (Lm_N Lmk_0 rfl) Lmk_0 rfl (by decide) ui_12 (by decide) uw6_29 rfl dX12_count_64 ?_
            refine r_iconst (v := (3)) X dX12_count_67 (by decide) ?_
            refine r_iald X (Lm_N Lmk_35 rfl) Lmk_35 (g_in rfl h) dX12_count_68 (fun h => ?_)
            exact r_iret2 X rfl dX12_count_69 h
          · refine r_aload_n X dX12_count_54 rfl 0 rfl ?_
            refine r_getF X (k := 49) (of := 35) rfl (Lm_N Lmk_0 rfl) Lmk_0 rfl (by decide) ui_12 (by decide) uw6_29 rfl dX12_count_55 ?_
            refine r_iconst (v := (2)) X dX12_count_58 (by decide) ?_
            refine r_iald X (Lm_N Lmk_35 rfl) Lmk_35 (g_in rfl h) dX12_count_59 (fun h => ?_)
            refine r_goto (tgt := 69) X dX12_count_60 (by decide) ?_
            exact r_iret2 X rfl dX12_count_69 h
        · refine r_aload_n X dX12_count_40 rfl 0 rfl ?_
          refine r_getF X (k := 49) (of := 35) rfl (Lm_N Lmk_0 rfl) Lmk_0 rfl (by decide) ui_12 (by decide) uw6_29 rfl dX12_count_41 ?_
          refine r_iconst (v := (1)) X dX12_count_44 (by decide) ?_
          refine r_iald X (Lm_N Lmk_35 rfl) Lmk_35 (g_in rfl h) dX12_count_45 (fun h => ?_)
          refine r_goto (tgt := 69) X dX12_count_46 (by decide) ?_
          exact r_iret2 X rfl dX12_count_69 h
    · refine r_aload_n X dX12_count_22 rfl 0 rfl ?_
      refine r_getF X (k := 10) (of := 2) rfl (Lm_N Lmk_0 rfl) Lmk_0 rfl (by decide) ui_12 (by decide) uw5_230 rfl dX12_count_23 ?_
      refine r_iload_n X dX12_count_26 rfl 1 rfl ?_
      refine r_iald X (Lm_N Lmk_2 rfl) Lmk_2 h dX12_count_27 (fun h => ?_)
      exact r_iret2 X rfl dX12_count_28 h
  · refine r_iconst (v := (-1)) X dX12_count_15 (by decide) ?_
    exact r_iret2 X rfl dX12_count_16 h
