noncomputable def f_X11_draw (p1 : Int32) (mem : Mm) : Option (Int32 × Mm) :=
  bnd (sJ mem 0 16 ((((gJ mem 0 16) * ((1103515245))) + ((12345))) &&& ((2147483647)))) fun m1 => if p1 ≤ 0 then (some ((0), m1)) else (grd (decide (¬ (65536 : Int64) = 0)) (grd (decide (¬ (p1.toInt64) = 0)) (some ((((gJ m1 0 16) / ((65536))) - ((gJ m1 0 16) / ((65536))) / (p1.toInt64) * (p1.toInt64)).toInt32, m1))))
theorem dd_X11_draw : yX11_draw.cls = RX11 ∧ yX11_draw.cls ≠ "java/lang/invoke/MethodHandle" ∧ yX11_draw.cls ≠ "java/lang/invoke/VarHandle" ∧ (parseMethodDescriptor yX11_draw.desc).map (fun d => d.parameters.length) = some 1 := by decide +kernel
set_option maxHeartbeats 4000000 in
set_option maxRecDepth 100000 in
theorem k_X11_draw {l : Launch} {ad : Nat → Nat} {cy : Nat → ClassId} {dC : Nat → ClassId} {dI : Nat → Nat → Nat} {ks : (Nat → Nat) × (Nat → Nat)} {p1 : Int32} {mem : Mm} {r2 : Int32} {mem2 : Mm}  (h : f_X11_draw p1 mem = some (r2, mem2)) : CtI l Lp ad cy dC dI ks yX11_draw cX11_draw 2 (some .int) ({ frames := 0, cells := 0, slots := 0, locals := 0 }) [.ref (ad (0)), .int (p1)] mem r2 mem2 := by
  refine CtI.of (cc := cX11_draw) (maxL := 2) (ret := (some .int)) (own := RX11) rfl (by decide) (Nat.le_of_ble_eq_true rfl) ?_
  intro p e s m args below meth c A X
  have hts := X.2.2.2.2.1
  unfold f_X11_draw at h
  refine r_aload_n X dX11_draw_0 rfl 0 rfl ?_
  refine r_aload_n X dX11_draw_1 rfl 0 rfl ?_
  refine r_getJ X (k := 16) (Lp_N Lpk_0 rfl) Lpk_0 rfl (by decide) ui_11 (by decide) uw2_199 rfl dX11_draw_2 ?_
  refine r_ldc2 (v := 1103515245) X dX11_draw_5 uw5_198 ?_
  refine r_lmul X dX11_draw_8 ?_
  refine r_ldc2 (v := 12345) X dX11_draw_9 uw5_199 ?_
  refine r_ladd X dX11_draw_12 ?_
  refine r_ldc2 (v := 2147483647) X dX11_draw_13 uw5_200 ?_
  refine r_land X dX11_draw_16 ?_
  refine r_putJ X (k := 16) (Lp_N Lpk_0 rfl) Lpk_0 rfl (by decide) ui_11 (by decide) uw2_199 tyX11_ok nmX11 rfl rfl rfl dX11_draw_17 ?_
  refine r_nmM h (fun m1 h => ?_)
  refine r_iload_n X dX11_draw_20 rfl 1 rfl ?_
  refine r_if_le (tgt := 39) X dX11_draw_21 (by decide) h (fun h => ?_) (fun h => ?_)
  · refine r_iconst (v := (0)) X dX11_draw_39 (by decide) ?_
    exact r_iret2 X rfl dX11_draw_40 h
  · refine r_aload_n X dX11_draw_24 rfl 0 rfl ?_
    refine r_getJ X (k := 16) (Lp_N Lpk_0 rfl) Lpk_0 rfl (by decide) ui_11 (by decide) uw2_199 rfl dX11_draw_25 ?_
    refine r_ldc2 (v := 65536) X dX11_draw_28 uw5_201 ?_
    refine r_div h (fun hz h => ?_)
    refine r_ldiv X dX11_draw_31 hz ?_
    refine r_iload_n X dX11_draw_32 rfl 1 rfl ?_
    refine r_i2l X dX11_draw_33 ?_
    refine r_div h (fun hz h => ?_)
    refine r_lrem X dX11_draw_34 hz ?_
    refine r_l2i X dX11_draw_35 ?_
    refine r_goto (tgt := 40) X dX11_draw_36 (by decide) ?_
    exact r_iret2 X rfl dX11_draw_40 h
noncomputable def f_X11_drawMonths_J170 (p1 : Int32) (p2 : Int32) (k51 : Int32 → Int32 → Int32 → Mm → Option Mm) (x37 : Int32) (x38 : Int32) (x39 : Int32) (m40 : Mm) : Option Mm :=
  bnd (x39 + (1)) fun x41 => k51 x37 x38 x41 m40
noncomputable def f_X11_drawMonths_J101 (p1 : Int32) (p2 : Int32) (k51 : Int32 → Int32 → Int32 → Mm → Option Mm) (x23 : Int32) (x24 : Int32) (x25 : Int32) (m26 : Mm) : Option Mm :=
  bdV (f_X1_pass 66 ((0)) m26) fun m27 => bnd (x23 + (gI m27 82 10)) fun x28 => bnd (x24 + (gI m27 82 11)) fun x29 => bdI (f_X6_keysAbove 66 ((5)) m27) fun x31 m30 => if x31 < ((3)) then (f_X11_drawMonths_J170 p1 p2 k51 x28 x29 x25 m30) else (bdI (f_X11_draw ((4)) m30) fun x33 m32 => if ¬ x33 = 0 then (f_X11_drawMonths_J170 p1 p2 k51 x28 x29 x25 m32) else (grd (decide (Lp.1 (gR m32 0 2) = 7)) (bnd (gR m32 0 2) fun q34 => bdI (f_X6_tuneUp 66 (gI m32 q34 12) m32) fun x36 m35 => f_X11_drawMonths_J170 p1 p2 k51 x28 x29 x25 m35)))
noncomputable def f_X11_drawMonths_B60 (p1 : Int32) (p2 : Int32) (k51 : Int32 → Int32 → Int32 → Mm → Option Mm) (k60 : Int32 → Int32 → Int32 → Int32 → Mm → Option Mm) (x13 : Int32) (x14 : Int32) (x15 : Int32) (x16 : Int32) (m17 : Mm) : Option Mm :=
  grd (decide (Lp.1 (gR m17 0 2) = 7)) (bnd (gR m17 0 2) fun q18 => if (gI m17 q18 7) ≤ x16 then (f_X11_drawMonths_J101 p1 p2 k51 x13 x14 x15 m17) else (if ((7)) ≤ x16 then (f_X11_drawMonths_J101 p1 p2 k51 x13 x14 x15 m17) else (bdI (f_X11_draw ((60)) m17) fun x20 m19 => grd (inb x16 7) (bnd (sI m19 85 x16.toNatClampNeg x20) fun m21 => bnd (x16 + (1)) fun x22 => k60 x13 x14 x15 x22 m21))))
noncomputable def f_X11_drawMonths_B51 (p1 : Int32) (p2 : Int32) (k51 : Int32 → Int32 → Int32 → Mm → Option Mm) (x6 : Int32) (x7 : Int32) (x8 : Int32) (m9 : Mm) : Option Mm :=
  if p2 ≤ x8 then (bnd (sI m9 165 0 x6) fun m10 => bnd (sI m10 165 1 x7) fun m11 => bnd (sI m11 165 2 (gI m11 66 5)) fun m12 => some m12) else (lop (fun _ _ _ _ _ => none) (f_X11_drawMonths_B60 p1 p2 k51) 4000 x6 x7 x8 ((0)) m9)
noncomputable def f_X11_drawMonths (p1 : Int32) (p2 : Int32) (mem : Mm) : Option Mm :=
  bnd (sJ mem 0 16 (p1.toInt64)) fun m1 => bdV (f_X6_copyFrom 66 64 m1) fun m2 => bnd (sI m2 66 5 ((0))) fun m3 => grd (decide (Lp.1 (gR m3 0 2) = 7)) (bnd (gR m3 0 2) fun q4 => bdV (f_X1_prepare q4 (gI m3 66 2) m3) fun m5 => lop (fun _ _ _ _ => none) (f_X11_drawMonths_B51 p1 p2 ) 4000 ((0)) ((0)) ((0)) m5)
theorem dd_X11_drawMonths : yX11_drawMonths.cls = RX11 ∧ yX11_drawMonths.cls ≠ "java/lang/invoke/MethodHandle" ∧ yX11_drawMonths.cls ≠ "java/lang/invoke/VarHandle" ∧ (parseMethodDescriptor yX11_drawMonths.desc).map (fun d => d.parameters.length) = some 2 := by decide +kernel
set_option maxHeartbeats 4000000 in
set_option maxRecDepth 100000 in
theorem k_X11_drawMonths {l : Launch} {ad : Nat → Nat} {cy : Nat → ClassId} {dC : Nat → ClassId} {dI : Nat → Nat → Nat} {ks : (Nat → Nat) × (Nat → Nat)} {p1 : Int32} {p2 : Int32} {mem : Mm} {mem2 : Mm}  (h : f_X11_drawMonths p1 p2 mem = some mem2) : CtV l Lp ad cy dC dI ks yX11_drawMonths cX11_drawMonths 7 none ({ frames := 5, cells := 0, slots := 0, locals := 112 }) [.ref (ad (0)), .int (p1), .int (p2)] mem mem2 := by
  refine CtV.of (cc := cX11_drawMonths) (maxL := 7) (ret := none) (own := RX11) rfl (by decide) (Nat.le_of_ble_eq_true rfl) ?_
  intro p e s m args below meth c A X
  have hts := X.2.2.2.2.1
  have hl138 := X.2.2.2.2.2.2.1 (.fieldLinkNest "StationPiano" 138 "StationPiano$State" "minutes" "I" "StationPiano") (List.mem_of_getElem? (i := 57) rfl)
  have hl173 := X.2.2.2.2.2.2.1 (.fieldLinkNest "StationPiano" 173 "StationPiano$Station" "passerCount" "I" "StationPiano") (List.mem_of_getElem? (i := 40) rfl)
  have hl190 := X.2.2.2.2.2.2.1 (.fieldLinkNest "StationPiano" 190 "StationPiano$DayRun" "joySum" "I" "StationPiano") (List.mem_of_getElem? (i := 75) rfl)
  have hl193 := X.2.2.2.2.2.2.1 (.fieldLinkNest "StationPiano" 193 "StationPiano$Station" "price" "I" "StationPiano") (List.mem_of_getElem? (i := 51) rfl)
  have hl301 := X.2.2.2.2.2.2.1 (.fieldLinkNest "StationPiano" 301 "StationPiano$State" "paid" "I" "StationPiano") (List.mem_of_getElem? (i := 62) rfl)
  have hl335 := X.2.2.2.2.2.2.1 (.fieldLinkNest "StationPiano" 335 "StationPiano$DayRun" "arrives" "[I" "StationPiano") (List.mem_of_getElem? (i := 74) rfl)
  have hl340 := X.2.2.2.2.2.2.1 (.fieldLinkNest "StationPiano" 340 "StationPiano$DayRun" "begun" "I" "StationPiano") (List.mem_of_getElem? (i := 76) rfl)
  have hJ170 : ∀ (k51 : Int32 → Int32 → Int32 → Mm → Option Mm) (hk51 : ∀ (x6 : Int32) (x7 : Int32) (x8 : Int32) (m9 : Mm), k51 x6 x7 x8 m9 = some mem2 → Jd p l e ({ frames := 5, cells := 0, slots := 0, locals := 112 }) s m args below meth c 7 (MQ below (PsV Lp ad cy dC dI mem2 A) args s 0 0 A) A dC dI cy Lp ad m9 51 [(0, .ref (ad (0))), (2, .int (p2)), (3, .int (x6)), (4, .int (x7)), (5, .int (x8))] []) (x37 : Int32) (x38 : Int32) (x39 : Int32) (m40 : Mm), f_X11_drawMonths_J170 p1 p2 k51 x37 x38 x39 m40 = some mem2 → Jd p l e ({ frames := 5, cells := 0, slots := 0, locals := 112 }) s m args below meth c 7 (MQ below (PsV Lp ad cy dC dI mem2 A) args s 0 0 A) A dC dI cy Lp ad m40 170 [(0, .ref (ad (0))), (2, .int (p2)), (3, .int (x37)), (4, .int (x38)), (5, .int (x39))] [] := by
    intro k51 hk51 x37 x38 x39 m40 h
    unfold f_X11_drawMonths_J170 at h
    refine r_inc h (fun x41 e9 h => ?_)
    refine r_iinc (v := x41) (lv2 := [(5, .int (x41)), (0, .ref (ad (0))), (2, .int (p2)), (3, .int (x37)), (4, .int (x38))]) X dX11_drawMonths_170 4 rfl (by rw [e9]; rfl) (by decide) rfl ?_
    refine r_goto (tgt := 51) X dX11_drawMonths_173 (by decide) ?_
    exact r_sub [1, 2, 3, 4, 0] rfl (hk51 x37 x38 x41 m40 h)
  have hJ101 : ∀ (k51 : Int32 → Int32 → Int32 → Mm → Option Mm) (hk51 : ∀ (x6 : Int32) (x7 : Int32) (x8 : Int32) (m9 : Mm), k51 x6 x7 x8 m9 = some mem2 → Jd p l e ({ frames := 5, cells := 0, slots := 0, locals := 112 }) s m args below meth c 7 (MQ below (PsV Lp ad cy dC dI mem2 A) args s 0 0 A) A dC dI cy Lp ad m9 51 [(0, .ref (ad (0))), (2, .int (p2)), (3, .int (x6)), (4, .int (x7)), (5, .int (x8))] []) (x23 : Int32) (x24 : Int32) (x25 : Int32) (m26 : Mm), f_X11_drawMonths_J101 p1 p2 k51 x23 x24 x25 m26 = some mem2 → Jd p l e ({ frames := 5, cells := 0, slots := 0, locals := 112 }) s m args below meth c 7 (MQ below (PsV Lp ad cy dC dI mem2 A) args s 0 0 A) A dC dI cy Lp ad m26 101 [(0, .ref (ad (0))), (2, .int (p2)), (3, .int (x23)), (4, .int (x24)), (5, .int (x25))] [] := by
    intro k51 hk51 x23 x24 x25 m26 h
    unfold f_X11_drawMonths_J101 at h
    refine r_aload_n X dX11_drawMonths_101 rfl 0 rfl ?_
    refine r_getF X (k := 10) (of := 82) rfl (Lp_N Lpk_0 rfl) Lpk_0 rfl (by decide) ui_11 (by decide) uw2_193 rfl dX11_drawMonths_102 ?_
    refine r_aload_n X dX11_drawMonths_105 rfl 0 rfl ?_
    refine r_getF X (k := 5) (of := 66) rfl (Lp_N Lpk_0 rfl) Lpk_0 rfl (by decide) ui_11 (by decide) uw2_188 rfl dX11_drawMonths_106 ?_
    refine r_iconst (v := (0)) X dX11_drawMonths_109 (by decide) ?_
    refine r_cVV (As := [.ref (ad (66)), .int ((0))]) (rest := []) X (fun m9 hg => k_X1_pass Lpk_66 hg) h (Lp_N Lpk_82 rfl) Lpk_82 rfl (by decide) uw4_96 uw4_97 uw4_98 uw1_11 uw4_99 rfl rfl dd_X1_pass ⟨Nat.le_of_ble_eq_true rfl, Nat.le_of_ble_eq_true rfl⟩ rfl (Nat.le_of_ble_eq_true rfl) dX11_drawMonths_110 rfl (fun m27 h => ?_)
    refine r_iload_n X dX11_drawMonths_113 rfl 2 rfl ?_
    refine r_aload_n X dX11_drawMonths_114 rfl 0 rfl ?_
    refine r_getF X (k := 10) (of := 82) rfl (Lp_N Lpk_0 rfl) Lpk_0 rfl (by decide) ui_11 (by decide) uw2_193 rfl dX11_drawMonths_115 ?_
    refine r_getIN X (k := 10) (Lp_N Lpk_82 rfl) Lpk_82 rfl (by decide) ui_1 (by decide) hl190 rfl dX11_drawMonths_118 ?_
    refine r_iadd X dX11_drawMonths_121 ?_
    refine r_nmI h (fun x28 h => ?_)
    refine r_istore_n (lv2 := [(3, .int (x28)), (0, .ref (ad (0))), (2, .int (p2)), (4, .int (x24)), (5, .int (x25))]) X dX11_drawMonths_122 rfl (by decide) rfl ?_
    refine r_iload X dX11_drawMonths_123 3 rfl ?_
    refine r_aload_n X dX11_drawMonths_125 rfl 1 rfl ?_
    refine r_getF X (k := 10) (of := 82) rfl (Lp_N Lpk_0 rfl) Lpk_0 rfl (by decide) ui_11 (by decide) uw2_193 rfl dX11_drawMonths_126 ?_
    refine r_getIN X (k := 11) (Lp_N Lpk_82 rfl) Lpk_82 rfl (by decide) ui_1 (by decide) hl340 rfl dX11_drawMonths_129 ?_
    refine r_iadd X dX11_drawMonths_132 ?_
    refine r_nmI h (fun x29 h => ?_)
    refine r_istore (lv2 := [(4, .int (x29)), (3, .int (x28)), (0, .ref (ad (0))), (2, .int (p2)), (5, .int (x25))]) X dX11_drawMonths_133 (by decide) rfl ?_
    refine r_aload_n X dX11_drawMonths_135 rfl 2 rfl ?_
    refine r_getF X (k := 5) (of := 66) rfl (Lp_N Lpk_0 rfl) Lpk_0 rfl (by decide) ui_11 (by decide) uw2_188 rfl dX11_drawMonths_136 ?_
    refine r_iconst (v := (5)) X dX11_drawMonths_139 (by decide) ?_
    refine r_cVI (As := [.int ((5))]) (rest := []) X (fun r9 m9 hg => k_X6_keysAbove Lpk_66 hg) h (Lp_N Lpk_66 rfl) Lpk_66 rfl (by decide) uw5_202 uw5_203 uw5_204 uw1_7 uw5_205 rfl rfl dd_X6_keysAbove ⟨Nat.le_of_ble_eq_true rfl, Nat.le_of_ble_eq_true rfl⟩ rfl (Nat.le_of_ble_eq_true rfl) dX11_drawMonths_140 rfl (fun x31 m30 h => ?_)
    refine r_iconst (v := (3)) X dX11_drawMonths_143 (by decide) ?_
    refine r_icmp_lt (tgt := 170) X dX11_drawMonths_144 (by decide) h (fun h => ?_) (fun h => ?_)
    · exact r_sub [2, 3, 1, 0, 4] rfl (hJ170 k51 hk51 x28 x29 x25 m30 h)
    · refine r_aload_n X dX11_drawMonths_147 rfl 2 rfl ?_
      refine r_iconst (v := (4)) X dX11_drawMonths_148 (by decide) ?_
      refine r_cVI (As := [.int ((4))]) (rest := []) X (fun r9 m9 hg => k_X11_draw hg) h (Lp_N Lpk_0 rfl) Lpk_0 rfl (by decide) uw5_194 uw5_196 us3_11 uw1_1 uw5_197 rfl rfl dd_X11_draw ⟨Nat.le_of_ble_eq_true rfl, Nat.le_of_ble_eq_true rfl⟩ rfl (Nat.le_of_ble_eq_true rfl) dX11_drawMonths_149 rfl (fun x33 m32 h => ?_)
      refine r_if_ne (tgt := 170) X dX11_drawMonths_152 (by decide) h (fun h => ?_) (fun h => ?_)
      · exact r_sub [2, 3, 1, 0, 4] rfl (hJ170 k51 hk51 x28 x29 x25 m32 h)
      · refine r_aload_n X dX11_drawMonths_155 rfl 2 rfl ?_
        refine r_getF X (k := 5) (of := 66) rfl (Lp_N Lpk_0 rfl) Lpk_0 rfl (by decide) ui_11 (by decide) uw2_188 rfl dX11_drawMonths_156 ?_
        refine r_aload_n X dX11_drawMonths_159 rfl 2 rfl ?_
        refine r_getR X 7 (k := 2) (Lp_N Lpk_0 rfl) Lpk_0 rfl (by decide) ui_11 (by decide) uw2_185 rfl h dX11_drawMonths_160 (fun q34 eq34 h => ?_)
        refine r_getIN X (k := 12) (Lp_N eq34 rfl) eq34 rfl (by decide) ui_7 (by decide) hl193 rfl dX11_drawMonths_163 ?_
        refine r_cVI (As := [.int (gI m32 q34 12)]) (rest := []) X (fun r9 m9 hg => k_X6_tuneUp Lpk_66 hg) h (Lp_N Lpk_66 rfl) Lpk_66 rfl (by decide) uw4_170 uw4_171 uw4_172 uw1_7 uw4_173 rfl rfl dd_X6_tuneUp ⟨Nat.le_of_ble_eq_true rfl, Nat.le_of_ble_eq_true rfl⟩ rfl (Nat.le_of_ble_eq_true rfl) dX11_drawMonths_166 rfl (fun x36 m35 h => ?_)
        refine r_pop X dX11_drawMonths_169 rfl ?_
        exact r_sub [2, 3, 1, 0, 4] rfl (hJ170 k51 hk51 x28 x29 x25 m35 h)
  have hJ60 : ∀ (k51 : Int32 → Int32 → Int32 → Mm → Option Mm) (hk51 : ∀ (x6 : Int32) (x7 : Int32) (x8 : Int32) (m9 : Mm), k51 x6 x7 x8 m9 = some mem2 → Jd p l e ({ frames := 5, cells := 0, slots := 0, locals := 112 }) s m args below meth c 7 (MQ below (PsV Lp ad cy dC dI mem2 A) args s 0 0 A) A dC dI cy Lp ad m9 51 [(0, .ref (ad (0))), (2, .int (p2)), (3, .int (x6)), (4, .int (x7)), (5, .int (x8))] []) (k60 : Int32 → Int32 → Int32 → Int32 → Mm → Option Mm) (hk60 : ∀ (x13 : Int32) (x14 : Int32) (x15 : Int32) (x16 : Int32) (m17 : Mm), k60 x13 x14 x15 x16 m17 = some mem2 → Jd p l e ({ frames := 5, cells := 0, slots := 0, locals := 112 }) s m args below meth c 7 (MQ below (PsV Lp ad cy dC dI mem2 A) args s 0 0 A) A dC dI cy Lp ad m17 60 [(0, .ref (ad (0))), (2, .int (p2)), (3, .int (x13)), (4, .int (x14)), (5, .int (x15)), (6, .int (x16))] []) (x13 : Int32) (x14 : Int32) (x15 : Int32) (x16 : Int32) (m17 : Mm), f_X11_drawMonths_B60 p1 p2 k51 k60 x13 x14 x15 x16 m17 = some mem2 → Jd p l e ({ frames := 5, cells := 0, slots := 0, locals := 112 }) s m args below meth c 7 (MQ below (PsV Lp ad cy dC dI mem2 A) args s 0 0 A) A dC dI cy Lp ad m17 60 [(0, .ref (ad (0))), (2, .int (p2)), (3, .int (x13)), (4, .int (x14)), (5, .int (x15)), (6, .int (x16))] [] := by
    intro k51 hk51 k60 hk60 x13 x14 x15 x16 m17 h
    unfold f_X11_drawMonths_B60 at h
    refine r_iload X dX11_drawMonths_60 5 rfl ?_
    refine r_aload_n X dX11_drawMonths_62 rfl 0 rfl ?_
    refine r_getR X 7 (k := 2) (Lp_N Lpk_0 rfl) Lpk_0 rfl (by decide) ui_11 (by decide) uw2_185 rfl h dX11_drawMonths_63 (fun q18 eq18 h => ?_)
    refine r_getIN X (k := 7) (Lp_N eq18 rfl) eq18 rfl (by decide) ui_7 (by decide) hl173 rfl dX11_drawMonths_66 ?_
    refine r_icmp_ge (tgt := 101) X dX11_drawMonths_69 (by decide) h (fun h => ?_) (fun h => ?_)
    · exact r_sub [0, 1, 2, 3, 4] rfl (hJ101 k51 hk51 x13 x14 x15 m17 h)
    · refine r_iload X dX11_drawMonths_72 5 rfl ?_
      refine r_bipush (v := (7)) X dX11_drawMonths_74 (by decide) ?_
      refine r_icmp_ge (tgt := 101) X dX11_drawMonths_76 (by decide) h (fun h => ?_) (fun h => ?_)
      · exact r_sub [0, 1, 2, 3, 4] rfl (hJ101 k51 hk51 x13 x14 x15 m17 h)
      · refine r_aload_n X dX11_drawMonths_79 rfl 0 rfl ?_
        refine r_getF X (k := 10) (of := 82) rfl (Lp_N Lpk_0 rfl) Lpk_0 rfl (by decide) ui_11 (by decide) uw2_193 rfl dX11_drawMonths_80 ?_
        refine r_getFN X (k := 2) (of := 3) rfl (Lp_N Lpk_82 rfl) Lpk_82 rfl (by decide) ui_1 (by decide) hl335 rfl dX11_drawMonths_83 ?_
        refine r_iload X dX11_drawMonths_86 5 rfl ?_
        refine r_aload_n X dX11_drawMonths_88 rfl 0 rfl ?_
        refine r_bipush (v := (60)) X dX11_drawMonths_89 (by decide) ?_
        refine r_cVI (As := [.int ((60))]) (rest := [.int (x16), .ref (ad (85))]) X (fun r9 m9 hg => k_X11_draw hg) h (Lp_N Lpk_0 rfl) Lpk_0 rfl (by decide) uw5_194 uw5_196 us3_11 uw1_1 uw5_197 rfl rfl dd_X11_draw ⟨Nat.le_of_ble_eq_true rfl, Nat.le_of_ble_eq_true rfl⟩ rfl (Nat.le_of_ble_eq_true rfl) dX11_drawMonths_91 rfl (fun x20 m19 h => ?_)
        refine r_iast X (Lp_N Lpk_85 rfl) Lpk_85 h dX11_drawMonths_94 (fun h => ?_)
        refine r_nmM h (fun m21 h => ?_)
        refine r_inc h (fun x22 e9 h => ?_)
        refine r_iinc (v := x22) (lv2 := [(6, .int (x22)), (0, .ref (ad (0))), (2, .int (p2)), (3, .int (x13)), (4, .int (x14)), (5, .int (x15))]) X dX11_drawMonths_95 5 rfl (by rw [e9]; rfl) (by decide) rfl ?_
        refine r_goto (tgt := 60) X dX11_drawMonths_98 (by decide) ?_
        exact r_sub [1, 2, 3, 4, 5, 0] rfl (hk60 x13 x14 x15 x22 m21 h)
  have hL60 : ∀ (k51 : Int32 → Int32 → Int32 → Mm → Option Mm) (hk51 : ∀ (x6 : Int32) (x7 : Int32) (x8 : Int32) (m9 : Mm), k51 x6 x7 x8 m9 = some mem2 → Jd p l e ({ frames := 5, cells := 0, slots := 0, locals := 112 }) s m args below meth c 7 (MQ below (PsV Lp ad cy dC dI mem2 A) args s 0 0 A) A dC dI cy Lp ad m9 51 [(0, .ref (ad (0))), (2, .int (p2)), (3, .int (x6)), (4, .int (x7)), (5, .int (x8))] []) (n : Nat), ∀ (x13 : Int32) (x14 : Int32) (x15 : Int32) (x16 : Int32) (m17 : Mm), lop (fun _ _ _ _ _ => none) (f_X11_drawMonths_B60 p1 p2 k51) n x13 x14 x15 x16 m17 = some mem2 → Jd p l e ({ frames := 5, cells := 0, slots := 0, locals := 112 }) s m args below meth c 7 (MQ below (PsV Lp ad cy dC dI mem2 A) args s 0 0 A) A dC dI cy Lp ad m17 60 [(0, .ref (ad (0))), (2, .int (p2)), (3, .int (x13)), (4, .int (x14)), (5, .int (x15)), (6, .int (x16))] [] := by
    intro k51 hk51 n
    induction n with
    | zero => intro _ _ _ _ _ h; cases h
    | succ n ih => intro a0 a1 a2 a3 a4 h; exact hJ60 k51 hk51 _ ih a0 a1 a2 a3 a4 h
  have hJ51 : ∀ (k51 : Int32 → Int32 → Int32 → Mm → Option Mm) (hk51 : ∀ (x6 : Int32) (x7 : Int32) (x8 : Int32) (m9 : Mm), k51 x6 x7 x8 m9 = some mem2 → Jd p l e ({ frames := 5, cells := 0, slots := 0, locals := 112 }) s m args below meth c 7 (MQ below (PsV Lp ad cy dC dI mem2 A) args s 0 0 A) A dC dI cy Lp ad m9 51 [(0, .ref (ad (0))), (2, .int (p2)), (3, .int (x6)), (4, .int (x7)), (5, .int (x8))] []) (x6 : Int32) (x7 : Int32) (x8 : Int32) (m9 : Mm), f_X11_drawMonths_B51 p1 p2 k51 x6 x7 x8 m9 = some mem2 → Jd p l e ({ frames := 5, cells := 0, slots := 0, locals := 112 }) s m args below meth c 7 (MQ below (PsV Lp ad cy dC dI mem2 A) args s 0 0 A) A dC dI cy Lp ad m9 51 [(0, .ref (ad (0))), (2, .int (p2)), (3, .int (x6)), (4, .int (x7)), (5, .int (x8))] [] := by
    intro k51 hk51 x6 x7 x8 m9 h
    unfold f_X11_drawMonths_B51 at h
    refine r_iload X dX11_drawMonths_51 4 rfl ?_
    refine r_iload_n X dX11_drawMonths_53 rfl 1 rfl ?_
    refine r_icmp_ge (tgt := 176) X dX11_drawMonths_54 (by decide) h (fun h => ?_) (fun h => ?_)
    · refine r_aload_n X dX11_drawMonths_176 rfl 0 rfl ?_
      refine r_getF X (k := 15) (of := 165) rfl (Lp_N Lpk_0 rfl) Lpk_0 rfl (by decide) ui_11 (by decide) uw2_198 rfl dX11_drawMonths_177 ?_
      refine r_iconst (v := (0)) X dX11_drawMonths_180 (by decide) ?_
      refine r_iload_n X dX11_drawMonths_181 rfl 2 rfl ?_
      refine r_iast X (Lp_N Lpk_165 rfl) Lpk_165 (g_in rfl h) dX11_drawMonths_182 (fun h => ?_)
      refine r_nmM h (fun m10 h => ?_)
      refine r_aload_n X dX11_drawMonths_183 rfl 0 rfl ?_
      refine r_getF X (k := 15) (of := 165) rfl (Lp_N Lpk_0 rfl) Lpk_0 rfl (by decide) ui_11 (by decide) uw2_198 rfl dX11_drawMonths_184 ?_
      refine r_iconst (v := (1)) X dX11_drawMonths_187 (by decide) ?_
      refine r_iload X dX11_drawMonths_188 3 rfl ?_
      refine r_iast X (Lp_N Lpk_165 rfl) Lpk_165 (g_in rfl h) dX11_drawMonths_190 (fun h => ?_)
      refine r_nmM h (fun m11 h => ?_)
      refine r_aload_n X dX11_drawMonths_191 rfl 0 rfl ?_
      refine r_getF X (k := 15) (of := 165) rfl (Lp_N Lpk_0 rfl) Lpk_0 rfl (by decide) ui_11 (by decide) uw2_198 rfl dX11_drawMonths_192 ?_
      refine r_iconst (v := (2)) X dX11_drawMonths_195 (by decide) ?_
      refine r_aload_n X dX11_drawMonths_196 rfl 0 rfl ?_
      refine r_getF X (k := 5) (of := 66) rfl (Lp_N Lpk_0 rfl) Lpk_0 rfl (by decide) ui_11 (by decide) uw2_188 rfl dX11_drawMonths_197 ?_
      refine r_getIN X (k := 5) (Lp_N Lpk_66 rfl) Lpk_66 rfl (by decide) ui_6 (by decide) hl301 rfl dX11_drawMonths_200 ?_
      refine r_iast X (Lp_N Lpk_165 rfl) Lpk_165 (g_in rfl h) dX11_drawMonths_203 (fun h => ?_)
      refine r_nmM h (fun m12 h => ?_)
      exact r_vret X rfl dX11_drawMonths_204 h
    · refine r_iconst (v := (0)) X dX11_drawMonths_57 (by decide) ?_
      refine r_istore (lv2 := [(6, .int ((0))), (0, .ref (ad (0))), (2, .int (p2)), (3, .int (x6)), (4, .int (x7)), (5, .int (x8))]) X dX11_drawMonths_58 (by decide) rfl ?_
      exact r_sub [1, 2, 3, 4, 5, 0] rfl (hL60 k51 hk51 4000 x6 x7 x8 ((0)) m9 h)
  have hL51 : ∀ (n : Nat), ∀ (x6 : Int32) (x7 : Int32) (x8 : Int32) (m9 : Mm), lop (fun _ _ _ _ => none) (f_X11_drawMonths_B51 p1 p2 ) n x6 x7 x8 m9 = some mem2 → Jd p l e ({ frames := 5, cells := 0, slots := 0, locals := 112 }) s m args below meth c 7 (MQ below (PsV Lp ad cy dC dI mem2 A) args s 0 0 A) A dC dI cy Lp ad m9 51 [(0, .ref (ad (0))), (2, .int (p2)), (3, .int (x6)), (4, .int (x7)), (5, .int (x8))] [] := by
    intro  n
    induction n with
    | zero => intro _ _ _ _ h; cases h
    | succ n ih => intro a0 a1 a2 a3 h; exact hJ51  _ ih a0 a1 a2 a3 h
  unfold f_X11_drawMonths at h
  refine r_iconst (v := (0)) X dX11_drawMonths_0 (by decide) ?_
  refine r_istore_n (lv2 := [(3, .int ((0))), (0, .ref (ad (0))), (1, .int (p1)), (2, .int (p2))]) X dX11_drawMonths_1 rfl (by decide) rfl ?_
  refine r_iconst (v := (0)) X dX11_drawMonths_2 (by decide) ?_
  refine r_istore (lv2 := [(4, .int ((0))), (3, .int ((0))), (0, .ref (ad (0))), (1, .int (p1)), (2, .int (p2))]) X dX11_drawMonths_3 (by decide) rfl ?_
  refine r_aload_n X dX11_drawMonths_5 rfl 2 rfl ?_
  refine r_iload_n X dX11_drawMonths_6 rfl 3 rfl ?_
  refine r_i2l X dX11_drawMonths_7 ?_
  refine r_putJ X (k := 16) (Lp_N Lpk_0 rfl) Lpk_0 rfl (by decide) ui_11 (by decide) uw2_199 tyX11_ok nmX11 rfl rfl rfl dX11_drawMonths_8 ?_
  refine r_nmM h (fun m1 h => ?_)
  refine r_aload_n X dX11_drawMonths_11 rfl 2 rfl ?_
  refine r_getF X (k := 5) (of := 66) rfl (Lp_N Lpk_0 rfl) Lpk_0 rfl (by decide) ui_11 (by decide) uw2_188 rfl dX11_drawMonths_12 ?_
  refine r_aload_n X dX11_drawMonths_15 rfl 2 rfl ?_
  refine r_getF X (k := 4) (of := 64) rfl (Lp_N Lpk_0 rfl) Lpk_0 rfl (by decide) ui_11 (by decide) uw2_187 rfl dX11_drawMonths_16 ?_
  refine r_cVV (As := [.ref (ad (64))]) (rest := []) X (fun m9 hg => k_X6_copyFrom Lpk_66 Lpk_64 hg) h (Lp_N Lpk_66 rfl) Lpk_66 rfl (by decide) uw4_65 uw4_66 uw4_67 uw1_7 uw4_68 rfl rfl dd_X6_copyFrom ⟨Nat.le_of_ble_eq_true rfl, Nat.le_of_ble_eq_true rfl⟩ rfl (Nat.le_of_ble_eq_true rfl) dX11_drawMonths_19 rfl (fun m2 h => ?_)
  refine r_aload_n X dX11_drawMonths_22 rfl 2 rfl ?_
  refine r_getF X (k := 5) (of := 66) rfl (Lp_N Lpk_0 rfl) Lpk_0 rfl (by decide) ui_11 (by decide) uw2_188 rfl dX11_drawMonths_23 ?_
  refine r_iconst (v := (0)) X dX11_drawMonths_26 (by decide) ?_
  refine r_putIN X (k := 5) (Lp_N Lpk_66 rfl) Lpk_66 rfl (by decide) ui_6 (by decide) hl301 tyX6_ok nmX6 rfl rfl rfl dX11_drawMonths_27 ?_
  refine r_nmM h (fun m3 h => ?_)
  refine r_aload_n X dX11_drawMonths_30 rfl 2 rfl ?_
  refine r_getF X (k := 10) (of := 82) rfl (Lp_N Lpk_0 rfl) Lpk_0 rfl (by decide) ui_11 (by decide) uw2_193 rfl dX11_drawMonths_31 ?_
  refine r_aload_n X dX11_drawMonths_34 rfl 2 rfl ?_
  refine r_getR X 7 (k := 2) (Lp_N Lpk_0 rfl) Lpk_0 rfl (by decide) ui_11 (by decide) uw2_185 rfl h dX11_drawMonths_35 (fun q4 eq4 h => ?_)
  refine r_aload_n X dX11_drawMonths_38 rfl 2 rfl ?_
  refine r_getF X (k := 5) (of := 66) rfl (Lp_N Lpk_0 rfl) Lpk_0 rfl (by decide) ui_11 (by decide) uw2_188 rfl dX11_drawMonths_39 ?_
  refine r_getIN X (k := 2) (Lp_N Lpk_66 rfl) Lpk_66 rfl (by decide) ui_6 (by decide) hl138 rfl dX11_drawMonths_42 ?_
  refine r_cVV (As := [.ref (ad (q4)), .int (gI m3 66 2)]) (rest := []) X (fun m9 hg => k_X1_prepare eq4 hg) h (Lp_N Lpk_82 rfl) Lpk_82 rfl (by decide) uw4_69 uw4_70 uw4_71 uw1_11 uw4_72 rfl rfl dd_X1_prepare ⟨Nat.le_of_ble_eq_true rfl, Nat.le_of_ble_eq_true rfl⟩ rfl (Nat.le_of_ble_eq_true rfl) dX11_drawMonths_45 rfl (fun m5 h => ?_)
  refine r_iconst (v := (0)) X dX11_drawMonths_48 (by decide) ?_
  refine r_istore (lv2 := [(5, .int ((0))), (4, .int ((0))), (3, .int ((0))), (0, .ref (ad (0))), (1, .int (p1)), (2, .int (p2))]) X dX11_drawMonths_49 (by decide) rfl ?_
  exact r_sub [3, 5, 2, 1, 0] rfl (hL51 4000 ((0)) ((0)) ((0)) m5 h)
noncomputable def f_X11_mark (p1 : Int32) (p2 : Int32) (mem : Mm) : Option (Int32 × Mm) :=
  if p1 < 0 then (grd (bok ((0))) (some ((0), mem))) else (if p1 < ((4)) then (grd (inb p1 4) (bnd (91 + (1 + 10 * p1.toNatClampNeg)) fun q1 => if ¬ p2 = 0 then (if ¬ (gI mem q1 3) = 0 then (bdV (f_X3_bringBack q1 64 68 76 mem) fun m2 => bnd (sI m2 0 14 ((0))) fun m3 => grd (bok ((1))) (some ((1), m3))) else (grd (bok ((0))) (some ((0), mem)))) else (bdV (f_X3_lay q1 64 68 76 mem) fun m4 => grd (bok ((1))) (some ((1), m4))))) else (grd (bok ((0))) (some ((0), mem))))
theorem dd_X11_mark : yX11_mark.cls = RX11 ∧ yX11_mark.cls ≠ "java/lang/invoke/MethodHandle" ∧ yX11_mark.cls ≠ "java/lang/invoke/VarHandle" ∧ (parseMethodDescriptor yX11_mark.desc).map (fun d => d.parameters.length) = some 2 := by decide +kernel
set_option maxHeartbeats 4000000 in
set_option maxRecDepth 100000 in
theorem k_X11_mark {l : Launch} {ad : Nat → Nat} {cy : Nat → ClassId} {dC : Nat → ClassId} {dI : Nat → Nat → Nat} {ks : (Nat → Nat) × (Nat → Nat)} {p1 : Int32} {p2 : Int32} {mem : Mm} {r2 : Int32} {mem2 : Mm}  (h : f_X11_mark p1 p2 mem = some (r2, mem2)) : CtI l Lp ad cy dC dI ks yX11_mark cX11_mark 4 (some .boolean) ({ frames := 2, cells := 0, slots := 0, locals := 45 }) [.ref (ad (0)), .int (p1), .int (p2)] mem r2 mem2 := by
  refine CtI.of (cc := cX11_mark) (maxL := 4) (ret := (some .boolean)) (own := RX11) rfl (by decide) (Nat.le_of_ble_eq_true rfl) ?_
  intro p e s m args below meth c A X
  have hts := X.2.2.2.2.1
  have hl291 := X.2.2.2.2.2.2.1 (.fieldLinkNest "StationPiano" 291 "StationPiano$Mark" "laid" "Z" "StationPiano") (List.mem_of_getElem? (i := 77) rfl)
  unfold f_X11_mark at h
  refine r_iload_n X dX11_mark_0 rfl 1 rfl ?_
  refine r_if_lt (tgt := 9) X dX11_mark_1 (by decide) h (fun h => ?_) (fun h => ?_)
  · refine r_iconst (v := (0)) X dX11_mark_9 (by decide) ?_
    exact r_zret2 X rfl dX11_mark_10 h
  · refine r_iload_n X dX11_mark_4 rfl 1 rfl ?_
    refine r_iconst (v := (4)) X dX11_mark_5 (by decide) ?_
    refine r_icmp_lt (tgt := 11) X dX11_mark_6 (by decide) h (fun h => ?_) (fun h => ?_)
    · refine r_aload_n X dX11_mark_11 rfl 0 rfl ?_
      refine r_getF X (k := 11) (of := 91) rfl (Lp_N Lpk_0 rfl) Lpk_0 rfl (by decide) ui_11 (by decide) uw2_194 rfl dX11_mark_12 ?_
      refine r_iload_n X dX11_mark_15 rfl 1 rfl ?_
      refine r_ald17 X (Lp_N Lpk_91 rfl) Lpk_91 (Lp_e17 Lpk_91) rfl h dX11_mark_16 (fun q1 eq1 h => ?_)
      refine r_astore_n (lv2 := [(3, .ref (ad (q1))), (0, .ref (ad (0))), (1, .int (p1)), (2, .int (p2))]) X dX11_mark_17 rfl (by decide) rfl ?_
      refine r_iload_n X dX11_mark_18 rfl 3 rfl ?_
      refine r_if_ne (tgt := 40) X dX11_mark_19 (by decide) h (fun h => ?_) (fun h => ?_)
      · refine r_aload_n X dX11_mark_40 rfl 0 rfl ?_
        refine r_getIN X (k := 3) (Lp_N eq1 rfl) eq1 rfl (by decide) ui_3 (by decide) hl291 rfl dX11_mark_41 ?_
        refine r_if_ne (tgt := 49) X dX11_mark_44 (by decide) h (fun h => ?_) (fun h => ?_)
        · refine r_aload_n X dX11_mark_49 rfl 0 rfl ?_
          refine r_aload_n X dX11_mark_50 rfl 1 rfl ?_
          refine r_getF X (k := 4) (of := 64) rfl (Lp_N Lpk_0 rfl) Lpk_0 rfl (by decide) ui_11 (by decide) uw2_187 rfl dX11_mark_51 ?_
          refine r_aload_n X dX11_mark_54 rfl 1 rfl ?_
          refine r_getF X (k := 6) (of := 68) rfl (Lp_N Lpk_0 rfl) Lpk_0 rfl (by decide) ui_11 (by decide) uw2_189 rfl dX11_mark_55 ?_
          refine r_aload_n X dX11_mark_58 rfl 1 rfl ?_
          refine r_getF X (k := 8) (of := 76) rfl (Lp_N Lpk_0 rfl) Lpk_0 rfl (by decide) ui_11 (by decide) uw2_191 rfl dX11_mark_59 ?_
          refine r_cVV (As := [.ref (ad (64)), .ref (ad (68)), .ref (ad (76))]) (rest := []) X (fun m9 hg => k_X3_bringBack eq1 Lpk_64 Lpk_68 Lpk_76 hg) h (Lp_N eq1 rfl) eq1 rfl (by decide) uw5_42 uw5_43 uw5_44 uw1_12 uw5_45 rfl rfl dd_X3_bringBack ⟨Nat.le_of_ble_eq_true rfl, Nat.le_of_ble_eq_true rfl⟩ rfl (Nat.le_of_ble_eq_true rfl) dX11_mark_62 rfl (fun m2 h => ?_)
          refine r_aload_n X dX11_mark_65 rfl 1 rfl ?_
          refine r_iconst (v := (0)) X dX11_mark_66 (by decide) ?_
          refine r_putI X (k := 14) (Lp_N Lpk_0 rfl) Lpk_0 rfl (by decide) ui_11 (by decide) uw2_197 tyX11_ok nmX11 rfl rfl rfl dX11_mark_67 ?_
          refine r_nmM h (fun m3 h => ?_)
          refine r_iconst (v := (1)) X dX11_mark_70 (by decide) ?_
          exact r_zret2 X rfl dX11_mark_71 h
        · refine r_iconst (v := (0)) X dX11_mark_47 (by decide) ?_
          exact r_zret2 X rfl dX11_mark_48 h
      · refine r_aload_n X dX11_mark_22 rfl 0 rfl ?_
        refine r_aload_n X dX11_mark_23 rfl 1 rfl ?_
        refine r_getF X (k := 4) (of := 64) rfl (Lp_N Lpk_0 rfl) Lpk_0 rfl (by decide) ui_11 (by decide) uw2_187 rfl dX11_mark_24 ?_
        refine r_aload_n X dX11_mark_27 rfl 1 rfl ?_
        refine r_getF X (k := 6) (of := 68) rfl (Lp_N Lpk_0 rfl) Lpk_0 rfl (by decide) ui_11 (by decide) uw2_189 rfl dX11_mark_28 ?_
        refine r_aload_n X dX11_mark_31 rfl 1 rfl ?_
        refine r_getF X (k := 8) (of := 76) rfl (Lp_N Lpk_0 rfl) Lpk_0 rfl (by decide) ui_11 (by decide) uw2_191 rfl dX11_mark_32 ?_
        refine r_cVV (As := [.ref (ad (64)), .ref (ad (68)), .ref (ad (76))]) (rest := []) X (fun m9 hg => k_X3_lay eq1 Lpk_64 Lpk_68 Lpk_76 hg) h (Lp_N eq1 rfl) eq1 rfl (by decide) uw5_32 uw5_33 uw5_34 uw1_12 uw5_35 rfl rfl dd_X3_lay ⟨Nat.le_of_ble_eq_true rfl, Nat.le_of_ble_eq_true rfl⟩ rfl (Nat.le_of_ble_eq_true rfl) dX11_mark_35 rfl (fun m4 h => ?_)
        refine r_iconst (v := (1)) X dX11_mark_38 (by decide) ?_
        exact r_zret2 X rfl dX11_mark_39 h
    · refine r_iconst (v := (0)) X dX11_mark_9 (by decide) ?_
      exact r_zret2 X rfl dX11_mark_10 h
noncomputable def f_X11_count (p1 : Int32) (mem : Mm) : Option (Int32 × Mm) :=
  if p1 = (0) then (grd (decide (Lp.1 (gR mem 0 2) = 7)) (bnd (gR mem 0 2) fun q1 => some (gI mem q1 6, mem))) else (if p1 = (1) then (grd (decide (Lp.1 (gR mem 0 2) = 7)) (bnd (gR mem 0 2) fun q2 => some (gI mem q2 7, mem))) else (if p1 = (2) then (grd (decide (Lp.1 (gR mem 0 2) = 7)) (bnd (gR mem 0 2) fun q3 => some (gI mem q3 8, mem))) else (if p1 = (3) then (some (gI mem 64 2, mem)) else (if p1 = (4) then (some (gI mem 64 3, mem)) else (if p1 = (5) then (some (gI mem 64 4, mem)) else (if p1 = (6) then (grd (decide (Lp.1 (gR mem 0 2) = 7)) (bnd (gR mem 0 2) fun q4 => some (gI mem q4 12, mem))) else (if p1 = (7) then (some (gI mem 64 1, mem)) else (if p1 = (8) then (some (gI mem 64 5, mem)) else (if p1 = (9) then (bdI (f_X6_goneKeys 64 mem) fun x6 m5 => some (x6, m5)) else (if p1 = (10) then (some (gI mem 68 3, mem)) else (if p1 = (11) then (some (gI mem 76 2, mem)) else (if p1 = (12) then (some (gI mem 0 14, mem)) else (if p1 = (13) then (some (gI mem 1 1, mem)) else (some ((-1), mem)))))))))))))))
theorem dd_X11_count : yX11_count.cls = RX11 ∧ yX11_count.cls ≠ "java/lang/invoke/MethodHandle" ∧ yX11_count.cls ≠ "java/lang/invoke/VarHandle" ∧ (parseMethodDescriptor yX11_count.desc).map (fun d => d.parameters.length) = some 1 := by decide +kernel
set_option maxHeartbeats 4000000 in
set_option maxRecDepth 100000 in
theorem k_X11_count {l : Launch} {ad : Nat → Nat} {cy : Nat → ClassId} {dC : Nat → ClassId} {dI : Nat → Nat → Nat} {ks : (Nat → Nat) × (Nat → Nat)} {p1 : Int32} {mem : Mm} {r2 : Int32} {mem2 : Mm}  (h : f_X11_count p1 mem = some (r2, mem2)) : CtI l Lp ad cy dC dI ks yX11_count cX11_count 2 (some .int) ({ frames := 1, cells := 0, slots := 0, locals := 22 }) [.ref (ad (0)), .int (p1)] mem r2 mem2 := by
  refine CtI.of (cc := cX11_count) (maxL := 2) (ret := (some .int)) (own := RX11) rfl (by decide) (Nat.le_of_ble_eq_true rfl) ?_
  intro p e s m args below meth c A X
  have hts := X.2.2.2.2.1
  have hl97 := X.2.2.2.2.2.2.1 (.fieldLinkNest "StationPiano" 97 "StationPiano$Tape" "length" "I" "StationPiano") (List.mem_of_getElem? (i := 0) rfl)
  have hl138 := X.2.2.2.2.2.2.1 (.fieldLinkNest "StationPiano" 138 "StationPiano$State" "minutes" "I" "StationPiano") (List.mem_of_getElem? (i := 57) rfl)
  have hl148 := X.2.2.2.2.2.2.1 (.fieldLinkNest "StationPiano" 148 "StationPiano$Station" "tuneCount" "I" "StationPiano") (List.mem_of_getElem? (i := 36) rfl)
  have hl173 := X.2.2.2.2.2.2.1 (.fieldLinkNest "StationPiano" 173 "StationPiano$Station" "passerCount" "I" "StationPiano") (List.mem_of_getElem? (i := 40) rfl)
  have hl187 := X.2.2.2.2.2.2.1 (.fieldLinkNest "StationPiano" 187 "StationPiano$State" "day" "I" "StationPiano") (List.mem_of_getElem? (i := 56) rfl)
  have hl193 := X.2.2.2.2.2.2.1 (.fieldLinkNest "StationPiano" 193 "StationPiano$Station" "price" "I" "StationPiano") (List.mem_of_getElem? (i := 51) rfl)
  have hl202 := X.2.2.2.2.2.2.1 (.fieldLinkNest "StationPiano" 202 "StationPiano$State" "from" "I" "StationPiano") (List.mem_of_getElem? (i := 59) rfl)
  have hl205 := X.2.2.2.2.2.2.1 (.fieldLinkNest "StationPiano" 205 "StationPiano$State" "to" "I" "StationPiano") (List.mem_of_getElem? (i := 61) rfl)
  have hl298 := X.2.2.2.2.2.2.1 (.fieldLinkNest "StationPiano" 298 "StationPiano$Station" "waits" "I" "StationPiano") (List.mem_of_getElem? (i := 44) rfl)
  have hl301 := X.2.2.2.2.2.2.1 (.fieldLinkNest "StationPiano" 301 "StationPiano$State" "paid" "I" "StationPiano") (List.mem_of_getElem? (i := 62) rfl)
  have hl308 := X.2.2.2.2.2.2.1 (.fieldLinkNest "StationPiano" 308 "StationPiano$Week" "length" "I" "StationPiano") (List.mem_of_getElem? (i := 67) rfl)
  have hl309 := X.2.2.2.2.2.2.1 (.fieldLinkNest "StationPiano" 309 "StationPiano$Clues" "length" "I" "StationPiano") (List.mem_of_getElem? (i := 68) rfl)
  unfold f_X11_count at h
  refine r_iload_n X dX11_count_0 rfl 1 rfl ?_
  by_cases c1_0 : p1 = (0)
  · have h := ite_p c1_0 h
    refine r_tin (off := 71) (tgt := 72) X dX11_count_1 (by rw [c1_0]; decide) (by rw [c1_0]; decide) (by rw [c1_0]; rfl) (by decide) ?_
    refine r_aload_n X dX11_count_72 rfl 0 rfl ?_
    refine r_getR X 7 (k := 2) (Lp_N Lpk_0 rfl) Lpk_0 rfl (by decide) ui_11 (by decide) uw2_185 rfl h dX11_count_73 (fun q1 eq1 h => ?_)
    refine r_getIN X (k := 6) (Lp_N eq1 rfl) eq1 rfl (by decide) ui_7 (by decide) hl148 rfl dX11_count_76 ?_
    exact r_iret2 X rfl dX11_count_79 h
  have h := ite_n c1_0 h
  by_cases c1_1 : p1 = (1)
  · have h := ite_p c1_1 h
    refine r_tin (off := 79) (tgt := 80) X dX11_count_1 (by rw [c1_1]; decide) (by rw [c1_1]; decide) (by rw [c1_1]; rfl) (by decide) ?_
    refine r_aload_n X dX11_count_80 rfl 0 rfl ?_
    refine r_getR X 7 (k := 2) (Lp_N Lpk_0 rfl) Lpk_0 rfl (by decide) ui_11 (by decide) uw2_185 rfl h dX11_count_81 (fun q2 eq2 h => ?_)
    refine r_getIN X (k := 7) (Lp_N eq2 rfl) eq2 rfl (by decide) ui_7 (by decide) hl173 rfl dX11_count_84 ?_
    exact r_iret2 X rfl dX11_count_87 h
  have h := ite_n c1_1 h
  by_cases c1_2 : p1 = (2)
  · have h := ite_p c1_2 h
    refine r_tin (off := 87) (tgt := 88) X dX11_count_1 (by rw [c1_2]; decide) (by rw [c1_2]; decide) (by rw [c1_2]; rfl) (by decide) ?_
    refine r_aload_n X dX11_count_88 rfl 0 rfl ?_
    refine r_getR X 7 (k := 2) (Lp_N Lpk_0 rfl) Lpk_0 rfl (by decide) ui_11 (by decide) uw2_185 rfl h dX11_count_89 (fun q3 eq3 h => ?_)
    refine r_getIN X (k := 8) (Lp_N eq3 rfl) eq3 rfl (by decide) ui_7 (by decide) hl298 rfl dX11_count_92 ?_
    exact r_iret2 X rfl dX11_count_95 h
  have h := ite_n c1_2 h
  by_cases c1_3 : p1 = (3)
  · have h := ite_p c1_3 h
    refine r_tin (off := 95) (tgt := 96) X dX11_count_1 (by rw [c1_3]; decide) (by rw [c1_3]; decide) (by rw [c1_3]; rfl) (by decide) ?_
    refine r_aload_n X dX11_count_96 rfl 0 rfl ?_
    refine r_getF X (k := 4) (of := 64) rfl (Lp_N Lpk_0 rfl) Lpk_0 rfl (by decide) ui_11 (by decide) uw2_187 rfl dX11_count_97 ?_
    refine r_getIN X (k := 2) (Lp_N Lpk_64 rfl) Lpk_64 rfl (by decide) ui_6 (by decide) hl138 rfl dX11_count_100 ?_
    exact r_iret2 X rfl dX11_count_103 h
  have h := ite_n c1_3 h
  by_cases c1_4 : p1 = (4)
  · have h := ite_p c1_4 h
    refine r_tin (off := 103) (tgt := 104) X dX11_count_1 (by rw [c1_4]; decide) (by rw [c1_4]; decide) (by rw [c1_4]; rfl) (by decide) ?_
    refine r_aload_n X dX11_count_104 rfl 0 rfl ?_
    refine r_getF X (k := 4) (of := 64) rfl (Lp_N Lpk_0 rfl) Lpk_0 rfl (by decide) ui_11 (by decide) uw2_187 rfl dX11_count_105 ?_
    refine r_getIN X (k := 3) (Lp_N Lpk_64 rfl) Lpk_64 rfl (by decide) ui_6 (by decide) hl202 rfl dX11_count_108 ?_
    exact r_iret2 X rfl dX11_count_111 h
  have h := ite_n c1_4 h
  by_cases c1_5 : p1 = (5)
  · have h := ite_p c1_5 h
    refine r_tin (off := 111) (tgt := 112) X dX11_count_1 (by rw [c1_5]; decide) (by rw [c1_5]; decide) (by rw [c1_5]; rfl) (by decide) ?_
    refine r_aload_n X dX11_count_112 rfl 0 rfl ?_
    refine r_getF X (k := 4) (of := 64) rfl (Lp_N Lpk_0 rfl) Lpk_0 rfl (by decide) ui_11 (by decide) uw2_187 rfl dX11_count_113 ?_
    refine r_getIN X (k := 4) (Lp_N Lpk_64 rfl) Lpk_64 rfl (by decide) ui_6 (by decide) hl205 rfl dX11_count_116 ?_
    exact r_iret2 X rfl dX11_count_119 h
  have h := ite_n c1_5 h
  by_cases c1_6 : p1 = (6)
  · have h := ite_p c1_6 h
    refine r_tin (off := 119) (tgt := 120) X dX11_count_1 (by rw [c1_6]; decide) (by rw [c1_6]; decide) (by rw [c1_6]; rfl) (by decide) ?_
    refine r_aload_n X dX11_count_120 rfl 0 rfl ?_
    refine r_getR X 7 (k := 2) (Lp_N Lpk_0 rfl) Lpk_0 rfl (by decide) ui_11 (by decide) uw2_185 rfl h dX11_count_121 (fun q4 eq4 h => ?_)
    refine r_getIN X (k := 12) (Lp_N eq4 rfl) eq4 rfl (by decide) ui_7 (by decide) hl193 rfl dX11_count_124 ?_
    exact r_iret2 X rfl dX11_count_127 h
  have h := ite_n c1_6 h
  by_cases c1_7 : p1 = (7)
  · have h := ite_p c1_7 h
    refine r_tin (off := 127) (tgt := 128) X dX11_count_1 (by rw [c1_7]; decide) (by rw [c1_7]; decide) (by rw [c1_7]; rfl) (by decide) ?_
    refine r_aload_n X dX11_count_128 rfl 0 rfl ?_
    refine r_getF X (k := 4) (of := 64) rfl (Lp_N Lpk_0 rfl) Lpk_0 rfl (by decide) ui_11 (by decide) uw2_187 rfl dX11_count_129 ?_
    refine r_getIN X (k := 1) (Lp_N Lpk_64 rfl) Lpk_64 rfl (by decide) ui_6 (by decide) hl187 rfl dX11_count_132 ?_
    exact r_iret2 X rfl dX11_count_135 h
  have h := ite_n c1_7 h
  by_cases c1_8 : p1 = (8)
  · have h := ite_p c1_8 h
    refine r_tin (off := 135) (tgt := 136) X dX11_count_1 (by rw [c1_8]; decide) (by rw [c1_8]; decide) (by rw [c1_8]; rfl) (by decide) ?_
    refine r_aload_n X dX11_count_136 rfl 0 rfl ?_
    refine r_getF X (k := 4) (of := 64) rfl (Lp_N Lpk_0 rfl) Lpk_0 rfl (by decide) ui_11 (by decide) uw2_187 rfl dX11_count_137 ?_
    refine r_getIN X (k := 5) (Lp_N Lpk_64 rfl) Lpk_64 rfl (by decide) ui_6 (by decide) hl301 rfl dX11_count_140 ?_
    exact r_iret2 X rfl dX11_count_143 h
  have h := ite_n c1_8 h
  by_cases c1_9 : p1 = (9)
  · have h := ite_p c1_9 h
    refine r_tin (off := 143) (tgt := 144) X dX11_count_1 (by rw [c1_9]; decide) (by rw [c1_9]; decide) (by rw [c1_9]; rfl) (by decide) ?_
    refine r_aload_n X dX11_count_144 rfl 0 rfl ?_
    refine r_getF X (k := 4) (of := 64) rfl (Lp_N Lpk_0 rfl) Lpk_0 rfl (by decide) ui_11 (by decide) uw2_187 rfl dX11_count_145 ?_
    refine r_cVI (As := []) (rest := []) X (fun r9 m9 hg => k_X6_goneKeys Lpk_64 hg) h (Lp_N Lpk_64 rfl) Lpk_64 rfl (by decide) uw5_50 uw5_51 uw5_52 uw1_7 uw5_53 rfl rfl dd_X6_goneKeys ⟨Nat.le_of_ble_eq_true rfl, Nat.le_of_ble_eq_true rfl⟩ rfl (Nat.le_of_ble_eq_true rfl) dX11_count_148 rfl (fun x6 m5 h => ?_)
    exact r_iret2 X rfl dX11_count_151 h
  have h := ite_n c1_9 h
  by_cases c1_10 : p1 = (10)
  · have h := ite_p c1_10 h
    refine r_tin (off := 151) (tgt := 152) X dX11_count_1 (by rw [c1_10]; decide) (by rw [c1_10]; decide) (by rw [c1_10]; rfl) (by decide) ?_
    refine r_aload_n X dX11_count_152 rfl 0 rfl ?_
    refine r_getF X (k := 6) (of := 68) rfl (Lp_N Lpk_0 rfl) Lpk_0 rfl (by decide) ui_11 (by decide) uw2_189 rfl dX11_count_153 ?_
    refine r_getIN X (k := 3) (Lp_N Lpk_68 rfl) Lpk_68 rfl (by decide) ui_10 (by decide) hl308 rfl dX11_count_156 ?_
    exact r_iret2 X rfl dX11_count_159 h
  have h := ite_n c1_10 h
  by_cases c1_11 : p1 = (11)
  · have h := ite_p c1_11 h
    refine r_tin (off := 159) (tgt := 160) X dX11_count_1 (by rw [c1_11]; decide) (by rw [c1_11]; decide) (by rw [c1_11]; rfl) (by decide) ?_
    refine r_aload_n X dX11_count_160 rfl 0 rfl ?_
    refine r_getF X (k := 8) (of := 76) rfl (Lp_N Lpk_0 rfl) Lpk_0 rfl (by decide) ui_11 (by decide) uw2_191 rfl dX11_count_161 ?_
    refine r_getIN X (k := 2) (Lp_N Lpk_76 rfl) Lpk_76 rfl (by decide) ui_0 (by decide) hl309 rfl dX11_count_164 ?_
    exact r_iret2 X rfl dX11_count_167 h
  have h := ite_n c1_11 h
  by_cases c1_12 : p1 = (12)
  · have h := ite_p c1_12 h
    refine r_tin (off := 167) (tgt := 168) X dX11_count_1 (by rw [c1_12]; decide) (by rw [c1_12]; decide) (by rw [c1_12]; rfl) (by decide) ?_
    refine r_aload_n X dX11_count_168 rfl 0 rfl ?_
    refine r_getI X (k := 14) (Lp_N Lpk_0 rfl) Lpk_0 rfl (by decide) ui_11 (by decide) uw2_197 rfl dX11_count_169 ?_
    exact r_iret2 X rfl dX11_count_172 h
  have h := ite_n c1_12 h
  by_cases c1_13 : p1 = (13)
  · have h := ite_p c1_13 h
    refine r_tin (off := 172) (tgt := 173) X dX11_count_1 (by rw [c1_13]; decide) (by rw [c1_13]; decide) (by rw [c1_13]; rfl) (by decide) ?_
    refine r_aload_n X dX11_count_173 rfl 0 rfl ?_
    refine r_getF X (k := 0) (of := 1) rfl (Lp_N Lpk_0 rfl) Lpk_0 rfl (by decide) ui_11 (by decide) uw2_183 rfl dX11_count_174 ?_
    refine r_getIN X (k := 1) (Lp_N Lpk_1 rfl) Lpk_1 rfl (by decide) ui_9 (by decide) hl97 rfl dX11_count_177 ?_
    exact r_iret2 X rfl dX11_count_180 h
  have h := ite_n c1_13 h
  refine r_tout (tgt := 181) X dX11_count_1 (tsw_out 14 (fun j hj => by rcases (show j = 0 ∨ j = 1 ∨ j = 2 ∨ j = 3 ∨ j = 4 ∨ j = 5 ∨ j = 6 ∨ j = 7 ∨ j = 8 ∨ j = 9 ∨ j = 10 ∨ j = 11 ∨ j = 12 ∨ j = 13 by omega) with rfl | rfl | rfl | rfl | rfl | rfl | rfl | rfl | rfl | rfl | rfl | rfl | rfl | rfl <;> assumption) (by decide)) (by decide) ?_
  refine r_iconst (v := (-1)) X dX11_count_181 (by decide) ?_
  exact r_iret2 X rfl dX11_count_182 h
