noncomputable def f_X11_undo_J37 (x2 : Int32) (m3 : Mm) : Option (Int32 × Mm) :=
  bnd (sI m3 0 13 x2) fun m4 => bnd (sI m4 0 14 ((gI m4 0 14) - ((1)))) fun m5 => grd (inb (gI m5 0 13) 16) (bnd (132 + (1 + 2 * (gI m5 0 13).toNatClampNeg)) fun q6 => bdV (f_X6_copyFrom 64 q6 m5) fun m7 => grd (bok ((1))) (some ((1), m7)))
noncomputable def f_X11_undo_J35 (m1 : Mm) : Option (Int32 × Mm) :=
  f_X11_undo_J37 ((15)) m1
noncomputable def f_X11_undo  (mem : Mm) : Option (Int32 × Mm) :=
  if 0 < (gI mem 0 14) then (if (gI mem 0 13) ≤ 0 then (f_X11_undo_J35 mem) else (if ((16)) ≤ (gI mem 0 13) then (f_X11_undo_J35 mem) else (f_X11_undo_J37 ((gI mem 0 13) - ((1))) mem))) else (grd (bok ((0))) (some ((0), mem)))
theorem dd_X11_undo : yX11_undo.cls = RX11 ∧ yX11_undo.cls ≠ "java/lang/invoke/MethodHandle" ∧ yX11_undo.cls ≠ "java/lang/invoke/VarHandle" ∧ (parseMethodDescriptor yX11_undo.desc).map (fun d => d.parameters.length) = some 0 := by decide +kernel
set_option maxHeartbeats 4000000 in
set_option maxRecDepth 100000 in
theorem k_X11_undo {l : Launch} {ad : Nat → Nat} {cy : Nat → ClassId} {dC : Nat → ClassId} {dI : Nat → Nat → Nat} {ks : (Nat → Nat) × (Nat → Nat)}  {mem : Mm} {r2 : Int32} {mem2 : Mm}  (h : f_X11_undo  mem = some (r2, mem2)) : CtI l Lp ad cy dC dI ks yX11_undo cX11_undo 1 (some .boolean) ({ frames := 1, cells := 0, slots := 0, locals := 22 }) [.ref (ad (0))] mem r2 mem2 := by
  refine CtI.of (cc := cX11_undo) (maxL := 1) (ret := (some .boolean)) (own := RX11) rfl (by decide) (Nat.le_of_ble_eq_true rfl) ?_
  intro p e s m args below meth c A X
  have hts := X.2.2.2.2.1
  have hJ37 : ∀ (x2 : Int32) (m3 : Mm), f_X11_undo_J37 x2 m3 = some (r2, mem2) → Jd p l e ({ frames := 1, cells := 0, slots := 0, locals := 22 }) s m args below meth c 1 (MQ below (PsI Lp ad cy dC dI r2 mem2 A) args s 0 0 A) A dC dI cy Lp ad m3 37 [(0, .ref (ad (0)))] [.int (x2), .ref (ad (0))] := by
    intro x2 m3 h
    unfold f_X11_undo_J37 at h
    refine r_putI X (k := 13) (Lp_N Lpk_0 rfl) Lpk_0 rfl (by decide) ui_11 (by decide) uw2_196 tyX11_ok nmX11 rfl rfl rfl dX11_undo_37 ?_
    refine r_nmM h (fun m4 h => ?_)
    refine r_aload_n X dX11_undo_40 rfl 0 rfl ?_
    refine r_dup X dX11_undo_41 rfl ?_
    refine r_getI X (k := 14) (Lp_N Lpk_0 rfl) Lpk_0 rfl (by decide) ui_11 (by decide) uw2_197 rfl dX11_undo_42 ?_
    refine r_iconst (v := (1)) X dX11_undo_45 (by decide) ?_
    refine r_isub X dX11_undo_46 ?_
    refine r_putI X (k := 14) (Lp_N Lpk_0 rfl) Lpk_0 rfl (by decide) ui_11 (by decide) uw2_197 tyX11_ok nmX11 rfl rfl rfl dX11_undo_47 ?_
    refine r_nmM h (fun m5 h => ?_)
    refine r_aload_n X dX11_undo_50 rfl 0 rfl ?_
    refine r_getF X (k := 4) (of := 64) rfl (Lp_N Lpk_0 rfl) Lpk_0 rfl (by decide) ui_11 (by decide) uw2_187 rfl dX11_undo_51 ?_
    refine r_aload_n X dX11_undo_54 rfl 0 rfl ?_
    refine r_getF X (k := 12) (of := 132) rfl (Lp_N Lpk_0 rfl) Lpk_0 rfl (by decide) ui_11 (by decide) uw2_195 rfl dX11_undo_55 ?_
    refine r_aload_n X dX11_undo_58 rfl 0 rfl ?_
    refine r_getI X (k := 13) (Lp_N Lpk_0 rfl) Lpk_0 rfl (by decide) ui_11 (by decide) uw2_196 rfl dX11_undo_59 ?_
    refine r_ald19 X (Lp_N Lpk_132 rfl) Lpk_132 (Lp_e19 Lpk_132) rfl h dX11_undo_62 (fun q6 eq6 h => ?_)
    refine r_cVV (As := [.ref (ad (q6))]) (rest := []) X (fun m9 hg => k_X6_copyFrom Lpk_64 eq6 hg) h (Lp_N Lpk_64 rfl) Lpk_64 rfl (by decide) uw4_65 uw4_66 uw4_67 uw1_7 uw4_68 rfl rfl dd_X6_copyFrom ⟨Nat.le_of_ble_eq_true rfl, Nat.le_of_ble_eq_true rfl⟩ rfl (Nat.le_of_ble_eq_true rfl) dX11_undo_63 rfl (fun m7 h => ?_)
    refine r_iconst (v := (1)) X dX11_undo_66 (by decide) ?_
    exact r_zret2 X rfl dX11_undo_67 h
  have hJ35 : ∀ (m1 : Mm), f_X11_undo_J35 m1 = some (r2, mem2) → Jd p l e ({ frames := 1, cells := 0, slots := 0, locals := 22 }) s m args below meth c 1 (MQ below (PsI Lp ad cy dC dI r2 mem2 A) args s 0 0 A) A dC dI cy Lp ad m1 35 [(0, .ref (ad (0)))] [.ref (ad (0))] := by
    intro m1 h
    unfold f_X11_undo_J35 at h
    refine r_bipush (v := (15)) X dX11_undo_35 (by decide) ?_
    exact r_sub [0] rfl (hJ37 ((15)) m1 h)
  unfold f_X11_undo at h
  refine r_aload_n X dX11_undo_0 rfl 0 rfl ?_
  refine r_getI X (k := 14) (Lp_N Lpk_0 rfl) Lpk_0 rfl (by decide) ui_11 (by decide) uw2_197 rfl dX11_undo_1 ?_
  refine r_if_gt (tgt := 9) X dX11_undo_4 (by decide) h (fun h => ?_) (fun h => ?_)
  · refine r_aload_n X dX11_undo_9 rfl 0 rfl ?_
    refine r_aload_n X dX11_undo_10 rfl 0 rfl ?_
    refine r_getI X (k := 13) (Lp_N Lpk_0 rfl) Lpk_0 rfl (by decide) ui_11 (by decide) uw2_196 rfl dX11_undo_11 ?_
    refine r_if_le (tgt := 35) X dX11_undo_14 (by decide) h (fun h => ?_) (fun h => ?_)
    · exact r_sub [0] rfl (hJ35 mem h)
    · refine r_aload_n X dX11_undo_17 rfl 0 rfl ?_
      refine r_getI X (k := 13) (Lp_N Lpk_0 rfl) Lpk_0 rfl (by decide) ui_11 (by decide) uw2_196 rfl dX11_undo_18 ?_
      refine r_bipush (v := (16)) X dX11_undo_21 (by decide) ?_
      refine r_icmp_ge (tgt := 35) X dX11_undo_23 (by decide) h (fun h => ?_) (fun h => ?_)
      · exact r_sub [0] rfl (hJ35 mem h)
      · refine r_aload_n X dX11_undo_26 rfl 0 rfl ?_
        refine r_getI X (k := 13) (Lp_N Lpk_0 rfl) Lpk_0 rfl (by decide) ui_11 (by decide) uw2_196 rfl dX11_undo_27 ?_
        refine r_iconst (v := (1)) X dX11_undo_30 (by decide) ?_
        refine r_isub X dX11_undo_31 ?_
        refine r_goto (tgt := 37) X dX11_undo_32 (by decide) ?_
        exact r_sub [0] rfl (hJ37 ((gI mem 0 13) - ((1))) mem h)
  · refine r_iconst (v := (0)) X dX11_undo_7 (by decide) ?_
    exact r_zret2 X rfl dX11_undo_8 h
noncomputable def f_X11_judgeWeek_J209 (k17 : Int32 → Int32 → Int32 → Mm → Option Mm) (x25 : Int32) (x26 : Int32) (x27 : Int32) (m28 : Mm) : Option Mm :=
  bnd (x27 + (1)) fun x29 => k17 x25 x26 x29 m28
noncomputable def f_X11_judgeWeek_J136 (k17 : Int32 → Int32 → Int32 → Mm → Option Mm) (x34 : Int32) (x35 : Int32) (x36 : Int32) (m37 : Mm) : Option Mm :=
  f_X11_judgeWeek_J209 k17 x36 x34 x35 m37
noncomputable def f_X11_judgeWeek_J135 (k17 : Int32 → Int32 → Int32 → Mm → Option Mm) (x30 : Int32) (x31 : Int32) (x32 : Int32) (m33 : Mm) : Option Mm :=
  f_X11_judgeWeek_J136 k17 x31 x32 x30 m33
noncomputable def f_X11_judgeWeek_J215 (x19 : Int32) (x20 : Int32) (m21 : Mm) : Option Mm :=
  bnd (sI m21 165 0 x19) fun m22 => bnd (sI m22 165 1 x20) fun m23 => bnd (sI m23 165 2 (gI m23 66 5)) fun m24 => some m24
noncomputable def f_X11_judgeWeek_B17 (k17 : Int32 → Int32 → Int32 → Mm → Option Mm) (x3 : Int32) (x4 : Int32) (x5 : Int32) (m6 : Mm) : Option Mm :=
  if (gI m6 68 3) ≤ x5 then (f_X11_judgeWeek_J215 x3 x4 m6) else (if ((40)) ≤ x5 then (f_X11_judgeWeek_J215 x3 x4 m6) else (grd (inb x5 40) (if (gI m6 69 x5.toNatClampNeg) = (8) then (grd (inb x5 40) (bnd (sI m6 66 2 (gI m6 70 x5.toNatClampNeg)) fun m7 => f_X11_judgeWeek_J209 k17 x3 x4 x5 m7)) else (if (gI m6 69 x5.toNatClampNeg) = (14) then (grd (decide (Lp.1 (gR m6 0 2) = 7)) (bnd (gR m6 0 2) fun q8 => bdV (f_X1_prepare q8 (gI m6 66 2) m6) fun m9 => bdV (f_X1_pass 66 ((0)) m9) fun m10 => bnd (x4 + (gI m10 82 10)) fun x11 => if ¬ x3 = ((-1)) then (f_X11_judgeWeek_J135 k17 x3 x11 x5 m10) else (bdI (f_X6_goneKeys 66 m10) fun x13 m12 => if x13 = 0 then (f_X11_judgeWeek_J135 k17 x3 x11 x5 m12) else (f_X11_judgeWeek_J136 k17 x11 x5 x5 m12)))) else (if (gI m6 69 x5.toNatClampNeg) = (15) then (grd (decide (Lp.1 (gR m6 0 2) = 7)) (bnd (gR m6 0 2) fun q14 => bdI (f_X6_tuneUp 66 (gI m6 q14 12) m6) fun x16 m15 => f_X11_judgeWeek_J209 k17 x3 x4 x5 m15)) else (grd (inb x5 40) (bnd (sI m6 66 3 (gI m6 70 x5.toNatClampNeg)) fun m17 => grd (inb x5 40) (bnd (sI m17 66 4 (gI m17 71 x5.toNatClampNeg)) fun m18 => f_X11_judgeWeek_J209 k17 x3 x4 x5 m18))))))))
noncomputable def f_X11_judgeWeek  (mem : Mm) : Option Mm :=
  grd (decide (Lp.1 (gR mem 0 2) = 7)) (bnd (gR mem 0 2) fun q1 => bdV (f_X6_begin 66 q1 mem) fun m2 => lop (fun _ _ _ _ => none) (f_X11_judgeWeek_B17 ) 4000 ((-1)) ((0)) ((0)) m2)
theorem dd_X11_judgeWeek : yX11_judgeWeek.cls = RX11 ∧ yX11_judgeWeek.cls ≠ "java/lang/invoke/MethodHandle" ∧ yX11_judgeWeek.cls ≠ "java/lang/invoke/VarHandle" ∧ (parseMethodDescriptor yX11_judgeWeek.desc).map (fun d => d.parameters.length) = some 0 := by decide +kernel
set_option maxHeartbeats 4000000 in
set_option maxRecDepth 100000 in
theorem k_X11_judgeWeek {l : Launch} {ad : Nat → Nat} {cy : Nat → ClassId} {dC : Nat → ClassId} {dI : Nat → Nat → Nat} {ks : (Nat → Nat) × (Nat → Nat)}  {mem : Mm} {mem2 : Mm}  (h : f_X11_judgeWeek  mem = some mem2) : CtV l Lp ad cy dC dI ks yX11_judgeWeek cX11_judgeWeek 4 none ({ frames := 5, cells := 0, slots := 0, locals := 112 }) [.ref (ad (0))] mem mem2 := by
  refine CtV.of (cc := cX11_judgeWeek) (maxL := 4) (ret := none) (own := RX11) rfl (by decide) (Nat.le_of_ble_eq_true rfl) ?_
  intro p e s m args below meth c A X
  have hts := X.2.2.2.2.1
  have hl138 := X.2.2.2.2.2.2.1 (.fieldLinkNest "StationPiano" 138 "StationPiano$State" "minutes" "I" "StationPiano") (List.mem_of_getElem? (i := 57) rfl)
  have hl190 := X.2.2.2.2.2.2.1 (.fieldLinkNest "StationPiano" 190 "StationPiano$DayRun" "joySum" "I" "StationPiano") (List.mem_of_getElem? (i := 75) rfl)
  have hl193 := X.2.2.2.2.2.2.1 (.fieldLinkNest "StationPiano" 193 "StationPiano$Station" "price" "I" "StationPiano") (List.mem_of_getElem? (i := 51) rfl)
  have hl202 := X.2.2.2.2.2.2.1 (.fieldLinkNest "StationPiano" 202 "StationPiano$State" "from" "I" "StationPiano") (List.mem_of_getElem? (i := 59) rfl)
  have hl205 := X.2.2.2.2.2.2.1 (.fieldLinkNest "StationPiano" 205 "StationPiano$State" "to" "I" "StationPiano") (List.mem_of_getElem? (i := 61) rfl)
  have hl301 := X.2.2.2.2.2.2.1 (.fieldLinkNest "StationPiano" 301 "StationPiano$State" "paid" "I" "StationPiano") (List.mem_of_getElem? (i := 62) rfl)
  have hl308 := X.2.2.2.2.2.2.1 (.fieldLinkNest "StationPiano" 308 "StationPiano$Week" "length" "I" "StationPiano") (List.mem_of_getElem? (i := 67) rfl)
  have hl315 := X.2.2.2.2.2.2.1 (.fieldLinkNest "StationPiano" 315 "StationPiano$Week" "kinds" "[I" "StationPiano") (List.mem_of_getElem? (i := 63) rfl)
  have hl318 := X.2.2.2.2.2.2.1 (.fieldLinkNest "StationPiano" 318 "StationPiano$Week" "firsts" "[I" "StationPiano") (List.mem_of_getElem? (i := 64) rfl)
  have hl321 := X.2.2.2.2.2.2.1 (.fieldLinkNest "StationPiano" 321 "StationPiano$Week" "seconds" "[I" "StationPiano") (List.mem_of_getElem? (i := 65) rfl)
  have hJ209 : ∀ (k17 : Int32 → Int32 → Int32 → Mm → Option Mm) (hk17 : ∀ (x3 : Int32) (x4 : Int32) (x5 : Int32) (m6 : Mm), k17 x3 x4 x5 m6 = some mem2 → Jd p l e ({ frames := 5, cells := 0, slots := 0, locals := 112 }) s m args below meth c 4 (MQ below (PsV Lp ad cy dC dI mem2 A) args s 0 0 A) A dC dI cy Lp ad m6 17 [(0, .ref (ad (0))), (1, .int (x3)), (2, .int (x4)), (3, .int (x5))] []) (x25 : Int32) (x26 : Int32) (x27 : Int32) (m28 : Mm), f_X11_judgeWeek_J209 k17 x25 x26 x27 m28 = some mem2 → Jd p l e ({ frames := 5, cells := 0, slots := 0, locals := 112 }) s m args below meth c 4 (MQ below (PsV Lp ad cy dC dI mem2 A) args s 0 0 A) A dC dI cy Lp ad m28 209 [(0, .ref (ad (0))), (1, .int (x25)), (2, .int (x26)), (3, .int (x27))] [] := by
    intro k17 hk17 x25 x26 x27 m28 h
    unfold f_X11_judgeWeek_J209 at h
    refine r_inc h (fun x29 e9 h => ?_)
    refine r_iinc (v := x29) (lv2 := [(3, .int (x29)), (0, .ref (ad (0))), (1, .int (x25)), (2, .int (x26))]) X dX11_judgeWeek_209 3 rfl (by rw [e9]; rfl) (by decide) rfl ?_
    refine r_goto (tgt := 17) X dX11_judgeWeek_212 (by decide) ?_
    exact r_sub [1, 2, 3, 0] rfl (hk17 x25 x26 x29 m28 h)
  have hJ136 : ∀ (k17 : Int32 → Int32 → Int32 → Mm → Option Mm) (hk17 : ∀ (x3 : Int32) (x4 : Int32) (x5 : Int32) (m6 : Mm), k17 x3 x4 x5 m6 = some mem2 → Jd p l e ({ frames := 5, cells := 0, slots := 0, locals := 112 }) s m args below meth c 4 (MQ below (PsV Lp ad cy dC dI mem2 A) args s 0 0 A) A dC dI cy Lp ad m6 17 [(0, .ref (ad (0))), (1, .int (x3)), (2, .int (x4)), (3, .int (x5))] []) (x34 : Int32) (x35 : Int32) (x36 : Int32) (m37 : Mm), f_X11_judgeWeek_J136 k17 x34 x35 x36 m37 = some mem2 → Jd p l e ({ frames := 5, cells := 0, slots := 0, locals := 112 }) s m args below meth c 4 (MQ below (PsV Lp ad cy dC dI mem2 A) args s 0 0 A) A dC dI cy Lp ad m37 136 [(0, .ref (ad (0))), (2, .int (x34)), (3, .int (x35))] [.int (x36)] := by
    intro k17 hk17 x34 x35 x36 m37 h
    unfold f_X11_judgeWeek_J136 at h
    refine r_istore_n (lv2 := [(1, .int (x36)), (0, .ref (ad (0))), (2, .int (x34)), (3, .int (x35))]) X dX11_judgeWeek_136 rfl (by decide) rfl ?_
    refine r_goto (tgt := 209) X dX11_judgeWeek_137 (by decide) ?_
    exact r_sub [1, 0, 2, 3] rfl (hJ209 k17 hk17 x36 x34 x35 m37 h)
  have hJ135 : ∀ (k17 : Int32 → Int32 → Int32 → Mm → Option Mm) (hk17 : ∀ (x3 : Int32) (x4 : Int32) (x5 : Int32) (m6 : Mm), k17 x3 x4 x5 m6 = some mem2 → Jd p l e ({ frames := 5, cells := 0, slots := 0, locals := 112 }) s m args below meth c 4 (MQ below (PsV Lp ad cy dC dI mem2 A) args s 0 0 A) A dC dI cy Lp ad m6 17 [(0, .ref (ad (0))), (1, .int (x3)), (2, .int (x4)), (3, .int (x5))] []) (x30 : Int32) (x31 : Int32) (x32 : Int32) (m33 : Mm), f_X11_judgeWeek_J135 k17 x30 x31 x32 m33 = some mem2 → Jd p l e ({ frames := 5, cells := 0, slots := 0, locals := 112 }) s m args below meth c 4 (MQ below (PsV Lp ad cy dC dI mem2 A) args s 0 0 A) A dC dI cy Lp ad m33 135 [(0, .ref (ad (0))), (1, .int (x30)), (2, .int (x31)), (3, .int (x32))] [] := by
    intro k17 hk17 x30 x31 x32 m33 h
    unfold f_X11_judgeWeek_J135 at h
    refine r_iload_n X dX11_judgeWeek_135 rfl 1 rfl ?_
    exact r_sub [0, 2, 3] rfl (hJ136 k17 hk17 x31 x32 x30 m33 h)
  have hJ215 : ∀ (x19 : Int32) (x20 : Int32) (m21 : Mm), f_X11_judgeWeek_J215 x19 x20 m21 = some mem2 → Jd p l e ({ frames := 5, cells := 0, slots := 0, locals := 112 }) s m args below meth c 4 (MQ below (PsV Lp ad cy dC dI mem2 A) args s 0 0 A) A dC dI cy Lp ad m21 215 [(0, .ref (ad (0))), (1, .int (x19)), (2, .int (x20))] [] := by
    intro x19 x20 m21 h
    unfold f_X11_judgeWeek_J215 at h
    refine r_aload_n X dX11_judgeWeek_215 rfl 0 rfl ?_
    refine r_getF X (k := 15) (of := 165) rfl (Lp_N Lpk_0 rfl) Lpk_0 rfl (by decide) ui_11 (by decide) uw2_198 rfl dX11_judgeWeek_216 ?_
    refine r_iconst (v := (0)) X dX11_judgeWeek_219 (by decide) ?_
    refine r_iload_n X dX11_judgeWeek_220 rfl 1 rfl ?_
    refine r_iast X (Lp_N Lpk_165 rfl) Lpk_165 (g_in rfl h) dX11_judgeWeek_221 (fun h => ?_)
    refine r_nmM h (fun m22 h => ?_)
    refine r_aload_n X dX11_judgeWeek_222 rfl 0 rfl ?_
    refine r_getF X (k := 15) (of := 165) rfl (Lp_N Lpk_0 rfl) Lpk_0 rfl (by decide) ui_11 (by decide) uw2_198 rfl dX11_judgeWeek_223 ?_
    refine r_iconst (v := (1)) X dX11_judgeWeek_226 (by decide) ?_
    refine r_iload_n X dX11_judgeWeek_227 rfl 2 rfl ?_
    refine r_iast X (Lp_N Lpk_165 rfl) Lpk_165 (g_in rfl h) dX11_judgeWeek_228 (fun h => ?_)
    refine r_nmM h (fun m23 h => ?_)
    refine r_aload_n X dX11_judgeWeek_229 rfl 0 rfl ?_
    refine r_getF X (k := 15) (of := 165) rfl (Lp_N Lpk_0 rfl) Lpk_0 rfl (by decide) ui_11 (by decide) uw2_198 rfl dX11_judgeWeek_230 ?_
    refine r_iconst (v := (2)) X dX11_judgeWeek_233 (by decide) ?_
    refine r_aload_n X dX11_judgeWeek_234 rfl 0 rfl ?_
    refine r_getF X (k := 5) (of := 66) rfl (Lp_N Lpk_0 rfl) Lpk_0 rfl (by decide) ui_11 (by decide) uw2_188 rfl dX11_judgeWeek_235 ?_
    refine r_getIN X (k := 5) (Lp_N Lpk_66 rfl) Lpk_66 rfl (by decide) ui_6 (by decide) hl301 rfl dX11_judgeWeek_238 ?_
    refine r_iast X (Lp_N Lpk_165 rfl) Lpk_165 (g_in rfl h) dX11_judgeWeek_241 (fun h => ?_)
    refine r_nmM h (fun m24 h => ?_)
    exact r_vret X rfl dX11_judgeWeek_242 h
  have hJ17 : ∀ (k17 : Int32 → Int32 → Int32 → Mm → Option Mm) (hk17 : ∀ (x3 : Int32) (x4 : Int32) (x5 : Int32) (m6 : Mm), k17 x3 x4 x5 m6 = some mem2 → Jd p l e ({ frames := 5, cells := 0, slots := 0, locals := 112 }) s m args below meth c 4 (MQ below (PsV Lp ad cy dC dI mem2 A) args s 0 0 A) A dC dI cy Lp ad m6 17 [(0, .ref (ad (0))), (1, .int (x3)), (2, .int (x4)), (3, .int (x5))] []) (x3 : Int32) (x4 : Int32) (x5 : Int32) (m6 : Mm), f_X11_judgeWeek_B17 k17 x3 x4 x5 m6 = some mem2 → Jd p l e ({ frames := 5, cells := 0, slots := 0, locals := 112 }) s m args below meth c 4 (MQ below (PsV Lp ad cy dC dI mem2 A) args s 0 0 A) A dC dI cy Lp ad m6 17 [(0, .ref (ad (0))), (1, .int (x3)), (2, .int (x4)), (3, .int (x5))] [] := by
    intro k17 hk17 x3 x4 x5 m6 h
    unfold f_X11_judgeWeek_B17 at h
    refine r_iload_n X dX11_judgeWeek_17 rfl 3 rfl ?_
    refine r_aload_n X dX11_judgeWeek_18 rfl 0 rfl ?_
    refine r_getF X (k := 6) (of := 68) rfl (Lp_N Lpk_0 rfl) Lpk_0 rfl (by decide) ui_11 (by decide) uw2_189 rfl dX11_judgeWeek_19 ?_
    refine r_getIN X (k := 3) (Lp_N Lpk_68 rfl) Lpk_68 rfl (by decide) ui_10 (by decide) hl308 rfl dX11_judgeWeek_22 ?_
    refine r_icmp_ge (tgt := 215) X dX11_judgeWeek_25 (by decide) h (fun h => ?_) (fun h => ?_)
    · exact r_sub [0, 1, 2] rfl (hJ215 x3 x4 m6 h)
    · refine r_iload_n X dX11_judgeWeek_28 rfl 3 rfl ?_
      refine r_bipush (v := (40)) X dX11_judgeWeek_29 (by decide) ?_
      refine r_icmp_ge (tgt := 215) X dX11_judgeWeek_31 (by decide) h (fun h => ?_) (fun h => ?_)
      · exact r_sub [0, 1, 2] rfl (hJ215 x3 x4 m6 h)
      · refine r_aload_n X dX11_judgeWeek_34 rfl 0 rfl ?_
        refine r_getF X (k := 6) (of := 68) rfl (Lp_N Lpk_0 rfl) Lpk_0 rfl (by decide) ui_11 (by decide) uw2_189 rfl dX11_judgeWeek_35 ?_
        refine r_getFN X (k := 0) (of := 1) rfl (Lp_N Lpk_68 rfl) Lpk_68 rfl (by decide) ui_10 (by decide) hl315 rfl dX11_judgeWeek_38 ?_
        refine r_iload_n X dX11_judgeWeek_41 rfl 3 rfl ?_
        refine r_iald X (Lp_N Lpk_69 rfl) Lpk_69 h dX11_judgeWeek_42 (fun h => ?_)
        by_cases c43_0 : (gI m6 69 x5.toNatClampNeg) = (8)
        · have h := ite_p c43_0 h
          refine r_look (off := 115) (tgt := 158) X dX11_judgeWeek_43 (by decide) (by rw [c43_0]; decide) (by decide) ?_
          refine r_aload_n X dX11_judgeWeek_158 rfl 0 rfl ?_
          refine r_getF X (k := 5) (of := 66) rfl (Lp_N Lpk_0 rfl) Lpk_0 rfl (by decide) ui_11 (by decide) uw2_188 rfl dX11_judgeWeek_159 ?_
          refine r_aload_n X dX11_judgeWeek_162 rfl 0 rfl ?_
          refine r_getF X (k := 6) (of := 68) rfl (Lp_N Lpk_0 rfl) Lpk_0 rfl (by decide) ui_11 (by decide) uw2_189 rfl dX11_judgeWeek_163 ?_
          refine r_getFN X (k := 1) (of := 2) rfl (Lp_N Lpk_68 rfl) Lpk_68 rfl (by decide) ui_10 (by decide) hl318 rfl dX11_judgeWeek_166 ?_
          refine r_iload_n X dX11_judgeWeek_169 rfl 3 rfl ?_
          refine r_iald X (Lp_N Lpk_70 rfl) Lpk_70 h dX11_judgeWeek_170 (fun h => ?_)
          refine r_putIN X (k := 2) (Lp_N Lpk_66 rfl) Lpk_66 rfl (by decide) ui_6 (by decide) hl138 tyX6_ok nmX6 rfl rfl rfl dX11_judgeWeek_171 ?_
          refine r_nmM h (fun m7 h => ?_)
          refine r_goto (tgt := 209) X dX11_judgeWeek_174 (by decide) ?_
          exact r_sub [0, 1, 2, 3] rfl (hJ209 k17 hk17 x3 x4 x5 m7 h)
        have h := ite_n c43_0 h
        by_cases c43_1 : (gI m6 69 x5.toNatClampNeg) = (14)
        · have h := ite_p c43_1 h
          refine r_look (off := 33) (tgt := 76) X dX11_judgeWeek_43 (by decide) (by rw [c43_1]; decide) (by decide) ?_
          refine r_aload_n X dX11_judgeWeek_76 rfl 0 rfl ?_
          refine r_getF X (k := 10) (of := 82) rfl (Lp_N Lpk_0 rfl) Lpk_0 rfl (by decide) ui_11 (by decide) uw2_193 rfl dX11_judgeWeek_77 ?_
          refine r_aload_n X dX11_judgeWeek_80 rfl 0 rfl ?_
          refine r_getR X 7 (k := 2) (Lp_N Lpk_0 rfl) Lpk_0 rfl (by decide) ui_11 (by decide) uw2_185 rfl h dX11_judgeWeek_81 (fun q8 eq8 h => ?_)
          refine r_aload_n X dX11_judgeWeek_84 rfl 0 rfl ?_
          refine r_getF X (k := 5) (of := 66) rfl (Lp_N Lpk_0 rfl) Lpk_0 rfl (by decide) ui_11 (by decide) uw2_188 rfl dX11_judgeWeek_85 ?_
          refine r_getIN X (k := 2) (Lp_N Lpk_66 rfl) Lpk_66 rfl (by decide) ui_6 (by decide) hl138 rfl dX11_judgeWeek_88 ?_
          refine r_cVV (As := [.ref (ad (q8)), .int (gI m6 66 2)]) (rest := []) X (fun m9 hg => k_X1_prepare eq8 hg) h (Lp_N Lpk_82 rfl) Lpk_82 rfl (by decide) uw4_69 uw4_70 uw4_71 uw1_11 uw4_72 rfl rfl dd_X1_prepare ⟨Nat.le_of_ble_eq_true rfl, Nat.le_of_ble_eq_true rfl⟩ rfl (Nat.le_of_ble_eq_true rfl) dX11_judgeWeek_91 rfl (fun m9 h => ?_)
          refine r_aload_n X dX11_judgeWeek_94 rfl 0 rfl ?_
          refine r_getF X (k := 10) (of := 82) rfl (Lp_N Lpk_0 rfl) Lpk_0 rfl (by decide) ui_11 (by decide) uw2_193 rfl dX11_judgeWeek_95 ?_
          refine r_aload_n X dX11_judgeWeek_98 rfl 0 rfl ?_
          refine r_getF X (k := 5) (of := 66) rfl (Lp_N Lpk_0 rfl) Lpk_0 rfl (by decide) ui_11 (by decide) uw2_188 rfl dX11_judgeWeek_99 ?_
          refine r_iconst (v := (0)) X dX11_judgeWeek_102 (by decide) ?_
          refine r_cVV (As := [.ref (ad (66)), .int ((0))]) (rest := []) X (fun m9 hg => k_X1_pass Lpk_66 hg) h (Lp_N Lpk_82 rfl) Lpk_82 rfl (by decide) uw4_96 uw4_97 uw4_98 uw1_11 uw4_99 rfl rfl dd_X1_pass ⟨Nat.le_of_ble_eq_true rfl, Nat.le_of_ble_eq_true rfl⟩ rfl (Nat.le_of_ble_eq_true rfl) dX11_judgeWeek_103 rfl (fun m10 h => ?_)
          refine r_iload_n X dX11_judgeWeek_106 rfl 2 rfl ?_
          refine r_aload_n X dX11_judgeWeek_107 rfl 0 rfl ?_
          refine r_getF X (k := 10) (of := 82) rfl (Lp_N Lpk_0 rfl) Lpk_0 rfl (by decide) ui_11 (by decide) uw2_193 rfl dX11_judgeWeek_108 ?_
          refine r_getIN X (k := 10) (Lp_N Lpk_82 rfl) Lpk_82 rfl (by decide) ui_1 (by decide) hl190 rfl dX11_judgeWeek_111 ?_
          refine r_iadd X dX11_judgeWeek_114 ?_
          refine r_nmI h (fun x11 h => ?_)
          refine r_istore_n (lv2 := [(2, .int (x11)), (0, .ref (ad (0))), (1, .int (x3)), (3, .int (x5))]) X dX11_judgeWeek_115 rfl (by decide) rfl ?_
          refine r_iload_n X dX11_judgeWeek_116 rfl 2 rfl ?_
          refine r_iconst (v := (-1)) X dX11_judgeWeek_117 (by decide) ?_
          refine r_icmp_ne (tgt := 135) X dX11_judgeWeek_118 (by decide) h (fun h => ?_) (fun h => ?_)
          · exact r_sub [1, 2, 0, 3] rfl (hJ135 k17 hk17 x3 x11 x5 m10 h)
          · refine r_aload_n X dX11_judgeWeek_121 rfl 1 rfl ?_
            refine r_getF X (k := 5) (of := 66) rfl (Lp_N Lpk_0 rfl) Lpk_0 rfl (by decide) ui_11 (by decide) uw2_188 rfl dX11_judgeWeek_122 ?_
            refine r_cVI (As := []) (rest := []) X (fun r9 m9 hg => k_X6_goneKeys Lpk_66 hg) h (Lp_N Lpk_66 rfl) Lpk_66 rfl (by decide) uw5_50 uw5_51 uw5_52 uw1_7 uw5_53 rfl rfl dd_X6_goneKeys ⟨Nat.le_of_ble_eq_true rfl, Nat.le_of_ble_eq_true rfl⟩ rfl (Nat.le_of_ble_eq_true rfl) dX11_judgeWeek_125 rfl (fun x13 m12 h => ?_)
            refine r_if_eq (tgt := 135) X dX11_judgeWeek_128 (by decide) h (fun h => ?_) (fun h => ?_)
            · exact r_sub [1, 2, 0, 3] rfl (hJ135 k17 hk17 x3 x11 x5 m12 h)
            · refine r_iload_n X dX11_judgeWeek_131 rfl 3 rfl ?_
              refine r_goto (tgt := 136) X dX11_judgeWeek_132 (by decide) ?_
              exact r_sub [1, 0, 3] rfl (hJ136 k17 hk17 x11 x5 x5 m12 h)
        have h := ite_n c43_1 h
        by_cases c43_2 : (gI m6 69 x5.toNatClampNeg) = (15)
        · have h := ite_p c43_2 h
          refine r_look (off := 97) (tgt := 140) X dX11_judgeWeek_43 (by decide) (by rw [c43_2]; decide) (by decide) ?_
          refine r_aload_n X dX11_judgeWeek_140 rfl 0 rfl ?_
          refine r_getF X (k := 5) (of := 66) rfl (Lp_N Lpk_0 rfl) Lpk_0 rfl (by decide) ui_11 (by decide) uw2_188 rfl dX11_judgeWeek_141 ?_
          refine r_aload_n X dX11_judgeWeek_144 rfl 0 rfl ?_
          refine r_getR X 7 (k := 2) (Lp_N Lpk_0 rfl) Lpk_0 rfl (by decide) ui_11 (by decide) uw2_185 rfl h dX11_judgeWeek_145 (fun q14 eq14 h => ?_)
          refine r_getIN X (k := 12) (Lp_N eq14 rfl) eq14 rfl (by decide) ui_7 (by decide) hl193 rfl dX11_judgeWeek_148 ?_
          refine r_cVI (As := [.int (gI m6 q14 12)]) (rest := []) X (fun r9 m9 hg => k_X6_tuneUp Lpk_66 hg) h (Lp_N Lpk_66 rfl) Lpk_66 rfl (by decide) uw4_170 uw4_171 uw4_172 uw1_7 uw4_173 rfl rfl dd_X6_tuneUp ⟨Nat.le_of_ble_eq_true rfl, Nat.le_of_ble_eq_true rfl⟩ rfl (Nat.le_of_ble_eq_true rfl) dX11_judgeWeek_151 rfl (fun x16 m15 h => ?_)
          refine r_pop X dX11_judgeWeek_154 rfl ?_
          refine r_goto (tgt := 209) X dX11_judgeWeek_155 (by decide) ?_
          exact r_sub [0, 1, 2, 3] rfl (hJ209 k17 hk17 x3 x4 x5 m15 h)
        have h := ite_n c43_2 h
        refine r_look (off := 134) (tgt := 177) X dX11_judgeWeek_43 (by decide) (by show Op.lookupswitch.offset [((8 : Int), (115 : Int)), ((14 : Int), (33 : Int)), ((15 : Int), (97 : Int))] (134) _ = (134); rw [Op.lookupswitch.offset_cons, if_neg (ti_ne (n := (8 : Int)) (by decide) c43_0), Op.lookupswitch.offset_cons, if_neg (ti_ne (n := (14 : Int)) (by decide) c43_1), Op.lookupswitch.offset_cons, if_neg (ti_ne (n := (15 : Int)) (by decide) c43_2), Op.lookupswitch.offset_nil]) (by decide) ?_
        refine r_aload_n X dX11_judgeWeek_177 rfl 0 rfl ?_
        refine r_getF X (k := 5) (of := 66) rfl (Lp_N Lpk_0 rfl) Lpk_0 rfl (by decide) ui_11 (by decide) uw2_188 rfl dX11_judgeWeek_178 ?_
        refine r_aload_n X dX11_judgeWeek_181 rfl 0 rfl ?_
        refine r_getF X (k := 6) (of := 68) rfl (Lp_N Lpk_0 rfl) Lpk_0 rfl (by decide) ui_11 (by decide) uw2_189 rfl dX11_judgeWeek_182 ?_
        refine r_getFN X (k := 1) (of := 2) rfl (Lp_N Lpk_68 rfl) Lpk_68 rfl (by decide) ui_10 (by decide) hl318 rfl dX11_judgeWeek_185 ?_
        refine r_iload_n X dX11_judgeWeek_188 rfl 3 rfl ?_
        refine r_iald X (Lp_N Lpk_70 rfl) Lpk_70 h dX11_judgeWeek_189 (fun h => ?_)
        refine r_putIN X (k := 3) (Lp_N Lpk_66 rfl) Lpk_66 rfl (by decide) ui_6 (by decide) hl202 tyX6_ok nmX6 rfl rfl rfl dX11_judgeWeek_190 ?_
        refine r_nmM h (fun m17 h => ?_)
        refine r_aload_n X dX11_judgeWeek_193 rfl 0 rfl ?_
        refine r_getF X (k := 5) (of := 66) rfl (Lp_N Lpk_0 rfl) Lpk_0 rfl (by decide) ui_11 (by decide) uw2_188 rfl dX11_judgeWeek_194 ?_
        refine r_aload_n X dX11_judgeWeek_197 rfl 0 rfl ?_
        refine r_getF X (k := 6) (of := 68) rfl (Lp_N Lpk_0 rfl) Lpk_0 rfl (by decide) ui_11 (by decide) uw2_189 rfl dX11_judgeWeek_198 ?_
        refine r_getFN X (k := 2) (of := 3) rfl (Lp_N Lpk_68 rfl) Lpk_68 rfl (by decide) ui_10 (by decide) hl321 rfl dX11_judgeWeek_201 ?_
        refine r_iload_n X dX11_judgeWeek_204 rfl 3 rfl ?_
        refine r_iald X (Lp_N Lpk_71 rfl) Lpk_71 h dX11_judgeWeek_205 (fun h => ?_)
        refine r_putIN X (k := 4) (Lp_N Lpk_66 rfl) Lpk_66 rfl (by decide) ui_6 (by decide) hl205 tyX6_ok nmX6 rfl rfl rfl dX11_judgeWeek_206 ?_
        refine r_nmM h (fun m18 h => ?_)
        exact r_sub [0, 1, 2, 3] rfl (hJ209 k17 hk17 x3 x4 x5 m18 h)
  have hL17 : ∀ (n : Nat), ∀ (x3 : Int32) (x4 : Int32) (x5 : Int32) (m6 : Mm), lop (fun _ _ _ _ => none) (f_X11_judgeWeek_B17 ) n x3 x4 x5 m6 = some mem2 → Jd p l e ({ frames := 5, cells := 0, slots := 0, locals := 112 }) s m args below meth c 4 (MQ below (PsV Lp ad cy dC dI mem2 A) args s 0 0 A) A dC dI cy Lp ad m6 17 [(0, .ref (ad (0))), (1, .int (x3)), (2, .int (x4)), (3, .int (x5))] [] := by
    intro  n
    induction n with
    | zero => intro _ _ _ _ h; cases h
    | succ n ih => intro a0 a1 a2 a3 h; exact hJ17  _ ih a0 a1 a2 a3 h
  unfold f_X11_judgeWeek at h
  refine r_iconst (v := (-1)) X dX11_judgeWeek_0 (by decide) ?_
  refine r_istore_n (lv2 := [(1, .int ((-1))), (0, .ref (ad (0)))]) X dX11_judgeWeek_1 rfl (by decide) rfl ?_
  refine r_iconst (v := (0)) X dX11_judgeWeek_2 (by decide) ?_
  refine r_istore_n (lv2 := [(2, .int ((0))), (1, .int ((-1))), (0, .ref (ad (0)))]) X dX11_judgeWeek_3 rfl (by decide) rfl ?_
  refine r_aload_n X dX11_judgeWeek_4 rfl 2 rfl ?_
  refine r_getF X (k := 5) (of := 66) rfl (Lp_N Lpk_0 rfl) Lpk_0 rfl (by decide) ui_11 (by decide) uw2_188 rfl dX11_judgeWeek_5 ?_
  refine r_aload_n X dX11_judgeWeek_8 rfl 2 rfl ?_
  refine r_getR X 7 (k := 2) (Lp_N Lpk_0 rfl) Lpk_0 rfl (by decide) ui_11 (by decide) uw2_185 rfl h dX11_judgeWeek_9 (fun q1 eq1 h => ?_)
  refine r_cVV (As := [.ref (ad (q1))]) (rest := []) X (fun m9 hg => k_X6_begin Lpk_66 eq1 hg) h (Lp_N Lpk_66 rfl) Lpk_66 rfl (by decide) uw4_10 uw4_11 uw4_12 uw1_7 uw4_13 rfl rfl dd_X6_begin ⟨Nat.le_of_ble_eq_true rfl, Nat.le_of_ble_eq_true rfl⟩ rfl (Nat.le_of_ble_eq_true rfl) dX11_judgeWeek_12 rfl (fun m2 h => ?_)
  refine r_iconst (v := (0)) X dX11_judgeWeek_15 (by decide) ?_
  refine r_istore_n (lv2 := [(3, .int ((0))), (2, .int ((0))), (1, .int ((-1))), (0, .ref (ad (0)))]) X dX11_judgeWeek_16 rfl (by decide) rfl ?_
  exact r_sub [3, 2, 1, 0] rfl (hL17 4000 ((-1)) ((0)) ((0)) m2 h)
noncomputable def f_X11_judged_J9 (p1 : Int32) (m2 : Mm) : Option (Option Int32 × Mm) :=
  some (none, m2)
noncomputable def f_X11_judged (p1 : Int32) (mem : Mm) : Option (Option Int32 × Mm) :=
  if p1 < 0 then (f_X11_judged_J9 p1 mem) else (if p1 ≤ ((2)) then (bdV (f_X11_judgeWeek  mem) fun m1 => grd (inb p1 3) (some (some (gI m1 165 p1.toNatClampNeg), m1))) else (f_X11_judged_J9 p1 mem))
theorem dd_X11_judged : yX11_judged.cls = RX11 ∧ yX11_judged.cls ≠ "java/lang/invoke/MethodHandle" ∧ yX11_judged.cls ≠ "java/lang/invoke/VarHandle" ∧ (parseMethodDescriptor yX11_judged.desc).map (fun d => d.parameters.length) = some 1 := by decide +kernel
set_option maxHeartbeats 4000000 in
set_option maxRecDepth 100000 in
theorem k_X11_judged {l : Launch} {ad : Nat → Nat} {cy : Nat → ClassId} {dC : Nat → ClassId} {dI : Nat → Nat → Nat} {ks : (Nat → Nat) × (Nat → Nat)} {p1 : Int32} {mem : Mm} {o2 : Option Int32} {mem2 : Mm} (hnt : l.stackTraces = false)  (h : f_X11_judged p1 mem = some (o2, mem2)) : CtX l Lp ad cy dC dI ks yX11_judged cX11_judged 2 (some .int) ({ frames := 6, cells := 1, slots := 6, locals := 135 }) [.ref (ad (0)), .int (p1)] mem o2 mem2 := by
  refine CtX.of (cc := cX11_judged) (maxL := 2) (ret := (some .int)) (own := RX11) rfl (by decide) (Nat.le_of_ble_eq_true rfl) ?_
  intro p e s m args below meth c A X hT hex
  have hts := X.2.2.2.2.1
  have hJ9 : ∀ (m2 : Mm), f_X11_judged_J9 p1 m2 = some (o2, mem2) → Jd p l e ({ frames := 6, cells := 1, slots := 6, locals := 135 }) s m args below meth c 2 (vx_MQ below (QcX Lp ad cy dC dI o2 mem2 A) (XcX Lp ad cy dC dI o2 mem2 A) args s 1 6 A) A dC dI cy Lp ad m2 9 [] [] := by
    intro m2 h
    unfold f_X11_judged_J9 at h
    exact r_throw X hT hnt hex rfl dX11_judged_9 dX11_judged_12 dX11_judged_13 dX11_judged_16 (Nat.le_of_ble_eq_true rfl) (Nat.le_of_ble_eq_true rfl) (Nat.le_of_ble_eq_true rfl) (Nat.le_of_ble_eq_true rfl) h
  unfold f_X11_judged at h
  refine r_iload_n X dX11_judged_0 rfl 1 rfl ?_
  refine r_if_lt (tgt := 9) X dX11_judged_1 (by decide) h (fun h => ?_) (fun h => ?_)
  · exact r_sub [] rfl (hJ9 mem h)
  · refine r_iload_n X dX11_judged_4 rfl 1 rfl ?_
    refine r_iconst (v := (2)) X dX11_judged_5 (by decide) ?_
    refine r_icmp_le (tgt := 17) X dX11_judged_6 (by decide) h (fun h => ?_) (fun h => ?_)
    · refine r_aload_n X dX11_judged_17 rfl 0 rfl ?_
      refine r_cVV (As := []) (rest := []) X (fun m9 hg => k_X11_judgeWeek hg) h (Lp_N Lpk_0 rfl) Lpk_0 rfl (by decide) uw5_123 uw5_125 us3_6 uw1_1 uw5_126 rfl rfl dd_X11_judgeWeek ⟨Nat.le_of_ble_eq_true rfl, Nat.le_of_ble_eq_true rfl⟩ rfl (Nat.le_of_ble_eq_true rfl) dX11_judged_18 rfl (fun m1 h => ?_)
      refine r_aload_n X dX11_judged_21 rfl 0 rfl ?_
      refine r_getF X (k := 15) (of := 165) rfl (Lp_N Lpk_0 rfl) Lpk_0 rfl (by decide) ui_11 (by decide) uw2_198 rfl dX11_judged_22 ?_
      refine r_iload_n X dX11_judged_25 rfl 1 rfl ?_
      refine r_iald X (Lp_N Lpk_165 rfl) Lpk_165 h dX11_judged_26 (fun h => ?_)
      exact r_iretX X rfl dX11_judged_27 h
    · exact r_sub [] rfl (hJ9 mem h)
noncomputable def f_X11_searchEach_J96 (k9 : Int32 → Mm → Option Mm) (x12 : Int32) (m13 : Mm) : Option Mm :=
  bnd (x12 + (1)) fun x14 => k9 x14 m13
noncomputable def f_X11_searchEach_J76 (k9 : Int32 → Mm → Option Mm) (x8 : Int32) (m9 : Mm) : Option Mm :=
  bnd (sI m9 165 0 x8) fun m10 => bnd (sI m10 165 1 (gI m10 82 10)) fun m11 => f_X11_searchEach_J96 k9 x8 m11
noncomputable def f_X11_searchEach_B9 (k9 : Int32 → Mm → Option Mm) (x2 : Int32) (m3 : Mm) : Option Mm :=
  if ((30)) < x2 then (some m3) else (bdV (f_X6_copyFrom 66 64 m3) fun m4 => grd (decide (Lp.1 (gR m4 0 2) = 7)) (bnd (gR m4 0 2) fun q5 => bdV (f_X1_prepare q5 x2 m4) fun m6 => bdV (f_X1_pass 66 ((0)) m6) fun m7 => if (gI m7 165 0) = ((-1)) then (f_X11_searchEach_J76 k9 x2 m7) else (if (gI m7 82 10) ≤ (gI m7 165 1) then (f_X11_searchEach_J96 k9 x2 m7) else (f_X11_searchEach_J76 k9 x2 m7))))
noncomputable def f_X11_searchEach  (mem : Mm) : Option Mm :=
  bnd (sI mem 165 0 ((-1))) fun m1 => lop (fun _ _ => none) (f_X11_searchEach_B9 ) 4000 ((1)) m1
theorem dd_X11_searchEach : yX11_searchEach.cls = RX11 ∧ yX11_searchEach.cls ≠ "java/lang/invoke/MethodHandle" ∧ yX11_searchEach.cls ≠ "java/lang/invoke/VarHandle" ∧ (parseMethodDescriptor yX11_searchEach.desc).map (fun d => d.parameters.length) = some 0 := by decide +kernel
set_option maxHeartbeats 4000000 in
set_option maxRecDepth 100000 in
theorem k_X11_searchEach {l : Launch} {ad : Nat → Nat} {cy : Nat → ClassId} {dC : Nat → ClassId} {dI : Nat → Nat → Nat} {ks : (Nat → Nat) × (Nat → Nat)}  {mem : Mm} {mem2 : Mm}  (h : f_X11_searchEach  mem = some mem2) : CtV l Lp ad cy dC dI ks yX11_searchEach cX11_searchEach 2 none ({ frames := 5, cells := 0, slots := 0, locals := 112 }) [.ref (ad (0))] mem mem2 := by
  refine CtV.of (cc := cX11_searchEach) (maxL := 2) (ret := none) (own := RX11) rfl (by decide) (Nat.le_of_ble_eq_true rfl) ?_
  intro p e s m args below meth c A X
  have hts := X.2.2.2.2.1
  have hl190 := X.2.2.2.2.2.2.1 (.fieldLinkNest "StationPiano" 190 "StationPiano$DayRun" "joySum" "I" "StationPiano") (List.mem_of_getElem? (i := 75) rfl)
  have hJ96 : ∀ (k9 : Int32 → Mm → Option Mm) (hk9 : ∀ (x2 : Int32) (m3 : Mm), k9 x2 m3 = some mem2 → Jd p l e ({ frames := 5, cells := 0, slots := 0, locals := 112 }) s m args below meth c 2 (MQ below (PsV Lp ad cy dC dI mem2 A) args s 0 0 A) A dC dI cy Lp ad m3 9 [(0, .ref (ad (0))), (1, .int (x2))] []) (x12 : Int32) (m13 : Mm), f_X11_searchEach_J96 k9 x12 m13 = some mem2 → Jd p l e ({ frames := 5, cells := 0, slots := 0, locals := 112 }) s m args below meth c 2 (MQ below (PsV Lp ad cy dC dI mem2 A) args s 0 0 A) A dC dI cy Lp ad m13 96 [(0, .ref (ad (0))), (1, .int (x12))] [] := by
    intro k9 hk9 x12 m13 h
    unfold f_X11_searchEach_J96 at h
    refine r_inc h (fun x14 e9 h => ?_)
    refine r_iinc (v := x14) (lv2 := [(1, .int (x14)), (0, .ref (ad (0)))]) X dX11_searchEach_96 1 rfl (by rw [e9]; rfl) (by decide) rfl ?_
    refine r_goto (tgt := 9) X dX11_searchEach_99 (by decide) ?_
    exact r_sub [1, 0] rfl (hk9 x14 m13 h)
  have hJ76 : ∀ (k9 : Int32 → Mm → Option Mm) (hk9 : ∀ (x2 : Int32) (m3 : Mm), k9 x2 m3 = some mem2 → Jd p l e ({ frames := 5, cells := 0, slots := 0, locals := 112 }) s m args below meth c 2 (MQ below (PsV Lp ad cy dC dI mem2 A) args s 0 0 A) A dC dI cy Lp ad m3 9 [(0, .ref (ad (0))), (1, .int (x2))] []) (x8 : Int32) (m9 : Mm), f_X11_searchEach_J76 k9 x8 m9 = some mem2 → Jd p l e ({ frames := 5, cells := 0, slots := 0, locals := 112 }) s m args below meth c 2 (MQ below (PsV Lp ad cy dC dI mem2 A) args s 0 0 A) A dC dI cy Lp ad m9 76 [(0, .ref (ad (0))), (1, .int (x8))] [] := by
    intro k9 hk9 x8 m9 h
    unfold f_X11_searchEach_J76 at h
    refine r_aload_n X dX11_searchEach_76 rfl 0 rfl ?_
    refine r_getF X (k := 15) (of := 165) rfl (Lp_N Lpk_0 rfl) Lpk_0 rfl (by decide) ui_11 (by decide) uw2_198 rfl dX11_searchEach_77 ?_
    refine r_iconst (v := (0)) X dX11_searchEach_80 (by decide) ?_
    refine r_iload_n X dX11_searchEach_81 rfl 1 rfl ?_
    refine r_iast X (Lp_N Lpk_165 rfl) Lpk_165 (g_in rfl h) dX11_searchEach_82 (fun h => ?_)
    refine r_nmM h (fun m10 h => ?_)
    refine r_aload_n X dX11_searchEach_83 rfl 0 rfl ?_
    refine r_getF X (k := 15) (of := 165) rfl (Lp_N Lpk_0 rfl) Lpk_0 rfl (by decide) ui_11 (by decide) uw2_198 rfl dX11_searchEach_84 ?_
    refine r_iconst (v := (1)) X dX11_searchEach_87 (by decide) ?_
    refine r_aload_n X dX11_searchEach_88 rfl 0 rfl ?_
    refine r_getF X (k := 10) (of := 82) rfl (Lp_N Lpk_0 rfl) Lpk_0 rfl (by decide) ui_11 (by decide) uw2_193 rfl dX11_searchEach_89 ?_
    refine r_getIN X (k := 10) (Lp_N Lpk_82 rfl) Lpk_82 rfl (by decide) ui_1 (by decide) hl190 rfl dX11_searchEach_92 ?_
    refine r_iast X (Lp_N Lpk_165 rfl) Lpk_165 (g_in rfl h) dX11_searchEach_95 (fun h => ?_)
    refine r_nmM h (fun m11 h => ?_)
    exact r_sub [0, 1] rfl (hJ96 k9 hk9 x8 m11 h)
  have hJ9 : ∀ (k9 : Int32 → Mm → Option Mm) (hk9 : ∀ (x2 : Int32) (m3 : Mm), k9 x2 m3 = some mem2 → Jd p l e ({ frames := 5, cells := 0, slots := 0, locals := 112 }) s m args below meth c 2 (MQ below (PsV Lp ad cy dC dI mem2 A) args s 0 0 A) A dC dI cy Lp ad m3 9 [(0, .ref (ad (0))), (1, .int (x2))] []) (x2 : Int32) (m3 : Mm), f_X11_searchEach_B9 k9 x2 m3 = some mem2 → Jd p l e ({ frames := 5, cells := 0, slots := 0, locals := 112 }) s m args below meth c 2 (MQ below (PsV Lp ad cy dC dI mem2 A) args s 0 0 A) A dC dI cy Lp ad m3 9 [(0, .ref (ad (0))), (1, .int (x2))] [] := by
    intro k9 hk9 x2 m3 h
    unfold f_X11_searchEach_B9 at h
    refine r_iload_n X dX11_searchEach_9 rfl 1 rfl ?_
    refine r_bipush (v := (30)) X dX11_searchEach_10 (by decide) ?_
    refine r_icmp_gt (tgt := 102) X dX11_searchEach_12 (by decide) h (fun h => ?_) (fun h => ?_)
    · exact r_vret X rfl dX11_searchEach_102 h
    · refine r_aload_n X dX11_searchEach_15 rfl 0 rfl ?_
      refine r_getF X (k := 5) (of := 66) rfl (Lp_N Lpk_0 rfl) Lpk_0 rfl (by decide) ui_11 (by decide) uw2_188 rfl dX11_searchEach_16 ?_
      refine r_aload_n X dX11_searchEach_19 rfl 0 rfl ?_
      refine r_getF X (k := 4) (of := 64) rfl (Lp_N Lpk_0 rfl) Lpk_0 rfl (by decide) ui_11 (by decide) uw2_187 rfl dX11_searchEach_20 ?_
      refine r_cVV (As := [.ref (ad (64))]) (rest := []) X (fun m9 hg => k_X6_copyFrom Lpk_66 Lpk_64 hg) h (Lp_N Lpk_66 rfl) Lpk_66 rfl (by decide) uw4_65 uw4_66 uw4_67 uw1_7 uw4_68 rfl rfl dd_X6_copyFrom ⟨Nat.le_of_ble_eq_true rfl, Nat.le_of_ble_eq_true rfl⟩ rfl (Nat.le_of_ble_eq_true rfl) dX11_searchEach_23 rfl (fun m4 h => ?_)
      refine r_aload_n X dX11_searchEach_26 rfl 0 rfl ?_
      refine r_getF X (k := 10) (of := 82) rfl (Lp_N Lpk_0 rfl) Lpk_0 rfl (by decide) ui_11 (by decide) uw2_193 rfl dX11_searchEach_27 ?_
      refine r_aload_n X dX11_searchEach_30 rfl 0 rfl ?_
      refine r_getR X 7 (k := 2) (Lp_N Lpk_0 rfl) Lpk_0 rfl (by decide) ui_11 (by decide) uw2_185 rfl h dX11_searchEach_31 (fun q5 eq5 h => ?_)
      refine r_iload_n X dX11_searchEach_34 rfl 1 rfl ?_
      refine r_cVV (As := [.ref (ad (q5)), .int (x2)]) (rest := []) X (fun m9 hg => k_X1_prepare eq5 hg) h (Lp_N Lpk_82 rfl) Lpk_82 rfl (by decide) uw4_69 uw4_70 uw4_71 uw1_11 uw4_72 rfl rfl dd_X1_prepare ⟨Nat.le_of_ble_eq_true rfl, Nat.le_of_ble_eq_true rfl⟩ rfl (Nat.le_of_ble_eq_true rfl) dX11_searchEach_35 rfl (fun m6 h => ?_)
      refine r_aload_n X dX11_searchEach_38 rfl 0 rfl ?_
      refine r_getF X (k := 10) (of := 82) rfl (Lp_N Lpk_0 rfl) Lpk_0 rfl (by decide) ui_11 (by decide) uw2_193 rfl dX11_searchEach_39 ?_
      refine r_aload_n X dX11_searchEach_42 rfl 0 rfl ?_
      refine r_getF X (k := 5) (of := 66) rfl (Lp_N Lpk_0 rfl) Lpk_0 rfl (by decide) ui_11 (by decide) uw2_188 rfl dX11_searchEach_43 ?_
      refine r_iconst (v := (0)) X dX11_searchEach_46 (by decide) ?_
      refine r_cVV (As := [.ref (ad (66)), .int ((0))]) (rest := []) X (fun m9 hg => k_X1_pass Lpk_66 hg) h (Lp_N Lpk_82 rfl) Lpk_82 rfl (by decide) uw4_96 uw4_97 uw4_98 uw1_11 uw4_99 rfl rfl dd_X1_pass ⟨Nat.le_of_ble_eq_true rfl, Nat.le_of_ble_eq_true rfl⟩ rfl (Nat.le_of_ble_eq_true rfl) dX11_searchEach_47 rfl (fun m7 h => ?_)
      refine r_aload_n X dX11_searchEach_50 rfl 0 rfl ?_
      refine r_getF X (k := 15) (of := 165) rfl (Lp_N Lpk_0 rfl) Lpk_0 rfl (by decide) ui_11 (by decide) uw2_198 rfl dX11_searchEach_51 ?_
      refine r_iconst (v := (0)) X dX11_searchEach_54 (by decide) ?_
      refine r_iald X (Lp_N Lpk_165 rfl) Lpk_165 (g_in rfl h) dX11_searchEach_55 (fun h => ?_)
      refine r_iconst (v := (-1)) X dX11_searchEach_56 (by decide) ?_
      refine r_icmp_eq (tgt := 76) X dX11_searchEach_57 (by decide) h (fun h => ?_) (fun h => ?_)
      · exact r_sub [0, 1] rfl (hJ76 k9 hk9 x2 m7 h)
      · refine r_aload_n X dX11_searchEach_60 rfl 0 rfl ?_
        refine r_getF X (k := 10) (of := 82) rfl (Lp_N Lpk_0 rfl) Lpk_0 rfl (by decide) ui_11 (by decide) uw2_193 rfl dX11_searchEach_61 ?_
        refine r_getIN X (k := 10) (Lp_N Lpk_82 rfl) Lpk_82 rfl (by decide) ui_1 (by decide) hl190 rfl dX11_searchEach_64 ?_
        refine r_aload_n X dX11_searchEach_67 rfl 0 rfl ?_
        refine r_getF X (k := 15) (of := 165) rfl (Lp_N Lpk_0 rfl) Lpk_0 rfl (by decide) ui_11 (by decide) uw2_198 rfl dX11_searchEach_68 ?_
        refine r_iconst (v := (1)) X dX11_searchEach_71 (by decide) ?_
        refine r_iald X (Lp_N Lpk_165 rfl) Lpk_165 (g_in rfl h) dX11_searchEach_72 (fun h => ?_)
        refine r_icmp_le (tgt := 96) X dX11_searchEach_73 (by decide) h (fun h => ?_) (fun h => ?_)
        · exact r_sub [0, 1] rfl (hJ96 k9 hk9 x2 m7 h)
        · exact r_sub [0, 1] rfl (hJ76 k9 hk9 x2 m7 h)
  have hL9 : ∀ (n : Nat), ∀ (x2 : Int32) (m3 : Mm), lop (fun _ _ => none) (f_X11_searchEach_B9 ) n x2 m3 = some mem2 → Jd p l e ({ frames := 5, cells := 0, slots := 0, locals := 112 }) s m args below meth c 2 (MQ below (PsV Lp ad cy dC dI mem2 A) args s 0 0 A) A dC dI cy Lp ad m3 9 [(0, .ref (ad (0))), (1, .int (x2))] [] := by
    intro  n
    induction n with
    | zero => intro _ _ h; cases h
    | succ n ih => intro a0 a1 h; exact hJ9  _ ih a0 a1 h
  unfold f_X11_searchEach at h
  refine r_aload_n X dX11_searchEach_0 rfl 0 rfl ?_
  refine r_getF X (k := 15) (of := 165) rfl (Lp_N Lpk_0 rfl) Lpk_0 rfl (by decide) ui_11 (by decide) uw2_198 rfl dX11_searchEach_1 ?_
  refine r_iconst (v := (0)) X dX11_searchEach_4 (by decide) ?_
  refine r_iconst (v := (-1)) X dX11_searchEach_5 (by decide) ?_
  refine r_iast X (Lp_N Lpk_165 rfl) Lpk_165 (g_in rfl h) dX11_searchEach_6 (fun h => ?_)
  refine r_nmM h (fun m1 h => ?_)
  refine r_iconst (v := (1)) X dX11_searchEach_7 (by decide) ?_
  refine r_istore_n (lv2 := [(1, .int ((1))), (0, .ref (ad (0)))]) X dX11_searchEach_8 rfl (by decide) rfl ?_
  exact r_sub [1, 0] rfl (hL9 4000 ((1)) m1 h)
noncomputable def f_X11_best_J9 (p1 : Int32) (m2 : Mm) : Option (Option Int32 × Mm) :=
  some (none, m2)
noncomputable def f_X11_best (p1 : Int32) (mem : Mm) : Option (Option Int32 × Mm) :=
  if p1 < 0 then (f_X11_best_J9 p1 mem) else (if p1 ≤ ((1)) then (bdV (f_X11_searchEach  mem) fun m1 => grd (inb p1 3) (some (some (gI m1 165 p1.toNatClampNeg), m1))) else (f_X11_best_J9 p1 mem))
theorem dd_X11_best : yX11_best.cls = RX11 ∧ yX11_best.cls ≠ "java/lang/invoke/MethodHandle" ∧ yX11_best.cls ≠ "java/lang/invoke/VarHandle" ∧ (parseMethodDescriptor yX11_best.desc).map (fun d => d.parameters.length) = some 1 := by decide +kernel
set_option maxHeartbeats 4000000 in
set_option maxRecDepth 100000 in
theorem k_X11_best {l : Launch} {ad : Nat → Nat} {cy : Nat → ClassId} {dC : Nat → ClassId} {dI : Nat → Nat → Nat} {ks : (Nat → Nat) × (Nat → Nat)} {p1 : Int32} {mem : Mm} {o2 : Option Int32} {mem2 : Mm} (hnt : l.stackTraces = false)  (h : f_X11_best p1 mem = some (o2, mem2)) : CtX l Lp ad cy dC dI ks yX11_best cX11_best 2 (some .int) ({ frames := 6, cells := 1, slots := 6, locals := 133 }) [.ref (ad (0)), .int (p1)] mem o2 mem2 := by
  refine CtX.of (cc := cX11_best) (maxL := 2) (ret := (some .int)) (own := RX11) rfl (by decide) (Nat.le_of_ble_eq_true rfl) ?_
  intro p e s m args below meth c A X hT hex
  have hts := X.2.2.2.2.1
  have hJ9 : ∀ (m2 : Mm), f_X11_best_J9 p1 m2 = some (o2, mem2) → Jd p l e ({ frames := 6, cells := 1, slots := 6, locals := 133 }) s m args below meth c 2 (vx_MQ below (QcX Lp ad cy dC dI o2 mem2 A) (XcX Lp ad cy dC dI o2 mem2 A) args s 1 6 A) A dC dI cy Lp ad m2 9 [] [] := by
    intro m2 h
    unfold f_X11_best_J9 at h
    exact r_throw X hT hnt hex rfl dX11_best_9 dX11_best_12 dX11_best_13 dX11_best_16 (Nat.le_of_ble_eq_true rfl) (Nat.le_of_ble_eq_true rfl) (Nat.le_of_ble_eq_true rfl) (Nat.le_of_ble_eq_true rfl) h
  unfold f_X11_best at h
  refine r_iload_n X dX11_best_0 rfl 1 rfl ?_
  refine r_if_lt (tgt := 9) X dX11_best_1 (by decide) h (fun h => ?_) (fun h => ?_)
  · exact r_sub [] rfl (hJ9 mem h)
  · refine r_iload_n X dX11_best_4 rfl 1 rfl ?_
    refine r_iconst (v := (1)) X dX11_best_5 (by decide) ?_
    refine r_icmp_le (tgt := 17) X dX11_best_6 (by decide) h (fun h => ?_) (fun h => ?_)
    · refine r_aload_n X dX11_best_17 rfl 0 rfl ?_
      refine r_cVV (As := []) (rest := []) X (fun m9 hg => k_X11_searchEach hg) h (Lp_N Lpk_0 rfl) Lpk_0 rfl (by decide) uw5_134 uw5_136 us3_7 uw1_1 uw5_137 rfl rfl dd_X11_searchEach ⟨Nat.le_of_ble_eq_true rfl, Nat.le_of_ble_eq_true rfl⟩ rfl (Nat.le_of_ble_eq_true rfl) dX11_best_18 rfl (fun m1 h => ?_)
      refine r_aload_n X dX11_best_21 rfl 0 rfl ?_
      refine r_getF X (k := 15) (of := 165) rfl (Lp_N Lpk_0 rfl) Lpk_0 rfl (by decide) ui_11 (by decide) uw2_198 rfl dX11_best_22 ?_
      refine r_iload_n X dX11_best_25 rfl 1 rfl ?_
      refine r_iald X (Lp_N Lpk_165 rfl) Lpk_165 h dX11_best_26 (fun h => ?_)
      exact r_iretX X rfl dX11_best_27 h
    · exact r_sub [] rfl (hJ9 mem h)
noncomputable def f_X11_hours_J117 (p1 : Int32) (k38 : Int32 → Int32 → Int32 → Mm → Option (Int32 × Mm)) (x14 : Int32) (x15 : Int32) (x16 : Int32) (m17 : Mm) : Option (Int32 × Mm) :=
  bnd (x16 + (1)) fun x18 => k38 x14 x15 x18 m17
noncomputable def f_X11_hours_J106 (p1 : Int32) (k38 : Int32 → Int32 → Int32 → Mm → Option (Int32 × Mm)) (x11 : Int32) (m12 : Mm) : Option (Int32 × Mm) :=
  bnd (gI m12 82 10) fun x13 => f_X11_hours_J117 p1 k38 x13 x11 x11 m12
noncomputable def f_X11_hours_B38 (p1 : Int32) (k38 : Int32 → Int32 → Int32 → Mm → Option (Int32 × Mm)) (x3 : Int32) (x4 : Int32) (x5 : Int32) (m6 : Mm) : Option (Int32 × Mm) :=
  if ((60)) < (x5 + p1) then (some (x4, m6)) else (bdV (f_X6_copyFrom 66 64 m6) fun m7 => bnd (sI m7 66 3 x5) fun m8 => bnd (sI m8 66 4 (x5 + p1)) fun m9 => bdV (f_X1_pass 66 ((0)) m9) fun m10 => if x4 = ((-1)) then (f_X11_hours_J106 p1 k38 x5 m10) else (if (gI m10 82 10) ≤ x3 then (f_X11_hours_J117 p1 k38 x3 x4 x5 m10) else (f_X11_hours_J106 p1 k38 x5 m10)))
noncomputable def f_X11_hours (p1 : Int32) (mem : Mm) : Option (Int32 × Mm) :=
  if p1 < ((1)) then (some ((-1), mem)) else (if p1 ≤ ((60)) then (grd (decide (Lp.1 (gR mem 0 2) = 7)) (bnd (gR mem 0 2) fun q1 => bdV (f_X1_prepare q1 (gI mem 64 2) mem) fun m2 => lop (fun _ _ _ _ => none) (f_X11_hours_B38 p1 ) 4000 ((0)) ((-1)) ((0)) m2)) else (some ((-1), mem)))
theorem dd_X11_hours : yX11_hours.cls = RX11 ∧ yX11_hours.cls ≠ "java/lang/invoke/MethodHandle" ∧ yX11_hours.cls ≠ "java/lang/invoke/VarHandle" ∧ (parseMethodDescriptor yX11_hours.desc).map (fun d => d.parameters.length) = some 1 := by decide +kernel
set_option maxHeartbeats 4000000 in
set_option maxRecDepth 100000 in
theorem k_X11_hours {l : Launch} {ad : Nat → Nat} {cy : Nat → ClassId} {dC : Nat → ClassId} {dI : Nat → Nat → Nat} {ks : (Nat → Nat) × (Nat → Nat)} {p1 : Int32} {mem : Mm} {r2 : Int32} {mem2 : Mm}  (h : f_X11_hours p1 mem = some (r2, mem2)) : CtI l Lp ad cy dC dI ks yX11_hours cX11_hours 5 (some .int) ({ frames := 5, cells := 0, slots := 0, locals := 112 }) [.ref (ad (0)), .int (p1)] mem r2 mem2 := by
  refine CtI.of (cc := cX11_hours) (maxL := 5) (ret := (some .int)) (own := RX11) rfl (by decide) (Nat.le_of_ble_eq_true rfl) ?_
  intro p e s m args below meth c A X
  have hts := X.2.2.2.2.1
  have hl138 := X.2.2.2.2.2.2.1 (.fieldLinkNest "StationPiano" 138 "StationPiano$State" "minutes" "I" "StationPiano") (List.mem_of_getElem? (i := 57) rfl)
  have hl190 := X.2.2.2.2.2.2.1 (.fieldLinkNest "StationPiano" 190 "StationPiano$DayRun" "joySum" "I" "StationPiano") (List.mem_of_getElem? (i := 75) rfl)
  have hl202 := X.2.2.2.2.2.2.1 (.fieldLinkNest "StationPiano" 202 "StationPiano$State" "from" "I" "StationPiano") (List.mem_of_getElem? (i := 59) rfl)
  have hl205 := X.2.2.2.2.2.2.1 (.fieldLinkNest "StationPiano" 205 "StationPiano$State" "to" "I" "StationPiano") (List.mem_of_getElem? (i := 61) rfl)
  have hJ117 : ∀ (k38 : Int32 → Int32 → Int32 → Mm → Option (Int32 × Mm)) (hk38 : ∀ (x3 : Int32) (x4 : Int32) (x5 : Int32) (m6 : Mm), k38 x3 x4 x5 m6 = some (r2, mem2) → Jd p l e ({ frames := 5, cells := 0, slots := 0, locals := 112 }) s m args below meth c 5 (MQ below (PsI Lp ad cy dC dI r2 mem2 A) args s 0 0 A) A dC dI cy Lp ad m6 38 [(0, .ref (ad (0))), (1, .int (p1)), (2, .int (x3)), (3, .int (x4)), (4, .int (x5))] []) (x14 : Int32) (x15 : Int32) (x16 : Int32) (m17 : Mm), f_X11_hours_J117 p1 k38 x14 x15 x16 m17 = some (r2, mem2) → Jd p l e ({ frames := 5, cells := 0, slots := 0, locals := 112 }) s m args below meth c 5 (MQ below (PsI Lp ad cy dC dI r2 mem2 A) args s 0 0 A) A dC dI cy Lp ad m17 117 [(0, .ref (ad (0))), (1, .int (p1)), (2, .int (x14)), (3, .int (x15)), (4, .int (x16))] [] := by
    intro k38 hk38 x14 x15 x16 m17 h
    unfold f_X11_hours_J117 at h
    refine r_inc h (fun x18 e9 h => ?_)
    refine r_iinc (v := x18) (lv2 := [(4, .int (x18)), (0, .ref (ad (0))), (1, .int (p1)), (2, .int (x14)), (3, .int (x15))]) X dX11_hours_117 4 rfl (by rw [e9]; rfl) (by decide) rfl ?_
    refine r_goto (tgt := 38) X dX11_hours_120 (by decide) ?_
    exact r_sub [1, 2, 3, 4, 0] rfl (hk38 x14 x15 x18 m17 h)
  have hJ106 : ∀ (k38 : Int32 → Int32 → Int32 → Mm → Option (Int32 × Mm)) (hk38 : ∀ (x3 : Int32) (x4 : Int32) (x5 : Int32) (m6 : Mm), k38 x3 x4 x5 m6 = some (r2, mem2) → Jd p l e ({ frames := 5, cells := 0, slots := 0, locals := 112 }) s m args below meth c 5 (MQ below (PsI Lp ad cy dC dI r2 mem2 A) args s 0 0 A) A dC dI cy Lp ad m6 38 [(0, .ref (ad (0))), (1, .int (p1)), (2, .int (x3)), (3, .int (x4)), (4, .int (x5))] []) (x11 : Int32) (m12 : Mm), f_X11_hours_J106 p1 k38 x11 m12 = some (r2, mem2) → Jd p l e ({ frames := 5, cells := 0, slots := 0, locals := 112 }) s m args below meth c 5 (MQ below (PsI Lp ad cy dC dI r2 mem2 A) args s 0 0 A) A dC dI cy Lp ad m12 106 [(0, .ref (ad (0))), (1, .int (p1)), (4, .int (x11))] [] := by
    intro k38 hk38 x11 m12 h
    unfold f_X11_hours_J106 at h
    refine r_aload_n X dX11_hours_106 rfl 0 rfl ?_
    refine r_getF X (k := 10) (of := 82) rfl (Lp_N Lpk_0 rfl) Lpk_0 rfl (by decide) ui_11 (by decide) uw2_193 rfl dX11_hours_107 ?_
    refine r_getIN X (k := 10) (Lp_N Lpk_82 rfl) Lpk_82 rfl (by decide) ui_1 (by decide) hl190 rfl dX11_hours_110 ?_
    refine r_nmI h (fun x13 h => ?_)
    refine r_istore_n (lv2 := [(2, .int (x13)), (0, .ref (ad (0))), (1, .int (p1)), (4, .int (x11))]) X dX11_hours_113 rfl (by decide) rfl ?_
    refine r_iload X dX11_hours_114 3 rfl ?_
    refine r_istore_n (lv2 := [(3, .int (x11)), (2, .int (x13)), (0, .ref (ad (0))), (1, .int (p1)), (4, .int (x11))]) X dX11_hours_116 rfl (by decide) rfl ?_
    exact r_sub [2, 3, 1, 0, 4] rfl (hJ117 k38 hk38 x13 x11 x11 m12 h)
  have hJ38 : ∀ (k38 : Int32 → Int32 → Int32 → Mm → Option (Int32 × Mm)) (hk38 : ∀ (x3 : Int32) (x4 : Int32) (x5 : Int32) (m6 : Mm), k38 x3 x4 x5 m6 = some (r2, mem2) → Jd p l e ({ frames := 5, cells := 0, slots := 0, locals := 112 }) s m args below meth c 5 (MQ below (PsI Lp ad cy dC dI r2 mem2 A) args s 0 0 A) A dC dI cy Lp ad m6 38 [(0, .ref (ad (0))), (1, .int (p1)), (2, .int (x3)), (3, .int (x4)), (4, .int (x5))] []) (x3 : Int32) (x4 : Int32) (x5 : Int32) (m6 : Mm), f_X11_hours_B38 p1 k38 x3 x4 x5 m6 = some (r2, mem2) → Jd p l e ({ frames := 5, cells := 0, slots := 0, locals := 112 }) s m args below meth c 5 (MQ below (PsI Lp ad cy dC dI r2 mem2 A) args s 0 0 A) A dC dI cy Lp ad m6 38 [(0, .ref (ad (0))), (1, .int (p1)), (2, .int (x3)), (3, .int (x4)), (4, .int (x5))] [] := by
    intro k38 hk38 x3 x4 x5 m6 h
    unfold f_X11_hours_B38 at h
    refine r_iload X dX11_hours_38 4 rfl ?_
    refine r_iload_n X dX11_hours_40 rfl 1 rfl ?_
    refine r_iadd X dX11_hours_41 ?_
    refine r_bipush (v := (60)) X dX11_hours_42 (by decide) ?_
    refine r_icmp_gt (tgt := 123) X dX11_hours_44 (by decide) h (fun h => ?_) (fun h => ?_)
    · refine r_iload_n X dX11_hours_123 rfl 3 rfl ?_
      exact r_iret2 X rfl dX11_hours_124 h
    · refine r_aload_n X dX11_hours_47 rfl 0 rfl ?_
      refine r_getF X (k := 5) (of := 66) rfl (Lp_N Lpk_0 rfl) Lpk_0 rfl (by decide) ui_11 (by decide) uw2_188 rfl dX11_hours_48 ?_
      refine r_aload_n X dX11_hours_51 rfl 0 rfl ?_
      refine r_getF X (k := 4) (of := 64) rfl (Lp_N Lpk_0 rfl) Lpk_0 rfl (by decide) ui_11 (by decide) uw2_187 rfl dX11_hours_52 ?_
      refine r_cVV (As := [.ref (ad (64))]) (rest := []) X (fun m9 hg => k_X6_copyFrom Lpk_66 Lpk_64 hg) h (Lp_N Lpk_66 rfl) Lpk_66 rfl (by decide) uw4_65 uw4_66 uw4_67 uw1_7 uw4_68 rfl rfl dd_X6_copyFrom ⟨Nat.le_of_ble_eq_true rfl, Nat.le_of_ble_eq_true rfl⟩ rfl (Nat.le_of_ble_eq_true rfl) dX11_hours_55 rfl (fun m7 h => ?_)
      refine r_aload_n X dX11_hours_58 rfl 0 rfl ?_
      refine r_getF X (k := 5) (of := 66) rfl (Lp_N Lpk_0 rfl) Lpk_0 rfl (by decide) ui_11 (by decide) uw2_188 rfl dX11_hours_59 ?_
      refine r_iload X dX11_hours_62 4 rfl ?_
      refine r_putIN X (k := 3) (Lp_N Lpk_66 rfl) Lpk_66 rfl (by decide) ui_6 (by decide) hl202 tyX6_ok nmX6 rfl rfl rfl dX11_hours_64 ?_
      refine r_nmM h (fun m8 h => ?_)
      refine r_aload_n X dX11_hours_67 rfl 0 rfl ?_
      refine r_getF X (k := 5) (of := 66) rfl (Lp_N Lpk_0 rfl) Lpk_0 rfl (by decide) ui_11 (by decide) uw2_188 rfl dX11_hours_68 ?_
      refine r_iload X dX11_hours_71 4 rfl ?_
      refine r_iload_n X dX11_hours_73 rfl 1 rfl ?_
      refine r_iadd X dX11_hours_74 ?_
      refine r_putIN X (k := 4) (Lp_N Lpk_66 rfl) Lpk_66 rfl (by decide) ui_6 (by decide) hl205 tyX6_ok nmX6 rfl rfl rfl dX11_hours_75 ?_
      refine r_nmM h (fun m9 h => ?_)
      refine r_aload_n X dX11_hours_78 rfl 0 rfl ?_
      refine r_getF X (k := 10) (of := 82) rfl (Lp_N Lpk_0 rfl) Lpk_0 rfl (by decide) ui_11 (by decide) uw2_193 rfl dX11_hours_79 ?_
      refine r_aload_n X dX11_hours_82 rfl 0 rfl ?_
      refine r_getF X (k := 5) (of := 66) rfl (Lp_N Lpk_0 rfl) Lpk_0 rfl (by decide) ui_11 (by decide) uw2_188 rfl dX11_hours_83 ?_
      refine r_iconst (v := (0)) X dX11_hours_86 (by decide) ?_
      refine r_cVV (As := [.ref (ad (66)), .int ((0))]) (rest := []) X (fun m9 hg => k_X1_pass Lpk_66 hg) h (Lp_N Lpk_82 rfl) Lpk_82 rfl (by decide) uw4_96 uw4_97 uw4_98 uw1_11 uw4_99 rfl rfl dd_X1_pass ⟨Nat.le_of_ble_eq_true rfl, Nat.le_of_ble_eq_true rfl⟩ rfl (Nat.le_of_ble_eq_true rfl) dX11_hours_87 rfl (fun m10 h => ?_)
      refine r_iload_n X dX11_hours_90 rfl 3 rfl ?_
      refine r_iconst (v := (-1)) X dX11_hours_91 (by decide) ?_
      refine r_icmp_eq (tgt := 106) X dX11_hours_92 (by decide) h (fun h => ?_) (fun h => ?_)
      · exact r_sub [0, 1, 4] rfl (hJ106 k38 hk38 x5 m10 h)
      · refine r_aload_n X dX11_hours_95 rfl 0 rfl ?_
        refine r_getF X (k := 10) (of := 82) rfl (Lp_N Lpk_0 rfl) Lpk_0 rfl (by decide) ui_11 (by decide) uw2_193 rfl dX11_hours_96 ?_
        refine r_getIN X (k := 10) (Lp_N Lpk_82 rfl) Lpk_82 rfl (by decide) ui_1 (by decide) hl190 rfl dX11_hours_99 ?_
        refine r_iload_n X dX11_hours_102 rfl 2 rfl ?_
        refine r_icmp_le (tgt := 117) X dX11_hours_103 (by decide) h (fun h => ?_) (fun h => ?_)
        · exact r_sub [0, 1, 2, 3, 4] rfl (hJ117 k38 hk38 x3 x4 x5 m10 h)
        · exact r_sub [0, 1, 4] rfl (hJ106 k38 hk38 x5 m10 h)
  have hL38 : ∀ (n : Nat), ∀ (x3 : Int32) (x4 : Int32) (x5 : Int32) (m6 : Mm), lop (fun _ _ _ _ => none) (f_X11_hours_B38 p1 ) n x3 x4 x5 m6 = some (r2, mem2) → Jd p l e ({ frames := 5, cells := 0, slots := 0, locals := 112 }) s m args below meth c 5 (MQ below (PsI Lp ad cy dC dI r2 mem2 A) args s 0 0 A) A dC dI cy Lp ad m6 38 [(0, .ref (ad (0))), (1, .int (p1)), (2, .int (x3)), (3, .int (x4)), (4, .int (x5))] [] := by
    intro  n
    induction n with
    | zero => intro _ _ _ _ h; cases h
    | succ n ih => intro a0 a1 a2 a3 h; exact hJ38  _ ih a0 a1 a2 a3 h
  unfold f_X11_hours at h
  refine r_iload_n X dX11_hours_0 rfl 1 rfl ?_
  refine r_iconst (v := (1)) X dX11_hours_1 (by decide) ?_
  refine r_icmp_lt (tgt := 11) X dX11_hours_2 (by decide) h (fun h => ?_) (fun h => ?_)
  · refine r_iconst (v := (-1)) X dX11_hours_11 (by decide) ?_
    exact r_iret2 X rfl dX11_hours_12 h
  · refine r_iload_n X dX11_hours_5 rfl 1 rfl ?_
    refine r_bipush (v := (60)) X dX11_hours_6 (by decide) ?_
    refine r_icmp_le (tgt := 13) X dX11_hours_8 (by decide) h (fun h => ?_) (fun h => ?_)
    · refine r_aload_n X dX11_hours_13 rfl 0 rfl ?_
      refine r_getF X (k := 10) (of := 82) rfl (Lp_N Lpk_0 rfl) Lpk_0 rfl (by decide) ui_11 (by decide) uw2_193 rfl dX11_hours_14 ?_
      refine r_aload_n X dX11_hours_17 rfl 0 rfl ?_
      refine r_getR X 7 (k := 2) (Lp_N Lpk_0 rfl) Lpk_0 rfl (by decide) ui_11 (by decide) uw2_185 rfl h dX11_hours_18 (fun q1 eq1 h => ?_)
      refine r_aload_n X dX11_hours_21 rfl 0 rfl ?_
      refine r_getF X (k := 4) (of := 64) rfl (Lp_N Lpk_0 rfl) Lpk_0 rfl (by decide) ui_11 (by decide) uw2_187 rfl dX11_hours_22 ?_
      refine r_getIN X (k := 2) (Lp_N Lpk_64 rfl) Lpk_64 rfl (by decide) ui_6 (by decide) hl138 rfl dX11_hours_25 ?_
      refine r_cVV (As := [.ref (ad (q1)), .int (gI mem 64 2)]) (rest := []) X (fun m9 hg => k_X1_prepare eq1 hg) h (Lp_N Lpk_82 rfl) Lpk_82 rfl (by decide) uw4_69 uw4_70 uw4_71 uw1_11 uw4_72 rfl rfl dd_X1_prepare ⟨Nat.le_of_ble_eq_true rfl, Nat.le_of_ble_eq_true rfl⟩ rfl (Nat.le_of_ble_eq_true rfl) dX11_hours_28 rfl (fun m2 h => ?_)
      refine r_iconst (v := (0)) X dX11_hours_31 (by decide) ?_
      refine r_istore_n (lv2 := [(2, .int ((0))), (0, .ref (ad (0))), (1, .int (p1))]) X dX11_hours_32 rfl (by decide) rfl ?_
      refine r_iconst (v := (-1)) X dX11_hours_33 (by decide) ?_
      refine r_istore_n (lv2 := [(3, .int ((-1))), (2, .int ((0))), (0, .ref (ad (0))), (1, .int (p1))]) X dX11_hours_34 rfl (by decide) rfl ?_
      refine r_iconst (v := (0)) X dX11_hours_35 (by decide) ?_
      refine r_istore (lv2 := [(4, .int ((0))), (3, .int ((-1))), (2, .int ((0))), (0, .ref (ad (0))), (1, .int (p1))]) X dX11_hours_36 (by decide) rfl ?_
      exact r_sub [3, 4, 2, 1, 0] rfl (hL38 4000 ((0)) ((-1)) ((0)) m2 h)
    · refine r_iconst (v := (-1)) X dX11_hours_11 (by decide) ?_
      exact r_iret2 X rfl dX11_hours_12 h
noncomputable def f_X11_joyMendedAhead_J51 (p1 : Int32) (p2 : Int32) (k24 : Int32 → Int32 → Mm → Option (Int32 × Mm)) (x9 : Int32) (x10 : Int32) (m11 : Mm) : Option (Int32 × Mm) :=
  bdV (f_X1_pass 66 ((0)) m11) fun m12 => bnd (x9 + (gI m12 82 10)) fun x13 => bnd (x10 + (1)) fun x14 => k24 x13 x14 m12
noncomputable def f_X11_joyMendedAhead_B24 (p1 : Int32) (p2 : Int32) (k24 : Int32 → Int32 → Mm → Option (Int32 × Mm)) (x3 : Int32) (x4 : Int32) (m5 : Mm) : Option (Int32 × Mm) :=
  if p1 ≤ x4 then (some (x3 - (gI m5 66 5), m5)) else (if ¬ x4 = p2 then (f_X11_joyMendedAhead_J51 p1 p2 k24 x3 x4 m5) else (grd (decide (Lp.1 (gR m5 0 2) = 7)) (bnd (gR m5 0 2) fun q6 => bdI (f_X6_tuneUp 66 (gI m5 q6 12) m5) fun x8 m7 => f_X11_joyMendedAhead_J51 p1 p2 k24 x3 x4 m7)))
noncomputable def f_X11_joyMendedAhead (p1 : Int32) (p2 : Int32) (mem : Mm) : Option (Int32 × Mm) :=
  bdV (f_X6_copyFrom 66 64 mem) fun m1 => bnd (sI m1 66 5 ((0))) fun m2 => lop (fun _ _ _ => none) (f_X11_joyMendedAhead_B24 p1 p2 ) 4000 ((0)) ((0)) m2
theorem dd_X11_joyMendedAhead : yX11_joyMendedAhead.cls = RX11 ∧ yX11_joyMendedAhead.cls ≠ "java/lang/invoke/MethodHandle" ∧ yX11_joyMendedAhead.cls ≠ "java/lang/invoke/VarHandle" ∧ (parseMethodDescriptor yX11_joyMendedAhead.desc).map (fun d => d.parameters.length) = some 2 := by decide +kernel
set_option maxHeartbeats 4000000 in
set_option maxRecDepth 100000 in
theorem k_X11_joyMendedAhead {l : Launch} {ad : Nat → Nat} {cy : Nat → ClassId} {dC : Nat → ClassId} {dI : Nat → Nat → Nat} {ks : (Nat → Nat) × (Nat → Nat)} {p1 : Int32} {p2 : Int32} {mem : Mm} {r2 : Int32} {mem2 : Mm}  (h : f_X11_joyMendedAhead p1 p2 mem = some (r2, mem2)) : CtI l Lp ad cy dC dI ks yX11_joyMendedAhead cX11_joyMendedAhead 5 (some .int) ({ frames := 5, cells := 0, slots := 0, locals := 112 }) [.ref (ad (0)), .int (p1), .int (p2)] mem r2 mem2 := by
  refine CtI.of (cc := cX11_joyMendedAhead) (maxL := 5) (ret := (some .int)) (own := RX11) rfl (by decide) (Nat.le_of_ble_eq_true rfl) ?_
  intro p e s m args below meth c A X
  have hts := X.2.2.2.2.1
  have hl190 := X.2.2.2.2.2.2.1 (.fieldLinkNest "StationPiano" 190 "StationPiano$DayRun" "joySum" "I" "StationPiano") (List.mem_of_getElem? (i := 75) rfl)
  have hl193 := X.2.2.2.2.2.2.1 (.fieldLinkNest "StationPiano" 193 "StationPiano$Station" "price" "I" "StationPiano") (List.mem_of_getElem? (i := 51) rfl)
  have hl301 := X.2.2.2.2.2.2.1 (.fieldLinkNest "StationPiano" 301 "StationPiano$State" "paid" "I" "StationPiano") (List.mem_of_getElem? (i := 62) rfl)
  have hJ51 : ∀ (k24 : Int32 → Int32 → Mm → Option (Int32 × Mm)) (hk24 : ∀ (x3 : Int32) (x4 : Int32) (m5 : Mm), k24 x3 x4 m5 = some (r2, mem2) → Jd p l e ({ frames := 5, cells := 0, slots := 0, locals := 112 }) s m args below meth c 5 (MQ below (PsI Lp ad cy dC dI r2 mem2 A) args s 0 0 A) A dC dI cy Lp ad m5 24 [(0, .ref (ad (0))), (1, .int (p1)), (2, .int (p2)), (3, .int (x3)), (4, .int (x4))] []) (x9 : Int32) (x10 : Int32) (m11 : Mm), f_X11_joyMendedAhead_J51 p1 p2 k24 x9 x10 m11 = some (r2, mem2) → Jd p l e ({ frames := 5, cells := 0, slots := 0, locals := 112 }) s m args below meth c 5 (MQ below (PsI Lp ad cy dC dI r2 mem2 A) args s 0 0 A) A dC dI cy Lp ad m11 51 [(0, .ref (ad (0))), (1, .int (p1)), (2, .int (p2)), (3, .int (x9)), (4, .int (x10))] [] := by
    intro k24 hk24 x9 x10 m11 h
    unfold f_X11_joyMendedAhead_J51 at h
    refine r_aload_n X dX11_joyMendedAhead_51 rfl 0 rfl ?_
    refine r_getF X (k := 10) (of := 82) rfl (Lp_N Lpk_0 rfl) Lpk_0 rfl (by decide) ui_11 (by decide) uw2_193 rfl dX11_joyMendedAhead_52 ?_
    refine r_aload_n X dX11_joyMendedAhead_55 rfl 0 rfl ?_
    refine r_getF X (k := 5) (of := 66) rfl (Lp_N Lpk_0 rfl) Lpk_0 rfl (by decide) ui_11 (by decide) uw2_188 rfl dX11_joyMendedAhead_56 ?_
    refine r_iconst (v := (0)) X dX11_joyMendedAhead_59 (by decide) ?_
    refine r_cVV (As := [.ref (ad (66)), .int ((0))]) (rest := []) X (fun m9 hg => k_X1_pass Lpk_66 hg) h (Lp_N Lpk_82 rfl) Lpk_82 rfl (by decide) uw4_96 uw4_97 uw4_98 uw1_11 uw4_99 rfl rfl dd_X1_pass ⟨Nat.le_of_ble_eq_true rfl, Nat.le_of_ble_eq_true rfl⟩ rfl (Nat.le_of_ble_eq_true rfl) dX11_joyMendedAhead_60 rfl (fun m12 h => ?_)
    refine r_iload_n X dX11_joyMendedAhead_63 rfl 3 rfl ?_
    refine r_aload_n X dX11_joyMendedAhead_64 rfl 0 rfl ?_
    refine r_getF X (k := 10) (of := 82) rfl (Lp_N Lpk_0 rfl) Lpk_0 rfl (by decide) ui_11 (by decide) uw2_193 rfl dX11_joyMendedAhead_65 ?_
    refine r_getIN X (k := 10) (Lp_N Lpk_82 rfl) Lpk_82 rfl (by decide) ui_1 (by decide) hl190 rfl dX11_joyMendedAhead_68 ?_
    refine r_iadd X dX11_joyMendedAhead_71 ?_
    refine r_nmI h (fun x13 h => ?_)
    refine r_istore_n (lv2 := [(3, .int (x13)), (0, .ref (ad (0))), (1, .int (p1)), (2, .int (p2)), (4, .int (x10))]) X dX11_joyMendedAhead_72 rfl (by decide) rfl ?_
    refine r_inc h (fun x14 e9 h => ?_)
    refine r_iinc (v := x14) (lv2 := [(4, .int (x14)), (3, .int (x13)), (0, .ref (ad (0))), (1, .int (p1)), (2, .int (p2))]) X dX11_joyMendedAhead_73 4 rfl (by rw [e9]; rfl) (by decide) rfl ?_
    refine r_goto (tgt := 24) X dX11_joyMendedAhead_76 (by decide) ?_
    exact r_sub [2, 3, 4, 1, 0] rfl (hk24 x13 x14 m12 h)
  have hJ24 : ∀ (k24 : Int32 → Int32 → Mm → Option (Int32 × Mm)) (hk24 : ∀ (x3 : Int32) (x4 : Int32) (m5 : Mm), k24 x3 x4 m5 = some (r2, mem2) → Jd p l e ({ frames := 5, cells := 0, slots := 0, locals := 112 }) s m args below meth c 5 (MQ below (PsI Lp ad cy dC dI r2 mem2 A) args s 0 0 A) A dC dI cy Lp ad m5 24 [(0, .ref (ad (0))), (1, .int (p1)), (2, .int (p2)), (3, .int (x3)), (4, .int (x4))] []) (x3 : Int32) (x4 : Int32) (m5 : Mm), f_X11_joyMendedAhead_B24 p1 p2 k24 x3 x4 m5 = some (r2, mem2) → Jd p l e ({ frames := 5, cells := 0, slots := 0, locals := 112 }) s m args below meth c 5 (MQ below (PsI Lp ad cy dC dI r2 mem2 A) args s 0 0 A) A dC dI cy Lp ad m5 24 [(0, .ref (ad (0))), (1, .int (p1)), (2, .int (p2)), (3, .int (x3)), (4, .int (x4))] [] := by
    intro k24 hk24 x3 x4 m5 h
    unfold f_X11_joyMendedAhead_B24 at h
    refine r_iload X dX11_joyMendedAhead_24 4 rfl ?_
    refine r_iload_n X dX11_joyMendedAhead_26 rfl 1 rfl ?_
    refine r_icmp_ge (tgt := 79) X dX11_joyMendedAhead_27 (by decide) h (fun h => ?_) (fun h => ?_)
    · refine r_iload_n X dX11_joyMendedAhead_79 rfl 3 rfl ?_
      refine r_aload_n X dX11_joyMendedAhead_80 rfl 0 rfl ?_
      refine r_getF X (k := 5) (of := 66) rfl (Lp_N Lpk_0 rfl) Lpk_0 rfl (by decide) ui_11 (by decide) uw2_188 rfl dX11_joyMendedAhead_81 ?_
      refine r_getIN X (k := 5) (Lp_N Lpk_66 rfl) Lpk_66 rfl (by decide) ui_6 (by decide) hl301 rfl dX11_joyMendedAhead_84 ?_
      refine r_isub X dX11_joyMendedAhead_87 ?_
      exact r_iret2 X rfl dX11_joyMendedAhead_88 h
    · refine r_iload X dX11_joyMendedAhead_30 4 rfl ?_
      refine r_iload_n X dX11_joyMendedAhead_32 rfl 2 rfl ?_
      refine r_icmp_ne (tgt := 51) X dX11_joyMendedAhead_33 (by decide) h (fun h => ?_) (fun h => ?_)
      · exact r_sub [0, 1, 2, 3, 4] rfl (hJ51 k24 hk24 x3 x4 m5 h)
      · refine r_aload_n X dX11_joyMendedAhead_36 rfl 0 rfl ?_
        refine r_getF X (k := 5) (of := 66) rfl (Lp_N Lpk_0 rfl) Lpk_0 rfl (by decide) ui_11 (by decide) uw2_188 rfl dX11_joyMendedAhead_37 ?_
        refine r_aload_n X dX11_joyMendedAhead_40 rfl 0 rfl ?_
        refine r_getR X 7 (k := 2) (Lp_N Lpk_0 rfl) Lpk_0 rfl (by decide) ui_11 (by decide) uw2_185 rfl h dX11_joyMendedAhead_41 (fun q6 eq6 h => ?_)
        refine r_getIN X (k := 12) (Lp_N eq6 rfl) eq6 rfl (by decide) ui_7 (by decide) hl193 rfl dX11_joyMendedAhead_44 ?_
        refine r_cVI (As := [.int (gI m5 q6 12)]) (rest := []) X (fun r9 m9 hg => k_X6_tuneUp Lpk_66 hg) h (Lp_N Lpk_66 rfl) Lpk_66 rfl (by decide) uw4_170 uw4_171 uw4_172 uw1_7 uw4_173 rfl rfl dd_X6_tuneUp ⟨Nat.le_of_ble_eq_true rfl, Nat.le_of_ble_eq_true rfl⟩ rfl (Nat.le_of_ble_eq_true rfl) dX11_joyMendedAhead_47 rfl (fun x8 m7 h => ?_)
        refine r_pop X dX11_joyMendedAhead_50 rfl ?_
        exact r_sub [0, 1, 2, 3, 4] rfl (hJ51 k24 hk24 x3 x4 m7 h)
  have hL24 : ∀ (n : Nat), ∀ (x3 : Int32) (x4 : Int32) (m5 : Mm), lop (fun _ _ _ => none) (f_X11_joyMendedAhead_B24 p1 p2 ) n x3 x4 m5 = some (r2, mem2) → Jd p l e ({ frames := 5, cells := 0, slots := 0, locals := 112 }) s m args below meth c 5 (MQ below (PsI Lp ad cy dC dI r2 mem2 A) args s 0 0 A) A dC dI cy Lp ad m5 24 [(0, .ref (ad (0))), (1, .int (p1)), (2, .int (p2)), (3, .int (x3)), (4, .int (x4))] [] := by
    intro  n
    induction n with
    | zero => intro _ _ _ h; cases h
    | succ n ih => intro a0 a1 a2 h; exact hJ24  _ ih a0 a1 a2 h
  unfold f_X11_joyMendedAhead at h
  refine r_aload_n X dX11_joyMendedAhead_0 rfl 0 rfl ?_
  refine r_getF X (k := 5) (of := 66) rfl (Lp_N Lpk_0 rfl) Lpk_0 rfl (by decide) ui_11 (by decide) uw2_188 rfl dX11_joyMendedAhead_1 ?_
  refine r_aload_n X dX11_joyMendedAhead_4 rfl 0 rfl ?_
  refine r_getF X (k := 4) (of := 64) rfl (Lp_N Lpk_0 rfl) Lpk_0 rfl (by decide) ui_11 (by decide) uw2_187 rfl dX11_joyMendedAhead_5 ?_
  refine r_cVV (As := [.ref (ad (64))]) (rest := []) X (fun m9 hg => k_X6_copyFrom Lpk_66 Lpk_64 hg) h (Lp_N Lpk_66 rfl) Lpk_66 rfl (by decide) uw4_65 uw4_66 uw4_67 uw1_7 uw4_68 rfl rfl dd_X6_copyFrom ⟨Nat.le_of_ble_eq_true rfl, Nat.le_of_ble_eq_true rfl⟩ rfl (Nat.le_of_ble_eq_true rfl) dX11_joyMendedAhead_8 rfl (fun m1 h => ?_)
  refine r_aload_n X dX11_joyMendedAhead_11 rfl 0 rfl ?_
  refine r_getF X (k := 5) (of := 66) rfl (Lp_N Lpk_0 rfl) Lpk_0 rfl (by decide) ui_11 (by decide) uw2_188 rfl dX11_joyMendedAhead_12 ?_
  refine r_iconst (v := (0)) X dX11_joyMendedAhead_15 (by decide) ?_
  refine r_putIN X (k := 5) (Lp_N Lpk_66 rfl) Lpk_66 rfl (by decide) ui_6 (by decide) hl301 tyX6_ok nmX6 rfl rfl rfl dX11_joyMendedAhead_16 ?_
  refine r_nmM h (fun m2 h => ?_)
  refine r_iconst (v := (0)) X dX11_joyMendedAhead_19 (by decide) ?_
  refine r_istore_n (lv2 := [(3, .int ((0))), (0, .ref (ad (0))), (1, .int (p1)), (2, .int (p2))]) X dX11_joyMendedAhead_20 rfl (by decide) rfl ?_
  refine r_iconst (v := (0)) X dX11_joyMendedAhead_21 (by decide) ?_
  refine r_istore (lv2 := [(4, .int ((0))), (3, .int ((0))), (0, .ref (ad (0))), (1, .int (p1)), (2, .int (p2))]) X dX11_joyMendedAhead_22 (by decide) rfl ?_
  exact r_sub [2, 3, 4, 1, 0] rfl (hL24 4000 ((0)) ((0)) m2 h)
noncomputable def f_X11_searchMending_J84 (p1 : Int32) (k39 : Int32 → Mm → Option Mm) (x12 : Int32) (m13 : Mm) : Option Mm :=
  bnd (x12 + (1)) fun x14 => k39 x14 m13
noncomputable def f_X11_searchMending_J83 (p1 : Int32) (k39 : Int32 → Mm → Option Mm) (x15 : Int32) (x16 : Int32) (x17 : Int32) (m18 : Mm) : Option Mm :=
  grd (inb x17 3) (bnd (sI m18 165 x17.toNatClampNeg x16) fun m19 => f_X11_searchMending_J84 p1 k39 x15 m19)
noncomputable def f_X11_searchMending_B39 (p1 : Int32) (k39 : Int32 → Mm → Option Mm) (x7 : Int32) (m8 : Mm) : Option Mm :=
  if p1 < x7 then (some m8) else (bdI (f_X11_joyMendedAhead p1 x7 m8) fun x10 m9 => if x10 ≤ (gI m9 165 0) then (f_X11_searchMending_J84 p1 k39 x7 m9) else (bnd (sI m9 165 0 x10) fun m11 => if p1 ≤ x7 then (f_X11_searchMending_J83 p1 k39 x7 ((-1)) ((1)) m11) else (f_X11_searchMending_J83 p1 k39 x7 x7 ((1)) m11)))
noncomputable def f_X11_searchMending (p1 : Int32) (mem : Mm) : Option Mm :=
  grd (decide (Lp.1 (gR mem 0 2) = 7)) (bnd (gR mem 0 2) fun q1 => bdV (f_X1_prepare q1 (gI mem 64 2) mem) fun m2 => bdI (f_X11_joyMendedAhead p1 ((0)) m2) fun x4 m3 => bnd (sI m3 165 0 x4) fun m5 => bnd (sI m5 165 1 ((0))) fun m6 => lop (fun _ _ => none) (f_X11_searchMending_B39 p1 ) 4000 ((1)) m6)
theorem dd_X11_searchMending : yX11_searchMending.cls = RX11 ∧ yX11_searchMending.cls ≠ "java/lang/invoke/MethodHandle" ∧ yX11_searchMending.cls ≠ "java/lang/invoke/VarHandle" ∧ (parseMethodDescriptor yX11_searchMending.desc).map (fun d => d.parameters.length) = some 1 := by decide +kernel
set_option maxHeartbeats 4000000 in
set_option maxRecDepth 100000 in
theorem k_X11_searchMending {l : Launch} {ad : Nat → Nat} {cy : Nat → ClassId} {dC : Nat → ClassId} {dI : Nat → Nat → Nat} {ks : (Nat → Nat) × (Nat → Nat)} {p1 : Int32} {mem : Mm} {mem2 : Mm}  (h : f_X11_searchMending p1 mem = some mem2) : CtV l Lp ad cy dC dI ks yX11_searchMending cX11_searchMending 4 none ({ frames := 6, cells := 0, slots := 0, locals := 136 }) [.ref (ad (0)), .int (p1)] mem mem2 := by
  refine CtV.of (cc := cX11_searchMending) (maxL := 4) (ret := none) (own := RX11) rfl (by decide) (Nat.le_of_ble_eq_true rfl) ?_
  intro p e s m args below meth c A X
  have hts := X.2.2.2.2.1
  have hl138 := X.2.2.2.2.2.2.1 (.fieldLinkNest "StationPiano" 138 "StationPiano$State" "minutes" "I" "StationPiano") (List.mem_of_getElem? (i := 57) rfl)
  have hJ84 : ∀ (k39 : Int32 → Mm → Option Mm) (hk39 : ∀ (x7 : Int32) (m8 : Mm), k39 x7 m8 = some mem2 → Jd p l e ({ frames := 6, cells := 0, slots := 0, locals := 136 }) s m args below meth c 4 (MQ below (PsV Lp ad cy dC dI mem2 A) args s 0 0 A) A dC dI cy Lp ad m8 39 [(0, .ref (ad (0))), (1, .int (p1)), (2, .int (x7))] []) (x12 : Int32) (m13 : Mm), f_X11_searchMending_J84 p1 k39 x12 m13 = some mem2 → Jd p l e ({ frames := 6, cells := 0, slots := 0, locals := 136 }) s m args below meth c 4 (MQ below (PsV Lp ad cy dC dI mem2 A) args s 0 0 A) A dC dI cy Lp ad m13 84 [(0, .ref (ad (0))), (1, .int (p1)), (2, .int (x12))] [] := by
    intro k39 hk39 x12 m13 h
    unfold f_X11_searchMending_J84 at h
    refine r_inc h (fun x14 e9 h => ?_)
    refine r_iinc (v := x14) (lv2 := [(2, .int (x14)), (0, .ref (ad (0))), (1, .int (p1))]) X dX11_searchMending_84 2 rfl (by rw [e9]; rfl) (by decide) rfl ?_
    refine r_goto (tgt := 39) X dX11_searchMending_87 (by decide) ?_
    exact r_sub [1, 2, 0] rfl (hk39 x14 m13 h)
  have hJ83 : ∀ (k39 : Int32 → Mm → Option Mm) (hk39 : ∀ (x7 : Int32) (m8 : Mm), k39 x7 m8 = some mem2 → Jd p l e ({ frames := 6, cells := 0, slots := 0, locals := 136 }) s m args below meth c 4 (MQ below (PsV Lp ad cy dC dI mem2 A) args s 0 0 A) A dC dI cy Lp ad m8 39 [(0, .ref (ad (0))), (1, .int (p1)), (2, .int (x7))] []) (x15 : Int32) (x16 : Int32) (x17 : Int32) (m18 : Mm), f_X11_searchMending_J83 p1 k39 x15 x16 x17 m18 = some mem2 → Jd p l e ({ frames := 6, cells := 0, slots := 0, locals := 136 }) s m args below meth c 4 (MQ below (PsV Lp ad cy dC dI mem2 A) args s 0 0 A) A dC dI cy Lp ad m18 83 [(0, .ref (ad (0))), (1, .int (p1)), (2, .int (x15))] [.int (x16), .int (x17), .ref (ad (165))] := by
    intro k39 hk39 x15 x16 x17 m18 h
    unfold f_X11_searchMending_J83 at h
    refine r_iast X (Lp_N Lpk_165 rfl) Lpk_165 h dX11_searchMending_83 (fun h => ?_)
    refine r_nmM h (fun m19 h => ?_)
    exact r_sub [0, 1, 2] rfl (hJ84 k39 hk39 x15 m19 h)
  have hJ39 : ∀ (k39 : Int32 → Mm → Option Mm) (hk39 : ∀ (x7 : Int32) (m8 : Mm), k39 x7 m8 = some mem2 → Jd p l e ({ frames := 6, cells := 0, slots := 0, locals := 136 }) s m args below meth c 4 (MQ below (PsV Lp ad cy dC dI mem2 A) args s 0 0 A) A dC dI cy Lp ad m8 39 [(0, .ref (ad (0))), (1, .int (p1)), (2, .int (x7))] []) (x7 : Int32) (m8 : Mm), f_X11_searchMending_B39 p1 k39 x7 m8 = some mem2 → Jd p l e ({ frames := 6, cells := 0, slots := 0, locals := 136 }) s m args below meth c 4 (MQ below (PsV Lp ad cy dC dI mem2 A) args s 0 0 A) A dC dI cy Lp ad m8 39 [(0, .ref (ad (0))), (1, .int (p1)), (2, .int (x7))] [] := by
    intro k39 hk39 x7 m8 h
    unfold f_X11_searchMending_B39 at h
    refine r_iload_n X dX11_searchMending_39 rfl 2 rfl ?_
    refine r_iload_n X dX11_searchMending_40 rfl 1 rfl ?_
    refine r_icmp_gt (tgt := 90) X dX11_searchMending_41 (by decide) h (fun h => ?_) (fun h => ?_)
    · exact r_vret X rfl dX11_searchMending_90 h
    · refine r_aload_n X dX11_searchMending_44 rfl 0 rfl ?_
      refine r_iload_n X dX11_searchMending_45 rfl 1 rfl ?_
      refine r_iload_n X dX11_searchMending_46 rfl 2 rfl ?_
      refine r_cVI (As := [.int (p1), .int (x7)]) (rest := []) X (fun r9 m9 hg => k_X11_joyMendedAhead hg) h (Lp_N Lpk_0 rfl) Lpk_0 rfl (by decide) uw5_149 uw5_151 us3_9 uw1_1 uw5_152 rfl rfl dd_X11_joyMendedAhead ⟨Nat.le_of_ble_eq_true rfl, Nat.le_of_ble_eq_true rfl⟩ rfl (Nat.le_of_ble_eq_true rfl) dX11_searchMending_47 rfl (fun x10 m9 h => ?_)
      refine r_istore_n (lv2 := [(3, .int (x10)), (0, .ref (ad (0))), (1, .int (p1)), (2, .int (x7))]) X dX11_searchMending_50 rfl (by decide) rfl ?_
      refine r_iload_n X dX11_searchMending_51 rfl 0 rfl ?_
      refine r_aload_n X dX11_searchMending_52 rfl 1 rfl ?_
      refine r_getF X (k := 15) (of := 165) rfl (Lp_N Lpk_0 rfl) Lpk_0 rfl (by decide) ui_11 (by decide) uw2_198 rfl dX11_searchMending_53 ?_
      refine r_iconst (v := (0)) X dX11_searchMending_56 (by decide) ?_
      refine r_iald X (Lp_N Lpk_165 rfl) Lpk_165 (g_in rfl h) dX11_searchMending_57 (fun h => ?_)
      refine r_icmp_le (tgt := 84) X dX11_searchMending_58 (by decide) h (fun h => ?_) (fun h => ?_)
      · exact r_sub [1, 2, 3] rfl (hJ84 k39 hk39 x7 m9 h)
      · refine r_aload_n X dX11_searchMending_61 rfl 1 rfl ?_
        refine r_getF X (k := 15) (of := 165) rfl (Lp_N Lpk_0 rfl) Lpk_0 rfl (by decide) ui_11 (by decide) uw2_198 rfl dX11_searchMending_62 ?_
        refine r_iconst (v := (0)) X dX11_searchMending_65 (by decide) ?_
        refine r_iload_n X dX11_searchMending_66 rfl 0 rfl ?_
        refine r_iast X (Lp_N Lpk_165 rfl) Lpk_165 (g_in rfl h) dX11_searchMending_67 (fun h => ?_)
        refine r_nmM h (fun m11 h => ?_)
        refine r_aload_n X dX11_searchMending_68 rfl 1 rfl ?_
        refine r_getF X (k := 15) (of := 165) rfl (Lp_N Lpk_0 rfl) Lpk_0 rfl (by decide) ui_11 (by decide) uw2_198 rfl dX11_searchMending_69 ?_
        refine r_iconst (v := (1)) X dX11_searchMending_72 (by decide) ?_
        refine r_iload_n X dX11_searchMending_73 rfl 3 rfl ?_
        refine r_iload_n X dX11_searchMending_74 rfl 2 rfl ?_
        refine r_icmp_ge (tgt := 82) X dX11_searchMending_75 (by decide) h (fun h => ?_) (fun h => ?_)
        · refine r_iconst (v := (-1)) X dX11_searchMending_82 (by decide) ?_
          exact r_sub [1, 2, 3] rfl (hJ83 k39 hk39 x7 ((-1)) ((1)) m11 h)
        · refine r_iload_n X dX11_searchMending_78 rfl 3 rfl ?_
          refine r_goto (tgt := 83) X dX11_searchMending_79 (by decide) ?_
          exact r_sub [1, 2, 3] rfl (hJ83 k39 hk39 x7 x7 ((1)) m11 h)
  have hL39 : ∀ (n : Nat), ∀ (x7 : Int32) (m8 : Mm), lop (fun _ _ => none) (f_X11_searchMending_B39 p1 ) n x7 m8 = some mem2 → Jd p l e ({ frames := 6, cells := 0, slots := 0, locals := 136 }) s m args below meth c 4 (MQ below (PsV Lp ad cy dC dI mem2 A) args s 0 0 A) A dC dI cy Lp ad m8 39 [(0, .ref (ad (0))), (1, .int (p1)), (2, .int (x7))] [] := by
    intro  n
    induction n with
    | zero => intro _ _ h; cases h
    | succ n ih => intro a0 a1 h; exact hJ39  _ ih a0 a1 h
  unfold f_X11_searchMending at h
  refine r_aload_n X dX11_searchMending_0 rfl 0 rfl ?_
  refine r_getF X (k := 10) (of := 82) rfl (Lp_N Lpk_0 rfl) Lpk_0 rfl (by decide) ui_11 (by decide) uw2_193 rfl dX11_searchMending_1 ?_
  refine r_aload_n X dX11_searchMending_4 rfl 0 rfl ?_
  refine r_getR X 7 (k := 2) (Lp_N Lpk_0 rfl) Lpk_0 rfl (by decide) ui_11 (by decide) uw2_185 rfl h dX11_searchMending_5 (fun q1 eq1 h => ?_)
  refine r_aload_n X dX11_searchMending_8 rfl 0 rfl ?_
  refine r_getF X (k := 4) (of := 64) rfl (Lp_N Lpk_0 rfl) Lpk_0 rfl (by decide) ui_11 (by decide) uw2_187 rfl dX11_searchMending_9 ?_
  refine r_getIN X (k := 2) (Lp_N Lpk_64 rfl) Lpk_64 rfl (by decide) ui_6 (by decide) hl138 rfl dX11_searchMending_12 ?_
  refine r_cVV (As := [.ref (ad (q1)), .int (gI mem 64 2)]) (rest := []) X (fun m9 hg => k_X1_prepare eq1 hg) h (Lp_N Lpk_82 rfl) Lpk_82 rfl (by decide) uw4_69 uw4_70 uw4_71 uw1_11 uw4_72 rfl rfl dd_X1_prepare ⟨Nat.le_of_ble_eq_true rfl, Nat.le_of_ble_eq_true rfl⟩ rfl (Nat.le_of_ble_eq_true rfl) dX11_searchMending_15 rfl (fun m2 h => ?_)
  refine r_aload_n X dX11_searchMending_18 rfl 0 rfl ?_
  refine r_getF X (k := 15) (of := 165) rfl (Lp_N Lpk_0 rfl) Lpk_0 rfl (by decide) ui_11 (by decide) uw2_198 rfl dX11_searchMending_19 ?_
  refine r_iconst (v := (0)) X dX11_searchMending_22 (by decide) ?_
  refine r_aload_n X dX11_searchMending_23 rfl 0 rfl ?_
  refine r_iload_n X dX11_searchMending_24 rfl 1 rfl ?_
  refine r_iconst (v := (0)) X dX11_searchMending_25 (by decide) ?_
  refine r_cVI (As := [.int (p1), .int ((0))]) (rest := [.int ((0)), .ref (ad (165))]) X (fun r9 m9 hg => k_X11_joyMendedAhead hg) h (Lp_N Lpk_0 rfl) Lpk_0 rfl (by decide) uw5_149 uw5_151 us3_9 uw1_1 uw5_152 rfl rfl dd_X11_joyMendedAhead ⟨Nat.le_of_ble_eq_true rfl, Nat.le_of_ble_eq_true rfl⟩ rfl (Nat.le_of_ble_eq_true rfl) dX11_searchMending_26 rfl (fun x4 m3 h => ?_)
  refine r_iast X (Lp_N Lpk_165 rfl) Lpk_165 (g_in rfl h) dX11_searchMending_29 (fun h => ?_)
  refine r_nmM h (fun m5 h => ?_)
  refine r_aload_n X dX11_searchMending_30 rfl 0 rfl ?_
  refine r_getF X (k := 15) (of := 165) rfl (Lp_N Lpk_0 rfl) Lpk_0 rfl (by decide) ui_11 (by decide) uw2_198 rfl dX11_searchMending_31 ?_
  refine r_iconst (v := (1)) X dX11_searchMending_34 (by decide) ?_
  refine r_iconst (v := (0)) X dX11_searchMending_35 (by decide) ?_
  refine r_iast X (Lp_N Lpk_165 rfl) Lpk_165 (g_in rfl h) dX11_searchMending_36 (fun h => ?_)
  refine r_nmM h (fun m6 h => ?_)
  refine r_iconst (v := (1)) X dX11_searchMending_37 (by decide) ?_
  refine r_istore_n (lv2 := [(2, .int ((1))), (0, .ref (ad (0))), (1, .int (p1))]) X dX11_searchMending_38 rfl (by decide) rfl ?_
  exact r_sub [1, 2, 0] rfl (hL39 4000 ((1)) m6 h)
noncomputable def f_X11_when_J20 (p1 : Int32) (p2 : Int32) (m2 : Mm) : Option (Option Int32 × Mm) :=
  some (none, m2)
noncomputable def f_X11_when (p1 : Int32) (p2 : Int32) (mem : Mm) : Option (Option Int32 × Mm) :=
  if p1 < ((1)) then (f_X11_when_J20 p1 p2 mem) else (if ((9)) < p1 then (f_X11_when_J20 p1 p2 mem) else (if p2 < 0 then (f_X11_when_J20 p1 p2 mem) else (if p2 ≤ ((1)) then (bdV (f_X11_searchMending p1 mem) fun m1 => grd (inb p2 3) (some (some (gI m1 165 p2.toNatClampNeg), m1))) else (f_X11_when_J20 p1 p2 mem))))
theorem dd_X11_when : yX11_when.cls = RX11 ∧ yX11_when.cls ≠ "java/lang/invoke/MethodHandle" ∧ yX11_when.cls ≠ "java/lang/invoke/VarHandle" ∧ (parseMethodDescriptor yX11_when.desc).map (fun d => d.parameters.length) = some 2 := by decide +kernel
set_option maxHeartbeats 4000000 in
set_option maxRecDepth 100000 in
theorem k_X11_when {l : Launch} {ad : Nat → Nat} {cy : Nat → ClassId} {dC : Nat → ClassId} {dI : Nat → Nat → Nat} {ks : (Nat → Nat) × (Nat → Nat)} {p1 : Int32} {p2 : Int32} {mem : Mm} {o2 : Option Int32} {mem2 : Mm} (hnt : l.stackTraces = false)  (h : f_X11_when p1 p2 mem = some (o2, mem2)) : CtX l Lp ad cy dC dI ks yX11_when cX11_when 3 (some .int) ({ frames := 7, cells := 1, slots := 6, locals := 159 }) [.ref (ad (0)), .int (p1), .int (p2)] mem o2 mem2 := by
  refine CtX.of (cc := cX11_when) (maxL := 3) (ret := (some .int)) (own := RX11) rfl (by decide) (Nat.le_of_ble_eq_true rfl) ?_
  intro p e s m args below meth c A X hT hex
  have hts := X.2.2.2.2.1
  have hJ20 : ∀ (m2 : Mm), f_X11_when_J20 p1 p2 m2 = some (o2, mem2) → Jd p l e ({ frames := 7, cells := 1, slots := 6, locals := 159 }) s m args below meth c 3 (vx_MQ below (QcX Lp ad cy dC dI o2 mem2 A) (XcX Lp ad cy dC dI o2 mem2 A) args s 1 6 A) A dC dI cy Lp ad m2 20 [] [] := by
    intro m2 h
    unfold f_X11_when_J20 at h
    exact r_throw X hT hnt hex rfl dX11_when_20 dX11_when_23 dX11_when_24 dX11_when_27 (Nat.le_of_ble_eq_true rfl) (Nat.le_of_ble_eq_true rfl) (Nat.le_of_ble_eq_true rfl) (Nat.le_of_ble_eq_true rfl) h
  unfold f_X11_when at h
  refine r_iload_n X dX11_when_0 rfl 1 rfl ?_
  refine r_iconst (v := (1)) X dX11_when_1 (by decide) ?_
  refine r_icmp_lt (tgt := 20) X dX11_when_2 (by decide) h (fun h => ?_) (fun h => ?_)
  · exact r_sub [] rfl (hJ20 mem h)
  · refine r_iload_n X dX11_when_5 rfl 1 rfl ?_
    refine r_bipush (v := (9)) X dX11_when_6 (by decide) ?_
    refine r_icmp_gt (tgt := 20) X dX11_when_8 (by decide) h (fun h => ?_) (fun h => ?_)
    · exact r_sub [] rfl (hJ20 mem h)
    · refine r_iload_n X dX11_when_11 rfl 2 rfl ?_
      refine r_if_lt (tgt := 20) X dX11_when_12 (by decide) h (fun h => ?_) (fun h => ?_)
      · exact r_sub [] rfl (hJ20 mem h)
      · refine r_iload_n X dX11_when_15 rfl 2 rfl ?_
        refine r_iconst (v := (1)) X dX11_when_16 (by decide) ?_
        refine r_icmp_le (tgt := 28) X dX11_when_17 (by decide) h (fun h => ?_) (fun h => ?_)
        · refine r_aload_n X dX11_when_28 rfl 0 rfl ?_
          refine r_iload_n X dX11_when_29 rfl 1 rfl ?_
          refine r_cVV (As := [.int (p1)]) (rest := []) X (fun m9 hg => k_X11_searchMending hg) h (Lp_N Lpk_0 rfl) Lpk_0 rfl (by decide) uw5_145 uw5_147 us3_8 uw1_1 uw5_148 rfl rfl dd_X11_searchMending ⟨Nat.le_of_ble_eq_true rfl, Nat.le_of_ble_eq_true rfl⟩ rfl (Nat.le_of_ble_eq_true rfl) dX11_when_30 rfl (fun m1 h => ?_)
          refine r_aload_n X dX11_when_33 rfl 0 rfl ?_
          refine r_getF X (k := 15) (of := 165) rfl (Lp_N Lpk_0 rfl) Lpk_0 rfl (by decide) ui_11 (by decide) uw2_198 rfl dX11_when_34 ?_
          refine r_iload_n X dX11_when_37 rfl 2 rfl ?_
          refine r_iald X (Lp_N Lpk_165 rfl) Lpk_165 h dX11_when_38 (fun h => ?_)
          exact r_iretX X rfl dX11_when_39 h
        · exact r_sub [] rfl (hJ20 mem h)
noncomputable def f_X11_lasts_B40 (p1 : Int32) (k40 : Int32 → Mm → Option (Int32 × Mm)) (x6 : Int32) (m7 : Mm) : Option (Int32 × Mm) :=
  if ((60)) < x6 then (some ((-1), m7)) else (grd (inb p1 12) (if (gI m7 67 p1.toNatClampNeg) < ((9)) then (bdV (f_X1_pass 66 ((0)) m7) fun m8 => bnd (x6 + (1)) fun x9 => k40 x9 m8) else (some (x6, m7))))
noncomputable def f_X11_lasts (p1 : Int32) (mem : Mm) : Option (Int32 × Mm) :=
  bdI (f_X11_isKey p1 mem) fun x2 m1 => if ¬ x2 = 0 then (bdV (f_X6_copyFrom 66 64 m1) fun m3 => grd (decide (Lp.1 (gR m3 0 2) = 7)) (bnd (gR m3 0 2) fun q4 => bdV (f_X1_prepare q4 (gI m3 66 2) m3) fun m5 => lop (fun _ _ => none) (f_X11_lasts_B40 p1 ) 4000 ((0)) m5)) else (some ((-1), m1))
theorem dd_X11_lasts : yX11_lasts.cls = RX11 ∧ yX11_lasts.cls ≠ "java/lang/invoke/MethodHandle" ∧ yX11_lasts.cls ≠ "java/lang/invoke/VarHandle" ∧ (parseMethodDescriptor yX11_lasts.desc).map (fun d => d.parameters.length) = some 1 := by decide +kernel
set_option maxHeartbeats 4000000 in
set_option maxRecDepth 100000 in
theorem k_X11_lasts {l : Launch} {ad : Nat → Nat} {cy : Nat → ClassId} {dC : Nat → ClassId} {dI : Nat → Nat → Nat} {ks : (Nat → Nat) × (Nat → Nat)} {p1 : Int32} {mem : Mm} {r2 : Int32} {mem2 : Mm}  (h : f_X11_lasts p1 mem = some (r2, mem2)) : CtI l Lp ad cy dC dI ks yX11_lasts cX11_lasts 3 (some .int) ({ frames := 5, cells := 0, slots := 0, locals := 112 }) [.ref (ad (0)), .int (p1)] mem r2 mem2 := by
  refine CtI.of (cc := cX11_lasts) (maxL := 3) (ret := (some .int)) (own := RX11) rfl (by decide) (Nat.le_of_ble_eq_true rfl) ?_
  intro p e s m args below meth c A X
  have hts := X.2.2.2.2.1
  have hl138 := X.2.2.2.2.2.2.1 (.fieldLinkNest "StationPiano" 138 "StationPiano$State" "minutes" "I" "StationPiano") (List.mem_of_getElem? (i := 57) rfl)
  have hl161 := X.2.2.2.2.2.2.1 (.fieldLinkNest "StationPiano" 161 "StationPiano$State" "wear" "[I" "StationPiano") (List.mem_of_getElem? (i := 55) rfl)
  have hJ40 : ∀ (k40 : Int32 → Mm → Option (Int32 × Mm)) (hk40 : ∀ (x6 : Int32) (m7 : Mm), k40 x6 m7 = some (r2, mem2) → Jd p l e ({ frames := 5, cells := 0, slots := 0, locals := 112 }) s m args below meth c 3 (MQ below (PsI Lp ad cy dC dI r2 mem2 A) args s 0 0 A) A dC dI cy Lp ad m7 40 [(0, .ref (ad (0))), (1, .int (p1)), (2, .int (x6))] []) (x6 : Int32) (m7 : Mm), f_X11_lasts_B40 p1 k40 x6 m7 = some (r2, mem2) → Jd p l e ({ frames := 5, cells := 0, slots := 0, locals := 112 }) s m args below meth c 3 (MQ below (PsI Lp ad cy dC dI r2 mem2 A) args s 0 0 A) A dC dI cy Lp ad m7 40 [(0, .ref (ad (0))), (1, .int (p1)), (2, .int (x6))] [] := by
    intro k40 hk40 x6 m7 h
    unfold f_X11_lasts_B40 at h
    refine r_iload_n X dX11_lasts_40 rfl 2 rfl ?_
    refine r_bipush (v := (60)) X dX11_lasts_41 (by decide) ?_
    refine r_icmp_gt (tgt := 80) X dX11_lasts_43 (by decide) h (fun h => ?_) (fun h => ?_)
    · refine r_iconst (v := (-1)) X dX11_lasts_80 (by decide) ?_
      exact r_iret2 X rfl dX11_lasts_81 h
    · refine r_aload_n X dX11_lasts_46 rfl 0 rfl ?_
      refine r_getF X (k := 5) (of := 66) rfl (Lp_N Lpk_0 rfl) Lpk_0 rfl (by decide) ui_11 (by decide) uw2_188 rfl dX11_lasts_47 ?_
      refine r_getFN X (k := 0) (of := 1) rfl (Lp_N Lpk_66 rfl) Lpk_66 rfl (by decide) ui_6 (by decide) hl161 rfl dX11_lasts_50 ?_
      refine r_iload_n X dX11_lasts_53 rfl 1 rfl ?_
      refine r_iald X (Lp_N Lpk_67 rfl) Lpk_67 h dX11_lasts_54 (fun h => ?_)
      refine r_bipush (v := (9)) X dX11_lasts_55 (by decide) ?_
      refine r_icmp_lt (tgt := 62) X dX11_lasts_57 (by decide) h (fun h => ?_) (fun h => ?_)
      · refine r_aload_n X dX11_lasts_62 rfl 0 rfl ?_
        refine r_getF X (k := 10) (of := 82) rfl (Lp_N Lpk_0 rfl) Lpk_0 rfl (by decide) ui_11 (by decide) uw2_193 rfl dX11_lasts_63 ?_
        refine r_aload_n X dX11_lasts_66 rfl 0 rfl ?_
        refine r_getF X (k := 5) (of := 66) rfl (Lp_N Lpk_0 rfl) Lpk_0 rfl (by decide) ui_11 (by decide) uw2_188 rfl dX11_lasts_67 ?_
        refine r_iconst (v := (0)) X dX11_lasts_70 (by decide) ?_
        refine r_cVV (As := [.ref (ad (66)), .int ((0))]) (rest := []) X (fun m9 hg => k_X1_pass Lpk_66 hg) h (Lp_N Lpk_82 rfl) Lpk_82 rfl (by decide) uw4_96 uw4_97 uw4_98 uw1_11 uw4_99 rfl rfl dd_X1_pass ⟨Nat.le_of_ble_eq_true rfl, Nat.le_of_ble_eq_true rfl⟩ rfl (Nat.le_of_ble_eq_true rfl) dX11_lasts_71 rfl (fun m8 h => ?_)
        refine r_inc h (fun x9 e9 h => ?_)
        refine r_iinc (v := x9) (lv2 := [(2, .int (x9)), (0, .ref (ad (0))), (1, .int (p1))]) X dX11_lasts_74 2 rfl (by rw [e9]; rfl) (by decide) rfl ?_
        refine r_goto (tgt := 40) X dX11_lasts_77 (by decide) ?_
        exact r_sub [1, 2, 0] rfl (hk40 x9 m8 h)
      · refine r_iload_n X dX11_lasts_60 rfl 2 rfl ?_
        exact r_iret2 X rfl dX11_lasts_61 h
  have hL40 : ∀ (n : Nat), ∀ (x6 : Int32) (m7 : Mm), lop (fun _ _ => none) (f_X11_lasts_B40 p1 ) n x6 m7 = some (r2, mem2) → Jd p l e ({ frames := 5, cells := 0, slots := 0, locals := 112 }) s m args below meth c 3 (MQ below (PsI Lp ad cy dC dI r2 mem2 A) args s 0 0 A) A dC dI cy Lp ad m7 40 [(0, .ref (ad (0))), (1, .int (p1)), (2, .int (x6))] [] := by
    intro  n
    induction n with
    | zero => intro _ _ h; cases h
    | succ n ih => intro a0 a1 h; exact hJ40  _ ih a0 a1 h
  unfold f_X11_lasts at h
  refine r_iload_n X dX11_lasts_0 rfl 1 rfl ?_
  refine r_cSI (As := [.int (p1)]) (rest := []) X (fun r9 m9 hg => k_X11_isKey hg) h uw4_54 uw4_55 uw1_1 uw4_56 rfl rfl dd_X11_isKey ⟨Nat.le_of_ble_eq_true rfl, Nat.le_of_ble_eq_true rfl⟩ rfl (Nat.le_of_ble_eq_true rfl) dX11_lasts_1 rfl (fun x2 m1 h => ?_)
  refine r_if_ne (tgt := 9) X dX11_lasts_4 (by decide) h (fun h => ?_) (fun h => ?_)
  · refine r_aload_n X dX11_lasts_9 rfl 0 rfl ?_
    refine r_getF X (k := 5) (of := 66) rfl (Lp_N Lpk_0 rfl) Lpk_0 rfl (by decide) ui_11 (by decide) uw2_188 rfl dX11_lasts_10 ?_
    refine r_aload_n X dX11_lasts_13 rfl 0 rfl ?_
    refine r_getF X (k := 4) (of := 64) rfl (Lp_N Lpk_0 rfl) Lpk_0 rfl (by decide) ui_11 (by decide) uw2_187 rfl dX11_lasts_14 ?_
    refine r_cVV (As := [.ref (ad (64))]) (rest := []) X (fun m9 hg => k_X6_copyFrom Lpk_66 Lpk_64 hg) h (Lp_N Lpk_66 rfl) Lpk_66 rfl (by decide) uw4_65 uw4_66 uw4_67 uw1_7 uw4_68 rfl rfl dd_X6_copyFrom ⟨Nat.le_of_ble_eq_true rfl, Nat.le_of_ble_eq_true rfl⟩ rfl (Nat.le_of_ble_eq_true rfl) dX11_lasts_17 rfl (fun m3 h => ?_)
    refine r_aload_n X dX11_lasts_20 rfl 0 rfl ?_
    refine r_getF X (k := 10) (of := 82) rfl (Lp_N Lpk_0 rfl) Lpk_0 rfl (by decide) ui_11 (by decide) uw2_193 rfl dX11_lasts_21 ?_
    refine r_aload_n X dX11_lasts_24 rfl 0 rfl ?_
    refine r_getR X 7 (k := 2) (Lp_N Lpk_0 rfl) Lpk_0 rfl (by decide) ui_11 (by decide) uw2_185 rfl h dX11_lasts_25 (fun q4 eq4 h => ?_)
    refine r_aload_n X dX11_lasts_28 rfl 0 rfl ?_
    refine r_getF X (k := 5) (of := 66) rfl (Lp_N Lpk_0 rfl) Lpk_0 rfl (by decide) ui_11 (by decide) uw2_188 rfl dX11_lasts_29 ?_
    refine r_getIN X (k := 2) (Lp_N Lpk_66 rfl) Lpk_66 rfl (by decide) ui_6 (by decide) hl138 rfl dX11_lasts_32 ?_
    refine r_cVV (As := [.ref (ad (q4)), .int (gI m3 66 2)]) (rest := []) X (fun m9 hg => k_X1_prepare eq4 hg) h (Lp_N Lpk_82 rfl) Lpk_82 rfl (by decide) uw4_69 uw4_70 uw4_71 uw1_11 uw4_72 rfl rfl dd_X1_prepare ⟨Nat.le_of_ble_eq_true rfl, Nat.le_of_ble_eq_true rfl⟩ rfl (Nat.le_of_ble_eq_true rfl) dX11_lasts_35 rfl (fun m5 h => ?_)
    refine r_iconst (v := (0)) X dX11_lasts_38 (by decide) ?_
    refine r_istore_n (lv2 := [(2, .int ((0))), (0, .ref (ad (0))), (1, .int (p1))]) X dX11_lasts_39 rfl (by decide) rfl ?_
    exact r_sub [1, 2, 0] rfl (hL40 4000 ((0)) m5 h)
  · refine r_iconst (v := (-1)) X dX11_lasts_7 (by decide) ?_
    exact r_iret2 X rfl dX11_lasts_8 h
noncomputable def f_X11_without (p1 : Int32) (mem : Mm) : Option (Option Int32 × Mm) :=
  bdI (f_X11_isPasser p1 mem) fun x2 m1 => if ¬ x2 = 0 then (bdI (f_X11_tryDay ((0)) m1) fun x4 m3 => bdI (f_X11_tryDay (((1)) <<< (p1 &&& 31)) m3) fun x6 m5 => some (some (x6 - x4), m5)) else (some (none, m1))
theorem dd_X11_without : yX11_without.cls = RX11 ∧ yX11_without.cls ≠ "java/lang/invoke/MethodHandle" ∧ yX11_without.cls ≠ "java/lang/invoke/VarHandle" ∧ (parseMethodDescriptor yX11_without.desc).map (fun d => d.parameters.length) = some 1 := by decide +kernel
set_option maxHeartbeats 4000000 in
set_option maxRecDepth 100000 in
theorem k_X11_without {l : Launch} {ad : Nat → Nat} {cy : Nat → ClassId} {dC : Nat → ClassId} {dI : Nat → Nat → Nat} {ks : (Nat → Nat) × (Nat → Nat)} {p1 : Int32} {mem : Mm} {o2 : Option Int32} {mem2 : Mm} (hnt : l.stackTraces = false)  (h : f_X11_without p1 mem = some (o2, mem2)) : CtX l Lp ad cy dC dI ks yX11_without cX11_without 3 (some .int) ({ frames := 6, cells := 1, slots := 6, locals := 133 }) [.ref (ad (0)), .int (p1)] mem o2 mem2 := by
  refine CtX.of (cc := cX11_without) (maxL := 3) (ret := (some .int)) (own := RX11) rfl (by decide) (Nat.le_of_ble_eq_true rfl) ?_
  intro p e s m args below meth c A X hT hex
  have hts := X.2.2.2.2.1
  unfold f_X11_without at h
  refine r_aload_n X dX11_without_0 rfl 0 rfl ?_
  refine r_iload_n X dX11_without_1 rfl 1 rfl ?_
  refine r_cVI (As := [.int (p1)]) (rest := []) X (fun r9 m9 hg => k_X11_isPasser hg) h (Lp_N Lpk_0 rfl) Lpk_0 rfl (by decide) uw4_38 uw4_40 us2_7 uw1_1 uw4_41 rfl rfl dd_X11_isPasser ⟨Nat.le_of_ble_eq_true rfl, Nat.le_of_ble_eq_true rfl⟩ rfl (Nat.le_of_ble_eq_true rfl) dX11_without_2 rfl (fun x2 m1 h => ?_)
  refine r_if_ne (tgt := 16) X dX11_without_5 (by decide) h (fun h => ?_) (fun h => ?_)
  · refine r_aload_n X dX11_without_16 rfl 0 rfl ?_
    refine r_iconst (v := (0)) X dX11_without_17 (by decide) ?_
    refine r_cVI (As := [.int ((0))]) (rest := []) X (fun r9 m9 hg => k_X11_tryDay hg) h (Lp_N Lpk_0 rfl) Lpk_0 rfl (by decide) uw4_61 uw4_63 us2_8 uw1_1 uw4_64 rfl rfl dd_X11_tryDay ⟨Nat.le_of_ble_eq_true rfl, Nat.le_of_ble_eq_true rfl⟩ rfl (Nat.le_of_ble_eq_true rfl) dX11_without_18 rfl (fun x4 m3 h => ?_)
    refine r_istore_n (lv2 := [(2, .int (x4)), (0, .ref (ad (0))), (1, .int (p1))]) X dX11_without_21 rfl (by decide) rfl ?_
    refine r_aload_n X dX11_without_22 rfl 1 rfl ?_
    refine r_iconst (v := (1)) X dX11_without_23 (by decide) ?_
    refine r_iload_n X dX11_without_24 rfl 2 rfl ?_
    refine r_ishl X dX11_without_25 ?_
    refine r_cVI (As := [.int (((1)) <<< (p1 &&& 31))]) (rest := []) X (fun r9 m9 hg => k_X11_tryDay hg) h (Lp_N Lpk_0 rfl) Lpk_0 rfl (by decide) uw4_61 uw4_63 us2_8 uw1_1 uw4_64 rfl rfl dd_X11_tryDay ⟨Nat.le_of_ble_eq_true rfl, Nat.le_of_ble_eq_true rfl⟩ rfl (Nat.le_of_ble_eq_true rfl) dX11_without_26 rfl (fun x6 m5 h => ?_)
    refine r_iload_n X dX11_without_29 rfl 0 rfl ?_
    refine r_isub X dX11_without_30 ?_
    exact r_iretX X rfl dX11_without_31 h
  · exact r_throw X hT hnt hex rfl dX11_without_8 dX11_without_11 dX11_without_12 dX11_without_15 (Nat.le_of_ble_eq_true rfl) (Nat.le_of_ble_eq_true rfl) (Nat.le_of_ble_eq_true rfl) (Nat.le_of_ble_eq_true rfl) h
noncomputable def f_J6_bitCount_0f7a4 (p0 : Int32) (mem : Mm) : Option (Int32 × Mm) :=
  bnd (p0 - (((p0.toUInt32 >>> ((1 : Int32).toUInt32 &&& Int32.toUInt32 31)).toInt32) &&& ((1431655765)))) fun x1 => bnd ((x1 &&& ((858993459))) + (((x1.toUInt32 >>> ((2 : Int32).toUInt32 &&& Int32.toUInt32 31)).toInt32) &&& ((858993459)))) fun x2 => bnd ((x2 + ((x2.toUInt32 >>> ((4 : Int32).toUInt32 &&& Int32.toUInt32 31)).toInt32)) &&& ((252645135))) fun x3 => bnd (x3 + ((x3.toUInt32 >>> ((8 : Int32).toUInt32 &&& Int32.toUInt32 31)).toInt32)) fun x4 => bnd (x4 + ((x4.toUInt32 >>> ((16 : Int32).toUInt32 &&& Int32.toUInt32 31)).toInt32)) fun x5 => some (x5 &&& ((63)), mem)
theorem dd_J6_bitCount_0f7a4 : yJ6_bitCount_0f7a4.cls ≠ "java/lang/invoke/MethodHandle" ∧ yJ6_bitCount_0f7a4.cls ≠ "java/lang/invoke/VarHandle" ∧ (parseMethodDescriptor yJ6_bitCount_0f7a4.desc).map (fun d => d.parameters.length) = some 1 := by decide +kernel
set_option maxHeartbeats 4000000 in
set_option maxRecDepth 100000 in
theorem k_J6_bitCount_0f7a4 {l : Launch} {ad : Nat → Nat} {cy : Nat → ClassId} {dC : Nat → ClassId} {dI : Nat → Nat → Nat} {ks : (Nat → Nat) × (Nat → Nat)} {p0 : Int32} {mem : Mm} {r2 : Int32} {mem2 : Mm}  (h : f_J6_bitCount_0f7a4 p0 mem = some (r2, mem2)) : CtI l Lp ad cy dC dI ks yJ6_bitCount_0f7a4 cJ6_bitCount_0f7a4 1 (some .int) ({ frames := 0, cells := 0, slots := 0, locals := 0 }) [.int (p0)] mem r2 mem2 := by
  refine CtI.of (cc := cJ6_bitCount_0f7a4) (maxL := 1) (ret := (some .int)) (own := RJ6) rfl (by decide) (Nat.le_of_ble_eq_true rfl) ?_
  intro p e s m args below meth c A X
  have hts := X.2.2.2.2.1
  unfold f_J6_bitCount_0f7a4 at h
  refine r_iload_n X dJ6_bitCount_0f7a4_0 rfl 0 rfl ?_
  refine r_iload_n X dJ6_bitCount_0f7a4_1 rfl 0 rfl ?_
  refine r_iconst (v := (1)) X dJ6_bitCount_0f7a4_2 (by decide) ?_
  refine r_iushr X dJ6_bitCount_0f7a4_3 ?_
  refine r_ldcw (v := 1431655765) X dJ6_bitCount_0f7a4_4 uw4_205 ?_
  refine r_iand X dJ6_bitCount_0f7a4_7 ?_
  refine r_isub X dJ6_bitCount_0f7a4_8 ?_
  refine r_nmI h (fun x1 h => ?_)
  refine r_istore_n (lv2 := [(0, .int (x1))]) X dJ6_bitCount_0f7a4_9 rfl (by decide) rfl ?_
  refine r_iload_n X dJ6_bitCount_0f7a4_10 rfl 0 rfl ?_
  refine r_ldcw (v := 858993459) X dJ6_bitCount_0f7a4_11 uw4_206 ?_
  refine r_iand X dJ6_bitCount_0f7a4_14 ?_
  refine r_iload_n X dJ6_bitCount_0f7a4_15 rfl 0 rfl ?_
  refine r_iconst (v := (2)) X dJ6_bitCount_0f7a4_16 (by decide) ?_
  refine r_iushr X dJ6_bitCount_0f7a4_17 ?_
  refine r_ldcw (v := 858993459) X dJ6_bitCount_0f7a4_18 uw4_206 ?_
  refine r_iand X dJ6_bitCount_0f7a4_21 ?_
  refine r_iadd X dJ6_bitCount_0f7a4_22 ?_
  refine r_nmI h (fun x2 h => ?_)
  refine r_istore_n (lv2 := [(0, .int (x2))]) X dJ6_bitCount_0f7a4_23 rfl (by decide) rfl ?_
  refine r_iload_n X dJ6_bitCount_0f7a4_24 rfl 0 rfl ?_
  refine r_iload_n X dJ6_bitCount_0f7a4_25 rfl 0 rfl ?_
  refine r_iconst (v := (4)) X dJ6_bitCount_0f7a4_26 (by decide) ?_
  refine r_iushr X dJ6_bitCount_0f7a4_27 ?_
  refine r_iadd X dJ6_bitCount_0f7a4_28 ?_
  refine r_ldcw (v := 252645135) X dJ6_bitCount_0f7a4_29 uw4_207 ?_
  refine r_iand X dJ6_bitCount_0f7a4_32 ?_
  refine r_nmI h (fun x3 h => ?_)
  refine r_istore_n (lv2 := [(0, .int (x3))]) X dJ6_bitCount_0f7a4_33 rfl (by decide) rfl ?_
  refine r_iload_n X dJ6_bitCount_0f7a4_34 rfl 0 rfl ?_
  refine r_iload_n X dJ6_bitCount_0f7a4_35 rfl 0 rfl ?_
  refine r_bipush (v := (8)) X dJ6_bitCount_0f7a4_36 (by decide) ?_
  refine r_iushr X dJ6_bitCount_0f7a4_38 ?_
  refine r_iadd X dJ6_bitCount_0f7a4_39 ?_
  refine r_nmI h (fun x4 h => ?_)
  refine r_istore_n (lv2 := [(0, .int (x4))]) X dJ6_bitCount_0f7a4_40 rfl (by decide) rfl ?_
  refine r_iload_n X dJ6_bitCount_0f7a4_41 rfl 0 rfl ?_
  refine r_iload_n X dJ6_bitCount_0f7a4_42 rfl 0 rfl ?_
  refine r_bipush (v := (16)) X dJ6_bitCount_0f7a4_43 (by decide) ?_
  refine r_iushr X dJ6_bitCount_0f7a4_45 ?_
  refine r_iadd X dJ6_bitCount_0f7a4_46 ?_
  refine r_nmI h (fun x5 h => ?_)
  refine r_istore_n (lv2 := [(0, .int (x5))]) X dJ6_bitCount_0f7a4_47 rfl (by decide) rfl ?_
  refine r_iload_n X dJ6_bitCount_0f7a4_48 rfl 0 rfl ?_
  refine r_bipush (v := (63)) X dJ6_bitCount_0f7a4_49 (by decide) ?_
  refine r_iand X dJ6_bitCount_0f7a4_51 ?_
  exact r_iret2 X rfl dJ6_bitCount_0f7a4_52 h
noncomputable def f_X11_rarer_J122 (p1 : Int32) (k58 : Int32 → Int32 → Int32 → Mm → Option (Int32 × Mm)) (x21 : Int32) (x22 : Int32) (x23 : Int32) (m24 : Mm) : Option (Int32 × Mm) :=
  bnd (x23 + (1)) fun x25 => k58 x21 x22 x25 m24
noncomputable def f_X11_rarer_J84 (p1 : Int32) (k58 : Int32 → Int32 → Int32 → Mm → Option (Int32 × Mm)) (x15 : Int32) (x16 : Int32) (x17 : Int32) (m18 : Mm) : Option (Int32 × Mm) :=
  bdV (f_X6_copyFrom 66 64 m18) fun m19 => bdV (f_X1_pass 66 x17 m19) fun m20 => if (gI m20 82 10) < p1 then (f_X11_rarer_J122 p1 k58 x15 x16 x17 m20) else (f_X11_rarer_J122 p1 k58 x15 x17 x17 m20)
noncomputable def f_X11_rarer_B58 (p1 : Int32) (k58 : Int32 → Int32 → Int32 → Mm → Option (Int32 × Mm)) (x7 : Int32) (x8 : Int32) (x9 : Int32) (m10 : Mm) : Option (Int32 × Mm) :=
  if x7 ≤ x9 then (some (x8, m10)) else (if x8 = ((-1)) then (f_X11_rarer_J84 p1 k58 x7 x8 x9 m10) else (bdI (f_J6_bitCount_0f7a4 x9 m10) fun x12 m11 => bdI (f_J6_bitCount_0f7a4 x8 m11) fun x14 m13 => if x12 < x14 then (f_X11_rarer_J84 p1 k58 x7 x8 x9 m13) else (f_X11_rarer_J122 p1 k58 x7 x8 x9 m13)))
noncomputable def f_X11_rarer (p1 : Int32) (mem : Mm) : Option (Int32 × Mm) :=
  if p1 < ((-9999)) then (some ((-1), mem)) else (if p1 ≤ ((9999)) then (grd (decide (Lp.1 (gR mem 0 2) = 7)) (bnd (gR mem 0 2) fun q1 => bdV (f_X1_prepare q1 (gI mem 64 2) mem) fun m2 => grd (decide (Lp.1 (gR m2 0 2) = 7)) (bnd (gR m2 0 2) fun q3 => bnd (if gI m2 q3 7 < (7) then gI m2 q3 7 else (7)) fun x4 => bnd (if (0) < x4 then x4 else (0)) fun x5 => bnd (((1)) <<< (x5 &&& 31)) fun x6 => lop (fun _ _ _ _ => none) (f_X11_rarer_B58 p1 ) 4000 x6 ((-1)) ((0)) m2))) else (some ((-1), mem)))
theorem dd_X11_rarer : yX11_rarer.cls = RX11 ∧ yX11_rarer.cls ≠ "java/lang/invoke/MethodHandle" ∧ yX11_rarer.cls ≠ "java/lang/invoke/VarHandle" ∧ (parseMethodDescriptor yX11_rarer.desc).map (fun d => d.parameters.length) = some 1 := by decide +kernel
set_option maxHeartbeats 4000000 in
set_option maxRecDepth 100000 in
theorem k_X11_rarer {l : Launch} {ad : Nat → Nat} {cy : Nat → ClassId} {dC : Nat → ClassId} {dI : Nat → Nat → Nat} {ks : (Nat → Nat) × (Nat → Nat)} {p1 : Int32} {mem : Mm} {r2 : Int32} {mem2 : Mm}  (h : f_X11_rarer p1 mem = some (r2, mem2)) : CtI l Lp ad cy dC dI ks yX11_rarer cX11_rarer 5 (some .int) ({ frames := 5, cells := 0, slots := 0, locals := 112 }) [.ref (ad (0)), .int (p1)] mem r2 mem2 := by
  refine CtI.of (cc := cX11_rarer) (maxL := 5) (ret := (some .int)) (own := RX11) rfl (by decide) (Nat.le_of_ble_eq_true rfl) ?_
  intro p e s m args below meth c A X
  have hts := X.2.2.2.2.1
  have hl138 := X.2.2.2.2.2.2.1 (.fieldLinkNest "StationPiano" 138 "StationPiano$State" "minutes" "I" "StationPiano") (List.mem_of_getElem? (i := 57) rfl)
  have hl173 := X.2.2.2.2.2.2.1 (.fieldLinkNest "StationPiano" 173 "StationPiano$Station" "passerCount" "I" "StationPiano") (List.mem_of_getElem? (i := 40) rfl)
  have hl190 := X.2.2.2.2.2.2.1 (.fieldLinkNest "StationPiano" 190 "StationPiano$DayRun" "joySum" "I" "StationPiano") (List.mem_of_getElem? (i := 75) rfl)
  have hJ122 : ∀ (k58 : Int32 → Int32 → Int32 → Mm → Option (Int32 × Mm)) (hk58 : ∀ (x7 : Int32) (x8 : Int32) (x9 : Int32) (m10 : Mm), k58 x7 x8 x9 m10 = some (r2, mem2) → Jd p l e ({ frames := 5, cells := 0, slots := 0, locals := 112 }) s m args below meth c 5 (MQ below (PsI Lp ad cy dC dI r2 mem2 A) args s 0 0 A) A dC dI cy Lp ad m10 58 [(0, .ref (ad (0))), (1, .int (p1)), (2, .int (x7)), (3, .int (x8)), (4, .int (x9))] []) (x21 : Int32) (x22 : Int32) (x23 : Int32) (m24 : Mm), f_X11_rarer_J122 p1 k58 x21 x22 x23 m24 = some (r2, mem2) → Jd p l e ({ frames := 5, cells := 0, slots := 0, locals := 112 }) s m args below meth c 5 (MQ below (PsI Lp ad cy dC dI r2 mem2 A) args s 0 0 A) A dC dI cy Lp ad m24 122 [(0, .ref (ad (0))), (1, .int (p1)), (2, .int (x21)), (3, .int (x22)), (4, .int (x23))] [] := by
    intro k58 hk58 x21 x22 x23 m24 h
    unfold f_X11_rarer_J122 at h
    refine r_inc h (fun x25 e9 h => ?_)
    refine r_iinc (v := x25) (lv2 := [(4, .int (x25)), (0, .ref (ad (0))), (1, .int (p1)), (2, .int (x21)), (3, .int (x22))]) X dX11_rarer_122 4 rfl (by rw [e9]; rfl) (by decide) rfl ?_
    refine r_goto (tgt := 58) X dX11_rarer_125 (by decide) ?_
    exact r_sub [1, 2, 3, 4, 0] rfl (hk58 x21 x22 x25 m24 h)
  have hJ84 : ∀ (k58 : Int32 → Int32 → Int32 → Mm → Option (Int32 × Mm)) (hk58 : ∀ (x7 : Int32) (x8 : Int32) (x9 : Int32) (m10 : Mm), k58 x7 x8 x9 m10 = some (r2, mem2) → Jd p l e ({ frames := 5, cells := 0, slots := 0, locals := 112 }) s m args below meth c 5 (MQ below (PsI Lp ad cy dC dI r2 mem2 A) args s 0 0 A) A dC dI cy Lp ad m10 58 [(0, .ref (ad (0))), (1, .int (p1)), (2, .int (x7)), (3, .int (x8)), (4, .int (x9))] []) (x15 : Int32) (x16 : Int32) (x17 : Int32) (m18 : Mm), f_X11_rarer_J84 p1 k58 x15 x16 x17 m18 = some (r2, mem2) → Jd p l e ({ frames := 5, cells := 0, slots := 0, locals := 112 }) s m args below meth c 5 (MQ below (PsI Lp ad cy dC dI r2 mem2 A) args s 0 0 A) A dC dI cy Lp ad m18 84 [(0, .ref (ad (0))), (1, .int (p1)), (2, .int (x15)), (3, .int (x16)), (4, .int (x17))] [] := by
    intro k58 hk58 x15 x16 x17 m18 h
    unfold f_X11_rarer_J84 at h
    refine r_aload_n X dX11_rarer_84 rfl 0 rfl ?_
    refine r_getF X (k := 5) (of := 66) rfl (Lp_N Lpk_0 rfl) Lpk_0 rfl (by decide) ui_11 (by decide) uw2_188 rfl dX11_rarer_85 ?_
    refine r_aload_n X dX11_rarer_88 rfl 0 rfl ?_
    refine r_getF X (k := 4) (of := 64) rfl (Lp_N Lpk_0 rfl) Lpk_0 rfl (by decide) ui_11 (by decide) uw2_187 rfl dX11_rarer_89 ?_
    refine r_cVV (As := [.ref (ad (64))]) (rest := []) X (fun m9 hg => k_X6_copyFrom Lpk_66 Lpk_64 hg) h (Lp_N Lpk_66 rfl) Lpk_66 rfl (by decide) uw4_65 uw4_66 uw4_67 uw1_7 uw4_68 rfl rfl dd_X6_copyFrom ⟨Nat.le_of_ble_eq_true rfl, Nat.le_of_ble_eq_true rfl⟩ rfl (Nat.le_of_ble_eq_true rfl) dX11_rarer_92 rfl (fun m19 h => ?_)
    refine r_aload_n X dX11_rarer_95 rfl 0 rfl ?_
    refine r_getF X (k := 10) (of := 82) rfl (Lp_N Lpk_0 rfl) Lpk_0 rfl (by decide) ui_11 (by decide) uw2_193 rfl dX11_rarer_96 ?_
    refine r_aload_n X dX11_rarer_99 rfl 0 rfl ?_
    refine r_getF X (k := 5) (of := 66) rfl (Lp_N Lpk_0 rfl) Lpk_0 rfl (by decide) ui_11 (by decide) uw2_188 rfl dX11_rarer_100 ?_
    refine r_iload X dX11_rarer_103 4 rfl ?_
    refine r_cVV (As := [.ref (ad (66)), .int (x17)]) (rest := []) X (fun m9 hg => k_X1_pass Lpk_66 hg) h (Lp_N Lpk_82 rfl) Lpk_82 rfl (by decide) uw4_96 uw4_97 uw4_98 uw1_11 uw4_99 rfl rfl dd_X1_pass ⟨Nat.le_of_ble_eq_true rfl, Nat.le_of_ble_eq_true rfl⟩ rfl (Nat.le_of_ble_eq_true rfl) dX11_rarer_105 rfl (fun m20 h => ?_)
    refine r_aload_n X dX11_rarer_108 rfl 0 rfl ?_
    refine r_getF X (k := 10) (of := 82) rfl (Lp_N Lpk_0 rfl) Lpk_0 rfl (by decide) ui_11 (by decide) uw2_193 rfl dX11_rarer_109 ?_
    refine r_getIN X (k := 10) (Lp_N Lpk_82 rfl) Lpk_82 rfl (by decide) ui_1 (by decide) hl190 rfl dX11_rarer_112 ?_
    refine r_iload_n X dX11_rarer_115 rfl 1 rfl ?_
    refine r_icmp_lt (tgt := 122) X dX11_rarer_116 (by decide) h (fun h => ?_) (fun h => ?_)
    · exact r_sub [0, 1, 2, 3, 4] rfl (hJ122 k58 hk58 x15 x16 x17 m20 h)
    · refine r_iload X dX11_rarer_119 4 rfl ?_
      refine r_istore_n (lv2 := [(3, .int (x17)), (0, .ref (ad (0))), (1, .int (p1)), (2, .int (x15)), (4, .int (x17))]) X dX11_rarer_121 rfl (by decide) rfl ?_
      exact r_sub [1, 2, 3, 0, 4] rfl (hJ122 k58 hk58 x15 x17 x17 m20 h)
  have hJ58 : ∀ (k58 : Int32 → Int32 → Int32 → Mm → Option (Int32 × Mm)) (hk58 : ∀ (x7 : Int32) (x8 : Int32) (x9 : Int32) (m10 : Mm), k58 x7 x8 x9 m10 = some (r2, mem2) → Jd p l e ({ frames := 5, cells := 0, slots := 0, locals := 112 }) s m args below meth c 5 (MQ below (PsI Lp ad cy dC dI r2 mem2 A) args s 0 0 A) A dC dI cy Lp ad m10 58 [(0, .ref (ad (0))), (1, .int (p1)), (2, .int (x7)), (3, .int (x8)), (4, .int (x9))] []) (x7 : Int32) (x8 : Int32) (x9 : Int32) (m10 : Mm), f_X11_rarer_B58 p1 k58 x7 x8 x9 m10 = some (r2, mem2) → Jd p l e ({ frames := 5, cells := 0, slots := 0, locals := 112 }) s m args below meth c 5 (MQ below (PsI Lp ad cy dC dI r2 mem2 A) args s 0 0 A) A dC dI cy Lp ad m10 58 [(0, .ref (ad (0))), (1, .int (p1)), (2, .int (x7)), (3, .int (x8)), (4, .int (x9))] [] := by
    intro k58 hk58 x7 x8 x9 m10 h
    unfold f_X11_rarer_B58 at h
    refine r_iload X dX11_rarer_58 4 rfl ?_
    refine r_iload_n X dX11_rarer_60 rfl 2 rfl ?_
    refine r_icmp_ge (tgt := 128) X dX11_rarer_61 (by decide) h (fun h => ?_) (fun h => ?_)
    · refine r_iload_n X dX11_rarer_128 rfl 3 rfl ?_
      exact r_iret2 X rfl dX11_rarer_129 h
    · refine r_iload_n X dX11_rarer_64 rfl 3 rfl ?_
      refine r_iconst (v := (-1)) X dX11_rarer_65 (by decide) ?_
      refine r_icmp_eq (tgt := 84) X dX11_rarer_66 (by decide) h (fun h => ?_) (fun h => ?_)
      · exact r_sub [0, 1, 2, 3, 4] rfl (hJ84 k58 hk58 x7 x8 x9 m10 h)
      · refine r_iload X dX11_rarer_69 4 rfl ?_
        refine r_cSI (As := [.int (x9)]) (rest := []) X (fun r9 m9 hg => k_J6_bitCount_0f7a4 hg) h uw4_202 uw4_203 uw1_24 uw4_204 rfl rfl dd_J6_bitCount_0f7a4 ⟨Nat.le_of_ble_eq_true rfl, Nat.le_of_ble_eq_true rfl⟩ rfl (Nat.le_of_ble_eq_true rfl) dX11_rarer_71 rfl (fun x12 m11 h => ?_)
        refine r_iload_n X dX11_rarer_74 rfl 3 rfl ?_
        refine r_cSI (As := [.int (x8)]) (rest := [.int (x12)]) X (fun r9 m9 hg => k_J6_bitCount_0f7a4 hg) h uw4_202 uw4_203 uw1_24 uw4_204 rfl rfl dd_J6_bitCount_0f7a4 ⟨Nat.le_of_ble_eq_true rfl, Nat.le_of_ble_eq_true rfl⟩ rfl (Nat.le_of_ble_eq_true rfl) dX11_rarer_75 rfl (fun x14 m13 h => ?_)
        refine r_icmp_lt (tgt := 84) X dX11_rarer_78 (by decide) h (fun h => ?_) (fun h => ?_)
        · exact r_sub [0, 1, 2, 3, 4] rfl (hJ84 k58 hk58 x7 x8 x9 m13 h)
        · refine r_goto (tgt := 122) X dX11_rarer_81 (by decide) ?_
          exact r_sub [0, 1, 2, 3, 4] rfl (hJ122 k58 hk58 x7 x8 x9 m13 h)
  have hL58 : ∀ (n : Nat), ∀ (x7 : Int32) (x8 : Int32) (x9 : Int32) (m10 : Mm), lop (fun _ _ _ _ => none) (f_X11_rarer_B58 p1 ) n x7 x8 x9 m10 = some (r2, mem2) → Jd p l e ({ frames := 5, cells := 0, slots := 0, locals := 112 }) s m args below meth c 5 (MQ below (PsI Lp ad cy dC dI r2 mem2 A) args s 0 0 A) A dC dI cy Lp ad m10 58 [(0, .ref (ad (0))), (1, .int (p1)), (2, .int (x7)), (3, .int (x8)), (4, .int (x9))] [] := by
    intro  n
    induction n with
    | zero => intro _ _ _ _ h; cases h
    | succ n ih => intro a0 a1 a2 a3 h; exact hJ58  _ ih a0 a1 a2 a3 h
  unfold f_X11_rarer at h
  refine r_iload_n X dX11_rarer_0 rfl 1 rfl ?_
  refine r_sipush (v := (-9999)) X dX11_rarer_1 (by decide) ?_
  refine r_icmp_lt (tgt := 14) X dX11_rarer_4 (by decide) h (fun h => ?_) (fun h => ?_)
  · refine r_iconst (v := (-1)) X dX11_rarer_14 (by decide) ?_
    exact r_iret2 X rfl dX11_rarer_15 h
  · refine r_iload_n X dX11_rarer_7 rfl 1 rfl ?_
    refine r_sipush (v := (9999)) X dX11_rarer_8 (by decide) ?_
    refine r_icmp_le (tgt := 16) X dX11_rarer_11 (by decide) h (fun h => ?_) (fun h => ?_)
    · refine r_aload_n X dX11_rarer_16 rfl 0 rfl ?_
      refine r_getF X (k := 10) (of := 82) rfl (Lp_N Lpk_0 rfl) Lpk_0 rfl (by decide) ui_11 (by decide) uw2_193 rfl dX11_rarer_17 ?_
      refine r_aload_n X dX11_rarer_20 rfl 0 rfl ?_
      refine r_getR X 7 (k := 2) (Lp_N Lpk_0 rfl) Lpk_0 rfl (by decide) ui_11 (by decide) uw2_185 rfl h dX11_rarer_21 (fun q1 eq1 h => ?_)
      refine r_aload_n X dX11_rarer_24 rfl 0 rfl ?_
      refine r_getF X (k := 4) (of := 64) rfl (Lp_N Lpk_0 rfl) Lpk_0 rfl (by decide) ui_11 (by decide) uw2_187 rfl dX11_rarer_25 ?_
      refine r_getIN X (k := 2) (Lp_N Lpk_64 rfl) Lpk_64 rfl (by decide) ui_6 (by decide) hl138 rfl dX11_rarer_28 ?_
      refine r_cVV (As := [.ref (ad (q1)), .int (gI mem 64 2)]) (rest := []) X (fun m9 hg => k_X1_prepare eq1 hg) h (Lp_N Lpk_82 rfl) Lpk_82 rfl (by decide) uw4_69 uw4_70 uw4_71 uw1_11 uw4_72 rfl rfl dd_X1_prepare ⟨Nat.le_of_ble_eq_true rfl, Nat.le_of_ble_eq_true rfl⟩ rfl (Nat.le_of_ble_eq_true rfl) dX11_rarer_31 rfl (fun m2 h => ?_)
      refine r_iconst (v := (1)) X dX11_rarer_34 (by decide) ?_
      refine r_iconst (v := (0)) X dX11_rarer_35 (by decide) ?_
      refine r_bipush (v := (7)) X dX11_rarer_36 (by decide) ?_
      refine r_aload_n X dX11_rarer_38 rfl 0 rfl ?_
      refine r_getR X 7 (k := 2) (Lp_N Lpk_0 rfl) Lpk_0 rfl (by decide) ui_11 (by decide) uw2_185 rfl h dX11_rarer_39 (fun q3 eq3 h => ?_)
      refine r_getIN X (k := 7) (Lp_N eq3 rfl) eq3 rfl (by decide) ui_7 (by decide) hl173 rfl dX11_rarer_42 ?_
      refine r_mmin X uw4_165 uw3_104 uw1_18 uw3_105 (Nat.le_of_ble_eq_true rfl) (Nat.le_of_ble_eq_true rfl) dX11_rarer_45 ?_
      refine r_nmI h (fun x4 h => ?_)
      refine r_mmax X uw4_201 uw3_101 uw1_18 uw3_102 (Nat.le_of_ble_eq_true rfl) (Nat.le_of_ble_eq_true rfl) dX11_rarer_48 ?_
      refine r_nmI h (fun x5 h => ?_)
      refine r_ishl X dX11_rarer_51 ?_
      refine r_nmI h (fun x6 h => ?_)
      refine r_istore_n (lv2 := [(2, .int (x6)), (0, .ref (ad (0))), (1, .int (p1))]) X dX11_rarer_52 rfl (by decide) rfl ?_
      refine r_iconst (v := (-1)) X dX11_rarer_53 (by decide) ?_
      refine r_istore_n (lv2 := [(3, .int ((-1))), (2, .int (x6)), (0, .ref (ad (0))), (1, .int (p1))]) X dX11_rarer_54 rfl (by decide) rfl ?_
      refine r_iconst (v := (0)) X dX11_rarer_55 (by decide) ?_
      refine r_istore (lv2 := [(4, .int ((0))), (3, .int ((-1))), (2, .int (x6)), (0, .ref (ad (0))), (1, .int (p1))]) X dX11_rarer_56 (by decide) rfl ?_
      exact r_sub [3, 4, 2, 1, 0] rfl (hL58 4000 x6 ((-1)) ((0)) m2 h)
    · refine r_iconst (v := (-1)) X dX11_rarer_14 (by decide) ?_
      exact r_iret2 X rfl dX11_rarer_15 h
noncomputable def f_X11_dare_J55 (p1 : Int32) (k16 : Int32 → Int32 → Mm → Option (Int32 × Mm)) (x10 : Int32) (x11 : Int32) (m12 : Mm) : Option (Int32 × Mm) :=
  bnd (x11 + (1)) fun x13 => k16 x10 x13 m12
noncomputable def f_X11_dare_B16 (p1 : Int32) (k16 : Int32 → Int32 → Mm → Option (Int32 × Mm)) (x1 : Int32) (x2 : Int32) (m3 : Mm) : Option (Int32 × Mm) :=
  grd (decide (Lp.1 (gR m3 0 2) = 7)) (bnd (gR m3 0 2) fun q4 => if (gI m3 q4 7) ≤ x2 then (some (x1, m3)) else (if ((7)) ≤ x2 then (some (x1, m3)) else (grd (decide (Lp.1 (gR m3 0 2) = 7)) (bnd (gR m3 0 2) fun q5 => grd (inb x2 (Lp.2.1 (q5 + 9))) (bnd (q5 + 9 + (7 + 2 * x2.toNatClampNeg)) fun q6 => bdI (f_X4_daresBefore q6 p1 m3) fun x8 m7 => if x8 = 0 then (f_X11_dare_J55 p1 k16 x1 x2 m7) else (bnd (x1 ||| (((1)) <<< (x2 &&& 31))) fun x9 => f_X11_dare_J55 p1 k16 x9 x2 m7))))))
noncomputable def f_X11_dare (p1 : Int32) (mem : Mm) : Option (Int32 × Mm) :=
  if p1 < 0 then (some ((-1), mem)) else (if p1 ≤ ((9)) then (lop (fun _ _ _ => none) (f_X11_dare_B16 p1 ) 4000 ((0)) ((0)) mem) else (some ((-1), mem)))
theorem dd_X11_dare : yX11_dare.cls = RX11 ∧ yX11_dare.cls ≠ "java/lang/invoke/MethodHandle" ∧ yX11_dare.cls ≠ "java/lang/invoke/VarHandle" ∧ (parseMethodDescriptor yX11_dare.desc).map (fun d => d.parameters.length) = some 1 := by decide +kernel
set_option maxHeartbeats 4000000 in
set_option maxRecDepth 100000 in
theorem k_X11_dare {l : Launch} {ad : Nat → Nat} {cy : Nat → ClassId} {dC : Nat → ClassId} {dI : Nat → Nat → Nat} {ks : (Nat → Nat) × (Nat → Nat)} {p1 : Int32} {mem : Mm} {r2 : Int32} {mem2 : Mm}  (h : f_X11_dare p1 mem = some (r2, mem2)) : CtI l Lp ad cy dC dI ks yX11_dare cX11_dare 4 (some .int) ({ frames := 1, cells := 0, slots := 0, locals := 21 }) [.ref (ad (0)), .int (p1)] mem r2 mem2 := by
  refine CtI.of (cc := cX11_dare) (maxL := 4) (ret := (some .int)) (own := RX11) rfl (by decide) (Nat.le_of_ble_eq_true rfl) ?_
  intro p e s m args below meth c A X
  have hts := X.2.2.2.2.1
  have hl120 := X.2.2.2.2.2.2.1 (.fieldLinkNest "StationPiano" 120 "StationPiano$Station" "passers" "[LStationPiano$Passer;" "StationPiano") (List.mem_of_getElem? (i := 32) rfl)
  have hl173 := X.2.2.2.2.2.2.1 (.fieldLinkNest "StationPiano" 173 "StationPiano$Station" "passerCount" "I" "StationPiano") (List.mem_of_getElem? (i := 40) rfl)
  have hJ55 : ∀ (k16 : Int32 → Int32 → Mm → Option (Int32 × Mm)) (hk16 : ∀ (x1 : Int32) (x2 : Int32) (m3 : Mm), k16 x1 x2 m3 = some (r2, mem2) → Jd p l e ({ frames := 1, cells := 0, slots := 0, locals := 21 }) s m args below meth c 4 (MQ below (PsI Lp ad cy dC dI r2 mem2 A) args s 0 0 A) A dC dI cy Lp ad m3 16 [(0, .ref (ad (0))), (1, .int (p1)), (2, .int (x1)), (3, .int (x2))] []) (x10 : Int32) (x11 : Int32) (m12 : Mm), f_X11_dare_J55 p1 k16 x10 x11 m12 = some (r2, mem2) → Jd p l e ({ frames := 1, cells := 0, slots := 0, locals := 21 }) s m args below meth c 4 (MQ below (PsI Lp ad cy dC dI r2 mem2 A) args s 0 0 A) A dC dI cy Lp ad m12 55 [(0, .ref (ad (0))), (1, .int (p1)), (2, .int (x10)), (3, .int (x11))] [] := by
    intro k16 hk16 x10 x11 m12 h
    unfold f_X11_dare_J55 at h
    refine r_inc h (fun x13 e9 h => ?_)
    refine r_iinc (v := x13) (lv2 := [(3, .int (x13)), (0, .ref (ad (0))), (1, .int (p1)), (2, .int (x10))]) X dX11_dare_55 3 rfl (by rw [e9]; rfl) (by decide) rfl ?_
    refine r_goto (tgt := 16) X dX11_dare_58 (by decide) ?_
    exact r_sub [1, 2, 3, 0] rfl (hk16 x10 x13 m12 h)
  have hJ16 : ∀ (k16 : Int32 → Int32 → Mm → Option (Int32 × Mm)) (hk16 : ∀ (x1 : Int32) (x2 : Int32) (m3 : Mm), k16 x1 x2 m3 = some (r2, mem2) → Jd p l e ({ frames := 1, cells := 0, slots := 0, locals := 21 }) s m args below meth c 4 (MQ below (PsI Lp ad cy dC dI r2 mem2 A) args s 0 0 A) A dC dI cy Lp ad m3 16 [(0, .ref (ad (0))), (1, .int (p1)), (2, .int (x1)), (3, .int (x2))] []) (x1 : Int32) (x2 : Int32) (m3 : Mm), f_X11_dare_B16 p1 k16 x1 x2 m3 = some (r2, mem2) → Jd p l e ({ frames := 1, cells := 0, slots := 0, locals := 21 }) s m args below meth c 4 (MQ below (PsI Lp ad cy dC dI r2 mem2 A) args s 0 0 A) A dC dI cy Lp ad m3 16 [(0, .ref (ad (0))), (1, .int (p1)), (2, .int (x1)), (3, .int (x2))] [] := by
    intro k16 hk16 x1 x2 m3 h
    unfold f_X11_dare_B16 at h
    refine r_iload_n X dX11_dare_16 rfl 3 rfl ?_
    refine r_aload_n X dX11_dare_17 rfl 0 rfl ?_
    refine r_getR X 7 (k := 2) (Lp_N Lpk_0 rfl) Lpk_0 rfl (by decide) ui_11 (by decide) uw2_185 rfl h dX11_dare_18 (fun q4 eq4 h => ?_)
    refine r_getIN X (k := 7) (Lp_N eq4 rfl) eq4 rfl (by decide) ui_7 (by decide) hl173 rfl dX11_dare_21 ?_
    refine r_icmp_ge (tgt := 61) X dX11_dare_24 (by decide) h (fun h => ?_) (fun h => ?_)
    · refine r_iload_n X dX11_dare_61 rfl 2 rfl ?_
      exact r_iret2 X rfl dX11_dare_62 h
    · refine r_iload_n X dX11_dare_27 rfl 3 rfl ?_
      refine r_bipush (v := (7)) X dX11_dare_28 (by decide) ?_
      refine r_icmp_ge (tgt := 61) X dX11_dare_30 (by decide) h (fun h => ?_) (fun h => ?_)
      · refine r_iload_n X dX11_dare_61 rfl 2 rfl ?_
        exact r_iret2 X rfl dX11_dare_62 h
      · refine r_aload_n X dX11_dare_33 rfl 0 rfl ?_
        refine r_getR X 7 (k := 2) (Lp_N Lpk_0 rfl) Lpk_0 rfl (by decide) ui_11 (by decide) uw2_185 rfl h dX11_dare_34 (fun q5 eq5 h => ?_)
        refine r_getFN X (k := 3) (of := 9) rfl (Lp_N eq5 rfl) eq5 rfl (by decide) ui_7 (by decide) hl120 rfl dX11_dare_37 ?_
        refine r_iload_n X dX11_dare_40 rfl 3 rfl ?_
        refine r_ald18 X (Lp_N (Lp_7_3 eq5) rfl) (Lp_7_3 eq5) (Lp_e18 (Lp_7_3 eq5)) rfl h dX11_dare_41 (fun q6 eq6 h => ?_)
        refine r_iload_n X dX11_dare_42 rfl 1 rfl ?_
        refine r_cVI (As := [.int (p1)]) (rest := []) X (fun r9 m9 hg => k_X4_daresBefore eq6 hg) h (Lp_N eq6 rfl) eq6 rfl (by decide) uw4_212 uw4_117 uw4_118 uw1_6 uw4_119 rfl rfl dd_X4_daresBefore ⟨Nat.le_of_ble_eq_true rfl, Nat.le_of_ble_eq_true rfl⟩ rfl (Nat.le_of_ble_eq_true rfl) dX11_dare_43 rfl (fun x8 m7 h => ?_)
        refine r_if_eq (tgt := 55) X dX11_dare_46 (by decide) h (fun h => ?_) (fun h => ?_)
        · exact r_sub [0, 1, 2, 3] rfl (hJ55 k16 hk16 x1 x2 m7 h)
        · refine r_iload_n X dX11_dare_49 rfl 2 rfl ?_
          refine r_iconst (v := (1)) X dX11_dare_50 (by decide) ?_
          refine r_iload_n X dX11_dare_51 rfl 3 rfl ?_
          refine r_ishl X dX11_dare_52 ?_
          refine r_ior X dX11_dare_53 ?_
          refine r_nmI h (fun x9 h => ?_)
          refine r_istore_n (lv2 := [(2, .int (x9)), (0, .ref (ad (0))), (1, .int (p1)), (3, .int (x2))]) X dX11_dare_54 rfl (by decide) rfl ?_
          exact r_sub [1, 2, 0, 3] rfl (hJ55 k16 hk16 x9 x2 m7 h)
  have hL16 : ∀ (n : Nat), ∀ (x1 : Int32) (x2 : Int32) (m3 : Mm), lop (fun _ _ _ => none) (f_X11_dare_B16 p1 ) n x1 x2 m3 = some (r2, mem2) → Jd p l e ({ frames := 1, cells := 0, slots := 0, locals := 21 }) s m args below meth c 4 (MQ below (PsI Lp ad cy dC dI r2 mem2 A) args s 0 0 A) A dC dI cy Lp ad m3 16 [(0, .ref (ad (0))), (1, .int (p1)), (2, .int (x1)), (3, .int (x2))] [] := by
    intro  n
    induction n with
    | zero => intro _ _ _ h; cases h
    | succ n ih => intro a0 a1 a2 h; exact hJ16  _ ih a0 a1 a2 h
  unfold f_X11_dare at h
  refine r_iload_n X dX11_dare_0 rfl 1 rfl ?_
  refine r_if_lt (tgt := 10) X dX11_dare_1 (by decide) h (fun h => ?_) (fun h => ?_)
  · refine r_iconst (v := (-1)) X dX11_dare_10 (by decide) ?_
    exact r_iret2 X rfl dX11_dare_11 h
  · refine r_iload_n X dX11_dare_4 rfl 1 rfl ?_
    refine r_bipush (v := (9)) X dX11_dare_5 (by decide) ?_
    refine r_icmp_le (tgt := 12) X dX11_dare_7 (by decide) h (fun h => ?_) (fun h => ?_)
    · refine r_iconst (v := (0)) X dX11_dare_12 (by decide) ?_
      refine r_istore_n (lv2 := [(2, .int ((0))), (0, .ref (ad (0))), (1, .int (p1))]) X dX11_dare_13 rfl (by decide) rfl ?_
      refine r_iconst (v := (0)) X dX11_dare_14 (by decide) ?_
      refine r_istore_n (lv2 := [(3, .int ((0))), (2, .int ((0))), (0, .ref (ad (0))), (1, .int (p1))]) X dX11_dare_15 rfl (by decide) rfl ?_
      exact r_sub [2, 3, 1, 0] rfl (hL16 4000 ((0)) ((0)) mem h)
    · refine r_iconst (v := (-1)) X dX11_dare_10 (by decide) ?_
      exact r_iret2 X rfl dX11_dare_11 h
noncomputable def f_X11_strikes (p1 : Int32) (p2 : Int32) (mem : Mm) : Option (Int32 × Mm) :=
  bdI (f_X11_isPasser p1 mem) fun x2 m1 => if x2 = 0 then (some ((-1), m1)) else (bdI (f_X11_isKey p2 m1) fun x4 m3 => if ¬ x4 = 0 then (grd (decide (Lp.1 (gR m3 0 2) = 7)) (bnd (gR m3 0 2) fun q5 => grd (inb p1 (Lp.2.1 (q5 + 9))) (bnd (q5 + 9 + (7 + 2 * p1.toNatClampNeg)) fun q6 => bdI (f_X4_strikesOn q6 p2 m3) fun x8 m7 => some (x8, m7)))) else (some ((-1), m3)))
theorem dd_X11_strikes : yX11_strikes.cls = RX11 ∧ yX11_strikes.cls ≠ "java/lang/invoke/MethodHandle" ∧ yX11_strikes.cls ≠ "java/lang/invoke/VarHandle" ∧ (parseMethodDescriptor yX11_strikes.desc).map (fun d => d.parameters.length) = some 2 := by decide +kernel
set_option maxHeartbeats 4000000 in
set_option maxRecDepth 100000 in
theorem k_X11_strikes {l : Launch} {ad : Nat → Nat} {cy : Nat → ClassId} {dC : Nat → ClassId} {dI : Nat → Nat → Nat} {ks : (Nat → Nat) × (Nat → Nat)} {p1 : Int32} {p2 : Int32} {mem : Mm} {r2 : Int32} {mem2 : Mm}  (h : f_X11_strikes p1 p2 mem = some (r2, mem2)) : CtI l Lp ad cy dC dI ks yX11_strikes cX11_strikes 3 (some .int) ({ frames := 1, cells := 0, slots := 0, locals := 23 }) [.ref (ad (0)), .int (p1), .int (p2)] mem r2 mem2 := by
  refine CtI.of (cc := cX11_strikes) (maxL := 3) (ret := (some .int)) (own := RX11) rfl (by decide) (Nat.le_of_ble_eq_true rfl) ?_
  intro p e s m args below meth c A X
  have hts := X.2.2.2.2.1
  have hl120 := X.2.2.2.2.2.2.1 (.fieldLinkNest "StationPiano" 120 "StationPiano$Station" "passers" "[LStationPiano$Passer;" "StationPiano") (List.mem_of_getElem? (i := 32) rfl)
  unfold f_X11_strikes at h
  refine r_aload_n X dX11_strikes_0 rfl 0 rfl ?_
  refine r_iload_n X dX11_strikes_1 rfl 1 rfl ?_
  refine r_cVI (As := [.int (p1)]) (rest := []) X (fun r9 m9 hg => k_X11_isPasser hg) h (Lp_N Lpk_0 rfl) Lpk_0 rfl (by decide) uw4_38 uw4_40 us2_7 uw1_1 uw4_41 rfl rfl dd_X11_isPasser ⟨Nat.le_of_ble_eq_true rfl, Nat.le_of_ble_eq_true rfl⟩ rfl (Nat.le_of_ble_eq_true rfl) dX11_strikes_2 rfl (fun x2 m1 h => ?_)
  refine r_if_eq (tgt := 15) X dX11_strikes_5 (by decide) h (fun h => ?_) (fun h => ?_)
  · refine r_iconst (v := (-1)) X dX11_strikes_15 (by decide) ?_
    exact r_iret2 X rfl dX11_strikes_16 h
  · refine r_iload_n X dX11_strikes_8 rfl 2 rfl ?_
    refine r_cSI (As := [.int (p2)]) (rest := []) X (fun r9 m9 hg => k_X11_isKey hg) h uw4_54 uw4_55 uw1_1 uw4_56 rfl rfl dd_X11_isKey ⟨Nat.le_of_ble_eq_true rfl, Nat.le_of_ble_eq_true rfl⟩ rfl (Nat.le_of_ble_eq_true rfl) dX11_strikes_9 rfl (fun x4 m3 h => ?_)
    refine r_if_ne (tgt := 17) X dX11_strikes_12 (by decide) h (fun h => ?_) (fun h => ?_)
    · refine r_aload_n X dX11_strikes_17 rfl 0 rfl ?_
      refine r_getR X 7 (k := 2) (Lp_N Lpk_0 rfl) Lpk_0 rfl (by decide) ui_11 (by decide) uw2_185 rfl h dX11_strikes_18 (fun q5 eq5 h => ?_)
      refine r_getFN X (k := 3) (of := 9) rfl (Lp_N eq5 rfl) eq5 rfl (by decide) ui_7 (by decide) hl120 rfl dX11_strikes_21 ?_
      refine r_iload_n X dX11_strikes_24 rfl 1 rfl ?_
      refine r_ald18 X (Lp_N (Lp_7_3 eq5) rfl) (Lp_7_3 eq5) (Lp_e18 (Lp_7_3 eq5)) rfl h dX11_strikes_25 (fun q6 eq6 h => ?_)
      refine r_iload_n X dX11_strikes_26 rfl 2 rfl ?_
      refine r_cVI (As := [.int (p2)]) (rest := []) X (fun r9 m9 hg => k_X4_strikesOn eq6 hg) h (Lp_N eq6 rfl) eq6 rfl (by decide) uw4_217 uw4_218 uw4_219 uw1_6 uw4_220 rfl rfl dd_X4_strikesOn ⟨Nat.le_of_ble_eq_true rfl, Nat.le_of_ble_eq_true rfl⟩ rfl (Nat.le_of_ble_eq_true rfl) dX11_strikes_27 rfl (fun x8 m7 h => ?_)
      exact r_iret2 X rfl dX11_strikes_30 h
    · refine r_iconst (v := (-1)) X dX11_strikes_15 (by decide) ?_
      exact r_iret2 X rfl dX11_strikes_16 h
noncomputable def f_X11_find (p1 : Int32) (p2 : Int32) (mem : Mm) : Option (Int32 × Mm) :=
  bdI (f_X11_isKey p1 mem) fun x2 m1 => if x2 = 0 then (grd (bok ((0))) (some ((0), m1))) else (if p2 < 0 then (grd (bok ((0))) (some ((0), m1))) else (if ((9)) < p2 then (grd (bok ((0))) (some ((0), m1))) else (bdI (f_X0_add 76 p1 p2 m1) fun x4 m3 => if x4 = 0 then (grd (bok ((0))) (some ((0), m3))) else (grd (bok ((1))) (some ((1), m3))))))
theorem dd_X11_find : yX11_find.cls = RX11 ∧ yX11_find.cls ≠ "java/lang/invoke/MethodHandle" ∧ yX11_find.cls ≠ "java/lang/invoke/VarHandle" ∧ (parseMethodDescriptor yX11_find.desc).map (fun d => d.parameters.length) = some 2 := by decide +kernel
set_option maxHeartbeats 4000000 in
set_option maxRecDepth 100000 in
theorem k_X11_find {l : Launch} {ad : Nat → Nat} {cy : Nat → ClassId} {dC : Nat → ClassId} {dI : Nat → Nat → Nat} {ks : (Nat → Nat) × (Nat → Nat)} {p1 : Int32} {p2 : Int32} {mem : Mm} {r2 : Int32} {mem2 : Mm}  (h : f_X11_find p1 p2 mem = some (r2, mem2)) : CtI l Lp ad cy dC dI ks yX11_find cX11_find 3 (some .boolean) ({ frames := 1, cells := 0, slots := 0, locals := 22 }) [.ref (ad (0)), .int (p1), .int (p2)] mem r2 mem2 := by
  refine CtI.of (cc := cX11_find) (maxL := 3) (ret := (some .boolean)) (own := RX11) rfl (by decide) (Nat.le_of_ble_eq_true rfl) ?_
  intro p e s m args below meth c A X
  have hts := X.2.2.2.2.1
  unfold f_X11_find at h
  refine r_iload_n X dX11_find_0 rfl 1 rfl ?_
  refine r_cSI (As := [.int (p1)]) (rest := []) X (fun r9 m9 hg => k_X11_isKey hg) h uw4_54 uw4_55 uw1_1 uw4_56 rfl rfl dd_X11_isKey ⟨Nat.le_of_ble_eq_true rfl, Nat.le_of_ble_eq_true rfl⟩ rfl (Nat.le_of_ble_eq_true rfl) dX11_find_1 rfl (fun x2 m1 h => ?_)
  refine r_if_eq (tgt := 33) X dX11_find_4 (by decide) h (fun h => ?_) (fun h => ?_)
  · refine r_iconst (v := (0)) X dX11_find_33 (by decide) ?_
    exact r_zret2 X rfl dX11_find_34 h
  · refine r_iload_n X dX11_find_7 rfl 2 rfl ?_
    refine r_if_lt (tgt := 33) X dX11_find_8 (by decide) h (fun h => ?_) (fun h => ?_)
    · refine r_iconst (v := (0)) X dX11_find_33 (by decide) ?_
      exact r_zret2 X rfl dX11_find_34 h
    · refine r_iload_n X dX11_find_11 rfl 2 rfl ?_
      refine r_bipush (v := (9)) X dX11_find_12 (by decide) ?_
      refine r_icmp_gt (tgt := 33) X dX11_find_14 (by decide) h (fun h => ?_) (fun h => ?_)
      · refine r_iconst (v := (0)) X dX11_find_33 (by decide) ?_
        exact r_zret2 X rfl dX11_find_34 h
      · refine r_aload_n X dX11_find_17 rfl 0 rfl ?_
        refine r_getF X (k := 8) (of := 76) rfl (Lp_N Lpk_0 rfl) Lpk_0 rfl (by decide) ui_11 (by decide) uw2_191 rfl dX11_find_18 ?_
        refine r_iload_n X dX11_find_21 rfl 1 rfl ?_
        refine r_iload_n X dX11_find_22 rfl 2 rfl ?_
        refine r_cVI (As := [.int (p1), .int (p2)]) (rest := []) X (fun r9 m9 hg => k_X0_add Lpk_76 hg) h (Lp_N Lpk_76 rfl) Lpk_76 rfl (by decide) uw4_225 uw4_226 uw4_227 uw1_9 uw4_228 rfl rfl dd_X0_add ⟨Nat.le_of_ble_eq_true rfl, Nat.le_of_ble_eq_true rfl⟩ rfl (Nat.le_of_ble_eq_true rfl) dX11_find_23 rfl (fun x4 m3 h => ?_)
        refine r_if_eq (tgt := 33) X dX11_find_26 (by decide) h (fun h => ?_) (fun h => ?_)
        · refine r_iconst (v := (0)) X dX11_find_33 (by decide) ?_
          exact r_zret2 X rfl dX11_find_34 h
        · refine r_iconst (v := (1)) X dX11_find_29 (by decide) ?_
          refine r_goto (tgt := 34) X dX11_find_30 (by decide) ?_
          exact r_zret2 X rfl dX11_find_34 h
noncomputable def f_X11_sets (p1 : Int32) (mem : Mm) : Option (Int32 × Mm) :=
  if p1 < 0 then (some ((-1), mem)) else (if p1 ≤ ((2)) then (grd (decide (Lp.1 (gR mem 0 2) = 7)) (bnd (gR mem 0 2) fun q1 => bdV (f_X1_prepare q1 (gI mem 64 2) mem) fun m2 => grd (decide (Lp.1 (gR m2 0 2) = 7)) (bnd (gR m2 0 2) fun q3 => bdV (f_X8_search q3 76 m2) fun m4 => if ¬ p1 = 0 then (if ¬ (gI m4 79 2) = 0 then (if ¬ p1 = ((1)) then (some (gI m4 79 4, m4)) else (some (gI m4 79 3, m4))) else (some ((-1), m4))) else (some (gI m4 79 2, m4))))) else (some ((-1), mem)))
theorem dd_X11_sets : yX11_sets.cls = RX11 ∧ yX11_sets.cls ≠ "java/lang/invoke/MethodHandle" ∧ yX11_sets.cls ≠ "java/lang/invoke/VarHandle" ∧ (parseMethodDescriptor yX11_sets.desc).map (fun d => d.parameters.length) = some 1 := by decide +kernel
set_option maxHeartbeats 4000000 in
set_option maxRecDepth 100000 in
theorem k_X11_sets {l : Launch} {ad : Nat → Nat} {cy : Nat → ClassId} {dC : Nat → ClassId} {dI : Nat → Nat → Nat} {ks : (Nat → Nat) × (Nat → Nat)} {p1 : Int32} {mem : Mm} {r2 : Int32} {mem2 : Mm}  (h : f_X11_sets p1 mem = some (r2, mem2)) : CtI l Lp ad cy dC dI ks yX11_sets cX11_sets 2 (some .int) ({ frames := 4, cells := 0, slots := 0, locals := 93 }) [.ref (ad (0)), .int (p1)] mem r2 mem2 := by
  refine CtI.of (cc := cX11_sets) (maxL := 2) (ret := (some .int)) (own := RX11) rfl (by decide) (Nat.le_of_ble_eq_true rfl) ?_
  intro p e s m args below meth c A X
  have hts := X.2.2.2.2.1
  have hl138 := X.2.2.2.2.2.2.1 (.fieldLinkNest "StationPiano" 138 "StationPiano$State" "minutes" "I" "StationPiano") (List.mem_of_getElem? (i := 57) rfl)
  have hl258 := X.2.2.2.2.2.2.1 (.fieldLinkNest "StationPiano" 258 "StationPiano$Suspects" "setCount" "I" "StationPiano") (List.mem_of_getElem? (i := 69) rfl)
  have hl261 := X.2.2.2.2.2.2.1 (.fieldLinkNest "StationPiano" 261 "StationPiano$Suspects" "inAll" "I" "StationPiano") (List.mem_of_getElem? (i := 70) rfl)
  have hl264 := X.2.2.2.2.2.2.1 (.fieldLinkNest "StationPiano" 264 "StationPiano$Suspects" "inSome" "I" "StationPiano") (List.mem_of_getElem? (i := 71) rfl)
  unfold f_X11_sets at h
  refine r_iload_n X dX11_sets_0 rfl 1 rfl ?_
  refine r_if_lt (tgt := 9) X dX11_sets_1 (by decide) h (fun h => ?_) (fun h => ?_)
  · refine r_iconst (v := (-1)) X dX11_sets_9 (by decide) ?_
    exact r_iret2 X rfl dX11_sets_10 h
  · refine r_iload_n X dX11_sets_4 rfl 1 rfl ?_
    refine r_iconst (v := (2)) X dX11_sets_5 (by decide) ?_
    refine r_icmp_le (tgt := 11) X dX11_sets_6 (by decide) h (fun h => ?_) (fun h => ?_)
    · refine r_aload_n X dX11_sets_11 rfl 0 rfl ?_
      refine r_getF X (k := 10) (of := 82) rfl (Lp_N Lpk_0 rfl) Lpk_0 rfl (by decide) ui_11 (by decide) uw2_193 rfl dX11_sets_12 ?_
      refine r_aload_n X dX11_sets_15 rfl 0 rfl ?_
      refine r_getR X 7 (k := 2) (Lp_N Lpk_0 rfl) Lpk_0 rfl (by decide) ui_11 (by decide) uw2_185 rfl h dX11_sets_16 (fun q1 eq1 h => ?_)
      refine r_aload_n X dX11_sets_19 rfl 0 rfl ?_
      refine r_getF X (k := 4) (of := 64) rfl (Lp_N Lpk_0 rfl) Lpk_0 rfl (by decide) ui_11 (by decide) uw2_187 rfl dX11_sets_20 ?_
      refine r_getIN X (k := 2) (Lp_N Lpk_64 rfl) Lpk_64 rfl (by decide) ui_6 (by decide) hl138 rfl dX11_sets_23 ?_
      refine r_cVV (As := [.ref (ad (q1)), .int (gI mem 64 2)]) (rest := []) X (fun m9 hg => k_X1_prepare eq1 hg) h (Lp_N Lpk_82 rfl) Lpk_82 rfl (by decide) uw4_69 uw4_70 uw4_71 uw1_11 uw4_72 rfl rfl dd_X1_prepare ⟨Nat.le_of_ble_eq_true rfl, Nat.le_of_ble_eq_true rfl⟩ rfl (Nat.le_of_ble_eq_true rfl) dX11_sets_26 rfl (fun m2 h => ?_)
      refine r_aload_n X dX11_sets_29 rfl 0 rfl ?_
      refine r_getF X (k := 9) (of := 79) rfl (Lp_N Lpk_0 rfl) Lpk_0 rfl (by decide) ui_11 (by decide) uw2_192 rfl dX11_sets_30 ?_
      refine r_aload_n X dX11_sets_33 rfl 0 rfl ?_
      refine r_getR X 7 (k := 2) (Lp_N Lpk_0 rfl) Lpk_0 rfl (by decide) ui_11 (by decide) uw2_185 rfl h dX11_sets_34 (fun q3 eq3 h => ?_)
      refine r_aload_n X dX11_sets_37 rfl 0 rfl ?_
      refine r_getF X (k := 10) (of := 82) rfl (Lp_N Lpk_0 rfl) Lpk_0 rfl (by decide) ui_11 (by decide) uw2_193 rfl dX11_sets_38 ?_
      refine r_aload_n X dX11_sets_41 rfl 0 rfl ?_
      refine r_getF X (k := 8) (of := 76) rfl (Lp_N Lpk_0 rfl) Lpk_0 rfl (by decide) ui_11 (by decide) uw2_191 rfl dX11_sets_42 ?_
      refine r_cVV (As := [.ref (ad (q3)), .ref (ad (82)), .ref (ad (76))]) (rest := []) X (fun m9 hg => k_X8_search eq3 Lpk_76 hg) h (Lp_N Lpk_79 rfl) Lpk_79 rfl (by decide) uw4_233 uw4_234 uw4_235 uw1_10 uw4_236 rfl rfl dd_X8_search ⟨Nat.le_of_ble_eq_true rfl, Nat.le_of_ble_eq_true rfl⟩ rfl (Nat.le_of_ble_eq_true rfl) dX11_sets_45 rfl (fun m4 h => ?_)
      refine r_iload_n X dX11_sets_48 rfl 1 rfl ?_
      refine r_if_ne (tgt := 60) X dX11_sets_49 (by decide) h (fun h => ?_) (fun h => ?_)
      · refine r_aload_n X dX11_sets_60 rfl 0 rfl ?_
        refine r_getF X (k := 9) (of := 79) rfl (Lp_N Lpk_0 rfl) Lpk_0 rfl (by decide) ui_11 (by decide) uw2_192 rfl dX11_sets_61 ?_
        refine r_getIN X (k := 2) (Lp_N Lpk_79 rfl) Lpk_79 rfl (by decide) ui_8 (by decide) hl258 rfl dX11_sets_64 ?_
        refine r_if_ne (tgt := 72) X dX11_sets_67 (by decide) h (fun h => ?_) (fun h => ?_)
        · refine r_iload_n X dX11_sets_72 rfl 1 rfl ?_
          refine r_iconst (v := (1)) X dX11_sets_73 (by decide) ?_
          refine r_icmp_ne (tgt := 87) X dX11_sets_74 (by decide) h (fun h => ?_) (fun h => ?_)
          · refine r_aload_n X dX11_sets_87 rfl 0 rfl ?_
            refine r_getF X (k := 9) (of := 79) rfl (Lp_N Lpk_0 rfl) Lpk_0 rfl (by decide) ui_11 (by decide) uw2_192 rfl dX11_sets_88 ?_
            refine r_getIN X (k := 4) (Lp_N Lpk_79 rfl) Lpk_79 rfl (by decide) ui_8 (by decide) hl264 rfl dX11_sets_91 ?_
            exact r_iret2 X rfl dX11_sets_94 h
          · refine r_aload_n X dX11_sets_77 rfl 0 rfl ?_
            refine r_getF X (k := 9) (of := 79) rfl (Lp_N Lpk_0 rfl) Lpk_0 rfl (by decide) ui_11 (by decide) uw2_192 rfl dX11_sets_78 ?_
            refine r_getIN X (k := 3) (Lp_N Lpk_79 rfl) Lpk_79 rfl (by decide) ui_8 (by decide) hl261 rfl dX11_sets_81 ?_
            refine r_goto (tgt := 94) X dX11_sets_84 (by decide) ?_
            exact r_iret2 X rfl dX11_sets_94 h
        · refine r_iconst (v := (-1)) X dX11_sets_70 (by decide) ?_
          exact r_iret2 X rfl dX11_sets_71 h
      · refine r_aload_n X dX11_sets_52 rfl 0 rfl ?_
        refine r_getF X (k := 9) (of := 79) rfl (Lp_N Lpk_0 rfl) Lpk_0 rfl (by decide) ui_11 (by decide) uw2_192 rfl dX11_sets_53 ?_
        refine r_getIN X (k := 2) (Lp_N Lpk_79 rfl) Lpk_79 rfl (by decide) ui_8 (by decide) hl258 rfl dX11_sets_56 ?_
        exact r_iret2 X rfl dX11_sets_59 h
    · refine r_iconst (v := (-1)) X dX11_sets_9 (by decide) ?_
      exact r_iret2 X rfl dX11_sets_10 h
noncomputable def f_X11_look_J89 (k49 : Int32 → Int32 → Int32 → Mm → Option (Int32 × Mm)) (x16 : Int32) (x17 : Int32) (x18 : Int32) (m19 : Mm) : Option (Int32 × Mm) :=
  bnd (x18 + (1)) fun x20 => k49 x16 x17 x20 m19
noncomputable def f_X11_look_B49 (k49 : Int32 → Int32 → Int32 → Mm → Option (Int32 × Mm)) (x6 : Int32) (x7 : Int32) (x8 : Int32) (m9 : Mm) : Option (Int32 × Mm) :=
  if ((12)) ≤ x8 then (some (x7, m9)) else (bdI (f_X0_has 76 x8 m9) fun x11 m10 => if ¬ x11 = 0 then (f_X11_look_J89 k49 x6 x7 x8 m10) else (bdI (f_X8_mostAlike x8 m10) fun x13 m12 => if x6 ≤ x13 then (f_X11_look_J89 k49 x6 x7 x8 m12) else (bdI (f_X8_mostAlike x8 m12) fun x15 m14 => f_X11_look_J89 k49 x15 x8 x8 m14)))
noncomputable def f_X11_look  (mem : Mm) : Option (Int32 × Mm) :=
  grd (decide (Lp.1 (gR mem 0 2) = 7)) (bnd (gR mem 0 2) fun q1 => bdV (f_X1_prepare q1 (gI mem 64 2) mem) fun m2 => grd (decide (Lp.1 (gR m2 0 2) = 7)) (bnd (gR m2 0 2) fun q3 => bdV (f_X8_search q3 76 m2) fun m4 => bnd (gI m4 79 2) fun x5 => lop (fun _ _ _ _ => none) (f_X11_look_B49 ) 4000 x5 ((-1)) ((0)) m4))
theorem dd_X11_look : yX11_look.cls = RX11 ∧ yX11_look.cls ≠ "java/lang/invoke/MethodHandle" ∧ yX11_look.cls ≠ "java/lang/invoke/VarHandle" ∧ (parseMethodDescriptor yX11_look.desc).map (fun d => d.parameters.length) = some 0 := by decide +kernel
set_option maxHeartbeats 4000000 in
set_option maxRecDepth 100000 in
theorem k_X11_look {l : Launch} {ad : Nat → Nat} {cy : Nat → ClassId} {dC : Nat → ClassId} {dI : Nat → Nat → Nat} {ks : (Nat → Nat) × (Nat → Nat)}  {mem : Mm} {r2 : Int32} {mem2 : Mm}  (h : f_X11_look  mem = some (r2, mem2)) : CtI l Lp ad cy dC dI ks yX11_look cX11_look 4 (some .int) ({ frames := 4, cells := 0, slots := 0, locals := 93 }) [.ref (ad (0))] mem r2 mem2 := by
  refine CtI.of (cc := cX11_look) (maxL := 4) (ret := (some .int)) (own := RX11) rfl (by decide) (Nat.le_of_ble_eq_true rfl) ?_
  intro p e s m args below meth c A X
  have hts := X.2.2.2.2.1
  have hl138 := X.2.2.2.2.2.2.1 (.fieldLinkNest "StationPiano" 138 "StationPiano$State" "minutes" "I" "StationPiano") (List.mem_of_getElem? (i := 57) rfl)
  have hl258 := X.2.2.2.2.2.2.1 (.fieldLinkNest "StationPiano" 258 "StationPiano$Suspects" "setCount" "I" "StationPiano") (List.mem_of_getElem? (i := 69) rfl)
  have hJ89 : ∀ (k49 : Int32 → Int32 → Int32 → Mm → Option (Int32 × Mm)) (hk49 : ∀ (x6 : Int32) (x7 : Int32) (x8 : Int32) (m9 : Mm), k49 x6 x7 x8 m9 = some (r2, mem2) → Jd p l e ({ frames := 4, cells := 0, slots := 0, locals := 93 }) s m args below meth c 4 (MQ below (PsI Lp ad cy dC dI r2 mem2 A) args s 0 0 A) A dC dI cy Lp ad m9 49 [(0, .ref (ad (0))), (1, .int (x6)), (2, .int (x7)), (3, .int (x8))] []) (x16 : Int32) (x17 : Int32) (x18 : Int32) (m19 : Mm), f_X11_look_J89 k49 x16 x17 x18 m19 = some (r2, mem2) → Jd p l e ({ frames := 4, cells := 0, slots := 0, locals := 93 }) s m args below meth c 4 (MQ below (PsI Lp ad cy dC dI r2 mem2 A) args s 0 0 A) A dC dI cy Lp ad m19 89 [(0, .ref (ad (0))), (1, .int (x16)), (2, .int (x17)), (3, .int (x18))] [] := by
    intro k49 hk49 x16 x17 x18 m19 h
    unfold f_X11_look_J89 at h
    refine r_inc h (fun x20 e9 h => ?_)
    refine r_iinc (v := x20) (lv2 := [(3, .int (x20)), (0, .ref (ad (0))), (1, .int (x16)), (2, .int (x17))]) X dX11_look_89 3 rfl (by rw [e9]; rfl) (by decide) rfl ?_
    refine r_goto (tgt := 49) X dX11_look_92 (by decide) ?_
    exact r_sub [1, 2, 3, 0] rfl (hk49 x16 x17 x20 m19 h)
  have hJ49 : ∀ (k49 : Int32 → Int32 → Int32 → Mm → Option (Int32 × Mm)) (hk49 : ∀ (x6 : Int32) (x7 : Int32) (x8 : Int32) (m9 : Mm), k49 x6 x7 x8 m9 = some (r2, mem2) → Jd p l e ({ frames := 4, cells := 0, slots := 0, locals := 93 }) s m args below meth c 4 (MQ below (PsI Lp ad cy dC dI r2 mem2 A) args s 0 0 A) A dC dI cy Lp ad m9 49 [(0, .ref (ad (0))), (1, .int (x6)), (2, .int (x7)), (3, .int (x8))] []) (x6 : Int32) (x7 : Int32) (x8 : Int32) (m9 : Mm), f_X11_look_B49 k49 x6 x7 x8 m9 = some (r2, mem2) → Jd p l e ({ frames := 4, cells := 0, slots := 0, locals := 93 }) s m args below meth c 4 (MQ below (PsI Lp ad cy dC dI r2 mem2 A) args s 0 0 A) A dC dI cy Lp ad m9 49 [(0, .ref (ad (0))), (1, .int (x6)), (2, .int (x7)), (3, .int (x8))] [] := by
    intro k49 hk49 x6 x7 x8 m9 h
    unfold f_X11_look_B49 at h
    refine r_iload_n X dX11_look_49 rfl 3 rfl ?_
    refine r_bipush (v := (12)) X dX11_look_50 (by decide) ?_
    refine r_icmp_ge (tgt := 95) X dX11_look_52 (by decide) h (fun h => ?_) (fun h => ?_)
    · refine r_iload_n X dX11_look_95 rfl 2 rfl ?_
      exact r_iret2 X rfl dX11_look_96 h
    · refine r_aload_n X dX11_look_55 rfl 0 rfl ?_
      refine r_getF X (k := 8) (of := 76) rfl (Lp_N Lpk_0 rfl) Lpk_0 rfl (by decide) ui_11 (by decide) uw2_191 rfl dX11_look_56 ?_
      refine r_iload_n X dX11_look_59 rfl 3 rfl ?_
      refine r_cVI (As := [.int (x8)]) (rest := []) X (fun r9 m9 hg => k_X0_has Lpk_76 hg) h (Lp_N Lpk_76 rfl) Lpk_76 rfl (by decide) uw5_16 uw5_17 uw5_18 uw1_9 uw5_19 rfl rfl dd_X0_has ⟨Nat.le_of_ble_eq_true rfl, Nat.le_of_ble_eq_true rfl⟩ rfl (Nat.le_of_ble_eq_true rfl) dX11_look_60 rfl (fun x11 m10 h => ?_)
      refine r_if_ne (tgt := 89) X dX11_look_63 (by decide) h (fun h => ?_) (fun h => ?_)
      · exact r_sub [0, 1, 2, 3] rfl (hJ89 k49 hk49 x6 x7 x8 m10 h)
      · refine r_aload_n X dX11_look_66 rfl 0 rfl ?_
        refine r_getF X (k := 9) (of := 79) rfl (Lp_N Lpk_0 rfl) Lpk_0 rfl (by decide) ui_11 (by decide) uw2_192 rfl dX11_look_67 ?_
        refine r_iload_n X dX11_look_70 rfl 3 rfl ?_
        refine r_cVI (As := [.int (x8)]) (rest := []) X (fun r9 m9 hg => k_X8_mostAlike hg) h (Lp_N Lpk_79 rfl) Lpk_79 rfl (by decide) uw5_20 uw5_21 uw5_22 uw1_10 uw5_23 rfl rfl dd_X8_mostAlike ⟨Nat.le_of_ble_eq_true rfl, Nat.le_of_ble_eq_true rfl⟩ rfl (Nat.le_of_ble_eq_true rfl) dX11_look_71 rfl (fun x13 m12 h => ?_)
        refine r_iload_n X dX11_look_74 rfl 1 rfl ?_
        refine r_icmp_ge (tgt := 89) X dX11_look_75 (by decide) h (fun h => ?_) (fun h => ?_)
        · exact r_sub [0, 1, 2, 3] rfl (hJ89 k49 hk49 x6 x7 x8 m12 h)
        · refine r_aload_n X dX11_look_78 rfl 0 rfl ?_
          refine r_getF X (k := 9) (of := 79) rfl (Lp_N Lpk_0 rfl) Lpk_0 rfl (by decide) ui_11 (by decide) uw2_192 rfl dX11_look_79 ?_
          refine r_iload_n X dX11_look_82 rfl 3 rfl ?_
          refine r_cVI (As := [.int (x8)]) (rest := []) X (fun r9 m9 hg => k_X8_mostAlike hg) h (Lp_N Lpk_79 rfl) Lpk_79 rfl (by decide) uw5_20 uw5_21 uw5_22 uw1_10 uw5_23 rfl rfl dd_X8_mostAlike ⟨Nat.le_of_ble_eq_true rfl, Nat.le_of_ble_eq_true rfl⟩ rfl (Nat.le_of_ble_eq_true rfl) dX11_look_83 rfl (fun x15 m14 h => ?_)
          refine r_istore_n (lv2 := [(1, .int (x15)), (0, .ref (ad (0))), (2, .int (x7)), (3, .int (x8))]) X dX11_look_86 rfl (by decide) rfl ?_
          refine r_iload_n X dX11_look_87 rfl 3 rfl ?_
          refine r_istore_n (lv2 := [(2, .int (x8)), (1, .int (x15)), (0, .ref (ad (0))), (3, .int (x8))]) X dX11_look_88 rfl (by decide) rfl ?_
          exact r_sub [2, 1, 0, 3] rfl (hJ89 k49 hk49 x15 x8 x8 m14 h)
  have hL49 : ∀ (n : Nat), ∀ (x6 : Int32) (x7 : Int32) (x8 : Int32) (m9 : Mm), lop (fun _ _ _ _ => none) (f_X11_look_B49 ) n x6 x7 x8 m9 = some (r2, mem2) → Jd p l e ({ frames := 4, cells := 0, slots := 0, locals := 93 }) s m args below meth c 4 (MQ below (PsI Lp ad cy dC dI r2 mem2 A) args s 0 0 A) A dC dI cy Lp ad m9 49 [(0, .ref (ad (0))), (1, .int (x6)), (2, .int (x7)), (3, .int (x8))] [] := by
    intro  n
    induction n with
    | zero => intro _ _ _ _ h; cases h
    | succ n ih => intro a0 a1 a2 a3 h; exact hJ49  _ ih a0 a1 a2 a3 h
  unfold f_X11_look at h
  refine r_aload_n X dX11_look_0 rfl 0 rfl ?_
  refine r_getF X (k := 10) (of := 82) rfl (Lp_N Lpk_0 rfl) Lpk_0 rfl (by decide) ui_11 (by decide) uw2_193 rfl dX11_look_1 ?_
  refine r_aload_n X dX11_look_4 rfl 0 rfl ?_
  refine r_getR X 7 (k := 2) (Lp_N Lpk_0 rfl) Lpk_0 rfl (by decide) ui_11 (by decide) uw2_185 rfl h dX11_look_5 (fun q1 eq1 h => ?_)
  refine r_aload_n X dX11_look_8 rfl 0 rfl ?_
  refine r_getF X (k := 4) (of := 64) rfl (Lp_N Lpk_0 rfl) Lpk_0 rfl (by decide) ui_11 (by decide) uw2_187 rfl dX11_look_9 ?_
  refine r_getIN X (k := 2) (Lp_N Lpk_64 rfl) Lpk_64 rfl (by decide) ui_6 (by decide) hl138 rfl dX11_look_12 ?_
  refine r_cVV (As := [.ref (ad (q1)), .int (gI mem 64 2)]) (rest := []) X (fun m9 hg => k_X1_prepare eq1 hg) h (Lp_N Lpk_82 rfl) Lpk_82 rfl (by decide) uw4_69 uw4_70 uw4_71 uw1_11 uw4_72 rfl rfl dd_X1_prepare ⟨Nat.le_of_ble_eq_true rfl, Nat.le_of_ble_eq_true rfl⟩ rfl (Nat.le_of_ble_eq_true rfl) dX11_look_15 rfl (fun m2 h => ?_)
  refine r_aload_n X dX11_look_18 rfl 0 rfl ?_
  refine r_getF X (k := 9) (of := 79) rfl (Lp_N Lpk_0 rfl) Lpk_0 rfl (by decide) ui_11 (by decide) uw2_192 rfl dX11_look_19 ?_
  refine r_aload_n X dX11_look_22 rfl 0 rfl ?_
  refine r_getR X 7 (k := 2) (Lp_N Lpk_0 rfl) Lpk_0 rfl (by decide) ui_11 (by decide) uw2_185 rfl h dX11_look_23 (fun q3 eq3 h => ?_)
  refine r_aload_n X dX11_look_26 rfl 0 rfl ?_
  refine r_getF X (k := 10) (of := 82) rfl (Lp_N Lpk_0 rfl) Lpk_0 rfl (by decide) ui_11 (by decide) uw2_193 rfl dX11_look_27 ?_
  refine r_aload_n X dX11_look_30 rfl 0 rfl ?_
  refine r_getF X (k := 8) (of := 76) rfl (Lp_N Lpk_0 rfl) Lpk_0 rfl (by decide) ui_11 (by decide) uw2_191 rfl dX11_look_31 ?_
  refine r_cVV (As := [.ref (ad (q3)), .ref (ad (82)), .ref (ad (76))]) (rest := []) X (fun m9 hg => k_X8_search eq3 Lpk_76 hg) h (Lp_N Lpk_79 rfl) Lpk_79 rfl (by decide) uw4_233 uw4_234 uw4_235 uw1_10 uw4_236 rfl rfl dd_X8_search ⟨Nat.le_of_ble_eq_true rfl, Nat.le_of_ble_eq_true rfl⟩ rfl (Nat.le_of_ble_eq_true rfl) dX11_look_34 rfl (fun m4 h => ?_)
  refine r_aload_n X dX11_look_37 rfl 0 rfl ?_
  refine r_getF X (k := 9) (of := 79) rfl (Lp_N Lpk_0 rfl) Lpk_0 rfl (by decide) ui_11 (by decide) uw2_192 rfl dX11_look_38 ?_
  refine r_getIN X (k := 2) (Lp_N Lpk_79 rfl) Lpk_79 rfl (by decide) ui_8 (by decide) hl258 rfl dX11_look_41 ?_
  refine r_nmI h (fun x5 h => ?_)
  refine r_istore_n (lv2 := [(1, .int (x5)), (0, .ref (ad (0)))]) X dX11_look_44 rfl (by decide) rfl ?_
  refine r_iconst (v := (-1)) X dX11_look_45 (by decide) ?_
  refine r_istore_n (lv2 := [(2, .int ((-1))), (1, .int (x5)), (0, .ref (ad (0)))]) X dX11_look_46 rfl (by decide) rfl ?_
  refine r_iconst (v := (0)) X dX11_look_47 (by decide) ?_
  refine r_istore_n (lv2 := [(3, .int ((0))), (2, .int ((-1))), (1, .int (x5)), (0, .ref (ad (0)))]) X dX11_look_48 rfl (by decide) rfl ?_
  exact r_sub [3, 2, 1, 0] rfl (hL49 4000 x5 ((-1)) ((0)) m4 h)
noncomputable def f_X11_share_J52 (p1 : Int32) (x11 : Int32) (m12 : Mm) : Option (Int32 × Mm) :=
  if x11 ≤ 0 then (some ((-1), m12)) else (grd (decide (Lp.1 (gR m12 0 2) = 7)) (bnd (gR m12 0 2) fun q13 => grd (decide (Lp.1 (gR m12 0 2) = 7)) (bnd (gR m12 0 2) fun q14 => grd (inb p1 (Lp.2.1 (q14 + 9))) (bnd (q14 + 9 + (7 + 2 * p1.toNatClampNeg)) fun q15 => grd (decide (¬ x11 = 0)) (some ((((gI m12 q13 12) * ((1000))) * (gI m12 q15 1)) / x11, m12))))))
noncomputable def f_X11_share_B14 (p1 : Int32) (k14 : Int32 → Int32 → Mm → Option (Int32 × Mm)) (x3 : Int32) (x4 : Int32) (m5 : Mm) : Option (Int32 × Mm) :=
  grd (decide (Lp.1 (gR m5 0 2) = 7)) (bnd (gR m5 0 2) fun q6 => if (gI m5 q6 7) ≤ x4 then (f_X11_share_J52 p1 x3 m5) else (if ((7)) ≤ x4 then (f_X11_share_J52 p1 x3 m5) else (grd (decide (Lp.1 (gR m5 0 2) = 7)) (bnd (gR m5 0 2) fun q7 => grd (inb x4 (Lp.2.1 (q7 + 9))) (bnd (q7 + 9 + (7 + 2 * x4.toNatClampNeg)) fun q8 => bnd (x3 + (gI m5 q8 1)) fun x9 => bnd (x4 + (1)) fun x10 => k14 x9 x10 m5)))))
noncomputable def f_X11_share (p1 : Int32) (mem : Mm) : Option (Int32 × Mm) :=
  bdI (f_X11_isPasser p1 mem) fun x2 m1 => if ¬ x2 = 0 then (lop (fun _ _ _ => none) (f_X11_share_B14 p1 ) 4000 ((0)) ((0)) m1) else (some ((-1), m1))
theorem dd_X11_share : yX11_share.cls = RX11 ∧ yX11_share.cls ≠ "java/lang/invoke/MethodHandle" ∧ yX11_share.cls ≠ "java/lang/invoke/VarHandle" ∧ (parseMethodDescriptor yX11_share.desc).map (fun d => d.parameters.length) = some 1 := by decide +kernel
set_option maxHeartbeats 4000000 in
set_option maxRecDepth 100000 in
theorem k_X11_share {l : Launch} {ad : Nat → Nat} {cy : Nat → ClassId} {dC : Nat → ClassId} {dI : Nat → Nat → Nat} {ks : (Nat → Nat) × (Nat → Nat)} {p1 : Int32} {mem : Mm} {r2 : Int32} {mem2 : Mm}  (h : f_X11_share p1 mem = some (r2, mem2)) : CtI l Lp ad cy dC dI ks yX11_share cX11_share 4 (some .int) ({ frames := 1, cells := 0, slots := 0, locals := 21 }) [.ref (ad (0)), .int (p1)] mem r2 mem2 := by
  refine CtI.of (cc := cX11_share) (maxL := 4) (ret := (some .int)) (own := RX11) rfl (by decide) (Nat.le_of_ble_eq_true rfl) ?_
  intro p e s m args below meth c A X
  have hts := X.2.2.2.2.1
  have hl120 := X.2.2.2.2.2.2.1 (.fieldLinkNest "StationPiano" 120 "StationPiano$Station" "passers" "[LStationPiano$Passer;" "StationPiano") (List.mem_of_getElem? (i := 32) rfl)
  have hl173 := X.2.2.2.2.2.2.1 (.fieldLinkNest "StationPiano" 173 "StationPiano$Station" "passerCount" "I" "StationPiano") (List.mem_of_getElem? (i := 40) rfl)
  have hl193 := X.2.2.2.2.2.2.1 (.fieldLinkNest "StationPiano" 193 "StationPiano$Station" "price" "I" "StationPiano") (List.mem_of_getElem? (i := 51) rfl)
  have hl273 := X.2.2.2.2.2.2.1 (.fieldLinkNest "StationPiano" 273 "StationPiano$Passer" "struckCount" "I" "StationPiano") (List.mem_of_getElem? (i := 8) rfl)
  have hJ52 : ∀ (x11 : Int32) (m12 : Mm), f_X11_share_J52 p1 x11 m12 = some (r2, mem2) → Jd p l e ({ frames := 1, cells := 0, slots := 0, locals := 21 }) s m args below meth c 4 (MQ below (PsI Lp ad cy dC dI r2 mem2 A) args s 0 0 A) A dC dI cy Lp ad m12 52 [(0, .ref (ad (0))), (1, .int (p1)), (2, .int (x11))] [] := by
    intro x11 m12 h
    unfold f_X11_share_J52 at h
    refine r_iload_n X dX11_share_52 rfl 2 rfl ?_
    refine r_if_le (tgt := 85) X dX11_share_53 (by decide) h (fun h => ?_) (fun h => ?_)
    · refine r_iconst (v := (-1)) X dX11_share_85 (by decide) ?_
      exact r_iret2 X rfl dX11_share_86 h
    · refine r_aload_n X dX11_share_56 rfl 0 rfl ?_
      refine r_getR X 7 (k := 2) (Lp_N Lpk_0 rfl) Lpk_0 rfl (by decide) ui_11 (by decide) uw2_185 rfl h dX11_share_57 (fun q13 eq13 h => ?_)
      refine r_getIN X (k := 12) (Lp_N eq13 rfl) eq13 rfl (by decide) ui_7 (by decide) hl193 rfl dX11_share_60 ?_
      refine r_sipush (v := (1000)) X dX11_share_63 (by decide) ?_
      refine r_imul X dX11_share_66 ?_
      refine r_aload_n X dX11_share_67 rfl 0 rfl ?_
      refine r_getR X 7 (k := 2) (Lp_N Lpk_0 rfl) Lpk_0 rfl (by decide) ui_11 (by decide) uw2_185 rfl h dX11_share_68 (fun q14 eq14 h => ?_)
      refine r_getFN X (k := 3) (of := 9) rfl (Lp_N eq14 rfl) eq14 rfl (by decide) ui_7 (by decide) hl120 rfl dX11_share_71 ?_
      refine r_iload_n X dX11_share_74 rfl 1 rfl ?_
      refine r_ald18 X (Lp_N (Lp_7_3 eq14) rfl) (Lp_7_3 eq14) (Lp_e18 (Lp_7_3 eq14)) rfl h dX11_share_75 (fun q15 eq15 h => ?_)
      refine r_getIN X (k := 1) (Lp_N eq15 rfl) eq15 rfl (by decide) ui_4 (by decide) hl273 rfl dX11_share_76 ?_
      refine r_imul X dX11_share_79 ?_
      refine r_iload_n X dX11_share_80 rfl 2 rfl ?_
      refine r_div h (fun hz h => ?_)
      refine r_idiv X dX11_share_81 hz ?_
      refine r_goto (tgt := 86) X dX11_share_82 (by decide) ?_
      exact r_iret2 X rfl dX11_share_86 h
  have hJ14 : ∀ (k14 : Int32 → Int32 → Mm → Option (Int32 × Mm)) (hk14 : ∀ (x3 : Int32) (x4 : Int32) (m5 : Mm), k14 x3 x4 m5 = some (r2, mem2) → Jd p l e ({ frames := 1, cells := 0, slots := 0, locals := 21 }) s m args below meth c 4 (MQ below (PsI Lp ad cy dC dI r2 mem2 A) args s 0 0 A) A dC dI cy Lp ad m5 14 [(0, .ref (ad (0))), (1, .int (p1)), (2, .int (x3)), (3, .int (x4))] []) (x3 : Int32) (x4 : Int32) (m5 : Mm), f_X11_share_B14 p1 k14 x3 x4 m5 = some (r2, mem2) → Jd p l e ({ frames := 1, cells := 0, slots := 0, locals := 21 }) s m args below meth c 4 (MQ below (PsI Lp ad cy dC dI r2 mem2 A) args s 0 0 A) A dC dI cy Lp ad m5 14 [(0, .ref (ad (0))), (1, .int (p1)), (2, .int (x3)), (3, .int (x4))] [] := by
    intro k14 hk14 x3 x4 m5 h
    unfold f_X11_share_B14 at h
    refine r_iload_n X dX11_share_14 rfl 3 rfl ?_
    refine r_aload_n X dX11_share_15 rfl 0 rfl ?_
    refine r_getR X 7 (k := 2) (Lp_N Lpk_0 rfl) Lpk_0 rfl (by decide) ui_11 (by decide) uw2_185 rfl h dX11_share_16 (fun q6 eq6 h => ?_)
    refine r_getIN X (k := 7) (Lp_N eq6 rfl) eq6 rfl (by decide) ui_7 (by decide) hl173 rfl dX11_share_19 ?_
    refine r_icmp_ge (tgt := 52) X dX11_share_22 (by decide) h (fun h => ?_) (fun h => ?_)
    · exact r_sub [0, 1, 2] rfl (hJ52 x3 m5 h)
    · refine r_iload_n X dX11_share_25 rfl 3 rfl ?_
      refine r_bipush (v := (7)) X dX11_share_26 (by decide) ?_
      refine r_icmp_ge (tgt := 52) X dX11_share_28 (by decide) h (fun h => ?_) (fun h => ?_)
      · exact r_sub [0, 1, 2] rfl (hJ52 x3 m5 h)
      · refine r_iload_n X dX11_share_31 rfl 2 rfl ?_
        refine r_aload_n X dX11_share_32 rfl 0 rfl ?_
        refine r_getR X 7 (k := 2) (Lp_N Lpk_0 rfl) Lpk_0 rfl (by decide) ui_11 (by decide) uw2_185 rfl h dX11_share_33 (fun q7 eq7 h => ?_)
        refine r_getFN X (k := 3) (of := 9) rfl (Lp_N eq7 rfl) eq7 rfl (by decide) ui_7 (by decide) hl120 rfl dX11_share_36 ?_
        refine r_iload_n X dX11_share_39 rfl 3 rfl ?_
        refine r_ald18 X (Lp_N (Lp_7_3 eq7) rfl) (Lp_7_3 eq7) (Lp_e18 (Lp_7_3 eq7)) rfl h dX11_share_40 (fun q8 eq8 h => ?_)
        refine r_getIN X (k := 1) (Lp_N eq8 rfl) eq8 rfl (by decide) ui_4 (by decide) hl273 rfl dX11_share_41 ?_
        refine r_iadd X dX11_share_44 ?_
        refine r_nmI h (fun x9 h => ?_)
        refine r_istore_n (lv2 := [(2, .int (x9)), (0, .ref (ad (0))), (1, .int (p1)), (3, .int (x4))]) X dX11_share_45 rfl (by decide) rfl ?_
        refine r_inc h (fun x10 e9 h => ?_)
        refine r_iinc (v := x10) (lv2 := [(3, .int (x10)), (2, .int (x9)), (0, .ref (ad (0))), (1, .int (p1))]) X dX11_share_46 3 rfl (by rw [e9]; rfl) (by decide) rfl ?_
        refine r_goto (tgt := 14) X dX11_share_49 (by decide) ?_
        exact r_sub [2, 3, 1, 0] rfl (hk14 x9 x10 m5 h)
  have hL14 : ∀ (n : Nat), ∀ (x3 : Int32) (x4 : Int32) (m5 : Mm), lop (fun _ _ _ => none) (f_X11_share_B14 p1 ) n x3 x4 m5 = some (r2, mem2) → Jd p l e ({ frames := 1, cells := 0, slots := 0, locals := 21 }) s m args below meth c 4 (MQ below (PsI Lp ad cy dC dI r2 mem2 A) args s 0 0 A) A dC dI cy Lp ad m5 14 [(0, .ref (ad (0))), (1, .int (p1)), (2, .int (x3)), (3, .int (x4))] [] := by
    intro  n
    induction n with
    | zero => intro _ _ _ h; cases h
    | succ n ih => intro a0 a1 a2 h; exact hJ14  _ ih a0 a1 a2 h
  unfold f_X11_share at h
  refine r_aload_n X dX11_share_0 rfl 0 rfl ?_
  refine r_iload_n X dX11_share_1 rfl 1 rfl ?_
  refine r_cVI (As := [.int (p1)]) (rest := []) X (fun r9 m9 hg => k_X11_isPasser hg) h (Lp_N Lpk_0 rfl) Lpk_0 rfl (by decide) uw4_38 uw4_40 us2_7 uw1_1 uw4_41 rfl rfl dd_X11_isPasser ⟨Nat.le_of_ble_eq_true rfl, Nat.le_of_ble_eq_true rfl⟩ rfl (Nat.le_of_ble_eq_true rfl) dX11_share_2 rfl (fun x2 m1 h => ?_)
  refine r_if_ne (tgt := 10) X dX11_share_5 (by decide) h (fun h => ?_) (fun h => ?_)
  · refine r_iconst (v := (0)) X dX11_share_10 (by decide) ?_
    refine r_istore_n (lv2 := [(2, .int ((0))), (0, .ref (ad (0))), (1, .int (p1))]) X dX11_share_11 rfl (by decide) rfl ?_
    refine r_iconst (v := (0)) X dX11_share_12 (by decide) ?_
    refine r_istore_n (lv2 := [(3, .int ((0))), (2, .int ((0))), (0, .ref (ad (0))), (1, .int (p1))]) X dX11_share_13 rfl (by decide) rfl ?_
    exact r_sub [2, 3, 1, 0] rfl (hL14 4000 ((0)) ((0)) m1 h)
  · refine r_iconst (v := (-1)) X dX11_share_8 (by decide) ?_
    exact r_iret2 X rfl dX11_share_9 h
