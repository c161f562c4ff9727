noncomputable def f_X1_pass_J139 (h0 : Nat) (h1 : Nat) (p2 : Int32) (k70 : Int32 → Int32 → Mm → Option Mm) (x31 : Int32) (x32 : Int32) (m33 : Mm) : Option Mm :=
  bdV (f_X1_addJoy h0 m33) fun m34 => bnd (x32 + (1)) fun x35 => k70 x31 x35 m34
noncomputable def f_X1_pass_J97 (h0 : Nat) (h1 : Nat) (p2 : Int32) (k70 : Int32 → Int32 → Mm → Option Mm) (x23 : Int32) (x24 : Int32) (x25 : Int32) (m26 : Mm) : Option Mm :=
  bdV (f_X1_standInLine h0 x24 x23 m26) fun m27 => bdV (f_X1_endPlaying h0 x24 x25 m27) fun m28 => bdV (f_X1_leaveLine h0 x24 m28) fun m29 => if ¬ (gI m29 h0 9) = ((-1)) then (f_X1_pass_J139 h0 h1 p2 k70 x23 x24 m29) else (if x25 = 0 then (f_X1_pass_J139 h0 h1 p2 k70 x23 x24 m29) else (bdV (f_X1_beginPlaying h0 x24 (h1 + 1) m29) fun m30 => f_X1_pass_J139 h0 h1 p2 k70 x23 x24 m30))
noncomputable def f_X1_pass_J96 (h0 : Nat) (h1 : Nat) (p2 : Int32) (k70 : Int32 → Int32 → Mm → Option Mm) (x20 : Int32) (x21 : Int32) (m22 : Mm) : Option Mm :=
  f_X1_pass_J97 h0 h1 p2 k70 x20 x21 ((0)) m22
noncomputable def f_X1_pass_B70 (h0 : Nat) (h1 : Nat) (p2 : Int32) (k70 : Int32 → Int32 → Mm → Option Mm) (x16 : Int32) (x17 : Int32) (m18 : Mm) : Option Mm :=
  if ((60)) ≤ x17 then (bdV (f_X1_endPlaying h0 ((60)) ((0)) m18) fun m19 => some m19) else (if x17 < (gI m18 h1 3) then (f_X1_pass_J96 h0 h1 p2 k70 x16 x17 m18) else (if (gI m18 h1 4) ≤ x17 then (f_X1_pass_J96 h0 h1 p2 k70 x16 x17 m18) else (f_X1_pass_J97 h0 h1 p2 k70 x16 x17 ((1)) m18)))
noncomputable def f_X1_pass_B50 (h0 : Nat) (h1 : Nat) (p2 : Int32) (k50 : Int32 → Int32 → Mm → Option Mm) (x11 : Int32) (x12 : Int32) (m13 : Mm) : Option Mm :=
  if ((5)) ≤ x12 then (lop (fun _ _ _ => none) (f_X1_pass_B70 h0 h1 p2 ) 4000 x11 ((0)) m13) else (grd (inb x12 (Lp.2.1 (h0 + 7))) (bnd (sI m13 (h0 + 7) x12.toNatClampNeg ((0))) fun m14 => bnd (x12 + (1)) fun x15 => k50 x11 x15 m14))
noncomputable def f_X1_pass_B22 (h0 : Nat) (h1 : Nat) (p2 : Int32) (k22 : Int32 → Int32 → Mm → Option Mm) (x5 : Int32) (x6 : Int32) (m7 : Mm) : Option Mm :=
  if ((7)) ≤ x6 then (lop (fun _ _ _ => none) (f_X1_pass_B50 h0 h1 p2 ) 4000 x5 ((0)) m7) else (grd (inb x6 (Lp.2.1 (h0 + 1))) (bnd (sI m7 (h0 + 1) x6.toNatClampNeg ((-1))) fun m8 => grd (inb x6 (Lp.2.1 (h0 + 2))) (bnd (sI m8 (h0 + 2) x6.toNatClampNeg ((-1))) fun m9 => bnd (x6 + (1)) fun x10 => k22 x5 x10 m9)))
noncomputable def f_X1_pass (h0 : Nat) (h1 : Nat) (p2 : Int32) (mem : Mm) : Option Mm :=
  bnd (sI mem h0 10 ((0))) fun m1 => bnd (sI m1 h0 11 ((0))) fun m2 => bnd (sI m2 h0 8 ((0))) fun m3 => bnd (sI m3 h0 9 ((-1))) fun m4 => lop (fun _ _ _ => none) (f_X1_pass_B22 h0 h1 p2 ) 4000 p2 ((0)) m4
theorem dd_X1_pass : yX1_pass.cls = RX1 ∧ yX1_pass.cls ≠ "java/lang/invoke/MethodHandle" ∧ yX1_pass.cls ≠ "java/lang/invoke/VarHandle" ∧ (parseMethodDescriptor yX1_pass.desc).map (fun d => d.parameters.length) = some 2 := by decide +kernel
set_option maxHeartbeats 4000000 in
set_option maxRecDepth 100000 in
theorem k_X1_pass {l : Launch} {ad : Nat → Nat} {cy : Nat → ClassId} {dC : Nat → ClassId} {dI : Nat → Nat → Nat} {ks : (Nat → Nat) × (Nat → Nat)} {h0 : Nat} {h1 : Nat} {p2 : Int32} {mem : Mm} {mem2 : Mm} (e0 : Lp.1 h0 = 1) (e1 : Lp.1 h1 = 6) (h : f_X1_pass h0 h1 p2 mem = some mem2) : CtV l Lp ad cy dC dI ks yX1_pass cX1_pass 5 none ({ frames := 4, cells := 0, slots := 0, locals := 88 }) [.ref (ad (h0)), .ref (ad (h1)), .int (p2)] mem mem2 := by
  refine CtV.of (cc := cX1_pass) (maxL := 5) (ret := none) (own := RX1) rfl (by decide) (Nat.le_of_ble_eq_true rfl) ?_
  intro p e s m args below meth c A X
  have hts := X.2.2.2.2.1
  have hl88 := X.2.2.2.2.2.2.1 (.fieldLinkNest "StationPiano$DayRun" 88 "StationPiano$State" "from" "I" "StationPiano") (List.mem_of_getElem? (i := 58) rfl)
  have hl93 := X.2.2.2.2.2.2.1 (.fieldLinkNest "StationPiano$DayRun" 93 "StationPiano$State" "to" "I" "StationPiano") (List.mem_of_getElem? (i := 60) rfl)
  have hl108 := X.2.2.2.2.2.2.1 (.fieldLinkNest "StationPiano$DayRun" 108 "StationPiano$State" "wear" "[I" "StationPiano") (List.mem_of_getElem? (i := 54) rfl)
  have hJ139 : ∀ (k70 : Int32 → Int32 → Mm → Option Mm) (hk70 : ∀ (x16 : Int32) (x17 : Int32) (m18 : Mm), k70 x16 x17 m18 = some mem2 → Jd p l e ({ frames := 4, cells := 0, slots := 0, locals := 88 }) s m args below meth c 5 (MQ below (PsV Lp ad cy dC dI mem2 A) args s 0 0 A) A dC dI cy Lp ad m18 70 [(0, .ref (ad (h0))), (1, .ref (ad (h1))), (2, .int (x16)), (3, .int (x17))] []) (x31 : Int32) (x32 : Int32) (m33 : Mm), f_X1_pass_J139 h0 h1 p2 k70 x31 x32 m33 = some mem2 → Jd p l e ({ frames := 4, cells := 0, slots := 0, locals := 88 }) s m args below meth c 5 (MQ below (PsV Lp ad cy dC dI mem2 A) args s 0 0 A) A dC dI cy Lp ad m33 139 [(0, .ref (ad (h0))), (1, .ref (ad (h1))), (2, .int (x31)), (3, .int (x32))] [] := by
    intro k70 hk70 x31 x32 m33 h
    unfold f_X1_pass_J139 at h
    refine r_aload_n X dX1_pass_139 rfl 0 rfl ?_
    refine r_cVV (As := []) (rest := []) X (fun m9 hg => k_X1_addJoy e0 hg) h (Lp_N e0 rfl) e0 rfl (by decide) uw4_133 uw4_135 us3_1 uw1_11 uw4_136 rfl rfl dd_X1_addJoy ⟨Nat.le_of_ble_eq_true rfl, Nat.le_of_ble_eq_true rfl⟩ rfl (Nat.le_of_ble_eq_true rfl) dX1_pass_140 rfl (fun m34 h => ?_)
    refine r_inc h (fun x35 e9 h => ?_)
    refine r_iinc (v := x35) (lv2 := [(3, .int (x35)), (0, .ref (ad (h0))), (1, .ref (ad (h1))), (2, .int (x31))]) X dX1_pass_143 3 rfl (by rw [e9]; rfl) (by decide) rfl ?_
    refine r_goto (tgt := 70) X dX1_pass_146 (by decide) ?_
    exact r_sub [1, 2, 3, 0] rfl (hk70 x31 x35 m34 h)
  have hJ97 : ∀ (k70 : Int32 → Int32 → Mm → Option Mm) (hk70 : ∀ (x16 : Int32) (x17 : Int32) (m18 : Mm), k70 x16 x17 m18 = some mem2 → Jd p l e ({ frames := 4, cells := 0, slots := 0, locals := 88 }) s m args below meth c 5 (MQ below (PsV Lp ad cy dC dI mem2 A) args s 0 0 A) A dC dI cy Lp ad m18 70 [(0, .ref (ad (h0))), (1, .ref (ad (h1))), (2, .int (x16)), (3, .int (x17))] []) (x23 : Int32) (x24 : Int32) (x25 : Int32) (m26 : Mm), f_X1_pass_J97 h0 h1 p2 k70 x23 x24 x25 m26 = some mem2 → Jd p l e ({ frames := 4, cells := 0, slots := 0, locals := 88 }) s m args below meth c 5 (MQ below (PsV Lp ad cy dC dI mem2 A) args s 0 0 A) A dC dI cy Lp ad m26 97 [(0, .ref (ad (h0))), (1, .ref (ad (h1))), (2, .int (x23)), (3, .int (x24))] [.int (x25)] := by
    intro k70 hk70 x23 x24 x25 m26 h
    unfold f_X1_pass_J97 at h
    refine r_istore (lv2 := [(4, .int (x25)), (0, .ref (ad (h0))), (1, .ref (ad (h1))), (2, .int (x23)), (3, .int (x24))]) X dX1_pass_97 (by decide) rfl ?_
    refine r_aload_n X dX1_pass_99 rfl 1 rfl ?_
    refine r_iload_n X dX1_pass_100 rfl 4 rfl ?_
    refine r_iload_n X dX1_pass_101 rfl 3 rfl ?_
    refine r_cVV (As := [.int (x24), .int (x23)]) (rest := []) X (fun m9 hg => k_X1_standInLine e0 hg) h (Lp_N e0 rfl) e0 rfl (by decide) uw4_100 uw4_102 us2_11 uw1_11 uw4_103 rfl rfl dd_X1_standInLine ⟨Nat.le_of_ble_eq_true rfl, Nat.le_of_ble_eq_true rfl⟩ rfl (Nat.le_of_ble_eq_true rfl) dX1_pass_102 rfl (fun m27 h => ?_)
    refine r_aload_n X dX1_pass_105 rfl 1 rfl ?_
    refine r_iload_n X dX1_pass_106 rfl 4 rfl ?_
    refine r_iload X dX1_pass_107 0 rfl ?_
    refine r_cVV (As := [.int (x24), .int (x25)]) (rest := []) X (fun m9 hg => k_X1_endPlaying e0 hg) h (Lp_N e0 rfl) e0 rfl (by decide) uw4_104 uw4_106 us2_12 uw1_11 uw4_107 rfl rfl dd_X1_endPlaying ⟨Nat.le_of_ble_eq_true rfl, Nat.le_of_ble_eq_true rfl⟩ rfl (Nat.le_of_ble_eq_true rfl) dX1_pass_109 rfl (fun m28 h => ?_)
    refine r_aload_n X dX1_pass_112 rfl 1 rfl ?_
    refine r_iload_n X dX1_pass_113 rfl 4 rfl ?_
    refine r_cVV (As := [.int (x24)]) (rest := []) X (fun m9 hg => k_X1_leaveLine e0 hg) h (Lp_N e0 rfl) e0 rfl (by decide) uw4_108 uw4_110 us2_13 uw1_11 uw4_111 rfl rfl dd_X1_leaveLine ⟨Nat.le_of_ble_eq_true rfl, Nat.le_of_ble_eq_true rfl⟩ rfl (Nat.le_of_ble_eq_true rfl) dX1_pass_114 rfl (fun m29 h => ?_)
    refine r_aload_n X dX1_pass_117 rfl 1 rfl ?_
    refine r_getI X (k := 9) (Lp_N e0 rfl) e0 rfl (by decide) ui_1 (by decide) uw2_116 rfl dX1_pass_118 ?_
    refine r_iconst (v := (-1)) X dX1_pass_121 (by decide) ?_
    refine r_icmp_ne (tgt := 139) X dX1_pass_122 (by decide) h (fun h => ?_) (fun h => ?_)
    · exact r_sub [1, 2, 3, 4] rfl (hJ139 k70 hk70 x23 x24 m29 h)
    · refine r_iload X dX1_pass_125 0 rfl ?_
      refine r_if_eq (tgt := 139) X dX1_pass_127 (by decide) h (fun h => ?_) (fun h => ?_)
      · exact r_sub [1, 2, 3, 4] rfl (hJ139 k70 hk70 x23 x24 m29 h)
      · refine r_aload_n X dX1_pass_130 rfl 1 rfl ?_
        refine r_iload_n X dX1_pass_131 rfl 4 rfl ?_
        refine r_aload_n X dX1_pass_132 rfl 2 rfl ?_
        refine r_getFN X (k := 0) (of := 1) rfl (Lp_N e1 rfl) e1 rfl (by decide) ui_6 (by decide) hl108 rfl dX1_pass_133 ?_
        refine r_cVV (As := [.int (x24), .ref (ad (h1 + 1))]) (rest := []) X (fun m9 hg => k_X1_beginPlaying e0 (Lp_6_0 e1) hg) h (Lp_N e0 rfl) e0 rfl (by decide) uw4_112 uw4_114 us2_14 uw1_11 uw4_115 rfl rfl dd_X1_beginPlaying ⟨Nat.le_of_ble_eq_true rfl, Nat.le_of_ble_eq_true rfl⟩ rfl (Nat.le_of_ble_eq_true rfl) dX1_pass_136 rfl (fun m30 h => ?_)
        exact r_sub [1, 2, 3, 4] rfl (hJ139 k70 hk70 x23 x24 m30 h)
  have hJ96 : ∀ (k70 : Int32 → Int32 → Mm → Option Mm) (hk70 : ∀ (x16 : Int32) (x17 : Int32) (m18 : Mm), k70 x16 x17 m18 = some mem2 → Jd p l e ({ frames := 4, cells := 0, slots := 0, locals := 88 }) s m args below meth c 5 (MQ below (PsV Lp ad cy dC dI mem2 A) args s 0 0 A) A dC dI cy Lp ad m18 70 [(0, .ref (ad (h0))), (1, .ref (ad (h1))), (2, .int (x16)), (3, .int (x17))] []) (x20 : Int32) (x21 : Int32) (m22 : Mm), f_X1_pass_J96 h0 h1 p2 k70 x20 x21 m22 = some mem2 → Jd p l e ({ frames := 4, cells := 0, slots := 0, locals := 88 }) s m args below meth c 5 (MQ below (PsV Lp ad cy dC dI mem2 A) args s 0 0 A) A dC dI cy Lp ad m22 96 [(0, .ref (ad (h0))), (1, .ref (ad (h1))), (2, .int (x20)), (3, .int (x21))] [] := by
    intro k70 hk70 x20 x21 m22 h
    unfold f_X1_pass_J96 at h
    refine r_iconst (v := (0)) X dX1_pass_96 (by decide) ?_
    exact r_sub [0, 1, 2, 3] rfl (hJ97 k70 hk70 x20 x21 ((0)) m22 h)
  have hJ70 : ∀ (k70 : Int32 → Int32 → Mm → Option Mm) (hk70 : ∀ (x16 : Int32) (x17 : Int32) (m18 : Mm), k70 x16 x17 m18 = some mem2 → Jd p l e ({ frames := 4, cells := 0, slots := 0, locals := 88 }) s m args below meth c 5 (MQ below (PsV Lp ad cy dC dI mem2 A) args s 0 0 A) A dC dI cy Lp ad m18 70 [(0, .ref (ad (h0))), (1, .ref (ad (h1))), (2, .int (x16)), (3, .int (x17))] []) (x16 : Int32) (x17 : Int32) (m18 : Mm), f_X1_pass_B70 h0 h1 p2 k70 x16 x17 m18 = some mem2 → Jd p l e ({ frames := 4, cells := 0, slots := 0, locals := 88 }) s m args below meth c 5 (MQ below (PsV Lp ad cy dC dI mem2 A) args s 0 0 A) A dC dI cy Lp ad m18 70 [(0, .ref (ad (h0))), (1, .ref (ad (h1))), (2, .int (x16)), (3, .int (x17))] [] := by
    intro k70 hk70 x16 x17 m18 h
    unfold f_X1_pass_B70 at h
    refine r_iload_n X dX1_pass_70 rfl 3 rfl ?_
    refine r_bipush (v := (60)) X dX1_pass_71 (by decide) ?_
    refine r_icmp_ge (tgt := 149) X dX1_pass_73 (by decide) h (fun h => ?_) (fun h => ?_)
    · refine r_aload_n X dX1_pass_149 rfl 0 rfl ?_
      refine r_bipush (v := (60)) X dX1_pass_150 (by decide) ?_
      refine r_iconst (v := (0)) X dX1_pass_152 (by decide) ?_
      refine r_cVV (As := [.int ((60)), .int ((0))]) (rest := []) X (fun m9 hg => k_X1_endPlaying e0 hg) h (Lp_N e0 rfl) e0 rfl (by decide) uw4_104 uw4_106 us2_12 uw1_11 uw4_107 rfl rfl dd_X1_endPlaying ⟨Nat.le_of_ble_eq_true rfl, Nat.le_of_ble_eq_true rfl⟩ rfl (Nat.le_of_ble_eq_true rfl) dX1_pass_153 rfl (fun m19 h => ?_)
      exact r_vret X rfl dX1_pass_156 h
    · refine r_aload_n X dX1_pass_76 rfl 1 rfl ?_
      refine r_getIN X (k := 3) (Lp_N e1 rfl) e1 rfl (by decide) ui_6 (by decide) hl88 rfl dX1_pass_77 ?_
      refine r_iload_n X dX1_pass_80 rfl 3 rfl ?_
      refine r_icmp_gt (tgt := 96) X dX1_pass_81 (by decide) h (fun h => ?_) (fun h => ?_)
      · exact r_sub [0, 1, 2, 3] rfl (hJ96 k70 hk70 x16 x17 m18 h)
      · refine r_iload_n X dX1_pass_84 rfl 3 rfl ?_
        refine r_aload_n X dX1_pass_85 rfl 1 rfl ?_
        refine r_getIN X (k := 4) (Lp_N e1 rfl) e1 rfl (by decide) ui_6 (by decide) hl93 rfl dX1_pass_86 ?_
        refine r_icmp_ge (tgt := 96) X dX1_pass_89 (by decide) h (fun h => ?_) (fun h => ?_)
        · exact r_sub [0, 1, 2, 3] rfl (hJ96 k70 hk70 x16 x17 m18 h)
        · refine r_iconst (v := (1)) X dX1_pass_92 (by decide) ?_
          refine r_goto (tgt := 97) X dX1_pass_93 (by decide) ?_
          exact r_sub [0, 1, 2, 3] rfl (hJ97 k70 hk70 x16 x17 ((1)) m18 h)
  have hL70 : ∀ (n : Nat), ∀ (x16 : Int32) (x17 : Int32) (m18 : Mm), lop (fun _ _ _ => none) (f_X1_pass_B70 h0 h1 p2 ) n x16 x17 m18 = some mem2 → Jd p l e ({ frames := 4, cells := 0, slots := 0, locals := 88 }) s m args below meth c 5 (MQ below (PsV Lp ad cy dC dI mem2 A) args s 0 0 A) A dC dI cy Lp ad m18 70 [(0, .ref (ad (h0))), (1, .ref (ad (h1))), (2, .int (x16)), (3, .int (x17))] [] := by
    intro  n
    induction n with
    | zero => intro _ _ _ h; cases h
    | succ n ih => intro a0 a1 a2 h; exact hJ70  _ ih a0 a1 a2 h
  have hJ50 : ∀ (k50 : Int32 → Int32 → Mm → Option Mm) (hk50 : ∀ (x11 : Int32) (x12 : Int32) (m13 : Mm), k50 x11 x12 m13 = some mem2 → Jd p l e ({ frames := 4, cells := 0, slots := 0, locals := 88 }) s m args below meth c 5 (MQ below (PsV Lp ad cy dC dI mem2 A) args s 0 0 A) A dC dI cy Lp ad m13 50 [(0, .ref (ad (h0))), (1, .ref (ad (h1))), (2, .int (x11)), (3, .int (x12))] []) (x11 : Int32) (x12 : Int32) (m13 : Mm), f_X1_pass_B50 h0 h1 p2 k50 x11 x12 m13 = some mem2 → Jd p l e ({ frames := 4, cells := 0, slots := 0, locals := 88 }) s m args below meth c 5 (MQ below (PsV Lp ad cy dC dI mem2 A) args s 0 0 A) A dC dI cy Lp ad m13 50 [(0, .ref (ad (h0))), (1, .ref (ad (h1))), (2, .int (x11)), (3, .int (x12))] [] := by
    intro k50 hk50 x11 x12 m13 h
    unfold f_X1_pass_B50 at h
    refine r_iload_n X dX1_pass_50 rfl 3 rfl ?_
    refine r_iconst (v := (5)) X dX1_pass_51 (by decide) ?_
    refine r_icmp_ge (tgt := 68) X dX1_pass_52 (by decide) h (fun h => ?_) (fun h => ?_)
    · refine r_iconst (v := (0)) X dX1_pass_68 (by decide) ?_
      refine r_istore_n (lv2 := [(3, .int ((0))), (0, .ref (ad (h0))), (1, .ref (ad (h1))), (2, .int (x11))]) X dX1_pass_69 rfl (by decide) rfl ?_
      exact r_sub [1, 2, 3, 0] rfl (hL70 4000 x11 ((0)) m13 h)
    · refine r_aload_n X dX1_pass_55 rfl 0 rfl ?_
      refine r_getF X (k := 6) (of := 7) rfl (Lp_N e0 rfl) e0 rfl (by decide) ui_1 (by decide) uw2_113 rfl dX1_pass_56 ?_
      refine r_iload_n X dX1_pass_59 rfl 3 rfl ?_
      refine r_iconst (v := (0)) X dX1_pass_60 (by decide) ?_
      refine r_iast X (Lp_N (Lp_1_6 e0) rfl) (Lp_1_6 e0) h dX1_pass_61 (fun h => ?_)
      refine r_nmM h (fun m14 h => ?_)
      refine r_inc h (fun x15 e9 h => ?_)
      refine r_iinc (v := x15) (lv2 := [(3, .int (x15)), (0, .ref (ad (h0))), (1, .ref (ad (h1))), (2, .int (x11))]) X dX1_pass_62 3 rfl (by rw [e9]; rfl) (by decide) rfl ?_
      refine r_goto (tgt := 50) X dX1_pass_65 (by decide) ?_
      exact r_sub [1, 2, 3, 0] rfl (hk50 x11 x15 m14 h)
  have hL50 : ∀ (n : Nat), ∀ (x11 : Int32) (x12 : Int32) (m13 : Mm), lop (fun _ _ _ => none) (f_X1_pass_B50 h0 h1 p2 ) n x11 x12 m13 = some mem2 → Jd p l e ({ frames := 4, cells := 0, slots := 0, locals := 88 }) s m args below meth c 5 (MQ below (PsV Lp ad cy dC dI mem2 A) args s 0 0 A) A dC dI cy Lp ad m13 50 [(0, .ref (ad (h0))), (1, .ref (ad (h1))), (2, .int (x11)), (3, .int (x12))] [] := by
    intro  n
    induction n with
    | zero => intro _ _ _ h; cases h
    | succ n ih => intro a0 a1 a2 h; exact hJ50  _ ih a0 a1 a2 h
  have hJ22 : ∀ (k22 : Int32 → Int32 → Mm → Option Mm) (hk22 : ∀ (x5 : Int32) (x6 : Int32) (m7 : Mm), k22 x5 x6 m7 = some mem2 → Jd p l e ({ frames := 4, cells := 0, slots := 0, locals := 88 }) s m args below meth c 5 (MQ below (PsV Lp ad cy dC dI mem2 A) args s 0 0 A) A dC dI cy Lp ad m7 22 [(0, .ref (ad (h0))), (1, .ref (ad (h1))), (2, .int (x5)), (3, .int (x6))] []) (x5 : Int32) (x6 : Int32) (m7 : Mm), f_X1_pass_B22 h0 h1 p2 k22 x5 x6 m7 = some mem2 → Jd p l e ({ frames := 4, cells := 0, slots := 0, locals := 88 }) s m args below meth c 5 (MQ below (PsV Lp ad cy dC dI mem2 A) args s 0 0 A) A dC dI cy Lp ad m7 22 [(0, .ref (ad (h0))), (1, .ref (ad (h1))), (2, .int (x5)), (3, .int (x6))] [] := by
    intro k22 hk22 x5 x6 m7 h
    unfold f_X1_pass_B22 at h
    refine r_iload_n X dX1_pass_22 rfl 3 rfl ?_
    refine r_bipush (v := (7)) X dX1_pass_23 (by decide) ?_
    refine r_icmp_ge (tgt := 48) X dX1_pass_25 (by decide) h (fun h => ?_) (fun h => ?_)
    · refine r_iconst (v := (0)) X dX1_pass_48 (by decide) ?_
      refine r_istore_n (lv2 := [(3, .int ((0))), (0, .ref (ad (h0))), (1, .ref (ad (h1))), (2, .int (x5))]) X dX1_pass_49 rfl (by decide) rfl ?_
      exact r_sub [1, 2, 3, 0] rfl (hL50 4000 x5 ((0)) m7 h)
    · refine r_aload_n X dX1_pass_28 rfl 0 rfl ?_
      refine r_getF X (k := 0) (of := 1) rfl (Lp_N e0 rfl) e0 rfl (by decide) ui_1 (by decide) uw2_104 rfl dX1_pass_29 ?_
      refine r_iload_n X dX1_pass_32 rfl 3 rfl ?_
      refine r_iconst (v := (-1)) X dX1_pass_33 (by decide) ?_
      refine r_iast X (Lp_N (Lp_1_0 e0) rfl) (Lp_1_0 e0) h dX1_pass_34 (fun h => ?_)
      refine r_nmM h (fun m8 h => ?_)
      refine r_aload_n X dX1_pass_35 rfl 0 rfl ?_
      refine r_getF X (k := 1) (of := 2) rfl (Lp_N e0 rfl) e0 rfl (by decide) ui_1 (by decide) uw2_106 rfl dX1_pass_36 ?_
      refine r_iload_n X dX1_pass_39 rfl 3 rfl ?_
      refine r_iconst (v := (-1)) X dX1_pass_40 (by decide) ?_
      refine r_iast X (Lp_N (Lp_1_1 e0) rfl) (Lp_1_1 e0) h dX1_pass_41 (fun h => ?_)
      refine r_nmM h (fun m9 h => ?_)
      refine r_inc h (fun x10 e9 h => ?_)
      refine r_iinc (v := x10) (lv2 := [(3, .int (x10)), (0, .ref (ad (h0))), (1, .ref (ad (h1))), (2, .int (x5))]) X dX1_pass_42 3 rfl (by rw [e9]; rfl) (by decide) rfl ?_
      refine r_goto (tgt := 22) X dX1_pass_45 (by decide) ?_
      exact r_sub [1, 2, 3, 0] rfl (hk22 x5 x10 m9 h)
  have hL22 : ∀ (n : Nat), ∀ (x5 : Int32) (x6 : Int32) (m7 : Mm), lop (fun _ _ _ => none) (f_X1_pass_B22 h0 h1 p2 ) n x5 x6 m7 = some mem2 → Jd p l e ({ frames := 4, cells := 0, slots := 0, locals := 88 }) s m args below meth c 5 (MQ below (PsV Lp ad cy dC dI mem2 A) args s 0 0 A) A dC dI cy Lp ad m7 22 [(0, .ref (ad (h0))), (1, .ref (ad (h1))), (2, .int (x5)), (3, .int (x6))] [] := by
    intro  n
    induction n with
    | zero => intro _ _ _ h; cases h
    | succ n ih => intro a0 a1 a2 h; exact hJ22  _ ih a0 a1 a2 h
  unfold f_X1_pass at h
  refine r_aload_n X dX1_pass_0 rfl 0 rfl ?_
  refine r_iconst (v := (0)) X dX1_pass_1 (by decide) ?_
  refine r_putI X (k := 10) (Lp_N e0 rfl) e0 rfl (by decide) ui_1 (by decide) uw2_117 tyX1_ok nmX1 rfl rfl rfl dX1_pass_2 ?_
  refine r_nmM h (fun m1 h => ?_)
  refine r_aload_n X dX1_pass_5 rfl 0 rfl ?_
  refine r_iconst (v := (0)) X dX1_pass_6 (by decide) ?_
  refine r_putI X (k := 11) (Lp_N e0 rfl) e0 rfl (by decide) ui_1 (by decide) uw2_119 tyX1_ok nmX1 rfl rfl rfl dX1_pass_7 ?_
  refine r_nmM h (fun m2 h => ?_)
  refine r_aload_n X dX1_pass_10 rfl 0 rfl ?_
  refine r_iconst (v := (0)) X dX1_pass_11 (by decide) ?_
  refine r_putI X (k := 8) (Lp_N e0 rfl) e0 rfl (by decide) ui_1 (by decide) uw2_115 tyX1_ok nmX1 rfl rfl rfl dX1_pass_12 ?_
  refine r_nmM h (fun m3 h => ?_)
  refine r_aload_n X dX1_pass_15 rfl 0 rfl ?_
  refine r_iconst (v := (-1)) X dX1_pass_16 (by decide) ?_
  refine r_putI X (k := 9) (Lp_N e0 rfl) e0 rfl (by decide) ui_1 (by decide) uw2_116 tyX1_ok nmX1 rfl rfl rfl dX1_pass_17 ?_
  refine r_nmM h (fun m4 h => ?_)
  refine r_iconst (v := (0)) X dX1_pass_20 (by decide) ?_
  refine r_istore_n (lv2 := [(3, .int ((0))), (0, .ref (ad (h0))), (1, .ref (ad (h1))), (2, .int (p2))]) X dX1_pass_21 rfl (by decide) rfl ?_
  exact r_sub [1, 2, 3, 0] rfl (hL22 4000 p2 ((0)) m4 h)
noncomputable def f_X2_knows_J40 (h0 : Nat) (p1 : Int32) (m2 : Mm) : Option (Int32 × Mm) :=
  grd (bok ((1))) (some ((1), m2))
noncomputable def f_X2_knows_J33 (h0 : Nat) (p1 : Int32) (x3 : Int32) (m4 : Mm) : Option (Int32 × Mm) :=
  if ¬ x3 = (gI m4 h0 2) then (grd (bok ((0))) (some ((0), m4))) else (f_X2_knows_J40 h0 p1 m4)
noncomputable def f_X2_knows (h0 : Nat) (p1 : Int32) (mem : Mm) : Option (Int32 × Mm) :=
  if p1 < ((23)) then (grd (bok ((0))) (some ((0), mem))) else (if p1 ≤ ((28)) then (bnd (p1 - ((23))) fun x1 => if x1 = 0 then (f_X2_knows_J40 h0 p1 mem) else (if ((4)) ≤ x1 then (f_X2_knows_J33 h0 p1 ((0)) mem) else (f_X2_knows_J33 h0 p1 ((1)) mem))) else (grd (bok ((0))) (some ((0), mem))))
theorem dd_X2_knows : yX2_knows.cls = RX2 ∧ yX2_knows.cls ≠ "java/lang/invoke/MethodHandle" ∧ yX2_knows.cls ≠ "java/lang/invoke/VarHandle" ∧ (parseMethodDescriptor yX2_knows.desc).map (fun d => d.parameters.length) = some 1 := by decide +kernel
set_option maxHeartbeats 4000000 in
set_option maxRecDepth 100000 in
theorem k_X2_knows {l : Launch} {ad : Nat → Nat} {cy : Nat → ClassId} {dC : Nat → ClassId} {dI : Nat → Nat → Nat} {ks : (Nat → Nat) × (Nat → Nat)} {h0 : Nat} {p1 : Int32} {mem : Mm} {r2 : Int32} {mem2 : Mm} (e0 : Lp.1 h0 = 2) (h : f_X2_knows h0 p1 mem = some (r2, mem2)) : CtI l Lp ad cy dC dI ks yX2_knows cX2_knows 3 (some .boolean) ({ frames := 0, cells := 0, slots := 0, locals := 0 }) [.ref (ad (h0)), .int (p1)] mem r2 mem2 := by
  refine CtI.of (cc := cX2_knows) (maxL := 3) (ret := (some .boolean)) (own := RX2) rfl (by decide) (Nat.le_of_ble_eq_true rfl) ?_
  intro p e s m args below meth c A X
  have hts := X.2.2.2.2.1
  have hJ40 : ∀ (m2 : Mm), f_X2_knows_J40 h0 p1 m2 = some (r2, mem2) → Jd p l e ({ frames := 0, cells := 0, slots := 0, locals := 0 }) s m args below meth c 3 (MQ below (PsI Lp ad cy dC dI r2 mem2 A) args s 0 0 A) A dC dI cy Lp ad m2 40 [] [] := by
    intro m2 h
    unfold f_X2_knows_J40 at h
    refine r_iconst (v := (1)) X dX2_knows_40 (by decide) ?_
    refine r_goto (tgt := 45) X dX2_knows_41 (by decide) ?_
    exact r_zret2 X rfl dX2_knows_45 h
  have hJ33 : ∀ (x3 : Int32) (m4 : Mm), f_X2_knows_J33 h0 p1 x3 m4 = some (r2, mem2) → Jd p l e ({ frames := 0, cells := 0, slots := 0, locals := 0 }) s m args below meth c 3 (MQ below (PsI Lp ad cy dC dI r2 mem2 A) args s 0 0 A) A dC dI cy Lp ad m4 33 [(0, .ref (ad (h0)))] [.int (x3)] := by
    intro x3 m4 h
    unfold f_X2_knows_J33 at h
    refine r_aload_n X dX2_knows_33 rfl 0 rfl ?_
    refine r_getI X (k := 2) (Lp_N e0 rfl) e0 rfl (by decide) ui_2 (by decide) uw1_101 rfl dX2_knows_34 ?_
    refine r_icmp_ne (tgt := 44) X dX2_knows_37 (by decide) h (fun h => ?_) (fun h => ?_)
    · refine r_iconst (v := (0)) X dX2_knows_44 (by decide) ?_
      exact r_zret2 X rfl dX2_knows_45 h
    · exact r_sub [] rfl (hJ40 m4 h)
  unfold f_X2_knows at h
  refine r_iload_n X dX2_knows_0 rfl 1 rfl ?_
  refine r_bipush (v := (23)) X dX2_knows_1 (by decide) ?_
  refine r_icmp_lt (tgt := 12) X dX2_knows_3 (by decide) h (fun h => ?_) (fun h => ?_)
  · refine r_iconst (v := (0)) X dX2_knows_12 (by decide) ?_
    exact r_zret2 X rfl dX2_knows_13 h
  · refine r_iload_n X dX2_knows_6 rfl 1 rfl ?_
    refine r_bipush (v := (28)) X dX2_knows_7 (by decide) ?_
    refine r_icmp_le (tgt := 14) X dX2_knows_9 (by decide) h (fun h => ?_) (fun h => ?_)
    · refine r_iload_n X dX2_knows_14 rfl 1 rfl ?_
      refine r_bipush (v := (23)) X dX2_knows_15 (by decide) ?_
      refine r_isub X dX2_knows_17 ?_
      refine r_nmI h (fun x1 h => ?_)
      refine r_istore_n (lv2 := [(2, .int (x1)), (0, .ref (ad (h0))), (1, .int (p1))]) X dX2_knows_18 rfl (by decide) rfl ?_
      refine r_iload_n X dX2_knows_19 rfl 0 rfl ?_
      refine r_if_eq (tgt := 40) X dX2_knows_20 (by decide) h (fun h => ?_) (fun h => ?_)
      · exact r_sub [] rfl (hJ40 mem h)
      · refine r_iload_n X dX2_knows_23 rfl 0 rfl ?_
        refine r_iconst (v := (4)) X dX2_knows_24 (by decide) ?_
        refine r_icmp_ge (tgt := 32) X dX2_knows_25 (by decide) h (fun h => ?_) (fun h => ?_)
        · refine r_iconst (v := (0)) X dX2_knows_32 (by decide) ?_
          exact r_sub [1] rfl (hJ33 ((0)) mem h)
        · refine r_iconst (v := (1)) X dX2_knows_28 (by decide) ?_
          refine r_goto (tgt := 33) X dX2_knows_29 (by decide) ?_
          exact r_sub [1] rfl (hJ33 ((1)) mem h)
    · refine r_iconst (v := (0)) X dX2_knows_12 (by decide) ?_
      exact r_zret2 X rfl dX2_knows_13 h
noncomputable def f_X2_add (h0 : Nat) (p1 : Int32) (mem : Mm) : Option Mm :=
  if (gI mem h0 3) < 0 then (some mem) else (if ((1000)) ≤ (gI mem h0 3) then (some mem) else (grd (inb (gI mem h0 3) (Lp.2.1 (h0 + 1))) (bnd (sI mem (h0 + 1) (gI mem h0 3).toNatClampNeg p1) fun m1 => bnd (sI m1 h0 3 ((gI m1 h0 3) + ((1)))) fun m2 => some m2)))
theorem dd_X2_add : yX2_add.cls = RX2 ∧ yX2_add.cls ≠ "java/lang/invoke/MethodHandle" ∧ yX2_add.cls ≠ "java/lang/invoke/VarHandle" ∧ (parseMethodDescriptor yX2_add.desc).map (fun d => d.parameters.length) = some 1 := by decide +kernel
set_option maxHeartbeats 4000000 in
set_option maxRecDepth 100000 in
theorem k_X2_add {l : Launch} {ad : Nat → Nat} {cy : Nat → ClassId} {dC : Nat → ClassId} {dI : Nat → Nat → Nat} {ks : (Nat → Nat) × (Nat → Nat)} {h0 : Nat} {p1 : Int32} {mem : Mm} {mem2 : Mm} (e0 : Lp.1 h0 = 2) (h : f_X2_add h0 p1 mem = some mem2) : CtV l Lp ad cy dC dI ks yX2_add cX2_add 2 none ({ frames := 0, cells := 0, slots := 0, locals := 0 }) [.ref (ad (h0)), .int (p1)] mem mem2 := by
  refine CtV.of (cc := cX2_add) (maxL := 2) (ret := none) (own := RX2) rfl (by decide) (Nat.le_of_ble_eq_true rfl) ?_
  intro p e s m args below meth c A X
  have hts := X.2.2.2.2.1
  unfold f_X2_add at h
  refine r_aload_n X dX2_add_0 rfl 0 rfl ?_
  refine r_getI X (k := 3) (Lp_N e0 rfl) e0 rfl (by decide) ui_2 (by decide) uw1_103 rfl dX2_add_1 ?_
  refine r_if_lt (tgt := 37) X dX2_add_4 (by decide) h (fun h => ?_) (fun h => ?_)
  · exact r_vret X rfl dX2_add_37 h
  · refine r_aload_n X dX2_add_7 rfl 0 rfl ?_
    refine r_getI X (k := 3) (Lp_N e0 rfl) e0 rfl (by decide) ui_2 (by decide) uw1_103 rfl dX2_add_8 ?_
    refine r_sipush (v := (1000)) X dX2_add_11 (by decide) ?_
    refine r_icmp_ge (tgt := 37) X dX2_add_14 (by decide) h (fun h => ?_) (fun h => ?_)
    · exact r_vret X rfl dX2_add_37 h
    · refine r_aload_n X dX2_add_17 rfl 0 rfl ?_
      refine r_getF X (k := 0) (of := 1) rfl (Lp_N e0 rfl) e0 rfl (by decide) ui_2 (by decide) uw1_99 rfl dX2_add_18 ?_
      refine r_aload_n X dX2_add_21 rfl 0 rfl ?_
      refine r_getI X (k := 3) (Lp_N e0 rfl) e0 rfl (by decide) ui_2 (by decide) uw1_103 rfl dX2_add_22 ?_
      refine r_iload_n X dX2_add_25 rfl 1 rfl ?_
      refine r_iast X (Lp_N (Lp_2_0 e0) rfl) (Lp_2_0 e0) h dX2_add_26 (fun h => ?_)
      refine r_nmM h (fun m1 h => ?_)
      refine r_aload_n X dX2_add_27 rfl 0 rfl ?_
      refine r_dup X dX2_add_28 rfl ?_
      refine r_getI X (k := 3) (Lp_N e0 rfl) e0 rfl (by decide) ui_2 (by decide) uw1_103 rfl dX2_add_29 ?_
      refine r_iconst (v := (1)) X dX2_add_32 (by decide) ?_
      refine r_iadd X dX2_add_33 ?_
      refine r_putI X (k := 3) (Lp_N e0 rfl) e0 rfl (by decide) ui_2 (by decide) uw1_103 tyX2_ok nmX2 rfl rfl rfl dX2_add_34 ?_
      refine r_nmM h (fun m2 h => ?_)
      exact r_vret X rfl dX2_add_37 h
noncomputable def f_X10_copyFrom_B10 (h0 : Nat) (h1 : Nat) (k10 : Int32 → Mm → Option Mm) (x2 : Int32) (m3 : Mm) : Option Mm :=
  if (gI m3 h0 3) ≤ x2 then (some m3) else (if ((40)) ≤ x2 then (some m3) else (grd (inb x2 (Lp.2.1 (h1 + 1))) (grd (inb x2 (Lp.2.1 (h0 + 1))) (bnd (sI m3 (h0 + 1) x2.toNatClampNeg (gI m3 (h1 + 1) x2.toNatClampNeg)) fun m4 => grd (inb x2 (Lp.2.1 (h1 + 2))) (grd (inb x2 (Lp.2.1 (h0 + 2))) (bnd (sI m4 (h0 + 2) x2.toNatClampNeg (gI m4 (h1 + 2) x2.toNatClampNeg)) fun m5 => grd (inb x2 (Lp.2.1 (h1 + 3))) (grd (inb x2 (Lp.2.1 (h0 + 3))) (bnd (sI m5 (h0 + 3) x2.toNatClampNeg (gI m5 (h1 + 3) x2.toNatClampNeg)) fun m6 => bnd (x2 + (1)) fun x7 => k10 x7 m6))))))))
noncomputable def f_X10_copyFrom (h0 : Nat) (h1 : Nat) (mem : Mm) : Option Mm :=
  bnd (sI mem h0 3 (gI mem h1 3)) fun m1 => lop (fun _ _ => none) (f_X10_copyFrom_B10 h0 h1 ) 4000 ((0)) m1
theorem dd_X10_copyFrom : yX10_copyFrom.cls = RX10 ∧ yX10_copyFrom.cls ≠ "java/lang/invoke/MethodHandle" ∧ yX10_copyFrom.cls ≠ "java/lang/invoke/VarHandle" ∧ (parseMethodDescriptor yX10_copyFrom.desc).map (fun d => d.parameters.length) = some 1 := by decide +kernel
set_option maxHeartbeats 4000000 in
set_option maxRecDepth 100000 in
theorem k_X10_copyFrom {l : Launch} {ad : Nat → Nat} {cy : Nat → ClassId} {dC : Nat → ClassId} {dI : Nat → Nat → Nat} {ks : (Nat → Nat) × (Nat → Nat)} {h0 : Nat} {h1 : Nat} {mem : Mm} {mem2 : Mm} (e0 : Lp.1 h0 = 10) (e1 : Lp.1 h1 = 10) (h : f_X10_copyFrom h0 h1 mem = some mem2) : CtV l Lp ad cy dC dI ks yX10_copyFrom cX10_copyFrom 3 none ({ frames := 0, cells := 0, slots := 0, locals := 0 }) [.ref (ad (h0)), .ref (ad (h1))] mem mem2 := by
  refine CtV.of (cc := cX10_copyFrom) (maxL := 3) (ret := none) (own := RX10) rfl (by decide) (Nat.le_of_ble_eq_true rfl) ?_
  intro p e s m args below meth c A X
  have hts := X.2.2.2.2.1
  have hJ10 : ∀ (k10 : Int32 → Mm → Option Mm) (hk10 : ∀ (x2 : Int32) (m3 : Mm), k10 x2 m3 = some mem2 → Jd p l e ({ frames := 0, cells := 0, slots := 0, locals := 0 }) s m args below meth c 3 (MQ below (PsV Lp ad cy dC dI mem2 A) args s 0 0 A) A dC dI cy Lp ad m3 10 [(0, .ref (ad (h0))), (1, .ref (ad (h1))), (2, .int (x2))] []) (x2 : Int32) (m3 : Mm), f_X10_copyFrom_B10 h0 h1 k10 x2 m3 = some mem2 → Jd p l e ({ frames := 0, cells := 0, slots := 0, locals := 0 }) s m args below meth c 3 (MQ below (PsV Lp ad cy dC dI mem2 A) args s 0 0 A) A dC dI cy Lp ad m3 10 [(0, .ref (ad (h0))), (1, .ref (ad (h1))), (2, .int (x2))] [] := by
    intro k10 hk10 x2 m3 h
    unfold f_X10_copyFrom_B10 at h
    refine r_iload_n X dX10_copyFrom_10 rfl 2 rfl ?_
    refine r_aload_n X dX10_copyFrom_11 rfl 0 rfl ?_
    refine r_getI X (k := 3) (Lp_N e0 rfl) e0 rfl (by decide) ui_10 (by decide) uw2_44 rfl dX10_copyFrom_12 ?_
    refine r_icmp_ge (tgt := 66) X dX10_copyFrom_15 (by decide) h (fun h => ?_) (fun h => ?_)
    · exact r_vret X rfl dX10_copyFrom_66 h
    · refine r_iload_n X dX10_copyFrom_18 rfl 2 rfl ?_
      refine r_bipush (v := (40)) X dX10_copyFrom_19 (by decide) ?_
      refine r_icmp_ge (tgt := 66) X dX10_copyFrom_21 (by decide) h (fun h => ?_) (fun h => ?_)
      · exact r_vret X rfl dX10_copyFrom_66 h
      · refine r_aload_n X dX10_copyFrom_24 rfl 0 rfl ?_
        refine r_getF X (k := 0) (of := 1) rfl (Lp_N e0 rfl) e0 rfl (by decide) ui_10 (by decide) uw2_38 rfl dX10_copyFrom_25 ?_
        refine r_iload_n X dX10_copyFrom_28 rfl 2 rfl ?_
        refine r_aload_n X dX10_copyFrom_29 rfl 1 rfl ?_
        refine r_getF X (k := 0) (of := 1) rfl (Lp_N e1 rfl) e1 rfl (by decide) ui_10 (by decide) uw2_38 rfl dX10_copyFrom_30 ?_
        refine r_iload_n X dX10_copyFrom_33 rfl 2 rfl ?_
        refine r_iald X (Lp_N (Lp_10_0 e1) rfl) (Lp_10_0 e1) h dX10_copyFrom_34 (fun h => ?_)
        refine r_iast X (Lp_N (Lp_10_0 e0) rfl) (Lp_10_0 e0) h dX10_copyFrom_35 (fun h => ?_)
        refine r_nmM h (fun m4 h => ?_)
        refine r_aload_n X dX10_copyFrom_36 rfl 0 rfl ?_
        refine r_getF X (k := 1) (of := 2) rfl (Lp_N e0 rfl) e0 rfl (by decide) ui_10 (by decide) uw2_40 rfl dX10_copyFrom_37 ?_
        refine r_iload_n X dX10_copyFrom_40 rfl 2 rfl ?_
        refine r_aload_n X dX10_copyFrom_41 rfl 1 rfl ?_
        refine r_getF X (k := 1) (of := 2) rfl (Lp_N e1 rfl) e1 rfl (by decide) ui_10 (by decide) uw2_40 rfl dX10_copyFrom_42 ?_
        refine r_iload_n X dX10_copyFrom_45 rfl 2 rfl ?_
        refine r_iald X (Lp_N (Lp_10_1 e1) rfl) (Lp_10_1 e1) h dX10_copyFrom_46 (fun h => ?_)
        refine r_iast X (Lp_N (Lp_10_1 e0) rfl) (Lp_10_1 e0) h dX10_copyFrom_47 (fun h => ?_)
        refine r_nmM h (fun m5 h => ?_)
        refine r_aload_n X dX10_copyFrom_48 rfl 0 rfl ?_
        refine r_getF X (k := 2) (of := 3) rfl (Lp_N e0 rfl) e0 rfl (by decide) ui_10 (by decide) uw2_42 rfl dX10_copyFrom_49 ?_
        refine r_iload_n X dX10_copyFrom_52 rfl 2 rfl ?_
        refine r_aload_n X dX10_copyFrom_53 rfl 1 rfl ?_
        refine r_getF X (k := 2) (of := 3) rfl (Lp_N e1 rfl) e1 rfl (by decide) ui_10 (by decide) uw2_42 rfl dX10_copyFrom_54 ?_
        refine r_iload_n X dX10_copyFrom_57 rfl 2 rfl ?_
        refine r_iald X (Lp_N (Lp_10_2 e1) rfl) (Lp_10_2 e1) h dX10_copyFrom_58 (fun h => ?_)
        refine r_iast X (Lp_N (Lp_10_2 e0) rfl) (Lp_10_2 e0) h dX10_copyFrom_59 (fun h => ?_)
        refine r_nmM h (fun m6 h => ?_)
        refine r_inc h (fun x7 e9 h => ?_)
        refine r_iinc (v := x7) (lv2 := [(2, .int (x7)), (0, .ref (ad (h0))), (1, .ref (ad (h1)))]) X dX10_copyFrom_60 2 rfl (by rw [e9]; rfl) (by decide) rfl ?_
        refine r_goto (tgt := 10) X dX10_copyFrom_63 (by decide) ?_
        exact r_sub [1, 2, 0] rfl (hk10 x7 m6 h)
  have hL10 : ∀ (n : Nat), ∀ (x2 : Int32) (m3 : Mm), lop (fun _ _ => none) (f_X10_copyFrom_B10 h0 h1 ) n x2 m3 = some mem2 → Jd p l e ({ frames := 0, cells := 0, slots := 0, locals := 0 }) s m args below meth c 3 (MQ below (PsV Lp ad cy dC dI mem2 A) args s 0 0 A) A dC dI cy Lp ad m3 10 [(0, .ref (ad (h0))), (1, .ref (ad (h1))), (2, .int (x2))] [] := by
    intro  n
    induction n with
    | zero => intro _ _ h; cases h
    | succ n ih => intro a0 a1 h; exact hJ10  _ ih a0 a1 h
  unfold f_X10_copyFrom at h
  refine r_aload_n X dX10_copyFrom_0 rfl 0 rfl ?_
  refine r_aload_n X dX10_copyFrom_1 rfl 1 rfl ?_
  refine r_getI X (k := 3) (Lp_N e1 rfl) e1 rfl (by decide) ui_10 (by decide) uw2_44 rfl dX10_copyFrom_2 ?_
  refine r_putI X (k := 3) (Lp_N e0 rfl) e0 rfl (by decide) ui_10 (by decide) uw2_44 tyX10_ok nmX10 rfl rfl rfl dX10_copyFrom_5 ?_
  refine r_nmM h (fun m1 h => ?_)
  refine r_iconst (v := (0)) X dX10_copyFrom_8 (by decide) ?_
  refine r_istore_n (lv2 := [(2, .int ((0))), (0, .ref (ad (h0))), (1, .ref (ad (h1)))]) X dX10_copyFrom_9 rfl (by decide) rfl ?_
  exact r_sub [1, 2, 0] rfl (hL10 4000 ((0)) m1 h)
noncomputable def f_X6_copyFrom_B2 (h0 : Nat) (h1 : Nat) (k2 : Int32 → Mm → Option Mm) (x1 : Int32) (m2 : Mm) : Option Mm :=
  if ((12)) ≤ x1 then (bnd (sI m2 h0 1 (gI m2 h1 1)) fun m3 => bnd (sI m3 h0 2 (gI m3 h1 2)) fun m4 => bnd (sI m4 h0 3 (gI m4 h1 3)) fun m5 => bnd (sI m5 h0 4 (gI m5 h1 4)) fun m6 => bnd (sI m6 h0 5 (gI m6 h1 5)) fun m7 => some m7) else (grd (inb x1 (Lp.2.1 (h1 + 1))) (grd (inb x1 (Lp.2.1 (h0 + 1))) (bnd (sI m2 (h0 + 1) x1.toNatClampNeg (gI m2 (h1 + 1) x1.toNatClampNeg)) fun m8 => bnd (x1 + (1)) fun x9 => k2 x9 m8)))
noncomputable def f_X6_copyFrom (h0 : Nat) (h1 : Nat) (mem : Mm) : Option Mm :=
  lop (fun _ _ => none) (f_X6_copyFrom_B2 h0 h1 ) 4000 ((0)) mem
theorem dd_X6_copyFrom : yX6_copyFrom.cls = RX6 ∧ yX6_copyFrom.cls ≠ "java/lang/invoke/MethodHandle" ∧ yX6_copyFrom.cls ≠ "java/lang/invoke/VarHandle" ∧ (parseMethodDescriptor yX6_copyFrom.desc).map (fun d => d.parameters.length) = some 1 := by decide +kernel
set_option maxHeartbeats 4000000 in
set_option maxRecDepth 100000 in
theorem k_X6_copyFrom {l : Launch} {ad : Nat → Nat} {cy : Nat → ClassId} {dC : Nat → ClassId} {dI : Nat → Nat → Nat} {ks : (Nat → Nat) × (Nat → Nat)} {h0 : Nat} {h1 : Nat} {mem : Mm} {mem2 : Mm} (e0 : Lp.1 h0 = 6) (e1 : Lp.1 h1 = 6) (h : f_X6_copyFrom h0 h1 mem = some mem2) : CtV l Lp ad cy dC dI ks yX6_copyFrom cX6_copyFrom 3 none ({ frames := 0, cells := 0, slots := 0, locals := 0 }) [.ref (ad (h0)), .ref (ad (h1))] mem mem2 := by
  refine CtV.of (cc := cX6_copyFrom) (maxL := 3) (ret := none) (own := RX6) rfl (by decide) (Nat.le_of_ble_eq_true rfl) ?_
  intro p e s m args below meth c A X
  have hts := X.2.2.2.2.1
  have hJ2 : ∀ (k2 : Int32 → Mm → Option Mm) (hk2 : ∀ (x1 : Int32) (m2 : Mm), k2 x1 m2 = some mem2 → Jd p l e ({ frames := 0, cells := 0, slots := 0, locals := 0 }) s m args below meth c 3 (MQ below (PsV Lp ad cy dC dI mem2 A) args s 0 0 A) A dC dI cy Lp ad m2 2 [(0, .ref (ad (h0))), (1, .ref (ad (h1))), (2, .int (x1))] []) (x1 : Int32) (m2 : Mm), f_X6_copyFrom_B2 h0 h1 k2 x1 m2 = some mem2 → Jd p l e ({ frames := 0, cells := 0, slots := 0, locals := 0 }) s m args below meth c 3 (MQ below (PsV Lp ad cy dC dI mem2 A) args s 0 0 A) A dC dI cy Lp ad m2 2 [(0, .ref (ad (h0))), (1, .ref (ad (h1))), (2, .int (x1))] [] := by
    intro k2 hk2 x1 m2 h
    unfold f_X6_copyFrom_B2 at h
    refine r_iload_n X dX6_copyFrom_2 rfl 2 rfl ?_
    refine r_bipush (v := (12)) X dX6_copyFrom_3 (by decide) ?_
    refine r_icmp_ge (tgt := 26) X dX6_copyFrom_5 (by decide) h (fun h => ?_) (fun h => ?_)
    · refine r_aload_n X dX6_copyFrom_26 rfl 0 rfl ?_
      refine r_aload_n X dX6_copyFrom_27 rfl 1 rfl ?_
      refine r_getI X (k := 1) (Lp_N e1 rfl) e1 rfl (by decide) ui_6 (by decide) uw2_7 rfl dX6_copyFrom_28 ?_
      refine r_putI X (k := 1) (Lp_N e0 rfl) e0 rfl (by decide) ui_6 (by decide) uw2_7 tyX6_ok nmX6 rfl rfl rfl dX6_copyFrom_31 ?_
      refine r_nmM h (fun m3 h => ?_)
      refine r_aload_n X dX6_copyFrom_34 rfl 0 rfl ?_
      refine r_aload_n X dX6_copyFrom_35 rfl 1 rfl ?_
      refine r_getI X (k := 2) (Lp_N e1 rfl) e1 rfl (by decide) ui_6 (by decide) uw2_9 rfl dX6_copyFrom_36 ?_
      refine r_putI X (k := 2) (Lp_N e0 rfl) e0 rfl (by decide) ui_6 (by decide) uw2_9 tyX6_ok nmX6 rfl rfl rfl dX6_copyFrom_39 ?_
      refine r_nmM h (fun m4 h => ?_)
      refine r_aload_n X dX6_copyFrom_42 rfl 0 rfl ?_
      refine r_aload_n X dX6_copyFrom_43 rfl 1 rfl ?_
      refine r_getI X (k := 3) (Lp_N e1 rfl) e1 rfl (by decide) ui_6 (by decide) uw2_11 rfl dX6_copyFrom_44 ?_
      refine r_putI X (k := 3) (Lp_N e0 rfl) e0 rfl (by decide) ui_6 (by decide) uw2_11 tyX6_ok nmX6 rfl rfl rfl dX6_copyFrom_47 ?_
      refine r_nmM h (fun m5 h => ?_)
      refine r_aload_n X dX6_copyFrom_50 rfl 0 rfl ?_
      refine r_aload_n X dX6_copyFrom_51 rfl 1 rfl ?_
      refine r_getI X (k := 4) (Lp_N e1 rfl) e1 rfl (by decide) ui_6 (by decide) uw2_14 rfl dX6_copyFrom_52 ?_
      refine r_putI X (k := 4) (Lp_N e0 rfl) e0 rfl (by decide) ui_6 (by decide) uw2_14 tyX6_ok nmX6 rfl rfl rfl dX6_copyFrom_55 ?_
      refine r_nmM h (fun m6 h => ?_)
      refine r_aload_n X dX6_copyFrom_58 rfl 0 rfl ?_
      refine r_aload_n X dX6_copyFrom_59 rfl 1 rfl ?_
      refine r_getI X (k := 5) (Lp_N e1 rfl) e1 rfl (by decide) ui_6 (by decide) uw2_17 rfl dX6_copyFrom_60 ?_
      refine r_putI X (k := 5) (Lp_N e0 rfl) e0 rfl (by decide) ui_6 (by decide) uw2_17 tyX6_ok nmX6 rfl rfl rfl dX6_copyFrom_63 ?_
      refine r_nmM h (fun m7 h => ?_)
      exact r_vret X rfl dX6_copyFrom_66 h
    · refine r_aload_n X dX6_copyFrom_8 rfl 0 rfl ?_
      refine r_getF X (k := 0) (of := 1) rfl (Lp_N e0 rfl) e0 rfl (by decide) ui_6 (by decide) uw2_4 rfl dX6_copyFrom_9 ?_
      refine r_iload_n X dX6_copyFrom_12 rfl 2 rfl ?_
      refine r_aload_n X dX6_copyFrom_13 rfl 1 rfl ?_
      refine r_getF X (k := 0) (of := 1) rfl (Lp_N e1 rfl) e1 rfl (by decide) ui_6 (by decide) uw2_4 rfl dX6_copyFrom_14 ?_
      refine r_iload_n X dX6_copyFrom_17 rfl 2 rfl ?_
      refine r_iald X (Lp_N (Lp_6_0 e1) rfl) (Lp_6_0 e1) h dX6_copyFrom_18 (fun h => ?_)
      refine r_iast X (Lp_N (Lp_6_0 e0) rfl) (Lp_6_0 e0) h dX6_copyFrom_19 (fun h => ?_)
      refine r_nmM h (fun m8 h => ?_)
      refine r_inc h (fun x9 e9 h => ?_)
      refine r_iinc (v := x9) (lv2 := [(2, .int (x9)), (0, .ref (ad (h0))), (1, .ref (ad (h1)))]) X dX6_copyFrom_20 2 rfl (by rw [e9]; rfl) (by decide) rfl ?_
      refine r_goto (tgt := 2) X dX6_copyFrom_23 (by decide) ?_
      exact r_sub [1, 2, 0] rfl (hk2 x9 m8 h)
  have hL2 : ∀ (n : Nat), ∀ (x1 : Int32) (m2 : Mm), lop (fun _ _ => none) (f_X6_copyFrom_B2 h0 h1 ) n x1 m2 = some mem2 → Jd p l e ({ frames := 0, cells := 0, slots := 0, locals := 0 }) s m args below meth c 3 (MQ below (PsV Lp ad cy dC dI mem2 A) args s 0 0 A) A dC dI cy Lp ad m2 2 [(0, .ref (ad (h0))), (1, .ref (ad (h1))), (2, .int (x1))] [] := by
    intro  n
    induction n with
    | zero => intro _ _ h; cases h
    | succ n ih => intro a0 a1 h; exact hJ2  _ ih a0 a1 h
  unfold f_X6_copyFrom at h
  refine r_iconst (v := (0)) X dX6_copyFrom_0 (by decide) ?_
  refine r_istore_n (lv2 := [(2, .int ((0))), (0, .ref (ad (h0))), (1, .ref (ad (h1)))]) X dX6_copyFrom_1 rfl (by decide) rfl ?_
  exact r_sub [1, 2, 0] rfl (hL2 4000 ((0)) mem h)
noncomputable def f_X3_lay (h0 : Nat) (h1 : Nat) (h2 : Nat) (h3 : Nat) (mem : Mm) : Option Mm :=
  bdV (f_X6_copyFrom (h0 + 1) h1 mem) fun m1 => bdV (f_X10_copyFrom (h0 + 3) h2 m1) fun m2 => bdV (f_X0_copyFrom (h0 + 7) h3 m2) fun m3 => grd (bok ((1))) (bnd (sI m3 h0 3 ((1))) fun m4 => some m4)
theorem dd_X3_lay : yX3_lay.cls = RX3 ∧ yX3_lay.cls ≠ "java/lang/invoke/MethodHandle" ∧ yX3_lay.cls ≠ "java/lang/invoke/VarHandle" ∧ (parseMethodDescriptor yX3_lay.desc).map (fun d => d.parameters.length) = some 3 := by decide +kernel
set_option maxHeartbeats 4000000 in
set_option maxRecDepth 100000 in
theorem k_X3_lay {l : Launch} {ad : Nat → Nat} {cy : Nat → ClassId} {dC : Nat → ClassId} {dI : Nat → Nat → Nat} {ks : (Nat → Nat) × (Nat → Nat)} {h0 : Nat} {h1 : Nat} {h2 : Nat} {h3 : Nat} {mem : Mm} {mem2 : Mm} (e0 : Lp.1 h0 = 3) (e1 : Lp.1 h1 = 6) (e2 : Lp.1 h2 = 10) (e3 : Lp.1 h3 = 0) (h : f_X3_lay h0 h1 h2 h3 mem = some mem2) : CtV l Lp ad cy dC dI ks yX3_lay cX3_lay 4 none ({ frames := 1, cells := 0, slots := 0, locals := 22 }) [.ref (ad (h0)), .ref (ad (h1)), .ref (ad (h2)), .ref (ad (h3))] mem mem2 := by
  refine CtV.of (cc := cX3_lay) (maxL := 4) (ret := none) (own := RX3) rfl (by decide) (Nat.le_of_ble_eq_true rfl) ?_
  intro p e s m args below meth c A X
  have hts := X.2.2.2.2.1
  unfold f_X3_lay at h
  refine r_aload_n X dX3_lay_0 rfl 0 rfl ?_
  refine r_getF X (k := 0) (of := 1) rfl (Lp_N e0 rfl) e0 rfl (by decide) ui_3 (by decide) uw2_168 rfl dX3_lay_1 ?_
  refine r_aload_n X dX3_lay_4 rfl 1 rfl ?_
  refine r_cVV (As := [.ref (ad (h1))]) (rest := []) X (fun m9 hg => k_X6_copyFrom (Lp_3_0 e0) e1 hg) h (Lp_N (Lp_3_0 e0) rfl) (Lp_3_0 e0) rfl (by decide) uw5_36 uw4_66 uw4_67 uw1_7 uw4_68 rfl rfl dd_X6_copyFrom ⟨Nat.le_of_ble_eq_true rfl, Nat.le_of_ble_eq_true rfl⟩ rfl (Nat.le_of_ble_eq_true rfl) dX3_lay_5 rfl (fun m1 h => ?_)
  refine r_aload_n X dX3_lay_8 rfl 0 rfl ?_
  refine r_getF X (k := 1) (of := 3) rfl (Lp_N e0 rfl) e0 rfl (by decide) ui_3 (by decide) uw2_169 rfl dX3_lay_9 ?_
  refine r_aload_n X dX3_lay_12 rfl 2 rfl ?_
  refine r_cVV (As := [.ref (ad (h2))]) (rest := []) X (fun m9 hg => k_X10_copyFrom (Lp_3_1 e0) e2 hg) h (Lp_N (Lp_3_1 e0) rfl) (Lp_3_1 e0) rfl (by decide) uw5_37 uw4_31 uw4_32 uw1_8 uw4_33 rfl rfl dd_X10_copyFrom ⟨Nat.le_of_ble_eq_true rfl, Nat.le_of_ble_eq_true rfl⟩ rfl (Nat.le_of_ble_eq_true rfl) dX3_lay_13 rfl (fun m2 h => ?_)
  refine r_aload_n X dX3_lay_16 rfl 0 rfl ?_
  refine r_getF X (k := 2) (of := 7) rfl (Lp_N e0 rfl) e0 rfl (by decide) ui_3 (by decide) uw2_170 rfl dX3_lay_17 ?_
  refine r_aload_n X dX3_lay_20 rfl 3 rfl ?_
  refine r_cVV (As := [.ref (ad (h3))]) (rest := []) X (fun m9 hg => k_X0_copyFrom (Lp_3_2 e0) e3 hg) h (Lp_N (Lp_3_2 e0) rfl) (Lp_3_2 e0) rfl (by decide) uw5_38 uw5_39 uw5_40 uw1_9 uw5_41 rfl rfl dd_X0_copyFrom ⟨Nat.le_of_ble_eq_true rfl, Nat.le_of_ble_eq_true rfl⟩ rfl (Nat.le_of_ble_eq_true rfl) dX3_lay_21 rfl (fun m3 h => ?_)
  refine r_aload_n X dX3_lay_24 rfl 0 rfl ?_
  refine r_iconst (v := (1)) X dX3_lay_25 (by decide) ?_
  refine r_gz h (fun hz h => ?_)
  refine r_putZ X (k := 3) (Lp_N e0 rfl) e0 rfl (by decide) ui_3 (by decide) uw2_171 tyX3_ok nmX3 rfl rfl hz rfl dX3_lay_26 ?_
  refine r_nmM h (fun m4 h => ?_)
  exact r_vret X rfl dX3_lay_29 h
noncomputable def f_X3_bringBack (h0 : Nat) (h1 : Nat) (h2 : Nat) (h3 : Nat) (mem : Mm) : Option Mm :=
  bdV (f_X6_copyFrom h1 (h0 + 1) mem) fun m1 => bdV (f_X10_copyFrom h2 (h0 + 3) m1) fun m2 => bdV (f_X0_copyFrom h3 (h0 + 7) m2) fun m3 => some m3
theorem dd_X3_bringBack : yX3_bringBack.cls = RX3 ∧ yX3_bringBack.cls ≠ "java/lang/invoke/MethodHandle" ∧ yX3_bringBack.cls ≠ "java/lang/invoke/VarHandle" ∧ (parseMethodDescriptor yX3_bringBack.desc).map (fun d => d.parameters.length) = some 3 := by decide +kernel
set_option maxHeartbeats 4000000 in
set_option maxRecDepth 100000 in
theorem k_X3_bringBack {l : Launch} {ad : Nat → Nat} {cy : Nat → ClassId} {dC : Nat → ClassId} {dI : Nat → Nat → Nat} {ks : (Nat → Nat) × (Nat → Nat)} {h0 : Nat} {h1 : Nat} {h2 : Nat} {h3 : Nat} {mem : Mm} {mem2 : Mm} (e0 : Lp.1 h0 = 3) (e1 : Lp.1 h1 = 6) (e2 : Lp.1 h2 = 10) (e3 : Lp.1 h3 = 0) (h : f_X3_bringBack h0 h1 h2 h3 mem = some mem2) : CtV l Lp ad cy dC dI ks yX3_bringBack cX3_bringBack 4 none ({ frames := 1, cells := 0, slots := 0, locals := 22 }) [.ref (ad (h0)), .ref (ad (h1)), .ref (ad (h2)), .ref (ad (h3))] mem mem2 := by
  refine CtV.of (cc := cX3_bringBack) (maxL := 4) (ret := none) (own := RX3) rfl (by decide) (Nat.le_of_ble_eq_true rfl) ?_
  intro p e s m args below meth c A X
  have hts := X.2.2.2.2.1
  unfold f_X3_bringBack at h
  refine r_aload_n X dX3_bringBack_0 rfl 1 rfl ?_
  refine r_aload_n X dX3_bringBack_1 rfl 0 rfl ?_
  refine r_getF X (k := 0) (of := 1) rfl (Lp_N e0 rfl) e0 rfl (by decide) ui_3 (by decide) uw2_168 rfl dX3_bringBack_2 ?_
  refine r_cVV (As := [.ref (ad (h0 + 1))]) (rest := []) X (fun m9 hg => k_X6_copyFrom e1 (Lp_3_0 e0) hg) h (Lp_N e1 rfl) e1 rfl (by decide) uw5_36 uw4_66 uw4_67 uw1_7 uw4_68 rfl rfl dd_X6_copyFrom ⟨Nat.le_of_ble_eq_true rfl, Nat.le_of_ble_eq_true rfl⟩ rfl (Nat.le_of_ble_eq_true rfl) dX3_bringBack_5 rfl (fun m1 h => ?_)
  refine r_aload_n X dX3_bringBack_8 rfl 2 rfl ?_
  refine r_aload_n X dX3_bringBack_9 rfl 0 rfl ?_
  refine r_getF X (k := 1) (of := 3) rfl (Lp_N e0 rfl) e0 rfl (by decide) ui_3 (by decide) uw2_169 rfl dX3_bringBack_10 ?_
  refine r_cVV (As := [.ref (ad (h0 + 3))]) (rest := []) X (fun m9 hg => k_X10_copyFrom e2 (Lp_3_1 e0) hg) h (Lp_N e2 rfl) e2 rfl (by decide) uw5_37 uw4_31 uw4_32 uw1_8 uw4_33 rfl rfl dd_X10_copyFrom ⟨Nat.le_of_ble_eq_true rfl, Nat.le_of_ble_eq_true rfl⟩ rfl (Nat.le_of_ble_eq_true rfl) dX3_bringBack_13 rfl (fun m2 h => ?_)
  refine r_aload_n X dX3_bringBack_16 rfl 3 rfl ?_
  refine r_aload_n X dX3_bringBack_17 rfl 0 rfl ?_
  refine r_getF X (k := 2) (of := 7) rfl (Lp_N e0 rfl) e0 rfl (by decide) ui_3 (by decide) uw2_170 rfl dX3_bringBack_18 ?_
  refine r_cVV (As := [.ref (ad (h0 + 7))]) (rest := []) X (fun m9 hg => k_X0_copyFrom e3 (Lp_3_2 e0) hg) h (Lp_N e3 rfl) e3 rfl (by decide) uw5_38 uw5_39 uw5_40 uw1_9 uw5_41 rfl rfl dd_X0_copyFrom ⟨Nat.le_of_ble_eq_true rfl, Nat.le_of_ble_eq_true rfl⟩ rfl (Nat.le_of_ble_eq_true rfl) dX3_bringBack_21 rfl (fun m3 h => ?_)
  exact r_vret X rfl dX3_bringBack_24 h
noncomputable def f_X4_learn_J103 (h0 : Nat) (h1 : Nat) (p2 : Int32) (k41 : Int32 → Int32 → Int32 → Mm → Option Mm) (k51 : Int32 → Int32 → Int32 → Int32 → Mm → Option Mm) (x24 : Int32) (x25 : Int32) (x26 : Int32) (x27 : Int32) (m28 : Mm) : Option Mm :=
  bnd (x27 + (1)) fun x29 => k51 x24 x25 x26 x29 m28
noncomputable def f_X4_learn_J109 (h0 : Nat) (h1 : Nat) (p2 : Int32) (k41 : Int32 → Int32 → Int32 → Mm → Option Mm) (x19 : Int32) (x20 : Int32) (x21 : Int32) (m22 : Mm) : Option Mm :=
  bnd (x21 + (1)) fun x23 => k41 x19 x20 x23 m22
noncomputable def f_X4_learn_B51 (h0 : Nat) (h1 : Nat) (p2 : Int32) (k41 : Int32 → Int32 → Int32 → Mm → Option Mm) (k51 : Int32 → Int32 → Int32 → Int32 → Mm → Option Mm) (x12 : Int32) (x13 : Int32) (x14 : Int32) (x15 : Int32) (m16 : Mm) : Option Mm :=
  if x12 ≤ x15 then (f_X4_learn_J109 h0 h1 p2 k41 x12 x13 x14 m16) else (if (Int32.ofNat (Lp.2.1 h1)) ≤ x15 then (f_X4_learn_J109 h0 h1 p2 k41 x12 x13 x14 m16) else (if (gI m16 h0 1) < 0 then (f_X4_learn_J103 h0 h1 p2 k41 k51 x12 x13 x14 x15 m16) else (if ((18)) ≤ (gI m16 h0 1) then (f_X4_learn_J103 h0 h1 p2 k41 k51 x12 x13 x14 x15 m16) else (grd (inb x15 (Lp.2.1 h1)) (grd (inb (gI m16 h0 1) (Lp.2.1 (h0 + 1))) (bnd (sI m16 (h0 + 1) (gI m16 h0 1).toNatClampNeg (gI m16 h1 x15.toNatClampNeg)) fun m17 => bnd (sI m17 h0 1 ((gI m17 h0 1) + ((1)))) fun m18 => f_X4_learn_J103 h0 h1 p2 k41 k51 x12 x13 x14 x15 m18))))))
noncomputable def f_X4_learn_B41 (h0 : Nat) (h1 : Nat) (p2 : Int32) (k41 : Int32 → Int32 → Int32 → Mm → Option Mm) (x8 : Int32) (x9 : Int32) (x10 : Int32) (m11 : Mm) : Option Mm :=
  if x9 ≤ x10 then (some m11) else (lop (fun _ _ _ _ _ => none) (f_X4_learn_B51 h0 h1 p2 k41) 4000 x8 x9 x10 ((0)) m11)
noncomputable def f_X4_learn_J31 (h0 : Nat) (h1 : Nat) (p2 : Int32) (x4 : Int32) (x5 : Int32) (m6 : Mm) : Option Mm :=
  bnd (sI m6 h0 1 ((0))) fun m7 => lop (fun _ _ _ _ => none) (f_X4_learn_B41 h0 h1 p2 ) 4000 x4 x5 ((0)) m7
noncomputable def f_X4_learn_J17 (h0 : Nat) (h1 : Nat) (p2 : Int32) (x2 : Int32) (m3 : Mm) : Option Mm :=
  if ¬ (gI m3 h0 3) = ((2)) then (f_X4_learn_J31 h0 h1 p2 x2 ((1)) m3) else (f_X4_learn_J31 h0 h1 p2 x2 ((2)) m3)
noncomputable def f_X4_learn (h0 : Nat) (h1 : Nat) (p2 : Int32) (mem : Mm) : Option Mm :=
  if ¬ (gI mem h0 3) = ((1)) then (f_X4_learn_J17 h0 h1 p2 p2 mem) else (bnd (if p2 < (3) then p2 else (3)) fun x1 => f_X4_learn_J17 h0 h1 p2 x1 mem)
theorem dd_X4_learn : yX4_learn.cls = RX4 ∧ yX4_learn.cls ≠ "java/lang/invoke/MethodHandle" ∧ yX4_learn.cls ≠ "java/lang/invoke/VarHandle" ∧ (parseMethodDescriptor yX4_learn.desc).map (fun d => d.parameters.length) = some 2 := by decide +kernel
set_option maxHeartbeats 4000000 in
set_option maxRecDepth 100000 in
theorem k_X4_learn {l : Launch} {ad : Nat → Nat} {cy : Nat → ClassId} {dC : Nat → ClassId} {dI : Nat → Nat → Nat} {ks : (Nat → Nat) × (Nat → Nat)} {h0 : Nat} {h1 : Nat} {p2 : Int32} {mem : Mm} {mem2 : Mm} (e0 : Lp.1 h0 = 4) (e1 : Lp.1 h1 = 14) (h : f_X4_learn h0 h1 p2 mem = some mem2) : CtV l Lp ad cy dC dI ks yX4_learn cX4_learn 7 none ({ frames := 1, cells := 0, slots := 0, locals := 21 }) [.ref (ad (h0)), .ref (ad (h1)), .int (p2)] mem mem2 := by
  refine CtV.of (cc := cX4_learn) (maxL := 7) (ret := none) (own := RX4) rfl (by decide) (Nat.le_of_ble_eq_true rfl) ?_
  intro p e s m args below meth c A X
  have hts := X.2.2.2.2.1
  have hJ103 : ∀ (k41 : Int32 → Int32 → Int32 → Mm → Option Mm) (hk41 : ∀ (x8 : Int32) (x9 : Int32) (x10 : Int32) (m11 : Mm), k41 x8 x9 x10 m11 = some mem2 → Jd p l e ({ frames := 1, cells := 0, slots := 0, locals := 21 }) s m args below meth c 7 (MQ below (PsV Lp ad cy dC dI mem2 A) args s 0 0 A) A dC dI cy Lp ad m11 41 [(0, .ref (ad (h0))), (1, .ref (ad (h1))), (3, .int (x8)), (4, .int (x9)), (5, .int (x10))] []) (k51 : Int32 → Int32 → Int32 → Int32 → Mm → Option Mm) (hk51 : ∀ (x12 : Int32) (x13 : Int32) (x14 : Int32) (x15 : Int32) (m16 : Mm), k51 x12 x13 x14 x15 m16 = some mem2 → Jd p l e ({ frames := 1, cells := 0, slots := 0, locals := 21 }) s m args below meth c 7 (MQ below (PsV Lp ad cy dC dI mem2 A) args s 0 0 A) A dC dI cy Lp ad m16 51 [(0, .ref (ad (h0))), (1, .ref (ad (h1))), (3, .int (x12)), (4, .int (x13)), (5, .int (x14)), (6, .int (x15))] []) (x24 : Int32) (x25 : Int32) (x26 : Int32) (x27 : Int32) (m28 : Mm), f_X4_learn_J103 h0 h1 p2 k41 k51 x24 x25 x26 x27 m28 = some mem2 → Jd p l e ({ frames := 1, cells := 0, slots := 0, locals := 21 }) s m args below meth c 7 (MQ below (PsV Lp ad cy dC dI mem2 A) args s 0 0 A) A dC dI cy Lp ad m28 103 [(0, .ref (ad (h0))), (1, .ref (ad (h1))), (3, .int (x24)), (4, .int (x25)), (5, .int (x26)), (6, .int (x27))] [] := by
    intro k41 hk41 k51 hk51 x24 x25 x26 x27 m28 h
    unfold f_X4_learn_J103 at h
    refine r_inc h (fun x29 e9 h => ?_)
    refine r_iinc (v := x29) (lv2 := [(6, .int (x29)), (0, .ref (ad (h0))), (1, .ref (ad (h1))), (3, .int (x24)), (4, .int (x25)), (5, .int (x26))]) X dX4_learn_103 5 rfl (by rw [e9]; rfl) (by decide) rfl ?_
    refine r_goto (tgt := 51) X dX4_learn_106 (by decide) ?_
    exact r_sub [1, 2, 3, 4, 5, 0] rfl (hk51 x24 x25 x26 x29 m28 h)
  have hJ109 : ∀ (k41 : Int32 → Int32 → Int32 → Mm → Option Mm) (hk41 : ∀ (x8 : Int32) (x9 : Int32) (x10 : Int32) (m11 : Mm), k41 x8 x9 x10 m11 = some mem2 → Jd p l e ({ frames := 1, cells := 0, slots := 0, locals := 21 }) s m args below meth c 7 (MQ below (PsV Lp ad cy dC dI mem2 A) args s 0 0 A) A dC dI cy Lp ad m11 41 [(0, .ref (ad (h0))), (1, .ref (ad (h1))), (3, .int (x8)), (4, .int (x9)), (5, .int (x10))] []) (x19 : Int32) (x20 : Int32) (x21 : Int32) (m22 : Mm), f_X4_learn_J109 h0 h1 p2 k41 x19 x20 x21 m22 = some mem2 → Jd p l e ({ frames := 1, cells := 0, slots := 0, locals := 21 }) s m args below meth c 7 (MQ below (PsV Lp ad cy dC dI mem2 A) args s 0 0 A) A dC dI cy Lp ad m22 109 [(0, .ref (ad (h0))), (1, .ref (ad (h1))), (3, .int (x19)), (4, .int (x20)), (5, .int (x21))] [] := by
    intro k41 hk41 x19 x20 x21 m22 h
    unfold f_X4_learn_J109 at h
    refine r_inc h (fun x23 e9 h => ?_)
    refine r_iinc (v := x23) (lv2 := [(5, .int (x23)), (0, .ref (ad (h0))), (1, .ref (ad (h1))), (3, .int (x19)), (4, .int (x20))]) X dX4_learn_109 4 rfl (by rw [e9]; rfl) (by decide) rfl ?_
    refine r_goto (tgt := 41) X dX4_learn_112 (by decide) ?_
    exact r_sub [1, 2, 3, 4, 0] rfl (hk41 x19 x20 x23 m22 h)
  have hJ51 : ∀ (k41 : Int32 → Int32 → Int32 → Mm → Option Mm) (hk41 : ∀ (x8 : Int32) (x9 : Int32) (x10 : Int32) (m11 : Mm), k41 x8 x9 x10 m11 = some mem2 → Jd p l e ({ frames := 1, cells := 0, slots := 0, locals := 21 }) s m args below meth c 7 (MQ below (PsV Lp ad cy dC dI mem2 A) args s 0 0 A) A dC dI cy Lp ad m11 41 [(0, .ref (ad (h0))), (1, .ref (ad (h1))), (3, .int (x8)), (4, .int (x9)), (5, .int (x10))] []) (k51 : Int32 → Int32 → Int32 → Int32 → Mm → Option Mm) (hk51 : ∀ (x12 : Int32) (x13 : Int32) (x14 : Int32) (x15 : Int32) (m16 : Mm), k51 x12 x13 x14 x15 m16 = some mem2 → Jd p l e ({ frames := 1, cells := 0, slots := 0, locals := 21 }) s m args below meth c 7 (MQ below (PsV Lp ad cy dC dI mem2 A) args s 0 0 A) A dC dI cy Lp ad m16 51 [(0, .ref (ad (h0))), (1, .ref (ad (h1))), (3, .int (x12)), (4, .int (x13)), (5, .int (x14)), (6, .int (x15))] []) (x12 : Int32) (x13 : Int32) (x14 : Int32) (x15 : Int32) (m16 : Mm), f_X4_learn_B51 h0 h1 p2 k41 k51 x12 x13 x14 x15 m16 = some mem2 → Jd p l e ({ frames := 1, cells := 0, slots := 0, locals := 21 }) s m args below meth c 7 (MQ below (PsV Lp ad cy dC dI mem2 A) args s 0 0 A) A dC dI cy Lp ad m16 51 [(0, .ref (ad (h0))), (1, .ref (ad (h1))), (3, .int (x12)), (4, .int (x13)), (5, .int (x14)), (6, .int (x15))] [] := by
    intro k41 hk41 k51 hk51 x12 x13 x14 x15 m16 h
    unfold f_X4_learn_B51 at h
    refine r_iload X dX4_learn_51 5 rfl ?_
    refine r_iload_n X dX4_learn_53 rfl 2 rfl ?_
    refine r_icmp_ge (tgt := 109) X dX4_learn_54 (by decide) h (fun h => ?_) (fun h => ?_)
    · exact r_sub [0, 1, 2, 3, 4] rfl (hJ109 k41 hk41 x12 x13 x14 m16 h)
    · refine r_iload X dX4_learn_57 5 rfl ?_
      refine r_aload_n X dX4_learn_59 rfl 1 rfl ?_
      refine r_alenI X (Lp_N e1 rfl) e1 dX4_learn_60 ?_
      refine r_icmp_ge (tgt := 109) X dX4_learn_61 (by decide) h (fun h => ?_) (fun h => ?_)
      · exact r_sub [0, 1, 2, 3, 4] rfl (hJ109 k41 hk41 x12 x13 x14 m16 h)
      · refine r_aload_n X dX4_learn_64 rfl 0 rfl ?_
        refine r_getI X (k := 1) (Lp_N e0 rfl) e0 rfl (by decide) ui_4 (by decide) uw1_125 rfl dX4_learn_65 ?_
        refine r_if_lt (tgt := 103) X dX4_learn_68 (by decide) h (fun h => ?_) (fun h => ?_)
        · exact r_sub [0, 1, 2, 3, 4, 5] rfl (hJ103 k41 hk41 k51 hk51 x12 x13 x14 x15 m16 h)
        · refine r_aload_n X dX4_learn_71 rfl 0 rfl ?_
          refine r_getI X (k := 1) (Lp_N e0 rfl) e0 rfl (by decide) ui_4 (by decide) uw1_125 rfl dX4_learn_72 ?_
          refine r_bipush (v := (18)) X dX4_learn_75 (by decide) ?_
          refine r_icmp_ge (tgt := 103) X dX4_learn_77 (by decide) h (fun h => ?_) (fun h => ?_)
          · exact r_sub [0, 1, 2, 3, 4, 5] rfl (hJ103 k41 hk41 k51 hk51 x12 x13 x14 x15 m16 h)
          · refine r_aload_n X dX4_learn_80 rfl 0 rfl ?_
            refine r_getF X (k := 0) (of := 1) rfl (Lp_N e0 rfl) e0 rfl (by decide) ui_4 (by decide) uw1_123 rfl dX4_learn_81 ?_
            refine r_aload_n X dX4_learn_84 rfl 0 rfl ?_
            refine r_getI X (k := 1) (Lp_N e0 rfl) e0 rfl (by decide) ui_4 (by decide) uw1_125 rfl dX4_learn_85 ?_
            refine r_aload_n X dX4_learn_88 rfl 1 rfl ?_
            refine r_iload X dX4_learn_89 5 rfl ?_
            refine r_iald X (Lp_N e1 rfl) e1 h dX4_learn_91 (fun h => ?_)
            refine r_iast X (Lp_N (Lp_4_0 e0) rfl) (Lp_4_0 e0) h dX4_learn_92 (fun h => ?_)
            refine r_nmM h (fun m17 h => ?_)
            refine r_aload_n X dX4_learn_93 rfl 0 rfl ?_
            refine r_dup X dX4_learn_94 rfl ?_
            refine r_getI X (k := 1) (Lp_N e0 rfl) e0 rfl (by decide) ui_4 (by decide) uw1_125 rfl dX4_learn_95 ?_
            refine r_iconst (v := (1)) X dX4_learn_98 (by decide) ?_
            refine r_iadd X dX4_learn_99 ?_
            refine r_putI X (k := 1) (Lp_N e0 rfl) e0 rfl (by decide) ui_4 (by decide) uw1_125 tyX4_ok nmX4 rfl rfl rfl dX4_learn_100 ?_
            refine r_nmM h (fun m18 h => ?_)
            exact r_sub [0, 1, 2, 3, 4, 5] rfl (hJ103 k41 hk41 k51 hk51 x12 x13 x14 x15 m18 h)
  have hL51 : ∀ (k41 : Int32 → Int32 → Int32 → Mm → Option Mm) (hk41 : ∀ (x8 : Int32) (x9 : Int32) (x10 : Int32) (m11 : Mm), k41 x8 x9 x10 m11 = some mem2 → Jd p l e ({ frames := 1, cells := 0, slots := 0, locals := 21 }) s m args below meth c 7 (MQ below (PsV Lp ad cy dC dI mem2 A) args s 0 0 A) A dC dI cy Lp ad m11 41 [(0, .ref (ad (h0))), (1, .ref (ad (h1))), (3, .int (x8)), (4, .int (x9)), (5, .int (x10))] []) (n : Nat), ∀ (x12 : Int32) (x13 : Int32) (x14 : Int32) (x15 : Int32) (m16 : Mm), lop (fun _ _ _ _ _ => none) (f_X4_learn_B51 h0 h1 p2 k41) n x12 x13 x14 x15 m16 = some mem2 → Jd p l e ({ frames := 1, cells := 0, slots := 0, locals := 21 }) s m args below meth c 7 (MQ below (PsV Lp ad cy dC dI mem2 A) args s 0 0 A) A dC dI cy Lp ad m16 51 [(0, .ref (ad (h0))), (1, .ref (ad (h1))), (3, .int (x12)), (4, .int (x13)), (5, .int (x14)), (6, .int (x15))] [] := by
    intro k41 hk41 n
    induction n with
    | zero => intro _ _ _ _ _ h; cases h
    | succ n ih => intro a0 a1 a2 a3 a4 h; exact hJ51 k41 hk41 _ ih a0 a1 a2 a3 a4 h
  have hJ41 : ∀ (k41 : Int32 → Int32 → Int32 → Mm → Option Mm) (hk41 : ∀ (x8 : Int32) (x9 : Int32) (x10 : Int32) (m11 : Mm), k41 x8 x9 x10 m11 = some mem2 → Jd p l e ({ frames := 1, cells := 0, slots := 0, locals := 21 }) s m args below meth c 7 (MQ below (PsV Lp ad cy dC dI mem2 A) args s 0 0 A) A dC dI cy Lp ad m11 41 [(0, .ref (ad (h0))), (1, .ref (ad (h1))), (3, .int (x8)), (4, .int (x9)), (5, .int (x10))] []) (x8 : Int32) (x9 : Int32) (x10 : Int32) (m11 : Mm), f_X4_learn_B41 h0 h1 p2 k41 x8 x9 x10 m11 = some mem2 → Jd p l e ({ frames := 1, cells := 0, slots := 0, locals := 21 }) s m args below meth c 7 (MQ below (PsV Lp ad cy dC dI mem2 A) args s 0 0 A) A dC dI cy Lp ad m11 41 [(0, .ref (ad (h0))), (1, .ref (ad (h1))), (3, .int (x8)), (4, .int (x9)), (5, .int (x10))] [] := by
    intro k41 hk41 x8 x9 x10 m11 h
    unfold f_X4_learn_B41 at h
    refine r_iload X dX4_learn_41 4 rfl ?_
    refine r_iload X dX4_learn_43 3 rfl ?_
    refine r_icmp_ge (tgt := 115) X dX4_learn_45 (by decide) h (fun h => ?_) (fun h => ?_)
    · exact r_vret X rfl dX4_learn_115 h
    · refine r_iconst (v := (0)) X dX4_learn_48 (by decide) ?_
      refine r_istore (lv2 := [(6, .int ((0))), (0, .ref (ad (h0))), (1, .ref (ad (h1))), (3, .int (x8)), (4, .int (x9)), (5, .int (x10))]) X dX4_learn_49 (by decide) rfl ?_
      exact r_sub [1, 2, 3, 4, 5, 0] rfl (hL51 k41 hk41 4000 x8 x9 x10 ((0)) m11 h)
  have hL41 : ∀ (n : Nat), ∀ (x8 : Int32) (x9 : Int32) (x10 : Int32) (m11 : Mm), lop (fun _ _ _ _ => none) (f_X4_learn_B41 h0 h1 p2 ) n x8 x9 x10 m11 = some mem2 → Jd p l e ({ frames := 1, cells := 0, slots := 0, locals := 21 }) s m args below meth c 7 (MQ below (PsV Lp ad cy dC dI mem2 A) args s 0 0 A) A dC dI cy Lp ad m11 41 [(0, .ref (ad (h0))), (1, .ref (ad (h1))), (3, .int (x8)), (4, .int (x9)), (5, .int (x10))] [] := by
    intro  n
    induction n with
    | zero => intro _ _ _ _ h; cases h
    | succ n ih => intro a0 a1 a2 a3 h; exact hJ41  _ ih a0 a1 a2 a3 h
  have hJ31 : ∀ (x4 : Int32) (x5 : Int32) (m6 : Mm), f_X4_learn_J31 h0 h1 p2 x4 x5 m6 = some mem2 → Jd p l e ({ frames := 1, cells := 0, slots := 0, locals := 21 }) s m args below meth c 7 (MQ below (PsV Lp ad cy dC dI mem2 A) args s 0 0 A) A dC dI cy Lp ad m6 31 [(0, .ref (ad (h0))), (1, .ref (ad (h1))), (3, .int (x4))] [.int (x5)] := by
    intro x4 x5 m6 h
    unfold f_X4_learn_J31 at h
    refine r_istore (lv2 := [(4, .int (x5)), (0, .ref (ad (h0))), (1, .ref (ad (h1))), (3, .int (x4))]) X dX4_learn_31 (by decide) rfl ?_
    refine r_aload_n X dX4_learn_33 rfl 1 rfl ?_
    refine r_iconst (v := (0)) X dX4_learn_34 (by decide) ?_
    refine r_putI X (k := 1) (Lp_N e0 rfl) e0 rfl (by decide) ui_4 (by decide) uw1_125 tyX4_ok nmX4 rfl rfl rfl dX4_learn_35 ?_
    refine r_nmM h (fun m7 h => ?_)
    refine r_iconst (v := (0)) X dX4_learn_38 (by decide) ?_
    refine r_istore (lv2 := [(5, .int ((0))), (4, .int (x5)), (0, .ref (ad (h0))), (1, .ref (ad (h1))), (3, .int (x4))]) X dX4_learn_39 (by decide) rfl ?_
    exact r_sub [2, 3, 4, 1, 0] rfl (hL41 4000 x4 x5 ((0)) m7 h)
  have hJ17 : ∀ (x2 : Int32) (m3 : Mm), f_X4_learn_J17 h0 h1 p2 x2 m3 = some mem2 → Jd p l e ({ frames := 1, cells := 0, slots := 0, locals := 21 }) s m args below meth c 7 (MQ below (PsV Lp ad cy dC dI mem2 A) args s 0 0 A) A dC dI cy Lp ad m3 17 [(0, .ref (ad (h0))), (1, .ref (ad (h1)))] [.int (x2)] := by
    intro x2 m3 h
    unfold f_X4_learn_J17 at h
    refine r_istore_n (lv2 := [(3, .int (x2)), (0, .ref (ad (h0))), (1, .ref (ad (h1)))]) X dX4_learn_17 rfl (by decide) rfl ?_
    refine r_aload_n X dX4_learn_18 rfl 1 rfl ?_
    refine r_getI X (k := 3) (Lp_N e0 rfl) e0 rfl (by decide) ui_4 (by decide) uw1_130 rfl dX4_learn_19 ?_
    refine r_iconst (v := (2)) X dX4_learn_22 (by decide) ?_
    refine r_icmp_ne (tgt := 30) X dX4_learn_23 (by decide) h (fun h => ?_) (fun h => ?_)
    · refine r_iconst (v := (1)) X dX4_learn_30 (by decide) ?_
      exact r_sub [1, 2, 0] rfl (hJ31 x2 ((1)) m3 h)
    · refine r_iconst (v := (2)) X dX4_learn_26 (by decide) ?_
      refine r_goto (tgt := 31) X dX4_learn_27 (by decide) ?_
      exact r_sub [1, 2, 0] rfl (hJ31 x2 ((2)) m3 h)
  unfold f_X4_learn at h
  refine r_aload_n X dX4_learn_0 rfl 0 rfl ?_
  refine r_getI X (k := 3) (Lp_N e0 rfl) e0 rfl (by decide) ui_4 (by decide) uw1_130 rfl dX4_learn_1 ?_
  refine r_iconst (v := (1)) X dX4_learn_4 (by decide) ?_
  refine r_icmp_ne (tgt := 16) X dX4_learn_5 (by decide) h (fun h => ?_) (fun h => ?_)
  · refine r_iload_n X dX4_learn_16 rfl 2 rfl ?_
    exact r_sub [0, 1] rfl (hJ17 p2 mem h)
  · refine r_iconst (v := (3)) X dX4_learn_8 (by decide) ?_
    refine r_iload_n X dX4_learn_9 rfl 2 rfl ?_
    refine r_mmin X uw3_202 uw3_104 uw1_18 uw3_105 (Nat.le_of_ble_eq_true rfl) (Nat.le_of_ble_eq_true rfl) dX4_learn_10 ?_
    refine r_nmI h (fun x1 h => ?_)
    refine r_goto (tgt := 17) X dX4_learn_13 (by decide) ?_
    exact r_sub [0, 1] rfl (hJ17 x1 mem h)
noncomputable def f_X4_strikesOn_J31 (h0 : Nat) (p1 : Int32) (k4 : Int32 → Int32 → Int32 → Mm → Option (Int32 × Mm)) (x6 : Int32) (x7 : Int32) (x8 : Int32) (m9 : Mm) : Option (Int32 × Mm) :=
  bnd (x8 + (1)) fun x10 => k4 x6 x7 x10 m9
noncomputable def f_X4_strikesOn_B4 (h0 : Nat) (p1 : Int32) (k4 : Int32 → Int32 → Int32 → Mm → Option (Int32 × Mm)) (x1 : Int32) (x2 : Int32) (x3 : Int32) (m4 : Mm) : Option (Int32 × Mm) :=
  if (gI m4 h0 1) ≤ x3 then (some (x2, m4)) else (if ((18)) ≤ x3 then (some (x2, m4)) else (grd (inb x3 (Lp.2.1 (h0 + 1))) (if ¬ (gI m4 (h0 + 1) x3.toNatClampNeg) = x1 then (f_X4_strikesOn_J31 h0 p1 k4 x1 x2 x3 m4) else (bnd (x2 + (1)) fun x5 => f_X4_strikesOn_J31 h0 p1 k4 x1 x5 x3 m4))))
noncomputable def f_X4_strikesOn (h0 : Nat) (p1 : Int32) (mem : Mm) : Option (Int32 × Mm) :=
  lop (fun _ _ _ _ => none) (f_X4_strikesOn_B4 h0 p1 ) 4000 p1 ((0)) ((0)) mem
theorem dd_X4_strikesOn : yX4_strikesOn.cls = RX4 ∧ yX4_strikesOn.cls ≠ "java/lang/invoke/MethodHandle" ∧ yX4_strikesOn.cls ≠ "java/lang/invoke/VarHandle" ∧ (parseMethodDescriptor yX4_strikesOn.desc).map (fun d => d.parameters.length) = some 1 := by decide +kernel
set_option maxHeartbeats 4000000 in
set_option maxRecDepth 100000 in
theorem k_X4_strikesOn {l : Launch} {ad : Nat → Nat} {cy : Nat → ClassId} {dC : Nat → ClassId} {dI : Nat → Nat → Nat} {ks : (Nat → Nat) × (Nat → Nat)} {h0 : Nat} {p1 : Int32} {mem : Mm} {r2 : Int32} {mem2 : Mm} (e0 : Lp.1 h0 = 4) (h : f_X4_strikesOn h0 p1 mem = some (r2, mem2)) : CtI l Lp ad cy dC dI ks yX4_strikesOn cX4_strikesOn 4 (some .int) ({ frames := 0, cells := 0, slots := 0, locals := 0 }) [.ref (ad (h0)), .int (p1)] mem r2 mem2 := by
  refine CtI.of (cc := cX4_strikesOn) (maxL := 4) (ret := (some .int)) (own := RX4) rfl (by decide) (Nat.le_of_ble_eq_true rfl) ?_
  intro p e s m args below meth c A X
  have hts := X.2.2.2.2.1
  have hJ31 : ∀ (k4 : Int32 → Int32 → Int32 → Mm → Option (Int32 × Mm)) (hk4 : ∀ (x1 : Int32) (x2 : Int32) (x3 : Int32) (m4 : Mm), k4 x1 x2 x3 m4 = some (r2, mem2) → Jd p l e ({ frames := 0, cells := 0, slots := 0, locals := 0 }) s m args below meth c 4 (MQ below (PsI Lp ad cy dC dI r2 mem2 A) args s 0 0 A) A dC dI cy Lp ad m4 4 [(0, .ref (ad (h0))), (1, .int (x1)), (2, .int (x2)), (3, .int (x3))] []) (x6 : Int32) (x7 : Int32) (x8 : Int32) (m9 : Mm), f_X4_strikesOn_J31 h0 p1 k4 x6 x7 x8 m9 = some (r2, mem2) → Jd p l e ({ frames := 0, cells := 0, slots := 0, locals := 0 }) s m args below meth c 4 (MQ below (PsI Lp ad cy dC dI r2 mem2 A) args s 0 0 A) A dC dI cy Lp ad m9 31 [(0, .ref (ad (h0))), (1, .int (x6)), (2, .int (x7)), (3, .int (x8))] [] := by
    intro k4 hk4 x6 x7 x8 m9 h
    unfold f_X4_strikesOn_J31 at h
    refine r_inc h (fun x10 e9 h => ?_)
    refine r_iinc (v := x10) (lv2 := [(3, .int (x10)), (0, .ref (ad (h0))), (1, .int (x6)), (2, .int (x7))]) X dX4_strikesOn_31 3 rfl (by rw [e9]; rfl) (by decide) rfl ?_
    refine r_goto (tgt := 4) X dX4_strikesOn_34 (by decide) ?_
    exact r_sub [1, 2, 3, 0] rfl (hk4 x6 x7 x10 m9 h)
  have hJ4 : ∀ (k4 : Int32 → Int32 → Int32 → Mm → Option (Int32 × Mm)) (hk4 : ∀ (x1 : Int32) (x2 : Int32) (x3 : Int32) (m4 : Mm), k4 x1 x2 x3 m4 = some (r2, mem2) → Jd p l e ({ frames := 0, cells := 0, slots := 0, locals := 0 }) s m args below meth c 4 (MQ below (PsI Lp ad cy dC dI r2 mem2 A) args s 0 0 A) A dC dI cy Lp ad m4 4 [(0, .ref (ad (h0))), (1, .int (x1)), (2, .int (x2)), (3, .int (x3))] []) (x1 : Int32) (x2 : Int32) (x3 : Int32) (m4 : Mm), f_X4_strikesOn_B4 h0 p1 k4 x1 x2 x3 m4 = some (r2, mem2) → Jd p l e ({ frames := 0, cells := 0, slots := 0, locals := 0 }) s m args below meth c 4 (MQ below (PsI Lp ad cy dC dI r2 mem2 A) args s 0 0 A) A dC dI cy Lp ad m4 4 [(0, .ref (ad (h0))), (1, .int (x1)), (2, .int (x2)), (3, .int (x3))] [] := by
    intro k4 hk4 x1 x2 x3 m4 h
    unfold f_X4_strikesOn_B4 at h
    refine r_iload_n X dX4_strikesOn_4 rfl 3 rfl ?_
    refine r_aload_n X dX4_strikesOn_5 rfl 0 rfl ?_
    refine r_getI X (k := 1) (Lp_N e0 rfl) e0 rfl (by decide) ui_4 (by decide) uw1_125 rfl dX4_strikesOn_6 ?_
    refine r_icmp_ge (tgt := 37) X dX4_strikesOn_9 (by decide) h (fun h => ?_) (fun h => ?_)
    · refine r_iload_n X dX4_strikesOn_37 rfl 2 rfl ?_
      exact r_iret2 X rfl dX4_strikesOn_38 h
    · refine r_iload_n X dX4_strikesOn_12 rfl 3 rfl ?_
      refine r_bipush (v := (18)) X dX4_strikesOn_13 (by decide) ?_
      refine r_icmp_ge (tgt := 37) X dX4_strikesOn_15 (by decide) h (fun h => ?_) (fun h => ?_)
      · refine r_iload_n X dX4_strikesOn_37 rfl 2 rfl ?_
        exact r_iret2 X rfl dX4_strikesOn_38 h
      · refine r_aload_n X dX4_strikesOn_18 rfl 0 rfl ?_
        refine r_getF X (k := 0) (of := 1) rfl (Lp_N e0 rfl) e0 rfl (by decide) ui_4 (by decide) uw1_123 rfl dX4_strikesOn_19 ?_
        refine r_iload_n X dX4_strikesOn_22 rfl 3 rfl ?_
        refine r_iald X (Lp_N (Lp_4_0 e0) rfl) (Lp_4_0 e0) h dX4_strikesOn_23 (fun h => ?_)
        refine r_iload_n X dX4_strikesOn_24 rfl 1 rfl ?_
        refine r_icmp_ne (tgt := 31) X dX4_strikesOn_25 (by decide) h (fun h => ?_) (fun h => ?_)
        · exact r_sub [0, 1, 2, 3] rfl (hJ31 k4 hk4 x1 x2 x3 m4 h)
        · refine r_inc h (fun x5 e9 h => ?_)
          refine r_iinc (v := x5) (lv2 := [(2, .int (x5)), (0, .ref (ad (h0))), (1, .int (x1)), (3, .int (x3))]) X dX4_strikesOn_28 2 rfl (by rw [e9]; rfl) (by decide) rfl ?_
          exact r_sub [1, 2, 0, 3] rfl (hJ31 k4 hk4 x1 x5 x3 m4 h)
  have hL4 : ∀ (n : Nat), ∀ (x1 : Int32) (x2 : Int32) (x3 : Int32) (m4 : Mm), lop (fun _ _ _ _ => none) (f_X4_strikesOn_B4 h0 p1 ) n x1 x2 x3 m4 = some (r2, mem2) → Jd p l e ({ frames := 0, cells := 0, slots := 0, locals := 0 }) s m args below meth c 4 (MQ below (PsI Lp ad cy dC dI r2 mem2 A) args s 0 0 A) A dC dI cy Lp ad m4 4 [(0, .ref (ad (h0))), (1, .int (x1)), (2, .int (x2)), (3, .int (x3))] [] := by
    intro  n
    induction n with
    | zero => intro _ _ _ _ h; cases h
    | succ n ih => intro a0 a1 a2 a3 h; exact hJ4  _ ih a0 a1 a2 a3 h
  unfold f_X4_strikesOn at h
  refine r_iconst (v := (0)) X dX4_strikesOn_0 (by decide) ?_
  refine r_istore_n (lv2 := [(2, .int ((0))), (0, .ref (ad (h0))), (1, .int (p1))]) X dX4_strikesOn_1 rfl (by decide) rfl ?_
  refine r_iconst (v := (0)) X dX4_strikesOn_2 (by decide) ?_
  refine r_istore_n (lv2 := [(3, .int ((0))), (2, .int ((0))), (0, .ref (ad (h0))), (1, .int (p1))]) X dX4_strikesOn_3 rfl (by decide) rfl ?_
  exact r_sub [2, 3, 1, 0] rfl (hL4 4000 p1 ((0)) ((0)) mem h)
noncomputable def f_X5_wrong (h0 : Nat) (p1 : Int32) (mem : Mm) : Option (Int32 × Mm) :=
  bnd (sI mem h0 2 (p1 + (((16)) * (gI mem (h0 - 2) 3)))) fun m1 => grd (bok ((0))) (some ((0), m1))
theorem dd_X5_wrong : yX5_wrong.cls = RX5 ∧ yX5_wrong.cls ≠ "java/lang/invoke/MethodHandle" ∧ yX5_wrong.cls ≠ "java/lang/invoke/VarHandle" ∧ (parseMethodDescriptor yX5_wrong.desc).map (fun d => d.parameters.length) = some 1 := by decide +kernel
set_option maxHeartbeats 4000000 in
set_option maxRecDepth 100000 in
theorem k_X5_wrong {l : Launch} {ad : Nat → Nat} {cy : Nat → ClassId} {dC : Nat → ClassId} {dI : Nat → Nat → Nat} {ks : (Nat → Nat) × (Nat → Nat)} {h0 : Nat} {p1 : Int32} {mem : Mm} {r2 : Int32} {mem2 : Mm} (e0 : Lp.1 h0 = 5) (h : f_X5_wrong h0 p1 mem = some (r2, mem2)) : CtI l Lp ad cy dC dI ks yX5_wrong cX5_wrong 2 (some .boolean) ({ frames := 0, cells := 0, slots := 0, locals := 0 }) [.ref (ad (h0)), .int (p1)] mem r2 mem2 := by
  refine CtI.of (cc := cX5_wrong) (maxL := 2) (ret := (some .boolean)) (own := RX5) rfl (by decide) (Nat.le_of_ble_eq_true rfl) ?_
  intro p e s m args below meth c A X
  have hts := X.2.2.2.2.1
  have hl45 := X.2.2.2.2.2.2.1 (.fieldLinkNest "StationPiano$Reader" 45 "StationPiano$Tape" "place" "I" "StationPiano") (List.mem_of_getElem? (i := 2) rfl)
  unfold f_X5_wrong at h
  refine r_aload_n X dX5_wrong_0 rfl 0 rfl ?_
  refine r_iload_n X dX5_wrong_1 rfl 1 rfl ?_
  refine r_bipush (v := (16)) X dX5_wrong_2 (by decide) ?_
  refine r_aload_n X dX5_wrong_4 rfl 0 rfl ?_
  refine r_getB X (k := 0) (of := 2) rfl (Lp_N e0 rfl) e0 rfl (by decide) ui_5 (by decide) uw1_73 rfl dX5_wrong_5 ?_
  refine r_getIN X (k := 3) (Lp_N (Lp_5_0 e0) rfl) (Lp_5_0 e0) rfl (by decide) ui_9 (by decide) hl45 rfl dX5_wrong_8 ?_
  refine r_imul X dX5_wrong_11 ?_
  refine r_iadd X dX5_wrong_12 ?_
  refine r_putI X (k := 2) (Lp_N e0 rfl) e0 rfl (by decide) ui_5 (by decide) uw1_75 tyX5_ok nmX5 rfl rfl rfl dX5_wrong_13 ?_
  refine r_nmM h (fun m1 h => ?_)
  refine r_iconst (v := (0)) X dX5_wrong_16 (by decide) ?_
  exact r_zret2 X rfl dX5_wrong_17 h
noncomputable def f_X9_signAt (h0 : Nat) (p1 : Int32) (mem : Mm) : Option (Int32 × Mm) :=
  if p1 < 0 then (some ((0), mem)) else (if (gI mem h0 1) ≤ p1 then (some ((0), mem)) else (if ((1000)) ≤ p1 then (some ((0), mem)) else (grd (inb p1 (Lp.2.1 (h0 + 1))) (some (gI mem (h0 + 1) p1.toNatClampNeg, mem)))))
theorem dd_X9_signAt : yX9_signAt.cls = RX9 ∧ yX9_signAt.cls ≠ "java/lang/invoke/MethodHandle" ∧ yX9_signAt.cls ≠ "java/lang/invoke/VarHandle" ∧ (parseMethodDescriptor yX9_signAt.desc).map (fun d => d.parameters.length) = some 1 := by decide +kernel
set_option maxHeartbeats 4000000 in
set_option maxRecDepth 100000 in
theorem k_X9_signAt {l : Launch} {ad : Nat → Nat} {cy : Nat → ClassId} {dC : Nat → ClassId} {dI : Nat → Nat → Nat} {ks : (Nat → Nat) × (Nat → Nat)} {h0 : Nat} {p1 : Int32} {mem : Mm} {r2 : Int32} {mem2 : Mm} (e0 : Lp.1 h0 = 9) (h : f_X9_signAt h0 p1 mem = some (r2, mem2)) : CtI l Lp ad cy dC dI ks yX9_signAt cX9_signAt 2 (some .int) ({ frames := 0, cells := 0, slots := 0, locals := 0 }) [.ref (ad (h0)), .int (p1)] mem r2 mem2 := by
  refine CtI.of (cc := cX9_signAt) (maxL := 2) (ret := (some .int)) (own := RX9) rfl (by decide) (Nat.le_of_ble_eq_true rfl) ?_
  intro p e s m args below meth c A X
  have hts := X.2.2.2.2.1
  unfold f_X9_signAt at h
  refine r_iload_n X dX9_signAt_0 rfl 1 rfl ?_
  refine r_if_lt (tgt := 28) X dX9_signAt_1 (by decide) h (fun h => ?_) (fun h => ?_)
  · refine r_iconst (v := (0)) X dX9_signAt_28 (by decide) ?_
    exact r_iret2 X rfl dX9_signAt_29 h
  · refine r_iload_n X dX9_signAt_4 rfl 1 rfl ?_
    refine r_aload_n X dX9_signAt_5 rfl 0 rfl ?_
    refine r_getI X (k := 1) (Lp_N e0 rfl) e0 rfl (by decide) ui_9 (by decide) uw1_40 rfl dX9_signAt_6 ?_
    refine r_icmp_ge (tgt := 28) X dX9_signAt_9 (by decide) h (fun h => ?_) (fun h => ?_)
    · refine r_iconst (v := (0)) X dX9_signAt_28 (by decide) ?_
      exact r_iret2 X rfl dX9_signAt_29 h
    · refine r_iload_n X dX9_signAt_12 rfl 1 rfl ?_
      refine r_sipush (v := (1000)) X dX9_signAt_13 (by decide) ?_
      refine r_icmp_ge (tgt := 28) X dX9_signAt_16 (by decide) h (fun h => ?_) (fun h => ?_)
      · refine r_iconst (v := (0)) X dX9_signAt_28 (by decide) ?_
        exact r_iret2 X rfl dX9_signAt_29 h
      · refine r_aload_n X dX9_signAt_19 rfl 0 rfl ?_
        refine r_getF X (k := 0) (of := 1) rfl (Lp_N e0 rfl) e0 rfl (by decide) ui_9 (by decide) uw1_39 rfl dX9_signAt_20 ?_
        refine r_iload_n X dX9_signAt_23 rfl 1 rfl ?_
        refine r_bald X (Lp_N (Lp_9_0 e0) rfl) (Lp_9_0 e0) h dX9_signAt_24 (fun h => ?_)
        refine r_goto (tgt := 29) X dX9_signAt_25 (by decide) ?_
        exact r_iret2 X rfl dX9_signAt_29 h
noncomputable def f_X5_stepOf (p0 : Int32) (p1 : Int32) (mem : Mm) : Option (Int32 × Mm) :=
  if p1 = (0) then (if ¬ p0 = ((21)) then (if ¬ p0 = ((22)) then (some ((0), mem)) else (some ((-13), mem))) else (some ((-12), mem))) else (if p1 = (1) then (if ¬ p0 = ((60)) then (if ¬ p0 = ((61)) then (some ((0), mem)) else (some ((-15), mem))) else (some ((-14), mem))) else (if p1 = (2) then (if ¬ p0 = ((43)) then (if ¬ p0 = ((45)) then (some ((0), mem)) else (some ((-17), mem))) else (some ((-16), mem))) else (if ¬ p0 = ((42)) then (some ((0), mem)) else (some ((-18), mem)))))
theorem dd_X5_stepOf : yX5_stepOf.cls ≠ "java/lang/invoke/MethodHandle" ∧ yX5_stepOf.cls ≠ "java/lang/invoke/VarHandle" ∧ (parseMethodDescriptor yX5_stepOf.desc).map (fun d => d.parameters.length) = some 2 := by decide +kernel
set_option maxHeartbeats 4000000 in
set_option maxRecDepth 100000 in
theorem k_X5_stepOf {l : Launch} {ad : Nat → Nat} {cy : Nat → ClassId} {dC : Nat → ClassId} {dI : Nat → Nat → Nat} {ks : (Nat → Nat) × (Nat → Nat)} {p0 : Int32} {p1 : Int32} {mem : Mm} {r2 : Int32} {mem2 : Mm}  (h : f_X5_stepOf p0 p1 mem = some (r2, mem2)) : CtI l Lp ad cy dC dI ks yX5_stepOf cX5_stepOf 2 (some .int) ({ frames := 0, cells := 0, slots := 0, locals := 0 }) [.int (p0), .int (p1)] mem r2 mem2 := by
  refine CtI.of (cc := cX5_stepOf) (maxL := 2) (ret := (some .int)) (own := RX5) rfl (by decide) (Nat.le_of_ble_eq_true rfl) ?_
  intro p e s m args below meth c A X
  have hts := X.2.2.2.2.1
  unfold f_X5_stepOf at h
  refine r_iload_n X dX5_stepOf_0 rfl 1 rfl ?_
  by_cases c1_0 : p1 = (0)
  · have h := ite_p c1_0 h
    refine r_tin (off := 27) (tgt := 28) X dX5_stepOf_1 (by rw [c1_0]; decide) (by rw [c1_0]; decide) (by rw [c1_0]; rfl) (by decide) ?_
    refine r_iload_n X dX5_stepOf_28 rfl 0 rfl ?_
    refine r_bipush (v := (21)) X dX5_stepOf_29 (by decide) ?_
    refine r_icmp_ne (tgt := 39) X dX5_stepOf_31 (by decide) h (fun h => ?_) (fun h => ?_)
    · refine r_iload_n X dX5_stepOf_39 rfl 0 rfl ?_
      refine r_bipush (v := (22)) X dX5_stepOf_40 (by decide) ?_
      refine r_icmp_ne (tgt := 50) X dX5_stepOf_42 (by decide) h (fun h => ?_) (fun h => ?_)
      · refine r_iconst (v := (0)) X dX5_stepOf_50 (by decide) ?_
        exact r_iret2 X rfl dX5_stepOf_51 h
      · refine r_bipush (v := (-13)) X dX5_stepOf_45 (by decide) ?_
        refine r_goto (tgt := 51) X dX5_stepOf_47 (by decide) ?_
        exact r_iret2 X rfl dX5_stepOf_51 h
    · refine r_bipush (v := (-12)) X dX5_stepOf_34 (by decide) ?_
      refine r_goto (tgt := 51) X dX5_stepOf_36 (by decide) ?_
      exact r_iret2 X rfl dX5_stepOf_51 h
  have h := ite_n c1_0 h
  by_cases c1_1 : p1 = (1)
  · have h := ite_p c1_1 h
    refine r_tin (off := 51) (tgt := 52) X dX5_stepOf_1 (by rw [c1_1]; decide) (by rw [c1_1]; decide) (by rw [c1_1]; rfl) (by decide) ?_
    refine r_iload_n X dX5_stepOf_52 rfl 0 rfl ?_
    refine r_bipush (v := (60)) X dX5_stepOf_53 (by decide) ?_
    refine r_icmp_ne (tgt := 63) X dX5_stepOf_55 (by decide) h (fun h => ?_) (fun h => ?_)
    · refine r_iload_n X dX5_stepOf_63 rfl 0 rfl ?_
      refine r_bipush (v := (61)) X dX5_stepOf_64 (by decide) ?_
      refine r_icmp_ne (tgt := 74) X dX5_stepOf_66 (by decide) h (fun h => ?_) (fun h => ?_)
      · refine r_iconst (v := (0)) X dX5_stepOf_74 (by decide) ?_
        exact r_iret2 X rfl dX5_stepOf_75 h
      · refine r_bipush (v := (-15)) X dX5_stepOf_69 (by decide) ?_
        refine r_goto (tgt := 75) X dX5_stepOf_71 (by decide) ?_
        exact r_iret2 X rfl dX5_stepOf_75 h
    · refine r_bipush (v := (-14)) X dX5_stepOf_58 (by decide) ?_
      refine r_goto (tgt := 75) X dX5_stepOf_60 (by decide) ?_
      exact r_iret2 X rfl dX5_stepOf_75 h
  have h := ite_n c1_1 h
  by_cases c1_2 : p1 = (2)
  · have h := ite_p c1_2 h
    refine r_tin (off := 75) (tgt := 76) X dX5_stepOf_1 (by rw [c1_2]; decide) (by rw [c1_2]; decide) (by rw [c1_2]; rfl) (by decide) ?_
    refine r_iload_n X dX5_stepOf_76 rfl 0 rfl ?_
    refine r_bipush (v := (43)) X dX5_stepOf_77 (by decide) ?_
    refine r_icmp_ne (tgt := 87) X dX5_stepOf_79 (by decide) h (fun h => ?_) (fun h => ?_)
    · refine r_iload_n X dX5_stepOf_87 rfl 0 rfl ?_
      refine r_bipush (v := (45)) X dX5_stepOf_88 (by decide) ?_
      refine r_icmp_ne (tgt := 98) X dX5_stepOf_90 (by decide) h (fun h => ?_) (fun h => ?_)
      · refine r_iconst (v := (0)) X dX5_stepOf_98 (by decide) ?_
        exact r_iret2 X rfl dX5_stepOf_99 h
      · refine r_bipush (v := (-17)) X dX5_stepOf_93 (by decide) ?_
        refine r_goto (tgt := 99) X dX5_stepOf_95 (by decide) ?_
        exact r_iret2 X rfl dX5_stepOf_99 h
    · refine r_bipush (v := (-16)) X dX5_stepOf_82 (by decide) ?_
      refine r_goto (tgt := 99) X dX5_stepOf_84 (by decide) ?_
      exact r_iret2 X rfl dX5_stepOf_99 h
  have h := ite_n c1_2 h
  refine r_tout (tgt := 100) X dX5_stepOf_1 (tsw_out 3 (fun j hj => by rcases (show j = 0 ∨ j = 1 ∨ j = 2 by omega) with rfl | rfl | rfl <;> assumption) (by decide)) (by decide) ?_
  refine r_iload_n X dX5_stepOf_100 rfl 0 rfl ?_
  refine r_bipush (v := (42)) X dX5_stepOf_101 (by decide) ?_
  refine r_icmp_ne (tgt := 111) X dX5_stepOf_103 (by decide) h (fun h => ?_) (fun h => ?_)
  · refine r_iconst (v := (0)) X dX5_stepOf_111 (by decide) ?_
    exact r_iret2 X rfl dX5_stepOf_112 h
  · refine r_bipush (v := (-18)) X dX5_stepOf_106 (by decide) ?_
    refine r_goto (tgt := 112) X dX5_stepOf_108 (by decide) ?_
    exact r_iret2 X rfl dX5_stepOf_112 h
noncomputable def f_X5_isName (h0 : Nat) (mem : Mm) : Option (Int32 × Mm) :=
  if (gI mem (h0 - 2) 2) < ((23)) then (grd (bok ((0))) (some ((0), mem))) else (if ((29)) < (gI mem (h0 - 2) 2) then (grd (bok ((0))) (some ((0), mem))) else (grd (bok ((1))) (some ((1), mem))))
theorem dd_X5_isName : yX5_isName.cls = RX5 ∧ yX5_isName.cls ≠ "java/lang/invoke/MethodHandle" ∧ yX5_isName.cls ≠ "java/lang/invoke/VarHandle" ∧ (parseMethodDescriptor yX5_isName.desc).map (fun d => d.parameters.length) = some 0 := by decide +kernel
set_option maxHeartbeats 4000000 in
set_option maxRecDepth 100000 in
theorem k_X5_isName {l : Launch} {ad : Nat → Nat} {cy : Nat → ClassId} {dC : Nat → ClassId} {dI : Nat → Nat → Nat} {ks : (Nat → Nat) × (Nat → Nat)} {h0 : Nat} {mem : Mm} {r2 : Int32} {mem2 : Mm} (e0 : Lp.1 h0 = 5) (h : f_X5_isName h0 mem = some (r2, mem2)) : CtI l Lp ad cy dC dI ks yX5_isName cX5_isName 1 (some .boolean) ({ frames := 0, cells := 0, slots := 0, locals := 0 }) [.ref (ad (h0))] mem r2 mem2 := by
  refine CtI.of (cc := cX5_isName) (maxL := 1) (ret := (some .boolean)) (own := RX5) rfl (by decide) (Nat.le_of_ble_eq_true rfl) ?_
  intro p e s m args below meth c A X
  have hts := X.2.2.2.2.1
  have hl29 := X.2.2.2.2.2.2.1 (.fieldLinkNest "StationPiano$Reader" 29 "StationPiano$Tape" "token" "I" "StationPiano") (List.mem_of_getElem? (i := 1) rfl)
  unfold f_X5_isName at h
  refine r_aload_n X dX5_isName_0 rfl 0 rfl ?_
  refine r_getB X (k := 0) (of := 2) rfl (Lp_N e0 rfl) e0 rfl (by decide) ui_5 (by decide) uw1_73 rfl dX5_isName_1 ?_
  refine r_getIN X (k := 2) (Lp_N (Lp_5_0 e0) rfl) (Lp_5_0 e0) rfl (by decide) ui_9 (by decide) hl29 rfl dX5_isName_4 ?_
  refine r_bipush (v := (23)) X dX5_isName_7 (by decide) ?_
  refine r_icmp_lt (tgt := 28) X dX5_isName_9 (by decide) h (fun h => ?_) (fun h => ?_)
  · refine r_iconst (v := (0)) X dX5_isName_28 (by decide) ?_
    exact r_zret2 X rfl dX5_isName_29 h
  · refine r_aload_n X dX5_isName_12 rfl 0 rfl ?_
    refine r_getB X (k := 0) (of := 2) rfl (Lp_N e0 rfl) e0 rfl (by decide) ui_5 (by decide) uw1_73 rfl dX5_isName_13 ?_
    refine r_getIN X (k := 2) (Lp_N (Lp_5_0 e0) rfl) (Lp_5_0 e0) rfl (by decide) ui_9 (by decide) hl29 rfl dX5_isName_16 ?_
    refine r_bipush (v := (29)) X dX5_isName_19 (by decide) ?_
    refine r_icmp_gt (tgt := 28) X dX5_isName_21 (by decide) h (fun h => ?_) (fun h => ?_)
    · refine r_iconst (v := (0)) X dX5_isName_28 (by decide) ?_
      exact r_zret2 X rfl dX5_isName_29 h
    · refine r_iconst (v := (1)) X dX5_isName_24 (by decide) ?_
      refine r_goto (tgt := 29) X dX5_isName_25 (by decide) ?_
      exact r_zret2 X rfl dX5_isName_29 h
noncomputable def f_X7_tuneNamed_B2 (h0 : Nat) (p1 : Int64) (k2 : Int64 → Int32 → Mm → Option (Int32 × Mm)) (x1 : Int64) (x2 : Int32) (m3 : Mm) : Option (Int32 × Mm) :=
  if (gI m3 h0 6) ≤ x2 then (some ((-1), m3)) else (if ((5)) ≤ x2 then (some ((-1), m3)) else (grd (inb x2 (Lp.2.1 (h0 + 1))) (if ¬ (lg_cmp (gJ m3 (h0 + 1) x2.toNatClampNeg) x1) = 0 then (bnd (x2 + (1)) fun x4 => k2 x1 x4 m3) else (some (x2, m3)))))
noncomputable def f_X7_tuneNamed (h0 : Nat) (p1 : Int64) (mem : Mm) : Option (Int32 × Mm) :=
  lop (fun _ _ _ => none) (f_X7_tuneNamed_B2 h0 p1 ) 4000 p1 ((0)) mem
theorem dd_X7_tuneNamed : yX7_tuneNamed.cls = RX7 ∧ yX7_tuneNamed.cls ≠ "java/lang/invoke/MethodHandle" ∧ yX7_tuneNamed.cls ≠ "java/lang/invoke/VarHandle" ∧ (parseMethodDescriptor yX7_tuneNamed.desc).map (fun d => d.parameters.length) = some 1 := by decide +kernel
set_option maxHeartbeats 4000000 in
set_option maxRecDepth 100000 in
theorem k_X7_tuneNamed {l : Launch} {ad : Nat → Nat} {cy : Nat → ClassId} {dC : Nat → ClassId} {dI : Nat → Nat → Nat} {ks : (Nat → Nat) × (Nat → Nat)} {h0 : Nat} {p1 : Int64} {mem : Mm} {r2 : Int32} {mem2 : Mm} (e0 : Lp.1 h0 = 7) (h : f_X7_tuneNamed h0 p1 mem = some (r2, mem2)) : CtI l Lp ad cy dC dI ks yX7_tuneNamed cX7_tuneNamed 4 (some .int) ({ frames := 0, cells := 0, slots := 0, locals := 0 }) [.ref (ad (h0)), .long (p1)] mem r2 mem2 := by
  refine CtI.of (cc := cX7_tuneNamed) (maxL := 4) (ret := (some .int)) (own := RX7) rfl (by decide) (Nat.le_of_ble_eq_true rfl) ?_
  intro p e s m args below meth c A X
  have hts := X.2.2.2.2.1
  have hJ2 : ∀ (k2 : Int64 → Int32 → Mm → Option (Int32 × Mm)) (hk2 : ∀ (x1 : Int64) (x2 : Int32) (m3 : Mm), k2 x1 x2 m3 = some (r2, mem2) → Jd p l e ({ frames := 0, cells := 0, slots := 0, locals := 0 }) s m args below meth c 4 (MQ below (PsI Lp ad cy dC dI r2 mem2 A) args s 0 0 A) A dC dI cy Lp ad m3 2 [(0, .ref (ad (h0))), (1, .long (x1)), (3, .int (x2))] []) (x1 : Int64) (x2 : Int32) (m3 : Mm), f_X7_tuneNamed_B2 h0 p1 k2 x1 x2 m3 = some (r2, mem2) → Jd p l e ({ frames := 0, cells := 0, slots := 0, locals := 0 }) s m args below meth c 4 (MQ below (PsI Lp ad cy dC dI r2 mem2 A) args s 0 0 A) A dC dI cy Lp ad m3 2 [(0, .ref (ad (h0))), (1, .long (x1)), (3, .int (x2))] [] := by
    intro k2 hk2 x1 x2 m3 h
    unfold f_X7_tuneNamed_B2 at h
    refine r_iload_n X dX7_tuneNamed_2 rfl 2 rfl ?_
    refine r_aload_n X dX7_tuneNamed_3 rfl 0 rfl ?_
    refine r_getI X (k := 6) (Lp_N e0 rfl) e0 rfl (by decide) ui_7 (by decide) uw1_183 rfl dX7_tuneNamed_4 ?_
    refine r_icmp_ge (tgt := 34) X dX7_tuneNamed_7 (by decide) h (fun h => ?_) (fun h => ?_)
    · refine r_iconst (v := (-1)) X dX7_tuneNamed_34 (by decide) ?_
      exact r_iret2 X rfl dX7_tuneNamed_35 h
    · refine r_iload_n X dX7_tuneNamed_10 rfl 2 rfl ?_
      refine r_iconst (v := (5)) X dX7_tuneNamed_11 (by decide) ?_
      refine r_icmp_ge (tgt := 34) X dX7_tuneNamed_12 (by decide) h (fun h => ?_) (fun h => ?_)
      · refine r_iconst (v := (-1)) X dX7_tuneNamed_34 (by decide) ?_
        exact r_iret2 X rfl dX7_tuneNamed_35 h
      · refine r_aload_n X dX7_tuneNamed_15 rfl 0 rfl ?_
        refine r_getF X (k := 0) (of := 1) rfl (Lp_N e0 rfl) e0 rfl (by decide) ui_7 (by decide) uw1_166 rfl dX7_tuneNamed_16 ?_
        refine r_iload_n X dX7_tuneNamed_19 rfl 2 rfl ?_
        refine r_lald X (Lp_N (Lp_7_0 e0) rfl) (Lp_7_0 e0) h dX7_tuneNamed_20 (fun h => ?_)
        refine r_lload_n X dX7_tuneNamed_21 rfl 1 rfl ?_
        refine r_lcmp X dX7_tuneNamed_22 ?_
        refine r_if_ne (tgt := 28) X dX7_tuneNamed_23 (by decide) h (fun h => ?_) (fun h => ?_)
        · refine r_inc h (fun x4 e9 h => ?_)
          refine r_iinc (v := x4) (lv2 := [(3, .int (x4)), (0, .ref (ad (h0))), (1, .long (x1))]) X dX7_tuneNamed_28 2 rfl (by rw [e9]; rfl) (by decide) rfl ?_
          refine r_goto (tgt := 2) X dX7_tuneNamed_31 (by decide) ?_
          exact r_sub [1, 2, 0] rfl (hk2 x1 x4 m3 h)
        · refine r_iload_n X dX7_tuneNamed_26 rfl 2 rfl ?_
          exact r_iret2 X rfl dX7_tuneNamed_27 h
  have hL2 : ∀ (n : Nat), ∀ (x1 : Int64) (x2 : Int32) (m3 : Mm), lop (fun _ _ _ => none) (f_X7_tuneNamed_B2 h0 p1 ) n x1 x2 m3 = some (r2, mem2) → Jd p l e ({ frames := 0, cells := 0, slots := 0, locals := 0 }) s m args below meth c 4 (MQ below (PsI Lp ad cy dC dI r2 mem2 A) args s 0 0 A) A dC dI cy Lp ad m3 2 [(0, .ref (ad (h0))), (1, .long (x1)), (3, .int (x2))] [] := by
    intro  n
    induction n with
    | zero => intro _ _ _ h; cases h
    | succ n ih => intro a0 a1 a2 h; exact hJ2  _ ih a0 a1 a2 h
  unfold f_X7_tuneNamed at h
  refine r_iconst (v := (0)) X dX7_tuneNamed_0 (by decide) ?_
  refine r_istore_n (lv2 := [(3, .int ((0))), (0, .ref (ad (h0))), (1, .long (p1))]) X dX7_tuneNamed_1 rfl (by decide) rfl ?_
  exact r_sub [1, 2, 0] rfl (hL2 4000 p1 ((0)) mem h)
noncomputable def f_X7_hasName_J38 (h0 : Nat) (p1 : Int64) (x6 : Int64) (m7 : Mm) : Option (Int32 × Mm) :=
  bdI (f_X7_tuneNamed h0 x6 m7) fun x9 m8 => if x9 = ((-1)) then (grd (bok ((0))) (some ((0), m8))) else (grd (bok ((1))) (some ((1), m8)))
noncomputable def f_X7_hasName_B2 (h0 : Nat) (p1 : Int64) (k2 : Int64 → Int32 → Mm → Option (Int32 × Mm)) (x1 : Int64) (x2 : Int32) (m3 : Mm) : Option (Int32 × Mm) :=
  if (gI m3 h0 7) ≤ x2 then (f_X7_hasName_J38 h0 p1 x1 m3) else (if ((7)) ≤ x2 then (f_X7_hasName_J38 h0 p1 x1 m3) else (grd (inb x2 (Lp.2.1 (h0 + 9))) (bnd (h0 + 9 + (7 + 2 * x2.toNatClampNeg)) fun q4 => if ¬ (lg_cmp (gJ m3 q4 2) x1) = 0 then (bnd (x2 + (1)) fun x5 => k2 x1 x5 m3) else (grd (bok ((1))) (some ((1), m3))))))
noncomputable def f_X7_hasName (h0 : Nat) (p1 : Int64) (mem : Mm) : Option (Int32 × Mm) :=
  lop (fun _ _ _ => none) (f_X7_hasName_B2 h0 p1 ) 4000 p1 ((0)) mem
theorem dd_X7_hasName : yX7_hasName.cls = RX7 ∧ yX7_hasName.cls ≠ "java/lang/invoke/MethodHandle" ∧ yX7_hasName.cls ≠ "java/lang/invoke/VarHandle" ∧ (parseMethodDescriptor yX7_hasName.desc).map (fun d => d.parameters.length) = some 1 := by decide +kernel
set_option maxHeartbeats 4000000 in
set_option maxRecDepth 100000 in
theorem k_X7_hasName {l : Launch} {ad : Nat → Nat} {cy : Nat → ClassId} {dC : Nat → ClassId} {dI : Nat → Nat → Nat} {ks : (Nat → Nat) × (Nat → Nat)} {h0 : Nat} {p1 : Int64} {mem : Mm} {r2 : Int32} {mem2 : Mm} (e0 : Lp.1 h0 = 7) (h : f_X7_hasName h0 p1 mem = some (r2, mem2)) : CtI l Lp ad cy dC dI ks yX7_hasName cX7_hasName 4 (some .boolean) ({ frames := 1, cells := 0, slots := 0, locals := 23 }) [.ref (ad (h0)), .long (p1)] mem r2 mem2 := by
  refine CtI.of (cc := cX7_hasName) (maxL := 4) (ret := (some .boolean)) (own := RX7) rfl (by decide) (Nat.le_of_ble_eq_true rfl) ?_
  intro p e s m args below meth c A X
  have hts := X.2.2.2.2.1
  have hl71 := X.2.2.2.2.2.2.1 (.fieldLinkNest "StationPiano$Station" 71 "StationPiano$Passer" "name" "J" "StationPiano") (List.mem_of_getElem? (i := 9) rfl)
  have hJ38 : ∀ (x6 : Int64) (m7 : Mm), f_X7_hasName_J38 h0 p1 x6 m7 = some (r2, mem2) → Jd p l e ({ frames := 1, cells := 0, slots := 0, locals := 23 }) s m args below meth c 4 (MQ below (PsI Lp ad cy dC dI r2 mem2 A) args s 0 0 A) A dC dI cy Lp ad m7 38 [(0, .ref (ad (h0))), (1, .long (x6))] [] := by
    intro x6 m7 h
    unfold f_X7_hasName_J38 at h
    refine r_aload_n X dX7_hasName_38 rfl 0 rfl ?_
    refine r_lload_n X dX7_hasName_39 rfl 1 rfl ?_
    refine r_cVI (As := [.long (x6)]) (rest := []) X (fun r9 m9 hg => k_X7_tuneNamed e0 hg) h (Lp_N e0 rfl) e0 rfl (by decide) uw3_169 uw3_170 uw3_171 uw1_4 uw3_172 rfl rfl dd_X7_tuneNamed ⟨Nat.le_of_ble_eq_true rfl, Nat.le_of_ble_eq_true rfl⟩ rfl (Nat.le_of_ble_eq_true rfl) dX7_hasName_40 rfl (fun x9 m8 h => ?_)
    refine r_iconst (v := (-1)) X dX7_hasName_43 (by decide) ?_
    refine r_icmp_eq (tgt := 51) X dX7_hasName_44 (by decide) h (fun h => ?_) (fun h => ?_)
    · refine r_iconst (v := (0)) X dX7_hasName_51 (by decide) ?_
      exact r_zret2 X rfl dX7_hasName_52 h
    · refine r_iconst (v := (1)) X dX7_hasName_47 (by decide) ?_
      refine r_goto (tgt := 52) X dX7_hasName_48 (by decide) ?_
      exact r_zret2 X rfl dX7_hasName_52 h
  have hJ2 : ∀ (k2 : Int64 → Int32 → Mm → Option (Int32 × Mm)) (hk2 : ∀ (x1 : Int64) (x2 : Int32) (m3 : Mm), k2 x1 x2 m3 = some (r2, mem2) → Jd p l e ({ frames := 1, cells := 0, slots := 0, locals := 23 }) s m args below meth c 4 (MQ below (PsI Lp ad cy dC dI r2 mem2 A) args s 0 0 A) A dC dI cy Lp ad m3 2 [(0, .ref (ad (h0))), (1, .long (x1)), (3, .int (x2))] []) (x1 : Int64) (x2 : Int32) (m3 : Mm), f_X7_hasName_B2 h0 p1 k2 x1 x2 m3 = some (r2, mem2) → Jd p l e ({ frames := 1, cells := 0, slots := 0, locals := 23 }) s m args below meth c 4 (MQ below (PsI Lp ad cy dC dI r2 mem2 A) args s 0 0 A) A dC dI cy Lp ad m3 2 [(0, .ref (ad (h0))), (1, .long (x1)), (3, .int (x2))] [] := by
    intro k2 hk2 x1 x2 m3 h
    unfold f_X7_hasName_B2 at h
    refine r_iload_n X dX7_hasName_2 rfl 2 rfl ?_
    refine r_aload_n X dX7_hasName_3 rfl 0 rfl ?_
    refine r_getI X (k := 7) (Lp_N e0 rfl) e0 rfl (by decide) ui_7 (by decide) uw1_187 rfl dX7_hasName_4 ?_
    refine r_icmp_ge (tgt := 38) X dX7_hasName_7 (by decide) h (fun h => ?_) (fun h => ?_)
    · exact r_sub [0, 1] rfl (hJ38 x1 m3 h)
    · refine r_iload_n X dX7_hasName_10 rfl 2 rfl ?_
      refine r_bipush (v := (7)) X dX7_hasName_11 (by decide) ?_
      refine r_icmp_ge (tgt := 38) X dX7_hasName_13 (by decide) h (fun h => ?_) (fun h => ?_)
      · exact r_sub [0, 1] rfl (hJ38 x1 m3 h)
      · refine r_aload_n X dX7_hasName_16 rfl 0 rfl ?_
        refine r_getF X (k := 3) (of := 9) rfl (Lp_N e0 rfl) e0 rfl (by decide) ui_7 (by decide) uw1_174 rfl dX7_hasName_17 ?_
        refine r_iload_n X dX7_hasName_20 rfl 2 rfl ?_
        refine r_ald18 X (Lp_N (Lp_7_3 e0) rfl) (Lp_7_3 e0) (Lp_e18 (Lp_7_3 e0)) rfl h dX7_hasName_21 (fun q4 eq4 h => ?_)
        refine r_getJN X (k := 2) (Lp_N eq4 rfl) eq4 rfl (by decide) ui_4 (by decide) hl71 rfl dX7_hasName_22 ?_
        refine r_lload_n X dX7_hasName_25 rfl 1 rfl ?_
        refine r_lcmp X dX7_hasName_26 ?_
        refine r_if_ne (tgt := 32) X dX7_hasName_27 (by decide) h (fun h => ?_) (fun h => ?_)
        · refine r_inc h (fun x5 e9 h => ?_)
          refine r_iinc (v := x5) (lv2 := [(3, .int (x5)), (0, .ref (ad (h0))), (1, .long (x1))]) X dX7_hasName_32 2 rfl (by rw [e9]; rfl) (by decide) rfl ?_
          refine r_goto (tgt := 2) X dX7_hasName_35 (by decide) ?_
          exact r_sub [1, 2, 0] rfl (hk2 x1 x5 m3 h)
        · refine r_iconst (v := (1)) X dX7_hasName_30 (by decide) ?_
          exact r_zret2 X rfl dX7_hasName_31 h
  have hL2 : ∀ (n : Nat), ∀ (x1 : Int64) (x2 : Int32) (m3 : Mm), lop (fun _ _ _ => none) (f_X7_hasName_B2 h0 p1 ) n x1 x2 m3 = some (r2, mem2) → Jd p l e ({ frames := 1, cells := 0, slots := 0, locals := 23 }) s m args below meth c 4 (MQ below (PsI Lp ad cy dC dI r2 mem2 A) args s 0 0 A) A dC dI cy Lp ad m3 2 [(0, .ref (ad (h0))), (1, .long (x1)), (3, .int (x2))] [] := by
    intro  n
    induction n with
    | zero => intro _ _ _ h; cases h
    | succ n ih => intro a0 a1 a2 h; exact hJ2  _ ih a0 a1 a2 h
  unfold f_X7_hasName at h
  refine r_iconst (v := (0)) X dX7_hasName_0 (by decide) ?_
  refine r_istore_n (lv2 := [(3, .int ((0))), (0, .ref (ad (h0))), (1, .long (p1))]) X dX7_hasName_1 rfl (by decide) rfl ?_
  exact r_sub [1, 2, 0] rfl (hL2 4000 p1 ((0)) mem h)
noncomputable def f_X5_mayBeNewName (h0 : Nat) (h1 : Nat) (mem : Mm) : Option (Int32 × Mm) :=
  bdI (f_X5_isName h0 mem) fun x2 m1 => if ¬ x2 = 0 then (bdI (f_X7_hasName h1 (gJ m1 (h0 - 2) 6) m1) fun x4 m3 => if x4 = 0 then (grd (bok ((1))) (some ((1), m3))) else (bdI (f_X5_wrong h0 ((3)) m3) fun x6 m5 => grd (bok x6) (some (x6, m5)))) else (bdI (f_X5_wrong h0 ((1)) m1) fun x8 m7 => grd (bok x8) (some (x8, m7)))
theorem dd_X5_mayBeNewName : yX5_mayBeNewName.cls = RX5 ∧ yX5_mayBeNewName.cls ≠ "java/lang/invoke/MethodHandle" ∧ yX5_mayBeNewName.cls ≠ "java/lang/invoke/VarHandle" ∧ (parseMethodDescriptor yX5_mayBeNewName.desc).map (fun d => d.parameters.length) = some 1 := by decide +kernel
set_option maxHeartbeats 4000000 in
set_option maxRecDepth 100000 in
theorem k_X5_mayBeNewName {l : Launch} {ad : Nat → Nat} {cy : Nat → ClassId} {dC : Nat → ClassId} {dI : Nat → Nat → Nat} {ks : (Nat → Nat) × (Nat → Nat)} {h0 : Nat} {h1 : Nat} {mem : Mm} {r2 : Int32} {mem2 : Mm} (e0 : Lp.1 h0 = 5) (e1 : Lp.1 h1 = 7) (h : f_X5_mayBeNewName h0 h1 mem = some (r2, mem2)) : CtI l Lp ad cy dC dI ks yX5_mayBeNewName cX5_mayBeNewName 2 (some .boolean) ({ frames := 2, cells := 0, slots := 0, locals := 46 }) [.ref (ad (h0)), .ref (ad (h1))] mem r2 mem2 := by
  refine CtI.of (cc := cX5_mayBeNewName) (maxL := 2) (ret := (some .boolean)) (own := RX5) rfl (by decide) (Nat.le_of_ble_eq_true rfl) ?_
  intro p e s m args below meth c A X
  have hts := X.2.2.2.2.1
  have hl72 := X.2.2.2.2.2.2.1 (.fieldLinkNest "StationPiano$Reader" 72 "StationPiano$Tape" "letters" "J" "StationPiano") (List.mem_of_getElem? (i := 4) rfl)
  unfold f_X5_mayBeNewName at h
  refine r_aload_n X dX5_mayBeNewName_0 rfl 0 rfl ?_
  refine r_cVI (As := []) (rest := []) X (fun r9 m9 hg => k_X5_isName e0 hg) h (Lp_N e0 rfl) e0 rfl (by decide) uw3_161 uw3_163 us1_6 uw1_3 uw3_164 rfl rfl dd_X5_isName ⟨Nat.le_of_ble_eq_true rfl, Nat.le_of_ble_eq_true rfl⟩ rfl (Nat.le_of_ble_eq_true rfl) dX5_mayBeNewName_1 rfl (fun x2 m1 h => ?_)
  refine r_if_ne (tgt := 13) X dX5_mayBeNewName_4 (by decide) h (fun h => ?_) (fun h => ?_)
  · refine r_aload_n X dX5_mayBeNewName_13 rfl 1 rfl ?_
    refine r_aload_n X dX5_mayBeNewName_14 rfl 0 rfl ?_
    refine r_getB X (k := 0) (of := 2) rfl (Lp_N e0 rfl) e0 rfl (by decide) ui_5 (by decide) uw1_73 rfl dX5_mayBeNewName_15 ?_
    refine r_getJN X (k := 6) (Lp_N (Lp_5_0 e0) rfl) (Lp_5_0 e0) rfl (by decide) ui_9 (by decide) hl72 rfl dX5_mayBeNewName_18 ?_
    refine r_cVI (As := [.long (gJ m1 (h0 - 2) 6)]) (rest := []) X (fun r9 m9 hg => k_X7_hasName e1 hg) h (Lp_N e1 rfl) e1 rfl (by decide) uw3_165 uw3_166 uw3_167 uw1_4 uw3_168 rfl rfl dd_X7_hasName ⟨Nat.le_of_ble_eq_true rfl, Nat.le_of_ble_eq_true rfl⟩ rfl (Nat.le_of_ble_eq_true rfl) dX5_mayBeNewName_21 rfl (fun x4 m3 h => ?_)
    refine r_if_eq (tgt := 35) X dX5_mayBeNewName_24 (by decide) h (fun h => ?_) (fun h => ?_)
    · refine r_iconst (v := (1)) X dX5_mayBeNewName_35 (by decide) ?_
      exact r_zret2 X rfl dX5_mayBeNewName_36 h
    · refine r_aload_n X dX5_mayBeNewName_27 rfl 0 rfl ?_
      refine r_iconst (v := (3)) X dX5_mayBeNewName_28 (by decide) ?_
      refine r_cVI (As := [.int ((3))]) (rest := []) X (fun r9 m9 hg => k_X5_wrong e0 hg) h (Lp_N e0 rfl) e0 rfl (by decide) uw3_152 uw3_154 us1_4 uw1_3 uw3_155 rfl rfl dd_X5_wrong ⟨Nat.le_of_ble_eq_true rfl, Nat.le_of_ble_eq_true rfl⟩ rfl (Nat.le_of_ble_eq_true rfl) dX5_mayBeNewName_29 rfl (fun x6 m5 h => ?_)
      refine r_goto (tgt := 36) X dX5_mayBeNewName_32 (by decide) ?_
      exact r_zret2 X rfl dX5_mayBeNewName_36 h
  · refine r_aload_n X dX5_mayBeNewName_7 rfl 0 rfl ?_
    refine r_iconst (v := (1)) X dX5_mayBeNewName_8 (by decide) ?_
    refine r_cVI (As := [.int ((1))]) (rest := []) X (fun r9 m9 hg => k_X5_wrong e0 hg) h (Lp_N e0 rfl) e0 rfl (by decide) uw3_152 uw3_154 us1_4 uw1_3 uw3_155 rfl rfl dd_X5_wrong ⟨Nat.le_of_ble_eq_true rfl, Nat.le_of_ble_eq_true rfl⟩ rfl (Nat.le_of_ble_eq_true rfl) dX5_mayBeNewName_9 rfl (fun x8 m7 h => ?_)
    exact r_zret2 X rfl dX5_mayBeNewName_12 h
noncomputable def f_X7_clear (h0 : Nat) (mem : Mm) : Option Mm :=
  bnd (sI mem h0 6 ((0))) fun m1 => bnd (sI m1 h0 7 ((0))) fun m2 => bnd (sI m2 (h0 + 10) 3 ((0))) fun m3 => bnd (sI m3 (h0 + 13) 3 ((0))) fun m4 => bnd (sI m4 h0 8 ((5))) fun m5 => bnd (sI m5 h0 9 ((30))) fun m6 => bnd (sI m6 h0 10 ((0))) fun m7 => bnd (sI m7 h0 11 ((60))) fun m8 => bnd (sI m8 h0 12 ((60))) fun m9 => bnd (sI m9 h0 13 ((0))) fun m10 => some m10
theorem dd_X7_clear : yX7_clear.cls = RX7 ∧ yX7_clear.cls ≠ "java/lang/invoke/MethodHandle" ∧ yX7_clear.cls ≠ "java/lang/invoke/VarHandle" ∧ (parseMethodDescriptor yX7_clear.desc).map (fun d => d.parameters.length) = some 0 := by decide +kernel
set_option maxHeartbeats 4000000 in
set_option maxRecDepth 100000 in
theorem k_X7_clear {l : Launch} {ad : Nat → Nat} {cy : Nat → ClassId} {dC : Nat → ClassId} {dI : Nat → Nat → Nat} {ks : (Nat → Nat) × (Nat → Nat)} {h0 : Nat} {mem : Mm} {mem2 : Mm} (e0 : Lp.1 h0 = 7) (h : f_X7_clear h0 mem = some mem2) : CtV l Lp ad cy dC dI ks yX7_clear cX7_clear 1 none ({ frames := 0, cells := 0, slots := 0, locals := 0 }) [.ref (ad (h0))] mem mem2 := by
  refine CtV.of (cc := cX7_clear) (maxL := 1) (ret := none) (own := RX7) rfl (by decide) (Nat.le_of_ble_eq_true rfl) ?_
  intro p e s m args below meth c A X
  have hts := X.2.2.2.2.1
  have hl62 := X.2.2.2.2.2.2.1 (.fieldLinkNest "StationPiano$Station" 62 "StationPiano$Law" "length" "I" "StationPiano") (List.mem_of_getElem? (i := 5) rfl)
  unfold f_X7_clear at h
  refine r_aload_n X dX7_clear_0 rfl 0 rfl ?_
  refine r_iconst (v := (0)) X dX7_clear_1 (by decide) ?_
  refine r_putI X (k := 6) (Lp_N e0 rfl) e0 rfl (by decide) ui_7 (by decide) uw1_183 tyX7_ok nmX7 rfl rfl rfl dX7_clear_2 ?_
  refine r_nmM h (fun m1 h => ?_)
  refine r_aload_n X dX7_clear_5 rfl 0 rfl ?_
  refine r_iconst (v := (0)) X dX7_clear_6 (by decide) ?_
  refine r_putI X (k := 7) (Lp_N e0 rfl) e0 rfl (by decide) ui_7 (by decide) uw1_187 tyX7_ok nmX7 rfl rfl rfl dX7_clear_7 ?_
  refine r_nmM h (fun m2 h => ?_)
  refine r_aload_n X dX7_clear_10 rfl 0 rfl ?_
  refine r_getF X (k := 4) (of := 10) rfl (Lp_N e0 rfl) e0 rfl (by decide) ui_7 (by decide) uw1_179 rfl dX7_clear_11 ?_
  refine r_iconst (v := (0)) X dX7_clear_14 (by decide) ?_
  refine r_putIN X (k := 3) (Lp_N (Lp_7_4 e0) rfl) (Lp_7_4 e0) rfl (by decide) ui_2 (by decide) hl62 tyX2_ok nmX2 rfl rfl rfl dX7_clear_15 ?_
  refine r_nmM h (fun m3 h => ?_)
  refine r_aload_n X dX7_clear_18 rfl 0 rfl ?_
  refine r_getF X (k := 5) (of := 13) rfl (Lp_N e0 rfl) e0 rfl (by decide) ui_7 (by decide) uw1_181 rfl dX7_clear_19 ?_
  refine r_iconst (v := (0)) X dX7_clear_22 (by decide) ?_
  refine r_putIN X (k := 3) (Lp_N (Lp_7_5 e0) rfl) (Lp_7_5 e0) rfl (by decide) ui_2 (by decide) hl62 tyX2_ok nmX2 rfl rfl rfl dX7_clear_23 ?_
  refine r_nmM h (fun m4 h => ?_)
  refine r_aload_n X dX7_clear_26 rfl 0 rfl ?_
  refine r_iconst (v := (5)) X dX7_clear_27 (by decide) ?_
  refine r_putI X (k := 8) (Lp_N e0 rfl) e0 rfl (by decide) ui_7 (by decide) uw1_191 tyX7_ok nmX7 rfl rfl rfl dX7_clear_28 ?_
  refine r_nmM h (fun m5 h => ?_)
  refine r_aload_n X dX7_clear_31 rfl 0 rfl ?_
  refine r_bipush (v := (30)) X dX7_clear_32 (by decide) ?_
  refine r_putI X (k := 9) (Lp_N e0 rfl) e0 rfl (by decide) ui_7 (by decide) uw1_195 tyX7_ok nmX7 rfl rfl rfl dX7_clear_34 ?_
  refine r_nmM h (fun m6 h => ?_)
  refine r_aload_n X dX7_clear_37 rfl 0 rfl ?_
  refine r_iconst (v := (0)) X dX7_clear_38 (by decide) ?_
  refine r_putI X (k := 10) (Lp_N e0 rfl) e0 rfl (by decide) ui_7 (by decide) uw1_198 tyX7_ok nmX7 rfl rfl rfl dX7_clear_39 ?_
  refine r_nmM h (fun m7 h => ?_)
  refine r_aload_n X dX7_clear_42 rfl 0 rfl ?_
  refine r_bipush (v := (60)) X dX7_clear_43 (by decide) ?_
  refine r_putI X (k := 11) (Lp_N e0 rfl) e0 rfl (by decide) ui_7 (by decide) uw1_201 tyX7_ok nmX7 rfl rfl rfl dX7_clear_45 ?_
  refine r_nmM h (fun m8 h => ?_)
  refine r_aload_n X dX7_clear_48 rfl 0 rfl ?_
  refine r_bipush (v := (60)) X dX7_clear_49 (by decide) ?_
  refine r_putI X (k := 12) (Lp_N e0 rfl) e0 rfl (by decide) ui_7 (by decide) uw1_204 tyX7_ok nmX7 rfl rfl rfl dX7_clear_51 ?_
  refine r_nmM h (fun m9 h => ?_)
  refine r_aload_n X dX7_clear_54 rfl 0 rfl ?_
  refine r_iconst (v := (0)) X dX7_clear_55 (by decide) ?_
  refine r_putI X (k := 13) (Lp_N e0 rfl) e0 rfl (by decide) ui_7 (by decide) uw1_207 tyX7_ok nmX7 rfl rfl rfl dX7_clear_56 ?_
  refine r_nmM h (fun m10 h => ?_)
  exact r_vret X rfl dX7_clear_59 h
noncomputable def f_X10_add (h0 : Nat) (p1 : Int32) (p2 : Int32) (p3 : Int32) (mem : Mm) : Option Mm :=
  if (gI mem h0 3) < 0 then (some mem) else (if ((40)) ≤ (gI mem h0 3) then (some mem) else (grd (inb (gI mem h0 3) (Lp.2.1 (h0 + 1))) (bnd (sI mem (h0 + 1) (gI mem h0 3).toNatClampNeg p1) fun m1 => grd (inb (gI m1 h0 3) (Lp.2.1 (h0 + 2))) (bnd (sI m1 (h0 + 2) (gI m1 h0 3).toNatClampNeg p2) fun m2 => grd (inb (gI m2 h0 3) (Lp.2.1 (h0 + 3))) (bnd (sI m2 (h0 + 3) (gI m2 h0 3).toNatClampNeg p3) fun m3 => bnd (sI m3 h0 3 ((gI m3 h0 3) + ((1)))) fun m4 => some m4)))))
theorem dd_X10_add : yX10_add.cls = RX10 ∧ yX10_add.cls ≠ "java/lang/invoke/MethodHandle" ∧ yX10_add.cls ≠ "java/lang/invoke/VarHandle" ∧ (parseMethodDescriptor yX10_add.desc).map (fun d => d.parameters.length) = some 3 := by decide +kernel
set_option maxHeartbeats 4000000 in
set_option maxRecDepth 100000 in
theorem k_X10_add {l : Launch} {ad : Nat → Nat} {cy : Nat → ClassId} {dC : Nat → ClassId} {dI : Nat → Nat → Nat} {ks : (Nat → Nat) × (Nat → Nat)} {h0 : Nat} {p1 : Int32} {p2 : Int32} {p3 : Int32} {mem : Mm} {mem2 : Mm} (e0 : Lp.1 h0 = 10) (h : f_X10_add h0 p1 p2 p3 mem = some mem2) : CtV l Lp ad cy dC dI ks yX10_add cX10_add 4 none ({ frames := 0, cells := 0, slots := 0, locals := 0 }) [.ref (ad (h0)), .int (p1), .int (p2), .int (p3)] mem mem2 := by
  refine CtV.of (cc := cX10_add) (maxL := 4) (ret := none) (own := RX10) rfl (by decide) (Nat.le_of_ble_eq_true rfl) ?_
  intro p e s m args below meth c A X
  have hts := X.2.2.2.2.1
  unfold f_X10_add at h
  refine r_aload_n X dX10_add_0 rfl 0 rfl ?_
  refine r_getI X (k := 3) (Lp_N e0 rfl) e0 rfl (by decide) ui_10 (by decide) uw2_44 rfl dX10_add_1 ?_
  refine r_if_lt (tgt := 56) X dX10_add_4 (by decide) h (fun h => ?_) (fun h => ?_)
  · exact r_vret X rfl dX10_add_56 h
  · refine r_aload_n X dX10_add_7 rfl 0 rfl ?_
    refine r_getI X (k := 3) (Lp_N e0 rfl) e0 rfl (by decide) ui_10 (by decide) uw2_44 rfl dX10_add_8 ?_
    refine r_bipush (v := (40)) X dX10_add_11 (by decide) ?_
    refine r_icmp_ge (tgt := 56) X dX10_add_13 (by decide) h (fun h => ?_) (fun h => ?_)
    · exact r_vret X rfl dX10_add_56 h
    · refine r_aload_n X dX10_add_16 rfl 0 rfl ?_
      refine r_getF X (k := 0) (of := 1) rfl (Lp_N e0 rfl) e0 rfl (by decide) ui_10 (by decide) uw2_38 rfl dX10_add_17 ?_
      refine r_aload_n X dX10_add_20 rfl 0 rfl ?_
      refine r_getI X (k := 3) (Lp_N e0 rfl) e0 rfl (by decide) ui_10 (by decide) uw2_44 rfl dX10_add_21 ?_
      refine r_iload_n X dX10_add_24 rfl 1 rfl ?_
      refine r_iast X (Lp_N (Lp_10_0 e0) rfl) (Lp_10_0 e0) h dX10_add_25 (fun h => ?_)
      refine r_nmM h (fun m1 h => ?_)
      refine r_aload_n X dX10_add_26 rfl 0 rfl ?_
      refine r_getF X (k := 1) (of := 2) rfl (Lp_N e0 rfl) e0 rfl (by decide) ui_10 (by decide) uw2_40 rfl dX10_add_27 ?_
      refine r_aload_n X dX10_add_30 rfl 0 rfl ?_
      refine r_getI X (k := 3) (Lp_N e0 rfl) e0 rfl (by decide) ui_10 (by decide) uw2_44 rfl dX10_add_31 ?_
      refine r_iload_n X dX10_add_34 rfl 2 rfl ?_
      refine r_iast X (Lp_N (Lp_10_1 e0) rfl) (Lp_10_1 e0) h dX10_add_35 (fun h => ?_)
      refine r_nmM h (fun m2 h => ?_)
      refine r_aload_n X dX10_add_36 rfl 0 rfl ?_
      refine r_getF X (k := 2) (of := 3) rfl (Lp_N e0 rfl) e0 rfl (by decide) ui_10 (by decide) uw2_42 rfl dX10_add_37 ?_
      refine r_aload_n X dX10_add_40 rfl 0 rfl ?_
      refine r_getI X (k := 3) (Lp_N e0 rfl) e0 rfl (by decide) ui_10 (by decide) uw2_44 rfl dX10_add_41 ?_
      refine r_iload_n X dX10_add_44 rfl 3 rfl ?_
      refine r_iast X (Lp_N (Lp_10_2 e0) rfl) (Lp_10_2 e0) h dX10_add_45 (fun h => ?_)
      refine r_nmM h (fun m3 h => ?_)
      refine r_aload_n X dX10_add_46 rfl 0 rfl ?_
      refine r_dup X dX10_add_47 rfl ?_
      refine r_getI X (k := 3) (Lp_N e0 rfl) e0 rfl (by decide) ui_10 (by decide) uw2_44 rfl dX10_add_48 ?_
      refine r_iconst (v := (1)) X dX10_add_51 (by decide) ?_
      refine r_iadd X dX10_add_52 ?_
      refine r_putI X (k := 3) (Lp_N e0 rfl) e0 rfl (by decide) ui_10 (by decide) uw2_44 tyX10_ok nmX10 rfl rfl rfl dX10_add_53 ?_
      refine r_nmM h (fun m4 h => ?_)
      exact r_vret X rfl dX10_add_56 h
noncomputable def f_X6_begin_B2 (h0 : Nat) (h1 : Nat) (k2 : Int32 → Mm → Option Mm) (x1 : Int32) (m2 : Mm) : Option Mm :=
  if ((12)) ≤ x1 then (bnd (sI m2 h0 1 ((0))) fun m3 => bnd (sI m3 h0 2 (gI m3 h1 9)) fun m4 => bnd (sI m4 h0 3 (gI m4 h1 10)) fun m5 => bnd (sI m5 h0 4 (gI m5 h1 11)) fun m6 => bnd (sI m6 h0 5 ((0))) fun m7 => some m7) else (grd (inb x1 (Lp.2.1 (h0 + 1))) (bnd (sI m2 (h0 + 1) x1.toNatClampNeg ((0))) fun m8 => bnd (x1 + (1)) fun x9 => k2 x9 m8))
noncomputable def f_X6_begin (h0 : Nat) (h1 : Nat) (mem : Mm) : Option Mm :=
  lop (fun _ _ => none) (f_X6_begin_B2 h0 h1 ) 4000 ((0)) mem
theorem dd_X6_begin : yX6_begin.cls = RX6 ∧ yX6_begin.cls ≠ "java/lang/invoke/MethodHandle" ∧ yX6_begin.cls ≠ "java/lang/invoke/VarHandle" ∧ (parseMethodDescriptor yX6_begin.desc).map (fun d => d.parameters.length) = some 1 := by decide +kernel
set_option maxHeartbeats 4000000 in
set_option maxRecDepth 100000 in
theorem k_X6_begin {l : Launch} {ad : Nat → Nat} {cy : Nat → ClassId} {dC : Nat → ClassId} {dI : Nat → Nat → Nat} {ks : (Nat → Nat) × (Nat → Nat)} {h0 : Nat} {h1 : Nat} {mem : Mm} {mem2 : Mm} (e0 : Lp.1 h0 = 6) (e1 : Lp.1 h1 = 7) (h : f_X6_begin h0 h1 mem = some mem2) : CtV l Lp ad cy dC dI ks yX6_begin cX6_begin 3 none ({ frames := 0, cells := 0, slots := 0, locals := 0 }) [.ref (ad (h0)), .ref (ad (h1))] mem mem2 := by
  refine CtV.of (cc := cX6_begin) (maxL := 3) (ret := none) (own := RX6) rfl (by decide) (Nat.le_of_ble_eq_true rfl) ?_
  intro p e s m args below meth c A X
  have hts := X.2.2.2.2.1
  have hl31 := X.2.2.2.2.2.2.1 (.fieldLinkNest "StationPiano$State" 31 "StationPiano$Station" "minutes" "I" "StationPiano") (List.mem_of_getElem? (i := 45) rfl)
  have hl34 := X.2.2.2.2.2.2.1 (.fieldLinkNest "StationPiano$State" 34 "StationPiano$Station" "from" "I" "StationPiano") (List.mem_of_getElem? (i := 47) rfl)
  have hl35 := X.2.2.2.2.2.2.1 (.fieldLinkNest "StationPiano$State" 35 "StationPiano$Station" "to" "I" "StationPiano") (List.mem_of_getElem? (i := 49) rfl)
  have hJ2 : ∀ (k2 : Int32 → Mm → Option Mm) (hk2 : ∀ (x1 : Int32) (m2 : Mm), k2 x1 m2 = some mem2 → Jd p l e ({ frames := 0, cells := 0, slots := 0, locals := 0 }) s m args below meth c 3 (MQ below (PsV Lp ad cy dC dI mem2 A) args s 0 0 A) A dC dI cy Lp ad m2 2 [(0, .ref (ad (h0))), (1, .ref (ad (h1))), (2, .int (x1))] []) (x1 : Int32) (m2 : Mm), f_X6_begin_B2 h0 h1 k2 x1 m2 = some mem2 → Jd p l e ({ frames := 0, cells := 0, slots := 0, locals := 0 }) s m args below meth c 3 (MQ below (PsV Lp ad cy dC dI mem2 A) args s 0 0 A) A dC dI cy Lp ad m2 2 [(0, .ref (ad (h0))), (1, .ref (ad (h1))), (2, .int (x1))] [] := by
    intro k2 hk2 x1 m2 h
    unfold f_X6_begin_B2 at h
    refine r_iload_n X dX6_begin_2 rfl 2 rfl ?_
    refine r_bipush (v := (12)) X dX6_begin_3 (by decide) ?_
    refine r_icmp_ge (tgt := 21) X dX6_begin_5 (by decide) h (fun h => ?_) (fun h => ?_)
    · refine r_aload_n X dX6_begin_21 rfl 0 rfl ?_
      refine r_iconst (v := (0)) X dX6_begin_22 (by decide) ?_
      refine r_putI X (k := 1) (Lp_N e0 rfl) e0 rfl (by decide) ui_6 (by decide) uw2_7 tyX6_ok nmX6 rfl rfl rfl dX6_begin_23 ?_
      refine r_nmM h (fun m3 h => ?_)
      refine r_aload_n X dX6_begin_26 rfl 0 rfl ?_
      refine r_aload_n X dX6_begin_27 rfl 1 rfl ?_
      refine r_getIN X (k := 9) (Lp_N e1 rfl) e1 rfl (by decide) ui_7 (by decide) hl31 rfl dX6_begin_28 ?_
      refine r_putI X (k := 2) (Lp_N e0 rfl) e0 rfl (by decide) ui_6 (by decide) uw2_9 tyX6_ok nmX6 rfl rfl rfl dX6_begin_31 ?_
      refine r_nmM h (fun m4 h => ?_)
      refine r_aload_n X dX6_begin_34 rfl 0 rfl ?_
      refine r_aload_n X dX6_begin_35 rfl 1 rfl ?_
      refine r_getIN X (k := 10) (Lp_N e1 rfl) e1 rfl (by decide) ui_7 (by decide) hl34 rfl dX6_begin_36 ?_
      refine r_putI X (k := 3) (Lp_N e0 rfl) e0 rfl (by decide) ui_6 (by decide) uw2_11 tyX6_ok nmX6 rfl rfl rfl dX6_begin_39 ?_
      refine r_nmM h (fun m5 h => ?_)
      refine r_aload_n X dX6_begin_42 rfl 0 rfl ?_
      refine r_aload_n X dX6_begin_43 rfl 1 rfl ?_
      refine r_getIN X (k := 11) (Lp_N e1 rfl) e1 rfl (by decide) ui_7 (by decide) hl35 rfl dX6_begin_44 ?_
      refine r_putI X (k := 4) (Lp_N e0 rfl) e0 rfl (by decide) ui_6 (by decide) uw2_14 tyX6_ok nmX6 rfl rfl rfl dX6_begin_47 ?_
      refine r_nmM h (fun m6 h => ?_)
      refine r_aload_n X dX6_begin_50 rfl 0 rfl ?_
      refine r_iconst (v := (0)) X dX6_begin_51 (by decide) ?_
      refine r_putI X (k := 5) (Lp_N e0 rfl) e0 rfl (by decide) ui_6 (by decide) uw2_17 tyX6_ok nmX6 rfl rfl rfl dX6_begin_52 ?_
      refine r_nmM h (fun m7 h => ?_)
      exact r_vret X rfl dX6_begin_55 h
    · refine r_aload_n X dX6_begin_8 rfl 0 rfl ?_
      refine r_getF X (k := 0) (of := 1) rfl (Lp_N e0 rfl) e0 rfl (by decide) ui_6 (by decide) uw2_4 rfl dX6_begin_9 ?_
      refine r_iload_n X dX6_begin_12 rfl 2 rfl ?_
      refine r_iconst (v := (0)) X dX6_begin_13 (by decide) ?_
      refine r_iast X (Lp_N (Lp_6_0 e0) rfl) (Lp_6_0 e0) h dX6_begin_14 (fun h => ?_)
      refine r_nmM h (fun m8 h => ?_)
      refine r_inc h (fun x9 e9 h => ?_)
      refine r_iinc (v := x9) (lv2 := [(2, .int (x9)), (0, .ref (ad (h0))), (1, .ref (ad (h1)))]) X dX6_begin_15 2 rfl (by rw [e9]; rfl) (by decide) rfl ?_
      refine r_goto (tgt := 2) X dX6_begin_18 (by decide) ?_
      exact r_sub [1, 2, 0] rfl (hk2 x9 m8 h)
  have hL2 : ∀ (n : Nat), ∀ (x1 : Int32) (m2 : Mm), lop (fun _ _ => none) (f_X6_begin_B2 h0 h1 ) n x1 m2 = some mem2 → Jd p l e ({ frames := 0, cells := 0, slots := 0, locals := 0 }) s m args below meth c 3 (MQ below (PsV Lp ad cy dC dI mem2 A) args s 0 0 A) A dC dI cy Lp ad m2 2 [(0, .ref (ad (h0))), (1, .ref (ad (h1))), (2, .int (x1))] [] := by
    intro  n
    induction n with
    | zero => intro _ _ h; cases h
    | succ n ih => intro a0 a1 h; exact hJ2  _ ih a0 a1 h
  unfold f_X6_begin at h
  refine r_iconst (v := (0)) X dX6_begin_0 (by decide) ?_
  refine r_istore_n (lv2 := [(2, .int ((0))), (0, .ref (ad (h0))), (1, .ref (ad (h1)))]) X dX6_begin_1 rfl (by decide) rfl ?_
  exact r_sub [1, 2, 0] rfl (hL2 4000 ((0)) mem h)
noncomputable def f_X6_tuneUp_J37 (h0 : Nat) (p1 : Int32) (k4 : Int32 → Int32 → Int32 → Mm → Option (Int32 × Mm)) (x8 : Int32) (x9 : Int32) (x10 : Int32) (m11 : Mm) : Option (Int32 × Mm) :=
  bnd (x10 + (1)) fun x12 => k4 x8 x9 x12 m11
noncomputable def f_X6_tuneUp_B4 (h0 : Nat) (p1 : Int32) (k4 : Int32 → Int32 → Int32 → Mm → Option (Int32 × Mm)) (x1 : Int32) (x2 : Int32) (x3 : Int32) (m4 : Mm) : Option (Int32 × Mm) :=
  if ((12)) ≤ x3 then (bnd (sI m4 h0 5 ((gI m4 h0 5) + x1)) fun m5 => some (x2, m5)) else (grd (inb x3 (Lp.2.1 (h0 + 1))) (if ((9)) ≤ (gI m4 (h0 + 1) x3.toNatClampNeg) then (f_X6_tuneUp_J37 h0 p1 k4 x1 x2 x3 m4) else (grd (inb x3 (Lp.2.1 (h0 + 1))) (bnd (x2 + (gI m4 (h0 + 1) x3.toNatClampNeg)) fun x6 => grd (inb x3 (Lp.2.1 (h0 + 1))) (bnd (sI m4 (h0 + 1) x3.toNatClampNeg ((0))) fun m7 => f_X6_tuneUp_J37 h0 p1 k4 x1 x6 x3 m7)))))
noncomputable def f_X6_tuneUp (h0 : Nat) (p1 : Int32) (mem : Mm) : Option (Int32 × Mm) :=
  lop (fun _ _ _ _ => none) (f_X6_tuneUp_B4 h0 p1 ) 4000 p1 ((0)) ((0)) mem
theorem dd_X6_tuneUp : yX6_tuneUp.cls = RX6 ∧ yX6_tuneUp.cls ≠ "java/lang/invoke/MethodHandle" ∧ yX6_tuneUp.cls ≠ "java/lang/invoke/VarHandle" ∧ (parseMethodDescriptor yX6_tuneUp.desc).map (fun d => d.parameters.length) = some 1 := by decide +kernel
set_option maxHeartbeats 4000000 in
set_option maxRecDepth 100000 in
theorem k_X6_tuneUp {l : Launch} {ad : Nat → Nat} {cy : Nat → ClassId} {dC : Nat → ClassId} {dI : Nat → Nat → Nat} {ks : (Nat → Nat) × (Nat → Nat)} {h0 : Nat} {p1 : Int32} {mem : Mm} {r2 : Int32} {mem2 : Mm} (e0 : Lp.1 h0 = 6) (h : f_X6_tuneUp h0 p1 mem = some (r2, mem2)) : CtI l Lp ad cy dC dI ks yX6_tuneUp cX6_tuneUp 4 (some .int) ({ frames := 0, cells := 0, slots := 0, locals := 0 }) [.ref (ad (h0)), .int (p1)] mem r2 mem2 := by
  refine CtI.of (cc := cX6_tuneUp) (maxL := 4) (ret := (some .int)) (own := RX6) rfl (by decide) (Nat.le_of_ble_eq_true rfl) ?_
  intro p e s m args below meth c A X
  have hts := X.2.2.2.2.1
  have hJ37 : ∀ (k4 : Int32 → Int32 → Int32 → Mm → Option (Int32 × Mm)) (hk4 : ∀ (x1 : Int32) (x2 : Int32) (x3 : Int32) (m4 : Mm), k4 x1 x2 x3 m4 = some (r2, mem2) → Jd p l e ({ frames := 0, cells := 0, slots := 0, locals := 0 }) s m args below meth c 4 (MQ below (PsI Lp ad cy dC dI r2 mem2 A) args s 0 0 A) A dC dI cy Lp ad m4 4 [(0, .ref (ad (h0))), (1, .int (x1)), (2, .int (x2)), (3, .int (x3))] []) (x8 : Int32) (x9 : Int32) (x10 : Int32) (m11 : Mm), f_X6_tuneUp_J37 h0 p1 k4 x8 x9 x10 m11 = some (r2, mem2) → Jd p l e ({ frames := 0, cells := 0, slots := 0, locals := 0 }) s m args below meth c 4 (MQ below (PsI Lp ad cy dC dI r2 mem2 A) args s 0 0 A) A dC dI cy Lp ad m11 37 [(0, .ref (ad (h0))), (1, .int (x8)), (2, .int (x9)), (3, .int (x10))] [] := by
    intro k4 hk4 x8 x9 x10 m11 h
    unfold f_X6_tuneUp_J37 at h
    refine r_inc h (fun x12 e9 h => ?_)
    refine r_iinc (v := x12) (lv2 := [(3, .int (x12)), (0, .ref (ad (h0))), (1, .int (x8)), (2, .int (x9))]) X dX6_tuneUp_37 3 rfl (by rw [e9]; rfl) (by decide) rfl ?_
    refine r_goto (tgt := 4) X dX6_tuneUp_40 (by decide) ?_
    exact r_sub [1, 2, 3, 0] rfl (hk4 x8 x9 x12 m11 h)
  have hJ4 : ∀ (k4 : Int32 → Int32 → Int32 → Mm → Option (Int32 × Mm)) (hk4 : ∀ (x1 : Int32) (x2 : Int32) (x3 : Int32) (m4 : Mm), k4 x1 x2 x3 m4 = some (r2, mem2) → Jd p l e ({ frames := 0, cells := 0, slots := 0, locals := 0 }) s m args below meth c 4 (MQ below (PsI Lp ad cy dC dI r2 mem2 A) args s 0 0 A) A dC dI cy Lp ad m4 4 [(0, .ref (ad (h0))), (1, .int (x1)), (2, .int (x2)), (3, .int (x3))] []) (x1 : Int32) (x2 : Int32) (x3 : Int32) (m4 : Mm), f_X6_tuneUp_B4 h0 p1 k4 x1 x2 x3 m4 = some (r2, mem2) → Jd p l e ({ frames := 0, cells := 0, slots := 0, locals := 0 }) s m args below meth c 4 (MQ below (PsI Lp ad cy dC dI r2 mem2 A) args s 0 0 A) A dC dI cy Lp ad m4 4 [(0, .ref (ad (h0))), (1, .int (x1)), (2, .int (x2)), (3, .int (x3))] [] := by
    intro k4 hk4 x1 x2 x3 m4 h
    unfold f_X6_tuneUp_B4 at h
    refine r_iload_n X dX6_tuneUp_4 rfl 3 rfl ?_
    refine r_bipush (v := (12)) X dX6_tuneUp_5 (by decide) ?_
    refine r_icmp_ge (tgt := 43) X dX6_tuneUp_7 (by decide) h (fun h => ?_) (fun h => ?_)
    · refine r_aload_n X dX6_tuneUp_43 rfl 0 rfl ?_
      refine r_dup X dX6_tuneUp_44 rfl ?_
      refine r_getI X (k := 5) (Lp_N e0 rfl) e0 rfl (by decide) ui_6 (by decide) uw2_17 rfl dX6_tuneUp_45 ?_
      refine r_iload_n X dX6_tuneUp_48 rfl 1 rfl ?_
      refine r_iadd X dX6_tuneUp_49 ?_
      refine r_putI X (k := 5) (Lp_N e0 rfl) e0 rfl (by decide) ui_6 (by decide) uw2_17 tyX6_ok nmX6 rfl rfl rfl dX6_tuneUp_50 ?_
      refine r_nmM h (fun m5 h => ?_)
      refine r_iload_n X dX6_tuneUp_53 rfl 2 rfl ?_
      exact r_iret2 X rfl dX6_tuneUp_54 h
    · refine r_aload_n X dX6_tuneUp_10 rfl 0 rfl ?_
      refine r_getF X (k := 0) (of := 1) rfl (Lp_N e0 rfl) e0 rfl (by decide) ui_6 (by decide) uw2_4 rfl dX6_tuneUp_11 ?_
      refine r_iload_n X dX6_tuneUp_14 rfl 3 rfl ?_
      refine r_iald X (Lp_N (Lp_6_0 e0) rfl) (Lp_6_0 e0) h dX6_tuneUp_15 (fun h => ?_)
      refine r_bipush (v := (9)) X dX6_tuneUp_16 (by decide) ?_
      refine r_icmp_ge (tgt := 37) X dX6_tuneUp_18 (by decide) h (fun h => ?_) (fun h => ?_)
      · exact r_sub [0, 1, 2, 3] rfl (hJ37 k4 hk4 x1 x2 x3 m4 h)
      · refine r_iload_n X dX6_tuneUp_21 rfl 2 rfl ?_
        refine r_aload_n X dX6_tuneUp_22 rfl 0 rfl ?_
        refine r_getF X (k := 0) (of := 1) rfl (Lp_N e0 rfl) e0 rfl (by decide) ui_6 (by decide) uw2_4 rfl dX6_tuneUp_23 ?_
        refine r_iload_n X dX6_tuneUp_26 rfl 3 rfl ?_
        refine r_iald X (Lp_N (Lp_6_0 e0) rfl) (Lp_6_0 e0) h dX6_tuneUp_27 (fun h => ?_)
        refine r_iadd X dX6_tuneUp_28 ?_
        refine r_nmI h (fun x6 h => ?_)
        refine r_istore_n (lv2 := [(2, .int (x6)), (0, .ref (ad (h0))), (1, .int (x1)), (3, .int (x3))]) X dX6_tuneUp_29 rfl (by decide) rfl ?_
        refine r_aload_n X dX6_tuneUp_30 rfl 1 rfl ?_
        refine r_getF X (k := 0) (of := 1) rfl (Lp_N e0 rfl) e0 rfl (by decide) ui_6 (by decide) uw2_4 rfl dX6_tuneUp_31 ?_
        refine r_iload_n X dX6_tuneUp_34 rfl 3 rfl ?_
        refine r_iconst (v := (0)) X dX6_tuneUp_35 (by decide) ?_
        refine r_iast X (Lp_N (Lp_6_0 e0) rfl) (Lp_6_0 e0) h dX6_tuneUp_36 (fun h => ?_)
        refine r_nmM h (fun m7 h => ?_)
        exact r_sub [1, 2, 0, 3] rfl (hJ37 k4 hk4 x1 x6 x3 m7 h)
  have hL4 : ∀ (n : Nat), ∀ (x1 : Int32) (x2 : Int32) (x3 : Int32) (m4 : Mm), lop (fun _ _ _ _ => none) (f_X6_tuneUp_B4 h0 p1 ) n x1 x2 x3 m4 = some (r2, mem2) → Jd p l e ({ frames := 0, cells := 0, slots := 0, locals := 0 }) s m args below meth c 4 (MQ below (PsI Lp ad cy dC dI r2 mem2 A) args s 0 0 A) A dC dI cy Lp ad m4 4 [(0, .ref (ad (h0))), (1, .int (x1)), (2, .int (x2)), (3, .int (x3))] [] := by
    intro  n
    induction n with
    | zero => intro _ _ _ _ h; cases h
    | succ n ih => intro a0 a1 a2 a3 h; exact hJ4  _ ih a0 a1 a2 a3 h
  unfold f_X6_tuneUp at h
  refine r_iconst (v := (0)) X dX6_tuneUp_0 (by decide) ?_
  refine r_istore_n (lv2 := [(2, .int ((0))), (0, .ref (ad (h0))), (1, .int (p1))]) X dX6_tuneUp_1 rfl (by decide) rfl ?_
  refine r_iconst (v := (0)) X dX6_tuneUp_2 (by decide) ?_
  refine r_istore_n (lv2 := [(3, .int ((0))), (2, .int ((0))), (0, .ref (ad (h0))), (1, .int (p1))]) X dX6_tuneUp_3 rfl (by decide) rfl ?_
  exact r_sub [2, 3, 1, 0] rfl (hL4 4000 p1 ((0)) ((0)) mem h)
noncomputable def f_X6_goneKeys_J27 (h0 : Nat) (k4 : Int32 → Int32 → Mm → Option (Int32 × Mm)) (x5 : Int32) (x6 : Int32) (m7 : Mm) : Option (Int32 × Mm) :=
  bnd (x6 + (1)) fun x8 => k4 x5 x8 m7
noncomputable def f_X6_goneKeys_B4 (h0 : Nat) (k4 : Int32 → Int32 → Mm → Option (Int32 × Mm)) (x1 : Int32) (x2 : Int32) (m3 : Mm) : Option (Int32 × Mm) :=
  if ((12)) ≤ x2 then (some (x1, m3)) else (grd (inb x2 (Lp.2.1 (h0 + 1))) (if (gI m3 (h0 + 1) x2.toNatClampNeg) < ((9)) then (f_X6_goneKeys_J27 h0 k4 x1 x2 m3) else (bnd (x1 ||| (((1)) <<< (x2 &&& 31))) fun x4 => f_X6_goneKeys_J27 h0 k4 x4 x2 m3)))
noncomputable def f_X6_goneKeys (h0 : Nat) (mem : Mm) : Option (Int32 × Mm) :=
  lop (fun _ _ _ => none) (f_X6_goneKeys_B4 h0 ) 4000 ((0)) ((0)) mem
theorem dd_X6_goneKeys : yX6_goneKeys.cls = RX6 ∧ yX6_goneKeys.cls ≠ "java/lang/invoke/MethodHandle" ∧ yX6_goneKeys.cls ≠ "java/lang/invoke/VarHandle" ∧ (parseMethodDescriptor yX6_goneKeys.desc).map (fun d => d.parameters.length) = some 0 := by decide +kernel
set_option maxHeartbeats 4000000 in
set_option maxRecDepth 100000 in
theorem k_X6_goneKeys {l : Launch} {ad : Nat → Nat} {cy : Nat → ClassId} {dC : Nat → ClassId} {dI : Nat → Nat → Nat} {ks : (Nat → Nat) × (Nat → Nat)} {h0 : Nat} {mem : Mm} {r2 : Int32} {mem2 : Mm} (e0 : Lp.1 h0 = 6) (h : f_X6_goneKeys h0 mem = some (r2, mem2)) : CtI l Lp ad cy dC dI ks yX6_goneKeys cX6_goneKeys 3 (some .int) ({ frames := 0, cells := 0, slots := 0, locals := 0 }) [.ref (ad (h0))] mem r2 mem2 := by
  refine CtI.of (cc := cX6_goneKeys) (maxL := 3) (ret := (some .int)) (own := RX6) rfl (by decide) (Nat.le_of_ble_eq_true rfl) ?_
  intro p e s m args below meth c A X
  have hts := X.2.2.2.2.1
  have hJ27 : ∀ (k4 : Int32 → Int32 → Mm → Option (Int32 × Mm)) (hk4 : ∀ (x1 : Int32) (x2 : Int32) (m3 : Mm), k4 x1 x2 m3 = some (r2, mem2) → Jd p l e ({ frames := 0, cells := 0, slots := 0, locals := 0 }) s m args below meth c 3 (MQ below (PsI Lp ad cy dC dI r2 mem2 A) args s 0 0 A) A dC dI cy Lp ad m3 4 [(0, .ref (ad (h0))), (1, .int (x1)), (2, .int (x2))] []) (x5 : Int32) (x6 : Int32) (m7 : Mm), f_X6_goneKeys_J27 h0 k4 x5 x6 m7 = some (r2, mem2) → Jd p l e ({ frames := 0, cells := 0, slots := 0, locals := 0 }) s m args below meth c 3 (MQ below (PsI Lp ad cy dC dI r2 mem2 A) args s 0 0 A) A dC dI cy Lp ad m7 27 [(0, .ref (ad (h0))), (1, .int (x5)), (2, .int (x6))] [] := by
    intro k4 hk4 x5 x6 m7 h
    unfold f_X6_goneKeys_J27 at h
    refine r_inc h (fun x8 e9 h => ?_)
    refine r_iinc (v := x8) (lv2 := [(2, .int (x8)), (0, .ref (ad (h0))), (1, .int (x5))]) X dX6_goneKeys_27 2 rfl (by rw [e9]; rfl) (by decide) rfl ?_
    refine r_goto (tgt := 4) X dX6_goneKeys_30 (by decide) ?_
    exact r_sub [1, 2, 0] rfl (hk4 x5 x8 m7 h)
  have hJ4 : ∀ (k4 : Int32 → Int32 → Mm → Option (Int32 × Mm)) (hk4 : ∀ (x1 : Int32) (x2 : Int32) (m3 : Mm), k4 x1 x2 m3 = some (r2, mem2) → Jd p l e ({ frames := 0, cells := 0, slots := 0, locals := 0 }) s m args below meth c 3 (MQ below (PsI Lp ad cy dC dI r2 mem2 A) args s 0 0 A) A dC dI cy Lp ad m3 4 [(0, .ref (ad (h0))), (1, .int (x1)), (2, .int (x2))] []) (x1 : Int32) (x2 : Int32) (m3 : Mm), f_X6_goneKeys_B4 h0 k4 x1 x2 m3 = some (r2, mem2) → Jd p l e ({ frames := 0, cells := 0, slots := 0, locals := 0 }) s m args below meth c 3 (MQ below (PsI Lp ad cy dC dI r2 mem2 A) args s 0 0 A) A dC dI cy Lp ad m3 4 [(0, .ref (ad (h0))), (1, .int (x1)), (2, .int (x2))] [] := by
    intro k4 hk4 x1 x2 m3 h
    unfold f_X6_goneKeys_B4 at h
    refine r_iload_n X dX6_goneKeys_4 rfl 2 rfl ?_
    refine r_bipush (v := (12)) X dX6_goneKeys_5 (by decide) ?_
    refine r_icmp_ge (tgt := 33) X dX6_goneKeys_7 (by decide) h (fun h => ?_) (fun h => ?_)
    · refine r_iload_n X dX6_goneKeys_33 rfl 1 rfl ?_
      exact r_iret2 X rfl dX6_goneKeys_34 h
    · refine r_aload_n X dX6_goneKeys_10 rfl 0 rfl ?_
      refine r_getF X (k := 0) (of := 1) rfl (Lp_N e0 rfl) e0 rfl (by decide) ui_6 (by decide) uw2_4 rfl dX6_goneKeys_11 ?_
      refine r_iload_n X dX6_goneKeys_14 rfl 2 rfl ?_
      refine r_iald X (Lp_N (Lp_6_0 e0) rfl) (Lp_6_0 e0) h dX6_goneKeys_15 (fun h => ?_)
      refine r_bipush (v := (9)) X dX6_goneKeys_16 (by decide) ?_
      refine r_icmp_lt (tgt := 27) X dX6_goneKeys_18 (by decide) h (fun h => ?_) (fun h => ?_)
      · exact r_sub [0, 1, 2] rfl (hJ27 k4 hk4 x1 x2 m3 h)
      · refine r_iload_n X dX6_goneKeys_21 rfl 1 rfl ?_
        refine r_iconst (v := (1)) X dX6_goneKeys_22 (by decide) ?_
        refine r_iload_n X dX6_goneKeys_23 rfl 2 rfl ?_
        refine r_ishl X dX6_goneKeys_24 ?_
        refine r_ior X dX6_goneKeys_25 ?_
        refine r_nmI h (fun x4 h => ?_)
        refine r_istore_n (lv2 := [(1, .int (x4)), (0, .ref (ad (h0))), (2, .int (x2))]) X dX6_goneKeys_26 rfl (by decide) rfl ?_
        exact r_sub [1, 0, 2] rfl (hJ27 k4 hk4 x4 x2 m3 h)
  have hL4 : ∀ (n : Nat), ∀ (x1 : Int32) (x2 : Int32) (m3 : Mm), lop (fun _ _ _ => none) (f_X6_goneKeys_B4 h0 ) n x1 x2 m3 = some (r2, mem2) → Jd p l e ({ frames := 0, cells := 0, slots := 0, locals := 0 }) s m args below meth c 3 (MQ below (PsI Lp ad cy dC dI r2 mem2 A) args s 0 0 A) A dC dI cy Lp ad m3 4 [(0, .ref (ad (h0))), (1, .int (x1)), (2, .int (x2))] [] := by
    intro  n
    induction n with
    | zero => intro _ _ _ h; cases h
    | succ n ih => intro a0 a1 a2 h; exact hJ4  _ ih a0 a1 a2 h
  unfold f_X6_goneKeys at h
  refine r_iconst (v := (0)) X dX6_goneKeys_0 (by decide) ?_
  refine r_istore_n (lv2 := [(1, .int ((0))), (0, .ref (ad (h0)))]) X dX6_goneKeys_1 rfl (by decide) rfl ?_
  refine r_iconst (v := (0)) X dX6_goneKeys_2 (by decide) ?_
  refine r_istore_n (lv2 := [(2, .int ((0))), (1, .int ((0))), (0, .ref (ad (h0)))]) X dX6_goneKeys_3 rfl (by decide) rfl ?_
  exact r_sub [2, 1, 0] rfl (hL4 4000 ((0)) ((0)) mem h)
noncomputable def f_X6_keysAbove_J23 (h0 : Nat) (p1 : Int32) (k4 : Int32 → Int32 → Int32 → Mm → Option (Int32 × Mm)) (x6 : Int32) (x7 : Int32) (x8 : Int32) (m9 : Mm) : Option (Int32 × Mm) :=
  bnd (x8 + (1)) fun x10 => k4 x6 x7 x10 m9
noncomputable def f_X6_keysAbove_B4 (h0 : Nat) (p1 : Int32) (k4 : Int32 → Int32 → Int32 → Mm → Option (Int32 × Mm)) (x1 : Int32) (x2 : Int32) (x3 : Int32) (m4 : Mm) : Option (Int32 × Mm) :=
  if ((12)) ≤ x3 then (some (x2, m4)) else (grd (inb x3 (Lp.2.1 (h0 + 1))) (if (gI m4 (h0 + 1) x3.toNatClampNeg) ≤ x1 then (f_X6_keysAbove_J23 h0 p1 k4 x1 x2 x3 m4) else (bnd (x2 + (1)) fun x5 => f_X6_keysAbove_J23 h0 p1 k4 x1 x5 x3 m4)))
noncomputable def f_X6_keysAbove (h0 : Nat) (p1 : Int32) (mem : Mm) : Option (Int32 × Mm) :=
  lop (fun _ _ _ _ => none) (f_X6_keysAbove_B4 h0 p1 ) 4000 p1 ((0)) ((0)) mem
theorem dd_X6_keysAbove : yX6_keysAbove.cls = RX6 ∧ yX6_keysAbove.cls ≠ "java/lang/invoke/MethodHandle" ∧ yX6_keysAbove.cls ≠ "java/lang/invoke/VarHandle" ∧ (parseMethodDescriptor yX6_keysAbove.desc).map (fun d => d.parameters.length) = some 1 := by decide +kernel
set_option maxHeartbeats 4000000 in
set_option maxRecDepth 100000 in
theorem k_X6_keysAbove {l : Launch} {ad : Nat → Nat} {cy : Nat → ClassId} {dC : Nat → ClassId} {dI : Nat → Nat → Nat} {ks : (Nat → Nat) × (Nat → Nat)} {h0 : Nat} {p1 : Int32} {mem : Mm} {r2 : Int32} {mem2 : Mm} (e0 : Lp.1 h0 = 6) (h : f_X6_keysAbove h0 p1 mem = some (r2, mem2)) : CtI l Lp ad cy dC dI ks yX6_keysAbove cX6_keysAbove 4 (some .int) ({ frames := 0, cells := 0, slots := 0, locals := 0 }) [.ref (ad (h0)), .int (p1)] mem r2 mem2 := by
  refine CtI.of (cc := cX6_keysAbove) (maxL := 4) (ret := (some .int)) (own := RX6) rfl (by decide) (Nat.le_of_ble_eq_true rfl) ?_
  intro p e s m args below meth c A X
  have hts := X.2.2.2.2.1
  have hJ23 : ∀ (k4 : Int32 → Int32 → Int32 → Mm → Option (Int32 × Mm)) (hk4 : ∀ (x1 : Int32) (x2 : Int32) (x3 : Int32) (m4 : Mm), k4 x1 x2 x3 m4 = some (r2, mem2) → Jd p l e ({ frames := 0, cells := 0, slots := 0, locals := 0 }) s m args below meth c 4 (MQ below (PsI Lp ad cy dC dI r2 mem2 A) args s 0 0 A) A dC dI cy Lp ad m4 4 [(0, .ref (ad (h0))), (1, .int (x1)), (2, .int (x2)), (3, .int (x3))] []) (x6 : Int32) (x7 : Int32) (x8 : Int32) (m9 : Mm), f_X6_keysAbove_J23 h0 p1 k4 x6 x7 x8 m9 = some (r2, mem2) → Jd p l e ({ frames := 0, cells := 0, slots := 0, locals := 0 }) s m args below meth c 4 (MQ below (PsI Lp ad cy dC dI r2 mem2 A) args s 0 0 A) A dC dI cy Lp ad m9 23 [(0, .ref (ad (h0))), (1, .int (x6)), (2, .int (x7)), (3, .int (x8))] [] := by
    intro k4 hk4 x6 x7 x8 m9 h
    unfold f_X6_keysAbove_J23 at h
    refine r_inc h (fun x10 e9 h => ?_)
    refine r_iinc (v := x10) (lv2 := [(3, .int (x10)), (0, .ref (ad (h0))), (1, .int (x6)), (2, .int (x7))]) X dX6_keysAbove_23 3 rfl (by rw [e9]; rfl) (by decide) rfl ?_
    refine r_goto (tgt := 4) X dX6_keysAbove_26 (by decide) ?_
    exact r_sub [1, 2, 3, 0] rfl (hk4 x6 x7 x10 m9 h)
  have hJ4 : ∀ (k4 : Int32 → Int32 → Int32 → Mm → Option (Int32 × Mm)) (hk4 : ∀ (x1 : Int32) (x2 : Int32) (x3 : Int32) (m4 : Mm), k4 x1 x2 x3 m4 = some (r2, mem2) → Jd p l e ({ frames := 0, cells := 0, slots := 0, locals := 0 }) s m args below meth c 4 (MQ below (PsI Lp ad cy dC dI r2 mem2 A) args s 0 0 A) A dC dI cy Lp ad m4 4 [(0, .ref (ad (h0))), (1, .int (x1)), (2, .int (x2)), (3, .int (x3))] []) (x1 : Int32) (x2 : Int32) (x3 : Int32) (m4 : Mm), f_X6_keysAbove_B4 h0 p1 k4 x1 x2 x3 m4 = some (r2, mem2) → Jd p l e ({ frames := 0, cells := 0, slots := 0, locals := 0 }) s m args below meth c 4 (MQ below (PsI Lp ad cy dC dI r2 mem2 A) args s 0 0 A) A dC dI cy Lp ad m4 4 [(0, .ref (ad (h0))), (1, .int (x1)), (2, .int (x2)), (3, .int (x3))] [] := by
    intro k4 hk4 x1 x2 x3 m4 h
    unfold f_X6_keysAbove_B4 at h
    refine r_iload_n X dX6_keysAbove_4 rfl 3 rfl ?_
    refine r_bipush (v := (12)) X dX6_keysAbove_5 (by decide) ?_
    refine r_icmp_ge (tgt := 29) X dX6_keysAbove_7 (by decide) h (fun h => ?_) (fun h => ?_)
    · refine r_iload_n X dX6_keysAbove_29 rfl 2 rfl ?_
      exact r_iret2 X rfl dX6_keysAbove_30 h
    · refine r_aload_n X dX6_keysAbove_10 rfl 0 rfl ?_
      refine r_getF X (k := 0) (of := 1) rfl (Lp_N e0 rfl) e0 rfl (by decide) ui_6 (by decide) uw2_4 rfl dX6_keysAbove_11 ?_
      refine r_iload_n X dX6_keysAbove_14 rfl 3 rfl ?_
      refine r_iald X (Lp_N (Lp_6_0 e0) rfl) (Lp_6_0 e0) h dX6_keysAbove_15 (fun h => ?_)
      refine r_iload_n X dX6_keysAbove_16 rfl 1 rfl ?_
      refine r_icmp_le (tgt := 23) X dX6_keysAbove_17 (by decide) h (fun h => ?_) (fun h => ?_)
      · exact r_sub [0, 1, 2, 3] rfl (hJ23 k4 hk4 x1 x2 x3 m4 h)
      · refine r_inc h (fun x5 e9 h => ?_)
        refine r_iinc (v := x5) (lv2 := [(2, .int (x5)), (0, .ref (ad (h0))), (1, .int (x1)), (3, .int (x3))]) X dX6_keysAbove_20 2 rfl (by rw [e9]; rfl) (by decide) rfl ?_
        exact r_sub [1, 2, 0, 3] rfl (hJ23 k4 hk4 x1 x5 x3 m4 h)
  have hL4 : ∀ (n : Nat), ∀ (x1 : Int32) (x2 : Int32) (x3 : Int32) (m4 : Mm), lop (fun _ _ _ _ => none) (f_X6_keysAbove_B4 h0 p1 ) n x1 x2 x3 m4 = some (r2, mem2) → Jd p l e ({ frames := 0, cells := 0, slots := 0, locals := 0 }) s m args below meth c 4 (MQ below (PsI Lp ad cy dC dI r2 mem2 A) args s 0 0 A) A dC dI cy Lp ad m4 4 [(0, .ref (ad (h0))), (1, .int (x1)), (2, .int (x2)), (3, .int (x3))] [] := by
    intro  n
    induction n with
    | zero => intro _ _ _ _ h; cases h
    | succ n ih => intro a0 a1 a2 a3 h; exact hJ4  _ ih a0 a1 a2 a3 h
  unfold f_X6_keysAbove at h
  refine r_iconst (v := (0)) X dX6_keysAbove_0 (by decide) ?_
  refine r_istore_n (lv2 := [(2, .int ((0))), (0, .ref (ad (h0))), (1, .int (p1))]) X dX6_keysAbove_1 rfl (by decide) rfl ?_
  refine r_iconst (v := (0)) X dX6_keysAbove_2 (by decide) ?_
  refine r_istore_n (lv2 := [(3, .int ((0))), (2, .int ((0))), (0, .ref (ad (h0))), (1, .int (p1))]) X dX6_keysAbove_3 rfl (by decide) rfl ?_
  exact r_sub [2, 3, 1, 0] rfl (hL4 4000 p1 ((0)) ((0)) mem h)
noncomputable def f_X8_playOnNew_J67 (h0 : Nat) (p1 : Int32) (p2 : Int32) (h3 : Nat) (h4 : Nat) (k27 : Int32 → Int32 → Int32 → Mm → Option Mm) (x13 : Int32) (x14 : Int32) (x15 : Int32) (m16 : Mm) : Option Mm :=
  bnd (x15 + (1)) fun x17 => k27 x13 x14 x17 m16
noncomputable def f_X8_playOnNew_B27 (h0 : Nat) (p1 : Int32) (p2 : Int32) (h3 : Nat) (h4 : Nat) (k27 : Int32 → Int32 → Int32 → Mm → Option Mm) (x7 : Int32) (x8 : Int32) (x9 : Int32) (m10 : Mm) : Option Mm :=
  if x8 ≤ x9 then (some m10) else (if ((7)) ≤ x9 then (some m10) else (if ((x7 >>> (x9 &&& 31)) &&& ((1))) = 0 then (f_X8_playOnNew_J67 h0 p1 p2 h3 h4 k27 x7 x8 x9 m10) else (grd (inb x9 (Lp.2.1 (h3 + 9))) (bnd (h3 + 9 + (7 + 2 * x9.toNatClampNeg)) fun q11 => bdV (f_X1_strikeAll h4 q11 x9 (h0 + 1) m10) fun m12 => f_X8_playOnNew_J67 h0 p1 p2 h3 h4 k27 x7 x8 x9 m12))))
noncomputable def f_X8_playOnNew_B3 (h0 : Nat) (p1 : Int32) (p2 : Int32) (h3 : Nat) (h4 : Nat) (k3 : Int32 → Int32 → Int32 → Mm → Option Mm) (x1 : Int32) (x2 : Int32) (x3 : Int32) (m4 : Mm) : Option Mm :=
  if ((12)) ≤ x3 then (lop (fun _ _ _ _ => none) (f_X8_playOnNew_B27 h0 p1 p2 h3 h4 ) 4000 x1 x2 ((0)) m4) else (grd (inb x3 (Lp.2.1 (h0 + 1))) (bnd (sI m4 (h0 + 1) x3.toNatClampNeg ((0))) fun m5 => bnd (x3 + (1)) fun x6 => k3 x1 x2 x6 m5))
noncomputable def f_X8_playOnNew (h0 : Nat) (p1 : Int32) (p2 : Int32) (h3 : Nat) (h4 : Nat) (mem : Mm) : Option Mm :=
  lop (fun _ _ _ _ => none) (f_X8_playOnNew_B3 h0 p1 p2 h3 h4 ) 4000 p1 p2 ((0)) mem
theorem dd_X8_playOnNew : yX8_playOnNew.cls = RX8 ∧ yX8_playOnNew.cls ≠ "java/lang/invoke/MethodHandle" ∧ yX8_playOnNew.cls ≠ "java/lang/invoke/VarHandle" ∧ (parseMethodDescriptor yX8_playOnNew.desc).map (fun d => d.parameters.length) = some 4 := by decide +kernel
set_option maxHeartbeats 4000000 in
set_option maxRecDepth 100000 in
theorem k_X8_playOnNew {l : Launch} {ad : Nat → Nat} {cy : Nat → ClassId} {dC : Nat → ClassId} {dI : Nat → Nat → Nat} {ks : (Nat → Nat) × (Nat → Nat)} {h0 : Nat} {p1 : Int32} {p2 : Int32} {h3 : Nat} {h4 : Nat} {mem : Mm} {mem2 : Mm} (e0 : Lp.1 h0 = 8) (e3 : Lp.1 h3 = 7) (e4 : Lp.1 h4 = 1) (h : f_X8_playOnNew h0 p1 p2 h3 h4 mem = some mem2) : CtV l Lp ad cy dC dI ks yX8_playOnNew cX8_playOnNew 6 none ({ frames := 1, cells := 0, slots := 0, locals := 26 }) [.ref (ad (h0)), .int (p1), .int (p2), .ref (ad (h3)), .ref (ad (h4))] mem mem2 := by
  refine CtV.of (cc := cX8_playOnNew) (maxL := 6) (ret := none) (own := RX8) rfl (by decide) (Nat.le_of_ble_eq_true rfl) ?_
  intro p e s m args below meth c A X
  have hts := X.2.2.2.2.1
  have hl55 := X.2.2.2.2.2.2.1 (.fieldLinkNest "StationPiano$Suspects" 55 "StationPiano$Station" "passers" "[LStationPiano$Passer;" "StationPiano") (List.mem_of_getElem? (i := 31) rfl)
  have hJ67 : ∀ (k27 : Int32 → Int32 → Int32 → Mm → Option Mm) (hk27 : ∀ (x7 : Int32) (x8 : Int32) (x9 : Int32) (m10 : Mm), k27 x7 x8 x9 m10 = some mem2 → Jd p l e ({ frames := 1, cells := 0, slots := 0, locals := 26 }) s m args below meth c 6 (MQ below (PsV Lp ad cy dC dI mem2 A) args s 0 0 A) A dC dI cy Lp ad m10 27 [(0, .ref (ad (h0))), (1, .int (x7)), (2, .int (x8)), (3, .ref (ad (h3))), (4, .ref (ad (h4))), (5, .int (x9))] []) (x13 : Int32) (x14 : Int32) (x15 : Int32) (m16 : Mm), f_X8_playOnNew_J67 h0 p1 p2 h3 h4 k27 x13 x14 x15 m16 = some mem2 → Jd p l e ({ frames := 1, cells := 0, slots := 0, locals := 26 }) s m args below meth c 6 (MQ below (PsV Lp ad cy dC dI mem2 A) args s 0 0 A) A dC dI cy Lp ad m16 67 [(0, .ref (ad (h0))), (1, .int (x13)), (2, .int (x14)), (3, .ref (ad (h3))), (4, .ref (ad (h4))), (5, .int (x15))] [] := by
    intro k27 hk27 x13 x14 x15 m16 h
    unfold f_X8_playOnNew_J67 at h
    refine r_inc h (fun x17 e9 h => ?_)
    refine r_iinc (v := x17) (lv2 := [(5, .int (x17)), (0, .ref (ad (h0))), (1, .int (x13)), (2, .int (x14)), (3, .ref (ad (h3))), (4, .ref (ad (h4)))]) X dX8_playOnNew_67 5 rfl (by rw [e9]; rfl) (by decide) rfl ?_
    refine r_goto (tgt := 27) X dX8_playOnNew_70 (by decide) ?_
    exact r_sub [1, 2, 3, 4, 5, 0] rfl (hk27 x13 x14 x17 m16 h)
  have hJ27 : ∀ (k27 : Int32 → Int32 → Int32 → Mm → Option Mm) (hk27 : ∀ (x7 : Int32) (x8 : Int32) (x9 : Int32) (m10 : Mm), k27 x7 x8 x9 m10 = some mem2 → Jd p l e ({ frames := 1, cells := 0, slots := 0, locals := 26 }) s m args below meth c 6 (MQ below (PsV Lp ad cy dC dI mem2 A) args s 0 0 A) A dC dI cy Lp ad m10 27 [(0, .ref (ad (h0))), (1, .int (x7)), (2, .int (x8)), (3, .ref (ad (h3))), (4, .ref (ad (h4))), (5, .int (x9))] []) (x7 : Int32) (x8 : Int32) (x9 : Int32) (m10 : Mm), f_X8_playOnNew_B27 h0 p1 p2 h3 h4 k27 x7 x8 x9 m10 = some mem2 → Jd p l e ({ frames := 1, cells := 0, slots := 0, locals := 26 }) s m args below meth c 6 (MQ below (PsV Lp ad cy dC dI mem2 A) args s 0 0 A) A dC dI cy Lp ad m10 27 [(0, .ref (ad (h0))), (1, .int (x7)), (2, .int (x8)), (3, .ref (ad (h3))), (4, .ref (ad (h4))), (5, .int (x9))] [] := by
    intro k27 hk27 x7 x8 x9 m10 h
    unfold f_X8_playOnNew_B27 at h
    refine r_iload X dX8_playOnNew_27 5 rfl ?_
    refine r_iload_n X dX8_playOnNew_29 rfl 2 rfl ?_
    refine r_icmp_ge (tgt := 73) X dX8_playOnNew_30 (by decide) h (fun h => ?_) (fun h => ?_)
    · exact r_vret X rfl dX8_playOnNew_73 h
    · refine r_iload X dX8_playOnNew_33 5 rfl ?_
      refine r_bipush (v := (7)) X dX8_playOnNew_35 (by decide) ?_
      refine r_icmp_ge (tgt := 73) X dX8_playOnNew_37 (by decide) h (fun h => ?_) (fun h => ?_)
      · exact r_vret X rfl dX8_playOnNew_73 h
      · refine r_iload_n X dX8_playOnNew_40 rfl 1 rfl ?_
        refine r_iload X dX8_playOnNew_41 5 rfl ?_
        refine r_ishr X dX8_playOnNew_43 ?_
        refine r_iconst (v := (1)) X dX8_playOnNew_44 (by decide) ?_
        refine r_iand X dX8_playOnNew_45 ?_
        refine r_if_eq (tgt := 67) X dX8_playOnNew_46 (by decide) h (fun h => ?_) (fun h => ?_)
        · exact r_sub [0, 1, 2, 3, 4, 5] rfl (hJ67 k27 hk27 x7 x8 x9 m10 h)
        · refine r_aload X dX8_playOnNew_49 4 rfl ?_
          refine r_aload_n X dX8_playOnNew_51 rfl 3 rfl ?_
          refine r_getFN X (k := 3) (of := 9) rfl (Lp_N e3 rfl) e3 rfl (by decide) ui_7 (by decide) hl55 rfl dX8_playOnNew_52 ?_
          refine r_iload X dX8_playOnNew_55 5 rfl ?_
          refine r_ald18 X (Lp_N (Lp_7_3 e3) rfl) (Lp_7_3 e3) (Lp_e18 (Lp_7_3 e3)) rfl h dX8_playOnNew_57 (fun q11 eq11 h => ?_)
          refine r_iload X dX8_playOnNew_58 5 rfl ?_
          refine r_aload_n X dX8_playOnNew_60 rfl 0 rfl ?_
          refine r_getF X (k := 0) (of := 1) rfl (Lp_N e0 rfl) e0 rfl (by decide) ui_8 (by decide) uw2_79 rfl dX8_playOnNew_61 ?_
          refine r_cVV (As := [.ref (ad (q11)), .int (x9), .ref (ad (h0 + 1))]) (rest := []) X (fun m9 hg => k_X1_strikeAll e4 eq11 (Lp_8_0 e0) hg) h (Lp_N e4 rfl) e4 rfl (by decide) uw5_3 uw4_126 uw4_127 uw1_11 uw4_128 rfl rfl dd_X1_strikeAll ⟨Nat.le_of_ble_eq_true rfl, Nat.le_of_ble_eq_true rfl⟩ rfl (Nat.le_of_ble_eq_true rfl) dX8_playOnNew_64 rfl (fun m12 h => ?_)
          exact r_sub [0, 1, 2, 3, 4, 5] rfl (hJ67 k27 hk27 x7 x8 x9 m12 h)
  have hL27 : ∀ (n : Nat), ∀ (x7 : Int32) (x8 : Int32) (x9 : Int32) (m10 : Mm), lop (fun _ _ _ _ => none) (f_X8_playOnNew_B27 h0 p1 p2 h3 h4 ) n x7 x8 x9 m10 = some mem2 → Jd p l e ({ frames := 1, cells := 0, slots := 0, locals := 26 }) s m args below meth c 6 (MQ below (PsV Lp ad cy dC dI mem2 A) args s 0 0 A) A dC dI cy Lp ad m10 27 [(0, .ref (ad (h0))), (1, .int (x7)), (2, .int (x8)), (3, .ref (ad (h3))), (4, .ref (ad (h4))), (5, .int (x9))] [] := by
    intro  n
    induction n with
    | zero => intro _ _ _ _ h; cases h
    | succ n ih => intro a0 a1 a2 a3 h; exact hJ27  _ ih a0 a1 a2 a3 h
  have hJ3 : ∀ (k3 : Int32 → Int32 → Int32 → Mm → Option Mm) (hk3 : ∀ (x1 : Int32) (x2 : Int32) (x3 : Int32) (m4 : Mm), k3 x1 x2 x3 m4 = some mem2 → Jd p l e ({ frames := 1, cells := 0, slots := 0, locals := 26 }) s m args below meth c 6 (MQ below (PsV Lp ad cy dC dI mem2 A) args s 0 0 A) A dC dI cy Lp ad m4 3 [(0, .ref (ad (h0))), (1, .int (x1)), (2, .int (x2)), (3, .ref (ad (h3))), (4, .ref (ad (h4))), (5, .int (x3))] []) (x1 : Int32) (x2 : Int32) (x3 : Int32) (m4 : Mm), f_X8_playOnNew_B3 h0 p1 p2 h3 h4 k3 x1 x2 x3 m4 = some mem2 → Jd p l e ({ frames := 1, cells := 0, slots := 0, locals := 26 }) s m args below meth c 6 (MQ below (PsV Lp ad cy dC dI mem2 A) args s 0 0 A) A dC dI cy Lp ad m4 3 [(0, .ref (ad (h0))), (1, .int (x1)), (2, .int (x2)), (3, .ref (ad (h3))), (4, .ref (ad (h4))), (5, .int (x3))] [] := by
    intro k3 hk3 x1 x2 x3 m4 h
    unfold f_X8_playOnNew_B3 at h
    refine r_iload X dX8_playOnNew_3 5 rfl ?_
    refine r_bipush (v := (12)) X dX8_playOnNew_5 (by decide) ?_
    refine r_icmp_ge (tgt := 24) X dX8_playOnNew_7 (by decide) h (fun h => ?_) (fun h => ?_)
    · refine r_iconst (v := (0)) X dX8_playOnNew_24 (by decide) ?_
      refine r_istore (lv2 := [(5, .int ((0))), (0, .ref (ad (h0))), (1, .int (x1)), (2, .int (x2)), (3, .ref (ad (h3))), (4, .ref (ad (h4)))]) X dX8_playOnNew_25 (by decide) rfl ?_
      exact r_sub [1, 2, 3, 4, 5, 0] rfl (hL27 4000 x1 x2 ((0)) m4 h)
    · refine r_aload_n X dX8_playOnNew_10 rfl 0 rfl ?_
      refine r_getF X (k := 0) (of := 1) rfl (Lp_N e0 rfl) e0 rfl (by decide) ui_8 (by decide) uw2_79 rfl dX8_playOnNew_11 ?_
      refine r_iload X dX8_playOnNew_14 5 rfl ?_
      refine r_iconst (v := (0)) X dX8_playOnNew_16 (by decide) ?_
      refine r_iast X (Lp_N (Lp_8_0 e0) rfl) (Lp_8_0 e0) h dX8_playOnNew_17 (fun h => ?_)
      refine r_nmM h (fun m5 h => ?_)
      refine r_inc h (fun x6 e9 h => ?_)
      refine r_iinc (v := x6) (lv2 := [(5, .int (x6)), (0, .ref (ad (h0))), (1, .int (x1)), (2, .int (x2)), (3, .ref (ad (h3))), (4, .ref (ad (h4)))]) X dX8_playOnNew_18 5 rfl (by rw [e9]; rfl) (by decide) rfl ?_
      refine r_goto (tgt := 3) X dX8_playOnNew_21 (by decide) ?_
      exact r_sub [1, 2, 3, 4, 5, 0] rfl (hk3 x1 x2 x6 m5 h)
  have hL3 : ∀ (n : Nat), ∀ (x1 : Int32) (x2 : Int32) (x3 : Int32) (m4 : Mm), lop (fun _ _ _ _ => none) (f_X8_playOnNew_B3 h0 p1 p2 h3 h4 ) n x1 x2 x3 m4 = some mem2 → Jd p l e ({ frames := 1, cells := 0, slots := 0, locals := 26 }) s m args below meth c 6 (MQ below (PsV Lp ad cy dC dI mem2 A) args s 0 0 A) A dC dI cy Lp ad m4 3 [(0, .ref (ad (h0))), (1, .int (x1)), (2, .int (x2)), (3, .ref (ad (h3))), (4, .ref (ad (h4))), (5, .int (x3))] [] := by
    intro  n
    induction n with
    | zero => intro _ _ _ _ h; cases h
    | succ n ih => intro a0 a1 a2 a3 h; exact hJ3  _ ih a0 a1 a2 a3 h
  unfold f_X8_playOnNew at h
  refine r_iconst (v := (0)) X dX8_playOnNew_0 (by decide) ?_
  refine r_istore (lv2 := [(5, .int ((0))), (0, .ref (ad (h0))), (1, .int (p1)), (2, .int (p2)), (3, .ref (ad (h3))), (4, .ref (ad (h4)))]) X dX8_playOnNew_1 (by decide) rfl ?_
  exact r_sub [1, 2, 3, 4, 5, 0] rfl (hL3 4000 p1 p2 ((0)) mem h)
noncomputable def f_X8_tallyWear_J40 (h0 : Nat) (k2 : Int32 → Mm → Option Mm) (x5 : Int32) (m6 : Mm) : Option Mm :=
  bnd (x5 + (1)) fun x7 => k2 x7 m6
noncomputable def f_X8_tallyWear_B2 (h0 : Nat) (k2 : Int32 → Mm → Option Mm) (x1 : Int32) (m2 : Mm) : Option Mm :=
  if ((12)) ≤ x1 then (some m2) else (grd (inb x1 (Lp.2.1 (h0 + 1))) (bnd ((x1 * ((10))) + (gI m2 (h0 + 1) x1.toNatClampNeg)) fun x3 => if x3 < 0 then (f_X8_tallyWear_J40 h0 k2 x1 m2) else (if ((120)) ≤ x3 then (f_X8_tallyWear_J40 h0 k2 x1 m2) else (grd (inb x3 (Lp.2.1 (h0 + 2))) (grd (inb x3 (Lp.2.1 (h0 + 2))) (bnd (sI m2 (h0 + 2) x3.toNatClampNeg ((gI m2 (h0 + 2) x3.toNatClampNeg) + ((1)))) fun m4 => f_X8_tallyWear_J40 h0 k2 x1 m4))))))
noncomputable def f_X8_tallyWear (h0 : Nat) (mem : Mm) : Option Mm :=
  lop (fun _ _ => none) (f_X8_tallyWear_B2 h0 ) 4000 ((0)) mem
theorem dd_X8_tallyWear : yX8_tallyWear.cls = RX8 ∧ yX8_tallyWear.cls ≠ "java/lang/invoke/MethodHandle" ∧ yX8_tallyWear.cls ≠ "java/lang/invoke/VarHandle" ∧ (parseMethodDescriptor yX8_tallyWear.desc).map (fun d => d.parameters.length) = some 0 := by decide +kernel
set_option maxHeartbeats 4000000 in
set_option maxRecDepth 100000 in
theorem k_X8_tallyWear {l : Launch} {ad : Nat → Nat} {cy : Nat → ClassId} {dC : Nat → ClassId} {dI : Nat → Nat → Nat} {ks : (Nat → Nat) × (Nat → Nat)} {h0 : Nat} {mem : Mm} {mem2 : Mm} (e0 : Lp.1 h0 = 8) (h : f_X8_tallyWear h0 mem = some mem2) : CtV l Lp ad cy dC dI ks yX8_tallyWear cX8_tallyWear 3 none ({ frames := 0, cells := 0, slots := 0, locals := 0 }) [.ref (ad (h0))] mem mem2 := by
  refine CtV.of (cc := cX8_tallyWear) (maxL := 3) (ret := none) (own := RX8) rfl (by decide) (Nat.le_of_ble_eq_true rfl) ?_
  intro p e s m args below meth c A X
  have hts := X.2.2.2.2.1
  have hJ40 : ∀ (k2 : Int32 → Mm → Option Mm) (hk2 : ∀ (x1 : Int32) (m2 : Mm), k2 x1 m2 = some mem2 → Jd p l e ({ frames := 0, cells := 0, slots := 0, locals := 0 }) s m args below meth c 3 (MQ below (PsV Lp ad cy dC dI mem2 A) args s 0 0 A) A dC dI cy Lp ad m2 2 [(0, .ref (ad (h0))), (1, .int (x1))] []) (x5 : Int32) (m6 : Mm), f_X8_tallyWear_J40 h0 k2 x5 m6 = some mem2 → Jd p l e ({ frames := 0, cells := 0, slots := 0, locals := 0 }) s m args below meth c 3 (MQ below (PsV Lp ad cy dC dI mem2 A) args s 0 0 A) A dC dI cy Lp ad m6 40 [(0, .ref (ad (h0))), (1, .int (x5))] [] := by
    intro k2 hk2 x5 m6 h
    unfold f_X8_tallyWear_J40 at h
    refine r_inc h (fun x7 e9 h => ?_)
    refine r_iinc (v := x7) (lv2 := [(1, .int (x7)), (0, .ref (ad (h0)))]) X dX8_tallyWear_40 1 rfl (by rw [e9]; rfl) (by decide) rfl ?_
    refine r_goto (tgt := 2) X dX8_tallyWear_43 (by decide) ?_
    exact r_sub [1, 0] rfl (hk2 x7 m6 h)
  have hJ2 : ∀ (k2 : Int32 → Mm → Option Mm) (hk2 : ∀ (x1 : Int32) (m2 : Mm), k2 x1 m2 = some mem2 → Jd p l e ({ frames := 0, cells := 0, slots := 0, locals := 0 }) s m args below meth c 3 (MQ below (PsV Lp ad cy dC dI mem2 A) args s 0 0 A) A dC dI cy Lp ad m2 2 [(0, .ref (ad (h0))), (1, .int (x1))] []) (x1 : Int32) (m2 : Mm), f_X8_tallyWear_B2 h0 k2 x1 m2 = some mem2 → Jd p l e ({ frames := 0, cells := 0, slots := 0, locals := 0 }) s m args below meth c 3 (MQ below (PsV Lp ad cy dC dI mem2 A) args s 0 0 A) A dC dI cy Lp ad m2 2 [(0, .ref (ad (h0))), (1, .int (x1))] [] := by
    intro k2 hk2 x1 m2 h
    unfold f_X8_tallyWear_B2 at h
    refine r_iload_n X dX8_tallyWear_2 rfl 1 rfl ?_
    refine r_bipush (v := (12)) X dX8_tallyWear_3 (by decide) ?_
    refine r_icmp_ge (tgt := 46) X dX8_tallyWear_5 (by decide) h (fun h => ?_) (fun h => ?_)
    · exact r_vret X rfl dX8_tallyWear_46 h
    · refine r_iload_n X dX8_tallyWear_8 rfl 1 rfl ?_
      refine r_bipush (v := (10)) X dX8_tallyWear_9 (by decide) ?_
      refine r_imul X dX8_tallyWear_11 ?_
      refine r_aload_n X dX8_tallyWear_12 rfl 0 rfl ?_
      refine r_getF X (k := 0) (of := 1) rfl (Lp_N e0 rfl) e0 rfl (by decide) ui_8 (by decide) uw2_79 rfl dX8_tallyWear_13 ?_
      refine r_iload_n X dX8_tallyWear_16 rfl 1 rfl ?_
      refine r_iald X (Lp_N (Lp_8_0 e0) rfl) (Lp_8_0 e0) h dX8_tallyWear_17 (fun h => ?_)
      refine r_iadd X dX8_tallyWear_18 ?_
      refine r_nmI h (fun x3 h => ?_)
      refine r_istore_n (lv2 := [(2, .int (x3)), (0, .ref (ad (h0))), (1, .int (x1))]) X dX8_tallyWear_19 rfl (by decide) rfl ?_
      refine r_iload_n X dX8_tallyWear_20 rfl 0 rfl ?_
      refine r_if_lt (tgt := 40) X dX8_tallyWear_21 (by decide) h (fun h => ?_) (fun h => ?_)
      · exact r_sub [1, 2] rfl (hJ40 k2 hk2 x1 m2 h)
      · refine r_iload_n X dX8_tallyWear_24 rfl 0 rfl ?_
        refine r_bipush (v := (120)) X dX8_tallyWear_25 (by decide) ?_
        refine r_icmp_ge (tgt := 40) X dX8_tallyWear_27 (by decide) h (fun h => ?_) (fun h => ?_)
        · exact r_sub [1, 2] rfl (hJ40 k2 hk2 x1 m2 h)
        · refine r_aload_n X dX8_tallyWear_30 rfl 1 rfl ?_
          refine r_getF X (k := 1) (of := 2) rfl (Lp_N e0 rfl) e0 rfl (by decide) ui_8 (by decide) uw2_80 rfl dX8_tallyWear_31 ?_
          refine r_iload_n X dX8_tallyWear_34 rfl 0 rfl ?_
          refine r_dup2 X dX8_tallyWear_35 rfl rfl ?_
          refine r_iald X (Lp_N (Lp_8_1 e0) rfl) (Lp_8_1 e0) h dX8_tallyWear_36 (fun h => ?_)
          refine r_iconst (v := (1)) X dX8_tallyWear_37 (by decide) ?_
          refine r_iadd X dX8_tallyWear_38 ?_
          refine r_iast X (Lp_N (Lp_8_1 e0) rfl) (Lp_8_1 e0) h dX8_tallyWear_39 (fun h => ?_)
          refine r_nmM h (fun m4 h => ?_)
          exact r_sub [1, 2] rfl (hJ40 k2 hk2 x1 m4 h)
  have hL2 : ∀ (n : Nat), ∀ (x1 : Int32) (m2 : Mm), lop (fun _ _ => none) (f_X8_tallyWear_B2 h0 ) n x1 m2 = some mem2 → Jd p l e ({ frames := 0, cells := 0, slots := 0, locals := 0 }) s m args below meth c 3 (MQ below (PsV Lp ad cy dC dI mem2 A) args s 0 0 A) A dC dI cy Lp ad m2 2 [(0, .ref (ad (h0))), (1, .int (x1))] [] := by
    intro  n
    induction n with
    | zero => intro _ _ h; cases h
    | succ n ih => intro a0 a1 h; exact hJ2  _ ih a0 a1 h
  unfold f_X8_tallyWear at h
  refine r_iconst (v := (0)) X dX8_tallyWear_0 (by decide) ?_
  refine r_istore_n (lv2 := [(1, .int ((0))), (0, .ref (ad (h0)))]) X dX8_tallyWear_1 rfl (by decide) rfl ?_
  exact r_sub [1, 0] rfl (hL2 4000 ((0)) mem h)
noncomputable def f_X8_search_J130 (h0 : Nat) (h1 : Nat) (h2 : Nat) (h3 : Nat) (k66 : Int32 → Int32 → Int32 → Mm → Option Mm) (x24 : Int32) (x25 : Int32) (x26 : Int32) (m27 : Mm) : Option Mm :=
  bnd (x26 + (1)) fun x28 => k66 x24 x25 x28 m27
noncomputable def f_X8_search_B66 (h0 : Nat) (h1 : Nat) (h2 : Nat) (h3 : Nat) (k66 : Int32 → Int32 → Int32 → Mm → Option Mm) (x13 : Int32) (x14 : Int32) (x15 : Int32) (m16 : Mm) : Option Mm :=
  if x14 ≤ x15 then (some m16) else (bdV (f_X8_playOnNew h0 x15 x13 h1 h2 m16) fun m17 => bdI (f_X0_allSo h3 (h0 + 1) m17) fun x19 m18 => if x19 = 0 then (f_X8_search_J130 h0 h1 h2 h3 k66 x13 x14 x15 m18) else (bnd (sI m18 h0 2 ((gI m18 h0 2) + ((1)))) fun m20 => bnd (sI m20 h0 3 ((gI m20 h0 3) &&& x15)) fun m21 => bnd (sI m21 h0 4 ((gI m21 h0 4) ||| x15)) fun m22 => bdV (f_X8_tallyWear h0 m22) fun m23 => f_X8_search_J130 h0 h1 h2 h3 k66 x13 x14 x15 m23))
noncomputable def f_X8_search_B42 (h0 : Nat) (h1 : Nat) (h2 : Nat) (h3 : Nat) (k42 : Int32 → Int32 → Int32 → Mm → Option Mm) (x7 : Int32) (x8 : Int32) (x9 : Int32) (m10 : Mm) : Option Mm :=
  if ((120)) ≤ x9 then (lop (fun _ _ _ _ => none) (f_X8_search_B66 h0 h1 h2 h3 ) 4000 x7 x8 ((0)) m10) else (grd (inb x9 (Lp.2.1 (h0 + 2))) (bnd (sI m10 (h0 + 2) x9.toNatClampNeg ((0))) fun m11 => bnd (x9 + (1)) fun x12 => k42 x7 x8 x12 m11))
noncomputable def f_X8_search (h0 : Nat) (h1 : Nat) (h2 : Nat) (h3 : Nat) (mem : Mm) : Option Mm :=
  bnd (if gI mem h1 7 < (7) then gI mem h1 7 else (7)) fun x1 => bnd (if (0) < x1 then x1 else (0)) fun x2 => bnd (((1)) <<< (x2 &&& 31)) fun x3 => bnd (sI mem h0 2 ((0))) fun m4 => bnd (sI m4 h0 3 (x3 - ((1)))) fun m5 => bnd (sI m5 h0 4 ((0))) fun m6 => lop (fun _ _ _ _ => none) (f_X8_search_B42 h0 h1 h2 h3 ) 4000 x2 x3 ((0)) m6
theorem dd_X8_search : yX8_search.cls = RX8 ∧ yX8_search.cls ≠ "java/lang/invoke/MethodHandle" ∧ yX8_search.cls ≠ "java/lang/invoke/VarHandle" ∧ (parseMethodDescriptor yX8_search.desc).map (fun d => d.parameters.length) = some 3 := by decide +kernel
set_option maxHeartbeats 4000000 in
set_option maxRecDepth 100000 in
theorem k_X8_search {l : Launch} {ad : Nat → Nat} {cy : Nat → ClassId} {dC : Nat → ClassId} {dI : Nat → Nat → Nat} {ks : (Nat → Nat) × (Nat → Nat)} {h0 : Nat} {h1 : Nat} {h2 : Nat} {h3 : Nat} {mem : Mm} {mem2 : Mm} (e0 : Lp.1 h0 = 8) (e1 : Lp.1 h1 = 7) (e2 : Lp.1 h2 = 1) (e3 : Lp.1 h3 = 0) (h : f_X8_search h0 h1 h2 h3 mem = some mem2) : CtV l Lp ad cy dC dI ks yX8_search cX8_search 7 none ({ frames := 2, cells := 0, slots := 0, locals := 51 }) [.ref (ad (h0)), .ref (ad (h1)), .ref (ad (h2)), .ref (ad (h3))] mem mem2 := by
  refine CtV.of (cc := cX8_search) (maxL := 7) (ret := none) (own := RX8) rfl (by decide) (Nat.le_of_ble_eq_true rfl) ?_
  intro p e s m args below meth c A X
  have hts := X.2.2.2.2.1
  have hl18 := X.2.2.2.2.2.2.1 (.fieldLinkNest "StationPiano$Suspects" 18 "StationPiano$Station" "passerCount" "I" "StationPiano") (List.mem_of_getElem? (i := 38) rfl)
  have hJ130 : ∀ (k66 : Int32 → Int32 → Int32 → Mm → Option Mm) (hk66 : ∀ (x13 : Int32) (x14 : Int32) (x15 : Int32) (m16 : Mm), k66 x13 x14 x15 m16 = some mem2 → Jd p l e ({ frames := 2, cells := 0, slots := 0, locals := 51 }) s m args below meth c 7 (MQ below (PsV Lp ad cy dC dI mem2 A) args s 0 0 A) A dC dI cy Lp ad m16 66 [(0, .ref (ad (h0))), (1, .ref (ad (h1))), (2, .ref (ad (h2))), (3, .ref (ad (h3))), (4, .int (x13)), (5, .int (x14)), (6, .int (x15))] []) (x24 : Int32) (x25 : Int32) (x26 : Int32) (m27 : Mm), f_X8_search_J130 h0 h1 h2 h3 k66 x24 x25 x26 m27 = some mem2 → Jd p l e ({ frames := 2, cells := 0, slots := 0, locals := 51 }) s m args below meth c 7 (MQ below (PsV Lp ad cy dC dI mem2 A) args s 0 0 A) A dC dI cy Lp ad m27 130 [(0, .ref (ad (h0))), (1, .ref (ad (h1))), (2, .ref (ad (h2))), (3, .ref (ad (h3))), (4, .int (x24)), (5, .int (x25)), (6, .int (x26))] [] := by
    intro k66 hk66 x24 x25 x26 m27 h
    unfold f_X8_search_J130 at h
    refine r_inc h (fun x28 e9 h => ?_)
    refine r_iinc (v := x28) (lv2 := [(6, .int (x28)), (0, .ref (ad (h0))), (1, .ref (ad (h1))), (2, .ref (ad (h2))), (3, .ref (ad (h3))), (4, .int (x24)), (5, .int (x25))]) X dX8_search_130 6 rfl (by rw [e9]; rfl) (by decide) rfl ?_
    refine r_goto (tgt := 66) X dX8_search_133 (by decide) ?_
    exact r_sub [1, 2, 3, 4, 5, 6, 0] rfl (hk66 x24 x25 x28 m27 h)
  have hJ66 : ∀ (k66 : Int32 → Int32 → Int32 → Mm → Option Mm) (hk66 : ∀ (x13 : Int32) (x14 : Int32) (x15 : Int32) (m16 : Mm), k66 x13 x14 x15 m16 = some mem2 → Jd p l e ({ frames := 2, cells := 0, slots := 0, locals := 51 }) s m args below meth c 7 (MQ below (PsV Lp ad cy dC dI mem2 A) args s 0 0 A) A dC dI cy Lp ad m16 66 [(0, .ref (ad (h0))), (1, .ref (ad (h1))), (2, .ref (ad (h2))), (3, .ref (ad (h3))), (4, .int (x13)), (5, .int (x14)), (6, .int (x15))] []) (x13 : Int32) (x14 : Int32) (x15 : Int32) (m16 : Mm), f_X8_search_B66 h0 h1 h2 h3 k66 x13 x14 x15 m16 = some mem2 → Jd p l e ({ frames := 2, cells := 0, slots := 0, locals := 51 }) s m args below meth c 7 (MQ below (PsV Lp ad cy dC dI mem2 A) args s 0 0 A) A dC dI cy Lp ad m16 66 [(0, .ref (ad (h0))), (1, .ref (ad (h1))), (2, .ref (ad (h2))), (3, .ref (ad (h3))), (4, .int (x13)), (5, .int (x14)), (6, .int (x15))] [] := by
    intro k66 hk66 x13 x14 x15 m16 h
    unfold f_X8_search_B66 at h
    refine r_iload X dX8_search_66 6 rfl ?_
    refine r_iload X dX8_search_68 5 rfl ?_
    refine r_icmp_ge (tgt := 136) X dX8_search_70 (by decide) h (fun h => ?_) (fun h => ?_)
    · exact r_vret X rfl dX8_search_136 h
    · refine r_aload_n X dX8_search_73 rfl 0 rfl ?_
      refine r_iload X dX8_search_74 6 rfl ?_
      refine r_iload X dX8_search_76 4 rfl ?_
      refine r_aload_n X dX8_search_78 rfl 1 rfl ?_
      refine r_aload_n X dX8_search_79 rfl 2 rfl ?_
      refine r_cVV (As := [.int (x15), .int (x13), .ref (ad (h1)), .ref (ad (h2))]) (rest := []) X (fun m9 hg => k_X8_playOnNew e0 e1 e2 hg) h (Lp_N e0 rfl) e0 rfl (by decide) uw4_239 uw5_1 us3_3 uw1_10 uw5_2 rfl rfl dd_X8_playOnNew ⟨Nat.le_of_ble_eq_true rfl, Nat.le_of_ble_eq_true rfl⟩ rfl (Nat.le_of_ble_eq_true rfl) dX8_search_80 rfl (fun m17 h => ?_)
      refine r_aload_n X dX8_search_83 rfl 3 rfl ?_
      refine r_aload_n X dX8_search_84 rfl 0 rfl ?_
      refine r_getF X (k := 0) (of := 1) rfl (Lp_N e0 rfl) e0 rfl (by decide) ui_8 (by decide) uw2_79 rfl dX8_search_85 ?_
      refine r_cVI (As := [.ref (ad (h0 + 1))]) (rest := []) X (fun r9 m9 hg => k_X0_allSo e3 (Lp_8_0 e0) hg) h (Lp_N e3 rfl) e3 rfl (by decide) uw5_4 uw5_5 uw5_6 uw1_9 uw5_7 rfl rfl dd_X0_allSo ⟨Nat.le_of_ble_eq_true rfl, Nat.le_of_ble_eq_true rfl⟩ rfl (Nat.le_of_ble_eq_true rfl) dX8_search_88 rfl (fun x19 m18 h => ?_)
      refine r_if_eq (tgt := 130) X dX8_search_91 (by decide) h (fun h => ?_) (fun h => ?_)
      · exact r_sub [0, 1, 2, 3, 4, 5, 6] rfl (hJ130 k66 hk66 x13 x14 x15 m18 h)
      · refine r_aload_n X dX8_search_94 rfl 0 rfl ?_
        refine r_dup X dX8_search_95 rfl ?_
        refine r_getI X (k := 2) (Lp_N e0 rfl) e0 rfl (by decide) ui_8 (by decide) uw2_81 rfl dX8_search_96 ?_
        refine r_iconst (v := (1)) X dX8_search_99 (by decide) ?_
        refine r_iadd X dX8_search_100 ?_
        refine r_putI X (k := 2) (Lp_N e0 rfl) e0 rfl (by decide) ui_8 (by decide) uw2_81 tyX8_ok nmX8 rfl rfl rfl dX8_search_101 ?_
        refine r_nmM h (fun m20 h => ?_)
        refine r_aload_n X dX8_search_104 rfl 0 rfl ?_
        refine r_dup X dX8_search_105 rfl ?_
        refine r_getI X (k := 3) (Lp_N e0 rfl) e0 rfl (by decide) ui_8 (by decide) uw2_83 rfl dX8_search_106 ?_
        refine r_iload X dX8_search_109 6 rfl ?_
        refine r_iand X dX8_search_111 ?_
        refine r_putI X (k := 3) (Lp_N e0 rfl) e0 rfl (by decide) ui_8 (by decide) uw2_83 tyX8_ok nmX8 rfl rfl rfl dX8_search_112 ?_
        refine r_nmM h (fun m21 h => ?_)
        refine r_aload_n X dX8_search_115 rfl 0 rfl ?_
        refine r_dup X dX8_search_116 rfl ?_
        refine r_getI X (k := 4) (Lp_N e0 rfl) e0 rfl (by decide) ui_8 (by decide) uw2_85 rfl dX8_search_117 ?_
        refine r_iload X dX8_search_120 6 rfl ?_
        refine r_ior X dX8_search_122 ?_
        refine r_putI X (k := 4) (Lp_N e0 rfl) e0 rfl (by decide) ui_8 (by decide) uw2_85 tyX8_ok nmX8 rfl rfl rfl dX8_search_123 ?_
        refine r_nmM h (fun m22 h => ?_)
        refine r_aload_n X dX8_search_126 rfl 0 rfl ?_
        refine r_cVV (As := []) (rest := []) X (fun m9 hg => k_X8_tallyWear e0 hg) h (Lp_N e0 rfl) e0 rfl (by decide) uw5_8 uw5_10 us3_4 uw1_10 uw5_11 rfl rfl dd_X8_tallyWear ⟨Nat.le_of_ble_eq_true rfl, Nat.le_of_ble_eq_true rfl⟩ rfl (Nat.le_of_ble_eq_true rfl) dX8_search_127 rfl (fun m23 h => ?_)
        exact r_sub [0, 1, 2, 3, 4, 5, 6] rfl (hJ130 k66 hk66 x13 x14 x15 m23 h)
  have hL66 : ∀ (n : Nat), ∀ (x13 : Int32) (x14 : Int32) (x15 : Int32) (m16 : Mm), lop (fun _ _ _ _ => none) (f_X8_search_B66 h0 h1 h2 h3 ) n x13 x14 x15 m16 = some mem2 → Jd p l e ({ frames := 2, cells := 0, slots := 0, locals := 51 }) s m args below meth c 7 (MQ below (PsV Lp ad cy dC dI mem2 A) args s 0 0 A) A dC dI cy Lp ad m16 66 [(0, .ref (ad (h0))), (1, .ref (ad (h1))), (2, .ref (ad (h2))), (3, .ref (ad (h3))), (4, .int (x13)), (5, .int (x14)), (6, .int (x15))] [] := by
    intro  n
    induction n with
    | zero => intro _ _ _ _ h; cases h
    | succ n ih => intro a0 a1 a2 a3 h; exact hJ66  _ ih a0 a1 a2 a3 h
  have hJ42 : ∀ (k42 : Int32 → Int32 → Int32 → Mm → Option Mm) (hk42 : ∀ (x7 : Int32) (x8 : Int32) (x9 : Int32) (m10 : Mm), k42 x7 x8 x9 m10 = some mem2 → Jd p l e ({ frames := 2, cells := 0, slots := 0, locals := 51 }) s m args below meth c 7 (MQ below (PsV Lp ad cy dC dI mem2 A) args s 0 0 A) A dC dI cy Lp ad m10 42 [(0, .ref (ad (h0))), (1, .ref (ad (h1))), (2, .ref (ad (h2))), (3, .ref (ad (h3))), (4, .int (x7)), (5, .int (x8)), (6, .int (x9))] []) (x7 : Int32) (x8 : Int32) (x9 : Int32) (m10 : Mm), f_X8_search_B42 h0 h1 h2 h3 k42 x7 x8 x9 m10 = some mem2 → Jd p l e ({ frames := 2, cells := 0, slots := 0, locals := 51 }) s m args below meth c 7 (MQ below (PsV Lp ad cy dC dI mem2 A) args s 0 0 A) A dC dI cy Lp ad m10 42 [(0, .ref (ad (h0))), (1, .ref (ad (h1))), (2, .ref (ad (h2))), (3, .ref (ad (h3))), (4, .int (x7)), (5, .int (x8)), (6, .int (x9))] [] := by
    intro k42 hk42 x7 x8 x9 m10 h
    unfold f_X8_search_B42 at h
    refine r_iload X dX8_search_42 6 rfl ?_
    refine r_bipush (v := (120)) X dX8_search_44 (by decide) ?_
    refine r_icmp_ge (tgt := 63) X dX8_search_46 (by decide) h (fun h => ?_) (fun h => ?_)
    · refine r_iconst (v := (0)) X dX8_search_63 (by decide) ?_
      refine r_istore (lv2 := [(6, .int ((0))), (0, .ref (ad (h0))), (1, .ref (ad (h1))), (2, .ref (ad (h2))), (3, .ref (ad (h3))), (4, .int (x7)), (5, .int (x8))]) X dX8_search_64 (by decide) rfl ?_
      exact r_sub [1, 2, 3, 4, 5, 6, 0] rfl (hL66 4000 x7 x8 ((0)) m10 h)
    · refine r_aload_n X dX8_search_49 rfl 0 rfl ?_
      refine r_getF X (k := 1) (of := 2) rfl (Lp_N e0 rfl) e0 rfl (by decide) ui_8 (by decide) uw2_80 rfl dX8_search_50 ?_
      refine r_iload X dX8_search_53 6 rfl ?_
      refine r_iconst (v := (0)) X dX8_search_55 (by decide) ?_
      refine r_iast X (Lp_N (Lp_8_1 e0) rfl) (Lp_8_1 e0) h dX8_search_56 (fun h => ?_)
      refine r_nmM h (fun m11 h => ?_)
      refine r_inc h (fun x12 e9 h => ?_)
      refine r_iinc (v := x12) (lv2 := [(6, .int (x12)), (0, .ref (ad (h0))), (1, .ref (ad (h1))), (2, .ref (ad (h2))), (3, .ref (ad (h3))), (4, .int (x7)), (5, .int (x8))]) X dX8_search_57 6 rfl (by rw [e9]; rfl) (by decide) rfl ?_
      refine r_goto (tgt := 42) X dX8_search_60 (by decide) ?_
      exact r_sub [1, 2, 3, 4, 5, 6, 0] rfl (hk42 x7 x8 x12 m11 h)
  have hL42 : ∀ (n : Nat), ∀ (x7 : Int32) (x8 : Int32) (x9 : Int32) (m10 : Mm), lop (fun _ _ _ _ => none) (f_X8_search_B42 h0 h1 h2 h3 ) n x7 x8 x9 m10 = some mem2 → Jd p l e ({ frames := 2, cells := 0, slots := 0, locals := 51 }) s m args below meth c 7 (MQ below (PsV Lp ad cy dC dI mem2 A) args s 0 0 A) A dC dI cy Lp ad m10 42 [(0, .ref (ad (h0))), (1, .ref (ad (h1))), (2, .ref (ad (h2))), (3, .ref (ad (h3))), (4, .int (x7)), (5, .int (x8)), (6, .int (x9))] [] := by
    intro  n
    induction n with
    | zero => intro _ _ _ _ h; cases h
    | succ n ih => intro a0 a1 a2 a3 h; exact hJ42  _ ih a0 a1 a2 a3 h
  unfold f_X8_search at h
  refine r_iconst (v := (0)) X dX8_search_0 (by decide) ?_
  refine r_bipush (v := (7)) X dX8_search_1 (by decide) ?_
  refine r_aload_n X dX8_search_3 rfl 1 rfl ?_
  refine r_getIN X (k := 7) (Lp_N e1 rfl) e1 rfl (by decide) ui_7 (by decide) hl18 rfl dX8_search_4 ?_
  refine r_mmin X uw4_237 uw3_104 uw1_18 uw3_105 (Nat.le_of_ble_eq_true rfl) (Nat.le_of_ble_eq_true rfl) dX8_search_7 ?_
  refine r_nmI h (fun x1 h => ?_)
  refine r_mmax X uw4_238 uw3_101 uw1_18 uw3_102 (Nat.le_of_ble_eq_true rfl) (Nat.le_of_ble_eq_true rfl) dX8_search_10 ?_
  refine r_nmI h (fun x2 h => ?_)
  refine r_istore (lv2 := [(4, .int (x2)), (0, .ref (ad (h0))), (1, .ref (ad (h1))), (2, .ref (ad (h2))), (3, .ref (ad (h3)))]) X dX8_search_13 (by decide) rfl ?_
  refine r_iconst (v := (1)) X dX8_search_15 (by decide) ?_
  refine r_iload X dX8_search_16 0 rfl ?_
  refine r_ishl X dX8_search_18 ?_
  refine r_nmI h (fun x3 h => ?_)
  refine r_istore (lv2 := [(5, .int (x3)), (4, .int (x2)), (0, .ref (ad (h0))), (1, .ref (ad (h1))), (2, .ref (ad (h2))), (3, .ref (ad (h3)))]) X dX8_search_19 (by decide) rfl ?_
  refine r_aload_n X dX8_search_21 rfl 2 rfl ?_
  refine r_iconst (v := (0)) X dX8_search_22 (by decide) ?_
  refine r_putI X (k := 2) (Lp_N e0 rfl) e0 rfl (by decide) ui_8 (by decide) uw2_81 tyX8_ok nmX8 rfl rfl rfl dX8_search_23 ?_
  refine r_nmM h (fun m4 h => ?_)
  refine r_aload_n X dX8_search_26 rfl 2 rfl ?_
  refine r_iload X dX8_search_27 0 rfl ?_
  refine r_iconst (v := (1)) X dX8_search_29 (by decide) ?_
  refine r_isub X dX8_search_30 ?_
  refine r_putI X (k := 3) (Lp_N e0 rfl) e0 rfl (by decide) ui_8 (by decide) uw2_83 tyX8_ok nmX8 rfl rfl rfl dX8_search_31 ?_
  refine r_nmM h (fun m5 h => ?_)
  refine r_aload_n X dX8_search_34 rfl 2 rfl ?_
  refine r_iconst (v := (0)) X dX8_search_35 (by decide) ?_
  refine r_putI X (k := 4) (Lp_N e0 rfl) e0 rfl (by decide) ui_8 (by decide) uw2_85 tyX8_ok nmX8 rfl rfl rfl dX8_search_36 ?_
  refine r_nmM h (fun m6 h => ?_)
  refine r_iconst (v := (0)) X dX8_search_39 (by decide) ?_
  refine r_istore (lv2 := [(6, .int ((0))), (5, .int (x3)), (4, .int (x2)), (0, .ref (ad (h0))), (1, .ref (ad (h1))), (2, .ref (ad (h2))), (3, .ref (ad (h3)))]) X dX8_search_40 (by decide) rfl ?_
  exact r_sub [3, 4, 5, 6, 2, 1, 0] rfl (hL42 4000 x2 x3 ((0)) m6 h)
