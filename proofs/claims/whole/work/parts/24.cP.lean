noncomputable def f_X11_now_J78 (h0 : Nat) (p1 : Int32) (k20 : Int32 → Int32 → Mm → Option (Int32 × Mm)) (x7 : Int32) (x8 : Int32) (m9 : Mm) : Option (Int32 × Mm) :=
  bnd (x8 + (1)) fun x10 => k20 x7 x10 m9
noncomputable def f_X11_now_B20 (h0 : Nat) (p1 : Int32) (k20 : Int32 → Int32 → Mm → Option (Int32 × Mm)) (x3 : Int32) (x4 : Int32) (m5 : Mm) : Option (Int32 × Mm) :=
  grd (decide (Lp.1 (gR m5 h0 2) = 7)) (bnd (gR m5 h0 2) fun q6 => if (gI m5 q6 7) ≤ x4 then (some ((-1), m5)) else (if ((7)) ≤ x4 then (some ((-1), m5)) else (grd (inb x4 (Lp.2.1 (h0 + 82 + 1))) (if (gI m5 (h0 + 82 + 1) x4.toNatClampNeg) = ((-1)) then (f_X11_now_J78 h0 p1 k20 x3 x4 m5) else (grd (inb x4 (Lp.2.1 (h0 + 82 + 1))) (if x3 < (gI m5 (h0 + 82 + 1) x4.toNatClampNeg) then (f_X11_now_J78 h0 p1 k20 x3 x4 m5) else (grd (inb x4 (Lp.2.1 (h0 + 82 + 2))) (if (gI m5 (h0 + 82 + 2) x4.toNatClampNeg) ≤ x3 then (f_X11_now_J78 h0 p1 k20 x3 x4 m5) else (some (x4, m5))))))))))
noncomputable def f_X11_now (h0 : Nat) (p1 : Int32) (mem : Mm) : Option (Int32 × Mm) :=
  if p1 < 0 then (some ((-1), mem)) else (if p1 < ((60)) then (bdI (f_X11_tryDay h0 ((0)) mem) fun x2 m1 => lop (fun _ _ _ => none) (f_X11_now_B20 h0 p1 ) 4000 p1 ((0)) m1) else (some ((-1), mem)))
theorem dd_X11_now : yX11_now.cls = RX11 ∧ yX11_now.cls ≠ "java/lang/invoke/MethodHandle" ∧ yX11_now.cls ≠ "java/lang/invoke/VarHandle" ∧ (parseMethodDescriptor yX11_now.desc).map (fun d => d.parameters.length) = some 1 := by decide +kernel
set_option maxHeartbeats 4000000 in
set_option maxRecDepth 100000 in
theorem k_X11_now {l : Launch} {ad : Nat → Nat} {cy : Nat → ClassId} {dC : Nat → ClassId} {dI : Nat → Nat → Nat} {ks : (Nat → Nat) × (Nat → Nat)} {h0 : Nat} {p1 : Int32} {mem : Mm} {r2 : Int32} {mem2 : Mm} (e0 : Lp.1 h0 = 11) (h : f_X11_now h0 p1 mem = some (r2, mem2)) : CtI l Lp ad cy dC dI ks yX11_now cX11_now 3 (some .int) ({ frames := 6, cells := 0, slots := 0, locals := 133 }) [.ref (ad (h0)), .int (p1)] mem r2 mem2 := by
  refine CtI.of (cc := cX11_now) (maxL := 3) (ret := (some .int)) (own := RX11) rfl (by decide) (Nat.le_of_ble_eq_true rfl) ?_
  intro p e s m args below meth c A X
  have hts := X.2.2.2.2.1
  have hl167 := X.2.2.2.2.2.2.1 (.fieldLinkNest "StationPiano" 167 "StationPiano$DayRun" "beginOf" "[I" "StationPiano") (List.mem_of_getElem? (i := 72) rfl)
  have hl170 := X.2.2.2.2.2.2.1 (.fieldLinkNest "StationPiano" 170 "StationPiano$DayRun" "endOf" "[I" "StationPiano") (List.mem_of_getElem? (i := 73) rfl)
  have hl173 := X.2.2.2.2.2.2.1 (.fieldLinkNest "StationPiano" 173 "StationPiano$Station" "passerCount" "I" "StationPiano") (List.mem_of_getElem? (i := 40) rfl)
  have hJ78 : ∀ (k20 : Int32 → Int32 → Mm → Option (Int32 × Mm)) (hk20 : ∀ (x3 : Int32) (x4 : Int32) (m5 : Mm), k20 x3 x4 m5 = some (r2, mem2) → Jd p l e ({ frames := 6, cells := 0, slots := 0, locals := 133 }) s m args below meth c 3 (MQ below (PsI Lp ad cy dC dI r2 mem2 A) args s 0 0 A) A dC dI cy Lp ad m5 20 [(0, .ref (ad (h0))), (1, .int (x3)), (2, .int (x4))] []) (x7 : Int32) (x8 : Int32) (m9 : Mm), f_X11_now_J78 h0 p1 k20 x7 x8 m9 = some (r2, mem2) → Jd p l e ({ frames := 6, cells := 0, slots := 0, locals := 133 }) s m args below meth c 3 (MQ below (PsI Lp ad cy dC dI r2 mem2 A) args s 0 0 A) A dC dI cy Lp ad m9 78 [(0, .ref (ad (h0))), (1, .int (x7)), (2, .int (x8))] [] := by
    intro k20 hk20 x7 x8 m9 h
    unfold f_X11_now_J78 at h
    refine r_inc h (fun x10 e9 h => ?_)
    refine r_iinc (v := x10) (lv2 := [(2, .int (x10)), (0, .ref (ad (h0))), (1, .int (x7))]) X dX11_now_78 2 rfl (by rw [e9]; rfl) (by decide) rfl ?_
    refine r_goto (tgt := 20) X dX11_now_81 (by decide) ?_
    exact r_sub [1, 2, 0] rfl (hk20 x7 x10 m9 h)
  have hJ20 : ∀ (k20 : Int32 → Int32 → Mm → Option (Int32 × Mm)) (hk20 : ∀ (x3 : Int32) (x4 : Int32) (m5 : Mm), k20 x3 x4 m5 = some (r2, mem2) → Jd p l e ({ frames := 6, cells := 0, slots := 0, locals := 133 }) s m args below meth c 3 (MQ below (PsI Lp ad cy dC dI r2 mem2 A) args s 0 0 A) A dC dI cy Lp ad m5 20 [(0, .ref (ad (h0))), (1, .int (x3)), (2, .int (x4))] []) (x3 : Int32) (x4 : Int32) (m5 : Mm), f_X11_now_B20 h0 p1 k20 x3 x4 m5 = some (r2, mem2) → Jd p l e ({ frames := 6, cells := 0, slots := 0, locals := 133 }) s m args below meth c 3 (MQ below (PsI Lp ad cy dC dI r2 mem2 A) args s 0 0 A) A dC dI cy Lp ad m5 20 [(0, .ref (ad (h0))), (1, .int (x3)), (2, .int (x4))] [] := by
    intro k20 hk20 x3 x4 m5 h
    unfold f_X11_now_B20 at h
    refine r_iload_n X dX11_now_20 rfl 2 rfl ?_
    refine r_aload_n X dX11_now_21 rfl 0 rfl ?_
    refine r_getR X 7 (k := 2) (Lp_N e0 rfl) e0 rfl (by decide) ui_11 (by decide) uw2_185 rfl h dX11_now_22 (fun q6 eq6 h => ?_)
    refine r_getIN X (k := 7) (Lp_N eq6 rfl) eq6 rfl (by decide) ui_7 (by decide) hl173 rfl dX11_now_25 ?_
    refine r_icmp_ge (tgt := 84) X dX11_now_28 (by decide) h (fun h => ?_) (fun h => ?_)
    · refine r_iconst (v := (-1)) X dX11_now_84 (by decide) ?_
      exact r_iret2 X rfl dX11_now_85 h
    · refine r_iload_n X dX11_now_31 rfl 2 rfl ?_
      refine r_bipush (v := (7)) X dX11_now_32 (by decide) ?_
      refine r_icmp_ge (tgt := 84) X dX11_now_34 (by decide) h (fun h => ?_) (fun h => ?_)
      · refine r_iconst (v := (-1)) X dX11_now_84 (by decide) ?_
        exact r_iret2 X rfl dX11_now_85 h
      · refine r_aload_n X dX11_now_37 rfl 0 rfl ?_
        refine r_getF X (k := 10) (of := 82) rfl (Lp_N e0 rfl) e0 rfl (by decide) ui_11 (by decide) uw2_193 rfl dX11_now_38 ?_
        refine r_getFN X (k := 0) (of := 1) rfl (Lp_N (Lp_11_10 e0) rfl) (Lp_11_10 e0) rfl (by decide) ui_1 (by decide) hl167 rfl dX11_now_41 ?_
        refine r_iload_n X dX11_now_44 rfl 2 rfl ?_
        refine r_iald X (Lp_N (Lp_1_0 (Lp_11_10 e0)) rfl) (Lp_1_0 (Lp_11_10 e0)) h dX11_now_45 (fun h => ?_)
        refine r_iconst (v := (-1)) X dX11_now_46 (by decide) ?_
        refine r_icmp_eq (tgt := 78) X dX11_now_47 (by decide) h (fun h => ?_) (fun h => ?_)
        · exact r_sub [0, 1, 2] rfl (hJ78 k20 hk20 x3 x4 m5 h)
        · refine r_aload_n X dX11_now_50 rfl 0 rfl ?_
          refine r_getF X (k := 10) (of := 82) rfl (Lp_N e0 rfl) e0 rfl (by decide) ui_11 (by decide) uw2_193 rfl dX11_now_51 ?_
          refine r_getFN X (k := 0) (of := 1) rfl (Lp_N (Lp_11_10 e0) rfl) (Lp_11_10 e0) rfl (by decide) ui_1 (by decide) hl167 rfl dX11_now_54 ?_
          refine r_iload_n X dX11_now_57 rfl 2 rfl ?_
          refine r_iald X (Lp_N (Lp_1_0 (Lp_11_10 e0)) rfl) (Lp_1_0 (Lp_11_10 e0)) h dX11_now_58 (fun h => ?_)
          refine r_iload_n X dX11_now_59 rfl 1 rfl ?_
          refine r_icmp_gt (tgt := 78) X dX11_now_60 (by decide) h (fun h => ?_) (fun h => ?_)
          · exact r_sub [0, 1, 2] rfl (hJ78 k20 hk20 x3 x4 m5 h)
          · refine r_iload_n X dX11_now_63 rfl 1 rfl ?_
            refine r_aload_n X dX11_now_64 rfl 0 rfl ?_
            refine r_getF X (k := 10) (of := 82) rfl (Lp_N e0 rfl) e0 rfl (by decide) ui_11 (by decide) uw2_193 rfl dX11_now_65 ?_
            refine r_getFN X (k := 1) (of := 2) rfl (Lp_N (Lp_11_10 e0) rfl) (Lp_11_10 e0) rfl (by decide) ui_1 (by decide) hl170 rfl dX11_now_68 ?_
            refine r_iload_n X dX11_now_71 rfl 2 rfl ?_
            refine r_iald X (Lp_N (Lp_1_1 (Lp_11_10 e0)) rfl) (Lp_1_1 (Lp_11_10 e0)) h dX11_now_72 (fun h => ?_)
            refine r_icmp_ge (tgt := 78) X dX11_now_73 (by decide) h (fun h => ?_) (fun h => ?_)
            · exact r_sub [0, 1, 2] rfl (hJ78 k20 hk20 x3 x4 m5 h)
            · refine r_iload_n X dX11_now_76 rfl 2 rfl ?_
              exact r_iret2 X rfl dX11_now_77 h
  have hL20 : ∀ (n : Nat), ∀ (x3 : Int32) (x4 : Int32) (m5 : Mm), lop (fun _ _ _ => none) (f_X11_now_B20 h0 p1 ) n x3 x4 m5 = some (r2, mem2) → Jd p l e ({ frames := 6, cells := 0, slots := 0, locals := 133 }) s m args below meth c 3 (MQ below (PsI Lp ad cy dC dI r2 mem2 A) args s 0 0 A) A dC dI cy Lp ad m5 20 [(0, .ref (ad (h0))), (1, .int (x3)), (2, .int (x4))] [] := by
    intro  n
    induction n with
    | zero => intro _ _ _ h; cases h
    | succ n ih => intro a0 a1 a2 h; exact hJ20  _ ih a0 a1 a2 h
  unfold f_X11_now at h
  refine r_iload_n X dX11_now_0 rfl 1 rfl ?_
  refine r_if_lt (tgt := 10) X dX11_now_1 (by decide) h (fun h => ?_) (fun h => ?_)
  · refine r_iconst (v := (-1)) X dX11_now_10 (by decide) ?_
    exact r_iret2 X rfl dX11_now_11 h
  · refine r_iload_n X dX11_now_4 rfl 1 rfl ?_
    refine r_bipush (v := (60)) X dX11_now_5 (by decide) ?_
    refine r_icmp_lt (tgt := 12) X dX11_now_7 (by decide) h (fun h => ?_) (fun h => ?_)
    · refine r_aload_n X dX11_now_12 rfl 0 rfl ?_
      refine r_iconst (v := (0)) X dX11_now_13 (by decide) ?_
      refine r_cVI (As := [.int ((0))]) (rest := []) X (fun r9 m9 hg => k_X11_tryDay e0 hg) h (Lp_N e0 rfl) e0 rfl (by decide) uw4_61 uw4_63 us2_8 uw1_1 uw4_64 rfl rfl dd_X11_tryDay ⟨Nat.le_of_ble_eq_true rfl, Nat.le_of_ble_eq_true rfl⟩ rfl (Nat.le_of_ble_eq_true rfl) dX11_now_14 rfl (fun x2 m1 h => ?_)
      refine r_pop X dX11_now_17 rfl ?_
      refine r_iconst (v := (0)) X dX11_now_18 (by decide) ?_
      refine r_istore_n (lv2 := [(2, .int ((0))), (0, .ref (ad (h0))), (1, .int (p1))]) X dX11_now_19 rfl (by decide) rfl ?_
      exact r_sub [1, 2, 0] rfl (hL20 4000 p1 ((0)) m1 h)
    · refine r_iconst (v := (-1)) X dX11_now_10 (by decide) ?_
      exact r_iret2 X rfl dX11_now_11 h
noncomputable def f_X11_away_J46 (h0 : Nat) (k10 : Int32 → Int32 → Mm → Option (Int32 × Mm)) (x8 : Int32) (x9 : Int32) (m10 : Mm) : Option (Int32 × Mm) :=
  bnd (x9 + (1)) fun x11 => k10 x8 x11 m10
noncomputable def f_X11_away_B10 (h0 : Nat) (k10 : Int32 → Int32 → Mm → Option (Int32 × Mm)) (x3 : Int32) (x4 : Int32) (m5 : Mm) : Option (Int32 × Mm) :=
  grd (decide (Lp.1 (gR m5 h0 2) = 7)) (bnd (gR m5 h0 2) fun q6 => if (gI m5 q6 7) ≤ x4 then (some (x3, m5)) else (if ((7)) ≤ x4 then (some (x3, m5)) else (grd (inb x4 (Lp.2.1 (h0 + 82 + 1))) (if ¬ (gI m5 (h0 + 82 + 1) x4.toNatClampNeg) = ((-1)) then (f_X11_away_J46 h0 k10 x3 x4 m5) else (bnd (x3 ||| (((1)) <<< (x4 &&& 31))) fun x7 => f_X11_away_J46 h0 k10 x7 x4 m5)))))
noncomputable def f_X11_away (h0 : Nat) (mem : Mm) : Option (Int32 × Mm) :=
  bdI (f_X11_tryDay h0 ((0)) mem) fun x2 m1 => lop (fun _ _ _ => none) (f_X11_away_B10 h0 ) 4000 ((0)) ((0)) m1
theorem dd_X11_away : yX11_away.cls = RX11 ∧ yX11_away.cls ≠ "java/lang/invoke/MethodHandle" ∧ yX11_away.cls ≠ "java/lang/invoke/VarHandle" ∧ (parseMethodDescriptor yX11_away.desc).map (fun d => d.parameters.length) = some 0 := by decide +kernel
set_option maxHeartbeats 4000000 in
set_option maxRecDepth 100000 in
theorem k_X11_away {l : Launch} {ad : Nat → Nat} {cy : Nat → ClassId} {dC : Nat → ClassId} {dI : Nat → Nat → Nat} {ks : (Nat → Nat) × (Nat → Nat)} {h0 : Nat} {mem : Mm} {r2 : Int32} {mem2 : Mm} (e0 : Lp.1 h0 = 11) (h : f_X11_away h0 mem = some (r2, mem2)) : CtI l Lp ad cy dC dI ks yX11_away cX11_away 3 (some .int) ({ frames := 6, cells := 0, slots := 0, locals := 133 }) [.ref (ad (h0))] mem r2 mem2 := by
  refine CtI.of (cc := cX11_away) (maxL := 3) (ret := (some .int)) (own := RX11) rfl (by decide) (Nat.le_of_ble_eq_true rfl) ?_
  intro p e s m args below meth c A X
  have hts := X.2.2.2.2.1
  have hl167 := X.2.2.2.2.2.2.1 (.fieldLinkNest "StationPiano" 167 "StationPiano$DayRun" "beginOf" "[I" "StationPiano") (List.mem_of_getElem? (i := 72) rfl)
  have hl173 := X.2.2.2.2.2.2.1 (.fieldLinkNest "StationPiano" 173 "StationPiano$Station" "passerCount" "I" "StationPiano") (List.mem_of_getElem? (i := 40) rfl)
  have hJ46 : ∀ (k10 : Int32 → Int32 → Mm → Option (Int32 × Mm)) (hk10 : ∀ (x3 : Int32) (x4 : Int32) (m5 : Mm), k10 x3 x4 m5 = some (r2, mem2) → Jd p l e ({ frames := 6, cells := 0, slots := 0, locals := 133 }) s m args below meth c 3 (MQ below (PsI Lp ad cy dC dI r2 mem2 A) args s 0 0 A) A dC dI cy Lp ad m5 10 [(0, .ref (ad (h0))), (1, .int (x3)), (2, .int (x4))] []) (x8 : Int32) (x9 : Int32) (m10 : Mm), f_X11_away_J46 h0 k10 x8 x9 m10 = some (r2, mem2) → Jd p l e ({ frames := 6, cells := 0, slots := 0, locals := 133 }) s m args below meth c 3 (MQ below (PsI Lp ad cy dC dI r2 mem2 A) args s 0 0 A) A dC dI cy Lp ad m10 46 [(0, .ref (ad (h0))), (1, .int (x8)), (2, .int (x9))] [] := by
    intro k10 hk10 x8 x9 m10 h
    unfold f_X11_away_J46 at h
    refine r_inc h (fun x11 e9 h => ?_)
    refine r_iinc (v := x11) (lv2 := [(2, .int (x11)), (0, .ref (ad (h0))), (1, .int (x8))]) X dX11_away_46 2 rfl (by rw [e9]; rfl) (by decide) rfl ?_
    refine r_goto (tgt := 10) X dX11_away_49 (by decide) ?_
    exact r_sub [1, 2, 0] rfl (hk10 x8 x11 m10 h)
  have hJ10 : ∀ (k10 : Int32 → Int32 → Mm → Option (Int32 × Mm)) (hk10 : ∀ (x3 : Int32) (x4 : Int32) (m5 : Mm), k10 x3 x4 m5 = some (r2, mem2) → Jd p l e ({ frames := 6, cells := 0, slots := 0, locals := 133 }) s m args below meth c 3 (MQ below (PsI Lp ad cy dC dI r2 mem2 A) args s 0 0 A) A dC dI cy Lp ad m5 10 [(0, .ref (ad (h0))), (1, .int (x3)), (2, .int (x4))] []) (x3 : Int32) (x4 : Int32) (m5 : Mm), f_X11_away_B10 h0 k10 x3 x4 m5 = some (r2, mem2) → Jd p l e ({ frames := 6, cells := 0, slots := 0, locals := 133 }) s m args below meth c 3 (MQ below (PsI Lp ad cy dC dI r2 mem2 A) args s 0 0 A) A dC dI cy Lp ad m5 10 [(0, .ref (ad (h0))), (1, .int (x3)), (2, .int (x4))] [] := by
    intro k10 hk10 x3 x4 m5 h
    unfold f_X11_away_B10 at h
    refine r_iload_n X dX11_away_10 rfl 2 rfl ?_
    refine r_aload_n X dX11_away_11 rfl 0 rfl ?_
    refine r_getR X 7 (k := 2) (Lp_N e0 rfl) e0 rfl (by decide) ui_11 (by decide) uw2_185 rfl h dX11_away_12 (fun q6 eq6 h => ?_)
    refine r_getIN X (k := 7) (Lp_N eq6 rfl) eq6 rfl (by decide) ui_7 (by decide) hl173 rfl dX11_away_15 ?_
    refine r_icmp_ge (tgt := 52) X dX11_away_18 (by decide) h (fun h => ?_) (fun h => ?_)
    · refine r_iload_n X dX11_away_52 rfl 1 rfl ?_
      exact r_iret2 X rfl dX11_away_53 h
    · refine r_iload_n X dX11_away_21 rfl 2 rfl ?_
      refine r_bipush (v := (7)) X dX11_away_22 (by decide) ?_
      refine r_icmp_ge (tgt := 52) X dX11_away_24 (by decide) h (fun h => ?_) (fun h => ?_)
      · refine r_iload_n X dX11_away_52 rfl 1 rfl ?_
        exact r_iret2 X rfl dX11_away_53 h
      · refine r_aload_n X dX11_away_27 rfl 0 rfl ?_
        refine r_getF X (k := 10) (of := 82) rfl (Lp_N e0 rfl) e0 rfl (by decide) ui_11 (by decide) uw2_193 rfl dX11_away_28 ?_
        refine r_getFN X (k := 0) (of := 1) rfl (Lp_N (Lp_11_10 e0) rfl) (Lp_11_10 e0) rfl (by decide) ui_1 (by decide) hl167 rfl dX11_away_31 ?_
        refine r_iload_n X dX11_away_34 rfl 2 rfl ?_
        refine r_iald X (Lp_N (Lp_1_0 (Lp_11_10 e0)) rfl) (Lp_1_0 (Lp_11_10 e0)) h dX11_away_35 (fun h => ?_)
        refine r_iconst (v := (-1)) X dX11_away_36 (by decide) ?_
        refine r_icmp_ne (tgt := 46) X dX11_away_37 (by decide) h (fun h => ?_) (fun h => ?_)
        · exact r_sub [0, 1, 2] rfl (hJ46 k10 hk10 x3 x4 m5 h)
        · refine r_iload_n X dX11_away_40 rfl 1 rfl ?_
          refine r_iconst (v := (1)) X dX11_away_41 (by decide) ?_
          refine r_iload_n X dX11_away_42 rfl 2 rfl ?_
          refine r_ishl X dX11_away_43 ?_
          refine r_ior X dX11_away_44 ?_
          refine r_nmI h (fun x7 h => ?_)
          refine r_istore_n (lv2 := [(1, .int (x7)), (0, .ref (ad (h0))), (2, .int (x4))]) X dX11_away_45 rfl (by decide) rfl ?_
          exact r_sub [1, 0, 2] rfl (hJ46 k10 hk10 x7 x4 m5 h)
  have hL10 : ∀ (n : Nat), ∀ (x3 : Int32) (x4 : Int32) (m5 : Mm), lop (fun _ _ _ => none) (f_X11_away_B10 h0 ) n x3 x4 m5 = some (r2, mem2) → Jd p l e ({ frames := 6, cells := 0, slots := 0, locals := 133 }) s m args below meth c 3 (MQ below (PsI Lp ad cy dC dI r2 mem2 A) args s 0 0 A) A dC dI cy Lp ad m5 10 [(0, .ref (ad (h0))), (1, .int (x3)), (2, .int (x4))] [] := by
    intro  n
    induction n with
    | zero => intro _ _ _ h; cases h
    | succ n ih => intro a0 a1 a2 h; exact hJ10  _ ih a0 a1 a2 h
  unfold f_X11_away at h
  refine r_aload_n X dX11_away_0 rfl 0 rfl ?_
  refine r_iconst (v := (0)) X dX11_away_1 (by decide) ?_
  refine r_cVI (As := [.int ((0))]) (rest := []) X (fun r9 m9 hg => k_X11_tryDay e0 hg) h (Lp_N e0 rfl) e0 rfl (by decide) uw4_61 uw4_63 us2_8 uw1_1 uw4_64 rfl rfl dd_X11_tryDay ⟨Nat.le_of_ble_eq_true rfl, Nat.le_of_ble_eq_true rfl⟩ rfl (Nat.le_of_ble_eq_true rfl) dX11_away_2 rfl (fun x2 m1 h => ?_)
  refine r_pop X dX11_away_5 rfl ?_
  refine r_iconst (v := (0)) X dX11_away_6 (by decide) ?_
  refine r_istore_n (lv2 := [(1, .int ((0))), (0, .ref (ad (h0)))]) X dX11_away_7 rfl (by decide) rfl ?_
  refine r_iconst (v := (0)) X dX11_away_8 (by decide) ?_
  refine r_istore_n (lv2 := [(2, .int ((0))), (1, .int ((0))), (0, .ref (ad (h0)))]) X dX11_away_9 rfl (by decide) rfl ?_
  exact r_sub [2, 1, 0] rfl (hL10 4000 ((0)) ((0)) m1 h)
noncomputable def f_X11_joy (h0 : Nat) (mem : Mm) : Option (Int32 × Mm) :=
  bdI (f_X11_tryDay h0 ((0)) mem) fun x2 m1 => some (x2, m1)
theorem dd_X11_joy : yX11_joy.cls = RX11 ∧ yX11_joy.cls ≠ "java/lang/invoke/MethodHandle" ∧ yX11_joy.cls ≠ "java/lang/invoke/VarHandle" ∧ (parseMethodDescriptor yX11_joy.desc).map (fun d => d.parameters.length) = some 0 := by decide +kernel
set_option maxHeartbeats 4000000 in
set_option maxRecDepth 100000 in
theorem k_X11_joy {l : Launch} {ad : Nat → Nat} {cy : Nat → ClassId} {dC : Nat → ClassId} {dI : Nat → Nat → Nat} {ks : (Nat → Nat) × (Nat → Nat)} {h0 : Nat} {mem : Mm} {r2 : Int32} {mem2 : Mm} (e0 : Lp.1 h0 = 11) (h : f_X11_joy h0 mem = some (r2, mem2)) : CtI l Lp ad cy dC dI ks yX11_joy cX11_joy 1 (some .int) ({ frames := 6, cells := 0, slots := 0, locals := 133 }) [.ref (ad (h0))] mem r2 mem2 := by
  refine CtI.of (cc := cX11_joy) (maxL := 1) (ret := (some .int)) (own := RX11) rfl (by decide) (Nat.le_of_ble_eq_true rfl) ?_
  intro p e s m args below meth c A X
  have hts := X.2.2.2.2.1
  unfold f_X11_joy at h
  refine r_aload_n X dX11_joy_0 rfl 0 rfl ?_
  refine r_iconst (v := (0)) X dX11_joy_1 (by decide) ?_
  refine r_cVI (As := [.int ((0))]) (rest := []) X (fun r9 m9 hg => k_X11_tryDay e0 hg) h (Lp_N e0 rfl) e0 rfl (by decide) uw4_61 uw4_63 us2_8 uw1_1 uw4_64 rfl rfl dd_X11_tryDay ⟨Nat.le_of_ble_eq_true rfl, Nat.le_of_ble_eq_true rfl⟩ rfl (Nat.le_of_ble_eq_true rfl) dX11_joy_2 rfl (fun x2 m1 h => ?_)
  exact r_iret2 X rfl dX11_joy_5 h
noncomputable def f_X11_remember_J59 (h0 : Nat) (x6 : Int32) (m7 : Mm) : Option Mm :=
  bnd (sI m7 h0 13 x6) fun m8 => bnd (if (gI m8 h0 14) + ((1)) < (16) then (gI m8 h0 14) + ((1)) else (16)) fun x9 => bnd (sI m8 h0 14 x9) fun m10 => some m10
noncomputable def f_X11_remember_J21 (h0 : Nat) (m3 : Mm) : Option Mm :=
  grd (inb (gI m3 h0 13) (Lp.2.1 (h0 + 132))) (bnd (h0 + 132 + (1 + 2 * (gI m3 h0 13).toNatClampNeg)) fun q4 => bdV (f_X6_copyFrom q4 (h0 + 64) m3) fun m5 => if ((16)) ≤ ((gI m5 h0 13) + ((1))) then (f_X11_remember_J59 h0 ((0)) m5) else (f_X11_remember_J59 h0 ((gI m5 h0 13) + ((1))) m5))
noncomputable def f_X11_remember_J16 (h0 : Nat) (m1 : Mm) : Option Mm :=
  bnd (sI m1 h0 13 ((0))) fun m2 => f_X11_remember_J21 h0 m2
noncomputable def f_X11_remember (h0 : Nat) (mem : Mm) : Option Mm :=
  if (gI mem h0 13) < 0 then (f_X11_remember_J16 h0 mem) else (if (gI mem h0 13) < ((16)) then (f_X11_remember_J21 h0 mem) else (f_X11_remember_J16 h0 mem))
theorem dd_X11_remember : yX11_remember.cls = RX11 ∧ yX11_remember.cls ≠ "java/lang/invoke/MethodHandle" ∧ yX11_remember.cls ≠ "java/lang/invoke/VarHandle" ∧ (parseMethodDescriptor yX11_remember.desc).map (fun d => d.parameters.length) = some 0 := by decide +kernel
set_option maxHeartbeats 4000000 in
set_option maxRecDepth 100000 in
theorem k_X11_remember {l : Launch} {ad : Nat → Nat} {cy : Nat → ClassId} {dC : Nat → ClassId} {dI : Nat → Nat → Nat} {ks : (Nat → Nat) × (Nat → Nat)} {h0 : Nat} {mem : Mm} {mem2 : Mm} (e0 : Lp.1 h0 = 11) (h : f_X11_remember h0 mem = some mem2) : CtV l Lp ad cy dC dI ks yX11_remember cX11_remember 1 none ({ frames := 1, cells := 0, slots := 0, locals := 22 }) [.ref (ad (h0))] mem mem2 := by
  refine CtV.of (cc := cX11_remember) (maxL := 1) (ret := none) (own := RX11) rfl (by decide) (Nat.le_of_ble_eq_true rfl) ?_
  intro p e s m args below meth c A X
  have hts := X.2.2.2.2.1
  have hJ59 : ∀ (x6 : Int32) (m7 : Mm), f_X11_remember_J59 h0 x6 m7 = some mem2 → Jd p l e ({ frames := 1, cells := 0, slots := 0, locals := 22 }) s m args below meth c 1 (MQ below (PsV Lp ad cy dC dI mem2 A) args s 0 0 A) A dC dI cy Lp ad m7 59 [(0, .ref (ad (h0)))] [.int (x6), .ref (ad (h0))] := by
    intro x6 m7 h
    unfold f_X11_remember_J59 at h
    refine r_putI X (k := 13) (Lp_N e0 rfl) e0 rfl (by decide) ui_11 (by decide) uw2_196 tyX11_ok nmX11 rfl rfl rfl dX11_remember_59 ?_
    refine r_nmM h (fun m8 h => ?_)
    refine r_aload_n X dX11_remember_62 rfl 0 rfl ?_
    refine r_bipush (v := (16)) X dX11_remember_63 (by decide) ?_
    refine r_aload_n X dX11_remember_65 rfl 0 rfl ?_
    refine r_getI X (k := 14) (Lp_N e0 rfl) e0 rfl (by decide) ui_11 (by decide) uw2_197 rfl dX11_remember_66 ?_
    refine r_iconst (v := (1)) X dX11_remember_69 (by decide) ?_
    refine r_iadd X dX11_remember_70 ?_
    refine r_mmin X uw4_165 uw3_104 uw1_18 uw3_105 (Nat.le_of_ble_eq_true rfl) (Nat.le_of_ble_eq_true rfl) dX11_remember_71 ?_
    refine r_nmI h (fun x9 h => ?_)
    refine r_putI X (k := 14) (Lp_N e0 rfl) e0 rfl (by decide) ui_11 (by decide) uw2_197 tyX11_ok nmX11 rfl rfl rfl dX11_remember_74 ?_
    refine r_nmM h (fun m10 h => ?_)
    exact r_vret X rfl dX11_remember_77 h
  have hJ21 : ∀ (m3 : Mm), f_X11_remember_J21 h0 m3 = some mem2 → Jd p l e ({ frames := 1, cells := 0, slots := 0, locals := 22 }) s m args below meth c 1 (MQ below (PsV Lp ad cy dC dI mem2 A) args s 0 0 A) A dC dI cy Lp ad m3 21 [(0, .ref (ad (h0)))] [] := by
    intro m3 h
    unfold f_X11_remember_J21 at h
    refine r_aload_n X dX11_remember_21 rfl 0 rfl ?_
    refine r_getF X (k := 12) (of := 132) rfl (Lp_N e0 rfl) e0 rfl (by decide) ui_11 (by decide) uw2_195 rfl dX11_remember_22 ?_
    refine r_aload_n X dX11_remember_25 rfl 0 rfl ?_
    refine r_getI X (k := 13) (Lp_N e0 rfl) e0 rfl (by decide) ui_11 (by decide) uw2_196 rfl dX11_remember_26 ?_
    refine r_ald19 X (Lp_N (Lp_11_12 e0) rfl) (Lp_11_12 e0) (Lp_e19 (Lp_11_12 e0)) rfl h dX11_remember_29 (fun q4 eq4 h => ?_)
    refine r_aload_n X dX11_remember_30 rfl 0 rfl ?_
    refine r_getF X (k := 4) (of := 64) rfl (Lp_N e0 rfl) e0 rfl (by decide) ui_11 (by decide) uw2_187 rfl dX11_remember_31 ?_
    refine r_cVV (As := [.ref (ad (h0 + 64))]) (rest := []) X (fun m9 hg => k_X6_copyFrom eq4 (Lp_11_4 e0) hg) h (Lp_N eq4 rfl) eq4 rfl (by decide) uw4_65 uw4_66 uw4_67 uw1_7 uw4_68 rfl rfl dd_X6_copyFrom ⟨Nat.le_of_ble_eq_true rfl, Nat.le_of_ble_eq_true rfl⟩ rfl (Nat.le_of_ble_eq_true rfl) dX11_remember_34 rfl (fun m5 h => ?_)
    refine r_aload_n X dX11_remember_37 rfl 0 rfl ?_
    refine r_aload_n X dX11_remember_38 rfl 0 rfl ?_
    refine r_getI X (k := 13) (Lp_N e0 rfl) e0 rfl (by decide) ui_11 (by decide) uw2_196 rfl dX11_remember_39 ?_
    refine r_iconst (v := (1)) X dX11_remember_42 (by decide) ?_
    refine r_iadd X dX11_remember_43 ?_
    refine r_bipush (v := (16)) X dX11_remember_44 (by decide) ?_
    refine r_icmp_ge (tgt := 58) X dX11_remember_46 (by decide) h (fun h => ?_) (fun h => ?_)
    · refine r_iconst (v := (0)) X dX11_remember_58 (by decide) ?_
      exact r_sub [0] rfl (hJ59 ((0)) m5 h)
    · refine r_aload_n X dX11_remember_49 rfl 0 rfl ?_
      refine r_getI X (k := 13) (Lp_N e0 rfl) e0 rfl (by decide) ui_11 (by decide) uw2_196 rfl dX11_remember_50 ?_
      refine r_iconst (v := (1)) X dX11_remember_53 (by decide) ?_
      refine r_iadd X dX11_remember_54 ?_
      refine r_goto (tgt := 59) X dX11_remember_55 (by decide) ?_
      exact r_sub [0] rfl (hJ59 ((gI m5 h0 13) + ((1))) m5 h)
  have hJ16 : ∀ (m1 : Mm), f_X11_remember_J16 h0 m1 = some mem2 → Jd p l e ({ frames := 1, cells := 0, slots := 0, locals := 22 }) s m args below meth c 1 (MQ below (PsV Lp ad cy dC dI mem2 A) args s 0 0 A) A dC dI cy Lp ad m1 16 [(0, .ref (ad (h0)))] [] := by
    intro m1 h
    unfold f_X11_remember_J16 at h
    refine r_aload_n X dX11_remember_16 rfl 0 rfl ?_
    refine r_iconst (v := (0)) X dX11_remember_17 (by decide) ?_
    refine r_putI X (k := 13) (Lp_N e0 rfl) e0 rfl (by decide) ui_11 (by decide) uw2_196 tyX11_ok nmX11 rfl rfl rfl dX11_remember_18 ?_
    refine r_nmM h (fun m2 h => ?_)
    exact r_sub [0] rfl (hJ21 m2 h)
  unfold f_X11_remember at h
  refine r_aload_n X dX11_remember_0 rfl 0 rfl ?_
  refine r_getI X (k := 13) (Lp_N e0 rfl) e0 rfl (by decide) ui_11 (by decide) uw2_196 rfl dX11_remember_1 ?_
  refine r_if_lt (tgt := 16) X dX11_remember_4 (by decide) h (fun h => ?_) (fun h => ?_)
  · exact r_sub [0] rfl (hJ16 mem h)
  · refine r_aload_n X dX11_remember_7 rfl 0 rfl ?_
    refine r_getI X (k := 13) (Lp_N e0 rfl) e0 rfl (by decide) ui_11 (by decide) uw2_196 rfl dX11_remember_8 ?_
    refine r_bipush (v := (16)) X dX11_remember_11 (by decide) ?_
    refine r_icmp_lt (tgt := 21) X dX11_remember_13 (by decide) h (fun h => ?_) (fun h => ?_)
    · exact r_sub [0] rfl (hJ21 mem h)
    · exact r_sub [0] rfl (hJ16 mem h)
noncomputable def f_X11_day (h0 : Nat) (mem : Mm) : Option (Int32 × Mm) :=
  bdV (f_X11_remember h0 mem) fun m1 => grd (decide (Lp.1 (gR m1 h0 2) = 7)) (bnd (gR m1 h0 2) fun q2 => bdV (f_X1_prepare (h0 + 82) q2 (gI m1 (h0 + 64) 2) m1) fun m3 => bdV (f_X1_pass (h0 + 82) (h0 + 64) ((0)) m3) fun m4 => bnd (sI m4 (h0 + 64) 1 ((gI m4 (h0 + 64) 1) + ((1)))) fun m5 => some (gI m5 (h0 + 82) 10, m5))
theorem dd_X11_day : yX11_day.cls = RX11 ∧ yX11_day.cls ≠ "java/lang/invoke/MethodHandle" ∧ yX11_day.cls ≠ "java/lang/invoke/VarHandle" ∧ (parseMethodDescriptor yX11_day.desc).map (fun d => d.parameters.length) = some 0 := by decide +kernel
set_option maxHeartbeats 4000000 in
set_option maxRecDepth 100000 in
theorem k_X11_day {l : Launch} {ad : Nat → Nat} {cy : Nat → ClassId} {dC : Nat → ClassId} {dI : Nat → Nat → Nat} {ks : (Nat → Nat) × (Nat → Nat)} {h0 : Nat} {mem : Mm} {r2 : Int32} {mem2 : Mm} (e0 : Lp.1 h0 = 11) (h : f_X11_day h0 mem = some (r2, mem2)) : CtI l Lp ad cy dC dI ks yX11_day cX11_day 1 (some .int) ({ frames := 5, cells := 0, slots := 0, locals := 112 }) [.ref (ad (h0))] mem r2 mem2 := by
  refine CtI.of (cc := cX11_day) (maxL := 1) (ret := (some .int)) (own := RX11) rfl (by decide) (Nat.le_of_ble_eq_true rfl) ?_
  intro p e s m args below meth c A X
  have hts := X.2.2.2.2.1
  have hl138 := X.2.2.2.2.2.2.1 (.fieldLinkNest "StationPiano" 138 "StationPiano$State" "minutes" "I" "StationPiano") (List.mem_of_getElem? (i := 57) rfl)
  have hl187 := X.2.2.2.2.2.2.1 (.fieldLinkNest "StationPiano" 187 "StationPiano$State" "day" "I" "StationPiano") (List.mem_of_getElem? (i := 56) rfl)
  have hl190 := X.2.2.2.2.2.2.1 (.fieldLinkNest "StationPiano" 190 "StationPiano$DayRun" "joySum" "I" "StationPiano") (List.mem_of_getElem? (i := 75) rfl)
  unfold f_X11_day at h
  refine r_aload_n X dX11_day_0 rfl 0 rfl ?_
  refine r_cVV (As := []) (rest := []) X (fun m9 hg => k_X11_remember e0 hg) h (Lp_N e0 rfl) e0 rfl (by decide) uw4_161 uw4_163 us3_2 uw1_1 uw4_164 rfl rfl dd_X11_remember ⟨Nat.le_of_ble_eq_true rfl, Nat.le_of_ble_eq_true rfl⟩ rfl (Nat.le_of_ble_eq_true rfl) dX11_day_1 rfl (fun m1 h => ?_)
  refine r_aload_n X dX11_day_4 rfl 0 rfl ?_
  refine r_getF X (k := 10) (of := 82) rfl (Lp_N e0 rfl) e0 rfl (by decide) ui_11 (by decide) uw2_193 rfl dX11_day_5 ?_
  refine r_aload_n X dX11_day_8 rfl 0 rfl ?_
  refine r_getR X 7 (k := 2) (Lp_N e0 rfl) e0 rfl (by decide) ui_11 (by decide) uw2_185 rfl h dX11_day_9 (fun q2 eq2 h => ?_)
  refine r_aload_n X dX11_day_12 rfl 0 rfl ?_
  refine r_getF X (k := 4) (of := 64) rfl (Lp_N e0 rfl) e0 rfl (by decide) ui_11 (by decide) uw2_187 rfl dX11_day_13 ?_
  refine r_getIN X (k := 2) (Lp_N (Lp_11_4 e0) rfl) (Lp_11_4 e0) rfl (by decide) ui_6 (by decide) hl138 rfl dX11_day_16 ?_
  refine r_cVV (As := [.ref (ad (q2)), .int (gI m1 (h0 + 64) 2)]) (rest := []) X (fun m9 hg => k_X1_prepare (Lp_11_10 e0) eq2 hg) h (Lp_N (Lp_11_10 e0) rfl) (Lp_11_10 e0) rfl (by decide) uw4_69 uw4_70 uw4_71 uw1_11 uw4_72 rfl rfl dd_X1_prepare ⟨Nat.le_of_ble_eq_true rfl, Nat.le_of_ble_eq_true rfl⟩ rfl (Nat.le_of_ble_eq_true rfl) dX11_day_19 rfl (fun m3 h => ?_)
  refine r_aload_n X dX11_day_22 rfl 0 rfl ?_
  refine r_getF X (k := 10) (of := 82) rfl (Lp_N e0 rfl) e0 rfl (by decide) ui_11 (by decide) uw2_193 rfl dX11_day_23 ?_
  refine r_aload_n X dX11_day_26 rfl 0 rfl ?_
  refine r_getF X (k := 4) (of := 64) rfl (Lp_N e0 rfl) e0 rfl (by decide) ui_11 (by decide) uw2_187 rfl dX11_day_27 ?_
  refine r_iconst (v := (0)) X dX11_day_30 (by decide) ?_
  refine r_cVV (As := [.ref (ad (h0 + 64)), .int ((0))]) (rest := []) X (fun m9 hg => k_X1_pass (Lp_11_10 e0) (Lp_11_4 e0) hg) h (Lp_N (Lp_11_10 e0) rfl) (Lp_11_10 e0) rfl (by decide) uw4_96 uw4_97 uw4_98 uw1_11 uw4_99 rfl rfl dd_X1_pass ⟨Nat.le_of_ble_eq_true rfl, Nat.le_of_ble_eq_true rfl⟩ rfl (Nat.le_of_ble_eq_true rfl) dX11_day_31 rfl (fun m4 h => ?_)
  refine r_aload_n X dX11_day_34 rfl 0 rfl ?_
  refine r_getF X (k := 4) (of := 64) rfl (Lp_N e0 rfl) e0 rfl (by decide) ui_11 (by decide) uw2_187 rfl dX11_day_35 ?_
  refine r_dup X dX11_day_38 rfl ?_
  refine r_getIN X (k := 1) (Lp_N (Lp_11_4 e0) rfl) (Lp_11_4 e0) rfl (by decide) ui_6 (by decide) hl187 rfl dX11_day_39 ?_
  refine r_iconst (v := (1)) X dX11_day_42 (by decide) ?_
  refine r_iadd X dX11_day_43 ?_
  refine r_putIN X (k := 1) (Lp_N (Lp_11_4 e0) rfl) (Lp_11_4 e0) rfl (by decide) ui_6 (by decide) hl187 tyX6_ok nmX6 rfl rfl rfl dX11_day_44 ?_
  refine r_nmM h (fun m5 h => ?_)
  refine r_aload_n X dX11_day_47 rfl 0 rfl ?_
  refine r_getF X (k := 10) (of := 82) rfl (Lp_N e0 rfl) e0 rfl (by decide) ui_11 (by decide) uw2_193 rfl dX11_day_48 ?_
  refine r_getIN X (k := 10) (Lp_N (Lp_11_10 e0) rfl) (Lp_11_10 e0) rfl (by decide) ui_1 (by decide) hl190 rfl dX11_day_51 ?_
  exact r_iret2 X rfl dX11_day_54 h
noncomputable def f_X11_mend (h0 : Nat) (mem : Mm) : Option (Int32 × Mm) :=
  bdV (f_X11_remember h0 mem) fun m1 => grd (decide (Lp.1 (gR m1 h0 2) = 7)) (bnd (gR m1 h0 2) fun q2 => bdI (f_X6_tuneUp (h0 + 64) (gI m1 q2 12) m1) fun x4 m3 => some (x4, m3))
theorem dd_X11_mend : yX11_mend.cls = RX11 ∧ yX11_mend.cls ≠ "java/lang/invoke/MethodHandle" ∧ yX11_mend.cls ≠ "java/lang/invoke/VarHandle" ∧ (parseMethodDescriptor yX11_mend.desc).map (fun d => d.parameters.length) = some 0 := by decide +kernel
set_option maxHeartbeats 4000000 in
set_option maxRecDepth 100000 in
theorem k_X11_mend {l : Launch} {ad : Nat → Nat} {cy : Nat → ClassId} {dC : Nat → ClassId} {dI : Nat → Nat → Nat} {ks : (Nat → Nat) × (Nat → Nat)} {h0 : Nat} {mem : Mm} {r2 : Int32} {mem2 : Mm} (e0 : Lp.1 h0 = 11) (h : f_X11_mend h0 mem = some (r2, mem2)) : CtI l Lp ad cy dC dI ks yX11_mend cX11_mend 1 (some .int) ({ frames := 2, cells := 0, slots := 0, locals := 42 }) [.ref (ad (h0))] mem r2 mem2 := by
  refine CtI.of (cc := cX11_mend) (maxL := 1) (ret := (some .int)) (own := RX11) rfl (by decide) (Nat.le_of_ble_eq_true rfl) ?_
  intro p e s m args below meth c A X
  have hts := X.2.2.2.2.1
  have hl193 := X.2.2.2.2.2.2.1 (.fieldLinkNest "StationPiano" 193 "StationPiano$Station" "price" "I" "StationPiano") (List.mem_of_getElem? (i := 51) rfl)
  unfold f_X11_mend at h
  refine r_aload_n X dX11_mend_0 rfl 0 rfl ?_
  refine r_cVV (As := []) (rest := []) X (fun m9 hg => k_X11_remember e0 hg) h (Lp_N e0 rfl) e0 rfl (by decide) uw4_161 uw4_163 us3_2 uw1_1 uw4_164 rfl rfl dd_X11_remember ⟨Nat.le_of_ble_eq_true rfl, Nat.le_of_ble_eq_true rfl⟩ rfl (Nat.le_of_ble_eq_true rfl) dX11_mend_1 rfl (fun m1 h => ?_)
  refine r_aload_n X dX11_mend_4 rfl 0 rfl ?_
  refine r_getF X (k := 4) (of := 64) rfl (Lp_N e0 rfl) e0 rfl (by decide) ui_11 (by decide) uw2_187 rfl dX11_mend_5 ?_
  refine r_aload_n X dX11_mend_8 rfl 0 rfl ?_
  refine r_getR X 7 (k := 2) (Lp_N e0 rfl) e0 rfl (by decide) ui_11 (by decide) uw2_185 rfl h dX11_mend_9 (fun q2 eq2 h => ?_)
  refine r_getIN X (k := 12) (Lp_N eq2 rfl) eq2 rfl (by decide) ui_7 (by decide) hl193 rfl dX11_mend_12 ?_
  refine r_cVI (As := [.int (gI m1 q2 12)]) (rest := []) X (fun r9 m9 hg => k_X6_tuneUp (Lp_11_4 e0) hg) h (Lp_N (Lp_11_4 e0) rfl) (Lp_11_4 e0) rfl (by decide) uw4_170 uw4_171 uw4_172 uw1_7 uw4_173 rfl rfl dd_X6_tuneUp ⟨Nat.le_of_ble_eq_true rfl, Nat.le_of_ble_eq_true rfl⟩ rfl (Nat.le_of_ble_eq_true rfl) dX11_mend_15 rfl (fun x4 m3 h => ?_)
  exact r_iret2 X rfl dX11_mend_18 h
noncomputable def f_X11_isEach (p0 : Int32) (mem : Mm) : Option (Int32 × Mm) :=
  if p0 < ((1)) then (grd (bok ((0))) (some ((0), mem))) else (if ((30)) < p0 then (grd (bok ((0))) (some ((0), mem))) else (grd (bok ((1))) (some ((1), mem))))
theorem dd_X11_isEach : yX11_isEach.cls ≠ "java/lang/invoke/MethodHandle" ∧ yX11_isEach.cls ≠ "java/lang/invoke/VarHandle" ∧ (parseMethodDescriptor yX11_isEach.desc).map (fun d => d.parameters.length) = some 1 := by decide +kernel
set_option maxHeartbeats 4000000 in
set_option maxRecDepth 100000 in
theorem k_X11_isEach {l : Launch} {ad : Nat → Nat} {cy : Nat → ClassId} {dC : Nat → ClassId} {dI : Nat → Nat → Nat} {ks : (Nat → Nat) × (Nat → Nat)} {p0 : Int32} {mem : Mm} {r2 : Int32} {mem2 : Mm}  (h : f_X11_isEach p0 mem = some (r2, mem2)) : CtI l Lp ad cy dC dI ks yX11_isEach cX11_isEach 1 (some .boolean) ({ frames := 0, cells := 0, slots := 0, locals := 0 }) [.int (p0)] mem r2 mem2 := by
  refine CtI.of (cc := cX11_isEach) (maxL := 1) (ret := (some .boolean)) (own := RX11) rfl (by decide) (Nat.le_of_ble_eq_true rfl) ?_
  intro p e s m args below meth c A X
  have hts := X.2.2.2.2.1
  unfold f_X11_isEach at h
  refine r_iload_n X dX11_isEach_0 rfl 0 rfl ?_
  refine r_iconst (v := (1)) X dX11_isEach_1 (by decide) ?_
  refine r_icmp_lt (tgt := 15) X dX11_isEach_2 (by decide) h (fun h => ?_) (fun h => ?_)
  · refine r_iconst (v := (0)) X dX11_isEach_15 (by decide) ?_
    exact r_zret2 X rfl dX11_isEach_16 h
  · refine r_iload_n X dX11_isEach_5 rfl 0 rfl ?_
    refine r_bipush (v := (30)) X dX11_isEach_6 (by decide) ?_
    refine r_icmp_gt (tgt := 15) X dX11_isEach_8 (by decide) h (fun h => ?_) (fun h => ?_)
    · refine r_iconst (v := (0)) X dX11_isEach_15 (by decide) ?_
      exact r_zret2 X rfl dX11_isEach_16 h
    · refine r_iconst (v := (1)) X dX11_isEach_11 (by decide) ?_
      refine r_goto (tgt := 16) X dX11_isEach_12 (by decide) ?_
      exact r_zret2 X rfl dX11_isEach_16 h
noncomputable def f_X11_each (h0 : Nat) (p1 : Int32) (mem : Mm) : Option (Int32 × Mm) :=
  bdI (f_X11_isEach p1 mem) fun x2 m1 => if ¬ x2 = 0 then (bdV (f_X11_remember h0 m1) fun m3 => bnd (sI m3 (h0 + 64) 2 p1) fun m4 => grd (bok ((1))) (some ((1), m4))) else (grd (bok ((0))) (some ((0), m1)))
theorem dd_X11_each : yX11_each.cls = RX11 ∧ yX11_each.cls ≠ "java/lang/invoke/MethodHandle" ∧ yX11_each.cls ≠ "java/lang/invoke/VarHandle" ∧ (parseMethodDescriptor yX11_each.desc).map (fun d => d.parameters.length) = some 1 := by decide +kernel
set_option maxHeartbeats 4000000 in
set_option maxRecDepth 100000 in
theorem k_X11_each {l : Launch} {ad : Nat → Nat} {cy : Nat → ClassId} {dC : Nat → ClassId} {dI : Nat → Nat → Nat} {ks : (Nat → Nat) × (Nat → Nat)} {h0 : Nat} {p1 : Int32} {mem : Mm} {r2 : Int32} {mem2 : Mm} (e0 : Lp.1 h0 = 11) (h : f_X11_each h0 p1 mem = some (r2, mem2)) : CtI l Lp ad cy dC dI ks yX11_each cX11_each 2 (some .boolean) ({ frames := 2, cells := 0, slots := 0, locals := 42 }) [.ref (ad (h0)), .int (p1)] mem r2 mem2 := by
  refine CtI.of (cc := cX11_each) (maxL := 2) (ret := (some .boolean)) (own := RX11) rfl (by decide) (Nat.le_of_ble_eq_true rfl) ?_
  intro p e s m args below meth c A X
  have hts := X.2.2.2.2.1
  have hl138 := X.2.2.2.2.2.2.1 (.fieldLinkNest "StationPiano" 138 "StationPiano$State" "minutes" "I" "StationPiano") (List.mem_of_getElem? (i := 57) rfl)
  unfold f_X11_each at h
  refine r_iload_n X dX11_each_0 rfl 1 rfl ?_
  refine r_cSI (As := [.int (p1)]) (rest := []) X (fun r9 m9 hg => k_X11_isEach hg) h uw4_178 uw4_179 uw1_1 uw4_180 rfl rfl dd_X11_isEach ⟨Nat.le_of_ble_eq_true rfl, Nat.le_of_ble_eq_true rfl⟩ rfl (Nat.le_of_ble_eq_true rfl) dX11_each_1 rfl (fun x2 m1 h => ?_)
  refine r_if_ne (tgt := 9) X dX11_each_4 (by decide) h (fun h => ?_) (fun h => ?_)
  · refine r_aload_n X dX11_each_9 rfl 0 rfl ?_
    refine r_cVV (As := []) (rest := []) X (fun m9 hg => k_X11_remember e0 hg) h (Lp_N e0 rfl) e0 rfl (by decide) uw4_161 uw4_163 us3_2 uw1_1 uw4_164 rfl rfl dd_X11_remember ⟨Nat.le_of_ble_eq_true rfl, Nat.le_of_ble_eq_true rfl⟩ rfl (Nat.le_of_ble_eq_true rfl) dX11_each_10 rfl (fun m3 h => ?_)
    refine r_aload_n X dX11_each_13 rfl 0 rfl ?_
    refine r_getF X (k := 4) (of := 64) rfl (Lp_N e0 rfl) e0 rfl (by decide) ui_11 (by decide) uw2_187 rfl dX11_each_14 ?_
    refine r_iload_n X dX11_each_17 rfl 1 rfl ?_
    refine r_putIN X (k := 2) (Lp_N (Lp_11_4 e0) rfl) (Lp_11_4 e0) rfl (by decide) ui_6 (by decide) hl138 tyX6_ok nmX6 rfl rfl rfl dX11_each_18 ?_
    refine r_nmM h (fun m4 h => ?_)
    refine r_iconst (v := (1)) X dX11_each_21 (by decide) ?_
    exact r_zret2 X rfl dX11_each_22 h
  · refine r_iconst (v := (0)) X dX11_each_7 (by decide) ?_
    exact r_zret2 X rfl dX11_each_8 h
noncomputable def f_X11_open (h0 : Nat) (p1 : Int32) (p2 : Int32) (mem : Mm) : Option (Int32 × Mm) :=
  if p1 < 0 then (grd (bok ((0))) (some ((0), mem))) else (if ((60)) ≤ p1 then (grd (bok ((0))) (some ((0), mem))) else (if p2 ≤ p1 then (grd (bok ((0))) (some ((0), mem))) else (if p2 ≤ ((60)) then (bdV (f_X11_remember h0 mem) fun m1 => bnd (sI m1 (h0 + 64) 3 p1) fun m2 => bnd (sI m2 (h0 + 64) 4 p2) fun m3 => grd (bok ((1))) (some ((1), m3))) else (grd (bok ((0))) (some ((0), mem))))))
theorem dd_X11_open : yX11_open.cls = RX11 ∧ yX11_open.cls ≠ "java/lang/invoke/MethodHandle" ∧ yX11_open.cls ≠ "java/lang/invoke/VarHandle" ∧ (parseMethodDescriptor yX11_open.desc).map (fun d => d.parameters.length) = some 2 := by decide +kernel
set_option maxHeartbeats 4000000 in
set_option maxRecDepth 100000 in
theorem k_X11_open {l : Launch} {ad : Nat → Nat} {cy : Nat → ClassId} {dC : Nat → ClassId} {dI : Nat → Nat → Nat} {ks : (Nat → Nat) × (Nat → Nat)} {h0 : Nat} {p1 : Int32} {p2 : Int32} {mem : Mm} {r2 : Int32} {mem2 : Mm} (e0 : Lp.1 h0 = 11) (h : f_X11_open h0 p1 p2 mem = some (r2, mem2)) : CtI l Lp ad cy dC dI ks yX11_open cX11_open 3 (some .boolean) ({ frames := 2, cells := 0, slots := 0, locals := 42 }) [.ref (ad (h0)), .int (p1), .int (p2)] mem r2 mem2 := by
  refine CtI.of (cc := cX11_open) (maxL := 3) (ret := (some .boolean)) (own := RX11) rfl (by decide) (Nat.le_of_ble_eq_true rfl) ?_
  intro p e s m args below meth c A X
  have hts := X.2.2.2.2.1
  have hl202 := X.2.2.2.2.2.2.1 (.fieldLinkNest "StationPiano" 202 "StationPiano$State" "from" "I" "StationPiano") (List.mem_of_getElem? (i := 59) rfl)
  have hl205 := X.2.2.2.2.2.2.1 (.fieldLinkNest "StationPiano" 205 "StationPiano$State" "to" "I" "StationPiano") (List.mem_of_getElem? (i := 61) rfl)
  unfold f_X11_open at h
  refine r_iload_n X dX11_open_0 rfl 1 rfl ?_
  refine r_if_lt (tgt := 21) X dX11_open_1 (by decide) h (fun h => ?_) (fun h => ?_)
  · refine r_iconst (v := (0)) X dX11_open_21 (by decide) ?_
    exact r_zret2 X rfl dX11_open_22 h
  · refine r_iload_n X dX11_open_4 rfl 1 rfl ?_
    refine r_bipush (v := (60)) X dX11_open_5 (by decide) ?_
    refine r_icmp_ge (tgt := 21) X dX11_open_7 (by decide) h (fun h => ?_) (fun h => ?_)
    · refine r_iconst (v := (0)) X dX11_open_21 (by decide) ?_
      exact r_zret2 X rfl dX11_open_22 h
    · refine r_iload_n X dX11_open_10 rfl 2 rfl ?_
      refine r_iload_n X dX11_open_11 rfl 1 rfl ?_
      refine r_icmp_le (tgt := 21) X dX11_open_12 (by decide) h (fun h => ?_) (fun h => ?_)
      · refine r_iconst (v := (0)) X dX11_open_21 (by decide) ?_
        exact r_zret2 X rfl dX11_open_22 h
      · refine r_iload_n X dX11_open_15 rfl 2 rfl ?_
        refine r_bipush (v := (60)) X dX11_open_16 (by decide) ?_
        refine r_icmp_le (tgt := 23) X dX11_open_18 (by decide) h (fun h => ?_) (fun h => ?_)
        · refine r_aload_n X dX11_open_23 rfl 0 rfl ?_
          refine r_cVV (As := []) (rest := []) X (fun m9 hg => k_X11_remember e0 hg) h (Lp_N e0 rfl) e0 rfl (by decide) uw4_161 uw4_163 us3_2 uw1_1 uw4_164 rfl rfl dd_X11_remember ⟨Nat.le_of_ble_eq_true rfl, Nat.le_of_ble_eq_true rfl⟩ rfl (Nat.le_of_ble_eq_true rfl) dX11_open_24 rfl (fun m1 h => ?_)
          refine r_aload_n X dX11_open_27 rfl 0 rfl ?_
          refine r_getF X (k := 4) (of := 64) rfl (Lp_N e0 rfl) e0 rfl (by decide) ui_11 (by decide) uw2_187 rfl dX11_open_28 ?_
          refine r_iload_n X dX11_open_31 rfl 1 rfl ?_
          refine r_putIN X (k := 3) (Lp_N (Lp_11_4 e0) rfl) (Lp_11_4 e0) rfl (by decide) ui_6 (by decide) hl202 tyX6_ok nmX6 rfl rfl rfl dX11_open_32 ?_
          refine r_nmM h (fun m2 h => ?_)
          refine r_aload_n X dX11_open_35 rfl 0 rfl ?_
          refine r_getF X (k := 4) (of := 64) rfl (Lp_N e0 rfl) e0 rfl (by decide) ui_11 (by decide) uw2_187 rfl dX11_open_36 ?_
          refine r_iload_n X dX11_open_39 rfl 2 rfl ?_
          refine r_putIN X (k := 4) (Lp_N (Lp_11_4 e0) rfl) (Lp_11_4 e0) rfl (by decide) ui_6 (by decide) hl205 tyX6_ok nmX6 rfl rfl rfl dX11_open_40 ?_
          refine r_nmM h (fun m3 h => ?_)
          refine r_iconst (v := (1)) X dX11_open_43 (by decide) ?_
          exact r_zret2 X rfl dX11_open_44 h
        · refine r_iconst (v := (0)) X dX11_open_21 (by decide) ?_
          exact r_zret2 X rfl dX11_open_22 h
noncomputable def f_X11_undo_J37 (h0 : Nat) (x2 : Int32) (m3 : Mm) : Option (Int32 × Mm) :=
  bnd (sI m3 h0 13 x2) fun m4 => bnd (sI m4 h0 14 ((gI m4 h0 14) - ((1)))) fun m5 => grd (inb (gI m5 h0 13) (Lp.2.1 (h0 + 132))) (bnd (h0 + 132 + (1 + 2 * (gI m5 h0 13).toNatClampNeg)) fun q6 => bdV (f_X6_copyFrom (h0 + 64) q6 m5) fun m7 => grd (bok ((1))) (some ((1), m7)))
noncomputable def f_X11_undo_J35 (h0 : Nat) (m1 : Mm) : Option (Int32 × Mm) :=
  f_X11_undo_J37 h0 ((15)) m1
noncomputable def f_X11_undo (h0 : Nat) (mem : Mm) : Option (Int32 × Mm) :=
  if 0 < (gI mem h0 14) then (if (gI mem h0 13) ≤ 0 then (f_X11_undo_J35 h0 mem) else (if ((16)) ≤ (gI mem h0 13) then (f_X11_undo_J35 h0 mem) else (f_X11_undo_J37 h0 ((gI mem h0 13) - ((1))) mem))) else (grd (bok ((0))) (some ((0), mem)))
theorem dd_X11_undo : yX11_undo.cls = RX11 ∧ yX11_undo.cls ≠ "java/lang/invoke/MethodHandle" ∧ yX11_undo.cls ≠ "java/lang/invoke/VarHandle" ∧ (parseMethodDescriptor yX11_undo.desc).map (fun d => d.parameters.length) = some 0 := by decide +kernel
set_option maxHeartbeats 4000000 in
set_option maxRecDepth 100000 in
theorem k_X11_undo {l : Launch} {ad : Nat → Nat} {cy : Nat → ClassId} {dC : Nat → ClassId} {dI : Nat → Nat → Nat} {ks : (Nat → Nat) × (Nat → Nat)} {h0 : Nat} {mem : Mm} {r2 : Int32} {mem2 : Mm} (e0 : Lp.1 h0 = 11) (h : f_X11_undo h0 mem = some (r2, mem2)) : CtI l Lp ad cy dC dI ks yX11_undo cX11_undo 1 (some .boolean) ({ frames := 1, cells := 0, slots := 0, locals := 22 }) [.ref (ad (h0))] mem r2 mem2 := by
  refine CtI.of (cc := cX11_undo) (maxL := 1) (ret := (some .boolean)) (own := RX11) rfl (by decide) (Nat.le_of_ble_eq_true rfl) ?_
  intro p e s m args below meth c A X
  have hts := X.2.2.2.2.1
  have hJ37 : ∀ (x2 : Int32) (m3 : Mm), f_X11_undo_J37 h0 x2 m3 = some (r2, mem2) → Jd p l e ({ frames := 1, cells := 0, slots := 0, locals := 22 }) s m args below meth c 1 (MQ below (PsI Lp ad cy dC dI r2 mem2 A) args s 0 0 A) A dC dI cy Lp ad m3 37 [(0, .ref (ad (h0)))] [.int (x2), .ref (ad (h0))] := by
    intro x2 m3 h
    unfold f_X11_undo_J37 at h
    refine r_putI X (k := 13) (Lp_N e0 rfl) e0 rfl (by decide) ui_11 (by decide) uw2_196 tyX11_ok nmX11 rfl rfl rfl dX11_undo_37 ?_
    refine r_nmM h (fun m4 h => ?_)
    refine r_aload_n X dX11_undo_40 rfl 0 rfl ?_
    refine r_dup X dX11_undo_41 rfl ?_
    refine r_getI X (k := 14) (Lp_N e0 rfl) e0 rfl (by decide) ui_11 (by decide) uw2_197 rfl dX11_undo_42 ?_
    refine r_iconst (v := (1)) X dX11_undo_45 (by decide) ?_
    refine r_isub X dX11_undo_46 ?_
    refine r_putI X (k := 14) (Lp_N e0 rfl) e0 rfl (by decide) ui_11 (by decide) uw2_197 tyX11_ok nmX11 rfl rfl rfl dX11_undo_47 ?_
    refine r_nmM h (fun m5 h => ?_)
    refine r_aload_n X dX11_undo_50 rfl 0 rfl ?_
    refine r_getF X (k := 4) (of := 64) rfl (Lp_N e0 rfl) e0 rfl (by decide) ui_11 (by decide) uw2_187 rfl dX11_undo_51 ?_
    refine r_aload_n X dX11_undo_54 rfl 0 rfl ?_
    refine r_getF X (k := 12) (of := 132) rfl (Lp_N e0 rfl) e0 rfl (by decide) ui_11 (by decide) uw2_195 rfl dX11_undo_55 ?_
    refine r_aload_n X dX11_undo_58 rfl 0 rfl ?_
    refine r_getI X (k := 13) (Lp_N e0 rfl) e0 rfl (by decide) ui_11 (by decide) uw2_196 rfl dX11_undo_59 ?_
    refine r_ald19 X (Lp_N (Lp_11_12 e0) rfl) (Lp_11_12 e0) (Lp_e19 (Lp_11_12 e0)) rfl h dX11_undo_62 (fun q6 eq6 h => ?_)
    refine r_cVV (As := [.ref (ad (q6))]) (rest := []) X (fun m9 hg => k_X6_copyFrom (Lp_11_4 e0) eq6 hg) h (Lp_N (Lp_11_4 e0) rfl) (Lp_11_4 e0) rfl (by decide) uw4_65 uw4_66 uw4_67 uw1_7 uw4_68 rfl rfl dd_X6_copyFrom ⟨Nat.le_of_ble_eq_true rfl, Nat.le_of_ble_eq_true rfl⟩ rfl (Nat.le_of_ble_eq_true rfl) dX11_undo_63 rfl (fun m7 h => ?_)
    refine r_iconst (v := (1)) X dX11_undo_66 (by decide) ?_
    exact r_zret2 X rfl dX11_undo_67 h
  have hJ35 : ∀ (m1 : Mm), f_X11_undo_J35 h0 m1 = some (r2, mem2) → Jd p l e ({ frames := 1, cells := 0, slots := 0, locals := 22 }) s m args below meth c 1 (MQ below (PsI Lp ad cy dC dI r2 mem2 A) args s 0 0 A) A dC dI cy Lp ad m1 35 [(0, .ref (ad (h0)))] [.ref (ad (h0))] := by
    intro m1 h
    unfold f_X11_undo_J35 at h
    refine r_bipush (v := (15)) X dX11_undo_35 (by decide) ?_
    exact r_sub [0] rfl (hJ37 ((15)) m1 h)
  unfold f_X11_undo at h
  refine r_aload_n X dX11_undo_0 rfl 0 rfl ?_
  refine r_getI X (k := 14) (Lp_N e0 rfl) e0 rfl (by decide) ui_11 (by decide) uw2_197 rfl dX11_undo_1 ?_
  refine r_if_gt (tgt := 9) X dX11_undo_4 (by decide) h (fun h => ?_) (fun h => ?_)
  · refine r_aload_n X dX11_undo_9 rfl 0 rfl ?_
    refine r_aload_n X dX11_undo_10 rfl 0 rfl ?_
    refine r_getI X (k := 13) (Lp_N e0 rfl) e0 rfl (by decide) ui_11 (by decide) uw2_196 rfl dX11_undo_11 ?_
    refine r_if_le (tgt := 35) X dX11_undo_14 (by decide) h (fun h => ?_) (fun h => ?_)
    · exact r_sub [0] rfl (hJ35 mem h)
    · refine r_aload_n X dX11_undo_17 rfl 0 rfl ?_
      refine r_getI X (k := 13) (Lp_N e0 rfl) e0 rfl (by decide) ui_11 (by decide) uw2_196 rfl dX11_undo_18 ?_
      refine r_bipush (v := (16)) X dX11_undo_21 (by decide) ?_
      refine r_icmp_ge (tgt := 35) X dX11_undo_23 (by decide) h (fun h => ?_) (fun h => ?_)
      · exact r_sub [0] rfl (hJ35 mem h)
      · refine r_aload_n X dX11_undo_26 rfl 0 rfl ?_
        refine r_getI X (k := 13) (Lp_N e0 rfl) e0 rfl (by decide) ui_11 (by decide) uw2_196 rfl dX11_undo_27 ?_
        refine r_iconst (v := (1)) X dX11_undo_30 (by decide) ?_
        refine r_isub X dX11_undo_31 ?_
        refine r_goto (tgt := 37) X dX11_undo_32 (by decide) ?_
        exact r_sub [0] rfl (hJ37 ((gI mem h0 13) - ((1))) mem h)
  · refine r_iconst (v := (0)) X dX11_undo_7 (by decide) ?_
    exact r_zret2 X rfl dX11_undo_8 h
noncomputable def f_X11_judgeWeek_J209 (h0 : Nat) (k17 : Int32 → Int32 → Int32 → Mm → Option Mm) (x25 : Int32) (x26 : Int32) (x27 : Int32) (m28 : Mm) : Option Mm :=
  bnd (x27 + (1)) fun x29 => k17 x25 x26 x29 m28
noncomputable def f_X11_judgeWeek_J136 (h0 : Nat) (k17 : Int32 → Int32 → Int32 → Mm → Option Mm) (x34 : Int32) (x35 : Int32) (x36 : Int32) (m37 : Mm) : Option Mm :=
  f_X11_judgeWeek_J209 h0 k17 x36 x34 x35 m37
noncomputable def f_X11_judgeWeek_J135 (h0 : Nat) (k17 : Int32 → Int32 → Int32 → Mm → Option Mm) (x30 : Int32) (x31 : Int32) (x32 : Int32) (m33 : Mm) : Option Mm :=
  f_X11_judgeWeek_J136 h0 k17 x31 x32 x30 m33
noncomputable def f_X11_judgeWeek_J215 (h0 : Nat) (x19 : Int32) (x20 : Int32) (m21 : Mm) : Option Mm :=
  grd (inb ((0)) (Lp.2.1 (h0 + 165))) (bnd (sI m21 (h0 + 165) (0 : Int32).toNatClampNeg x19) fun m22 => grd (inb ((1)) (Lp.2.1 (h0 + 165))) (bnd (sI m22 (h0 + 165) (1 : Int32).toNatClampNeg x20) fun m23 => grd (inb ((2)) (Lp.2.1 (h0 + 165))) (bnd (sI m23 (h0 + 165) (2 : Int32).toNatClampNeg (gI m23 (h0 + 66) 5)) fun m24 => some m24)))
noncomputable def f_X11_judgeWeek_B17 (h0 : Nat) (k17 : Int32 → Int32 → Int32 → Mm → Option Mm) (x3 : Int32) (x4 : Int32) (x5 : Int32) (m6 : Mm) : Option Mm :=
  if (gI m6 (h0 + 68) 3) ≤ x5 then (f_X11_judgeWeek_J215 h0 x3 x4 m6) else (if ((40)) ≤ x5 then (f_X11_judgeWeek_J215 h0 x3 x4 m6) else (grd (inb x5 (Lp.2.1 (h0 + 68 + 1))) (if (gI m6 (h0 + 68 + 1) x5.toNatClampNeg) = (8) then (grd (inb x5 (Lp.2.1 (h0 + 68 + 2))) (bnd (sI m6 (h0 + 66) 2 (gI m6 (h0 + 68 + 2) x5.toNatClampNeg)) fun m7 => f_X11_judgeWeek_J209 h0 k17 x3 x4 x5 m7)) else (if (gI m6 (h0 + 68 + 1) x5.toNatClampNeg) = (14) then (grd (decide (Lp.1 (gR m6 h0 2) = 7)) (bnd (gR m6 h0 2) fun q8 => bdV (f_X1_prepare (h0 + 82) q8 (gI m6 (h0 + 66) 2) m6) fun m9 => bdV (f_X1_pass (h0 + 82) (h0 + 66) ((0)) m9) fun m10 => bnd (x4 + (gI m10 (h0 + 82) 10)) fun x11 => if ¬ x3 = ((-1)) then (f_X11_judgeWeek_J135 h0 k17 x3 x11 x5 m10) else (bdI (f_X6_goneKeys (h0 + 66) m10) fun x13 m12 => if x13 = 0 then (f_X11_judgeWeek_J135 h0 k17 x3 x11 x5 m12) else (f_X11_judgeWeek_J136 h0 k17 x11 x5 x5 m12)))) else (if (gI m6 (h0 + 68 + 1) x5.toNatClampNeg) = (15) then (grd (decide (Lp.1 (gR m6 h0 2) = 7)) (bnd (gR m6 h0 2) fun q14 => bdI (f_X6_tuneUp (h0 + 66) (gI m6 q14 12) m6) fun x16 m15 => f_X11_judgeWeek_J209 h0 k17 x3 x4 x5 m15)) else (grd (inb x5 (Lp.2.1 (h0 + 68 + 2))) (bnd (sI m6 (h0 + 66) 3 (gI m6 (h0 + 68 + 2) x5.toNatClampNeg)) fun m17 => grd (inb x5 (Lp.2.1 (h0 + 68 + 3))) (bnd (sI m17 (h0 + 66) 4 (gI m17 (h0 + 68 + 3) x5.toNatClampNeg)) fun m18 => f_X11_judgeWeek_J209 h0 k17 x3 x4 x5 m18))))))))
noncomputable def f_X11_judgeWeek (h0 : Nat) (mem : Mm) : Option Mm :=
  grd (decide (Lp.1 (gR mem h0 2) = 7)) (bnd (gR mem h0 2) fun q1 => bdV (f_X6_begin (h0 + 66) q1 mem) fun m2 => lop (fun _ _ _ _ => none) (f_X11_judgeWeek_B17 h0 ) 4000 ((-1)) ((0)) ((0)) m2)
theorem dd_X11_judgeWeek : yX11_judgeWeek.cls = RX11 ∧ yX11_judgeWeek.cls ≠ "java/lang/invoke/MethodHandle" ∧ yX11_judgeWeek.cls ≠ "java/lang/invoke/VarHandle" ∧ (parseMethodDescriptor yX11_judgeWeek.desc).map (fun d => d.parameters.length) = some 0 := by decide +kernel
set_option maxHeartbeats 4000000 in
set_option maxRecDepth 100000 in
theorem k_X11_judgeWeek {l : Launch} {ad : Nat → Nat} {cy : Nat → ClassId} {dC : Nat → ClassId} {dI : Nat → Nat → Nat} {ks : (Nat → Nat) × (Nat → Nat)} {h0 : Nat} {mem : Mm} {mem2 : Mm} (e0 : Lp.1 h0 = 11) (h : f_X11_judgeWeek h0 mem = some mem2) : CtV l Lp ad cy dC dI ks yX11_judgeWeek cX11_judgeWeek 4 none ({ frames := 5, cells := 0, slots := 0, locals := 112 }) [.ref (ad (h0))] mem mem2 := by
  refine CtV.of (cc := cX11_judgeWeek) (maxL := 4) (ret := none) (own := RX11) rfl (by decide) (Nat.le_of_ble_eq_true rfl) ?_
  intro p e s m args below meth c A X
  have hts := X.2.2.2.2.1
  have hl138 := X.2.2.2.2.2.2.1 (.fieldLinkNest "StationPiano" 138 "StationPiano$State" "minutes" "I" "StationPiano") (List.mem_of_getElem? (i := 57) rfl)
  have hl190 := X.2.2.2.2.2.2.1 (.fieldLinkNest "StationPiano" 190 "StationPiano$DayRun" "joySum" "I" "StationPiano") (List.mem_of_getElem? (i := 75) rfl)
  have hl193 := X.2.2.2.2.2.2.1 (.fieldLinkNest "StationPiano" 193 "StationPiano$Station" "price" "I" "StationPiano") (List.mem_of_getElem? (i := 51) rfl)
  have hl202 := X.2.2.2.2.2.2.1 (.fieldLinkNest "StationPiano" 202 "StationPiano$State" "from" "I" "StationPiano") (List.mem_of_getElem? (i := 59) rfl)
  have hl205 := X.2.2.2.2.2.2.1 (.fieldLinkNest "StationPiano" 205 "StationPiano$State" "to" "I" "StationPiano") (List.mem_of_getElem? (i := 61) rfl)
  have hl301 := X.2.2.2.2.2.2.1 (.fieldLinkNest "StationPiano" 301 "StationPiano$State" "paid" "I" "StationPiano") (List.mem_of_getElem? (i := 62) rfl)
  have hl308 := X.2.2.2.2.2.2.1 (.fieldLinkNest "StationPiano" 308 "StationPiano$Week" "length" "I" "StationPiano") (List.mem_of_getElem? (i := 67) rfl)
  have hl315 := X.2.2.2.2.2.2.1 (.fieldLinkNest "StationPiano" 315 "StationPiano$Week" "kinds" "[I" "StationPiano") (List.mem_of_getElem? (i := 63) rfl)
  have hl318 := X.2.2.2.2.2.2.1 (.fieldLinkNest "StationPiano" 318 "StationPiano$Week" "firsts" "[I" "StationPiano") (List.mem_of_getElem? (i := 64) rfl)
  have hl321 := X.2.2.2.2.2.2.1 (.fieldLinkNest "StationPiano" 321 "StationPiano$Week" "seconds" "[I" "StationPiano") (List.mem_of_getElem? (i := 65) rfl)
  have hJ209 : ∀ (k17 : Int32 → Int32 → Int32 → Mm → Option Mm) (hk17 : ∀ (x3 : Int32) (x4 : Int32) (x5 : Int32) (m6 : Mm), k17 x3 x4 x5 m6 = some mem2 → Jd p l e ({ frames := 5, cells := 0, slots := 0, locals := 112 }) s m args below meth c 4 (MQ below (PsV Lp ad cy dC dI mem2 A) args s 0 0 A) A dC dI cy Lp ad m6 17 [(0, .ref (ad (h0))), (1, .int (x3)), (2, .int (x4)), (3, .int (x5))] []) (x25 : Int32) (x26 : Int32) (x27 : Int32) (m28 : Mm), f_X11_judgeWeek_J209 h0 k17 x25 x26 x27 m28 = some mem2 → Jd p l e ({ frames := 5, cells := 0, slots := 0, locals := 112 }) s m args below meth c 4 (MQ below (PsV Lp ad cy dC dI mem2 A) args s 0 0 A) A dC dI cy Lp ad m28 209 [(0, .ref (ad (h0))), (1, .int (x25)), (2, .int (x26)), (3, .int (x27))] [] := by
    intro k17 hk17 x25 x26 x27 m28 h
    unfold f_X11_judgeWeek_J209 at h
    refine r_inc h (fun x29 e9 h => ?_)
    refine r_iinc (v := x29) (lv2 := [(3, .int (x29)), (0, .ref (ad (h0))), (1, .int (x25)), (2, .int (x26))]) X dX11_judgeWeek_209 3 rfl (by rw [e9]; rfl) (by decide) rfl ?_
    refine r_goto (tgt := 17) X dX11_judgeWeek_212 (by decide) ?_
    exact r_sub [1, 2, 3, 0] rfl (hk17 x25 x26 x29 m28 h)
  have hJ136 : ∀ (k17 : Int32 → Int32 → Int32 → Mm → Option Mm) (hk17 : ∀ (x3 : Int32) (x4 : Int32) (x5 : Int32) (m6 : Mm), k17 x3 x4 x5 m6 = some mem2 → Jd p l e ({ frames := 5, cells := 0, slots := 0, locals := 112 }) s m args below meth c 4 (MQ below (PsV Lp ad cy dC dI mem2 A) args s 0 0 A) A dC dI cy Lp ad m6 17 [(0, .ref (ad (h0))), (1, .int (x3)), (2, .int (x4)), (3, .int (x5))] []) (x34 : Int32) (x35 : Int32) (x36 : Int32) (m37 : Mm), f_X11_judgeWeek_J136 h0 k17 x34 x35 x36 m37 = some mem2 → Jd p l e ({ frames := 5, cells := 0, slots := 0, locals := 112 }) s m args below meth c 4 (MQ below (PsV Lp ad cy dC dI mem2 A) args s 0 0 A) A dC dI cy Lp ad m37 136 [(0, .ref (ad (h0))), (2, .int (x34)), (3, .int (x35))] [.int (x36)] := by
    intro k17 hk17 x34 x35 x36 m37 h
    unfold f_X11_judgeWeek_J136 at h
    refine r_istore_n (lv2 := [(1, .int (x36)), (0, .ref (ad (h0))), (2, .int (x34)), (3, .int (x35))]) X dX11_judgeWeek_136 rfl (by decide) rfl ?_
    refine r_goto (tgt := 209) X dX11_judgeWeek_137 (by decide) ?_
    exact r_sub [1, 0, 2, 3] rfl (hJ209 k17 hk17 x36 x34 x35 m37 h)
  have hJ135 : ∀ (k17 : Int32 → Int32 → Int32 → Mm → Option Mm) (hk17 : ∀ (x3 : Int32) (x4 : Int32) (x5 : Int32) (m6 : Mm), k17 x3 x4 x5 m6 = some mem2 → Jd p l e ({ frames := 5, cells := 0, slots := 0, locals := 112 }) s m args below meth c 4 (MQ below (PsV Lp ad cy dC dI mem2 A) args s 0 0 A) A dC dI cy Lp ad m6 17 [(0, .ref (ad (h0))), (1, .int (x3)), (2, .int (x4)), (3, .int (x5))] []) (x30 : Int32) (x31 : Int32) (x32 : Int32) (m33 : Mm), f_X11_judgeWeek_J135 h0 k17 x30 x31 x32 m33 = some mem2 → Jd p l e ({ frames := 5, cells := 0, slots := 0, locals := 112 }) s m args below meth c 4 (MQ below (PsV Lp ad cy dC dI mem2 A) args s 0 0 A) A dC dI cy Lp ad m33 135 [(0, .ref (ad (h0))), (1, .int (x30)), (2, .int (x31)), (3, .int (x32))] [] := by
    intro k17 hk17 x30 x31 x32 m33 h
    unfold f_X11_judgeWeek_J135 at h
    refine r_iload_n X dX11_judgeWeek_135 rfl 1 rfl ?_
    exact r_sub [0, 2, 3] rfl (hJ136 k17 hk17 x31 x32 x30 m33 h)
  have hJ215 : ∀ (x19 : Int32) (x20 : Int32) (m21 : Mm), f_X11_judgeWeek_J215 h0 x19 x20 m21 = some mem2 → Jd p l e ({ frames := 5, cells := 0, slots := 0, locals := 112 }) s m args below meth c 4 (MQ below (PsV Lp ad cy dC dI mem2 A) args s 0 0 A) A dC dI cy Lp ad m21 215 [(0, .ref (ad (h0))), (1, .int (x19)), (2, .int (x20))] [] := by
    intro x19 x20 m21 h
    unfold f_X11_judgeWeek_J215 at h
    refine r_aload_n X dX11_judgeWeek_215 rfl 0 rfl ?_
    refine r_getF X (k := 15) (of := 165) rfl (Lp_N e0 rfl) e0 rfl (by decide) ui_11 (by decide) uw2_198 rfl dX11_judgeWeek_216 ?_
    refine r_iconst (v := (0)) X dX11_judgeWeek_219 (by decide) ?_
    refine r_iload_n X dX11_judgeWeek_220 rfl 1 rfl ?_
    refine r_iast X (Lp_N (Lp_11_15 e0) rfl) (Lp_11_15 e0) h dX11_judgeWeek_221 (fun h => ?_)
    refine r_nmM h (fun m22 h => ?_)
    refine r_aload_n X dX11_judgeWeek_222 rfl 0 rfl ?_
    refine r_getF X (k := 15) (of := 165) rfl (Lp_N e0 rfl) e0 rfl (by decide) ui_11 (by decide) uw2_198 rfl dX11_judgeWeek_223 ?_
    refine r_iconst (v := (1)) X dX11_judgeWeek_226 (by decide) ?_
    refine r_iload_n X dX11_judgeWeek_227 rfl 2 rfl ?_
    refine r_iast X (Lp_N (Lp_11_15 e0) rfl) (Lp_11_15 e0) h dX11_judgeWeek_228 (fun h => ?_)
    refine r_nmM h (fun m23 h => ?_)
    refine r_aload_n X dX11_judgeWeek_229 rfl 0 rfl ?_
    refine r_getF X (k := 15) (of := 165) rfl (Lp_N e0 rfl) e0 rfl (by decide) ui_11 (by decide) uw2_198 rfl dX11_judgeWeek_230 ?_
    refine r_iconst (v := (2)) X dX11_judgeWeek_233 (by decide) ?_
    refine r_aload_n X dX11_judgeWeek_234 rfl 0 rfl ?_
    refine r_getF X (k := 5) (of := 66) rfl (Lp_N e0 rfl) e0 rfl (by decide) ui_11 (by decide) uw2_188 rfl dX11_judgeWeek_235 ?_
    refine r_getIN X (k := 5) (Lp_N (Lp_11_5 e0) rfl) (Lp_11_5 e0) rfl (by decide) ui_6 (by decide) hl301 rfl dX11_judgeWeek_238 ?_
    refine r_iast X (Lp_N (Lp_11_15 e0) rfl) (Lp_11_15 e0) h dX11_judgeWeek_241 (fun h => ?_)
    refine r_nmM h (fun m24 h => ?_)
    exact r_vret X rfl dX11_judgeWeek_242 h
  have hJ17 : ∀ (k17 : Int32 → Int32 → Int32 → Mm → Option Mm) (hk17 : ∀ (x3 : Int32) (x4 : Int32) (x5 : Int32) (m6 : Mm), k17 x3 x4 x5 m6 = some mem2 → Jd p l e ({ frames := 5, cells := 0, slots := 0, locals := 112 }) s m args below meth c 4 (MQ below (PsV Lp ad cy dC dI mem2 A) args s 0 0 A) A dC dI cy Lp ad m6 17 [(0, .ref (ad (h0))), (1, .int (x3)), (2, .int (x4)), (3, .int (x5))] []) (x3 : Int32) (x4 : Int32) (x5 : Int32) (m6 : Mm), f_X11_judgeWeek_B17 h0 k17 x3 x4 x5 m6 = some mem2 → Jd p l e ({ frames := 5, cells := 0, slots := 0, locals := 112 }) s m args below meth c 4 (MQ below (PsV Lp ad cy dC dI mem2 A) args s 0 0 A) A dC dI cy Lp ad m6 17 [(0, .ref (ad (h0))), (1, .int (x3)), (2, .int (x4)), (3, .int (x5))] [] := by
    intro k17 hk17 x3 x4 x5 m6 h
    unfold f_X11_judgeWeek_B17 at h
    refine r_iload_n X dX11_judgeWeek_17 rfl 3 rfl ?_
    refine r_aload_n X dX11_judgeWeek_18 rfl 0 rfl ?_
    refine r_getF X (k := 6) (of := 68) rfl (Lp_N e0 rfl) e0 rfl (by decide) ui_11 (by decide) uw2_189 rfl dX11_judgeWeek_19 ?_
    refine r_getIN X (k := 3) (Lp_N (Lp_11_6 e0) rfl) (Lp_11_6 e0) rfl (by decide) ui_10 (by decide) hl308 rfl dX11_judgeWeek_22 ?_
    refine r_icmp_ge (tgt := 215) X dX11_judgeWeek_25 (by decide) h (fun h => ?_) (fun h => ?_)
    · exact r_sub [0, 1, 2] rfl (hJ215 x3 x4 m6 h)
    · refine r_iload_n X dX11_judgeWeek_28 rfl 3 rfl ?_
      refine r_bipush (v := (40)) X dX11_judgeWeek_29 (by decide) ?_
      refine r_icmp_ge (tgt := 215) X dX11_judgeWeek_31 (by decide) h (fun h => ?_) (fun h => ?_)
      · exact r_sub [0, 1, 2] rfl (hJ215 x3 x4 m6 h)
      · refine r_aload_n X dX11_judgeWeek_34 rfl 0 rfl ?_
        refine r_getF X (k := 6) (of := 68) rfl (Lp_N e0 rfl) e0 rfl (by decide) ui_11 (by decide) uw2_189 rfl dX11_judgeWeek_35 ?_
        refine r_getFN X (k := 0) (of := 1) rfl (Lp_N (Lp_11_6 e0) rfl) (Lp_11_6 e0) rfl (by decide) ui_10 (by decide) hl315 rfl dX11_judgeWeek_38 ?_
        refine r_iload_n X dX11_judgeWeek_41 rfl 3 rfl ?_
        refine r_iald X (Lp_N (Lp_10_0 (Lp_11_6 e0)) rfl) (Lp_10_0 (Lp_11_6 e0)) h dX11_judgeWeek_42 (fun h => ?_)
        by_cases c43_0 : (gI m6 (h0 + 68 + 1) x5.toNatClampNeg) = (8)
        · have h := ite_p c43_0 h
          refine r_look (off := 115) (tgt := 158) X dX11_judgeWeek_43 (by decide) (by rw [c43_0]; decide) (by decide) ?_
          refine r_aload_n X dX11_judgeWeek_158 rfl 0 rfl ?_
          refine r_getF X (k := 5) (of := 66) rfl (Lp_N e0 rfl) e0 rfl (by decide) ui_11 (by decide) uw2_188 rfl dX11_judgeWeek_159 ?_
          refine r_aload_n X dX11_judgeWeek_162 rfl 0 rfl ?_
          refine r_getF X (k := 6) (of := 68) rfl (Lp_N e0 rfl) e0 rfl (by decide) ui_11 (by decide) uw2_189 rfl dX11_judgeWeek_163 ?_
          refine r_getFN X (k := 1) (of := 2) rfl (Lp_N (Lp_11_6 e0) rfl) (Lp_11_6 e0) rfl (by decide) ui_10 (by decide) hl318 rfl dX11_judgeWeek_166 ?_
          refine r_iload_n X dX11_judgeWeek_169 rfl 3 rfl ?_
          refine r_iald X (Lp_N (Lp_10_1 (Lp_11_6 e0)) rfl) (Lp_10_1 (Lp_11_6 e0)) h dX11_judgeWeek_170 (fun h => ?_)
          refine r_putIN X (k := 2) (Lp_N (Lp_11_5 e0) rfl) (Lp_11_5 e0) rfl (by decide) ui_6 (by decide) hl138 tyX6_ok nmX6 rfl rfl rfl dX11_judgeWeek_171 ?_
          refine r_nmM h (fun m7 h => ?_)
          refine r_goto (tgt := 209) X dX11_judgeWeek_174 (by decide) ?_
          exact r_sub [0, 1, 2, 3] rfl (hJ209 k17 hk17 x3 x4 x5 m7 h)
        have h := ite_n c43_0 h
        by_cases c43_1 : (gI m6 (h0 + 68 + 1) x5.toNatClampNeg) = (14)
        · have h := ite_p c43_1 h
          refine r_look (off := 33) (tgt := 76) X dX11_judgeWeek_43 (by decide) (by rw [c43_1]; decide) (by decide) ?_
          refine r_aload_n X dX11_judgeWeek_76 rfl 0 rfl ?_
          refine r_getF X (k := 10) (of := 82) rfl (Lp_N e0 rfl) e0 rfl (by decide) ui_11 (by decide) uw2_193 rfl dX11_judgeWeek_77 ?_
          refine r_aload_n X dX11_judgeWeek_80 rfl 0 rfl ?_
          refine r_getR X 7 (k := 2) (Lp_N e0 rfl) e0 rfl (by decide) ui_11 (by decide) uw2_185 rfl h dX11_judgeWeek_81 (fun q8 eq8 h => ?_)
          refine r_aload_n X dX11_judgeWeek_84 rfl 0 rfl ?_
          refine r_getF X (k := 5) (of := 66) rfl (Lp_N e0 rfl) e0 rfl (by decide) ui_11 (by decide) uw2_188 rfl dX11_judgeWeek_85 ?_
          refine r_getIN X (k := 2) (Lp_N (Lp_11_5 e0) rfl) (Lp_11_5 e0) rfl (by decide) ui_6 (by decide) hl138 rfl dX11_judgeWeek_88 ?_
          refine r_cVV (As := [.ref (ad (q8)), .int (gI m6 (h0 + 66) 2)]) (rest := []) X (fun m9 hg => k_X1_prepare (Lp_11_10 e0) eq8 hg) h (Lp_N (Lp_11_10 e0) rfl) (Lp_11_10 e0) rfl (by decide) uw4_69 uw4_70 uw4_71 uw1_11 uw4_72 rfl rfl dd_X1_prepare ⟨Nat.le_of_ble_eq_true rfl, Nat.le_of_ble_eq_true rfl⟩ rfl (Nat.le_of_ble_eq_true rfl) dX11_judgeWeek_91 rfl (fun m9 h => ?_)
          refine r_aload_n X dX11_judgeWeek_94 rfl 0 rfl ?_
          refine r_getF X (k := 10) (of := 82) rfl (Lp_N e0 rfl) e0 rfl (by decide) ui_11 (by decide) uw2_193 rfl dX11_judgeWeek_95 ?_
          refine r_aload_n X dX11_judgeWeek_98 rfl 0 rfl ?_
          refine r_getF X (k := 5) (of := 66) rfl (Lp_N e0 rfl) e0 rfl (by decide) ui_11 (by decide) uw2_188 rfl dX11_judgeWeek_99 ?_
          refine r_iconst (v := (0)) X dX11_judgeWeek_102 (by decide) ?_
          refine r_cVV (As := [.ref (ad (h0 + 66)), .int ((0))]) (rest := []) X (fun m9 hg => k_X1_pass (Lp_11_10 e0) (Lp_11_5 e0) hg) h (Lp_N (Lp_11_10 e0) rfl) (Lp_11_10 e0) rfl (by decide) uw4_96 uw4_97 uw4_98 uw1_11 uw4_99 rfl rfl dd_X1_pass ⟨Nat.le_of_ble_eq_true rfl, Nat.le_of_ble_eq_true rfl⟩ rfl (Nat.le_of_ble_eq_true rfl) dX11_judgeWeek_103 rfl (fun m10 h => ?_)
          refine r_iload_n X dX11_judgeWeek_106 rfl 2 rfl ?_
          refine r_aload_n X dX11_judgeWeek_107 rfl 0 rfl ?_
          refine r_getF X (k := 10) (of := 82) rfl (Lp_N e0 rfl) e0 rfl (by decide) ui_11 (by decide) uw2_193 rfl dX11_judgeWeek_108 ?_
          refine r_getIN X (k := 10) (Lp_N (Lp_11_10 e0) rfl) (Lp_11_10 e0) rfl (by decide) ui_1 (by decide) hl190 rfl dX11_judgeWeek_111 ?_
          refine r_iadd X dX11_judgeWeek_114 ?_
          refine r_nmI h (fun x11 h => ?_)
          refine r_istore_n (lv2 := [(2, .int (x11)), (0, .ref (ad (h0))), (1, .int (x3)), (3, .int (x5))]) X dX11_judgeWeek_115 rfl (by decide) rfl ?_
          refine r_iload_n X dX11_judgeWeek_116 rfl 2 rfl ?_
          refine r_iconst (v := (-1)) X dX11_judgeWeek_117 (by decide) ?_
          refine r_icmp_ne (tgt := 135) X dX11_judgeWeek_118 (by decide) h (fun h => ?_) (fun h => ?_)
          · exact r_sub [1, 2, 0, 3] rfl (hJ135 k17 hk17 x3 x11 x5 m10 h)
          · refine r_aload_n X dX11_judgeWeek_121 rfl 1 rfl ?_
            refine r_getF X (k := 5) (of := 66) rfl (Lp_N e0 rfl) e0 rfl (by decide) ui_11 (by decide) uw2_188 rfl dX11_judgeWeek_122 ?_
            refine r_cVI (As := []) (rest := []) X (fun r9 m9 hg => k_X6_goneKeys (Lp_11_5 e0) hg) h (Lp_N (Lp_11_5 e0) rfl) (Lp_11_5 e0) rfl (by decide) uw5_50 uw5_51 uw5_52 uw1_7 uw5_53 rfl rfl dd_X6_goneKeys ⟨Nat.le_of_ble_eq_true rfl, Nat.le_of_ble_eq_true rfl⟩ rfl (Nat.le_of_ble_eq_true rfl) dX11_judgeWeek_125 rfl (fun x13 m12 h => ?_)
            refine r_if_eq (tgt := 135) X dX11_judgeWeek_128 (by decide) h (fun h => ?_) (fun h => ?_)
            · exact r_sub [1, 2, 0, 3] rfl (hJ135 k17 hk17 x3 x11 x5 m12 h)
            · refine r_iload_n X dX11_judgeWeek_131 rfl 3 rfl ?_
              refine r_goto (tgt := 136) X dX11_judgeWeek_132 (by decide) ?_
              exact r_sub [1, 0, 3] rfl (hJ136 k17 hk17 x11 x5 x5 m12 h)
        have h := ite_n c43_1 h
        by_cases c43_2 : (gI m6 (h0 + 68 + 1) x5.toNatClampNeg) = (15)
        · have h := ite_p c43_2 h
          refine r_look (off := 97) (tgt := 140) X dX11_judgeWeek_43 (by decide) (by rw [c43_2]; decide) (by decide) ?_
          refine r_aload_n X dX11_judgeWeek_140 rfl 0 rfl ?_
          refine r_getF X (k := 5) (of := 66) rfl (Lp_N e0 rfl) e0 rfl (by decide) ui_11 (by decide) uw2_188 rfl dX11_judgeWeek_141 ?_
          refine r_aload_n X dX11_judgeWeek_144 rfl 0 rfl ?_
          refine r_getR X 7 (k := 2) (Lp_N e0 rfl) e0 rfl (by decide) ui_11 (by decide) uw2_185 rfl h dX11_judgeWeek_145 (fun q14 eq14 h => ?_)
          refine r_getIN X (k := 12) (Lp_N eq14 rfl) eq14 rfl (by decide) ui_7 (by decide) hl193 rfl dX11_judgeWeek_148 ?_
          refine r_cVI (As := [.int (gI m6 q14 12)]) (rest := []) X (fun r9 m9 hg => k_X6_tuneUp (Lp_11_5 e0) hg) h (Lp_N (Lp_11_5 e0) rfl) (Lp_11_5 e0) rfl (by decide) uw4_170 uw4_171 uw4_172 uw1_7 uw4_173 rfl rfl dd_X6_tuneUp ⟨Nat.le_of_ble_eq_true rfl, Nat.le_of_ble_eq_true rfl⟩ rfl (Nat.le_of_ble_eq_true rfl) dX11_judgeWeek_151 rfl (fun x16 m15 h => ?_)
          refine r_pop X dX11_judgeWeek_154 rfl ?_
          refine r_goto (tgt := 209) X dX11_judgeWeek_155 (by decide) ?_
          exact r_sub [0, 1, 2, 3] rfl (hJ209 k17 hk17 x3 x4 x5 m15 h)
        have h := ite_n c43_2 h
        refine r_look (off := 134) (tgt := 177) X dX11_judgeWeek_43 (by decide) (by show Op.lookupswitch.offset [((8 : Int), (115 : Int)), ((14 : Int), (33 : Int)), ((15 : Int), (97 : Int))] (134) _ = (134); rw [Op.lookupswitch.offset_cons, if_neg (ti_ne (n := (8 : Int)) (by decide) c43_0), Op.lookupswitch.offset_cons, if_neg (ti_ne (n := (14 : Int)) (by decide) c43_1), Op.lookupswitch.offset_cons, if_neg (ti_ne (n := (15 : Int)) (by decide) c43_2), Op.lookupswitch.offset_nil]) (by decide) ?_
        refine r_aload_n X dX11_judgeWeek_177 rfl 0 rfl ?_
        refine r_getF X (k := 5) (of := 66) rfl (Lp_N e0 rfl) e0 rfl (by decide) ui_11 (by decide) uw2_188 rfl dX11_judgeWeek_178 ?_
        refine r_aload_n X dX11_judgeWeek_181 rfl 0 rfl ?_
        refine r_getF X (k := 6) (of := 68) rfl (Lp_N e0 rfl) e0 rfl (by decide) ui_11 (by decide) uw2_189 rfl dX11_judgeWeek_182 ?_
        refine r_getFN X (k := 1) (of := 2) rfl (Lp_N (Lp_11_6 e0) rfl) (Lp_11_6 e0) rfl (by decide) ui_10 (by decide) hl318 rfl dX11_judgeWeek_185 ?_
        refine r_iload_n X dX11_judgeWeek_188 rfl 3 rfl ?_
        refine r_iald X (Lp_N (Lp_10_1 (Lp_11_6 e0)) rfl) (Lp_10_1 (Lp_11_6 e0)) h dX11_judgeWeek_189 (fun h => ?_)
        refine r_putIN X (k := 3) (Lp_N (Lp_11_5 e0) rfl) (Lp_11_5 e0) rfl (by decide) ui_6 (by decide) hl202 tyX6_ok nmX6 rfl rfl rfl dX11_judgeWeek_190 ?_
        refine r_nmM h (fun m17 h => ?_)
        refine r_aload_n X dX11_judgeWeek_193 rfl 0 rfl ?_
        refine r_getF X (k := 5) (of := 66) rfl (Lp_N e0 rfl) e0 rfl (by decide) ui_11 (by decide) uw2_188 rfl dX11_judgeWeek_194 ?_
        refine r_aload_n X dX11_judgeWeek_197 rfl 0 rfl ?_
        refine r_getF X (k := 6) (of := 68) rfl (Lp_N e0 rfl) e0 rfl (by decide) ui_11 (by decide) uw2_189 rfl dX11_judgeWeek_198 ?_
        refine r_getFN X (k := 2) (of := 3) rfl (Lp_N (Lp_11_6 e0) rfl) (Lp_11_6 e0) rfl (by decide) ui_10 (by decide) hl321 rfl dX11_judgeWeek_201 ?_
        refine r_iload_n X dX11_judgeWeek_204 rfl 3 rfl ?_
        refine r_iald X (Lp_N (Lp_10_2 (Lp_11_6 e0)) rfl) (Lp_10_2 (Lp_11_6 e0)) h dX11_judgeWeek_205 (fun h => ?_)
        refine r_putIN X (k := 4) (Lp_N (Lp_11_5 e0) rfl) (Lp_11_5 e0) rfl (by decide) ui_6 (by decide) hl205 tyX6_ok nmX6 rfl rfl rfl dX11_judgeWeek_206 ?_
        refine r_nmM h (fun m18 h => ?_)
        exact r_sub [0, 1, 2, 3] rfl (hJ209 k17 hk17 x3 x4 x5 m18 h)
  have hL17 : ∀ (n : Nat), ∀ (x3 : Int32) (x4 : Int32) (x5 : Int32) (m6 : Mm), lop (fun _ _ _ _ => none) (f_X11_judgeWeek_B17 h0 ) n x3 x4 x5 m6 = some mem2 → Jd p l e ({ frames := 5, cells := 0, slots := 0, locals := 112 }) s m args below meth c 4 (MQ below (PsV Lp ad cy dC dI mem2 A) args s 0 0 A) A dC dI cy Lp ad m6 17 [(0, .ref (ad (h0))), (1, .int (x3)), (2, .int (x4)), (3, .int (x5))] [] := by
    intro  n
    induction n with
    | zero => intro _ _ _ _ h; cases h
    | succ n ih => intro a0 a1 a2 a3 h; exact hJ17  _ ih a0 a1 a2 a3 h
  unfold f_X11_judgeWeek at h
  refine r_iconst (v := (-1)) X dX11_judgeWeek_0 (by decide) ?_
  refine r_istore_n (lv2 := [(1, .int ((-1))), (0, .ref (ad (h0)))]) X dX11_judgeWeek_1 rfl (by decide) rfl ?_
  refine r_iconst (v := (0)) X dX11_judgeWeek_2 (by decide) ?_
  refine r_istore_n (lv2 := [(2, .int ((0))), (1, .int ((-1))), (0, .ref (ad (h0)))]) X dX11_judgeWeek_3 rfl (by decide) rfl ?_
  refine r_aload_n X dX11_judgeWeek_4 rfl 2 rfl ?_
  refine r_getF X (k := 5) (of := 66) rfl (Lp_N e0 rfl) e0 rfl (by decide) ui_11 (by decide) uw2_188 rfl dX11_judgeWeek_5 ?_
  refine r_aload_n X dX11_judgeWeek_8 rfl 2 rfl ?_
  refine r_getR X 7 (k := 2) (Lp_N e0 rfl) e0 rfl (by decide) ui_11 (by decide) uw2_185 rfl h dX11_judgeWeek_9 (fun q1 eq1 h => ?_)
  refine r_cVV (As := [.ref (ad (q1))]) (rest := []) X (fun m9 hg => k_X6_begin (Lp_11_5 e0) eq1 hg) h (Lp_N (Lp_11_5 e0) rfl) (Lp_11_5 e0) rfl (by decide) uw4_10 uw4_11 uw4_12 uw1_7 uw4_13 rfl rfl dd_X6_begin ⟨Nat.le_of_ble_eq_true rfl, Nat.le_of_ble_eq_true rfl⟩ rfl (Nat.le_of_ble_eq_true rfl) dX11_judgeWeek_12 rfl (fun m2 h => ?_)
  refine r_iconst (v := (0)) X dX11_judgeWeek_15 (by decide) ?_
  refine r_istore_n (lv2 := [(3, .int ((0))), (2, .int ((0))), (1, .int ((-1))), (0, .ref (ad (h0)))]) X dX11_judgeWeek_16 rfl (by decide) rfl ?_
  exact r_sub [3, 2, 1, 0] rfl (hL17 4000 ((-1)) ((0)) ((0)) m2 h)
noncomputable def f_X11_searchEach_J96 (h0 : Nat) (k9 : Int32 → Mm → Option Mm) (x12 : Int32) (m13 : Mm) : Option Mm :=
  bnd (x12 + (1)) fun x14 => k9 x14 m13
noncomputable def f_X11_searchEach_J76 (h0 : Nat) (k9 : Int32 → Mm → Option Mm) (x8 : Int32) (m9 : Mm) : Option Mm :=
  grd (inb ((0)) (Lp.2.1 (h0 + 165))) (bnd (sI m9 (h0 + 165) (0 : Int32).toNatClampNeg x8) fun m10 => grd (inb ((1)) (Lp.2.1 (h0 + 165))) (bnd (sI m10 (h0 + 165) (1 : Int32).toNatClampNeg (gI m10 (h0 + 82) 10)) fun m11 => f_X11_searchEach_J96 h0 k9 x8 m11))
noncomputable def f_X11_searchEach_B9 (h0 : Nat) (k9 : Int32 → Mm → Option Mm) (x2 : Int32) (m3 : Mm) : Option Mm :=
  if ((30)) < x2 then (some m3) else (bdV (f_X6_copyFrom (h0 + 66) (h0 + 64) m3) fun m4 => grd (decide (Lp.1 (gR m4 h0 2) = 7)) (bnd (gR m4 h0 2) fun q5 => bdV (f_X1_prepare (h0 + 82) q5 x2 m4) fun m6 => bdV (f_X1_pass (h0 + 82) (h0 + 66) ((0)) m6) fun m7 => grd (inb ((0)) (Lp.2.1 (h0 + 165))) (if (gI m7 (h0 + 165) (0 : Int32).toNatClampNeg) = ((-1)) then (f_X11_searchEach_J76 h0 k9 x2 m7) else (grd (inb ((1)) (Lp.2.1 (h0 + 165))) (if (gI m7 (h0 + 82) 10) ≤ (gI m7 (h0 + 165) (1 : Int32).toNatClampNeg) then (f_X11_searchEach_J96 h0 k9 x2 m7) else (f_X11_searchEach_J76 h0 k9 x2 m7))))))
noncomputable def f_X11_searchEach (h0 : Nat) (mem : Mm) : Option Mm :=
  grd (inb ((0)) (Lp.2.1 (h0 + 165))) (bnd (sI mem (h0 + 165) (0 : Int32).toNatClampNeg ((-1))) fun m1 => lop (fun _ _ => none) (f_X11_searchEach_B9 h0 ) 4000 ((1)) m1)
theorem dd_X11_searchEach : yX11_searchEach.cls = RX11 ∧ yX11_searchEach.cls ≠ "java/lang/invoke/MethodHandle" ∧ yX11_searchEach.cls ≠ "java/lang/invoke/VarHandle" ∧ (parseMethodDescriptor yX11_searchEach.desc).map (fun d => d.parameters.length) = some 0 := by decide +kernel
set_option maxHeartbeats 4000000 in
set_option maxRecDepth 100000 in
theorem k_X11_searchEach {l : Launch} {ad : Nat → Nat} {cy : Nat → ClassId} {dC : Nat → ClassId} {dI : Nat → Nat → Nat} {ks : (Nat → Nat) × (Nat → Nat)} {h0 : Nat} {mem : Mm} {mem2 : Mm} (e0 : Lp.1 h0 = 11) (h : f_X11_searchEach h0 mem = some mem2) : CtV l Lp ad cy dC dI ks yX11_searchEach cX11_searchEach 2 none ({ frames := 5, cells := 0, slots := 0, locals := 112 }) [.ref (ad (h0))] mem mem2 := by
  refine CtV.of (cc := cX11_searchEach) (maxL := 2) (ret := none) (own := RX11) rfl (by decide) (Nat.le_of_ble_eq_true rfl) ?_
  intro p e s m args below meth c A X
  have hts := X.2.2.2.2.1
  have hl190 := X.2.2.2.2.2.2.1 (.fieldLinkNest "StationPiano" 190 "StationPiano$DayRun" "joySum" "I" "StationPiano") (List.mem_of_getElem? (i := 75) rfl)
  have hJ96 : ∀ (k9 : Int32 → Mm → Option Mm) (hk9 : ∀ (x2 : Int32) (m3 : Mm), k9 x2 m3 = some mem2 → Jd p l e ({ frames := 5, cells := 0, slots := 0, locals := 112 }) s m args below meth c 2 (MQ below (PsV Lp ad cy dC dI mem2 A) args s 0 0 A) A dC dI cy Lp ad m3 9 [(0, .ref (ad (h0))), (1, .int (x2))] []) (x12 : Int32) (m13 : Mm), f_X11_searchEach_J96 h0 k9 x12 m13 = some mem2 → Jd p l e ({ frames := 5, cells := 0, slots := 0, locals := 112 }) s m args below meth c 2 (MQ below (PsV Lp ad cy dC dI mem2 A) args s 0 0 A) A dC dI cy Lp ad m13 96 [(0, .ref (ad (h0))), (1, .int (x12))] [] := by
    intro k9 hk9 x12 m13 h
    unfold f_X11_searchEach_J96 at h
    refine r_inc h (fun x14 e9 h => ?_)
    refine r_iinc (v := x14) (lv2 := [(1, .int (x14)), (0, .ref (ad (h0)))]) X dX11_searchEach_96 1 rfl (by rw [e9]; rfl) (by decide) rfl ?_
    refine r_goto (tgt := 9) X dX11_searchEach_99 (by decide) ?_
    exact r_sub [1, 0] rfl (hk9 x14 m13 h)
  have hJ76 : ∀ (k9 : Int32 → Mm → Option Mm) (hk9 : ∀ (x2 : Int32) (m3 : Mm), k9 x2 m3 = some mem2 → Jd p l e ({ frames := 5, cells := 0, slots := 0, locals := 112 }) s m args below meth c 2 (MQ below (PsV Lp ad cy dC dI mem2 A) args s 0 0 A) A dC dI cy Lp ad m3 9 [(0, .ref (ad (h0))), (1, .int (x2))] []) (x8 : Int32) (m9 : Mm), f_X11_searchEach_J76 h0 k9 x8 m9 = some mem2 → Jd p l e ({ frames := 5, cells := 0, slots := 0, locals := 112 }) s m args below meth c 2 (MQ below (PsV Lp ad cy dC dI mem2 A) args s 0 0 A) A dC dI cy Lp ad m9 76 [(0, .ref (ad (h0))), (1, .int (x8))] [] := by
    intro k9 hk9 x8 m9 h
    unfold f_X11_searchEach_J76 at h
    refine r_aload_n X dX11_searchEach_76 rfl 0 rfl ?_
    refine r_getF X (k := 15) (of := 165) rfl (Lp_N e0 rfl) e0 rfl (by decide) ui_11 (by decide) uw2_198 rfl dX11_searchEach_77 ?_
    refine r_iconst (v := (0)) X dX11_searchEach_80 (by decide) ?_
    refine r_iload_n X dX11_searchEach_81 rfl 1 rfl ?_
    refine r_iast X (Lp_N (Lp_11_15 e0) rfl) (Lp_11_15 e0) h dX11_searchEach_82 (fun h => ?_)
    refine r_nmM h (fun m10 h => ?_)
    refine r_aload_n X dX11_searchEach_83 rfl 0 rfl ?_
    refine r_getF X (k := 15) (of := 165) rfl (Lp_N e0 rfl) e0 rfl (by decide) ui_11 (by decide) uw2_198 rfl dX11_searchEach_84 ?_
    refine r_iconst (v := (1)) X dX11_searchEach_87 (by decide) ?_
    refine r_aload_n X dX11_searchEach_88 rfl 0 rfl ?_
    refine r_getF X (k := 10) (of := 82) rfl (Lp_N e0 rfl) e0 rfl (by decide) ui_11 (by decide) uw2_193 rfl dX11_searchEach_89 ?_
    refine r_getIN X (k := 10) (Lp_N (Lp_11_10 e0) rfl) (Lp_11_10 e0) rfl (by decide) ui_1 (by decide) hl190 rfl dX11_searchEach_92 ?_
    refine r_iast X (Lp_N (Lp_11_15 e0) rfl) (Lp_11_15 e0) h dX11_searchEach_95 (fun h => ?_)
    refine r_nmM h (fun m11 h => ?_)
    exact r_sub [0, 1] rfl (hJ96 k9 hk9 x8 m11 h)
  have hJ9 : ∀ (k9 : Int32 → Mm → Option Mm) (hk9 : ∀ (x2 : Int32) (m3 : Mm), k9 x2 m3 = some mem2 → Jd p l e ({ frames := 5, cells := 0, slots := 0, locals := 112 }) s m args below meth c 2 (MQ below (PsV Lp ad cy dC dI mem2 A) args s 0 0 A) A dC dI cy Lp ad m3 9 [(0, .ref (ad (h0))), (1, .int (x2))] []) (x2 : Int32) (m3 : Mm), f_X11_searchEach_B9 h0 k9 x2 m3 = some mem2 → Jd p l e ({ frames := 5, cells := 0, slots := 0, locals := 112 }) s m args below meth c 2 (MQ below (PsV Lp ad cy dC dI mem2 A) args s 0 0 A) A dC dI cy Lp ad m3 9 [(0, .ref (ad (h0))), (1, .int (x2))] [] := by
    intro k9 hk9 x2 m3 h
    unfold f_X11_searchEach_B9 at h
    refine r_iload_n X dX11_searchEach_9 rfl 1 rfl ?_
    refine r_bipush (v := (30)) X dX11_searchEach_10 (by decide) ?_
    refine r_icmp_gt (tgt := 102) X dX11_searchEach_12 (by decide) h (fun h => ?_) (fun h => ?_)
    · exact r_vret X rfl dX11_searchEach_102 h
    · refine r_aload_n X dX11_searchEach_15 rfl 0 rfl ?_
      refine r_getF X (k := 5) (of := 66) rfl (Lp_N e0 rfl) e0 rfl (by decide) ui_11 (by decide) uw2_188 rfl dX11_searchEach_16 ?_
      refine r_aload_n X dX11_searchEach_19 rfl 0 rfl ?_
      refine r_getF X (k := 4) (of := 64) rfl (Lp_N e0 rfl) e0 rfl (by decide) ui_11 (by decide) uw2_187 rfl dX11_searchEach_20 ?_
      refine r_cVV (As := [.ref (ad (h0 + 64))]) (rest := []) X (fun m9 hg => k_X6_copyFrom (Lp_11_5 e0) (Lp_11_4 e0) hg) h (Lp_N (Lp_11_5 e0) rfl) (Lp_11_5 e0) rfl (by decide) uw4_65 uw4_66 uw4_67 uw1_7 uw4_68 rfl rfl dd_X6_copyFrom ⟨Nat.le_of_ble_eq_true rfl, Nat.le_of_ble_eq_true rfl⟩ rfl (Nat.le_of_ble_eq_true rfl) dX11_searchEach_23 rfl (fun m4 h => ?_)
      refine r_aload_n X dX11_searchEach_26 rfl 0 rfl ?_
      refine r_getF X (k := 10) (of := 82) rfl (Lp_N e0 rfl) e0 rfl (by decide) ui_11 (by decide) uw2_193 rfl dX11_searchEach_27 ?_
      refine r_aload_n X dX11_searchEach_30 rfl 0 rfl ?_
      refine r_getR X 7 (k := 2) (Lp_N e0 rfl) e0 rfl (by decide) ui_11 (by decide) uw2_185 rfl h dX11_searchEach_31 (fun q5 eq5 h => ?_)
      refine r_iload_n X dX11_searchEach_34 rfl 1 rfl ?_
      refine r_cVV (As := [.ref (ad (q5)), .int (x2)]) (rest := []) X (fun m9 hg => k_X1_prepare (Lp_11_10 e0) eq5 hg) h (Lp_N (Lp_11_10 e0) rfl) (Lp_11_10 e0) rfl (by decide) uw4_69 uw4_70 uw4_71 uw1_11 uw4_72 rfl rfl dd_X1_prepare ⟨Nat.le_of_ble_eq_true rfl, Nat.le_of_ble_eq_true rfl⟩ rfl (Nat.le_of_ble_eq_true rfl) dX11_searchEach_35 rfl (fun m6 h => ?_)
      refine r_aload_n X dX11_searchEach_38 rfl 0 rfl ?_
      refine r_getF X (k := 10) (of := 82) rfl (Lp_N e0 rfl) e0 rfl (by decide) ui_11 (by decide) uw2_193 rfl dX11_searchEach_39 ?_
      refine r_aload_n X dX11_searchEach_42 rfl 0 rfl ?_
      refine r_getF X (k := 5) (of := 66) rfl (Lp_N e0 rfl) e0 rfl (by decide) ui_11 (by decide) uw2_188 rfl dX11_searchEach_43 ?_
      refine r_iconst (v := (0)) X dX11_searchEach_46 (by decide) ?_
      refine r_cVV (As := [.ref (ad (h0 + 66)), .int ((0))]) (rest := []) X (fun m9 hg => k_X1_pass (Lp_11_10 e0) (Lp_11_5 e0) hg) h (Lp_N (Lp_11_10 e0) rfl) (Lp_11_10 e0) rfl (by decide) uw4_96 uw4_97 uw4_98 uw1_11 uw4_99 rfl rfl dd_X1_pass ⟨Nat.le_of_ble_eq_true rfl, Nat.le_of_ble_eq_true rfl⟩ rfl (Nat.le_of_ble_eq_true rfl) dX11_searchEach_47 rfl (fun m7 h => ?_)
      refine r_aload_n X dX11_searchEach_50 rfl 0 rfl ?_
      refine r_getF X (k := 15) (of := 165) rfl (Lp_N e0 rfl) e0 rfl (by decide) ui_11 (by decide) uw2_198 rfl dX11_searchEach_51 ?_
      refine r_iconst (v := (0)) X dX11_searchEach_54 (by decide) ?_
      refine r_iald X (Lp_N (Lp_11_15 e0) rfl) (Lp_11_15 e0) h dX11_searchEach_55 (fun h => ?_)
      refine r_iconst (v := (-1)) X dX11_searchEach_56 (by decide) ?_
      refine r_icmp_eq (tgt := 76) X dX11_searchEach_57 (by decide) h (fun h => ?_) (fun h => ?_)
      · exact r_sub [0, 1] rfl (hJ76 k9 hk9 x2 m7 h)
      · refine r_aload_n X dX11_searchEach_60 rfl 0 rfl ?_
        refine r_getF X (k := 10) (of := 82) rfl (Lp_N e0 rfl) e0 rfl (by decide) ui_11 (by decide) uw2_193 rfl dX11_searchEach_61 ?_
        refine r_getIN X (k := 10) (Lp_N (Lp_11_10 e0) rfl) (Lp_11_10 e0) rfl (by decide) ui_1 (by decide) hl190 rfl dX11_searchEach_64 ?_
        refine r_aload_n X dX11_searchEach_67 rfl 0 rfl ?_
        refine r_getF X (k := 15) (of := 165) rfl (Lp_N e0 rfl) e0 rfl (by decide) ui_11 (by decide) uw2_198 rfl dX11_searchEach_68 ?_
        refine r_iconst (v := (1)) X dX11_searchEach_71 (by decide) ?_
        refine r_iald X (Lp_N (Lp_11_15 e0) rfl) (Lp_11_15 e0) h dX11_searchEach_72 (fun h => ?_)
        refine r_icmp_le (tgt := 96) X dX11_searchEach_73 (by decide) h (fun h => ?_) (fun h => ?_)
        · exact r_sub [0, 1] rfl (hJ96 k9 hk9 x2 m7 h)
        · exact r_sub [0, 1] rfl (hJ76 k9 hk9 x2 m7 h)
  have hL9 : ∀ (n : Nat), ∀ (x2 : Int32) (m3 : Mm), lop (fun _ _ => none) (f_X11_searchEach_B9 h0 ) n x2 m3 = some mem2 → Jd p l e ({ frames := 5, cells := 0, slots := 0, locals := 112 }) s m args below meth c 2 (MQ below (PsV Lp ad cy dC dI mem2 A) args s 0 0 A) A dC dI cy Lp ad m3 9 [(0, .ref (ad (h0))), (1, .int (x2))] [] := by
    intro  n
    induction n with
    | zero => intro _ _ h; cases h
    | succ n ih => intro a0 a1 h; exact hJ9  _ ih a0 a1 h
  unfold f_X11_searchEach at h
  refine r_aload_n X dX11_searchEach_0 rfl 0 rfl ?_
  refine r_getF X (k := 15) (of := 165) rfl (Lp_N e0 rfl) e0 rfl (by decide) ui_11 (by decide) uw2_198 rfl dX11_searchEach_1 ?_
  refine r_iconst (v := (0)) X dX11_searchEach_4 (by decide) ?_
  refine r_iconst (v := (-1)) X dX11_searchEach_5 (by decide) ?_
  refine r_iast X (Lp_N (Lp_11_15 e0) rfl) (Lp_11_15 e0) h dX11_searchEach_6 (fun h => ?_)
  refine r_nmM h (fun m1 h => ?_)
  refine r_iconst (v := (1)) X dX11_searchEach_7 (by decide) ?_
  refine r_istore_n (lv2 := [(1, .int ((1))), (0, .ref (ad (h0)))]) X dX11_searchEach_8 rfl (by decide) rfl ?_
  exact r_sub [1, 0] rfl (hL9 4000 ((1)) m1 h)
noncomputable def f_X11_hours_J117 (h0 : Nat) (p1 : Int32) (k38 : Int32 → Int32 → Int32 → Int32 → Mm → Option (Int32 × Mm)) (x16 : Int32) (x17 : Int32) (x18 : Int32) (x19 : Int32) (m20 : Mm) : Option (Int32 × Mm) :=
  bnd (x19 + (1)) fun x21 => k38 x16 x17 x18 x21 m20
noncomputable def f_X11_hours_J106 (h0 : Nat) (p1 : Int32) (k38 : Int32 → Int32 → Int32 → Int32 → Mm → Option (Int32 × Mm)) (x12 : Int32) (x13 : Int32) (m14 : Mm) : Option (Int32 × Mm) :=
  bnd (gI m14 (h0 + 82) 10) fun x15 => f_X11_hours_J117 h0 p1 k38 x12 x15 x13 x13 m14
noncomputable def f_X11_hours_B38 (h0 : Nat) (p1 : Int32) (k38 : Int32 → Int32 → Int32 → Int32 → Mm → Option (Int32 × Mm)) (x3 : Int32) (x4 : Int32) (x5 : Int32) (x6 : Int32) (m7 : Mm) : Option (Int32 × Mm) :=
  if ((60)) < (x6 + x3) then (some (x5, m7)) else (bdV (f_X6_copyFrom (h0 + 66) (h0 + 64) m7) fun m8 => bnd (sI m8 (h0 + 66) 3 x6) fun m9 => bnd (sI m9 (h0 + 66) 4 (x6 + x3)) fun m10 => bdV (f_X1_pass (h0 + 82) (h0 + 66) ((0)) m10) fun m11 => if x5 = ((-1)) then (f_X11_hours_J106 h0 p1 k38 x3 x6 m11) else (if (gI m11 (h0 + 82) 10) ≤ x4 then (f_X11_hours_J117 h0 p1 k38 x3 x4 x5 x6 m11) else (f_X11_hours_J106 h0 p1 k38 x3 x6 m11)))
noncomputable def f_X11_hours (h0 : Nat) (p1 : Int32) (mem : Mm) : Option (Int32 × Mm) :=
  if p1 < ((1)) then (some ((-1), mem)) else (if p1 ≤ ((60)) then (grd (decide (Lp.1 (gR mem h0 2) = 7)) (bnd (gR mem h0 2) fun q1 => bdV (f_X1_prepare (h0 + 82) q1 (gI mem (h0 + 64) 2) mem) fun m2 => lop (fun _ _ _ _ _ => none) (f_X11_hours_B38 h0 p1 ) 4000 p1 ((0)) ((-1)) ((0)) m2)) else (some ((-1), mem)))
theorem dd_X11_hours : yX11_hours.cls = RX11 ∧ yX11_hours.cls ≠ "java/lang/invoke/MethodHandle" ∧ yX11_hours.cls ≠ "java/lang/invoke/VarHandle" ∧ (parseMethodDescriptor yX11_hours.desc).map (fun d => d.parameters.length) = some 1 := by decide +kernel
set_option maxHeartbeats 4000000 in
set_option maxRecDepth 100000 in
theorem k_X11_hours {l : Launch} {ad : Nat → Nat} {cy : Nat → ClassId} {dC : Nat → ClassId} {dI : Nat → Nat → Nat} {ks : (Nat → Nat) × (Nat → Nat)} {h0 : Nat} {p1 : Int32} {mem : Mm} {r2 : Int32} {mem2 : Mm} (e0 : Lp.1 h0 = 11) (h : f_X11_hours h0 p1 mem = some (r2, mem2)) : CtI l Lp ad cy dC dI ks yX11_hours cX11_hours 5 (some .int) ({ frames := 5, cells := 0, slots := 0, locals := 112 }) [.ref (ad (h0)), .int (p1)] mem r2 mem2 := by
  refine CtI.of (cc := cX11_hours) (maxL := 5) (ret := (some .int)) (own := RX11) rfl (by decide) (Nat.le_of_ble_eq_true rfl) ?_
  intro p e s m args below meth c A X
  have hts := X.2.2.2.2.1
  have hl138 := X.2.2.2.2.2.2.1 (.fieldLinkNest "StationPiano" 138 "StationPiano$State" "minutes" "I" "StationPiano") (List.mem_of_getElem? (i := 57) rfl)
  have hl190 := X.2.2.2.2.2.2.1 (.fieldLinkNest "StationPiano" 190 "StationPiano$DayRun" "joySum" "I" "StationPiano") (List.mem_of_getElem? (i := 75) rfl)
  have hl202 := X.2.2.2.2.2.2.1 (.fieldLinkNest "StationPiano" 202 "StationPiano$State" "from" "I" "StationPiano") (List.mem_of_getElem? (i := 59) rfl)
  have hl205 := X.2.2.2.2.2.2.1 (.fieldLinkNest "StationPiano" 205 "StationPiano$State" "to" "I" "StationPiano") (List.mem_of_getElem? (i := 61) rfl)
  have hJ117 : ∀ (k38 : Int32 → Int32 → Int32 → Int32 → Mm → Option (Int32 × Mm)) (hk38 : ∀ (x3 : Int32) (x4 : Int32) (x5 : Int32) (x6 : Int32) (m7 : Mm), k38 x3 x4 x5 x6 m7 = some (r2, mem2) → Jd p l e ({ frames := 5, cells := 0, slots := 0, locals := 112 }) s m args below meth c 5 (MQ below (PsI Lp ad cy dC dI r2 mem2 A) args s 0 0 A) A dC dI cy Lp ad m7 38 [(0, .ref (ad (h0))), (1, .int (x3)), (2, .int (x4)), (3, .int (x5)), (4, .int (x6))] []) (x16 : Int32) (x17 : Int32) (x18 : Int32) (x19 : Int32) (m20 : Mm), f_X11_hours_J117 h0 p1 k38 x16 x17 x18 x19 m20 = some (r2, mem2) → Jd p l e ({ frames := 5, cells := 0, slots := 0, locals := 112 }) s m args below meth c 5 (MQ below (PsI Lp ad cy dC dI r2 mem2 A) args s 0 0 A) A dC dI cy Lp ad m20 117 [(0, .ref (ad (h0))), (1, .int (x16)), (2, .int (x17)), (3, .int (x18)), (4, .int (x19))] [] := by
    intro k38 hk38 x16 x17 x18 x19 m20 h
    unfold f_X11_hours_J117 at h
    refine r_inc h (fun x21 e9 h => ?_)
    refine r_iinc (v := x21) (lv2 := [(4, .int (x21)), (0, .ref (ad (h0))), (1, .int (x16)), (2, .int (x17)), (3, .int (x18))]) X dX11_hours_117 4 rfl (by rw [e9]; rfl) (by decide) rfl ?_
    refine r_goto (tgt := 38) X dX11_hours_120 (by decide) ?_
    exact r_sub [1, 2, 3, 4, 0] rfl (hk38 x16 x17 x18 x21 m20 h)
  have hJ106 : ∀ (k38 : Int32 → Int32 → Int32 → Int32 → Mm → Option (Int32 × Mm)) (hk38 : ∀ (x3 : Int32) (x4 : Int32) (x5 : Int32) (x6 : Int32) (m7 : Mm), k38 x3 x4 x5 x6 m7 = some (r2, mem2) → Jd p l e ({ frames := 5, cells := 0, slots := 0, locals := 112 }) s m args below meth c 5 (MQ below (PsI Lp ad cy dC dI r2 mem2 A) args s 0 0 A) A dC dI cy Lp ad m7 38 [(0, .ref (ad (h0))), (1, .int (x3)), (2, .int (x4)), (3, .int (x5)), (4, .int (x6))] []) (x12 : Int32) (x13 : Int32) (m14 : Mm), f_X11_hours_J106 h0 p1 k38 x12 x13 m14 = some (r2, mem2) → Jd p l e ({ frames := 5, cells := 0, slots := 0, locals := 112 }) s m args below meth c 5 (MQ below (PsI Lp ad cy dC dI r2 mem2 A) args s 0 0 A) A dC dI cy Lp ad m14 106 [(0, .ref (ad (h0))), (1, .int (x12)), (4, .int (x13))] [] := by
    intro k38 hk38 x12 x13 m14 h
    unfold f_X11_hours_J106 at h
    refine r_aload_n X dX11_hours_106 rfl 0 rfl ?_
    refine r_getF X (k := 10) (of := 82) rfl (Lp_N e0 rfl) e0 rfl (by decide) ui_11 (by decide) uw2_193 rfl dX11_hours_107 ?_
    refine r_getIN X (k := 10) (Lp_N (Lp_11_10 e0) rfl) (Lp_11_10 e0) rfl (by decide) ui_1 (by decide) hl190 rfl dX11_hours_110 ?_
    refine r_nmI h (fun x15 h => ?_)
    refine r_istore_n (lv2 := [(2, .int (x15)), (0, .ref (ad (h0))), (1, .int (x12)), (4, .int (x13))]) X dX11_hours_113 rfl (by decide) rfl ?_
    refine r_iload X dX11_hours_114 3 rfl ?_
    refine r_istore_n (lv2 := [(3, .int (x13)), (2, .int (x15)), (0, .ref (ad (h0))), (1, .int (x12)), (4, .int (x13))]) X dX11_hours_116 rfl (by decide) rfl ?_
    exact r_sub [2, 3, 1, 0, 4] rfl (hJ117 k38 hk38 x12 x15 x13 x13 m14 h)
  have hJ38 : ∀ (k38 : Int32 → Int32 → Int32 → Int32 → Mm → Option (Int32 × Mm)) (hk38 : ∀ (x3 : Int32) (x4 : Int32) (x5 : Int32) (x6 : Int32) (m7 : Mm), k38 x3 x4 x5 x6 m7 = some (r2, mem2) → Jd p l e ({ frames := 5, cells := 0, slots := 0, locals := 112 }) s m args below meth c 5 (MQ below (PsI Lp ad cy dC dI r2 mem2 A) args s 0 0 A) A dC dI cy Lp ad m7 38 [(0, .ref (ad (h0))), (1, .int (x3)), (2, .int (x4)), (3, .int (x5)), (4, .int (x6))] []) (x3 : Int32) (x4 : Int32) (x5 : Int32) (x6 : Int32) (m7 : Mm), f_X11_hours_B38 h0 p1 k38 x3 x4 x5 x6 m7 = some (r2, mem2) → Jd p l e ({ frames := 5, cells := 0, slots := 0, locals := 112 }) s m args below meth c 5 (MQ below (PsI Lp ad cy dC dI r2 mem2 A) args s 0 0 A) A dC dI cy Lp ad m7 38 [(0, .ref (ad (h0))), (1, .int (x3)), (2, .int (x4)), (3, .int (x5)), (4, .int (x6))] [] := by
    intro k38 hk38 x3 x4 x5 x6 m7 h
    unfold f_X11_hours_B38 at h
    refine r_iload X dX11_hours_38 4 rfl ?_
    refine r_iload_n X dX11_hours_40 rfl 1 rfl ?_
    refine r_iadd X dX11_hours_41 ?_
    refine r_bipush (v := (60)) X dX11_hours_42 (by decide) ?_
    refine r_icmp_gt (tgt := 123) X dX11_hours_44 (by decide) h (fun h => ?_) (fun h => ?_)
    · refine r_iload_n X dX11_hours_123 rfl 3 rfl ?_
      exact r_iret2 X rfl dX11_hours_124 h
    · refine r_aload_n X dX11_hours_47 rfl 0 rfl ?_
      refine r_getF X (k := 5) (of := 66) rfl (Lp_N e0 rfl) e0 rfl (by decide) ui_11 (by decide) uw2_188 rfl dX11_hours_48 ?_
      refine r_aload_n X dX11_hours_51 rfl 0 rfl ?_
      refine r_getF X (k := 4) (of := 64) rfl (Lp_N e0 rfl) e0 rfl (by decide) ui_11 (by decide) uw2_187 rfl dX11_hours_52 ?_
      refine r_cVV (As := [.ref (ad (h0 + 64))]) (rest := []) X (fun m9 hg => k_X6_copyFrom (Lp_11_5 e0) (Lp_11_4 e0) hg) h (Lp_N (Lp_11_5 e0) rfl) (Lp_11_5 e0) rfl (by decide) uw4_65 uw4_66 uw4_67 uw1_7 uw4_68 rfl rfl dd_X6_copyFrom ⟨Nat.le_of_ble_eq_true rfl, Nat.le_of_ble_eq_true rfl⟩ rfl (Nat.le_of_ble_eq_true rfl) dX11_hours_55 rfl (fun m8 h => ?_)
      refine r_aload_n X dX11_hours_58 rfl 0 rfl ?_
      refine r_getF X (k := 5) (of := 66) rfl (Lp_N e0 rfl) e0 rfl (by decide) ui_11 (by decide) uw2_188 rfl dX11_hours_59 ?_
      refine r_iload X dX11_hours_62 4 rfl ?_
      refine r_putIN X (k := 3) (Lp_N (Lp_11_5 e0) rfl) (Lp_11_5 e0) rfl (by decide) ui_6 (by decide) hl202 tyX6_ok nmX6 rfl rfl rfl dX11_hours_64 ?_
      refine r_nmM h (fun m9 h => ?_)
      refine r_aload_n X dX11_hours_67 rfl 0 rfl ?_
      refine r_getF X (k := 5) (of := 66) rfl (Lp_N e0 rfl) e0 rfl (by decide) ui_11 (by decide) uw2_188 rfl dX11_hours_68 ?_
      refine r_iload X dX11_hours_71 4 rfl ?_
      refine r_iload_n X dX11_hours_73 rfl 1 rfl ?_
      refine r_iadd X dX11_hours_74 ?_
      refine r_putIN X (k := 4) (Lp_N (Lp_11_5 e0) rfl) (Lp_11_5 e0) rfl (by decide) ui_6 (by decide) hl205 tyX6_ok nmX6 rfl rfl rfl dX11_hours_75 ?_
      refine r_nmM h (fun m10 h => ?_)
      refine r_aload_n X dX11_hours_78 rfl 0 rfl ?_
      refine r_getF X (k := 10) (of := 82) rfl (Lp_N e0 rfl) e0 rfl (by decide) ui_11 (by decide) uw2_193 rfl dX11_hours_79 ?_
      refine r_aload_n X dX11_hours_82 rfl 0 rfl ?_
      refine r_getF X (k := 5) (of := 66) rfl (Lp_N e0 rfl) e0 rfl (by decide) ui_11 (by decide) uw2_188 rfl dX11_hours_83 ?_
      refine r_iconst (v := (0)) X dX11_hours_86 (by decide) ?_
      refine r_cVV (As := [.ref (ad (h0 + 66)), .int ((0))]) (rest := []) X (fun m9 hg => k_X1_pass (Lp_11_10 e0) (Lp_11_5 e0) hg) h (Lp_N (Lp_11_10 e0) rfl) (Lp_11_10 e0) rfl (by decide) uw4_96 uw4_97 uw4_98 uw1_11 uw4_99 rfl rfl dd_X1_pass ⟨Nat.le_of_ble_eq_true rfl, Nat.le_of_ble_eq_true rfl⟩ rfl (Nat.le_of_ble_eq_true rfl) dX11_hours_87 rfl (fun m11 h => ?_)
      refine r_iload_n X dX11_hours_90 rfl 3 rfl ?_
      refine r_iconst (v := (-1)) X dX11_hours_91 (by decide) ?_
      refine r_icmp_eq (tgt := 106) X dX11_hours_92 (by decide) h (fun h => ?_) (fun h => ?_)
      · exact r_sub [0, 1, 4] rfl (hJ106 k38 hk38 x3 x6 m11 h)
      · refine r_aload_n X dX11_hours_95 rfl 0 rfl ?_
        refine r_getF X (k := 10) (of := 82) rfl (Lp_N e0 rfl) e0 rfl (by decide) ui_11 (by decide) uw2_193 rfl dX11_hours_96 ?_
        refine r_getIN X (k := 10) (Lp_N (Lp_11_10 e0) rfl) (Lp_11_10 e0) rfl (by decide) ui_1 (by decide) hl190 rfl dX11_hours_99 ?_
        refine r_iload_n X dX11_hours_102 rfl 2 rfl ?_
        refine r_icmp_le (tgt := 117) X dX11_hours_103 (by decide) h (fun h => ?_) (fun h => ?_)
        · exact r_sub [0, 1, 2, 3, 4] rfl (hJ117 k38 hk38 x3 x4 x5 x6 m11 h)
        · exact r_sub [0, 1, 4] rfl (hJ106 k38 hk38 x3 x6 m11 h)
  have hL38 : ∀ (n : Nat), ∀ (x3 : Int32) (x4 : Int32) (x5 : Int32) (x6 : Int32) (m7 : Mm), lop (fun _ _ _ _ _ => none) (f_X11_hours_B38 h0 p1 ) n x3 x4 x5 x6 m7 = some (r2, mem2) → Jd p l e ({ frames := 5, cells := 0, slots := 0, locals := 112 }) s m args below meth c 5 (MQ below (PsI Lp ad cy dC dI r2 mem2 A) args s 0 0 A) A dC dI cy Lp ad m7 38 [(0, .ref (ad (h0))), (1, .int (x3)), (2, .int (x4)), (3, .int (x5)), (4, .int (x6))] [] := by
    intro  n
    induction n with
    | zero => intro _ _ _ _ _ h; cases h
    | succ n ih => intro a0 a1 a2 a3 a4 h; exact hJ38  _ ih a0 a1 a2 a3 a4 h
  unfold f_X11_hours at h
  refine r_iload_n X dX11_hours_0 rfl 1 rfl ?_
  refine r_iconst (v := (1)) X dX11_hours_1 (by decide) ?_
  refine r_icmp_lt (tgt := 11) X dX11_hours_2 (by decide) h (fun h => ?_) (fun h => ?_)
  · refine r_iconst (v := (-1)) X dX11_hours_11 (by decide) ?_
    exact r_iret2 X rfl dX11_hours_12 h
  · refine r_iload_n X dX11_hours_5 rfl 1 rfl ?_
    refine r_bipush (v := (60)) X dX11_hours_6 (by decide) ?_
    refine r_icmp_le (tgt := 13) X dX11_hours_8 (by decide) h (fun h => ?_) (fun h => ?_)
    · refine r_aload_n X dX11_hours_13 rfl 0 rfl ?_
      refine r_getF X (k := 10) (of := 82) rfl (Lp_N e0 rfl) e0 rfl (by decide) ui_11 (by decide) uw2_193 rfl dX11_hours_14 ?_
      refine r_aload_n X dX11_hours_17 rfl 0 rfl ?_
      refine r_getR X 7 (k := 2) (Lp_N e0 rfl) e0 rfl (by decide) ui_11 (by decide) uw2_185 rfl h dX11_hours_18 (fun q1 eq1 h => ?_)
      refine r_aload_n X dX11_hours_21 rfl 0 rfl ?_
      refine r_getF X (k := 4) (of := 64) rfl (Lp_N e0 rfl) e0 rfl (by decide) ui_11 (by decide) uw2_187 rfl dX11_hours_22 ?_
      refine r_getIN X (k := 2) (Lp_N (Lp_11_4 e0) rfl) (Lp_11_4 e0) rfl (by decide) ui_6 (by decide) hl138 rfl dX11_hours_25 ?_
      refine r_cVV (As := [.ref (ad (q1)), .int (gI mem (h0 + 64) 2)]) (rest := []) X (fun m9 hg => k_X1_prepare (Lp_11_10 e0) eq1 hg) h (Lp_N (Lp_11_10 e0) rfl) (Lp_11_10 e0) rfl (by decide) uw4_69 uw4_70 uw4_71 uw1_11 uw4_72 rfl rfl dd_X1_prepare ⟨Nat.le_of_ble_eq_true rfl, Nat.le_of_ble_eq_true rfl⟩ rfl (Nat.le_of_ble_eq_true rfl) dX11_hours_28 rfl (fun m2 h => ?_)
      refine r_iconst (v := (0)) X dX11_hours_31 (by decide) ?_
      refine r_istore_n (lv2 := [(2, .int ((0))), (0, .ref (ad (h0))), (1, .int (p1))]) X dX11_hours_32 rfl (by decide) rfl ?_
      refine r_iconst (v := (-1)) X dX11_hours_33 (by decide) ?_
      refine r_istore_n (lv2 := [(3, .int ((-1))), (2, .int ((0))), (0, .ref (ad (h0))), (1, .int (p1))]) X dX11_hours_34 rfl (by decide) rfl ?_
      refine r_iconst (v := (0)) X dX11_hours_35 (by decide) ?_
      refine r_istore (lv2 := [(4, .int ((0))), (3, .int ((-1))), (2, .int ((0))), (0, .ref (ad (h0))), (1, .int (p1))]) X dX11_hours_36 (by decide) rfl ?_
      exact r_sub [3, 4, 2, 1, 0] rfl (hL38 4000 p1 ((0)) ((-1)) ((0)) m2 h)
    · refine r_iconst (v := (-1)) X dX11_hours_11 (by decide) ?_
      exact r_iret2 X rfl dX11_hours_12 h
noncomputable def f_X11_joyMendedAhead_J51 (h0 : Nat) (p1 : Int32) (p2 : Int32) (k24 : Int32 → Int32 → Int32 → Int32 → Mm → Option (Int32 × Mm)) (x11 : Int32) (x12 : Int32) (x13 : Int32) (x14 : Int32) (m15 : Mm) : Option (Int32 × Mm) :=
  bdV (f_X1_pass (h0 + 82) (h0 + 66) ((0)) m15) fun m16 => bnd (x13 + (gI m16 (h0 + 82) 10)) fun x17 => bnd (x14 + (1)) fun x18 => k24 x11 x12 x17 x18 m16
noncomputable def f_X11_joyMendedAhead_B24 (h0 : Nat) (p1 : Int32) (p2 : Int32) (k24 : Int32 → Int32 → Int32 → Int32 → Mm → Option (Int32 × Mm)) (x3 : Int32) (x4 : Int32) (x5 : Int32) (x6 : Int32) (m7 : Mm) : Option (Int32 × Mm) :=
  if x3 ≤ x6 then (some (x5 - (gI m7 (h0 + 66) 5), m7)) else (if ¬ x6 = x4 then (f_X11_joyMendedAhead_J51 h0 p1 p2 k24 x3 x4 x5 x6 m7) else (grd (decide (Lp.1 (gR m7 h0 2) = 7)) (bnd (gR m7 h0 2) fun q8 => bdI (f_X6_tuneUp (h0 + 66) (gI m7 q8 12) m7) fun x10 m9 => f_X11_joyMendedAhead_J51 h0 p1 p2 k24 x3 x4 x5 x6 m9)))
noncomputable def f_X11_joyMendedAhead (h0 : Nat) (p1 : Int32) (p2 : Int32) (mem : Mm) : Option (Int32 × Mm) :=
  bdV (f_X6_copyFrom (h0 + 66) (h0 + 64) mem) fun m1 => bnd (sI m1 (h0 + 66) 5 ((0))) fun m2 => lop (fun _ _ _ _ _ => none) (f_X11_joyMendedAhead_B24 h0 p1 p2 ) 4000 p1 p2 ((0)) ((0)) m2
theorem dd_X11_joyMendedAhead : yX11_joyMendedAhead.cls = RX11 ∧ yX11_joyMendedAhead.cls ≠ "java/lang/invoke/MethodHandle" ∧ yX11_joyMendedAhead.cls ≠ "java/lang/invoke/VarHandle" ∧ (parseMethodDescriptor yX11_joyMendedAhead.desc).map (fun d => d.parameters.length) = some 2 := by decide +kernel
set_option maxHeartbeats 4000000 in
set_option maxRecDepth 100000 in
theorem k_X11_joyMendedAhead {l : Launch} {ad : Nat → Nat} {cy : Nat → ClassId} {dC : Nat → ClassId} {dI : Nat → Nat → Nat} {ks : (Nat → Nat) × (Nat → Nat)} {h0 : Nat} {p1 : Int32} {p2 : Int32} {mem : Mm} {r2 : Int32} {mem2 : Mm} (e0 : Lp.1 h0 = 11) (h : f_X11_joyMendedAhead h0 p1 p2 mem = some (r2, mem2)) : CtI l Lp ad cy dC dI ks yX11_joyMendedAhead cX11_joyMendedAhead 5 (some .int) ({ frames := 5, cells := 0, slots := 0, locals := 112 }) [.ref (ad (h0)), .int (p1), .int (p2)] mem r2 mem2 := by
  refine CtI.of (cc := cX11_joyMendedAhead) (maxL := 5) (ret := (some .int)) (own := RX11) rfl (by decide) (Nat.le_of_ble_eq_true rfl) ?_
  intro p e s m args below meth c A X
  have hts := X.2.2.2.2.1
  have hl190 := X.2.2.2.2.2.2.1 (.fieldLinkNest "StationPiano" 190 "StationPiano$DayRun" "joySum" "I" "StationPiano") (List.mem_of_getElem? (i := 75) rfl)
  have hl193 := X.2.2.2.2.2.2.1 (.fieldLinkNest "StationPiano" 193 "StationPiano$Station" "price" "I" "StationPiano") (List.mem_of_getElem? (i := 51) rfl)
  have hl301 := X.2.2.2.2.2.2.1 (.fieldLinkNest "StationPiano" 301 "StationPiano$State" "paid" "I" "StationPiano") (List.mem_of_getElem? (i := 62) rfl)
  have hJ51 : ∀ (k24 : Int32 → Int32 → Int32 → Int32 → Mm → Option (Int32 × Mm)) (hk24 : ∀ (x3 : Int32) (x4 : Int32) (x5 : Int32) (x6 : Int32) (m7 : Mm), k24 x3 x4 x5 x6 m7 = some (r2, mem2) → Jd p l e ({ frames := 5, cells := 0, slots := 0, locals := 112 }) s m args below meth c 5 (MQ below (PsI Lp ad cy dC dI r2 mem2 A) args s 0 0 A) A dC dI cy Lp ad m7 24 [(0, .ref (ad (h0))), (1, .int (x3)), (2, .int (x4)), (3, .int (x5)), (4, .int (x6))] []) (x11 : Int32) (x12 : Int32) (x13 : Int32) (x14 : Int32) (m15 : Mm), f_X11_joyMendedAhead_J51 h0 p1 p2 k24 x11 x12 x13 x14 m15 = some (r2, mem2) → Jd p l e ({ frames := 5, cells := 0, slots := 0, locals := 112 }) s m args below meth c 5 (MQ below (PsI Lp ad cy dC dI r2 mem2 A) args s 0 0 A) A dC dI cy Lp ad m15 51 [(0, .ref (ad (h0))), (1, .int (x11)), (2, .int (x12)), (3, .int (x13)), (4, .int (x14))] [] := by
    intro k24 hk24 x11 x12 x13 x14 m15 h
    unfold f_X11_joyMendedAhead_J51 at h
    refine r_aload_n X dX11_joyMendedAhead_51 rfl 0 rfl ?_
    refine r_getF X (k := 10) (of := 82) rfl (Lp_N e0 rfl) e0 rfl (by decide) ui_11 (by decide) uw2_193 rfl dX11_joyMendedAhead_52 ?_
    refine r_aload_n X dX11_joyMendedAhead_55 rfl 0 rfl ?_
    refine r_getF X (k := 5) (of := 66) rfl (Lp_N e0 rfl) e0 rfl (by decide) ui_11 (by decide) uw2_188 rfl dX11_joyMendedAhead_56 ?_
    refine r_iconst (v := (0)) X dX11_joyMendedAhead_59 (by decide) ?_
    refine r_cVV (As := [.ref (ad (h0 + 66)), .int ((0))]) (rest := []) X (fun m9 hg => k_X1_pass (Lp_11_10 e0) (Lp_11_5 e0) hg) h (Lp_N (Lp_11_10 e0) rfl) (Lp_11_10 e0) rfl (by decide) uw4_96 uw4_97 uw4_98 uw1_11 uw4_99 rfl rfl dd_X1_pass ⟨Nat.le_of_ble_eq_true rfl, Nat.le_of_ble_eq_true rfl⟩ rfl (Nat.le_of_ble_eq_true rfl) dX11_joyMendedAhead_60 rfl (fun m16 h => ?_)
    refine r_iload_n X dX11_joyMendedAhead_63 rfl 3 rfl ?_
    refine r_aload_n X dX11_joyMendedAhead_64 rfl 0 rfl ?_
    refine r_getF X (k := 10) (of := 82) rfl (Lp_N e0 rfl) e0 rfl (by decide) ui_11 (by decide) uw2_193 rfl dX11_joyMendedAhead_65 ?_
    refine r_getIN X (k := 10) (Lp_N (Lp_11_10 e0) rfl) (Lp_11_10 e0) rfl (by decide) ui_1 (by decide) hl190 rfl dX11_joyMendedAhead_68 ?_
    refine r_iadd X dX11_joyMendedAhead_71 ?_
    refine r_nmI h (fun x17 h => ?_)
    refine r_istore_n (lv2 := [(3, .int (x17)), (0, .ref (ad (h0))), (1, .int (x11)), (2, .int (x12)), (4, .int (x14))]) X dX11_joyMendedAhead_72 rfl (by decide) rfl ?_
    refine r_inc h (fun x18 e9 h => ?_)
    refine r_iinc (v := x18) (lv2 := [(4, .int (x18)), (3, .int (x17)), (0, .ref (ad (h0))), (1, .int (x11)), (2, .int (x12))]) X dX11_joyMendedAhead_73 4 rfl (by rw [e9]; rfl) (by decide) rfl ?_
    refine r_goto (tgt := 24) X dX11_joyMendedAhead_76 (by decide) ?_
    exact r_sub [2, 3, 4, 1, 0] rfl (hk24 x11 x12 x17 x18 m16 h)
  have hJ24 : ∀ (k24 : Int32 → Int32 → Int32 → Int32 → Mm → Option (Int32 × Mm)) (hk24 : ∀ (x3 : Int32) (x4 : Int32) (x5 : Int32) (x6 : Int32) (m7 : Mm), k24 x3 x4 x5 x6 m7 = some (r2, mem2) → Jd p l e ({ frames := 5, cells := 0, slots := 0, locals := 112 }) s m args below meth c 5 (MQ below (PsI Lp ad cy dC dI r2 mem2 A) args s 0 0 A) A dC dI cy Lp ad m7 24 [(0, .ref (ad (h0))), (1, .int (x3)), (2, .int (x4)), (3, .int (x5)), (4, .int (x6))] []) (x3 : Int32) (x4 : Int32) (x5 : Int32) (x6 : Int32) (m7 : Mm), f_X11_joyMendedAhead_B24 h0 p1 p2 k24 x3 x4 x5 x6 m7 = some (r2, mem2) → Jd p l e ({ frames := 5, cells := 0, slots := 0, locals := 112 }) s m args below meth c 5 (MQ below (PsI Lp ad cy dC dI r2 mem2 A) args s 0 0 A) A dC dI cy Lp ad m7 24 [(0, .ref (ad (h0))), (1, .int (x3)), (2, .int (x4)), (3, .int (x5)), (4, .int (x6))] [] := by
    intro k24 hk24 x3 x4 x5 x6 m7 h
    unfold f_X11_joyMendedAhead_B24 at h
    refine r_iload X dX11_joyMendedAhead_24 4 rfl ?_
    refine r_iload_n X dX11_joyMendedAhead_26 rfl 1 rfl ?_
    refine r_icmp_ge (tgt := 79) X dX11_joyMendedAhead_27 (by decide) h (fun h => ?_) (fun h => ?_)
    · refine r_iload_n X dX11_joyMendedAhead_79 rfl 3 rfl ?_
      refine r_aload_n X dX11_joyMendedAhead_80 rfl 0 rfl ?_
      refine r_getF X (k := 5) (of := 66) rfl (Lp_N e0 rfl) e0 rfl (by decide) ui_11 (by decide) uw2_188 rfl dX11_joyMendedAhead_81 ?_
      refine r_getIN X (k := 5) (Lp_N (Lp_11_5 e0) rfl) (Lp_11_5 e0) rfl (by decide) ui_6 (by decide) hl301 rfl dX11_joyMendedAhead_84 ?_
      refine r_isub X dX11_joyMendedAhead_87 ?_
      exact r_iret2 X rfl dX11_joyMendedAhead_88 h
    · refine r_iload X dX11_joyMendedAhead_30 4 rfl ?_
      refine r_iload_n X dX11_joyMendedAhead_32 rfl 2 rfl ?_
      refine r_icmp_ne (tgt := 51) X dX11_joyMendedAhead_33 (by decide) h (fun h => ?_) (fun h => ?_)
      · exact r_sub [0, 1, 2, 3, 4] rfl (hJ51 k24 hk24 x3 x4 x5 x6 m7 h)
      · refine r_aload_n X dX11_joyMendedAhead_36 rfl 0 rfl ?_
        refine r_getF X (k := 5) (of := 66) rfl (Lp_N e0 rfl) e0 rfl (by decide) ui_11 (by decide) uw2_188 rfl dX11_joyMendedAhead_37 ?_
        refine r_aload_n X dX11_joyMendedAhead_40 rfl 0 rfl ?_
        refine r_getR X 7 (k := 2) (Lp_N e0 rfl) e0 rfl (by decide) ui_11 (by decide) uw2_185 rfl h dX11_joyMendedAhead_41 (fun q8 eq8 h => ?_)
        refine r_getIN X (k := 12) (Lp_N eq8 rfl) eq8 rfl (by decide) ui_7 (by decide) hl193 rfl dX11_joyMendedAhead_44 ?_
        refine r_cVI (As := [.int (gI m7 q8 12)]) (rest := []) X (fun r9 m9 hg => k_X6_tuneUp (Lp_11_5 e0) hg) h (Lp_N (Lp_11_5 e0) rfl) (Lp_11_5 e0) rfl (by decide) uw4_170 uw4_171 uw4_172 uw1_7 uw4_173 rfl rfl dd_X6_tuneUp ⟨Nat.le_of_ble_eq_true rfl, Nat.le_of_ble_eq_true rfl⟩ rfl (Nat.le_of_ble_eq_true rfl) dX11_joyMendedAhead_47 rfl (fun x10 m9 h => ?_)
        refine r_pop X dX11_joyMendedAhead_50 rfl ?_
        exact r_sub [0, 1, 2, 3, 4] rfl (hJ51 k24 hk24 x3 x4 x5 x6 m9 h)
  have hL24 : ∀ (n : Nat), ∀ (x3 : Int32) (x4 : Int32) (x5 : Int32) (x6 : Int32) (m7 : Mm), lop (fun _ _ _ _ _ => none) (f_X11_joyMendedAhead_B24 h0 p1 p2 ) n x3 x4 x5 x6 m7 = some (r2, mem2) → Jd p l e ({ frames := 5, cells := 0, slots := 0, locals := 112 }) s m args below meth c 5 (MQ below (PsI Lp ad cy dC dI r2 mem2 A) args s 0 0 A) A dC dI cy Lp ad m7 24 [(0, .ref (ad (h0))), (1, .int (x3)), (2, .int (x4)), (3, .int (x5)), (4, .int (x6))] [] := by
    intro  n
    induction n with
    | zero => intro _ _ _ _ _ h; cases h
    | succ n ih => intro a0 a1 a2 a3 a4 h; exact hJ24  _ ih a0 a1 a2 a3 a4 h
  unfold f_X11_joyMendedAhead at h
  refine r_aload_n X dX11_joyMendedAhead_0 rfl 0 rfl ?_
  refine r_getF X (k := 5) (of := 66) rfl (Lp_N e0 rfl) e0 rfl (by decide) ui_11 (by decide) uw2_188 rfl dX11_joyMendedAhead_1 ?_
  refine r_aload_n X dX11_joyMendedAhead_4 rfl 0 rfl ?_
  refine r_getF X (k := 4) (of := 64) rfl (Lp_N e0 rfl) e0 rfl (by decide) ui_11 (by decide) uw2_187 rfl dX11_joyMendedAhead_5 ?_
  refine r_cVV (As := [.ref (ad (h0 + 64))]) (rest := []) X (fun m9 hg => k_X6_copyFrom (Lp_11_5 e0) (Lp_11_4 e0) hg) h (Lp_N (Lp_11_5 e0) rfl) (Lp_11_5 e0) rfl (by decide) uw4_65 uw4_66 uw4_67 uw1_7 uw4_68 rfl rfl dd_X6_copyFrom ⟨Nat.le_of_ble_eq_true rfl, Nat.le_of_ble_eq_true rfl⟩ rfl (Nat.le_of_ble_eq_true rfl) dX11_joyMendedAhead_8 rfl (fun m1 h => ?_)
  refine r_aload_n X dX11_joyMendedAhead_11 rfl 0 rfl ?_
  refine r_getF X (k := 5) (of := 66) rfl (Lp_N e0 rfl) e0 rfl (by decide) ui_11 (by decide) uw2_188 rfl dX11_joyMendedAhead_12 ?_
  refine r_iconst (v := (0)) X dX11_joyMendedAhead_15 (by decide) ?_
  refine r_putIN X (k := 5) (Lp_N (Lp_11_5 e0) rfl) (Lp_11_5 e0) rfl (by decide) ui_6 (by decide) hl301 tyX6_ok nmX6 rfl rfl rfl dX11_joyMendedAhead_16 ?_
  refine r_nmM h (fun m2 h => ?_)
  refine r_iconst (v := (0)) X dX11_joyMendedAhead_19 (by decide) ?_
  refine r_istore_n (lv2 := [(3, .int ((0))), (0, .ref (ad (h0))), (1, .int (p1)), (2, .int (p2))]) X dX11_joyMendedAhead_20 rfl (by decide) rfl ?_
  refine r_iconst (v := (0)) X dX11_joyMendedAhead_21 (by decide) ?_
  refine r_istore (lv2 := [(4, .int ((0))), (3, .int ((0))), (0, .ref (ad (h0))), (1, .int (p1)), (2, .int (p2))]) X dX11_joyMendedAhead_22 (by decide) rfl ?_
  exact r_sub [2, 3, 4, 1, 0] rfl (hL24 4000 p1 p2 ((0)) ((0)) m2 h)
noncomputable def f_X11_searchMending_J84 (h0 : Nat) (p1 : Int32) (k39 : Int32 → Int32 → Mm → Option Mm) (x13 : Int32) (x14 : Int32) (m15 : Mm) : Option Mm :=
  bnd (x14 + (1)) fun x16 => k39 x13 x16 m15
noncomputable def f_X11_searchMending_J83 (h0 : Nat) (p1 : Int32) (k39 : Int32 → Int32 → Mm → Option Mm) (x17 : Int32) (x18 : Int32) (x19 : Int32) (x20 : Int32) (m21 : Mm) : Option Mm :=
  grd (inb x20 (Lp.2.1 (h0 + 165))) (bnd (sI m21 (h0 + 165) x20.toNatClampNeg x19) fun m22 => f_X11_searchMending_J84 h0 p1 k39 x17 x18 m22)
noncomputable def f_X11_searchMending_B39 (h0 : Nat) (p1 : Int32) (k39 : Int32 → Int32 → Mm → Option Mm) (x7 : Int32) (x8 : Int32) (m9 : Mm) : Option Mm :=
  if x7 < x8 then (some m9) else (bdI (f_X11_joyMendedAhead h0 x7 x8 m9) fun x11 m10 => grd (inb ((0)) (Lp.2.1 (h0 + 165))) (if x11 ≤ (gI m10 (h0 + 165) (0 : Int32).toNatClampNeg) then (f_X11_searchMending_J84 h0 p1 k39 x7 x8 m10) else (grd (inb ((0)) (Lp.2.1 (h0 + 165))) (bnd (sI m10 (h0 + 165) (0 : Int32).toNatClampNeg x11) fun m12 => if x7 ≤ x8 then (f_X11_searchMending_J83 h0 p1 k39 x7 x8 ((-1)) ((1)) m12) else (f_X11_searchMending_J83 h0 p1 k39 x7 x8 x8 ((1)) m12)))))
noncomputable def f_X11_searchMending (h0 : Nat) (p1 : Int32) (mem : Mm) : Option Mm :=
  grd (decide (Lp.1 (gR mem h0 2) = 7)) (bnd (gR mem h0 2) fun q1 => bdV (f_X1_prepare (h0 + 82) q1 (gI mem (h0 + 64) 2) mem) fun m2 => bdI (f_X11_joyMendedAhead h0 p1 ((0)) m2) fun x4 m3 => grd (inb ((0)) (Lp.2.1 (h0 + 165))) (bnd (sI m3 (h0 + 165) (0 : Int32).toNatClampNeg x4) fun m5 => grd (inb ((1)) (Lp.2.1 (h0 + 165))) (bnd (sI m5 (h0 + 165) (1 : Int32).toNatClampNeg ((0))) fun m6 => lop (fun _ _ _ => none) (f_X11_searchMending_B39 h0 p1 ) 4000 p1 ((1)) m6)))
theorem dd_X11_searchMending : yX11_searchMending.cls = RX11 ∧ yX11_searchMending.cls ≠ "java/lang/invoke/MethodHandle" ∧ yX11_searchMending.cls ≠ "java/lang/invoke/VarHandle" ∧ (parseMethodDescriptor yX11_searchMending.desc).map (fun d => d.parameters.length) = some 1 := by decide +kernel
set_option maxHeartbeats 4000000 in
set_option maxRecDepth 100000 in
theorem k_X11_searchMending {l : Launch} {ad : Nat → Nat} {cy : Nat → ClassId} {dC : Nat → ClassId} {dI : Nat → Nat → Nat} {ks : (Nat → Nat) × (Nat → Nat)} {h0 : Nat} {p1 : Int32} {mem : Mm} {mem2 : Mm} (e0 : Lp.1 h0 = 11) (h : f_X11_searchMending h0 p1 mem = some mem2) : CtV l Lp ad cy dC dI ks yX11_searchMending cX11_searchMending 4 none ({ frames := 6, cells := 0, slots := 0, locals := 136 }) [.ref (ad (h0)), .int (p1)] mem mem2 := by
  refine CtV.of (cc := cX11_searchMending) (maxL := 4) (ret := none) (own := RX11) rfl (by decide) (Nat.le_of_ble_eq_true rfl) ?_
  intro p e s m args below meth c A X
  have hts := X.2.2.2.2.1
  have hl138 := X.2.2.2.2.2.2.1 (.fieldLinkNest "StationPiano" 138 "StationPiano$State" "minutes" "I" "StationPiano") (List.mem_of_getElem? (i := 57) rfl)
  have hJ84 : ∀ (k39 : Int32 → Int32 → Mm → Option Mm) (hk39 : ∀ (x7 : Int32) (x8 : Int32) (m9 : Mm), k39 x7 x8 m9 = some mem2 → Jd p l e ({ frames := 6, cells := 0, slots := 0, locals := 136 }) s m args below meth c 4 (MQ below (PsV Lp ad cy dC dI mem2 A) args s 0 0 A) A dC dI cy Lp ad m9 39 [(0, .ref (ad (h0))), (1, .int (x7)), (2, .int (x8))] []) (x13 : Int32) (x14 : Int32) (m15 : Mm), f_X11_searchMending_J84 h0 p1 k39 x13 x14 m15 = some mem2 → Jd p l e ({ frames := 6, cells := 0, slots := 0, locals := 136 }) s m args below meth c 4 (MQ below (PsV Lp ad cy dC dI mem2 A) args s 0 0 A) A dC dI cy Lp ad m15 84 [(0, .ref (ad (h0))), (1, .int (x13)), (2, .int (x14))] [] := by
    intro k39 hk39 x13 x14 m15 h
    unfold f_X11_searchMending_J84 at h
    refine r_inc h (fun x16 e9 h => ?_)
    refine r_iinc (v := x16) (lv2 := [(2, .int (x16)), (0, .ref (ad (h0))), (1, .int (x13))]) X dX11_searchMending_84 2 rfl (by rw [e9]; rfl) (by decide) rfl ?_
    refine r_goto (tgt := 39) X dX11_searchMending_87 (by decide) ?_
    exact r_sub [1, 2, 0] rfl (hk39 x13 x16 m15 h)
  have hJ83 : ∀ (k39 : Int32 → Int32 → Mm → Option Mm) (hk39 : ∀ (x7 : Int32) (x8 : Int32) (m9 : Mm), k39 x7 x8 m9 = some mem2 → Jd p l e ({ frames := 6, cells := 0, slots := 0, locals := 136 }) s m args below meth c 4 (MQ below (PsV Lp ad cy dC dI mem2 A) args s 0 0 A) A dC dI cy Lp ad m9 39 [(0, .ref (ad (h0))), (1, .int (x7)), (2, .int (x8))] []) (x17 : Int32) (x18 : Int32) (x19 : Int32) (x20 : Int32) (m21 : Mm), f_X11_searchMending_J83 h0 p1 k39 x17 x18 x19 x20 m21 = some mem2 → Jd p l e ({ frames := 6, cells := 0, slots := 0, locals := 136 }) s m args below meth c 4 (MQ below (PsV Lp ad cy dC dI mem2 A) args s 0 0 A) A dC dI cy Lp ad m21 83 [(0, .ref (ad (h0))), (1, .int (x17)), (2, .int (x18))] [.int (x19), .int (x20), .ref (ad (h0 + 165))] := by
    intro k39 hk39 x17 x18 x19 x20 m21 h
    unfold f_X11_searchMending_J83 at h
    refine r_iast X (Lp_N (Lp_11_15 e0) rfl) (Lp_11_15 e0) h dX11_searchMending_83 (fun h => ?_)
    refine r_nmM h (fun m22 h => ?_)
    exact r_sub [0, 1, 2] rfl (hJ84 k39 hk39 x17 x18 m22 h)
  have hJ39 : ∀ (k39 : Int32 → Int32 → Mm → Option Mm) (hk39 : ∀ (x7 : Int32) (x8 : Int32) (m9 : Mm), k39 x7 x8 m9 = some mem2 → Jd p l e ({ frames := 6, cells := 0, slots := 0, locals := 136 }) s m args below meth c 4 (MQ below (PsV Lp ad cy dC dI mem2 A) args s 0 0 A) A dC dI cy Lp ad m9 39 [(0, .ref (ad (h0))), (1, .int (x7)), (2, .int (x8))] []) (x7 : Int32) (x8 : Int32) (m9 : Mm), f_X11_searchMending_B39 h0 p1 k39 x7 x8 m9 = some mem2 → Jd p l e ({ frames := 6, cells := 0, slots := 0, locals := 136 }) s m args below meth c 4 (MQ below (PsV Lp ad cy dC dI mem2 A) args s 0 0 A) A dC dI cy Lp ad m9 39 [(0, .ref (ad (h0))), (1, .int (x7)), (2, .int (x8))] [] := by
    intro k39 hk39 x7 x8 m9 h
    unfold f_X11_searchMending_B39 at h
    refine r_iload_n X dX11_searchMending_39 rfl 2 rfl ?_
    refine r_iload_n X dX11_searchMending_40 rfl 1 rfl ?_
    refine r_icmp_gt (tgt := 90) X dX11_searchMending_41 (by decide) h (fun h => ?_) (fun h => ?_)
    · exact r_vret X rfl dX11_searchMending_90 h
    · refine r_aload_n X dX11_searchMending_44 rfl 0 rfl ?_
      refine r_iload_n X dX11_searchMending_45 rfl 1 rfl ?_
      refine r_iload_n X dX11_searchMending_46 rfl 2 rfl ?_
      refine r_cVI (As := [.int (x7), .int (x8)]) (rest := []) X (fun r9 m9 hg => k_X11_joyMendedAhead e0 hg) h (Lp_N e0 rfl) e0 rfl (by decide) uw5_149 uw5_151 us3_9 uw1_1 uw5_152 rfl rfl dd_X11_joyMendedAhead ⟨Nat.le_of_ble_eq_true rfl, Nat.le_of_ble_eq_true rfl⟩ rfl (Nat.le_of_ble_eq_true rfl) dX11_searchMending_47 rfl (fun x11 m10 h => ?_)
      refine r_istore_n (lv2 := [(3, .int (x11)), (0, .ref (ad (h0))), (1, .int (x7)), (2, .int (x8))]) X dX11_searchMending_50 rfl (by decide) rfl ?_
      refine r_iload_n X dX11_searchMending_51 rfl 0 rfl ?_
      refine r_aload_n X dX11_searchMending_52 rfl 1 rfl ?_
      refine r_getF X (k := 15) (of := 165) rfl (Lp_N e0 rfl) e0 rfl (by decide) ui_11 (by decide) uw2_198 rfl dX11_searchMending_53 ?_
      refine r_iconst (v := (0)) X dX11_searchMending_56 (by decide) ?_
      refine r_iald X (Lp_N (Lp_11_15 e0) rfl) (Lp_11_15 e0) h dX11_searchMending_57 (fun h => ?_)
      refine r_icmp_le (tgt := 84) X dX11_searchMending_58 (by decide) h (fun h => ?_) (fun h => ?_)
      · exact r_sub [1, 2, 3] rfl (hJ84 k39 hk39 x7 x8 m10 h)
      · refine r_aload_n X dX11_searchMending_61 rfl 1 rfl ?_
        refine r_getF X (k := 15) (of := 165) rfl (Lp_N e0 rfl) e0 rfl (by decide) ui_11 (by decide) uw2_198 rfl dX11_searchMending_62 ?_
        refine r_iconst (v := (0)) X dX11_searchMending_65 (by decide) ?_
        refine r_iload_n X dX11_searchMending_66 rfl 0 rfl ?_
        refine r_iast X (Lp_N (Lp_11_15 e0) rfl) (Lp_11_15 e0) h dX11_searchMending_67 (fun h => ?_)
        refine r_nmM h (fun m12 h => ?_)
        refine r_aload_n X dX11_searchMending_68 rfl 1 rfl ?_
        refine r_getF X (k := 15) (of := 165) rfl (Lp_N e0 rfl) e0 rfl (by decide) ui_11 (by decide) uw2_198 rfl dX11_searchMending_69 ?_
        refine r_iconst (v := (1)) X dX11_searchMending_72 (by decide) ?_
        refine r_iload_n X dX11_searchMending_73 rfl 3 rfl ?_
        refine r_iload_n X dX11_searchMending_74 rfl 2 rfl ?_
        refine r_icmp_ge (tgt := 82) X dX11_searchMending_75 (by decide) h (fun h => ?_) (fun h => ?_)
        · refine r_iconst (v := (-1)) X dX11_searchMending_82 (by decide) ?_
          exact r_sub [1, 2, 3] rfl (hJ83 k39 hk39 x7 x8 ((-1)) ((1)) m12 h)
        · refine r_iload_n X dX11_searchMending_78 rfl 3 rfl ?_
          refine r_goto (tgt := 83) X dX11_searchMending_79 (by decide) ?_
          exact r_sub [1, 2, 3] rfl (hJ83 k39 hk39 x7 x8 x8 ((1)) m12 h)
  have hL39 : ∀ (n : Nat), ∀ (x7 : Int32) (x8 : Int32) (m9 : Mm), lop (fun _ _ _ => none) (f_X11_searchMending_B39 h0 p1 ) n x7 x8 m9 = some mem2 → Jd p l e ({ frames := 6, cells := 0, slots := 0, locals := 136 }) s m args below meth c 4 (MQ below (PsV Lp ad cy dC dI mem2 A) args s 0 0 A) A dC dI cy Lp ad m9 39 [(0, .ref (ad (h0))), (1, .int (x7)), (2, .int (x8))] [] := by
    intro  n
    induction n with
    | zero => intro _ _ _ h; cases h
    | succ n ih => intro a0 a1 a2 h; exact hJ39  _ ih a0 a1 a2 h
  unfold f_X11_searchMending at h
  refine r_aload_n X dX11_searchMending_0 rfl 0 rfl ?_
  refine r_getF X (k := 10) (of := 82) rfl (Lp_N e0 rfl) e0 rfl (by decide) ui_11 (by decide) uw2_193 rfl dX11_searchMending_1 ?_
  refine r_aload_n X dX11_searchMending_4 rfl 0 rfl ?_
  refine r_getR X 7 (k := 2) (Lp_N e0 rfl) e0 rfl (by decide) ui_11 (by decide) uw2_185 rfl h dX11_searchMending_5 (fun q1 eq1 h => ?_)
  refine r_aload_n X dX11_searchMending_8 rfl 0 rfl ?_
  refine r_getF X (k := 4) (of := 64) rfl (Lp_N e0 rfl) e0 rfl (by decide) ui_11 (by decide) uw2_187 rfl dX11_searchMending_9 ?_
  refine r_getIN X (k := 2) (Lp_N (Lp_11_4 e0) rfl) (Lp_11_4 e0) rfl (by decide) ui_6 (by decide) hl138 rfl dX11_searchMending_12 ?_
  refine r_cVV (As := [.ref (ad (q1)), .int (gI mem (h0 + 64) 2)]) (rest := []) X (fun m9 hg => k_X1_prepare (Lp_11_10 e0) eq1 hg) h (Lp_N (Lp_11_10 e0) rfl) (Lp_11_10 e0) rfl (by decide) uw4_69 uw4_70 uw4_71 uw1_11 uw4_72 rfl rfl dd_X1_prepare ⟨Nat.le_of_ble_eq_true rfl, Nat.le_of_ble_eq_true rfl⟩ rfl (Nat.le_of_ble_eq_true rfl) dX11_searchMending_15 rfl (fun m2 h => ?_)
  refine r_aload_n X dX11_searchMending_18 rfl 0 rfl ?_
  refine r_getF X (k := 15) (of := 165) rfl (Lp_N e0 rfl) e0 rfl (by decide) ui_11 (by decide) uw2_198 rfl dX11_searchMending_19 ?_
  refine r_iconst (v := (0)) X dX11_searchMending_22 (by decide) ?_
  refine r_aload_n X dX11_searchMending_23 rfl 0 rfl ?_
  refine r_iload_n X dX11_searchMending_24 rfl 1 rfl ?_
  refine r_iconst (v := (0)) X dX11_searchMending_25 (by decide) ?_
  refine r_cVI (As := [.int (p1), .int ((0))]) (rest := [.int ((0)), .ref (ad (h0 + 165))]) X (fun r9 m9 hg => k_X11_joyMendedAhead e0 hg) h (Lp_N e0 rfl) e0 rfl (by decide) uw5_149 uw5_151 us3_9 uw1_1 uw5_152 rfl rfl dd_X11_joyMendedAhead ⟨Nat.le_of_ble_eq_true rfl, Nat.le_of_ble_eq_true rfl⟩ rfl (Nat.le_of_ble_eq_true rfl) dX11_searchMending_26 rfl (fun x4 m3 h => ?_)
  refine r_iast X (Lp_N (Lp_11_15 e0) rfl) (Lp_11_15 e0) h dX11_searchMending_29 (fun h => ?_)
  refine r_nmM h (fun m5 h => ?_)
  refine r_aload_n X dX11_searchMending_30 rfl 0 rfl ?_
  refine r_getF X (k := 15) (of := 165) rfl (Lp_N e0 rfl) e0 rfl (by decide) ui_11 (by decide) uw2_198 rfl dX11_searchMending_31 ?_
  refine r_iconst (v := (1)) X dX11_searchMending_34 (by decide) ?_
  refine r_iconst (v := (0)) X dX11_searchMending_35 (by decide) ?_
  refine r_iast X (Lp_N (Lp_11_15 e0) rfl) (Lp_11_15 e0) h dX11_searchMending_36 (fun h => ?_)
  refine r_nmM h (fun m6 h => ?_)
  refine r_iconst (v := (1)) X dX11_searchMending_37 (by decide) ?_
  refine r_istore_n (lv2 := [(2, .int ((1))), (0, .ref (ad (h0))), (1, .int (p1))]) X dX11_searchMending_38 rfl (by decide) rfl ?_
  exact r_sub [1, 2, 0] rfl (hL39 4000 p1 ((1)) m6 h)
noncomputable def f_X11_lasts_B40 (h0 : Nat) (p1 : Int32) (k40 : Int32 → Int32 → Mm → Option (Int32 × Mm)) (x6 : Int32) (x7 : Int32) (m8 : Mm) : Option (Int32 × Mm) :=
  if ((60)) < x7 then (some ((-1), m8)) else (grd (inb x6 (Lp.2.1 (h0 + 66 + 1))) (if (gI m8 (h0 + 66 + 1) x6.toNatClampNeg) < ((9)) then (bdV (f_X1_pass (h0 + 82) (h0 + 66) ((0)) m8) fun m9 => bnd (x7 + (1)) fun x10 => k40 x6 x10 m9) else (some (x7, m8))))
noncomputable def f_X11_lasts (h0 : Nat) (p1 : Int32) (mem : Mm) : Option (Int32 × Mm) :=
  bdI (f_X11_isKey p1 mem) fun x2 m1 => if ¬ x2 = 0 then (bdV (f_X6_copyFrom (h0 + 66) (h0 + 64) m1) fun m3 => grd (decide (Lp.1 (gR m3 h0 2) = 7)) (bnd (gR m3 h0 2) fun q4 => bdV (f_X1_prepare (h0 + 82) q4 (gI m3 (h0 + 66) 2) m3) fun m5 => lop (fun _ _ _ => none) (f_X11_lasts_B40 h0 p1 ) 4000 p1 ((0)) m5)) else (some ((-1), m1))
theorem dd_X11_lasts : yX11_lasts.cls = RX11 ∧ yX11_lasts.cls ≠ "java/lang/invoke/MethodHandle" ∧ yX11_lasts.cls ≠ "java/lang/invoke/VarHandle" ∧ (parseMethodDescriptor yX11_lasts.desc).map (fun d => d.parameters.length) = some 1 := by decide +kernel
set_option maxHeartbeats 4000000 in
set_option maxRecDepth 100000 in
theorem k_X11_lasts {l : Launch} {ad : Nat → Nat} {cy : Nat → ClassId} {dC : Nat → ClassId} {dI : Nat → Nat → Nat} {ks : (Nat → Nat) × (Nat → Nat)} {h0 : Nat} {p1 : Int32} {mem : Mm} {r2 : Int32} {mem2 : Mm} (e0 : Lp.1 h0 = 11) (h : f_X11_lasts h0 p1 mem = some (r2, mem2)) : CtI l Lp ad cy dC dI ks yX11_lasts cX11_lasts 3 (some .int) ({ frames := 5, cells := 0, slots := 0, locals := 112 }) [.ref (ad (h0)), .int (p1)] mem r2 mem2 := by
  refine CtI.of (cc := cX11_lasts) (maxL := 3) (ret := (some .int)) (own := RX11) rfl (by decide) (Nat.le_of_ble_eq_true rfl) ?_
  intro p e s m args below meth c A X
  have hts := X.2.2.2.2.1
  have hl138 := X.2.2.2.2.2.2.1 (.fieldLinkNest "StationPiano" 138 "StationPiano$State" "minutes" "I" "StationPiano") (List.mem_of_getElem? (i := 57) rfl)
  have hl161 := X.2.2.2.2.2.2.1 (.fieldLinkNest "StationPiano" 161 "StationPiano$State" "wear" "[I" "StationPiano") (List.mem_of_getElem? (i := 55) rfl)
  have hJ40 : ∀ (k40 : Int32 → Int32 → Mm → Option (Int32 × Mm)) (hk40 : ∀ (x6 : Int32) (x7 : Int32) (m8 : Mm), k40 x6 x7 m8 = some (r2, mem2) → Jd p l e ({ frames := 5, cells := 0, slots := 0, locals := 112 }) s m args below meth c 3 (MQ below (PsI Lp ad cy dC dI r2 mem2 A) args s 0 0 A) A dC dI cy Lp ad m8 40 [(0, .ref (ad (h0))), (1, .int (x6)), (2, .int (x7))] []) (x6 : Int32) (x7 : Int32) (m8 : Mm), f_X11_lasts_B40 h0 p1 k40 x6 x7 m8 = some (r2, mem2) → Jd p l e ({ frames := 5, cells := 0, slots := 0, locals := 112 }) s m args below meth c 3 (MQ below (PsI Lp ad cy dC dI r2 mem2 A) args s 0 0 A) A dC dI cy Lp ad m8 40 [(0, .ref (ad (h0))), (1, .int (x6)), (2, .int (x7))] [] := by
    intro k40 hk40 x6 x7 m8 h
    unfold f_X11_lasts_B40 at h
    refine r_iload_n X dX11_lasts_40 rfl 2 rfl ?_
    refine r_bipush (v := (60)) X dX11_lasts_41 (by decide) ?_
    refine r_icmp_gt (tgt := 80) X dX11_lasts_43 (by decide) h (fun h => ?_) (fun h => ?_)
    · refine r_iconst (v := (-1)) X dX11_lasts_80 (by decide) ?_
      exact r_iret2 X rfl dX11_lasts_81 h
    · refine r_aload_n X dX11_lasts_46 rfl 0 rfl ?_
      refine r_getF X (k := 5) (of := 66) rfl (Lp_N e0 rfl) e0 rfl (by decide) ui_11 (by decide) uw2_188 rfl dX11_lasts_47 ?_
      refine r_getFN X (k := 0) (of := 1) rfl (Lp_N (Lp_11_5 e0) rfl) (Lp_11_5 e0) rfl (by decide) ui_6 (by decide) hl161 rfl dX11_lasts_50 ?_
      refine r_iload_n X dX11_lasts_53 rfl 1 rfl ?_
      refine r_iald X (Lp_N (Lp_6_0 (Lp_11_5 e0)) rfl) (Lp_6_0 (Lp_11_5 e0)) h dX11_lasts_54 (fun h => ?_)
      refine r_bipush (v := (9)) X dX11_lasts_55 (by decide) ?_
      refine r_icmp_lt (tgt := 62) X dX11_lasts_57 (by decide) h (fun h => ?_) (fun h => ?_)
      · refine r_aload_n X dX11_lasts_62 rfl 0 rfl ?_
        refine r_getF X (k := 10) (of := 82) rfl (Lp_N e0 rfl) e0 rfl (by decide) ui_11 (by decide) uw2_193 rfl dX11_lasts_63 ?_
        refine r_aload_n X dX11_lasts_66 rfl 0 rfl ?_
        refine r_getF X (k := 5) (of := 66) rfl (Lp_N e0 rfl) e0 rfl (by decide) ui_11 (by decide) uw2_188 rfl dX11_lasts_67 ?_
        refine r_iconst (v := (0)) X dX11_lasts_70 (by decide) ?_
        refine r_cVV (As := [.ref (ad (h0 + 66)), .int ((0))]) (rest := []) X (fun m9 hg => k_X1_pass (Lp_11_10 e0) (Lp_11_5 e0) hg) h (Lp_N (Lp_11_10 e0) rfl) (Lp_11_10 e0) rfl (by decide) uw4_96 uw4_97 uw4_98 uw1_11 uw4_99 rfl rfl dd_X1_pass ⟨Nat.le_of_ble_eq_true rfl, Nat.le_of_ble_eq_true rfl⟩ rfl (Nat.le_of_ble_eq_true rfl) dX11_lasts_71 rfl (fun m9 h => ?_)
        refine r_inc h (fun x10 e9 h => ?_)
        refine r_iinc (v := x10) (lv2 := [(2, .int (x10)), (0, .ref (ad (h0))), (1, .int (x6))]) X dX11_lasts_74 2 rfl (by rw [e9]; rfl) (by decide) rfl ?_
        refine r_goto (tgt := 40) X dX11_lasts_77 (by decide) ?_
        exact r_sub [1, 2, 0] rfl (hk40 x6 x10 m9 h)
      · refine r_iload_n X dX11_lasts_60 rfl 2 rfl ?_
        exact r_iret2 X rfl dX11_lasts_61 h
  have hL40 : ∀ (n : Nat), ∀ (x6 : Int32) (x7 : Int32) (m8 : Mm), lop (fun _ _ _ => none) (f_X11_lasts_B40 h0 p1 ) n x6 x7 m8 = some (r2, mem2) → Jd p l e ({ frames := 5, cells := 0, slots := 0, locals := 112 }) s m args below meth c 3 (MQ below (PsI Lp ad cy dC dI r2 mem2 A) args s 0 0 A) A dC dI cy Lp ad m8 40 [(0, .ref (ad (h0))), (1, .int (x6)), (2, .int (x7))] [] := by
    intro  n
    induction n with
    | zero => intro _ _ _ h; cases h
    | succ n ih => intro a0 a1 a2 h; exact hJ40  _ ih a0 a1 a2 h
  unfold f_X11_lasts at h
  refine r_iload_n X dX11_lasts_0 rfl 1 rfl ?_
  refine r_cSI (As := [.int (p1)]) (rest := []) X (fun r9 m9 hg => k_X11_isKey hg) h uw4_54 uw4_55 uw1_1 uw4_56 rfl rfl dd_X11_isKey ⟨Nat.le_of_ble_eq_true rfl, Nat.le_of_ble_eq_true rfl⟩ rfl (Nat.le_of_ble_eq_true rfl) dX11_lasts_1 rfl (fun x2 m1 h => ?_)
  refine r_if_ne (tgt := 9) X dX11_lasts_4 (by decide) h (fun h => ?_) (fun h => ?_)
  · refine r_aload_n X dX11_lasts_9 rfl 0 rfl ?_
    refine r_getF X (k := 5) (of := 66) rfl (Lp_N e0 rfl) e0 rfl (by decide) ui_11 (by decide) uw2_188 rfl dX11_lasts_10 ?_
    refine r_aload_n X dX11_lasts_13 rfl 0 rfl ?_
    refine r_getF X (k := 4) (of := 64) rfl (Lp_N e0 rfl) e0 rfl (by decide) ui_11 (by decide) uw2_187 rfl dX11_lasts_14 ?_
    refine r_cVV (As := [.ref (ad (h0 + 64))]) (rest := []) X (fun m9 hg => k_X6_copyFrom (Lp_11_5 e0) (Lp_11_4 e0) hg) h (Lp_N (Lp_11_5 e0) rfl) (Lp_11_5 e0) rfl (by decide) uw4_65 uw4_66 uw4_67 uw1_7 uw4_68 rfl rfl dd_X6_copyFrom ⟨Nat.le_of_ble_eq_true rfl, Nat.le_of_ble_eq_true rfl⟩ rfl (Nat.le_of_ble_eq_true rfl) dX11_lasts_17 rfl (fun m3 h => ?_)
    refine r_aload_n X dX11_lasts_20 rfl 0 rfl ?_
    refine r_getF X (k := 10) (of := 82) rfl (Lp_N e0 rfl) e0 rfl (by decide) ui_11 (by decide) uw2_193 rfl dX11_lasts_21 ?_
    refine r_aload_n X dX11_lasts_24 rfl 0 rfl ?_
    refine r_getR X 7 (k := 2) (Lp_N e0 rfl) e0 rfl (by decide) ui_11 (by decide) uw2_185 rfl h dX11_lasts_25 (fun q4 eq4 h => ?_)
    refine r_aload_n X dX11_lasts_28 rfl 0 rfl ?_
    refine r_getF X (k := 5) (of := 66) rfl (Lp_N e0 rfl) e0 rfl (by decide) ui_11 (by decide) uw2_188 rfl dX11_lasts_29 ?_
    refine r_getIN X (k := 2) (Lp_N (Lp_11_5 e0) rfl) (Lp_11_5 e0) rfl (by decide) ui_6 (by decide) hl138 rfl dX11_lasts_32 ?_
    refine r_cVV (As := [.ref (ad (q4)), .int (gI m3 (h0 + 66) 2)]) (rest := []) X (fun m9 hg => k_X1_prepare (Lp_11_10 e0) eq4 hg) h (Lp_N (Lp_11_10 e0) rfl) (Lp_11_10 e0) rfl (by decide) uw4_69 uw4_70 uw4_71 uw1_11 uw4_72 rfl rfl dd_X1_prepare ⟨Nat.le_of_ble_eq_true rfl, Nat.le_of_ble_eq_true rfl⟩ rfl (Nat.le_of_ble_eq_true rfl) dX11_lasts_35 rfl (fun m5 h => ?_)
    refine r_iconst (v := (0)) X dX11_lasts_38 (by decide) ?_
    refine r_istore_n (lv2 := [(2, .int ((0))), (0, .ref (ad (h0))), (1, .int (p1))]) X dX11_lasts_39 rfl (by decide) rfl ?_
    exact r_sub [1, 2, 0] rfl (hL40 4000 p1 ((0)) m5 h)
  · refine r_iconst (v := (-1)) X dX11_lasts_7 (by decide) ?_
    exact r_iret2 X rfl dX11_lasts_8 h
noncomputable def f_J6_bitCount_0f7a4 (p0 : Int32) (mem : Mm) : Option (Int32 × Mm) :=
  bnd (p0 - (((p0.toUInt32 >>> ((1 : Int32).toUInt32 &&& Int32.toUInt32 31)).toInt32) &&& ((1431655765)))) fun x1 => bnd ((x1 &&& ((858993459))) + (((x1.toUInt32 >>> ((2 : Int32).toUInt32 &&& Int32.toUInt32 31)).toInt32) &&& ((858993459)))) fun x2 => bnd ((x2 + ((x2.toUInt32 >>> ((4 : Int32).toUInt32 &&& Int32.toUInt32 31)).toInt32)) &&& ((252645135))) fun x3 => bnd (x3 + ((x3.toUInt32 >>> ((8 : Int32).toUInt32 &&& Int32.toUInt32 31)).toInt32)) fun x4 => bnd (x4 + ((x4.toUInt32 >>> ((16 : Int32).toUInt32 &&& Int32.toUInt32 31)).toInt32)) fun x5 => some (x5 &&& ((63)), mem)
theorem dd_J6_bitCount_0f7a4 : yJ6_bitCount_0f7a4.cls ≠ "java/lang/invoke/MethodHandle" ∧ yJ6_bitCount_0f7a4.cls ≠ "java/lang/invoke/VarHandle" ∧ (parseMethodDescriptor yJ6_bitCount_0f7a4.desc).map (fun d => d.parameters.length) = some 1 := by decide +kernel
set_option maxHeartbeats 4000000 in
set_option maxRecDepth 100000 in
theorem k_J6_bitCount_0f7a4 {l : Launch} {ad : Nat → Nat} {cy : Nat → ClassId} {dC : Nat → ClassId} {dI : Nat → Nat → Nat} {ks : (Nat → Nat) × (Nat → Nat)} {p0 : Int32} {mem : Mm} {r2 : Int32} {mem2 : Mm}  (h : f_J6_bitCount_0f7a4 p0 mem = some (r2, mem2)) : CtI l Lp ad cy dC dI ks yJ6_bitCount_0f7a4 cJ6_bitCount_0f7a4 1 (some .int) ({ frames := 0, cells := 0, slots := 0, locals := 0 }) [.int (p0)] mem r2 mem2 := by
  refine CtI.of (cc := cJ6_bitCount_0f7a4) (maxL := 1) (ret := (some .int)) (own := RJ6) rfl (by decide) (Nat.le_of_ble_eq_true rfl) ?_
  intro p e s m args below meth c A X
  have hts := X.2.2.2.2.1
  unfold f_J6_bitCount_0f7a4 at h
  refine r_iload_n X dJ6_bitCount_0f7a4_0 rfl 0 rfl ?_
  refine r_iload_n X dJ6_bitCount_0f7a4_1 rfl 0 rfl ?_
  refine r_iconst (v := (1)) X dJ6_bitCount_0f7a4_2 (by decide) ?_
  refine r_iushr X dJ6_bitCount_0f7a4_3 ?_
  refine r_ldcw (v := 1431655765) X dJ6_bitCount_0f7a4_4 uw4_205 ?_
  refine r_iand X dJ6_bitCount_0f7a4_7 ?_
  refine r_isub X dJ6_bitCount_0f7a4_8 ?_
  refine r_nmI h (fun x1 h => ?_)
  refine r_istore_n (lv2 := [(0, .int (x1))]) X dJ6_bitCount_0f7a4_9 rfl (by decide) rfl ?_
  refine r_iload_n X dJ6_bitCount_0f7a4_10 rfl 0 rfl ?_
  refine r_ldcw (v := 858993459) X dJ6_bitCount_0f7a4_11 uw4_206 ?_
  refine r_iand X dJ6_bitCount_0f7a4_14 ?_
  refine r_iload_n X dJ6_bitCount_0f7a4_15 rfl 0 rfl ?_
  refine r_iconst (v := (2)) X dJ6_bitCount_0f7a4_16 (by decide) ?_
  refine r_iushr X dJ6_bitCount_0f7a4_17 ?_
  refine r_ldcw (v := 858993459) X dJ6_bitCount_0f7a4_18 uw4_206 ?_
  refine r_iand X dJ6_bitCount_0f7a4_21 ?_
  refine r_iadd X dJ6_bitCount_0f7a4_22 ?_
  refine r_nmI h (fun x2 h => ?_)
  refine r_istore_n (lv2 := [(0, .int (x2))]) X dJ6_bitCount_0f7a4_23 rfl (by decide) rfl ?_
  refine r_iload_n X dJ6_bitCount_0f7a4_24 rfl 0 rfl ?_
  refine r_iload_n X dJ6_bitCount_0f7a4_25 rfl 0 rfl ?_
  refine r_iconst (v := (4)) X dJ6_bitCount_0f7a4_26 (by decide) ?_
  refine r_iushr X dJ6_bitCount_0f7a4_27 ?_
  refine r_iadd X dJ6_bitCount_0f7a4_28 ?_
  refine r_ldcw (v := 252645135) X dJ6_bitCount_0f7a4_29 uw4_207 ?_
  refine r_iand X dJ6_bitCount_0f7a4_32 ?_
  refine r_nmI h (fun x3 h => ?_)
  refine r_istore_n (lv2 := [(0, .int (x3))]) X dJ6_bitCount_0f7a4_33 rfl (by decide) rfl ?_
  refine r_iload_n X dJ6_bitCount_0f7a4_34 rfl 0 rfl ?_
  refine r_iload_n X dJ6_bitCount_0f7a4_35 rfl 0 rfl ?_
  refine r_bipush (v := (8)) X dJ6_bitCount_0f7a4_36 (by decide) ?_
  refine r_iushr X dJ6_bitCount_0f7a4_38 ?_
  refine r_iadd X dJ6_bitCount_0f7a4_39 ?_
  refine r_nmI h (fun x4 h => ?_)
  refine r_istore_n (lv2 := [(0, .int (x4))]) X dJ6_bitCount_0f7a4_40 rfl (by decide) rfl ?_
  refine r_iload_n X dJ6_bitCount_0f7a4_41 rfl 0 rfl ?_
  refine r_iload_n X dJ6_bitCount_0f7a4_42 rfl 0 rfl ?_
  refine r_bipush (v := (16)) X dJ6_bitCount_0f7a4_43 (by decide) ?_
  refine r_iushr X dJ6_bitCount_0f7a4_45 ?_
  refine r_iadd X dJ6_bitCount_0f7a4_46 ?_
  refine r_nmI h (fun x5 h => ?_)
  refine r_istore_n (lv2 := [(0, .int (x5))]) X dJ6_bitCount_0f7a4_47 rfl (by decide) rfl ?_
  refine r_iload_n X dJ6_bitCount_0f7a4_48 rfl 0 rfl ?_
  refine r_bipush (v := (63)) X dJ6_bitCount_0f7a4_49 (by decide) ?_
  refine r_iand X dJ6_bitCount_0f7a4_51 ?_
  exact r_iret2 X rfl dJ6_bitCount_0f7a4_52 h
noncomputable def f_X11_rarer_J122 (h0 : Nat) (p1 : Int32) (k58 : Int32 → Int32 → Int32 → Int32 → Mm → Option (Int32 × Mm)) (x23 : Int32) (x24 : Int32) (x25 : Int32) (x26 : Int32) (m27 : Mm) : Option (Int32 × Mm) :=
  bnd (x26 + (1)) fun x28 => k58 x23 x24 x25 x28 m27
noncomputable def f_X11_rarer_J84 (h0 : Nat) (p1 : Int32) (k58 : Int32 → Int32 → Int32 → Int32 → Mm → Option (Int32 × Mm)) (x16 : Int32) (x17 : Int32) (x18 : Int32) (x19 : Int32) (m20 : Mm) : Option (Int32 × Mm) :=
  bdV (f_X6_copyFrom (h0 + 66) (h0 + 64) m20) fun m21 => bdV (f_X1_pass (h0 + 82) (h0 + 66) x19 m21) fun m22 => if (gI m22 (h0 + 82) 10) < x16 then (f_X11_rarer_J122 h0 p1 k58 x16 x17 x18 x19 m22) else (f_X11_rarer_J122 h0 p1 k58 x16 x17 x19 x19 m22)
noncomputable def f_X11_rarer_B58 (h0 : Nat) (p1 : Int32) (k58 : Int32 → Int32 → Int32 → Int32 → Mm → Option (Int32 × Mm)) (x7 : Int32) (x8 : Int32) (x9 : Int32) (x10 : Int32) (m11 : Mm) : Option (Int32 × Mm) :=
  if x8 ≤ x10 then (some (x9, m11)) else (if x9 = ((-1)) then (f_X11_rarer_J84 h0 p1 k58 x7 x8 x9 x10 m11) else (bdI (f_J6_bitCount_0f7a4 x10 m11) fun x13 m12 => bdI (f_J6_bitCount_0f7a4 x9 m12) fun x15 m14 => if x13 < x15 then (f_X11_rarer_J84 h0 p1 k58 x7 x8 x9 x10 m14) else (f_X11_rarer_J122 h0 p1 k58 x7 x8 x9 x10 m14)))
noncomputable def f_X11_rarer (h0 : Nat) (p1 : Int32) (mem : Mm) : Option (Int32 × Mm) :=
  if p1 < ((-9999)) then (some ((-1), mem)) else (if p1 ≤ ((9999)) then (grd (decide (Lp.1 (gR mem h0 2) = 7)) (bnd (gR mem h0 2) fun q1 => bdV (f_X1_prepare (h0 + 82) q1 (gI mem (h0 + 64) 2) mem) fun m2 => grd (decide (Lp.1 (gR m2 h0 2) = 7)) (bnd (gR m2 h0 2) fun q3 => bnd (if gI m2 q3 7 < (7) then gI m2 q3 7 else (7)) fun x4 => bnd (if (0) < x4 then x4 else (0)) fun x5 => bnd (((1)) <<< (x5 &&& 31)) fun x6 => lop (fun _ _ _ _ _ => none) (f_X11_rarer_B58 h0 p1 ) 4000 p1 x6 ((-1)) ((0)) m2))) else (some ((-1), mem)))
theorem dd_X11_rarer : yX11_rarer.cls = RX11 ∧ yX11_rarer.cls ≠ "java/lang/invoke/MethodHandle" ∧ yX11_rarer.cls ≠ "java/lang/invoke/VarHandle" ∧ (parseMethodDescriptor yX11_rarer.desc).map (fun d => d.parameters.length) = some 1 := by decide +kernel
set_option maxHeartbeats 4000000 in
set_option maxRecDepth 100000 in
theorem k_X11_rarer {l : Launch} {ad : Nat → Nat} {cy : Nat → ClassId} {dC : Nat → ClassId} {dI : Nat → Nat → Nat} {ks : (Nat → Nat) × (Nat → Nat)} {h0 : Nat} {p1 : Int32} {mem : Mm} {r2 : Int32} {mem2 : Mm} (e0 : Lp.1 h0 = 11) (h : f_X11_rarer h0 p1 mem = some (r2, mem2)) : CtI l Lp ad cy dC dI ks yX11_rarer cX11_rarer 5 (some .int) ({ frames := 5, cells := 0, slots := 0, locals := 112 }) [.ref (ad (h0)), .int (p1)] mem r2 mem2 := by
  refine CtI.of (cc := cX11_rarer) (maxL := 5) (ret := (some .int)) (own := RX11) rfl (by decide) (Nat.le_of_ble_eq_true rfl) ?_
  intro p e s m args below meth c A X
  have hts := X.2.2.2.2.1
  have hl138 := X.2.2.2.2.2.2.1 (.fieldLinkNest "StationPiano" 138 "StationPiano$State" "minutes" "I" "StationPiano") (List.mem_of_getElem? (i := 57) rfl)
  have hl173 := X.2.2.2.2.2.2.1 (.fieldLinkNest "StationPiano" 173 "StationPiano$Station" "passerCount" "I" "StationPiano") (List.mem_of_getElem? (i := 40) rfl)
  have hl190 := X.2.2.2.2.2.2.1 (.fieldLinkNest "StationPiano" 190 "StationPiano$DayRun" "joySum" "I" "StationPiano") (List.mem_of_getElem? (i := 75) rfl)
  have hJ122 : ∀ (k58 : Int32 → Int32 → Int32 → Int32 → Mm → Option (Int32 × Mm)) (hk58 : ∀ (x7 : Int32) (x8 : Int32) (x9 : Int32) (x10 : Int32) (m11 : Mm), k58 x7 x8 x9 x10 m11 = some (r2, mem2) → Jd p l e ({ frames := 5, cells := 0, slots := 0, locals := 112 }) s m args below meth c 5 (MQ below (PsI Lp ad cy dC dI r2 mem2 A) args s 0 0 A) A dC dI cy Lp ad m11 58 [(0, .ref (ad (h0))), (1, .int (x7)), (2, .int (x8)), (3, .int (x9)), (4, .int (x10))] []) (x23 : Int32) (x24 : Int32) (x25 : Int32) (x26 : Int32) (m27 : Mm), f_X11_rarer_J122 h0 p1 k58 x23 x24 x25 x26 m27 = some (r2, mem2) → Jd p l e ({ frames := 5, cells := 0, slots := 0, locals := 112 }) s m args below meth c 5 (MQ below (PsI Lp ad cy dC dI r2 mem2 A) args s 0 0 A) A dC dI cy Lp ad m27 122 [(0, .ref (ad (h0))), (1, .int (x23)), (2, .int (x24)), (3, .int (x25)), (4, .int (x26))] [] := by
    intro k58 hk58 x23 x24 x25 x26 m27 h
    unfold f_X11_rarer_J122 at h
    refine r_inc h (fun x28 e9 h => ?_)
    refine r_iinc (v := x28) (lv2 := [(4, .int (x28)), (0, .ref (ad (h0))), (1, .int (x23)), (2, .int (x24)), (3, .int (x25))]) X dX11_rarer_122 4 rfl (by rw [e9]; rfl) (by decide) rfl ?_
    refine r_goto (tgt := 58) X dX11_rarer_125 (by decide) ?_
    exact r_sub [1, 2, 3, 4, 0] rfl (hk58 x23 x24 x25 x28 m27 h)
  have hJ84 : ∀ (k58 : Int32 → Int32 → Int32 → Int32 → Mm → Option (Int32 × Mm)) (hk58 : ∀ (x7 : Int32) (x8 : Int32) (x9 : Int32) (x10 : Int32) (m11 : Mm), k58 x7 x8 x9 x10 m11 = some (r2, mem2) → Jd p l e ({ frames := 5, cells := 0, slots := 0, locals := 112 }) s m args below meth c 5 (MQ below (PsI Lp ad cy dC dI r2 mem2 A) args s 0 0 A) A dC dI cy Lp ad m11 58 [(0, .ref (ad (h0))), (1, .int (x7)), (2, .int (x8)), (3, .int (x9)), (4, .int (x10))] []) (x16 : Int32) (x17 : Int32) (x18 : Int32) (x19 : Int32) (m20 : Mm), f_X11_rarer_J84 h0 p1 k58 x16 x17 x18 x19 m20 = some (r2, mem2) → Jd p l e ({ frames := 5, cells := 0, slots := 0, locals := 112 }) s m args below meth c 5 (MQ below (PsI Lp ad cy dC dI r2 mem2 A) args s 0 0 A) A dC dI cy Lp ad m20 84 [(0, .ref (ad (h0))), (1, .int (x16)), (2, .int (x17)), (3, .int (x18)), (4, .int (x19))] [] := by
    intro k58 hk58 x16 x17 x18 x19 m20 h
    unfold f_X11_rarer_J84 at h
    refine r_aload_n X dX11_rarer_84 rfl 0 rfl ?_
    refine r_getF X (k := 5) (of := 66) rfl (Lp_N e0 rfl) e0 rfl (by decide) ui_11 (by decide) uw2_188 rfl dX11_rarer_85 ?_
    refine r_aload_n X dX11_rarer_88 rfl 0 rfl ?_
    refine r_getF X (k := 4) (of := 64) rfl (Lp_N e0 rfl) e0 rfl (by decide) ui_11 (by decide) uw2_187 rfl dX11_rarer_89 ?_
    refine r_cVV (As := [.ref (ad (h0 + 64))]) (rest := []) X (fun m9 hg => k_X6_copyFrom (Lp_11_5 e0) (Lp_11_4 e0) hg) h (Lp_N (Lp_11_5 e0) rfl) (Lp_11_5 e0) rfl (by decide) uw4_65 uw4_66 uw4_67 uw1_7 uw4_68 rfl rfl dd_X6_copyFrom ⟨Nat.le_of_ble_eq_true rfl, Nat.le_of_ble_eq_true rfl⟩ rfl (Nat.le_of_ble_eq_true rfl) dX11_rarer_92 rfl (fun m21 h => ?_)
    refine r_aload_n X dX11_rarer_95 rfl 0 rfl ?_
    refine r_getF X (k := 10) (of := 82) rfl (Lp_N e0 rfl) e0 rfl (by decide) ui_11 (by decide) uw2_193 rfl dX11_rarer_96 ?_
    refine r_aload_n X dX11_rarer_99 rfl 0 rfl ?_
    refine r_getF X (k := 5) (of := 66) rfl (Lp_N e0 rfl) e0 rfl (by decide) ui_11 (by decide) uw2_188 rfl dX11_rarer_100 ?_
    refine r_iload X dX11_rarer_103 4 rfl ?_
    refine r_cVV (As := [.ref (ad (h0 + 66)), .int (x19)]) (rest := []) X (fun m9 hg => k_X1_pass (Lp_11_10 e0) (Lp_11_5 e0) hg) h (Lp_N (Lp_11_10 e0) rfl) (Lp_11_10 e0) rfl (by decide) uw4_96 uw4_97 uw4_98 uw1_11 uw4_99 rfl rfl dd_X1_pass ⟨Nat.le_of_ble_eq_true rfl, Nat.le_of_ble_eq_true rfl⟩ rfl (Nat.le_of_ble_eq_true rfl) dX11_rarer_105 rfl (fun m22 h => ?_)
    refine r_aload_n X dX11_rarer_108 rfl 0 rfl ?_
    refine r_getF X (k := 10) (of := 82) rfl (Lp_N e0 rfl) e0 rfl (by decide) ui_11 (by decide) uw2_193 rfl dX11_rarer_109 ?_
    refine r_getIN X (k := 10) (Lp_N (Lp_11_10 e0) rfl) (Lp_11_10 e0) rfl (by decide) ui_1 (by decide) hl190 rfl dX11_rarer_112 ?_
    refine r_iload_n X dX11_rarer_115 rfl 1 rfl ?_
    refine r_icmp_lt (tgt := 122) X dX11_rarer_116 (by decide) h (fun h => ?_) (fun h => ?_)
    · exact r_sub [0, 1, 2, 3, 4] rfl (hJ122 k58 hk58 x16 x17 x18 x19 m22 h)
    · refine r_iload X dX11_rarer_119 4 rfl ?_
      refine r_istore_n (lv2 := [(3, .int (x19)), (0, .ref (ad (h0))), (1, .int (x16)), (2, .int (x17)), (4, .int (x19))]) X dX11_rarer_121 rfl (by decide) rfl ?_
      exact r_sub [1, 2, 3, 0, 4] rfl (hJ122 k58 hk58 x16 x17 x19 x19 m22 h)
  have hJ58 : ∀ (k58 : Int32 → Int32 → Int32 → Int32 → Mm → Option (Int32 × Mm)) (hk58 : ∀ (x7 : Int32) (x8 : Int32) (x9 : Int32) (x10 : Int32) (m11 : Mm), k58 x7 x8 x9 x10 m11 = some (r2, mem2) → Jd p l e ({ frames := 5, cells := 0, slots := 0, locals := 112 }) s m args below meth c 5 (MQ below (PsI Lp ad cy dC dI r2 mem2 A) args s 0 0 A) A dC dI cy Lp ad m11 58 [(0, .ref (ad (h0))), (1, .int (x7)), (2, .int (x8)), (3, .int (x9)), (4, .int (x10))] []) (x7 : Int32) (x8 : Int32) (x9 : Int32) (x10 : Int32) (m11 : Mm), f_X11_rarer_B58 h0 p1 k58 x7 x8 x9 x10 m11 = some (r2, mem2) → Jd p l e ({ frames := 5, cells := 0, slots := 0, locals := 112 }) s m args below meth c 5 (MQ below (PsI Lp ad cy dC dI r2 mem2 A) args s 0 0 A) A dC dI cy Lp ad m11 58 [(0, .ref (ad (h0))), (1, .int (x7)), (2, .int (x8)), (3, .int (x9)), (4, .int (x10))] [] := by
    intro k58 hk58 x7 x8 x9 x10 m11 h
    unfold f_X11_rarer_B58 at h
    refine r_iload X dX11_rarer_58 4 rfl ?_
    refine r_iload_n X dX11_rarer_60 rfl 2 rfl ?_
    refine r_icmp_ge (tgt := 128) X dX11_rarer_61 (by decide) h (fun h => ?_) (fun h => ?_)
    · refine r_iload_n X dX11_rarer_128 rfl 3 rfl ?_
      exact r_iret2 X rfl dX11_rarer_129 h
    · refine r_iload_n X dX11_rarer_64 rfl 3 rfl ?_
      refine r_iconst (v := (-1)) X dX11_rarer_65 (by decide) ?_
      refine r_icmp_eq (tgt := 84) X dX11_rarer_66 (by decide) h (fun h => ?_) (fun h => ?_)
      · exact r_sub [0, 1, 2, 3, 4] rfl (hJ84 k58 hk58 x7 x8 x9 x10 m11 h)
      · refine r_iload X dX11_rarer_69 4 rfl ?_
        refine r_cSI (As := [.int (x10)]) (rest := []) X (fun r9 m9 hg => k_J6_bitCount_0f7a4 hg) h uw4_202 uw4_203 uw1_24 uw4_204 rfl rfl dd_J6_bitCount_0f7a4 ⟨Nat.le_of_ble_eq_true rfl, Nat.le_of_ble_eq_true rfl⟩ rfl (Nat.le_of_ble_eq_true rfl) dX11_rarer_71 rfl (fun x13 m12 h => ?_)
        refine r_iload_n X dX11_rarer_74 rfl 3 rfl ?_
        refine r_cSI (As := [.int (x9)]) (rest := [.int (x13)]) X (fun r9 m9 hg => k_J6_bitCount_0f7a4 hg) h uw4_202 uw4_203 uw1_24 uw4_204 rfl rfl dd_J6_bitCount_0f7a4 ⟨Nat.le_of_ble_eq_true rfl, Nat.le_of_ble_eq_true rfl⟩ rfl (Nat.le_of_ble_eq_true rfl) dX11_rarer_75 rfl (fun x15 m14 h => ?_)
        refine r_icmp_lt (tgt := 84) X dX11_rarer_78 (by decide) h (fun h => ?_) (fun h => ?_)
        · exact r_sub [0, 1, 2, 3, 4] rfl (hJ84 k58 hk58 x7 x8 x9 x10 m14 h)
        · refine r_goto (tgt := 122) X dX11_rarer_81 (by decide) ?_
          exact r_sub [0, 1, 2, 3, 4] rfl (hJ122 k58 hk58 x7 x8 x9 x10 m14 h)
  have hL58 : ∀ (n : Nat), ∀ (x7 : Int32) (x8 : Int32) (x9 : Int32) (x10 : Int32) (m11 : Mm), lop (fun _ _ _ _ _ => none) (f_X11_rarer_B58 h0 p1 ) n x7 x8 x9 x10 m11 = some (r2, mem2) → Jd p l e ({ frames := 5, cells := 0, slots := 0, locals := 112 }) s m args below meth c 5 (MQ below (PsI Lp ad cy dC dI r2 mem2 A) args s 0 0 A) A dC dI cy Lp ad m11 58 [(0, .ref (ad (h0))), (1, .int (x7)), (2, .int (x8)), (3, .int (x9)), (4, .int (x10))] [] := by
    intro  n
    induction n with
    | zero => intro _ _ _ _ _ h; cases h
    | succ n ih => intro a0 a1 a2 a3 a4 h; exact hJ58  _ ih a0 a1 a2 a3 a4 h
  unfold f_X11_rarer at h
  refine r_iload_n X dX11_rarer_0 rfl 1 rfl ?_
  refine r_sipush (v := (-9999)) X dX11_rarer_1 (by decide) ?_
  refine r_icmp_lt (tgt := 14) X dX11_rarer_4 (by decide) h (fun h => ?_) (fun h => ?_)
  · refine r_iconst (v := (-1)) X dX11_rarer_14 (by decide) ?_
    exact r_iret2 X rfl dX11_rarer_15 h
  · refine r_iload_n X dX11_rarer_7 rfl 1 rfl ?_
    refine r_sipush (v := (9999)) X dX11_rarer_8 (by decide) ?_
    refine r_icmp_le (tgt := 16) X dX11_rarer_11 (by decide) h (fun h => ?_) (fun h => ?_)
    · refine r_aload_n X dX11_rarer_16 rfl 0 rfl ?_
      refine r_getF X (k := 10) (of := 82) rfl (Lp_N e0 rfl) e0 rfl (by decide) ui_11 (by decide) uw2_193 rfl dX11_rarer_17 ?_
      refine r_aload_n X dX11_rarer_20 rfl 0 rfl ?_
      refine r_getR X 7 (k := 2) (Lp_N e0 rfl) e0 rfl (by decide) ui_11 (by decide) uw2_185 rfl h dX11_rarer_21 (fun q1 eq1 h => ?_)
      refine r_aload_n X dX11_rarer_24 rfl 0 rfl ?_
      refine r_getF X (k := 4) (of := 64) rfl (Lp_N e0 rfl) e0 rfl (by decide) ui_11 (by decide) uw2_187 rfl dX11_rarer_25 ?_
      refine r_getIN X (k := 2) (Lp_N (Lp_11_4 e0) rfl) (Lp_11_4 e0) rfl (by decide) ui_6 (by decide) hl138 rfl dX11_rarer_28 ?_
      refine r_cVV (As := [.ref (ad (q1)), .int (gI mem (h0 + 64) 2)]) (rest := []) X (fun m9 hg => k_X1_prepare (Lp_11_10 e0) eq1 hg) h (Lp_N (Lp_11_10 e0) rfl) (Lp_11_10 e0) rfl (by decide) uw4_69 uw4_70 uw4_71 uw1_11 uw4_72 rfl rfl dd_X1_prepare ⟨Nat.le_of_ble_eq_true rfl, Nat.le_of_ble_eq_true rfl⟩ rfl (Nat.le_of_ble_eq_true rfl) dX11_rarer_31 rfl (fun m2 h => ?_)
      refine r_iconst (v := (1)) X dX11_rarer_34 (by decide) ?_
      refine r_iconst (v := (0)) X dX11_rarer_35 (by decide) ?_
      refine r_bipush (v := (7)) X dX11_rarer_36 (by decide) ?_
      refine r_aload_n X dX11_rarer_38 rfl 0 rfl ?_
      refine r_getR X 7 (k := 2) (Lp_N e0 rfl) e0 rfl (by decide) ui_11 (by decide) uw2_185 rfl h dX11_rarer_39 (fun q3 eq3 h => ?_)
      refine r_getIN X (k := 7) (Lp_N eq3 rfl) eq3 rfl (by decide) ui_7 (by decide) hl173 rfl dX11_rarer_42 ?_
      refine r_mmin X uw4_165 uw3_104 uw1_18 uw3_105 (Nat.le_of_ble_eq_true rfl) (Nat.le_of_ble_eq_true rfl) dX11_rarer_45 ?_
      refine r_nmI h (fun x4 h => ?_)
      refine r_mmax X uw4_201 uw3_101 uw1_18 uw3_102 (Nat.le_of_ble_eq_true rfl) (Nat.le_of_ble_eq_true rfl) dX11_rarer_48 ?_
      refine r_nmI h (fun x5 h => ?_)
      refine r_ishl X dX11_rarer_51 ?_
      refine r_nmI h (fun x6 h => ?_)
      refine r_istore_n (lv2 := [(2, .int (x6)), (0, .ref (ad (h0))), (1, .int (p1))]) X dX11_rarer_52 rfl (by decide) rfl ?_
      refine r_iconst (v := (-1)) X dX11_rarer_53 (by decide) ?_
      refine r_istore_n (lv2 := [(3, .int ((-1))), (2, .int (x6)), (0, .ref (ad (h0))), (1, .int (p1))]) X dX11_rarer_54 rfl (by decide) rfl ?_
      refine r_iconst (v := (0)) X dX11_rarer_55 (by decide) ?_
      refine r_istore (lv2 := [(4, .int ((0))), (3, .int ((-1))), (2, .int (x6)), (0, .ref (ad (h0))), (1, .int (p1))]) X dX11_rarer_56 (by decide) rfl ?_
      exact r_sub [3, 4, 2, 1, 0] rfl (hL58 4000 p1 x6 ((-1)) ((0)) m2 h)
    · refine r_iconst (v := (-1)) X dX11_rarer_14 (by decide) ?_
      exact r_iret2 X rfl dX11_rarer_15 h
noncomputable def f_X11_dare_J55 (h0 : Nat) (p1 : Int32) (k16 : Int32 → Int32 → Int32 → Mm → Option (Int32 × Mm)) (x11 : Int32) (x12 : Int32) (x13 : Int32) (m14 : Mm) : Option (Int32 × Mm) :=
  bnd (x13 + (1)) fun x15 => k16 x11 x12 x15 m14
noncomputable def f_X11_dare_B16 (h0 : Nat) (p1 : Int32) (k16 : Int32 → Int32 → Int32 → Mm → Option (Int32 × Mm)) (x1 : Int32) (x2 : Int32) (x3 : Int32) (m4 : Mm) : Option (Int32 × Mm) :=
  grd (decide (Lp.1 (gR m4 h0 2) = 7)) (bnd (gR m4 h0 2) fun q5 => if (gI m4 q5 7) ≤ x3 then (some (x2, m4)) else (if ((7)) ≤ x3 then (some (x2, m4)) else (grd (decide (Lp.1 (gR m4 h0 2) = 7)) (bnd (gR m4 h0 2) fun q6 => grd (inb x3 (Lp.2.1 (q6 + 9))) (bnd (q6 + 9 + (7 + 2 * x3.toNatClampNeg)) fun q7 => bdI (f_X4_daresBefore q7 x1 m4) fun x9 m8 => if x9 = 0 then (f_X11_dare_J55 h0 p1 k16 x1 x2 x3 m8) else (bnd (x2 ||| (((1)) <<< (x3 &&& 31))) fun x10 => f_X11_dare_J55 h0 p1 k16 x1 x10 x3 m8))))))
noncomputable def f_X11_dare (h0 : Nat) (p1 : Int32) (mem : Mm) : Option (Int32 × Mm) :=
  if p1 < 0 then (some ((-1), mem)) else (if p1 ≤ ((9)) then (lop (fun _ _ _ _ => none) (f_X11_dare_B16 h0 p1 ) 4000 p1 ((0)) ((0)) mem) else (some ((-1), mem)))
theorem dd_X11_dare : yX11_dare.cls = RX11 ∧ yX11_dare.cls ≠ "java/lang/invoke/MethodHandle" ∧ yX11_dare.cls ≠ "java/lang/invoke/VarHandle" ∧ (parseMethodDescriptor yX11_dare.desc).map (fun d => d.parameters.length) = some 1 := by decide +kernel
set_option maxHeartbeats 4000000 in
set_option maxRecDepth 100000 in
theorem k_X11_dare {l : Launch} {ad : Nat → Nat} {cy : Nat → ClassId} {dC : Nat → ClassId} {dI : Nat → Nat → Nat} {ks : (Nat → Nat) × (Nat → Nat)} {h0 : Nat} {p1 : Int32} {mem : Mm} {r2 : Int32} {mem2 : Mm} (e0 : Lp.1 h0 = 11) (h : f_X11_dare h0 p1 mem = some (r2, mem2)) : CtI l Lp ad cy dC dI ks yX11_dare cX11_dare 4 (some .int) ({ frames := 1, cells := 0, slots := 0, locals := 21 }) [.ref (ad (h0)), .int (p1)] mem r2 mem2 := by
  refine CtI.of (cc := cX11_dare) (maxL := 4) (ret := (some .int)) (own := RX11) rfl (by decide) (Nat.le_of_ble_eq_true rfl) ?_
  intro p e s m args below meth c A X
  have hts := X.2.2.2.2.1
  have hl120 := X.2.2.2.2.2.2.1 (.fieldLinkNest "StationPiano" 120 "StationPiano$Station" "passers" "[LStationPiano$Passer;" "StationPiano") (List.mem_of_getElem? (i := 32) rfl)
  have hl173 := X.2.2.2.2.2.2.1 (.fieldLinkNest "StationPiano" 173 "StationPiano$Station" "passerCount" "I" "StationPiano") (List.mem_of_getElem? (i := 40) rfl)
  have hJ55 : ∀ (k16 : Int32 → Int32 → Int32 → Mm → Option (Int32 × Mm)) (hk16 : ∀ (x1 : Int32) (x2 : Int32) (x3 : Int32) (m4 : Mm), k16 x1 x2 x3 m4 = some (r2, mem2) → Jd p l e ({ frames := 1, cells := 0, slots := 0, locals := 21 }) s m args below meth c 4 (MQ below (PsI Lp ad cy dC dI r2 mem2 A) args s 0 0 A) A dC dI cy Lp ad m4 16 [(0, .ref (ad (h0))), (1, .int (x1)), (2, .int (x2)), (3, .int (x3))] []) (x11 : Int32) (x12 : Int32) (x13 : Int32) (m14 : Mm), f_X11_dare_J55 h0 p1 k16 x11 x12 x13 m14 = some (r2, mem2) → Jd p l e ({ frames := 1, cells := 0, slots := 0, locals := 21 }) s m args below meth c 4 (MQ below (PsI Lp ad cy dC dI r2 mem2 A) args s 0 0 A) A dC dI cy Lp ad m14 55 [(0, .ref (ad (h0))), (1, .int (x11)), (2, .int (x12)), (3, .int (x13))] [] := by
    intro k16 hk16 x11 x12 x13 m14 h
    unfold f_X11_dare_J55 at h
    refine r_inc h (fun x15 e9 h => ?_)
    refine r_iinc (v := x15) (lv2 := [(3, .int (x15)), (0, .ref (ad (h0))), (1, .int (x11)), (2, .int (x12))]) X dX11_dare_55 3 rfl (by rw [e9]; rfl) (by decide) rfl ?_
    refine r_goto (tgt := 16) X dX11_dare_58 (by decide) ?_
    exact r_sub [1, 2, 3, 0] rfl (hk16 x11 x12 x15 m14 h)
  have hJ16 : ∀ (k16 : Int32 → Int32 → Int32 → Mm → Option (Int32 × Mm)) (hk16 : ∀ (x1 : Int32) (x2 : Int32) (x3 : Int32) (m4 : Mm), k16 x1 x2 x3 m4 = some (r2, mem2) → Jd p l e ({ frames := 1, cells := 0, slots := 0, locals := 21 }) s m args below meth c 4 (MQ below (PsI Lp ad cy dC dI r2 mem2 A) args s 0 0 A) A dC dI cy Lp ad m4 16 [(0, .ref (ad (h0))), (1, .int (x1)), (2, .int (x2)), (3, .int (x3))] []) (x1 : Int32) (x2 : Int32) (x3 : Int32) (m4 : Mm), f_X11_dare_B16 h0 p1 k16 x1 x2 x3 m4 = some (r2, mem2) → Jd p l e ({ frames := 1, cells := 0, slots := 0, locals := 21 }) s m args below meth c 4 (MQ below (PsI Lp ad cy dC dI r2 mem2 A) args s 0 0 A) A dC dI cy Lp ad m4 16 [(0, .ref (ad (h0))), (1, .int (x1)), (2, .int (x2)), (3, .int (x3))] [] := by
    intro k16 hk16 x1 x2 x3 m4 h
    unfold f_X11_dare_B16 at h
    refine r_iload_n X dX11_dare_16 rfl 3 rfl ?_
    refine r_aload_n X dX11_dare_17 rfl 0 rfl ?_
    refine r_getR X 7 (k := 2) (Lp_N e0 rfl) e0 rfl (by decide) ui_11 (by decide) uw2_185 rfl h dX11_dare_18 (fun q5 eq5 h => ?_)
    refine r_getIN X (k := 7) (Lp_N eq5 rfl) eq5 rfl (by decide) ui_7 (by decide) hl173 rfl dX11_dare_21 ?_
    refine r_icmp_ge (tgt := 61) X dX11_dare_24 (by decide) h (fun h => ?_) (fun h => ?_)
    · refine r_iload_n X dX11_dare_61 rfl 2 rfl ?_
      exact r_iret2 X rfl dX11_dare_62 h
    · refine r_iload_n X dX11_dare_27 rfl 3 rfl ?_
      refine r_bipush (v := (7)) X dX11_dare_28 (by decide) ?_
      refine r_icmp_ge (tgt := 61) X dX11_dare_30 (by decide) h (fun h => ?_) (fun h => ?_)
      · refine r_iload_n X dX11_dare_61 rfl 2 rfl ?_
        exact r_iret2 X rfl dX11_dare_62 h
      · refine r_aload_n X dX11_dare_33 rfl 0 rfl ?_
        refine r_getR X 7 (k := 2) (Lp_N e0 rfl) e0 rfl (by decide) ui_11 (by decide) uw2_185 rfl h dX11_dare_34 (fun q6 eq6 h => ?_)
        refine r_getFN X (k := 3) (of := 9) rfl (Lp_N eq6 rfl) eq6 rfl (by decide) ui_7 (by decide) hl120 rfl dX11_dare_37 ?_
        refine r_iload_n X dX11_dare_40 rfl 3 rfl ?_
        refine r_ald18 X (Lp_N (Lp_7_3 eq6) rfl) (Lp_7_3 eq6) (Lp_e18 (Lp_7_3 eq6)) rfl h dX11_dare_41 (fun q7 eq7 h => ?_)
        refine r_iload_n X dX11_dare_42 rfl 1 rfl ?_
        refine r_cVI (As := [.int (x1)]) (rest := []) X (fun r9 m9 hg => k_X4_daresBefore eq7 hg) h (Lp_N eq7 rfl) eq7 rfl (by decide) uw4_212 uw4_117 uw4_118 uw1_6 uw4_119 rfl rfl dd_X4_daresBefore ⟨Nat.le_of_ble_eq_true rfl, Nat.le_of_ble_eq_true rfl⟩ rfl (Nat.le_of_ble_eq_true rfl) dX11_dare_43 rfl (fun x9 m8 h => ?_)
        refine r_if_eq (tgt := 55) X dX11_dare_46 (by decide) h (fun h => ?_) (fun h => ?_)
        · exact r_sub [0, 1, 2, 3] rfl (hJ55 k16 hk16 x1 x2 x3 m8 h)
        · refine r_iload_n X dX11_dare_49 rfl 2 rfl ?_
          refine r_iconst (v := (1)) X dX11_dare_50 (by decide) ?_
          refine r_iload_n X dX11_dare_51 rfl 3 rfl ?_
          refine r_ishl X dX11_dare_52 ?_
          refine r_ior X dX11_dare_53 ?_
          refine r_nmI h (fun x10 h => ?_)
          refine r_istore_n (lv2 := [(2, .int (x10)), (0, .ref (ad (h0))), (1, .int (x1)), (3, .int (x3))]) X dX11_dare_54 rfl (by decide) rfl ?_
          exact r_sub [1, 2, 0, 3] rfl (hJ55 k16 hk16 x1 x10 x3 m8 h)
  have hL16 : ∀ (n : Nat), ∀ (x1 : Int32) (x2 : Int32) (x3 : Int32) (m4 : Mm), lop (fun _ _ _ _ => none) (f_X11_dare_B16 h0 p1 ) n x1 x2 x3 m4 = some (r2, mem2) → Jd p l e ({ frames := 1, cells := 0, slots := 0, locals := 21 }) s m args below meth c 4 (MQ below (PsI Lp ad cy dC dI r2 mem2 A) args s 0 0 A) A dC dI cy Lp ad m4 16 [(0, .ref (ad (h0))), (1, .int (x1)), (2, .int (x2)), (3, .int (x3))] [] := by
    intro  n
    induction n with
    | zero => intro _ _ _ _ h; cases h
    | succ n ih => intro a0 a1 a2 a3 h; exact hJ16  _ ih a0 a1 a2 a3 h
  unfold f_X11_dare at h
  refine r_iload_n X dX11_dare_0 rfl 1 rfl ?_
  refine r_if_lt (tgt := 10) X dX11_dare_1 (by decide) h (fun h => ?_) (fun h => ?_)
  · refine r_iconst (v := (-1)) X dX11_dare_10 (by decide) ?_
    exact r_iret2 X rfl dX11_dare_11 h
  · refine r_iload_n X dX11_dare_4 rfl 1 rfl ?_
    refine r_bipush (v := (9)) X dX11_dare_5 (by decide) ?_
    refine r_icmp_le (tgt := 12) X dX11_dare_7 (by decide) h (fun h => ?_) (fun h => ?_)
    · refine r_iconst (v := (0)) X dX11_dare_12 (by decide) ?_
      refine r_istore_n (lv2 := [(2, .int ((0))), (0, .ref (ad (h0))), (1, .int (p1))]) X dX11_dare_13 rfl (by decide) rfl ?_
      refine r_iconst (v := (0)) X dX11_dare_14 (by decide) ?_
      refine r_istore_n (lv2 := [(3, .int ((0))), (2, .int ((0))), (0, .ref (ad (h0))), (1, .int (p1))]) X dX11_dare_15 rfl (by decide) rfl ?_
      exact r_sub [2, 3, 1, 0] rfl (hL16 4000 p1 ((0)) ((0)) mem h)
    · refine r_iconst (v := (-1)) X dX11_dare_10 (by decide) ?_
      exact r_iret2 X rfl dX11_dare_11 h
