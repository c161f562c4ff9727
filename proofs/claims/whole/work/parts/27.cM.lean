noncomputable def f_X12_worked_J329 (p1 : Int32) (k14 : Int32 → Int32 → Mm → Option (Int32 × Mm)) (x43 : Int32) (x44 : Int32) (m45 : Mm) : Option (Int32 × Mm) :=
  bnd (x44 + (1)) fun x46 => k14 x43 x46 m45
noncomputable def f_X12_worked_J66 (p1 : Int32) (k14 : Int32 → Int32 → Mm → Option (Int32 × Mm)) (x47 : Int32) (x48 : Int32) (x49 : Int32) (x50 : Int32) (m51 : Mm) : Option (Int32 × Mm) :=
  grd (inb x50 7) (bnd (sI m51 26 x50.toNatClampNeg x49) fun m52 => bdV (f_X12_opens x47 m52) fun m53 => f_X12_worked_J329 p1 k14 x47 x48 m53)
noncomputable def f_X12_worked_J46 (p1 : Int32) (k14 : Int32 → Int32 → Mm → Option (Int32 × Mm)) (x9 : Int32) (x10 : Int32) (x11 : Int32) (m12 : Mm) : Option (Int32 × Mm) :=
  bnd (x9 + (1)) fun x13 => if ¬ x11 = ((30)) then (f_X12_worked_J66 p1 k14 x13 x10 ((0)) x13 m12) else (f_X12_worked_J66 p1 k14 x13 x10 ((1)) x13 m12)
noncomputable def f_X12_worked_J89 (p1 : Int32) (k14 : Int32 → Int32 → Mm → Option (Int32 × Mm)) (x14 : Int32) (x15 : Int32) (x16 : Int32) (m17 : Mm) : Option (Int32 × Mm) :=
  bdV (f_X12_sums x14 m17) fun m18 => grd (inb x14 7) (bnd (sI m18 23 x14.toNatClampNeg x16) fun m19 => f_X12_worked_J329 p1 k14 x14 x15 m19)
noncomputable def f_X12_worked_J137 (p1 : Int32) (k14 : Int32 → Int32 → Mm → Option (Int32 × Mm)) (x20 : Int32) (x21 : Int32) (x22 : Int32) (m23 : Mm) : Option (Int32 × Mm) :=
  bdV (f_X12_sums x20 m23) fun m24 => grd (inb x20 7) (grd (inb x20 7) (bnd (sI m24 20 x20.toNatClampNeg (gI m24 22 x20.toNatClampNeg)) fun m25 => grd (inb x20 7) (bnd (sI m25 21 x20.toNatClampNeg x22) fun m26 => grd (inb x20 7) (bnd (sI m26 22 x20.toNatClampNeg ((0))) fun m27 => grd (inb x20 7) (bnd (sI m27 23 x20.toNatClampNeg ((20))) fun m28 => f_X12_worked_J329 p1 k14 x20 x21 m28)))))
noncomputable def f_X12_worked_J194 (p1 : Int32) (k14 : Int32 → Int32 → Mm → Option (Int32 × Mm)) (x29 : Int32) (x30 : Int32) (x31 : Int32) (m32 : Mm) : Option (Int32 × Mm) :=
  bdV (f_X12_tests x29 m32) fun m33 => grd (inb x29 7) (bnd (sI m33 19 x29.toNatClampNeg x31) fun m34 => f_X12_worked_J329 p1 k14 x29 x30 m34)
noncomputable def f_X12_worked_J292 (p1 : Int32) (k14 : Int32 → Int32 → Mm → Option (Int32 × Mm)) (k268 : Int32 → Int32 → Int32 → Mm → Option (Int32 × Mm)) (x62 : Int32) (x63 : Int32) (x64 : Int32) (m65 : Mm) : Option (Int32 × Mm) :=
  bnd (x62 + (-1)) fun x66 => k268 x66 x63 x64 m65
noncomputable def f_X12_worked_J328 (p1 : Int32) (k14 : Int32 → Int32 → Mm → Option (Int32 × Mm)) (x67 : Int32) (x68 : Int32) (x69 : Int32) (x70 : Int32) (m71 : Mm) : Option (Int32 × Mm) :=
  grd (inb x70 7) (bnd (sI m71 24 x70.toNatClampNeg x69) fun m72 => f_X12_worked_J329 p1 k14 x67 x68 m72)
noncomputable def f_X12_worked_J300 (p1 : Int32) (k14 : Int32 → Int32 → Mm → Option (Int32 × Mm)) (x58 : Int32) (x59 : Int32) (x60 : Int32) (m61 : Mm) : Option (Int32 × Mm) :=
  grd (inb x58 7) (if ¬ (gI m61 25 x58.toNatClampNeg) = 0 then (grd (inb x58 7) (f_X12_worked_J328 p1 k14 x58 x59 ((gI m61 24 x58.toNatClampNeg) * x60) x58 m61)) else (f_X12_worked_J328 p1 k14 x58 x59 x60 x58 m61))
noncomputable def f_X12_worked_B268 (p1 : Int32) (k14 : Int32 → Int32 → Mm → Option (Int32 × Mm)) (k268 : Int32 → Int32 → Int32 → Mm → Option (Int32 × Mm)) (x54 : Int32) (x55 : Int32) (x56 : Int32) (m57 : Mm) : Option (Int32 × Mm) :=
  if x54 ≤ 0 then (f_X12_worked_J300 p1 k14 x54 x55 x56 m57) else (grd (inb x54 7) (if ¬ (gI m57 26 x54.toNatClampNeg) = ((1)) then (f_X12_worked_J300 p1 k14 x54 x55 x56 m57) else (if ¬ x56 = 0 then (f_X12_worked_J292 p1 k14 k268 x54 x55 ((0)) m57) else (f_X12_worked_J292 p1 k14 k268 x54 x55 ((1)) m57))))
noncomputable def f_X12_worked_J243 (p1 : Int32) (k14 : Int32 → Int32 → Mm → Option (Int32 × Mm)) (x35 : Int32) (x36 : Int32) (x37 : Int32) (x38 : Int32) (m39 : Mm) : Option (Int32 × Mm) :=
  if ¬ x37 = ((29)) then (lop (fun _ _ _ _ => none) (f_X12_worked_B268 p1 k14) 4000 x35 x36 x38 m39) else (bdV (f_X12_tests x35 m39) fun m40 => grd (inb x35 7) (bnd (gI m40 18 x35.toNatClampNeg) fun x41 => bnd (x35 + (-1)) fun x42 => lop (fun _ _ _ _ => none) (f_X12_worked_B268 p1 k14) 4000 x42 x36 x41 m40))
noncomputable def f_X12_worked_B14 (p1 : Int32) (k14 : Int32 → Int32 → Mm → Option (Int32 × Mm)) (x3 : Int32) (x4 : Int32) (m5 : Mm) : Option (Int32 × Mm) :=
  grd (inb p1 4) (if (gI m5 14 p1.toNatClampNeg) ≤ x4 then (bdV (f_X12_tests ((0)) m5) fun m6 => some (gI m6 18 0, m6)) else (grd (inb x4 2000) (bnd (gI m5 15 x4.toNatClampNeg) fun x7 => if x7 = ((28)) then (f_X12_worked_J46 p1 k14 x3 x4 x7 m5) else (if ¬ x7 = ((30)) then (if x7 = ((20)) then (f_X12_worked_J89 p1 k14 x3 x4 x7 m5) else (if ¬ x7 = ((21)) then (if ¬ x7 = ((22)) then (if x7 = ((24)) then (f_X12_worked_J137 p1 k14 x3 x4 x7 m5) else (if ¬ x7 = ((25)) then (if x7 = ((26)) then (f_X12_worked_J194 p1 k14 x3 x4 x7 m5) else (if ¬ x7 = ((27)) then (if x7 < ((100)) then (if ((20)) ≤ x7 then (f_X12_worked_J243 p1 k14 x3 x4 x7 ((0)) m5) else (grd (inb x7 20) (f_X12_worked_J243 p1 k14 x3 x4 x7 (gI m5 27 x7.toNatClampNeg) m5))) else (f_X12_worked_J243 p1 k14 x3 x4 x7 (x7 - ((100))) m5)) else (f_X12_worked_J194 p1 k14 x3 x4 x7 m5))) else (f_X12_worked_J137 p1 k14 x3 x4 x7 m5))) else (grd (inb x3 7) (bnd (sI m5 25 x3.toNatClampNeg x7) fun m8 => f_X12_worked_J329 p1 k14 x3 x4 m8))) else (f_X12_worked_J89 p1 k14 x3 x4 x7 m5))) else (f_X12_worked_J46 p1 k14 x3 x4 x7 m5)))))
noncomputable def f_X12_worked (p1 : Int32) (mem : Mm) : Option (Int32 × Mm) :=
  bdV (f_X12_opens ((0)) mem) fun m1 => grd (inb p1 4) (bnd (gI m1 13 p1.toNatClampNeg) fun x2 => lop (fun _ _ _ => none) (f_X12_worked_B14 p1 ) 4000 ((0)) x2 m1)
theorem dd_X12_worked : yX12_worked.cls = RX12 ∧ yX12_worked.cls ≠ "java/lang/invoke/MethodHandle" ∧ yX12_worked.cls ≠ "java/lang/invoke/VarHandle" ∧ (parseMethodDescriptor yX12_worked.desc).map (fun d => d.parameters.length) = some 1 := by decide +kernel
set_option maxHeartbeats 4000000 in
set_option maxRecDepth 100000 in
theorem k_X12_worked {l : Launch} {ad : Nat → Nat} {cy : Nat → ClassId} {dC : Nat → ClassId} {dI : Nat → Nat → Nat} {ks : (Nat → Nat) × (Nat → Nat)} {p1 : Int32} {mem : Mm} {r2 : Int32} {mem2 : Mm}  (h : f_X12_worked p1 mem = some (r2, mem2)) : CtI l Lm ad cy dC dI ks yX12_worked cX12_worked 6 (some .int) ({ frames := 2, cells := 0, slots := 0, locals := 43 }) [.ref (ad (0)), .int (p1)] mem r2 mem2 := by
  refine CtI.of (cc := cX12_worked) (maxL := 6) (ret := (some .int)) (own := RX12) rfl (by decide) (Nat.le_of_ble_eq_true rfl) ?_
  intro p e s m args below meth c A X
  have hts := X.2.2.2.2.1
  have hJ329 : ∀ (k14 : Int32 → Int32 → Mm → Option (Int32 × Mm)) (hk14 : ∀ (x3 : Int32) (x4 : Int32) (m5 : Mm), k14 x3 x4 m5 = some (r2, mem2) → Jd p l e ({ frames := 2, cells := 0, slots := 0, locals := 43 }) s m args below meth c 6 (MQ below (PsI Lm ad cy dC dI r2 mem2 A) args s 0 0 A) A dC dI cy Lm ad m5 14 [(0, .ref (ad (0))), (1, .int (p1)), (2, .int (x3)), (3, .int (x4))] []) (x43 : Int32) (x44 : Int32) (m45 : Mm), f_X12_worked_J329 p1 k14 x43 x44 m45 = some (r2, mem2) → Jd p l e ({ frames := 2, cells := 0, slots := 0, locals := 43 }) s m args below meth c 6 (MQ below (PsI Lm ad cy dC dI r2 mem2 A) args s 0 0 A) A dC dI cy Lm ad m45 329 [(0, .ref (ad (0))), (1, .int (p1)), (2, .int (x43)), (3, .int (x44))] [] := by
    intro k14 hk14 x43 x44 m45 h
    unfold f_X12_worked_J329 at h
    refine r_inc h (fun x46 e9 h => ?_)
    refine r_iinc (v := x46) (lv2 := [(3, .int (x46)), (0, .ref (ad (0))), (1, .int (p1)), (2, .int (x43))]) X dX12_worked_329 3 rfl (by rw [e9]; rfl) (by decide) rfl ?_
    refine r_goto (tgt := 14) X dX12_worked_332 (by decide) ?_
    exact r_sub [1, 2, 3, 0] rfl (hk14 x43 x46 m45 h)
  have hJ66 : ∀ (k14 : Int32 → Int32 → Mm → Option (Int32 × Mm)) (hk14 : ∀ (x3 : Int32) (x4 : Int32) (m5 : Mm), k14 x3 x4 m5 = some (r2, mem2) → Jd p l e ({ frames := 2, cells := 0, slots := 0, locals := 43 }) s m args below meth c 6 (MQ below (PsI Lm ad cy dC dI r2 mem2 A) args s 0 0 A) A dC dI cy Lm ad m5 14 [(0, .ref (ad (0))), (1, .int (p1)), (2, .int (x3)), (3, .int (x4))] []) (x47 : Int32) (x48 : Int32) (x49 : Int32) (x50 : Int32) (m51 : Mm), f_X12_worked_J66 p1 k14 x47 x48 x49 x50 m51 = some (r2, mem2) → Jd p l e ({ frames := 2, cells := 0, slots := 0, locals := 43 }) s m args below meth c 6 (MQ below (PsI Lm ad cy dC dI r2 mem2 A) args s 0 0 A) A dC dI cy Lm ad m51 66 [(0, .ref (ad (0))), (1, .int (p1)), (2, .int (x47)), (3, .int (x48))] [.int (x49), .int (x50), .ref (ad (26))] := by
    intro k14 hk14 x47 x48 x49 x50 m51 h
    unfold f_X12_worked_J66 at h
    refine r_iast X (Lm_N Lmk_26 rfl) Lmk_26 h dX12_worked_66 (fun h => ?_)
    refine r_nmM h (fun m52 h => ?_)
    refine r_aload_n X dX12_worked_67 rfl 0 rfl ?_
    refine r_iload_n X dX12_worked_68 rfl 2 rfl ?_
    refine r_cVV (As := [.int (x47)]) (rest := []) X (fun m9 hg => k_X12_opens hg) h (Lm_N Lmk_0 rfl) Lmk_0 rfl (by decide) uw7_197 uw7_199 us6_11 uw1_13 uw7_200 rfl rfl dd_X12_opens ⟨Nat.le_of_ble_eq_true rfl, Nat.le_of_ble_eq_true rfl⟩ rfl (Nat.le_of_ble_eq_true rfl) dX12_worked_69 rfl (fun m53 h => ?_)
    refine r_goto (tgt := 329) X dX12_worked_72 (by decide) ?_
    exact r_sub [0, 1, 2, 3] rfl (hJ329 k14 hk14 x47 x48 m53 h)
  have hJ46 : ∀ (k14 : Int32 → Int32 → Mm → Option (Int32 × Mm)) (hk14 : ∀ (x3 : Int32) (x4 : Int32) (m5 : Mm), k14 x3 x4 m5 = some (r2, mem2) → Jd p l e ({ frames := 2, cells := 0, slots := 0, locals := 43 }) s m args below meth c 6 (MQ below (PsI Lm ad cy dC dI r2 mem2 A) args s 0 0 A) A dC dI cy Lm ad m5 14 [(0, .ref (ad (0))), (1, .int (p1)), (2, .int (x3)), (3, .int (x4))] []) (x9 : Int32) (x10 : Int32) (x11 : Int32) (m12 : Mm), f_X12_worked_J46 p1 k14 x9 x10 x11 m12 = some (r2, mem2) → Jd p l e ({ frames := 2, cells := 0, slots := 0, locals := 43 }) s m args below meth c 6 (MQ below (PsI Lm ad cy dC dI r2 mem2 A) args s 0 0 A) A dC dI cy Lm ad m12 46 [(0, .ref (ad (0))), (1, .int (p1)), (2, .int (x9)), (3, .int (x10)), (4, .int (x11))] [] := by
    intro k14 hk14 x9 x10 x11 m12 h
    unfold f_X12_worked_J46 at h
    refine r_inc h (fun x13 e9 h => ?_)
    refine r_iinc (v := x13) (lv2 := [(2, .int (x13)), (0, .ref (ad (0))), (1, .int (p1)), (3, .int (x10)), (4, .int (x11))]) X dX12_worked_46 2 rfl (by rw [e9]; rfl) (by decide) rfl ?_
    refine r_aload_n X dX12_worked_49 rfl 1 rfl ?_
    refine r_getF X (k := 37) (of := 26) rfl (Lm_N Lmk_0 rfl) Lmk_0 rfl (by decide) ui_12 (by decide) uw6_17 rfl dX12_worked_50 ?_
    refine r_iload_n X dX12_worked_53 rfl 0 rfl ?_
    refine r_iload X dX12_worked_54 4 rfl ?_
    refine r_bipush (v := (30)) X dX12_worked_56 (by decide) ?_
    refine r_icmp_ne (tgt := 65) X dX12_worked_58 (by decide) h (fun h => ?_) (fun h => ?_)
    · refine r_iconst (v := (0)) X dX12_worked_65 (by decide) ?_
      exact r_sub [1, 2, 0, 3] rfl (hJ66 k14 hk14 x13 x10 ((0)) x13 m12 h)
    · refine r_iconst (v := (1)) X dX12_worked_61 (by decide) ?_
      refine r_goto (tgt := 66) X dX12_worked_62 (by decide) ?_
      exact r_sub [1, 2, 0, 3] rfl (hJ66 k14 hk14 x13 x10 ((1)) x13 m12 h)
  have hJ89 : ∀ (k14 : Int32 → Int32 → Mm → Option (Int32 × Mm)) (hk14 : ∀ (x3 : Int32) (x4 : Int32) (m5 : Mm), k14 x3 x4 m5 = some (r2, mem2) → Jd p l e ({ frames := 2, cells := 0, slots := 0, locals := 43 }) s m args below meth c 6 (MQ below (PsI Lm ad cy dC dI r2 mem2 A) args s 0 0 A) A dC dI cy Lm ad m5 14 [(0, .ref (ad (0))), (1, .int (p1)), (2, .int (x3)), (3, .int (x4))] []) (x14 : Int32) (x15 : Int32) (x16 : Int32) (m17 : Mm), f_X12_worked_J89 p1 k14 x14 x15 x16 m17 = some (r2, mem2) → Jd p l e ({ frames := 2, cells := 0, slots := 0, locals := 43 }) s m args below meth c 6 (MQ below (PsI Lm ad cy dC dI r2 mem2 A) args s 0 0 A) A dC dI cy Lm ad m17 89 [(0, .ref (ad (0))), (1, .int (p1)), (2, .int (x14)), (3, .int (x15)), (4, .int (x16))] [] := by
    intro k14 hk14 x14 x15 x16 m17 h
    unfold f_X12_worked_J89 at h
    refine r_aload_n X dX12_worked_89 rfl 0 rfl ?_
    refine r_iload_n X dX12_worked_90 rfl 2 rfl ?_
    refine r_cVV (As := [.int (x14)]) (rest := []) X (fun m9 hg => k_X12_sums hg) h (Lm_N Lmk_0 rfl) Lmk_0 rfl (by decide) uw7_201 uw7_203 us6_12 uw1_13 uw7_204 rfl rfl dd_X12_sums ⟨Nat.le_of_ble_eq_true rfl, Nat.le_of_ble_eq_true rfl⟩ rfl (Nat.le_of_ble_eq_true rfl) dX12_worked_91 rfl (fun m18 h => ?_)
    refine r_aload_n X dX12_worked_94 rfl 0 rfl ?_
    refine r_getF X (k := 34) (of := 23) rfl (Lm_N Lmk_0 rfl) Lmk_0 rfl (by decide) ui_12 (by decide) uw6_14 rfl dX12_worked_95 ?_
    refine r_iload_n X dX12_worked_98 rfl 2 rfl ?_
    refine r_iload X dX12_worked_99 4 rfl ?_
    refine r_iast X (Lm_N Lmk_23 rfl) Lmk_23 h dX12_worked_101 (fun h => ?_)
    refine r_nmM h (fun m19 h => ?_)
    refine r_goto (tgt := 329) X dX12_worked_102 (by decide) ?_
    exact r_sub [0, 1, 2, 3] rfl (hJ329 k14 hk14 x14 x15 m19 h)
  have hJ137 : ∀ (k14 : Int32 → Int32 → Mm → Option (Int32 × Mm)) (hk14 : ∀ (x3 : Int32) (x4 : Int32) (m5 : Mm), k14 x3 x4 m5 = some (r2, mem2) → Jd p l e ({ frames := 2, cells := 0, slots := 0, locals := 43 }) s m args below meth c 6 (MQ below (PsI Lm ad cy dC dI r2 mem2 A) args s 0 0 A) A dC dI cy Lm ad m5 14 [(0, .ref (ad (0))), (1, .int (p1)), (2, .int (x3)), (3, .int (x4))] []) (x20 : Int32) (x21 : Int32) (x22 : Int32) (m23 : Mm), f_X12_worked_J137 p1 k14 x20 x21 x22 m23 = some (r2, mem2) → Jd p l e ({ frames := 2, cells := 0, slots := 0, locals := 43 }) s m args below meth c 6 (MQ below (PsI Lm ad cy dC dI r2 mem2 A) args s 0 0 A) A dC dI cy Lm ad m23 137 [(0, .ref (ad (0))), (1, .int (p1)), (2, .int (x20)), (3, .int (x21)), (4, .int (x22))] [] := by
    intro k14 hk14 x20 x21 x22 m23 h
    unfold f_X12_worked_J137 at h
    refine r_aload_n X dX12_worked_137 rfl 0 rfl ?_
    refine r_iload_n X dX12_worked_138 rfl 2 rfl ?_
    refine r_cVV (As := [.int (x20)]) (rest := []) X (fun m9 hg => k_X12_sums hg) h (Lm_N Lmk_0 rfl) Lmk_0 rfl (by decide) uw7_201 uw7_203 us6_12 uw1_13 uw7_204 rfl rfl dd_X12_sums ⟨Nat.le_of_ble_eq_true rfl, Nat.le_of_ble_eq_true rfl⟩ rfl (Nat.le_of_ble_eq_true rfl) dX12_worked_139 rfl (fun m24 h => ?_)
    refine r_aload_n X dX12_worked_142 rfl 0 rfl ?_
    refine r_getF X (k := 31) (of := 20) rfl (Lm_N Lmk_0 rfl) Lmk_0 rfl (by decide) ui_12 (by decide) uw6_11 rfl dX12_worked_143 ?_
    refine r_iload_n X dX12_worked_146 rfl 2 rfl ?_
    refine r_aload_n X dX12_worked_147 rfl 0 rfl ?_
    refine r_getF X (k := 33) (of := 22) rfl (Lm_N Lmk_0 rfl) Lmk_0 rfl (by decide) ui_12 (by decide) uw6_13 rfl dX12_worked_148 ?_
    refine r_iload_n X dX12_worked_151 rfl 2 rfl ?_
    refine r_iald X (Lm_N Lmk_22 rfl) Lmk_22 h dX12_worked_152 (fun h => ?_)
    refine r_iast X (Lm_N Lmk_20 rfl) Lmk_20 h dX12_worked_153 (fun h => ?_)
    refine r_nmM h (fun m25 h => ?_)
    refine r_aload_n X dX12_worked_154 rfl 0 rfl ?_
    refine r_getF X (k := 32) (of := 21) rfl (Lm_N Lmk_0 rfl) Lmk_0 rfl (by decide) ui_12 (by decide) uw6_12 rfl dX12_worked_155 ?_
    refine r_iload_n X dX12_worked_158 rfl 2 rfl ?_
    refine r_iload X dX12_worked_159 4 rfl ?_
    refine r_iast X (Lm_N Lmk_21 rfl) Lmk_21 h dX12_worked_161 (fun h => ?_)
    refine r_nmM h (fun m26 h => ?_)
    refine r_aload_n X dX12_worked_162 rfl 0 rfl ?_
    refine r_getF X (k := 33) (of := 22) rfl (Lm_N Lmk_0 rfl) Lmk_0 rfl (by decide) ui_12 (by decide) uw6_13 rfl dX12_worked_163 ?_
    refine r_iload_n X dX12_worked_166 rfl 2 rfl ?_
    refine r_iconst (v := (0)) X dX12_worked_167 (by decide) ?_
    refine r_iast X (Lm_N Lmk_22 rfl) Lmk_22 h dX12_worked_168 (fun h => ?_)
    refine r_nmM h (fun m27 h => ?_)
    refine r_aload_n X dX12_worked_169 rfl 0 rfl ?_
    refine r_getF X (k := 34) (of := 23) rfl (Lm_N Lmk_0 rfl) Lmk_0 rfl (by decide) ui_12 (by decide) uw6_14 rfl dX12_worked_170 ?_
    refine r_iload_n X dX12_worked_173 rfl 2 rfl ?_
    refine r_bipush (v := (20)) X dX12_worked_174 (by decide) ?_
    refine r_iast X (Lm_N Lmk_23 rfl) Lmk_23 h dX12_worked_176 (fun h => ?_)
    refine r_nmM h (fun m28 h => ?_)
    refine r_goto (tgt := 329) X dX12_worked_177 (by decide) ?_
    exact r_sub [0, 1, 2, 3] rfl (hJ329 k14 hk14 x20 x21 m28 h)
  have hJ194 : ∀ (k14 : Int32 → Int32 → Mm → Option (Int32 × Mm)) (hk14 : ∀ (x3 : Int32) (x4 : Int32) (m5 : Mm), k14 x3 x4 m5 = some (r2, mem2) → Jd p l e ({ frames := 2, cells := 0, slots := 0, locals := 43 }) s m args below meth c 6 (MQ below (PsI Lm ad cy dC dI r2 mem2 A) args s 0 0 A) A dC dI cy Lm ad m5 14 [(0, .ref (ad (0))), (1, .int (p1)), (2, .int (x3)), (3, .int (x4))] []) (x29 : Int32) (x30 : Int32) (x31 : Int32) (m32 : Mm), f_X12_worked_J194 p1 k14 x29 x30 x31 m32 = some (r2, mem2) → Jd p l e ({ frames := 2, cells := 0, slots := 0, locals := 43 }) s m args below meth c 6 (MQ below (PsI Lm ad cy dC dI r2 mem2 A) args s 0 0 A) A dC dI cy Lm ad m32 194 [(0, .ref (ad (0))), (1, .int (p1)), (2, .int (x29)), (3, .int (x30)), (4, .int (x31))] [] := by
    intro k14 hk14 x29 x30 x31 m32 h
    unfold f_X12_worked_J194 at h
    refine r_aload_n X dX12_worked_194 rfl 0 rfl ?_
    refine r_iload_n X dX12_worked_195 rfl 2 rfl ?_
    refine r_cVV (As := [.int (x29)]) (rest := []) X (fun m9 hg => k_X12_tests hg) h (Lm_N Lmk_0 rfl) Lmk_0 rfl (by decide) uw7_205 uw7_207 us6_13 uw1_13 uw7_208 rfl rfl dd_X12_tests ⟨Nat.le_of_ble_eq_true rfl, Nat.le_of_ble_eq_true rfl⟩ rfl (Nat.le_of_ble_eq_true rfl) dX12_worked_196 rfl (fun m33 h => ?_)
    refine r_aload_n X dX12_worked_199 rfl 0 rfl ?_
    refine r_getF X (k := 30) (of := 19) rfl (Lm_N Lmk_0 rfl) Lmk_0 rfl (by decide) ui_12 (by decide) uw6_10 rfl dX12_worked_200 ?_
    refine r_iload_n X dX12_worked_203 rfl 2 rfl ?_
    refine r_iload X dX12_worked_204 4 rfl ?_
    refine r_iast X (Lm_N Lmk_19 rfl) Lmk_19 h dX12_worked_206 (fun h => ?_)
    refine r_nmM h (fun m34 h => ?_)
    refine r_goto (tgt := 329) X dX12_worked_207 (by decide) ?_
    exact r_sub [0, 1, 2, 3] rfl (hJ329 k14 hk14 x29 x30 m34 h)
  have hJ292 : ∀ (k14 : Int32 → Int32 → Mm → Option (Int32 × Mm)) (hk14 : ∀ (x3 : Int32) (x4 : Int32) (m5 : Mm), k14 x3 x4 m5 = some (r2, mem2) → Jd p l e ({ frames := 2, cells := 0, slots := 0, locals := 43 }) s m args below meth c 6 (MQ below (PsI Lm ad cy dC dI r2 mem2 A) args s 0 0 A) A dC dI cy Lm ad m5 14 [(0, .ref (ad (0))), (1, .int (p1)), (2, .int (x3)), (3, .int (x4))] []) (k268 : Int32 → Int32 → Int32 → Mm → Option (Int32 × Mm)) (hk268 : ∀ (x54 : Int32) (x55 : Int32) (x56 : Int32) (m57 : Mm), k268 x54 x55 x56 m57 = some (r2, mem2) → Jd p l e ({ frames := 2, cells := 0, slots := 0, locals := 43 }) s m args below meth c 6 (MQ below (PsI Lm ad cy dC dI r2 mem2 A) args s 0 0 A) A dC dI cy Lm ad m57 268 [(0, .ref (ad (0))), (1, .int (p1)), (2, .int (x54)), (3, .int (x55)), (5, .int (x56))] []) (x62 : Int32) (x63 : Int32) (x64 : Int32) (m65 : Mm), f_X12_worked_J292 p1 k14 k268 x62 x63 x64 m65 = some (r2, mem2) → Jd p l e ({ frames := 2, cells := 0, slots := 0, locals := 43 }) s m args below meth c 6 (MQ below (PsI Lm ad cy dC dI r2 mem2 A) args s 0 0 A) A dC dI cy Lm ad m65 292 [(0, .ref (ad (0))), (1, .int (p1)), (2, .int (x62)), (3, .int (x63))] [.int (x64)] := by
    intro k14 hk14 k268 hk268 x62 x63 x64 m65 h
    unfold f_X12_worked_J292 at h
    refine r_istore (lv2 := [(5, .int (x64)), (0, .ref (ad (0))), (1, .int (p1)), (2, .int (x62)), (3, .int (x63))]) X dX12_worked_292 (by decide) rfl ?_
    refine r_inc h (fun x66 e9 h => ?_)
    refine r_iinc (v := x66) (lv2 := [(2, .int (x66)), (5, .int (x64)), (0, .ref (ad (0))), (1, .int (p1)), (3, .int (x63))]) X dX12_worked_294 3 rfl (by rw [e9]; rfl) (by decide) rfl ?_
    refine r_goto (tgt := 268) X dX12_worked_297 (by decide) ?_
    exact r_sub [2, 3, 0, 4, 1] rfl (hk268 x66 x63 x64 m65 h)
  have hJ328 : ∀ (k14 : Int32 → Int32 → Mm → Option (Int32 × Mm)) (hk14 : ∀ (x3 : Int32) (x4 : Int32) (m5 : Mm), k14 x3 x4 m5 = some (r2, mem2) → Jd p l e ({ frames := 2, cells := 0, slots := 0, locals := 43 }) s m args below meth c 6 (MQ below (PsI Lm ad cy dC dI r2 mem2 A) args s 0 0 A) A dC dI cy Lm ad m5 14 [(0, .ref (ad (0))), (1, .int (p1)), (2, .int (x3)), (3, .int (x4))] []) (x67 : Int32) (x68 : Int32) (x69 : Int32) (x70 : Int32) (m71 : Mm), f_X12_worked_J328 p1 k14 x67 x68 x69 x70 m71 = some (r2, mem2) → Jd p l e ({ frames := 2, cells := 0, slots := 0, locals := 43 }) s m args below meth c 6 (MQ below (PsI Lm ad cy dC dI r2 mem2 A) args s 0 0 A) A dC dI cy Lm ad m71 328 [(0, .ref (ad (0))), (1, .int (p1)), (2, .int (x67)), (3, .int (x68))] [.int (x69), .int (x70), .ref (ad (24))] := by
    intro k14 hk14 x67 x68 x69 x70 m71 h
    unfold f_X12_worked_J328 at h
    refine r_iast X (Lm_N Lmk_24 rfl) Lmk_24 h dX12_worked_328 (fun h => ?_)
    refine r_nmM h (fun m72 h => ?_)
    exact r_sub [0, 1, 2, 3] rfl (hJ329 k14 hk14 x67 x68 m72 h)
  have hJ300 : ∀ (k14 : Int32 → Int32 → Mm → Option (Int32 × Mm)) (hk14 : ∀ (x3 : Int32) (x4 : Int32) (m5 : Mm), k14 x3 x4 m5 = some (r2, mem2) → Jd p l e ({ frames := 2, cells := 0, slots := 0, locals := 43 }) s m args below meth c 6 (MQ below (PsI Lm ad cy dC dI r2 mem2 A) args s 0 0 A) A dC dI cy Lm ad m5 14 [(0, .ref (ad (0))), (1, .int (p1)), (2, .int (x3)), (3, .int (x4))] []) (x58 : Int32) (x59 : Int32) (x60 : Int32) (m61 : Mm), f_X12_worked_J300 p1 k14 x58 x59 x60 m61 = some (r2, mem2) → Jd p l e ({ frames := 2, cells := 0, slots := 0, locals := 43 }) s m args below meth c 6 (MQ below (PsI Lm ad cy dC dI r2 mem2 A) args s 0 0 A) A dC dI cy Lm ad m61 300 [(0, .ref (ad (0))), (1, .int (p1)), (2, .int (x58)), (3, .int (x59)), (5, .int (x60))] [] := by
    intro k14 hk14 x58 x59 x60 m61 h
    unfold f_X12_worked_J300 at h
    refine r_aload_n X dX12_worked_300 rfl 0 rfl ?_
    refine r_getF X (k := 35) (of := 24) rfl (Lm_N Lmk_0 rfl) Lmk_0 rfl (by decide) ui_12 (by decide) uw6_15 rfl dX12_worked_301 ?_
    refine r_iload_n X dX12_worked_304 rfl 2 rfl ?_
    refine r_aload_n X dX12_worked_305 rfl 0 rfl ?_
    refine r_getF X (k := 36) (of := 25) rfl (Lm_N Lmk_0 rfl) Lmk_0 rfl (by decide) ui_12 (by decide) uw6_16 rfl dX12_worked_306 ?_
    refine r_iload_n X dX12_worked_309 rfl 2 rfl ?_
    refine r_iald X (Lm_N Lmk_25 rfl) Lmk_25 h dX12_worked_310 (fun h => ?_)
    refine r_if_ne (tgt := 319) X dX12_worked_311 (by decide) h (fun h => ?_) (fun h => ?_)
    · refine r_aload_n X dX12_worked_319 rfl 0 rfl ?_
      refine r_getF X (k := 35) (of := 24) rfl (Lm_N Lmk_0 rfl) Lmk_0 rfl (by decide) ui_12 (by decide) uw6_15 rfl dX12_worked_320 ?_
      refine r_iload_n X dX12_worked_323 rfl 2 rfl ?_
      refine r_iald X (Lm_N Lmk_24 rfl) Lmk_24 h dX12_worked_324 (fun h => ?_)
      refine r_iload X dX12_worked_325 4 rfl ?_
      refine r_imul X dX12_worked_327 ?_
      exact r_sub [0, 1, 2, 3] rfl (hJ328 k14 hk14 x58 x59 ((gI m61 24 x58.toNatClampNeg) * x60) x58 m61 h)
    · refine r_iload X dX12_worked_314 4 rfl ?_
      refine r_goto (tgt := 328) X dX12_worked_316 (by decide) ?_
      exact r_sub [0, 1, 2, 3] rfl (hJ328 k14 hk14 x58 x59 x60 x58 m61 h)
  have hJ268 : ∀ (k14 : Int32 → Int32 → Mm → Option (Int32 × Mm)) (hk14 : ∀ (x3 : Int32) (x4 : Int32) (m5 : Mm), k14 x3 x4 m5 = some (r2, mem2) → Jd p l e ({ frames := 2, cells := 0, slots := 0, locals := 43 }) s m args below meth c 6 (MQ below (PsI Lm ad cy dC dI r2 mem2 A) args s 0 0 A) A dC dI cy Lm ad m5 14 [(0, .ref (ad (0))), (1, .int (p1)), (2, .int (x3)), (3, .int (x4))] []) (k268 : Int32 → Int32 → Int32 → Mm → Option (Int32 × Mm)) (hk268 : ∀ (x54 : Int32) (x55 : Int32) (x56 : Int32) (m57 : Mm), k268 x54 x55 x56 m57 = some (r2, mem2) → Jd p l e ({ frames := 2, cells := 0, slots := 0, locals := 43 }) s m args below meth c 6 (MQ below (PsI Lm ad cy dC dI r2 mem2 A) args s 0 0 A) A dC dI cy Lm ad m57 268 [(0, .ref (ad (0))), (1, .int (p1)), (2, .int (x54)), (3, .int (x55)), (5, .int (x56))] []) (x54 : Int32) (x55 : Int32) (x56 : Int32) (m57 : Mm), f_X12_worked_B268 p1 k14 k268 x54 x55 x56 m57 = some (r2, mem2) → Jd p l e ({ frames := 2, cells := 0, slots := 0, locals := 43 }) s m args below meth c 6 (MQ below (PsI Lm ad cy dC dI r2 mem2 A) args s 0 0 A) A dC dI cy Lm ad m57 268 [(0, .ref (ad (0))), (1, .int (p1)), (2, .int (x54)), (3, .int (x55)), (5, .int (x56))] [] := by
    intro k14 hk14 k268 hk268 x54 x55 x56 m57 h
    unfold f_X12_worked_B268 at h
    refine r_iload_n X dX12_worked_268 rfl 2 rfl ?_
    refine r_if_le (tgt := 300) X dX12_worked_269 (by decide) h (fun h => ?_) (fun h => ?_)
    · exact r_sub [0, 1, 2, 3, 4] rfl (hJ300 k14 hk14 x54 x55 x56 m57 h)
    · refine r_aload_n X dX12_worked_272 rfl 0 rfl ?_
      refine r_getF X (k := 37) (of := 26) rfl (Lm_N Lmk_0 rfl) Lmk_0 rfl (by decide) ui_12 (by decide) uw6_17 rfl dX12_worked_273 ?_
      refine r_iload_n X dX12_worked_276 rfl 2 rfl ?_
      refine r_iald X (Lm_N Lmk_26 rfl) Lmk_26 h dX12_worked_277 (fun h => ?_)
      refine r_iconst (v := (1)) X dX12_worked_278 (by decide) ?_
      refine r_icmp_ne (tgt := 300) X dX12_worked_279 (by decide) h (fun h => ?_) (fun h => ?_)
      · exact r_sub [0, 1, 2, 3, 4] rfl (hJ300 k14 hk14 x54 x55 x56 m57 h)
      · refine r_iload X dX12_worked_282 4 rfl ?_
        refine r_if_ne (tgt := 291) X dX12_worked_284 (by decide) h (fun h => ?_) (fun h => ?_)
        · refine r_iconst (v := (0)) X dX12_worked_291 (by decide) ?_
          exact r_sub [0, 1, 2, 3] rfl (hJ292 k14 hk14 k268 hk268 x54 x55 ((0)) m57 h)
        · refine r_iconst (v := (1)) X dX12_worked_287 (by decide) ?_
          refine r_goto (tgt := 292) X dX12_worked_288 (by decide) ?_
          exact r_sub [0, 1, 2, 3] rfl (hJ292 k14 hk14 k268 hk268 x54 x55 ((1)) m57 h)
  have hL268 : ∀ (k14 : Int32 → Int32 → Mm → Option (Int32 × Mm)) (hk14 : ∀ (x3 : Int32) (x4 : Int32) (m5 : Mm), k14 x3 x4 m5 = some (r2, mem2) → Jd p l e ({ frames := 2, cells := 0, slots := 0, locals := 43 }) s m args below meth c 6 (MQ below (PsI Lm ad cy dC dI r2 mem2 A) args s 0 0 A) A dC dI cy Lm ad m5 14 [(0, .ref (ad (0))), (1, .int (p1)), (2, .int (x3)), (3, .int (x4))] []) (n : Nat), ∀ (x54 : Int32) (x55 : Int32) (x56 : Int32) (m57 : Mm), lop (fun _ _ _ _ => none) (f_X12_worked_B268 p1 k14) n x54 x55 x56 m57 = some (r2, mem2) → Jd p l e ({ frames := 2, cells := 0, slots := 0, locals := 43 }) s m args below meth c 6 (MQ below (PsI Lm ad cy dC dI r2 mem2 A) args s 0 0 A) A dC dI cy Lm ad m57 268 [(0, .ref (ad (0))), (1, .int (p1)), (2, .int (x54)), (3, .int (x55)), (5, .int (x56))] [] := by
    intro k14 hk14 n
    induction n with
    | zero => intro _ _ _ _ h; cases h
    | succ n ih => intro a0 a1 a2 a3 h; exact hJ268 k14 hk14 _ ih a0 a1 a2 a3 h
  have hJ243 : ∀ (k14 : Int32 → Int32 → Mm → Option (Int32 × Mm)) (hk14 : ∀ (x3 : Int32) (x4 : Int32) (m5 : Mm), k14 x3 x4 m5 = some (r2, mem2) → Jd p l e ({ frames := 2, cells := 0, slots := 0, locals := 43 }) s m args below meth c 6 (MQ below (PsI Lm ad cy dC dI r2 mem2 A) args s 0 0 A) A dC dI cy Lm ad m5 14 [(0, .ref (ad (0))), (1, .int (p1)), (2, .int (x3)), (3, .int (x4))] []) (x35 : Int32) (x36 : Int32) (x37 : Int32) (x38 : Int32) (m39 : Mm), f_X12_worked_J243 p1 k14 x35 x36 x37 x38 m39 = some (r2, mem2) → Jd p l e ({ frames := 2, cells := 0, slots := 0, locals := 43 }) s m args below meth c 6 (MQ below (PsI Lm ad cy dC dI r2 mem2 A) args s 0 0 A) A dC dI cy Lm ad m39 243 [(0, .ref (ad (0))), (1, .int (p1)), (2, .int (x35)), (3, .int (x36)), (4, .int (x37))] [.int (x38)] := by
    intro k14 hk14 x35 x36 x37 x38 m39 h
    unfold f_X12_worked_J243 at h
    refine r_istore (lv2 := [(5, .int (x38)), (0, .ref (ad (0))), (1, .int (p1)), (2, .int (x35)), (3, .int (x36)), (4, .int (x37))]) X dX12_worked_243 (by decide) rfl ?_
    refine r_iload X dX12_worked_245 5 rfl ?_
    refine r_bipush (v := (29)) X dX12_worked_247 (by decide) ?_
    refine r_icmp_ne (tgt := 268) X dX12_worked_249 (by decide) h (fun h => ?_) (fun h => ?_)
    · exact r_sub [1, 2, 3, 4, 0] rfl (hL268 k14 hk14 4000 x35 x36 x38 m39 h)
    · refine r_aload_n X dX12_worked_252 rfl 1 rfl ?_
      refine r_iload_n X dX12_worked_253 rfl 3 rfl ?_
      refine r_cVV (As := [.int (x35)]) (rest := []) X (fun m9 hg => k_X12_tests hg) h (Lm_N Lmk_0 rfl) Lmk_0 rfl (by decide) uw7_205 uw7_207 us6_13 uw1_13 uw7_208 rfl rfl dd_X12_tests ⟨Nat.le_of_ble_eq_true rfl, Nat.le_of_ble_eq_true rfl⟩ rfl (Nat.le_of_ble_eq_true rfl) dX12_worked_254 rfl (fun m40 h => ?_)
      refine r_aload_n X dX12_worked_257 rfl 1 rfl ?_
      refine r_getF X (k := 29) (of := 18) rfl (Lm_N Lmk_0 rfl) Lmk_0 rfl (by decide) ui_12 (by decide) uw6_9 rfl dX12_worked_258 ?_
      refine r_iload_n X dX12_worked_261 rfl 3 rfl ?_
      refine r_iald X (Lm_N Lmk_18 rfl) Lmk_18 h dX12_worked_262 (fun h => ?_)
      refine r_nmI h (fun x41 h => ?_)
      refine r_istore (lv2 := [(5, .int (x41)), (0, .ref (ad (0))), (1, .int (p1)), (2, .int (x35)), (3, .int (x36)), (4, .int (x37))]) X dX12_worked_263 (by decide) rfl ?_
      refine r_inc h (fun x42 e9 h => ?_)
      refine r_iinc (v := x42) (lv2 := [(2, .int (x42)), (5, .int (x41)), (0, .ref (ad (0))), (1, .int (p1)), (3, .int (x36)), (4, .int (x37))]) X dX12_worked_265 3 rfl (by rw [e9]; rfl) (by decide) rfl ?_
      exact r_sub [2, 3, 0, 4, 1] rfl (hL268 k14 hk14 4000 x42 x36 x41 m40 h)
  have hJ14 : ∀ (k14 : Int32 → Int32 → Mm → Option (Int32 × Mm)) (hk14 : ∀ (x3 : Int32) (x4 : Int32) (m5 : Mm), k14 x3 x4 m5 = some (r2, mem2) → Jd p l e ({ frames := 2, cells := 0, slots := 0, locals := 43 }) s m args below meth c 6 (MQ below (PsI Lm ad cy dC dI r2 mem2 A) args s 0 0 A) A dC dI cy Lm ad m5 14 [(0, .ref (ad (0))), (1, .int (p1)), (2, .int (x3)), (3, .int (x4))] []) (x3 : Int32) (x4 : Int32) (m5 : Mm), f_X12_worked_B14 p1 k14 x3 x4 m5 = some (r2, mem2) → Jd p l e ({ frames := 2, cells := 0, slots := 0, locals := 43 }) s m args below meth c 6 (MQ below (PsI Lm ad cy dC dI r2 mem2 A) args s 0 0 A) A dC dI cy Lm ad m5 14 [(0, .ref (ad (0))), (1, .int (p1)), (2, .int (x3)), (3, .int (x4))] [] := by
    intro k14 hk14 x3 x4 m5 h
    unfold f_X12_worked_B14 at h
    refine r_iload_n X dX12_worked_14 rfl 3 rfl ?_
    refine r_aload_n X dX12_worked_15 rfl 0 rfl ?_
    refine r_getF X (k := 22) (of := 14) rfl (Lm_N Lmk_0 rfl) Lmk_0 rfl (by decide) ui_12 (by decide) uw6_2 rfl dX12_worked_16 ?_
    refine r_iload_n X dX12_worked_19 rfl 1 rfl ?_
    refine r_iald X (Lm_N Lmk_14 rfl) Lmk_14 h dX12_worked_20 (fun h => ?_)
    refine r_icmp_ge (tgt := 335) X dX12_worked_21 (by decide) h (fun h => ?_) (fun h => ?_)
    · refine r_aload_n X dX12_worked_335 rfl 0 rfl ?_
      refine r_iconst (v := (0)) X dX12_worked_336 (by decide) ?_
      refine r_cVV (As := [.int ((0))]) (rest := []) X (fun m9 hg => k_X12_tests hg) h (Lm_N Lmk_0 rfl) Lmk_0 rfl (by decide) uw7_205 uw7_207 us6_13 uw1_13 uw7_208 rfl rfl dd_X12_tests ⟨Nat.le_of_ble_eq_true rfl, Nat.le_of_ble_eq_true rfl⟩ rfl (Nat.le_of_ble_eq_true rfl) dX12_worked_337 rfl (fun m6 h => ?_)
      refine r_aload_n X dX12_worked_340 rfl 0 rfl ?_
      refine r_getF X (k := 29) (of := 18) rfl (Lm_N Lmk_0 rfl) Lmk_0 rfl (by decide) ui_12 (by decide) uw6_9 rfl dX12_worked_341 ?_
      refine r_iconst (v := (0)) X dX12_worked_344 (by decide) ?_
      refine r_iald X (Lm_N Lmk_18 rfl) Lmk_18 (g_in rfl h) dX12_worked_345 (fun h => ?_)
      exact r_iret2 X rfl dX12_worked_346 h
    · refine r_aload_n X dX12_worked_24 rfl 0 rfl ?_
      refine r_getF X (k := 23) (of := 15) rfl (Lm_N Lmk_0 rfl) Lmk_0 rfl (by decide) ui_12 (by decide) uw6_3 rfl dX12_worked_25 ?_
      refine r_iload_n X dX12_worked_28 rfl 3 rfl ?_
      refine r_iald X (Lm_N Lmk_15 rfl) Lmk_15 h dX12_worked_29 (fun h => ?_)
      refine r_nmI h (fun x7 h => ?_)
      refine r_istore (lv2 := [(4, .int (x7)), (0, .ref (ad (0))), (1, .int (p1)), (2, .int (x3)), (3, .int (x4))]) X dX12_worked_30 (by decide) rfl ?_
      refine r_iload X dX12_worked_32 0 rfl ?_
      refine r_bipush (v := (28)) X dX12_worked_34 (by decide) ?_
      refine r_icmp_eq (tgt := 46) X dX12_worked_36 (by decide) h (fun h => ?_) (fun h => ?_)
      · exact r_sub [1, 2, 3, 4, 0] rfl (hJ46 k14 hk14 x3 x4 x7 m5 h)
      · refine r_iload X dX12_worked_39 0 rfl ?_
        refine r_bipush (v := (30)) X dX12_worked_41 (by decide) ?_
        refine r_icmp_ne (tgt := 75) X dX12_worked_43 (by decide) h (fun h => ?_) (fun h => ?_)
        · refine r_iload X dX12_worked_75 0 rfl ?_
          refine r_bipush (v := (20)) X dX12_worked_77 (by decide) ?_
          refine r_icmp_eq (tgt := 89) X dX12_worked_79 (by decide) h (fun h => ?_) (fun h => ?_)
          · exact r_sub [1, 2, 3, 4, 0] rfl (hJ89 k14 hk14 x3 x4 x7 m5 h)
          · refine r_iload X dX12_worked_82 0 rfl ?_
            refine r_bipush (v := (21)) X dX12_worked_84 (by decide) ?_
            refine r_icmp_ne (tgt := 105) X dX12_worked_86 (by decide) h (fun h => ?_) (fun h => ?_)
            · refine r_iload X dX12_worked_105 0 rfl ?_
              refine r_bipush (v := (22)) X dX12_worked_107 (by decide) ?_
              refine r_icmp_ne (tgt := 123) X dX12_worked_109 (by decide) h (fun h => ?_) (fun h => ?_)
              · refine r_iload X dX12_worked_123 0 rfl ?_
                refine r_bipush (v := (24)) X dX12_worked_125 (by decide) ?_
                refine r_icmp_eq (tgt := 137) X dX12_worked_127 (by decide) h (fun h => ?_) (fun h => ?_)
                · exact r_sub [1, 2, 3, 4, 0] rfl (hJ137 k14 hk14 x3 x4 x7 m5 h)
                · refine r_iload X dX12_worked_130 0 rfl ?_
                  refine r_bipush (v := (25)) X dX12_worked_132 (by decide) ?_
                  refine r_icmp_ne (tgt := 180) X dX12_worked_134 (by decide) h (fun h => ?_) (fun h => ?_)
                  · refine r_iload X dX12_worked_180 0 rfl ?_
                    refine r_bipush (v := (26)) X dX12_worked_182 (by decide) ?_
                    refine r_icmp_eq (tgt := 194) X dX12_worked_184 (by decide) h (fun h => ?_) (fun h => ?_)
                    · exact r_sub [1, 2, 3, 4, 0] rfl (hJ194 k14 hk14 x3 x4 x7 m5 h)
                    · refine r_iload X dX12_worked_187 0 rfl ?_
                      refine r_bipush (v := (27)) X dX12_worked_189 (by decide) ?_
                      refine r_icmp_ne (tgt := 210) X dX12_worked_191 (by decide) h (fun h => ?_) (fun h => ?_)
                      · refine r_iload X dX12_worked_210 0 rfl ?_
                        refine r_bipush (v := (100)) X dX12_worked_212 (by decide) ?_
                        refine r_icmp_lt (tgt := 225) X dX12_worked_214 (by decide) h (fun h => ?_) (fun h => ?_)
                        · refine r_iload X dX12_worked_225 0 rfl ?_
                          refine r_bipush (v := (20)) X dX12_worked_227 (by decide) ?_
                          refine r_icmp_ge (tgt := 242) X dX12_worked_229 (by decide) h (fun h => ?_) (fun h => ?_)
                          · refine r_iconst (v := (0)) X dX12_worked_242 (by decide) ?_
                            exact r_sub [1, 2, 3, 4, 0] rfl (hJ243 k14 hk14 x3 x4 x7 ((0)) m5 h)
                          · refine r_aload_n X dX12_worked_232 rfl 1 rfl ?_
                            refine r_getF X (k := 38) (of := 27) rfl (Lm_N Lmk_0 rfl) Lmk_0 rfl (by decide) ui_12 (by decide) uw6_18 rfl dX12_worked_233 ?_
                            refine r_iload X dX12_worked_236 0 rfl ?_
                            refine r_iald X (Lm_N Lmk_27 rfl) Lmk_27 h dX12_worked_238 (fun h => ?_)
                            refine r_goto (tgt := 243) X dX12_worked_239 (by decide) ?_
                            exact r_sub [1, 2, 3, 4, 0] rfl (hJ243 k14 hk14 x3 x4 x7 (gI m5 27 x7.toNatClampNeg) m5 h)
                        · refine r_iload X dX12_worked_217 0 rfl ?_
                          refine r_bipush (v := (100)) X dX12_worked_219 (by decide) ?_
                          refine r_isub X dX12_worked_221 ?_
                          refine r_goto (tgt := 243) X dX12_worked_222 (by decide) ?_
                          exact r_sub [1, 2, 3, 4, 0] rfl (hJ243 k14 hk14 x3 x4 x7 (x7 - ((100))) m5 h)
                      · exact r_sub [1, 2, 3, 4, 0] rfl (hJ194 k14 hk14 x3 x4 x7 m5 h)
                  · exact r_sub [1, 2, 3, 4, 0] rfl (hJ137 k14 hk14 x3 x4 x7 m5 h)
              · refine r_aload_n X dX12_worked_112 rfl 1 rfl ?_
                refine r_getF X (k := 36) (of := 25) rfl (Lm_N Lmk_0 rfl) Lmk_0 rfl (by decide) ui_12 (by decide) uw6_16 rfl dX12_worked_113 ?_
                refine r_iload_n X dX12_worked_116 rfl 3 rfl ?_
                refine r_iload X dX12_worked_117 0 rfl ?_
                refine r_iast X (Lm_N Lmk_25 rfl) Lmk_25 h dX12_worked_119 (fun h => ?_)
                refine r_nmM h (fun m8 h => ?_)
                refine r_goto (tgt := 329) X dX12_worked_120 (by decide) ?_
                exact r_sub [1, 2, 3, 4] rfl (hJ329 k14 hk14 x3 x4 m8 h)
            · exact r_sub [1, 2, 3, 4, 0] rfl (hJ89 k14 hk14 x3 x4 x7 m5 h)
        · exact r_sub [1, 2, 3, 4, 0] rfl (hJ46 k14 hk14 x3 x4 x7 m5 h)
  have hL14 : ∀ (n : Nat), ∀ (x3 : Int32) (x4 : Int32) (m5 : Mm), lop (fun _ _ _ => none) (f_X12_worked_B14 p1 ) n x3 x4 m5 = some (r2, mem2) → Jd p l e ({ frames := 2, cells := 0, slots := 0, locals := 43 }) s m args below meth c 6 (MQ below (PsI Lm ad cy dC dI r2 mem2 A) args s 0 0 A) A dC dI cy Lm ad m5 14 [(0, .ref (ad (0))), (1, .int (p1)), (2, .int (x3)), (3, .int (x4))] [] := by
    intro  n
    induction n with
    | zero => intro _ _ _ h; cases h
    | succ n ih => intro a0 a1 a2 h; exact hJ14  _ ih a0 a1 a2 h
  unfold f_X12_worked at h
  refine r_iconst (v := (0)) X dX12_worked_0 (by decide) ?_
  refine r_istore_n (lv2 := [(2, .int ((0))), (0, .ref (ad (0))), (1, .int (p1))]) X dX12_worked_1 rfl (by decide) rfl ?_
  refine r_aload_n X dX12_worked_2 rfl 1 rfl ?_
  refine r_iconst (v := (0)) X dX12_worked_3 (by decide) ?_
  refine r_cVV (As := [.int ((0))]) (rest := []) X (fun m9 hg => k_X12_opens hg) h (Lm_N Lmk_0 rfl) Lmk_0 rfl (by decide) uw7_197 uw7_199 us6_11 uw1_13 uw7_200 rfl rfl dd_X12_opens ⟨Nat.le_of_ble_eq_true rfl, Nat.le_of_ble_eq_true rfl⟩ rfl (Nat.le_of_ble_eq_true rfl) dX12_worked_4 rfl (fun m1 h => ?_)
  refine r_aload_n X dX12_worked_7 rfl 1 rfl ?_
  refine r_getF X (k := 21) (of := 13) rfl (Lm_N Lmk_0 rfl) Lmk_0 rfl (by decide) ui_12 (by decide) uw6_1 rfl dX12_worked_8 ?_
  refine r_iload_n X dX12_worked_11 rfl 2 rfl ?_
  refine r_iald X (Lm_N Lmk_13 rfl) Lmk_13 h dX12_worked_12 (fun h => ?_)
  refine r_nmI h (fun x2 h => ?_)
  refine r_istore_n (lv2 := [(3, .int (x2)), (2, .int ((0))), (0, .ref (ad (0))), (1, .int (p1))]) X dX12_worked_13 rfl (by decide) rfl ?_
  exact r_sub [2, 3, 1, 0] rfl (hL14 4000 ((0)) x2 m1 h)
noncomputable def f_X12_isKept_J263 (m1 : Mm) : Option (Int32 × Mm) :=
  grd (bok ((1))) (some ((1), m1))
noncomputable def f_X12_isKept  (mem : Mm) : Option (Int32 × Mm) :=
  if (gI mem 0 6) = ((1)) then (if (lg_cmp (gJ mem 0 7) ((409352))) = 0 then (f_X12_isKept_J263 mem) else (if (lg_cmp (gJ mem 0 7) ((230501934))) = 0 then (f_X12_isKept_J263 mem) else (if (lg_cmp (gJ mem 0 7) ((8740675))) = 0 then (f_X12_isKept_J263 mem) else (if (lg_cmp (gJ mem 0 7) ((10320789))) = 0 then (f_X12_isKept_J263 mem) else (if (lg_cmp (gJ mem 0 7) ((14092))) = 0 then (f_X12_isKept_J263 mem) else (if (lg_cmp (gJ mem 0 7) ((10492462))) = 0 then (f_X12_isKept_J263 mem) else (if (lg_cmp (gJ mem 0 7) ((1899199))) = 0 then (f_X12_isKept_J263 mem) else (if (lg_cmp (gJ mem 0 7) ((12249946))) = 0 then (f_X12_isKept_J263 mem) else (if (lg_cmp (gJ mem 0 7) ((99233))) = 0 then (f_X12_isKept_J263 mem) else (if (lg_cmp (gJ mem 0 7) ((307058))) = 0 then (f_X12_isKept_J263 mem) else (if (lg_cmp (gJ mem 0 7) ((555))) = 0 then (f_X12_isKept_J263 mem) else (if (lg_cmp (gJ mem 0 7) ((8863997))) = 0 then (f_X12_isKept_J263 mem) else (if (lg_cmp (gJ mem 0 7) ((208459))) = 0 then (f_X12_isKept_J263 mem) else (if (lg_cmp (gJ mem 0 7) ((12322792))) = 0 then (f_X12_isKept_J263 mem) else (if (lg_cmp (gJ mem 0 7) ((2968))) = 0 then (f_X12_isKept_J263 mem) else (if (lg_cmp (gJ mem 0 7) ((259906))) = 0 then (f_X12_isKept_J263 mem) else (if (lg_cmp (gJ mem 0 7) ((8740238))) = 0 then (f_X12_isKept_J263 mem) else (if (lg_cmp (gJ mem 0 7) ((91157229))) = 0 then (f_X12_isKept_J263 mem) else (if (lg_cmp (gJ mem 0 7) ((2495756))) = 0 then (f_X12_isKept_J263 mem) else (if (lg_cmp (gJ mem 0 7) ((72640629))) = 0 then (f_X12_isKept_J263 mem) else (if (lg_cmp (gJ mem 0 7) ((10631))) = 0 then (f_X12_isKept_J263 mem) else (if (lg_cmp (gJ mem 0 7) ((1111))) = 0 then (f_X12_isKept_J263 mem) else (if ¬ (lg_cmp (gJ mem 0 7) ((423))) = 0 then (grd (bok ((0))) (some ((0), mem))) else (f_X12_isKept_J263 mem)))))))))))))))))))))))) else (grd (bok ((1))) (some ((1), mem)))
theorem dd_X12_isKept : yX12_isKept.cls = RX12 ∧ yX12_isKept.cls ≠ "java/lang/invoke/MethodHandle" ∧ yX12_isKept.cls ≠ "java/lang/invoke/VarHandle" ∧ (parseMethodDescriptor yX12_isKept.desc).map (fun d => d.parameters.length) = some 0 := by decide +kernel
set_option maxHeartbeats 4000000 in
set_option maxRecDepth 100000 in
theorem k_X12_isKept {l : Launch} {ad : Nat → Nat} {cy : Nat → ClassId} {dC : Nat → ClassId} {dI : Nat → Nat → Nat} {ks : (Nat → Nat) × (Nat → Nat)}  {mem : Mm} {r2 : Int32} {mem2 : Mm}  (h : f_X12_isKept  mem = some (r2, mem2)) : CtI l Lm ad cy dC dI ks yX12_isKept cX12_isKept 1 (some .boolean) ({ frames := 0, cells := 0, slots := 0, locals := 0 }) [.ref (ad (0))] mem r2 mem2 := by
  refine CtI.of (cc := cX12_isKept) (maxL := 1) (ret := (some .boolean)) (own := RX12) rfl (by decide) (Nat.le_of_ble_eq_true rfl) ?_
  intro p e s m args below meth c A X
  have hts := X.2.2.2.2.1
  have hJ263 : ∀ (m1 : Mm), f_X12_isKept_J263 m1 = some (r2, mem2) → Jd p l e ({ frames := 0, cells := 0, slots := 0, locals := 0 }) s m args below meth c 1 (MQ below (PsI Lm ad cy dC dI r2 mem2 A) args s 0 0 A) A dC dI cy Lm ad m1 263 [] [] := by
    intro m1 h
    unfold f_X12_isKept_J263 at h
    refine r_iconst (v := (1)) X dX12_isKept_263 (by decide) ?_
    refine r_goto (tgt := 268) X dX12_isKept_264 (by decide) ?_
    exact r_zret2 X rfl dX12_isKept_268 h
  unfold f_X12_isKept at h
  refine r_aload_n X dX12_isKept_0 rfl 0 rfl ?_
  refine r_getI X (k := 6) (Lm_N Lmk_0 rfl) Lmk_0 rfl (by decide) ui_12 (by decide) uw5_226 rfl dX12_isKept_1 ?_
  refine r_iconst (v := (1)) X dX12_isKept_4 (by decide) ?_
  refine r_icmp_eq (tgt := 10) X dX12_isKept_5 (by decide) h (fun h => ?_) (fun h => ?_)
  · refine r_aload_n X dX12_isKept_10 rfl 0 rfl ?_
    refine r_getJ X (k := 7) (Lm_N Lmk_0 rfl) Lmk_0 rfl (by decide) ui_12 (by decide) uw5_227 rfl dX12_isKept_11 ?_
    refine r_ldc2 (v := 409352) X dX12_isKept_14 uw6_214 ?_
    refine r_lcmp X dX12_isKept_17 ?_
    refine r_if_eq (tgt := 263) X dX12_isKept_18 (by decide) h (fun h => ?_) (fun h => ?_)
    · exact r_sub [] rfl (hJ263 mem h)
    · refine r_aload_n X dX12_isKept_21 rfl 0 rfl ?_
      refine r_getJ X (k := 7) (Lm_N Lmk_0 rfl) Lmk_0 rfl (by decide) ui_12 (by decide) uw5_227 rfl dX12_isKept_22 ?_
      refine r_ldc2 (v := 230501934) X dX12_isKept_25 uw6_235 ?_
      refine r_lcmp X dX12_isKept_28 ?_
      refine r_if_eq (tgt := 263) X dX12_isKept_29 (by decide) h (fun h => ?_) (fun h => ?_)
      · exact r_sub [] rfl (hJ263 mem h)
      · refine r_aload_n X dX12_isKept_32 rfl 0 rfl ?_
        refine r_getJ X (k := 7) (Lm_N Lmk_0 rfl) Lmk_0 rfl (by decide) ui_12 (by decide) uw5_227 rfl dX12_isKept_33 ?_
        refine r_ldc2 (v := 8740675) X dX12_isKept_36 uw6_236 ?_
        refine r_lcmp X dX12_isKept_39 ?_
        refine r_if_eq (tgt := 263) X dX12_isKept_40 (by decide) h (fun h => ?_) (fun h => ?_)
        · exact r_sub [] rfl (hJ263 mem h)
        · refine r_aload_n X dX12_isKept_43 rfl 0 rfl ?_
          refine r_getJ X (k := 7) (Lm_N Lmk_0 rfl) Lmk_0 rfl (by decide) ui_12 (by decide) uw5_227 rfl dX12_isKept_44 ?_
          refine r_ldc2 (v := 10320789) X dX12_isKept_47 uw6_237 ?_
          refine r_lcmp X dX12_isKept_50 ?_
          refine r_if_eq (tgt := 263) X dX12_isKept_51 (by decide) h (fun h => ?_) (fun h => ?_)
          · exact r_sub [] rfl (hJ263 mem h)
          · refine r_aload_n X dX12_isKept_54 rfl 0 rfl ?_
            refine r_getJ X (k := 7) (Lm_N Lmk_0 rfl) Lmk_0 rfl (by decide) ui_12 (by decide) uw5_227 rfl dX12_isKept_55 ?_
            refine r_ldc2 (v := 14092) X dX12_isKept_58 uw6_238 ?_
            refine r_lcmp X dX12_isKept_61 ?_
            refine r_if_eq (tgt := 263) X dX12_isKept_62 (by decide) h (fun h => ?_) (fun h => ?_)
            · exact r_sub [] rfl (hJ263 mem h)
            · refine r_aload_n X dX12_isKept_65 rfl 0 rfl ?_
              refine r_getJ X (k := 7) (Lm_N Lmk_0 rfl) Lmk_0 rfl (by decide) ui_12 (by decide) uw5_227 rfl dX12_isKept_66 ?_
              refine r_ldc2 (v := 10492462) X dX12_isKept_69 uw6_239 ?_
              refine r_lcmp X dX12_isKept_72 ?_
              refine r_if_eq (tgt := 263) X dX12_isKept_73 (by decide) h (fun h => ?_) (fun h => ?_)
              · exact r_sub [] rfl (hJ263 mem h)
              · refine r_aload_n X dX12_isKept_76 rfl 0 rfl ?_
                refine r_getJ X (k := 7) (Lm_N Lmk_0 rfl) Lmk_0 rfl (by decide) ui_12 (by decide) uw5_227 rfl dX12_isKept_77 ?_
                refine r_ldc2 (v := 1899199) X dX12_isKept_80 uw7_0 ?_
                refine r_lcmp X dX12_isKept_83 ?_
                refine r_if_eq (tgt := 263) X dX12_isKept_84 (by decide) h (fun h => ?_) (fun h => ?_)
                · exact r_sub [] rfl (hJ263 mem h)
                · refine r_aload_n X dX12_isKept_87 rfl 0 rfl ?_
                  refine r_getJ X (k := 7) (Lm_N Lmk_0 rfl) Lmk_0 rfl (by decide) ui_12 (by decide) uw5_227 rfl dX12_isKept_88 ?_
                  refine r_ldc2 (v := 12249946) X dX12_isKept_91 uw7_1 ?_
                  refine r_lcmp X dX12_isKept_94 ?_
                  refine r_if_eq (tgt := 263) X dX12_isKept_95 (by decide) h (fun h => ?_) (fun h => ?_)
                  · exact r_sub [] rfl (hJ263 mem h)
                  · refine r_aload_n X dX12_isKept_98 rfl 0 rfl ?_
                    refine r_getJ X (k := 7) (Lm_N Lmk_0 rfl) Lmk_0 rfl (by decide) ui_12 (by decide) uw5_227 rfl dX12_isKept_99 ?_
                    refine r_ldc2 (v := 99233) X dX12_isKept_102 uw7_2 ?_
                    refine r_lcmp X dX12_isKept_105 ?_
                    refine r_if_eq (tgt := 263) X dX12_isKept_106 (by decide) h (fun h => ?_) (fun h => ?_)
                    · exact r_sub [] rfl (hJ263 mem h)
                    · refine r_aload_n X dX12_isKept_109 rfl 0 rfl ?_
                      refine r_getJ X (k := 7) (Lm_N Lmk_0 rfl) Lmk_0 rfl (by decide) ui_12 (by decide) uw5_227 rfl dX12_isKept_110 ?_
                      refine r_ldc2 (v := 307058) X dX12_isKept_113 uw7_3 ?_
                      refine r_lcmp X dX12_isKept_116 ?_
                      refine r_if_eq (tgt := 263) X dX12_isKept_117 (by decide) h (fun h => ?_) (fun h => ?_)
                      · exact r_sub [] rfl (hJ263 mem h)
                      · refine r_aload_n X dX12_isKept_120 rfl 0 rfl ?_
                        refine r_getJ X (k := 7) (Lm_N Lmk_0 rfl) Lmk_0 rfl (by decide) ui_12 (by decide) uw5_227 rfl dX12_isKept_121 ?_
                        refine r_ldc2 (v := 555) X dX12_isKept_124 uw7_4 ?_
                        refine r_lcmp X dX12_isKept_127 ?_
                        refine r_if_eq (tgt := 263) X dX12_isKept_128 (by decide) h (fun h => ?_) (fun h => ?_)
                        · exact r_sub [] rfl (hJ263 mem h)
                        · refine r_aload_n X dX12_isKept_131 rfl 0 rfl ?_
                          refine r_getJ X (k := 7) (Lm_N Lmk_0 rfl) Lmk_0 rfl (by decide) ui_12 (by decide) uw5_227 rfl dX12_isKept_132 ?_
                          refine r_ldc2 (v := 8863997) X dX12_isKept_135 uw7_5 ?_
                          refine r_lcmp X dX12_isKept_138 ?_
                          refine r_if_eq (tgt := 263) X dX12_isKept_139 (by decide) h (fun h => ?_) (fun h => ?_)
                          · exact r_sub [] rfl (hJ263 mem h)
                          · refine r_aload_n X dX12_isKept_142 rfl 0 rfl ?_
                            refine r_getJ X (k := 7) (Lm_N Lmk_0 rfl) Lmk_0 rfl (by decide) ui_12 (by decide) uw5_227 rfl dX12_isKept_143 ?_
                            refine r_ldc2 (v := 208459) X dX12_isKept_146 uw7_6 ?_
                            refine r_lcmp X dX12_isKept_149 ?_
                            refine r_if_eq (tgt := 263) X dX12_isKept_150 (by decide) h (fun h => ?_) (fun h => ?_)
                            · exact r_sub [] rfl (hJ263 mem h)
                            · refine r_aload_n X dX12_isKept_153 rfl 0 rfl ?_
                              refine r_getJ X (k := 7) (Lm_N Lmk_0 rfl) Lmk_0 rfl (by decide) ui_12 (by decide) uw5_227 rfl dX12_isKept_154 ?_
                              refine r_ldc2 (v := 12322792) X dX12_isKept_157 uw7_7 ?_
                              refine r_lcmp X dX12_isKept_160 ?_
                              refine r_if_eq (tgt := 263) X dX12_isKept_161 (by decide) h (fun h => ?_) (fun h => ?_)
                              · exact r_sub [] rfl (hJ263 mem h)
                              · refine r_aload_n X dX12_isKept_164 rfl 0 rfl ?_
                                refine r_getJ X (k := 7) (Lm_N Lmk_0 rfl) Lmk_0 rfl (by decide) ui_12 (by decide) uw5_227 rfl dX12_isKept_165 ?_
                                refine r_ldc2 (v := 2968) X dX12_isKept_168 uw7_8 ?_
                                refine r_lcmp X dX12_isKept_171 ?_
                                refine r_if_eq (tgt := 263) X dX12_isKept_172 (by decide) h (fun h => ?_) (fun h => ?_)
                                · exact r_sub [] rfl (hJ263 mem h)
                                · refine r_aload_n X dX12_isKept_175 rfl 0 rfl ?_
                                  refine r_getJ X (k := 7) (Lm_N Lmk_0 rfl) Lmk_0 rfl (by decide) ui_12 (by decide) uw5_227 rfl dX12_isKept_176 ?_
                                  refine r_ldc2 (v := 259906) X dX12_isKept_179 uw7_9 ?_
                                  refine r_lcmp X dX12_isKept_182 ?_
                                  refine r_if_eq (tgt := 263) X dX12_isKept_183 (by decide) h (fun h => ?_) (fun h => ?_)
                                  · exact r_sub [] rfl (hJ263 mem h)
                                  · refine r_aload_n X dX12_isKept_186 rfl 0 rfl ?_
                                    refine r_getJ X (k := 7) (Lm_N Lmk_0 rfl) Lmk_0 rfl (by decide) ui_12 (by decide) uw5_227 rfl dX12_isKept_187 ?_
                                    refine r_ldc2 (v := 8740238) X dX12_isKept_190 uw7_10 ?_
                                    refine r_lcmp X dX12_isKept_193 ?_
                                    refine r_if_eq (tgt := 263) X dX12_isKept_194 (by decide) h (fun h => ?_) (fun h => ?_)
                                    · exact r_sub [] rfl (hJ263 mem h)
                                    · refine r_aload_n X dX12_isKept_197 rfl 0 rfl ?_
                                      refine r_getJ X (k := 7) (Lm_N Lmk_0 rfl) Lmk_0 rfl (by decide) ui_12 (by decide) uw5_227 rfl dX12_isKept_198 ?_
                                      refine r_ldc2 (v := 91157229) X dX12_isKept_201 uw7_11 ?_
                                      refine r_lcmp X dX12_isKept_204 ?_
                                      refine r_if_eq (tgt := 263) X dX12_isKept_205 (by decide) h (fun h => ?_) (fun h => ?_)
                                      · exact r_sub [] rfl (hJ263 mem h)
                                      · refine r_aload_n X dX12_isKept_208 rfl 0 rfl ?_
                                        refine r_getJ X (k := 7) (Lm_N Lmk_0 rfl) Lmk_0 rfl (by decide) ui_12 (by decide) uw5_227 rfl dX12_isKept_209 ?_
                                        refine r_ldc2 (v := 2495756) X dX12_isKept_212 uw7_12 ?_
                                        refine r_lcmp X dX12_isKept_215 ?_
                                        refine r_if_eq (tgt := 263) X dX12_isKept_216 (by decide) h (fun h => ?_) (fun h => ?_)
                                        · exact r_sub [] rfl (hJ263 mem h)
                                        · refine r_aload_n X dX12_isKept_219 rfl 0 rfl ?_
                                          refine r_getJ X (k := 7) (Lm_N Lmk_0 rfl) Lmk_0 rfl (by decide) ui_12 (by decide) uw5_227 rfl dX12_isKept_220 ?_
                                          refine r_ldc2 (v := 72640629) X dX12_isKept_223 uw7_13 ?_
                                          refine r_lcmp X dX12_isKept_226 ?_
                                          refine r_if_eq (tgt := 263) X dX12_isKept_227 (by decide) h (fun h => ?_) (fun h => ?_)
                                          · exact r_sub [] rfl (hJ263 mem h)
                                          · refine r_aload_n X dX12_isKept_230 rfl 0 rfl ?_
                                            refine r_getJ X (k := 7) (Lm_N Lmk_0 rfl) Lmk_0 rfl (by decide) ui_12 (by decide) uw5_227 rfl dX12_isKept_231 ?_
                                            refine r_ldc2 (v := 10631) X dX12_isKept_234 uw7_14 ?_
                                            refine r_lcmp X dX12_isKept_237 ?_
                                            refine r_if_eq (tgt := 263) X dX12_isKept_238 (by decide) h (fun h => ?_) (fun h => ?_)
                                            · exact r_sub [] rfl (hJ263 mem h)
                                            · refine r_aload_n X dX12_isKept_241 rfl 0 rfl ?_
                                              refine r_getJ X (k := 7) (Lm_N Lmk_0 rfl) Lmk_0 rfl (by decide) ui_12 (by decide) uw5_227 rfl dX12_isKept_242 ?_
                                              refine r_ldc2 (v := 1111) X dX12_isKept_245 uw7_15 ?_
                                              refine r_lcmp X dX12_isKept_248 ?_
                                              refine r_if_eq (tgt := 263) X dX12_isKept_249 (by decide) h (fun h => ?_) (fun h => ?_)
                                              · exact r_sub [] rfl (hJ263 mem h)
                                              · refine r_aload_n X dX12_isKept_252 rfl 0 rfl ?_
                                                refine r_getJ X (k := 7) (Lm_N Lmk_0 rfl) Lmk_0 rfl (by decide) ui_12 (by decide) uw5_227 rfl dX12_isKept_253 ?_
                                                refine r_ldc2 (v := 423) X dX12_isKept_256 uw7_16 ?_
                                                refine r_lcmp X dX12_isKept_259 ?_
                                                refine r_if_ne (tgt := 267) X dX12_isKept_260 (by decide) h (fun h => ?_) (fun h => ?_)
                                                · refine r_iconst (v := (0)) X dX12_isKept_267 (by decide) ?_
                                                  exact r_zret2 X rfl dX12_isKept_268 h
                                                · exact r_sub [] rfl (hJ263 mem h)
  · refine r_iconst (v := (1)) X dX12_isKept_8 (by decide) ?_
    exact r_zret2 X rfl dX12_isKept_9 h
noncomputable def f_X12_tuneNamed_B2 (k2 : Int32 → Mm → Option (Int32 × Mm)) (x1 : Int32) (m2 : Mm) : Option (Int32 × Mm) :=
  if (((5)) + (gI m2 2 7)) ≤ x1 then (some ((-1), m2)) else (grd (inb x1 10) (if ¬ (lg_cmp (gJ m2 3 x1.toNatClampNeg) (gJ m2 0 7)) = 0 then (bnd (x1 + (1)) fun x3 => k2 x3 m2) else (some (x1 - ((5)), m2))))
noncomputable def f_X12_tuneNamed  (mem : Mm) : Option (Int32 × Mm) :=
  lop (fun _ _ => none) (f_X12_tuneNamed_B2 ) 4000 ((5)) mem
theorem dd_X12_tuneNamed : yX12_tuneNamed.cls = RX12 ∧ yX12_tuneNamed.cls ≠ "java/lang/invoke/MethodHandle" ∧ yX12_tuneNamed.cls ≠ "java/lang/invoke/VarHandle" ∧ (parseMethodDescriptor yX12_tuneNamed.desc).map (fun d => d.parameters.length) = some 0 := by decide +kernel
set_option maxHeartbeats 4000000 in
set_option maxRecDepth 100000 in
theorem k_X12_tuneNamed {l : Launch} {ad : Nat → Nat} {cy : Nat → ClassId} {dC : Nat → ClassId} {dI : Nat → Nat → Nat} {ks : (Nat → Nat) × (Nat → Nat)}  {mem : Mm} {r2 : Int32} {mem2 : Mm}  (h : f_X12_tuneNamed  mem = some (r2, mem2)) : CtI l Lm ad cy dC dI ks yX12_tuneNamed cX12_tuneNamed 2 (some .int) ({ frames := 0, cells := 0, slots := 0, locals := 0 }) [.ref (ad (0))] mem r2 mem2 := by
  refine CtI.of (cc := cX12_tuneNamed) (maxL := 2) (ret := (some .int)) (own := RX12) rfl (by decide) (Nat.le_of_ble_eq_true rfl) ?_
  intro p e s m args below meth c A X
  have hts := X.2.2.2.2.1
  have hJ2 : ∀ (k2 : Int32 → Mm → Option (Int32 × Mm)) (hk2 : ∀ (x1 : Int32) (m2 : Mm), k2 x1 m2 = some (r2, mem2) → Jd p l e ({ frames := 0, cells := 0, slots := 0, locals := 0 }) s m args below meth c 2 (MQ below (PsI Lm ad cy dC dI r2 mem2 A) args s 0 0 A) A dC dI cy Lm ad m2 2 [(0, .ref (ad (0))), (1, .int (x1))] []) (x1 : Int32) (m2 : Mm), f_X12_tuneNamed_B2 k2 x1 m2 = some (r2, mem2) → Jd p l e ({ frames := 0, cells := 0, slots := 0, locals := 0 }) s m args below meth c 2 (MQ below (PsI Lm ad cy dC dI r2 mem2 A) args s 0 0 A) A dC dI cy Lm ad m2 2 [(0, .ref (ad (0))), (1, .int (x1))] [] := by
    intro k2 hk2 x1 m2 h
    unfold f_X12_tuneNamed_B2 at h
    refine r_iload_n X dX12_tuneNamed_2 rfl 1 rfl ?_
    refine r_iconst (v := (5)) X dX12_tuneNamed_3 (by decide) ?_
    refine r_aload_n X dX12_tuneNamed_4 rfl 0 rfl ?_
    refine r_getF X (k := 10) (of := 2) rfl (Lm_N Lmk_0 rfl) Lmk_0 rfl (by decide) ui_12 (by decide) uw5_230 rfl dX12_tuneNamed_5 ?_
    refine r_bipush (v := (7)) X dX12_tuneNamed_8 (by decide) ?_
    refine r_iald X (Lm_N Lmk_2 rfl) Lmk_2 (g_in rfl h) dX12_tuneNamed_10 (fun h => ?_)
    refine r_iadd X dX12_tuneNamed_11 ?_
    refine r_icmp_ge (tgt := 39) X dX12_tuneNamed_12 (by decide) h (fun h => ?_) (fun h => ?_)
    · refine r_iconst (v := (-1)) X dX12_tuneNamed_39 (by decide) ?_
      exact r_iret2 X rfl dX12_tuneNamed_40 h
    · refine r_aload_n X dX12_tuneNamed_15 rfl 0 rfl ?_
      refine r_getF X (k := 11) (of := 3) rfl (Lm_N Lmk_0 rfl) Lmk_0 rfl (by decide) ui_12 (by decide) uw5_231 rfl dX12_tuneNamed_16 ?_
      refine r_iload_n X dX12_tuneNamed_19 rfl 1 rfl ?_
      refine r_lald X (Lm_N Lmk_3 rfl) Lmk_3 h dX12_tuneNamed_20 (fun h => ?_)
      refine r_aload_n X dX12_tuneNamed_21 rfl 0 rfl ?_
      refine r_getJ X (k := 7) (Lm_N Lmk_0 rfl) Lmk_0 rfl (by decide) ui_12 (by decide) uw5_227 rfl dX12_tuneNamed_22 ?_
      refine r_lcmp X dX12_tuneNamed_25 ?_
      refine r_if_ne (tgt := 33) X dX12_tuneNamed_26 (by decide) h (fun h => ?_) (fun h => ?_)
      · refine r_inc h (fun x3 e9 h => ?_)
        refine r_iinc (v := x3) (lv2 := [(1, .int (x3)), (0, .ref (ad (0)))]) X dX12_tuneNamed_33 1 rfl (by rw [e9]; rfl) (by decide) rfl ?_
        refine r_goto (tgt := 2) X dX12_tuneNamed_36 (by decide) ?_
        exact r_sub [1, 0] rfl (hk2 x3 m2 h)
      · refine r_iload_n X dX12_tuneNamed_29 rfl 1 rfl ?_
        refine r_iconst (v := (5)) X dX12_tuneNamed_30 (by decide) ?_
        refine r_isub X dX12_tuneNamed_31 ?_
        exact r_iret2 X rfl dX12_tuneNamed_32 h
  have hL2 : ∀ (n : Nat), ∀ (x1 : Int32) (m2 : Mm), lop (fun _ _ => none) (f_X12_tuneNamed_B2 ) n x1 m2 = some (r2, mem2) → Jd p l e ({ frames := 0, cells := 0, slots := 0, locals := 0 }) s m args below meth c 2 (MQ below (PsI Lm ad cy dC dI r2 mem2 A) args s 0 0 A) A dC dI cy Lm ad m2 2 [(0, .ref (ad (0))), (1, .int (x1))] [] := by
    intro  n
    induction n with
    | zero => intro _ _ h; cases h
    | succ n ih => intro a0 a1 h; exact hJ2  _ ih a0 a1 h
  unfold f_X12_tuneNamed at h
  refine r_iconst (v := (5)) X dX12_tuneNamed_0 (by decide) ?_
  refine r_istore_n (lv2 := [(1, .int ((5))), (0, .ref (ad (0)))]) X dX12_tuneNamed_1 rfl (by decide) rfl ?_
  exact r_sub [1, 0] rfl (hL2 4000 ((5)) mem h)
noncomputable def f_X12_passerNamed_B3 (k3 : Int32 → Mm → Option (Int32 × Mm)) (x1 : Int32) (m2 : Mm) : Option (Int32 × Mm) :=
  if (((7)) + (gI m2 2 8)) ≤ x1 then (some ((-1), m2)) else (grd (inb x1 14) (if ¬ (lg_cmp (gJ m2 4 x1.toNatClampNeg) (gJ m2 0 7)) = 0 then (bnd (x1 + (1)) fun x3 => k3 x3 m2) else (some (x1 - ((7)), m2))))
noncomputable def f_X12_passerNamed  (mem : Mm) : Option (Int32 × Mm) :=
  lop (fun _ _ => none) (f_X12_passerNamed_B3 ) 4000 ((7)) mem
theorem dd_X12_passerNamed : yX12_passerNamed.cls = RX12 ∧ yX12_passerNamed.cls ≠ "java/lang/invoke/MethodHandle" ∧ yX12_passerNamed.cls ≠ "java/lang/invoke/VarHandle" ∧ (parseMethodDescriptor yX12_passerNamed.desc).map (fun d => d.parameters.length) = some 0 := by decide +kernel
set_option maxHeartbeats 4000000 in
set_option maxRecDepth 100000 in
theorem k_X12_passerNamed {l : Launch} {ad : Nat → Nat} {cy : Nat → ClassId} {dC : Nat → ClassId} {dI : Nat → Nat → Nat} {ks : (Nat → Nat) × (Nat → Nat)}  {mem : Mm} {r2 : Int32} {mem2 : Mm}  (h : f_X12_passerNamed  mem = some (r2, mem2)) : CtI l Lm ad cy dC dI ks yX12_passerNamed cX12_passerNamed 2 (some .int) ({ frames := 0, cells := 0, slots := 0, locals := 0 }) [.ref (ad (0))] mem r2 mem2 := by
  refine CtI.of (cc := cX12_passerNamed) (maxL := 2) (ret := (some .int)) (own := RX12) rfl (by decide) (Nat.le_of_ble_eq_true rfl) ?_
  intro p e s m args below meth c A X
  have hts := X.2.2.2.2.1
  have hJ3 : ∀ (k3 : Int32 → Mm → Option (Int32 × Mm)) (hk3 : ∀ (x1 : Int32) (m2 : Mm), k3 x1 m2 = some (r2, mem2) → Jd p l e ({ frames := 0, cells := 0, slots := 0, locals := 0 }) s m args below meth c 2 (MQ below (PsI Lm ad cy dC dI r2 mem2 A) args s 0 0 A) A dC dI cy Lm ad m2 3 [(0, .ref (ad (0))), (1, .int (x1))] []) (x1 : Int32) (m2 : Mm), f_X12_passerNamed_B3 k3 x1 m2 = some (r2, mem2) → Jd p l e ({ frames := 0, cells := 0, slots := 0, locals := 0 }) s m args below meth c 2 (MQ below (PsI Lm ad cy dC dI r2 mem2 A) args s 0 0 A) A dC dI cy Lm ad m2 3 [(0, .ref (ad (0))), (1, .int (x1))] [] := by
    intro k3 hk3 x1 m2 h
    unfold f_X12_passerNamed_B3 at h
    refine r_iload_n X dX12_passerNamed_3 rfl 1 rfl ?_
    refine r_bipush (v := (7)) X dX12_passerNamed_4 (by decide) ?_
    refine r_aload_n X dX12_passerNamed_6 rfl 0 rfl ?_
    refine r_getF X (k := 10) (of := 2) rfl (Lm_N Lmk_0 rfl) Lmk_0 rfl (by decide) ui_12 (by decide) uw5_230 rfl dX12_passerNamed_7 ?_
    refine r_bipush (v := (8)) X dX12_passerNamed_10 (by decide) ?_
    refine r_iald X (Lm_N Lmk_2 rfl) Lmk_2 (g_in rfl h) dX12_passerNamed_12 (fun h => ?_)
    refine r_iadd X dX12_passerNamed_13 ?_
    refine r_icmp_ge (tgt := 42) X dX12_passerNamed_14 (by decide) h (fun h => ?_) (fun h => ?_)
    · refine r_iconst (v := (-1)) X dX12_passerNamed_42 (by decide) ?_
      exact r_iret2 X rfl dX12_passerNamed_43 h
    · refine r_aload_n X dX12_passerNamed_17 rfl 0 rfl ?_
      refine r_getF X (k := 12) (of := 4) rfl (Lm_N Lmk_0 rfl) Lmk_0 rfl (by decide) ui_12 (by decide) uw5_232 rfl dX12_passerNamed_18 ?_
      refine r_iload_n X dX12_passerNamed_21 rfl 1 rfl ?_
      refine r_lald X (Lm_N Lmk_4 rfl) Lmk_4 h dX12_passerNamed_22 (fun h => ?_)
      refine r_aload_n X dX12_passerNamed_23 rfl 0 rfl ?_
      refine r_getJ X (k := 7) (Lm_N Lmk_0 rfl) Lmk_0 rfl (by decide) ui_12 (by decide) uw5_227 rfl dX12_passerNamed_24 ?_
      refine r_lcmp X dX12_passerNamed_27 ?_
      refine r_if_ne (tgt := 36) X dX12_passerNamed_28 (by decide) h (fun h => ?_) (fun h => ?_)
      · refine r_inc h (fun x3 e9 h => ?_)
        refine r_iinc (v := x3) (lv2 := [(1, .int (x3)), (0, .ref (ad (0)))]) X dX12_passerNamed_36 1 rfl (by rw [e9]; rfl) (by decide) rfl ?_
        refine r_goto (tgt := 3) X dX12_passerNamed_39 (by decide) ?_
        exact r_sub [1, 0] rfl (hk3 x3 m2 h)
      · refine r_iload_n X dX12_passerNamed_31 rfl 1 rfl ?_
        refine r_bipush (v := (7)) X dX12_passerNamed_32 (by decide) ?_
        refine r_isub X dX12_passerNamed_34 ?_
        exact r_iret2 X rfl dX12_passerNamed_35 h
  have hL3 : ∀ (n : Nat), ∀ (x1 : Int32) (m2 : Mm), lop (fun _ _ => none) (f_X12_passerNamed_B3 ) n x1 m2 = some (r2, mem2) → Jd p l e ({ frames := 0, cells := 0, slots := 0, locals := 0 }) s m args below meth c 2 (MQ below (PsI Lm ad cy dC dI r2 mem2 A) args s 0 0 A) A dC dI cy Lm ad m2 3 [(0, .ref (ad (0))), (1, .int (x1))] [] := by
    intro  n
    induction n with
    | zero => intro _ _ h; cases h
    | succ n ih => intro a0 a1 h; exact hJ3  _ ih a0 a1 h
  unfold f_X12_passerNamed at h
  refine r_bipush (v := (7)) X dX12_passerNamed_0 (by decide) ?_
  refine r_istore_n (lv2 := [(1, .int ((7))), (0, .ref (ad (0)))]) X dX12_passerNamed_2 rfl (by decide) rfl ?_
  exact r_sub [1, 0] rfl (hL3 4000 ((7)) mem h)
noncomputable def f_X12_needsNumber (p1 : Int32) (p2 : Int32) (mem : Mm) : Option (Int32 × Mm) :=
  if (gI mem 0 6) = ((2)) then (bdI (f_X12_within (gI mem 0 8) p1 p2 mem) fun x2 m1 => if ¬ x2 = 0 then (bnd (sI m1 0 39 (gI m1 0 8)) fun m3 => bdV (f_X12_nextToken  m3) fun m4 => grd (bok ((1))) (some ((1), m4))) else (bdI (f_X12_fails ((4)) m1) fun x6 m5 => grd (bok x6) (some (x6, m5)))) else (bdI (f_X12_fails ((1)) mem) fun x8 m7 => grd (bok x8) (some (x8, m7)))
theorem dd_X12_needsNumber : yX12_needsNumber.cls = RX12 ∧ yX12_needsNumber.cls ≠ "java/lang/invoke/MethodHandle" ∧ yX12_needsNumber.cls ≠ "java/lang/invoke/VarHandle" ∧ (parseMethodDescriptor yX12_needsNumber.desc).map (fun d => d.parameters.length) = some 2 := by decide +kernel
set_option maxHeartbeats 4000000 in
set_option maxRecDepth 100000 in
theorem k_X12_needsNumber {l : Launch} {ad : Nat → Nat} {cy : Nat → ClassId} {dC : Nat → ClassId} {dI : Nat → Nat → Nat} {ks : (Nat → Nat) × (Nat → Nat)} {p1 : Int32} {p2 : Int32} {mem : Mm} {r2 : Int32} {mem2 : Mm}  (h : f_X12_needsNumber p1 p2 mem = some (r2, mem2)) : CtI l Lm ad cy dC dI ks yX12_needsNumber cX12_needsNumber 3 (some .boolean) ({ frames := 2, cells := 0, slots := 0, locals := 42 }) [.ref (ad (0)), .int (p1), .int (p2)] mem r2 mem2 := by
  refine CtI.of (cc := cX12_needsNumber) (maxL := 3) (ret := (some .boolean)) (own := RX12) rfl (by decide) (Nat.le_of_ble_eq_true rfl) ?_
  intro p e s m args below meth c A X
  have hts := X.2.2.2.2.1
  unfold f_X12_needsNumber at h
  refine r_aload_n X dX12_needsNumber_0 rfl 0 rfl ?_
  refine r_getI X (k := 6) (Lm_N Lmk_0 rfl) Lmk_0 rfl (by decide) ui_12 (by decide) uw5_226 rfl dX12_needsNumber_1 ?_
  refine r_iconst (v := (2)) X dX12_needsNumber_4 (by decide) ?_
  refine r_icmp_eq (tgt := 14) X dX12_needsNumber_5 (by decide) h (fun h => ?_) (fun h => ?_)
  · refine r_aload_n X dX12_needsNumber_14 rfl 0 rfl ?_
    refine r_getI X (k := 8) (Lm_N Lmk_0 rfl) Lmk_0 rfl (by decide) ui_12 (by decide) uw5_228 rfl dX12_needsNumber_15 ?_
    refine r_iload_n X dX12_needsNumber_18 rfl 1 rfl ?_
    refine r_iload_n X dX12_needsNumber_19 rfl 2 rfl ?_
    refine r_cSI (As := [.int (gI mem 0 8), .int (p1), .int (p2)]) (rest := []) X (fun r9 m9 hg => k_X12_within hg) h uw7_49 uw7_50 uw1_13 uw7_51 rfl rfl dd_X12_within ⟨Nat.le_of_ble_eq_true rfl, Nat.le_of_ble_eq_true rfl⟩ rfl (Nat.le_of_ble_eq_true rfl) dX12_needsNumber_20 rfl (fun x2 m1 h => ?_)
    refine r_if_ne (tgt := 32) X dX12_needsNumber_23 (by decide) h (fun h => ?_) (fun h => ?_)
    · refine r_aload_n X dX12_needsNumber_32 rfl 0 rfl ?_
      refine r_aload_n X dX12_needsNumber_33 rfl 0 rfl ?_
      refine r_getI X (k := 8) (Lm_N Lmk_0 rfl) Lmk_0 rfl (by decide) ui_12 (by decide) uw5_228 rfl dX12_needsNumber_34 ?_
      refine r_putI X (k := 39) (Lm_N Lmk_0 rfl) Lmk_0 rfl (by decide) ui_12 (by decide) uw6_19 tyX12_ok nmX12 rfl rfl rfl dX12_needsNumber_37 ?_
      refine r_nmM h (fun m3 h => ?_)
      refine r_aload_n X dX12_needsNumber_40 rfl 0 rfl ?_
      refine r_cVV (As := []) (rest := []) X (fun m9 hg => k_X12_nextToken hg) h (Lm_N Lmk_0 rfl) Lmk_0 rfl (by decide) uw6_204 uw6_206 us4_0 uw1_13 uw6_207 rfl rfl dd_X12_nextToken ⟨Nat.le_of_ble_eq_true rfl, Nat.le_of_ble_eq_true rfl⟩ rfl (Nat.le_of_ble_eq_true rfl) dX12_needsNumber_41 rfl (fun m4 h => ?_)
      refine r_iconst (v := (1)) X dX12_needsNumber_44 (by decide) ?_
      exact r_zret2 X rfl dX12_needsNumber_45 h
    · refine r_aload_n X dX12_needsNumber_26 rfl 0 rfl ?_
      refine r_iconst (v := (4)) X dX12_needsNumber_27 (by decide) ?_
      refine r_cVI (As := [.int ((4))]) (rest := []) X (fun r9 m9 hg => k_X12_fails hg) h (Lm_N Lmk_0 rfl) Lmk_0 rfl (by decide) uw6_223 uw6_225 us4_4 uw1_13 uw6_226 rfl rfl dd_X12_fails ⟨Nat.le_of_ble_eq_true rfl, Nat.le_of_ble_eq_true rfl⟩ rfl (Nat.le_of_ble_eq_true rfl) dX12_needsNumber_28 rfl (fun x6 m5 h => ?_)
      exact r_zret2 X rfl dX12_needsNumber_31 h
  · refine r_aload_n X dX12_needsNumber_8 rfl 0 rfl ?_
    refine r_iconst (v := (1)) X dX12_needsNumber_9 (by decide) ?_
    refine r_cVI (As := [.int ((1))]) (rest := []) X (fun r9 m9 hg => k_X12_fails hg) h (Lm_N Lmk_0 rfl) Lmk_0 rfl (by decide) uw6_223 uw6_225 us4_4 uw1_13 uw6_226 rfl rfl dd_X12_fails ⟨Nat.le_of_ble_eq_true rfl, Nat.le_of_ble_eq_true rfl⟩ rfl (Nat.le_of_ble_eq_true rfl) dX12_needsNumber_10 rfl (fun x8 m7 h => ?_)
    exact r_zret2 X rfl dX12_needsNumber_13 h
noncomputable def f_X12_needsWord (p1 : Int64) (mem : Mm) : Option (Int32 × Mm) :=
  bdI (f_X12_isWord p1 mem) fun x2 m1 => if ¬ x2 = 0 then (bdV (f_X12_nextToken  m1) fun m3 => grd (bok ((1))) (some ((1), m3))) else (bdI (f_X12_fails ((1)) m1) fun x5 m4 => grd (bok x5) (some (x5, m4)))
theorem dd_X12_needsWord : yX12_needsWord.cls = RX12 ∧ yX12_needsWord.cls ≠ "java/lang/invoke/MethodHandle" ∧ yX12_needsWord.cls ≠ "java/lang/invoke/VarHandle" ∧ (parseMethodDescriptor yX12_needsWord.desc).map (fun d => d.parameters.length) = some 1 := by decide +kernel
set_option maxHeartbeats 4000000 in
set_option maxRecDepth 100000 in
theorem k_X12_needsWord {l : Launch} {ad : Nat → Nat} {cy : Nat → ClassId} {dC : Nat → ClassId} {dI : Nat → Nat → Nat} {ks : (Nat → Nat) × (Nat → Nat)} {p1 : Int64} {mem : Mm} {r2 : Int32} {mem2 : Mm}  (h : f_X12_needsWord p1 mem = some (r2, mem2)) : CtI l Lm ad cy dC dI ks yX12_needsWord cX12_needsWord 3 (some .boolean) ({ frames := 2, cells := 0, slots := 0, locals := 42 }) [.ref (ad (0)), .long (p1)] mem r2 mem2 := by
  refine CtI.of (cc := cX12_needsWord) (maxL := 3) (ret := (some .boolean)) (own := RX12) rfl (by decide) (Nat.le_of_ble_eq_true rfl) ?_
  intro p e s m args below meth c A X
  have hts := X.2.2.2.2.1
  unfold f_X12_needsWord at h
  refine r_aload_n X dX12_needsWord_0 rfl 0 rfl ?_
  refine r_lload_n X dX12_needsWord_1 rfl 1 rfl ?_
  refine r_cVI (As := [.long (p1)]) (rest := []) X (fun r9 m9 hg => k_X12_isWord hg) h (Lm_N Lmk_0 rfl) Lmk_0 rfl (by decide) uw6_215 uw6_217 us4_2 uw1_13 uw6_218 rfl rfl dd_X12_isWord ⟨Nat.le_of_ble_eq_true rfl, Nat.le_of_ble_eq_true rfl⟩ rfl (Nat.le_of_ble_eq_true rfl) dX12_needsWord_2 rfl (fun x2 m1 h => ?_)
  refine r_if_ne (tgt := 14) X dX12_needsWord_5 (by decide) h (fun h => ?_) (fun h => ?_)
  · refine r_aload_n X dX12_needsWord_14 rfl 0 rfl ?_
    refine r_cVV (As := []) (rest := []) X (fun m9 hg => k_X12_nextToken hg) h (Lm_N Lmk_0 rfl) Lmk_0 rfl (by decide) uw6_204 uw6_206 us4_0 uw1_13 uw6_207 rfl rfl dd_X12_nextToken ⟨Nat.le_of_ble_eq_true rfl, Nat.le_of_ble_eq_true rfl⟩ rfl (Nat.le_of_ble_eq_true rfl) dX12_needsWord_15 rfl (fun m3 h => ?_)
    refine r_iconst (v := (1)) X dX12_needsWord_18 (by decide) ?_
    exact r_zret2 X rfl dX12_needsWord_19 h
  · refine r_aload_n X dX12_needsWord_8 rfl 0 rfl ?_
    refine r_iconst (v := (1)) X dX12_needsWord_9 (by decide) ?_
    refine r_cVI (As := [.int ((1))]) (rest := []) X (fun r9 m9 hg => k_X12_fails hg) h (Lm_N Lmk_0 rfl) Lmk_0 rfl (by decide) uw6_223 uw6_225 us4_4 uw1_13 uw6_226 rfl rfl dd_X12_fails ⟨Nat.le_of_ble_eq_true rfl, Nat.le_of_ble_eq_true rfl⟩ rfl (Nat.le_of_ble_eq_true rfl) dX12_needsWord_10 rfl (fun x5 m4 h => ?_)
    exact r_zret2 X rfl dX12_needsWord_13 h
noncomputable def f_X12_needsBoth (p1 : Int64) (p2 : Int32) (p3 : Int32) (mem : Mm) : Option (Int32 × Mm) :=
  bdI (f_X12_needsWord p1 mem) fun x2 m1 => if x2 = 0 then (grd (bok ((0))) (some ((0), m1))) else (bdI (f_X12_needsNumber p2 p3 m1) fun x4 m3 => if x4 = 0 then (grd (bok ((0))) (some ((0), m3))) else (grd (bok ((1))) (some ((1), m3))))
theorem dd_X12_needsBoth : yX12_needsBoth.cls = RX12 ∧ yX12_needsBoth.cls ≠ "java/lang/invoke/MethodHandle" ∧ yX12_needsBoth.cls ≠ "java/lang/invoke/VarHandle" ∧ (parseMethodDescriptor yX12_needsBoth.desc).map (fun d => d.parameters.length) = some 3 := by decide +kernel
set_option maxHeartbeats 4000000 in
set_option maxRecDepth 100000 in
theorem k_X12_needsBoth {l : Launch} {ad : Nat → Nat} {cy : Nat → ClassId} {dC : Nat → ClassId} {dI : Nat → Nat → Nat} {ks : (Nat → Nat) × (Nat → Nat)} {p1 : Int64} {p2 : Int32} {p3 : Int32} {mem : Mm} {r2 : Int32} {mem2 : Mm}  (h : f_X12_needsBoth p1 p2 p3 mem = some (r2, mem2)) : CtI l Lm ad cy dC dI ks yX12_needsBoth cX12_needsBoth 5 (some .boolean) ({ frames := 3, cells := 0, slots := 0, locals := 64 }) [.ref (ad (0)), .long (p1), .int (p2), .int (p3)] mem r2 mem2 := by
  refine CtI.of (cc := cX12_needsBoth) (maxL := 5) (ret := (some .boolean)) (own := RX12) rfl (by decide) (Nat.le_of_ble_eq_true rfl) ?_
  intro p e s m args below meth c A X
  have hts := X.2.2.2.2.1
  unfold f_X12_needsBoth at h
  refine r_aload_n X dX12_needsBoth_0 rfl 0 rfl ?_
  refine r_lload_n X dX12_needsBoth_1 rfl 1 rfl ?_
  refine r_cVI (As := [.long (p1)]) (rest := []) X (fun r9 m9 hg => k_X12_needsWord hg) h (Lm_N Lmk_0 rfl) Lmk_0 rfl (by decide) uw7_37 uw7_39 us4_12 uw1_13 uw7_40 rfl rfl dd_X12_needsWord ⟨Nat.le_of_ble_eq_true rfl, Nat.le_of_ble_eq_true rfl⟩ rfl (Nat.le_of_ble_eq_true rfl) dX12_needsBoth_2 rfl (fun x2 m1 h => ?_)
  refine r_if_eq (tgt := 22) X dX12_needsBoth_5 (by decide) h (fun h => ?_) (fun h => ?_)
  · refine r_iconst (v := (0)) X dX12_needsBoth_22 (by decide) ?_
    exact r_zret2 X rfl dX12_needsBoth_23 h
  · refine r_aload_n X dX12_needsBoth_8 rfl 0 rfl ?_
    refine r_iload_n X dX12_needsBoth_9 rfl 2 rfl ?_
    refine r_iload X dX12_needsBoth_10 3 rfl ?_
    refine r_cVI (As := [.int (p2), .int (p3)]) (rest := []) X (fun r9 m9 hg => k_X12_needsNumber hg) h (Lm_N Lmk_0 rfl) Lmk_0 rfl (by decide) uw7_45 uw7_47 us4_14 uw1_13 uw7_48 rfl rfl dd_X12_needsNumber ⟨Nat.le_of_ble_eq_true rfl, Nat.le_of_ble_eq_true rfl⟩ rfl (Nat.le_of_ble_eq_true rfl) dX12_needsBoth_12 rfl (fun x4 m3 h => ?_)
    refine r_if_eq (tgt := 22) X dX12_needsBoth_15 (by decide) h (fun h => ?_) (fun h => ?_)
    · refine r_iconst (v := (0)) X dX12_needsBoth_22 (by decide) ?_
      exact r_zret2 X rfl dX12_needsBoth_23 h
    · refine r_iconst (v := (1)) X dX12_needsBoth_18 (by decide) ?_
      refine r_goto (tgt := 23) X dX12_needsBoth_19 (by decide) ?_
      exact r_zret2 X rfl dX12_needsBoth_23 h
noncomputable def f_X12_closes  (mem : Mm) : Option (Int32 × Mm) :=
  bdI (f_X12_isSign ((59)) mem) fun x2 m1 => if ¬ x2 = 0 then (bdV (f_X12_nextToken  m1) fun m3 => grd (bok ((1))) (some ((1), m3))) else (bdI (f_X12_fails ((1)) m1) fun x5 m4 => grd (bok x5) (some (x5, m4)))
theorem dd_X12_closes : yX12_closes.cls = RX12 ∧ yX12_closes.cls ≠ "java/lang/invoke/MethodHandle" ∧ yX12_closes.cls ≠ "java/lang/invoke/VarHandle" ∧ (parseMethodDescriptor yX12_closes.desc).map (fun d => d.parameters.length) = some 0 := by decide +kernel
set_option maxHeartbeats 4000000 in
set_option maxRecDepth 100000 in
theorem k_X12_closes {l : Launch} {ad : Nat → Nat} {cy : Nat → ClassId} {dC : Nat → ClassId} {dI : Nat → Nat → Nat} {ks : (Nat → Nat) × (Nat → Nat)}  {mem : Mm} {r2 : Int32} {mem2 : Mm}  (h : f_X12_closes  mem = some (r2, mem2)) : CtI l Lm ad cy dC dI ks yX12_closes cX12_closes 1 (some .boolean) ({ frames := 2, cells := 0, slots := 0, locals := 42 }) [.ref (ad (0))] mem r2 mem2 := by
  refine CtI.of (cc := cX12_closes) (maxL := 1) (ret := (some .boolean)) (own := RX12) rfl (by decide) (Nat.le_of_ble_eq_true rfl) ?_
  intro p e s m args below meth c A X
  have hts := X.2.2.2.2.1
  unfold f_X12_closes at h
  refine r_aload_n X dX12_closes_0 rfl 0 rfl ?_
  refine r_bipush (v := (59)) X dX12_closes_1 (by decide) ?_
  refine r_cVI (As := [.int ((59))]) (rest := []) X (fun r9 m9 hg => k_X12_isSign hg) h (Lm_N Lmk_0 rfl) Lmk_0 rfl (by decide) uw7_25 uw7_27 us4_9 uw1_13 uw7_28 rfl rfl dd_X12_isSign ⟨Nat.le_of_ble_eq_true rfl, Nat.le_of_ble_eq_true rfl⟩ rfl (Nat.le_of_ble_eq_true rfl) dX12_closes_3 rfl (fun x2 m1 h => ?_)
  refine r_if_ne (tgt := 15) X dX12_closes_6 (by decide) h (fun h => ?_) (fun h => ?_)
  · refine r_aload_n X dX12_closes_15 rfl 0 rfl ?_
    refine r_cVV (As := []) (rest := []) X (fun m9 hg => k_X12_nextToken hg) h (Lm_N Lmk_0 rfl) Lmk_0 rfl (by decide) uw6_204 uw6_206 us4_0 uw1_13 uw6_207 rfl rfl dd_X12_nextToken ⟨Nat.le_of_ble_eq_true rfl, Nat.le_of_ble_eq_true rfl⟩ rfl (Nat.le_of_ble_eq_true rfl) dX12_closes_16 rfl (fun m3 h => ?_)
    refine r_iconst (v := (1)) X dX12_closes_19 (by decide) ?_
    exact r_zret2 X rfl dX12_closes_20 h
  · refine r_aload_n X dX12_closes_9 rfl 0 rfl ?_
    refine r_iconst (v := (1)) X dX12_closes_10 (by decide) ?_
    refine r_cVI (As := [.int ((1))]) (rest := []) X (fun r9 m9 hg => k_X12_fails hg) h (Lm_N Lmk_0 rfl) Lmk_0 rfl (by decide) uw6_223 uw6_225 us4_4 uw1_13 uw6_226 rfl rfl dd_X12_fails ⟨Nat.le_of_ble_eq_true rfl, Nat.le_of_ble_eq_true rfl⟩ rfl (Nat.le_of_ble_eq_true rfl) dX12_closes_11 rfl (fun x5 m4 h => ?_)
    exact r_zret2 X rfl dX12_closes_14 h
noncomputable def f_X12_needsNew_J27 (m11 : Mm) : Option (Int32 × Mm) :=
  bdI (f_X12_fails ((3)) m11) fun x13 m12 => grd (bok x13) (some (x13, m12))
noncomputable def f_X12_needsNew  (mem : Mm) : Option (Int32 × Mm) :=
  bdI (f_X12_isKept  mem) fun x2 m1 => if x2 = 0 then (bdI (f_X12_tuneNamed  m1) fun x4 m3 => if 0 ≤ x4 then (f_X12_needsNew_J27 m3) else (bdI (f_X12_passerNamed  m3) fun x6 m5 => if x6 < 0 then (bnd (sJ m5 0 40 (gJ m5 0 7)) fun m7 => bdV (f_X12_nextToken  m7) fun m8 => grd (bok ((1))) (some ((1), m8))) else (f_X12_needsNew_J27 m5))) else (bdI (f_X12_fails ((1)) m1) fun x10 m9 => grd (bok x10) (some (x10, m9)))
theorem dd_X12_needsNew : yX12_needsNew.cls = RX12 ∧ yX12_needsNew.cls ≠ "java/lang/invoke/MethodHandle" ∧ yX12_needsNew.cls ≠ "java/lang/invoke/VarHandle" ∧ (parseMethodDescriptor yX12_needsNew.desc).map (fun d => d.parameters.length) = some 0 := by decide +kernel
set_option maxHeartbeats 4000000 in
set_option maxRecDepth 100000 in
theorem k_X12_needsNew {l : Launch} {ad : Nat → Nat} {cy : Nat → ClassId} {dC : Nat → ClassId} {dI : Nat → Nat → Nat} {ks : (Nat → Nat) × (Nat → Nat)}  {mem : Mm} {r2 : Int32} {mem2 : Mm}  (h : f_X12_needsNew  mem = some (r2, mem2)) : CtI l Lm ad cy dC dI ks yX12_needsNew cX12_needsNew 1 (some .boolean) ({ frames := 2, cells := 0, slots := 0, locals := 42 }) [.ref (ad (0))] mem r2 mem2 := by
  refine CtI.of (cc := cX12_needsNew) (maxL := 1) (ret := (some .boolean)) (own := RX12) rfl (by decide) (Nat.le_of_ble_eq_true rfl) ?_
  intro p e s m args below meth c A X
  have hts := X.2.2.2.2.1
  have hJ27 : ∀ (m11 : Mm), f_X12_needsNew_J27 m11 = some (r2, mem2) → Jd p l e ({ frames := 2, cells := 0, slots := 0, locals := 42 }) s m args below meth c 1 (MQ below (PsI Lm ad cy dC dI r2 mem2 A) args s 0 0 A) A dC dI cy Lm ad m11 27 [(0, .ref (ad (0)))] [] := by
    intro m11 h
    unfold f_X12_needsNew_J27 at h
    refine r_aload_n X dX12_needsNew_27 rfl 0 rfl ?_
    refine r_iconst (v := (3)) X dX12_needsNew_28 (by decide) ?_
    refine r_cVI (As := [.int ((3))]) (rest := []) X (fun r9 m9 hg => k_X12_fails hg) h (Lm_N Lmk_0 rfl) Lmk_0 rfl (by decide) uw6_223 uw6_225 us4_4 uw1_13 uw6_226 rfl rfl dd_X12_fails ⟨Nat.le_of_ble_eq_true rfl, Nat.le_of_ble_eq_true rfl⟩ rfl (Nat.le_of_ble_eq_true rfl) dX12_needsNew_29 rfl (fun x13 m12 h => ?_)
    exact r_zret2 X rfl dX12_needsNew_32 h
  unfold f_X12_needsNew at h
  refine r_aload_n X dX12_needsNew_0 rfl 0 rfl ?_
  refine r_cVI (As := []) (rest := []) X (fun r9 m9 hg => k_X12_isKept hg) h (Lm_N Lmk_0 rfl) Lmk_0 rfl (by decide) uw6_231 uw6_233 us4_6 uw1_13 uw6_234 rfl rfl dd_X12_isKept ⟨Nat.le_of_ble_eq_true rfl, Nat.le_of_ble_eq_true rfl⟩ rfl (Nat.le_of_ble_eq_true rfl) dX12_needsNew_1 rfl (fun x2 m1 h => ?_)
  refine r_if_eq (tgt := 13) X dX12_needsNew_4 (by decide) h (fun h => ?_) (fun h => ?_)
  · refine r_aload_n X dX12_needsNew_13 rfl 0 rfl ?_
    refine r_cVI (As := []) (rest := []) X (fun r9 m9 hg => k_X12_tuneNamed hg) h (Lm_N Lmk_0 rfl) Lmk_0 rfl (by decide) uw7_17 uw7_19 us4_7 uw1_13 uw7_20 rfl rfl dd_X12_tuneNamed ⟨Nat.le_of_ble_eq_true rfl, Nat.le_of_ble_eq_true rfl⟩ rfl (Nat.le_of_ble_eq_true rfl) dX12_needsNew_14 rfl (fun x4 m3 h => ?_)
    refine r_if_ge (tgt := 27) X dX12_needsNew_17 (by decide) h (fun h => ?_) (fun h => ?_)
    · exact r_sub [0] rfl (hJ27 m3 h)
    · refine r_aload_n X dX12_needsNew_20 rfl 0 rfl ?_
      refine r_cVI (As := []) (rest := []) X (fun r9 m9 hg => k_X12_passerNamed hg) h (Lm_N Lmk_0 rfl) Lmk_0 rfl (by decide) uw7_21 uw7_23 us4_8 uw1_13 uw7_24 rfl rfl dd_X12_passerNamed ⟨Nat.le_of_ble_eq_true rfl, Nat.le_of_ble_eq_true rfl⟩ rfl (Nat.le_of_ble_eq_true rfl) dX12_needsNew_21 rfl (fun x6 m5 h => ?_)
      refine r_if_lt (tgt := 33) X dX12_needsNew_24 (by decide) h (fun h => ?_) (fun h => ?_)
      · refine r_aload_n X dX12_needsNew_33 rfl 0 rfl ?_
        refine r_aload_n X dX12_needsNew_34 rfl 0 rfl ?_
        refine r_getJ X (k := 7) (Lm_N Lmk_0 rfl) Lmk_0 rfl (by decide) ui_12 (by decide) uw5_227 rfl dX12_needsNew_35 ?_
        refine r_putJ X (k := 40) (Lm_N Lmk_0 rfl) Lmk_0 rfl (by decide) ui_12 (by decide) uw6_20 tyX12_ok nmX12 rfl rfl rfl dX12_needsNew_38 ?_
        refine r_nmM h (fun m7 h => ?_)
        refine r_aload_n X dX12_needsNew_41 rfl 0 rfl ?_
        refine r_cVV (As := []) (rest := []) X (fun m9 hg => k_X12_nextToken hg) h (Lm_N Lmk_0 rfl) Lmk_0 rfl (by decide) uw6_204 uw6_206 us4_0 uw1_13 uw6_207 rfl rfl dd_X12_nextToken ⟨Nat.le_of_ble_eq_true rfl, Nat.le_of_ble_eq_true rfl⟩ rfl (Nat.le_of_ble_eq_true rfl) dX12_needsNew_42 rfl (fun m8 h => ?_)
        refine r_iconst (v := (1)) X dX12_needsNew_45 (by decide) ?_
        exact r_zret2 X rfl dX12_needsNew_46 h
      · exact r_sub [0] rfl (hJ27 m5 h)
  · refine r_aload_n X dX12_needsNew_7 rfl 0 rfl ?_
    refine r_iconst (v := (1)) X dX12_needsNew_8 (by decide) ?_
    refine r_cVI (As := [.int ((1))]) (rest := []) X (fun r9 m9 hg => k_X12_fails hg) h (Lm_N Lmk_0 rfl) Lmk_0 rfl (by decide) uw6_223 uw6_225 us4_4 uw1_13 uw6_226 rfl rfl dd_X12_fails ⟨Nat.le_of_ble_eq_true rfl, Nat.le_of_ble_eq_true rfl⟩ rfl (Nat.le_of_ble_eq_true rfl) dX12_needsNew_9 rfl (fun x10 m9 h => ?_)
    exact r_zret2 X rfl dX12_needsNew_12 h
noncomputable def f_X12_readsTune_J60 (k42 : Int32 → Mm → Option (Int32 × Mm)) (x16 : Int32) (m17 : Mm) : Option (Int32 × Mm) :=
  if (gI m17 0 6) = ((2)) then (if (gI m17 0 8) ≤ ((11)) then (grd (inb x16 10) (if ¬ (gI m17 6 x16.toNatClampNeg) = ((9)) then (grd (inb x16 10) (grd (inb ((((9)) * x16) + (gI m17 6 x16.toNatClampNeg)) 90) (bnd (sI m17 5 ((((9)) * x16) + (gI m17 6 x16.toNatClampNeg)).toNatClampNeg (gI m17 0 8)) fun m18 => grd (inb x16 10) (grd (inb x16 10) (bnd (sI m18 6 x16.toNatClampNeg ((gI m18 6 x16.toNatClampNeg) + ((1)))) fun m19 => bdV (f_X12_nextToken  m19) fun m20 => k42 x16 m20))))) else (bdI (f_X12_fails ((5)) m17) fun x22 m21 => grd (bok x22) (some (x22, m21))))) else (bdI (f_X12_fails ((4)) m17) fun x24 m23 => grd (bok x24) (some (x24, m23)))) else (bdI (f_X12_fails ((1)) m17) fun x26 m25 => grd (bok x26) (some (x26, m25)))
noncomputable def f_X12_readsTune_B42 (k42 : Int32 → Mm → Option (Int32 × Mm)) (x8 : Int32) (m9 : Mm) : Option (Int32 × Mm) :=
  grd (inb x8 10) (if (gI m9 6 x8.toNatClampNeg) = 0 then (f_X12_readsTune_J60 k42 x8 m9) else (bdI (f_X12_isSign ((59)) m9) fun x11 m10 => if ¬ x11 = 0 then (grd (inb x8 10) (bnd (sJ m10 3 x8.toNatClampNeg (gJ m10 0 40)) fun m12 => bnd (sI m12 2 7 ((gI m12 2 7) + ((1)))) fun m13 => bdI (f_X12_closes  m13) fun x15 m14 => grd (bok x15) (some (x15, m14)))) else (f_X12_readsTune_J60 k42 x8 m10)))
noncomputable def f_X12_readsTune  (mem : Mm) : Option (Int32 × Mm) :=
  bnd (((5)) + (gI mem 2 7)) fun x1 => if ¬ x1 = ((10)) then (bdV (f_X12_nextToken  mem) fun m2 => bdI (f_X12_needsNew  m2) fun x4 m3 => if ¬ x4 = 0 then (grd (inb x1 10) (bnd (sI m3 6 x1.toNatClampNeg ((0))) fun m5 => lop (fun _ _ => none) (f_X12_readsTune_B42 ) 4000 x1 m5)) else (grd (bok ((0))) (some ((0), m3)))) else (bdI (f_X12_fails ((5)) mem) fun x7 m6 => grd (bok x7) (some (x7, m6)))
theorem dd_X12_readsTune : yX12_readsTune.cls = RX12 ∧ yX12_readsTune.cls ≠ "java/lang/invoke/MethodHandle" ∧ yX12_readsTune.cls ≠ "java/lang/invoke/VarHandle" ∧ (parseMethodDescriptor yX12_readsTune.desc).map (fun d => d.parameters.length) = some 0 := by decide +kernel
set_option maxHeartbeats 4000000 in
set_option maxRecDepth 100000 in
theorem k_X12_readsTune {l : Launch} {ad : Nat → Nat} {cy : Nat → ClassId} {dC : Nat → ClassId} {dI : Nat → Nat → Nat} {ks : (Nat → Nat) × (Nat → Nat)}  {mem : Mm} {r2 : Int32} {mem2 : Mm}  (h : f_X12_readsTune  mem = some (r2, mem2)) : CtI l Lm ad cy dC dI ks yX12_readsTune cX12_readsTune 2 (some .boolean) ({ frames := 3, cells := 0, slots := 0, locals := 62 }) [.ref (ad (0))] mem r2 mem2 := by
  refine CtI.of (cc := cX12_readsTune) (maxL := 2) (ret := (some .boolean)) (own := RX12) rfl (by decide) (Nat.le_of_ble_eq_true rfl) ?_
  intro p e s m args below meth c A X
  have hts := X.2.2.2.2.1
  have hJ60 : ∀ (k42 : Int32 → Mm → Option (Int32 × Mm)) (hk42 : ∀ (x8 : Int32) (m9 : Mm), k42 x8 m9 = some (r2, mem2) → Jd p l e ({ frames := 3, cells := 0, slots := 0, locals := 62 }) s m args below meth c 2 (MQ below (PsI Lm ad cy dC dI r2 mem2 A) args s 0 0 A) A dC dI cy Lm ad m9 42 [(0, .ref (ad (0))), (1, .int (x8))] []) (x16 : Int32) (m17 : Mm), f_X12_readsTune_J60 k42 x16 m17 = some (r2, mem2) → Jd p l e ({ frames := 3, cells := 0, slots := 0, locals := 62 }) s m args below meth c 2 (MQ below (PsI Lm ad cy dC dI r2 mem2 A) args s 0 0 A) A dC dI cy Lm ad m17 60 [(0, .ref (ad (0))), (1, .int (x16))] [] := by
    intro k42 hk42 x16 m17 h
    unfold f_X12_readsTune_J60 at h
    refine r_aload_n X dX12_readsTune_60 rfl 0 rfl ?_
    refine r_getI X (k := 6) (Lm_N Lmk_0 rfl) Lmk_0 rfl (by decide) ui_12 (by decide) uw5_226 rfl dX12_readsTune_61 ?_
    refine r_iconst (v := (2)) X dX12_readsTune_64 (by decide) ?_
    refine r_icmp_eq (tgt := 74) X dX12_readsTune_65 (by decide) h (fun h => ?_) (fun h => ?_)
    · refine r_aload_n X dX12_readsTune_74 rfl 0 rfl ?_
      refine r_getI X (k := 8) (Lm_N Lmk_0 rfl) Lmk_0 rfl (by decide) ui_12 (by decide) uw5_228 rfl dX12_readsTune_75 ?_
      refine r_bipush (v := (11)) X dX12_readsTune_78 (by decide) ?_
      refine r_icmp_le (tgt := 89) X dX12_readsTune_80 (by decide) h (fun h => ?_) (fun h => ?_)
      · refine r_aload_n X dX12_readsTune_89 rfl 0 rfl ?_
        refine r_getF X (k := 14) (of := 6) rfl (Lm_N Lmk_0 rfl) Lmk_0 rfl (by decide) ui_12 (by decide) uw5_234 rfl dX12_readsTune_90 ?_
        refine r_iload_n X dX12_readsTune_93 rfl 1 rfl ?_
        refine r_iald X (Lm_N Lmk_6 rfl) Lmk_6 h dX12_readsTune_94 (fun h => ?_)
        refine r_bipush (v := (9)) X dX12_readsTune_95 (by decide) ?_
        refine r_icmp_ne (tgt := 106) X dX12_readsTune_97 (by decide) h (fun h => ?_) (fun h => ?_)
        · refine r_aload_n X dX12_readsTune_106 rfl 0 rfl ?_
          refine r_getF X (k := 13) (of := 5) rfl (Lm_N Lmk_0 rfl) Lmk_0 rfl (by decide) ui_12 (by decide) uw5_233 rfl dX12_readsTune_107 ?_
          refine r_bipush (v := (9)) X dX12_readsTune_110 (by decide) ?_
          refine r_iload_n X dX12_readsTune_112 rfl 1 rfl ?_
          refine r_imul X dX12_readsTune_113 ?_
          refine r_aload_n X dX12_readsTune_114 rfl 0 rfl ?_
          refine r_getF X (k := 14) (of := 6) rfl (Lm_N Lmk_0 rfl) Lmk_0 rfl (by decide) ui_12 (by decide) uw5_234 rfl dX12_readsTune_115 ?_
          refine r_iload_n X dX12_readsTune_118 rfl 1 rfl ?_
          refine r_iald X (Lm_N Lmk_6 rfl) Lmk_6 h dX12_readsTune_119 (fun h => ?_)
          refine r_iadd X dX12_readsTune_120 ?_
          refine r_aload_n X dX12_readsTune_121 rfl 0 rfl ?_
          refine r_getI X (k := 8) (Lm_N Lmk_0 rfl) Lmk_0 rfl (by decide) ui_12 (by decide) uw5_228 rfl dX12_readsTune_122 ?_
          refine r_iast X (Lm_N Lmk_5 rfl) Lmk_5 h dX12_readsTune_125 (fun h => ?_)
          refine r_nmM h (fun m18 h => ?_)
          refine r_aload_n X dX12_readsTune_126 rfl 0 rfl ?_
          refine r_getF X (k := 14) (of := 6) rfl (Lm_N Lmk_0 rfl) Lmk_0 rfl (by decide) ui_12 (by decide) uw5_234 rfl dX12_readsTune_127 ?_
          refine r_iload_n X dX12_readsTune_130 rfl 1 rfl ?_
          refine r_dup2 X dX12_readsTune_131 rfl rfl ?_
          refine r_iald X (Lm_N Lmk_6 rfl) Lmk_6 h dX12_readsTune_132 (fun h => ?_)
          refine r_iconst (v := (1)) X dX12_readsTune_133 (by decide) ?_
          refine r_iadd X dX12_readsTune_134 ?_
          refine r_iast X (Lm_N Lmk_6 rfl) Lmk_6 h dX12_readsTune_135 (fun h => ?_)
          refine r_nmM h (fun m19 h => ?_)
          refine r_aload_n X dX12_readsTune_136 rfl 0 rfl ?_
          refine r_cVV (As := []) (rest := []) X (fun m9 hg => k_X12_nextToken hg) h (Lm_N Lmk_0 rfl) Lmk_0 rfl (by decide) uw6_204 uw6_206 us4_0 uw1_13 uw6_207 rfl rfl dd_X12_nextToken ⟨Nat.le_of_ble_eq_true rfl, Nat.le_of_ble_eq_true rfl⟩ rfl (Nat.le_of_ble_eq_true rfl) dX12_readsTune_137 rfl (fun m20 h => ?_)
          refine r_goto (tgt := 42) X dX12_readsTune_140 (by decide) ?_
          exact r_sub [0, 1] rfl (hk42 x16 m20 h)
        · refine r_aload_n X dX12_readsTune_100 rfl 0 rfl ?_
          refine r_iconst (v := (5)) X dX12_readsTune_101 (by decide) ?_
          refine r_cVI (As := [.int ((5))]) (rest := []) X (fun r9 m9 hg => k_X12_fails hg) h (Lm_N Lmk_0 rfl) Lmk_0 rfl (by decide) uw6_223 uw6_225 us4_4 uw1_13 uw6_226 rfl rfl dd_X12_fails ⟨Nat.le_of_ble_eq_true rfl, Nat.le_of_ble_eq_true rfl⟩ rfl (Nat.le_of_ble_eq_true rfl) dX12_readsTune_102 rfl (fun x22 m21 h => ?_)
          exact r_zret2 X rfl dX12_readsTune_105 h
      · refine r_aload_n X dX12_readsTune_83 rfl 0 rfl ?_
        refine r_iconst (v := (4)) X dX12_readsTune_84 (by decide) ?_
        refine r_cVI (As := [.int ((4))]) (rest := []) X (fun r9 m9 hg => k_X12_fails hg) h (Lm_N Lmk_0 rfl) Lmk_0 rfl (by decide) uw6_223 uw6_225 us4_4 uw1_13 uw6_226 rfl rfl dd_X12_fails ⟨Nat.le_of_ble_eq_true rfl, Nat.le_of_ble_eq_true rfl⟩ rfl (Nat.le_of_ble_eq_true rfl) dX12_readsTune_85 rfl (fun x24 m23 h => ?_)
        exact r_zret2 X rfl dX12_readsTune_88 h
    · refine r_aload_n X dX12_readsTune_68 rfl 0 rfl ?_
      refine r_iconst (v := (1)) X dX12_readsTune_69 (by decide) ?_
      refine r_cVI (As := [.int ((1))]) (rest := []) X (fun r9 m9 hg => k_X12_fails hg) h (Lm_N Lmk_0 rfl) Lmk_0 rfl (by decide) uw6_223 uw6_225 us4_4 uw1_13 uw6_226 rfl rfl dd_X12_fails ⟨Nat.le_of_ble_eq_true rfl, Nat.le_of_ble_eq_true rfl⟩ rfl (Nat.le_of_ble_eq_true rfl) dX12_readsTune_70 rfl (fun x26 m25 h => ?_)
      exact r_zret2 X rfl dX12_readsTune_73 h
  have hJ42 : ∀ (k42 : Int32 → Mm → Option (Int32 × Mm)) (hk42 : ∀ (x8 : Int32) (m9 : Mm), k42 x8 m9 = some (r2, mem2) → Jd p l e ({ frames := 3, cells := 0, slots := 0, locals := 62 }) s m args below meth c 2 (MQ below (PsI Lm ad cy dC dI r2 mem2 A) args s 0 0 A) A dC dI cy Lm ad m9 42 [(0, .ref (ad (0))), (1, .int (x8))] []) (x8 : Int32) (m9 : Mm), f_X12_readsTune_B42 k42 x8 m9 = some (r2, mem2) → Jd p l e ({ frames := 3, cells := 0, slots := 0, locals := 62 }) s m args below meth c 2 (MQ below (PsI Lm ad cy dC dI r2 mem2 A) args s 0 0 A) A dC dI cy Lm ad m9 42 [(0, .ref (ad (0))), (1, .int (x8))] [] := by
    intro k42 hk42 x8 m9 h
    unfold f_X12_readsTune_B42 at h
    refine r_aload_n X dX12_readsTune_42 rfl 0 rfl ?_
    refine r_getF X (k := 14) (of := 6) rfl (Lm_N Lmk_0 rfl) Lmk_0 rfl (by decide) ui_12 (by decide) uw5_234 rfl dX12_readsTune_43 ?_
    refine r_iload_n X dX12_readsTune_46 rfl 1 rfl ?_
    refine r_iald X (Lm_N Lmk_6 rfl) Lmk_6 h dX12_readsTune_47 (fun h => ?_)
    refine r_if_eq (tgt := 60) X dX12_readsTune_48 (by decide) h (fun h => ?_) (fun h => ?_)
    · exact r_sub [0, 1] rfl (hJ60 k42 hk42 x8 m9 h)
    · refine r_aload_n X dX12_readsTune_51 rfl 0 rfl ?_
      refine r_bipush (v := (59)) X dX12_readsTune_52 (by decide) ?_
      refine r_cVI (As := [.int ((59))]) (rest := []) X (fun r9 m9 hg => k_X12_isSign hg) h (Lm_N Lmk_0 rfl) Lmk_0 rfl (by decide) uw7_25 uw7_27 us4_9 uw1_13 uw7_28 rfl rfl dd_X12_isSign ⟨Nat.le_of_ble_eq_true rfl, Nat.le_of_ble_eq_true rfl⟩ rfl (Nat.le_of_ble_eq_true rfl) dX12_readsTune_54 rfl (fun x11 m10 h => ?_)
      refine r_if_ne (tgt := 143) X dX12_readsTune_57 (by decide) h (fun h => ?_) (fun h => ?_)
      · refine r_aload_n X dX12_readsTune_143 rfl 0 rfl ?_
        refine r_getF X (k := 11) (of := 3) rfl (Lm_N Lmk_0 rfl) Lmk_0 rfl (by decide) ui_12 (by decide) uw5_231 rfl dX12_readsTune_144 ?_
        refine r_iload_n X dX12_readsTune_147 rfl 1 rfl ?_
        refine r_aload_n X dX12_readsTune_148 rfl 0 rfl ?_
        refine r_getJ X (k := 40) (Lm_N Lmk_0 rfl) Lmk_0 rfl (by decide) ui_12 (by decide) uw6_20 rfl dX12_readsTune_149 ?_
        refine r_last X (Lm_N Lmk_3 rfl) Lmk_3 h dX12_readsTune_152 (fun h => ?_)
        refine r_nmM h (fun m12 h => ?_)
        refine r_aload_n X dX12_readsTune_153 rfl 0 rfl ?_
        refine r_getF X (k := 10) (of := 2) rfl (Lm_N Lmk_0 rfl) Lmk_0 rfl (by decide) ui_12 (by decide) uw5_230 rfl dX12_readsTune_154 ?_
        refine r_bipush (v := (7)) X dX12_readsTune_157 (by decide) ?_
        refine r_dup2 X dX12_readsTune_159 rfl rfl ?_
        refine r_iald X (Lm_N Lmk_2 rfl) Lmk_2 (g_in rfl h) dX12_readsTune_160 (fun h => ?_)
        refine r_iconst (v := (1)) X dX12_readsTune_161 (by decide) ?_
        refine r_iadd X dX12_readsTune_162 ?_
        refine r_iast X (Lm_N Lmk_2 rfl) Lmk_2 (g_in rfl h) dX12_readsTune_163 (fun h => ?_)
        refine r_nmM h (fun m13 h => ?_)
        refine r_aload_n X dX12_readsTune_164 rfl 0 rfl ?_
        refine r_cVI (As := []) (rest := []) X (fun r9 m9 hg => k_X12_closes hg) h (Lm_N Lmk_0 rfl) Lmk_0 rfl (by decide) uw7_29 uw7_31 us4_10 uw1_13 uw7_32 rfl rfl dd_X12_closes ⟨Nat.le_of_ble_eq_true rfl, Nat.le_of_ble_eq_true rfl⟩ rfl (Nat.le_of_ble_eq_true rfl) dX12_readsTune_165 rfl (fun x15 m14 h => ?_)
        exact r_zret2 X rfl dX12_readsTune_168 h
      · exact r_sub [0, 1] rfl (hJ60 k42 hk42 x8 m10 h)
  have hL42 : ∀ (n : Nat), ∀ (x8 : Int32) (m9 : Mm), lop (fun _ _ => none) (f_X12_readsTune_B42 ) n x8 m9 = some (r2, mem2) → Jd p l e ({ frames := 3, cells := 0, slots := 0, locals := 62 }) s m args below meth c 2 (MQ below (PsI Lm ad cy dC dI r2 mem2 A) args s 0 0 A) A dC dI cy Lm ad m9 42 [(0, .ref (ad (0))), (1, .int (x8))] [] := by
    intro  n
    induction n with
    | zero => intro _ _ h; cases h
    | succ n ih => intro a0 a1 h; exact hJ42  _ ih a0 a1 h
  unfold f_X12_readsTune at h
  refine r_iconst (v := (5)) X dX12_readsTune_0 (by decide) ?_
  refine r_aload_n X dX12_readsTune_1 rfl 0 rfl ?_
  refine r_getF X (k := 10) (of := 2) rfl (Lm_N Lmk_0 rfl) Lmk_0 rfl (by decide) ui_12 (by decide) uw5_230 rfl dX12_readsTune_2 ?_
  refine r_bipush (v := (7)) X dX12_readsTune_5 (by decide) ?_
  refine r_iald X (Lm_N Lmk_2 rfl) Lmk_2 (g_in rfl h) dX12_readsTune_7 (fun h => ?_)
  refine r_iadd X dX12_readsTune_8 ?_
  refine r_nmI h (fun x1 h => ?_)
  refine r_istore_n (lv2 := [(1, .int (x1)), (0, .ref (ad (0)))]) X dX12_readsTune_9 rfl (by decide) rfl ?_
  refine r_iload_n X dX12_readsTune_10 rfl 0 rfl ?_
  refine r_bipush (v := (10)) X dX12_readsTune_11 (by decide) ?_
  refine r_icmp_ne (tgt := 22) X dX12_readsTune_13 (by decide) h (fun h => ?_) (fun h => ?_)
  · refine r_aload_n X dX12_readsTune_22 rfl 1 rfl ?_
    refine r_cVV (As := []) (rest := []) X (fun m9 hg => k_X12_nextToken hg) h (Lm_N Lmk_0 rfl) Lmk_0 rfl (by decide) uw6_204 uw6_206 us4_0 uw1_13 uw6_207 rfl rfl dd_X12_nextToken ⟨Nat.le_of_ble_eq_true rfl, Nat.le_of_ble_eq_true rfl⟩ rfl (Nat.le_of_ble_eq_true rfl) dX12_readsTune_23 rfl (fun m2 h => ?_)
    refine r_aload_n X dX12_readsTune_26 rfl 1 rfl ?_
    refine r_cVI (As := []) (rest := []) X (fun r9 m9 hg => k_X12_needsNew hg) h (Lm_N Lmk_0 rfl) Lmk_0 rfl (by decide) uw6_227 uw6_229 us4_5 uw1_13 uw6_230 rfl rfl dd_X12_needsNew ⟨Nat.le_of_ble_eq_true rfl, Nat.le_of_ble_eq_true rfl⟩ rfl (Nat.le_of_ble_eq_true rfl) dX12_readsTune_27 rfl (fun x4 m3 h => ?_)
    refine r_if_ne (tgt := 35) X dX12_readsTune_30 (by decide) h (fun h => ?_) (fun h => ?_)
    · refine r_aload_n X dX12_readsTune_35 rfl 1 rfl ?_
      refine r_getF X (k := 14) (of := 6) rfl (Lm_N Lmk_0 rfl) Lmk_0 rfl (by decide) ui_12 (by decide) uw5_234 rfl dX12_readsTune_36 ?_
      refine r_iload_n X dX12_readsTune_39 rfl 0 rfl ?_
      refine r_iconst (v := (0)) X dX12_readsTune_40 (by decide) ?_
      refine r_iast X (Lm_N Lmk_6 rfl) Lmk_6 h dX12_readsTune_41 (fun h => ?_)
      refine r_nmM h (fun m5 h => ?_)
      exact r_sub [1, 0] rfl (hL42 4000 x1 m5 h)
    · refine r_iconst (v := (0)) X dX12_readsTune_33 (by decide) ?_
      exact r_zret2 X rfl dX12_readsTune_34 h
  · refine r_aload_n X dX12_readsTune_16 rfl 1 rfl ?_
    refine r_iconst (v := (5)) X dX12_readsTune_17 (by decide) ?_
    refine r_cVI (As := [.int ((5))]) (rest := []) X (fun r9 m9 hg => k_X12_fails hg) h (Lm_N Lmk_0 rfl) Lmk_0 rfl (by decide) uw6_223 uw6_225 us4_4 uw1_13 uw6_226 rfl rfl dd_X12_fails ⟨Nat.le_of_ble_eq_true rfl, Nat.le_of_ble_eq_true rfl⟩ rfl (Nat.le_of_ble_eq_true rfl) dX12_readsTune_18 rfl (fun x7 m6 h => ?_)
    exact r_zret2 X rfl dX12_readsTune_21 h
noncomputable def f_X12_readsPasser_J103 (x16 : Int32) (x17 : Int64) (x18 : Int32) (x19 : Int32) (m20 : Mm) : Option (Int32 × Mm) :=
  grd (inb x19 14) (bnd (sI m20 7 x19.toNatClampNeg x18) fun m21 => grd (inb x16 14) (if 0 ≤ (gI m21 7 x16.toNatClampNeg) then (bdV (f_X12_nextToken  m21) fun m22 => bdI (f_X12_needsWord ((8740675)) m22) fun x24 m23 => if ¬ x24 = 0 then (bdI (f_X12_isKept  m23) fun x26 m25 => if x26 = 0 then (bdI (f_X12_tuneNamed  m25) fun x28 m27 => grd (inb x16 14) (bnd (sI m27 8 x16.toNatClampNeg x28) fun m29 => grd (inb x16 14) (if 0 ≤ (gI m29 8 x16.toNatClampNeg) then (bdV (f_X12_nextToken  m29) fun m30 => bdI (f_X12_needsBoth ((10320789)) ((0)) ((9)) m30) fun x32 m31 => if ¬ x32 = 0 then (grd (inb x16 14) (bnd (sI m31 9 x16.toNatClampNeg (gI m31 0 39)) fun m33 => bdI (f_X12_needsBoth ((14092)) ((0)) ((9)) m33) fun x35 m34 => if ¬ x35 = 0 then (grd (inb x16 14) (bnd (sI m34 10 x16.toNatClampNeg (gI m34 0 39)) fun m36 => bdI (f_X12_needsBoth ((10492462)) ((1)) ((30)) m36) fun x38 m37 => if ¬ x38 = 0 then (grd (inb x16 14) (bnd (sI m37 11 x16.toNatClampNeg (gI m37 0 39)) fun m39 => bdI (f_X12_needsBoth ((1899199)) ((0)) ((59)) m39) fun x41 m40 => if ¬ x41 = 0 then (grd (inb x16 14) (bnd (sI m40 12 x16.toNatClampNeg (gI m40 0 39)) fun m42 => grd (inb x16 14) (bnd (sJ m42 4 x16.toNatClampNeg x17) fun m43 => bnd (sI m43 2 8 ((gI m43 2 8) + ((1)))) fun m44 => bdI (f_X12_closes  m44) fun x46 m45 => grd (bok x46) (some (x46, m45))))) else (grd (bok ((0))) (some ((0), m40))))) else (grd (bok ((0))) (some ((0), m37))))) else (grd (bok ((0))) (some ((0), m34))))) else (grd (bok ((0))) (some ((0), m31)))) else (bdI (f_X12_fails ((2)) m29) fun x48 m47 => grd (bok x48) (some (x48, m47)))))) else (bdI (f_X12_fails ((1)) m25) fun x50 m49 => grd (bok x50) (some (x50, m49)))) else (grd (bok ((0))) (some ((0), m23)))) else (bdI (f_X12_fails ((1)) m21) fun x52 m51 => grd (bok x52) (some (x52, m51)))))
noncomputable def f_X12_readsPasser  (mem : Mm) : Option (Int32 × Mm) :=
  bnd (((7)) + (gI mem 2 8)) fun x1 => if ¬ x1 = ((14)) then (bdV (f_X12_nextToken  mem) fun m2 => bdI (f_X12_needsNew  m2) fun x4 m3 => if ¬ x4 = 0 then (bnd (gJ m3 0 40) fun x5 => bdI (f_X12_isWord ((8740238)) m3) fun x7 m6 => if x7 = 0 then (bdI (f_X12_isWord ((91157229)) m6) fun x9 m8 => if x9 = 0 then (bdI (f_X12_isWord ((2495756)) m8) fun x11 m10 => if x11 = 0 then (bdI (f_X12_isWord ((72640629)) m10) fun x13 m12 => if x13 = 0 then (f_X12_readsPasser_J103 x1 x5 ((-1)) x1 m12) else (f_X12_readsPasser_J103 x1 x5 ((3)) x1 m12)) else (f_X12_readsPasser_J103 x1 x5 ((2)) x1 m10)) else (f_X12_readsPasser_J103 x1 x5 ((1)) x1 m8)) else (f_X12_readsPasser_J103 x1 x5 ((0)) x1 m6)) else (grd (bok ((0))) (some ((0), m3)))) else (bdI (f_X12_fails ((5)) mem) fun x15 m14 => grd (bok x15) (some (x15, m14)))
theorem dd_X12_readsPasser : yX12_readsPasser.cls = RX12 ∧ yX12_readsPasser.cls ≠ "java/lang/invoke/MethodHandle" ∧ yX12_readsPasser.cls ≠ "java/lang/invoke/VarHandle" ∧ (parseMethodDescriptor yX12_readsPasser.desc).map (fun d => d.parameters.length) = some 0 := by decide +kernel
set_option maxHeartbeats 4000000 in
set_option maxRecDepth 100000 in
theorem k_X12_readsPasser {l : Launch} {ad : Nat → Nat} {cy : Nat → ClassId} {dC : Nat → ClassId} {dI : Nat → Nat → Nat} {ks : (Nat → Nat) × (Nat → Nat)}  {mem : Mm} {r2 : Int32} {mem2 : Mm}  (h : f_X12_readsPasser  mem = some (r2, mem2)) : CtI l Lm ad cy dC dI ks yX12_readsPasser cX12_readsPasser 4 (some .boolean) ({ frames := 4, cells := 0, slots := 0, locals := 88 }) [.ref (ad (0))] mem r2 mem2 := by
  refine CtI.of (cc := cX12_readsPasser) (maxL := 4) (ret := (some .boolean)) (own := RX12) rfl (by decide) (Nat.le_of_ble_eq_true rfl) ?_
  intro p e s m args below meth c A X
  have hts := X.2.2.2.2.1
  have hJ103 : ∀ (x16 : Int32) (x17 : Int64) (x18 : Int32) (x19 : Int32) (m20 : Mm), f_X12_readsPasser_J103 x16 x17 x18 x19 m20 = some (r2, mem2) → Jd p l e ({ frames := 4, cells := 0, slots := 0, locals := 88 }) s m args below meth c 4 (MQ below (PsI Lm ad cy dC dI r2 mem2 A) args s 0 0 A) A dC dI cy Lm ad m20 103 [(0, .ref (ad (0))), (1, .int (x16)), (2, .long (x17))] [.int (x18), .int (x19), .ref (ad (7))] := by
    intro x16 x17 x18 x19 m20 h
    unfold f_X12_readsPasser_J103 at h
    refine r_iast X (Lm_N Lmk_7 rfl) Lmk_7 h dX12_readsPasser_103 (fun h => ?_)
    refine r_nmM h (fun m21 h => ?_)
    refine r_aload_n X dX12_readsPasser_104 rfl 0 rfl ?_
    refine r_getF X (k := 15) (of := 7) rfl (Lm_N Lmk_0 rfl) Lmk_0 rfl (by decide) ui_12 (by decide) uw5_235 rfl dX12_readsPasser_105 ?_
    refine r_iload_n X dX12_readsPasser_108 rfl 1 rfl ?_
    refine r_iald X (Lm_N Lmk_7 rfl) Lmk_7 h dX12_readsPasser_109 (fun h => ?_)
    refine r_if_ge (tgt := 119) X dX12_readsPasser_110 (by decide) h (fun h => ?_) (fun h => ?_)
    · refine r_aload_n X dX12_readsPasser_119 rfl 0 rfl ?_
      refine r_cVV (As := []) (rest := []) X (fun m9 hg => k_X12_nextToken hg) h (Lm_N Lmk_0 rfl) Lmk_0 rfl (by decide) uw6_204 uw6_206 us4_0 uw1_13 uw6_207 rfl rfl dd_X12_nextToken ⟨Nat.le_of_ble_eq_true rfl, Nat.le_of_ble_eq_true rfl⟩ rfl (Nat.le_of_ble_eq_true rfl) dX12_readsPasser_120 rfl (fun m22 h => ?_)
      refine r_aload_n X dX12_readsPasser_123 rfl 0 rfl ?_
      refine r_ldc2 (v := 8740675) X dX12_readsPasser_124 uw6_236 ?_
      refine r_cVI (As := [.long ((8740675))]) (rest := []) X (fun r9 m9 hg => k_X12_needsWord hg) h (Lm_N Lmk_0 rfl) Lmk_0 rfl (by decide) uw7_37 uw7_39 us4_12 uw1_13 uw7_40 rfl rfl dd_X12_needsWord ⟨Nat.le_of_ble_eq_true rfl, Nat.le_of_ble_eq_true rfl⟩ rfl (Nat.le_of_ble_eq_true rfl) dX12_readsPasser_127 rfl (fun x24 m23 h => ?_)
      refine r_if_ne (tgt := 135) X dX12_readsPasser_130 (by decide) h (fun h => ?_) (fun h => ?_)
      · refine r_aload_n X dX12_readsPasser_135 rfl 0 rfl ?_
        refine r_cVI (As := []) (rest := []) X (fun r9 m9 hg => k_X12_isKept hg) h (Lm_N Lmk_0 rfl) Lmk_0 rfl (by decide) uw6_231 uw6_233 us4_6 uw1_13 uw6_234 rfl rfl dd_X12_isKept ⟨Nat.le_of_ble_eq_true rfl, Nat.le_of_ble_eq_true rfl⟩ rfl (Nat.le_of_ble_eq_true rfl) dX12_readsPasser_136 rfl (fun x26 m25 h => ?_)
        refine r_if_eq (tgt := 148) X dX12_readsPasser_139 (by decide) h (fun h => ?_) (fun h => ?_)
        · refine r_aload_n X dX12_readsPasser_148 rfl 0 rfl ?_
          refine r_getF X (k := 16) (of := 8) rfl (Lm_N Lmk_0 rfl) Lmk_0 rfl (by decide) ui_12 (by decide) uw5_236 rfl dX12_readsPasser_149 ?_
          refine r_iload_n X dX12_readsPasser_152 rfl 1 rfl ?_
          refine r_aload_n X dX12_readsPasser_153 rfl 0 rfl ?_
          refine r_cVI (As := []) (rest := [.int (x16), .ref (ad (8))]) X (fun r9 m9 hg => k_X12_tuneNamed hg) h (Lm_N Lmk_0 rfl) Lmk_0 rfl (by decide) uw7_17 uw7_19 us4_7 uw1_13 uw7_20 rfl rfl dd_X12_tuneNamed ⟨Nat.le_of_ble_eq_true rfl, Nat.le_of_ble_eq_true rfl⟩ rfl (Nat.le_of_ble_eq_true rfl) dX12_readsPasser_154 rfl (fun x28 m27 h => ?_)
          refine r_iast X (Lm_N Lmk_8 rfl) Lmk_8 h dX12_readsPasser_157 (fun h => ?_)
          refine r_nmM h (fun m29 h => ?_)
          refine r_aload_n X dX12_readsPasser_158 rfl 0 rfl ?_
          refine r_getF X (k := 16) (of := 8) rfl (Lm_N Lmk_0 rfl) Lmk_0 rfl (by decide) ui_12 (by decide) uw5_236 rfl dX12_readsPasser_159 ?_
          refine r_iload_n X dX12_readsPasser_162 rfl 1 rfl ?_
          refine r_iald X (Lm_N Lmk_8 rfl) Lmk_8 h dX12_readsPasser_163 (fun h => ?_)
          refine r_if_ge (tgt := 173) X dX12_readsPasser_164 (by decide) h (fun h => ?_) (fun h => ?_)
          · refine r_aload_n X dX12_readsPasser_173 rfl 0 rfl ?_
            refine r_cVV (As := []) (rest := []) X (fun m9 hg => k_X12_nextToken hg) h (Lm_N Lmk_0 rfl) Lmk_0 rfl (by decide) uw6_204 uw6_206 us4_0 uw1_13 uw6_207 rfl rfl dd_X12_nextToken ⟨Nat.le_of_ble_eq_true rfl, Nat.le_of_ble_eq_true rfl⟩ rfl (Nat.le_of_ble_eq_true rfl) dX12_readsPasser_174 rfl (fun m30 h => ?_)
            refine r_aload_n X dX12_readsPasser_177 rfl 0 rfl ?_
            refine r_ldc2 (v := 10320789) X dX12_readsPasser_178 uw6_237 ?_
            refine r_iconst (v := (0)) X dX12_readsPasser_181 (by decide) ?_
            refine r_bipush (v := (9)) X dX12_readsPasser_182 (by decide) ?_
            refine r_cVI (As := [.long ((10320789)), .int ((0)), .int ((9))]) (rest := []) X (fun r9 m9 hg => k_X12_needsBoth hg) h (Lm_N Lmk_0 rfl) Lmk_0 rfl (by decide) uw7_41 uw7_43 us4_13 uw1_13 uw7_44 rfl rfl dd_X12_needsBoth ⟨Nat.le_of_ble_eq_true rfl, Nat.le_of_ble_eq_true rfl⟩ rfl (Nat.le_of_ble_eq_true rfl) dX12_readsPasser_184 rfl (fun x32 m31 h => ?_)
            refine r_if_ne (tgt := 192) X dX12_readsPasser_187 (by decide) h (fun h => ?_) (fun h => ?_)
            · refine r_aload_n X dX12_readsPasser_192 rfl 0 rfl ?_
              refine r_getF X (k := 17) (of := 9) rfl (Lm_N Lmk_0 rfl) Lmk_0 rfl (by decide) ui_12 (by decide) uw5_237 rfl dX12_readsPasser_193 ?_
              refine r_iload_n X dX12_readsPasser_196 rfl 1 rfl ?_
              refine r_aload_n X dX12_readsPasser_197 rfl 0 rfl ?_
              refine r_getI X (k := 39) (Lm_N Lmk_0 rfl) Lmk_0 rfl (by decide) ui_12 (by decide) uw6_19 rfl dX12_readsPasser_198 ?_
              refine r_iast X (Lm_N Lmk_9 rfl) Lmk_9 h dX12_readsPasser_201 (fun h => ?_)
              refine r_nmM h (fun m33 h => ?_)
              refine r_aload_n X dX12_readsPasser_202 rfl 0 rfl ?_
              refine r_ldc2 (v := 14092) X dX12_readsPasser_203 uw6_238 ?_
              refine r_iconst (v := (0)) X dX12_readsPasser_206 (by decide) ?_
              refine r_bipush (v := (9)) X dX12_readsPasser_207 (by decide) ?_
              refine r_cVI (As := [.long ((14092)), .int ((0)), .int ((9))]) (rest := []) X (fun r9 m9 hg => k_X12_needsBoth hg) h (Lm_N Lmk_0 rfl) Lmk_0 rfl (by decide) uw7_41 uw7_43 us4_13 uw1_13 uw7_44 rfl rfl dd_X12_needsBoth ⟨Nat.le_of_ble_eq_true rfl, Nat.le_of_ble_eq_true rfl⟩ rfl (Nat.le_of_ble_eq_true rfl) dX12_readsPasser_209 rfl (fun x35 m34 h => ?_)
              refine r_if_ne (tgt := 217) X dX12_readsPasser_212 (by decide) h (fun h => ?_) (fun h => ?_)
              · refine r_aload_n X dX12_readsPasser_217 rfl 0 rfl ?_
                refine r_getF X (k := 18) (of := 10) rfl (Lm_N Lmk_0 rfl) Lmk_0 rfl (by decide) ui_12 (by decide) uw5_238 rfl dX12_readsPasser_218 ?_
                refine r_iload_n X dX12_readsPasser_221 rfl 1 rfl ?_
                refine r_aload_n X dX12_readsPasser_222 rfl 0 rfl ?_
                refine r_getI X (k := 39) (Lm_N Lmk_0 rfl) Lmk_0 rfl (by decide) ui_12 (by decide) uw6_19 rfl dX12_readsPasser_223 ?_
                refine r_iast X (Lm_N Lmk_10 rfl) Lmk_10 h dX12_readsPasser_226 (fun h => ?_)
                refine r_nmM h (fun m36 h => ?_)
                refine r_aload_n X dX12_readsPasser_227 rfl 0 rfl ?_
                refine r_ldc2 (v := 10492462) X dX12_readsPasser_228 uw6_239 ?_
                refine r_iconst (v := (1)) X dX12_readsPasser_231 (by decide) ?_
                refine r_bipush (v := (30)) X dX12_readsPasser_232 (by decide) ?_
                refine r_cVI (As := [.long ((10492462)), .int ((1)), .int ((30))]) (rest := []) X (fun r9 m9 hg => k_X12_needsBoth hg) h (Lm_N Lmk_0 rfl) Lmk_0 rfl (by decide) uw7_41 uw7_43 us4_13 uw1_13 uw7_44 rfl rfl dd_X12_needsBoth ⟨Nat.le_of_ble_eq_true rfl, Nat.le_of_ble_eq_true rfl⟩ rfl (Nat.le_of_ble_eq_true rfl) dX12_readsPasser_234 rfl (fun x38 m37 h => ?_)
                refine r_if_ne (tgt := 242) X dX12_readsPasser_237 (by decide) h (fun h => ?_) (fun h => ?_)
                · refine r_aload_n X dX12_readsPasser_242 rfl 0 rfl ?_
                  refine r_getF X (k := 19) (of := 11) rfl (Lm_N Lmk_0 rfl) Lmk_0 rfl (by decide) ui_12 (by decide) uw5_239 rfl dX12_readsPasser_243 ?_
                  refine r_iload_n X dX12_readsPasser_246 rfl 1 rfl ?_
                  refine r_aload_n X dX12_readsPasser_247 rfl 0 rfl ?_
                  refine r_getI X (k := 39) (Lm_N Lmk_0 rfl) Lmk_0 rfl (by decide) ui_12 (by decide) uw6_19 rfl dX12_readsPasser_248 ?_
                  refine r_iast X (Lm_N Lmk_11 rfl) Lmk_11 h dX12_readsPasser_251 (fun h => ?_)
                  refine r_nmM h (fun m39 h => ?_)
                  refine r_aload_n X dX12_readsPasser_252 rfl 0 rfl ?_
                  refine r_ldc2 (v := 1899199) X dX12_readsPasser_253 uw7_0 ?_
                  refine r_iconst (v := (0)) X dX12_readsPasser_256 (by decide) ?_
                  refine r_bipush (v := (59)) X dX12_readsPasser_257 (by decide) ?_
                  refine r_cVI (As := [.long ((1899199)), .int ((0)), .int ((59))]) (rest := []) X (fun r9 m9 hg => k_X12_needsBoth hg) h (Lm_N Lmk_0 rfl) Lmk_0 rfl (by decide) uw7_41 uw7_43 us4_13 uw1_13 uw7_44 rfl rfl dd_X12_needsBoth ⟨Nat.le_of_ble_eq_true rfl, Nat.le_of_ble_eq_true rfl⟩ rfl (Nat.le_of_ble_eq_true rfl) dX12_readsPasser_259 rfl (fun x41 m40 h => ?_)
                  refine r_if_ne (tgt := 267) X dX12_readsPasser_262 (by decide) h (fun h => ?_) (fun h => ?_)
                  · refine r_aload_n X dX12_readsPasser_267 rfl 0 rfl ?_
                    refine r_getF X (k := 20) (of := 12) rfl (Lm_N Lmk_0 rfl) Lmk_0 rfl (by decide) ui_12 (by decide) uw6_0 rfl dX12_readsPasser_268 ?_
                    refine r_iload_n X dX12_readsPasser_271 rfl 1 rfl ?_
                    refine r_aload_n X dX12_readsPasser_272 rfl 0 rfl ?_
                    refine r_getI X (k := 39) (Lm_N Lmk_0 rfl) Lmk_0 rfl (by decide) ui_12 (by decide) uw6_19 rfl dX12_readsPasser_273 ?_
                    refine r_iast X (Lm_N Lmk_12 rfl) Lmk_12 h dX12_readsPasser_276 (fun h => ?_)
                    refine r_nmM h (fun m42 h => ?_)
                    refine r_aload_n X dX12_readsPasser_277 rfl 0 rfl ?_
                    refine r_getF X (k := 12) (of := 4) rfl (Lm_N Lmk_0 rfl) Lmk_0 rfl (by decide) ui_12 (by decide) uw5_232 rfl dX12_readsPasser_278 ?_
                    refine r_iload_n X dX12_readsPasser_281 rfl 1 rfl ?_
                    refine r_lload_n X dX12_readsPasser_282 rfl 2 rfl ?_
                    refine r_last X (Lm_N Lmk_4 rfl) Lmk_4 h dX12_readsPasser_283 (fun h => ?_)
                    refine r_nmM h (fun m43 h => ?_)
                    refine r_aload_n X dX12_readsPasser_284 rfl 0 rfl ?_
                    refine r_getF X (k := 10) (of := 2) rfl (Lm_N Lmk_0 rfl) Lmk_0 rfl (by decide) ui_12 (by decide) uw5_230 rfl dX12_readsPasser_285 ?_
                    refine r_bipush (v := (8)) X dX12_readsPasser_288 (by decide) ?_
                    refine r_dup2 X dX12_readsPasser_290 rfl rfl ?_
                    refine r_iald X (Lm_N Lmk_2 rfl) Lmk_2 (g_in rfl h) dX12_readsPasser_291 (fun h => ?_)
                    refine r_iconst (v := (1)) X dX12_readsPasser_292 (by decide) ?_
                    refine r_iadd X dX12_readsPasser_293 ?_
                    refine r_iast X (Lm_N Lmk_2 rfl) Lmk_2 (g_in rfl h) dX12_readsPasser_294 (fun h => ?_)
                    refine r_nmM h (fun m44 h => ?_)
                    refine r_aload_n X dX12_readsPasser_295 rfl 0 rfl ?_
                    refine r_cVI (As := []) (rest := []) X (fun r9 m9 hg => k_X12_closes hg) h (Lm_N Lmk_0 rfl) Lmk_0 rfl (by decide) uw7_29 uw7_31 us4_10 uw1_13 uw7_32 rfl rfl dd_X12_closes ⟨Nat.le_of_ble_eq_true rfl, Nat.le_of_ble_eq_true rfl⟩ rfl (Nat.le_of_ble_eq_true rfl) dX12_readsPasser_296 rfl (fun x46 m45 h => ?_)
                    exact r_zret2 X rfl dX12_readsPasser_299 h
                  · refine r_iconst (v := (0)) X dX12_readsPasser_265 (by decide) ?_
                    exact r_zret2 X rfl dX12_readsPasser_266 h
                · refine r_iconst (v := (0)) X dX12_readsPasser_240 (by decide) ?_
                  exact r_zret2 X rfl dX12_readsPasser_241 h
              · refine r_iconst (v := (0)) X dX12_readsPasser_215 (by decide) ?_
                exact r_zret2 X rfl dX12_readsPasser_216 h
            · refine r_iconst (v := (0)) X dX12_readsPasser_190 (by decide) ?_
              exact r_zret2 X rfl dX12_readsPasser_191 h
          · refine r_aload_n X dX12_readsPasser_167 rfl 0 rfl ?_
            refine r_iconst (v := (2)) X dX12_readsPasser_168 (by decide) ?_
            refine r_cVI (As := [.int ((2))]) (rest := []) X (fun r9 m9 hg => k_X12_fails hg) h (Lm_N Lmk_0 rfl) Lmk_0 rfl (by decide) uw6_223 uw6_225 us4_4 uw1_13 uw6_226 rfl rfl dd_X12_fails ⟨Nat.le_of_ble_eq_true rfl, Nat.le_of_ble_eq_true rfl⟩ rfl (Nat.le_of_ble_eq_true rfl) dX12_readsPasser_169 rfl (fun x48 m47 h => ?_)
            exact r_zret2 X rfl dX12_readsPasser_172 h
        · refine r_aload_n X dX12_readsPasser_142 rfl 0 rfl ?_
          refine r_iconst (v := (1)) X dX12_readsPasser_143 (by decide) ?_
          refine r_cVI (As := [.int ((1))]) (rest := []) X (fun r9 m9 hg => k_X12_fails hg) h (Lm_N Lmk_0 rfl) Lmk_0 rfl (by decide) uw6_223 uw6_225 us4_4 uw1_13 uw6_226 rfl rfl dd_X12_fails ⟨Nat.le_of_ble_eq_true rfl, Nat.le_of_ble_eq_true rfl⟩ rfl (Nat.le_of_ble_eq_true rfl) dX12_readsPasser_144 rfl (fun x50 m49 h => ?_)
          exact r_zret2 X rfl dX12_readsPasser_147 h
      · refine r_iconst (v := (0)) X dX12_readsPasser_133 (by decide) ?_
        exact r_zret2 X rfl dX12_readsPasser_134 h
    · refine r_aload_n X dX12_readsPasser_113 rfl 0 rfl ?_
      refine r_iconst (v := (1)) X dX12_readsPasser_114 (by decide) ?_
      refine r_cVI (As := [.int ((1))]) (rest := []) X (fun r9 m9 hg => k_X12_fails hg) h (Lm_N Lmk_0 rfl) Lmk_0 rfl (by decide) uw6_223 uw6_225 us4_4 uw1_13 uw6_226 rfl rfl dd_X12_fails ⟨Nat.le_of_ble_eq_true rfl, Nat.le_of_ble_eq_true rfl⟩ rfl (Nat.le_of_ble_eq_true rfl) dX12_readsPasser_115 rfl (fun x52 m51 h => ?_)
      exact r_zret2 X rfl dX12_readsPasser_118 h
  unfold f_X12_readsPasser at h
  refine r_bipush (v := (7)) X dX12_readsPasser_0 (by decide) ?_
  refine r_aload_n X dX12_readsPasser_2 rfl 0 rfl ?_
  refine r_getF X (k := 10) (of := 2) rfl (Lm_N Lmk_0 rfl) Lmk_0 rfl (by decide) ui_12 (by decide) uw5_230 rfl dX12_readsPasser_3 ?_
  refine r_bipush (v := (8)) X dX12_readsPasser_6 (by decide) ?_
  refine r_iald X (Lm_N Lmk_2 rfl) Lmk_2 (g_in rfl h) dX12_readsPasser_8 (fun h => ?_)
  refine r_iadd X dX12_readsPasser_9 ?_
  refine r_nmI h (fun x1 h => ?_)
  refine r_istore_n (lv2 := [(1, .int (x1)), (0, .ref (ad (0)))]) X dX12_readsPasser_10 rfl (by decide) rfl ?_
  refine r_iload_n X dX12_readsPasser_11 rfl 0 rfl ?_
  refine r_bipush (v := (14)) X dX12_readsPasser_12 (by decide) ?_
  refine r_icmp_ne (tgt := 23) X dX12_readsPasser_14 (by decide) h (fun h => ?_) (fun h => ?_)
  · refine r_aload_n X dX12_readsPasser_23 rfl 1 rfl ?_
    refine r_cVV (As := []) (rest := []) X (fun m9 hg => k_X12_nextToken hg) h (Lm_N Lmk_0 rfl) Lmk_0 rfl (by decide) uw6_204 uw6_206 us4_0 uw1_13 uw6_207 rfl rfl dd_X12_nextToken ⟨Nat.le_of_ble_eq_true rfl, Nat.le_of_ble_eq_true rfl⟩ rfl (Nat.le_of_ble_eq_true rfl) dX12_readsPasser_24 rfl (fun m2 h => ?_)
    refine r_aload_n X dX12_readsPasser_27 rfl 1 rfl ?_
    refine r_cVI (As := []) (rest := []) X (fun r9 m9 hg => k_X12_needsNew hg) h (Lm_N Lmk_0 rfl) Lmk_0 rfl (by decide) uw6_227 uw6_229 us4_5 uw1_13 uw6_230 rfl rfl dd_X12_needsNew ⟨Nat.le_of_ble_eq_true rfl, Nat.le_of_ble_eq_true rfl⟩ rfl (Nat.le_of_ble_eq_true rfl) dX12_readsPasser_28 rfl (fun x4 m3 h => ?_)
    refine r_if_ne (tgt := 36) X dX12_readsPasser_31 (by decide) h (fun h => ?_) (fun h => ?_)
    · refine r_aload_n X dX12_readsPasser_36 rfl 1 rfl ?_
      refine r_getJ X (k := 40) (Lm_N Lmk_0 rfl) Lmk_0 rfl (by decide) ui_12 (by decide) uw6_20 rfl dX12_readsPasser_37 ?_
      refine r_nmJ h (fun x5 h => ?_)
      refine r_lstore_n (lv2 := [(2, .long (x5)), (1, .int (x1)), (0, .ref (ad (0)))]) X dX12_readsPasser_40 rfl (by decide) rfl ?_
      refine r_aload_n X dX12_readsPasser_41 rfl 2 rfl ?_
      refine r_getF X (k := 15) (of := 7) rfl (Lm_N Lmk_0 rfl) Lmk_0 rfl (by decide) ui_12 (by decide) uw5_235 rfl dX12_readsPasser_42 ?_
      refine r_iload_n X dX12_readsPasser_45 rfl 1 rfl ?_
      refine r_aload_n X dX12_readsPasser_46 rfl 2 rfl ?_
      refine r_ldc2 (v := 8740238) X dX12_readsPasser_47 uw7_10 ?_
      refine r_cVI (As := [.long ((8740238))]) (rest := [.int (x1), .ref (ad (7))]) X (fun r9 m9 hg => k_X12_isWord hg) h (Lm_N Lmk_0 rfl) Lmk_0 rfl (by decide) uw6_215 uw6_217 us4_2 uw1_13 uw6_218 rfl rfl dd_X12_isWord ⟨Nat.le_of_ble_eq_true rfl, Nat.le_of_ble_eq_true rfl⟩ rfl (Nat.le_of_ble_eq_true rfl) dX12_readsPasser_50 rfl (fun x7 m6 h => ?_)
      refine r_if_eq (tgt := 60) X dX12_readsPasser_53 (by decide) h (fun h => ?_) (fun h => ?_)
      · refine r_aload_n X dX12_readsPasser_60 rfl 2 rfl ?_
        refine r_ldc2 (v := 91157229) X dX12_readsPasser_61 uw7_11 ?_
        refine r_cVI (As := [.long ((91157229))]) (rest := [.int (x1), .ref (ad (7))]) X (fun r9 m9 hg => k_X12_isWord hg) h (Lm_N Lmk_0 rfl) Lmk_0 rfl (by decide) uw6_215 uw6_217 us4_2 uw1_13 uw6_218 rfl rfl dd_X12_isWord ⟨Nat.le_of_ble_eq_true rfl, Nat.le_of_ble_eq_true rfl⟩ rfl (Nat.le_of_ble_eq_true rfl) dX12_readsPasser_64 rfl (fun x9 m8 h => ?_)
        refine r_if_eq (tgt := 74) X dX12_readsPasser_67 (by decide) h (fun h => ?_) (fun h => ?_)
        · refine r_aload_n X dX12_readsPasser_74 rfl 2 rfl ?_
          refine r_ldc2 (v := 2495756) X dX12_readsPasser_75 uw7_12 ?_
          refine r_cVI (As := [.long ((2495756))]) (rest := [.int (x1), .ref (ad (7))]) X (fun r9 m9 hg => k_X12_isWord hg) h (Lm_N Lmk_0 rfl) Lmk_0 rfl (by decide) uw6_215 uw6_217 us4_2 uw1_13 uw6_218 rfl rfl dd_X12_isWord ⟨Nat.le_of_ble_eq_true rfl, Nat.le_of_ble_eq_true rfl⟩ rfl (Nat.le_of_ble_eq_true rfl) dX12_readsPasser_78 rfl (fun x11 m10 h => ?_)
          refine r_if_eq (tgt := 88) X dX12_readsPasser_81 (by decide) h (fun h => ?_) (fun h => ?_)
          · refine r_aload_n X dX12_readsPasser_88 rfl 2 rfl ?_
            refine r_ldc2 (v := 72640629) X dX12_readsPasser_89 uw7_13 ?_
            refine r_cVI (As := [.long ((72640629))]) (rest := [.int (x1), .ref (ad (7))]) X (fun r9 m9 hg => k_X12_isWord hg) h (Lm_N Lmk_0 rfl) Lmk_0 rfl (by decide) uw6_215 uw6_217 us4_2 uw1_13 uw6_218 rfl rfl dd_X12_isWord ⟨Nat.le_of_ble_eq_true rfl, Nat.le_of_ble_eq_true rfl⟩ rfl (Nat.le_of_ble_eq_true rfl) dX12_readsPasser_92 rfl (fun x13 m12 h => ?_)
            refine r_if_eq (tgt := 102) X dX12_readsPasser_95 (by decide) h (fun h => ?_) (fun h => ?_)
            · refine r_iconst (v := (-1)) X dX12_readsPasser_102 (by decide) ?_
              exact r_sub [2, 1, 0] rfl (hJ103 x1 x5 ((-1)) x1 m12 h)
            · refine r_iconst (v := (3)) X dX12_readsPasser_98 (by decide) ?_
              refine r_goto (tgt := 103) X dX12_readsPasser_99 (by decide) ?_
              exact r_sub [2, 1, 0] rfl (hJ103 x1 x5 ((3)) x1 m12 h)
          · refine r_iconst (v := (2)) X dX12_readsPasser_84 (by decide) ?_
            refine r_goto (tgt := 103) X dX12_readsPasser_85 (by decide) ?_
            exact r_sub [2, 1, 0] rfl (hJ103 x1 x5 ((2)) x1 m10 h)
        · refine r_iconst (v := (1)) X dX12_readsPasser_70 (by decide) ?_
          refine r_goto (tgt := 103) X dX12_readsPasser_71 (by decide) ?_
          exact r_sub [2, 1, 0] rfl (hJ103 x1 x5 ((1)) x1 m8 h)
      · refine r_iconst (v := (0)) X dX12_readsPasser_56 (by decide) ?_
        refine r_goto (tgt := 103) X dX12_readsPasser_57 (by decide) ?_
        exact r_sub [2, 1, 0] rfl (hJ103 x1 x5 ((0)) x1 m6 h)
    · refine r_iconst (v := (0)) X dX12_readsPasser_34 (by decide) ?_
      exact r_zret2 X rfl dX12_readsPasser_35 h
  · refine r_aload_n X dX12_readsPasser_17 rfl 1 rfl ?_
    refine r_iconst (v := (5)) X dX12_readsPasser_18 (by decide) ?_
    refine r_cVI (As := [.int ((5))]) (rest := []) X (fun r9 m9 hg => k_X12_fails hg) h (Lm_N Lmk_0 rfl) Lmk_0 rfl (by decide) uw6_223 uw6_225 us4_4 uw1_13 uw6_226 rfl rfl dd_X12_fails ⟨Nat.le_of_ble_eq_true rfl, Nat.le_of_ble_eq_true rfl⟩ rfl (Nat.le_of_ble_eq_true rfl) dX12_readsPasser_19 rfl (fun x15 m14 h => ?_)
    exact r_zret2 X rfl dX12_readsPasser_22 h
noncomputable def f_X12_isTwice (p1 : Int32) (mem : Mm) : Option (Int32 × Mm) :=
  if ¬ (((gI mem 0 26) >>> (p1 &&& 31)) &&& ((1))) = ((1)) then (bnd (sI mem 0 26 ((gI mem 0 26) ||| (((1)) <<< (p1 &&& 31)))) fun m1 => grd (bok ((0))) (some ((0), m1))) else (grd (bok ((1))) (some ((1), mem)))
theorem dd_X12_isTwice : yX12_isTwice.cls = RX12 ∧ yX12_isTwice.cls ≠ "java/lang/invoke/MethodHandle" ∧ yX12_isTwice.cls ≠ "java/lang/invoke/VarHandle" ∧ (parseMethodDescriptor yX12_isTwice.desc).map (fun d => d.parameters.length) = some 1 := by decide +kernel
set_option maxHeartbeats 4000000 in
set_option maxRecDepth 100000 in
theorem k_X12_isTwice {l : Launch} {ad : Nat → Nat} {cy : Nat → ClassId} {dC : Nat → ClassId} {dI : Nat → Nat → Nat} {ks : (Nat → Nat) × (Nat → Nat)} {p1 : Int32} {mem : Mm} {r2 : Int32} {mem2 : Mm}  (h : f_X12_isTwice p1 mem = some (r2, mem2)) : CtI l Lm ad cy dC dI ks yX12_isTwice cX12_isTwice 2 (some .boolean) ({ frames := 0, cells := 0, slots := 0, locals := 0 }) [.ref (ad (0)), .int (p1)] mem r2 mem2 := by
  refine CtI.of (cc := cX12_isTwice) (maxL := 2) (ret := (some .boolean)) (own := RX12) rfl (by decide) (Nat.le_of_ble_eq_true rfl) ?_
  intro p e s m args below meth c A X
  have hts := X.2.2.2.2.1
  unfold f_X12_isTwice at h
  refine r_aload_n X dX12_isTwice_0 rfl 0 rfl ?_
  refine r_getI X (k := 26) (Lm_N Lmk_0 rfl) Lmk_0 rfl (by decide) ui_12 (by decide) uw6_6 rfl dX12_isTwice_1 ?_
  refine r_iload_n X dX12_isTwice_4 rfl 1 rfl ?_
  refine r_ishr X dX12_isTwice_5 ?_
  refine r_iconst (v := (1)) X dX12_isTwice_6 (by decide) ?_
  refine r_iand X dX12_isTwice_7 ?_
  refine r_iconst (v := (1)) X dX12_isTwice_8 (by decide) ?_
  refine r_icmp_ne (tgt := 14) X dX12_isTwice_9 (by decide) h (fun h => ?_) (fun h => ?_)
  · refine r_aload_n X dX12_isTwice_14 rfl 0 rfl ?_
    refine r_dup X dX12_isTwice_15 rfl ?_
    refine r_getI X (k := 26) (Lm_N Lmk_0 rfl) Lmk_0 rfl (by decide) ui_12 (by decide) uw6_6 rfl dX12_isTwice_16 ?_
    refine r_iconst (v := (1)) X dX12_isTwice_19 (by decide) ?_
    refine r_iload_n X dX12_isTwice_20 rfl 1 rfl ?_
    refine r_ishl X dX12_isTwice_21 ?_
    refine r_ior X dX12_isTwice_22 ?_
    refine r_putI X (k := 26) (Lm_N Lmk_0 rfl) Lmk_0 rfl (by decide) ui_12 (by decide) uw6_6 tyX12_ok nmX12 rfl rfl rfl dX12_isTwice_23 ?_
    refine r_nmM h (fun m1 h => ?_)
    refine r_iconst (v := (0)) X dX12_isTwice_26 (by decide) ?_
    exact r_zret2 X rfl dX12_isTwice_27 h
  · refine r_iconst (v := (1)) X dX12_isTwice_12 (by decide) ?_
    exact r_zret2 X rfl dX12_isTwice_13 h
noncomputable def f_X12_readsOne (p1 : Int32) (p2 : Int32) (p3 : Int32) (mem : Mm) : Option (Int32 × Mm) :=
  bdI (f_X12_isTwice p1 mem) fun x2 m1 => if x2 = 0 then (bdV (f_X12_nextToken  m1) fun m3 => bdI (f_X12_needsNumber p2 p3 m3) fun x5 m4 => if ¬ x5 = 0 then (grd (inb (((7)) + p1) 14) (bnd (sI m4 2 (((7)) + p1).toNatClampNeg (gI m4 0 39)) fun m6 => bdI (f_X12_closes  m6) fun x8 m7 => grd (bok x8) (some (x8, m7)))) else (grd (bok ((0))) (some ((0), m4)))) else (bdI (f_X12_fails ((3)) m1) fun x10 m9 => grd (bok x10) (some (x10, m9)))
theorem dd_X12_readsOne : yX12_readsOne.cls = RX12 ∧ yX12_readsOne.cls ≠ "java/lang/invoke/MethodHandle" ∧ yX12_readsOne.cls ≠ "java/lang/invoke/VarHandle" ∧ (parseMethodDescriptor yX12_readsOne.desc).map (fun d => d.parameters.length) = some 3 := by decide +kernel
set_option maxHeartbeats 4000000 in
set_option maxRecDepth 100000 in
theorem k_X12_readsOne {l : Launch} {ad : Nat → Nat} {cy : Nat → ClassId} {dC : Nat → ClassId} {dI : Nat → Nat → Nat} {ks : (Nat → Nat) × (Nat → Nat)} {p1 : Int32} {p2 : Int32} {p3 : Int32} {mem : Mm} {r2 : Int32} {mem2 : Mm}  (h : f_X12_readsOne p1 p2 p3 mem = some (r2, mem2)) : CtI l Lm ad cy dC dI ks yX12_readsOne cX12_readsOne 4 (some .boolean) ({ frames := 3, cells := 0, slots := 0, locals := 64 }) [.ref (ad (0)), .int (p1), .int (p2), .int (p3)] mem r2 mem2 := by
  refine CtI.of (cc := cX12_readsOne) (maxL := 4) (ret := (some .boolean)) (own := RX12) rfl (by decide) (Nat.le_of_ble_eq_true rfl) ?_
  intro p e s m args below meth c A X
  have hts := X.2.2.2.2.1
  unfold f_X12_readsOne at h
  refine r_aload_n X dX12_readsOne_0 rfl 0 rfl ?_
  refine r_iload_n X dX12_readsOne_1 rfl 1 rfl ?_
  refine r_cVI (As := [.int (p1)]) (rest := []) X (fun r9 m9 hg => k_X12_isTwice hg) h (Lm_N Lmk_0 rfl) Lmk_0 rfl (by decide) uw7_56 uw7_58 us5_0 uw1_13 uw7_59 rfl rfl dd_X12_isTwice ⟨Nat.le_of_ble_eq_true rfl, Nat.le_of_ble_eq_true rfl⟩ rfl (Nat.le_of_ble_eq_true rfl) dX12_readsOne_2 rfl (fun x2 m1 h => ?_)
  refine r_if_eq (tgt := 14) X dX12_readsOne_5 (by decide) h (fun h => ?_) (fun h => ?_)
  · refine r_aload_n X dX12_readsOne_14 rfl 0 rfl ?_
    refine r_cVV (As := []) (rest := []) X (fun m9 hg => k_X12_nextToken hg) h (Lm_N Lmk_0 rfl) Lmk_0 rfl (by decide) uw6_204 uw6_206 us4_0 uw1_13 uw6_207 rfl rfl dd_X12_nextToken ⟨Nat.le_of_ble_eq_true rfl, Nat.le_of_ble_eq_true rfl⟩ rfl (Nat.le_of_ble_eq_true rfl) dX12_readsOne_15 rfl (fun m3 h => ?_)
    refine r_aload_n X dX12_readsOne_18 rfl 0 rfl ?_
    refine r_iload_n X dX12_readsOne_19 rfl 2 rfl ?_
    refine r_iload_n X dX12_readsOne_20 rfl 3 rfl ?_
    refine r_cVI (As := [.int (p2), .int (p3)]) (rest := []) X (fun r9 m9 hg => k_X12_needsNumber hg) h (Lm_N Lmk_0 rfl) Lmk_0 rfl (by decide) uw7_45 uw7_47 us4_14 uw1_13 uw7_48 rfl rfl dd_X12_needsNumber ⟨Nat.le_of_ble_eq_true rfl, Nat.le_of_ble_eq_true rfl⟩ rfl (Nat.le_of_ble_eq_true rfl) dX12_readsOne_21 rfl (fun x5 m4 h => ?_)
    refine r_if_ne (tgt := 29) X dX12_readsOne_24 (by decide) h (fun h => ?_) (fun h => ?_)
    · refine r_aload_n X dX12_readsOne_29 rfl 0 rfl ?_
      refine r_getF X (k := 10) (of := 2) rfl (Lm_N Lmk_0 rfl) Lmk_0 rfl (by decide) ui_12 (by decide) uw5_230 rfl dX12_readsOne_30 ?_
      refine r_bipush (v := (7)) X dX12_readsOne_33 (by decide) ?_
      refine r_iload_n X dX12_readsOne_35 rfl 1 rfl ?_
      refine r_iadd X dX12_readsOne_36 ?_
      refine r_aload_n X dX12_readsOne_37 rfl 0 rfl ?_
      refine r_getI X (k := 39) (Lm_N Lmk_0 rfl) Lmk_0 rfl (by decide) ui_12 (by decide) uw6_19 rfl dX12_readsOne_38 ?_
      refine r_iast X (Lm_N Lmk_2 rfl) Lmk_2 h dX12_readsOne_41 (fun h => ?_)
      refine r_nmM h (fun m6 h => ?_)
      refine r_aload_n X dX12_readsOne_42 rfl 0 rfl ?_
      refine r_cVI (As := []) (rest := []) X (fun r9 m9 hg => k_X12_closes hg) h (Lm_N Lmk_0 rfl) Lmk_0 rfl (by decide) uw7_29 uw7_31 us4_10 uw1_13 uw7_32 rfl rfl dd_X12_closes ⟨Nat.le_of_ble_eq_true rfl, Nat.le_of_ble_eq_true rfl⟩ rfl (Nat.le_of_ble_eq_true rfl) dX12_readsOne_43 rfl (fun x8 m7 h => ?_)
      exact r_zret2 X rfl dX12_readsOne_46 h
    · refine r_iconst (v := (0)) X dX12_readsOne_27 (by decide) ?_
      exact r_zret2 X rfl dX12_readsOne_28 h
  · refine r_aload_n X dX12_readsOne_8 rfl 0 rfl ?_
    refine r_iconst (v := (3)) X dX12_readsOne_9 (by decide) ?_
    refine r_cVI (As := [.int ((3))]) (rest := []) X (fun r9 m9 hg => k_X12_fails hg) h (Lm_N Lmk_0 rfl) Lmk_0 rfl (by decide) uw6_223 uw6_225 us4_4 uw1_13 uw6_226 rfl rfl dd_X12_fails ⟨Nat.le_of_ble_eq_true rfl, Nat.le_of_ble_eq_true rfl⟩ rfl (Nat.le_of_ble_eq_true rfl) dX12_readsOne_10 rfl (fun x10 m9 h => ?_)
    exact r_zret2 X rfl dX12_readsOne_13 h
noncomputable def f_X12_needsSpan  (mem : Mm) : Option (Int32 × Mm) :=
  bdI (f_X12_needsNumber ((0)) ((59)) mem) fun x2 m1 => if ¬ x2 = 0 then (bnd (sI m1 0 41 (gI m1 0 39)) fun m3 => bdI (f_X12_needsBoth ((555)) ((gI m3 0 41) + ((1))) ((60)) m3) fun x5 m4 => grd (bok x5) (some (x5, m4))) else (grd (bok ((0))) (some ((0), m1)))
theorem dd_X12_needsSpan : yX12_needsSpan.cls = RX12 ∧ yX12_needsSpan.cls ≠ "java/lang/invoke/MethodHandle" ∧ yX12_needsSpan.cls ≠ "java/lang/invoke/VarHandle" ∧ (parseMethodDescriptor yX12_needsSpan.desc).map (fun d => d.parameters.length) = some 0 := by decide +kernel
set_option maxHeartbeats 4000000 in
set_option maxRecDepth 100000 in
theorem k_X12_needsSpan {l : Launch} {ad : Nat → Nat} {cy : Nat → ClassId} {dC : Nat → ClassId} {dI : Nat → Nat → Nat} {ks : (Nat → Nat) × (Nat → Nat)}  {mem : Mm} {r2 : Int32} {mem2 : Mm}  (h : f_X12_needsSpan  mem = some (r2, mem2)) : CtI l Lm ad cy dC dI ks yX12_needsSpan cX12_needsSpan 1 (some .boolean) ({ frames := 4, cells := 0, slots := 0, locals := 88 }) [.ref (ad (0))] mem r2 mem2 := by
  refine CtI.of (cc := cX12_needsSpan) (maxL := 1) (ret := (some .boolean)) (own := RX12) rfl (by decide) (Nat.le_of_ble_eq_true rfl) ?_
  intro p e s m args below meth c A X
  have hts := X.2.2.2.2.1
  unfold f_X12_needsSpan at h
  refine r_aload_n X dX12_needsSpan_0 rfl 0 rfl ?_
  refine r_iconst (v := (0)) X dX12_needsSpan_1 (by decide) ?_
  refine r_bipush (v := (59)) X dX12_needsSpan_2 (by decide) ?_
  refine r_cVI (As := [.int ((0)), .int ((59))]) (rest := []) X (fun r9 m9 hg => k_X12_needsNumber hg) h (Lm_N Lmk_0 rfl) Lmk_0 rfl (by decide) uw7_45 uw7_47 us4_14 uw1_13 uw7_48 rfl rfl dd_X12_needsNumber ⟨Nat.le_of_ble_eq_true rfl, Nat.le_of_ble_eq_true rfl⟩ rfl (Nat.le_of_ble_eq_true rfl) dX12_needsSpan_4 rfl (fun x2 m1 h => ?_)
  refine r_if_ne (tgt := 12) X dX12_needsSpan_7 (by decide) h (fun h => ?_) (fun h => ?_)
  · refine r_aload_n X dX12_needsSpan_12 rfl 0 rfl ?_
    refine r_aload_n X dX12_needsSpan_13 rfl 0 rfl ?_
    refine r_getI X (k := 39) (Lm_N Lmk_0 rfl) Lmk_0 rfl (by decide) ui_12 (by decide) uw6_19 rfl dX12_needsSpan_14 ?_
    refine r_putI X (k := 41) (Lm_N Lmk_0 rfl) Lmk_0 rfl (by decide) ui_12 (by decide) uw6_21 tyX12_ok nmX12 rfl rfl rfl dX12_needsSpan_17 ?_
    refine r_nmM h (fun m3 h => ?_)
    refine r_aload_n X dX12_needsSpan_20 rfl 0 rfl ?_
    refine r_ldc2 (v := 555) X dX12_needsSpan_21 uw7_4 ?_
    refine r_aload_n X dX12_needsSpan_24 rfl 0 rfl ?_
    refine r_getI X (k := 41) (Lm_N Lmk_0 rfl) Lmk_0 rfl (by decide) ui_12 (by decide) uw6_21 rfl dX12_needsSpan_25 ?_
    refine r_iconst (v := (1)) X dX12_needsSpan_28 (by decide) ?_
    refine r_iadd X dX12_needsSpan_29 ?_
    refine r_bipush (v := (60)) X dX12_needsSpan_30 (by decide) ?_
    refine r_cVI (As := [.long ((555)), .int ((gI m3 0 41) + ((1))), .int ((60))]) (rest := []) X (fun r9 m9 hg => k_X12_needsBoth hg) h (Lm_N Lmk_0 rfl) Lmk_0 rfl (by decide) uw7_41 uw7_43 us4_13 uw1_13 uw7_44 rfl rfl dd_X12_needsBoth ⟨Nat.le_of_ble_eq_true rfl, Nat.le_of_ble_eq_true rfl⟩ rfl (Nat.le_of_ble_eq_true rfl) dX12_needsSpan_32 rfl (fun x5 m4 h => ?_)
    exact r_zret2 X rfl dX12_needsSpan_35 h
  · refine r_iconst (v := (0)) X dX12_needsSpan_10 (by decide) ?_
    exact r_zret2 X rfl dX12_needsSpan_11 h
noncomputable def f_X12_readsOpen  (mem : Mm) : Option (Int32 × Mm) :=
  bdI (f_X12_isTwice ((4)) mem) fun x2 m1 => if x2 = 0 then (bdV (f_X12_nextToken  m1) fun m3 => bdI (f_X12_needsSpan  m3) fun x5 m4 => if ¬ x5 = 0 then (bnd (sI m4 2 11 (gI m4 0 41)) fun m6 => bnd (sI m6 2 12 (gI m6 0 39)) fun m7 => bdI (f_X12_closes  m7) fun x9 m8 => grd (bok x9) (some (x9, m8))) else (grd (bok ((0))) (some ((0), m4)))) else (bdI (f_X12_fails ((3)) m1) fun x11 m10 => grd (bok x11) (some (x11, m10)))
theorem dd_X12_readsOpen : yX12_readsOpen.cls = RX12 ∧ yX12_readsOpen.cls ≠ "java/lang/invoke/MethodHandle" ∧ yX12_readsOpen.cls ≠ "java/lang/invoke/VarHandle" ∧ (parseMethodDescriptor yX12_readsOpen.desc).map (fun d => d.parameters.length) = some 0 := by decide +kernel
set_option maxHeartbeats 4000000 in
set_option maxRecDepth 100000 in
theorem k_X12_readsOpen {l : Launch} {ad : Nat → Nat} {cy : Nat → ClassId} {dC : Nat → ClassId} {dI : Nat → Nat → Nat} {ks : (Nat → Nat) × (Nat → Nat)}  {mem : Mm} {r2 : Int32} {mem2 : Mm}  (h : f_X12_readsOpen  mem = some (r2, mem2)) : CtI l Lm ad cy dC dI ks yX12_readsOpen cX12_readsOpen 1 (some .boolean) ({ frames := 5, cells := 0, slots := 0, locals := 108 }) [.ref (ad (0))] mem r2 mem2 := by
  refine CtI.of (cc := cX12_readsOpen) (maxL := 1) (ret := (some .boolean)) (own := RX12) rfl (by decide) (Nat.le_of_ble_eq_true rfl) ?_
  intro p e s m args below meth c A X
  have hts := X.2.2.2.2.1
  unfold f_X12_readsOpen at h
  refine r_aload_n X dX12_readsOpen_0 rfl 0 rfl ?_
  refine r_iconst (v := (4)) X dX12_readsOpen_1 (by decide) ?_
  refine r_cVI (As := [.int ((4))]) (rest := []) X (fun r9 m9 hg => k_X12_isTwice hg) h (Lm_N Lmk_0 rfl) Lmk_0 rfl (by decide) uw7_56 uw7_58 us5_0 uw1_13 uw7_59 rfl rfl dd_X12_isTwice ⟨Nat.le_of_ble_eq_true rfl, Nat.le_of_ble_eq_true rfl⟩ rfl (Nat.le_of_ble_eq_true rfl) dX12_readsOpen_2 rfl (fun x2 m1 h => ?_)
  refine r_if_eq (tgt := 14) X dX12_readsOpen_5 (by decide) h (fun h => ?_) (fun h => ?_)
  · refine r_aload_n X dX12_readsOpen_14 rfl 0 rfl ?_
    refine r_cVV (As := []) (rest := []) X (fun m9 hg => k_X12_nextToken hg) h (Lm_N Lmk_0 rfl) Lmk_0 rfl (by decide) uw6_204 uw6_206 us4_0 uw1_13 uw6_207 rfl rfl dd_X12_nextToken ⟨Nat.le_of_ble_eq_true rfl, Nat.le_of_ble_eq_true rfl⟩ rfl (Nat.le_of_ble_eq_true rfl) dX12_readsOpen_15 rfl (fun m3 h => ?_)
    refine r_aload_n X dX12_readsOpen_18 rfl 0 rfl ?_
    refine r_cVI (As := []) (rest := []) X (fun r9 m9 hg => k_X12_needsSpan hg) h (Lm_N Lmk_0 rfl) Lmk_0 rfl (by decide) uw7_64 uw7_66 us5_2 uw1_13 uw7_67 rfl rfl dd_X12_needsSpan ⟨Nat.le_of_ble_eq_true rfl, Nat.le_of_ble_eq_true rfl⟩ rfl (Nat.le_of_ble_eq_true rfl) dX12_readsOpen_19 rfl (fun x5 m4 h => ?_)
    refine r_if_ne (tgt := 27) X dX12_readsOpen_22 (by decide) h (fun h => ?_) (fun h => ?_)
    · refine r_aload_n X dX12_readsOpen_27 rfl 0 rfl ?_
      refine r_getF X (k := 10) (of := 2) rfl (Lm_N Lmk_0 rfl) Lmk_0 rfl (by decide) ui_12 (by decide) uw5_230 rfl dX12_readsOpen_28 ?_
      refine r_bipush (v := (11)) X dX12_readsOpen_31 (by decide) ?_
      refine r_aload_n X dX12_readsOpen_33 rfl 0 rfl ?_
      refine r_getI X (k := 41) (Lm_N Lmk_0 rfl) Lmk_0 rfl (by decide) ui_12 (by decide) uw6_21 rfl dX12_readsOpen_34 ?_
      refine r_iast X (Lm_N Lmk_2 rfl) Lmk_2 (g_in rfl h) dX12_readsOpen_37 (fun h => ?_)
      refine r_nmM h (fun m6 h => ?_)
      refine r_aload_n X dX12_readsOpen_38 rfl 0 rfl ?_
      refine r_getF X (k := 10) (of := 2) rfl (Lm_N Lmk_0 rfl) Lmk_0 rfl (by decide) ui_12 (by decide) uw5_230 rfl dX12_readsOpen_39 ?_
      refine r_bipush (v := (12)) X dX12_readsOpen_42 (by decide) ?_
      refine r_aload_n X dX12_readsOpen_44 rfl 0 rfl ?_
      refine r_getI X (k := 39) (Lm_N Lmk_0 rfl) Lmk_0 rfl (by decide) ui_12 (by decide) uw6_19 rfl dX12_readsOpen_45 ?_
      refine r_iast X (Lm_N Lmk_2 rfl) Lmk_2 (g_in rfl h) dX12_readsOpen_48 (fun h => ?_)
      refine r_nmM h (fun m7 h => ?_)
      refine r_aload_n X dX12_readsOpen_49 rfl 0 rfl ?_
      refine r_cVI (As := []) (rest := []) X (fun r9 m9 hg => k_X12_closes hg) h (Lm_N Lmk_0 rfl) Lmk_0 rfl (by decide) uw7_29 uw7_31 us4_10 uw1_13 uw7_32 rfl rfl dd_X12_closes ⟨Nat.le_of_ble_eq_true rfl, Nat.le_of_ble_eq_true rfl⟩ rfl (Nat.le_of_ble_eq_true rfl) dX12_readsOpen_50 rfl (fun x9 m8 h => ?_)
      exact r_zret2 X rfl dX12_readsOpen_53 h
    · refine r_iconst (v := (0)) X dX12_readsOpen_25 (by decide) ?_
      exact r_zret2 X rfl dX12_readsOpen_26 h
  · refine r_aload_n X dX12_readsOpen_8 rfl 0 rfl ?_
    refine r_iconst (v := (3)) X dX12_readsOpen_9 (by decide) ?_
    refine r_cVI (As := [.int ((3))]) (rest := []) X (fun r9 m9 hg => k_X12_fails hg) h (Lm_N Lmk_0 rfl) Lmk_0 rfl (by decide) uw6_223 uw6_225 us4_4 uw1_13 uw6_226 rfl rfl dd_X12_fails ⟨Nat.le_of_ble_eq_true rfl, Nat.le_of_ble_eq_true rfl⟩ rfl (Nat.le_of_ble_eq_true rfl) dX12_readsOpen_10 rfl (fun x11 m10 h => ?_)
    exact r_zret2 X rfl dX12_readsOpen_13 h
noncomputable def f_X12_readsLaw (p1 : Int32) (mem : Mm) : Option (Int32 × Mm) :=
  grd (inb (((2)) + p1) 4) (grd (inb (((2)) + p1) 4) (if (gI mem 14 (((2)) + p1).toNatClampNeg) ≤ (gI mem 13 (((2)) + p1).toNatClampNeg) then (bnd (sI mem 0 25 p1) fun m1 => bdV (f_X12_nextToken  m1) fun m2 => grd (inb (((2)) + p1) 4) (bnd (sI m2 13 (((2)) + p1).toNatClampNeg (gI m2 0 24)) fun m3 => bdI (f_X12_reads  m3) fun x5 m4 => if ¬ x5 = 0 then (grd (inb (((2)) + p1) 4) (bnd (sI m4 14 (((2)) + p1).toNatClampNeg (gI m4 0 24)) fun m6 => grd (bok ((1))) (some ((1), m6)))) else (grd (bok ((0))) (some ((0), m4))))) else (bdI (f_X12_fails ((3)) mem) fun x8 m7 => grd (bok x8) (some (x8, m7)))))
theorem dd_X12_readsLaw : yX12_readsLaw.cls = RX12 ∧ yX12_readsLaw.cls ≠ "java/lang/invoke/MethodHandle" ∧ yX12_readsLaw.cls ≠ "java/lang/invoke/VarHandle" ∧ (parseMethodDescriptor yX12_readsLaw.desc).map (fun d => d.parameters.length) = some 1 := by decide +kernel
set_option maxHeartbeats 4000000 in
set_option maxRecDepth 100000 in
theorem k_X12_readsLaw {l : Launch} {ad : Nat → Nat} {cy : Nat → ClassId} {dC : Nat → ClassId} {dI : Nat → Nat → Nat} {ks : (Nat → Nat) × (Nat → Nat)} {p1 : Int32} {mem : Mm} {r2 : Int32} {mem2 : Mm}  (h : f_X12_readsLaw p1 mem = some (r2, mem2)) : CtI l Lm ad cy dC dI ks yX12_readsLaw cX12_readsLaw 2 (some .boolean) ({ frames := 3, cells := 0, slots := 0, locals := 67 }) [.ref (ad (0)), .int (p1)] mem r2 mem2 := by
  refine CtI.of (cc := cX12_readsLaw) (maxL := 2) (ret := (some .boolean)) (own := RX12) rfl (by decide) (Nat.le_of_ble_eq_true rfl) ?_
  intro p e s m args below meth c A X
  have hts := X.2.2.2.2.1
  unfold f_X12_readsLaw at h
  refine r_aload_n X dX12_readsLaw_0 rfl 0 rfl ?_
  refine r_getF X (k := 22) (of := 14) rfl (Lm_N Lmk_0 rfl) Lmk_0 rfl (by decide) ui_12 (by decide) uw6_2 rfl dX12_readsLaw_1 ?_
  refine r_iconst (v := (2)) X dX12_readsLaw_4 (by decide) ?_
  refine r_iload_n X dX12_readsLaw_5 rfl 1 rfl ?_
  refine r_iadd X dX12_readsLaw_6 ?_
  refine r_iald X (Lm_N Lmk_14 rfl) Lmk_14 h dX12_readsLaw_7 (fun h => ?_)
  refine r_aload_n X dX12_readsLaw_8 rfl 0 rfl ?_
  refine r_getF X (k := 21) (of := 13) rfl (Lm_N Lmk_0 rfl) Lmk_0 rfl (by decide) ui_12 (by decide) uw6_1 rfl dX12_readsLaw_9 ?_
  refine r_iconst (v := (2)) X dX12_readsLaw_12 (by decide) ?_
  refine r_iload_n X dX12_readsLaw_13 rfl 1 rfl ?_
  refine r_iadd X dX12_readsLaw_14 ?_
  refine r_iald X (Lm_N Lmk_13 rfl) Lmk_13 h dX12_readsLaw_15 (fun h => ?_)
  refine r_icmp_le (tgt := 25) X dX12_readsLaw_16 (by decide) h (fun h => ?_) (fun h => ?_)
  · refine r_aload_n X dX12_readsLaw_25 rfl 0 rfl ?_
    refine r_iload_n X dX12_readsLaw_26 rfl 1 rfl ?_
    refine r_putI X (k := 25) (Lm_N Lmk_0 rfl) Lmk_0 rfl (by decide) ui_12 (by decide) uw6_5 tyX12_ok nmX12 rfl rfl rfl dX12_readsLaw_27 ?_
    refine r_nmM h (fun m1 h => ?_)
    refine r_aload_n X dX12_readsLaw_30 rfl 0 rfl ?_
    refine r_cVV (As := []) (rest := []) X (fun m9 hg => k_X12_nextToken hg) h (Lm_N Lmk_0 rfl) Lmk_0 rfl (by decide) uw6_204 uw6_206 us4_0 uw1_13 uw6_207 rfl rfl dd_X12_nextToken ⟨Nat.le_of_ble_eq_true rfl, Nat.le_of_ble_eq_true rfl⟩ rfl (Nat.le_of_ble_eq_true rfl) dX12_readsLaw_31 rfl (fun m2 h => ?_)
    refine r_aload_n X dX12_readsLaw_34 rfl 0 rfl ?_
    refine r_getF X (k := 21) (of := 13) rfl (Lm_N Lmk_0 rfl) Lmk_0 rfl (by decide) ui_12 (by decide) uw6_1 rfl dX12_readsLaw_35 ?_
    refine r_iconst (v := (2)) X dX12_readsLaw_38 (by decide) ?_
    refine r_iload_n X dX12_readsLaw_39 rfl 1 rfl ?_
    refine r_iadd X dX12_readsLaw_40 ?_
    refine r_aload_n X dX12_readsLaw_41 rfl 0 rfl ?_
    refine r_getI X (k := 24) (Lm_N Lmk_0 rfl) Lmk_0 rfl (by decide) ui_12 (by decide) uw6_4 rfl dX12_readsLaw_42 ?_
    refine r_iast X (Lm_N Lmk_13 rfl) Lmk_13 h dX12_readsLaw_45 (fun h => ?_)
    refine r_nmM h (fun m3 h => ?_)
    refine r_aload_n X dX12_readsLaw_46 rfl 0 rfl ?_
    refine r_cVI (As := []) (rest := []) X (fun r9 m9 hg => k_X12_reads hg) h (Lm_N Lmk_0 rfl) Lmk_0 rfl (by decide) uw7_72 uw7_74 us5_4 uw1_13 uw7_75 rfl rfl dd_X12_reads ⟨Nat.le_of_ble_eq_true rfl, Nat.le_of_ble_eq_true rfl⟩ rfl (Nat.le_of_ble_eq_true rfl) dX12_readsLaw_47 rfl (fun x5 m4 h => ?_)
    refine r_if_ne (tgt := 55) X dX12_readsLaw_50 (by decide) h (fun h => ?_) (fun h => ?_)
    · refine r_aload_n X dX12_readsLaw_55 rfl 0 rfl ?_
      refine r_getF X (k := 22) (of := 14) rfl (Lm_N Lmk_0 rfl) Lmk_0 rfl (by decide) ui_12 (by decide) uw6_2 rfl dX12_readsLaw_56 ?_
      refine r_iconst (v := (2)) X dX12_readsLaw_59 (by decide) ?_
      refine r_iload_n X dX12_readsLaw_60 rfl 1 rfl ?_
      refine r_iadd X dX12_readsLaw_61 ?_
      refine r_aload_n X dX12_readsLaw_62 rfl 0 rfl ?_
      refine r_getI X (k := 24) (Lm_N Lmk_0 rfl) Lmk_0 rfl (by decide) ui_12 (by decide) uw6_4 rfl dX12_readsLaw_63 ?_
      refine r_iast X (Lm_N Lmk_14 rfl) Lmk_14 h dX12_readsLaw_66 (fun h => ?_)
      refine r_nmM h (fun m6 h => ?_)
      refine r_iconst (v := (1)) X dX12_readsLaw_67 (by decide) ?_
      exact r_zret2 X rfl dX12_readsLaw_68 h
    · refine r_iconst (v := (0)) X dX12_readsLaw_53 (by decide) ?_
      exact r_zret2 X rfl dX12_readsLaw_54 h
  · refine r_aload_n X dX12_readsLaw_19 rfl 0 rfl ?_
    refine r_iconst (v := (3)) X dX12_readsLaw_20 (by decide) ?_
    refine r_cVI (As := [.int ((3))]) (rest := []) X (fun r9 m9 hg => k_X12_fails hg) h (Lm_N Lmk_0 rfl) Lmk_0 rfl (by decide) uw6_223 uw6_225 us4_4 uw1_13 uw6_226 rfl rfl dd_X12_fails ⟨Nat.le_of_ble_eq_true rfl, Nat.le_of_ble_eq_true rfl⟩ rfl (Nat.le_of_ble_eq_true rfl) dX12_readsLaw_21 rfl (fun x8 m7 h => ?_)
    exact r_zret2 X rfl dX12_readsLaw_24 h
noncomputable def f_X12_begins0  (mem : Mm) : Option Mm :=
  bnd (sI mem 0 3 (gI mem 0 1)) fun m1 => bnd (sI m1 0 1 ((0))) fun m2 => bnd (sI m2 0 4 ((0))) fun m3 => bdV (f_X12_nextToken  m3) fun m4 => some m4
theorem dd_X12_begins0 : yX12_begins0.cls = RX12 ∧ yX12_begins0.cls ≠ "java/lang/invoke/MethodHandle" ∧ yX12_begins0.cls ≠ "java/lang/invoke/VarHandle" ∧ (parseMethodDescriptor yX12_begins0.desc).map (fun d => d.parameters.length) = some 0 := by decide +kernel
set_option maxHeartbeats 4000000 in
set_option maxRecDepth 100000 in
theorem k_X12_begins0 {l : Launch} {ad : Nat → Nat} {cy : Nat → ClassId} {dC : Nat → ClassId} {dI : Nat → Nat → Nat} {ks : (Nat → Nat) × (Nat → Nat)}  {mem : Mm} {mem2 : Mm}  (h : f_X12_begins0  mem = some mem2) : CtV l Lm ad cy dC dI ks yX12_begins0 cX12_begins0 1 none ({ frames := 2, cells := 0, slots := 0, locals := 42 }) [.ref (ad (0))] mem mem2 := by
  refine CtV.of (cc := cX12_begins0) (maxL := 1) (ret := none) (own := RX12) rfl (by decide) (Nat.le_of_ble_eq_true rfl) ?_
  intro p e s m args below meth c A X
  have hts := X.2.2.2.2.1
  unfold f_X12_begins0 at h
  refine r_aload_n X dX12_begins0_0 rfl 0 rfl ?_
  refine r_aload_n X dX12_begins0_1 rfl 0 rfl ?_
  refine r_getI X (k := 1) (Lm_N Lmk_0 rfl) Lmk_0 rfl (by decide) ui_12 (by decide) uw5_221 rfl dX12_begins0_2 ?_
  refine r_putI X (k := 3) (Lm_N Lmk_0 rfl) Lmk_0 rfl (by decide) ui_12 (by decide) uw5_223 tyX12_ok nmX12 rfl rfl rfl dX12_begins0_5 ?_
  refine r_nmM h (fun m1 h => ?_)
  refine r_aload_n X dX12_begins0_8 rfl 0 rfl ?_
  refine r_iconst (v := (0)) X dX12_begins0_9 (by decide) ?_
  refine r_putI X (k := 1) (Lm_N Lmk_0 rfl) Lmk_0 rfl (by decide) ui_12 (by decide) uw5_221 tyX12_ok nmX12 rfl rfl rfl dX12_begins0_10 ?_
  refine r_nmM h (fun m2 h => ?_)
  refine r_aload_n X dX12_begins0_13 rfl 0 rfl ?_
  refine r_iconst (v := (0)) X dX12_begins0_14 (by decide) ?_
  refine r_putI X (k := 4) (Lm_N Lmk_0 rfl) Lmk_0 rfl (by decide) ui_12 (by decide) uw5_224 tyX12_ok nmX12 rfl rfl rfl dX12_begins0_15 ?_
  refine r_nmM h (fun m3 h => ?_)
  refine r_aload_n X dX12_begins0_18 rfl 0 rfl ?_
  refine r_cVV (As := []) (rest := []) X (fun m9 hg => k_X12_nextToken hg) h (Lm_N Lmk_0 rfl) Lmk_0 rfl (by decide) uw6_204 uw6_206 us4_0 uw1_13 uw6_207 rfl rfl dd_X12_nextToken ⟨Nat.le_of_ble_eq_true rfl, Nat.le_of_ble_eq_true rfl⟩ rfl (Nat.le_of_ble_eq_true rfl) dX12_begins0_19 rfl (fun m4 h => ?_)
  exact r_vret X rfl dX12_begins0_22 h
noncomputable def f_X12_readsAll_J216 (k52 : Mm → Option (Int32 × Mm)) (x45 : Int32) (m46 : Mm) : Option (Int32 × Mm) :=
  if ¬ x45 = 0 then (k52 m46) else (grd (bok ((0))) (some ((0), m46)))
noncomputable def f_X12_readsAll_B52 (k52 : Mm → Option (Int32 × Mm)) (m10 : Mm) : Option (Int32 × Mm) :=
  if (gI m10 0 6) = 0 then (grd (bok ((1))) (some ((1), m10))) else (bdI (f_X12_isWord ((409352)) m10) fun x12 m11 => if x12 = 0 then (bdI (f_X12_isWord ((230501934)) m11) fun x14 m13 => if x14 = 0 then (bdI (f_X12_isWord ((12249946)) m13) fun x16 m15 => if x16 = 0 then (bdI (f_X12_isWord ((99233)) m15) fun x18 m17 => if x18 = 0 then (bdI (f_X12_isWord ((307058)) m17) fun x20 m19 => if x20 = 0 then (bdI (f_X12_isWord ((8863997)) m19) fun x22 m21 => if x22 = 0 then (bdI (f_X12_isWord ((208459)) m21) fun x24 m23 => if x24 = 0 then (bdI (f_X12_isWord ((12322792)) m23) fun x26 m25 => if x26 = 0 then (bdI (f_X12_fails ((1)) m25) fun x28 m27 => f_X12_readsAll_J216 k52 x28 m27) else (bdI (f_X12_readsLaw ((1)) m25) fun x30 m29 => f_X12_readsAll_J216 k52 x30 m29)) else (bdI (f_X12_readsLaw ((0)) m23) fun x32 m31 => f_X12_readsAll_J216 k52 x32 m31)) else (bdI (f_X12_readsOne ((6)) ((0)) ((999)) m21) fun x34 m33 => f_X12_readsAll_J216 k52 x34 m33)) else (bdI (f_X12_readsOpen  m19) fun x36 m35 => f_X12_readsAll_J216 k52 x36 m35)) else (bdI (f_X12_readsOne ((3)) ((1)) ((30)) m17) fun x38 m37 => f_X12_readsAll_J216 k52 x38 m37)) else (bdI (f_X12_readsOne ((2)) ((0)) ((59)) m15) fun x40 m39 => f_X12_readsAll_J216 k52 x40 m39)) else (bdI (f_X12_readsPasser  m13) fun x42 m41 => f_X12_readsAll_J216 k52 x42 m41)) else (bdI (f_X12_readsTune  m11) fun x44 m43 => f_X12_readsAll_J216 k52 x44 m43))
noncomputable def f_X12_readsAll_B7 (k7 : Int32 → Mm → Option (Int32 × Mm)) (x2 : Int32) (m3 : Mm) : Option (Int32 × Mm) :=
  if ((4)) ≤ x2 then (bnd (sI m3 0 26 ((0))) fun m4 => bnd (sI m4 0 24 ((1000))) fun m5 => bdV (f_X12_begins0  m5) fun m6 => lop (fun _ => none) (f_X12_readsAll_B52 ) 4000 m6) else (grd (inb x2 4) (bnd (sI m3 13 x2.toNatClampNeg ((1000))) fun m7 => grd (inb x2 4) (bnd (sI m7 14 x2.toNatClampNeg ((1000))) fun m8 => bnd (x2 + (1)) fun x9 => k7 x9 m8)))
noncomputable def f_X12_readsAll  (mem : Mm) : Option (Int32 × Mm) :=
  bdV (f_X12_usual ((1)) mem) fun m1 => lop (fun _ _ => none) (f_X12_readsAll_B7 ) 4000 ((2)) m1
theorem dd_X12_readsAll : yX12_readsAll.cls = RX12 ∧ yX12_readsAll.cls ≠ "java/lang/invoke/MethodHandle" ∧ yX12_readsAll.cls ≠ "java/lang/invoke/VarHandle" ∧ (parseMethodDescriptor yX12_readsAll.desc).map (fun d => d.parameters.length) = some 0 := by decide +kernel
set_option maxHeartbeats 4000000 in
set_option maxRecDepth 100000 in
theorem k_X12_readsAll {l : Launch} {ad : Nat → Nat} {cy : Nat → ClassId} {dC : Nat → ClassId} {dI : Nat → Nat → Nat} {ks : (Nat → Nat) × (Nat → Nat)}  {mem : Mm} {r2 : Int32} {mem2 : Mm}  (h : f_X12_readsAll  mem = some (r2, mem2)) : CtI l Lm ad cy dC dI ks yX12_readsAll cX12_readsAll 2 (some .boolean) ({ frames := 6, cells := 0, slots := 0, locals := 128 }) [.ref (ad (0))] mem r2 mem2 := by
  refine CtI.of (cc := cX12_readsAll) (maxL := 2) (ret := (some .boolean)) (own := RX12) rfl (by decide) (Nat.le_of_ble_eq_true rfl) ?_
  intro p e s m args below meth c A X
  have hts := X.2.2.2.2.1
  have hJ216 : ∀ (k52 : Mm → Option (Int32 × Mm)) (hk52 : ∀ (m10 : Mm), k52 m10 = some (r2, mem2) → Jd p l e ({ frames := 6, cells := 0, slots := 0, locals := 128 }) s m args below meth c 2 (MQ below (PsI Lm ad cy dC dI r2 mem2 A) args s 0 0 A) A dC dI cy Lm ad m10 52 [(0, .ref (ad (0)))] []) (x45 : Int32) (m46 : Mm), f_X12_readsAll_J216 k52 x45 m46 = some (r2, mem2) → Jd p l e ({ frames := 6, cells := 0, slots := 0, locals := 128 }) s m args below meth c 2 (MQ below (PsI Lm ad cy dC dI r2 mem2 A) args s 0 0 A) A dC dI cy Lm ad m46 216 [(0, .ref (ad (0)))] [.int (x45)] := by
    intro k52 hk52 x45 m46 h
    unfold f_X12_readsAll_J216 at h
    refine r_istore_n (lv2 := [(1, .int (x45)), (0, .ref (ad (0)))]) X dX12_readsAll_216 rfl (by decide) rfl ?_
    refine r_iload_n X dX12_readsAll_217 rfl 0 rfl ?_
    refine r_if_ne (tgt := 223) X dX12_readsAll_218 (by decide) h (fun h => ?_) (fun h => ?_)
    · refine r_goto (tgt := 52) X dX12_readsAll_223 (by decide) ?_
      exact r_sub [1] rfl (hk52 m46 h)
    · refine r_iconst (v := (0)) X dX12_readsAll_221 (by decide) ?_
      exact r_zret2 X rfl dX12_readsAll_222 h
  have hJ52 : ∀ (k52 : Mm → Option (Int32 × Mm)) (hk52 : ∀ (m10 : Mm), k52 m10 = some (r2, mem2) → Jd p l e ({ frames := 6, cells := 0, slots := 0, locals := 128 }) s m args below meth c 2 (MQ below (PsI Lm ad cy dC dI r2 mem2 A) args s 0 0 A) A dC dI cy Lm ad m10 52 [(0, .ref (ad (0)))] []) (m10 : Mm), f_X12_readsAll_B52 k52 m10 = some (r2, mem2) → Jd p l e ({ frames := 6, cells := 0, slots := 0, locals := 128 }) s m args below meth c 2 (MQ below (PsI Lm ad cy dC dI r2 mem2 A) args s 0 0 A) A dC dI cy Lm ad m10 52 [(0, .ref (ad (0)))] [] := by
    intro k52 hk52 m10 h
    unfold f_X12_readsAll_B52 at h
    refine r_aload_n X dX12_readsAll_52 rfl 0 rfl ?_
    refine r_getI X (k := 6) (Lm_N Lmk_0 rfl) Lmk_0 rfl (by decide) ui_12 (by decide) uw5_226 rfl dX12_readsAll_53 ?_
    refine r_if_eq (tgt := 226) X dX12_readsAll_56 (by decide) h (fun h => ?_) (fun h => ?_)
    · refine r_iconst (v := (1)) X dX12_readsAll_226 (by decide) ?_
      exact r_zret2 X rfl dX12_readsAll_227 h
    · refine r_aload_n X dX12_readsAll_59 rfl 0 rfl ?_
      refine r_ldc2 (v := 409352) X dX12_readsAll_60 uw6_214 ?_
      refine r_cVI (As := [.long ((409352))]) (rest := []) X (fun r9 m9 hg => k_X12_isWord hg) h (Lm_N Lmk_0 rfl) Lmk_0 rfl (by decide) uw6_215 uw6_217 us4_2 uw1_13 uw6_218 rfl rfl dd_X12_isWord ⟨Nat.le_of_ble_eq_true rfl, Nat.le_of_ble_eq_true rfl⟩ rfl (Nat.le_of_ble_eq_true rfl) dX12_readsAll_63 rfl (fun x12 m11 h => ?_)
      refine r_if_eq (tgt := 76) X dX12_readsAll_66 (by decide) h (fun h => ?_) (fun h => ?_)
      · refine r_aload_n X dX12_readsAll_76 rfl 0 rfl ?_
        refine r_ldc2 (v := 230501934) X dX12_readsAll_77 uw6_235 ?_
        refine r_cVI (As := [.long ((230501934))]) (rest := []) X (fun r9 m9 hg => k_X12_isWord hg) h (Lm_N Lmk_0 rfl) Lmk_0 rfl (by decide) uw6_215 uw6_217 us4_2 uw1_13 uw6_218 rfl rfl dd_X12_isWord ⟨Nat.le_of_ble_eq_true rfl, Nat.le_of_ble_eq_true rfl⟩ rfl (Nat.le_of_ble_eq_true rfl) dX12_readsAll_80 rfl (fun x14 m13 h => ?_)
        refine r_if_eq (tgt := 93) X dX12_readsAll_83 (by decide) h (fun h => ?_) (fun h => ?_)
        · refine r_aload_n X dX12_readsAll_93 rfl 0 rfl ?_
          refine r_ldc2 (v := 12249946) X dX12_readsAll_94 uw7_1 ?_
          refine r_cVI (As := [.long ((12249946))]) (rest := []) X (fun r9 m9 hg => k_X12_isWord hg) h (Lm_N Lmk_0 rfl) Lmk_0 rfl (by decide) uw6_215 uw6_217 us4_2 uw1_13 uw6_218 rfl rfl dd_X12_isWord ⟨Nat.le_of_ble_eq_true rfl, Nat.le_of_ble_eq_true rfl⟩ rfl (Nat.le_of_ble_eq_true rfl) dX12_readsAll_97 rfl (fun x16 m15 h => ?_)
          refine r_if_eq (tgt := 114) X dX12_readsAll_100 (by decide) h (fun h => ?_) (fun h => ?_)
          · refine r_aload_n X dX12_readsAll_114 rfl 0 rfl ?_
            refine r_ldc2 (v := 99233) X dX12_readsAll_115 uw7_2 ?_
            refine r_cVI (As := [.long ((99233))]) (rest := []) X (fun r9 m9 hg => k_X12_isWord hg) h (Lm_N Lmk_0 rfl) Lmk_0 rfl (by decide) uw6_215 uw6_217 us4_2 uw1_13 uw6_218 rfl rfl dd_X12_isWord ⟨Nat.le_of_ble_eq_true rfl, Nat.le_of_ble_eq_true rfl⟩ rfl (Nat.le_of_ble_eq_true rfl) dX12_readsAll_118 rfl (fun x18 m17 h => ?_)
            refine r_if_eq (tgt := 135) X dX12_readsAll_121 (by decide) h (fun h => ?_) (fun h => ?_)
            · refine r_aload_n X dX12_readsAll_135 rfl 0 rfl ?_
              refine r_ldc2 (v := 307058) X dX12_readsAll_136 uw7_3 ?_
              refine r_cVI (As := [.long ((307058))]) (rest := []) X (fun r9 m9 hg => k_X12_isWord hg) h (Lm_N Lmk_0 rfl) Lmk_0 rfl (by decide) uw6_215 uw6_217 us4_2 uw1_13 uw6_218 rfl rfl dd_X12_isWord ⟨Nat.le_of_ble_eq_true rfl, Nat.le_of_ble_eq_true rfl⟩ rfl (Nat.le_of_ble_eq_true rfl) dX12_readsAll_139 rfl (fun x20 m19 h => ?_)
              refine r_if_eq (tgt := 152) X dX12_readsAll_142 (by decide) h (fun h => ?_) (fun h => ?_)
              · refine r_aload_n X dX12_readsAll_152 rfl 0 rfl ?_
                refine r_ldc2 (v := 8863997) X dX12_readsAll_153 uw7_5 ?_
                refine r_cVI (As := [.long ((8863997))]) (rest := []) X (fun r9 m9 hg => k_X12_isWord hg) h (Lm_N Lmk_0 rfl) Lmk_0 rfl (by decide) uw6_215 uw6_217 us4_2 uw1_13 uw6_218 rfl rfl dd_X12_isWord ⟨Nat.le_of_ble_eq_true rfl, Nat.le_of_ble_eq_true rfl⟩ rfl (Nat.le_of_ble_eq_true rfl) dX12_readsAll_156 rfl (fun x22 m21 h => ?_)
                refine r_if_eq (tgt := 175) X dX12_readsAll_159 (by decide) h (fun h => ?_) (fun h => ?_)
                · refine r_aload_n X dX12_readsAll_175 rfl 0 rfl ?_
                  refine r_ldc2 (v := 208459) X dX12_readsAll_176 uw7_6 ?_
                  refine r_cVI (As := [.long ((208459))]) (rest := []) X (fun r9 m9 hg => k_X12_isWord hg) h (Lm_N Lmk_0 rfl) Lmk_0 rfl (by decide) uw6_215 uw6_217 us4_2 uw1_13 uw6_218 rfl rfl dd_X12_isWord ⟨Nat.le_of_ble_eq_true rfl, Nat.le_of_ble_eq_true rfl⟩ rfl (Nat.le_of_ble_eq_true rfl) dX12_readsAll_179 rfl (fun x24 m23 h => ?_)
                  refine r_if_eq (tgt := 193) X dX12_readsAll_182 (by decide) h (fun h => ?_) (fun h => ?_)
                  · refine r_aload_n X dX12_readsAll_193 rfl 0 rfl ?_
                    refine r_ldc2 (v := 12322792) X dX12_readsAll_194 uw7_7 ?_
                    refine r_cVI (As := [.long ((12322792))]) (rest := []) X (fun r9 m9 hg => k_X12_isWord hg) h (Lm_N Lmk_0 rfl) Lmk_0 rfl (by decide) uw6_215 uw6_217 us4_2 uw1_13 uw6_218 rfl rfl dd_X12_isWord ⟨Nat.le_of_ble_eq_true rfl, Nat.le_of_ble_eq_true rfl⟩ rfl (Nat.le_of_ble_eq_true rfl) dX12_readsAll_197 rfl (fun x26 m25 h => ?_)
                    refine r_if_eq (tgt := 211) X dX12_readsAll_200 (by decide) h (fun h => ?_) (fun h => ?_)
                    · refine r_aload_n X dX12_readsAll_211 rfl 0 rfl ?_
                      refine r_iconst (v := (1)) X dX12_readsAll_212 (by decide) ?_
                      refine r_cVI (As := [.int ((1))]) (rest := []) X (fun r9 m9 hg => k_X12_fails hg) h (Lm_N Lmk_0 rfl) Lmk_0 rfl (by decide) uw6_223 uw6_225 us4_4 uw1_13 uw6_226 rfl rfl dd_X12_fails ⟨Nat.le_of_ble_eq_true rfl, Nat.le_of_ble_eq_true rfl⟩ rfl (Nat.le_of_ble_eq_true rfl) dX12_readsAll_213 rfl (fun x28 m27 h => ?_)
                      exact r_sub [0] rfl (hJ216 k52 hk52 x28 m27 h)
                    · refine r_aload_n X dX12_readsAll_203 rfl 0 rfl ?_
                      refine r_iconst (v := (1)) X dX12_readsAll_204 (by decide) ?_
                      refine r_cVI (As := [.int ((1))]) (rest := []) X (fun r9 m9 hg => k_X12_readsLaw hg) h (Lm_N Lmk_0 rfl) Lmk_0 rfl (by decide) uw7_68 uw7_70 us5_3 uw1_13 uw7_71 rfl rfl dd_X12_readsLaw ⟨Nat.le_of_ble_eq_true rfl, Nat.le_of_ble_eq_true rfl⟩ rfl (Nat.le_of_ble_eq_true rfl) dX12_readsAll_205 rfl (fun x30 m29 h => ?_)
                      refine r_goto (tgt := 216) X dX12_readsAll_208 (by decide) ?_
                      exact r_sub [0] rfl (hJ216 k52 hk52 x30 m29 h)
                  · refine r_aload_n X dX12_readsAll_185 rfl 0 rfl ?_
                    refine r_iconst (v := (0)) X dX12_readsAll_186 (by decide) ?_
                    refine r_cVI (As := [.int ((0))]) (rest := []) X (fun r9 m9 hg => k_X12_readsLaw hg) h (Lm_N Lmk_0 rfl) Lmk_0 rfl (by decide) uw7_68 uw7_70 us5_3 uw1_13 uw7_71 rfl rfl dd_X12_readsLaw ⟨Nat.le_of_ble_eq_true rfl, Nat.le_of_ble_eq_true rfl⟩ rfl (Nat.le_of_ble_eq_true rfl) dX12_readsAll_187 rfl (fun x32 m31 h => ?_)
                    refine r_goto (tgt := 216) X dX12_readsAll_190 (by decide) ?_
                    exact r_sub [0] rfl (hJ216 k52 hk52 x32 m31 h)
                · refine r_aload_n X dX12_readsAll_162 rfl 0 rfl ?_
                  refine r_bipush (v := (6)) X dX12_readsAll_163 (by decide) ?_
                  refine r_iconst (v := (0)) X dX12_readsAll_165 (by decide) ?_
                  refine r_sipush (v := (999)) X dX12_readsAll_166 (by decide) ?_
                  refine r_cVI (As := [.int ((6)), .int ((0)), .int ((999))]) (rest := []) X (fun r9 m9 hg => k_X12_readsOne hg) h (Lm_N Lmk_0 rfl) Lmk_0 rfl (by decide) uw7_52 uw7_54 us4_15 uw1_13 uw7_55 rfl rfl dd_X12_readsOne ⟨Nat.le_of_ble_eq_true rfl, Nat.le_of_ble_eq_true rfl⟩ rfl (Nat.le_of_ble_eq_true rfl) dX12_readsAll_169 rfl (fun x34 m33 h => ?_)
                  refine r_goto (tgt := 216) X dX12_readsAll_172 (by decide) ?_
                  exact r_sub [0] rfl (hJ216 k52 hk52 x34 m33 h)
              · refine r_aload_n X dX12_readsAll_145 rfl 0 rfl ?_
                refine r_cVI (As := []) (rest := []) X (fun r9 m9 hg => k_X12_readsOpen hg) h (Lm_N Lmk_0 rfl) Lmk_0 rfl (by decide) uw7_60 uw7_62 us5_1 uw1_13 uw7_63 rfl rfl dd_X12_readsOpen ⟨Nat.le_of_ble_eq_true rfl, Nat.le_of_ble_eq_true rfl⟩ rfl (Nat.le_of_ble_eq_true rfl) dX12_readsAll_146 rfl (fun x36 m35 h => ?_)
                refine r_goto (tgt := 216) X dX12_readsAll_149 (by decide) ?_
                exact r_sub [0] rfl (hJ216 k52 hk52 x36 m35 h)
            · refine r_aload_n X dX12_readsAll_124 rfl 0 rfl ?_
              refine r_iconst (v := (3)) X dX12_readsAll_125 (by decide) ?_
              refine r_iconst (v := (1)) X dX12_readsAll_126 (by decide) ?_
              refine r_bipush (v := (30)) X dX12_readsAll_127 (by decide) ?_
              refine r_cVI (As := [.int ((3)), .int ((1)), .int ((30))]) (rest := []) X (fun r9 m9 hg => k_X12_readsOne hg) h (Lm_N Lmk_0 rfl) Lmk_0 rfl (by decide) uw7_52 uw7_54 us4_15 uw1_13 uw7_55 rfl rfl dd_X12_readsOne ⟨Nat.le_of_ble_eq_true rfl, Nat.le_of_ble_eq_true rfl⟩ rfl (Nat.le_of_ble_eq_true rfl) dX12_readsAll_129 rfl (fun x38 m37 h => ?_)
              refine r_goto (tgt := 216) X dX12_readsAll_132 (by decide) ?_
              exact r_sub [0] rfl (hJ216 k52 hk52 x38 m37 h)
          · refine r_aload_n X dX12_readsAll_103 rfl 0 rfl ?_
            refine r_iconst (v := (2)) X dX12_readsAll_104 (by decide) ?_
            refine r_iconst (v := (0)) X dX12_readsAll_105 (by decide) ?_
            refine r_bipush (v := (59)) X dX12_readsAll_106 (by decide) ?_
            refine r_cVI (As := [.int ((2)), .int ((0)), .int ((59))]) (rest := []) X (fun r9 m9 hg => k_X12_readsOne hg) h (Lm_N Lmk_0 rfl) Lmk_0 rfl (by decide) uw7_52 uw7_54 us4_15 uw1_13 uw7_55 rfl rfl dd_X12_readsOne ⟨Nat.le_of_ble_eq_true rfl, Nat.le_of_ble_eq_true rfl⟩ rfl (Nat.le_of_ble_eq_true rfl) dX12_readsAll_108 rfl (fun x40 m39 h => ?_)
            refine r_goto (tgt := 216) X dX12_readsAll_111 (by decide) ?_
            exact r_sub [0] rfl (hJ216 k52 hk52 x40 m39 h)
        · refine r_aload_n X dX12_readsAll_86 rfl 0 rfl ?_
          refine r_cVI (As := []) (rest := []) X (fun r9 m9 hg => k_X12_readsPasser hg) h (Lm_N Lmk_0 rfl) Lmk_0 rfl (by decide) uw7_33 uw7_35 us4_11 uw1_13 uw7_36 rfl rfl dd_X12_readsPasser ⟨Nat.le_of_ble_eq_true rfl, Nat.le_of_ble_eq_true rfl⟩ rfl (Nat.le_of_ble_eq_true rfl) dX12_readsAll_87 rfl (fun x42 m41 h => ?_)
          refine r_goto (tgt := 216) X dX12_readsAll_90 (by decide) ?_
          exact r_sub [0] rfl (hJ216 k52 hk52 x42 m41 h)
      · refine r_aload_n X dX12_readsAll_69 rfl 0 rfl ?_
        refine r_cVI (As := []) (rest := []) X (fun r9 m9 hg => k_X12_readsTune hg) h (Lm_N Lmk_0 rfl) Lmk_0 rfl (by decide) uw6_219 uw6_221 us4_3 uw1_13 uw6_222 rfl rfl dd_X12_readsTune ⟨Nat.le_of_ble_eq_true rfl, Nat.le_of_ble_eq_true rfl⟩ rfl (Nat.le_of_ble_eq_true rfl) dX12_readsAll_70 rfl (fun x44 m43 h => ?_)
        refine r_goto (tgt := 216) X dX12_readsAll_73 (by decide) ?_
        exact r_sub [0] rfl (hJ216 k52 hk52 x44 m43 h)
  have hL52 : ∀ (n : Nat), ∀ (m10 : Mm), lop (fun _ => none) (f_X12_readsAll_B52 ) n m10 = some (r2, mem2) → Jd p l e ({ frames := 6, cells := 0, slots := 0, locals := 128 }) s m args below meth c 2 (MQ below (PsI Lm ad cy dC dI r2 mem2 A) args s 0 0 A) A dC dI cy Lm ad m10 52 [(0, .ref (ad (0)))] [] := by
    intro  n
    induction n with
    | zero => intro _ h; cases h
    | succ n ih => intro a0 h; exact hJ52  _ ih a0 h
  have hJ7 : ∀ (k7 : Int32 → Mm → Option (Int32 × Mm)) (hk7 : ∀ (x2 : Int32) (m3 : Mm), k7 x2 m3 = some (r2, mem2) → Jd p l e ({ frames := 6, cells := 0, slots := 0, locals := 128 }) s m args below meth c 2 (MQ below (PsI Lm ad cy dC dI r2 mem2 A) args s 0 0 A) A dC dI cy Lm ad m3 7 [(0, .ref (ad (0))), (1, .int (x2))] []) (x2 : Int32) (m3 : Mm), f_X12_readsAll_B7 k7 x2 m3 = some (r2, mem2) → Jd p l e ({ frames := 6, cells := 0, slots := 0, locals := 128 }) s m args below meth c 2 (MQ below (PsI Lm ad cy dC dI r2 mem2 A) args s 0 0 A) A dC dI cy Lm ad m3 7 [(0, .ref (ad (0))), (1, .int (x2))] [] := by
    intro k7 hk7 x2 m3 h
    unfold f_X12_readsAll_B7 at h
    refine r_iload_n X dX12_readsAll_7 rfl 1 rfl ?_
    refine r_iconst (v := (4)) X dX12_readsAll_8 (by decide) ?_
    refine r_icmp_ge (tgt := 36) X dX12_readsAll_9 (by decide) h (fun h => ?_) (fun h => ?_)
    · refine r_aload_n X dX12_readsAll_36 rfl 0 rfl ?_
      refine r_iconst (v := (0)) X dX12_readsAll_37 (by decide) ?_
      refine r_putI X (k := 26) (Lm_N Lmk_0 rfl) Lmk_0 rfl (by decide) ui_12 (by decide) uw6_6 tyX12_ok nmX12 rfl rfl rfl dX12_readsAll_38 ?_
      refine r_nmM h (fun m4 h => ?_)
      refine r_aload_n X dX12_readsAll_41 rfl 0 rfl ?_
      refine r_sipush (v := (1000)) X dX12_readsAll_42 (by decide) ?_
      refine r_putI X (k := 24) (Lm_N Lmk_0 rfl) Lmk_0 rfl (by decide) ui_12 (by decide) uw6_4 tyX12_ok nmX12 rfl rfl rfl dX12_readsAll_45 ?_
      refine r_nmM h (fun m5 h => ?_)
      refine r_aload_n X dX12_readsAll_48 rfl 0 rfl ?_
      refine r_cVV (As := []) (rest := []) X (fun m9 hg => k_X12_begins0 hg) h (Lm_N Lmk_0 rfl) Lmk_0 rfl (by decide) uw6_200 uw6_202 us3_15 uw1_13 uw6_203 rfl rfl dd_X12_begins0 ⟨Nat.le_of_ble_eq_true rfl, Nat.le_of_ble_eq_true rfl⟩ rfl (Nat.le_of_ble_eq_true rfl) dX12_readsAll_49 rfl (fun m6 h => ?_)
      exact r_sub [0] rfl (hL52 4000 m6 h)
    · refine r_aload_n X dX12_readsAll_12 rfl 0 rfl ?_
      refine r_getF X (k := 21) (of := 13) rfl (Lm_N Lmk_0 rfl) Lmk_0 rfl (by decide) ui_12 (by decide) uw6_1 rfl dX12_readsAll_13 ?_
      refine r_iload_n X dX12_readsAll_16 rfl 1 rfl ?_
      refine r_sipush (v := (1000)) X dX12_readsAll_17 (by decide) ?_
      refine r_iast X (Lm_N Lmk_13 rfl) Lmk_13 h dX12_readsAll_20 (fun h => ?_)
      refine r_nmM h (fun m7 h => ?_)
      refine r_aload_n X dX12_readsAll_21 rfl 0 rfl ?_
      refine r_getF X (k := 22) (of := 14) rfl (Lm_N Lmk_0 rfl) Lmk_0 rfl (by decide) ui_12 (by decide) uw6_2 rfl dX12_readsAll_22 ?_
      refine r_iload_n X dX12_readsAll_25 rfl 1 rfl ?_
      refine r_sipush (v := (1000)) X dX12_readsAll_26 (by decide) ?_
      refine r_iast X (Lm_N Lmk_14 rfl) Lmk_14 h dX12_readsAll_29 (fun h => ?_)
      refine r_nmM h (fun m8 h => ?_)
      refine r_inc h (fun x9 e9 h => ?_)
      refine r_iinc (v := x9) (lv2 := [(1, .int (x9)), (0, .ref (ad (0)))]) X dX12_readsAll_30 1 rfl (by rw [e9]; rfl) (by decide) rfl ?_
      refine r_goto (tgt := 7) X dX12_readsAll_33 (by decide) ?_
      exact r_sub [1, 0] rfl (hk7 x9 m8 h)
  have hL7 : ∀ (n : Nat), ∀ (x2 : Int32) (m3 : Mm), lop (fun _ _ => none) (f_X12_readsAll_B7 ) n x2 m3 = some (r2, mem2) → Jd p l e ({ frames := 6, cells := 0, slots := 0, locals := 128 }) s m args below meth c 2 (MQ below (PsI Lm ad cy dC dI r2 mem2 A) args s 0 0 A) A dC dI cy Lm ad m3 7 [(0, .ref (ad (0))), (1, .int (x2))] [] := by
    intro  n
    induction n with
    | zero => intro _ _ h; cases h
    | succ n ih => intro a0 a1 h; exact hJ7  _ ih a0 a1 h
  unfold f_X12_readsAll at h
  refine r_aload_n X dX12_readsAll_0 rfl 0 rfl ?_
  refine r_iconst (v := (1)) X dX12_readsAll_1 (by decide) ?_
  refine r_cVV (As := [.int ((1))]) (rest := []) X (fun m9 hg => k_X12_usual hg) h (Lm_N Lmk_0 rfl) Lmk_0 rfl (by decide) uw5_212 uw5_214 us3_12 uw1_13 uw5_215 rfl rfl dd_X12_usual ⟨Nat.le_of_ble_eq_true rfl, Nat.le_of_ble_eq_true rfl⟩ rfl (Nat.le_of_ble_eq_true rfl) dX12_readsAll_2 rfl (fun m1 h => ?_)
  refine r_iconst (v := (2)) X dX12_readsAll_5 (by decide) ?_
  refine r_istore_n (lv2 := [(1, .int ((2))), (0, .ref (ad (0)))]) X dX12_readsAll_6 rfl (by decide) rfl ?_
  exact r_sub [1, 0] rfl (hL7 4000 ((2)) m1 h)
