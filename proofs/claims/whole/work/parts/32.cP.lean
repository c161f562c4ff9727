noncomputable def f_J3_checkFromToIndex_8c36e (p0 : Int32) (p1 : Int32) (p2 : Int32) (mem : Mm) : Option (Int32 × Mm) :=
  if p0 < 0 then (none) else (if p1 < p0 then (none) else (if p1 ≤ p2 then (some (p0, mem)) else (none)))
theorem dd_J3_checkFromToIndex_8c36e : yJ3_checkFromToIndex_8c36e.cls ≠ "java/lang/invoke/MethodHandle" ∧ yJ3_checkFromToIndex_8c36e.cls ≠ "java/lang/invoke/VarHandle" ∧ (parseMethodDescriptor yJ3_checkFromToIndex_8c36e.desc).map (fun d => d.parameters.length) = some 4 := by decide +kernel
set_option maxHeartbeats 4000000 in
set_option maxRecDepth 100000 in
theorem k_J3_checkFromToIndex_8c36e_n {l : Launch} {ad : Nat → Nat} {cy : Nat → ClassId} {dC : Nat → ClassId} {dI : Nat → Nat → Nat} {ks : (Nat → Nat) × (Nat → Nat)} {p0 : Int32} {p1 : Int32} {p2 : Int32} {mem : Mm} {r2 : Int32} {mem2 : Mm}  (h : f_J3_checkFromToIndex_8c36e p0 p1 p2 mem = some (r2, mem2)) : CtI l Lp ad cy dC dI ks yJ3_checkFromToIndex_8c36e cJ3_checkFromToIndex_8c36e 4 (some .int) ({ frames := 0, cells := 0, slots := 0, locals := 0 }) [.int (p0), .int (p1), .int (p2), .null] mem r2 mem2 := by
  refine CtI.of (cc := cJ3_checkFromToIndex_8c36e) (maxL := 4) (ret := (some .int)) (own := RJ3) rfl (by decide) (Nat.le_of_ble_eq_true rfl) ?_
  intro p e s m args below meth c A X
  have hts := X.2.2.2.2.1
  unfold f_J3_checkFromToIndex_8c36e at h
  refine r_iload_n X dJ3_checkFromToIndex_8c36e_0 rfl 0 rfl ?_
  refine r_if_lt (tgt := 14) X dJ3_checkFromToIndex_8c36e_1 (by decide) h (fun h => ?_) (fun h => ?_)
  · cases h
  · refine r_iload_n X dJ3_checkFromToIndex_8c36e_4 rfl 0 rfl ?_
    refine r_iload_n X dJ3_checkFromToIndex_8c36e_5 rfl 1 rfl ?_
    refine r_icmp_gt (tgt := 14) X dJ3_checkFromToIndex_8c36e_6 (by decide) h (fun h => ?_) (fun h => ?_)
    · cases h
    · refine r_iload_n X dJ3_checkFromToIndex_8c36e_9 rfl 1 rfl ?_
      refine r_iload_n X dJ3_checkFromToIndex_8c36e_10 rfl 2 rfl ?_
      refine r_icmp_le (tgt := 22) X dJ3_checkFromToIndex_8c36e_11 (by decide) h (fun h => ?_) (fun h => ?_)
      · refine r_iload_n X dJ3_checkFromToIndex_8c36e_22 rfl 0 rfl ?_
        exact r_iret2 X rfl dJ3_checkFromToIndex_8c36e_23 h
      · cases h
set_option maxHeartbeats 4000000 in
set_option maxRecDepth 100000 in
theorem k_J3_checkFromToIndex_8c36e_t {l : Launch} {ad : Nat → Nat} {cy : Nat → ClassId} {dC : Nat → ClassId} {dI : Nat → Nat → Nat} {ks : (Nat → Nat) × (Nat → Nat)} {p0 : Int32} {p1 : Int32} {p2 : Int32} {t9 : Nat} {mem : Mm} {r2 : Int32} {mem2 : Mm}  (h : f_J3_checkFromToIndex_8c36e p0 p1 p2 mem = some (r2, mem2)) : CtI l Lp ad cy dC dI ks yJ3_checkFromToIndex_8c36e cJ3_checkFromToIndex_8c36e 4 (some .int) ({ frames := 0, cells := 0, slots := 0, locals := 0 }) [.int (p0), .int (p1), .int (p2), .ref t9] mem r2 mem2 := by
  refine CtI.of (cc := cJ3_checkFromToIndex_8c36e) (maxL := 4) (ret := (some .int)) (own := RJ3) rfl (by decide) (Nat.le_of_ble_eq_true rfl) ?_
  intro p e s m args below meth c A X
  have hts := X.2.2.2.2.1
  unfold f_J3_checkFromToIndex_8c36e at h
  refine r_iload_n X dJ3_checkFromToIndex_8c36e_0 rfl 0 rfl ?_
  refine r_if_lt (tgt := 14) X dJ3_checkFromToIndex_8c36e_1 (by decide) h (fun h => ?_) (fun h => ?_)
  · cases h
  · refine r_iload_n X dJ3_checkFromToIndex_8c36e_4 rfl 0 rfl ?_
    refine r_iload_n X dJ3_checkFromToIndex_8c36e_5 rfl 1 rfl ?_
    refine r_icmp_gt (tgt := 14) X dJ3_checkFromToIndex_8c36e_6 (by decide) h (fun h => ?_) (fun h => ?_)
    · cases h
    · refine r_iload_n X dJ3_checkFromToIndex_8c36e_9 rfl 1 rfl ?_
      refine r_iload_n X dJ3_checkFromToIndex_8c36e_10 rfl 2 rfl ?_
      refine r_icmp_le (tgt := 22) X dJ3_checkFromToIndex_8c36e_11 (by decide) h (fun h => ?_) (fun h => ?_)
      · refine r_iload_n X dJ3_checkFromToIndex_8c36e_22 rfl 0 rfl ?_
        exact r_iret2 X rfl dJ3_checkFromToIndex_8c36e_23 h
      · cases h
noncomputable def f_J0_checkBoundsBeginEnd_23922 (p0 : Int32) (p1 : Int32) (p2 : Int32) (mem : Mm) : Option Mm :=
  bdI (f_J3_checkFromToIndex_8c36e p0 p1 p2 mem) fun x2 m1 => some m1
theorem dd_J0_checkBoundsBeginEnd_23922 : yJ0_checkBoundsBeginEnd_23922.cls ≠ "java/lang/invoke/MethodHandle" ∧ yJ0_checkBoundsBeginEnd_23922.cls ≠ "java/lang/invoke/VarHandle" ∧ (parseMethodDescriptor yJ0_checkBoundsBeginEnd_23922.desc).map (fun d => d.parameters.length) = some 3 := by decide +kernel
set_option maxHeartbeats 4000000 in
set_option maxRecDepth 100000 in
theorem k_J0_checkBoundsBeginEnd_23922 {l : Launch} {ad : Nat → Nat} {cy : Nat → ClassId} {dC : Nat → ClassId} {dI : Nat → Nat → Nat} {ks : (Nat → Nat) × (Nat → Nat)} {p0 : Int32} {p1 : Int32} {p2 : Int32} {mem : Mm} {mem2 : Mm}  (h : f_J0_checkBoundsBeginEnd_23922 p0 p1 p2 mem = some mem2) : CtV l Lp ad cy dC dI ks yJ0_checkBoundsBeginEnd_23922 cJ0_checkBoundsBeginEnd_23922 3 none ({ frames := 1, cells := 0, slots := 0, locals := 23 }) [.int (p0), .int (p1), .int (p2)] mem mem2 := by
  refine CtV.of (cc := cJ0_checkBoundsBeginEnd_23922) (maxL := 3) (ret := none) (own := RJ0) rfl (by decide) (Nat.le_of_ble_eq_true rfl) ?_
  intro p e s m args below meth c A X
  have hts := X.2.2.2.2.1
  unfold f_J0_checkBoundsBeginEnd_23922 at h
  refine r_iload_n X dJ0_checkBoundsBeginEnd_23922_0 rfl 0 rfl ?_
  refine r_iload_n X dJ0_checkBoundsBeginEnd_23922_1 rfl 1 rfl ?_
  refine r_iload_n X dJ0_checkBoundsBeginEnd_23922_2 rfl 2 rfl ?_
  refine r_gsF X uw3_60 dJ0_checkBoundsBeginEnd_23922_3 ?_ (fun t9 => ?_)
  · refine r_cSI (As := [.int (p0), .int (p1), .int (p2), .null]) (rest := []) X (fun r9 m9 hg => k_J3_checkFromToIndex_8c36e_n hg) h uw3_124 uw3_125 uw1_16 uw3_126 rfl rfl dd_J3_checkFromToIndex_8c36e ⟨Nat.le_of_ble_eq_true rfl, Nat.le_of_ble_eq_true rfl⟩ rfl (Nat.le_of_ble_eq_true rfl) dJ0_checkBoundsBeginEnd_23922_6 rfl (fun x2 m1 h => ?_)
    refine r_pop X dJ0_checkBoundsBeginEnd_23922_9 rfl ?_
    exact r_vret X rfl dJ0_checkBoundsBeginEnd_23922_10 h
  · refine r_cSI (As := [.int (p0), .int (p1), .int (p2), .ref t9]) (rest := []) X (fun r9 m9 hg => k_J3_checkFromToIndex_8c36e_t hg) h uw3_124 uw3_125 uw1_16 uw3_126 rfl rfl dd_J3_checkFromToIndex_8c36e ⟨Nat.le_of_ble_eq_true rfl, Nat.le_of_ble_eq_true rfl⟩ rfl (Nat.le_of_ble_eq_true rfl) dJ0_checkBoundsBeginEnd_23922_6 rfl (fun x2 m1 h => ?_)
    refine r_pop X dJ0_checkBoundsBeginEnd_23922_9 rfl ?_
    exact r_vret X rfl dJ0_checkBoundsBeginEnd_23922_10 h
