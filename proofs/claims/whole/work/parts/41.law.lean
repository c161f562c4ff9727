def AL (a0 sz : Nat) : Nat → Prop := fun q => (a0 ≤ q ∧ q < a0 + 166) ∨ (a0 + 166 ≤ q ∧ q < a0 + 214) ∨ q = a0 + 214 ∨ sz ≤ q
def PrL (dC : Nat → ClassId) (dI : Nat → Nat → Nat) (cy : Nat → ClassId) (ks : (Nat → Nat) × (Nat → Nat)) (a0 : Nat) (av : List Value) (mP mM : Mm) (ov : Int64) (sz : Nat) : Array Value → State → Prop := va_Pc av (fun U => U.heap.size = sz ∧ WL dC dI cy a0 mP mM ov U.heap ∧ va_K (dC, dI) vwCl (tyl cy) U ∧ NB U ∧ EX ks (AL a0 sz) U ∧ XT (AL a0 sz) U)
theorem prl_blind {dC : Nat → ClassId} {dI : Nat → Nat → Nat} {cy : Nat → ClassId} {ks : (Nat → Nat) × (Nat → Nat)} {a0 : Nat} {av : List Value} {mP mM : Mm} {ov : Int64} {sz : Nat} : FrameBlind (PrL dC dI cy ks a0 av mP mM ov sz) := fun a U g mk q => by
  obtain ⟨q0, q1, qW, qK, qN, qE, qX⟩ := q
  exact ⟨q0, q1, qW, va_K.moved (u := U) (U := U.calling g mk a) (Vm.Alike.refl U.vm) qK, NB.same (u := U) (U := U.calling g mk a) rfl qN, EX.same (u := U) (U := U.calling g mk a) rfl rfl qE, XT.same (u := U) (U := U.calling g mk a) rfl rfl qX⟩
/-- the contract of a helper of the law: it answers r, leaves ov2 in the row out -/
def CtH (l : Launch) (dC : Nat → ClassId) (dI : Nat → Nat → Nat) (cy : Nat → ClassId) (ks : (Nat → Nat) × (Nat → Nat)) (a0 : Nat) (y : MethodName) (cc : ByteArray) (maxL : Nat) (hh : List (Nat × Nat × Nat × Nat)) (rm : Room) (av : List Value) (mP mM : Mm) (ov : Int64) (r : Int32) (mP2 : Mm) (ov2 : Int64) : Prop := ∀ sz : Nat, Met l y (Cond.codeWith y cc maxL (some .int) hh :: uw) rm (PrL dC dI cy ks a0 av mP mM ov sz) (va_Qi (fun (r2 : Int32) (_ : Unit) => r2 = r) (fun _ t => WL dC dI cy a0 mP2 mM ov2 t.heap) (AL a0 sz)) 1 6 (AL a0 sz)
theorem CtH.of {l : Launch} {dC : Nat → ClassId} {dI : Nat → Nat → Nat} {cy : Nat → ClassId} {ks : (Nat → Nat) × (Nat → Nat)} {a0 : Nat} {y : MethodName} {cc : ByteArray} {maxL : Nat} {hh : List (Nat × Nat × Nat × Nat)} {rm : Room} {av : List Value} {mP mM : Mm} {ov : Int64} {r : Int32} {mP2 : Mm} {ov2 : Int64} (hnt : l.stackTraces = false) (ho : y.cls = RL) (hy : plainName y.cls = true) (hlen : (lg_sl av).length ≤ maxL) (body : ∀ (p : Program) (e : Env) (s : State) (m : MethodId) (args : Array Value) (below : List Frame) (meth : Method) (c : Code) (A : Nat → Prop), CxL p l e rm s m args below meth c cc maxL RL A dC dI cy ks a0 → meth.sig.returnType = some .int → meth.locks = false → c.exceptionTable.toList = tableOf hh → JL p l e rm s m args below meth c maxL (MQ below (va_Qi (fun (r2 : Int32) (_ : Unit) => r2 = r) (fun _ t => WL dC dI cy a0 mP2 mM ov2 t.heap) A) args s 1 6 A) A dC dI cy a0 mP mM ov 0 0 0 (lv_args 0 av) []) : CtH l dC dI cy ks a0 y cc maxL hh rm av mP mM ov r mP2 ov2 := by
  intro sz
  refine va_MetW (cc := cc) (maxL := maxL) (ret := some .int) (hh := hh) hy rfl ?_
  intro p e s m args below meth c s₁ B hml hv
  obtain ⟨rfl, hsz, hW, hK, hN, hE, hX⟩ := hv
  have hat := atoms_spec (ws := Cond.codeWith y cc maxL (some .int) hh :: uw) B.pre
  have hts : ∀ w ∈ uw, w.before av.toArray s = true := fun w hw => hat w (List.mem_cons_of_mem _ hw)
  have hown : s.vm.findClass RL = some m.cls := ho ▸ findClass_of_methodNamed B.named
  have htab := vx_table (x := y) B (hat _ List.mem_cons_self)
  subst hsz
  have hl := lv_entry av (n := maxL) hlen
  rw [lg_entry_eq]
  generalize (lg_sl av ++ List.replicate (maxL - (lg_sl av).length) Slot.unset).toArray = ls at hl ⊢
  exact body p e s m av.toArray below meth c (AL a0 s.heap.size) ⟨B.exec, B.bytes, hml, hown, hts, hK, hN, fun q h => h, hE, hX, hnt⟩ B.returns B.notSynchronized htab s.heap [] ls hW va_S.rf hl
section LawRows2
variable {p : Program} {l : Launch} {e : Env} {R : Room} {s : State} {m : MethodId} {args : Array Value} {below : List Frame} {meth : Method} {c : Code} {cc : ByteArray} {nL : Nat} {own : String} {Q : State → Prop} {A : Nat → Prop} {dC : Nat → ClassId} {dI : Nat → Nat → Nat} {cy : Nat → ClassId} {ks : (Nat → Nat) × (Nat → Nat)} {a0 : Nat} {mP mM : Mm} {ov : Int64} {ce sl pc : Nat} {lv : List (Nat × Value)} {st : List Value}
theorem l_iretH {r : Int32} (X : CxL p l e R s m args below meth c cc nL own A dC dI cy ks a0) (hr : meth.sig.returnType = some .int) (hlk : meth.locks = false) (hd : decode cc pc = .ok (.ireturn, 1)) : JL p l e R s m args below meth c nL (MQ below (va_Qi (fun (r2 : Int32) (_ : Unit) => r2 = r) (fun _ t => WL dC dI cy a0 mP mM ov t.heap) A) args s ce sl A) A dC dI cy a0 mP mM ov ce sl pc lv [.int r] :=
  fun H locs ls hW hS hL => W.iret X.1 X.2.1 hr (fun t ht hW2 => ⟨⟨r, (), rfl, rfl, by show WL dC dI cy a0 mP mM ov t.heap; rw [ht]; exact hW⟩, hS.F ht⟩) hS.2.2 hd hlk
theorem l_sub (ks9 : List Nat) {lv2 : List (Nat × Value)} (hl : lv_pick lv ks9 = lv2) (h : JL p l e R s m args below meth c nL Q A dC dI cy a0 (mP) (mM) (ov) (ce) (sl) (pc) (lv2) (st)) : JL p l e R s m args below meth c nL Q A dC dI cy a0 (mP) (mM) (ov) (ce) (sl) (pc) (lv) (st) := fun H locs ls hW hS hL => h H locs ls hW hS (lv_sub hL ks9 hl)
theorem l_widen {k n : Nat} (h1 : ce ≤ k) (h2 : sl ≤ n) (h : JL p l e R s m args below meth c nL Q A dC dI cy a0 (mP) (mM) (ov) (k) (n) (pc) (lv) (st)) : JL p l e R s m args below meth c nL Q A dC dI cy a0 (mP) (mM) (ov) (ce) (sl) (pc) (lv) (st) := fun H locs ls hW hS hL => W.widen h1 h2 (h H locs ls hW hS hL)
theorem l_tin (X : CxL p l e R s m args below meth c cc nL own A dC dI cy ks a0) {dflt lo hi : Int} {offs : Array Int} {len : Nat} {x : Int32} {off : Int} {tgt : Nat} (hd : decode cc pc = .ok (.tableswitch dflt lo hi offs, len)) (h1 : ¬ x.toInt < lo) (h2 : ¬ hi < x.toInt) (ho : offs[(x.toInt - lo).toNat]? = some off) (ht : (pc : Int) + off = (tgt : Int)) (h : JL p l e R s m args below meth c nL Q A dC dI cy a0 (mP) (mM) (ov) (ce) (sl) (tgt) (lv) (st)) : JL p l e R s m args below meth c nL Q A dC dI cy a0 (mP) (mM) (ov) (ce) (sl) (pc) (lv) (.int x :: st) := fun H locs ls hW hS hL => lv_tableIn X.1 X.2.1 hd h1 h2 ho ht (h H locs ls hW hS hL)
theorem l_tout (X : CxL p l e R s m args below meth c cc nL own A dC dI cy ks a0) {dflt lo hi : Int} {offs : Array Int} {len : Nat} {x : Int32} {tgt : Nat} (hd : decode cc pc = .ok (.tableswitch dflt lo hi offs, len)) (hx : x.toInt < lo ∨ hi < x.toInt) (ht : (pc : Int) + dflt = (tgt : Int)) (h : JL p l e R s m args below meth c nL Q A dC dI cy a0 (mP) (mM) (ov) (ce) (sl) (tgt) (lv) (st)) : JL p l e R s m args below meth c nL Q A dC dI cy a0 (mP) (mM) (ov) (ce) (sl) (pc) (lv) (.int x :: st) := fun H locs ls hW hS hL => lv_tableOut X.1 X.2.1 hd hx ht (h H locs ls hW hS hL)
theorem l_cH (X : CxL p l e R s m args below meth c cc nL own A dC dI cy ks a0) {y : MethodName} {rm : Room} {index maxL n : Nat} {bytes : ByteArray} {hh : List (Nat × Nat × Nat × Nat)} {As rest : List Value} {r : Int32} {mem2 : Mm} {ov2 : Int64} (hM : CtH l dC dI cy ks a0 y bytes maxL hh rm As mP mM ov r mem2 ov2) (w1 : Cond.methodLink own index y ∈ uw) (w2 : Cond.static y ∈ uw) (w4 : Cond.initialized y.cls ∈ uw) (w5 : Cond.codeWith y bytes maxL (some .int) hh ∈ uw) (hrc : rm.cells = 1) (hrs : rm.slots = 6) (hdd : y.cls ≠ "java/lang/invoke/MethodHandle" ∧ y.cls ≠ "java/lang/invoke/VarHandle" ∧ (parseMethodDescriptor y.desc).map (fun d => d.parameters.length) = some n) (hR : rm.frames + 1 ≤ R.frames ∧ 8 + (maxL + 11) + rm.locals ≤ R.locals) (hn : As.length = n) (hsum : (rest.map fun v => v.category).sum ≤ 8) (hce : ce + 1 ≤ R.cells) (hsl : sl + 6 ≤ R.slots) (hd : decode cc pc = .ok (.invokestatic index, 3)) (hst : st = As.reverse ++ rest) (h : JL p l e R s m args below meth c nL Q A dC dI cy a0 (mem2) (mM) (ov2) (ce + 1) (sl + 6) (pc + 3) (lv) (.int r :: rest)) : JL p l e R s m args below meth c nL Q A dC dI cy a0 (mP) (mM) (ov) (ce) (sl) (pc) (lv) (st) := by
  intro H locs ls hW hS hL
  subst hst
  have hFr : ∀ q : Nat, AL a0 H.size q → A q := fun q z => X.2.2.2.2.2.2.2.1 q (z.elim Or.inl (fun z => z.elim (fun z => Or.inr (Or.inl z)) (fun z => z.elim (fun z => Or.inr (Or.inr (Or.inl z))) (fun z => Or.inr (Or.inr (Or.inr (Nat.le_trans hS.1 z)))))))
  have hT : GoodIn uw (va_wsS own index y (Cond.codeWith y bytes maxL (some .int) hh :: uw)) := fun w hw => by
    unfold va_wsS at hw
    rcases List.mem_append.mp hw with hw | hw
    · rcases List.mem_cons.mp hw with rfl | hw
      · exact ⟨w1, uw_good w1⟩
      · rcases List.mem_cons.mp hw with rfl | hw
        · exact ⟨w2, uw_good w2⟩
        · rcases List.mem_cons.mp hw with rfl | hw
          · exact ⟨w4, uw_good w4⟩
          · cases hw
    · rcases List.mem_cons.mp hw with rfl | hw
      · exact ⟨w5, uw_good w5⟩
      · exact ⟨hw, uw_good hw⟩
  refine va_calli (vx_runSW (As := As) (rest := rest) ⟨X.1, X.2.1, X.2.2.1, X.2.2.2.1, X.2.2.2.2.1⟩ (hM H.size) (vx_cwSW n X.2.2.2.2.1 hT rfl hrc hrs hdd hR) ⟨prl_blind, fun U hU hW2 => ⟨rfl, by rw [hU], by rw [hU]; exact hW, va_K.moved hW2.alike X.2.2.2.2.2.1, NB.warm hW2 X.2.2.2.2.2.2.1, EX.step X.2.2.2.2.2.2.2.2.1 hS hFr hU hW2, XT.step X.2.2.2.2.2.2.2.2.2.1 hS hFr hU hW2⟩⟩ rfl hn hL.1 rfl (lv_room hsum) hd ⟨hce, hsl⟩) hS (fun q _ z => hFr q z) hFr (fun r u t H1 locs ht hvm hw hB hz1 hk1 hS2 => ?_)
  cases hw
  exact h H1 locs ls (by rw [← ht]; exact hB) hS2 hL
end LawRows2
theorem dh_judged : yL_judged.cls ≠ "java/lang/invoke/MethodHandle" ∧ yL_judged.cls ≠ "java/lang/invoke/VarHandle" ∧ (parseMethodDescriptor yL_judged.desc).map (fun d => d.parameters.length) = some 3 := by decide +kernel
set_option maxHeartbeats 4000000 in
set_option maxRecDepth 100000 in
theorem kh_judged_s {l : Launch} {dC : Nat → ClassId} {dI : Nat → Nat → Nat} {cy : Nat → ClassId} {ks : (Nat → Nat) × (Nat → Nat)} {a0 : Nat} {p1 : Int32} {mP mM mem2 : Mm} {ov : Int64} {v : Int32} (hnt : l.stackTraces = false) (h : f_X11_judged p1 mP = some (some v, mem2)) : CtH l dC dI cy ks a0 yL_judged cL_judged 4 [(0, 9, 12, 13)] ({ frames := 7, cells := 1, slots := 6, locals := 156 }) [.ref (aP a0 0), .int p1, .ref (a0 + 214)] mP mM ov 0 mem2 (v.toInt64) := by
  refine CtH.of hnt rfl (by decide) (Nat.le_of_ble_eq_true rfl) ?_
  intro p e s m args below meth c A X hr hlk htab
  refine l_aload_n X dL_judged_0 rfl 2 rfl ?_
  refine l_iconst (v := 0) X dL_judged_1 (by decide) ?_
  refine l_aload_n X dL_judged_2 rfl 0 rfl ?_
  refine l_iload_n X dL_judged_3 rfl 1 rfl ?_
  refine l_cX (te := ⟨0, 9, 12, 13⟩) (hpc := 12) (nmx := "") (As := [.int p1]) (rest := [.int 0, .ref (a0 + 214)]) X (k_X11_judged hnt h) uw5_58 uw5_59 uw5_60 uw1_1 uw5_61 rfl rfl dd_X11_judged ⟨Nat.le_of_ble_eq_true rfl, Nat.le_of_ble_eq_true rfl⟩ rfl (Nat.le_of_ble_eq_true rfl) (Nat.le_of_ble_eq_true rfl) (Nat.le_of_ble_eq_true rfl) dL_judged_4 rfl htab rfl (by decide) uw5_57 rfl (fun r9 e9 => ?_) (fun e9 => by cases e9)
  cases e9
  refine l_i2l X dL_judged_7 ?_
  refine l_olst X dL_judged_8 ?_
  refine l_goto (tgt := 15) X dL_judged_9 (by decide) ?_
  refine l_iconst (v := 0) X dL_judged_15 (by decide) ?_
  exact l_iretH X hr hlk dL_judged_16
set_option maxHeartbeats 4000000 in
set_option maxRecDepth 100000 in
theorem kh_judged_n {l : Launch} {dC : Nat → ClassId} {dI : Nat → Nat → Nat} {cy : Nat → ClassId} {ks : (Nat → Nat) × (Nat → Nat)} {a0 : Nat} {p1 : Int32} {mP mM mem2 : Mm} {ov : Int64} (hnt : l.stackTraces = false) (h : f_X11_judged p1 mP = some (none, mem2)) : CtH l dC dI cy ks a0 yL_judged cL_judged 4 [(0, 9, 12, 13)] ({ frames := 7, cells := 1, slots := 6, locals := 156 }) [.ref (aP a0 0), .int p1, .ref (a0 + 214)] mP mM ov 1 mem2 (ov) := by
  refine CtH.of hnt rfl (by decide) (Nat.le_of_ble_eq_true rfl) ?_
  intro p e s m args below meth c A X hr hlk htab
  refine l_aload_n X dL_judged_0 rfl 2 rfl ?_
  refine l_iconst (v := 0) X dL_judged_1 (by decide) ?_
  refine l_aload_n X dL_judged_2 rfl 0 rfl ?_
  refine l_iload_n X dL_judged_3 rfl 1 rfl ?_
  refine l_cX (te := ⟨0, 9, 12, 13⟩) (hpc := 12) (nmx := "") (As := [.int p1]) (rest := [.int 0, .ref (a0 + 214)]) X (k_X11_judged hnt h) uw5_58 uw5_59 uw5_60 uw1_1 uw5_61 rfl rfl dd_X11_judged ⟨Nat.le_of_ble_eq_true rfl, Nat.le_of_ble_eq_true rfl⟩ rfl (Nat.le_of_ble_eq_true rfl) (Nat.le_of_ble_eq_true rfl) (Nat.le_of_ble_eq_true rfl) dL_judged_4 rfl htab rfl (by decide) uw5_57 rfl (fun r9 e9 => by cases e9) (fun _ q9 => ?_)
  refine l_astore_n (lv2 := [(3, .ref q9), (0, .ref (aP a0 0)), (1, .int p1), (2, .ref (a0 + 214))]) X dL_judged_12 rfl (by decide) rfl ?_
  refine l_iconst (v := 1) X dL_judged_13 (by decide) ?_
  exact l_iretH X hr hlk dL_judged_14
theorem dh_best : yL_best.cls ≠ "java/lang/invoke/MethodHandle" ∧ yL_best.cls ≠ "java/lang/invoke/VarHandle" ∧ (parseMethodDescriptor yL_best.desc).map (fun d => d.parameters.length) = some 3 := by decide +kernel
set_option maxHeartbeats 4000000 in
set_option maxRecDepth 100000 in
theorem kh_best_s {l : Launch} {dC : Nat → ClassId} {dI : Nat → Nat → Nat} {cy : Nat → ClassId} {ks : (Nat → Nat) × (Nat → Nat)} {a0 : Nat} {p1 : Int32} {mP mM mem2 : Mm} {ov : Int64} {v : Int32} (hnt : l.stackTraces = false) (h : f_X11_best p1 mP = some (some v, mem2)) : CtH l dC dI cy ks a0 yL_best cL_best 4 [(0, 9, 12, 13)] ({ frames := 7, cells := 1, slots := 6, locals := 154 }) [.ref (aP a0 0), .int p1, .ref (a0 + 214)] mP mM ov 0 mem2 (v.toInt64) := by
  refine CtH.of hnt rfl (by decide) (Nat.le_of_ble_eq_true rfl) ?_
  intro p e s m args below meth c A X hr hlk htab
  refine l_aload_n X dL_best_0 rfl 2 rfl ?_
  refine l_iconst (v := 0) X dL_best_1 (by decide) ?_
  refine l_aload_n X dL_best_2 rfl 0 rfl ?_
  refine l_iload_n X dL_best_3 rfl 1 rfl ?_
  refine l_cX (te := ⟨0, 9, 12, 13⟩) (hpc := 12) (nmx := "") (As := [.int p1]) (rest := [.int 0, .ref (a0 + 214)]) X (k_X11_best hnt h) uw5_130 uw5_131 uw5_132 uw1_1 uw5_133 rfl rfl dd_X11_best ⟨Nat.le_of_ble_eq_true rfl, Nat.le_of_ble_eq_true rfl⟩ rfl (Nat.le_of_ble_eq_true rfl) (Nat.le_of_ble_eq_true rfl) (Nat.le_of_ble_eq_true rfl) dL_best_4 rfl htab rfl (by decide) uw5_57 rfl (fun r9 e9 => ?_) (fun e9 => by cases e9)
  cases e9
  refine l_i2l X dL_best_7 ?_
  refine l_olst X dL_best_8 ?_
  refine l_goto (tgt := 15) X dL_best_9 (by decide) ?_
  refine l_iconst (v := 0) X dL_best_15 (by decide) ?_
  exact l_iretH X hr hlk dL_best_16
set_option maxHeartbeats 4000000 in
set_option maxRecDepth 100000 in
theorem kh_best_n {l : Launch} {dC : Nat → ClassId} {dI : Nat → Nat → Nat} {cy : Nat → ClassId} {ks : (Nat → Nat) × (Nat → Nat)} {a0 : Nat} {p1 : Int32} {mP mM mem2 : Mm} {ov : Int64} (hnt : l.stackTraces = false) (h : f_X11_best p1 mP = some (none, mem2)) : CtH l dC dI cy ks a0 yL_best cL_best 4 [(0, 9, 12, 13)] ({ frames := 7, cells := 1, slots := 6, locals := 154 }) [.ref (aP a0 0), .int p1, .ref (a0 + 214)] mP mM ov 1 mem2 (ov) := by
  refine CtH.of hnt rfl (by decide) (Nat.le_of_ble_eq_true rfl) ?_
  intro p e s m args below meth c A X hr hlk htab
  refine l_aload_n X dL_best_0 rfl 2 rfl ?_
  refine l_iconst (v := 0) X dL_best_1 (by decide) ?_
  refine l_aload_n X dL_best_2 rfl 0 rfl ?_
  refine l_iload_n X dL_best_3 rfl 1 rfl ?_
  refine l_cX (te := ⟨0, 9, 12, 13⟩) (hpc := 12) (nmx := "") (As := [.int p1]) (rest := [.int 0, .ref (a0 + 214)]) X (k_X11_best hnt h) uw5_130 uw5_131 uw5_132 uw1_1 uw5_133 rfl rfl dd_X11_best ⟨Nat.le_of_ble_eq_true rfl, Nat.le_of_ble_eq_true rfl⟩ rfl (Nat.le_of_ble_eq_true rfl) (Nat.le_of_ble_eq_true rfl) (Nat.le_of_ble_eq_true rfl) dL_best_4 rfl htab rfl (by decide) uw5_57 rfl (fun r9 e9 => by cases e9) (fun _ q9 => ?_)
  refine l_astore_n (lv2 := [(3, .ref q9), (0, .ref (aP a0 0)), (1, .int p1), (2, .ref (a0 + 214))]) X dL_best_12 rfl (by decide) rfl ?_
  refine l_iconst (v := 1) X dL_best_13 (by decide) ?_
  exact l_iretH X hr hlk dL_best_14
theorem dh_when : yL_when.cls ≠ "java/lang/invoke/MethodHandle" ∧ yL_when.cls ≠ "java/lang/invoke/VarHandle" ∧ (parseMethodDescriptor yL_when.desc).map (fun d => d.parameters.length) = some 4 := by decide +kernel
set_option maxHeartbeats 4000000 in
set_option maxRecDepth 100000 in
theorem kh_when_s {l : Launch} {dC : Nat → ClassId} {dI : Nat → Nat → Nat} {cy : Nat → ClassId} {ks : (Nat → Nat) × (Nat → Nat)} {a0 : Nat} {p1 : Int32} {p2 : Int32} {mP mM mem2 : Mm} {ov : Int64} {v : Int32} (hnt : l.stackTraces = false) (h : f_X11_when p1 p2 mP = some (some v, mem2)) : CtH l dC dI cy ks a0 yL_when cL_when 5 [(0, 10, 13, 13)] ({ frames := 8, cells := 1, slots := 6, locals := 181 }) [.ref (aP a0 0), .int p1, .int p2, .ref (a0 + 214)] mP mM ov 0 mem2 (v.toInt64) := by
  refine CtH.of hnt rfl (by decide) (Nat.le_of_ble_eq_true rfl) ?_
  intro p e s m args below meth c A X hr hlk htab
  refine l_aload_n X dL_when_0 rfl 3 rfl ?_
  refine l_iconst (v := 0) X dL_when_1 (by decide) ?_
  refine l_aload_n X dL_when_2 rfl 0 rfl ?_
  refine l_iload_n X dL_when_3 rfl 1 rfl ?_
  refine l_iload_n X dL_when_4 rfl 2 rfl ?_
  refine l_cX (te := ⟨0, 10, 13, 13⟩) (hpc := 13) (nmx := "") (As := [.int p1, .int p2]) (rest := [.int 0, .ref (a0 + 214)]) X (k_X11_when hnt h) uw5_141 uw5_142 uw5_143 uw1_1 uw5_144 rfl rfl dd_X11_when ⟨Nat.le_of_ble_eq_true rfl, Nat.le_of_ble_eq_true rfl⟩ rfl (Nat.le_of_ble_eq_true rfl) (Nat.le_of_ble_eq_true rfl) (Nat.le_of_ble_eq_true rfl) dL_when_5 rfl htab rfl (by decide) uw5_57 rfl (fun r9 e9 => ?_) (fun e9 => by cases e9)
  cases e9
  refine l_i2l X dL_when_8 ?_
  refine l_olst X dL_when_9 ?_
  refine l_goto (tgt := 17) X dL_when_10 (by decide) ?_
  refine l_iconst (v := 0) X dL_when_17 (by decide) ?_
  exact l_iretH X hr hlk dL_when_18
set_option maxHeartbeats 4000000 in
set_option maxRecDepth 100000 in
theorem kh_when_n {l : Launch} {dC : Nat → ClassId} {dI : Nat → Nat → Nat} {cy : Nat → ClassId} {ks : (Nat → Nat) × (Nat → Nat)} {a0 : Nat} {p1 : Int32} {p2 : Int32} {mP mM mem2 : Mm} {ov : Int64} (hnt : l.stackTraces = false) (h : f_X11_when p1 p2 mP = some (none, mem2)) : CtH l dC dI cy ks a0 yL_when cL_when 5 [(0, 10, 13, 13)] ({ frames := 8, cells := 1, slots := 6, locals := 181 }) [.ref (aP a0 0), .int p1, .int p2, .ref (a0 + 214)] mP mM ov 1 mem2 (ov) := by
  refine CtH.of hnt rfl (by decide) (Nat.le_of_ble_eq_true rfl) ?_
  intro p e s m args below meth c A X hr hlk htab
  refine l_aload_n X dL_when_0 rfl 3 rfl ?_
  refine l_iconst (v := 0) X dL_when_1 (by decide) ?_
  refine l_aload_n X dL_when_2 rfl 0 rfl ?_
  refine l_iload_n X dL_when_3 rfl 1 rfl ?_
  refine l_iload_n X dL_when_4 rfl 2 rfl ?_
  refine l_cX (te := ⟨0, 10, 13, 13⟩) (hpc := 13) (nmx := "") (As := [.int p1, .int p2]) (rest := [.int 0, .ref (a0 + 214)]) X (k_X11_when hnt h) uw5_141 uw5_142 uw5_143 uw1_1 uw5_144 rfl rfl dd_X11_when ⟨Nat.le_of_ble_eq_true rfl, Nat.le_of_ble_eq_true rfl⟩ rfl (Nat.le_of_ble_eq_true rfl) (Nat.le_of_ble_eq_true rfl) (Nat.le_of_ble_eq_true rfl) dL_when_5 rfl htab rfl (by decide) uw5_57 rfl (fun r9 e9 => by cases e9) (fun _ q9 => ?_)
  refine l_astore (lv2 := [(4, .ref q9), (0, .ref (aP a0 0)), (1, .int p1), (2, .int p2), (3, .ref (a0 + 214))]) X dL_when_13 (by decide) rfl ?_
  refine l_iconst (v := 1) X dL_when_15 (by decide) ?_
  exact l_iretH X hr hlk dL_when_16
theorem dh_without : yL_without.cls ≠ "java/lang/invoke/MethodHandle" ∧ yL_without.cls ≠ "java/lang/invoke/VarHandle" ∧ (parseMethodDescriptor yL_without.desc).map (fun d => d.parameters.length) = some 3 := by decide +kernel
set_option maxHeartbeats 4000000 in
set_option maxRecDepth 100000 in
theorem kh_without_s {l : Launch} {dC : Nat → ClassId} {dI : Nat → Nat → Nat} {cy : Nat → ClassId} {ks : (Nat → Nat) × (Nat → Nat)} {a0 : Nat} {p1 : Int32} {mP mM mem2 : Mm} {ov : Int64} {v : Int32} (hnt : l.stackTraces = false) (h : f_X11_without p1 mP = some (some v, mem2)) : CtH l dC dI cy ks a0 yL_without cL_without 4 [(0, 9, 12, 13)] ({ frames := 7, cells := 1, slots := 6, locals := 155 }) [.ref (aP a0 0), .int p1, .ref (a0 + 214)] mP mM ov 0 mem2 (v.toInt64) := by
  refine CtH.of hnt rfl (by decide) (Nat.le_of_ble_eq_true rfl) ?_
  intro p e s m args below meth c A X hr hlk htab
  refine l_aload_n X dL_without_0 rfl 2 rfl ?_
  refine l_iconst (v := 0) X dL_without_1 (by decide) ?_
  refine l_aload_n X dL_without_2 rfl 0 rfl ?_
  refine l_iload_n X dL_without_3 rfl 1 rfl ?_
  refine l_cX (te := ⟨0, 9, 12, 13⟩) (hpc := 12) (nmx := "") (As := [.int p1]) (rest := [.int 0, .ref (a0 + 214)]) X (k_X11_without hnt h) uw5_156 uw5_157 uw5_158 uw1_1 uw5_159 rfl rfl dd_X11_without ⟨Nat.le_of_ble_eq_true rfl, Nat.le_of_ble_eq_true rfl⟩ rfl (Nat.le_of_ble_eq_true rfl) (Nat.le_of_ble_eq_true rfl) (Nat.le_of_ble_eq_true rfl) dL_without_4 rfl htab rfl (by decide) uw5_57 rfl (fun r9 e9 => ?_) (fun e9 => by cases e9)
  cases e9
  refine l_i2l X dL_without_7 ?_
  refine l_olst X dL_without_8 ?_
  refine l_goto (tgt := 15) X dL_without_9 (by decide) ?_
  refine l_iconst (v := 0) X dL_without_15 (by decide) ?_
  exact l_iretH X hr hlk dL_without_16
set_option maxHeartbeats 4000000 in
set_option maxRecDepth 100000 in
theorem kh_without_n {l : Launch} {dC : Nat → ClassId} {dI : Nat → Nat → Nat} {cy : Nat → ClassId} {ks : (Nat → Nat) × (Nat → Nat)} {a0 : Nat} {p1 : Int32} {mP mM mem2 : Mm} {ov : Int64} (hnt : l.stackTraces = false) (h : f_X11_without p1 mP = some (none, mem2)) : CtH l dC dI cy ks a0 yL_without cL_without 4 [(0, 9, 12, 13)] ({ frames := 7, cells := 1, slots := 6, locals := 155 }) [.ref (aP a0 0), .int p1, .ref (a0 + 214)] mP mM ov 1 mem2 (ov) := by
  refine CtH.of hnt rfl (by decide) (Nat.le_of_ble_eq_true rfl) ?_
  intro p e s m args below meth c A X hr hlk htab
  refine l_aload_n X dL_without_0 rfl 2 rfl ?_
  refine l_iconst (v := 0) X dL_without_1 (by decide) ?_
  refine l_aload_n X dL_without_2 rfl 0 rfl ?_
  refine l_iload_n X dL_without_3 rfl 1 rfl ?_
  refine l_cX (te := ⟨0, 9, 12, 13⟩) (hpc := 12) (nmx := "") (As := [.int p1]) (rest := [.int 0, .ref (a0 + 214)]) X (k_X11_without hnt h) uw5_156 uw5_157 uw5_158 uw1_1 uw5_159 rfl rfl dd_X11_without ⟨Nat.le_of_ble_eq_true rfl, Nat.le_of_ble_eq_true rfl⟩ rfl (Nat.le_of_ble_eq_true rfl) (Nat.le_of_ble_eq_true rfl) (Nat.le_of_ble_eq_true rfl) dL_without_4 rfl htab rfl (by decide) uw5_57 rfl (fun r9 e9 => by cases e9) (fun _ q9 => ?_)
  refine l_astore_n (lv2 := [(3, .ref q9), (0, .ref (aP a0 0)), (1, .int p1), (2, .ref (a0 + 214))]) X dL_without_12 rfl (by decide) rfl ?_
  refine l_iconst (v := 1) X dL_without_13 (by decide) ?_
  exact l_iretH X hr hlk dL_without_14
theorem dh_rests : yL_rests.cls ≠ "java/lang/invoke/MethodHandle" ∧ yL_rests.cls ≠ "java/lang/invoke/VarHandle" ∧ (parseMethodDescriptor yL_rests.desc).map (fun d => d.parameters.length) = some 6 := by decide +kernel
set_option maxHeartbeats 4000000 in
set_option maxRecDepth 100000 in
theorem kh_rests_s {l : Launch} {dC : Nat → ClassId} {dI : Nat → Nat → Nat} {cy : Nat → ClassId} {ks : (Nat → Nat) × (Nat → Nat)} {a0 : Nat} {p1 : Int32} {p2 : Int32} {p3 : Int32} {p4 : Int32} {mP mM mem2 : Mm} {ov : Int64} {v : Int32} (hnt : l.stackTraces = false) (h : f_X11_rests p1 p2 p3 p4 mP = some (some v, mem2)) : CtH l dC dI cy ks a0 yL_rests cL_rests 7 [(0, 14, 17, 13)] ({ frames := 7, cells := 1, slots := 6, locals := 115 }) [.ref (aP a0 0), .int p1, .int p2, .int p3, .int p4, .ref (a0 + 214)] mP mM ov 0 mem2 (v.toInt64) := by
  refine CtH.of hnt rfl (by decide) (Nat.le_of_ble_eq_true rfl) ?_
  intro p e s m args below meth c A X hr hlk htab
  refine l_aload X dL_rests_0 5 rfl ?_
  refine l_iconst (v := 0) X dL_rests_2 (by decide) ?_
  refine l_aload_n X dL_rests_3 rfl 0 rfl ?_
  refine l_iload_n X dL_rests_4 rfl 1 rfl ?_
  refine l_iload_n X dL_rests_5 rfl 2 rfl ?_
  refine l_iload_n X dL_rests_6 rfl 3 rfl ?_
  refine l_iload X dL_rests_7 4 rfl ?_
  refine l_cX (te := ⟨0, 14, 17, 13⟩) (hpc := 17) (nmx := "") (As := [.int p1, .int p2, .int p3, .int p4]) (rest := [.int 0, .ref (a0 + 214)]) X (k_X11_rests hnt h) uw5_163 uw5_164 uw5_165 uw1_1 uw5_166 rfl rfl dd_X11_rests ⟨Nat.le_of_ble_eq_true rfl, Nat.le_of_ble_eq_true rfl⟩ rfl (Nat.le_of_ble_eq_true rfl) (Nat.le_of_ble_eq_true rfl) (Nat.le_of_ble_eq_true rfl) dL_rests_9 rfl htab rfl (by decide) uw5_57 rfl (fun r9 e9 => ?_) (fun e9 => by cases e9)
  cases e9
  refine l_i2l X dL_rests_12 ?_
  refine l_olst X dL_rests_13 ?_
  refine l_goto (tgt := 21) X dL_rests_14 (by decide) ?_
  refine l_iconst (v := 0) X dL_rests_21 (by decide) ?_
  exact l_iretH X hr hlk dL_rests_22
set_option maxHeartbeats 4000000 in
set_option maxRecDepth 100000 in
theorem kh_rests_n {l : Launch} {dC : Nat → ClassId} {dI : Nat → Nat → Nat} {cy : Nat → ClassId} {ks : (Nat → Nat) × (Nat → Nat)} {a0 : Nat} {p1 : Int32} {p2 : Int32} {p3 : Int32} {p4 : Int32} {mP mM mem2 : Mm} {ov : Int64} (hnt : l.stackTraces = false) (h : f_X11_rests p1 p2 p3 p4 mP = some (none, mem2)) : CtH l dC dI cy ks a0 yL_rests cL_rests 7 [(0, 14, 17, 13)] ({ frames := 7, cells := 1, slots := 6, locals := 115 }) [.ref (aP a0 0), .int p1, .int p2, .int p3, .int p4, .ref (a0 + 214)] mP mM ov 1 mem2 (ov) := by
  refine CtH.of hnt rfl (by decide) (Nat.le_of_ble_eq_true rfl) ?_
  intro p e s m args below meth c A X hr hlk htab
  refine l_aload X dL_rests_0 5 rfl ?_
  refine l_iconst (v := 0) X dL_rests_2 (by decide) ?_
  refine l_aload_n X dL_rests_3 rfl 0 rfl ?_
  refine l_iload_n X dL_rests_4 rfl 1 rfl ?_
  refine l_iload_n X dL_rests_5 rfl 2 rfl ?_
  refine l_iload_n X dL_rests_6 rfl 3 rfl ?_
  refine l_iload X dL_rests_7 4 rfl ?_
  refine l_cX (te := ⟨0, 14, 17, 13⟩) (hpc := 17) (nmx := "") (As := [.int p1, .int p2, .int p3, .int p4]) (rest := [.int 0, .ref (a0 + 214)]) X (k_X11_rests hnt h) uw5_163 uw5_164 uw5_165 uw1_1 uw5_166 rfl rfl dd_X11_rests ⟨Nat.le_of_ble_eq_true rfl, Nat.le_of_ble_eq_true rfl⟩ rfl (Nat.le_of_ble_eq_true rfl) (Nat.le_of_ble_eq_true rfl) (Nat.le_of_ble_eq_true rfl) dL_rests_9 rfl htab rfl (by decide) uw5_57 rfl (fun r9 e9 => by cases e9) (fun _ q9 => ?_)
  refine l_astore (lv2 := [(6, .ref q9), (0, .ref (aP a0 0)), (1, .int p1), (2, .int p2), (3, .int p3), (4, .int p4), (5, .ref (a0 + 214))]) X dL_rests_17 (by decide) rfl ?_
  refine l_iconst (v := 1) X dL_rests_19 (by decide) ?_
  exact l_iretH X hr hlk dL_rests_20
theorem dh_rule : yL_rule.cls ≠ "java/lang/invoke/MethodHandle" ∧ yL_rule.cls ≠ "java/lang/invoke/VarHandle" ∧ (parseMethodDescriptor yL_rule.desc).map (fun d => d.parameters.length) = some 4 := by decide +kernel
set_option maxHeartbeats 4000000 in
set_option maxRecDepth 100000 in
theorem kh_rule_s {l : Launch} {dC : Nat → ClassId} {dI : Nat → Nat → Nat} {cy : Nat → ClassId} {ks : (Nat → Nat) × (Nat → Nat)} {a0 : Nat} {p1 : Int32} {p2 : Int32} {mP mM mem2 : Mm} {ov : Int64} {v : Int32} (hnt : l.stackTraces = false) (h : f_X11_rule p1 p2 mP = some (some v, mem2)) : CtH l dC dI cy ks a0 yL_rule cL_rule 5 [(0, 10, 13, 13)] ({ frames := 7, cells := 1, slots := 6, locals := 136 }) [.ref (aP a0 0), .int p1, .int p2, .ref (a0 + 214)] mP mM ov 0 mem2 (v.toInt64) := by
  refine CtH.of hnt rfl (by decide) (Nat.le_of_ble_eq_true rfl) ?_
  intro p e s m args below meth c A X hr hlk htab
  refine l_aload_n X dL_rule_0 rfl 3 rfl ?_
  refine l_iconst (v := 0) X dL_rule_1 (by decide) ?_
  refine l_aload_n X dL_rule_2 rfl 0 rfl ?_
  refine l_iload_n X dL_rule_3 rfl 1 rfl ?_
  refine l_iload_n X dL_rule_4 rfl 2 rfl ?_
  refine l_cX (te := ⟨0, 10, 13, 13⟩) (hpc := 13) (nmx := "") (As := [.int p1, .int p2]) (rest := [.int 0, .ref (a0 + 214)]) X (k_X11_rule hnt h) uw5_179 uw5_180 uw5_181 uw1_1 uw5_182 rfl rfl dd_X11_rule ⟨Nat.le_of_ble_eq_true rfl, Nat.le_of_ble_eq_true rfl⟩ rfl (Nat.le_of_ble_eq_true rfl) (Nat.le_of_ble_eq_true rfl) (Nat.le_of_ble_eq_true rfl) dL_rule_5 rfl htab rfl (by decide) uw5_57 rfl (fun r9 e9 => ?_) (fun e9 => by cases e9)
  cases e9
  refine l_i2l X dL_rule_8 ?_
  refine l_olst X dL_rule_9 ?_
  refine l_goto (tgt := 17) X dL_rule_10 (by decide) ?_
  refine l_iconst (v := 0) X dL_rule_17 (by decide) ?_
  exact l_iretH X hr hlk dL_rule_18
set_option maxHeartbeats 4000000 in
set_option maxRecDepth 100000 in
theorem kh_rule_n {l : Launch} {dC : Nat → ClassId} {dI : Nat → Nat → Nat} {cy : Nat → ClassId} {ks : (Nat → Nat) × (Nat → Nat)} {a0 : Nat} {p1 : Int32} {p2 : Int32} {mP mM mem2 : Mm} {ov : Int64} (hnt : l.stackTraces = false) (h : f_X11_rule p1 p2 mP = some (none, mem2)) : CtH l dC dI cy ks a0 yL_rule cL_rule 5 [(0, 10, 13, 13)] ({ frames := 7, cells := 1, slots := 6, locals := 136 }) [.ref (aP a0 0), .int p1, .int p2, .ref (a0 + 214)] mP mM ov 1 mem2 (ov) := by
  refine CtH.of hnt rfl (by decide) (Nat.le_of_ble_eq_true rfl) ?_
  intro p e s m args below meth c A X hr hlk htab
  refine l_aload_n X dL_rule_0 rfl 3 rfl ?_
  refine l_iconst (v := 0) X dL_rule_1 (by decide) ?_
  refine l_aload_n X dL_rule_2 rfl 0 rfl ?_
  refine l_iload_n X dL_rule_3 rfl 1 rfl ?_
  refine l_iload_n X dL_rule_4 rfl 2 rfl ?_
  refine l_cX (te := ⟨0, 10, 13, 13⟩) (hpc := 13) (nmx := "") (As := [.int p1, .int p2]) (rest := [.int 0, .ref (a0 + 214)]) X (k_X11_rule hnt h) uw5_179 uw5_180 uw5_181 uw1_1 uw5_182 rfl rfl dd_X11_rule ⟨Nat.le_of_ble_eq_true rfl, Nat.le_of_ble_eq_true rfl⟩ rfl (Nat.le_of_ble_eq_true rfl) (Nat.le_of_ble_eq_true rfl) (Nat.le_of_ble_eq_true rfl) dL_rule_5 rfl htab rfl (by decide) uw5_57 rfl (fun r9 e9 => by cases e9) (fun _ q9 => ?_)
  refine l_astore (lv2 := [(4, .ref q9), (0, .ref (aP a0 0)), (1, .int p1), (2, .int p2), (3, .ref (a0 + 214))]) X dL_rule_13 (by decide) rfl ?_
  refine l_iconst (v := 1) X dL_rule_15 (by decide) ?_
  exact l_iretH X hr hlk dL_rule_16
theorem dh_months : yL_months.cls ≠ "java/lang/invoke/MethodHandle" ∧ yL_months.cls ≠ "java/lang/invoke/VarHandle" ∧ (parseMethodDescriptor yL_months.desc).map (fun d => d.parameters.length) = some 5 := by decide +kernel
set_option maxHeartbeats 4000000 in
set_option maxRecDepth 100000 in
theorem kh_months_s {l : Launch} {dC : Nat → ClassId} {dI : Nat → Nat → Nat} {cy : Nat → ClassId} {ks : (Nat → Nat) × (Nat → Nat)} {a0 : Nat} {p1 : Int32} {p2 : Int32} {p3 : Int32} {mP mM mem2 : Mm} {ov : Int64} {v : Int32} (hnt : l.stackTraces = false) (h : f_X11_months p1 p2 p3 mP = some (some v, mem2)) : CtH l dC dI cy ks a0 yL_months cL_months 6 [(0, 12, 15, 13)] ({ frames := 7, cells := 1, slots := 6, locals := 161 }) [.ref (aP a0 0), .int p1, .int p2, .int p3, .ref (a0 + 214)] mP mM ov 0 mem2 (v.toInt64) := by
  refine CtH.of hnt rfl (by decide) (Nat.le_of_ble_eq_true rfl) ?_
  intro p e s m args below meth c A X hr hlk htab
  refine l_aload X dL_months_0 4 rfl ?_
  refine l_iconst (v := 0) X dL_months_2 (by decide) ?_
  refine l_aload_n X dL_months_3 rfl 0 rfl ?_
  refine l_iload_n X dL_months_4 rfl 1 rfl ?_
  refine l_iload_n X dL_months_5 rfl 2 rfl ?_
  refine l_iload_n X dL_months_6 rfl 3 rfl ?_
  refine l_cX (te := ⟨0, 12, 15, 13⟩) (hpc := 15) (nmx := "") (As := [.int p1, .int p2, .int p3]) (rest := [.int 0, .ref (a0 + 214)]) X (k_X11_months hnt h) uw5_186 uw5_187 uw5_188 uw1_1 uw5_189 rfl rfl dd_X11_months ⟨Nat.le_of_ble_eq_true rfl, Nat.le_of_ble_eq_true rfl⟩ rfl (Nat.le_of_ble_eq_true rfl) (Nat.le_of_ble_eq_true rfl) (Nat.le_of_ble_eq_true rfl) dL_months_7 rfl htab rfl (by decide) uw5_57 rfl (fun r9 e9 => ?_) (fun e9 => by cases e9)
  cases e9
  refine l_i2l X dL_months_10 ?_
  refine l_olst X dL_months_11 ?_
  refine l_goto (tgt := 19) X dL_months_12 (by decide) ?_
  refine l_iconst (v := 0) X dL_months_19 (by decide) ?_
  exact l_iretH X hr hlk dL_months_20
set_option maxHeartbeats 4000000 in
set_option maxRecDepth 100000 in
theorem kh_months_n {l : Launch} {dC : Nat → ClassId} {dI : Nat → Nat → Nat} {cy : Nat → ClassId} {ks : (Nat → Nat) × (Nat → Nat)} {a0 : Nat} {p1 : Int32} {p2 : Int32} {p3 : Int32} {mP mM mem2 : Mm} {ov : Int64} (hnt : l.stackTraces = false) (h : f_X11_months p1 p2 p3 mP = some (none, mem2)) : CtH l dC dI cy ks a0 yL_months cL_months 6 [(0, 12, 15, 13)] ({ frames := 7, cells := 1, slots := 6, locals := 161 }) [.ref (aP a0 0), .int p1, .int p2, .int p3, .ref (a0 + 214)] mP mM ov 1 mem2 (ov) := by
  refine CtH.of hnt rfl (by decide) (Nat.le_of_ble_eq_true rfl) ?_
  intro p e s m args below meth c A X hr hlk htab
  refine l_aload X dL_months_0 4 rfl ?_
  refine l_iconst (v := 0) X dL_months_2 (by decide) ?_
  refine l_aload_n X dL_months_3 rfl 0 rfl ?_
  refine l_iload_n X dL_months_4 rfl 1 rfl ?_
  refine l_iload_n X dL_months_5 rfl 2 rfl ?_
  refine l_iload_n X dL_months_6 rfl 3 rfl ?_
  refine l_cX (te := ⟨0, 12, 15, 13⟩) (hpc := 15) (nmx := "") (As := [.int p1, .int p2, .int p3]) (rest := [.int 0, .ref (a0 + 214)]) X (k_X11_months hnt h) uw5_186 uw5_187 uw5_188 uw1_1 uw5_189 rfl rfl dd_X11_months ⟨Nat.le_of_ble_eq_true rfl, Nat.le_of_ble_eq_true rfl⟩ rfl (Nat.le_of_ble_eq_true rfl) (Nat.le_of_ble_eq_true rfl) (Nat.le_of_ble_eq_true rfl) dL_months_7 rfl htab rfl (by decide) uw5_57 rfl (fun r9 e9 => by cases e9) (fun _ q9 => ?_)
  refine l_astore (lv2 := [(5, .ref q9), (0, .ref (aP a0 0)), (1, .int p1), (2, .int p2), (3, .int p3), (4, .ref (a0 + 214))]) X dL_months_15 (by decide) rfl ?_
  refine l_iconst (v := 1) X dL_months_17 (by decide) ?_
  exact l_iretH X hr hlk dL_months_18
def St_feed (Rel : Mm → Mm → Prop) : Prop := ∀ (a1 a2 a3 : Int64) (mP mM : Mm), Rel mP mM → ∃ (r : Int32) (mP2 mM2 : Mm), f_X11_feed a1 a2 a3 mP = some (r, mP2) ∧ f_X12_feed a1 a2 a3 mM = some (r, mM2) ∧ Rel mP2 mM2
def St_station (Rel : Mm → Mm → Prop) : Prop := ∀ (mP mM : Mm), Rel mP mM → ∃ (r : Int32) (mP2 mM2 : Mm), f_X11_station  mP = some (r, mP2) ∧ f_X12_station  mM = some (r, mM2) ∧ Rel mP2 mM2
def St_week (Rel : Mm → Mm → Prop) : Prop := ∀ (mP mM : Mm), Rel mP mM → ∃ (r : Int32) (mP2 mM2 : Mm), f_X11_week  mP = some (r, mP2) ∧ f_X12_week  mM = some (r, mM2) ∧ Rel mP2 mM2
def St_passer (Rel : Mm → Mm → Prop) : Prop := ∀ (a1 a2 : Int32) (mP mM : Mm), Rel mP mM → ∃ (r : Int32) (mP2 mM2 : Mm), f_X11_passer a1 a2 mP = some (r, mP2) ∧ f_X12_passer a1 a2 mM = some (r, mM2) ∧ Rel mP2 mM2
def St_tune (Rel : Mm → Mm → Prop) : Prop := ∀ (a1 a2 : Int32) (mP mM : Mm), Rel mP mM → ∃ (r : Int32) (mP2 mM2 : Mm), f_X11_tune a1 a2 mP = some (r, mP2) ∧ f_X12_tune a1 a2 mM = some (r, mM2) ∧ Rel mP2 mM2
def St_key (Rel : Mm → Mm → Prop) : Prop := ∀ (a1 : Int32) (mP mM : Mm), Rel mP mM → ∃ (r : Int32) (mP2 mM2 : Mm), f_X11_key a1 mP = some (r, mP2) ∧ f_X12_key a1 mM = some (r, mM2) ∧ Rel mP2 mM2
def St_begins (Rel : Mm → Mm → Prop) : Prop := ∀ (a1 : Int32) (mP mM : Mm), Rel mP mM → ∃ (r : Int32) (mP2 mM2 : Mm), f_X11_begins a1 mP = some (r, mP2) ∧ f_X12_begins a1 mM = some (r, mM2) ∧ Rel mP2 mM2
def St_ends (Rel : Mm → Mm → Prop) : Prop := ∀ (a1 : Int32) (mP mM : Mm), Rel mP mM → ∃ (r : Int32) (mP2 mM2 : Mm), f_X11_ends a1 mP = some (r, mP2) ∧ f_X12_ends a1 mM = some (r, mM2) ∧ Rel mP2 mM2
def St_now (Rel : Mm → Mm → Prop) : Prop := ∀ (a1 : Int32) (mP mM : Mm), Rel mP mM → ∃ (r : Int32) (mP2 mM2 : Mm), f_X11_now a1 mP = some (r, mP2) ∧ f_X12_now a1 mM = some (r, mM2) ∧ Rel mP2 mM2
def St_away (Rel : Mm → Mm → Prop) : Prop := ∀ (mP mM : Mm), Rel mP mM → ∃ (r : Int32) (mP2 mM2 : Mm), f_X11_away  mP = some (r, mP2) ∧ f_X12_away  mM = some (r, mM2) ∧ Rel mP2 mM2
def St_joy (Rel : Mm → Mm → Prop) : Prop := ∀ (mP mM : Mm), Rel mP mM → ∃ (r : Int32) (mP2 mM2 : Mm), f_X11_joy  mP = some (r, mP2) ∧ f_X12_joy  mM = some (r, mM2) ∧ Rel mP2 mM2
def St_day (Rel : Mm → Mm → Prop) : Prop := ∀ (mP mM : Mm), Rel mP mM → ∃ (r : Int32) (mP2 mM2 : Mm), f_X11_day  mP = some (r, mP2) ∧ f_X12_day  mM = some (r, mM2) ∧ Rel mP2 mM2
def St_mend (Rel : Mm → Mm → Prop) : Prop := ∀ (mP mM : Mm), Rel mP mM → ∃ (r : Int32) (mP2 mM2 : Mm), f_X11_mend  mP = some (r, mP2) ∧ f_X12_mend  mM = some (r, mM2) ∧ Rel mP2 mM2
def St_each (Rel : Mm → Mm → Prop) : Prop := ∀ (a1 : Int32) (mP mM : Mm), Rel mP mM → ∃ (r : Int32) (mP2 mM2 : Mm), f_X11_each a1 mP = some (r, mP2) ∧ f_X12_each a1 mM = some (r, mM2) ∧ Rel mP2 mM2
def St_open (Rel : Mm → Mm → Prop) : Prop := ∀ (a1 a2 : Int32) (mP mM : Mm), Rel mP mM → ∃ (r : Int32) (mP2 mM2 : Mm), f_X11_open a1 a2 mP = some (r, mP2) ∧ f_X12_open a1 a2 mM = some (r, mM2) ∧ Rel mP2 mM2
def St_undo (Rel : Mm → Mm → Prop) : Prop := ∀ (mP mM : Mm), Rel mP mM → ∃ (r : Int32) (mP2 mM2 : Mm), f_X11_undo  mP = some (r, mP2) ∧ f_X12_undo  mM = some (r, mM2) ∧ Rel mP2 mM2
def St_judged (Rel : Mm → Mm → Prop) : Prop := ∀ (a1 : Int32) (mP mM : Mm), Rel mP mM → ∃ (x : Option Int32) (mP2 : Mm) (r : Int32) (mM2 : Mm), f_X11_judged a1 mP = some (x, mP2) ∧ f_X12_judged a1 mM = some (r, mM2) ∧ (x = none → gI mM2 0 0 = 1) ∧ (∀ v, x = some v → gI mM2 0 0 = 0 ∧ r = v) ∧ Rel mP2 mM2
def St_best (Rel : Mm → Mm → Prop) : Prop := ∀ (a1 : Int32) (mP mM : Mm), Rel mP mM → ∃ (x : Option Int32) (mP2 : Mm) (r : Int32) (mM2 : Mm), f_X11_best a1 mP = some (x, mP2) ∧ f_X12_best a1 mM = some (r, mM2) ∧ (x = none → gI mM2 0 0 = 1) ∧ (∀ v, x = some v → gI mM2 0 0 = 0 ∧ r = v) ∧ Rel mP2 mM2
def St_hours (Rel : Mm → Mm → Prop) : Prop := ∀ (a1 : Int32) (mP mM : Mm), Rel mP mM → ∃ (r : Int32) (mP2 mM2 : Mm), f_X11_hours a1 mP = some (r, mP2) ∧ f_X12_hours a1 mM = some (r, mM2) ∧ Rel mP2 mM2
def St_when (Rel : Mm → Mm → Prop) : Prop := ∀ (a1 a2 : Int32) (mP mM : Mm), Rel mP mM → ∃ (x : Option Int32) (mP2 : Mm) (r : Int32) (mM2 : Mm), f_X11_when a1 a2 mP = some (x, mP2) ∧ f_X12_when a1 a2 mM = some (r, mM2) ∧ (x = none → gI mM2 0 0 = 1) ∧ (∀ v, x = some v → gI mM2 0 0 = 0 ∧ r = v) ∧ Rel mP2 mM2
def St_lasts (Rel : Mm → Mm → Prop) : Prop := ∀ (a1 : Int32) (mP mM : Mm), Rel mP mM → ∃ (r : Int32) (mP2 mM2 : Mm), f_X11_lasts a1 mP = some (r, mP2) ∧ f_X12_lasts a1 mM = some (r, mM2) ∧ Rel mP2 mM2
def St_without (Rel : Mm → Mm → Prop) : Prop := ∀ (a1 : Int32) (mP mM : Mm), Rel mP mM → ∃ (x : Option Int32) (mP2 : Mm) (r : Int32) (mM2 : Mm), f_X11_without a1 mP = some (x, mP2) ∧ f_X12_without a1 mM = some (r, mM2) ∧ (x = none → gI mM2 0 0 = 1) ∧ (∀ v, x = some v → gI mM2 0 0 = 0 ∧ r = v) ∧ Rel mP2 mM2
def St_rarer (Rel : Mm → Mm → Prop) : Prop := ∀ (a1 : Int32) (mP mM : Mm), Rel mP mM → ∃ (r : Int32) (mP2 mM2 : Mm), f_X11_rarer a1 mP = some (r, mP2) ∧ f_X12_rarer a1 mM = some (r, mM2) ∧ Rel mP2 mM2
def St_dare (Rel : Mm → Mm → Prop) : Prop := ∀ (a1 : Int32) (mP mM : Mm), Rel mP mM → ∃ (r : Int32) (mP2 mM2 : Mm), f_X11_dare a1 mP = some (r, mP2) ∧ f_X12_dare a1 mM = some (r, mM2) ∧ Rel mP2 mM2
def St_strikes (Rel : Mm → Mm → Prop) : Prop := ∀ (a1 a2 : Int32) (mP mM : Mm), Rel mP mM → ∃ (r : Int32) (mP2 mM2 : Mm), f_X11_strikes a1 a2 mP = some (r, mP2) ∧ f_X12_strikes a1 a2 mM = some (r, mM2) ∧ Rel mP2 mM2
def St_find (Rel : Mm → Mm → Prop) : Prop := ∀ (a1 a2 : Int32) (mP mM : Mm), Rel mP mM → ∃ (r : Int32) (mP2 mM2 : Mm), f_X11_find a1 a2 mP = some (r, mP2) ∧ f_X12_find a1 a2 mM = some (r, mM2) ∧ Rel mP2 mM2
def St_sets (Rel : Mm → Mm → Prop) : Prop := ∀ (a1 : Int32) (mP mM : Mm), Rel mP mM → ∃ (r : Int32) (mP2 mM2 : Mm), f_X11_sets a1 mP = some (r, mP2) ∧ f_X12_sets a1 mM = some (r, mM2) ∧ Rel mP2 mM2
def St_look (Rel : Mm → Mm → Prop) : Prop := ∀ (mP mM : Mm), Rel mP mM → ∃ (r : Int32) (mP2 mM2 : Mm), f_X11_look  mP = some (r, mP2) ∧ f_X12_look  mM = some (r, mM2) ∧ Rel mP2 mM2
def St_share (Rel : Mm → Mm → Prop) : Prop := ∀ (a1 : Int32) (mP mM : Mm), Rel mP mM → ∃ (r : Int32) (mP2 mM2 : Mm), f_X11_share a1 mP = some (r, mP2) ∧ f_X12_share a1 mM = some (r, mM2) ∧ Rel mP2 mM2
def St_rests (Rel : Mm → Mm → Prop) : Prop := ∀ (a1 a2 a3 a4 : Int32) (mP mM : Mm), Rel mP mM → ∃ (x : Option Int32) (mP2 : Mm) (r : Int32) (mM2 : Mm), f_X11_rests a1 a2 a3 a4 mP = some (x, mP2) ∧ f_X12_rests a1 a2 a3 a4 mM = some (r, mM2) ∧ (x = none → gI mM2 0 0 = 1) ∧ (∀ v, x = some v → gI mM2 0 0 = 0 ∧ r = v) ∧ Rel mP2 mM2
def St_rule (Rel : Mm → Mm → Prop) : Prop := ∀ (a1 a2 : Int32) (mP mM : Mm), Rel mP mM → ∃ (x : Option Int32) (mP2 : Mm) (r : Int32) (mM2 : Mm), f_X11_rule a1 a2 mP = some (x, mP2) ∧ f_X12_rule a1 a2 mM = some (r, mM2) ∧ (x = none → gI mM2 0 0 = 1) ∧ (∀ v, x = some v → gI mM2 0 0 = 0 ∧ r = v) ∧ Rel mP2 mM2
def St_months (Rel : Mm → Mm → Prop) : Prop := ∀ (a1 a2 a3 : Int32) (mP mM : Mm), Rel mP mM → ∃ (x : Option Int32) (mP2 : Mm) (r : Int32) (mM2 : Mm), f_X11_months a1 a2 a3 mP = some (x, mP2) ∧ f_X12_months a1 a2 a3 mM = some (r, mM2) ∧ (x = none → gI mM2 0 0 = 1) ∧ (∀ v, x = some v → gI mM2 0 0 = 0 ∧ r = v) ∧ Rel mP2 mM2
def St_mark (Rel : Mm → Mm → Prop) : Prop := ∀ (a1 a2 : Int32) (mP mM : Mm), (a2 = 0 ∨ a2 = 1) → Rel mP mM → ∃ (r : Int32) (mP2 mM2 : Mm), f_X11_mark a1 a2 mP = some (r, mP2) ∧ f_X12_mark a1 a2 mM = some (r, mM2) ∧ Rel mP2 mM2
def St_count (Rel : Mm → Mm → Prop) : Prop := ∀ (a1 : Int32) (mP mM : Mm), Rel mP mM → ∃ (r : Int32) (mP2 mM2 : Mm), f_X11_count a1 mP = some (r, mP2) ∧ f_X12_count a1 mM = some (r, mM2) ∧ Rel mP2 mM2
theorem thr_ok {m : Mm} {v : Int32} (h : gI m 0 0 = v) : f_X12_thrown m = some (v, m) := by
  subst h
  rfl
theorem lgc_self (x : Int64) : lg_cmp x x = 0 := by
  unfold lg_cmp
  rw [if_neg (by simp), if_pos rfl]
set_option maxHeartbeats 4000000 in
set_option maxRecDepth 100000 in
theorem lc_feed {p : Program} {l : Launch} {e : Env} {s : State} {m : MethodId} {args : Array Value} {below : List Frame} {meth : Method} {c : Code} {Q : State → Prop} {A : Nat → Prop} {dC : Nat → ClassId} {dI : Nat → Nat → Nat} {cy : Nat → ClassId} {ks : (Nat → Nat) × (Nat → Nat)} {a0 b L : Nat} {xs : Nat → Int32} {Rel : Mm → Mm → Prop} {mP mM : Mm} {ov : Int64} {ce sl : Nat} {x4 : Int32} (X : CxL p l e room_1 s m args below meth c cL_law 7 RL A dC dI cy ks a0) (hnt : l.stackTraces = false) (hX : va_X b L xs s s.heap) (hbl : b < s.heap.size) (hbA : ¬ A b) (hSt : St_feed Rel) (g1 : vp_in (x4 + 1) L) (g2 : vp_in (x4 + 2) L) (g3 : vp_in (x4 + 3) L) (g4 : vp_in (x4 + 4) L) (g5 : vp_in (x4 + 5) L) (g6 : vp_in (x4 + 6) L) (hR : Rel mP mM) (hce : ce + 1 ≤ 601024) (hsl : sl + 6 ≤ 7293034) (hk : ∀ (mP mM : Mm) (ov : Int64), Rel mP mM → JL p l e room_1 s m args below meth c 7 Q A dC dI cy a0 mP mM ov (ce + 1) (sl + 6) 1457 [(0, .ref b), (1, .ref (aP a0 0)), (2, .ref (aM a0 0)), (3, .ref (a0 + 214)), (4, .int x4)] []) : JL p l e room_1 s m args below meth c 7 Q A dC dI cy a0 mP mM ov (ce) (sl) 192 [(0, .ref b), (1, .ref (aP a0 0)), (2, .ref (aM a0 0)), (3, .ref (a0 + 214)), (4, .int x4)] [] := by
  obtain ⟨r, mP2, mM2, hp, hm, hR2⟩ := hSt ((((xs (x4 + 1).toNatClampNeg).toInt64 <<< ((32 : Int32).toInt64 &&& 63)) ||| ((xs (x4 + 2).toNatClampNeg).toInt64 &&& 4294967295))) ((((xs (x4 + 3).toNatClampNeg).toInt64 <<< ((32 : Int32).toInt64 &&& 63)) ||| ((xs (x4 + 4).toNatClampNeg).toInt64 &&& 4294967295))) ((((xs (x4 + 5).toNatClampNeg).toInt64 <<< ((32 : Int32).toInt64 &&& 63)) ||| ((xs (x4 + 6).toNatClampNeg).toInt64 &&& 4294967295))) mP mM hR
  refine l_aload_n X dL_law_192 rfl 1 rfl ?_
  refine l_aload_n X dL_law_193 rfl 0 rfl ?_
  refine l_iload X dL_law_194 4 rfl ?_
  refine l_iconst (v := 1) X dL_law_196 (by decide) ?_
  refine l_iadd X dL_law_197 ?_
  refine l_sld X hX hbl hbA g1 dL_law_198 ?_
  refine l_i2l X dL_law_199 ?_
  refine l_bipush (v := 32) X dL_law_200 (by decide) ?_
  refine l_lshl X dL_law_202 ?_
  refine l_aload_n X dL_law_203 rfl 0 rfl ?_
  refine l_iload X dL_law_204 4 rfl ?_
  refine l_iconst (v := 2) X dL_law_206 (by decide) ?_
  refine l_iadd X dL_law_207 ?_
  refine l_sld X hX hbl hbA g2 dL_law_208 ?_
  refine l_i2l X dL_law_209 ?_
  refine l_ldc2 (v := 4294967295) X dL_law_210 uw8_156 ?_
  refine l_land X dL_law_213 ?_
  refine l_lor X dL_law_214 ?_
  refine l_aload_n X dL_law_215 rfl 0 rfl ?_
  refine l_iload X dL_law_216 4 rfl ?_
  refine l_iconst (v := 3) X dL_law_218 (by decide) ?_
  refine l_iadd X dL_law_219 ?_
  refine l_sld X hX hbl hbA g3 dL_law_220 ?_
  refine l_i2l X dL_law_221 ?_
  refine l_bipush (v := 32) X dL_law_222 (by decide) ?_
  refine l_lshl X dL_law_224 ?_
  refine l_aload_n X dL_law_225 rfl 0 rfl ?_
  refine l_iload X dL_law_226 4 rfl ?_
  refine l_iconst (v := 4) X dL_law_228 (by decide) ?_
  refine l_iadd X dL_law_229 ?_
  refine l_sld X hX hbl hbA g4 dL_law_230 ?_
  refine l_i2l X dL_law_231 ?_
  refine l_ldc2 (v := 4294967295) X dL_law_232 uw8_156 ?_
  refine l_land X dL_law_235 ?_
  refine l_lor X dL_law_236 ?_
  refine l_aload_n X dL_law_237 rfl 0 rfl ?_
  refine l_iload X dL_law_238 4 rfl ?_
  refine l_iconst (v := 5) X dL_law_240 (by decide) ?_
  refine l_iadd X dL_law_241 ?_
  refine l_sld X hX hbl hbA g5 dL_law_242 ?_
  refine l_i2l X dL_law_243 ?_
  refine l_bipush (v := 32) X dL_law_244 (by decide) ?_
  refine l_lshl X dL_law_246 ?_
  refine l_aload_n X dL_law_247 rfl 0 rfl ?_
  refine l_iload X dL_law_248 4 rfl ?_
  refine l_bipush (v := 6) X dL_law_250 (by decide) ?_
  refine l_iadd X dL_law_252 ?_
  refine l_sld X hX hbl hbA g6 dL_law_253 ?_
  refine l_i2l X dL_law_254 ?_
  refine l_ldc2 (v := 4294967295) X dL_law_255 uw8_156 ?_
  refine l_land X dL_law_258 ?_
  refine l_lor X dL_law_259 ?_
  refine l_cP (As := [.long ((((xs (x4 + 1).toNatClampNeg)).toInt64 <<< ((32 : Int32).toInt64 &&& 63)) ||| (((xs (x4 + 2).toNatClampNeg)).toInt64 &&& 4294967295)), .long ((((xs (x4 + 3).toNatClampNeg)).toInt64 <<< ((32 : Int32).toInt64 &&& 63)) ||| (((xs (x4 + 4).toNatClampNeg)).toInt64 &&& 4294967295)), .long ((((xs (x4 + 5).toNatClampNeg)).toInt64 <<< ((32 : Int32).toInt64 &&& 63)) ||| (((xs (x4 + 6).toNatClampNeg)).toInt64 &&& 4294967295))]) (rest := []) X (k_X11_feed hp) uw2_235 uw2_236 uw2_237 uw1_1 uw2_238 rfl rfl dd_X11_feed ⟨Nat.le_of_ble_eq_true rfl, Nat.le_of_ble_eq_true rfl⟩ rfl (Nat.le_of_ble_eq_true rfl) (by show _ ≤ 601024; omega) (by show _ ≤ 7293034; omega) dL_law_260 rfl ?_
  refine l_aload_n X dL_law_263 rfl 2 rfl ?_
  refine l_aload_n X dL_law_264 rfl 0 rfl ?_
  refine l_iload X dL_law_265 4 rfl ?_
  refine l_iconst (v := 1) X dL_law_267 (by decide) ?_
  refine l_iadd X dL_law_268 ?_
  refine l_sld X hX hbl hbA g1 dL_law_269 ?_
  refine l_i2l X dL_law_270 ?_
  refine l_bipush (v := 32) X dL_law_271 (by decide) ?_
  refine l_lshl X dL_law_273 ?_
  refine l_aload_n X dL_law_274 rfl 0 rfl ?_
  refine l_iload X dL_law_275 4 rfl ?_
  refine l_iconst (v := 2) X dL_law_277 (by decide) ?_
  refine l_iadd X dL_law_278 ?_
  refine l_sld X hX hbl hbA g2 dL_law_279 ?_
  refine l_i2l X dL_law_280 ?_
  refine l_ldc2 (v := 4294967295) X dL_law_281 uw8_156 ?_
  refine l_land X dL_law_284 ?_
  refine l_lor X dL_law_285 ?_
  refine l_aload_n X dL_law_286 rfl 0 rfl ?_
  refine l_iload X dL_law_287 4 rfl ?_
  refine l_iconst (v := 3) X dL_law_289 (by decide) ?_
  refine l_iadd X dL_law_290 ?_
  refine l_sld X hX hbl hbA g3 dL_law_291 ?_
  refine l_i2l X dL_law_292 ?_
  refine l_bipush (v := 32) X dL_law_293 (by decide) ?_
  refine l_lshl X dL_law_295 ?_
  refine l_aload_n X dL_law_296 rfl 0 rfl ?_
  refine l_iload X dL_law_297 4 rfl ?_
  refine l_iconst (v := 4) X dL_law_299 (by decide) ?_
  refine l_iadd X dL_law_300 ?_
  refine l_sld X hX hbl hbA g4 dL_law_301 ?_
  refine l_i2l X dL_law_302 ?_
  refine l_ldc2 (v := 4294967295) X dL_law_303 uw8_156 ?_
  refine l_land X dL_law_306 ?_
  refine l_lor X dL_law_307 ?_
  refine l_aload_n X dL_law_308 rfl 0 rfl ?_
  refine l_iload X dL_law_309 4 rfl ?_
  refine l_iconst (v := 5) X dL_law_311 (by decide) ?_
  refine l_iadd X dL_law_312 ?_
  refine l_sld X hX hbl hbA g5 dL_law_313 ?_
  refine l_i2l X dL_law_314 ?_
  refine l_bipush (v := 32) X dL_law_315 (by decide) ?_
  refine l_lshl X dL_law_317 ?_
  refine l_aload_n X dL_law_318 rfl 0 rfl ?_
  refine l_iload X dL_law_319 4 rfl ?_
  refine l_bipush (v := 6) X dL_law_321 (by decide) ?_
  refine l_iadd X dL_law_323 ?_
  refine l_sld X hX hbl hbA g6 dL_law_324 ?_
  refine l_i2l X dL_law_325 ?_
  refine l_ldc2 (v := 4294967295) X dL_law_326 uw8_156 ?_
  refine l_land X dL_law_329 ?_
  refine l_lor X dL_law_330 ?_
  refine l_cM (As := [.long ((((xs (x4 + 1).toNatClampNeg)).toInt64 <<< ((32 : Int32).toInt64 &&& 63)) ||| (((xs (x4 + 2).toNatClampNeg)).toInt64 &&& 4294967295)), .long ((((xs (x4 + 3).toNatClampNeg)).toInt64 <<< ((32 : Int32).toInt64 &&& 63)) ||| (((xs (x4 + 4).toNatClampNeg)).toInt64 &&& 4294967295)), .long ((((xs (x4 + 5).toNatClampNeg)).toInt64 <<< ((32 : Int32).toInt64 &&& 63)) ||| (((xs (x4 + 6).toNatClampNeg)).toInt64 &&& 4294967295))]) (rest := [.int r]) X (k_X12_feed hm) uw6_187 uw6_188 uw6_189 uw1_13 uw6_190 rfl rfl dd_X12_feed ⟨Nat.le_of_ble_eq_true rfl, Nat.le_of_ble_eq_true rfl⟩ rfl (Nat.le_of_ble_eq_true rfl) (by show _ ≤ 601024; omega) (by show _ ≤ 7293034; omega) dL_law_331 rfl ?_
  refine l_icmp_eq_t (tgt := 1457) X dL_law_334 (by decide) rfl ?_
  refine l_widen (k := ce + 1) (n := sl + 6) (by omega) (by omega) ?_
  exact l_sub [0, 1, 2, 3, 4] rfl (hk _ _ _ hR2)
set_option maxHeartbeats 4000000 in
set_option maxRecDepth 100000 in
theorem lc_station {p : Program} {l : Launch} {e : Env} {s : State} {m : MethodId} {args : Array Value} {below : List Frame} {meth : Method} {c : Code} {Q : State → Prop} {A : Nat → Prop} {dC : Nat → ClassId} {dI : Nat → Nat → Nat} {cy : Nat → ClassId} {ks : (Nat → Nat) × (Nat → Nat)} {a0 b L : Nat} {xs : Nat → Int32} {Rel : Mm → Mm → Prop} {mP mM : Mm} {ov : Int64} {ce sl : Nat} {x4 : Int32} (X : CxL p l e room_1 s m args below meth c cL_law 7 RL A dC dI cy ks a0) (hnt : l.stackTraces = false) (hX : va_X b L xs s s.heap) (hbl : b < s.heap.size) (hbA : ¬ A b) (hSt : St_station Rel) (g1 : vp_in (x4 + 1) L) (g2 : vp_in (x4 + 2) L) (g3 : vp_in (x4 + 3) L) (g4 : vp_in (x4 + 4) L) (g5 : vp_in (x4 + 5) L) (g6 : vp_in (x4 + 6) L) (hR : Rel mP mM) (hce : ce + 1 ≤ 601024) (hsl : sl + 6 ≤ 7293034) (hk : ∀ (mP mM : Mm) (ov : Int64), Rel mP mM → JL p l e room_1 s m args below meth c 7 Q A dC dI cy a0 mP mM ov (ce + 1) (sl + 6) 1457 [(0, .ref b), (1, .ref (aP a0 0)), (2, .ref (aM a0 0)), (3, .ref (a0 + 214)), (4, .int x4)] []) : JL p l e room_1 s m args below meth c 7 Q A dC dI cy a0 mP mM ov (ce) (sl) 339 [(0, .ref b), (1, .ref (aP a0 0)), (2, .ref (aM a0 0)), (3, .ref (a0 + 214)), (4, .int x4)] [] := by
  obtain ⟨r, mP2, mM2, hp, hm, hR2⟩ := hSt  mP mM hR
  refine l_aload_n X dL_law_339 rfl 1 rfl ?_
  refine l_cP (As := []) (rest := []) X (k_X11_station hp) uw3_7 uw3_8 uw3_9 uw1_1 uw3_10 rfl rfl dd_X11_station ⟨Nat.le_of_ble_eq_true rfl, Nat.le_of_ble_eq_true rfl⟩ rfl (Nat.le_of_ble_eq_true rfl) (by show _ ≤ 601024; omega) (by show _ ≤ 7293034; omega) dL_law_340 rfl ?_
  refine l_aload_n X dL_law_343 rfl 2 rfl ?_
  refine l_cM (As := []) (rest := [.int r]) X (k_X12_station hm) uw6_192 uw6_193 uw6_194 uw1_13 uw6_195 rfl rfl dd_X12_station ⟨Nat.le_of_ble_eq_true rfl, Nat.le_of_ble_eq_true rfl⟩ rfl (Nat.le_of_ble_eq_true rfl) (by show _ ≤ 601024; omega) (by show _ ≤ 7293034; omega) dL_law_344 rfl ?_
  refine l_icmp_eq_t (tgt := 1457) X dL_law_347 (by decide) rfl ?_
  refine l_widen (k := ce + 1) (n := sl + 6) (by omega) (by omega) ?_
  exact l_sub [0, 1, 2, 3, 4] rfl (hk _ _ _ hR2)
set_option maxHeartbeats 4000000 in
set_option maxRecDepth 100000 in
theorem lc_week {p : Program} {l : Launch} {e : Env} {s : State} {m : MethodId} {args : Array Value} {below : List Frame} {meth : Method} {c : Code} {Q : State → Prop} {A : Nat → Prop} {dC : Nat → ClassId} {dI : Nat → Nat → Nat} {cy : Nat → ClassId} {ks : (Nat → Nat) × (Nat → Nat)} {a0 b L : Nat} {xs : Nat → Int32} {Rel : Mm → Mm → Prop} {mP mM : Mm} {ov : Int64} {ce sl : Nat} {x4 : Int32} (X : CxL p l e room_1 s m args below meth c cL_law 7 RL A dC dI cy ks a0) (hnt : l.stackTraces = false) (hX : va_X b L xs s s.heap) (hbl : b < s.heap.size) (hbA : ¬ A b) (hSt : St_week Rel) (g1 : vp_in (x4 + 1) L) (g2 : vp_in (x4 + 2) L) (g3 : vp_in (x4 + 3) L) (g4 : vp_in (x4 + 4) L) (g5 : vp_in (x4 + 5) L) (g6 : vp_in (x4 + 6) L) (hR : Rel mP mM) (hce : ce + 1 ≤ 601024) (hsl : sl + 6 ≤ 7293034) (hk : ∀ (mP mM : Mm) (ov : Int64), Rel mP mM → JL p l e room_1 s m args below meth c 7 Q A dC dI cy a0 mP mM ov (ce + 1) (sl + 6) 1457 [(0, .ref b), (1, .ref (aP a0 0)), (2, .ref (aM a0 0)), (3, .ref (a0 + 214)), (4, .int x4)] []) : JL p l e room_1 s m args below meth c 7 Q A dC dI cy a0 mP mM ov (ce) (sl) 352 [(0, .ref b), (1, .ref (aP a0 0)), (2, .ref (aM a0 0)), (3, .ref (a0 + 214)), (4, .int x4)] [] := by
  obtain ⟨r, mP2, mM2, hp, hm, hR2⟩ := hSt  mP mM hR
  refine l_aload_n X dL_law_352 rfl 1 rfl ?_
  refine l_cP (As := []) (rest := []) X (k_X11_week hp) uw4_14 uw4_15 uw4_16 uw1_1 uw4_17 rfl rfl dd_X11_week ⟨Nat.le_of_ble_eq_true rfl, Nat.le_of_ble_eq_true rfl⟩ rfl (Nat.le_of_ble_eq_true rfl) (by show _ ≤ 601024; omega) (by show _ ≤ 7293034; omega) dL_law_353 rfl ?_
  refine l_aload_n X dL_law_356 rfl 2 rfl ?_
  refine l_cM (As := []) (rest := [.int r]) X (k_X12_week hm) uw7_97 uw7_98 uw7_99 uw1_13 uw7_100 rfl rfl dd_X12_week ⟨Nat.le_of_ble_eq_true rfl, Nat.le_of_ble_eq_true rfl⟩ rfl (Nat.le_of_ble_eq_true rfl) (by show _ ≤ 601024; omega) (by show _ ≤ 7293034; omega) dL_law_357 rfl ?_
  refine l_icmp_eq_t (tgt := 1457) X dL_law_360 (by decide) rfl ?_
  refine l_widen (k := ce + 1) (n := sl + 6) (by omega) (by omega) ?_
  exact l_sub [0, 1, 2, 3, 4] rfl (hk _ _ _ hR2)
set_option maxHeartbeats 4000000 in
set_option maxRecDepth 100000 in
theorem lc_passer {p : Program} {l : Launch} {e : Env} {s : State} {m : MethodId} {args : Array Value} {below : List Frame} {meth : Method} {c : Code} {Q : State → Prop} {A : Nat → Prop} {dC : Nat → ClassId} {dI : Nat → Nat → Nat} {cy : Nat → ClassId} {ks : (Nat → Nat) × (Nat → Nat)} {a0 b L : Nat} {xs : Nat → Int32} {Rel : Mm → Mm → Prop} {mP mM : Mm} {ov : Int64} {ce sl : Nat} {x4 : Int32} (X : CxL p l e room_1 s m args below meth c cL_law 7 RL A dC dI cy ks a0) (hnt : l.stackTraces = false) (hX : va_X b L xs s s.heap) (hbl : b < s.heap.size) (hbA : ¬ A b) (hSt : St_passer Rel) (g1 : vp_in (x4 + 1) L) (g2 : vp_in (x4 + 2) L) (g3 : vp_in (x4 + 3) L) (g4 : vp_in (x4 + 4) L) (g5 : vp_in (x4 + 5) L) (g6 : vp_in (x4 + 6) L) (hR : Rel mP mM) (hce : ce + 1 ≤ 601024) (hsl : sl + 6 ≤ 7293034) (hk : ∀ (mP mM : Mm) (ov : Int64), Rel mP mM → JL p l e room_1 s m args below meth c 7 Q A dC dI cy a0 mP mM ov (ce + 1) (sl + 6) 1457 [(0, .ref b), (1, .ref (aP a0 0)), (2, .ref (aM a0 0)), (3, .ref (a0 + 214)), (4, .int x4)] []) : JL p l e room_1 s m args below meth c 7 Q A dC dI cy a0 mP mM ov (ce) (sl) 365 [(0, .ref b), (1, .ref (aP a0 0)), (2, .ref (aM a0 0)), (3, .ref (a0 + 214)), (4, .int x4)] [] := by
  obtain ⟨r, mP2, mM2, hp, hm, hR2⟩ := hSt (xs (x4 + 1).toNatClampNeg) (xs (x4 + 2).toNatClampNeg) mP mM hR
  refine l_aload_n X dL_law_365 rfl 1 rfl ?_
  refine l_aload_n X dL_law_366 rfl 0 rfl ?_
  refine l_iload X dL_law_367 4 rfl ?_
  refine l_iconst (v := 1) X dL_law_369 (by decide) ?_
  refine l_iadd X dL_law_370 ?_
  refine l_sld X hX hbl hbA g1 dL_law_371 ?_
  refine l_aload_n X dL_law_372 rfl 0 rfl ?_
  refine l_iload X dL_law_373 4 rfl ?_
  refine l_iconst (v := 2) X dL_law_375 (by decide) ?_
  refine l_iadd X dL_law_376 ?_
  refine l_sld X hX hbl hbA g2 dL_law_377 ?_
  refine l_cP (As := [.int (xs (x4 + 1).toNatClampNeg), .int (xs (x4 + 2).toNatClampNeg)]) (rest := []) X (k_X11_passer hp) uw4_34 uw4_35 uw4_36 uw1_1 uw4_37 rfl rfl dd_X11_passer ⟨Nat.le_of_ble_eq_true rfl, Nat.le_of_ble_eq_true rfl⟩ rfl (Nat.le_of_ble_eq_true rfl) (by show _ ≤ 601024; omega) (by show _ ≤ 7293034; omega) dL_law_378 rfl ?_
  refine l_aload_n X dL_law_381 rfl 2 rfl ?_
  refine l_aload_n X dL_law_382 rfl 0 rfl ?_
  refine l_iload X dL_law_383 4 rfl ?_
  refine l_iconst (v := 1) X dL_law_385 (by decide) ?_
  refine l_iadd X dL_law_386 ?_
  refine l_sld X hX hbl hbA g1 dL_law_387 ?_
  refine l_aload_n X dL_law_388 rfl 0 rfl ?_
  refine l_iload X dL_law_389 4 rfl ?_
  refine l_iconst (v := 2) X dL_law_391 (by decide) ?_
  refine l_iadd X dL_law_392 ?_
  refine l_sld X hX hbl hbA g2 dL_law_393 ?_
  refine l_cM (As := [.int (xs (x4 + 1).toNatClampNeg), .int (xs (x4 + 2).toNatClampNeg)]) (rest := [.int r]) X (k_X12_passer hm) uw7_109 uw7_110 uw7_111 uw1_13 uw7_112 rfl rfl dd_X12_passer ⟨Nat.le_of_ble_eq_true rfl, Nat.le_of_ble_eq_true rfl⟩ rfl (Nat.le_of_ble_eq_true rfl) (by show _ ≤ 601024; omega) (by show _ ≤ 7293034; omega) dL_law_394 rfl ?_
  refine l_icmp_eq_t (tgt := 1457) X dL_law_397 (by decide) rfl ?_
  refine l_widen (k := ce + 1) (n := sl + 6) (by omega) (by omega) ?_
  exact l_sub [0, 1, 2, 3, 4] rfl (hk _ _ _ hR2)
set_option maxHeartbeats 4000000 in
set_option maxRecDepth 100000 in
theorem lc_tune {p : Program} {l : Launch} {e : Env} {s : State} {m : MethodId} {args : Array Value} {below : List Frame} {meth : Method} {c : Code} {Q : State → Prop} {A : Nat → Prop} {dC : Nat → ClassId} {dI : Nat → Nat → Nat} {cy : Nat → ClassId} {ks : (Nat → Nat) × (Nat → Nat)} {a0 b L : Nat} {xs : Nat → Int32} {Rel : Mm → Mm → Prop} {mP mM : Mm} {ov : Int64} {ce sl : Nat} {x4 : Int32} (X : CxL p l e room_1 s m args below meth c cL_law 7 RL A dC dI cy ks a0) (hnt : l.stackTraces = false) (hX : va_X b L xs s s.heap) (hbl : b < s.heap.size) (hbA : ¬ A b) (hSt : St_tune Rel) (g1 : vp_in (x4 + 1) L) (g2 : vp_in (x4 + 2) L) (g3 : vp_in (x4 + 3) L) (g4 : vp_in (x4 + 4) L) (g5 : vp_in (x4 + 5) L) (g6 : vp_in (x4 + 6) L) (hR : Rel mP mM) (hce : ce + 1 ≤ 601024) (hsl : sl + 6 ≤ 7293034) (hk : ∀ (mP mM : Mm) (ov : Int64), Rel mP mM → JL p l e room_1 s m args below meth c 7 Q A dC dI cy a0 mP mM ov (ce + 1) (sl + 6) 1457 [(0, .ref b), (1, .ref (aP a0 0)), (2, .ref (aM a0 0)), (3, .ref (a0 + 214)), (4, .int x4)] []) : JL p l e room_1 s m args below meth c 7 Q A dC dI cy a0 mP mM ov (ce) (sl) 402 [(0, .ref b), (1, .ref (aP a0 0)), (2, .ref (aM a0 0)), (3, .ref (a0 + 214)), (4, .int x4)] [] := by
  obtain ⟨r, mP2, mM2, hp, hm, hR2⟩ := hSt (xs (x4 + 1).toNatClampNeg) (xs (x4 + 2).toNatClampNeg) mP mM hR
  refine l_aload_n X dL_law_402 rfl 1 rfl ?_
  refine l_aload_n X dL_law_403 rfl 0 rfl ?_
  refine l_iload X dL_law_404 4 rfl ?_
  refine l_iconst (v := 1) X dL_law_406 (by decide) ?_
  refine l_iadd X dL_law_407 ?_
  refine l_sld X hX hbl hbA g1 dL_law_408 ?_
  refine l_aload_n X dL_law_409 rfl 0 rfl ?_
  refine l_iload X dL_law_410 4 rfl ?_
  refine l_iconst (v := 2) X dL_law_412 (by decide) ?_
  refine l_iadd X dL_law_413 ?_
  refine l_sld X hX hbl hbA g2 dL_law_414 ?_
  refine l_cP (As := [.int (xs (x4 + 1).toNatClampNeg), .int (xs (x4 + 2).toNatClampNeg)]) (rest := []) X (k_X11_tune hp) uw4_46 uw4_47 uw4_48 uw1_1 uw4_49 rfl rfl dd_X11_tune ⟨Nat.le_of_ble_eq_true rfl, Nat.le_of_ble_eq_true rfl⟩ rfl (Nat.le_of_ble_eq_true rfl) (by show _ ≤ 601024; omega) (by show _ ≤ 7293034; omega) dL_law_415 rfl ?_
  refine l_aload_n X dL_law_418 rfl 2 rfl ?_
  refine l_aload_n X dL_law_419 rfl 0 rfl ?_
  refine l_iload X dL_law_420 4 rfl ?_
  refine l_iconst (v := 1) X dL_law_422 (by decide) ?_
  refine l_iadd X dL_law_423 ?_
  refine l_sld X hX hbl hbA g1 dL_law_424 ?_
  refine l_aload_n X dL_law_425 rfl 0 rfl ?_
  refine l_iload X dL_law_426 4 rfl ?_
  refine l_iconst (v := 2) X dL_law_428 (by decide) ?_
  refine l_iadd X dL_law_429 ?_
  refine l_sld X hX hbl hbA g2 dL_law_430 ?_
  refine l_cM (As := [.int (xs (x4 + 1).toNatClampNeg), .int (xs (x4 + 2).toNatClampNeg)]) (rest := [.int r]) X (k_X12_tune hm) uw7_122 uw7_123 uw7_124 uw1_13 uw7_125 rfl rfl dd_X12_tune ⟨Nat.le_of_ble_eq_true rfl, Nat.le_of_ble_eq_true rfl⟩ rfl (Nat.le_of_ble_eq_true rfl) (by show _ ≤ 601024; omega) (by show _ ≤ 7293034; omega) dL_law_431 rfl ?_
  refine l_icmp_eq_t (tgt := 1457) X dL_law_434 (by decide) rfl ?_
  refine l_widen (k := ce + 1) (n := sl + 6) (by omega) (by omega) ?_
  exact l_sub [0, 1, 2, 3, 4] rfl (hk _ _ _ hR2)
set_option maxHeartbeats 4000000 in
set_option maxRecDepth 100000 in
theorem lc_key {p : Program} {l : Launch} {e : Env} {s : State} {m : MethodId} {args : Array Value} {below : List Frame} {meth : Method} {c : Code} {Q : State → Prop} {A : Nat → Prop} {dC : Nat → ClassId} {dI : Nat → Nat → Nat} {cy : Nat → ClassId} {ks : (Nat → Nat) × (Nat → Nat)} {a0 b L : Nat} {xs : Nat → Int32} {Rel : Mm → Mm → Prop} {mP mM : Mm} {ov : Int64} {ce sl : Nat} {x4 : Int32} (X : CxL p l e room_1 s m args below meth c cL_law 7 RL A dC dI cy ks a0) (hnt : l.stackTraces = false) (hX : va_X b L xs s s.heap) (hbl : b < s.heap.size) (hbA : ¬ A b) (hSt : St_key Rel) (g1 : vp_in (x4 + 1) L) (g2 : vp_in (x4 + 2) L) (g3 : vp_in (x4 + 3) L) (g4 : vp_in (x4 + 4) L) (g5 : vp_in (x4 + 5) L) (g6 : vp_in (x4 + 6) L) (hR : Rel mP mM) (hce : ce + 1 ≤ 601024) (hsl : sl + 6 ≤ 7293034) (hk : ∀ (mP mM : Mm) (ov : Int64), Rel mP mM → JL p l e room_1 s m args below meth c 7 Q A dC dI cy a0 mP mM ov (ce + 1) (sl + 6) 1457 [(0, .ref b), (1, .ref (aP a0 0)), (2, .ref (aM a0 0)), (3, .ref (a0 + 214)), (4, .int x4)] []) : JL p l e room_1 s m args below meth c 7 Q A dC dI cy a0 mP mM ov (ce) (sl) 439 [(0, .ref b), (1, .ref (aP a0 0)), (2, .ref (aM a0 0)), (3, .ref (a0 + 214)), (4, .int x4)] [] := by
  obtain ⟨r, mP2, mM2, hp, hm, hR2⟩ := hSt (xs (x4 + 1).toNatClampNeg) mP mM hR
  refine l_aload_n X dL_law_439 rfl 1 rfl ?_
  refine l_aload_n X dL_law_440 rfl 0 rfl ?_
  refine l_iload X dL_law_441 4 rfl ?_
  refine l_iconst (v := 1) X dL_law_443 (by decide) ?_
  refine l_iadd X dL_law_444 ?_
  refine l_sld X hX hbl hbA g1 dL_law_445 ?_
  refine l_cP (As := [.int (xs (x4 + 1).toNatClampNeg)]) (rest := []) X (k_X11_key hp) uw4_50 uw4_51 uw4_52 uw1_1 uw4_53 rfl rfl dd_X11_key ⟨Nat.le_of_ble_eq_true rfl, Nat.le_of_ble_eq_true rfl⟩ rfl (Nat.le_of_ble_eq_true rfl) (by show _ ≤ 601024; omega) (by show _ ≤ 7293034; omega) dL_law_446 rfl ?_
  refine l_aload_n X dL_law_449 rfl 2 rfl ?_
  refine l_aload_n X dL_law_450 rfl 0 rfl ?_
  refine l_iload X dL_law_451 4 rfl ?_
  refine l_iconst (v := 1) X dL_law_453 (by decide) ?_
  refine l_iadd X dL_law_454 ?_
  refine l_sld X hX hbl hbA g1 dL_law_455 ?_
  refine l_cM (As := [.int (xs (x4 + 1).toNatClampNeg)]) (rest := [.int r]) X (k_X12_key hm) uw7_126 uw7_127 uw7_128 uw1_13 uw7_129 rfl rfl dd_X12_key ⟨Nat.le_of_ble_eq_true rfl, Nat.le_of_ble_eq_true rfl⟩ rfl (Nat.le_of_ble_eq_true rfl) (by show _ ≤ 601024; omega) (by show _ ≤ 7293034; omega) dL_law_456 rfl ?_
  refine l_icmp_eq_t (tgt := 1457) X dL_law_459 (by decide) rfl ?_
  refine l_widen (k := ce + 1) (n := sl + 6) (by omega) (by omega) ?_
  exact l_sub [0, 1, 2, 3, 4] rfl (hk _ _ _ hR2)
set_option maxHeartbeats 4000000 in
set_option maxRecDepth 100000 in
theorem lc_begins {p : Program} {l : Launch} {e : Env} {s : State} {m : MethodId} {args : Array Value} {below : List Frame} {meth : Method} {c : Code} {Q : State → Prop} {A : Nat → Prop} {dC : Nat → ClassId} {dI : Nat → Nat → Nat} {cy : Nat → ClassId} {ks : (Nat → Nat) × (Nat → Nat)} {a0 b L : Nat} {xs : Nat → Int32} {Rel : Mm → Mm → Prop} {mP mM : Mm} {ov : Int64} {ce sl : Nat} {x4 : Int32} (X : CxL p l e room_1 s m args below meth c cL_law 7 RL A dC dI cy ks a0) (hnt : l.stackTraces = false) (hX : va_X b L xs s s.heap) (hbl : b < s.heap.size) (hbA : ¬ A b) (hSt : St_begins Rel) (g1 : vp_in (x4 + 1) L) (g2 : vp_in (x4 + 2) L) (g3 : vp_in (x4 + 3) L) (g4 : vp_in (x4 + 4) L) (g5 : vp_in (x4 + 5) L) (g6 : vp_in (x4 + 6) L) (hR : Rel mP mM) (hce : ce + 1 ≤ 601024) (hsl : sl + 6 ≤ 7293034) (hk : ∀ (mP mM : Mm) (ov : Int64), Rel mP mM → JL p l e room_1 s m args below meth c 7 Q A dC dI cy a0 mP mM ov (ce + 1) (sl + 6) 1457 [(0, .ref b), (1, .ref (aP a0 0)), (2, .ref (aM a0 0)), (3, .ref (a0 + 214)), (4, .int x4)] []) : JL p l e room_1 s m args below meth c 7 Q A dC dI cy a0 mP mM ov (ce) (sl) 464 [(0, .ref b), (1, .ref (aP a0 0)), (2, .ref (aM a0 0)), (3, .ref (a0 + 214)), (4, .int x4)] [] := by
  obtain ⟨r, mP2, mM2, hp, hm, hR2⟩ := hSt (xs (x4 + 1).toNatClampNeg) mP mM hR
  refine l_aload_n X dL_law_464 rfl 1 rfl ?_
  refine l_aload_n X dL_law_465 rfl 0 rfl ?_
  refine l_iload X dL_law_466 4 rfl ?_
  refine l_iconst (v := 1) X dL_law_468 (by decide) ?_
  refine l_iadd X dL_law_469 ?_
  refine l_sld X hX hbl hbA g1 dL_law_470 ?_
  refine l_cP (As := [.int (xs (x4 + 1).toNatClampNeg)]) (rest := []) X (k_X11_begins hp) uw4_57 uw4_58 uw4_59 uw1_1 uw4_60 rfl rfl dd_X11_begins ⟨Nat.le_of_ble_eq_true rfl, Nat.le_of_ble_eq_true rfl⟩ rfl (Nat.le_of_ble_eq_true rfl) (by show _ ≤ 601024; omega) (by show _ ≤ 7293034; omega) dL_law_471 rfl ?_
  refine l_aload_n X dL_law_474 rfl 2 rfl ?_
  refine l_aload_n X dL_law_475 rfl 0 rfl ?_
  refine l_iload X dL_law_476 4 rfl ?_
  refine l_iconst (v := 1) X dL_law_478 (by decide) ?_
  refine l_iadd X dL_law_479 ?_
  refine l_sld X hX hbl hbA g1 dL_law_480 ?_
  refine l_cM (As := [.int (xs (x4 + 1).toNatClampNeg)]) (rest := [.int r]) X (k_X12_begins hm) uw7_134 uw7_135 uw7_136 uw1_13 uw7_137 rfl rfl dd_X12_begins ⟨Nat.le_of_ble_eq_true rfl, Nat.le_of_ble_eq_true rfl⟩ rfl (Nat.le_of_ble_eq_true rfl) (by show _ ≤ 601024; omega) (by show _ ≤ 7293034; omega) dL_law_481 rfl ?_
  refine l_icmp_eq_t (tgt := 1457) X dL_law_484 (by decide) rfl ?_
  refine l_widen (k := ce + 1) (n := sl + 6) (by omega) (by omega) ?_
  exact l_sub [0, 1, 2, 3, 4] rfl (hk _ _ _ hR2)
set_option maxHeartbeats 4000000 in
set_option maxRecDepth 100000 in
theorem lc_ends {p : Program} {l : Launch} {e : Env} {s : State} {m : MethodId} {args : Array Value} {below : List Frame} {meth : Method} {c : Code} {Q : State → Prop} {A : Nat → Prop} {dC : Nat → ClassId} {dI : Nat → Nat → Nat} {cy : Nat → ClassId} {ks : (Nat → Nat) × (Nat → Nat)} {a0 b L : Nat} {xs : Nat → Int32} {Rel : Mm → Mm → Prop} {mP mM : Mm} {ov : Int64} {ce sl : Nat} {x4 : Int32} (X : CxL p l e room_1 s m args below meth c cL_law 7 RL A dC dI cy ks a0) (hnt : l.stackTraces = false) (hX : va_X b L xs s s.heap) (hbl : b < s.heap.size) (hbA : ¬ A b) (hSt : St_ends Rel) (g1 : vp_in (x4 + 1) L) (g2 : vp_in (x4 + 2) L) (g3 : vp_in (x4 + 3) L) (g4 : vp_in (x4 + 4) L) (g5 : vp_in (x4 + 5) L) (g6 : vp_in (x4 + 6) L) (hR : Rel mP mM) (hce : ce + 1 ≤ 601024) (hsl : sl + 6 ≤ 7293034) (hk : ∀ (mP mM : Mm) (ov : Int64), Rel mP mM → JL p l e room_1 s m args below meth c 7 Q A dC dI cy a0 mP mM ov (ce + 1) (sl + 6) 1457 [(0, .ref b), (1, .ref (aP a0 0)), (2, .ref (aM a0 0)), (3, .ref (a0 + 214)), (4, .int x4)] []) : JL p l e room_1 s m args below meth c 7 Q A dC dI cy a0 mP mM ov (ce) (sl) 489 [(0, .ref b), (1, .ref (aP a0 0)), (2, .ref (aM a0 0)), (3, .ref (a0 + 214)), (4, .int x4)] [] := by
  obtain ⟨r, mP2, mM2, hp, hm, hR2⟩ := hSt (xs (x4 + 1).toNatClampNeg) mP mM hR
  refine l_aload_n X dL_law_489 rfl 1 rfl ?_
  refine l_aload_n X dL_law_490 rfl 0 rfl ?_
  refine l_iload X dL_law_491 4 rfl ?_
  refine l_iconst (v := 1) X dL_law_493 (by decide) ?_
  refine l_iadd X dL_law_494 ?_
  refine l_sld X hX hbl hbA g1 dL_law_495 ?_
  refine l_cP (As := [.int (xs (x4 + 1).toNatClampNeg)]) (rest := []) X (k_X11_ends hp) uw4_141 uw4_142 uw4_143 uw1_1 uw4_144 rfl rfl dd_X11_ends ⟨Nat.le_of_ble_eq_true rfl, Nat.le_of_ble_eq_true rfl⟩ rfl (Nat.le_of_ble_eq_true rfl) (by show _ ≤ 601024; omega) (by show _ ≤ 7293034; omega) dL_law_496 rfl ?_
  refine l_aload_n X dL_law_499 rfl 2 rfl ?_
  refine l_aload_n X dL_law_500 rfl 0 rfl ?_
  refine l_iload X dL_law_501 4 rfl ?_
  refine l_iconst (v := 1) X dL_law_503 (by decide) ?_
  refine l_iadd X dL_law_504 ?_
  refine l_sld X hX hbl hbA g1 dL_law_505 ?_
  refine l_cM (As := [.int (xs (x4 + 1).toNatClampNeg)]) (rest := [.int r]) X (k_X12_ends hm) uw7_220 uw7_221 uw7_222 uw1_13 uw7_223 rfl rfl dd_X12_ends ⟨Nat.le_of_ble_eq_true rfl, Nat.le_of_ble_eq_true rfl⟩ rfl (Nat.le_of_ble_eq_true rfl) (by show _ ≤ 601024; omega) (by show _ ≤ 7293034; omega) dL_law_506 rfl ?_
  refine l_icmp_eq_t (tgt := 1457) X dL_law_509 (by decide) rfl ?_
  refine l_widen (k := ce + 1) (n := sl + 6) (by omega) (by omega) ?_
  exact l_sub [0, 1, 2, 3, 4] rfl (hk _ _ _ hR2)
set_option maxHeartbeats 4000000 in
set_option maxRecDepth 100000 in
theorem lc_now {p : Program} {l : Launch} {e : Env} {s : State} {m : MethodId} {args : Array Value} {below : List Frame} {meth : Method} {c : Code} {Q : State → Prop} {A : Nat → Prop} {dC : Nat → ClassId} {dI : Nat → Nat → Nat} {cy : Nat → ClassId} {ks : (Nat → Nat) × (Nat → Nat)} {a0 b L : Nat} {xs : Nat → Int32} {Rel : Mm → Mm → Prop} {mP mM : Mm} {ov : Int64} {ce sl : Nat} {x4 : Int32} (X : CxL p l e room_1 s m args below meth c cL_law 7 RL A dC dI cy ks a0) (hnt : l.stackTraces = false) (hX : va_X b L xs s s.heap) (hbl : b < s.heap.size) (hbA : ¬ A b) (hSt : St_now Rel) (g1 : vp_in (x4 + 1) L) (g2 : vp_in (x4 + 2) L) (g3 : vp_in (x4 + 3) L) (g4 : vp_in (x4 + 4) L) (g5 : vp_in (x4 + 5) L) (g6 : vp_in (x4 + 6) L) (hR : Rel mP mM) (hce : ce + 1 ≤ 601024) (hsl : sl + 6 ≤ 7293034) (hk : ∀ (mP mM : Mm) (ov : Int64), Rel mP mM → JL p l e room_1 s m args below meth c 7 Q A dC dI cy a0 mP mM ov (ce + 1) (sl + 6) 1457 [(0, .ref b), (1, .ref (aP a0 0)), (2, .ref (aM a0 0)), (3, .ref (a0 + 214)), (4, .int x4)] []) : JL p l e room_1 s m args below meth c 7 Q A dC dI cy a0 mP mM ov (ce) (sl) 514 [(0, .ref b), (1, .ref (aP a0 0)), (2, .ref (aM a0 0)), (3, .ref (a0 + 214)), (4, .int x4)] [] := by
  obtain ⟨r, mP2, mM2, hp, hm, hR2⟩ := hSt (xs (x4 + 1).toNatClampNeg) mP mM hR
  refine l_aload_n X dL_law_514 rfl 1 rfl ?_
  refine l_aload_n X dL_law_515 rfl 0 rfl ?_
  refine l_iload X dL_law_516 4 rfl ?_
  refine l_iconst (v := 1) X dL_law_518 (by decide) ?_
  refine l_iadd X dL_law_519 ?_
  refine l_sld X hX hbl hbA g1 dL_law_520 ?_
  refine l_cP (As := [.int (xs (x4 + 1).toNatClampNeg)]) (rest := []) X (k_X11_now hp) uw4_145 uw4_146 uw4_147 uw1_1 uw4_148 rfl rfl dd_X11_now ⟨Nat.le_of_ble_eq_true rfl, Nat.le_of_ble_eq_true rfl⟩ rfl (Nat.le_of_ble_eq_true rfl) (by show _ ≤ 601024; omega) (by show _ ≤ 7293034; omega) dL_law_521 rfl ?_
  refine l_aload_n X dL_law_524 rfl 2 rfl ?_
  refine l_aload_n X dL_law_525 rfl 0 rfl ?_
  refine l_iload X dL_law_526 4 rfl ?_
  refine l_iconst (v := 1) X dL_law_528 (by decide) ?_
  refine l_iadd X dL_law_529 ?_
  refine l_sld X hX hbl hbA g1 dL_law_530 ?_
  refine l_cM (As := [.int (xs (x4 + 1).toNatClampNeg)]) (rest := [.int r]) X (k_X12_now hm) uw7_224 uw7_225 uw7_226 uw1_13 uw7_227 rfl rfl dd_X12_now ⟨Nat.le_of_ble_eq_true rfl, Nat.le_of_ble_eq_true rfl⟩ rfl (Nat.le_of_ble_eq_true rfl) (by show _ ≤ 601024; omega) (by show _ ≤ 7293034; omega) dL_law_531 rfl ?_
  refine l_icmp_eq_t (tgt := 1457) X dL_law_534 (by decide) rfl ?_
  refine l_widen (k := ce + 1) (n := sl + 6) (by omega) (by omega) ?_
  exact l_sub [0, 1, 2, 3, 4] rfl (hk _ _ _ hR2)
set_option maxHeartbeats 4000000 in
set_option maxRecDepth 100000 in
theorem lc_away {p : Program} {l : Launch} {e : Env} {s : State} {m : MethodId} {args : Array Value} {below : List Frame} {meth : Method} {c : Code} {Q : State → Prop} {A : Nat → Prop} {dC : Nat → ClassId} {dI : Nat → Nat → Nat} {cy : Nat → ClassId} {ks : (Nat → Nat) × (Nat → Nat)} {a0 b L : Nat} {xs : Nat → Int32} {Rel : Mm → Mm → Prop} {mP mM : Mm} {ov : Int64} {ce sl : Nat} {x4 : Int32} (X : CxL p l e room_1 s m args below meth c cL_law 7 RL A dC dI cy ks a0) (hnt : l.stackTraces = false) (hX : va_X b L xs s s.heap) (hbl : b < s.heap.size) (hbA : ¬ A b) (hSt : St_away Rel) (g1 : vp_in (x4 + 1) L) (g2 : vp_in (x4 + 2) L) (g3 : vp_in (x4 + 3) L) (g4 : vp_in (x4 + 4) L) (g5 : vp_in (x4 + 5) L) (g6 : vp_in (x4 + 6) L) (hR : Rel mP mM) (hce : ce + 1 ≤ 601024) (hsl : sl + 6 ≤ 7293034) (hk : ∀ (mP mM : Mm) (ov : Int64), Rel mP mM → JL p l e room_1 s m args below meth c 7 Q A dC dI cy a0 mP mM ov (ce + 1) (sl + 6) 1457 [(0, .ref b), (1, .ref (aP a0 0)), (2, .ref (aM a0 0)), (3, .ref (a0 + 214)), (4, .int x4)] []) : JL p l e room_1 s m args below meth c 7 Q A dC dI cy a0 mP mM ov (ce) (sl) 539 [(0, .ref b), (1, .ref (aP a0 0)), (2, .ref (aM a0 0)), (3, .ref (a0 + 214)), (4, .int x4)] [] := by
  obtain ⟨r, mP2, mM2, hp, hm, hR2⟩ := hSt  mP mM hR
  refine l_aload_n X dL_law_539 rfl 1 rfl ?_
  refine l_cP (As := []) (rest := []) X (k_X11_away hp) uw4_149 uw4_150 uw4_151 uw1_1 uw4_152 rfl rfl dd_X11_away ⟨Nat.le_of_ble_eq_true rfl, Nat.le_of_ble_eq_true rfl⟩ rfl (Nat.le_of_ble_eq_true rfl) (by show _ ≤ 601024; omega) (by show _ ≤ 7293034; omega) dL_law_540 rfl ?_
  refine l_aload_n X dL_law_543 rfl 2 rfl ?_
  refine l_cM (As := []) (rest := [.int r]) X (k_X12_away hm) uw7_228 uw7_229 uw7_230 uw1_13 uw7_231 rfl rfl dd_X12_away ⟨Nat.le_of_ble_eq_true rfl, Nat.le_of_ble_eq_true rfl⟩ rfl (Nat.le_of_ble_eq_true rfl) (by show _ ≤ 601024; omega) (by show _ ≤ 7293034; omega) dL_law_544 rfl ?_
  refine l_icmp_eq_t (tgt := 1457) X dL_law_547 (by decide) rfl ?_
  refine l_widen (k := ce + 1) (n := sl + 6) (by omega) (by omega) ?_
  exact l_sub [0, 1, 2, 3, 4] rfl (hk _ _ _ hR2)
set_option maxHeartbeats 4000000 in
set_option maxRecDepth 100000 in
theorem lc_joy {p : Program} {l : Launch} {e : Env} {s : State} {m : MethodId} {args : Array Value} {below : List Frame} {meth : Method} {c : Code} {Q : State → Prop} {A : Nat → Prop} {dC : Nat → ClassId} {dI : Nat → Nat → Nat} {cy : Nat → ClassId} {ks : (Nat → Nat) × (Nat → Nat)} {a0 b L : Nat} {xs : Nat → Int32} {Rel : Mm → Mm → Prop} {mP mM : Mm} {ov : Int64} {ce sl : Nat} {x4 : Int32} (X : CxL p l e room_1 s m args below meth c cL_law 7 RL A dC dI cy ks a0) (hnt : l.stackTraces = false) (hX : va_X b L xs s s.heap) (hbl : b < s.heap.size) (hbA : ¬ A b) (hSt : St_joy Rel) (g1 : vp_in (x4 + 1) L) (g2 : vp_in (x4 + 2) L) (g3 : vp_in (x4 + 3) L) (g4 : vp_in (x4 + 4) L) (g5 : vp_in (x4 + 5) L) (g6 : vp_in (x4 + 6) L) (hR : Rel mP mM) (hce : ce + 1 ≤ 601024) (hsl : sl + 6 ≤ 7293034) (hk : ∀ (mP mM : Mm) (ov : Int64), Rel mP mM → JL p l e room_1 s m args below meth c 7 Q A dC dI cy a0 mP mM ov (ce + 1) (sl + 6) 1457 [(0, .ref b), (1, .ref (aP a0 0)), (2, .ref (aM a0 0)), (3, .ref (a0 + 214)), (4, .int x4)] []) : JL p l e room_1 s m args below meth c 7 Q A dC dI cy a0 mP mM ov (ce) (sl) 552 [(0, .ref b), (1, .ref (aP a0 0)), (2, .ref (aM a0 0)), (3, .ref (a0 + 214)), (4, .int x4)] [] := by
  obtain ⟨r, mP2, mM2, hp, hm, hR2⟩ := hSt  mP mM hR
  refine l_aload_n X dL_law_552 rfl 1 rfl ?_
  refine l_cP (As := []) (rest := []) X (k_X11_joy hp) uw4_153 uw4_154 uw4_155 uw1_1 uw4_156 rfl rfl dd_X11_joy ⟨Nat.le_of_ble_eq_true rfl, Nat.le_of_ble_eq_true rfl⟩ rfl (Nat.le_of_ble_eq_true rfl) (by show _ ≤ 601024; omega) (by show _ ≤ 7293034; omega) dL_law_553 rfl ?_
  refine l_aload_n X dL_law_556 rfl 2 rfl ?_
  refine l_cM (As := []) (rest := [.int r]) X (k_X12_joy hm) uw7_232 uw7_233 uw7_234 uw1_13 uw7_235 rfl rfl dd_X12_joy ⟨Nat.le_of_ble_eq_true rfl, Nat.le_of_ble_eq_true rfl⟩ rfl (Nat.le_of_ble_eq_true rfl) (by show _ ≤ 601024; omega) (by show _ ≤ 7293034; omega) dL_law_557 rfl ?_
  refine l_icmp_eq_t (tgt := 1457) X dL_law_560 (by decide) rfl ?_
  refine l_widen (k := ce + 1) (n := sl + 6) (by omega) (by omega) ?_
  exact l_sub [0, 1, 2, 3, 4] rfl (hk _ _ _ hR2)
set_option maxHeartbeats 4000000 in
set_option maxRecDepth 100000 in
theorem lc_day {p : Program} {l : Launch} {e : Env} {s : State} {m : MethodId} {args : Array Value} {below : List Frame} {meth : Method} {c : Code} {Q : State → Prop} {A : Nat → Prop} {dC : Nat → ClassId} {dI : Nat → Nat → Nat} {cy : Nat → ClassId} {ks : (Nat → Nat) × (Nat → Nat)} {a0 b L : Nat} {xs : Nat → Int32} {Rel : Mm → Mm → Prop} {mP mM : Mm} {ov : Int64} {ce sl : Nat} {x4 : Int32} (X : CxL p l e room_1 s m args below meth c cL_law 7 RL A dC dI cy ks a0) (hnt : l.stackTraces = false) (hX : va_X b L xs s s.heap) (hbl : b < s.heap.size) (hbA : ¬ A b) (hSt : St_day Rel) (g1 : vp_in (x4 + 1) L) (g2 : vp_in (x4 + 2) L) (g3 : vp_in (x4 + 3) L) (g4 : vp_in (x4 + 4) L) (g5 : vp_in (x4 + 5) L) (g6 : vp_in (x4 + 6) L) (hR : Rel mP mM) (hce : ce + 1 ≤ 601024) (hsl : sl + 6 ≤ 7293034) (hk : ∀ (mP mM : Mm) (ov : Int64), Rel mP mM → JL p l e room_1 s m args below meth c 7 Q A dC dI cy a0 mP mM ov (ce + 1) (sl + 6) 1457 [(0, .ref b), (1, .ref (aP a0 0)), (2, .ref (aM a0 0)), (3, .ref (a0 + 214)), (4, .int x4)] []) : JL p l e room_1 s m args below meth c 7 Q A dC dI cy a0 mP mM ov (ce) (sl) 565 [(0, .ref b), (1, .ref (aP a0 0)), (2, .ref (aM a0 0)), (3, .ref (a0 + 214)), (4, .int x4)] [] := by
  obtain ⟨r, mP2, mM2, hp, hm, hR2⟩ := hSt  mP mM hR
  refine l_aload_n X dL_law_565 rfl 1 rfl ?_
  refine l_cP (As := []) (rest := []) X (k_X11_day hp) uw4_157 uw4_158 uw4_159 uw1_1 uw4_160 rfl rfl dd_X11_day ⟨Nat.le_of_ble_eq_true rfl, Nat.le_of_ble_eq_true rfl⟩ rfl (Nat.le_of_ble_eq_true rfl) (by show _ ≤ 601024; omega) (by show _ ≤ 7293034; omega) dL_law_566 rfl ?_
  refine l_aload_n X dL_law_569 rfl 2 rfl ?_
  refine l_cM (As := []) (rest := [.int r]) X (k_X12_day hm) uw7_236 uw7_237 uw7_238 uw1_13 uw7_239 rfl rfl dd_X12_day ⟨Nat.le_of_ble_eq_true rfl, Nat.le_of_ble_eq_true rfl⟩ rfl (Nat.le_of_ble_eq_true rfl) (by show _ ≤ 601024; omega) (by show _ ≤ 7293034; omega) dL_law_570 rfl ?_
  refine l_icmp_eq_t (tgt := 1457) X dL_law_573 (by decide) rfl ?_
  refine l_widen (k := ce + 1) (n := sl + 6) (by omega) (by omega) ?_
  exact l_sub [0, 1, 2, 3, 4] rfl (hk _ _ _ hR2)
set_option maxHeartbeats 4000000 in
set_option maxRecDepth 100000 in
theorem lc_mend {p : Program} {l : Launch} {e : Env} {s : State} {m : MethodId} {args : Array Value} {below : List Frame} {meth : Method} {c : Code} {Q : State → Prop} {A : Nat → Prop} {dC : Nat → ClassId} {dI : Nat → Nat → Nat} {cy : Nat → ClassId} {ks : (Nat → Nat) × (Nat → Nat)} {a0 b L : Nat} {xs : Nat → Int32} {Rel : Mm → Mm → Prop} {mP mM : Mm} {ov : Int64} {ce sl : Nat} {x4 : Int32} (X : CxL p l e room_1 s m args below meth c cL_law 7 RL A dC dI cy ks a0) (hnt : l.stackTraces = false) (hX : va_X b L xs s s.heap) (hbl : b < s.heap.size) (hbA : ¬ A b) (hSt : St_mend Rel) (g1 : vp_in (x4 + 1) L) (g2 : vp_in (x4 + 2) L) (g3 : vp_in (x4 + 3) L) (g4 : vp_in (x4 + 4) L) (g5 : vp_in (x4 + 5) L) (g6 : vp_in (x4 + 6) L) (hR : Rel mP mM) (hce : ce + 1 ≤ 601024) (hsl : sl + 6 ≤ 7293034) (hk : ∀ (mP mM : Mm) (ov : Int64), Rel mP mM → JL p l e room_1 s m args below meth c 7 Q A dC dI cy a0 mP mM ov (ce + 1) (sl + 6) 1457 [(0, .ref b), (1, .ref (aP a0 0)), (2, .ref (aM a0 0)), (3, .ref (a0 + 214)), (4, .int x4)] []) : JL p l e room_1 s m args below meth c 7 Q A dC dI cy a0 mP mM ov (ce) (sl) 578 [(0, .ref b), (1, .ref (aP a0 0)), (2, .ref (aM a0 0)), (3, .ref (a0 + 214)), (4, .int x4)] [] := by
  obtain ⟨r, mP2, mM2, hp, hm, hR2⟩ := hSt  mP mM hR
  refine l_aload_n X dL_law_578 rfl 1 rfl ?_
  refine l_cP (As := []) (rest := []) X (k_X11_mend hp) uw4_166 uw4_167 uw4_168 uw1_1 uw4_169 rfl rfl dd_X11_mend ⟨Nat.le_of_ble_eq_true rfl, Nat.le_of_ble_eq_true rfl⟩ rfl (Nat.le_of_ble_eq_true rfl) (by show _ ≤ 601024; omega) (by show _ ≤ 7293034; omega) dL_law_579 rfl ?_
  refine l_aload_n X dL_law_582 rfl 2 rfl ?_
  refine l_cM (As := []) (rest := [.int r]) X (k_X12_mend hm) uw8_4 uw8_5 uw8_6 uw1_13 uw8_7 rfl rfl dd_X12_mend ⟨Nat.le_of_ble_eq_true rfl, Nat.le_of_ble_eq_true rfl⟩ rfl (Nat.le_of_ble_eq_true rfl) (by show _ ≤ 601024; omega) (by show _ ≤ 7293034; omega) dL_law_583 rfl ?_
  refine l_icmp_eq_t (tgt := 1457) X dL_law_586 (by decide) rfl ?_
  refine l_widen (k := ce + 1) (n := sl + 6) (by omega) (by omega) ?_
  exact l_sub [0, 1, 2, 3, 4] rfl (hk _ _ _ hR2)
set_option maxHeartbeats 4000000 in
set_option maxRecDepth 100000 in
theorem lc_each {p : Program} {l : Launch} {e : Env} {s : State} {m : MethodId} {args : Array Value} {below : List Frame} {meth : Method} {c : Code} {Q : State → Prop} {A : Nat → Prop} {dC : Nat → ClassId} {dI : Nat → Nat → Nat} {cy : Nat → ClassId} {ks : (Nat → Nat) × (Nat → Nat)} {a0 b L : Nat} {xs : Nat → Int32} {Rel : Mm → Mm → Prop} {mP mM : Mm} {ov : Int64} {ce sl : Nat} {x4 : Int32} (X : CxL p l e room_1 s m args below meth c cL_law 7 RL A dC dI cy ks a0) (hnt : l.stackTraces = false) (hX : va_X b L xs s s.heap) (hbl : b < s.heap.size) (hbA : ¬ A b) (hSt : St_each Rel) (g1 : vp_in (x4 + 1) L) (g2 : vp_in (x4 + 2) L) (g3 : vp_in (x4 + 3) L) (g4 : vp_in (x4 + 4) L) (g5 : vp_in (x4 + 5) L) (g6 : vp_in (x4 + 6) L) (hR : Rel mP mM) (hce : ce + 1 ≤ 601024) (hsl : sl + 6 ≤ 7293034) (hk : ∀ (mP mM : Mm) (ov : Int64), Rel mP mM → JL p l e room_1 s m args below meth c 7 Q A dC dI cy a0 mP mM ov (ce + 1) (sl + 6) 1457 [(0, .ref b), (1, .ref (aP a0 0)), (2, .ref (aM a0 0)), (3, .ref (a0 + 214)), (4, .int x4)] []) : JL p l e room_1 s m args below meth c 7 Q A dC dI cy a0 mP mM ov (ce) (sl) 591 [(0, .ref b), (1, .ref (aP a0 0)), (2, .ref (aM a0 0)), (3, .ref (a0 + 214)), (4, .int x4)] [] := by
  obtain ⟨r, mP2, mM2, hp, hm, hR2⟩ := hSt (xs (x4 + 1).toNatClampNeg) mP mM hR
  refine l_aload_n X dL_law_591 rfl 1 rfl ?_
  refine l_aload_n X dL_law_592 rfl 0 rfl ?_
  refine l_iload X dL_law_593 4 rfl ?_
  refine l_iconst (v := 1) X dL_law_595 (by decide) ?_
  refine l_iadd X dL_law_596 ?_
  refine l_sld X hX hbl hbA g1 dL_law_597 ?_
  refine l_cP (As := [.int (xs (x4 + 1).toNatClampNeg)]) (rest := []) X (k_X11_each hp) uw4_174 uw4_175 uw4_176 uw1_1 uw4_177 rfl rfl dd_X11_each ⟨Nat.le_of_ble_eq_true rfl, Nat.le_of_ble_eq_true rfl⟩ rfl (Nat.le_of_ble_eq_true rfl) (by show _ ≤ 601024; omega) (by show _ ≤ 7293034; omega) dL_law_598 rfl ?_
  refine l_aload_n X dL_law_601 rfl 2 rfl ?_
  refine l_aload_n X dL_law_602 rfl 0 rfl ?_
  refine l_iload X dL_law_603 4 rfl ?_
  refine l_iconst (v := 1) X dL_law_605 (by decide) ?_
  refine l_iadd X dL_law_606 ?_
  refine l_sld X hX hbl hbA g1 dL_law_607 ?_
  refine l_cM (As := [.int (xs (x4 + 1).toNatClampNeg)]) (rest := [.int r]) X (k_X12_each hm) uw8_12 uw8_13 uw8_14 uw1_13 uw8_15 rfl rfl dd_X12_each ⟨Nat.le_of_ble_eq_true rfl, Nat.le_of_ble_eq_true rfl⟩ rfl (Nat.le_of_ble_eq_true rfl) (by show _ ≤ 601024; omega) (by show _ ≤ 7293034; omega) dL_law_608 rfl ?_
  refine l_icmp_eq_t (tgt := 1457) X dL_law_611 (by decide) rfl ?_
  refine l_widen (k := ce + 1) (n := sl + 6) (by omega) (by omega) ?_
  exact l_sub [0, 1, 2, 3, 4] rfl (hk _ _ _ hR2)
set_option maxHeartbeats 4000000 in
set_option maxRecDepth 100000 in
theorem lc_open {p : Program} {l : Launch} {e : Env} {s : State} {m : MethodId} {args : Array Value} {below : List Frame} {meth : Method} {c : Code} {Q : State → Prop} {A : Nat → Prop} {dC : Nat → ClassId} {dI : Nat → Nat → Nat} {cy : Nat → ClassId} {ks : (Nat → Nat) × (Nat → Nat)} {a0 b L : Nat} {xs : Nat → Int32} {Rel : Mm → Mm → Prop} {mP mM : Mm} {ov : Int64} {ce sl : Nat} {x4 : Int32} (X : CxL p l e room_1 s m args below meth c cL_law 7 RL A dC dI cy ks a0) (hnt : l.stackTraces = false) (hX : va_X b L xs s s.heap) (hbl : b < s.heap.size) (hbA : ¬ A b) (hSt : St_open Rel) (g1 : vp_in (x4 + 1) L) (g2 : vp_in (x4 + 2) L) (g3 : vp_in (x4 + 3) L) (g4 : vp_in (x4 + 4) L) (g5 : vp_in (x4 + 5) L) (g6 : vp_in (x4 + 6) L) (hR : Rel mP mM) (hce : ce + 1 ≤ 601024) (hsl : sl + 6 ≤ 7293034) (hk : ∀ (mP mM : Mm) (ov : Int64), Rel mP mM → JL p l e room_1 s m args below meth c 7 Q A dC dI cy a0 mP mM ov (ce + 1) (sl + 6) 1457 [(0, .ref b), (1, .ref (aP a0 0)), (2, .ref (aM a0 0)), (3, .ref (a0 + 214)), (4, .int x4)] []) : JL p l e room_1 s m args below meth c 7 Q A dC dI cy a0 mP mM ov (ce) (sl) 616 [(0, .ref b), (1, .ref (aP a0 0)), (2, .ref (aM a0 0)), (3, .ref (a0 + 214)), (4, .int x4)] [] := by
  obtain ⟨r, mP2, mM2, hp, hm, hR2⟩ := hSt (xs (x4 + 1).toNatClampNeg) (xs (x4 + 2).toNatClampNeg) mP mM hR
  refine l_aload_n X dL_law_616 rfl 1 rfl ?_
  refine l_aload_n X dL_law_617 rfl 0 rfl ?_
  refine l_iload X dL_law_618 4 rfl ?_
  refine l_iconst (v := 1) X dL_law_620 (by decide) ?_
  refine l_iadd X dL_law_621 ?_
  refine l_sld X hX hbl hbA g1 dL_law_622 ?_
  refine l_aload_n X dL_law_623 rfl 0 rfl ?_
  refine l_iload X dL_law_624 4 rfl ?_
  refine l_iconst (v := 2) X dL_law_626 (by decide) ?_
  refine l_iadd X dL_law_627 ?_
  refine l_sld X hX hbl hbA g2 dL_law_628 ?_
  refine l_cP (As := [.int (xs (x4 + 1).toNatClampNeg), .int (xs (x4 + 2).toNatClampNeg)]) (rest := []) X (k_X11_open hp) uw4_181 uw4_182 uw4_183 uw1_1 uw4_184 rfl rfl dd_X11_open ⟨Nat.le_of_ble_eq_true rfl, Nat.le_of_ble_eq_true rfl⟩ rfl (Nat.le_of_ble_eq_true rfl) (by show _ ≤ 601024; omega) (by show _ ≤ 7293034; omega) dL_law_629 rfl ?_
  refine l_aload_n X dL_law_632 rfl 2 rfl ?_
  refine l_aload_n X dL_law_633 rfl 0 rfl ?_
  refine l_iload X dL_law_634 4 rfl ?_
  refine l_iconst (v := 1) X dL_law_636 (by decide) ?_
  refine l_iadd X dL_law_637 ?_
  refine l_sld X hX hbl hbA g1 dL_law_638 ?_
  refine l_aload_n X dL_law_639 rfl 0 rfl ?_
  refine l_iload X dL_law_640 4 rfl ?_
  refine l_iconst (v := 2) X dL_law_642 (by decide) ?_
  refine l_iadd X dL_law_643 ?_
  refine l_sld X hX hbl hbA g2 dL_law_644 ?_
  refine l_cM (As := [.int (xs (x4 + 1).toNatClampNeg), .int (xs (x4 + 2).toNatClampNeg)]) (rest := [.int r]) X (k_X12_open hm) uw8_16 uw8_17 uw8_18 uw1_13 uw8_19 rfl rfl dd_X12_open ⟨Nat.le_of_ble_eq_true rfl, Nat.le_of_ble_eq_true rfl⟩ rfl (Nat.le_of_ble_eq_true rfl) (by show _ ≤ 601024; omega) (by show _ ≤ 7293034; omega) dL_law_645 rfl ?_
  refine l_icmp_eq_t (tgt := 1457) X dL_law_648 (by decide) rfl ?_
  refine l_widen (k := ce + 1) (n := sl + 6) (by omega) (by omega) ?_
  exact l_sub [0, 1, 2, 3, 4] rfl (hk _ _ _ hR2)
set_option maxHeartbeats 4000000 in
set_option maxRecDepth 100000 in
theorem lc_undo {p : Program} {l : Launch} {e : Env} {s : State} {m : MethodId} {args : Array Value} {below : List Frame} {meth : Method} {c : Code} {Q : State → Prop} {A : Nat → Prop} {dC : Nat → ClassId} {dI : Nat → Nat → Nat} {cy : Nat → ClassId} {ks : (Nat → Nat) × (Nat → Nat)} {a0 b L : Nat} {xs : Nat → Int32} {Rel : Mm → Mm → Prop} {mP mM : Mm} {ov : Int64} {ce sl : Nat} {x4 : Int32} (X : CxL p l e room_1 s m args below meth c cL_law 7 RL A dC dI cy ks a0) (hnt : l.stackTraces = false) (hX : va_X b L xs s s.heap) (hbl : b < s.heap.size) (hbA : ¬ A b) (hSt : St_undo Rel) (g1 : vp_in (x4 + 1) L) (g2 : vp_in (x4 + 2) L) (g3 : vp_in (x4 + 3) L) (g4 : vp_in (x4 + 4) L) (g5 : vp_in (x4 + 5) L) (g6 : vp_in (x4 + 6) L) (hR : Rel mP mM) (hce : ce + 1 ≤ 601024) (hsl : sl + 6 ≤ 7293034) (hk : ∀ (mP mM : Mm) (ov : Int64), Rel mP mM → JL p l e room_1 s m args below meth c 7 Q A dC dI cy a0 mP mM ov (ce + 1) (sl + 6) 1457 [(0, .ref b), (1, .ref (aP a0 0)), (2, .ref (aM a0 0)), (3, .ref (a0 + 214)), (4, .int x4)] []) : JL p l e room_1 s m args below meth c 7 Q A dC dI cy a0 mP mM ov (ce) (sl) 653 [(0, .ref b), (1, .ref (aP a0 0)), (2, .ref (aM a0 0)), (3, .ref (a0 + 214)), (4, .int x4)] [] := by
  obtain ⟨r, mP2, mM2, hp, hm, hR2⟩ := hSt  mP mM hR
  refine l_aload_n X dL_law_653 rfl 1 rfl ?_
  refine l_cP (As := []) (rest := []) X (k_X11_undo hp) uw4_185 uw4_186 uw4_187 uw1_1 uw4_188 rfl rfl dd_X11_undo ⟨Nat.le_of_ble_eq_true rfl, Nat.le_of_ble_eq_true rfl⟩ rfl (Nat.le_of_ble_eq_true rfl) (by show _ ≤ 601024; omega) (by show _ ≤ 7293034; omega) dL_law_654 rfl ?_
  refine l_aload_n X dL_law_657 rfl 2 rfl ?_
  refine l_cM (As := []) (rest := [.int r]) X (k_X12_undo hm) uw8_20 uw8_21 uw8_22 uw1_13 uw8_23 rfl rfl dd_X12_undo ⟨Nat.le_of_ble_eq_true rfl, Nat.le_of_ble_eq_true rfl⟩ rfl (Nat.le_of_ble_eq_true rfl) (by show _ ≤ 601024; omega) (by show _ ≤ 7293034; omega) dL_law_658 rfl ?_
  refine l_icmp_eq_t (tgt := 1457) X dL_law_661 (by decide) rfl ?_
  refine l_widen (k := ce + 1) (n := sl + 6) (by omega) (by omega) ?_
  exact l_sub [0, 1, 2, 3, 4] rfl (hk _ _ _ hR2)
set_option maxHeartbeats 4000000 in
set_option maxRecDepth 100000 in
theorem lc_judged {p : Program} {l : Launch} {e : Env} {s : State} {m : MethodId} {args : Array Value} {below : List Frame} {meth : Method} {c : Code} {Q : State → Prop} {A : Nat → Prop} {dC : Nat → ClassId} {dI : Nat → Nat → Nat} {cy : Nat → ClassId} {ks : (Nat → Nat) × (Nat → Nat)} {a0 b L : Nat} {xs : Nat → Int32} {Rel : Mm → Mm → Prop} {mP mM : Mm} {ov : Int64} {ce sl : Nat} {x4 : Int32} (X : CxL p l e room_1 s m args below meth c cL_law 7 RL A dC dI cy ks a0) (hnt : l.stackTraces = false) (hX : va_X b L xs s s.heap) (hbl : b < s.heap.size) (hbA : ¬ A b) (hSt : St_judged Rel) (g1 : vp_in (x4 + 1) L) (g2 : vp_in (x4 + 2) L) (g3 : vp_in (x4 + 3) L) (g4 : vp_in (x4 + 4) L) (g5 : vp_in (x4 + 5) L) (g6 : vp_in (x4 + 6) L) (hR : Rel mP mM) (hce : ce + 1 ≤ 601024) (hsl : sl + 6 ≤ 7293034) (hk : ∀ (mP mM : Mm) (ov : Int64), Rel mP mM → JL p l e room_1 s m args below meth c 7 Q A dC dI cy a0 mP mM ov (ce + 1) (sl + 6) 1457 [(0, .ref b), (1, .ref (aP a0 0)), (2, .ref (aM a0 0)), (3, .ref (a0 + 214)), (4, .int x4)] []) : JL p l e room_1 s m args below meth c 7 Q A dC dI cy a0 mP mM ov (ce) (sl) 666 [(0, .ref b), (1, .ref (aP a0 0)), (2, .ref (aM a0 0)), (3, .ref (a0 + 214)), (4, .int x4)] [] := by
  obtain ⟨x, mP2, rM, mM2, hp, hm, hx0, hx1, hR2⟩ := hSt (xs (x4 + 1).toNatClampNeg) mP mM hR
  cases x with
  | none =>
    have hth := hx0 rfl
    refine l_aload_n X dL_law_666 rfl 1 rfl ?_
    refine l_aload_n X dL_law_667 rfl 0 rfl ?_
    refine l_iload X dL_law_668 4 rfl ?_
    refine l_iconst (v := 1) X dL_law_670 (by decide) ?_
    refine l_iadd X dL_law_671 ?_
    refine l_sld X hX hbl hbA g1 dL_law_672 ?_
    refine l_aload_n X dL_law_673 rfl 3 rfl ?_
    refine l_cH (As := [.ref (aP a0 0), .int (xs (x4 + 1).toNatClampNeg), .ref (a0 + 214)]) (rest := []) X (kh_judged_n hnt hp) uw5_54 uw5_55 uw1_0 uw5_56 rfl rfl dh_judged ⟨Nat.le_of_ble_eq_true rfl, Nat.le_of_ble_eq_true rfl⟩ rfl (Nat.le_of_ble_eq_true rfl) (by show _ ≤ 601024; omega) (by show _ ≤ 7293034; omega) dL_law_674 rfl ?_
    refine l_istore (lv2 := [(5, .int 1), (0, .ref b), (1, .ref (aP a0 0)), (2, .ref (aM a0 0)), (3, .ref (a0 + 214)), (4, .int x4)]) X dL_law_677 (by decide) rfl ?_
    refine l_aload_n X dL_law_679 rfl 3 rfl ?_
    refine l_aload_n X dL_law_680 rfl 1 rfl ?_
    refine l_iload X dL_law_681 5 rfl ?_
    refine l_iconst (v := 1) X dL_law_683 (by decide) ?_
    refine l_iadd X dL_law_684 ?_
    refine l_sld X hX hbl hbA g1 dL_law_685 ?_
    refine l_cM (As := [.int (xs (x4 + 1).toNatClampNeg)]) (rest := []) X (k_X12_judged hm) uw8_24 uw8_25 uw8_26 uw1_13 uw8_27 rfl rfl dd_X12_judged ⟨Nat.le_of_ble_eq_true rfl, Nat.le_of_ble_eq_true rfl⟩ rfl (Nat.le_of_ble_eq_true rfl) (by show _ ≤ 601024; omega) (by show _ ≤ 7293034; omega) dL_law_686 rfl ?_
    refine l_istore (lv2 := [(6, .int rM), (5, .int 1), (0, .ref b), (1, .ref (aP a0 0)), (2, .ref (aM a0 0)), (3, .ref (a0 + 214)), (4, .int x4)]) X dL_law_689 (by decide) rfl ?_
    refine l_aload_n X dL_law_691 rfl 4 rfl ?_
    refine l_cM (As := []) (rest := []) X (k_X12_thrown (thr_ok hth)) uw6_183 uw6_184 uw6_185 uw1_13 uw6_186 rfl rfl dd_X12_thrown ⟨Nat.le_of_ble_eq_true rfl, Nat.le_of_ble_eq_true rfl⟩ rfl (Nat.le_of_ble_eq_true rfl) (by show _ ≤ 601024; omega) (by show _ ≤ 7293034; omega) dL_law_692 rfl ?_
    refine l_iload X dL_law_695 1 rfl ?_
    refine l_icmp_eq_t (tgt := 702) X dL_law_697 (by decide) rfl ?_
    refine l_iload X dL_law_702 1 rfl ?_
    refine l_if_ne_t (tgt := 719) X dL_law_704 (by decide) (by decide) ?_
    refine l_goto (tgt := 1457) X dL_law_719 (by decide) ?_
    exact l_sub [2, 3, 4, 5, 6] rfl (hk _ _ _ hR2)
  | some v =>
    obtain ⟨hth, rfl⟩ := hx1 v rfl
    refine l_aload_n X dL_law_666 rfl 1 rfl ?_
    refine l_aload_n X dL_law_667 rfl 0 rfl ?_
    refine l_iload X dL_law_668 4 rfl ?_
    refine l_iconst (v := 1) X dL_law_670 (by decide) ?_
    refine l_iadd X dL_law_671 ?_
    refine l_sld X hX hbl hbA g1 dL_law_672 ?_
    refine l_aload_n X dL_law_673 rfl 3 rfl ?_
    refine l_cH (As := [.ref (aP a0 0), .int (xs (x4 + 1).toNatClampNeg), .ref (a0 + 214)]) (rest := []) X (kh_judged_s hnt hp) uw5_54 uw5_55 uw1_0 uw5_56 rfl rfl dh_judged ⟨Nat.le_of_ble_eq_true rfl, Nat.le_of_ble_eq_true rfl⟩ rfl (Nat.le_of_ble_eq_true rfl) (by show _ ≤ 601024; omega) (by show _ ≤ 7293034; omega) dL_law_674 rfl ?_
    refine l_istore (lv2 := [(5, .int 0), (0, .ref b), (1, .ref (aP a0 0)), (2, .ref (aM a0 0)), (3, .ref (a0 + 214)), (4, .int x4)]) X dL_law_677 (by decide) rfl ?_
    refine l_aload_n X dL_law_679 rfl 3 rfl ?_
    refine l_aload_n X dL_law_680 rfl 1 rfl ?_
    refine l_iload X dL_law_681 5 rfl ?_
    refine l_iconst (v := 1) X dL_law_683 (by decide) ?_
    refine l_iadd X dL_law_684 ?_
    refine l_sld X hX hbl hbA g1 dL_law_685 ?_
    refine l_cM (As := [.int (xs (x4 + 1).toNatClampNeg)]) (rest := []) X (k_X12_judged hm) uw8_24 uw8_25 uw8_26 uw1_13 uw8_27 rfl rfl dd_X12_judged ⟨Nat.le_of_ble_eq_true rfl, Nat.le_of_ble_eq_true rfl⟩ rfl (Nat.le_of_ble_eq_true rfl) (by show _ ≤ 601024; omega) (by show _ ≤ 7293034; omega) dL_law_686 rfl ?_
    refine l_istore (lv2 := [(6, .int rM), (5, .int 0), (0, .ref b), (1, .ref (aP a0 0)), (2, .ref (aM a0 0)), (3, .ref (a0 + 214)), (4, .int x4)]) X dL_law_689 (by decide) rfl ?_
    refine l_aload_n X dL_law_691 rfl 4 rfl ?_
    refine l_cM (As := []) (rest := []) X (k_X12_thrown (thr_ok hth)) uw6_183 uw6_184 uw6_185 uw1_13 uw6_186 rfl rfl dd_X12_thrown ⟨Nat.le_of_ble_eq_true rfl, Nat.le_of_ble_eq_true rfl⟩ rfl (Nat.le_of_ble_eq_true rfl) (by show _ ≤ 601024; omega) (by show _ ≤ 7293034; omega) dL_law_692 rfl ?_
    refine l_iload X dL_law_695 1 rfl ?_
    refine l_icmp_eq_t (tgt := 702) X dL_law_697 (by decide) rfl ?_
    refine l_iload X dL_law_702 1 rfl ?_
    refine l_if_ne_f (tgt := 719) X dL_law_704 (by decide) (by decide) ?_
    refine l_aload_n X dL_law_707 rfl 5 rfl ?_
    refine l_iconst (v := 0) X dL_law_708 (by decide) ?_
    refine l_olad X dL_law_709 ?_
    refine l_iload X dL_law_710 0 rfl ?_
    refine l_i2l X dL_law_712 ?_
    refine l_lcmp X dL_law_713 ?_
    refine l_if_eq_t (tgt := 719) X dL_law_714 (by decide) (lgc_self _) ?_
    refine l_goto (tgt := 1457) X dL_law_719 (by decide) ?_
    exact l_sub [2, 3, 4, 5, 6] rfl (hk _ _ _ hR2)
set_option maxHeartbeats 4000000 in
set_option maxRecDepth 100000 in
theorem lc_best {p : Program} {l : Launch} {e : Env} {s : State} {m : MethodId} {args : Array Value} {below : List Frame} {meth : Method} {c : Code} {Q : State → Prop} {A : Nat → Prop} {dC : Nat → ClassId} {dI : Nat → Nat → Nat} {cy : Nat → ClassId} {ks : (Nat → Nat) × (Nat → Nat)} {a0 b L : Nat} {xs : Nat → Int32} {Rel : Mm → Mm → Prop} {mP mM : Mm} {ov : Int64} {ce sl : Nat} {x4 : Int32} (X : CxL p l e room_1 s m args below meth c cL_law 7 RL A dC dI cy ks a0) (hnt : l.stackTraces = false) (hX : va_X b L xs s s.heap) (hbl : b < s.heap.size) (hbA : ¬ A b) (hSt : St_best Rel) (g1 : vp_in (x4 + 1) L) (g2 : vp_in (x4 + 2) L) (g3 : vp_in (x4 + 3) L) (g4 : vp_in (x4 + 4) L) (g5 : vp_in (x4 + 5) L) (g6 : vp_in (x4 + 6) L) (hR : Rel mP mM) (hce : ce + 1 ≤ 601024) (hsl : sl + 6 ≤ 7293034) (hk : ∀ (mP mM : Mm) (ov : Int64), Rel mP mM → JL p l e room_1 s m args below meth c 7 Q A dC dI cy a0 mP mM ov (ce + 1) (sl + 6) 1457 [(0, .ref b), (1, .ref (aP a0 0)), (2, .ref (aM a0 0)), (3, .ref (a0 + 214)), (4, .int x4)] []) : JL p l e room_1 s m args below meth c 7 Q A dC dI cy a0 mP mM ov (ce) (sl) 722 [(0, .ref b), (1, .ref (aP a0 0)), (2, .ref (aM a0 0)), (3, .ref (a0 + 214)), (4, .int x4)] [] := by
  obtain ⟨x, mP2, rM, mM2, hp, hm, hx0, hx1, hR2⟩ := hSt (xs (x4 + 1).toNatClampNeg) mP mM hR
  cases x with
  | none =>
    have hth := hx0 rfl
    refine l_aload_n X dL_law_722 rfl 1 rfl ?_
    refine l_aload_n X dL_law_723 rfl 0 rfl ?_
    refine l_iload X dL_law_724 4 rfl ?_
    refine l_iconst (v := 1) X dL_law_726 (by decide) ?_
    refine l_iadd X dL_law_727 ?_
    refine l_sld X hX hbl hbA g1 dL_law_728 ?_
    refine l_aload_n X dL_law_729 rfl 3 rfl ?_
    refine l_cH (As := [.ref (aP a0 0), .int (xs (x4 + 1).toNatClampNeg), .ref (a0 + 214)]) (rest := []) X (kh_best_n hnt hp) uw5_127 uw5_128 uw1_0 uw5_129 rfl rfl dh_best ⟨Nat.le_of_ble_eq_true rfl, Nat.le_of_ble_eq_true rfl⟩ rfl (Nat.le_of_ble_eq_true rfl) (by show _ ≤ 601024; omega) (by show _ ≤ 7293034; omega) dL_law_730 rfl ?_
    refine l_istore (lv2 := [(5, .int 1), (0, .ref b), (1, .ref (aP a0 0)), (2, .ref (aM a0 0)), (3, .ref (a0 + 214)), (4, .int x4)]) X dL_law_733 (by decide) rfl ?_
    refine l_aload_n X dL_law_735 rfl 3 rfl ?_
    refine l_aload_n X dL_law_736 rfl 1 rfl ?_
    refine l_iload X dL_law_737 5 rfl ?_
    refine l_iconst (v := 1) X dL_law_739 (by decide) ?_
    refine l_iadd X dL_law_740 ?_
    refine l_sld X hX hbl hbA g1 dL_law_741 ?_
    refine l_cM (As := [.int (xs (x4 + 1).toNatClampNeg)]) (rest := []) X (k_X12_best hm) uw8_36 uw8_37 uw8_38 uw1_13 uw8_39 rfl rfl dd_X12_best ⟨Nat.le_of_ble_eq_true rfl, Nat.le_of_ble_eq_true rfl⟩ rfl (Nat.le_of_ble_eq_true rfl) (by show _ ≤ 601024; omega) (by show _ ≤ 7293034; omega) dL_law_742 rfl ?_
    refine l_istore (lv2 := [(6, .int rM), (5, .int 1), (0, .ref b), (1, .ref (aP a0 0)), (2, .ref (aM a0 0)), (3, .ref (a0 + 214)), (4, .int x4)]) X dL_law_745 (by decide) rfl ?_
    refine l_aload_n X dL_law_747 rfl 4 rfl ?_
    refine l_cM (As := []) (rest := []) X (k_X12_thrown (thr_ok hth)) uw6_183 uw6_184 uw6_185 uw1_13 uw6_186 rfl rfl dd_X12_thrown ⟨Nat.le_of_ble_eq_true rfl, Nat.le_of_ble_eq_true rfl⟩ rfl (Nat.le_of_ble_eq_true rfl) (by show _ ≤ 601024; omega) (by show _ ≤ 7293034; omega) dL_law_748 rfl ?_
    refine l_iload X dL_law_751 1 rfl ?_
    refine l_icmp_eq_t (tgt := 758) X dL_law_753 (by decide) rfl ?_
    refine l_iload X dL_law_758 1 rfl ?_
    refine l_if_ne_t (tgt := 775) X dL_law_760 (by decide) (by decide) ?_
    refine l_goto (tgt := 1457) X dL_law_775 (by decide) ?_
    exact l_sub [2, 3, 4, 5, 6] rfl (hk _ _ _ hR2)
  | some v =>
    obtain ⟨hth, rfl⟩ := hx1 v rfl
    refine l_aload_n X dL_law_722 rfl 1 rfl ?_
    refine l_aload_n X dL_law_723 rfl 0 rfl ?_
    refine l_iload X dL_law_724 4 rfl ?_
    refine l_iconst (v := 1) X dL_law_726 (by decide) ?_
    refine l_iadd X dL_law_727 ?_
    refine l_sld X hX hbl hbA g1 dL_law_728 ?_
    refine l_aload_n X dL_law_729 rfl 3 rfl ?_
    refine l_cH (As := [.ref (aP a0 0), .int (xs (x4 + 1).toNatClampNeg), .ref (a0 + 214)]) (rest := []) X (kh_best_s hnt hp) uw5_127 uw5_128 uw1_0 uw5_129 rfl rfl dh_best ⟨Nat.le_of_ble_eq_true rfl, Nat.le_of_ble_eq_true rfl⟩ rfl (Nat.le_of_ble_eq_true rfl) (by show _ ≤ 601024; omega) (by show _ ≤ 7293034; omega) dL_law_730 rfl ?_
    refine l_istore (lv2 := [(5, .int 0), (0, .ref b), (1, .ref (aP a0 0)), (2, .ref (aM a0 0)), (3, .ref (a0 + 214)), (4, .int x4)]) X dL_law_733 (by decide) rfl ?_
    refine l_aload_n X dL_law_735 rfl 3 rfl ?_
    refine l_aload_n X dL_law_736 rfl 1 rfl ?_
    refine l_iload X dL_law_737 5 rfl ?_
    refine l_iconst (v := 1) X dL_law_739 (by decide) ?_
    refine l_iadd X dL_law_740 ?_
    refine l_sld X hX hbl hbA g1 dL_law_741 ?_
    refine l_cM (As := [.int (xs (x4 + 1).toNatClampNeg)]) (rest := []) X (k_X12_best hm) uw8_36 uw8_37 uw8_38 uw1_13 uw8_39 rfl rfl dd_X12_best ⟨Nat.le_of_ble_eq_true rfl, Nat.le_of_ble_eq_true rfl⟩ rfl (Nat.le_of_ble_eq_true rfl) (by show _ ≤ 601024; omega) (by show _ ≤ 7293034; omega) dL_law_742 rfl ?_
    refine l_istore (lv2 := [(6, .int rM), (5, .int 0), (0, .ref b), (1, .ref (aP a0 0)), (2, .ref (aM a0 0)), (3, .ref (a0 + 214)), (4, .int x4)]) X dL_law_745 (by decide) rfl ?_
    refine l_aload_n X dL_law_747 rfl 4 rfl ?_
    refine l_cM (As := []) (rest := []) X (k_X12_thrown (thr_ok hth)) uw6_183 uw6_184 uw6_185 uw1_13 uw6_186 rfl rfl dd_X12_thrown ⟨Nat.le_of_ble_eq_true rfl, Nat.le_of_ble_eq_true rfl⟩ rfl (Nat.le_of_ble_eq_true rfl) (by show _ ≤ 601024; omega) (by show _ ≤ 7293034; omega) dL_law_748 rfl ?_
    refine l_iload X dL_law_751 1 rfl ?_
    refine l_icmp_eq_t (tgt := 758) X dL_law_753 (by decide) rfl ?_
    refine l_iload X dL_law_758 1 rfl ?_
    refine l_if_ne_f (tgt := 775) X dL_law_760 (by decide) (by decide) ?_
    refine l_aload_n X dL_law_763 rfl 5 rfl ?_
    refine l_iconst (v := 0) X dL_law_764 (by decide) ?_
    refine l_olad X dL_law_765 ?_
    refine l_iload X dL_law_766 0 rfl ?_
    refine l_i2l X dL_law_768 ?_
    refine l_lcmp X dL_law_769 ?_
    refine l_if_eq_t (tgt := 775) X dL_law_770 (by decide) (lgc_self _) ?_
    refine l_goto (tgt := 1457) X dL_law_775 (by decide) ?_
    exact l_sub [2, 3, 4, 5, 6] rfl (hk _ _ _ hR2)
set_option maxHeartbeats 4000000 in
set_option maxRecDepth 100000 in
theorem lc_hours {p : Program} {l : Launch} {e : Env} {s : State} {m : MethodId} {args : Array Value} {below : List Frame} {meth : Method} {c : Code} {Q : State → Prop} {A : Nat → Prop} {dC : Nat → ClassId} {dI : Nat → Nat → Nat} {cy : Nat → ClassId} {ks : (Nat → Nat) × (Nat → Nat)} {a0 b L : Nat} {xs : Nat → Int32} {Rel : Mm → Mm → Prop} {mP mM : Mm} {ov : Int64} {ce sl : Nat} {x4 : Int32} (X : CxL p l e room_1 s m args below meth c cL_law 7 RL A dC dI cy ks a0) (hnt : l.stackTraces = false) (hX : va_X b L xs s s.heap) (hbl : b < s.heap.size) (hbA : ¬ A b) (hSt : St_hours Rel) (g1 : vp_in (x4 + 1) L) (g2 : vp_in (x4 + 2) L) (g3 : vp_in (x4 + 3) L) (g4 : vp_in (x4 + 4) L) (g5 : vp_in (x4 + 5) L) (g6 : vp_in (x4 + 6) L) (hR : Rel mP mM) (hce : ce + 1 ≤ 601024) (hsl : sl + 6 ≤ 7293034) (hk : ∀ (mP mM : Mm) (ov : Int64), Rel mP mM → JL p l e room_1 s m args below meth c 7 Q A dC dI cy a0 mP mM ov (ce + 1) (sl + 6) 1457 [(0, .ref b), (1, .ref (aP a0 0)), (2, .ref (aM a0 0)), (3, .ref (a0 + 214)), (4, .int x4)] []) : JL p l e room_1 s m args below meth c 7 Q A dC dI cy a0 mP mM ov (ce) (sl) 778 [(0, .ref b), (1, .ref (aP a0 0)), (2, .ref (aM a0 0)), (3, .ref (a0 + 214)), (4, .int x4)] [] := by
  obtain ⟨r, mP2, mM2, hp, hm, hR2⟩ := hSt (xs (x4 + 1).toNatClampNeg) mP mM hR
  refine l_aload_n X dL_law_778 rfl 1 rfl ?_
  refine l_aload_n X dL_law_779 rfl 0 rfl ?_
  refine l_iload X dL_law_780 4 rfl ?_
  refine l_iconst (v := 1) X dL_law_782 (by decide) ?_
  refine l_iadd X dL_law_783 ?_
  refine l_sld X hX hbl hbA g1 dL_law_784 ?_
  refine l_cP (As := [.int (xs (x4 + 1).toNatClampNeg)]) (rest := []) X (k_X11_hours hp) uw4_189 uw4_190 uw4_191 uw1_1 uw4_192 rfl rfl dd_X11_hours ⟨Nat.le_of_ble_eq_true rfl, Nat.le_of_ble_eq_true rfl⟩ rfl (Nat.le_of_ble_eq_true rfl) (by show _ ≤ 601024; omega) (by show _ ≤ 7293034; omega) dL_law_785 rfl ?_
  refine l_aload_n X dL_law_788 rfl 2 rfl ?_
  refine l_aload_n X dL_law_789 rfl 0 rfl ?_
  refine l_iload X dL_law_790 4 rfl ?_
  refine l_iconst (v := 1) X dL_law_792 (by decide) ?_
  refine l_iadd X dL_law_793 ?_
  refine l_sld X hX hbl hbA g1 dL_law_794 ?_
  refine l_cM (As := [.int (xs (x4 + 1).toNatClampNeg)]) (rest := [.int r]) X (k_X12_hours hm) uw8_40 uw8_41 uw8_42 uw1_13 uw8_43 rfl rfl dd_X12_hours ⟨Nat.le_of_ble_eq_true rfl, Nat.le_of_ble_eq_true rfl⟩ rfl (Nat.le_of_ble_eq_true rfl) (by show _ ≤ 601024; omega) (by show _ ≤ 7293034; omega) dL_law_795 rfl ?_
  refine l_icmp_eq_t (tgt := 1457) X dL_law_798 (by decide) rfl ?_
  refine l_widen (k := ce + 1) (n := sl + 6) (by omega) (by omega) ?_
  exact l_sub [0, 1, 2, 3, 4] rfl (hk _ _ _ hR2)
set_option maxHeartbeats 4000000 in
set_option maxRecDepth 100000 in
theorem lc_when {p : Program} {l : Launch} {e : Env} {s : State} {m : MethodId} {args : Array Value} {below : List Frame} {meth : Method} {c : Code} {Q : State → Prop} {A : Nat → Prop} {dC : Nat → ClassId} {dI : Nat → Nat → Nat} {cy : Nat → ClassId} {ks : (Nat → Nat) × (Nat → Nat)} {a0 b L : Nat} {xs : Nat → Int32} {Rel : Mm → Mm → Prop} {mP mM : Mm} {ov : Int64} {ce sl : Nat} {x4 : Int32} (X : CxL p l e room_1 s m args below meth c cL_law 7 RL A dC dI cy ks a0) (hnt : l.stackTraces = false) (hX : va_X b L xs s s.heap) (hbl : b < s.heap.size) (hbA : ¬ A b) (hSt : St_when Rel) (g1 : vp_in (x4 + 1) L) (g2 : vp_in (x4 + 2) L) (g3 : vp_in (x4 + 3) L) (g4 : vp_in (x4 + 4) L) (g5 : vp_in (x4 + 5) L) (g6 : vp_in (x4 + 6) L) (hR : Rel mP mM) (hce : ce + 1 ≤ 601024) (hsl : sl + 6 ≤ 7293034) (hk : ∀ (mP mM : Mm) (ov : Int64), Rel mP mM → JL p l e room_1 s m args below meth c 7 Q A dC dI cy a0 mP mM ov (ce + 1) (sl + 6) 1457 [(0, .ref b), (1, .ref (aP a0 0)), (2, .ref (aM a0 0)), (3, .ref (a0 + 214)), (4, .int x4)] []) : JL p l e room_1 s m args below meth c 7 Q A dC dI cy a0 mP mM ov (ce) (sl) 803 [(0, .ref b), (1, .ref (aP a0 0)), (2, .ref (aM a0 0)), (3, .ref (a0 + 214)), (4, .int x4)] [] := by
  obtain ⟨x, mP2, rM, mM2, hp, hm, hx0, hx1, hR2⟩ := hSt (xs (x4 + 1).toNatClampNeg) (xs (x4 + 2).toNatClampNeg) mP mM hR
  cases x with
  | none =>
    have hth := hx0 rfl
    refine l_aload_n X dL_law_803 rfl 1 rfl ?_
    refine l_aload_n X dL_law_804 rfl 0 rfl ?_
    refine l_iload X dL_law_805 4 rfl ?_
    refine l_iconst (v := 1) X dL_law_807 (by decide) ?_
    refine l_iadd X dL_law_808 ?_
    refine l_sld X hX hbl hbA g1 dL_law_809 ?_
    refine l_aload_n X dL_law_810 rfl 0 rfl ?_
    refine l_iload X dL_law_811 4 rfl ?_
    refine l_iconst (v := 2) X dL_law_813 (by decide) ?_
    refine l_iadd X dL_law_814 ?_
    refine l_sld X hX hbl hbA g2 dL_law_815 ?_
    refine l_aload_n X dL_law_816 rfl 3 rfl ?_
    refine l_cH (As := [.ref (aP a0 0), .int (xs (x4 + 1).toNatClampNeg), .int (xs (x4 + 2).toNatClampNeg), .ref (a0 + 214)]) (rest := []) X (kh_when_n hnt hp) uw5_138 uw5_139 uw1_0 uw5_140 rfl rfl dh_when ⟨Nat.le_of_ble_eq_true rfl, Nat.le_of_ble_eq_true rfl⟩ rfl (Nat.le_of_ble_eq_true rfl) (by show _ ≤ 601024; omega) (by show _ ≤ 7293034; omega) dL_law_817 rfl ?_
    refine l_istore (lv2 := [(5, .int 1), (0, .ref b), (1, .ref (aP a0 0)), (2, .ref (aM a0 0)), (3, .ref (a0 + 214)), (4, .int x4)]) X dL_law_820 (by decide) rfl ?_
    refine l_aload_n X dL_law_822 rfl 3 rfl ?_
    refine l_aload_n X dL_law_823 rfl 1 rfl ?_
    refine l_iload X dL_law_824 5 rfl ?_
    refine l_iconst (v := 1) X dL_law_826 (by decide) ?_
    refine l_iadd X dL_law_827 ?_
    refine l_sld X hX hbl hbA g1 dL_law_828 ?_
    refine l_aload_n X dL_law_829 rfl 1 rfl ?_
    refine l_iload X dL_law_830 5 rfl ?_
    refine l_iconst (v := 2) X dL_law_832 (by decide) ?_
    refine l_iadd X dL_law_833 ?_
    refine l_sld X hX hbl hbA g2 dL_law_834 ?_
    refine l_cM (As := [.int (xs (x4 + 1).toNatClampNeg), .int (xs (x4 + 2).toNatClampNeg)]) (rest := []) X (k_X12_when hm) uw8_44 uw8_45 uw8_46 uw1_13 uw8_47 rfl rfl dd_X12_when ⟨Nat.le_of_ble_eq_true rfl, Nat.le_of_ble_eq_true rfl⟩ rfl (Nat.le_of_ble_eq_true rfl) (by show _ ≤ 601024; omega) (by show _ ≤ 7293034; omega) dL_law_835 rfl ?_
    refine l_istore (lv2 := [(6, .int rM), (5, .int 1), (0, .ref b), (1, .ref (aP a0 0)), (2, .ref (aM a0 0)), (3, .ref (a0 + 214)), (4, .int x4)]) X dL_law_838 (by decide) rfl ?_
    refine l_aload_n X dL_law_840 rfl 4 rfl ?_
    refine l_cM (As := []) (rest := []) X (k_X12_thrown (thr_ok hth)) uw6_183 uw6_184 uw6_185 uw1_13 uw6_186 rfl rfl dd_X12_thrown ⟨Nat.le_of_ble_eq_true rfl, Nat.le_of_ble_eq_true rfl⟩ rfl (Nat.le_of_ble_eq_true rfl) (by show _ ≤ 601024; omega) (by show _ ≤ 7293034; omega) dL_law_841 rfl ?_
    refine l_iload X dL_law_844 1 rfl ?_
    refine l_icmp_eq_t (tgt := 851) X dL_law_846 (by decide) rfl ?_
    refine l_iload X dL_law_851 1 rfl ?_
    refine l_if_ne_t (tgt := 868) X dL_law_853 (by decide) (by decide) ?_
    refine l_goto (tgt := 1457) X dL_law_868 (by decide) ?_
    exact l_sub [2, 3, 4, 5, 6] rfl (hk _ _ _ hR2)
  | some v =>
    obtain ⟨hth, rfl⟩ := hx1 v rfl
    refine l_aload_n X dL_law_803 rfl 1 rfl ?_
    refine l_aload_n X dL_law_804 rfl 0 rfl ?_
    refine l_iload X dL_law_805 4 rfl ?_
    refine l_iconst (v := 1) X dL_law_807 (by decide) ?_
    refine l_iadd X dL_law_808 ?_
    refine l_sld X hX hbl hbA g1 dL_law_809 ?_
    refine l_aload_n X dL_law_810 rfl 0 rfl ?_
    refine l_iload X dL_law_811 4 rfl ?_
    refine l_iconst (v := 2) X dL_law_813 (by decide) ?_
    refine l_iadd X dL_law_814 ?_
    refine l_sld X hX hbl hbA g2 dL_law_815 ?_
    refine l_aload_n X dL_law_816 rfl 3 rfl ?_
    refine l_cH (As := [.ref (aP a0 0), .int (xs (x4 + 1).toNatClampNeg), .int (xs (x4 + 2).toNatClampNeg), .ref (a0 + 214)]) (rest := []) X (kh_when_s hnt hp) uw5_138 uw5_139 uw1_0 uw5_140 rfl rfl dh_when ⟨Nat.le_of_ble_eq_true rfl, Nat.le_of_ble_eq_true rfl⟩ rfl (Nat.le_of_ble_eq_true rfl) (by show _ ≤ 601024; omega) (by show _ ≤ 7293034; omega) dL_law_817 rfl ?_
    refine l_istore (lv2 := [(5, .int 0), (0, .ref b), (1, .ref (aP a0 0)), (2, .ref (aM a0 0)), (3, .ref (a0 + 214)), (4, .int x4)]) X dL_law_820 (by decide) rfl ?_
    refine l_aload_n X dL_law_822 rfl 3 rfl ?_
    refine l_aload_n X dL_law_823 rfl 1 rfl ?_
    refine l_iload X dL_law_824 5 rfl ?_
    refine l_iconst (v := 1) X dL_law_826 (by decide) ?_
    refine l_iadd X dL_law_827 ?_
    refine l_sld X hX hbl hbA g1 dL_law_828 ?_
    refine l_aload_n X dL_law_829 rfl 1 rfl ?_
    refine l_iload X dL_law_830 5 rfl ?_
    refine l_iconst (v := 2) X dL_law_832 (by decide) ?_
    refine l_iadd X dL_law_833 ?_
    refine l_sld X hX hbl hbA g2 dL_law_834 ?_
    refine l_cM (As := [.int (xs (x4 + 1).toNatClampNeg), .int (xs (x4 + 2).toNatClampNeg)]) (rest := []) X (k_X12_when hm) uw8_44 uw8_45 uw8_46 uw1_13 uw8_47 rfl rfl dd_X12_when ⟨Nat.le_of_ble_eq_true rfl, Nat.le_of_ble_eq_true rfl⟩ rfl (Nat.le_of_ble_eq_true rfl) (by show _ ≤ 601024; omega) (by show _ ≤ 7293034; omega) dL_law_835 rfl ?_
    refine l_istore (lv2 := [(6, .int rM), (5, .int 0), (0, .ref b), (1, .ref (aP a0 0)), (2, .ref (aM a0 0)), (3, .ref (a0 + 214)), (4, .int x4)]) X dL_law_838 (by decide) rfl ?_
    refine l_aload_n X dL_law_840 rfl 4 rfl ?_
    refine l_cM (As := []) (rest := []) X (k_X12_thrown (thr_ok hth)) uw6_183 uw6_184 uw6_185 uw1_13 uw6_186 rfl rfl dd_X12_thrown ⟨Nat.le_of_ble_eq_true rfl, Nat.le_of_ble_eq_true rfl⟩ rfl (Nat.le_of_ble_eq_true rfl) (by show _ ≤ 601024; omega) (by show _ ≤ 7293034; omega) dL_law_841 rfl ?_
    refine l_iload X dL_law_844 1 rfl ?_
    refine l_icmp_eq_t (tgt := 851) X dL_law_846 (by decide) rfl ?_
    refine l_iload X dL_law_851 1 rfl ?_
    refine l_if_ne_f (tgt := 868) X dL_law_853 (by decide) (by decide) ?_
    refine l_aload_n X dL_law_856 rfl 5 rfl ?_
    refine l_iconst (v := 0) X dL_law_857 (by decide) ?_
    refine l_olad X dL_law_858 ?_
    refine l_iload X dL_law_859 0 rfl ?_
    refine l_i2l X dL_law_861 ?_
    refine l_lcmp X dL_law_862 ?_
    refine l_if_eq_t (tgt := 868) X dL_law_863 (by decide) (lgc_self _) ?_
    refine l_goto (tgt := 1457) X dL_law_868 (by decide) ?_
    exact l_sub [2, 3, 4, 5, 6] rfl (hk _ _ _ hR2)
set_option maxHeartbeats 4000000 in
set_option maxRecDepth 100000 in
theorem lc_lasts {p : Program} {l : Launch} {e : Env} {s : State} {m : MethodId} {args : Array Value} {below : List Frame} {meth : Method} {c : Code} {Q : State → Prop} {A : Nat → Prop} {dC : Nat → ClassId} {dI : Nat → Nat → Nat} {cy : Nat → ClassId} {ks : (Nat → Nat) × (Nat → Nat)} {a0 b L : Nat} {xs : Nat → Int32} {Rel : Mm → Mm → Prop} {mP mM : Mm} {ov : Int64} {ce sl : Nat} {x4 : Int32} (X : CxL p l e room_1 s m args below meth c cL_law 7 RL A dC dI cy ks a0) (hnt : l.stackTraces = false) (hX : va_X b L xs s s.heap) (hbl : b < s.heap.size) (hbA : ¬ A b) (hSt : St_lasts Rel) (g1 : vp_in (x4 + 1) L) (g2 : vp_in (x4 + 2) L) (g3 : vp_in (x4 + 3) L) (g4 : vp_in (x4 + 4) L) (g5 : vp_in (x4 + 5) L) (g6 : vp_in (x4 + 6) L) (hR : Rel mP mM) (hce : ce + 1 ≤ 601024) (hsl : sl + 6 ≤ 7293034) (hk : ∀ (mP mM : Mm) (ov : Int64), Rel mP mM → JL p l e room_1 s m args below meth c 7 Q A dC dI cy a0 mP mM ov (ce + 1) (sl + 6) 1457 [(0, .ref b), (1, .ref (aP a0 0)), (2, .ref (aM a0 0)), (3, .ref (a0 + 214)), (4, .int x4)] []) : JL p l e room_1 s m args below meth c 7 Q A dC dI cy a0 mP mM ov (ce) (sl) 871 [(0, .ref b), (1, .ref (aP a0 0)), (2, .ref (aM a0 0)), (3, .ref (a0 + 214)), (4, .int x4)] [] := by
  obtain ⟨r, mP2, mM2, hp, hm, hR2⟩ := hSt (xs (x4 + 1).toNatClampNeg) mP mM hR
  refine l_aload_n X dL_law_871 rfl 1 rfl ?_
  refine l_aload_n X dL_law_872 rfl 0 rfl ?_
  refine l_iload X dL_law_873 4 rfl ?_
  refine l_iconst (v := 1) X dL_law_875 (by decide) ?_
  refine l_iadd X dL_law_876 ?_
  refine l_sld X hX hbl hbA g1 dL_law_877 ?_
  refine l_cP (As := [.int (xs (x4 + 1).toNatClampNeg)]) (rest := []) X (k_X11_lasts hp) uw4_193 uw4_194 uw4_195 uw1_1 uw4_196 rfl rfl dd_X11_lasts ⟨Nat.le_of_ble_eq_true rfl, Nat.le_of_ble_eq_true rfl⟩ rfl (Nat.le_of_ble_eq_true rfl) (by show _ ≤ 601024; omega) (by show _ ≤ 7293034; omega) dL_law_878 rfl ?_
  refine l_aload_n X dL_law_881 rfl 2 rfl ?_
  refine l_aload_n X dL_law_882 rfl 0 rfl ?_
  refine l_iload X dL_law_883 4 rfl ?_
  refine l_iconst (v := 1) X dL_law_885 (by decide) ?_
  refine l_iadd X dL_law_886 ?_
  refine l_sld X hX hbl hbA g1 dL_law_887 ?_
  refine l_cM (As := [.int (xs (x4 + 1).toNatClampNeg)]) (rest := [.int r]) X (k_X12_lasts hm) uw8_56 uw8_57 uw8_58 uw1_13 uw8_59 rfl rfl dd_X12_lasts ⟨Nat.le_of_ble_eq_true rfl, Nat.le_of_ble_eq_true rfl⟩ rfl (Nat.le_of_ble_eq_true rfl) (by show _ ≤ 601024; omega) (by show _ ≤ 7293034; omega) dL_law_888 rfl ?_
  refine l_icmp_eq_t (tgt := 1457) X dL_law_891 (by decide) rfl ?_
  refine l_widen (k := ce + 1) (n := sl + 6) (by omega) (by omega) ?_
  exact l_sub [0, 1, 2, 3, 4] rfl (hk _ _ _ hR2)
set_option maxHeartbeats 4000000 in
set_option maxRecDepth 100000 in
theorem lc_without {p : Program} {l : Launch} {e : Env} {s : State} {m : MethodId} {args : Array Value} {below : List Frame} {meth : Method} {c : Code} {Q : State → Prop} {A : Nat → Prop} {dC : Nat → ClassId} {dI : Nat → Nat → Nat} {cy : Nat → ClassId} {ks : (Nat → Nat) × (Nat → Nat)} {a0 b L : Nat} {xs : Nat → Int32} {Rel : Mm → Mm → Prop} {mP mM : Mm} {ov : Int64} {ce sl : Nat} {x4 : Int32} (X : CxL p l e room_1 s m args below meth c cL_law 7 RL A dC dI cy ks a0) (hnt : l.stackTraces = false) (hX : va_X b L xs s s.heap) (hbl : b < s.heap.size) (hbA : ¬ A b) (hSt : St_without Rel) (g1 : vp_in (x4 + 1) L) (g2 : vp_in (x4 + 2) L) (g3 : vp_in (x4 + 3) L) (g4 : vp_in (x4 + 4) L) (g5 : vp_in (x4 + 5) L) (g6 : vp_in (x4 + 6) L) (hR : Rel mP mM) (hce : ce + 1 ≤ 601024) (hsl : sl + 6 ≤ 7293034) (hk : ∀ (mP mM : Mm) (ov : Int64), Rel mP mM → JL p l e room_1 s m args below meth c 7 Q A dC dI cy a0 mP mM ov (ce + 1) (sl + 6) 1457 [(0, .ref b), (1, .ref (aP a0 0)), (2, .ref (aM a0 0)), (3, .ref (a0 + 214)), (4, .int x4)] []) : JL p l e room_1 s m args below meth c 7 Q A dC dI cy a0 mP mM ov (ce) (sl) 896 [(0, .ref b), (1, .ref (aP a0 0)), (2, .ref (aM a0 0)), (3, .ref (a0 + 214)), (4, .int x4)] [] := by
  obtain ⟨x, mP2, rM, mM2, hp, hm, hx0, hx1, hR2⟩ := hSt (xs (x4 + 1).toNatClampNeg) mP mM hR
  cases x with
  | none =>
    have hth := hx0 rfl
    refine l_aload_n X dL_law_896 rfl 1 rfl ?_
    refine l_aload_n X dL_law_897 rfl 0 rfl ?_
    refine l_iload X dL_law_898 4 rfl ?_
    refine l_iconst (v := 1) X dL_law_900 (by decide) ?_
    refine l_iadd X dL_law_901 ?_
    refine l_sld X hX hbl hbA g1 dL_law_902 ?_
    refine l_aload_n X dL_law_903 rfl 3 rfl ?_
    refine l_cH (As := [.ref (aP a0 0), .int (xs (x4 + 1).toNatClampNeg), .ref (a0 + 214)]) (rest := []) X (kh_without_n hnt hp) uw5_153 uw5_154 uw1_0 uw5_155 rfl rfl dh_without ⟨Nat.le_of_ble_eq_true rfl, Nat.le_of_ble_eq_true rfl⟩ rfl (Nat.le_of_ble_eq_true rfl) (by show _ ≤ 601024; omega) (by show _ ≤ 7293034; omega) dL_law_904 rfl ?_
    refine l_istore (lv2 := [(5, .int 1), (0, .ref b), (1, .ref (aP a0 0)), (2, .ref (aM a0 0)), (3, .ref (a0 + 214)), (4, .int x4)]) X dL_law_907 (by decide) rfl ?_
    refine l_aload_n X dL_law_909 rfl 3 rfl ?_
    refine l_aload_n X dL_law_910 rfl 1 rfl ?_
    refine l_iload X dL_law_911 5 rfl ?_
    refine l_iconst (v := 1) X dL_law_913 (by decide) ?_
    refine l_iadd X dL_law_914 ?_
    refine l_sld X hX hbl hbA g1 dL_law_915 ?_
    refine l_cM (As := [.int (xs (x4 + 1).toNatClampNeg)]) (rest := []) X (k_X12_without hm) uw8_60 uw8_61 uw8_62 uw1_13 uw8_63 rfl rfl dd_X12_without ⟨Nat.le_of_ble_eq_true rfl, Nat.le_of_ble_eq_true rfl⟩ rfl (Nat.le_of_ble_eq_true rfl) (by show _ ≤ 601024; omega) (by show _ ≤ 7293034; omega) dL_law_916 rfl ?_
    refine l_istore (lv2 := [(6, .int rM), (5, .int 1), (0, .ref b), (1, .ref (aP a0 0)), (2, .ref (aM a0 0)), (3, .ref (a0 + 214)), (4, .int x4)]) X dL_law_919 (by decide) rfl ?_
    refine l_aload_n X dL_law_921 rfl 4 rfl ?_
    refine l_cM (As := []) (rest := []) X (k_X12_thrown (thr_ok hth)) uw6_183 uw6_184 uw6_185 uw1_13 uw6_186 rfl rfl dd_X12_thrown ⟨Nat.le_of_ble_eq_true rfl, Nat.le_of_ble_eq_true rfl⟩ rfl (Nat.le_of_ble_eq_true rfl) (by show _ ≤ 601024; omega) (by show _ ≤ 7293034; omega) dL_law_922 rfl ?_
    refine l_iload X dL_law_925 1 rfl ?_
    refine l_icmp_eq_t (tgt := 932) X dL_law_927 (by decide) rfl ?_
    refine l_iload X dL_law_932 1 rfl ?_
    refine l_if_ne_t (tgt := 949) X dL_law_934 (by decide) (by decide) ?_
    refine l_goto (tgt := 1457) X dL_law_949 (by decide) ?_
    exact l_sub [2, 3, 4, 5, 6] rfl (hk _ _ _ hR2)
  | some v =>
    obtain ⟨hth, rfl⟩ := hx1 v rfl
    refine l_aload_n X dL_law_896 rfl 1 rfl ?_
    refine l_aload_n X dL_law_897 rfl 0 rfl ?_
    refine l_iload X dL_law_898 4 rfl ?_
    refine l_iconst (v := 1) X dL_law_900 (by decide) ?_
    refine l_iadd X dL_law_901 ?_
    refine l_sld X hX hbl hbA g1 dL_law_902 ?_
    refine l_aload_n X dL_law_903 rfl 3 rfl ?_
    refine l_cH (As := [.ref (aP a0 0), .int (xs (x4 + 1).toNatClampNeg), .ref (a0 + 214)]) (rest := []) X (kh_without_s hnt hp) uw5_153 uw5_154 uw1_0 uw5_155 rfl rfl dh_without ⟨Nat.le_of_ble_eq_true rfl, Nat.le_of_ble_eq_true rfl⟩ rfl (Nat.le_of_ble_eq_true rfl) (by show _ ≤ 601024; omega) (by show _ ≤ 7293034; omega) dL_law_904 rfl ?_
    refine l_istore (lv2 := [(5, .int 0), (0, .ref b), (1, .ref (aP a0 0)), (2, .ref (aM a0 0)), (3, .ref (a0 + 214)), (4, .int x4)]) X dL_law_907 (by decide) rfl ?_
    refine l_aload_n X dL_law_909 rfl 3 rfl ?_
    refine l_aload_n X dL_law_910 rfl 1 rfl ?_
    refine l_iload X dL_law_911 5 rfl ?_
    refine l_iconst (v := 1) X dL_law_913 (by decide) ?_
    refine l_iadd X dL_law_914 ?_
    refine l_sld X hX hbl hbA g1 dL_law_915 ?_
    refine l_cM (As := [.int (xs (x4 + 1).toNatClampNeg)]) (rest := []) X (k_X12_without hm) uw8_60 uw8_61 uw8_62 uw1_13 uw8_63 rfl rfl dd_X12_without ⟨Nat.le_of_ble_eq_true rfl, Nat.le_of_ble_eq_true rfl⟩ rfl (Nat.le_of_ble_eq_true rfl) (by show _ ≤ 601024; omega) (by show _ ≤ 7293034; omega) dL_law_916 rfl ?_
    refine l_istore (lv2 := [(6, .int rM), (5, .int 0), (0, .ref b), (1, .ref (aP a0 0)), (2, .ref (aM a0 0)), (3, .ref (a0 + 214)), (4, .int x4)]) X dL_law_919 (by decide) rfl ?_
    refine l_aload_n X dL_law_921 rfl 4 rfl ?_
    refine l_cM (As := []) (rest := []) X (k_X12_thrown (thr_ok hth)) uw6_183 uw6_184 uw6_185 uw1_13 uw6_186 rfl rfl dd_X12_thrown ⟨Nat.le_of_ble_eq_true rfl, Nat.le_of_ble_eq_true rfl⟩ rfl (Nat.le_of_ble_eq_true rfl) (by show _ ≤ 601024; omega) (by show _ ≤ 7293034; omega) dL_law_922 rfl ?_
    refine l_iload X dL_law_925 1 rfl ?_
    refine l_icmp_eq_t (tgt := 932) X dL_law_927 (by decide) rfl ?_
    refine l_iload X dL_law_932 1 rfl ?_
    refine l_if_ne_f (tgt := 949) X dL_law_934 (by decide) (by decide) ?_
    refine l_aload_n X dL_law_937 rfl 5 rfl ?_
    refine l_iconst (v := 0) X dL_law_938 (by decide) ?_
    refine l_olad X dL_law_939 ?_
    refine l_iload X dL_law_940 0 rfl ?_
    refine l_i2l X dL_law_942 ?_
    refine l_lcmp X dL_law_943 ?_
    refine l_if_eq_t (tgt := 949) X dL_law_944 (by decide) (lgc_self _) ?_
    refine l_goto (tgt := 1457) X dL_law_949 (by decide) ?_
    exact l_sub [2, 3, 4, 5, 6] rfl (hk _ _ _ hR2)
set_option maxHeartbeats 4000000 in
set_option maxRecDepth 100000 in
theorem lc_rarer {p : Program} {l : Launch} {e : Env} {s : State} {m : MethodId} {args : Array Value} {below : List Frame} {meth : Method} {c : Code} {Q : State → Prop} {A : Nat → Prop} {dC : Nat → ClassId} {dI : Nat → Nat → Nat} {cy : Nat → ClassId} {ks : (Nat → Nat) × (Nat → Nat)} {a0 b L : Nat} {xs : Nat → Int32} {Rel : Mm → Mm → Prop} {mP mM : Mm} {ov : Int64} {ce sl : Nat} {x4 : Int32} (X : CxL p l e room_1 s m args below meth c cL_law 7 RL A dC dI cy ks a0) (hnt : l.stackTraces = false) (hX : va_X b L xs s s.heap) (hbl : b < s.heap.size) (hbA : ¬ A b) (hSt : St_rarer Rel) (g1 : vp_in (x4 + 1) L) (g2 : vp_in (x4 + 2) L) (g3 : vp_in (x4 + 3) L) (g4 : vp_in (x4 + 4) L) (g5 : vp_in (x4 + 5) L) (g6 : vp_in (x4 + 6) L) (hR : Rel mP mM) (hce : ce + 1 ≤ 601024) (hsl : sl + 6 ≤ 7293034) (hk : ∀ (mP mM : Mm) (ov : Int64), Rel mP mM → JL p l e room_1 s m args below meth c 7 Q A dC dI cy a0 mP mM ov (ce + 1) (sl + 6) 1457 [(0, .ref b), (1, .ref (aP a0 0)), (2, .ref (aM a0 0)), (3, .ref (a0 + 214)), (4, .int x4)] []) : JL p l e room_1 s m args below meth c 7 Q A dC dI cy a0 mP mM ov (ce) (sl) 952 [(0, .ref b), (1, .ref (aP a0 0)), (2, .ref (aM a0 0)), (3, .ref (a0 + 214)), (4, .int x4)] [] := by
  obtain ⟨r, mP2, mM2, hp, hm, hR2⟩ := hSt (xs (x4 + 1).toNatClampNeg) mP mM hR
  refine l_aload_n X dL_law_952 rfl 1 rfl ?_
  refine l_aload_n X dL_law_953 rfl 0 rfl ?_
  refine l_iload X dL_law_954 4 rfl ?_
  refine l_iconst (v := 1) X dL_law_956 (by decide) ?_
  refine l_iadd X dL_law_957 ?_
  refine l_sld X hX hbl hbA g1 dL_law_958 ?_
  refine l_cP (As := [.int (xs (x4 + 1).toNatClampNeg)]) (rest := []) X (k_X11_rarer hp) uw4_197 uw4_198 uw4_199 uw1_1 uw4_200 rfl rfl dd_X11_rarer ⟨Nat.le_of_ble_eq_true rfl, Nat.le_of_ble_eq_true rfl⟩ rfl (Nat.le_of_ble_eq_true rfl) (by show _ ≤ 601024; omega) (by show _ ≤ 7293034; omega) dL_law_959 rfl ?_
  refine l_aload_n X dL_law_962 rfl 2 rfl ?_
  refine l_aload_n X dL_law_963 rfl 0 rfl ?_
  refine l_iload X dL_law_964 4 rfl ?_
  refine l_iconst (v := 1) X dL_law_966 (by decide) ?_
  refine l_iadd X dL_law_967 ?_
  refine l_sld X hX hbl hbA g1 dL_law_968 ?_
  refine l_cM (As := [.int (xs (x4 + 1).toNatClampNeg)]) (rest := [.int r]) X (k_X12_rarer hm) uw8_68 uw8_69 uw8_70 uw1_13 uw8_71 rfl rfl dd_X12_rarer ⟨Nat.le_of_ble_eq_true rfl, Nat.le_of_ble_eq_true rfl⟩ rfl (Nat.le_of_ble_eq_true rfl) (by show _ ≤ 601024; omega) (by show _ ≤ 7293034; omega) dL_law_969 rfl ?_
  refine l_icmp_eq_t (tgt := 1457) X dL_law_972 (by decide) rfl ?_
  refine l_widen (k := ce + 1) (n := sl + 6) (by omega) (by omega) ?_
  exact l_sub [0, 1, 2, 3, 4] rfl (hk _ _ _ hR2)
set_option maxHeartbeats 4000000 in
set_option maxRecDepth 100000 in
theorem lc_dare {p : Program} {l : Launch} {e : Env} {s : State} {m : MethodId} {args : Array Value} {below : List Frame} {meth : Method} {c : Code} {Q : State → Prop} {A : Nat → Prop} {dC : Nat → ClassId} {dI : Nat → Nat → Nat} {cy : Nat → ClassId} {ks : (Nat → Nat) × (Nat → Nat)} {a0 b L : Nat} {xs : Nat → Int32} {Rel : Mm → Mm → Prop} {mP mM : Mm} {ov : Int64} {ce sl : Nat} {x4 : Int32} (X : CxL p l e room_1 s m args below meth c cL_law 7 RL A dC dI cy ks a0) (hnt : l.stackTraces = false) (hX : va_X b L xs s s.heap) (hbl : b < s.heap.size) (hbA : ¬ A b) (hSt : St_dare Rel) (g1 : vp_in (x4 + 1) L) (g2 : vp_in (x4 + 2) L) (g3 : vp_in (x4 + 3) L) (g4 : vp_in (x4 + 4) L) (g5 : vp_in (x4 + 5) L) (g6 : vp_in (x4 + 6) L) (hR : Rel mP mM) (hce : ce + 1 ≤ 601024) (hsl : sl + 6 ≤ 7293034) (hk : ∀ (mP mM : Mm) (ov : Int64), Rel mP mM → JL p l e room_1 s m args below meth c 7 Q A dC dI cy a0 mP mM ov (ce + 1) (sl + 6) 1457 [(0, .ref b), (1, .ref (aP a0 0)), (2, .ref (aM a0 0)), (3, .ref (a0 + 214)), (4, .int x4)] []) : JL p l e room_1 s m args below meth c 7 Q A dC dI cy a0 mP mM ov (ce) (sl) 977 [(0, .ref b), (1, .ref (aP a0 0)), (2, .ref (aM a0 0)), (3, .ref (a0 + 214)), (4, .int x4)] [] := by
  obtain ⟨r, mP2, mM2, hp, hm, hR2⟩ := hSt (xs (x4 + 1).toNatClampNeg) mP mM hR
  refine l_aload_n X dL_law_977 rfl 1 rfl ?_
  refine l_aload_n X dL_law_978 rfl 0 rfl ?_
  refine l_iload X dL_law_979 4 rfl ?_
  refine l_iconst (v := 1) X dL_law_981 (by decide) ?_
  refine l_iadd X dL_law_982 ?_
  refine l_sld X hX hbl hbA g1 dL_law_983 ?_
  refine l_cP (As := [.int (xs (x4 + 1).toNatClampNeg)]) (rest := []) X (k_X11_dare hp) uw4_208 uw4_209 uw4_210 uw1_1 uw4_211 rfl rfl dd_X11_dare ⟨Nat.le_of_ble_eq_true rfl, Nat.le_of_ble_eq_true rfl⟩ rfl (Nat.le_of_ble_eq_true rfl) (by show _ ≤ 601024; omega) (by show _ ≤ 7293034; omega) dL_law_984 rfl ?_
  refine l_aload_n X dL_law_987 rfl 2 rfl ?_
  refine l_aload_n X dL_law_988 rfl 0 rfl ?_
  refine l_iload X dL_law_989 4 rfl ?_
  refine l_iconst (v := 1) X dL_law_991 (by decide) ?_
  refine l_iadd X dL_law_992 ?_
  refine l_sld X hX hbl hbA g1 dL_law_993 ?_
  refine l_cM (As := [.int (xs (x4 + 1).toNatClampNeg)]) (rest := [.int r]) X (k_X12_dare hm) uw8_75 uw8_76 uw8_77 uw1_13 uw8_78 rfl rfl dd_X12_dare ⟨Nat.le_of_ble_eq_true rfl, Nat.le_of_ble_eq_true rfl⟩ rfl (Nat.le_of_ble_eq_true rfl) (by show _ ≤ 601024; omega) (by show _ ≤ 7293034; omega) dL_law_994 rfl ?_
  refine l_icmp_eq_t (tgt := 1457) X dL_law_997 (by decide) rfl ?_
  refine l_widen (k := ce + 1) (n := sl + 6) (by omega) (by omega) ?_
  exact l_sub [0, 1, 2, 3, 4] rfl (hk _ _ _ hR2)
set_option maxHeartbeats 4000000 in
set_option maxRecDepth 100000 in
theorem lc_strikes {p : Program} {l : Launch} {e : Env} {s : State} {m : MethodId} {args : Array Value} {below : List Frame} {meth : Method} {c : Code} {Q : State → Prop} {A : Nat → Prop} {dC : Nat → ClassId} {dI : Nat → Nat → Nat} {cy : Nat → ClassId} {ks : (Nat → Nat) × (Nat → Nat)} {a0 b L : Nat} {xs : Nat → Int32} {Rel : Mm → Mm → Prop} {mP mM : Mm} {ov : Int64} {ce sl : Nat} {x4 : Int32} (X : CxL p l e room_1 s m args below meth c cL_law 7 RL A dC dI cy ks a0) (hnt : l.stackTraces = false) (hX : va_X b L xs s s.heap) (hbl : b < s.heap.size) (hbA : ¬ A b) (hSt : St_strikes Rel) (g1 : vp_in (x4 + 1) L) (g2 : vp_in (x4 + 2) L) (g3 : vp_in (x4 + 3) L) (g4 : vp_in (x4 + 4) L) (g5 : vp_in (x4 + 5) L) (g6 : vp_in (x4 + 6) L) (hR : Rel mP mM) (hce : ce + 1 ≤ 601024) (hsl : sl + 6 ≤ 7293034) (hk : ∀ (mP mM : Mm) (ov : Int64), Rel mP mM → JL p l e room_1 s m args below meth c 7 Q A dC dI cy a0 mP mM ov (ce + 1) (sl + 6) 1457 [(0, .ref b), (1, .ref (aP a0 0)), (2, .ref (aM a0 0)), (3, .ref (a0 + 214)), (4, .int x4)] []) : JL p l e room_1 s m args below meth c 7 Q A dC dI cy a0 mP mM ov (ce) (sl) 1002 [(0, .ref b), (1, .ref (aP a0 0)), (2, .ref (aM a0 0)), (3, .ref (a0 + 214)), (4, .int x4)] [] := by
  obtain ⟨r, mP2, mM2, hp, hm, hR2⟩ := hSt (xs (x4 + 1).toNatClampNeg) (xs (x4 + 2).toNatClampNeg) mP mM hR
  refine l_aload_n X dL_law_1002 rfl 1 rfl ?_
  refine l_aload_n X dL_law_1003 rfl 0 rfl ?_
  refine l_iload X dL_law_1004 4 rfl ?_
  refine l_iconst (v := 1) X dL_law_1006 (by decide) ?_
  refine l_iadd X dL_law_1007 ?_
  refine l_sld X hX hbl hbA g1 dL_law_1008 ?_
  refine l_aload_n X dL_law_1009 rfl 0 rfl ?_
  refine l_iload X dL_law_1010 4 rfl ?_
  refine l_iconst (v := 2) X dL_law_1012 (by decide) ?_
  refine l_iadd X dL_law_1013 ?_
  refine l_sld X hX hbl hbA g2 dL_law_1014 ?_
  refine l_cP (As := [.int (xs (x4 + 1).toNatClampNeg), .int (xs (x4 + 2).toNatClampNeg)]) (rest := []) X (k_X11_strikes hp) uw4_213 uw4_214 uw4_215 uw1_1 uw4_216 rfl rfl dd_X11_strikes ⟨Nat.le_of_ble_eq_true rfl, Nat.le_of_ble_eq_true rfl⟩ rfl (Nat.le_of_ble_eq_true rfl) (by show _ ≤ 601024; omega) (by show _ ≤ 7293034; omega) dL_law_1015 rfl ?_
  refine l_aload_n X dL_law_1018 rfl 2 rfl ?_
  refine l_aload_n X dL_law_1019 rfl 0 rfl ?_
  refine l_iload X dL_law_1020 4 rfl ?_
  refine l_iconst (v := 1) X dL_law_1022 (by decide) ?_
  refine l_iadd X dL_law_1023 ?_
  refine l_sld X hX hbl hbA g1 dL_law_1024 ?_
  refine l_aload_n X dL_law_1025 rfl 0 rfl ?_
  refine l_iload X dL_law_1026 4 rfl ?_
  refine l_iconst (v := 2) X dL_law_1028 (by decide) ?_
  refine l_iadd X dL_law_1029 ?_
  refine l_sld X hX hbl hbA g2 dL_law_1030 ?_
  refine l_cM (As := [.int (xs (x4 + 1).toNatClampNeg), .int (xs (x4 + 2).toNatClampNeg)]) (rest := [.int r]) X (k_X12_strikes hm) uw8_79 uw8_80 uw8_81 uw1_13 uw8_82 rfl rfl dd_X12_strikes ⟨Nat.le_of_ble_eq_true rfl, Nat.le_of_ble_eq_true rfl⟩ rfl (Nat.le_of_ble_eq_true rfl) (by show _ ≤ 601024; omega) (by show _ ≤ 7293034; omega) dL_law_1031 rfl ?_
  refine l_icmp_eq_t (tgt := 1457) X dL_law_1034 (by decide) rfl ?_
  refine l_widen (k := ce + 1) (n := sl + 6) (by omega) (by omega) ?_
  exact l_sub [0, 1, 2, 3, 4] rfl (hk _ _ _ hR2)
set_option maxHeartbeats 4000000 in
set_option maxRecDepth 100000 in
theorem lc_find {p : Program} {l : Launch} {e : Env} {s : State} {m : MethodId} {args : Array Value} {below : List Frame} {meth : Method} {c : Code} {Q : State → Prop} {A : Nat → Prop} {dC : Nat → ClassId} {dI : Nat → Nat → Nat} {cy : Nat → ClassId} {ks : (Nat → Nat) × (Nat → Nat)} {a0 b L : Nat} {xs : Nat → Int32} {Rel : Mm → Mm → Prop} {mP mM : Mm} {ov : Int64} {ce sl : Nat} {x4 : Int32} (X : CxL p l e room_1 s m args below meth c cL_law 7 RL A dC dI cy ks a0) (hnt : l.stackTraces = false) (hX : va_X b L xs s s.heap) (hbl : b < s.heap.size) (hbA : ¬ A b) (hSt : St_find Rel) (g1 : vp_in (x4 + 1) L) (g2 : vp_in (x4 + 2) L) (g3 : vp_in (x4 + 3) L) (g4 : vp_in (x4 + 4) L) (g5 : vp_in (x4 + 5) L) (g6 : vp_in (x4 + 6) L) (hR : Rel mP mM) (hce : ce + 1 ≤ 601024) (hsl : sl + 6 ≤ 7293034) (hk : ∀ (mP mM : Mm) (ov : Int64), Rel mP mM → JL p l e room_1 s m args below meth c 7 Q A dC dI cy a0 mP mM ov (ce + 1) (sl + 6) 1457 [(0, .ref b), (1, .ref (aP a0 0)), (2, .ref (aM a0 0)), (3, .ref (a0 + 214)), (4, .int x4)] []) : JL p l e room_1 s m args below meth c 7 Q A dC dI cy a0 mP mM ov (ce) (sl) 1039 [(0, .ref b), (1, .ref (aP a0 0)), (2, .ref (aM a0 0)), (3, .ref (a0 + 214)), (4, .int x4)] [] := by
  obtain ⟨r, mP2, mM2, hp, hm, hR2⟩ := hSt (xs (x4 + 1).toNatClampNeg) (xs (x4 + 2).toNatClampNeg) mP mM hR
  refine l_aload_n X dL_law_1039 rfl 1 rfl ?_
  refine l_aload_n X dL_law_1040 rfl 0 rfl ?_
  refine l_iload X dL_law_1041 4 rfl ?_
  refine l_iconst (v := 1) X dL_law_1043 (by decide) ?_
  refine l_iadd X dL_law_1044 ?_
  refine l_sld X hX hbl hbA g1 dL_law_1045 ?_
  refine l_aload_n X dL_law_1046 rfl 0 rfl ?_
  refine l_iload X dL_law_1047 4 rfl ?_
  refine l_iconst (v := 2) X dL_law_1049 (by decide) ?_
  refine l_iadd X dL_law_1050 ?_
  refine l_sld X hX hbl hbA g2 dL_law_1051 ?_
  refine l_cP (As := [.int (xs (x4 + 1).toNatClampNeg), .int (xs (x4 + 2).toNatClampNeg)]) (rest := []) X (k_X11_find hp) uw4_221 uw4_222 uw4_223 uw1_1 uw4_224 rfl rfl dd_X11_find ⟨Nat.le_of_ble_eq_true rfl, Nat.le_of_ble_eq_true rfl⟩ rfl (Nat.le_of_ble_eq_true rfl) (by show _ ≤ 601024; omega) (by show _ ≤ 7293034; omega) dL_law_1052 rfl ?_
  refine l_aload_n X dL_law_1055 rfl 2 rfl ?_
  refine l_aload_n X dL_law_1056 rfl 0 rfl ?_
  refine l_iload X dL_law_1057 4 rfl ?_
  refine l_iconst (v := 1) X dL_law_1059 (by decide) ?_
  refine l_iadd X dL_law_1060 ?_
  refine l_sld X hX hbl hbA g1 dL_law_1061 ?_
  refine l_aload_n X dL_law_1062 rfl 0 rfl ?_
  refine l_iload X dL_law_1063 4 rfl ?_
  refine l_iconst (v := 2) X dL_law_1065 (by decide) ?_
  refine l_iadd X dL_law_1066 ?_
  refine l_sld X hX hbl hbA g2 dL_law_1067 ?_
  refine l_cM (As := [.int (xs (x4 + 1).toNatClampNeg), .int (xs (x4 + 2).toNatClampNeg)]) (rest := [.int r]) X (k_X12_find hm) uw8_87 uw8_88 uw8_89 uw1_13 uw8_90 rfl rfl dd_X12_find ⟨Nat.le_of_ble_eq_true rfl, Nat.le_of_ble_eq_true rfl⟩ rfl (Nat.le_of_ble_eq_true rfl) (by show _ ≤ 601024; omega) (by show _ ≤ 7293034; omega) dL_law_1068 rfl ?_
  refine l_icmp_eq_t (tgt := 1457) X dL_law_1071 (by decide) rfl ?_
  refine l_widen (k := ce + 1) (n := sl + 6) (by omega) (by omega) ?_
  exact l_sub [0, 1, 2, 3, 4] rfl (hk _ _ _ hR2)
set_option maxHeartbeats 4000000 in
set_option maxRecDepth 100000 in
theorem lc_sets {p : Program} {l : Launch} {e : Env} {s : State} {m : MethodId} {args : Array Value} {below : List Frame} {meth : Method} {c : Code} {Q : State → Prop} {A : Nat → Prop} {dC : Nat → ClassId} {dI : Nat → Nat → Nat} {cy : Nat → ClassId} {ks : (Nat → Nat) × (Nat → Nat)} {a0 b L : Nat} {xs : Nat → Int32} {Rel : Mm → Mm → Prop} {mP mM : Mm} {ov : Int64} {ce sl : Nat} {x4 : Int32} (X : CxL p l e room_1 s m args below meth c cL_law 7 RL A dC dI cy ks a0) (hnt : l.stackTraces = false) (hX : va_X b L xs s s.heap) (hbl : b < s.heap.size) (hbA : ¬ A b) (hSt : St_sets Rel) (g1 : vp_in (x4 + 1) L) (g2 : vp_in (x4 + 2) L) (g3 : vp_in (x4 + 3) L) (g4 : vp_in (x4 + 4) L) (g5 : vp_in (x4 + 5) L) (g6 : vp_in (x4 + 6) L) (hR : Rel mP mM) (hce : ce + 1 ≤ 601024) (hsl : sl + 6 ≤ 7293034) (hk : ∀ (mP mM : Mm) (ov : Int64), Rel mP mM → JL p l e room_1 s m args below meth c 7 Q A dC dI cy a0 mP mM ov (ce + 1) (sl + 6) 1457 [(0, .ref b), (1, .ref (aP a0 0)), (2, .ref (aM a0 0)), (3, .ref (a0 + 214)), (4, .int x4)] []) : JL p l e room_1 s m args below meth c 7 Q A dC dI cy a0 mP mM ov (ce) (sl) 1076 [(0, .ref b), (1, .ref (aP a0 0)), (2, .ref (aM a0 0)), (3, .ref (a0 + 214)), (4, .int x4)] [] := by
  obtain ⟨r, mP2, mM2, hp, hm, hR2⟩ := hSt (xs (x4 + 1).toNatClampNeg) mP mM hR
  refine l_aload_n X dL_law_1076 rfl 1 rfl ?_
  refine l_aload_n X dL_law_1077 rfl 0 rfl ?_
  refine l_iload X dL_law_1078 4 rfl ?_
  refine l_iconst (v := 1) X dL_law_1080 (by decide) ?_
  refine l_iadd X dL_law_1081 ?_
  refine l_sld X hX hbl hbA g1 dL_law_1082 ?_
  refine l_cP (As := [.int (xs (x4 + 1).toNatClampNeg)]) (rest := []) X (k_X11_sets hp) uw4_229 uw4_230 uw4_231 uw1_1 uw4_232 rfl rfl dd_X11_sets ⟨Nat.le_of_ble_eq_true rfl, Nat.le_of_ble_eq_true rfl⟩ rfl (Nat.le_of_ble_eq_true rfl) (by show _ ≤ 601024; omega) (by show _ ≤ 7293034; omega) dL_law_1083 rfl ?_
  refine l_aload_n X dL_law_1086 rfl 2 rfl ?_
  refine l_aload_n X dL_law_1087 rfl 0 rfl ?_
  refine l_iload X dL_law_1088 4 rfl ?_
  refine l_iconst (v := 1) X dL_law_1090 (by decide) ?_
  refine l_iadd X dL_law_1091 ?_
  refine l_sld X hX hbl hbA g1 dL_law_1092 ?_
  refine l_cM (As := [.int (xs (x4 + 1).toNatClampNeg)]) (rest := [.int r]) X (k_X12_sets hm) uw8_91 uw8_92 uw8_93 uw1_13 uw8_94 rfl rfl dd_X12_sets ⟨Nat.le_of_ble_eq_true rfl, Nat.le_of_ble_eq_true rfl⟩ rfl (Nat.le_of_ble_eq_true rfl) (by show _ ≤ 601024; omega) (by show _ ≤ 7293034; omega) dL_law_1093 rfl ?_
  refine l_icmp_eq_t (tgt := 1457) X dL_law_1096 (by decide) rfl ?_
  refine l_widen (k := ce + 1) (n := sl + 6) (by omega) (by omega) ?_
  exact l_sub [0, 1, 2, 3, 4] rfl (hk _ _ _ hR2)
set_option maxHeartbeats 4000000 in
set_option maxRecDepth 100000 in
theorem lc_look {p : Program} {l : Launch} {e : Env} {s : State} {m : MethodId} {args : Array Value} {below : List Frame} {meth : Method} {c : Code} {Q : State → Prop} {A : Nat → Prop} {dC : Nat → ClassId} {dI : Nat → Nat → Nat} {cy : Nat → ClassId} {ks : (Nat → Nat) × (Nat → Nat)} {a0 b L : Nat} {xs : Nat → Int32} {Rel : Mm → Mm → Prop} {mP mM : Mm} {ov : Int64} {ce sl : Nat} {x4 : Int32} (X : CxL p l e room_1 s m args below meth c cL_law 7 RL A dC dI cy ks a0) (hnt : l.stackTraces = false) (hX : va_X b L xs s s.heap) (hbl : b < s.heap.size) (hbA : ¬ A b) (hSt : St_look Rel) (g1 : vp_in (x4 + 1) L) (g2 : vp_in (x4 + 2) L) (g3 : vp_in (x4 + 3) L) (g4 : vp_in (x4 + 4) L) (g5 : vp_in (x4 + 5) L) (g6 : vp_in (x4 + 6) L) (hR : Rel mP mM) (hce : ce + 1 ≤ 601024) (hsl : sl + 6 ≤ 7293034) (hk : ∀ (mP mM : Mm) (ov : Int64), Rel mP mM → JL p l e room_1 s m args below meth c 7 Q A dC dI cy a0 mP mM ov (ce + 1) (sl + 6) 1457 [(0, .ref b), (1, .ref (aP a0 0)), (2, .ref (aM a0 0)), (3, .ref (a0 + 214)), (4, .int x4)] []) : JL p l e room_1 s m args below meth c 7 Q A dC dI cy a0 mP mM ov (ce) (sl) 1101 [(0, .ref b), (1, .ref (aP a0 0)), (2, .ref (aM a0 0)), (3, .ref (a0 + 214)), (4, .int x4)] [] := by
  obtain ⟨r, mP2, mM2, hp, hm, hR2⟩ := hSt  mP mM hR
  refine l_aload_n X dL_law_1101 rfl 1 rfl ?_
  refine l_cP (As := []) (rest := []) X (k_X11_look hp) uw5_12 uw5_13 uw5_14 uw1_1 uw5_15 rfl rfl dd_X11_look ⟨Nat.le_of_ble_eq_true rfl, Nat.le_of_ble_eq_true rfl⟩ rfl (Nat.le_of_ble_eq_true rfl) (by show _ ≤ 601024; omega) (by show _ ≤ 7293034; omega) dL_law_1102 rfl ?_
  refine l_aload_n X dL_law_1105 rfl 2 rfl ?_
  refine l_cM (As := []) (rest := [.int r]) X (k_X12_look hm) uw8_103 uw8_104 uw8_105 uw1_13 uw8_106 rfl rfl dd_X12_look ⟨Nat.le_of_ble_eq_true rfl, Nat.le_of_ble_eq_true rfl⟩ rfl (Nat.le_of_ble_eq_true rfl) (by show _ ≤ 601024; omega) (by show _ ≤ 7293034; omega) dL_law_1106 rfl ?_
  refine l_icmp_eq_t (tgt := 1457) X dL_law_1109 (by decide) rfl ?_
  refine l_widen (k := ce + 1) (n := sl + 6) (by omega) (by omega) ?_
  exact l_sub [0, 1, 2, 3, 4] rfl (hk _ _ _ hR2)
set_option maxHeartbeats 4000000 in
set_option maxRecDepth 100000 in
theorem lc_share {p : Program} {l : Launch} {e : Env} {s : State} {m : MethodId} {args : Array Value} {below : List Frame} {meth : Method} {c : Code} {Q : State → Prop} {A : Nat → Prop} {dC : Nat → ClassId} {dI : Nat → Nat → Nat} {cy : Nat → ClassId} {ks : (Nat → Nat) × (Nat → Nat)} {a0 b L : Nat} {xs : Nat → Int32} {Rel : Mm → Mm → Prop} {mP mM : Mm} {ov : Int64} {ce sl : Nat} {x4 : Int32} (X : CxL p l e room_1 s m args below meth c cL_law 7 RL A dC dI cy ks a0) (hnt : l.stackTraces = false) (hX : va_X b L xs s s.heap) (hbl : b < s.heap.size) (hbA : ¬ A b) (hSt : St_share Rel) (g1 : vp_in (x4 + 1) L) (g2 : vp_in (x4 + 2) L) (g3 : vp_in (x4 + 3) L) (g4 : vp_in (x4 + 4) L) (g5 : vp_in (x4 + 5) L) (g6 : vp_in (x4 + 6) L) (hR : Rel mP mM) (hce : ce + 1 ≤ 601024) (hsl : sl + 6 ≤ 7293034) (hk : ∀ (mP mM : Mm) (ov : Int64), Rel mP mM → JL p l e room_1 s m args below meth c 7 Q A dC dI cy a0 mP mM ov (ce + 1) (sl + 6) 1457 [(0, .ref b), (1, .ref (aP a0 0)), (2, .ref (aM a0 0)), (3, .ref (a0 + 214)), (4, .int x4)] []) : JL p l e room_1 s m args below meth c 7 Q A dC dI cy a0 mP mM ov (ce) (sl) 1114 [(0, .ref b), (1, .ref (aP a0 0)), (2, .ref (aM a0 0)), (3, .ref (a0 + 214)), (4, .int x4)] [] := by
  obtain ⟨r, mP2, mM2, hp, hm, hR2⟩ := hSt (xs (x4 + 1).toNatClampNeg) mP mM hR
  refine l_aload_n X dL_law_1114 rfl 1 rfl ?_
  refine l_aload_n X dL_law_1115 rfl 0 rfl ?_
  refine l_iload X dL_law_1116 4 rfl ?_
  refine l_iconst (v := 1) X dL_law_1118 (by decide) ?_
  refine l_iadd X dL_law_1119 ?_
  refine l_sld X hX hbl hbA g1 dL_law_1120 ?_
  refine l_cP (As := [.int (xs (x4 + 1).toNatClampNeg)]) (rest := []) X (k_X11_share hp) uw5_24 uw5_25 uw5_26 uw1_1 uw5_27 rfl rfl dd_X11_share ⟨Nat.le_of_ble_eq_true rfl, Nat.le_of_ble_eq_true rfl⟩ rfl (Nat.le_of_ble_eq_true rfl) (by show _ ≤ 601024; omega) (by show _ ≤ 7293034; omega) dL_law_1121 rfl ?_
  refine l_aload_n X dL_law_1124 rfl 2 rfl ?_
  refine l_aload_n X dL_law_1125 rfl 0 rfl ?_
  refine l_iload X dL_law_1126 4 rfl ?_
  refine l_iconst (v := 1) X dL_law_1128 (by decide) ?_
  refine l_iadd X dL_law_1129 ?_
  refine l_sld X hX hbl hbA g1 dL_law_1130 ?_
  refine l_cM (As := [.int (xs (x4 + 1).toNatClampNeg)]) (rest := [.int r]) X (k_X12_share hm) uw8_117 uw8_118 uw8_119 uw1_13 uw8_120 rfl rfl dd_X12_share ⟨Nat.le_of_ble_eq_true rfl, Nat.le_of_ble_eq_true rfl⟩ rfl (Nat.le_of_ble_eq_true rfl) (by show _ ≤ 601024; omega) (by show _ ≤ 7293034; omega) dL_law_1131 rfl ?_
  refine l_icmp_eq_t (tgt := 1457) X dL_law_1134 (by decide) rfl ?_
  refine l_widen (k := ce + 1) (n := sl + 6) (by omega) (by omega) ?_
  exact l_sub [0, 1, 2, 3, 4] rfl (hk _ _ _ hR2)
set_option maxHeartbeats 4000000 in
set_option maxRecDepth 100000 in
theorem lc_rests {p : Program} {l : Launch} {e : Env} {s : State} {m : MethodId} {args : Array Value} {below : List Frame} {meth : Method} {c : Code} {Q : State → Prop} {A : Nat → Prop} {dC : Nat → ClassId} {dI : Nat → Nat → Nat} {cy : Nat → ClassId} {ks : (Nat → Nat) × (Nat → Nat)} {a0 b L : Nat} {xs : Nat → Int32} {Rel : Mm → Mm → Prop} {mP mM : Mm} {ov : Int64} {ce sl : Nat} {x4 : Int32} (X : CxL p l e room_1 s m args below meth c cL_law 7 RL A dC dI cy ks a0) (hnt : l.stackTraces = false) (hX : va_X b L xs s s.heap) (hbl : b < s.heap.size) (hbA : ¬ A b) (hSt : St_rests Rel) (g1 : vp_in (x4 + 1) L) (g2 : vp_in (x4 + 2) L) (g3 : vp_in (x4 + 3) L) (g4 : vp_in (x4 + 4) L) (g5 : vp_in (x4 + 5) L) (g6 : vp_in (x4 + 6) L) (hR : Rel mP mM) (hce : ce + 1 ≤ 601024) (hsl : sl + 6 ≤ 7293034) (hk : ∀ (mP mM : Mm) (ov : Int64), Rel mP mM → JL p l e room_1 s m args below meth c 7 Q A dC dI cy a0 mP mM ov (ce + 1) (sl + 6) 1457 [(0, .ref b), (1, .ref (aP a0 0)), (2, .ref (aM a0 0)), (3, .ref (a0 + 214)), (4, .int x4)] []) : JL p l e room_1 s m args below meth c 7 Q A dC dI cy a0 mP mM ov (ce) (sl) 1139 [(0, .ref b), (1, .ref (aP a0 0)), (2, .ref (aM a0 0)), (3, .ref (a0 + 214)), (4, .int x4)] [] := by
  obtain ⟨x, mP2, rM, mM2, hp, hm, hx0, hx1, hR2⟩ := hSt (xs (x4 + 1).toNatClampNeg) (xs (x4 + 2).toNatClampNeg) (xs (x4 + 3).toNatClampNeg) (xs (x4 + 4).toNatClampNeg) mP mM hR
  cases x with
  | none =>
    have hth := hx0 rfl
    refine l_aload_n X dL_law_1139 rfl 1 rfl ?_
    refine l_aload_n X dL_law_1140 rfl 0 rfl ?_
    refine l_iload X dL_law_1141 4 rfl ?_
    refine l_iconst (v := 1) X dL_law_1143 (by decide) ?_
    refine l_iadd X dL_law_1144 ?_
    refine l_sld X hX hbl hbA g1 dL_law_1145 ?_
    refine l_aload_n X dL_law_1146 rfl 0 rfl ?_
    refine l_iload X dL_law_1147 4 rfl ?_
    refine l_iconst (v := 2) X dL_law_1149 (by decide) ?_
    refine l_iadd X dL_law_1150 ?_
    refine l_sld X hX hbl hbA g2 dL_law_1151 ?_
    refine l_aload_n X dL_law_1152 rfl 0 rfl ?_
    refine l_iload X dL_law_1153 4 rfl ?_
    refine l_iconst (v := 3) X dL_law_1155 (by decide) ?_
    refine l_iadd X dL_law_1156 ?_
    refine l_sld X hX hbl hbA g3 dL_law_1157 ?_
    refine l_aload_n X dL_law_1158 rfl 0 rfl ?_
    refine l_iload X dL_law_1159 4 rfl ?_
    refine l_iconst (v := 4) X dL_law_1161 (by decide) ?_
    refine l_iadd X dL_law_1162 ?_
    refine l_sld X hX hbl hbA g4 dL_law_1163 ?_
    refine l_aload_n X dL_law_1164 rfl 3 rfl ?_
    refine l_cH (As := [.ref (aP a0 0), .int (xs (x4 + 1).toNatClampNeg), .int (xs (x4 + 2).toNatClampNeg), .int (xs (x4 + 3).toNatClampNeg), .int (xs (x4 + 4).toNatClampNeg), .ref (a0 + 214)]) (rest := []) X (kh_rests_n hnt hp) uw5_160 uw5_161 uw1_0 uw5_162 rfl rfl dh_rests ⟨Nat.le_of_ble_eq_true rfl, Nat.le_of_ble_eq_true rfl⟩ rfl (Nat.le_of_ble_eq_true rfl) (by show _ ≤ 601024; omega) (by show _ ≤ 7293034; omega) dL_law_1165 rfl ?_
    refine l_istore (lv2 := [(5, .int 1), (0, .ref b), (1, .ref (aP a0 0)), (2, .ref (aM a0 0)), (3, .ref (a0 + 214)), (4, .int x4)]) X dL_law_1168 (by decide) rfl ?_
    refine l_aload_n X dL_law_1170 rfl 3 rfl ?_
    refine l_aload_n X dL_law_1171 rfl 1 rfl ?_
    refine l_iload X dL_law_1172 5 rfl ?_
    refine l_iconst (v := 1) X dL_law_1174 (by decide) ?_
    refine l_iadd X dL_law_1175 ?_
    refine l_sld X hX hbl hbA g1 dL_law_1176 ?_
    refine l_aload_n X dL_law_1177 rfl 1 rfl ?_
    refine l_iload X dL_law_1178 5 rfl ?_
    refine l_iconst (v := 2) X dL_law_1180 (by decide) ?_
    refine l_iadd X dL_law_1181 ?_
    refine l_sld X hX hbl hbA g2 dL_law_1182 ?_
    refine l_aload_n X dL_law_1183 rfl 1 rfl ?_
    refine l_iload X dL_law_1184 5 rfl ?_
    refine l_iconst (v := 3) X dL_law_1186 (by decide) ?_
    refine l_iadd X dL_law_1187 ?_
    refine l_sld X hX hbl hbA g3 dL_law_1188 ?_
    refine l_aload_n X dL_law_1189 rfl 1 rfl ?_
    refine l_iload X dL_law_1190 5 rfl ?_
    refine l_iconst (v := 4) X dL_law_1192 (by decide) ?_
    refine l_iadd X dL_law_1193 ?_
    refine l_sld X hX hbl hbA g4 dL_law_1194 ?_
    refine l_cM (As := [.int (xs (x4 + 1).toNatClampNeg), .int (xs (x4 + 2).toNatClampNeg), .int (xs (x4 + 3).toNatClampNeg), .int (xs (x4 + 4).toNatClampNeg)]) (rest := []) X (k_X12_rests hm) uw8_121 uw8_122 uw8_123 uw1_13 uw8_124 rfl rfl dd_X12_rests ⟨Nat.le_of_ble_eq_true rfl, Nat.le_of_ble_eq_true rfl⟩ rfl (Nat.le_of_ble_eq_true rfl) (by show _ ≤ 601024; omega) (by show _ ≤ 7293034; omega) dL_law_1195 rfl ?_
    refine l_istore (lv2 := [(6, .int rM), (5, .int 1), (0, .ref b), (1, .ref (aP a0 0)), (2, .ref (aM a0 0)), (3, .ref (a0 + 214)), (4, .int x4)]) X dL_law_1198 (by decide) rfl ?_
    refine l_aload_n X dL_law_1200 rfl 4 rfl ?_
    refine l_cM (As := []) (rest := []) X (k_X12_thrown (thr_ok hth)) uw6_183 uw6_184 uw6_185 uw1_13 uw6_186 rfl rfl dd_X12_thrown ⟨Nat.le_of_ble_eq_true rfl, Nat.le_of_ble_eq_true rfl⟩ rfl (Nat.le_of_ble_eq_true rfl) (by show _ ≤ 601024; omega) (by show _ ≤ 7293034; omega) dL_law_1201 rfl ?_
    refine l_iload X dL_law_1204 1 rfl ?_
    refine l_icmp_eq_t (tgt := 1211) X dL_law_1206 (by decide) rfl ?_
    refine l_iload X dL_law_1211 1 rfl ?_
    refine l_if_ne_t (tgt := 1228) X dL_law_1213 (by decide) (by decide) ?_
    refine l_goto (tgt := 1457) X dL_law_1228 (by decide) ?_
    exact l_sub [2, 3, 4, 5, 6] rfl (hk _ _ _ hR2)
  | some v =>
    obtain ⟨hth, rfl⟩ := hx1 v rfl
    refine l_aload_n X dL_law_1139 rfl 1 rfl ?_
    refine l_aload_n X dL_law_1140 rfl 0 rfl ?_
    refine l_iload X dL_law_1141 4 rfl ?_
    refine l_iconst (v := 1) X dL_law_1143 (by decide) ?_
    refine l_iadd X dL_law_1144 ?_
    refine l_sld X hX hbl hbA g1 dL_law_1145 ?_
    refine l_aload_n X dL_law_1146 rfl 0 rfl ?_
    refine l_iload X dL_law_1147 4 rfl ?_
    refine l_iconst (v := 2) X dL_law_1149 (by decide) ?_
    refine l_iadd X dL_law_1150 ?_
    refine l_sld X hX hbl hbA g2 dL_law_1151 ?_
    refine l_aload_n X dL_law_1152 rfl 0 rfl ?_
    refine l_iload X dL_law_1153 4 rfl ?_
    refine l_iconst (v := 3) X dL_law_1155 (by decide) ?_
    refine l_iadd X dL_law_1156 ?_
    refine l_sld X hX hbl hbA g3 dL_law_1157 ?_
    refine l_aload_n X dL_law_1158 rfl 0 rfl ?_
    refine l_iload X dL_law_1159 4 rfl ?_
    refine l_iconst (v := 4) X dL_law_1161 (by decide) ?_
    refine l_iadd X dL_law_1162 ?_
    refine l_sld X hX hbl hbA g4 dL_law_1163 ?_
    refine l_aload_n X dL_law_1164 rfl 3 rfl ?_
    refine l_cH (As := [.ref (aP a0 0), .int (xs (x4 + 1).toNatClampNeg), .int (xs (x4 + 2).toNatClampNeg), .int (xs (x4 + 3).toNatClampNeg), .int (xs (x4 + 4).toNatClampNeg), .ref (a0 + 214)]) (rest := []) X (kh_rests_s hnt hp) uw5_160 uw5_161 uw1_0 uw5_162 rfl rfl dh_rests ⟨Nat.le_of_ble_eq_true rfl, Nat.le_of_ble_eq_true rfl⟩ rfl (Nat.le_of_ble_eq_true rfl) (by show _ ≤ 601024; omega) (by show _ ≤ 7293034; omega) dL_law_1165 rfl ?_
    refine l_istore (lv2 := [(5, .int 0), (0, .ref b), (1, .ref (aP a0 0)), (2, .ref (aM a0 0)), (3, .ref (a0 + 214)), (4, .int x4)]) X dL_law_1168 (by decide) rfl ?_
    refine l_aload_n X dL_law_1170 rfl 3 rfl ?_
    refine l_aload_n X dL_law_1171 rfl 1 rfl ?_
    refine l_iload X dL_law_1172 5 rfl ?_
    refine l_iconst (v := 1) X dL_law_1174 (by decide) ?_
    refine l_iadd X dL_law_1175 ?_
    refine l_sld X hX hbl hbA g1 dL_law_1176 ?_
    refine l_aload_n X dL_law_1177 rfl 1 rfl ?_
    refine l_iload X dL_law_1178 5 rfl ?_
    refine l_iconst (v := 2) X dL_law_1180 (by decide) ?_
    refine l_iadd X dL_law_1181 ?_
    refine l_sld X hX hbl hbA g2 dL_law_1182 ?_
    refine l_aload_n X dL_law_1183 rfl 1 rfl ?_
    refine l_iload X dL_law_1184 5 rfl ?_
    refine l_iconst (v := 3) X dL_law_1186 (by decide) ?_
    refine l_iadd X dL_law_1187 ?_
    refine l_sld X hX hbl hbA g3 dL_law_1188 ?_
    refine l_aload_n X dL_law_1189 rfl 1 rfl ?_
    refine l_iload X dL_law_1190 5 rfl ?_
    refine l_iconst (v := 4) X dL_law_1192 (by decide) ?_
    refine l_iadd X dL_law_1193 ?_
    refine l_sld X hX hbl hbA g4 dL_law_1194 ?_
    refine l_cM (As := [.int (xs (x4 + 1).toNatClampNeg), .int (xs (x4 + 2).toNatClampNeg), .int (xs (x4 + 3).toNatClampNeg), .int (xs (x4 + 4).toNatClampNeg)]) (rest := []) X (k_X12_rests hm) uw8_121 uw8_122 uw8_123 uw1_13 uw8_124 rfl rfl dd_X12_rests ⟨Nat.le_of_ble_eq_true rfl, Nat.le_of_ble_eq_true rfl⟩ rfl (Nat.le_of_ble_eq_true rfl) (by show _ ≤ 601024; omega) (by show _ ≤ 7293034; omega) dL_law_1195 rfl ?_
    refine l_istore (lv2 := [(6, .int rM), (5, .int 0), (0, .ref b), (1, .ref (aP a0 0)), (2, .ref (aM a0 0)), (3, .ref (a0 + 214)), (4, .int x4)]) X dL_law_1198 (by decide) rfl ?_
    refine l_aload_n X dL_law_1200 rfl 4 rfl ?_
    refine l_cM (As := []) (rest := []) X (k_X12_thrown (thr_ok hth)) uw6_183 uw6_184 uw6_185 uw1_13 uw6_186 rfl rfl dd_X12_thrown ⟨Nat.le_of_ble_eq_true rfl, Nat.le_of_ble_eq_true rfl⟩ rfl (Nat.le_of_ble_eq_true rfl) (by show _ ≤ 601024; omega) (by show _ ≤ 7293034; omega) dL_law_1201 rfl ?_
    refine l_iload X dL_law_1204 1 rfl ?_
    refine l_icmp_eq_t (tgt := 1211) X dL_law_1206 (by decide) rfl ?_
    refine l_iload X dL_law_1211 1 rfl ?_
    refine l_if_ne_f (tgt := 1228) X dL_law_1213 (by decide) (by decide) ?_
    refine l_aload_n X dL_law_1216 rfl 5 rfl ?_
    refine l_iconst (v := 0) X dL_law_1217 (by decide) ?_
    refine l_olad X dL_law_1218 ?_
    refine l_iload X dL_law_1219 0 rfl ?_
    refine l_i2l X dL_law_1221 ?_
    refine l_lcmp X dL_law_1222 ?_
    refine l_if_eq_t (tgt := 1228) X dL_law_1223 (by decide) (lgc_self _) ?_
    refine l_goto (tgt := 1457) X dL_law_1228 (by decide) ?_
    exact l_sub [2, 3, 4, 5, 6] rfl (hk _ _ _ hR2)
set_option maxHeartbeats 4000000 in
set_option maxRecDepth 100000 in
theorem lc_rule {p : Program} {l : Launch} {e : Env} {s : State} {m : MethodId} {args : Array Value} {below : List Frame} {meth : Method} {c : Code} {Q : State → Prop} {A : Nat → Prop} {dC : Nat → ClassId} {dI : Nat → Nat → Nat} {cy : Nat → ClassId} {ks : (Nat → Nat) × (Nat → Nat)} {a0 b L : Nat} {xs : Nat → Int32} {Rel : Mm → Mm → Prop} {mP mM : Mm} {ov : Int64} {ce sl : Nat} {x4 : Int32} (X : CxL p l e room_1 s m args below meth c cL_law 7 RL A dC dI cy ks a0) (hnt : l.stackTraces = false) (hX : va_X b L xs s s.heap) (hbl : b < s.heap.size) (hbA : ¬ A b) (hSt : St_rule Rel) (g1 : vp_in (x4 + 1) L) (g2 : vp_in (x4 + 2) L) (g3 : vp_in (x4 + 3) L) (g4 : vp_in (x4 + 4) L) (g5 : vp_in (x4 + 5) L) (g6 : vp_in (x4 + 6) L) (hR : Rel mP mM) (hce : ce + 1 ≤ 601024) (hsl : sl + 6 ≤ 7293034) (hk : ∀ (mP mM : Mm) (ov : Int64), Rel mP mM → JL p l e room_1 s m args below meth c 7 Q A dC dI cy a0 mP mM ov (ce + 1) (sl + 6) 1457 [(0, .ref b), (1, .ref (aP a0 0)), (2, .ref (aM a0 0)), (3, .ref (a0 + 214)), (4, .int x4)] []) : JL p l e room_1 s m args below meth c 7 Q A dC dI cy a0 mP mM ov (ce) (sl) 1231 [(0, .ref b), (1, .ref (aP a0 0)), (2, .ref (aM a0 0)), (3, .ref (a0 + 214)), (4, .int x4)] [] := by
  obtain ⟨x, mP2, rM, mM2, hp, hm, hx0, hx1, hR2⟩ := hSt (xs (x4 + 1).toNatClampNeg) (xs (x4 + 2).toNatClampNeg) mP mM hR
  cases x with
  | none =>
    have hth := hx0 rfl
    refine l_aload_n X dL_law_1231 rfl 1 rfl ?_
    refine l_aload_n X dL_law_1232 rfl 0 rfl ?_
    refine l_iload X dL_law_1233 4 rfl ?_
    refine l_iconst (v := 1) X dL_law_1235 (by decide) ?_
    refine l_iadd X dL_law_1236 ?_
    refine l_sld X hX hbl hbA g1 dL_law_1237 ?_
    refine l_aload_n X dL_law_1238 rfl 0 rfl ?_
    refine l_iload X dL_law_1239 4 rfl ?_
    refine l_iconst (v := 2) X dL_law_1241 (by decide) ?_
    refine l_iadd X dL_law_1242 ?_
    refine l_sld X hX hbl hbA g2 dL_law_1243 ?_
    refine l_aload_n X dL_law_1244 rfl 3 rfl ?_
    refine l_cH (As := [.ref (aP a0 0), .int (xs (x4 + 1).toNatClampNeg), .int (xs (x4 + 2).toNatClampNeg), .ref (a0 + 214)]) (rest := []) X (kh_rule_n hnt hp) uw5_176 uw5_177 uw1_0 uw5_178 rfl rfl dh_rule ⟨Nat.le_of_ble_eq_true rfl, Nat.le_of_ble_eq_true rfl⟩ rfl (Nat.le_of_ble_eq_true rfl) (by show _ ≤ 601024; omega) (by show _ ≤ 7293034; omega) dL_law_1245 rfl ?_
    refine l_istore (lv2 := [(5, .int 1), (0, .ref b), (1, .ref (aP a0 0)), (2, .ref (aM a0 0)), (3, .ref (a0 + 214)), (4, .int x4)]) X dL_law_1248 (by decide) rfl ?_
    refine l_aload_n X dL_law_1250 rfl 3 rfl ?_
    refine l_aload_n X dL_law_1251 rfl 1 rfl ?_
    refine l_iload X dL_law_1252 5 rfl ?_
    refine l_iconst (v := 1) X dL_law_1254 (by decide) ?_
    refine l_iadd X dL_law_1255 ?_
    refine l_sld X hX hbl hbA g1 dL_law_1256 ?_
    refine l_aload_n X dL_law_1257 rfl 1 rfl ?_
    refine l_iload X dL_law_1258 5 rfl ?_
    refine l_iconst (v := 2) X dL_law_1260 (by decide) ?_
    refine l_iadd X dL_law_1261 ?_
    refine l_sld X hX hbl hbA g2 dL_law_1262 ?_
    refine l_cM (As := [.int (xs (x4 + 1).toNatClampNeg), .int (xs (x4 + 2).toNatClampNeg)]) (rest := []) X (k_X12_rule hm) uw8_52 uw8_53 uw8_54 uw1_13 uw8_55 rfl rfl dd_X12_rule ⟨Nat.le_of_ble_eq_true rfl, Nat.le_of_ble_eq_true rfl⟩ rfl (Nat.le_of_ble_eq_true rfl) (by show _ ≤ 601024; omega) (by show _ ≤ 7293034; omega) dL_law_1263 rfl ?_
    refine l_istore (lv2 := [(6, .int rM), (5, .int 1), (0, .ref b), (1, .ref (aP a0 0)), (2, .ref (aM a0 0)), (3, .ref (a0 + 214)), (4, .int x4)]) X dL_law_1266 (by decide) rfl ?_
    refine l_aload_n X dL_law_1268 rfl 4 rfl ?_
    refine l_cM (As := []) (rest := []) X (k_X12_thrown (thr_ok hth)) uw6_183 uw6_184 uw6_185 uw1_13 uw6_186 rfl rfl dd_X12_thrown ⟨Nat.le_of_ble_eq_true rfl, Nat.le_of_ble_eq_true rfl⟩ rfl (Nat.le_of_ble_eq_true rfl) (by show _ ≤ 601024; omega) (by show _ ≤ 7293034; omega) dL_law_1269 rfl ?_
    refine l_iload X dL_law_1272 1 rfl ?_
    refine l_icmp_eq_t (tgt := 1279) X dL_law_1274 (by decide) rfl ?_
    refine l_iload X dL_law_1279 1 rfl ?_
    refine l_if_ne_t (tgt := 1296) X dL_law_1281 (by decide) (by decide) ?_
    refine l_goto (tgt := 1457) X dL_law_1296 (by decide) ?_
    exact l_sub [2, 3, 4, 5, 6] rfl (hk _ _ _ hR2)
  | some v =>
    obtain ⟨hth, rfl⟩ := hx1 v rfl
    refine l_aload_n X dL_law_1231 rfl 1 rfl ?_
    refine l_aload_n X dL_law_1232 rfl 0 rfl ?_
    refine l_iload X dL_law_1233 4 rfl ?_
    refine l_iconst (v := 1) X dL_law_1235 (by decide) ?_
    refine l_iadd X dL_law_1236 ?_
    refine l_sld X hX hbl hbA g1 dL_law_1237 ?_
    refine l_aload_n X dL_law_1238 rfl 0 rfl ?_
    refine l_iload X dL_law_1239 4 rfl ?_
    refine l_iconst (v := 2) X dL_law_1241 (by decide) ?_
    refine l_iadd X dL_law_1242 ?_
    refine l_sld X hX hbl hbA g2 dL_law_1243 ?_
    refine l_aload_n X dL_law_1244 rfl 3 rfl ?_
    refine l_cH (As := [.ref (aP a0 0), .int (xs (x4 + 1).toNatClampNeg), .int (xs (x4 + 2).toNatClampNeg), .ref (a0 + 214)]) (rest := []) X (kh_rule_s hnt hp) uw5_176 uw5_177 uw1_0 uw5_178 rfl rfl dh_rule ⟨Nat.le_of_ble_eq_true rfl, Nat.le_of_ble_eq_true rfl⟩ rfl (Nat.le_of_ble_eq_true rfl) (by show _ ≤ 601024; omega) (by show _ ≤ 7293034; omega) dL_law_1245 rfl ?_
    refine l_istore (lv2 := [(5, .int 0), (0, .ref b), (1, .ref (aP a0 0)), (2, .ref (aM a0 0)), (3, .ref (a0 + 214)), (4, .int x4)]) X dL_law_1248 (by decide) rfl ?_
    refine l_aload_n X dL_law_1250 rfl 3 rfl ?_
    refine l_aload_n X dL_law_1251 rfl 1 rfl ?_
    refine l_iload X dL_law_1252 5 rfl ?_
    refine l_iconst (v := 1) X dL_law_1254 (by decide) ?_
    refine l_iadd X dL_law_1255 ?_
    refine l_sld X hX hbl hbA g1 dL_law_1256 ?_
    refine l_aload_n X dL_law_1257 rfl 1 rfl ?_
    refine l_iload X dL_law_1258 5 rfl ?_
    refine l_iconst (v := 2) X dL_law_1260 (by decide) ?_
    refine l_iadd X dL_law_1261 ?_
    refine l_sld X hX hbl hbA g2 dL_law_1262 ?_
    refine l_cM (As := [.int (xs (x4 + 1).toNatClampNeg), .int (xs (x4 + 2).toNatClampNeg)]) (rest := []) X (k_X12_rule hm) uw8_52 uw8_53 uw8_54 uw1_13 uw8_55 rfl rfl dd_X12_rule ⟨Nat.le_of_ble_eq_true rfl, Nat.le_of_ble_eq_true rfl⟩ rfl (Nat.le_of_ble_eq_true rfl) (by show _ ≤ 601024; omega) (by show _ ≤ 7293034; omega) dL_law_1263 rfl ?_
    refine l_istore (lv2 := [(6, .int rM), (5, .int 0), (0, .ref b), (1, .ref (aP a0 0)), (2, .ref (aM a0 0)), (3, .ref (a0 + 214)), (4, .int x4)]) X dL_law_1266 (by decide) rfl ?_
    refine l_aload_n X dL_law_1268 rfl 4 rfl ?_
    refine l_cM (As := []) (rest := []) X (k_X12_thrown (thr_ok hth)) uw6_183 uw6_184 uw6_185 uw1_13 uw6_186 rfl rfl dd_X12_thrown ⟨Nat.le_of_ble_eq_true rfl, Nat.le_of_ble_eq_true rfl⟩ rfl (Nat.le_of_ble_eq_true rfl) (by show _ ≤ 601024; omega) (by show _ ≤ 7293034; omega) dL_law_1269 rfl ?_
    refine l_iload X dL_law_1272 1 rfl ?_
    refine l_icmp_eq_t (tgt := 1279) X dL_law_1274 (by decide) rfl ?_
    refine l_iload X dL_law_1279 1 rfl ?_
    refine l_if_ne_f (tgt := 1296) X dL_law_1281 (by decide) (by decide) ?_
    refine l_aload_n X dL_law_1284 rfl 5 rfl ?_
    refine l_iconst (v := 0) X dL_law_1285 (by decide) ?_
    refine l_olad X dL_law_1286 ?_
    refine l_iload X dL_law_1287 0 rfl ?_
    refine l_i2l X dL_law_1289 ?_
    refine l_lcmp X dL_law_1290 ?_
    refine l_if_eq_t (tgt := 1296) X dL_law_1291 (by decide) (lgc_self _) ?_
    refine l_goto (tgt := 1457) X dL_law_1296 (by decide) ?_
    exact l_sub [2, 3, 4, 5, 6] rfl (hk _ _ _ hR2)
set_option maxHeartbeats 4000000 in
set_option maxRecDepth 100000 in
theorem lc_months {p : Program} {l : Launch} {e : Env} {s : State} {m : MethodId} {args : Array Value} {below : List Frame} {meth : Method} {c : Code} {Q : State → Prop} {A : Nat → Prop} {dC : Nat → ClassId} {dI : Nat → Nat → Nat} {cy : Nat → ClassId} {ks : (Nat → Nat) × (Nat → Nat)} {a0 b L : Nat} {xs : Nat → Int32} {Rel : Mm → Mm → Prop} {mP mM : Mm} {ov : Int64} {ce sl : Nat} {x4 : Int32} (X : CxL p l e room_1 s m args below meth c cL_law 7 RL A dC dI cy ks a0) (hnt : l.stackTraces = false) (hX : va_X b L xs s s.heap) (hbl : b < s.heap.size) (hbA : ¬ A b) (hSt : St_months Rel) (g1 : vp_in (x4 + 1) L) (g2 : vp_in (x4 + 2) L) (g3 : vp_in (x4 + 3) L) (g4 : vp_in (x4 + 4) L) (g5 : vp_in (x4 + 5) L) (g6 : vp_in (x4 + 6) L) (hR : Rel mP mM) (hce : ce + 1 ≤ 601024) (hsl : sl + 6 ≤ 7293034) (hk : ∀ (mP mM : Mm) (ov : Int64), Rel mP mM → JL p l e room_1 s m args below meth c 7 Q A dC dI cy a0 mP mM ov (ce + 1) (sl + 6) 1457 [(0, .ref b), (1, .ref (aP a0 0)), (2, .ref (aM a0 0)), (3, .ref (a0 + 214)), (4, .int x4)] []) : JL p l e room_1 s m args below meth c 7 Q A dC dI cy a0 mP mM ov (ce) (sl) 1299 [(0, .ref b), (1, .ref (aP a0 0)), (2, .ref (aM a0 0)), (3, .ref (a0 + 214)), (4, .int x4)] [] := by
  obtain ⟨x, mP2, rM, mM2, hp, hm, hx0, hx1, hR2⟩ := hSt (xs (x4 + 1).toNatClampNeg) (xs (x4 + 2).toNatClampNeg) (xs (x4 + 3).toNatClampNeg) mP mM hR
  cases x with
  | none =>
    have hth := hx0 rfl
    refine l_aload_n X dL_law_1299 rfl 1 rfl ?_
    refine l_aload_n X dL_law_1300 rfl 0 rfl ?_
    refine l_iload X dL_law_1301 4 rfl ?_
    refine l_iconst (v := 1) X dL_law_1303 (by decide) ?_
    refine l_iadd X dL_law_1304 ?_
    refine l_sld X hX hbl hbA g1 dL_law_1305 ?_
    refine l_aload_n X dL_law_1306 rfl 0 rfl ?_
    refine l_iload X dL_law_1307 4 rfl ?_
    refine l_iconst (v := 2) X dL_law_1309 (by decide) ?_
    refine l_iadd X dL_law_1310 ?_
    refine l_sld X hX hbl hbA g2 dL_law_1311 ?_
    refine l_aload_n X dL_law_1312 rfl 0 rfl ?_
    refine l_iload X dL_law_1313 4 rfl ?_
    refine l_iconst (v := 3) X dL_law_1315 (by decide) ?_
    refine l_iadd X dL_law_1316 ?_
    refine l_sld X hX hbl hbA g3 dL_law_1317 ?_
    refine l_aload_n X dL_law_1318 rfl 3 rfl ?_
    refine l_cH (As := [.ref (aP a0 0), .int (xs (x4 + 1).toNatClampNeg), .int (xs (x4 + 2).toNatClampNeg), .int (xs (x4 + 3).toNatClampNeg), .ref (a0 + 214)]) (rest := []) X (kh_months_n hnt hp) uw5_183 uw5_184 uw1_0 uw5_185 rfl rfl dh_months ⟨Nat.le_of_ble_eq_true rfl, Nat.le_of_ble_eq_true rfl⟩ rfl (Nat.le_of_ble_eq_true rfl) (by show _ ≤ 601024; omega) (by show _ ≤ 7293034; omega) dL_law_1319 rfl ?_
    refine l_istore (lv2 := [(5, .int 1), (0, .ref b), (1, .ref (aP a0 0)), (2, .ref (aM a0 0)), (3, .ref (a0 + 214)), (4, .int x4)]) X dL_law_1322 (by decide) rfl ?_
    refine l_aload_n X dL_law_1324 rfl 3 rfl ?_
    refine l_aload_n X dL_law_1325 rfl 1 rfl ?_
    refine l_iload X dL_law_1326 5 rfl ?_
    refine l_iconst (v := 1) X dL_law_1328 (by decide) ?_
    refine l_iadd X dL_law_1329 ?_
    refine l_sld X hX hbl hbA g1 dL_law_1330 ?_
    refine l_aload_n X dL_law_1331 rfl 1 rfl ?_
    refine l_iload X dL_law_1332 5 rfl ?_
    refine l_iconst (v := 2) X dL_law_1334 (by decide) ?_
    refine l_iadd X dL_law_1335 ?_
    refine l_sld X hX hbl hbA g2 dL_law_1336 ?_
    refine l_aload_n X dL_law_1337 rfl 1 rfl ?_
    refine l_iload X dL_law_1338 5 rfl ?_
    refine l_iconst (v := 3) X dL_law_1340 (by decide) ?_
    refine l_iadd X dL_law_1341 ?_
    refine l_sld X hX hbl hbA g3 dL_law_1342 ?_
    refine l_cM (As := [.int (xs (x4 + 1).toNatClampNeg), .int (xs (x4 + 2).toNatClampNeg), .int (xs (x4 + 3).toNatClampNeg)]) (rest := []) X (k_X12_months hm) uw8_128 uw8_129 uw8_130 uw1_13 uw8_131 rfl rfl dd_X12_months ⟨Nat.le_of_ble_eq_true rfl, Nat.le_of_ble_eq_true rfl⟩ rfl (Nat.le_of_ble_eq_true rfl) (by show _ ≤ 601024; omega) (by show _ ≤ 7293034; omega) dL_law_1343 rfl ?_
    refine l_istore (lv2 := [(6, .int rM), (5, .int 1), (0, .ref b), (1, .ref (aP a0 0)), (2, .ref (aM a0 0)), (3, .ref (a0 + 214)), (4, .int x4)]) X dL_law_1346 (by decide) rfl ?_
    refine l_aload_n X dL_law_1348 rfl 4 rfl ?_
    refine l_cM (As := []) (rest := []) X (k_X12_thrown (thr_ok hth)) uw6_183 uw6_184 uw6_185 uw1_13 uw6_186 rfl rfl dd_X12_thrown ⟨Nat.le_of_ble_eq_true rfl, Nat.le_of_ble_eq_true rfl⟩ rfl (Nat.le_of_ble_eq_true rfl) (by show _ ≤ 601024; omega) (by show _ ≤ 7293034; omega) dL_law_1349 rfl ?_
    refine l_iload X dL_law_1352 1 rfl ?_
    refine l_icmp_eq_t (tgt := 1359) X dL_law_1354 (by decide) rfl ?_
    refine l_iload X dL_law_1359 1 rfl ?_
    refine l_if_ne_t (tgt := 1376) X dL_law_1361 (by decide) (by decide) ?_
    refine l_goto (tgt := 1457) X dL_law_1376 (by decide) ?_
    exact l_sub [2, 3, 4, 5, 6] rfl (hk _ _ _ hR2)
  | some v =>
    obtain ⟨hth, rfl⟩ := hx1 v rfl
    refine l_aload_n X dL_law_1299 rfl 1 rfl ?_
    refine l_aload_n X dL_law_1300 rfl 0 rfl ?_
    refine l_iload X dL_law_1301 4 rfl ?_
    refine l_iconst (v := 1) X dL_law_1303 (by decide) ?_
    refine l_iadd X dL_law_1304 ?_
    refine l_sld X hX hbl hbA g1 dL_law_1305 ?_
    refine l_aload_n X dL_law_1306 rfl 0 rfl ?_
    refine l_iload X dL_law_1307 4 rfl ?_
    refine l_iconst (v := 2) X dL_law_1309 (by decide) ?_
    refine l_iadd X dL_law_1310 ?_
    refine l_sld X hX hbl hbA g2 dL_law_1311 ?_
    refine l_aload_n X dL_law_1312 rfl 0 rfl ?_
    refine l_iload X dL_law_1313 4 rfl ?_
    refine l_iconst (v := 3) X dL_law_1315 (by decide) ?_
    refine l_iadd X dL_law_1316 ?_
    refine l_sld X hX hbl hbA g3 dL_law_1317 ?_
    refine l_aload_n X dL_law_1318 rfl 3 rfl ?_
    refine l_cH (As := [.ref (aP a0 0), .int (xs (x4 + 1).toNatClampNeg), .int (xs (x4 + 2).toNatClampNeg), .int (xs (x4 + 3).toNatClampNeg), .ref (a0 + 214)]) (rest := []) X (kh_months_s hnt hp) uw5_183 uw5_184 uw1_0 uw5_185 rfl rfl dh_months ⟨Nat.le_of_ble_eq_true rfl, Nat.le_of_ble_eq_true rfl⟩ rfl (Nat.le_of_ble_eq_true rfl) (by show _ ≤ 601024; omega) (by show _ ≤ 7293034; omega) dL_law_1319 rfl ?_
    refine l_istore (lv2 := [(5, .int 0), (0, .ref b), (1, .ref (aP a0 0)), (2, .ref (aM a0 0)), (3, .ref (a0 + 214)), (4, .int x4)]) X dL_law_1322 (by decide) rfl ?_
    refine l_aload_n X dL_law_1324 rfl 3 rfl ?_
    refine l_aload_n X dL_law_1325 rfl 1 rfl ?_
    refine l_iload X dL_law_1326 5 rfl ?_
    refine l_iconst (v := 1) X dL_law_1328 (by decide) ?_
    refine l_iadd X dL_law_1329 ?_
    refine l_sld X hX hbl hbA g1 dL_law_1330 ?_
    refine l_aload_n X dL_law_1331 rfl 1 rfl ?_
    refine l_iload X dL_law_1332 5 rfl ?_
    refine l_iconst (v := 2) X dL_law_1334 (by decide) ?_
    refine l_iadd X dL_law_1335 ?_
    refine l_sld X hX hbl hbA g2 dL_law_1336 ?_
    refine l_aload_n X dL_law_1337 rfl 1 rfl ?_
    refine l_iload X dL_law_1338 5 rfl ?_
    refine l_iconst (v := 3) X dL_law_1340 (by decide) ?_
    refine l_iadd X dL_law_1341 ?_
    refine l_sld X hX hbl hbA g3 dL_law_1342 ?_
    refine l_cM (As := [.int (xs (x4 + 1).toNatClampNeg), .int (xs (x4 + 2).toNatClampNeg), .int (xs (x4 + 3).toNatClampNeg)]) (rest := []) X (k_X12_months hm) uw8_128 uw8_129 uw8_130 uw1_13 uw8_131 rfl rfl dd_X12_months ⟨Nat.le_of_ble_eq_true rfl, Nat.le_of_ble_eq_true rfl⟩ rfl (Nat.le_of_ble_eq_true rfl) (by show _ ≤ 601024; omega) (by show _ ≤ 7293034; omega) dL_law_1343 rfl ?_
    refine l_istore (lv2 := [(6, .int rM), (5, .int 0), (0, .ref b), (1, .ref (aP a0 0)), (2, .ref (aM a0 0)), (3, .ref (a0 + 214)), (4, .int x4)]) X dL_law_1346 (by decide) rfl ?_
    refine l_aload_n X dL_law_1348 rfl 4 rfl ?_
    refine l_cM (As := []) (rest := []) X (k_X12_thrown (thr_ok hth)) uw6_183 uw6_184 uw6_185 uw1_13 uw6_186 rfl rfl dd_X12_thrown ⟨Nat.le_of_ble_eq_true rfl, Nat.le_of_ble_eq_true rfl⟩ rfl (Nat.le_of_ble_eq_true rfl) (by show _ ≤ 601024; omega) (by show _ ≤ 7293034; omega) dL_law_1349 rfl ?_
    refine l_iload X dL_law_1352 1 rfl ?_
    refine l_icmp_eq_t (tgt := 1359) X dL_law_1354 (by decide) rfl ?_
    refine l_iload X dL_law_1359 1 rfl ?_
    refine l_if_ne_f (tgt := 1376) X dL_law_1361 (by decide) (by decide) ?_
    refine l_aload_n X dL_law_1364 rfl 5 rfl ?_
    refine l_iconst (v := 0) X dL_law_1365 (by decide) ?_
    refine l_olad X dL_law_1366 ?_
    refine l_iload X dL_law_1367 0 rfl ?_
    refine l_i2l X dL_law_1369 ?_
    refine l_lcmp X dL_law_1370 ?_
    refine l_if_eq_t (tgt := 1376) X dL_law_1371 (by decide) (lgc_self _) ?_
    refine l_goto (tgt := 1457) X dL_law_1376 (by decide) ?_
    exact l_sub [2, 3, 4, 5, 6] rfl (hk _ _ _ hR2)
set_option maxHeartbeats 4000000 in
set_option maxRecDepth 100000 in
theorem lc_mark {p : Program} {l : Launch} {e : Env} {s : State} {m : MethodId} {args : Array Value} {below : List Frame} {meth : Method} {c : Code} {Q : State → Prop} {A : Nat → Prop} {dC : Nat → ClassId} {dI : Nat → Nat → Nat} {cy : Nat → ClassId} {ks : (Nat → Nat) × (Nat → Nat)} {a0 b L : Nat} {xs : Nat → Int32} {Rel : Mm → Mm → Prop} {mP mM : Mm} {ov : Int64} {ce sl : Nat} {x4 : Int32} (X : CxL p l e room_1 s m args below meth c cL_law 7 RL A dC dI cy ks a0) (hnt : l.stackTraces = false) (hX : va_X b L xs s s.heap) (hbl : b < s.heap.size) (hbA : ¬ A b) (hSt : St_mark Rel) (g1 : vp_in (x4 + 1) L) (g2 : vp_in (x4 + 2) L) (g3 : vp_in (x4 + 3) L) (g4 : vp_in (x4 + 4) L) (g5 : vp_in (x4 + 5) L) (g6 : vp_in (x4 + 6) L) (hR : Rel mP mM) (hce : ce + 1 ≤ 601024) (hsl : sl + 6 ≤ 7293034) (hk : ∀ (mP mM : Mm) (ov : Int64), Rel mP mM → JL p l e room_1 s m args below meth c 7 Q A dC dI cy a0 mP mM ov (ce + 1) (sl + 6) 1457 [(0, .ref b), (1, .ref (aP a0 0)), (2, .ref (aM a0 0)), (3, .ref (a0 + 214)), (4, .int x4)] []) : JL p l e room_1 s m args below meth c 7 Q A dC dI cy a0 mP mM ov (ce) (sl) 1379 [(0, .ref b), (1, .ref (aP a0 0)), (2, .ref (aM a0 0)), (3, .ref (a0 + 214)), (4, .int x4)] [] := by
  by_cases hz : xs (x4 + 2).toNatClampNeg = 0
  · obtain ⟨r, mP2, mM2, hp, hm, hR2⟩ := hSt (xs (x4 + 1).toNatClampNeg) 0 mP mM (by decide) hR
    refine l_aload_n X dL_law_1379 rfl 1 rfl ?_
    refine l_aload_n X dL_law_1380 rfl 0 rfl ?_
    refine l_iload X dL_law_1381 4 rfl ?_
    refine l_iconst (v := 1) X dL_law_1383 (by decide) ?_
    refine l_iadd X dL_law_1384 ?_
    refine l_sld X hX hbl hbA g1 dL_law_1385 ?_
    refine l_aload_n X dL_law_1386 rfl 0 rfl ?_
    refine l_iload X dL_law_1387 4 rfl ?_
    refine l_iconst (v := 2) X dL_law_1389 (by decide) ?_
    refine l_iadd X dL_law_1390 ?_
    refine l_sld X hX hbl hbA g2 dL_law_1391 ?_
    refine l_if_eq_t (tgt := 1399) X dL_law_1392 (by decide) hz ?_
    refine l_iconst (v := 0) X dL_law_1399 (by decide) ?_
    refine l_cP (As := [.int (xs (x4 + 1).toNatClampNeg), .int 0]) (rest := []) X (k_X11_mark hp) uw5_28 uw5_29 uw5_30 uw1_1 uw5_31 rfl rfl dd_X11_mark ⟨Nat.le_of_ble_eq_true rfl, Nat.le_of_ble_eq_true rfl⟩ rfl (Nat.le_of_ble_eq_true rfl) (by show _ ≤ 601024; omega) (by show _ ≤ 7293034; omega) dL_law_1400 rfl ?_
    refine l_aload_n X dL_law_1403 rfl 2 rfl ?_
    refine l_aload_n X dL_law_1404 rfl 0 rfl ?_
    refine l_iload X dL_law_1405 4 rfl ?_
    refine l_iconst (v := 1) X dL_law_1407 (by decide) ?_
    refine l_iadd X dL_law_1408 ?_
    refine l_sld X hX hbl hbA g1 dL_law_1409 ?_
    refine l_aload_n X dL_law_1410 rfl 0 rfl ?_
    refine l_iload X dL_law_1411 4 rfl ?_
    refine l_iconst (v := 2) X dL_law_1413 (by decide) ?_
    refine l_iadd X dL_law_1414 ?_
    refine l_sld X hX hbl hbA g2 dL_law_1415 ?_
    refine l_if_eq_t (tgt := 1423) X dL_law_1416 (by decide) hz ?_
    refine l_iconst (v := 0) X dL_law_1423 (by decide) ?_
    refine l_cM (As := [.int (xs (x4 + 1).toNatClampNeg), .int 0]) (rest := [.int r]) X (k_X12_mark hm) uw8_144 uw8_145 uw8_146 uw1_13 uw8_147 rfl rfl dd_X12_mark ⟨Nat.le_of_ble_eq_true rfl, Nat.le_of_ble_eq_true rfl⟩ rfl (Nat.le_of_ble_eq_true rfl) (by show _ ≤ 601024; omega) (by show _ ≤ 7293034; omega) dL_law_1424 rfl ?_
    refine l_icmp_eq_t (tgt := 1457) X dL_law_1427 (by decide) rfl ?_
    refine l_widen (k := ce + 1) (n := sl + 6) (by omega) (by omega) ?_
    exact l_sub [0, 1, 2, 3, 4] rfl (hk _ _ _ hR2)
  · obtain ⟨r, mP2, mM2, hp, hm, hR2⟩ := hSt (xs (x4 + 1).toNatClampNeg) 1 mP mM (by decide) hR
    refine l_aload_n X dL_law_1379 rfl 1 rfl ?_
    refine l_aload_n X dL_law_1380 rfl 0 rfl ?_
    refine l_iload X dL_law_1381 4 rfl ?_
    refine l_iconst (v := 1) X dL_law_1383 (by decide) ?_
    refine l_iadd X dL_law_1384 ?_
    refine l_sld X hX hbl hbA g1 dL_law_1385 ?_
    refine l_aload_n X dL_law_1386 rfl 0 rfl ?_
    refine l_iload X dL_law_1387 4 rfl ?_
    refine l_iconst (v := 2) X dL_law_1389 (by decide) ?_
    refine l_iadd X dL_law_1390 ?_
    refine l_sld X hX hbl hbA g2 dL_law_1391 ?_
    refine l_if_eq_f (tgt := 1399) X dL_law_1392 (by decide) hz ?_
    refine l_iconst (v := 1) X dL_law_1395 (by decide) ?_
    refine l_goto (tgt := 1400) X dL_law_1396 (by decide) ?_
    refine l_cP (As := [.int (xs (x4 + 1).toNatClampNeg), .int 1]) (rest := []) X (k_X11_mark hp) uw5_28 uw5_29 uw5_30 uw1_1 uw5_31 rfl rfl dd_X11_mark ⟨Nat.le_of_ble_eq_true rfl, Nat.le_of_ble_eq_true rfl⟩ rfl (Nat.le_of_ble_eq_true rfl) (by show _ ≤ 601024; omega) (by show _ ≤ 7293034; omega) dL_law_1400 rfl ?_
    refine l_aload_n X dL_law_1403 rfl 2 rfl ?_
    refine l_aload_n X dL_law_1404 rfl 0 rfl ?_
    refine l_iload X dL_law_1405 4 rfl ?_
    refine l_iconst (v := 1) X dL_law_1407 (by decide) ?_
    refine l_iadd X dL_law_1408 ?_
    refine l_sld X hX hbl hbA g1 dL_law_1409 ?_
    refine l_aload_n X dL_law_1410 rfl 0 rfl ?_
    refine l_iload X dL_law_1411 4 rfl ?_
    refine l_iconst (v := 2) X dL_law_1413 (by decide) ?_
    refine l_iadd X dL_law_1414 ?_
    refine l_sld X hX hbl hbA g2 dL_law_1415 ?_
    refine l_if_eq_f (tgt := 1423) X dL_law_1416 (by decide) hz ?_
    refine l_iconst (v := 1) X dL_law_1419 (by decide) ?_
    refine l_goto (tgt := 1424) X dL_law_1420 (by decide) ?_
    refine l_cM (As := [.int (xs (x4 + 1).toNatClampNeg), .int 1]) (rest := [.int r]) X (k_X12_mark hm) uw8_144 uw8_145 uw8_146 uw1_13 uw8_147 rfl rfl dd_X12_mark ⟨Nat.le_of_ble_eq_true rfl, Nat.le_of_ble_eq_true rfl⟩ rfl (Nat.le_of_ble_eq_true rfl) (by show _ ≤ 601024; omega) (by show _ ≤ 7293034; omega) dL_law_1424 rfl ?_
    refine l_icmp_eq_t (tgt := 1457) X dL_law_1427 (by decide) rfl ?_
    refine l_widen (k := ce + 1) (n := sl + 6) (by omega) (by omega) ?_
    exact l_sub [0, 1, 2, 3, 4] rfl (hk _ _ _ hR2)
set_option maxHeartbeats 4000000 in
set_option maxRecDepth 100000 in
theorem lc_count {p : Program} {l : Launch} {e : Env} {s : State} {m : MethodId} {args : Array Value} {below : List Frame} {meth : Method} {c : Code} {Q : State → Prop} {A : Nat → Prop} {dC : Nat → ClassId} {dI : Nat → Nat → Nat} {cy : Nat → ClassId} {ks : (Nat → Nat) × (Nat → Nat)} {a0 b L : Nat} {xs : Nat → Int32} {Rel : Mm → Mm → Prop} {mP mM : Mm} {ov : Int64} {ce sl : Nat} {x4 : Int32} (X : CxL p l e room_1 s m args below meth c cL_law 7 RL A dC dI cy ks a0) (hnt : l.stackTraces = false) (hX : va_X b L xs s s.heap) (hbl : b < s.heap.size) (hbA : ¬ A b) (hSt : St_count Rel) (g1 : vp_in (x4 + 1) L) (g2 : vp_in (x4 + 2) L) (g3 : vp_in (x4 + 3) L) (g4 : vp_in (x4 + 4) L) (g5 : vp_in (x4 + 5) L) (g6 : vp_in (x4 + 6) L) (hR : Rel mP mM) (hce : ce + 1 ≤ 601024) (hsl : sl + 6 ≤ 7293034) (hk : ∀ (mP mM : Mm) (ov : Int64), Rel mP mM → JL p l e room_1 s m args below meth c 7 Q A dC dI cy a0 mP mM ov (ce + 1) (sl + 6) 1457 [(0, .ref b), (1, .ref (aP a0 0)), (2, .ref (aM a0 0)), (3, .ref (a0 + 214)), (4, .int x4)] []) : JL p l e room_1 s m args below meth c 7 Q A dC dI cy a0 mP mM ov (ce) (sl) 1432 [(0, .ref b), (1, .ref (aP a0 0)), (2, .ref (aM a0 0)), (3, .ref (a0 + 214)), (4, .int x4)] [] := by
  obtain ⟨r, mP2, mM2, hp, hm, hR2⟩ := hSt (xs (x4 + 1).toNatClampNeg) mP mM hR
  refine l_aload_n X dL_law_1432 rfl 1 rfl ?_
  refine l_aload_n X dL_law_1433 rfl 0 rfl ?_
  refine l_iload X dL_law_1434 4 rfl ?_
  refine l_iconst (v := 1) X dL_law_1436 (by decide) ?_
  refine l_iadd X dL_law_1437 ?_
  refine l_sld X hX hbl hbA g1 dL_law_1438 ?_
  refine l_cP (As := [.int (xs (x4 + 1).toNatClampNeg)]) (rest := []) X (k_X11_count hp) uw5_46 uw5_47 uw5_48 uw1_1 uw5_49 rfl rfl dd_X11_count ⟨Nat.le_of_ble_eq_true rfl, Nat.le_of_ble_eq_true rfl⟩ rfl (Nat.le_of_ble_eq_true rfl) (by show _ ≤ 601024; omega) (by show _ ≤ 7293034; omega) dL_law_1439 rfl ?_
  refine l_aload_n X dL_law_1442 rfl 2 rfl ?_
  refine l_aload_n X dL_law_1443 rfl 0 rfl ?_
  refine l_iload X dL_law_1444 4 rfl ?_
  refine l_iconst (v := 1) X dL_law_1446 (by decide) ?_
  refine l_iadd X dL_law_1447 ?_
  refine l_sld X hX hbl hbA g1 dL_law_1448 ?_
  refine l_cM (As := [.int (xs (x4 + 1).toNatClampNeg)]) (rest := [.int r]) X (k_X12_count hm) uw8_152 uw8_153 uw8_154 uw1_13 uw8_155 rfl rfl dd_X12_count ⟨Nat.le_of_ble_eq_true rfl, Nat.le_of_ble_eq_true rfl⟩ rfl (Nat.le_of_ble_eq_true rfl) (by show _ ≤ 601024; omega) (by show _ ≤ 7293034; omega) dL_law_1449 rfl ?_
  refine l_icmp_eq_t (tgt := 1457) X dL_law_1452 (by decide) rfl ?_
  refine l_widen (k := ce + 1) (n := sl + 6) (by omega) (by omega) ?_
  exact l_sub [0, 1, 2, 3, 4] rfl (hk _ _ _ hR2)
