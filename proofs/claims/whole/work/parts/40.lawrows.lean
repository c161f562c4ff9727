/-! the law's world: the class's cells from a0 on, the reference's from a0 + 166 on, the row out at a0 + 214 -/
def aP (a0 i : Nat) : Nat := a0 + i
def aM (a0 i : Nat) : Nat := a0 + 166 + i
def oC (cy : Nat → ClassId) (ov : Int64) : Cell := vp_cell (cy 15) (1, .inr (.inl (fun _ => ov)))
def WL (dC : Nat → ClassId) (dI : Nat → Nat → Nat) (cy : Nat → ClassId) (a0 : Nat) (mP mM : Mm) (ov : Int64) (H : Heap) : Prop := va_P (dC, dI) vwCl (wld Lp (aP a0) cy mP) H ∧ va_P (dC, dI) vwCl (wld Lm (aM a0) cy mM) H ∧ H[a0 + 214]? = some (oC cy ov)
theorem wld_key {Λ : Ly} {ad : Nat → Nat} {cy : Nat → ClassId} {m : Mm} {j : Nat} {q : Nat × va_E} (hq : (wld Λ ad cy m)[j]? = some q) : j < Λ.2.2 ∧ q = (ad j, cel Λ ad cy m j) := by
  by_cases hj : j < Λ.2.2
  · rw [wld_get ad cy m hj] at hq
    exact ⟨hj, (Option.some.inj hq).symm⟩
  · simp [wld, hj] at hq
theorem wld_D {Λ : Ly} {ad : Nat → Nat} {cy : Nat → ClassId} {m : Mm} {A : Nat → Prop} (hi : ∀ i j, ad i = ad j → i = j) (hA : ∀ i, i < Λ.2.2 → A (ad i)) : va_D A (wld Λ ad cy m) := by
  refine ⟨fun i j p q h1 h2 h3 => ?_, fun k q h => ?_⟩
  · obtain ⟨-, rfl⟩ := wld_key h1
    obtain ⟨-, rfl⟩ := wld_key h2
    exact hi i j h3
  · obtain ⟨hk, rfl⟩ := wld_key h
    exact hA k hk
theorem aP_inj (a0 : Nat) : ∀ i j, aP a0 i = aP a0 j → i = j := fun i j h => by unfold aP at h; omega
theorem aM_inj (a0 : Nat) : ∀ i j, aM a0 i = aM a0 j → i = j := fun i j h => by unfold aM at h; omega
theorem wld_kept {Λ : Ly} {ad : Nat → Nat} {cy : Nat → ClassId} {m : Mm} {D : va_G} {H H1 : Heap} (h : va_P D vwCl (wld Λ ad cy m) H) (hk : ∀ i, i < Λ.2.2 → ad i < H.size → H1[ad i]? = H[ad i]?) : va_P D vwCl (wld Λ ad cy m) H1 := fun j q hq => by
  obtain ⟨hj, rfl⟩ := wld_key hq
  exact (h j _ hq).kept (hk j hj (h j _ hq).lt)
theorem wld_A {Λ : Ly} {ad : Nat → Nat} {cy : Nat → ClassId} {m : Mm} {sz q : Nat} (h : va_A (wld Λ ad cy m) sz q) : (∃ i, i < Λ.2.2 ∧ q = ad i) ∨ sz ≤ q := by
  rcases h with ⟨k, e, h⟩ | h
  · obtain ⟨hk, he⟩ := wld_key h
    exact Or.inl ⟨k, hk, congrArg Prod.fst he⟩
  · exact Or.inr h
def CxL (p : Program) (l : Launch) (e : Env) (R : Room) (s : State) (m : MethodId) (args : Array Value) (below : List Frame) (meth : Method) (c : Code) (cc : ByteArray) (nL : Nat) (own : String) (A : Nat → Prop) (dC : Nat → ClassId) (dI : Nat → Nat → Nat) (cy : Nat → ClassId) (ks : (Nat → Nat) × (Nat → Nat)) (a0 : Nat) : Prop := p.tables.exec = Jvm.exec ∧ c.code = cc ∧ c.maxLocals = nL ∧ s.vm.findClass own = some m.cls ∧ (∀ w ∈ uw, w.before args s = true) ∧ va_K (dC, dI) vwCl (tyl cy) s ∧ NB s ∧ (∀ q : Nat, (a0 ≤ q ∧ q < a0 + 166) ∨ (a0 + 166 ≤ q ∧ q < a0 + 214) ∨ q = a0 + 214 ∨ s.heap.size ≤ q → A q) ∧ EX ks A s ∧ XT A s ∧ l.stackTraces = false
def JL (p : Program) (l : Launch) (e : Env) (R : Room) (s : State) (m : MethodId) (args : Array Value) (below : List Frame) (meth : Method) (c : Code) (nL : Nat) (Q : State → Prop) (A : Nat → Prop) (dC : Nat → ClassId) (dI : Nat → Nat → Nat) (cy : Nat → ClassId) (a0 : Nat) (mP mM : Mm) (ov : Int64) (ce sl pc : Nat) (lv : List (Nat × Value)) (st : List Value) : Prop := ∀ (H : Heap) (locs : List Loc) (ls : Array Slot), WL dC dI cy a0 mP mM ov H → va_S A s.heap H locs → lv_has ls nL lv → W p l e R s m args below meth c H locs ce sl Q (F0 m pc ls st)
section LawRows
variable {p : Program} {l : Launch} {e : Env} {R : Room} {s : State} {m : MethodId} {args : Array Value} {below : List Frame} {meth : Method} {c : Code} {cc : ByteArray} {nL : Nat} {own : String} {Q : State → Prop} {A : Nat → Prop} {dC : Nat → ClassId} {dI : Nat → Nat → Nat} {cy : Nat → ClassId} {ks : (Nat → Nat) × (Nat → Nat)} {a0 : Nat} {mP mM : Mm} {ov : Int64} {ce sl pc : Nat} {lv : List (Nat × Value)} {st : List Value}
theorem l_iload_n (X : CxL p l e R s m args below meth c cc nL own A dC dI cy ks a0) {k : Fin 4} {i : Nat} {x : Int32} (hd : decode cc pc = .ok (.iload_n k, 1)) (hi : (k : Nat) = i) (q : Nat) (hl : lv[q]? = some (i, .int x)) (h : JL p l e R s m args below meth c nL Q A dC dI cy a0 (mP) (mM) (ov) (ce) (sl) (pc + 1) (lv) (.int x :: st)) : JL p l e R s m args below meth c nL Q A dC dI cy a0 (mP) (mM) (ov) (ce) (sl) (pc) (lv) (st) := fun H locs ls hW hS hL => lv_iload_n X.1 X.2.1 hd hi (lv_at hL q hl) (h H locs ls hW hS hL)
theorem l_iload (X : CxL p l e R s m args below meth c cc nL own A dC dI cy ks a0) {i : Nat} {x : Int32} (hd : decode cc pc = .ok (.iload i, 2)) (q : Nat) (hl : lv[q]? = some (i, .int x)) (h : JL p l e R s m args below meth c nL Q A dC dI cy a0 (mP) (mM) (ov) (ce) (sl) (pc + 2) (lv) (.int x :: st)) : JL p l e R s m args below meth c nL Q A dC dI cy a0 (mP) (mM) (ov) (ce) (sl) (pc) (lv) (st) := fun H locs ls hW hS hL => lv_iload X.1 X.2.1 hd (lv_at hL q hl) (h H locs ls hW hS hL)
theorem l_istore (X : CxL p l e R s m args below meth c cc nL own A dC dI cy ks a0) {i : Nat} {x : Int32} {lv2 : List (Nat × Value)} (hd : decode cc pc = .ok (.istore i, 2)) (hn : i < nL) (hl : (i, Value.int x) :: lv.filter (fun q => !(q.1 == i) && !(q.1 + 1 == i && q.2.category == 2)) = lv2) (h : JL p l e R s m args below meth c nL Q A dC dI cy a0 (mP) (mM) (ov) (ce) (sl) (pc + 2) (lv2) (st)) : JL p l e R s m args below meth c nL Q A dC dI cy a0 (mP) (mM) (ov) (ce) (sl) (pc) (lv) (.int x :: st) := fun H locs ls hW hS hL => lv_istore X.1 X.2.1 hd hL hn hl (fun ls hL => h H locs ls hW hS hL)
theorem l_istore_n (X : CxL p l e R s m args below meth c cc nL own A dC dI cy ks a0) {k : Fin 4} {i : Nat} {x : Int32} {lv2 : List (Nat × Value)} (hd : decode cc pc = .ok (.istore_n k, 1)) (hi : (k : Nat) = i) (hn : i < nL) (hl : (i, Value.int x) :: lv.filter (fun q => !(q.1 == i) && !(q.1 + 1 == i && q.2.category == 2)) = lv2) (h : JL p l e R s m args below meth c nL Q A dC dI cy a0 (mP) (mM) (ov) (ce) (sl) (pc + 1) (lv2) (st)) : JL p l e R s m args below meth c nL Q A dC dI cy a0 (mP) (mM) (ov) (ce) (sl) (pc) (lv) (.int x :: st) := fun H locs ls hW hS hL => lv_istore_n X.1 X.2.1 hd hi hL hn hl (fun ls hL => h H locs ls hW hS hL)
theorem l_aload_n (X : CxL p l e R s m args below meth c cc nL own A dC dI cy ks a0) {k : Fin 4} {i : Nat} {x : Nat} (hd : decode cc pc = .ok (.aload_n k, 1)) (hi : (k : Nat) = i) (q : Nat) (hl : lv[q]? = some (i, .ref x)) (h : JL p l e R s m args below meth c nL Q A dC dI cy a0 (mP) (mM) (ov) (ce) (sl) (pc + 1) (lv) (.ref x :: st)) : JL p l e R s m args below meth c nL Q A dC dI cy a0 (mP) (mM) (ov) (ce) (sl) (pc) (lv) (st) := fun H locs ls hW hS hL => lv_aload_n X.1 X.2.1 hd hi (lv_at hL q hl) (h H locs ls hW hS hL)
theorem l_aload (X : CxL p l e R s m args below meth c cc nL own A dC dI cy ks a0) {i : Nat} {x : Nat} (hd : decode cc pc = .ok (.aload i, 2)) (q : Nat) (hl : lv[q]? = some (i, .ref x)) (h : JL p l e R s m args below meth c nL Q A dC dI cy a0 (mP) (mM) (ov) (ce) (sl) (pc + 2) (lv) (.ref x :: st)) : JL p l e R s m args below meth c nL Q A dC dI cy a0 (mP) (mM) (ov) (ce) (sl) (pc) (lv) (st) := fun H locs ls hW hS hL => lv_aload X.1 X.2.1 hd (lv_at hL q hl) (h H locs ls hW hS hL)
theorem l_astore (X : CxL p l e R s m args below meth c cc nL own A dC dI cy ks a0) {i : Nat} {x : Nat} {lv2 : List (Nat × Value)} (hd : decode cc pc = .ok (.astore i, 2)) (hn : i < nL) (hl : (i, Value.ref x) :: lv.filter (fun q => !(q.1 == i) && !(q.1 + 1 == i && q.2.category == 2)) = lv2) (h : JL p l e R s m args below meth c nL Q A dC dI cy a0 (mP) (mM) (ov) (ce) (sl) (pc + 2) (lv2) (st)) : JL p l e R s m args below meth c nL Q A dC dI cy a0 (mP) (mM) (ov) (ce) (sl) (pc) (lv) (.ref x :: st) := fun H locs ls hW hS hL => lv_astore X.1 X.2.1 hd hL hn hl (fun ls hL => h H locs ls hW hS hL)
theorem l_astore_n (X : CxL p l e R s m args below meth c cc nL own A dC dI cy ks a0) {k : Fin 4} {i : Nat} {x : Nat} {lv2 : List (Nat × Value)} (hd : decode cc pc = .ok (.astore_n k, 1)) (hi : (k : Nat) = i) (hn : i < nL) (hl : (i, Value.ref x) :: lv.filter (fun q => !(q.1 == i) && !(q.1 + 1 == i && q.2.category == 2)) = lv2) (h : JL p l e R s m args below meth c nL Q A dC dI cy a0 (mP) (mM) (ov) (ce) (sl) (pc + 1) (lv2) (st)) : JL p l e R s m args below meth c nL Q A dC dI cy a0 (mP) (mM) (ov) (ce) (sl) (pc) (lv) (.ref x :: st) := fun H locs ls hW hS hL => lv_astore_n X.1 X.2.1 hd hi hL hn hl (fun ls hL => h H locs ls hW hS hL)
theorem l_iinc (X : CxL p l e R s m args below meth c cc nL own A dC dI cy ks a0) {i : Nat} {n : Int} {x v : Int32} {lv2 : List (Nat × Value)} (hd : decode cc pc = .ok (.iinc i n, 3)) (k : Nat) (hk : lv[k]? = some (i, .int x)) (hv : x + Int32.ofInt n = v) (hn : i < nL) (hl : (i, Value.int v) :: lv.filter (fun q => !(q.1 == i) && !(q.1 + 1 == i && q.2.category == 2)) = lv2) (h : JL p l e R s m args below meth c nL Q A dC dI cy a0 (mP) (mM) (ov) (ce) (sl) (pc + 3) (lv2) (st)) : JL p l e R s m args below meth c nL Q A dC dI cy a0 (mP) (mM) (ov) (ce) (sl) (pc) (lv) (st) := fun H locs ls hW hS hL => lv_iinc X.1 X.2.1 hd hL hk hv hn hl (fun ls hL => h H locs ls hW hS hL)
theorem l_iconst (X : CxL p l e R s m args below meth c cc nL own A dC dI cy ks a0) {n : Int} {v : Int32} (hd : decode cc pc = .ok (.iconst n, 1)) (hv : Int32.ofInt n = v) (h : JL p l e R s m args below meth c nL Q A dC dI cy a0 (mP) (mM) (ov) (ce) (sl) (pc + 1) (lv) (.int v :: st)) : JL p l e R s m args below meth c nL Q A dC dI cy a0 (mP) (mM) (ov) (ce) (sl) (pc) (lv) (st) := fun H locs ls hW hS hL => lv_iconst X.1 X.2.1 hd hv (h H locs ls hW hS hL)
theorem l_bipush (X : CxL p l e R s m args below meth c cc nL own A dC dI cy ks a0) {n : Int} {v : Int32} (hd : decode cc pc = .ok (.bipush n, 2)) (hv : (Int8.ofInt n).toInt32 = v) (h : JL p l e R s m args below meth c nL Q A dC dI cy a0 (mP) (mM) (ov) (ce) (sl) (pc + 2) (lv) (.int v :: st)) : JL p l e R s m args below meth c nL Q A dC dI cy a0 (mP) (mM) (ov) (ce) (sl) (pc) (lv) (st) := fun H locs ls hW hS hL => lv_bipush X.1 X.2.1 hd hv (h H locs ls hW hS hL)
theorem l_iadd (X : CxL p l e R s m args below meth c cc nL own A dC dI cy ks a0) {x y : Int32} (hd : decode cc pc = .ok (.iadd, 1))  (h : JL p l e R s m args below meth c nL Q A dC dI cy a0 (mP) (mM) (ov) (ce) (sl) (pc + 1) (lv) (.int (x + y) :: st)) : JL p l e R s m args below meth c nL Q A dC dI cy a0 (mP) (mM) (ov) (ce) (sl) (pc) (lv) (.int y :: .int x :: st) := fun H locs ls hW hS hL => lv_iadd X.1 X.2.1 hd  (h H locs ls hW hS hL)
theorem l_isub (X : CxL p l e R s m args below meth c cc nL own A dC dI cy ks a0) {x y : Int32} (hd : decode cc pc = .ok (.isub, 1))  (h : JL p l e R s m args below meth c nL Q A dC dI cy a0 (mP) (mM) (ov) (ce) (sl) (pc + 1) (lv) (.int (x - y) :: st)) : JL p l e R s m args below meth c nL Q A dC dI cy a0 (mP) (mM) (ov) (ce) (sl) (pc) (lv) (.int y :: .int x :: st) := fun H locs ls hW hS hL => lv_isub X.1 X.2.1 hd  (h H locs ls hW hS hL)
theorem l_iand (X : CxL p l e R s m args below meth c cc nL own A dC dI cy ks a0) {x y : Int32} (hd : decode cc pc = .ok (.iand, 1))  (h : JL p l e R s m args below meth c nL Q A dC dI cy a0 (mP) (mM) (ov) (ce) (sl) (pc + 1) (lv) (.int (x &&& y) :: st)) : JL p l e R s m args below meth c nL Q A dC dI cy a0 (mP) (mM) (ov) (ce) (sl) (pc) (lv) (.int y :: .int x :: st) := fun H locs ls hW hS hL => lv_iand X.1 X.2.1 hd  (h H locs ls hW hS hL)
theorem l_land (X : CxL p l e R s m args below meth c cc nL own A dC dI cy ks a0) {x y : Int64} (hd : decode cc pc = .ok (.land, 1))  (h : JL p l e R s m args below meth c nL Q A dC dI cy a0 (mP) (mM) (ov) (ce) (sl) (pc + 1) (lv) (.long (x &&& y) :: st)) : JL p l e R s m args below meth c nL Q A dC dI cy a0 (mP) (mM) (ov) (ce) (sl) (pc) (lv) (.long y :: .long x :: st) := fun H locs ls hW hS hL => lv_land X.1 X.2.1 hd  (h H locs ls hW hS hL)
theorem l_lor (X : CxL p l e R s m args below meth c cc nL own A dC dI cy ks a0) {x y : Int64} (hd : decode cc pc = .ok (.lor, 1))  (h : JL p l e R s m args below meth c nL Q A dC dI cy a0 (mP) (mM) (ov) (ce) (sl) (pc + 1) (lv) (.long (x ||| y) :: st)) : JL p l e R s m args below meth c nL Q A dC dI cy a0 (mP) (mM) (ov) (ce) (sl) (pc) (lv) (.long y :: .long x :: st) := fun H locs ls hW hS hL => lv_lor X.1 X.2.1 hd  (h H locs ls hW hS hL)
theorem l_i2l (X : CxL p l e R s m args below meth c cc nL own A dC dI cy ks a0) {x : Int32} (hd : decode cc pc = .ok (.i2l, 1))  (h : JL p l e R s m args below meth c nL Q A dC dI cy a0 (mP) (mM) (ov) (ce) (sl) (pc + 1) (lv) (.long x.toInt64 :: st)) : JL p l e R s m args below meth c nL Q A dC dI cy a0 (mP) (mM) (ov) (ce) (sl) (pc) (lv) (.int x :: st) := fun H locs ls hW hS hL => lv_i2l X.1 X.2.1 hd rfl (h H locs ls hW hS hL)
theorem l_lshl (X : CxL p l e R s m args below meth c cc nL own A dC dI cy ks a0) {x : Int64} {y : Int32} (hd : decode cc pc = .ok (.lshl, 1))  (h : JL p l e R s m args below meth c nL Q A dC dI cy a0 (mP) (mM) (ov) (ce) (sl) (pc + 1) (lv) (.long (x <<< (y.toInt64 &&& 63)) :: st)) : JL p l e R s m args below meth c nL Q A dC dI cy a0 (mP) (mM) (ov) (ce) (sl) (pc) (lv) (.int y :: .long x :: st) := fun H locs ls hW hS hL => lv_lshl X.1 X.2.1 hd rfl (h H locs ls hW hS hL)
theorem l_lcmp (X : CxL p l e R s m args below meth c cc nL own A dC dI cy ks a0) {x y : Int64} (hd : decode cc pc = .ok (.lcmp, 1))  (h : JL p l e R s m args below meth c nL Q A dC dI cy a0 (mP) (mM) (ov) (ce) (sl) (pc + 1) (lv) (.int (lg_cmp x y) :: st)) : JL p l e R s m args below meth c nL Q A dC dI cy a0 (mP) (mM) (ov) (ce) (sl) (pc) (lv) (.long y :: .long x :: st) := fun H locs ls hW hS hL => W.lcmp X.1 X.2.1 hd  (h H locs ls hW hS hL)
theorem l_ldc2 (X : CxL p l e R s m args below meth c cc nL own A dC dI cy ks a0) {index : Nat} {v : Int64} (hd : decode cc pc = .ok (.ldc2_w index, 3)) (hc : Cond.constantLong own index v ∈ uw) (h : JL p l e R s m args below meth c nL Q A dC dI cy a0 (mP) (mM) (ov) (ce) (sl) (pc + 3) (lv) (.long v :: st)) : JL p l e R s m args below meth c nL Q A dC dI cy a0 (mP) (mM) (ov) (ce) (sl) (pc) (lv) (st) := fun H locs ls hW hS hL => lv_ldc2 X.1 X.2.1 X.2.2.2.1 (X.2.2.2.2.1 _ hc) hd (h H locs ls hW hS hL)
theorem l_goto (X : CxL p l e R s m args below meth c cc nL own A dC dI cy ks a0) {off : Int} {tgt : Nat} (hd : decode cc pc = .ok (.goto off, 3)) (ht : (pc : Int) + off = (tgt : Int)) (h : JL p l e R s m args below meth c nL Q A dC dI cy a0 (mP) (mM) (ov) (ce) (sl) (tgt) (lv) (st)) : JL p l e R s m args below meth c nL Q A dC dI cy a0 (mP) (mM) (ov) (ce) (sl) (pc) (lv) (st) := fun H locs ls hW hS hL => lv_goto X.1 X.2.1 hd ht (h H locs ls hW hS hL)
theorem l_if_eq_t (X : CxL p l e R s m args below meth c cc nL own A dC dI cy ks a0) {x : Int32} {off : Int} {tgt : Nat} (hd : decode cc pc = .ok (.ifCond .eq off, 3)) (ht : (pc : Int) + off = (tgt : Int)) (hc : x = 0) (h : JL p l e R s m args below meth c nL Q A dC dI cy a0 (mP) (mM) (ov) (ce) (sl) (tgt) (lv) (st)) : JL p l e R s m args below meth c nL Q A dC dI cy a0 (mP) (mM) (ov) (ce) (sl) (pc) (lv) (.int x :: st) := fun H locs ls hW hS hL => lv_if_eq X.1 X.2.1 hd ht (fun _ => h H locs ls hW hS hL) (fun q => absurd hc q)
theorem l_if_eq_f (X : CxL p l e R s m args below meth c cc nL own A dC dI cy ks a0) {x : Int32} {off : Int} {tgt : Nat} (hd : decode cc pc = .ok (.ifCond .eq off, 3)) (ht : (pc : Int) + off = (tgt : Int)) (hc : ¬ (x = 0)) (h : JL p l e R s m args below meth c nL Q A dC dI cy a0 (mP) (mM) (ov) (ce) (sl) (pc + 3) (lv) (st)) : JL p l e R s m args below meth c nL Q A dC dI cy a0 (mP) (mM) (ov) (ce) (sl) (pc) (lv) (.int x :: st) := fun H locs ls hW hS hL => lv_if_eq X.1 X.2.1 hd ht (fun q => absurd q hc) (fun _ => h H locs ls hW hS hL)
theorem l_if_eq (X : CxL p l e R s m args below meth c cc nL own A dC dI cy ks a0) {x : Int32} {off : Int} {tgt : Nat} (hd : decode cc pc = .ok (.ifCond .eq off, 3)) (ht : (pc : Int) + off = (tgt : Int)) (kt : x = 0 → JL p l e R s m args below meth c nL Q A dC dI cy a0 (mP) (mM) (ov) (ce) (sl) (tgt) (lv) (st)) (kf : ¬ (x = 0) → JL p l e R s m args below meth c nL Q A dC dI cy a0 (mP) (mM) (ov) (ce) (sl) (pc + 3) (lv) (st)) : JL p l e R s m args below meth c nL Q A dC dI cy a0 (mP) (mM) (ov) (ce) (sl) (pc) (lv) (.int x :: st) := fun H locs ls hW hS hL => lv_if_eq X.1 X.2.1 hd ht (fun q => kt q H locs ls hW hS hL) (fun q => kf q H locs ls hW hS hL)
theorem l_icmp_eq_t (X : CxL p l e R s m args below meth c cc nL own A dC dI cy ks a0) {x y : Int32} {off : Int} {tgt : Nat} (hd : decode cc pc = .ok (.if_icmp .eq off, 3)) (ht : (pc : Int) + off = (tgt : Int)) (hc : x = y) (h : JL p l e R s m args below meth c nL Q A dC dI cy a0 (mP) (mM) (ov) (ce) (sl) (tgt) (lv) (st)) : JL p l e R s m args below meth c nL Q A dC dI cy a0 (mP) (mM) (ov) (ce) (sl) (pc) (lv) (.int y :: .int x :: st) := fun H locs ls hW hS hL => lv_icmp_eq X.1 X.2.1 hd ht (fun _ => h H locs ls hW hS hL) (fun q => absurd hc q)
theorem l_icmp_eq_f (X : CxL p l e R s m args below meth c cc nL own A dC dI cy ks a0) {x y : Int32} {off : Int} {tgt : Nat} (hd : decode cc pc = .ok (.if_icmp .eq off, 3)) (ht : (pc : Int) + off = (tgt : Int)) (hc : ¬ (x = y)) (h : JL p l e R s m args below meth c nL Q A dC dI cy a0 (mP) (mM) (ov) (ce) (sl) (pc + 3) (lv) (st)) : JL p l e R s m args below meth c nL Q A dC dI cy a0 (mP) (mM) (ov) (ce) (sl) (pc) (lv) (.int y :: .int x :: st) := fun H locs ls hW hS hL => lv_icmp_eq X.1 X.2.1 hd ht (fun q => absurd q hc) (fun _ => h H locs ls hW hS hL)
theorem l_icmp_eq (X : CxL p l e R s m args below meth c cc nL own A dC dI cy ks a0) {x y : Int32} {off : Int} {tgt : Nat} (hd : decode cc pc = .ok (.if_icmp .eq off, 3)) (ht : (pc : Int) + off = (tgt : Int)) (kt : x = y → JL p l e R s m args below meth c nL Q A dC dI cy a0 (mP) (mM) (ov) (ce) (sl) (tgt) (lv) (st)) (kf : ¬ (x = y) → JL p l e R s m args below meth c nL Q A dC dI cy a0 (mP) (mM) (ov) (ce) (sl) (pc + 3) (lv) (st)) : JL p l e R s m args below meth c nL Q A dC dI cy a0 (mP) (mM) (ov) (ce) (sl) (pc) (lv) (.int y :: .int x :: st) := fun H locs ls hW hS hL => lv_icmp_eq X.1 X.2.1 hd ht (fun q => kt q H locs ls hW hS hL) (fun q => kf q H locs ls hW hS hL)
theorem l_if_ne_t (X : CxL p l e R s m args below meth c cc nL own A dC dI cy ks a0) {x : Int32} {off : Int} {tgt : Nat} (hd : decode cc pc = .ok (.ifCond .ne off, 3)) (ht : (pc : Int) + off = (tgt : Int)) (hc : ¬ x = 0) (h : JL p l e R s m args below meth c nL Q A dC dI cy a0 (mP) (mM) (ov) (ce) (sl) (tgt) (lv) (st)) : JL p l e R s m args below meth c nL Q A dC dI cy a0 (mP) (mM) (ov) (ce) (sl) (pc) (lv) (.int x :: st) := fun H locs ls hW hS hL => lv_if_ne X.1 X.2.1 hd ht (fun _ => h H locs ls hW hS hL) (fun q => absurd q hc)
theorem l_if_ne_f (X : CxL p l e R s m args below meth c cc nL own A dC dI cy ks a0) {x : Int32} {off : Int} {tgt : Nat} (hd : decode cc pc = .ok (.ifCond .ne off, 3)) (ht : (pc : Int) + off = (tgt : Int)) (hc : ¬ (¬ x = 0)) (h : JL p l e R s m args below meth c nL Q A dC dI cy a0 (mP) (mM) (ov) (ce) (sl) (pc + 3) (lv) (st)) : JL p l e R s m args below meth c nL Q A dC dI cy a0 (mP) (mM) (ov) (ce) (sl) (pc) (lv) (.int x :: st) := fun H locs ls hW hS hL => lv_if_ne X.1 X.2.1 hd ht (fun q => absurd q hc) (fun _ => h H locs ls hW hS hL)
theorem l_if_ne (X : CxL p l e R s m args below meth c cc nL own A dC dI cy ks a0) {x : Int32} {off : Int} {tgt : Nat} (hd : decode cc pc = .ok (.ifCond .ne off, 3)) (ht : (pc : Int) + off = (tgt : Int)) (kt : ¬ x = 0 → JL p l e R s m args below meth c nL Q A dC dI cy a0 (mP) (mM) (ov) (ce) (sl) (tgt) (lv) (st)) (kf : ¬ (¬ x = 0) → JL p l e R s m args below meth c nL Q A dC dI cy a0 (mP) (mM) (ov) (ce) (sl) (pc + 3) (lv) (st)) : JL p l e R s m args below meth c nL Q A dC dI cy a0 (mP) (mM) (ov) (ce) (sl) (pc) (lv) (.int x :: st) := fun H locs ls hW hS hL => lv_if_ne X.1 X.2.1 hd ht (fun q => kt q H locs ls hW hS hL) (fun q => kf (fun z => z q) H locs ls hW hS hL)
theorem l_icmp_ne_t (X : CxL p l e R s m args below meth c cc nL own A dC dI cy ks a0) {x y : Int32} {off : Int} {tgt : Nat} (hd : decode cc pc = .ok (.if_icmp .ne off, 3)) (ht : (pc : Int) + off = (tgt : Int)) (hc : ¬ x = y) (h : JL p l e R s m args below meth c nL Q A dC dI cy a0 (mP) (mM) (ov) (ce) (sl) (tgt) (lv) (st)) : JL p l e R s m args below meth c nL Q A dC dI cy a0 (mP) (mM) (ov) (ce) (sl) (pc) (lv) (.int y :: .int x :: st) := fun H locs ls hW hS hL => lv_icmp_ne X.1 X.2.1 hd ht (fun _ => h H locs ls hW hS hL) (fun q => absurd q hc)
theorem l_icmp_ne_f (X : CxL p l e R s m args below meth c cc nL own A dC dI cy ks a0) {x y : Int32} {off : Int} {tgt : Nat} (hd : decode cc pc = .ok (.if_icmp .ne off, 3)) (ht : (pc : Int) + off = (tgt : Int)) (hc : ¬ (¬ x = y)) (h : JL p l e R s m args below meth c nL Q A dC dI cy a0 (mP) (mM) (ov) (ce) (sl) (pc + 3) (lv) (st)) : JL p l e R s m args below meth c nL Q A dC dI cy a0 (mP) (mM) (ov) (ce) (sl) (pc) (lv) (.int y :: .int x :: st) := fun H locs ls hW hS hL => lv_icmp_ne X.1 X.2.1 hd ht (fun q => absurd q hc) (fun _ => h H locs ls hW hS hL)
theorem l_icmp_ne (X : CxL p l e R s m args below meth c cc nL own A dC dI cy ks a0) {x y : Int32} {off : Int} {tgt : Nat} (hd : decode cc pc = .ok (.if_icmp .ne off, 3)) (ht : (pc : Int) + off = (tgt : Int)) (kt : ¬ x = y → JL p l e R s m args below meth c nL Q A dC dI cy a0 (mP) (mM) (ov) (ce) (sl) (tgt) (lv) (st)) (kf : ¬ (¬ x = y) → JL p l e R s m args below meth c nL Q A dC dI cy a0 (mP) (mM) (ov) (ce) (sl) (pc + 3) (lv) (st)) : JL p l e R s m args below meth c nL Q A dC dI cy a0 (mP) (mM) (ov) (ce) (sl) (pc) (lv) (.int y :: .int x :: st) := fun H locs ls hW hS hL => lv_icmp_ne X.1 X.2.1 hd ht (fun q => kt q H locs ls hW hS hL) (fun q => kf (fun z => z q) H locs ls hW hS hL)
theorem l_if_gt_t (X : CxL p l e R s m args below meth c cc nL own A dC dI cy ks a0) {x : Int32} {off : Int} {tgt : Nat} (hd : decode cc pc = .ok (.ifCond .gt off, 3)) (ht : (pc : Int) + off = (tgt : Int)) (hc : 0 < x) (h : JL p l e R s m args below meth c nL Q A dC dI cy a0 (mP) (mM) (ov) (ce) (sl) (tgt) (lv) (st)) : JL p l e R s m args below meth c nL Q A dC dI cy a0 (mP) (mM) (ov) (ce) (sl) (pc) (lv) (.int x :: st) := fun H locs ls hW hS hL => lv_if_gt X.1 X.2.1 hd ht (fun _ => h H locs ls hW hS hL) (fun q => absurd hc q)
theorem l_if_gt_f (X : CxL p l e R s m args below meth c cc nL own A dC dI cy ks a0) {x : Int32} {off : Int} {tgt : Nat} (hd : decode cc pc = .ok (.ifCond .gt off, 3)) (ht : (pc : Int) + off = (tgt : Int)) (hc : ¬ (0 < x)) (h : JL p l e R s m args below meth c nL Q A dC dI cy a0 (mP) (mM) (ov) (ce) (sl) (pc + 3) (lv) (st)) : JL p l e R s m args below meth c nL Q A dC dI cy a0 (mP) (mM) (ov) (ce) (sl) (pc) (lv) (.int x :: st) := fun H locs ls hW hS hL => lv_if_gt X.1 X.2.1 hd ht (fun q => absurd q hc) (fun _ => h H locs ls hW hS hL)
theorem l_if_gt (X : CxL p l e R s m args below meth c cc nL own A dC dI cy ks a0) {x : Int32} {off : Int} {tgt : Nat} (hd : decode cc pc = .ok (.ifCond .gt off, 3)) (ht : (pc : Int) + off = (tgt : Int)) (kt : 0 < x → JL p l e R s m args below meth c nL Q A dC dI cy a0 (mP) (mM) (ov) (ce) (sl) (tgt) (lv) (st)) (kf : ¬ (0 < x) → JL p l e R s m args below meth c nL Q A dC dI cy a0 (mP) (mM) (ov) (ce) (sl) (pc + 3) (lv) (st)) : JL p l e R s m args below meth c nL Q A dC dI cy a0 (mP) (mM) (ov) (ce) (sl) (pc) (lv) (.int x :: st) := fun H locs ls hW hS hL => lv_if_gt X.1 X.2.1 hd ht (fun q => kt q H locs ls hW hS hL) (fun q => kf q H locs ls hW hS hL)
theorem l_icmp_gt_t (X : CxL p l e R s m args below meth c cc nL own A dC dI cy ks a0) {x y : Int32} {off : Int} {tgt : Nat} (hd : decode cc pc = .ok (.if_icmp .gt off, 3)) (ht : (pc : Int) + off = (tgt : Int)) (hc : y < x) (h : JL p l e R s m args below meth c nL Q A dC dI cy a0 (mP) (mM) (ov) (ce) (sl) (tgt) (lv) (st)) : JL p l e R s m args below meth c nL Q A dC dI cy a0 (mP) (mM) (ov) (ce) (sl) (pc) (lv) (.int y :: .int x :: st) := fun H locs ls hW hS hL => lv_icmp_gt X.1 X.2.1 hd ht (fun _ => h H locs ls hW hS hL) (fun q => absurd hc q)
theorem l_icmp_gt_f (X : CxL p l e R s m args below meth c cc nL own A dC dI cy ks a0) {x y : Int32} {off : Int} {tgt : Nat} (hd : decode cc pc = .ok (.if_icmp .gt off, 3)) (ht : (pc : Int) + off = (tgt : Int)) (hc : ¬ (y < x)) (h : JL p l e R s m args below meth c nL Q A dC dI cy a0 (mP) (mM) (ov) (ce) (sl) (pc + 3) (lv) (st)) : JL p l e R s m args below meth c nL Q A dC dI cy a0 (mP) (mM) (ov) (ce) (sl) (pc) (lv) (.int y :: .int x :: st) := fun H locs ls hW hS hL => lv_icmp_gt X.1 X.2.1 hd ht (fun q => absurd q hc) (fun _ => h H locs ls hW hS hL)
theorem l_icmp_gt (X : CxL p l e R s m args below meth c cc nL own A dC dI cy ks a0) {x y : Int32} {off : Int} {tgt : Nat} (hd : decode cc pc = .ok (.if_icmp .gt off, 3)) (ht : (pc : Int) + off = (tgt : Int)) (kt : y < x → JL p l e R s m args below meth c nL Q A dC dI cy a0 (mP) (mM) (ov) (ce) (sl) (tgt) (lv) (st)) (kf : ¬ (y < x) → JL p l e R s m args below meth c nL Q A dC dI cy a0 (mP) (mM) (ov) (ce) (sl) (pc + 3) (lv) (st)) : JL p l e R s m args below meth c nL Q A dC dI cy a0 (mP) (mM) (ov) (ce) (sl) (pc) (lv) (.int y :: .int x :: st) := fun H locs ls hW hS hL => lv_icmp_gt X.1 X.2.1 hd ht (fun q => kt q H locs ls hW hS hL) (fun q => kf q H locs ls hW hS hL)
theorem l_sld (X : CxL p l e R s m args below meth c cc nL own A dC dI cy ks a0) {b L : Nat} {xs : Nat → Int32} {x : Int32} (hX : va_X b L xs s s.heap) (hbl : b < s.heap.size) (hbA : ¬ A b) (hi : vp_in x L) (hd : decode cc pc = .ok (.iaload, 1)) (h : JL p l e R s m args below meth c nL Q A dC dI cy a0 (mP) (mM) (ov) (ce) (sl) (pc + 1) (lv) (.int (xs x.toNatClampNeg) :: st)) : JL p l e R s m args below meth c nL Q A dC dI cy a0 (mP) (mM) (ov) (ce) (sl) (pc) (lv) (.int x :: .ref b :: st) := fun H locs ls hW hS hL => va_sld X.1 X.2.1 hX hbl hbA hS hi hd (h H locs ls hW hS hL)
theorem l_slen (X : CxL p l e R s m args below meth c cc nL own A dC dI cy ks a0) {b L : Nat} {xs : Nat → Int32} (hX : va_X b L xs s s.heap) (hbl : b < s.heap.size) (hbA : ¬ A b) (hd : decode cc pc = .ok (.arraylength, 1)) (h : JL p l e R s m args below meth c nL Q A dC dI cy a0 (mP) (mM) (ov) (ce) (sl) (pc + 1) (lv) (.int (Int32.ofNat L) :: st)) : JL p l e R s m args below meth c nL Q A dC dI cy a0 (mP) (mM) (ov) (ce) (sl) (pc) (lv) (.ref b :: st) := fun H locs ls hW hS hL => va_slen X.1 X.2.1 hX hbl hbA hS hd (h H locs ls hW hS hL)
theorem oC_P {D : va_G} {H : Heap} (h : H[a0 + 214]? = some (oC cy ov)) : va_P D vwCl [(a0 + 214, .inl (cy 15, 1, .inr (.inl (fun _ => ov))))] H := fun k q hq => by
  have h0 : k < 1 := (List.getElem?_eq_some_iff.mp hq).1
  rw [show k = 0 by omega] at hq
  cases hq
  exact h
theorem oC_D (hA : A (a0 + 214)) : va_D A [(a0 + 214, (.inl (cy 15, 1, .inr (.inl (fun _ => ov))) : va_E))] := ⟨fun i j p q h1 h2 _ => by
  have := (List.getElem?_eq_some_iff.mp h1).1
  have := (List.getElem?_eq_some_iff.mp h2).1
  simp at *
  omega, fun k q hq => by
  have h0 : k < 1 := (List.getElem?_eq_some_iff.mp hq).1
  rw [show k = 0 by omega] at hq
  cases hq
  exact hA⟩
theorem l_olad (X : CxL p l e R s m args below meth c cc nL own A dC dI cy ks a0)  (hd : decode cc pc = .ok (.laload, 1)) (h : JL p l e R s m args below meth c nL Q A dC dI cy a0 (mP) (mM) (ov) (ce) (sl) (pc + 1) (lv) (.long ov :: st)) : JL p l e R s m args below meth c nL Q A dC dI cy a0 (mP) (mM) (ov) (ce) (sl) (pc) (lv) (.int 0 :: .ref (a0 + 214) :: st) := fun H locs ls hW hS hL => va_lald X.1 X.2.1 X.2.2.2.2.2.1 (oC_P hW.2.2) 0 2 rfl rfl (inb_in (n := 1) rfl) hd (h H locs ls hW hS hL)
theorem wld_len {Λ : Ly} {ad : Nat → Nat} {cy : Nat → ClassId} {m : Mm} : (wld Λ ad cy m).length = Λ.2.2 := by simp [wld]
theorem l_olst (X : CxL p l e R s m args below meth c cc nL own A dC dI cy ks a0) {v : Int64} (hd : decode cc pc = .ok (.lastore, 1)) (h : JL p l e R s m args below meth c nL Q A dC dI cy a0 (mP) (mM) (v) (ce) (sl) (pc + 1) (lv) (st)) : JL p l e R s m args below meth c nL Q A dC dI cy a0 (mP) (mM) (ov) (ce) (sl) (pc) (lv) (.long v :: .int 0 :: .ref (a0 + 214) :: st) := by
  intro H locs ls hW hS hL
  have hA := X.2.2.2.2.2.2.2.1
  have hPP := (oC_P (D := (dC, dI)) hW.2.2).app (hW.1.app hW.2.1)
  have hDP : va_D A (wld Lp (aP a0) cy mP) := wld_D (aP_inj a0) (fun i hi => hA _ (by have hi : i < 166 := hi; show _ ∨ _; unfold aP; omega))
  have hDM : va_D A (wld Lm (aM a0) cy mM) := wld_D (aM_inj a0) (fun i hi => hA _ (by have hi : i < 48 := hi; show _ ∨ _; unfold aM; omega))
  have hDD := va_D.app (oC_D (cy := cy) (ov := ov) (hA (a0 + 214) (Or.inr (Or.inr (Or.inl rfl))))) (va_D.app hDP hDM (fun i j x y hx hy hxy => by
    obtain ⟨h1, rfl⟩ := wld_key hx
    obtain ⟨h2, rfl⟩ := wld_key hy
    have h1 : i < 166 := h1
    have h2 : j < 48 := h2
    have hxy : aP a0 i = aM a0 j := hxy
    unfold aP aM at hxy
    omega)) (fun i j x y hx hy hxy => by
    have h0 : i < 1 := (List.getElem?_eq_some_iff.mp hx).1
    rw [show i = 0 by omega] at hx
    cases hx
    by_cases hj : j < (wld Lp (aP a0) cy mP).length
    · rw [List.getElem?_append_left hj] at hy
      obtain ⟨h2, rfl⟩ := wld_key hy
      have h2 : j < 166 := h2
      have hxy : a0 + 214 = aP a0 j := hxy
      unfold aP at hxy
      omega
    · rw [List.getElem?_append_right (by omega)] at hy
      obtain ⟨h2, rfl⟩ := wld_key hy
      have hxy : a0 + 214 = aM a0 (j - (wld Lp (aP a0) cy mP).length) := hxy
      have h2 : j - (wld Lp (aP a0) cy mP).length < 48 := h2
      unfold aM at hxy
      omega)
  refine va_last X.1 X.2.1 X.2.2.2.2.2.1 hPP hDD hS 0 2 rfl rfl (inb_in (n := 1) rfl) hd (fun H1 locs hP1 hD1 hS1 => ?_)
  refine h H1 locs ls ⟨fun k q hq => hP1 (k + 1) q ?_, fun k q hq => hP1 (k + 166 + 1) q ?_, ?_⟩ hS1 hL
  · show (wld Lp (aP a0) cy mP ++ wld Lm (aM a0) cy mM)[k]? = some q
    rw [List.getElem?_append_left (by rw [wld_len]; exact (wld_key hq).1)]
    exact hq
  · show (wld Lp (aP a0) cy mP ++ wld Lm (aM a0) cy mM)[k + 166]? = some q
    rw [List.getElem?_append_right (by rw [wld_len]; exact Nat.le_add_left 166 k), wld_len, show k + 166 - Lp.2.2 = k from Nat.add_sub_cancel k 166]
    exact hq
  · exact (show H1[a0 + 214]? = some (vp_cell (cy 15) (1, .inr (.inl (vp_updL (fun _ => ov) (0 : Int32).toNatClampNeg v)))) from hP1 0 _ rfl).trans (congrArg some (arrV_cong (cA := cy 15) (N := 1) (f := fun j => Value.long (vp_updL (fun _ => ov) (0 : Int32).toNatClampNeg v j)) (g := fun _ => Value.long v) (fun j hj => by
      rw [show j = 0 by omega]
      rfl)))
theorem l_cP (X : CxL p l e R s m args below meth c cc nL own A dC dI cy ks a0) {y : MethodName} {rm : Room} {index maxL n : Nat} {bytes : ByteArray} {rt : Option FieldType} {As rest : List Value} {r : Int32} {mem2 : Mm} (hM : CtI l Lp (aP a0) cy dC dI ks y bytes maxL rt rm (.ref (aP a0 0) :: As) mP r mem2) (w1 : Cond.methodLink own index y ∈ uw) (w2 : Cond.instanceMethod y ∈ uw) (w3 : Cond.selects RX11 y y ∈ uw) (w4 : Cond.initialized RX11 ∈ uw) (w5 : Cond.code y bytes maxL rt ∈ uw) (hrc : rm.cells = 0) (hrs : rm.slots = 0) (hdd : y.cls = RX11 ∧ y.cls ≠ "java/lang/invoke/MethodHandle" ∧ y.cls ≠ "java/lang/invoke/VarHandle" ∧ (parseMethodDescriptor y.desc).map (fun d => d.parameters.length) = some n) (hR : rm.frames + 1 ≤ R.frames ∧ 8 + (maxL + 11) + rm.locals ≤ R.locals) (hn : As.length = n) (hsum : (rest.map fun v => v.category).sum ≤ 8) (hce : ce ≤ R.cells) (hsl : sl ≤ R.slots) (hd : decode cc pc = .ok (.invokevirtual index, 3)) (hst : st = As.reverse ++ .ref (aP a0 0) :: rest) (h : JL p l e R s m args below meth c nL Q A dC dI cy a0 (mem2) (mM) (ov) (ce) (sl) (pc + 3) (lv) (.int r :: rest)) : JL p l e R s m args below meth c nL Q A dC dI cy a0 (mP) (mM) (ov) (ce) (sl) (pc) (lv) (st) := by
  intro H locs ls hW hS hL
  subst hst
  have hO : a0 + 214 < H.size := (Array.getElem?_eq_some_iff.mp hW.2.2).1
  have hD : va_D A (wld Lp (aP a0) cy mP) := wld_D (aP_inj a0) (fun i hi => X.2.2.2.2.2.2.2.1 _ (by have hi : i < 166 := hi; show _ ∨ _; unfold aP; omega))
  have hFr : ∀ q : Nat, va_A (wld Lp (aP a0) cy mP) H.size q → A q := fun q z => by
    rcases wld_A z with ⟨i, hi, rfl⟩ | z
    · exact hD.2 i _ (wld_get _ cy mP hi)
    · exact X.2.2.2.2.2.2.2.1 _ (Or.inr (Or.inr (Or.inr (Nat.le_trans hS.1 z))))
  refine va_calli (va_runV (C := RX11) (As := As) (rest := rest) ⟨X.1, X.2.1, X.2.2.1, X.2.2.2.1, X.2.2.2.2.1⟩ (hM H.size) (by obtain ⟨hC, hdd⟩ := hdd; exact ⟨callB_of n X.2.2.2.2.1 (good_of w5) rfl hrc hrs (X.2.2.2.2.1 _ (hC ▸ w4)) (X.2.2.2.2.1 _ w1) hdd hR, X.2.2.2.2.1 _ w2, X.2.2.2.2.1 _ w3⟩) ⟨pre_blind, va_recv X.2.2.2.2.2.1 hW.1 (ci := 11) rfl ((wld_get (aP a0) cy mP (show 0 < Lp.2.2 by decide)).trans (congrArg (fun z => some (_, z)) (cel_O (aP a0) cy mP (c := 11) rfl (by decide)))), fun U hU hW2 => ⟨rfl, by rw [hU], by rw [hU]; exact hW.1, va_K.moved hW2.alike X.2.2.2.2.2.1, hD.weaken (fun _ _ _ _ => trivial), NB.warm hW2 X.2.2.2.2.2.2.1, EX.step X.2.2.2.2.2.2.2.2.1 hS hFr hU hW2⟩⟩ rfl hn hL.1 rfl (lv_room hsum) hd ⟨hce, hsl⟩) hS (fun q _ z => hFr q z) hFr (fun r u t H1 locs ht hvm hw hB hz1 hk1 hS2 => ?_)
  cases hw
  have hP1 : va_P (dC, dI) vwCl (wld Lp (aP a0) cy mem2) H1 := by rw [← ht]; exact hB.1
  have hoth : va_P (dC, dI) vwCl (wld Lm (aM a0) cy mM) H1 := wld_kept hW.2.1 (fun i hi hl => hk1 _ hl (fun z => by
    rcases wld_A z with ⟨j, hj, hz⟩ | z
    · have hi : i < 48 := hi
      have hj : j < 166 := hj
      unfold aP aM at hz
      omega
    · omega))
  have hO1 : H1[a0 + 214]? = some (oC cy ov) := by
    rw [hk1 _ hO (fun z => by
      rcases wld_A z with ⟨j, hj, hz⟩ | z
      · have hj : j < 166 := hj
        unfold aP at hz
        omega
      · omega)]
    exact hW.2.2
  exact h H1 locs ls ⟨hP1, hoth, hO1⟩ hS2 hL
theorem l_cM (X : CxL p l e R s m args below meth c cc nL own A dC dI cy ks a0) {y : MethodName} {rm : Room} {index maxL n : Nat} {bytes : ByteArray} {rt : Option FieldType} {As rest : List Value} {r : Int32} {mem2 : Mm} (hM : CtI l Lm (aM a0) cy dC dI ks y bytes maxL rt rm (.ref (aM a0 0) :: As) mM r mem2) (w1 : Cond.methodLink own index y ∈ uw) (w2 : Cond.instanceMethod y ∈ uw) (w3 : Cond.selects RX12 y y ∈ uw) (w4 : Cond.initialized RX12 ∈ uw) (w5 : Cond.code y bytes maxL rt ∈ uw) (hrc : rm.cells = 0) (hrs : rm.slots = 0) (hdd : y.cls = RX12 ∧ y.cls ≠ "java/lang/invoke/MethodHandle" ∧ y.cls ≠ "java/lang/invoke/VarHandle" ∧ (parseMethodDescriptor y.desc).map (fun d => d.parameters.length) = some n) (hR : rm.frames + 1 ≤ R.frames ∧ 8 + (maxL + 11) + rm.locals ≤ R.locals) (hn : As.length = n) (hsum : (rest.map fun v => v.category).sum ≤ 8) (hce : ce ≤ R.cells) (hsl : sl ≤ R.slots) (hd : decode cc pc = .ok (.invokevirtual index, 3)) (hst : st = As.reverse ++ .ref (aM a0 0) :: rest) (h : JL p l e R s m args below meth c nL Q A dC dI cy a0 (mP) (mem2) (ov) (ce) (sl) (pc + 3) (lv) (.int r :: rest)) : JL p l e R s m args below meth c nL Q A dC dI cy a0 (mP) (mM) (ov) (ce) (sl) (pc) (lv) (st) := by
  intro H locs ls hW hS hL
  subst hst
  have hO : a0 + 214 < H.size := (Array.getElem?_eq_some_iff.mp hW.2.2).1
  have hD : va_D A (wld Lm (aM a0) cy mM) := wld_D (aM_inj a0) (fun i hi => X.2.2.2.2.2.2.2.1 _ (by have hi : i < 48 := hi; show _ ∨ _; unfold aM; omega))
  have hFr : ∀ q : Nat, va_A (wld Lm (aM a0) cy mM) H.size q → A q := fun q z => by
    rcases wld_A z with ⟨i, hi, rfl⟩ | z
    · exact hD.2 i _ (wld_get _ cy mM hi)
    · exact X.2.2.2.2.2.2.2.1 _ (Or.inr (Or.inr (Or.inr (Nat.le_trans hS.1 z))))
  refine va_calli (va_runV (C := RX12) (As := As) (rest := rest) ⟨X.1, X.2.1, X.2.2.1, X.2.2.2.1, X.2.2.2.2.1⟩ (hM H.size) (by obtain ⟨hC, hdd⟩ := hdd; exact ⟨callB_of n X.2.2.2.2.1 (good_of w5) rfl hrc hrs (X.2.2.2.2.1 _ (hC ▸ w4)) (X.2.2.2.2.1 _ w1) hdd hR, X.2.2.2.2.1 _ w2, X.2.2.2.2.1 _ w3⟩) ⟨pre_blind, va_recv X.2.2.2.2.2.1 hW.2.1 (ci := 12) rfl ((wld_get (aM a0) cy mM (show 0 < Lm.2.2 by decide)).trans (congrArg (fun z => some (_, z)) (cel_O (aM a0) cy mM (c := 12) rfl (by decide)))), fun U hU hW2 => ⟨rfl, by rw [hU], by rw [hU]; exact hW.2.1, va_K.moved hW2.alike X.2.2.2.2.2.1, hD.weaken (fun _ _ _ _ => trivial), NB.warm hW2 X.2.2.2.2.2.2.1, EX.step X.2.2.2.2.2.2.2.2.1 hS hFr hU hW2⟩⟩ rfl hn hL.1 rfl (lv_room hsum) hd ⟨hce, hsl⟩) hS (fun q _ z => hFr q z) hFr (fun r u t H1 locs ht hvm hw hB hz1 hk1 hS2 => ?_)
  cases hw
  have hP1 : va_P (dC, dI) vwCl (wld Lm (aM a0) cy mem2) H1 := by rw [← ht]; exact hB.1
  have hoth : va_P (dC, dI) vwCl (wld Lp (aP a0) cy mP) H1 := wld_kept hW.1 (fun i hi hl => hk1 _ hl (fun z => by
    rcases wld_A z with ⟨j, hj, hz⟩ | z
    · have hi : i < 166 := hi
      have hj : j < 48 := hj
      unfold aP aM at hz
      omega
    · omega))
  have hO1 : H1[a0 + 214]? = some (oC cy ov) := by
    rw [hk1 _ hO (fun z => by
      rcases wld_A z with ⟨j, hj, hz⟩ | z
      · have hj : j < 48 := hj
        unfold aM at hz
        omega
      · omega)]
    exact hW.2.2
  exact h H1 locs ls ⟨hoth, hP1, hO1⟩ hS2 hL
theorem l_cX (X : CxL p l e R s m args below meth c cc nL own A dC dI cy ks a0) {y : MethodName} {rm : Room} {index maxL n : Nat} {bytes : ByteArray} {rt : Option FieldType} {As rest : List Value} {x : Option Int32} {mem2 : Mm} {te : ExceptionTableEntry} {hpc : Nat} {nmx : String} (hM : CtX l Lp (aP a0) cy dC dI ks y bytes maxL rt rm (.ref (aP a0 0) :: As) mP x mem2) (w1 : Cond.methodLink own index y ∈ uw) (w2 : Cond.instanceMethod y ∈ uw) (w3 : Cond.selects RX11 y y ∈ uw) (w4 : Cond.initialized RX11 ∈ uw) (w5 : Cond.code y bytes maxL rt ∈ uw) (hrc : rm.cells = 1) (hrs : rm.slots = 6) (hdd : y.cls = RX11 ∧ y.cls ≠ "java/lang/invoke/MethodHandle" ∧ y.cls ≠ "java/lang/invoke/VarHandle" ∧ (parseMethodDescriptor y.desc).map (fun d => d.parameters.length) = some n) (hR : rm.frames + 1 ≤ R.frames ∧ 8 + (maxL + 11) + rm.locals ≤ R.locals) (hn : As.length = n) (hsum : (rest.map fun v => v.category).sum ≤ 8) (hce : ce + 1 ≤ R.cells) (hsl : sl + 6 ≤ R.slots) (hd : decode cc pc = .ok (.invokevirtual index, 3)) (hst : st = As.reverse ++ .ref (aP a0 0) :: rest) (htab : c.exceptionTable.toList = [te]) (hcov : covers te pc = true) (hct : te.catchType ≠ 0) (hlk : Cond.classLink own te.catchType xN ∈ uw) (hhp : te.handlerPc = hpc) (h1 : ∀ r, x = some r → JL p l e R s m args below meth c nL Q A dC dI cy a0 (mem2) (mM) (ov) (ce + 1) (sl + 6) (pc + 3) (lv) (.int r :: rest)) (h2 : x = none → ∀ q : Nat, JL p l e R s m args below meth c nL Q A dC dI cy a0 (mem2) (mM) (ov) (ce + 1) (sl + 6) (hpc) (lv) ([.ref q])) : JL p l e R s m args below meth c nL Q A dC dI cy a0 (mP) (mM) (ov) (ce) (sl) (pc) (lv) (st) := by
  intro H locs ls hW hS hL
  subst hst
  have hO : a0 + 214 < H.size := (Array.getElem?_eq_some_iff.mp hW.2.2).1
  have hD : va_D A (wld Lp (aP a0) cy mP) := wld_D (aP_inj a0) (fun i hi => X.2.2.2.2.2.2.2.1 _ (by have hi : i < 166 := hi; show _ ∨ _; unfold aP; omega))
  have hFr : ∀ q : Nat, va_A (wld Lp (aP a0) cy mP) H.size q → A q := fun q z => by
    rcases wld_A z with ⟨i, hi, rfl⟩ | z
    · exact hD.2 i _ (wld_get _ cy mP hi)
    · exact X.2.2.2.2.2.2.2.1 _ (Or.inr (Or.inr (Or.inr (Nat.le_trans hS.1 z))))
  have hrest : ∀ (H1 : Heap), (∀ q : Nat, q < H.size → ¬ va_A (wld Lp (aP a0) cy mP) H.size q → H1[q]? = H[q]?) → va_P (dC, dI) vwCl (wld Lm (aM a0) cy mM) H1 ∧ H1[a0 + 214]? = some (oC cy ov) := fun H1 hk1 => by
    refine ⟨wld_kept hW.2.1 (fun i hi hl => hk1 _ hl (fun z => by
      rcases wld_A z with ⟨j, hj, hz⟩ | z
      · have hi : i < 48 := hi
        have hj : j < 166 := hj
        unfold aP aM at hz
        omega
      · omega)), ?_⟩
    rw [hk1 _ hO (fun z => by
      rcases wld_A z with ⟨j, hj, hz⟩ | z
      · have hj : j < 166 := hj
        unfold aP at hz
        omega
      · omega)]
    exact hW.2.2
  refine vx_calli (vx_runV (C := RX11) (As := As) (rest := rest) ⟨X.1, X.2.1, X.2.2.1, X.2.2.2.1, X.2.2.2.2.1⟩ (hM H.size) (by obtain ⟨hC, hdd⟩ := hdd; exact ⟨callB_of n X.2.2.2.2.1 (good_of w5) rfl hrc hrs (X.2.2.2.2.1 _ (hC ▸ w4)) (X.2.2.2.2.1 _ w1) hdd hR, X.2.2.2.2.1 _ w2, X.2.2.2.2.1 _ w3⟩) ⟨prx_blind, va_recv X.2.2.2.2.2.1 hW.1 (ci := 11) rfl ((wld_get (aP a0) cy mP (show 0 < Lp.2.2 by decide)).trans (congrArg (fun z => some (_, z)) (cel_O (aP a0) cy mP (c := 11) rfl (by decide)))), fun U hU hW2 => ⟨⟨rfl, by rw [hU], by rw [hU]; exact hW.1, va_K.moved hW2.alike X.2.2.2.2.2.1, hD.weaken (fun _ _ _ _ => trivial), NB.warm hW2 X.2.2.2.2.2.2.1, EX.step X.2.2.2.2.2.2.2.2.1 hS hFr hU hW2⟩, XT.step X.2.2.2.2.2.2.2.2.2.1 hS hFr hU hW2⟩⟩ rfl hn hL.1 rfl (lv_room hsum) hd ⟨hce, hsl⟩) hS (fun q _ z => hFr q z) hFr (fun q _ z => hFr q z) (fun E ce9 q9 u t H1 locs ht hvm hpx hBX hz1 hk1 hS2 hc9 hv9 hf9 => ?_) (fun r u t H1 locs ht hvm hw hB hz1 hk1 hS2 => ?_)
  · obtain ⟨rfl, hP1, -⟩ := hBX
    obtain ⟨k1, k2⟩ := hrest H1 hk1
    refine vx_catch X.2.2.2.1 [] te [] htab (fun _ z => nomatch z) hcov hct (X.2.2.2.2.1 _ hlk) (va_Nw.use rfl (X.2.2.2.2.2.2.2.2.2.1.1 _ (List.mem_of_getElem? (i := 0) rfl))) hc9 hv9 hf9 ?_
    rw [hhp]
    exact h2 hpx q9 H1 locs ls ⟨by rw [← ht]; exact hP1, k1, k2⟩ hS2 hL
  · obtain ⟨k1, k2⟩ := hrest H1 hk1
    exact h1 r hw H1 locs ls ⟨by rw [← ht]; exact hB.1, k1, k2⟩ hS2 hL
end LawRows
