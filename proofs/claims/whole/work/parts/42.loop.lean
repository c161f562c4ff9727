def R_law : String := "StationPianoLaw"
def lw_P (b : Addr) (xs : List Int32) (args : Array Value) (s : State) : Prop := args = #[.ref b] ∧ s.IntsAt b xs ∧ xs.length ≤ 3584 ∧ (Jvm.Cond.and given_1 narrow_1).before args s = true
def lw_Q (_ : Array Value) (s : State) (o : Outcome) (t : State) : Prop := o = .returned (some (.int 1)) ∧ Framed s o t [] 601024 7293034
def lw_Z (below : List Frame) (a : Array Value) (s : State) : State → Prop := fun t => ∃ o, t.status = .running ∧ Ended t below o ∧ lw_Q a s o t
/-- the law's own end, with 1 on the stack, nothing written that was there before, its room as the claim has it -/
theorem lw_ret {p : Program} {l : Launch} {e : Env} {s : State} {m : MethodId} {below : List Frame} {meth : Method} {c : Code} {b : Nat} (hx : p.tables.exec = Jvm.exec) (hb : c.code = code) (hr : meth.sig.returnType = ret) (hlocks : meth.locks = false) {pc : Nat} {H : Heap} {ls : Array Slot} (hdg : decode code pc = .ok (.ireturn, 1)) : W p l e room_1 s m #[Value.ref b] below meth c H [] 601024 7293034 (lw_Z below #[Value.ref b] s) (F0 m pc ls [.int 1]) := by
  intro T hT X
  obtain ⟨fs, hret, hrun, hended, hW, hframe⟩ := X.leave (v := some (.int 1)) (hlocks := hlocks) (fun h => by rw [hr] at h; cases h)
  have hmeth' : T.vm.method? m = some meth := X.method'
  refine ⟨T.setFrames fs, ?_, .returned (some (.int 1)), hrun, hended, rfl, ⟨_, rfl⟩, hW, hframe⟩
  jvm_step X.here [X.here.top, hx, hb, hdg, hmeth', hr, ret, narrow_b1]
  (try refine ⟨rfl, ?_⟩); (try refine ⟨rfl, ?_⟩)
  first | (intro acts; rw [hret _ acts rfl rfl rfl]) | rw [hret _ _ rfl rfl rfl]
  exact Steps.refl _
/-- what holds at the law's entry: the machine, the code, the tables' words (any of lw_tbl by 'hts w (by decide +kernel)'), the script of L ints xs at the cell b, what the Statement gives of the start (any of its parts by flat_of_before) -/
def lw_At (p : Program) (s : State) (m : MethodId) (meth : Method) (c : Code) (b L : Nat) (xs : Nat → Int32) : Prop :=
  p.tables.exec = Jvm.exec ∧ c.code = code ∧ meth.sig.returnType = ret ∧ c.maxLocals = 7 ∧ s.vm.findClass R_law = some m.cls ∧ (∀ w ∈ lw_tbl, w.before #[Value.ref b] s = true) ∧ va_X b L xs s s.heap ∧ b < s.heap.size ∧ meth.locks = false ∧ (Jvm.Cond.and given_1 narrow_1).before #[Value.ref b] s = true
/-- every call keeps Rel and answers alike on both sides -/
def StepOK (Rel : Mm → Mm → Prop) : Prop := St_feed Rel ∧ St_station Rel ∧ St_week Rel ∧ St_passer Rel ∧ St_tune Rel ∧ St_key Rel ∧ St_begins Rel ∧ St_ends Rel ∧ St_now Rel ∧ St_away Rel ∧ St_joy Rel ∧ St_day Rel ∧ St_mend Rel ∧ St_each Rel ∧ St_open Rel ∧ St_undo Rel ∧ St_judged Rel ∧ St_best Rel ∧ St_hours Rel ∧ St_when Rel ∧ St_lasts Rel ∧ St_without Rel ∧ St_rarer Rel ∧ St_dare Rel ∧ St_strikes Rel ∧ St_find Rel ∧ St_sets Rel ∧ St_look Rel ∧ St_share Rel ∧ St_rests Rel ∧ St_rule Rel ∧ St_months Rel ∧ St_mark Rel ∧ St_count Rel
theorem gt7 {L k : Nat} (hL : L ≤ 3584) (hk : k ≤ L) (h : ¬ (Int32.ofNat L - 7 < nI k)) : k + 7 ≤ L := by
  rcases Nat.lt_or_ge L (k + 7) with q | q
  · exfalso
    apply h
    show nI L - nI 7 < nI k
    rw [Int32.lt_iff_toInt_lt, pk_sub_toInt (by omega) (by omega), nI_toInt (by omega)]
    omega
  · exact q
theorem gin {L k j : Nat} (hL : L ≤ 3584) (h : k + j < L) : vp_in (nI k + nI j) L := by rw [nI_add]; exact vp_in_nI h (by omega)
set_option maxHeartbeats 8000000 in
set_option maxRecDepth 100000 in
theorem law_loop {p : Program} {l : Launch} {e : Env} {s : State} {m : MethodId} {below : List Frame} {meth : Method} {c : Code} {dC : Nat → ClassId} {dI : Nat → Nat → Nat} {cy : Nat → ClassId} {ks : (Nat → Nat) × (Nat → Nat)} {b L : Nat} {xs : Nat → Int32} {Rel : Mm → Mm → Prop} (hL : L ≤ 3584) (hnt : l.stackTraces = false) (X : CxL p l e room_1 s m #[Value.ref b] below meth c cL_law 7 RL (fun q : Nat => s.heap.size ≤ q) dC dI cy ks s.heap.size) (hr : meth.sig.returnType = ret) (hlocks : meth.locks = false) (hX : va_X b L xs s s.heap) (hbl : b < s.heap.size) (hSt : StepOK Rel) : ∀ (n i : Nat) (mP mM : Mm) (ov : Int64), L + 7 ≤ 7 * i + 7 * n → 7 * i ≤ L → Rel mP mM → JL p l e room_1 s m #[Value.ref b] below meth c 7 (lw_Z below #[Value.ref b] s) (fun q : Nat => s.heap.size ≤ q) dC dI cy s.heap.size mP mM ov (215 + i) (11963 + 6 * i) 23 [(0, .ref b), (1, .ref (aP s.heap.size 0)), (2, .ref (aM s.heap.size 0)), (3, .ref (s.heap.size + 214)), (4, .int (nI (7 * i)))] [] := by
  have hbA : ¬ (fun q : Nat => s.heap.size ≤ q) b := Nat.not_le.mpr hbl
  intro n
  induction n with
  | zero => intro i mP mM ov h1 h2; exact absurd h1 (by omega)
  | succ n ih =>
    intro i mP mM ov hn hi hR
    refine l_iload X dL_law_23 4 rfl ?_
    refine l_aload_n X dL_law_25 rfl 0 rfl ?_
    refine l_slen X hX hbl hbA dL_law_26 ?_
    refine l_bipush (v := 7) X dL_law_27 (by decide) ?_
    refine l_isub X dL_law_29 ?_
    refine l_icmp_gt (tgt := 1463) X dL_law_30 (by decide) (fun hc => ?_) (fun hc => ?_)
    · refine l_iconst (v := 1) X dL_law_1463 (by decide) ?_
      intro H locs ls hW hS hL9
      refine va_forget (fun q hq => hS.2.2 q hq) ?_
      refine W.widen (k := 601024) (n := 7293034) (by omega) (by omega) ?_
      exact lw_ret X.1 X.2.1 hr hlocks dL_law_1464
    · have h7 : 7 * i + 7 ≤ L := gt7 hL hi hc
      have g0 : vp_in (nI (7 * i)) L := vp_in_nI (by omega) (by omega)
      have g1 : vp_in (nI (7 * i) + 1) L := gin (j := 1) hL (by omega)
      have g2 : vp_in (nI (7 * i) + 2) L := gin (j := 2) hL (by omega)
      have g3 : vp_in (nI (7 * i) + 3) L := gin (j := 3) hL (by omega)
      have g4 : vp_in (nI (7 * i) + 4) L := gin (j := 4) hL (by omega)
      have g5 : vp_in (nI (7 * i) + 5) L := gin (j := 5) hL (by omega)
      have g6 : vp_in (nI (7 * i) + 6) L := gin (j := 6) hL (by omega)
      have hk : ∀ (mP mM : Mm) (ov : Int64), Rel mP mM → JL p l e room_1 s m #[Value.ref b] below meth c 7 (lw_Z below #[Value.ref b] s) (fun q : Nat => s.heap.size ≤ q) dC dI cy s.heap.size mP mM ov (215 + i + 1) (11963 + 6 * i + 6) 1457 [(0, .ref b), (1, .ref (aP s.heap.size 0)), (2, .ref (aM s.heap.size 0)), (3, .ref (s.heap.size + 214)), (4, .int (nI (7 * i)))] [] := fun mP mM ov hR => by
        refine l_iinc (v := nI (7 * (i + 1))) (lv2 := [(4, .int (nI (7 * (i + 1)))), (0, .ref b), (1, .ref (aP s.heap.size 0)), (2, .ref (aM s.heap.size 0)), (3, .ref (s.heap.size + 214))]) X dL_law_1457 4 rfl (show nI (7 * i) + nI 7 = nI (7 * (i + 1)) by rw [nI_add]; rfl) (by decide) rfl ?_
        refine l_goto (tgt := 23) X dL_law_1460 (by decide) ?_
        have h9 := ih (i + 1) mP mM ov (by omega) (by omega) hR
        rw [show 215 + (i + 1) = 215 + i + 1 by omega, show 11963 + 6 * (i + 1) = 11963 + 6 * i + 6 by omega] at h9
        exact l_sub [1, 2, 3, 4, 0] rfl h9
      refine l_aload_n X dL_law_33 rfl 0 rfl ?_
      refine l_iload X dL_law_34 4 rfl ?_
      refine l_sld X hX hbl hbA g0 dL_law_36 ?_
      refine l_bipush (v := 63) X dL_law_37 (by decide) ?_
      refine l_iand X dL_law_39 ?_
      generalize (xs (nI (7 * i)).toNatClampNeg &&& 63) = sv
      by_cases c0 : sv = 0
      · refine l_tin (off := 152) (tgt := 192) X dL_law_40 (by rw [c0]; decide) (by rw [c0]; decide) (by rw [c0]; rfl) (by decide) ?_
        exact lc_feed X hnt hX hbl hbA hSt.1 g1 g2 g3 g4 g5 g6 hR (by omega) (by omega) hk
      by_cases c1 : sv = 1
      · refine l_tin (off := 299) (tgt := 339) X dL_law_40 (by rw [c1]; decide) (by rw [c1]; decide) (by rw [c1]; rfl) (by decide) ?_
        exact lc_station X hnt hX hbl hbA hSt.2.1 g1 g2 g3 g4 g5 g6 hR (by omega) (by omega) hk
      by_cases c2 : sv = 2
      · refine l_tin (off := 312) (tgt := 352) X dL_law_40 (by rw [c2]; decide) (by rw [c2]; decide) (by rw [c2]; rfl) (by decide) ?_
        exact lc_week X hnt hX hbl hbA hSt.2.2.1 g1 g2 g3 g4 g5 g6 hR (by omega) (by omega) hk
      by_cases c3 : sv = 3
      · refine l_tin (off := 325) (tgt := 365) X dL_law_40 (by rw [c3]; decide) (by rw [c3]; decide) (by rw [c3]; rfl) (by decide) ?_
        exact lc_passer X hnt hX hbl hbA hSt.2.2.2.1 g1 g2 g3 g4 g5 g6 hR (by omega) (by omega) hk
      by_cases c4 : sv = 4
      · refine l_tin (off := 362) (tgt := 402) X dL_law_40 (by rw [c4]; decide) (by rw [c4]; decide) (by rw [c4]; rfl) (by decide) ?_
        exact lc_tune X hnt hX hbl hbA hSt.2.2.2.2.1 g1 g2 g3 g4 g5 g6 hR (by omega) (by omega) hk
      by_cases c5 : sv = 5
      · refine l_tin (off := 399) (tgt := 439) X dL_law_40 (by rw [c5]; decide) (by rw [c5]; decide) (by rw [c5]; rfl) (by decide) ?_
        exact lc_key X hnt hX hbl hbA hSt.2.2.2.2.2.1 g1 g2 g3 g4 g5 g6 hR (by omega) (by omega) hk
      by_cases c6 : sv = 6
      · refine l_tin (off := 424) (tgt := 464) X dL_law_40 (by rw [c6]; decide) (by rw [c6]; decide) (by rw [c6]; rfl) (by decide) ?_
        exact lc_begins X hnt hX hbl hbA hSt.2.2.2.2.2.2.1 g1 g2 g3 g4 g5 g6 hR (by omega) (by omega) hk
      by_cases c7 : sv = 7
      · refine l_tin (off := 449) (tgt := 489) X dL_law_40 (by rw [c7]; decide) (by rw [c7]; decide) (by rw [c7]; rfl) (by decide) ?_
        exact lc_ends X hnt hX hbl hbA hSt.2.2.2.2.2.2.2.1 g1 g2 g3 g4 g5 g6 hR (by omega) (by omega) hk
      by_cases c8 : sv = 8
      · refine l_tin (off := 474) (tgt := 514) X dL_law_40 (by rw [c8]; decide) (by rw [c8]; decide) (by rw [c8]; rfl) (by decide) ?_
        exact lc_now X hnt hX hbl hbA hSt.2.2.2.2.2.2.2.2.1 g1 g2 g3 g4 g5 g6 hR (by omega) (by omega) hk
      by_cases c9 : sv = 9
      · refine l_tin (off := 499) (tgt := 539) X dL_law_40 (by rw [c9]; decide) (by rw [c9]; decide) (by rw [c9]; rfl) (by decide) ?_
        exact lc_away X hnt hX hbl hbA hSt.2.2.2.2.2.2.2.2.2.1 g1 g2 g3 g4 g5 g6 hR (by omega) (by omega) hk
      by_cases c10 : sv = 10
      · refine l_tin (off := 512) (tgt := 552) X dL_law_40 (by rw [c10]; decide) (by rw [c10]; decide) (by rw [c10]; rfl) (by decide) ?_
        exact lc_joy X hnt hX hbl hbA hSt.2.2.2.2.2.2.2.2.2.2.1 g1 g2 g3 g4 g5 g6 hR (by omega) (by omega) hk
      by_cases c11 : sv = 11
      · refine l_tin (off := 525) (tgt := 565) X dL_law_40 (by rw [c11]; decide) (by rw [c11]; decide) (by rw [c11]; rfl) (by decide) ?_
        exact lc_day X hnt hX hbl hbA hSt.2.2.2.2.2.2.2.2.2.2.2.1 g1 g2 g3 g4 g5 g6 hR (by omega) (by omega) hk
      by_cases c12 : sv = 12
      · refine l_tin (off := 538) (tgt := 578) X dL_law_40 (by rw [c12]; decide) (by rw [c12]; decide) (by rw [c12]; rfl) (by decide) ?_
        exact lc_mend X hnt hX hbl hbA hSt.2.2.2.2.2.2.2.2.2.2.2.2.1 g1 g2 g3 g4 g5 g6 hR (by omega) (by omega) hk
      by_cases c13 : sv = 13
      · refine l_tin (off := 551) (tgt := 591) X dL_law_40 (by rw [c13]; decide) (by rw [c13]; decide) (by rw [c13]; rfl) (by decide) ?_
        exact lc_each X hnt hX hbl hbA hSt.2.2.2.2.2.2.2.2.2.2.2.2.2.1 g1 g2 g3 g4 g5 g6 hR (by omega) (by omega) hk
      by_cases c14 : sv = 14
      · refine l_tin (off := 576) (tgt := 616) X dL_law_40 (by rw [c14]; decide) (by rw [c14]; decide) (by rw [c14]; rfl) (by decide) ?_
        exact lc_open X hnt hX hbl hbA hSt.2.2.2.2.2.2.2.2.2.2.2.2.2.2.1 g1 g2 g3 g4 g5 g6 hR (by omega) (by omega) hk
      by_cases c15 : sv = 15
      · refine l_tin (off := 613) (tgt := 653) X dL_law_40 (by rw [c15]; decide) (by rw [c15]; decide) (by rw [c15]; rfl) (by decide) ?_
        exact lc_undo X hnt hX hbl hbA hSt.2.2.2.2.2.2.2.2.2.2.2.2.2.2.2.1 g1 g2 g3 g4 g5 g6 hR (by omega) (by omega) hk
      by_cases c16 : sv = 16
      · refine l_tin (off := 626) (tgt := 666) X dL_law_40 (by rw [c16]; decide) (by rw [c16]; decide) (by rw [c16]; rfl) (by decide) ?_
        exact lc_judged X hnt hX hbl hbA hSt.2.2.2.2.2.2.2.2.2.2.2.2.2.2.2.2.1 g1 g2 g3 g4 g5 g6 hR (by omega) (by omega) hk
      by_cases c17 : sv = 17
      · refine l_tin (off := 682) (tgt := 722) X dL_law_40 (by rw [c17]; decide) (by rw [c17]; decide) (by rw [c17]; rfl) (by decide) ?_
        exact lc_best X hnt hX hbl hbA hSt.2.2.2.2.2.2.2.2.2.2.2.2.2.2.2.2.2.1 g1 g2 g3 g4 g5 g6 hR (by omega) (by omega) hk
      by_cases c18 : sv = 18
      · refine l_tin (off := 738) (tgt := 778) X dL_law_40 (by rw [c18]; decide) (by rw [c18]; decide) (by rw [c18]; rfl) (by decide) ?_
        exact lc_hours X hnt hX hbl hbA hSt.2.2.2.2.2.2.2.2.2.2.2.2.2.2.2.2.2.2.1 g1 g2 g3 g4 g5 g6 hR (by omega) (by omega) hk
      by_cases c19 : sv = 19
      · refine l_tin (off := 763) (tgt := 803) X dL_law_40 (by rw [c19]; decide) (by rw [c19]; decide) (by rw [c19]; rfl) (by decide) ?_
        exact lc_when X hnt hX hbl hbA hSt.2.2.2.2.2.2.2.2.2.2.2.2.2.2.2.2.2.2.2.1 g1 g2 g3 g4 g5 g6 hR (by omega) (by omega) hk
      by_cases c20 : sv = 20
      · refine l_tin (off := 831) (tgt := 871) X dL_law_40 (by rw [c20]; decide) (by rw [c20]; decide) (by rw [c20]; rfl) (by decide) ?_
        exact lc_lasts X hnt hX hbl hbA hSt.2.2.2.2.2.2.2.2.2.2.2.2.2.2.2.2.2.2.2.2.1 g1 g2 g3 g4 g5 g6 hR (by omega) (by omega) hk
      by_cases c21 : sv = 21
      · refine l_tin (off := 856) (tgt := 896) X dL_law_40 (by rw [c21]; decide) (by rw [c21]; decide) (by rw [c21]; rfl) (by decide) ?_
        exact lc_without X hnt hX hbl hbA hSt.2.2.2.2.2.2.2.2.2.2.2.2.2.2.2.2.2.2.2.2.2.1 g1 g2 g3 g4 g5 g6 hR (by omega) (by omega) hk
      by_cases c22 : sv = 22
      · refine l_tin (off := 912) (tgt := 952) X dL_law_40 (by rw [c22]; decide) (by rw [c22]; decide) (by rw [c22]; rfl) (by decide) ?_
        exact lc_rarer X hnt hX hbl hbA hSt.2.2.2.2.2.2.2.2.2.2.2.2.2.2.2.2.2.2.2.2.2.2.1 g1 g2 g3 g4 g5 g6 hR (by omega) (by omega) hk
      by_cases c23 : sv = 23
      · refine l_tin (off := 937) (tgt := 977) X dL_law_40 (by rw [c23]; decide) (by rw [c23]; decide) (by rw [c23]; rfl) (by decide) ?_
        exact lc_dare X hnt hX hbl hbA hSt.2.2.2.2.2.2.2.2.2.2.2.2.2.2.2.2.2.2.2.2.2.2.2.1 g1 g2 g3 g4 g5 g6 hR (by omega) (by omega) hk
      by_cases c24 : sv = 24
      · refine l_tin (off := 962) (tgt := 1002) X dL_law_40 (by rw [c24]; decide) (by rw [c24]; decide) (by rw [c24]; rfl) (by decide) ?_
        exact lc_strikes X hnt hX hbl hbA hSt.2.2.2.2.2.2.2.2.2.2.2.2.2.2.2.2.2.2.2.2.2.2.2.2.1 g1 g2 g3 g4 g5 g6 hR (by omega) (by omega) hk
      by_cases c25 : sv = 25
      · refine l_tin (off := 999) (tgt := 1039) X dL_law_40 (by rw [c25]; decide) (by rw [c25]; decide) (by rw [c25]; rfl) (by decide) ?_
        exact lc_find X hnt hX hbl hbA hSt.2.2.2.2.2.2.2.2.2.2.2.2.2.2.2.2.2.2.2.2.2.2.2.2.2.1 g1 g2 g3 g4 g5 g6 hR (by omega) (by omega) hk
      by_cases c26 : sv = 26
      · refine l_tin (off := 1036) (tgt := 1076) X dL_law_40 (by rw [c26]; decide) (by rw [c26]; decide) (by rw [c26]; rfl) (by decide) ?_
        exact lc_sets X hnt hX hbl hbA hSt.2.2.2.2.2.2.2.2.2.2.2.2.2.2.2.2.2.2.2.2.2.2.2.2.2.2.1 g1 g2 g3 g4 g5 g6 hR (by omega) (by omega) hk
      by_cases c27 : sv = 27
      · refine l_tin (off := 1061) (tgt := 1101) X dL_law_40 (by rw [c27]; decide) (by rw [c27]; decide) (by rw [c27]; rfl) (by decide) ?_
        exact lc_look X hnt hX hbl hbA hSt.2.2.2.2.2.2.2.2.2.2.2.2.2.2.2.2.2.2.2.2.2.2.2.2.2.2.2.1 g1 g2 g3 g4 g5 g6 hR (by omega) (by omega) hk
      by_cases c28 : sv = 28
      · refine l_tin (off := 1074) (tgt := 1114) X dL_law_40 (by rw [c28]; decide) (by rw [c28]; decide) (by rw [c28]; rfl) (by decide) ?_
        exact lc_share X hnt hX hbl hbA hSt.2.2.2.2.2.2.2.2.2.2.2.2.2.2.2.2.2.2.2.2.2.2.2.2.2.2.2.2.1 g1 g2 g3 g4 g5 g6 hR (by omega) (by omega) hk
      by_cases c29 : sv = 29
      · refine l_tin (off := 1099) (tgt := 1139) X dL_law_40 (by rw [c29]; decide) (by rw [c29]; decide) (by rw [c29]; rfl) (by decide) ?_
        exact lc_rests X hnt hX hbl hbA hSt.2.2.2.2.2.2.2.2.2.2.2.2.2.2.2.2.2.2.2.2.2.2.2.2.2.2.2.2.2.1 g1 g2 g3 g4 g5 g6 hR (by omega) (by omega) hk
      by_cases c30 : sv = 30
      · refine l_tin (off := 1191) (tgt := 1231) X dL_law_40 (by rw [c30]; decide) (by rw [c30]; decide) (by rw [c30]; rfl) (by decide) ?_
        exact lc_rule X hnt hX hbl hbA hSt.2.2.2.2.2.2.2.2.2.2.2.2.2.2.2.2.2.2.2.2.2.2.2.2.2.2.2.2.2.2.1 g1 g2 g3 g4 g5 g6 hR (by omega) (by omega) hk
      by_cases c31 : sv = 31
      · refine l_tin (off := 1259) (tgt := 1299) X dL_law_40 (by rw [c31]; decide) (by rw [c31]; decide) (by rw [c31]; rfl) (by decide) ?_
        exact lc_months X hnt hX hbl hbA hSt.2.2.2.2.2.2.2.2.2.2.2.2.2.2.2.2.2.2.2.2.2.2.2.2.2.2.2.2.2.2.2.1 g1 g2 g3 g4 g5 g6 hR (by omega) (by omega) hk
      by_cases c32 : sv = 32
      · refine l_tin (off := 1339) (tgt := 1379) X dL_law_40 (by rw [c32]; decide) (by rw [c32]; decide) (by rw [c32]; rfl) (by decide) ?_
        exact lc_mark X hnt hX hbl hbA hSt.2.2.2.2.2.2.2.2.2.2.2.2.2.2.2.2.2.2.2.2.2.2.2.2.2.2.2.2.2.2.2.2.1 g1 g2 g3 g4 g5 g6 hR (by omega) (by omega) hk
      by_cases c33 : sv = 33
      · refine l_tin (off := 1392) (tgt := 1432) X dL_law_40 (by rw [c33]; decide) (by rw [c33]; decide) (by rw [c33]; rfl) (by decide) ?_
        exact lc_count X hnt hX hbl hbA hSt.2.2.2.2.2.2.2.2.2.2.2.2.2.2.2.2.2.2.2.2.2.2.2.2.2.2.2.2.2.2.2.2.2 g1 g2 g3 g4 g5 g6 hR (by omega) (by omega) hk
      refine l_tout (tgt := 1457) X dL_law_40 (tsw_out 34 (fun j hj => by rcases (show j = 0 ∨ j = 1 ∨ j = 2 ∨ j = 3 ∨ j = 4 ∨ j = 5 ∨ j = 6 ∨ j = 7 ∨ j = 8 ∨ j = 9 ∨ j = 10 ∨ j = 11 ∨ j = 12 ∨ j = 13 ∨ j = 14 ∨ j = 15 ∨ j = 16 ∨ j = 17 ∨ j = 18 ∨ j = 19 ∨ j = 20 ∨ j = 21 ∨ j = 22 ∨ j = 23 ∨ j = 24 ∨ j = 25 ∨ j = 26 ∨ j = 27 ∨ j = 28 ∨ j = 29 ∨ j = 30 ∨ j = 31 ∨ j = 32 ∨ j = 33 by omega) with rfl | rfl | rfl | rfl | rfl | rfl | rfl | rfl | rfl | rfl | rfl | rfl | rfl | rfl | rfl | rfl | rfl | rfl | rfl | rfl | rfl | rfl | rfl | rfl | rfl | rfl | rfl | rfl | rfl | rfl | rfl | rfl | rfl | rfl <;> assumption) (by decide)) (by decide) ?_
      exact l_widen (by omega) (by omega) (hk mP mM ov hR)
