/-! from the law's entry -/
theorem start_NB {s : State} {b : Nat} (hts : ∀ w ∈ lw_tbl, w.before #[Value.ref b] s = true) : NB s := fun w hw => va_Nw.of (List.all_eq_true.mp nst_t w hw) (hts w (nst_tbl w hw))
theorem no_traces {l : Launch} (h : l.flags = flags0) : l.stackTraces = false := by
  unfold Jvm.Launch.stackTraces
  rw [h]
  decide +kernel
theorem step_ok : StepOK Rel := ⟨st_feed, st_station, st_week, st_passer, st_tune, st_key, st_begins, st_ends, st_now, st_away, st_joy, st_day, st_mend, st_each, st_open, st_undo, st_judged, st_best, st_hours, st_when, st_lasts, st_without, st_rarer, st_dare, st_strikes, st_find, st_sets, st_look, st_share, st_rests, st_rule, st_months, st_mark, st_count⟩
theorem wlF_A {Λ : Ly} {ad : Nat → Nat} {cy : Nat → ClassId} {m : Mm} {fl : Fl} {k0 sz q : Nat} (h : va_A (wlF Λ ad cy m fl k0) sz q) : (∃ i, i < k0 ∧ q = ad i) ∨ sz ≤ q := by
  rcases h with ⟨k, e, h⟩ | h
  · by_cases hj : k < k0
    · rw [wlF_get ad cy m fl hj] at h
      exact Or.inl ⟨k, hj, congrArg Prod.fst (Option.some.inj h).symm⟩
    · simp [wlF, hj] at h
  · exact Or.inr h
section StartRows
variable {p : Program} {l : Launch} {e : Env} {R : Room} {s : State} {m : MethodId} {args : Array Value} {below : List Frame} {meth : Method} {c : Code} {cc : ByteArray} {nL : Nat} {own : String} {ret : Option FieldType} {Q : State → Prop} {A : Nat → Prop} {dC : Nat → ClassId} {dI : Nat → Nat → Nat} {cy : Nat → ClassId} {Λ : Ly} {ad : Nat → Nat} {ks : (Nat → Nat) × (Nat → Nat)} {k0 : Nat} {mem : Mm} {fl : Fl} {ce sl pc : Nat} {lv : List (Nat × Value)} {st : List Value}
theorem n_newZ (X : Cx p l e R s m args below meth c cc nL own ret A dC dI cy ks) {c2 index : Nat} {C : String} {T : u_T} {Nf : Nat} {ty0 : Nat → FieldType} {H : Heap} {locs : List Loc} {ls : Array Slot} (had : ∀ i, ad i = ad 0 + i) (hz : H.size = ad k0) (hk : Λ.1 k0 = c2) (h13 : c2 < 13) (hc : vwCl[c2]? = some (C, T, Nf)) (hin : ∀ w ∈ u_ws C T Nf, w ∈ uw) (hty : ∀ k, k < Nf → parseFieldDescriptor (T k).2.2.1 = some (ty0 k)) (hdf : ∀ j, j < Nf → defaultValue (ty0 j) = dfv ((fcl c2).getD j 0)) (hfl : (fcl c2).length = Nf) (w1 : Cond.classLink own index C ∈ uw) (w2 : Cond.instantiable C Nf ∈ uw) (w3 : Cond.initialized C ∈ uw) (hce : ce + 1 ≤ R.cells) (hsl : sl + Nf ≤ R.slots) (hd : decode cc pc = .ok (.new index, 3)) (hP : va_P (dC, dI) vwCl (wlF Λ ad cy mem fl k0) H) (hD : va_D A (wlF Λ ad cy mem fl k0)) (hS : va_S A s.heap H locs) (h : ∀ H1 : Heap, va_P (dC, dI) vwCl (wlF Λ ad cy (zr mem k0) (fZ fl k0 Nf) (k0 + 1)) H1 → va_D A (wlF Λ ad cy (zr mem k0) (fZ fl k0 Nf) (k0 + 1)) → va_S A s.heap H1 locs → (∀ q, q < ad k0 → H1[q]? = H[q]?) → H1.size = ad k0 + 1 → W p l e R s m args below meth c H1 locs (ce + 1) (sl + Nf) Q (F0 m (pc + 3) ls (.ref (ad k0) :: st))) : W p l e R s m args below meth c H locs ce sl Q (F0 m pc ls st) := by
  have hKn := X.2.2.2.2.2.1.1 c2 _ hc
  refine W.newcK X.1 X.2.1 X.2.2.2.1 (X.2.2.2.2.1 _ w1) (X.2.2.2.2.1 _ w2) (X.2.2.2.2.1 _ w3) rfl hd hce hsl hKn.2.1 hz fun H1 kC hkC e1 z1 o1 => ?_
  obtain ⟨q1, q2, q3⟩ := al_P (mem' := zr mem k0) (fl' := fZ fl k0 Nf) (n := 1) had hP hD hS X.2.2.2.2.2.2.2.1 hz z1 o1 (fun i hi => by
    rw [show i = 0 by omega]
    show va_at _ _ (ad k0, celF Λ ad cy (zr mem k0) (fZ fl k0 Nf) k0) H1
    rw [celF_O ad cy _ _ hk h13]
    exact ⟨_, hc, (u_born ty0 X.2.2.2.2.1 hin hKn hkC e1 hty).to (fun j hj => (hdf j hj).trans (fsF_new ad mem fl c2 k0 Nf (Nat.le_of_eq hfl) (by rw [hfl]; exact hj)))⟩) (fun j hj => cF_zr (by omega))
  exact h H1 q1 q2 q3 o1 z1
end StartRows
theorem lmk0 : Lm.1 0 = 12 := rfl
theorem nil_P {D : va_G} {Λ : Ly} {ad : Nat → Nat} {cy : Nat → ClassId} {m : Mm} {fl : Fl} {H : Heap} : va_P D vwCl (wlF Λ ad cy m fl 0) H := fun k q h => by simp [wlF] at h
theorem nil_D {A : Nat → Prop} {Λ : Ly} {ad : Nat → Nat} {cy : Nat → ClassId} {m : Mm} {fl : Fl} : va_D A (wlF Λ ad cy m fl 0) := ⟨fun i j p q h => by simp [wlF] at h, fun k q h => by simp [wlF] at h⟩
set_option maxHeartbeats 4000000 in
theorem whole_start {p : Program} {e : Env} {s : State} {m : MethodId} {below : List Frame} {meth : Method} {c : Code} (l : Launch) (hflags : l.flags = flags0) {b L : Nat} {xs : Nat → Int32} (hL : L ≤ 3584) (C0 : lw_At p s m meth c b L xs) : W p l e room_1 s m #[Value.ref b] below meth c s.heap [] 0 0 (lw_Z below #[Value.ref b] s) (entryFrame m ([Value.ref b] : List Value).toArray 7) := by
  obtain ⟨hx, hb, hr, hml, hown, hts, hX, hbl, hlocks, hgv⟩ := id C0
  have hnt := no_traces hflags
  obtain ⟨ks, hE⟩ := start_EX hts hgv
  have hXT := start_XT hts hgv
  have hAO := start_AO hts
  have hNB := start_NB hts
  obtain ⟨dC, dI, cy, hK⟩ := start_K hts
  obtain ⟨mv0, mv1, i1, i2, hRel⟩ := init_ok
  have htu : ∀ w ∈ uw, w.before #[Value.ref b] s = true := fun w hw => hts w (List.mem_filter.mp hw).1
  have X : Cx p l e room_1 s m #[Value.ref b] below meth c cL_law 7 RL ret (fun q : Nat => s.heap.size ≤ q) dC dI cy ks := ⟨hx, hb, hml, hown, htu, hK, hNB, fun q h => h, hr, hlocks, hE⟩
  have XL : CxL p l e room_1 s m #[Value.ref b] below meth c cL_law 7 RL (fun q : Nat => s.heap.size ≤ q) dC dI cy ks s.heap.size := ⟨hx, hb, hml, hown, htu, hK, hNB, fun q h => by show s.heap.size ≤ q; omega, hE, hXT, hnt⟩
  have hadP : ∀ i, aP s.heap.size i = aP s.heap.size 0 + i := fun i => by unfold aP; omega
  have hadM : ∀ i, aM s.heap.size i = aM s.heap.size 0 + i := fun i => by unfold aM; omega
  have hl := lv_entry ([.ref b]) (n := 7) (Nat.le_of_ble_eq_true rfl)
  rw [lg_entry_eq]
  generalize (lg_sl ([.ref b]) ++ List.replicate (7 - (lg_sl ([.ref b])).length) Slot.unset).toArray = ls at hl ⊢
  have hl : lv_has ls 7 [(0, .ref b)] := hl
  refine n_newZ X (Λ := Lp) (ad := aP s.heap.size) (k0 := 0) (mem := m00) (fl := f00) (Nf := 17) (ty0 := tyX11) hadP rfl Lpk_0 (by decide) rfl ui_11 tyX11_ok df_11 rfl uw1_25 uw1_26 uw1_1 (Nat.le_of_ble_eq_true rfl) (Nat.le_of_ble_eq_true rfl) dL_law_0 nil_P nil_D va_S.rf (fun H hP hD hS _ _ => ?_)
  have j3 : JdF p l e room_1 s m #[Value.ref b] below meth c 7 (lw_Z below #[Value.ref b] s) (fun q : Nat => s.heap.size ≤ q) dC dI cy Lp (aP s.heap.size) 1 (zr m00 0) (fZ f00 0 17) 1 17 3 [(0, .ref b)] [.ref (aP s.heap.size 0)] := by
    refine n_dup X dL_law_3 rfl ?_
    refine n_cI X (i := 0) (As := []) (rest := [.ref (aP s.heap.size 0)]) hAO (by decide) hadP rfl (kn_11 hadP) uw1_27 uw1_28 uw1_1 uw1_29 rfl rfl rfl dn_11 ⟨Nat.le_of_ble_eq_true rfl, Nat.le_of_ble_eq_true rfl⟩ rfl (Nat.le_of_ble_eq_true rfl) (Nat.le_of_ble_eq_true rfl) (Nat.le_of_ble_eq_true rfl) dL_law_4 rfl ?_
    refine n_astore_n (lv2 := [(1, .ref (aP s.heap.size 0)), (0, .ref b)]) X (i := 1) dL_law_7 rfl (by decide) rfl ?_
    intro H locs ls hP hD hS hL7
    refine w_size (fun hle => ?_)
    have hz : H.size = aP s.heap.size 166 := sz_eq (by decide) hadP rfl hP hle
    have hz' : H.size = aM s.heap.size 0 := hz
    have hPp : va_P (dC, dI) vwCl (wld Lp (aP s.heap.size) cy (im_11 (zr m00 0))) H := by
      rw [← lp_full (fl := fZ f00 0 17)]
      exact hP
    refine n_newZ X (Λ := Lm) (ad := aM s.heap.size) (k0 := 0) (mem := m00) (fl := f00) (Nf := 67) (ty0 := tyX12) hadM hz' lmk0 (by decide) rfl ui_12 tyX12_ok df_12 rfl uw5_206 uw5_207 uw1_13 (Nat.le_of_ble_eq_true rfl) (Nat.le_of_ble_eq_true rfl) dL_law_8 nil_P nil_D hS (fun H1 q1 q2 hS1 o1 z1 => ?_)
    have hPp1 : va_P (dC, dI) vwCl (wld Lp (aP s.heap.size) cy (im_11 (zr m00 0))) H1 := wld_kept hPp (fun i hi _ => o1 _ (by have hi : i < 166 := hi; unfold aP aM; omega))
    refine lv_dup hx hb dL_law_11 rfl ?_
    have hz1 : H1.size = aM s.heap.size 1 := z1
    have hFr := fr_in q1 q2 hS1 (fun q h => h)
    rw [hz1] at hFr
    refine va_callv (va_runI (As := []) (rest := [.ref (aM s.heap.size 0)]) ⟨hx, hb, hml, hown, htu⟩ (kn_12 hadM i1 i2) ⟨callB_of 0 htu (good_of uw5_210) rfl rfl rfl (htu _ uw1_13) (htu _ uw5_208) dn_12 ⟨Nat.le_of_ble_eq_true rfl, Nat.le_of_ble_eq_true rfl⟩, rfl, htu _ uw5_209⟩ ⟨prn_blind, fun U hU hW => ⟨rfl, by rw [hU]; exact hz1, by rw [hU]; exact q1, va_K.moved hW.alike hK, q2.weaken (fun _ _ _ _ => trivial), NB.warm hW hNB, EX.step hE hS1 hFr hU hW, AO.warm hW hAO⟩⟩ rfl rfl hL7.1 rfl (lv_room (Nat.le_of_ble_eq_true rfl)) dL_law_12 ⟨Nat.le_of_ble_eq_true rfl, Nat.le_of_ble_eq_true rfl⟩) hS1 (fun q _ z => hFr q z) hFr (fun u t H2 locs2 ht hvm hw hB hz2 hk2 hS2 => ?_)
    have hPm : va_P (dC, dI) vwCl (wld Lm (aM s.heap.size) cy mv1) H2 := by
      rw [← lm_full (fl := fZ f00 0 67), ← ht]
      exact hB.1
    have hPp2 : va_P (dC, dI) vwCl (wld Lp (aP s.heap.size) cy (im_11 (zr m00 0))) H2 := wld_kept hPp1 (fun i hi hlt => hk2 _ hlt (fun z => by
      have hi : i < 166 := hi
      rcases wlF_A z with ⟨j, hj, hz⟩ | z
      · unfold aP aM at hz
        omega
      · unfold aP aM at z
        omega))
    refine lv_astore_n (lv' := [(2, .ref (aM s.heap.size 0)), (1, .ref (aP s.heap.size 0)), (0, .ref b)]) hx hb dL_law_15 rfl hL7 (by decide) rfl (fun ls hl => ?_)
    refine lv_iconst (v := 1) hx hb dL_law_16 (by decide) ?_
    refine w_size (fun hle2 => ?_)
    have hlow := (hPm 47 _ (wld_get (aM s.heap.size) cy mv1 (show 47 < Lm.2.2 by decide))).lt
    have hz3 : H2.size = s.heap.size + 214 := by
      have h1 : aM s.heap.size 47 < H2.size := hlow
      unfold aM at h1
      omega
    refine va_newaK (atype := .long) hx hb (htu _ uw1_116) rfl dL_law_17 rfl (by decide) (N := 1) rfl (Nat.le_of_ble_eq_true rfl) (Nat.le_of_ble_eq_true rfl) (Nat.le_of_ble_eq_true rfl) hz3 fun H3 cA e1 z3 o3 hAr hNm => ?_
    have hcA : cA = cy 15 := Option.some.inj (hNm.symm.trans (hK.2 2 _ rfl).2)
    subst hcA
    have hO : H3[s.heap.size + 214]? = some (oC cy 0) := by
      rw [e1]
      exact congrArg some (arrV_cong (g := fun j => Value.long 0) (fun j _ => rfl))
    have hPp3 : va_P (dC, dI) vwCl (wld Lp (aP s.heap.size) cy (im_11 (zr m00 0))) H3 := wld_kept hPp2 (fun i hi _ => o3 _ (by have hi : i < 166 := hi; unfold aP; omega))
    have hPm3 : va_P (dC, dI) vwCl (wld Lm (aM s.heap.size) cy mv1) H3 := wld_kept hPm (fun i hi _ => o3 _ (by have hi : i < 48 := hi; unfold aM; omega))
    have hS3 : va_S (fun q : Nat => s.heap.size ≤ q) s.heap H3 locs2 := ⟨Nat.le_trans hS2.1 (by omega), fun x h1 h2 => by rw [o3 x (by have := hS2.1; omega)]; exact hS2.2.1 x h1 h2, hS2.2.2⟩
    refine lv_astore_n (lv' := [(3, .ref (s.heap.size + 214)), (2, .ref (aM s.heap.size 0)), (1, .ref (aP s.heap.size 0)), (0, .ref b)]) hx hb dL_law_19 rfl hl (by decide) rfl (fun ls hl => ?_)
    refine lv_iconst (v := 0) hx hb dL_law_20 (by decide) ?_
    refine lv_istore (lv' := [(4, .int 0), (3, .ref (s.heap.size + 214)), (2, .ref (aM s.heap.size 0)), (1, .ref (aP s.heap.size 0)), (0, .ref b)]) hx hb dL_law_21 hl (by decide) rfl (fun ls hl => ?_)
    exact law_loop hL hnt XL hr hlocks hX hbl step_ok (L + 1) 0 _ _ 0 (by omega) (by omega) hRel H3 locs2 ls ⟨hPp3, hPm3, hO⟩ hS3 (lv_sub hl [4, 3, 2, 1, 0] rfl)
  exact j3 H [] ls hP hD hS hl
