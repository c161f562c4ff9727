/-! a line of a station -/
theorem sl_0 {s : Nat} {m : Mm} (h : gI m 1 2 = nI 0) : f_X5_stationLine s m = (bdI (f_X5_tuneLine s m) fun x2 m1 => if x2 = 0 then (grd (bok ((0))) (some ((0), m1))) else (bdI (f_X5_take ((59)) m1) fun x4 m3 => if x4 = 0 then (grd (bok ((0))) (some ((0), m3))) else (grd (bok ((1))) (some ((1), m3))))) := by
  unfold f_X5_stationLine
  rw [h, if_pos (show nI 0 = 0 from rfl)]
theorem sl_1 {s : Nat} {m : Mm} (h : gI m 1 2 = nI 1) : f_X5_stationLine s m = (bdI (f_X5_passerLine s m) fun x6 m5 => if x6 = 0 then (grd (bok ((0))) (some ((0), m5))) else (bdI (f_X5_take ((59)) m5) fun x8 m7 => if x8 = 0 then (grd (bok ((0))) (some ((0), m7))) else (grd (bok ((1))) (some ((1), m7))))) := by
  unfold f_X5_stationLine
  rw [h, if_neg (show ¬ nI 1 = 0 by decide), if_pos (show nI 1 = 1 from rfl)]
theorem sl_7 {s : Nat} {m : Mm} (h : gI m 1 2 = nI 7) : f_X5_stationLine s m = (bdI (f_X5_toldFirst s m) fun x10 m9 => if x10 = 0 then (grd (bok ((0))) (some ((0), m9))) else (bdI (f_X5_waitsTold s m9) fun x12 m11 => if x12 = 0 then (grd (bok ((0))) (some ((0), m11))) else (bdI (f_X5_take ((59)) m11) fun x14 m13 => if x14 = 0 then (grd (bok ((0))) (some ((0), m13))) else (grd (bok ((1))) (some ((1), m13)))))) := by
  unfold f_X5_stationLine
  rw [h, if_neg (show ¬ nI 7 = 0 by decide), if_neg (show ¬ nI 7 = 1 by decide), if_neg (show ¬ nI 7 = 2 by decide), if_neg (show ¬ nI 7 = 3 by decide), if_neg (show ¬ nI 7 = 4 by decide), if_neg (show ¬ nI 7 = 5 by decide), if_neg (show ¬ nI 7 = 6 by decide), if_pos (show nI 7 = 7 from rfl)]
theorem sl_8 {s : Nat} {m : Mm} (h : gI m 1 2 = nI 8) : f_X5_stationLine s m = (bdI (f_X5_toldFirst s m) fun x16 m15 => if x16 = 0 then (grd (bok ((0))) (some ((0), m15))) else (bdI (f_X5_eachTold s m15) fun x18 m17 => if x18 = 0 then (grd (bok ((0))) (some ((0), m17))) else (bdI (f_X5_take ((59)) m17) fun x20 m19 => if x20 = 0 then (grd (bok ((0))) (some ((0), m19))) else (grd (bok ((1))) (some ((1), m19)))))) := by
  unfold f_X5_stationLine
  rw [h, if_neg (show ¬ nI 8 = 0 by decide), if_neg (show ¬ nI 8 = 1 by decide), if_neg (show ¬ nI 8 = 2 by decide), if_neg (show ¬ nI 8 = 3 by decide), if_neg (show ¬ nI 8 = 4 by decide), if_neg (show ¬ nI 8 = 5 by decide), if_neg (show ¬ nI 8 = 6 by decide), if_neg (show ¬ nI 8 = 7 by decide), if_pos (show nI 8 = 8 from rfl)]
theorem sl_9 {s : Nat} {m : Mm} (h : gI m 1 2 = nI 9) : f_X5_stationLine s m = (bdI (f_X5_toldFirst s m) fun x22 m21 => if x22 = 0 then (grd (bok ((0))) (some ((0), m21))) else (bdI (f_X5_hoursTold s m21) fun x24 m23 => if x24 = 0 then (grd (bok ((0))) (some ((0), m23))) else (bdI (f_X5_take ((59)) m23) fun x26 m25 => if x26 = 0 then (grd (bok ((0))) (some ((0), m25))) else (grd (bok ((1))) (some ((1), m25)))))) := by
  unfold f_X5_stationLine
  rw [h, if_neg (show ¬ nI 9 = 0 by decide), if_neg (show ¬ nI 9 = 1 by decide), if_neg (show ¬ nI 9 = 2 by decide), if_neg (show ¬ nI 9 = 3 by decide), if_neg (show ¬ nI 9 = 4 by decide), if_neg (show ¬ nI 9 = 5 by decide), if_neg (show ¬ nI 9 = 6 by decide), if_neg (show ¬ nI 9 = 7 by decide), if_neg (show ¬ nI 9 = 8 by decide), if_pos (show nI 9 = 9 from rfl)]
theorem sl_11 {s : Nat} {m : Mm} (h : gI m 1 2 = nI 11) : f_X5_stationLine s m = (bdI (f_X5_toldFirst s m) fun x28 m27 => if x28 = 0 then (grd (bok ((0))) (some ((0), m27))) else (bdI (f_X5_priceTold s m27) fun x30 m29 => if x30 = 0 then (grd (bok ((0))) (some ((0), m29))) else (bdI (f_X5_take ((59)) m29) fun x32 m31 => if x32 = 0 then (grd (bok ((0))) (some ((0), m31))) else (grd (bok ((1))) (some ((1), m31)))))) := by
  unfold f_X5_stationLine
  rw [h, if_neg (show ¬ nI 11 = 0 by decide), if_neg (show ¬ nI 11 = 1 by decide), if_neg (show ¬ nI 11 = 2 by decide), if_neg (show ¬ nI 11 = 3 by decide), if_neg (show ¬ nI 11 = 4 by decide), if_neg (show ¬ nI 11 = 5 by decide), if_neg (show ¬ nI 11 = 6 by decide), if_neg (show ¬ nI 11 = 7 by decide), if_neg (show ¬ nI 11 = 8 by decide), if_neg (show ¬ nI 11 = 9 by decide), if_neg (show ¬ nI 11 = 10 by decide), if_pos (show nI 11 = 11 from rfl)]
theorem sl_12 {s : Nat} {m : Mm} (h : gI m 1 2 = nI 12) : f_X5_stationLine s m = (bdI (f_X5_toldFirst s m) fun x34 m33 => if x34 = 0 then (grd (bok ((0))) (some ((0), m33))) else (bdI (f_X5_expression (s + 10) ((0)) ((0)) m33) fun x36 m35 => if x36 = 0 then (grd (bok ((0))) (some ((0), m35))) else (bdI (f_X5_take ((59)) m35) fun x38 m37 => if x38 = 0 then (grd (bok ((0))) (some ((0), m37))) else (grd (bok ((1))) (some ((1), m37)))))) := by
  unfold f_X5_stationLine
  rw [h, if_neg (show ¬ nI 12 = 0 by decide), if_neg (show ¬ nI 12 = 1 by decide), if_neg (show ¬ nI 12 = 2 by decide), if_neg (show ¬ nI 12 = 3 by decide), if_neg (show ¬ nI 12 = 4 by decide), if_neg (show ¬ nI 12 = 5 by decide), if_neg (show ¬ nI 12 = 6 by decide), if_neg (show ¬ nI 12 = 7 by decide), if_neg (show ¬ nI 12 = 8 by decide), if_neg (show ¬ nI 12 = 9 by decide), if_neg (show ¬ nI 12 = 10 by decide), if_neg (show ¬ nI 12 = 11 by decide), if_pos (show nI 12 = 12 from rfl)]
theorem sl_13 {s : Nat} {m : Mm} (h : gI m 1 2 = nI 13) : f_X5_stationLine s m = (bdI (f_X5_toldFirst s m) fun x40 m39 => if x40 = 0 then (grd (bok ((0))) (some ((0), m39))) else (bdI (f_X5_expression (s + 13) ((0)) ((0)) m39) fun x42 m41 => if x42 = 0 then (grd (bok ((0))) (some ((0), m41))) else (bdI (f_X5_take ((59)) m41) fun x44 m43 => if x44 = 0 then (grd (bok ((0))) (some ((0), m43))) else (grd (bok ((1))) (some ((1), m43)))))) := by
  unfold f_X5_stationLine
  rw [h, if_neg (show ¬ nI 13 = 0 by decide), if_neg (show ¬ nI 13 = 1 by decide), if_neg (show ¬ nI 13 = 2 by decide), if_neg (show ¬ nI 13 = 3 by decide), if_neg (show ¬ nI 13 = 4 by decide), if_neg (show ¬ nI 13 = 5 by decide), if_neg (show ¬ nI 13 = 6 by decide), if_neg (show ¬ nI 13 = 7 by decide), if_neg (show ¬ nI 13 = 8 by decide), if_neg (show ¬ nI 13 = 9 by decide), if_neg (show ¬ nI 13 = 10 by decide), if_neg (show ¬ nI 13 = 11 by decide), if_neg (show ¬ nI 13 = 12 by decide), if_pos (show nI 13 = 13 from rfl)]
theorem sl_no {s t : Nat} {m : Mm} (h : gI m 1 2 = nI t) (ht : t ≤ 102) (hn : ¬ t = 0 ∧ ¬ t = 1 ∧ ¬ t = 7 ∧ ¬ t = 8 ∧ ¬ t = 9 ∧ ¬ t = 11 ∧ ¬ t = 12 ∧ ¬ t = 13) : f_X5_stationLine s m = f_X5_stationLine_J318 s m := by
  obtain ⟨n0, n1, n7, n8, n9, n11, n12, n13⟩ := hn
  unfold f_X5_stationLine
  rw [h, if_neg (show ¬ nI t = 0 from so_t 0 ht (by decide) n0), if_neg (show ¬ nI t = 1 from so_t 1 ht (by decide) n1)]
  refine kpt (fun _ => kpt (fun _ => kpt (fun _ => kpt (fun _ => kpt (fun _ => ?_)))))
  rw [if_neg (show ¬ nI t = 7 from so_t 7 ht (by decide) n7), if_neg (show ¬ nI t = 8 from so_t 8 ht (by decide) n8), if_neg (show ¬ nI t = 9 from so_t 9 ht (by decide) n9)]
  refine kpt (fun _ => ?_)
  rw [if_neg (show ¬ nI t = 11 from so_t 11 ht (by decide) n11), if_neg (show ¬ nI t = 12 from so_t 12 ht (by decide) n12), if_neg (show ¬ nI t = 13 from so_t 13 ht (by decide) n13)]
theorem nz_k {T : Nat → Nat} {n : Nat} {d : Tk} (ok : TkOK T n d) (h : tkK d ≠ 0) : ¬ nI (tkK d) = 0 := by
  have k4 := ok.2.2.1
  rw [nz_eq _ (by omega)]
  exact h
theorem mb_0 {T : Nat → Nat} {n : Nat} {d : Tk} {mM : Mm} {r : Int32 × Mm} (ok : TkOK T n d) (hM : RdM T n d mM) (hz : tkK d = 1) (hw : wid (tkR d) = 0) (e : f_X12_readsTune mM = some r) : ∀ k52, f_X12_readsAll_B52 k52 mM = f_X12_readsAll_J216 k52 r.1 r.2 := by
  intro k52
  have ne1 : ¬ (1 : Int32) = 0 := by decide
  have i0 := isWordM ok hM (k := 0) (by decide) kq_0
  rw [show isW d 0 = true from decide_eq_true ⟨hz, hw⟩, bO_t] at i0
  unfold f_X12_readsAll_B52
  rw [hM.2.2.2.1, if_neg (nz_k ok (by omega)), i0, bdI_e, if_neg ne1, e, bdI_e]
theorem mb_1 {T : Nat → Nat} {n : Nat} {d : Tk} {mM : Mm} {r : Int32 × Mm} (ok : TkOK T n d) (hM : RdM T n d mM) (hz : tkK d = 1) (hw : wid (tkR d) = 1) (e : f_X12_readsPasser mM = some r) : ∀ k52, f_X12_readsAll_B52 k52 mM = f_X12_readsAll_J216 k52 r.1 r.2 := by
  intro k52
  have ne1 : ¬ (1 : Int32) = 0 := by decide
  have i0 := isWordM ok hM (k := 0) (by decide) kq_0
  rw [show isW d 0 = false from decide_eq_false (fun q => by omega), bO_f] at i0
  have i1 := isWordM ok hM (k := 1) (by decide) kq_1
  rw [show isW d 1 = true from decide_eq_true ⟨hz, hw⟩, bO_t] at i1
  unfold f_X12_readsAll_B52
  rw [hM.2.2.2.1, if_neg (nz_k ok (by omega)), i0, bdI_e, if_pos rfl, i1, bdI_e, if_neg ne1, e, bdI_e]
theorem mb_7 {T : Nat → Nat} {n : Nat} {d : Tk} {mM : Mm} {r : Int32 × Mm} (ok : TkOK T n d) (hM : RdM T n d mM) (hz : tkK d = 1) (hw : wid (tkR d) = 7) (e : f_X12_readsOne 2 0 59 mM = some r) : ∀ k52, f_X12_readsAll_B52 k52 mM = f_X12_readsAll_J216 k52 r.1 r.2 := by
  intro k52
  have ne1 : ¬ (1 : Int32) = 0 := by decide
  have i0 := isWordM ok hM (k := 0) (by decide) kq_0
  rw [show isW d 0 = false from decide_eq_false (fun q => by omega), bO_f] at i0
  have i1 := isWordM ok hM (k := 1) (by decide) kq_1
  rw [show isW d 1 = false from decide_eq_false (fun q => by omega), bO_f] at i1
  have i2 := isWordM ok hM (k := 7) (by decide) kq_7
  rw [show isW d 7 = true from decide_eq_true ⟨hz, hw⟩, bO_t] at i2
  unfold f_X12_readsAll_B52
  rw [hM.2.2.2.1, if_neg (nz_k ok (by omega)), i0, bdI_e, if_pos rfl, i1, bdI_e, if_pos rfl, i2, bdI_e, if_neg ne1, e, bdI_e]
theorem mb_8 {T : Nat → Nat} {n : Nat} {d : Tk} {mM : Mm} {r : Int32 × Mm} (ok : TkOK T n d) (hM : RdM T n d mM) (hz : tkK d = 1) (hw : wid (tkR d) = 8) (e : f_X12_readsOne 3 1 30 mM = some r) : ∀ k52, f_X12_readsAll_B52 k52 mM = f_X12_readsAll_J216 k52 r.1 r.2 := by
  intro k52
  have ne1 : ¬ (1 : Int32) = 0 := by decide
  have i0 := isWordM ok hM (k := 0) (by decide) kq_0
  rw [show isW d 0 = false from decide_eq_false (fun q => by omega), bO_f] at i0
  have i1 := isWordM ok hM (k := 1) (by decide) kq_1
  rw [show isW d 1 = false from decide_eq_false (fun q => by omega), bO_f] at i1
  have i2 := isWordM ok hM (k := 7) (by decide) kq_7
  rw [show isW d 7 = false from decide_eq_false (fun q => by omega), bO_f] at i2
  have i3 := isWordM ok hM (k := 8) (by decide) kq_8
  rw [show isW d 8 = true from decide_eq_true ⟨hz, hw⟩, bO_t] at i3
  unfold f_X12_readsAll_B52
  rw [hM.2.2.2.1, if_neg (nz_k ok (by omega)), i0, bdI_e, if_pos rfl, i1, bdI_e, if_pos rfl, i2, bdI_e, if_pos rfl, i3, bdI_e, if_neg ne1, e, bdI_e]
theorem mb_9 {T : Nat → Nat} {n : Nat} {d : Tk} {mM : Mm} {r : Int32 × Mm} (ok : TkOK T n d) (hM : RdM T n d mM) (hz : tkK d = 1) (hw : wid (tkR d) = 9) (e : f_X12_readsOpen mM = some r) : ∀ k52, f_X12_readsAll_B52 k52 mM = f_X12_readsAll_J216 k52 r.1 r.2 := by
  intro k52
  have ne1 : ¬ (1 : Int32) = 0 := by decide
  have i0 := isWordM ok hM (k := 0) (by decide) kq_0
  rw [show isW d 0 = false from decide_eq_false (fun q => by omega), bO_f] at i0
  have i1 := isWordM ok hM (k := 1) (by decide) kq_1
  rw [show isW d 1 = false from decide_eq_false (fun q => by omega), bO_f] at i1
  have i2 := isWordM ok hM (k := 7) (by decide) kq_7
  rw [show isW d 7 = false from decide_eq_false (fun q => by omega), bO_f] at i2
  have i3 := isWordM ok hM (k := 8) (by decide) kq_8
  rw [show isW d 8 = false from decide_eq_false (fun q => by omega), bO_f] at i3
  have i4 := isWordM ok hM (k := 9) (by decide) kq_9
  rw [show isW d 9 = true from decide_eq_true ⟨hz, hw⟩, bO_t] at i4
  unfold f_X12_readsAll_B52
  rw [hM.2.2.2.1, if_neg (nz_k ok (by omega)), i0, bdI_e, if_pos rfl, i1, bdI_e, if_pos rfl, i2, bdI_e, if_pos rfl, i3, bdI_e, if_pos rfl, i4, bdI_e, if_neg ne1, e, bdI_e]
theorem mb_11 {T : Nat → Nat} {n : Nat} {d : Tk} {mM : Mm} {r : Int32 × Mm} (ok : TkOK T n d) (hM : RdM T n d mM) (hz : tkK d = 1) (hw : wid (tkR d) = 11) (e : f_X12_readsOne 6 0 999 mM = some r) : ∀ k52, f_X12_readsAll_B52 k52 mM = f_X12_readsAll_J216 k52 r.1 r.2 := by
  intro k52
  have ne1 : ¬ (1 : Int32) = 0 := by decide
  have i0 := isWordM ok hM (k := 0) (by decide) kq_0
  rw [show isW d 0 = false from decide_eq_false (fun q => by omega), bO_f] at i0
  have i1 := isWordM ok hM (k := 1) (by decide) kq_1
  rw [show isW d 1 = false from decide_eq_false (fun q => by omega), bO_f] at i1
  have i2 := isWordM ok hM (k := 7) (by decide) kq_7
  rw [show isW d 7 = false from decide_eq_false (fun q => by omega), bO_f] at i2
  have i3 := isWordM ok hM (k := 8) (by decide) kq_8
  rw [show isW d 8 = false from decide_eq_false (fun q => by omega), bO_f] at i3
  have i4 := isWordM ok hM (k := 9) (by decide) kq_9
  rw [show isW d 9 = false from decide_eq_false (fun q => by omega), bO_f] at i4
  have i5 := isWordM ok hM (k := 11) (by decide) kq_11
  rw [show isW d 11 = true from decide_eq_true ⟨hz, hw⟩, bO_t] at i5
  unfold f_X12_readsAll_B52
  rw [hM.2.2.2.1, if_neg (nz_k ok (by omega)), i0, bdI_e, if_pos rfl, i1, bdI_e, if_pos rfl, i2, bdI_e, if_pos rfl, i3, bdI_e, if_pos rfl, i4, bdI_e, if_pos rfl, i5, bdI_e, if_neg ne1, e, bdI_e]
theorem mb_12 {T : Nat → Nat} {n : Nat} {d : Tk} {mM : Mm} {r : Int32 × Mm} (ok : TkOK T n d) (hM : RdM T n d mM) (hz : tkK d = 1) (hw : wid (tkR d) = 12) (e : f_X12_readsLaw 0 mM = some r) : ∀ k52, f_X12_readsAll_B52 k52 mM = f_X12_readsAll_J216 k52 r.1 r.2 := by
  intro k52
  have ne1 : ¬ (1 : Int32) = 0 := by decide
  have i0 := isWordM ok hM (k := 0) (by decide) kq_0
  rw [show isW d 0 = false from decide_eq_false (fun q => by omega), bO_f] at i0
  have i1 := isWordM ok hM (k := 1) (by decide) kq_1
  rw [show isW d 1 = false from decide_eq_false (fun q => by omega), bO_f] at i1
  have i2 := isWordM ok hM (k := 7) (by decide) kq_7
  rw [show isW d 7 = false from decide_eq_false (fun q => by omega), bO_f] at i2
  have i3 := isWordM ok hM (k := 8) (by decide) kq_8
  rw [show isW d 8 = false from decide_eq_false (fun q => by omega), bO_f] at i3
  have i4 := isWordM ok hM (k := 9) (by decide) kq_9
  rw [show isW d 9 = false from decide_eq_false (fun q => by omega), bO_f] at i4
  have i5 := isWordM ok hM (k := 11) (by decide) kq_11
  rw [show isW d 11 = false from decide_eq_false (fun q => by omega), bO_f] at i5
  have i6 := isWordM ok hM (k := 12) (by decide) kq_12
  rw [show isW d 12 = true from decide_eq_true ⟨hz, hw⟩, bO_t] at i6
  unfold f_X12_readsAll_B52
  rw [hM.2.2.2.1, if_neg (nz_k ok (by omega)), i0, bdI_e, if_pos rfl, i1, bdI_e, if_pos rfl, i2, bdI_e, if_pos rfl, i3, bdI_e, if_pos rfl, i4, bdI_e, if_pos rfl, i5, bdI_e, if_pos rfl, i6, bdI_e, if_neg ne1, e, bdI_e]
theorem mb_13 {T : Nat → Nat} {n : Nat} {d : Tk} {mM : Mm} {r : Int32 × Mm} (ok : TkOK T n d) (hM : RdM T n d mM) (hz : tkK d = 1) (hw : wid (tkR d) = 13) (e : f_X12_readsLaw 1 mM = some r) : ∀ k52, f_X12_readsAll_B52 k52 mM = f_X12_readsAll_J216 k52 r.1 r.2 := by
  intro k52
  have ne1 : ¬ (1 : Int32) = 0 := by decide
  have i0 := isWordM ok hM (k := 0) (by decide) kq_0
  rw [show isW d 0 = false from decide_eq_false (fun q => by omega), bO_f] at i0
  have i1 := isWordM ok hM (k := 1) (by decide) kq_1
  rw [show isW d 1 = false from decide_eq_false (fun q => by omega), bO_f] at i1
  have i2 := isWordM ok hM (k := 7) (by decide) kq_7
  rw [show isW d 7 = false from decide_eq_false (fun q => by omega), bO_f] at i2
  have i3 := isWordM ok hM (k := 8) (by decide) kq_8
  rw [show isW d 8 = false from decide_eq_false (fun q => by omega), bO_f] at i3
  have i4 := isWordM ok hM (k := 9) (by decide) kq_9
  rw [show isW d 9 = false from decide_eq_false (fun q => by omega), bO_f] at i4
  have i5 := isWordM ok hM (k := 11) (by decide) kq_11
  rw [show isW d 11 = false from decide_eq_false (fun q => by omega), bO_f] at i5
  have i6 := isWordM ok hM (k := 12) (by decide) kq_12
  rw [show isW d 12 = false from decide_eq_false (fun q => by omega), bO_f] at i6
  have i7 := isWordM ok hM (k := 13) (by decide) kq_13
  rw [show isW d 13 = true from decide_eq_true ⟨hz, hw⟩, bO_t] at i7
  unfold f_X12_readsAll_B52
  rw [hM.2.2.2.1, if_neg (nz_k ok (by omega)), i0, bdI_e, if_pos rfl, i1, bdI_e, if_pos rfl, i2, bdI_e, if_pos rfl, i3, bdI_e, if_pos rfl, i4, bdI_e, if_pos rfl, i5, bdI_e, if_pos rfl, i6, bdI_e, if_pos rfl, i7, bdI_e, if_neg ne1, e, bdI_e]
theorem mb_no {T : Nat → Nat} {n : Nat} {d : Tk} {mM : Mm} (ok : TkOK T n d) (hM : RdM T n d mM) (hk0 : tkK d ≠ 0) (hn : ¬ (tkK d = 1 ∧ wid (tkR d) = 0) ∧ ¬ (tkK d = 1 ∧ wid (tkR d) = 1) ∧ ¬ (tkK d = 1 ∧ wid (tkR d) = 7) ∧ ¬ (tkK d = 1 ∧ wid (tkR d) = 8) ∧ ¬ (tkK d = 1 ∧ wid (tkR d) = 9) ∧ ¬ (tkK d = 1 ∧ wid (tkR d) = 11) ∧ ¬ (tkK d = 1 ∧ wid (tkR d) = 12) ∧ ¬ (tkK d = 1 ∧ wid (tkR d) = 13)) : ∀ k52, f_X12_readsAll_B52 k52 mM = f_X12_readsAll_J216 k52 0 (sI mM 0 9 (nI (1 + 16 * tkb d))) := by
  intro k52
  obtain ⟨n0, n1, n2, n3, n4, n5, n6, n7⟩ := hn
  have e2 : f_X12_fails 1 mM = some (0, sI mM 0 9 (nI (1 + 16 * tkb d))) := failsE hM 1
  have i0 := isWordM ok hM (k := 0) (by decide) kq_0
  rw [show isW d 0 = false from decide_eq_false n0, bO_f] at i0
  have i1 := isWordM ok hM (k := 1) (by decide) kq_1
  rw [show isW d 1 = false from decide_eq_false n1, bO_f] at i1
  have i2 := isWordM ok hM (k := 7) (by decide) kq_7
  rw [show isW d 7 = false from decide_eq_false n2, bO_f] at i2
  have i3 := isWordM ok hM (k := 8) (by decide) kq_8
  rw [show isW d 8 = false from decide_eq_false n3, bO_f] at i3
  have i4 := isWordM ok hM (k := 9) (by decide) kq_9
  rw [show isW d 9 = false from decide_eq_false n4, bO_f] at i4
  have i5 := isWordM ok hM (k := 11) (by decide) kq_11
  rw [show isW d 11 = false from decide_eq_false n5, bO_f] at i5
  have i6 := isWordM ok hM (k := 12) (by decide) kq_12
  rw [show isW d 12 = false from decide_eq_false n6, bO_f] at i6
  have i7 := isWordM ok hM (k := 13) (by decide) kq_13
  rw [show isW d 13 = false from decide_eq_false n7, bO_f] at i7
  unfold f_X12_readsAll_B52
  rw [hM.2.2.2.1, if_neg (nz_k ok hk0), i0, bdI_e, if_pos rfl, i1, bdI_e, if_pos rfl, i2, bdI_e, if_pos rfl, i3, bdI_e, if_pos rfl, i4, bdI_e, if_pos rfl, i5, bdI_e, if_pos rfl, i6, bdI_e, if_pos rfl, i7, bdI_e, if_pos rfl, e2, bdI_e]
theorem lineB {T : Nat → Nat} {n s : Nat} {d : Tk} {mP mM : Mm} (hT : TpOK T n) (ok : TkOK T n d) (hP : RdP T n d mP) (hM : RdM T n d mM) (hk0 : tkK d ≠ 0) (hD : Dft s d mP mM) : ∃ q q', f_X5_stationLine s mP = some q ∧ (∀ k52, f_X12_readsAll_B52 k52 mM = f_X12_readsAll_J216 k52 q'.1 q'.2) ∧ OuD T n (tkb d) s (Dft s) mP mM q q' := by
  obtain ⟨C, NT, NP, t0, t1, t2, t3, e0, e1, cp, hA, ⟨hx, hy⟩, h24, hcp, h0, h1, hf⟩ := hD
  have hs := hA.2.1
  obtain ⟨a1, a2, a3, a4, a5, a6⟩ := tP_t t0 t1 t2 t3 e0 e1
  obtain ⟨b1, b2, b3, b4, b5, b6⟩ := tP_s t0 t1 t2 t3 e0 e1
  obtain ⟨c1, c2, c3, c4⟩ := tM_t t0 t1 t2 t3
  obtain ⟨d1, d2, d3, d4⟩ := tM_s t0 t1 t2 t3
  have cw : ∀ k, k < 30 → tkK d = 1 ∧ wid (tkR d) = k → gI mP 1 2 = nI k := fun k hk h => by rw [hP.2.2.2.1, (ctk_w ok hk).mpr h]
  by_cases z0 : tkK d = 1 ∧ wid (tkR d) = 0
  · have z := z0
    obtain ⟨q, q', g1, g2, h⟩ := tuneB hT ok hP hM hk0 hA
    refine ⟨q, q', (sl_0 (cw 0 (by decide) z)).trans g1, mb_0 ok hM z.1 z.2 g2, h.mono (fun d' a c lt ⟨C', NT', x1, k, k5, x4, x5⟩ => ?_)⟩
    obtain ⟨k1, k2, k3, k4⟩ := keepL hs h0 h1 hf h24 (fun b k u => x4.1 _ _ (by unfold WTu WRP; omega)) (fun b k u => x5.1 _ _ (by unfold XTu WRM; omega))
    exact ⟨C', NT', NP, t0, t1, t2, t3, e0, e1, cp, x1, ⟨(x4.1 _ _ (by unfold WTu WRP; omega)).trans hx, (x5.1 _ _ (by unfold XTu WRM; omega)).trans hy⟩, k1, by omega, k2, k3, k4⟩
  · have := hk0
    by_cases z1 : tkK d = 1 ∧ wid (tkR d) = 1
    · have z := z1
      obtain ⟨q, q', g1, g2, h⟩ := passB hT ok hP hM hk0 hA
      refine ⟨q, q', (sl_1 (cw 1 (by decide) z)).trans g1, mb_1 ok hM z.1 z.2 g2, h.mono (fun d' a c lt ⟨C', NP', x1, k, p, k7, hp, x4, x5⟩ => ?_)⟩
      obtain ⟨k1, k2, k3, k4⟩ := keepL hs h0 h1 hf h24 (fun b k u => x4.1 _ _ (by unfold WPa WRP; omega)) (fun b k u => x5.1 _ _ (by unfold XPa WRM; omega))
      exact ⟨C', NT, NP', t0, t1, t2, t3, e0, e1, cp, x1, ⟨(x4.1 _ _ (by unfold WPa WRP; omega)).trans hx, (x5.1 _ _ (by unfold XPa WRM; omega)).trans hy⟩, k1, by omega, k2, k3, k4⟩
    · have := hk0
      by_cases z7 : tkK d = 1 ∧ wid (tkR d) = 7
      · have z := z7
        obtain ⟨q, q', g1, g2, h⟩ := oneL (i := 2) (k := 7) (lo := 0) (hi := 59) (told := t0) hT ok hP hM hA ((ctk_w ok (by decide)).mpr z) hk0 hx hy a1 c1 (by decide) (by decide) (by decide) (fun v v1 v2 => c0_ok hA.1 (Or.inl rfl) ⟨fun _ => v2, fun q => absurd q (by decide), fun q => absurd q (by decide)⟩)
        refine ⟨q, q', (sl_7 (cw 7 (by decide) z)).trans g1, mb_7 ok hM z.1 z.2 g2, h.mono (fun d' a c lt ⟨v, x1, x2, x3, x4, x5⟩ => ?_)⟩
        obtain ⟨k1, k2, k3, k4⟩ := keepL hs h0 h1 hf h24 (fun b k u => x4.1 _ _ (by unfold WRP; omega)) (fun b k u => x5.1 _ _ (by unfold WRM; omega))
        exact ⟨_, NT, NP, true, t1, t2, t3, e0, e1, cp, x1, ⟨x2.trans b1, x3.trans d1⟩, k1, by omega, k2, k3, k4⟩
      · have := hk0
        by_cases z8 : tkK d = 1 ∧ wid (tkR d) = 8
        · have z := z8
          obtain ⟨q, q', g1, g2, h⟩ := oneL (i := 3) (k := 8) (lo := 1) (hi := 30) (told := t1) hT ok hP hM hA ((ctk_w ok (by decide)).mpr z) hk0 hx hy a2 c2 (by decide) (by decide) (by decide) (fun v v1 v2 => c0_ok hA.1 (Or.inr (Or.inl rfl)) ⟨fun q => absurd q (by decide), fun _ => ⟨v1, v2⟩, fun q => absurd q (by decide)⟩)
          refine ⟨q, q', (sl_8 (cw 8 (by decide) z)).trans g1, mb_8 ok hM z.1 z.2 g2, h.mono (fun d' a c lt ⟨v, x1, x2, x3, x4, x5⟩ => ?_)⟩
          obtain ⟨k1, k2, k3, k4⟩ := keepL hs h0 h1 hf h24 (fun b k u => x4.1 _ _ (by unfold WRP; omega)) (fun b k u => x5.1 _ _ (by unfold WRM; omega))
          exact ⟨_, NT, NP, t0, true, t2, t3, e0, e1, cp, x1, ⟨x2.trans b2, x3.trans d2⟩, k1, by omega, k2, k3, k4⟩
        · have := hk0
          by_cases z9 : tkK d = 1 ∧ wid (tkR d) = 9
          · have z := z9
            obtain ⟨q, q', g1, g2, h⟩ := openL (told := t2) hT ok hP hM hA ((ctk_w ok (by decide)).mpr z) hk0 hx hy a3 c3
            refine ⟨q, q', (sl_9 (cw 9 (by decide) z)).trans g1, mb_9 ok hM z.1 z.2 g2, h.mono (fun d' a c lt ⟨C', x1, x2, x3, x4, x5⟩ => ?_)⟩
            obtain ⟨k1, k2, k3, k4⟩ := keepL hs h0 h1 hf h24 (fun b k u => x4.1 _ _ (by unfold WRP; omega)) (fun b k u => x5.1 _ _ (by unfold WRM; omega))
            exact ⟨C', NT, NP, t0, t1, true, t3, e0, e1, cp, x1, ⟨x2.trans b3, x3.trans d3⟩, k1, by omega, k2, k3, k4⟩
          · have := hk0
            by_cases z11 : tkK d = 1 ∧ wid (tkR d) = 11
            · have z := z11
              obtain ⟨q, q', g1, g2, h⟩ := oneL (i := 6) (k := 11) (lo := 0) (hi := 999) (told := t3) hT ok hP hM hA ((ctk_w ok (by decide)).mpr z) hk0 hx hy a4 c4 (by decide) (by decide) (by decide) (fun v v1 v2 => c0_ok hA.1 (Or.inr (Or.inr rfl)) ⟨fun q => absurd q (by decide), fun q => absurd q (by decide), fun _ => v2⟩)
              refine ⟨q, q', (sl_11 (cw 11 (by decide) z)).trans g1, mb_11 ok hM z.1 z.2 g2, h.mono (fun d' a c lt ⟨v, x1, x2, x3, x4, x5⟩ => ?_)⟩
              obtain ⟨k1, k2, k3, k4⟩ := keepL hs h0 h1 hf h24 (fun b k u => x4.1 _ _ (by unfold WRP; omega)) (fun b k u => x5.1 _ _ (by unfold WRM; omega))
              exact ⟨_, NT, NP, t0, t1, t2, true, e0, e1, cp, x1, ⟨x2.trans b4, x3.trans d4⟩, k1, by omega, k2, k3, k4⟩
            · have := hk0
              by_cases z12 : tkK d = 1 ∧ wid (tkR d) = 12
              · have z := z12
                have ll : Lp.2.1 (s + 10 + 1) = 1000 := by rcases hs with rfl | rfl <;> rfl
                have fl : gI mP (s + 10) 2 = bO (decide (0 = 0)) := by
                  rcases hs with rfl | rfl
                  · exact hf.1
                  · exact hf.2.2.1
                obtain ⟨q, q', g1, g2, h⟩ := lawL (l := 0) (b := s + 10) (told := e0) hT ok hP hM hs (by decide) (by omega) ll ((ctk_w ok (by decide)).mpr z) hk0 hx a5 h0 h24 hcp fl
                refine ⟨q, q', (sl_12 (cw 12 (by decide) z)).trans g1, mb_12 ok hM z.1 z.2 g2, h.mono (fun d' a c lt ⟨x2, cp', x7, x8, x9, x6, x4, x5⟩ => ?_)⟩
                have k3 := h1.keep (nP := a) (nM := c) x7 (x4.1 _ _ (by unfold WRP; omega)) (fun k => x4.1 _ _ (by unfold WRP; omega)) (x5.1 _ _ (by unfold WRM; omega)) (x5.1 _ _ (by unfold WRM; omega)) (fun k u1 u2 => x5.1 _ _ (by unfold WRM; omega))
                have kA := hA.keep (nP := a) (nM := c) (fun b k u => x4.1 _ _ (by unfold vD at u; unfold WRP; omega)) (fun b k u => x4.2.1 _ _ (by unfold vDj at u; unfold WRP; omega)) (fun b k u => x5.1 _ _ (by unfold vE at u; unfold WRM; omega)) (fun b k u => x5.2.1 _ _ (by unfold WRM; omega))
                have kF : FlP a := ⟨(x4.1 _ _ (by unfold WRP; omega)).trans hf.1, (x4.1 _ _ (by unfold WRP; omega)).trans hf.2.1, (x4.1 _ _ (by unfold WRP; omega)).trans hf.2.2.1, (x4.1 _ _ (by unfold WRP; omega)).trans hf.2.2.2⟩
                exact ⟨C, NT, NP, t0, t1, t2, t3, true, e1, cp', kA, ⟨x2.trans b5, (x5.1 _ _ (by unfold WRM; omega)).trans hy⟩, x9, x8, x6, k3, kF⟩
              · have := hk0
                by_cases z13 : tkK d = 1 ∧ wid (tkR d) = 13
                · have z := z13
                  have ll : Lp.2.1 (s + 13 + 1) = 1000 := by rcases hs with rfl | rfl <;> rfl
                  have fl : gI mP (s + 13) 2 = bO (decide (1 = 0)) := by
                    rcases hs with rfl | rfl
                    · exact hf.2.1
                    · exact hf.2.2.2
                  obtain ⟨q, q', g1, g2, h⟩ := lawL (l := 1) (b := s + 13) (told := e1) hT ok hP hM hs (by decide) (by omega) ll ((ctk_w ok (by decide)).mpr z) hk0 hx a6 h1 h24 hcp fl
                  refine ⟨q, q', (sl_13 (cw 13 (by decide) z)).trans g1, mb_13 ok hM z.1 z.2 g2, h.mono (fun d' a c lt ⟨x2, cp', x7, x8, x9, x6, x4, x5⟩ => ?_)⟩
                  have k3 := h0.keep (nP := a) (nM := c) x7 (x4.1 _ _ (by unfold WRP; omega)) (fun k => x4.1 _ _ (by unfold WRP; omega)) (x5.1 _ _ (by unfold WRM; omega)) (x5.1 _ _ (by unfold WRM; omega)) (fun k u1 u2 => x5.1 _ _ (by unfold WRM; omega))
                  have kA := hA.keep (nP := a) (nM := c) (fun b k u => x4.1 _ _ (by unfold vD at u; unfold WRP; omega)) (fun b k u => x4.2.1 _ _ (by unfold vDj at u; unfold WRP; omega)) (fun b k u => x5.1 _ _ (by unfold vE at u; unfold WRM; omega)) (fun b k u => x5.2.1 _ _ (by unfold WRM; omega))
                  have kF : FlP a := ⟨(x4.1 _ _ (by unfold WRP; omega)).trans hf.1, (x4.1 _ _ (by unfold WRP; omega)).trans hf.2.1, (x4.1 _ _ (by unfold WRP; omega)).trans hf.2.2.1, (x4.1 _ _ (by unfold WRP; omega)).trans hf.2.2.2⟩
                  exact ⟨C, NT, NP, t0, t1, t2, t3, e0, true, cp', kA, ⟨x2.trans b6, (x5.1 _ _ (by unfold WRM; omega)).trans hy⟩, x9, x8, k3, x6, kF⟩
                · have := hk0
                  have cb := ctk_b ok
                  have e1 : f_X5_wrong 1 mP = some (0, sI mP 3 2 (nI (1 + 16 * tkb d))) := wrongE hP 1
                  have n1 : ∀ k, k < 30 → ¬ (tkK d = 1 ∧ wid (tkR d) = k) → ¬ ctk T d = k := fun k hk h q => h ((ctk_w ok hk).mp q)
                  refine ⟨(0, sI mP 3 2 (nI (1 + 16 * tkb d))), (0, sI mM 0 9 (nI (1 + 16 * tkb d))), ?_, mb_no ok hM hk0 ⟨z0, z1, z7, z8, z9, z11, z12, z13⟩, OuD.bad hT ok hs (by omega) (Kp.refl _) (Kp.refl _)⟩
                  rw [sl_no hP.2.2.2.1 cb ⟨n1 0 (by decide) z0, n1 1 (by decide) z1, n1 7 (by decide) z7, n1 8 (by decide) z8, n1 9 (by decide) z9, n1 11 (by decide) z11, n1 12 (by decide) z12, n1 13 (by decide) z13⟩]
                  unfold f_X5_stationLine_J318
                  rw [e1, bdI_e]
                  rfl
