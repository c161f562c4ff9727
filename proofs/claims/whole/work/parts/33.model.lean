def im_12 (mem : Mm) : Mm := zr (zr (zr (zr (zr (zr (zr (zr (zr (zr (zr (zr (zr (zr (zr (zr (zr (zr (zr (zr (zr (zr (zr (zr (zr (zr (zr (zr (zr (zr (zr (zr (zr (zr (zr (zr (zr (zr (zr (zr (zr (zr (zr (zr (zr (zr (zr (mem) (1)) (2)) (3)) (4)) (5)) (6)) (7)) (8)) (9)) (10)) (11)) (12)) (13)) (14)) (15)) (16)) (17)) (18)) (19)) (20)) (21)) (22)) (23)) (24)) (25)) (26)) (27)) (28)) (29)) (30)) (31)) (32)) (33)) (34)) (35)) (36)) (37)) (38)) (39)) (40)) (41)) (42)) (43)) (44)) (45)) (46)) (47)
def if_12  (fl : Fl) : Fl := fS (fZ (fS (fZ (fS (fZ (fS (fZ (fS (fZ (fS (fZ (fS (fZ (fS (fZ (fS (fZ (fS (fZ (fS (fZ (fS (fZ (fS (fZ (fS (fZ (fS (fZ (fS (fZ (fS (fZ (fS (fZ (fS (fZ (fS (fZ (fS (fZ (fS (fZ (fS (fZ (fS (fZ (fS (fZ (fS (fZ (fS (fZ (fS (fZ (fS (fZ (fS (fZ (fS (fZ (fS (fZ (fS (fZ (fS (fZ (fS (fZ (fS (fZ (fS (fZ (fS (fZ (fS (fZ (fS (fZ (fS (fZ (fS (fZ (fS (fZ (fS (fZ (fS (fZ (fS (fZ (fS (fZ (fl) (1) 1000) (0) 2) (2) 14) (0) 10) (3) 10) (0) 11) (4) 14) (0) 12) (5) 90) (0) 13) (6) 10) (0) 14) (7) 14) (0) 15) (8) 14) (0) 16) (9) 14) (0) 17) (10) 14) (0) 18) (11) 14) (0) 19) (12) 14) (0) 20) (13) 4) (0) 21) (14) 4) (0) 22) (15) 2000) (0) 23) (16) 7) (0) 27) (17) 7) (0) 28) (18) 7) (0) 29) (19) 7) (0) 30) (20) 7) (0) 31) (21) 7) (0) 32) (22) 7) (0) 33) (23) 7) (0) 34) (24) 7) (0) 35) (25) 7) (0) 36) (26) 7) (0) 37) (27) 20) (0) 38) (28) 6) (0) 42) (29) 240) (0) 43) (30) 240) (0) 44) (31) 240) (0) 45) (32) 5) (0) 46) (33) 40) (0) 47) (34) 40) (0) 48) (35) 17) (0) 49) (36) 17) (0) 50) (37) 17) (0) 51) (38) 68) (0) 52) (39) 272) (0) 53) (40) 4) (0) 54) (41) 7) (0) 56) (42) 7) (0) 57) (43) 7) (0) 58) (44) 7) (0) 59) (45) 60) (0) 60) (46) 7) (0) 61) (47) 10) (0) 65
set_option maxHeartbeats 8000000 in
set_option maxRecDepth 100000 in
theorem lm_full_a (fl : Fl) : ∀ i, i < 48 → Lm.1 i < 13 → ∀ k, k < (fcl (Lm.1 i)).length → ((fcl (Lm.1 i)).getD k 0 = 0 ∨ (fcl (Lm.1 i)).getD k 0 = 1 ∨ if_12 fl i k = true) := by
  intro i hi h13
  match i, hi, h13 with
  | 0, _, _ =>
    intro k hk
    match k, hk with
    | 0, _ => exact Or.inl rfl
    | 1, _ => exact Or.inl rfl
    | 2, _ => exact Or.inr (Or.inr rfl)
    | 3, _ => exact Or.inl rfl
    | 4, _ => exact Or.inl rfl
    | 5, _ => exact Or.inl rfl
    | 6, _ => exact Or.inl rfl
    | 7, _ => exact Or.inr (Or.inl rfl)
    | 8, _ => exact Or.inl rfl
    | 9, _ => exact Or.inl rfl
    | 10, _ => exact Or.inr (Or.inr rfl)
    | 11, _ => exact Or.inr (Or.inr rfl)
    | 12, _ => exact Or.inr (Or.inr rfl)
    | 13, _ => exact Or.inr (Or.inr rfl)
    | 14, _ => exact Or.inr (Or.inr rfl)
    | 15, _ => exact Or.inr (Or.inr rfl)
    | 16, _ => exact Or.inr (Or.inr rfl)
    | 17, _ => exact Or.inr (Or.inr rfl)
    | 18, _ => exact Or.inr (Or.inr rfl)
    | 19, _ => exact Or.inr (Or.inr rfl)
    | 20, _ => exact Or.inr (Or.inr rfl)
    | 21, _ => exact Or.inr (Or.inr rfl)
    | 22, _ => exact Or.inr (Or.inr rfl)
    | 23, _ => exact Or.inr (Or.inr rfl)
    | 24, _ => exact Or.inl rfl
    | 25, _ => exact Or.inl rfl
    | 26, _ => exact Or.inl rfl
    | 27, _ => exact Or.inr (Or.inr rfl)
    | 28, _ => exact Or.inr (Or.inr rfl)
    | 29, _ => exact Or.inr (Or.inr rfl)
    | 30, _ => exact Or.inr (Or.inr rfl)
    | 31, _ => exact Or.inr (Or.inr rfl)
    | 32, _ => exact Or.inr (Or.inr rfl)
    | 33, _ => exact Or.inr (Or.inr rfl)
    | 34, _ => exact Or.inr (Or.inr rfl)
    | 35, _ => exact Or.inr (Or.inr rfl)
    | 36, _ => exact Or.inr (Or.inr rfl)
    | 37, _ => exact Or.inr (Or.inr rfl)
    | 38, _ => exact Or.inr (Or.inr rfl)
    | 39, _ => exact Or.inl rfl
    | 40, _ => exact Or.inr (Or.inl rfl)
    | 41, _ => exact Or.inl rfl
    | 42, _ => exact Or.inr (Or.inr rfl)
    | 43, _ => exact Or.inr (Or.inr rfl)
    | 44, _ => exact Or.inr (Or.inr rfl)
    | 45, _ => exact Or.inr (Or.inr rfl)
    | 46, _ => exact Or.inr (Or.inr rfl)
    | 47, _ => exact Or.inr (Or.inr rfl)
    | 48, _ => exact Or.inr (Or.inr rfl)
    | 49, _ => exact Or.inr (Or.inr rfl)
    | 50, _ => exact Or.inr (Or.inr rfl)
    | 51, _ => exact Or.inr (Or.inr rfl)
    | 52, _ => exact Or.inr (Or.inr rfl)
    | 53, _ => exact Or.inr (Or.inr rfl)
    | 54, _ => exact Or.inr (Or.inr rfl)
    | 55, _ => exact Or.inl rfl
    | 56, _ => exact Or.inr (Or.inr rfl)
    | 57, _ => exact Or.inr (Or.inr rfl)
    | 58, _ => exact Or.inr (Or.inr rfl)
    | 59, _ => exact Or.inr (Or.inr rfl)
    | 60, _ => exact Or.inr (Or.inr rfl)
    | 61, _ => exact Or.inr (Or.inr rfl)
    | 62, _ => exact Or.inl rfl
    | 63, _ => exact Or.inl rfl
    | 64, _ => exact Or.inl rfl
    | 65, _ => exact Or.inr (Or.inr rfl)
    | 66, _ => exact Or.inr (Or.inl rfl)
    | k + 67, h => exact absurd (show k + 67 < 67 from h) (by omega)
  | 1, _, h => exact absurd h (by decide)
  | 2, _, h => exact absurd h (by decide)
  | 3, _, h => exact absurd h (by decide)
  | 4, _, h => exact absurd h (by decide)
  | 5, _, h => exact absurd h (by decide)
  | 6, _, h => exact absurd h (by decide)
  | 7, _, h => exact absurd h (by decide)
  | 8, _, h => exact absurd h (by decide)
  | 9, _, h => exact absurd h (by decide)
  | 10, _, h => exact absurd h (by decide)
  | 11, _, h => exact absurd h (by decide)
  | 12, _, h => exact absurd h (by decide)
  | 13, _, h => exact absurd h (by decide)
  | 14, _, h => exact absurd h (by decide)
  | 15, _, h => exact absurd h (by decide)
  | 16, _, h => exact absurd h (by decide)
  | 17, _, h => exact absurd h (by decide)
  | 18, _, h => exact absurd h (by decide)
  | 19, _, h => exact absurd h (by decide)
  | 20, _, h => exact absurd h (by decide)
  | 21, _, h => exact absurd h (by decide)
  | 22, _, h => exact absurd h (by decide)
  | 23, _, h => exact absurd h (by decide)
  | 24, _, h => exact absurd h (by decide)
  | 25, _, h => exact absurd h (by decide)
  | 26, _, h => exact absurd h (by decide)
  | 27, _, h => exact absurd h (by decide)
  | 28, _, h => exact absurd h (by decide)
  | 29, _, h => exact absurd h (by decide)
  | 30, _, h => exact absurd h (by decide)
  | 31, _, h => exact absurd h (by decide)
  | 32, _, h => exact absurd h (by decide)
  | 33, _, h => exact absurd h (by decide)
  | 34, _, h => exact absurd h (by decide)
  | 35, _, h => exact absurd h (by decide)
  | 36, _, h => exact absurd h (by decide)
  | 37, _, h => exact absurd h (by decide)
  | 38, _, h => exact absurd h (by decide)
  | 39, _, h => exact absurd h (by decide)
  | 40, _, h => exact absurd h (by decide)
  | 41, _, h => exact absurd h (by decide)
  | 42, _, h => exact absurd h (by decide)
  | 43, _, h => exact absurd h (by decide)
  | 44, _, h => exact absurd h (by decide)
  | 45, _, h => exact absurd h (by decide)
  | 46, _, h => exact absurd h (by decide)
  | 47, _, h => exact absurd h (by decide)
  | i + 48, h, _ => exact absurd h (by omega)
set_option maxHeartbeats 8000000 in
set_option maxRecDepth 100000 in
theorem lm_full_b (fl : Fl) : ∀ i, i < 48 → 17 ≤ Lm.1 i → ∀ k, if_12 fl i k = true := by
  intro i hi h17
  match i, hi, h17 with
  | 0, _, h => exact absurd h (by decide)
  | 1, _, h => exact absurd h (by decide)
  | 2, _, h => exact absurd h (by decide)
  | 3, _, h => exact absurd h (by decide)
  | 4, _, h => exact absurd h (by decide)
  | 5, _, h => exact absurd h (by decide)
  | 6, _, h => exact absurd h (by decide)
  | 7, _, h => exact absurd h (by decide)
  | 8, _, h => exact absurd h (by decide)
  | 9, _, h => exact absurd h (by decide)
  | 10, _, h => exact absurd h (by decide)
  | 11, _, h => exact absurd h (by decide)
  | 12, _, h => exact absurd h (by decide)
  | 13, _, h => exact absurd h (by decide)
  | 14, _, h => exact absurd h (by decide)
  | 15, _, h => exact absurd h (by decide)
  | 16, _, h => exact absurd h (by decide)
  | 17, _, h => exact absurd h (by decide)
  | 18, _, h => exact absurd h (by decide)
  | 19, _, h => exact absurd h (by decide)
  | 20, _, h => exact absurd h (by decide)
  | 21, _, h => exact absurd h (by decide)
  | 22, _, h => exact absurd h (by decide)
  | 23, _, h => exact absurd h (by decide)
  | 24, _, h => exact absurd h (by decide)
  | 25, _, h => exact absurd h (by decide)
  | 26, _, h => exact absurd h (by decide)
  | 27, _, h => exact absurd h (by decide)
  | 28, _, h => exact absurd h (by decide)
  | 29, _, h => exact absurd h (by decide)
  | 30, _, h => exact absurd h (by decide)
  | 31, _, h => exact absurd h (by decide)
  | 32, _, h => exact absurd h (by decide)
  | 33, _, h => exact absurd h (by decide)
  | 34, _, h => exact absurd h (by decide)
  | 35, _, h => exact absurd h (by decide)
  | 36, _, h => exact absurd h (by decide)
  | 37, _, h => exact absurd h (by decide)
  | 38, _, h => exact absurd h (by decide)
  | 39, _, h => exact absurd h (by decide)
  | 40, _, h => exact absurd h (by decide)
  | 41, _, h => exact absurd h (by decide)
  | 42, _, h => exact absurd h (by decide)
  | 43, _, h => exact absurd h (by decide)
  | 44, _, h => exact absurd h (by decide)
  | 45, _, h => exact absurd h (by decide)
  | 46, _, h => exact absurd h (by decide)
  | 47, _, h => exact absurd h (by decide)
  | i + 48, h, _ => exact absurd h (by omega)
theorem lm_full {fl : Fl} {ad : Nat → Nat} {cy : Nat → ClassId} {m : Mm} : wlF Lm ad cy m (if_12 fl) Lm.2.2 = wld Lm ad cy m := wlF_full (lm_full_a fl) (lm_full_b fl)
theorem dn_12 : yX12_init.cls ≠ "java/lang/invoke/MethodHandle" ∧ yX12_init.cls ≠ "java/lang/invoke/VarHandle" ∧ (parseMethodDescriptor yX12_init.desc).map (fun d => d.parameters.length) = some 0 := by decide +kernel
set_option maxHeartbeats 8000000 in
set_option maxRecDepth 100000 in
theorem kn_12 {l : Launch} {ad : Nat → Nat} {cy : Nat → ClassId} {dC : Nat → ClassId} {dI : Nat → Nat → Nat} {ks : (Nat → Nat) × (Nat → Nat)}  {mem : Mm} {fl : Fl} {mv0 : Mm} {mv1 : Mm} (had : ∀ i, ad i = ad 0 + i)  (hv0 : f_X12_usual (0) (im_12 mem) = some mv0) (hv1 : f_X12_fresh  (mv0) = some mv1) : CtN l Lm ad cy dC dI ks yX12_init cX12_init 1 ({ frames := 1, cells := 47, slots := 4638, locals := 21 }) [.ref (ad (0))] (1) mem fl (48) (mv1) (if_12  fl) 47 4638 := by
  have hfull9 : ∀ (k : Nat) (m : Mm), wlF Lm ad cy m (if_12 fl) Lm.2.2 = wld Lm ad cy m := fun _ m => lm_full
  refine CtN.of (cc := cX12_init) (maxL := 1) (own := RX12) rfl (by decide) rfl (Nat.le_of_ble_eq_true rfl) ?_
  intro p e s m args below meth c A X hAO hmn hs0
  refine n_aload_n X dX12_init_0 rfl 0 rfl ?_
  refine n_obj X uw5_211 uw1_31 uw1_32 dX12_init_1 (Nat.le_of_ble_eq_true rfl) (Nat.le_of_ble_eq_true rfl) ?_
  refine n_aload_n X dX12_init_4 rfl 0 rfl ?_
  refine n_sipush (v := (1000)) X dX12_init_5 (by decide) ?_
  refine n_newaI X (N := 1000) (by decide) had (sz0 hs0 had) Lmk_1 Lmn_1 (by decide) (by decide) uw1_117 (Nat.le_of_ble_eq_true rfl) (Nat.le_of_ble_eq_true rfl) (Nat.le_of_ble_eq_true rfl) dX12_init_8 ?_
  refine n_putF X (k := 2) (of := 1) (v := 1) (by decide) Lmk_0 rfl (by decide) ui_12 (by decide) uw5_222 tyX12_ok nmX12 rfl hmn rfl rfl rfl rfl rfl rfl rfl dX12_init_10 ?_
  refine n_aload_n X dX12_init_13 rfl 0 rfl ?_
  refine n_bipush (v := (14)) X dX12_init_14 (by decide) ?_
  refine n_newaI X (N := 14) (by decide) had (sz0 hs0 had) Lmk_2 Lmn_2 (by decide) (by decide) uw1_117 (Nat.le_of_ble_eq_true rfl) (Nat.le_of_ble_eq_true rfl) (Nat.le_of_ble_eq_true rfl) dX12_init_16 ?_
  refine n_putF X (k := 10) (of := 2) (v := 2) (by decide) Lmk_0 rfl (by decide) ui_12 (by decide) uw5_230 tyX12_ok nmX12 rfl hmn rfl rfl rfl rfl rfl rfl rfl dX12_init_18 ?_
  refine n_aload_n X dX12_init_21 rfl 0 rfl ?_
  refine n_bipush (v := (10)) X dX12_init_22 (by decide) ?_
  refine n_newaJ X (N := 10) (by decide) had (sz0 hs0 had) Lmk_3 Lmn_3 (by decide) (by decide) uw1_116 (Nat.le_of_ble_eq_true rfl) (Nat.le_of_ble_eq_true rfl) (Nat.le_of_ble_eq_true rfl) dX12_init_24 ?_
  refine n_putF X (k := 11) (of := 3) (v := 3) (by decide) Lmk_0 rfl (by decide) ui_12 (by decide) uw5_231 tyX12_ok nmX12 rfl hmn rfl rfl rfl rfl rfl rfl rfl dX12_init_26 ?_
  refine n_aload_n X dX12_init_29 rfl 0 rfl ?_
  refine n_bipush (v := (14)) X dX12_init_30 (by decide) ?_
  refine n_newaJ X (N := 14) (by decide) had (sz0 hs0 had) Lmk_4 Lmn_4 (by decide) (by decide) uw1_116 (Nat.le_of_ble_eq_true rfl) (Nat.le_of_ble_eq_true rfl) (Nat.le_of_ble_eq_true rfl) dX12_init_32 ?_
  refine n_putF X (k := 12) (of := 4) (v := 4) (by decide) Lmk_0 rfl (by decide) ui_12 (by decide) uw5_232 tyX12_ok nmX12 rfl hmn rfl rfl rfl rfl rfl rfl rfl dX12_init_34 ?_
  refine n_aload_n X dX12_init_37 rfl 0 rfl ?_
  refine n_bipush (v := (90)) X dX12_init_38 (by decide) ?_
  refine n_newaI X (N := 90) (by decide) had (sz0 hs0 had) Lmk_5 Lmn_5 (by decide) (by decide) uw1_117 (Nat.le_of_ble_eq_true rfl) (Nat.le_of_ble_eq_true rfl) (Nat.le_of_ble_eq_true rfl) dX12_init_40 ?_
  refine n_putF X (k := 13) (of := 5) (v := 5) (by decide) Lmk_0 rfl (by decide) ui_12 (by decide) uw5_233 tyX12_ok nmX12 rfl hmn rfl rfl rfl rfl rfl rfl rfl dX12_init_42 ?_
  refine n_aload_n X dX12_init_45 rfl 0 rfl ?_
  refine n_bipush (v := (10)) X dX12_init_46 (by decide) ?_
  refine n_newaI X (N := 10) (by decide) had (sz0 hs0 had) Lmk_6 Lmn_6 (by decide) (by decide) uw1_117 (Nat.le_of_ble_eq_true rfl) (Nat.le_of_ble_eq_true rfl) (Nat.le_of_ble_eq_true rfl) dX12_init_48 ?_
  refine n_putF X (k := 14) (of := 6) (v := 6) (by decide) Lmk_0 rfl (by decide) ui_12 (by decide) uw5_234 tyX12_ok nmX12 rfl hmn rfl rfl rfl rfl rfl rfl rfl dX12_init_50 ?_
  refine n_aload_n X dX12_init_53 rfl 0 rfl ?_
  refine n_bipush (v := (14)) X dX12_init_54 (by decide) ?_
  refine n_newaI X (N := 14) (by decide) had (sz0 hs0 had) Lmk_7 Lmn_7 (by decide) (by decide) uw1_117 (Nat.le_of_ble_eq_true rfl) (Nat.le_of_ble_eq_true rfl) (Nat.le_of_ble_eq_true rfl) dX12_init_56 ?_
  refine n_putF X (k := 15) (of := 7) (v := 7) (by decide) Lmk_0 rfl (by decide) ui_12 (by decide) uw5_235 tyX12_ok nmX12 rfl hmn rfl rfl rfl rfl rfl rfl rfl dX12_init_58 ?_
  refine n_aload_n X dX12_init_61 rfl 0 rfl ?_
  refine n_bipush (v := (14)) X dX12_init_62 (by decide) ?_
  refine n_newaI X (N := 14) (by decide) had (sz0 hs0 had) Lmk_8 Lmn_8 (by decide) (by decide) uw1_117 (Nat.le_of_ble_eq_true rfl) (Nat.le_of_ble_eq_true rfl) (Nat.le_of_ble_eq_true rfl) dX12_init_64 ?_
  refine n_putF X (k := 16) (of := 8) (v := 8) (by decide) Lmk_0 rfl (by decide) ui_12 (by decide) uw5_236 tyX12_ok nmX12 rfl hmn rfl rfl rfl rfl rfl rfl rfl dX12_init_66 ?_
  refine n_aload_n X dX12_init_69 rfl 0 rfl ?_
  refine n_bipush (v := (14)) X dX12_init_70 (by decide) ?_
  refine n_newaI X (N := 14) (by decide) had (sz0 hs0 had) Lmk_9 Lmn_9 (by decide) (by decide) uw1_117 (Nat.le_of_ble_eq_true rfl) (Nat.le_of_ble_eq_true rfl) (Nat.le_of_ble_eq_true rfl) dX12_init_72 ?_
  refine n_putF X (k := 17) (of := 9) (v := 9) (by decide) Lmk_0 rfl (by decide) ui_12 (by decide) uw5_237 tyX12_ok nmX12 rfl hmn rfl rfl rfl rfl rfl rfl rfl dX12_init_74 ?_
  refine n_aload_n X dX12_init_77 rfl 0 rfl ?_
  refine n_bipush (v := (14)) X dX12_init_78 (by decide) ?_
  refine n_newaI X (N := 14) (by decide) had (sz0 hs0 had) Lmk_10 Lmn_10 (by decide) (by decide) uw1_117 (Nat.le_of_ble_eq_true rfl) (Nat.le_of_ble_eq_true rfl) (Nat.le_of_ble_eq_true rfl) dX12_init_80 ?_
  refine n_putF X (k := 18) (of := 10) (v := 10) (by decide) Lmk_0 rfl (by decide) ui_12 (by decide) uw5_238 tyX12_ok nmX12 rfl hmn rfl rfl rfl rfl rfl rfl rfl dX12_init_82 ?_
  refine n_aload_n X dX12_init_85 rfl 0 rfl ?_
  refine n_bipush (v := (14)) X dX12_init_86 (by decide) ?_
  refine n_newaI X (N := 14) (by decide) had (sz0 hs0 had) Lmk_11 Lmn_11 (by decide) (by decide) uw1_117 (Nat.le_of_ble_eq_true rfl) (Nat.le_of_ble_eq_true rfl) (Nat.le_of_ble_eq_true rfl) dX12_init_88 ?_
  refine n_putF X (k := 19) (of := 11) (v := 11) (by decide) Lmk_0 rfl (by decide) ui_12 (by decide) uw5_239 tyX12_ok nmX12 rfl hmn rfl rfl rfl rfl rfl rfl rfl dX12_init_90 ?_
  refine n_aload_n X dX12_init_93 rfl 0 rfl ?_
  refine n_bipush (v := (14)) X dX12_init_94 (by decide) ?_
  refine n_newaI X (N := 14) (by decide) had (sz0 hs0 had) Lmk_12 Lmn_12 (by decide) (by decide) uw1_117 (Nat.le_of_ble_eq_true rfl) (Nat.le_of_ble_eq_true rfl) (Nat.le_of_ble_eq_true rfl) dX12_init_96 ?_
  refine n_putF X (k := 20) (of := 12) (v := 12) (by decide) Lmk_0 rfl (by decide) ui_12 (by decide) uw6_0 tyX12_ok nmX12 rfl hmn rfl rfl rfl rfl rfl rfl rfl dX12_init_98 ?_
  refine n_aload_n X dX12_init_101 rfl 0 rfl ?_
  refine n_iconst (v := (4)) X dX12_init_102 (by decide) ?_
  refine n_newaI X (N := 4) (by decide) had (sz0 hs0 had) Lmk_13 Lmn_13 (by decide) (by decide) uw1_117 (Nat.le_of_ble_eq_true rfl) (Nat.le_of_ble_eq_true rfl) (Nat.le_of_ble_eq_true rfl) dX12_init_103 ?_
  refine n_putF X (k := 21) (of := 13) (v := 13) (by decide) Lmk_0 rfl (by decide) ui_12 (by decide) uw6_1 tyX12_ok nmX12 rfl hmn rfl rfl rfl rfl rfl rfl rfl dX12_init_105 ?_
  refine n_aload_n X dX12_init_108 rfl 0 rfl ?_
  refine n_iconst (v := (4)) X dX12_init_109 (by decide) ?_
  refine n_newaI X (N := 4) (by decide) had (sz0 hs0 had) Lmk_14 Lmn_14 (by decide) (by decide) uw1_117 (Nat.le_of_ble_eq_true rfl) (Nat.le_of_ble_eq_true rfl) (Nat.le_of_ble_eq_true rfl) dX12_init_110 ?_
  refine n_putF X (k := 22) (of := 14) (v := 14) (by decide) Lmk_0 rfl (by decide) ui_12 (by decide) uw6_2 tyX12_ok nmX12 rfl hmn rfl rfl rfl rfl rfl rfl rfl dX12_init_112 ?_
  refine n_aload_n X dX12_init_115 rfl 0 rfl ?_
  refine n_sipush (v := (2000)) X dX12_init_116 (by decide) ?_
  refine n_newaI X (N := 2000) (by decide) had (sz0 hs0 had) Lmk_15 Lmn_15 (by decide) (by decide) uw1_117 (Nat.le_of_ble_eq_true rfl) (Nat.le_of_ble_eq_true rfl) (Nat.le_of_ble_eq_true rfl) dX12_init_119 ?_
  refine n_putF X (k := 23) (of := 15) (v := 15) (by decide) Lmk_0 rfl (by decide) ui_12 (by decide) uw6_3 tyX12_ok nmX12 rfl hmn rfl rfl rfl rfl rfl rfl rfl dX12_init_121 ?_
  refine n_aload_n X dX12_init_124 rfl 0 rfl ?_
  refine n_bipush (v := (7)) X dX12_init_125 (by decide) ?_
  refine n_newaI X (N := 7) (by decide) had (sz0 hs0 had) Lmk_16 Lmn_16 (by decide) (by decide) uw1_117 (Nat.le_of_ble_eq_true rfl) (Nat.le_of_ble_eq_true rfl) (Nat.le_of_ble_eq_true rfl) dX12_init_127 ?_
  refine n_putF X (k := 27) (of := 16) (v := 16) (by decide) Lmk_0 rfl (by decide) ui_12 (by decide) uw6_7 tyX12_ok nmX12 rfl hmn rfl rfl rfl rfl rfl rfl rfl dX12_init_129 ?_
  refine n_aload_n X dX12_init_132 rfl 0 rfl ?_
  refine n_bipush (v := (7)) X dX12_init_133 (by decide) ?_
  refine n_newaZ X (N := 7) (by decide) had (sz0 hs0 had) Lmk_17 Lmn_17 (by decide) (by decide) uw6_182 (Nat.le_of_ble_eq_true rfl) (Nat.le_of_ble_eq_true rfl) (Nat.le_of_ble_eq_true rfl) dX12_init_135 ?_
  refine n_putF X (k := 28) (of := 17) (v := 17) (by decide) Lmk_0 rfl (by decide) ui_12 (by decide) uw6_8 tyX12_ok nmX12 rfl hmn rfl rfl rfl rfl rfl rfl rfl dX12_init_137 ?_
  refine n_aload_n X dX12_init_140 rfl 0 rfl ?_
  refine n_bipush (v := (7)) X dX12_init_141 (by decide) ?_
  refine n_newaI X (N := 7) (by decide) had (sz0 hs0 had) Lmk_18 Lmn_18 (by decide) (by decide) uw1_117 (Nat.le_of_ble_eq_true rfl) (Nat.le_of_ble_eq_true rfl) (Nat.le_of_ble_eq_true rfl) dX12_init_143 ?_
  refine n_putF X (k := 29) (of := 18) (v := 18) (by decide) Lmk_0 rfl (by decide) ui_12 (by decide) uw6_9 tyX12_ok nmX12 rfl hmn rfl rfl rfl rfl rfl rfl rfl dX12_init_145 ?_
  refine n_aload_n X dX12_init_148 rfl 0 rfl ?_
  refine n_bipush (v := (7)) X dX12_init_149 (by decide) ?_
  refine n_newaI X (N := 7) (by decide) had (sz0 hs0 had) Lmk_19 Lmn_19 (by decide) (by decide) uw1_117 (Nat.le_of_ble_eq_true rfl) (Nat.le_of_ble_eq_true rfl) (Nat.le_of_ble_eq_true rfl) dX12_init_151 ?_
  refine n_putF X (k := 30) (of := 19) (v := 19) (by decide) Lmk_0 rfl (by decide) ui_12 (by decide) uw6_10 tyX12_ok nmX12 rfl hmn rfl rfl rfl rfl rfl rfl rfl dX12_init_153 ?_
  refine n_aload_n X dX12_init_156 rfl 0 rfl ?_
  refine n_bipush (v := (7)) X dX12_init_157 (by decide) ?_
  refine n_newaI X (N := 7) (by decide) had (sz0 hs0 had) Lmk_20 Lmn_20 (by decide) (by decide) uw1_117 (Nat.le_of_ble_eq_true rfl) (Nat.le_of_ble_eq_true rfl) (Nat.le_of_ble_eq_true rfl) dX12_init_159 ?_
  refine n_putF X (k := 31) (of := 20) (v := 20) (by decide) Lmk_0 rfl (by decide) ui_12 (by decide) uw6_11 tyX12_ok nmX12 rfl hmn rfl rfl rfl rfl rfl rfl rfl dX12_init_161 ?_
  refine n_aload_n X dX12_init_164 rfl 0 rfl ?_
  refine n_bipush (v := (7)) X dX12_init_165 (by decide) ?_
  refine n_newaI X (N := 7) (by decide) had (sz0 hs0 had) Lmk_21 Lmn_21 (by decide) (by decide) uw1_117 (Nat.le_of_ble_eq_true rfl) (Nat.le_of_ble_eq_true rfl) (Nat.le_of_ble_eq_true rfl) dX12_init_167 ?_
  refine n_putF X (k := 32) (of := 21) (v := 21) (by decide) Lmk_0 rfl (by decide) ui_12 (by decide) uw6_12 tyX12_ok nmX12 rfl hmn rfl rfl rfl rfl rfl rfl rfl dX12_init_169 ?_
  refine n_aload_n X dX12_init_172 rfl 0 rfl ?_
  refine n_bipush (v := (7)) X dX12_init_173 (by decide) ?_
  refine n_newaI X (N := 7) (by decide) had (sz0 hs0 had) Lmk_22 Lmn_22 (by decide) (by decide) uw1_117 (Nat.le_of_ble_eq_true rfl) (Nat.le_of_ble_eq_true rfl) (Nat.le_of_ble_eq_true rfl) dX12_init_175 ?_
  refine n_putF X (k := 33) (of := 22) (v := 22) (by decide) Lmk_0 rfl (by decide) ui_12 (by decide) uw6_13 tyX12_ok nmX12 rfl hmn rfl rfl rfl rfl rfl rfl rfl dX12_init_177 ?_
  refine n_aload_n X dX12_init_180 rfl 0 rfl ?_
  refine n_bipush (v := (7)) X dX12_init_181 (by decide) ?_
  refine n_newaI X (N := 7) (by decide) had (sz0 hs0 had) Lmk_23 Lmn_23 (by decide) (by decide) uw1_117 (Nat.le_of_ble_eq_true rfl) (Nat.le_of_ble_eq_true rfl) (Nat.le_of_ble_eq_true rfl) dX12_init_183 ?_
  refine n_putF X (k := 34) (of := 23) (v := 23) (by decide) Lmk_0 rfl (by decide) ui_12 (by decide) uw6_14 tyX12_ok nmX12 rfl hmn rfl rfl rfl rfl rfl rfl rfl dX12_init_185 ?_
  refine n_aload_n X dX12_init_188 rfl 0 rfl ?_
  refine n_bipush (v := (7)) X dX12_init_189 (by decide) ?_
  refine n_newaI X (N := 7) (by decide) had (sz0 hs0 had) Lmk_24 Lmn_24 (by decide) (by decide) uw1_117 (Nat.le_of_ble_eq_true rfl) (Nat.le_of_ble_eq_true rfl) (Nat.le_of_ble_eq_true rfl) dX12_init_191 ?_
  refine n_putF X (k := 35) (of := 24) (v := 24) (by decide) Lmk_0 rfl (by decide) ui_12 (by decide) uw6_15 tyX12_ok nmX12 rfl hmn rfl rfl rfl rfl rfl rfl rfl dX12_init_193 ?_
  refine n_aload_n X dX12_init_196 rfl 0 rfl ?_
  refine n_bipush (v := (7)) X dX12_init_197 (by decide) ?_
  refine n_newaI X (N := 7) (by decide) had (sz0 hs0 had) Lmk_25 Lmn_25 (by decide) (by decide) uw1_117 (Nat.le_of_ble_eq_true rfl) (Nat.le_of_ble_eq_true rfl) (Nat.le_of_ble_eq_true rfl) dX12_init_199 ?_
  refine n_putF X (k := 36) (of := 25) (v := 25) (by decide) Lmk_0 rfl (by decide) ui_12 (by decide) uw6_16 tyX12_ok nmX12 rfl hmn rfl rfl rfl rfl rfl rfl rfl dX12_init_201 ?_
  refine n_aload_n X dX12_init_204 rfl 0 rfl ?_
  refine n_bipush (v := (7)) X dX12_init_205 (by decide) ?_
  refine n_newaI X (N := 7) (by decide) had (sz0 hs0 had) Lmk_26 Lmn_26 (by decide) (by decide) uw1_117 (Nat.le_of_ble_eq_true rfl) (Nat.le_of_ble_eq_true rfl) (Nat.le_of_ble_eq_true rfl) dX12_init_207 ?_
  refine n_putF X (k := 37) (of := 26) (v := 26) (by decide) Lmk_0 rfl (by decide) ui_12 (by decide) uw6_17 tyX12_ok nmX12 rfl hmn rfl rfl rfl rfl rfl rfl rfl dX12_init_209 ?_
  refine n_aload_n X dX12_init_212 rfl 0 rfl ?_
  refine n_bipush (v := (20)) X dX12_init_213 (by decide) ?_
  refine n_newaI X (N := 20) (by decide) had (sz0 hs0 had) Lmk_27 Lmn_27 (by decide) (by decide) uw1_117 (Nat.le_of_ble_eq_true rfl) (Nat.le_of_ble_eq_true rfl) (Nat.le_of_ble_eq_true rfl) dX12_init_215 ?_
  refine n_putF X (k := 38) (of := 27) (v := 27) (by decide) Lmk_0 rfl (by decide) ui_12 (by decide) uw6_18 tyX12_ok nmX12 rfl hmn rfl rfl rfl rfl rfl rfl rfl dX12_init_217 ?_
  refine n_aload_n X dX12_init_220 rfl 0 rfl ?_
  refine n_bipush (v := (6)) X dX12_init_221 (by decide) ?_
  refine n_newaI X (N := 6) (by decide) had (sz0 hs0 had) Lmk_28 Lmn_28 (by decide) (by decide) uw1_117 (Nat.le_of_ble_eq_true rfl) (Nat.le_of_ble_eq_true rfl) (Nat.le_of_ble_eq_true rfl) dX12_init_223 ?_
  refine n_putF X (k := 42) (of := 28) (v := 28) (by decide) Lmk_0 rfl (by decide) ui_12 (by decide) uw6_22 tyX12_ok nmX12 rfl hmn rfl rfl rfl rfl rfl rfl rfl dX12_init_225 ?_
  refine n_aload_n X dX12_init_228 rfl 0 rfl ?_
  refine n_sipush (v := (240)) X dX12_init_229 (by decide) ?_
  refine n_newaI X (N := 240) (by decide) had (sz0 hs0 had) Lmk_29 Lmn_29 (by decide) (by decide) uw1_117 (Nat.le_of_ble_eq_true rfl) (Nat.le_of_ble_eq_true rfl) (Nat.le_of_ble_eq_true rfl) dX12_init_232 ?_
  refine n_putF X (k := 43) (of := 29) (v := 29) (by decide) Lmk_0 rfl (by decide) ui_12 (by decide) uw6_23 tyX12_ok nmX12 rfl hmn rfl rfl rfl rfl rfl rfl rfl dX12_init_234 ?_
  refine n_aload_n X dX12_init_237 rfl 0 rfl ?_
  refine n_sipush (v := (240)) X dX12_init_238 (by decide) ?_
  refine n_newaI X (N := 240) (by decide) had (sz0 hs0 had) Lmk_30 Lmn_30 (by decide) (by decide) uw1_117 (Nat.le_of_ble_eq_true rfl) (Nat.le_of_ble_eq_true rfl) (Nat.le_of_ble_eq_true rfl) dX12_init_241 ?_
  refine n_putF X (k := 44) (of := 30) (v := 30) (by decide) Lmk_0 rfl (by decide) ui_12 (by decide) uw6_24 tyX12_ok nmX12 rfl hmn rfl rfl rfl rfl rfl rfl rfl dX12_init_243 ?_
  refine n_aload_n X dX12_init_246 rfl 0 rfl ?_
  refine n_sipush (v := (240)) X dX12_init_247 (by decide) ?_
  refine n_newaI X (N := 240) (by decide) had (sz0 hs0 had) Lmk_31 Lmn_31 (by decide) (by decide) uw1_117 (Nat.le_of_ble_eq_true rfl) (Nat.le_of_ble_eq_true rfl) (Nat.le_of_ble_eq_true rfl) dX12_init_250 ?_
  refine n_putF X (k := 45) (of := 31) (v := 31) (by decide) Lmk_0 rfl (by decide) ui_12 (by decide) uw6_25 tyX12_ok nmX12 rfl hmn rfl rfl rfl rfl rfl rfl rfl dX12_init_252 ?_
  refine n_aload_n X dX12_init_255 rfl 0 rfl ?_
  refine n_iconst (v := (5)) X dX12_init_256 (by decide) ?_
  refine n_newaI X (N := 5) (by decide) had (sz0 hs0 had) Lmk_32 Lmn_32 (by decide) (by decide) uw1_117 (Nat.le_of_ble_eq_true rfl) (Nat.le_of_ble_eq_true rfl) (Nat.le_of_ble_eq_true rfl) dX12_init_257 ?_
  refine n_putF X (k := 46) (of := 32) (v := 32) (by decide) Lmk_0 rfl (by decide) ui_12 (by decide) uw6_26 tyX12_ok nmX12 rfl hmn rfl rfl rfl rfl rfl rfl rfl dX12_init_259 ?_
  refine n_aload_n X dX12_init_262 rfl 0 rfl ?_
  refine n_bipush (v := (40)) X dX12_init_263 (by decide) ?_
  refine n_newaI X (N := 40) (by decide) had (sz0 hs0 had) Lmk_33 Lmn_33 (by decide) (by decide) uw1_117 (Nat.le_of_ble_eq_true rfl) (Nat.le_of_ble_eq_true rfl) (Nat.le_of_ble_eq_true rfl) dX12_init_265 ?_
  refine n_putF X (k := 47) (of := 33) (v := 33) (by decide) Lmk_0 rfl (by decide) ui_12 (by decide) uw6_27 tyX12_ok nmX12 rfl hmn rfl rfl rfl rfl rfl rfl rfl dX12_init_267 ?_
  refine n_aload_n X dX12_init_270 rfl 0 rfl ?_
  refine n_bipush (v := (40)) X dX12_init_271 (by decide) ?_
  refine n_newaI X (N := 40) (by decide) had (sz0 hs0 had) Lmk_34 Lmn_34 (by decide) (by decide) uw1_117 (Nat.le_of_ble_eq_true rfl) (Nat.le_of_ble_eq_true rfl) (Nat.le_of_ble_eq_true rfl) dX12_init_273 ?_
  refine n_putF X (k := 48) (of := 34) (v := 34) (by decide) Lmk_0 rfl (by decide) ui_12 (by decide) uw6_28 tyX12_ok nmX12 rfl hmn rfl rfl rfl rfl rfl rfl rfl dX12_init_275 ?_
  refine n_aload_n X dX12_init_278 rfl 0 rfl ?_
  refine n_bipush (v := (17)) X dX12_init_279 (by decide) ?_
  refine n_newaI X (N := 17) (by decide) had (sz0 hs0 had) Lmk_35 Lmn_35 (by decide) (by decide) uw1_117 (Nat.le_of_ble_eq_true rfl) (Nat.le_of_ble_eq_true rfl) (Nat.le_of_ble_eq_true rfl) dX12_init_281 ?_
  refine n_putF X (k := 49) (of := 35) (v := 35) (by decide) Lmk_0 rfl (by decide) ui_12 (by decide) uw6_29 tyX12_ok nmX12 rfl hmn rfl rfl rfl rfl rfl rfl rfl dX12_init_283 ?_
  refine n_aload_n X dX12_init_286 rfl 0 rfl ?_
  refine n_bipush (v := (17)) X dX12_init_287 (by decide) ?_
  refine n_newaI X (N := 17) (by decide) had (sz0 hs0 had) Lmk_36 Lmn_36 (by decide) (by decide) uw1_117 (Nat.le_of_ble_eq_true rfl) (Nat.le_of_ble_eq_true rfl) (Nat.le_of_ble_eq_true rfl) dX12_init_289 ?_
  refine n_putF X (k := 50) (of := 36) (v := 36) (by decide) Lmk_0 rfl (by decide) ui_12 (by decide) uw6_30 tyX12_ok nmX12 rfl hmn rfl rfl rfl rfl rfl rfl rfl dX12_init_291 ?_
  refine n_aload_n X dX12_init_294 rfl 0 rfl ?_
  refine n_bipush (v := (17)) X dX12_init_295 (by decide) ?_
  refine n_newaI X (N := 17) (by decide) had (sz0 hs0 had) Lmk_37 Lmn_37 (by decide) (by decide) uw1_117 (Nat.le_of_ble_eq_true rfl) (Nat.le_of_ble_eq_true rfl) (Nat.le_of_ble_eq_true rfl) dX12_init_297 ?_
  refine n_putF X (k := 51) (of := 37) (v := 37) (by decide) Lmk_0 rfl (by decide) ui_12 (by decide) uw6_31 tyX12_ok nmX12 rfl hmn rfl rfl rfl rfl rfl rfl rfl dX12_init_299 ?_
  refine n_aload_n X dX12_init_302 rfl 0 rfl ?_
  refine n_bipush (v := (68)) X dX12_init_303 (by decide) ?_
  refine n_newaI X (N := 68) (by decide) had (sz0 hs0 had) Lmk_38 Lmn_38 (by decide) (by decide) uw1_117 (Nat.le_of_ble_eq_true rfl) (Nat.le_of_ble_eq_true rfl) (Nat.le_of_ble_eq_true rfl) dX12_init_305 ?_
  refine n_putF X (k := 52) (of := 38) (v := 38) (by decide) Lmk_0 rfl (by decide) ui_12 (by decide) uw6_32 tyX12_ok nmX12 rfl hmn rfl rfl rfl rfl rfl rfl rfl dX12_init_307 ?_
  refine n_aload_n X dX12_init_310 rfl 0 rfl ?_
  refine n_sipush (v := (272)) X dX12_init_311 (by decide) ?_
  refine n_newaI X (N := 272) (by decide) had (sz0 hs0 had) Lmk_39 Lmn_39 (by decide) (by decide) uw1_117 (Nat.le_of_ble_eq_true rfl) (Nat.le_of_ble_eq_true rfl) (Nat.le_of_ble_eq_true rfl) dX12_init_314 ?_
  refine n_putF X (k := 53) (of := 39) (v := 39) (by decide) Lmk_0 rfl (by decide) ui_12 (by decide) uw6_33 tyX12_ok nmX12 rfl hmn rfl rfl rfl rfl rfl rfl rfl dX12_init_316 ?_
  refine n_aload_n X dX12_init_319 rfl 0 rfl ?_
  refine n_iconst (v := (4)) X dX12_init_320 (by decide) ?_
  refine n_newaZ X (N := 4) (by decide) had (sz0 hs0 had) Lmk_40 Lmn_40 (by decide) (by decide) uw6_182 (Nat.le_of_ble_eq_true rfl) (Nat.le_of_ble_eq_true rfl) (Nat.le_of_ble_eq_true rfl) dX12_init_321 ?_
  refine n_putF X (k := 54) (of := 40) (v := 40) (by decide) Lmk_0 rfl (by decide) ui_12 (by decide) uw6_34 tyX12_ok nmX12 rfl hmn rfl rfl rfl rfl rfl rfl rfl dX12_init_323 ?_
  refine n_aload_n X dX12_init_326 rfl 0 rfl ?_
  refine n_bipush (v := (7)) X dX12_init_327 (by decide) ?_
  refine n_newaI X (N := 7) (by decide) had (sz0 hs0 had) Lmk_41 Lmn_41 (by decide) (by decide) uw1_117 (Nat.le_of_ble_eq_true rfl) (Nat.le_of_ble_eq_true rfl) (Nat.le_of_ble_eq_true rfl) dX12_init_329 ?_
  refine n_putF X (k := 56) (of := 41) (v := 41) (by decide) Lmk_0 rfl (by decide) ui_12 (by decide) uw6_36 tyX12_ok nmX12 rfl hmn rfl rfl rfl rfl rfl rfl rfl dX12_init_331 ?_
  refine n_aload_n X dX12_init_334 rfl 0 rfl ?_
  refine n_bipush (v := (7)) X dX12_init_335 (by decide) ?_
  refine n_newaI X (N := 7) (by decide) had (sz0 hs0 had) Lmk_42 Lmn_42 (by decide) (by decide) uw1_117 (Nat.le_of_ble_eq_true rfl) (Nat.le_of_ble_eq_true rfl) (Nat.le_of_ble_eq_true rfl) dX12_init_337 ?_
  refine n_putF X (k := 57) (of := 42) (v := 42) (by decide) Lmk_0 rfl (by decide) ui_12 (by decide) uw6_37 tyX12_ok nmX12 rfl hmn rfl rfl rfl rfl rfl rfl rfl dX12_init_339 ?_
  refine n_aload_n X dX12_init_342 rfl 0 rfl ?_
  refine n_bipush (v := (7)) X dX12_init_343 (by decide) ?_
  refine n_newaI X (N := 7) (by decide) had (sz0 hs0 had) Lmk_43 Lmn_43 (by decide) (by decide) uw1_117 (Nat.le_of_ble_eq_true rfl) (Nat.le_of_ble_eq_true rfl) (Nat.le_of_ble_eq_true rfl) dX12_init_345 ?_
  refine n_putF X (k := 58) (of := 43) (v := 43) (by decide) Lmk_0 rfl (by decide) ui_12 (by decide) uw6_38 tyX12_ok nmX12 rfl hmn rfl rfl rfl rfl rfl rfl rfl dX12_init_347 ?_
  refine n_aload_n X dX12_init_350 rfl 0 rfl ?_
  refine n_bipush (v := (7)) X dX12_init_351 (by decide) ?_
  refine n_newaI X (N := 7) (by decide) had (sz0 hs0 had) Lmk_44 Lmn_44 (by decide) (by decide) uw1_117 (Nat.le_of_ble_eq_true rfl) (Nat.le_of_ble_eq_true rfl) (Nat.le_of_ble_eq_true rfl) dX12_init_353 ?_
  refine n_putF X (k := 59) (of := 44) (v := 44) (by decide) Lmk_0 rfl (by decide) ui_12 (by decide) uw6_39 tyX12_ok nmX12 rfl hmn rfl rfl rfl rfl rfl rfl rfl dX12_init_355 ?_
  refine n_aload_n X dX12_init_358 rfl 0 rfl ?_
  refine n_bipush (v := (60)) X dX12_init_359 (by decide) ?_
  refine n_newaI X (N := 60) (by decide) had (sz0 hs0 had) Lmk_45 Lmn_45 (by decide) (by decide) uw1_117 (Nat.le_of_ble_eq_true rfl) (Nat.le_of_ble_eq_true rfl) (Nat.le_of_ble_eq_true rfl) dX12_init_361 ?_
  refine n_putF X (k := 60) (of := 45) (v := 45) (by decide) Lmk_0 rfl (by decide) ui_12 (by decide) uw6_40 tyX12_ok nmX12 rfl hmn rfl rfl rfl rfl rfl rfl rfl dX12_init_363 ?_
  refine n_aload_n X dX12_init_366 rfl 0 rfl ?_
  refine n_bipush (v := (7)) X dX12_init_367 (by decide) ?_
  refine n_newaI X (N := 7) (by decide) had (sz0 hs0 had) Lmk_46 Lmn_46 (by decide) (by decide) uw1_117 (Nat.le_of_ble_eq_true rfl) (Nat.le_of_ble_eq_true rfl) (Nat.le_of_ble_eq_true rfl) dX12_init_369 ?_
  refine n_putF X (k := 61) (of := 46) (v := 46) (by decide) Lmk_0 rfl (by decide) ui_12 (by decide) uw6_41 tyX12_ok nmX12 rfl hmn rfl rfl rfl rfl rfl rfl rfl dX12_init_371 ?_
  refine n_aload_n X dX12_init_374 rfl 0 rfl ?_
  refine n_bipush (v := (10)) X dX12_init_375 (by decide) ?_
  refine n_newaI X (N := 10) (by decide) had (sz0 hs0 had) Lmk_47 Lmn_47 (by decide) (by decide) uw1_117 (Nat.le_of_ble_eq_true rfl) (Nat.le_of_ble_eq_true rfl) (Nat.le_of_ble_eq_true rfl) dX12_init_377 ?_
  refine n_putF X (k := 65) (of := 47) (v := 47) (by decide) Lmk_0 rfl (by decide) ui_12 (by decide) uw6_45 tyX12_ok nmX12 rfl hmn rfl rfl rfl rfl rfl rfl rfl dX12_init_379 ?_
  refine n_aload_n X dX12_init_382 rfl 0 rfl ?_
  refine n_iconst (v := (0)) X dX12_init_383 (by decide) ?_
  refine n_cVV (As := [.int ((0))]) (rest := []) X (hfull9 0) rfl (k_X12_usual hv0) (i := 0) (by decide) Lmk_0 rfl (by decide) uw5_212 uw5_214 us3_12 uw1_13 uw5_215 rfl rfl dd_X12_usual ⟨Nat.le_of_ble_eq_true rfl, Nat.le_of_ble_eq_true rfl⟩ rfl (Nat.le_of_ble_eq_true rfl) (Nat.le_of_ble_eq_true rfl) (Nat.le_of_ble_eq_true rfl) dX12_init_384 rfl ?_
  refine n_aload_n X dX12_init_387 rfl 0 rfl ?_
  refine n_cVV (As := []) (rest := []) X (hfull9 0) rfl (k_X12_fresh hv1) (i := 0) (by decide) Lmk_0 rfl (by decide) uw5_216 uw5_218 us3_13 uw1_13 uw5_219 rfl rfl dd_X12_fresh ⟨Nat.le_of_ble_eq_true rfl, Nat.le_of_ble_eq_true rfl⟩ rfl (Nat.le_of_ble_eq_true rfl) (Nat.le_of_ble_eq_true rfl) (Nat.le_of_ble_eq_true rfl) dX12_init_388 rfl ?_
  exact n_vret X rfl dX12_init_391 rfl rfl rfl rfl rfl
