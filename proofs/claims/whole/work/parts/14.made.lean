def im_0 (b : Nat)  (mem : Mm) : Mm := zr (zr (mem) (b + 1)) (b + 2)
def if_0 (b : Nat)  (fl : Fl) : Fl := fS (fZ (fS (fZ (fl) (b + 1) 8) (b) 0) (b + 2) 8) (b) 1
theorem dn_0 : yX0_init.cls ≠ "java/lang/invoke/MethodHandle" ∧ yX0_init.cls ≠ "java/lang/invoke/VarHandle" ∧ (parseMethodDescriptor yX0_init.desc).map (fun d => d.parameters.length) = some 0 := by decide +kernel
set_option maxHeartbeats 8000000 in
set_option maxRecDepth 100000 in
theorem kn_0 {l : Launch} {ad : Nat → Nat} {cy : Nat → ClassId} {dC : Nat → ClassId} {dI : Nat → Nat → Nat} {ks : (Nat → Nat) × (Nat → Nat)} {b : Nat}  {mem : Mm} {fl : Fl} (had : ∀ i, ad i = ad 0 + i) (e0 : Lp.1 b = 0) : CtN l Lp ad cy dC dI ks yX0_init cX0_init 1 ({ frames := 1, cells := 2, slots := 16, locals := 20 }) [.ref (ad (b))] (b + 1) mem fl (b + 3) (im_0 b  mem) (if_0 b  fl) 2 16 := by
  have g1 : Lp.1 (b + 1) = 14 ∧ Lp.2.1 (b + 1) = 8 := (by decide +kernel : ∀ i, i < 166 → Lp.1 i = 0 → Lp.1 (i + 1) = 14 ∧ Lp.2.1 (i + 1) = 8) b (Lp_N e0 rfl) e0
  have g2 : Lp.1 (b + 2) = 14 ∧ Lp.2.1 (b + 2) = 8 := (by decide +kernel : ∀ i, i < 166 → Lp.1 i = 0 → Lp.1 (i + 2) = 14 ∧ Lp.2.1 (i + 2) = 8) b (Lp_N e0 rfl) e0
  refine CtN.of (cc := cX0_init) (maxL := 1) (own := RX0) rfl (by decide) rfl (Nat.le_of_ble_eq_true rfl) ?_
  intro p e s m args below meth c A X hAO hmn hs0
  refine n_aload_n X dX0_init_0 rfl 0 rfl ?_
  refine n_obj X uw2_61 uw1_31 uw1_32 dX0_init_1 (Nat.le_of_ble_eq_true rfl) (Nat.le_of_ble_eq_true rfl) ?_
  refine n_aload_n X dX0_init_4 rfl 0 rfl ?_
  refine n_bipush (v := (8)) X dX0_init_5 (by decide) ?_
  refine n_newaI X (N := 8) (by omega) had (sz0 hs0 had) g1.1 g1.2 (by decide) (by decide) uw1_117 (Nat.le_of_ble_eq_true rfl) (Nat.le_of_ble_eq_true rfl) (Nat.le_of_ble_eq_true rfl) dX0_init_7 ?_
  refine n_putF X (k := 0) (of := 1) (v := b + 1) (by omega) e0 rfl (by decide) ui_0 (by decide) uw2_62 tyX0_ok nmX0 rfl hmn rfl rfl rfl rfl rfl rfl rfl dX0_init_9 ?_
  refine n_aload_n X dX0_init_12 rfl 0 rfl ?_
  refine n_bipush (v := (8)) X dX0_init_13 (by decide) ?_
  refine n_newaI X (N := 8) (by omega) had (sz0 hs0 had) g2.1 g2.2 (by decide) (by decide) uw1_117 (Nat.le_of_ble_eq_true rfl) (Nat.le_of_ble_eq_true rfl) (Nat.le_of_ble_eq_true rfl) dX0_init_15 ?_
  refine n_putF X (k := 1) (of := 2) (v := b + 2) (by omega) e0 rfl (by decide) ui_0 (by decide) uw2_63 tyX0_ok nmX0 rfl hmn rfl rfl rfl rfl rfl rfl rfl dX0_init_17 ?_
  exact n_vret X rfl dX0_init_20 rfl rfl rfl rfl rfl
def im_1 (h1 : Nat) (mem : Mm) : Mm := sR (zr (zr (zr (zr (zr (zr (zr (zr (mem) (83)) (84)) (85)) (86)) (87)) (88)) (89)) (90)) (82) 14 (h1)
def if_1 (h1 : Nat) (fl : Fl) : Fl := fS (fS (fZ (fS (fZ (fS (fZ (fS (fZ (fS (fZ (fS (fZ (fS (fZ (fS (fZ (fl) (83) 7) (82) 0) (84) 7) (82) 1) (85) 7) (82) 2) (86) 7) (82) 3) (87) 70) (82) 4) (88) 6) (82) 5) (89) 5) (82) 6) (90) 7) (82) 7) (82) 14
theorem dn_1 : yX1_init.cls ≠ "java/lang/invoke/MethodHandle" ∧ yX1_init.cls ≠ "java/lang/invoke/VarHandle" ∧ (parseMethodDescriptor yX1_init.desc).map (fun d => d.parameters.length) = some 1 := by decide +kernel
set_option maxHeartbeats 8000000 in
set_option maxRecDepth 100000 in
theorem kn_1 {l : Launch} {ad : Nat → Nat} {cy : Nat → ClassId} {dC : Nat → ClassId} {dI : Nat → Nat → Nat} {ks : (Nat → Nat) × (Nat → Nat)} {h1 : Nat} {mem : Mm} {fl : Fl} (had : ∀ i, ad i = ad 0 + i) : CtN l Lp ad cy dC dI ks yX1_init cX1_init 2 ({ frames := 1, cells := 8, slots := 116, locals := 20 }) [.ref (ad (82)), .ref (ad h1)] (83) mem fl (91) (im_1 h1 mem) (if_1 h1 fl) 8 116 := by
  refine CtN.of (cc := cX1_init) (maxL := 2) (own := RX1) rfl (by decide) rfl (Nat.le_of_ble_eq_true rfl) ?_
  intro p e s m args below meth c A X hAO hmn hs0
  refine n_aload_n X dX1_init_0 rfl 0 rfl ?_
  refine n_obj X uw2_103 uw1_31 uw1_32 dX1_init_1 (Nat.le_of_ble_eq_true rfl) (Nat.le_of_ble_eq_true rfl) ?_
  refine n_aload_n X dX1_init_4 rfl 0 rfl ?_
  refine n_bipush (v := (7)) X dX1_init_5 (by decide) ?_
  refine n_newaI X (N := 7) (by decide) had (sz0 hs0 had) Lpk_83 Lpn_83 (by decide) (by decide) uw1_117 (Nat.le_of_ble_eq_true rfl) (Nat.le_of_ble_eq_true rfl) (Nat.le_of_ble_eq_true rfl) dX1_init_7 ?_
  refine n_putF X (k := 0) (of := 1) (v := 83) (by decide) Lpk_82 rfl (by decide) ui_1 (by decide) uw2_104 tyX1_ok nmX1 rfl hmn rfl rfl rfl rfl rfl rfl rfl dX1_init_9 ?_
  refine n_aload_n X dX1_init_12 rfl 0 rfl ?_
  refine n_bipush (v := (7)) X dX1_init_13 (by decide) ?_
  refine n_newaI X (N := 7) (by decide) had (sz0 hs0 had) Lpk_84 Lpn_84 (by decide) (by decide) uw1_117 (Nat.le_of_ble_eq_true rfl) (Nat.le_of_ble_eq_true rfl) (Nat.le_of_ble_eq_true rfl) dX1_init_15 ?_
  refine n_putF X (k := 1) (of := 2) (v := 84) (by decide) Lpk_82 rfl (by decide) ui_1 (by decide) uw2_106 tyX1_ok nmX1 rfl hmn rfl rfl rfl rfl rfl rfl rfl dX1_init_17 ?_
  refine n_aload_n X dX1_init_20 rfl 0 rfl ?_
  refine n_bipush (v := (7)) X dX1_init_21 (by decide) ?_
  refine n_newaI X (N := 7) (by decide) had (sz0 hs0 had) Lpk_85 Lpn_85 (by decide) (by decide) uw1_117 (Nat.le_of_ble_eq_true rfl) (Nat.le_of_ble_eq_true rfl) (Nat.le_of_ble_eq_true rfl) dX1_init_23 ?_
  refine n_putF X (k := 2) (of := 3) (v := 85) (by decide) Lpk_82 rfl (by decide) ui_1 (by decide) uw2_108 tyX1_ok nmX1 rfl hmn rfl rfl rfl rfl rfl rfl rfl dX1_init_25 ?_
  refine n_aload_n X dX1_init_28 rfl 0 rfl ?_
  refine n_bipush (v := (7)) X dX1_init_29 (by decide) ?_
  refine n_newaI X (N := 7) (by decide) had (sz0 hs0 had) Lpk_86 Lpn_86 (by decide) (by decide) uw1_117 (Nat.le_of_ble_eq_true rfl) (Nat.le_of_ble_eq_true rfl) (Nat.le_of_ble_eq_true rfl) dX1_init_31 ?_
  refine n_putF X (k := 3) (of := 4) (v := 86) (by decide) Lpk_82 rfl (by decide) ui_1 (by decide) uw2_110 tyX1_ok nmX1 rfl hmn rfl rfl rfl rfl rfl rfl rfl dX1_init_33 ?_
  refine n_aload_n X dX1_init_36 rfl 0 rfl ?_
  refine n_bipush (v := (70)) X dX1_init_37 (by decide) ?_
  refine n_newaI X (N := 70) (by decide) had (sz0 hs0 had) Lpk_87 Lpn_87 (by decide) (by decide) uw1_117 (Nat.le_of_ble_eq_true rfl) (Nat.le_of_ble_eq_true rfl) (Nat.le_of_ble_eq_true rfl) dX1_init_39 ?_
  refine n_putF X (k := 4) (of := 5) (v := 87) (by decide) Lpk_82 rfl (by decide) ui_1 (by decide) uw2_111 tyX1_ok nmX1 rfl hmn rfl rfl rfl rfl rfl rfl rfl dX1_init_41 ?_
  refine n_aload_n X dX1_init_44 rfl 0 rfl ?_
  refine n_bipush (v := (6)) X dX1_init_45 (by decide) ?_
  refine n_newaI X (N := 6) (by decide) had (sz0 hs0 had) Lpk_88 Lpn_88 (by decide) (by decide) uw1_117 (Nat.le_of_ble_eq_true rfl) (Nat.le_of_ble_eq_true rfl) (Nat.le_of_ble_eq_true rfl) dX1_init_47 ?_
  refine n_putF X (k := 5) (of := 6) (v := 88) (by decide) Lpk_82 rfl (by decide) ui_1 (by decide) uw2_112 tyX1_ok nmX1 rfl hmn rfl rfl rfl rfl rfl rfl rfl dX1_init_49 ?_
  refine n_aload_n X dX1_init_52 rfl 0 rfl ?_
  refine n_iconst (v := (5)) X dX1_init_53 (by decide) ?_
  refine n_newaI X (N := 5) (by decide) had (sz0 hs0 had) Lpk_89 Lpn_89 (by decide) (by decide) uw1_117 (Nat.le_of_ble_eq_true rfl) (Nat.le_of_ble_eq_true rfl) (Nat.le_of_ble_eq_true rfl) dX1_init_54 ?_
  refine n_putF X (k := 6) (of := 7) (v := 89) (by decide) Lpk_82 rfl (by decide) ui_1 (by decide) uw2_113 tyX1_ok nmX1 rfl hmn rfl rfl rfl rfl rfl rfl rfl dX1_init_56 ?_
  refine n_aload_n X dX1_init_59 rfl 0 rfl ?_
  refine n_bipush (v := (7)) X dX1_init_60 (by decide) ?_
  refine n_newaI X (N := 7) (by decide) had (sz0 hs0 had) Lpk_90 Lpn_90 (by decide) (by decide) uw1_117 (Nat.le_of_ble_eq_true rfl) (Nat.le_of_ble_eq_true rfl) (Nat.le_of_ble_eq_true rfl) dX1_init_62 ?_
  refine n_putF X (k := 7) (of := 8) (v := 90) (by decide) Lpk_82 rfl (by decide) ui_1 (by decide) uw2_114 tyX1_ok nmX1 rfl hmn rfl rfl rfl rfl rfl rfl rfl dX1_init_64 ?_
  refine n_aload_n X dX1_init_67 rfl 0 rfl ?_
  refine n_aload_n X dX1_init_68 rfl 1 rfl ?_
  refine n_putM X (k := 14) (v := h1) (by decide) Lpk_82 rfl (by decide) ui_1 (by decide) uw2_123 tyX1_ok nmX1 rfl rfl rfl dX1_init_69 ?_
  exact n_vret X rfl dX1_init_72 rfl rfl rfl rfl rfl
def im_2 (b : Nat) (p1 : Int32) (mem : Mm) : Mm := sI (zr (zr (mem) (b + 1)) (b + 2)) (b) 2 p1
def if_2 (b : Nat) (p1 : Int32) (fl : Fl) : Fl := fS (fZ (fS (fZ (fl) (b + 1) 1000) (b) 0) (b + 2) 32) (b) 1
theorem dn_2 : yX2_init.cls ≠ "java/lang/invoke/MethodHandle" ∧ yX2_init.cls ≠ "java/lang/invoke/VarHandle" ∧ (parseMethodDescriptor yX2_init.desc).map (fun d => d.parameters.length) = some 1 := by decide +kernel
set_option maxHeartbeats 8000000 in
set_option maxRecDepth 100000 in
theorem kn_2 {l : Launch} {ad : Nat → Nat} {cy : Nat → ClassId} {dC : Nat → ClassId} {dI : Nat → Nat → Nat} {ks : (Nat → Nat) × (Nat → Nat)} {b : Nat} {p1 : Int32} {mem : Mm} {fl : Fl} (had : ∀ i, ad i = ad 0 + i) (e0 : Lp.1 b = 2) (hz : bok p1 = true) : CtN l Lp ad cy dC dI ks yX2_init cX2_init 2 ({ frames := 1, cells := 2, slots := 1032, locals := 20 }) [.ref (ad (b)), .int (p1)] (b + 1) mem fl (b + 3) (im_2 b p1 mem) (if_2 b p1 fl) 2 1032 := by
  have g1 : Lp.1 (b + 1) = 14 ∧ Lp.2.1 (b + 1) = 1000 := (by decide +kernel : ∀ i, i < 166 → Lp.1 i = 2 → Lp.1 (i + 1) = 14 ∧ Lp.2.1 (i + 1) = 1000) b (Lp_N e0 rfl) e0
  have g2 : Lp.1 (b + 2) = 14 ∧ Lp.2.1 (b + 2) = 32 := (by decide +kernel : ∀ i, i < 166 → Lp.1 i = 2 → Lp.1 (i + 2) = 14 ∧ Lp.2.1 (i + 2) = 32) b (Lp_N e0 rfl) e0
  refine CtN.of (cc := cX2_init) (maxL := 2) (own := RX2) rfl (by decide) rfl (Nat.le_of_ble_eq_true rfl) ?_
  intro p e s m args below meth c A X hAO hmn hs0
  refine n_aload_n X dX2_init_0 rfl 0 rfl ?_
  refine n_obj X uw1_98 uw1_31 uw1_32 dX2_init_1 (Nat.le_of_ble_eq_true rfl) (Nat.le_of_ble_eq_true rfl) ?_
  refine n_aload_n X dX2_init_4 rfl 0 rfl ?_
  refine n_sipush (v := (1000)) X dX2_init_5 (by decide) ?_
  refine n_newaI X (N := 1000) (by omega) had (sz0 hs0 had) g1.1 g1.2 (by decide) (by decide) uw1_117 (Nat.le_of_ble_eq_true rfl) (Nat.le_of_ble_eq_true rfl) (Nat.le_of_ble_eq_true rfl) dX2_init_8 ?_
  refine n_putF X (k := 0) (of := 1) (v := b + 1) (by omega) e0 rfl (by decide) ui_2 (by decide) uw1_99 tyX2_ok nmX2 rfl hmn rfl rfl rfl rfl rfl rfl rfl dX2_init_10 ?_
  refine n_aload_n X dX2_init_13 rfl 0 rfl ?_
  refine n_bipush (v := (32)) X dX2_init_14 (by decide) ?_
  refine n_newaI X (N := 32) (by omega) had (sz0 hs0 had) g2.1 g2.2 (by decide) (by decide) uw1_117 (Nat.le_of_ble_eq_true rfl) (Nat.le_of_ble_eq_true rfl) (Nat.le_of_ble_eq_true rfl) dX2_init_16 ?_
  refine n_putF X (k := 1) (of := 2) (v := b + 2) (by omega) e0 rfl (by decide) ui_2 (by decide) uw1_100 tyX2_ok nmX2 rfl hmn rfl rfl rfl rfl rfl rfl rfl dX2_init_18 ?_
  refine n_aload_n X dX2_init_21 rfl 0 rfl ?_
  refine n_iload_n X dX2_init_22 rfl 1 rfl ?_
  refine n_putZF X (k := 2) (by omega) e0 rfl (by decide) ui_2 (by decide) uw1_101 tyX2_ok nmX2 rfl hmn rfl rfl hz rfl dX2_init_23 ?_
  exact n_vret X rfl dX2_init_26 rfl rfl rfl rfl rfl
def im_4 (b : Nat)  (mem : Mm) : Mm := zr (mem) (b + 1)
def if_4 (b : Nat)  (fl : Fl) : Fl := fS (fZ (fl) (b + 1) 18) (b) 0
theorem dn_4 : yX4_init.cls ≠ "java/lang/invoke/MethodHandle" ∧ yX4_init.cls ≠ "java/lang/invoke/VarHandle" ∧ (parseMethodDescriptor yX4_init.desc).map (fun d => d.parameters.length) = some 0 := by decide +kernel
set_option maxHeartbeats 8000000 in
set_option maxRecDepth 100000 in
theorem kn_4 {l : Launch} {ad : Nat → Nat} {cy : Nat → ClassId} {dC : Nat → ClassId} {dI : Nat → Nat → Nat} {ks : (Nat → Nat) × (Nat → Nat)} {b : Nat}  {mem : Mm} {fl : Fl} (had : ∀ i, ad i = ad 0 + i) (e0 : Lp.1 b = 4) : CtN l Lp ad cy dC dI ks yX4_init cX4_init 1 ({ frames := 1, cells := 1, slots := 18, locals := 20 }) [.ref (ad (b))] (b + 1) mem fl (b + 2) (im_4 b  mem) (if_4 b  fl) 1 18 := by
  have g1 : Lp.1 (b + 1) = 14 ∧ Lp.2.1 (b + 1) = 18 := (by decide +kernel : ∀ i, i < 166 → Lp.1 i = 4 → Lp.1 (i + 1) = 14 ∧ Lp.2.1 (i + 1) = 18) b (Lp_N e0 rfl) e0
  refine CtN.of (cc := cX4_init) (maxL := 1) (own := RX4) rfl (by decide) rfl (Nat.le_of_ble_eq_true rfl) ?_
  intro p e s m args below meth c A X hAO hmn hs0
  refine n_aload_n X dX4_init_0 rfl 0 rfl ?_
  refine n_obj X uw1_122 uw1_31 uw1_32 dX4_init_1 (Nat.le_of_ble_eq_true rfl) (Nat.le_of_ble_eq_true rfl) ?_
  refine n_aload_n X dX4_init_4 rfl 0 rfl ?_
  refine n_bipush (v := (18)) X dX4_init_5 (by decide) ?_
  refine n_newaI X (N := 18) (by omega) had (sz0 hs0 had) g1.1 g1.2 (by decide) (by decide) uw1_117 (Nat.le_of_ble_eq_true rfl) (Nat.le_of_ble_eq_true rfl) (Nat.le_of_ble_eq_true rfl) dX4_init_7 ?_
  refine n_putF X (k := 0) (of := 1) (v := b + 1) (by omega) e0 rfl (by decide) ui_4 (by decide) uw1_123 tyX4_ok nmX4 rfl hmn rfl rfl rfl rfl rfl rfl rfl dX4_init_9 ?_
  exact n_vret X rfl dX4_init_12 rfl rfl rfl rfl rfl
def im_5  (mem : Mm) : Mm := mem
def if_5  (fl : Fl) : Fl := fS (fl) (3) 0
theorem dn_5 : yX5_init.cls ≠ "java/lang/invoke/MethodHandle" ∧ yX5_init.cls ≠ "java/lang/invoke/VarHandle" ∧ (parseMethodDescriptor yX5_init.desc).map (fun d => d.parameters.length) = some 1 := by decide +kernel
set_option maxHeartbeats 8000000 in
set_option maxRecDepth 100000 in
theorem kn_5 {l : Launch} {ad : Nat → Nat} {cy : Nat → ClassId} {dC : Nat → ClassId} {dI : Nat → Nat → Nat} {ks : (Nat → Nat) × (Nat → Nat)}  {mem : Mm} {fl : Fl} (had : ∀ i, ad i = ad 0 + i) : CtN l Lp ad cy dC dI ks yX5_init cX5_init 2 ({ frames := 1, cells := 0, slots := 0, locals := 20 }) [.ref (ad (3)), .ref (ad (1))] (4) mem fl (4) (im_5  mem) (if_5  fl) 0 0 := by
  refine CtN.of (cc := cX5_init) (maxL := 2) (own := RX5) rfl (by decide) rfl (Nat.le_of_ble_eq_true rfl) ?_
  intro p e s m args below meth c A X hAO hmn hs0
  refine n_aload_n X dX5_init_0 rfl 0 rfl ?_
  refine n_obj X uw1_72 uw1_31 uw1_32 dX5_init_1 (Nat.le_of_ble_eq_true rfl) (Nat.le_of_ble_eq_true rfl) ?_
  refine n_aload_n X dX5_init_4 rfl 0 rfl ?_
  refine n_aload_n X dX5_init_5 rfl 1 rfl ?_
  refine n_putB X (k := 0) (of := 2) (v := 1) (by decide) Lpk_3 rfl (by decide) ui_5 (by decide) uw1_73 tyX5_ok nmX5 rfl hmn rfl rfl rfl rfl rfl rfl rfl dX5_init_6 ?_
  exact n_vret X rfl dX5_init_9 rfl rfl rfl rfl rfl
def im_6 (b : Nat)  (mem : Mm) : Mm := sI (sI (zr (mem) (b + 1)) (b) 2 (30)) (b) 4 (60)
def if_6 (b : Nat)  (fl : Fl) : Fl := fS (fZ (fl) (b + 1) 12) (b) 0
theorem dn_6 : yX6_init.cls ≠ "java/lang/invoke/MethodHandle" ∧ yX6_init.cls ≠ "java/lang/invoke/VarHandle" ∧ (parseMethodDescriptor yX6_init.desc).map (fun d => d.parameters.length) = some 0 := by decide +kernel
set_option maxHeartbeats 8000000 in
set_option maxRecDepth 100000 in
theorem kn_6 {l : Launch} {ad : Nat → Nat} {cy : Nat → ClassId} {dC : Nat → ClassId} {dI : Nat → Nat → Nat} {ks : (Nat → Nat) × (Nat → Nat)} {b : Nat}  {mem : Mm} {fl : Fl} (had : ∀ i, ad i = ad 0 + i) (e0 : Lp.1 b = 6) : CtN l Lp ad cy dC dI ks yX6_init cX6_init 1 ({ frames := 1, cells := 1, slots := 12, locals := 20 }) [.ref (ad (b))] (b + 1) mem fl (b + 2) (im_6 b  mem) (if_6 b  fl) 1 12 := by
  have g1 : Lp.1 (b + 1) = 14 ∧ Lp.2.1 (b + 1) = 12 := (by decide +kernel : ∀ i, i < 166 → Lp.1 i = 6 → Lp.1 (i + 1) = 14 ∧ Lp.2.1 (i + 1) = 12) b (Lp_N e0 rfl) e0
  refine CtN.of (cc := cX6_init) (maxL := 1) (own := RX6) rfl (by decide) rfl (Nat.le_of_ble_eq_true rfl) ?_
  intro p e s m args below meth c A X hAO hmn hs0
  refine n_aload_n X dX6_init_0 rfl 0 rfl ?_
  refine n_obj X uw2_3 uw1_31 uw1_32 dX6_init_1 (Nat.le_of_ble_eq_true rfl) (Nat.le_of_ble_eq_true rfl) ?_
  refine n_aload_n X dX6_init_4 rfl 0 rfl ?_
  refine n_bipush (v := (12)) X dX6_init_5 (by decide) ?_
  refine n_newaI X (N := 12) (by omega) had (sz0 hs0 had) g1.1 g1.2 (by decide) (by decide) uw1_117 (Nat.le_of_ble_eq_true rfl) (Nat.le_of_ble_eq_true rfl) (Nat.le_of_ble_eq_true rfl) dX6_init_7 ?_
  refine n_putF X (k := 0) (of := 1) (v := b + 1) (by omega) e0 rfl (by decide) ui_6 (by decide) uw2_4 tyX6_ok nmX6 rfl hmn rfl rfl rfl rfl rfl rfl rfl dX6_init_9 ?_
  refine n_aload_n X dX6_init_12 rfl 0 rfl ?_
  refine n_bipush (v := (30)) X dX6_init_13 (by decide) ?_
  refine n_putI X (k := 2) (by omega) e0 rfl (by decide) ui_6 (by decide) uw2_9 tyX6_ok nmX6 rfl rfl rfl dX6_init_15 ?_
  refine n_aload_n X dX6_init_18 rfl 0 rfl ?_
  refine n_bipush (v := (60)) X dX6_init_19 (by decide) ?_
  refine n_putI X (k := 4) (by omega) e0 rfl (by decide) ui_6 (by decide) uw2_14 tyX6_ok nmX6 rfl rfl rfl dX6_init_21 ?_
  exact n_vret X rfl dX6_init_24 rfl rfl rfl rfl rfl
def im_8  (mem : Mm) : Mm := zr (zr (mem) (80)) (81)
def if_8  (fl : Fl) : Fl := fS (fZ (fS (fZ (fl) (80) 12) (79) 0) (81) 120) (79) 1
theorem dn_8 : yX8_init.cls ≠ "java/lang/invoke/MethodHandle" ∧ yX8_init.cls ≠ "java/lang/invoke/VarHandle" ∧ (parseMethodDescriptor yX8_init.desc).map (fun d => d.parameters.length) = some 0 := by decide +kernel
set_option maxHeartbeats 8000000 in
set_option maxRecDepth 100000 in
theorem kn_8 {l : Launch} {ad : Nat → Nat} {cy : Nat → ClassId} {dC : Nat → ClassId} {dI : Nat → Nat → Nat} {ks : (Nat → Nat) × (Nat → Nat)}  {mem : Mm} {fl : Fl} (had : ∀ i, ad i = ad 0 + i) : CtN l Lp ad cy dC dI ks yX8_init cX8_init 1 ({ frames := 1, cells := 2, slots := 132, locals := 20 }) [.ref (ad (79))] (80) mem fl (82) (im_8  mem) (if_8  fl) 2 132 := by
  refine CtN.of (cc := cX8_init) (maxL := 1) (own := RX8) rfl (by decide) rfl (Nat.le_of_ble_eq_true rfl) ?_
  intro p e s m args below meth c A X hAO hmn hs0
  refine n_aload_n X dX8_init_0 rfl 0 rfl ?_
  refine n_obj X uw2_78 uw1_31 uw1_32 dX8_init_1 (Nat.le_of_ble_eq_true rfl) (Nat.le_of_ble_eq_true rfl) ?_
  refine n_aload_n X dX8_init_4 rfl 0 rfl ?_
  refine n_bipush (v := (12)) X dX8_init_5 (by decide) ?_
  refine n_newaI X (N := 12) (by decide) had (sz0 hs0 had) Lpk_80 Lpn_80 (by decide) (by decide) uw1_117 (Nat.le_of_ble_eq_true rfl) (Nat.le_of_ble_eq_true rfl) (Nat.le_of_ble_eq_true rfl) dX8_init_7 ?_
  refine n_putF X (k := 0) (of := 1) (v := 80) (by decide) Lpk_79 rfl (by decide) ui_8 (by decide) uw2_79 tyX8_ok nmX8 rfl hmn rfl rfl rfl rfl rfl rfl rfl dX8_init_9 ?_
  refine n_aload_n X dX8_init_12 rfl 0 rfl ?_
  refine n_bipush (v := (120)) X dX8_init_13 (by decide) ?_
  refine n_newaI X (N := 120) (by decide) had (sz0 hs0 had) Lpk_81 Lpn_81 (by decide) (by decide) uw1_117 (Nat.le_of_ble_eq_true rfl) (Nat.le_of_ble_eq_true rfl) (Nat.le_of_ble_eq_true rfl) dX8_init_15 ?_
  refine n_putF X (k := 1) (of := 2) (v := 81) (by decide) Lpk_79 rfl (by decide) ui_8 (by decide) uw2_80 tyX8_ok nmX8 rfl hmn rfl rfl rfl rfl rfl rfl rfl dX8_init_17 ?_
  exact n_vret X rfl dX8_init_20 rfl rfl rfl rfl rfl
def im_9  (mem : Mm) : Mm := zr (mem) (2)
def if_9  (fl : Fl) : Fl := fS (fZ (fl) (2) 1000) (1) 0
theorem dn_9 : yX9_init.cls ≠ "java/lang/invoke/MethodHandle" ∧ yX9_init.cls ≠ "java/lang/invoke/VarHandle" ∧ (parseMethodDescriptor yX9_init.desc).map (fun d => d.parameters.length) = some 0 := by decide +kernel
set_option maxHeartbeats 8000000 in
set_option maxRecDepth 100000 in
theorem kn_9 {l : Launch} {ad : Nat → Nat} {cy : Nat → ClassId} {dC : Nat → ClassId} {dI : Nat → Nat → Nat} {ks : (Nat → Nat) × (Nat → Nat)}  {mem : Mm} {fl : Fl} (had : ∀ i, ad i = ad 0 + i) : CtN l Lp ad cy dC dI ks yX9_init cX9_init 1 ({ frames := 1, cells := 1, slots := 1000, locals := 20 }) [.ref (ad (1))] (2) mem fl (3) (im_9  mem) (if_9  fl) 1 1000 := by
  refine CtN.of (cc := cX9_init) (maxL := 1) (own := RX9) rfl (by decide) rfl (Nat.le_of_ble_eq_true rfl) ?_
  intro p e s m args below meth c A X hAO hmn hs0
  refine n_aload_n X dX9_init_0 rfl 0 rfl ?_
  refine n_obj X uw1_38 uw1_31 uw1_32 dX9_init_1 (Nat.le_of_ble_eq_true rfl) (Nat.le_of_ble_eq_true rfl) ?_
  refine n_aload_n X dX9_init_4 rfl 0 rfl ?_
  refine n_sipush (v := (1000)) X dX9_init_5 (by decide) ?_
  refine n_newaB X (N := 1000) (by decide) had (sz0 hs0 had) Lpk_2 Lpn_2 (by decide) (by decide) uw1_66 (Nat.le_of_ble_eq_true rfl) (Nat.le_of_ble_eq_true rfl) (Nat.le_of_ble_eq_true rfl) dX9_init_8 ?_
  refine n_putF X (k := 0) (of := 1) (v := 2) (by decide) Lpk_1 rfl (by decide) ui_9 (by decide) uw1_39 tyX9_ok nmX9 rfl hmn rfl rfl rfl rfl rfl rfl rfl dX9_init_10 ?_
  exact n_vret X rfl dX9_init_13 rfl rfl rfl rfl rfl
def im_10 (b : Nat)  (mem : Mm) : Mm := zr (zr (zr (mem) (b + 1)) (b + 2)) (b + 3)
def if_10 (b : Nat)  (fl : Fl) : Fl := fS (fZ (fS (fZ (fS (fZ (fl) (b + 1) 40) (b) 0) (b + 2) 40) (b) 1) (b + 3) 40) (b) 2
theorem dn_10 : yX10_init.cls ≠ "java/lang/invoke/MethodHandle" ∧ yX10_init.cls ≠ "java/lang/invoke/VarHandle" ∧ (parseMethodDescriptor yX10_init.desc).map (fun d => d.parameters.length) = some 0 := by decide +kernel
set_option maxHeartbeats 8000000 in
set_option maxRecDepth 100000 in
theorem kn_10 {l : Launch} {ad : Nat → Nat} {cy : Nat → ClassId} {dC : Nat → ClassId} {dI : Nat → Nat → Nat} {ks : (Nat → Nat) × (Nat → Nat)} {b : Nat}  {mem : Mm} {fl : Fl} (had : ∀ i, ad i = ad 0 + i) (e0 : Lp.1 b = 10) : CtN l Lp ad cy dC dI ks yX10_init cX10_init 1 ({ frames := 1, cells := 3, slots := 120, locals := 20 }) [.ref (ad (b))] (b + 1) mem fl (b + 4) (im_10 b  mem) (if_10 b  fl) 3 120 := by
  have g1 : Lp.1 (b + 1) = 14 ∧ Lp.2.1 (b + 1) = 40 := (by decide +kernel : ∀ i, i < 166 → Lp.1 i = 10 → Lp.1 (i + 1) = 14 ∧ Lp.2.1 (i + 1) = 40) b (Lp_N e0 rfl) e0
  have g2 : Lp.1 (b + 2) = 14 ∧ Lp.2.1 (b + 2) = 40 := (by decide +kernel : ∀ i, i < 166 → Lp.1 i = 10 → Lp.1 (i + 2) = 14 ∧ Lp.2.1 (i + 2) = 40) b (Lp_N e0 rfl) e0
  have g3 : Lp.1 (b + 3) = 14 ∧ Lp.2.1 (b + 3) = 40 := (by decide +kernel : ∀ i, i < 166 → Lp.1 i = 10 → Lp.1 (i + 3) = 14 ∧ Lp.2.1 (i + 3) = 40) b (Lp_N e0 rfl) e0
  refine CtN.of (cc := cX10_init) (maxL := 1) (own := RX10) rfl (by decide) rfl (Nat.le_of_ble_eq_true rfl) ?_
  intro p e s m args below meth c A X hAO hmn hs0
  refine n_aload_n X dX10_init_0 rfl 0 rfl ?_
  refine n_obj X uw2_37 uw1_31 uw1_32 dX10_init_1 (Nat.le_of_ble_eq_true rfl) (Nat.le_of_ble_eq_true rfl) ?_
  refine n_aload_n X dX10_init_4 rfl 0 rfl ?_
  refine n_bipush (v := (40)) X dX10_init_5 (by decide) ?_
  refine n_newaI X (N := 40) (by omega) had (sz0 hs0 had) g1.1 g1.2 (by decide) (by decide) uw1_117 (Nat.le_of_ble_eq_true rfl) (Nat.le_of_ble_eq_true rfl) (Nat.le_of_ble_eq_true rfl) dX10_init_7 ?_
  refine n_putF X (k := 0) (of := 1) (v := b + 1) (by omega) e0 rfl (by decide) ui_10 (by decide) uw2_38 tyX10_ok nmX10 rfl hmn rfl rfl rfl rfl rfl rfl rfl dX10_init_9 ?_
  refine n_aload_n X dX10_init_12 rfl 0 rfl ?_
  refine n_bipush (v := (40)) X dX10_init_13 (by decide) ?_
  refine n_newaI X (N := 40) (by omega) had (sz0 hs0 had) g2.1 g2.2 (by decide) (by decide) uw1_117 (Nat.le_of_ble_eq_true rfl) (Nat.le_of_ble_eq_true rfl) (Nat.le_of_ble_eq_true rfl) dX10_init_15 ?_
  refine n_putF X (k := 1) (of := 2) (v := b + 2) (by omega) e0 rfl (by decide) ui_10 (by decide) uw2_40 tyX10_ok nmX10 rfl hmn rfl rfl rfl rfl rfl rfl rfl dX10_init_17 ?_
  refine n_aload_n X dX10_init_20 rfl 0 rfl ?_
  refine n_bipush (v := (40)) X dX10_init_21 (by decide) ?_
  refine n_newaI X (N := 40) (by omega) had (sz0 hs0 had) g3.1 g3.2 (by decide) (by decide) uw1_117 (Nat.le_of_ble_eq_true rfl) (Nat.le_of_ble_eq_true rfl) (Nat.le_of_ble_eq_true rfl) dX10_init_23 ?_
  refine n_putF X (k := 2) (of := 3) (v := b + 3) (by omega) e0 rfl (by decide) ui_10 (by decide) uw2_42 tyX10_ok nmX10 rfl hmn rfl rfl rfl rfl rfl rfl rfl dX10_init_25 ?_
  exact n_vret X rfl dX10_init_28 rfl rfl rfl rfl rfl
def im_3 (b : Nat)  (mem : Mm) : Mm := im_0 (b + 7)  (zr (im_10 (b + 3)  (zr (im_6 (b + 1)  (zr (mem) (b + 1))) (b + 3))) (b + 7))
def if_3 (b : Nat)  (fl : Fl) : Fl := fS (if_0 (b + 7)  (fZ (fS (if_10 (b + 3)  (fZ (fS (if_6 (b + 1)  (fZ (fl) (b + 1) 6)) (b) 0) (b + 3) 4)) (b) 1) (b + 7) 3)) (b) 2
theorem dn_3 : yX3_init.cls ≠ "java/lang/invoke/MethodHandle" ∧ yX3_init.cls ≠ "java/lang/invoke/VarHandle" ∧ (parseMethodDescriptor yX3_init.desc).map (fun d => d.parameters.length) = some 0 := by decide +kernel
set_option maxHeartbeats 8000000 in
set_option maxRecDepth 100000 in
theorem kn_3 {l : Launch} {ad : Nat → Nat} {cy : Nat → ClassId} {dC : Nat → ClassId} {dI : Nat → Nat → Nat} {ks : (Nat → Nat) × (Nat → Nat)} {b : Nat}  {mem : Mm} {fl : Fl} (had : ∀ i, ad i = ad 0 + i) (e0 : Lp.1 b = 3) : CtN l Lp ad cy dC dI ks yX3_init cX3_init 1 ({ frames := 2, cells := 9, slots := 161, locals := 40 }) [.ref (ad (b))] (b + 1) mem fl (b + 10) (im_3 b  mem) (if_3 b  fl) 9 161 := by
  have g1 : Lp.1 (b + 1) = 6 ∧ Lp.2.1 (b + 1) = 0 := (by decide +kernel : ∀ i, i < 166 → Lp.1 i = 3 → Lp.1 (i + 1) = 6 ∧ Lp.2.1 (i + 1) = 0) b (Lp_N e0 rfl) e0
  have g3 : Lp.1 (b + 3) = 10 ∧ Lp.2.1 (b + 3) = 0 := (by decide +kernel : ∀ i, i < 166 → Lp.1 i = 3 → Lp.1 (i + 3) = 10 ∧ Lp.2.1 (i + 3) = 0) b (Lp_N e0 rfl) e0
  have g7 : Lp.1 (b + 7) = 0 ∧ Lp.2.1 (b + 7) = 0 := (by decide +kernel : ∀ i, i < 166 → Lp.1 i = 3 → Lp.1 (i + 7) = 0 ∧ Lp.2.1 (i + 7) = 0) b (Lp_N e0 rfl) e0
  refine CtN.of (cc := cX3_init) (maxL := 1) (own := RX3) rfl (by decide) rfl (Nat.le_of_ble_eq_true rfl) ?_
  intro p e s m args below meth c A X hAO hmn hs0
  refine n_aload_n X dX3_init_0 rfl 0 rfl ?_
  refine n_obj X uw2_161 uw1_31 uw1_32 dX3_init_1 (Nat.le_of_ble_eq_true rfl) (Nat.le_of_ble_eq_true rfl) ?_
  refine n_aload_n X dX3_init_4 rfl 0 rfl ?_
  refine n_new X (Nf := 6) (ty0 := tyX6) (by omega) had (sz0 hs0 had) g1.1 (by decide) rfl ui_6 tyX6_ok df_6 rfl uw2_162 uw1_239 uw1_7 (Nat.le_of_ble_eq_true rfl) (Nat.le_of_ble_eq_true rfl) dX3_init_5 ?_
  refine n_dup X dX3_init_8 rfl ?_
  refine n_cIN (As := []) (rest := [.ref (ad (b + 1)), .ref (ad (b))]) X hAO (by omega) had (sz0 hs0 had) (kn_6 (b := b + 1) had g1.1) (hAO.2.2.2.2 (.methodLinkNest "StationPiano$Mark" 9 ⟨"StationPiano$State", "<init>", "()V"⟩ "StationPiano") (List.mem_of_getElem? (i := 7) rfl)) uw2_1 uw1_7 uw2_2 rfl rfl rfl dn_6 ⟨Nat.le_of_ble_eq_true rfl, Nat.le_of_ble_eq_true rfl⟩ rfl (Nat.le_of_ble_eq_true rfl) (Nat.le_of_ble_eq_true rfl) (Nat.le_of_ble_eq_true rfl) dX3_init_9 rfl ?_
  refine n_putF X (k := 0) (of := 1) (v := b + 1) (by omega) e0 rfl (by decide) ui_3 (by decide) uw2_168 tyX3_ok nmX3 rfl hmn rfl rfl rfl rfl rfl rfl rfl dX3_init_12 ?_
  refine n_aload_n X dX3_init_15 rfl 0 rfl ?_
  refine n_new X (Nf := 4) (ty0 := tyX10) (by omega) had (sz0 hs0 had) g3.1 (by decide) rfl ui_10 tyX10_ok df_10 rfl uw2_164 uw2_33 uw1_8 (Nat.le_of_ble_eq_true rfl) (Nat.le_of_ble_eq_true rfl) dX3_init_16 ?_
  refine n_dup X dX3_init_19 rfl ?_
  refine n_cIN (As := []) (rest := [.ref (ad (b + 3)), .ref (ad (b))]) X hAO (by omega) had (sz0 hs0 had) (kn_10 (b := b + 3) had g3.1) (hAO.2.2.2.2 (.methodLinkNest "StationPiano$Mark" 18 ⟨"StationPiano$Week", "<init>", "()V"⟩ "StationPiano") (List.mem_of_getElem? (i := 8) rfl)) uw2_35 uw1_8 uw2_36 rfl rfl rfl dn_10 ⟨Nat.le_of_ble_eq_true rfl, Nat.le_of_ble_eq_true rfl⟩ rfl (Nat.le_of_ble_eq_true rfl) (Nat.le_of_ble_eq_true rfl) (Nat.le_of_ble_eq_true rfl) dX3_init_20 rfl ?_
  refine n_putF X (k := 1) (of := 3) (v := b + 3) (by omega) e0 rfl (by decide) ui_3 (by decide) uw2_169 tyX3_ok nmX3 rfl hmn rfl rfl rfl rfl rfl rfl rfl dX3_init_23 ?_
  refine n_aload_n X dX3_init_26 rfl 0 rfl ?_
  refine n_new X (Nf := 3) (ty0 := tyX0) (by omega) had (sz0 hs0 had) g7.1 (by decide) rfl ui_0 tyX0_ok df_0 rfl uw2_166 uw2_57 uw1_9 (Nat.le_of_ble_eq_true rfl) (Nat.le_of_ble_eq_true rfl) dX3_init_27 ?_
  refine n_dup X dX3_init_30 rfl ?_
  refine n_cIN (As := []) (rest := [.ref (ad (b + 7)), .ref (ad (b))]) X hAO (by omega) had (sz0 hs0 had) (kn_0 (b := b + 7) had g7.1) (hAO.2.2.2.2 (.methodLinkNest "StationPiano$Mark" 25 ⟨"StationPiano$Clues", "<init>", "()V"⟩ "StationPiano") (List.mem_of_getElem? (i := 9) rfl)) uw2_59 uw1_9 uw2_60 rfl rfl rfl dn_0 ⟨Nat.le_of_ble_eq_true rfl, Nat.le_of_ble_eq_true rfl⟩ rfl (Nat.le_of_ble_eq_true rfl) (Nat.le_of_ble_eq_true rfl) (Nat.le_of_ble_eq_true rfl) dX3_init_31 rfl ?_
  refine n_putF X (k := 2) (of := 7) (v := b + 7) (by omega) e0 rfl (by decide) ui_3 (by decide) uw2_170 tyX3_ok nmX3 rfl hmn rfl rfl rfl rfl rfl rfl rfl dX3_init_34 ?_
  exact n_vret X rfl dX3_init_37 rfl rfl rfl rfl rfl
def im_7 (b : Nat)  (mem : Mm) : Mm := im_4 (b + 28)  (zr (im_4 (b + 26)  (zr (im_4 (b + 24)  (zr (im_4 (b + 22)  (zr (im_4 (b + 20)  (zr (im_4 (b + 18)  (zr (im_4 (b + 16)  (zr (sI (sI (sI (sI (im_2 (b + 13) (0) (zr (im_2 (b + 10) (1) (zr (zr (zrn (zr (zr (mem) (b + 1)) (b + 2)) (b + 3) 6) (b + 9)) (b + 10))) (b + 13))) (b) 8 (5)) (b) 9 (30)) (b) 11 (60)) (b) 12 (60)) (b + 16))) (b + 18))) (b + 20))) (b + 22))) (b + 24))) (b + 26))) (b + 28))
def if_7 (b : Nat)  (fl : Fl) : Fl := fS (if_4 (b + 28)  (fZ (fS (if_4 (b + 26)  (fZ (fS (if_4 (b + 24)  (fZ (fS (if_4 (b + 22)  (fZ (fS (if_4 (b + 20)  (fZ (fS (if_4 (b + 18)  (fZ (fS (if_4 (b + 16)  (fZ (fS (if_2 (b + 13) (0) (fZ (fS (if_2 (b + 10) (1) (fZ (fS (fZ (fS (fT (fS (fZ (fS (fZ (fl) (b + 1) 5) (b) 0) (b + 2) 5) (b) 1) (b + 3)) (b) 2) (b + 9) 7) (b) 3) (b + 10) 5)) (b) 4) (b + 13) 5)) (b) 5) (b + 16) 9)) (b + 9) 0) (b + 18) 9)) (b + 9) 1) (b + 20) 9)) (b + 9) 2) (b + 22) 9)) (b + 9) 3) (b + 24) 9)) (b + 9) 4) (b + 26) 9)) (b + 9) 5) (b + 28) 9)) (b + 9) 6
theorem dn_7 : yX7_init.cls ≠ "java/lang/invoke/MethodHandle" ∧ yX7_init.cls ≠ "java/lang/invoke/VarHandle" ∧ (parseMethodDescriptor yX7_init.desc).map (fun d => d.parameters.length) = some 0 := by decide +kernel
set_option maxHeartbeats 8000000 in
set_option maxRecDepth 100000 in
theorem kn_7 {l : Launch} {ad : Nat → Nat} {cy : Nat → ClassId} {dC : Nat → ClassId} {dI : Nat → Nat → Nat} {ks : (Nat → Nat) × (Nat → Nat)} {b : Nat}  {mem : Mm} {fl : Fl} (had : ∀ i, ad i = ad 0 + i) (e0 : Lp.1 b = 7) : CtN l Lp ad cy dC dI ks yX7_init cX7_init 2 ({ frames := 2, cells := 29, slots := 2330, locals := 41 }) [.ref (ad (b))] (b + 1) mem fl (b + 30) (im_7 b  mem) (if_7 b  fl) 29 2330 := by
  have g1 : Lp.1 (b + 1) = 15 ∧ Lp.2.1 (b + 1) = 5 := (by decide +kernel : ∀ i, i < 166 → Lp.1 i = 7 → Lp.1 (i + 1) = 15 ∧ Lp.2.1 (i + 1) = 5) b (Lp_N e0 rfl) e0
  have g2 : Lp.1 (b + 2) = 14 ∧ Lp.2.1 (b + 2) = 5 := (by decide +kernel : ∀ i, i < 166 → Lp.1 i = 7 → Lp.1 (i + 2) = 14 ∧ Lp.2.1 (i + 2) = 5) b (Lp_N e0 rfl) e0
  have g3 : Lp.1 (b + 3) = 20 ∧ Lp.2.1 (b + 3) = 5 := (by decide +kernel : ∀ i, i < 166 → Lp.1 i = 7 → Lp.1 (i + 3) = 20 ∧ Lp.2.1 (i + 3) = 5) b (Lp_N e0 rfl) e0
  have g4 : Lp.1 (b + 4) = 14 ∧ Lp.2.1 (b + 4) = 9 := (by decide +kernel : ∀ i, i < 166 → Lp.1 i = 7 → Lp.1 (i + 4) = 14 ∧ Lp.2.1 (i + 4) = 9) b (Lp_N e0 rfl) e0
  have g5 : Lp.1 (b + 5) = 14 ∧ Lp.2.1 (b + 5) = 9 := (by decide +kernel : ∀ i, i < 166 → Lp.1 i = 7 → Lp.1 (i + 5) = 14 ∧ Lp.2.1 (i + 5) = 9) b (Lp_N e0 rfl) e0
  have g6 : Lp.1 (b + 6) = 14 ∧ Lp.2.1 (b + 6) = 9 := (by decide +kernel : ∀ i, i < 166 → Lp.1 i = 7 → Lp.1 (i + 6) = 14 ∧ Lp.2.1 (i + 6) = 9) b (Lp_N e0 rfl) e0
  have g7 : Lp.1 (b + 7) = 14 ∧ Lp.2.1 (b + 7) = 9 := (by decide +kernel : ∀ i, i < 166 → Lp.1 i = 7 → Lp.1 (i + 7) = 14 ∧ Lp.2.1 (i + 7) = 9) b (Lp_N e0 rfl) e0
  have g8 : Lp.1 (b + 8) = 14 ∧ Lp.2.1 (b + 8) = 9 := (by decide +kernel : ∀ i, i < 166 → Lp.1 i = 7 → Lp.1 (i + 8) = 14 ∧ Lp.2.1 (i + 8) = 9) b (Lp_N e0 rfl) e0
  have g9 : Lp.1 (b + 9) = 18 ∧ Lp.2.1 (b + 9) = 7 := (by decide +kernel : ∀ i, i < 166 → Lp.1 i = 7 → Lp.1 (i + 9) = 18 ∧ Lp.2.1 (i + 9) = 7) b (Lp_N e0 rfl) e0
  have g10 : Lp.1 (b + 10) = 2 ∧ Lp.2.1 (b + 10) = 0 := (by decide +kernel : ∀ i, i < 166 → Lp.1 i = 7 → Lp.1 (i + 10) = 2 ∧ Lp.2.1 (i + 10) = 0) b (Lp_N e0 rfl) e0
  have g13 : Lp.1 (b + 13) = 2 ∧ Lp.2.1 (b + 13) = 0 := (by decide +kernel : ∀ i, i < 166 → Lp.1 i = 7 → Lp.1 (i + 13) = 2 ∧ Lp.2.1 (i + 13) = 0) b (Lp_N e0 rfl) e0
  have g16 : Lp.1 (b + 16) = 4 ∧ Lp.2.1 (b + 16) = 0 := (by decide +kernel : ∀ i, i < 166 → Lp.1 i = 7 → Lp.1 (i + 16) = 4 ∧ Lp.2.1 (i + 16) = 0) b (Lp_N e0 rfl) e0
  have g18 : Lp.1 (b + 18) = 4 ∧ Lp.2.1 (b + 18) = 0 := (by decide +kernel : ∀ i, i < 166 → Lp.1 i = 7 → Lp.1 (i + 18) = 4 ∧ Lp.2.1 (i + 18) = 0) b (Lp_N e0 rfl) e0
  have g20 : Lp.1 (b + 20) = 4 ∧ Lp.2.1 (b + 20) = 0 := (by decide +kernel : ∀ i, i < 166 → Lp.1 i = 7 → Lp.1 (i + 20) = 4 ∧ Lp.2.1 (i + 20) = 0) b (Lp_N e0 rfl) e0
  have g22 : Lp.1 (b + 22) = 4 ∧ Lp.2.1 (b + 22) = 0 := (by decide +kernel : ∀ i, i < 166 → Lp.1 i = 7 → Lp.1 (i + 22) = 4 ∧ Lp.2.1 (i + 22) = 0) b (Lp_N e0 rfl) e0
  have g24 : Lp.1 (b + 24) = 4 ∧ Lp.2.1 (b + 24) = 0 := (by decide +kernel : ∀ i, i < 166 → Lp.1 i = 7 → Lp.1 (i + 24) = 4 ∧ Lp.2.1 (i + 24) = 0) b (Lp_N e0 rfl) e0
  have g26 : Lp.1 (b + 26) = 4 ∧ Lp.2.1 (b + 26) = 0 := (by decide +kernel : ∀ i, i < 166 → Lp.1 i = 7 → Lp.1 (i + 26) = 4 ∧ Lp.2.1 (i + 26) = 0) b (Lp_N e0 rfl) e0
  have g28 : Lp.1 (b + 28) = 4 ∧ Lp.2.1 (b + 28) = 0 := (by decide +kernel : ∀ i, i < 166 → Lp.1 i = 7 → Lp.1 (i + 28) = 4 ∧ Lp.2.1 (i + 28) = 0) b (Lp_N e0 rfl) e0
  refine CtN.of (cc := cX7_init) (maxL := 2) (own := RX7) rfl (by decide) rfl (Nat.le_of_ble_eq_true rfl) ?_
  intro p e s m args below meth c A X hAO hmn hs0
  refine n_aload_n X dX7_init_0 rfl 0 rfl ?_
  refine n_obj X uw1_88 uw1_31 uw1_32 dX7_init_1 (Nat.le_of_ble_eq_true rfl) (Nat.le_of_ble_eq_true rfl) ?_
  refine n_aload_n X dX7_init_4 rfl 0 rfl ?_
  refine n_iconst (v := (5)) X dX7_init_5 (by decide) ?_
  refine n_newaJ X (N := 5) (by omega) had (sz0 hs0 had) g1.1 g1.2 (by decide) (by decide) uw1_116 (Nat.le_of_ble_eq_true rfl) (Nat.le_of_ble_eq_true rfl) (Nat.le_of_ble_eq_true rfl) dX7_init_6 ?_
  refine n_putF X (k := 0) (of := 1) (v := b + 1) (by omega) e0 rfl (by decide) ui_7 (by decide) uw1_166 tyX7_ok nmX7 rfl hmn rfl rfl rfl rfl rfl rfl rfl dX7_init_8 ?_
  refine n_aload_n X dX7_init_11 rfl 0 rfl ?_
  refine n_iconst (v := (5)) X dX7_init_12 (by decide) ?_
  refine n_newaI X (N := 5) (by omega) had (sz0 hs0 had) g2.1 g2.2 (by decide) (by decide) uw1_117 (Nat.le_of_ble_eq_true rfl) (Nat.le_of_ble_eq_true rfl) (Nat.le_of_ble_eq_true rfl) dX7_init_13 ?_
  refine n_putF X (k := 1) (of := 2) (v := b + 2) (by omega) e0 rfl (by decide) ui_7 (by decide) uw1_168 tyX7_ok nmX7 rfl hmn rfl rfl rfl rfl rfl rfl rfl dX7_init_15 ?_
  refine n_aload_n X dX7_init_18 rfl 0 rfl ?_
  refine n_iconst (v := (5)) X dX7_init_19 (by decide) ?_
  refine n_bipush (v := (9)) X dX7_init_20 (by decide) ?_
  refine n_mna X (N' := 5) (K' := 9) hAO (by omega) had (sz0 hs0 had) g3.1 g3.2 (fun i hi => by match i, hi with | 0, _ => exact ⟨g4.1, g4.2⟩  | 1, _ => exact ⟨g5.1, g5.2⟩  | 2, _ => exact ⟨g6.1, g6.2⟩  | 3, _ => exact ⟨g7.1, g7.2⟩  | 4, _ => exact ⟨g8.1, g8.2⟩ | i + 5, h => exact absurd h (by omega)) (by decide) (by decide) (by decide) (by decide) uw1_89 uw1_117 (Nat.le_of_ble_eq_true rfl) (Nat.le_of_ble_eq_true rfl) (Nat.le_of_ble_eq_true rfl) (Nat.le_of_ble_eq_true rfl) (Nat.le_of_ble_eq_true rfl) dX7_init_22 ?_
  refine n_putF X (k := 2) (of := 3) (v := b + 3) (by omega) e0 rfl (by decide) ui_7 (by decide) uw1_171 tyX7_ok nmX7 rfl hmn rfl rfl rfl rfl rfl rfl rfl dX7_init_26 ?_
  refine n_aload_n X dX7_init_29 rfl 0 rfl ?_
  refine n_bipush (v := (7)) X dX7_init_30 (by decide) ?_
  refine n_newq18 X (N := 7) hAO (by omega) had (sz0 hs0 had) g9.1 g9.2 (by decide) (by decide) uw1_91 (Nat.le_of_ble_eq_true rfl) (Nat.le_of_ble_eq_true rfl) (Nat.le_of_ble_eq_true rfl) dX7_init_32 ?_
  refine n_putF X (k := 3) (of := 9) (v := b + 9) (by omega) e0 rfl (by decide) ui_7 (by decide) uw1_174 tyX7_ok nmX7 rfl hmn rfl rfl rfl rfl rfl rfl rfl dX7_init_35 ?_
  refine n_aload_n X dX7_init_38 rfl 0 rfl ?_
  refine n_new X (Nf := 5) (ty0 := tyX2) (by omega) had (sz0 hs0 had) g10.1 (by decide) rfl ui_2 tyX2_ok df_2 rfl uw1_93 uw1_94 uw1_5 (Nat.le_of_ble_eq_true rfl) (Nat.le_of_ble_eq_true rfl) dX7_init_39 ?_
  refine n_dup X dX7_init_42 rfl ?_
  refine n_iconst (v := (1)) X dX7_init_43 (by decide) ?_
  refine n_cI (As := [.int ((1))]) (rest := [.ref (ad (b + 10)), .ref (ad (b))]) X hAO (by omega) had (sz0 hs0 had) (kn_2 (b := b + 10) (p1 := (1)) had g10.1 (by decide)) uw1_95 uw1_96 uw1_5 uw1_97 rfl rfl rfl dn_2 ⟨Nat.le_of_ble_eq_true rfl, Nat.le_of_ble_eq_true rfl⟩ rfl (Nat.le_of_ble_eq_true rfl) (Nat.le_of_ble_eq_true rfl) (Nat.le_of_ble_eq_true rfl) dX7_init_44 rfl ?_
  refine n_putF X (k := 4) (of := 10) (v := b + 10) (by omega) e0 rfl (by decide) ui_7 (by decide) uw1_179 tyX7_ok nmX7 rfl hmn rfl rfl rfl rfl rfl rfl rfl dX7_init_47 ?_
  refine n_aload_n X dX7_init_50 rfl 0 rfl ?_
  refine n_new X (Nf := 5) (ty0 := tyX2) (by omega) had (sz0 hs0 had) g13.1 (by decide) rfl ui_2 tyX2_ok df_2 rfl uw1_93 uw1_94 uw1_5 (Nat.le_of_ble_eq_true rfl) (Nat.le_of_ble_eq_true rfl) dX7_init_51 ?_
  refine n_dup X dX7_init_54 rfl ?_
  refine n_iconst (v := (0)) X dX7_init_55 (by decide) ?_
  refine n_cI (As := [.int ((0))]) (rest := [.ref (ad (b + 13)), .ref (ad (b))]) X hAO (by omega) had (sz0 hs0 had) (kn_2 (b := b + 13) (p1 := (0)) had g13.1 (by decide)) uw1_95 uw1_96 uw1_5 uw1_97 rfl rfl rfl dn_2 ⟨Nat.le_of_ble_eq_true rfl, Nat.le_of_ble_eq_true rfl⟩ rfl (Nat.le_of_ble_eq_true rfl) (Nat.le_of_ble_eq_true rfl) (Nat.le_of_ble_eq_true rfl) dX7_init_56 rfl ?_
  refine n_putF X (k := 5) (of := 13) (v := b + 13) (by omega) e0 rfl (by decide) ui_7 (by decide) uw1_181 tyX7_ok nmX7 rfl hmn rfl rfl rfl rfl rfl rfl rfl dX7_init_59 ?_
  refine n_aload_n X dX7_init_62 rfl 0 rfl ?_
  refine n_iconst (v := (5)) X dX7_init_63 (by decide) ?_
  refine n_putI X (k := 8) (by omega) e0 rfl (by decide) ui_7 (by decide) uw1_191 tyX7_ok nmX7 rfl rfl rfl dX7_init_64 ?_
  refine n_aload_n X dX7_init_67 rfl 0 rfl ?_
  refine n_bipush (v := (30)) X dX7_init_68 (by decide) ?_
  refine n_putI X (k := 9) (by omega) e0 rfl (by decide) ui_7 (by decide) uw1_195 tyX7_ok nmX7 rfl rfl rfl dX7_init_70 ?_
  refine n_aload_n X dX7_init_73 rfl 0 rfl ?_
  refine n_bipush (v := (60)) X dX7_init_74 (by decide) ?_
  refine n_putI X (k := 11) (by omega) e0 rfl (by decide) ui_7 (by decide) uw1_201 tyX7_ok nmX7 rfl rfl rfl dX7_init_76 ?_
  refine n_aload_n X dX7_init_79 rfl 0 rfl ?_
  refine n_bipush (v := (60)) X dX7_init_80 (by decide) ?_
  refine n_putI X (k := 12) (by omega) e0 rfl (by decide) ui_7 (by decide) uw1_204 tyX7_ok nmX7 rfl rfl rfl dX7_init_82 ?_
  refine n_iconst (v := (0)) X dX7_init_85 (by decide) ?_
  refine n_istore_n (lv2 := [(1, .int ((0))), (0, .ref (ad (b)))]) X dX7_init_86 rfl (by decide) rfl ?_
  refine n_iload_n X dX7_init_87 rfl 0 rfl ?_
  refine n_bipush (v := (7)) X dX7_init_88 (by decide) ?_
  refine n_icmp_ge_f (tgt := 112) X dX7_init_90 (by decide) (by decide) ?_
  refine n_aload_n X dX7_init_93 rfl 1 rfl ?_
  refine n_getF X (k := 3) (of := 9) (v := b + 9) rfl rfl (by omega) e0 rfl (by decide) ui_7 (by decide) uw1_174 (by simp [fS, fZ, fT, if_2, if_4]; omega) rfl dX7_init_94 ?_
  refine n_iload_n X dX7_init_97 rfl 0 rfl ?_
  refine n_new X (Nf := 9) (ty0 := tyX4) (by omega) had (sz0 hs0 had) g16.1 (by decide) rfl ui_4 tyX4_ok df_4 rfl uw1_91 uw1_118 uw1_6 (Nat.le_of_ble_eq_true rfl) (Nat.le_of_ble_eq_true rfl) dX7_init_98 ?_
  refine n_dup X dX7_init_101 rfl ?_
  refine n_cIN (As := []) (rest := [.ref (ad (b + 16)), .int ((0)), .ref (ad (b + 9))]) X hAO (by omega) had (sz0 hs0 had) (kn_4 (b := b + 16) had g16.1) (hAO.2.2.2.2 (.methodLinkNest "StationPiano$Station" 55 ⟨"StationPiano$Passer", "<init>", "()V"⟩ "StationPiano") (List.mem_of_getElem? (i := 1) rfl)) uw1_120 uw1_6 uw1_121 rfl rfl rfl dn_4 ⟨Nat.le_of_ble_eq_true rfl, Nat.le_of_ble_eq_true rfl⟩ rfl (Nat.le_of_ble_eq_true rfl) (Nat.le_of_ble_eq_true rfl) (Nat.le_of_ble_eq_true rfl) dX7_init_102 rfl ?_
  refine n_ast18 X (i := b + 9) (j := 0) (v := b + 16) (by omega) g9.1 (by decide) (by rw [g9.2]; exact inb_in rfl) rfl (by omega) g16.1 dX7_init_105 ?_
  refine n_iinc (v := (1)) (lv2 := [(1, .int ((1))), (0, .ref (ad (b)))]) X dX7_init_106 0 rfl (by decide) (by decide) rfl ?_
  refine n_goto (tgt := 87) X dX7_init_109 (by decide) ?_
  refine n_iload_n X dX7_init_87 rfl 0 rfl ?_
  refine n_bipush (v := (7)) X dX7_init_88 (by decide) ?_
  refine n_icmp_ge_f (tgt := 112) X dX7_init_90 (by decide) (by decide) ?_
  refine n_aload_n X dX7_init_93 rfl 1 rfl ?_
  refine n_getF X (k := 3) (of := 9) (v := b + 9) rfl rfl (by omega) e0 rfl (by decide) ui_7 (by decide) uw1_174 (by simp [fS, fZ, fT, if_2, if_4]; omega) rfl dX7_init_94 ?_
  refine n_iload_n X dX7_init_97 rfl 0 rfl ?_
  refine n_new X (Nf := 9) (ty0 := tyX4) (by omega) had (sz0 hs0 had) g18.1 (by decide) rfl ui_4 tyX4_ok df_4 rfl uw1_91 uw1_118 uw1_6 (Nat.le_of_ble_eq_true rfl) (Nat.le_of_ble_eq_true rfl) dX7_init_98 ?_
  refine n_dup X dX7_init_101 rfl ?_
  refine n_cIN (As := []) (rest := [.ref (ad (b + 18)), .int ((1)), .ref (ad (b + 9))]) X hAO (by omega) had (sz0 hs0 had) (kn_4 (b := b + 18) had g18.1) (hAO.2.2.2.2 (.methodLinkNest "StationPiano$Station" 55 ⟨"StationPiano$Passer", "<init>", "()V"⟩ "StationPiano") (List.mem_of_getElem? (i := 1) rfl)) uw1_120 uw1_6 uw1_121 rfl rfl rfl dn_4 ⟨Nat.le_of_ble_eq_true rfl, Nat.le_of_ble_eq_true rfl⟩ rfl (Nat.le_of_ble_eq_true rfl) (Nat.le_of_ble_eq_true rfl) (Nat.le_of_ble_eq_true rfl) dX7_init_102 rfl ?_
  refine n_ast18 X (i := b + 9) (j := 1) (v := b + 18) (by omega) g9.1 (by decide) (by rw [g9.2]; exact inb_in rfl) rfl (by omega) g18.1 dX7_init_105 ?_
  refine n_iinc (v := (2)) (lv2 := [(1, .int ((2))), (0, .ref (ad (b)))]) X dX7_init_106 0 rfl (by decide) (by decide) rfl ?_
  refine n_goto (tgt := 87) X dX7_init_109 (by decide) ?_
  refine n_iload_n X dX7_init_87 rfl 0 rfl ?_
  refine n_bipush (v := (7)) X dX7_init_88 (by decide) ?_
  refine n_icmp_ge_f (tgt := 112) X dX7_init_90 (by decide) (by decide) ?_
  refine n_aload_n X dX7_init_93 rfl 1 rfl ?_
  refine n_getF X (k := 3) (of := 9) (v := b + 9) rfl rfl (by omega) e0 rfl (by decide) ui_7 (by decide) uw1_174 (by simp [fS, fZ, fT, if_2, if_4]; omega) rfl dX7_init_94 ?_
  refine n_iload_n X dX7_init_97 rfl 0 rfl ?_
  refine n_new X (Nf := 9) (ty0 := tyX4) (by omega) had (sz0 hs0 had) g20.1 (by decide) rfl ui_4 tyX4_ok df_4 rfl uw1_91 uw1_118 uw1_6 (Nat.le_of_ble_eq_true rfl) (Nat.le_of_ble_eq_true rfl) dX7_init_98 ?_
  refine n_dup X dX7_init_101 rfl ?_
  refine n_cIN (As := []) (rest := [.ref (ad (b + 20)), .int ((2)), .ref (ad (b + 9))]) X hAO (by omega) had (sz0 hs0 had) (kn_4 (b := b + 20) had g20.1) (hAO.2.2.2.2 (.methodLinkNest "StationPiano$Station" 55 ⟨"StationPiano$Passer", "<init>", "()V"⟩ "StationPiano") (List.mem_of_getElem? (i := 1) rfl)) uw1_120 uw1_6 uw1_121 rfl rfl rfl dn_4 ⟨Nat.le_of_ble_eq_true rfl, Nat.le_of_ble_eq_true rfl⟩ rfl (Nat.le_of_ble_eq_true rfl) (Nat.le_of_ble_eq_true rfl) (Nat.le_of_ble_eq_true rfl) dX7_init_102 rfl ?_
  refine n_ast18 X (i := b + 9) (j := 2) (v := b + 20) (by omega) g9.1 (by decide) (by rw [g9.2]; exact inb_in rfl) rfl (by omega) g20.1 dX7_init_105 ?_
  refine n_iinc (v := (3)) (lv2 := [(1, .int ((3))), (0, .ref (ad (b)))]) X dX7_init_106 0 rfl (by decide) (by decide) rfl ?_
  refine n_goto (tgt := 87) X dX7_init_109 (by decide) ?_
  refine n_iload_n X dX7_init_87 rfl 0 rfl ?_
  refine n_bipush (v := (7)) X dX7_init_88 (by decide) ?_
  refine n_icmp_ge_f (tgt := 112) X dX7_init_90 (by decide) (by decide) ?_
  refine n_aload_n X dX7_init_93 rfl 1 rfl ?_
  refine n_getF X (k := 3) (of := 9) (v := b + 9) rfl rfl (by omega) e0 rfl (by decide) ui_7 (by decide) uw1_174 (by simp [fS, fZ, fT, if_2, if_4]; omega) rfl dX7_init_94 ?_
  refine n_iload_n X dX7_init_97 rfl 0 rfl ?_
  refine n_new X (Nf := 9) (ty0 := tyX4) (by omega) had (sz0 hs0 had) g22.1 (by decide) rfl ui_4 tyX4_ok df_4 rfl uw1_91 uw1_118 uw1_6 (Nat.le_of_ble_eq_true rfl) (Nat.le_of_ble_eq_true rfl) dX7_init_98 ?_
  refine n_dup X dX7_init_101 rfl ?_
  refine n_cIN (As := []) (rest := [.ref (ad (b + 22)), .int ((3)), .ref (ad (b + 9))]) X hAO (by omega) had (sz0 hs0 had) (kn_4 (b := b + 22) had g22.1) (hAO.2.2.2.2 (.methodLinkNest "StationPiano$Station" 55 ⟨"StationPiano$Passer", "<init>", "()V"⟩ "StationPiano") (List.mem_of_getElem? (i := 1) rfl)) uw1_120 uw1_6 uw1_121 rfl rfl rfl dn_4 ⟨Nat.le_of_ble_eq_true rfl, Nat.le_of_ble_eq_true rfl⟩ rfl (Nat.le_of_ble_eq_true rfl) (Nat.le_of_ble_eq_true rfl) (Nat.le_of_ble_eq_true rfl) dX7_init_102 rfl ?_
  refine n_ast18 X (i := b + 9) (j := 3) (v := b + 22) (by omega) g9.1 (by decide) (by rw [g9.2]; exact inb_in rfl) rfl (by omega) g22.1 dX7_init_105 ?_
  refine n_iinc (v := (4)) (lv2 := [(1, .int ((4))), (0, .ref (ad (b)))]) X dX7_init_106 0 rfl (by decide) (by decide) rfl ?_
  refine n_goto (tgt := 87) X dX7_init_109 (by decide) ?_
  refine n_iload_n X dX7_init_87 rfl 0 rfl ?_
  refine n_bipush (v := (7)) X dX7_init_88 (by decide) ?_
  refine n_icmp_ge_f (tgt := 112) X dX7_init_90 (by decide) (by decide) ?_
  refine n_aload_n X dX7_init_93 rfl 1 rfl ?_
  refine n_getF X (k := 3) (of := 9) (v := b + 9) rfl rfl (by omega) e0 rfl (by decide) ui_7 (by decide) uw1_174 (by simp [fS, fZ, fT, if_2, if_4]; omega) rfl dX7_init_94 ?_
  refine n_iload_n X dX7_init_97 rfl 0 rfl ?_
  refine n_new X (Nf := 9) (ty0 := tyX4) (by omega) had (sz0 hs0 had) g24.1 (by decide) rfl ui_4 tyX4_ok df_4 rfl uw1_91 uw1_118 uw1_6 (Nat.le_of_ble_eq_true rfl) (Nat.le_of_ble_eq_true rfl) dX7_init_98 ?_
  refine n_dup X dX7_init_101 rfl ?_
  refine n_cIN (As := []) (rest := [.ref (ad (b + 24)), .int ((4)), .ref (ad (b + 9))]) X hAO (by omega) had (sz0 hs0 had) (kn_4 (b := b + 24) had g24.1) (hAO.2.2.2.2 (.methodLinkNest "StationPiano$Station" 55 ⟨"StationPiano$Passer", "<init>", "()V"⟩ "StationPiano") (List.mem_of_getElem? (i := 1) rfl)) uw1_120 uw1_6 uw1_121 rfl rfl rfl dn_4 ⟨Nat.le_of_ble_eq_true rfl, Nat.le_of_ble_eq_true rfl⟩ rfl (Nat.le_of_ble_eq_true rfl) (Nat.le_of_ble_eq_true rfl) (Nat.le_of_ble_eq_true rfl) dX7_init_102 rfl ?_
  refine n_ast18 X (i := b + 9) (j := 4) (v := b + 24) (by omega) g9.1 (by decide) (by rw [g9.2]; exact inb_in rfl) rfl (by omega) g24.1 dX7_init_105 ?_
  refine n_iinc (v := (5)) (lv2 := [(1, .int ((5))), (0, .ref (ad (b)))]) X dX7_init_106 0 rfl (by decide) (by decide) rfl ?_
  refine n_goto (tgt := 87) X dX7_init_109 (by decide) ?_
  refine n_iload_n X dX7_init_87 rfl 0 rfl ?_
  refine n_bipush (v := (7)) X dX7_init_88 (by decide) ?_
  refine n_icmp_ge_f (tgt := 112) X dX7_init_90 (by decide) (by decide) ?_
  refine n_aload_n X dX7_init_93 rfl 1 rfl ?_
  refine n_getF X (k := 3) (of := 9) (v := b + 9) rfl rfl (by omega) e0 rfl (by decide) ui_7 (by decide) uw1_174 (by simp [fS, fZ, fT, if_2, if_4]; omega) rfl dX7_init_94 ?_
  refine n_iload_n X dX7_init_97 rfl 0 rfl ?_
  refine n_new X (Nf := 9) (ty0 := tyX4) (by omega) had (sz0 hs0 had) g26.1 (by decide) rfl ui_4 tyX4_ok df_4 rfl uw1_91 uw1_118 uw1_6 (Nat.le_of_ble_eq_true rfl) (Nat.le_of_ble_eq_true rfl) dX7_init_98 ?_
  refine n_dup X dX7_init_101 rfl ?_
  refine n_cIN (As := []) (rest := [.ref (ad (b + 26)), .int ((5)), .ref (ad (b + 9))]) X hAO (by omega) had (sz0 hs0 had) (kn_4 (b := b + 26) had g26.1) (hAO.2.2.2.2 (.methodLinkNest "StationPiano$Station" 55 ⟨"StationPiano$Passer", "<init>", "()V"⟩ "StationPiano") (List.mem_of_getElem? (i := 1) rfl)) uw1_120 uw1_6 uw1_121 rfl rfl rfl dn_4 ⟨Nat.le_of_ble_eq_true rfl, Nat.le_of_ble_eq_true rfl⟩ rfl (Nat.le_of_ble_eq_true rfl) (Nat.le_of_ble_eq_true rfl) (Nat.le_of_ble_eq_true rfl) dX7_init_102 rfl ?_
  refine n_ast18 X (i := b + 9) (j := 5) (v := b + 26) (by omega) g9.1 (by decide) (by rw [g9.2]; exact inb_in rfl) rfl (by omega) g26.1 dX7_init_105 ?_
  refine n_iinc (v := (6)) (lv2 := [(1, .int ((6))), (0, .ref (ad (b)))]) X dX7_init_106 0 rfl (by decide) (by decide) rfl ?_
  refine n_goto (tgt := 87) X dX7_init_109 (by decide) ?_
  refine n_iload_n X dX7_init_87 rfl 0 rfl ?_
  refine n_bipush (v := (7)) X dX7_init_88 (by decide) ?_
  refine n_icmp_ge_f (tgt := 112) X dX7_init_90 (by decide) (by decide) ?_
  refine n_aload_n X dX7_init_93 rfl 1 rfl ?_
  refine n_getF X (k := 3) (of := 9) (v := b + 9) rfl rfl (by omega) e0 rfl (by decide) ui_7 (by decide) uw1_174 (by simp [fS, fZ, fT, if_2, if_4]; omega) rfl dX7_init_94 ?_
  refine n_iload_n X dX7_init_97 rfl 0 rfl ?_
  refine n_new X (Nf := 9) (ty0 := tyX4) (by omega) had (sz0 hs0 had) g28.1 (by decide) rfl ui_4 tyX4_ok df_4 rfl uw1_91 uw1_118 uw1_6 (Nat.le_of_ble_eq_true rfl) (Nat.le_of_ble_eq_true rfl) dX7_init_98 ?_
  refine n_dup X dX7_init_101 rfl ?_
  refine n_cIN (As := []) (rest := [.ref (ad (b + 28)), .int ((6)), .ref (ad (b + 9))]) X hAO (by omega) had (sz0 hs0 had) (kn_4 (b := b + 28) had g28.1) (hAO.2.2.2.2 (.methodLinkNest "StationPiano$Station" 55 ⟨"StationPiano$Passer", "<init>", "()V"⟩ "StationPiano") (List.mem_of_getElem? (i := 1) rfl)) uw1_120 uw1_6 uw1_121 rfl rfl rfl dn_4 ⟨Nat.le_of_ble_eq_true rfl, Nat.le_of_ble_eq_true rfl⟩ rfl (Nat.le_of_ble_eq_true rfl) (Nat.le_of_ble_eq_true rfl) (Nat.le_of_ble_eq_true rfl) dX7_init_102 rfl ?_
  refine n_ast18 X (i := b + 9) (j := 6) (v := b + 28) (by omega) g9.1 (by decide) (by rw [g9.2]; exact inb_in rfl) rfl (by omega) g28.1 dX7_init_105 ?_
  refine n_iinc (v := (7)) (lv2 := [(1, .int ((7))), (0, .ref (ad (b)))]) X dX7_init_106 0 rfl (by decide) (by decide) rfl ?_
  refine n_goto (tgt := 87) X dX7_init_109 (by decide) ?_
  refine n_iload_n X dX7_init_87 rfl 0 rfl ?_
  refine n_bipush (v := (7)) X dX7_init_88 (by decide) ?_
  refine n_icmp_ge_t (tgt := 112) X dX7_init_90 (by decide) (by decide) ?_
  exact n_vret X rfl dX7_init_112 rfl rfl rfl rfl rfl
def im_11  (mem : Mm) : Mm := zr (im_6 (163)  (zr (im_6 (161)  (zr (im_6 (159)  (zr (im_6 (157)  (zr (im_6 (155)  (zr (im_6 (153)  (zr (im_6 (151)  (zr (im_6 (149)  (zr (im_6 (147)  (zr (im_6 (145)  (zr (im_6 (143)  (zr (im_6 (141)  (zr (im_6 (139)  (zr (im_6 (137)  (zr (im_6 (135)  (zr (im_6 (133)  (zr (zr (im_3 (122)  (zr (im_3 (112)  (zr (im_3 (102)  (zr (im_3 (92)  (zr (zr (im_1 (4) (zr (im_8  (zr (im_0 (76)  (zr (im_10 (72)  (zr (im_10 (68)  (zr (im_6 (66)  (zr (im_6 (64)  (zr (sR (im_7 (34)  (zr (sR (im_7 (4)  (zr (im_5  (zr (im_9  (zr (mem) (1))) (3))) (4))) (0) 2 (4)) (34))) (0) 3 (34)) (64))) (66))) (68))) (72))) (76))) (79))) (82))) (91)) (92))) (102))) (112))) (122))) (132)) (133))) (135))) (137))) (139))) (141))) (143))) (145))) (147))) (149))) (151))) (153))) (155))) (157))) (159))) (161))) (163))) (165)
def if_11  (fl : Fl) : Fl := fS (fZ (fS (if_6 (163)  (fZ (fS (if_6 (161)  (fZ (fS (if_6 (159)  (fZ (fS (if_6 (157)  (fZ (fS (if_6 (155)  (fZ (fS (if_6 (153)  (fZ (fS (if_6 (151)  (fZ (fS (if_6 (149)  (fZ (fS (if_6 (147)  (fZ (fS (if_6 (145)  (fZ (fS (if_6 (143)  (fZ (fS (if_6 (141)  (fZ (fS (if_6 (139)  (fZ (fS (if_6 (137)  (fZ (fS (if_6 (135)  (fZ (fS (if_6 (133)  (fZ (fS (fZ (fS (if_3 (122)  (fZ (fS (if_3 (112)  (fZ (fS (if_3 (102)  (fZ (fS (if_3 (92)  (fZ (fS (fZ (fS (if_1 (4) (fZ (fS (if_8  (fZ (fS (if_0 (76)  (fZ (fS (if_10 (72)  (fZ (fS (if_10 (68)  (fZ (fS (if_6 (66)  (fZ (fS (if_6 (64)  (fZ (fS (if_7 (34)  (fZ (fS (if_7 (4)  (fZ (fS (if_5  (fZ (fS (if_9  (fZ (fl) (1) 7)) (0) 0) (3) 3)) (0) 1) (4) 14)) (0) 2) (34) 14)) (0) 3) (64) 6)) (0) 4) (66) 6)) (0) 5) (68) 4)) (0) 6) (72) 4)) (0) 7) (76) 3)) (0) 8) (79) 5)) (0) 9) (82) 15)) (0) 10) (91) 4) (0) 11) (92) 4)) (91) 0) (102) 4)) (91) 1) (112) 4)) (91) 2) (122) 4)) (91) 3) (132) 16) (0) 12) (133) 6)) (132) 0) (135) 6)) (132) 1) (137) 6)) (132) 2) (139) 6)) (132) 3) (141) 6)) (132) 4) (143) 6)) (132) 5) (145) 6)) (132) 6) (147) 6)) (132) 7) (149) 6)) (132) 8) (151) 6)) (132) 9) (153) 6)) (132) 10) (155) 6)) (132) 11) (157) 6)) (132) 12) (159) 6)) (132) 13) (161) 6)) (132) 14) (163) 6)) (132) 15) (165) 3) (0) 15
theorem dn_11 : yX11_init.cls ≠ "java/lang/invoke/MethodHandle" ∧ yX11_init.cls ≠ "java/lang/invoke/VarHandle" ∧ (parseMethodDescriptor yX11_init.desc).map (fun d => d.parameters.length) = some 0 := by decide +kernel
set_option maxHeartbeats 8000000 in
set_option maxRecDepth 100000 in
theorem kn_11 {l : Launch} {ad : Nat → Nat} {cy : Nat → ClassId} {dC : Nat → ClassId} {dI : Nat → Nat → Nat} {ks : (Nat → Nat) × (Nat → Nat)}  {mem : Mm} {fl : Fl} (had : ∀ i, ad i = ad 0 + i) : CtN l Lp ad cy dC dI ks yX11_init cX11_init 2 ({ frames := 3, cells := 165, slots := 7240, locals := 62 }) [.ref (ad (0))] (1) mem fl (166) (im_11  mem) (if_11  fl) 165 7240 := by
  refine CtN.of (cc := cX11_init) (maxL := 2) (own := RX11) rfl (by decide) rfl (Nat.le_of_ble_eq_true rfl) ?_
  intro p e s m args below meth c A X hAO hmn hs0
  refine n_aload_n X dX11_init_0 rfl 0 rfl ?_
  refine n_obj X uw1_30 uw1_31 uw1_32 dX11_init_1 (Nat.le_of_ble_eq_true rfl) (Nat.le_of_ble_eq_true rfl) ?_
  refine n_aload_n X dX11_init_4 rfl 0 rfl ?_
  refine n_new X (Nf := 7) (ty0 := tyX9) (by decide) had (sz0 hs0 had) Lpk_1 (by decide) rfl ui_9 tyX9_ok df_9 rfl uw1_33 uw1_34 uw1_2 (Nat.le_of_ble_eq_true rfl) (Nat.le_of_ble_eq_true rfl) dX11_init_5 ?_
  refine n_dup X dX11_init_8 rfl ?_
  refine n_cIN (As := []) (rest := [.ref (ad (1)), .ref (ad (0))]) X hAO (by decide) had (sz0 hs0 had) (kn_9 had) (hAO.2.2.2.2 (.methodLinkNest "StationPiano" 11 ⟨"StationPiano$Tape", "<init>", "()V"⟩ "StationPiano") (List.mem_of_getElem? (i := 0) rfl)) uw1_36 uw1_2 uw1_37 rfl rfl rfl dn_9 ⟨Nat.le_of_ble_eq_true rfl, Nat.le_of_ble_eq_true rfl⟩ rfl (Nat.le_of_ble_eq_true rfl) (Nat.le_of_ble_eq_true rfl) (Nat.le_of_ble_eq_true rfl) dX11_init_9 rfl ?_
  refine n_putF X (k := 0) (of := 1) (v := 1) (by decide) Lpk_0 rfl (by decide) ui_11 (by decide) uw2_183 tyX11_ok nmX11 rfl hmn rfl rfl rfl rfl rfl rfl rfl dX11_init_12 ?_
  refine n_aload_n X dX11_init_15 rfl 0 rfl ?_
  refine n_new X (Nf := 3) (ty0 := tyX5) (by decide) had (sz0 hs0 had) Lpk_3 (by decide) rfl ui_5 tyX5_ok df_5 rfl uw1_67 uw1_68 uw1_3 (Nat.le_of_ble_eq_true rfl) (Nat.le_of_ble_eq_true rfl) dX11_init_16 ?_
  refine n_dup X dX11_init_19 rfl ?_
  refine n_aload_n X dX11_init_20 rfl 0 rfl ?_
  refine n_getF X (k := 0) (of := 1) (v := 1) rfl rfl (by decide) Lpk_0 rfl (by decide) ui_11 (by decide) uw2_183 (rfl) rfl dX11_init_21 ?_
  refine n_cI (As := [.ref (ad (1))]) (rest := [.ref (ad (3)), .ref (ad (0))]) X hAO (by decide) had (sz0 hs0 had) (kn_5 had) uw1_69 uw1_70 uw1_3 uw1_71 rfl rfl rfl dn_5 ⟨Nat.le_of_ble_eq_true rfl, Nat.le_of_ble_eq_true rfl⟩ rfl (Nat.le_of_ble_eq_true rfl) (Nat.le_of_ble_eq_true rfl) (Nat.le_of_ble_eq_true rfl) dX11_init_24 rfl ?_
  refine n_putF X (k := 1) (of := 3) (v := 3) (by decide) Lpk_0 rfl (by decide) ui_11 (by decide) uw2_184 tyX11_ok nmX11 rfl hmn rfl rfl rfl rfl rfl rfl rfl dX11_init_27 ?_
  refine n_aload_n X dX11_init_30 rfl 0 rfl ?_
  refine n_new X (Nf := 14) (ty0 := tyX7) (by decide) had (sz0 hs0 had) Lpk_4 (by decide) rfl ui_7 tyX7_ok df_7 rfl uw1_83 uw1_84 uw1_4 (Nat.le_of_ble_eq_true rfl) (Nat.le_of_ble_eq_true rfl) dX11_init_31 ?_
  refine n_dup X dX11_init_34 rfl ?_
  refine n_cI (As := []) (rest := [.ref (ad (4)), .ref (ad (0))]) X hAO (by decide) had (sz0 hs0 had) (kn_7 (b := 4) had Lpk_4) uw1_85 uw1_86 uw1_4 uw1_87 rfl rfl rfl dn_7 ⟨Nat.le_of_ble_eq_true rfl, Nat.le_of_ble_eq_true rfl⟩ rfl (Nat.le_of_ble_eq_true rfl) (Nat.le_of_ble_eq_true rfl) (Nat.le_of_ble_eq_true rfl) dX11_init_35 rfl ?_
  refine n_putM X (k := 2) (v := 4) (by decide) Lpk_0 rfl (by decide) ui_11 (by decide) uw2_185 tyX11_ok nmX11 rfl rfl rfl dX11_init_38 ?_
  refine n_aload_n X dX11_init_41 rfl 0 rfl ?_
  refine n_new X (Nf := 14) (ty0 := tyX7) (by decide) had (sz0 hs0 had) Lpk_34 (by decide) rfl ui_7 tyX7_ok df_7 rfl uw1_83 uw1_84 uw1_4 (Nat.le_of_ble_eq_true rfl) (Nat.le_of_ble_eq_true rfl) dX11_init_42 ?_
  refine n_dup X dX11_init_45 rfl ?_
  refine n_cI (As := []) (rest := [.ref (ad (34)), .ref (ad (0))]) X hAO (by decide) had (sz0 hs0 had) (kn_7 (b := 34) had Lpk_34) uw1_85 uw1_86 uw1_4 uw1_87 rfl rfl rfl dn_7 ⟨Nat.le_of_ble_eq_true rfl, Nat.le_of_ble_eq_true rfl⟩ rfl (Nat.le_of_ble_eq_true rfl) (Nat.le_of_ble_eq_true rfl) (Nat.le_of_ble_eq_true rfl) dX11_init_46 rfl ?_
  refine n_putM X (k := 3) (v := 34) (by decide) Lpk_0 rfl (by decide) ui_11 (by decide) uw2_186 tyX11_ok nmX11 rfl rfl rfl dX11_init_49 ?_
  refine n_aload_n X dX11_init_52 rfl 0 rfl ?_
  refine n_new X (Nf := 6) (ty0 := tyX6) (by decide) had (sz0 hs0 had) Lpk_64 (by decide) rfl ui_6 tyX6_ok df_6 rfl uw1_238 uw1_239 uw1_7 (Nat.le_of_ble_eq_true rfl) (Nat.le_of_ble_eq_true rfl) dX11_init_53 ?_
  refine n_dup X dX11_init_56 rfl ?_
  refine n_cIN (As := []) (rest := [.ref (ad (64)), .ref (ad (0))]) X hAO (by decide) had (sz0 hs0 had) (kn_6 (b := 64) had Lpk_64) (hAO.2.2.2.2 (.methodLinkNest "StationPiano" 37 ⟨"StationPiano$State", "<init>", "()V"⟩ "StationPiano") (List.mem_of_getElem? (i := 2) rfl)) uw2_1 uw1_7 uw2_2 rfl rfl rfl dn_6 ⟨Nat.le_of_ble_eq_true rfl, Nat.le_of_ble_eq_true rfl⟩ rfl (Nat.le_of_ble_eq_true rfl) (Nat.le_of_ble_eq_true rfl) (Nat.le_of_ble_eq_true rfl) dX11_init_57 rfl ?_
  refine n_putF X (k := 4) (of := 64) (v := 64) (by decide) Lpk_0 rfl (by decide) ui_11 (by decide) uw2_187 tyX11_ok nmX11 rfl hmn rfl rfl rfl rfl rfl rfl rfl dX11_init_60 ?_
  refine n_aload_n X dX11_init_63 rfl 0 rfl ?_
  refine n_new X (Nf := 6) (ty0 := tyX6) (by decide) had (sz0 hs0 had) Lpk_66 (by decide) rfl ui_6 tyX6_ok df_6 rfl uw1_238 uw1_239 uw1_7 (Nat.le_of_ble_eq_true rfl) (Nat.le_of_ble_eq_true rfl) dX11_init_64 ?_
  refine n_dup X dX11_init_67 rfl ?_
  refine n_cIN (As := []) (rest := [.ref (ad (66)), .ref (ad (0))]) X hAO (by decide) had (sz0 hs0 had) (kn_6 (b := 66) had Lpk_66) (hAO.2.2.2.2 (.methodLinkNest "StationPiano" 37 ⟨"StationPiano$State", "<init>", "()V"⟩ "StationPiano") (List.mem_of_getElem? (i := 2) rfl)) uw2_1 uw1_7 uw2_2 rfl rfl rfl dn_6 ⟨Nat.le_of_ble_eq_true rfl, Nat.le_of_ble_eq_true rfl⟩ rfl (Nat.le_of_ble_eq_true rfl) (Nat.le_of_ble_eq_true rfl) (Nat.le_of_ble_eq_true rfl) dX11_init_68 rfl ?_
  refine n_putF X (k := 5) (of := 66) (v := 66) (by decide) Lpk_0 rfl (by decide) ui_11 (by decide) uw2_188 tyX11_ok nmX11 rfl hmn rfl rfl rfl rfl rfl rfl rfl dX11_init_71 ?_
  refine n_aload_n X dX11_init_74 rfl 0 rfl ?_
  refine n_new X (Nf := 4) (ty0 := tyX10) (by decide) had (sz0 hs0 had) Lpk_68 (by decide) rfl ui_10 tyX10_ok df_10 rfl uw2_32 uw2_33 uw1_8 (Nat.le_of_ble_eq_true rfl) (Nat.le_of_ble_eq_true rfl) dX11_init_75 ?_
  refine n_dup X dX11_init_78 rfl ?_
  refine n_cIN (As := []) (rest := [.ref (ad (68)), .ref (ad (0))]) X hAO (by decide) had (sz0 hs0 had) (kn_10 (b := 68) had Lpk_68) (hAO.2.2.2.2 (.methodLinkNest "StationPiano" 47 ⟨"StationPiano$Week", "<init>", "()V"⟩ "StationPiano") (List.mem_of_getElem? (i := 3) rfl)) uw2_35 uw1_8 uw2_36 rfl rfl rfl dn_10 ⟨Nat.le_of_ble_eq_true rfl, Nat.le_of_ble_eq_true rfl⟩ rfl (Nat.le_of_ble_eq_true rfl) (Nat.le_of_ble_eq_true rfl) (Nat.le_of_ble_eq_true rfl) dX11_init_79 rfl ?_
  refine n_putF X (k := 6) (of := 68) (v := 68) (by decide) Lpk_0 rfl (by decide) ui_11 (by decide) uw2_189 tyX11_ok nmX11 rfl hmn rfl rfl rfl rfl rfl rfl rfl dX11_init_82 ?_
  refine n_aload_n X dX11_init_85 rfl 0 rfl ?_
  refine n_new X (Nf := 4) (ty0 := tyX10) (by decide) had (sz0 hs0 had) Lpk_72 (by decide) rfl ui_10 tyX10_ok df_10 rfl uw2_32 uw2_33 uw1_8 (Nat.le_of_ble_eq_true rfl) (Nat.le_of_ble_eq_true rfl) dX11_init_86 ?_
  refine n_dup X dX11_init_89 rfl ?_
  refine n_cIN (As := []) (rest := [.ref (ad (72)), .ref (ad (0))]) X hAO (by decide) had (sz0 hs0 had) (kn_10 (b := 72) had Lpk_72) (hAO.2.2.2.2 (.methodLinkNest "StationPiano" 47 ⟨"StationPiano$Week", "<init>", "()V"⟩ "StationPiano") (List.mem_of_getElem? (i := 3) rfl)) uw2_35 uw1_8 uw2_36 rfl rfl rfl dn_10 ⟨Nat.le_of_ble_eq_true rfl, Nat.le_of_ble_eq_true rfl⟩ rfl (Nat.le_of_ble_eq_true rfl) (Nat.le_of_ble_eq_true rfl) (Nat.le_of_ble_eq_true rfl) dX11_init_90 rfl ?_
  refine n_putF X (k := 7) (of := 72) (v := 72) (by decide) Lpk_0 rfl (by decide) ui_11 (by decide) uw2_190 tyX11_ok nmX11 rfl hmn rfl rfl rfl rfl rfl rfl rfl dX11_init_93 ?_
  refine n_aload_n X dX11_init_96 rfl 0 rfl ?_
  refine n_new X (Nf := 3) (ty0 := tyX0) (by decide) had (sz0 hs0 had) Lpk_76 (by decide) rfl ui_0 tyX0_ok df_0 rfl uw2_56 uw2_57 uw1_9 (Nat.le_of_ble_eq_true rfl) (Nat.le_of_ble_eq_true rfl) dX11_init_97 ?_
  refine n_dup X dX11_init_100 rfl ?_
  refine n_cIN (As := []) (rest := [.ref (ad (76)), .ref (ad (0))]) X hAO (by decide) had (sz0 hs0 had) (kn_0 (b := 76) had Lpk_76) (hAO.2.2.2.2 (.methodLinkNest "StationPiano" 57 ⟨"StationPiano$Clues", "<init>", "()V"⟩ "StationPiano") (List.mem_of_getElem? (i := 4) rfl)) uw2_59 uw1_9 uw2_60 rfl rfl rfl dn_0 ⟨Nat.le_of_ble_eq_true rfl, Nat.le_of_ble_eq_true rfl⟩ rfl (Nat.le_of_ble_eq_true rfl) (Nat.le_of_ble_eq_true rfl) (Nat.le_of_ble_eq_true rfl) dX11_init_101 rfl ?_
  refine n_putF X (k := 8) (of := 76) (v := 76) (by decide) Lpk_0 rfl (by decide) ui_11 (by decide) uw2_191 tyX11_ok nmX11 rfl hmn rfl rfl rfl rfl rfl rfl rfl dX11_init_104 ?_
  refine n_aload_n X dX11_init_107 rfl 0 rfl ?_
  refine n_new X (Nf := 5) (ty0 := tyX8) (by decide) had (sz0 hs0 had) Lpk_79 (by decide) rfl ui_8 tyX8_ok df_8 rfl uw2_73 uw2_74 uw1_10 (Nat.le_of_ble_eq_true rfl) (Nat.le_of_ble_eq_true rfl) dX11_init_108 ?_
  refine n_dup X dX11_init_111 rfl ?_
  refine n_cIN (As := []) (rest := [.ref (ad (79)), .ref (ad (0))]) X hAO (by decide) had (sz0 hs0 had) (kn_8 had) (hAO.2.2.2.2 (.methodLinkNest "StationPiano" 64 ⟨"StationPiano$Suspects", "<init>", "()V"⟩ "StationPiano") (List.mem_of_getElem? (i := 5) rfl)) uw2_76 uw1_10 uw2_77 rfl rfl rfl dn_8 ⟨Nat.le_of_ble_eq_true rfl, Nat.le_of_ble_eq_true rfl⟩ rfl (Nat.le_of_ble_eq_true rfl) (Nat.le_of_ble_eq_true rfl) (Nat.le_of_ble_eq_true rfl) dX11_init_112 rfl ?_
  refine n_putF X (k := 9) (of := 79) (v := 79) (by decide) Lpk_0 rfl (by decide) ui_11 (by decide) uw2_192 tyX11_ok nmX11 rfl hmn rfl rfl rfl rfl rfl rfl rfl dX11_init_115 ?_
  refine n_aload_n X dX11_init_118 rfl 0 rfl ?_
  refine n_new X (Nf := 15) (ty0 := tyX1) (by decide) had (sz0 hs0 had) Lpk_82 (by decide) rfl ui_1 tyX1_ok df_1 rfl uw2_98 uw2_99 uw1_11 (Nat.le_of_ble_eq_true rfl) (Nat.le_of_ble_eq_true rfl) dX11_init_119 ?_
  refine n_dup X dX11_init_122 rfl ?_
  refine n_aload_n X dX11_init_123 rfl 0 rfl ?_
  refine n_getM X (k := 2) (v := 4) (rfl) (by decide) Lpk_0 rfl (by decide) ui_11 (by decide) uw2_185 (rfl) rfl dX11_init_124 ?_
  refine n_cI (As := [.ref (ad (4))]) (rest := [.ref (ad (82)), .ref (ad (0))]) X hAO (by decide) had (sz0 hs0 had) (kn_1 (h1 := 4) had) uw2_100 uw2_101 uw1_11 uw2_102 rfl rfl rfl dn_1 ⟨Nat.le_of_ble_eq_true rfl, Nat.le_of_ble_eq_true rfl⟩ rfl (Nat.le_of_ble_eq_true rfl) (Nat.le_of_ble_eq_true rfl) (Nat.le_of_ble_eq_true rfl) dX11_init_127 rfl ?_
  refine n_putF X (k := 10) (of := 82) (v := 82) (by decide) Lpk_0 rfl (by decide) ui_11 (by decide) uw2_193 tyX11_ok nmX11 rfl hmn rfl rfl rfl rfl rfl rfl rfl dX11_init_130 ?_
  refine n_aload_n X dX11_init_133 rfl 0 rfl ?_
  refine n_iconst (v := (4)) X dX11_init_134 (by decide) ?_
  refine n_newq17 X (N := 4) hAO (by decide) had (sz0 hs0 had) Lpk_91 Lpn_91 (by decide) (by decide) uw2_155 (Nat.le_of_ble_eq_true rfl) (Nat.le_of_ble_eq_true rfl) (Nat.le_of_ble_eq_true rfl) dX11_init_135 ?_
  refine n_putF X (k := 11) (of := 91) (v := 91) (by decide) Lpk_0 rfl (by decide) ui_11 (by decide) uw2_194 tyX11_ok nmX11 rfl hmn rfl rfl rfl rfl rfl rfl rfl dX11_init_138 ?_
  refine n_iconst (v := (0)) X dX11_init_141 (by decide) ?_
  refine n_istore_n (lv2 := [(1, .int ((0))), (0, .ref (ad (0)))]) X dX11_init_142 rfl (by decide) rfl ?_
  refine n_iload_n X dX11_init_143 rfl 0 rfl ?_
  refine n_iconst (v := (4)) X dX11_init_144 (by decide) ?_
  refine n_icmp_ge_f (tgt := 167) X dX11_init_145 (by decide) (by decide) ?_
  refine n_aload_n X dX11_init_148 rfl 1 rfl ?_
  refine n_getF X (k := 11) (of := 91) (v := 91) rfl rfl (by decide) Lpk_0 rfl (by decide) ui_11 (by decide) uw2_194 (rfl) rfl dX11_init_149 ?_
  refine n_iload_n X dX11_init_152 rfl 0 rfl ?_
  refine n_new X (Nf := 4) (ty0 := tyX3) (by decide) had (sz0 hs0 had) Lpk_92 (by decide) rfl ui_3 tyX3_ok df_3 rfl uw2_155 uw2_157 uw1_12 (Nat.le_of_ble_eq_true rfl) (Nat.le_of_ble_eq_true rfl) dX11_init_153 ?_
  refine n_dup X dX11_init_156 rfl ?_
  refine n_cIN (As := []) (rest := [.ref (ad (92)), .int ((0)), .ref (ad (91))]) X hAO (by decide) had (sz0 hs0 had) (kn_3 (b := 92) had Lpk_92) (hAO.2.2.2.2 (.methodLinkNest "StationPiano" 84 ⟨"StationPiano$Mark", "<init>", "()V"⟩ "StationPiano") (List.mem_of_getElem? (i := 6) rfl)) uw2_159 uw1_12 uw2_160 rfl rfl rfl dn_3 ⟨Nat.le_of_ble_eq_true rfl, Nat.le_of_ble_eq_true rfl⟩ rfl (Nat.le_of_ble_eq_true rfl) (Nat.le_of_ble_eq_true rfl) (Nat.le_of_ble_eq_true rfl) dX11_init_157 rfl ?_
  refine n_ast17 X (i := 91) (j := 0) (v := 92) (by decide) Lpk_91 (by decide) (by rw [Lpn_91]; exact inb_in rfl) rfl (by decide) Lpk_92 dX11_init_160 ?_
  refine n_iinc (v := (1)) (lv2 := [(1, .int ((1))), (0, .ref (ad (0)))]) X dX11_init_161 0 rfl (by decide) (by decide) rfl ?_
  refine n_goto (tgt := 143) X dX11_init_164 (by decide) ?_
  refine n_iload_n X dX11_init_143 rfl 0 rfl ?_
  refine n_iconst (v := (4)) X dX11_init_144 (by decide) ?_
  refine n_icmp_ge_f (tgt := 167) X dX11_init_145 (by decide) (by decide) ?_
  refine n_aload_n X dX11_init_148 rfl 1 rfl ?_
  refine n_getF X (k := 11) (of := 91) (v := 91) rfl rfl (by decide) Lpk_0 rfl (by decide) ui_11 (by decide) uw2_194 (rfl) rfl dX11_init_149 ?_
  refine n_iload_n X dX11_init_152 rfl 0 rfl ?_
  refine n_new X (Nf := 4) (ty0 := tyX3) (by decide) had (sz0 hs0 had) Lpk_102 (by decide) rfl ui_3 tyX3_ok df_3 rfl uw2_155 uw2_157 uw1_12 (Nat.le_of_ble_eq_true rfl) (Nat.le_of_ble_eq_true rfl) dX11_init_153 ?_
  refine n_dup X dX11_init_156 rfl ?_
  refine n_cIN (As := []) (rest := [.ref (ad (102)), .int ((1)), .ref (ad (91))]) X hAO (by decide) had (sz0 hs0 had) (kn_3 (b := 102) had Lpk_102) (hAO.2.2.2.2 (.methodLinkNest "StationPiano" 84 ⟨"StationPiano$Mark", "<init>", "()V"⟩ "StationPiano") (List.mem_of_getElem? (i := 6) rfl)) uw2_159 uw1_12 uw2_160 rfl rfl rfl dn_3 ⟨Nat.le_of_ble_eq_true rfl, Nat.le_of_ble_eq_true rfl⟩ rfl (Nat.le_of_ble_eq_true rfl) (Nat.le_of_ble_eq_true rfl) (Nat.le_of_ble_eq_true rfl) dX11_init_157 rfl ?_
  refine n_ast17 X (i := 91) (j := 1) (v := 102) (by decide) Lpk_91 (by decide) (by rw [Lpn_91]; exact inb_in rfl) rfl (by decide) Lpk_102 dX11_init_160 ?_
  refine n_iinc (v := (2)) (lv2 := [(1, .int ((2))), (0, .ref (ad (0)))]) X dX11_init_161 0 rfl (by decide) (by decide) rfl ?_
  refine n_goto (tgt := 143) X dX11_init_164 (by decide) ?_
  refine n_iload_n X dX11_init_143 rfl 0 rfl ?_
  refine n_iconst (v := (4)) X dX11_init_144 (by decide) ?_
  refine n_icmp_ge_f (tgt := 167) X dX11_init_145 (by decide) (by decide) ?_
  refine n_aload_n X dX11_init_148 rfl 1 rfl ?_
  refine n_getF X (k := 11) (of := 91) (v := 91) rfl rfl (by decide) Lpk_0 rfl (by decide) ui_11 (by decide) uw2_194 (rfl) rfl dX11_init_149 ?_
  refine n_iload_n X dX11_init_152 rfl 0 rfl ?_
  refine n_new X (Nf := 4) (ty0 := tyX3) (by decide) had (sz0 hs0 had) Lpk_112 (by decide) rfl ui_3 tyX3_ok df_3 rfl uw2_155 uw2_157 uw1_12 (Nat.le_of_ble_eq_true rfl) (Nat.le_of_ble_eq_true rfl) dX11_init_153 ?_
  refine n_dup X dX11_init_156 rfl ?_
  refine n_cIN (As := []) (rest := [.ref (ad (112)), .int ((2)), .ref (ad (91))]) X hAO (by decide) had (sz0 hs0 had) (kn_3 (b := 112) had Lpk_112) (hAO.2.2.2.2 (.methodLinkNest "StationPiano" 84 ⟨"StationPiano$Mark", "<init>", "()V"⟩ "StationPiano") (List.mem_of_getElem? (i := 6) rfl)) uw2_159 uw1_12 uw2_160 rfl rfl rfl dn_3 ⟨Nat.le_of_ble_eq_true rfl, Nat.le_of_ble_eq_true rfl⟩ rfl (Nat.le_of_ble_eq_true rfl) (Nat.le_of_ble_eq_true rfl) (Nat.le_of_ble_eq_true rfl) dX11_init_157 rfl ?_
  refine n_ast17 X (i := 91) (j := 2) (v := 112) (by decide) Lpk_91 (by decide) (by rw [Lpn_91]; exact inb_in rfl) rfl (by decide) Lpk_112 dX11_init_160 ?_
  refine n_iinc (v := (3)) (lv2 := [(1, .int ((3))), (0, .ref (ad (0)))]) X dX11_init_161 0 rfl (by decide) (by decide) rfl ?_
  refine n_goto (tgt := 143) X dX11_init_164 (by decide) ?_
  refine n_iload_n X dX11_init_143 rfl 0 rfl ?_
  refine n_iconst (v := (4)) X dX11_init_144 (by decide) ?_
  refine n_icmp_ge_f (tgt := 167) X dX11_init_145 (by decide) (by decide) ?_
  refine n_aload_n X dX11_init_148 rfl 1 rfl ?_
  refine n_getF X (k := 11) (of := 91) (v := 91) rfl rfl (by decide) Lpk_0 rfl (by decide) ui_11 (by decide) uw2_194 (rfl) rfl dX11_init_149 ?_
  refine n_iload_n X dX11_init_152 rfl 0 rfl ?_
  refine n_new X (Nf := 4) (ty0 := tyX3) (by decide) had (sz0 hs0 had) Lpk_122 (by decide) rfl ui_3 tyX3_ok df_3 rfl uw2_155 uw2_157 uw1_12 (Nat.le_of_ble_eq_true rfl) (Nat.le_of_ble_eq_true rfl) dX11_init_153 ?_
  refine n_dup X dX11_init_156 rfl ?_
  refine n_cIN (As := []) (rest := [.ref (ad (122)), .int ((3)), .ref (ad (91))]) X hAO (by decide) had (sz0 hs0 had) (kn_3 (b := 122) had Lpk_122) (hAO.2.2.2.2 (.methodLinkNest "StationPiano" 84 ⟨"StationPiano$Mark", "<init>", "()V"⟩ "StationPiano") (List.mem_of_getElem? (i := 6) rfl)) uw2_159 uw1_12 uw2_160 rfl rfl rfl dn_3 ⟨Nat.le_of_ble_eq_true rfl, Nat.le_of_ble_eq_true rfl⟩ rfl (Nat.le_of_ble_eq_true rfl) (Nat.le_of_ble_eq_true rfl) (Nat.le_of_ble_eq_true rfl) dX11_init_157 rfl ?_
  refine n_ast17 X (i := 91) (j := 3) (v := 122) (by decide) Lpk_91 (by decide) (by rw [Lpn_91]; exact inb_in rfl) rfl (by decide) Lpk_122 dX11_init_160 ?_
  refine n_iinc (v := (4)) (lv2 := [(1, .int ((4))), (0, .ref (ad (0)))]) X dX11_init_161 0 rfl (by decide) (by decide) rfl ?_
  refine n_goto (tgt := 143) X dX11_init_164 (by decide) ?_
  refine n_iload_n X dX11_init_143 rfl 0 rfl ?_
  refine n_iconst (v := (4)) X dX11_init_144 (by decide) ?_
  refine n_icmp_ge_t (tgt := 167) X dX11_init_145 (by decide) (by decide) ?_
  refine n_aload_n X dX11_init_167 rfl 1 rfl ?_
  refine n_bipush (v := (16)) X dX11_init_168 (by decide) ?_
  refine n_newq19 X (N := 16) hAO (by decide) had (sz0 hs0 had) Lpk_132 Lpn_132 (by decide) (by decide) uw1_238 (Nat.le_of_ble_eq_true rfl) (Nat.le_of_ble_eq_true rfl) (Nat.le_of_ble_eq_true rfl) dX11_init_170 ?_
  refine n_putF X (k := 12) (of := 132) (v := 132) (by decide) Lpk_0 rfl (by decide) ui_11 (by decide) uw2_195 tyX11_ok nmX11 rfl hmn rfl rfl rfl rfl rfl rfl rfl dX11_init_173 ?_
  refine n_iconst (v := (0)) X dX11_init_176 (by decide) ?_
  refine n_istore_n (lv2 := [(1, .int ((0))), (0, .ref (ad (0)))]) X dX11_init_177 rfl (by decide) rfl ?_
  refine n_iload_n X dX11_init_178 rfl 0 rfl ?_
  refine n_bipush (v := (16)) X dX11_init_179 (by decide) ?_
  refine n_icmp_ge_f (tgt := 203) X dX11_init_181 (by decide) (by decide) ?_
  refine n_aload_n X dX11_init_184 rfl 1 rfl ?_
  refine n_getF X (k := 12) (of := 132) (v := 132) rfl rfl (by decide) Lpk_0 rfl (by decide) ui_11 (by decide) uw2_195 (rfl) rfl dX11_init_185 ?_
  refine n_iload_n X dX11_init_188 rfl 0 rfl ?_
  refine n_new X (Nf := 6) (ty0 := tyX6) (by decide) had (sz0 hs0 had) Lpk_133 (by decide) rfl ui_6 tyX6_ok df_6 rfl uw1_238 uw1_239 uw1_7 (Nat.le_of_ble_eq_true rfl) (Nat.le_of_ble_eq_true rfl) dX11_init_189 ?_
  refine n_dup X dX11_init_192 rfl ?_
  refine n_cIN (As := []) (rest := [.ref (ad (133)), .int ((0)), .ref (ad (132))]) X hAO (by decide) had (sz0 hs0 had) (kn_6 (b := 133) had Lpk_133) (hAO.2.2.2.2 (.methodLinkNest "StationPiano" 37 ⟨"StationPiano$State", "<init>", "()V"⟩ "StationPiano") (List.mem_of_getElem? (i := 2) rfl)) uw2_1 uw1_7 uw2_2 rfl rfl rfl dn_6 ⟨Nat.le_of_ble_eq_true rfl, Nat.le_of_ble_eq_true rfl⟩ rfl (Nat.le_of_ble_eq_true rfl) (Nat.le_of_ble_eq_true rfl) (Nat.le_of_ble_eq_true rfl) dX11_init_193 rfl ?_
  refine n_ast19 X (i := 132) (j := 0) (v := 133) (by decide) Lpk_132 (by decide) (by rw [Lpn_132]; exact inb_in rfl) rfl (by decide) Lpk_133 dX11_init_196 ?_
  refine n_iinc (v := (1)) (lv2 := [(1, .int ((1))), (0, .ref (ad (0)))]) X dX11_init_197 0 rfl (by decide) (by decide) rfl ?_
  refine n_goto (tgt := 178) X dX11_init_200 (by decide) ?_
  refine n_iload_n X dX11_init_178 rfl 0 rfl ?_
  refine n_bipush (v := (16)) X dX11_init_179 (by decide) ?_
  refine n_icmp_ge_f (tgt := 203) X dX11_init_181 (by decide) (by decide) ?_
  refine n_aload_n X dX11_init_184 rfl 1 rfl ?_
  refine n_getF X (k := 12) (of := 132) (v := 132) rfl rfl (by decide) Lpk_0 rfl (by decide) ui_11 (by decide) uw2_195 (rfl) rfl dX11_init_185 ?_
  refine n_iload_n X dX11_init_188 rfl 0 rfl ?_
  refine n_new X (Nf := 6) (ty0 := tyX6) (by decide) had (sz0 hs0 had) Lpk_135 (by decide) rfl ui_6 tyX6_ok df_6 rfl uw1_238 uw1_239 uw1_7 (Nat.le_of_ble_eq_true rfl) (Nat.le_of_ble_eq_true rfl) dX11_init_189 ?_
  refine n_dup X dX11_init_192 rfl ?_
  refine n_cIN (As := []) (rest := [.ref (ad (135)), .int ((1)), .ref (ad (132))]) X hAO (by decide) had (sz0 hs0 had) (kn_6 (b := 135) had Lpk_135) (hAO.2.2.2.2 (.methodLinkNest "StationPiano" 37 ⟨"StationPiano$State", "<init>", "()V"⟩ "StationPiano") (List.mem_of_getElem? (i := 2) rfl)) uw2_1 uw1_7 uw2_2 rfl rfl rfl dn_6 ⟨Nat.le_of_ble_eq_true rfl, Nat.le_of_ble_eq_true rfl⟩ rfl (Nat.le_of_ble_eq_true rfl) (Nat.le_of_ble_eq_true rfl) (Nat.le_of_ble_eq_true rfl) dX11_init_193 rfl ?_
  refine n_ast19 X (i := 132) (j := 1) (v := 135) (by decide) Lpk_132 (by decide) (by rw [Lpn_132]; exact inb_in rfl) rfl (by decide) Lpk_135 dX11_init_196 ?_
  refine n_iinc (v := (2)) (lv2 := [(1, .int ((2))), (0, .ref (ad (0)))]) X dX11_init_197 0 rfl (by decide) (by decide) rfl ?_
  refine n_goto (tgt := 178) X dX11_init_200 (by decide) ?_
  refine n_iload_n X dX11_init_178 rfl 0 rfl ?_
  refine n_bipush (v := (16)) X dX11_init_179 (by decide) ?_
  refine n_icmp_ge_f (tgt := 203) X dX11_init_181 (by decide) (by decide) ?_
  refine n_aload_n X dX11_init_184 rfl 1 rfl ?_
  refine n_getF X (k := 12) (of := 132) (v := 132) rfl rfl (by decide) Lpk_0 rfl (by decide) ui_11 (by decide) uw2_195 (rfl) rfl dX11_init_185 ?_
  refine n_iload_n X dX11_init_188 rfl 0 rfl ?_
  refine n_new X (Nf := 6) (ty0 := tyX6) (by decide) had (sz0 hs0 had) Lpk_137 (by decide) rfl ui_6 tyX6_ok df_6 rfl uw1_238 uw1_239 uw1_7 (Nat.le_of_ble_eq_true rfl) (Nat.le_of_ble_eq_true rfl) dX11_init_189 ?_
  refine n_dup X dX11_init_192 rfl ?_
  refine n_cIN (As := []) (rest := [.ref (ad (137)), .int ((2)), .ref (ad (132))]) X hAO (by decide) had (sz0 hs0 had) (kn_6 (b := 137) had Lpk_137) (hAO.2.2.2.2 (.methodLinkNest "StationPiano" 37 ⟨"StationPiano$State", "<init>", "()V"⟩ "StationPiano") (List.mem_of_getElem? (i := 2) rfl)) uw2_1 uw1_7 uw2_2 rfl rfl rfl dn_6 ⟨Nat.le_of_ble_eq_true rfl, Nat.le_of_ble_eq_true rfl⟩ rfl (Nat.le_of_ble_eq_true rfl) (Nat.le_of_ble_eq_true rfl) (Nat.le_of_ble_eq_true rfl) dX11_init_193 rfl ?_
  refine n_ast19 X (i := 132) (j := 2) (v := 137) (by decide) Lpk_132 (by decide) (by rw [Lpn_132]; exact inb_in rfl) rfl (by decide) Lpk_137 dX11_init_196 ?_
  refine n_iinc (v := (3)) (lv2 := [(1, .int ((3))), (0, .ref (ad (0)))]) X dX11_init_197 0 rfl (by decide) (by decide) rfl ?_
  refine n_goto (tgt := 178) X dX11_init_200 (by decide) ?_
  refine n_iload_n X dX11_init_178 rfl 0 rfl ?_
  refine n_bipush (v := (16)) X dX11_init_179 (by decide) ?_
  refine n_icmp_ge_f (tgt := 203) X dX11_init_181 (by decide) (by decide) ?_
  refine n_aload_n X dX11_init_184 rfl 1 rfl ?_
  refine n_getF X (k := 12) (of := 132) (v := 132) rfl rfl (by decide) Lpk_0 rfl (by decide) ui_11 (by decide) uw2_195 (rfl) rfl dX11_init_185 ?_
  refine n_iload_n X dX11_init_188 rfl 0 rfl ?_
  refine n_new X (Nf := 6) (ty0 := tyX6) (by decide) had (sz0 hs0 had) Lpk_139 (by decide) rfl ui_6 tyX6_ok df_6 rfl uw1_238 uw1_239 uw1_7 (Nat.le_of_ble_eq_true rfl) (Nat.le_of_ble_eq_true rfl) dX11_init_189 ?_
  refine n_dup X dX11_init_192 rfl ?_
  refine n_cIN (As := []) (rest := [.ref (ad (139)), .int ((3)), .ref (ad (132))]) X hAO (by decide) had (sz0 hs0 had) (kn_6 (b := 139) had Lpk_139) (hAO.2.2.2.2 (.methodLinkNest "StationPiano" 37 ⟨"StationPiano$State", "<init>", "()V"⟩ "StationPiano") (List.mem_of_getElem? (i := 2) rfl)) uw2_1 uw1_7 uw2_2 rfl rfl rfl dn_6 ⟨Nat.le_of_ble_eq_true rfl, Nat.le_of_ble_eq_true rfl⟩ rfl (Nat.le_of_ble_eq_true rfl) (Nat.le_of_ble_eq_true rfl) (Nat.le_of_ble_eq_true rfl) dX11_init_193 rfl ?_
  refine n_ast19 X (i := 132) (j := 3) (v := 139) (by decide) Lpk_132 (by decide) (by rw [Lpn_132]; exact inb_in rfl) rfl (by decide) Lpk_139 dX11_init_196 ?_
  refine n_iinc (v := (4)) (lv2 := [(1, .int ((4))), (0, .ref (ad (0)))]) X dX11_init_197 0 rfl (by decide) (by decide) rfl ?_
  refine n_goto (tgt := 178) X dX11_init_200 (by decide) ?_
  refine n_iload_n X dX11_init_178 rfl 0 rfl ?_
  refine n_bipush (v := (16)) X dX11_init_179 (by decide) ?_
  refine n_icmp_ge_f (tgt := 203) X dX11_init_181 (by decide) (by decide) ?_
  refine n_aload_n X dX11_init_184 rfl 1 rfl ?_
  refine n_getF X (k := 12) (of := 132) (v := 132) rfl rfl (by decide) Lpk_0 rfl (by decide) ui_11 (by decide) uw2_195 (rfl) rfl dX11_init_185 ?_
  refine n_iload_n X dX11_init_188 rfl 0 rfl ?_
  refine n_new X (Nf := 6) (ty0 := tyX6) (by decide) had (sz0 hs0 had) Lpk_141 (by decide) rfl ui_6 tyX6_ok df_6 rfl uw1_238 uw1_239 uw1_7 (Nat.le_of_ble_eq_true rfl) (Nat.le_of_ble_eq_true rfl) dX11_init_189 ?_
  refine n_dup X dX11_init_192 rfl ?_
  refine n_cIN (As := []) (rest := [.ref (ad (141)), .int ((4)), .ref (ad (132))]) X hAO (by decide) had (sz0 hs0 had) (kn_6 (b := 141) had Lpk_141) (hAO.2.2.2.2 (.methodLinkNest "StationPiano" 37 ⟨"StationPiano$State", "<init>", "()V"⟩ "StationPiano") (List.mem_of_getElem? (i := 2) rfl)) uw2_1 uw1_7 uw2_2 rfl rfl rfl dn_6 ⟨Nat.le_of_ble_eq_true rfl, Nat.le_of_ble_eq_true rfl⟩ rfl (Nat.le_of_ble_eq_true rfl) (Nat.le_of_ble_eq_true rfl) (Nat.le_of_ble_eq_true rfl) dX11_init_193 rfl ?_
  refine n_ast19 X (i := 132) (j := 4) (v := 141) (by decide) Lpk_132 (by decide) (by rw [Lpn_132]; exact inb_in rfl) rfl (by decide) Lpk_141 dX11_init_196 ?_
  refine n_iinc (v := (5)) (lv2 := [(1, .int ((5))), (0, .ref (ad (0)))]) X dX11_init_197 0 rfl (by decide) (by decide) rfl ?_
  refine n_goto (tgt := 178) X dX11_init_200 (by decide) ?_
  refine n_iload_n X dX11_init_178 rfl 0 rfl ?_
  refine n_bipush (v := (16)) X dX11_init_179 (by decide) ?_
  refine n_icmp_ge_f (tgt := 203) X dX11_init_181 (by decide) (by decide) ?_
  refine n_aload_n X dX11_init_184 rfl 1 rfl ?_
  refine n_getF X (k := 12) (of := 132) (v := 132) rfl rfl (by decide) Lpk_0 rfl (by decide) ui_11 (by decide) uw2_195 (rfl) rfl dX11_init_185 ?_
  refine n_iload_n X dX11_init_188 rfl 0 rfl ?_
  refine n_new X (Nf := 6) (ty0 := tyX6) (by decide) had (sz0 hs0 had) Lpk_143 (by decide) rfl ui_6 tyX6_ok df_6 rfl uw1_238 uw1_239 uw1_7 (Nat.le_of_ble_eq_true rfl) (Nat.le_of_ble_eq_true rfl) dX11_init_189 ?_
  refine n_dup X dX11_init_192 rfl ?_
  refine n_cIN (As := []) (rest := [.ref (ad (143)), .int ((5)), .ref (ad (132))]) X hAO (by decide) had (sz0 hs0 had) (kn_6 (b := 143) had Lpk_143) (hAO.2.2.2.2 (.methodLinkNest "StationPiano" 37 ⟨"StationPiano$State", "<init>", "()V"⟩ "StationPiano") (List.mem_of_getElem? (i := 2) rfl)) uw2_1 uw1_7 uw2_2 rfl rfl rfl dn_6 ⟨Nat.le_of_ble_eq_true rfl, Nat.le_of_ble_eq_true rfl⟩ rfl (Nat.le_of_ble_eq_true rfl) (Nat.le_of_ble_eq_true rfl) (Nat.le_of_ble_eq_true rfl) dX11_init_193 rfl ?_
  refine n_ast19 X (i := 132) (j := 5) (v := 143) (by decide) Lpk_132 (by decide) (by rw [Lpn_132]; exact inb_in rfl) rfl (by decide) Lpk_143 dX11_init_196 ?_
  refine n_iinc (v := (6)) (lv2 := [(1, .int ((6))), (0, .ref (ad (0)))]) X dX11_init_197 0 rfl (by decide) (by decide) rfl ?_
  refine n_goto (tgt := 178) X dX11_init_200 (by decide) ?_
  refine n_iload_n X dX11_init_178 rfl 0 rfl ?_
  refine n_bipush (v := (16)) X dX11_init_179 (by decide) ?_
  refine n_icmp_ge_f (tgt := 203) X dX11_init_181 (by decide) (by decide) ?_
  refine n_aload_n X dX11_init_184 rfl 1 rfl ?_
  refine n_getF X (k := 12) (of := 132) (v := 132) rfl rfl (by decide) Lpk_0 rfl (by decide) ui_11 (by decide) uw2_195 (rfl) rfl dX11_init_185 ?_
  refine n_iload_n X dX11_init_188 rfl 0 rfl ?_
  refine n_new X (Nf := 6) (ty0 := tyX6) (by decide) had (sz0 hs0 had) Lpk_145 (by decide) rfl ui_6 tyX6_ok df_6 rfl uw1_238 uw1_239 uw1_7 (Nat.le_of_ble_eq_true rfl) (Nat.le_of_ble_eq_true rfl) dX11_init_189 ?_
  refine n_dup X dX11_init_192 rfl ?_
  refine n_cIN (As := []) (rest := [.ref (ad (145)), .int ((6)), .ref (ad (132))]) X hAO (by decide) had (sz0 hs0 had) (kn_6 (b := 145) had Lpk_145) (hAO.2.2.2.2 (.methodLinkNest "StationPiano" 37 ⟨"StationPiano$State", "<init>", "()V"⟩ "StationPiano") (List.mem_of_getElem? (i := 2) rfl)) uw2_1 uw1_7 uw2_2 rfl rfl rfl dn_6 ⟨Nat.le_of_ble_eq_true rfl, Nat.le_of_ble_eq_true rfl⟩ rfl (Nat.le_of_ble_eq_true rfl) (Nat.le_of_ble_eq_true rfl) (Nat.le_of_ble_eq_true rfl) dX11_init_193 rfl ?_
  refine n_ast19 X (i := 132) (j := 6) (v := 145) (by decide) Lpk_132 (by decide) (by rw [Lpn_132]; exact inb_in rfl) rfl (by decide) Lpk_145 dX11_init_196 ?_
  refine n_iinc (v := (7)) (lv2 := [(1, .int ((7))), (0, .ref (ad (0)))]) X dX11_init_197 0 rfl (by decide) (by decide) rfl ?_
  refine n_goto (tgt := 178) X dX11_init_200 (by decide) ?_
  refine n_iload_n X dX11_init_178 rfl 0 rfl ?_
  refine n_bipush (v := (16)) X dX11_init_179 (by decide) ?_
  refine n_icmp_ge_f (tgt := 203) X dX11_init_181 (by decide) (by decide) ?_
  refine n_aload_n X dX11_init_184 rfl 1 rfl ?_
  refine n_getF X (k := 12) (of := 132) (v := 132) rfl rfl (by decide) Lpk_0 rfl (by decide) ui_11 (by decide) uw2_195 (rfl) rfl dX11_init_185 ?_
  refine n_iload_n X dX11_init_188 rfl 0 rfl ?_
  refine n_new X (Nf := 6) (ty0 := tyX6) (by decide) had (sz0 hs0 had) Lpk_147 (by decide) rfl ui_6 tyX6_ok df_6 rfl uw1_238 uw1_239 uw1_7 (Nat.le_of_ble_eq_true rfl) (Nat.le_of_ble_eq_true rfl) dX11_init_189 ?_
  refine n_dup X dX11_init_192 rfl ?_
  refine n_cIN (As := []) (rest := [.ref (ad (147)), .int ((7)), .ref (ad (132))]) X hAO (by decide) had (sz0 hs0 had) (kn_6 (b := 147) had Lpk_147) (hAO.2.2.2.2 (.methodLinkNest "StationPiano" 37 ⟨"StationPiano$State", "<init>", "()V"⟩ "StationPiano") (List.mem_of_getElem? (i := 2) rfl)) uw2_1 uw1_7 uw2_2 rfl rfl rfl dn_6 ⟨Nat.le_of_ble_eq_true rfl, Nat.le_of_ble_eq_true rfl⟩ rfl (Nat.le_of_ble_eq_true rfl) (Nat.le_of_ble_eq_true rfl) (Nat.le_of_ble_eq_true rfl) dX11_init_193 rfl ?_
  refine n_ast19 X (i := 132) (j := 7) (v := 147) (by decide) Lpk_132 (by decide) (by rw [Lpn_132]; exact inb_in rfl) rfl (by decide) Lpk_147 dX11_init_196 ?_
  refine n_iinc (v := (8)) (lv2 := [(1, .int ((8))), (0, .ref (ad (0)))]) X dX11_init_197 0 rfl (by decide) (by decide) rfl ?_
  refine n_goto (tgt := 178) X dX11_init_200 (by decide) ?_
  refine n_iload_n X dX11_init_178 rfl 0 rfl ?_
  refine n_bipush (v := (16)) X dX11_init_179 (by decide) ?_
  refine n_icmp_ge_f (tgt := 203) X dX11_init_181 (by decide) (by decide) ?_
  refine n_aload_n X dX11_init_184 rfl 1 rfl ?_
  refine n_getF X (k := 12) (of := 132) (v := 132) rfl rfl (by decide) Lpk_0 rfl (by decide) ui_11 (by decide) uw2_195 (rfl) rfl dX11_init_185 ?_
  refine n_iload_n X dX11_init_188 rfl 0 rfl ?_
  refine n_new X (Nf := 6) (ty0 := tyX6) (by decide) had (sz0 hs0 had) Lpk_149 (by decide) rfl ui_6 tyX6_ok df_6 rfl uw1_238 uw1_239 uw1_7 (Nat.le_of_ble_eq_true rfl) (Nat.le_of_ble_eq_true rfl) dX11_init_189 ?_
  refine n_dup X dX11_init_192 rfl ?_
  refine n_cIN (As := []) (rest := [.ref (ad (149)), .int ((8)), .ref (ad (132))]) X hAO (by decide) had (sz0 hs0 had) (kn_6 (b := 149) had Lpk_149) (hAO.2.2.2.2 (.methodLinkNest "StationPiano" 37 ⟨"StationPiano$State", "<init>", "()V"⟩ "StationPiano") (List.mem_of_getElem? (i := 2) rfl)) uw2_1 uw1_7 uw2_2 rfl rfl rfl dn_6 ⟨Nat.le_of_ble_eq_true rfl, Nat.le_of_ble_eq_true rfl⟩ rfl (Nat.le_of_ble_eq_true rfl) (Nat.le_of_ble_eq_true rfl) (Nat.le_of_ble_eq_true rfl) dX11_init_193 rfl ?_
  refine n_ast19 X (i := 132) (j := 8) (v := 149) (by decide) Lpk_132 (by decide) (by rw [Lpn_132]; exact inb_in rfl) rfl (by decide) Lpk_149 dX11_init_196 ?_
  refine n_iinc (v := (9)) (lv2 := [(1, .int ((9))), (0, .ref (ad (0)))]) X dX11_init_197 0 rfl (by decide) (by decide) rfl ?_
  refine n_goto (tgt := 178) X dX11_init_200 (by decide) ?_
  refine n_iload_n X dX11_init_178 rfl 0 rfl ?_
  refine n_bipush (v := (16)) X dX11_init_179 (by decide) ?_
  refine n_icmp_ge_f (tgt := 203) X dX11_init_181 (by decide) (by decide) ?_
  refine n_aload_n X dX11_init_184 rfl 1 rfl ?_
  refine n_getF X (k := 12) (of := 132) (v := 132) rfl rfl (by decide) Lpk_0 rfl (by decide) ui_11 (by decide) uw2_195 (rfl) rfl dX11_init_185 ?_
  refine n_iload_n X dX11_init_188 rfl 0 rfl ?_
  refine n_new X (Nf := 6) (ty0 := tyX6) (by decide) had (sz0 hs0 had) Lpk_151 (by decide) rfl ui_6 tyX6_ok df_6 rfl uw1_238 uw1_239 uw1_7 (Nat.le_of_ble_eq_true rfl) (Nat.le_of_ble_eq_true rfl) dX11_init_189 ?_
  refine n_dup X dX11_init_192 rfl ?_
  refine n_cIN (As := []) (rest := [.ref (ad (151)), .int ((9)), .ref (ad (132))]) X hAO (by decide) had (sz0 hs0 had) (kn_6 (b := 151) had Lpk_151) (hAO.2.2.2.2 (.methodLinkNest "StationPiano" 37 ⟨"StationPiano$State", "<init>", "()V"⟩ "StationPiano") (List.mem_of_getElem? (i := 2) rfl)) uw2_1 uw1_7 uw2_2 rfl rfl rfl dn_6 ⟨Nat.le_of_ble_eq_true rfl, Nat.le_of_ble_eq_true rfl⟩ rfl (Nat.le_of_ble_eq_true rfl) (Nat.le_of_ble_eq_true rfl) (Nat.le_of_ble_eq_true rfl) dX11_init_193 rfl ?_
  refine n_ast19 X (i := 132) (j := 9) (v := 151) (by decide) Lpk_132 (by decide) (by rw [Lpn_132]; exact inb_in rfl) rfl (by decide) Lpk_151 dX11_init_196 ?_
  refine n_iinc (v := (10)) (lv2 := [(1, .int ((10))), (0, .ref (ad (0)))]) X dX11_init_197 0 rfl (by decide) (by decide) rfl ?_
  refine n_goto (tgt := 178) X dX11_init_200 (by decide) ?_
  refine n_iload_n X dX11_init_178 rfl 0 rfl ?_
  refine n_bipush (v := (16)) X dX11_init_179 (by decide) ?_
  refine n_icmp_ge_f (tgt := 203) X dX11_init_181 (by decide) (by decide) ?_
  refine n_aload_n X dX11_init_184 rfl 1 rfl ?_
  refine n_getF X (k := 12) (of := 132) (v := 132) rfl rfl (by decide) Lpk_0 rfl (by decide) ui_11 (by decide) uw2_195 (rfl) rfl dX11_init_185 ?_
  refine n_iload_n X dX11_init_188 rfl 0 rfl ?_
  refine n_new X (Nf := 6) (ty0 := tyX6) (by decide) had (sz0 hs0 had) Lpk_153 (by decide) rfl ui_6 tyX6_ok df_6 rfl uw1_238 uw1_239 uw1_7 (Nat.le_of_ble_eq_true rfl) (Nat.le_of_ble_eq_true rfl) dX11_init_189 ?_
  refine n_dup X dX11_init_192 rfl ?_
  refine n_cIN (As := []) (rest := [.ref (ad (153)), .int ((10)), .ref (ad (132))]) X hAO (by decide) had (sz0 hs0 had) (kn_6 (b := 153) had Lpk_153) (hAO.2.2.2.2 (.methodLinkNest "StationPiano" 37 ⟨"StationPiano$State", "<init>", "()V"⟩ "StationPiano") (List.mem_of_getElem? (i := 2) rfl)) uw2_1 uw1_7 uw2_2 rfl rfl rfl dn_6 ⟨Nat.le_of_ble_eq_true rfl, Nat.le_of_ble_eq_true rfl⟩ rfl (Nat.le_of_ble_eq_true rfl) (Nat.le_of_ble_eq_true rfl) (Nat.le_of_ble_eq_true rfl) dX11_init_193 rfl ?_
  refine n_ast19 X (i := 132) (j := 10) (v := 153) (by decide) Lpk_132 (by decide) (by rw [Lpn_132]; exact inb_in rfl) rfl (by decide) Lpk_153 dX11_init_196 ?_
  refine n_iinc (v := (11)) (lv2 := [(1, .int ((11))), (0, .ref (ad (0)))]) X dX11_init_197 0 rfl (by decide) (by decide) rfl ?_
  refine n_goto (tgt := 178) X dX11_init_200 (by decide) ?_
  refine n_iload_n X dX11_init_178 rfl 0 rfl ?_
  refine n_bipush (v := (16)) X dX11_init_179 (by decide) ?_
  refine n_icmp_ge_f (tgt := 203) X dX11_init_181 (by decide) (by decide) ?_
  refine n_aload_n X dX11_init_184 rfl 1 rfl ?_
  refine n_getF X (k := 12) (of := 132) (v := 132) rfl rfl (by decide) Lpk_0 rfl (by decide) ui_11 (by decide) uw2_195 (rfl) rfl dX11_init_185 ?_
  refine n_iload_n X dX11_init_188 rfl 0 rfl ?_
  refine n_new X (Nf := 6) (ty0 := tyX6) (by decide) had (sz0 hs0 had) Lpk_155 (by decide) rfl ui_6 tyX6_ok df_6 rfl uw1_238 uw1_239 uw1_7 (Nat.le_of_ble_eq_true rfl) (Nat.le_of_ble_eq_true rfl) dX11_init_189 ?_
  refine n_dup X dX11_init_192 rfl ?_
  refine n_cIN (As := []) (rest := [.ref (ad (155)), .int ((11)), .ref (ad (132))]) X hAO (by decide) had (sz0 hs0 had) (kn_6 (b := 155) had Lpk_155) (hAO.2.2.2.2 (.methodLinkNest "StationPiano" 37 ⟨"StationPiano$State", "<init>", "()V"⟩ "StationPiano") (List.mem_of_getElem? (i := 2) rfl)) uw2_1 uw1_7 uw2_2 rfl rfl rfl dn_6 ⟨Nat.le_of_ble_eq_true rfl, Nat.le_of_ble_eq_true rfl⟩ rfl (Nat.le_of_ble_eq_true rfl) (Nat.le_of_ble_eq_true rfl) (Nat.le_of_ble_eq_true rfl) dX11_init_193 rfl ?_
  refine n_ast19 X (i := 132) (j := 11) (v := 155) (by decide) Lpk_132 (by decide) (by rw [Lpn_132]; exact inb_in rfl) rfl (by decide) Lpk_155 dX11_init_196 ?_
  refine n_iinc (v := (12)) (lv2 := [(1, .int ((12))), (0, .ref (ad (0)))]) X dX11_init_197 0 rfl (by decide) (by decide) rfl ?_
  refine n_goto (tgt := 178) X dX11_init_200 (by decide) ?_
  refine n_iload_n X dX11_init_178 rfl 0 rfl ?_
  refine n_bipush (v := (16)) X dX11_init_179 (by decide) ?_
  refine n_icmp_ge_f (tgt := 203) X dX11_init_181 (by decide) (by decide) ?_
  refine n_aload_n X dX11_init_184 rfl 1 rfl ?_
  refine n_getF X (k := 12) (of := 132) (v := 132) rfl rfl (by decide) Lpk_0 rfl (by decide) ui_11 (by decide) uw2_195 (rfl) rfl dX11_init_185 ?_
  refine n_iload_n X dX11_init_188 rfl 0 rfl ?_
  refine n_new X (Nf := 6) (ty0 := tyX6) (by decide) had (sz0 hs0 had) Lpk_157 (by decide) rfl ui_6 tyX6_ok df_6 rfl uw1_238 uw1_239 uw1_7 (Nat.le_of_ble_eq_true rfl) (Nat.le_of_ble_eq_true rfl) dX11_init_189 ?_
  refine n_dup X dX11_init_192 rfl ?_
  refine n_cIN (As := []) (rest := [.ref (ad (157)), .int ((12)), .ref (ad (132))]) X hAO (by decide) had (sz0 hs0 had) (kn_6 (b := 157) had Lpk_157) (hAO.2.2.2.2 (.methodLinkNest "StationPiano" 37 ⟨"StationPiano$State", "<init>", "()V"⟩ "StationPiano") (List.mem_of_getElem? (i := 2) rfl)) uw2_1 uw1_7 uw2_2 rfl rfl rfl dn_6 ⟨Nat.le_of_ble_eq_true rfl, Nat.le_of_ble_eq_true rfl⟩ rfl (Nat.le_of_ble_eq_true rfl) (Nat.le_of_ble_eq_true rfl) (Nat.le_of_ble_eq_true rfl) dX11_init_193 rfl ?_
  refine n_ast19 X (i := 132) (j := 12) (v := 157) (by decide) Lpk_132 (by decide) (by rw [Lpn_132]; exact inb_in rfl) rfl (by decide) Lpk_157 dX11_init_196 ?_
  refine n_iinc (v := (13)) (lv2 := [(1, .int ((13))), (0, .ref (ad (0)))]) X dX11_init_197 0 rfl (by decide) (by decide) rfl ?_
  refine n_goto (tgt := 178) X dX11_init_200 (by decide) ?_
  refine n_iload_n X dX11_init_178 rfl 0 rfl ?_
  refine n_bipush (v := (16)) X dX11_init_179 (by decide) ?_
  refine n_icmp_ge_f (tgt := 203) X dX11_init_181 (by decide) (by decide) ?_
  refine n_aload_n X dX11_init_184 rfl 1 rfl ?_
  refine n_getF X (k := 12) (of := 132) (v := 132) rfl rfl (by decide) Lpk_0 rfl (by decide) ui_11 (by decide) uw2_195 (rfl) rfl dX11_init_185 ?_
  refine n_iload_n X dX11_init_188 rfl 0 rfl ?_
  refine n_new X (Nf := 6) (ty0 := tyX6) (by decide) had (sz0 hs0 had) Lpk_159 (by decide) rfl ui_6 tyX6_ok df_6 rfl uw1_238 uw1_239 uw1_7 (Nat.le_of_ble_eq_true rfl) (Nat.le_of_ble_eq_true rfl) dX11_init_189 ?_
  refine n_dup X dX11_init_192 rfl ?_
  refine n_cIN (As := []) (rest := [.ref (ad (159)), .int ((13)), .ref (ad (132))]) X hAO (by decide) had (sz0 hs0 had) (kn_6 (b := 159) had Lpk_159) (hAO.2.2.2.2 (.methodLinkNest "StationPiano" 37 ⟨"StationPiano$State", "<init>", "()V"⟩ "StationPiano") (List.mem_of_getElem? (i := 2) rfl)) uw2_1 uw1_7 uw2_2 rfl rfl rfl dn_6 ⟨Nat.le_of_ble_eq_true rfl, Nat.le_of_ble_eq_true rfl⟩ rfl (Nat.le_of_ble_eq_true rfl) (Nat.le_of_ble_eq_true rfl) (Nat.le_of_ble_eq_true rfl) dX11_init_193 rfl ?_
  refine n_ast19 X (i := 132) (j := 13) (v := 159) (by decide) Lpk_132 (by decide) (by rw [Lpn_132]; exact inb_in rfl) rfl (by decide) Lpk_159 dX11_init_196 ?_
  refine n_iinc (v := (14)) (lv2 := [(1, .int ((14))), (0, .ref (ad (0)))]) X dX11_init_197 0 rfl (by decide) (by decide) rfl ?_
  refine n_goto (tgt := 178) X dX11_init_200 (by decide) ?_
  refine n_iload_n X dX11_init_178 rfl 0 rfl ?_
  refine n_bipush (v := (16)) X dX11_init_179 (by decide) ?_
  refine n_icmp_ge_f (tgt := 203) X dX11_init_181 (by decide) (by decide) ?_
  refine n_aload_n X dX11_init_184 rfl 1 rfl ?_
  refine n_getF X (k := 12) (of := 132) (v := 132) rfl rfl (by decide) Lpk_0 rfl (by decide) ui_11 (by decide) uw2_195 (rfl) rfl dX11_init_185 ?_
  refine n_iload_n X dX11_init_188 rfl 0 rfl ?_
  refine n_new X (Nf := 6) (ty0 := tyX6) (by decide) had (sz0 hs0 had) Lpk_161 (by decide) rfl ui_6 tyX6_ok df_6 rfl uw1_238 uw1_239 uw1_7 (Nat.le_of_ble_eq_true rfl) (Nat.le_of_ble_eq_true rfl) dX11_init_189 ?_
  refine n_dup X dX11_init_192 rfl ?_
  refine n_cIN (As := []) (rest := [.ref (ad (161)), .int ((14)), .ref (ad (132))]) X hAO (by decide) had (sz0 hs0 had) (kn_6 (b := 161) had Lpk_161) (hAO.2.2.2.2 (.methodLinkNest "StationPiano" 37 ⟨"StationPiano$State", "<init>", "()V"⟩ "StationPiano") (List.mem_of_getElem? (i := 2) rfl)) uw2_1 uw1_7 uw2_2 rfl rfl rfl dn_6 ⟨Nat.le_of_ble_eq_true rfl, Nat.le_of_ble_eq_true rfl⟩ rfl (Nat.le_of_ble_eq_true rfl) (Nat.le_of_ble_eq_true rfl) (Nat.le_of_ble_eq_true rfl) dX11_init_193 rfl ?_
  refine n_ast19 X (i := 132) (j := 14) (v := 161) (by decide) Lpk_132 (by decide) (by rw [Lpn_132]; exact inb_in rfl) rfl (by decide) Lpk_161 dX11_init_196 ?_
  refine n_iinc (v := (15)) (lv2 := [(1, .int ((15))), (0, .ref (ad (0)))]) X dX11_init_197 0 rfl (by decide) (by decide) rfl ?_
  refine n_goto (tgt := 178) X dX11_init_200 (by decide) ?_
  refine n_iload_n X dX11_init_178 rfl 0 rfl ?_
  refine n_bipush (v := (16)) X dX11_init_179 (by decide) ?_
  refine n_icmp_ge_f (tgt := 203) X dX11_init_181 (by decide) (by decide) ?_
  refine n_aload_n X dX11_init_184 rfl 1 rfl ?_
  refine n_getF X (k := 12) (of := 132) (v := 132) rfl rfl (by decide) Lpk_0 rfl (by decide) ui_11 (by decide) uw2_195 (rfl) rfl dX11_init_185 ?_
  refine n_iload_n X dX11_init_188 rfl 0 rfl ?_
  refine n_new X (Nf := 6) (ty0 := tyX6) (by decide) had (sz0 hs0 had) Lpk_163 (by decide) rfl ui_6 tyX6_ok df_6 rfl uw1_238 uw1_239 uw1_7 (Nat.le_of_ble_eq_true rfl) (Nat.le_of_ble_eq_true rfl) dX11_init_189 ?_
  refine n_dup X dX11_init_192 rfl ?_
  refine n_cIN (As := []) (rest := [.ref (ad (163)), .int ((15)), .ref (ad (132))]) X hAO (by decide) had (sz0 hs0 had) (kn_6 (b := 163) had Lpk_163) (hAO.2.2.2.2 (.methodLinkNest "StationPiano" 37 ⟨"StationPiano$State", "<init>", "()V"⟩ "StationPiano") (List.mem_of_getElem? (i := 2) rfl)) uw2_1 uw1_7 uw2_2 rfl rfl rfl dn_6 ⟨Nat.le_of_ble_eq_true rfl, Nat.le_of_ble_eq_true rfl⟩ rfl (Nat.le_of_ble_eq_true rfl) (Nat.le_of_ble_eq_true rfl) (Nat.le_of_ble_eq_true rfl) dX11_init_193 rfl ?_
  refine n_ast19 X (i := 132) (j := 15) (v := 163) (by decide) Lpk_132 (by decide) (by rw [Lpn_132]; exact inb_in rfl) rfl (by decide) Lpk_163 dX11_init_196 ?_
  refine n_iinc (v := (16)) (lv2 := [(1, .int ((16))), (0, .ref (ad (0)))]) X dX11_init_197 0 rfl (by decide) (by decide) rfl ?_
  refine n_goto (tgt := 178) X dX11_init_200 (by decide) ?_
  refine n_iload_n X dX11_init_178 rfl 0 rfl ?_
  refine n_bipush (v := (16)) X dX11_init_179 (by decide) ?_
  refine n_icmp_ge_t (tgt := 203) X dX11_init_181 (by decide) (by decide) ?_
  refine n_aload_n X dX11_init_203 rfl 1 rfl ?_
  refine n_iconst (v := (3)) X dX11_init_204 (by decide) ?_
  refine n_newaI X (N := 3) (by decide) had (sz0 hs0 had) Lpk_165 Lpn_165 (by decide) (by decide) uw1_117 (Nat.le_of_ble_eq_true rfl) (Nat.le_of_ble_eq_true rfl) (Nat.le_of_ble_eq_true rfl) dX11_init_205 ?_
  refine n_putF X (k := 15) (of := 165) (v := 165) (by decide) Lpk_0 rfl (by decide) ui_11 (by decide) uw2_198 tyX11_ok nmX11 rfl hmn rfl rfl rfl rfl rfl rfl rfl dX11_init_207 ?_
  exact n_vret X rfl dX11_init_210 rfl rfl rfl rfl rfl
