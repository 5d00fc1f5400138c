theorem hdX5_setBottle : yX5_setBottle.cls = RX5 ∧ yX5_setBottle.cls ≠ "java/lang/invoke/MethodHandle" ∧ yX5_setBottle.cls ≠ "java/lang/invoke/VarHandle" ∧ (parseMethodDescriptor yX5_setBottle.desc).map (fun d => d.parameters.length) = some 4 := by decide +kernel
set_option maxRecDepth 100000 in
set_option maxHeartbeats 4000000 in
theorem kX5_setBottle {l : Launch} (hst : l.stackTraces = false) {k : Nat → ClassId} {h : Nat → Nat} {S Z : Nat → Nat → Int} (hI : Inv S) {a0 a1 a2 a3 : Int} (g0 : R32 a0) (g1 : R32 a1) (g2 : R32 a2) (g3 : R32 a3) : v_Ct l k yX5_setBottle wsX5_setBottle ({ frames := 6, cells := 1, slots := 6, locals := 90 } : Room) [.ref (h 0), VI a0, VI a1, VI a2, VI a3] (cw k h S Z) (fun a u => u = cw k h (sBottle S a0 a1 a2 a3) Z ∧ eBottle S a0 a1 a2 a3 = 0 ∧ a = S 0 0) (fun E u => u = cw k h S Z ∧ ((eBottle S a0 a1 a2 a3 = 1 ∧ E = E_A) ∨ (eBottle S a0 a1 a2 a3 = 2 ∧ E = E_S))) := by
  refine v_ofX (cc := cX5_setBottle) (nL := 6) rfl (by decide +kernel) rfl hst (Nat.le_of_ble_eq_true rfl) (fun _ _ _ => rfl) (by decide) (by decide) (fun XX F ret thr => ?_)
  have hin0 : ∀ w ∈ wsX00, w ∈ wsX5_setBottle := by decide +kernel
  have hin5 : ∀ w ∈ wsX50, w ∈ wsX5_setBottle := by decide +kernel
  have b7 := hI.mc
  have b8 := hI.cc
  show V XX (cw k h S Z) 0 0 0 [(0, .ref (h 0)), (1, VI a0), (2, VI a1), (3, VI a2), (4, VI a3)] []
  refine v_iload_n F 1 (q := 1) dX5_setBottle_0 rfl rfl rfl ?_
  refine v_const F (q := 2) dX5_setBottle_1 rfl ?_
  refine v_bipush F (q := 4) dX5_setBottle_2 rfl rfl ?_
  refine v_callSi0 F (kX5_isWithin hst (k := k) (w := cw k h S Z) (a0 := a0) (a1 := 1) (a2 := 20) (by omega) (by omega) (by omega)) gX5_setBottle_X5_isWithin rfl hdX5_isWithin ⟨by decide, by decide⟩ rfl rfl (Nat.le_of_ble_eq_true rfl) ⟨(Nat.zero_le _), (Nat.zero_le _)⟩ (q := 7) dX5_setBottle_4 rfl ?_
  rintro _ _ ⟨rfl, ⟨rfl, h_1⟩ | ⟨rfl, h_1⟩⟩
  · refine v_if_eq F (tgt := 42) (q := 10) (by omega) dX5_setBottle_7 rfl rfl (fun h_2 => absurd h_2 (by omega)) (fun h_2 => ?_)
    refine v_iload_n F 2 (q := 11) dX5_setBottle_10 rfl rfl rfl ?_
    refine v_const F (q := 12) dX5_setBottle_11 rfl ?_
    refine v_bipush F (q := 14) dX5_setBottle_12 rfl rfl ?_
    refine v_callSi0 F (kX5_isWithin hst (k := k) (w := cw k h S Z) (a0 := a1) (a1 := 5) (a2 := 60) (by omega) (by omega) (by omega)) gX5_setBottle_X5_isWithin rfl hdX5_isWithin ⟨by decide, by decide⟩ rfl rfl (Nat.le_of_ble_eq_true rfl) ⟨(Nat.zero_le _), (Nat.zero_le _)⟩ (q := 17) dX5_setBottle_14 rfl ?_
    rintro _ _ ⟨rfl, ⟨rfl, h_3⟩ | ⟨rfl, h_3⟩⟩
    · refine v_if_eq F (tgt := 42) (q := 20) (by omega) dX5_setBottle_17 rfl rfl (fun h_4 => absurd h_4 (by omega)) (fun h_4 => ?_)
      refine v_iload_n F 3 (q := 21) dX5_setBottle_20 rfl rfl rfl ?_
      refine v_bipush F (q := 23) dX5_setBottle_21 rfl rfl ?_
      refine v_bipush F (q := 25) dX5_setBottle_23 rfl rfl ?_
      refine v_callSi0 F (kX5_isWithin hst (k := k) (w := cw k h S Z) (a0 := a2) (a1 := 10) (a2 := 90) (by omega) (by omega) (by omega)) gX5_setBottle_X5_isWithin rfl hdX5_isWithin ⟨by decide, by decide⟩ rfl rfl (Nat.le_of_ble_eq_true rfl) ⟨(Nat.zero_le _), (Nat.zero_le _)⟩ (q := 28) dX5_setBottle_25 rfl ?_
      rintro _ _ ⟨rfl, ⟨rfl, h_5⟩ | ⟨rfl, h_5⟩⟩
      · refine v_if_eq F (tgt := 42) (q := 31) (by omega) dX5_setBottle_28 rfl rfl (fun h_6 => absurd h_6 (by omega)) (fun h_6 => ?_)
        refine v_iload F 4 (q := 33) dX5_setBottle_31 rfl rfl ?_
        refine v_const F (q := 34) dX5_setBottle_33 rfl ?_
        refine v_bipush F (q := 36) dX5_setBottle_34 rfl rfl ?_
        refine v_callSi0 F (kX5_isWithin hst (k := k) (w := cw k h S Z) (a0 := a3) (a1 := 0) (a2 := 20) (by omega) (by omega) (by omega)) gX5_setBottle_X5_isWithin rfl hdX5_isWithin ⟨by decide, by decide⟩ rfl rfl (Nat.le_of_ble_eq_true rfl) ⟨(Nat.zero_le _), (Nat.zero_le _)⟩ (q := 39) dX5_setBottle_36 rfl ?_
        rintro _ _ ⟨rfl, ⟨rfl, h_7⟩ | ⟨rfl, h_7⟩⟩
        · refine v_if_ne F (tgt := 52) (q := 42) (by omega) dX5_setBottle_39 rfl rfl (fun h_8 => ?_) (fun h_8 => absurd h_8 (by omega))
          refine v_aload_n F 0 (q := 53) dX5_setBottle_52 rfl rfl rfl ?_
          refine v_get F (C := RX5) (T := TX5) (N := 14) (ci := 5) (v := VI (S 0 9)) 0 10 hin5 rfl cw_at0 (by decide) (by decide +kernel) rfl (q := 56) dX5_setBottle_53 rfl ?_
          have b_9 := hI.isin
          refine v_if_eq F (tgt := 69) (q := 59) (by omega) dX5_setBottle_56 rfl rfl (fun h_10 => ?_) (fun h_10 => ?_)
          · refine v_aload_n F 0 (q := 70) dX5_setBottle_69 rfl rfl rfl ?_
            refine v_get F (C := RX5) (T := TX5) (N := 14) (ci := 5) (v := .ref (h 1)) 0 0 hin5 rfl cw_at0 (by decide) (by decide +kernel) rfl (q := 73) dX5_setBottle_70 rfl ?_
            refine v_get F (C := RX0) (T := TX0) (N := 4) (ci := 0) (v := VI (S 0 0)) 1 0 hin0 rfl cw_at1 (by decide) (by decide +kernel) rfl (q := 76) dX5_setBottle_73 rfl ?_
            have b_11 := And.intro (hI.sc 0 (by decide)) (hI.1 0 0 (by omega)).2
            refine v_istore F (q := 78) [(5, VI (S 0 0)), (0, .ref (h 0)), (1, VI a0), (2, VI a1), (3, VI a2), (4, VI a3)] dX5_setBottle_76 (by decide) rfl rfl ?_
            refine v_aload_n F 1 (q := 79) dX5_setBottle_78 rfl rfl rfl ?_
            refine v_get F (C := RX5) (T := TX5) (N := 14) (ci := 5) (v := .ref (h 1)) 0 0 hin5 rfl cw_at0 (by decide) (by decide +kernel) rfl (q := 82) dX5_setBottle_79 rfl ?_
            refine v_iload_n F 2 (q := 83) dX5_setBottle_82 rfl rfl rfl ?_
            refine v_put F (C := RX0) (T := TX0) (N := 4) (ci := 0) (ty := .int) 1 0 (cw k h (u2 S 0 0 a0) Z) hin0 tyX0 tyX0_ok nmX0 rfl cw_at1 (by decide) (by decide +kernel) rfl (by decide +kernel) rfl rfl (Nat.le_of_ble_eq_true rfl) (cw_bottle0 _) (q := 86) dX5_setBottle_83 rfl ?_
            refine v_aload_n F 1 (q := 87) dX5_setBottle_86 rfl rfl rfl ?_
            refine v_get F (C := RX5) (T := TX5) (N := 14) (ci := 5) (v := .ref (h 1)) 0 0 hin5 rfl cw_at0 (by decide) (by decide +kernel) rfl (q := 90) dX5_setBottle_87 rfl ?_
            refine v_iload_n F 3 (q := 91) dX5_setBottle_90 rfl rfl rfl ?_
            refine v_put F (C := RX0) (T := TX0) (N := 4) (ci := 0) (ty := .int) 1 1 (cw k h (u2 (u2 S 0 0 a0) 0 1 a1) Z) hin0 tyX0 tyX0_ok nmX0 rfl cw_at1 (by decide) (by decide +kernel) rfl (by decide +kernel) rfl rfl (Nat.le_of_ble_eq_true rfl) (cw_bottle1 _) (q := 94) dX5_setBottle_91 rfl ?_
            refine v_aload_n F 1 (q := 95) dX5_setBottle_94 rfl rfl rfl ?_
            refine v_get F (C := RX5) (T := TX5) (N := 14) (ci := 5) (v := .ref (h 1)) 0 0 hin5 rfl cw_at0 (by decide) (by decide +kernel) rfl (q := 98) dX5_setBottle_95 rfl ?_
            refine v_iload_n F 4 (q := 99) dX5_setBottle_98 rfl rfl rfl ?_
            refine v_put F (C := RX0) (T := TX0) (N := 4) (ci := 0) (ty := .int) 1 2 (cw k h (u2 (u2 (u2 S 0 0 a0) 0 1 a1) 0 2 a2) Z) hin0 tyX0 tyX0_ok nmX0 rfl cw_at1 (by decide) (by decide +kernel) rfl (by decide +kernel) rfl rfl (Nat.le_of_ble_eq_true rfl) (cw_bottle2 _) (q := 102) dX5_setBottle_99 rfl ?_
            refine v_aload_n F 1 (q := 103) dX5_setBottle_102 rfl rfl rfl ?_
            refine v_get F (C := RX5) (T := TX5) (N := 14) (ci := 5) (v := .ref (h 1)) 0 0 hin5 rfl cw_at0 (by decide) (by decide +kernel) rfl (q := 106) dX5_setBottle_103 rfl ?_
            refine v_iload F 5 (q := 108) dX5_setBottle_106 rfl rfl ?_
            refine v_put F (C := RX0) (T := TX0) (N := 4) (ci := 0) (ty := .int) 1 3 (cw k h (u2 (u2 (u2 (u2 S 0 0 a0) 0 1 a1) 0 2 a2) 0 3 a3) Z) hin0 tyX0 tyX0_ok nmX0 rfl cw_at1 (by decide) (by decide +kernel) rfl (by decide +kernel) rfl rfl (Nat.le_of_ble_eq_true rfl) (cw_bottle3 _) (q := 111) dX5_setBottle_108 rfl ?_
            refine v_iload F 0 (q := 113) dX5_setBottle_111 rfl rfl ?_
            exact ret _ _ _ _ _ _ (Nat.zero_le _) (Nat.zero_le _) dX5_setBottle_113 (⟨rfl, by unfold eBottle; grind, rfl⟩)
          · exact thr E_S "the ship is in the bottle" 69 71 73 _ _ _ 59 _ v_exS ⟨by decide +kernel, by decide +kernel, by decide +kernel⟩ (by decide +kernel) dX5_setBottle_59 dX5_setBottle_62 dX5_setBottle_63 dX5_setBottle_65 dX5_setBottle_68 (by decide) (by decide) (⟨rfl, Or.inr (⟨by unfold eBottle; grind, rfl⟩)⟩)
        · refine v_if_ne F (tgt := 52) (q := 42) R32_0 dX5_setBottle_39 rfl rfl (fun h_12 => absurd h_12 (by omega)) (fun h_12 => ?_)
          exact thr E_A "no such bottle" 58 60 62 _ _ _ 42 _ v_exA ⟨by decide +kernel, by decide +kernel, by decide +kernel⟩ (by decide +kernel) dX5_setBottle_42 dX5_setBottle_45 dX5_setBottle_46 dX5_setBottle_48 dX5_setBottle_51 (by decide) (by decide) (⟨rfl, Or.inl ⟨by unfold eBottle; grind, rfl⟩⟩)
      · refine v_if_eq F (tgt := 42) (q := 31) R32_0 dX5_setBottle_28 rfl rfl (fun h_13 => ?_) (fun h_13 => absurd h_13 (by omega))
        exact thr E_A "no such bottle" 58 60 62 _ _ _ 42 _ v_exA ⟨by decide +kernel, by decide +kernel, by decide +kernel⟩ (by decide +kernel) dX5_setBottle_42 dX5_setBottle_45 dX5_setBottle_46 dX5_setBottle_48 dX5_setBottle_51 (by decide) (by decide) (⟨rfl, Or.inl ⟨by unfold eBottle; grind, rfl⟩⟩)
    · refine v_if_eq F (tgt := 42) (q := 20) R32_0 dX5_setBottle_17 rfl rfl (fun h_14 => ?_) (fun h_14 => absurd h_14 (by omega))
      exact thr E_A "no such bottle" 58 60 62 _ _ _ 42 _ v_exA ⟨by decide +kernel, by decide +kernel, by decide +kernel⟩ (by decide +kernel) dX5_setBottle_42 dX5_setBottle_45 dX5_setBottle_46 dX5_setBottle_48 dX5_setBottle_51 (by decide) (by decide) (⟨rfl, Or.inl ⟨by unfold eBottle; grind, rfl⟩⟩)
  · refine v_if_eq F (tgt := 42) (q := 10) R32_0 dX5_setBottle_7 rfl rfl (fun h_15 => ?_) (fun h_15 => absurd h_15 (by omega))
    exact thr E_A "no such bottle" 58 60 62 _ _ _ 42 _ v_exA ⟨by decide +kernel, by decide +kernel, by decide +kernel⟩ (by decide +kernel) dX5_setBottle_42 dX5_setBottle_45 dX5_setBottle_46 dX5_setBottle_48 dX5_setBottle_51 (by decide) (by decide) (⟨rfl, Or.inl ⟨by unfold eBottle; grind, rfl⟩⟩)
theorem hdX5_setHull : yX5_setHull.cls = RX5 ∧ yX5_setHull.cls ≠ "java/lang/invoke/MethodHandle" ∧ yX5_setHull.cls ≠ "java/lang/invoke/VarHandle" ∧ (parseMethodDescriptor yX5_setHull.desc).map (fun d => d.parameters.length) = some 3 := by decide +kernel
set_option maxRecDepth 100000 in
set_option maxHeartbeats 4000000 in
theorem kX5_setHull {l : Launch} (hst : l.stackTraces = false) {k : Nat → ClassId} {h : Nat → Nat} {S Z : Nat → Nat → Int} (hI : Inv S) {a0 a1 a2 : Int} (g0 : R32 a0) (g1 : R32 a1) (g2 : R32 a2) : v_Ct l k yX5_setHull wsX5_setHull ({ frames := 6, cells := 1, slots := 6, locals := 90 } : Room) [.ref (h 0), VI a0, VI a1, VI a2] (cw k h S Z) (fun a u => u = cw k h (sHull S a0 a1 a2) Z ∧ eHull S a0 a1 a2 = 0 ∧ a = S 0 4) (fun E u => u = cw k h S Z ∧ ((eHull S a0 a1 a2 = 1 ∧ E = E_A) ∨ (eHull S a0 a1 a2 = 2 ∧ E = E_S))) := by
  refine v_ofX (cc := cX5_setHull) (nL := 5) rfl (by decide +kernel) rfl hst (Nat.le_of_ble_eq_true rfl) (fun _ _ _ => rfl) (by decide) (by decide) (fun XX F ret thr => ?_)
  have hin2 : ∀ w ∈ wsX20, w ∈ wsX5_setHull := by decide +kernel
  have hin5 : ∀ w ∈ wsX50, w ∈ wsX5_setHull := by decide +kernel
  have b7 := hI.mc
  have b8 := hI.cc
  show V XX (cw k h S Z) 0 0 0 [(0, .ref (h 0)), (1, VI a0), (2, VI a1), (3, VI a2)] []
  refine v_iload_n F 1 (q := 1) dX5_setHull_0 rfl rfl rfl ?_
  refine v_const F (q := 2) dX5_setHull_1 rfl ?_
  refine v_bipush F (q := 4) dX5_setHull_2 rfl rfl ?_
  refine v_callSi0 F (kX5_isWithin hst (k := k) (w := cw k h S Z) (a0 := a0) (a1 := 5) (a2 := 80) (by omega) (by omega) (by omega)) gX5_setHull_X5_isWithin rfl hdX5_isWithin ⟨by decide, by decide⟩ rfl rfl (Nat.le_of_ble_eq_true rfl) ⟨(Nat.zero_le _), (Nat.zero_le _)⟩ (q := 7) dX5_setHull_4 rfl ?_
  rintro _ _ ⟨rfl, ⟨rfl, h_1⟩ | ⟨rfl, h_1⟩⟩
  · refine v_if_eq F (tgt := 30) (q := 10) (by omega) dX5_setHull_7 rfl rfl (fun h_2 => absurd h_2 (by omega)) (fun h_2 => ?_)
    refine v_iload_n F 2 (q := 11) dX5_setHull_10 rfl rfl rfl ?_
    refine v_const F (q := 12) dX5_setHull_11 rfl ?_
    refine v_bipush F (q := 14) dX5_setHull_12 rfl rfl ?_
    refine v_callSi0 F (kX5_isWithin hst (k := k) (w := cw k h S Z) (a0 := a1) (a1 := 1) (a2 := 15) (by omega) (by omega) (by omega)) gX5_setHull_X5_isWithin rfl hdX5_isWithin ⟨by decide, by decide⟩ rfl rfl (Nat.le_of_ble_eq_true rfl) ⟨(Nat.zero_le _), (Nat.zero_le _)⟩ (q := 17) dX5_setHull_14 rfl ?_
    rintro _ _ ⟨rfl, ⟨rfl, h_3⟩ | ⟨rfl, h_3⟩⟩
    · refine v_if_eq F (tgt := 30) (q := 20) (by omega) dX5_setHull_17 rfl rfl (fun h_4 => absurd h_4 (by omega)) (fun h_4 => ?_)
      refine v_iload_n F 3 (q := 21) dX5_setHull_20 rfl rfl rfl ?_
      refine v_const F (q := 22) dX5_setHull_21 rfl ?_
      refine v_bipush F (q := 24) dX5_setHull_22 rfl rfl ?_
      refine v_callSi0 F (kX5_isWithin hst (k := k) (w := cw k h S Z) (a0 := a2) (a1 := 1) (a2 := 15) (by omega) (by omega) (by omega)) gX5_setHull_X5_isWithin rfl hdX5_isWithin ⟨by decide, by decide⟩ rfl rfl (Nat.le_of_ble_eq_true rfl) ⟨(Nat.zero_le _), (Nat.zero_le _)⟩ (q := 27) dX5_setHull_24 rfl ?_
      rintro _ _ ⟨rfl, ⟨rfl, h_5⟩ | ⟨rfl, h_5⟩⟩
      · refine v_if_ne F (tgt := 40) (q := 30) (by omega) dX5_setHull_27 rfl rfl (fun h_6 => ?_) (fun h_6 => absurd h_6 (by omega))
        refine v_aload_n F 0 (q := 41) dX5_setHull_40 rfl rfl rfl ?_
        refine v_get F (C := RX5) (T := TX5) (N := 14) (ci := 5) (v := VI (S 0 7)) 0 8 hin5 rfl cw_at0 (by decide) (by decide +kernel) rfl (q := 44) dX5_setHull_41 rfl ?_
        have b_7 := And.intro (hI.sc 7 (by decide)) (hI.1 0 7 (by omega)).2
        refine v_if_gt F (tgt := 54) (q := 47) (by omega) dX5_setHull_44 rfl rfl (fun h_8 => ?_) (fun h_8 => ?_)
        · exact thr E_S "a mast stands, or the ship is in the bottle" 69 92 73 _ _ _ 54 _ v_exS ⟨by decide +kernel, by decide +kernel, by decide +kernel⟩ (by decide +kernel) dX5_setHull_54 dX5_setHull_57 dX5_setHull_58 dX5_setHull_60 dX5_setHull_63 (by decide) (by decide) (⟨rfl, Or.inr (⟨by unfold eHull; grind, rfl⟩)⟩)
        · refine v_aload_n F 0 (q := 48) dX5_setHull_47 rfl rfl rfl ?_
          refine v_get F (C := RX5) (T := TX5) (N := 14) (ci := 5) (v := VI (S 0 9)) 0 10 hin5 rfl cw_at0 (by decide) (by decide +kernel) rfl (q := 51) dX5_setHull_48 rfl ?_
          have b_9 := hI.isin
          refine v_if_eq F (tgt := 64) (q := 54) (by omega) dX5_setHull_51 rfl rfl (fun h_10 => ?_) (fun h_10 => ?_)
          · refine v_aload_n F 0 (q := 65) dX5_setHull_64 rfl rfl rfl ?_
            refine v_get F (C := RX5) (T := TX5) (N := 14) (ci := 5) (v := .ref (h 2)) 0 1 hin5 rfl cw_at0 (by decide) (by decide +kernel) rfl (q := 68) dX5_setHull_65 rfl ?_
            refine v_get F (C := RX2) (T := TX2) (N := 3) (ci := 2) (v := VI (S 0 4)) 2 0 hin2 rfl cw_at2 (by decide) (by decide +kernel) rfl (q := 71) dX5_setHull_68 rfl ?_
            have b_11 := And.intro (hI.sc 4 (by decide)) (hI.1 0 4 (by omega)).2
            refine v_istore F (q := 73) [(4, VI (S 0 4)), (0, .ref (h 0)), (1, VI a0), (2, VI a1), (3, VI a2)] dX5_setHull_71 (by decide) rfl rfl ?_
            refine v_aload_n F 1 (q := 74) dX5_setHull_73 rfl rfl rfl ?_
            refine v_get F (C := RX5) (T := TX5) (N := 14) (ci := 5) (v := .ref (h 2)) 0 1 hin5 rfl cw_at0 (by decide) (by decide +kernel) rfl (q := 77) dX5_setHull_74 rfl ?_
            refine v_iload_n F 2 (q := 78) dX5_setHull_77 rfl rfl rfl ?_
            refine v_put F (C := RX2) (T := TX2) (N := 3) (ci := 2) (ty := .int) 2 0 (cw k h (u2 S 0 4 a0) Z) hin2 tyX2 tyX2_ok nmX2 rfl cw_at2 (by decide) (by decide +kernel) rfl (by decide +kernel) rfl rfl (Nat.le_of_ble_eq_true rfl) (cw_hull0 _) (q := 81) dX5_setHull_78 rfl ?_
            refine v_aload_n F 1 (q := 82) dX5_setHull_81 rfl rfl rfl ?_
            refine v_get F (C := RX5) (T := TX5) (N := 14) (ci := 5) (v := .ref (h 2)) 0 1 hin5 rfl cw_at0 (by decide) (by decide +kernel) rfl (q := 85) dX5_setHull_82 rfl ?_
            refine v_iload_n F 3 (q := 86) dX5_setHull_85 rfl rfl rfl ?_
            refine v_put F (C := RX2) (T := TX2) (N := 3) (ci := 2) (ty := .int) 2 1 (cw k h (u2 (u2 S 0 4 a0) 0 5 a1) Z) hin2 tyX2 tyX2_ok nmX2 rfl cw_at2 (by decide) (by decide +kernel) rfl (by decide +kernel) rfl rfl (Nat.le_of_ble_eq_true rfl) (cw_hull1 _) (q := 89) dX5_setHull_86 rfl ?_
            refine v_aload_n F 1 (q := 90) dX5_setHull_89 rfl rfl rfl ?_
            refine v_get F (C := RX5) (T := TX5) (N := 14) (ci := 5) (v := .ref (h 2)) 0 1 hin5 rfl cw_at0 (by decide) (by decide +kernel) rfl (q := 93) dX5_setHull_90 rfl ?_
            refine v_iload_n F 4 (q := 94) dX5_setHull_93 rfl rfl rfl ?_
            refine v_put F (C := RX2) (T := TX2) (N := 3) (ci := 2) (ty := .int) 2 2 (cw k h (u2 (u2 (u2 S 0 4 a0) 0 5 a1) 0 6 a2) Z) hin2 tyX2 tyX2_ok nmX2 rfl cw_at2 (by decide) (by decide +kernel) rfl (by decide +kernel) rfl rfl (Nat.le_of_ble_eq_true rfl) (cw_hull2 _) (q := 97) dX5_setHull_94 rfl ?_
            refine v_iload F 0 (q := 99) dX5_setHull_97 rfl rfl ?_
            exact ret _ _ _ _ _ _ (Nat.zero_le _) (Nat.zero_le _) dX5_setHull_99 (⟨rfl, by unfold eHull; grind, rfl⟩)
          · exact thr E_S "a mast stands, or the ship is in the bottle" 69 92 73 _ _ _ 54 _ v_exS ⟨by decide +kernel, by decide +kernel, by decide +kernel⟩ (by decide +kernel) dX5_setHull_54 dX5_setHull_57 dX5_setHull_58 dX5_setHull_60 dX5_setHull_63 (by decide) (by decide) (⟨rfl, Or.inr (⟨by unfold eHull; grind, rfl⟩)⟩)
      · refine v_if_ne F (tgt := 40) (q := 30) R32_0 dX5_setHull_27 rfl rfl (fun h_12 => absurd h_12 (by omega)) (fun h_12 => ?_)
        exact thr E_A "no such hull" 58 87 62 _ _ _ 30 _ v_exA ⟨by decide +kernel, by decide +kernel, by decide +kernel⟩ (by decide +kernel) dX5_setHull_30 dX5_setHull_33 dX5_setHull_34 dX5_setHull_36 dX5_setHull_39 (by decide) (by decide) (⟨rfl, Or.inl ⟨by unfold eHull; grind, rfl⟩⟩)
    · refine v_if_eq F (tgt := 30) (q := 20) R32_0 dX5_setHull_17 rfl rfl (fun h_13 => ?_) (fun h_13 => absurd h_13 (by omega))
      exact thr E_A "no such hull" 58 87 62 _ _ _ 30 _ v_exA ⟨by decide +kernel, by decide +kernel, by decide +kernel⟩ (by decide +kernel) dX5_setHull_30 dX5_setHull_33 dX5_setHull_34 dX5_setHull_36 dX5_setHull_39 (by decide) (by decide) (⟨rfl, Or.inl ⟨by unfold eHull; grind, rfl⟩⟩)
  · refine v_if_eq F (tgt := 30) (q := 10) R32_0 dX5_setHull_7 rfl rfl (fun h_14 => ?_) (fun h_14 => absurd h_14 (by omega))
    exact thr E_A "no such hull" 58 87 62 _ _ _ 30 _ v_exA ⟨by decide +kernel, by decide +kernel, by decide +kernel⟩ (by decide +kernel) dX5_setHull_30 dX5_setHull_33 dX5_setHull_34 dX5_setHull_36 dX5_setHull_39 (by decide) (by decide) (⟨rfl, Or.inl ⟨by unfold eHull; grind, rfl⟩⟩)
theorem hdX5_step : yX5_step.cls = RX5 ∧ yX5_step.cls ≠ "java/lang/invoke/MethodHandle" ∧ yX5_step.cls ≠ "java/lang/invoke/VarHandle" ∧ (parseMethodDescriptor yX5_step.desc).map (fun d => d.parameters.length) = some 2 := by decide +kernel
set_option maxRecDepth 100000 in
set_option maxHeartbeats 4000000 in
theorem kX5_step {l : Launch} (hst : l.stackTraces = false) {k : Nat → ClassId} {h : Nat → Nat} {S Z : Nat → Nat → Int} (hI : Inv S) {a0 a1 : Int} (g0 : R32 a0) (g1 : R32 a1) : v_Ct l k yX5_step wsX5_step ({ frames := 6, cells := 1, slots := 6, locals := 90 } : Room) [.ref (h 0), VI a0, VI a1] (cw k h S Z) (fun a u => u = cw k h (sStep S a0 a1) Z ∧ eStep S a0 a1 = 0 ∧ a = S 0 7) (fun E u => u = cw k h S Z ∧ ((eStep S a0 a1 = 1 ∧ E = E_A) ∨ (eStep S a0 a1 = 2 ∧ E = E_S))) := by
  refine v_ofX (cc := cX5_step) (nL := 4) rfl (by decide +kernel) rfl hst (Nat.le_of_ble_eq_true rfl) (fun _ _ _ => rfl) (by decide) (by decide) (fun XX F ret thr => ?_)
  have hin2 : ∀ w ∈ wsX20, w ∈ wsX5_step := by decide +kernel
  have hin3 : ∀ w ∈ wsX30, w ∈ wsX5_step := by decide +kernel
  have hin5 : ∀ w ∈ wsX50, w ∈ wsX5_step := by decide +kernel
  have b7 := hI.mc
  have b8 := hI.cc
  show V XX (cw k h S Z) 0 0 0 [(0, .ref (h 0)), (1, VI a0), (2, VI a1)] []
  refine v_iload_n F 1 (q := 1) dX5_step_0 rfl rfl rfl ?_
  refine v_const F (q := 2) dX5_step_1 rfl ?_
  refine v_aload_n F 0 (q := 3) dX5_step_2 rfl rfl rfl ?_
  refine v_get F (C := RX5) (T := TX5) (N := 14) (ci := 5) (v := .ref (h 2)) 0 1 hin5 rfl cw_at0 (by decide) (by decide +kernel) rfl (q := 6) dX5_step_3 rfl ?_
  refine v_get F (C := RX2) (T := TX2) (N := 3) (ci := 2) (v := VI (S 0 4)) 2 0 hin2 rfl cw_at2 (by decide) (by decide +kernel) rfl (q := 9) dX5_step_6 rfl ?_
  have b_1 := And.intro (hI.sc 4 (by decide)) (hI.1 0 4 (by omega)).2
  refine v_callSi0 F (kX5_isWithin hst (k := k) (w := cw k h S Z) (a0 := a0) (a1 := 0) (a2 := S 0 4) (by omega) (by omega) (by omega)) gX5_step_X5_isWithin rfl hdX5_isWithin ⟨by decide, by decide⟩ rfl rfl (Nat.le_of_ble_eq_true rfl) ⟨(Nat.zero_le _), (Nat.zero_le _)⟩ (q := 12) dX5_step_9 rfl ?_
  rintro _ _ ⟨rfl, ⟨rfl, h_2⟩ | ⟨rfl, h_2⟩⟩
  · refine v_if_eq F (tgt := 25) (q := 15) (by omega) dX5_step_12 rfl rfl (fun h_3 => absurd h_3 (by omega)) (fun h_3 => ?_)
    refine v_iload_n F 2 (q := 16) dX5_step_15 rfl rfl rfl ?_
    refine v_const F (q := 17) dX5_step_16 rfl ?_
    refine v_bipush F (q := 19) dX5_step_17 rfl rfl ?_
    refine v_callSi0 F (kX5_isWithin hst (k := k) (w := cw k h S Z) (a0 := a1) (a1 := 1) (a2 := 50) (by omega) (by omega) (by omega)) gX5_step_X5_isWithin rfl hdX5_isWithin ⟨by decide, by decide⟩ rfl rfl (Nat.le_of_ble_eq_true rfl) ⟨(Nat.zero_le _), (Nat.zero_le _)⟩ (q := 22) dX5_step_19 rfl ?_
    rintro _ _ ⟨rfl, ⟨rfl, h_4⟩ | ⟨rfl, h_4⟩⟩
    · refine v_if_ne F (tgt := 35) (q := 25) (by omega) dX5_step_22 rfl rfl (fun h_5 => ?_) (fun h_5 => absurd h_5 (by omega))
      refine v_aload_n F 0 (q := 36) dX5_step_35 rfl rfl rfl ?_
      refine v_get F (C := RX5) (T := TX5) (N := 14) (ci := 5) (v := VI (S 0 9)) 0 10 hin5 rfl cw_at0 (by decide) (by decide +kernel) rfl (q := 39) dX5_step_36 rfl ?_
      have b_6 := hI.isin
      refine v_if_ne F (tgt := 58) (q := 42) (by omega) dX5_step_39 rfl rfl (fun h_7 => ?_) (fun h_7 => ?_)
      · exact thr E_S "no mast can be stepped here now" 69 107 73 _ _ _ 58 _ v_exS ⟨by decide +kernel, by decide +kernel, by decide +kernel⟩ (by decide +kernel) dX5_step_58 dX5_step_61 dX5_step_62 dX5_step_64 dX5_step_67 (by decide) (by decide) (⟨rfl, Or.inr (⟨by unfold eStep; (try simp only [← plc_iff S] at *); grind, rfl⟩)⟩)
      · refine v_aload_n F 0 (q := 43) dX5_step_42 rfl rfl rfl ?_
        refine v_get F (C := RX5) (T := TX5) (N := 14) (ci := 5) (v := VI (S 0 7)) 0 8 hin5 rfl cw_at0 (by decide) (by decide +kernel) rfl (q := 46) dX5_step_43 rfl ?_
        have b_8 := And.intro (hI.sc 7 (by decide)) (hI.1 0 7 (by omega)).2
        refine v_const F (q := 47) dX5_step_46 rfl ?_
        refine v_icmp_ge F (tgt := 58) (q := 50) (by omega) (by omega) dX5_step_47 rfl rfl (fun h_9 => ?_) (fun h_9 => ?_)
        · exact thr E_S "no mast can be stepped here now" 69 107 73 _ _ _ 58 _ v_exS ⟨by decide +kernel, by decide +kernel, by decide +kernel⟩ (by decide +kernel) dX5_step_58 dX5_step_61 dX5_step_62 dX5_step_64 dX5_step_67 (by decide) (by decide) (⟨rfl, Or.inr (⟨by unfold eStep; (try simp only [← plc_iff S] at *); grind, rfl⟩)⟩)
        · refine v_aload_n F 0 (q := 51) dX5_step_50 rfl rfl rfl ?_
          refine v_iload_n F 1 (q := 52) dX5_step_51 rfl rfl rfl ?_
          refine v_callVi0 F (kX5_hasMastAt hst (k := k) (h := h) (S := S) (Z := Z) hI (a0 := a0) (by omega)) gX5_step_X5_hasMastAt rfl hdX5_hasMastAt ⟨by decide, by decide⟩ 0 cw_at0 rfl rfl rfl (Nat.le_of_ble_eq_true rfl) ⟨(Nat.zero_le _), (Nat.zero_le _)⟩ (q := 55) dX5_step_52 rfl ?_
          rintro _ _ ⟨rfl, ⟨rfl, h_10⟩ | ⟨rfl, h_10⟩⟩
          · refine v_if_eq F (tgt := 68) (q := 58) (by omega) dX5_step_55 rfl rfl (fun h_11 => absurd h_11 (by omega)) (fun h_11 => ?_)
            exact thr E_S "no mast can be stepped here now" 69 107 73 _ _ _ 58 _ v_exS ⟨by decide +kernel, by decide +kernel, by decide +kernel⟩ (by decide +kernel) dX5_step_58 dX5_step_61 dX5_step_62 dX5_step_64 dX5_step_67 (by decide) (by decide) (⟨rfl, Or.inr (⟨by unfold eStep; (try simp only [← plc_iff S] at *); grind, rfl⟩)⟩)
          · refine v_if_eq F (tgt := 68) (q := 58) R32_0 dX5_step_55 rfl rfl (fun h_12 => ?_) (fun h_12 => absurd h_12 (by omega))
            refine v_aload_n F 0 (q := 69) dX5_step_68 rfl rfl rfl ?_
            refine v_get F (C := RX5) (T := TX5) (N := 14) (ci := 5) (v := VI (S 0 7)) 0 8 hin5 rfl cw_at0 (by decide) (by decide +kernel) rfl (q := 72) dX5_step_69 rfl ?_
            have b_13 := And.intro (hI.sc 7 (by decide)) (hI.1 0 7 (by omega)).2
            refine v_istore_n F (q := 73) [(3, VI (S 0 7)), (0, .ref (h 0)), (1, VI a0), (2, VI a1)] dX5_step_72 rfl (by decide) rfl rfl ?_
            refine v_aload_n F 1 (q := 74) dX5_step_73 rfl rfl rfl ?_
            refine v_get F (C := RX5) (T := TX5) (N := 14) (ci := 5) (v := .ref (h 3)) 0 2 hin5 rfl cw_at0 (by decide) (by decide +kernel) rfl (q := 77) dX5_step_74 rfl ?_
            refine v_iload_n F 0 (q := 78) dX5_step_77 rfl rfl rfl ?_
            refine v_aald F (j := (S 0 7).toNat) (b := h (9 + (S 0 7).toNat)) 3 1 rfl cw_at3 (by omega) (by omega) (by decide) rfl (q := 79) dX5_step_78 rfl ?_
            refine v_iload_n F 2 (q := 80) dX5_step_79 rfl rfl rfl ?_
            refine v_put F (C := RX3) (T := TX3) (N := 4) (ci := 3) (ty := .int) (9 + ((S 0 7).toNat)) 1 (cw k h (u2 S 1 ((S 0 7).toNat) a0) Z) hin3 tyX3 tyX3_ok nmX3 rfl (cw_mast ((S 0 7).toNat) (by omega)) (by decide) (by decide +kernel) rfl (by decide +kernel) rfl rfl (Nat.le_of_ble_eq_true rfl) (cw_mast1 ((S 0 7).toNat) (by omega) _) (q := 83) dX5_step_80 rfl ?_
            refine v_aload_n F 1 (q := 84) dX5_step_83 rfl rfl rfl ?_
            refine v_get F (C := RX5) (T := TX5) (N := 14) (ci := 5) (v := .ref (h 3)) 0 2 hin5 rfl cw_at0 (by decide) (by decide +kernel) rfl (q := 87) dX5_step_84 rfl ?_
            refine v_iload_n F 0 (q := 88) dX5_step_87 rfl rfl rfl ?_
            refine v_aald F (j := (S 0 7).toNat) (b := h (9 + (S 0 7).toNat)) 3 1 rfl cw_at3 (by omega) (by omega) (by decide) rfl (q := 89) dX5_step_88 rfl ?_
            refine v_iload_n F 3 (q := 90) dX5_step_89 rfl rfl rfl ?_
            refine v_put F (C := RX3) (T := TX3) (N := 4) (ci := 3) (ty := .int) (9 + ((S 0 7).toNat)) 2 (cw k h (u2 (u2 S 1 ((S 0 7).toNat) a0) 2 ((S 0 7).toNat) a1) Z) hin3 tyX3 tyX3_ok nmX3 rfl (cw_mast ((S 0 7).toNat) (by omega)) (by decide) (by decide +kernel) rfl (by decide +kernel) rfl rfl (Nat.le_of_ble_eq_true rfl) (cw_mast2 ((S 0 7).toNat) (by omega) _) (q := 93) dX5_step_90 rfl ?_
            refine v_aload_n F 1 (q := 94) dX5_step_93 rfl rfl rfl ?_
            refine v_get F (C := RX5) (T := TX5) (N := 14) (ci := 5) (v := .ref (h 6)) 0 5 hin5 rfl cw_at0 (by decide) (by decide +kernel) rfl (q := 97) dX5_step_94 rfl ?_
            refine v_iload_n F 0 (q := 98) dX5_step_97 rfl rfl rfl ?_
            refine v_bipush F (q := 100) dX5_step_98 rfl rfl ?_
            refine v_iast F (j := (S 0 7).toNat) 6 (cw k h (u2 (u2 (u2 S 1 ((S 0 7).toNat) a0) 2 ((S 0 7).toNat) a1) 4 ((S 0 7).toNat) 9) Z) cw_at6 (by omega) (by omega) (by decide) (cw_leans ((S 0 7).toNat) _) (q := 101) dX5_step_100 rfl ?_
            refine v_aload_n F 1 (q := 102) dX5_step_101 rfl rfl rfl ?_
            refine v_dup F (q := 103) dX5_step_102 rfl rfl ?_
            refine v_get F (C := RX5) (T := TX5) (N := 14) (ci := 5) (v := VI (S 0 7)) 0 8 hin5 rfl cw_at0 (by decide) (by decide +kernel) rfl (q := 106) dX5_step_103 rfl ?_
            have b_14 := And.intro (hI.sc 7 (by decide)) (hI.1 0 7 (by omega)).2
            refine v_const F (q := 107) dX5_step_106 rfl ?_
            refine v_iadd F (q := 108) dX5_step_107 rfl ?_
            refine v_put F (C := RX5) (T := TX5) (N := 14) (ci := 5) (ty := .int) 0 8 (cw k h (u2 (u2 (u2 (u2 S 1 ((S 0 7).toNat) a0) 2 ((S 0 7).toNat) a1) 4 ((S 0 7).toNat) 9) 0 7 ((S 0 7) + 1)) Z) hin5 tyX5 tyX5_ok nmX5 rfl cw_at0 (by decide) (by decide +kernel) rfl (by decide +kernel) rfl rfl (Nat.le_of_ble_eq_true rfl) (cw_ship8 _) (q := 111) dX5_step_108 rfl ?_
            refine v_iload_n F 0 (q := 112) dX5_step_111 rfl rfl rfl ?_
            exact ret _ _ _ _ _ _ (Nat.zero_le _) (Nat.zero_le _) dX5_step_112 (⟨rfl, by unfold eStep; simp only [← plc_iff S] at *; grind, rfl⟩)
    · refine v_if_ne F (tgt := 35) (q := 25) R32_0 dX5_step_22 rfl rfl (fun h_15 => absurd h_15 (by omega)) (fun h_15 => ?_)
      exact thr E_A "no such place or height" 58 101 62 _ _ _ 25 _ v_exA ⟨by decide +kernel, by decide +kernel, by decide +kernel⟩ (by decide +kernel) dX5_step_25 dX5_step_28 dX5_step_29 dX5_step_31 dX5_step_34 (by decide) (by decide) (⟨rfl, Or.inl ⟨by unfold eStep; (try simp only [← plc_iff S] at *); grind, rfl⟩⟩)
  · refine v_if_eq F (tgt := 25) (q := 15) R32_0 dX5_step_12 rfl rfl (fun h_16 => ?_) (fun h_16 => absurd h_16 (by omega))
    exact thr E_A "no such place or height" 58 101 62 _ _ _ 25 _ v_exA ⟨by decide +kernel, by decide +kernel, by decide +kernel⟩ (by decide +kernel) dX5_step_25 dX5_step_28 dX5_step_29 dX5_step_31 dX5_step_34 (by decide) (by decide) (⟨rfl, Or.inl ⟨by unfold eStep; (try simp only [← plc_iff S] at *); grind, rfl⟩⟩)
theorem hdX5_yard : yX5_yard.cls = RX5 ∧ yX5_yard.cls ≠ "java/lang/invoke/MethodHandle" ∧ yX5_yard.cls ≠ "java/lang/invoke/VarHandle" ∧ (parseMethodDescriptor yX5_yard.desc).map (fun d => d.parameters.length) = some 2 := by decide +kernel
set_option maxRecDepth 100000 in
set_option maxHeartbeats 4000000 in
theorem kX5_yard {l : Launch} (hst : l.stackTraces = false) {k : Nat → ClassId} {h : Nat → Nat} {S Z : Nat → Nat → Int} (hI : Inv S) {a0 a1 : Int} (g0 : R32 a0) (g1 : R32 a1) : v_Ct l k yX5_yard wsX5_yard ({ frames := 6, cells := 1, slots := 6, locals := 90 } : Room) [.ref (h 0), VI a0, VI a1] (cw k h S Z) (fun a u => u = cw k h (sYard S a0 a1) Z ∧ eYard S a0 a1 = 0 ∧ a = S 3 a0.toNat + 1) (fun E u => u = cw k h S Z ∧ ((eYard S a0 a1 = 1 ∧ E = E_X) ∨ (eYard S a0 a1 = 2 ∧ E = E_A) ∨ (eYard S a0 a1 = 3 ∧ E = E_S))) := by
  refine v_ofX (cc := cX5_yard) (nL := 4) rfl (by decide +kernel) rfl hst (Nat.le_of_ble_eq_true rfl) (fun _ _ _ => rfl) (by decide) (by decide) (fun XX F ret thr => ?_)
  have hin3 : ∀ w ∈ wsX30, w ∈ wsX5_yard := by decide +kernel
  have hin5 : ∀ w ∈ wsX50, w ∈ wsX5_yard := by decide +kernel
  have b7 := hI.mc
  have b8 := hI.cc
  show V XX (cw k h S Z) 0 0 0 [(0, .ref (h 0)), (1, VI a0), (2, VI a1)] []
  refine v_aload_n F 0 (q := 1) dX5_yard_0 rfl rfl rfl ?_
  refine v_iload_n F 1 (q := 2) dX5_yard_1 rfl rfl rfl ?_
  refine v_callVi0 F (kX5_isMast hst (k := k) (h := h) (S := S) (Z := Z) hI (a0 := a0) (by omega)) gX5_yard_X5_isMast rfl hdX5_isMast ⟨by decide, by decide⟩ 0 cw_at0 rfl rfl rfl (Nat.le_of_ble_eq_true rfl) ⟨(Nat.zero_le _), (Nat.zero_le _)⟩ (q := 5) dX5_yard_2 rfl ?_
  rintro _ _ ⟨rfl, ⟨rfl, h_1⟩ | ⟨rfl, h_1⟩⟩
  · refine v_if_ne F (tgt := 18) (q := 8) (by omega) dX5_yard_5 rfl rfl (fun h_2 => ?_) (fun h_2 => absurd h_2 (by omega))
    refine v_iload_n F 2 (q := 19) dX5_yard_18 rfl rfl rfl ?_
    refine v_const F (q := 20) dX5_yard_19 rfl ?_
    refine v_bipush F (q := 22) dX5_yard_20 rfl rfl ?_
    refine v_callSi0 F (kX5_isWithin hst (k := k) (w := cw k h S Z) (a0 := a1) (a1 := 1) (a2 := 20) (by omega) (by omega) (by omega)) gX5_yard_X5_isWithin rfl hdX5_isWithin ⟨by decide, by decide⟩ rfl rfl (Nat.le_of_ble_eq_true rfl) ⟨(Nat.zero_le _), (Nat.zero_le _)⟩ (q := 25) dX5_yard_22 rfl ?_
    rintro _ _ ⟨rfl, ⟨rfl, h_3⟩ | ⟨rfl, h_3⟩⟩
    · refine v_if_ne F (tgt := 38) (q := 28) (by omega) dX5_yard_25 rfl rfl (fun h_4 => ?_) (fun h_4 => absurd h_4 (by omega))
      refine v_aload_n F 0 (q := 39) dX5_yard_38 rfl rfl rfl ?_
      refine v_get F (C := RX5) (T := TX5) (N := 14) (ci := 5) (v := .ref (h 3)) 0 2 hin5 rfl cw_at0 (by decide) (by decide +kernel) rfl (q := 42) dX5_yard_39 rfl ?_
      refine v_iload_n F 1 (q := 43) dX5_yard_42 rfl rfl rfl ?_
      refine v_aald F (j := a0.toNat) (b := h (9 + a0.toNat)) 3 1 rfl cw_at3 (by omega) (by omega) (by decide) rfl (q := 44) dX5_yard_43 rfl ?_
      refine v_astore_n F (q := 45) [(3, .ref (h (9 + (a0.toNat)))), (0, .ref (h 0)), (1, VI a0), (2, VI a1)] dX5_yard_44 rfl (by decide) rfl rfl ?_
      refine v_aload_n F 1 (q := 46) dX5_yard_45 rfl rfl rfl ?_
      refine v_get F (C := RX5) (T := TX5) (N := 14) (ci := 5) (v := VI (S 0 9)) 0 10 hin5 rfl cw_at0 (by decide) (by decide +kernel) rfl (q := 49) dX5_yard_46 rfl ?_
      have b_5 := hI.isin
      refine v_if_ne F (tgt := 60) (q := 52) (by omega) dX5_yard_49 rfl rfl (fun h_6 => ?_) (fun h_6 => ?_)
      · exact thr E_S "no yard can be added now" 69 126 73 _ _ _ 60 _ v_exS ⟨by decide +kernel, by decide +kernel, by decide +kernel⟩ (by decide +kernel) dX5_yard_60 dX5_yard_63 dX5_yard_64 dX5_yard_66 dX5_yard_69 (by decide) (by decide) (⟨rfl, Or.inr (Or.inr (⟨by unfold eYard; grind, rfl⟩))⟩)
      · refine v_aload_n F 0 (q := 53) dX5_yard_52 rfl rfl rfl ?_
        refine v_get F (C := RX3) (T := TX3) (N := 4) (ci := 3) (v := VI (S 3 (a0.toNat))) (9 + (a0.toNat)) 3 hin3 rfl (cw_mast (a0.toNat) (by omega)) (by decide) (by decide +kernel) rfl (q := 56) dX5_yard_53 rfl ?_
        have b_7 := hI.yc (a0.toNat)
        refine v_const F (q := 57) dX5_yard_56 rfl ?_
        refine v_icmp_lt F (tgt := 70) (q := 60) (by omega) (by omega) dX5_yard_57 rfl rfl (fun h_8 => ?_) (fun h_8 => ?_)
        · refine v_aload_n F 0 (q := 71) dX5_yard_70 rfl rfl rfl ?_
          refine v_get F (C := RX3) (T := TX3) (N := 4) (ci := 3) (v := .ref (h (12 + (a0.toNat)))) (9 + (a0.toNat)) 0 hin3 rfl (cw_mast (a0.toNat) (by omega)) (by decide) (by decide +kernel) rfl (q := 74) dX5_yard_71 rfl ?_
          refine v_aload_n F 0 (q := 75) dX5_yard_74 rfl rfl rfl ?_
          refine v_get F (C := RX3) (T := TX3) (N := 4) (ci := 3) (v := VI (S 3 (a0.toNat))) (9 + (a0.toNat)) 3 hin3 rfl (cw_mast (a0.toNat) (by omega)) (by decide) (by decide +kernel) rfl (q := 78) dX5_yard_75 rfl ?_
          have b_9 := hI.yc (a0.toNat)
          refine v_iload_n F 3 (q := 79) dX5_yard_78 rfl rfl rfl ?_
          refine v_iast F (j := (S 3 (a0.toNat)).toNat) (12 + (a0.toNat)) (cw k h (u2 S (10 + (a0.toNat)) ((S 3 (a0.toNat)).toNat) a1) Z) (cw_yards (a0.toNat) (by omega)) (by omega) (by omega) (by decide) (cw_width (a0.toNat) ((S 3 (a0.toNat)).toNat) (by omega) _) (q := 80) dX5_yard_79 rfl ?_
          refine v_aload_n F 0 (q := 81) dX5_yard_80 rfl rfl rfl ?_
          refine v_dup F (q := 82) dX5_yard_81 rfl rfl ?_
          refine v_get F (C := RX3) (T := TX3) (N := 4) (ci := 3) (v := VI (S 3 (a0.toNat))) (9 + (a0.toNat)) 3 hin3 rfl (cw_mast (a0.toNat) (by omega)) (by decide) (by decide +kernel) (by first | rfl | (simp [cCord, cMast, cShip, cMod, u2, ur]; done) | grind [cCord, cMast, cShip, cMod, u2, ur]) (q := 85) dX5_yard_82 rfl ?_
          have b_10 := hI.yc (a0.toNat)
          refine v_const F (q := 86) dX5_yard_85 rfl ?_
          refine v_iadd F (q := 87) dX5_yard_86 rfl ?_
          refine v_put F (C := RX3) (T := TX3) (N := 4) (ci := 3) (ty := .int) (9 + (a0.toNat)) 3 (cw k h (u2 (u2 S (10 + (a0.toNat)) ((S 3 (a0.toNat)).toNat) a1) 3 (a0.toNat) ((S 3 (a0.toNat)) + 1)) Z) hin3 tyX3 tyX3_ok nmX3 rfl (cw_mast (a0.toNat) (by omega)) (by decide) (by decide +kernel) rfl (by decide +kernel) rfl rfl (Nat.le_of_ble_eq_true rfl) (cw_mast3 (a0.toNat) (by omega) _) (q := 90) dX5_yard_87 rfl ?_
          refine v_aload_n F 0 (q := 91) dX5_yard_90 rfl rfl rfl ?_
          refine v_get F (C := RX3) (T := TX3) (N := 4) (ci := 3) (v := VI ((S 3 (a0.toNat)) + 1)) (9 + (a0.toNat)) 3 hin3 rfl (cw_mast (a0.toNat) (by omega)) (by decide) (by decide +kernel) (by first | rfl | (simp [cCord, cMast, cShip, cMod, u2, ur]; done) | grind [cCord, cMast, cShip, cMod, u2, ur]) (q := 94) dX5_yard_91 rfl ?_
          exact ret _ _ _ _ _ _ (Nat.zero_le _) (Nat.zero_le _) dX5_yard_94 (⟨rfl, by unfold eYard; grind, rfl⟩)
        · exact thr E_S "no yard can be added now" 69 126 73 _ _ _ 60 _ v_exS ⟨by decide +kernel, by decide +kernel, by decide +kernel⟩ (by decide +kernel) dX5_yard_60 dX5_yard_63 dX5_yard_64 dX5_yard_66 dX5_yard_69 (by decide) (by decide) (⟨rfl, Or.inr (Or.inr (⟨by unfold eYard; grind, rfl⟩))⟩)
    · refine v_if_ne F (tgt := 38) (q := 28) R32_0 dX5_yard_25 rfl rfl (fun h_11 => absurd h_11 (by omega)) (fun h_11 => ?_)
      exact thr E_A "no such width" 58 121 62 _ _ _ 28 _ v_exA ⟨by decide +kernel, by decide +kernel, by decide +kernel⟩ (by decide +kernel) dX5_yard_28 dX5_yard_31 dX5_yard_32 dX5_yard_34 dX5_yard_37 (by decide) (by decide) (⟨rfl, Or.inr (Or.inl ⟨by unfold eYard; grind, rfl⟩)⟩)
  · refine v_if_ne F (tgt := 18) (q := 8) R32_0 dX5_yard_5 rfl rfl (fun h_12 => absurd h_12 (by omega)) (fun h_12 => ?_)
    exact thr E_X "no such mast" 116 118 120 _ _ _ 8 _ v_exX ⟨by decide +kernel, by decide +kernel, by decide +kernel⟩ (by decide +kernel) dX5_yard_8 dX5_yard_11 dX5_yard_12 dX5_yard_14 dX5_yard_17 (by decide) (by decide) (⟨rfl, Or.inl ⟨by unfold eYard; grind, rfl⟩⟩)
theorem hdX5_lead : yX5_lead.cls = RX5 ∧ yX5_lead.cls ≠ "java/lang/invoke/MethodHandle" ∧ yX5_lead.cls ≠ "java/lang/invoke/VarHandle" ∧ (parseMethodDescriptor yX5_lead.desc).map (fun d => d.parameters.length) = some 3 := by decide +kernel
set_option maxRecDepth 100000 in
set_option maxHeartbeats 4000000 in
theorem kX5_lead {l : Launch} (hst : l.stackTraces = false) {k : Nat → ClassId} {h : Nat → Nat} {S Z : Nat → Nat → Int} (hI : Inv S) {a0 a1 a2 : Int} (g0 : R32 a0) (g1 : R32 a1) (g2 : R32 a2) : v_Ct l k yX5_lead wsX5_lead ({ frames := 6, cells := 1, slots := 6, locals := 90 } : Room) [.ref (h 0), VI a0, VI a1, VI a2] (cw k h S Z) (fun a u => u = cw k h (sLead S a0 a1 a2) Z ∧ eLead S a0 a1 a2 = 0 ∧ a = S 0 8) (fun E u => u = cw k h S Z ∧ ((eLead S a0 a1 a2 = 1 ∧ E = E_X) ∨ (eLead S a0 a1 a2 = 2 ∧ E = E_A) ∨ (eLead S a0 a1 a2 = 3 ∧ E = E_S))) := by
  refine v_ofX (cc := cX5_lead) (nL := 5) rfl (by decide +kernel) rfl hst (Nat.le_of_ble_eq_true rfl) (fun _ _ _ => rfl) (by decide) (by decide) (fun XX F ret thr => ?_)
  have hin1 : ∀ w ∈ wsX10, w ∈ wsX5_lead := by decide +kernel
  have hin3 : ∀ w ∈ wsX30, w ∈ wsX5_lead := by decide +kernel
  have hin5 : ∀ w ∈ wsX50, w ∈ wsX5_lead := by decide +kernel
  have b7 := hI.mc
  have b8 := hI.cc
  show V XX (cw k h S Z) 0 0 0 [(0, .ref (h 0)), (1, VI a0), (2, VI a1), (3, VI a2)] []
  refine v_aload_n F 0 (q := 1) dX5_lead_0 rfl rfl rfl ?_
  refine v_iload_n F 1 (q := 2) dX5_lead_1 rfl rfl rfl ?_
  refine v_callVi0 F (kX5_isMast hst (k := k) (h := h) (S := S) (Z := Z) hI (a0 := a0) (by omega)) gX5_lead_X5_isMast rfl hdX5_isMast ⟨by decide, by decide⟩ 0 cw_at0 rfl rfl rfl (Nat.le_of_ble_eq_true rfl) ⟨(Nat.zero_le _), (Nat.zero_le _)⟩ (q := 5) dX5_lead_2 rfl ?_
  rintro _ _ ⟨rfl, ⟨rfl, h_1⟩ | ⟨rfl, h_1⟩⟩
  · refine v_if_eq F (tgt := 21) (q := 8) (by omega) dX5_lead_5 rfl rfl (fun h_2 => absurd h_2 (by omega)) (fun h_2 => ?_)
    refine v_iload_n F 2 (q := 9) dX5_lead_8 rfl rfl rfl ?_
    refine v_const F (q := 10) dX5_lead_9 rfl ?_
    refine v_icmp_eq F (tgt := 31) (q := 13) (by omega) (by omega) dX5_lead_10 rfl rfl (fun h_3 => ?_) (fun h_3 => ?_)
    · refine v_iload_n F 1 (q := 32) dX5_lead_31 rfl rfl rfl ?_
      refine v_iload_n F 2 (q := 33) dX5_lead_32 rfl rfl rfl ?_
      refine v_icmp_eq F (tgt := 46) (q := 36) (by omega) (by omega) dX5_lead_33 rfl rfl (fun h_4 => ?_) (fun h_4 => ?_)
      · exact thr E_A "both are the same, or no such strength" 58 131 62 _ _ _ 46 _ v_exA ⟨by decide +kernel, by decide +kernel, by decide +kernel⟩ (by decide +kernel) dX5_lead_46 dX5_lead_49 dX5_lead_50 dX5_lead_52 dX5_lead_55 (by decide) (by decide) (⟨rfl, Or.inr (Or.inl ⟨by unfold eLead; grind, rfl⟩)⟩)
      · refine v_iload_n F 3 (q := 37) dX5_lead_36 rfl rfl rfl ?_
        refine v_const F (q := 38) dX5_lead_37 rfl ?_
        refine v_bipush F (q := 40) dX5_lead_38 rfl rfl ?_
        refine v_callSi0 F (kX5_isWithin hst (k := k) (w := cw k h S Z) (a0 := a2) (a1 := 1) (a2 := 9) (by omega) (by omega) (by omega)) gX5_lead_X5_isWithin rfl hdX5_isWithin ⟨by decide, by decide⟩ rfl rfl (Nat.le_of_ble_eq_true rfl) ⟨(Nat.zero_le _), (Nat.zero_le _)⟩ (q := 43) dX5_lead_40 rfl ?_
        rintro _ _ ⟨rfl, ⟨rfl, h_5⟩ | ⟨rfl, h_5⟩⟩
        · refine v_if_ne F (tgt := 56) (q := 46) (by omega) dX5_lead_43 rfl rfl (fun h_6 => ?_) (fun h_6 => absurd h_6 (by omega))
          refine v_aload_n F 0 (q := 57) dX5_lead_56 rfl rfl rfl ?_
          refine v_get F (C := RX5) (T := TX5) (N := 14) (ci := 5) (v := VI (S 0 8)) 0 9 hin5 rfl cw_at0 (by decide) (by decide +kernel) rfl (q := 60) dX5_lead_57 rfl ?_
          have b_7 := And.intro (hI.sc 8 (by decide)) (hI.1 0 8 (by omega)).2
          refine v_bipush F (q := 62) dX5_lead_60 rfl rfl ?_
          refine v_icmp_lt F (tgt := 75) (q := 65) (by omega) (by omega) dX5_lead_62 rfl rfl (fun h_8 => ?_) (fun h_8 => ?_)
          · refine v_aload_n F 0 (q := 76) dX5_lead_75 rfl rfl rfl ?_
            refine v_get F (C := RX5) (T := TX5) (N := 14) (ci := 5) (v := VI (S 0 8)) 0 9 hin5 rfl cw_at0 (by decide) (by decide +kernel) rfl (q := 79) dX5_lead_76 rfl ?_
            have b_9 := And.intro (hI.sc 8 (by decide)) (hI.1 0 8 (by omega)).2
            refine v_istore F (q := 81) [(4, VI (S 0 8)), (0, .ref (h 0)), (1, VI a0), (2, VI a1), (3, VI a2)] dX5_lead_79 (by decide) rfl rfl ?_
            refine v_aload_n F 1 (q := 82) dX5_lead_81 rfl rfl rfl ?_
            refine v_get F (C := RX5) (T := TX5) (N := 14) (ci := 5) (v := .ref (h 4)) 0 3 hin5 rfl cw_at0 (by decide) (by decide +kernel) rfl (q := 85) dX5_lead_82 rfl ?_
            refine v_iload F 0 (q := 87) dX5_lead_85 rfl rfl ?_
            refine v_aald F (j := (S 0 8).toNat) (b := h (15 + (S 0 8).toNat)) 4 2 rfl cw_at4 (by omega) (by omega) (by decide) rfl (q := 88) dX5_lead_87 rfl ?_
            refine v_iload_n F 2 (q := 89) dX5_lead_88 rfl rfl rfl ?_
            refine v_put F (C := RX1) (T := TX1) (N := 6) (ci := 1) (ty := .int) (15 + ((S 0 8).toNat)) 0 (cw k h (u2 S 5 ((S 0 8).toNat) a0) Z) hin1 tyX1 tyX1_ok nmX1 rfl (cw_cord ((S 0 8).toNat) (by omega)) (by decide) (by decide +kernel) rfl (by decide +kernel) rfl rfl (Nat.le_of_ble_eq_true rfl) (cw_cord0 ((S 0 8).toNat) (by omega) _) (q := 92) dX5_lead_89 rfl ?_
            refine v_aload_n F 1 (q := 93) dX5_lead_92 rfl rfl rfl ?_
            refine v_get F (C := RX5) (T := TX5) (N := 14) (ci := 5) (v := .ref (h 4)) 0 3 hin5 rfl cw_at0 (by decide) (by decide +kernel) rfl (q := 96) dX5_lead_93 rfl ?_
            refine v_iload F 0 (q := 98) dX5_lead_96 rfl rfl ?_
            refine v_aald F (j := (S 0 8).toNat) (b := h (15 + (S 0 8).toNat)) 4 2 rfl cw_at4 (by omega) (by omega) (by decide) rfl (q := 99) dX5_lead_98 rfl ?_
            refine v_iload_n F 3 (q := 100) dX5_lead_99 rfl rfl rfl ?_
            refine v_put F (C := RX1) (T := TX1) (N := 6) (ci := 1) (ty := .int) (15 + ((S 0 8).toNat)) 1 (cw k h (u2 (u2 S 5 ((S 0 8).toNat) a0) 6 ((S 0 8).toNat) a1) Z) hin1 tyX1 tyX1_ok nmX1 rfl (cw_cord ((S 0 8).toNat) (by omega)) (by decide) (by decide +kernel) rfl (by decide +kernel) rfl rfl (Nat.le_of_ble_eq_true rfl) (cw_cord1 ((S 0 8).toNat) (by omega) _) (q := 103) dX5_lead_100 rfl ?_
            refine v_aload_n F 1 (q := 104) dX5_lead_103 rfl rfl rfl ?_
            refine v_get F (C := RX5) (T := TX5) (N := 14) (ci := 5) (v := .ref (h 4)) 0 3 hin5 rfl cw_at0 (by decide) (by decide +kernel) rfl (q := 107) dX5_lead_104 rfl ?_
            refine v_iload F 0 (q := 109) dX5_lead_107 rfl rfl ?_
            refine v_aald F (j := (S 0 8).toNat) (b := h (15 + (S 0 8).toNat)) 4 2 rfl cw_at4 (by omega) (by omega) (by decide) rfl (q := 110) dX5_lead_109 rfl ?_
            refine v_iload_n F 4 (q := 111) dX5_lead_110 rfl rfl rfl ?_
            refine v_put F (C := RX1) (T := TX1) (N := 6) (ci := 1) (ty := .int) (15 + ((S 0 8).toNat)) 2 (cw k h (u2 (u2 (u2 S 5 ((S 0 8).toNat) a0) 6 ((S 0 8).toNat) a1) 7 ((S 0 8).toNat) a2) Z) hin1 tyX1 tyX1_ok nmX1 rfl (cw_cord ((S 0 8).toNat) (by omega)) (by decide) (by decide +kernel) rfl (by decide +kernel) rfl rfl (Nat.le_of_ble_eq_true rfl) (cw_cord2 ((S 0 8).toNat) (by omega) _) (q := 114) dX5_lead_111 rfl ?_
            refine v_aload_n F 1 (q := 115) dX5_lead_114 rfl rfl rfl ?_
            refine v_get F (C := RX5) (T := TX5) (N := 14) (ci := 5) (v := .ref (h 4)) 0 3 hin5 rfl cw_at0 (by decide) (by decide +kernel) rfl (q := 118) dX5_lead_115 rfl ?_
            refine v_iload F 0 (q := 120) dX5_lead_118 rfl rfl ?_
            refine v_aald F (j := (S 0 8).toNat) (b := h (15 + (S 0 8).toNat)) 4 2 rfl cw_at4 (by omega) (by omega) (by decide) rfl (q := 121) dX5_lead_120 rfl ?_
            refine v_aload_n F 1 (q := 122) dX5_lead_121 rfl rfl rfl ?_
            refine v_get F (C := RX5) (T := TX5) (N := 14) (ci := 5) (v := .ref (h 3)) 0 2 hin5 rfl cw_at0 (by decide) (by decide +kernel) rfl (q := 125) dX5_lead_122 rfl ?_
            refine v_iload_n F 2 (q := 126) dX5_lead_125 rfl rfl rfl ?_
            refine v_aald F (j := a0.toNat) (b := h (9 + a0.toNat)) 3 1 rfl cw_at3 (by omega) (by omega) (by decide) rfl (q := 127) dX5_lead_126 rfl ?_
            refine v_get F (C := RX3) (T := TX3) (N := 4) (ci := 3) (v := VI (S 1 (a0.toNat))) (9 + (a0.toNat)) 1 hin3 rfl (cw_mast (a0.toNat) (by omega)) (by decide) (by decide +kernel) rfl (q := 130) dX5_lead_127 rfl ?_
            have b_10 := And.intro (hI.pos 1 (a0.toNat) (by omega) (by omega)) (hI.1 1 (a0.toNat) (by omega)).2
            refine v_iload_n F 3 (q := 131) dX5_lead_130 rfl rfl rfl ?_
            refine v_const F (q := 132) dX5_lead_131 rfl ?_
            refine v_icmp_ne F (tgt := 139) (q := 135) (by omega) (by omega) dX5_lead_132 rfl rfl (fun h_11 => ?_) (fun h_11 => ?_)
            · refine v_aload_n F 1 (q := 140) dX5_lead_139 rfl rfl rfl ?_
              refine v_get F (C := RX5) (T := TX5) (N := 14) (ci := 5) (v := .ref (h 3)) 0 2 hin5 rfl cw_at0 (by decide) (by decide +kernel) rfl (q := 143) dX5_lead_140 rfl ?_
              refine v_iload_n F 3 (q := 144) dX5_lead_143 rfl rfl rfl ?_
              refine v_aald F (j := a1.toNat) (b := h (9 + a1.toNat)) 3 1 rfl cw_at3 (by omega) (by omega) (by decide) rfl (q := 145) dX5_lead_144 rfl ?_
              refine v_get F (C := RX3) (T := TX3) (N := 4) (ci := 3) (v := VI (S 1 (a1.toNat))) (9 + (a1.toNat)) 1 hin3 rfl (cw_mast (a1.toNat) (by omega)) (by decide) (by decide +kernel) rfl (q := 148) dX5_lead_145 rfl ?_
              have b_12 := And.intro (hI.pos 1 (a1.toNat) (by omega) (by omega)) (hI.1 1 (a1.toNat) (by omega)).2
              refine v_callVv0 F (kX1_span hst (k := k) (h := h) (S := (u2 (u2 (u2 S 5 ((S 0 8).toNat) a0) 6 ((S 0 8).toNat) a1) 7 ((S 0 8).toNat) a2)) (Z := Z) (t := ((S 0 8).toNat)) (by omega) (a0 := S 1 (a0.toNat)) (a1 := S 1 (a1.toNat)) (by omega) (by omega)) gX5_lead_X1_span rfl hdX1_span ⟨by decide, by decide⟩ (15 + ((S 0 8).toNat)) (cw_cord ((S 0 8).toNat) (by omega)) rfl rfl rfl (Nat.le_of_ble_eq_true rfl) ⟨(Nat.zero_le _), (Nat.zero_le _)⟩ (q := 151) dX5_lead_148 rfl ?_
              rintro _ rfl
              refine v_aload_n F 1 (q := 152) dX5_lead_151 rfl rfl rfl ?_
              refine v_dup F (q := 153) dX5_lead_152 rfl rfl ?_
              refine v_get F (C := RX5) (T := TX5) (N := 14) (ci := 5) (v := VI (S 0 8)) 0 9 hin5 rfl cw_at0 (by decide) (by decide +kernel) rfl (q := 156) dX5_lead_153 rfl ?_
              have b_14 := And.intro (hI.sc 8 (by decide)) (hI.1 0 8 (by omega)).2
              refine v_const F (q := 157) dX5_lead_156 rfl ?_
              refine v_iadd F (q := 158) dX5_lead_157 rfl ?_
              refine v_put F (C := RX5) (T := TX5) (N := 14) (ci := 5) (ty := .int) 0 9 (cw k h (u2 (u2 (u2 (u2 (u2 (u2 S 5 ((S 0 8).toNat) a0) 6 ((S 0 8).toNat) a1) 7 ((S 0 8).toNat) a2) 13 ((S 0 8).toNat) (min (S 1 (a0.toNat)) (S 1 (a1.toNat)))) 14 ((S 0 8).toNat) (max (S 1 (a0.toNat)) (S 1 (a1.toNat)))) 0 8 ((S 0 8) + 1)) Z) hin5 tyX5 tyX5_ok nmX5 rfl cw_at0 (by decide) (by decide +kernel) rfl (by decide +kernel) rfl rfl (Nat.le_of_ble_eq_true rfl) (cw_ship9 _) (q := 161) dX5_lead_158 rfl ?_
              refine v_iload F 0 (q := 163) dX5_lead_161 rfl rfl ?_
              exact ret _ _ _ _ _ _ (Nat.zero_le _) (Nat.zero_le _) dX5_lead_163 (⟨by unfold sLead; first | (exfalso; omega) | simp [*], by unfold eLead; grind, rfl⟩)
            · refine v_const F (q := 136) dX5_lead_135 rfl ?_
              refine v_goto F (tgt := 148) dX5_lead_136 rfl ?_
              refine v_callVv0 F (kX1_span hst (k := k) (h := h) (S := (u2 (u2 (u2 S 5 ((S 0 8).toNat) a0) 6 ((S 0 8).toNat) a1) 7 ((S 0 8).toNat) a2)) (Z := Z) (t := ((S 0 8).toNat)) (by omega) (a0 := S 1 (a0.toNat)) (a1 := 0) (by omega) (by omega)) gX5_lead_X1_span rfl hdX1_span ⟨by decide, by decide⟩ (15 + ((S 0 8).toNat)) (cw_cord ((S 0 8).toNat) (by omega)) rfl rfl rfl (Nat.le_of_ble_eq_true rfl) ⟨(Nat.zero_le _), (Nat.zero_le _)⟩ (q := 151) dX5_lead_148 rfl ?_
              rintro _ rfl
              refine v_aload_n F 1 (q := 152) dX5_lead_151 rfl rfl rfl ?_
              refine v_dup F (q := 153) dX5_lead_152 rfl rfl ?_
              refine v_get F (C := RX5) (T := TX5) (N := 14) (ci := 5) (v := VI (S 0 8)) 0 9 hin5 rfl cw_at0 (by decide) (by decide +kernel) rfl (q := 156) dX5_lead_153 rfl ?_
              have b_16 := And.intro (hI.sc 8 (by decide)) (hI.1 0 8 (by omega)).2
              refine v_const F (q := 157) dX5_lead_156 rfl ?_
              refine v_iadd F (q := 158) dX5_lead_157 rfl ?_
              refine v_put F (C := RX5) (T := TX5) (N := 14) (ci := 5) (ty := .int) 0 9 (cw k h (u2 (u2 (u2 (u2 (u2 (u2 S 5 ((S 0 8).toNat) a0) 6 ((S 0 8).toNat) a1) 7 ((S 0 8).toNat) a2) 13 ((S 0 8).toNat) (min (S 1 (a0.toNat)) 0)) 14 ((S 0 8).toNat) (max (S 1 (a0.toNat)) 0)) 0 8 ((S 0 8) + 1)) Z) hin5 tyX5 tyX5_ok nmX5 rfl cw_at0 (by decide) (by decide +kernel) rfl (by decide +kernel) rfl rfl (Nat.le_of_ble_eq_true rfl) (cw_ship9 _) (q := 161) dX5_lead_158 rfl ?_
              refine v_iload F 0 (q := 163) dX5_lead_161 rfl rfl ?_
              exact ret _ _ _ _ _ _ (Nat.zero_le _) (Nat.zero_le _) dX5_lead_163 (⟨by unfold sLead; first | (exfalso; omega) | simp [*], by unfold eLead; grind, rfl⟩)
          · exact thr E_S "there are 8 threads" 69 136 73 _ _ _ 65 _ v_exS ⟨by decide +kernel, by decide +kernel, by decide +kernel⟩ (by decide +kernel) dX5_lead_65 dX5_lead_68 dX5_lead_69 dX5_lead_71 dX5_lead_74 (by decide) (by decide) (⟨rfl, Or.inr (Or.inr (⟨by unfold eLead; grind, rfl⟩))⟩)
        · refine v_if_ne F (tgt := 56) (q := 46) R32_0 dX5_lead_43 rfl rfl (fun h_17 => absurd h_17 (by omega)) (fun h_17 => ?_)
          exact thr E_A "both are the same, or no such strength" 58 131 62 _ _ _ 46 _ v_exA ⟨by decide +kernel, by decide +kernel, by decide +kernel⟩ (by decide +kernel) dX5_lead_46 dX5_lead_49 dX5_lead_50 dX5_lead_52 dX5_lead_55 (by decide) (by decide) (⟨rfl, Or.inr (Or.inl ⟨by unfold eLead; grind, rfl⟩)⟩)
    · refine v_aload_n F 0 (q := 14) dX5_lead_13 rfl rfl rfl ?_
      refine v_iload_n F 2 (q := 15) dX5_lead_14 rfl rfl rfl ?_
      refine v_callVi0 F (kX5_isMast hst (k := k) (h := h) (S := S) (Z := Z) hI (a0 := a1) (by omega)) gX5_lead_X5_isMast rfl hdX5_isMast ⟨by decide, by decide⟩ 0 cw_at0 rfl rfl rfl (Nat.le_of_ble_eq_true rfl) ⟨(Nat.zero_le _), (Nat.zero_le _)⟩ (q := 18) dX5_lead_15 rfl ?_
      rintro _ _ ⟨rfl, ⟨rfl, h_18⟩ | ⟨rfl, h_18⟩⟩
      · refine v_if_ne F (tgt := 31) (q := 21) (by omega) dX5_lead_18 rfl rfl (fun h_19 => ?_) (fun h_19 => absurd h_19 (by omega))
        refine v_iload_n F 1 (q := 32) dX5_lead_31 rfl rfl rfl ?_
        refine v_iload_n F 2 (q := 33) dX5_lead_32 rfl rfl rfl ?_
        refine v_icmp_eq F (tgt := 46) (q := 36) (by omega) (by omega) dX5_lead_33 rfl rfl (fun h_20 => ?_) (fun h_20 => ?_)
        · exact thr E_A "both are the same, or no such strength" 58 131 62 _ _ _ 46 _ v_exA ⟨by decide +kernel, by decide +kernel, by decide +kernel⟩ (by decide +kernel) dX5_lead_46 dX5_lead_49 dX5_lead_50 dX5_lead_52 dX5_lead_55 (by decide) (by decide) (⟨rfl, Or.inr (Or.inl ⟨by unfold eLead; grind, rfl⟩)⟩)
        · refine v_iload_n F 3 (q := 37) dX5_lead_36 rfl rfl rfl ?_
          refine v_const F (q := 38) dX5_lead_37 rfl ?_
          refine v_bipush F (q := 40) dX5_lead_38 rfl rfl ?_
          refine v_callSi0 F (kX5_isWithin hst (k := k) (w := cw k h S Z) (a0 := a2) (a1 := 1) (a2 := 9) (by omega) (by omega) (by omega)) gX5_lead_X5_isWithin rfl hdX5_isWithin ⟨by decide, by decide⟩ rfl rfl (Nat.le_of_ble_eq_true rfl) ⟨(Nat.zero_le _), (Nat.zero_le _)⟩ (q := 43) dX5_lead_40 rfl ?_
          rintro _ _ ⟨rfl, ⟨rfl, h_21⟩ | ⟨rfl, h_21⟩⟩
          · refine v_if_ne F (tgt := 56) (q := 46) (by omega) dX5_lead_43 rfl rfl (fun h_22 => ?_) (fun h_22 => absurd h_22 (by omega))
            refine v_aload_n F 0 (q := 57) dX5_lead_56 rfl rfl rfl ?_
            refine v_get F (C := RX5) (T := TX5) (N := 14) (ci := 5) (v := VI (S 0 8)) 0 9 hin5 rfl cw_at0 (by decide) (by decide +kernel) rfl (q := 60) dX5_lead_57 rfl ?_
            have b_23 := And.intro (hI.sc 8 (by decide)) (hI.1 0 8 (by omega)).2
            refine v_bipush F (q := 62) dX5_lead_60 rfl rfl ?_
            refine v_icmp_lt F (tgt := 75) (q := 65) (by omega) (by omega) dX5_lead_62 rfl rfl (fun h_24 => ?_) (fun h_24 => ?_)
            · refine v_aload_n F 0 (q := 76) dX5_lead_75 rfl rfl rfl ?_
              refine v_get F (C := RX5) (T := TX5) (N := 14) (ci := 5) (v := VI (S 0 8)) 0 9 hin5 rfl cw_at0 (by decide) (by decide +kernel) rfl (q := 79) dX5_lead_76 rfl ?_
              have b_25 := And.intro (hI.sc 8 (by decide)) (hI.1 0 8 (by omega)).2
              refine v_istore F (q := 81) [(4, VI (S 0 8)), (0, .ref (h 0)), (1, VI a0), (2, VI a1), (3, VI a2)] dX5_lead_79 (by decide) rfl rfl ?_
              refine v_aload_n F 1 (q := 82) dX5_lead_81 rfl rfl rfl ?_
              refine v_get F (C := RX5) (T := TX5) (N := 14) (ci := 5) (v := .ref (h 4)) 0 3 hin5 rfl cw_at0 (by decide) (by decide +kernel) rfl (q := 85) dX5_lead_82 rfl ?_
              refine v_iload F 0 (q := 87) dX5_lead_85 rfl rfl ?_
              refine v_aald F (j := (S 0 8).toNat) (b := h (15 + (S 0 8).toNat)) 4 2 rfl cw_at4 (by omega) (by omega) (by decide) rfl (q := 88) dX5_lead_87 rfl ?_
              refine v_iload_n F 2 (q := 89) dX5_lead_88 rfl rfl rfl ?_
              refine v_put F (C := RX1) (T := TX1) (N := 6) (ci := 1) (ty := .int) (15 + ((S 0 8).toNat)) 0 (cw k h (u2 S 5 ((S 0 8).toNat) a0) Z) hin1 tyX1 tyX1_ok nmX1 rfl (cw_cord ((S 0 8).toNat) (by omega)) (by decide) (by decide +kernel) rfl (by decide +kernel) rfl rfl (Nat.le_of_ble_eq_true rfl) (cw_cord0 ((S 0 8).toNat) (by omega) _) (q := 92) dX5_lead_89 rfl ?_
              refine v_aload_n F 1 (q := 93) dX5_lead_92 rfl rfl rfl ?_
              refine v_get F (C := RX5) (T := TX5) (N := 14) (ci := 5) (v := .ref (h 4)) 0 3 hin5 rfl cw_at0 (by decide) (by decide +kernel) rfl (q := 96) dX5_lead_93 rfl ?_
              refine v_iload F 0 (q := 98) dX5_lead_96 rfl rfl ?_
              refine v_aald F (j := (S 0 8).toNat) (b := h (15 + (S 0 8).toNat)) 4 2 rfl cw_at4 (by omega) (by omega) (by decide) rfl (q := 99) dX5_lead_98 rfl ?_
              refine v_iload_n F 3 (q := 100) dX5_lead_99 rfl rfl rfl ?_
              refine v_put F (C := RX1) (T := TX1) (N := 6) (ci := 1) (ty := .int) (15 + ((S 0 8).toNat)) 1 (cw k h (u2 (u2 S 5 ((S 0 8).toNat) a0) 6 ((S 0 8).toNat) a1) Z) hin1 tyX1 tyX1_ok nmX1 rfl (cw_cord ((S 0 8).toNat) (by omega)) (by decide) (by decide +kernel) rfl (by decide +kernel) rfl rfl (Nat.le_of_ble_eq_true rfl) (cw_cord1 ((S 0 8).toNat) (by omega) _) (q := 103) dX5_lead_100 rfl ?_
              refine v_aload_n F 1 (q := 104) dX5_lead_103 rfl rfl rfl ?_
              refine v_get F (C := RX5) (T := TX5) (N := 14) (ci := 5) (v := .ref (h 4)) 0 3 hin5 rfl cw_at0 (by decide) (by decide +kernel) rfl (q := 107) dX5_lead_104 rfl ?_
              refine v_iload F 0 (q := 109) dX5_lead_107 rfl rfl ?_
              refine v_aald F (j := (S 0 8).toNat) (b := h (15 + (S 0 8).toNat)) 4 2 rfl cw_at4 (by omega) (by omega) (by decide) rfl (q := 110) dX5_lead_109 rfl ?_
              refine v_iload_n F 4 (q := 111) dX5_lead_110 rfl rfl rfl ?_
              refine v_put F (C := RX1) (T := TX1) (N := 6) (ci := 1) (ty := .int) (15 + ((S 0 8).toNat)) 2 (cw k h (u2 (u2 (u2 S 5 ((S 0 8).toNat) a0) 6 ((S 0 8).toNat) a1) 7 ((S 0 8).toNat) a2) Z) hin1 tyX1 tyX1_ok nmX1 rfl (cw_cord ((S 0 8).toNat) (by omega)) (by decide) (by decide +kernel) rfl (by decide +kernel) rfl rfl (Nat.le_of_ble_eq_true rfl) (cw_cord2 ((S 0 8).toNat) (by omega) _) (q := 114) dX5_lead_111 rfl ?_
              refine v_aload_n F 1 (q := 115) dX5_lead_114 rfl rfl rfl ?_
              refine v_get F (C := RX5) (T := TX5) (N := 14) (ci := 5) (v := .ref (h 4)) 0 3 hin5 rfl cw_at0 (by decide) (by decide +kernel) rfl (q := 118) dX5_lead_115 rfl ?_
              refine v_iload F 0 (q := 120) dX5_lead_118 rfl rfl ?_
              refine v_aald F (j := (S 0 8).toNat) (b := h (15 + (S 0 8).toNat)) 4 2 rfl cw_at4 (by omega) (by omega) (by decide) rfl (q := 121) dX5_lead_120 rfl ?_
              refine v_aload_n F 1 (q := 122) dX5_lead_121 rfl rfl rfl ?_
              refine v_get F (C := RX5) (T := TX5) (N := 14) (ci := 5) (v := .ref (h 3)) 0 2 hin5 rfl cw_at0 (by decide) (by decide +kernel) rfl (q := 125) dX5_lead_122 rfl ?_
              refine v_iload_n F 2 (q := 126) dX5_lead_125 rfl rfl rfl ?_
              refine v_aald F (j := a0.toNat) (b := h (9 + a0.toNat)) 3 1 rfl cw_at3 (by omega) (by omega) (by decide) rfl (q := 127) dX5_lead_126 rfl ?_
              refine v_get F (C := RX3) (T := TX3) (N := 4) (ci := 3) (v := VI (S 1 (a0.toNat))) (9 + (a0.toNat)) 1 hin3 rfl (cw_mast (a0.toNat) (by omega)) (by decide) (by decide +kernel) rfl (q := 130) dX5_lead_127 rfl ?_
              have b_26 := And.intro (hI.pos 1 (a0.toNat) (by omega) (by omega)) (hI.1 1 (a0.toNat) (by omega)).2
              refine v_iload_n F 3 (q := 131) dX5_lead_130 rfl rfl rfl ?_
              refine v_const F (q := 132) dX5_lead_131 rfl ?_
              refine v_icmp_ne F (tgt := 139) (q := 135) (by omega) (by omega) dX5_lead_132 rfl rfl (fun h_27 => ?_) (fun h_27 => ?_)
              · refine v_aload_n F 1 (q := 140) dX5_lead_139 rfl rfl rfl ?_
                refine v_get F (C := RX5) (T := TX5) (N := 14) (ci := 5) (v := .ref (h 3)) 0 2 hin5 rfl cw_at0 (by decide) (by decide +kernel) rfl (q := 143) dX5_lead_140 rfl ?_
                refine v_iload_n F 3 (q := 144) dX5_lead_143 rfl rfl rfl ?_
                refine v_aald F (j := a1.toNat) (b := h (9 + a1.toNat)) 3 1 rfl cw_at3 (by omega) (by omega) (by decide) rfl (q := 145) dX5_lead_144 rfl ?_
                refine v_get F (C := RX3) (T := TX3) (N := 4) (ci := 3) (v := VI (S 1 (a1.toNat))) (9 + (a1.toNat)) 1 hin3 rfl (cw_mast (a1.toNat) (by omega)) (by decide) (by decide +kernel) rfl (q := 148) dX5_lead_145 rfl ?_
                have b_28 := And.intro (hI.pos 1 (a1.toNat) (by omega) (by omega)) (hI.1 1 (a1.toNat) (by omega)).2
                refine v_callVv0 F (kX1_span hst (k := k) (h := h) (S := (u2 (u2 (u2 S 5 ((S 0 8).toNat) a0) 6 ((S 0 8).toNat) a1) 7 ((S 0 8).toNat) a2)) (Z := Z) (t := ((S 0 8).toNat)) (by omega) (a0 := S 1 (a0.toNat)) (a1 := S 1 (a1.toNat)) (by omega) (by omega)) gX5_lead_X1_span rfl hdX1_span ⟨by decide, by decide⟩ (15 + ((S 0 8).toNat)) (cw_cord ((S 0 8).toNat) (by omega)) rfl rfl rfl (Nat.le_of_ble_eq_true rfl) ⟨(Nat.zero_le _), (Nat.zero_le _)⟩ (q := 151) dX5_lead_148 rfl ?_
                rintro _ rfl
                refine v_aload_n F 1 (q := 152) dX5_lead_151 rfl rfl rfl ?_
                refine v_dup F (q := 153) dX5_lead_152 rfl rfl ?_
                refine v_get F (C := RX5) (T := TX5) (N := 14) (ci := 5) (v := VI (S 0 8)) 0 9 hin5 rfl cw_at0 (by decide) (by decide +kernel) rfl (q := 156) dX5_lead_153 rfl ?_
                have b_30 := And.intro (hI.sc 8 (by decide)) (hI.1 0 8 (by omega)).2
                refine v_const F (q := 157) dX5_lead_156 rfl ?_
                refine v_iadd F (q := 158) dX5_lead_157 rfl ?_
                refine v_put F (C := RX5) (T := TX5) (N := 14) (ci := 5) (ty := .int) 0 9 (cw k h (u2 (u2 (u2 (u2 (u2 (u2 S 5 ((S 0 8).toNat) a0) 6 ((S 0 8).toNat) a1) 7 ((S 0 8).toNat) a2) 13 ((S 0 8).toNat) (min (S 1 (a0.toNat)) (S 1 (a1.toNat)))) 14 ((S 0 8).toNat) (max (S 1 (a0.toNat)) (S 1 (a1.toNat)))) 0 8 ((S 0 8) + 1)) Z) hin5 tyX5 tyX5_ok nmX5 rfl cw_at0 (by decide) (by decide +kernel) rfl (by decide +kernel) rfl rfl (Nat.le_of_ble_eq_true rfl) (cw_ship9 _) (q := 161) dX5_lead_158 rfl ?_
                refine v_iload F 0 (q := 163) dX5_lead_161 rfl rfl ?_
                exact ret _ _ _ _ _ _ (Nat.zero_le _) (Nat.zero_le _) dX5_lead_163 (⟨by unfold sLead; first | (exfalso; omega) | simp [*], by unfold eLead; grind, rfl⟩)
              · refine v_const F (q := 136) dX5_lead_135 rfl ?_
                refine v_goto F (tgt := 148) dX5_lead_136 rfl ?_
                refine v_callVv0 F (kX1_span hst (k := k) (h := h) (S := (u2 (u2 (u2 S 5 ((S 0 8).toNat) a0) 6 ((S 0 8).toNat) a1) 7 ((S 0 8).toNat) a2)) (Z := Z) (t := ((S 0 8).toNat)) (by omega) (a0 := S 1 (a0.toNat)) (a1 := 0) (by omega) (by omega)) gX5_lead_X1_span rfl hdX1_span ⟨by decide, by decide⟩ (15 + ((S 0 8).toNat)) (cw_cord ((S 0 8).toNat) (by omega)) rfl rfl rfl (Nat.le_of_ble_eq_true rfl) ⟨(Nat.zero_le _), (Nat.zero_le _)⟩ (q := 151) dX5_lead_148 rfl ?_
                rintro _ rfl
                refine v_aload_n F 1 (q := 152) dX5_lead_151 rfl rfl rfl ?_
                refine v_dup F (q := 153) dX5_lead_152 rfl rfl ?_
                refine v_get F (C := RX5) (T := TX5) (N := 14) (ci := 5) (v := VI (S 0 8)) 0 9 hin5 rfl cw_at0 (by decide) (by decide +kernel) rfl (q := 156) dX5_lead_153 rfl ?_
                have b_32 := And.intro (hI.sc 8 (by decide)) (hI.1 0 8 (by omega)).2
                refine v_const F (q := 157) dX5_lead_156 rfl ?_
                refine v_iadd F (q := 158) dX5_lead_157 rfl ?_
                refine v_put F (C := RX5) (T := TX5) (N := 14) (ci := 5) (ty := .int) 0 9 (cw k h (u2 (u2 (u2 (u2 (u2 (u2 S 5 ((S 0 8).toNat) a0) 6 ((S 0 8).toNat) a1) 7 ((S 0 8).toNat) a2) 13 ((S 0 8).toNat) (min (S 1 (a0.toNat)) 0)) 14 ((S 0 8).toNat) (max (S 1 (a0.toNat)) 0)) 0 8 ((S 0 8) + 1)) Z) hin5 tyX5 tyX5_ok nmX5 rfl cw_at0 (by decide) (by decide +kernel) rfl (by decide +kernel) rfl rfl (Nat.le_of_ble_eq_true rfl) (cw_ship9 _) (q := 161) dX5_lead_158 rfl ?_
                refine v_iload F 0 (q := 163) dX5_lead_161 rfl rfl ?_
                exact ret _ _ _ _ _ _ (Nat.zero_le _) (Nat.zero_le _) dX5_lead_163 (⟨by unfold sLead; first | (exfalso; omega) | simp [*], by unfold eLead; grind, rfl⟩)
            · exact thr E_S "there are 8 threads" 69 136 73 _ _ _ 65 _ v_exS ⟨by decide +kernel, by decide +kernel, by decide +kernel⟩ (by decide +kernel) dX5_lead_65 dX5_lead_68 dX5_lead_69 dX5_lead_71 dX5_lead_74 (by decide) (by decide) (⟨rfl, Or.inr (Or.inr (⟨by unfold eLead; grind, rfl⟩))⟩)
          · refine v_if_ne F (tgt := 56) (q := 46) R32_0 dX5_lead_43 rfl rfl (fun h_33 => absurd h_33 (by omega)) (fun h_33 => ?_)
            exact thr E_A "both are the same, or no such strength" 58 131 62 _ _ _ 46 _ v_exA ⟨by decide +kernel, by decide +kernel, by decide +kernel⟩ (by decide +kernel) dX5_lead_46 dX5_lead_49 dX5_lead_50 dX5_lead_52 dX5_lead_55 (by decide) (by decide) (⟨rfl, Or.inr (Or.inl ⟨by unfold eLead; grind, rfl⟩)⟩)
      · refine v_if_ne F (tgt := 31) (q := 21) R32_0 dX5_lead_18 rfl rfl (fun h_34 => absurd h_34 (by omega)) (fun h_34 => ?_)
        exact thr E_X "no such mast" 116 118 120 _ _ _ 21 _ v_exX ⟨by decide +kernel, by decide +kernel, by decide +kernel⟩ (by decide +kernel) dX5_lead_21 dX5_lead_24 dX5_lead_25 dX5_lead_27 dX5_lead_30 (by decide) (by decide) (⟨rfl, Or.inl ⟨by unfold eLead; grind, rfl⟩⟩)
  · refine v_if_eq F (tgt := 21) (q := 8) R32_0 dX5_lead_5 rfl rfl (fun h_35 => ?_) (fun h_35 => absurd h_35 (by omega))
    exact thr E_X "no such mast" 116 118 120 _ _ _ 21 _ v_exX ⟨by decide +kernel, by decide +kernel, by decide +kernel⟩ (by decide +kernel) dX5_lead_21 dX5_lead_24 dX5_lead_25 dX5_lead_27 dX5_lead_30 (by decide) (by decide) (⟨rfl, Or.inl ⟨by unfold eLead; grind, rfl⟩⟩)
theorem hdX5_enter : yX5_enter.cls = RX5 ∧ yX5_enter.cls ≠ "java/lang/invoke/MethodHandle" ∧ yX5_enter.cls ≠ "java/lang/invoke/VarHandle" ∧ (parseMethodDescriptor yX5_enter.desc).map (fun d => d.parameters.length) = some 0 := by decide +kernel
set_option maxRecDepth 100000 in
set_option maxHeartbeats 4000000 in
theorem kX5_enter {l : Launch} (hst : l.stackTraces = false) {k : Nat → ClassId} {h : Nat → Nat} {S Z : Nat → Nat → Int} (hI : Inv S) : v_Ci l k yX5_enter wsX5_enter ({ frames := 4, cells := 0, slots := 0, locals := 85 } : Room) [.ref (h 0)] (cw k h S Z) (fun a u => u = cw k h (sEnter S) Z ∧ vB (entB S = true) a) := by
  refine v_ofI (cc := cX5_enter) (nL := 1) (by decide +kernel) rfl hst (Nat.le_of_ble_eq_true rfl) (fun _ _ hp => vB_n hp.2) (fun XX F ret => ?_)
  have hin5 : ∀ w ∈ wsX50, w ∈ wsX5_enter := by decide +kernel
  have b7 := hI.mc
  have b8 := hI.cc
  show V XX (cw k h S Z) 0 0 0 [(0, .ref (h 0))] []
  refine v_aload_n F 0 (q := 1) dX5_enter_0 rfl rfl rfl ?_
  refine v_get F (C := RX5) (T := TX5) (N := 14) (ci := 5) (v := VI (S 0 9)) 0 10 hin5 rfl cw_at0 (by decide) (by decide +kernel) rfl (q := 4) dX5_enter_1 rfl ?_
  have b_1 := hI.isin
  refine v_if_ne F (tgt := 25) (q := 7) (by omega) dX5_enter_4 rfl rfl (fun h_2 => ?_) (fun h_2 => ?_)
  · refine v_const F (q := 26) dX5_enter_25 rfl ?_
    exact ret _ _ _ _ _ _ (Nat.zero_le _) (Nat.zero_le _) dX5_enter_26 (⟨by unfold sEnter entB; simp [*], vB_0 (by unfold entB; simp [*])⟩)
  · refine v_aload_n F 0 (q := 8) dX5_enter_7 rfl rfl rfl ?_
    refine v_callVi0 F (kX5_goesThroughNeck hst (k := k) (h := h) (S := S) (Z := Z) hI) gX5_enter_X5_goesThroughNeck rfl hdX5_goesThroughNeck ⟨by decide, by decide⟩ 0 cw_at0 rfl rfl rfl (Nat.le_of_ble_eq_true rfl) ⟨(Nat.zero_le _), (Nat.zero_le _)⟩ (q := 11) dX5_enter_8 rfl ?_
    rintro _ _ ⟨rfl, ⟨rfl, h_3⟩ | ⟨rfl, h_3⟩⟩
    · refine v_if_eq F (tgt := 25) (q := 14) (by omega) dX5_enter_11 rfl rfl (fun h_4 => absurd h_4 (by omega)) (fun h_4 => ?_)
      refine v_aload_n F 0 (q := 15) dX5_enter_14 rfl rfl rfl ?_
      refine v_aload_n F 0 (q := 16) dX5_enter_15 rfl rfl rfl ?_
      refine v_get F (C := RX5) (T := TX5) (N := 14) (ci := 5) (v := .ref (h 6)) 0 5 hin5 rfl cw_at0 (by decide) (by decide +kernel) rfl (q := 19) dX5_enter_16 rfl ?_
      refine v_callVi0 F (kX5_fitsWith hst (k := k) (h := h) (S := S) (Z := Z) hI (rq := 6) (ra := h 6) (f := S 4) cw_at6 hI.lean3) gX5_enter_X5_fitsWith rfl hdX5_fitsWith ⟨by decide, by decide⟩ 0 cw_at0 rfl rfl rfl (Nat.le_of_ble_eq_true rfl) ⟨(Nat.zero_le _), (Nat.zero_le _)⟩ (q := 22) dX5_enter_19 rfl ?_
      rintro _ _ ⟨rfl, ⟨rfl, h_5⟩ | ⟨rfl, h_5⟩⟩
      · refine v_if_ne F (tgt := 27) (q := 25) (by omega) dX5_enter_22 rfl rfl (fun h_6 => ?_) (fun h_6 => absurd h_6 (by omega))
        refine v_aload_n F 0 (q := 28) dX5_enter_27 rfl rfl rfl ?_
        refine v_const F (q := 29) dX5_enter_28 rfl ?_
        refine v_put F (C := RX5) (T := TX5) (N := 14) (ci := 5) (ty := .boolean) 0 10 (cw k h (u2 S 0 9 1) Z) hin5 tyX5 tyX5_ok nmX5 rfl cw_at0 (by decide) (by decide +kernel) rfl (by decide +kernel) (by decide) (by decide) (Nat.le_of_ble_eq_true rfl) (cw_ship10 _) (q := 32) dX5_enter_29 rfl ?_
        refine v_const F (q := 33) dX5_enter_32 rfl ?_
        exact ret _ _ _ _ _ _ (Nat.zero_le _) (Nat.zero_le _) dX5_enter_33 (⟨by unfold sEnter entB; simp [*], vB_1 (by unfold entB; simp [*])⟩)
      · refine v_if_ne F (tgt := 27) (q := 25) R32_0 dX5_enter_22 rfl rfl (fun h_7 => absurd h_7 (by omega)) (fun h_7 => ?_)
        refine v_const F (q := 26) dX5_enter_25 rfl ?_
        exact ret _ _ _ _ _ _ (Nat.zero_le _) (Nat.zero_le _) dX5_enter_26 (⟨by unfold sEnter entB; simp [*], vB_0 (by unfold entB; simp [*])⟩)
    · refine v_if_eq F (tgt := 25) (q := 14) R32_0 dX5_enter_11 rfl rfl (fun h_8 => ?_) (fun h_8 => absurd h_8 (by omega))
      refine v_const F (q := 26) dX5_enter_25 rfl ?_
      exact ret _ _ _ _ _ _ (Nat.zero_le _) (Nat.zero_le _) dX5_enter_26 (⟨by unfold sEnter entB; simp [*], vB_0 (by unfold entB; simp [*])⟩)
theorem hdX5_leave : yX5_leave.cls = RX5 ∧ yX5_leave.cls ≠ "java/lang/invoke/MethodHandle" ∧ yX5_leave.cls ≠ "java/lang/invoke/VarHandle" ∧ (parseMethodDescriptor yX5_leave.desc).map (fun d => d.parameters.length) = some 0 := by decide +kernel
set_option maxRecDepth 100000 in
set_option maxHeartbeats 4000000 in
theorem kX5_leave {l : Launch} (hst : l.stackTraces = false) {k : Nat → ClassId} {h : Nat → Nat} {S Z : Nat → Nat → Int} (hI : Inv S) : v_Ci l k yX5_leave wsX5_leave ({ frames := 4, cells := 0, slots := 0, locals := 85 } : Room) [.ref (h 0)] (cw k h S Z) (fun a u => u = cw k h (sLeave S) Z ∧ vB (leaB S = true) a) := by
  refine v_ofI (cc := cX5_leave) (nL := 1) (by decide +kernel) rfl hst (Nat.le_of_ble_eq_true rfl) (fun _ _ hp => vB_n hp.2) (fun XX F ret => ?_)
  have hin5 : ∀ w ∈ wsX50, w ∈ wsX5_leave := by decide +kernel
  have b7 := hI.mc
  have b8 := hI.cc
  show V XX (cw k h S Z) 0 0 0 [(0, .ref (h 0))] []
  refine v_aload_n F 0 (q := 1) dX5_leave_0 rfl rfl rfl ?_
  refine v_get F (C := RX5) (T := TX5) (N := 14) (ci := 5) (v := VI (S 0 9)) 0 10 hin5 rfl cw_at0 (by decide) (by decide +kernel) rfl (q := 4) dX5_leave_1 rfl ?_
  have b_1 := hI.isin
  refine v_if_eq F (tgt := 14) (q := 7) (by omega) dX5_leave_4 rfl rfl (fun h_2 => ?_) (fun h_2 => ?_)
  · refine v_const F (q := 15) dX5_leave_14 rfl ?_
    exact ret _ _ _ _ _ _ (Nat.zero_le _) (Nat.zero_le _) dX5_leave_15 (⟨by unfold sLeave leaB; simp [*], vB_0 (by unfold leaB; simp [*])⟩)
  · refine v_aload_n F 0 (q := 8) dX5_leave_7 rfl rfl rfl ?_
    refine v_callVi0 F (kX5_goesThroughNeck hst (k := k) (h := h) (S := S) (Z := Z) hI) gX5_leave_X5_goesThroughNeck rfl hdX5_goesThroughNeck ⟨by decide, by decide⟩ 0 cw_at0 rfl rfl rfl (Nat.le_of_ble_eq_true rfl) ⟨(Nat.zero_le _), (Nat.zero_le _)⟩ (q := 11) dX5_leave_8 rfl ?_
    rintro _ _ ⟨rfl, ⟨rfl, h_3⟩ | ⟨rfl, h_3⟩⟩
    · refine v_if_ne F (tgt := 16) (q := 14) (by omega) dX5_leave_11 rfl rfl (fun h_4 => ?_) (fun h_4 => absurd h_4 (by omega))
      refine v_aload_n F 0 (q := 17) dX5_leave_16 rfl rfl rfl ?_
      refine v_const F (q := 18) dX5_leave_17 rfl ?_
      refine v_put F (C := RX5) (T := TX5) (N := 14) (ci := 5) (ty := .boolean) 0 10 (cw k h (u2 S 0 9 0) Z) hin5 tyX5 tyX5_ok nmX5 rfl cw_at0 (by decide) (by decide +kernel) rfl (by decide +kernel) (by decide) (by decide) (Nat.le_of_ble_eq_true rfl) (cw_ship10 _) (q := 21) dX5_leave_18 rfl ?_
      refine v_const F (q := 22) dX5_leave_21 rfl ?_
      exact ret _ _ _ _ _ _ (Nat.zero_le _) (Nat.zero_le _) dX5_leave_22 (⟨by unfold sLeave leaB; rw [if_pos (by simp [*]; omega)], vB_1 (by unfold leaB; simp [*]; omega)⟩)
    · refine v_if_ne F (tgt := 16) (q := 14) R32_0 dX5_leave_11 rfl rfl (fun h_5 => absurd h_5 (by omega)) (fun h_5 => ?_)
      refine v_const F (q := 15) dX5_leave_14 rfl ?_
      exact ret _ _ _ _ _ _ (Nat.zero_le _) (Nat.zero_le _) dX5_leave_15 (⟨by unfold sLeave leaB; simp [*], vB_0 (by unfold leaB; simp [*])⟩)
theorem hdX5_glue : yX5_glue.cls = RX5 ∧ yX5_glue.cls ≠ "java/lang/invoke/MethodHandle" ∧ yX5_glue.cls ≠ "java/lang/invoke/VarHandle" ∧ (parseMethodDescriptor yX5_glue.desc).map (fun d => d.parameters.length) = some 1 := by decide +kernel
set_option maxRecDepth 100000 in
set_option maxHeartbeats 4000000 in
theorem kX5_glue {l : Launch} (hst : l.stackTraces = false) {k : Nat → ClassId} {h : Nat → Nat} {S Z : Nat → Nat → Int} (hI : Inv S) {a0 : Int} (g0 : R32 a0) : v_Ct l k yX5_glue wsX5_glue ({ frames := 6, cells := 1, slots := 6, locals := 90 } : Room) [.ref (h 0), VI a0] (cw k h S Z) (fun a u => u = cw k h (sGlue S a0.toNat) Z ∧ eGlue S a0 = 0 ∧ a = 1 - S 8 a0.toNat) (fun E u => u = cw k h S Z ∧ ((eGlue S a0 = 1 ∧ E = E_X) ∨ (eGlue S a0 = 2 ∧ E = E_S))) := by
  refine v_ofX (cc := cX5_glue) (nL := 3) rfl (by decide +kernel) rfl hst (Nat.le_of_ble_eq_true rfl) (fun _ _ _ => rfl) (by decide) (by decide) (fun XX F ret thr => ?_)
  have hin1 : ∀ w ∈ wsX10, w ∈ wsX5_glue := by decide +kernel
  have hin5 : ∀ w ∈ wsX50, w ∈ wsX5_glue := by decide +kernel
  have b7 := hI.mc
  have b8 := hI.cc
  show V XX (cw k h S Z) 0 0 0 [(0, .ref (h 0)), (1, VI a0)] []
  refine v_aload_n F 0 (q := 1) dX5_glue_0 rfl rfl rfl ?_
  refine v_iload_n F 1 (q := 2) dX5_glue_1 rfl rfl rfl ?_
  refine v_callVi0 F (kX5_isThread hst (k := k) (h := h) (S := S) (Z := Z) hI (a0 := a0) (by omega)) gX5_glue_X5_isThread rfl hdX5_isThread ⟨by decide, by decide⟩ 0 cw_at0 rfl rfl rfl (Nat.le_of_ble_eq_true rfl) ⟨(Nat.zero_le _), (Nat.zero_le _)⟩ (q := 5) dX5_glue_2 rfl ?_
  rintro _ _ ⟨rfl, ⟨rfl, h_1⟩ | ⟨rfl, h_1⟩⟩
  · refine v_if_ne F (tgt := 18) (q := 8) (by omega) dX5_glue_5 rfl rfl (fun h_2 => ?_) (fun h_2 => absurd h_2 (by omega))
    refine v_aload_n F 0 (q := 19) dX5_glue_18 rfl rfl rfl ?_
    refine v_get F (C := RX5) (T := TX5) (N := 14) (ci := 5) (v := .ref (h 4)) 0 3 hin5 rfl cw_at0 (by decide) (by decide +kernel) rfl (q := 22) dX5_glue_19 rfl ?_
    refine v_iload_n F 1 (q := 23) dX5_glue_22 rfl rfl rfl ?_
    refine v_aald F (j := a0.toNat) (b := h (15 + a0.toNat)) 4 2 rfl cw_at4 (by omega) (by omega) (by decide) rfl (q := 24) dX5_glue_23 rfl ?_
    refine v_astore_n F (q := 25) [(2, .ref (h (15 + (a0.toNat)))), (0, .ref (h 0)), (1, VI a0)] dX5_glue_24 rfl (by decide) rfl rfl ?_
    refine v_aload_n F 0 (q := 26) dX5_glue_25 rfl rfl rfl ?_
    refine v_get F (C := RX1) (T := TX1) (N := 6) (ci := 1) (v := VI (S 8 (a0.toNat))) (15 + (a0.toNat)) 3 hin1 rfl (cw_cord (a0.toNat) (by omega)) (by decide) (by decide +kernel) rfl (q := 29) dX5_glue_26 rfl ?_
    have b_3 := hI.st (a0.toNat)
    refine v_const F (q := 30) dX5_glue_29 rfl ?_
    refine v_icmp_ne F (tgt := 43) (q := 33) (by omega) (by omega) dX5_glue_30 rfl rfl (fun h_4 => ?_) (fun h_4 => ?_)
    · refine v_aload_n F 0 (q := 44) dX5_glue_43 rfl rfl rfl ?_
      refine v_aload_n F 0 (q := 45) dX5_glue_44 rfl rfl rfl ?_
      refine v_get F (C := RX1) (T := TX1) (N := 6) (ci := 1) (v := VI (S 8 (a0.toNat))) (15 + (a0.toNat)) 3 hin1 rfl (cw_cord (a0.toNat) (by omega)) (by decide) (by decide +kernel) rfl (q := 48) dX5_glue_45 rfl ?_
      have b_5 := hI.st (a0.toNat)
      refine v_if_ne F (tgt := 55) (q := 51) (by omega) dX5_glue_48 rfl rfl (fun h_6 => ?_) (fun h_6 => ?_)
      · refine v_const F (q := 56) dX5_glue_55 rfl ?_
        refine v_put F (C := RX1) (T := TX1) (N := 6) (ci := 1) (ty := .int) (15 + (a0.toNat)) 3 (cw k h (u2 S 8 (a0.toNat) 0) Z) hin1 tyX1 tyX1_ok nmX1 rfl (cw_cord (a0.toNat) (by omega)) (by decide) (by decide +kernel) rfl (by decide +kernel) rfl rfl (Nat.le_of_ble_eq_true rfl) (cw_cord3 (a0.toNat) (by omega) _) (q := 59) dX5_glue_56 rfl ?_
        refine v_aload_n F 0 (q := 60) dX5_glue_59 rfl rfl rfl ?_
        refine v_get F (C := RX1) (T := TX1) (N := 6) (ci := 1) (v := VI 0) (15 + (a0.toNat)) 3 hin1 rfl (cw_cord (a0.toNat) (by omega)) (by decide) (by decide +kernel) (by simp [cCord, cMast, u2, ur]) (q := 63) dX5_glue_60 rfl ?_
        refine v_const F (q := 64) dX5_glue_63 rfl ?_
        refine v_icmp_ne F (tgt := 71) (q := 67) R32_0 (by omega) dX5_glue_64 rfl rfl (fun h_7 => ?_) (fun h_7 => absurd h_7 (by omega))
        refine v_const F (q := 72) dX5_glue_71 rfl ?_
        exact ret _ _ _ _ _ _ (Nat.zero_le _) (Nat.zero_le _) dX5_glue_72 (⟨by unfold sGlue; rw [show 1 - S 8 a0.toNat = 0 from by omega], by unfold eGlue; grind, by omega⟩)
      · refine v_const F (q := 52) dX5_glue_51 rfl ?_
        refine v_goto F (tgt := 56) dX5_glue_52 rfl ?_
        refine v_put F (C := RX1) (T := TX1) (N := 6) (ci := 1) (ty := .int) (15 + (a0.toNat)) 3 (cw k h (u2 S 8 (a0.toNat) 1) Z) hin1 tyX1 tyX1_ok nmX1 rfl (cw_cord (a0.toNat) (by omega)) (by decide) (by decide +kernel) rfl (by decide +kernel) rfl rfl (Nat.le_of_ble_eq_true rfl) (cw_cord3 (a0.toNat) (by omega) _) (q := 59) dX5_glue_56 rfl ?_
        refine v_aload_n F 0 (q := 60) dX5_glue_59 rfl rfl rfl ?_
        refine v_get F (C := RX1) (T := TX1) (N := 6) (ci := 1) (v := VI 1) (15 + (a0.toNat)) 3 hin1 rfl (cw_cord (a0.toNat) (by omega)) (by decide) (by decide +kernel) (by simp [cCord, cMast, u2, ur]) (q := 63) dX5_glue_60 rfl ?_
        refine v_const F (q := 64) dX5_glue_63 rfl ?_
        refine v_icmp_ne F (tgt := 71) (q := 67) (by omega) (by omega) dX5_glue_64 rfl rfl (fun h_8 => absurd h_8 (by omega)) (fun h_8 => ?_)
        refine v_const F (q := 68) dX5_glue_67 rfl ?_
        refine v_goto F (tgt := 72) dX5_glue_68 rfl ?_
        exact ret _ _ _ _ _ _ (Nat.zero_le _) (Nat.zero_le _) dX5_glue_72 (⟨by unfold sGlue; rw [show 1 - S 8 a0.toNat = 1 from by omega], by unfold eGlue; grind, by omega⟩)
    · exact thr E_S "the thread is broken" 69 196 73 _ _ _ 33 _ v_exS ⟨by decide +kernel, by decide +kernel, by decide +kernel⟩ (by decide +kernel) dX5_glue_33 dX5_glue_36 dX5_glue_37 dX5_glue_39 dX5_glue_42 (by decide) (by decide) (⟨rfl, Or.inr (⟨by unfold eGlue; grind, rfl⟩)⟩)
  · refine v_if_ne F (tgt := 18) (q := 8) R32_0 dX5_glue_5 rfl rfl (fun h_9 => absurd h_9 (by omega)) (fun h_9 => ?_)
    exact thr E_X "no such thread" 116 162 120 _ _ _ 8 _ v_exX ⟨by decide +kernel, by decide +kernel, by decide +kernel⟩ (by decide +kernel) dX5_glue_8 dX5_glue_11 dX5_glue_12 dX5_glue_14 dX5_glue_17 (by decide) (by decide) (⟨rfl, Or.inl ⟨by unfold eGlue; grind, rfl⟩⟩)
theorem hdX5_cross : yX5_cross.cls = RX5 ∧ yX5_cross.cls ≠ "java/lang/invoke/MethodHandle" ∧ yX5_cross.cls ≠ "java/lang/invoke/VarHandle" ∧ (parseMethodDescriptor yX5_cross.desc).map (fun d => d.parameters.length) = some 2 := by decide +kernel
set_option maxRecDepth 100000 in
set_option maxHeartbeats 4000000 in
theorem kX5_cross {l : Launch} (hst : l.stackTraces = false) {k : Nat → ClassId} {h : Nat → Nat} {S Z : Nat → Nat → Int} (hI : Inv S) {a0 a1 : Int} (g0 : R32 a0) (g1 : R32 a1) : v_Ct l k yX5_cross wsX5_cross ({ frames := 6, cells := 1, slots := 6, locals := 90 } : Room) [.ref (h 0), VI a0, VI a1] (cw k h S Z) (fun a u => u = cw k h S Z ∧ eCross S a0 a1 = 0 ∧ vB (crossB S a0.toNat a1.toNat = true) a) (fun E u => u = cw k h S Z ∧ ((eCross S a0 a1 = 1 ∧ E = E_X))) := by
  refine v_ofX (cc := cX5_cross) (nL := 3) rfl (by decide +kernel) rfl hst (Nat.le_of_ble_eq_true rfl) (fun _ _ hp => vB_n hp.2.2) (by decide) (by decide) (fun XX F ret thr => ?_)
  have hin5 : ∀ w ∈ wsX50, w ∈ wsX5_cross := by decide +kernel
  have b7 := hI.mc
  have b8 := hI.cc
  show V XX (cw k h S Z) 0 0 0 [(0, .ref (h 0)), (1, VI a0), (2, VI a1)] []
  refine v_aload_n F 0 (q := 1) dX5_cross_0 rfl rfl rfl ?_
  refine v_iload_n F 1 (q := 2) dX5_cross_1 rfl rfl rfl ?_
  refine v_callVi0 F (kX5_isThread hst (k := k) (h := h) (S := S) (Z := Z) hI (a0 := a0) (by omega)) gX5_cross_X5_isThread rfl hdX5_isThread ⟨by decide, by decide⟩ 0 cw_at0 rfl rfl rfl (Nat.le_of_ble_eq_true rfl) ⟨(Nat.zero_le _), (Nat.zero_le _)⟩ (q := 5) dX5_cross_2 rfl ?_
  rintro _ _ ⟨rfl, ⟨rfl, h_1⟩ | ⟨rfl, h_1⟩⟩
  · refine v_if_eq F (tgt := 16) (q := 8) (by omega) dX5_cross_5 rfl rfl (fun h_2 => absurd h_2 (by omega)) (fun h_2 => ?_)
    refine v_aload_n F 0 (q := 9) dX5_cross_8 rfl rfl rfl ?_
    refine v_iload_n F 2 (q := 10) dX5_cross_9 rfl rfl rfl ?_
    refine v_callVi0 F (kX5_isThread hst (k := k) (h := h) (S := S) (Z := Z) hI (a0 := a1) (by omega)) gX5_cross_X5_isThread rfl hdX5_isThread ⟨by decide, by decide⟩ 0 cw_at0 rfl rfl rfl (Nat.le_of_ble_eq_true rfl) ⟨(Nat.zero_le _), (Nat.zero_le _)⟩ (q := 13) dX5_cross_10 rfl ?_
    rintro _ _ ⟨rfl, ⟨rfl, h_3⟩ | ⟨rfl, h_3⟩⟩
    · refine v_if_ne F (tgt := 26) (q := 16) (by omega) dX5_cross_13 rfl rfl (fun h_4 => ?_) (fun h_4 => absurd h_4 (by omega))
      refine v_aload_n F 0 (q := 27) dX5_cross_26 rfl rfl rfl ?_
      refine v_get F (C := RX5) (T := TX5) (N := 14) (ci := 5) (v := .ref (h 4)) 0 3 hin5 rfl cw_at0 (by decide) (by decide +kernel) rfl (q := 30) dX5_cross_27 rfl ?_
      refine v_iload_n F 1 (q := 31) dX5_cross_30 rfl rfl rfl ?_
      refine v_aald F (j := a0.toNat) (b := h (15 + a0.toNat)) 4 2 rfl cw_at4 (by omega) (by omega) (by decide) rfl (q := 32) dX5_cross_31 rfl ?_
      refine v_aload_n F 0 (q := 33) dX5_cross_32 rfl rfl rfl ?_
      refine v_get F (C := RX5) (T := TX5) (N := 14) (ci := 5) (v := .ref (h 4)) 0 3 hin5 rfl cw_at0 (by decide) (by decide +kernel) rfl (q := 36) dX5_cross_33 rfl ?_
      refine v_iload_n F 2 (q := 37) dX5_cross_36 rfl rfl rfl ?_
      refine v_aald F (j := a1.toNat) (b := h (15 + a1.toNat)) 4 2 rfl cw_at4 (by omega) (by omega) (by decide) rfl (q := 38) dX5_cross_37 rfl ?_
      refine v_callVi0 F (kX1_crosses hst (k := k) (h := h) (S := S) (Z := Z) hI (a := (a0.toNat)) (b := (a1.toNat)) (by omega) (by omega)) gX5_cross_X1_crosses rfl hdX1_crosses ⟨by decide, by decide⟩ (15 + (a0.toNat)) (cw_cord (a0.toNat) (by omega)) rfl rfl rfl (Nat.le_of_ble_eq_true rfl) ⟨(Nat.zero_le _), (Nat.zero_le _)⟩ (q := 41) dX5_cross_38 rfl ?_
      rintro _ _ ⟨rfl, ⟨rfl, h_5⟩ | ⟨rfl, h_5⟩⟩
      · exact ret _ _ _ _ _ _ (Nat.zero_le _) (Nat.zero_le _) dX5_cross_41 (⟨rfl, by unfold eCross; grind, vB_1 (by assumption)⟩)
      · exact ret _ _ _ _ _ _ (Nat.zero_le _) (Nat.zero_le _) dX5_cross_41 (⟨rfl, by unfold eCross; grind, vB_0 (by assumption)⟩)
    · refine v_if_ne F (tgt := 26) (q := 16) R32_0 dX5_cross_13 rfl rfl (fun h_6 => absurd h_6 (by omega)) (fun h_6 => ?_)
      exact thr E_X "no such thread" 116 162 120 _ _ _ 16 _ v_exX ⟨by decide +kernel, by decide +kernel, by decide +kernel⟩ (by decide +kernel) dX5_cross_16 dX5_cross_19 dX5_cross_20 dX5_cross_22 dX5_cross_25 (by decide) (by decide) (⟨rfl, ⟨by unfold eCross; grind, rfl⟩⟩)
  · refine v_if_eq F (tgt := 16) (q := 8) R32_0 dX5_cross_5 rfl rfl (fun h_7 => ?_) (fun h_7 => absurd h_7 (by omega))
    exact thr E_X "no such thread" 116 162 120 _ _ _ 16 _ v_exX ⟨by decide +kernel, by decide +kernel, by decide +kernel⟩ (by decide +kernel) dX5_cross_16 dX5_cross_19 dX5_cross_20 dX5_cross_22 dX5_cross_25 (by decide) (by decide) (⟨rfl, ⟨by unfold eCross; grind, rfl⟩⟩)
theorem hdX5_mast : yX5_mast.cls = RX5 ∧ yX5_mast.cls ≠ "java/lang/invoke/MethodHandle" ∧ yX5_mast.cls ≠ "java/lang/invoke/VarHandle" ∧ (parseMethodDescriptor yX5_mast.desc).map (fun d => d.parameters.length) = some 2 := by decide +kernel
set_option maxRecDepth 100000 in
set_option maxHeartbeats 4000000 in
theorem kX5_mast {l : Launch} (hst : l.stackTraces = false) {k : Nat → ClassId} {h : Nat → Nat} {S Z : Nat → Nat → Int} (hI : Inv S) {a0 a1 : Int} (g0 : R32 a0) (g1 : R32 a1) : v_Ct l k yX5_mast wsX5_mast ({ frames := 6, cells := 1, slots := 6, locals := 90 } : Room) [.ref (h 0), VI a0, VI a1] (cw k h S Z) (fun a u => u = cw k h S Z ∧ eMast S a0 a1 = 0 ∧ a = mastV S a0.toNat a1) (fun E u => u = cw k h S Z ∧ ((eMast S a0 a1 = 1 ∧ E = E_X))) := by
  refine v_ofX (cc := cX5_mast) (nL := 3) rfl (by decide +kernel) rfl hst (Nat.le_of_ble_eq_true rfl) (fun _ _ _ => rfl) (by decide) (by decide) (fun XX F ret thr => ?_)
  have hin3 : ∀ w ∈ wsX30, w ∈ wsX5_mast := by decide +kernel
  have hin5 : ∀ w ∈ wsX50, w ∈ wsX5_mast := by decide +kernel
  have b7 := hI.mc
  have b8 := hI.cc
  show V XX (cw k h S Z) 0 0 0 [(0, .ref (h 0)), (1, VI a0), (2, VI a1)] []
  refine v_aload_n F 0 (q := 1) dX5_mast_0 rfl rfl rfl ?_
  refine v_iload_n F 1 (q := 2) dX5_mast_1 rfl rfl rfl ?_
  refine v_callVi0 F (kX5_isMast hst (k := k) (h := h) (S := S) (Z := Z) hI (a0 := a0) (by omega)) gX5_mast_X5_isMast rfl hdX5_isMast ⟨by decide, by decide⟩ 0 cw_at0 rfl rfl rfl (Nat.le_of_ble_eq_true rfl) ⟨(Nat.zero_le _), (Nat.zero_le _)⟩ (q := 5) dX5_mast_2 rfl ?_
  rintro _ _ ⟨rfl, ⟨rfl, h_1⟩ | ⟨rfl, h_1⟩⟩
  · refine v_if_ne F (tgt := 18) (q := 8) (by omega) dX5_mast_5 rfl rfl (fun h_2 => ?_) (fun h_2 => absurd h_2 (by omega))
    have hm9 : ((a0.toNat : Nat) : Int) = a0 := (by omega)
    refine v_iload_n F 2 (q := 19) dX5_mast_18 rfl rfl rfl ?_
    by_cases h_3 : a1 < 0 ∨ 7 < a1
    · refine v_tableOut F (tgt := 153) dX5_mast_19 (by omega) h_3 rfl ?_
      exact thr E_X "what is not 0 to 7" 116 214 120 _ _ _ 153 _ v_exX ⟨by decide +kernel, by decide +kernel, by decide +kernel⟩ (by decide +kernel) dX5_mast_153 dX5_mast_156 dX5_mast_157 dX5_mast_159 dX5_mast_162 (by decide) (by decide) (⟨rfl, ⟨by unfold eMast; grind, rfl⟩⟩)
    obtain h_3 | h_3 | h_3 | h_3 | h_3 | h_3 | h_3 | h_3 : a1 = 0 ∨ a1 = 1 ∨ a1 = 2 ∨ a1 = 3 ∨ a1 = 4 ∨ a1 = 5 ∨ a1 = 6 ∨ a1 = 7 := by omega
    · subst h_3
      refine v_tableIn F (tgt := 64) dX5_mast_19 (by decide) (by decide) (by decide) rfl rfl ?_
      refine v_aload_n F 0 (q := 65) dX5_mast_64 rfl rfl rfl ?_
      refine v_get F (C := RX5) (T := TX5) (N := 14) (ci := 5) (v := .ref (h 3)) 0 2 hin5 rfl cw_at0 (by decide) (by decide +kernel) rfl (q := 68) dX5_mast_65 rfl ?_
      refine v_iload_n F 1 (q := 69) dX5_mast_68 rfl rfl rfl ?_
      refine v_aald F (j := a0.toNat) (b := h (9 + a0.toNat)) 3 1 rfl cw_at3 (by omega) (by omega) (by decide) rfl (q := 70) dX5_mast_69 rfl ?_
      refine v_get F (C := RX3) (T := TX3) (N := 4) (ci := 3) (v := VI (S 1 (a0.toNat))) (9 + (a0.toNat)) 1 hin3 rfl (cw_mast (a0.toNat) (by omega)) (by decide) (by decide +kernel) rfl (q := 73) dX5_mast_70 rfl ?_
      have b_4 := And.intro (hI.pos 1 (a0.toNat) (by omega) (by omega)) (hI.1 1 (a0.toNat) (by omega)).2
      exact ret _ _ _ _ _ _ (Nat.zero_le _) (Nat.zero_le _) dX5_mast_73 (⟨rfl, by unfold eMast; grind, by simp [mastV, bI, hm9, *]⟩)
    · subst h_3
      refine v_tableIn F (tgt := 74) dX5_mast_19 (by decide) (by decide) (by decide) rfl rfl ?_
      refine v_aload_n F 0 (q := 75) dX5_mast_74 rfl rfl rfl ?_
      refine v_get F (C := RX5) (T := TX5) (N := 14) (ci := 5) (v := .ref (h 3)) 0 2 hin5 rfl cw_at0 (by decide) (by decide +kernel) rfl (q := 78) dX5_mast_75 rfl ?_
      refine v_iload_n F 1 (q := 79) dX5_mast_78 rfl rfl rfl ?_
      refine v_aald F (j := a0.toNat) (b := h (9 + a0.toNat)) 3 1 rfl cw_at3 (by omega) (by omega) (by decide) rfl (q := 80) dX5_mast_79 rfl ?_
      refine v_get F (C := RX3) (T := TX3) (N := 4) (ci := 3) (v := VI (S 2 (a0.toNat))) (9 + (a0.toNat)) 2 hin3 rfl (cw_mast (a0.toNat) (by omega)) (by decide) (by decide +kernel) rfl (q := 83) dX5_mast_80 rfl ?_
      have b_5 := hI.tall (a0.toNat)
      exact ret _ _ _ _ _ _ (Nat.zero_le _) (Nat.zero_le _) dX5_mast_83 (⟨rfl, by unfold eMast; grind, by simp [mastV, bI, hm9, *]⟩)
    · subst h_3
      refine v_tableIn F (tgt := 84) dX5_mast_19 (by decide) (by decide) (by decide) rfl rfl ?_
      refine v_aload_n F 0 (q := 85) dX5_mast_84 rfl rfl rfl ?_
      refine v_get F (C := RX5) (T := TX5) (N := 14) (ci := 5) (v := .ref (h 6)) 0 5 hin5 rfl cw_at0 (by decide) (by decide +kernel) rfl (q := 88) dX5_mast_85 rfl ?_
      refine v_iload_n F 1 (q := 89) dX5_mast_88 rfl rfl rfl ?_
      refine v_iald F (j := a0.toNat) 6 cw_at6 (by omega) (by omega) (by decide) (q := 90) dX5_mast_89 rfl ?_
      have b_6 := hI.lean (a0.toNat)
      exact ret _ _ _ _ _ _ (Nat.zero_le _) (Nat.zero_le _) dX5_mast_90 (⟨rfl, by unfold eMast; grind, by simp [mastV, bI, hm9, *]⟩)
    · subst h_3
      refine v_tableIn F (tgt := 91) dX5_mast_19 (by decide) (by decide) (by decide) rfl rfl ?_
      refine v_aload_n F 0 (q := 92) dX5_mast_91 rfl rfl rfl ?_
      refine v_get F (C := RX5) (T := TX5) (N := 14) (ci := 5) (v := .ref (h 3)) 0 2 hin5 rfl cw_at0 (by decide) (by decide +kernel) rfl (q := 95) dX5_mast_92 rfl ?_
      refine v_iload_n F 1 (q := 96) dX5_mast_95 rfl rfl rfl ?_
      refine v_aald F (j := a0.toNat) (b := h (9 + a0.toNat)) 3 1 rfl cw_at3 (by omega) (by omega) (by decide) rfl (q := 97) dX5_mast_96 rfl ?_
      refine v_aload_n F 0 (q := 98) dX5_mast_97 rfl rfl rfl ?_
      refine v_get F (C := RX5) (T := TX5) (N := 14) (ci := 5) (v := .ref (h 6)) 0 5 hin5 rfl cw_at0 (by decide) (by decide +kernel) rfl (q := 101) dX5_mast_98 rfl ?_
      refine v_iload_n F 1 (q := 102) dX5_mast_101 rfl rfl rfl ?_
      refine v_iald F (j := a0.toNat) 6 cw_at6 (by omega) (by omega) (by decide) (q := 103) dX5_mast_102 rfl ?_
      have b_7 := hI.lean (a0.toNat)
      refine v_callVi0 F (kX3_standing hst (k := k) (h := h) (S := S) (Z := Z) hI (m := (a0.toNat)) (by omega) (f := (S 4)) (by omega)) gX5_mast_X3_standing rfl hdX3_standing ⟨by decide, by decide⟩ (9 + (a0.toNat)) (cw_mast (a0.toNat) (by omega)) rfl rfl rfl (Nat.le_of_ble_eq_true rfl) ⟨(Nat.zero_le _), (Nat.zero_le _)⟩ (q := 106) dX5_mast_103 rfl ?_
      rintro a_8 _ ⟨rfl, ⟨h_8, hc_8⟩⟩
      exact ret _ _ _ _ _ _ (Nat.zero_le _) (Nat.zero_le _) dX5_mast_106 (⟨rfl, by unfold eMast; grind, by simp [mastV, bI, hm9, *]⟩)
    · subst h_3
      refine v_tableIn F (tgt := 107) dX5_mast_19 (by decide) (by decide) (by decide) rfl rfl ?_
      refine v_aload_n F 0 (q := 108) dX5_mast_107 rfl rfl rfl ?_
      refine v_get F (C := RX5) (T := TX5) (N := 14) (ci := 5) (v := .ref (h 3)) 0 2 hin5 rfl cw_at0 (by decide) (by decide +kernel) rfl (q := 111) dX5_mast_108 rfl ?_
      refine v_iload_n F 1 (q := 112) dX5_mast_111 rfl rfl rfl ?_
      refine v_aald F (j := a0.toNat) (b := h (9 + a0.toNat)) 3 1 rfl cw_at3 (by omega) (by omega) (by decide) rfl (q := 113) dX5_mast_112 rfl ?_
      refine v_aload_n F 0 (q := 114) dX5_mast_113 rfl rfl rfl ?_
      refine v_get F (C := RX5) (T := TX5) (N := 14) (ci := 5) (v := .ref (h 6)) 0 5 hin5 rfl cw_at0 (by decide) (by decide +kernel) rfl (q := 117) dX5_mast_114 rfl ?_
      refine v_iload_n F 1 (q := 118) dX5_mast_117 rfl rfl rfl ?_
      refine v_iald F (j := a0.toNat) 6 cw_at6 (by omega) (by omega) (by decide) (q := 119) dX5_mast_118 rfl ?_
      have b_9 := hI.lean (a0.toNat)
      refine v_callVi0 F (kX3_reach hst (k := k) (h := h) (S := S) (Z := Z) hI (m := (a0.toNat)) (by omega) (f := (S 4)) (by omega)) gX5_mast_X3_reach rfl hdX3_reach ⟨by decide, by decide⟩ (9 + (a0.toNat)) (cw_mast (a0.toNat) (by omega)) rfl rfl rfl (Nat.le_of_ble_eq_true rfl) ⟨(Nat.zero_le _), (Nat.zero_le _)⟩ (q := 122) dX5_mast_119 rfl ?_
      rintro a_10 _ ⟨rfl, ⟨h_10, hc_10⟩⟩
      exact ret _ _ _ _ _ _ (Nat.zero_le _) (Nat.zero_le _) dX5_mast_122 (⟨rfl, by unfold eMast; grind, by simp [mastV, bI, hm9, *]⟩)
    · subst h_3
      refine v_tableIn F (tgt := 123) dX5_mast_19 (by decide) (by decide) (by decide) rfl rfl ?_
      refine v_aload_n F 0 (q := 124) dX5_mast_123 rfl rfl rfl ?_
      refine v_get F (C := RX5) (T := TX5) (N := 14) (ci := 5) (v := .ref (h 3)) 0 2 hin5 rfl cw_at0 (by decide) (by decide +kernel) rfl (q := 127) dX5_mast_124 rfl ?_
      refine v_iload_n F 1 (q := 128) dX5_mast_127 rfl rfl rfl ?_
      refine v_aald F (j := a0.toNat) (b := h (9 + a0.toNat)) 3 1 rfl cw_at3 (by omega) (by omega) (by decide) rfl (q := 129) dX5_mast_128 rfl ?_
      refine v_get F (C := RX3) (T := TX3) (N := 4) (ci := 3) (v := VI (S 3 (a0.toNat))) (9 + (a0.toNat)) 3 hin3 rfl (cw_mast (a0.toNat) (by omega)) (by decide) (by decide +kernel) rfl (q := 132) dX5_mast_129 rfl ?_
      have b_11 := hI.yc (a0.toNat)
      exact ret _ _ _ _ _ _ (Nat.zero_le _) (Nat.zero_le _) dX5_mast_132 (⟨rfl, by unfold eMast; grind, by simp [mastV, bI, hm9, *]⟩)
    · subst h_3
      refine v_tableIn F (tgt := 133) dX5_mast_19 (by decide) (by decide) (by decide) rfl rfl ?_
      refine v_aload_n F 0 (q := 134) dX5_mast_133 rfl rfl rfl ?_
      refine v_iload_n F 1 (q := 135) dX5_mast_134 rfl rfl rfl ?_
      refine v_callVi0 F (kX5_isHeld hst (k := k) (h := h) (S := S) (Z := Z) hI (a0 := a0) (by omega)) gX5_mast_X5_isHeld rfl hdX5_isHeld ⟨by decide, by decide⟩ 0 cw_at0 rfl rfl rfl (Nat.le_of_ble_eq_true rfl) ⟨(Nat.zero_le _), (Nat.zero_le _)⟩ (q := 138) dX5_mast_135 rfl ?_
      rintro _ _ ⟨rfl, ⟨rfl, h_12⟩ | ⟨rfl, h_12⟩⟩
      · refine v_if_eq F (tgt := 145) (q := 141) (by omega) dX5_mast_138 rfl rfl (fun h_13 => absurd h_13 (by omega)) (fun h_13 => ?_)
        refine v_const F (q := 142) dX5_mast_141 rfl ?_
        refine v_goto F (tgt := 146) dX5_mast_142 rfl ?_
        exact ret _ _ _ _ _ _ (Nat.zero_le _) (Nat.zero_le _) dX5_mast_146 (⟨rfl, by unfold eMast; grind, by simp [mastV, bI, hm9, *]⟩)
      · refine v_if_eq F (tgt := 145) (q := 141) R32_0 dX5_mast_138 rfl rfl (fun h_14 => ?_) (fun h_14 => absurd h_14 (by omega))
        refine v_const F (q := 146) dX5_mast_145 rfl ?_
        exact ret _ _ _ _ _ _ (Nat.zero_le _) (Nat.zero_le _) dX5_mast_146 (⟨rfl, by unfold eMast; grind, by simp [mastV, bI, hm9, *]⟩)
    · subst h_3
      refine v_tableIn F (tgt := 147) dX5_mast_19 (by decide) (by decide) (by decide) rfl rfl ?_
      refine v_aload_n F 0 (q := 148) dX5_mast_147 rfl rfl rfl ?_
      refine v_iload_n F 1 (q := 149) dX5_mast_148 rfl rfl rfl ?_
      refine v_callVi0 F (kX5_looseThreadsFrom hst (k := k) (h := h) (S := S) (Z := Z) hI (a0 := a0) (by omega)) gX5_mast_X5_looseThreadsFrom rfl hdX5_looseThreadsFrom ⟨by decide, by decide⟩ 0 cw_at0 rfl rfl rfl (Nat.le_of_ble_eq_true rfl) ⟨(Nat.zero_le _), (Nat.zero_le _)⟩ (q := 152) dX5_mast_149 rfl ?_
      rintro a_15 _ ⟨rfl, ⟨h_15, hc_15⟩⟩
      exact ret _ _ _ _ _ _ (Nat.zero_le _) (Nat.zero_le _) dX5_mast_152 (⟨rfl, by unfold eMast; grind, by simp [mastV, bI, hm9, *]⟩)
  · refine v_if_ne F (tgt := 18) (q := 8) R32_0 dX5_mast_5 rfl rfl (fun h_16 => absurd h_16 (by omega)) (fun h_16 => ?_)
    exact thr E_X "no such mast" 116 118 120 _ _ _ 8 _ v_exX ⟨by decide +kernel, by decide +kernel, by decide +kernel⟩ (by decide +kernel) dX5_mast_8 dX5_mast_11 dX5_mast_12 dX5_mast_14 dX5_mast_17 (by decide) (by decide) (⟨rfl, ⟨by unfold eMast; grind, rfl⟩⟩)
theorem hdX5_thread : yX5_thread.cls = RX5 ∧ yX5_thread.cls ≠ "java/lang/invoke/MethodHandle" ∧ yX5_thread.cls ≠ "java/lang/invoke/VarHandle" ∧ (parseMethodDescriptor yX5_thread.desc).map (fun d => d.parameters.length) = some 2 := by decide +kernel
set_option maxRecDepth 100000 in
set_option maxHeartbeats 4000000 in
theorem kX5_thread {l : Launch} (hst : l.stackTraces = false) {k : Nat → ClassId} {h : Nat → Nat} {S Z : Nat → Nat → Int} (hI : Inv S) {a0 a1 : Int} (g0 : R32 a0) (g1 : R32 a1) : v_Ct l k yX5_thread wsX5_thread ({ frames := 6, cells := 1, slots := 6, locals := 90 } : Room) [.ref (h 0), VI a0, VI a1] (cw k h S Z) (fun a u => u = cw k h S Z ∧ eThr S a0 a1 = 0 ∧ a = thrV S a0.toNat a1) (fun E u => u = cw k h S Z ∧ ((eThr S a0 a1 = 1 ∧ E = E_X))) := by
  refine v_ofX (cc := cX5_thread) (nL := 4) rfl (by decide +kernel) rfl hst (Nat.le_of_ble_eq_true rfl) (fun _ _ _ => rfl) (by decide) (by decide) (fun XX F ret thr => ?_)
  have hin1 : ∀ w ∈ wsX10, w ∈ wsX5_thread := by decide +kernel
  have hin5 : ∀ w ∈ wsX50, w ∈ wsX5_thread := by decide +kernel
  have b7 := hI.mc
  have b8 := hI.cc
  show V XX (cw k h S Z) 0 0 0 [(0, .ref (h 0)), (1, VI a0), (2, VI a1)] []
  refine v_aload_n F 0 (q := 1) dX5_thread_0 rfl rfl rfl ?_
  refine v_iload_n F 1 (q := 2) dX5_thread_1 rfl rfl rfl ?_
  refine v_callVi0 F (kX5_isThread hst (k := k) (h := h) (S := S) (Z := Z) hI (a0 := a0) (by omega)) gX5_thread_X5_isThread rfl hdX5_isThread ⟨by decide, by decide⟩ 0 cw_at0 rfl rfl rfl (Nat.le_of_ble_eq_true rfl) ⟨(Nat.zero_le _), (Nat.zero_le _)⟩ (q := 5) dX5_thread_2 rfl ?_
  rintro _ _ ⟨rfl, ⟨rfl, h_1⟩ | ⟨rfl, h_1⟩⟩
  · refine v_if_ne F (tgt := 18) (q := 8) (by omega) dX5_thread_5 rfl rfl (fun h_2 => ?_) (fun h_2 => absurd h_2 (by omega))
    refine v_aload_n F 0 (q := 19) dX5_thread_18 rfl rfl rfl ?_
    refine v_get F (C := RX5) (T := TX5) (N := 14) (ci := 5) (v := .ref (h 4)) 0 3 hin5 rfl cw_at0 (by decide) (by decide +kernel) rfl (q := 22) dX5_thread_19 rfl ?_
    refine v_iload_n F 1 (q := 23) dX5_thread_22 rfl rfl rfl ?_
    refine v_aald F (j := a0.toNat) (b := h (15 + a0.toNat)) 4 2 rfl cw_at4 (by omega) (by omega) (by decide) rfl (q := 24) dX5_thread_23 rfl ?_
    refine v_astore_n F (q := 25) [(3, .ref (h (15 + (a0.toNat)))), (0, .ref (h 0)), (1, VI a0), (2, VI a1)] dX5_thread_24 rfl (by decide) rfl rfl ?_
    refine v_iload_n F 3 (q := 26) dX5_thread_25 rfl rfl rfl ?_
    by_cases h_3 : a1 < 0 ∨ 4 < a1
    · refine v_tableOut F (tgt := 86) dX5_thread_26 (by omega) h_3 rfl ?_
      exact thr E_X "what is not 0 to 4" 116 219 120 _ _ _ 86 _ v_exX ⟨by decide +kernel, by decide +kernel, by decide +kernel⟩ (by decide +kernel) dX5_thread_86 dX5_thread_89 dX5_thread_90 dX5_thread_92 dX5_thread_95 (by decide) (by decide) (⟨rfl, ⟨by unfold eThr; grind, rfl⟩⟩)
    obtain h_3 | h_3 | h_3 | h_3 | h_3 : a1 = 0 ∨ a1 = 1 ∨ a1 = 2 ∨ a1 = 3 ∨ a1 = 4 := by omega
    · subst h_3
      refine v_tableIn F (tgt := 60) dX5_thread_26 (by decide) (by decide) (by decide) rfl rfl ?_
      refine v_aload_n F 0 (q := 61) dX5_thread_60 rfl rfl rfl ?_
      refine v_get F (C := RX1) (T := TX1) (N := 6) (ci := 1) (v := VI (S 5 (a0.toNat))) (15 + (a0.toNat)) 0 hin1 rfl (cw_cord (a0.toNat) (by omega)) (by decide) (by decide +kernel) rfl (q := 64) dX5_thread_61 rfl ?_
      have b_4 := hI.th (a0.toNat)
      exact ret _ _ _ _ _ _ (Nat.zero_le _) (Nat.zero_le _) dX5_thread_64 (⟨rfl, by unfold eThr; grind, by simp [thrV, *]⟩)
    · subst h_3
      refine v_tableIn F (tgt := 65) dX5_thread_26 (by decide) (by decide) (by decide) rfl rfl ?_
      refine v_aload_n F 0 (q := 66) dX5_thread_65 rfl rfl rfl ?_
      refine v_get F (C := RX1) (T := TX1) (N := 6) (ci := 1) (v := VI (S 6 (a0.toNat))) (15 + (a0.toNat)) 1 hin1 rfl (cw_cord (a0.toNat) (by omega)) (by decide) (by decide +kernel) rfl (q := 69) dX5_thread_66 rfl ?_
      have b_5 := hI.1 6 (a0.toNat) (by omega)
      exact ret _ _ _ _ _ _ (Nat.zero_le _) (Nat.zero_le _) dX5_thread_69 (⟨rfl, by unfold eThr; grind, by simp [thrV, *]⟩)
    · subst h_3
      refine v_tableIn F (tgt := 70) dX5_thread_26 (by decide) (by decide) (by decide) rfl rfl ?_
      refine v_aload_n F 0 (q := 71) dX5_thread_70 rfl rfl rfl ?_
      refine v_get F (C := RX1) (T := TX1) (N := 6) (ci := 1) (v := VI (S 7 (a0.toNat))) (15 + (a0.toNat)) 2 hin1 rfl (cw_cord (a0.toNat) (by omega)) (by decide) (by decide +kernel) rfl (q := 74) dX5_thread_71 rfl ?_
      have b_6 := And.intro (hI.pos 7 (a0.toNat) (by omega) (by omega)) (hI.1 7 (a0.toNat) (by omega)).2
      exact ret _ _ _ _ _ _ (Nat.zero_le _) (Nat.zero_le _) dX5_thread_74 (⟨rfl, by unfold eThr; grind, by simp [thrV, *]⟩)
    · subst h_3
      refine v_tableIn F (tgt := 75) dX5_thread_26 (by decide) (by decide) (by decide) rfl rfl ?_
      refine v_aload_n F 0 (q := 76) dX5_thread_75 rfl rfl rfl ?_
      refine v_get F (C := RX1) (T := TX1) (N := 6) (ci := 1) (v := VI (S 8 (a0.toNat))) (15 + (a0.toNat)) 3 hin1 rfl (cw_cord (a0.toNat) (by omega)) (by decide) (by decide +kernel) rfl (q := 79) dX5_thread_76 rfl ?_
      have b_7 := hI.st (a0.toNat)
      exact ret _ _ _ _ _ _ (Nat.zero_le _) (Nat.zero_le _) dX5_thread_79 (⟨rfl, by unfold eThr; grind, by simp [thrV, *]⟩)
    · subst h_3
      refine v_tableIn F (tgt := 80) dX5_thread_26 (by decide) (by decide) (by decide) rfl rfl ?_
      refine v_aload_n F 1 (q := 81) dX5_thread_80 rfl rfl rfl ?_
      refine v_aload_n F 0 (q := 82) dX5_thread_81 rfl rfl rfl ?_
      refine v_callVi0 F (kX5_crossingsOf hst (k := k) (h := h) (S := S) (Z := Z) hI (t := (a0.toNat)) (by omega)) gX5_thread_X5_crossingsOf rfl hdX5_crossingsOf ⟨by decide, by decide⟩ 0 cw_at0 rfl rfl rfl (Nat.le_of_ble_eq_true rfl) ⟨(Nat.zero_le _), (Nat.zero_le _)⟩ (q := 85) dX5_thread_82 rfl ?_
      rintro a_8 _ ⟨rfl, h_8⟩
      have hc_8 := cnt_nn (crossB S (a0.toNat)) (tcn S)
      unfold tcn at hc_8
      exact ret _ _ _ _ _ _ (Nat.zero_le _) (Nat.zero_le _) dX5_thread_85 (⟨rfl, by unfold eThr; grind, by simp [thrV, *]⟩)
  · refine v_if_ne F (tgt := 18) (q := 8) R32_0 dX5_thread_5 rfl rfl (fun h_9 => absurd h_9 (by omega)) (fun h_9 => ?_)
    exact thr E_X "no such thread" 116 162 120 _ _ _ 8 _ v_exX ⟨by decide +kernel, by decide +kernel, by decide +kernel⟩ (by decide +kernel) dX5_thread_8 dX5_thread_11 dX5_thread_12 dX5_thread_14 dX5_thread_17 (by decide) (by decide) (⟨rfl, ⟨by unfold eThr; grind, rfl⟩⟩)
theorem hdX5_ship : yX5_ship.cls = RX5 ∧ yX5_ship.cls ≠ "java/lang/invoke/MethodHandle" ∧ yX5_ship.cls ≠ "java/lang/invoke/VarHandle" ∧ (parseMethodDescriptor yX5_ship.desc).map (fun d => d.parameters.length) = some 1 := by decide +kernel
set_option maxRecDepth 100000 in
set_option maxHeartbeats 4000000 in
theorem kX5_ship {l : Launch} (hst : l.stackTraces = false) {k : Nat → ClassId} {h : Nat → Nat} {S Z : Nat → Nat → Int} (hI : Inv S) {a0 : Int} (g0 : R32 a0) : v_Ct l k yX5_ship wsX5_ship ({ frames := 6, cells := 1, slots := 6, locals := 90 } : Room) [.ref (h 0), VI a0] (cw k h S Z) (fun a u => u = cw k h S Z ∧ eShip a0 = 0 ∧ a = shipV S a0) (fun E u => u = cw k h S Z ∧ ((eShip a0 = 1 ∧ E = E_X))) := by
  refine v_ofX (cc := cX5_ship) (nL := 2) rfl (by decide +kernel) rfl hst (Nat.le_of_ble_eq_true rfl) (fun _ _ _ => rfl) (by decide) (by decide) (fun XX F ret thr => ?_)
  have hin5 : ∀ w ∈ wsX50, w ∈ wsX5_ship := by decide +kernel
  have b7 := hI.mc
  have b8 := hI.cc
  show V XX (cw k h S Z) 0 0 0 [(0, .ref (h 0)), (1, VI a0)] []
  refine v_iload_n F 1 (q := 1) dX5_ship_0 rfl rfl rfl ?_
  by_cases h_1 : a0 < 0 ∨ 5 < a0
  · refine v_tableOut F (tgt := 106) dX5_ship_1 (by omega) h_1 rfl ?_
    exact thr E_X "what is not 0 to 5" 116 232 120 _ _ _ 106 _ v_exX ⟨by decide +kernel, by decide +kernel, by decide +kernel⟩ (by decide +kernel) dX5_ship_106 dX5_ship_109 dX5_ship_110 dX5_ship_112 dX5_ship_115 (by decide) (by decide) (⟨rfl, ⟨by unfold eShip; grind, rfl⟩⟩)
  obtain h_1 | h_1 | h_1 | h_1 | h_1 | h_1 : a0 = 0 ∨ a0 = 1 ∨ a0 = 2 ∨ a0 = 3 ∨ a0 = 4 ∨ a0 = 5 := by omega
  · subst h_1
    refine v_tableIn F (tgt := 40) dX5_ship_1 (by decide) (by decide) (by decide) rfl rfl ?_
    refine v_aload_n F 0 (q := 41) dX5_ship_40 rfl rfl rfl ?_
    refine v_callVi0 F (kX5_breadth hst (k := k) (h := h) (S := S) (Z := Z) hI) gX5_ship_X5_breadth rfl hdX5_breadth ⟨by decide, by decide⟩ 0 cw_at0 rfl rfl rfl (Nat.le_of_ble_eq_true rfl) ⟨(Nat.zero_le _), (Nat.zero_le _)⟩ (q := 44) dX5_ship_41 rfl ?_
    rintro a_2 _ ⟨rfl, ⟨h_2, hc_2⟩⟩
    exact ret _ _ _ _ _ _ (Nat.zero_le _) (Nat.zero_le _) dX5_ship_44 (⟨rfl, by unfold eShip; grind, by simp [shipV, bI, *]; try omega⟩)
  · subst h_1
    refine v_tableIn F (tgt := 45) dX5_ship_1 (by decide) (by decide) (by decide) rfl rfl ?_
    refine v_aload_n F 0 (q := 46) dX5_ship_45 rfl rfl rfl ?_
    refine v_aload_n F 0 (q := 47) dX5_ship_46 rfl rfl rfl ?_
    refine v_get F (C := RX5) (T := TX5) (N := 14) (ci := 5) (v := .ref (h 6)) 0 5 hin5 rfl cw_at0 (by decide) (by decide +kernel) rfl (q := 50) dX5_ship_47 rfl ?_
    refine v_callVi0 F (kX5_topWith hst (k := k) (h := h) (S := S) (Z := Z) hI (rq := 6) (ra := h 6) (f := S 4) cw_at6 hI.lean3) gX5_ship_X5_topWith rfl hdX5_topWith ⟨by decide, by decide⟩ 0 cw_at0 rfl rfl rfl (Nat.le_of_ble_eq_true rfl) ⟨(Nat.zero_le _), (Nat.zero_le _)⟩ (q := 53) dX5_ship_50 rfl ?_
    rintro a_3 _ ⟨rfl, ⟨h_3, hc_3⟩⟩
    exact ret _ _ _ _ _ _ (Nat.zero_le _) (Nat.zero_le _) dX5_ship_53 (⟨rfl, by unfold eShip; grind, by simp [shipV, bI, *]; try omega⟩)
  · subst h_1
    refine v_tableIn F (tgt := 54) dX5_ship_1 (by decide) (by decide) (by decide) rfl rfl ?_
    refine v_aload_n F 0 (q := 55) dX5_ship_54 rfl rfl rfl ?_
    refine v_aload_n F 0 (q := 56) dX5_ship_55 rfl rfl rfl ?_
    refine v_get F (C := RX5) (T := TX5) (N := 14) (ci := 5) (v := .ref (h 6)) 0 5 hin5 rfl cw_at0 (by decide) (by decide +kernel) rfl (q := 59) dX5_ship_56 rfl ?_
    refine v_callVi0 F (kX5_endWith hst (k := k) (h := h) (S := S) (Z := Z) hI (rq := 6) (ra := h 6) (f := S 4) cw_at6 hI.lean3) gX5_ship_X5_endWith rfl hdX5_endWith ⟨by decide, by decide⟩ 0 cw_at0 rfl rfl rfl (Nat.le_of_ble_eq_true rfl) ⟨(Nat.zero_le _), (Nat.zero_le _)⟩ (q := 62) dX5_ship_59 rfl ?_
    rintro a_4 _ ⟨rfl, ⟨h_4, hc_4⟩⟩
    exact ret _ _ _ _ _ _ (Nat.zero_le _) (Nat.zero_le _) dX5_ship_62 (⟨rfl, by unfold eShip; grind, by simp [shipV, bI, *]; try omega⟩)
  · subst h_1
    refine v_tableIn F (tgt := 63) dX5_ship_1 (by decide) (by decide) (by decide) rfl rfl ?_
    refine v_aload_n F 0 (q := 64) dX5_ship_63 rfl rfl rfl ?_
    refine v_callVi0 F (kX5_goesThroughNeck hst (k := k) (h := h) (S := S) (Z := Z) hI) gX5_ship_X5_goesThroughNeck rfl hdX5_goesThroughNeck ⟨by decide, by decide⟩ 0 cw_at0 rfl rfl rfl (Nat.le_of_ble_eq_true rfl) ⟨(Nat.zero_le _), (Nat.zero_le _)⟩ (q := 67) dX5_ship_64 rfl ?_
    rintro _ _ ⟨rfl, ⟨rfl, h_5⟩ | ⟨rfl, h_5⟩⟩
    · refine v_if_eq F (tgt := 74) (q := 70) (by omega) dX5_ship_67 rfl rfl (fun h_6 => absurd h_6 (by omega)) (fun h_6 => ?_)
      refine v_const F (q := 71) dX5_ship_70 rfl ?_
      refine v_goto F (tgt := 75) dX5_ship_71 rfl ?_
      exact ret _ _ _ _ _ _ (Nat.zero_le _) (Nat.zero_le _) dX5_ship_75 (⟨rfl, by unfold eShip; grind, by simp [shipV, bI, *]; try omega⟩)
    · refine v_if_eq F (tgt := 74) (q := 70) R32_0 dX5_ship_67 rfl rfl (fun h_7 => ?_) (fun h_7 => absurd h_7 (by omega))
      refine v_const F (q := 75) dX5_ship_74 rfl ?_
      exact ret _ _ _ _ _ _ (Nat.zero_le _) (Nat.zero_le _) dX5_ship_75 (⟨rfl, by unfold eShip; grind, by simp [shipV, bI, *]; try omega⟩)
  · subst h_1
    refine v_tableIn F (tgt := 76) dX5_ship_1 (by decide) (by decide) (by decide) rfl rfl ?_
    refine v_aload_n F 0 (q := 77) dX5_ship_76 rfl rfl rfl ?_
    refine v_aload_n F 0 (q := 78) dX5_ship_77 rfl rfl rfl ?_
    refine v_get F (C := RX5) (T := TX5) (N := 14) (ci := 5) (v := .ref (h 6)) 0 5 hin5 rfl cw_at0 (by decide) (by decide +kernel) rfl (q := 81) dX5_ship_78 rfl ?_
    refine v_callVi0 F (kX5_fitsWith hst (k := k) (h := h) (S := S) (Z := Z) hI (rq := 6) (ra := h 6) (f := S 4) cw_at6 hI.lean3) gX5_ship_X5_fitsWith rfl hdX5_fitsWith ⟨by decide, by decide⟩ 0 cw_at0 rfl rfl rfl (Nat.le_of_ble_eq_true rfl) ⟨(Nat.zero_le _), (Nat.zero_le _)⟩ (q := 84) dX5_ship_81 rfl ?_
    rintro _ _ ⟨rfl, ⟨rfl, h_8⟩ | ⟨rfl, h_8⟩⟩
    · refine v_if_eq F (tgt := 91) (q := 87) (by omega) dX5_ship_84 rfl rfl (fun h_9 => absurd h_9 (by omega)) (fun h_9 => ?_)
      refine v_const F (q := 88) dX5_ship_87 rfl ?_
      refine v_goto F (tgt := 92) dX5_ship_88 rfl ?_
      exact ret _ _ _ _ _ _ (Nat.zero_le _) (Nat.zero_le _) dX5_ship_92 (⟨rfl, by unfold eShip; grind, by simp [shipV, bI, *]; try omega⟩)
    · refine v_if_eq F (tgt := 91) (q := 87) R32_0 dX5_ship_84 rfl rfl (fun h_10 => ?_) (fun h_10 => absurd h_10 (by omega))
      refine v_const F (q := 92) dX5_ship_91 rfl ?_
      exact ret _ _ _ _ _ _ (Nat.zero_le _) (Nat.zero_le _) dX5_ship_92 (⟨rfl, by unfold eShip; grind, by simp [shipV, bI, *]; try omega⟩)
  · subst h_1
    refine v_tableIn F (tgt := 93) dX5_ship_1 (by decide) (by decide) (by decide) rfl rfl ?_
    refine v_aload_n F 0 (q := 94) dX5_ship_93 rfl rfl rfl ?_
    refine v_get F (C := RX5) (T := TX5) (N := 14) (ci := 5) (v := VI (S 0 9)) 0 10 hin5 rfl cw_at0 (by decide) (by decide +kernel) rfl (q := 97) dX5_ship_94 rfl ?_
    have b_11 := hI.isin
    refine v_if_eq F (tgt := 104) (q := 100) (by omega) dX5_ship_97 rfl rfl (fun h_12 => ?_) (fun h_12 => ?_)
    · refine v_const F (q := 105) dX5_ship_104 rfl ?_
      exact ret _ _ _ _ _ _ (Nat.zero_le _) (Nat.zero_le _) dX5_ship_105 (⟨rfl, by unfold eShip; grind, by simp [shipV, bI, *]; try omega⟩)
    · refine v_const F (q := 101) dX5_ship_100 rfl ?_
      refine v_goto F (tgt := 105) dX5_ship_101 rfl ?_
      exact ret _ _ _ _ _ _ (Nat.zero_le _) (Nat.zero_le _) dX5_ship_105 (⟨rfl, by unfold eShip; grind, by simp [shipV, bI, *]; try omega⟩)
theorem hdX5_count : yX5_count.cls = RX5 ∧ yX5_count.cls ≠ "java/lang/invoke/MethodHandle" ∧ yX5_count.cls ≠ "java/lang/invoke/VarHandle" ∧ (parseMethodDescriptor yX5_count.desc).map (fun d => d.parameters.length) = some 1 := by decide +kernel
set_option maxRecDepth 100000 in
set_option maxHeartbeats 4000000 in
theorem kX5_count {l : Launch} (hst : l.stackTraces = false) {k : Nat → ClassId} {h : Nat → Nat} {S Z : Nat → Nat → Int} (hI : Inv S) {a0 : Int} (g0 : R32 a0) : v_Ct l k yX5_count wsX5_count ({ frames := 6, cells := 1, slots := 6, locals := 90 } : Room) [.ref (h 0), VI a0] (cw k h S Z) (fun a u => u = cw k h S Z ∧ eCnt a0 = 0 ∧ a = cntV S a0) (fun E u => u = cw k h S Z ∧ ((eCnt a0 = 1 ∧ E = E_X))) := by
  refine v_ofX (cc := cX5_count) (nL := 2) rfl (by decide +kernel) rfl hst (Nat.le_of_ble_eq_true rfl) (fun _ _ _ => rfl) (by decide) (by decide) (fun XX F ret thr => ?_)
  have hin5 : ∀ w ∈ wsX50, w ∈ wsX5_count := by decide +kernel
  have b7 := hI.mc
  have b8 := hI.cc
  show V XX (cw k h S Z) 0 0 0 [(0, .ref (h 0)), (1, VI a0)] []
  refine v_iload_n F 1 (q := 1) dX5_count_0 rfl rfl rfl ?_
  by_cases h_1 : a0 < 0 ∨ 7 < a0
  · refine v_tableOut F (tgt := 91) dX5_count_1 (by omega) h_1 rfl ?_
    exact thr E_X "what is not 0 to 7" 116 214 120 _ _ _ 91 _ v_exX ⟨by decide +kernel, by decide +kernel, by decide +kernel⟩ (by decide +kernel) dX5_count_91 dX5_count_94 dX5_count_95 dX5_count_97 dX5_count_100 (by decide) (by decide) (⟨rfl, ⟨by unfold eCnt; grind, rfl⟩⟩)
  obtain h_1 | h_1 | h_1 | h_1 | h_1 | h_1 | h_1 | h_1 : a0 = 0 ∨ a0 = 1 ∨ a0 = 2 ∨ a0 = 3 ∨ a0 = 4 ∨ a0 = 5 ∨ a0 = 6 ∨ a0 = 7 := by omega
  · subst h_1
    refine v_tableIn F (tgt := 48) dX5_count_1 (by decide) (by decide) (by decide) rfl rfl ?_
    refine v_aload_n F 0 (q := 49) dX5_count_48 rfl rfl rfl ?_
    refine v_get F (C := RX5) (T := TX5) (N := 14) (ci := 5) (v := VI (S 0 10)) 0 11 hin5 rfl cw_at0 (by decide) (by decide +kernel) rfl (q := 52) dX5_count_49 rfl ?_
    exact ret _ _ _ _ _ _ (Nat.zero_le _) (Nat.zero_le _) dX5_count_52 (⟨rfl, by unfold eCnt; grind, by simp [cntV, *]⟩)
  · subst h_1
    refine v_tableIn F (tgt := 53) dX5_count_1 (by decide) (by decide) (by decide) rfl rfl ?_
    refine v_aload_n F 0 (q := 54) dX5_count_53 rfl rfl rfl ?_
    refine v_get F (C := RX5) (T := TX5) (N := 14) (ci := 5) (v := VI (S 0 7)) 0 8 hin5 rfl cw_at0 (by decide) (by decide +kernel) rfl (q := 57) dX5_count_54 rfl ?_
    have b_2 := And.intro (hI.sc 7 (by decide)) (hI.1 0 7 (by omega)).2
    exact ret _ _ _ _ _ _ (Nat.zero_le _) (Nat.zero_le _) dX5_count_57 (⟨rfl, by unfold eCnt; grind, by simp [cntV, *]⟩)
  · subst h_1
    refine v_tableIn F (tgt := 58) dX5_count_1 (by decide) (by decide) (by decide) rfl rfl ?_
    refine v_aload_n F 0 (q := 59) dX5_count_58 rfl rfl rfl ?_
    refine v_const F (q := 60) dX5_count_59 rfl ?_
    refine v_callVi0 F (kX5_mastsLeaning hst (k := k) (h := h) (S := S) (Z := Z) hI (a0 := 0) (by omega)) gX5_count_X5_mastsLeaning rfl hdX5_mastsLeaning ⟨by decide, by decide⟩ 0 cw_at0 rfl rfl rfl (Nat.le_of_ble_eq_true rfl) ⟨(Nat.zero_le _), (Nat.zero_le _)⟩ (q := 63) dX5_count_60 rfl ?_
    rintro a_3 _ ⟨rfl, h_3⟩
    have hc_3 := cnt_nn (fun m => decide (S 4 m = 0)) (mcn S)
    unfold mcn at hc_3
    exact ret _ _ _ _ _ _ (Nat.zero_le _) (Nat.zero_le _) dX5_count_63 (⟨rfl, by unfold eCnt; grind, by simp [cntV, *]⟩)
  · subst h_1
    refine v_tableIn F (tgt := 64) dX5_count_1 (by decide) (by decide) (by decide) rfl rfl ?_
    refine v_aload_n F 0 (q := 65) dX5_count_64 rfl rfl rfl ?_
    refine v_get F (C := RX5) (T := TX5) (N := 14) (ci := 5) (v := VI (S 0 8)) 0 9 hin5 rfl cw_at0 (by decide) (by decide +kernel) rfl (q := 68) dX5_count_65 rfl ?_
    have b_4 := And.intro (hI.sc 8 (by decide)) (hI.1 0 8 (by omega)).2
    exact ret _ _ _ _ _ _ (Nat.zero_le _) (Nat.zero_le _) dX5_count_68 (⟨rfl, by unfold eCnt; grind, by simp [cntV, *]⟩)
  · subst h_1
    refine v_tableIn F (tgt := 69) dX5_count_1 (by decide) (by decide) (by decide) rfl rfl ?_
    refine v_aload_n F 0 (q := 70) dX5_count_69 rfl rfl rfl ?_
    refine v_const F (q := 71) dX5_count_70 rfl ?_
    refine v_callVi0 F (kX5_threadsThatAre hst (k := k) (h := h) (S := S) (Z := Z) hI (a0 := 0) (by omega)) gX5_count_X5_threadsThatAre rfl hdX5_threadsThatAre ⟨by decide, by decide⟩ 0 cw_at0 rfl rfl rfl (Nat.le_of_ble_eq_true rfl) ⟨(Nat.zero_le _), (Nat.zero_le _)⟩ (q := 74) dX5_count_71 rfl ?_
    rintro a_5 _ ⟨rfl, h_5⟩
    have hc_5 := cnt_nn (fun t => decide (S 8 t = 0)) (tcn S)
    unfold tcn at hc_5
    exact ret _ _ _ _ _ _ (Nat.zero_le _) (Nat.zero_le _) dX5_count_74 (⟨rfl, by unfold eCnt; grind, by simp [cntV, *]⟩)
  · subst h_1
    refine v_tableIn F (tgt := 75) dX5_count_1 (by decide) (by decide) (by decide) rfl rfl ?_
    refine v_aload_n F 0 (q := 76) dX5_count_75 rfl rfl rfl ?_
    refine v_const F (q := 77) dX5_count_76 rfl ?_
    refine v_callVi0 F (kX5_threadsThatAre hst (k := k) (h := h) (S := S) (Z := Z) hI (a0 := 2) (by omega)) gX5_count_X5_threadsThatAre rfl hdX5_threadsThatAre ⟨by decide, by decide⟩ 0 cw_at0 rfl rfl rfl (Nat.le_of_ble_eq_true rfl) ⟨(Nat.zero_le _), (Nat.zero_le _)⟩ (q := 80) dX5_count_77 rfl ?_
    rintro a_6 _ ⟨rfl, h_6⟩
    have hc_6 := cnt_nn (fun t => decide (S 8 t = 2)) (tcn S)
    unfold tcn at hc_6
    exact ret _ _ _ _ _ _ (Nat.zero_le _) (Nat.zero_le _) dX5_count_80 (⟨rfl, by unfold eCnt; grind, by simp [cntV, *]⟩)
  · subst h_1
    refine v_tableIn F (tgt := 81) dX5_count_1 (by decide) (by decide) (by decide) rfl rfl ?_
    refine v_aload_n F 0 (q := 82) dX5_count_81 rfl rfl rfl ?_
    refine v_get F (C := RX5) (T := TX5) (N := 14) (ci := 5) (v := VI (S 0 11)) 0 12 hin5 rfl cw_at0 (by decide) (by decide +kernel) rfl (q := 85) dX5_count_82 rfl ?_
    exact ret _ _ _ _ _ _ (Nat.zero_le _) (Nat.zero_le _) dX5_count_85 (⟨rfl, by unfold eCnt; grind, by simp [cntV, *]⟩)
  · subst h_1
    refine v_tableIn F (tgt := 86) dX5_count_1 (by decide) (by decide) (by decide) rfl rfl ?_
    refine v_aload_n F 0 (q := 87) dX5_count_86 rfl rfl rfl ?_
    refine v_get F (C := RX5) (T := TX5) (N := 14) (ci := 5) (v := VI (S 0 12)) 0 13 hin5 rfl cw_at0 (by decide) (by decide +kernel) rfl (q := 90) dX5_count_87 rfl ?_
    exact ret _ _ _ _ _ _ (Nat.zero_le _) (Nat.zero_le _) dX5_count_90 (⟨rfl, by unfold eCnt; grind, by simp [cntV, *]⟩)
theorem hdX5_pull : yX5_pull.cls = RX5 ∧ yX5_pull.cls ≠ "java/lang/invoke/MethodHandle" ∧ yX5_pull.cls ≠ "java/lang/invoke/VarHandle" ∧ (parseMethodDescriptor yX5_pull.desc).map (fun d => d.parameters.length) = some 1 := by decide +kernel
set_option maxRecDepth 100000 in
set_option maxHeartbeats 4000000 in
theorem kX5_pull {l : Launch} (hst : l.stackTraces = false) {k : Nat → ClassId} {h : Nat → Nat} {S Z : Nat → Nat → Int} (hI : Inv S) {a0 : Int} (g0 : R32 a0) : v_Ct l k yX5_pull wsX5_pull ({ frames := 6, cells := 1, slots := 6, locals := 90 } : Room) [.ref (h 0), VI a0] (cw k h S Z) (fun a u => ∃ Z9, u = cw k h (sPull S a0.toNat) Z9 ∧ ePull S a0 = 0 ∧ a = rPull S a0.toNat) (fun E u => u = cw k h S Z ∧ ((ePull S a0 = 1 ∧ E = E_X) ∨ (ePull S a0 = 2 ∧ E = E_S))) := by
  refine v_ofX (cc := cX5_pull) (nL := 4) rfl (by decide +kernel) rfl hst (Nat.le_of_ble_eq_true rfl) (fun _ _ _ => rfl) (by decide) (by decide) (fun XX F ret thr => ?_)
  have hin1 : ∀ w ∈ wsX10, w ∈ wsX5_pull := by decide +kernel
  have hin5 : ∀ w ∈ wsX50, w ∈ wsX5_pull := by decide +kernel
  have b7 := hI.mc
  have b8 := hI.cc
  show V XX (cw k h S Z) 0 0 0 [(0, .ref (h 0)), (1, VI a0)] []
  refine v_aload_n F 0 (q := 1) dX5_pull_0 rfl rfl rfl ?_
  refine v_iload_n F 1 (q := 2) dX5_pull_1 rfl rfl rfl ?_
  refine v_callVi0 F (kX5_isThread hst (k := k) (h := h) (S := S) (Z := Z) hI (a0 := a0) (by omega)) gX5_pull_X5_isThread rfl hdX5_isThread ⟨by decide, by decide⟩ 0 cw_at0 rfl rfl rfl (Nat.le_of_ble_eq_true rfl) ⟨(Nat.zero_le _), (Nat.zero_le _)⟩ (q := 5) dX5_pull_2 rfl ?_
  rintro _ _ ⟨rfl, ⟨rfl, h_1⟩ | ⟨rfl, h_1⟩⟩
  · refine v_if_ne F (tgt := 18) (q := 8) (by omega) dX5_pull_5 rfl rfl (fun h_2 => ?_) (fun h_2 => absurd h_2 (by omega))
    refine v_aload_n F 0 (q := 19) dX5_pull_18 rfl rfl rfl ?_
    refine v_get F (C := RX5) (T := TX5) (N := 14) (ci := 5) (v := .ref (h 4)) 0 3 hin5 rfl cw_at0 (by decide) (by decide +kernel) rfl (q := 22) dX5_pull_19 rfl ?_
    refine v_iload_n F 1 (q := 23) dX5_pull_22 rfl rfl rfl ?_
    refine v_aald F (j := a0.toNat) (b := h (15 + a0.toNat)) 4 2 rfl cw_at4 (by omega) (by omega) (by decide) rfl (q := 24) dX5_pull_23 rfl ?_
    refine v_astore_n F (q := 25) [(2, .ref (h (15 + (a0.toNat)))), (0, .ref (h 0)), (1, VI a0)] dX5_pull_24 rfl (by decide) rfl rfl ?_
    refine v_aload_n F 0 (q := 26) dX5_pull_25 rfl rfl rfl ?_
    refine v_get F (C := RX1) (T := TX1) (N := 6) (ci := 1) (v := VI (S 8 (a0.toNat))) (15 + (a0.toNat)) 3 hin1 rfl (cw_cord (a0.toNat) (by omega)) (by decide) (by decide +kernel) rfl (q := 29) dX5_pull_26 rfl ?_
    have b_3 := hI.st (a0.toNat)
    refine v_if_eq F (tgt := 42) (q := 32) (by omega) dX5_pull_29 rfl rfl (fun h_4 => ?_) (fun h_4 => ?_)
    · refine v_aload_n F 1 (q := 43) dX5_pull_42 rfl rfl rfl ?_
      refine v_aload_n F 0 (q := 44) dX5_pull_43 rfl rfl rfl ?_
      refine v_callVi0 F (kX5_hindranceOf hst (k := k) (h := h) (S := S) (Z := Z) hI (t := (a0.toNat)) (by omega)) gX5_pull_X5_hindranceOf rfl hdX5_hindranceOf ⟨by decide, by decide⟩ 0 cw_at0 rfl rfl rfl (Nat.le_of_ble_eq_true rfl) ⟨(Nat.zero_le _), (Nat.zero_le _)⟩ (q := 47) dX5_pull_44 rfl ?_
      rintro a_5 _ ⟨Z_5, rfl, hA_5, h_5⟩
      refine v_istore_n F (q := 48) [(3, VI a_5), (2, .ref (h (15 + (a0.toNat)))), (0, .ref (h 0)), (1, VI a0)] dX5_pull_47 rfl (by decide) rfl rfl ?_
      have hnb := hin_bd S a0.toNat
      have hzz := hin_0 (S := S) (t := a0.toNat)
      refine v_iload_n F 0 (q := 49) dX5_pull_48 rfl rfl rfl ?_
      refine v_if_eq F (tgt := 73) (q := 52) (by omega) dX5_pull_49 rfl rfl (fun h_6 => ?_) (fun h_6 => ?_)
      · refine v_aload_n F 2 (q := 74) dX5_pull_73 rfl rfl rfl ?_
        refine v_dup F (q := 75) dX5_pull_74 rfl rfl ?_
        refine v_get F (C := RX5) (T := TX5) (N := 14) (ci := 5) (v := VI (S 0 11)) 0 12 hin5 rfl cw_at0 (by decide) (by decide +kernel) rfl (q := 78) dX5_pull_75 rfl ?_
        refine v_const F (q := 79) dX5_pull_78 rfl ?_
        refine v_iadd F (q := 80) dX5_pull_79 rfl ?_
        refine v_put F (C := RX5) (T := TX5) (N := 14) (ci := 5) (ty := .int) 0 12 (cw k h (u2 S 0 11 ((S 0 11) + 1)) Z_5) hin5 tyX5 tyX5_ok nmX5 rfl cw_at0 (by decide) (by decide +kernel) rfl (by decide +kernel) rfl rfl (Nat.le_of_ble_eq_true rfl) (cw_ship12 _) (q := 83) dX5_pull_80 rfl ?_
        refine v_aload_n F 1 (q := 84) dX5_pull_83 rfl rfl rfl ?_
        refine v_get F (C := RX1) (T := TX1) (N := 6) (ci := 1) (v := VI (S 5 (a0.toNat))) (15 + (a0.toNat)) 0 hin1 rfl (cw_cord (a0.toNat) (by omega)) (by decide) (by decide +kernel) rfl (q := 87) dX5_pull_84 rfl ?_
        have b_7 := hI.th (a0.toNat)
        refine v_cast (b := (((S 5 a0.toNat).toNat : Nat) : Int)) (by omega) ?_
        refine v_aload_n F 2 (q := 88) dX5_pull_87 rfl rfl rfl ?_
        refine v_aload_n F 1 (q := 89) dX5_pull_88 rfl rfl rfl ?_
        refine v_get F (C := RX1) (T := TX1) (N := 6) (ci := 1) (v := VI (S 5 (a0.toNat))) (15 + (a0.toNat)) 0 hin1 rfl (cw_cord (a0.toNat) (by omega)) (by decide) (by decide +kernel) rfl (q := 92) dX5_pull_89 rfl ?_
        have b_8 := hI.th (a0.toNat)
        refine v_cast (b := (((S 5 a0.toNat).toNat : Nat) : Int)) (by omega) ?_
        refine v_callVi0 F (kX5_loweredBy hst (k := k) (h := h) (S := (u2 S 0 11 ((S 0 11) + 1))) (Z := Z_5) (inv_cnt hI (by decide) _) (a0 := (((S 5 a0.toNat).toNat : Nat) : Int)) (by omega)) gX5_pull_X5_loweredBy rfl hdX5_loweredBy ⟨by decide, by decide⟩ 0 cw_at0 rfl rfl rfl (Nat.le_of_ble_eq_true rfl) ⟨(Nat.zero_le _), (Nat.zero_le _)⟩ (q := 95) dX5_pull_92 rfl ?_
        rintro a_9 _ ⟨rfl, h_9⟩
        refine v_cast (b := mskI (fun o => lowB S (((S 5 a0.toNat).toNat : Nat) : Int) (o : Int))) (by assumption) ?_
        refine v_aload_n F 2 (q := 96) dX5_pull_95 rfl rfl rfl ?_
        refine v_get F (C := RX5) (T := TX5) (N := 14) (ci := 5) (v := .ref (h 6)) 0 5 hin5 rfl cw_at0 (by decide) (by decide +kernel) rfl (q := 99) dX5_pull_96 rfl ?_
        refine v_aload_n F 2 (q := 100) dX5_pull_99 rfl rfl rfl ?_
        refine v_get F (C := RX5) (T := TX5) (N := 14) (ci := 5) (v := .ref (h 8)) 0 7 hin5 rfl cw_at0 (by decide) (by decide +kernel) rfl (q := 103) dX5_pull_100 rfl ?_
        refine v_callSv0 F (kX5_raise hst (k := k) (h := h) (S := (u2 S 0 11 ((S 0 11) + 1))) (Z := Z_5) (inv_cnt hI (by decide) _) (m := (S 5 a0.toNat).toNat) (by omega) (b := (fun o => lowB S (((S 5 a0.toNat).toNat : Nat) : Int) (o : Int))) (rq := 6) (ra := h 6) (f := (u2 S 0 11 ((S 0 11) + 1)) 4) (fun _ _ => cw_at6) (inv_cnt hI (by decide) _).lean3) gX5_pull_X5_raise rfl hdX5_raise ⟨by decide, by decide⟩ rfl rfl (Nat.le_of_ble_eq_true rfl) ⟨(Nat.zero_le _), (Nat.zero_le _)⟩ (q := 106) dX5_pull_103 rfl ?_
        rintro _ ⟨Z_10, rfl, hA_10, hR_10⟩
        refine v_aload_n F 2 (q := 107) dX5_pull_106 rfl rfl rfl ?_
        refine v_get F (C := RX5) (T := TX5) (N := 14) (ci := 5) (v := .ref (h 8)) 0 7 hin5 rfl cw_at0 (by decide) (by decide +kernel) rfl (q := 110) dX5_pull_107 rfl ?_
        refine v_const F (q := 111) dX5_pull_110 rfl ?_
        refine v_aload_n F 2 (q := 112) dX5_pull_111 rfl rfl rfl ?_
        refine v_get F (C := RX5) (T := TX5) (N := 14) (ci := 5) (v := .ref (h 6)) 0 5 hin5 rfl cw_at0 (by decide) (by decide +kernel) rfl (q := 115) dX5_pull_112 rfl ?_
        refine v_const F (q := 116) dX5_pull_115 rfl ?_
        refine v_const F (q := 117) dX5_pull_116 rfl ?_
        refine v_copy F (n9 := 3) 8 6 (cw k h (ur (u2 S 0 11 ((S 0 11) + 1)) 4 (fun j => if j < 3 then Z_10 1 j else (u2 S 0 11 ((S 0 11) + 1)) 4 j)) Z_10) cw_at8 cw_at6 (by decide) (by decide) (by decide) (by decide +kernel) (by decide +kernel) (by decide +kernel) (by decide +kernel) ⟨by decide, Nat.le_of_ble_eq_true rfl⟩ (cw_copy _) (q := 120) dX5_pull_117 rfl ?_
        have e_r : (fun j => if j < 3 then Z_10 1 j else (u2 S 0 11 ((S 0 11) + 1)) 4 j) = raiseF S (S 5 a0.toNat).toNat (S 4) := raise_row hI _ (fun j hj => hR_10 j hj)
        refine v_weq (w9 := cw k h (ur (u2 S 0 11 ((S 0 11) + 1)) 4 (raiseF S (S 5 a0.toNat).toNat (S 4))) Z_10) (congrArg (fun f9 => cw k h (ur (u2 S 0 11 ((S 0 11) + 1)) 4 f9) Z_10) e_r) ?_
        have b_ra := raise_bd (S := S) (m := (S 5 a0.toNat).toNat) hI.lean3 (by have := hin_0 (S := S) (t := a0.toNat) (by omega); exact this.2) (S 5 a0.toNat).toNat (by omega)
        refine v_aload_n F 2 (q := 121) dX5_pull_120 rfl rfl rfl ?_
        refine v_get F (C := RX5) (T := TX5) (N := 14) (ci := 5) (v := .ref (h 6)) 0 5 hin5 rfl cw_at0 (by decide) (by decide +kernel) rfl (q := 124) dX5_pull_121 rfl ?_
        refine v_aload_n F 1 (q := 125) dX5_pull_124 rfl rfl rfl ?_
        refine v_get F (C := RX1) (T := TX1) (N := 6) (ci := 1) (v := VI (S 5 (a0.toNat))) (15 + (a0.toNat)) 0 hin1 rfl (cw_cord (a0.toNat) (by omega)) (by decide) (by decide +kernel) rfl (q := 128) dX5_pull_125 rfl ?_
        have b_11 := hI.th (a0.toNat)
        refine v_iald F (j := (S 5 (a0.toNat)).toNat) 6 cw_at6 (by omega) (by omega) (by decide) (q := 129) dX5_pull_128 rfl ?_
        refine v_cast (b := (raiseF S (S 5 a0.toNat).toNat (S 4)) ((S 5 (a0.toNat)).toNat)) (by first | rfl | (simp [u2, ur]; done) | grind [u2, ur]) ?_
        exact ret _ _ _ _ _ _ (Nat.zero_le _) (Nat.zero_le _) dX5_pull_129 (⟨Z_10, by unfold sPull; grind, by unfold ePull; grind, by unfold rPull; grind⟩)
      · refine v_aload_n F 2 (q := 53) dX5_pull_52 rfl rfl rfl ?_
        refine v_dup F (q := 54) dX5_pull_53 rfl rfl ?_
        refine v_get F (C := RX5) (T := TX5) (N := 14) (ci := 5) (v := VI (S 0 12)) 0 13 hin5 rfl cw_at0 (by decide) (by decide +kernel) rfl (q := 57) dX5_pull_54 rfl ?_
        refine v_const F (q := 58) dX5_pull_57 rfl ?_
        refine v_iadd F (q := 59) dX5_pull_58 rfl ?_
        refine v_put F (C := RX5) (T := TX5) (N := 14) (ci := 5) (ty := .int) 0 13 (cw k h (u2 S 0 12 ((S 0 12) + 1)) Z_5) hin5 tyX5 tyX5_ok nmX5 rfl cw_at0 (by decide) (by decide +kernel) rfl (by decide +kernel) rfl rfl (Nat.le_of_ble_eq_true rfl) (cw_ship13 _) (q := 62) dX5_pull_59 rfl ?_
        refine v_iload_n F 0 (q := 63) dX5_pull_62 rfl rfl rfl ?_
        refine v_const F (q := 64) dX5_pull_63 rfl ?_
        refine v_icmp_eq F (tgt := 71) (q := 67) (by omega) (by omega) dX5_pull_64 rfl rfl (fun h_12 => ?_) (fun h_12 => ?_)
        · refine v_iload_n F 0 (q := 72) dX5_pull_71 rfl rfl rfl ?_
          exact ret _ _ _ _ _ _ (Nat.zero_le _) (Nat.zero_le _) dX5_pull_72 (⟨Z_5, by unfold sPull; grind, by unfold ePull; grind, by unfold rPull; grind⟩)
        · refine v_aload_n F 1 (q := 68) dX5_pull_67 rfl rfl rfl ?_
          refine v_callVv0 F (kX1_wear hst (k := k) (h := h) (S := (u2 S 0 12 ((S 0 12) + 1))) (Z := Z_5) (t := (a0.toNat)) (by omega) (by have := hI.1 7 (a0.toNat) (by omega); have := hI.pos 7 (a0.toNat) (by omega) (by omega); simpa [u2] using (And.intro (hI.pos 7 (a0.toNat) (by omega) (by omega)) (hI.1 7 (a0.toNat) (by omega)).2))) gX5_pull_X1_wear rfl hdX1_wear ⟨by decide, by decide⟩ (15 + (a0.toNat)) (cw_cord (a0.toNat) (by omega)) rfl rfl rfl (Nat.le_of_ble_eq_true rfl) ⟨(Nat.zero_le _), (Nat.zero_le _)⟩ (q := 71) dX5_pull_68 rfl ?_
          rintro _ rfl
          refine v_iload_n F 0 (q := 72) dX5_pull_71 rfl rfl rfl ?_
          exact ret _ _ _ _ _ _ (Nat.zero_le _) (Nat.zero_le _) dX5_pull_72 (⟨Z_5, by unfold sPull; grind, by unfold ePull; grind, by unfold rPull; grind⟩)
    · exact thr E_S "the thread is not loose" 69 167 73 _ _ _ 32 _ v_exS ⟨by decide +kernel, by decide +kernel, by decide +kernel⟩ (by decide +kernel) dX5_pull_32 dX5_pull_35 dX5_pull_36 dX5_pull_38 dX5_pull_41 (by decide) (by decide) (⟨rfl, Or.inr (⟨by unfold ePull; grind, rfl⟩)⟩)
  · refine v_if_ne F (tgt := 18) (q := 8) R32_0 dX5_pull_5 rfl rfl (fun h_14 => absurd h_14 (by omega)) (fun h_14 => ?_)
    exact thr E_X "no such thread" 116 162 120 _ _ _ 8 _ v_exX ⟨by decide +kernel, by decide +kernel, by decide +kernel⟩ (by decide +kernel) dX5_pull_8 dX5_pull_11 dX5_pull_12 dX5_pull_14 dX5_pull_17 (by decide) (by decide) (⟨rfl, Or.inl ⟨by unfold ePull; grind, rfl⟩⟩)
