theorem hdX6_setBottle : yX6_setBottle.cls = RX6 ∧ yX6_setBottle.cls ≠ "java/lang/invoke/MethodHandle" ∧ yX6_setBottle.cls ≠ "java/lang/invoke/VarHandle" ∧ (parseMethodDescriptor yX6_setBottle.desc).map (fun d => d.parameters.length) = some 4 := by decide +kernel
set_option maxRecDepth 100000 in
set_option maxHeartbeats 4000000 in
theorem kX6_setBottle {l : Launch} (hst : l.stackTraces = false) {k : Nat → ClassId} {g : Nat → Nat} {S Y : Nat → Nat → Int} (hI : Inv S) {a0 a1 a2 a3 : Int} (g0 : R32 a0) (g1 : R32 a1) (g2 : R32 a2) (g3 : R32 a3) : v_Ci l k yX6_setBottle wsX6_setBottle ({ frames := 1, cells := 0, slots := 0, locals := 22 } : Room) [.ref (g 0), VI a0, VI a1, VI a2, VI a3] (mw k g S Y) (fun a u => ∃ Y9 : Nat → Nat → Int, Y9 0 0 = eBottle S a0 a1 a2 a3 ∧ ((eBottle S a0 a1 a2 a3 = 0 ∧ a = S 0 0 ∧ u = mw k g (sBottle S a0 a1 a2 a3) Y9) ∨ (¬ eBottle S a0 a1 a2 a3 = 0 ∧ u = mw k g S Y9))) := by
  refine v_ofI (cc := cX6_setBottle) (nL := 6) (by decide +kernel) rfl hst (Nat.le_of_ble_eq_true rfl) (fun _ _ _ => rfl) (fun XX F ret => ?_)
  have hin6 : ∀ w ∈ wsX60, w ∈ wsX6_setBottle := by decide +kernel
  have b7 := hI.mc
  have b8 := hI.cc
  show V XX (mw k g S Y) 0 0 0 [(0, .ref (g 0)), (1, VI a0), (2, VI a1), (3, VI a2), (4, VI a3)] []
  refine v_aload_n F 0 (q := 1) dX6_setBottle_0 rfl rfl rfl ?_
  refine v_const F (q := 2) dX6_setBottle_1 rfl ?_
  refine v_put F (C := RX6) (T := TX6) (N := 25) (ci := 6) (ty := .int) 0 0 (mw k g S (u2 Y 0 0 0)) hin6 tyX6 tyX6_ok nmX6 rfl mw_at0 (by decide) (by decide +kernel) rfl (by decide +kernel) rfl rfl (Nat.le_of_ble_eq_true rfl) (mw_thrown _) (q := 5) dX6_setBottle_2 rfl ?_
  refine v_iload_n F 1 (q := 6) dX6_setBottle_5 rfl rfl rfl ?_
  refine v_const F (q := 7) dX6_setBottle_6 rfl ?_
  refine v_bipush F (q := 9) dX6_setBottle_7 rfl rfl ?_
  refine v_callSi0 F (kX6_isBetween hst (k := k) (w := mw k g S (u2 Y 0 0 0)) (a0 := a0) (a1 := 1) (a2 := 20) (by omega) (by omega) (by omega)) gX6_setBottle_X6_isBetween rfl hdX6_isBetween ⟨by decide, by decide⟩ rfl rfl (Nat.le_of_ble_eq_true rfl) ⟨(Nat.zero_le _), (Nat.zero_le _)⟩ (q := 12) dX6_setBottle_9 rfl ?_
  rintro _ _ ⟨rfl, ⟨rfl, h_1⟩ | ⟨rfl, h_1⟩⟩
  · refine v_if_eq F (tgt := 47) (q := 15) (by omega) dX6_setBottle_12 rfl rfl (fun h_2 => absurd h_2 (by omega)) (fun h_2 => ?_)
    refine v_iload_n F 2 (q := 16) dX6_setBottle_15 rfl rfl rfl ?_
    refine v_const F (q := 17) dX6_setBottle_16 rfl ?_
    refine v_bipush F (q := 19) dX6_setBottle_17 rfl rfl ?_
    refine v_callSi0 F (kX6_isBetween hst (k := k) (w := mw k g S (u2 Y 0 0 0)) (a0 := a1) (a1 := 5) (a2 := 60) (by omega) (by omega) (by omega)) gX6_setBottle_X6_isBetween rfl hdX6_isBetween ⟨by decide, by decide⟩ rfl rfl (Nat.le_of_ble_eq_true rfl) ⟨(Nat.zero_le _), (Nat.zero_le _)⟩ (q := 22) dX6_setBottle_19 rfl ?_
    rintro _ _ ⟨rfl, ⟨rfl, h_3⟩ | ⟨rfl, h_3⟩⟩
    · refine v_if_eq F (tgt := 47) (q := 25) (by omega) dX6_setBottle_22 rfl rfl (fun h_4 => absurd h_4 (by omega)) (fun h_4 => ?_)
      refine v_iload_n F 3 (q := 26) dX6_setBottle_25 rfl rfl rfl ?_
      refine v_bipush F (q := 28) dX6_setBottle_26 rfl rfl ?_
      refine v_bipush F (q := 30) dX6_setBottle_28 rfl rfl ?_
      refine v_callSi0 F (kX6_isBetween hst (k := k) (w := mw k g S (u2 Y 0 0 0)) (a0 := a2) (a1 := 10) (a2 := 90) (by omega) (by omega) (by omega)) gX6_setBottle_X6_isBetween rfl hdX6_isBetween ⟨by decide, by decide⟩ rfl rfl (Nat.le_of_ble_eq_true rfl) ⟨(Nat.zero_le _), (Nat.zero_le _)⟩ (q := 33) dX6_setBottle_30 rfl ?_
      rintro _ _ ⟨rfl, ⟨rfl, h_5⟩ | ⟨rfl, h_5⟩⟩
      · refine v_if_eq F (tgt := 47) (q := 36) (by omega) dX6_setBottle_33 rfl rfl (fun h_6 => absurd h_6 (by omega)) (fun h_6 => ?_)
        refine v_iload F 4 (q := 38) dX6_setBottle_36 rfl rfl ?_
        refine v_const F (q := 39) dX6_setBottle_38 rfl ?_
        refine v_bipush F (q := 41) dX6_setBottle_39 rfl rfl ?_
        refine v_callSi0 F (kX6_isBetween hst (k := k) (w := mw k g S (u2 Y 0 0 0)) (a0 := a3) (a1 := 0) (a2 := 20) (by omega) (by omega) (by omega)) gX6_setBottle_X6_isBetween rfl hdX6_isBetween ⟨by decide, by decide⟩ rfl rfl (Nat.le_of_ble_eq_true rfl) ⟨(Nat.zero_le _), (Nat.zero_le _)⟩ (q := 44) dX6_setBottle_41 rfl ?_
        rintro _ _ ⟨rfl, ⟨rfl, h_7⟩ | ⟨rfl, h_7⟩⟩
        · refine v_if_ne F (tgt := 53) (q := 47) (by omega) dX6_setBottle_44 rfl rfl (fun h_8 => ?_) (fun h_8 => absurd h_8 (by omega))
          refine v_aload_n F 0 (q := 54) dX6_setBottle_53 rfl rfl rfl ?_
          refine v_get F (C := RX6) (T := TX6) (N := 25) (ci := 6) (v := VI (S 0 9)) 0 8 hin6 rfl mw_at0 (by decide) (by decide +kernel) rfl (q := 57) dX6_setBottle_54 rfl ?_
          have b_9 := hI.isin
          refine v_if_eq F (tgt := 66) (q := 60) (by omega) dX6_setBottle_57 rfl rfl (fun h_10 => ?_) (fun h_10 => ?_)
          · refine v_aload_n F 0 (q := 67) dX6_setBottle_66 rfl rfl rfl ?_
            refine v_get F (C := RX6) (T := TX6) (N := 25) (ci := 6) (v := VI (S 0 0)) 0 1 hin6 rfl mw_at0 (by decide) (by decide +kernel) rfl (q := 70) dX6_setBottle_67 rfl ?_
            have b_11 := And.intro (hI.sc 0 (by decide)) (hI.1 0 0 (by omega)).2
            refine v_istore F (q := 72) [(5, VI (S 0 0)), (0, .ref (g 0)), (1, VI a0), (2, VI a1), (3, VI a2), (4, VI a3)] dX6_setBottle_70 (by decide) rfl rfl ?_
            refine v_aload_n F 1 (q := 73) dX6_setBottle_72 rfl rfl rfl ?_
            refine v_iload_n F 2 (q := 74) dX6_setBottle_73 rfl rfl rfl ?_
            refine v_put F (C := RX6) (T := TX6) (N := 25) (ci := 6) (ty := .int) 0 1 (mw k g (u2 S 0 0 a0) (u2 Y 0 0 0)) hin6 tyX6 tyX6_ok nmX6 rfl mw_at0 (by decide) (by decide +kernel) rfl (by decide +kernel) rfl rfl (Nat.le_of_ble_eq_true rfl) (mw_mod1 _) (q := 77) dX6_setBottle_74 rfl ?_
            refine v_aload_n F 1 (q := 78) dX6_setBottle_77 rfl rfl rfl ?_
            refine v_iload_n F 3 (q := 79) dX6_setBottle_78 rfl rfl rfl ?_
            refine v_put F (C := RX6) (T := TX6) (N := 25) (ci := 6) (ty := .int) 0 2 (mw k g (u2 (u2 S 0 0 a0) 0 1 a1) (u2 Y 0 0 0)) hin6 tyX6 tyX6_ok nmX6 rfl mw_at0 (by decide) (by decide +kernel) rfl (by decide +kernel) rfl rfl (Nat.le_of_ble_eq_true rfl) (mw_mod2 _) (q := 82) dX6_setBottle_79 rfl ?_
            refine v_aload_n F 1 (q := 83) dX6_setBottle_82 rfl rfl rfl ?_
            refine v_iload_n F 4 (q := 84) dX6_setBottle_83 rfl rfl rfl ?_
            refine v_put F (C := RX6) (T := TX6) (N := 25) (ci := 6) (ty := .int) 0 3 (mw k g (u2 (u2 (u2 S 0 0 a0) 0 1 a1) 0 2 a2) (u2 Y 0 0 0)) hin6 tyX6 tyX6_ok nmX6 rfl mw_at0 (by decide) (by decide +kernel) rfl (by decide +kernel) rfl rfl (Nat.le_of_ble_eq_true rfl) (mw_mod3 _) (q := 87) dX6_setBottle_84 rfl ?_
            refine v_aload_n F 1 (q := 88) dX6_setBottle_87 rfl rfl rfl ?_
            refine v_iload F 5 (q := 90) dX6_setBottle_88 rfl rfl ?_
            refine v_put F (C := RX6) (T := TX6) (N := 25) (ci := 6) (ty := .int) 0 4 (mw k g (u2 (u2 (u2 (u2 S 0 0 a0) 0 1 a1) 0 2 a2) 0 3 a3) (u2 Y 0 0 0)) hin6 tyX6 tyX6_ok nmX6 rfl mw_at0 (by decide) (by decide +kernel) rfl (by decide +kernel) rfl rfl (Nat.le_of_ble_eq_true rfl) (mw_mod4 _) (q := 93) dX6_setBottle_90 rfl ?_
            refine v_iload F 0 (q := 95) dX6_setBottle_93 rfl rfl ?_
            exact ret _ _ _ _ _ _ (Nat.zero_le _) (Nat.zero_le _) dX6_setBottle_95 (⟨(u2 Y 0 0 0), by show (0 : Int) = _; unfold eBottle; grind, Or.inl ⟨by unfold eBottle; grind, rfl, rfl⟩⟩)
          · refine v_aload_n F 0 (q := 61) dX6_setBottle_60 rfl rfl rfl ?_
            refine v_const F (q := 62) dX6_setBottle_61 rfl ?_
            refine v_callVi0 F (kX6_no hst (k := k) (g := g) (S := S) (Y := (u2 Y 0 0 0)) hI (a0 := 2)) gX6_setBottle_X6_no rfl hdX6_no ⟨by decide, by decide⟩ 0 mw_at0 rfl rfl rfl (Nat.le_of_ble_eq_true rfl) ⟨(Nat.zero_le _), (Nat.zero_le _)⟩ (q := 65) dX6_setBottle_62 rfl ?_
            rintro a_12 _ ⟨rfl, rfl⟩
            exact ret _ _ _ _ _ _ (Nat.zero_le _) (Nat.zero_le _) dX6_setBottle_65 (⟨(u2 (u2 Y 0 0 0) 0 0 2), by show (2 : Int) = _; unfold eBottle; grind, Or.inr ⟨by unfold eBottle; grind, rfl⟩⟩)
        · refine v_if_ne F (tgt := 53) (q := 47) R32_0 dX6_setBottle_44 rfl rfl (fun h_13 => absurd h_13 (by omega)) (fun h_13 => ?_)
          refine v_aload_n F 0 (q := 48) dX6_setBottle_47 rfl rfl rfl ?_
          refine v_const F (q := 49) dX6_setBottle_48 rfl ?_
          refine v_callVi0 F (kX6_no hst (k := k) (g := g) (S := S) (Y := (u2 Y 0 0 0)) hI (a0 := 1)) gX6_setBottle_X6_no rfl hdX6_no ⟨by decide, by decide⟩ 0 mw_at0 rfl rfl rfl (Nat.le_of_ble_eq_true rfl) ⟨(Nat.zero_le _), (Nat.zero_le _)⟩ (q := 52) dX6_setBottle_49 rfl ?_
          rintro a_14 _ ⟨rfl, rfl⟩
          exact ret _ _ _ _ _ _ (Nat.zero_le _) (Nat.zero_le _) dX6_setBottle_52 (⟨(u2 (u2 Y 0 0 0) 0 0 1), by show (1 : Int) = _; unfold eBottle; grind, Or.inr ⟨by unfold eBottle; grind, rfl⟩⟩)
      · refine v_if_eq F (tgt := 47) (q := 36) R32_0 dX6_setBottle_33 rfl rfl (fun h_15 => ?_) (fun h_15 => absurd h_15 (by omega))
        refine v_aload_n F 0 (q := 48) dX6_setBottle_47 rfl rfl rfl ?_
        refine v_const F (q := 49) dX6_setBottle_48 rfl ?_
        refine v_callVi0 F (kX6_no hst (k := k) (g := g) (S := S) (Y := (u2 Y 0 0 0)) hI (a0 := 1)) gX6_setBottle_X6_no rfl hdX6_no ⟨by decide, by decide⟩ 0 mw_at0 rfl rfl rfl (Nat.le_of_ble_eq_true rfl) ⟨(Nat.zero_le _), (Nat.zero_le _)⟩ (q := 52) dX6_setBottle_49 rfl ?_
        rintro a_16 _ ⟨rfl, rfl⟩
        exact ret _ _ _ _ _ _ (Nat.zero_le _) (Nat.zero_le _) dX6_setBottle_52 (⟨(u2 (u2 Y 0 0 0) 0 0 1), by show (1 : Int) = _; unfold eBottle; grind, Or.inr ⟨by unfold eBottle; grind, rfl⟩⟩)
    · refine v_if_eq F (tgt := 47) (q := 25) R32_0 dX6_setBottle_22 rfl rfl (fun h_17 => ?_) (fun h_17 => absurd h_17 (by omega))
      refine v_aload_n F 0 (q := 48) dX6_setBottle_47 rfl rfl rfl ?_
      refine v_const F (q := 49) dX6_setBottle_48 rfl ?_
      refine v_callVi0 F (kX6_no hst (k := k) (g := g) (S := S) (Y := (u2 Y 0 0 0)) hI (a0 := 1)) gX6_setBottle_X6_no rfl hdX6_no ⟨by decide, by decide⟩ 0 mw_at0 rfl rfl rfl (Nat.le_of_ble_eq_true rfl) ⟨(Nat.zero_le _), (Nat.zero_le _)⟩ (q := 52) dX6_setBottle_49 rfl ?_
      rintro a_18 _ ⟨rfl, rfl⟩
      exact ret _ _ _ _ _ _ (Nat.zero_le _) (Nat.zero_le _) dX6_setBottle_52 (⟨(u2 (u2 Y 0 0 0) 0 0 1), by show (1 : Int) = _; unfold eBottle; grind, Or.inr ⟨by unfold eBottle; grind, rfl⟩⟩)
  · refine v_if_eq F (tgt := 47) (q := 15) R32_0 dX6_setBottle_12 rfl rfl (fun h_19 => ?_) (fun h_19 => absurd h_19 (by omega))
    refine v_aload_n F 0 (q := 48) dX6_setBottle_47 rfl rfl rfl ?_
    refine v_const F (q := 49) dX6_setBottle_48 rfl ?_
    refine v_callVi0 F (kX6_no hst (k := k) (g := g) (S := S) (Y := (u2 Y 0 0 0)) hI (a0 := 1)) gX6_setBottle_X6_no rfl hdX6_no ⟨by decide, by decide⟩ 0 mw_at0 rfl rfl rfl (Nat.le_of_ble_eq_true rfl) ⟨(Nat.zero_le _), (Nat.zero_le _)⟩ (q := 52) dX6_setBottle_49 rfl ?_
    rintro a_20 _ ⟨rfl, rfl⟩
    exact ret _ _ _ _ _ _ (Nat.zero_le _) (Nat.zero_le _) dX6_setBottle_52 (⟨(u2 (u2 Y 0 0 0) 0 0 1), by show (1 : Int) = _; unfold eBottle; grind, Or.inr ⟨by unfold eBottle; grind, rfl⟩⟩)
theorem hdX6_setHull : yX6_setHull.cls = RX6 ∧ yX6_setHull.cls ≠ "java/lang/invoke/MethodHandle" ∧ yX6_setHull.cls ≠ "java/lang/invoke/VarHandle" ∧ (parseMethodDescriptor yX6_setHull.desc).map (fun d => d.parameters.length) = some 3 := by decide +kernel
set_option maxRecDepth 100000 in
set_option maxHeartbeats 4000000 in
theorem kX6_setHull {l : Launch} (hst : l.stackTraces = false) {k : Nat → ClassId} {g : Nat → Nat} {S Y : Nat → Nat → Int} (hI : Inv S) {a0 a1 a2 : Int} (g0 : R32 a0) (g1 : R32 a1) (g2 : R32 a2) : v_Ci l k yX6_setHull wsX6_setHull ({ frames := 1, cells := 0, slots := 0, locals := 22 } : Room) [.ref (g 0), VI a0, VI a1, VI a2] (mw k g S Y) (fun a u => ∃ Y9 : Nat → Nat → Int, Y9 0 0 = eHull S a0 a1 a2 ∧ ((eHull S a0 a1 a2 = 0 ∧ a = S 0 4 ∧ u = mw k g (sHull S a0 a1 a2) Y9) ∨ (¬ eHull S a0 a1 a2 = 0 ∧ u = mw k g S Y9))) := by
  refine v_ofI (cc := cX6_setHull) (nL := 5) (by decide +kernel) rfl hst (Nat.le_of_ble_eq_true rfl) (fun _ _ _ => rfl) (fun XX F ret => ?_)
  have hin6 : ∀ w ∈ wsX60, w ∈ wsX6_setHull := by decide +kernel
  have b7 := hI.mc
  have b8 := hI.cc
  show V XX (mw k g S Y) 0 0 0 [(0, .ref (g 0)), (1, VI a0), (2, VI a1), (3, VI a2)] []
  refine v_aload_n F 0 (q := 1) dX6_setHull_0 rfl rfl rfl ?_
  refine v_const F (q := 2) dX6_setHull_1 rfl ?_
  refine v_put F (C := RX6) (T := TX6) (N := 25) (ci := 6) (ty := .int) 0 0 (mw k g S (u2 Y 0 0 0)) hin6 tyX6 tyX6_ok nmX6 rfl mw_at0 (by decide) (by decide +kernel) rfl (by decide +kernel) rfl rfl (Nat.le_of_ble_eq_true rfl) (mw_thrown _) (q := 5) dX6_setHull_2 rfl ?_
  refine v_iload_n F 1 (q := 6) dX6_setHull_5 rfl rfl rfl ?_
  refine v_const F (q := 7) dX6_setHull_6 rfl ?_
  refine v_bipush F (q := 9) dX6_setHull_7 rfl rfl ?_
  refine v_callSi0 F (kX6_isBetween hst (k := k) (w := mw k g S (u2 Y 0 0 0)) (a0 := a0) (a1 := 5) (a2 := 80) (by omega) (by omega) (by omega)) gX6_setHull_X6_isBetween rfl hdX6_isBetween ⟨by decide, by decide⟩ rfl rfl (Nat.le_of_ble_eq_true rfl) ⟨(Nat.zero_le _), (Nat.zero_le _)⟩ (q := 12) dX6_setHull_9 rfl ?_
  rintro _ _ ⟨rfl, ⟨rfl, h_1⟩ | ⟨rfl, h_1⟩⟩
  · refine v_if_eq F (tgt := 35) (q := 15) (by omega) dX6_setHull_12 rfl rfl (fun h_2 => absurd h_2 (by omega)) (fun h_2 => ?_)
    refine v_iload_n F 2 (q := 16) dX6_setHull_15 rfl rfl rfl ?_
    refine v_const F (q := 17) dX6_setHull_16 rfl ?_
    refine v_bipush F (q := 19) dX6_setHull_17 rfl rfl ?_
    refine v_callSi0 F (kX6_isBetween hst (k := k) (w := mw k g S (u2 Y 0 0 0)) (a0 := a1) (a1 := 1) (a2 := 15) (by omega) (by omega) (by omega)) gX6_setHull_X6_isBetween rfl hdX6_isBetween ⟨by decide, by decide⟩ rfl rfl (Nat.le_of_ble_eq_true rfl) ⟨(Nat.zero_le _), (Nat.zero_le _)⟩ (q := 22) dX6_setHull_19 rfl ?_
    rintro _ _ ⟨rfl, ⟨rfl, h_3⟩ | ⟨rfl, h_3⟩⟩
    · refine v_if_eq F (tgt := 35) (q := 25) (by omega) dX6_setHull_22 rfl rfl (fun h_4 => absurd h_4 (by omega)) (fun h_4 => ?_)
      refine v_iload_n F 3 (q := 26) dX6_setHull_25 rfl rfl rfl ?_
      refine v_const F (q := 27) dX6_setHull_26 rfl ?_
      refine v_bipush F (q := 29) dX6_setHull_27 rfl rfl ?_
      refine v_callSi0 F (kX6_isBetween hst (k := k) (w := mw k g S (u2 Y 0 0 0)) (a0 := a2) (a1 := 1) (a2 := 15) (by omega) (by omega) (by omega)) gX6_setHull_X6_isBetween rfl hdX6_isBetween ⟨by decide, by decide⟩ rfl rfl (Nat.le_of_ble_eq_true rfl) ⟨(Nat.zero_le _), (Nat.zero_le _)⟩ (q := 32) dX6_setHull_29 rfl ?_
      rintro _ _ ⟨rfl, ⟨rfl, h_5⟩ | ⟨rfl, h_5⟩⟩
      · refine v_if_ne F (tgt := 41) (q := 35) (by omega) dX6_setHull_32 rfl rfl (fun h_6 => ?_) (fun h_6 => absurd h_6 (by omega))
        refine v_aload_n F 0 (q := 42) dX6_setHull_41 rfl rfl rfl ?_
        refine v_get F (C := RX6) (T := TX6) (N := 25) (ci := 6) (v := VI (S 0 7)) 0 12 hin6 rfl mw_at0 (by decide) (by decide +kernel) rfl (q := 45) dX6_setHull_42 rfl ?_
        have b_7 := And.intro (hI.sc 7 (by decide)) (hI.1 0 7 (by omega)).2
        refine v_if_gt F (tgt := 55) (q := 48) (by omega) dX6_setHull_45 rfl rfl (fun h_8 => ?_) (fun h_8 => ?_)
        · refine v_aload_n F 0 (q := 56) dX6_setHull_55 rfl rfl rfl ?_
          refine v_const F (q := 57) dX6_setHull_56 rfl ?_
          refine v_callVi0 F (kX6_no hst (k := k) (g := g) (S := S) (Y := (u2 Y 0 0 0)) hI (a0 := 2)) gX6_setHull_X6_no rfl hdX6_no ⟨by decide, by decide⟩ 0 mw_at0 rfl rfl rfl (Nat.le_of_ble_eq_true rfl) ⟨(Nat.zero_le _), (Nat.zero_le _)⟩ (q := 60) dX6_setHull_57 rfl ?_
          rintro a_9 _ ⟨rfl, rfl⟩
          exact ret _ _ _ _ _ _ (Nat.zero_le _) (Nat.zero_le _) dX6_setHull_60 (⟨(u2 (u2 Y 0 0 0) 0 0 2), by show (2 : Int) = _; unfold eHull; grind, Or.inr ⟨by unfold eHull; grind, rfl⟩⟩)
        · refine v_aload_n F 0 (q := 49) dX6_setHull_48 rfl rfl rfl ?_
          refine v_get F (C := RX6) (T := TX6) (N := 25) (ci := 6) (v := VI (S 0 9)) 0 8 hin6 rfl mw_at0 (by decide) (by decide +kernel) rfl (q := 52) dX6_setHull_49 rfl ?_
          have b_10 := hI.isin
          refine v_if_eq F (tgt := 61) (q := 55) (by omega) dX6_setHull_52 rfl rfl (fun h_11 => ?_) (fun h_11 => ?_)
          · refine v_aload_n F 0 (q := 62) dX6_setHull_61 rfl rfl rfl ?_
            refine v_get F (C := RX6) (T := TX6) (N := 25) (ci := 6) (v := VI (S 0 4)) 0 5 hin6 rfl mw_at0 (by decide) (by decide +kernel) rfl (q := 65) dX6_setHull_62 rfl ?_
            have b_12 := And.intro (hI.sc 4 (by decide)) (hI.1 0 4 (by omega)).2
            refine v_istore F (q := 67) [(4, VI (S 0 4)), (0, .ref (g 0)), (1, VI a0), (2, VI a1), (3, VI a2)] dX6_setHull_65 (by decide) rfl rfl ?_
            refine v_aload_n F 1 (q := 68) dX6_setHull_67 rfl rfl rfl ?_
            refine v_iload_n F 2 (q := 69) dX6_setHull_68 rfl rfl rfl ?_
            refine v_put F (C := RX6) (T := TX6) (N := 25) (ci := 6) (ty := .int) 0 5 (mw k g (u2 S 0 4 a0) (u2 Y 0 0 0)) hin6 tyX6 tyX6_ok nmX6 rfl mw_at0 (by decide) (by decide +kernel) rfl (by decide +kernel) rfl rfl (Nat.le_of_ble_eq_true rfl) (mw_mod5 _) (q := 72) dX6_setHull_69 rfl ?_
            refine v_aload_n F 1 (q := 73) dX6_setHull_72 rfl rfl rfl ?_
            refine v_iload_n F 3 (q := 74) dX6_setHull_73 rfl rfl rfl ?_
            refine v_put F (C := RX6) (T := TX6) (N := 25) (ci := 6) (ty := .int) 0 6 (mw k g (u2 (u2 S 0 4 a0) 0 5 a1) (u2 Y 0 0 0)) hin6 tyX6 tyX6_ok nmX6 rfl mw_at0 (by decide) (by decide +kernel) rfl (by decide +kernel) rfl rfl (Nat.le_of_ble_eq_true rfl) (mw_mod6 _) (q := 77) dX6_setHull_74 rfl ?_
            refine v_aload_n F 1 (q := 78) dX6_setHull_77 rfl rfl rfl ?_
            refine v_iload_n F 4 (q := 79) dX6_setHull_78 rfl rfl rfl ?_
            refine v_put F (C := RX6) (T := TX6) (N := 25) (ci := 6) (ty := .int) 0 7 (mw k g (u2 (u2 (u2 S 0 4 a0) 0 5 a1) 0 6 a2) (u2 Y 0 0 0)) hin6 tyX6 tyX6_ok nmX6 rfl mw_at0 (by decide) (by decide +kernel) rfl (by decide +kernel) rfl rfl (Nat.le_of_ble_eq_true rfl) (mw_mod7 _) (q := 82) dX6_setHull_79 rfl ?_
            refine v_iload F 0 (q := 84) dX6_setHull_82 rfl rfl ?_
            exact ret _ _ _ _ _ _ (Nat.zero_le _) (Nat.zero_le _) dX6_setHull_84 (⟨(u2 Y 0 0 0), by show (0 : Int) = _; unfold eHull; grind, Or.inl ⟨by unfold eHull; grind, rfl, rfl⟩⟩)
          · refine v_aload_n F 0 (q := 56) dX6_setHull_55 rfl rfl rfl ?_
            refine v_const F (q := 57) dX6_setHull_56 rfl ?_
            refine v_callVi0 F (kX6_no hst (k := k) (g := g) (S := S) (Y := (u2 Y 0 0 0)) hI (a0 := 2)) gX6_setHull_X6_no rfl hdX6_no ⟨by decide, by decide⟩ 0 mw_at0 rfl rfl rfl (Nat.le_of_ble_eq_true rfl) ⟨(Nat.zero_le _), (Nat.zero_le _)⟩ (q := 60) dX6_setHull_57 rfl ?_
            rintro a_13 _ ⟨rfl, rfl⟩
            exact ret _ _ _ _ _ _ (Nat.zero_le _) (Nat.zero_le _) dX6_setHull_60 (⟨(u2 (u2 Y 0 0 0) 0 0 2), by show (2 : Int) = _; unfold eHull; grind, Or.inr ⟨by unfold eHull; grind, rfl⟩⟩)
      · refine v_if_ne F (tgt := 41) (q := 35) R32_0 dX6_setHull_32 rfl rfl (fun h_14 => absurd h_14 (by omega)) (fun h_14 => ?_)
        refine v_aload_n F 0 (q := 36) dX6_setHull_35 rfl rfl rfl ?_
        refine v_const F (q := 37) dX6_setHull_36 rfl ?_
        refine v_callVi0 F (kX6_no hst (k := k) (g := g) (S := S) (Y := (u2 Y 0 0 0)) hI (a0 := 1)) gX6_setHull_X6_no rfl hdX6_no ⟨by decide, by decide⟩ 0 mw_at0 rfl rfl rfl (Nat.le_of_ble_eq_true rfl) ⟨(Nat.zero_le _), (Nat.zero_le _)⟩ (q := 40) dX6_setHull_37 rfl ?_
        rintro a_15 _ ⟨rfl, rfl⟩
        exact ret _ _ _ _ _ _ (Nat.zero_le _) (Nat.zero_le _) dX6_setHull_40 (⟨(u2 (u2 Y 0 0 0) 0 0 1), by show (1 : Int) = _; unfold eHull; grind, Or.inr ⟨by unfold eHull; grind, rfl⟩⟩)
    · refine v_if_eq F (tgt := 35) (q := 25) R32_0 dX6_setHull_22 rfl rfl (fun h_16 => ?_) (fun h_16 => absurd h_16 (by omega))
      refine v_aload_n F 0 (q := 36) dX6_setHull_35 rfl rfl rfl ?_
      refine v_const F (q := 37) dX6_setHull_36 rfl ?_
      refine v_callVi0 F (kX6_no hst (k := k) (g := g) (S := S) (Y := (u2 Y 0 0 0)) hI (a0 := 1)) gX6_setHull_X6_no rfl hdX6_no ⟨by decide, by decide⟩ 0 mw_at0 rfl rfl rfl (Nat.le_of_ble_eq_true rfl) ⟨(Nat.zero_le _), (Nat.zero_le _)⟩ (q := 40) dX6_setHull_37 rfl ?_
      rintro a_17 _ ⟨rfl, rfl⟩
      exact ret _ _ _ _ _ _ (Nat.zero_le _) (Nat.zero_le _) dX6_setHull_40 (⟨(u2 (u2 Y 0 0 0) 0 0 1), by show (1 : Int) = _; unfold eHull; grind, Or.inr ⟨by unfold eHull; grind, rfl⟩⟩)
  · refine v_if_eq F (tgt := 35) (q := 15) R32_0 dX6_setHull_12 rfl rfl (fun h_18 => ?_) (fun h_18 => absurd h_18 (by omega))
    refine v_aload_n F 0 (q := 36) dX6_setHull_35 rfl rfl rfl ?_
    refine v_const F (q := 37) dX6_setHull_36 rfl ?_
    refine v_callVi0 F (kX6_no hst (k := k) (g := g) (S := S) (Y := (u2 Y 0 0 0)) hI (a0 := 1)) gX6_setHull_X6_no rfl hdX6_no ⟨by decide, by decide⟩ 0 mw_at0 rfl rfl rfl (Nat.le_of_ble_eq_true rfl) ⟨(Nat.zero_le _), (Nat.zero_le _)⟩ (q := 40) dX6_setHull_37 rfl ?_
    rintro a_19 _ ⟨rfl, rfl⟩
    exact ret _ _ _ _ _ _ (Nat.zero_le _) (Nat.zero_le _) dX6_setHull_40 (⟨(u2 (u2 Y 0 0 0) 0 0 1), by show (1 : Int) = _; unfold eHull; grind, Or.inr ⟨by unfold eHull; grind, rfl⟩⟩)
theorem hdX6_step : yX6_step.cls = RX6 ∧ yX6_step.cls ≠ "java/lang/invoke/MethodHandle" ∧ yX6_step.cls ≠ "java/lang/invoke/VarHandle" ∧ (parseMethodDescriptor yX6_step.desc).map (fun d => d.parameters.length) = some 2 := by decide +kernel
set_option maxRecDepth 100000 in
set_option maxHeartbeats 4000000 in
theorem kX6_step {l : Launch} (hst : l.stackTraces = false) {k : Nat → ClassId} {g : Nat → Nat} {S Y : Nat → Nat → Int} (hI : Inv S) {a0 a1 : Int} (g0 : R32 a0) (g1 : R32 a1) : v_Ci l k yX6_step wsX6_step ({ frames := 1, cells := 0, slots := 0, locals := 22 } : Room) [.ref (g 0), VI a0, VI a1] (mw k g S Y) (fun a u => ∃ Y9 : Nat → Nat → Int, Y9 0 0 = eStep S a0 a1 ∧ ((eStep S a0 a1 = 0 ∧ a = S 0 7 ∧ u = mw k g (sStep S a0 a1) Y9) ∨ (¬ eStep S a0 a1 = 0 ∧ u = mw k g S Y9))) := by
  refine v_ofI (cc := cX6_step) (nL := 5) (by decide +kernel) rfl hst (Nat.le_of_ble_eq_true rfl) (fun _ _ _ => rfl) (fun XX F ret => ?_)
  have hin6 : ∀ w ∈ wsX60, w ∈ wsX6_step := by decide +kernel
  have b7 := hI.mc
  have b8 := hI.cc
  show V XX (mw k g S Y) 0 0 0 [(0, .ref (g 0)), (1, VI a0), (2, VI a1)] []
  refine v_aload_n F 0 (q := 1) dX6_step_0 rfl rfl rfl ?_
  refine v_const F (q := 2) dX6_step_1 rfl ?_
  refine v_put F (C := RX6) (T := TX6) (N := 25) (ci := 6) (ty := .int) 0 0 (mw k g S (u2 Y 0 0 0)) hin6 tyX6 tyX6_ok nmX6 rfl mw_at0 (by decide) (by decide +kernel) rfl (by decide +kernel) rfl rfl (Nat.le_of_ble_eq_true rfl) (mw_thrown _) (q := 5) dX6_step_2 rfl ?_
  refine v_iload_n F 1 (q := 6) dX6_step_5 rfl rfl rfl ?_
  refine v_const F (q := 7) dX6_step_6 rfl ?_
  refine v_aload_n F 0 (q := 8) dX6_step_7 rfl rfl rfl ?_
  refine v_get F (C := RX6) (T := TX6) (N := 25) (ci := 6) (v := VI (S 0 4)) 0 5 hin6 rfl mw_at0 (by decide) (by decide +kernel) rfl (q := 11) dX6_step_8 rfl ?_
  have b_1 := And.intro (hI.sc 4 (by decide)) (hI.1 0 4 (by omega)).2
  refine v_callSi0 F (kX6_isBetween hst (k := k) (w := mw k g S (u2 Y 0 0 0)) (a0 := a0) (a1 := 0) (a2 := S 0 4) (by omega) (by omega) (by omega)) gX6_step_X6_isBetween rfl hdX6_isBetween ⟨by decide, by decide⟩ rfl rfl (Nat.le_of_ble_eq_true rfl) ⟨(Nat.zero_le _), (Nat.zero_le _)⟩ (q := 14) dX6_step_11 rfl ?_
  rintro _ _ ⟨rfl, ⟨rfl, h_2⟩ | ⟨rfl, h_2⟩⟩
  · refine v_if_eq F (tgt := 27) (q := 17) (by omega) dX6_step_14 rfl rfl (fun h_3 => absurd h_3 (by omega)) (fun h_3 => ?_)
    refine v_iload_n F 2 (q := 18) dX6_step_17 rfl rfl rfl ?_
    refine v_const F (q := 19) dX6_step_18 rfl ?_
    refine v_bipush F (q := 21) dX6_step_19 rfl rfl ?_
    refine v_callSi0 F (kX6_isBetween hst (k := k) (w := mw k g S (u2 Y 0 0 0)) (a0 := a1) (a1 := 1) (a2 := 50) (by omega) (by omega) (by omega)) gX6_step_X6_isBetween rfl hdX6_isBetween ⟨by decide, by decide⟩ rfl rfl (Nat.le_of_ble_eq_true rfl) ⟨(Nat.zero_le _), (Nat.zero_le _)⟩ (q := 24) dX6_step_21 rfl ?_
    rintro _ _ ⟨rfl, ⟨rfl, h_4⟩ | ⟨rfl, h_4⟩⟩
    · refine v_if_ne F (tgt := 33) (q := 27) (by omega) dX6_step_24 rfl rfl (fun h_5 => ?_) (fun h_5 => absurd h_5 (by omega))
      refine v_aload_n F 0 (q := 34) dX6_step_33 rfl rfl rfl ?_
      refine v_get F (C := RX6) (T := TX6) (N := 25) (ci := 6) (v := VI (S 0 9)) 0 8 hin6 rfl mw_at0 (by decide) (by decide +kernel) rfl (q := 37) dX6_step_34 rfl ?_
      have b_6 := hI.isin
      refine v_if_ne F (tgt := 52) (q := 40) (by omega) dX6_step_37 rfl rfl (fun h_7 => ?_) (fun h_7 => ?_)
      · refine v_const F (q := 53) dX6_step_52 rfl ?_
        refine v_istore_n F (q := 54) [(3, VI 0), (0, .ref (g 0)), (1, VI a0), (2, VI a1)] dX6_step_53 rfl (by decide) rfl rfl ?_
        refine v_const F (q := 55) dX6_step_54 rfl ?_
        refine v_istore F (q := 57) [(4, VI 0), (3, VI 0), (0, .ref (g 0)), (1, VI a0), (2, VI a1)] dX6_step_55 (by decide) rfl rfl ?_
        have L57_8 : ∀ (fu : Nat) (can : Int) (m : Nat), ((m : Int) ≤ S 0 7 ∧ (0 ≤ can ∧ can ≤ 1) ∧ (can = 1 ↔ (S 0 9 = 0 ∧ S 0 7 < 3 ∧ ∀ j : Nat, j < m → ¬ S 1 j = a0))) → (S 0 7 - m).toNat < fu → V XX (mw k g S (u2 Y 0 0 0)) 0 0 57 [(4, VI ((m : Nat) : Int)), (3, VI can), (0, .ref (g 0)), (1, VI a0), (2, VI a1)] [] := by
          intro fu_57
          induction fu_57 with
          | zero => intros; omega
          | succ fu_57 ih_57 =>
            intro can m hv hm_57
            obtain ⟨hv1, hv2, hv3⟩ := hv
            refine v_iload F 0 (q := 59) dX6_step_57 rfl rfl ?_
            refine v_aload_n F 2 (q := 60) dX6_step_59 rfl rfl rfl ?_
            refine v_get F (C := RX6) (T := TX6) (N := 25) (ci := 6) (v := VI (S 0 7)) 0 12 hin6 rfl mw_at0 (by decide) (by decide +kernel) rfl (q := 63) dX6_step_60 rfl ?_
            have b_9 := And.intro (hI.sc 7 (by decide)) (hI.1 0 7 (by omega)).2
            refine v_icmp_ge F (tgt := 91) (q := 66) (by omega) (by omega) dX6_step_63 rfl rfl (fun h_10 => ?_) (fun h_10 => ?_)
            · have hplc := plc_all S a0 (m := m) (by omega)
              rw [← hplc] at hv3
              refine v_iload_n F 1 (q := 92) dX6_step_91 rfl rfl rfl ?_
              refine v_if_ne F (tgt := 101) (q := 95) (by omega) dX6_step_92 rfl rfl (fun h_11 => ?_) (fun h_11 => ?_)
              · refine v_aload_n F 2 (q := 102) dX6_step_101 rfl rfl rfl ?_
                refine v_get F (C := RX6) (T := TX6) (N := 25) (ci := 6) (v := .ref (g 1)) 0 14 hin6 rfl mw_at0 (by decide) (by decide +kernel) rfl (q := 105) dX6_step_102 rfl ?_
                refine v_aload_n F 2 (q := 106) dX6_step_105 rfl rfl rfl ?_
                refine v_get F (C := RX6) (T := TX6) (N := 25) (ci := 6) (v := VI (S 0 7)) 0 12 hin6 rfl mw_at0 (by decide) (by decide +kernel) rfl (q := 109) dX6_step_106 rfl ?_
                have b_12 := And.intro (hI.sc 7 (by decide)) (hI.1 0 7 (by omega)).2
                refine v_iload_n F 3 (q := 110) dX6_step_109 rfl rfl rfl ?_
                refine v_iast F (j := (S 0 7).toNat) 1 (mw k g (u2 S 1 ((S 0 7).toNat) a0) (u2 Y 0 0 0)) mw_at1 (by omega) (by omega) (by decide) (mw_row1 ((S 0 7).toNat) _) (q := 111) dX6_step_110 rfl ?_
                refine v_aload_n F 2 (q := 112) dX6_step_111 rfl rfl rfl ?_
                refine v_get F (C := RX6) (T := TX6) (N := 25) (ci := 6) (v := .ref (g 2)) 0 15 hin6 rfl mw_at0 (by decide) (by decide +kernel) rfl (q := 115) dX6_step_112 rfl ?_
                refine v_aload_n F 2 (q := 116) dX6_step_115 rfl rfl rfl ?_
                refine v_get F (C := RX6) (T := TX6) (N := 25) (ci := 6) (v := VI (S 0 7)) 0 12 hin6 rfl mw_at0 (by decide) (by decide +kernel) rfl (q := 119) dX6_step_116 rfl ?_
                have b_13 := And.intro (hI.sc 7 (by decide)) (hI.1 0 7 (by omega)).2
                refine v_iload_n F 4 (q := 120) dX6_step_119 rfl rfl rfl ?_
                refine v_iast F (j := (S 0 7).toNat) 2 (mw k g (u2 (u2 S 1 ((S 0 7).toNat) a0) 2 ((S 0 7).toNat) a1) (u2 Y 0 0 0)) mw_at2 (by omega) (by omega) (by decide) (mw_row2 ((S 0 7).toNat) _) (q := 121) dX6_step_120 rfl ?_
                refine v_aload_n F 2 (q := 122) dX6_step_121 rfl rfl rfl ?_
                refine v_dup F (q := 123) dX6_step_122 rfl rfl ?_
                refine v_get F (C := RX6) (T := TX6) (N := 25) (ci := 6) (v := VI (codeF (S 4))) 0 13 hin6 rfl mw_at0 (by decide) (by decide +kernel) rfl (q := 126) dX6_step_123 rfl ?_
                refine v_bipush F (q := 128) dX6_step_126 rfl rfl ?_
                refine v_aload_n F 2 (q := 129) dX6_step_128 rfl rfl rfl ?_
                refine v_get F (C := RX6) (T := TX6) (N := 25) (ci := 6) (v := VI (S 0 7)) 0 12 hin6 rfl mw_at0 (by decide) (by decide +kernel) rfl (q := 132) dX6_step_129 rfl ?_
                have b_14 := And.intro (hI.sc 7 (by decide)) (hI.1 0 7 (by omega)).2
                refine v_steq (st9 := [VI (((S 0 7).toNat : Nat) : Int), VI 9, VI (codeF (S 4)), .ref (g 0)]) (by rw [show (((S 0 7).toNat : Nat) : Int) = S 0 7 from (by omega)]) ?_
                refine v_callSi0 F (kX6_unit hst (k := k) (w := mw k g (u2 (u2 S 1 ((S 0 7).toNat) a0) 2 ((S 0 7).toNat) a1) (u2 Y 0 0 0)) (m := (S 0 7).toNat) (by omega)) gX6_step_X6_unit rfl hdX6_unit ⟨by decide, by decide⟩ rfl rfl (Nat.le_of_ble_eq_true rfl) ⟨(Nat.zero_le _), (Nat.zero_le _)⟩ (q := 135) dX6_step_132 rfl ?_
                rintro a_15 _ ⟨rfl, ⟨h_15, hc_15⟩⟩
                refine v_imul F (q := 136) dX6_step_135 rfl ?_
                refine v_iadd F (q := 137) dX6_step_136 rfl ?_
                refine v_put F (C := RX6) (T := TX6) (N := 25) (ci := 6) (ty := .int) 0 13 (mw k g (u2 (u2 (u2 S 1 ((S 0 7).toNat) a0) 2 ((S 0 7).toNat) a1) 4 ((S 0 7).toNat) 9) (u2 Y 0 0 0)) hin6 tyX6 tyX6_ok nmX6 rfl mw_at0 (by decide) (by decide +kernel) rfl (by decide +kernel) rfl rfl (Nat.le_of_ble_eq_true rfl) (mw_lean1 (S 0 7).toNat 9 _ (by rw [code_add (f := S 4) (m := (S 0 7).toNat) (by omega) 9 (fun o _ => by have h0 := hI.none (S 0 7).toNat (by omega); by_cases e9 : o = (S 0 7).toNat; (subst e9; simp [u2, h0.1]); simp [u2, e9])]; rw [← (show _ = unitN (S 0 7).toNat from by assumption)]; try rfl)) (q := 140) dX6_step_137 rfl ?_
                refine v_aload_n F 2 (q := 141) dX6_step_140 rfl rfl rfl ?_
                refine v_dup F (q := 142) dX6_step_141 rfl rfl ?_
                refine v_get F (C := RX6) (T := TX6) (N := 25) (ci := 6) (v := VI (S 0 7)) 0 12 hin6 rfl mw_at0 (by decide) (by decide +kernel) rfl (q := 145) dX6_step_142 rfl ?_
                have b_16 := And.intro (hI.sc 7 (by decide)) (hI.1 0 7 (by omega)).2
                refine v_const F (q := 146) dX6_step_145 rfl ?_
                refine v_iadd F (q := 147) dX6_step_146 rfl ?_
                refine v_put F (C := RX6) (T := TX6) (N := 25) (ci := 6) (ty := .int) 0 12 (mw k g (u2 (u2 (u2 (u2 S 1 ((S 0 7).toNat) a0) 2 ((S 0 7).toNat) a1) 4 ((S 0 7).toNat) 9) 0 7 ((S 0 7) + 1)) (u2 Y 0 0 0)) hin6 tyX6 tyX6_ok nmX6 rfl mw_at0 (by decide) (by decide +kernel) rfl (by decide +kernel) rfl rfl (Nat.le_of_ble_eq_true rfl) (mw_mod12 _) (q := 150) dX6_step_147 rfl ?_
                refine v_aload_n F 2 (q := 151) dX6_step_150 rfl rfl rfl ?_
                refine v_get F (C := RX6) (T := TX6) (N := 25) (ci := 6) (v := VI ((S 0 7) + 1)) 0 12 hin6 rfl mw_at0 (by decide) (by decide +kernel) rfl (q := 154) dX6_step_151 rfl ?_
                refine v_const F (q := 155) dX6_step_154 rfl ?_
                refine v_isub F (q := 156) dX6_step_155 rfl ?_
                exact ret _ _ _ _ _ _ (Nat.zero_le _) (Nat.zero_le _) dX6_step_156 (⟨(u2 Y 0 0 0), by show (0 : Int) = _; unfold eStep; grind, Or.inl ⟨by unfold eStep; grind, by omega, rfl⟩⟩)
              · refine v_aload_n F 2 (q := 96) dX6_step_95 rfl rfl rfl ?_
                refine v_const F (q := 97) dX6_step_96 rfl ?_
                refine v_callVi0 F (kX6_no hst (k := k) (g := g) (S := S) (Y := (u2 Y 0 0 0)) hI (a0 := 2)) gX6_step_X6_no rfl hdX6_no ⟨by decide, by decide⟩ 0 mw_at0 rfl rfl rfl (Nat.le_of_ble_eq_true rfl) ⟨(Nat.zero_le _), (Nat.zero_le _)⟩ (q := 100) dX6_step_97 rfl ?_
                rintro a_17 _ ⟨rfl, rfl⟩
                exact ret _ _ _ _ _ _ (Nat.zero_le _) (Nat.zero_le _) dX6_step_100 (⟨(u2 (u2 Y 0 0 0) 0 0 2), by show (2 : Int) = _; unfold eStep; grind, Or.inr ⟨by unfold eStep; grind, rfl⟩⟩)
            · refine v_iload_n F 1 (q := 67) dX6_step_66 rfl rfl rfl ?_
              refine v_aload_n F 2 (q := 68) dX6_step_67 rfl rfl rfl ?_
              refine v_get F (C := RX6) (T := TX6) (N := 25) (ci := 6) (v := .ref (g 1)) 0 14 hin6 rfl mw_at0 (by decide) (by decide +kernel) rfl (q := 71) dX6_step_68 rfl ?_
              refine v_iload F 0 (q := 73) dX6_step_71 rfl rfl ?_
              refine v_iald F (j := m) 1 mw_at1 rfl (by omega) (by decide) (q := 74) dX6_step_73 rfl ?_
              have b_18 := And.intro (hI.pos 1 m (by omega) (by omega)) (hI.1 1 m (by omega)).2
              refine v_iload_n F 3 (q := 75) dX6_step_74 rfl rfl rfl ?_
              refine v_icmp_eq F (tgt := 82) (q := 78) (by omega) (by omega) dX6_step_75 rfl rfl (fun h_19 => ?_) (fun h_19 => ?_)
              · refine v_const F (q := 83) dX6_step_82 rfl ?_
                refine v_iand F (q := 84) (z := 0) dX6_step_83 (by rw [and_00]) rfl ?_
                refine v_istore_n F (q := 85) [(3, VI 0), (4, VI ((m : Nat) : Int)), (0, .ref (g 0)), (1, VI a0), (2, VI a1)] dX6_step_84 rfl (by decide) rfl rfl ?_
                refine v_iinc F (q := 88) (z := ((m + 1 : Nat) : Int)) 1 [(4, VI ((m + 1 : Nat) : Int)), (3, VI 0), (0, .ref (g 0)), (1, VI a0), (2, VI a1)] dX6_step_85 rfl (by decide) (by omega) rfl rfl ?_
                refine v_goto F (tgt := 57) dX6_step_88 rfl ?_
                exact ih_57 0 (m + 1) (by exact ⟨by omega, by omega, by grind⟩) (by omega)
              · refine v_const F (q := 79) dX6_step_78 rfl ?_
                refine v_goto F (tgt := 83) dX6_step_79 rfl ?_
                refine v_iand F (q := 84) (z := can) dX6_step_83 (and_1 hv2) rfl ?_
                refine v_istore_n F (q := 85) [(3, VI can), (4, VI ((m : Nat) : Int)), (0, .ref (g 0)), (1, VI a0), (2, VI a1)] dX6_step_84 rfl (by decide) rfl rfl ?_
                refine v_iinc F (q := 88) (z := ((m + 1 : Nat) : Int)) 1 [(4, VI ((m + 1 : Nat) : Int)), (3, VI can), (0, .ref (g 0)), (1, VI a0), (2, VI a1)] dX6_step_85 rfl (by decide) (by omega) rfl rfl ?_
                refine v_goto F (tgt := 57) dX6_step_88 rfl ?_
                exact ih_57 can (m + 1) (by exact ⟨by omega, by omega, by grind⟩) (by omega)
        exact L57_8 _ 0 0 (by exact ⟨by omega, by omega, by grind⟩) (Nat.lt_succ_self _)
      · refine v_aload_n F 0 (q := 41) dX6_step_40 rfl rfl rfl ?_
        refine v_get F (C := RX6) (T := TX6) (N := 25) (ci := 6) (v := VI (S 0 7)) 0 12 hin6 rfl mw_at0 (by decide) (by decide +kernel) rfl (q := 44) dX6_step_41 rfl ?_
        have b_20 := And.intro (hI.sc 7 (by decide)) (hI.1 0 7 (by omega)).2
        refine v_const F (q := 45) dX6_step_44 rfl ?_
        refine v_icmp_ge F (tgt := 52) (q := 48) (by omega) (by omega) dX6_step_45 rfl rfl (fun h_21 => ?_) (fun h_21 => ?_)
        · refine v_const F (q := 53) dX6_step_52 rfl ?_
          refine v_istore_n F (q := 54) [(3, VI 0), (0, .ref (g 0)), (1, VI a0), (2, VI a1)] dX6_step_53 rfl (by decide) rfl rfl ?_
          refine v_const F (q := 55) dX6_step_54 rfl ?_
          refine v_istore F (q := 57) [(4, VI 0), (3, VI 0), (0, .ref (g 0)), (1, VI a0), (2, VI a1)] dX6_step_55 (by decide) rfl rfl ?_
          have L57_22 : ∀ (fu : Nat) (can : Int) (m : Nat), ((m : Int) ≤ S 0 7 ∧ (0 ≤ can ∧ can ≤ 1) ∧ (can = 1 ↔ (S 0 9 = 0 ∧ S 0 7 < 3 ∧ ∀ j : Nat, j < m → ¬ S 1 j = a0))) → (S 0 7 - m).toNat < fu → V XX (mw k g S (u2 Y 0 0 0)) 0 0 57 [(4, VI ((m : Nat) : Int)), (3, VI can), (0, .ref (g 0)), (1, VI a0), (2, VI a1)] [] := by
            intro fu_57
            induction fu_57 with
            | zero => intros; omega
            | succ fu_57 ih_57 =>
              intro can m hv hm_57
              obtain ⟨hv1, hv2, hv3⟩ := hv
              refine v_iload F 0 (q := 59) dX6_step_57 rfl rfl ?_
              refine v_aload_n F 2 (q := 60) dX6_step_59 rfl rfl rfl ?_
              refine v_get F (C := RX6) (T := TX6) (N := 25) (ci := 6) (v := VI (S 0 7)) 0 12 hin6 rfl mw_at0 (by decide) (by decide +kernel) rfl (q := 63) dX6_step_60 rfl ?_
              have b_23 := And.intro (hI.sc 7 (by decide)) (hI.1 0 7 (by omega)).2
              refine v_icmp_ge F (tgt := 91) (q := 66) (by omega) (by omega) dX6_step_63 rfl rfl (fun h_24 => ?_) (fun h_24 => ?_)
              · have hplc := plc_all S a0 (m := m) (by omega)
                rw [← hplc] at hv3
                refine v_iload_n F 1 (q := 92) dX6_step_91 rfl rfl rfl ?_
                refine v_if_ne F (tgt := 101) (q := 95) (by omega) dX6_step_92 rfl rfl (fun h_25 => ?_) (fun h_25 => ?_)
                · refine v_aload_n F 2 (q := 102) dX6_step_101 rfl rfl rfl ?_
                  refine v_get F (C := RX6) (T := TX6) (N := 25) (ci := 6) (v := .ref (g 1)) 0 14 hin6 rfl mw_at0 (by decide) (by decide +kernel) rfl (q := 105) dX6_step_102 rfl ?_
                  refine v_aload_n F 2 (q := 106) dX6_step_105 rfl rfl rfl ?_
                  refine v_get F (C := RX6) (T := TX6) (N := 25) (ci := 6) (v := VI (S 0 7)) 0 12 hin6 rfl mw_at0 (by decide) (by decide +kernel) rfl (q := 109) dX6_step_106 rfl ?_
                  have b_26 := And.intro (hI.sc 7 (by decide)) (hI.1 0 7 (by omega)).2
                  refine v_iload_n F 3 (q := 110) dX6_step_109 rfl rfl rfl ?_
                  refine v_iast F (j := (S 0 7).toNat) 1 (mw k g (u2 S 1 ((S 0 7).toNat) a0) (u2 Y 0 0 0)) mw_at1 (by omega) (by omega) (by decide) (mw_row1 ((S 0 7).toNat) _) (q := 111) dX6_step_110 rfl ?_
                  refine v_aload_n F 2 (q := 112) dX6_step_111 rfl rfl rfl ?_
                  refine v_get F (C := RX6) (T := TX6) (N := 25) (ci := 6) (v := .ref (g 2)) 0 15 hin6 rfl mw_at0 (by decide) (by decide +kernel) rfl (q := 115) dX6_step_112 rfl ?_
                  refine v_aload_n F 2 (q := 116) dX6_step_115 rfl rfl rfl ?_
                  refine v_get F (C := RX6) (T := TX6) (N := 25) (ci := 6) (v := VI (S 0 7)) 0 12 hin6 rfl mw_at0 (by decide) (by decide +kernel) rfl (q := 119) dX6_step_116 rfl ?_
                  have b_27 := And.intro (hI.sc 7 (by decide)) (hI.1 0 7 (by omega)).2
                  refine v_iload_n F 4 (q := 120) dX6_step_119 rfl rfl rfl ?_
                  refine v_iast F (j := (S 0 7).toNat) 2 (mw k g (u2 (u2 S 1 ((S 0 7).toNat) a0) 2 ((S 0 7).toNat) a1) (u2 Y 0 0 0)) mw_at2 (by omega) (by omega) (by decide) (mw_row2 ((S 0 7).toNat) _) (q := 121) dX6_step_120 rfl ?_
                  refine v_aload_n F 2 (q := 122) dX6_step_121 rfl rfl rfl ?_
                  refine v_dup F (q := 123) dX6_step_122 rfl rfl ?_
                  refine v_get F (C := RX6) (T := TX6) (N := 25) (ci := 6) (v := VI (codeF (S 4))) 0 13 hin6 rfl mw_at0 (by decide) (by decide +kernel) rfl (q := 126) dX6_step_123 rfl ?_
                  refine v_bipush F (q := 128) dX6_step_126 rfl rfl ?_
                  refine v_aload_n F 2 (q := 129) dX6_step_128 rfl rfl rfl ?_
                  refine v_get F (C := RX6) (T := TX6) (N := 25) (ci := 6) (v := VI (S 0 7)) 0 12 hin6 rfl mw_at0 (by decide) (by decide +kernel) rfl (q := 132) dX6_step_129 rfl ?_
                  have b_28 := And.intro (hI.sc 7 (by decide)) (hI.1 0 7 (by omega)).2
                  refine v_steq (st9 := [VI (((S 0 7).toNat : Nat) : Int), VI 9, VI (codeF (S 4)), .ref (g 0)]) (by rw [show (((S 0 7).toNat : Nat) : Int) = S 0 7 from (by omega)]) ?_
                  refine v_callSi0 F (kX6_unit hst (k := k) (w := mw k g (u2 (u2 S 1 ((S 0 7).toNat) a0) 2 ((S 0 7).toNat) a1) (u2 Y 0 0 0)) (m := (S 0 7).toNat) (by omega)) gX6_step_X6_unit rfl hdX6_unit ⟨by decide, by decide⟩ rfl rfl (Nat.le_of_ble_eq_true rfl) ⟨(Nat.zero_le _), (Nat.zero_le _)⟩ (q := 135) dX6_step_132 rfl ?_
                  rintro a_29 _ ⟨rfl, ⟨h_29, hc_29⟩⟩
                  refine v_imul F (q := 136) dX6_step_135 rfl ?_
                  refine v_iadd F (q := 137) dX6_step_136 rfl ?_
                  refine v_put F (C := RX6) (T := TX6) (N := 25) (ci := 6) (ty := .int) 0 13 (mw k g (u2 (u2 (u2 S 1 ((S 0 7).toNat) a0) 2 ((S 0 7).toNat) a1) 4 ((S 0 7).toNat) 9) (u2 Y 0 0 0)) hin6 tyX6 tyX6_ok nmX6 rfl mw_at0 (by decide) (by decide +kernel) rfl (by decide +kernel) rfl rfl (Nat.le_of_ble_eq_true rfl) (mw_lean1 (S 0 7).toNat 9 _ (by rw [code_add (f := S 4) (m := (S 0 7).toNat) (by omega) 9 (fun o _ => by have h0 := hI.none (S 0 7).toNat (by omega); by_cases e9 : o = (S 0 7).toNat; (subst e9; simp [u2, h0.1]); simp [u2, e9])]; rw [← (show _ = unitN (S 0 7).toNat from by assumption)]; try rfl)) (q := 140) dX6_step_137 rfl ?_
                  refine v_aload_n F 2 (q := 141) dX6_step_140 rfl rfl rfl ?_
                  refine v_dup F (q := 142) dX6_step_141 rfl rfl ?_
                  refine v_get F (C := RX6) (T := TX6) (N := 25) (ci := 6) (v := VI (S 0 7)) 0 12 hin6 rfl mw_at0 (by decide) (by decide +kernel) rfl (q := 145) dX6_step_142 rfl ?_
                  have b_30 := And.intro (hI.sc 7 (by decide)) (hI.1 0 7 (by omega)).2
                  refine v_const F (q := 146) dX6_step_145 rfl ?_
                  refine v_iadd F (q := 147) dX6_step_146 rfl ?_
                  refine v_put F (C := RX6) (T := TX6) (N := 25) (ci := 6) (ty := .int) 0 12 (mw k g (u2 (u2 (u2 (u2 S 1 ((S 0 7).toNat) a0) 2 ((S 0 7).toNat) a1) 4 ((S 0 7).toNat) 9) 0 7 ((S 0 7) + 1)) (u2 Y 0 0 0)) hin6 tyX6 tyX6_ok nmX6 rfl mw_at0 (by decide) (by decide +kernel) rfl (by decide +kernel) rfl rfl (Nat.le_of_ble_eq_true rfl) (mw_mod12 _) (q := 150) dX6_step_147 rfl ?_
                  refine v_aload_n F 2 (q := 151) dX6_step_150 rfl rfl rfl ?_
                  refine v_get F (C := RX6) (T := TX6) (N := 25) (ci := 6) (v := VI ((S 0 7) + 1)) 0 12 hin6 rfl mw_at0 (by decide) (by decide +kernel) rfl (q := 154) dX6_step_151 rfl ?_
                  refine v_const F (q := 155) dX6_step_154 rfl ?_
                  refine v_isub F (q := 156) dX6_step_155 rfl ?_
                  exact ret _ _ _ _ _ _ (Nat.zero_le _) (Nat.zero_le _) dX6_step_156 (⟨(u2 Y 0 0 0), by show (0 : Int) = _; unfold eStep; grind, Or.inl ⟨by unfold eStep; grind, by omega, rfl⟩⟩)
                · refine v_aload_n F 2 (q := 96) dX6_step_95 rfl rfl rfl ?_
                  refine v_const F (q := 97) dX6_step_96 rfl ?_
                  refine v_callVi0 F (kX6_no hst (k := k) (g := g) (S := S) (Y := (u2 Y 0 0 0)) hI (a0 := 2)) gX6_step_X6_no rfl hdX6_no ⟨by decide, by decide⟩ 0 mw_at0 rfl rfl rfl (Nat.le_of_ble_eq_true rfl) ⟨(Nat.zero_le _), (Nat.zero_le _)⟩ (q := 100) dX6_step_97 rfl ?_
                  rintro a_31 _ ⟨rfl, rfl⟩
                  exact ret _ _ _ _ _ _ (Nat.zero_le _) (Nat.zero_le _) dX6_step_100 (⟨(u2 (u2 Y 0 0 0) 0 0 2), by show (2 : Int) = _; unfold eStep; grind, Or.inr ⟨by unfold eStep; grind, rfl⟩⟩)
              · refine v_iload_n F 1 (q := 67) dX6_step_66 rfl rfl rfl ?_
                refine v_aload_n F 2 (q := 68) dX6_step_67 rfl rfl rfl ?_
                refine v_get F (C := RX6) (T := TX6) (N := 25) (ci := 6) (v := .ref (g 1)) 0 14 hin6 rfl mw_at0 (by decide) (by decide +kernel) rfl (q := 71) dX6_step_68 rfl ?_
                refine v_iload F 0 (q := 73) dX6_step_71 rfl rfl ?_
                refine v_iald F (j := m) 1 mw_at1 rfl (by omega) (by decide) (q := 74) dX6_step_73 rfl ?_
                have b_32 := And.intro (hI.pos 1 m (by omega) (by omega)) (hI.1 1 m (by omega)).2
                refine v_iload_n F 3 (q := 75) dX6_step_74 rfl rfl rfl ?_
                refine v_icmp_eq F (tgt := 82) (q := 78) (by omega) (by omega) dX6_step_75 rfl rfl (fun h_33 => ?_) (fun h_33 => ?_)
                · refine v_const F (q := 83) dX6_step_82 rfl ?_
                  refine v_iand F (q := 84) (z := 0) dX6_step_83 (by rw [and_00]) rfl ?_
                  refine v_istore_n F (q := 85) [(3, VI 0), (4, VI ((m : Nat) : Int)), (0, .ref (g 0)), (1, VI a0), (2, VI a1)] dX6_step_84 rfl (by decide) rfl rfl ?_
                  refine v_iinc F (q := 88) (z := ((m + 1 : Nat) : Int)) 1 [(4, VI ((m + 1 : Nat) : Int)), (3, VI 0), (0, .ref (g 0)), (1, VI a0), (2, VI a1)] dX6_step_85 rfl (by decide) (by omega) rfl rfl ?_
                  refine v_goto F (tgt := 57) dX6_step_88 rfl ?_
                  exact ih_57 0 (m + 1) (by exact ⟨by omega, by omega, by grind⟩) (by omega)
                · refine v_const F (q := 79) dX6_step_78 rfl ?_
                  refine v_goto F (tgt := 83) dX6_step_79 rfl ?_
                  refine v_iand F (q := 84) (z := can) dX6_step_83 (and_1 hv2) rfl ?_
                  refine v_istore_n F (q := 85) [(3, VI can), (4, VI ((m : Nat) : Int)), (0, .ref (g 0)), (1, VI a0), (2, VI a1)] dX6_step_84 rfl (by decide) rfl rfl ?_
                  refine v_iinc F (q := 88) (z := ((m + 1 : Nat) : Int)) 1 [(4, VI ((m + 1 : Nat) : Int)), (3, VI can), (0, .ref (g 0)), (1, VI a0), (2, VI a1)] dX6_step_85 rfl (by decide) (by omega) rfl rfl ?_
                  refine v_goto F (tgt := 57) dX6_step_88 rfl ?_
                  exact ih_57 can (m + 1) (by exact ⟨by omega, by omega, by grind⟩) (by omega)
          exact L57_22 _ 0 0 (by exact ⟨by omega, by omega, by grind⟩) (Nat.lt_succ_self _)
        · refine v_const F (q := 49) dX6_step_48 rfl ?_
          refine v_goto F (tgt := 53) dX6_step_49 rfl ?_
          refine v_istore_n F (q := 54) [(3, VI 1), (0, .ref (g 0)), (1, VI a0), (2, VI a1)] dX6_step_53 rfl (by decide) rfl rfl ?_
          refine v_const F (q := 55) dX6_step_54 rfl ?_
          refine v_istore F (q := 57) [(4, VI 0), (3, VI 1), (0, .ref (g 0)), (1, VI a0), (2, VI a1)] dX6_step_55 (by decide) rfl rfl ?_
          have L57_34 : ∀ (fu : Nat) (can : Int) (m : Nat), ((m : Int) ≤ S 0 7 ∧ (0 ≤ can ∧ can ≤ 1) ∧ (can = 1 ↔ (S 0 9 = 0 ∧ S 0 7 < 3 ∧ ∀ j : Nat, j < m → ¬ S 1 j = a0))) → (S 0 7 - m).toNat < fu → V XX (mw k g S (u2 Y 0 0 0)) 0 0 57 [(4, VI ((m : Nat) : Int)), (3, VI can), (0, .ref (g 0)), (1, VI a0), (2, VI a1)] [] := by
            intro fu_57
            induction fu_57 with
            | zero => intros; omega
            | succ fu_57 ih_57 =>
              intro can m hv hm_57
              obtain ⟨hv1, hv2, hv3⟩ := hv
              refine v_iload F 0 (q := 59) dX6_step_57 rfl rfl ?_
              refine v_aload_n F 2 (q := 60) dX6_step_59 rfl rfl rfl ?_
              refine v_get F (C := RX6) (T := TX6) (N := 25) (ci := 6) (v := VI (S 0 7)) 0 12 hin6 rfl mw_at0 (by decide) (by decide +kernel) rfl (q := 63) dX6_step_60 rfl ?_
              have b_35 := And.intro (hI.sc 7 (by decide)) (hI.1 0 7 (by omega)).2
              refine v_icmp_ge F (tgt := 91) (q := 66) (by omega) (by omega) dX6_step_63 rfl rfl (fun h_36 => ?_) (fun h_36 => ?_)
              · have hplc := plc_all S a0 (m := m) (by omega)
                rw [← hplc] at hv3
                refine v_iload_n F 1 (q := 92) dX6_step_91 rfl rfl rfl ?_
                refine v_if_ne F (tgt := 101) (q := 95) (by omega) dX6_step_92 rfl rfl (fun h_37 => ?_) (fun h_37 => ?_)
                · refine v_aload_n F 2 (q := 102) dX6_step_101 rfl rfl rfl ?_
                  refine v_get F (C := RX6) (T := TX6) (N := 25) (ci := 6) (v := .ref (g 1)) 0 14 hin6 rfl mw_at0 (by decide) (by decide +kernel) rfl (q := 105) dX6_step_102 rfl ?_
                  refine v_aload_n F 2 (q := 106) dX6_step_105 rfl rfl rfl ?_
                  refine v_get F (C := RX6) (T := TX6) (N := 25) (ci := 6) (v := VI (S 0 7)) 0 12 hin6 rfl mw_at0 (by decide) (by decide +kernel) rfl (q := 109) dX6_step_106 rfl ?_
                  have b_38 := And.intro (hI.sc 7 (by decide)) (hI.1 0 7 (by omega)).2
                  refine v_iload_n F 3 (q := 110) dX6_step_109 rfl rfl rfl ?_
                  refine v_iast F (j := (S 0 7).toNat) 1 (mw k g (u2 S 1 ((S 0 7).toNat) a0) (u2 Y 0 0 0)) mw_at1 (by omega) (by omega) (by decide) (mw_row1 ((S 0 7).toNat) _) (q := 111) dX6_step_110 rfl ?_
                  refine v_aload_n F 2 (q := 112) dX6_step_111 rfl rfl rfl ?_
                  refine v_get F (C := RX6) (T := TX6) (N := 25) (ci := 6) (v := .ref (g 2)) 0 15 hin6 rfl mw_at0 (by decide) (by decide +kernel) rfl (q := 115) dX6_step_112 rfl ?_
                  refine v_aload_n F 2 (q := 116) dX6_step_115 rfl rfl rfl ?_
                  refine v_get F (C := RX6) (T := TX6) (N := 25) (ci := 6) (v := VI (S 0 7)) 0 12 hin6 rfl mw_at0 (by decide) (by decide +kernel) rfl (q := 119) dX6_step_116 rfl ?_
                  have b_39 := And.intro (hI.sc 7 (by decide)) (hI.1 0 7 (by omega)).2
                  refine v_iload_n F 4 (q := 120) dX6_step_119 rfl rfl rfl ?_
                  refine v_iast F (j := (S 0 7).toNat) 2 (mw k g (u2 (u2 S 1 ((S 0 7).toNat) a0) 2 ((S 0 7).toNat) a1) (u2 Y 0 0 0)) mw_at2 (by omega) (by omega) (by decide) (mw_row2 ((S 0 7).toNat) _) (q := 121) dX6_step_120 rfl ?_
                  refine v_aload_n F 2 (q := 122) dX6_step_121 rfl rfl rfl ?_
                  refine v_dup F (q := 123) dX6_step_122 rfl rfl ?_
                  refine v_get F (C := RX6) (T := TX6) (N := 25) (ci := 6) (v := VI (codeF (S 4))) 0 13 hin6 rfl mw_at0 (by decide) (by decide +kernel) rfl (q := 126) dX6_step_123 rfl ?_
                  refine v_bipush F (q := 128) dX6_step_126 rfl rfl ?_
                  refine v_aload_n F 2 (q := 129) dX6_step_128 rfl rfl rfl ?_
                  refine v_get F (C := RX6) (T := TX6) (N := 25) (ci := 6) (v := VI (S 0 7)) 0 12 hin6 rfl mw_at0 (by decide) (by decide +kernel) rfl (q := 132) dX6_step_129 rfl ?_
                  have b_40 := And.intro (hI.sc 7 (by decide)) (hI.1 0 7 (by omega)).2
                  refine v_steq (st9 := [VI (((S 0 7).toNat : Nat) : Int), VI 9, VI (codeF (S 4)), .ref (g 0)]) (by rw [show (((S 0 7).toNat : Nat) : Int) = S 0 7 from (by omega)]) ?_
                  refine v_callSi0 F (kX6_unit hst (k := k) (w := mw k g (u2 (u2 S 1 ((S 0 7).toNat) a0) 2 ((S 0 7).toNat) a1) (u2 Y 0 0 0)) (m := (S 0 7).toNat) (by omega)) gX6_step_X6_unit rfl hdX6_unit ⟨by decide, by decide⟩ rfl rfl (Nat.le_of_ble_eq_true rfl) ⟨(Nat.zero_le _), (Nat.zero_le _)⟩ (q := 135) dX6_step_132 rfl ?_
                  rintro a_41 _ ⟨rfl, ⟨h_41, hc_41⟩⟩
                  refine v_imul F (q := 136) dX6_step_135 rfl ?_
                  refine v_iadd F (q := 137) dX6_step_136 rfl ?_
                  refine v_put F (C := RX6) (T := TX6) (N := 25) (ci := 6) (ty := .int) 0 13 (mw k g (u2 (u2 (u2 S 1 ((S 0 7).toNat) a0) 2 ((S 0 7).toNat) a1) 4 ((S 0 7).toNat) 9) (u2 Y 0 0 0)) hin6 tyX6 tyX6_ok nmX6 rfl mw_at0 (by decide) (by decide +kernel) rfl (by decide +kernel) rfl rfl (Nat.le_of_ble_eq_true rfl) (mw_lean1 (S 0 7).toNat 9 _ (by rw [code_add (f := S 4) (m := (S 0 7).toNat) (by omega) 9 (fun o _ => by have h0 := hI.none (S 0 7).toNat (by omega); by_cases e9 : o = (S 0 7).toNat; (subst e9; simp [u2, h0.1]); simp [u2, e9])]; rw [← (show _ = unitN (S 0 7).toNat from by assumption)]; try rfl)) (q := 140) dX6_step_137 rfl ?_
                  refine v_aload_n F 2 (q := 141) dX6_step_140 rfl rfl rfl ?_
                  refine v_dup F (q := 142) dX6_step_141 rfl rfl ?_
                  refine v_get F (C := RX6) (T := TX6) (N := 25) (ci := 6) (v := VI (S 0 7)) 0 12 hin6 rfl mw_at0 (by decide) (by decide +kernel) rfl (q := 145) dX6_step_142 rfl ?_
                  have b_42 := And.intro (hI.sc 7 (by decide)) (hI.1 0 7 (by omega)).2
                  refine v_const F (q := 146) dX6_step_145 rfl ?_
                  refine v_iadd F (q := 147) dX6_step_146 rfl ?_
                  refine v_put F (C := RX6) (T := TX6) (N := 25) (ci := 6) (ty := .int) 0 12 (mw k g (u2 (u2 (u2 (u2 S 1 ((S 0 7).toNat) a0) 2 ((S 0 7).toNat) a1) 4 ((S 0 7).toNat) 9) 0 7 ((S 0 7) + 1)) (u2 Y 0 0 0)) hin6 tyX6 tyX6_ok nmX6 rfl mw_at0 (by decide) (by decide +kernel) rfl (by decide +kernel) rfl rfl (Nat.le_of_ble_eq_true rfl) (mw_mod12 _) (q := 150) dX6_step_147 rfl ?_
                  refine v_aload_n F 2 (q := 151) dX6_step_150 rfl rfl rfl ?_
                  refine v_get F (C := RX6) (T := TX6) (N := 25) (ci := 6) (v := VI ((S 0 7) + 1)) 0 12 hin6 rfl mw_at0 (by decide) (by decide +kernel) rfl (q := 154) dX6_step_151 rfl ?_
                  refine v_const F (q := 155) dX6_step_154 rfl ?_
                  refine v_isub F (q := 156) dX6_step_155 rfl ?_
                  exact ret _ _ _ _ _ _ (Nat.zero_le _) (Nat.zero_le _) dX6_step_156 (⟨(u2 Y 0 0 0), by show (0 : Int) = _; unfold eStep; grind, Or.inl ⟨by unfold eStep; grind, by omega, rfl⟩⟩)
                · refine v_aload_n F 2 (q := 96) dX6_step_95 rfl rfl rfl ?_
                  refine v_const F (q := 97) dX6_step_96 rfl ?_
                  refine v_callVi0 F (kX6_no hst (k := k) (g := g) (S := S) (Y := (u2 Y 0 0 0)) hI (a0 := 2)) gX6_step_X6_no rfl hdX6_no ⟨by decide, by decide⟩ 0 mw_at0 rfl rfl rfl (Nat.le_of_ble_eq_true rfl) ⟨(Nat.zero_le _), (Nat.zero_le _)⟩ (q := 100) dX6_step_97 rfl ?_
                  rintro a_43 _ ⟨rfl, rfl⟩
                  exact ret _ _ _ _ _ _ (Nat.zero_le _) (Nat.zero_le _) dX6_step_100 (⟨(u2 (u2 Y 0 0 0) 0 0 2), by show (2 : Int) = _; unfold eStep; grind, Or.inr ⟨by unfold eStep; grind, rfl⟩⟩)
              · refine v_iload_n F 1 (q := 67) dX6_step_66 rfl rfl rfl ?_
                refine v_aload_n F 2 (q := 68) dX6_step_67 rfl rfl rfl ?_
                refine v_get F (C := RX6) (T := TX6) (N := 25) (ci := 6) (v := .ref (g 1)) 0 14 hin6 rfl mw_at0 (by decide) (by decide +kernel) rfl (q := 71) dX6_step_68 rfl ?_
                refine v_iload F 0 (q := 73) dX6_step_71 rfl rfl ?_
                refine v_iald F (j := m) 1 mw_at1 rfl (by omega) (by decide) (q := 74) dX6_step_73 rfl ?_
                have b_44 := And.intro (hI.pos 1 m (by omega) (by omega)) (hI.1 1 m (by omega)).2
                refine v_iload_n F 3 (q := 75) dX6_step_74 rfl rfl rfl ?_
                refine v_icmp_eq F (tgt := 82) (q := 78) (by omega) (by omega) dX6_step_75 rfl rfl (fun h_45 => ?_) (fun h_45 => ?_)
                · refine v_const F (q := 83) dX6_step_82 rfl ?_
                  refine v_iand F (q := 84) (z := 0) dX6_step_83 (by rw [and_00]) rfl ?_
                  refine v_istore_n F (q := 85) [(3, VI 0), (4, VI ((m : Nat) : Int)), (0, .ref (g 0)), (1, VI a0), (2, VI a1)] dX6_step_84 rfl (by decide) rfl rfl ?_
                  refine v_iinc F (q := 88) (z := ((m + 1 : Nat) : Int)) 1 [(4, VI ((m + 1 : Nat) : Int)), (3, VI 0), (0, .ref (g 0)), (1, VI a0), (2, VI a1)] dX6_step_85 rfl (by decide) (by omega) rfl rfl ?_
                  refine v_goto F (tgt := 57) dX6_step_88 rfl ?_
                  exact ih_57 0 (m + 1) (by exact ⟨by omega, by omega, by grind⟩) (by omega)
                · refine v_const F (q := 79) dX6_step_78 rfl ?_
                  refine v_goto F (tgt := 83) dX6_step_79 rfl ?_
                  refine v_iand F (q := 84) (z := can) dX6_step_83 (and_1 hv2) rfl ?_
                  refine v_istore_n F (q := 85) [(3, VI can), (4, VI ((m : Nat) : Int)), (0, .ref (g 0)), (1, VI a0), (2, VI a1)] dX6_step_84 rfl (by decide) rfl rfl ?_
                  refine v_iinc F (q := 88) (z := ((m + 1 : Nat) : Int)) 1 [(4, VI ((m + 1 : Nat) : Int)), (3, VI can), (0, .ref (g 0)), (1, VI a0), (2, VI a1)] dX6_step_85 rfl (by decide) (by omega) rfl rfl ?_
                  refine v_goto F (tgt := 57) dX6_step_88 rfl ?_
                  exact ih_57 can (m + 1) (by exact ⟨by omega, by omega, by grind⟩) (by omega)
          exact L57_34 _ 1 0 (by exact ⟨by omega, by omega, by grind⟩) (Nat.lt_succ_self _)
    · refine v_if_ne F (tgt := 33) (q := 27) R32_0 dX6_step_24 rfl rfl (fun h_46 => absurd h_46 (by omega)) (fun h_46 => ?_)
      refine v_aload_n F 0 (q := 28) dX6_step_27 rfl rfl rfl ?_
      refine v_const F (q := 29) dX6_step_28 rfl ?_
      refine v_callVi0 F (kX6_no hst (k := k) (g := g) (S := S) (Y := (u2 Y 0 0 0)) hI (a0 := 1)) gX6_step_X6_no rfl hdX6_no ⟨by decide, by decide⟩ 0 mw_at0 rfl rfl rfl (Nat.le_of_ble_eq_true rfl) ⟨(Nat.zero_le _), (Nat.zero_le _)⟩ (q := 32) dX6_step_29 rfl ?_
      rintro a_47 _ ⟨rfl, rfl⟩
      exact ret _ _ _ _ _ _ (Nat.zero_le _) (Nat.zero_le _) dX6_step_32 (⟨(u2 (u2 Y 0 0 0) 0 0 1), by show (1 : Int) = _; unfold eStep; grind, Or.inr ⟨by unfold eStep; grind, rfl⟩⟩)
  · refine v_if_eq F (tgt := 27) (q := 17) R32_0 dX6_step_14 rfl rfl (fun h_48 => ?_) (fun h_48 => absurd h_48 (by omega))
    refine v_aload_n F 0 (q := 28) dX6_step_27 rfl rfl rfl ?_
    refine v_const F (q := 29) dX6_step_28 rfl ?_
    refine v_callVi0 F (kX6_no hst (k := k) (g := g) (S := S) (Y := (u2 Y 0 0 0)) hI (a0 := 1)) gX6_step_X6_no rfl hdX6_no ⟨by decide, by decide⟩ 0 mw_at0 rfl rfl rfl (Nat.le_of_ble_eq_true rfl) ⟨(Nat.zero_le _), (Nat.zero_le _)⟩ (q := 32) dX6_step_29 rfl ?_
    rintro a_49 _ ⟨rfl, rfl⟩
    exact ret _ _ _ _ _ _ (Nat.zero_le _) (Nat.zero_le _) dX6_step_32 (⟨(u2 (u2 Y 0 0 0) 0 0 1), by show (1 : Int) = _; unfold eStep; grind, Or.inr ⟨by unfold eStep; grind, rfl⟩⟩)
theorem hdX6_yard : yX6_yard.cls = RX6 ∧ yX6_yard.cls ≠ "java/lang/invoke/MethodHandle" ∧ yX6_yard.cls ≠ "java/lang/invoke/VarHandle" ∧ (parseMethodDescriptor yX6_yard.desc).map (fun d => d.parameters.length) = some 2 := by decide +kernel
set_option maxRecDepth 100000 in
set_option maxHeartbeats 4000000 in
theorem kX6_yard {l : Launch} (hst : l.stackTraces = false) {k : Nat → ClassId} {g : Nat → Nat} {S Y : Nat → Nat → Int} (hI : Inv S) {a0 a1 : Int} (g0 : R32 a0) (g1 : R32 a1) : v_Ci l k yX6_yard wsX6_yard ({ frames := 2, cells := 0, slots := 0, locals := 43 } : Room) [.ref (g 0), VI a0, VI a1] (mw k g S Y) (fun a u => ∃ Y9 : Nat → Nat → Int, Y9 0 0 = eYard S a0 a1 ∧ ((eYard S a0 a1 = 0 ∧ a = S 3 a0.toNat + 1 ∧ u = mw k g (sYard S a0 a1) Y9) ∨ (¬ eYard S a0 a1 = 0 ∧ u = mw k g S Y9))) := by
  refine v_ofI (cc := cX6_yard) (nL := 3) (by decide +kernel) rfl hst (Nat.le_of_ble_eq_true rfl) (fun _ _ _ => rfl) (fun XX F ret => ?_)
  have hin6 : ∀ w ∈ wsX60, w ∈ wsX6_yard := by decide +kernel
  have b7 := hI.mc
  have b8 := hI.cc
  show V XX (mw k g S Y) 0 0 0 [(0, .ref (g 0)), (1, VI a0), (2, VI a1)] []
  refine v_aload_n F 0 (q := 1) dX6_yard_0 rfl rfl rfl ?_
  refine v_const F (q := 2) dX6_yard_1 rfl ?_
  refine v_put F (C := RX6) (T := TX6) (N := 25) (ci := 6) (ty := .int) 0 0 (mw k g S (u2 Y 0 0 0)) hin6 tyX6 tyX6_ok nmX6 rfl mw_at0 (by decide) (by decide +kernel) rfl (by decide +kernel) rfl rfl (Nat.le_of_ble_eq_true rfl) (mw_thrown _) (q := 5) dX6_yard_2 rfl ?_
  refine v_aload_n F 0 (q := 6) dX6_yard_5 rfl rfl rfl ?_
  refine v_iload_n F 1 (q := 7) dX6_yard_6 rfl rfl rfl ?_
  refine v_callVi0 F (kX6_isMast hst (k := k) (g := g) (S := S) (Y := (u2 Y 0 0 0)) hI (a0 := a0) (by omega)) gX6_yard_X6_isMast rfl hdX6_isMast ⟨by decide, by decide⟩ 0 mw_at0 rfl rfl rfl (Nat.le_of_ble_eq_true rfl) ⟨(Nat.zero_le _), (Nat.zero_le _)⟩ (q := 10) dX6_yard_7 rfl ?_
  rintro _ _ ⟨rfl, ⟨rfl, h_1⟩ | ⟨rfl, h_1⟩⟩
  · refine v_if_ne F (tgt := 19) (q := 13) (by omega) dX6_yard_10 rfl rfl (fun h_2 => ?_) (fun h_2 => absurd h_2 (by omega))
    refine v_iload_n F 2 (q := 20) dX6_yard_19 rfl rfl rfl ?_
    refine v_const F (q := 21) dX6_yard_20 rfl ?_
    refine v_bipush F (q := 23) dX6_yard_21 rfl rfl ?_
    refine v_callSi0 F (kX6_isBetween hst (k := k) (w := mw k g S (u2 Y 0 0 0)) (a0 := a1) (a1 := 1) (a2 := 20) (by omega) (by omega) (by omega)) gX6_yard_X6_isBetween rfl hdX6_isBetween ⟨by decide, by decide⟩ rfl rfl (Nat.le_of_ble_eq_true rfl) ⟨(Nat.zero_le _), (Nat.zero_le _)⟩ (q := 26) dX6_yard_23 rfl ?_
    rintro _ _ ⟨rfl, ⟨rfl, h_3⟩ | ⟨rfl, h_3⟩⟩
    · refine v_if_ne F (tgt := 35) (q := 29) (by omega) dX6_yard_26 rfl rfl (fun h_4 => ?_) (fun h_4 => absurd h_4 (by omega))
      refine v_aload_n F 0 (q := 36) dX6_yard_35 rfl rfl rfl ?_
      refine v_get F (C := RX6) (T := TX6) (N := 25) (ci := 6) (v := VI (S 0 9)) 0 8 hin6 rfl mw_at0 (by decide) (by decide +kernel) rfl (q := 39) dX6_yard_36 rfl ?_
      have b_5 := hI.isin
      refine v_if_ne F (tgt := 52) (q := 42) (by omega) dX6_yard_39 rfl rfl (fun h_6 => ?_) (fun h_6 => ?_)
      · refine v_aload_n F 0 (q := 53) dX6_yard_52 rfl rfl rfl ?_
        refine v_const F (q := 54) dX6_yard_53 rfl ?_
        refine v_callVi0 F (kX6_no hst (k := k) (g := g) (S := S) (Y := (u2 Y 0 0 0)) hI (a0 := 3)) gX6_yard_X6_no rfl hdX6_no ⟨by decide, by decide⟩ 0 mw_at0 rfl rfl rfl (Nat.le_of_ble_eq_true rfl) ⟨(Nat.zero_le _), (Nat.zero_le _)⟩ (q := 57) dX6_yard_54 rfl ?_
        rintro a_7 _ ⟨rfl, rfl⟩
        exact ret _ _ _ _ _ _ (Nat.zero_le _) (Nat.zero_le _) dX6_yard_57 (⟨(u2 (u2 Y 0 0 0) 0 0 3), by show (3 : Int) = _; unfold eYard; grind, Or.inr ⟨by unfold eYard; grind, rfl⟩⟩)
      · refine v_aload_n F 0 (q := 43) dX6_yard_42 rfl rfl rfl ?_
        refine v_get F (C := RX6) (T := TX6) (N := 25) (ci := 6) (v := .ref (g 3)) 0 16 hin6 rfl mw_at0 (by decide) (by decide +kernel) rfl (q := 46) dX6_yard_43 rfl ?_
        refine v_iload_n F 1 (q := 47) dX6_yard_46 rfl rfl rfl ?_
        refine v_iald F (j := a0.toNat) 3 mw_at3 (by omega) (by omega) (by decide) (q := 48) dX6_yard_47 rfl ?_
        have b_8 := hI.yc (a0.toNat)
        refine v_const F (q := 49) dX6_yard_48 rfl ?_
        refine v_icmp_ne F (tgt := 58) (q := 52) (by omega) (by omega) dX6_yard_49 rfl rfl (fun h_9 => ?_) (fun h_9 => ?_)
        · refine v_aload_n F 0 (q := 59) dX6_yard_58 rfl rfl rfl ?_
          refine v_get F (C := RX6) (T := TX6) (N := 25) (ci := 6) (v := .ref (g 4)) 0 17 hin6 rfl mw_at0 (by decide) (by decide +kernel) rfl (q := 62) dX6_yard_59 rfl ?_
          refine v_const F (q := 63) dX6_yard_62 rfl ?_
          refine v_iload_n F 1 (q := 64) dX6_yard_63 rfl rfl rfl ?_
          refine v_imul F (q := 65) dX6_yard_64 rfl ?_
          refine v_aload_n F 0 (q := 66) dX6_yard_65 rfl rfl rfl ?_
          refine v_get F (C := RX6) (T := TX6) (N := 25) (ci := 6) (v := .ref (g 3)) 0 16 hin6 rfl mw_at0 (by decide) (by decide +kernel) rfl (q := 69) dX6_yard_66 rfl ?_
          refine v_iload_n F 1 (q := 70) dX6_yard_69 rfl rfl rfl ?_
          refine v_iald F (j := a0.toNat) 3 mw_at3 (by omega) (by omega) (by decide) (q := 71) dX6_yard_70 rfl ?_
          have b_10 := hI.yc (a0.toNat)
          refine v_iadd F (q := 72) dX6_yard_71 rfl ?_
          refine v_iload_n F 2 (q := 73) dX6_yard_72 rfl rfl rfl ?_
          refine v_iast F (j := 3 * (a0.toNat) + ((S 3 a0.toNat).toNat)) 4 (mw k g (u2 S (10 + a0.toNat) ((S 3 a0.toNat).toNat) a1) (u2 Y 0 0 0)) mw_at4 (by omega) (by omega) (by decide) (mw_wide (a0.toNat) ((S 3 a0.toNat).toNat) (by omega) (by omega) _) (q := 74) dX6_yard_73 rfl ?_
          refine v_aload_n F 0 (q := 75) dX6_yard_74 rfl rfl rfl ?_
          refine v_get F (C := RX6) (T := TX6) (N := 25) (ci := 6) (v := .ref (g 3)) 0 16 hin6 rfl mw_at0 (by decide) (by decide +kernel) (by first | rfl | (simp [cCord, cMast, cShip, cMod, u2, ur]; done) | grind [cCord, cMast, cShip, cMod, u2, ur]) (q := 78) dX6_yard_75 rfl ?_
          refine v_iload_n F 1 (q := 79) dX6_yard_78 rfl rfl rfl ?_
          refine v_dup2 F (q := 80) dX6_yard_79 rfl rfl rfl ?_
          refine v_iald F (j := a0.toNat) 3 mw_at3 (by omega) (by omega) (by decide) (q := 81) dX6_yard_80 rfl ?_
          refine v_cast (b := S 3 (a0.toNat)) (by first | rfl | (simp [u2, ur]; done) | grind [u2, ur]) ?_
          have b_11 := hI.yc (a0.toNat)
          refine v_const F (q := 82) dX6_yard_81 rfl ?_
          refine v_iadd F (q := 83) dX6_yard_82 rfl ?_
          refine v_iast F (j := a0.toNat) 3 (mw k g (u2 (u2 S (10 + a0.toNat) ((S 3 a0.toNat).toNat) a1) 3 (a0.toNat) ((S 3 (a0.toNat)) + 1)) (u2 Y 0 0 0)) mw_at3 (by omega) (by omega) (by decide) (mw_row3 (a0.toNat) _) (q := 84) dX6_yard_83 rfl ?_
          refine v_aload_n F 0 (q := 85) dX6_yard_84 rfl rfl rfl ?_
          refine v_get F (C := RX6) (T := TX6) (N := 25) (ci := 6) (v := .ref (g 3)) 0 16 hin6 rfl mw_at0 (by decide) (by decide +kernel) (by first | rfl | (simp [cCord, cMast, cShip, cMod, u2, ur]; done) | grind [cCord, cMast, cShip, cMod, u2, ur]) (q := 88) dX6_yard_85 rfl ?_
          refine v_iload_n F 1 (q := 89) dX6_yard_88 rfl rfl rfl ?_
          refine v_iald F (j := a0.toNat) 3 mw_at3 (by omega) (by omega) (by decide) (q := 90) dX6_yard_89 rfl ?_
          refine v_cast (b := (S 3 (a0.toNat)) + 1) (by first | rfl | (simp [u2, ur]; done) | grind [u2, ur]) ?_
          exact ret _ _ _ _ _ _ (Nat.zero_le _) (Nat.zero_le _) dX6_yard_90 (⟨(u2 Y 0 0 0), by show (0 : Int) = _; unfold eYard; grind, Or.inl ⟨by unfold eYard; grind, rfl, rfl⟩⟩)
        · refine v_aload_n F 0 (q := 53) dX6_yard_52 rfl rfl rfl ?_
          refine v_const F (q := 54) dX6_yard_53 rfl ?_
          refine v_callVi0 F (kX6_no hst (k := k) (g := g) (S := S) (Y := (u2 Y 0 0 0)) hI (a0 := 3)) gX6_yard_X6_no rfl hdX6_no ⟨by decide, by decide⟩ 0 mw_at0 rfl rfl rfl (Nat.le_of_ble_eq_true rfl) ⟨(Nat.zero_le _), (Nat.zero_le _)⟩ (q := 57) dX6_yard_54 rfl ?_
          rintro a_12 _ ⟨rfl, rfl⟩
          exact ret _ _ _ _ _ _ (Nat.zero_le _) (Nat.zero_le _) dX6_yard_57 (⟨(u2 (u2 Y 0 0 0) 0 0 3), by show (3 : Int) = _; unfold eYard; grind, Or.inr ⟨by unfold eYard; grind, rfl⟩⟩)
    · refine v_if_ne F (tgt := 35) (q := 29) R32_0 dX6_yard_26 rfl rfl (fun h_13 => absurd h_13 (by omega)) (fun h_13 => ?_)
      refine v_aload_n F 0 (q := 30) dX6_yard_29 rfl rfl rfl ?_
      refine v_const F (q := 31) dX6_yard_30 rfl ?_
      refine v_callVi0 F (kX6_no hst (k := k) (g := g) (S := S) (Y := (u2 Y 0 0 0)) hI (a0 := 2)) gX6_yard_X6_no rfl hdX6_no ⟨by decide, by decide⟩ 0 mw_at0 rfl rfl rfl (Nat.le_of_ble_eq_true rfl) ⟨(Nat.zero_le _), (Nat.zero_le _)⟩ (q := 34) dX6_yard_31 rfl ?_
      rintro a_14 _ ⟨rfl, rfl⟩
      exact ret _ _ _ _ _ _ (Nat.zero_le _) (Nat.zero_le _) dX6_yard_34 (⟨(u2 (u2 Y 0 0 0) 0 0 2), by show (2 : Int) = _; unfold eYard; grind, Or.inr ⟨by unfold eYard; grind, rfl⟩⟩)
  · refine v_if_ne F (tgt := 19) (q := 13) R32_0 dX6_yard_10 rfl rfl (fun h_15 => absurd h_15 (by omega)) (fun h_15 => ?_)
    refine v_aload_n F 0 (q := 14) dX6_yard_13 rfl rfl rfl ?_
    refine v_const F (q := 15) dX6_yard_14 rfl ?_
    refine v_callVi0 F (kX6_no hst (k := k) (g := g) (S := S) (Y := (u2 Y 0 0 0)) hI (a0 := 1)) gX6_yard_X6_no rfl hdX6_no ⟨by decide, by decide⟩ 0 mw_at0 rfl rfl rfl (Nat.le_of_ble_eq_true rfl) ⟨(Nat.zero_le _), (Nat.zero_le _)⟩ (q := 18) dX6_yard_15 rfl ?_
    rintro a_16 _ ⟨rfl, rfl⟩
    exact ret _ _ _ _ _ _ (Nat.zero_le _) (Nat.zero_le _) dX6_yard_18 (⟨(u2 (u2 Y 0 0 0) 0 0 1), by show (1 : Int) = _; unfold eYard; grind, Or.inr ⟨by unfold eYard; grind, rfl⟩⟩)
theorem hdX6_lead : yX6_lead.cls = RX6 ∧ yX6_lead.cls ≠ "java/lang/invoke/MethodHandle" ∧ yX6_lead.cls ≠ "java/lang/invoke/VarHandle" ∧ (parseMethodDescriptor yX6_lead.desc).map (fun d => d.parameters.length) = some 3 := by decide +kernel
set_option maxRecDepth 100000 in
set_option maxHeartbeats 4000000 in
theorem kX6_lead {l : Launch} (hst : l.stackTraces = false) {k : Nat → ClassId} {g : Nat → Nat} {S Y : Nat → Nat → Int} (hI : Inv S) {a0 a1 a2 : Int} (g0 : R32 a0) (g1 : R32 a1) (g2 : R32 a2) : v_Ci l k yX6_lead wsX6_lead ({ frames := 2, cells := 0, slots := 0, locals := 43 } : Room) [.ref (g 0), VI a0, VI a1, VI a2] (mw k g S Y) (fun a u => ∃ Y9 : Nat → Nat → Int, Y9 0 0 = eLead S a0 a1 a2 ∧ ((eLead S a0 a1 a2 = 0 ∧ a = S 0 8 ∧ u = mw k g (sLead S a0 a1 a2) Y9) ∨ (¬ eLead S a0 a1 a2 = 0 ∧ u = mw k g S Y9))) := by
  refine v_ofI (cc := cX6_lead) (nL := 4) (by decide +kernel) rfl hst (Nat.le_of_ble_eq_true rfl) (fun _ _ _ => rfl) (fun XX F ret => ?_)
  have hin6 : ∀ w ∈ wsX60, w ∈ wsX6_lead := by decide +kernel
  have b7 := hI.mc
  have b8 := hI.cc
  show V XX (mw k g S Y) 0 0 0 [(0, .ref (g 0)), (1, VI a0), (2, VI a1), (3, VI a2)] []
  refine v_aload_n F 0 (q := 1) dX6_lead_0 rfl rfl rfl ?_
  refine v_const F (q := 2) dX6_lead_1 rfl ?_
  refine v_put F (C := RX6) (T := TX6) (N := 25) (ci := 6) (ty := .int) 0 0 (mw k g S (u2 Y 0 0 0)) hin6 tyX6 tyX6_ok nmX6 rfl mw_at0 (by decide) (by decide +kernel) rfl (by decide +kernel) rfl rfl (Nat.le_of_ble_eq_true rfl) (mw_thrown _) (q := 5) dX6_lead_2 rfl ?_
  refine v_aload_n F 0 (q := 6) dX6_lead_5 rfl rfl rfl ?_
  refine v_iload_n F 1 (q := 7) dX6_lead_6 rfl rfl rfl ?_
  refine v_callVi0 F (kX6_isMast hst (k := k) (g := g) (S := S) (Y := (u2 Y 0 0 0)) hI (a0 := a0) (by omega)) gX6_lead_X6_isMast rfl hdX6_isMast ⟨by decide, by decide⟩ 0 mw_at0 rfl rfl rfl (Nat.le_of_ble_eq_true rfl) ⟨(Nat.zero_le _), (Nat.zero_le _)⟩ (q := 10) dX6_lead_7 rfl ?_
  rintro _ _ ⟨rfl, ⟨rfl, h_1⟩ | ⟨rfl, h_1⟩⟩
  · refine v_if_eq F (tgt := 26) (q := 13) (by omega) dX6_lead_10 rfl rfl (fun h_2 => absurd h_2 (by omega)) (fun h_2 => ?_)
    refine v_iload_n F 2 (q := 14) dX6_lead_13 rfl rfl rfl ?_
    refine v_const F (q := 15) dX6_lead_14 rfl ?_
    refine v_icmp_eq F (tgt := 32) (q := 18) (by omega) (by omega) dX6_lead_15 rfl rfl (fun h_3 => ?_) (fun h_3 => ?_)
    · refine v_iload_n F 1 (q := 33) dX6_lead_32 rfl rfl rfl ?_
      refine v_iload_n F 2 (q := 34) dX6_lead_33 rfl rfl rfl ?_
      refine v_icmp_eq F (tgt := 47) (q := 37) (by omega) (by omega) dX6_lead_34 rfl rfl (fun h_4 => ?_) (fun h_4 => ?_)
      · refine v_aload_n F 0 (q := 48) dX6_lead_47 rfl rfl rfl ?_
        refine v_const F (q := 49) dX6_lead_48 rfl ?_
        refine v_callVi0 F (kX6_no hst (k := k) (g := g) (S := S) (Y := (u2 Y 0 0 0)) hI (a0 := 2)) gX6_lead_X6_no rfl hdX6_no ⟨by decide, by decide⟩ 0 mw_at0 rfl rfl rfl (Nat.le_of_ble_eq_true rfl) ⟨(Nat.zero_le _), (Nat.zero_le _)⟩ (q := 52) dX6_lead_49 rfl ?_
        rintro a_5 _ ⟨rfl, rfl⟩
        exact ret _ _ _ _ _ _ (Nat.zero_le _) (Nat.zero_le _) dX6_lead_52 (⟨(u2 (u2 Y 0 0 0) 0 0 2), by show (2 : Int) = _; unfold eLead; grind, Or.inr ⟨by unfold eLead; grind, rfl⟩⟩)
      · refine v_iload_n F 3 (q := 38) dX6_lead_37 rfl rfl rfl ?_
        refine v_const F (q := 39) dX6_lead_38 rfl ?_
        refine v_bipush F (q := 41) dX6_lead_39 rfl rfl ?_
        refine v_callSi0 F (kX6_isBetween hst (k := k) (w := mw k g S (u2 Y 0 0 0)) (a0 := a2) (a1 := 1) (a2 := 9) (by omega) (by omega) (by omega)) gX6_lead_X6_isBetween rfl hdX6_isBetween ⟨by decide, by decide⟩ rfl rfl (Nat.le_of_ble_eq_true rfl) ⟨(Nat.zero_le _), (Nat.zero_le _)⟩ (q := 44) dX6_lead_41 rfl ?_
        rintro _ _ ⟨rfl, ⟨rfl, h_6⟩ | ⟨rfl, h_6⟩⟩
        · refine v_if_ne F (tgt := 53) (q := 47) (by omega) dX6_lead_44 rfl rfl (fun h_7 => ?_) (fun h_7 => absurd h_7 (by omega))
          refine v_aload_n F 0 (q := 54) dX6_lead_53 rfl rfl rfl ?_
          refine v_get F (C := RX6) (T := TX6) (N := 25) (ci := 6) (v := VI (S 0 8)) 0 18 hin6 rfl mw_at0 (by decide) (by decide +kernel) rfl (q := 57) dX6_lead_54 rfl ?_
          have b_8 := And.intro (hI.sc 8 (by decide)) (hI.1 0 8 (by omega)).2
          refine v_bipush F (q := 59) dX6_lead_57 rfl rfl ?_
          refine v_icmp_ne F (tgt := 68) (q := 62) (by omega) (by omega) dX6_lead_59 rfl rfl (fun h_9 => ?_) (fun h_9 => ?_)
          · refine v_aload_n F 0 (q := 69) dX6_lead_68 rfl rfl rfl ?_
            refine v_get F (C := RX6) (T := TX6) (N := 25) (ci := 6) (v := .ref (g 5)) 0 19 hin6 rfl mw_at0 (by decide) (by decide +kernel) rfl (q := 72) dX6_lead_69 rfl ?_
            refine v_aload_n F 0 (q := 73) dX6_lead_72 rfl rfl rfl ?_
            refine v_get F (C := RX6) (T := TX6) (N := 25) (ci := 6) (v := VI (S 0 8)) 0 18 hin6 rfl mw_at0 (by decide) (by decide +kernel) rfl (q := 76) dX6_lead_73 rfl ?_
            have b_10 := And.intro (hI.sc 8 (by decide)) (hI.1 0 8 (by omega)).2
            refine v_iload_n F 1 (q := 77) dX6_lead_76 rfl rfl rfl ?_
            refine v_iast F (j := (S 0 8).toNat) 5 (mw k g (u2 S 5 ((S 0 8).toNat) a0) (u2 Y 0 0 0)) mw_at5 (by omega) (by omega) (by decide) (mw_row5 ((S 0 8).toNat) _) (q := 78) dX6_lead_77 rfl ?_
            refine v_aload_n F 0 (q := 79) dX6_lead_78 rfl rfl rfl ?_
            refine v_get F (C := RX6) (T := TX6) (N := 25) (ci := 6) (v := .ref (g 6)) 0 20 hin6 rfl mw_at0 (by decide) (by decide +kernel) rfl (q := 82) dX6_lead_79 rfl ?_
            refine v_aload_n F 0 (q := 83) dX6_lead_82 rfl rfl rfl ?_
            refine v_get F (C := RX6) (T := TX6) (N := 25) (ci := 6) (v := VI (S 0 8)) 0 18 hin6 rfl mw_at0 (by decide) (by decide +kernel) rfl (q := 86) dX6_lead_83 rfl ?_
            have b_11 := And.intro (hI.sc 8 (by decide)) (hI.1 0 8 (by omega)).2
            refine v_iload_n F 2 (q := 87) dX6_lead_86 rfl rfl rfl ?_
            refine v_iast F (j := (S 0 8).toNat) 6 (mw k g (u2 (u2 S 5 ((S 0 8).toNat) a0) 6 ((S 0 8).toNat) a1) (u2 Y 0 0 0)) mw_at6 (by omega) (by omega) (by decide) (mw_row6 ((S 0 8).toNat) _) (q := 88) dX6_lead_87 rfl ?_
            refine v_aload_n F 0 (q := 89) dX6_lead_88 rfl rfl rfl ?_
            refine v_get F (C := RX6) (T := TX6) (N := 25) (ci := 6) (v := .ref (g 7)) 0 21 hin6 rfl mw_at0 (by decide) (by decide +kernel) rfl (q := 92) dX6_lead_89 rfl ?_
            refine v_aload_n F 0 (q := 93) dX6_lead_92 rfl rfl rfl ?_
            refine v_get F (C := RX6) (T := TX6) (N := 25) (ci := 6) (v := VI (S 0 8)) 0 18 hin6 rfl mw_at0 (by decide) (by decide +kernel) rfl (q := 96) dX6_lead_93 rfl ?_
            have b_12 := And.intro (hI.sc 8 (by decide)) (hI.1 0 8 (by omega)).2
            refine v_iload_n F 3 (q := 97) dX6_lead_96 rfl rfl rfl ?_
            refine v_iast F (j := (S 0 8).toNat) 7 (mw k g (u2 (u2 (u2 S 5 ((S 0 8).toNat) a0) 6 ((S 0 8).toNat) a1) 7 ((S 0 8).toNat) a2) (u2 Y 0 0 0)) mw_at7 (by omega) (by omega) (by decide) (mw_row7 ((S 0 8).toNat) _) (q := 98) dX6_lead_97 rfl ?_
            refine v_aload_n F 0 (q := 99) dX6_lead_98 rfl rfl rfl ?_
            refine v_dup F (q := 100) dX6_lead_99 rfl rfl ?_
            refine v_get F (C := RX6) (T := TX6) (N := 25) (ci := 6) (v := VI (S 0 8)) 0 18 hin6 rfl mw_at0 (by decide) (by decide +kernel) rfl (q := 103) dX6_lead_100 rfl ?_
            have b_13 := And.intro (hI.sc 8 (by decide)) (hI.1 0 8 (by omega)).2
            refine v_const F (q := 104) dX6_lead_103 rfl ?_
            refine v_iadd F (q := 105) dX6_lead_104 rfl ?_
            refine v_put F (C := RX6) (T := TX6) (N := 25) (ci := 6) (ty := .int) 0 18 (mw k g (u2 (u2 (u2 (u2 S 5 ((S 0 8).toNat) a0) 6 ((S 0 8).toNat) a1) 7 ((S 0 8).toNat) a2) 0 8 ((S 0 8) + 1)) (u2 Y 0 0 0)) hin6 tyX6 tyX6_ok nmX6 rfl mw_at0 (by decide) (by decide +kernel) rfl (by decide +kernel) rfl rfl (Nat.le_of_ble_eq_true rfl) (mw_mod18 _) (q := 108) dX6_lead_105 rfl ?_
            refine v_aload_n F 0 (q := 109) dX6_lead_108 rfl rfl rfl ?_
            refine v_get F (C := RX6) (T := TX6) (N := 25) (ci := 6) (v := VI ((S 0 8) + 1)) 0 18 hin6 rfl mw_at0 (by decide) (by decide +kernel) rfl (q := 112) dX6_lead_109 rfl ?_
            refine v_const F (q := 113) dX6_lead_112 rfl ?_
            refine v_isub F (q := 114) dX6_lead_113 rfl ?_
            exact ret _ _ _ _ _ _ (Nat.zero_le _) (Nat.zero_le _) dX6_lead_114 (⟨(u2 Y 0 0 0), by show (0 : Int) = _; unfold eLead; grind, Or.inl ⟨by unfold eLead; grind, by omega, rfl⟩⟩)
          · refine v_aload_n F 0 (q := 63) dX6_lead_62 rfl rfl rfl ?_
            refine v_const F (q := 64) dX6_lead_63 rfl ?_
            refine v_callVi0 F (kX6_no hst (k := k) (g := g) (S := S) (Y := (u2 Y 0 0 0)) hI (a0 := 3)) gX6_lead_X6_no rfl hdX6_no ⟨by decide, by decide⟩ 0 mw_at0 rfl rfl rfl (Nat.le_of_ble_eq_true rfl) ⟨(Nat.zero_le _), (Nat.zero_le _)⟩ (q := 67) dX6_lead_64 rfl ?_
            rintro a_14 _ ⟨rfl, rfl⟩
            exact ret _ _ _ _ _ _ (Nat.zero_le _) (Nat.zero_le _) dX6_lead_67 (⟨(u2 (u2 Y 0 0 0) 0 0 3), by show (3 : Int) = _; unfold eLead; grind, Or.inr ⟨by unfold eLead; grind, rfl⟩⟩)
        · refine v_if_ne F (tgt := 53) (q := 47) R32_0 dX6_lead_44 rfl rfl (fun h_15 => absurd h_15 (by omega)) (fun h_15 => ?_)
          refine v_aload_n F 0 (q := 48) dX6_lead_47 rfl rfl rfl ?_
          refine v_const F (q := 49) dX6_lead_48 rfl ?_
          refine v_callVi0 F (kX6_no hst (k := k) (g := g) (S := S) (Y := (u2 Y 0 0 0)) hI (a0 := 2)) gX6_lead_X6_no rfl hdX6_no ⟨by decide, by decide⟩ 0 mw_at0 rfl rfl rfl (Nat.le_of_ble_eq_true rfl) ⟨(Nat.zero_le _), (Nat.zero_le _)⟩ (q := 52) dX6_lead_49 rfl ?_
          rintro a_16 _ ⟨rfl, rfl⟩
          exact ret _ _ _ _ _ _ (Nat.zero_le _) (Nat.zero_le _) dX6_lead_52 (⟨(u2 (u2 Y 0 0 0) 0 0 2), by show (2 : Int) = _; unfold eLead; grind, Or.inr ⟨by unfold eLead; grind, rfl⟩⟩)
    · refine v_aload_n F 0 (q := 19) dX6_lead_18 rfl rfl rfl ?_
      refine v_iload_n F 2 (q := 20) dX6_lead_19 rfl rfl rfl ?_
      refine v_callVi0 F (kX6_isMast hst (k := k) (g := g) (S := S) (Y := (u2 Y 0 0 0)) hI (a0 := a1) (by omega)) gX6_lead_X6_isMast rfl hdX6_isMast ⟨by decide, by decide⟩ 0 mw_at0 rfl rfl rfl (Nat.le_of_ble_eq_true rfl) ⟨(Nat.zero_le _), (Nat.zero_le _)⟩ (q := 23) dX6_lead_20 rfl ?_
      rintro _ _ ⟨rfl, ⟨rfl, h_17⟩ | ⟨rfl, h_17⟩⟩
      · refine v_if_ne F (tgt := 32) (q := 26) (by omega) dX6_lead_23 rfl rfl (fun h_18 => ?_) (fun h_18 => absurd h_18 (by omega))
        refine v_iload_n F 1 (q := 33) dX6_lead_32 rfl rfl rfl ?_
        refine v_iload_n F 2 (q := 34) dX6_lead_33 rfl rfl rfl ?_
        refine v_icmp_eq F (tgt := 47) (q := 37) (by omega) (by omega) dX6_lead_34 rfl rfl (fun h_19 => ?_) (fun h_19 => ?_)
        · refine v_aload_n F 0 (q := 48) dX6_lead_47 rfl rfl rfl ?_
          refine v_const F (q := 49) dX6_lead_48 rfl ?_
          refine v_callVi0 F (kX6_no hst (k := k) (g := g) (S := S) (Y := (u2 Y 0 0 0)) hI (a0 := 2)) gX6_lead_X6_no rfl hdX6_no ⟨by decide, by decide⟩ 0 mw_at0 rfl rfl rfl (Nat.le_of_ble_eq_true rfl) ⟨(Nat.zero_le _), (Nat.zero_le _)⟩ (q := 52) dX6_lead_49 rfl ?_
          rintro a_20 _ ⟨rfl, rfl⟩
          exact ret _ _ _ _ _ _ (Nat.zero_le _) (Nat.zero_le _) dX6_lead_52 (⟨(u2 (u2 Y 0 0 0) 0 0 2), by show (2 : Int) = _; unfold eLead; grind, Or.inr ⟨by unfold eLead; grind, rfl⟩⟩)
        · refine v_iload_n F 3 (q := 38) dX6_lead_37 rfl rfl rfl ?_
          refine v_const F (q := 39) dX6_lead_38 rfl ?_
          refine v_bipush F (q := 41) dX6_lead_39 rfl rfl ?_
          refine v_callSi0 F (kX6_isBetween hst (k := k) (w := mw k g S (u2 Y 0 0 0)) (a0 := a2) (a1 := 1) (a2 := 9) (by omega) (by omega) (by omega)) gX6_lead_X6_isBetween rfl hdX6_isBetween ⟨by decide, by decide⟩ rfl rfl (Nat.le_of_ble_eq_true rfl) ⟨(Nat.zero_le _), (Nat.zero_le _)⟩ (q := 44) dX6_lead_41 rfl ?_
          rintro _ _ ⟨rfl, ⟨rfl, h_21⟩ | ⟨rfl, h_21⟩⟩
          · refine v_if_ne F (tgt := 53) (q := 47) (by omega) dX6_lead_44 rfl rfl (fun h_22 => ?_) (fun h_22 => absurd h_22 (by omega))
            refine v_aload_n F 0 (q := 54) dX6_lead_53 rfl rfl rfl ?_
            refine v_get F (C := RX6) (T := TX6) (N := 25) (ci := 6) (v := VI (S 0 8)) 0 18 hin6 rfl mw_at0 (by decide) (by decide +kernel) rfl (q := 57) dX6_lead_54 rfl ?_
            have b_23 := And.intro (hI.sc 8 (by decide)) (hI.1 0 8 (by omega)).2
            refine v_bipush F (q := 59) dX6_lead_57 rfl rfl ?_
            refine v_icmp_ne F (tgt := 68) (q := 62) (by omega) (by omega) dX6_lead_59 rfl rfl (fun h_24 => ?_) (fun h_24 => ?_)
            · refine v_aload_n F 0 (q := 69) dX6_lead_68 rfl rfl rfl ?_
              refine v_get F (C := RX6) (T := TX6) (N := 25) (ci := 6) (v := .ref (g 5)) 0 19 hin6 rfl mw_at0 (by decide) (by decide +kernel) rfl (q := 72) dX6_lead_69 rfl ?_
              refine v_aload_n F 0 (q := 73) dX6_lead_72 rfl rfl rfl ?_
              refine v_get F (C := RX6) (T := TX6) (N := 25) (ci := 6) (v := VI (S 0 8)) 0 18 hin6 rfl mw_at0 (by decide) (by decide +kernel) rfl (q := 76) dX6_lead_73 rfl ?_
              have b_25 := And.intro (hI.sc 8 (by decide)) (hI.1 0 8 (by omega)).2
              refine v_iload_n F 1 (q := 77) dX6_lead_76 rfl rfl rfl ?_
              refine v_iast F (j := (S 0 8).toNat) 5 (mw k g (u2 S 5 ((S 0 8).toNat) a0) (u2 Y 0 0 0)) mw_at5 (by omega) (by omega) (by decide) (mw_row5 ((S 0 8).toNat) _) (q := 78) dX6_lead_77 rfl ?_
              refine v_aload_n F 0 (q := 79) dX6_lead_78 rfl rfl rfl ?_
              refine v_get F (C := RX6) (T := TX6) (N := 25) (ci := 6) (v := .ref (g 6)) 0 20 hin6 rfl mw_at0 (by decide) (by decide +kernel) rfl (q := 82) dX6_lead_79 rfl ?_
              refine v_aload_n F 0 (q := 83) dX6_lead_82 rfl rfl rfl ?_
              refine v_get F (C := RX6) (T := TX6) (N := 25) (ci := 6) (v := VI (S 0 8)) 0 18 hin6 rfl mw_at0 (by decide) (by decide +kernel) rfl (q := 86) dX6_lead_83 rfl ?_
              have b_26 := And.intro (hI.sc 8 (by decide)) (hI.1 0 8 (by omega)).2
              refine v_iload_n F 2 (q := 87) dX6_lead_86 rfl rfl rfl ?_
              refine v_iast F (j := (S 0 8).toNat) 6 (mw k g (u2 (u2 S 5 ((S 0 8).toNat) a0) 6 ((S 0 8).toNat) a1) (u2 Y 0 0 0)) mw_at6 (by omega) (by omega) (by decide) (mw_row6 ((S 0 8).toNat) _) (q := 88) dX6_lead_87 rfl ?_
              refine v_aload_n F 0 (q := 89) dX6_lead_88 rfl rfl rfl ?_
              refine v_get F (C := RX6) (T := TX6) (N := 25) (ci := 6) (v := .ref (g 7)) 0 21 hin6 rfl mw_at0 (by decide) (by decide +kernel) rfl (q := 92) dX6_lead_89 rfl ?_
              refine v_aload_n F 0 (q := 93) dX6_lead_92 rfl rfl rfl ?_
              refine v_get F (C := RX6) (T := TX6) (N := 25) (ci := 6) (v := VI (S 0 8)) 0 18 hin6 rfl mw_at0 (by decide) (by decide +kernel) rfl (q := 96) dX6_lead_93 rfl ?_
              have b_27 := And.intro (hI.sc 8 (by decide)) (hI.1 0 8 (by omega)).2
              refine v_iload_n F 3 (q := 97) dX6_lead_96 rfl rfl rfl ?_
              refine v_iast F (j := (S 0 8).toNat) 7 (mw k g (u2 (u2 (u2 S 5 ((S 0 8).toNat) a0) 6 ((S 0 8).toNat) a1) 7 ((S 0 8).toNat) a2) (u2 Y 0 0 0)) mw_at7 (by omega) (by omega) (by decide) (mw_row7 ((S 0 8).toNat) _) (q := 98) dX6_lead_97 rfl ?_
              refine v_aload_n F 0 (q := 99) dX6_lead_98 rfl rfl rfl ?_
              refine v_dup F (q := 100) dX6_lead_99 rfl rfl ?_
              refine v_get F (C := RX6) (T := TX6) (N := 25) (ci := 6) (v := VI (S 0 8)) 0 18 hin6 rfl mw_at0 (by decide) (by decide +kernel) rfl (q := 103) dX6_lead_100 rfl ?_
              have b_28 := And.intro (hI.sc 8 (by decide)) (hI.1 0 8 (by omega)).2
              refine v_const F (q := 104) dX6_lead_103 rfl ?_
              refine v_iadd F (q := 105) dX6_lead_104 rfl ?_
              refine v_put F (C := RX6) (T := TX6) (N := 25) (ci := 6) (ty := .int) 0 18 (mw k g (u2 (u2 (u2 (u2 S 5 ((S 0 8).toNat) a0) 6 ((S 0 8).toNat) a1) 7 ((S 0 8).toNat) a2) 0 8 ((S 0 8) + 1)) (u2 Y 0 0 0)) hin6 tyX6 tyX6_ok nmX6 rfl mw_at0 (by decide) (by decide +kernel) rfl (by decide +kernel) rfl rfl (Nat.le_of_ble_eq_true rfl) (mw_mod18 _) (q := 108) dX6_lead_105 rfl ?_
              refine v_aload_n F 0 (q := 109) dX6_lead_108 rfl rfl rfl ?_
              refine v_get F (C := RX6) (T := TX6) (N := 25) (ci := 6) (v := VI ((S 0 8) + 1)) 0 18 hin6 rfl mw_at0 (by decide) (by decide +kernel) rfl (q := 112) dX6_lead_109 rfl ?_
              refine v_const F (q := 113) dX6_lead_112 rfl ?_
              refine v_isub F (q := 114) dX6_lead_113 rfl ?_
              exact ret _ _ _ _ _ _ (Nat.zero_le _) (Nat.zero_le _) dX6_lead_114 (⟨(u2 Y 0 0 0), by show (0 : Int) = _; unfold eLead; grind, Or.inl ⟨by unfold eLead; grind, by omega, rfl⟩⟩)
            · refine v_aload_n F 0 (q := 63) dX6_lead_62 rfl rfl rfl ?_
              refine v_const F (q := 64) dX6_lead_63 rfl ?_
              refine v_callVi0 F (kX6_no hst (k := k) (g := g) (S := S) (Y := (u2 Y 0 0 0)) hI (a0 := 3)) gX6_lead_X6_no rfl hdX6_no ⟨by decide, by decide⟩ 0 mw_at0 rfl rfl rfl (Nat.le_of_ble_eq_true rfl) ⟨(Nat.zero_le _), (Nat.zero_le _)⟩ (q := 67) dX6_lead_64 rfl ?_
              rintro a_29 _ ⟨rfl, rfl⟩
              exact ret _ _ _ _ _ _ (Nat.zero_le _) (Nat.zero_le _) dX6_lead_67 (⟨(u2 (u2 Y 0 0 0) 0 0 3), by show (3 : Int) = _; unfold eLead; grind, Or.inr ⟨by unfold eLead; grind, rfl⟩⟩)
          · refine v_if_ne F (tgt := 53) (q := 47) R32_0 dX6_lead_44 rfl rfl (fun h_30 => absurd h_30 (by omega)) (fun h_30 => ?_)
            refine v_aload_n F 0 (q := 48) dX6_lead_47 rfl rfl rfl ?_
            refine v_const F (q := 49) dX6_lead_48 rfl ?_
            refine v_callVi0 F (kX6_no hst (k := k) (g := g) (S := S) (Y := (u2 Y 0 0 0)) hI (a0 := 2)) gX6_lead_X6_no rfl hdX6_no ⟨by decide, by decide⟩ 0 mw_at0 rfl rfl rfl (Nat.le_of_ble_eq_true rfl) ⟨(Nat.zero_le _), (Nat.zero_le _)⟩ (q := 52) dX6_lead_49 rfl ?_
            rintro a_31 _ ⟨rfl, rfl⟩
            exact ret _ _ _ _ _ _ (Nat.zero_le _) (Nat.zero_le _) dX6_lead_52 (⟨(u2 (u2 Y 0 0 0) 0 0 2), by show (2 : Int) = _; unfold eLead; grind, Or.inr ⟨by unfold eLead; grind, rfl⟩⟩)
      · refine v_if_ne F (tgt := 32) (q := 26) R32_0 dX6_lead_23 rfl rfl (fun h_32 => absurd h_32 (by omega)) (fun h_32 => ?_)
        refine v_aload_n F 0 (q := 27) dX6_lead_26 rfl rfl rfl ?_
        refine v_const F (q := 28) dX6_lead_27 rfl ?_
        refine v_callVi0 F (kX6_no hst (k := k) (g := g) (S := S) (Y := (u2 Y 0 0 0)) hI (a0 := 1)) gX6_lead_X6_no rfl hdX6_no ⟨by decide, by decide⟩ 0 mw_at0 rfl rfl rfl (Nat.le_of_ble_eq_true rfl) ⟨(Nat.zero_le _), (Nat.zero_le _)⟩ (q := 31) dX6_lead_28 rfl ?_
        rintro a_33 _ ⟨rfl, rfl⟩
        exact ret _ _ _ _ _ _ (Nat.zero_le _) (Nat.zero_le _) dX6_lead_31 (⟨(u2 (u2 Y 0 0 0) 0 0 1), by show (1 : Int) = _; unfold eLead; grind, Or.inr ⟨by unfold eLead; grind, rfl⟩⟩)
  · refine v_if_eq F (tgt := 26) (q := 13) R32_0 dX6_lead_10 rfl rfl (fun h_34 => ?_) (fun h_34 => absurd h_34 (by omega))
    refine v_aload_n F 0 (q := 27) dX6_lead_26 rfl rfl rfl ?_
    refine v_const F (q := 28) dX6_lead_27 rfl ?_
    refine v_callVi0 F (kX6_no hst (k := k) (g := g) (S := S) (Y := (u2 Y 0 0 0)) hI (a0 := 1)) gX6_lead_X6_no rfl hdX6_no ⟨by decide, by decide⟩ 0 mw_at0 rfl rfl rfl (Nat.le_of_ble_eq_true rfl) ⟨(Nat.zero_le _), (Nat.zero_le _)⟩ (q := 31) dX6_lead_28 rfl ?_
    rintro a_35 _ ⟨rfl, rfl⟩
    exact ret _ _ _ _ _ _ (Nat.zero_le _) (Nat.zero_le _) dX6_lead_31 (⟨(u2 (u2 Y 0 0 0) 0 0 1), by show (1 : Int) = _; unfold eLead; grind, Or.inr ⟨by unfold eLead; grind, rfl⟩⟩)
theorem hdX6_enter : yX6_enter.cls = RX6 ∧ yX6_enter.cls ≠ "java/lang/invoke/MethodHandle" ∧ yX6_enter.cls ≠ "java/lang/invoke/VarHandle" ∧ (parseMethodDescriptor yX6_enter.desc).map (fun d => d.parameters.length) = some 0 := by decide +kernel
set_option maxRecDepth 100000 in
set_option maxHeartbeats 4000000 in
theorem kX6_enter {l : Launch} (hst : l.stackTraces = false) {k : Nat → ClassId} {g : Nat → Nat} {S Y : Nat → Nat → Int} (hI : Inv S) : v_Ci l k yX6_enter wsX6_enter ({ frames := 5, cells := 0, slots := 0, locals := 107 } : Room) [.ref (g 0)] (mw k g S Y) (fun a u => ∃ Y9, u = mw k g (sEnter S) Y9 ∧ Y9 0 0 = 0 ∧ vB (entB S = true) a) := by
  refine v_ofI (cc := cX6_enter) (nL := 2) (by decide +kernel) rfl hst (Nat.le_of_ble_eq_true rfl) (fun _ _ hp => by obtain ⟨_, _, _, h⟩ := hp; exact vB_n h) (fun XX F ret => ?_)
  have hin6 : ∀ w ∈ wsX60, w ∈ wsX6_enter := by decide +kernel
  have b7 := hI.mc
  have b8 := hI.cc
  show V XX (mw k g S Y) 0 0 0 [(0, .ref (g 0))] []
  refine v_aload_n F 0 (q := 1) dX6_enter_0 rfl rfl rfl ?_
  refine v_const F (q := 2) dX6_enter_1 rfl ?_
  refine v_put F (C := RX6) (T := TX6) (N := 25) (ci := 6) (ty := .int) 0 0 (mw k g S (u2 Y 0 0 0)) hin6 tyX6 tyX6_ok nmX6 rfl mw_at0 (by decide) (by decide +kernel) rfl (by decide +kernel) rfl rfl (Nat.le_of_ble_eq_true rfl) (mw_thrown _) (q := 5) dX6_enter_2 rfl ?_
  refine v_aload_n F 0 (q := 6) dX6_enter_5 rfl rfl rfl ?_
  refine v_get F (C := RX6) (T := TX6) (N := 25) (ci := 6) (v := VI (S 0 9)) 0 8 hin6 rfl mw_at0 (by decide) (by decide +kernel) rfl (q := 9) dX6_enter_6 rfl ?_
  have b_1 := hI.isin
  refine v_if_ne F (tgt := 34) (q := 12) (by omega) dX6_enter_9 rfl rfl (fun h_2 => ?_) (fun h_2 => ?_)
  · refine v_const F (q := 35) dX6_enter_34 rfl ?_
    refine v_istore_n F (q := 36) [(1, VI 0), (0, .ref (g 0))] dX6_enter_35 rfl (by decide) rfl rfl ?_
    refine v_aload_n F 1 (q := 37) dX6_enter_36 rfl rfl rfl ?_
    refine v_dup F (q := 38) dX6_enter_37 rfl rfl ?_
    refine v_get F (C := RX6) (T := TX6) (N := 25) (ci := 6) (v := VI (S 0 9)) 0 8 hin6 rfl mw_at0 (by decide) (by decide +kernel) rfl (q := 41) dX6_enter_38 rfl ?_
    have b_3 := hI.isin
    refine v_iload_n F 0 (q := 42) dX6_enter_41 rfl rfl rfl ?_
    refine v_ior F (q := 43) (z := S 0 9) dX6_enter_42 (or_0 hI.isin) rfl ?_
    refine v_put F (C := RX6) (T := TX6) (N := 25) (ci := 6) (ty := .boolean) 0 8 (mw k g (u2 S 0 9 (S 0 9)) (u2 Y 0 0 0)) hin6 tyX6 tyX6_ok nmX6 rfl mw_at0 (by decide) (by decide +kernel) rfl (by decide +kernel) (vz_n hI.isin) (vz_f hI.isin) (Nat.le_of_ble_eq_true rfl) (mw_mod8 _) (q := 46) dX6_enter_43 rfl ?_
    refine v_iload_n F 0 (q := 47) dX6_enter_46 rfl rfl rfl ?_
    exact ret _ _ _ _ _ _ (Nat.zero_le _) (Nat.zero_le _) dX6_enter_47 (⟨(u2 Y 0 0 0), by unfold sEnter; rw [if_neg (by unfold entB; simp [*])]; try rfl, rfl, vB_0 (by unfold entB; simp [*])⟩)
  · refine v_aload_n F 0 (q := 13) dX6_enter_12 rfl rfl rfl ?_
    refine v_callVi0 F (kX6_goesThrough hst (k := k) (g := g) (S := S) (Y := (u2 Y 0 0 0)) hI) gX6_enter_X6_goesThrough rfl hdX6_goesThrough ⟨by decide, by decide⟩ 0 mw_at0 rfl rfl rfl (Nat.le_of_ble_eq_true rfl) ⟨(Nat.zero_le _), (Nat.zero_le _)⟩ (q := 16) dX6_enter_13 rfl ?_
    rintro _ _ ⟨rfl, ⟨rfl, h_4⟩ | ⟨rfl, h_4⟩⟩
    · refine v_if_eq F (tgt := 34) (q := 19) (by omega) dX6_enter_16 rfl rfl (fun h_5 => absurd h_5 (by omega)) (fun h_5 => ?_)
      refine v_aload_n F 0 (q := 20) dX6_enter_19 rfl rfl rfl ?_
      refine v_aload_n F 0 (q := 21) dX6_enter_20 rfl rfl rfl ?_
      refine v_get F (C := RX6) (T := TX6) (N := 25) (ci := 6) (v := VI (codeF (S 4))) 0 13 hin6 rfl mw_at0 (by decide) (by decide +kernel) rfl (q := 24) dX6_enter_21 rfl ?_
      refine v_callVi0 F (kX6_fits hst (k := k) (g := g) (S := S) (Y := (u2 Y 0 0 0)) hI (f := (S 4)) hI.lean3) gX6_enter_X6_fits rfl hdX6_fits ⟨by decide, by decide⟩ 0 mw_at0 rfl rfl rfl (Nat.le_of_ble_eq_true rfl) ⟨(Nat.zero_le _), (Nat.zero_le _)⟩ (q := 27) dX6_enter_24 rfl ?_
      rintro _ _ ⟨rfl, ⟨rfl, h_6⟩ | ⟨rfl, h_6⟩⟩
      · refine v_if_eq F (tgt := 34) (q := 30) (by omega) dX6_enter_27 rfl rfl (fun h_7 => absurd h_7 (by omega)) (fun h_7 => ?_)
        refine v_const F (q := 31) dX6_enter_30 rfl ?_
        refine v_goto F (tgt := 35) dX6_enter_31 rfl ?_
        refine v_istore_n F (q := 36) [(1, VI 1), (0, .ref (g 0))] dX6_enter_35 rfl (by decide) rfl rfl ?_
        refine v_aload_n F 1 (q := 37) dX6_enter_36 rfl rfl rfl ?_
        refine v_dup F (q := 38) dX6_enter_37 rfl rfl ?_
        refine v_get F (C := RX6) (T := TX6) (N := 25) (ci := 6) (v := VI (S 0 9)) 0 8 hin6 rfl mw_at0 (by decide) (by decide +kernel) rfl (q := 41) dX6_enter_38 rfl ?_
        have b_8 := hI.isin
        refine v_iload_n F 0 (q := 42) dX6_enter_41 rfl rfl rfl ?_
        refine v_ior F (q := 43) (z := 1) dX6_enter_42 (by rw [show S 0 9 = 0 from by omega]; decide) rfl ?_
        refine v_put F (C := RX6) (T := TX6) (N := 25) (ci := 6) (ty := .boolean) 0 8 (mw k g (u2 S 0 9 1) (u2 Y 0 0 0)) hin6 tyX6 tyX6_ok nmX6 rfl mw_at0 (by decide) (by decide +kernel) rfl (by decide +kernel) (by decide) (by decide) (Nat.le_of_ble_eq_true rfl) (mw_mod8 _) (q := 46) dX6_enter_43 rfl ?_
        refine v_iload_n F 0 (q := 47) dX6_enter_46 rfl rfl rfl ?_
        exact ret _ _ _ _ _ _ (Nat.zero_le _) (Nat.zero_le _) dX6_enter_47 (⟨(u2 Y 0 0 0), by unfold sEnter; rw [if_pos (by unfold entB; simp [*]; try omega)]; try rfl, rfl, vB_1 (by unfold entB; simp [*]; try omega)⟩)
      · refine v_if_eq F (tgt := 34) (q := 30) R32_0 dX6_enter_27 rfl rfl (fun h_9 => ?_) (fun h_9 => absurd h_9 (by omega))
        refine v_const F (q := 35) dX6_enter_34 rfl ?_
        refine v_istore_n F (q := 36) [(1, VI 0), (0, .ref (g 0))] dX6_enter_35 rfl (by decide) rfl rfl ?_
        refine v_aload_n F 1 (q := 37) dX6_enter_36 rfl rfl rfl ?_
        refine v_dup F (q := 38) dX6_enter_37 rfl rfl ?_
        refine v_get F (C := RX6) (T := TX6) (N := 25) (ci := 6) (v := VI (S 0 9)) 0 8 hin6 rfl mw_at0 (by decide) (by decide +kernel) rfl (q := 41) dX6_enter_38 rfl ?_
        have b_10 := hI.isin
        refine v_iload_n F 0 (q := 42) dX6_enter_41 rfl rfl rfl ?_
        refine v_ior F (q := 43) (z := S 0 9) dX6_enter_42 (or_0 hI.isin) rfl ?_
        refine v_put F (C := RX6) (T := TX6) (N := 25) (ci := 6) (ty := .boolean) 0 8 (mw k g (u2 S 0 9 (S 0 9)) (u2 Y 0 0 0)) hin6 tyX6 tyX6_ok nmX6 rfl mw_at0 (by decide) (by decide +kernel) rfl (by decide +kernel) (vz_n hI.isin) (vz_f hI.isin) (Nat.le_of_ble_eq_true rfl) (mw_mod8 _) (q := 46) dX6_enter_43 rfl ?_
        refine v_iload_n F 0 (q := 47) dX6_enter_46 rfl rfl rfl ?_
        exact ret _ _ _ _ _ _ (Nat.zero_le _) (Nat.zero_le _) dX6_enter_47 (⟨(u2 Y 0 0 0), by unfold sEnter; rw [if_neg (by unfold entB; simp [*])]; try rfl, rfl, vB_0 (by unfold entB; simp [*])⟩)
    · refine v_if_eq F (tgt := 34) (q := 19) R32_0 dX6_enter_16 rfl rfl (fun h_11 => ?_) (fun h_11 => absurd h_11 (by omega))
      refine v_const F (q := 35) dX6_enter_34 rfl ?_
      refine v_istore_n F (q := 36) [(1, VI 0), (0, .ref (g 0))] dX6_enter_35 rfl (by decide) rfl rfl ?_
      refine v_aload_n F 1 (q := 37) dX6_enter_36 rfl rfl rfl ?_
      refine v_dup F (q := 38) dX6_enter_37 rfl rfl ?_
      refine v_get F (C := RX6) (T := TX6) (N := 25) (ci := 6) (v := VI (S 0 9)) 0 8 hin6 rfl mw_at0 (by decide) (by decide +kernel) rfl (q := 41) dX6_enter_38 rfl ?_
      have b_12 := hI.isin
      refine v_iload_n F 0 (q := 42) dX6_enter_41 rfl rfl rfl ?_
      refine v_ior F (q := 43) (z := S 0 9) dX6_enter_42 (or_0 hI.isin) rfl ?_
      refine v_put F (C := RX6) (T := TX6) (N := 25) (ci := 6) (ty := .boolean) 0 8 (mw k g (u2 S 0 9 (S 0 9)) (u2 Y 0 0 0)) hin6 tyX6 tyX6_ok nmX6 rfl mw_at0 (by decide) (by decide +kernel) rfl (by decide +kernel) (vz_n hI.isin) (vz_f hI.isin) (Nat.le_of_ble_eq_true rfl) (mw_mod8 _) (q := 46) dX6_enter_43 rfl ?_
      refine v_iload_n F 0 (q := 47) dX6_enter_46 rfl rfl rfl ?_
      exact ret _ _ _ _ _ _ (Nat.zero_le _) (Nat.zero_le _) dX6_enter_47 (⟨(u2 Y 0 0 0), by unfold sEnter; rw [if_neg (by unfold entB; simp [*])]; try rfl, rfl, vB_0 (by unfold entB; simp [*])⟩)
theorem hdX6_leave : yX6_leave.cls = RX6 ∧ yX6_leave.cls ≠ "java/lang/invoke/MethodHandle" ∧ yX6_leave.cls ≠ "java/lang/invoke/VarHandle" ∧ (parseMethodDescriptor yX6_leave.desc).map (fun d => d.parameters.length) = some 0 := by decide +kernel
set_option maxRecDepth 100000 in
set_option maxHeartbeats 4000000 in
theorem kX6_leave {l : Launch} (hst : l.stackTraces = false) {k : Nat → ClassId} {g : Nat → Nat} {S Y : Nat → Nat → Int} (hI : Inv S) : v_Ci l k yX6_leave wsX6_leave ({ frames := 5, cells := 0, slots := 0, locals := 106 } : Room) [.ref (g 0)] (mw k g S Y) (fun a u => ∃ Y9, u = mw k g (sLeave S) Y9 ∧ Y9 0 0 = 0 ∧ vB (leaB S = true) a) := by
  refine v_ofI (cc := cX6_leave) (nL := 2) (by decide +kernel) rfl hst (Nat.le_of_ble_eq_true rfl) (fun _ _ hp => by obtain ⟨_, _, _, h⟩ := hp; exact vB_n h) (fun XX F ret => ?_)
  have hin6 : ∀ w ∈ wsX60, w ∈ wsX6_leave := by decide +kernel
  have b7 := hI.mc
  have b8 := hI.cc
  show V XX (mw k g S Y) 0 0 0 [(0, .ref (g 0))] []
  refine v_aload_n F 0 (q := 1) dX6_leave_0 rfl rfl rfl ?_
  refine v_const F (q := 2) dX6_leave_1 rfl ?_
  refine v_put F (C := RX6) (T := TX6) (N := 25) (ci := 6) (ty := .int) 0 0 (mw k g S (u2 Y 0 0 0)) hin6 tyX6 tyX6_ok nmX6 rfl mw_at0 (by decide) (by decide +kernel) rfl (by decide +kernel) rfl rfl (Nat.le_of_ble_eq_true rfl) (mw_thrown _) (q := 5) dX6_leave_2 rfl ?_
  refine v_aload_n F 0 (q := 6) dX6_leave_5 rfl rfl rfl ?_
  refine v_get F (C := RX6) (T := TX6) (N := 25) (ci := 6) (v := VI (S 0 9)) 0 8 hin6 rfl mw_at0 (by decide) (by decide +kernel) rfl (q := 9) dX6_leave_6 rfl ?_
  have b_1 := hI.isin
  refine v_if_eq F (tgt := 23) (q := 12) (by omega) dX6_leave_9 rfl rfl (fun h_2 => ?_) (fun h_2 => ?_)
  · refine v_const F (q := 24) dX6_leave_23 rfl ?_
    refine v_istore_n F (q := 25) [(1, VI 0), (0, .ref (g 0))] dX6_leave_24 rfl (by decide) rfl rfl ?_
    refine v_aload_n F 1 (q := 26) dX6_leave_25 rfl rfl rfl ?_
    refine v_dup F (q := 27) dX6_leave_26 rfl rfl ?_
    refine v_get F (C := RX6) (T := TX6) (N := 25) (ci := 6) (v := VI (S 0 9)) 0 8 hin6 rfl mw_at0 (by decide) (by decide +kernel) rfl (q := 30) dX6_leave_27 rfl ?_
    have b_3 := hI.isin
    refine v_iload_n F 0 (q := 31) dX6_leave_30 rfl rfl rfl ?_
    refine v_if_ne F (tgt := 38) (q := 34) R32_0 dX6_leave_31 rfl rfl (fun h_4 => absurd h_4 (by omega)) (fun h_4 => ?_)
    refine v_const F (q := 35) dX6_leave_34 rfl ?_
    refine v_goto F (tgt := 39) dX6_leave_35 rfl ?_
    refine v_iand F (q := 40) (z := S 0 9) dX6_leave_39 (and_1 hI.isin) rfl ?_
    refine v_put F (C := RX6) (T := TX6) (N := 25) (ci := 6) (ty := .boolean) 0 8 (mw k g (u2 S 0 9 (S 0 9)) (u2 Y 0 0 0)) hin6 tyX6 tyX6_ok nmX6 rfl mw_at0 (by decide) (by decide +kernel) rfl (by decide +kernel) (vz_n hI.isin) (vz_f hI.isin) (Nat.le_of_ble_eq_true rfl) (mw_mod8 _) (q := 43) dX6_leave_40 rfl ?_
    refine v_iload_n F 0 (q := 44) dX6_leave_43 rfl rfl rfl ?_
    exact ret _ _ _ _ _ _ (Nat.zero_le _) (Nat.zero_le _) dX6_leave_44 (⟨(u2 Y 0 0 0), by unfold sLeave; rw [if_neg (by unfold leaB; simp [*])]; try rfl, rfl, vB_0 (by unfold leaB; simp [*])⟩)
  · refine v_aload_n F 0 (q := 13) dX6_leave_12 rfl rfl rfl ?_
    refine v_callVi0 F (kX6_goesThrough hst (k := k) (g := g) (S := S) (Y := (u2 Y 0 0 0)) hI) gX6_leave_X6_goesThrough rfl hdX6_goesThrough ⟨by decide, by decide⟩ 0 mw_at0 rfl rfl rfl (Nat.le_of_ble_eq_true rfl) ⟨(Nat.zero_le _), (Nat.zero_le _)⟩ (q := 16) dX6_leave_13 rfl ?_
    rintro _ _ ⟨rfl, ⟨rfl, h_5⟩ | ⟨rfl, h_5⟩⟩
    · refine v_if_eq F (tgt := 23) (q := 19) (by omega) dX6_leave_16 rfl rfl (fun h_6 => absurd h_6 (by omega)) (fun h_6 => ?_)
      refine v_const F (q := 20) dX6_leave_19 rfl ?_
      refine v_goto F (tgt := 24) dX6_leave_20 rfl ?_
      refine v_istore_n F (q := 25) [(1, VI 1), (0, .ref (g 0))] dX6_leave_24 rfl (by decide) rfl rfl ?_
      refine v_aload_n F 1 (q := 26) dX6_leave_25 rfl rfl rfl ?_
      refine v_dup F (q := 27) dX6_leave_26 rfl rfl ?_
      refine v_get F (C := RX6) (T := TX6) (N := 25) (ci := 6) (v := VI (S 0 9)) 0 8 hin6 rfl mw_at0 (by decide) (by decide +kernel) rfl (q := 30) dX6_leave_27 rfl ?_
      have b_7 := hI.isin
      refine v_iload_n F 0 (q := 31) dX6_leave_30 rfl rfl rfl ?_
      refine v_if_ne F (tgt := 38) (q := 34) (by omega) dX6_leave_31 rfl rfl (fun h_8 => ?_) (fun h_8 => absurd h_8 (by omega))
      refine v_const F (q := 39) dX6_leave_38 rfl ?_
      refine v_iand F (q := 40) (z := 0) dX6_leave_39 (by rw [show S 0 9 = 1 from by omega]; decide) rfl ?_
      refine v_put F (C := RX6) (T := TX6) (N := 25) (ci := 6) (ty := .boolean) 0 8 (mw k g (u2 S 0 9 0) (u2 Y 0 0 0)) hin6 tyX6 tyX6_ok nmX6 rfl mw_at0 (by decide) (by decide +kernel) rfl (by decide +kernel) (by decide) (by decide) (Nat.le_of_ble_eq_true rfl) (mw_mod8 _) (q := 43) dX6_leave_40 rfl ?_
      refine v_iload_n F 0 (q := 44) dX6_leave_43 rfl rfl rfl ?_
      exact ret _ _ _ _ _ _ (Nat.zero_le _) (Nat.zero_le _) dX6_leave_44 (⟨(u2 Y 0 0 0), by unfold sLeave; rw [if_pos (by unfold leaB; simp [*]; try omega)]; try rfl, rfl, vB_1 (by unfold leaB; simp [*]; try omega)⟩)
    · refine v_if_eq F (tgt := 23) (q := 19) R32_0 dX6_leave_16 rfl rfl (fun h_9 => ?_) (fun h_9 => absurd h_9 (by omega))
      refine v_const F (q := 24) dX6_leave_23 rfl ?_
      refine v_istore_n F (q := 25) [(1, VI 0), (0, .ref (g 0))] dX6_leave_24 rfl (by decide) rfl rfl ?_
      refine v_aload_n F 1 (q := 26) dX6_leave_25 rfl rfl rfl ?_
      refine v_dup F (q := 27) dX6_leave_26 rfl rfl ?_
      refine v_get F (C := RX6) (T := TX6) (N := 25) (ci := 6) (v := VI (S 0 9)) 0 8 hin6 rfl mw_at0 (by decide) (by decide +kernel) rfl (q := 30) dX6_leave_27 rfl ?_
      have b_10 := hI.isin
      refine v_iload_n F 0 (q := 31) dX6_leave_30 rfl rfl rfl ?_
      refine v_if_ne F (tgt := 38) (q := 34) R32_0 dX6_leave_31 rfl rfl (fun h_11 => absurd h_11 (by omega)) (fun h_11 => ?_)
      refine v_const F (q := 35) dX6_leave_34 rfl ?_
      refine v_goto F (tgt := 39) dX6_leave_35 rfl ?_
      refine v_iand F (q := 40) (z := S 0 9) dX6_leave_39 (and_1 hI.isin) rfl ?_
      refine v_put F (C := RX6) (T := TX6) (N := 25) (ci := 6) (ty := .boolean) 0 8 (mw k g (u2 S 0 9 (S 0 9)) (u2 Y 0 0 0)) hin6 tyX6 tyX6_ok nmX6 rfl mw_at0 (by decide) (by decide +kernel) rfl (by decide +kernel) (vz_n hI.isin) (vz_f hI.isin) (Nat.le_of_ble_eq_true rfl) (mw_mod8 _) (q := 43) dX6_leave_40 rfl ?_
      refine v_iload_n F 0 (q := 44) dX6_leave_43 rfl rfl rfl ?_
      exact ret _ _ _ _ _ _ (Nat.zero_le _) (Nat.zero_le _) dX6_leave_44 (⟨(u2 Y 0 0 0), by unfold sLeave; rw [if_neg (by unfold leaB; simp [*])]; try rfl, rfl, vB_0 (by unfold leaB; simp [*])⟩)
theorem hdX6_glue : yX6_glue.cls = RX6 ∧ yX6_glue.cls ≠ "java/lang/invoke/MethodHandle" ∧ yX6_glue.cls ≠ "java/lang/invoke/VarHandle" ∧ (parseMethodDescriptor yX6_glue.desc).map (fun d => d.parameters.length) = some 1 := by decide +kernel
set_option maxRecDepth 100000 in
set_option maxHeartbeats 4000000 in
theorem kX6_glue {l : Launch} (hst : l.stackTraces = false) {k : Nat → ClassId} {g : Nat → Nat} {S Y : Nat → Nat → Int} (hI : Inv S) {a0 : Int} (g0 : R32 a0) : v_Ci l k yX6_glue wsX6_glue ({ frames := 2, cells := 0, slots := 0, locals := 43 } : Room) [.ref (g 0), VI a0] (mw k g S Y) (fun a u => ∃ Y9 : Nat → Nat → Int, Y9 0 0 = eGlue S a0 ∧ ((eGlue S a0 = 0 ∧ a = 1 - S 8 a0.toNat ∧ u = mw k g (sGlue S a0.toNat) Y9) ∨ (¬ eGlue S a0 = 0 ∧ u = mw k g S Y9))) := by
  refine v_ofI (cc := cX6_glue) (nL := 2) (by decide +kernel) rfl hst (Nat.le_of_ble_eq_true rfl) (fun _ _ _ => rfl) (fun XX F ret => ?_)
  have hin6 : ∀ w ∈ wsX60, w ∈ wsX6_glue := by decide +kernel
  have b7 := hI.mc
  have b8 := hI.cc
  show V XX (mw k g S Y) 0 0 0 [(0, .ref (g 0)), (1, VI a0)] []
  refine v_aload_n F 0 (q := 1) dX6_glue_0 rfl rfl rfl ?_
  refine v_const F (q := 2) dX6_glue_1 rfl ?_
  refine v_put F (C := RX6) (T := TX6) (N := 25) (ci := 6) (ty := .int) 0 0 (mw k g S (u2 Y 0 0 0)) hin6 tyX6 tyX6_ok nmX6 rfl mw_at0 (by decide) (by decide +kernel) rfl (by decide +kernel) rfl rfl (Nat.le_of_ble_eq_true rfl) (mw_thrown _) (q := 5) dX6_glue_2 rfl ?_
  refine v_aload_n F 0 (q := 6) dX6_glue_5 rfl rfl rfl ?_
  refine v_iload_n F 1 (q := 7) dX6_glue_6 rfl rfl rfl ?_
  refine v_callVi0 F (kX6_isThread hst (k := k) (g := g) (S := S) (Y := (u2 Y 0 0 0)) hI (a0 := a0) (by omega)) gX6_glue_X6_isThread rfl hdX6_isThread ⟨by decide, by decide⟩ 0 mw_at0 rfl rfl rfl (Nat.le_of_ble_eq_true rfl) ⟨(Nat.zero_le _), (Nat.zero_le _)⟩ (q := 10) dX6_glue_7 rfl ?_
  rintro _ _ ⟨rfl, ⟨rfl, h_1⟩ | ⟨rfl, h_1⟩⟩
  · refine v_if_ne F (tgt := 19) (q := 13) (by omega) dX6_glue_10 rfl rfl (fun h_2 => ?_) (fun h_2 => absurd h_2 (by omega))
    refine v_aload_n F 0 (q := 20) dX6_glue_19 rfl rfl rfl ?_
    refine v_get F (C := RX6) (T := TX6) (N := 25) (ci := 6) (v := .ref (g 8)) 0 22 hin6 rfl mw_at0 (by decide) (by decide +kernel) rfl (q := 23) dX6_glue_20 rfl ?_
    refine v_iload_n F 1 (q := 24) dX6_glue_23 rfl rfl rfl ?_
    refine v_iald F (j := a0.toNat) 8 mw_at8 (by omega) (by omega) (by decide) (q := 25) dX6_glue_24 rfl ?_
    have b_3 := hI.st (a0.toNat)
    refine v_const F (q := 26) dX6_glue_25 rfl ?_
    refine v_icmp_ne F (tgt := 35) (q := 29) (by omega) (by omega) dX6_glue_26 rfl rfl (fun h_4 => ?_) (fun h_4 => ?_)
    · refine v_aload_n F 0 (q := 36) dX6_glue_35 rfl rfl rfl ?_
      refine v_get F (C := RX6) (T := TX6) (N := 25) (ci := 6) (v := .ref (g 8)) 0 22 hin6 rfl mw_at0 (by decide) (by decide +kernel) rfl (q := 39) dX6_glue_36 rfl ?_
      refine v_iload_n F 1 (q := 40) dX6_glue_39 rfl rfl rfl ?_
      refine v_const F (q := 41) dX6_glue_40 rfl ?_
      refine v_aload_n F 0 (q := 42) dX6_glue_41 rfl rfl rfl ?_
      refine v_get F (C := RX6) (T := TX6) (N := 25) (ci := 6) (v := .ref (g 8)) 0 22 hin6 rfl mw_at0 (by decide) (by decide +kernel) rfl (q := 45) dX6_glue_42 rfl ?_
      refine v_iload_n F 1 (q := 46) dX6_glue_45 rfl rfl rfl ?_
      refine v_iald F (j := a0.toNat) 8 mw_at8 (by omega) (by omega) (by decide) (q := 47) dX6_glue_46 rfl ?_
      have b_5 := hI.st (a0.toNat)
      refine v_isub F (q := 48) dX6_glue_47 rfl ?_
      refine v_iast F (j := a0.toNat) 8 (mw k g (u2 S 8 (a0.toNat) (1 - (S 8 (a0.toNat)))) (u2 Y 0 0 0)) mw_at8 (by omega) (by omega) (by decide) (mw_row8 (a0.toNat) _) (q := 49) dX6_glue_48 rfl ?_
      refine v_aload_n F 0 (q := 50) dX6_glue_49 rfl rfl rfl ?_
      refine v_get F (C := RX6) (T := TX6) (N := 25) (ci := 6) (v := .ref (g 8)) 0 22 hin6 rfl mw_at0 (by decide) (by decide +kernel) rfl (q := 53) dX6_glue_50 rfl ?_
      refine v_iload_n F 1 (q := 54) dX6_glue_53 rfl rfl rfl ?_
      refine v_iald F (j := a0.toNat) 8 mw_at8 (by omega) (by omega) (by decide) (q := 55) dX6_glue_54 rfl ?_
      refine v_cast (b := 1 - (S 8 (a0.toNat))) (by first | rfl | (simp [u2, ur]; done) | grind [u2, ur]) ?_
      exact ret _ _ _ _ _ _ (Nat.zero_le _) (Nat.zero_le _) dX6_glue_55 (⟨(u2 Y 0 0 0), by show (0 : Int) = _; unfold eGlue; grind, Or.inl ⟨by unfold eGlue; grind, by omega, rfl⟩⟩)
    · refine v_aload_n F 0 (q := 30) dX6_glue_29 rfl rfl rfl ?_
      refine v_const F (q := 31) dX6_glue_30 rfl ?_
      refine v_callVi0 F (kX6_no hst (k := k) (g := g) (S := S) (Y := (u2 Y 0 0 0)) hI (a0 := 2)) gX6_glue_X6_no rfl hdX6_no ⟨by decide, by decide⟩ 0 mw_at0 rfl rfl rfl (Nat.le_of_ble_eq_true rfl) ⟨(Nat.zero_le _), (Nat.zero_le _)⟩ (q := 34) dX6_glue_31 rfl ?_
      rintro a_6 _ ⟨rfl, rfl⟩
      exact ret _ _ _ _ _ _ (Nat.zero_le _) (Nat.zero_le _) dX6_glue_34 (⟨(u2 (u2 Y 0 0 0) 0 0 2), by show (2 : Int) = _; unfold eGlue; grind, Or.inr ⟨by unfold eGlue; grind, rfl⟩⟩)
  · refine v_if_ne F (tgt := 19) (q := 13) R32_0 dX6_glue_10 rfl rfl (fun h_7 => absurd h_7 (by omega)) (fun h_7 => ?_)
    refine v_aload_n F 0 (q := 14) dX6_glue_13 rfl rfl rfl ?_
    refine v_const F (q := 15) dX6_glue_14 rfl ?_
    refine v_callVi0 F (kX6_no hst (k := k) (g := g) (S := S) (Y := (u2 Y 0 0 0)) hI (a0 := 1)) gX6_glue_X6_no rfl hdX6_no ⟨by decide, by decide⟩ 0 mw_at0 rfl rfl rfl (Nat.le_of_ble_eq_true rfl) ⟨(Nat.zero_le _), (Nat.zero_le _)⟩ (q := 18) dX6_glue_15 rfl ?_
    rintro a_8 _ ⟨rfl, rfl⟩
    exact ret _ _ _ _ _ _ (Nat.zero_le _) (Nat.zero_le _) dX6_glue_18 (⟨(u2 (u2 Y 0 0 0) 0 0 1), by show (1 : Int) = _; unfold eGlue; grind, Or.inr ⟨by unfold eGlue; grind, rfl⟩⟩)
theorem hdX6_cross : yX6_cross.cls = RX6 ∧ yX6_cross.cls ≠ "java/lang/invoke/MethodHandle" ∧ yX6_cross.cls ≠ "java/lang/invoke/VarHandle" ∧ (parseMethodDescriptor yX6_cross.desc).map (fun d => d.parameters.length) = some 2 := by decide +kernel
set_option maxRecDepth 100000 in
set_option maxHeartbeats 4000000 in
theorem kX6_cross {l : Launch} (hst : l.stackTraces = false) {k : Nat → ClassId} {g : Nat → Nat} {S Y : Nat → Nat → Int} (hI : Inv S) {a0 a1 : Int} (g0 : R32 a0) (g1 : R32 a1) : v_Ci l k yX6_cross wsX6_cross ({ frames := 2, cells := 0, slots := 0, locals := 45 } : Room) [.ref (g 0), VI a0, VI a1] (mw k g S Y) (fun a u => ∃ Y9 : Nat → Nat → Int, Y9 0 0 = eCross S a0 a1 ∧ u = mw k g S Y9 ∧ (0 ≤ a ∧ a ≤ 1) ∧ (eCross S a0 a1 = 0 → vB (crossB S a0.toNat a1.toNat = true) a)) := by
  refine v_ofI (cc := cX6_cross) (nL := 3) (by decide +kernel) rfl hst (Nat.le_of_ble_eq_true rfl) (fun _ _ hp => by obtain ⟨_, _, _, h, _⟩ := hp; exact vz_n h) (fun XX F ret => ?_)
  have hin6 : ∀ w ∈ wsX60, w ∈ wsX6_cross := by decide +kernel
  have b7 := hI.mc
  have b8 := hI.cc
  show V XX (mw k g S Y) 0 0 0 [(0, .ref (g 0)), (1, VI a0), (2, VI a1)] []
  refine v_aload_n F 0 (q := 1) dX6_cross_0 rfl rfl rfl ?_
  refine v_const F (q := 2) dX6_cross_1 rfl ?_
  refine v_put F (C := RX6) (T := TX6) (N := 25) (ci := 6) (ty := .int) 0 0 (mw k g S (u2 Y 0 0 0)) hin6 tyX6 tyX6_ok nmX6 rfl mw_at0 (by decide) (by decide +kernel) rfl (by decide +kernel) rfl rfl (Nat.le_of_ble_eq_true rfl) (mw_thrown _) (q := 5) dX6_cross_2 rfl ?_
  refine v_aload_n F 0 (q := 6) dX6_cross_5 rfl rfl rfl ?_
  refine v_iload_n F 1 (q := 7) dX6_cross_6 rfl rfl rfl ?_
  refine v_callVi0 F (kX6_isThread hst (k := k) (g := g) (S := S) (Y := (u2 Y 0 0 0)) hI (a0 := a0) (by omega)) gX6_cross_X6_isThread rfl hdX6_isThread ⟨by decide, by decide⟩ 0 mw_at0 rfl rfl rfl (Nat.le_of_ble_eq_true rfl) ⟨(Nat.zero_le _), (Nat.zero_le _)⟩ (q := 10) dX6_cross_7 rfl ?_
  rintro _ _ ⟨rfl, ⟨rfl, h_1⟩ | ⟨rfl, h_1⟩⟩
  · refine v_if_eq F (tgt := 21) (q := 13) (by omega) dX6_cross_10 rfl rfl (fun h_2 => absurd h_2 (by omega)) (fun h_2 => ?_)
    refine v_aload_n F 0 (q := 14) dX6_cross_13 rfl rfl rfl ?_
    refine v_iload_n F 2 (q := 15) dX6_cross_14 rfl rfl rfl ?_
    refine v_callVi0 F (kX6_isThread hst (k := k) (g := g) (S := S) (Y := (u2 Y 0 0 0)) hI (a0 := a1) (by omega)) gX6_cross_X6_isThread rfl hdX6_isThread ⟨by decide, by decide⟩ 0 mw_at0 rfl rfl rfl (Nat.le_of_ble_eq_true rfl) ⟨(Nat.zero_le _), (Nat.zero_le _)⟩ (q := 18) dX6_cross_15 rfl ?_
    rintro _ _ ⟨rfl, ⟨rfl, h_3⟩ | ⟨rfl, h_3⟩⟩
    · refine v_if_ne F (tgt := 35) (q := 21) (by omega) dX6_cross_18 rfl rfl (fun h_4 => ?_) (fun h_4 => absurd h_4 (by omega))
      refine v_aload_n F 0 (q := 36) dX6_cross_35 rfl rfl rfl ?_
      refine v_iload_n F 1 (q := 37) dX6_cross_36 rfl rfl rfl ?_
      refine v_iload_n F 2 (q := 38) dX6_cross_37 rfl rfl rfl ?_
      refine v_steq (st9 := [VI ((a1.toNat : Nat) : Int), VI ((a0.toNat : Nat) : Int), .ref (g 0)]) (by rw [show ((a0.toNat : Nat) : Int) = a0 from (by omega), show ((a1.toNat : Nat) : Int) = a1 from (by omega)]) ?_
      refine v_callVi0 F (kX6_crosses hst (k := k) (g := g) (S := S) (Y := (u2 Y 0 0 0)) hI (a := a0.toNat) (b := a1.toNat) (by omega) (by omega)) gX6_cross_X6_crosses rfl hdX6_crosses ⟨by decide, by decide⟩ 0 mw_at0 rfl rfl rfl (Nat.le_of_ble_eq_true rfl) ⟨(Nat.zero_le _), (Nat.zero_le _)⟩ (q := 41) dX6_cross_38 rfl ?_
      rintro _ _ ⟨rfl, ⟨rfl, h_5⟩ | ⟨rfl, h_5⟩⟩
      · exact ret _ _ _ _ _ _ (Nat.zero_le _) (Nat.zero_le _) dX6_cross_41 (⟨(u2 Y 0 0 0), by show (0 : Int) = _; unfold eCross; grind, rfl, by decide, fun e9 => vB_1 (by assumption)⟩)
      · exact ret _ _ _ _ _ _ (Nat.zero_le _) (Nat.zero_le _) dX6_cross_41 (⟨(u2 Y 0 0 0), by show (0 : Int) = _; unfold eCross; grind, rfl, by decide, fun e9 => vB_0 (by assumption)⟩)
    · refine v_if_ne F (tgt := 35) (q := 21) R32_0 dX6_cross_18 rfl rfl (fun h_6 => absurd h_6 (by omega)) (fun h_6 => ?_)
      refine v_aload_n F 0 (q := 22) dX6_cross_21 rfl rfl rfl ?_
      refine v_const F (q := 23) dX6_cross_22 rfl ?_
      refine v_callVi0 F (kX6_no hst (k := k) (g := g) (S := S) (Y := (u2 Y 0 0 0)) hI (a0 := 1)) gX6_cross_X6_no rfl hdX6_no ⟨by decide, by decide⟩ 0 mw_at0 rfl rfl rfl (Nat.le_of_ble_eq_true rfl) ⟨(Nat.zero_le _), (Nat.zero_le _)⟩ (q := 26) dX6_cross_23 rfl ?_
      rintro a_7 _ ⟨rfl, rfl⟩
      refine v_if_eq F (tgt := 33) (q := 29) R32_0 dX6_cross_26 rfl rfl (fun h_8 => ?_) (fun h_8 => absurd h_8 (by omega))
      refine v_const F (q := 34) dX6_cross_33 rfl ?_
      exact ret _ _ _ _ _ _ (Nat.zero_le _) (Nat.zero_le _) dX6_cross_34 (⟨(u2 (u2 Y 0 0 0) 0 0 1), by show (1 : Int) = _; unfold eCross; grind, rfl, by decide, fun e9 => absurd e9 (by unfold eCross; grind)⟩)
  · refine v_if_eq F (tgt := 21) (q := 13) R32_0 dX6_cross_10 rfl rfl (fun h_9 => ?_) (fun h_9 => absurd h_9 (by omega))
    refine v_aload_n F 0 (q := 22) dX6_cross_21 rfl rfl rfl ?_
    refine v_const F (q := 23) dX6_cross_22 rfl ?_
    refine v_callVi0 F (kX6_no hst (k := k) (g := g) (S := S) (Y := (u2 Y 0 0 0)) hI (a0 := 1)) gX6_cross_X6_no rfl hdX6_no ⟨by decide, by decide⟩ 0 mw_at0 rfl rfl rfl (Nat.le_of_ble_eq_true rfl) ⟨(Nat.zero_le _), (Nat.zero_le _)⟩ (q := 26) dX6_cross_23 rfl ?_
    rintro a_10 _ ⟨rfl, rfl⟩
    refine v_if_eq F (tgt := 33) (q := 29) R32_0 dX6_cross_26 rfl rfl (fun h_11 => ?_) (fun h_11 => absurd h_11 (by omega))
    refine v_const F (q := 34) dX6_cross_33 rfl ?_
    exact ret _ _ _ _ _ _ (Nat.zero_le _) (Nat.zero_le _) dX6_cross_34 (⟨(u2 (u2 Y 0 0 0) 0 0 1), by show (1 : Int) = _; unfold eCross; grind, rfl, by decide, fun e9 => absurd e9 (by unfold eCross; grind)⟩)
