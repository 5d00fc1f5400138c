theorem hdX6_mastTold : yX6_mastTold.cls = RX6 ∧ yX6_mastTold.cls ≠ "java/lang/invoke/MethodHandle" ∧ yX6_mastTold.cls ≠ "java/lang/invoke/VarHandle" ∧ (parseMethodDescriptor yX6_mastTold.desc).map (fun d => d.parameters.length) = some 2 := by decide +kernel
set_option maxRecDepth 100000 in
set_option maxHeartbeats 4000000 in
theorem kX6_mastTold {l : Launch} (hst : l.stackTraces = false) {k : Nat → ClassId} {g : Nat → Nat} {S Y : Nat → Nat → Int} (hI : Inv S) {m : Nat} (hm : m < 3) {a1 : Int} (g1 : 0 ≤ a1 ∧ a1 ≤ 7) : v_Ci l k yX6_mastTold wsX6_mastTold ({ frames := 3, cells := 1, slots := 8, locals := 63 } : Room) [.ref (g 0), VI ((m : Nat) : Int), VI a1] (mw k g S Y) (fun a u => u = mw k g S Y ∧ a = mastV S m a1) := by
  refine v_ofI (cc := cX6_mastTold) (nL := 4) (by decide +kernel) rfl hst (Nat.le_of_ble_eq_true rfl) (fun _ _ _ => rfl) (fun XX F ret => ?_)
  have hin6 : ∀ w ∈ wsX60, w ∈ wsX6_mastTold := by decide +kernel
  have b7 := hI.mc
  have b8 := hI.cc
  show V XX (mw k g S Y) 0 0 0 [(0, .ref (g 0)), (1, VI ((m : Nat) : Int)), (2, VI a1)] []
  refine v_bipush F (q := 2) dX6_mastTold_0 rfl rfl ?_
  refine v_newi F (N := 8) (q := 4) (by decide) (by decide +kernel) (by decide) (by decide) dX6_mastTold_2 rfl (fun t_1 => ?_)
  refine v_dup F (q := 5) dX6_mastTold_4 rfl rfl ?_
  refine v_const F (q := 6) dX6_mastTold_5 rfl ?_
  refine v_aload_n F 0 (q := 7) dX6_mastTold_6 rfl rfl rfl ?_
  refine v_get F (C := RX6) (T := TX6) (N := 25) (ci := 6) (v := .ref (g 1)) 0 14 hin6 rfl (v_tl mw_at0) (by decide) (by decide +kernel) rfl (q := 10) dX6_mastTold_7 rfl ?_
  refine v_iload_n F 1 (q := 11) dX6_mastTold_10 rfl rfl rfl ?_
  refine v_iald F (j := m) 1 (v_tl mw_at1) rfl (by omega) (by decide) (q := 12) dX6_mastTold_11 rfl ?_
  have b_2 := And.intro (hI.pos 1 m (by omega) (by omega)) (hI.1 1 m (by omega)).2
  refine v_iast F (j := 0) 11 (mw k g S Y ++ [(t_1, aI k 8 (fun i => if i = 0 then S 1 m else (fun _ => 0) i))]) (mw_tail_at _) rfl (by omega) (by decide) (mw_tail _ _ _) (q := 13) dX6_mastTold_12 rfl ?_
  refine v_dup F (q := 14) dX6_mastTold_13 rfl rfl ?_
  refine v_const F (q := 15) dX6_mastTold_14 rfl ?_
  refine v_aload_n F 0 (q := 16) dX6_mastTold_15 rfl rfl rfl ?_
  refine v_get F (C := RX6) (T := TX6) (N := 25) (ci := 6) (v := .ref (g 2)) 0 15 hin6 rfl (v_tl mw_at0) (by decide) (by decide +kernel) rfl (q := 19) dX6_mastTold_16 rfl ?_
  refine v_iload_n F 1 (q := 20) dX6_mastTold_19 rfl rfl rfl ?_
  refine v_iald F (j := m) 2 (v_tl mw_at2) rfl (by omega) (by decide) (q := 21) dX6_mastTold_20 rfl ?_
  have b_3 := hI.tall m
  refine v_iast F (j := 1) 11 (mw k g S Y ++ [(t_1, aI k 8 (fun i => if i = 1 then S 2 m else (fun i => if i = 0 then S 1 m else (fun _ => 0) i) i))]) (mw_tail_at _) rfl (by omega) (by decide) (mw_tail _ _ _) (q := 22) dX6_mastTold_21 rfl ?_
  refine v_dup F (q := 23) dX6_mastTold_22 rfl rfl ?_
  refine v_const F (q := 24) dX6_mastTold_23 rfl ?_
  refine v_aload_n F 0 (q := 25) dX6_mastTold_24 rfl rfl rfl ?_
  refine v_get F (C := RX6) (T := TX6) (N := 25) (ci := 6) (v := VI (codeF (S 4))) 0 13 hin6 rfl (v_tl mw_at0) (by decide) (by decide +kernel) rfl (q := 28) dX6_mastTold_25 rfl ?_
  refine v_iload_n F 1 (q := 29) dX6_mastTold_28 rfl rfl rfl ?_
  refine v_callSi0 F (kX6_lean hst (k := k) (w := mw k g S Y ++ [(t_1, aI k 8 (fun i => if i = 1 then S 2 m else (fun i => if i = 0 then S 1 m else (fun _ => 0) i) i))]) (f := (S 4)) hI.lean3 (m := m) (by omega)) gX6_mastTold_X6_lean rfl hdX6_lean ⟨by decide, by decide⟩ rfl rfl (Nat.le_of_ble_eq_true rfl) ⟨(by first | decide | omega | (dsimp only; omega)), (by first | decide | omega | (dsimp only; omega))⟩ (q := 32) dX6_mastTold_29 rfl ?_
  rintro a_4 _ ⟨rfl, ⟨h_4, hc_4⟩⟩
  refine v_iast F (j := 2) 11 (mw k g S Y ++ [(t_1, aI k 8 (fun i => if i = 2 then a_4 else (fun i => if i = 1 then S 2 m else (fun i => if i = 0 then S 1 m else (fun _ => 0) i) i) i))]) (mw_tail_at _) rfl (by omega) (by decide) (mw_tail _ _ _) (q := 33) dX6_mastTold_32 rfl ?_
  refine v_dup F (q := 34) dX6_mastTold_33 rfl rfl ?_
  refine v_const F (q := 35) dX6_mastTold_34 rfl ?_
  refine v_aload_n F 0 (q := 36) dX6_mastTold_35 rfl rfl rfl ?_
  refine v_aload_n F 0 (q := 37) dX6_mastTold_36 rfl rfl rfl ?_
  refine v_get F (C := RX6) (T := TX6) (N := 25) (ci := 6) (v := VI (codeF (S 4))) 0 13 hin6 rfl (v_tl mw_at0) (by decide) (by decide +kernel) rfl (q := 40) dX6_mastTold_37 rfl ?_
  refine v_iload_n F 1 (q := 41) dX6_mastTold_40 rfl rfl rfl ?_
  refine v_callVi F (kX6_stands hst (k := k) (g := g) (S := S) (Y := Y) hI (f := (S 4)) hI.lean3 (m := m) (by omega)) rfl gX6_mastTold_X6_stands rfl hdX6_stands ⟨by decide, by decide⟩ 0 mw_at0 rfl rfl rfl (Nat.le_of_ble_eq_true rfl) ⟨(by first | decide | omega | (dsimp only; omega)), (by first | decide | omega | (dsimp only; omega))⟩ (q := 44) dX6_mastTold_41 rfl ?_
  rintro a_5 _ ⟨rfl, ⟨h_5, hc_5⟩⟩
  refine v_iast F (j := 3) 11 (mw k g S Y ++ [(t_1, aI k 8 (fun i => if i = 3 then a_5 else (fun i => if i = 2 then a_4 else (fun i => if i = 1 then S 2 m else (fun i => if i = 0 then S 1 m else (fun _ => 0) i) i) i) i))]) (mw_tail_at _) rfl (by omega) (by decide) (mw_tail _ _ _) (q := 45) dX6_mastTold_44 rfl ?_
  refine v_dup F (q := 46) dX6_mastTold_45 rfl rfl ?_
  refine v_const F (q := 47) dX6_mastTold_46 rfl ?_
  refine v_aload_n F 0 (q := 48) dX6_mastTold_47 rfl rfl rfl ?_
  refine v_aload_n F 0 (q := 49) dX6_mastTold_48 rfl rfl rfl ?_
  refine v_get F (C := RX6) (T := TX6) (N := 25) (ci := 6) (v := VI (codeF (S 4))) 0 13 hin6 rfl (v_tl mw_at0) (by decide) (by decide +kernel) rfl (q := 52) dX6_mastTold_49 rfl ?_
  refine v_iload_n F 1 (q := 53) dX6_mastTold_52 rfl rfl rfl ?_
  refine v_callVi F (kX6_reach hst (k := k) (g := g) (S := S) (Y := Y) hI (f := (S 4)) hI.lean3 (m := m) (by omega)) rfl gX6_mastTold_X6_reach rfl hdX6_reach ⟨by decide, by decide⟩ 0 mw_at0 rfl rfl rfl (Nat.le_of_ble_eq_true rfl) ⟨(by first | decide | omega | (dsimp only; omega)), (by first | decide | omega | (dsimp only; omega))⟩ (q := 56) dX6_mastTold_53 rfl ?_
  rintro a_6 _ ⟨rfl, ⟨h_6, hc_6⟩⟩
  refine v_iast F (j := 4) 11 (mw k g S Y ++ [(t_1, aI k 8 (fun i => if i = 4 then a_6 else (fun i => if i = 3 then a_5 else (fun i => if i = 2 then a_4 else (fun i => if i = 1 then S 2 m else (fun i => if i = 0 then S 1 m else (fun _ => 0) i) i) i) i) i))]) (mw_tail_at _) rfl (by omega) (by decide) (mw_tail _ _ _) (q := 57) dX6_mastTold_56 rfl ?_
  refine v_dup F (q := 58) dX6_mastTold_57 rfl rfl ?_
  refine v_const F (q := 59) dX6_mastTold_58 rfl ?_
  refine v_aload_n F 0 (q := 60) dX6_mastTold_59 rfl rfl rfl ?_
  refine v_get F (C := RX6) (T := TX6) (N := 25) (ci := 6) (v := .ref (g 3)) 0 16 hin6 rfl (v_tl mw_at0) (by decide) (by decide +kernel) rfl (q := 63) dX6_mastTold_60 rfl ?_
  refine v_iload_n F 1 (q := 64) dX6_mastTold_63 rfl rfl rfl ?_
  refine v_iald F (j := m) 3 (v_tl mw_at3) rfl (by omega) (by decide) (q := 65) dX6_mastTold_64 rfl ?_
  have b_7 := hI.yc m
  refine v_iast F (j := 5) 11 (mw k g S Y ++ [(t_1, aI k 8 (fun i => if i = 5 then S 3 m else (fun i => if i = 4 then a_6 else (fun i => if i = 3 then a_5 else (fun i => if i = 2 then a_4 else (fun i => if i = 1 then S 2 m else (fun i => if i = 0 then S 1 m else (fun _ => 0) i) i) i) i) i) i))]) (mw_tail_at _) rfl (by omega) (by decide) (mw_tail _ _ _) (q := 66) dX6_mastTold_65 rfl ?_
  refine v_dup F (q := 67) dX6_mastTold_66 rfl rfl ?_
  refine v_bipush F (q := 69) dX6_mastTold_67 rfl rfl ?_
  refine v_aload_n F 0 (q := 70) dX6_mastTold_69 rfl rfl rfl ?_
  refine v_iload_n F 1 (q := 71) dX6_mastTold_70 rfl rfl rfl ?_
  refine v_callVi F (kX6_isHeld hst (k := k) (g := g) (S := S) (Y := Y) hI (a0 := ((m : Nat) : Int)) (by omega)) rfl gX6_mastTold_X6_isHeld rfl hdX6_isHeld ⟨by decide, by decide⟩ 0 mw_at0 rfl rfl rfl (Nat.le_of_ble_eq_true rfl) ⟨(by first | decide | omega | (dsimp only; omega)), (by first | decide | omega | (dsimp only; omega))⟩ (q := 74) dX6_mastTold_71 rfl ?_
  rintro _ _ ⟨rfl, ⟨rfl, h_8⟩ | ⟨rfl, h_8⟩⟩
  · refine v_if_eq F (tgt := 81) (q := 77) (by omega) dX6_mastTold_74 rfl rfl (fun h_9 => absurd h_9 (by omega)) (fun h_9 => ?_)
    refine v_const F (q := 78) dX6_mastTold_77 rfl ?_
    refine v_goto F (tgt := 82) dX6_mastTold_78 rfl ?_
    refine v_iast F (j := 6) 11 (mw k g S Y ++ [(t_1, aI k 8 (fun i => if i = 6 then 1 else (fun i => if i = 5 then S 3 m else (fun i => if i = 4 then a_6 else (fun i => if i = 3 then a_5 else (fun i => if i = 2 then a_4 else (fun i => if i = 1 then S 2 m else (fun i => if i = 0 then S 1 m else (fun _ => 0) i) i) i) i) i) i) i))]) (mw_tail_at _) rfl (by omega) (by decide) (mw_tail _ _ _) (q := 83) dX6_mastTold_82 rfl ?_
    refine v_dup F (q := 84) dX6_mastTold_83 rfl rfl ?_
    refine v_bipush F (q := 86) dX6_mastTold_84 rfl rfl ?_
    refine v_aload_n F 0 (q := 87) dX6_mastTold_86 rfl rfl rfl ?_
    refine v_iload_n F 1 (q := 88) dX6_mastTold_87 rfl rfl rfl ?_
    refine v_callVi F (kX6_loose hst (k := k) (g := g) (S := S) (Y := Y) hI (a0 := ((m : Nat) : Int)) (by omega)) rfl gX6_mastTold_X6_loose rfl hdX6_loose ⟨by decide, by decide⟩ 0 mw_at0 rfl rfl rfl (Nat.le_of_ble_eq_true rfl) ⟨(by first | decide | omega | (dsimp only; omega)), (by first | decide | omega | (dsimp only; omega))⟩ (q := 91) dX6_mastTold_88 rfl ?_
    rintro a_10 _ ⟨rfl, ⟨h_10, hc_10⟩⟩
    refine v_iast F (j := 7) 11 (mw k g S Y ++ [(t_1, aI k 8 (fun i => if i = 7 then a_10 else (fun i => if i = 6 then 1 else (fun i => if i = 5 then S 3 m else (fun i => if i = 4 then a_6 else (fun i => if i = 3 then a_5 else (fun i => if i = 2 then a_4 else (fun i => if i = 1 then S 2 m else (fun i => if i = 0 then S 1 m else (fun _ => 0) i) i) i) i) i) i) i) i))]) (mw_tail_at _) rfl (by omega) (by decide) (mw_tail _ _ _) (q := 92) dX6_mastTold_91 rfl ?_
    refine v_astore_n F (q := 93) [(3, .ref (t_1)), (0, .ref (g 0)), (1, VI ((m : Nat) : Int)), (2, VI a1)] dX6_mastTold_92 rfl (by decide) rfl rfl ?_
    refine v_aload_n F 0 (q := 94) dX6_mastTold_93 rfl rfl rfl ?_
    refine v_iload_n F 3 (q := 95) dX6_mastTold_94 rfl rfl rfl ?_
    refine v_iald F (j := a1.toNat) 11 (mw_tail_at _) (by omega) (by omega) (by decide) (q := 96) dX6_mastTold_95 rfl ?_
    refine v_drop ?_
    exact ret _ _ _ _ _ _ (by first | decide | omega | (dsimp only; omega)) (by first | decide | omega | (dsimp only; omega)) dX6_mastTold_96 (⟨rfl, by have hw8 : a1 = 0 ∨ a1 = 1 ∨ a1 = 2 ∨ a1 = 3 ∨ a1 = 4 ∨ a1 = 5 ∨ a1 = 6 ∨ a1 = 7 := (by omega); rcases hw8 with rfl | rfl | rfl | rfl | rfl | rfl | rfl | rfl <;> simp [mastV, bI, *]⟩)
  · refine v_if_eq F (tgt := 81) (q := 77) R32_0 dX6_mastTold_74 rfl rfl (fun h_11 => ?_) (fun h_11 => absurd h_11 (by omega))
    refine v_const F (q := 82) dX6_mastTold_81 rfl ?_
    refine v_iast F (j := 6) 11 (mw k g S Y ++ [(t_1, aI k 8 (fun i => if i = 6 then 0 else (fun i => if i = 5 then S 3 m else (fun i => if i = 4 then a_6 else (fun i => if i = 3 then a_5 else (fun i => if i = 2 then a_4 else (fun i => if i = 1 then S 2 m else (fun i => if i = 0 then S 1 m else (fun _ => 0) i) i) i) i) i) i) i))]) (mw_tail_at _) rfl (by omega) (by decide) (mw_tail _ _ _) (q := 83) dX6_mastTold_82 rfl ?_
    refine v_dup F (q := 84) dX6_mastTold_83 rfl rfl ?_
    refine v_bipush F (q := 86) dX6_mastTold_84 rfl rfl ?_
    refine v_aload_n F 0 (q := 87) dX6_mastTold_86 rfl rfl rfl ?_
    refine v_iload_n F 1 (q := 88) dX6_mastTold_87 rfl rfl rfl ?_
    refine v_callVi F (kX6_loose hst (k := k) (g := g) (S := S) (Y := Y) hI (a0 := ((m : Nat) : Int)) (by omega)) rfl gX6_mastTold_X6_loose rfl hdX6_loose ⟨by decide, by decide⟩ 0 mw_at0 rfl rfl rfl (Nat.le_of_ble_eq_true rfl) ⟨(by first | decide | omega | (dsimp only; omega)), (by first | decide | omega | (dsimp only; omega))⟩ (q := 91) dX6_mastTold_88 rfl ?_
    rintro a_12 _ ⟨rfl, ⟨h_12, hc_12⟩⟩
    refine v_iast F (j := 7) 11 (mw k g S Y ++ [(t_1, aI k 8 (fun i => if i = 7 then a_12 else (fun i => if i = 6 then 0 else (fun i => if i = 5 then S 3 m else (fun i => if i = 4 then a_6 else (fun i => if i = 3 then a_5 else (fun i => if i = 2 then a_4 else (fun i => if i = 1 then S 2 m else (fun i => if i = 0 then S 1 m else (fun _ => 0) i) i) i) i) i) i) i) i))]) (mw_tail_at _) rfl (by omega) (by decide) (mw_tail _ _ _) (q := 92) dX6_mastTold_91 rfl ?_
    refine v_astore_n F (q := 93) [(3, .ref (t_1)), (0, .ref (g 0)), (1, VI ((m : Nat) : Int)), (2, VI a1)] dX6_mastTold_92 rfl (by decide) rfl rfl ?_
    refine v_aload_n F 0 (q := 94) dX6_mastTold_93 rfl rfl rfl ?_
    refine v_iload_n F 3 (q := 95) dX6_mastTold_94 rfl rfl rfl ?_
    refine v_iald F (j := a1.toNat) 11 (mw_tail_at _) (by omega) (by omega) (by decide) (q := 96) dX6_mastTold_95 rfl ?_
    refine v_drop ?_
    exact ret _ _ _ _ _ _ (by first | decide | omega | (dsimp only; omega)) (by first | decide | omega | (dsimp only; omega)) dX6_mastTold_96 (⟨rfl, by have hw8 : a1 = 0 ∨ a1 = 1 ∨ a1 = 2 ∨ a1 = 3 ∨ a1 = 4 ∨ a1 = 5 ∨ a1 = 6 ∨ a1 = 7 := (by omega); rcases hw8 with rfl | rfl | rfl | rfl | rfl | rfl | rfl | rfl <;> simp [mastV, bI, *]⟩)
theorem hdX6_mast : yX6_mast.cls = RX6 ∧ yX6_mast.cls ≠ "java/lang/invoke/MethodHandle" ∧ yX6_mast.cls ≠ "java/lang/invoke/VarHandle" ∧ (parseMethodDescriptor yX6_mast.desc).map (fun d => d.parameters.length) = some 2 := by decide +kernel
set_option maxRecDepth 100000 in
set_option maxHeartbeats 4000000 in
theorem kX6_mast {l : Launch} (hst : l.stackTraces = false) {k : Nat → ClassId} {g : Nat → Nat} {S Y : Nat → Nat → Int} (hI : Inv S) {a0 a1 : Int} (g0 : R32 a0) (g1 : R32 a1) : v_Ci l k yX6_mast wsX6_mast ({ frames := 4, cells := 1, slots := 8, locals := 86 } : Room) [.ref (g 0), VI a0, VI a1] (mw k g S Y) (fun a u => ∃ Y9 : Nat → Nat → Int, Y9 0 0 = eMast S a0 a1 ∧ ((eMast S a0 a1 = 0 ∧ a = mastV S a0.toNat a1 ∧ u = mw k g S Y9) ∨ (¬ eMast S a0 a1 = 0 ∧ u = mw k g S Y9))) := by
  refine v_ofI (cc := cX6_mast) (nL := 3) (by decide +kernel) rfl hst (Nat.le_of_ble_eq_true rfl) (fun _ _ _ => rfl) (fun XX F ret => ?_)
  have hin6 : ∀ w ∈ wsX60, w ∈ wsX6_mast := by decide +kernel
  have b7 := hI.mc
  have b8 := hI.cc
  show V XX (mw k g S Y) 0 0 0 [(0, .ref (g 0)), (1, VI a0), (2, VI a1)] []
  refine v_aload_n F 0 (q := 1) dX6_mast_0 rfl rfl rfl ?_
  refine v_const F (q := 2) dX6_mast_1 rfl ?_
  refine v_put F (C := RX6) (T := TX6) (N := 25) (ci := 6) (ty := .int) 0 0 (mw k g S (u2 Y 0 0 0)) hin6 tyX6 tyX6_ok nmX6 rfl mw_at0 (by decide) (by decide +kernel) rfl (by decide +kernel) rfl rfl (Nat.le_of_ble_eq_true rfl) (mw_thrown _) (q := 5) dX6_mast_2 rfl ?_
  refine v_aload_n F 0 (q := 6) dX6_mast_5 rfl rfl rfl ?_
  refine v_iload_n F 1 (q := 7) dX6_mast_6 rfl rfl rfl ?_
  refine v_callVi0 F (kX6_isMast hst (k := k) (g := g) (S := S) (Y := (u2 Y 0 0 0)) hI (a0 := a0) (by omega)) gX6_mast_X6_isMast rfl hdX6_isMast ⟨by decide, by decide⟩ 0 mw_at0 rfl rfl rfl (Nat.le_of_ble_eq_true rfl) ⟨(Nat.zero_le _), (Nat.zero_le _)⟩ (q := 10) dX6_mast_7 rfl ?_
  rintro _ _ ⟨rfl, ⟨rfl, h_1⟩ | ⟨rfl, h_1⟩⟩
  · refine v_if_eq F (tgt := 32) (q := 13) (by omega) dX6_mast_10 rfl rfl (fun h_2 => absurd h_2 (by omega)) (fun h_2 => ?_)
    refine v_iload_n F 2 (q := 14) dX6_mast_13 rfl rfl rfl ?_
    refine v_const F (q := 15) dX6_mast_14 rfl ?_
    refine v_bipush F (q := 17) dX6_mast_15 rfl rfl ?_
    refine v_callSi0 F (kX6_isBetween hst (k := k) (w := mw k g S (u2 Y 0 0 0)) (a0 := a1) (a1 := 0) (a2 := 7) (by omega) (by omega) (by omega)) gX6_mast_X6_isBetween rfl hdX6_isBetween ⟨by decide, by decide⟩ rfl rfl (Nat.le_of_ble_eq_true rfl) ⟨(Nat.zero_le _), (Nat.zero_le _)⟩ (q := 20) dX6_mast_17 rfl ?_
    rintro _ _ ⟨rfl, ⟨rfl, h_3⟩ | ⟨rfl, h_3⟩⟩
    · refine v_if_eq F (tgt := 32) (q := 23) (by omega) dX6_mast_20 rfl rfl (fun h_4 => absurd h_4 (by omega)) (fun h_4 => ?_)
      refine v_aload_n F 0 (q := 24) dX6_mast_23 rfl rfl rfl ?_
      refine v_iload_n F 1 (q := 25) dX6_mast_24 rfl rfl rfl ?_
      refine v_iload_n F 2 (q := 26) dX6_mast_25 rfl rfl rfl ?_
      refine v_steq (st9 := [VI a1, VI ((a0.toNat : Nat) : Int), .ref (g 0)]) (by rw [show ((a0.toNat : Nat) : Int) = a0 from (by omega)]) ?_
      refine v_callVi0 F (kX6_mastTold hst (k := k) (g := g) (S := S) (Y := (u2 Y 0 0 0)) hI (m := a0.toNat) (by omega) (a1 := a1) (by omega)) gX6_mast_X6_mastTold rfl hdX6_mastTold ⟨by decide, by decide⟩ 0 mw_at0 rfl rfl rfl (Nat.le_of_ble_eq_true rfl) ⟨(by first | decide | omega | (dsimp only; omega)), (by first | decide | omega | (dsimp only; omega))⟩ (q := 29) dX6_mast_26 rfl ?_
      rintro a_5 _ ⟨rfl, h_5⟩
      refine v_goto F (tgt := 37) dX6_mast_29 rfl ?_
      exact ret _ _ _ _ _ _ (by first | decide | omega | (dsimp only; omega)) (by first | decide | omega | (dsimp only; omega)) dX6_mast_37 (⟨(u2 Y 0 0 0), by show (0 : Int) = _; unfold eMast; grind, Or.inl ⟨by unfold eMast; grind, by assumption, rfl⟩⟩)
    · refine v_if_eq F (tgt := 32) (q := 23) R32_0 dX6_mast_20 rfl rfl (fun h_6 => ?_) (fun h_6 => absurd h_6 (by omega))
      refine v_aload_n F 0 (q := 33) dX6_mast_32 rfl rfl rfl ?_
      refine v_const F (q := 34) dX6_mast_33 rfl ?_
      refine v_callVi0 F (kX6_no hst (k := k) (g := g) (S := S) (Y := (u2 Y 0 0 0)) hI (a0 := 1)) gX6_mast_X6_no rfl hdX6_no ⟨by decide, by decide⟩ 0 mw_at0 rfl rfl rfl (Nat.le_of_ble_eq_true rfl) ⟨(Nat.zero_le _), (Nat.zero_le _)⟩ (q := 37) dX6_mast_34 rfl ?_
      rintro a_7 _ ⟨rfl, rfl⟩
      exact ret _ _ _ _ _ _ (Nat.zero_le _) (Nat.zero_le _) dX6_mast_37 (⟨(u2 (u2 Y 0 0 0) 0 0 1), by show (1 : Int) = _; unfold eMast; grind, Or.inr ⟨by unfold eMast; grind, rfl⟩⟩)
  · refine v_if_eq F (tgt := 32) (q := 13) R32_0 dX6_mast_10 rfl rfl (fun h_8 => ?_) (fun h_8 => absurd h_8 (by omega))
    refine v_aload_n F 0 (q := 33) dX6_mast_32 rfl rfl rfl ?_
    refine v_const F (q := 34) dX6_mast_33 rfl ?_
    refine v_callVi0 F (kX6_no hst (k := k) (g := g) (S := S) (Y := (u2 Y 0 0 0)) hI (a0 := 1)) gX6_mast_X6_no rfl hdX6_no ⟨by decide, by decide⟩ 0 mw_at0 rfl rfl rfl (Nat.le_of_ble_eq_true rfl) ⟨(Nat.zero_le _), (Nat.zero_le _)⟩ (q := 37) dX6_mast_34 rfl ?_
    rintro a_9 _ ⟨rfl, rfl⟩
    exact ret _ _ _ _ _ _ (Nat.zero_le _) (Nat.zero_le _) dX6_mast_37 (⟨(u2 (u2 Y 0 0 0) 0 0 1), by show (1 : Int) = _; unfold eMast; grind, Or.inr ⟨by unfold eMast; grind, rfl⟩⟩)
theorem hdX6_threadTold : yX6_threadTold.cls = RX6 ∧ yX6_threadTold.cls ≠ "java/lang/invoke/MethodHandle" ∧ yX6_threadTold.cls ≠ "java/lang/invoke/VarHandle" ∧ (parseMethodDescriptor yX6_threadTold.desc).map (fun d => d.parameters.length) = some 2 := by decide +kernel
set_option maxRecDepth 100000 in
set_option maxHeartbeats 4000000 in
theorem kX6_threadTold {l : Launch} (hst : l.stackTraces = false) {k : Nat → ClassId} {g : Nat → Nat} {S Y : Nat → Nat → Int} (hI : Inv S) {t : Nat} (ht : (t : Int) < S 0 8) {a1 : Int} (g1 : 0 ≤ a1 ∧ a1 ≤ 4) : v_Ci l k yX6_threadTold wsX6_threadTold ({ frames := 2, cells := 1, slots := 5, locals := 45 } : Room) [.ref (g 0), VI ((t : Nat) : Int), VI a1] (mw k g S Y) (fun a u => u = mw k g S Y ∧ a = thrV S t a1) := by
  refine v_ofI (cc := cX6_threadTold) (nL := 5) (by decide +kernel) rfl hst (Nat.le_of_ble_eq_true rfl) (fun _ _ _ => rfl) (fun XX F ret => ?_)
  have hin6 : ∀ w ∈ wsX60, w ∈ wsX6_threadTold := by decide +kernel
  have b7 := hI.mc
  have b8 := hI.cc
  show V XX (mw k g S Y) 0 0 0 [(0, .ref (g 0)), (1, VI ((t : Nat) : Int)), (2, VI a1)] []
  refine v_const F (q := 1) dX6_threadTold_0 rfl ?_
  refine v_istore_n F (q := 2) [(3, VI 0), (0, .ref (g 0)), (1, VI ((t : Nat) : Int)), (2, VI a1)] dX6_threadTold_1 rfl (by decide) rfl rfl ?_
  refine v_const F (q := 3) dX6_threadTold_2 rfl ?_
  refine v_istore F (q := 5) [(4, VI 0), (3, VI 0), (0, .ref (g 0)), (1, VI ((t : Nat) : Int)), (2, VI a1)] dX6_threadTold_3 (by decide) rfl rfl ?_
  have L5_1 : ∀ (fu : Nat) (many : Int) (i : Nat), ((i : Int) ≤ S 0 8 ∧ many = cnt (crossB S t) i) → (S 0 8 - i).toNat < fu → V XX (mw k g S Y) 0 0 5 [(4, VI ((i : Nat) : Int)), (3, VI many), (0, .ref (g 0)), (1, VI ((t : Nat) : Int)), (2, VI a1)] [] := by
    intro fu_5
    induction fu_5 with
    | zero => intros; omega
    | succ fu_5 ih_5 =>
      intro many i hv hm_5
      obtain ⟨hv1, hv2⟩ := hv
      have hn := cnt_nn (crossB S t) i
      refine v_iload F 0 (q := 7) dX6_threadTold_5 rfl rfl ?_
      refine v_aload_n F 2 (q := 8) dX6_threadTold_7 rfl rfl rfl ?_
      refine v_get F (C := RX6) (T := TX6) (N := 25) (ci := 6) (v := VI (S 0 8)) 0 18 hin6 rfl mw_at0 (by decide) (by decide +kernel) rfl (q := 11) dX6_threadTold_8 rfl ?_
      have b_2 := And.intro (hI.sc 8 (by decide)) (hI.1 0 8 (by omega)).2
      refine v_icmp_ge F (tgt := 38) (q := 14) (by omega) (by omega) dX6_threadTold_11 rfl rfl (fun h_3 => ?_) (fun h_3 => ?_)
      · have hc9 : many = cnt (crossB S t) (tcn S) := (by rw [hv2, show i = tcn S from (by unfold tcn; omega)])
        refine v_const F (q := 39) dX6_threadTold_38 rfl ?_
        refine v_newi F (N := 5) (q := 41) (by decide) (by decide +kernel) (by decide) (by decide) dX6_threadTold_39 rfl (fun t_4 => ?_)
        refine v_dup F (q := 42) dX6_threadTold_41 rfl rfl ?_
        refine v_const F (q := 43) dX6_threadTold_42 rfl ?_
        refine v_aload_n F 2 (q := 44) dX6_threadTold_43 rfl rfl rfl ?_
        refine v_get F (C := RX6) (T := TX6) (N := 25) (ci := 6) (v := .ref (g 5)) 0 19 hin6 rfl (v_tl mw_at0) (by decide) (by decide +kernel) rfl (q := 47) dX6_threadTold_44 rfl ?_
        refine v_iload_n F 3 (q := 48) dX6_threadTold_47 rfl rfl rfl ?_
        refine v_iald F (j := t) 5 (v_tl mw_at5) rfl (by omega) (by decide) (q := 49) dX6_threadTold_48 rfl ?_
        have b_5 := hI.th t
        refine v_iast F (j := 0) 11 (mw k g S Y ++ [(t_4, aI k 5 (fun i => if i = 0 then S 5 t else (fun _ => 0) i))]) (mw_tail_at _) rfl (by omega) (by decide) (mw_tail _ _ _) (q := 50) dX6_threadTold_49 rfl ?_
        refine v_dup F (q := 51) dX6_threadTold_50 rfl rfl ?_
        refine v_const F (q := 52) dX6_threadTold_51 rfl ?_
        refine v_aload_n F 2 (q := 53) dX6_threadTold_52 rfl rfl rfl ?_
        refine v_get F (C := RX6) (T := TX6) (N := 25) (ci := 6) (v := .ref (g 6)) 0 20 hin6 rfl (v_tl mw_at0) (by decide) (by decide +kernel) rfl (q := 56) dX6_threadTold_53 rfl ?_
        refine v_iload_n F 3 (q := 57) dX6_threadTold_56 rfl rfl rfl ?_
        refine v_iald F (j := t) 6 (v_tl mw_at6) rfl (by omega) (by decide) (q := 58) dX6_threadTold_57 rfl ?_
        have b_6 := hI.1 6 t (by omega)
        refine v_iast F (j := 1) 11 (mw k g S Y ++ [(t_4, aI k 5 (fun i => if i = 1 then S 6 t else (fun i => if i = 0 then S 5 t else (fun _ => 0) i) i))]) (mw_tail_at _) rfl (by omega) (by decide) (mw_tail _ _ _) (q := 59) dX6_threadTold_58 rfl ?_
        refine v_dup F (q := 60) dX6_threadTold_59 rfl rfl ?_
        refine v_const F (q := 61) dX6_threadTold_60 rfl ?_
        refine v_aload_n F 2 (q := 62) dX6_threadTold_61 rfl rfl rfl ?_
        refine v_get F (C := RX6) (T := TX6) (N := 25) (ci := 6) (v := .ref (g 7)) 0 21 hin6 rfl (v_tl mw_at0) (by decide) (by decide +kernel) rfl (q := 65) dX6_threadTold_62 rfl ?_
        refine v_iload_n F 3 (q := 66) dX6_threadTold_65 rfl rfl rfl ?_
        refine v_iald F (j := t) 7 (v_tl mw_at7) rfl (by omega) (by decide) (q := 67) dX6_threadTold_66 rfl ?_
        have b_7 := And.intro (hI.pos 7 t (by omega) (by omega)) (hI.1 7 t (by omega)).2
        refine v_iast F (j := 2) 11 (mw k g S Y ++ [(t_4, aI k 5 (fun i => if i = 2 then S 7 t else (fun i => if i = 1 then S 6 t else (fun i => if i = 0 then S 5 t else (fun _ => 0) i) i) i))]) (mw_tail_at _) rfl (by omega) (by decide) (mw_tail _ _ _) (q := 68) dX6_threadTold_67 rfl ?_
        refine v_dup F (q := 69) dX6_threadTold_68 rfl rfl ?_
        refine v_const F (q := 70) dX6_threadTold_69 rfl ?_
        refine v_aload_n F 2 (q := 71) dX6_threadTold_70 rfl rfl rfl ?_
        refine v_get F (C := RX6) (T := TX6) (N := 25) (ci := 6) (v := .ref (g 8)) 0 22 hin6 rfl (v_tl mw_at0) (by decide) (by decide +kernel) rfl (q := 74) dX6_threadTold_71 rfl ?_
        refine v_iload_n F 3 (q := 75) dX6_threadTold_74 rfl rfl rfl ?_
        refine v_iald F (j := t) 8 (v_tl mw_at8) rfl (by omega) (by decide) (q := 76) dX6_threadTold_75 rfl ?_
        have b_8 := hI.st t
        refine v_iast F (j := 3) 11 (mw k g S Y ++ [(t_4, aI k 5 (fun i => if i = 3 then S 8 t else (fun i => if i = 2 then S 7 t else (fun i => if i = 1 then S 6 t else (fun i => if i = 0 then S 5 t else (fun _ => 0) i) i) i) i))]) (mw_tail_at _) rfl (by omega) (by decide) (mw_tail _ _ _) (q := 77) dX6_threadTold_76 rfl ?_
        refine v_dup F (q := 78) dX6_threadTold_77 rfl rfl ?_
        refine v_const F (q := 79) dX6_threadTold_78 rfl ?_
        refine v_iload_n F 1 (q := 80) dX6_threadTold_79 rfl rfl rfl ?_
        refine v_iast F (j := 4) 11 (mw k g S Y ++ [(t_4, aI k 5 (fun i => if i = 4 then many else (fun i => if i = 3 then S 8 t else (fun i => if i = 2 then S 7 t else (fun i => if i = 1 then S 6 t else (fun i => if i = 0 then S 5 t else (fun _ => 0) i) i) i) i) i))]) (mw_tail_at _) rfl (by omega) (by decide) (mw_tail _ _ _) (q := 81) dX6_threadTold_80 rfl ?_
        refine v_astore F (q := 83) [(4, .ref (t_4)), (3, VI many), (0, .ref (g 0)), (1, VI ((t : Nat) : Int)), (2, VI a1)] dX6_threadTold_81 (by decide) rfl rfl ?_
        refine v_aload F 0 (q := 85) dX6_threadTold_83 rfl rfl ?_
        refine v_iload_n F 4 (q := 86) dX6_threadTold_85 rfl rfl rfl ?_
        refine v_iald F (j := a1.toNat) 11 (mw_tail_at _) (by omega) (by omega) (by decide) (q := 87) dX6_threadTold_86 rfl ?_
        refine v_drop ?_
        exact ret _ _ _ _ _ _ (by first | decide | omega | (dsimp only; omega)) (by first | decide | omega | (dsimp only; omega)) dX6_threadTold_87 (⟨rfl, by have hw8 : a1 = 0 ∨ a1 = 1 ∨ a1 = 2 ∨ a1 = 3 ∨ a1 = 4 := (by omega); rcases hw8 with rfl | rfl | rfl | rfl | rfl <;> simp [thrV, hc9, *]⟩)
      · refine v_iload_n F 1 (q := 15) dX6_threadTold_14 rfl rfl rfl ?_
        refine v_aload_n F 2 (q := 16) dX6_threadTold_15 rfl rfl rfl ?_
        refine v_iload_n F 3 (q := 17) dX6_threadTold_16 rfl rfl rfl ?_
        refine v_iload F 0 (q := 19) dX6_threadTold_17 rfl rfl ?_
        refine v_callVi0 F (kX6_crosses hst (k := k) (g := g) (S := S) (Y := Y) hI (a := t) (b := i) (by omega) (by omega)) gX6_threadTold_X6_crosses rfl hdX6_crosses ⟨by decide, by decide⟩ 0 mw_at0 rfl rfl rfl (Nat.le_of_ble_eq_true rfl) ⟨(Nat.zero_le _), (Nat.zero_le _)⟩ (q := 22) dX6_threadTold_19 rfl ?_
        rintro _ _ ⟨rfl, ⟨rfl, h_9⟩ | ⟨rfl, h_9⟩⟩
        · refine v_if_eq F (tgt := 29) (q := 25) (by omega) dX6_threadTold_22 rfl rfl (fun h_10 => absurd h_10 (by omega)) (fun h_10 => ?_)
          refine v_const F (q := 26) dX6_threadTold_25 rfl ?_
          refine v_goto F (tgt := 30) dX6_threadTold_26 rfl ?_
          refine v_iadd F (q := 31) dX6_threadTold_30 rfl ?_
          refine v_istore_n F (q := 32) [(3, VI (many + 1)), (4, VI ((i : Nat) : Int)), (0, .ref (g 0)), (1, VI ((t : Nat) : Int)), (2, VI a1)] dX6_threadTold_31 rfl (by decide) rfl rfl ?_
          refine v_iinc F (q := 35) (z := ((i + 1 : Nat) : Int)) 1 [(4, VI ((i + 1 : Nat) : Int)), (3, VI (many + 1)), (0, .ref (g 0)), (1, VI ((t : Nat) : Int)), (2, VI a1)] dX6_threadTold_32 rfl (by decide) (by omega) rfl rfl ?_
          refine v_goto F (tgt := 5) dX6_threadTold_35 rfl ?_
          exact ih_5 (many + 1) (i + 1) (by refine ⟨by omega, ?_⟩; rw [cnt_s, ← hv2]; simp [*]) (by omega)
        · refine v_if_eq F (tgt := 29) (q := 25) R32_0 dX6_threadTold_22 rfl rfl (fun h_11 => ?_) (fun h_11 => absurd h_11 (by omega))
          refine v_const F (q := 30) dX6_threadTold_29 rfl ?_
          refine v_iadd F (q := 31) dX6_threadTold_30 rfl ?_
          refine v_istore_n F (q := 32) [(3, VI (many + 0)), (4, VI ((i : Nat) : Int)), (0, .ref (g 0)), (1, VI ((t : Nat) : Int)), (2, VI a1)] dX6_threadTold_31 rfl (by decide) rfl rfl ?_
          refine v_iinc F (q := 35) (z := ((i + 1 : Nat) : Int)) 1 [(4, VI ((i + 1 : Nat) : Int)), (3, VI (many + 0)), (0, .ref (g 0)), (1, VI ((t : Nat) : Int)), (2, VI a1)] dX6_threadTold_32 rfl (by decide) (by omega) rfl rfl ?_
          refine v_goto F (tgt := 5) dX6_threadTold_35 rfl ?_
          exact ih_5 (many + 0) (i + 1) (by refine ⟨by omega, ?_⟩; rw [cnt_s, ← hv2]; simp [*]) (by omega)
  exact L5_1 _ 0 0 (by exact ⟨by omega, rfl⟩) (Nat.lt_succ_self _)
theorem hdX6_thread : yX6_thread.cls = RX6 ∧ yX6_thread.cls ≠ "java/lang/invoke/MethodHandle" ∧ yX6_thread.cls ≠ "java/lang/invoke/VarHandle" ∧ (parseMethodDescriptor yX6_thread.desc).map (fun d => d.parameters.length) = some 2 := by decide +kernel
set_option maxRecDepth 100000 in
set_option maxHeartbeats 4000000 in
theorem kX6_thread {l : Launch} (hst : l.stackTraces = false) {k : Nat → ClassId} {g : Nat → Nat} {S Y : Nat → Nat → Int} (hI : Inv S) {a0 a1 : Int} (g0 : R32 a0) (g1 : R32 a1) : v_Ci l k yX6_thread wsX6_thread ({ frames := 3, cells := 1, slots := 5, locals := 69 } : Room) [.ref (g 0), VI a0, VI a1] (mw k g S Y) (fun a u => ∃ Y9 : Nat → Nat → Int, Y9 0 0 = eThr S a0 a1 ∧ ((eThr S a0 a1 = 0 ∧ a = thrV S a0.toNat a1 ∧ u = mw k g S Y9) ∨ (¬ eThr S a0 a1 = 0 ∧ u = mw k g S Y9))) := by
  refine v_ofI (cc := cX6_thread) (nL := 3) (by decide +kernel) rfl hst (Nat.le_of_ble_eq_true rfl) (fun _ _ _ => rfl) (fun XX F ret => ?_)
  have hin6 : ∀ w ∈ wsX60, w ∈ wsX6_thread := by decide +kernel
  have b7 := hI.mc
  have b8 := hI.cc
  show V XX (mw k g S Y) 0 0 0 [(0, .ref (g 0)), (1, VI a0), (2, VI a1)] []
  refine v_aload_n F 0 (q := 1) dX6_thread_0 rfl rfl rfl ?_
  refine v_const F (q := 2) dX6_thread_1 rfl ?_
  refine v_put F (C := RX6) (T := TX6) (N := 25) (ci := 6) (ty := .int) 0 0 (mw k g S (u2 Y 0 0 0)) hin6 tyX6 tyX6_ok nmX6 rfl mw_at0 (by decide) (by decide +kernel) rfl (by decide +kernel) rfl rfl (Nat.le_of_ble_eq_true rfl) (mw_thrown _) (q := 5) dX6_thread_2 rfl ?_
  refine v_aload_n F 0 (q := 6) dX6_thread_5 rfl rfl rfl ?_
  refine v_iload_n F 1 (q := 7) dX6_thread_6 rfl rfl rfl ?_
  refine v_callVi0 F (kX6_isThread hst (k := k) (g := g) (S := S) (Y := (u2 Y 0 0 0)) hI (a0 := a0) (by omega)) gX6_thread_X6_isThread rfl hdX6_isThread ⟨by decide, by decide⟩ 0 mw_at0 rfl rfl rfl (Nat.le_of_ble_eq_true rfl) ⟨(Nat.zero_le _), (Nat.zero_le _)⟩ (q := 10) dX6_thread_7 rfl ?_
  rintro _ _ ⟨rfl, ⟨rfl, h_1⟩ | ⟨rfl, h_1⟩⟩
  · refine v_if_eq F (tgt := 31) (q := 13) (by omega) dX6_thread_10 rfl rfl (fun h_2 => absurd h_2 (by omega)) (fun h_2 => ?_)
    refine v_iload_n F 2 (q := 14) dX6_thread_13 rfl rfl rfl ?_
    refine v_const F (q := 15) dX6_thread_14 rfl ?_
    refine v_const F (q := 16) dX6_thread_15 rfl ?_
    refine v_callSi0 F (kX6_isBetween hst (k := k) (w := mw k g S (u2 Y 0 0 0)) (a0 := a1) (a1 := 0) (a2 := 4) (by omega) (by omega) (by omega)) gX6_thread_X6_isBetween rfl hdX6_isBetween ⟨by decide, by decide⟩ rfl rfl (Nat.le_of_ble_eq_true rfl) ⟨(Nat.zero_le _), (Nat.zero_le _)⟩ (q := 19) dX6_thread_16 rfl ?_
    rintro _ _ ⟨rfl, ⟨rfl, h_3⟩ | ⟨rfl, h_3⟩⟩
    · refine v_if_eq F (tgt := 31) (q := 22) (by omega) dX6_thread_19 rfl rfl (fun h_4 => absurd h_4 (by omega)) (fun h_4 => ?_)
      refine v_aload_n F 0 (q := 23) dX6_thread_22 rfl rfl rfl ?_
      refine v_iload_n F 1 (q := 24) dX6_thread_23 rfl rfl rfl ?_
      refine v_iload_n F 2 (q := 25) dX6_thread_24 rfl rfl rfl ?_
      refine v_steq (st9 := [VI a1, VI ((a0.toNat : Nat) : Int), .ref (g 0)]) (by rw [show ((a0.toNat : Nat) : Int) = a0 from (by omega)]) ?_
      refine v_callVi0 F (kX6_threadTold hst (k := k) (g := g) (S := S) (Y := (u2 Y 0 0 0)) hI (t := a0.toNat) (by omega) (a1 := a1) (by omega)) gX6_thread_X6_threadTold rfl hdX6_threadTold ⟨by decide, by decide⟩ 0 mw_at0 rfl rfl rfl (Nat.le_of_ble_eq_true rfl) ⟨(by first | decide | omega | (dsimp only; omega)), (by first | decide | omega | (dsimp only; omega))⟩ (q := 28) dX6_thread_25 rfl ?_
      rintro a_5 _ ⟨rfl, h_5⟩
      refine v_goto F (tgt := 36) dX6_thread_28 rfl ?_
      exact ret _ _ _ _ _ _ (by first | decide | omega | (dsimp only; omega)) (by first | decide | omega | (dsimp only; omega)) dX6_thread_36 (⟨(u2 Y 0 0 0), by show (0 : Int) = _; unfold eThr; grind, Or.inl ⟨by unfold eThr; grind, by assumption, rfl⟩⟩)
    · refine v_if_eq F (tgt := 31) (q := 22) R32_0 dX6_thread_19 rfl rfl (fun h_6 => ?_) (fun h_6 => absurd h_6 (by omega))
      refine v_aload_n F 0 (q := 32) dX6_thread_31 rfl rfl rfl ?_
      refine v_const F (q := 33) dX6_thread_32 rfl ?_
      refine v_callVi0 F (kX6_no hst (k := k) (g := g) (S := S) (Y := (u2 Y 0 0 0)) hI (a0 := 1)) gX6_thread_X6_no rfl hdX6_no ⟨by decide, by decide⟩ 0 mw_at0 rfl rfl rfl (Nat.le_of_ble_eq_true rfl) ⟨(Nat.zero_le _), (Nat.zero_le _)⟩ (q := 36) dX6_thread_33 rfl ?_
      rintro a_7 _ ⟨rfl, rfl⟩
      exact ret _ _ _ _ _ _ (Nat.zero_le _) (Nat.zero_le _) dX6_thread_36 (⟨(u2 (u2 Y 0 0 0) 0 0 1), by show (1 : Int) = _; unfold eThr; grind, Or.inr ⟨by unfold eThr; grind, rfl⟩⟩)
  · refine v_if_eq F (tgt := 31) (q := 13) R32_0 dX6_thread_10 rfl rfl (fun h_8 => ?_) (fun h_8 => absurd h_8 (by omega))
    refine v_aload_n F 0 (q := 32) dX6_thread_31 rfl rfl rfl ?_
    refine v_const F (q := 33) dX6_thread_32 rfl ?_
    refine v_callVi0 F (kX6_no hst (k := k) (g := g) (S := S) (Y := (u2 Y 0 0 0)) hI (a0 := 1)) gX6_thread_X6_no rfl hdX6_no ⟨by decide, by decide⟩ 0 mw_at0 rfl rfl rfl (Nat.le_of_ble_eq_true rfl) ⟨(Nat.zero_le _), (Nat.zero_le _)⟩ (q := 36) dX6_thread_33 rfl ?_
    rintro a_9 _ ⟨rfl, rfl⟩
    exact ret _ _ _ _ _ _ (Nat.zero_le _) (Nat.zero_le _) dX6_thread_36 (⟨(u2 (u2 Y 0 0 0) 0 0 1), by show (1 : Int) = _; unfold eThr; grind, Or.inr ⟨by unfold eThr; grind, rfl⟩⟩)
theorem hdX6_shipTold : yX6_shipTold.cls = RX6 ∧ yX6_shipTold.cls ≠ "java/lang/invoke/MethodHandle" ∧ yX6_shipTold.cls ≠ "java/lang/invoke/VarHandle" ∧ (parseMethodDescriptor yX6_shipTold.desc).map (fun d => d.parameters.length) = some 1 := by decide +kernel
set_option maxRecDepth 100000 in
set_option maxHeartbeats 4000000 in
theorem kX6_shipTold {l : Launch} (hst : l.stackTraces = false) {k : Nat → ClassId} {g : Nat → Nat} {S Y : Nat → Nat → Int} (hI : Inv S) {a0 : Int} (g0 : 0 ≤ a0 ∧ a0 ≤ 5) : v_Ci l k yX6_shipTold wsX6_shipTold ({ frames := 5, cells := 1, slots := 6, locals := 107 } : Room) [.ref (g 0), VI a0] (mw k g S Y) (fun a u => u = mw k g S Y ∧ a = shipV S a0) := by
  refine v_ofI (cc := cX6_shipTold) (nL := 3) (by decide +kernel) rfl hst (Nat.le_of_ble_eq_true rfl) (fun _ _ _ => rfl) (fun XX F ret => ?_)
  have hin6 : ∀ w ∈ wsX60, w ∈ wsX6_shipTold := by decide +kernel
  have b7 := hI.mc
  have b8 := hI.cc
  show V XX (mw k g S Y) 0 0 0 [(0, .ref (g 0)), (1, VI a0)] []
  refine v_bipush F (q := 2) dX6_shipTold_0 rfl rfl ?_
  refine v_newi F (N := 6) (q := 4) (by decide) (by decide +kernel) (by decide) (by decide) dX6_shipTold_2 rfl (fun t_1 => ?_)
  refine v_dup F (q := 5) dX6_shipTold_4 rfl rfl ?_
  refine v_const F (q := 6) dX6_shipTold_5 rfl ?_
  refine v_aload_n F 0 (q := 7) dX6_shipTold_6 rfl rfl rfl ?_
  refine v_aload_n F 0 (q := 8) dX6_shipTold_7 rfl rfl rfl ?_
  refine v_get F (C := RX6) (T := TX6) (N := 25) (ci := 6) (v := VI (codeF (S 4))) 0 13 hin6 rfl (v_tl mw_at0) (by decide) (by decide +kernel) rfl (q := 11) dX6_shipTold_8 rfl ?_
  refine v_callVi F (kX6_breadth hst (k := k) (g := g) (S := S) (Y := Y) hI (f := (S 4)) hI.lean3) rfl gX6_shipTold_X6_breadth rfl hdX6_breadth ⟨by decide, by decide⟩ 0 mw_at0 rfl rfl rfl (Nat.le_of_ble_eq_true rfl) ⟨(by first | decide | omega | (dsimp only; omega)), (by first | decide | omega | (dsimp only; omega))⟩ (q := 14) dX6_shipTold_11 rfl ?_
  rintro a_2 _ ⟨rfl, ⟨h_2, hc_2⟩⟩
  refine v_iast F (j := 0) 11 (mw k g S Y ++ [(t_1, aI k 6 (fun i => if i = 0 then a_2 else (fun _ => 0) i))]) (mw_tail_at _) rfl (by omega) (by decide) (mw_tail _ _ _) (q := 15) dX6_shipTold_14 rfl ?_
  refine v_dup F (q := 16) dX6_shipTold_15 rfl rfl ?_
  refine v_const F (q := 17) dX6_shipTold_16 rfl ?_
  refine v_aload_n F 0 (q := 18) dX6_shipTold_17 rfl rfl rfl ?_
  refine v_aload_n F 0 (q := 19) dX6_shipTold_18 rfl rfl rfl ?_
  refine v_get F (C := RX6) (T := TX6) (N := 25) (ci := 6) (v := VI (codeF (S 4))) 0 13 hin6 rfl (v_tl mw_at0) (by decide) (by decide +kernel) rfl (q := 22) dX6_shipTold_19 rfl ?_
  refine v_callVi F (kX6_top hst (k := k) (g := g) (S := S) (Y := Y) hI (f := (S 4)) hI.lean3) rfl gX6_shipTold_X6_top rfl hdX6_top ⟨by decide, by decide⟩ 0 mw_at0 rfl rfl rfl (Nat.le_of_ble_eq_true rfl) ⟨(by first | decide | omega | (dsimp only; omega)), (by first | decide | omega | (dsimp only; omega))⟩ (q := 25) dX6_shipTold_22 rfl ?_
  rintro a_3 _ ⟨rfl, ⟨h_3, hc_3⟩⟩
  refine v_iast F (j := 1) 11 (mw k g S Y ++ [(t_1, aI k 6 (fun i => if i = 1 then a_3 else (fun i => if i = 0 then a_2 else (fun _ => 0) i) i))]) (mw_tail_at _) rfl (by omega) (by decide) (mw_tail _ _ _) (q := 26) dX6_shipTold_25 rfl ?_
  refine v_dup F (q := 27) dX6_shipTold_26 rfl rfl ?_
  refine v_const F (q := 28) dX6_shipTold_27 rfl ?_
  refine v_aload_n F 0 (q := 29) dX6_shipTold_28 rfl rfl rfl ?_
  refine v_aload_n F 0 (q := 30) dX6_shipTold_29 rfl rfl rfl ?_
  refine v_get F (C := RX6) (T := TX6) (N := 25) (ci := 6) (v := VI (codeF (S 4))) 0 13 hin6 rfl (v_tl mw_at0) (by decide) (by decide +kernel) rfl (q := 33) dX6_shipTold_30 rfl ?_
  refine v_callVi F (kX6_end hst (k := k) (g := g) (S := S) (Y := Y) hI (f := (S 4)) hI.lean3) rfl gX6_shipTold_X6_end rfl hdX6_end ⟨by decide, by decide⟩ 0 mw_at0 rfl rfl rfl (Nat.le_of_ble_eq_true rfl) ⟨(by first | decide | omega | (dsimp only; omega)), (by first | decide | omega | (dsimp only; omega))⟩ (q := 36) dX6_shipTold_33 rfl ?_
  rintro a_4 _ ⟨rfl, ⟨h_4, hc_4⟩⟩
  refine v_iast F (j := 2) 11 (mw k g S Y ++ [(t_1, aI k 6 (fun i => if i = 2 then a_4 else (fun i => if i = 1 then a_3 else (fun i => if i = 0 then a_2 else (fun _ => 0) i) i) i))]) (mw_tail_at _) rfl (by omega) (by decide) (mw_tail _ _ _) (q := 37) dX6_shipTold_36 rfl ?_
  refine v_dup F (q := 38) dX6_shipTold_37 rfl rfl ?_
  refine v_const F (q := 39) dX6_shipTold_38 rfl ?_
  refine v_aload_n F 0 (q := 40) dX6_shipTold_39 rfl rfl rfl ?_
  refine v_callVi F (kX6_goesThrough hst (k := k) (g := g) (S := S) (Y := Y) hI) rfl gX6_shipTold_X6_goesThrough rfl hdX6_goesThrough ⟨by decide, by decide⟩ 0 mw_at0 rfl rfl rfl (Nat.le_of_ble_eq_true rfl) ⟨(by first | decide | omega | (dsimp only; omega)), (by first | decide | omega | (dsimp only; omega))⟩ (q := 43) dX6_shipTold_40 rfl ?_
  rintro _ _ ⟨rfl, ⟨rfl, h_5⟩ | ⟨rfl, h_5⟩⟩
  · refine v_if_eq F (tgt := 50) (q := 46) (by omega) dX6_shipTold_43 rfl rfl (fun h_6 => absurd h_6 (by omega)) (fun h_6 => ?_)
    refine v_const F (q := 47) dX6_shipTold_46 rfl ?_
    refine v_goto F (tgt := 51) dX6_shipTold_47 rfl ?_
    refine v_iast F (j := 3) 11 (mw k g S Y ++ [(t_1, aI k 6 (fun i => if i = 3 then 1 else (fun i => if i = 2 then a_4 else (fun i => if i = 1 then a_3 else (fun i => if i = 0 then a_2 else (fun _ => 0) i) i) i) i))]) (mw_tail_at _) rfl (by omega) (by decide) (mw_tail _ _ _) (q := 52) dX6_shipTold_51 rfl ?_
    refine v_dup F (q := 53) dX6_shipTold_52 rfl rfl ?_
    refine v_const F (q := 54) dX6_shipTold_53 rfl ?_
    refine v_aload_n F 0 (q := 55) dX6_shipTold_54 rfl rfl rfl ?_
    refine v_aload_n F 0 (q := 56) dX6_shipTold_55 rfl rfl rfl ?_
    refine v_get F (C := RX6) (T := TX6) (N := 25) (ci := 6) (v := VI (codeF (S 4))) 0 13 hin6 rfl (v_tl mw_at0) (by decide) (by decide +kernel) rfl (q := 59) dX6_shipTold_56 rfl ?_
    refine v_callVi F (kX6_fits hst (k := k) (g := g) (S := S) (Y := Y) hI (f := (S 4)) hI.lean3) rfl gX6_shipTold_X6_fits rfl hdX6_fits ⟨by decide, by decide⟩ 0 mw_at0 rfl rfl rfl (Nat.le_of_ble_eq_true rfl) ⟨(by first | decide | omega | (dsimp only; omega)), (by first | decide | omega | (dsimp only; omega))⟩ (q := 62) dX6_shipTold_59 rfl ?_
    rintro _ _ ⟨rfl, ⟨rfl, h_7⟩ | ⟨rfl, h_7⟩⟩
    · refine v_if_eq F (tgt := 69) (q := 65) (by omega) dX6_shipTold_62 rfl rfl (fun h_8 => absurd h_8 (by omega)) (fun h_8 => ?_)
      refine v_const F (q := 66) dX6_shipTold_65 rfl ?_
      refine v_goto F (tgt := 70) dX6_shipTold_66 rfl ?_
      refine v_iast F (j := 4) 11 (mw k g S Y ++ [(t_1, aI k 6 (fun i => if i = 4 then 1 else (fun i => if i = 3 then 1 else (fun i => if i = 2 then a_4 else (fun i => if i = 1 then a_3 else (fun i => if i = 0 then a_2 else (fun _ => 0) i) i) i) i) i))]) (mw_tail_at _) rfl (by omega) (by decide) (mw_tail _ _ _) (q := 71) dX6_shipTold_70 rfl ?_
      refine v_dup F (q := 72) dX6_shipTold_71 rfl rfl ?_
      refine v_const F (q := 73) dX6_shipTold_72 rfl ?_
      refine v_aload_n F 0 (q := 74) dX6_shipTold_73 rfl rfl rfl ?_
      refine v_get F (C := RX6) (T := TX6) (N := 25) (ci := 6) (v := VI (S 0 9)) 0 8 hin6 rfl (v_tl mw_at0) (by decide) (by decide +kernel) rfl (q := 77) dX6_shipTold_74 rfl ?_
      have b_9 := hI.isin
      refine v_if_eq F (tgt := 84) (q := 80) (by omega) dX6_shipTold_77 rfl rfl (fun h_10 => ?_) (fun h_10 => ?_)
      · refine v_const F (q := 85) dX6_shipTold_84 rfl ?_
        refine v_iast F (j := 5) 11 (mw k g S Y ++ [(t_1, aI k 6 (fun i => if i = 5 then 0 else (fun i => if i = 4 then 1 else (fun i => if i = 3 then 1 else (fun i => if i = 2 then a_4 else (fun i => if i = 1 then a_3 else (fun i => if i = 0 then a_2 else (fun _ => 0) i) i) i) i) i) i))]) (mw_tail_at _) rfl (by omega) (by decide) (mw_tail _ _ _) (q := 86) dX6_shipTold_85 rfl ?_
        refine v_astore_n F (q := 87) [(2, .ref (t_1)), (0, .ref (g 0)), (1, VI a0)] dX6_shipTold_86 rfl (by decide) rfl rfl ?_
        refine v_aload_n F 0 (q := 88) dX6_shipTold_87 rfl rfl rfl ?_
        refine v_iload_n F 2 (q := 89) dX6_shipTold_88 rfl rfl rfl ?_
        refine v_iald F (j := a0.toNat) 11 (mw_tail_at _) (by omega) (by omega) (by decide) (q := 90) dX6_shipTold_89 rfl ?_
        refine v_drop ?_
        exact ret _ _ _ _ _ _ (by first | decide | omega | (dsimp only; omega)) (by first | decide | omega | (dsimp only; omega)) dX6_shipTold_90 (⟨rfl, by have hw8 : a0 = 0 ∨ a0 = 1 ∨ a0 = 2 ∨ a0 = 3 ∨ a0 = 4 ∨ a0 = 5 := (by omega); rcases hw8 with rfl | rfl | rfl | rfl | rfl | rfl <;> simp [shipV, breN, bI, *] <;> omega⟩)
      · refine v_const F (q := 81) dX6_shipTold_80 rfl ?_
        refine v_goto F (tgt := 85) dX6_shipTold_81 rfl ?_
        refine v_iast F (j := 5) 11 (mw k g S Y ++ [(t_1, aI k 6 (fun i => if i = 5 then 1 else (fun i => if i = 4 then 1 else (fun i => if i = 3 then 1 else (fun i => if i = 2 then a_4 else (fun i => if i = 1 then a_3 else (fun i => if i = 0 then a_2 else (fun _ => 0) i) i) i) i) i) i))]) (mw_tail_at _) rfl (by omega) (by decide) (mw_tail _ _ _) (q := 86) dX6_shipTold_85 rfl ?_
        refine v_astore_n F (q := 87) [(2, .ref (t_1)), (0, .ref (g 0)), (1, VI a0)] dX6_shipTold_86 rfl (by decide) rfl rfl ?_
        refine v_aload_n F 0 (q := 88) dX6_shipTold_87 rfl rfl rfl ?_
        refine v_iload_n F 2 (q := 89) dX6_shipTold_88 rfl rfl rfl ?_
        refine v_iald F (j := a0.toNat) 11 (mw_tail_at _) (by omega) (by omega) (by decide) (q := 90) dX6_shipTold_89 rfl ?_
        refine v_drop ?_
        exact ret _ _ _ _ _ _ (by first | decide | omega | (dsimp only; omega)) (by first | decide | omega | (dsimp only; omega)) dX6_shipTold_90 (⟨rfl, by have hw8 : a0 = 0 ∨ a0 = 1 ∨ a0 = 2 ∨ a0 = 3 ∨ a0 = 4 ∨ a0 = 5 := (by omega); rcases hw8 with rfl | rfl | rfl | rfl | rfl | rfl <;> simp [shipV, breN, bI, *] <;> omega⟩)
    · refine v_if_eq F (tgt := 69) (q := 65) R32_0 dX6_shipTold_62 rfl rfl (fun h_11 => ?_) (fun h_11 => absurd h_11 (by omega))
      refine v_const F (q := 70) dX6_shipTold_69 rfl ?_
      refine v_iast F (j := 4) 11 (mw k g S Y ++ [(t_1, aI k 6 (fun i => if i = 4 then 0 else (fun i => if i = 3 then 1 else (fun i => if i = 2 then a_4 else (fun i => if i = 1 then a_3 else (fun i => if i = 0 then a_2 else (fun _ => 0) i) i) i) i) i))]) (mw_tail_at _) rfl (by omega) (by decide) (mw_tail _ _ _) (q := 71) dX6_shipTold_70 rfl ?_
      refine v_dup F (q := 72) dX6_shipTold_71 rfl rfl ?_
      refine v_const F (q := 73) dX6_shipTold_72 rfl ?_
      refine v_aload_n F 0 (q := 74) dX6_shipTold_73 rfl rfl rfl ?_
      refine v_get F (C := RX6) (T := TX6) (N := 25) (ci := 6) (v := VI (S 0 9)) 0 8 hin6 rfl (v_tl mw_at0) (by decide) (by decide +kernel) rfl (q := 77) dX6_shipTold_74 rfl ?_
      have b_12 := hI.isin
      refine v_if_eq F (tgt := 84) (q := 80) (by omega) dX6_shipTold_77 rfl rfl (fun h_13 => ?_) (fun h_13 => ?_)
      · refine v_const F (q := 85) dX6_shipTold_84 rfl ?_
        refine v_iast F (j := 5) 11 (mw k g S Y ++ [(t_1, aI k 6 (fun i => if i = 5 then 0 else (fun i => if i = 4 then 0 else (fun i => if i = 3 then 1 else (fun i => if i = 2 then a_4 else (fun i => if i = 1 then a_3 else (fun i => if i = 0 then a_2 else (fun _ => 0) i) i) i) i) i) i))]) (mw_tail_at _) rfl (by omega) (by decide) (mw_tail _ _ _) (q := 86) dX6_shipTold_85 rfl ?_
        refine v_astore_n F (q := 87) [(2, .ref (t_1)), (0, .ref (g 0)), (1, VI a0)] dX6_shipTold_86 rfl (by decide) rfl rfl ?_
        refine v_aload_n F 0 (q := 88) dX6_shipTold_87 rfl rfl rfl ?_
        refine v_iload_n F 2 (q := 89) dX6_shipTold_88 rfl rfl rfl ?_
        refine v_iald F (j := a0.toNat) 11 (mw_tail_at _) (by omega) (by omega) (by decide) (q := 90) dX6_shipTold_89 rfl ?_
        refine v_drop ?_
        exact ret _ _ _ _ _ _ (by first | decide | omega | (dsimp only; omega)) (by first | decide | omega | (dsimp only; omega)) dX6_shipTold_90 (⟨rfl, by have hw8 : a0 = 0 ∨ a0 = 1 ∨ a0 = 2 ∨ a0 = 3 ∨ a0 = 4 ∨ a0 = 5 := (by omega); rcases hw8 with rfl | rfl | rfl | rfl | rfl | rfl <;> simp [shipV, breN, bI, *] <;> omega⟩)
      · refine v_const F (q := 81) dX6_shipTold_80 rfl ?_
        refine v_goto F (tgt := 85) dX6_shipTold_81 rfl ?_
        refine v_iast F (j := 5) 11 (mw k g S Y ++ [(t_1, aI k 6 (fun i => if i = 5 then 1 else (fun i => if i = 4 then 0 else (fun i => if i = 3 then 1 else (fun i => if i = 2 then a_4 else (fun i => if i = 1 then a_3 else (fun i => if i = 0 then a_2 else (fun _ => 0) i) i) i) i) i) i))]) (mw_tail_at _) rfl (by omega) (by decide) (mw_tail _ _ _) (q := 86) dX6_shipTold_85 rfl ?_
        refine v_astore_n F (q := 87) [(2, .ref (t_1)), (0, .ref (g 0)), (1, VI a0)] dX6_shipTold_86 rfl (by decide) rfl rfl ?_
        refine v_aload_n F 0 (q := 88) dX6_shipTold_87 rfl rfl rfl ?_
        refine v_iload_n F 2 (q := 89) dX6_shipTold_88 rfl rfl rfl ?_
        refine v_iald F (j := a0.toNat) 11 (mw_tail_at _) (by omega) (by omega) (by decide) (q := 90) dX6_shipTold_89 rfl ?_
        refine v_drop ?_
        exact ret _ _ _ _ _ _ (by first | decide | omega | (dsimp only; omega)) (by first | decide | omega | (dsimp only; omega)) dX6_shipTold_90 (⟨rfl, by have hw8 : a0 = 0 ∨ a0 = 1 ∨ a0 = 2 ∨ a0 = 3 ∨ a0 = 4 ∨ a0 = 5 := (by omega); rcases hw8 with rfl | rfl | rfl | rfl | rfl | rfl <;> simp [shipV, breN, bI, *] <;> omega⟩)
  · refine v_if_eq F (tgt := 50) (q := 46) R32_0 dX6_shipTold_43 rfl rfl (fun h_14 => ?_) (fun h_14 => absurd h_14 (by omega))
    refine v_const F (q := 51) dX6_shipTold_50 rfl ?_
    refine v_iast F (j := 3) 11 (mw k g S Y ++ [(t_1, aI k 6 (fun i => if i = 3 then 0 else (fun i => if i = 2 then a_4 else (fun i => if i = 1 then a_3 else (fun i => if i = 0 then a_2 else (fun _ => 0) i) i) i) i))]) (mw_tail_at _) rfl (by omega) (by decide) (mw_tail _ _ _) (q := 52) dX6_shipTold_51 rfl ?_
    refine v_dup F (q := 53) dX6_shipTold_52 rfl rfl ?_
    refine v_const F (q := 54) dX6_shipTold_53 rfl ?_
    refine v_aload_n F 0 (q := 55) dX6_shipTold_54 rfl rfl rfl ?_
    refine v_aload_n F 0 (q := 56) dX6_shipTold_55 rfl rfl rfl ?_
    refine v_get F (C := RX6) (T := TX6) (N := 25) (ci := 6) (v := VI (codeF (S 4))) 0 13 hin6 rfl (v_tl mw_at0) (by decide) (by decide +kernel) rfl (q := 59) dX6_shipTold_56 rfl ?_
    refine v_callVi F (kX6_fits hst (k := k) (g := g) (S := S) (Y := Y) hI (f := (S 4)) hI.lean3) rfl gX6_shipTold_X6_fits rfl hdX6_fits ⟨by decide, by decide⟩ 0 mw_at0 rfl rfl rfl (Nat.le_of_ble_eq_true rfl) ⟨(by first | decide | omega | (dsimp only; omega)), (by first | decide | omega | (dsimp only; omega))⟩ (q := 62) dX6_shipTold_59 rfl ?_
    rintro _ _ ⟨rfl, ⟨rfl, h_15⟩ | ⟨rfl, h_15⟩⟩
    · refine v_if_eq F (tgt := 69) (q := 65) (by omega) dX6_shipTold_62 rfl rfl (fun h_16 => absurd h_16 (by omega)) (fun h_16 => ?_)
      refine v_const F (q := 66) dX6_shipTold_65 rfl ?_
      refine v_goto F (tgt := 70) dX6_shipTold_66 rfl ?_
      refine v_iast F (j := 4) 11 (mw k g S Y ++ [(t_1, aI k 6 (fun i => if i = 4 then 1 else (fun i => if i = 3 then 0 else (fun i => if i = 2 then a_4 else (fun i => if i = 1 then a_3 else (fun i => if i = 0 then a_2 else (fun _ => 0) i) i) i) i) i))]) (mw_tail_at _) rfl (by omega) (by decide) (mw_tail _ _ _) (q := 71) dX6_shipTold_70 rfl ?_
      refine v_dup F (q := 72) dX6_shipTold_71 rfl rfl ?_
      refine v_const F (q := 73) dX6_shipTold_72 rfl ?_
      refine v_aload_n F 0 (q := 74) dX6_shipTold_73 rfl rfl rfl ?_
      refine v_get F (C := RX6) (T := TX6) (N := 25) (ci := 6) (v := VI (S 0 9)) 0 8 hin6 rfl (v_tl mw_at0) (by decide) (by decide +kernel) rfl (q := 77) dX6_shipTold_74 rfl ?_
      have b_17 := hI.isin
      refine v_if_eq F (tgt := 84) (q := 80) (by omega) dX6_shipTold_77 rfl rfl (fun h_18 => ?_) (fun h_18 => ?_)
      · refine v_const F (q := 85) dX6_shipTold_84 rfl ?_
        refine v_iast F (j := 5) 11 (mw k g S Y ++ [(t_1, aI k 6 (fun i => if i = 5 then 0 else (fun i => if i = 4 then 1 else (fun i => if i = 3 then 0 else (fun i => if i = 2 then a_4 else (fun i => if i = 1 then a_3 else (fun i => if i = 0 then a_2 else (fun _ => 0) i) i) i) i) i) i))]) (mw_tail_at _) rfl (by omega) (by decide) (mw_tail _ _ _) (q := 86) dX6_shipTold_85 rfl ?_
        refine v_astore_n F (q := 87) [(2, .ref (t_1)), (0, .ref (g 0)), (1, VI a0)] dX6_shipTold_86 rfl (by decide) rfl rfl ?_
        refine v_aload_n F 0 (q := 88) dX6_shipTold_87 rfl rfl rfl ?_
        refine v_iload_n F 2 (q := 89) dX6_shipTold_88 rfl rfl rfl ?_
        refine v_iald F (j := a0.toNat) 11 (mw_tail_at _) (by omega) (by omega) (by decide) (q := 90) dX6_shipTold_89 rfl ?_
        refine v_drop ?_
        exact ret _ _ _ _ _ _ (by first | decide | omega | (dsimp only; omega)) (by first | decide | omega | (dsimp only; omega)) dX6_shipTold_90 (⟨rfl, by have hw8 : a0 = 0 ∨ a0 = 1 ∨ a0 = 2 ∨ a0 = 3 ∨ a0 = 4 ∨ a0 = 5 := (by omega); rcases hw8 with rfl | rfl | rfl | rfl | rfl | rfl <;> simp [shipV, breN, bI, *] <;> omega⟩)
      · refine v_const F (q := 81) dX6_shipTold_80 rfl ?_
        refine v_goto F (tgt := 85) dX6_shipTold_81 rfl ?_
        refine v_iast F (j := 5) 11 (mw k g S Y ++ [(t_1, aI k 6 (fun i => if i = 5 then 1 else (fun i => if i = 4 then 1 else (fun i => if i = 3 then 0 else (fun i => if i = 2 then a_4 else (fun i => if i = 1 then a_3 else (fun i => if i = 0 then a_2 else (fun _ => 0) i) i) i) i) i) i))]) (mw_tail_at _) rfl (by omega) (by decide) (mw_tail _ _ _) (q := 86) dX6_shipTold_85 rfl ?_
        refine v_astore_n F (q := 87) [(2, .ref (t_1)), (0, .ref (g 0)), (1, VI a0)] dX6_shipTold_86 rfl (by decide) rfl rfl ?_
        refine v_aload_n F 0 (q := 88) dX6_shipTold_87 rfl rfl rfl ?_
        refine v_iload_n F 2 (q := 89) dX6_shipTold_88 rfl rfl rfl ?_
        refine v_iald F (j := a0.toNat) 11 (mw_tail_at _) (by omega) (by omega) (by decide) (q := 90) dX6_shipTold_89 rfl ?_
        refine v_drop ?_
        exact ret _ _ _ _ _ _ (by first | decide | omega | (dsimp only; omega)) (by first | decide | omega | (dsimp only; omega)) dX6_shipTold_90 (⟨rfl, by have hw8 : a0 = 0 ∨ a0 = 1 ∨ a0 = 2 ∨ a0 = 3 ∨ a0 = 4 ∨ a0 = 5 := (by omega); rcases hw8 with rfl | rfl | rfl | rfl | rfl | rfl <;> simp [shipV, breN, bI, *] <;> omega⟩)
    · refine v_if_eq F (tgt := 69) (q := 65) R32_0 dX6_shipTold_62 rfl rfl (fun h_19 => ?_) (fun h_19 => absurd h_19 (by omega))
      refine v_const F (q := 70) dX6_shipTold_69 rfl ?_
      refine v_iast F (j := 4) 11 (mw k g S Y ++ [(t_1, aI k 6 (fun i => if i = 4 then 0 else (fun i => if i = 3 then 0 else (fun i => if i = 2 then a_4 else (fun i => if i = 1 then a_3 else (fun i => if i = 0 then a_2 else (fun _ => 0) i) i) i) i) i))]) (mw_tail_at _) rfl (by omega) (by decide) (mw_tail _ _ _) (q := 71) dX6_shipTold_70 rfl ?_
      refine v_dup F (q := 72) dX6_shipTold_71 rfl rfl ?_
      refine v_const F (q := 73) dX6_shipTold_72 rfl ?_
      refine v_aload_n F 0 (q := 74) dX6_shipTold_73 rfl rfl rfl ?_
      refine v_get F (C := RX6) (T := TX6) (N := 25) (ci := 6) (v := VI (S 0 9)) 0 8 hin6 rfl (v_tl mw_at0) (by decide) (by decide +kernel) rfl (q := 77) dX6_shipTold_74 rfl ?_
      have b_20 := hI.isin
      refine v_if_eq F (tgt := 84) (q := 80) (by omega) dX6_shipTold_77 rfl rfl (fun h_21 => ?_) (fun h_21 => ?_)
      · refine v_const F (q := 85) dX6_shipTold_84 rfl ?_
        refine v_iast F (j := 5) 11 (mw k g S Y ++ [(t_1, aI k 6 (fun i => if i = 5 then 0 else (fun i => if i = 4 then 0 else (fun i => if i = 3 then 0 else (fun i => if i = 2 then a_4 else (fun i => if i = 1 then a_3 else (fun i => if i = 0 then a_2 else (fun _ => 0) i) i) i) i) i) i))]) (mw_tail_at _) rfl (by omega) (by decide) (mw_tail _ _ _) (q := 86) dX6_shipTold_85 rfl ?_
        refine v_astore_n F (q := 87) [(2, .ref (t_1)), (0, .ref (g 0)), (1, VI a0)] dX6_shipTold_86 rfl (by decide) rfl rfl ?_
        refine v_aload_n F 0 (q := 88) dX6_shipTold_87 rfl rfl rfl ?_
        refine v_iload_n F 2 (q := 89) dX6_shipTold_88 rfl rfl rfl ?_
        refine v_iald F (j := a0.toNat) 11 (mw_tail_at _) (by omega) (by omega) (by decide) (q := 90) dX6_shipTold_89 rfl ?_
        refine v_drop ?_
        exact ret _ _ _ _ _ _ (by first | decide | omega | (dsimp only; omega)) (by first | decide | omega | (dsimp only; omega)) dX6_shipTold_90 (⟨rfl, by have hw8 : a0 = 0 ∨ a0 = 1 ∨ a0 = 2 ∨ a0 = 3 ∨ a0 = 4 ∨ a0 = 5 := (by omega); rcases hw8 with rfl | rfl | rfl | rfl | rfl | rfl <;> simp [shipV, breN, bI, *] <;> omega⟩)
      · refine v_const F (q := 81) dX6_shipTold_80 rfl ?_
        refine v_goto F (tgt := 85) dX6_shipTold_81 rfl ?_
        refine v_iast F (j := 5) 11 (mw k g S Y ++ [(t_1, aI k 6 (fun i => if i = 5 then 1 else (fun i => if i = 4 then 0 else (fun i => if i = 3 then 0 else (fun i => if i = 2 then a_4 else (fun i => if i = 1 then a_3 else (fun i => if i = 0 then a_2 else (fun _ => 0) i) i) i) i) i) i))]) (mw_tail_at _) rfl (by omega) (by decide) (mw_tail _ _ _) (q := 86) dX6_shipTold_85 rfl ?_
        refine v_astore_n F (q := 87) [(2, .ref (t_1)), (0, .ref (g 0)), (1, VI a0)] dX6_shipTold_86 rfl (by decide) rfl rfl ?_
        refine v_aload_n F 0 (q := 88) dX6_shipTold_87 rfl rfl rfl ?_
        refine v_iload_n F 2 (q := 89) dX6_shipTold_88 rfl rfl rfl ?_
        refine v_iald F (j := a0.toNat) 11 (mw_tail_at _) (by omega) (by omega) (by decide) (q := 90) dX6_shipTold_89 rfl ?_
        refine v_drop ?_
        exact ret _ _ _ _ _ _ (by first | decide | omega | (dsimp only; omega)) (by first | decide | omega | (dsimp only; omega)) dX6_shipTold_90 (⟨rfl, by have hw8 : a0 = 0 ∨ a0 = 1 ∨ a0 = 2 ∨ a0 = 3 ∨ a0 = 4 ∨ a0 = 5 := (by omega); rcases hw8 with rfl | rfl | rfl | rfl | rfl | rfl <;> simp [shipV, breN, bI, *] <;> omega⟩)
theorem hdX6_ship : yX6_ship.cls = RX6 ∧ yX6_ship.cls ≠ "java/lang/invoke/MethodHandle" ∧ yX6_ship.cls ≠ "java/lang/invoke/VarHandle" ∧ (parseMethodDescriptor yX6_ship.desc).map (fun d => d.parameters.length) = some 1 := by decide +kernel
set_option maxRecDepth 100000 in
set_option maxHeartbeats 4000000 in
theorem kX6_ship {l : Launch} (hst : l.stackTraces = false) {k : Nat → ClassId} {g : Nat → Nat} {S Y : Nat → Nat → Int} (hI : Inv S) {a0 : Int} (g0 : R32 a0) : v_Ci l k yX6_ship wsX6_ship ({ frames := 6, cells := 1, slots := 6, locals := 129 } : Room) [.ref (g 0), VI a0] (mw k g S Y) (fun a u => ∃ Y9 : Nat → Nat → Int, Y9 0 0 = eShip a0 ∧ ((eShip a0 = 0 ∧ a = shipV S a0 ∧ u = mw k g S Y9) ∨ (¬ eShip a0 = 0 ∧ u = mw k g S Y9))) := by
  refine v_ofI (cc := cX6_ship) (nL := 2) (by decide +kernel) rfl hst (Nat.le_of_ble_eq_true rfl) (fun _ _ _ => rfl) (fun XX F ret => ?_)
  have hin6 : ∀ w ∈ wsX60, w ∈ wsX6_ship := by decide +kernel
  have b7 := hI.mc
  have b8 := hI.cc
  show V XX (mw k g S Y) 0 0 0 [(0, .ref (g 0)), (1, VI a0)] []
  refine v_aload_n F 0 (q := 1) dX6_ship_0 rfl rfl rfl ?_
  refine v_const F (q := 2) dX6_ship_1 rfl ?_
  refine v_put F (C := RX6) (T := TX6) (N := 25) (ci := 6) (ty := .int) 0 0 (mw k g S (u2 Y 0 0 0)) hin6 tyX6 tyX6_ok nmX6 rfl mw_at0 (by decide) (by decide +kernel) rfl (by decide +kernel) rfl rfl (Nat.le_of_ble_eq_true rfl) (mw_thrown _) (q := 5) dX6_ship_2 rfl ?_
  refine v_iload_n F 1 (q := 6) dX6_ship_5 rfl rfl rfl ?_
  refine v_const F (q := 7) dX6_ship_6 rfl ?_
  refine v_const F (q := 8) dX6_ship_7 rfl ?_
  refine v_callSi0 F (kX6_isBetween hst (k := k) (w := mw k g S (u2 Y 0 0 0)) (a0 := a0) (a1 := 0) (a2 := 5) (by omega) (by omega) (by omega)) gX6_ship_X6_isBetween rfl hdX6_isBetween ⟨by decide, by decide⟩ rfl rfl (Nat.le_of_ble_eq_true rfl) ⟨(Nat.zero_le _), (Nat.zero_le _)⟩ (q := 11) dX6_ship_8 rfl ?_
  rintro _ _ ⟨rfl, ⟨rfl, h_1⟩ | ⟨rfl, h_1⟩⟩
  · refine v_if_eq F (tgt := 22) (q := 14) (by omega) dX6_ship_11 rfl rfl (fun h_2 => absurd h_2 (by omega)) (fun h_2 => ?_)
    refine v_aload_n F 0 (q := 15) dX6_ship_14 rfl rfl rfl ?_
    refine v_iload_n F 1 (q := 16) dX6_ship_15 rfl rfl rfl ?_
    refine v_callVi0 F (kX6_shipTold hst (k := k) (g := g) (S := S) (Y := (u2 Y 0 0 0)) hI (a0 := a0) (by omega)) gX6_ship_X6_shipTold rfl hdX6_shipTold ⟨by decide, by decide⟩ 0 mw_at0 rfl rfl rfl (Nat.le_of_ble_eq_true rfl) ⟨(by first | decide | omega | (dsimp only; omega)), (by first | decide | omega | (dsimp only; omega))⟩ (q := 19) dX6_ship_16 rfl ?_
    rintro a_3 _ ⟨rfl, h_3⟩
    refine v_goto F (tgt := 27) dX6_ship_19 rfl ?_
    exact ret _ _ _ _ _ _ (by first | decide | omega | (dsimp only; omega)) (by first | decide | omega | (dsimp only; omega)) dX6_ship_27 (⟨(u2 Y 0 0 0), by show (0 : Int) = _; unfold eShip; grind, Or.inl ⟨by unfold eShip; grind, by assumption, rfl⟩⟩)
  · refine v_if_eq F (tgt := 22) (q := 14) R32_0 dX6_ship_11 rfl rfl (fun h_4 => ?_) (fun h_4 => absurd h_4 (by omega))
    refine v_aload_n F 0 (q := 23) dX6_ship_22 rfl rfl rfl ?_
    refine v_const F (q := 24) dX6_ship_23 rfl ?_
    refine v_callVi0 F (kX6_no hst (k := k) (g := g) (S := S) (Y := (u2 Y 0 0 0)) hI (a0 := 1)) gX6_ship_X6_no rfl hdX6_no ⟨by decide, by decide⟩ 0 mw_at0 rfl rfl rfl (Nat.le_of_ble_eq_true rfl) ⟨(Nat.zero_le _), (Nat.zero_le _)⟩ (q := 27) dX6_ship_24 rfl ?_
    rintro a_5 _ ⟨rfl, rfl⟩
    exact ret _ _ _ _ _ _ (Nat.zero_le _) (Nat.zero_le _) dX6_ship_27 (⟨(u2 (u2 Y 0 0 0) 0 0 1), by show (1 : Int) = _; unfold eShip; grind, Or.inr ⟨by unfold eShip; grind, rfl⟩⟩)
theorem hdX6_counted : yX6_counted.cls = RX6 ∧ yX6_counted.cls ≠ "java/lang/invoke/MethodHandle" ∧ yX6_counted.cls ≠ "java/lang/invoke/VarHandle" ∧ (parseMethodDescriptor yX6_counted.desc).map (fun d => d.parameters.length) = some 1 := by decide +kernel
set_option maxRecDepth 100000 in
set_option maxHeartbeats 4000000 in
theorem kX6_counted {l : Launch} (hst : l.stackTraces = false) {k : Nat → ClassId} {g : Nat → Nat} {S Y : Nat → Nat → Int} (hI : Inv S) {a0 : Int} (g0 : 0 ≤ a0 ∧ a0 ≤ 7) : v_Ci l k yX6_counted wsX6_counted ({ frames := 2, cells := 1, slots := 8, locals := 41 } : Room) [.ref (g 0), VI a0] (mw k g S Y) (fun a u => u = mw k g S Y ∧ a = cntV S a0) := by
  refine v_ofI (cc := cX6_counted) (nL := 6) (by decide +kernel) rfl hst (Nat.le_of_ble_eq_true rfl) (fun _ _ _ => rfl) (fun XX F ret => ?_)
  have hin6 : ∀ w ∈ wsX60, w ∈ wsX6_counted := by decide +kernel
  have b7 := hI.mc
  have b8 := hI.cc
  show V XX (mw k g S Y) 0 0 0 [(0, .ref (g 0)), (1, VI a0)] []
  refine v_const F (q := 1) dX6_counted_0 rfl ?_
  refine v_istore_n F (q := 2) [(2, VI 0), (0, .ref (g 0)), (1, VI a0)] dX6_counted_1 rfl (by decide) rfl rfl ?_
  refine v_const F (q := 3) dX6_counted_2 rfl ?_
  refine v_istore_n F (q := 4) [(3, VI 0), (2, VI 0), (0, .ref (g 0)), (1, VI a0)] dX6_counted_3 rfl (by decide) rfl rfl ?_
  refine v_const F (q := 5) dX6_counted_4 rfl ?_
  refine v_istore F (q := 7) [(4, VI 0), (3, VI 0), (2, VI 0), (0, .ref (g 0)), (1, VI a0)] dX6_counted_5 (by decide) rfl rfl ?_
  refine v_const F (q := 8) dX6_counted_7 rfl ?_
  refine v_istore F (q := 10) [(5, VI 0), (4, VI 0), (3, VI 0), (2, VI 0), (0, .ref (g 0)), (1, VI a0)] dX6_counted_8 (by decide) rfl rfl ?_
  have L10_1 : ∀ (fu : Nat) (up : Int) (m : Nat), ((m : Int) ≤ S 0 7 ∧ up = cnt (fun m => decide (S 4 m = 0)) m) → (S 0 7 - m).toNat < fu → V XX (mw k g S Y) 0 0 10 [(5, VI ((m : Nat) : Int)), (4, VI 0), (3, VI 0), (2, VI up), (0, .ref (g 0)), (1, VI a0)] [] := by
    intro fu_10
    induction fu_10 with
    | zero => intros; omega
    | succ fu_10 ih_10 =>
      intro up m hv hm_10
      obtain ⟨hv1, hv2⟩ := hv
      have hn := cnt_nn (fun m => decide (S 4 m = 0)) m
      refine v_iload F 0 (q := 12) dX6_counted_10 rfl rfl ?_
      refine v_aload_n F 4 (q := 13) dX6_counted_12 rfl rfl rfl ?_
      refine v_get F (C := RX6) (T := TX6) (N := 25) (ci := 6) (v := VI (S 0 7)) 0 12 hin6 rfl mw_at0 (by decide) (by decide +kernel) rfl (q := 16) dX6_counted_13 rfl ?_
      have b_2 := And.intro (hI.sc 7 (by decide)) (hI.1 0 7 (by omega)).2
      refine v_icmp_ge F (tgt := 45) (q := 19) (by omega) (by omega) dX6_counted_16 rfl rfl (fun h_3 => ?_) (fun h_3 => ?_)
      · have hc7 : up = cnt (fun m => decide (S 4 m = 0)) (mcn S) := (by rw [hv2, show m = mcn S from (by unfold mcn; omega)])
        refine v_const F (q := 46) dX6_counted_45 rfl ?_
        refine v_istore F (q := 48) [(5, VI 0), (4, VI 0), (3, VI 0), (2, VI up), (0, .ref (g 0)), (1, VI a0)] dX6_counted_46 (by decide) rfl rfl ?_
        have L48_4 : ∀ (fu : Nat) (lo : Int) (br : Int) (t : Nat), ((t : Int) ≤ S 0 8 ∧ lo = cnt (fun t => decide (S 8 t = 0)) t ∧ br = cnt (fun t => decide (S 8 t = 2)) t) → (S 0 8 - t).toNat < fu → V XX (mw k g S Y) 0 0 48 [(5, VI ((t : Nat) : Int)), (4, VI br), (3, VI lo), (2, VI up), (0, .ref (g 0)), (1, VI a0)] [] := by
          intro fu_48
          induction fu_48 with
          | zero => intros; omega
          | succ fu_48 ih_48 =>
            intro lo br t hw hm_48
            obtain ⟨hw1, hw2, hw3⟩ := hw
            have hn2 := cnt_nn (fun t => decide (S 8 t = 0)) t
            have hn3 := cnt_nn (fun t => decide (S 8 t = 2)) t
            refine v_iload F 0 (q := 50) dX6_counted_48 rfl rfl ?_
            refine v_aload_n F 4 (q := 51) dX6_counted_50 rfl rfl rfl ?_
            refine v_get F (C := RX6) (T := TX6) (N := 25) (ci := 6) (v := VI (S 0 8)) 0 18 hin6 rfl mw_at0 (by decide) (by decide +kernel) rfl (q := 54) dX6_counted_51 rfl ?_
            have b_5 := And.intro (hI.sc 8 (by decide)) (hI.1 0 8 (by omega)).2
            refine v_icmp_ge F (tgt := 102) (q := 57) (by omega) (by omega) dX6_counted_54 rfl rfl (fun h_6 => ?_) (fun h_6 => ?_)
            · have hc8 : lo = cnt (fun t => decide (S 8 t = 0)) (tcn S) := (by rw [hw2, show t = tcn S from (by unfold tcn; omega)])
              have hc9 : br = cnt (fun t => decide (S 8 t = 2)) (tcn S) := (by rw [hw3, show t = tcn S from (by unfold tcn; omega)])
              refine v_bipush F (q := 104) dX6_counted_102 rfl rfl ?_
              refine v_newi F (N := 8) (q := 106) (by decide) (by decide +kernel) (by decide) (by decide) dX6_counted_104 rfl (fun t_7 => ?_)
              refine v_dup F (q := 107) dX6_counted_106 rfl rfl ?_
              refine v_const F (q := 108) dX6_counted_107 rfl ?_
              refine v_aload_n F 4 (q := 109) dX6_counted_108 rfl rfl rfl ?_
              refine v_get F (C := RX6) (T := TX6) (N := 25) (ci := 6) (v := VI (S 0 10)) 0 9 hin6 rfl (v_tl mw_at0) (by decide) (by decide +kernel) rfl (q := 112) dX6_counted_109 rfl ?_
              refine v_iast F (j := 0) 11 (mw k g S Y ++ [(t_7, aI k 8 (fun i => if i = 0 then S 0 10 else (fun _ => 0) i))]) (mw_tail_at _) rfl (by omega) (by decide) (mw_tail _ _ _) (q := 113) dX6_counted_112 rfl ?_
              refine v_dup F (q := 114) dX6_counted_113 rfl rfl ?_
              refine v_const F (q := 115) dX6_counted_114 rfl ?_
              refine v_aload_n F 4 (q := 116) dX6_counted_115 rfl rfl rfl ?_
              refine v_get F (C := RX6) (T := TX6) (N := 25) (ci := 6) (v := VI (S 0 7)) 0 12 hin6 rfl (v_tl mw_at0) (by decide) (by decide +kernel) rfl (q := 119) dX6_counted_116 rfl ?_
              have b_8 := And.intro (hI.sc 7 (by decide)) (hI.1 0 7 (by omega)).2
              refine v_iast F (j := 1) 11 (mw k g S Y ++ [(t_7, aI k 8 (fun i => if i = 1 then S 0 7 else (fun i => if i = 0 then S 0 10 else (fun _ => 0) i) i))]) (mw_tail_at _) rfl (by omega) (by decide) (mw_tail _ _ _) (q := 120) dX6_counted_119 rfl ?_
              refine v_dup F (q := 121) dX6_counted_120 rfl rfl ?_
              refine v_const F (q := 122) dX6_counted_121 rfl ?_
              refine v_iload_n F 3 (q := 123) dX6_counted_122 rfl rfl rfl ?_
              refine v_iast F (j := 2) 11 (mw k g S Y ++ [(t_7, aI k 8 (fun i => if i = 2 then up else (fun i => if i = 1 then S 0 7 else (fun i => if i = 0 then S 0 10 else (fun _ => 0) i) i) i))]) (mw_tail_at _) rfl (by omega) (by decide) (mw_tail _ _ _) (q := 124) dX6_counted_123 rfl ?_
              refine v_dup F (q := 125) dX6_counted_124 rfl rfl ?_
              refine v_const F (q := 126) dX6_counted_125 rfl ?_
              refine v_aload_n F 4 (q := 127) dX6_counted_126 rfl rfl rfl ?_
              refine v_get F (C := RX6) (T := TX6) (N := 25) (ci := 6) (v := VI (S 0 8)) 0 18 hin6 rfl (v_tl mw_at0) (by decide) (by decide +kernel) rfl (q := 130) dX6_counted_127 rfl ?_
              have b_9 := And.intro (hI.sc 8 (by decide)) (hI.1 0 8 (by omega)).2
              refine v_iast F (j := 3) 11 (mw k g S Y ++ [(t_7, aI k 8 (fun i => if i = 3 then S 0 8 else (fun i => if i = 2 then up else (fun i => if i = 1 then S 0 7 else (fun i => if i = 0 then S 0 10 else (fun _ => 0) i) i) i) i))]) (mw_tail_at _) rfl (by omega) (by decide) (mw_tail _ _ _) (q := 131) dX6_counted_130 rfl ?_
              refine v_dup F (q := 132) dX6_counted_131 rfl rfl ?_
              refine v_const F (q := 133) dX6_counted_132 rfl ?_
              refine v_iload_n F 2 (q := 134) dX6_counted_133 rfl rfl rfl ?_
              refine v_iast F (j := 4) 11 (mw k g S Y ++ [(t_7, aI k 8 (fun i => if i = 4 then lo else (fun i => if i = 3 then S 0 8 else (fun i => if i = 2 then up else (fun i => if i = 1 then S 0 7 else (fun i => if i = 0 then S 0 10 else (fun _ => 0) i) i) i) i) i))]) (mw_tail_at _) rfl (by omega) (by decide) (mw_tail _ _ _) (q := 135) dX6_counted_134 rfl ?_
              refine v_dup F (q := 136) dX6_counted_135 rfl rfl ?_
              refine v_const F (q := 137) dX6_counted_136 rfl ?_
              refine v_iload F 1 (q := 139) dX6_counted_137 rfl rfl ?_
              refine v_iast F (j := 5) 11 (mw k g S Y ++ [(t_7, aI k 8 (fun i => if i = 5 then br else (fun i => if i = 4 then lo else (fun i => if i = 3 then S 0 8 else (fun i => if i = 2 then up else (fun i => if i = 1 then S 0 7 else (fun i => if i = 0 then S 0 10 else (fun _ => 0) i) i) i) i) i) i))]) (mw_tail_at _) rfl (by omega) (by decide) (mw_tail _ _ _) (q := 140) dX6_counted_139 rfl ?_
              refine v_dup F (q := 141) dX6_counted_140 rfl rfl ?_
              refine v_bipush F (q := 143) dX6_counted_141 rfl rfl ?_
              refine v_aload_n F 4 (q := 144) dX6_counted_143 rfl rfl rfl ?_
              refine v_get F (C := RX6) (T := TX6) (N := 25) (ci := 6) (v := VI (S 0 11)) 0 10 hin6 rfl (v_tl mw_at0) (by decide) (by decide +kernel) rfl (q := 147) dX6_counted_144 rfl ?_
              refine v_iast F (j := 6) 11 (mw k g S Y ++ [(t_7, aI k 8 (fun i => if i = 6 then S 0 11 else (fun i => if i = 5 then br else (fun i => if i = 4 then lo else (fun i => if i = 3 then S 0 8 else (fun i => if i = 2 then up else (fun i => if i = 1 then S 0 7 else (fun i => if i = 0 then S 0 10 else (fun _ => 0) i) i) i) i) i) i) i))]) (mw_tail_at _) rfl (by omega) (by decide) (mw_tail _ _ _) (q := 148) dX6_counted_147 rfl ?_
              refine v_dup F (q := 149) dX6_counted_148 rfl rfl ?_
              refine v_bipush F (q := 151) dX6_counted_149 rfl rfl ?_
              refine v_aload_n F 4 (q := 152) dX6_counted_151 rfl rfl rfl ?_
              refine v_get F (C := RX6) (T := TX6) (N := 25) (ci := 6) (v := VI (S 0 12)) 0 11 hin6 rfl (v_tl mw_at0) (by decide) (by decide +kernel) rfl (q := 155) dX6_counted_152 rfl ?_
              refine v_iast F (j := 7) 11 (mw k g S Y ++ [(t_7, aI k 8 (fun i => if i = 7 then S 0 12 else (fun i => if i = 6 then S 0 11 else (fun i => if i = 5 then br else (fun i => if i = 4 then lo else (fun i => if i = 3 then S 0 8 else (fun i => if i = 2 then up else (fun i => if i = 1 then S 0 7 else (fun i => if i = 0 then S 0 10 else (fun _ => 0) i) i) i) i) i) i) i) i))]) (mw_tail_at _) rfl (by omega) (by decide) (mw_tail _ _ _) (q := 156) dX6_counted_155 rfl ?_
              refine v_astore F (q := 158) [(5, .ref (t_7)), (4, VI br), (3, VI lo), (2, VI up), (0, .ref (g 0)), (1, VI a0)] dX6_counted_156 (by decide) rfl rfl ?_
              refine v_aload F 0 (q := 160) dX6_counted_158 rfl rfl ?_
              refine v_iload_n F 5 (q := 161) dX6_counted_160 rfl rfl rfl ?_
              refine v_iald F (j := a0.toNat) 11 (mw_tail_at _) (by omega) (by omega) (by decide) (q := 162) dX6_counted_161 rfl ?_
              refine v_drop ?_
              exact ret _ _ _ _ _ _ (by first | decide | omega | (dsimp only; omega)) (by first | decide | omega | (dsimp only; omega)) dX6_counted_162 (⟨rfl, by have hw8 : a0 = 0 ∨ a0 = 1 ∨ a0 = 2 ∨ a0 = 3 ∨ a0 = 4 ∨ a0 = 5 ∨ a0 = 6 ∨ a0 = 7 := (by omega); rcases hw8 with rfl | rfl | rfl | rfl | rfl | rfl | rfl | rfl <;> simp [cntV, hc7, hc8, hc9]⟩)
            · refine v_iload_n F 2 (q := 58) dX6_counted_57 rfl rfl rfl ?_
              refine v_aload_n F 4 (q := 59) dX6_counted_58 rfl rfl rfl ?_
              refine v_get F (C := RX6) (T := TX6) (N := 25) (ci := 6) (v := .ref (g 8)) 0 22 hin6 rfl mw_at0 (by decide) (by decide +kernel) rfl (q := 62) dX6_counted_59 rfl ?_
              refine v_iload F 0 (q := 64) dX6_counted_62 rfl rfl ?_
              refine v_iald F (j := t) 8 mw_at8 rfl (by omega) (by decide) (q := 65) dX6_counted_64 rfl ?_
              have b_10 := hI.st t
              refine v_if_ne F (tgt := 72) (q := 68) (by omega) dX6_counted_65 rfl rfl (fun h_11 => ?_) (fun h_11 => ?_)
              · refine v_const F (q := 73) dX6_counted_72 rfl ?_
                refine v_iadd F (q := 74) dX6_counted_73 rfl ?_
                refine v_istore_n F (q := 75) [(3, VI (lo + 0)), (5, VI ((t : Nat) : Int)), (4, VI br), (2, VI up), (0, .ref (g 0)), (1, VI a0)] dX6_counted_74 rfl (by decide) rfl rfl ?_
                refine v_iload F 2 (q := 77) dX6_counted_75 rfl rfl ?_
                refine v_aload_n F 4 (q := 78) dX6_counted_77 rfl rfl rfl ?_
                refine v_get F (C := RX6) (T := TX6) (N := 25) (ci := 6) (v := .ref (g 8)) 0 22 hin6 rfl mw_at0 (by decide) (by decide +kernel) rfl (q := 81) dX6_counted_78 rfl ?_
                refine v_iload F 1 (q := 83) dX6_counted_81 rfl rfl ?_
                refine v_iald F (j := t) 8 mw_at8 rfl (by omega) (by decide) (q := 84) dX6_counted_83 rfl ?_
                have b_12 := hI.st t
                refine v_const F (q := 85) dX6_counted_84 rfl ?_
                refine v_icmp_ne F (tgt := 92) (q := 88) (by omega) (by omega) dX6_counted_85 rfl rfl (fun h_13 => ?_) (fun h_13 => ?_)
                · refine v_const F (q := 93) dX6_counted_92 rfl ?_
                  refine v_iadd F (q := 94) dX6_counted_93 rfl ?_
                  refine v_istore F (q := 96) [(4, VI (br + 0)), (3, VI (lo + 0)), (5, VI ((t : Nat) : Int)), (2, VI up), (0, .ref (g 0)), (1, VI a0)] dX6_counted_94 (by decide) rfl rfl ?_
                  refine v_iinc F (q := 99) (z := ((t + 1 : Nat) : Int)) 2 [(5, VI ((t + 1 : Nat) : Int)), (4, VI (br + 0)), (3, VI (lo + 0)), (2, VI up), (0, .ref (g 0)), (1, VI a0)] dX6_counted_96 rfl (by decide) (by omega) rfl rfl ?_
                  refine v_goto F (tgt := 48) dX6_counted_99 rfl ?_
                  exact ih_48 (lo + 0) (br + 0) (t + 1) (by first | (exfalso; omega) | (refine ⟨by omega, ?_, ?_⟩ <;> rw [cnt_s] <;> (first | rw [← hw2] | rw [← hw3]) <;> simp [*])) (by omega)
                · refine v_const F (q := 89) dX6_counted_88 rfl ?_
                  refine v_goto F (tgt := 93) dX6_counted_89 rfl ?_
                  refine v_iadd F (q := 94) dX6_counted_93 rfl ?_
                  refine v_istore F (q := 96) [(4, VI (br + 1)), (3, VI (lo + 0)), (5, VI ((t : Nat) : Int)), (2, VI up), (0, .ref (g 0)), (1, VI a0)] dX6_counted_94 (by decide) rfl rfl ?_
                  refine v_iinc F (q := 99) (z := ((t + 1 : Nat) : Int)) 2 [(5, VI ((t + 1 : Nat) : Int)), (4, VI (br + 1)), (3, VI (lo + 0)), (2, VI up), (0, .ref (g 0)), (1, VI a0)] dX6_counted_96 rfl (by decide) (by omega) rfl rfl ?_
                  refine v_goto F (tgt := 48) dX6_counted_99 rfl ?_
                  exact ih_48 (lo + 0) (br + 1) (t + 1) (by first | (exfalso; omega) | (refine ⟨by omega, ?_, ?_⟩ <;> rw [cnt_s] <;> (first | rw [← hw2] | rw [← hw3]) <;> simp [*])) (by omega)
              · refine v_const F (q := 69) dX6_counted_68 rfl ?_
                refine v_goto F (tgt := 73) dX6_counted_69 rfl ?_
                refine v_iadd F (q := 74) dX6_counted_73 rfl ?_
                refine v_istore_n F (q := 75) [(3, VI (lo + 1)), (5, VI ((t : Nat) : Int)), (4, VI br), (2, VI up), (0, .ref (g 0)), (1, VI a0)] dX6_counted_74 rfl (by decide) rfl rfl ?_
                refine v_iload F 2 (q := 77) dX6_counted_75 rfl rfl ?_
                refine v_aload_n F 4 (q := 78) dX6_counted_77 rfl rfl rfl ?_
                refine v_get F (C := RX6) (T := TX6) (N := 25) (ci := 6) (v := .ref (g 8)) 0 22 hin6 rfl mw_at0 (by decide) (by decide +kernel) rfl (q := 81) dX6_counted_78 rfl ?_
                refine v_iload F 1 (q := 83) dX6_counted_81 rfl rfl ?_
                refine v_iald F (j := t) 8 mw_at8 rfl (by omega) (by decide) (q := 84) dX6_counted_83 rfl ?_
                have b_14 := hI.st t
                refine v_const F (q := 85) dX6_counted_84 rfl ?_
                refine v_icmp_ne F (tgt := 92) (q := 88) (by omega) (by omega) dX6_counted_85 rfl rfl (fun h_15 => ?_) (fun h_15 => ?_)
                · refine v_const F (q := 93) dX6_counted_92 rfl ?_
                  refine v_iadd F (q := 94) dX6_counted_93 rfl ?_
                  refine v_istore F (q := 96) [(4, VI (br + 0)), (3, VI (lo + 1)), (5, VI ((t : Nat) : Int)), (2, VI up), (0, .ref (g 0)), (1, VI a0)] dX6_counted_94 (by decide) rfl rfl ?_
                  refine v_iinc F (q := 99) (z := ((t + 1 : Nat) : Int)) 2 [(5, VI ((t + 1 : Nat) : Int)), (4, VI (br + 0)), (3, VI (lo + 1)), (2, VI up), (0, .ref (g 0)), (1, VI a0)] dX6_counted_96 rfl (by decide) (by omega) rfl rfl ?_
                  refine v_goto F (tgt := 48) dX6_counted_99 rfl ?_
                  exact ih_48 (lo + 1) (br + 0) (t + 1) (by first | (exfalso; omega) | (refine ⟨by omega, ?_, ?_⟩ <;> rw [cnt_s] <;> (first | rw [← hw2] | rw [← hw3]) <;> simp [*])) (by omega)
                · refine v_const F (q := 89) dX6_counted_88 rfl ?_
                  refine v_goto F (tgt := 93) dX6_counted_89 rfl ?_
                  refine v_iadd F (q := 94) dX6_counted_93 rfl ?_
                  refine v_istore F (q := 96) [(4, VI (br + 1)), (3, VI (lo + 1)), (5, VI ((t : Nat) : Int)), (2, VI up), (0, .ref (g 0)), (1, VI a0)] dX6_counted_94 (by decide) rfl rfl ?_
                  refine v_iinc F (q := 99) (z := ((t + 1 : Nat) : Int)) 2 [(5, VI ((t + 1 : Nat) : Int)), (4, VI (br + 1)), (3, VI (lo + 1)), (2, VI up), (0, .ref (g 0)), (1, VI a0)] dX6_counted_96 rfl (by decide) (by omega) rfl rfl ?_
                  refine v_goto F (tgt := 48) dX6_counted_99 rfl ?_
                  exact ih_48 (lo + 1) (br + 1) (t + 1) (by first | (exfalso; omega) | (refine ⟨by omega, ?_, ?_⟩ <;> rw [cnt_s] <;> (first | rw [← hw2] | rw [← hw3]) <;> simp [*])) (by omega)
        exact L48_4 _ 0 0 0 (by exact ⟨by omega, rfl, rfl⟩) (Nat.lt_succ_self _)
      · refine v_iload_n F 3 (q := 20) dX6_counted_19 rfl rfl rfl ?_
        refine v_aload_n F 4 (q := 21) dX6_counted_20 rfl rfl rfl ?_
        refine v_get F (C := RX6) (T := TX6) (N := 25) (ci := 6) (v := VI (codeF (S 4))) 0 13 hin6 rfl mw_at0 (by decide) (by decide +kernel) rfl (q := 24) dX6_counted_21 rfl ?_
        refine v_iload F 0 (q := 26) dX6_counted_24 rfl rfl ?_
        refine v_callSi0 F (kX6_lean hst (k := k) (w := mw k g S Y) (f := (S 4)) hI.lean3 (m := m) (by omega)) gX6_counted_X6_lean rfl hdX6_lean ⟨by decide, by decide⟩ rfl rfl (Nat.le_of_ble_eq_true rfl) ⟨(Nat.zero_le _), (Nat.zero_le _)⟩ (q := 29) dX6_counted_26 rfl ?_
        rintro a_16 _ ⟨rfl, ⟨h_16, hc_16⟩⟩
        refine v_if_ne F (tgt := 36) (q := 32) (by omega) dX6_counted_29 rfl rfl (fun h_17 => ?_) (fun h_17 => ?_)
        · refine v_const F (q := 37) dX6_counted_36 rfl ?_
          refine v_iadd F (q := 38) dX6_counted_37 rfl ?_
          refine v_istore_n F (q := 39) [(2, VI (up + 0)), (5, VI ((m : Nat) : Int)), (4, VI 0), (3, VI 0), (0, .ref (g 0)), (1, VI a0)] dX6_counted_38 rfl (by decide) rfl rfl ?_
          refine v_iinc F (q := 42) (z := ((m + 1 : Nat) : Int)) 1 [(5, VI ((m + 1 : Nat) : Int)), (2, VI (up + 0)), (4, VI 0), (3, VI 0), (0, .ref (g 0)), (1, VI a0)] dX6_counted_39 rfl (by decide) (by omega) rfl rfl ?_
          refine v_goto F (tgt := 10) dX6_counted_42 rfl ?_
          refine v_sub [0, 2, 3, 1, 4, 5] rfl ?_
          exact ih_10 (up + 0) (m + 1) (by refine ⟨by omega, ?_⟩; rw [cnt_s, ← hv2]; simp [*]; try omega) (by omega)
        · refine v_const F (q := 33) dX6_counted_32 rfl ?_
          refine v_goto F (tgt := 37) dX6_counted_33 rfl ?_
          refine v_iadd F (q := 38) dX6_counted_37 rfl ?_
          refine v_istore_n F (q := 39) [(2, VI (up + 1)), (5, VI ((m : Nat) : Int)), (4, VI 0), (3, VI 0), (0, .ref (g 0)), (1, VI a0)] dX6_counted_38 rfl (by decide) rfl rfl ?_
          refine v_iinc F (q := 42) (z := ((m + 1 : Nat) : Int)) 1 [(5, VI ((m + 1 : Nat) : Int)), (2, VI (up + 1)), (4, VI 0), (3, VI 0), (0, .ref (g 0)), (1, VI a0)] dX6_counted_39 rfl (by decide) (by omega) rfl rfl ?_
          refine v_goto F (tgt := 10) dX6_counted_42 rfl ?_
          refine v_sub [0, 2, 3, 1, 4, 5] rfl ?_
          exact ih_10 (up + 1) (m + 1) (by refine ⟨by omega, ?_⟩; rw [cnt_s, ← hv2]; simp [*]; try omega) (by omega)
  exact L10_1 _ 0 0 (by exact ⟨by omega, rfl⟩) (Nat.lt_succ_self _)
theorem hdX6_count : yX6_count.cls = RX6 ∧ yX6_count.cls ≠ "java/lang/invoke/MethodHandle" ∧ yX6_count.cls ≠ "java/lang/invoke/VarHandle" ∧ (parseMethodDescriptor yX6_count.desc).map (fun d => d.parameters.length) = some 1 := by decide +kernel
set_option maxRecDepth 100000 in
set_option maxHeartbeats 4000000 in
theorem kX6_count {l : Launch} (hst : l.stackTraces = false) {k : Nat → ClassId} {g : Nat → Nat} {S Y : Nat → Nat → Int} (hI : Inv S) {a0 : Int} (g0 : R32 a0) : v_Ci l k yX6_count wsX6_count ({ frames := 3, cells := 1, slots := 8, locals := 66 } : Room) [.ref (g 0), VI a0] (mw k g S Y) (fun a u => ∃ Y9 : Nat → Nat → Int, Y9 0 0 = eCnt a0 ∧ ((eCnt a0 = 0 ∧ a = cntV S a0 ∧ u = mw k g S Y9) ∨ (¬ eCnt a0 = 0 ∧ u = mw k g S Y9))) := by
  refine v_ofI (cc := cX6_count) (nL := 2) (by decide +kernel) rfl hst (Nat.le_of_ble_eq_true rfl) (fun _ _ _ => rfl) (fun XX F ret => ?_)
  have hin6 : ∀ w ∈ wsX60, w ∈ wsX6_count := by decide +kernel
  have b7 := hI.mc
  have b8 := hI.cc
  show V XX (mw k g S Y) 0 0 0 [(0, .ref (g 0)), (1, VI a0)] []
  refine v_aload_n F 0 (q := 1) dX6_count_0 rfl rfl rfl ?_
  refine v_const F (q := 2) dX6_count_1 rfl ?_
  refine v_put F (C := RX6) (T := TX6) (N := 25) (ci := 6) (ty := .int) 0 0 (mw k g S (u2 Y 0 0 0)) hin6 tyX6 tyX6_ok nmX6 rfl mw_at0 (by decide) (by decide +kernel) rfl (by decide +kernel) rfl rfl (Nat.le_of_ble_eq_true rfl) (mw_thrown _) (q := 5) dX6_count_2 rfl ?_
  refine v_iload_n F 1 (q := 6) dX6_count_5 rfl rfl rfl ?_
  refine v_const F (q := 7) dX6_count_6 rfl ?_
  refine v_bipush F (q := 9) dX6_count_7 rfl rfl ?_
  refine v_callSi0 F (kX6_isBetween hst (k := k) (w := mw k g S (u2 Y 0 0 0)) (a0 := a0) (a1 := 0) (a2 := 7) (by omega) (by omega) (by omega)) gX6_count_X6_isBetween rfl hdX6_isBetween ⟨by decide, by decide⟩ rfl rfl (Nat.le_of_ble_eq_true rfl) ⟨(Nat.zero_le _), (Nat.zero_le _)⟩ (q := 12) dX6_count_9 rfl ?_
  rintro _ _ ⟨rfl, ⟨rfl, h_1⟩ | ⟨rfl, h_1⟩⟩
  · refine v_if_eq F (tgt := 23) (q := 15) (by omega) dX6_count_12 rfl rfl (fun h_2 => absurd h_2 (by omega)) (fun h_2 => ?_)
    refine v_aload_n F 0 (q := 16) dX6_count_15 rfl rfl rfl ?_
    refine v_iload_n F 1 (q := 17) dX6_count_16 rfl rfl rfl ?_
    refine v_callVi0 F (kX6_counted hst (k := k) (g := g) (S := S) (Y := (u2 Y 0 0 0)) hI (a0 := a0) (by omega)) gX6_count_X6_counted rfl hdX6_counted ⟨by decide, by decide⟩ 0 mw_at0 rfl rfl rfl (Nat.le_of_ble_eq_true rfl) ⟨(by first | decide | omega | (dsimp only; omega)), (by first | decide | omega | (dsimp only; omega))⟩ (q := 20) dX6_count_17 rfl ?_
    rintro a_3 _ ⟨rfl, h_3⟩
    refine v_goto F (tgt := 28) dX6_count_20 rfl ?_
    exact ret _ _ _ _ _ _ (by first | decide | omega | (dsimp only; omega)) (by first | decide | omega | (dsimp only; omega)) dX6_count_28 (⟨(u2 Y 0 0 0), by show (0 : Int) = _; unfold eCnt; grind, Or.inl ⟨by unfold eCnt; grind, by assumption, rfl⟩⟩)
  · refine v_if_eq F (tgt := 23) (q := 15) R32_0 dX6_count_12 rfl rfl (fun h_4 => ?_) (fun h_4 => absurd h_4 (by omega))
    refine v_aload_n F 0 (q := 24) dX6_count_23 rfl rfl rfl ?_
    refine v_const F (q := 25) dX6_count_24 rfl ?_
    refine v_callVi0 F (kX6_no hst (k := k) (g := g) (S := S) (Y := (u2 Y 0 0 0)) hI (a0 := 1)) gX6_count_X6_no rfl hdX6_no ⟨by decide, by decide⟩ 0 mw_at0 rfl rfl rfl (Nat.le_of_ble_eq_true rfl) ⟨(Nat.zero_le _), (Nat.zero_le _)⟩ (q := 28) dX6_count_25 rfl ?_
    rintro a_5 _ ⟨rfl, rfl⟩
    exact ret _ _ _ _ _ _ (Nat.zero_le _) (Nat.zero_le _) dX6_count_28 (⟨(u2 (u2 Y 0 0 0) 0 0 1), by show (1 : Int) = _; unfold eCnt; grind, Or.inr ⟨by unfold eCnt; grind, rfl⟩⟩)
theorem hdX6_behind : yX6_behind.cls = RX6 ∧ yX6_behind.cls ≠ "java/lang/invoke/MethodHandle" ∧ yX6_behind.cls ≠ "java/lang/invoke/VarHandle" ∧ (parseMethodDescriptor yX6_behind.desc).map (fun d => d.parameters.length) = some 2 := by decide +kernel
set_option maxRecDepth 100000 in
set_option maxHeartbeats 4000000 in
theorem kX6_behind {l : Launch} (hst : l.stackTraces = false) {k : Nat → ClassId} {g : Nat → Nat} {S Y : Nat → Nat → Int} (hI : Inv S) {f : Nat → Int} (hf : D9 f) {t : Nat} (ht : (t : Int) < S 0 8) : v_Ci l k yX6_behind wsX6_behind ({ frames := 5, cells := 0, slots := 0, locals := 107 } : Room) [.ref (g 0), VI (codeF f), VI ((t : Nat) : Int)] (mw k g S Y) (fun a u => u = mw k g S Y ∧ a = behF S f t ∧ -3 ≤ a ∧ a ≤ 999) := by
  refine v_ofI (cc := cX6_behind) (nL := 6) (by decide +kernel) rfl hst (Nat.le_of_ble_eq_true rfl) (fun _ _ _ => rfl) (fun XX F ret => ?_)
  have hin6 : ∀ w ∈ wsX60, w ∈ wsX6_behind := by decide +kernel
  have b7 := hI.mc
  have b8 := hI.cc
  have b_t := hI.thr t ht
  have c_t := hI.th t
  have hmm : (((S 5 t).toNat : Nat) : Int) = S 5 t := (by omega)
  have hcb := code_bd hf
  show V XX (mw k g S Y) 0 0 0 [(0, .ref (g 0)), (1, VI (codeF f)), (2, VI ((t : Nat) : Int))] []
  refine v_aload_n F 0 (q := 1) dX6_behind_0 rfl rfl rfl ?_
  refine v_get F (C := RX6) (T := TX6) (N := 25) (ci := 6) (v := .ref (g 5)) 0 19 hin6 rfl mw_at0 (by decide) (by decide +kernel) rfl (q := 4) dX6_behind_1 rfl ?_
  refine v_iload_n F 2 (q := 5) dX6_behind_4 rfl rfl rfl ?_
  refine v_iald F (j := t) 5 mw_at5 rfl (by omega) (by decide) (q := 6) dX6_behind_5 rfl ?_
  have b_1 := hI.th t
  refine v_istore_n F (q := 7) [(3, VI (S 5 t)), (0, .ref (g 0)), (1, VI (codeF f)), (2, VI ((t : Nat) : Int))] dX6_behind_6 rfl (by decide) rfl rfl ?_
  refine v_iload_n F 2 (q := 8) dX6_behind_7 rfl rfl rfl ?_
  refine v_iload_n F 0 (q := 9) dX6_behind_8 rfl rfl rfl ?_
  refine v_steq (st9 := [VI (((S 5 t).toNat : Nat) : Int), VI (codeF f)]) (by rw [show (((S 5 t).toNat : Nat) : Int) = S 5 t from (by omega)]) ?_
  refine v_callSi0 F (kX6_lean hst (k := k) (w := mw k g S Y) (f := f) hf (m := (S 5 t).toNat) (by omega)) gX6_behind_X6_lean rfl hdX6_lean ⟨by decide, by decide⟩ rfl rfl (Nat.le_of_ble_eq_true rfl) ⟨(Nat.zero_le _), (Nat.zero_le _)⟩ (q := 12) dX6_behind_9 rfl ?_
  rintro a_2 _ ⟨rfl, ⟨h_2, hc_2⟩⟩
  refine v_if_eq F (tgt := 23) (q := 15) (by omega) dX6_behind_12 rfl rfl (fun h_3 => ?_) (fun h_3 => ?_)
  · refine v_const F (q := 24) dX6_behind_23 rfl ?_
    exact ret _ _ _ _ _ _ (Nat.zero_le _) (Nat.zero_le _) dX6_behind_24 (⟨rfl, by unfold behF; grind, by have := beh_bd (S := S) hf t; omega, by have := beh_bd (S := S) hf t; omega⟩)
  · refine v_aload_n F 1 (q := 16) dX6_behind_15 rfl rfl rfl ?_
    refine v_iload_n F 0 (q := 17) dX6_behind_16 rfl rfl rfl ?_
    refine v_callVi0 F (kX6_isHeld hst (k := k) (g := g) (S := S) (Y := Y) hI (a0 := S 5 t) (by omega)) gX6_behind_X6_isHeld rfl hdX6_isHeld ⟨by decide, by decide⟩ 0 mw_at0 rfl rfl rfl (Nat.le_of_ble_eq_true rfl) ⟨(Nat.zero_le _), (Nat.zero_le _)⟩ (q := 20) dX6_behind_17 rfl ?_
    rintro _ _ ⟨rfl, ⟨rfl, h_4⟩ | ⟨rfl, h_4⟩⟩
    · refine v_if_eq F (tgt := 25) (q := 23) (by omega) dX6_behind_20 rfl rfl (fun h_5 => absurd h_5 (by omega)) (fun h_5 => ?_)
      refine v_const F (q := 24) dX6_behind_23 rfl ?_
      exact ret _ _ _ _ _ _ (Nat.zero_le _) (Nat.zero_le _) dX6_behind_24 (⟨rfl, by unfold behF; grind, by have := beh_bd (S := S) hf t; omega, by have := beh_bd (S := S) hf t; omega⟩)
    · refine v_if_eq F (tgt := 25) (q := 23) R32_0 dX6_behind_20 rfl rfl (fun h_6 => ?_) (fun h_6 => absurd h_6 (by omega))
      refine v_const F (q := 26) dX6_behind_25 rfl ?_
      refine v_istore F (q := 28) [(4, VI 0), (3, VI (S 5 t)), (0, .ref (g 0)), (1, VI (codeF f)), (2, VI ((t : Nat) : Int))] dX6_behind_26 (by decide) rfl rfl ?_
      have L28_7 : ∀ (fu : Nat) (i : Nat), ((i : Int) ≤ S 0 8 ∧ ∀ j : Nat, j < i → ¬ strT S t j = true) → (S 0 8 - i).toNat < fu → V XX (mw k g S Y) 0 0 28 [(4, VI ((i : Nat) : Int)), (3, VI (S 5 t)), (0, .ref (g 0)), (1, VI (codeF f)), (2, VI ((t : Nat) : Int))] [] := by
        intro fu_28
        induction fu_28 with
        | zero => intros; omega
        | succ fu_28 ih_28 =>
          intro i hv hm_28
          obtain ⟨hv1, hv2⟩ := hv
          refine v_iload F 0 (q := 30) dX6_behind_28 rfl rfl ?_
          refine v_aload_n F 2 (q := 31) dX6_behind_30 rfl rfl rfl ?_
          refine v_get F (C := RX6) (T := TX6) (N := 25) (ci := 6) (v := VI (S 0 8)) 0 18 hin6 rfl mw_at0 (by decide) (by decide +kernel) rfl (q := 34) dX6_behind_31 rfl ?_
          have b_8 := And.intro (hI.sc 8 (by decide)) (hI.1 0 8 (by omega)).2
          refine v_icmp_ge F (tgt := 82) (q := 37) (by omega) (by omega) dX6_behind_34 rfl rfl (fun h_9 => ?_) (fun h_9 => ?_)
          · have hst9 : ¬ strongB S t = true := fun h => by obtain ⟨j, hj1, hj2⟩ := (cnt_pos _ _).mp (of_decide_eq_true h); exact hv2 j (by unfold tcn at hj1; omega) hj2
            refine v_iload_n F 3 (q := 83) dX6_behind_82 rfl rfl rfl ?_
            refine v_iload_n F 1 (q := 84) dX6_behind_83 rfl rfl rfl ?_
            refine v_steq (st9 := [VI (((S 5 t).toNat : Nat) : Int), VI (codeF f)]) (by rw [show (((S 5 t).toNat : Nat) : Int) = S 5 t from (by omega)]) ?_
            refine v_callSi0 F (kX6_unit hst (k := k) (w := mw k g S Y) (m := (S 5 t).toNat) (by omega)) gX6_behind_X6_unit rfl hdX6_unit ⟨by decide, by decide⟩ rfl rfl (Nat.le_of_ble_eq_true rfl) ⟨(Nat.zero_le _), (Nat.zero_le _)⟩ (q := 87) dX6_behind_84 rfl ?_
            rintro a_10 _ ⟨rfl, ⟨h_10, hc_10⟩⟩
            refine v_isub F (q := 88) dX6_behind_87 rfl ?_
            refine v_istore F (q := 90) [(4, VI ((codeF f) - a_10)), (3, VI (S 5 t)), (0, .ref (g 0)), (1, VI (codeF f)), (2, VI ((t : Nat) : Int))] dX6_behind_88 (by decide) rfl rfl ?_
            refine v_const F (q := 91) dX6_behind_90 rfl ?_
            refine v_istore F (q := 93) [(5, VI 0), (4, VI ((codeF f) - a_10)), (3, VI (S 5 t)), (0, .ref (g 0)), (1, VI (codeF f)), (2, VI ((t : Nat) : Int))] dX6_behind_91 (by decide) rfl rfl ?_
            have L93_11 : ∀ (fu : Nat) (th : Int) (o : Nat), ((o : Int) ≤ S 0 7 ∧ th = codeF (rsI S (S 5 t).toNat f o)) → (S 0 7 - o).toNat < fu → V XX (mw k g S Y) 0 0 93 [(5, VI ((o : Nat) : Int)), (4, VI th), (3, VI (S 5 t)), (0, .ref (g 0)), (1, VI (codeF f)), (2, VI ((t : Nat) : Int))] [] := by
              intro fu_93
              induction fu_93 with
              | zero => intros; omega
              | succ fu_93 ih_93 =>
                intro th o hw hm_93
                obtain ⟨hw1, hw2⟩ := hw
                refine v_iload F 0 (q := 95) dX6_behind_93 rfl rfl ?_
                refine v_aload_n F 3 (q := 96) dX6_behind_95 rfl rfl rfl ?_
                refine v_get F (C := RX6) (T := TX6) (N := 25) (ci := 6) (v := VI (S 0 7)) 0 12 hin6 rfl mw_at0 (by decide) (by decide +kernel) rfl (q := 99) dX6_behind_96 rfl ?_
                have b_12 := And.intro (hI.sc 7 (by decide)) (hI.1 0 7 (by omega)).2
                refine v_icmp_ge F (tgt := 154) (q := 102) (by omega) (by omega) dX6_behind_99 rfl rfl (fun h_13 => ?_) (fun h_13 => ?_)
                · have hcond : ¬ (heldB S (S 5 t) = true ∨ f (S 5 t).toNat = 0) := fun q => q.elim (fun z => by contradiction) (fun z => by omega)
                  have hth : th = codeF (raiseF S (S 5 t).toNat f) := (by rw [hw2, show o = mcn S from (by unfold mcn; omega)]; exact code_cg (fun o9 _ => rsI_end hI _ f o9))
                  have hth2 := code_bd (raise_bd (S := S) (m := (S 5 t).toNat) hf (by omega))
                  refine v_aload_n F 3 (q := 155) dX6_behind_154 rfl rfl rfl ?_
                  refine v_get F (C := RX6) (T := TX6) (N := 25) (ci := 6) (v := VI (S 0 9)) 0 8 hin6 rfl mw_at0 (by decide) (by decide +kernel) rfl (q := 158) dX6_behind_155 rfl ?_
                  have b_14 := hI.isin
                  refine v_if_eq F (tgt := 175) (q := 161) (by omega) dX6_behind_158 rfl rfl (fun h_15 => ?_) (fun h_15 => ?_)
                  · refine v_iload F 1 (q := 177) dX6_behind_175 rfl rfl ?_
                    exact ret _ _ _ _ _ _ (Nat.zero_le _) (Nat.zero_le _) dX6_behind_177 (⟨rfl, by unfold behF; rw [if_neg hcond, if_neg hst9, if_neg (fun z => by first | (have z1 := z.1; omega) | (have z2 := z.2; simp_all))]; exact hth, by have := beh_bd (S := S) hf t; omega, by have := beh_bd (S := S) hf t; omega⟩)
                  · refine v_aload_n F 3 (q := 162) dX6_behind_161 rfl rfl rfl ?_
                    refine v_iload F 1 (q := 164) dX6_behind_162 rfl rfl ?_
                    refine v_cast (b := codeF (raiseF S (S 5 t).toNat f)) hth ?_
                    refine v_callVi0 F (kX6_fits hst (k := k) (g := g) (S := S) (Y := Y) hI (f := (raiseF S (S 5 t).toNat f)) (raise_bd (S := S) (m := (S 5 t).toNat) hf (by omega))) gX6_behind_X6_fits rfl hdX6_fits ⟨by decide, by decide⟩ 0 mw_at0 rfl rfl rfl (Nat.le_of_ble_eq_true rfl) ⟨(Nat.zero_le _), (Nat.zero_le _)⟩ (q := 167) dX6_behind_164 rfl ?_
                    rintro _ _ ⟨rfl, ⟨rfl, h_16⟩ | ⟨rfl, h_16⟩⟩
                    · refine v_if_ne F (tgt := 175) (q := 170) (by omega) dX6_behind_167 rfl rfl (fun h_17 => ?_) (fun h_17 => absurd h_17 (by omega))
                      refine v_iload F 1 (q := 177) dX6_behind_175 rfl rfl ?_
                      exact ret _ _ _ _ _ _ (Nat.zero_le _) (Nat.zero_le _) dX6_behind_177 (⟨rfl, by unfold behF; rw [if_neg hcond, if_neg hst9, if_neg (fun z => by first | (have z1 := z.1; omega) | (have z2 := z.2; simp_all))]; exact hth, by have := beh_bd (S := S) hf t; omega, by have := beh_bd (S := S) hf t; omega⟩)
                    · refine v_if_ne F (tgt := 175) (q := 170) R32_0 dX6_behind_167 rfl rfl (fun h_18 => absurd h_18 (by omega)) (fun h_18 => ?_)
                      refine v_bipush F (q := 172) dX6_behind_170 rfl rfl ?_
                      refine v_goto F (tgt := 177) dX6_behind_172 rfl ?_
                      exact ret _ _ _ _ _ _ (Nat.zero_le _) (Nat.zero_le _) dX6_behind_177 (⟨rfl, by unfold behF; rw [if_neg hcond, if_neg hst9, if_pos ⟨by omega, by cases h9 : fitsB S (raiseF S (S 5 t).toNat f) with | false => rfl | true => contradiction⟩], by have := beh_bd (S := S) hf t; omega, by have := beh_bd (S := S) hf t; omega⟩)
                · refine v_iload F 0 (q := 104) dX6_behind_102 rfl rfl ?_
                  refine v_iload_n F 2 (q := 105) dX6_behind_104 rfl rfl rfl ?_
                  refine v_icmp_eq F (tgt := 148) (q := 108) (by omega) (by omega) dX6_behind_105 rfl rfl (fun h_19 => ?_) (fun h_19 => ?_)
                  · refine v_iinc F (q := 151) (z := ((o + 1 : Nat) : Int)) 0 [(5, VI ((o + 1 : Nat) : Int)), (4, VI th), (3, VI (S 5 t)), (0, .ref (g 0)), (1, VI (codeF f)), (2, VI ((t : Nat) : Int))] dX6_behind_148 rfl (by decide) (by omega) rfl rfl ?_
                    refine v_goto F (tgt := 93) dX6_behind_151 rfl ?_
                    exact ih_93 th (o + 1) (by refine ⟨by omega, ?_⟩; first | (rw [rs_add (by omega) (by omega) (low_of (by rw [hmm]; assumption) (by assumption)) (by omega)]; omega) | (rw [hw2]; exact code_cg (fun o9 _ => (rs_no (by first | exact Or.inl (by omega) | exact Or.inr (Or.inl (low_no2 (by assumption))) | exact Or.inr (Or.inl (low_no1 (by rw [hmm]; assumption))) | exact Or.inr (Or.inr (by omega))) o9).symm))) (by omega)
                  · refine v_iload_n F 4 (q := 109) dX6_behind_108 rfl rfl rfl ?_
                    refine v_iload F 0 (q := 111) dX6_behind_109 rfl rfl ?_
                    refine v_callSi0 F (kX6_lean hst (k := k) (w := mw k g S Y) (f := f) hf (m := o) (by omega)) gX6_behind_X6_lean rfl hdX6_lean ⟨by decide, by decide⟩ rfl rfl (Nat.le_of_ble_eq_true rfl) ⟨(Nat.zero_le _), (Nat.zero_le _)⟩ (q := 114) dX6_behind_111 rfl ?_
                    rintro a_20 _ ⟨rfl, ⟨h_20, hc_20⟩⟩
                    refine v_bipush F (q := 116) dX6_behind_114 rfl rfl ?_
                    refine v_icmp_ge F (tgt := 148) (q := 119) (by omega) (by omega) dX6_behind_116 rfl rfl (fun h_21 => ?_) (fun h_21 => ?_)
                    · refine v_iinc F (q := 151) (z := ((o + 1 : Nat) : Int)) 0 [(5, VI ((o + 1 : Nat) : Int)), (4, VI th), (3, VI (S 5 t)), (0, .ref (g 0)), (1, VI (codeF f)), (2, VI ((t : Nat) : Int))] dX6_behind_148 rfl (by decide) (by omega) rfl rfl ?_
                      refine v_goto F (tgt := 93) dX6_behind_151 rfl ?_
                      exact ih_93 th (o + 1) (by refine ⟨by omega, ?_⟩; first | (rw [rs_add (by omega) (by omega) (low_of (by rw [hmm]; assumption) (by assumption)) (by omega)]; omega) | (rw [hw2]; exact code_cg (fun o9 _ => (rs_no (by first | exact Or.inl (by omega) | exact Or.inr (Or.inl (low_no2 (by assumption))) | exact Or.inr (Or.inl (low_no1 (by rw [hmm]; assumption))) | exact Or.inr (Or.inr (by omega))) o9).symm))) (by omega)
                    · refine v_aload_n F 3 (q := 120) dX6_behind_119 rfl rfl rfl ?_
                      refine v_iload F 0 (q := 122) dX6_behind_120 rfl rfl ?_
                      refine v_callVi0 F (kX6_isHeld hst (k := k) (g := g) (S := S) (Y := Y) hI (a0 := ((o : Nat) : Int)) (by omega)) gX6_behind_X6_isHeld rfl hdX6_isHeld ⟨by decide, by decide⟩ 0 mw_at0 rfl rfl rfl (Nat.le_of_ble_eq_true rfl) ⟨(Nat.zero_le _), (Nat.zero_le _)⟩ (q := 125) dX6_behind_122 rfl ?_
                      rintro _ _ ⟨rfl, ⟨rfl, h_22⟩ | ⟨rfl, h_22⟩⟩
                      · refine v_if_ne F (tgt := 148) (q := 128) (by omega) dX6_behind_125 rfl rfl (fun h_23 => ?_) (fun h_23 => absurd h_23 (by omega))
                        refine v_iinc F (q := 151) (z := ((o + 1 : Nat) : Int)) 0 [(5, VI ((o + 1 : Nat) : Int)), (4, VI th), (3, VI (S 5 t)), (0, .ref (g 0)), (1, VI (codeF f)), (2, VI ((t : Nat) : Int))] dX6_behind_148 rfl (by decide) (by omega) rfl rfl ?_
                        refine v_goto F (tgt := 93) dX6_behind_151 rfl ?_
                        exact ih_93 th (o + 1) (by refine ⟨by omega, ?_⟩; first | (rw [rs_add (by omega) (by omega) (low_of (by rw [hmm]; assumption) (by assumption)) (by omega)]; omega) | (rw [hw2]; exact code_cg (fun o9 _ => (rs_no (by first | exact Or.inl (by omega) | exact Or.inr (Or.inl (low_no2 (by assumption))) | exact Or.inr (Or.inl (low_no1 (by rw [hmm]; assumption))) | exact Or.inr (Or.inr (by omega))) o9).symm))) (by omega)
                      · refine v_if_ne F (tgt := 148) (q := 128) R32_0 dX6_behind_125 rfl rfl (fun h_24 => absurd h_24 (by omega)) (fun h_24 => ?_)
                        refine v_aload_n F 3 (q := 129) dX6_behind_128 rfl rfl rfl ?_
                        refine v_iload_n F 2 (q := 130) dX6_behind_129 rfl rfl rfl ?_
                        refine v_iload F 0 (q := 132) dX6_behind_130 rfl rfl ?_
                        refine v_callVi0 F (kX6_leads hst (k := k) (g := g) (S := S) (Y := Y) hI (a0 := S 5 t) (a1 := ((o : Nat) : Int)) (by omega) (by omega)) gX6_behind_X6_leads rfl hdX6_leads ⟨by decide, by decide⟩ 0 mw_at0 rfl rfl rfl (Nat.le_of_ble_eq_true rfl) ⟨(Nat.zero_le _), (Nat.zero_le _)⟩ (q := 135) dX6_behind_132 rfl ?_
                        rintro _ _ ⟨rfl, ⟨rfl, h_25⟩ | ⟨rfl, h_25⟩⟩
                        · refine v_if_eq F (tgt := 148) (q := 138) (by omega) dX6_behind_135 rfl rfl (fun h_26 => absurd h_26 (by omega)) (fun h_26 => ?_)
                          refine v_iload F 1 (q := 140) dX6_behind_138 rfl rfl ?_
                          refine v_iload F 0 (q := 142) dX6_behind_140 rfl rfl ?_
                          refine v_callSi0 F (kX6_unit hst (k := k) (w := mw k g S Y) (m := o) (by omega)) gX6_behind_X6_unit rfl hdX6_unit ⟨by decide, by decide⟩ rfl rfl (Nat.le_of_ble_eq_true rfl) ⟨(Nat.zero_le _), (Nat.zero_le _)⟩ (q := 145) dX6_behind_142 rfl ?_
                          rintro a_27 _ ⟨rfl, ⟨h_27, hc_27⟩⟩
                          refine v_iadd F (q := 146) dX6_behind_145 rfl ?_
                          refine v_istore F (q := 148) [(4, VI (th + a_27)), (5, VI ((o : Nat) : Int)), (3, VI (S 5 t)), (0, .ref (g 0)), (1, VI (codeF f)), (2, VI ((t : Nat) : Int))] dX6_behind_146 (by decide) rfl rfl ?_
                          refine v_iinc F (q := 151) (z := ((o + 1 : Nat) : Int)) 1 [(5, VI ((o + 1 : Nat) : Int)), (4, VI (th + a_27)), (3, VI (S 5 t)), (0, .ref (g 0)), (1, VI (codeF f)), (2, VI ((t : Nat) : Int))] dX6_behind_148 rfl (by decide) (by omega) rfl rfl ?_
                          refine v_goto F (tgt := 93) dX6_behind_151 rfl ?_
                          exact ih_93 (th + a_27) (o + 1) (by refine ⟨by omega, ?_⟩; first | (rw [rs_add (by omega) (by omega) (low_of (by rw [hmm]; assumption) (by assumption)) (by omega)]; omega) | (rw [hw2]; exact code_cg (fun o9 _ => (rs_no (by first | exact Or.inl (by omega) | exact Or.inr (Or.inl (low_no2 (by assumption))) | exact Or.inr (Or.inl (low_no1 (by rw [hmm]; assumption))) | exact Or.inr (Or.inr (by omega))) o9).symm))) (by omega)
                        · refine v_if_eq F (tgt := 148) (q := 138) R32_0 dX6_behind_135 rfl rfl (fun h_28 => ?_) (fun h_28 => absurd h_28 (by omega))
                          refine v_iinc F (q := 151) (z := ((o + 1 : Nat) : Int)) 0 [(5, VI ((o + 1 : Nat) : Int)), (4, VI th), (3, VI (S 5 t)), (0, .ref (g 0)), (1, VI (codeF f)), (2, VI ((t : Nat) : Int))] dX6_behind_148 rfl (by decide) (by omega) rfl rfl ?_
                          refine v_goto F (tgt := 93) dX6_behind_151 rfl ?_
                          exact ih_93 th (o + 1) (by refine ⟨by omega, ?_⟩; first | (rw [rs_add (by omega) (by omega) (low_of (by rw [hmm]; assumption) (by assumption)) (by omega)]; omega) | (rw [hw2]; exact code_cg (fun o9 _ => (rs_no (by first | exact Or.inl (by omega) | exact Or.inr (Or.inl (low_no2 (by assumption))) | exact Or.inr (Or.inl (low_no1 (by rw [hmm]; assumption))) | exact Or.inr (Or.inr (by omega))) o9).symm))) (by omega)
            exact L93_11 _ ((codeF f) - a_10) 0 (by exact ⟨by omega, by rw [rs_0 (show (S 5 t).toNat < 3 from (by omega))]; omega⟩) (Nat.lt_succ_self _)
          · refine v_aload_n F 2 (q := 38) dX6_behind_37 rfl rfl rfl ?_
            refine v_get F (C := RX6) (T := TX6) (N := 25) (ci := 6) (v := .ref (g 8)) 0 22 hin6 rfl mw_at0 (by decide) (by decide +kernel) rfl (q := 41) dX6_behind_38 rfl ?_
            refine v_iload F 0 (q := 43) dX6_behind_41 rfl rfl ?_
            refine v_iald F (j := i) 8 mw_at8 rfl (by omega) (by decide) (q := 44) dX6_behind_43 rfl ?_
            have b_29 := hI.st i
            refine v_if_ne F (tgt := 76) (q := 47) (by omega) dX6_behind_44 rfl rfl (fun h_30 => ?_) (fun h_30 => ?_)
            · refine v_iinc F (q := 79) (z := ((i + 1 : Nat) : Int)) 0 [(4, VI ((i + 1 : Nat) : Int)), (3, VI (S 5 t)), (0, .ref (g 0)), (1, VI (codeF f)), (2, VI ((t : Nat) : Int))] dX6_behind_76 rfl (by decide) (by omega) rfl rfl ?_
              refine v_goto F (tgt := 28) dX6_behind_79 rfl ?_
              exact ih_28 (i + 1) (by exact ⟨by omega, fun j hj => (Nat.lt_or_ge j i).elim (fun q => hv2 j q) (fun q => by obtain rfl : j = i := (by omega); unfold strT; simp only [Bool.and_eq_true, decide_eq_true_eq]; exact fun q9 => by first | (have q8 := q9.1; omega) | exact absurd q9.2 (by assumption))⟩) (by omega)
            · refine v_aload_n F 2 (q := 48) dX6_behind_47 rfl rfl rfl ?_
              refine v_get F (C := RX6) (T := TX6) (N := 25) (ci := 6) (v := .ref (g 7)) 0 21 hin6 rfl mw_at0 (by decide) (by decide +kernel) rfl (q := 51) dX6_behind_48 rfl ?_
              refine v_iload F 0 (q := 53) dX6_behind_51 rfl rfl ?_
              refine v_iald F (j := i) 7 mw_at7 rfl (by omega) (by decide) (q := 54) dX6_behind_53 rfl ?_
              have b_31 := And.intro (hI.pos 7 i (by omega) (by omega)) (hI.1 7 i (by omega)).2
              refine v_aload_n F 2 (q := 55) dX6_behind_54 rfl rfl rfl ?_
              refine v_get F (C := RX6) (T := TX6) (N := 25) (ci := 6) (v := .ref (g 7)) 0 21 hin6 rfl mw_at0 (by decide) (by decide +kernel) rfl (q := 58) dX6_behind_55 rfl ?_
              refine v_iload_n F 4 (q := 59) dX6_behind_58 rfl rfl rfl ?_
              refine v_iald F (j := t) 7 mw_at7 rfl (by omega) (by decide) (q := 60) dX6_behind_59 rfl ?_
              have b_32 := And.intro (hI.pos 7 t (by omega) (by omega)) (hI.1 7 t (by omega)).2
              refine v_icmp_le F (tgt := 76) (q := 63) (by omega) (by omega) dX6_behind_60 rfl rfl (fun h_33 => ?_) (fun h_33 => ?_)
              · refine v_iinc F (q := 79) (z := ((i + 1 : Nat) : Int)) 0 [(4, VI ((i + 1 : Nat) : Int)), (3, VI (S 5 t)), (0, .ref (g 0)), (1, VI (codeF f)), (2, VI ((t : Nat) : Int))] dX6_behind_76 rfl (by decide) (by omega) rfl rfl ?_
                refine v_goto F (tgt := 28) dX6_behind_79 rfl ?_
                exact ih_28 (i + 1) (by exact ⟨by omega, fun j hj => (Nat.lt_or_ge j i).elim (fun q => hv2 j q) (fun q => by obtain rfl : j = i := (by omega); unfold strT; simp only [Bool.and_eq_true, decide_eq_true_eq]; exact fun q9 => by first | (have q8 := q9.1; omega) | exact absurd q9.2 (by assumption))⟩) (by omega)
              · refine v_aload_n F 2 (q := 64) dX6_behind_63 rfl rfl rfl ?_
                refine v_iload_n F 4 (q := 65) dX6_behind_64 rfl rfl rfl ?_
                refine v_iload F 0 (q := 67) dX6_behind_65 rfl rfl ?_
                refine v_callVi0 F (kX6_crosses hst (k := k) (g := g) (S := S) (Y := Y) hI (a := t) (b := i) (by omega) (by omega)) gX6_behind_X6_crosses rfl hdX6_crosses ⟨by decide, by decide⟩ 0 mw_at0 rfl rfl rfl (Nat.le_of_ble_eq_true rfl) ⟨(Nat.zero_le _), (Nat.zero_le _)⟩ (q := 70) dX6_behind_67 rfl ?_
                rintro _ _ ⟨rfl, ⟨rfl, h_34⟩ | ⟨rfl, h_34⟩⟩
                · refine v_if_eq F (tgt := 76) (q := 73) (by omega) dX6_behind_70 rfl rfl (fun h_35 => absurd h_35 (by omega)) (fun h_35 => ?_)
                  refine v_bipush F (q := 75) dX6_behind_73 rfl rfl ?_
                  have hst9 : strongB S t = true := decide_eq_true ((cnt_pos _ _).mpr ⟨i, (by unfold tcn; omega), (by unfold strT; simp only [Bool.and_eq_true, decide_eq_true_eq]; exact ⟨⟨by omega, by omega⟩, by assumption⟩)⟩)
                  exact ret _ _ _ _ _ _ (Nat.zero_le _) (Nat.zero_le _) dX6_behind_75 (⟨rfl, by unfold behF; grind, by have := beh_bd (S := S) hf t; omega, by have := beh_bd (S := S) hf t; omega⟩)
                · refine v_if_eq F (tgt := 76) (q := 73) R32_0 dX6_behind_70 rfl rfl (fun h_36 => ?_) (fun h_36 => absurd h_36 (by omega))
                  refine v_iinc F (q := 79) (z := ((i + 1 : Nat) : Int)) 0 [(4, VI ((i + 1 : Nat) : Int)), (3, VI (S 5 t)), (0, .ref (g 0)), (1, VI (codeF f)), (2, VI ((t : Nat) : Int))] dX6_behind_76 rfl (by decide) (by omega) rfl rfl ?_
                  refine v_goto F (tgt := 28) dX6_behind_79 rfl ?_
                  exact ih_28 (i + 1) (by exact ⟨by omega, fun j hj => (Nat.lt_or_ge j i).elim (fun q => hv2 j q) (fun q => by obtain rfl : j = i := (by omega); unfold strT; simp only [Bool.and_eq_true, decide_eq_true_eq]; exact fun q9 => by first | (have q8 := q9.1; omega) | exact absurd q9.2 (by assumption))⟩) (by omega)
      exact L28_7 _ 0 (by exact ⟨by omega, fun j hj => absurd hj (Nat.not_lt_zero j)⟩) (Nat.lt_succ_self _)
