theorem hdX6_thrown : yX6_thrown.cls = RX6 ∧ yX6_thrown.cls ≠ "java/lang/invoke/MethodHandle" ∧ yX6_thrown.cls ≠ "java/lang/invoke/VarHandle" ∧ (parseMethodDescriptor yX6_thrown.desc).map (fun d => d.parameters.length) = some 0 := by decide +kernel
set_option maxRecDepth 100000 in
set_option maxHeartbeats 4000000 in
theorem kX6_thrown {l : Launch} (hst : l.stackTraces = false) {k : Nat → ClassId} {g : Nat → Nat} {S Y : Nat → Nat → Int} (hI : Inv S) : v_Ci l k yX6_thrown wsX6_thrown ({ frames := 0, cells := 0, slots := 0, locals := 0 } : Room) [.ref (g 0)] (mw k g S Y) (fun a u => u = mw k g S Y ∧ a = Y 0 0) := by
  refine v_ofI (cc := cX6_thrown) (nL := 1) (by decide +kernel) rfl hst (Nat.le_of_ble_eq_true rfl) (fun _ _ _ => rfl) (fun XX F ret => ?_)
  have hin6 : ∀ w ∈ wsX60, w ∈ wsX6_thrown := by decide +kernel
  show V XX (mw k g S Y) 0 0 0 [(0, .ref (g 0))] []
  refine v_aload_n F 0 (q := 1) dX6_thrown_0 rfl rfl rfl ?_
  refine v_get F (C := RX6) (T := TX6) (N := 25) (ci := 6) (v := VI (Y 0 0)) 0 0 hin6 rfl mw_at0 (by decide) (by decide +kernel) rfl (q := 4) dX6_thrown_1 rfl ?_
  exact ret _ _ _ _ _ _ (Nat.zero_le _) (Nat.zero_le _) dX6_thrown_4 (⟨rfl, rfl⟩)
theorem hdX6_no : yX6_no.cls = RX6 ∧ yX6_no.cls ≠ "java/lang/invoke/MethodHandle" ∧ yX6_no.cls ≠ "java/lang/invoke/VarHandle" ∧ (parseMethodDescriptor yX6_no.desc).map (fun d => d.parameters.length) = some 1 := by decide +kernel
set_option maxRecDepth 100000 in
set_option maxHeartbeats 4000000 in
theorem kX6_no {l : Launch} (hst : l.stackTraces = false) {k : Nat → ClassId} {g : Nat → Nat} {S Y : Nat → Nat → Int} (hI : Inv S) {a0 : Int} : v_Ci l k yX6_no wsX6_no ({ frames := 0, cells := 0, slots := 0, locals := 0 } : Room) [.ref (g 0), VI a0] (mw k g S Y) (fun a u => u = mw k g S (u2 Y 0 0 a0) ∧ a = 0) := by
  refine v_ofI (cc := cX6_no) (nL := 2) (by decide +kernel) rfl hst (Nat.le_of_ble_eq_true rfl) (fun _ _ _ => rfl) (fun XX F ret => ?_)
  have hin6 : ∀ w ∈ wsX60, w ∈ wsX6_no := by decide +kernel
  show V XX (mw k g S Y) 0 0 0 [(0, .ref (g 0)), (1, VI a0)] []
  refine v_aload_n F 0 (q := 1) dX6_no_0 rfl rfl rfl ?_
  refine v_iload_n F 1 (q := 2) dX6_no_1 rfl rfl rfl ?_
  refine v_put F (C := RX6) (T := TX6) (N := 25) (ci := 6) (ty := .int) 0 0 (mw k g S (u2 Y 0 0 a0)) hin6 tyX6 tyX6_ok nmX6 rfl mw_at0 (by decide) (by decide +kernel) rfl (by decide +kernel) rfl rfl (Nat.le_of_ble_eq_true rfl) (mw_thrown _) (q := 5) dX6_no_2 rfl ?_
  refine v_const F (q := 6) dX6_no_5 rfl ?_
  exact ret _ _ _ _ _ _ (Nat.zero_le _) (Nat.zero_le _) dX6_no_6 (⟨rfl, rfl⟩)
theorem hdX6_isBetween : yX6_isBetween.cls ≠ "java/lang/invoke/MethodHandle" ∧ yX6_isBetween.cls ≠ "java/lang/invoke/VarHandle" ∧ (parseMethodDescriptor yX6_isBetween.desc).map (fun d => d.parameters.length) = some 3 := by decide +kernel
set_option maxRecDepth 100000 in
set_option maxHeartbeats 4000000 in
theorem kX6_isBetween {l : Launch} (hst : l.stackTraces = false) {k : Nat → ClassId} {w : va_W} {a0 a1 a2 : Int} (g0 : R32 a0) (g1 : R32 a1) (g2 : R32 a2) : v_Ci l k yX6_isBetween wsX6_isBetween ({ frames := 0, cells := 0, slots := 0, locals := 0 } : Room) [VI a0, VI a1, VI a2] (w) (fun a u => u = w ∧ vB (a1 ≤ a0 ∧ a0 ≤ a2) a) := by
  refine v_ofI (cc := cX6_isBetween) (nL := 3) (by decide +kernel) rfl hst (Nat.le_of_ble_eq_true rfl) (fun _ _ hp => vB_n hp.2) (fun XX F ret => ?_)
  show V XX (w) 0 0 0 [(0, VI a0), (1, VI a1), (2, VI a2)] []
  refine v_iload_n F 0 (q := 1) dX6_isBetween_0 rfl rfl rfl ?_
  refine v_iload_n F 1 (q := 2) dX6_isBetween_1 rfl rfl rfl ?_
  refine v_icmp_lt F (tgt := 14) (q := 5) (by omega) (by omega) dX6_isBetween_2 rfl rfl (fun h_1 => ?_) (fun h_1 => ?_)
  · refine v_const F (q := 15) dX6_isBetween_14 rfl ?_
    exact ret _ _ _ _ _ _ (Nat.zero_le _) (Nat.zero_le _) dX6_isBetween_15 (⟨rfl, vB_0 (by omega)⟩)
  · refine v_iload_n F 0 (q := 6) dX6_isBetween_5 rfl rfl rfl ?_
    refine v_iload_n F 2 (q := 7) dX6_isBetween_6 rfl rfl rfl ?_
    refine v_icmp_gt F (tgt := 14) (q := 10) (by omega) (by omega) dX6_isBetween_7 rfl rfl (fun h_2 => ?_) (fun h_2 => ?_)
    · refine v_const F (q := 15) dX6_isBetween_14 rfl ?_
      exact ret _ _ _ _ _ _ (Nat.zero_le _) (Nat.zero_le _) dX6_isBetween_15 (⟨rfl, vB_0 (by omega)⟩)
    · refine v_const F (q := 11) dX6_isBetween_10 rfl ?_
      refine v_goto F (tgt := 15) dX6_isBetween_11 rfl ?_
      exact ret _ _ _ _ _ _ (Nat.zero_le _) (Nat.zero_le _) dX6_isBetween_15 (⟨rfl, vB_1 (by omega)⟩)
theorem hdX6_isMast : yX6_isMast.cls = RX6 ∧ yX6_isMast.cls ≠ "java/lang/invoke/MethodHandle" ∧ yX6_isMast.cls ≠ "java/lang/invoke/VarHandle" ∧ (parseMethodDescriptor yX6_isMast.desc).map (fun d => d.parameters.length) = some 1 := by decide +kernel
set_option maxRecDepth 100000 in
set_option maxHeartbeats 4000000 in
theorem kX6_isMast {l : Launch} (hst : l.stackTraces = false) {k : Nat → ClassId} {g : Nat → Nat} {S Y : Nat → Nat → Int} (hI : Inv S) {a0 : Int} (g0 : R32 a0) : v_Ci l k yX6_isMast wsX6_isMast ({ frames := 1, cells := 0, slots := 0, locals := 22 } : Room) [.ref (g 0), VI a0] (mw k g S Y) (fun a u => u = mw k g S Y ∧ vB (0 ≤ a0 ∧ a0 < S 0 7) a) := by
  refine v_ofI (cc := cX6_isMast) (nL := 2) (by decide +kernel) rfl hst (Nat.le_of_ble_eq_true rfl) (fun _ _ hp => vB_n hp.2) (fun XX F ret => ?_)
  have hin6 : ∀ w ∈ wsX60, w ∈ wsX6_isMast := by decide +kernel
  have b7 := hI.mc
  have b8 := hI.cc
  show V XX (mw k g S Y) 0 0 0 [(0, .ref (g 0)), (1, VI a0)] []
  refine v_iload_n F 1 (q := 1) dX6_isMast_0 rfl rfl rfl ?_
  refine v_const F (q := 2) dX6_isMast_1 rfl ?_
  refine v_aload_n F 0 (q := 3) dX6_isMast_2 rfl rfl rfl ?_
  refine v_get F (C := RX6) (T := TX6) (N := 25) (ci := 6) (v := VI (S 0 7)) 0 12 hin6 rfl mw_at0 (by decide) (by decide +kernel) rfl (q := 6) dX6_isMast_3 rfl ?_
  have b_1 := And.intro (hI.sc 7 (by decide)) (hI.1 0 7 (by omega)).2
  refine v_const F (q := 7) dX6_isMast_6 rfl ?_
  refine v_isub F (q := 8) dX6_isMast_7 rfl ?_
  refine v_callSi0 F (kX6_isBetween hst (k := k) (w := mw k g S Y) (a0 := a0) (a1 := 0) (a2 := (S 0 7) - 1) (by omega) (by omega) (by omega)) gX6_isMast_X6_isBetween rfl hdX6_isBetween ⟨by decide, by decide⟩ rfl rfl (Nat.le_of_ble_eq_true rfl) ⟨(Nat.zero_le _), (Nat.zero_le _)⟩ (q := 11) dX6_isMast_8 rfl ?_
  rintro _ _ ⟨rfl, ⟨rfl, h_2⟩ | ⟨rfl, h_2⟩⟩
  · exact ret _ _ _ _ _ _ (Nat.zero_le _) (Nat.zero_le _) dX6_isMast_11 (⟨rfl, vB_1 (by omega)⟩)
  · exact ret _ _ _ _ _ _ (Nat.zero_le _) (Nat.zero_le _) dX6_isMast_11 (⟨rfl, vB_0 (by omega)⟩)
theorem hdX6_isThread : yX6_isThread.cls = RX6 ∧ yX6_isThread.cls ≠ "java/lang/invoke/MethodHandle" ∧ yX6_isThread.cls ≠ "java/lang/invoke/VarHandle" ∧ (parseMethodDescriptor yX6_isThread.desc).map (fun d => d.parameters.length) = some 1 := by decide +kernel
set_option maxRecDepth 100000 in
set_option maxHeartbeats 4000000 in
theorem kX6_isThread {l : Launch} (hst : l.stackTraces = false) {k : Nat → ClassId} {g : Nat → Nat} {S Y : Nat → Nat → Int} (hI : Inv S) {a0 : Int} (g0 : R32 a0) : v_Ci l k yX6_isThread wsX6_isThread ({ frames := 1, cells := 0, slots := 0, locals := 22 } : Room) [.ref (g 0), VI a0] (mw k g S Y) (fun a u => u = mw k g S Y ∧ vB (0 ≤ a0 ∧ a0 < S 0 8) a) := by
  refine v_ofI (cc := cX6_isThread) (nL := 2) (by decide +kernel) rfl hst (Nat.le_of_ble_eq_true rfl) (fun _ _ hp => vB_n hp.2) (fun XX F ret => ?_)
  have hin6 : ∀ w ∈ wsX60, w ∈ wsX6_isThread := by decide +kernel
  have b7 := hI.mc
  have b8 := hI.cc
  show V XX (mw k g S Y) 0 0 0 [(0, .ref (g 0)), (1, VI a0)] []
  refine v_iload_n F 1 (q := 1) dX6_isThread_0 rfl rfl rfl ?_
  refine v_const F (q := 2) dX6_isThread_1 rfl ?_
  refine v_aload_n F 0 (q := 3) dX6_isThread_2 rfl rfl rfl ?_
  refine v_get F (C := RX6) (T := TX6) (N := 25) (ci := 6) (v := VI (S 0 8)) 0 18 hin6 rfl mw_at0 (by decide) (by decide +kernel) rfl (q := 6) dX6_isThread_3 rfl ?_
  have b_1 := And.intro (hI.sc 8 (by decide)) (hI.1 0 8 (by omega)).2
  refine v_const F (q := 7) dX6_isThread_6 rfl ?_
  refine v_isub F (q := 8) dX6_isThread_7 rfl ?_
  refine v_callSi0 F (kX6_isBetween hst (k := k) (w := mw k g S Y) (a0 := a0) (a1 := 0) (a2 := (S 0 8) - 1) (by omega) (by omega) (by omega)) gX6_isThread_X6_isBetween rfl hdX6_isBetween ⟨by decide, by decide⟩ rfl rfl (Nat.le_of_ble_eq_true rfl) ⟨(Nat.zero_le _), (Nat.zero_le _)⟩ (q := 11) dX6_isThread_8 rfl ?_
  rintro _ _ ⟨rfl, ⟨rfl, h_2⟩ | ⟨rfl, h_2⟩⟩
  · exact ret _ _ _ _ _ _ (Nat.zero_le _) (Nat.zero_le _) dX6_isThread_11 (⟨rfl, vB_1 (by omega)⟩)
  · exact ret _ _ _ _ _ _ (Nat.zero_le _) (Nat.zero_le _) dX6_isThread_11 (⟨rfl, vB_0 (by omega)⟩)
theorem hdX6_unit : yX6_unit.cls ≠ "java/lang/invoke/MethodHandle" ∧ yX6_unit.cls ≠ "java/lang/invoke/VarHandle" ∧ (parseMethodDescriptor yX6_unit.desc).map (fun d => d.parameters.length) = some 1 := by decide +kernel
set_option maxRecDepth 100000 in
set_option maxHeartbeats 4000000 in
theorem kX6_unit {l : Launch} (hst : l.stackTraces = false) {k : Nat → ClassId} {w : va_W} {m : Nat} (hm : m < 3) : v_Ci l k yX6_unit wsX6_unit ({ frames := 0, cells := 0, slots := 0, locals := 0 } : Room) [VI ((m : Nat) : Int)] (w) (fun a u => u = w ∧ a = unitN m ∧ 1 ≤ a ∧ a ≤ 100) := by
  refine v_ofI (cc := cX6_unit) (nL := 1) (by decide +kernel) rfl hst (Nat.le_of_ble_eq_true rfl) (fun _ _ _ => rfl) (fun XX F ret => ?_)
  show V XX (w) 0 0 0 [(0, VI ((m : Nat) : Int))] []
  refine v_iload_n F 0 (q := 1) dX6_unit_0 rfl rfl rfl ?_
  refine v_if_ne F (tgt := 8) (q := 4) (by omega) dX6_unit_1 rfl rfl (fun h_1 => ?_) (fun h_1 => ?_)
  · refine v_iload_n F 0 (q := 9) dX6_unit_8 rfl rfl rfl ?_
    refine v_const F (q := 10) dX6_unit_9 rfl ?_
    refine v_icmp_ne F (tgt := 18) (q := 13) (by omega) (by omega) dX6_unit_10 rfl rfl (fun h_2 => ?_) (fun h_2 => ?_)
    · refine v_bipush F (q := 20) dX6_unit_18 rfl rfl ?_
      exact ret _ _ _ _ _ _ (Nat.zero_le _) (Nat.zero_le _) dX6_unit_20 (⟨rfl, by unfold unitN; grind, by omega, by omega⟩)
    · refine v_bipush F (q := 15) dX6_unit_13 rfl rfl ?_
      refine v_goto F (tgt := 20) dX6_unit_15 rfl ?_
      exact ret _ _ _ _ _ _ (Nat.zero_le _) (Nat.zero_le _) dX6_unit_20 (⟨rfl, by unfold unitN; grind, by omega, by omega⟩)
  · refine v_const F (q := 5) dX6_unit_4 rfl ?_
    refine v_goto F (tgt := 20) dX6_unit_5 rfl ?_
    exact ret _ _ _ _ _ _ (Nat.zero_le _) (Nat.zero_le _) dX6_unit_20 (⟨rfl, by unfold unitN; grind, by omega, by omega⟩)
theorem hdX6_lean : yX6_lean.cls ≠ "java/lang/invoke/MethodHandle" ∧ yX6_lean.cls ≠ "java/lang/invoke/VarHandle" ∧ (parseMethodDescriptor yX6_lean.desc).map (fun d => d.parameters.length) = some 2 := by decide +kernel
set_option maxRecDepth 100000 in
set_option maxHeartbeats 4000000 in
theorem kX6_lean {l : Launch} (hst : l.stackTraces = false) {k : Nat → ClassId} {w : va_W} {f : Nat → Int} (hf : D9 f) {m : Nat} (hm : m < 3) : v_Ci l k yX6_lean wsX6_lean ({ frames := 1, cells := 0, slots := 0, locals := 20 } : Room) [VI (codeF f), VI ((m : Nat) : Int)] (w) (fun a u => u = w ∧ a = f m ∧ 0 ≤ a ∧ a ≤ 9) := by
  refine v_ofI (cc := cX6_lean) (nL := 2) (by decide +kernel) rfl hst (Nat.le_of_ble_eq_true rfl) (fun _ _ _ => rfl) (fun XX F ret => ?_)
  have hcb := code_bd hf
  show V XX (w) 0 0 0 [(0, VI (codeF f)), (1, VI ((m : Nat) : Int))] []
  refine v_iload_n F 0 (q := 1) dX6_lean_0 rfl rfl rfl ?_
  refine v_iload_n F 1 (q := 2) dX6_lean_1 rfl rfl rfl ?_
  refine v_callSi0 F (kX6_unit hst (k := k) (w := w) (m := m) (by omega)) gX6_lean_X6_unit rfl hdX6_unit ⟨by decide, by decide⟩ rfl rfl (Nat.le_of_ble_eq_true rfl) ⟨(Nat.zero_le _), (Nat.zero_le _)⟩ (q := 5) dX6_lean_2 rfl ?_
  rintro a_1 _ ⟨rfl, ⟨h_1, hc_1⟩⟩
  refine v_idiv F (q := 6) (by omega) (by omega) dX6_lean_5 rfl ?_
  have hdv := div_bd hcb.1 (show 1 ≤ a_1 by omega)
  refine v_bipush F (q := 8) dX6_lean_6 rfl rfl ?_
  refine v_irem F (q := 9) (by omega) (by omega) dX6_lean_8 rfl ?_
  exact ret _ _ _ _ _ _ (Nat.zero_le _) (Nat.zero_le _) dX6_lean_9 (⟨rfl, by rw [h_1]; exact code_dig hf hm, by omega, by omega⟩)
theorem hdX6_stands : yX6_stands.cls = RX6 ∧ yX6_stands.cls ≠ "java/lang/invoke/MethodHandle" ∧ yX6_stands.cls ≠ "java/lang/invoke/VarHandle" ∧ (parseMethodDescriptor yX6_stands.desc).map (fun d => d.parameters.length) = some 2 := by decide +kernel
set_option maxRecDepth 100000 in
set_option maxHeartbeats 4000000 in
theorem kX6_stands {l : Launch} (hst : l.stackTraces = false) {k : Nat → ClassId} {g : Nat → Nat} {S Y : Nat → Nat → Int} (hI : Inv S) {f : Nat → Int} (hf : D9 f) {m : Nat} (hm : m < 3) : v_Ci l k yX6_stands wsX6_stands ({ frames := 2, cells := 0, slots := 0, locals := 41 } : Room) [.ref (g 0), VI (codeF f), VI ((m : Nat) : Int)] (mw k g S Y) (fun a u => u = mw k g S Y ∧ a = stand S f m ∧ 0 ≤ a ∧ a ≤ 50) := by
  refine v_ofI (cc := cX6_stands) (nL := 3) (by decide +kernel) rfl hst (Nat.le_of_ble_eq_true rfl) (fun _ _ _ => rfl) (fun XX F ret => ?_)
  have hin6 : ∀ w ∈ wsX60, w ∈ wsX6_stands := by decide +kernel
  have b7 := hI.mc
  have b8 := hI.cc
  show V XX (mw k g S Y) 0 0 0 [(0, .ref (g 0)), (1, VI (codeF f)), (2, VI ((m : Nat) : Int))] []
  refine v_aload_n F 0 (q := 1) dX6_stands_0 rfl rfl rfl ?_
  refine v_get F (C := RX6) (T := TX6) (N := 25) (ci := 6) (v := .ref (g 2)) 0 15 hin6 rfl mw_at0 (by decide) (by decide +kernel) rfl (q := 4) dX6_stands_1 rfl ?_
  refine v_iload_n F 2 (q := 5) dX6_stands_4 rfl rfl rfl ?_
  refine v_iald F (j := m) 2 mw_at2 rfl (by omega) (by decide) (q := 6) dX6_stands_5 rfl ?_
  have b_1 := hI.tall m
  refine v_bipush F (q := 8) dX6_stands_6 rfl rfl ?_
  refine v_iload_n F 1 (q := 9) dX6_stands_8 rfl rfl rfl ?_
  refine v_iload_n F 2 (q := 10) dX6_stands_9 rfl rfl rfl ?_
  refine v_callSi0 F (kX6_lean hst (k := k) (w := mw k g S Y) (f := f) hf (m := m) (by omega)) gX6_stands_X6_lean rfl hdX6_lean ⟨by decide, by decide⟩ rfl rfl (Nat.le_of_ble_eq_true rfl) ⟨(Nat.zero_le _), (Nat.zero_le _)⟩ (q := 13) dX6_stands_10 rfl ?_
  rintro a_2 _ ⟨rfl, ⟨h_2, hc_2⟩⟩
  have hq : a_2 = f m := by assumption
  refine v_isub F (q := 14) dX6_stands_13 rfl ?_
  refine v_imul F (q := 15) dX6_stands_14 rfl ?_
  refine v_bipush F (q := 17) dX6_stands_15 rfl rfl ?_
  have hb := mul_bd (hI.tall m).1 (hI.tall m).2 (show 0 ≤ 9 - f m by have := hf m hm; omega) (show 9 - f m ≤ 9 by have := hf m hm; omega)
  rw [hq]
  refine v_idiv F (q := 18) (by omega) (by omega) dX6_stands_17 rfl ?_
  exact ret _ _ _ _ _ _ (Nat.zero_le _) (Nat.zero_le _) dX6_stands_18 (⟨rfl, rfl, (stand_bd hI (hf m hm)).1, (stand_bd hI (hf m hm)).2⟩)
theorem hdX6_reach : yX6_reach.cls = RX6 ∧ yX6_reach.cls ≠ "java/lang/invoke/MethodHandle" ∧ yX6_reach.cls ≠ "java/lang/invoke/VarHandle" ∧ (parseMethodDescriptor yX6_reach.desc).map (fun d => d.parameters.length) = some 2 := by decide +kernel
set_option maxRecDepth 100000 in
set_option maxHeartbeats 4000000 in
theorem kX6_reach {l : Launch} (hst : l.stackTraces = false) {k : Nat → ClassId} {g : Nat → Nat} {S Y : Nat → Nat → Int} (hI : Inv S) {f : Nat → Int} (hf : D9 f) {m : Nat} (hm : m < 3) : v_Ci l k yX6_reach wsX6_reach ({ frames := 2, cells := 0, slots := 0, locals := 41 } : Room) [.ref (g 0), VI (codeF f), VI ((m : Nat) : Int)] (mw k g S Y) (fun a u => u = mw k g S Y ∧ a = reachM S f m ∧ 0 ≤ a ∧ a ≤ 50) := by
  refine v_ofI (cc := cX6_reach) (nL := 3) (by decide +kernel) rfl hst (Nat.le_of_ble_eq_true rfl) (fun _ _ _ => rfl) (fun XX F ret => ?_)
  have hin6 : ∀ w ∈ wsX60, w ∈ wsX6_reach := by decide +kernel
  have b7 := hI.mc
  have b8 := hI.cc
  show V XX (mw k g S Y) 0 0 0 [(0, .ref (g 0)), (1, VI (codeF f)), (2, VI ((m : Nat) : Int))] []
  refine v_aload_n F 0 (q := 1) dX6_reach_0 rfl rfl rfl ?_
  refine v_get F (C := RX6) (T := TX6) (N := 25) (ci := 6) (v := .ref (g 2)) 0 15 hin6 rfl mw_at0 (by decide) (by decide +kernel) rfl (q := 4) dX6_reach_1 rfl ?_
  refine v_iload_n F 2 (q := 5) dX6_reach_4 rfl rfl rfl ?_
  refine v_iald F (j := m) 2 mw_at2 rfl (by omega) (by decide) (q := 6) dX6_reach_5 rfl ?_
  have b_1 := hI.tall m
  refine v_iload_n F 1 (q := 7) dX6_reach_6 rfl rfl rfl ?_
  refine v_iload_n F 2 (q := 8) dX6_reach_7 rfl rfl rfl ?_
  refine v_callSi0 F (kX6_lean hst (k := k) (w := mw k g S Y) (f := f) hf (m := m) (by omega)) gX6_reach_X6_lean rfl hdX6_lean ⟨by decide, by decide⟩ rfl rfl (Nat.le_of_ble_eq_true rfl) ⟨(Nat.zero_le _), (Nat.zero_le _)⟩ (q := 11) dX6_reach_8 rfl ?_
  rintro a_2 _ ⟨rfl, ⟨h_2, hc_2⟩⟩
  have hq : a_2 = f m := by assumption
  refine v_imul F (q := 12) dX6_reach_11 rfl ?_
  refine v_bipush F (q := 14) dX6_reach_12 rfl rfl ?_
  have hb := mul_bd (hI.tall m).1 (hI.tall m).2 (hf m hm).1 (hf m hm).2
  rw [hq]
  refine v_idiv F (q := 15) (by omega) (by omega) dX6_reach_14 rfl ?_
  exact ret _ _ _ _ _ _ (Nat.zero_le _) (Nat.zero_le _) dX6_reach_15 (⟨rfl, rfl, (reach_bd hI (hf m hm)).1, (reach_bd hI (hf m hm)).2⟩)
theorem hdX6_top : yX6_top.cls = RX6 ∧ yX6_top.cls ≠ "java/lang/invoke/MethodHandle" ∧ yX6_top.cls ≠ "java/lang/invoke/VarHandle" ∧ (parseMethodDescriptor yX6_top.desc).map (fun d => d.parameters.length) = some 1 := by decide +kernel
set_option maxRecDepth 100000 in
set_option maxHeartbeats 4000000 in
theorem kX6_top {l : Launch} (hst : l.stackTraces = false) {k : Nat → ClassId} {g : Nat → Nat} {S Y : Nat → Nat → Int} (hI : Inv S) {f : Nat → Int} (hf : D9 f) : v_Ci l k yX6_top wsX6_top ({ frames := 3, cells := 0, slots := 0, locals := 63 } : Room) [.ref (g 0), VI (codeF f)] (mw k g S Y) (fun a u => u = mw k g S Y ∧ a = topF S f ∧ 0 ≤ a ∧ a ≤ 150) := by
  refine v_ofI (cc := cX6_top) (nL := 4) (by decide +kernel) rfl hst (Nat.le_of_ble_eq_true rfl) (fun _ _ _ => rfl) (fun XX F ret => ?_)
  have hin6 : ∀ w ∈ wsX60, w ∈ wsX6_top := by decide +kernel
  have b7 := hI.mc
  have b8 := hI.cc
  show V XX (mw k g S Y) 0 0 0 [(0, .ref (g 0)), (1, VI (codeF f))] []
  refine v_const F (q := 1) dX6_top_0 rfl ?_
  refine v_istore_n F (q := 2) [(2, VI 0), (0, .ref (g 0)), (1, VI (codeF f))] dX6_top_1 rfl (by decide) rfl rfl ?_
  refine v_const F (q := 3) dX6_top_2 rfl ?_
  refine v_istore_n F (q := 4) [(3, VI 0), (2, VI 0), (0, .ref (g 0)), (1, VI (codeF f))] dX6_top_3 rfl (by decide) rfl rfl ?_
  have L4_1 : ∀ (fu : Nat) (hi : Int) (i : Nat), ((i : Int) ≤ S 0 7 ∧ hi = mx 0 (stand S f) i) → (S 0 7 - i).toNat < fu → V XX (mw k g S Y) 0 0 4 [(3, VI ((i : Nat) : Int)), (2, VI hi), (0, .ref (g 0)), (1, VI (codeF f))] [] := by
    intro fu_4
    induction fu_4 with
    | zero => intros; omega
    | succ fu_4 ih_4 =>
      intro hi i hv hm_4
      obtain ⟨hv1, hv2⟩ := hv
      have hn := mx_le 0 (stand S f) i
      have hn2 := mx_ub 0 (stand S f) i 50 (by decide) (fun j hj => (stand_bd hI (hf j (by omega))).2)
      have hn3 := hI.sc 5 (by decide)
      refine v_iload_n F 0 (q := 5) dX6_top_4 rfl rfl rfl ?_
      refine v_aload_n F 2 (q := 6) dX6_top_5 rfl rfl rfl ?_
      refine v_get F (C := RX6) (T := TX6) (N := 25) (ci := 6) (v := VI (S 0 7)) 0 12 hin6 rfl mw_at0 (by decide) (by decide +kernel) rfl (q := 9) dX6_top_6 rfl ?_
      have b_2 := And.intro (hI.sc 7 (by decide)) (hI.1 0 7 (by omega)).2
      refine v_icmp_ge F (tgt := 29) (q := 12) (by omega) (by omega) dX6_top_9 rfl rfl (fun h_3 => ?_) (fun h_3 => ?_)
      · refine v_aload_n F 2 (q := 30) dX6_top_29 rfl rfl rfl ?_
        refine v_get F (C := RX6) (T := TX6) (N := 25) (ci := 6) (v := VI (S 0 5)) 0 6 hin6 rfl mw_at0 (by decide) (by decide +kernel) rfl (q := 33) dX6_top_30 rfl ?_
        have b_4 := And.intro (hI.sc 5 (by decide)) (hI.1 0 5 (by omega)).2
        refine v_iload_n F 1 (q := 34) dX6_top_33 rfl rfl rfl ?_
        refine v_iadd F (q := 35) dX6_top_34 rfl ?_
        exact ret _ _ _ _ _ _ (Nat.zero_le _) (Nat.zero_le _) dX6_top_35 (⟨rfl, by rw [hv2, show i = mcn S from by unfold mcn; omega]; rfl, by omega, by omega⟩)
      · refine v_iload_n F 1 (q := 13) dX6_top_12 rfl rfl rfl ?_
        refine v_aload_n F 2 (q := 14) dX6_top_13 rfl rfl rfl ?_
        refine v_iload_n F 3 (q := 15) dX6_top_14 rfl rfl rfl ?_
        refine v_iload_n F 0 (q := 16) dX6_top_15 rfl rfl rfl ?_
        refine v_callVi0 F (kX6_stands hst (k := k) (g := g) (S := S) (Y := Y) hI (f := f) hf (m := i) (by omega)) gX6_top_X6_stands rfl hdX6_stands ⟨by decide, by decide⟩ 0 mw_at0 rfl rfl rfl (Nat.le_of_ble_eq_true rfl) ⟨(Nat.zero_le _), (Nat.zero_le _)⟩ (q := 19) dX6_top_16 rfl ?_
        rintro a_5 _ ⟨rfl, ⟨h_5, hc_5⟩⟩
        refine v_max F (by omega) (by omega) (by decide +kernel) (by decide +kernel) (by decide +kernel) (by decide +kernel) ⟨by decide, Nat.le_of_ble_eq_true rfl⟩ ⟨(Nat.zero_le _), (Nat.zero_le _)⟩ (q := 22) dX6_top_19 rfl ?_
        refine v_istore_n F (q := 23) [(2, VI (max hi a_5)), (3, VI ((i : Nat) : Int)), (0, .ref (g 0)), (1, VI (codeF f))] dX6_top_22 rfl (by decide) rfl rfl ?_
        refine v_iinc F (q := 26) (z := ((i + 1 : Nat) : Int)) 1 [(3, VI ((i + 1 : Nat) : Int)), (2, VI (max hi a_5)), (0, .ref (g 0)), (1, VI (codeF f))] dX6_top_23 rfl (by decide) (by omega) rfl rfl ?_
        refine v_goto F (tgt := 4) dX6_top_26 rfl ?_
        exact ih_4 (max hi a_5) (i + 1) (by exact ⟨by omega, by rw [mx_s, ← hv2]; omega⟩) (by omega)
  exact L4_1 _ 0 0 (by exact ⟨by omega, rfl⟩) (Nat.lt_succ_self _)
theorem hdX6_end : yX6_end.cls = RX6 ∧ yX6_end.cls ≠ "java/lang/invoke/MethodHandle" ∧ yX6_end.cls ≠ "java/lang/invoke/VarHandle" ∧ (parseMethodDescriptor yX6_end.desc).map (fun d => d.parameters.length) = some 1 := by decide +kernel
set_option maxRecDepth 100000 in
set_option maxHeartbeats 4000000 in
theorem kX6_end {l : Launch} (hst : l.stackTraces = false) {k : Nat → ClassId} {g : Nat → Nat} {S Y : Nat → Nat → Int} (hI : Inv S) {f : Nat → Int} (hf : D9 f) : v_Ci l k yX6_end wsX6_end ({ frames := 3, cells := 0, slots := 0, locals := 63 } : Room) [.ref (g 0), VI (codeF f)] (mw k g S Y) (fun a u => u = mw k g S Y ∧ a = endF S f ∧ 0 ≤ a ∧ a ≤ 150) := by
  refine v_ofI (cc := cX6_end) (nL := 4) (by decide +kernel) rfl hst (Nat.le_of_ble_eq_true rfl) (fun _ _ _ => rfl) (fun XX F ret => ?_)
  have hin6 : ∀ w ∈ wsX60, w ∈ wsX6_end := by decide +kernel
  have b7 := hI.mc
  have b8 := hI.cc
  show V XX (mw k g S Y) 0 0 0 [(0, .ref (g 0)), (1, VI (codeF f))] []
  refine v_aload_n F 0 (q := 1) dX6_end_0 rfl rfl rfl ?_
  refine v_get F (C := RX6) (T := TX6) (N := 25) (ci := 6) (v := VI (S 0 4)) 0 5 hin6 rfl mw_at0 (by decide) (by decide +kernel) rfl (q := 4) dX6_end_1 rfl ?_
  have b_1 := And.intro (hI.sc 4 (by decide)) (hI.1 0 4 (by omega)).2
  refine v_istore_n F (q := 5) [(2, VI (S 0 4)), (0, .ref (g 0)), (1, VI (codeF f))] dX6_end_4 rfl (by decide) rfl rfl ?_
  refine v_const F (q := 6) dX6_end_5 rfl ?_
  refine v_istore_n F (q := 7) [(3, VI 0), (2, VI (S 0 4)), (0, .ref (g 0)), (1, VI (codeF f))] dX6_end_6 rfl (by decide) rfl rfl ?_
  have L7_2 : ∀ (fu : Nat) (en : Int) (i : Nat), ((i : Int) ≤ S 0 7 ∧ en = mx (S 0 4) (fun m => S 1 m + reachM S f m) i) → (S 0 7 - i).toNat < fu → V XX (mw k g S Y) 0 0 7 [(3, VI ((i : Nat) : Int)), (2, VI en), (0, .ref (g 0)), (1, VI (codeF f))] [] := by
    intro fu_7
    induction fu_7 with
    | zero => intros; omega
    | succ fu_7 ih_7 =>
      intro en i hv hm_7
      obtain ⟨hv1, hv2⟩ := hv
      have h04 := hI.1 0 4 (by omega)
      have h05 := hI.sc 4 (by omega)
      have hn := mx_le (S 0 4) (fun m => S 1 m + reachM S f m) i
      have hn2 := mx_ub (S 0 4) (fun m => S 1 m + reachM S f m) i 150 (by omega) (fun j hj => by have a1 := (reach_bd hI (hf j (by omega))).2; have b1 := (hI.1 1 j (by omega)).2; show S 1 j + reachM S f j ≤ 150; omega)
      refine v_iload_n F 0 (q := 8) dX6_end_7 rfl rfl rfl ?_
      refine v_aload_n F 2 (q := 9) dX6_end_8 rfl rfl rfl ?_
      refine v_get F (C := RX6) (T := TX6) (N := 25) (ci := 6) (v := VI (S 0 7)) 0 12 hin6 rfl mw_at0 (by decide) (by decide +kernel) rfl (q := 12) dX6_end_9 rfl ?_
      have b_3 := And.intro (hI.sc 7 (by decide)) (hI.1 0 7 (by omega)).2
      refine v_icmp_ge F (tgt := 39) (q := 15) (by omega) (by omega) dX6_end_12 rfl rfl (fun h_4 => ?_) (fun h_4 => ?_)
      · refine v_iload_n F 1 (q := 40) dX6_end_39 rfl rfl rfl ?_
        exact ret _ _ _ _ _ _ (Nat.zero_le _) (Nat.zero_le _) dX6_end_40 (⟨rfl, by rw [hv2, show i = mcn S from by unfold mcn; omega]; rfl, by omega, by omega⟩)
      · refine v_iload_n F 1 (q := 16) dX6_end_15 rfl rfl rfl ?_
        refine v_aload_n F 2 (q := 17) dX6_end_16 rfl rfl rfl ?_
        refine v_get F (C := RX6) (T := TX6) (N := 25) (ci := 6) (v := .ref (g 1)) 0 14 hin6 rfl mw_at0 (by decide) (by decide +kernel) rfl (q := 20) dX6_end_17 rfl ?_
        refine v_iload_n F 0 (q := 21) dX6_end_20 rfl rfl rfl ?_
        refine v_iald F (j := i) 1 mw_at1 rfl (by omega) (by decide) (q := 22) dX6_end_21 rfl ?_
        have b_5 := And.intro (hI.pos 1 i (by omega) (by omega)) (hI.1 1 i (by omega)).2
        refine v_aload_n F 2 (q := 23) dX6_end_22 rfl rfl rfl ?_
        refine v_iload_n F 3 (q := 24) dX6_end_23 rfl rfl rfl ?_
        refine v_iload_n F 0 (q := 25) dX6_end_24 rfl rfl rfl ?_
        refine v_callVi0 F (kX6_reach hst (k := k) (g := g) (S := S) (Y := Y) hI (f := f) hf (m := i) (by omega)) gX6_end_X6_reach rfl hdX6_reach ⟨by decide, by decide⟩ 0 mw_at0 rfl rfl rfl (Nat.le_of_ble_eq_true rfl) ⟨(Nat.zero_le _), (Nat.zero_le _)⟩ (q := 28) dX6_end_25 rfl ?_
        rintro a_6 _ ⟨rfl, ⟨h_6, hc_6⟩⟩
        refine v_iadd F (q := 29) dX6_end_28 rfl ?_
        refine v_max F (by omega) (by omega) (by decide +kernel) (by decide +kernel) (by decide +kernel) (by decide +kernel) ⟨by decide, Nat.le_of_ble_eq_true rfl⟩ ⟨(Nat.zero_le _), (Nat.zero_le _)⟩ (q := 32) dX6_end_29 rfl ?_
        refine v_istore_n F (q := 33) [(2, VI (max en ((S 1 i) + a_6))), (3, VI ((i : Nat) : Int)), (0, .ref (g 0)), (1, VI (codeF f))] dX6_end_32 rfl (by decide) rfl rfl ?_
        refine v_iinc F (q := 36) (z := ((i + 1 : Nat) : Int)) 1 [(3, VI ((i + 1 : Nat) : Int)), (2, VI (max en ((S 1 i) + a_6))), (0, .ref (g 0)), (1, VI (codeF f))] dX6_end_33 rfl (by decide) (by omega) rfl rfl ?_
        refine v_goto F (tgt := 7) dX6_end_36 rfl ?_
        exact ih_7 (max en ((S 1 i) + a_6)) (i + 1) (by exact ⟨by omega, by rw [mx_s, ← hv2]; omega⟩) (by omega)
  exact L7_2 _ (S 0 4) 0 (by exact ⟨by omega, rfl⟩) (Nat.lt_succ_self _)
theorem hdX6_breadth : yX6_breadth.cls = RX6 ∧ yX6_breadth.cls ≠ "java/lang/invoke/MethodHandle" ∧ yX6_breadth.cls ≠ "java/lang/invoke/VarHandle" ∧ (parseMethodDescriptor yX6_breadth.desc).map (fun d => d.parameters.length) = some 1 := by decide +kernel
set_option maxRecDepth 100000 in
set_option maxHeartbeats 4000000 in
theorem kX6_breadth {l : Launch} (hst : l.stackTraces = false) {k : Nat → ClassId} {g : Nat → Nat} {S Y : Nat → Nat → Int} (hI : Inv S) {f : Nat → Int} (hf : D9 f) : v_Ci l k yX6_breadth wsX6_breadth ({ frames := 2, cells := 0, slots := 0, locals := 41 } : Room) [.ref (g 0), VI (codeF f)] (mw k g S Y) (fun a u => u = mw k g S Y ∧ a = breF S f (mcn S) ∧ 1 ≤ a ∧ a ≤ 100) := by
  refine v_ofI (cc := cX6_breadth) (nL := 5) (by decide +kernel) rfl hst (Nat.le_of_ble_eq_true rfl) (fun _ _ _ => rfl) (fun XX F ret => ?_)
  have hin6 : ∀ w ∈ wsX60, w ∈ wsX6_breadth := by decide +kernel
  have b7 := hI.mc
  have b8 := hI.cc
  show V XX (mw k g S Y) 0 0 0 [(0, .ref (g 0)), (1, VI (codeF f))] []
  refine v_aload_n F 0 (q := 1) dX6_breadth_0 rfl rfl rfl ?_
  refine v_get F (C := RX6) (T := TX6) (N := 25) (ci := 6) (v := VI (S 0 6)) 0 7 hin6 rfl mw_at0 (by decide) (by decide +kernel) rfl (q := 4) dX6_breadth_1 rfl ?_
  have b_1 := And.intro (hI.sc 6 (by decide)) (hI.1 0 6 (by omega)).2
  refine v_istore_n F (q := 5) [(2, VI (S 0 6)), (0, .ref (g 0)), (1, VI (codeF f))] dX6_breadth_4 rfl (by decide) rfl rfl ?_
  refine v_const F (q := 6) dX6_breadth_5 rfl ?_
  refine v_istore_n F (q := 7) [(3, VI 0), (2, VI (S 0 6)), (0, .ref (g 0)), (1, VI (codeF f))] dX6_breadth_6 rfl (by decide) rfl rfl ?_
  have L7_2 : ∀ (fu : Nat) (br : Int) (i : Nat), ((i : Int) ≤ S 0 7 ∧ br = breF S f i) → (S 0 7 - i).toNat < fu → V XX (mw k g S Y) 0 0 7 [(3, VI ((i : Nat) : Int)), (2, VI br), (0, .ref (g 0)), (1, VI (codeF f))] [] := by
    intro fu_7
    induction fu_7 with
    | zero => intros; omega
    | succ fu_7 ih_7 =>
      intro br i hu hm_7
      obtain ⟨hu1, hu2⟩ := hu
      have hn := bre_bd hI f i
      refine v_iload_n F 0 (q := 8) dX6_breadth_7 rfl rfl rfl ?_
      refine v_aload_n F 2 (q := 9) dX6_breadth_8 rfl rfl rfl ?_
      refine v_get F (C := RX6) (T := TX6) (N := 25) (ci := 6) (v := VI (S 0 7)) 0 12 hin6 rfl mw_at0 (by decide) (by decide +kernel) rfl (q := 12) dX6_breadth_9 rfl ?_
      have b_3 := And.intro (hI.sc 7 (by decide)) (hI.1 0 7 (by omega)).2
      refine v_icmp_ge F (tgt := 67) (q := 15) (by omega) (by omega) dX6_breadth_12 rfl rfl (fun h_4 => ?_) (fun h_4 => ?_)
      · refine v_iload_n F 1 (q := 68) dX6_breadth_67 rfl rfl rfl ?_
        exact ret _ _ _ _ _ _ (Nat.zero_le _) (Nat.zero_le _) dX6_breadth_68 (⟨rfl, by rw [hu2, show i = mcn S from by unfold mcn; omega], by omega, by omega⟩)
      · refine v_const F (q := 16) dX6_breadth_15 rfl ?_
        refine v_istore F (q := 18) [(4, VI 0), (3, VI ((i : Nat) : Int)), (2, VI br), (0, .ref (g 0)), (1, VI (codeF f))] dX6_breadth_16 (by decide) rfl rfl ?_
        have L18_5 : ∀ (fu : Nat) (ms : Int) (j : Nat), ((j : Int) ≤ S 3 i ∧ (f i = 9 → j = 0) ∧ ms = max (breF S f i) (mx 0 (S (10 + i)) j)) → (S 3 i - j).toNat < fu → V XX (mw k g S Y) 0 0 18 [(4, VI ((j : Nat) : Int)), (3, VI ((i : Nat) : Int)), (2, VI ms), (0, .ref (g 0)), (1, VI (codeF f))] [] := by
          intro fu_18
          induction fu_18 with
          | zero => intros; omega
          | succ fu_18 ih_18 =>
            intro ms j hw hm_18
            obtain ⟨hw1, hw2, hw3⟩ := hw
            have hwb := wid_bd hI i j
            have hy := hI.yc i
            refine v_iload F 0 (q := 20) dX6_breadth_18 rfl rfl ?_
            refine v_aload_n F 3 (q := 21) dX6_breadth_20 rfl rfl rfl ?_
            refine v_get F (C := RX6) (T := TX6) (N := 25) (ci := 6) (v := .ref (g 3)) 0 16 hin6 rfl mw_at0 (by decide) (by decide +kernel) rfl (q := 24) dX6_breadth_21 rfl ?_
            refine v_iload_n F 1 (q := 25) dX6_breadth_24 rfl rfl rfl ?_
            refine v_iald F (j := i) 3 mw_at3 rfl (by omega) (by decide) (q := 26) dX6_breadth_25 rfl ?_
            have b_6 := hI.yc i
            refine v_icmp_ge F (tgt := 61) (q := 29) (by omega) (by omega) dX6_breadth_26 rfl rfl (fun h_7 => ?_) (fun h_7 => ?_)
            · refine v_iinc F (q := 64) (z := ((i + 1 : Nat) : Int)) 1 [(3, VI ((i + 1 : Nat) : Int)), (4, VI ((j : Nat) : Int)), (2, VI ms), (0, .ref (g 0)), (1, VI (codeF f))] dX6_breadth_61 rfl (by decide) (by omega) rfl rfl ?_
              refine v_goto F (tgt := 7) dX6_breadth_64 rfl ?_
              refine v_sub [0, 2, 3, 4] rfl ?_
              exact ih_7 ms (i + 1) (by exact ⟨by omega, (Decidable.em (f i = 9)).elim (fun e9 => by rw [bre_s, hw3, if_pos e9, hw2 e9, mx_0]; omega) (fun e9 => by rw [bre_s, hw3, if_neg e9]; unfold widest; rw [show (S 3 i).toNat = j from by have := hf i (by omega); have := hI.yc i; omega])⟩) (by omega)
            · refine v_iload_n F 4 (q := 30) dX6_breadth_29 rfl rfl rfl ?_
              refine v_iload_n F 1 (q := 31) dX6_breadth_30 rfl rfl rfl ?_
              refine v_callSi0 F (kX6_lean hst (k := k) (w := mw k g S Y) (f := f) hf (m := i) (by omega)) gX6_breadth_X6_lean rfl hdX6_lean ⟨by decide, by decide⟩ rfl rfl (Nat.le_of_ble_eq_true rfl) ⟨(Nat.zero_le _), (Nat.zero_le _)⟩ (q := 34) dX6_breadth_31 rfl ?_
              rintro a_8 _ ⟨rfl, ⟨h_8, hc_8⟩⟩
              refine v_bipush F (q := 36) dX6_breadth_34 rfl rfl ?_
              refine v_icmp_ge F (tgt := 61) (q := 39) (by omega) (by omega) dX6_breadth_36 rfl rfl (fun h_9 => ?_) (fun h_9 => ?_)
              · refine v_iinc F (q := 64) (z := ((i + 1 : Nat) : Int)) 1 [(3, VI ((i + 1 : Nat) : Int)), (4, VI ((j : Nat) : Int)), (2, VI ms), (0, .ref (g 0)), (1, VI (codeF f))] dX6_breadth_61 rfl (by decide) (by omega) rfl rfl ?_
                refine v_goto F (tgt := 7) dX6_breadth_64 rfl ?_
                refine v_sub [0, 2, 3, 4] rfl ?_
                exact ih_7 ms (i + 1) (by exact ⟨by omega, (Decidable.em (f i = 9)).elim (fun e9 => by rw [bre_s, hw3, if_pos e9, hw2 e9, mx_0]; omega) (fun e9 => by rw [bre_s, hw3, if_neg e9]; unfold widest; rw [show (S 3 i).toNat = j from by have := hf i (by omega); have := hI.yc i; omega])⟩) (by omega)
              · refine v_iload_n F 2 (q := 40) dX6_breadth_39 rfl rfl rfl ?_
                refine v_aload_n F 3 (q := 41) dX6_breadth_40 rfl rfl rfl ?_
                refine v_get F (C := RX6) (T := TX6) (N := 25) (ci := 6) (v := .ref (g 4)) 0 17 hin6 rfl mw_at0 (by decide) (by decide +kernel) rfl (q := 44) dX6_breadth_41 rfl ?_
                refine v_const F (q := 45) dX6_breadth_44 rfl ?_
                refine v_iload_n F 1 (q := 46) dX6_breadth_45 rfl rfl rfl ?_
                refine v_imul F (q := 47) dX6_breadth_46 rfl ?_
                refine v_iload F 0 (q := 49) dX6_breadth_47 rfl rfl ?_
                refine v_iadd F (q := 50) dX6_breadth_49 rfl ?_
                refine v_iald F (j := 3 * i + j) 4 mw_at4 (by omega) (by omega) (by decide) (q := 51) dX6_breadth_50 rfl ?_
                refine v_cast (b := S (10 + i) j) (wd_at S (by omega) (by omega)) ?_
                have b_10 := And.intro (hI.pos (10 + i) j (by omega) (by omega)) (hI.1 (10 + i) j (by omega)).2
                refine v_max F (by omega) (by omega) (by decide +kernel) (by decide +kernel) (by decide +kernel) (by decide +kernel) ⟨by decide, Nat.le_of_ble_eq_true rfl⟩ ⟨(Nat.zero_le _), (Nat.zero_le _)⟩ (q := 54) dX6_breadth_51 rfl ?_
                refine v_istore_n F (q := 55) [(2, VI (max ms (S (10 + i) j))), (4, VI ((j : Nat) : Int)), (3, VI ((i : Nat) : Int)), (0, .ref (g 0)), (1, VI (codeF f))] dX6_breadth_54 rfl (by decide) rfl rfl ?_
                refine v_iinc F (q := 58) (z := ((j + 1 : Nat) : Int)) 1 [(4, VI ((j + 1 : Nat) : Int)), (2, VI (max ms (S (10 + i) j))), (3, VI ((i : Nat) : Int)), (0, .ref (g 0)), (1, VI (codeF f))] dX6_breadth_55 rfl (by decide) (by omega) rfl rfl ?_
                refine v_goto F (tgt := 18) dX6_breadth_58 rfl ?_
                refine v_sub [0, 2, 1, 3, 4] rfl ?_
                exact ih_18 (max ms (S (10 + i) j)) (j + 1) (by refine ⟨by omega, fun e9 => by omega, ?_⟩; rw [mx_s, hw3]; omega) (by omega)
        exact L18_5 _ br 0 (by exact ⟨by have := hI.yc i; omega, fun _ => rfl, by rw [mx_0]; omega⟩) (Nat.lt_succ_self _)
  exact L7_2 _ (S 0 6) 0 (by exact ⟨by omega, rfl⟩) (Nat.lt_succ_self _)
theorem hdX6_goesThrough : yX6_goesThrough.cls = RX6 ∧ yX6_goesThrough.cls ≠ "java/lang/invoke/MethodHandle" ∧ yX6_goesThrough.cls ≠ "java/lang/invoke/VarHandle" ∧ (parseMethodDescriptor yX6_goesThrough.desc).map (fun d => d.parameters.length) = some 0 := by decide +kernel
set_option maxRecDepth 100000 in
set_option maxHeartbeats 4000000 in
theorem kX6_goesThrough {l : Launch} (hst : l.stackTraces = false) {k : Nat → ClassId} {g : Nat → Nat} {S Y : Nat → Nat → Int} (hI : Inv S) : v_Ci l k yX6_goesThrough wsX6_goesThrough ({ frames := 4, cells := 0, slots := 0, locals := 86 } : Room) [.ref (g 0)] (mw k g S Y) (fun a u => u = mw k g S Y ∧ vB (goesB S = true) a) := by
  refine v_ofI (cc := cX6_goesThrough) (nL := 1) (by decide +kernel) rfl hst (Nat.le_of_ble_eq_true rfl) (fun _ _ hp => vB_n hp.2) (fun XX F ret => ?_)
  have hin6 : ∀ w ∈ wsX60, w ∈ wsX6_goesThrough := by decide +kernel
  have b7 := hI.mc
  have b8 := hI.cc
  show V XX (mw k g S Y) 0 0 0 [(0, .ref (g 0))] []
  refine v_aload_n F 0 (q := 1) dX6_goesThrough_0 rfl rfl rfl ?_
  refine v_aload_n F 0 (q := 2) dX6_goesThrough_1 rfl rfl rfl ?_
  refine v_get F (C := RX6) (T := TX6) (N := 25) (ci := 6) (v := VI (codeF (S 4))) 0 13 hin6 rfl mw_at0 (by decide) (by decide +kernel) rfl (q := 5) dX6_goesThrough_2 rfl ?_
  refine v_callVi0 F (kX6_breadth hst (k := k) (g := g) (S := S) (Y := Y) hI (f := (S 4)) hI.lean3) gX6_goesThrough_X6_breadth rfl hdX6_breadth ⟨by decide, by decide⟩ 0 mw_at0 rfl rfl rfl (Nat.le_of_ble_eq_true rfl) ⟨(Nat.zero_le _), (Nat.zero_le _)⟩ (q := 8) dX6_goesThrough_5 rfl ?_
  rintro a_1 _ ⟨rfl, ⟨h_1, hc_1⟩⟩
  refine v_aload_n F 0 (q := 9) dX6_goesThrough_8 rfl rfl rfl ?_
  refine v_get F (C := RX6) (T := TX6) (N := 25) (ci := 6) (v := VI (S 0 0)) 0 1 hin6 rfl mw_at0 (by decide) (by decide +kernel) rfl (q := 12) dX6_goesThrough_9 rfl ?_
  have b_2 := And.intro (hI.sc 0 (by decide)) (hI.1 0 0 (by omega)).2
  refine v_icmp_gt F (tgt := 34) (q := 15) (by omega) (by omega) dX6_goesThrough_12 rfl rfl (fun h_3 => ?_) (fun h_3 => ?_)
  · refine v_const F (q := 35) dX6_goesThrough_34 rfl ?_
    exact ret _ _ _ _ _ _ (Nat.zero_le _) (Nat.zero_le _) dX6_goesThrough_35 (⟨rfl, vB_0 (by unfold goesB breN; simp only [Bool.and_eq_true, decide_eq_true_eq]; omega)⟩)
  · refine v_aload_n F 0 (q := 16) dX6_goesThrough_15 rfl rfl rfl ?_
    refine v_aload_n F 0 (q := 17) dX6_goesThrough_16 rfl rfl rfl ?_
    refine v_get F (C := RX6) (T := TX6) (N := 25) (ci := 6) (v := VI (codeF (S 4))) 0 13 hin6 rfl mw_at0 (by decide) (by decide +kernel) rfl (q := 20) dX6_goesThrough_17 rfl ?_
    refine v_callVi0 F (kX6_top hst (k := k) (g := g) (S := S) (Y := Y) hI (f := (S 4)) hI.lean3) gX6_goesThrough_X6_top rfl hdX6_top ⟨by decide, by decide⟩ 0 mw_at0 rfl rfl rfl (Nat.le_of_ble_eq_true rfl) ⟨(Nat.zero_le _), (Nat.zero_le _)⟩ (q := 23) dX6_goesThrough_20 rfl ?_
    rintro a_4 _ ⟨rfl, ⟨h_4, hc_4⟩⟩
    refine v_aload_n F 0 (q := 24) dX6_goesThrough_23 rfl rfl rfl ?_
    refine v_get F (C := RX6) (T := TX6) (N := 25) (ci := 6) (v := VI (S 0 0)) 0 1 hin6 rfl mw_at0 (by decide) (by decide +kernel) rfl (q := 27) dX6_goesThrough_24 rfl ?_
    have b_5 := And.intro (hI.sc 0 (by decide)) (hI.1 0 0 (by omega)).2
    refine v_icmp_gt F (tgt := 34) (q := 30) (by omega) (by omega) dX6_goesThrough_27 rfl rfl (fun h_6 => ?_) (fun h_6 => ?_)
    · refine v_const F (q := 35) dX6_goesThrough_34 rfl ?_
      exact ret _ _ _ _ _ _ (Nat.zero_le _) (Nat.zero_le _) dX6_goesThrough_35 (⟨rfl, vB_0 (by unfold goesB breN; simp only [Bool.and_eq_true, decide_eq_true_eq]; omega)⟩)
    · refine v_const F (q := 31) dX6_goesThrough_30 rfl ?_
      refine v_goto F (tgt := 35) dX6_goesThrough_31 rfl ?_
      exact ret _ _ _ _ _ _ (Nat.zero_le _) (Nat.zero_le _) dX6_goesThrough_35 (⟨rfl, vB_1 (by unfold goesB breN; simp only [Bool.and_eq_true, decide_eq_true_eq]; omega)⟩)
theorem hdX6_fits : yX6_fits.cls = RX6 ∧ yX6_fits.cls ≠ "java/lang/invoke/MethodHandle" ∧ yX6_fits.cls ≠ "java/lang/invoke/VarHandle" ∧ (parseMethodDescriptor yX6_fits.desc).map (fun d => d.parameters.length) = some 1 := by decide +kernel
set_option maxRecDepth 100000 in
set_option maxHeartbeats 4000000 in
theorem kX6_fits {l : Launch} (hst : l.stackTraces = false) {k : Nat → ClassId} {g : Nat → Nat} {S Y : Nat → Nat → Int} (hI : Inv S) {f : Nat → Int} (hf : D9 f) : v_Ci l k yX6_fits wsX6_fits ({ frames := 4, cells := 0, slots := 0, locals := 86 } : Room) [.ref (g 0), VI (codeF f)] (mw k g S Y) (fun a u => u = mw k g S Y ∧ vB (fitsB S f = true) a) := by
  refine v_ofI (cc := cX6_fits) (nL := 2) (by decide +kernel) rfl hst (Nat.le_of_ble_eq_true rfl) (fun _ _ hp => vB_n hp.2) (fun XX F ret => ?_)
  have hin6 : ∀ w ∈ wsX60, w ∈ wsX6_fits := by decide +kernel
  have b7 := hI.mc
  have b8 := hI.cc
  show V XX (mw k g S Y) 0 0 0 [(0, .ref (g 0)), (1, VI (codeF f))] []
  refine v_aload_n F 0 (q := 1) dX6_fits_0 rfl rfl rfl ?_
  refine v_iload_n F 1 (q := 2) dX6_fits_1 rfl rfl rfl ?_
  refine v_callVi0 F (kX6_end hst (k := k) (g := g) (S := S) (Y := Y) hI (f := f) hf) gX6_fits_X6_end rfl hdX6_end ⟨by decide, by decide⟩ 0 mw_at0 rfl rfl rfl (Nat.le_of_ble_eq_true rfl) ⟨(Nat.zero_le _), (Nat.zero_le _)⟩ (q := 5) dX6_fits_2 rfl ?_
  rintro a_1 _ ⟨rfl, ⟨h_1, hc_1⟩⟩
  refine v_aload_n F 0 (q := 6) dX6_fits_5 rfl rfl rfl ?_
  refine v_get F (C := RX6) (T := TX6) (N := 25) (ci := 6) (v := VI (S 0 2)) 0 3 hin6 rfl mw_at0 (by decide) (by decide +kernel) rfl (q := 9) dX6_fits_6 rfl ?_
  have b_2 := And.intro (hI.sc 2 (by decide)) (hI.1 0 2 (by omega)).2
  refine v_icmp_gt F (tgt := 33) (q := 12) (by omega) (by omega) dX6_fits_9 rfl rfl (fun h_3 => ?_) (fun h_3 => ?_)
  · refine v_const F (q := 34) dX6_fits_33 rfl ?_
    exact ret _ _ _ _ _ _ (Nat.zero_le _) (Nat.zero_le _) dX6_fits_34 (⟨rfl, vB_0 (by unfold fitsB; simp only [Bool.and_eq_true, decide_eq_true_eq]; omega)⟩)
  · refine v_aload_n F 0 (q := 13) dX6_fits_12 rfl rfl rfl ?_
    refine v_iload_n F 1 (q := 14) dX6_fits_13 rfl rfl rfl ?_
    refine v_callVi0 F (kX6_top hst (k := k) (g := g) (S := S) (Y := Y) hI (f := f) hf) gX6_fits_X6_top rfl hdX6_top ⟨by decide, by decide⟩ 0 mw_at0 rfl rfl rfl (Nat.le_of_ble_eq_true rfl) ⟨(Nat.zero_le _), (Nat.zero_le _)⟩ (q := 17) dX6_fits_14 rfl ?_
    rintro a_4 _ ⟨rfl, ⟨h_4, hc_4⟩⟩
    refine v_aload_n F 0 (q := 18) dX6_fits_17 rfl rfl rfl ?_
    refine v_get F (C := RX6) (T := TX6) (N := 25) (ci := 6) (v := VI (S 0 3)) 0 4 hin6 rfl mw_at0 (by decide) (by decide +kernel) rfl (q := 21) dX6_fits_18 rfl ?_
    have b_5 := And.intro (hI.sc 3 (by decide)) (hI.1 0 3 (by omega)).2
    refine v_iadd F (q := 22) dX6_fits_21 rfl ?_
    refine v_aload_n F 0 (q := 23) dX6_fits_22 rfl rfl rfl ?_
    refine v_get F (C := RX6) (T := TX6) (N := 25) (ci := 6) (v := VI (S 0 1)) 0 2 hin6 rfl mw_at0 (by decide) (by decide +kernel) rfl (q := 26) dX6_fits_23 rfl ?_
    have b_6 := And.intro (hI.sc 1 (by decide)) (hI.1 0 1 (by omega)).2
    refine v_icmp_gt F (tgt := 33) (q := 29) (by omega) (by omega) dX6_fits_26 rfl rfl (fun h_7 => ?_) (fun h_7 => ?_)
    · refine v_const F (q := 34) dX6_fits_33 rfl ?_
      exact ret _ _ _ _ _ _ (Nat.zero_le _) (Nat.zero_le _) dX6_fits_34 (⟨rfl, vB_0 (by unfold fitsB; simp only [Bool.and_eq_true, decide_eq_true_eq]; omega)⟩)
    · refine v_const F (q := 30) dX6_fits_29 rfl ?_
      refine v_goto F (tgt := 34) dX6_fits_30 rfl ?_
      exact ret _ _ _ _ _ _ (Nat.zero_le _) (Nat.zero_le _) dX6_fits_34 (⟨rfl, vB_1 (by unfold fitsB; simp only [Bool.and_eq_true, decide_eq_true_eq]; omega)⟩)
theorem hdX6_isHeld : yX6_isHeld.cls = RX6 ∧ yX6_isHeld.cls ≠ "java/lang/invoke/MethodHandle" ∧ yX6_isHeld.cls ≠ "java/lang/invoke/VarHandle" ∧ (parseMethodDescriptor yX6_isHeld.desc).map (fun d => d.parameters.length) = some 1 := by decide +kernel
set_option maxRecDepth 100000 in
set_option maxHeartbeats 4000000 in
theorem kX6_isHeld {l : Launch} (hst : l.stackTraces = false) {k : Nat → ClassId} {g : Nat → Nat} {S Y : Nat → Nat → Int} (hI : Inv S) {a0 : Int} (g0 : R32 a0) : v_Ci l k yX6_isHeld wsX6_isHeld ({ frames := 0, cells := 0, slots := 0, locals := 0 } : Room) [.ref (g 0), VI a0] (mw k g S Y) (fun a u => u = mw k g S Y ∧ vB (heldB S a0 = true) a) := by
  refine v_ofI (cc := cX6_isHeld) (nL := 3) (by decide +kernel) rfl hst (Nat.le_of_ble_eq_true rfl) (fun _ _ hp => vB_n hp.2) (fun XX F ret => ?_)
  have hin6 : ∀ w ∈ wsX60, w ∈ wsX6_isHeld := by decide +kernel
  have b7 := hI.mc
  have b8 := hI.cc
  show V XX (mw k g S Y) 0 0 0 [(0, .ref (g 0)), (1, VI a0)] []
  refine v_const F (q := 1) dX6_isHeld_0 rfl ?_
  refine v_istore_n F (q := 2) [(2, VI 0), (0, .ref (g 0)), (1, VI a0)] dX6_isHeld_1 rfl (by decide) rfl rfl ?_
  have L2_1 : ∀ (fu : Nat) (i : Nat), ((i : Int) ≤ S 0 8 ∧ ∀ j : Nat, j < i → ¬ onT S a0 1 j = true) → (S 0 8 - i).toNat < fu → V XX (mw k g S Y) 0 0 2 [(2, VI ((i : Nat) : Int)), (0, .ref (g 0)), (1, VI a0)] [] := by
    intro fu_2
    induction fu_2 with
    | zero => intros; omega
    | succ fu_2 ih_2 =>
      intro i hv hm_2
      obtain ⟨hv1, hv2⟩ := hv
      refine v_iload_n F 0 (q := 3) dX6_isHeld_2 rfl rfl rfl ?_
      refine v_aload_n F 1 (q := 4) dX6_isHeld_3 rfl rfl rfl ?_
      refine v_get F (C := RX6) (T := TX6) (N := 25) (ci := 6) (v := VI (S 0 8)) 0 18 hin6 rfl mw_at0 (by decide) (by decide +kernel) rfl (q := 7) dX6_isHeld_4 rfl ?_
      have b_2 := And.intro (hI.sc 8 (by decide)) (hI.1 0 8 (by omega)).2
      refine v_icmp_ge F (tgt := 38) (q := 10) (by omega) (by omega) dX6_isHeld_7 rfl rfl (fun h_3 => ?_) (fun h_3 => ?_)
      · refine v_const F (q := 39) dX6_isHeld_38 rfl ?_
        exact ret _ _ _ _ _ _ (Nat.zero_le _) (Nat.zero_le _) dX6_isHeld_39 (⟨rfl, vB_0 (fun h => by obtain ⟨j, hj1, hj2⟩ := (cnt_pos _ _).mp (of_decide_eq_true h); exact hv2 j (by unfold tcn at hj1; omega) hj2)⟩)
      · refine v_aload_n F 1 (q := 11) dX6_isHeld_10 rfl rfl rfl ?_
        refine v_get F (C := RX6) (T := TX6) (N := 25) (ci := 6) (v := .ref (g 5)) 0 19 hin6 rfl mw_at0 (by decide) (by decide +kernel) rfl (q := 14) dX6_isHeld_11 rfl ?_
        refine v_iload_n F 0 (q := 15) dX6_isHeld_14 rfl rfl rfl ?_
        refine v_iald F (j := i) 5 mw_at5 rfl (by omega) (by decide) (q := 16) dX6_isHeld_15 rfl ?_
        have b_4 := hI.th i
        refine v_iload_n F 2 (q := 17) dX6_isHeld_16 rfl rfl rfl ?_
        refine v_icmp_ne F (tgt := 32) (q := 20) (by omega) (by omega) dX6_isHeld_17 rfl rfl (fun h_5 => ?_) (fun h_5 => ?_)
        · refine v_iinc F (q := 35) (z := ((i + 1 : Nat) : Int)) 0 [(2, VI ((i + 1 : Nat) : Int)), (0, .ref (g 0)), (1, VI a0)] dX6_isHeld_32 rfl (by decide) (by omega) rfl rfl ?_
          refine v_goto F (tgt := 2) dX6_isHeld_35 rfl ?_
          exact ih_2 (i + 1) (by exact ⟨by omega, fun j hj => (Nat.lt_or_ge j i).elim (fun q => hv2 j q) (fun q => by obtain rfl : j = i := (by omega); unfold onT; simp only [Bool.and_eq_true, decide_eq_true_eq]; omega)⟩) (by omega)
        · refine v_aload_n F 1 (q := 21) dX6_isHeld_20 rfl rfl rfl ?_
          refine v_get F (C := RX6) (T := TX6) (N := 25) (ci := 6) (v := .ref (g 8)) 0 22 hin6 rfl mw_at0 (by decide) (by decide +kernel) rfl (q := 24) dX6_isHeld_21 rfl ?_
          refine v_iload_n F 0 (q := 25) dX6_isHeld_24 rfl rfl rfl ?_
          refine v_iald F (j := i) 8 mw_at8 rfl (by omega) (by decide) (q := 26) dX6_isHeld_25 rfl ?_
          have b_6 := hI.st i
          refine v_const F (q := 27) dX6_isHeld_26 rfl ?_
          refine v_icmp_ne F (tgt := 32) (q := 30) (by omega) (by omega) dX6_isHeld_27 rfl rfl (fun h_7 => ?_) (fun h_7 => ?_)
          · refine v_iinc F (q := 35) (z := ((i + 1 : Nat) : Int)) 0 [(2, VI ((i + 1 : Nat) : Int)), (0, .ref (g 0)), (1, VI a0)] dX6_isHeld_32 rfl (by decide) (by omega) rfl rfl ?_
            refine v_goto F (tgt := 2) dX6_isHeld_35 rfl ?_
            exact ih_2 (i + 1) (by exact ⟨by omega, fun j hj => (Nat.lt_or_ge j i).elim (fun q => hv2 j q) (fun q => by obtain rfl : j = i := (by omega); unfold onT; simp only [Bool.and_eq_true, decide_eq_true_eq]; omega)⟩) (by omega)
          · refine v_const F (q := 31) dX6_isHeld_30 rfl ?_
            exact ret _ _ _ _ _ _ (Nat.zero_le _) (Nat.zero_le _) dX6_isHeld_31 (⟨rfl, vB_1 (decide_eq_true ((cnt_pos _ _).mpr ⟨i, by unfold tcn; omega, by unfold onT; simp only [Bool.and_eq_true, decide_eq_true_eq]; omega⟩))⟩)
  exact L2_1 _ 0 (by exact ⟨by omega, fun j hj => absurd hj (Nat.not_lt_zero j)⟩) (Nat.lt_succ_self _)
theorem hdX6_loose : yX6_loose.cls = RX6 ∧ yX6_loose.cls ≠ "java/lang/invoke/MethodHandle" ∧ yX6_loose.cls ≠ "java/lang/invoke/VarHandle" ∧ (parseMethodDescriptor yX6_loose.desc).map (fun d => d.parameters.length) = some 1 := by decide +kernel
set_option maxRecDepth 100000 in
set_option maxHeartbeats 4000000 in
theorem kX6_loose {l : Launch} (hst : l.stackTraces = false) {k : Nat → ClassId} {g : Nat → Nat} {S Y : Nat → Nat → Int} (hI : Inv S) {a0 : Int} (g0 : R32 a0) : v_Ci l k yX6_loose wsX6_loose ({ frames := 0, cells := 0, slots := 0, locals := 0 } : Room) [.ref (g 0), VI a0] (mw k g S Y) (fun a u => u = mw k g S Y ∧ a = looseN S a0 ∧ 0 ≤ a ∧ a ≤ 8) := by
  refine v_ofI (cc := cX6_loose) (nL := 4) (by decide +kernel) rfl hst (Nat.le_of_ble_eq_true rfl) (fun _ _ _ => rfl) (fun XX F ret => ?_)
  have hin6 : ∀ w ∈ wsX60, w ∈ wsX6_loose := by decide +kernel
  have b7 := hI.mc
  have b8 := hI.cc
  show V XX (mw k g S Y) 0 0 0 [(0, .ref (g 0)), (1, VI a0)] []
  refine v_const F (q := 1) dX6_loose_0 rfl ?_
  refine v_istore_n F (q := 2) [(2, VI 0), (0, .ref (g 0)), (1, VI a0)] dX6_loose_1 rfl (by decide) rfl rfl ?_
  refine v_const F (q := 3) dX6_loose_2 rfl ?_
  refine v_istore_n F (q := 4) [(3, VI 0), (2, VI 0), (0, .ref (g 0)), (1, VI a0)] dX6_loose_3 rfl (by decide) rfl rfl ?_
  have L4_1 : ∀ (fu : Nat) (many : Int) (i : Nat), ((i : Int) ≤ S 0 8 ∧ many = cnt (onT S a0 0) i) → (S 0 8 - i).toNat < fu → V XX (mw k g S Y) 0 0 4 [(3, VI ((i : Nat) : Int)), (2, VI many), (0, .ref (g 0)), (1, VI a0)] [] := by
    intro fu_4
    induction fu_4 with
    | zero => intros; omega
    | succ fu_4 ih_4 =>
      intro many i hv hm_4
      obtain ⟨hv1, hv2⟩ := hv
      have hn := cnt_nn (onT S a0 0) i
      refine v_iload_n F 0 (q := 5) dX6_loose_4 rfl rfl rfl ?_
      refine v_aload_n F 2 (q := 6) dX6_loose_5 rfl rfl rfl ?_
      refine v_get F (C := RX6) (T := TX6) (N := 25) (ci := 6) (v := VI (S 0 8)) 0 18 hin6 rfl mw_at0 (by decide) (by decide +kernel) rfl (q := 9) dX6_loose_6 rfl ?_
      have b_2 := And.intro (hI.sc 8 (by decide)) (hI.1 0 8 (by omega)).2
      refine v_icmp_ge F (tgt := 45) (q := 12) (by omega) (by omega) dX6_loose_9 rfl rfl (fun h_3 => ?_) (fun h_3 => ?_)
      · refine v_iload_n F 1 (q := 46) dX6_loose_45 rfl rfl rfl ?_
        exact ret _ _ _ _ _ _ (Nat.zero_le _) (Nat.zero_le _) dX6_loose_46 (⟨rfl, by rw [hv2, show i = tcn S from by unfold tcn; omega]; rfl, by omega, by omega⟩)
      · refine v_iload_n F 1 (q := 13) dX6_loose_12 rfl rfl rfl ?_
        refine v_aload_n F 2 (q := 14) dX6_loose_13 rfl rfl rfl ?_
        refine v_get F (C := RX6) (T := TX6) (N := 25) (ci := 6) (v := .ref (g 5)) 0 19 hin6 rfl mw_at0 (by decide) (by decide +kernel) rfl (q := 17) dX6_loose_14 rfl ?_
        refine v_iload_n F 0 (q := 18) dX6_loose_17 rfl rfl rfl ?_
        refine v_iald F (j := i) 5 mw_at5 rfl (by omega) (by decide) (q := 19) dX6_loose_18 rfl ?_
        have b_4 := hI.th i
        refine v_iload_n F 3 (q := 20) dX6_loose_19 rfl rfl rfl ?_
        refine v_icmp_ne F (tgt := 36) (q := 23) (by omega) (by omega) dX6_loose_20 rfl rfl (fun h_5 => ?_) (fun h_5 => ?_)
        · refine v_const F (q := 37) dX6_loose_36 rfl ?_
          refine v_iadd F (q := 38) dX6_loose_37 rfl ?_
          refine v_istore_n F (q := 39) [(2, VI (many + 0)), (3, VI ((i : Nat) : Int)), (0, .ref (g 0)), (1, VI a0)] dX6_loose_38 rfl (by decide) rfl rfl ?_
          refine v_iinc F (q := 42) (z := ((i + 1 : Nat) : Int)) 1 [(3, VI ((i + 1 : Nat) : Int)), (2, VI (many + 0)), (0, .ref (g 0)), (1, VI a0)] dX6_loose_39 rfl (by decide) (by omega) rfl rfl ?_
          refine v_goto F (tgt := 4) dX6_loose_42 rfl ?_
          exact ih_4 (many + 0) (i + 1) (by refine ⟨by omega, ?_⟩; rw [cnt_s, ← hv2]; simp [onT, crossB, *]) (by omega)
        · refine v_aload_n F 2 (q := 24) dX6_loose_23 rfl rfl rfl ?_
          refine v_get F (C := RX6) (T := TX6) (N := 25) (ci := 6) (v := .ref (g 8)) 0 22 hin6 rfl mw_at0 (by decide) (by decide +kernel) rfl (q := 27) dX6_loose_24 rfl ?_
          refine v_iload_n F 0 (q := 28) dX6_loose_27 rfl rfl rfl ?_
          refine v_iald F (j := i) 8 mw_at8 rfl (by omega) (by decide) (q := 29) dX6_loose_28 rfl ?_
          have b_6 := hI.st i
          refine v_if_ne F (tgt := 36) (q := 32) (by omega) dX6_loose_29 rfl rfl (fun h_7 => ?_) (fun h_7 => ?_)
          · refine v_const F (q := 37) dX6_loose_36 rfl ?_
            refine v_iadd F (q := 38) dX6_loose_37 rfl ?_
            refine v_istore_n F (q := 39) [(2, VI (many + 0)), (3, VI ((i : Nat) : Int)), (0, .ref (g 0)), (1, VI a0)] dX6_loose_38 rfl (by decide) rfl rfl ?_
            refine v_iinc F (q := 42) (z := ((i + 1 : Nat) : Int)) 1 [(3, VI ((i + 1 : Nat) : Int)), (2, VI (many + 0)), (0, .ref (g 0)), (1, VI a0)] dX6_loose_39 rfl (by decide) (by omega) rfl rfl ?_
            refine v_goto F (tgt := 4) dX6_loose_42 rfl ?_
            exact ih_4 (many + 0) (i + 1) (by refine ⟨by omega, ?_⟩; rw [cnt_s, ← hv2]; simp [onT, crossB, *]) (by omega)
          · refine v_const F (q := 33) dX6_loose_32 rfl ?_
            refine v_goto F (tgt := 37) dX6_loose_33 rfl ?_
            refine v_iadd F (q := 38) dX6_loose_37 rfl ?_
            refine v_istore_n F (q := 39) [(2, VI (many + 1)), (3, VI ((i : Nat) : Int)), (0, .ref (g 0)), (1, VI a0)] dX6_loose_38 rfl (by decide) rfl rfl ?_
            refine v_iinc F (q := 42) (z := ((i + 1 : Nat) : Int)) 1 [(3, VI ((i + 1 : Nat) : Int)), (2, VI (many + 1)), (0, .ref (g 0)), (1, VI a0)] dX6_loose_39 rfl (by decide) (by omega) rfl rfl ?_
            refine v_goto F (tgt := 4) dX6_loose_42 rfl ?_
            exact ih_4 (many + 1) (i + 1) (by refine ⟨by omega, ?_⟩; rw [cnt_s, ← hv2]; simp [onT, crossB, *]) (by omega)
  exact L4_1 _ 0 0 (by exact ⟨by omega, rfl⟩) (Nat.lt_succ_self _)
theorem hdX6_leads : yX6_leads.cls = RX6 ∧ yX6_leads.cls ≠ "java/lang/invoke/MethodHandle" ∧ yX6_leads.cls ≠ "java/lang/invoke/VarHandle" ∧ (parseMethodDescriptor yX6_leads.desc).map (fun d => d.parameters.length) = some 2 := by decide +kernel
set_option maxRecDepth 100000 in
set_option maxHeartbeats 4000000 in
theorem kX6_leads {l : Launch} (hst : l.stackTraces = false) {k : Nat → ClassId} {g : Nat → Nat} {S Y : Nat → Nat → Int} (hI : Inv S) {a0 a1 : Int} (g0 : R32 a0) (g1 : R32 a1) : v_Ci l k yX6_leads wsX6_leads ({ frames := 0, cells := 0, slots := 0, locals := 0 } : Room) [.ref (g 0), VI a0, VI a1] (mw k g S Y) (fun a u => u = mw k g S Y ∧ vB (leadB S a0 a1 = true) a) := by
  refine v_ofI (cc := cX6_leads) (nL := 4) (by decide +kernel) rfl hst (Nat.le_of_ble_eq_true rfl) (fun _ _ hp => vB_n hp.2) (fun XX F ret => ?_)
  have hin6 : ∀ w ∈ wsX60, w ∈ wsX6_leads := by decide +kernel
  have b7 := hI.mc
  have b8 := hI.cc
  show V XX (mw k g S Y) 0 0 0 [(0, .ref (g 0)), (1, VI a0), (2, VI a1)] []
  refine v_const F (q := 1) dX6_leads_0 rfl ?_
  refine v_istore_n F (q := 2) [(3, VI 0), (0, .ref (g 0)), (1, VI a0), (2, VI a1)] dX6_leads_1 rfl (by decide) rfl rfl ?_
  have L2_1 : ∀ (fu : Nat) (i : Nat), ((i : Int) ≤ S 0 8 ∧ ∀ j : Nat, j < i → ¬ leadT S a0 a1 j = true) → (S 0 8 - i).toNat < fu → V XX (mw k g S Y) 0 0 2 [(3, VI ((i : Nat) : Int)), (0, .ref (g 0)), (1, VI a0), (2, VI a1)] [] := by
    intro fu_2
    induction fu_2 with
    | zero => intros; omega
    | succ fu_2 ih_2 =>
      intro i hv hm_2
      obtain ⟨hv1, hv2⟩ := hv
      refine v_iload_n F 0 (q := 3) dX6_leads_2 rfl rfl rfl ?_
      refine v_aload_n F 1 (q := 4) dX6_leads_3 rfl rfl rfl ?_
      refine v_get F (C := RX6) (T := TX6) (N := 25) (ci := 6) (v := VI (S 0 8)) 0 18 hin6 rfl mw_at0 (by decide) (by decide +kernel) rfl (q := 7) dX6_leads_4 rfl ?_
      have b_2 := And.intro (hI.sc 8 (by decide)) (hI.1 0 8 (by omega)).2
      refine v_icmp_ge F (tgt := 47) (q := 10) (by omega) (by omega) dX6_leads_7 rfl rfl (fun h_3 => ?_) (fun h_3 => ?_)
      · refine v_const F (q := 48) dX6_leads_47 rfl ?_
        exact ret _ _ _ _ _ _ (Nat.zero_le _) (Nat.zero_le _) dX6_leads_48 (⟨rfl, vB_0 (fun h => by obtain ⟨j, hj1, hj2⟩ := (cnt_pos _ _).mp (of_decide_eq_true h); exact hv2 j (by unfold tcn at hj1; omega) hj2)⟩)
      · refine v_aload_n F 1 (q := 11) dX6_leads_10 rfl rfl rfl ?_
        refine v_get F (C := RX6) (T := TX6) (N := 25) (ci := 6) (v := .ref (g 5)) 0 19 hin6 rfl mw_at0 (by decide) (by decide +kernel) rfl (q := 14) dX6_leads_11 rfl ?_
        refine v_iload_n F 0 (q := 15) dX6_leads_14 rfl rfl rfl ?_
        refine v_iald F (j := i) 5 mw_at5 rfl (by omega) (by decide) (q := 16) dX6_leads_15 rfl ?_
        have b_4 := hI.th i
        refine v_iload_n F 2 (q := 17) dX6_leads_16 rfl rfl rfl ?_
        refine v_icmp_ne F (tgt := 41) (q := 20) (by omega) (by omega) dX6_leads_17 rfl rfl (fun h_5 => ?_) (fun h_5 => ?_)
        · refine v_iinc F (q := 44) (z := ((i + 1 : Nat) : Int)) 0 [(3, VI ((i + 1 : Nat) : Int)), (0, .ref (g 0)), (1, VI a0), (2, VI a1)] dX6_leads_41 rfl (by decide) (by omega) rfl rfl ?_
          refine v_goto F (tgt := 2) dX6_leads_44 rfl ?_
          exact ih_2 (i + 1) (by exact ⟨by omega, fun j hj => (Nat.lt_or_ge j i).elim (fun q => hv2 j q) (fun q => by obtain rfl : j = i := (by omega); unfold leadT; simp only [Bool.and_eq_true, decide_eq_true_eq]; omega)⟩) (by omega)
        · refine v_aload_n F 1 (q := 21) dX6_leads_20 rfl rfl rfl ?_
          refine v_get F (C := RX6) (T := TX6) (N := 25) (ci := 6) (v := .ref (g 6)) 0 20 hin6 rfl mw_at0 (by decide) (by decide +kernel) rfl (q := 24) dX6_leads_21 rfl ?_
          refine v_iload_n F 0 (q := 25) dX6_leads_24 rfl rfl rfl ?_
          refine v_iald F (j := i) 6 mw_at6 rfl (by omega) (by decide) (q := 26) dX6_leads_25 rfl ?_
          have b_6 := hI.1 6 i (by omega)
          refine v_iload_n F 3 (q := 27) dX6_leads_26 rfl rfl rfl ?_
          refine v_icmp_ne F (tgt := 41) (q := 30) (by omega) (by omega) dX6_leads_27 rfl rfl (fun h_7 => ?_) (fun h_7 => ?_)
          · refine v_iinc F (q := 44) (z := ((i + 1 : Nat) : Int)) 0 [(3, VI ((i + 1 : Nat) : Int)), (0, .ref (g 0)), (1, VI a0), (2, VI a1)] dX6_leads_41 rfl (by decide) (by omega) rfl rfl ?_
            refine v_goto F (tgt := 2) dX6_leads_44 rfl ?_
            exact ih_2 (i + 1) (by exact ⟨by omega, fun j hj => (Nat.lt_or_ge j i).elim (fun q => hv2 j q) (fun q => by obtain rfl : j = i := (by omega); unfold leadT; simp only [Bool.and_eq_true, decide_eq_true_eq]; omega)⟩) (by omega)
          · refine v_aload_n F 1 (q := 31) dX6_leads_30 rfl rfl rfl ?_
            refine v_get F (C := RX6) (T := TX6) (N := 25) (ci := 6) (v := .ref (g 8)) 0 22 hin6 rfl mw_at0 (by decide) (by decide +kernel) rfl (q := 34) dX6_leads_31 rfl ?_
            refine v_iload_n F 0 (q := 35) dX6_leads_34 rfl rfl rfl ?_
            refine v_iald F (j := i) 8 mw_at8 rfl (by omega) (by decide) (q := 36) dX6_leads_35 rfl ?_
            have b_8 := hI.st i
            refine v_if_ne F (tgt := 41) (q := 39) (by omega) dX6_leads_36 rfl rfl (fun h_9 => ?_) (fun h_9 => ?_)
            · refine v_iinc F (q := 44) (z := ((i + 1 : Nat) : Int)) 0 [(3, VI ((i + 1 : Nat) : Int)), (0, .ref (g 0)), (1, VI a0), (2, VI a1)] dX6_leads_41 rfl (by decide) (by omega) rfl rfl ?_
              refine v_goto F (tgt := 2) dX6_leads_44 rfl ?_
              exact ih_2 (i + 1) (by exact ⟨by omega, fun j hj => (Nat.lt_or_ge j i).elim (fun q => hv2 j q) (fun q => by obtain rfl : j = i := (by omega); unfold leadT; simp only [Bool.and_eq_true, decide_eq_true_eq]; omega)⟩) (by omega)
            · refine v_const F (q := 40) dX6_leads_39 rfl ?_
              exact ret _ _ _ _ _ _ (Nat.zero_le _) (Nat.zero_le _) dX6_leads_40 (⟨rfl, vB_1 (decide_eq_true ((cnt_pos _ _).mpr ⟨i, by unfold tcn; omega, by unfold leadT; simp only [Bool.and_eq_true, decide_eq_true_eq]; omega⟩))⟩)
  exact L2_1 _ 0 (by exact ⟨by omega, fun j hj => absurd hj (Nat.not_lt_zero j)⟩) (Nat.lt_succ_self _)
theorem hdX6_placeOf : yX6_placeOf.cls = RX6 ∧ yX6_placeOf.cls ≠ "java/lang/invoke/MethodHandle" ∧ yX6_placeOf.cls ≠ "java/lang/invoke/VarHandle" ∧ (parseMethodDescriptor yX6_placeOf.desc).map (fun d => d.parameters.length) = some 1 := by decide +kernel
set_option maxRecDepth 100000 in
set_option maxHeartbeats 4000000 in
theorem kX6_placeOf {l : Launch} (hst : l.stackTraces = false) {k : Nat → ClassId} {g : Nat → Nat} {S Y : Nat → Nat → Int} (hI : Inv S) {a0 : Int} (g0 : -1 ≤ a0 ∧ a0 < 3) : v_Ci l k yX6_placeOf wsX6_placeOf ({ frames := 0, cells := 0, slots := 0, locals := 0 } : Room) [.ref (g 0), VI a0] (mw k g S Y) (fun a u => u = mw k g S Y ∧ a = plF S a0 ∧ 0 ≤ a ∧ a ≤ 100) := by
  refine v_ofI (cc := cX6_placeOf) (nL := 2) (by decide +kernel) rfl hst (Nat.le_of_ble_eq_true rfl) (fun _ _ _ => rfl) (fun XX F ret => ?_)
  have hin6 : ∀ w ∈ wsX60, w ∈ wsX6_placeOf := by decide +kernel
  have b7 := hI.mc
  have b8 := hI.cc
  show V XX (mw k g S Y) 0 0 0 [(0, .ref (g 0)), (1, VI a0)] []
  refine v_iload_n F 1 (q := 1) dX6_placeOf_0 rfl rfl rfl ?_
  refine v_const F (q := 2) dX6_placeOf_1 rfl ?_
  refine v_icmp_ne F (tgt := 9) (q := 5) (by omega) (by omega) dX6_placeOf_2 rfl rfl (fun h_1 => ?_) (fun h_1 => ?_)
  · refine v_aload_n F 0 (q := 10) dX6_placeOf_9 rfl rfl rfl ?_
    refine v_get F (C := RX6) (T := TX6) (N := 25) (ci := 6) (v := .ref (g 1)) 0 14 hin6 rfl mw_at0 (by decide) (by decide +kernel) rfl (q := 13) dX6_placeOf_10 rfl ?_
    refine v_iload_n F 1 (q := 14) dX6_placeOf_13 rfl rfl rfl ?_
    refine v_iald F (j := a0.toNat) 1 mw_at1 (by omega) (by omega) (by decide) (q := 15) dX6_placeOf_14 rfl ?_
    have b_2 := And.intro (hI.pos 1 (a0.toNat) (by omega) (by omega)) (hI.1 1 (a0.toNat) (by omega)).2
    exact ret _ _ _ _ _ _ (Nat.zero_le _) (Nat.zero_le _) dX6_placeOf_15 (⟨rfl, by unfold plF; rw [if_neg (by omega)], hI.pos 1 _ (by decide) (by decide), by omega⟩)
  · refine v_const F (q := 6) dX6_placeOf_5 rfl ?_
    refine v_goto F (tgt := 15) dX6_placeOf_6 rfl ?_
    exact ret _ _ _ _ _ _ (Nat.zero_le _) (Nat.zero_le _) dX6_placeOf_15 (⟨rfl, by unfold plF; simp [*], by have := pl_bd hI a0; omega, by omega⟩)
theorem hdX6_crosses : yX6_crosses.cls = RX6 ∧ yX6_crosses.cls ≠ "java/lang/invoke/MethodHandle" ∧ yX6_crosses.cls ≠ "java/lang/invoke/VarHandle" ∧ (parseMethodDescriptor yX6_crosses.desc).map (fun d => d.parameters.length) = some 2 := by decide +kernel
set_option maxRecDepth 100000 in
set_option maxHeartbeats 4000000 in
theorem kX6_crosses {l : Launch} (hst : l.stackTraces = false) {k : Nat → ClassId} {g : Nat → Nat} {S Y : Nat → Nat → Int} (hI : Inv S) {a b : Nat} (ha : (a : Int) < S 0 8) (hb : (b : Int) < S 0 8) : v_Ci l k yX6_crosses wsX6_crosses ({ frames := 1, cells := 0, slots := 0, locals := 21 } : Room) [.ref (g 0), VI ((a : Nat) : Int), VI ((b : Nat) : Int)] (mw k g S Y) (fun z u => u = mw k g S Y ∧ vB (crossB S a b = true) z) := by
  refine v_ofI (cc := cX6_crosses) (nL := 5) (by decide +kernel) rfl hst (Nat.le_of_ble_eq_true rfl) (fun _ _ hp => vB_n hp.2) (fun XX F ret => ?_)
  have hin6 : ∀ w ∈ wsX60, w ∈ wsX6_crosses := by decide +kernel
  have b7 := hI.mc
  have b8 := hI.cc
  have b_a := hI.thr a ha
  have b_b := hI.thr b hb
  have c_a := hI.th a
  have c_b := hI.th b
  have d_a := hI.1 6 a (by omega)
  have d_b := hI.1 6 b (by omega)
  show V XX (mw k g S Y) 0 0 0 [(0, .ref (g 0)), (1, VI ((a : Nat) : Int)), (2, VI ((b : Nat) : Int))] []
  refine v_iload_n F 1 (q := 1) dX6_crosses_0 rfl rfl rfl ?_
  refine v_iload_n F 2 (q := 2) dX6_crosses_1 rfl rfl rfl ?_
  refine v_icmp_eq F (tgt := 25) (q := 5) (by omega) (by omega) dX6_crosses_2 rfl rfl (fun h_1 => ?_) (fun h_1 => ?_)
  · refine v_const F (q := 26) dX6_crosses_25 rfl ?_
    exact ret _ _ _ _ _ _ (Nat.zero_le _) (Nat.zero_le _) dX6_crosses_26 (⟨rfl, vB_0 (by unfold crossB; rw [(cr_lo hI ha).1, (cr_lo hI ha).2, (cr_lo hI hb).1, (cr_lo hI hb).2]; simp only [Bool.and_eq_true, decide_eq_true_eq]; omega)⟩)
  · refine v_aload_n F 0 (q := 6) dX6_crosses_5 rfl rfl rfl ?_
    refine v_get F (C := RX6) (T := TX6) (N := 25) (ci := 6) (v := .ref (g 8)) 0 22 hin6 rfl mw_at0 (by decide) (by decide +kernel) rfl (q := 9) dX6_crosses_6 rfl ?_
    refine v_iload_n F 1 (q := 10) dX6_crosses_9 rfl rfl rfl ?_
    refine v_iald F (j := a) 8 mw_at8 rfl (by omega) (by decide) (q := 11) dX6_crosses_10 rfl ?_
    have b_2 := hI.st a
    refine v_const F (q := 12) dX6_crosses_11 rfl ?_
    refine v_icmp_eq F (tgt := 25) (q := 15) (by omega) (by omega) dX6_crosses_12 rfl rfl (fun h_3 => ?_) (fun h_3 => ?_)
    · refine v_const F (q := 26) dX6_crosses_25 rfl ?_
      exact ret _ _ _ _ _ _ (Nat.zero_le _) (Nat.zero_le _) dX6_crosses_26 (⟨rfl, vB_0 (by unfold crossB; rw [(cr_lo hI ha).1, (cr_lo hI ha).2, (cr_lo hI hb).1, (cr_lo hI hb).2]; simp only [Bool.and_eq_true, decide_eq_true_eq]; omega)⟩)
    · refine v_aload_n F 0 (q := 16) dX6_crosses_15 rfl rfl rfl ?_
      refine v_get F (C := RX6) (T := TX6) (N := 25) (ci := 6) (v := .ref (g 8)) 0 22 hin6 rfl mw_at0 (by decide) (by decide +kernel) rfl (q := 19) dX6_crosses_16 rfl ?_
      refine v_iload_n F 2 (q := 20) dX6_crosses_19 rfl rfl rfl ?_
      refine v_iald F (j := b) 8 mw_at8 rfl (by omega) (by decide) (q := 21) dX6_crosses_20 rfl ?_
      have b_4 := hI.st b
      refine v_const F (q := 22) dX6_crosses_21 rfl ?_
      refine v_icmp_ne F (tgt := 27) (q := 25) (by omega) (by omega) dX6_crosses_22 rfl rfl (fun h_5 => ?_) (fun h_5 => ?_)
      · refine v_aload_n F 0 (q := 28) dX6_crosses_27 rfl rfl rfl ?_
        refine v_aload_n F 0 (q := 29) dX6_crosses_28 rfl rfl rfl ?_
        refine v_get F (C := RX6) (T := TX6) (N := 25) (ci := 6) (v := .ref (g 5)) 0 19 hin6 rfl mw_at0 (by decide) (by decide +kernel) rfl (q := 32) dX6_crosses_29 rfl ?_
        refine v_iload_n F 1 (q := 33) dX6_crosses_32 rfl rfl rfl ?_
        refine v_iald F (j := a) 5 mw_at5 rfl (by omega) (by decide) (q := 34) dX6_crosses_33 rfl ?_
        have b_6 := hI.th a
        refine v_callVi0 F (kX6_placeOf hst (k := k) (g := g) (S := S) (Y := Y) hI (a0 := S 5 a) (by omega)) gX6_crosses_X6_placeOf rfl hdX6_placeOf ⟨by decide, by decide⟩ 0 mw_at0 rfl rfl rfl (Nat.le_of_ble_eq_true rfl) ⟨(Nat.zero_le _), (Nat.zero_le _)⟩ (q := 37) dX6_crosses_34 rfl ?_
        rintro a_7 _ ⟨rfl, ⟨h_7, hc_7⟩⟩
        refine v_aload_n F 0 (q := 38) dX6_crosses_37 rfl rfl rfl ?_
        refine v_aload_n F 0 (q := 39) dX6_crosses_38 rfl rfl rfl ?_
        refine v_get F (C := RX6) (T := TX6) (N := 25) (ci := 6) (v := .ref (g 6)) 0 20 hin6 rfl mw_at0 (by decide) (by decide +kernel) rfl (q := 42) dX6_crosses_39 rfl ?_
        refine v_iload_n F 1 (q := 43) dX6_crosses_42 rfl rfl rfl ?_
        refine v_iald F (j := a) 6 mw_at6 rfl (by omega) (by decide) (q := 44) dX6_crosses_43 rfl ?_
        have b_8 := hI.1 6 a (by omega)
        refine v_callVi0 F (kX6_placeOf hst (k := k) (g := g) (S := S) (Y := Y) hI (a0 := S 6 a) (by omega)) gX6_crosses_X6_placeOf rfl hdX6_placeOf ⟨by decide, by decide⟩ 0 mw_at0 rfl rfl rfl (Nat.le_of_ble_eq_true rfl) ⟨(Nat.zero_le _), (Nat.zero_le _)⟩ (q := 47) dX6_crosses_44 rfl ?_
        rintro a_9 _ ⟨rfl, ⟨h_9, hc_9⟩⟩
        refine v_min F (by omega) (by omega) (by decide +kernel) (by decide +kernel) (by decide +kernel) (by decide +kernel) ⟨by decide, Nat.le_of_ble_eq_true rfl⟩ ⟨(Nat.zero_le _), (Nat.zero_le _)⟩ (q := 50) dX6_crosses_47 rfl ?_
        refine v_aload_n F 0 (q := 51) dX6_crosses_50 rfl rfl rfl ?_
        refine v_aload_n F 0 (q := 52) dX6_crosses_51 rfl rfl rfl ?_
        refine v_get F (C := RX6) (T := TX6) (N := 25) (ci := 6) (v := .ref (g 5)) 0 19 hin6 rfl mw_at0 (by decide) (by decide +kernel) rfl (q := 55) dX6_crosses_52 rfl ?_
        refine v_iload_n F 2 (q := 56) dX6_crosses_55 rfl rfl rfl ?_
        refine v_iald F (j := b) 5 mw_at5 rfl (by omega) (by decide) (q := 57) dX6_crosses_56 rfl ?_
        have b_10 := hI.th b
        refine v_callVi0 F (kX6_placeOf hst (k := k) (g := g) (S := S) (Y := Y) hI (a0 := S 5 b) (by omega)) gX6_crosses_X6_placeOf rfl hdX6_placeOf ⟨by decide, by decide⟩ 0 mw_at0 rfl rfl rfl (Nat.le_of_ble_eq_true rfl) ⟨(Nat.zero_le _), (Nat.zero_le _)⟩ (q := 60) dX6_crosses_57 rfl ?_
        rintro a_11 _ ⟨rfl, ⟨h_11, hc_11⟩⟩
        refine v_aload_n F 0 (q := 61) dX6_crosses_60 rfl rfl rfl ?_
        refine v_aload_n F 0 (q := 62) dX6_crosses_61 rfl rfl rfl ?_
        refine v_get F (C := RX6) (T := TX6) (N := 25) (ci := 6) (v := .ref (g 6)) 0 20 hin6 rfl mw_at0 (by decide) (by decide +kernel) rfl (q := 65) dX6_crosses_62 rfl ?_
        refine v_iload_n F 2 (q := 66) dX6_crosses_65 rfl rfl rfl ?_
        refine v_iald F (j := b) 6 mw_at6 rfl (by omega) (by decide) (q := 67) dX6_crosses_66 rfl ?_
        have b_12 := hI.1 6 b (by omega)
        refine v_callVi0 F (kX6_placeOf hst (k := k) (g := g) (S := S) (Y := Y) hI (a0 := S 6 b) (by omega)) gX6_crosses_X6_placeOf rfl hdX6_placeOf ⟨by decide, by decide⟩ 0 mw_at0 rfl rfl rfl (Nat.le_of_ble_eq_true rfl) ⟨(Nat.zero_le _), (Nat.zero_le _)⟩ (q := 70) dX6_crosses_67 rfl ?_
        rintro a_13 _ ⟨rfl, ⟨h_13, hc_13⟩⟩
        refine v_min F (by omega) (by omega) (by decide +kernel) (by decide +kernel) (by decide +kernel) (by decide +kernel) ⟨by decide, Nat.le_of_ble_eq_true rfl⟩ ⟨(Nat.zero_le _), (Nat.zero_le _)⟩ (q := 73) dX6_crosses_70 rfl ?_
        refine v_max F (by omega) (by omega) (by decide +kernel) (by decide +kernel) (by decide +kernel) (by decide +kernel) ⟨by decide, Nat.le_of_ble_eq_true rfl⟩ ⟨(Nat.zero_le _), (Nat.zero_le _)⟩ (q := 76) dX6_crosses_73 rfl ?_
        refine v_istore_n F (q := 77) [(3, VI (max (min a_7 a_9) (min a_11 a_13))), (0, .ref (g 0)), (1, VI ((a : Nat) : Int)), (2, VI ((b : Nat) : Int))] dX6_crosses_76 rfl (by decide) rfl rfl ?_
        refine v_aload_n F 1 (q := 78) dX6_crosses_77 rfl rfl rfl ?_
        refine v_aload_n F 1 (q := 79) dX6_crosses_78 rfl rfl rfl ?_
        refine v_get F (C := RX6) (T := TX6) (N := 25) (ci := 6) (v := .ref (g 5)) 0 19 hin6 rfl mw_at0 (by decide) (by decide +kernel) rfl (q := 82) dX6_crosses_79 rfl ?_
        refine v_iload_n F 2 (q := 83) dX6_crosses_82 rfl rfl rfl ?_
        refine v_iald F (j := a) 5 mw_at5 rfl (by omega) (by decide) (q := 84) dX6_crosses_83 rfl ?_
        have b_14 := hI.th a
        refine v_callVi0 F (kX6_placeOf hst (k := k) (g := g) (S := S) (Y := Y) hI (a0 := S 5 a) (by omega)) gX6_crosses_X6_placeOf rfl hdX6_placeOf ⟨by decide, by decide⟩ 0 mw_at0 rfl rfl rfl (Nat.le_of_ble_eq_true rfl) ⟨(Nat.zero_le _), (Nat.zero_le _)⟩ (q := 87) dX6_crosses_84 rfl ?_
        rintro a_15 _ ⟨rfl, ⟨h_15, hc_15⟩⟩
        refine v_aload_n F 1 (q := 88) dX6_crosses_87 rfl rfl rfl ?_
        refine v_aload_n F 1 (q := 89) dX6_crosses_88 rfl rfl rfl ?_
        refine v_get F (C := RX6) (T := TX6) (N := 25) (ci := 6) (v := .ref (g 6)) 0 20 hin6 rfl mw_at0 (by decide) (by decide +kernel) rfl (q := 92) dX6_crosses_89 rfl ?_
        refine v_iload_n F 2 (q := 93) dX6_crosses_92 rfl rfl rfl ?_
        refine v_iald F (j := a) 6 mw_at6 rfl (by omega) (by decide) (q := 94) dX6_crosses_93 rfl ?_
        have b_16 := hI.1 6 a (by omega)
        refine v_callVi0 F (kX6_placeOf hst (k := k) (g := g) (S := S) (Y := Y) hI (a0 := S 6 a) (by omega)) gX6_crosses_X6_placeOf rfl hdX6_placeOf ⟨by decide, by decide⟩ 0 mw_at0 rfl rfl rfl (Nat.le_of_ble_eq_true rfl) ⟨(Nat.zero_le _), (Nat.zero_le _)⟩ (q := 97) dX6_crosses_94 rfl ?_
        rintro a_17 _ ⟨rfl, ⟨h_17, hc_17⟩⟩
        refine v_max F (by omega) (by omega) (by decide +kernel) (by decide +kernel) (by decide +kernel) (by decide +kernel) ⟨by decide, Nat.le_of_ble_eq_true rfl⟩ ⟨(Nat.zero_le _), (Nat.zero_le _)⟩ (q := 100) dX6_crosses_97 rfl ?_
        refine v_aload_n F 1 (q := 101) dX6_crosses_100 rfl rfl rfl ?_
        refine v_aload_n F 1 (q := 102) dX6_crosses_101 rfl rfl rfl ?_
        refine v_get F (C := RX6) (T := TX6) (N := 25) (ci := 6) (v := .ref (g 5)) 0 19 hin6 rfl mw_at0 (by decide) (by decide +kernel) rfl (q := 105) dX6_crosses_102 rfl ?_
        refine v_iload_n F 3 (q := 106) dX6_crosses_105 rfl rfl rfl ?_
        refine v_iald F (j := b) 5 mw_at5 rfl (by omega) (by decide) (q := 107) dX6_crosses_106 rfl ?_
        have b_18 := hI.th b
        refine v_callVi0 F (kX6_placeOf hst (k := k) (g := g) (S := S) (Y := Y) hI (a0 := S 5 b) (by omega)) gX6_crosses_X6_placeOf rfl hdX6_placeOf ⟨by decide, by decide⟩ 0 mw_at0 rfl rfl rfl (Nat.le_of_ble_eq_true rfl) ⟨(Nat.zero_le _), (Nat.zero_le _)⟩ (q := 110) dX6_crosses_107 rfl ?_
        rintro a_19 _ ⟨rfl, ⟨h_19, hc_19⟩⟩
        refine v_aload_n F 1 (q := 111) dX6_crosses_110 rfl rfl rfl ?_
        refine v_aload_n F 1 (q := 112) dX6_crosses_111 rfl rfl rfl ?_
        refine v_get F (C := RX6) (T := TX6) (N := 25) (ci := 6) (v := .ref (g 6)) 0 20 hin6 rfl mw_at0 (by decide) (by decide +kernel) rfl (q := 115) dX6_crosses_112 rfl ?_
        refine v_iload_n F 3 (q := 116) dX6_crosses_115 rfl rfl rfl ?_
        refine v_iald F (j := b) 6 mw_at6 rfl (by omega) (by decide) (q := 117) dX6_crosses_116 rfl ?_
        have b_20 := hI.1 6 b (by omega)
        refine v_callVi0 F (kX6_placeOf hst (k := k) (g := g) (S := S) (Y := Y) hI (a0 := S 6 b) (by omega)) gX6_crosses_X6_placeOf rfl hdX6_placeOf ⟨by decide, by decide⟩ 0 mw_at0 rfl rfl rfl (Nat.le_of_ble_eq_true rfl) ⟨(Nat.zero_le _), (Nat.zero_le _)⟩ (q := 120) dX6_crosses_117 rfl ?_
        rintro a_21 _ ⟨rfl, ⟨h_21, hc_21⟩⟩
        refine v_max F (by omega) (by omega) (by decide +kernel) (by decide +kernel) (by decide +kernel) (by decide +kernel) ⟨by decide, Nat.le_of_ble_eq_true rfl⟩ ⟨(Nat.zero_le _), (Nat.zero_le _)⟩ (q := 123) dX6_crosses_120 rfl ?_
        refine v_min F (by omega) (by omega) (by decide +kernel) (by decide +kernel) (by decide +kernel) (by decide +kernel) ⟨by decide, Nat.le_of_ble_eq_true rfl⟩ ⟨(Nat.zero_le _), (Nat.zero_le _)⟩ (q := 126) dX6_crosses_123 rfl ?_
        refine v_istore F (q := 128) [(4, VI (min (max a_15 a_17) (max a_19 a_21))), (3, VI (max (min a_7 a_9) (min a_11 a_13))), (0, .ref (g 0)), (1, VI ((a : Nat) : Int)), (2, VI ((b : Nat) : Int))] dX6_crosses_126 (by decide) rfl rfl ?_
        refine v_iload_n F 1 (q := 129) dX6_crosses_128 rfl rfl rfl ?_
        refine v_iload F 0 (q := 131) dX6_crosses_129 rfl rfl ?_
        refine v_icmp_ge F (tgt := 138) (q := 134) (by omega) (by omega) dX6_crosses_131 rfl rfl (fun h_22 => ?_) (fun h_22 => ?_)
        · refine v_const F (q := 139) dX6_crosses_138 rfl ?_
          exact ret _ _ _ _ _ _ (Nat.zero_le _) (Nat.zero_le _) dX6_crosses_139 (⟨rfl, vB_0 (by unfold crossB; rw [(cr_lo hI ha).1, (cr_lo hI ha).2, (cr_lo hI hb).1, (cr_lo hI hb).2]; simp only [Bool.and_eq_true, decide_eq_true_eq]; omega)⟩)
        · refine v_const F (q := 135) dX6_crosses_134 rfl ?_
          refine v_goto F (tgt := 139) dX6_crosses_135 rfl ?_
          exact ret _ _ _ _ _ _ (Nat.zero_le _) (Nat.zero_le _) dX6_crosses_139 (⟨rfl, vB_1 (by unfold crossB; rw [(cr_lo hI ha).1, (cr_lo hI ha).2, (cr_lo hI hb).1, (cr_lo hI hb).2]; simp only [Bool.and_eq_true, decide_eq_true_eq]; omega)⟩)
      · refine v_const F (q := 26) dX6_crosses_25 rfl ?_
        exact ret _ _ _ _ _ _ (Nat.zero_le _) (Nat.zero_le _) dX6_crosses_26 (⟨rfl, vB_0 (by unfold crossB; rw [(cr_lo hI ha).1, (cr_lo hI ha).2, (cr_lo hI hb).1, (cr_lo hI hb).2]; simp only [Bool.and_eq_true, decide_eq_true_eq]; omega)⟩)
