theorem hdX5_isWithin : yX5_isWithin.cls ≠ "java/lang/invoke/MethodHandle" ∧ yX5_isWithin.cls ≠ "java/lang/invoke/VarHandle" ∧ (parseMethodDescriptor yX5_isWithin.desc).map (fun d => d.parameters.length) = some 3 := by decide +kernel
set_option maxRecDepth 100000 in
set_option maxHeartbeats 4000000 in
theorem kX5_isWithin {l : Launch} (hst : l.stackTraces = false) {k : Nat → ClassId} {w : va_W} {a0 a1 a2 : Int} (g0 : R32 a0) (g1 : R32 a1) (g2 : R32 a2) : v_Ci l k yX5_isWithin wsX5_isWithin ({ frames := 0, cells := 0, slots := 0, locals := 0 } : Room) [VI a0, VI a1, VI a2] (w) (fun a u => u = w ∧ vB (a1 ≤ a0 ∧ a0 ≤ a2) a) := by
  refine v_ofI (cc := cX5_isWithin) (nL := 3) (by decide +kernel) rfl hst (Nat.le_of_ble_eq_true rfl) (fun _ _ hp => vB_n hp.2) (fun XX F ret => ?_)
  show V XX (w) 0 0 0 [(0, VI a0), (1, VI a1), (2, VI a2)] []
  refine v_iload_n F 0 (q := 1) dX5_isWithin_0 rfl rfl rfl ?_
  refine v_iload_n F 1 (q := 2) dX5_isWithin_1 rfl rfl rfl ?_
  refine v_icmp_lt F (tgt := 14) (q := 5) (by omega) (by omega) dX5_isWithin_2 rfl rfl (fun h_1 => ?_) (fun h_1 => ?_)
  · refine v_const F (q := 15) dX5_isWithin_14 rfl ?_
    exact ret _ _ _ _ _ _ (Nat.zero_le _) (Nat.zero_le _) dX5_isWithin_15 (⟨rfl, vB_0 (by omega)⟩)
  · refine v_iload_n F 0 (q := 6) dX5_isWithin_5 rfl rfl rfl ?_
    refine v_iload_n F 2 (q := 7) dX5_isWithin_6 rfl rfl rfl ?_
    refine v_icmp_gt F (tgt := 14) (q := 10) (by omega) (by omega) dX5_isWithin_7 rfl rfl (fun h_2 => ?_) (fun h_2 => ?_)
    · refine v_const F (q := 15) dX5_isWithin_14 rfl ?_
      exact ret _ _ _ _ _ _ (Nat.zero_le _) (Nat.zero_le _) dX5_isWithin_15 (⟨rfl, vB_0 (by omega)⟩)
    · refine v_const F (q := 11) dX5_isWithin_10 rfl ?_
      refine v_goto F (tgt := 15) dX5_isWithin_11 rfl ?_
      exact ret _ _ _ _ _ _ (Nat.zero_le _) (Nat.zero_le _) dX5_isWithin_15 (⟨rfl, vB_1 (by omega)⟩)
theorem hdX5_isMast : yX5_isMast.cls = RX5 ∧ yX5_isMast.cls ≠ "java/lang/invoke/MethodHandle" ∧ yX5_isMast.cls ≠ "java/lang/invoke/VarHandle" ∧ (parseMethodDescriptor yX5_isMast.desc).map (fun d => d.parameters.length) = some 1 := by decide +kernel
set_option maxRecDepth 100000 in
set_option maxHeartbeats 4000000 in
theorem kX5_isMast {l : Launch} (hst : l.stackTraces = false) {k : Nat → ClassId} {h : Nat → Nat} {S Z : Nat → Nat → Int} (hI : Inv S) {a0 : Int} (g0 : R32 a0) : v_Ci l k yX5_isMast wsX5_isMast ({ frames := 0, cells := 0, slots := 0, locals := 0 } : Room) [.ref (h 0), VI a0] (cw k h S Z) (fun a u => u = cw k h S Z ∧ vB (0 ≤ a0 ∧ a0 < S 0 7) a) := by
  refine v_ofI (cc := cX5_isMast) (nL := 2) (by decide +kernel) rfl hst (Nat.le_of_ble_eq_true rfl) (fun _ _ hp => vB_n hp.2) (fun XX F ret => ?_)
  have hin5 : ∀ w ∈ wsX50, w ∈ wsX5_isMast := by decide +kernel
  have b7 := hI.mc
  have b8 := hI.cc
  show V XX (cw k h S Z) 0 0 0 [(0, .ref (h 0)), (1, VI a0)] []
  refine v_iload_n F 1 (q := 1) dX5_isMast_0 rfl rfl rfl ?_
  refine v_if_lt F (tgt := 16) (q := 4) (by omega) dX5_isMast_1 rfl rfl (fun h_1 => ?_) (fun h_1 => ?_)
  · refine v_const F (q := 17) dX5_isMast_16 rfl ?_
    exact ret _ _ _ _ _ _ (Nat.zero_le _) (Nat.zero_le _) dX5_isMast_17 (⟨rfl, vB_0 (by omega)⟩)
  · refine v_iload_n F 1 (q := 5) dX5_isMast_4 rfl rfl rfl ?_
    refine v_aload_n F 0 (q := 6) dX5_isMast_5 rfl rfl rfl ?_
    refine v_get F (C := RX5) (T := TX5) (N := 14) (ci := 5) (v := VI (S 0 7)) 0 8 hin5 rfl cw_at0 (by decide) (by decide +kernel) rfl (q := 9) dX5_isMast_6 rfl ?_
    have b_2 := And.intro (hI.sc 7 (by decide)) (hI.1 0 7 (by omega)).2
    refine v_icmp_ge F (tgt := 16) (q := 12) (by omega) (by omega) dX5_isMast_9 rfl rfl (fun h_3 => ?_) (fun h_3 => ?_)
    · refine v_const F (q := 17) dX5_isMast_16 rfl ?_
      exact ret _ _ _ _ _ _ (Nat.zero_le _) (Nat.zero_le _) dX5_isMast_17 (⟨rfl, vB_0 (by omega)⟩)
    · refine v_const F (q := 13) dX5_isMast_12 rfl ?_
      refine v_goto F (tgt := 17) dX5_isMast_13 rfl ?_
      exact ret _ _ _ _ _ _ (Nat.zero_le _) (Nat.zero_le _) dX5_isMast_17 (⟨rfl, vB_1 (by omega)⟩)
theorem hdX5_isThread : yX5_isThread.cls = RX5 ∧ yX5_isThread.cls ≠ "java/lang/invoke/MethodHandle" ∧ yX5_isThread.cls ≠ "java/lang/invoke/VarHandle" ∧ (parseMethodDescriptor yX5_isThread.desc).map (fun d => d.parameters.length) = some 1 := by decide +kernel
set_option maxRecDepth 100000 in
set_option maxHeartbeats 4000000 in
theorem kX5_isThread {l : Launch} (hst : l.stackTraces = false) {k : Nat → ClassId} {h : Nat → Nat} {S Z : Nat → Nat → Int} (hI : Inv S) {a0 : Int} (g0 : R32 a0) : v_Ci l k yX5_isThread wsX5_isThread ({ frames := 0, cells := 0, slots := 0, locals := 0 } : Room) [.ref (h 0), VI a0] (cw k h S Z) (fun a u => u = cw k h S Z ∧ vB (0 ≤ a0 ∧ a0 < S 0 8) a) := by
  refine v_ofI (cc := cX5_isThread) (nL := 2) (by decide +kernel) rfl hst (Nat.le_of_ble_eq_true rfl) (fun _ _ hp => vB_n hp.2) (fun XX F ret => ?_)
  have hin5 : ∀ w ∈ wsX50, w ∈ wsX5_isThread := by decide +kernel
  have b7 := hI.mc
  have b8 := hI.cc
  show V XX (cw k h S Z) 0 0 0 [(0, .ref (h 0)), (1, VI a0)] []
  refine v_iload_n F 1 (q := 1) dX5_isThread_0 rfl rfl rfl ?_
  refine v_if_lt F (tgt := 16) (q := 4) (by omega) dX5_isThread_1 rfl rfl (fun h_1 => ?_) (fun h_1 => ?_)
  · refine v_const F (q := 17) dX5_isThread_16 rfl ?_
    exact ret _ _ _ _ _ _ (Nat.zero_le _) (Nat.zero_le _) dX5_isThread_17 (⟨rfl, vB_0 (by omega)⟩)
  · refine v_iload_n F 1 (q := 5) dX5_isThread_4 rfl rfl rfl ?_
    refine v_aload_n F 0 (q := 6) dX5_isThread_5 rfl rfl rfl ?_
    refine v_get F (C := RX5) (T := TX5) (N := 14) (ci := 5) (v := VI (S 0 8)) 0 9 hin5 rfl cw_at0 (by decide) (by decide +kernel) rfl (q := 9) dX5_isThread_6 rfl ?_
    have b_2 := And.intro (hI.sc 8 (by decide)) (hI.1 0 8 (by omega)).2
    refine v_icmp_ge F (tgt := 16) (q := 12) (by omega) (by omega) dX5_isThread_9 rfl rfl (fun h_3 => ?_) (fun h_3 => ?_)
    · refine v_const F (q := 17) dX5_isThread_16 rfl ?_
      exact ret _ _ _ _ _ _ (Nat.zero_le _) (Nat.zero_le _) dX5_isThread_17 (⟨rfl, vB_0 (by omega)⟩)
    · refine v_const F (q := 13) dX5_isThread_12 rfl ?_
      refine v_goto F (tgt := 17) dX5_isThread_13 rfl ?_
      exact ret _ _ _ _ _ _ (Nat.zero_le _) (Nat.zero_le _) dX5_isThread_17 (⟨rfl, vB_1 (by omega)⟩)
theorem hdX5_hasMastAt : yX5_hasMastAt.cls = RX5 ∧ yX5_hasMastAt.cls ≠ "java/lang/invoke/MethodHandle" ∧ yX5_hasMastAt.cls ≠ "java/lang/invoke/VarHandle" ∧ (parseMethodDescriptor yX5_hasMastAt.desc).map (fun d => d.parameters.length) = some 1 := by decide +kernel
set_option maxRecDepth 100000 in
set_option maxHeartbeats 4000000 in
theorem kX5_hasMastAt {l : Launch} (hst : l.stackTraces = false) {k : Nat → ClassId} {h : Nat → Nat} {S Z : Nat → Nat → Int} (hI : Inv S) {a0 : Int} (g0 : R32 a0) : v_Ci l k yX5_hasMastAt wsX5_hasMastAt ({ frames := 0, cells := 0, slots := 0, locals := 0 } : Room) [.ref (h 0), VI a0] (cw k h S Z) (fun a u => u = cw k h S Z ∧ vB (∃ m : Nat, (m : Int) < S 0 7 ∧ S 1 m = a0) a) := by
  refine v_ofI (cc := cX5_hasMastAt) (nL := 3) (by decide +kernel) rfl hst (Nat.le_of_ble_eq_true rfl) (fun _ _ hp => vB_n hp.2) (fun XX F ret => ?_)
  have hin3 : ∀ w ∈ wsX30, w ∈ wsX5_hasMastAt := by decide +kernel
  have hin5 : ∀ w ∈ wsX50, w ∈ wsX5_hasMastAt := by decide +kernel
  have b7 := hI.mc
  have b8 := hI.cc
  show V XX (cw k h S Z) 0 0 0 [(0, .ref (h 0)), (1, VI a0)] []
  refine v_const F (q := 1) dX5_hasMastAt_0 rfl ?_
  refine v_istore_n F (q := 2) [(2, VI 0), (0, .ref (h 0)), (1, VI a0)] dX5_hasMastAt_1 rfl (by decide) rfl rfl ?_
  have L2_1 : ∀ (fu : Nat) (m : Nat), ((m : Int) ≤ S 0 7 ∧ ∀ j : Nat, j < m → ¬ S 1 j = a0) → (S 0 7 - m).toNat < fu → V XX (cw k h S Z) 0 0 2 [(2, VI ((m : Nat) : Int)), (0, .ref (h 0)), (1, VI a0)] [] := by
    intro fu_2
    induction fu_2 with
    | zero => intros; omega
    | succ fu_2 ih_2 =>
      intro m hv hm_2
      obtain ⟨hv1, hv2⟩ := hv
      refine v_iload_n F 0 (q := 3) dX5_hasMastAt_2 rfl rfl rfl ?_
      refine v_aload_n F 1 (q := 4) dX5_hasMastAt_3 rfl rfl rfl ?_
      refine v_get F (C := RX5) (T := TX5) (N := 14) (ci := 5) (v := VI (S 0 7)) 0 8 hin5 rfl cw_at0 (by decide) (by decide +kernel) rfl (q := 7) dX5_hasMastAt_4 rfl ?_
      have b_2 := And.intro (hI.sc 7 (by decide)) (hI.1 0 7 (by omega)).2
      refine v_icmp_ge F (tgt := 31) (q := 10) (by omega) (by omega) dX5_hasMastAt_7 rfl rfl (fun h_3 => ?_) (fun h_3 => ?_)
      · refine v_const F (q := 32) dX5_hasMastAt_31 rfl ?_
        exact ret _ _ _ _ _ _ (Nat.zero_le _) (Nat.zero_le _) dX5_hasMastAt_32 (⟨rfl, vB_0 (fun ⟨j, hj1, hj2⟩ => hv2 j (by omega) hj2)⟩)
      · refine v_aload_n F 1 (q := 11) dX5_hasMastAt_10 rfl rfl rfl ?_
        refine v_get F (C := RX5) (T := TX5) (N := 14) (ci := 5) (v := .ref (h 3)) 0 2 hin5 rfl cw_at0 (by decide) (by decide +kernel) rfl (q := 14) dX5_hasMastAt_11 rfl ?_
        refine v_iload_n F 0 (q := 15) dX5_hasMastAt_14 rfl rfl rfl ?_
        refine v_aald F (j := m) (b := h (9 + m)) 3 1 rfl cw_at3 rfl (by omega) (by decide) rfl (q := 16) dX5_hasMastAt_15 rfl ?_
        refine v_get F (C := RX3) (T := TX3) (N := 4) (ci := 3) (v := VI (S 1 m)) (9 + m) 1 hin3 rfl (cw_mast m (by omega)) (by decide) (by decide +kernel) rfl (q := 19) dX5_hasMastAt_16 rfl ?_
        have b_4 := And.intro (hI.pos 1 m (by omega) (by omega)) (hI.1 1 m (by omega)).2
        refine v_iload_n F 2 (q := 20) dX5_hasMastAt_19 rfl rfl rfl ?_
        refine v_icmp_ne F (tgt := 25) (q := 23) (by omega) (by omega) dX5_hasMastAt_20 rfl rfl (fun h_5 => ?_) (fun h_5 => ?_)
        · refine v_iinc F (q := 28) (z := ((m + 1 : Nat) : Int)) 0 [(2, VI ((m + 1 : Nat) : Int)), (0, .ref (h 0)), (1, VI a0)] dX5_hasMastAt_25 rfl (by decide) (by omega) rfl rfl ?_
          refine v_goto F (tgt := 2) dX5_hasMastAt_28 rfl ?_
          exact ih_2 (m + 1) (by exact ⟨by omega, fun j hj => (Nat.lt_or_ge j m).elim (fun q => hv2 j q) (fun q => by obtain rfl : j = m := (by omega); assumption)⟩) (by omega)
        · refine v_const F (q := 24) dX5_hasMastAt_23 rfl ?_
          exact ret _ _ _ _ _ _ (Nat.zero_le _) (Nat.zero_le _) dX5_hasMastAt_24 (⟨rfl, vB_1 ⟨m, by omega, by assumption⟩⟩)
  exact L2_1 _ 0 (by exact ⟨by omega, fun j hj => absurd hj (Nat.not_lt_zero j)⟩) (Nat.lt_succ_self _)
theorem hdX5_mastsLeaning : yX5_mastsLeaning.cls = RX5 ∧ yX5_mastsLeaning.cls ≠ "java/lang/invoke/MethodHandle" ∧ yX5_mastsLeaning.cls ≠ "java/lang/invoke/VarHandle" ∧ (parseMethodDescriptor yX5_mastsLeaning.desc).map (fun d => d.parameters.length) = some 1 := by decide +kernel
set_option maxRecDepth 100000 in
set_option maxHeartbeats 4000000 in
theorem kX5_mastsLeaning {l : Launch} (hst : l.stackTraces = false) {k : Nat → ClassId} {h : Nat → Nat} {S Z : Nat → Nat → Int} (hI : Inv S) {a0 : Int} (g0 : R32 a0) : v_Ci l k yX5_mastsLeaning wsX5_mastsLeaning ({ frames := 0, cells := 0, slots := 0, locals := 0 } : Room) [.ref (h 0), VI a0] (cw k h S Z) (fun a u => u = cw k h S Z ∧ a = cnt (fun m => decide (S 4 m = a0)) (mcn S)) := by
  refine v_ofI (cc := cX5_mastsLeaning) (nL := 4) (by decide +kernel) rfl hst (Nat.le_of_ble_eq_true rfl) (fun _ _ _ => rfl) (fun XX F ret => ?_)
  have hin5 : ∀ w ∈ wsX50, w ∈ wsX5_mastsLeaning := by decide +kernel
  have b7 := hI.mc
  have b8 := hI.cc
  show V XX (cw k h S Z) 0 0 0 [(0, .ref (h 0)), (1, VI a0)] []
  refine v_const F (q := 1) dX5_mastsLeaning_0 rfl ?_
  refine v_istore_n F (q := 2) [(2, VI 0), (0, .ref (h 0)), (1, VI a0)] dX5_mastsLeaning_1 rfl (by decide) rfl rfl ?_
  refine v_const F (q := 3) dX5_mastsLeaning_2 rfl ?_
  refine v_istore_n F (q := 4) [(3, VI 0), (2, VI 0), (0, .ref (h 0)), (1, VI a0)] dX5_mastsLeaning_3 rfl (by decide) rfl rfl ?_
  have L4_1 : ∀ (fu : Nat) (found : Int) (m : Nat), ((m : Int) ≤ S 0 7 ∧ found = cnt (fun m => decide (S 4 m = a0)) m) → (S 0 7 - m).toNat < fu → V XX (cw k h S Z) 0 0 4 [(3, VI ((m : Nat) : Int)), (2, VI found), (0, .ref (h 0)), (1, VI a0)] [] := by
    intro fu_4
    induction fu_4 with
    | zero => intros; omega
    | succ fu_4 ih_4 =>
      intro found m hv hm_4
      obtain ⟨hv1, hv2⟩ := hv
      have hn := cnt_nn (fun m => decide (S 4 m = a0)) m
      refine v_iload_n F 0 (q := 5) dX5_mastsLeaning_4 rfl rfl rfl ?_
      refine v_aload_n F 2 (q := 6) dX5_mastsLeaning_5 rfl rfl rfl ?_
      refine v_get F (C := RX5) (T := TX5) (N := 14) (ci := 5) (v := VI (S 0 7)) 0 8 hin5 rfl cw_at0 (by decide) (by decide +kernel) rfl (q := 9) dX5_mastsLeaning_6 rfl ?_
      have b_2 := And.intro (hI.sc 7 (by decide)) (hI.1 0 7 (by omega)).2
      refine v_icmp_ge F (tgt := 31) (q := 12) (by omega) (by omega) dX5_mastsLeaning_9 rfl rfl (fun h_3 => ?_) (fun h_3 => ?_)
      · refine v_iload_n F 1 (q := 32) dX5_mastsLeaning_31 rfl rfl rfl ?_
        exact ret _ _ _ _ _ _ (Nat.zero_le _) (Nat.zero_le _) dX5_mastsLeaning_32 (⟨rfl, by rw [hv2, show m = mcn S from (by unfold mcn; omega)]⟩)
      · refine v_aload_n F 2 (q := 13) dX5_mastsLeaning_12 rfl rfl rfl ?_
        refine v_get F (C := RX5) (T := TX5) (N := 14) (ci := 5) (v := .ref (h 6)) 0 5 hin5 rfl cw_at0 (by decide) (by decide +kernel) rfl (q := 16) dX5_mastsLeaning_13 rfl ?_
        refine v_iload_n F 0 (q := 17) dX5_mastsLeaning_16 rfl rfl rfl ?_
        refine v_iald F (j := m) 6 cw_at6 rfl (by omega) (by decide) (q := 18) dX5_mastsLeaning_17 rfl ?_
        have b_4 := hI.lean m
        refine v_iload_n F 3 (q := 19) dX5_mastsLeaning_18 rfl rfl rfl ?_
        refine v_icmp_ne F (tgt := 25) (q := 22) (by omega) (by omega) dX5_mastsLeaning_19 rfl rfl (fun h_5 => ?_) (fun h_5 => ?_)
        · refine v_iinc F (q := 28) (z := ((m + 1 : Nat) : Int)) 0 [(3, VI ((m + 1 : Nat) : Int)), (2, VI found), (0, .ref (h 0)), (1, VI a0)] dX5_mastsLeaning_25 rfl (by decide) (by omega) rfl rfl ?_
          refine v_goto F (tgt := 4) dX5_mastsLeaning_28 rfl ?_
          exact ih_4 found (m + 1) (by refine ⟨by omega, ?_⟩; rw [cnt_s, ← hv2]; simp [onT, crossB, *]) (by omega)
        · refine v_iinc F (q := 25) (z := found + 1) 1 [(2, VI (found + 1)), (3, VI ((m : Nat) : Int)), (0, .ref (h 0)), (1, VI a0)] dX5_mastsLeaning_22 rfl (by decide) rfl rfl rfl ?_
          refine v_iinc F (q := 28) (z := ((m + 1 : Nat) : Int)) 1 [(3, VI ((m + 1 : Nat) : Int)), (2, VI (found + 1)), (0, .ref (h 0)), (1, VI a0)] dX5_mastsLeaning_25 rfl (by decide) (by omega) rfl rfl ?_
          refine v_goto F (tgt := 4) dX5_mastsLeaning_28 rfl ?_
          exact ih_4 (found + 1) (m + 1) (by refine ⟨by omega, ?_⟩; rw [cnt_s, ← hv2]; simp [onT, crossB, *]) (by omega)
  exact L4_1 _ 0 0 (by exact ⟨by omega, rfl⟩) (Nat.lt_succ_self _)
theorem hdX5_threadsThatAre : yX5_threadsThatAre.cls = RX5 ∧ yX5_threadsThatAre.cls ≠ "java/lang/invoke/MethodHandle" ∧ yX5_threadsThatAre.cls ≠ "java/lang/invoke/VarHandle" ∧ (parseMethodDescriptor yX5_threadsThatAre.desc).map (fun d => d.parameters.length) = some 1 := by decide +kernel
set_option maxRecDepth 100000 in
set_option maxHeartbeats 4000000 in
theorem kX5_threadsThatAre {l : Launch} (hst : l.stackTraces = false) {k : Nat → ClassId} {h : Nat → Nat} {S Z : Nat → Nat → Int} (hI : Inv S) {a0 : Int} (g0 : R32 a0) : v_Ci l k yX5_threadsThatAre wsX5_threadsThatAre ({ frames := 0, cells := 0, slots := 0, locals := 0 } : Room) [.ref (h 0), VI a0] (cw k h S Z) (fun a u => u = cw k h S Z ∧ a = cnt (fun t => decide (S 8 t = a0)) (tcn S)) := by
  refine v_ofI (cc := cX5_threadsThatAre) (nL := 4) (by decide +kernel) rfl hst (Nat.le_of_ble_eq_true rfl) (fun _ _ _ => rfl) (fun XX F ret => ?_)
  have hin1 : ∀ w ∈ wsX10, w ∈ wsX5_threadsThatAre := by decide +kernel
  have hin5 : ∀ w ∈ wsX50, w ∈ wsX5_threadsThatAre := by decide +kernel
  have b7 := hI.mc
  have b8 := hI.cc
  show V XX (cw k h S Z) 0 0 0 [(0, .ref (h 0)), (1, VI a0)] []
  refine v_const F (q := 1) dX5_threadsThatAre_0 rfl ?_
  refine v_istore_n F (q := 2) [(2, VI 0), (0, .ref (h 0)), (1, VI a0)] dX5_threadsThatAre_1 rfl (by decide) rfl rfl ?_
  refine v_const F (q := 3) dX5_threadsThatAre_2 rfl ?_
  refine v_istore_n F (q := 4) [(3, VI 0), (2, VI 0), (0, .ref (h 0)), (1, VI a0)] dX5_threadsThatAre_3 rfl (by decide) rfl rfl ?_
  have L4_1 : ∀ (fu : Nat) (found : Int) (t : Nat), ((t : Int) ≤ S 0 8 ∧ found = cnt (fun t => decide (S 8 t = a0)) t) → (S 0 8 - t).toNat < fu → V XX (cw k h S Z) 0 0 4 [(3, VI ((t : Nat) : Int)), (2, VI found), (0, .ref (h 0)), (1, VI a0)] [] := by
    intro fu_4
    induction fu_4 with
    | zero => intros; omega
    | succ fu_4 ih_4 =>
      intro found t hv hm_4
      obtain ⟨hv1, hv2⟩ := hv
      have hn := cnt_nn (fun t => decide (S 8 t = a0)) t
      refine v_iload_n F 0 (q := 5) dX5_threadsThatAre_4 rfl rfl rfl ?_
      refine v_aload_n F 2 (q := 6) dX5_threadsThatAre_5 rfl rfl rfl ?_
      refine v_get F (C := RX5) (T := TX5) (N := 14) (ci := 5) (v := VI (S 0 8)) 0 9 hin5 rfl cw_at0 (by decide) (by decide +kernel) rfl (q := 9) dX5_threadsThatAre_6 rfl ?_
      have b_2 := And.intro (hI.sc 8 (by decide)) (hI.1 0 8 (by omega)).2
      refine v_icmp_ge F (tgt := 34) (q := 12) (by omega) (by omega) dX5_threadsThatAre_9 rfl rfl (fun h_3 => ?_) (fun h_3 => ?_)
      · refine v_iload_n F 1 (q := 35) dX5_threadsThatAre_34 rfl rfl rfl ?_
        exact ret _ _ _ _ _ _ (Nat.zero_le _) (Nat.zero_le _) dX5_threadsThatAre_35 (⟨rfl, by rw [hv2, show t = tcn S from (by unfold tcn; omega)]⟩)
      · refine v_aload_n F 2 (q := 13) dX5_threadsThatAre_12 rfl rfl rfl ?_
        refine v_get F (C := RX5) (T := TX5) (N := 14) (ci := 5) (v := .ref (h 4)) 0 3 hin5 rfl cw_at0 (by decide) (by decide +kernel) rfl (q := 16) dX5_threadsThatAre_13 rfl ?_
        refine v_iload_n F 0 (q := 17) dX5_threadsThatAre_16 rfl rfl rfl ?_
        refine v_aald F (j := t) (b := h (15 + t)) 4 2 rfl cw_at4 rfl (by omega) (by decide) rfl (q := 18) dX5_threadsThatAre_17 rfl ?_
        refine v_get F (C := RX1) (T := TX1) (N := 6) (ci := 1) (v := VI (S 8 t)) (15 + t) 3 hin1 rfl (cw_cord t (by omega)) (by decide) (by decide +kernel) rfl (q := 21) dX5_threadsThatAre_18 rfl ?_
        have b_4 := hI.st t
        refine v_iload_n F 3 (q := 22) dX5_threadsThatAre_21 rfl rfl rfl ?_
        refine v_icmp_ne F (tgt := 28) (q := 25) (by omega) (by omega) dX5_threadsThatAre_22 rfl rfl (fun h_5 => ?_) (fun h_5 => ?_)
        · refine v_iinc F (q := 31) (z := ((t + 1 : Nat) : Int)) 0 [(3, VI ((t + 1 : Nat) : Int)), (2, VI found), (0, .ref (h 0)), (1, VI a0)] dX5_threadsThatAre_28 rfl (by decide) (by omega) rfl rfl ?_
          refine v_goto F (tgt := 4) dX5_threadsThatAre_31 rfl ?_
          exact ih_4 found (t + 1) (by refine ⟨by omega, ?_⟩; rw [cnt_s, ← hv2]; simp [onT, crossB, *]) (by omega)
        · refine v_iinc F (q := 28) (z := found + 1) 1 [(2, VI (found + 1)), (3, VI ((t : Nat) : Int)), (0, .ref (h 0)), (1, VI a0)] dX5_threadsThatAre_25 rfl (by decide) rfl rfl rfl ?_
          refine v_iinc F (q := 31) (z := ((t + 1 : Nat) : Int)) 1 [(3, VI ((t + 1 : Nat) : Int)), (2, VI (found + 1)), (0, .ref (h 0)), (1, VI a0)] dX5_threadsThatAre_28 rfl (by decide) (by omega) rfl rfl ?_
          refine v_goto F (tgt := 4) dX5_threadsThatAre_31 rfl ?_
          exact ih_4 (found + 1) (t + 1) (by refine ⟨by omega, ?_⟩; rw [cnt_s, ← hv2]; simp [onT, crossB, *]) (by omega)
  exact L4_1 _ 0 0 (by exact ⟨by omega, rfl⟩) (Nat.lt_succ_self _)
theorem hdX5_threadsFrom : yX5_threadsFrom.cls = RX5 ∧ yX5_threadsFrom.cls ≠ "java/lang/invoke/MethodHandle" ∧ yX5_threadsFrom.cls ≠ "java/lang/invoke/VarHandle" ∧ (parseMethodDescriptor yX5_threadsFrom.desc).map (fun d => d.parameters.length) = some 2 := by decide +kernel
set_option maxRecDepth 100000 in
set_option maxHeartbeats 4000000 in
theorem kX5_threadsFrom {l : Launch} (hst : l.stackTraces = false) {k : Nat → ClassId} {h : Nat → Nat} {S Z : Nat → Nat → Int} (hI : Inv S) {a0 a1 : Int} (g0 : R32 a0) (g1 : R32 a1) : v_Ci l k yX5_threadsFrom wsX5_threadsFrom ({ frames := 0, cells := 0, slots := 0, locals := 0 } : Room) [.ref (h 0), VI a0, VI a1] (cw k h S Z) (fun a u => u = cw k h S Z ∧ a = cnt (onT S a0 a1) (tcn S)) := by
  refine v_ofI (cc := cX5_threadsFrom) (nL := 5) (by decide +kernel) rfl hst (Nat.le_of_ble_eq_true rfl) (fun _ _ _ => rfl) (fun XX F ret => ?_)
  have hin1 : ∀ w ∈ wsX10, w ∈ wsX5_threadsFrom := by decide +kernel
  have hin5 : ∀ w ∈ wsX50, w ∈ wsX5_threadsFrom := by decide +kernel
  have b7 := hI.mc
  have b8 := hI.cc
  show V XX (cw k h S Z) 0 0 0 [(0, .ref (h 0)), (1, VI a0), (2, VI a1)] []
  refine v_const F (q := 1) dX5_threadsFrom_0 rfl ?_
  refine v_istore_n F (q := 2) [(3, VI 0), (0, .ref (h 0)), (1, VI a0), (2, VI a1)] dX5_threadsFrom_1 rfl (by decide) rfl rfl ?_
  refine v_const F (q := 3) dX5_threadsFrom_2 rfl ?_
  refine v_istore F (q := 5) [(4, VI 0), (3, VI 0), (0, .ref (h 0)), (1, VI a0), (2, VI a1)] dX5_threadsFrom_3 (by decide) rfl rfl ?_
  have L5_1 : ∀ (fu : Nat) (found : Int) (t : Nat), ((t : Int) ≤ S 0 8 ∧ found = cnt (onT S a0 a1) t) → (S 0 8 - t).toNat < fu → V XX (cw k h S Z) 0 0 5 [(4, VI ((t : Nat) : Int)), (3, VI found), (0, .ref (h 0)), (1, VI a0), (2, VI a1)] [] := by
    intro fu_5
    induction fu_5 with
    | zero => intros; omega
    | succ fu_5 ih_5 =>
      intro found t hv hm_5
      obtain ⟨hv1, hv2⟩ := hv
      have hn := cnt_nn (onT S a0 a1) t
      refine v_iload F 0 (q := 7) dX5_threadsFrom_5 rfl rfl ?_
      refine v_aload_n F 2 (q := 8) dX5_threadsFrom_7 rfl rfl rfl ?_
      refine v_get F (C := RX5) (T := TX5) (N := 14) (ci := 5) (v := VI (S 0 8)) 0 9 hin5 rfl cw_at0 (by decide) (by decide +kernel) rfl (q := 11) dX5_threadsFrom_8 rfl ?_
      have b_2 := And.intro (hI.sc 8 (by decide)) (hI.1 0 8 (by omega)).2
      refine v_icmp_ge F (tgt := 51) (q := 14) (by omega) (by omega) dX5_threadsFrom_11 rfl rfl (fun h_3 => ?_) (fun h_3 => ?_)
      · refine v_iload_n F 1 (q := 52) dX5_threadsFrom_51 rfl rfl rfl ?_
        exact ret _ _ _ _ _ _ (Nat.zero_le _) (Nat.zero_le _) dX5_threadsFrom_52 (⟨rfl, by rw [hv2, show t = tcn S from (by unfold tcn; omega)]⟩)
      · refine v_aload_n F 2 (q := 15) dX5_threadsFrom_14 rfl rfl rfl ?_
        refine v_get F (C := RX5) (T := TX5) (N := 14) (ci := 5) (v := .ref (h 4)) 0 3 hin5 rfl cw_at0 (by decide) (by decide +kernel) rfl (q := 18) dX5_threadsFrom_15 rfl ?_
        refine v_iload F 0 (q := 20) dX5_threadsFrom_18 rfl rfl ?_
        refine v_aald F (j := t) (b := h (15 + t)) 4 2 rfl cw_at4 rfl (by omega) (by decide) rfl (q := 21) dX5_threadsFrom_20 rfl ?_
        refine v_get F (C := RX1) (T := TX1) (N := 6) (ci := 1) (v := VI (S 5 t)) (15 + t) 0 hin1 rfl (cw_cord t (by omega)) (by decide) (by decide +kernel) rfl (q := 24) dX5_threadsFrom_21 rfl ?_
        have b_4 := hI.th t
        refine v_iload_n F 3 (q := 25) dX5_threadsFrom_24 rfl rfl rfl ?_
        refine v_icmp_ne F (tgt := 45) (q := 28) (by omega) (by omega) dX5_threadsFrom_25 rfl rfl (fun h_5 => ?_) (fun h_5 => ?_)
        · refine v_iinc F (q := 48) (z := ((t + 1 : Nat) : Int)) 0 [(4, VI ((t + 1 : Nat) : Int)), (3, VI found), (0, .ref (h 0)), (1, VI a0), (2, VI a1)] dX5_threadsFrom_45 rfl (by decide) (by omega) rfl rfl ?_
          refine v_goto F (tgt := 5) dX5_threadsFrom_48 rfl ?_
          exact ih_5 found (t + 1) (by refine ⟨by omega, ?_⟩; rw [cnt_s, ← hv2]; simp [onT, crossB, *]) (by omega)
        · refine v_aload_n F 2 (q := 29) dX5_threadsFrom_28 rfl rfl rfl ?_
          refine v_get F (C := RX5) (T := TX5) (N := 14) (ci := 5) (v := .ref (h 4)) 0 3 hin5 rfl cw_at0 (by decide) (by decide +kernel) rfl (q := 32) dX5_threadsFrom_29 rfl ?_
          refine v_iload F 0 (q := 34) dX5_threadsFrom_32 rfl rfl ?_
          refine v_aald F (j := t) (b := h (15 + t)) 4 2 rfl cw_at4 rfl (by omega) (by decide) rfl (q := 35) dX5_threadsFrom_34 rfl ?_
          refine v_get F (C := RX1) (T := TX1) (N := 6) (ci := 1) (v := VI (S 8 t)) (15 + t) 3 hin1 rfl (cw_cord t (by omega)) (by decide) (by decide +kernel) rfl (q := 38) dX5_threadsFrom_35 rfl ?_
          have b_6 := hI.st t
          refine v_iload_n F 4 (q := 39) dX5_threadsFrom_38 rfl rfl rfl ?_
          refine v_icmp_ne F (tgt := 45) (q := 42) (by omega) (by omega) dX5_threadsFrom_39 rfl rfl (fun h_7 => ?_) (fun h_7 => ?_)
          · refine v_iinc F (q := 48) (z := ((t + 1 : Nat) : Int)) 0 [(4, VI ((t + 1 : Nat) : Int)), (3, VI found), (0, .ref (h 0)), (1, VI a0), (2, VI a1)] dX5_threadsFrom_45 rfl (by decide) (by omega) rfl rfl ?_
            refine v_goto F (tgt := 5) dX5_threadsFrom_48 rfl ?_
            exact ih_5 found (t + 1) (by refine ⟨by omega, ?_⟩; rw [cnt_s, ← hv2]; simp [onT, crossB, *]) (by omega)
          · refine v_iinc F (q := 45) (z := found + 1) 1 [(3, VI (found + 1)), (4, VI ((t : Nat) : Int)), (0, .ref (h 0)), (1, VI a0), (2, VI a1)] dX5_threadsFrom_42 rfl (by decide) rfl rfl rfl ?_
            refine v_iinc F (q := 48) (z := ((t + 1 : Nat) : Int)) 1 [(4, VI ((t + 1 : Nat) : Int)), (3, VI (found + 1)), (0, .ref (h 0)), (1, VI a0), (2, VI a1)] dX5_threadsFrom_45 rfl (by decide) (by omega) rfl rfl ?_
            refine v_goto F (tgt := 5) dX5_threadsFrom_48 rfl ?_
            exact ih_5 (found + 1) (t + 1) (by refine ⟨by omega, ?_⟩; rw [cnt_s, ← hv2]; simp [onT, crossB, *]) (by omega)
  exact L5_1 _ 0 0 (by exact ⟨by omega, rfl⟩) (Nat.lt_succ_self _)
theorem hdX5_isHeld : yX5_isHeld.cls = RX5 ∧ yX5_isHeld.cls ≠ "java/lang/invoke/MethodHandle" ∧ yX5_isHeld.cls ≠ "java/lang/invoke/VarHandle" ∧ (parseMethodDescriptor yX5_isHeld.desc).map (fun d => d.parameters.length) = some 1 := by decide +kernel
set_option maxRecDepth 100000 in
set_option maxHeartbeats 4000000 in
theorem kX5_isHeld {l : Launch} (hst : l.stackTraces = false) {k : Nat → ClassId} {h : Nat → Nat} {S Z : Nat → Nat → Int} (hI : Inv S) {a0 : Int} (g0 : R32 a0) : v_Ci l k yX5_isHeld wsX5_isHeld ({ frames := 1, cells := 0, slots := 0, locals := 24 } : Room) [.ref (h 0), VI a0] (cw k h S Z) (fun a u => u = cw k h S Z ∧ vB (heldB S a0 = true) a) := by
  refine v_ofI (cc := cX5_isHeld) (nL := 2) (by decide +kernel) rfl hst (Nat.le_of_ble_eq_true rfl) (fun _ _ hp => vB_n hp.2) (fun XX F ret => ?_)
  have b7 := hI.mc
  have b8 := hI.cc
  show V XX (cw k h S Z) 0 0 0 [(0, .ref (h 0)), (1, VI a0)] []
  refine v_aload_n F 0 (q := 1) dX5_isHeld_0 rfl rfl rfl ?_
  refine v_iload_n F 1 (q := 2) dX5_isHeld_1 rfl rfl rfl ?_
  refine v_const F (q := 3) dX5_isHeld_2 rfl ?_
  refine v_callVi0 F (kX5_threadsFrom hst (k := k) (h := h) (S := S) (Z := Z) hI (a0 := a0) (a1 := 1) (by omega) (by omega)) gX5_isHeld_X5_threadsFrom rfl hdX5_threadsFrom ⟨by decide, by decide⟩ 0 cw_at0 rfl rfl rfl (Nat.le_of_ble_eq_true rfl) ⟨(Nat.zero_le _), (Nat.zero_le _)⟩ (q := 6) dX5_isHeld_3 rfl ?_
  rintro a_1 _ ⟨rfl, h_1⟩
  have hc_1 := cnt_nn (onT S a0 1) (tcn S)
  unfold tcn at hc_1 h_1
  refine v_if_le F (tgt := 13) (q := 9) (by omega) dX5_isHeld_6 rfl rfl (fun h_2 => ?_) (fun h_2 => ?_)
  · refine v_const F (q := 14) dX5_isHeld_13 rfl ?_
    exact ret _ _ _ _ _ _ (Nat.zero_le _) (Nat.zero_le _) dX5_isHeld_14 (⟨rfl, vB_0 (by unfold heldB tcn; simp only [Bool.and_eq_true, decide_eq_true_eq]; omega)⟩)
  · refine v_const F (q := 10) dX5_isHeld_9 rfl ?_
    refine v_goto F (tgt := 14) dX5_isHeld_10 rfl ?_
    exact ret _ _ _ _ _ _ (Nat.zero_le _) (Nat.zero_le _) dX5_isHeld_14 (⟨rfl, vB_1 (by unfold heldB tcn; simp only [Bool.and_eq_true, decide_eq_true_eq]; omega)⟩)
theorem hdX5_looseThreadsFrom : yX5_looseThreadsFrom.cls = RX5 ∧ yX5_looseThreadsFrom.cls ≠ "java/lang/invoke/MethodHandle" ∧ yX5_looseThreadsFrom.cls ≠ "java/lang/invoke/VarHandle" ∧ (parseMethodDescriptor yX5_looseThreadsFrom.desc).map (fun d => d.parameters.length) = some 1 := by decide +kernel
set_option maxRecDepth 100000 in
set_option maxHeartbeats 4000000 in
theorem kX5_looseThreadsFrom {l : Launch} (hst : l.stackTraces = false) {k : Nat → ClassId} {h : Nat → Nat} {S Z : Nat → Nat → Int} (hI : Inv S) {a0 : Int} (g0 : R32 a0) : v_Ci l k yX5_looseThreadsFrom wsX5_looseThreadsFrom ({ frames := 1, cells := 0, slots := 0, locals := 24 } : Room) [.ref (h 0), VI a0] (cw k h S Z) (fun a u => u = cw k h S Z ∧ a = looseN S a0 ∧ 0 ≤ a ∧ a ≤ 8) := by
  refine v_ofI (cc := cX5_looseThreadsFrom) (nL := 2) (by decide +kernel) rfl hst (Nat.le_of_ble_eq_true rfl) (fun _ _ _ => rfl) (fun XX F ret => ?_)
  have b7 := hI.mc
  have b8 := hI.cc
  show V XX (cw k h S Z) 0 0 0 [(0, .ref (h 0)), (1, VI a0)] []
  refine v_aload_n F 0 (q := 1) dX5_looseThreadsFrom_0 rfl rfl rfl ?_
  refine v_iload_n F 1 (q := 2) dX5_looseThreadsFrom_1 rfl rfl rfl ?_
  refine v_const F (q := 3) dX5_looseThreadsFrom_2 rfl ?_
  refine v_callVi0 F (kX5_threadsFrom hst (k := k) (h := h) (S := S) (Z := Z) hI (a0 := a0) (a1 := 0) (by omega) (by omega)) gX5_looseThreadsFrom_X5_threadsFrom rfl hdX5_threadsFrom ⟨by decide, by decide⟩ 0 cw_at0 rfl rfl rfl (Nat.le_of_ble_eq_true rfl) ⟨(Nat.zero_le _), (Nat.zero_le _)⟩ (q := 6) dX5_looseThreadsFrom_3 rfl ?_
  rintro a_1 _ ⟨rfl, h_1⟩
  have hc_1 := cnt_nn (onT S a0 0) (tcn S)
  unfold tcn at hc_1 h_1
  exact ret _ _ _ _ _ _ (Nat.zero_le _) (Nat.zero_le _) dX5_looseThreadsFrom_6 (⟨rfl, by unfold looseN tcn; omega, by omega, by omega⟩)
theorem hdX1_span : yX1_span.cls = RX1 ∧ yX1_span.cls ≠ "java/lang/invoke/MethodHandle" ∧ yX1_span.cls ≠ "java/lang/invoke/VarHandle" ∧ (parseMethodDescriptor yX1_span.desc).map (fun d => d.parameters.length) = some 2 := by decide +kernel
set_option maxRecDepth 100000 in
set_option maxHeartbeats 4000000 in
theorem kX1_span {l : Launch} (hst : l.stackTraces = false) {k : Nat → ClassId} {h : Nat → Nat} {S Z : Nat → Nat → Int} {t : Nat} (ht : t < 8) {a0 a1 : Int} (g0 : R32 a0) (g1 : R32 a1) : v_Cv l k yX1_span wsX1_span ({ frames := 1, cells := 0, slots := 0, locals := 21 } : Room) [.ref (h (15 + t)), VI a0, VI a1] (cw k h S Z) (fun u => u = cw k h (u2 (u2 S 13 t (min a0 a1)) 14 t (max a0 a1)) Z) := by
  refine v_ofV (cc := cX1_span) (nL := 3) (by decide +kernel) rfl hst (Nat.le_of_ble_eq_true rfl) (fun XX F ret => ?_)
  have hin1 : ∀ w ∈ wsX10, w ∈ wsX1_span := by decide +kernel
  show V XX (cw k h S Z) 0 0 0 [(0, .ref (h (15 + t))), (1, VI a0), (2, VI a1)] []
  refine v_aload_n F 0 (q := 1) dX1_span_0 rfl rfl rfl ?_
  refine v_iload_n F 1 (q := 2) dX1_span_1 rfl rfl rfl ?_
  refine v_iload_n F 2 (q := 3) dX1_span_2 rfl rfl rfl ?_
  refine v_min F (by omega) (by omega) (by decide +kernel) (by decide +kernel) (by decide +kernel) (by decide +kernel) ⟨by decide, Nat.le_of_ble_eq_true rfl⟩ ⟨(Nat.zero_le _), (Nat.zero_le _)⟩ (q := 6) dX1_span_3 rfl ?_
  refine v_put F (C := RX1) (T := TX1) (N := 6) (ci := 1) (ty := .int) (15 + t) 4 (cw k h (u2 S 13 t (min a0 a1)) Z) hin1 tyX1 tyX1_ok nmX1 rfl (cw_cord t (by omega)) (by decide) (by decide +kernel) rfl (by decide +kernel) rfl rfl (Nat.le_of_ble_eq_true rfl) (cw_cord4 t (by omega) _) (q := 9) dX1_span_6 rfl ?_
  refine v_aload_n F 0 (q := 10) dX1_span_9 rfl rfl rfl ?_
  refine v_iload_n F 1 (q := 11) dX1_span_10 rfl rfl rfl ?_
  refine v_iload_n F 2 (q := 12) dX1_span_11 rfl rfl rfl ?_
  refine v_max F (by omega) (by omega) (by decide +kernel) (by decide +kernel) (by decide +kernel) (by decide +kernel) ⟨by decide, Nat.le_of_ble_eq_true rfl⟩ ⟨(Nat.zero_le _), (Nat.zero_le _)⟩ (q := 15) dX1_span_12 rfl ?_
  refine v_put F (C := RX1) (T := TX1) (N := 6) (ci := 1) (ty := .int) (15 + t) 5 (cw k h (u2 (u2 S 13 t (min a0 a1)) 14 t (max a0 a1)) Z) hin1 tyX1 tyX1_ok nmX1 rfl (cw_cord t (by omega)) (by decide) (by decide +kernel) rfl (by decide +kernel) rfl rfl (Nat.le_of_ble_eq_true rfl) (cw_cord5 t (by omega) _) (q := 18) dX1_span_15 rfl ?_
  exact ret _ _ _ _ _ (Nat.zero_le _) (Nat.zero_le _) dX1_span_18 (rfl)
theorem hdX1_crosses : yX1_crosses.cls = RX1 ∧ yX1_crosses.cls ≠ "java/lang/invoke/MethodHandle" ∧ yX1_crosses.cls ≠ "java/lang/invoke/VarHandle" ∧ (parseMethodDescriptor yX1_crosses.desc).map (fun d => d.parameters.length) = some 1 := by decide +kernel
set_option maxRecDepth 100000 in
set_option maxHeartbeats 4000000 in
theorem kX1_crosses {l : Launch} (hst : l.stackTraces = false) {k : Nat → ClassId} {h : Nat → Nat} {S Z : Nat → Nat → Int} (hI : Inv S) {a b : Nat} (ha : a < 8) (hb : b < 8) : v_Ci l k yX1_crosses wsX1_crosses ({ frames := 1, cells := 0, slots := 0, locals := 21 } : Room) [.ref (h (15 + a)), .ref (h (15 + b))] (cw k h S Z) (fun z u => u = cw k h S Z ∧ vB (crossB S a b = true) z) := by
  refine v_ofI (cc := cX1_crosses) (nL := 2) (by decide +kernel) rfl hst (Nat.le_of_ble_eq_true rfl) (fun _ _ hp => vB_n hp.2) (fun XX F ret => ?_)
  have hin1 : ∀ w ∈ wsX10, w ∈ wsX1_crosses := by decide +kernel
  have b7 := hI.mc
  have b8 := hI.cc
  show V XX (cw k h S Z) 0 0 0 [(0, .ref (h (15 + a))), (1, .ref (h (15 + b)))] []
  refine v_apart (fun hap => ?_)
  refine v_aload_n F 1 (q := 1) dX1_crosses_0 rfl rfl rfl ?_
  refine v_aload_n F 0 (q := 2) dX1_crosses_1 rfl rfl rfl ?_
  refine v_acmp_eq F (tgt := 21) (q := 5) dX1_crosses_2 rfl rfl (fun h_1 => ?_) (fun h_1 => ?_)
  · try have heq : a = b := by first | (have hq := hap _ _ _ _ (cw_cord b hb) (cw_cord a ha) h_1; omega) | skip
    refine v_const F (q := 22) dX1_crosses_21 rfl ?_
    exact ret _ _ _ _ _ _ (Nat.zero_le _) (Nat.zero_le _) dX1_crosses_22 (⟨rfl, vB_0 (by unfold crossB; simp only [Bool.and_eq_true, decide_eq_true_eq]; omega)⟩)
  · have hne : a ≠ b := fun e => h_1 (by rw [e])
    refine v_aload_n F 0 (q := 6) dX1_crosses_5 rfl rfl rfl ?_
    refine v_get F (C := RX1) (T := TX1) (N := 6) (ci := 1) (v := VI (S 8 a)) (15 + a) 3 hin1 rfl (cw_cord a (by omega)) (by decide) (by decide +kernel) rfl (q := 9) dX1_crosses_6 rfl ?_
    have b_2 := hI.st a
    refine v_const F (q := 10) dX1_crosses_9 rfl ?_
    refine v_icmp_eq F (tgt := 21) (q := 13) (by omega) (by omega) dX1_crosses_10 rfl rfl (fun h_3 => ?_) (fun h_3 => ?_)
    · try have heq : a = b := by first | (have hq := hap _ _ _ _ (cw_cord b hb) (cw_cord a ha) h_1; omega) | skip
      refine v_const F (q := 22) dX1_crosses_21 rfl ?_
      exact ret _ _ _ _ _ _ (Nat.zero_le _) (Nat.zero_le _) dX1_crosses_22 (⟨rfl, vB_0 (by unfold crossB; simp only [Bool.and_eq_true, decide_eq_true_eq]; omega)⟩)
    · refine v_aload_n F 1 (q := 14) dX1_crosses_13 rfl rfl rfl ?_
      refine v_get F (C := RX1) (T := TX1) (N := 6) (ci := 1) (v := VI (S 8 b)) (15 + b) 3 hin1 rfl (cw_cord b (by omega)) (by decide) (by decide +kernel) rfl (q := 17) dX1_crosses_14 rfl ?_
      have b_4 := hI.st b
      refine v_const F (q := 18) dX1_crosses_17 rfl ?_
      refine v_icmp_ne F (tgt := 23) (q := 21) (by omega) (by omega) dX1_crosses_18 rfl rfl (fun h_5 => ?_) (fun h_5 => ?_)
      · refine v_aload_n F 0 (q := 24) dX1_crosses_23 rfl rfl rfl ?_
        refine v_get F (C := RX1) (T := TX1) (N := 6) (ci := 1) (v := VI (S 13 a)) (15 + a) 4 hin1 rfl (cw_cord a (by omega)) (by decide) (by decide +kernel) rfl (q := 27) dX1_crosses_24 rfl ?_
        have b_6 := And.intro (hI.pos 13 a (by omega) (by omega)) (hI.1 13 a (by omega)).2
        refine v_aload_n F 1 (q := 28) dX1_crosses_27 rfl rfl rfl ?_
        refine v_get F (C := RX1) (T := TX1) (N := 6) (ci := 1) (v := VI (S 13 b)) (15 + b) 4 hin1 rfl (cw_cord b (by omega)) (by decide) (by decide +kernel) rfl (q := 31) dX1_crosses_28 rfl ?_
        have b_7 := And.intro (hI.pos 13 b (by omega) (by omega)) (hI.1 13 b (by omega)).2
        refine v_max F (by omega) (by omega) (by decide +kernel) (by decide +kernel) (by decide +kernel) (by decide +kernel) ⟨by decide, Nat.le_of_ble_eq_true rfl⟩ ⟨(Nat.zero_le _), (Nat.zero_le _)⟩ (q := 34) dX1_crosses_31 rfl ?_
        refine v_aload_n F 0 (q := 35) dX1_crosses_34 rfl rfl rfl ?_
        refine v_get F (C := RX1) (T := TX1) (N := 6) (ci := 1) (v := VI (S 14 a)) (15 + a) 5 hin1 rfl (cw_cord a (by omega)) (by decide) (by decide +kernel) rfl (q := 38) dX1_crosses_35 rfl ?_
        have b_8 := And.intro (hI.pos 14 a (by omega) (by omega)) (hI.1 14 a (by omega)).2
        refine v_aload_n F 1 (q := 39) dX1_crosses_38 rfl rfl rfl ?_
        refine v_get F (C := RX1) (T := TX1) (N := 6) (ci := 1) (v := VI (S 14 b)) (15 + b) 5 hin1 rfl (cw_cord b (by omega)) (by decide) (by decide +kernel) rfl (q := 42) dX1_crosses_39 rfl ?_
        have b_9 := And.intro (hI.pos 14 b (by omega) (by omega)) (hI.1 14 b (by omega)).2
        refine v_min F (by omega) (by omega) (by decide +kernel) (by decide +kernel) (by decide +kernel) (by decide +kernel) ⟨by decide, Nat.le_of_ble_eq_true rfl⟩ ⟨(Nat.zero_le _), (Nat.zero_le _)⟩ (q := 45) dX1_crosses_42 rfl ?_
        refine v_icmp_ge F (tgt := 52) (q := 48) (by omega) (by omega) dX1_crosses_45 rfl rfl (fun h_10 => ?_) (fun h_10 => ?_)
        · refine v_const F (q := 53) dX1_crosses_52 rfl ?_
          exact ret _ _ _ _ _ _ (Nat.zero_le _) (Nat.zero_le _) dX1_crosses_53 (⟨rfl, vB_0 (by unfold crossB; simp only [Bool.and_eq_true, decide_eq_true_eq]; omega)⟩)
        · refine v_const F (q := 49) dX1_crosses_48 rfl ?_
          refine v_goto F (tgt := 53) dX1_crosses_49 rfl ?_
          exact ret _ _ _ _ _ _ (Nat.zero_le _) (Nat.zero_le _) dX1_crosses_53 (⟨rfl, vB_1 (by unfold crossB; simp only [Bool.and_eq_true, decide_eq_true_eq]; omega)⟩)
      · try have heq : a = b := by first | (have hq := hap _ _ _ _ (cw_cord b hb) (cw_cord a ha) h_1; omega) | skip
        refine v_const F (q := 22) dX1_crosses_21 rfl ?_
        exact ret _ _ _ _ _ _ (Nat.zero_le _) (Nat.zero_le _) dX1_crosses_22 (⟨rfl, vB_0 (by unfold crossB; simp only [Bool.and_eq_true, decide_eq_true_eq]; omega)⟩)
theorem hdX1_wear : yX1_wear.cls = RX1 ∧ yX1_wear.cls ≠ "java/lang/invoke/MethodHandle" ∧ yX1_wear.cls ≠ "java/lang/invoke/VarHandle" ∧ (parseMethodDescriptor yX1_wear.desc).map (fun d => d.parameters.length) = some 0 := by decide +kernel
set_option maxRecDepth 100000 in
set_option maxHeartbeats 4000000 in
theorem kX1_wear {l : Launch} (hst : l.stackTraces = false) {k : Nat → ClassId} {h : Nat → Nat} {S Z : Nat → Nat → Int} {t : Nat} (ht : t < 8) (h7 : 0 ≤ S 7 t ∧ S 7 t ≤ 100) : v_Cv l k yX1_wear wsX1_wear ({ frames := 0, cells := 0, slots := 0, locals := 0 } : Room) [.ref (h (15 + t))] (cw k h S Z) (fun u => u = cw k h (sWear S t) Z) := by
  refine v_ofV (cc := cX1_wear) (nL := 1) (by decide +kernel) rfl hst (Nat.le_of_ble_eq_true rfl) (fun XX F ret => ?_)
  have hin1 : ∀ w ∈ wsX10, w ∈ wsX1_wear := by decide +kernel
  show V XX (cw k h S Z) 0 0 0 [(0, .ref (h (15 + t)))] []
  refine v_aload_n F 0 (q := 1) dX1_wear_0 rfl rfl rfl ?_
  refine v_dup F (q := 2) dX1_wear_1 rfl rfl ?_
  refine v_get F (C := RX1) (T := TX1) (N := 6) (ci := 1) (v := VI (S 7 t)) (15 + t) 2 hin1 rfl (cw_cord t (by omega)) (by decide) (by decide +kernel) rfl (q := 5) dX1_wear_2 rfl ?_
  refine v_const F (q := 6) dX1_wear_5 rfl ?_
  refine v_isub F (q := 7) dX1_wear_6 rfl ?_
  refine v_put F (C := RX1) (T := TX1) (N := 6) (ci := 1) (ty := .int) (15 + t) 2 (cw k h (u2 S 7 t ((S 7 t) - 1)) Z) hin1 tyX1 tyX1_ok nmX1 rfl (cw_cord t (by omega)) (by decide) (by decide +kernel) rfl (by decide +kernel) rfl rfl (Nat.le_of_ble_eq_true rfl) (cw_cord2 t (by omega) _) (q := 10) dX1_wear_7 rfl ?_
  refine v_aload_n F 0 (q := 11) dX1_wear_10 rfl rfl rfl ?_
  refine v_get F (C := RX1) (T := TX1) (N := 6) (ci := 1) (v := VI ((S 7 t) - 1)) (15 + t) 2 hin1 rfl (cw_cord t (by omega)) (by decide) (by decide +kernel) (by simp [cCord, cMast, u2, ur]) (q := 14) dX1_wear_11 rfl ?_
  refine v_if_ne F (tgt := 22) (q := 17) (by omega) dX1_wear_14 rfl rfl (fun h_1 => ?_) (fun h_1 => ?_)
  · exact ret _ _ _ _ _ (Nat.zero_le _) (Nat.zero_le _) dX1_wear_22 (by unfold sWear; rw [if_neg (by omega)])
  · refine v_aload_n F 0 (q := 18) dX1_wear_17 rfl rfl rfl ?_
    refine v_const F (q := 19) dX1_wear_18 rfl ?_
    refine v_put F (C := RX1) (T := TX1) (N := 6) (ci := 1) (ty := .int) (15 + t) 3 (cw k h (u2 (u2 S 7 t ((S 7 t) - 1)) 8 t 2) Z) hin1 tyX1 tyX1_ok nmX1 rfl (cw_cord t (by omega)) (by decide) (by decide +kernel) rfl (by decide +kernel) rfl rfl (Nat.le_of_ble_eq_true rfl) (cw_cord3 t (by omega) _) (q := 22) dX1_wear_19 rfl ?_
    exact ret _ _ _ _ _ (Nat.zero_le _) (Nat.zero_le _) dX1_wear_22 (by unfold sWear; rw [if_pos (by omega)])
theorem hdX3_standing : yX3_standing.cls = RX3 ∧ yX3_standing.cls ≠ "java/lang/invoke/MethodHandle" ∧ yX3_standing.cls ≠ "java/lang/invoke/VarHandle" ∧ (parseMethodDescriptor yX3_standing.desc).map (fun d => d.parameters.length) = some 1 := by decide +kernel
set_option maxRecDepth 100000 in
set_option maxHeartbeats 4000000 in
theorem kX3_standing {l : Launch} (hst : l.stackTraces = false) {k : Nat → ClassId} {h : Nat → Nat} {S Z : Nat → Nat → Int} (hI : Inv S) {m : Nat} (hm : m < 3) {f : Nat → Int} (hf : 0 ≤ f m ∧ f m ≤ 9) : v_Ci l k yX3_standing wsX3_standing ({ frames := 0, cells := 0, slots := 0, locals := 0 } : Room) [.ref (h (9 + m)), VI (f m)] (cw k h S Z) (fun a u => u = cw k h S Z ∧ a = stand S f m ∧ 0 ≤ a ∧ a ≤ 50) := by
  refine v_ofI (cc := cX3_standing) (nL := 2) (by decide +kernel) rfl hst (Nat.le_of_ble_eq_true rfl) (fun _ _ _ => rfl) (fun XX F ret => ?_)
  have hin3 : ∀ w ∈ wsX30, w ∈ wsX3_standing := by decide +kernel
  have b7 := hI.mc
  have b8 := hI.cc
  show V XX (cw k h S Z) 0 0 0 [(0, .ref (h (9 + m))), (1, VI (f m))] []
  refine v_aload_n F 0 (q := 1) dX3_standing_0 rfl rfl rfl ?_
  refine v_get F (C := RX3) (T := TX3) (N := 4) (ci := 3) (v := VI (S 2 m)) (9 + m) 2 hin3 rfl (cw_mast m (by omega)) (by decide) (by decide +kernel) rfl (q := 4) dX3_standing_1 rfl ?_
  have b_1 := hI.tall m
  refine v_bipush F (q := 6) dX3_standing_4 rfl rfl ?_
  refine v_iload_n F 1 (q := 7) dX3_standing_6 rfl rfl rfl ?_
  refine v_isub F (q := 8) dX3_standing_7 rfl ?_
  refine v_imul F (q := 9) dX3_standing_8 rfl ?_
  refine v_bipush F (q := 11) dX3_standing_9 rfl rfl ?_
  have hb := mul_bd (hI.tall m).1 (hI.tall m).2 (show 0 ≤ 9 - f m by omega) (show 9 - f m ≤ 9 by omega)
  refine v_idiv F (q := 12) (by omega) (by omega) dX3_standing_11 rfl ?_
  exact ret _ _ _ _ _ _ (Nat.zero_le _) (Nat.zero_le _) dX3_standing_12 (⟨rfl, rfl, (stand_bd hI hf).1, (stand_bd hI hf).2⟩)
theorem hdX3_reach : yX3_reach.cls = RX3 ∧ yX3_reach.cls ≠ "java/lang/invoke/MethodHandle" ∧ yX3_reach.cls ≠ "java/lang/invoke/VarHandle" ∧ (parseMethodDescriptor yX3_reach.desc).map (fun d => d.parameters.length) = some 1 := by decide +kernel
set_option maxRecDepth 100000 in
set_option maxHeartbeats 4000000 in
theorem kX3_reach {l : Launch} (hst : l.stackTraces = false) {k : Nat → ClassId} {h : Nat → Nat} {S Z : Nat → Nat → Int} (hI : Inv S) {m : Nat} (hm : m < 3) {f : Nat → Int} (hf : 0 ≤ f m ∧ f m ≤ 9) : v_Ci l k yX3_reach wsX3_reach ({ frames := 0, cells := 0, slots := 0, locals := 0 } : Room) [.ref (h (9 + m)), VI (f m)] (cw k h S Z) (fun a u => u = cw k h S Z ∧ a = reachM S f m ∧ 0 ≤ a ∧ a ≤ 50) := by
  refine v_ofI (cc := cX3_reach) (nL := 2) (by decide +kernel) rfl hst (Nat.le_of_ble_eq_true rfl) (fun _ _ _ => rfl) (fun XX F ret => ?_)
  have hin3 : ∀ w ∈ wsX30, w ∈ wsX3_reach := by decide +kernel
  have b7 := hI.mc
  have b8 := hI.cc
  show V XX (cw k h S Z) 0 0 0 [(0, .ref (h (9 + m))), (1, VI (f m))] []
  refine v_aload_n F 0 (q := 1) dX3_reach_0 rfl rfl rfl ?_
  refine v_get F (C := RX3) (T := TX3) (N := 4) (ci := 3) (v := VI (S 2 m)) (9 + m) 2 hin3 rfl (cw_mast m (by omega)) (by decide) (by decide +kernel) rfl (q := 4) dX3_reach_1 rfl ?_
  have b_1 := hI.tall m
  refine v_iload_n F 1 (q := 5) dX3_reach_4 rfl rfl rfl ?_
  refine v_imul F (q := 6) dX3_reach_5 rfl ?_
  refine v_bipush F (q := 8) dX3_reach_6 rfl rfl ?_
  have hb := mul_bd (hI.tall m).1 (hI.tall m).2 hf.1 hf.2
  refine v_idiv F (q := 9) (by omega) (by omega) dX3_reach_8 rfl ?_
  exact ret _ _ _ _ _ _ (Nat.zero_le _) (Nat.zero_le _) dX3_reach_9 (⟨rfl, rfl, (reach_bd hI hf).1, (reach_bd hI hf).2⟩)
theorem hdX3_widestYard : yX3_widestYard.cls = RX3 ∧ yX3_widestYard.cls ≠ "java/lang/invoke/MethodHandle" ∧ yX3_widestYard.cls ≠ "java/lang/invoke/VarHandle" ∧ (parseMethodDescriptor yX3_widestYard.desc).map (fun d => d.parameters.length) = some 0 := by decide +kernel
set_option maxRecDepth 100000 in
set_option maxHeartbeats 4000000 in
theorem kX3_widestYard {l : Launch} (hst : l.stackTraces = false) {k : Nat → ClassId} {h : Nat → Nat} {S Z : Nat → Nat → Int} (hI : Inv S) {m : Nat} (hm : m < 3) : v_Ci l k yX3_widestYard wsX3_widestYard ({ frames := 1, cells := 0, slots := 0, locals := 21 } : Room) [.ref (h (9 + m))] (cw k h S Z) (fun a u => u = cw k h S Z ∧ a = widest S m ∧ 0 ≤ a ∧ a ≤ 100) := by
  refine v_ofI (cc := cX3_widestYard) (nL := 3) (by decide +kernel) rfl hst (Nat.le_of_ble_eq_true rfl) (fun _ _ _ => rfl) (fun XX F ret => ?_)
  have hin3 : ∀ w ∈ wsX30, w ∈ wsX3_widestYard := by decide +kernel
  have b7 := hI.mc
  have b8 := hI.cc
  show V XX (cw k h S Z) 0 0 0 [(0, .ref (h (9 + m)))] []
  refine v_const F (q := 1) dX3_widestYard_0 rfl ?_
  refine v_istore_n F (q := 2) [(1, VI 0), (0, .ref (h (9 + m)))] dX3_widestYard_1 rfl (by decide) rfl rfl ?_
  refine v_const F (q := 3) dX3_widestYard_2 rfl ?_
  refine v_istore_n F (q := 4) [(2, VI 0), (1, VI 0), (0, .ref (h (9 + m)))] dX3_widestYard_3 rfl (by decide) rfl rfl ?_
  have L4_1 : ∀ (fu : Nat) (wd : Int) (i : Nat), ((i : Int) ≤ S 3 m ∧ wd = mx 0 (S (10 + m)) i) → (S 3 m - i).toNat < fu → V XX (cw k h S Z) 0 0 4 [(2, VI ((i : Nat) : Int)), (1, VI wd), (0, .ref (h (9 + m)))] [] := by
    intro fu_4
    induction fu_4 with
    | zero => intros; omega
    | succ fu_4 ih_4 =>
      intro wd i hv hm_4
      obtain ⟨hv1, hv2⟩ := hv
      have hn := wid_bd hI m i
      have hy := hI.yc m
      refine v_iload_n F 0 (q := 5) dX3_widestYard_4 rfl rfl rfl ?_
      refine v_aload_n F 2 (q := 6) dX3_widestYard_5 rfl rfl rfl ?_
      refine v_get F (C := RX3) (T := TX3) (N := 4) (ci := 3) (v := VI (S 3 m)) (9 + m) 3 hin3 rfl (cw_mast m (by omega)) (by decide) (by decide +kernel) rfl (q := 9) dX3_widestYard_6 rfl ?_
      have b_2 := hI.yc m
      refine v_icmp_ge F (tgt := 29) (q := 12) (by omega) (by omega) dX3_widestYard_9 rfl rfl (fun h_3 => ?_) (fun h_3 => ?_)
      · refine v_iload_n F 1 (q := 30) dX3_widestYard_29 rfl rfl rfl ?_
        exact ret _ _ _ _ _ _ (Nat.zero_le _) (Nat.zero_le _) dX3_widestYard_30 (⟨rfl, by rw [hv2, show i = (S 3 m).toNat from by omega]; rfl, by omega, by omega⟩)
      · refine v_iload_n F 1 (q := 13) dX3_widestYard_12 rfl rfl rfl ?_
        refine v_aload_n F 2 (q := 14) dX3_widestYard_13 rfl rfl rfl ?_
        refine v_get F (C := RX3) (T := TX3) (N := 4) (ci := 3) (v := .ref (h (12 + m))) (9 + m) 0 hin3 rfl (cw_mast m (by omega)) (by decide) (by decide +kernel) rfl (q := 17) dX3_widestYard_14 rfl ?_
        refine v_iload_n F 0 (q := 18) dX3_widestYard_17 rfl rfl rfl ?_
        refine v_iald F (j := i) (12 + m) (cw_yards m (by omega)) rfl (by omega) (by decide) (q := 19) dX3_widestYard_18 rfl ?_
        have b_4 := And.intro (hI.pos (10 + m) i (by omega) (by omega)) (hI.1 (10 + m) i (by omega)).2
        refine v_max F (by omega) (by omega) (by decide +kernel) (by decide +kernel) (by decide +kernel) (by decide +kernel) ⟨by decide, Nat.le_of_ble_eq_true rfl⟩ ⟨(Nat.zero_le _), (Nat.zero_le _)⟩ (q := 22) dX3_widestYard_19 rfl ?_
        refine v_istore_n F (q := 23) [(1, VI (max wd (S (10 + m) i))), (2, VI ((i : Nat) : Int)), (0, .ref (h (9 + m)))] dX3_widestYard_22 rfl (by decide) rfl rfl ?_
        refine v_iinc F (q := 26) (z := ((i + 1 : Nat) : Int)) 1 [(2, VI ((i + 1 : Nat) : Int)), (1, VI (max wd (S (10 + m) i))), (0, .ref (h (9 + m)))] dX3_widestYard_23 rfl (by decide) (by omega) rfl rfl ?_
        refine v_goto F (tgt := 4) dX3_widestYard_26 rfl ?_
        exact ih_4 (max wd (S (10 + m) i)) (i + 1) (by exact ⟨by omega, by rw [mx_s, ← hv2]⟩) (by omega)
  exact L4_1 _ 0 0 (by exact ⟨by have := hI.yc m; omega, rfl⟩) (Nat.lt_succ_self _)
theorem hdX3_digestYardsOnto : yX3_digestYardsOnto.cls = RX3 ∧ yX3_digestYardsOnto.cls ≠ "java/lang/invoke/MethodHandle" ∧ yX3_digestYardsOnto.cls ≠ "java/lang/invoke/VarHandle" ∧ (parseMethodDescriptor yX3_digestYardsOnto.desc).map (fun d => d.parameters.length) = some 1 := by decide +kernel
set_option maxRecDepth 100000 in
set_option maxHeartbeats 4000000 in
theorem kX3_digestYardsOnto {l : Launch} (hst : l.stackTraces = false) {k : Nat → ClassId} {h : Nat → Nat} {S Z : Nat → Nat → Int} (hI : Inv S) {m : Nat} (hm : m < 3) {d : Int64} : v_Cl l k yX3_digestYardsOnto wsX3_digestYardsOnto ({ frames := 0, cells := 0, slots := 0, locals := 0 } : Room) [.ref (h (9 + m)), .long d] (cw k h S Z) (fun a u => u = cw k h S Z ∧ a = dgF d (S (10 + m)) (S 3 m).toNat) := by
  refine v_ofL (cc := cX3_digestYardsOnto) (nL := 6) (by decide +kernel) rfl hst (Nat.le_of_ble_eq_true rfl) (fun XX F ret => ?_)
  have hin3 : ∀ w ∈ wsX30, w ∈ wsX3_digestYardsOnto := by decide +kernel
  have b7 := hI.mc
  have b8 := hI.cc
  show V XX (cw k h S Z) 0 0 0 [(0, .ref (h (9 + m))), (1, .long d)] []
  refine v_lload_n F 1 (q := 1) dX3_digestYardsOnto_0 rfl rfl rfl ?_
  refine v_lstore_n F (q := 2) [(3, .long d), (0, .ref (h (9 + m))), (1, .long d)] dX3_digestYardsOnto_1 rfl (by decide) rfl rfl ?_
  refine v_const F (q := 3) dX3_digestYardsOnto_2 rfl ?_
  refine v_istore F (q := 5) [(5, VI 0), (3, .long d), (0, .ref (h (9 + m))), (1, .long d)] dX3_digestYardsOnto_3 (by decide) rfl rfl ?_
  have L5_1 : ∀ (fu : Nat) (sm : Int64) (i : Nat), ((i : Int) ≤ S 3 m ∧ sm = dgF d (S (10 + m)) i) → (S 3 m - i).toNat < fu → V XX (cw k h S Z) 0 0 5 [(5, VI ((i : Nat) : Int)), (3, .long sm), (0, .ref (h (9 + m)))] [] := by
    intro fu_5
    induction fu_5 with
    | zero => intros; omega
    | succ fu_5 ih_5 =>
      intro sm i hv hm_5
      obtain ⟨hv1, hv2⟩ := hv
      have hy := hI.yc m
      refine v_iload F 0 (q := 7) dX3_digestYardsOnto_5 rfl rfl ?_
      refine v_aload_n F 2 (q := 8) dX3_digestYardsOnto_7 rfl rfl rfl ?_
      refine v_get F (C := RX3) (T := TX3) (N := 4) (ci := 3) (v := VI (S 3 m)) (9 + m) 3 hin3 rfl (cw_mast m (by omega)) (by decide) (by decide +kernel) rfl (q := 11) dX3_digestYardsOnto_8 rfl ?_
      have b_2 := hI.yc m
      refine v_icmp_ge F (tgt := 35) (q := 14) (by omega) (by omega) dX3_digestYardsOnto_11 rfl rfl (fun h_3 => ?_) (fun h_3 => ?_)
      · refine v_lload_n F 1 (q := 36) dX3_digestYardsOnto_35 rfl rfl rfl ?_
        exact ret _ _ _ _ _ _ (Nat.zero_le _) (Nat.zero_le _) dX3_digestYardsOnto_36 (⟨rfl, by rw [hv2, show i = (S 3 m).toNat from by omega]⟩)
      · refine v_lload_n F 1 (q := 15) dX3_digestYardsOnto_14 rfl rfl rfl ?_
        refine v_ldc2 F (v := 31) (q := 18) (by decide +kernel) dX3_digestYardsOnto_15 rfl ?_
        refine v_lmul F (q := 19) dX3_digestYardsOnto_18 rfl ?_
        refine v_aload_n F 2 (q := 20) dX3_digestYardsOnto_19 rfl rfl rfl ?_
        refine v_get F (C := RX3) (T := TX3) (N := 4) (ci := 3) (v := .ref (h (12 + m))) (9 + m) 0 hin3 rfl (cw_mast m (by omega)) (by decide) (by decide +kernel) rfl (q := 23) dX3_digestYardsOnto_20 rfl ?_
        refine v_iload F 0 (q := 25) dX3_digestYardsOnto_23 rfl rfl ?_
        refine v_iald F (j := i) (12 + m) (cw_yards m (by omega)) rfl (by omega) (by decide) (q := 26) dX3_digestYardsOnto_25 rfl ?_
        have b_4 := And.intro (hI.pos (10 + m) i (by omega) (by omega)) (hI.1 (10 + m) i (by omega)).2
        refine v_i2l F (q := 27) dX3_digestYardsOnto_26 rfl ?_
        refine v_ladd F (q := 28) dX3_digestYardsOnto_27 rfl ?_
        refine v_lstore_n F (q := 29) [(3, .long ((sm * 31) + ((iI (S (10 + m) i)).toInt64))), (5, VI ((i : Nat) : Int)), (0, .ref (h (9 + m)))] dX3_digestYardsOnto_28 rfl (by decide) rfl rfl ?_
        refine v_iinc F (q := 32) (z := ((i + 1 : Nat) : Int)) 1 [(5, VI ((i + 1 : Nat) : Int)), (3, .long ((sm * 31) + ((iI (S (10 + m) i)).toInt64))), (0, .ref (h (9 + m)))] dX3_digestYardsOnto_29 rfl (by decide) (by omega) rfl rfl ?_
        refine v_goto F (tgt := 5) dX3_digestYardsOnto_32 rfl ?_
        exact ih_5 ((sm * 31) + ((iI (S (10 + m) i)).toInt64)) (i + 1) (by exact ⟨by omega, by rw [dgF_s, ← hv2]; rfl⟩) (by omega)
  refine v_sub [0, 1, 2] rfl ?_
  exact L5_1 _ d 0 (by exact ⟨by have := hI.yc m; omega, rfl⟩) (Nat.lt_succ_self _)
theorem hdX0_digestOnto : yX0_digestOnto.cls = RX0 ∧ yX0_digestOnto.cls ≠ "java/lang/invoke/MethodHandle" ∧ yX0_digestOnto.cls ≠ "java/lang/invoke/VarHandle" ∧ (parseMethodDescriptor yX0_digestOnto.desc).map (fun d => d.parameters.length) = some 1 := by decide +kernel
set_option maxRecDepth 100000 in
set_option maxHeartbeats 4000000 in
theorem kX0_digestOnto {l : Launch} (hst : l.stackTraces = false) {k : Nat → ClassId} {h : Nat → Nat} {S Z : Nat → Nat → Int} (hI : Inv S) {d : Int64} : v_Cl l k yX0_digestOnto wsX0_digestOnto ({ frames := 0, cells := 0, slots := 0, locals := 0 } : Room) [.ref (h 1), .long d] (cw k h S Z) (fun a u => u = cw k h S Z ∧ a = dg (dg (dg (dg d (S 0 0)) (S 0 1)) (S 0 2)) (S 0 3)) := by
  refine v_ofL (cc := cX0_digestOnto) (nL := 3) (by decide +kernel) rfl hst (Nat.le_of_ble_eq_true rfl) (fun XX F ret => ?_)
  have hin0 : ∀ w ∈ wsX00, w ∈ wsX0_digestOnto := by decide +kernel
  have b7 := hI.mc
  have b8 := hI.cc
  show V XX (cw k h S Z) 0 0 0 [(0, .ref (h 1)), (1, .long d)] []
  refine v_lload_n F 1 (q := 1) dX0_digestOnto_0 rfl rfl rfl ?_
  refine v_ldc2 F (v := 31) (q := 4) (by decide +kernel) dX0_digestOnto_1 rfl ?_
  refine v_lmul F (q := 5) dX0_digestOnto_4 rfl ?_
  refine v_aload_n F 0 (q := 6) dX0_digestOnto_5 rfl rfl rfl ?_
  refine v_get F (C := RX0) (T := TX0) (N := 4) (ci := 0) (v := VI (S 0 0)) 1 0 hin0 rfl cw_at1 (by decide) (by decide +kernel) rfl (q := 9) dX0_digestOnto_6 rfl ?_
  have b_1 := And.intro (hI.sc 0 (by decide)) (hI.1 0 0 (by omega)).2
  refine v_i2l F (q := 10) dX0_digestOnto_9 rfl ?_
  refine v_ladd F (q := 11) dX0_digestOnto_10 rfl ?_
  refine v_ldc2 F (v := 31) (q := 14) (by decide +kernel) dX0_digestOnto_11 rfl ?_
  refine v_lmul F (q := 15) dX0_digestOnto_14 rfl ?_
  refine v_aload_n F 0 (q := 16) dX0_digestOnto_15 rfl rfl rfl ?_
  refine v_get F (C := RX0) (T := TX0) (N := 4) (ci := 0) (v := VI (S 0 1)) 1 1 hin0 rfl cw_at1 (by decide) (by decide +kernel) rfl (q := 19) dX0_digestOnto_16 rfl ?_
  have b_2 := And.intro (hI.sc 1 (by decide)) (hI.1 0 1 (by omega)).2
  refine v_i2l F (q := 20) dX0_digestOnto_19 rfl ?_
  refine v_ladd F (q := 21) dX0_digestOnto_20 rfl ?_
  refine v_ldc2 F (v := 31) (q := 24) (by decide +kernel) dX0_digestOnto_21 rfl ?_
  refine v_lmul F (q := 25) dX0_digestOnto_24 rfl ?_
  refine v_aload_n F 0 (q := 26) dX0_digestOnto_25 rfl rfl rfl ?_
  refine v_get F (C := RX0) (T := TX0) (N := 4) (ci := 0) (v := VI (S 0 2)) 1 2 hin0 rfl cw_at1 (by decide) (by decide +kernel) rfl (q := 29) dX0_digestOnto_26 rfl ?_
  have b_3 := And.intro (hI.sc 2 (by decide)) (hI.1 0 2 (by omega)).2
  refine v_i2l F (q := 30) dX0_digestOnto_29 rfl ?_
  refine v_ladd F (q := 31) dX0_digestOnto_30 rfl ?_
  refine v_ldc2 F (v := 31) (q := 34) (by decide +kernel) dX0_digestOnto_31 rfl ?_
  refine v_lmul F (q := 35) dX0_digestOnto_34 rfl ?_
  refine v_aload_n F 0 (q := 36) dX0_digestOnto_35 rfl rfl rfl ?_
  refine v_get F (C := RX0) (T := TX0) (N := 4) (ci := 0) (v := VI (S 0 3)) 1 3 hin0 rfl cw_at1 (by decide) (by decide +kernel) rfl (q := 39) dX0_digestOnto_36 rfl ?_
  have b_4 := And.intro (hI.sc 3 (by decide)) (hI.1 0 3 (by omega)).2
  refine v_i2l F (q := 40) dX0_digestOnto_39 rfl ?_
  refine v_ladd F (q := 41) dX0_digestOnto_40 rfl ?_
  exact ret _ _ _ _ _ _ (Nat.zero_le _) (Nat.zero_le _) dX0_digestOnto_41 (⟨rfl, rfl⟩)
theorem hdX2_digestOnto : yX2_digestOnto.cls = RX2 ∧ yX2_digestOnto.cls ≠ "java/lang/invoke/MethodHandle" ∧ yX2_digestOnto.cls ≠ "java/lang/invoke/VarHandle" ∧ (parseMethodDescriptor yX2_digestOnto.desc).map (fun d => d.parameters.length) = some 1 := by decide +kernel
set_option maxRecDepth 100000 in
set_option maxHeartbeats 4000000 in
theorem kX2_digestOnto {l : Launch} (hst : l.stackTraces = false) {k : Nat → ClassId} {h : Nat → Nat} {S Z : Nat → Nat → Int} (hI : Inv S) {d : Int64} : v_Cl l k yX2_digestOnto wsX2_digestOnto ({ frames := 0, cells := 0, slots := 0, locals := 0 } : Room) [.ref (h 2), .long d] (cw k h S Z) (fun a u => u = cw k h S Z ∧ a = dg (dg (dg d (S 0 4)) (S 0 5)) (S 0 6)) := by
  refine v_ofL (cc := cX2_digestOnto) (nL := 3) (by decide +kernel) rfl hst (Nat.le_of_ble_eq_true rfl) (fun XX F ret => ?_)
  have hin2 : ∀ w ∈ wsX20, w ∈ wsX2_digestOnto := by decide +kernel
  have b7 := hI.mc
  have b8 := hI.cc
  show V XX (cw k h S Z) 0 0 0 [(0, .ref (h 2)), (1, .long d)] []
  refine v_lload_n F 1 (q := 1) dX2_digestOnto_0 rfl rfl rfl ?_
  refine v_ldc2 F (v := 31) (q := 4) (by decide +kernel) dX2_digestOnto_1 rfl ?_
  refine v_lmul F (q := 5) dX2_digestOnto_4 rfl ?_
  refine v_aload_n F 0 (q := 6) dX2_digestOnto_5 rfl rfl rfl ?_
  refine v_get F (C := RX2) (T := TX2) (N := 3) (ci := 2) (v := VI (S 0 4)) 2 0 hin2 rfl cw_at2 (by decide) (by decide +kernel) rfl (q := 9) dX2_digestOnto_6 rfl ?_
  have b_1 := And.intro (hI.sc 4 (by decide)) (hI.1 0 4 (by omega)).2
  refine v_i2l F (q := 10) dX2_digestOnto_9 rfl ?_
  refine v_ladd F (q := 11) dX2_digestOnto_10 rfl ?_
  refine v_ldc2 F (v := 31) (q := 14) (by decide +kernel) dX2_digestOnto_11 rfl ?_
  refine v_lmul F (q := 15) dX2_digestOnto_14 rfl ?_
  refine v_aload_n F 0 (q := 16) dX2_digestOnto_15 rfl rfl rfl ?_
  refine v_get F (C := RX2) (T := TX2) (N := 3) (ci := 2) (v := VI (S 0 5)) 2 1 hin2 rfl cw_at2 (by decide) (by decide +kernel) rfl (q := 19) dX2_digestOnto_16 rfl ?_
  have b_2 := And.intro (hI.sc 5 (by decide)) (hI.1 0 5 (by omega)).2
  refine v_i2l F (q := 20) dX2_digestOnto_19 rfl ?_
  refine v_ladd F (q := 21) dX2_digestOnto_20 rfl ?_
  refine v_ldc2 F (v := 31) (q := 24) (by decide +kernel) dX2_digestOnto_21 rfl ?_
  refine v_lmul F (q := 25) dX2_digestOnto_24 rfl ?_
  refine v_aload_n F 0 (q := 26) dX2_digestOnto_25 rfl rfl rfl ?_
  refine v_get F (C := RX2) (T := TX2) (N := 3) (ci := 2) (v := VI (S 0 6)) 2 2 hin2 rfl cw_at2 (by decide) (by decide +kernel) rfl (q := 29) dX2_digestOnto_26 rfl ?_
  have b_3 := And.intro (hI.sc 6 (by decide)) (hI.1 0 6 (by omega)).2
  refine v_i2l F (q := 30) dX2_digestOnto_29 rfl ?_
  refine v_ladd F (q := 31) dX2_digestOnto_30 rfl ?_
  exact ret _ _ _ _ _ _ (Nat.zero_le _) (Nat.zero_le _) dX2_digestOnto_31 (⟨rfl, rfl⟩)
theorem hdX5_crossingsOf : yX5_crossingsOf.cls = RX5 ∧ yX5_crossingsOf.cls ≠ "java/lang/invoke/MethodHandle" ∧ yX5_crossingsOf.cls ≠ "java/lang/invoke/VarHandle" ∧ (parseMethodDescriptor yX5_crossingsOf.desc).map (fun d => d.parameters.length) = some 1 := by decide +kernel
set_option maxRecDepth 100000 in
set_option maxHeartbeats 4000000 in
theorem kX5_crossingsOf {l : Launch} (hst : l.stackTraces = false) {k : Nat → ClassId} {h : Nat → Nat} {S Z : Nat → Nat → Int} (hI : Inv S) {t : Nat} (ht : t < 8) : v_Ci l k yX5_crossingsOf wsX5_crossingsOf ({ frames := 2, cells := 0, slots := 0, locals := 42 } : Room) [.ref (h 0), .ref (h (15 + t))] (cw k h S Z) (fun a u => u = cw k h S Z ∧ a = cnt (crossB S t) (tcn S)) := by
  refine v_ofI (cc := cX5_crossingsOf) (nL := 4) (by decide +kernel) rfl hst (Nat.le_of_ble_eq_true rfl) (fun _ _ _ => rfl) (fun XX F ret => ?_)
  have hin5 : ∀ w ∈ wsX50, w ∈ wsX5_crossingsOf := by decide +kernel
  have b7 := hI.mc
  have b8 := hI.cc
  show V XX (cw k h S Z) 0 0 0 [(0, .ref (h 0)), (1, .ref (h (15 + t)))] []
  refine v_const F (q := 1) dX5_crossingsOf_0 rfl ?_
  refine v_istore_n F (q := 2) [(2, VI 0), (0, .ref (h 0)), (1, .ref (h (15 + t)))] dX5_crossingsOf_1 rfl (by decide) rfl rfl ?_
  refine v_const F (q := 3) dX5_crossingsOf_2 rfl ?_
  refine v_istore_n F (q := 4) [(3, VI 0), (2, VI 0), (0, .ref (h 0)), (1, .ref (h (15 + t)))] dX5_crossingsOf_3 rfl (by decide) rfl rfl ?_
  have L4_1 : ∀ (fu : Nat) (found : Int) (i : Nat), ((i : Int) ≤ S 0 8 ∧ found = cnt (crossB S t) i) → (S 0 8 - i).toNat < fu → V XX (cw k h S Z) 0 0 4 [(3, VI ((i : Nat) : Int)), (2, VI found), (0, .ref (h 0)), (1, .ref (h (15 + t)))] [] := by
    intro fu_4
    induction fu_4 with
    | zero => intros; omega
    | succ fu_4 ih_4 =>
      intro found i hv hm_4
      obtain ⟨hv1, hv2⟩ := hv
      have hn := cnt_nn (crossB S t) i
      refine v_iload_n F 0 (q := 5) dX5_crossingsOf_4 rfl rfl rfl ?_
      refine v_aload_n F 2 (q := 6) dX5_crossingsOf_5 rfl rfl rfl ?_
      refine v_get F (C := RX5) (T := TX5) (N := 14) (ci := 5) (v := VI (S 0 8)) 0 9 hin5 rfl cw_at0 (by decide) (by decide +kernel) rfl (q := 9) dX5_crossingsOf_6 rfl ?_
      have b_2 := And.intro (hI.sc 8 (by decide)) (hI.1 0 8 (by omega)).2
      refine v_icmp_ge F (tgt := 34) (q := 12) (by omega) (by omega) dX5_crossingsOf_9 rfl rfl (fun h_3 => ?_) (fun h_3 => ?_)
      · refine v_iload_n F 1 (q := 35) dX5_crossingsOf_34 rfl rfl rfl ?_
        exact ret _ _ _ _ _ _ (Nat.zero_le _) (Nat.zero_le _) dX5_crossingsOf_35 (⟨rfl, by rw [hv2, show i = tcn S from (by unfold tcn; omega)]⟩)
      · refine v_aload_n F 3 (q := 13) dX5_crossingsOf_12 rfl rfl rfl ?_
        refine v_aload_n F 2 (q := 14) dX5_crossingsOf_13 rfl rfl rfl ?_
        refine v_get F (C := RX5) (T := TX5) (N := 14) (ci := 5) (v := .ref (h 4)) 0 3 hin5 rfl cw_at0 (by decide) (by decide +kernel) rfl (q := 17) dX5_crossingsOf_14 rfl ?_
        refine v_iload_n F 0 (q := 18) dX5_crossingsOf_17 rfl rfl rfl ?_
        refine v_aald F (j := i) (b := h (15 + i)) 4 2 rfl cw_at4 rfl (by omega) (by decide) rfl (q := 19) dX5_crossingsOf_18 rfl ?_
        refine v_callVi0 F (kX1_crosses hst (k := k) (h := h) (S := S) (Z := Z) hI (a := t) (b := i) (by omega) (by omega)) gX5_crossingsOf_X1_crosses rfl hdX1_crosses ⟨by decide, by decide⟩ (15 + t) (cw_cord t (by omega)) rfl rfl rfl (Nat.le_of_ble_eq_true rfl) ⟨(Nat.zero_le _), (Nat.zero_le _)⟩ (q := 22) dX5_crossingsOf_19 rfl ?_
        rintro _ _ ⟨rfl, ⟨rfl, h_4⟩ | ⟨rfl, h_4⟩⟩
        · refine v_if_eq F (tgt := 28) (q := 25) (by omega) dX5_crossingsOf_22 rfl rfl (fun h_5 => absurd h_5 (by omega)) (fun h_5 => ?_)
          refine v_iinc F (q := 28) (z := found + 1) 1 [(2, VI (found + 1)), (3, VI ((i : Nat) : Int)), (0, .ref (h 0)), (1, .ref (h (15 + t)))] dX5_crossingsOf_25 rfl (by decide) rfl rfl rfl ?_
          refine v_iinc F (q := 31) (z := ((i + 1 : Nat) : Int)) 1 [(3, VI ((i + 1 : Nat) : Int)), (2, VI (found + 1)), (0, .ref (h 0)), (1, .ref (h (15 + t)))] dX5_crossingsOf_28 rfl (by decide) (by omega) rfl rfl ?_
          refine v_goto F (tgt := 4) dX5_crossingsOf_31 rfl ?_
          exact ih_4 (found + 1) (i + 1) (by refine ⟨by omega, ?_⟩; rw [cnt_s, ← hv2]; simp [*]) (by omega)
        · refine v_if_eq F (tgt := 28) (q := 25) R32_0 dX5_crossingsOf_22 rfl rfl (fun h_6 => ?_) (fun h_6 => absurd h_6 (by omega))
          refine v_iinc F (q := 31) (z := ((i + 1 : Nat) : Int)) 0 [(3, VI ((i + 1 : Nat) : Int)), (2, VI found), (0, .ref (h 0)), (1, .ref (h (15 + t)))] dX5_crossingsOf_28 rfl (by decide) (by omega) rfl rfl ?_
          refine v_goto F (tgt := 4) dX5_crossingsOf_31 rfl ?_
          exact ih_4 found (i + 1) (by refine ⟨by omega, ?_⟩; rw [cnt_s, ← hv2]; simp [*]) (by omega)
  exact L4_1 _ 0 0 (by exact ⟨by omega, rfl⟩) (Nat.lt_succ_self _)
theorem hdX5_isCrossedByStronger : yX5_isCrossedByStronger.cls = RX5 ∧ yX5_isCrossedByStronger.cls ≠ "java/lang/invoke/MethodHandle" ∧ yX5_isCrossedByStronger.cls ≠ "java/lang/invoke/VarHandle" ∧ (parseMethodDescriptor yX5_isCrossedByStronger.desc).map (fun d => d.parameters.length) = some 1 := by decide +kernel
set_option maxRecDepth 100000 in
set_option maxHeartbeats 4000000 in
theorem kX5_isCrossedByStronger {l : Launch} (hst : l.stackTraces = false) {k : Nat → ClassId} {h : Nat → Nat} {S Z : Nat → Nat → Int} (hI : Inv S) {t : Nat} (ht : t < 8) : v_Ci l k yX5_isCrossedByStronger wsX5_isCrossedByStronger ({ frames := 2, cells := 0, slots := 0, locals := 42 } : Room) [.ref (h 0), .ref (h (15 + t))] (cw k h S Z) (fun a u => u = cw k h S Z ∧ vB (strongB S t = true) a) := by
  refine v_ofI (cc := cX5_isCrossedByStronger) (nL := 4) (by decide +kernel) rfl hst (Nat.le_of_ble_eq_true rfl) (fun _ _ hp => vB_n hp.2) (fun XX F ret => ?_)
  have hin1 : ∀ w ∈ wsX10, w ∈ wsX5_isCrossedByStronger := by decide +kernel
  have hin5 : ∀ w ∈ wsX50, w ∈ wsX5_isCrossedByStronger := by decide +kernel
  have b7 := hI.mc
  have b8 := hI.cc
  show V XX (cw k h S Z) 0 0 0 [(0, .ref (h 0)), (1, .ref (h (15 + t)))] []
  refine v_const F (q := 1) dX5_isCrossedByStronger_0 rfl ?_
  refine v_istore_n F (q := 2) [(2, VI 0), (0, .ref (h 0)), (1, .ref (h (15 + t)))] dX5_isCrossedByStronger_1 rfl (by decide) rfl rfl ?_
  have L2_1 : ∀ (fu : Nat) (i : Nat), ((i : Int) ≤ S 0 8 ∧ ∀ j : Nat, j < i → ¬ strT S t j = true) → (S 0 8 - i).toNat < fu → V XX (cw k h S Z) 0 0 2 [(2, VI ((i : Nat) : Int)), (0, .ref (h 0)), (1, .ref (h (15 + t)))] [] := by
    intro fu_2
    induction fu_2 with
    | zero => intros; omega
    | succ fu_2 ih_2 =>
      intro i hv hm_2
      obtain ⟨hv1, hv2⟩ := hv
      refine v_iload_n F 0 (q := 3) dX5_isCrossedByStronger_2 rfl rfl rfl ?_
      refine v_aload_n F 1 (q := 4) dX5_isCrossedByStronger_3 rfl rfl rfl ?_
      refine v_get F (C := RX5) (T := TX5) (N := 14) (ci := 5) (v := VI (S 0 8)) 0 9 hin5 rfl cw_at0 (by decide) (by decide +kernel) rfl (q := 7) dX5_isCrossedByStronger_4 rfl ?_
      have b_2 := And.intro (hI.sc 8 (by decide)) (hI.1 0 8 (by omega)).2
      refine v_icmp_ge F (tgt := 51) (q := 10) (by omega) (by omega) dX5_isCrossedByStronger_7 rfl rfl (fun h_3 => ?_) (fun h_3 => ?_)
      · refine v_const F (q := 52) dX5_isCrossedByStronger_51 rfl ?_
        exact ret _ _ _ _ _ _ (Nat.zero_le _) (Nat.zero_le _) dX5_isCrossedByStronger_52 (⟨rfl, vB_0 (fun h => by obtain ⟨j, hj1, hj2⟩ := (cnt_pos _ _).mp (of_decide_eq_true h); exact hv2 j (by unfold tcn at hj1; omega) hj2)⟩)
      · refine v_aload_n F 1 (q := 11) dX5_isCrossedByStronger_10 rfl rfl rfl ?_
        refine v_get F (C := RX5) (T := TX5) (N := 14) (ci := 5) (v := .ref (h 4)) 0 3 hin5 rfl cw_at0 (by decide) (by decide +kernel) rfl (q := 14) dX5_isCrossedByStronger_11 rfl ?_
        refine v_iload_n F 0 (q := 15) dX5_isCrossedByStronger_14 rfl rfl rfl ?_
        refine v_aald F (j := i) (b := h (15 + i)) 4 2 rfl cw_at4 rfl (by omega) (by decide) rfl (q := 16) dX5_isCrossedByStronger_15 rfl ?_
        refine v_astore_n F (q := 17) [(3, .ref (h (15 + i))), (2, VI ((i : Nat) : Int)), (0, .ref (h 0)), (1, .ref (h (15 + t)))] dX5_isCrossedByStronger_16 rfl (by decide) rfl rfl ?_
        refine v_aload_n F 0 (q := 18) dX5_isCrossedByStronger_17 rfl rfl rfl ?_
        refine v_get F (C := RX1) (T := TX1) (N := 6) (ci := 1) (v := VI (S 8 i)) (15 + i) 3 hin1 rfl (cw_cord i (by omega)) (by decide) (by decide +kernel) rfl (q := 21) dX5_isCrossedByStronger_18 rfl ?_
        have b_4 := hI.st i
        refine v_if_ne F (tgt := 45) (q := 24) (by omega) dX5_isCrossedByStronger_21 rfl rfl (fun h_5 => ?_) (fun h_5 => ?_)
        · refine v_iinc F (q := 48) (z := ((i + 1 : Nat) : Int)) 1 [(2, VI ((i + 1 : Nat) : Int)), (3, .ref (h (15 + i))), (0, .ref (h 0)), (1, .ref (h (15 + t)))] dX5_isCrossedByStronger_45 rfl (by decide) (by omega) rfl rfl ?_
          refine v_goto F (tgt := 2) dX5_isCrossedByStronger_48 rfl ?_
          refine v_sub [0, 2, 3] rfl ?_
          exact ih_2 (i + 1) (by exact ⟨by omega, fun j hj => (Nat.lt_or_ge j i).elim (fun q => hv2 j q) (fun q => by obtain rfl : j = i := (by omega); unfold strT; simp only [Bool.and_eq_true, decide_eq_true_eq]; exact fun q9 => by first | (have q8 := q9.1; omega) | exact absurd q9.2 (by assumption))⟩) (by omega)
        · refine v_aload_n F 0 (q := 25) dX5_isCrossedByStronger_24 rfl rfl rfl ?_
          refine v_get F (C := RX1) (T := TX1) (N := 6) (ci := 1) (v := VI (S 7 i)) (15 + i) 2 hin1 rfl (cw_cord i (by omega)) (by decide) (by decide +kernel) rfl (q := 28) dX5_isCrossedByStronger_25 rfl ?_
          have b_6 := And.intro (hI.pos 7 i (by omega) (by omega)) (hI.1 7 i (by omega)).2
          refine v_aload_n F 3 (q := 29) dX5_isCrossedByStronger_28 rfl rfl rfl ?_
          refine v_get F (C := RX1) (T := TX1) (N := 6) (ci := 1) (v := VI (S 7 t)) (15 + t) 2 hin1 rfl (cw_cord t (by omega)) (by decide) (by decide +kernel) rfl (q := 32) dX5_isCrossedByStronger_29 rfl ?_
          have b_7 := And.intro (hI.pos 7 t (by omega) (by omega)) (hI.1 7 t (by omega)).2
          refine v_icmp_le F (tgt := 45) (q := 35) (by omega) (by omega) dX5_isCrossedByStronger_32 rfl rfl (fun h_8 => ?_) (fun h_8 => ?_)
          · refine v_iinc F (q := 48) (z := ((i + 1 : Nat) : Int)) 1 [(2, VI ((i + 1 : Nat) : Int)), (3, .ref (h (15 + i))), (0, .ref (h 0)), (1, .ref (h (15 + t)))] dX5_isCrossedByStronger_45 rfl (by decide) (by omega) rfl rfl ?_
            refine v_goto F (tgt := 2) dX5_isCrossedByStronger_48 rfl ?_
            refine v_sub [0, 2, 3] rfl ?_
            exact ih_2 (i + 1) (by exact ⟨by omega, fun j hj => (Nat.lt_or_ge j i).elim (fun q => hv2 j q) (fun q => by obtain rfl : j = i := (by omega); unfold strT; simp only [Bool.and_eq_true, decide_eq_true_eq]; exact fun q9 => by first | (have q8 := q9.1; omega) | exact absurd q9.2 (by assumption))⟩) (by omega)
          · refine v_aload_n F 3 (q := 36) dX5_isCrossedByStronger_35 rfl rfl rfl ?_
            refine v_aload_n F 0 (q := 37) dX5_isCrossedByStronger_36 rfl rfl rfl ?_
            refine v_callVi0 F (kX1_crosses hst (k := k) (h := h) (S := S) (Z := Z) hI (a := t) (b := i) (by omega) (by omega)) gX5_isCrossedByStronger_X1_crosses rfl hdX1_crosses ⟨by decide, by decide⟩ (15 + t) (cw_cord t (by omega)) rfl rfl rfl (Nat.le_of_ble_eq_true rfl) ⟨(Nat.zero_le _), (Nat.zero_le _)⟩ (q := 40) dX5_isCrossedByStronger_37 rfl ?_
            rintro _ _ ⟨rfl, ⟨rfl, h_9⟩ | ⟨rfl, h_9⟩⟩
            · refine v_if_eq F (tgt := 45) (q := 43) (by omega) dX5_isCrossedByStronger_40 rfl rfl (fun h_10 => absurd h_10 (by omega)) (fun h_10 => ?_)
              refine v_const F (q := 44) dX5_isCrossedByStronger_43 rfl ?_
              exact ret _ _ _ _ _ _ (Nat.zero_le _) (Nat.zero_le _) dX5_isCrossedByStronger_44 (⟨rfl, vB_1 (decide_eq_true ((cnt_pos _ _).mpr ⟨i, by unfold tcn; omega, by unfold strT; simp only [Bool.and_eq_true, decide_eq_true_eq]; exact ⟨⟨by omega, by omega⟩, by assumption⟩⟩))⟩)
            · refine v_if_eq F (tgt := 45) (q := 43) R32_0 dX5_isCrossedByStronger_40 rfl rfl (fun h_11 => ?_) (fun h_11 => absurd h_11 (by omega))
              refine v_iinc F (q := 48) (z := ((i + 1 : Nat) : Int)) 1 [(2, VI ((i + 1 : Nat) : Int)), (3, .ref (h (15 + i))), (0, .ref (h 0)), (1, .ref (h (15 + t)))] dX5_isCrossedByStronger_45 rfl (by decide) (by omega) rfl rfl ?_
              refine v_goto F (tgt := 2) dX5_isCrossedByStronger_48 rfl ?_
              refine v_sub [0, 2, 3] rfl ?_
              exact ih_2 (i + 1) (by exact ⟨by omega, fun j hj => (Nat.lt_or_ge j i).elim (fun q => hv2 j q) (fun q => by obtain rfl : j = i := (by omega); unfold strT; simp only [Bool.and_eq_true, decide_eq_true_eq]; exact fun q9 => by first | (have q8 := q9.1; omega) | exact absurd q9.2 (by assumption))⟩) (by omega)
  exact L2_1 _ 0 (by exact ⟨by omega, fun j hj => absurd hj (Nat.not_lt_zero j)⟩) (Nat.lt_succ_self _)
theorem hdX5_breadth : yX5_breadth.cls = RX5 ∧ yX5_breadth.cls ≠ "java/lang/invoke/MethodHandle" ∧ yX5_breadth.cls ≠ "java/lang/invoke/VarHandle" ∧ (parseMethodDescriptor yX5_breadth.desc).map (fun d => d.parameters.length) = some 0 := by decide +kernel
set_option maxRecDepth 100000 in
set_option maxHeartbeats 4000000 in
theorem kX5_breadth {l : Launch} (hst : l.stackTraces = false) {k : Nat → ClassId} {h : Nat → Nat} {S Z : Nat → Nat → Int} (hI : Inv S) : v_Ci l k yX5_breadth wsX5_breadth ({ frames := 2, cells := 0, slots := 0, locals := 43 } : Room) [.ref (h 0)] (cw k h S Z) (fun a u => u = cw k h S Z ∧ a = breN S ∧ 1 ≤ a ∧ a ≤ 100) := by
  refine v_ofI (cc := cX5_breadth) (nL := 3) (by decide +kernel) rfl hst (Nat.le_of_ble_eq_true rfl) (fun _ _ _ => rfl) (fun XX F ret => ?_)
  have hin2 : ∀ w ∈ wsX20, w ∈ wsX5_breadth := by decide +kernel
  have hin5 : ∀ w ∈ wsX50, w ∈ wsX5_breadth := by decide +kernel
  have b7 := hI.mc
  have b8 := hI.cc
  show V XX (cw k h S Z) 0 0 0 [(0, .ref (h 0))] []
  refine v_aload_n F 0 (q := 1) dX5_breadth_0 rfl rfl rfl ?_
  refine v_get F (C := RX5) (T := TX5) (N := 14) (ci := 5) (v := .ref (h 2)) 0 1 hin5 rfl cw_at0 (by decide) (by decide +kernel) rfl (q := 4) dX5_breadth_1 rfl ?_
  refine v_get F (C := RX2) (T := TX2) (N := 3) (ci := 2) (v := VI (S 0 6)) 2 2 hin2 rfl cw_at2 (by decide) (by decide +kernel) rfl (q := 7) dX5_breadth_4 rfl ?_
  have b_1 := And.intro (hI.sc 6 (by decide)) (hI.1 0 6 (by omega)).2
  refine v_istore_n F (q := 8) [(1, VI (S 0 6)), (0, .ref (h 0))] dX5_breadth_7 rfl (by decide) rfl rfl ?_
  refine v_const F (q := 9) dX5_breadth_8 rfl ?_
  refine v_istore_n F (q := 10) [(2, VI 0), (1, VI (S 0 6)), (0, .ref (h 0))] dX5_breadth_9 rfl (by decide) rfl rfl ?_
  have L10_2 : ∀ (fu : Nat) (br : Int) (i : Nat), ((i : Int) ≤ S 0 7 ∧ br = breF S (S 4) i) → (S 0 7 - i).toNat < fu → V XX (cw k h S Z) 0 0 10 [(2, VI ((i : Nat) : Int)), (1, VI br), (0, .ref (h 0))] [] := by
    intro fu_10
    induction fu_10 with
    | zero => intros; omega
    | succ fu_10 ih_10 =>
      intro br i hv hm_10
      obtain ⟨hv1, hv2⟩ := hv
      have hn := bre_bd hI (S 4) i
      refine v_iload_n F 0 (q := 11) dX5_breadth_10 rfl rfl rfl ?_
      refine v_aload_n F 2 (q := 12) dX5_breadth_11 rfl rfl rfl ?_
      refine v_get F (C := RX5) (T := TX5) (N := 14) (ci := 5) (v := VI (S 0 7)) 0 8 hin5 rfl cw_at0 (by decide) (by decide +kernel) rfl (q := 15) dX5_breadth_12 rfl ?_
      have b_3 := And.intro (hI.sc 7 (by decide)) (hI.1 0 7 (by omega)).2
      refine v_icmp_ge F (tgt := 49) (q := 18) (by omega) (by omega) dX5_breadth_15 rfl rfl (fun h_4 => ?_) (fun h_4 => ?_)
      · refine v_iload_n F 1 (q := 50) dX5_breadth_49 rfl rfl rfl ?_
        exact ret _ _ _ _ _ _ (Nat.zero_le _) (Nat.zero_le _) dX5_breadth_50 (⟨rfl, by rw [hv2, show i = mcn S from by unfold mcn; omega]; rfl, by omega, by omega⟩)
      · refine v_aload_n F 2 (q := 19) dX5_breadth_18 rfl rfl rfl ?_
        refine v_get F (C := RX5) (T := TX5) (N := 14) (ci := 5) (v := .ref (h 6)) 0 5 hin5 rfl cw_at0 (by decide) (by decide +kernel) rfl (q := 22) dX5_breadth_19 rfl ?_
        refine v_iload_n F 0 (q := 23) dX5_breadth_22 rfl rfl rfl ?_
        refine v_iald F (j := i) 6 cw_at6 rfl (by omega) (by decide) (q := 24) dX5_breadth_23 rfl ?_
        have b_5 := hI.lean i
        refine v_bipush F (q := 26) dX5_breadth_24 rfl rfl ?_
        refine v_icmp_eq F (tgt := 43) (q := 29) (by omega) (by omega) dX5_breadth_26 rfl rfl (fun h_6 => ?_) (fun h_6 => ?_)
        · refine v_iinc F (q := 46) (z := ((i + 1 : Nat) : Int)) 0 [(2, VI ((i + 1 : Nat) : Int)), (1, VI br), (0, .ref (h 0))] dX5_breadth_43 rfl (by decide) (by omega) rfl rfl ?_
          refine v_goto F (tgt := 10) dX5_breadth_46 rfl ?_
          exact ih_10 br (i + 1) (by refine ⟨by omega, ?_⟩; rw [bre_s, ← hv2]; simp [*]) (by omega)
        · refine v_iload_n F 1 (q := 30) dX5_breadth_29 rfl rfl rfl ?_
          refine v_aload_n F 2 (q := 31) dX5_breadth_30 rfl rfl rfl ?_
          refine v_get F (C := RX5) (T := TX5) (N := 14) (ci := 5) (v := .ref (h 3)) 0 2 hin5 rfl cw_at0 (by decide) (by decide +kernel) rfl (q := 34) dX5_breadth_31 rfl ?_
          refine v_iload_n F 0 (q := 35) dX5_breadth_34 rfl rfl rfl ?_
          refine v_aald F (j := i) (b := h (9 + i)) 3 1 rfl cw_at3 rfl (by omega) (by decide) rfl (q := 36) dX5_breadth_35 rfl ?_
          refine v_callVi0 F (kX3_widestYard hst (k := k) (h := h) (S := S) (Z := Z) hI (m := i) (by omega)) gX5_breadth_X3_widestYard rfl hdX3_widestYard ⟨by decide, by decide⟩ (9 + i) (cw_mast i (by omega)) rfl rfl rfl (Nat.le_of_ble_eq_true rfl) ⟨(Nat.zero_le _), (Nat.zero_le _)⟩ (q := 39) dX5_breadth_36 rfl ?_
          rintro a_7 _ ⟨rfl, ⟨h_7, hc_7⟩⟩
          refine v_max F (by omega) (by omega) (by decide +kernel) (by decide +kernel) (by decide +kernel) (by decide +kernel) ⟨by decide, Nat.le_of_ble_eq_true rfl⟩ ⟨(Nat.zero_le _), (Nat.zero_le _)⟩ (q := 42) dX5_breadth_39 rfl ?_
          refine v_istore_n F (q := 43) [(1, VI (max br a_7)), (2, VI ((i : Nat) : Int)), (0, .ref (h 0))] dX5_breadth_42 rfl (by decide) rfl rfl ?_
          refine v_iinc F (q := 46) (z := ((i + 1 : Nat) : Int)) 1 [(2, VI ((i + 1 : Nat) : Int)), (1, VI (max br a_7)), (0, .ref (h 0))] dX5_breadth_43 rfl (by decide) (by omega) rfl rfl ?_
          refine v_goto F (tgt := 10) dX5_breadth_46 rfl ?_
          exact ih_10 (max br a_7) (i + 1) (by refine ⟨by omega, ?_⟩; rw [bre_s, ← hv2]; simp [*]) (by omega)
  exact L10_2 _ (S 0 6) 0 (by exact ⟨by omega, rfl⟩) (Nat.lt_succ_self _)
theorem hdX5_topWith : yX5_topWith.cls = RX5 ∧ yX5_topWith.cls ≠ "java/lang/invoke/MethodHandle" ∧ yX5_topWith.cls ≠ "java/lang/invoke/VarHandle" ∧ (parseMethodDescriptor yX5_topWith.desc).map (fun d => d.parameters.length) = some 1 := by decide +kernel
set_option maxRecDepth 100000 in
set_option maxHeartbeats 4000000 in
theorem kX5_topWith {l : Launch} (hst : l.stackTraces = false) {k : Nat → ClassId} {h : Nat → Nat} {S Z : Nat → Nat → Int} (hI : Inv S) {rq ra : Nat} {f : Nat → Int} (hrow : (cw k h S Z)[rq]? = some (ra, aI k 3 f)) (hf : ∀ m, m < 3 → 0 ≤ f m ∧ f m ≤ 9) : v_Ci l k yX5_topWith wsX5_topWith ({ frames := 1, cells := 0, slots := 0, locals := 21 } : Room) [.ref (h 0), .ref (ra)] (cw k h S Z) (fun a u => u = cw k h S Z ∧ a = topF S f ∧ 0 ≤ a ∧ a ≤ 150) := by
  refine v_ofI (cc := cX5_topWith) (nL := 4) (by decide +kernel) rfl hst (Nat.le_of_ble_eq_true rfl) (fun _ _ _ => rfl) (fun XX F ret => ?_)
  have hin2 : ∀ w ∈ wsX20, w ∈ wsX5_topWith := by decide +kernel
  have hin5 : ∀ w ∈ wsX50, w ∈ wsX5_topWith := by decide +kernel
  have b7 := hI.mc
  have b8 := hI.cc
  show V XX (cw k h S Z) 0 0 0 [(0, .ref (h 0)), (1, .ref (ra))] []
  refine v_const F (q := 1) dX5_topWith_0 rfl ?_
  refine v_istore_n F (q := 2) [(2, VI 0), (0, .ref (h 0)), (1, .ref (ra))] dX5_topWith_1 rfl (by decide) rfl rfl ?_
  refine v_const F (q := 3) dX5_topWith_2 rfl ?_
  refine v_istore_n F (q := 4) [(3, VI 0), (2, VI 0), (0, .ref (h 0)), (1, .ref (ra))] dX5_topWith_3 rfl (by decide) rfl rfl ?_
  have L4_1 : ∀ (fu : Nat) (hi : Int) (i : Nat), ((i : Int) ≤ S 0 7 ∧ hi = mx 0 (stand S f) i) → (S 0 7 - i).toNat < fu → V XX (cw k h S Z) 0 0 4 [(3, VI ((i : Nat) : Int)), (2, VI hi), (0, .ref (h 0)), (1, .ref (ra))] [] := by
    intro fu_4
    induction fu_4 with
    | zero => intros; omega
    | succ fu_4 ih_4 =>
      intro hi i hv hm_4
      obtain ⟨hv1, hv2⟩ := hv
      have hn := mx_le 0 (stand S f) i
      have hn2 := mx_ub 0 (stand S f) i 50 (by decide) (fun j hj => (stand_bd hI (hf j (by omega))).2)
      refine v_iload_n F 0 (q := 5) dX5_topWith_4 rfl rfl rfl ?_
      refine v_aload_n F 2 (q := 6) dX5_topWith_5 rfl rfl rfl ?_
      refine v_get F (C := RX5) (T := TX5) (N := 14) (ci := 5) (v := VI (S 0 7)) 0 8 hin5 rfl cw_at0 (by decide) (by decide +kernel) rfl (q := 9) dX5_topWith_6 rfl ?_
      have b_2 := And.intro (hI.sc 7 (by decide)) (hI.1 0 7 (by omega)).2
      refine v_icmp_ge F (tgt := 35) (q := 12) (by omega) (by omega) dX5_topWith_9 rfl rfl (fun h_3 => ?_) (fun h_3 => ?_)
      · refine v_aload_n F 2 (q := 36) dX5_topWith_35 rfl rfl rfl ?_
        refine v_get F (C := RX5) (T := TX5) (N := 14) (ci := 5) (v := .ref (h 2)) 0 1 hin5 rfl cw_at0 (by decide) (by decide +kernel) rfl (q := 39) dX5_topWith_36 rfl ?_
        refine v_get F (C := RX2) (T := TX2) (N := 3) (ci := 2) (v := VI (S 0 5)) 2 1 hin2 rfl cw_at2 (by decide) (by decide +kernel) rfl (q := 42) dX5_topWith_39 rfl ?_
        have b_4 := And.intro (hI.sc 5 (by decide)) (hI.1 0 5 (by omega)).2
        refine v_iload_n F 1 (q := 43) dX5_topWith_42 rfl rfl rfl ?_
        refine v_iadd F (q := 44) dX5_topWith_43 rfl ?_
        exact ret _ _ _ _ _ _ (Nat.zero_le _) (Nat.zero_le _) dX5_topWith_44 (⟨rfl, by rw [hv2, show i = mcn S from by unfold mcn; omega]; rfl, by omega, by omega⟩)
      · refine v_iload_n F 1 (q := 13) dX5_topWith_12 rfl rfl rfl ?_
        refine v_aload_n F 2 (q := 14) dX5_topWith_13 rfl rfl rfl ?_
        refine v_get F (C := RX5) (T := TX5) (N := 14) (ci := 5) (v := .ref (h 3)) 0 2 hin5 rfl cw_at0 (by decide) (by decide +kernel) rfl (q := 17) dX5_topWith_14 rfl ?_
        refine v_iload_n F 0 (q := 18) dX5_topWith_17 rfl rfl rfl ?_
        refine v_aald F (j := i) (b := h (9 + i)) 3 1 rfl cw_at3 rfl (by omega) (by decide) rfl (q := 19) dX5_topWith_18 rfl ?_
        refine v_aload_n F 3 (q := 20) dX5_topWith_19 rfl rfl rfl ?_
        refine v_iload_n F 0 (q := 21) dX5_topWith_20 rfl rfl rfl ?_
        refine v_iald F (j := i) rq hrow rfl (by omega) (by decide) (q := 22) dX5_topWith_21 rfl ?_
        have b_5 := hf i (by omega)
        refine v_callVi0 F (kX3_standing hst (k := k) (h := h) (S := S) (Z := Z) hI (m := i) (by omega) (f := f) (by omega)) gX5_topWith_X3_standing rfl hdX3_standing ⟨by decide, by decide⟩ (9 + i) (cw_mast i (by omega)) rfl rfl rfl (Nat.le_of_ble_eq_true rfl) ⟨(Nat.zero_le _), (Nat.zero_le _)⟩ (q := 25) dX5_topWith_22 rfl ?_
        rintro a_6 _ ⟨rfl, ⟨h_6, hc_6⟩⟩
        refine v_max F (by omega) (by omega) (by decide +kernel) (by decide +kernel) (by decide +kernel) (by decide +kernel) ⟨by decide, Nat.le_of_ble_eq_true rfl⟩ ⟨(Nat.zero_le _), (Nat.zero_le _)⟩ (q := 28) dX5_topWith_25 rfl ?_
        refine v_istore_n F (q := 29) [(2, VI (max hi a_6)), (3, VI ((i : Nat) : Int)), (0, .ref (h 0)), (1, .ref (ra))] dX5_topWith_28 rfl (by decide) rfl rfl ?_
        refine v_iinc F (q := 32) (z := ((i + 1 : Nat) : Int)) 1 [(3, VI ((i + 1 : Nat) : Int)), (2, VI (max hi a_6)), (0, .ref (h 0)), (1, .ref (ra))] dX5_topWith_29 rfl (by decide) (by omega) rfl rfl ?_
        refine v_goto F (tgt := 4) dX5_topWith_32 rfl ?_
        exact ih_4 (max hi a_6) (i + 1) (by exact ⟨by omega, by rw [mx_s, ← hv2]; omega⟩) (by omega)
  exact L4_1 _ 0 0 (by exact ⟨by omega, rfl⟩) (Nat.lt_succ_self _)
theorem hdX5_endWith : yX5_endWith.cls = RX5 ∧ yX5_endWith.cls ≠ "java/lang/invoke/MethodHandle" ∧ yX5_endWith.cls ≠ "java/lang/invoke/VarHandle" ∧ (parseMethodDescriptor yX5_endWith.desc).map (fun d => d.parameters.length) = some 1 := by decide +kernel
set_option maxRecDepth 100000 in
set_option maxHeartbeats 4000000 in
theorem kX5_endWith {l : Launch} (hst : l.stackTraces = false) {k : Nat → ClassId} {h : Nat → Nat} {S Z : Nat → Nat → Int} (hI : Inv S) {rq ra : Nat} {f : Nat → Int} (hrow : (cw k h S Z)[rq]? = some (ra, aI k 3 f)) (hf : ∀ m, m < 3 → 0 ≤ f m ∧ f m ≤ 9) : v_Ci l k yX5_endWith wsX5_endWith ({ frames := 1, cells := 0, slots := 0, locals := 21 } : Room) [.ref (h 0), .ref (ra)] (cw k h S Z) (fun a u => u = cw k h S Z ∧ a = endF S f ∧ 0 ≤ a ∧ a ≤ 150) := by
  refine v_ofI (cc := cX5_endWith) (nL := 4) (by decide +kernel) rfl hst (Nat.le_of_ble_eq_true rfl) (fun _ _ _ => rfl) (fun XX F ret => ?_)
  have hin2 : ∀ w ∈ wsX20, w ∈ wsX5_endWith := by decide +kernel
  have hin3 : ∀ w ∈ wsX30, w ∈ wsX5_endWith := by decide +kernel
  have hin5 : ∀ w ∈ wsX50, w ∈ wsX5_endWith := by decide +kernel
  have b7 := hI.mc
  have b8 := hI.cc
  show V XX (cw k h S Z) 0 0 0 [(0, .ref (h 0)), (1, .ref (ra))] []
  refine v_aload_n F 0 (q := 1) dX5_endWith_0 rfl rfl rfl ?_
  refine v_get F (C := RX5) (T := TX5) (N := 14) (ci := 5) (v := .ref (h 2)) 0 1 hin5 rfl cw_at0 (by decide) (by decide +kernel) rfl (q := 4) dX5_endWith_1 rfl ?_
  refine v_get F (C := RX2) (T := TX2) (N := 3) (ci := 2) (v := VI (S 0 4)) 2 0 hin2 rfl cw_at2 (by decide) (by decide +kernel) rfl (q := 7) dX5_endWith_4 rfl ?_
  have b_1 := And.intro (hI.sc 4 (by decide)) (hI.1 0 4 (by omega)).2
  refine v_istore_n F (q := 8) [(2, VI (S 0 4)), (0, .ref (h 0)), (1, .ref (ra))] dX5_endWith_7 rfl (by decide) rfl rfl ?_
  refine v_const F (q := 9) dX5_endWith_8 rfl ?_
  refine v_istore_n F (q := 10) [(3, VI 0), (2, VI (S 0 4)), (0, .ref (h 0)), (1, .ref (ra))] dX5_endWith_9 rfl (by decide) rfl rfl ?_
  have L10_2 : ∀ (fu : Nat) (en : Int) (i : Nat), ((i : Int) ≤ S 0 7 ∧ en = mx (S 0 4) (fun m => S 1 m + reachM S f m) i) → (S 0 7 - i).toNat < fu → V XX (cw k h S Z) 0 0 10 [(3, VI ((i : Nat) : Int)), (2, VI en), (0, .ref (h 0)), (1, .ref (ra))] [] := by
    intro fu_10
    induction fu_10 with
    | zero => intros; omega
    | succ fu_10 ih_10 =>
      intro en i hv hm_10
      obtain ⟨hv1, hv2⟩ := hv
      have h04 := hI.1 0 4 (by omega)
      have h05 := hI.sc 4 (by omega)
      have hn := mx_le (S 0 4) (fun m => S 1 m + reachM S f m) i
      have hn2 := mx_ub (S 0 4) (fun m => S 1 m + reachM S f m) i 150 (by omega) (fun j hj => by have a1 := (reach_bd hI (hf j (by omega))).2; have b1 := (hI.1 1 j (by omega)).2; show S 1 j + reachM S f j ≤ 150; omega)
      refine v_iload_n F 0 (q := 11) dX5_endWith_10 rfl rfl rfl ?_
      refine v_aload_n F 2 (q := 12) dX5_endWith_11 rfl rfl rfl ?_
      refine v_get F (C := RX5) (T := TX5) (N := 14) (ci := 5) (v := VI (S 0 7)) 0 8 hin5 rfl cw_at0 (by decide) (by decide +kernel) rfl (q := 15) dX5_endWith_12 rfl ?_
      have b_3 := And.intro (hI.sc 7 (by decide)) (hI.1 0 7 (by omega)).2
      refine v_icmp_ge F (tgt := 51) (q := 18) (by omega) (by omega) dX5_endWith_15 rfl rfl (fun h_4 => ?_) (fun h_4 => ?_)
      · refine v_iload_n F 1 (q := 52) dX5_endWith_51 rfl rfl rfl ?_
        exact ret _ _ _ _ _ _ (Nat.zero_le _) (Nat.zero_le _) dX5_endWith_52 (⟨rfl, by rw [hv2, show i = mcn S from by unfold mcn; omega]; rfl, by omega, by omega⟩)
      · refine v_iload_n F 1 (q := 19) dX5_endWith_18 rfl rfl rfl ?_
        refine v_aload_n F 2 (q := 20) dX5_endWith_19 rfl rfl rfl ?_
        refine v_get F (C := RX5) (T := TX5) (N := 14) (ci := 5) (v := .ref (h 3)) 0 2 hin5 rfl cw_at0 (by decide) (by decide +kernel) rfl (q := 23) dX5_endWith_20 rfl ?_
        refine v_iload_n F 0 (q := 24) dX5_endWith_23 rfl rfl rfl ?_
        refine v_aald F (j := i) (b := h (9 + i)) 3 1 rfl cw_at3 rfl (by omega) (by decide) rfl (q := 25) dX5_endWith_24 rfl ?_
        refine v_get F (C := RX3) (T := TX3) (N := 4) (ci := 3) (v := VI (S 1 i)) (9 + i) 1 hin3 rfl (cw_mast i (by omega)) (by decide) (by decide +kernel) rfl (q := 28) dX5_endWith_25 rfl ?_
        have b_5 := And.intro (hI.pos 1 i (by omega) (by omega)) (hI.1 1 i (by omega)).2
        refine v_aload_n F 2 (q := 29) dX5_endWith_28 rfl rfl rfl ?_
        refine v_get F (C := RX5) (T := TX5) (N := 14) (ci := 5) (v := .ref (h 3)) 0 2 hin5 rfl cw_at0 (by decide) (by decide +kernel) rfl (q := 32) dX5_endWith_29 rfl ?_
        refine v_iload_n F 0 (q := 33) dX5_endWith_32 rfl rfl rfl ?_
        refine v_aald F (j := i) (b := h (9 + i)) 3 1 rfl cw_at3 rfl (by omega) (by decide) rfl (q := 34) dX5_endWith_33 rfl ?_
        refine v_aload_n F 3 (q := 35) dX5_endWith_34 rfl rfl rfl ?_
        refine v_iload_n F 0 (q := 36) dX5_endWith_35 rfl rfl rfl ?_
        refine v_iald F (j := i) rq hrow rfl (by omega) (by decide) (q := 37) dX5_endWith_36 rfl ?_
        have b_6 := hf i (by omega)
        refine v_callVi0 F (kX3_reach hst (k := k) (h := h) (S := S) (Z := Z) hI (m := i) (by omega) (f := f) (by omega)) gX5_endWith_X3_reach rfl hdX3_reach ⟨by decide, by decide⟩ (9 + i) (cw_mast i (by omega)) rfl rfl rfl (Nat.le_of_ble_eq_true rfl) ⟨(Nat.zero_le _), (Nat.zero_le _)⟩ (q := 40) dX5_endWith_37 rfl ?_
        rintro a_7 _ ⟨rfl, ⟨h_7, hc_7⟩⟩
        refine v_iadd F (q := 41) dX5_endWith_40 rfl ?_
        refine v_max F (by omega) (by omega) (by decide +kernel) (by decide +kernel) (by decide +kernel) (by decide +kernel) ⟨by decide, Nat.le_of_ble_eq_true rfl⟩ ⟨(Nat.zero_le _), (Nat.zero_le _)⟩ (q := 44) dX5_endWith_41 rfl ?_
        refine v_istore_n F (q := 45) [(2, VI (max en ((S 1 i) + a_7))), (3, VI ((i : Nat) : Int)), (0, .ref (h 0)), (1, .ref (ra))] dX5_endWith_44 rfl (by decide) rfl rfl ?_
        refine v_iinc F (q := 48) (z := ((i + 1 : Nat) : Int)) 1 [(3, VI ((i + 1 : Nat) : Int)), (2, VI (max en ((S 1 i) + a_7))), (0, .ref (h 0)), (1, .ref (ra))] dX5_endWith_45 rfl (by decide) (by omega) rfl rfl ?_
        refine v_goto F (tgt := 10) dX5_endWith_48 rfl ?_
        exact ih_10 (max en ((S 1 i) + a_7)) (i + 1) (by exact ⟨by omega, by rw [mx_s, ← hv2]; omega⟩) (by omega)
  exact L10_2 _ (S 0 4) 0 (by exact ⟨by omega, rfl⟩) (Nat.lt_succ_self _)
theorem hdX5_goesThroughNeck : yX5_goesThroughNeck.cls = RX5 ∧ yX5_goesThroughNeck.cls ≠ "java/lang/invoke/MethodHandle" ∧ yX5_goesThroughNeck.cls ≠ "java/lang/invoke/VarHandle" ∧ (parseMethodDescriptor yX5_goesThroughNeck.desc).map (fun d => d.parameters.length) = some 0 := by decide +kernel
set_option maxRecDepth 100000 in
set_option maxHeartbeats 4000000 in
theorem kX5_goesThroughNeck {l : Launch} (hst : l.stackTraces = false) {k : Nat → ClassId} {h : Nat → Nat} {S Z : Nat → Nat → Int} (hI : Inv S) : v_Ci l k yX5_goesThroughNeck wsX5_goesThroughNeck ({ frames := 3, cells := 0, slots := 0, locals := 65 } : Room) [.ref (h 0)] (cw k h S Z) (fun a u => u = cw k h S Z ∧ vB (goesB S = true) a) := by
  refine v_ofI (cc := cX5_goesThroughNeck) (nL := 1) (by decide +kernel) rfl hst (Nat.le_of_ble_eq_true rfl) (fun _ _ hp => vB_n hp.2) (fun XX F ret => ?_)
  have hin0 : ∀ w ∈ wsX00, w ∈ wsX5_goesThroughNeck := by decide +kernel
  have hin5 : ∀ w ∈ wsX50, w ∈ wsX5_goesThroughNeck := by decide +kernel
  have b7 := hI.mc
  have b8 := hI.cc
  show V XX (cw k h S Z) 0 0 0 [(0, .ref (h 0))] []
  refine v_aload_n F 0 (q := 1) dX5_goesThroughNeck_0 rfl rfl rfl ?_
  refine v_callVi0 F (kX5_breadth hst (k := k) (h := h) (S := S) (Z := Z) hI) gX5_goesThroughNeck_X5_breadth rfl hdX5_breadth ⟨by decide, by decide⟩ 0 cw_at0 rfl rfl rfl (Nat.le_of_ble_eq_true rfl) ⟨(Nat.zero_le _), (Nat.zero_le _)⟩ (q := 4) dX5_goesThroughNeck_1 rfl ?_
  rintro a_1 _ ⟨rfl, ⟨h_1, hc_1⟩⟩
  refine v_aload_n F 0 (q := 5) dX5_goesThroughNeck_4 rfl rfl rfl ?_
  refine v_get F (C := RX5) (T := TX5) (N := 14) (ci := 5) (v := .ref (h 1)) 0 0 hin5 rfl cw_at0 (by decide) (by decide +kernel) rfl (q := 8) dX5_goesThroughNeck_5 rfl ?_
  refine v_get F (C := RX0) (T := TX0) (N := 4) (ci := 0) (v := VI (S 0 0)) 1 0 hin0 rfl cw_at1 (by decide) (by decide +kernel) rfl (q := 11) dX5_goesThroughNeck_8 rfl ?_
  have b_2 := And.intro (hI.sc 0 (by decide)) (hI.1 0 0 (by omega)).2
  refine v_icmp_gt F (tgt := 36) (q := 14) (by omega) (by omega) dX5_goesThroughNeck_11 rfl rfl (fun h_3 => ?_) (fun h_3 => ?_)
  · refine v_const F (q := 37) dX5_goesThroughNeck_36 rfl ?_
    exact ret _ _ _ _ _ _ (Nat.zero_le _) (Nat.zero_le _) dX5_goesThroughNeck_37 (⟨rfl, vB_0 (by unfold goesB; simp only [Bool.and_eq_true, decide_eq_true_eq]; omega)⟩)
  · refine v_aload_n F 0 (q := 15) dX5_goesThroughNeck_14 rfl rfl rfl ?_
    refine v_aload_n F 0 (q := 16) dX5_goesThroughNeck_15 rfl rfl rfl ?_
    refine v_get F (C := RX5) (T := TX5) (N := 14) (ci := 5) (v := .ref (h 6)) 0 5 hin5 rfl cw_at0 (by decide) (by decide +kernel) rfl (q := 19) dX5_goesThroughNeck_16 rfl ?_
    refine v_callVi0 F (kX5_topWith hst (k := k) (h := h) (S := S) (Z := Z) hI (rq := 6) (ra := h 6) (f := S 4) cw_at6 hI.lean3) gX5_goesThroughNeck_X5_topWith rfl hdX5_topWith ⟨by decide, by decide⟩ 0 cw_at0 rfl rfl rfl (Nat.le_of_ble_eq_true rfl) ⟨(Nat.zero_le _), (Nat.zero_le _)⟩ (q := 22) dX5_goesThroughNeck_19 rfl ?_
    rintro a_4 _ ⟨rfl, ⟨h_4, hc_4⟩⟩
    refine v_aload_n F 0 (q := 23) dX5_goesThroughNeck_22 rfl rfl rfl ?_
    refine v_get F (C := RX5) (T := TX5) (N := 14) (ci := 5) (v := .ref (h 1)) 0 0 hin5 rfl cw_at0 (by decide) (by decide +kernel) rfl (q := 26) dX5_goesThroughNeck_23 rfl ?_
    refine v_get F (C := RX0) (T := TX0) (N := 4) (ci := 0) (v := VI (S 0 0)) 1 0 hin0 rfl cw_at1 (by decide) (by decide +kernel) rfl (q := 29) dX5_goesThroughNeck_26 rfl ?_
    have b_5 := And.intro (hI.sc 0 (by decide)) (hI.1 0 0 (by omega)).2
    refine v_icmp_gt F (tgt := 36) (q := 32) (by omega) (by omega) dX5_goesThroughNeck_29 rfl rfl (fun h_6 => ?_) (fun h_6 => ?_)
    · refine v_const F (q := 37) dX5_goesThroughNeck_36 rfl ?_
      exact ret _ _ _ _ _ _ (Nat.zero_le _) (Nat.zero_le _) dX5_goesThroughNeck_37 (⟨rfl, vB_0 (by unfold goesB; simp only [Bool.and_eq_true, decide_eq_true_eq]; omega)⟩)
    · refine v_const F (q := 33) dX5_goesThroughNeck_32 rfl ?_
      refine v_goto F (tgt := 37) dX5_goesThroughNeck_33 rfl ?_
      exact ret _ _ _ _ _ _ (Nat.zero_le _) (Nat.zero_le _) dX5_goesThroughNeck_37 (⟨rfl, vB_1 (by unfold goesB; simp only [Bool.and_eq_true, decide_eq_true_eq]; omega)⟩)
theorem hdX5_fitsWith : yX5_fitsWith.cls = RX5 ∧ yX5_fitsWith.cls ≠ "java/lang/invoke/MethodHandle" ∧ yX5_fitsWith.cls ≠ "java/lang/invoke/VarHandle" ∧ (parseMethodDescriptor yX5_fitsWith.desc).map (fun d => d.parameters.length) = some 1 := by decide +kernel
set_option maxRecDepth 100000 in
set_option maxHeartbeats 4000000 in
theorem kX5_fitsWith {l : Launch} (hst : l.stackTraces = false) {k : Nat → ClassId} {h : Nat → Nat} {S Z : Nat → Nat → Int} (hI : Inv S) {rq ra : Nat} {f : Nat → Int} (hrow : (cw k h S Z)[rq]? = some (ra, aI k 3 f)) (hf : ∀ m, m < 3 → 0 ≤ f m ∧ f m ≤ 9) : v_Ci l k yX5_fitsWith wsX5_fitsWith ({ frames := 2, cells := 0, slots := 0, locals := 44 } : Room) [.ref (h 0), .ref (ra)] (cw k h S Z) (fun a u => u = cw k h S Z ∧ vB (fitsB S f = true) a) := by
  refine v_ofI (cc := cX5_fitsWith) (nL := 2) (by decide +kernel) rfl hst (Nat.le_of_ble_eq_true rfl) (fun _ _ hp => vB_n hp.2) (fun XX F ret => ?_)
  have hin0 : ∀ w ∈ wsX00, w ∈ wsX5_fitsWith := by decide +kernel
  have hin5 : ∀ w ∈ wsX50, w ∈ wsX5_fitsWith := by decide +kernel
  have b7 := hI.mc
  have b8 := hI.cc
  show V XX (cw k h S Z) 0 0 0 [(0, .ref (h 0)), (1, .ref (ra))] []
  refine v_aload_n F 0 (q := 1) dX5_fitsWith_0 rfl rfl rfl ?_
  refine v_aload_n F 1 (q := 2) dX5_fitsWith_1 rfl rfl rfl ?_
  refine v_callVi0 F (kX5_endWith hst (k := k) (h := h) (S := S) (Z := Z) hI (rq := rq) (ra := ra) (f := f) hrow hf) gX5_fitsWith_X5_endWith rfl hdX5_endWith ⟨by decide, by decide⟩ 0 cw_at0 rfl rfl rfl (Nat.le_of_ble_eq_true rfl) ⟨(Nat.zero_le _), (Nat.zero_le _)⟩ (q := 5) dX5_fitsWith_2 rfl ?_
  rintro a_1 _ ⟨rfl, ⟨h_1, hc_1⟩⟩
  refine v_aload_n F 0 (q := 6) dX5_fitsWith_5 rfl rfl rfl ?_
  refine v_get F (C := RX5) (T := TX5) (N := 14) (ci := 5) (v := .ref (h 1)) 0 0 hin5 rfl cw_at0 (by decide) (by decide +kernel) rfl (q := 9) dX5_fitsWith_6 rfl ?_
  refine v_get F (C := RX0) (T := TX0) (N := 4) (ci := 0) (v := VI (S 0 2)) 1 2 hin0 rfl cw_at1 (by decide) (by decide +kernel) rfl (q := 12) dX5_fitsWith_9 rfl ?_
  have b_2 := And.intro (hI.sc 2 (by decide)) (hI.1 0 2 (by omega)).2
  refine v_icmp_gt F (tgt := 42) (q := 15) (by omega) (by omega) dX5_fitsWith_12 rfl rfl (fun h_3 => ?_) (fun h_3 => ?_)
  · refine v_const F (q := 43) dX5_fitsWith_42 rfl ?_
    exact ret _ _ _ _ _ _ (Nat.zero_le _) (Nat.zero_le _) dX5_fitsWith_43 (⟨rfl, vB_0 (by unfold fitsB; simp only [Bool.and_eq_true, decide_eq_true_eq]; omega)⟩)
  · refine v_aload_n F 0 (q := 16) dX5_fitsWith_15 rfl rfl rfl ?_
    refine v_aload_n F 1 (q := 17) dX5_fitsWith_16 rfl rfl rfl ?_
    refine v_callVi0 F (kX5_topWith hst (k := k) (h := h) (S := S) (Z := Z) hI (rq := rq) (ra := ra) (f := f) hrow hf) gX5_fitsWith_X5_topWith rfl hdX5_topWith ⟨by decide, by decide⟩ 0 cw_at0 rfl rfl rfl (Nat.le_of_ble_eq_true rfl) ⟨(Nat.zero_le _), (Nat.zero_le _)⟩ (q := 20) dX5_fitsWith_17 rfl ?_
    rintro a_4 _ ⟨rfl, ⟨h_4, hc_4⟩⟩
    refine v_aload_n F 0 (q := 21) dX5_fitsWith_20 rfl rfl rfl ?_
    refine v_get F (C := RX5) (T := TX5) (N := 14) (ci := 5) (v := .ref (h 1)) 0 0 hin5 rfl cw_at0 (by decide) (by decide +kernel) rfl (q := 24) dX5_fitsWith_21 rfl ?_
    refine v_get F (C := RX0) (T := TX0) (N := 4) (ci := 0) (v := VI (S 0 3)) 1 3 hin0 rfl cw_at1 (by decide) (by decide +kernel) rfl (q := 27) dX5_fitsWith_24 rfl ?_
    have b_5 := And.intro (hI.sc 3 (by decide)) (hI.1 0 3 (by omega)).2
    refine v_iadd F (q := 28) dX5_fitsWith_27 rfl ?_
    refine v_aload_n F 0 (q := 29) dX5_fitsWith_28 rfl rfl rfl ?_
    refine v_get F (C := RX5) (T := TX5) (N := 14) (ci := 5) (v := .ref (h 1)) 0 0 hin5 rfl cw_at0 (by decide) (by decide +kernel) rfl (q := 32) dX5_fitsWith_29 rfl ?_
    refine v_get F (C := RX0) (T := TX0) (N := 4) (ci := 0) (v := VI (S 0 1)) 1 1 hin0 rfl cw_at1 (by decide) (by decide +kernel) rfl (q := 35) dX5_fitsWith_32 rfl ?_
    have b_6 := And.intro (hI.sc 1 (by decide)) (hI.1 0 1 (by omega)).2
    refine v_icmp_gt F (tgt := 42) (q := 38) (by omega) (by omega) dX5_fitsWith_35 rfl rfl (fun h_7 => ?_) (fun h_7 => ?_)
    · refine v_const F (q := 43) dX5_fitsWith_42 rfl ?_
      exact ret _ _ _ _ _ _ (Nat.zero_le _) (Nat.zero_le _) dX5_fitsWith_43 (⟨rfl, vB_0 (by unfold fitsB; simp only [Bool.and_eq_true, decide_eq_true_eq]; omega)⟩)
    · refine v_const F (q := 39) dX5_fitsWith_38 rfl ?_
      refine v_goto F (tgt := 43) dX5_fitsWith_39 rfl ?_
      exact ret _ _ _ _ _ _ (Nat.zero_le _) (Nat.zero_le _) dX5_fitsWith_43 (⟨rfl, vB_1 (by unfold fitsB; simp only [Bool.and_eq_true, decide_eq_true_eq]; omega)⟩)
theorem hdX5_fallInAnHour : yX5_fallInAnHour.cls = RX5 ∧ yX5_fallInAnHour.cls ≠ "java/lang/invoke/MethodHandle" ∧ yX5_fallInAnHour.cls ≠ "java/lang/invoke/VarHandle" ∧ (parseMethodDescriptor yX5_fallInAnHour.desc).map (fun d => d.parameters.length) = some 1 := by decide +kernel
set_option maxRecDepth 100000 in
set_option maxHeartbeats 4000000 in
theorem kX5_fallInAnHour {l : Launch} (hst : l.stackTraces = false) {k : Nat → ClassId} {h : Nat → Nat} {S Z : Nat → Nat → Int} (hI : Inv S) {m : Nat} (hm : m < 3) : v_Ci l k yX5_fallInAnHour wsX5_fallInAnHour ({ frames := 2, cells := 0, slots := 0, locals := 45 } : Room) [.ref (h 0), VI ((m : Nat) : Int)] (cw k h S Z) (fun a u => u = cw k h S Z ∧ a = fallF S m ∧ 0 ≤ a ∧ a ≤ 2) := by
  refine v_ofI (cc := cX5_fallInAnHour) (nL := 2) (by decide +kernel) rfl hst (Nat.le_of_ble_eq_true rfl) (fun _ _ _ => rfl) (fun XX F ret => ?_)
  have hin3 : ∀ w ∈ wsX30, w ∈ wsX5_fallInAnHour := by decide +kernel
  have hin5 : ∀ w ∈ wsX50, w ∈ wsX5_fallInAnHour := by decide +kernel
  have b7 := hI.mc
  have b8 := hI.cc
  show V XX (cw k h S Z) 0 0 0 [(0, .ref (h 0)), (1, VI ((m : Nat) : Int))] []
  refine v_aload_n F 0 (q := 1) dX5_fallInAnHour_0 rfl rfl rfl ?_
  refine v_iload_n F 1 (q := 2) dX5_fallInAnHour_1 rfl rfl rfl ?_
  refine v_callVi0 F (kX5_isHeld hst (k := k) (h := h) (S := S) (Z := Z) hI (a0 := ((m : Nat) : Int)) (by omega)) gX5_fallInAnHour_X5_isHeld rfl hdX5_isHeld ⟨by decide, by decide⟩ 0 cw_at0 rfl rfl rfl (Nat.le_of_ble_eq_true rfl) ⟨(Nat.zero_le _), (Nat.zero_le _)⟩ (q := 5) dX5_fallInAnHour_2 rfl ?_
  rintro _ _ ⟨rfl, ⟨rfl, h_1⟩ | ⟨rfl, h_1⟩⟩
  · refine v_if_ne F (tgt := 16) (q := 8) (by omega) dX5_fallInAnHour_5 rfl rfl (fun h_2 => ?_) (fun h_2 => absurd h_2 (by omega))
    refine v_const F (q := 17) dX5_fallInAnHour_16 rfl ?_
    exact ret _ _ _ _ _ _ (Nat.zero_le _) (Nat.zero_le _) dX5_fallInAnHour_17 (⟨rfl, by unfold fallF; grind, by decide, by decide⟩)
  · refine v_if_ne F (tgt := 16) (q := 8) R32_0 dX5_fallInAnHour_5 rfl rfl (fun h_3 => absurd h_3 (by omega)) (fun h_3 => ?_)
    refine v_aload_n F 0 (q := 9) dX5_fallInAnHour_8 rfl rfl rfl ?_
    refine v_iload_n F 1 (q := 10) dX5_fallInAnHour_9 rfl rfl rfl ?_
    refine v_callVi0 F (kX5_looseThreadsFrom hst (k := k) (h := h) (S := S) (Z := Z) hI (a0 := ((m : Nat) : Int)) (by omega)) gX5_fallInAnHour_X5_looseThreadsFrom rfl hdX5_looseThreadsFrom ⟨by decide, by decide⟩ 0 cw_at0 rfl rfl rfl (Nat.le_of_ble_eq_true rfl) ⟨(Nat.zero_le _), (Nat.zero_le _)⟩ (q := 13) dX5_fallInAnHour_10 rfl ?_
    rintro a_4 _ ⟨rfl, ⟨h_4, hc_4⟩⟩
    refine v_if_le F (tgt := 18) (q := 16) (by omega) dX5_fallInAnHour_13 rfl rfl (fun h_5 => ?_) (fun h_5 => ?_)
    · refine v_aload_n F 0 (q := 19) dX5_fallInAnHour_18 rfl rfl rfl ?_
      refine v_get F (C := RX5) (T := TX5) (N := 14) (ci := 5) (v := .ref (h 3)) 0 2 hin5 rfl cw_at0 (by decide) (by decide +kernel) rfl (q := 22) dX5_fallInAnHour_19 rfl ?_
      refine v_iload_n F 1 (q := 23) dX5_fallInAnHour_22 rfl rfl rfl ?_
      refine v_aald F (j := m) (b := h (9 + m)) 3 1 rfl cw_at3 rfl (by omega) (by decide) rfl (q := 24) dX5_fallInAnHour_23 rfl ?_
      refine v_get F (C := RX3) (T := TX3) (N := 4) (ci := 3) (v := VI (S 3 m)) (9 + m) 3 hin3 rfl (cw_mast m (by omega)) (by decide) (by decide +kernel) rfl (q := 27) dX5_fallInAnHour_24 rfl ?_
      have b_6 := hI.yc m
      refine v_const F (q := 28) dX5_fallInAnHour_27 rfl ?_
      refine v_icmp_lt F (tgt := 35) (q := 31) (by omega) (by omega) dX5_fallInAnHour_28 rfl rfl (fun h_7 => ?_) (fun h_7 => ?_)
      · refine v_const F (q := 36) dX5_fallInAnHour_35 rfl ?_
        exact ret _ _ _ _ _ _ (Nat.zero_le _) (Nat.zero_le _) dX5_fallInAnHour_36 (⟨rfl, by unfold fallF; grind, by decide, by decide⟩)
      · refine v_const F (q := 32) dX5_fallInAnHour_31 rfl ?_
        refine v_goto F (tgt := 36) dX5_fallInAnHour_32 rfl ?_
        exact ret _ _ _ _ _ _ (Nat.zero_le _) (Nat.zero_le _) dX5_fallInAnHour_36 (⟨rfl, by unfold fallF; grind, by decide, by decide⟩)
    · refine v_const F (q := 17) dX5_fallInAnHour_16 rfl ?_
      exact ret _ _ _ _ _ _ (Nat.zero_le _) (Nat.zero_le _) dX5_fallInAnHour_17 (⟨rfl, by unfold fallF; grind, by decide, by decide⟩)
theorem hdX5_loweredBy : yX5_loweredBy.cls = RX5 ∧ yX5_loweredBy.cls ≠ "java/lang/invoke/MethodHandle" ∧ yX5_loweredBy.cls ≠ "java/lang/invoke/VarHandle" ∧ (parseMethodDescriptor yX5_loweredBy.desc).map (fun d => d.parameters.length) = some 1 := by decide +kernel
set_option maxRecDepth 100000 in
set_option maxHeartbeats 4000000 in
theorem kX5_loweredBy {l : Launch} (hst : l.stackTraces = false) {k : Nat → ClassId} {h : Nat → Nat} {S Z : Nat → Nat → Int} (hI : Inv S) {a0 : Int} (g0 : R32 a0) : v_Ci l k yX5_loweredBy wsX5_loweredBy ({ frames := 2, cells := 0, slots := 0, locals := 45 } : Room) [.ref (h 0), VI a0] (cw k h S Z) (fun a u => u = cw k h S Z ∧ a = lowM S a0) := by
  refine v_ofI (cc := cX5_loweredBy) (nL := 5) (by decide +kernel) rfl hst (Nat.le_of_ble_eq_true rfl) (fun _ _ _ => rfl) (fun XX F ret => ?_)
  have hin1 : ∀ w ∈ wsX10, w ∈ wsX5_loweredBy := by decide +kernel
  have hin5 : ∀ w ∈ wsX50, w ∈ wsX5_loweredBy := by decide +kernel
  have b7 := hI.mc
  have b8 := hI.cc
  show V XX (cw k h S Z) 0 0 0 [(0, .ref (h 0)), (1, VI a0)] []
  refine v_const F (q := 1) dX5_loweredBy_0 rfl ?_
  refine v_istore_n F (q := 2) [(2, VI 0), (0, .ref (h 0)), (1, VI a0)] dX5_loweredBy_1 rfl (by decide) rfl rfl ?_
  refine v_const F (q := 3) dX5_loweredBy_2 rfl ?_
  refine v_istore_n F (q := 4) [(3, VI 0), (2, VI 0), (0, .ref (h 0)), (1, VI a0)] dX5_loweredBy_3 rfl (by decide) rfl rfl ?_
  have L4_1 : ∀ (fu : Nat) (lo : Int) (i : Nat), ((i : Int) ≤ S 0 8 ∧ lo = mskI (lowI S a0 i)) → (S 0 8 - i).toNat < fu → V XX (cw k h S Z) 0 0 4 [(3, VI ((i : Nat) : Int)), (2, VI lo), (0, .ref (h 0)), (1, VI a0)] [] := by
    intro fu_4
    induction fu_4 with
    | zero => intros; omega
    | succ fu_4 ih_4 =>
      intro lo i hv hm_4
      obtain ⟨hv1, hv2⟩ := hv
      refine v_iload_n F 0 (q := 5) dX5_loweredBy_4 rfl rfl rfl ?_
      refine v_aload_n F 2 (q := 6) dX5_loweredBy_5 rfl rfl rfl ?_
      refine v_get F (C := RX5) (T := TX5) (N := 14) (ci := 5) (v := VI (S 0 8)) 0 9 hin5 rfl cw_at0 (by decide) (by decide +kernel) rfl (q := 9) dX5_loweredBy_6 rfl ?_
      have b_2 := And.intro (hI.sc 8 (by decide)) (hI.1 0 8 (by omega)).2
      refine v_icmp_ge F (tgt := 74) (q := 12) (by omega) (by omega) dX5_loweredBy_9 rfl rfl (fun h_3 => ?_) (fun h_3 => ?_)
      · refine v_iload_n F 1 (q := 75) dX5_loweredBy_74 rfl rfl rfl ?_
        exact ret _ _ _ _ _ _ (Nat.zero_le _) (Nat.zero_le _) dX5_loweredBy_75 (⟨rfl, by rw [hv2, show i = tcn S from by unfold tcn; omega]; rfl⟩)
      · refine v_aload_n F 2 (q := 13) dX5_loweredBy_12 rfl rfl rfl ?_
        refine v_get F (C := RX5) (T := TX5) (N := 14) (ci := 5) (v := .ref (h 4)) 0 3 hin5 rfl cw_at0 (by decide) (by decide +kernel) rfl (q := 16) dX5_loweredBy_13 rfl ?_
        refine v_iload_n F 0 (q := 17) dX5_loweredBy_16 rfl rfl rfl ?_
        refine v_aald F (j := i) (b := h (15 + i)) 4 2 rfl cw_at4 rfl (by omega) (by decide) rfl (q := 18) dX5_loweredBy_17 rfl ?_
        refine v_astore F (q := 20) [(4, .ref (h (15 + i))), (3, VI ((i : Nat) : Int)), (2, VI lo), (0, .ref (h 0)), (1, VI a0)] dX5_loweredBy_18 (by decide) rfl rfl ?_
        refine v_aload F 0 (q := 22) dX5_loweredBy_20 rfl rfl ?_
        refine v_get F (C := RX1) (T := TX1) (N := 6) (ci := 1) (v := VI (S 5 i)) (15 + i) 0 hin1 rfl (cw_cord i (by omega)) (by decide) (by decide +kernel) rfl (q := 25) dX5_loweredBy_22 rfl ?_
        have b_4 := hI.th i
        refine v_iload_n F 4 (q := 26) dX5_loweredBy_25 rfl rfl rfl ?_
        refine v_icmp_ne F (tgt := 68) (q := 29) (by omega) (by omega) dX5_loweredBy_26 rfl rfl (fun h_5 => ?_) (fun h_5 => ?_)
        · refine v_iinc F (q := 71) (z := ((i + 1 : Nat) : Int)) 1 [(3, VI ((i + 1 : Nat) : Int)), (4, .ref (h (15 + i))), (2, VI lo), (0, .ref (h 0)), (1, VI a0)] dX5_loweredBy_68 rfl (by decide) (by omega) rfl rfl ?_
          refine v_goto F (tgt := 4) dX5_loweredBy_71 rfl ?_
          refine v_sub [0, 2, 3, 4] rfl ?_
          exact ih_4 lo (i + 1) (by refine ⟨by omega, ?_⟩; first | exact msk_cg (fun x _ => (lowI_add (by assumption) (by assumption) (by assumption) (by assumption) x).symm) | (rw [hv2]; exact msk_cg (fun x _ => (lowI_no (fun q1 q2 q3 => by first | contradiction | assumption) x).symm))) (by omega)
        · refine v_aload F 0 (q := 31) dX5_loweredBy_29 rfl rfl ?_
          refine v_get F (C := RX1) (T := TX1) (N := 6) (ci := 1) (v := VI (S 8 i)) (15 + i) 3 hin1 rfl (cw_cord i (by omega)) (by decide) (by decide +kernel) rfl (q := 34) dX5_loweredBy_31 rfl ?_
          have b_6 := hI.st i
          refine v_if_ne F (tgt := 68) (q := 37) (by omega) dX5_loweredBy_34 rfl rfl (fun h_7 => ?_) (fun h_7 => ?_)
          · refine v_iinc F (q := 71) (z := ((i + 1 : Nat) : Int)) 1 [(3, VI ((i + 1 : Nat) : Int)), (4, .ref (h (15 + i))), (2, VI lo), (0, .ref (h 0)), (1, VI a0)] dX5_loweredBy_68 rfl (by decide) (by omega) rfl rfl ?_
            refine v_goto F (tgt := 4) dX5_loweredBy_71 rfl ?_
            refine v_sub [0, 2, 3, 4] rfl ?_
            exact ih_4 lo (i + 1) (by refine ⟨by omega, ?_⟩; first | exact msk_cg (fun x _ => (lowI_add (by assumption) (by assumption) (by assumption) (by assumption) x).symm) | (rw [hv2]; exact msk_cg (fun x _ => (lowI_no (fun q1 q2 q3 => by first | contradiction | assumption) x).symm))) (by omega)
          · refine v_aload F 0 (q := 39) dX5_loweredBy_37 rfl rfl ?_
            refine v_get F (C := RX1) (T := TX1) (N := 6) (ci := 1) (v := VI (S 6 i)) (15 + i) 1 hin1 rfl (cw_cord i (by omega)) (by decide) (by decide +kernel) rfl (q := 42) dX5_loweredBy_39 rfl ?_
            have b_8 := hI.1 6 i (by omega)
            refine v_const F (q := 43) dX5_loweredBy_42 rfl ?_
            refine v_icmp_eq F (tgt := 68) (q := 46) (by omega) (by omega) dX5_loweredBy_43 rfl rfl (fun h_9 => ?_) (fun h_9 => ?_)
            · refine v_iinc F (q := 71) (z := ((i + 1 : Nat) : Int)) 1 [(3, VI ((i + 1 : Nat) : Int)), (4, .ref (h (15 + i))), (2, VI lo), (0, .ref (h 0)), (1, VI a0)] dX5_loweredBy_68 rfl (by decide) (by omega) rfl rfl ?_
              refine v_goto F (tgt := 4) dX5_loweredBy_71 rfl ?_
              refine v_sub [0, 2, 3, 4] rfl ?_
              exact ih_4 lo (i + 1) (by refine ⟨by omega, ?_⟩; first | exact msk_cg (fun x _ => (lowI_add (by assumption) (by assumption) (by assumption) (by assumption) x).symm) | (rw [hv2]; exact msk_cg (fun x _ => (lowI_no (fun q1 q2 q3 => by first | contradiction | assumption) x).symm))) (by omega)
            · refine v_aload_n F 3 (q := 47) dX5_loweredBy_46 rfl rfl rfl ?_
              refine v_aload F 0 (q := 49) dX5_loweredBy_47 rfl rfl ?_
              refine v_get F (C := RX1) (T := TX1) (N := 6) (ci := 1) (v := VI (S 6 i)) (15 + i) 1 hin1 rfl (cw_cord i (by omega)) (by decide) (by decide +kernel) rfl (q := 52) dX5_loweredBy_49 rfl ?_
              have b_10 := hI.1 6 i (by omega)
              refine v_callVi0 F (kX5_isHeld hst (k := k) (h := h) (S := S) (Z := Z) hI (a0 := S 6 i) (by omega)) gX5_loweredBy_X5_isHeld rfl hdX5_isHeld ⟨by decide, by decide⟩ 0 cw_at0 rfl rfl rfl (Nat.le_of_ble_eq_true rfl) ⟨(Nat.zero_le _), (Nat.zero_le _)⟩ (q := 55) dX5_loweredBy_52 rfl ?_
              rintro _ _ ⟨rfl, ⟨rfl, h_11⟩ | ⟨rfl, h_11⟩⟩
              · refine v_if_ne F (tgt := 68) (q := 58) (by omega) dX5_loweredBy_55 rfl rfl (fun h_12 => ?_) (fun h_12 => absurd h_12 (by omega))
                refine v_iinc F (q := 71) (z := ((i + 1 : Nat) : Int)) 1 [(3, VI ((i + 1 : Nat) : Int)), (4, .ref (h (15 + i))), (2, VI lo), (0, .ref (h 0)), (1, VI a0)] dX5_loweredBy_68 rfl (by decide) (by omega) rfl rfl ?_
                refine v_goto F (tgt := 4) dX5_loweredBy_71 rfl ?_
                refine v_sub [0, 2, 3, 4] rfl ?_
                exact ih_4 lo (i + 1) (by refine ⟨by omega, ?_⟩; first | exact msk_cg (fun x _ => (lowI_add (by assumption) (by assumption) (by assumption) (by assumption) x).symm) | (rw [hv2]; exact msk_cg (fun x _ => (lowI_no (fun q1 q2 q3 => by first | contradiction | assumption) x).symm))) (by omega)
              · refine v_if_ne F (tgt := 68) (q := 58) R32_0 dX5_loweredBy_55 rfl rfl (fun h_13 => absurd h_13 (by omega)) (fun h_13 => ?_)
                refine v_iload_n F 2 (q := 59) dX5_loweredBy_58 rfl rfl rfl ?_
                refine v_const F (q := 60) dX5_loweredBy_59 rfl ?_
                refine v_aload F 0 (q := 62) dX5_loweredBy_60 rfl rfl ?_
                refine v_get F (C := RX1) (T := TX1) (N := 6) (ci := 1) (v := VI (S 6 i)) (15 + i) 1 hin1 rfl (cw_cord i (by omega)) (by decide) (by decide +kernel) rfl (q := 65) dX5_loweredBy_62 rfl ?_
                have b_14 := hI.1 6 i (by omega)
                have b_t := hI.thr i (by omega)
                obtain ⟨o, ho, ho3⟩ : ∃ o : Nat, S 6 i = (o : Int) ∧ o < 3 := ⟨(S 6 i).toNat, by omega, by omega⟩
                refine v_cast (b := (o : Int)) ho ?_
                refine v_ishl F (q := 66) (z := ((2 ^ o : Nat) : Int)) dX5_loweredBy_65 (msk_sh1 o ho3) rfl ?_
                refine v_ior F (q := 67) (z := mskI (fun x => lowI S a0 i x || decide (x = o))) dX5_loweredBy_66 (by rw [hv2]; exact msk_or _ o ho3) rfl ?_
                refine v_istore_n F (q := 68) [(2, VI (mskI (fun x => lowI S a0 i x || decide (x = o)))), (4, .ref (h (15 + i))), (3, VI ((i : Nat) : Int)), (0, .ref (h 0)), (1, VI a0)] dX5_loweredBy_67 rfl (by decide) rfl rfl ?_
                refine v_iinc F (q := 71) (z := ((i + 1 : Nat) : Int)) 2 [(3, VI ((i + 1 : Nat) : Int)), (2, VI (mskI (fun x => lowI S a0 i x || decide (x = o)))), (4, .ref (h (15 + i))), (0, .ref (h 0)), (1, VI a0)] dX5_loweredBy_68 rfl (by decide) (by omega) rfl rfl ?_
                refine v_goto F (tgt := 4) dX5_loweredBy_71 rfl ?_
                refine v_sub [0, 1, 3, 4] rfl ?_
                exact ih_4 (mskI (fun x => lowI S a0 i x || decide (x = o))) (i + 1) (by refine ⟨by omega, ?_⟩; first | exact msk_cg (fun x _ => (lowI_add (by assumption) (by assumption) (by assumption) (by assumption) x).symm) | (rw [hv2]; exact msk_cg (fun x _ => (lowI_no (fun q1 q2 q3 => by first | contradiction | assumption) x).symm))) (by omega)
  exact L4_1 _ 0 0 (by exact ⟨by omega, by unfold mskI; rw [lowI_0, lowI_0, lowI_0]; rfl⟩) (Nat.lt_succ_self _)
theorem hdX5_raise : yX5_raise.cls ≠ "java/lang/invoke/MethodHandle" ∧ yX5_raise.cls ≠ "java/lang/invoke/VarHandle" ∧ (parseMethodDescriptor yX5_raise.desc).map (fun d => d.parameters.length) = some 4 := by decide +kernel
set_option maxRecDepth 100000 in
set_option maxHeartbeats 4000000 in
theorem kX5_raise {l : Launch} (hst : l.stackTraces = false) {k : Nat → ClassId} {h : Nat → Nat} {S Z : Nat → Nat → Int} (hI : Inv S) {m : Nat} (hm : m < 2147483648) {b : Nat → Bool} {rq ra : Nat} {f : Nat → Int} (hrow : ∀ Z9 : Nat → Nat → Int, (∀ j, Z9 0 j = Z 0 j) → (cw k h S Z9)[rq]? = some (ra, aI k 3 f)) (hf : ∀ m, m < 3 → 0 ≤ f m ∧ f m ≤ 9) : v_Cv l k yX5_raise wsX5_raise ({ frames := 0, cells := 0, slots := 0, locals := 0 } : Room) [VI ((m : Nat) : Int), VI (mskI b), .ref (ra), .ref (h 8)] (cw k h S Z) (fun u => ∃ Z9, u = cw k h S Z9 ∧ (∀ a j : Nat, a ≠ 1 → Z9 a j = Z a j) ∧ ∀ j, j < 3 → Z9 1 j = rzF b m f j) := by
  refine v_ofV (cc := cX5_raise) (nL := 5) (by decide +kernel) rfl hst (Nat.le_of_ble_eq_true rfl) (fun XX F ret => ?_)
  have b7 := hI.mc
  have b8 := hI.cc
  show V XX (cw k h S Z) 0 0 0 [(0, VI ((m : Nat) : Int)), (1, VI (mskI b)), (2, .ref (ra)), (3, .ref (h 8))] []
  refine v_const F (q := 1) dX5_raise_0 rfl ?_
  refine v_istore F (q := 3) [(4, VI 0), (0, VI ((m : Nat) : Int)), (1, VI (mskI b)), (2, .ref (ra)), (3, .ref (h 8))] dX5_raise_1 (by decide) rfl rfl ?_
  have L3_1 : ∀ (fu : Nat) (i : Nat) (Zi : Nat → Nat → Int), (i ≤ 3 ∧ (∀ a j : Nat, a ≠ 1 → Zi a j = Z a j) ∧ ∀ j, j < i → Zi 1 j = rzF b m f j) → 3 - i < fu → V XX (cw k h S Zi) 0 0 3 [(4, VI ((i : Nat) : Int)), (0, VI ((m : Nat) : Int)), (1, VI (mskI b)), (2, .ref (ra)), (3, .ref (h 8))] [] := by
    intro fu_3
    induction fu_3 with
    | zero => intros; omega
    | succ fu_3 ih_3 =>
      intro i Zi hv hm_3
      obtain ⟨hv1, hv2, hv3⟩ := hv
      refine v_iload F 0 (q := 5) dX5_raise_3 rfl rfl ?_
      refine v_const F (q := 6) dX5_raise_5 rfl ?_
      refine v_icmp_ge F (tgt := 67) (q := 9) (by omega) (by omega) dX5_raise_6 rfl rfl (fun h_2 => ?_) (fun h_2 => ?_)
      · exact ret _ _ _ _ _ (Nat.zero_le _) (Nat.zero_le _) dX5_raise_67 (⟨Zi, rfl, hv2, fun j hj => hv3 j (by omega)⟩)
      · refine v_aload_n F 4 (q := 10) dX5_raise_9 rfl rfl rfl ?_
        refine v_iload F 0 (q := 12) dX5_raise_10 rfl rfl ?_
        refine v_aload_n F 3 (q := 13) dX5_raise_12 rfl rfl rfl ?_
        refine v_iload F 0 (q := 15) dX5_raise_13 rfl rfl ?_
        refine v_iald F (j := i) rq (hrow Zi (fun j => hv2 0 j (by decide))) rfl (by omega) (by decide) (q := 16) dX5_raise_15 rfl ?_
        have b_3 := hf i (by omega)
        refine v_iast F (j := i) 8 (cw k h S (u2 Zi 1 i (f i))) cw_at8 rfl (by omega) (by decide) (cw_after i _) (q := 17) dX5_raise_16 rfl ?_
        refine v_iload F 0 (q := 19) dX5_raise_17 rfl rfl ?_
        refine v_iload_n F 1 (q := 20) dX5_raise_19 rfl rfl rfl ?_
        refine v_icmp_ne F (tgt := 34) (q := 23) (by omega) (by omega) dX5_raise_20 rfl rfl (fun h_4 => ?_) (fun h_4 => ?_)
        · refine v_iload_n F 2 (q := 35) dX5_raise_34 rfl rfl rfl ?_
          refine v_iload F 0 (q := 37) dX5_raise_35 rfl rfl ?_
          refine v_ishr F (q := 38) (z := mskI b / ((2 ^ i : Nat) : Int)) dX5_raise_37 (msk_shr b i (by omega)) rfl ?_
          refine v_const F (q := 39) dX5_raise_38 rfl ?_
          have b_b := btI_bd (b i)
          refine v_iand F (q := 40) (z := btI (b i)) dX5_raise_39 (msk_bit b i (by omega)) rfl ?_
          refine v_const F (q := 41) dX5_raise_40 rfl ?_
          refine v_icmp_ne F (tgt := 61) (q := 44) (by omega) (by omega) dX5_raise_41 rfl rfl (fun h_5 => ?_) (fun h_5 => ?_)
          · refine v_iinc F (q := 64) (z := ((i + 1 : Nat) : Int)) 0 [(4, VI ((i + 1 : Nat) : Int)), (0, VI ((m : Nat) : Int)), (1, VI (mskI b)), (2, .ref (ra)), (3, .ref (h 8))] dX5_raise_61 rfl (by decide) (by omega) rfl rfl ?_
            refine v_goto F (tgt := 3) dX5_raise_64 rfl ?_
            exact ih_3 (i + 1) (u2 Zi 1 i (f i)) (by exact ⟨by omega, fun a j ha => by simp only [u2, if_neg ha]; exact hv2 a j ha, fun j hj => (Nat.lt_or_ge j i).elim (fun q => by have e : ¬ j = i := (by omega); simp only [u2, if_neg e, if_pos]; exact hv3 j q) (fun q => by obtain rfl : j = i := (by omega); simp only [u2, if_pos, rzF]; grind [btI])⟩) (by omega)
          · refine v_aload_n F 3 (q := 45) dX5_raise_44 rfl rfl rfl ?_
            refine v_iload F 0 (q := 47) dX5_raise_45 rfl rfl ?_
            refine v_iald F (j := i) rq (hrow (u2 Zi 1 i (f i)) (fun j => hv2 0 j (by decide))) rfl (by omega) (by decide) (q := 48) dX5_raise_47 rfl ?_
            have b_6 := hf i (by omega)
            refine v_bipush F (q := 50) dX5_raise_48 rfl rfl ?_
            refine v_icmp_ge F (tgt := 61) (q := 53) (by omega) (by omega) dX5_raise_50 rfl rfl (fun h_7 => ?_) (fun h_7 => ?_)
            · refine v_iinc F (q := 64) (z := ((i + 1 : Nat) : Int)) 0 [(4, VI ((i + 1 : Nat) : Int)), (0, VI ((m : Nat) : Int)), (1, VI (mskI b)), (2, .ref (ra)), (3, .ref (h 8))] dX5_raise_61 rfl (by decide) (by omega) rfl rfl ?_
              refine v_goto F (tgt := 3) dX5_raise_64 rfl ?_
              exact ih_3 (i + 1) (u2 Zi 1 i (f i)) (by exact ⟨by omega, fun a j ha => by simp only [u2, if_neg ha]; exact hv2 a j ha, fun j hj => (Nat.lt_or_ge j i).elim (fun q => by have e : ¬ j = i := (by omega); simp only [u2, if_neg e, if_pos]; exact hv3 j q) (fun q => by obtain rfl : j = i := (by omega); simp only [u2, if_pos, rzF]; grind [btI])⟩) (by omega)
            · refine v_aload_n F 4 (q := 54) dX5_raise_53 rfl rfl rfl ?_
              refine v_iload F 0 (q := 56) dX5_raise_54 rfl rfl ?_
              refine v_dup2 F (q := 57) dX5_raise_56 rfl rfl rfl ?_
              refine v_iald F (j := i) 8 cw_at8 rfl (by omega) (by decide) (q := 58) dX5_raise_57 rfl ?_
              refine v_cast (b := f i) (by first | rfl | (simp [u2, ur]; done) | grind [u2, ur]) ?_
              refine v_const F (q := 59) dX5_raise_58 rfl ?_
              refine v_iadd F (q := 60) dX5_raise_59 rfl ?_
              refine v_iast F (j := i) 8 (cw k h S (u2 (u2 Zi 1 i (f i)) 1 i ((f i) + 1))) cw_at8 rfl (by omega) (by decide) (cw_after i _) (q := 61) dX5_raise_60 rfl ?_
              refine v_iinc F (q := 64) (z := ((i + 1 : Nat) : Int)) 0 [(4, VI ((i + 1 : Nat) : Int)), (0, VI ((m : Nat) : Int)), (1, VI (mskI b)), (2, .ref (ra)), (3, .ref (h 8))] dX5_raise_61 rfl (by decide) (by omega) rfl rfl ?_
              refine v_goto F (tgt := 3) dX5_raise_64 rfl ?_
              exact ih_3 (i + 1) (u2 (u2 Zi 1 i (f i)) 1 i ((f i) + 1)) (by exact ⟨by omega, fun a j ha => by simp only [u2, if_neg ha]; exact hv2 a j ha, fun j hj => (Nat.lt_or_ge j i).elim (fun q => by have e : ¬ j = i := (by omega); simp only [u2, if_neg e, if_pos]; exact hv3 j q) (fun q => by obtain rfl : j = i := (by omega); simp only [u2, if_pos, rzF]; grind [btI])⟩) (by omega)
        · refine v_aload_n F 4 (q := 24) dX5_raise_23 rfl rfl rfl ?_
          refine v_iload F 0 (q := 26) dX5_raise_24 rfl rfl ?_
          refine v_dup2 F (q := 27) dX5_raise_26 rfl rfl rfl ?_
          refine v_iald F (j := i) 8 cw_at8 rfl (by omega) (by decide) (q := 28) dX5_raise_27 rfl ?_
          refine v_cast (b := f i) (by first | rfl | (simp [u2, ur]; done) | grind [u2, ur]) ?_
          refine v_const F (q := 29) dX5_raise_28 rfl ?_
          refine v_isub F (q := 30) dX5_raise_29 rfl ?_
          refine v_iast F (j := i) 8 (cw k h S (u2 (u2 Zi 1 i (f i)) 1 i ((f i) - 1))) cw_at8 rfl (by omega) (by decide) (cw_after i _) (q := 31) dX5_raise_30 rfl ?_
          refine v_goto F (tgt := 61) dX5_raise_31 rfl ?_
          refine v_iinc F (q := 64) (z := ((i + 1 : Nat) : Int)) 0 [(4, VI ((i + 1 : Nat) : Int)), (0, VI ((m : Nat) : Int)), (1, VI (mskI b)), (2, .ref (ra)), (3, .ref (h 8))] dX5_raise_61 rfl (by decide) (by omega) rfl rfl ?_
          refine v_goto F (tgt := 3) dX5_raise_64 rfl ?_
          exact ih_3 (i + 1) (u2 (u2 Zi 1 i (f i)) 1 i ((f i) - 1)) (by exact ⟨by omega, fun a j ha => by simp only [u2, if_neg ha]; exact hv2 a j ha, fun j hj => (Nat.lt_or_ge j i).elim (fun q => by have e : ¬ j = i := (by omega); simp only [u2, if_neg e, if_pos]; exact hv3 j q) (fun q => by obtain rfl : j = i := (by omega); simp only [u2, if_pos, rzF]; grind [btI])⟩) (by omega)
  exact L3_1 _ 0 Z (by exact ⟨by omega, fun _ _ _ => rfl, fun j hj => absurd hj (Nat.not_lt_zero j)⟩) (Nat.lt_succ_self _)
theorem hdX5_hindranceOf : yX5_hindranceOf.cls = RX5 ∧ yX5_hindranceOf.cls ≠ "java/lang/invoke/MethodHandle" ∧ yX5_hindranceOf.cls ≠ "java/lang/invoke/VarHandle" ∧ (parseMethodDescriptor yX5_hindranceOf.desc).map (fun d => d.parameters.length) = some 1 := by decide +kernel
set_option maxRecDepth 100000 in
set_option maxHeartbeats 4000000 in
theorem kX5_hindranceOf {l : Launch} (hst : l.stackTraces = false) {k : Nat → ClassId} {h : Nat → Nat} {S Z : Nat → Nat → Int} (hI : Inv S) {t : Nat} (ht : t < 8) : v_Ci l k yX5_hindranceOf wsX5_hindranceOf ({ frames := 3, cells := 0, slots := 0, locals := 69 } : Room) [.ref (h 0), .ref (h (15 + t))] (cw k h S Z) (fun a u => ∃ Z9, u = cw k h S Z9 ∧ (∀ a j : Nat, a ≠ 1 → Z9 a j = Z a j) ∧ a = hinF S t) := by
  refine v_ofI (cc := cX5_hindranceOf) (nL := 2) (by decide +kernel) rfl hst (Nat.le_of_ble_eq_true rfl) (fun _ _ _ => rfl) (fun XX F ret => ?_)
  have hin1 : ∀ w ∈ wsX10, w ∈ wsX5_hindranceOf := by decide +kernel
  have hin5 : ∀ w ∈ wsX50, w ∈ wsX5_hindranceOf := by decide +kernel
  have b7 := hI.mc
  have b8 := hI.cc
  show V XX (cw k h S Z) 0 0 0 [(0, .ref (h 0)), (1, .ref (h (15 + t)))] []
  refine v_aload_n F 0 (q := 1) dX5_hindranceOf_0 rfl rfl rfl ?_
  refine v_aload_n F 1 (q := 2) dX5_hindranceOf_1 rfl rfl rfl ?_
  refine v_get F (C := RX1) (T := TX1) (N := 6) (ci := 1) (v := VI (S 5 t)) (15 + t) 0 hin1 rfl (cw_cord t (by omega)) (by decide) (by decide +kernel) rfl (q := 5) dX5_hindranceOf_2 rfl ?_
  have b_1 := hI.th t
  refine v_callVi0 F (kX5_isHeld hst (k := k) (h := h) (S := S) (Z := Z) hI (a0 := S 5 t) (by omega)) gX5_hindranceOf_X5_isHeld rfl hdX5_isHeld ⟨by decide, by decide⟩ 0 cw_at0 rfl rfl rfl (Nat.le_of_ble_eq_true rfl) ⟨(Nat.zero_le _), (Nat.zero_le _)⟩ (q := 8) dX5_hindranceOf_5 rfl ?_
  rintro _ _ ⟨rfl, ⟨rfl, h_2⟩ | ⟨rfl, h_2⟩⟩
  · refine v_if_ne F (tgt := 23) (q := 11) (by omega) dX5_hindranceOf_8 rfl rfl (fun h_3 => ?_) (fun h_3 => absurd h_3 (by omega))
    refine v_const F (q := 24) dX5_hindranceOf_23 rfl ?_
    exact ret _ _ _ _ _ _ (Nat.zero_le _) (Nat.zero_le _) dX5_hindranceOf_24 (⟨Z, rfl, by first | exact (fun _ _ _ => rfl) | assumption, by unfold hinF; grind⟩)
  · refine v_if_ne F (tgt := 23) (q := 11) R32_0 dX5_hindranceOf_8 rfl rfl (fun h_4 => absurd h_4 (by omega)) (fun h_4 => ?_)
    refine v_aload_n F 0 (q := 12) dX5_hindranceOf_11 rfl rfl rfl ?_
    refine v_get F (C := RX5) (T := TX5) (N := 14) (ci := 5) (v := .ref (h 6)) 0 5 hin5 rfl cw_at0 (by decide) (by decide +kernel) rfl (q := 15) dX5_hindranceOf_12 rfl ?_
    refine v_aload_n F 1 (q := 16) dX5_hindranceOf_15 rfl rfl rfl ?_
    refine v_get F (C := RX1) (T := TX1) (N := 6) (ci := 1) (v := VI (S 5 t)) (15 + t) 0 hin1 rfl (cw_cord t (by omega)) (by decide) (by decide +kernel) rfl (q := 19) dX5_hindranceOf_16 rfl ?_
    have b_5 := hI.th t
    refine v_iald F (j := (S 5 t).toNat) 6 cw_at6 (by omega) (by omega) (by decide) (q := 20) dX5_hindranceOf_19 rfl ?_
    have b_6 := hI.lean ((S 5 t).toNat)
    refine v_if_ne F (tgt := 25) (q := 23) (by omega) dX5_hindranceOf_20 rfl rfl (fun h_7 => ?_) (fun h_7 => ?_)
    · refine v_aload_n F 0 (q := 26) dX5_hindranceOf_25 rfl rfl rfl ?_
      refine v_aload_n F 1 (q := 27) dX5_hindranceOf_26 rfl rfl rfl ?_
      refine v_callVi0 F (kX5_isCrossedByStronger hst (k := k) (h := h) (S := S) (Z := Z) hI (t := t) (by omega)) gX5_hindranceOf_X5_isCrossedByStronger rfl hdX5_isCrossedByStronger ⟨by decide, by decide⟩ 0 cw_at0 rfl rfl rfl (Nat.le_of_ble_eq_true rfl) ⟨(Nat.zero_le _), (Nat.zero_le _)⟩ (q := 30) dX5_hindranceOf_27 rfl ?_
      rintro _ _ ⟨rfl, ⟨rfl, h_8⟩ | ⟨rfl, h_8⟩⟩
      · refine v_if_eq F (tgt := 36) (q := 33) (by omega) dX5_hindranceOf_30 rfl rfl (fun h_9 => absurd h_9 (by omega)) (fun h_9 => ?_)
        refine v_bipush F (q := 35) dX5_hindranceOf_33 rfl rfl ?_
        exact ret _ _ _ _ _ _ (Nat.zero_le _) (Nat.zero_le _) dX5_hindranceOf_35 (⟨Z, rfl, by first | exact (fun _ _ _ => rfl) | assumption, by unfold hinF; grind⟩)
      · refine v_if_eq F (tgt := 36) (q := 33) R32_0 dX5_hindranceOf_30 rfl rfl (fun h_10 => ?_) (fun h_10 => absurd h_10 (by omega))
        refine v_aload_n F 1 (q := 37) dX5_hindranceOf_36 rfl rfl rfl ?_
        refine v_get F (C := RX1) (T := TX1) (N := 6) (ci := 1) (v := VI (S 5 t)) (15 + t) 0 hin1 rfl (cw_cord t (by omega)) (by decide) (by decide +kernel) rfl (q := 40) dX5_hindranceOf_37 rfl ?_
        have b_11 := hI.th t
        refine v_cast (b := (((S 5 t).toNat : Nat) : Int)) (by omega) ?_
        refine v_aload_n F 0 (q := 41) dX5_hindranceOf_40 rfl rfl rfl ?_
        refine v_aload_n F 1 (q := 42) dX5_hindranceOf_41 rfl rfl rfl ?_
        refine v_get F (C := RX1) (T := TX1) (N := 6) (ci := 1) (v := VI (S 5 t)) (15 + t) 0 hin1 rfl (cw_cord t (by omega)) (by decide) (by decide +kernel) rfl (q := 45) dX5_hindranceOf_42 rfl ?_
        have b_12 := hI.th t
        refine v_cast (b := (((S 5 t).toNat : Nat) : Int)) (by omega) ?_
        refine v_callVi0 F (kX5_loweredBy hst (k := k) (h := h) (S := S) (Z := Z) hI (a0 := (((S 5 t).toNat : Nat) : Int)) (by omega)) gX5_hindranceOf_X5_loweredBy rfl hdX5_loweredBy ⟨by decide, by decide⟩ 0 cw_at0 rfl rfl rfl (Nat.le_of_ble_eq_true rfl) ⟨(Nat.zero_le _), (Nat.zero_le _)⟩ (q := 48) dX5_hindranceOf_45 rfl ?_
        rintro a_13 _ ⟨rfl, h_13⟩
        refine v_cast (b := mskI (fun o => lowB S (((S 5 t).toNat : Nat) : Int) (o : Int))) (by assumption) ?_
        refine v_aload_n F 0 (q := 49) dX5_hindranceOf_48 rfl rfl rfl ?_
        refine v_get F (C := RX5) (T := TX5) (N := 14) (ci := 5) (v := .ref (h 6)) 0 5 hin5 rfl cw_at0 (by decide) (by decide +kernel) rfl (q := 52) dX5_hindranceOf_49 rfl ?_
        refine v_aload_n F 0 (q := 53) dX5_hindranceOf_52 rfl rfl rfl ?_
        refine v_get F (C := RX5) (T := TX5) (N := 14) (ci := 5) (v := .ref (h 8)) 0 7 hin5 rfl cw_at0 (by decide) (by decide +kernel) rfl (q := 56) dX5_hindranceOf_53 rfl ?_
        refine v_callSv0 F (kX5_raise hst (k := k) (h := h) (S := S) (Z := Z) hI (m := (S 5 t).toNat) (by omega) (b := (fun o => lowB S (((S 5 t).toNat : Nat) : Int) (o : Int))) (rq := 6) (ra := h 6) (f := S 4) (fun _ _ => cw_at6) hI.lean3) gX5_hindranceOf_X5_raise rfl hdX5_raise ⟨by decide, by decide⟩ rfl rfl (Nat.le_of_ble_eq_true rfl) ⟨(Nat.zero_le _), (Nat.zero_le _)⟩ (q := 59) dX5_hindranceOf_56 rfl ?_
        rintro _ ⟨Z_14, rfl, hA_14, hR_14⟩
        refine v_aload_n F 0 (q := 60) dX5_hindranceOf_59 rfl rfl rfl ?_
        refine v_get F (C := RX5) (T := TX5) (N := 14) (ci := 5) (v := VI (S 0 9)) 0 10 hin5 rfl cw_at0 (by decide) (by decide +kernel) rfl (q := 63) dX5_hindranceOf_60 rfl ?_
        have b_15 := hI.isin
        refine v_if_eq F (tgt := 82) (q := 66) (by omega) dX5_hindranceOf_63 rfl rfl (fun h_16 => ?_) (fun h_16 => ?_)
        · refine v_const F (q := 83) dX5_hindranceOf_82 rfl ?_
          exact ret _ _ _ _ _ _ (Nat.zero_le _) (Nat.zero_le _) dX5_hindranceOf_83 (⟨Z_14, rfl, by first | exact (fun _ _ _ => rfl) | assumption, by unfold hinF; grind⟩)
        · have e_f : fitsB S (Z_14 1) = fitsB S (raiseF S (S 5 t).toNat (S 4)) := fits_cg hI (fun o ho => hR_14 o ho)
          refine v_aload_n F 0 (q := 67) dX5_hindranceOf_66 rfl rfl rfl ?_
          refine v_aload_n F 0 (q := 68) dX5_hindranceOf_67 rfl rfl rfl ?_
          refine v_get F (C := RX5) (T := TX5) (N := 14) (ci := 5) (v := .ref (h 8)) 0 7 hin5 rfl cw_at0 (by decide) (by decide +kernel) rfl (q := 71) dX5_hindranceOf_68 rfl ?_
          refine v_callVi0 F (kX5_fitsWith hst (k := k) (h := h) (S := S) (Z := Z_14) hI (rq := 8) (ra := h 8) (f := Z_14 1) cw_at8 (fun o ho => by rw [hR_14 o ho]; exact rz_bd hI.lean3 (by assumption) o ho)) gX5_hindranceOf_X5_fitsWith rfl hdX5_fitsWith ⟨by decide, by decide⟩ 0 cw_at0 rfl rfl rfl (Nat.le_of_ble_eq_true rfl) ⟨(Nat.zero_le _), (Nat.zero_le _)⟩ (q := 74) dX5_hindranceOf_71 rfl ?_
          rintro _ _ ⟨rfl, ⟨rfl, h_17⟩ | ⟨rfl, h_17⟩⟩
          · refine v_if_ne F (tgt := 82) (q := 77) (by omega) dX5_hindranceOf_74 rfl rfl (fun h_18 => ?_) (fun h_18 => absurd h_18 (by omega))
            refine v_const F (q := 83) dX5_hindranceOf_82 rfl ?_
            exact ret _ _ _ _ _ _ (Nat.zero_le _) (Nat.zero_le _) dX5_hindranceOf_83 (⟨Z_14, rfl, by first | exact (fun _ _ _ => rfl) | assumption, by unfold hinF; grind⟩)
          · refine v_if_ne F (tgt := 82) (q := 77) R32_0 dX5_hindranceOf_74 rfl rfl (fun h_19 => absurd h_19 (by omega)) (fun h_19 => ?_)
            refine v_bipush F (q := 79) dX5_hindranceOf_77 rfl rfl ?_
            refine v_goto F (tgt := 83) dX5_hindranceOf_79 rfl ?_
            exact ret _ _ _ _ _ _ (Nat.zero_le _) (Nat.zero_le _) dX5_hindranceOf_83 (⟨Z_14, rfl, by first | exact (fun _ _ _ => rfl) | assumption, by unfold hinF; grind⟩)
    · refine v_const F (q := 24) dX5_hindranceOf_23 rfl ?_
      exact ret _ _ _ _ _ _ (Nat.zero_le _) (Nat.zero_le _) dX5_hindranceOf_24 (⟨Z, rfl, by first | exact (fun _ _ _ => rfl) | assumption, by unfold hinF; grind⟩)
