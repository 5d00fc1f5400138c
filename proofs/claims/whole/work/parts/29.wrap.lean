theorem hdL_setBottle : yL_setBottle.cls ≠ "java/lang/invoke/MethodHandle" ∧ yL_setBottle.cls ≠ "java/lang/invoke/VarHandle" ∧ (parseMethodDescriptor yL_setBottle.desc).map (fun d => d.parameters.length) = some 6 := by decide +kernel
set_option maxRecDepth 100000 in
set_option maxHeartbeats 4000000 in
theorem kL_setBottle {l : Launch} (hst : l.stackTraces = false) {k : Nat → ClassId} {h : Nat → Nat} {S Z : Nat → Nat → Int} (hI : Inv S) {a0 a1 a2 a3 : Int} (g0 : R32 a0) (g1 : R32 a1) (g2 : R32 a2) (g3 : R32 a3) {ho : Nat} {f : Nat → Int64} : v_Ci l k yL_setBottle wsL_setBottle ({ frames := 7, cells := 1, slots := 6, locals := 115 } : Room) [.ref (h 0), VI a0, VI a1, VI a2, VI a3, .ref (ho)] (cw k h S Z ++ [(ho, oE k (f))]) (fun a u => LQ k h S (sBottle S a0 a1 a2 a3) ho f (eBottle S a0 a1 a2 a3) (fun r => r = S 0 0) a u) := by
  refine v_ofW (cc := cL_setBottle) (nL := 7) (by decide +kernel) rfl hst (Nat.le_of_ble_eq_true rfl) (fun _ _ _ => rfl) (fun XX F hTab ret => ?_)
  show V XX (cw k h S Z ++ [(ho, oE k (f))]) 0 0 0 [(0, .ref (h 0)), (1, VI a0), (2, VI a1), (3, VI a2), (4, VI a3), (5, .ref (ho))] []
  refine v_aload F 5 (q := 2) dL_setBottle_0 rfl rfl ?_
  refine v_const F (q := 3) dL_setBottle_2 rfl ?_
  refine v_aload_n F 0 (q := 4) dL_setBottle_3 rfl rfl rfl ?_
  refine v_iload_n F 1 (q := 5) dL_setBottle_4 rfl rfl rfl ?_
  refine v_iload_n F 2 (q := 6) dL_setBottle_5 rfl rfl rfl ?_
  refine v_iload_n F 3 (q := 7) dL_setBottle_6 rfl rfl rfl ?_
  refine v_iload F 4 (q := 9) dL_setBottle_7 rfl rfl ?_
  refine v_callVt F (kX5_setBottle hst (k := k) (h := h) (S := S) (Z := Z) hI (a0 := a0) (a1 := a1) (a2 := a2) (a3 := a3) (by omega) (by omega) (by omega) (by omega)) rfl gL_setBottle_X5_setBottle rfl hdX5_setBottle ⟨by decide, by decide⟩ 0 cw_at0 rfl rfl rfl (Nat.le_of_ble_eq_true rfl) ⟨Nat.le_of_ble_eq_true rfl, Nat.le_of_ble_eq_true rfl⟩ (q := 12) dL_setBottle_9 rfl (fun E9 u9 hp9 => ?_) (fun a9 u9 hp9 => ?_)
  · obtain ⟨rfl, hE9⟩ := hp9
    rcases hE9 with ⟨hE9, rfl⟩ | ⟨hE9, rfl⟩
    · refine v_catch F hTab (tableOf []) ⟨0, 14, 17, 13⟩ (tableOf [(0, 14, 21, 15)]) rfl (fun z hz => absurd hz List.not_mem_nil) (by decide) (by decide) (by decide +kernel) (by decide +kernel) (fun q9 => ?_)
      refine v_astore F (q := 19) [(6, .ref (q9)), (0, .ref (h 0)), (1, VI a0), (2, VI a1), (3, VI a2), (4, VI a3), (5, .ref (ho))] dL_setBottle_17 (by decide) rfl rfl ?_
      refine v_const F (q := 20) dL_setBottle_19 rfl ?_
      exact ret _ _ _ _ _ _ (Nat.le_of_ble_eq_true rfl) (Nat.le_of_ble_eq_true rfl) dL_setBottle_20 (⟨hE9.symm, Or.inr ⟨by omega, _, rfl⟩⟩)
    · refine v_catch F hTab (tableOf [(0, 14, 17, 13)]) ⟨0, 14, 21, 15⟩ (tableOf []) rfl (List.forall_mem_cons.mpr ⟨Or.inr ⟨by decide, _, (by decide +kernel : Cond.classLink yL_setBottle.cls 13 "java/lang/IllegalArgumentException" ∈ wsL_setBottle), by decide +kernel⟩, (fun z hz => absurd hz List.not_mem_nil)⟩) (by decide) (by decide) (by decide +kernel) (by decide +kernel) (fun q9 => ?_)
      refine v_astore F (q := 23) [(6, .ref (q9)), (0, .ref (h 0)), (1, VI a0), (2, VI a1), (3, VI a2), (4, VI a3), (5, .ref (ho))] dL_setBottle_21 (by decide) rfl rfl ?_
      refine v_const F (q := 24) dL_setBottle_23 rfl ?_
      exact ret _ _ _ _ _ _ (Nat.le_of_ble_eq_true rfl) (Nat.le_of_ble_eq_true rfl) dL_setBottle_24 (⟨hE9.symm, Or.inr ⟨by omega, _, rfl⟩⟩)
  · obtain ⟨rfl, hE9, hR9⟩ := hp9
    refine v_i2l F (q := 13) dL_setBottle_12 rfl ?_
    refine v_last F 28 (cw k h (sBottle S a0 a1 a2 a3) Z ++ [(ho, oE k (vp_updL f 0 ((iI a9).toInt64)))]) rfl rfl (q := 14) dL_setBottle_13 rfl ?_
    refine v_goto F (tgt := 25) dL_setBottle_14 rfl ?_
    refine v_const F (q := 26) dL_setBottle_25 rfl ?_
    exact ret _ _ _ _ _ _ (Nat.le_of_ble_eq_true rfl) (Nat.le_of_ble_eq_true rfl) dL_setBottle_26 (⟨hE9.symm, Or.inl ⟨hE9, _, _, a9, rfl, rfl, hR9⟩⟩)
theorem hdL_setHull : yL_setHull.cls ≠ "java/lang/invoke/MethodHandle" ∧ yL_setHull.cls ≠ "java/lang/invoke/VarHandle" ∧ (parseMethodDescriptor yL_setHull.desc).map (fun d => d.parameters.length) = some 5 := by decide +kernel
set_option maxRecDepth 100000 in
set_option maxHeartbeats 4000000 in
theorem kL_setHull {l : Launch} (hst : l.stackTraces = false) {k : Nat → ClassId} {h : Nat → Nat} {S Z : Nat → Nat → Int} (hI : Inv S) {a0 a1 a2 : Int} (g0 : R32 a0) (g1 : R32 a1) (g2 : R32 a2) {ho : Nat} {f : Nat → Int64} : v_Ci l k yL_setHull wsL_setHull ({ frames := 7, cells := 1, slots := 6, locals := 114 } : Room) [.ref (h 0), VI a0, VI a1, VI a2, .ref (ho)] (cw k h S Z ++ [(ho, oE k (f))]) (fun a u => LQ k h S (sHull S a0 a1 a2) ho f (eHull S a0 a1 a2) (fun r => r = S 0 4) a u) := by
  refine v_ofW (cc := cL_setHull) (nL := 6) (by decide +kernel) rfl hst (Nat.le_of_ble_eq_true rfl) (fun _ _ _ => rfl) (fun XX F hTab ret => ?_)
  show V XX (cw k h S Z ++ [(ho, oE k (f))]) 0 0 0 [(0, .ref (h 0)), (1, VI a0), (2, VI a1), (3, VI a2), (4, .ref (ho))] []
  refine v_aload F 4 (q := 2) dL_setHull_0 rfl rfl ?_
  refine v_const F (q := 3) dL_setHull_2 rfl ?_
  refine v_aload_n F 0 (q := 4) dL_setHull_3 rfl rfl rfl ?_
  refine v_iload_n F 1 (q := 5) dL_setHull_4 rfl rfl rfl ?_
  refine v_iload_n F 2 (q := 6) dL_setHull_5 rfl rfl rfl ?_
  refine v_iload_n F 3 (q := 7) dL_setHull_6 rfl rfl rfl ?_
  refine v_callVt F (kX5_setHull hst (k := k) (h := h) (S := S) (Z := Z) hI (a0 := a0) (a1 := a1) (a2 := a2) (by omega) (by omega) (by omega)) rfl gL_setHull_X5_setHull rfl hdX5_setHull ⟨by decide, by decide⟩ 0 cw_at0 rfl rfl rfl (Nat.le_of_ble_eq_true rfl) ⟨Nat.le_of_ble_eq_true rfl, Nat.le_of_ble_eq_true rfl⟩ (q := 10) dL_setHull_7 rfl (fun E9 u9 hp9 => ?_) (fun a9 u9 hp9 => ?_)
  · obtain ⟨rfl, hE9⟩ := hp9
    rcases hE9 with ⟨hE9, rfl⟩ | ⟨hE9, rfl⟩
    · refine v_catch F hTab (tableOf []) ⟨0, 12, 15, 13⟩ (tableOf [(0, 12, 19, 15)]) rfl (fun z hz => absurd hz List.not_mem_nil) (by decide) (by decide) (by decide +kernel) (by decide +kernel) (fun q9 => ?_)
      refine v_astore F (q := 17) [(5, .ref (q9)), (0, .ref (h 0)), (1, VI a0), (2, VI a1), (3, VI a2), (4, .ref (ho))] dL_setHull_15 (by decide) rfl rfl ?_
      refine v_const F (q := 18) dL_setHull_17 rfl ?_
      exact ret _ _ _ _ _ _ (Nat.le_of_ble_eq_true rfl) (Nat.le_of_ble_eq_true rfl) dL_setHull_18 (⟨hE9.symm, Or.inr ⟨by omega, _, rfl⟩⟩)
    · refine v_catch F hTab (tableOf [(0, 12, 15, 13)]) ⟨0, 12, 19, 15⟩ (tableOf []) rfl (List.forall_mem_cons.mpr ⟨Or.inr ⟨by decide, _, (by decide +kernel : Cond.classLink yL_setHull.cls 13 "java/lang/IllegalArgumentException" ∈ wsL_setHull), by decide +kernel⟩, (fun z hz => absurd hz List.not_mem_nil)⟩) (by decide) (by decide) (by decide +kernel) (by decide +kernel) (fun q9 => ?_)
      refine v_astore F (q := 21) [(5, .ref (q9)), (0, .ref (h 0)), (1, VI a0), (2, VI a1), (3, VI a2), (4, .ref (ho))] dL_setHull_19 (by decide) rfl rfl ?_
      refine v_const F (q := 22) dL_setHull_21 rfl ?_
      exact ret _ _ _ _ _ _ (Nat.le_of_ble_eq_true rfl) (Nat.le_of_ble_eq_true rfl) dL_setHull_22 (⟨hE9.symm, Or.inr ⟨by omega, _, rfl⟩⟩)
  · obtain ⟨rfl, hE9, hR9⟩ := hp9
    refine v_i2l F (q := 11) dL_setHull_10 rfl ?_
    refine v_last F 28 (cw k h (sHull S a0 a1 a2) Z ++ [(ho, oE k (vp_updL f 0 ((iI a9).toInt64)))]) rfl rfl (q := 12) dL_setHull_11 rfl ?_
    refine v_goto F (tgt := 23) dL_setHull_12 rfl ?_
    refine v_const F (q := 24) dL_setHull_23 rfl ?_
    exact ret _ _ _ _ _ _ (Nat.le_of_ble_eq_true rfl) (Nat.le_of_ble_eq_true rfl) dL_setHull_24 (⟨hE9.symm, Or.inl ⟨hE9, _, _, a9, rfl, rfl, hR9⟩⟩)
theorem hdL_step : yL_step.cls ≠ "java/lang/invoke/MethodHandle" ∧ yL_step.cls ≠ "java/lang/invoke/VarHandle" ∧ (parseMethodDescriptor yL_step.desc).map (fun d => d.parameters.length) = some 4 := by decide +kernel
set_option maxRecDepth 100000 in
set_option maxHeartbeats 4000000 in
theorem kL_step {l : Launch} (hst : l.stackTraces = false) {k : Nat → ClassId} {h : Nat → Nat} {S Z : Nat → Nat → Int} (hI : Inv S) {a0 a1 : Int} (g0 : R32 a0) (g1 : R32 a1) {ho : Nat} {f : Nat → Int64} : v_Ci l k yL_step wsL_step ({ frames := 7, cells := 1, slots := 6, locals := 113 } : Room) [.ref (h 0), VI a0, VI a1, .ref (ho)] (cw k h S Z ++ [(ho, oE k (f))]) (fun a u => LQ k h S (sStep S a0 a1) ho f (eStep S a0 a1) (fun r => r = S 0 7) a u) := by
  refine v_ofW (cc := cL_step) (nL := 5) (by decide +kernel) rfl hst (Nat.le_of_ble_eq_true rfl) (fun _ _ _ => rfl) (fun XX F hTab ret => ?_)
  show V XX (cw k h S Z ++ [(ho, oE k (f))]) 0 0 0 [(0, .ref (h 0)), (1, VI a0), (2, VI a1), (3, .ref (ho))] []
  refine v_aload_n F 3 (q := 1) dL_step_0 rfl rfl rfl ?_
  refine v_const F (q := 2) dL_step_1 rfl ?_
  refine v_aload_n F 0 (q := 3) dL_step_2 rfl rfl rfl ?_
  refine v_iload_n F 1 (q := 4) dL_step_3 rfl rfl rfl ?_
  refine v_iload_n F 2 (q := 5) dL_step_4 rfl rfl rfl ?_
  refine v_callVt F (kX5_step hst (k := k) (h := h) (S := S) (Z := Z) hI (a0 := a0) (a1 := a1) (by omega) (by omega)) rfl gL_step_X5_step rfl hdX5_step ⟨by decide, by decide⟩ 0 cw_at0 rfl rfl rfl (Nat.le_of_ble_eq_true rfl) ⟨Nat.le_of_ble_eq_true rfl, Nat.le_of_ble_eq_true rfl⟩ (q := 8) dL_step_5 rfl (fun E9 u9 hp9 => ?_) (fun a9 u9 hp9 => ?_)
  · obtain ⟨rfl, hE9⟩ := hp9
    rcases hE9 with ⟨hE9, rfl⟩ | ⟨hE9, rfl⟩
    · refine v_catch F hTab (tableOf []) ⟨0, 10, 13, 13⟩ (tableOf [(0, 10, 17, 15)]) rfl (fun z hz => absurd hz List.not_mem_nil) (by decide) (by decide) (by decide +kernel) (by decide +kernel) (fun q9 => ?_)
      refine v_astore F (q := 15) [(4, .ref (q9)), (0, .ref (h 0)), (1, VI a0), (2, VI a1), (3, .ref (ho))] dL_step_13 (by decide) rfl rfl ?_
      refine v_const F (q := 16) dL_step_15 rfl ?_
      exact ret _ _ _ _ _ _ (Nat.le_of_ble_eq_true rfl) (Nat.le_of_ble_eq_true rfl) dL_step_16 (⟨hE9.symm, Or.inr ⟨by omega, _, rfl⟩⟩)
    · refine v_catch F hTab (tableOf [(0, 10, 13, 13)]) ⟨0, 10, 17, 15⟩ (tableOf []) rfl (List.forall_mem_cons.mpr ⟨Or.inr ⟨by decide, _, (by decide +kernel : Cond.classLink yL_step.cls 13 "java/lang/IllegalArgumentException" ∈ wsL_step), by decide +kernel⟩, (fun z hz => absurd hz List.not_mem_nil)⟩) (by decide) (by decide) (by decide +kernel) (by decide +kernel) (fun q9 => ?_)
      refine v_astore F (q := 19) [(4, .ref (q9)), (0, .ref (h 0)), (1, VI a0), (2, VI a1), (3, .ref (ho))] dL_step_17 (by decide) rfl rfl ?_
      refine v_const F (q := 20) dL_step_19 rfl ?_
      exact ret _ _ _ _ _ _ (Nat.le_of_ble_eq_true rfl) (Nat.le_of_ble_eq_true rfl) dL_step_20 (⟨hE9.symm, Or.inr ⟨by omega, _, rfl⟩⟩)
  · obtain ⟨rfl, hE9, hR9⟩ := hp9
    refine v_i2l F (q := 9) dL_step_8 rfl ?_
    refine v_last F 28 (cw k h (sStep S a0 a1) Z ++ [(ho, oE k (vp_updL f 0 ((iI a9).toInt64)))]) rfl rfl (q := 10) dL_step_9 rfl ?_
    refine v_goto F (tgt := 21) dL_step_10 rfl ?_
    refine v_const F (q := 22) dL_step_21 rfl ?_
    exact ret _ _ _ _ _ _ (Nat.le_of_ble_eq_true rfl) (Nat.le_of_ble_eq_true rfl) dL_step_22 (⟨hE9.symm, Or.inl ⟨hE9, _, _, a9, rfl, rfl, hR9⟩⟩)
theorem hdL_yard : yL_yard.cls ≠ "java/lang/invoke/MethodHandle" ∧ yL_yard.cls ≠ "java/lang/invoke/VarHandle" ∧ (parseMethodDescriptor yL_yard.desc).map (fun d => d.parameters.length) = some 4 := by decide +kernel
set_option maxRecDepth 100000 in
set_option maxHeartbeats 4000000 in
theorem kL_yard {l : Launch} (hst : l.stackTraces = false) {k : Nat → ClassId} {h : Nat → Nat} {S Z : Nat → Nat → Int} (hI : Inv S) {a0 a1 : Int} (g0 : R32 a0) (g1 : R32 a1) {ho : Nat} {f : Nat → Int64} : v_Ci l k yL_yard wsL_yard ({ frames := 7, cells := 1, slots := 6, locals := 113 } : Room) [.ref (h 0), VI a0, VI a1, .ref (ho)] (cw k h S Z ++ [(ho, oE k (f))]) (fun a u => LQ k h S (sYard S a0 a1) ho f (eYard S a0 a1) (fun r => r = S 3 a0.toNat + 1) a u) := by
  refine v_ofW (cc := cL_yard) (nL := 5) (by decide +kernel) rfl hst (Nat.le_of_ble_eq_true rfl) (fun _ _ _ => rfl) (fun XX F hTab ret => ?_)
  show V XX (cw k h S Z ++ [(ho, oE k (f))]) 0 0 0 [(0, .ref (h 0)), (1, VI a0), (2, VI a1), (3, .ref (ho))] []
  refine v_aload_n F 3 (q := 1) dL_yard_0 rfl rfl rfl ?_
  refine v_const F (q := 2) dL_yard_1 rfl ?_
  refine v_aload_n F 0 (q := 3) dL_yard_2 rfl rfl rfl ?_
  refine v_iload_n F 1 (q := 4) dL_yard_3 rfl rfl rfl ?_
  refine v_iload_n F 2 (q := 5) dL_yard_4 rfl rfl rfl ?_
  refine v_callVt F (kX5_yard hst (k := k) (h := h) (S := S) (Z := Z) hI (a0 := a0) (a1 := a1) (by omega) (by omega)) rfl gL_yard_X5_yard rfl hdX5_yard ⟨by decide, by decide⟩ 0 cw_at0 rfl rfl rfl (Nat.le_of_ble_eq_true rfl) ⟨Nat.le_of_ble_eq_true rfl, Nat.le_of_ble_eq_true rfl⟩ (q := 8) dL_yard_5 rfl (fun E9 u9 hp9 => ?_) (fun a9 u9 hp9 => ?_)
  · obtain ⟨rfl, hE9⟩ := hp9
    rcases hE9 with ⟨hE9, rfl⟩ | ⟨hE9, rfl⟩ | ⟨hE9, rfl⟩
    · refine v_catch F hTab (tableOf []) ⟨0, 10, 13, 28⟩ (tableOf [(0, 10, 17, 13), (0, 10, 21, 15)]) rfl (fun z hz => absurd hz List.not_mem_nil) (by decide) (by decide) (by decide +kernel) (by decide +kernel) (fun q9 => ?_)
      refine v_astore F (q := 15) [(4, .ref (q9)), (0, .ref (h 0)), (1, VI a0), (2, VI a1), (3, .ref (ho))] dL_yard_13 (by decide) rfl rfl ?_
      refine v_const F (q := 16) dL_yard_15 rfl ?_
      exact ret _ _ _ _ _ _ (Nat.le_of_ble_eq_true rfl) (Nat.le_of_ble_eq_true rfl) dL_yard_16 (⟨hE9.symm, Or.inr ⟨by omega, _, rfl⟩⟩)
    · refine v_catch F hTab (tableOf [(0, 10, 13, 28)]) ⟨0, 10, 17, 13⟩ (tableOf [(0, 10, 21, 15)]) rfl (List.forall_mem_cons.mpr ⟨Or.inr ⟨by decide, _, (by decide +kernel : Cond.classLink yL_yard.cls 28 "java/lang/IndexOutOfBoundsException" ∈ wsL_yard), by decide +kernel⟩, (fun z hz => absurd hz List.not_mem_nil)⟩) (by decide) (by decide) (by decide +kernel) (by decide +kernel) (fun q9 => ?_)
      refine v_astore F (q := 19) [(4, .ref (q9)), (0, .ref (h 0)), (1, VI a0), (2, VI a1), (3, .ref (ho))] dL_yard_17 (by decide) rfl rfl ?_
      refine v_const F (q := 20) dL_yard_19 rfl ?_
      exact ret _ _ _ _ _ _ (Nat.le_of_ble_eq_true rfl) (Nat.le_of_ble_eq_true rfl) dL_yard_20 (⟨hE9.symm, Or.inr ⟨by omega, _, rfl⟩⟩)
    · refine v_catch F hTab (tableOf [(0, 10, 13, 28), (0, 10, 17, 13)]) ⟨0, 10, 21, 15⟩ (tableOf []) rfl (List.forall_mem_cons.mpr ⟨Or.inr ⟨by decide, _, (by decide +kernel : Cond.classLink yL_yard.cls 28 "java/lang/IndexOutOfBoundsException" ∈ wsL_yard), by decide +kernel⟩, (List.forall_mem_cons.mpr ⟨Or.inr ⟨by decide, _, (by decide +kernel : Cond.classLink yL_yard.cls 13 "java/lang/IllegalArgumentException" ∈ wsL_yard), by decide +kernel⟩, (fun z hz => absurd hz List.not_mem_nil)⟩)⟩) (by decide) (by decide) (by decide +kernel) (by decide +kernel) (fun q9 => ?_)
      refine v_astore F (q := 23) [(4, .ref (q9)), (0, .ref (h 0)), (1, VI a0), (2, VI a1), (3, .ref (ho))] dL_yard_21 (by decide) rfl rfl ?_
      refine v_const F (q := 24) dL_yard_23 rfl ?_
      exact ret _ _ _ _ _ _ (Nat.le_of_ble_eq_true rfl) (Nat.le_of_ble_eq_true rfl) dL_yard_24 (⟨hE9.symm, Or.inr ⟨by omega, _, rfl⟩⟩)
  · obtain ⟨rfl, hE9, hR9⟩ := hp9
    refine v_i2l F (q := 9) dL_yard_8 rfl ?_
    refine v_last F 28 (cw k h (sYard S a0 a1) Z ++ [(ho, oE k (vp_updL f 0 ((iI a9).toInt64)))]) rfl rfl (q := 10) dL_yard_9 rfl ?_
    refine v_goto F (tgt := 25) dL_yard_10 rfl ?_
    refine v_const F (q := 26) dL_yard_25 rfl ?_
    exact ret _ _ _ _ _ _ (Nat.le_of_ble_eq_true rfl) (Nat.le_of_ble_eq_true rfl) dL_yard_26 (⟨hE9.symm, Or.inl ⟨hE9, _, _, a9, rfl, rfl, hR9⟩⟩)
theorem hdL_lead : yL_lead.cls ≠ "java/lang/invoke/MethodHandle" ∧ yL_lead.cls ≠ "java/lang/invoke/VarHandle" ∧ (parseMethodDescriptor yL_lead.desc).map (fun d => d.parameters.length) = some 5 := by decide +kernel
set_option maxRecDepth 100000 in
set_option maxHeartbeats 4000000 in
theorem kL_lead {l : Launch} (hst : l.stackTraces = false) {k : Nat → ClassId} {h : Nat → Nat} {S Z : Nat → Nat → Int} (hI : Inv S) {a0 a1 a2 : Int} (g0 : R32 a0) (g1 : R32 a1) (g2 : R32 a2) {ho : Nat} {f : Nat → Int64} : v_Ci l k yL_lead wsL_lead ({ frames := 7, cells := 1, slots := 6, locals := 114 } : Room) [.ref (h 0), VI a0, VI a1, VI a2, .ref (ho)] (cw k h S Z ++ [(ho, oE k (f))]) (fun a u => LQ k h S (sLead S a0 a1 a2) ho f (eLead S a0 a1 a2) (fun r => r = S 0 8) a u) := by
  refine v_ofW (cc := cL_lead) (nL := 6) (by decide +kernel) rfl hst (Nat.le_of_ble_eq_true rfl) (fun _ _ _ => rfl) (fun XX F hTab ret => ?_)
  show V XX (cw k h S Z ++ [(ho, oE k (f))]) 0 0 0 [(0, .ref (h 0)), (1, VI a0), (2, VI a1), (3, VI a2), (4, .ref (ho))] []
  refine v_aload F 4 (q := 2) dL_lead_0 rfl rfl ?_
  refine v_const F (q := 3) dL_lead_2 rfl ?_
  refine v_aload_n F 0 (q := 4) dL_lead_3 rfl rfl rfl ?_
  refine v_iload_n F 1 (q := 5) dL_lead_4 rfl rfl rfl ?_
  refine v_iload_n F 2 (q := 6) dL_lead_5 rfl rfl rfl ?_
  refine v_iload_n F 3 (q := 7) dL_lead_6 rfl rfl rfl ?_
  refine v_callVt F (kX5_lead hst (k := k) (h := h) (S := S) (Z := Z) hI (a0 := a0) (a1 := a1) (a2 := a2) (by omega) (by omega) (by omega)) rfl gL_lead_X5_lead rfl hdX5_lead ⟨by decide, by decide⟩ 0 cw_at0 rfl rfl rfl (Nat.le_of_ble_eq_true rfl) ⟨Nat.le_of_ble_eq_true rfl, Nat.le_of_ble_eq_true rfl⟩ (q := 10) dL_lead_7 rfl (fun E9 u9 hp9 => ?_) (fun a9 u9 hp9 => ?_)
  · obtain ⟨rfl, hE9⟩ := hp9
    rcases hE9 with ⟨hE9, rfl⟩ | ⟨hE9, rfl⟩ | ⟨hE9, rfl⟩
    · refine v_catch F hTab (tableOf []) ⟨0, 12, 15, 28⟩ (tableOf [(0, 12, 19, 13), (0, 12, 23, 15)]) rfl (fun z hz => absurd hz List.not_mem_nil) (by decide) (by decide) (by decide +kernel) (by decide +kernel) (fun q9 => ?_)
      refine v_astore F (q := 17) [(5, .ref (q9)), (0, .ref (h 0)), (1, VI a0), (2, VI a1), (3, VI a2), (4, .ref (ho))] dL_lead_15 (by decide) rfl rfl ?_
      refine v_const F (q := 18) dL_lead_17 rfl ?_
      exact ret _ _ _ _ _ _ (Nat.le_of_ble_eq_true rfl) (Nat.le_of_ble_eq_true rfl) dL_lead_18 (⟨hE9.symm, Or.inr ⟨by omega, _, rfl⟩⟩)
    · refine v_catch F hTab (tableOf [(0, 12, 15, 28)]) ⟨0, 12, 19, 13⟩ (tableOf [(0, 12, 23, 15)]) rfl (List.forall_mem_cons.mpr ⟨Or.inr ⟨by decide, _, (by decide +kernel : Cond.classLink yL_lead.cls 28 "java/lang/IndexOutOfBoundsException" ∈ wsL_lead), by decide +kernel⟩, (fun z hz => absurd hz List.not_mem_nil)⟩) (by decide) (by decide) (by decide +kernel) (by decide +kernel) (fun q9 => ?_)
      refine v_astore F (q := 21) [(5, .ref (q9)), (0, .ref (h 0)), (1, VI a0), (2, VI a1), (3, VI a2), (4, .ref (ho))] dL_lead_19 (by decide) rfl rfl ?_
      refine v_const F (q := 22) dL_lead_21 rfl ?_
      exact ret _ _ _ _ _ _ (Nat.le_of_ble_eq_true rfl) (Nat.le_of_ble_eq_true rfl) dL_lead_22 (⟨hE9.symm, Or.inr ⟨by omega, _, rfl⟩⟩)
    · refine v_catch F hTab (tableOf [(0, 12, 15, 28), (0, 12, 19, 13)]) ⟨0, 12, 23, 15⟩ (tableOf []) rfl (List.forall_mem_cons.mpr ⟨Or.inr ⟨by decide, _, (by decide +kernel : Cond.classLink yL_lead.cls 28 "java/lang/IndexOutOfBoundsException" ∈ wsL_lead), by decide +kernel⟩, (List.forall_mem_cons.mpr ⟨Or.inr ⟨by decide, _, (by decide +kernel : Cond.classLink yL_lead.cls 13 "java/lang/IllegalArgumentException" ∈ wsL_lead), by decide +kernel⟩, (fun z hz => absurd hz List.not_mem_nil)⟩)⟩) (by decide) (by decide) (by decide +kernel) (by decide +kernel) (fun q9 => ?_)
      refine v_astore F (q := 25) [(5, .ref (q9)), (0, .ref (h 0)), (1, VI a0), (2, VI a1), (3, VI a2), (4, .ref (ho))] dL_lead_23 (by decide) rfl rfl ?_
      refine v_const F (q := 26) dL_lead_25 rfl ?_
      exact ret _ _ _ _ _ _ (Nat.le_of_ble_eq_true rfl) (Nat.le_of_ble_eq_true rfl) dL_lead_26 (⟨hE9.symm, Or.inr ⟨by omega, _, rfl⟩⟩)
  · obtain ⟨rfl, hE9, hR9⟩ := hp9
    refine v_i2l F (q := 11) dL_lead_10 rfl ?_
    refine v_last F 28 (cw k h (sLead S a0 a1 a2) Z ++ [(ho, oE k (vp_updL f 0 ((iI a9).toInt64)))]) rfl rfl (q := 12) dL_lead_11 rfl ?_
    refine v_goto F (tgt := 27) dL_lead_12 rfl ?_
    refine v_const F (q := 28) dL_lead_27 rfl ?_
    exact ret _ _ _ _ _ _ (Nat.le_of_ble_eq_true rfl) (Nat.le_of_ble_eq_true rfl) dL_lead_28 (⟨hE9.symm, Or.inl ⟨hE9, _, _, a9, rfl, rfl, hR9⟩⟩)
theorem hdL_pull : yL_pull.cls ≠ "java/lang/invoke/MethodHandle" ∧ yL_pull.cls ≠ "java/lang/invoke/VarHandle" ∧ (parseMethodDescriptor yL_pull.desc).map (fun d => d.parameters.length) = some 3 := by decide +kernel
set_option maxRecDepth 100000 in
set_option maxHeartbeats 4000000 in
theorem kL_pull {l : Launch} (hst : l.stackTraces = false) {k : Nat → ClassId} {h : Nat → Nat} {S Z : Nat → Nat → Int} (hI : Inv S) {a0 : Int} (g0 : R32 a0) {ho : Nat} {f : Nat → Int64} : v_Ci l k yL_pull wsL_pull ({ frames := 7, cells := 1, slots := 6, locals := 113 } : Room) [.ref (h 0), VI a0, .ref (ho)] (cw k h S Z ++ [(ho, oE k (f))]) (fun a u => LQ k h S (sPull S a0.toNat) ho f (ePull S a0) (fun r => r = rPull S a0.toNat) a u) := by
  refine v_ofW (cc := cL_pull) (nL := 4) (by decide +kernel) rfl hst (Nat.le_of_ble_eq_true rfl) (fun _ _ _ => rfl) (fun XX F hTab ret => ?_)
  show V XX (cw k h S Z ++ [(ho, oE k (f))]) 0 0 0 [(0, .ref (h 0)), (1, VI a0), (2, .ref (ho))] []
  refine v_aload_n F 2 (q := 1) dL_pull_0 rfl rfl rfl ?_
  refine v_const F (q := 2) dL_pull_1 rfl ?_
  refine v_aload_n F 0 (q := 3) dL_pull_2 rfl rfl rfl ?_
  refine v_iload_n F 1 (q := 4) dL_pull_3 rfl rfl rfl ?_
  refine v_callVt F (kX5_pull hst (k := k) (h := h) (S := S) (Z := Z) hI (a0 := a0) (by omega)) rfl gL_pull_X5_pull rfl hdX5_pull ⟨by decide, by decide⟩ 0 cw_at0 rfl rfl rfl (Nat.le_of_ble_eq_true rfl) ⟨Nat.le_of_ble_eq_true rfl, Nat.le_of_ble_eq_true rfl⟩ (q := 7) dL_pull_4 rfl (fun E9 u9 hp9 => ?_) (fun a9 u9 hp9 => ?_)
  · obtain ⟨rfl, hE9⟩ := hp9
    rcases hE9 with ⟨hE9, rfl⟩ | ⟨hE9, rfl⟩
    · refine v_catch F hTab (tableOf []) ⟨0, 9, 12, 28⟩ (tableOf [(0, 9, 15, 15)]) rfl (fun z hz => absurd hz List.not_mem_nil) (by decide) (by decide) (by decide +kernel) (by decide +kernel) (fun q9 => ?_)
      refine v_astore_n F (q := 13) [(3, .ref (q9)), (0, .ref (h 0)), (1, VI a0), (2, .ref (ho))] dL_pull_12 rfl (by decide) rfl rfl ?_
      refine v_const F (q := 14) dL_pull_13 rfl ?_
      exact ret _ _ _ _ _ _ (Nat.le_of_ble_eq_true rfl) (Nat.le_of_ble_eq_true rfl) dL_pull_14 (⟨hE9.symm, Or.inr ⟨by omega, _, rfl⟩⟩)
    · refine v_catch F hTab (tableOf [(0, 9, 12, 28)]) ⟨0, 9, 15, 15⟩ (tableOf []) rfl (List.forall_mem_cons.mpr ⟨Or.inr ⟨by decide, _, (by decide +kernel : Cond.classLink yL_pull.cls 28 "java/lang/IndexOutOfBoundsException" ∈ wsL_pull), by decide +kernel⟩, (fun z hz => absurd hz List.not_mem_nil)⟩) (by decide) (by decide) (by decide +kernel) (by decide +kernel) (fun q9 => ?_)
      refine v_astore_n F (q := 16) [(3, .ref (q9)), (0, .ref (h 0)), (1, VI a0), (2, .ref (ho))] dL_pull_15 rfl (by decide) rfl rfl ?_
      refine v_const F (q := 17) dL_pull_16 rfl ?_
      exact ret _ _ _ _ _ _ (Nat.le_of_ble_eq_true rfl) (Nat.le_of_ble_eq_true rfl) dL_pull_17 (⟨hE9.symm, Or.inr ⟨by omega, _, rfl⟩⟩)
  · obtain ⟨Z9, rfl, hE9, hR9⟩ := hp9
    refine v_i2l F (q := 8) dL_pull_7 rfl ?_
    refine v_last F 28 (cw k h (sPull S a0.toNat) Z9 ++ [(ho, oE k (vp_updL f 0 ((iI a9).toInt64)))]) rfl rfl (q := 9) dL_pull_8 rfl ?_
    refine v_goto F (tgt := 18) dL_pull_9 rfl ?_
    refine v_const F (q := 19) dL_pull_18 rfl ?_
    exact ret _ _ _ _ _ _ (Nat.le_of_ble_eq_true rfl) (Nat.le_of_ble_eq_true rfl) dL_pull_19 (⟨hE9.symm, Or.inl ⟨hE9, _, _, a9, rfl, rfl, hR9⟩⟩)
theorem hdL_glue : yL_glue.cls ≠ "java/lang/invoke/MethodHandle" ∧ yL_glue.cls ≠ "java/lang/invoke/VarHandle" ∧ (parseMethodDescriptor yL_glue.desc).map (fun d => d.parameters.length) = some 3 := by decide +kernel
set_option maxRecDepth 100000 in
set_option maxHeartbeats 4000000 in
theorem kL_glue {l : Launch} (hst : l.stackTraces = false) {k : Nat → ClassId} {h : Nat → Nat} {S Z : Nat → Nat → Int} (hI : Inv S) {a0 : Int} (g0 : R32 a0) {ho : Nat} {f : Nat → Int64} : v_Ci l k yL_glue wsL_glue ({ frames := 7, cells := 1, slots := 6, locals := 112 } : Room) [.ref (h 0), VI a0, .ref (ho)] (cw k h S Z ++ [(ho, oE k (f))]) (fun a u => LQ k h S (sGlue S a0.toNat) ho f (eGlue S a0) (fun r => r = 1 - S 8 a0.toNat) a u) := by
  refine v_ofW (cc := cL_glue) (nL := 4) (by decide +kernel) rfl hst (Nat.le_of_ble_eq_true rfl) (fun _ _ _ => rfl) (fun XX F hTab ret => ?_)
  show V XX (cw k h S Z ++ [(ho, oE k (f))]) 0 0 0 [(0, .ref (h 0)), (1, VI a0), (2, .ref (ho))] []
  refine v_aload_n F 2 (q := 1) dL_glue_0 rfl rfl rfl ?_
  refine v_const F (q := 2) dL_glue_1 rfl ?_
  refine v_aload_n F 0 (q := 3) dL_glue_2 rfl rfl rfl ?_
  refine v_iload_n F 1 (q := 4) dL_glue_3 rfl rfl rfl ?_
  refine v_callVt F (kX5_glue hst (k := k) (h := h) (S := S) (Z := Z) hI (a0 := a0) (by omega)) rfl gL_glue_X5_glue rfl hdX5_glue ⟨by decide, by decide⟩ 0 cw_at0 rfl rfl rfl (Nat.le_of_ble_eq_true rfl) ⟨Nat.le_of_ble_eq_true rfl, Nat.le_of_ble_eq_true rfl⟩ (q := 7) dL_glue_4 rfl (fun E9 u9 hp9 => ?_) (fun a9 u9 hp9 => ?_)
  · obtain ⟨rfl, hE9⟩ := hp9
    rcases hE9 with ⟨hE9, rfl⟩ | ⟨hE9, rfl⟩
    · refine v_catch F hTab (tableOf []) ⟨0, 9, 12, 28⟩ (tableOf [(0, 9, 15, 15)]) rfl (fun z hz => absurd hz List.not_mem_nil) (by decide) (by decide) (by decide +kernel) (by decide +kernel) (fun q9 => ?_)
      refine v_astore_n F (q := 13) [(3, .ref (q9)), (0, .ref (h 0)), (1, VI a0), (2, .ref (ho))] dL_glue_12 rfl (by decide) rfl rfl ?_
      refine v_const F (q := 14) dL_glue_13 rfl ?_
      exact ret _ _ _ _ _ _ (Nat.le_of_ble_eq_true rfl) (Nat.le_of_ble_eq_true rfl) dL_glue_14 (⟨hE9.symm, Or.inr ⟨by omega, _, rfl⟩⟩)
    · refine v_catch F hTab (tableOf [(0, 9, 12, 28)]) ⟨0, 9, 15, 15⟩ (tableOf []) rfl (List.forall_mem_cons.mpr ⟨Or.inr ⟨by decide, _, (by decide +kernel : Cond.classLink yL_glue.cls 28 "java/lang/IndexOutOfBoundsException" ∈ wsL_glue), by decide +kernel⟩, (fun z hz => absurd hz List.not_mem_nil)⟩) (by decide) (by decide) (by decide +kernel) (by decide +kernel) (fun q9 => ?_)
      refine v_astore_n F (q := 16) [(3, .ref (q9)), (0, .ref (h 0)), (1, VI a0), (2, .ref (ho))] dL_glue_15 rfl (by decide) rfl rfl ?_
      refine v_const F (q := 17) dL_glue_16 rfl ?_
      exact ret _ _ _ _ _ _ (Nat.le_of_ble_eq_true rfl) (Nat.le_of_ble_eq_true rfl) dL_glue_17 (⟨hE9.symm, Or.inr ⟨by omega, _, rfl⟩⟩)
  · obtain ⟨rfl, hE9, hR9⟩ := hp9
    refine v_i2l F (q := 8) dL_glue_7 rfl ?_
    refine v_last F 28 (cw k h (sGlue S a0.toNat) Z ++ [(ho, oE k (vp_updL f 0 ((iI a9).toInt64)))]) rfl rfl (q := 9) dL_glue_8 rfl ?_
    refine v_goto F (tgt := 18) dL_glue_9 rfl ?_
    refine v_const F (q := 19) dL_glue_18 rfl ?_
    exact ret _ _ _ _ _ _ (Nat.le_of_ble_eq_true rfl) (Nat.le_of_ble_eq_true rfl) dL_glue_19 (⟨hE9.symm, Or.inl ⟨hE9, _, _, a9, rfl, rfl, hR9⟩⟩)
theorem hdL_cross : yL_cross.cls ≠ "java/lang/invoke/MethodHandle" ∧ yL_cross.cls ≠ "java/lang/invoke/VarHandle" ∧ (parseMethodDescriptor yL_cross.desc).map (fun d => d.parameters.length) = some 4 := by decide +kernel
set_option maxRecDepth 100000 in
set_option maxHeartbeats 4000000 in
theorem kL_cross {l : Launch} (hst : l.stackTraces = false) {k : Nat → ClassId} {h : Nat → Nat} {S Z : Nat → Nat → Int} (hI : Inv S) {a0 a1 : Int} (g0 : R32 a0) (g1 : R32 a1) {ho : Nat} {f : Nat → Int64} : v_Ci l k yL_cross wsL_cross ({ frames := 7, cells := 1, slots := 6, locals := 112 } : Room) [.ref (h 0), VI a0, VI a1, .ref (ho)] (cw k h S Z ++ [(ho, oE k (f))]) (fun a u => LQ k h S S ho f (eCross S a0 a1) (fun r => vB (crossB S a0.toNat a1.toNat = true) r) a u) := by
  refine v_ofW (cc := cL_cross) (nL := 5) (by decide +kernel) rfl hst (Nat.le_of_ble_eq_true rfl) (fun _ _ _ => rfl) (fun XX F hTab ret => ?_)
  show V XX (cw k h S Z ++ [(ho, oE k (f))]) 0 0 0 [(0, .ref (h 0)), (1, VI a0), (2, VI a1), (3, .ref (ho))] []
  refine v_aload_n F 3 (q := 1) dL_cross_0 rfl rfl rfl ?_
  refine v_const F (q := 2) dL_cross_1 rfl ?_
  refine v_aload_n F 0 (q := 3) dL_cross_2 rfl rfl rfl ?_
  refine v_iload_n F 1 (q := 4) dL_cross_3 rfl rfl rfl ?_
  refine v_iload_n F 2 (q := 5) dL_cross_4 rfl rfl rfl ?_
  refine v_callVt F (kX5_cross hst (k := k) (h := h) (S := S) (Z := Z) hI (a0 := a0) (a1 := a1) (by omega) (by omega)) rfl gL_cross_X5_cross rfl hdX5_cross ⟨by decide, by decide⟩ 0 cw_at0 rfl rfl rfl (Nat.le_of_ble_eq_true rfl) ⟨Nat.le_of_ble_eq_true rfl, Nat.le_of_ble_eq_true rfl⟩ (q := 8) dL_cross_5 rfl (fun E9 u9 hp9 => ?_) (fun a9 u9 hp9 => ?_)
  · obtain ⟨rfl, hE9⟩ := hp9
    obtain ⟨hE9, rfl⟩ := hE9
    refine v_catch F hTab (tableOf []) ⟨0, 17, 20, 28⟩ (tableOf []) rfl (fun z hz => absurd hz List.not_mem_nil) (by decide) (by decide) (by decide +kernel) (by decide +kernel) (fun q9 => ?_)
    refine v_astore F (q := 22) [(4, .ref (q9)), (0, .ref (h 0)), (1, VI a0), (2, VI a1), (3, .ref (ho))] dL_cross_20 (by decide) rfl rfl ?_
    refine v_const F (q := 23) dL_cross_22 rfl ?_
    exact ret _ _ _ _ _ _ (Nat.le_of_ble_eq_true rfl) (Nat.le_of_ble_eq_true rfl) dL_cross_23 (⟨hE9.symm, Or.inr ⟨by omega, _, rfl⟩⟩)
  · obtain ⟨rfl, hE9, hR9⟩ := hp9
    obtain ⟨rfl, hB9⟩ | ⟨rfl, hB9⟩ := hR9
    · refine v_if_eq F (tgt := 15) (q := 11) (by omega) dL_cross_8 rfl rfl (fun h_1 => absurd h_1 (by omega)) (fun h_1 => ?_)
      refine v_lconst F (q := 12) dL_cross_11 rfl rfl ?_
      refine v_goto F (tgt := 16) dL_cross_12 rfl ?_
      refine v_last F 28 (cw k h S Z ++ [(ho, oE k (vp_updL f 0 1))]) rfl rfl (q := 17) dL_cross_16 rfl ?_
      refine v_goto F (tgt := 24) dL_cross_17 rfl ?_
      refine v_const F (q := 25) dL_cross_24 rfl ?_
      exact ret _ _ _ _ _ _ (Nat.le_of_ble_eq_true rfl) (Nat.le_of_ble_eq_true rfl) dL_cross_25 (⟨hE9.symm, Or.inl ⟨hE9, _, _, 1, rfl, (by show (1 : Int64) = (iI 1).toInt64; decide), vB_1 hB9⟩⟩)
    · refine v_if_eq F (tgt := 15) (q := 11) R32_0 dL_cross_8 rfl rfl (fun h_2 => ?_) (fun h_2 => absurd h_2 (by omega))
      refine v_lconst F (q := 16) dL_cross_15 rfl rfl ?_
      refine v_last F 28 (cw k h S Z ++ [(ho, oE k (vp_updL f 0 0))]) rfl rfl (q := 17) dL_cross_16 rfl ?_
      refine v_goto F (tgt := 24) dL_cross_17 rfl ?_
      refine v_const F (q := 25) dL_cross_24 rfl ?_
      exact ret _ _ _ _ _ _ (Nat.le_of_ble_eq_true rfl) (Nat.le_of_ble_eq_true rfl) dL_cross_25 (⟨hE9.symm, Or.inl ⟨hE9, _, _, 0, rfl, (by show (0 : Int64) = (iI 0).toInt64; decide), vB_0 hB9⟩⟩)
theorem hdL_mast : yL_mast.cls ≠ "java/lang/invoke/MethodHandle" ∧ yL_mast.cls ≠ "java/lang/invoke/VarHandle" ∧ (parseMethodDescriptor yL_mast.desc).map (fun d => d.parameters.length) = some 4 := by decide +kernel
set_option maxRecDepth 100000 in
set_option maxHeartbeats 4000000 in
theorem kL_mast {l : Launch} (hst : l.stackTraces = false) {k : Nat → ClassId} {h : Nat → Nat} {S Z : Nat → Nat → Int} (hI : Inv S) {a0 a1 : Int} (g0 : R32 a0) (g1 : R32 a1) {ho : Nat} {f : Nat → Int64} : v_Ci l k yL_mast wsL_mast ({ frames := 7, cells := 1, slots := 6, locals := 112 } : Room) [.ref (h 0), VI a0, VI a1, .ref (ho)] (cw k h S Z ++ [(ho, oE k (f))]) (fun a u => LQ k h S S ho f (eMast S a0 a1) (fun r => r = mastV S a0.toNat a1) a u) := by
  refine v_ofW (cc := cL_mast) (nL := 5) (by decide +kernel) rfl hst (Nat.le_of_ble_eq_true rfl) (fun _ _ _ => rfl) (fun XX F hTab ret => ?_)
  show V XX (cw k h S Z ++ [(ho, oE k (f))]) 0 0 0 [(0, .ref (h 0)), (1, VI a0), (2, VI a1), (3, .ref (ho))] []
  refine v_aload_n F 3 (q := 1) dL_mast_0 rfl rfl rfl ?_
  refine v_const F (q := 2) dL_mast_1 rfl ?_
  refine v_aload_n F 0 (q := 3) dL_mast_2 rfl rfl rfl ?_
  refine v_iload_n F 1 (q := 4) dL_mast_3 rfl rfl rfl ?_
  refine v_iload_n F 2 (q := 5) dL_mast_4 rfl rfl rfl ?_
  refine v_callVt F (kX5_mast hst (k := k) (h := h) (S := S) (Z := Z) hI (a0 := a0) (a1 := a1) (by omega) (by omega)) rfl gL_mast_X5_mast rfl hdX5_mast ⟨by decide, by decide⟩ 0 cw_at0 rfl rfl rfl (Nat.le_of_ble_eq_true rfl) ⟨Nat.le_of_ble_eq_true rfl, Nat.le_of_ble_eq_true rfl⟩ (q := 8) dL_mast_5 rfl (fun E9 u9 hp9 => ?_) (fun a9 u9 hp9 => ?_)
  · obtain ⟨rfl, hE9⟩ := hp9
    obtain ⟨hE9, rfl⟩ := hE9
    refine v_catch F hTab (tableOf []) ⟨0, 10, 13, 28⟩ (tableOf []) rfl (fun z hz => absurd hz List.not_mem_nil) (by decide) (by decide) (by decide +kernel) (by decide +kernel) (fun q9 => ?_)
    refine v_astore F (q := 15) [(4, .ref (q9)), (0, .ref (h 0)), (1, VI a0), (2, VI a1), (3, .ref (ho))] dL_mast_13 (by decide) rfl rfl ?_
    refine v_const F (q := 16) dL_mast_15 rfl ?_
    exact ret _ _ _ _ _ _ (Nat.le_of_ble_eq_true rfl) (Nat.le_of_ble_eq_true rfl) dL_mast_16 (⟨hE9.symm, Or.inr ⟨by omega, _, rfl⟩⟩)
  · obtain ⟨rfl, hE9, hR9⟩ := hp9
    refine v_i2l F (q := 9) dL_mast_8 rfl ?_
    refine v_last F 28 (cw k h S Z ++ [(ho, oE k (vp_updL f 0 ((iI a9).toInt64)))]) rfl rfl (q := 10) dL_mast_9 rfl ?_
    refine v_goto F (tgt := 17) dL_mast_10 rfl ?_
    refine v_const F (q := 18) dL_mast_17 rfl ?_
    exact ret _ _ _ _ _ _ (Nat.le_of_ble_eq_true rfl) (Nat.le_of_ble_eq_true rfl) dL_mast_18 (⟨hE9.symm, Or.inl ⟨hE9, _, _, a9, rfl, rfl, hR9⟩⟩)
theorem hdL_thread : yL_thread.cls ≠ "java/lang/invoke/MethodHandle" ∧ yL_thread.cls ≠ "java/lang/invoke/VarHandle" ∧ (parseMethodDescriptor yL_thread.desc).map (fun d => d.parameters.length) = some 4 := by decide +kernel
set_option maxRecDepth 100000 in
set_option maxHeartbeats 4000000 in
theorem kL_thread {l : Launch} (hst : l.stackTraces = false) {k : Nat → ClassId} {h : Nat → Nat} {S Z : Nat → Nat → Int} (hI : Inv S) {a0 a1 : Int} (g0 : R32 a0) (g1 : R32 a1) {ho : Nat} {f : Nat → Int64} : v_Ci l k yL_thread wsL_thread ({ frames := 7, cells := 1, slots := 6, locals := 113 } : Room) [.ref (h 0), VI a0, VI a1, .ref (ho)] (cw k h S Z ++ [(ho, oE k (f))]) (fun a u => LQ k h S S ho f (eThr S a0 a1) (fun r => r = thrV S a0.toNat a1) a u) := by
  refine v_ofW (cc := cL_thread) (nL := 5) (by decide +kernel) rfl hst (Nat.le_of_ble_eq_true rfl) (fun _ _ _ => rfl) (fun XX F hTab ret => ?_)
  show V XX (cw k h S Z ++ [(ho, oE k (f))]) 0 0 0 [(0, .ref (h 0)), (1, VI a0), (2, VI a1), (3, .ref (ho))] []
  refine v_aload_n F 3 (q := 1) dL_thread_0 rfl rfl rfl ?_
  refine v_const F (q := 2) dL_thread_1 rfl ?_
  refine v_aload_n F 0 (q := 3) dL_thread_2 rfl rfl rfl ?_
  refine v_iload_n F 1 (q := 4) dL_thread_3 rfl rfl rfl ?_
  refine v_iload_n F 2 (q := 5) dL_thread_4 rfl rfl rfl ?_
  refine v_callVt F (kX5_thread hst (k := k) (h := h) (S := S) (Z := Z) hI (a0 := a0) (a1 := a1) (by omega) (by omega)) rfl gL_thread_X5_thread rfl hdX5_thread ⟨by decide, by decide⟩ 0 cw_at0 rfl rfl rfl (Nat.le_of_ble_eq_true rfl) ⟨Nat.le_of_ble_eq_true rfl, Nat.le_of_ble_eq_true rfl⟩ (q := 8) dL_thread_5 rfl (fun E9 u9 hp9 => ?_) (fun a9 u9 hp9 => ?_)
  · obtain ⟨rfl, hE9⟩ := hp9
    obtain ⟨hE9, rfl⟩ := hE9
    refine v_catch F hTab (tableOf []) ⟨0, 10, 13, 28⟩ (tableOf []) rfl (fun z hz => absurd hz List.not_mem_nil) (by decide) (by decide) (by decide +kernel) (by decide +kernel) (fun q9 => ?_)
    refine v_astore F (q := 15) [(4, .ref (q9)), (0, .ref (h 0)), (1, VI a0), (2, VI a1), (3, .ref (ho))] dL_thread_13 (by decide) rfl rfl ?_
    refine v_const F (q := 16) dL_thread_15 rfl ?_
    exact ret _ _ _ _ _ _ (Nat.le_of_ble_eq_true rfl) (Nat.le_of_ble_eq_true rfl) dL_thread_16 (⟨hE9.symm, Or.inr ⟨by omega, _, rfl⟩⟩)
  · obtain ⟨rfl, hE9, hR9⟩ := hp9
    refine v_i2l F (q := 9) dL_thread_8 rfl ?_
    refine v_last F 28 (cw k h S Z ++ [(ho, oE k (vp_updL f 0 ((iI a9).toInt64)))]) rfl rfl (q := 10) dL_thread_9 rfl ?_
    refine v_goto F (tgt := 17) dL_thread_10 rfl ?_
    refine v_const F (q := 18) dL_thread_17 rfl ?_
    exact ret _ _ _ _ _ _ (Nat.le_of_ble_eq_true rfl) (Nat.le_of_ble_eq_true rfl) dL_thread_18 (⟨hE9.symm, Or.inl ⟨hE9, _, _, a9, rfl, rfl, hR9⟩⟩)
theorem hdL_ship : yL_ship.cls ≠ "java/lang/invoke/MethodHandle" ∧ yL_ship.cls ≠ "java/lang/invoke/VarHandle" ∧ (parseMethodDescriptor yL_ship.desc).map (fun d => d.parameters.length) = some 3 := by decide +kernel
set_option maxRecDepth 100000 in
set_option maxHeartbeats 4000000 in
theorem kL_ship {l : Launch} (hst : l.stackTraces = false) {k : Nat → ClassId} {h : Nat → Nat} {S Z : Nat → Nat → Int} (hI : Inv S) {a0 : Int} (g0 : R32 a0) {ho : Nat} {f : Nat → Int64} : v_Ci l k yL_ship wsL_ship ({ frames := 7, cells := 1, slots := 6, locals := 111 } : Room) [.ref (h 0), VI a0, .ref (ho)] (cw k h S Z ++ [(ho, oE k (f))]) (fun a u => LQ k h S S ho f (eShip a0) (fun r => r = shipV S a0) a u) := by
  refine v_ofW (cc := cL_ship) (nL := 4) (by decide +kernel) rfl hst (Nat.le_of_ble_eq_true rfl) (fun _ _ _ => rfl) (fun XX F hTab ret => ?_)
  show V XX (cw k h S Z ++ [(ho, oE k (f))]) 0 0 0 [(0, .ref (h 0)), (1, VI a0), (2, .ref (ho))] []
  refine v_aload_n F 2 (q := 1) dL_ship_0 rfl rfl rfl ?_
  refine v_const F (q := 2) dL_ship_1 rfl ?_
  refine v_aload_n F 0 (q := 3) dL_ship_2 rfl rfl rfl ?_
  refine v_iload_n F 1 (q := 4) dL_ship_3 rfl rfl rfl ?_
  refine v_callVt F (kX5_ship hst (k := k) (h := h) (S := S) (Z := Z) hI (a0 := a0) (by omega)) rfl gL_ship_X5_ship rfl hdX5_ship ⟨by decide, by decide⟩ 0 cw_at0 rfl rfl rfl (Nat.le_of_ble_eq_true rfl) ⟨Nat.le_of_ble_eq_true rfl, Nat.le_of_ble_eq_true rfl⟩ (q := 7) dL_ship_4 rfl (fun E9 u9 hp9 => ?_) (fun a9 u9 hp9 => ?_)
  · obtain ⟨rfl, hE9⟩ := hp9
    obtain ⟨hE9, rfl⟩ := hE9
    refine v_catch F hTab (tableOf []) ⟨0, 9, 12, 28⟩ (tableOf []) rfl (fun z hz => absurd hz List.not_mem_nil) (by decide) (by decide) (by decide +kernel) (by decide +kernel) (fun q9 => ?_)
    refine v_astore_n F (q := 13) [(3, .ref (q9)), (0, .ref (h 0)), (1, VI a0), (2, .ref (ho))] dL_ship_12 rfl (by decide) rfl rfl ?_
    refine v_const F (q := 14) dL_ship_13 rfl ?_
    exact ret _ _ _ _ _ _ (Nat.le_of_ble_eq_true rfl) (Nat.le_of_ble_eq_true rfl) dL_ship_14 (⟨hE9.symm, Or.inr ⟨by omega, _, rfl⟩⟩)
  · obtain ⟨rfl, hE9, hR9⟩ := hp9
    refine v_i2l F (q := 8) dL_ship_7 rfl ?_
    refine v_last F 28 (cw k h S Z ++ [(ho, oE k (vp_updL f 0 ((iI a9).toInt64)))]) rfl rfl (q := 9) dL_ship_8 rfl ?_
    refine v_goto F (tgt := 15) dL_ship_9 rfl ?_
    refine v_const F (q := 16) dL_ship_15 rfl ?_
    exact ret _ _ _ _ _ _ (Nat.le_of_ble_eq_true rfl) (Nat.le_of_ble_eq_true rfl) dL_ship_16 (⟨hE9.symm, Or.inl ⟨hE9, _, _, a9, rfl, rfl, hR9⟩⟩)
theorem hdL_count : yL_count.cls ≠ "java/lang/invoke/MethodHandle" ∧ yL_count.cls ≠ "java/lang/invoke/VarHandle" ∧ (parseMethodDescriptor yL_count.desc).map (fun d => d.parameters.length) = some 3 := by decide +kernel
set_option maxRecDepth 100000 in
set_option maxHeartbeats 4000000 in
theorem kL_count {l : Launch} (hst : l.stackTraces = false) {k : Nat → ClassId} {h : Nat → Nat} {S Z : Nat → Nat → Int} (hI : Inv S) {a0 : Int} (g0 : R32 a0) {ho : Nat} {f : Nat → Int64} : v_Ci l k yL_count wsL_count ({ frames := 7, cells := 1, slots := 6, locals := 111 } : Room) [.ref (h 0), VI a0, .ref (ho)] (cw k h S Z ++ [(ho, oE k (f))]) (fun a u => LQ k h S S ho f (eCnt a0) (fun r => r = cntV S a0) a u) := by
  refine v_ofW (cc := cL_count) (nL := 4) (by decide +kernel) rfl hst (Nat.le_of_ble_eq_true rfl) (fun _ _ _ => rfl) (fun XX F hTab ret => ?_)
  show V XX (cw k h S Z ++ [(ho, oE k (f))]) 0 0 0 [(0, .ref (h 0)), (1, VI a0), (2, .ref (ho))] []
  refine v_aload_n F 2 (q := 1) dL_count_0 rfl rfl rfl ?_
  refine v_const F (q := 2) dL_count_1 rfl ?_
  refine v_aload_n F 0 (q := 3) dL_count_2 rfl rfl rfl ?_
  refine v_iload_n F 1 (q := 4) dL_count_3 rfl rfl rfl ?_
  refine v_callVt F (kX5_count hst (k := k) (h := h) (S := S) (Z := Z) hI (a0 := a0) (by omega)) rfl gL_count_X5_count rfl hdX5_count ⟨by decide, by decide⟩ 0 cw_at0 rfl rfl rfl (Nat.le_of_ble_eq_true rfl) ⟨Nat.le_of_ble_eq_true rfl, Nat.le_of_ble_eq_true rfl⟩ (q := 7) dL_count_4 rfl (fun E9 u9 hp9 => ?_) (fun a9 u9 hp9 => ?_)
  · obtain ⟨rfl, hE9⟩ := hp9
    obtain ⟨hE9, rfl⟩ := hE9
    refine v_catch F hTab (tableOf []) ⟨0, 9, 12, 28⟩ (tableOf []) rfl (fun z hz => absurd hz List.not_mem_nil) (by decide) (by decide) (by decide +kernel) (by decide +kernel) (fun q9 => ?_)
    refine v_astore_n F (q := 13) [(3, .ref (q9)), (0, .ref (h 0)), (1, VI a0), (2, .ref (ho))] dL_count_12 rfl (by decide) rfl rfl ?_
    refine v_const F (q := 14) dL_count_13 rfl ?_
    exact ret _ _ _ _ _ _ (Nat.le_of_ble_eq_true rfl) (Nat.le_of_ble_eq_true rfl) dL_count_14 (⟨hE9.symm, Or.inr ⟨by omega, _, rfl⟩⟩)
  · obtain ⟨rfl, hE9, hR9⟩ := hp9
    refine v_i2l F (q := 8) dL_count_7 rfl ?_
    refine v_last F 28 (cw k h S Z ++ [(ho, oE k (vp_updL f 0 ((iI a9).toInt64)))]) rfl rfl (q := 9) dL_count_8 rfl ?_
    refine v_goto F (tgt := 15) dL_count_9 rfl ?_
    refine v_const F (q := 16) dL_count_15 rfl ?_
    exact ret _ _ _ _ _ _ (Nat.le_of_ble_eq_true rfl) (Nat.le_of_ble_eq_true rfl) dL_count_16 (⟨hE9.symm, Or.inl ⟨hE9, _, _, a9, rfl, rfl, hR9⟩⟩)
theorem hdL_pass : yL_pass.cls ≠ "java/lang/invoke/MethodHandle" ∧ yL_pass.cls ≠ "java/lang/invoke/VarHandle" ∧ (parseMethodDescriptor yL_pass.desc).map (fun d => d.parameters.length) = some 3 := by decide +kernel
set_option maxRecDepth 100000 in
set_option maxHeartbeats 4000000 in
theorem kL_pass {l : Launch} (hst : l.stackTraces = false) {k : Nat → ClassId} {h : Nat → Nat} {S Z : Nat → Nat → Int} (hI : Inv S) {a0 : Int} (g0 : R32 a0) {ho : Nat} {f : Nat → Int64} : v_Ci l k yL_pass wsL_pass ({ frames := 7, cells := 1, slots := 6, locals := 115 } : Room) [.ref (h 0), VI a0, .ref (ho)] (cw k h S Z ++ [(ho, oE k (f))]) (fun a u => LQ k h S (sPass S a0) ho f (ePass a0) (fun r => r = rPass S a0) a u) := by
  refine v_ofW (cc := cL_pass) (nL := 4) (by decide +kernel) rfl hst (Nat.le_of_ble_eq_true rfl) (fun _ _ _ => rfl) (fun XX F hTab ret => ?_)
  show V XX (cw k h S Z ++ [(ho, oE k (f))]) 0 0 0 [(0, .ref (h 0)), (1, VI a0), (2, .ref (ho))] []
  refine v_aload_n F 2 (q := 1) dL_pass_0 rfl rfl rfl ?_
  refine v_const F (q := 2) dL_pass_1 rfl ?_
  refine v_aload_n F 0 (q := 3) dL_pass_2 rfl rfl rfl ?_
  refine v_iload_n F 1 (q := 4) dL_pass_3 rfl rfl rfl ?_
  refine v_callVt F (kX5_pass hst (k := k) (h := h) (S := S) (Z := Z) hI (a0 := a0) (by omega)) rfl gL_pass_X5_pass rfl hdX5_pass ⟨by decide, by decide⟩ 0 cw_at0 rfl rfl rfl (Nat.le_of_ble_eq_true rfl) ⟨Nat.le_of_ble_eq_true rfl, Nat.le_of_ble_eq_true rfl⟩ (q := 7) dL_pass_4 rfl (fun E9 u9 hp9 => ?_) (fun a9 u9 hp9 => ?_)
  · obtain ⟨rfl, hE9⟩ := hp9
    obtain ⟨hE9, rfl⟩ := hE9
    refine v_catch F hTab (tableOf []) ⟨0, 9, 12, 13⟩ (tableOf []) rfl (fun z hz => absurd hz List.not_mem_nil) (by decide) (by decide) (by decide +kernel) (by decide +kernel) (fun q9 => ?_)
    refine v_astore_n F (q := 13) [(3, .ref (q9)), (0, .ref (h 0)), (1, VI a0), (2, .ref (ho))] dL_pass_12 rfl (by decide) rfl rfl ?_
    refine v_const F (q := 14) dL_pass_13 rfl ?_
    exact ret _ _ _ _ _ _ (Nat.le_of_ble_eq_true rfl) (Nat.le_of_ble_eq_true rfl) dL_pass_14 (⟨hE9.symm, Or.inr ⟨by omega, _, rfl⟩⟩)
  · obtain ⟨rfl, hE9, hR9⟩ := hp9
    refine v_i2l F (q := 8) dL_pass_7 rfl ?_
    refine v_last F 28 (cw k h (sPass S a0) Z ++ [(ho, oE k (vp_updL f 0 ((iI a9).toInt64)))]) rfl rfl (q := 9) dL_pass_8 rfl ?_
    refine v_goto F (tgt := 15) dL_pass_9 rfl ?_
    refine v_const F (q := 16) dL_pass_15 rfl ?_
    exact ret _ _ _ _ _ _ (Nat.le_of_ble_eq_true rfl) (Nat.le_of_ble_eq_true rfl) dL_pass_16 (⟨hE9.symm, Or.inl ⟨hE9, _, _, a9, rfl, rfl, hR9⟩⟩)
theorem hdL_least : yL_least.cls ≠ "java/lang/invoke/MethodHandle" ∧ yL_least.cls ≠ "java/lang/invoke/VarHandle" ∧ (parseMethodDescriptor yL_least.desc).map (fun d => d.parameters.length) = some 3 := by decide +kernel
set_option maxRecDepth 100000 in
set_option maxHeartbeats 4000000 in
theorem kL_least {l : Launch} (hst : l.stackTraces = false) {k : Nat → ClassId} {h : Nat → Nat} {S Z : Nat → Nat → Int} (hI : Inv S) {a0 : Int} (g0 : R32 a0) {ho : Nat} {f : Nat → Int64} : v_Ci l k yL_least wsL_least ({ frames := 7, cells := 1, slots := 6, locals := 131 } : Room) [.ref (h 0), VI a0, .ref (ho)] (cw k h S Z ++ [(ho, oE k (f))]) (fun a u => LQ k h S S ho f (eLeast S a0) (fun r => LeaP S (cS S) a0.toNat r) a u) := by
  refine v_ofW (cc := cL_least) (nL := 4) (by decide +kernel) rfl hst (Nat.le_of_ble_eq_true rfl) (fun _ _ _ => rfl) (fun XX F hTab ret => ?_)
  show V XX (cw k h S Z ++ [(ho, oE k (f))]) 0 0 0 [(0, .ref (h 0)), (1, VI a0), (2, .ref (ho))] []
  refine v_aload_n F 2 (q := 1) dL_least_0 rfl rfl rfl ?_
  refine v_const F (q := 2) dL_least_1 rfl ?_
  refine v_aload_n F 0 (q := 3) dL_least_2 rfl rfl rfl ?_
  refine v_iload_n F 1 (q := 4) dL_least_3 rfl rfl rfl ?_
  refine v_callVt F (kX5_least hst (k := k) (h := h) (S := S) (Z := Z) hI (a0 := a0) (by omega)) rfl gL_least_X5_least rfl hdX5_least ⟨by decide, by decide⟩ 0 cw_at0 rfl rfl rfl (Nat.le_of_ble_eq_true rfl) ⟨Nat.le_of_ble_eq_true rfl, Nat.le_of_ble_eq_true rfl⟩ (q := 7) dL_least_4 rfl (fun E9 u9 hp9 => ?_) (fun a9 u9 hp9 => ?_)
  · obtain ⟨rfl, hE9⟩ := hp9
    obtain ⟨hE9, rfl⟩ := hE9
    refine v_catch F hTab (tableOf []) ⟨0, 9, 12, 28⟩ (tableOf []) rfl (fun z hz => absurd hz List.not_mem_nil) (by decide) (by decide) (by decide +kernel) (by decide +kernel) (fun q9 => ?_)
    refine v_astore_n F (q := 13) [(3, .ref (q9)), (0, .ref (h 0)), (1, VI a0), (2, .ref (ho))] dL_least_12 rfl (by decide) rfl rfl ?_
    refine v_const F (q := 14) dL_least_13 rfl ?_
    exact ret _ _ _ _ _ _ (Nat.le_of_ble_eq_true rfl) (Nat.le_of_ble_eq_true rfl) dL_least_14 (⟨hE9.symm, Or.inr ⟨by omega, _, rfl⟩⟩)
  · obtain ⟨Z9, rfl, hE9, hR9⟩ := hp9
    refine v_i2l F (q := 8) dL_least_7 rfl ?_
    refine v_last F 28 (cw k h S Z9 ++ [(ho, oE k (vp_updL f 0 ((iI a9).toInt64)))]) rfl rfl (q := 9) dL_least_8 rfl ?_
    refine v_goto F (tgt := 15) dL_least_9 rfl ?_
    refine v_const F (q := 16) dL_least_15 rfl ?_
    exact ret _ _ _ _ _ _ (Nat.le_of_ble_eq_true rfl) (Nat.le_of_ble_eq_true rfl) dL_least_16 (⟨hE9.symm, Or.inl ⟨hE9, _, _, a9, rfl, rfl, hR9⟩⟩)
