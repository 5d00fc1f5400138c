theorem hdX5_hoursUntilFlat : yX5_hoursUntilFlat.cls = RX5 ∧ yX5_hoursUntilFlat.cls ≠ "java/lang/invoke/MethodHandle" ∧ yX5_hoursUntilFlat.cls ≠ "java/lang/invoke/VarHandle" ∧ (parseMethodDescriptor yX5_hoursUntilFlat.desc).map (fun d => d.parameters.length) = some 1 := by decide +kernel
set_option maxRecDepth 100000 in
set_option maxHeartbeats 4000000 in
theorem kX5_hoursUntilFlat {l : Launch} (hst : l.stackTraces = false) {k : Nat → ClassId} {h : Nat → Nat} {S Z : Nat → Nat → Int} (hI : Inv S) {m : Nat} (hm : m < 3) : v_Ci l k yX5_hoursUntilFlat wsX5_hoursUntilFlat ({ frames := 3, cells := 0, slots := 0, locals := 66 } : Room) [.ref (h 0), VI ((m : Nat) : Int)] (cw k h S Z) (fun a u => u = cw k h S Z ∧ HrsP S m a ∧ -1 ≤ a ∧ a ≤ 50) := by
  refine v_ofI (cc := cX5_hoursUntilFlat) (nL := 5) (by decide +kernel) rfl hst (Nat.le_of_ble_eq_true rfl) (fun _ _ _ => rfl) (fun XX F ret => ?_)
  have hin5 : ∀ w ∈ wsX50, w ∈ wsX5_hoursUntilFlat := by decide +kernel
  have b7 := hI.mc
  have b8 := hI.cc
  show V XX (cw k h S Z) 0 0 0 [(0, .ref (h 0)), (1, VI ((m : Nat) : Int))] []
  refine v_aload_n F 0 (q := 1) dX5_hoursUntilFlat_0 rfl rfl rfl ?_
  refine v_iload_n F 1 (q := 2) dX5_hoursUntilFlat_1 rfl rfl rfl ?_
  refine v_callVi0 F (kX5_fallInAnHour hst (k := k) (h := h) (S := S) (Z := Z) hI (m := m) (by omega)) gX5_hoursUntilFlat_X5_fallInAnHour rfl hdX5_fallInAnHour ⟨by decide, by decide⟩ 0 cw_at0 rfl rfl rfl (Nat.le_of_ble_eq_true rfl) ⟨(Nat.zero_le _), (Nat.zero_le _)⟩ (q := 5) dX5_hoursUntilFlat_2 rfl ?_
  rintro a_1 _ ⟨rfl, ⟨h_1, hc_1⟩⟩
  refine v_istore_n F (q := 6) [(2, VI a_1), (0, .ref (h 0)), (1, VI ((m : Nat) : Int))] dX5_hoursUntilFlat_5 rfl (by decide) rfl rfl ?_
  refine v_aload_n F 1 (q := 7) dX5_hoursUntilFlat_6 rfl rfl rfl ?_
  refine v_get F (C := RX5) (T := TX5) (N := 14) (ci := 5) (v := .ref (h 6)) 0 5 hin5 rfl cw_at0 (by decide) (by decide +kernel) rfl (q := 10) dX5_hoursUntilFlat_7 rfl ?_
  refine v_iload_n F 2 (q := 11) dX5_hoursUntilFlat_10 rfl rfl rfl ?_
  refine v_iald F (j := m) 6 cw_at6 rfl (by omega) (by decide) (q := 12) dX5_hoursUntilFlat_11 rfl ?_
  have b_2 := hI.lean m
  refine v_istore_n F (q := 13) [(3, VI (S 4 m)), (2, VI a_1), (0, .ref (h 0)), (1, VI ((m : Nat) : Int))] dX5_hoursUntilFlat_12 rfl (by decide) rfl rfl ?_
  refine v_const F (q := 14) dX5_hoursUntilFlat_13 rfl ?_
  refine v_istore F (q := 16) [(4, VI 0), (3, VI (S 4 m)), (2, VI a_1), (0, .ref (h 0)), (1, VI ((m : Nat) : Int))] dX5_hoursUntilFlat_14 (by decide) rfl rfl ?_
  have L16_3 : ∀ (fu : Nat) (ln : Int) (hh : Nat), (hh ≤ 51 ∧ ln = S 4 m + (hh : Int) * fallF S m ∧ 0 ≤ ln ∧ ln ≤ 9 + 2 * (hh : Int) ∧ ∀ j : Nat, j < hh → S 4 m + (j : Int) * fallF S m < 9) → 51 - hh < fu → V XX (cw k h S Z) 0 0 16 [(4, VI ((hh : Nat) : Int)), (3, VI ln), (2, VI a_1), (0, .ref (h 0)), (1, VI ((m : Nat) : Int))] [] := by
    intro fu_16
    induction fu_16 with
    | zero => intros; omega
    | succ fu_16 ih_16 =>
      intro ln hh hv hm_16
      obtain ⟨hv1, hv2, hv3, hv4, hv5⟩ := hv
      have hfb := fall_bd S m
      refine v_iload F 0 (q := 18) dX5_hoursUntilFlat_16 rfl rfl ?_
      refine v_bipush F (q := 20) dX5_hoursUntilFlat_18 rfl rfl ?_
      refine v_icmp_gt F (tgt := 42) (q := 23) (by omega) (by omega) dX5_hoursUntilFlat_20 rfl rfl (fun h_4 => ?_) (fun h_4 => ?_)
      · refine v_const F (q := 43) dX5_hoursUntilFlat_42 rfl ?_
        exact ret _ _ _ _ _ _ (Nat.zero_le _) (Nat.zero_le _) dX5_hoursUntilFlat_43 (⟨rfl, Or.inl ⟨rfl, fun j hj => hv5 j (by omega)⟩, by decide, by decide⟩)
      · refine v_iload_n F 1 (q := 24) dX5_hoursUntilFlat_23 rfl rfl rfl ?_
        refine v_bipush F (q := 26) dX5_hoursUntilFlat_24 rfl rfl ?_
        refine v_icmp_lt F (tgt := 32) (q := 29) (by omega) (by omega) dX5_hoursUntilFlat_26 rfl rfl (fun h_5 => ?_) (fun h_5 => ?_)
        · refine v_iload_n F 1 (q := 33) dX5_hoursUntilFlat_32 rfl rfl rfl ?_
          refine v_iload_n F 2 (q := 34) dX5_hoursUntilFlat_33 rfl rfl rfl ?_
          refine v_iadd F (q := 35) dX5_hoursUntilFlat_34 rfl ?_
          refine v_istore_n F (q := 36) [(3, VI (ln + a_1)), (4, VI ((hh : Nat) : Int)), (2, VI a_1), (0, .ref (h 0)), (1, VI ((m : Nat) : Int))] dX5_hoursUntilFlat_35 rfl (by decide) rfl rfl ?_
          refine v_iinc F (q := 39) (z := ((hh + 1 : Nat) : Int)) 1 [(4, VI ((hh + 1 : Nat) : Int)), (3, VI (ln + a_1)), (2, VI a_1), (0, .ref (h 0)), (1, VI ((m : Nat) : Int))] dX5_hoursUntilFlat_36 rfl (by decide) (by omega) rfl rfl ?_
          refine v_goto F (tgt := 16) dX5_hoursUntilFlat_39 rfl ?_
          exact ih_16 (ln + a_1) (hh + 1) (by have e9 := succ_mul9 hh (fallF S m); exact ⟨by omega, by omega, by omega, by omega, fun j hj => (Nat.lt_or_ge j hh).elim (fun q => hv5 j q) (fun q => by obtain rfl : j = hh := (by omega); omega)⟩) (by omega)
        · refine v_iload F 0 (q := 31) dX5_hoursUntilFlat_29 rfl rfl ?_
          exact ret _ _ _ _ _ _ (Nat.zero_le _) (Nat.zero_le _) dX5_hoursUntilFlat_31 (⟨rfl, Or.inr ⟨hh, rfl, by omega, by omega, hv5⟩, by omega, by omega⟩)
  exact L16_3 _ (S 4 m) 0 (by exact ⟨by omega, by simp, by omega, by omega, fun j hj => absurd hj (Nat.not_lt_zero j)⟩) (Nat.lt_succ_self _)
theorem hdX5_falls : yX5_falls.cls = RX5 ∧ yX5_falls.cls ≠ "java/lang/invoke/MethodHandle" ∧ yX5_falls.cls ≠ "java/lang/invoke/VarHandle" ∧ (parseMethodDescriptor yX5_falls.desc).map (fun d => d.parameters.length) = some 0 := by decide +kernel
set_option maxRecDepth 100000 in
set_option maxHeartbeats 4000000 in
theorem kX5_falls {l : Launch} (hst : l.stackTraces = false) {k : Nat → ClassId} {h : Nat → Nat} {S Z : Nat → Nat → Int} (hI : Inv S) : v_Ci l k yX5_falls wsX5_falls ({ frames := 4, cells := 0, slots := 0, locals := 90 } : Room) [.ref (h 0)] (cw k h S Z) (fun a u => u = cw k h S Z ∧ FallsP S a) := by
  refine v_ofI (cc := cX5_falls) (nL := 4) (by decide +kernel) rfl hst (Nat.le_of_ble_eq_true rfl) (fun _ _ _ => rfl) (fun XX F ret => ?_)
  have hin5 : ∀ w ∈ wsX50, w ∈ wsX5_falls := by decide +kernel
  have b7 := hI.mc
  have b8 := hI.cc
  show V XX (cw k h S Z) 0 0 0 [(0, .ref (h 0))] []
  refine v_const F (q := 1) dX5_falls_0 rfl ?_
  refine v_istore_n F (q := 2) [(1, VI 0), (0, .ref (h 0))] dX5_falls_1 rfl (by decide) rfl rfl ?_
  refine v_const F (q := 3) dX5_falls_2 rfl ?_
  refine v_istore_n F (q := 4) [(2, VI 0), (1, VI 0), (0, .ref (h 0))] dX5_falls_3 rfl (by decide) rfl rfl ?_
  have L4_1 : ∀ (fu : Nat) (lo : Int) (m : Nat), ((m : Int) ≤ S 0 7 ∧ HlP S m lo ∧ LoP S m lo ∧ 0 ≤ lo ∧ lo ≤ 50) → (S 0 7 - m).toNat < fu → V XX (cw k h S Z) 0 0 4 [(2, VI ((m : Nat) : Int)), (1, VI lo), (0, .ref (h 0))] [] := by
    intro fu_4
    induction fu_4 with
    | zero => intros; omega
    | succ fu_4 ih_4 =>
      intro lo m hv hm_4
      obtain ⟨hv1, hv2, hv3, hv4⟩ := hv
      refine v_iload_n F 0 (q := 5) dX5_falls_4 rfl rfl rfl ?_
      refine v_aload_n F 2 (q := 6) dX5_falls_5 rfl rfl rfl ?_
      refine v_get F (C := RX5) (T := TX5) (N := 14) (ci := 5) (v := VI (S 0 7)) 0 8 hin5 rfl cw_at0 (by decide) (by decide +kernel) rfl (q := 9) dX5_falls_6 rfl ?_
      have b_2 := And.intro (hI.sc 7 (by decide)) (hI.1 0 7 (by omega)).2
      refine v_icmp_ge F (tgt := 37) (q := 12) (by omega) (by omega) dX5_falls_9 rfl rfl (fun h_3 => ?_) (fun h_3 => ?_)
      · refine v_iload_n F 1 (q := 38) dX5_falls_37 rfl rfl rfl ?_
        exact ret _ _ _ _ _ _ (Nat.zero_le _) (Nat.zero_le _) dX5_falls_38 (⟨rfl, falls_some hI (m := m) (by omega) hv2 ⟨hv3, hv4⟩ rfl⟩)
      · refine v_aload_n F 2 (q := 13) dX5_falls_12 rfl rfl rfl ?_
        refine v_iload_n F 0 (q := 14) dX5_falls_13 rfl rfl rfl ?_
        refine v_callVi0 F (kX5_hoursUntilFlat hst (k := k) (h := h) (S := S) (Z := Z) hI (m := m) (by omega)) gX5_falls_X5_hoursUntilFlat rfl hdX5_hoursUntilFlat ⟨by decide, by decide⟩ 0 cw_at0 rfl rfl rfl (Nat.le_of_ble_eq_true rfl) ⟨(Nat.zero_le _), (Nat.zero_le _)⟩ (q := 17) dX5_falls_14 rfl ?_
        rintro a_4 _ ⟨rfl, ⟨h_4, hc_4⟩⟩
        refine v_istore_n F (q := 18) [(3, VI a_4), (2, VI ((m : Nat) : Int)), (1, VI lo), (0, .ref (h 0))] dX5_falls_17 rfl (by decide) rfl rfl ?_
        refine v_iload_n F 0 (q := 19) dX5_falls_18 rfl rfl rfl ?_
        refine v_const F (q := 20) dX5_falls_19 rfl ?_
        refine v_icmp_ne F (tgt := 25) (q := 23) (by omega) (by omega) dX5_falls_20 rfl rfl (fun h_5 => ?_) (fun h_5 => ?_)
        · refine v_iload_n F 2 (q := 26) dX5_falls_25 rfl rfl rfl ?_
          refine v_iload_n F 0 (q := 27) dX5_falls_26 rfl rfl rfl ?_
          refine v_max F (by omega) (by omega) (by decide +kernel) (by decide +kernel) (by decide +kernel) (by decide +kernel) ⟨by decide, Nat.le_of_ble_eq_true rfl⟩ ⟨(Nat.zero_le _), (Nat.zero_le _)⟩ (q := 30) dX5_falls_27 rfl ?_
          refine v_istore_n F (q := 31) [(1, VI (max lo a_4)), (3, VI a_4), (2, VI ((m : Nat) : Int)), (0, .ref (h 0))] dX5_falls_30 rfl (by decide) rfl rfl ?_
          refine v_iinc F (q := 34) (z := ((m + 1 : Nat) : Int)) 2 [(2, VI ((m + 1 : Nat) : Int)), (1, VI (max lo a_4)), (3, VI a_4), (0, .ref (h 0))] dX5_falls_31 rfl (by decide) (by omega) rfl rfl ?_
          refine v_goto F (tgt := 4) dX5_falls_34 rfl ?_
          refine v_sub [0, 1, 3] rfl ?_
          exact ih_4 (max lo a_4) (m + 1) (by exact ⟨by omega, hv2.mx9 (by assumption) (by omega), hv3.mx9 (by assumption), by omega, by omega⟩) (by omega)
        · refine v_const F (q := 24) dX5_falls_23 rfl ?_
          exact ret _ _ _ _ _ _ (Nat.zero_le _) (Nat.zero_le _) dX5_falls_24 (⟨rfl, falls_none hI (m := m) (by omega) (by assumption)⟩)
  exact L4_1 _ 0 0 (by exact ⟨by omega, fun j hj => absurd hj (Nat.not_lt_zero j), Or.inl rfl, by omega, by omega⟩) (Nat.lt_succ_self _)
