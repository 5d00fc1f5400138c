theorem hdX6_later : yX6_later.cls = RX6 ∧ yX6_later.cls ≠ "java/lang/invoke/MethodHandle" ∧ yX6_later.cls ≠ "java/lang/invoke/VarHandle" ∧ (parseMethodDescriptor yX6_later.desc).map (fun d => d.parameters.length) = some 1 := by decide +kernel
set_option maxRecDepth 100000 in
set_option maxHeartbeats 4000000 in
theorem kX6_later {l : Launch} (hst : l.stackTraces = false) {k : Nat → ClassId} {g : Nat → Nat} {S Y : Nat → Nat → Int} (hI : Inv S) {f : Nat → Int} (hf : D9 f) : v_Ci l k yX6_later wsX6_later ({ frames := 2, cells := 0, slots := 0, locals := 41 } : Room) [.ref (g 0), VI (codeF f)] (mw k g S Y) (fun a u => u = mw k g S Y ∧ a = codeF (lt1 S f (mcn S)) ∧ 0 ≤ a ∧ a ≤ 999) := by
  refine v_ofI (cc := cX6_later) (nL := 4) (by decide +kernel) rfl hst (Nat.le_of_ble_eq_true rfl) (fun _ _ _ => rfl) (fun XX F ret => ?_)
  have hin6 : ∀ w ∈ wsX60, w ∈ wsX6_later := by decide +kernel
  have b7 := hI.mc
  have b8 := hI.cc
  have hcb := code_bd hf
  show V XX (mw k g S Y) 0 0 0 [(0, .ref (g 0)), (1, VI (codeF f))] []
  refine v_iload_n F 1 (q := 1) dX6_later_0 rfl rfl rfl ?_
  refine v_istore_n F (q := 2) [(2, VI (codeF f)), (0, .ref (g 0)), (1, VI (codeF f))] dX6_later_1 rfl (by decide) rfl rfl ?_
  refine v_const F (q := 3) dX6_later_2 rfl ?_
  refine v_istore_n F (q := 4) [(3, VI 0), (2, VI (codeF f)), (0, .ref (g 0)), (1, VI (codeF f))] dX6_later_3 rfl (by decide) rfl rfl ?_
  have L4_1 : ∀ (fu : Nat) (th : Int) (i : Nat), ((i : Int) ≤ S 0 7 ∧ th = codeF (lt1 S f i)) → (S 0 7 - i).toNat < fu → V XX (mw k g S Y) 0 0 4 [(3, VI ((i : Nat) : Int)), (2, VI th), (0, .ref (g 0)), (1, VI (codeF f))] [] := by
    intro fu_4
    induction fu_4 with
    | zero => intros; omega
    | succ fu_4 ih_4 =>
      intro th i hv hm_4
      obtain ⟨hv1, hv2⟩ := hv
      refine v_iload_n F 0 (q := 5) dX6_later_4 rfl rfl rfl ?_
      refine v_aload_n F 2 (q := 6) dX6_later_5 rfl rfl rfl ?_
      refine v_get F (C := RX6) (T := TX6) (N := 25) (ci := 6) (v := VI (S 0 7)) 0 12 hin6 rfl mw_at0 (by decide) (by decide +kernel) rfl (q := 9) dX6_later_6 rfl ?_
      have b_2 := And.intro (hI.sc 7 (by decide)) (hI.1 0 7 (by omega)).2
      refine v_icmp_ge F (tgt := 71) (q := 12) (by omega) (by omega) dX6_later_9 rfl rfl (fun h_3 => ?_) (fun h_3 => ?_)
      · refine v_iload_n F 1 (q := 72) dX6_later_71 rfl rfl rfl ?_
        exact ret _ _ _ _ _ _ (Nat.zero_le _) (Nat.zero_le _) dX6_later_72 (⟨rfl, by rw [hv2, show i = mcn S from (by unfold mcn; omega)], by have := code_bd (lt1_ok S hf i); omega, by have := code_bd (lt1_ok S hf i); omega⟩)
      · refine v_aload_n F 2 (q := 13) dX6_later_12 rfl rfl rfl ?_
        refine v_iload_n F 0 (q := 14) dX6_later_13 rfl rfl rfl ?_
        refine v_callVi0 F (kX6_isHeld hst (k := k) (g := g) (S := S) (Y := Y) hI (a0 := ((i : Nat) : Int)) (by omega)) gX6_later_X6_isHeld rfl hdX6_isHeld ⟨by decide, by decide⟩ 0 mw_at0 rfl rfl rfl (Nat.le_of_ble_eq_true rfl) ⟨(Nat.zero_le _), (Nat.zero_le _)⟩ (q := 17) dX6_later_14 rfl ?_
        rintro _ _ ⟨rfl, ⟨rfl, h_4⟩ | ⟨rfl, h_4⟩⟩
        · refine v_if_ne F (tgt := 65) (q := 20) (by omega) dX6_later_17 rfl rfl (fun h_5 => ?_) (fun h_5 => absurd h_5 (by omega))
          refine v_iinc F (q := 68) (z := ((i + 1 : Nat) : Int)) 0 [(3, VI ((i + 1 : Nat) : Int)), (2, VI th), (0, .ref (g 0)), (1, VI (codeF f))] dX6_later_65 rfl (by decide) (by omega) rfl rfl ?_
          refine v_goto F (tgt := 4) dX6_later_68 rfl ?_
          exact ih_4 th (i + 1) (by refine ⟨by omega, ?_⟩; first | (rw [lt1_no hf (by omega) (by unfold fallF; rw [if_pos (by first | exact Or.inl (by assumption) | exact Or.inr (by omega))])]; exact hv2) | exact lt1_a2 hf (by omega) hv2 (by assumption) (by assumption) (by unfold fallF; rw [if_neg (fun z => z.elim (fun z1 => by contradiction) (fun z2 => by omega)), if_pos (by omega)]) | exact lt1_a2 hf (by omega) hv2 (by assumption) (by assumption) (by unfold fallF; rw [if_neg (fun z => z.elim (fun z1 => by contradiction) (fun z2 => by omega)), if_neg (by omega)])) (by omega)
        · refine v_if_ne F (tgt := 65) (q := 20) R32_0 dX6_later_17 rfl rfl (fun h_6 => absurd h_6 (by omega)) (fun h_6 => ?_)
          refine v_aload_n F 2 (q := 21) dX6_later_20 rfl rfl rfl ?_
          refine v_iload_n F 0 (q := 22) dX6_later_21 rfl rfl rfl ?_
          refine v_callVi0 F (kX6_loose hst (k := k) (g := g) (S := S) (Y := Y) hI (a0 := ((i : Nat) : Int)) (by omega)) gX6_later_X6_loose rfl hdX6_loose ⟨by decide, by decide⟩ 0 mw_at0 rfl rfl rfl (Nat.le_of_ble_eq_true rfl) ⟨(Nat.zero_le _), (Nat.zero_le _)⟩ (q := 25) dX6_later_22 rfl ?_
          rintro a_7 _ ⟨rfl, ⟨h_7, hc_7⟩⟩
          refine v_if_le F (tgt := 31) (q := 28) (by omega) dX6_later_25 rfl rfl (fun h_8 => ?_) (fun h_8 => ?_)
          · refine v_iload_n F 1 (q := 32) dX6_later_31 rfl rfl rfl ?_
            refine v_iload_n F 0 (q := 33) dX6_later_32 rfl rfl rfl ?_
            refine v_callSi0 F (kX6_unit hst (k := k) (w := mw k g S Y) (m := i) (by omega)) gX6_later_X6_unit rfl hdX6_unit ⟨by decide, by decide⟩ rfl rfl (Nat.le_of_ble_eq_true rfl) ⟨(Nat.zero_le _), (Nat.zero_le _)⟩ (q := 36) dX6_later_33 rfl ?_
            rintro a_9 _ ⟨rfl, ⟨h_9, hc_9⟩⟩
            refine v_bipush F (q := 38) dX6_later_36 rfl rfl ?_
            refine v_iload_n F 3 (q := 39) dX6_later_38 rfl rfl rfl ?_
            refine v_iload_n F 0 (q := 40) dX6_later_39 rfl rfl rfl ?_
            refine v_callSi0 F (kX6_lean hst (k := k) (w := mw k g S Y) (f := f) hf (m := i) (by omega)) gX6_later_X6_lean rfl hdX6_lean ⟨by decide, by decide⟩ rfl rfl (Nat.le_of_ble_eq_true rfl) ⟨(Nat.zero_le _), (Nat.zero_le _)⟩ (q := 43) dX6_later_40 rfl ?_
            rintro a_10 _ ⟨rfl, ⟨h_10, hc_10⟩⟩
            refine v_isub F (q := 44) dX6_later_43 rfl ?_
            refine v_aload_n F 2 (q := 45) dX6_later_44 rfl rfl rfl ?_
            refine v_get F (C := RX6) (T := TX6) (N := 25) (ci := 6) (v := .ref (g 3)) 0 16 hin6 rfl mw_at0 (by decide) (by decide +kernel) rfl (q := 48) dX6_later_45 rfl ?_
            refine v_iload_n F 0 (q := 49) dX6_later_48 rfl rfl rfl ?_
            refine v_iald F (j := i) 3 mw_at3 rfl (by omega) (by decide) (q := 50) dX6_later_49 rfl ?_
            have b_11 := hI.yc i
            refine v_const F (q := 51) dX6_later_50 rfl ?_
            refine v_icmp_le F (tgt := 58) (q := 54) (by omega) (by omega) dX6_later_51 rfl rfl (fun h_12 => ?_) (fun h_12 => ?_)
            · refine v_const F (q := 59) dX6_later_58 rfl ?_
              refine v_min F (by omega) (by omega) (by decide +kernel) (by decide +kernel) (by decide +kernel) (by decide +kernel) ⟨by decide, Nat.le_of_ble_eq_true rfl⟩ ⟨(Nat.zero_le _), (Nat.zero_le _)⟩ (q := 62) dX6_later_59 rfl ?_
              refine v_imul F (q := 63) dX6_later_62 rfl ?_
              refine v_iadd F (q := 64) dX6_later_63 rfl ?_
              refine v_istore_n F (q := 65) [(2, VI (th + (a_9 * (min (9 - a_10) 1)))), (3, VI ((i : Nat) : Int)), (0, .ref (g 0)), (1, VI (codeF f))] dX6_later_64 rfl (by decide) rfl rfl ?_
              refine v_iinc F (q := 68) (z := ((i + 1 : Nat) : Int)) 1 [(3, VI ((i + 1 : Nat) : Int)), (2, VI (th + (a_9 * (min (9 - a_10) 1)))), (0, .ref (g 0)), (1, VI (codeF f))] dX6_later_65 rfl (by decide) (by omega) rfl rfl ?_
              refine v_goto F (tgt := 4) dX6_later_68 rfl ?_
              exact ih_4 (th + (a_9 * (min (9 - a_10) 1))) (i + 1) (by refine ⟨by omega, ?_⟩; first | (rw [lt1_no hf (by omega) (by unfold fallF; rw [if_pos (by first | exact Or.inl (by assumption) | exact Or.inr (by omega))])]; exact hv2) | exact lt1_a2 hf (by omega) hv2 (by assumption) (by assumption) (by unfold fallF; rw [if_neg (fun z => z.elim (fun z1 => by contradiction) (fun z2 => by omega)), if_pos (by omega)]) | exact lt1_a2 hf (by omega) hv2 (by assumption) (by assumption) (by unfold fallF; rw [if_neg (fun z => z.elim (fun z1 => by contradiction) (fun z2 => by omega)), if_neg (by omega)])) (by omega)
            · refine v_const F (q := 55) dX6_later_54 rfl ?_
              refine v_goto F (tgt := 59) dX6_later_55 rfl ?_
              refine v_min F (by omega) (by omega) (by decide +kernel) (by decide +kernel) (by decide +kernel) (by decide +kernel) ⟨by decide, Nat.le_of_ble_eq_true rfl⟩ ⟨(Nat.zero_le _), (Nat.zero_le _)⟩ (q := 62) dX6_later_59 rfl ?_
              refine v_imul F (q := 63) dX6_later_62 rfl ?_
              refine v_iadd F (q := 64) dX6_later_63 rfl ?_
              refine v_istore_n F (q := 65) [(2, VI (th + (a_9 * (min (9 - a_10) 2)))), (3, VI ((i : Nat) : Int)), (0, .ref (g 0)), (1, VI (codeF f))] dX6_later_64 rfl (by decide) rfl rfl ?_
              refine v_iinc F (q := 68) (z := ((i + 1 : Nat) : Int)) 1 [(3, VI ((i + 1 : Nat) : Int)), (2, VI (th + (a_9 * (min (9 - a_10) 2)))), (0, .ref (g 0)), (1, VI (codeF f))] dX6_later_65 rfl (by decide) (by omega) rfl rfl ?_
              refine v_goto F (tgt := 4) dX6_later_68 rfl ?_
              exact ih_4 (th + (a_9 * (min (9 - a_10) 2))) (i + 1) (by refine ⟨by omega, ?_⟩; first | (rw [lt1_no hf (by omega) (by unfold fallF; rw [if_pos (by first | exact Or.inl (by assumption) | exact Or.inr (by omega))])]; exact hv2) | exact lt1_a2 hf (by omega) hv2 (by assumption) (by assumption) (by unfold fallF; rw [if_neg (fun z => z.elim (fun z1 => by contradiction) (fun z2 => by omega)), if_pos (by omega)]) | exact lt1_a2 hf (by omega) hv2 (by assumption) (by assumption) (by unfold fallF; rw [if_neg (fun z => z.elim (fun z1 => by contradiction) (fun z2 => by omega)), if_neg (by omega)])) (by omega)
          · refine v_goto F (tgt := 65) dX6_later_28 rfl ?_
            refine v_iinc F (q := 68) (z := ((i + 1 : Nat) : Int)) 0 [(3, VI ((i + 1 : Nat) : Int)), (2, VI th), (0, .ref (g 0)), (1, VI (codeF f))] dX6_later_65 rfl (by decide) (by omega) rfl rfl ?_
            refine v_goto F (tgt := 4) dX6_later_68 rfl ?_
            exact ih_4 th (i + 1) (by refine ⟨by omega, ?_⟩; first | (rw [lt1_no hf (by omega) (by unfold fallF; rw [if_pos (by first | exact Or.inl (by assumption) | exact Or.inr (by omega))])]; exact hv2) | exact lt1_a2 hf (by omega) hv2 (by assumption) (by assumption) (by unfold fallF; rw [if_neg (fun z => z.elim (fun z1 => by contradiction) (fun z2 => by omega)), if_pos (by omega)]) | exact lt1_a2 hf (by omega) hv2 (by assumption) (by assumption) (by unfold fallF; rw [if_neg (fun z => z.elim (fun z1 => by contradiction) (fun z2 => by omega)), if_neg (by omega)])) (by omega)
  exact L4_1 _ (codeF f) 0 (by exact ⟨by omega, code_cg (fun _ _ => by simp [lt1])⟩) (Nat.lt_succ_self _)
theorem hdX6_flat : yX6_flat.cls = RX6 ∧ yX6_flat.cls ≠ "java/lang/invoke/MethodHandle" ∧ yX6_flat.cls ≠ "java/lang/invoke/VarHandle" ∧ (parseMethodDescriptor yX6_flat.desc).map (fun d => d.parameters.length) = some 1 := by decide +kernel
set_option maxRecDepth 100000 in
set_option maxHeartbeats 4000000 in
theorem kX6_flat {l : Launch} (hst : l.stackTraces = false) {k : Nat → ClassId} {g : Nat → Nat} {S Y : Nat → Nat → Int} (hI : Inv S) {f : Nat → Int} (hf : D9 f) : v_Ci l k yX6_flat wsX6_flat ({ frames := 2, cells := 0, slots := 0, locals := 41 } : Room) [.ref (g 0), VI (codeF f)] (mw k g S Y) (fun a u => u = mw k g S Y ∧ a = flatN S f ∧ 0 ≤ a ∧ a ≤ 3) := by
  refine v_ofI (cc := cX6_flat) (nL := 4) (by decide +kernel) rfl hst (Nat.le_of_ble_eq_true rfl) (fun _ _ _ => rfl) (fun XX F ret => ?_)
  have hin6 : ∀ w ∈ wsX60, w ∈ wsX6_flat := by decide +kernel
  have b7 := hI.mc
  have b8 := hI.cc
  show V XX (mw k g S Y) 0 0 0 [(0, .ref (g 0)), (1, VI (codeF f))] []
  refine v_const F (q := 1) dX6_flat_0 rfl ?_
  refine v_istore_n F (q := 2) [(2, VI 0), (0, .ref (g 0)), (1, VI (codeF f))] dX6_flat_1 rfl (by decide) rfl rfl ?_
  refine v_const F (q := 3) dX6_flat_2 rfl ?_
  refine v_istore_n F (q := 4) [(3, VI 0), (2, VI 0), (0, .ref (g 0)), (1, VI (codeF f))] dX6_flat_3 rfl (by decide) rfl rfl ?_
  have L4_1 : ∀ (fu : Nat) (many : Int) (i : Nat), ((i : Int) ≤ S 0 7 ∧ many = cnt (fun m => decide (f m = 9)) i) → (S 0 7 - i).toNat < fu → V XX (mw k g S Y) 0 0 4 [(3, VI ((i : Nat) : Int)), (2, VI many), (0, .ref (g 0)), (1, VI (codeF f))] [] := by
    intro fu_4
    induction fu_4 with
    | zero => intros; omega
    | succ fu_4 ih_4 =>
      intro many i hv hm_4
      obtain ⟨hv1, hv2⟩ := hv
      have hn := cnt_nn (fun m => decide (f m = 9)) i
      refine v_iload_n F 0 (q := 5) dX6_flat_4 rfl rfl rfl ?_
      refine v_aload_n F 2 (q := 6) dX6_flat_5 rfl rfl rfl ?_
      refine v_get F (C := RX6) (T := TX6) (N := 25) (ci := 6) (v := VI (S 0 7)) 0 12 hin6 rfl mw_at0 (by decide) (by decide +kernel) rfl (q := 9) dX6_flat_6 rfl ?_
      have b_2 := And.intro (hI.sc 7 (by decide)) (hI.1 0 7 (by omega)).2
      refine v_icmp_ge F (tgt := 36) (q := 12) (by omega) (by omega) dX6_flat_9 rfl rfl (fun h_3 => ?_) (fun h_3 => ?_)
      · refine v_iload_n F 1 (q := 37) dX6_flat_36 rfl rfl rfl ?_
        exact ret _ _ _ _ _ _ (Nat.zero_le _) (Nat.zero_le _) dX6_flat_37 (⟨rfl, by rw [hv2, show i = mcn S from (by unfold mcn; omega)]; rfl, by omega, by omega⟩)
      · refine v_iload_n F 1 (q := 13) dX6_flat_12 rfl rfl rfl ?_
        refine v_iload_n F 3 (q := 14) dX6_flat_13 rfl rfl rfl ?_
        refine v_iload_n F 0 (q := 15) dX6_flat_14 rfl rfl rfl ?_
        refine v_callSi0 F (kX6_lean hst (k := k) (w := mw k g S Y) (f := f) hf (m := i) (by omega)) gX6_flat_X6_lean rfl hdX6_lean ⟨by decide, by decide⟩ rfl rfl (Nat.le_of_ble_eq_true rfl) ⟨(Nat.zero_le _), (Nat.zero_le _)⟩ (q := 18) dX6_flat_15 rfl ?_
        rintro a_4 _ ⟨rfl, ⟨h_4, hc_4⟩⟩
        refine v_bipush F (q := 20) dX6_flat_18 rfl rfl ?_
        refine v_icmp_ne F (tgt := 27) (q := 23) (by omega) (by omega) dX6_flat_20 rfl rfl (fun h_5 => ?_) (fun h_5 => ?_)
        · refine v_const F (q := 28) dX6_flat_27 rfl ?_
          refine v_iadd F (q := 29) dX6_flat_28 rfl ?_
          refine v_istore_n F (q := 30) [(2, VI (many + 0)), (3, VI ((i : Nat) : Int)), (0, .ref (g 0)), (1, VI (codeF f))] dX6_flat_29 rfl (by decide) rfl rfl ?_
          refine v_iinc F (q := 33) (z := ((i + 1 : Nat) : Int)) 1 [(3, VI ((i + 1 : Nat) : Int)), (2, VI (many + 0)), (0, .ref (g 0)), (1, VI (codeF f))] dX6_flat_30 rfl (by decide) (by omega) rfl rfl ?_
          refine v_goto F (tgt := 4) dX6_flat_33 rfl ?_
          exact ih_4 (many + 0) (i + 1) (by refine ⟨by omega, ?_⟩; rw [cnt_s, ← hv2]; simp; omega) (by omega)
        · refine v_const F (q := 24) dX6_flat_23 rfl ?_
          refine v_goto F (tgt := 28) dX6_flat_24 rfl ?_
          refine v_iadd F (q := 29) dX6_flat_28 rfl ?_
          refine v_istore_n F (q := 30) [(2, VI (many + 1)), (3, VI ((i : Nat) : Int)), (0, .ref (g 0)), (1, VI (codeF f))] dX6_flat_29 rfl (by decide) rfl rfl ?_
          refine v_iinc F (q := 33) (z := ((i + 1 : Nat) : Int)) 1 [(3, VI ((i + 1 : Nat) : Int)), (2, VI (many + 1)), (0, .ref (g 0)), (1, VI (codeF f))] dX6_flat_30 rfl (by decide) (by omega) rfl rfl ?_
          refine v_goto F (tgt := 4) dX6_flat_33 rfl ?_
          exact ih_4 (many + 1) (i + 1) (by refine ⟨by omega, ?_⟩; rw [cnt_s, ← hv2]; simp; omega) (by omega)
  exact L4_1 _ 0 0 (by exact ⟨by omega, rfl⟩) (Nat.lt_succ_self _)
theorem hdX6_pass : yX6_pass.cls = RX6 ∧ yX6_pass.cls ≠ "java/lang/invoke/MethodHandle" ∧ yX6_pass.cls ≠ "java/lang/invoke/VarHandle" ∧ (parseMethodDescriptor yX6_pass.desc).map (fun d => d.parameters.length) = some 1 := by decide +kernel
set_option maxRecDepth 100000 in
set_option maxHeartbeats 4000000 in
theorem kX6_pass {l : Launch} (hst : l.stackTraces = false) {k : Nat → ClassId} {g : Nat → Nat} {S Y : Nat → Nat → Int} (hI : Inv S) {a0 : Int} (g0 : R32 a0) : v_Ci l k yX6_pass wsX6_pass ({ frames := 3, cells := 0, slots := 0, locals := 64 } : Room) [.ref (g 0), VI a0] (mw k g S Y) (fun a u => ∃ Y9 : Nat → Nat → Int, Y9 0 0 = ePass a0 ∧ ((ePass a0 = 0 ∧ a = rPass S a0 ∧ u = mw k g (sPass S a0) Y9) ∨ (¬ ePass a0 = 0 ∧ u = mw k g S Y9))) := by
  refine v_ofI (cc := cX6_pass) (nL := 4) (by decide +kernel) rfl hst (Nat.le_of_ble_eq_true rfl) (fun _ _ _ => rfl) (fun XX F ret => ?_)
  have hin6 : ∀ w ∈ wsX60, w ∈ wsX6_pass := by decide +kernel
  have b7 := hI.mc
  have b8 := hI.cc
  show V XX (mw k g S Y) 0 0 0 [(0, .ref (g 0)), (1, VI a0)] []
  refine v_aload_n F 0 (q := 1) dX6_pass_0 rfl rfl rfl ?_
  refine v_const F (q := 2) dX6_pass_1 rfl ?_
  refine v_put F (C := RX6) (T := TX6) (N := 25) (ci := 6) (ty := .int) 0 0 (mw k g S (u2 Y 0 0 0)) hin6 tyX6 tyX6_ok nmX6 rfl mw_at0 (by decide) (by decide +kernel) rfl (by decide +kernel) rfl rfl (Nat.le_of_ble_eq_true rfl) (mw_thrown _) (q := 5) dX6_pass_2 rfl ?_
  refine v_iload_n F 1 (q := 6) dX6_pass_5 rfl rfl rfl ?_
  refine v_const F (q := 7) dX6_pass_6 rfl ?_
  refine v_bipush F (q := 9) dX6_pass_7 rfl rfl ?_
  refine v_callSi0 F (kX6_isBetween hst (k := k) (w := mw k g S (u2 Y 0 0 0)) (a0 := a0) (a1 := 1) (a2 := 50) (by omega) (by omega) (by omega)) gX6_pass_X6_isBetween rfl hdX6_isBetween ⟨by decide, by decide⟩ rfl rfl (Nat.le_of_ble_eq_true rfl) ⟨(Nat.zero_le _), (Nat.zero_le _)⟩ (q := 12) dX6_pass_9 rfl ?_
  rintro _ _ ⟨rfl, ⟨rfl, h_1⟩ | ⟨rfl, h_1⟩⟩
  · refine v_if_ne F (tgt := 21) (q := 15) (by omega) dX6_pass_12 rfl rfl (fun h_2 => ?_) (fun h_2 => absurd h_2 (by omega))
    refine v_aload_n F 0 (q := 22) dX6_pass_21 rfl rfl rfl ?_
    refine v_aload_n F 0 (q := 23) dX6_pass_22 rfl rfl rfl ?_
    refine v_get F (C := RX6) (T := TX6) (N := 25) (ci := 6) (v := VI (codeF (S 4))) 0 13 hin6 rfl mw_at0 (by decide) (by decide +kernel) rfl (q := 26) dX6_pass_23 rfl ?_
    refine v_callVi0 F (kX6_flat hst (k := k) (g := g) (S := S) (Y := (u2 Y 0 0 0)) hI (f := (S 4)) hI.lean3) gX6_pass_X6_flat rfl hdX6_flat ⟨by decide, by decide⟩ 0 mw_at0 rfl rfl rfl (Nat.le_of_ble_eq_true rfl) ⟨(Nat.zero_le _), (Nat.zero_le _)⟩ (q := 29) dX6_pass_26 rfl ?_
    rintro a_3 _ ⟨rfl, ⟨h_3, hc_3⟩⟩
    refine v_istore_n F (q := 30) [(2, VI a_3), (0, .ref (g 0)), (1, VI a0)] dX6_pass_29 rfl (by decide) rfl rfl ?_
    refine v_const F (q := 31) dX6_pass_30 rfl ?_
    refine v_istore_n F (q := 32) [(3, VI 0), (2, VI a_3), (0, .ref (g 0)), (1, VI a0)] dX6_pass_31 rfl (by decide) rfl rfl ?_
    have L32_4 : ∀ (fu : Nat) (kk : Nat), ((kk : Int) ≤ a0) → (a0 - kk).toNat < fu → V XX (mw k g (ur S 4 (lateF S kk)) (u2 Y 0 0 0)) 0 0 32 [(3, VI ((kk : Nat) : Int)), (2, VI a_3), (0, .ref (g 0)), (1, VI a0)] [] := by
      intro fu_32
      induction fu_32 with
      | zero => intros; omega
      | succ fu_32 ih_32 =>
        intro kk hv1 hm_32
        refine v_iload_n F 0 (q := 33) dX6_pass_32 rfl rfl rfl ?_
        refine v_iload_n F 3 (q := 34) dX6_pass_33 rfl rfl rfl ?_
        refine v_icmp_ge F (tgt := 55) (q := 37) (by omega) (by omega) dX6_pass_34 rfl rfl (fun h_5 => ?_) (fun h_5 => ?_)
        · refine v_aload_n F 2 (q := 56) dX6_pass_55 rfl rfl rfl ?_
          refine v_dup F (q := 57) dX6_pass_56 rfl rfl ?_
          refine v_get F (C := RX6) (T := TX6) (N := 25) (ci := 6) (v := VI (S 0 10)) 0 9 hin6 rfl mw_at0 (by decide) (by decide +kernel) rfl (q := 60) dX6_pass_57 rfl ?_
          refine v_iload_n F 3 (q := 61) dX6_pass_60 rfl rfl rfl ?_
          refine v_iadd F (q := 62) dX6_pass_61 rfl ?_
          refine v_put F (C := RX6) (T := TX6) (N := 25) (ci := 6) (ty := .int) 0 9 (mw k g (u2 (ur S 4 (lateF S kk)) 0 10 ((S 0 10) + a0)) (u2 Y 0 0 0)) hin6 tyX6 tyX6_ok nmX6 rfl mw_at0 (by decide) (by decide +kernel) rfl (by decide +kernel) rfl rfl (Nat.le_of_ble_eq_true rfl) (mw_mod9 _) (q := 65) dX6_pass_62 rfl ?_
          refine v_aload_n F 2 (q := 66) dX6_pass_65 rfl rfl rfl ?_
          refine v_aload_n F 2 (q := 67) dX6_pass_66 rfl rfl rfl ?_
          refine v_get F (C := RX6) (T := TX6) (N := 25) (ci := 6) (v := VI (codeF ((ur S 4 (lateF S kk)) 4))) 0 13 hin6 rfl mw_at0 (by decide) (by decide +kernel) rfl (q := 70) dX6_pass_67 rfl ?_
          refine v_callVi0 F (kX6_flat hst (k := k) (g := g) (S := (u2 (ur S 4 (lateF S kk)) 0 10 ((S 0 10) + a0))) (Y := (u2 Y 0 0 0)) (inv_cnt (inv_ur hI (late_ok hI kk)) (by decide) _) (f := ((ur S 4 (lateF S kk)) 4)) (fun o9 _ => (late_ok hI kk).1 o9)) gX6_pass_X6_flat rfl hdX6_flat ⟨by decide, by decide⟩ 0 mw_at0 rfl rfl rfl (Nat.le_of_ble_eq_true rfl) ⟨(Nat.zero_le _), (Nat.zero_le _)⟩ (q := 73) dX6_pass_70 rfl ?_
          rintro a_6 _ ⟨rfl, ⟨h_6, hc_6⟩⟩
          refine v_iload_n F 1 (q := 74) dX6_pass_73 rfl rfl rfl ?_
          refine v_isub F (q := 75) dX6_pass_74 rfl ?_
          exact ret _ _ _ _ _ _ (Nat.zero_le _) (Nat.zero_le _) dX6_pass_75 (⟨(u2 Y 0 0 0), by show (0 : Int) = _; unfold ePass; grind, Or.inl ⟨by unfold ePass; grind, by unfold rPass; rw [← show kk = a0.toNat from (by omega), show a_6 = flatN S (lateF S kk) from h_6]; omega, by unfold sPass; rw [← show kk = a0.toNat from (by omega)]; try rfl⟩⟩)
        · refine v_aload_n F 2 (q := 38) dX6_pass_37 rfl rfl rfl ?_
          refine v_aload_n F 2 (q := 39) dX6_pass_38 rfl rfl rfl ?_
          refine v_aload_n F 2 (q := 40) dX6_pass_39 rfl rfl rfl ?_
          refine v_get F (C := RX6) (T := TX6) (N := 25) (ci := 6) (v := VI (codeF (lateF S kk))) 0 13 hin6 rfl mw_at0 (by decide) (by decide +kernel) rfl (q := 43) dX6_pass_40 rfl ?_
          refine v_callVi0 F (kX6_later hst (k := k) (g := g) (S := (ur S 4 (lateF S kk))) (Y := (u2 Y 0 0 0)) (inv_ur hI (late_ok hI kk)) (f := (lateF S kk)) (fun o9 _ => (late_ok hI kk).1 o9)) gX6_pass_X6_later rfl hdX6_later ⟨by decide, by decide⟩ 0 mw_at0 rfl rfl rfl (Nat.le_of_ble_eq_true rfl) ⟨(Nat.zero_le _), (Nat.zero_le _)⟩ (q := 46) dX6_pass_43 rfl ?_
          rintro a_7 _ ⟨rfl, ⟨h_7, hc_7⟩⟩
          refine v_put F (C := RX6) (T := TX6) (N := 25) (ci := 6) (ty := .int) 0 13 (mw k g (ur S 4 (lateF S (kk + 1))) (u2 Y 0 0 0)) hin6 tyX6 tyX6_ok nmX6 rfl mw_at0 (by decide) (by decide +kernel) rfl (by decide +kernel) rfl rfl (Nat.le_of_ble_eq_true rfl) (mw_leans (lateF S (kk + 1)) _ (by rw [show a_7 = codeF (lt1 S (lateF S kk) (mcn S)) from h_7]; exact code_cg (fun o9 ho9 => late_s hI kk o9 ho9))) (q := 49) dX6_pass_46 rfl ?_
          refine v_iinc F (q := 52) (z := ((kk + 1 : Nat) : Int)) 0 [(3, VI ((kk + 1 : Nat) : Int)), (2, VI a_3), (0, .ref (g 0)), (1, VI a0)] dX6_pass_49 rfl (by decide) (by omega) rfl rfl ?_
          refine v_goto F (tgt := 32) dX6_pass_52 rfl ?_
          exact ih_32 (kk + 1) (by omega) (by omega)
    refine v_weq (mw_l0 (lateF S 0) (code_cg (fun o9 _ => late_0 hI o9))) ?_
    exact L32_4 _ 0 (by omega) (Nat.lt_succ_self _)
  · refine v_if_ne F (tgt := 21) (q := 15) R32_0 dX6_pass_12 rfl rfl (fun h_8 => absurd h_8 (by omega)) (fun h_8 => ?_)
    refine v_aload_n F 0 (q := 16) dX6_pass_15 rfl rfl rfl ?_
    refine v_const F (q := 17) dX6_pass_16 rfl ?_
    refine v_callVi0 F (kX6_no hst (k := k) (g := g) (S := S) (Y := (u2 Y 0 0 0)) hI (a0 := 1)) gX6_pass_X6_no rfl hdX6_no ⟨by decide, by decide⟩ 0 mw_at0 rfl rfl rfl (Nat.le_of_ble_eq_true rfl) ⟨(Nat.zero_le _), (Nat.zero_le _)⟩ (q := 20) dX6_pass_17 rfl ?_
    rintro a_9 _ ⟨rfl, rfl⟩
    exact ret _ _ _ _ _ _ (Nat.zero_le _) (Nat.zero_le _) dX6_pass_20 (⟨(u2 (u2 Y 0 0 0) 0 0 1), by show (1 : Int) = _; unfold ePass; grind, Or.inr ⟨by unfold ePass; grind, rfl⟩⟩)
theorem hdX6_falls : yX6_falls.cls = RX6 ∧ yX6_falls.cls ≠ "java/lang/invoke/MethodHandle" ∧ yX6_falls.cls ≠ "java/lang/invoke/VarHandle" ∧ (parseMethodDescriptor yX6_falls.desc).map (fun d => d.parameters.length) = some 0 := by decide +kernel
set_option maxRecDepth 100000 in
set_option maxHeartbeats 4000000 in
theorem kX6_falls {l : Launch} (hst : l.stackTraces = false) {k : Nat → ClassId} {g : Nat → Nat} {S Y : Nat → Nat → Int} (hI : Inv S) : v_Ci l k yX6_falls wsX6_falls ({ frames := 3, cells := 0, slots := 0, locals := 64 } : Room) [.ref (g 0)] (mw k g S Y) (fun a u => ∃ Y9 : Nat → Nat → Int, Y9 0 0 = 0 ∧ u = mw k g S Y9 ∧ FallsP S a) := by
  refine v_ofI (cc := cX6_falls) (nL := 3) (by decide +kernel) rfl hst (Nat.le_of_ble_eq_true rfl) (fun _ _ _ => rfl) (fun XX F ret => ?_)
  have hin6 : ∀ w ∈ wsX60, w ∈ wsX6_falls := by decide +kernel
  have b7 := hI.mc
  have b8 := hI.cc
  show V XX (mw k g S Y) 0 0 0 [(0, .ref (g 0))] []
  refine v_aload_n F 0 (q := 1) dX6_falls_0 rfl rfl rfl ?_
  refine v_const F (q := 2) dX6_falls_1 rfl ?_
  refine v_put F (C := RX6) (T := TX6) (N := 25) (ci := 6) (ty := .int) 0 0 (mw k g S (u2 Y 0 0 0)) hin6 tyX6 tyX6_ok nmX6 rfl mw_at0 (by decide) (by decide +kernel) rfl (by decide +kernel) rfl rfl (Nat.le_of_ble_eq_true rfl) (mw_thrown _) (q := 5) dX6_falls_2 rfl ?_
  refine v_aload_n F 0 (q := 6) dX6_falls_5 rfl rfl rfl ?_
  refine v_get F (C := RX6) (T := TX6) (N := 25) (ci := 6) (v := VI (codeF (S 4))) 0 13 hin6 rfl mw_at0 (by decide) (by decide +kernel) rfl (q := 9) dX6_falls_6 rfl ?_
  refine v_istore_n F (q := 10) [(1, VI (codeF (S 4))), (0, .ref (g 0))] dX6_falls_9 rfl (by decide) rfl rfl ?_
  refine v_const F (q := 11) dX6_falls_10 rfl ?_
  refine v_istore_n F (q := 12) [(2, VI 0), (1, VI (codeF (S 4))), (0, .ref (g 0))] dX6_falls_11 rfl (by decide) rfl rfl ?_
  have L12_1 : ∀ (fu : Nat) (th : Int) (kk : Nat), (kk ≤ 51 ∧ th = codeF (lateF S kk) ∧ ∀ n : Nat, n < kk → ¬ afB S n) → 51 - kk < fu → V XX (mw k g S (u2 Y 0 0 0)) 0 0 12 [(2, VI ((kk : Nat) : Int)), (1, VI th), (0, .ref (g 0))] [] := by
    intro fu_12
    induction fu_12 with
    | zero => intros; omega
    | succ fu_12 ih_12 =>
      intro th kk hv hm_12
      obtain ⟨hv1, hv2, hv3⟩ := hv
      refine v_iload_n F 0 (q := 13) dX6_falls_12 rfl rfl rfl ?_
      refine v_bipush F (q := 15) dX6_falls_13 rfl rfl ?_
      refine v_icmp_gt F (tgt := 44) (q := 18) (by omega) (by omega) dX6_falls_15 rfl rfl (fun h_2 => ?_) (fun h_2 => ?_)
      · refine v_const F (q := 45) dX6_falls_44 rfl ?_
        exact ret _ _ _ _ _ _ (Nat.zero_le _) (Nat.zero_le _) dX6_falls_45 (⟨(u2 Y 0 0 0), rfl, rfl, Or.inl ⟨rfl, fun n hn => hv3 n (by omega)⟩⟩)
      · refine v_aload_n F 2 (q := 19) dX6_falls_18 rfl rfl rfl ?_
        refine v_iload_n F 1 (q := 20) dX6_falls_19 rfl rfl rfl ?_
        refine v_cast (b := codeF (lateF S kk)) hv2 ?_
        refine v_callVi0 F (kX6_flat hst (k := k) (g := g) (S := S) (Y := (u2 Y 0 0 0)) hI (f := (lateF S kk)) (fun o9 _ => (late_ok hI kk).1 o9)) gX6_falls_X6_flat rfl hdX6_flat ⟨by decide, by decide⟩ 0 mw_at0 rfl rfl rfl (Nat.le_of_ble_eq_true rfl) ⟨(Nat.zero_le _), (Nat.zero_le _)⟩ (q := 23) dX6_falls_20 rfl ?_
        rintro a_3 _ ⟨rfl, ⟨h_3, hc_3⟩⟩
        refine v_aload_n F 2 (q := 24) dX6_falls_23 rfl rfl rfl ?_
        refine v_get F (C := RX6) (T := TX6) (N := 25) (ci := 6) (v := VI (S 0 7)) 0 12 hin6 rfl mw_at0 (by decide) (by decide +kernel) rfl (q := 27) dX6_falls_24 rfl ?_
        have b_4 := And.intro (hI.sc 7 (by decide)) (hI.1 0 7 (by omega)).2
        refine v_icmp_ne F (tgt := 32) (q := 30) (by omega) (by omega) dX6_falls_27 rfl rfl (fun h_5 => ?_) (fun h_5 => ?_)
        · refine v_aload_n F 2 (q := 33) dX6_falls_32 rfl rfl rfl ?_
          refine v_iload_n F 1 (q := 34) dX6_falls_33 rfl rfl rfl ?_
          refine v_cast (b := codeF (lateF S kk)) hv2 ?_
          refine v_callVi0 F (kX6_later hst (k := k) (g := g) (S := S) (Y := (u2 Y 0 0 0)) hI (f := (lateF S kk)) (fun o9 _ => (late_ok hI kk).1 o9)) gX6_falls_X6_later rfl hdX6_later ⟨by decide, by decide⟩ 0 mw_at0 rfl rfl rfl (Nat.le_of_ble_eq_true rfl) ⟨(Nat.zero_le _), (Nat.zero_le _)⟩ (q := 37) dX6_falls_34 rfl ?_
          rintro a_6 _ ⟨rfl, ⟨h_6, hc_6⟩⟩
          refine v_istore_n F (q := 38) [(1, VI a_6), (2, VI ((kk : Nat) : Int)), (0, .ref (g 0))] dX6_falls_37 rfl (by decide) rfl rfl ?_
          refine v_iinc F (q := 41) (z := ((kk + 1 : Nat) : Int)) 1 [(2, VI ((kk + 1 : Nat) : Int)), (1, VI a_6), (0, .ref (g 0))] dX6_falls_38 rfl (by decide) (by omega) rfl rfl ?_
          refine v_goto F (tgt := 12) dX6_falls_41 rfl ?_
          exact ih_12 a_6 (kk + 1) (by exact ⟨by omega, by rw [show a_6 = codeF (lt1 S (lateF S kk) (mcn S)) from h_6]; exact code_cg (fun o9 ho9 => (late_s hI kk o9 ho9).symm), fun j hj => (Nat.lt_or_ge j kk).elim (fun q => hv3 j q) (fun q => by obtain rfl : j = kk := (by omega); exact fun z => absurd ((af_iff hI j).mp z) (by omega))⟩) (by omega)
        · refine v_iload_n F 0 (q := 31) dX6_falls_30 rfl rfl rfl ?_
          exact ret _ _ _ _ _ _ (Nat.zero_le _) (Nat.zero_le _) dX6_falls_31 (⟨(u2 Y 0 0 0), rfl, rfl, Or.inr ⟨kk, rfl, by omega, (af_iff hI kk).mpr (by omega), hv3⟩⟩)
  exact L12_1 _ (codeF (S 4)) 0 (by exact ⟨by omega, code_cg (fun o9 _ => (late_0 hI o9).symm), fun j hj => absurd hj (Nat.not_lt_zero j)⟩) (Nat.lt_succ_self _)
theorem hdX6_mean : yX6_mean.cls = RX6 ∧ yX6_mean.cls ≠ "java/lang/invoke/MethodHandle" ∧ yX6_mean.cls ≠ "java/lang/invoke/VarHandle" ∧ (parseMethodDescriptor yX6_mean.desc).map (fun d => d.parameters.length) = some 0 := by decide +kernel
set_option maxRecDepth 100000 in
set_option maxHeartbeats 4000000 in
theorem kX6_mean {l : Launch} (hst : l.stackTraces = false) {k : Nat → ClassId} {g : Nat → Nat} {S Y : Nat → Nat → Int} (hI : Inv S) : v_Cd l k yX6_mean wsX6_mean ({ frames := 2, cells := 0, slots := 0, locals := 41 } : Room) [.ref (g 0)] (mw k g S Y) (fun a u => ∃ Y9 : Nat → Nat → Int, Y9 0 0 = 0 ∧ u = mw k g S Y9 ∧ a = meanV S) := by
  refine v_ofD (cc := cX6_mean) (nL := 3) (by decide +kernel) rfl hst (Nat.le_of_ble_eq_true rfl) (fun XX F ret => ?_)
  have hin6 : ∀ w ∈ wsX60, w ∈ wsX6_mean := by decide +kernel
  have b7 := hI.mc
  have b8 := hI.cc
  show V XX (mw k g S Y) 0 0 0 [(0, .ref (g 0))] []
  refine v_aload_n F 0 (q := 1) dX6_mean_0 rfl rfl rfl ?_
  refine v_const F (q := 2) dX6_mean_1 rfl ?_
  refine v_put F (C := RX6) (T := TX6) (N := 25) (ci := 6) (ty := .int) 0 0 (mw k g S (u2 Y 0 0 0)) hin6 tyX6 tyX6_ok nmX6 rfl mw_at0 (by decide) (by decide +kernel) rfl (by decide +kernel) rfl rfl (Nat.le_of_ble_eq_true rfl) (mw_thrown _) (q := 5) dX6_mean_2 rfl ?_
  refine v_const F (q := 6) dX6_mean_5 rfl ?_
  refine v_istore_n F (q := 7) [(1, VI 0), (0, .ref (g 0))] dX6_mean_6 rfl (by decide) rfl rfl ?_
  refine v_const F (q := 8) dX6_mean_7 rfl ?_
  refine v_istore_n F (q := 9) [(2, VI 0), (1, VI 0), (0, .ref (g 0))] dX6_mean_8 rfl (by decide) rfl rfl ?_
  have L9_1 : ∀ (fu : Nat) (sm : Int) (m : Nat), ((m : Int) ≤ S 0 7 ∧ sm = sumL (S 4) m ∧ 0 ≤ sm ∧ sm ≤ 9 * (m : Int)) → (S 0 7 - m).toNat < fu → V XX (mw k g S (u2 Y 0 0 0)) 0 0 9 [(2, VI ((m : Nat) : Int)), (1, VI sm), (0, .ref (g 0))] [] := by
    intro fu_9
    induction fu_9 with
    | zero => intros; omega
    | succ fu_9 ih_9 =>
      intro sm m hv hm_9
      obtain ⟨hv1, hv2, hv3, hv4⟩ := hv
      refine v_iload_n F 0 (q := 10) dX6_mean_9 rfl rfl rfl ?_
      refine v_aload_n F 2 (q := 11) dX6_mean_10 rfl rfl rfl ?_
      refine v_get F (C := RX6) (T := TX6) (N := 25) (ci := 6) (v := VI (S 0 7)) 0 12 hin6 rfl mw_at0 (by decide) (by decide +kernel) rfl (q := 14) dX6_mean_11 rfl ?_
      have b_2 := And.intro (hI.sc 7 (by decide)) (hI.1 0 7 (by omega)).2
      refine v_icmp_ge F (tgt := 34) (q := 17) (by omega) (by omega) dX6_mean_14 rfl rfl (fun h_3 => ?_) (fun h_3 => ?_)
      · have hsm : sm = sumL (S 4) (mcn S) := (by rw [hv2, show m = mcn S from (by unfold mcn; omega)])
        subst hsm
        refine v_aload_n F 2 (q := 35) dX6_mean_34 rfl rfl rfl ?_
        refine v_get F (C := RX6) (T := TX6) (N := 25) (ci := 6) (v := VI (S 0 7)) 0 12 hin6 rfl mw_at0 (by decide) (by decide +kernel) rfl (q := 38) dX6_mean_35 rfl ?_
        have b_4 := And.intro (hI.sc 7 (by decide)) (hI.1 0 7 (by omega)).2
        refine v_if_ne F (tgt := 45) (q := 41) (by omega) dX6_mean_38 rfl rfl (fun h_5 => ?_) (fun h_5 => ?_)
        · refine v_iload_n F 1 (q := 46) dX6_mean_45 rfl rfl rfl ?_
          refine v_i2d F (q := 47) dX6_mean_46 rfl ?_
          refine v_aload_n F 2 (q := 48) dX6_mean_47 rfl rfl rfl ?_
          refine v_get F (C := RX6) (T := TX6) (N := 25) (ci := 6) (v := VI (S 0 7)) 0 12 hin6 rfl mw_at0 (by decide) (by decide +kernel) rfl (q := 51) dX6_mean_48 rfl ?_
          have b_6 := And.intro (hI.sc 7 (by decide)) (hI.1 0 7 (by omega)).2
          refine v_i2d F (q := 52) dX6_mean_51 rfl ?_
          refine v_ddiv F (q := 53) (ddiv_ok (by omega) (by omega)) dX6_mean_52 rfl ?_
          exact ret _ _ _ _ _ _ (Nat.zero_le _) (Nat.zero_le _) dX6_mean_53 (⟨(u2 Y 0 0 0), rfl, rfl, by unfold meanV; rw [if_neg (by omega)]⟩)
        · refine v_dconst0 F (q := 42) dX6_mean_41 rfl ?_
          refine v_goto F (tgt := 53) dX6_mean_42 rfl ?_
          exact ret _ _ _ _ _ _ (Nat.zero_le _) (Nat.zero_le _) dX6_mean_53 (⟨(u2 Y 0 0 0), rfl, rfl, by unfold meanV; rw [if_pos (by omega)]⟩)
      · refine v_iload_n F 1 (q := 18) dX6_mean_17 rfl rfl rfl ?_
        refine v_aload_n F 2 (q := 19) dX6_mean_18 rfl rfl rfl ?_
        refine v_get F (C := RX6) (T := TX6) (N := 25) (ci := 6) (v := VI (codeF (S 4))) 0 13 hin6 rfl mw_at0 (by decide) (by decide +kernel) rfl (q := 22) dX6_mean_19 rfl ?_
        refine v_iload_n F 0 (q := 23) dX6_mean_22 rfl rfl rfl ?_
        refine v_callSi0 F (kX6_lean hst (k := k) (w := mw k g S (u2 Y 0 0 0)) (f := (S 4)) hI.lean3 (m := m) (by omega)) gX6_mean_X6_lean rfl hdX6_lean ⟨by decide, by decide⟩ rfl rfl (Nat.le_of_ble_eq_true rfl) ⟨(Nat.zero_le _), (Nat.zero_le _)⟩ (q := 26) dX6_mean_23 rfl ?_
        rintro a_7 _ ⟨rfl, ⟨h_7, hc_7⟩⟩
        refine v_iadd F (q := 27) dX6_mean_26 rfl ?_
        refine v_istore_n F (q := 28) [(1, VI (sm + a_7)), (2, VI ((m : Nat) : Int)), (0, .ref (g 0))] dX6_mean_27 rfl (by decide) rfl rfl ?_
        refine v_iinc F (q := 31) (z := ((m + 1 : Nat) : Int)) 1 [(2, VI ((m + 1 : Nat) : Int)), (1, VI (sm + a_7)), (0, .ref (g 0))] dX6_mean_28 rfl (by decide) (by omega) rfl rfl ?_
        refine v_goto F (tgt := 9) dX6_mean_31 rfl ?_
        exact ih_9 (sm + a_7) (m + 1) (by exact ⟨by omega, by rw [sumL_s, ← hv2]; omega, by omega, by omega⟩) (by omega)
  exact L9_1 _ 0 0 (by exact ⟨by omega, rfl, by omega, by omega⟩) (Nat.lt_succ_self _)
theorem hdX6_pull : yX6_pull.cls = RX6 ∧ yX6_pull.cls ≠ "java/lang/invoke/MethodHandle" ∧ yX6_pull.cls ≠ "java/lang/invoke/VarHandle" ∧ (parseMethodDescriptor yX6_pull.desc).map (fun d => d.parameters.length) = some 1 := by decide +kernel
set_option maxRecDepth 100000 in
set_option maxHeartbeats 4000000 in
theorem kX6_pull {l : Launch} (hst : l.stackTraces = false) {k : Nat → ClassId} {g : Nat → Nat} {S Y : Nat → Nat → Int} (hI : Inv S) {a0 : Int} (g0 : R32 a0) : v_Ci l k yX6_pull wsX6_pull ({ frames := 6, cells := 0, slots := 0, locals := 132 } : Room) [.ref (g 0), VI a0] (mw k g S Y) (fun a u => ∃ Y9 : Nat → Nat → Int, Y9 0 0 = ePull S a0 ∧ ((ePull S a0 = 0 ∧ a = rPull S a0.toNat ∧ u = mw k g (sPull S a0.toNat) Y9) ∨ (¬ ePull S a0 = 0 ∧ u = mw k g S Y9))) := by
  refine v_ofI (cc := cX6_pull) (nL := 3) (by decide +kernel) rfl hst (Nat.le_of_ble_eq_true rfl) (fun _ _ _ => rfl) (fun XX F ret => ?_)
  have hin6 : ∀ w ∈ wsX60, w ∈ wsX6_pull := by decide +kernel
  have b7 := hI.mc
  have b8 := hI.cc
  show V XX (mw k g S Y) 0 0 0 [(0, .ref (g 0)), (1, VI a0)] []
  refine v_aload_n F 0 (q := 1) dX6_pull_0 rfl rfl rfl ?_
  refine v_const F (q := 2) dX6_pull_1 rfl ?_
  refine v_put F (C := RX6) (T := TX6) (N := 25) (ci := 6) (ty := .int) 0 0 (mw k g S (u2 Y 0 0 0)) hin6 tyX6 tyX6_ok nmX6 rfl mw_at0 (by decide) (by decide +kernel) rfl (by decide +kernel) rfl rfl (Nat.le_of_ble_eq_true rfl) (mw_thrown _) (q := 5) dX6_pull_2 rfl ?_
  refine v_aload_n F 0 (q := 6) dX6_pull_5 rfl rfl rfl ?_
  refine v_iload_n F 1 (q := 7) dX6_pull_6 rfl rfl rfl ?_
  refine v_callVi0 F (kX6_isThread hst (k := k) (g := g) (S := S) (Y := (u2 Y 0 0 0)) hI (a0 := a0) (by omega)) gX6_pull_X6_isThread rfl hdX6_isThread ⟨by decide, by decide⟩ 0 mw_at0 rfl rfl rfl (Nat.le_of_ble_eq_true rfl) ⟨(Nat.zero_le _), (Nat.zero_le _)⟩ (q := 10) dX6_pull_7 rfl ?_
  rintro _ _ ⟨rfl, ⟨rfl, h_1⟩ | ⟨rfl, h_1⟩⟩
  · refine v_if_ne F (tgt := 19) (q := 13) (by omega) dX6_pull_10 rfl rfl (fun h_2 => ?_) (fun h_2 => absurd h_2 (by omega))
    refine v_aload_n F 0 (q := 20) dX6_pull_19 rfl rfl rfl ?_
    refine v_get F (C := RX6) (T := TX6) (N := 25) (ci := 6) (v := .ref (g 8)) 0 22 hin6 rfl mw_at0 (by decide) (by decide +kernel) rfl (q := 23) dX6_pull_20 rfl ?_
    refine v_iload_n F 1 (q := 24) dX6_pull_23 rfl rfl rfl ?_
    refine v_iald F (j := a0.toNat) 8 mw_at8 (by omega) (by omega) (by decide) (q := 25) dX6_pull_24 rfl ?_
    have b_3 := hI.st (a0.toNat)
    refine v_if_eq F (tgt := 34) (q := 28) (by omega) dX6_pull_25 rfl rfl (fun h_4 => ?_) (fun h_4 => ?_)
    · refine v_aload_n F 0 (q := 35) dX6_pull_34 rfl rfl rfl ?_
      refine v_aload_n F 0 (q := 36) dX6_pull_35 rfl rfl rfl ?_
      refine v_get F (C := RX6) (T := TX6) (N := 25) (ci := 6) (v := VI (codeF (S 4))) 0 13 hin6 rfl mw_at0 (by decide) (by decide +kernel) rfl (q := 39) dX6_pull_36 rfl ?_
      refine v_iload_n F 1 (q := 40) dX6_pull_39 rfl rfl rfl ?_
      refine v_steq (st9 := [VI ((a0.toNat : Nat) : Int), VI (codeF (S 4)), .ref (g 0)]) (by rw [show ((a0.toNat : Nat) : Int) = a0 from (by omega)]) ?_
      refine v_callVi0 F (kX6_behind hst (k := k) (g := g) (S := S) (Y := (u2 Y 0 0 0)) hI (f := (S 4)) hI.lean3 (t := a0.toNat) (by omega)) gX6_pull_X6_behind rfl hdX6_behind ⟨by decide, by decide⟩ 0 mw_at0 rfl rfl rfl (Nat.le_of_ble_eq_true rfl) ⟨(Nat.zero_le _), (Nat.zero_le _)⟩ (q := 43) dX6_pull_40 rfl ?_
      rintro a_5 _ ⟨rfl, ⟨h_5, hc_5⟩⟩
      refine v_istore_n F (q := 44) [(2, VI a_5), (0, .ref (g 0)), (1, VI a0)] dX6_pull_43 rfl (by decide) rfl rfl ?_
      refine v_iload_n F 0 (q := 45) dX6_pull_44 rfl rfl rfl ?_
      refine v_if_lt F (tgt := 77) (q := 48) (by omega) dX6_pull_45 rfl rfl (fun h_6 => ?_) (fun h_6 => ?_)
      · refine v_aload_n F 1 (q := 78) dX6_pull_77 rfl rfl rfl ?_
        refine v_dup F (q := 79) dX6_pull_78 rfl rfl ?_
        refine v_get F (C := RX6) (T := TX6) (N := 25) (ci := 6) (v := VI (S 0 12)) 0 11 hin6 rfl mw_at0 (by decide) (by decide +kernel) rfl (q := 82) dX6_pull_79 rfl ?_
        refine v_const F (q := 83) dX6_pull_82 rfl ?_
        refine v_iadd F (q := 84) dX6_pull_83 rfl ?_
        refine v_put F (C := RX6) (T := TX6) (N := 25) (ci := 6) (ty := .int) 0 11 (mw k g (u2 S 0 12 ((S 0 12) + 1)) (u2 Y 0 0 0)) hin6 tyX6 tyX6_ok nmX6 rfl mw_at0 (by decide) (by decide +kernel) rfl (by decide +kernel) rfl rfl (Nat.le_of_ble_eq_true rfl) (mw_mod11 _) (q := 87) dX6_pull_84 rfl ?_
        refine v_iload_n F 0 (q := 88) dX6_pull_87 rfl rfl rfl ?_
        refine v_const F (q := 89) dX6_pull_88 rfl ?_
        refine v_icmp_eq F (tgt := 118) (q := 92) (by omega) (by omega) dX6_pull_89 rfl rfl (fun h_7 => ?_) (fun h_7 => ?_)
        · refine v_iload_n F 0 (q := 119) dX6_pull_118 rfl rfl rfl ?_
          exact ret _ _ _ _ _ _ (Nat.zero_le _) (Nat.zero_le _) dX6_pull_119 (⟨(u2 Y 0 0 0), by show (0 : Int) = _; unfold ePull; grind, Or.inl ⟨by unfold ePull; grind, by unfold rPull; rw [if_neg (by rw [pull_hn hI (t := a0.toNat) (by omega)]; omega), pull_hn hI (t := a0.toNat) (by omega)]; assumption, by unfold sPull; rw [if_neg (by rw [pull_hn hI (t := a0.toNat) (by omega)]; omega), if_pos (by rw [pull_hn hI (t := a0.toNat) (by omega)]; omega)]⟩⟩)
        · refine v_aload_n F 1 (q := 93) dX6_pull_92 rfl rfl rfl ?_
          refine v_get F (C := RX6) (T := TX6) (N := 25) (ci := 6) (v := .ref (g 7)) 0 21 hin6 rfl mw_at0 (by decide) (by decide +kernel) rfl (q := 96) dX6_pull_93 rfl ?_
          refine v_iload_n F 2 (q := 97) dX6_pull_96 rfl rfl rfl ?_
          refine v_dup2 F (q := 98) dX6_pull_97 rfl rfl rfl ?_
          refine v_iald F (j := a0.toNat) 7 mw_at7 (by omega) (by omega) (by decide) (q := 99) dX6_pull_98 rfl ?_
          refine v_cast (b := S 7 (a0.toNat)) (by first | rfl | (simp [u2, ur]; done) | grind [u2, ur]) ?_
          have b_8 := And.intro (hI.pos 7 (a0.toNat) (by omega) (by omega)) (hI.1 7 (a0.toNat) (by omega)).2
          refine v_const F (q := 100) dX6_pull_99 rfl ?_
          refine v_isub F (q := 101) dX6_pull_100 rfl ?_
          refine v_iast F (j := a0.toNat) 7 (mw k g (u2 (u2 S 0 12 ((S 0 12) + 1)) 7 (a0.toNat) ((S 7 (a0.toNat)) - 1)) (u2 Y 0 0 0)) mw_at7 (by omega) (by omega) (by decide) (mw_row7 (a0.toNat) _) (q := 102) dX6_pull_101 rfl ?_
          refine v_aload_n F 1 (q := 103) dX6_pull_102 rfl rfl rfl ?_
          refine v_get F (C := RX6) (T := TX6) (N := 25) (ci := 6) (v := .ref (g 7)) 0 21 hin6 rfl mw_at0 (by decide) (by decide +kernel) rfl (q := 106) dX6_pull_103 rfl ?_
          refine v_iload_n F 2 (q := 107) dX6_pull_106 rfl rfl rfl ?_
          refine v_iald F (j := a0.toNat) 7 mw_at7 (by omega) (by omega) (by decide) (q := 108) dX6_pull_107 rfl ?_
          refine v_cast (b := (S 7 (a0.toNat)) - 1) (by first | rfl | (simp [u2, ur]; done) | grind [u2, ur]) ?_
          refine v_if_ne F (tgt := 118) (q := 111) (by omega) dX6_pull_108 rfl rfl (fun h_9 => ?_) (fun h_9 => ?_)
          · refine v_iload_n F 0 (q := 119) dX6_pull_118 rfl rfl rfl ?_
            exact ret _ _ _ _ _ _ (Nat.zero_le _) (Nat.zero_le _) dX6_pull_119 (⟨(u2 Y 0 0 0), by show (0 : Int) = _; unfold ePull; grind, Or.inl ⟨by unfold ePull; grind, by unfold rPull; rw [if_neg (by rw [pull_hn hI (t := a0.toNat) (by omega)]; omega), pull_hn hI (t := a0.toNat) (by omega)]; assumption, by unfold sPull; rw [if_neg (by rw [pull_hn hI (t := a0.toNat) (by omega)]; omega), if_neg (by rw [pull_hn hI (t := a0.toNat) (by omega)]; omega)]; unfold sWear; rw [if_neg (by show ¬ S 7 a0.toNat - 1 = 0; first | assumption | omega)]; rfl⟩⟩)
          · refine v_aload_n F 1 (q := 112) dX6_pull_111 rfl rfl rfl ?_
            refine v_get F (C := RX6) (T := TX6) (N := 25) (ci := 6) (v := .ref (g 8)) 0 22 hin6 rfl mw_at0 (by decide) (by decide +kernel) rfl (q := 115) dX6_pull_112 rfl ?_
            refine v_iload_n F 2 (q := 116) dX6_pull_115 rfl rfl rfl ?_
            refine v_const F (q := 117) dX6_pull_116 rfl ?_
            refine v_iast F (j := a0.toNat) 8 (mw k g (u2 (u2 (u2 S 0 12 ((S 0 12) + 1)) 7 (a0.toNat) ((S 7 (a0.toNat)) - 1)) 8 (a0.toNat) 2) (u2 Y 0 0 0)) mw_at8 (by omega) (by omega) (by decide) (mw_row8 (a0.toNat) _) (q := 118) dX6_pull_117 rfl ?_
            refine v_iload_n F 0 (q := 119) dX6_pull_118 rfl rfl rfl ?_
            exact ret _ _ _ _ _ _ (Nat.zero_le _) (Nat.zero_le _) dX6_pull_119 (⟨(u2 Y 0 0 0), by show (0 : Int) = _; unfold ePull; grind, Or.inl ⟨by unfold ePull; grind, by unfold rPull; rw [if_neg (by rw [pull_hn hI (t := a0.toNat) (by omega)]; omega), pull_hn hI (t := a0.toNat) (by omega)]; assumption, by unfold sPull; rw [if_neg (by rw [pull_hn hI (t := a0.toNat) (by omega)]; omega), if_neg (by rw [pull_hn hI (t := a0.toNat) (by omega)]; omega)]; unfold sWear; rw [if_pos (by show S 7 a0.toNat - 1 = 0; first | assumption | omega)]; rfl⟩⟩)
      · refine v_aload_n F 1 (q := 49) dX6_pull_48 rfl rfl rfl ?_
        refine v_iload_n F 0 (q := 50) dX6_pull_49 rfl rfl rfl ?_
        refine v_put F (C := RX6) (T := TX6) (N := 25) (ci := 6) (ty := .int) 0 13 (mw k g (ur S 4 (raiseF S (S 5 a0.toNat).toNat (S 4))) (u2 Y 0 0 0)) hin6 tyX6 tyX6_ok nmX6 rfl mw_at0 (by decide) (by decide +kernel) rfl (by decide +kernel) rfl rfl (Nat.le_of_ble_eq_true rfl) (mw_leans (raiseF S (S 5 a0.toNat).toNat (S 4)) _ (by rw [show a_5 = behF S (S 4) a0.toNat from by assumption]; exact (beh_ge (by omega)).1.symm)) (q := 53) dX6_pull_50 rfl ?_
        refine v_aload_n F 1 (q := 54) dX6_pull_53 rfl rfl rfl ?_
        refine v_dup F (q := 55) dX6_pull_54 rfl rfl ?_
        refine v_get F (C := RX6) (T := TX6) (N := 25) (ci := 6) (v := VI (S 0 11)) 0 10 hin6 rfl mw_at0 (by decide) (by decide +kernel) rfl (q := 58) dX6_pull_55 rfl ?_
        refine v_const F (q := 59) dX6_pull_58 rfl ?_
        refine v_iadd F (q := 60) dX6_pull_59 rfl ?_
        refine v_put F (C := RX6) (T := TX6) (N := 25) (ci := 6) (ty := .int) 0 10 (mw k g (u2 (ur S 4 (raiseF S (S 5 a0.toNat).toNat (S 4))) 0 11 ((S 0 11) + 1)) (u2 Y 0 0 0)) hin6 tyX6 tyX6_ok nmX6 rfl mw_at0 (by decide) (by decide +kernel) rfl (by decide +kernel) rfl rfl (Nat.le_of_ble_eq_true rfl) (mw_mod10 _) (q := 63) dX6_pull_60 rfl ?_
        refine v_aload_n F 1 (q := 64) dX6_pull_63 rfl rfl rfl ?_
        refine v_get F (C := RX6) (T := TX6) (N := 25) (ci := 6) (v := VI (codeF ((ur S 4 (raiseF S (S 5 a0.toNat).toNat (S 4))) 4))) 0 13 hin6 rfl mw_at0 (by decide) (by decide +kernel) rfl (q := 67) dX6_pull_64 rfl ?_
        refine v_aload_n F 1 (q := 68) dX6_pull_67 rfl rfl rfl ?_
        refine v_get F (C := RX6) (T := TX6) (N := 25) (ci := 6) (v := .ref (g 5)) 0 19 hin6 rfl mw_at0 (by decide) (by decide +kernel) rfl (q := 71) dX6_pull_68 rfl ?_
        refine v_iload_n F 2 (q := 72) dX6_pull_71 rfl rfl rfl ?_
        refine v_iald F (j := a0.toNat) 5 mw_at5 (by omega) (by omega) (by decide) (q := 73) dX6_pull_72 rfl ?_
        refine v_cast (b := S 5 (a0.toNat)) (by first | rfl | (simp [u2, ur]; done) | grind [u2, ur]) ?_
        have b_10 := hI.th (a0.toNat)
        refine v_steq (st9 := [VI (((S 5 (a0.toNat)).toNat : Nat) : Int), VI (codeF ((ur S 4 (raiseF S (S 5 a0.toNat).toNat (S 4))) 4))]) (by rw [show (((S 5 (a0.toNat)).toNat : Nat) : Int) = S 5 (a0.toNat) from (by omega)]) ?_
        refine v_callSi0 F (kX6_lean hst (k := k) (w := mw k g (u2 (ur S 4 (raiseF S (S 5 a0.toNat).toNat (S 4))) 0 11 ((S 0 11) + 1)) (u2 Y 0 0 0)) (f := ((ur S 4 (raiseF S (S 5 a0.toNat).toNat (S 4))) 4)) (raise_bd (S := S) (m := (S 5 a0.toNat).toNat) hI.lean3 (beh_ge (S := S) (f := S 4) (t := a0.toNat) (by omega)).2.2) (m := (S 5 (a0.toNat)).toNat) (by omega)) gX6_pull_X6_lean rfl hdX6_lean ⟨by decide, by decide⟩ rfl rfl (Nat.le_of_ble_eq_true rfl) ⟨(Nat.zero_le _), (Nat.zero_le _)⟩ (q := 76) dX6_pull_73 rfl ?_
        rintro a_11 _ ⟨rfl, ⟨h_11, hc_11⟩⟩
        exact ret _ _ _ _ _ _ (Nat.zero_le _) (Nat.zero_le _) dX6_pull_76 (⟨(u2 Y 0 0 0), by show (0 : Int) = _; unfold ePull; grind, Or.inl ⟨by unfold ePull; grind, by unfold rPull; rw [if_pos (pull_h0 (t := a0.toNat) (by omega))]; assumption, by unfold sPull; rw [if_pos (pull_h0 (t := a0.toNat) (by omega))]; rfl⟩⟩)
    · refine v_aload_n F 0 (q := 29) dX6_pull_28 rfl rfl rfl ?_
      refine v_const F (q := 30) dX6_pull_29 rfl ?_
      refine v_callVi0 F (kX6_no hst (k := k) (g := g) (S := S) (Y := (u2 Y 0 0 0)) hI (a0 := 2)) gX6_pull_X6_no rfl hdX6_no ⟨by decide, by decide⟩ 0 mw_at0 rfl rfl rfl (Nat.le_of_ble_eq_true rfl) ⟨(Nat.zero_le _), (Nat.zero_le _)⟩ (q := 33) dX6_pull_30 rfl ?_
      rintro a_12 _ ⟨rfl, rfl⟩
      exact ret _ _ _ _ _ _ (Nat.zero_le _) (Nat.zero_le _) dX6_pull_33 (⟨(u2 (u2 Y 0 0 0) 0 0 2), by show (2 : Int) = _; unfold ePull; grind, Or.inr ⟨by unfold ePull; grind, rfl⟩⟩)
  · refine v_if_ne F (tgt := 19) (q := 13) R32_0 dX6_pull_10 rfl rfl (fun h_13 => absurd h_13 (by omega)) (fun h_13 => ?_)
    refine v_aload_n F 0 (q := 14) dX6_pull_13 rfl rfl rfl ?_
    refine v_const F (q := 15) dX6_pull_14 rfl ?_
    refine v_callVi0 F (kX6_no hst (k := k) (g := g) (S := S) (Y := (u2 Y 0 0 0)) hI (a0 := 1)) gX6_pull_X6_no rfl hdX6_no ⟨by decide, by decide⟩ 0 mw_at0 rfl rfl rfl (Nat.le_of_ble_eq_true rfl) ⟨(Nat.zero_le _), (Nat.zero_le _)⟩ (q := 18) dX6_pull_15 rfl ?_
    rintro a_14 _ ⟨rfl, rfl⟩
    exact ret _ _ _ _ _ _ (Nat.zero_le _) (Nat.zero_le _) dX6_pull_18 (⟨(u2 (u2 Y 0 0 0) 0 0 1), by show (1 : Int) = _; unfold ePull; grind, Or.inr ⟨by unfold ePull; grind, rfl⟩⟩)
