theorem hdX5_explore : yX5_explore.cls = RX5 ∧ yX5_explore.cls ≠ "java/lang/invoke/MethodHandle" ∧ yX5_explore.cls ≠ "java/lang/invoke/VarHandle" ∧ (parseMethodDescriptor yX5_explore.desc).map (fun d => d.parameters.length) = some 0 := by decide +kernel
set_option maxRecDepth 100000 in
set_option maxHeartbeats 4000000 in
theorem kX5_explore {l : Launch} (hst : l.stackTraces = false) {k : Nat → ClassId} {h : Nat → Nat} {S Z : Nat → Nat → Int} (hI : Inv S) : v_Cv l k yX5_explore wsX5_explore ({ frames := 4, cells := 0, slots := 0, locals := 87 } : Room) [.ref (h 0)] (cw k h S Z) (fun u => ∃ Z9, u = cw k h S Z9 ∧ ∃ fd : Nat, Z9 7 0 = (fd : Int) ∧ CI S (cS S) (Z9 5) (Z9 4) (Z9 6) fd fd) := by
  refine v_ofV (cc := cX5_explore) (nL := 2) (by decide +kernel) rfl hst (Nat.le_of_ble_eq_true rfl) (fun XX F ret => ?_)
  have hin4 : ∀ w ∈ wsX40, w ∈ wsX5_explore := by decide +kernel
  have hin5 : ∀ w ∈ wsX50, w ∈ wsX5_explore := by decide +kernel
  have b7 := hI.mc
  have b8 := hI.cc
  show V XX (cw k h S Z) 0 0 0 [(0, .ref (h 0))] []
  refine v_const F (q := 1) dX5_explore_0 rfl ?_
  refine v_istore_n F (q := 2) [(1, VI 0), (0, .ref (h 0))] dX5_explore_1 rfl (by decide) rfl rfl ?_
  have L2_1 : ∀ (fu : Nat) (m : Nat) (Zx : Nat → Nat → Int), ((m : Int) ≤ S 0 7 ∧ ∀ j : Nat, j < m → HndP S j (Zx 2 j) ∧ Zx 3 j = lowM S (j : Int)) → (S 0 7 - m).toNat < fu → V XX (cw k h S Zx) 0 0 2 [(1, VI ((m : Nat) : Int)), (0, .ref (h 0))] [] := by
    intro fu_2
    induction fu_2 with
    | zero => intros; omega
    | succ fu_2 ih_2 =>
      intro m Zx hu hm_2
      obtain ⟨hu1, hu2⟩ := hu
      refine v_iload_n F 0 (q := 3) dX5_explore_2 rfl rfl rfl ?_
      refine v_aload_n F 1 (q := 4) dX5_explore_3 rfl rfl rfl ?_
      refine v_get F (C := RX5) (T := TX5) (N := 14) (ci := 5) (v := VI (S 0 7)) 0 8 hin5 rfl cw_at0 (by decide) (by decide +kernel) rfl (q := 7) dX5_explore_4 rfl ?_
      have b_2 := And.intro (hI.sc 7 (by decide)) (hI.1 0 7 (by omega)).2
      refine v_icmp_ge F (tgt := 44) (q := 10) (by omega) (by omega) dX5_explore_7 rfl rfl (fun h_3 => ?_) (fun h_3 => ?_)
      · refine v_aload_n F 1 (q := 45) dX5_explore_44 rfl rfl rfl ?_
        refine v_get F (C := RX5) (T := TX5) (N := 14) (ci := 5) (v := .ref (h 5)) 0 4 hin5 rfl cw_at0 (by decide) (by decide +kernel) rfl (q := 48) dX5_explore_45 rfl ?_
        refine v_aload_n F 1 (q := 49) dX5_explore_48 rfl rfl rfl ?_
        refine v_get F (C := RX5) (T := TX5) (N := 14) (ci := 5) (v := .ref (h 6)) 0 5 hin5 rfl cw_at0 (by decide) (by decide +kernel) rfl (q := 52) dX5_explore_49 rfl ?_
        refine v_callSi0 F (kX4_encode hst (k := k) (h := h) (S := S) (Z := Zx) hI (rq := 6) (ra := h 6) (f := S 4) cw_at6 hI.lean3) gX5_explore_X4_encode rfl hdX4_encode ⟨by decide, by decide⟩ rfl rfl (Nat.le_of_ble_eq_true rfl) ⟨(Nat.zero_le _), (Nat.zero_le _)⟩ (q := 55) dX5_explore_52 rfl ?_
        rintro a_4 _ ⟨rfl, ⟨h_4, hc_4⟩⟩
        refine v_steq (st9 := [VI ((a_4.toNat : Nat) : Int), .ref (h 5)]) (by rw [show ((a_4.toNat : Nat) : Int) = a_4 from (by omega)]) ?_
        refine v_callVv0 F (kX4_begin hst (k := k) (h := h) (S := S) (Z := Zx) (n := a_4.toNat) (by omega)) gX5_explore_X4_begin rfl hdX4_begin ⟨by decide, by decide⟩ 5 cw_at5 rfl rfl rfl (Nat.le_of_ble_eq_true rfl) ⟨(Nat.zero_le _), (Nat.zero_le _)⟩ (q := 58) dX5_explore_55 rfl ?_
        rintro _ rfl
        refine v_const F (q := 59) dX5_explore_58 rfl ?_
        refine v_istore_n F (q := 60) [(1, VI 0), (0, .ref (h 0))] dX5_explore_59 rfl (by decide) rfl rfl ?_
        have L60_6 : ∀ (fu : Nat) (i : Nat) (Zw : Nat → Nat → Int), (XI S (cS S) Zw i ∧ HK S Zw) → 1001 - i < fu → V XX (cw k h S Zw) 0 0 60 [(1, VI ((i : Nat) : Int)), (0, .ref (h 0))] [] := by
          intro fu_60
          induction fu_60 with
          | zero => intros; omega
          | succ fu_60 ih_60 =>
            intro i Zw hv hm_60
            obtain ⟨hv1, hv2⟩ := hv
            obtain ⟨fd, hx0, hx1⟩ := hv1
            have hx2 := hx1.1.le
            have hx3 := hx1.2.2.2.2.2.2.2.2.2
            refine v_iload_n F 0 (q := 61) dX5_explore_60 rfl rfl rfl ?_
            refine v_aload_n F 1 (q := 62) dX5_explore_61 rfl rfl rfl ?_
            refine v_get F (C := RX5) (T := TX5) (N := 14) (ci := 5) (v := .ref (h 5)) 0 4 hin5 rfl cw_at0 (by decide) (by decide +kernel) rfl (q := 65) dX5_explore_62 rfl ?_
            refine v_get F (C := RX4) (T := TX4) (N := 6) (ci := 4) (v := VI (Zw 7 0)) 5 5 hin4 rfl cw_at5 (by decide) (by decide +kernel) rfl (q := 68) dX5_explore_65 rfl ?_
            refine v_icmp_ge F (tgt := 97) (q := 71) (by omega) (by omega) dX5_explore_68 rfl rfl (fun h_7 => ?_) (fun h_7 => ?_)
            · exact ret _ _ _ _ _ (Nat.zero_le _) (Nat.zero_le _) dX5_explore_97 (⟨Zw, rfl, XI.end ⟨fd, hx0, hx1⟩ (by omega)⟩)
            · refine v_iload_n F 0 (q := 72) dX5_explore_71 rfl rfl rfl ?_
              refine v_sipush F (q := 75) dX5_explore_72 rfl rfl ?_
              refine v_icmp_ge F (tgt := 97) (q := 78) (by omega) (by omega) dX5_explore_75 rfl rfl (fun h_8 => ?_) (fun h_8 => ?_)
              · exact ret _ _ _ _ _ (Nat.zero_le _) (Nat.zero_le _) dX5_explore_97 (⟨Zw, rfl, XI.end ⟨fd, hx0, hx1⟩ (by omega)⟩)
              · refine v_aload_n F 1 (q := 79) dX5_explore_78 rfl rfl rfl ?_
                refine v_aload_n F 1 (q := 80) dX5_explore_79 rfl rfl rfl ?_
                refine v_get F (C := RX5) (T := TX5) (N := 14) (ci := 5) (v := .ref (h 5)) 0 4 hin5 rfl cw_at0 (by decide) (by decide +kernel) rfl (q := 83) dX5_explore_80 rfl ?_
                refine v_get F (C := RX4) (T := TX4) (N := 6) (ci := 4) (v := .ref (h 25)) 5 2 hin4 rfl cw_at5 (by decide) (by decide +kernel) rfl (q := 86) dX5_explore_83 rfl ?_
                refine v_iload_n F 0 (q := 87) dX5_explore_86 rfl rfl rfl ?_
                refine v_iald F (j := i) 25 cw_at25 rfl (by omega) (by decide) (q := 88) dX5_explore_87 rfl ?_
                have hqa := hx1.1.at (j := i) (by omega)
                refine v_steq (st9 := [VI (((Zw 4 i).toNat : Nat) : Int), .ref (h 0)]) (by rw [show (((Zw 4 i).toNat : Nat) : Int) = Zw 4 i from (by omega)]) ?_
                refine v_callVv0 F (kX5_exploreFrom hst (k := k) (h := h) (S := S) (Z := Zw) hI (s := cS S) (i := i) (v := (Zw 4 i).toNat) (fd := fd) hx0 hx1 (by omega) hv2 (by omega) (by omega)) gX5_explore_X5_exploreFrom rfl hdX5_exploreFrom ⟨by decide, by decide⟩ 0 cw_at0 rfl rfl rfl (Nat.le_of_ble_eq_true rfl) ⟨(Nat.zero_le _), (Nat.zero_le _)⟩ (q := 91) dX5_explore_88 rfl ?_
                rintro _ ⟨Z_9, rfl, hX_9, hK_9⟩
                refine v_iinc F (q := 94) (z := ((i + 1 : Nat) : Int)) 0 [(1, VI ((i + 1 : Nat) : Int)), (0, .ref (h 0))] dX5_explore_91 rfl (by decide) (by omega) rfl rfl ?_
                refine v_goto F (tgt := 60) dX5_explore_94 rfl ?_
                exact ih_60 (i + 1) Z_9 (by exact ⟨hX_9, hK_9⟩) (by omega)
        exact L60_6 _ 0 (begZ Zx (a_4.toNat)) (by exact ⟨by rw [show cS S = (codeF (S 4)).toNat from rfl, show codeF (S 4) = a_4 from (by omega)]; exact XI.beg (by omega), fun m9 hm9 => hu2 m9 (by omega)⟩) (Nat.lt_succ_self _)
      · refine v_aload_n F 1 (q := 11) dX5_explore_10 rfl rfl rfl ?_
        refine v_get F (C := RX5) (T := TX5) (N := 14) (ci := 5) (v := .ref (h 5)) 0 4 hin5 rfl cw_at0 (by decide) (by decide +kernel) rfl (q := 14) dX5_explore_11 rfl ?_
        refine v_get F (C := RX4) (T := TX4) (N := 6) (ci := 4) (v := .ref (h 23)) 5 0 hin4 rfl cw_at5 (by decide) (by decide +kernel) rfl (q := 17) dX5_explore_14 rfl ?_
        refine v_iload_n F 0 (q := 18) dX5_explore_17 rfl rfl rfl ?_
        refine v_aload_n F 1 (q := 19) dX5_explore_18 rfl rfl rfl ?_
        refine v_iload_n F 0 (q := 20) dX5_explore_19 rfl rfl rfl ?_
        refine v_callVi0 F (kX5_firstFreeThreadOf hst (k := k) (h := h) (S := S) (Z := Zx) hI (m := m) (by omega)) gX5_explore_X5_firstFreeThreadOf rfl hdX5_firstFreeThreadOf ⟨by decide, by decide⟩ 0 cw_at0 rfl rfl rfl (Nat.le_of_ble_eq_true rfl) ⟨(Nat.zero_le _), (Nat.zero_le _)⟩ (q := 23) dX5_explore_20 rfl ?_
        rintro a_10 _ ⟨rfl, ⟨h_10, hc_10⟩⟩
        refine v_iast F (j := m) 23 (cw k h S (u2 Zx 2 m a_10)) cw_at23 rfl (by omega) (by decide) (cw_handles m _) (q := 24) dX5_explore_23 rfl ?_
        refine v_aload_n F 1 (q := 25) dX5_explore_24 rfl rfl rfl ?_
        refine v_get F (C := RX5) (T := TX5) (N := 14) (ci := 5) (v := .ref (h 5)) 0 4 hin5 rfl cw_at0 (by decide) (by decide +kernel) rfl (q := 28) dX5_explore_25 rfl ?_
        refine v_get F (C := RX4) (T := TX4) (N := 6) (ci := 4) (v := .ref (h 24)) 5 1 hin4 rfl cw_at5 (by decide) (by decide +kernel) rfl (q := 31) dX5_explore_28 rfl ?_
        refine v_iload_n F 0 (q := 32) dX5_explore_31 rfl rfl rfl ?_
        refine v_aload_n F 1 (q := 33) dX5_explore_32 rfl rfl rfl ?_
        refine v_iload_n F 0 (q := 34) dX5_explore_33 rfl rfl rfl ?_
        refine v_callVi0 F (kX5_loweredBy hst (k := k) (h := h) (S := S) (Z := (u2 Zx 2 m a_10)) hI (a0 := ((m : Nat) : Int)) (by omega)) gX5_explore_X5_loweredBy rfl hdX5_loweredBy ⟨by decide, by decide⟩ 0 cw_at0 rfl rfl rfl (Nat.le_of_ble_eq_true rfl) ⟨(Nat.zero_le _), (Nat.zero_le _)⟩ (q := 37) dX5_explore_34 rfl ?_
        rintro a_11 _ ⟨rfl, h_11⟩
        refine v_iast F (j := m) 24 (cw k h S (u2 (u2 Zx 2 m a_10) 3 m a_11)) cw_at24 rfl (by omega) (by decide) (cw_lowered m _) (q := 38) dX5_explore_37 rfl ?_
        refine v_iinc F (q := 41) (z := ((m + 1 : Nat) : Int)) 0 [(1, VI ((m + 1 : Nat) : Int)), (0, .ref (h 0))] dX5_explore_38 rfl (by decide) (by omega) rfl rfl ?_
        refine v_goto F (tgt := 2) dX5_explore_41 rfl ?_
        exact ih_2 (m + 1) (u2 (u2 Zx 2 m a_10) 3 m a_11) (by exact ⟨by omega, HK_step hu2 (by assumption) (by assumption)⟩) (by omega)
  exact L2_1 _ 0 Z (by exact ⟨by omega, fun j hj => absurd hj (Nat.not_lt_zero j)⟩) (Nat.lt_succ_self _)
theorem hdX5_fewest : yX5_fewest.cls = RX5 ∧ yX5_fewest.cls ≠ "java/lang/invoke/MethodHandle" ∧ yX5_fewest.cls ≠ "java/lang/invoke/VarHandle" ∧ (parseMethodDescriptor yX5_fewest.desc).map (fun d => d.parameters.length) = some 0 := by decide +kernel
set_option maxRecDepth 100000 in
set_option maxHeartbeats 4000000 in
theorem kX5_fewest {l : Launch} (hst : l.stackTraces = false) {k : Nat → ClassId} {h : Nat → Nat} {S Z : Nat → Nat → Int} (hI : Inv S) : v_Ci l k yX5_fewest wsX5_fewest ({ frames := 5, cells := 0, slots := 0, locals := 108 } : Room) [.ref (h 0)] (cw k h S Z) (fun a u => ∃ Z9, u = cw k h S Z9 ∧ FewP S (cS S) a ∧ -1 ≤ a ∧ a ≤ 1000) := by
  refine v_ofI (cc := cX5_fewest) (nL := 1) (by decide +kernel) rfl hst (Nat.le_of_ble_eq_true rfl) (fun _ _ _ => rfl) (fun XX F ret => ?_)
  have hin4 : ∀ w ∈ wsX40, w ∈ wsX5_fewest := by decide +kernel
  have hin5 : ∀ w ∈ wsX50, w ∈ wsX5_fewest := by decide +kernel
  have b7 := hI.mc
  have b8 := hI.cc
  show V XX (cw k h S Z) 0 0 0 [(0, .ref (h 0))] []
  refine v_aload_n F 0 (q := 1) dX5_fewest_0 rfl rfl rfl ?_
  refine v_callVv0 F (kX5_explore hst (k := k) (h := h) (S := S) (Z := Z) hI) gX5_fewest_X5_explore rfl hdX5_explore ⟨by decide, by decide⟩ 0 cw_at0 rfl rfl rfl (Nat.le_of_ble_eq_true rfl) ⟨(Nat.zero_le _), (Nat.zero_le _)⟩ (q := 4) dX5_fewest_1 rfl ?_
  rintro _ ⟨ZE, rfl, fd, hE0, hE1⟩
  refine v_aload_n F 0 (q := 5) dX5_fewest_4 rfl rfl rfl ?_
  refine v_get F (C := RX5) (T := TX5) (N := 14) (ci := 5) (v := .ref (h 5)) 0 4 hin5 rfl cw_at0 (by decide) (by decide +kernel) rfl (q := 8) dX5_fewest_5 rfl ?_
  refine v_get F (C := RX4) (T := TX4) (N := 6) (ci := 4) (v := .ref (h 26)) 5 3 hin4 rfl cw_at5 (by decide) (by decide +kernel) rfl (q := 11) dX5_fewest_8 rfl ?_
  refine v_const F (q := 12) dX5_fewest_11 rfl ?_
  refine v_iald F (j := 0) 26 cw_at26 rfl (by omega) (by decide) (q := 13) dX5_fewest_12 rfl ?_
  exact ret _ _ _ _ _ _ (Nat.zero_le _) (Nat.zero_le _) dX5_fewest_13 (⟨ZE, rfl, CI_few hE1, (hE1.1.pb hE1.2.1 hE1.2.2.2.2.2.2.2.1 (by decide)).1, (hE1.1.pb hE1.2.1 hE1.2.2.2.2.2.2.2.1 (by decide)).2⟩)
theorem hdX5_first : yX5_first.cls = RX5 ∧ yX5_first.cls ≠ "java/lang/invoke/MethodHandle" ∧ yX5_first.cls ≠ "java/lang/invoke/VarHandle" ∧ (parseMethodDescriptor yX5_first.desc).map (fun d => d.parameters.length) = some 0 := by decide +kernel
set_option maxRecDepth 100000 in
set_option maxHeartbeats 4000000 in
theorem kX5_first {l : Launch} (hst : l.stackTraces = false) {k : Nat → ClassId} {h : Nat → Nat} {S Z : Nat → Nat → Int} (hI : Inv S) : v_Ci l k yX5_first wsX5_first ({ frames := 5, cells := 0, slots := 0, locals := 108 } : Room) [.ref (h 0)] (cw k h S Z) (fun a u => ∃ Z9, u = cw k h S Z9 ∧ FstP S (cS S) a) := by
  refine v_ofI (cc := cX5_first) (nL := 1) (by decide +kernel) rfl hst (Nat.le_of_ble_eq_true rfl) (fun _ _ _ => rfl) (fun XX F ret => ?_)
  have hin4 : ∀ w ∈ wsX40, w ∈ wsX5_first := by decide +kernel
  have hin5 : ∀ w ∈ wsX50, w ∈ wsX5_first := by decide +kernel
  have b7 := hI.mc
  have b8 := hI.cc
  show V XX (cw k h S Z) 0 0 0 [(0, .ref (h 0))] []
  refine v_aload_n F 0 (q := 1) dX5_first_0 rfl rfl rfl ?_
  refine v_callVv0 F (kX5_explore hst (k := k) (h := h) (S := S) (Z := Z) hI) gX5_first_X5_explore rfl hdX5_explore ⟨by decide, by decide⟩ 0 cw_at0 rfl rfl rfl (Nat.le_of_ble_eq_true rfl) ⟨(Nat.zero_le _), (Nat.zero_le _)⟩ (q := 4) dX5_first_1 rfl ?_
  rintro _ ⟨ZE, rfl, fd, hE0, hE1⟩
  refine v_aload_n F 0 (q := 5) dX5_first_4 rfl rfl rfl ?_
  refine v_get F (C := RX5) (T := TX5) (N := 14) (ci := 5) (v := .ref (h 5)) 0 4 hin5 rfl cw_at0 (by decide) (by decide +kernel) rfl (q := 8) dX5_first_5 rfl ?_
  refine v_get F (C := RX4) (T := TX4) (N := 6) (ci := 4) (v := .ref (h 27)) 5 4 hin4 rfl cw_at5 (by decide) (by decide +kernel) rfl (q := 11) dX5_first_8 rfl ?_
  refine v_const F (q := 12) dX5_first_11 rfl ?_
  refine v_iald F (j := 0) 27 cw_at27 rfl (by omega) (by decide) (q := 13) dX5_first_12 rfl ?_
  exact ret _ _ _ _ _ _ (Nat.zero_le _) (Nat.zero_le _) dX5_first_13 (⟨ZE, rfl, CI_first hE1⟩)
theorem hdX5_least : yX5_least.cls = RX5 ∧ yX5_least.cls ≠ "java/lang/invoke/MethodHandle" ∧ yX5_least.cls ≠ "java/lang/invoke/VarHandle" ∧ (parseMethodDescriptor yX5_least.desc).map (fun d => d.parameters.length) = some 1 := by decide +kernel
set_option maxRecDepth 100000 in
set_option maxHeartbeats 4000000 in
theorem kX5_least {l : Launch} (hst : l.stackTraces = false) {k : Nat → ClassId} {h : Nat → Nat} {S Z : Nat → Nat → Int} (hI : Inv S) {a0 : Int} (g0 : R32 a0) : v_Ct l k yX5_least wsX5_least ({ frames := 6, cells := 1, slots := 6, locals := 108 } : Room) [.ref (h 0), VI a0] (cw k h S Z) (fun a u => ∃ Z9, u = cw k h S Z9 ∧ eLeast S a0 = 0 ∧ LeaP S (cS S) a0.toNat a) (fun E u => u = cw k h S Z ∧ ((eLeast S a0 = 1 ∧ E = E_X))) := by
  refine v_ofX (cc := cX5_least) (nL := 4) rfl (by decide +kernel) rfl hst (Nat.le_of_ble_eq_true rfl) (fun _ _ _ => rfl) (by decide) (by decide) (fun XX F ret thr => ?_)
  have hin4 : ∀ w ∈ wsX40, w ∈ wsX5_least := by decide +kernel
  have hin5 : ∀ w ∈ wsX50, w ∈ wsX5_least := by decide +kernel
  have b7 := hI.mc
  have b8 := hI.cc
  show V XX (cw k h S Z) 0 0 0 [(0, .ref (h 0)), (1, VI a0)] []
  refine v_aload_n F 0 (q := 1) dX5_least_0 rfl rfl rfl ?_
  refine v_iload_n F 1 (q := 2) dX5_least_1 rfl rfl rfl ?_
  refine v_callVi0 F (kX5_isMast hst (k := k) (h := h) (S := S) (Z := Z) hI (a0 := a0) (by omega)) gX5_least_X5_isMast rfl hdX5_isMast ⟨by decide, by decide⟩ 0 cw_at0 rfl rfl rfl (Nat.le_of_ble_eq_true rfl) ⟨(Nat.zero_le _), (Nat.zero_le _)⟩ (q := 5) dX5_least_2 rfl ?_
  rintro _ _ ⟨rfl, ⟨rfl, h_1⟩ | ⟨rfl, h_1⟩⟩
  · refine v_if_ne F (tgt := 18) (q := 8) (by omega) dX5_least_5 rfl rfl (fun h_2 => ?_) (fun h_2 => absurd h_2 (by omega))
    refine v_aload_n F 0 (q := 19) dX5_least_18 rfl rfl rfl ?_
    refine v_callVv0 F (kX5_explore hst (k := k) (h := h) (S := S) (Z := Z) hI) gX5_least_X5_explore rfl hdX5_explore ⟨by decide, by decide⟩ 0 cw_at0 rfl rfl rfl (Nat.le_of_ble_eq_true rfl) ⟨(Nat.zero_le _), (Nat.zero_le _)⟩ (q := 22) dX5_least_19 rfl ?_
    rintro _ ⟨ZE, rfl, fd, hE0, hE1⟩
    refine v_aload_n F 0 (q := 23) dX5_least_22 rfl rfl rfl ?_
    refine v_get F (C := RX5) (T := TX5) (N := 14) (ci := 5) (v := .ref (h 6)) 0 5 hin5 rfl cw_at0 (by decide) (by decide +kernel) rfl (q := 26) dX5_least_23 rfl ?_
    refine v_iload_n F 1 (q := 27) dX5_least_26 rfl rfl rfl ?_
    refine v_iald F (j := a0.toNat) 6 cw_at6 (by omega) (by omega) (by decide) (q := 28) dX5_least_27 rfl ?_
    have b_4 := hI.lean (a0.toNat)
    refine v_istore_n F (q := 29) [(2, VI (S 4 (a0.toNat))), (0, .ref (h 0)), (1, VI a0)] dX5_least_28 rfl (by decide) rfl rfl ?_
    refine v_const F (q := 30) dX5_least_29 rfl ?_
    refine v_istore_n F (q := 31) [(3, VI 0), (2, VI (S 4 (a0.toNat))), (0, .ref (h 0)), (1, VI a0)] dX5_least_30 rfl (by decide) rfl rfl ?_
    have L31_5 : ∀ (fu : Nat) (le : Int) (i : Nat) (Zw : Nat → Nat → Int), (i ≤ fd ∧ (∀ a j : Nat, ¬ a = 1 → Zw a j = ZE a j) ∧ (∃ k9 n9, Rk S (cS S) k9 n9 ∧ dig n9 a0.toNat = le) ∧ (∀ j, j < i → le ≤ dig (ZE 4 j).toNat a0.toNat) ∧ 0 ≤ le ∧ le ≤ 9) → 1001 - i < fu → V XX (cw k h S Zw) 0 0 31 [(3, VI ((i : Nat) : Int)), (2, VI le), (0, .ref (h 0)), (1, VI a0)] [] := by
      intro fu_31
      induction fu_31 with
      | zero => intros; omega
      | succ fu_31 ih_31 =>
        intro le i Zw hw hm_31
        obtain ⟨hw1, hw2, hw3, hw4, hw5⟩ := hw
        have hr7 := hw2 7 0 (by decide)
        have hle := hE1.1.le
        refine v_iload_n F 0 (q := 32) dX5_least_31 rfl rfl rfl ?_
        refine v_aload_n F 2 (q := 33) dX5_least_32 rfl rfl rfl ?_
        refine v_get F (C := RX5) (T := TX5) (N := 14) (ci := 5) (v := .ref (h 5)) 0 4 hin5 rfl cw_at0 (by decide) (by decide +kernel) rfl (q := 36) dX5_least_33 rfl ?_
        refine v_get F (C := RX4) (T := TX4) (N := 6) (ci := 4) (v := VI (Zw 7 0)) 5 5 hin4 rfl cw_at5 (by decide) (by decide +kernel) rfl (q := 39) dX5_least_36 rfl ?_
        refine v_icmp_ge F (tgt := 82) (q := 42) (by omega) (by omega) dX5_least_39 rfl rfl (fun h_6 => ?_) (fun h_6 => ?_)
        · refine v_iload_n F 1 (q := 83) dX5_least_82 rfl rfl rfl ?_
          exact ret _ _ _ _ _ _ (Nat.zero_le _) (Nat.zero_le _) dX5_least_83 (⟨Zw, rfl, by unfold eLeast; grind, Lea_end hE1.1 hE1.2.2.1 hw3 (fun j hj => hw4 j (by omega))⟩)
        · refine v_iload_n F 0 (q := 43) dX5_least_42 rfl rfl rfl ?_
          refine v_sipush F (q := 46) dX5_least_43 rfl rfl ?_
          refine v_icmp_ge F (tgt := 82) (q := 49) (by omega) (by omega) dX5_least_46 rfl rfl (fun h_7 => ?_) (fun h_7 => ?_)
          · refine v_iload_n F 1 (q := 83) dX5_least_82 rfl rfl rfl ?_
            exact ret _ _ _ _ _ _ (Nat.zero_le _) (Nat.zero_le _) dX5_least_83 (⟨Zw, rfl, by unfold eLeast; grind, Lea_end hE1.1 hE1.2.2.1 hw3 (fun j hj => hw4 j (by omega))⟩)
          · refine v_aload_n F 2 (q := 50) dX5_least_49 rfl rfl rfl ?_
            refine v_get F (C := RX5) (T := TX5) (N := 14) (ci := 5) (v := .ref (h 5)) 0 4 hin5 rfl cw_at0 (by decide) (by decide +kernel) rfl (q := 53) dX5_least_50 rfl ?_
            refine v_get F (C := RX4) (T := TX4) (N := 6) (ci := 4) (v := .ref (h 25)) 5 2 hin4 rfl cw_at5 (by decide) (by decide +kernel) rfl (q := 56) dX5_least_53 rfl ?_
            refine v_iload_n F 0 (q := 57) dX5_least_56 rfl rfl rfl ?_
            refine v_iald F (j := i) 25 cw_at25 rfl (by omega) (by decide) (q := 58) dX5_least_57 rfl ?_
            refine v_aload_n F 2 (q := 59) dX5_least_58 rfl rfl rfl ?_
            refine v_get F (C := RX5) (T := TX5) (N := 14) (ci := 5) (v := .ref (h 8)) 0 7 hin5 rfl cw_at0 (by decide) (by decide +kernel) rfl (q := 62) dX5_least_59 rfl ?_
            have hq4 := hw2 4 i (by decide)
            have hqa := hE1.1.at (j := i) (by omega)
            refine v_steq (st9 := [.ref (h 8), VI (((Zw 4 i).toNat : Nat) : Int)]) (by rw [show (((Zw 4 i).toNat : Nat) : Int) = Zw 4 i from (by omega)]) ?_
            refine v_callSv0 F (kX4_decode hst (k := k) (h := h) (S := S) (Z := Zw) (n := (Zw 4 i).toNat) (by omega) (r := 1) (by decide)) gX5_least_X4_decode rfl hdX4_decode ⟨by decide, by decide⟩ rfl rfl (Nat.le_of_ble_eq_true rfl) ⟨(Nat.zero_le _), (Nat.zero_le _)⟩ (q := 65) dX5_least_62 rfl ?_
            rintro _ rfl
            have hdd := dec_eq Zw 1 (Zw 4 i).toNat a0.toNat (by omega)
            have hd9 := dig_D9 (Zw 4 i).toNat a0.toNat (by omega)
            refine v_iload_n F 1 (q := 66) dX5_least_65 rfl rfl rfl ?_
            refine v_aload_n F 2 (q := 67) dX5_least_66 rfl rfl rfl ?_
            refine v_get F (C := RX5) (T := TX5) (N := 14) (ci := 5) (v := .ref (h 8)) 0 7 hin5 rfl cw_at0 (by decide) (by decide +kernel) rfl (q := 70) dX5_least_67 rfl ?_
            refine v_iload_n F 3 (q := 71) dX5_least_70 rfl rfl rfl ?_
            refine v_iald F (j := a0.toNat) 8 cw_at8 (by omega) (by omega) (by decide) (q := 72) dX5_least_71 rfl ?_
            refine v_min F (by omega) (by omega) (by decide +kernel) (by decide +kernel) (by decide +kernel) (by decide +kernel) ⟨by decide, Nat.le_of_ble_eq_true rfl⟩ ⟨(Nat.zero_le _), (Nat.zero_le _)⟩ (q := 75) dX5_least_72 rfl ?_
            refine v_istore_n F (q := 76) [(2, VI (min le ((decZ Zw 1 ((Zw 4 i).toNat)) 1 (a0.toNat)))), (3, VI ((i : Nat) : Int)), (0, .ref (h 0)), (1, VI a0)] dX5_least_75 rfl (by decide) rfl rfl ?_
            refine v_iinc F (q := 79) (z := ((i + 1 : Nat) : Int)) 1 [(3, VI ((i + 1 : Nat) : Int)), (2, VI (min le ((decZ Zw 1 ((Zw 4 i).toNat)) 1 (a0.toNat)))), (0, .ref (h 0)), (1, VI a0)] dX5_least_76 rfl (by decide) (by omega) rfl rfl ?_
            refine v_goto F (tgt := 31) dX5_least_79 rfl ?_
            exact ih_31 (min le ((decZ Zw 1 ((Zw 4 i).toNat)) 1 (a0.toNat))) (i + 1) (decZ Zw 1 ((Zw 4 i).toNat)) (by exact ⟨by omega, fun a9 j9 h9 => (dec_ne h9 j9).trans (hw2 a9 j9 h9), Lea_min hw3 (hE1.1.at (j := i) (by omega)).2.2.2 (by rw [hdd, hq4]), fun j hj => (Nat.lt_or_ge j i).elim (fun q => by have := hw4 j q; omega) (fun q => by obtain rfl : j = i := (by omega); rw [← hq4, ← hdd]; omega), by omega, by omega⟩) (by omega)
    exact L31_5 _ (S 4 (a0.toNat)) 0 ZE (by exact ⟨by omega, fun _ _ _ => rfl, ⟨0, cS S, rfl, dig_cS hI (by omega)⟩, fun j hj => absurd hj (Nat.not_lt_zero j), by omega, by omega⟩) (Nat.lt_succ_self _)
  · refine v_if_ne F (tgt := 18) (q := 8) R32_0 dX5_least_5 rfl rfl (fun h_9 => absurd h_9 (by omega)) (fun h_9 => ?_)
    exact thr E_X "no such mast" 116 118 120 _ _ _ 8 _ v_exX ⟨by decide +kernel, by decide +kernel, by decide +kernel⟩ (by decide +kernel) dX5_least_8 dX5_least_11 dX5_least_12 dX5_least_14 dX5_least_17 (by decide) (by decide) (⟨rfl, ⟨by unfold eLeast; grind, rfl⟩⟩)
theorem hdX5_digest : yX5_digest.cls = RX5 ∧ yX5_digest.cls ≠ "java/lang/invoke/MethodHandle" ∧ yX5_digest.cls ≠ "java/lang/invoke/VarHandle" ∧ (parseMethodDescriptor yX5_digest.desc).map (fun d => d.parameters.length) = some 0 := by decide +kernel
set_option maxRecDepth 100000 in
set_option maxHeartbeats 4000000 in
theorem kX5_digest {l : Launch} (hst : l.stackTraces = false) {k : Nat → ClassId} {h : Nat → Nat} {S Z : Nat → Nat → Int} (hI : Inv S) : v_Cl l k yX5_digest wsX5_digest ({ frames := 7, cells := 78, slots := 468, locals := 113 } : Room) [.ref (h 0)] (cw k h S Z) (fun a u => u = cw k h S Z ∧ a = digR S) := by
  refine v_ofL (cc := cX5_digest) (nL := 5) (by decide +kernel) rfl hst (Nat.le_of_ble_eq_true rfl) (fun XX F ret => ?_)
  have hin5 : ∀ w ∈ wsX50, w ∈ wsX5_digest := by decide +kernel
  have b7 := hI.mc
  have b8 := hI.cc
  show V XX (cw k h S Z) 0 0 0 [(0, .ref (h 0))] []
  refine v_ldc2 F (v := 823) (q := 3) (by decide +kernel) dX5_digest_0 rfl ?_
  refine v_lstore_n F (q := 4) [(1, .long 823), (0, .ref (h 0))] dX5_digest_3 rfl (by decide) rfl rfl ?_
  refine v_const F (q := 5) dX5_digest_4 rfl ?_
  refine v_istore_n F (q := 6) [(3, VI 0), (1, .long 823), (0, .ref (h 0))] dX5_digest_5 rfl (by decide) rfl rfl ?_
  have L6_1 : ∀ (fu : Nat) (d : Int64) (i : Nat), (i ≤ 8 ∧ d = dgF 823 (fun i => cntV S (i : Int)) i) → 8 - i < fu → V XX (cw k h S Z) i (i * 6) 6 [(3, VI ((i : Nat) : Int)), (1, .long d), (0, .ref (h 0))] [] := by
    intro fu_6
    induction fu_6 with
    | zero => intros; omega
    | succ fu_6 ih_6 =>
      intro d i hv hm_6
      obtain ⟨hv1, hv2⟩ := hv
      refine v_iload_n F 0 (q := 7) dX5_digest_6 rfl rfl rfl ?_
      refine v_bipush F (q := 9) dX5_digest_7 rfl rfl ?_
      refine v_icmp_ge F (tgt := 31) (q := 12) (by omega) (by omega) dX5_digest_9 rfl rfl (fun h_2 => ?_) (fun h_2 => ?_)
      · have hd1 : d = dgF 823 (fun i => cntV S (i : Int)) 8 := (by rw [hv2, show i = 8 from (by omega)])
        refine v_const F (q := 32) dX5_digest_31 rfl ?_
        refine v_istore_n F (q := 33) [(3, VI 0), (1, .long d), (0, .ref (h 0))] dX5_digest_32 rfl (by decide) rfl rfl ?_
        have L33_3 : ∀ (fu : Nat) (d2 : Int64) (i2 : Nat), (i2 ≤ 6 ∧ d2 = dgF d (fun i => shipV S (i : Int)) i2) → 6 - i2 < fu → V XX (cw k h S Z) (8 + i2) (48 + i2 * 6) 33 [(3, VI ((i2 : Nat) : Int)), (1, .long d2), (0, .ref (h 0))] [] := by
          intro fu_33
          induction fu_33 with
          | zero => intros; omega
          | succ fu_33 ih_33 =>
            intro d2 i2 hw hm_33
            obtain ⟨hw1, hw2⟩ := hw
            refine v_iload_n F 0 (q := 34) dX5_digest_33 rfl rfl rfl ?_
            refine v_bipush F (q := 36) dX5_digest_34 rfl rfl ?_
            refine v_icmp_ge F (tgt := 58) (q := 39) (by omega) (by omega) dX5_digest_36 rfl rfl (fun h_4 => ?_) (fun h_4 => ?_)
            · have hd2 : d2 = dgF d (fun i => shipV S (i : Int)) 6 := (by rw [hw2, show i2 = 6 from (by omega)])
              refine v_aload_n F 2 (q := 59) dX5_digest_58 rfl rfl rfl ?_
              refine v_get F (C := RX5) (T := TX5) (N := 14) (ci := 5) (v := .ref (h 2)) 0 1 hin5 rfl cw_at0 (by decide) (by decide +kernel) rfl (q := 62) dX5_digest_59 rfl ?_
              refine v_aload_n F 2 (q := 63) dX5_digest_62 rfl rfl rfl ?_
              refine v_get F (C := RX5) (T := TX5) (N := 14) (ci := 5) (v := .ref (h 1)) 0 0 hin5 rfl cw_at0 (by decide) (by decide +kernel) rfl (q := 66) dX5_digest_63 rfl ?_
              refine v_lload_n F 1 (q := 67) dX5_digest_66 rfl rfl rfl ?_
              refine v_callVl0 F (kX0_digestOnto hst (k := k) (h := h) (S := S) (Z := Z) hI (d := d2)) gX5_digest_X0_digestOnto rfl hdX0_digestOnto ⟨by decide, by decide⟩ 1 cw_at1 rfl rfl rfl (Nat.le_of_ble_eq_true rfl) ⟨(by first | decide | omega | (dsimp only; omega)), (by first | decide | omega | (dsimp only; omega))⟩ (q := 70) dX5_digest_67 rfl ?_
              rintro a_5 _ ⟨rfl, h_5⟩
              refine v_callVl0 F (kX2_digestOnto hst (k := k) (h := h) (S := S) (Z := Z) hI (d := a_5)) gX5_digest_X2_digestOnto rfl hdX2_digestOnto ⟨by decide, by decide⟩ 2 cw_at2 rfl rfl rfl (Nat.le_of_ble_eq_true rfl) ⟨(by first | decide | omega | (dsimp only; omega)), (by first | decide | omega | (dsimp only; omega))⟩ (q := 73) dX5_digest_70 rfl ?_
              rintro a_6 _ ⟨rfl, h_6⟩
              refine v_lstore_n F (q := 74) [(1, .long a_6), (3, VI ((i2 : Nat) : Int)), (0, .ref (h 0))] dX5_digest_73 rfl (by decide) rfl rfl ?_
              refine v_const F (q := 75) dX5_digest_74 rfl ?_
              refine v_istore_n F (q := 76) [(3, VI 0), (1, .long a_6), (0, .ref (h 0))] dX5_digest_75 rfl (by decide) rfl rfl ?_
              have L76_7 : ∀ (fu : Nat) (d3 : Int64) (m : Nat), ((m : Int) ≤ S 0 7 ∧ d3 = dgM S (digV S) m) → (S 0 7 - m).toNat < fu → V XX (cw k h S Z) (14 + m * 8) (84 + m * 48) 76 [(3, VI ((m : Nat) : Int)), (1, .long d3), (0, .ref (h 0))] [] := by
                intro fu_76
                induction fu_76 with
                | zero => intros; omega
                | succ fu_76 ih_76 =>
                  intro d3 m hx hm_76
                  obtain ⟨hx1, hx2⟩ := hx
                  refine v_iload_n F 0 (q := 77) dX5_digest_76 rfl rfl rfl ?_
                  refine v_aload_n F 2 (q := 78) dX5_digest_77 rfl rfl rfl ?_
                  refine v_get F (C := RX5) (T := TX5) (N := 14) (ci := 5) (v := VI (S 0 7)) 0 8 hin5 rfl cw_at0 (by decide) (by decide +kernel) rfl (q := 81) dX5_digest_78 rfl ?_
                  have b_8 := And.intro (hI.sc 7 (by decide)) (hI.1 0 7 (by omega)).2
                  refine v_icmp_ge F (tgt := 132) (q := 84) (by omega) (by omega) dX5_digest_81 rfl rfl (fun h_9 => ?_) (fun h_9 => ?_)
                  · refine v_const F (q := 133) dX5_digest_132 rfl ?_
                    refine v_istore_n F (q := 134) [(3, VI 0), (1, .long d3), (0, .ref (h 0))] dX5_digest_133 rfl (by decide) rfl rfl ?_
                    have L134_10 : ∀ (fu : Nat) (d5 : Int64) (t : Nat), ((t : Int) ≤ S 0 8 ∧ d5 = dgT S d3 t) → (S 0 8 - t).toNat < fu → V XX (cw k h S Z) (38 + t * 5) (228 + t * 30) 134 [(3, VI ((t : Nat) : Int)), (1, .long d5), (0, .ref (h 0))] [] := by
                      intro fu_134
                      induction fu_134 with
                      | zero => intros; omega
                      | succ fu_134 ih_134 =>
                        intro d5 t hz hm_134
                        obtain ⟨hz1, hz2⟩ := hz
                        refine v_iload_n F 0 (q := 135) dX5_digest_134 rfl rfl rfl ?_
                        refine v_aload_n F 2 (q := 136) dX5_digest_135 rfl rfl rfl ?_
                        refine v_get F (C := RX5) (T := TX5) (N := 14) (ci := 5) (v := VI (S 0 8)) 0 9 hin5 rfl cw_at0 (by decide) (by decide +kernel) rfl (q := 139) dX5_digest_136 rfl ?_
                        have b_11 := And.intro (hI.sc 8 (by decide)) (hI.1 0 8 (by omega)).2
                        refine v_icmp_ge F (tgt := 178) (q := 142) (by omega) (by omega) dX5_digest_139 rfl rfl (fun h_12 => ?_) (fun h_12 => ?_)
                        · refine v_lload_n F 1 (q := 179) dX5_digest_178 rfl rfl rfl ?_
                          exact ret _ _ _ _ _ _ (by first | decide | omega | (dsimp only; omega)) (by first | decide | omega | (dsimp only; omega)) dX5_digest_179 (⟨rfl, by unfold digR; rw [show d5 = dgT S d3 t from hz2, show d3 = dgM S (digV S) m from hx2, show m = mcn S from (by unfold mcn; omega), show t = tcn S from (by unfold tcn; omega)]⟩)
                        · refine v_const F (q := 143) dX5_digest_142 rfl ?_
                          refine v_istore F (q := 145) [(4, VI 0), (3, VI ((t : Nat) : Int)), (1, .long d5), (0, .ref (h 0))] dX5_digest_143 (by decide) rfl rfl ?_
                          have L145_13 : ∀ (fu : Nat) (d6 : Int64) (j2 : Nat), (j2 ≤ 5 ∧ d6 = dgF d5 (fun i => thrV S t (i : Int)) j2) → 5 - j2 < fu → V XX (cw k h S Z) (38 + t * 5 + j2) (228 + t * 30 + j2 * 6) 145 [(4, VI ((j2 : Nat) : Int)), (3, VI ((t : Nat) : Int)), (1, .long d6), (0, .ref (h 0))] [] := by
                            intro fu_145
                            induction fu_145 with
                            | zero => intros; omega
                            | succ fu_145 ih_145 =>
                              intro d6 j2 hu hm_145
                              obtain ⟨hu1, hu2⟩ := hu
                              refine v_iload F 0 (q := 147) dX5_digest_145 rfl rfl ?_
                              refine v_const F (q := 148) dX5_digest_147 rfl ?_
                              refine v_icmp_ge F (tgt := 172) (q := 151) (by omega) (by omega) dX5_digest_148 rfl rfl (fun h_14 => ?_) (fun h_14 => ?_)
                              · refine v_iinc F (q := 175) (z := ((t + 1 : Nat) : Int)) 1 [(3, VI ((t + 1 : Nat) : Int)), (4, VI ((j2 : Nat) : Int)), (1, .long d6), (0, .ref (h 0))] dX5_digest_172 rfl (by decide) (by omega) rfl rfl ?_
                                refine v_goto F (tgt := 134) dX5_digest_175 rfl ?_
                                refine v_sub [0, 2, 3] rfl ?_
                                refine v_widen (c' := 38 + (t + 1) * 5) (n' := 228 + (t + 1) * 30) (by first | omega | (dsimp only; omega)) (by first | omega | (dsimp only; omega)) ?_
                                exact ih_134 d6 (t + 1) (by exact ⟨by omega, by rw [dgT_s, ← hz2, hu2, show j2 = 5 from (by omega)]⟩) (by omega)
                              · refine v_lload_n F 2 (q := 152) dX5_digest_151 rfl rfl rfl ?_
                                refine v_ldc2 F (v := 31) (q := 155) (by decide +kernel) dX5_digest_152 rfl ?_
                                refine v_lmul F (q := 156) dX5_digest_155 rfl ?_
                                refine v_aload_n F 3 (q := 157) dX5_digest_156 rfl rfl rfl ?_
                                refine v_iload_n F 1 (q := 158) dX5_digest_157 rfl rfl rfl ?_
                                refine v_iload F 0 (q := 160) dX5_digest_158 rfl rfl ?_
                                refine v_callVt0 F (kX5_thread hst (k := k) (h := h) (S := S) (Z := Z) hI (a0 := ((t : Nat) : Int)) (a1 := ((j2 : Nat) : Int)) (by omega) (by omega)) (fun E u hp => absurd hp.2.1 (by unfold eThr; grind)) gX5_digest_X5_thread rfl hdX5_thread ⟨by decide, by decide⟩ 0 cw_at0 rfl rfl rfl (Nat.le_of_ble_eq_true rfl) ⟨(by first | decide | omega | (dsimp only; omega)), (by first | decide | omega | (dsimp only; omega))⟩ (q := 163) dX5_digest_160 rfl ?_
                                rintro a_15 _ ⟨rfl, ⟨hz_15, h_15⟩⟩
                                refine v_i2l F (q := 164) dX5_digest_163 rfl ?_
                                refine v_ladd F (q := 165) dX5_digest_164 rfl ?_
                                refine v_lstore_n F (q := 166) [(1, .long ((d6 * 31) + ((iI a_15).toInt64))), (4, VI ((j2 : Nat) : Int)), (3, VI ((t : Nat) : Int)), (0, .ref (h 0))] dX5_digest_165 rfl (by decide) rfl rfl ?_
                                refine v_iinc F (q := 169) (z := ((j2 + 1 : Nat) : Int)) 1 [(4, VI ((j2 + 1 : Nat) : Int)), (1, .long ((d6 * 31) + ((iI a_15).toInt64))), (3, VI ((t : Nat) : Int)), (0, .ref (h 0))] dX5_digest_166 rfl (by decide) (by omega) rfl rfl ?_
                                refine v_goto F (tgt := 145) dX5_digest_169 rfl ?_
                                refine v_sub [0, 2, 1, 3] rfl ?_
                                refine v_widen (c' := 38 + t * 5 + (j2 + 1)) (n' := 228 + t * 30 + (j2 + 1) * 6) (by first | omega | (dsimp only; omega)) (by first | omega | (dsimp only; omega)) ?_
                                exact ih_145 ((d6 * 31) + ((iI a_15).toInt64)) (j2 + 1) (by exact ⟨by omega, by rw [dgF_s, ← hu2]; show _ = d6 * 31 + (iI (thrV S t ((j2 : Nat) : Int))).toInt64; rw [← show a_15 = thrV S t ((j2 : Nat) : Int) from h_15]⟩) (by omega)
                          refine v_widen (c' := 38 + t * 5 + 0) (n' := 228 + t * 30 + 0 * 6) (by first | omega | (dsimp only; omega)) (by first | omega | (dsimp only; omega)) ?_
                          exact L145_13 _ d5 0 (by exact ⟨by omega, rfl⟩) (Nat.lt_succ_self _)
                    refine v_widen (c' := 38 + 0 * 5) (n' := 228 + 0 * 30) (by first | omega | (dsimp only; omega)) (by first | omega | (dsimp only; omega)) ?_
                    exact L134_10 _ d3 0 (by exact ⟨by omega, rfl⟩) (Nat.lt_succ_self _)
                  · refine v_const F (q := 85) dX5_digest_84 rfl ?_
                    refine v_istore F (q := 87) [(4, VI 0), (3, VI ((m : Nat) : Int)), (1, .long d3), (0, .ref (h 0))] dX5_digest_85 (by decide) rfl rfl ?_
                    have L87_16 : ∀ (fu : Nat) (d4 : Int64) (j : Nat), (j ≤ 8 ∧ d4 = dgF d3 (fun i => mastV S m (i : Int)) j) → 8 - j < fu → V XX (cw k h S Z) (14 + m * 8 + j) (84 + m * 48 + j * 6) 87 [(4, VI ((j : Nat) : Int)), (3, VI ((m : Nat) : Int)), (1, .long d4), (0, .ref (h 0))] [] := by
                      intro fu_87
                      induction fu_87 with
                      | zero => intros; omega
                      | succ fu_87 ih_87 =>
                        intro d4 j hy hm_87
                        obtain ⟨hy1, hy2⟩ := hy
                        refine v_iload F 0 (q := 89) dX5_digest_87 rfl rfl ?_
                        refine v_bipush F (q := 91) dX5_digest_89 rfl rfl ?_
                        refine v_icmp_ge F (tgt := 115) (q := 94) (by omega) (by omega) dX5_digest_91 rfl rfl (fun h_17 => ?_) (fun h_17 => ?_)
                        · have hd4 : d4 = dgF d3 (fun i => mastV S m (i : Int)) 8 := (by rw [hy2, show j = 8 from (by omega)])
                          refine v_aload_n F 3 (q := 116) dX5_digest_115 rfl rfl rfl ?_
                          refine v_get F (C := RX5) (T := TX5) (N := 14) (ci := 5) (v := .ref (h 3)) 0 2 hin5 rfl cw_at0 (by decide) (by decide +kernel) rfl (q := 119) dX5_digest_116 rfl ?_
                          refine v_iload_n F 1 (q := 120) dX5_digest_119 rfl rfl rfl ?_
                          refine v_aald F (j := m) (b := h (9 + m)) 3 1 rfl cw_at3 rfl (by omega) (by decide) rfl (q := 121) dX5_digest_120 rfl ?_
                          refine v_lload_n F 2 (q := 122) dX5_digest_121 rfl rfl rfl ?_
                          refine v_callVl0 F (kX3_digestYardsOnto hst (k := k) (h := h) (S := S) (Z := Z) hI (m := m) (by omega) (d := d4)) gX5_digest_X3_digestYardsOnto rfl hdX3_digestYardsOnto ⟨by decide, by decide⟩ (9 + m) (cw_mast m (by omega)) rfl rfl rfl (Nat.le_of_ble_eq_true rfl) ⟨(by first | decide | omega | (dsimp only; omega)), (by first | decide | omega | (dsimp only; omega))⟩ (q := 125) dX5_digest_122 rfl ?_
                          rintro a_18 _ ⟨rfl, h_18⟩
                          refine v_lstore_n F (q := 126) [(1, .long a_18), (4, VI ((j : Nat) : Int)), (3, VI ((m : Nat) : Int)), (0, .ref (h 0))] dX5_digest_125 rfl (by decide) rfl rfl ?_
                          refine v_iinc F (q := 129) (z := ((m + 1 : Nat) : Int)) 2 [(3, VI ((m + 1 : Nat) : Int)), (1, .long a_18), (4, VI ((j : Nat) : Int)), (0, .ref (h 0))] dX5_digest_126 rfl (by decide) (by omega) rfl rfl ?_
                          refine v_goto F (tgt := 76) dX5_digest_129 rfl ?_
                          refine v_sub [0, 1, 3] rfl ?_
                          refine v_widen (c' := 14 + (m + 1) * 8) (n' := 84 + (m + 1) * 48) (by first | omega | (dsimp only; omega)) (by first | omega | (dsimp only; omega)) ?_
                          exact ih_76 a_18 (m + 1) (by exact ⟨by omega, by rw [h_18, hd4, hx2]; rfl⟩) (by omega)
                        · refine v_lload_n F 2 (q := 95) dX5_digest_94 rfl rfl rfl ?_
                          refine v_ldc2 F (v := 31) (q := 98) (by decide +kernel) dX5_digest_95 rfl ?_
                          refine v_lmul F (q := 99) dX5_digest_98 rfl ?_
                          refine v_aload_n F 3 (q := 100) dX5_digest_99 rfl rfl rfl ?_
                          refine v_iload_n F 1 (q := 101) dX5_digest_100 rfl rfl rfl ?_
                          refine v_iload F 0 (q := 103) dX5_digest_101 rfl rfl ?_
                          refine v_callVt0 F (kX5_mast hst (k := k) (h := h) (S := S) (Z := Z) hI (a0 := ((m : Nat) : Int)) (a1 := ((j : Nat) : Int)) (by omega) (by omega)) (fun E u hp => absurd hp.2.1 (by unfold eMast; grind)) gX5_digest_X5_mast rfl hdX5_mast ⟨by decide, by decide⟩ 0 cw_at0 rfl rfl rfl (Nat.le_of_ble_eq_true rfl) ⟨(by first | decide | omega | (dsimp only; omega)), (by first | decide | omega | (dsimp only; omega))⟩ (q := 106) dX5_digest_103 rfl ?_
                          rintro a_19 _ ⟨rfl, ⟨hz_19, h_19⟩⟩
                          refine v_i2l F (q := 107) dX5_digest_106 rfl ?_
                          refine v_ladd F (q := 108) dX5_digest_107 rfl ?_
                          refine v_lstore_n F (q := 109) [(1, .long ((d4 * 31) + ((iI a_19).toInt64))), (4, VI ((j : Nat) : Int)), (3, VI ((m : Nat) : Int)), (0, .ref (h 0))] dX5_digest_108 rfl (by decide) rfl rfl ?_
                          refine v_iinc F (q := 112) (z := ((j + 1 : Nat) : Int)) 1 [(4, VI ((j + 1 : Nat) : Int)), (1, .long ((d4 * 31) + ((iI a_19).toInt64))), (3, VI ((m : Nat) : Int)), (0, .ref (h 0))] dX5_digest_109 rfl (by decide) (by omega) rfl rfl ?_
                          refine v_goto F (tgt := 87) dX5_digest_112 rfl ?_
                          refine v_sub [0, 2, 1, 3] rfl ?_
                          refine v_widen (c' := 14 + m * 8 + (j + 1)) (n' := 84 + m * 48 + (j + 1) * 6) (by first | omega | (dsimp only; omega)) (by first | omega | (dsimp only; omega)) ?_
                          exact ih_87 ((d4 * 31) + ((iI a_19).toInt64)) (j + 1) (by exact ⟨by omega, by rw [dgF_s, ← hy2]; show _ = d4 * 31 + (iI (mastV S m ((j : Nat) : Int))).toInt64; rw [← show a_19 = mastV S m ((j : Nat) : Int) from h_19]⟩) (by omega)
                    refine v_widen (c' := 14 + m * 8 + 0) (n' := 84 + m * 48 + 0 * 6) (by first | omega | (dsimp only; omega)) (by first | omega | (dsimp only; omega)) ?_
                    exact L87_16 _ d3 0 (by exact ⟨by omega, rfl⟩) (Nat.lt_succ_self _)
              refine v_widen (c' := 14 + 0 * 8) (n' := 84 + 0 * 48) (by first | omega | (dsimp only; omega)) (by first | omega | (dsimp only; omega)) ?_
              exact L76_7 _ a_6 0 (by exact ⟨by omega, by show _ = digV S; rw [h_6, h_5, hd2, hd1]; rfl⟩) (Nat.lt_succ_self _)
            · refine v_lload_n F 1 (q := 40) dX5_digest_39 rfl rfl rfl ?_
              refine v_ldc2 F (v := 31) (q := 43) (by decide +kernel) dX5_digest_40 rfl ?_
              refine v_lmul F (q := 44) dX5_digest_43 rfl ?_
              refine v_aload_n F 2 (q := 45) dX5_digest_44 rfl rfl rfl ?_
              refine v_iload_n F 0 (q := 46) dX5_digest_45 rfl rfl rfl ?_
              refine v_callVt0 F (kX5_ship hst (k := k) (h := h) (S := S) (Z := Z) hI (a0 := ((i2 : Nat) : Int)) (by omega)) (fun E u hp => absurd hp.2.1 (by unfold eShip; grind)) gX5_digest_X5_ship rfl hdX5_ship ⟨by decide, by decide⟩ 0 cw_at0 rfl rfl rfl (Nat.le_of_ble_eq_true rfl) ⟨(by first | decide | omega | (dsimp only; omega)), (by first | decide | omega | (dsimp only; omega))⟩ (q := 49) dX5_digest_46 rfl ?_
              rintro a_20 _ ⟨rfl, ⟨hz_20, h_20⟩⟩
              refine v_i2l F (q := 50) dX5_digest_49 rfl ?_
              refine v_ladd F (q := 51) dX5_digest_50 rfl ?_
              refine v_lstore_n F (q := 52) [(1, .long ((d2 * 31) + ((iI a_20).toInt64))), (3, VI ((i2 : Nat) : Int)), (0, .ref (h 0))] dX5_digest_51 rfl (by decide) rfl rfl ?_
              refine v_iinc F (q := 55) (z := ((i2 + 1 : Nat) : Int)) 1 [(3, VI ((i2 + 1 : Nat) : Int)), (1, .long ((d2 * 31) + ((iI a_20).toInt64))), (0, .ref (h 0))] dX5_digest_52 rfl (by decide) (by omega) rfl rfl ?_
              refine v_goto F (tgt := 33) dX5_digest_55 rfl ?_
              refine v_widen (c' := 8 + (i2 + 1)) (n' := 48 + (i2 + 1) * 6) (by first | omega | (dsimp only; omega)) (by first | omega | (dsimp only; omega)) ?_
              exact ih_33 ((d2 * 31) + ((iI a_20).toInt64)) (i2 + 1) (by exact ⟨by omega, by rw [dgF_s, ← hw2]; show _ = d2 * 31 + (iI (shipV S ((i2 : Nat) : Int))).toInt64; rw [← show a_20 = shipV S ((i2 : Nat) : Int) from h_20]⟩) (by omega)
        refine v_widen (c' := 8 + 0) (n' := 48 + 0 * 6) (by first | omega | (dsimp only; omega)) (by first | omega | (dsimp only; omega)) ?_
        exact L33_3 _ d 0 (by exact ⟨by omega, rfl⟩) (Nat.lt_succ_self _)
      · refine v_lload_n F 1 (q := 13) dX5_digest_12 rfl rfl rfl ?_
        refine v_ldc2 F (v := 31) (q := 16) (by decide +kernel) dX5_digest_13 rfl ?_
        refine v_lmul F (q := 17) dX5_digest_16 rfl ?_
        refine v_aload_n F 2 (q := 18) dX5_digest_17 rfl rfl rfl ?_
        refine v_iload_n F 0 (q := 19) dX5_digest_18 rfl rfl rfl ?_
        refine v_callVt0 F (kX5_count hst (k := k) (h := h) (S := S) (Z := Z) hI (a0 := ((i : Nat) : Int)) (by omega)) (fun E u hp => absurd hp.2.1 (by unfold eCnt; grind)) gX5_digest_X5_count rfl hdX5_count ⟨by decide, by decide⟩ 0 cw_at0 rfl rfl rfl (Nat.le_of_ble_eq_true rfl) ⟨(by first | decide | omega | (dsimp only; omega)), (by first | decide | omega | (dsimp only; omega))⟩ (q := 22) dX5_digest_19 rfl ?_
        rintro a_21 _ ⟨rfl, ⟨hz_21, h_21⟩⟩
        refine v_i2l F (q := 23) dX5_digest_22 rfl ?_
        refine v_ladd F (q := 24) dX5_digest_23 rfl ?_
        refine v_lstore_n F (q := 25) [(1, .long ((d * 31) + ((iI a_21).toInt64))), (3, VI ((i : Nat) : Int)), (0, .ref (h 0))] dX5_digest_24 rfl (by decide) rfl rfl ?_
        refine v_iinc F (q := 28) (z := ((i + 1 : Nat) : Int)) 1 [(3, VI ((i + 1 : Nat) : Int)), (1, .long ((d * 31) + ((iI a_21).toInt64))), (0, .ref (h 0))] dX5_digest_25 rfl (by decide) (by omega) rfl rfl ?_
        refine v_goto F (tgt := 6) dX5_digest_28 rfl ?_
        refine v_widen (c' := (i + 1)) (n' := (i + 1) * 6) (by first | omega | (dsimp only; omega)) (by first | omega | (dsimp only; omega)) ?_
        exact ih_6 ((d * 31) + ((iI a_21).toInt64)) (i + 1) (by exact ⟨by omega, by rw [dgF_s, ← hv2]; show _ = d * 31 + (iI (cntV S ((i : Nat) : Int))).toInt64; rw [← show a_21 = cntV S ((i : Nat) : Int) from h_21]⟩) (by omega)
  refine v_widen (c' := 0) (n' := 0 * 6) (by first | omega | (dsimp only; omega)) (by first | omega | (dsimp only; omega)) ?_
  exact L6_1 _ 823 0 (by exact ⟨by omega, rfl⟩) (Nat.lt_succ_self _)
