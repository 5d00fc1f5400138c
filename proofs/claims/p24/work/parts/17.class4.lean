theorem hdX5_pass : yX5_pass.cls = RX5 ∧ yX5_pass.cls ≠ "java/lang/invoke/MethodHandle" ∧ yX5_pass.cls ≠ "java/lang/invoke/VarHandle" ∧ (parseMethodDescriptor yX5_pass.desc).map (fun d => d.parameters.length) = some 1 := by decide +kernel
set_option maxRecDepth 100000 in
set_option maxHeartbeats 4000000 in
theorem kX5_pass {l : Launch} (hst : l.stackTraces = false) {k : Nat → ClassId} {h : Nat → Nat} {S Z : Nat → Nat → Int} (hI : Inv S) {a0 : Int} (g0 : R32 a0) : v_Ct l k yX5_pass wsX5_pass ({ frames := 6, cells := 1, slots := 6, locals := 90 } : Room) [.ref (h 0), VI a0] (cw k h S Z) (fun a u => u = cw k h (sPass S a0) Z ∧ ePass a0 = 0 ∧ a = rPass S a0) (fun E u => u = cw k h S Z ∧ ((ePass a0 = 1 ∧ E = E_A))) := by
  refine v_ofX (cc := cX5_pass) (nL := 6) rfl (by decide +kernel) rfl hst (Nat.le_of_ble_eq_true rfl) (fun _ _ _ => rfl) (by decide) (by decide) (fun XX F ret thr => ?_)
  have hin5 : ∀ w ∈ wsX50, w ∈ wsX5_pass := by decide +kernel
  have b7 := hI.mc
  have b8 := hI.cc
  show V XX (cw k h S Z) 0 0 0 [(0, .ref (h 0)), (1, VI a0)] []
  refine v_iload_n F 1 (q := 1) dX5_pass_0 rfl rfl rfl ?_
  refine v_const F (q := 2) dX5_pass_1 rfl ?_
  refine v_bipush F (q := 4) dX5_pass_2 rfl rfl ?_
  refine v_callSi0 F (kX5_isWithin hst (k := k) (w := cw k h S Z) (a0 := a0) (a1 := 1) (a2 := 50) (by omega) (by omega) (by omega)) gX5_pass_X5_isWithin rfl hdX5_isWithin ⟨by decide, by decide⟩ rfl rfl (Nat.le_of_ble_eq_true rfl) ⟨(Nat.zero_le _), (Nat.zero_le _)⟩ (q := 7) dX5_pass_4 rfl ?_
  rintro _ _ ⟨rfl, ⟨rfl, h_1⟩ | ⟨rfl, h_1⟩⟩
  · refine v_if_ne F (tgt := 20) (q := 10) (by omega) dX5_pass_7 rfl rfl (fun h_2 => ?_) (fun h_2 => absurd h_2 (by omega))
    refine v_aload_n F 0 (q := 21) dX5_pass_20 rfl rfl rfl ?_
    refine v_bipush F (q := 23) dX5_pass_21 rfl rfl ?_
    refine v_callVi0 F (kX5_mastsLeaning hst (k := k) (h := h) (S := S) (Z := Z) hI (a0 := 9) (by omega)) gX5_pass_X5_mastsLeaning rfl hdX5_mastsLeaning ⟨by decide, by decide⟩ 0 cw_at0 rfl rfl rfl (Nat.le_of_ble_eq_true rfl) ⟨(Nat.zero_le _), (Nat.zero_le _)⟩ (q := 26) dX5_pass_23 rfl ?_
    rintro a_3 _ ⟨rfl, h_3⟩
    have hc_3 := cnt_nn (fun m => decide (S 4 m = 9)) (mcn S)
    unfold mcn at hc_3
    refine v_istore_n F (q := 27) [(2, VI a_3), (0, .ref (h 0)), (1, VI a0)] dX5_pass_26 rfl (by decide) rfl rfl ?_
    refine v_const F (q := 28) dX5_pass_27 rfl ?_
    refine v_istore_n F (q := 29) [(3, VI 0), (2, VI a_3), (0, .ref (h 0)), (1, VI a0)] dX5_pass_28 rfl (by decide) rfl rfl ?_
    have L29_4 : ∀ (fu : Nat) (m : Nat), ((m : Int) ≤ S 0 7) → (S 0 7 - m).toNat < fu → V XX (cw k h (ur S 4 (pF S a0.toNat m)) Z) 0 0 29 [(3, VI ((m : Nat) : Int)), (2, VI a_3), (0, .ref (h 0)), (1, VI a0)] [] := by
      intro fu_29
      induction fu_29 with
      | zero => intros; omega
      | succ fu_29 ih_29 =>
        intro m hv1 hm_29
        refine v_iload_n F 0 (q := 30) dX5_pass_29 rfl rfl rfl ?_
        refine v_aload_n F 2 (q := 31) dX5_pass_30 rfl rfl rfl ?_
        refine v_get F (C := RX5) (T := TX5) (N := 14) (ci := 5) (v := VI (S 0 7)) 0 8 hin5 rfl cw_at0 (by decide) (by decide +kernel) rfl (q := 34) dX5_pass_31 rfl ?_
        have b_5 := And.intro (hI.sc 7 (by decide)) (hI.1 0 7 (by omega)).2
        refine v_icmp_ge F (tgt := 85) (q := 37) (by omega) (by omega) dX5_pass_34 rfl rfl (fun h_6 => ?_) (fun h_6 => ?_)
        · refine v_weq (congrArg (fun f9 => cw k h (ur S 4 f9) Z) (pF_end hI (n := a0.toNat) (m := m) (by omega))) ?_
          have b_c1 := cnt_nn (fun m => decide (S 4 m = 9)) (mcn S)
          refine v_aload_n F 2 (q := 86) dX5_pass_85 rfl rfl rfl ?_
          refine v_dup F (q := 87) dX5_pass_86 rfl rfl ?_
          refine v_get F (C := RX5) (T := TX5) (N := 14) (ci := 5) (v := VI (S 0 10)) 0 11 hin5 rfl cw_at0 (by decide) (by decide +kernel) rfl (q := 90) dX5_pass_87 rfl ?_
          refine v_iload_n F 3 (q := 91) dX5_pass_90 rfl rfl rfl ?_
          refine v_iadd F (q := 92) dX5_pass_91 rfl ?_
          refine v_put F (C := RX5) (T := TX5) (N := 14) (ci := 5) (ty := .int) 0 11 (cw k h (u2 (ur S 4 (lateF S a0.toNat)) 0 10 ((S 0 10) + a0)) Z) hin5 tyX5 tyX5_ok nmX5 rfl cw_at0 (by decide) (by decide +kernel) rfl (by decide +kernel) rfl rfl (Nat.le_of_ble_eq_true rfl) (cw_ship11 _) (q := 95) dX5_pass_92 rfl ?_
          refine v_aload_n F 2 (q := 96) dX5_pass_95 rfl rfl rfl ?_
          refine v_bipush F (q := 98) dX5_pass_96 rfl rfl ?_
          refine v_callVi0 F (kX5_mastsLeaning hst (k := k) (h := h) (S := (u2 (ur S 4 (lateF S a0.toNat)) 0 10 ((S 0 10) + a0))) (Z := Z) (inv_cnt (inv_ur hI (late_ok hI a0.toNat)) (by decide) _) (a0 := 9) (by omega)) gX5_pass_X5_mastsLeaning rfl hdX5_mastsLeaning ⟨by decide, by decide⟩ 0 cw_at0 rfl rfl rfl (Nat.le_of_ble_eq_true rfl) ⟨(Nat.zero_le _), (Nat.zero_le _)⟩ (q := 101) dX5_pass_98 rfl ?_
          rintro a_7 _ ⟨rfl, h_7⟩
          have hc_7 := cnt_nn (fun m => decide ((u2 (ur S 4 (lateF S a0.toNat)) 0 10 ((S 0 10) + a0)) 4 m = 9)) (mcn (u2 (ur S 4 (lateF S a0.toNat)) 0 10 ((S 0 10) + a0)))
          unfold mcn at hc_7
          refine v_iload_n F 1 (q := 102) dX5_pass_101 rfl rfl rfl ?_
          refine v_isub F (q := 103) dX5_pass_102 rfl ?_
          exact ret _ _ _ _ _ _ (Nat.zero_le _) (Nat.zero_le _) dX5_pass_103 (⟨rfl, by unfold ePass; grind, by unfold rPass; rw [show flatN S (lateF S a0.toNat) = cnt (fun m => decide ((u2 (ur S 4 (lateF S a0.toNat)) 0 10 ((S 0 10) + a0)) 4 m = 9)) (mcn (u2 (ur S 4 (lateF S a0.toNat)) 0 10 ((S 0 10) + a0))) from rfl]; unfold flatN; omega⟩)
        · refine v_aload_n F 2 (q := 38) dX5_pass_37 rfl rfl rfl ?_
          refine v_iload_n F 0 (q := 39) dX5_pass_38 rfl rfl rfl ?_
          refine v_callVi0 F (kX5_fallInAnHour hst (k := k) (h := h) (S := (ur S 4 (pF S a0.toNat m))) (Z := Z) (inv_ur hI (pF_ok hI a0.toNat m)) (m := m) (by omega)) gX5_pass_X5_fallInAnHour rfl hdX5_fallInAnHour ⟨by decide, by decide⟩ 0 cw_at0 rfl rfl rfl (Nat.le_of_ble_eq_true rfl) ⟨(Nat.zero_le _), (Nat.zero_le _)⟩ (q := 42) dX5_pass_39 rfl ?_
          rintro a_8 _ ⟨rfl, ⟨h_8, hc_8⟩⟩
          refine v_istore F (q := 44) [(4, VI a_8), (3, VI ((m : Nat) : Int)), (2, VI a_3), (0, .ref (h 0)), (1, VI a0)] dX5_pass_42 (by decide) rfl rfl ?_
          refine v_const F (q := 45) dX5_pass_44 rfl ?_
          refine v_istore F (q := 47) [(5, VI 0), (4, VI a_8), (3, VI ((m : Nat) : Int)), (2, VI a_3), (0, .ref (h 0)), (1, VI a0)] dX5_pass_45 (by decide) rfl rfl ?_
          have L47_9 : ∀ (fu : Nat) (hh : Nat), ((hh : Int) ≤ a0) → (a0 - hh).toNat < fu → V XX (cw k h (ur S 4 (qF S a0.toNat m hh)) Z) 0 0 47 [(5, VI ((hh : Nat) : Int)), (4, VI a_8), (3, VI ((m : Nat) : Int)), (2, VI a_3), (0, .ref (h 0)), (1, VI a0)] [] := by
            intro fu_47
            induction fu_47 with
            | zero => intros; omega
            | succ fu_47 ih_47 =>
              intro hh hw1 hm_47
              have b_q := qF_ok hI a0.toNat m hh
              refine v_iload F 0 (q := 49) dX5_pass_47 rfl rfl ?_
              refine v_iload_n F 5 (q := 50) dX5_pass_49 rfl rfl rfl ?_
              refine v_icmp_ge F (tgt := 79) (q := 53) (by omega) (by omega) dX5_pass_50 rfl rfl (fun h_10 => ?_) (fun h_10 => ?_)
              · refine v_iinc F (q := 82) (z := ((m + 1 : Nat) : Int)) 2 [(3, VI ((m + 1 : Nat) : Int)), (5, VI ((hh : Nat) : Int)), (4, VI a_8), (2, VI a_3), (0, .ref (h 0)), (1, VI a0)] dX5_pass_79 rfl (by decide) (by omega) rfl rfl ?_
                refine v_goto F (tgt := 29) dX5_pass_82 rfl ?_
                refine v_sub [0, 3, 4, 5] rfl ?_
                refine v_weq ((congrArg (fun f9 => cw k h (ur S 4 f9) Z) (qF_end (n := a0.toNat) (j := hh) (by omega) (by omega)))) ?_
                exact ih_29 (m + 1) (by omega) (by omega)
              · refine v_aload_n F 4 (q := 54) dX5_pass_53 rfl rfl rfl ?_
                refine v_get F (C := RX5) (T := TX5) (N := 14) (ci := 5) (v := .ref (h 6)) 0 5 hin5 rfl cw_at0 (by decide) (by decide +kernel) rfl (q := 57) dX5_pass_54 rfl ?_
                refine v_iload_n F 2 (q := 58) dX5_pass_57 rfl rfl rfl ?_
                refine v_bipush F (q := 60) dX5_pass_58 rfl rfl ?_
                refine v_aload_n F 4 (q := 61) dX5_pass_60 rfl rfl rfl ?_
                refine v_get F (C := RX5) (T := TX5) (N := 14) (ci := 5) (v := .ref (h 6)) 0 5 hin5 rfl cw_at0 (by decide) (by decide +kernel) rfl (q := 64) dX5_pass_61 rfl ?_
                refine v_iload_n F 2 (q := 65) dX5_pass_64 rfl rfl rfl ?_
                refine v_iald F (j := m) 6 cw_at6 rfl (by omega) (by decide) (q := 66) dX5_pass_65 rfl ?_
                refine v_cast (b := (qF S a0.toNat m hh) m) (by first | rfl | (simp [u2, ur]; done) | grind [u2, ur]) ?_
                have b_q9 := b_q m
                refine v_iload F 1 (q := 68) dX5_pass_66 rfl rfl ?_
                refine v_iadd F (q := 69) dX5_pass_68 rfl ?_
                refine v_min F (by omega) (by omega) (by decide +kernel) (by decide +kernel) (by decide +kernel) (by decide +kernel) ⟨by decide, Nat.le_of_ble_eq_true rfl⟩ ⟨(Nat.zero_le _), (Nat.zero_le _)⟩ (q := 72) dX5_pass_69 rfl ?_
                refine v_iast F (j := m) 6 (cw k h (u2 (ur S 4 (qF S a0.toNat m hh)) 4 m (min 9 (((qF S a0.toNat m hh) m) + a_8))) Z) cw_at6 rfl (by omega) (by decide) (cw_leans m _) (q := 73) dX5_pass_72 rfl ?_
                refine v_iinc F (q := 76) (z := ((hh + 1 : Nat) : Int)) 0 [(5, VI ((hh + 1 : Nat) : Int)), (4, VI a_8), (3, VI ((m : Nat) : Int)), (2, VI a_3), (0, .ref (h 0)), (1, VI a0)] dX5_pass_73 rfl (by decide) (by omega) rfl rfl ?_
                refine v_goto F (tgt := 47) dX5_pass_76 rfl ?_
                refine v_weq ((congrArg (fun f9 => cw k h f9 Z) (qF_s hI a0.toNat m hh (by assumption)))) ?_
                exact ih_47 (hh + 1) (by omega) (by omega)
          refine v_weq ((congrArg (fun f9 => cw k h (ur S 4 f9) Z) (qF_0 hI a0.toNat m))) ?_
          exact L47_9 _ 0 (by omega) (Nat.lt_succ_self _)
    refine v_weq ((congrArg (fun f9 => cw k h f9 Z) (pF_0 hI a0.toNat))) ?_
    exact L29_4 _ 0 (by omega) (Nat.lt_succ_self _)
  · refine v_if_ne F (tgt := 20) (q := 10) R32_0 dX5_pass_7 rfl rfl (fun h_11 => absurd h_11 (by omega)) (fun h_11 => ?_)
    exact thr E_A "hours are not 1 to 50" 58 243 62 _ _ _ 10 _ v_exA ⟨by decide +kernel, by decide +kernel, by decide +kernel⟩ (by decide +kernel) dX5_pass_10 dX5_pass_13 dX5_pass_14 dX5_pass_16 dX5_pass_19 (by decide) (by decide) (⟨rfl, ⟨by unfold ePass; grind, rfl⟩⟩)
