theorem hdX5_exploreFrom : yX5_exploreFrom.cls = RX5 ∧ yX5_exploreFrom.cls ≠ "java/lang/invoke/MethodHandle" ∧ yX5_exploreFrom.cls ≠ "java/lang/invoke/VarHandle" ∧ (parseMethodDescriptor yX5_exploreFrom.desc).map (fun d => d.parameters.length) = some 1 := by decide +kernel
set_option maxRecDepth 100000 in
set_option maxHeartbeats 4000000 in
theorem kX5_exploreFrom {l : Launch} (hst : l.stackTraces = false) {k : Nat → ClassId} {h : Nat → Nat} {S Z : Nat → Nat → Int} (hI : Inv S) {s i v : Nat} {fd : Nat} (h0 : Z 7 0 = (fd : Int)) (hC : CI S s (Z 5) (Z 4) (Z 6) fd i) (hi : i < fd) (hk : HK S Z) (hv9 : Z 4 i = (v : Int)) (hvb : v < 1000) : v_Cv l k yX5_exploreFrom wsX5_exploreFrom ({ frames := 3, cells := 0, slots := 0, locals := 65 } : Room) [.ref (h 0), VI ((v : Nat) : Int)] (cw k h S Z) (fun u => ∃ Z9, u = cw k h S Z9 ∧ XI S s Z9 (i + 1) ∧ HK S Z9) := by
  refine v_ofV (cc := cX5_exploreFrom) (nL := 3) (by decide +kernel) rfl hst (Nat.le_of_ble_eq_true rfl) (fun XX F ret => ?_)
  have hin4 : ∀ w ∈ wsX40, w ∈ wsX5_exploreFrom := by decide +kernel
  have hin5 : ∀ w ∈ wsX50, w ∈ wsX5_exploreFrom := by decide +kernel
  have b7 := hI.mc
  have b8 := hI.cc
  show V XX (cw k h S Z) 0 0 0 [(0, .ref (h 0)), (1, VI ((v : Nat) : Int))] []
  refine v_iload_n F 1 (q := 1) dX5_exploreFrom_0 rfl rfl rfl ?_
  refine v_aload_n F 0 (q := 2) dX5_exploreFrom_1 rfl rfl rfl ?_
  refine v_get F (C := RX5) (T := TX5) (N := 14) (ci := 5) (v := .ref (h 7)) 0 6 hin5 rfl cw_at0 (by decide) (by decide +kernel) rfl (q := 5) dX5_exploreFrom_2 rfl ?_
  refine v_callSv0 F (kX4_decode hst (k := k) (h := h) (S := S) (Z := Z) (n := v) (by omega) (r := 0) (by decide)) gX5_exploreFrom_X4_decode rfl hdX4_decode ⟨by decide, by decide⟩ rfl rfl (Nat.le_of_ble_eq_true rfl) ⟨(Nat.zero_le _), (Nat.zero_le _)⟩ (q := 8) dX5_exploreFrom_5 rfl ?_
  rintro _ rfl
  refine v_const F (q := 9) dX5_exploreFrom_8 rfl ?_
  refine v_istore_n F (q := 10) [(2, VI 0), (0, .ref (h 0)), (1, VI ((v : Nat) : Int))] dX5_exploreFrom_9 rfl (by decide) rfl rfl ?_
  have L10_2 : ∀ (fu : Nat) (m : Nat) (Zx : Nat → Nat → Int), ((m : Int) ≤ S 0 7 ∧ EI S s Zx i m v) → (S 0 7 - m).toNat < fu → V XX (cw k h S Zx) 0 0 10 [(2, VI ((m : Nat) : Int)), (0, .ref (h 0)), (1, VI ((v : Nat) : Int))] [] := by
    intro fu_10
    induction fu_10 with
    | zero => intros; omega
    | succ fu_10 ih_10 =>
      intro m Zx hv hm_10
      obtain ⟨hv1, hE⟩ := hv
      have hd9 := EI_dig hE
      have hhk := EI_hk hE
      refine v_iload_n F 0 (q := 11) dX5_exploreFrom_10 rfl rfl rfl ?_
      refine v_aload_n F 1 (q := 12) dX5_exploreFrom_11 rfl rfl rfl ?_
      refine v_get F (C := RX5) (T := TX5) (N := 14) (ci := 5) (v := VI (S 0 7)) 0 8 hin5 rfl cw_at0 (by decide) (by decide +kernel) rfl (q := 15) dX5_exploreFrom_12 rfl ?_
      have b_3 := And.intro (hI.sc 7 (by decide)) (hI.1 0 7 (by omega)).2
      refine v_icmp_ge F (tgt := 112) (q := 18) (by omega) (by omega) dX5_exploreFrom_15 rfl rfl (fun h_4 => ?_) (fun h_4 => ?_)
      · exact ret _ _ _ _ _ (Nat.zero_le _) (Nat.zero_le _) dX5_exploreFrom_112 (⟨Zx, rfl, hE.done hI (by omega)⟩)
      · refine v_aload_n F 1 (q := 19) dX5_exploreFrom_18 rfl rfl rfl ?_
        refine v_get F (C := RX5) (T := TX5) (N := 14) (ci := 5) (v := .ref (h 5)) 0 4 hin5 rfl cw_at0 (by decide) (by decide +kernel) rfl (q := 22) dX5_exploreFrom_19 rfl ?_
        refine v_get F (C := RX4) (T := TX4) (N := 6) (ci := 4) (v := .ref (h 23)) 5 0 hin4 rfl cw_at5 (by decide) (by decide +kernel) rfl (q := 25) dX5_exploreFrom_22 rfl ?_
        refine v_iload_n F 0 (q := 26) dX5_exploreFrom_25 rfl rfl rfl ?_
        refine v_iald F (j := m) 23 cw_at23 rfl (by omega) (by decide) (q := 27) dX5_exploreFrom_26 rfl ?_
        have hhb := HndP_bd hI (hhk m (by omega)).1
        refine v_const F (q := 28) dX5_exploreFrom_27 rfl ?_
        refine v_icmp_eq F (tgt := 106) (q := 31) (by omega) (by omega) dX5_exploreFrom_28 rfl rfl (fun h_5 => ?_) (fun h_5 => ?_)
        · refine v_iinc F (q := 109) (z := ((m + 1 : Nat) : Int)) 0 [(2, VI ((m + 1 : Nat) : Int)), (0, .ref (h 0)), (1, VI ((v : Nat) : Int))] dX5_exploreFrom_106 rfl (by decide) (by omega) rfl rfl ?_
          refine v_goto F (tgt := 10) dX5_exploreFrom_109 rfl ?_
          exact ih_10 (m + 1) Zx (by first | exact ⟨by omega, hE.none (by omega) (by assumption)⟩ | exact ⟨by omega, hE.skip (fun n9 he9 => he9.2.1 (by rw [← hd9 m (by omega)]; assumption))⟩) (by omega)
        · refine v_aload_n F 1 (q := 32) dX5_exploreFrom_31 rfl rfl rfl ?_
          refine v_get F (C := RX5) (T := TX5) (N := 14) (ci := 5) (v := .ref (h 7)) 0 6 hin5 rfl cw_at0 (by decide) (by decide +kernel) rfl (q := 35) dX5_exploreFrom_32 rfl ?_
          refine v_iload_n F 0 (q := 36) dX5_exploreFrom_35 rfl rfl rfl ?_
          refine v_iald F (j := m) 7 cw_at7 rfl (by omega) (by decide) (q := 37) dX5_exploreFrom_36 rfl ?_
          have hdb := hd9 m (by omega)
          have hdb2 := dig_D9 v m (by omega)
          refine v_if_ne F (tgt := 43) (q := 40) (by omega) dX5_exploreFrom_37 rfl rfl (fun h_6 => ?_) (fun h_6 => ?_)
          · have hhm := hhk m (by omega)
            have hlow : Zx 3 m = mskI (fun o => lowB S ((m : Nat) : Int) (o : Int)) := hhm.2
            refine v_iload_n F 0 (q := 44) dX5_exploreFrom_43 rfl rfl rfl ?_
            refine v_aload_n F 1 (q := 45) dX5_exploreFrom_44 rfl rfl rfl ?_
            refine v_get F (C := RX5) (T := TX5) (N := 14) (ci := 5) (v := .ref (h 5)) 0 4 hin5 rfl cw_at0 (by decide) (by decide +kernel) rfl (q := 48) dX5_exploreFrom_45 rfl ?_
            refine v_get F (C := RX4) (T := TX4) (N := 6) (ci := 4) (v := .ref (h 24)) 5 1 hin4 rfl cw_at5 (by decide) (by decide +kernel) rfl (q := 51) dX5_exploreFrom_48 rfl ?_
            refine v_iload_n F 0 (q := 52) dX5_exploreFrom_51 rfl rfl rfl ?_
            refine v_iald F (j := m) 24 cw_at24 rfl (by omega) (by decide) (q := 53) dX5_exploreFrom_52 rfl ?_
            refine v_cast (b := mskI (fun o => lowB S ((m : Nat) : Int) (o : Int))) hlow ?_
            refine v_aload_n F 1 (q := 54) dX5_exploreFrom_53 rfl rfl rfl ?_
            refine v_get F (C := RX5) (T := TX5) (N := 14) (ci := 5) (v := .ref (h 7)) 0 6 hin5 rfl cw_at0 (by decide) (by decide +kernel) rfl (q := 57) dX5_exploreFrom_54 rfl ?_
            refine v_aload_n F 1 (q := 58) dX5_exploreFrom_57 rfl rfl rfl ?_
            refine v_get F (C := RX5) (T := TX5) (N := 14) (ci := 5) (v := .ref (h 8)) 0 7 hin5 rfl cw_at0 (by decide) (by decide +kernel) rfl (q := 61) dX5_exploreFrom_58 rfl ?_
            refine v_callSv0 F (kX5_raise hst (k := k) (h := h) (S := S) (Z := Zx) hI (m := m) (by omega) (b := (fun o => lowB S ((m : Nat) : Int) (o : Int))) (rq := 7) (ra := h 7) (f := Zx 0) (fun Z9 e9 => cw_bef e9) (fun o9 ho9 => by rw [hd9 o9 ho9]; exact dig_D9 _ o9 ho9)) gX5_exploreFrom_X5_raise rfl hdX5_raise ⟨by decide, by decide⟩ rfl rfl (Nat.le_of_ble_eq_true rfl) ⟨(Nat.zero_le _), (Nat.zero_le _)⟩ (q := 64) dX5_exploreFrom_61 rfl ?_
            rintro _ ⟨Z_7, rfl, hA_7, hR_7⟩
            have hE9 := hE.same hA_7
            have hR9 : ∀ o, o < 3 → Z_7 1 o = raiseF S m (dig v) o := fun o9 ho9 => by rw [hR_7 o9 ho9]; unfold rzF raiseF; rw [hd9 o9 ho9]
            have hZ2 : Z_7 2 m = Zx 2 m := hA_7 2 m (by decide)
            have hb9 := raise_bd (S := S) (m := m) (dig_D9 v) (by rw [← hd9 m (by omega)]; assumption)
            have hf9 : fitsB S (Z_7 1) = fitsB S (raiseF S m (dig v)) := fits_cg hI hR9
            have hc9 : codeF (Z_7 1) = codeF (raiseF S m (dig v)) := code_cg hR9
            refine v_aload_n F 1 (q := 65) dX5_exploreFrom_64 rfl rfl rfl ?_
            refine v_get F (C := RX5) (T := TX5) (N := 14) (ci := 5) (v := VI (S 0 9)) 0 10 hin5 rfl cw_at0 (by decide) (by decide +kernel) rfl (q := 68) dX5_exploreFrom_65 rfl ?_
            have b_8 := hI.isin
            refine v_if_eq F (tgt := 82) (q := 71) (by omega) dX5_exploreFrom_68 rfl rfl (fun h_9 => ?_) (fun h_9 => ?_)
            · refine v_aload_n F 1 (q := 83) dX5_exploreFrom_82 rfl rfl rfl ?_
              refine v_get F (C := RX5) (T := TX5) (N := 14) (ci := 5) (v := .ref (h 5)) 0 4 hin5 rfl cw_at0 (by decide) (by decide +kernel) rfl (q := 86) dX5_exploreFrom_83 rfl ?_
              refine v_iload_n F 2 (q := 87) dX5_exploreFrom_86 rfl rfl rfl ?_
              refine v_aload_n F 1 (q := 88) dX5_exploreFrom_87 rfl rfl rfl ?_
              refine v_get F (C := RX5) (T := TX5) (N := 14) (ci := 5) (v := .ref (h 8)) 0 7 hin5 rfl cw_at0 (by decide) (by decide +kernel) rfl (q := 91) dX5_exploreFrom_88 rfl ?_
              refine v_callSi0 F (kX4_encode hst (k := k) (h := h) (S := S) (Z := Z_7) hI (rq := 8) (ra := h 8) (f := Z_7 1) cw_at8 (fun o9 ho9 => by rw [hR9 o9 ho9]; exact hb9 o9 ho9)) gX5_exploreFrom_X4_encode rfl hdX4_encode ⟨by decide, by decide⟩ rfl rfl (Nat.le_of_ble_eq_true rfl) ⟨(Nat.zero_le _), (Nat.zero_le _)⟩ (q := 94) dX5_exploreFrom_91 rfl ?_
              rintro a_10 _ ⟨rfl, ⟨h_10, hc_10⟩⟩
              refine v_aload_n F 1 (q := 95) dX5_exploreFrom_94 rfl rfl rfl ?_
              refine v_get F (C := RX5) (T := TX5) (N := 14) (ci := 5) (v := .ref (h 5)) 0 4 hin5 rfl cw_at0 (by decide) (by decide +kernel) rfl (q := 98) dX5_exploreFrom_95 rfl ?_
              refine v_get F (C := RX4) (T := TX4) (N := 6) (ci := 4) (v := .ref (h 23)) 5 0 hin4 rfl cw_at5 (by decide) (by decide +kernel) rfl (q := 101) dX5_exploreFrom_98 rfl ?_
              refine v_iload_n F 0 (q := 102) dX5_exploreFrom_101 rfl rfl rfl ?_
              refine v_iald F (j := m) 23 cw_at23 rfl (by omega) (by decide) (q := 103) dX5_exploreFrom_102 rfl ?_
              refine v_steq (st9 := [VI (Z_7 2 m), VI ((a_10.toNat : Nat) : Int), VI ((v : Nat) : Int), .ref (h 5)]) (by rw [show ((a_10.toNat : Nat) : Int) = a_10 from (by omega)]) ?_
              refine v_callVv0 F (kX4_reach hst (k := k) (h := h) (S := S) (Z := Z_7) (v := v) (n := a_10.toNat) (by omega) (by omega) (hd := Z_7 2 m) (EI_b1 hE9) (EI_b2 hE9) (by omega) (EI_b4 hE9 (by omega))) gX5_exploreFrom_X4_reach rfl hdX4_reach ⟨by decide, by decide⟩ 5 cw_at5 rfl rfl rfl (Nat.le_of_ble_eq_true rfl) ⟨(Nat.zero_le _), (Nat.zero_le _)⟩ (q := 106) dX5_exploreFrom_103 rfl ?_
              rintro _ rfl
              refine v_iinc F (q := 109) (z := ((m + 1 : Nat) : Int)) 0 [(2, VI ((m + 1 : Nat) : Int)), (0, .ref (h 0)), (1, VI ((v : Nat) : Int))] dX5_exploreFrom_106 rfl (by decide) (by omega) rfl rfl ?_
              refine v_goto F (tgt := 10) dX5_exploreFrom_109 rfl ?_
              exact ih_10 (m + 1) (reachZ Z_7 v (a_10.toNat) (Z_7 2 m)) (by exact ⟨by omega, hE9.reach hI (by omega) (by rw [hZ2]; assumption) (by rw [← hd9 m (by omega)]; assumption) (fun z9 => by first | (have := z9.1; omega) | (have z8 := z9.2; rw [← hf9] at z8; simp_all)) (by rw [← hc9]; omega)⟩) (by omega)
            · refine v_aload_n F 1 (q := 72) dX5_exploreFrom_71 rfl rfl rfl ?_
              refine v_aload_n F 1 (q := 73) dX5_exploreFrom_72 rfl rfl rfl ?_
              refine v_get F (C := RX5) (T := TX5) (N := 14) (ci := 5) (v := .ref (h 8)) 0 7 hin5 rfl cw_at0 (by decide) (by decide +kernel) rfl (q := 76) dX5_exploreFrom_73 rfl ?_
              refine v_callVi0 F (kX5_fitsWith hst (k := k) (h := h) (S := S) (Z := Z_7) hI (rq := 8) (ra := h 8) (f := Z_7 1) cw_at8 (fun o9 ho9 => by rw [hR9 o9 ho9]; exact hb9 o9 ho9)) gX5_exploreFrom_X5_fitsWith rfl hdX5_fitsWith ⟨by decide, by decide⟩ 0 cw_at0 rfl rfl rfl (Nat.le_of_ble_eq_true rfl) ⟨(Nat.zero_le _), (Nat.zero_le _)⟩ (q := 79) dX5_exploreFrom_76 rfl ?_
              rintro _ _ ⟨rfl, ⟨rfl, h_12⟩ | ⟨rfl, h_12⟩⟩
              · refine v_if_eq F (tgt := 106) (q := 82) (by omega) dX5_exploreFrom_79 rfl rfl (fun h_13 => absurd h_13 (by omega)) (fun h_13 => ?_)
                refine v_aload_n F 1 (q := 83) dX5_exploreFrom_82 rfl rfl rfl ?_
                refine v_get F (C := RX5) (T := TX5) (N := 14) (ci := 5) (v := .ref (h 5)) 0 4 hin5 rfl cw_at0 (by decide) (by decide +kernel) rfl (q := 86) dX5_exploreFrom_83 rfl ?_
                refine v_iload_n F 2 (q := 87) dX5_exploreFrom_86 rfl rfl rfl ?_
                refine v_aload_n F 1 (q := 88) dX5_exploreFrom_87 rfl rfl rfl ?_
                refine v_get F (C := RX5) (T := TX5) (N := 14) (ci := 5) (v := .ref (h 8)) 0 7 hin5 rfl cw_at0 (by decide) (by decide +kernel) rfl (q := 91) dX5_exploreFrom_88 rfl ?_
                refine v_callSi0 F (kX4_encode hst (k := k) (h := h) (S := S) (Z := Z_7) hI (rq := 8) (ra := h 8) (f := Z_7 1) cw_at8 (fun o9 ho9 => by rw [hR9 o9 ho9]; exact hb9 o9 ho9)) gX5_exploreFrom_X4_encode rfl hdX4_encode ⟨by decide, by decide⟩ rfl rfl (Nat.le_of_ble_eq_true rfl) ⟨(Nat.zero_le _), (Nat.zero_le _)⟩ (q := 94) dX5_exploreFrom_91 rfl ?_
                rintro a_14 _ ⟨rfl, ⟨h_14, hc_14⟩⟩
                refine v_aload_n F 1 (q := 95) dX5_exploreFrom_94 rfl rfl rfl ?_
                refine v_get F (C := RX5) (T := TX5) (N := 14) (ci := 5) (v := .ref (h 5)) 0 4 hin5 rfl cw_at0 (by decide) (by decide +kernel) rfl (q := 98) dX5_exploreFrom_95 rfl ?_
                refine v_get F (C := RX4) (T := TX4) (N := 6) (ci := 4) (v := .ref (h 23)) 5 0 hin4 rfl cw_at5 (by decide) (by decide +kernel) rfl (q := 101) dX5_exploreFrom_98 rfl ?_
                refine v_iload_n F 0 (q := 102) dX5_exploreFrom_101 rfl rfl rfl ?_
                refine v_iald F (j := m) 23 cw_at23 rfl (by omega) (by decide) (q := 103) dX5_exploreFrom_102 rfl ?_
                refine v_steq (st9 := [VI (Z_7 2 m), VI ((a_14.toNat : Nat) : Int), VI ((v : Nat) : Int), .ref (h 5)]) (by rw [show ((a_14.toNat : Nat) : Int) = a_14 from (by omega)]) ?_
                refine v_callVv0 F (kX4_reach hst (k := k) (h := h) (S := S) (Z := Z_7) (v := v) (n := a_14.toNat) (by omega) (by omega) (hd := Z_7 2 m) (EI_b1 hE9) (EI_b2 hE9) (by omega) (EI_b4 hE9 (by omega))) gX5_exploreFrom_X4_reach rfl hdX4_reach ⟨by decide, by decide⟩ 5 cw_at5 rfl rfl rfl (Nat.le_of_ble_eq_true rfl) ⟨(Nat.zero_le _), (Nat.zero_le _)⟩ (q := 106) dX5_exploreFrom_103 rfl ?_
                rintro _ rfl
                refine v_iinc F (q := 109) (z := ((m + 1 : Nat) : Int)) 0 [(2, VI ((m + 1 : Nat) : Int)), (0, .ref (h 0)), (1, VI ((v : Nat) : Int))] dX5_exploreFrom_106 rfl (by decide) (by omega) rfl rfl ?_
                refine v_goto F (tgt := 10) dX5_exploreFrom_109 rfl ?_
                exact ih_10 (m + 1) (reachZ Z_7 v (a_14.toNat) (Z_7 2 m)) (by exact ⟨by omega, hE9.reach hI (by omega) (by rw [hZ2]; assumption) (by rw [← hd9 m (by omega)]; assumption) (fun z9 => by first | (have := z9.1; omega) | (have z8 := z9.2; rw [← hf9] at z8; simp_all)) (by rw [← hc9]; omega)⟩) (by omega)
              · refine v_if_eq F (tgt := 106) (q := 82) R32_0 dX5_exploreFrom_79 rfl rfl (fun h_16 => ?_) (fun h_16 => absurd h_16 (by omega))
                refine v_iinc F (q := 109) (z := ((m + 1 : Nat) : Int)) 0 [(2, VI ((m + 1 : Nat) : Int)), (0, .ref (h 0)), (1, VI ((v : Nat) : Int))] dX5_exploreFrom_106 rfl (by decide) (by omega) rfl rfl ?_
                refine v_goto F (tgt := 10) dX5_exploreFrom_109 rfl ?_
                exact ih_10 (m + 1) Z_7 (by exact ⟨by omega, hE9.skip (fun n9 he9 => he9.2.2.1 ⟨by omega, by rw [← hf9]; cases hq9 : fitsB S (Z_7 1) with | false => rfl | true => contradiction⟩)⟩) (by omega)
          · refine v_goto F (tgt := 106) dX5_exploreFrom_40 rfl ?_
            refine v_iinc F (q := 109) (z := ((m + 1 : Nat) : Int)) 0 [(2, VI ((m + 1 : Nat) : Int)), (0, .ref (h 0)), (1, VI ((v : Nat) : Int))] dX5_exploreFrom_106 rfl (by decide) (by omega) rfl rfl ?_
            refine v_goto F (tgt := 10) dX5_exploreFrom_109 rfl ?_
            exact ih_10 (m + 1) Zx (by first | exact ⟨by omega, hE.none (by omega) (by assumption)⟩ | exact ⟨by omega, hE.skip (fun n9 he9 => he9.2.1 (by rw [← hd9 m (by omega)]; assumption))⟩) (by omega)
  exact L10_2 _ 0 (decZ Z 0 v) (by exact ⟨by omega, EI.start h0 hC hi hv9 hk⟩) (Nat.lt_succ_self _)
