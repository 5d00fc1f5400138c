theorem hdX6_search : yX6_search.cls = RX6 ∧ yX6_search.cls ≠ "java/lang/invoke/MethodHandle" ∧ yX6_search.cls ≠ "java/lang/invoke/VarHandle" ∧ (parseMethodDescriptor yX6_search.desc).map (fun d => d.parameters.length) = some 1 := by decide +kernel
set_option maxRecDepth 100000 in
set_option maxHeartbeats 4000000 in
theorem kX6_search {l : Launch} (hst : l.stackTraces = false) {k : Nat → ClassId} {g : Nat → Nat} {S Y : Nat → Nat → Int} (hI : Inv S) {s : Nat} (hs : s < 1000) : v_Ci l k yX6_search wsX6_search ({ frames := 6, cells := 0, slots := 0, locals := 132 } : Room) [.ref (g 0), VI ((s : Nat) : Int)] (mw k g S Y) (fun a u => ∃ Y9 : Nat → Nat → Int, ∃ fd : Nat, u = mw k g S Y9 ∧ Y9 0 0 = Y 0 0 ∧ a = (fd : Int) ∧ BV S s (Y9 1) (Y9 2) fd ∧ BC S (Y9 1) (Y9 2) fd ∧ ∀ n, n < 1000 → -1 ≤ Y9 1 n ∧ Y9 1 n ≤ 1000) := by
  refine v_ofI (cc := cX6_search) (nL := 6) (by decide +kernel) rfl hst (Nat.le_of_ble_eq_true rfl) (fun _ _ _ => rfl) (fun XX F ret => ?_)
  have hin6 : ∀ w ∈ wsX60, w ∈ wsX6_search := by decide +kernel
  have b7 := hI.mc
  have b8 := hI.cc
  show V XX (mw k g S Y) 0 0 0 [(0, .ref (g 0)), (1, VI ((s : Nat) : Int))] []
  refine v_const F (q := 1) dX6_search_0 rfl ?_
  refine v_istore_n F (q := 2) [(2, VI 0), (0, .ref (g 0)), (1, VI ((s : Nat) : Int))] dX6_search_1 rfl (by decide) rfl rfl ?_
  have L2_1 : ∀ (fu : Nat) (i : Nat), (i ≤ 1000) → 1000 - i < fu → V XX (mw k g S (ur Y 1 (fillF Y 1 (-1) i))) 0 0 2 [(2, VI ((i : Nat) : Int)), (0, .ref (g 0)), (1, VI ((s : Nat) : Int))] [] := by
    intro fu_2
    induction fu_2 with
    | zero => intros; omega
    | succ fu_2 ih_2 =>
      intro i hv1 hm_2
      refine v_iload_n F 0 (q := 3) dX6_search_2 rfl rfl rfl ?_
      refine v_sipush F (q := 6) dX6_search_3 rfl rfl ?_
      refine v_icmp_ge F (tgt := 22) (q := 9) (by omega) (by omega) dX6_search_6 rfl rfl (fun h_2 => ?_) (fun h_2 => ?_)
      · have hi9 : i = 1000 := (by omega)
        refine v_aload_n F 1 (q := 23) dX6_search_22 rfl rfl rfl ?_
        refine v_get F (C := RX6) (T := TX6) (N := 25) (ci := 6) (v := .ref (g 9)) 0 23 hin6 rfl mw_at0 (by decide) (by decide +kernel) rfl (q := 26) dX6_search_23 rfl ?_
        refine v_iload_n F 2 (q := 27) dX6_search_26 rfl rfl rfl ?_
        refine v_const F (q := 28) dX6_search_27 rfl ?_
        refine v_iast F (j := s) 9 (mw k g S (u2 (ur Y 1 (fillF Y 1 (-1) i)) 1 s 0)) mw_at9 rfl (by omega) (by decide) (mw_row9 s _) (q := 29) dX6_search_28 rfl ?_
        refine v_aload_n F 1 (q := 30) dX6_search_29 rfl rfl rfl ?_
        refine v_get F (C := RX6) (T := TX6) (N := 25) (ci := 6) (v := .ref (g 10)) 0 24 hin6 rfl mw_at0 (by decide) (by decide +kernel) rfl (q := 33) dX6_search_30 rfl ?_
        refine v_const F (q := 34) dX6_search_33 rfl ?_
        refine v_iload_n F 2 (q := 35) dX6_search_34 rfl rfl rfl ?_
        refine v_iast F (j := 0) 10 (mw k g S (u2 (u2 (ur Y 1 (fillF Y 1 (-1) i)) 1 s 0) 2 0 ((s : Nat) : Int))) mw_at10 rfl (by omega) (by decide) (mw_row10 0 _) (q := 36) dX6_search_35 rfl ?_
        refine v_const F (q := 37) dX6_search_36 rfl ?_
        refine v_istore_n F (q := 38) [(2, VI 1), (0, .ref (g 0)), (1, VI ((s : Nat) : Int))] dX6_search_37 rfl (by decide) rfl rfl ?_
        refine v_const F (q := 39) dX6_search_38 rfl ?_
        refine v_istore_n F (q := 40) [(3, VI 0), (2, VI 1), (0, .ref (g 0)), (1, VI ((s : Nat) : Int))] dX6_search_39 rfl (by decide) rfl rfl ?_
        have L40_3 : ∀ (fu : Nat) (fd : Nat) (i2 : Nat) (Yx : Nat → Nat → Int), (SI S s Yx fd i2 ∧ Yx 0 0 = Y 0 0) → 1001 - i2 < fu → V XX (mw k g S Yx) 0 0 40 [(3, VI ((i2 : Nat) : Int)), (2, VI ((fd : Nat) : Int)), (0, .ref (g 0)), (1, VI ((s : Nat) : Int))] [] := by
          intro fu_40
          induction fu_40 with
          | zero => intros; omega
          | succ fu_40 ih_40 =>
            intro fd i2 Yx hS hm_40
            obtain ⟨hS, hY0⟩ := hS
            have hle := hS.1.le
            have hif := hS.2.2.2.1
            refine v_iload_n F 0 (q := 41) dX6_search_40 rfl rfl rfl ?_
            refine v_iload_n F 1 (q := 42) dX6_search_41 rfl rfl rfl ?_
            refine v_icmp_ge F (tgt := 147) (q := 45) (by omega) (by omega) dX6_search_42 rfl rfl (fun h_4 => ?_) (fun h_4 => ?_)
            · refine v_iload_n F 1 (q := 148) dX6_search_147 rfl rfl rfl ?_
              exact ret _ _ _ _ _ _ (Nat.zero_le _) (Nat.zero_le _) dX6_search_148 (⟨Yx, fd, rfl, hY0, rfl, hS.1, (by rw [show fd = i2 from (by omega)]; exact hS.2.2.1), fun n9 hn9 => hS.1.pb hS.2.1 hS.2.2.2.2 hn9⟩)
            · refine v_const F (q := 46) dX6_search_45 rfl ?_
              refine v_istore F (q := 48) [(4, VI 0), (3, VI ((i2 : Nat) : Int)), (2, VI ((fd : Nat) : Int)), (0, .ref (g 0)), (1, VI ((s : Nat) : Int))] dX6_search_46 (by decide) rfl rfl ?_
              have L48_5 : ∀ (fu : Nat) (fd2 : Nat) (t : Nat) (Yz : Nat → Nat → Int), ((t : Int) ≤ S 0 8 ∧ SI S s Yz fd2 i2 ∧ PT S Yz i2 t ∧ Yz 0 0 = Y 0 0 ∧ i2 < fd2) → (S 0 8 - t).toNat < fu → V XX (mw k g S Yz) 0 0 48 [(4, VI ((t : Nat) : Int)), (3, VI ((i2 : Nat) : Int)), (2, VI ((fd2 : Nat) : Int)), (0, .ref (g 0)), (1, VI ((s : Nat) : Int))] [] := by
                intro fu_48
                induction fu_48 with
                | zero => intros; omega
                | succ fu_48 ih_48 =>
                  intro fd2 t Yz hT hm_48
                  obtain ⟨ht1, hT, hM, hY, hlt⟩ := hT
                  have hle2 := hT.1.le
                  have hqa := hT.1.at (j := i2) (by omega)
                  refine v_iload F 0 (q := 50) dX6_search_48 rfl rfl ?_
                  refine v_aload_n F 3 (q := 51) dX6_search_50 rfl rfl rfl ?_
                  refine v_get F (C := RX6) (T := TX6) (N := 25) (ci := 6) (v := VI (S 0 8)) 0 18 hin6 rfl mw_at0 (by decide) (by decide +kernel) rfl (q := 54) dX6_search_51 rfl ?_
                  have b_6 := And.intro (hI.sc 8 (by decide)) (hI.1 0 8 (by omega)).2
                  refine v_icmp_ge F (tgt := 141) (q := 57) (by omega) (by omega) dX6_search_54 rfl rfl (fun h_7 => ?_) (fun h_7 => ?_)
                  · refine v_iinc F (q := 144) (z := ((i2 + 1 : Nat) : Int)) 1 [(3, VI ((i2 + 1 : Nat) : Int)), (4, VI ((t : Nat) : Int)), (2, VI ((fd2 : Nat) : Int)), (0, .ref (g 0)), (1, VI ((s : Nat) : Int))] dX6_search_141 rfl (by decide) (by omega) rfl rfl ?_
                    refine v_goto F (tgt := 40) dX6_search_144 rfl ?_
                    refine v_sub [0, 2, 3, 4] rfl ?_
                    exact ih_40 fd2 (i2 + 1) Yz (by exact ⟨hT.next (by omega) (by omega) hM, hY⟩) (by omega)
                  · refine v_aload_n F 3 (q := 58) dX6_search_57 rfl rfl rfl ?_
                    refine v_get F (C := RX6) (T := TX6) (N := 25) (ci := 6) (v := .ref (g 8)) 0 22 hin6 rfl mw_at0 (by decide) (by decide +kernel) rfl (q := 61) dX6_search_58 rfl ?_
                    refine v_iload F 0 (q := 63) dX6_search_61 rfl rfl ?_
                    refine v_iald F (j := t) 8 mw_at8 rfl (by omega) (by decide) (q := 64) dX6_search_63 rfl ?_
                    have b_8 := hI.st t
                    refine v_if_ne F (tgt := 82) (q := 67) (by omega) dX6_search_64 rfl rfl (fun h_9 => ?_) (fun h_9 => ?_)
                    · refine v_const F (q := 83) dX6_search_82 rfl ?_
                      refine v_istore F (q := 85) [(5, VI (-1)), (4, VI ((t : Nat) : Int)), (3, VI ((i2 : Nat) : Int)), (2, VI ((fd2 : Nat) : Int)), (0, .ref (g 0)), (1, VI ((s : Nat) : Int))] dX6_search_83 (by decide) rfl rfl ?_
                      refine v_iload F 0 (q := 87) dX6_search_85 rfl rfl ?_
                      refine v_if_lt F (tgt := 135) (q := 90) (by omega) dX6_search_87 rfl rfl (fun h_10 => ?_) (fun h_10 => absurd h_10 (by omega))
                      refine v_iinc F (q := 138) (z := ((t + 1 : Nat) : Int)) 1 [(4, VI ((t + 1 : Nat) : Int)), (5, VI (-1)), (3, VI ((i2 : Nat) : Int)), (2, VI ((fd2 : Nat) : Int)), (0, .ref (g 0)), (1, VI ((s : Nat) : Int))] dX6_search_135 rfl (by decide) (by omega) rfl rfl ?_
                      refine v_goto F (tgt := 48) dX6_search_138 rfl ?_
                      refine v_sub [0, 2, 3, 4, 5] rfl ?_
                      exact ih_48 fd2 (t + 1) Yz (by first | exact ⟨by omega, hT, hM.skip (stp_no (by assumption)), hY, by omega⟩ | exact ⟨by omega, hT, hM.skip (by rw [stp_yes (by assumption) h_0]; omega), hY, by omega⟩ | exact ⟨by omega, hT, PT.old (n' := a_0.toNat) hT (by omega) (by omega) hM (by rw [stp_yes (by assumption) h_0]; omega) (by assumption), hY, by omega⟩) (by omega)
                    · refine v_aload_n F 3 (q := 68) dX6_search_67 rfl rfl rfl ?_
                      refine v_aload_n F 3 (q := 69) dX6_search_68 rfl rfl rfl ?_
                      refine v_get F (C := RX6) (T := TX6) (N := 25) (ci := 6) (v := .ref (g 10)) 0 24 hin6 rfl mw_at0 (by decide) (by decide +kernel) rfl (q := 72) dX6_search_69 rfl ?_
                      refine v_iload_n F 1 (q := 73) dX6_search_72 rfl rfl rfl ?_
                      refine v_iald F (j := i2) 10 mw_at10 rfl (by omega) (by decide) (q := 74) dX6_search_73 rfl ?_
                      refine v_cast (b := codeF (dig (Yz 2 i2).toNat)) (by rw [dig_code (by omega)]; omega) ?_
                      refine v_iload F 0 (q := 76) dX6_search_74 rfl rfl ?_
                      refine v_callVi0 F (kX6_behind hst (k := k) (g := g) (S := S) (Y := Yz) hI (f := (dig (Yz 2 i2).toNat)) (dig_D9 _) (t := t) (by omega)) gX6_search_X6_behind rfl hdX6_behind ⟨by decide, by decide⟩ 0 mw_at0 rfl rfl rfl (Nat.le_of_ble_eq_true rfl) ⟨(Nat.zero_le _), (Nat.zero_le _)⟩ (q := 79) dX6_search_76 rfl ?_
                      rintro a_11 _ ⟨rfl, ⟨h_11, hc_11⟩⟩
                      refine v_goto F (tgt := 83) dX6_search_79 rfl ?_
                      refine v_istore F (q := 85) [(5, VI a_11), (4, VI ((t : Nat) : Int)), (3, VI ((i2 : Nat) : Int)), (2, VI ((fd2 : Nat) : Int)), (0, .ref (g 0)), (1, VI ((s : Nat) : Int))] dX6_search_83 (by decide) rfl rfl ?_
                      refine v_iload F 0 (q := 87) dX6_search_85 rfl rfl ?_
                      refine v_if_lt F (tgt := 135) (q := 90) (by omega) dX6_search_87 rfl rfl (fun h_12 => ?_) (fun h_12 => ?_)
                      · refine v_iinc F (q := 138) (z := ((t + 1 : Nat) : Int)) 1 [(4, VI ((t + 1 : Nat) : Int)), (5, VI a_11), (3, VI ((i2 : Nat) : Int)), (2, VI ((fd2 : Nat) : Int)), (0, .ref (g 0)), (1, VI ((s : Nat) : Int))] dX6_search_135 rfl (by decide) (by omega) rfl rfl ?_
                        refine v_goto F (tgt := 48) dX6_search_138 rfl ?_
                        refine v_sub [0, 2, 3, 4, 5] rfl ?_
                        exact ih_48 fd2 (t + 1) Yz (by first | exact ⟨by omega, hT, hM.skip (stp_no (by assumption)), hY, by omega⟩ | exact ⟨by omega, hT, hM.skip (by rw [stp_yes (by assumption) h_11]; omega), hY, by omega⟩ | exact ⟨by omega, hT, PT.old (n' := a_11.toNat) hT (by omega) (by omega) hM (by rw [stp_yes (by assumption) h_11]; omega) (by assumption), hY, by omega⟩) (by omega)
                      · refine v_aload_n F 4 (q := 91) dX6_search_90 rfl rfl rfl ?_
                        refine v_get F (C := RX6) (T := TX6) (N := 25) (ci := 6) (v := .ref (g 9)) 0 23 hin6 rfl mw_at0 (by decide) (by decide +kernel) rfl (q := 94) dX6_search_91 rfl ?_
                        refine v_iload F 0 (q := 96) dX6_search_94 rfl rfl ?_
                        refine v_iald F (j := a_11.toNat) 9 mw_at9 (by omega) (by omega) (by decide) (q := 97) dX6_search_96 rfl ?_
                        have hpb := hT.1.pb hT.2.1 hT.2.2.2.2 (n := a_11.toNat) (by omega)
                        refine v_const F (q := 98) dX6_search_97 rfl ?_
                        refine v_icmp_eq F (tgt := 104) (q := 101) (by omega) (by omega) dX6_search_98 rfl rfl (fun h_13 => ?_) (fun h_13 => ?_)
                        · have hroom := hT.1.room (n := a_11.toNat) (by omega) (by assumption)
                          refine v_aload_n F 4 (q := 105) dX6_search_104 rfl rfl rfl ?_
                          refine v_get F (C := RX6) (T := TX6) (N := 25) (ci := 6) (v := .ref (g 9)) 0 23 hin6 rfl mw_at0 (by decide) (by decide +kernel) rfl (q := 108) dX6_search_105 rfl ?_
                          refine v_iload F 0 (q := 110) dX6_search_108 rfl rfl ?_
                          refine v_aload_n F 4 (q := 111) dX6_search_110 rfl rfl rfl ?_
                          refine v_get F (C := RX6) (T := TX6) (N := 25) (ci := 6) (v := .ref (g 9)) 0 23 hin6 rfl mw_at0 (by decide) (by decide +kernel) rfl (q := 114) dX6_search_111 rfl ?_
                          refine v_aload_n F 4 (q := 115) dX6_search_114 rfl rfl rfl ?_
                          refine v_get F (C := RX6) (T := TX6) (N := 25) (ci := 6) (v := .ref (g 10)) 0 24 hin6 rfl mw_at0 (by decide) (by decide +kernel) rfl (q := 118) dX6_search_115 rfl ?_
                          refine v_iload_n F 2 (q := 119) dX6_search_118 rfl rfl rfl ?_
                          refine v_iald F (j := i2) 10 mw_at10 rfl (by omega) (by decide) (q := 120) dX6_search_119 rfl ?_
                          refine v_iald F (j := (Yz 2 i2).toNat) 9 mw_at9 (by omega) (by omega) (by decide) (q := 121) dX6_search_120 rfl ?_
                          refine v_const F (q := 122) dX6_search_121 rfl ?_
                          refine v_iadd F (q := 123) dX6_search_122 rfl ?_
                          refine v_iast F (j := a_11.toNat) 9 (mw k g S (u2 Yz 1 (a_11.toNat) ((Yz 1 ((Yz 2 i2).toNat)) + 1))) mw_at9 (by omega) (by omega) (by decide) (mw_row9 (a_11.toNat) _) (q := 124) dX6_search_123 rfl ?_
                          refine v_aload_n F 4 (q := 125) dX6_search_124 rfl rfl rfl ?_
                          refine v_get F (C := RX6) (T := TX6) (N := 25) (ci := 6) (v := .ref (g 10)) 0 24 hin6 rfl mw_at0 (by decide) (by decide +kernel) rfl (q := 128) dX6_search_125 rfl ?_
                          refine v_iload_n F 3 (q := 129) dX6_search_128 rfl rfl rfl ?_
                          refine v_iload F 0 (q := 131) dX6_search_129 rfl rfl ?_
                          refine v_cast (b := ((a_11.toNat : Nat) : Int)) (by omega) ?_
                          refine v_iast F (j := fd2) 10 (mw k g S (u2 (u2 Yz 1 (a_11.toNat) ((Yz 1 ((Yz 2 i2).toNat)) + 1)) 2 fd2 ((a_11.toNat : Nat) : Int))) mw_at10 rfl (by omega) (by decide) (mw_row10 fd2 _) (q := 132) dX6_search_131 rfl ?_
                          refine v_iinc F (q := 135) (z := ((fd2 + 1 : Nat) : Int)) 3 [(2, VI ((fd2 + 1 : Nat) : Int)), (5, VI a_11), (4, VI ((t : Nat) : Int)), (3, VI ((i2 : Nat) : Int)), (0, .ref (g 0)), (1, VI ((s : Nat) : Int))] dX6_search_132 rfl (by decide) (by omega) rfl rfl ?_
                          refine v_iinc F (q := 138) (z := ((t + 1 : Nat) : Int)) 2 [(4, VI ((t + 1 : Nat) : Int)), (2, VI ((fd2 + 1 : Nat) : Int)), (5, VI a_11), (3, VI ((i2 : Nat) : Int)), (0, .ref (g 0)), (1, VI ((s : Nat) : Int))] dX6_search_135 rfl (by decide) (by omega) rfl rfl ?_
                          refine v_goto F (tgt := 48) dX6_search_138 rfl ?_
                          refine v_sub [0, 3, 1, 4, 5] rfl ?_
                          exact ih_48 (fd2 + 1) (t + 1) (u2 (u2 Yz 1 (a_11.toNat) ((Yz 1 ((Yz 2 i2).toNat)) + 1)) 2 fd2 ((a_11.toNat : Nat) : Int)) (by have hN := hT.new (n' := a_11.toNat) (by omega) (by omega) hM (by rw [stp_yes (by assumption) h_11]; omega) (by assumption); exact ⟨by omega, hN.1, hN.2, hY, by omega⟩) (by omega)
                        · refine v_goto F (tgt := 135) dX6_search_101 rfl ?_
                          refine v_iinc F (q := 138) (z := ((t + 1 : Nat) : Int)) 1 [(4, VI ((t + 1 : Nat) : Int)), (5, VI a_11), (3, VI ((i2 : Nat) : Int)), (2, VI ((fd2 : Nat) : Int)), (0, .ref (g 0)), (1, VI ((s : Nat) : Int))] dX6_search_135 rfl (by decide) (by omega) rfl rfl ?_
                          refine v_goto F (tgt := 48) dX6_search_138 rfl ?_
                          refine v_sub [0, 2, 3, 4, 5] rfl ?_
                          exact ih_48 fd2 (t + 1) Yz (by first | exact ⟨by omega, hT, hM.skip (stp_no (by assumption)), hY, by omega⟩ | exact ⟨by omega, hT, hM.skip (by rw [stp_yes (by assumption) h_11]; omega), hY, by omega⟩ | exact ⟨by omega, hT, PT.old (n' := a_11.toNat) hT (by omega) (by omega) hM (by rw [stp_yes (by assumption) h_11]; omega) (by assumption), hY, by omega⟩) (by omega)
              exact L48_5 _ fd 0 Yx (by exact ⟨by omega, hS, fun t' n' ht' => absurd ht' (Nat.not_lt_zero t'), hY0, by omega⟩) (Nat.lt_succ_self _)
        exact L40_3 _ 1 0 (u2 (u2 (ur Y 1 (fillF Y 1 (-1) i)) 1 s 0) 2 0 ((s : Nat) : Int)) (by exact ⟨by rw [hi9]; exact SI.beg hs, rfl⟩) (Nat.lt_succ_self _)
      · refine v_aload_n F 1 (q := 10) dX6_search_9 rfl rfl rfl ?_
        refine v_get F (C := RX6) (T := TX6) (N := 25) (ci := 6) (v := .ref (g 9)) 0 23 hin6 rfl mw_at0 (by decide) (by decide +kernel) rfl (q := 13) dX6_search_10 rfl ?_
        refine v_iload_n F 0 (q := 14) dX6_search_13 rfl rfl rfl ?_
        refine v_const F (q := 15) dX6_search_14 rfl ?_
        refine v_iast F (j := i) 9 (mw k g S (u2 (ur Y 1 (fillF Y 1 (-1) i)) 1 i (-1))) mw_at9 rfl (by omega) (by decide) (mw_row9 i _) (q := 16) dX6_search_15 rfl ?_
        refine v_iinc F (q := 19) (z := ((i + 1 : Nat) : Int)) 0 [(2, VI ((i + 1 : Nat) : Int)), (0, .ref (g 0)), (1, VI ((s : Nat) : Int))] dX6_search_16 rfl (by decide) (by omega) rfl rfl ?_
        refine v_goto F (tgt := 2) dX6_search_19 rfl ?_
        refine v_weq ((congrArg (mw k g S) (fill_s Y 1 (-1) i))) ?_
        exact ih_2 (i + 1) (by omega) (by omega)
  refine v_weq ((congrArg (mw k g S) (fill_0 Y 1 (-1)))) ?_
  exact L2_1 _ 0 (by omega) (Nat.lt_succ_self _)
theorem hdX6_fewest : yX6_fewest.cls = RX6 ∧ yX6_fewest.cls ≠ "java/lang/invoke/MethodHandle" ∧ yX6_fewest.cls ≠ "java/lang/invoke/VarHandle" ∧ (parseMethodDescriptor yX6_fewest.desc).map (fun d => d.parameters.length) = some 0 := by decide +kernel
set_option maxRecDepth 100000 in
set_option maxHeartbeats 4000000 in
theorem kX6_fewest {l : Launch} (hst : l.stackTraces = false) {k : Nat → ClassId} {g : Nat → Nat} {S Y : Nat → Nat → Int} (hI : Inv S) : v_Ci l k yX6_fewest wsX6_fewest ({ frames := 7, cells := 0, slots := 0, locals := 157 } : Room) [.ref (g 0)] (mw k g S Y) (fun a u => ∃ Y9 : Nat → Nat → Int, Y9 0 0 = 0 ∧ u = mw k g S Y9 ∧ FewP S (cS S) a) := by
  refine v_ofI (cc := cX6_fewest) (nL := 1) (by decide +kernel) rfl hst (Nat.le_of_ble_eq_true rfl) (fun _ _ _ => rfl) (fun XX F ret => ?_)
  have hin6 : ∀ w ∈ wsX60, w ∈ wsX6_fewest := by decide +kernel
  have b7 := hI.mc
  have b8 := hI.cc
  have hcs := cS_lt hI
  have hcd := code_bd hI.lean3
  show V XX (mw k g S Y) 0 0 0 [(0, .ref (g 0))] []
  refine v_aload_n F 0 (q := 1) dX6_fewest_0 rfl rfl rfl ?_
  refine v_const F (q := 2) dX6_fewest_1 rfl ?_
  refine v_put F (C := RX6) (T := TX6) (N := 25) (ci := 6) (ty := .int) 0 0 (mw k g S (u2 Y 0 0 0)) hin6 tyX6 tyX6_ok nmX6 rfl mw_at0 (by decide) (by decide +kernel) rfl (by decide +kernel) rfl rfl (Nat.le_of_ble_eq_true rfl) (mw_thrown _) (q := 5) dX6_fewest_2 rfl ?_
  refine v_aload_n F 0 (q := 6) dX6_fewest_5 rfl rfl rfl ?_
  refine v_aload_n F 0 (q := 7) dX6_fewest_6 rfl rfl rfl ?_
  refine v_get F (C := RX6) (T := TX6) (N := 25) (ci := 6) (v := VI (codeF (S 4))) 0 13 hin6 rfl mw_at0 (by decide) (by decide +kernel) rfl (q := 10) dX6_fewest_7 rfl ?_
  refine v_steq (st9 := [VI (((codeF (S 4)).toNat : Nat) : Int), .ref (g 0)]) (by rw [show (((codeF (S 4)).toNat : Nat) : Int) = codeF (S 4) from (by omega)]) ?_
  refine v_callVi0 F (kX6_search hst (k := k) (g := g) (S := S) (Y := (u2 Y 0 0 0)) hI (s := (codeF (S 4)).toNat) (by omega)) gX6_fewest_X6_search rfl hdX6_search ⟨by decide, by decide⟩ 0 mw_at0 rfl rfl rfl (Nat.le_of_ble_eq_true rfl) ⟨(Nat.zero_le _), (Nat.zero_le _)⟩ (q := 13) dX6_fewest_10 rfl ?_
  rintro _ _ ⟨YE_1, fd_1, rfl, hY_1, rfl, hV_1, hC_1, hB_1⟩
  have hle_1 := hV_1.le
  have hb0_1 := hB_1 0 (by decide)
  refine v_pop F (q := 14) dX6_fewest_13 rfl rfl ?_
  refine v_aload_n F 0 (q := 15) dX6_fewest_14 rfl rfl rfl ?_
  refine v_get F (C := RX6) (T := TX6) (N := 25) (ci := 6) (v := .ref (g 9)) 0 23 hin6 rfl mw_at0 (by decide) (by decide +kernel) rfl (q := 18) dX6_fewest_15 rfl ?_
  refine v_const F (q := 19) dX6_fewest_18 rfl ?_
  refine v_iald F (j := 0) 9 mw_at9 rfl (by omega) (by decide) (q := 20) dX6_fewest_19 rfl ?_
  exact ret _ _ _ _ _ _ (Nat.zero_le _) (Nat.zero_le _) dX6_fewest_20 (⟨YE_1, hY_1, rfl, B_dst hV_1 hC_1 (by decide)⟩)
theorem hdX6_first : yX6_first.cls = RX6 ∧ yX6_first.cls ≠ "java/lang/invoke/MethodHandle" ∧ yX6_first.cls ≠ "java/lang/invoke/VarHandle" ∧ (parseMethodDescriptor yX6_first.desc).map (fun d => d.parameters.length) = some 0 := by decide +kernel
set_option maxRecDepth 100000 in
set_option maxHeartbeats 4000000 in
theorem kX6_first {l : Launch} (hst : l.stackTraces = false) {k : Nat → ClassId} {g : Nat → Nat} {S Y : Nat → Nat → Int} (hI : Inv S) : v_Ci l k yX6_first wsX6_first ({ frames := 7, cells := 0, slots := 0, locals := 157 } : Room) [.ref (g 0)] (mw k g S Y) (fun a u => ∃ Y9 : Nat → Nat → Int, Y9 0 0 = 0 ∧ u = mw k g S Y9 ∧ FstP S (cS S) a) := by
  refine v_ofI (cc := cX6_first) (nL := 4) (by decide +kernel) rfl hst (Nat.le_of_ble_eq_true rfl) (fun _ _ _ => rfl) (fun XX F ret => ?_)
  have hin6 : ∀ w ∈ wsX60, w ∈ wsX6_first := by decide +kernel
  have b7 := hI.mc
  have b8 := hI.cc
  have hcs := cS_lt hI
  have hcd := code_bd hI.lean3
  show V XX (mw k g S Y) 0 0 0 [(0, .ref (g 0))] []
  refine v_aload_n F 0 (q := 1) dX6_first_0 rfl rfl rfl ?_
  refine v_const F (q := 2) dX6_first_1 rfl ?_
  refine v_put F (C := RX6) (T := TX6) (N := 25) (ci := 6) (ty := .int) 0 0 (mw k g S (u2 Y 0 0 0)) hin6 tyX6 tyX6_ok nmX6 rfl mw_at0 (by decide) (by decide +kernel) rfl (by decide +kernel) rfl rfl (Nat.le_of_ble_eq_true rfl) (mw_thrown _) (q := 5) dX6_first_2 rfl ?_
  refine v_aload_n F 0 (q := 6) dX6_first_5 rfl rfl rfl ?_
  refine v_aload_n F 0 (q := 7) dX6_first_6 rfl rfl rfl ?_
  refine v_get F (C := RX6) (T := TX6) (N := 25) (ci := 6) (v := VI (codeF (S 4))) 0 13 hin6 rfl mw_at0 (by decide) (by decide +kernel) rfl (q := 10) dX6_first_7 rfl ?_
  refine v_steq (st9 := [VI (((codeF (S 4)).toNat : Nat) : Int), .ref (g 0)]) (by rw [show (((codeF (S 4)).toNat : Nat) : Int) = codeF (S 4) from (by omega)]) ?_
  refine v_callVi0 F (kX6_search hst (k := k) (g := g) (S := S) (Y := (u2 Y 0 0 0)) hI (s := (codeF (S 4)).toNat) (by omega)) gX6_first_X6_search rfl hdX6_search ⟨by decide, by decide⟩ 0 mw_at0 rfl rfl rfl (Nat.le_of_ble_eq_true rfl) ⟨(Nat.zero_le _), (Nat.zero_le _)⟩ (q := 13) dX6_first_10 rfl ?_
  rintro _ _ ⟨YE_1, fd_1, rfl, hY_1, rfl, hV_1, hC_1, hB_1⟩
  have hle_1 := hV_1.le
  have hb0_1 := hB_1 0 (by decide)
  refine v_pop F (q := 14) dX6_first_13 rfl rfl ?_
  refine v_aload_n F 0 (q := 15) dX6_first_14 rfl rfl rfl ?_
  refine v_get F (C := RX6) (T := TX6) (N := 25) (ci := 6) (v := .ref (g 9)) 0 23 hin6 rfl mw_at0 (by decide) (by decide +kernel) rfl (q := 18) dX6_first_15 rfl ?_
  refine v_const F (q := 19) dX6_first_18 rfl ?_
  refine v_iald F (j := 0) 9 mw_at9 rfl (by omega) (by decide) (q := 20) dX6_first_19 rfl ?_
  have hF : FewP S (cS S) (YE_1 1 0) := B_dst hV_1 hC_1 (by decide)
  refine v_istore_n F (q := 21) [(1, VI (YE_1 1 0)), (0, .ref (g 0))] dX6_first_20 rfl (by decide) rfl rfl ?_
  refine v_const F (q := 22) dX6_first_21 rfl ?_
  refine v_istore_n F (q := 23) [(2, VI 0), (1, VI (YE_1 1 0)), (0, .ref (g 0))] dX6_first_22 rfl (by decide) rfl rfl ?_
  have L23_2 : ∀ (fu : Nat) (t : Nat) (Yw : Nat → Nat → Int), ((t : Int) ≤ S 0 8 ∧ Yw 0 0 = 0 ∧ ∀ i : Nat, i < t → ¬ FO S (cS S) 0 (YE_1 1 0).toNat i) → (S 0 8 - t).toNat < fu → V XX (mw k g S Yw) 0 0 23 [(2, VI ((t : Nat) : Int)), (1, VI (YE_1 1 0)), (0, .ref (g 0))] [] := by
    intro fu_23
    induction fu_23 with
    | zero => intros; omega
    | succ fu_23 ih_23 =>
      intro t Yw hw hm_23
      obtain ⟨hw1, hw2, hw3⟩ := hw
      refine v_iload_n F 0 (q := 24) dX6_first_23 rfl rfl rfl ?_
      refine v_aload_n F 2 (q := 25) dX6_first_24 rfl rfl rfl ?_
      refine v_get F (C := RX6) (T := TX6) (N := 25) (ci := 6) (v := VI (S 0 8)) 0 18 hin6 rfl mw_at0 (by decide) (by decide +kernel) rfl (q := 28) dX6_first_25 rfl ?_
      have b_3 := And.intro (hI.sc 8 (by decide)) (hI.1 0 8 (by omega)).2
      refine v_icmp_ge F (tgt := 91) (q := 31) (by omega) (by omega) dX6_first_28 rfl rfl (fun h_4 => ?_) (fun h_4 => ?_)
      · refine v_const F (q := 92) dX6_first_91 rfl ?_
        exact ret _ _ _ _ _ _ (Nat.zero_le _) (Nat.zero_le _) dX6_first_92 (⟨Yw, hw2, rfl, Fst_none hF (t := t) (by omega) hw3⟩)
      · refine v_iload_n F 1 (q := 32) dX6_first_31 rfl rfl rfl ?_
        refine v_if_le F (tgt := 91) (q := 35) (by omega) dX6_first_32 rfl rfl (fun h_5 => ?_) (fun h_5 => ?_)
        · refine v_const F (q := 92) dX6_first_91 rfl ?_
          exact ret _ _ _ _ _ _ (Nat.zero_le _) (Nat.zero_le _) dX6_first_92 (⟨Yw, hw2, rfl, Fst_none hF (t := t) (by omega) hw3⟩)
        · refine v_aload_n F 2 (q := 36) dX6_first_35 rfl rfl rfl ?_
          refine v_get F (C := RX6) (T := TX6) (N := 25) (ci := 6) (v := .ref (g 8)) 0 22 hin6 rfl mw_at0 (by decide) (by decide +kernel) rfl (q := 39) dX6_first_36 rfl ?_
          refine v_iload_n F 0 (q := 40) dX6_first_39 rfl rfl rfl ?_
          refine v_iald F (j := t) 8 mw_at8 rfl (by omega) (by decide) (q := 41) dX6_first_40 rfl ?_
          have b_6 := hI.st t
          refine v_if_ne F (tgt := 56) (q := 44) (by omega) dX6_first_41 rfl rfl (fun h_7 => ?_) (fun h_7 => ?_)
          · refine v_const F (q := 57) dX6_first_56 rfl ?_
            refine v_istore_n F (q := 58) [(3, VI (-1)), (2, VI ((t : Nat) : Int)), (1, VI (YE_1 1 0)), (0, .ref (g 0))] dX6_first_57 rfl (by decide) rfl rfl ?_
            refine v_iload_n F 0 (q := 59) dX6_first_58 rfl rfl rfl ?_
            refine v_if_ge F (tgt := 65) (q := 62) (by omega) dX6_first_59 rfl rfl (fun h_8 => absurd h_8 (by omega)) (fun h_8 => ?_)
            refine v_goto F (tgt := 85) dX6_first_62 rfl ?_
            refine v_iinc F (q := 88) (z := ((t + 1 : Nat) : Int)) 1 [(2, VI ((t + 1 : Nat) : Int)), (3, VI (-1)), (1, VI (YE_1 1 0)), (0, .ref (g 0))] dX6_first_85 rfl (by decide) (by omega) rfl rfl ?_
            refine v_goto F (tgt := 23) dX6_first_88 rfl ?_
            refine v_sub [0, 2, 3] rfl ?_
            exact ih_23 (t + 1) Yw (by exact ⟨by omega, hw2, fun i hi => (Nat.lt_or_ge i t).elim (hw3 i) (fun q9 => by obtain rfl : i = t := (by omega); first | exact Fst_no0 rfl (stp_no (by assumption)) | exact Fst_no0 (stp_yes (by assumption) h_0) (by omega) | exact Fst_no hF (by omega) (stp_yes (by assumption) h_0) (show a_0 = ((a_0.toNat : Nat) : Int) by omega) hV_1 hC_1 (by omega) (by omega))⟩) (by omega)
          · refine v_aload_n F 2 (q := 45) dX6_first_44 rfl rfl rfl ?_
            refine v_aload_n F 2 (q := 46) dX6_first_45 rfl rfl rfl ?_
            refine v_get F (C := RX6) (T := TX6) (N := 25) (ci := 6) (v := VI (codeF (S 4))) 0 13 hin6 rfl mw_at0 (by decide) (by decide +kernel) rfl (q := 49) dX6_first_46 rfl ?_
            refine v_cast (b := codeF (dig (cS S))) (by rw [dig_code hcs.1]; omega) ?_
            refine v_iload_n F 0 (q := 50) dX6_first_49 rfl rfl rfl ?_
            refine v_callVi0 F (kX6_behind hst (k := k) (g := g) (S := S) (Y := Yw) hI (f := (dig (cS S))) (dig_D9 _) (t := t) (by omega)) gX6_first_X6_behind rfl hdX6_behind ⟨by decide, by decide⟩ 0 mw_at0 rfl rfl rfl (Nat.le_of_ble_eq_true rfl) ⟨(Nat.zero_le _), (Nat.zero_le _)⟩ (q := 53) dX6_first_50 rfl ?_
            rintro a_9 _ ⟨rfl, ⟨h_9, hc_9⟩⟩
            refine v_goto F (tgt := 57) dX6_first_53 rfl ?_
            refine v_istore_n F (q := 58) [(3, VI a_9), (2, VI ((t : Nat) : Int)), (1, VI (YE_1 1 0)), (0, .ref (g 0))] dX6_first_57 rfl (by decide) rfl rfl ?_
            refine v_iload_n F 0 (q := 59) dX6_first_58 rfl rfl rfl ?_
            refine v_if_ge F (tgt := 65) (q := 62) (by omega) dX6_first_59 rfl rfl (fun h_10 => ?_) (fun h_10 => ?_)
            · refine v_aload_n F 3 (q := 66) dX6_first_65 rfl rfl rfl ?_
              refine v_iload_n F 0 (q := 67) dX6_first_66 rfl rfl rfl ?_
              refine v_steq (st9 := [VI ((a_9.toNat : Nat) : Int), .ref (g 0)]) (by rw [show ((a_9.toNat : Nat) : Int) = a_9 from (by omega)]) ?_
              refine v_callVi0 F (kX6_search hst (k := k) (g := g) (S := S) (Y := Yw) hI (s := a_9.toNat) (by omega)) gX6_first_X6_search rfl hdX6_search ⟨by decide, by decide⟩ 0 mw_at0 rfl rfl rfl (Nat.le_of_ble_eq_true rfl) ⟨(Nat.zero_le _), (Nat.zero_le _)⟩ (q := 70) dX6_first_67 rfl ?_
              rintro _ _ ⟨YE_11, fd_11, rfl, hY_11, rfl, hV_11, hC_11, hB_11⟩
              have hle_11 := hV_11.le
              have hb0_11 := hB_11 0 (by decide)
              refine v_pop F (q := 71) dX6_first_70 rfl rfl ?_
              refine v_aload_n F 3 (q := 72) dX6_first_71 rfl rfl rfl ?_
              refine v_get F (C := RX6) (T := TX6) (N := 25) (ci := 6) (v := .ref (g 9)) 0 23 hin6 rfl mw_at0 (by decide) (by decide +kernel) rfl (q := 75) dX6_first_72 rfl ?_
              refine v_const F (q := 76) dX6_first_75 rfl ?_
              refine v_iald F (j := 0) 9 mw_at9 rfl (by omega) (by decide) (q := 77) dX6_first_76 rfl ?_
              refine v_iload_n F 2 (q := 78) dX6_first_77 rfl rfl rfl ?_
              refine v_const F (q := 79) dX6_first_78 rfl ?_
              refine v_isub F (q := 80) dX6_first_79 rfl ?_
              refine v_icmp_ne F (tgt := 85) (q := 83) (by omega) (by omega) dX6_first_80 rfl rfl (fun h_12 => ?_) (fun h_12 => ?_)
              · refine v_iinc F (q := 88) (z := ((t + 1 : Nat) : Int)) 1 [(2, VI ((t + 1 : Nat) : Int)), (3, VI a_9), (1, VI (YE_1 1 0)), (0, .ref (g 0))] dX6_first_85 rfl (by decide) (by omega) rfl rfl ?_
                refine v_goto F (tgt := 23) dX6_first_88 rfl ?_
                refine v_sub [0, 2, 3] rfl ?_
                exact ih_23 (t + 1) YE_11 (by exact ⟨by omega, hY_11.trans hw2, fun i hi => (Nat.lt_or_ge i t).elim (hw3 i) (fun q9 => by obtain rfl : i = t := (by omega); first | exact Fst_no0 rfl (stp_no (by assumption)) | exact Fst_no0 (stp_yes (by assumption) h_9) (by omega) | exact Fst_no hF (by omega) (stp_yes (by assumption) h_9) (show a_9 = ((a_9.toNat : Nat) : Int) by omega) hV_11 hC_11 (by omega) (by omega))⟩) (by omega)
              · refine v_iload_n F 1 (q := 84) dX6_first_83 rfl rfl rfl ?_
                exact ret _ _ _ _ _ _ (Nat.zero_le _) (Nat.zero_le _) dX6_first_84 (⟨YE_11, hY_11.trans hw2, rfl, Fst_yes hF (by omega) (stp_yes (by assumption) h_9) (show a_9 = ((a_9.toNat : Nat) : Int) by omega) hV_11 hC_11 (by omega) (by omega) hw3⟩)
            · refine v_goto F (tgt := 85) dX6_first_62 rfl ?_
              refine v_iinc F (q := 88) (z := ((t + 1 : Nat) : Int)) 1 [(2, VI ((t + 1 : Nat) : Int)), (3, VI a_9), (1, VI (YE_1 1 0)), (0, .ref (g 0))] dX6_first_85 rfl (by decide) (by omega) rfl rfl ?_
              refine v_goto F (tgt := 23) dX6_first_88 rfl ?_
              refine v_sub [0, 2, 3] rfl ?_
              exact ih_23 (t + 1) Yw (by exact ⟨by omega, hw2, fun i hi => (Nat.lt_or_ge i t).elim (hw3 i) (fun q9 => by obtain rfl : i = t := (by omega); first | exact Fst_no0 rfl (stp_no (by assumption)) | exact Fst_no0 (stp_yes (by assumption) h_9) (by omega) | exact Fst_no hF (by omega) (stp_yes (by assumption) h_9) (show a_9 = ((a_9.toNat : Nat) : Int) by omega) hV_11 hC_11 (by omega) (by omega))⟩) (by omega)
  exact L23_2 _ 0 YE_1 (by exact ⟨by omega, hY_1, fun i hi => absurd hi (Nat.not_lt_zero i)⟩) (Nat.lt_succ_self _)
theorem hdX6_least : yX6_least.cls = RX6 ∧ yX6_least.cls ≠ "java/lang/invoke/MethodHandle" ∧ yX6_least.cls ≠ "java/lang/invoke/VarHandle" ∧ (parseMethodDescriptor yX6_least.desc).map (fun d => d.parameters.length) = some 1 := by decide +kernel
set_option maxRecDepth 100000 in
set_option maxHeartbeats 4000000 in
theorem kX6_least {l : Launch} (hst : l.stackTraces = false) {k : Nat → ClassId} {g : Nat → Nat} {S Y : Nat → Nat → Int} (hI : Inv S) {a0 : Int} (g0 : R32 a0) : v_Ci l k yX6_least wsX6_least ({ frames := 7, cells := 0, slots := 0, locals := 157 } : Room) [.ref (g 0), VI a0] (mw k g S Y) (fun a u => ∃ Y9 : Nat → Nat → Int, Y9 0 0 = eLeast S a0 ∧ u = mw k g S Y9 ∧ (eLeast S a0 = 0 → LeaP S (cS S) a0.toNat a)) := by
  refine v_ofI (cc := cX6_least) (nL := 5) (by decide +kernel) rfl hst (Nat.le_of_ble_eq_true rfl) (fun _ _ _ => rfl) (fun XX F ret => ?_)
  have hin6 : ∀ w ∈ wsX60, w ∈ wsX6_least := by decide +kernel
  have b7 := hI.mc
  have b8 := hI.cc
  have hcs := cS_lt hI
  have hcd := code_bd hI.lean3
  show V XX (mw k g S Y) 0 0 0 [(0, .ref (g 0)), (1, VI a0)] []
  refine v_aload_n F 0 (q := 1) dX6_least_0 rfl rfl rfl ?_
  refine v_const F (q := 2) dX6_least_1 rfl ?_
  refine v_put F (C := RX6) (T := TX6) (N := 25) (ci := 6) (ty := .int) 0 0 (mw k g S (u2 Y 0 0 0)) hin6 tyX6 tyX6_ok nmX6 rfl mw_at0 (by decide) (by decide +kernel) rfl (by decide +kernel) rfl rfl (Nat.le_of_ble_eq_true rfl) (mw_thrown _) (q := 5) dX6_least_2 rfl ?_
  refine v_aload_n F 0 (q := 6) dX6_least_5 rfl rfl rfl ?_
  refine v_iload_n F 1 (q := 7) dX6_least_6 rfl rfl rfl ?_
  refine v_callVi0 F (kX6_isMast hst (k := k) (g := g) (S := S) (Y := (u2 Y 0 0 0)) hI (a0 := a0) (by omega)) gX6_least_X6_isMast rfl hdX6_isMast ⟨by decide, by decide⟩ 0 mw_at0 rfl rfl rfl (Nat.le_of_ble_eq_true rfl) ⟨(Nat.zero_le _), (Nat.zero_le _)⟩ (q := 10) dX6_least_7 rfl ?_
  rintro _ _ ⟨rfl, ⟨rfl, h_1⟩ | ⟨rfl, h_1⟩⟩
  · refine v_if_ne F (tgt := 19) (q := 13) (by omega) dX6_least_10 rfl rfl (fun h_2 => ?_) (fun h_2 => absurd h_2 (by omega))
    refine v_aload_n F 0 (q := 20) dX6_least_19 rfl rfl rfl ?_
    refine v_aload_n F 0 (q := 21) dX6_least_20 rfl rfl rfl ?_
    refine v_get F (C := RX6) (T := TX6) (N := 25) (ci := 6) (v := VI (codeF (S 4))) 0 13 hin6 rfl mw_at0 (by decide) (by decide +kernel) rfl (q := 24) dX6_least_21 rfl ?_
    refine v_steq (st9 := [VI (((codeF (S 4)).toNat : Nat) : Int), .ref (g 0)]) (by rw [show (((codeF (S 4)).toNat : Nat) : Int) = codeF (S 4) from (by omega)]) ?_
    refine v_callVi0 F (kX6_search hst (k := k) (g := g) (S := S) (Y := (u2 Y 0 0 0)) hI (s := (codeF (S 4)).toNat) (by omega)) gX6_least_X6_search rfl hdX6_search ⟨by decide, by decide⟩ 0 mw_at0 rfl rfl rfl (Nat.le_of_ble_eq_true rfl) ⟨(Nat.zero_le _), (Nat.zero_le _)⟩ (q := 27) dX6_least_24 rfl ?_
    rintro _ _ ⟨YE_3, fd_3, rfl, hY_3, rfl, hV_3, hC_3, hB_3⟩
    have hle_3 := hV_3.le
    have hb0_3 := hB_3 0 (by decide)
    refine v_istore_n F (q := 28) [(2, VI ((fd_3 : Nat) : Int)), (0, .ref (g 0)), (1, VI a0)] dX6_least_27 rfl (by decide) rfl rfl ?_
    refine v_bipush F (q := 30) dX6_least_28 rfl rfl ?_
    refine v_istore_n F (q := 31) [(3, VI 9), (2, VI ((fd_3 : Nat) : Int)), (0, .ref (g 0)), (1, VI a0)] dX6_least_30 rfl (by decide) rfl rfl ?_
    refine v_const F (q := 32) dX6_least_31 rfl ?_
    refine v_istore F (q := 34) [(4, VI 0), (3, VI 9), (2, VI ((fd_3 : Nat) : Int)), (0, .ref (g 0)), (1, VI a0)] dX6_least_32 (by decide) rfl rfl ?_
    have L34_4 : ∀ (fu : Nat) (le : Int) (i : Nat), (i ≤ fd_3 ∧ 0 ≤ le ∧ le ≤ 9 ∧ (le = 9 ∨ ∃ k9 n9, Rk S (cS S) k9 n9 ∧ dig n9 a0.toNat = le) ∧ ∀ j, j < i → le ≤ dig (YE_3 2 j).toNat a0.toNat) → 1001 - i < fu → V XX (mw k g S YE_3) 0 0 34 [(4, VI ((i : Nat) : Int)), (3, VI le), (2, VI ((fd_3 : Nat) : Int)), (0, .ref (g 0)), (1, VI a0)] [] := by
      intro fu_34
      induction fu_34 with
      | zero => intros; omega
      | succ fu_34 ih_34 =>
        intro le i hw hm_34
        obtain ⟨hw1, hw2, hw3, hw4, hw5⟩ := hw
        refine v_iload F 0 (q := 36) dX6_least_34 rfl rfl ?_
        refine v_iload_n F 2 (q := 37) dX6_least_36 rfl rfl rfl ?_
        refine v_icmp_ge F (tgt := 62) (q := 40) (by omega) (by omega) dX6_least_37 rfl rfl (fun h_5 => ?_) (fun h_5 => ?_)
        · refine v_iload_n F 1 (q := 63) dX6_least_62 rfl rfl rfl ?_
          exact ret _ _ _ _ _ _ (Nat.zero_le _) (Nat.zero_le _) dX6_least_63 (⟨YE_3, by rw [show YE_3 0 0 = 0 from hY_3]; unfold eLeast; grind, rfl, fun _ => Lea_end9 hV_3 hC_3 (by omega) hw4 (fun j hj => hw5 j (by omega))⟩)
        · refine v_iload_n F 1 (q := 41) dX6_least_40 rfl rfl rfl ?_
          refine v_aload_n F 3 (q := 42) dX6_least_41 rfl rfl rfl ?_
          refine v_get F (C := RX6) (T := TX6) (N := 25) (ci := 6) (v := .ref (g 10)) 0 24 hin6 rfl mw_at0 (by decide) (by decide +kernel) rfl (q := 45) dX6_least_42 rfl ?_
          have hqa := fun hh => hV_3.at (j := i) hh
          have hqb := hqa (by omega)
          refine v_iload F 0 (q := 47) dX6_least_45 rfl rfl ?_
          refine v_iald F (j := i) 10 mw_at10 rfl (by omega) (by decide) (q := 48) dX6_least_47 rfl ?_
          refine v_cast (b := codeF (dig (YE_3 2 i).toNat)) (by rw [dig_code (by omega)]; omega) ?_
          refine v_iload_n F 4 (q := 49) dX6_least_48 rfl rfl rfl ?_
          refine v_steq (st9 := [VI ((a0.toNat : Nat) : Int), VI (codeF (dig (YE_3 2 i).toNat)), VI le]) (by rw [show ((a0.toNat : Nat) : Int) = a0 from (by omega)]) ?_
          refine v_callSi0 F (kX6_lean hst (k := k) (w := mw k g S YE_3) (f := (dig (YE_3 2 i).toNat)) (dig_D9 _) (m := a0.toNat) (by omega)) gX6_least_X6_lean rfl hdX6_lean ⟨by decide, by decide⟩ rfl rfl (Nat.le_of_ble_eq_true rfl) ⟨(Nat.zero_le _), (Nat.zero_le _)⟩ (q := 52) dX6_least_49 rfl ?_
          rintro a_6 _ ⟨rfl, ⟨h_6, hc_6⟩⟩
          refine v_min F (by omega) (by omega) (by decide +kernel) (by decide +kernel) (by decide +kernel) (by decide +kernel) ⟨by decide, Nat.le_of_ble_eq_true rfl⟩ ⟨(Nat.zero_le _), (Nat.zero_le _)⟩ (q := 55) dX6_least_52 rfl ?_
          refine v_istore_n F (q := 56) [(3, VI (min le a_6)), (4, VI ((i : Nat) : Int)), (2, VI ((fd_3 : Nat) : Int)), (0, .ref (g 0)), (1, VI a0)] dX6_least_55 rfl (by decide) rfl rfl ?_
          refine v_iinc F (q := 59) (z := ((i + 1 : Nat) : Int)) 1 [(4, VI ((i + 1 : Nat) : Int)), (3, VI (min le a_6)), (2, VI ((fd_3 : Nat) : Int)), (0, .ref (g 0)), (1, VI a0)] dX6_least_56 rfl (by decide) (by omega) rfl rfl ?_
          refine v_goto F (tgt := 34) dX6_least_59 rfl ?_
          exact ih_34 (min le a_6) (i + 1) (by exact ⟨by omega, by omega, by omega, Lea_min9 hw4 (by omega) (hV_3.at (j := i) (by omega)).2.2.2 h_6, fun j hj => (Nat.lt_or_ge j i).elim (fun q => by have := hw5 j q; omega) (fun q => by obtain rfl : j = i := (by omega); rw [← h_6]; omega)⟩) (by omega)
    exact L34_4 _ 9 0 (by exact ⟨by omega, by omega, by omega, Or.inl rfl, fun j hj => absurd hj (Nat.not_lt_zero j)⟩) (Nat.lt_succ_self _)
  · refine v_if_ne F (tgt := 19) (q := 13) R32_0 dX6_least_10 rfl rfl (fun h_7 => absurd h_7 (by omega)) (fun h_7 => ?_)
    refine v_aload_n F 0 (q := 14) dX6_least_13 rfl rfl rfl ?_
    refine v_const F (q := 15) dX6_least_14 rfl ?_
    refine v_callVi0 F (kX6_no hst (k := k) (g := g) (S := S) (Y := (u2 Y 0 0 0)) hI (a0 := 1)) gX6_least_X6_no rfl hdX6_no ⟨by decide, by decide⟩ 0 mw_at0 rfl rfl rfl (Nat.le_of_ble_eq_true rfl) ⟨(Nat.zero_le _), (Nat.zero_le _)⟩ (q := 18) dX6_least_15 rfl ?_
    rintro a_8 _ ⟨rfl, rfl⟩
    exact ret _ _ _ _ _ _ (Nat.zero_le _) (Nat.zero_le _) dX6_least_18 (⟨(u2 (u2 Y 0 0 0) 0 0 1), by show (1 : Int) = _; unfold eLeast; grind, rfl, fun e9 => absurd e9 (by unfold eLeast; grind)⟩)
theorem hdX6_digest : yX6_digest.cls = RX6 ∧ yX6_digest.cls ≠ "java/lang/invoke/MethodHandle" ∧ yX6_digest.cls ≠ "java/lang/invoke/VarHandle" ∧ (parseMethodDescriptor yX6_digest.desc).map (fun d => d.parameters.length) = some 0 := by decide +kernel
set_option maxRecDepth 100000 in
set_option maxHeartbeats 4000000 in
theorem kX6_digest {l : Launch} (hst : l.stackTraces = false) {k : Nat → ClassId} {g : Nat → Nat} {S Y : Nat → Nat → Int} (hI : Inv S) : v_Cl l k yX6_digest wsX6_digest ({ frames := 6, cells := 79, slots := 499, locals := 129 } : Room) [.ref (g 0)] (mw k g S Y) (fun a u => ∃ Y9 : Nat → Nat → Int, Y9 0 0 = 0 ∧ u = mw k g S Y9 ∧ a = digR S) := by
  refine v_ofL (cc := cX6_digest) (nL := 6) (by decide +kernel) rfl hst (Nat.le_of_ble_eq_true rfl) (fun XX F ret => ?_)
  have hin6 : ∀ w ∈ wsX60, w ∈ wsX6_digest := by decide +kernel
  have b7 := hI.mc
  have b8 := hI.cc
  show V XX (mw k g S Y) 0 0 0 [(0, .ref (g 0))] []
  refine v_aload_n F 0 (q := 1) dX6_digest_0 rfl rfl rfl ?_
  refine v_const F (q := 2) dX6_digest_1 rfl ?_
  refine v_put F (C := RX6) (T := TX6) (N := 25) (ci := 6) (ty := .int) 0 0 (mw k g S (u2 Y 0 0 0)) hin6 tyX6 tyX6_ok nmX6 rfl mw_at0 (by decide) (by decide +kernel) rfl (by decide +kernel) rfl rfl (Nat.le_of_ble_eq_true rfl) (mw_thrown _) (q := 5) dX6_digest_2 rfl ?_
  refine v_ldc2 F (v := 823) (q := 8) (by decide +kernel) dX6_digest_5 rfl ?_
  refine v_lstore_n F (q := 9) [(1, .long 823), (0, .ref (g 0))] dX6_digest_8 rfl (by decide) rfl rfl ?_
  refine v_const F (q := 10) dX6_digest_9 rfl ?_
  refine v_istore_n F (q := 11) [(3, VI 0), (1, .long 823), (0, .ref (g 0))] dX6_digest_10 rfl (by decide) rfl rfl ?_
  have L11_1 : ∀ (fu : Nat) (d : Int64) (i : Nat), (i ≤ 8 ∧ d = dgF 823 (fun i => cntV S (i : Int)) i) → 8 - i < fu → V XX (mw k g S (u2 Y 0 0 0)) i (i * 8) 11 [(3, VI ((i : Nat) : Int)), (1, .long d), (0, .ref (g 0))] [] := by
    intro fu_11
    induction fu_11 with
    | zero => intros; omega
    | succ fu_11 ih_11 =>
      intro d i hv hm_11
      obtain ⟨hv1, hv2⟩ := hv
      refine v_iload_n F 0 (q := 12) dX6_digest_11 rfl rfl rfl ?_
      refine v_bipush F (q := 14) dX6_digest_12 rfl rfl ?_
      refine v_icmp_ge F (tgt := 36) (q := 17) (by omega) (by omega) dX6_digest_14 rfl rfl (fun h_2 => ?_) (fun h_2 => ?_)
      · have hd1 : d = dgF 823 (fun i => cntV S (i : Int)) 8 := (by rw [hv2, show i = 8 from (by omega)])
        refine v_const F (q := 37) dX6_digest_36 rfl ?_
        refine v_istore_n F (q := 38) [(3, VI 0), (1, .long d), (0, .ref (g 0))] dX6_digest_37 rfl (by decide) rfl rfl ?_
        have L38_3 : ∀ (fu : Nat) (d2 : Int64) (i2 : Nat), (i2 ≤ 6 ∧ d2 = dgF d (fun i => shipV S (i : Int)) i2) → 6 - i2 < fu → V XX (mw k g S (u2 Y 0 0 0)) (8 + i2) (64 + i2 * 6) 38 [(3, VI ((i2 : Nat) : Int)), (1, .long d2), (0, .ref (g 0))] [] := by
          intro fu_38
          induction fu_38 with
          | zero => intros; omega
          | succ fu_38 ih_38 =>
            intro d2 i2 hw hm_38
            obtain ⟨hw1, hw2⟩ := hw
            refine v_iload_n F 0 (q := 39) dX6_digest_38 rfl rfl rfl ?_
            refine v_bipush F (q := 41) dX6_digest_39 rfl rfl ?_
            refine v_icmp_ge F (tgt := 63) (q := 44) (by omega) (by omega) dX6_digest_41 rfl rfl (fun h_4 => ?_) (fun h_4 => ?_)
            · have hd2 : d2 = dgF d (fun i => shipV S (i : Int)) 6 := (by rw [hw2, show i2 = 6 from (by omega)])
              refine v_bipush F (q := 65) dX6_digest_63 rfl rfl ?_
              refine v_newi F (N := 7) (q := 67) (by decide) (by decide +kernel) (by first | omega | (dsimp only; omega)) (by first | omega | (dsimp only; omega)) dX6_digest_65 rfl (fun t_5 => ?_)
              refine v_dup F (q := 68) dX6_digest_67 rfl rfl ?_
              refine v_const F (q := 69) dX6_digest_68 rfl ?_
              refine v_aload_n F 2 (q := 70) dX6_digest_69 rfl rfl rfl ?_
              refine v_get F (C := RX6) (T := TX6) (N := 25) (ci := 6) (v := VI (S 0 0)) 0 1 hin6 rfl (v_tl mw_at0) (by decide) (by decide +kernel) rfl (q := 73) dX6_digest_70 rfl ?_
              have b_6 := And.intro (hI.sc 0 (by decide)) (hI.1 0 0 (by omega)).2
              refine v_iast F (j := 0) 11 (mw k g S (u2 Y 0 0 0) ++ [(t_5, aI k 7 (fun i => if i = 0 then S 0 0 else (fun _ => 0) i))]) (mw_tail_at _) rfl (by omega) (by decide) (mw_tail _ _ _) (q := 74) dX6_digest_73 rfl ?_
              refine v_dup F (q := 75) dX6_digest_74 rfl rfl ?_
              refine v_const F (q := 76) dX6_digest_75 rfl ?_
              refine v_aload_n F 2 (q := 77) dX6_digest_76 rfl rfl rfl ?_
              refine v_get F (C := RX6) (T := TX6) (N := 25) (ci := 6) (v := VI (S 0 1)) 0 2 hin6 rfl (v_tl mw_at0) (by decide) (by decide +kernel) rfl (q := 80) dX6_digest_77 rfl ?_
              have b_7 := And.intro (hI.sc 1 (by decide)) (hI.1 0 1 (by omega)).2
              refine v_iast F (j := 1) 11 (mw k g S (u2 Y 0 0 0) ++ [(t_5, aI k 7 (fun i => if i = 1 then S 0 1 else (fun i => if i = 0 then S 0 0 else (fun _ => 0) i) i))]) (mw_tail_at _) rfl (by omega) (by decide) (mw_tail _ _ _) (q := 81) dX6_digest_80 rfl ?_
              refine v_dup F (q := 82) dX6_digest_81 rfl rfl ?_
              refine v_const F (q := 83) dX6_digest_82 rfl ?_
              refine v_aload_n F 2 (q := 84) dX6_digest_83 rfl rfl rfl ?_
              refine v_get F (C := RX6) (T := TX6) (N := 25) (ci := 6) (v := VI (S 0 2)) 0 3 hin6 rfl (v_tl mw_at0) (by decide) (by decide +kernel) rfl (q := 87) dX6_digest_84 rfl ?_
              have b_8 := And.intro (hI.sc 2 (by decide)) (hI.1 0 2 (by omega)).2
              refine v_iast F (j := 2) 11 (mw k g S (u2 Y 0 0 0) ++ [(t_5, aI k 7 (fun i => if i = 2 then S 0 2 else (fun i => if i = 1 then S 0 1 else (fun i => if i = 0 then S 0 0 else (fun _ => 0) i) i) i))]) (mw_tail_at _) rfl (by omega) (by decide) (mw_tail _ _ _) (q := 88) dX6_digest_87 rfl ?_
              refine v_dup F (q := 89) dX6_digest_88 rfl rfl ?_
              refine v_const F (q := 90) dX6_digest_89 rfl ?_
              refine v_aload_n F 2 (q := 91) dX6_digest_90 rfl rfl rfl ?_
              refine v_get F (C := RX6) (T := TX6) (N := 25) (ci := 6) (v := VI (S 0 3)) 0 4 hin6 rfl (v_tl mw_at0) (by decide) (by decide +kernel) rfl (q := 94) dX6_digest_91 rfl ?_
              have b_9 := And.intro (hI.sc 3 (by decide)) (hI.1 0 3 (by omega)).2
              refine v_iast F (j := 3) 11 (mw k g S (u2 Y 0 0 0) ++ [(t_5, aI k 7 (fun i => if i = 3 then S 0 3 else (fun i => if i = 2 then S 0 2 else (fun i => if i = 1 then S 0 1 else (fun i => if i = 0 then S 0 0 else (fun _ => 0) i) i) i) i))]) (mw_tail_at _) rfl (by omega) (by decide) (mw_tail _ _ _) (q := 95) dX6_digest_94 rfl ?_
              refine v_dup F (q := 96) dX6_digest_95 rfl rfl ?_
              refine v_const F (q := 97) dX6_digest_96 rfl ?_
              refine v_aload_n F 2 (q := 98) dX6_digest_97 rfl rfl rfl ?_
              refine v_get F (C := RX6) (T := TX6) (N := 25) (ci := 6) (v := VI (S 0 4)) 0 5 hin6 rfl (v_tl mw_at0) (by decide) (by decide +kernel) rfl (q := 101) dX6_digest_98 rfl ?_
              have b_10 := And.intro (hI.sc 4 (by decide)) (hI.1 0 4 (by omega)).2
              refine v_iast F (j := 4) 11 (mw k g S (u2 Y 0 0 0) ++ [(t_5, aI k 7 (fun i => if i = 4 then S 0 4 else (fun i => if i = 3 then S 0 3 else (fun i => if i = 2 then S 0 2 else (fun i => if i = 1 then S 0 1 else (fun i => if i = 0 then S 0 0 else (fun _ => 0) i) i) i) i) i))]) (mw_tail_at _) rfl (by omega) (by decide) (mw_tail _ _ _) (q := 102) dX6_digest_101 rfl ?_
              refine v_dup F (q := 103) dX6_digest_102 rfl rfl ?_
              refine v_const F (q := 104) dX6_digest_103 rfl ?_
              refine v_aload_n F 2 (q := 105) dX6_digest_104 rfl rfl rfl ?_
              refine v_get F (C := RX6) (T := TX6) (N := 25) (ci := 6) (v := VI (S 0 5)) 0 6 hin6 rfl (v_tl mw_at0) (by decide) (by decide +kernel) rfl (q := 108) dX6_digest_105 rfl ?_
              have b_11 := And.intro (hI.sc 5 (by decide)) (hI.1 0 5 (by omega)).2
              refine v_iast F (j := 5) 11 (mw k g S (u2 Y 0 0 0) ++ [(t_5, aI k 7 (fun i => if i = 5 then S 0 5 else (fun i => if i = 4 then S 0 4 else (fun i => if i = 3 then S 0 3 else (fun i => if i = 2 then S 0 2 else (fun i => if i = 1 then S 0 1 else (fun i => if i = 0 then S 0 0 else (fun _ => 0) i) i) i) i) i) i))]) (mw_tail_at _) rfl (by omega) (by decide) (mw_tail _ _ _) (q := 109) dX6_digest_108 rfl ?_
              refine v_dup F (q := 110) dX6_digest_109 rfl rfl ?_
              refine v_bipush F (q := 112) dX6_digest_110 rfl rfl ?_
              refine v_aload_n F 2 (q := 113) dX6_digest_112 rfl rfl rfl ?_
              refine v_get F (C := RX6) (T := TX6) (N := 25) (ci := 6) (v := VI (S 0 6)) 0 7 hin6 rfl (v_tl mw_at0) (by decide) (by decide +kernel) rfl (q := 116) dX6_digest_113 rfl ?_
              have b_12 := And.intro (hI.sc 6 (by decide)) (hI.1 0 6 (by omega)).2
              refine v_iast F (j := 6) 11 (mw k g S (u2 Y 0 0 0) ++ [(t_5, aI k 7 (fun i => if i = 6 then S 0 6 else (fun i => if i = 5 then S 0 5 else (fun i => if i = 4 then S 0 4 else (fun i => if i = 3 then S 0 3 else (fun i => if i = 2 then S 0 2 else (fun i => if i = 1 then S 0 1 else (fun i => if i = 0 then S 0 0 else (fun _ => 0) i) i) i) i) i) i) i))]) (mw_tail_at _) rfl (by omega) (by decide) (mw_tail _ _ _) (q := 117) dX6_digest_116 rfl ?_
              refine v_astore_n F (q := 118) [(3, .ref (t_5)), (1, .long d2), (0, .ref (g 0))] dX6_digest_117 rfl (by decide) rfl rfl ?_
              refine v_const F (q := 119) dX6_digest_118 rfl ?_
              refine v_istore F (q := 121) [(4, VI 0), (3, .ref (t_5)), (1, .long d2), (0, .ref (g 0))] dX6_digest_119 (by decide) rfl rfl ?_
              have L121_13 : ∀ (fu : Nat) (d3 : Int64) (j3 : Nat), (j3 ≤ 7 ∧ d3 = dgF d2 (tl7 S) j3) → 7 - j3 < fu → V XX (mw k g S (u2 Y 0 0 0) ++ [(t_5, aI k 7 (fun i => if i = 6 then S 0 6 else (fun i => if i = 5 then S 0 5 else (fun i => if i = 4 then S 0 4 else (fun i => if i = 3 then S 0 3 else (fun i => if i = 2 then S 0 2 else (fun i => if i = 1 then S 0 1 else (fun i => if i = 0 then S 0 0 else (fun _ => 0) i) i) i) i) i) i) i))]) 15 107 121 [(4, VI ((j3 : Nat) : Int)), (3, .ref (t_5)), (1, .long d3), (0, .ref (g 0))] [] := by
                intro fu_121
                induction fu_121 with
                | zero => intros; omega
                | succ fu_121 ih_121 =>
                  intro d3 j3 hx hm_121
                  obtain ⟨hx1, hx2⟩ := hx
                  refine v_iload F 0 (q := 123) dX6_digest_121 rfl rfl ?_
                  refine v_bipush F (q := 125) dX6_digest_123 rfl rfl ?_
                  refine v_icmp_ge F (tgt := 146) (q := 128) (by omega) (by omega) dX6_digest_125 rfl rfl (fun h_14 => ?_) (fun h_14 => ?_)
                  · refine v_drop ?_
                    have hd3 : d3 = dgF d2 (tl7 S) 7 := (by rw [hx2, show j3 = 7 from (by omega)])
                    refine v_const F (q := 147) dX6_digest_146 rfl ?_
                    refine v_istore F (q := 149) [(4, VI 0), (3, .ref (t_5)), (1, .long d3), (0, .ref (g 0))] dX6_digest_147 (by decide) rfl rfl ?_
                    have L149_15 : ∀ (fu : Nat) (d4 : Int64) (m : Nat), ((m : Int) ≤ S 0 7 ∧ d4 = dgM S (digV S) m) → (S 0 7 - m).toNat < fu → V XX (mw k g S (u2 Y 0 0 0)) (15 + m * 8) (107 + m * 64) 149 [(4, VI ((m : Nat) : Int)), (1, .long d4), (0, .ref (g 0))] [] := by
                      intro fu_149
                      induction fu_149 with
                      | zero => intros; omega
                      | succ fu_149 ih_149 =>
                        intro d4 m hy hm_149
                        obtain ⟨hy1, hy2⟩ := hy
                        have hyc := hI.yc m
                        refine v_iload F 0 (q := 151) dX6_digest_149 rfl rfl ?_
                        refine v_aload_n F 2 (q := 152) dX6_digest_151 rfl rfl rfl ?_
                        refine v_get F (C := RX6) (T := TX6) (N := 25) (ci := 6) (v := VI (S 0 7)) 0 12 hin6 rfl mw_at0 (by decide) (by decide +kernel) rfl (q := 155) dX6_digest_152 rfl ?_
                        have b_16 := And.intro (hI.sc 7 (by decide)) (hI.1 0 7 (by omega)).2
                        refine v_icmp_ge F (tgt := 237) (q := 158) (by omega) (by omega) dX6_digest_155 rfl rfl (fun h_17 => ?_) (fun h_17 => ?_)
                        · refine v_const F (q := 238) dX6_digest_237 rfl ?_
                          refine v_istore F (q := 240) [(4, VI 0), (1, .long d4), (0, .ref (g 0))] dX6_digest_238 (by decide) rfl rfl ?_
                          have L240_18 : ∀ (fu : Nat) (d7 : Int64) (t : Nat), ((t : Int) ≤ S 0 8 ∧ d7 = dgT S d4 t) → (S 0 8 - t).toNat < fu → V XX (mw k g S (u2 Y 0 0 0)) (39 + t * 5) (299 + t * 25) 240 [(4, VI ((t : Nat) : Int)), (1, .long d7), (0, .ref (g 0))] [] := by
                            intro fu_240
                            induction fu_240 with
                            | zero => intros; omega
                            | succ fu_240 ih_240 =>
                              intro d7 t hp hm_240
                              obtain ⟨hp1, hp2⟩ := hp
                              refine v_iload F 0 (q := 242) dX6_digest_240 rfl rfl ?_
                              refine v_aload_n F 2 (q := 243) dX6_digest_242 rfl rfl rfl ?_
                              refine v_get F (C := RX6) (T := TX6) (N := 25) (ci := 6) (v := VI (S 0 8)) 0 18 hin6 rfl mw_at0 (by decide) (by decide +kernel) rfl (q := 246) dX6_digest_243 rfl ?_
                              have b_19 := And.intro (hI.sc 8 (by decide)) (hI.1 0 8 (by omega)).2
                              refine v_icmp_ge F (tgt := 286) (q := 249) (by omega) (by omega) dX6_digest_246 rfl rfl (fun h_20 => ?_) (fun h_20 => ?_)
                              · refine v_lload_n F 1 (q := 287) dX6_digest_286 rfl rfl rfl ?_
                                exact ret _ _ _ _ _ _ (by first | decide | omega | (dsimp only; omega)) (by first | decide | omega | (dsimp only; omega)) dX6_digest_287 (⟨(u2 Y 0 0 0), rfl, rfl, by unfold digR; rw [show d7 = dgT S d4 t from hp2, show d4 = dgM S (digV S) m from hy2, show m = mcn S from (by unfold mcn; omega), show t = tcn S from (by unfold tcn; omega)]⟩)
                              · refine v_const F (q := 250) dX6_digest_249 rfl ?_
                                refine v_istore F (q := 252) [(5, VI 0), (4, VI ((t : Nat) : Int)), (1, .long d7), (0, .ref (g 0))] dX6_digest_250 (by decide) rfl rfl ?_
                                have L252_21 : ∀ (fu : Nat) (d8 : Int64) (j2 : Nat), (j2 ≤ 5 ∧ d8 = dgF d7 (fun i => thrV S t (i : Int)) j2) → 5 - j2 < fu → V XX (mw k g S (u2 Y 0 0 0)) (39 + t * 5 + j2) (299 + t * 25 + j2 * 5) 252 [(5, VI ((j2 : Nat) : Int)), (4, VI ((t : Nat) : Int)), (1, .long d8), (0, .ref (g 0))] [] := by
                                  intro fu_252
                                  induction fu_252 with
                                  | zero => intros; omega
                                  | succ fu_252 ih_252 =>
                                    intro d8 j2 hq hm_252
                                    obtain ⟨hq1, hq2⟩ := hq
                                    refine v_iload F 0 (q := 254) dX6_digest_252 rfl rfl ?_
                                    refine v_const F (q := 255) dX6_digest_254 rfl ?_
                                    refine v_icmp_ge F (tgt := 280) (q := 258) (by omega) (by omega) dX6_digest_255 rfl rfl (fun h_22 => ?_) (fun h_22 => ?_)
                                    · refine v_iinc F (q := 283) (z := ((t + 1 : Nat) : Int)) 1 [(4, VI ((t + 1 : Nat) : Int)), (5, VI ((j2 : Nat) : Int)), (1, .long d8), (0, .ref (g 0))] dX6_digest_280 rfl (by decide) (by omega) rfl rfl ?_
                                      refine v_goto F (tgt := 240) dX6_digest_283 rfl ?_
                                      refine v_sub [0, 2, 3] rfl ?_
                                      refine v_widen (c' := 39 + (t + 1) * 5) (n' := 299 + (t + 1) * 25) (by first | omega | (dsimp only; omega)) (by first | omega | (dsimp only; omega)) ?_
                                      exact ih_240 d8 (t + 1) (by exact ⟨by omega, by rw [dgT_s, ← hp2, hq2, show j2 = 5 from (by omega)]⟩) (by omega)
                                    · refine v_lload_n F 2 (q := 259) dX6_digest_258 rfl rfl rfl ?_
                                      refine v_ldc2 F (v := 31) (q := 262) (by decide +kernel) dX6_digest_259 rfl ?_
                                      refine v_lmul F (q := 263) dX6_digest_262 rfl ?_
                                      refine v_aload_n F 3 (q := 264) dX6_digest_263 rfl rfl rfl ?_
                                      refine v_iload F 1 (q := 266) dX6_digest_264 rfl rfl ?_
                                      refine v_iload F 0 (q := 268) dX6_digest_266 rfl rfl ?_
                                      refine v_callVi0 F (kX6_threadTold hst (k := k) (g := g) (S := S) (Y := (u2 Y 0 0 0)) hI (t := t) (by omega) (a1 := ((j2 : Nat) : Int)) (by omega)) gX6_digest_X6_threadTold rfl hdX6_threadTold ⟨by decide, by decide⟩ 0 mw_at0 rfl rfl rfl (Nat.le_of_ble_eq_true rfl) ⟨(by first | decide | omega | (dsimp only; omega)), (by first | decide | omega | (dsimp only; omega))⟩ (q := 271) dX6_digest_268 rfl ?_
                                      rintro a_23 _ ⟨rfl, h_23⟩
                                      refine v_i2l F (q := 272) dX6_digest_271 rfl ?_
                                      refine v_ladd F (q := 273) dX6_digest_272 rfl ?_
                                      refine v_lstore_n F (q := 274) [(1, .long ((d8 * 31) + ((iI a_23).toInt64))), (5, VI ((j2 : Nat) : Int)), (4, VI ((t : Nat) : Int)), (0, .ref (g 0))] dX6_digest_273 rfl (by decide) rfl rfl ?_
                                      refine v_iinc F (q := 277) (z := ((j2 + 1 : Nat) : Int)) 1 [(5, VI ((j2 + 1 : Nat) : Int)), (1, .long ((d8 * 31) + ((iI a_23).toInt64))), (4, VI ((t : Nat) : Int)), (0, .ref (g 0))] dX6_digest_274 rfl (by decide) (by omega) rfl rfl ?_
                                      refine v_goto F (tgt := 252) dX6_digest_277 rfl ?_
                                      refine v_sub [0, 2, 1, 3] rfl ?_
                                      refine v_widen (c' := 39 + t * 5 + (j2 + 1)) (n' := 299 + t * 25 + (j2 + 1) * 5) (by first | omega | (dsimp only; omega)) (by first | omega | (dsimp only; omega)) ?_
                                      exact ih_252 ((d8 * 31) + ((iI a_23).toInt64)) (j2 + 1) (by exact ⟨by omega, by rw [dgF_s, ← hq2]; show _ = d8 * 31 + (iI (thrV S t ((j2 : Nat) : Int))).toInt64; rw [← show a_23 = thrV S t ((j2 : Nat) : Int) from h_23]⟩) (by omega)
                                refine v_widen (c' := 39 + t * 5 + 0) (n' := 299 + t * 25 + 0 * 5) (by first | omega | (dsimp only; omega)) (by first | omega | (dsimp only; omega)) ?_
                                exact L252_21 _ d7 0 (by exact ⟨by omega, rfl⟩) (Nat.lt_succ_self _)
                          refine v_widen (c' := 39 + 0 * 5) (n' := 299 + 0 * 25) (by first | omega | (dsimp only; omega)) (by first | omega | (dsimp only; omega)) ?_
                          exact L240_18 _ d4 0 (by exact ⟨by omega, rfl⟩) (Nat.lt_succ_self _)
                        · refine v_const F (q := 159) dX6_digest_158 rfl ?_
                          refine v_istore F (q := 161) [(5, VI 0), (4, VI ((m : Nat) : Int)), (1, .long d4), (0, .ref (g 0))] dX6_digest_159 (by decide) rfl rfl ?_
                          have L161_24 : ∀ (fu : Nat) (d5 : Int64) (j : Nat), (j ≤ 8 ∧ d5 = dgF d4 (fun i => mastV S m (i : Int)) j) → 8 - j < fu → V XX (mw k g S (u2 Y 0 0 0)) (15 + m * 8 + j) (107 + m * 64 + j * 8) 161 [(5, VI ((j : Nat) : Int)), (4, VI ((m : Nat) : Int)), (1, .long d5), (0, .ref (g 0))] [] := by
                            intro fu_161
                            induction fu_161 with
                            | zero => intros; omega
                            | succ fu_161 ih_161 =>
                              intro d5 j hu hm_161
                              obtain ⟨hu1, hu2⟩ := hu
                              refine v_iload F 0 (q := 163) dX6_digest_161 rfl rfl ?_
                              refine v_bipush F (q := 165) dX6_digest_163 rfl rfl ?_
                              refine v_icmp_ge F (tgt := 190) (q := 168) (by omega) (by omega) dX6_digest_165 rfl rfl (fun h_25 => ?_) (fun h_25 => ?_)
                              · have hd5 : d5 = dgF d4 (fun i => mastV S m (i : Int)) 8 := (by rw [hu2, show j = 8 from (by omega)])
                                refine v_const F (q := 191) dX6_digest_190 rfl ?_
                                refine v_istore F (q := 193) [(5, VI 0), (4, VI ((m : Nat) : Int)), (1, .long d5), (0, .ref (g 0))] dX6_digest_191 (by decide) rfl rfl ?_
                                have L193_26 : ∀ (fu : Nat) (d6 : Int64) (y : Nat), ((y : Int) ≤ S 3 m ∧ d6 = dgF d5 (S (10 + m)) y) → (S 3 m - y).toNat < fu → V XX (mw k g S (u2 Y 0 0 0)) (15 + (m + 1) * 8) (107 + (m + 1) * 64) 193 [(5, VI ((y : Nat) : Int)), (4, VI ((m : Nat) : Int)), (1, .long d6), (0, .ref (g 0))] [] := by
                                  intro fu_193
                                  induction fu_193 with
                                  | zero => intros; omega
                                  | succ fu_193 ih_193 =>
                                    intro d6 y hz hm_193
                                    obtain ⟨hz1, hz2⟩ := hz
                                    refine v_iload F 0 (q := 195) dX6_digest_193 rfl rfl ?_
                                    refine v_aload_n F 3 (q := 196) dX6_digest_195 rfl rfl rfl ?_
                                    refine v_get F (C := RX6) (T := TX6) (N := 25) (ci := 6) (v := .ref (g 3)) 0 16 hin6 rfl mw_at0 (by decide) (by decide +kernel) rfl (q := 199) dX6_digest_196 rfl ?_
                                    refine v_iload F 1 (q := 201) dX6_digest_199 rfl rfl ?_
                                    refine v_iald F (j := m) 3 mw_at3 rfl (by omega) (by decide) (q := 202) dX6_digest_201 rfl ?_
                                    have b_27 := hI.yc m
                                    refine v_icmp_ge F (tgt := 231) (q := 205) (by omega) (by omega) dX6_digest_202 rfl rfl (fun h_28 => ?_) (fun h_28 => ?_)
                                    · refine v_iinc F (q := 234) (z := ((m + 1 : Nat) : Int)) 1 [(4, VI ((m + 1 : Nat) : Int)), (5, VI ((y : Nat) : Int)), (1, .long d6), (0, .ref (g 0))] dX6_digest_231 rfl (by decide) (by omega) rfl rfl ?_
                                      refine v_goto F (tgt := 149) dX6_digest_234 rfl ?_
                                      refine v_sub [0, 2, 3] rfl ?_
                                      refine v_widen (c' := 15 + (m + 1) * 8) (n' := 107 + (m + 1) * 64) (by first | omega | (dsimp only; omega)) (by first | omega | (dsimp only; omega)) ?_
                                      exact ih_149 d6 (m + 1) (by exact ⟨by omega, by rw [dgM_s, ← hy2, ← hd5, hz2, show y = (S 3 m).toNat from (by omega)]⟩) (by omega)
                                    · refine v_lload_n F 2 (q := 206) dX6_digest_205 rfl rfl rfl ?_
                                      refine v_ldc2 F (v := 31) (q := 209) (by decide +kernel) dX6_digest_206 rfl ?_
                                      refine v_lmul F (q := 210) dX6_digest_209 rfl ?_
                                      refine v_aload_n F 3 (q := 211) dX6_digest_210 rfl rfl rfl ?_
                                      refine v_get F (C := RX6) (T := TX6) (N := 25) (ci := 6) (v := .ref (g 4)) 0 17 hin6 rfl mw_at0 (by decide) (by decide +kernel) rfl (q := 214) dX6_digest_211 rfl ?_
                                      refine v_const F (q := 215) dX6_digest_214 rfl ?_
                                      refine v_iload F 1 (q := 217) dX6_digest_215 rfl rfl ?_
                                      refine v_imul F (q := 218) dX6_digest_217 rfl ?_
                                      refine v_iload F 0 (q := 220) dX6_digest_218 rfl rfl ?_
                                      refine v_iadd F (q := 221) dX6_digest_220 rfl ?_
                                      refine v_iald F (j := 3 * m + y) 4 mw_at4 (by omega) (by omega) (by decide) (q := 222) dX6_digest_221 rfl ?_
                                      refine v_cast (b := S (10 + m) y) (wd_at S (by omega) (by omega)) ?_
                                      have b_29 := And.intro (hI.pos (10 + m) y (by omega) (by omega)) (hI.1 (10 + m) y (by omega)).2
                                      refine v_i2l F (q := 223) dX6_digest_222 rfl ?_
                                      refine v_ladd F (q := 224) dX6_digest_223 rfl ?_
                                      refine v_lstore_n F (q := 225) [(1, .long ((d6 * 31) + ((iI (S (10 + m) y)).toInt64))), (5, VI ((y : Nat) : Int)), (4, VI ((m : Nat) : Int)), (0, .ref (g 0))] dX6_digest_224 rfl (by decide) rfl rfl ?_
                                      refine v_iinc F (q := 228) (z := ((y + 1 : Nat) : Int)) 1 [(5, VI ((y + 1 : Nat) : Int)), (1, .long ((d6 * 31) + ((iI (S (10 + m) y)).toInt64))), (4, VI ((m : Nat) : Int)), (0, .ref (g 0))] dX6_digest_225 rfl (by decide) (by omega) rfl rfl ?_
                                      refine v_goto F (tgt := 193) dX6_digest_228 rfl ?_
                                      refine v_sub [0, 2, 1, 3] rfl ?_
                                      refine v_widen (c' := 15 + (m + 1) * 8) (n' := 107 + (m + 1) * 64) (by first | omega | (dsimp only; omega)) (by first | omega | (dsimp only; omega)) ?_
                                      exact ih_193 ((d6 * 31) + ((iI (S (10 + m) y)).toInt64)) (y + 1) (by exact ⟨by omega, by rw [dgF_s, ← hz2]; rfl⟩) (by omega)
                                refine v_widen (c' := 15 + (m + 1) * 8) (n' := 107 + (m + 1) * 64) (by first | omega | (dsimp only; omega)) (by first | omega | (dsimp only; omega)) ?_
                                exact L193_26 _ d5 0 (by exact ⟨by omega, rfl⟩) (Nat.lt_succ_self _)
                              · refine v_lload_n F 2 (q := 169) dX6_digest_168 rfl rfl rfl ?_
                                refine v_ldc2 F (v := 31) (q := 172) (by decide +kernel) dX6_digest_169 rfl ?_
                                refine v_lmul F (q := 173) dX6_digest_172 rfl ?_
                                refine v_aload_n F 3 (q := 174) dX6_digest_173 rfl rfl rfl ?_
                                refine v_iload F 1 (q := 176) dX6_digest_174 rfl rfl ?_
                                refine v_iload F 0 (q := 178) dX6_digest_176 rfl rfl ?_
                                refine v_callVi0 F (kX6_mastTold hst (k := k) (g := g) (S := S) (Y := (u2 Y 0 0 0)) hI (m := m) (by omega) (a1 := ((j : Nat) : Int)) (by omega)) gX6_digest_X6_mastTold rfl hdX6_mastTold ⟨by decide, by decide⟩ 0 mw_at0 rfl rfl rfl (Nat.le_of_ble_eq_true rfl) ⟨(by first | decide | omega | (dsimp only; omega)), (by first | decide | omega | (dsimp only; omega))⟩ (q := 181) dX6_digest_178 rfl ?_
                                rintro a_30 _ ⟨rfl, h_30⟩
                                refine v_i2l F (q := 182) dX6_digest_181 rfl ?_
                                refine v_ladd F (q := 183) dX6_digest_182 rfl ?_
                                refine v_lstore_n F (q := 184) [(1, .long ((d5 * 31) + ((iI a_30).toInt64))), (5, VI ((j : Nat) : Int)), (4, VI ((m : Nat) : Int)), (0, .ref (g 0))] dX6_digest_183 rfl (by decide) rfl rfl ?_
                                refine v_iinc F (q := 187) (z := ((j + 1 : Nat) : Int)) 1 [(5, VI ((j + 1 : Nat) : Int)), (1, .long ((d5 * 31) + ((iI a_30).toInt64))), (4, VI ((m : Nat) : Int)), (0, .ref (g 0))] dX6_digest_184 rfl (by decide) (by omega) rfl rfl ?_
                                refine v_goto F (tgt := 161) dX6_digest_187 rfl ?_
                                refine v_sub [0, 2, 1, 3] rfl ?_
                                refine v_widen (c' := 15 + m * 8 + (j + 1)) (n' := 107 + m * 64 + (j + 1) * 8) (by first | omega | (dsimp only; omega)) (by first | omega | (dsimp only; omega)) ?_
                                exact ih_161 ((d5 * 31) + ((iI a_30).toInt64)) (j + 1) (by exact ⟨by omega, by rw [dgF_s, ← hu2]; show _ = d5 * 31 + (iI (mastV S m ((j : Nat) : Int))).toInt64; rw [← show a_30 = mastV S m ((j : Nat) : Int) from h_30]⟩) (by omega)
                          refine v_widen (c' := 15 + m * 8 + 0) (n' := 107 + m * 64 + 0 * 8) (by first | omega | (dsimp only; omega)) (by first | omega | (dsimp only; omega)) ?_
                          exact L161_24 _ d4 0 (by exact ⟨by omega, rfl⟩) (Nat.lt_succ_self _)
                    refine v_sub [0, 2, 3] rfl ?_
                    refine v_widen (c' := 15 + 0 * 8) (n' := 107 + 0 * 64) (by first | omega | (dsimp only; omega)) (by first | omega | (dsimp only; omega)) ?_
                    exact L149_15 _ d3 0 (by exact ⟨by omega, by show _ = digV S; rw [hd3, hd2, hd1, tl7_7]; rfl⟩) (Nat.lt_succ_self _)
                  · refine v_lload_n F 2 (q := 129) dX6_digest_128 rfl rfl rfl ?_
                    refine v_ldc2 F (v := 31) (q := 132) (by decide +kernel) dX6_digest_129 rfl ?_
                    refine v_lmul F (q := 133) dX6_digest_132 rfl ?_
                    refine v_aload_n F 1 (q := 134) dX6_digest_133 rfl rfl rfl ?_
                    refine v_iload F 0 (q := 136) dX6_digest_134 rfl rfl ?_
                    refine v_iald F (j := j3) 11 (mw_tail_at _) rfl (by omega) (by decide) (q := 137) dX6_digest_136 rfl ?_
                    refine v_i2l F (q := 138) dX6_digest_137 rfl ?_
                    refine v_ladd F (q := 139) dX6_digest_138 rfl ?_
                    refine v_lstore_n F (q := 140) [(1, .long ((d3 * 31) + ((iI ((fun i => if i = 6 then S 0 6 else (fun i => if i = 5 then S 0 5 else (fun i => if i = 4 then S 0 4 else (fun i => if i = 3 then S 0 3 else (fun i => if i = 2 then S 0 2 else (fun i => if i = 1 then S 0 1 else (fun i => if i = 0 then S 0 0 else (fun _ => 0) i) i) i) i) i) i) i) j3)).toInt64))), (4, VI ((j3 : Nat) : Int)), (3, .ref (t_5)), (0, .ref (g 0))] dX6_digest_139 rfl (by decide) rfl rfl ?_
                    refine v_iinc F (q := 143) (z := ((j3 + 1 : Nat) : Int)) 1 [(4, VI ((j3 + 1 : Nat) : Int)), (1, .long ((d3 * 31) + ((iI ((fun i => if i = 6 then S 0 6 else (fun i => if i = 5 then S 0 5 else (fun i => if i = 4 then S 0 4 else (fun i => if i = 3 then S 0 3 else (fun i => if i = 2 then S 0 2 else (fun i => if i = 1 then S 0 1 else (fun i => if i = 0 then S 0 0 else (fun _ => 0) i) i) i) i) i) i) i) j3)).toInt64))), (3, .ref (t_5)), (0, .ref (g 0))] dX6_digest_140 rfl (by decide) (by omega) rfl rfl ?_
                    refine v_goto F (tgt := 121) dX6_digest_143 rfl ?_
                    refine v_sub [0, 2, 1, 3] rfl ?_
                    refine v_widen (c' := 15) (n' := 107) (by first | omega | (dsimp only; omega)) (by first | omega | (dsimp only; omega)) ?_
                    exact ih_121 ((d3 * 31) + ((iI ((fun i => if i = 6 then S 0 6 else (fun i => if i = 5 then S 0 5 else (fun i => if i = 4 then S 0 4 else (fun i => if i = 3 then S 0 3 else (fun i => if i = 2 then S 0 2 else (fun i => if i = 1 then S 0 1 else (fun i => if i = 0 then S 0 0 else (fun _ => 0) i) i) i) i) i) i) i) j3)).toInt64)) (j3 + 1) (by exact ⟨by omega, by rw [dgF_s, ← hx2]; rfl⟩) (by omega)
              refine v_widen (c' := 15) (n' := 107) (by first | omega | (dsimp only; omega)) (by first | omega | (dsimp only; omega)) ?_
              exact L121_13 _ d2 0 (by exact ⟨by omega, rfl⟩) (Nat.lt_succ_self _)
            · refine v_lload_n F 1 (q := 45) dX6_digest_44 rfl rfl rfl ?_
              refine v_ldc2 F (v := 31) (q := 48) (by decide +kernel) dX6_digest_45 rfl ?_
              refine v_lmul F (q := 49) dX6_digest_48 rfl ?_
              refine v_aload_n F 2 (q := 50) dX6_digest_49 rfl rfl rfl ?_
              refine v_iload_n F 0 (q := 51) dX6_digest_50 rfl rfl rfl ?_
              refine v_callVi0 F (kX6_shipTold hst (k := k) (g := g) (S := S) (Y := (u2 Y 0 0 0)) hI (a0 := ((i2 : Nat) : Int)) (by omega)) gX6_digest_X6_shipTold rfl hdX6_shipTold ⟨by decide, by decide⟩ 0 mw_at0 rfl rfl rfl (Nat.le_of_ble_eq_true rfl) ⟨(by first | decide | omega | (dsimp only; omega)), (by first | decide | omega | (dsimp only; omega))⟩ (q := 54) dX6_digest_51 rfl ?_
              rintro a_31 _ ⟨rfl, h_31⟩
              refine v_i2l F (q := 55) dX6_digest_54 rfl ?_
              refine v_ladd F (q := 56) dX6_digest_55 rfl ?_
              refine v_lstore_n F (q := 57) [(1, .long ((d2 * 31) + ((iI a_31).toInt64))), (3, VI ((i2 : Nat) : Int)), (0, .ref (g 0))] dX6_digest_56 rfl (by decide) rfl rfl ?_
              refine v_iinc F (q := 60) (z := ((i2 + 1 : Nat) : Int)) 1 [(3, VI ((i2 + 1 : Nat) : Int)), (1, .long ((d2 * 31) + ((iI a_31).toInt64))), (0, .ref (g 0))] dX6_digest_57 rfl (by decide) (by omega) rfl rfl ?_
              refine v_goto F (tgt := 38) dX6_digest_60 rfl ?_
              refine v_widen (c' := 8 + (i2 + 1)) (n' := 64 + (i2 + 1) * 6) (by first | omega | (dsimp only; omega)) (by first | omega | (dsimp only; omega)) ?_
              exact ih_38 ((d2 * 31) + ((iI a_31).toInt64)) (i2 + 1) (by exact ⟨by omega, by rw [dgF_s, ← hw2]; show _ = d2 * 31 + (iI (shipV S ((i2 : Nat) : Int))).toInt64; rw [← show a_31 = shipV S ((i2 : Nat) : Int) from h_31]⟩) (by omega)
        refine v_widen (c' := 8 + 0) (n' := 64 + 0 * 6) (by first | omega | (dsimp only; omega)) (by first | omega | (dsimp only; omega)) ?_
        exact L38_3 _ d 0 (by exact ⟨by omega, rfl⟩) (Nat.lt_succ_self _)
      · refine v_lload_n F 1 (q := 18) dX6_digest_17 rfl rfl rfl ?_
        refine v_ldc2 F (v := 31) (q := 21) (by decide +kernel) dX6_digest_18 rfl ?_
        refine v_lmul F (q := 22) dX6_digest_21 rfl ?_
        refine v_aload_n F 2 (q := 23) dX6_digest_22 rfl rfl rfl ?_
        refine v_iload_n F 0 (q := 24) dX6_digest_23 rfl rfl rfl ?_
        refine v_callVi0 F (kX6_counted hst (k := k) (g := g) (S := S) (Y := (u2 Y 0 0 0)) hI (a0 := ((i : Nat) : Int)) (by omega)) gX6_digest_X6_counted rfl hdX6_counted ⟨by decide, by decide⟩ 0 mw_at0 rfl rfl rfl (Nat.le_of_ble_eq_true rfl) ⟨(by first | decide | omega | (dsimp only; omega)), (by first | decide | omega | (dsimp only; omega))⟩ (q := 27) dX6_digest_24 rfl ?_
        rintro a_32 _ ⟨rfl, h_32⟩
        refine v_i2l F (q := 28) dX6_digest_27 rfl ?_
        refine v_ladd F (q := 29) dX6_digest_28 rfl ?_
        refine v_lstore_n F (q := 30) [(1, .long ((d * 31) + ((iI a_32).toInt64))), (3, VI ((i : Nat) : Int)), (0, .ref (g 0))] dX6_digest_29 rfl (by decide) rfl rfl ?_
        refine v_iinc F (q := 33) (z := ((i + 1 : Nat) : Int)) 1 [(3, VI ((i + 1 : Nat) : Int)), (1, .long ((d * 31) + ((iI a_32).toInt64))), (0, .ref (g 0))] dX6_digest_30 rfl (by decide) (by omega) rfl rfl ?_
        refine v_goto F (tgt := 11) dX6_digest_33 rfl ?_
        refine v_widen (c' := (i + 1)) (n' := (i + 1) * 8) (by first | omega | (dsimp only; omega)) (by first | omega | (dsimp only; omega)) ?_
        exact ih_11 ((d * 31) + ((iI a_32).toInt64)) (i + 1) (by exact ⟨by omega, by rw [dgF_s, ← hv2]; show _ = d * 31 + (iI (cntV S ((i : Nat) : Int))).toInt64; rw [← show a_32 = cntV S ((i : Nat) : Int) from h_32]⟩) (by omega)
  refine v_widen (c' := 0) (n' := 0 * 8) (by first | omega | (dsimp only; omega)) (by first | omega | (dsimp only; omega)) ?_
  exact L11_1 _ 823 0 (by exact ⟨by omega, rfl⟩) (Nat.lt_succ_self _)
