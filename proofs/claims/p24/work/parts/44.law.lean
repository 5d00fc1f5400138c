/-! ===== the property's law ===== -/
set_option maxRecDepth 100000 in
set_option maxHeartbeats 4000000 in
theorem sgA {XX : vX} {l : Launch} {k : Nat → ClassId} {nm9 : String} (F : v_F XX l k ⟨RL, nm9, "([I)Z"⟩ code 28 wsL_law room_1) (hst : l.stackTraces = false) {b L : Nat} {xs : Nat → Int32} (hX : va_X b L xs XX.1.2.2.2.2 XX.1.2.2.2.2.heap) (hbl : b < XX.1.2.2.2.2.heap.size) (hbA : ¬ XX.2.2.2.2 b) (hL : L ≤ 2560) {h : Nat → Nat} {S Z : Nat → Nat → Int} (hI : Inv3 S) {c n : Nat} (hc : c + 2000 ≤ 600104) (hn : n + 12000 ≤ 7301314) {ti : Nat} (hti : ti < 40) (kk : ∀ (x9 t9 k9 fw fs fa : Int) (tl te : Nat) (Z' : Nat → Nat → Int), R32 x9 → (0 ≤ t9 ∧ t9 < max 1 (S 0 8)) → (0 ≤ k9 ∧ k9 < max 1 (S 0 7)) → (FewP S (cS S) fw ∧ -1 ≤ fw ∧ fw ≤ 1000) → FstP S (cS S) fs → FallsP S fa → V XX (cw k h S Z' ++ [(tl, aI k (mcn S) (fun _ => 0)), (te, aI k (mcn S) (fun _ => 0))]) (c + 100) (n + 700) 108 [(14, .ref (te)), (13, .ref (tl)), (12, VI fa), (11, VI fs), (10, VI fw), (8, .long (digR S)), (7, VI k9), (6, VI t9), (5, VI (S 0 8)), (4, VI (S 0 7)), (3, VI x9), (2, VI ((ti : Nat) : Int)), (1, .ref (h 0)), (0, .ref (b))] []) : V XX (cw k h S Z) c n 13 [(2, VI ((ti : Nat) : Int)), (1, .ref (h 0)), (0, .ref (b))] [] := by
  have hmz := mcn_z hI.1.1
  have htz := tcn_z hI.1.1
  have hmc := hI.1.1.mc
  have hcc := hI.1.1.cc
  refine v_aload_n F 2 (q := 14) dL_law_13 rfl rfl rfl ?_
  refine v_iload_n F 0 (q := 15) dL_law_14 rfl rfl rfl ?_
  refine v_bipush F (q := 17) dL_law_15 rfl rfl ?_
  refine v_irem F (q := 18) (by omega) (by omega) dL_law_17 rfl ?_
  refine v_cell F hst hX hbl hbA hL (by omega) gL_law_L_cell ⟨Nat.le_of_ble_eq_true rfl, Nat.le_of_ble_eq_true rfl⟩ (Nat.le_of_ble_eq_true rfl) ⟨by show c ≤ 600104; omega, by show n ≤ 7301314; omega⟩ (q := 21) dL_law_18 rfl (fun a_1 h_1 => ?_)
  refine v_iload_n F 0 (q := 22) dL_law_21 rfl rfl rfl ?_
  refine v_bipush F (q := 24) dL_law_22 rfl rfl ?_
  refine v_idiv F (q := 25) (by omega) (by omega) dL_law_24 rfl ?_
  refine v_bipush F (q := 27) dL_law_25 rfl rfl ?_
  refine v_imul F (q := 28) dL_law_27 rfl ?_
  refine v_shr F (q := 29) dL_law_28 rfl (fun a_2 h_2 => ?_)
  refine v_istore_n F (q := 30) [(3, VI a_2), (2, VI ((ti : Nat) : Int)), (1, .ref (h 0)), (0, .ref (b))] dL_law_29 rfl (by decide) rfl rfl ?_
  refine v_aload_n F 2 (q := 31) dL_law_30 rfl rfl rfl ?_
  refine v_const F (q := 32) dL_law_31 rfl ?_
  have e_3 : eCnt 1 = 0 := by unfold eCnt; rw [if_pos (by omega)]
  refine v_callVt0 F (kX5_count hst (k := k) (h := h) (S := S) (Z := Z) hI.1.1 (a0 := 1) (by omega)) (fun E9 u9 h9 => absurd h9.2.1 (by rw [e_3]; decide)) gL_law_X5_count rfl hdX5_count ⟨Nat.le_of_ble_eq_true rfl, Nat.le_of_ble_eq_true rfl⟩ 0 cw_at0 rfl rfl rfl (Nat.le_of_ble_eq_true rfl) ⟨by show c + 1 ≤ 600104; omega, by show n + 6 ≤ 7301314; omega⟩ (q := 35) dL_law_32 rfl ?_
  rintro a_3 _ ⟨rfl, -, h_3⟩
  refine v_cast (b := S 0 7) (h_3.trans (cv1 _)) ?_
  have b_3 := hI.1.1.mc
  refine v_istore F (q := 37) [(4, VI (S 0 7)), (3, VI a_2), (2, VI ((ti : Nat) : Int)), (1, .ref (h 0)), (0, .ref (b))] dL_law_35 (by decide) rfl rfl ?_
  refine v_aload_n F 3 (q := 38) dL_law_37 rfl rfl rfl ?_
  refine v_const F (q := 39) dL_law_38 rfl ?_
  have e_4 : eCnt 3 = 0 := by unfold eCnt; rw [if_pos (by omega)]
  refine v_callVt0 F (kX5_count hst (k := k) (h := h) (S := S) (Z := Z) hI.1.1 (a0 := 3) (by omega)) (fun E9 u9 h9 => absurd h9.2.1 (by rw [e_4]; decide)) gL_law_X5_count rfl hdX5_count ⟨Nat.le_of_ble_eq_true rfl, Nat.le_of_ble_eq_true rfl⟩ 0 cw_at0 rfl rfl rfl (Nat.le_of_ble_eq_true rfl) ⟨by show c + 1 + 1 ≤ 600104; omega, by show n + 6 + 6 ≤ 7301314; omega⟩ (q := 42) dL_law_39 rfl ?_
  rintro a_4 _ ⟨rfl, -, h_4⟩
  refine v_cast (b := S 0 8) (h_4.trans (cv3 _)) ?_
  have b_4 := hI.1.1.cc
  refine v_istore F (q := 44) [(5, VI (S 0 8)), (4, VI (S 0 7)), (3, VI a_2), (2, VI ((ti : Nat) : Int)), (1, .ref (h 0)), (0, .ref (b))] dL_law_42 (by decide) rfl rfl ?_
  refine v_iload_n F 2 (q := 45) dL_law_44 rfl rfl rfl ?_
  refine v_const F (q := 46) dL_law_45 rfl ?_
  refine v_shr F (q := 47) dL_law_46 rfl (fun a_5 h_5 => ?_)
  refine v_const F (q := 48) dL_law_47 rfl ?_
  refine v_iload F 0 (q := 50) dL_law_48 rfl rfl ?_
  refine v_max F (by omega) (by omega) (show Cond.methodLink RL 70 Lib.Math.max.name ∈ wsL_law by decide +kernel) (by decide +kernel) (by decide +kernel) (by decide +kernel) ⟨Nat.le_of_ble_eq_true rfl, Nat.le_of_ble_eq_true rfl⟩ ⟨by show c + 1 + 1 ≤ 600104; omega, by show n + 6 + 6 ≤ 7301314; omega⟩ (q := 53) dL_law_50 rfl ?_
  refine v_below F hst (by omega) gL_law_L_below ⟨Nat.le_of_ble_eq_true rfl, Nat.le_of_ble_eq_true rfl⟩ (Nat.le_of_ble_eq_true rfl) ⟨by show c + 1 + 1 ≤ 600104; omega, by show n + 6 + 6 ≤ 7301314; omega⟩ (q := 56) dL_law_53 rfl (fun a_6 h_6 => ?_)
  refine v_istore F (q := 58) [(6, VI a_6), (5, VI (S 0 8)), (4, VI (S 0 7)), (3, VI a_2), (2, VI ((ti : Nat) : Int)), (1, .ref (h 0)), (0, .ref (b))] dL_law_56 (by decide) rfl rfl ?_
  refine v_iload_n F 3 (q := 59) dL_law_58 rfl rfl rfl ?_
  refine v_const F (q := 60) dL_law_59 rfl ?_
  refine v_shr F (q := 61) dL_law_60 rfl (fun a_7 h_7 => ?_)
  refine v_const F (q := 62) dL_law_61 rfl ?_
  refine v_iload F 2 (q := 64) dL_law_62 rfl rfl ?_
  refine v_max F (by omega) (by omega) (show Cond.methodLink RL 70 Lib.Math.max.name ∈ wsL_law by decide +kernel) (by decide +kernel) (by decide +kernel) (by decide +kernel) ⟨Nat.le_of_ble_eq_true rfl, Nat.le_of_ble_eq_true rfl⟩ ⟨by show c + 1 + 1 ≤ 600104; omega, by show n + 6 + 6 ≤ 7301314; omega⟩ (q := 67) dL_law_64 rfl ?_
  refine v_below F hst (by omega) gL_law_L_below ⟨Nat.le_of_ble_eq_true rfl, Nat.le_of_ble_eq_true rfl⟩ (Nat.le_of_ble_eq_true rfl) ⟨by show c + 1 + 1 ≤ 600104; omega, by show n + 6 + 6 ≤ 7301314; omega⟩ (q := 70) dL_law_67 rfl (fun a_8 h_8 => ?_)
  refine v_istore F (q := 72) [(7, VI a_8), (6, VI a_6), (5, VI (S 0 8)), (4, VI (S 0 7)), (3, VI a_2), (2, VI ((ti : Nat) : Int)), (1, .ref (h 0)), (0, .ref (b))] dL_law_70 (by decide) rfl rfl ?_
  refine v_aload_n F 6 (q := 73) dL_law_72 rfl rfl rfl ?_
  refine v_callVl0 F (kX5_digest hst (k := k) (h := h) (S := S) (Z := Z) hI.1.1) gL_law_X5_digest rfl hdX5_digest ⟨Nat.le_of_ble_eq_true rfl, Nat.le_of_ble_eq_true rfl⟩ 0 cw_at0 rfl rfl rfl (Nat.le_of_ble_eq_true rfl) ⟨by show c + 1 + 1 + 78 ≤ 600104; omega, by show n + 6 + 6 + 468 ≤ 7301314; omega⟩ (q := 76) dL_law_73 rfl ?_
  rintro _ _ ⟨rfl, rfl⟩
  refine v_lstore F (q := 78) [(8, .long (digR S)), (7, VI a_8), (6, VI a_6), (5, VI (S 0 8)), (4, VI (S 0 7)), (3, VI a_2), (2, VI ((ti : Nat) : Int)), (1, .ref (h 0)), (0, .ref (b))] dL_law_76 (by decide) rfl rfl ?_
  refine v_aload_n F 7 (q := 79) dL_law_78 rfl rfl rfl ?_
  refine v_callVi0 F (kX5_fewest hst (k := k) (h := h) (S := S) (Z := Z) hI.1.1) gL_law_X5_fewest rfl hdX5_fewest ⟨Nat.le_of_ble_eq_true rfl, Nat.le_of_ble_eq_true rfl⟩ 0 cw_at0 rfl rfl rfl (Nat.le_of_ble_eq_true rfl) ⟨by show c + 1 + 1 + 78 + 0 ≤ 600104; omega, by show n + 6 + 6 + 468 + 0 ≤ 7301314; omega⟩ (q := 82) dL_law_79 rfl ?_
  rintro a_10 _ ⟨Z_10, rfl, h_10, hb_10⟩
  refine v_istore F (q := 84) [(10, VI a_10), (8, .long (digR S)), (7, VI a_8), (6, VI a_6), (5, VI (S 0 8)), (4, VI (S 0 7)), (3, VI a_2), (2, VI ((ti : Nat) : Int)), (1, .ref (h 0)), (0, .ref (b))] dL_law_82 (by decide) rfl rfl ?_
  refine v_aload_n F 8 (q := 85) dL_law_84 rfl rfl rfl ?_
  refine v_callVi0 F (kX5_first hst (k := k) (h := h) (S := S) (Z := Z_10) hI.1.1) gL_law_X5_first rfl hdX5_first ⟨Nat.le_of_ble_eq_true rfl, Nat.le_of_ble_eq_true rfl⟩ 0 cw_at0 rfl rfl rfl (Nat.le_of_ble_eq_true rfl) ⟨by show c + 1 + 1 + 78 + 0 ≤ 600104; omega, by show n + 6 + 6 + 468 + 0 ≤ 7301314; omega⟩ (q := 88) dL_law_85 rfl ?_
  rintro a_11 _ ⟨Z_11, rfl, h_11⟩
  have b_11 := fst_th h_11
  have e_11 := (fst_few h_11 h_10).2
  refine v_istore F (q := 90) [(11, VI a_11), (10, VI a_10), (8, .long (digR S)), (7, VI a_8), (6, VI a_6), (5, VI (S 0 8)), (4, VI (S 0 7)), (3, VI a_2), (2, VI ((ti : Nat) : Int)), (1, .ref (h 0)), (0, .ref (b))] dL_law_88 (by decide) rfl rfl ?_
  refine v_aload_n F 9 (q := 91) dL_law_90 rfl rfl rfl ?_
  refine v_callVi0 F (kX5_falls hst (k := k) (h := h) (S := S) (Z := Z_11) hI.1.1) gL_law_X5_falls rfl hdX5_falls ⟨Nat.le_of_ble_eq_true rfl, Nat.le_of_ble_eq_true rfl⟩ 0 cw_at0 rfl rfl rfl (Nat.le_of_ble_eq_true rfl) ⟨by show c + 1 + 1 + 78 + 0 ≤ 600104; omega, by show n + 6 + 6 + 468 + 0 ≤ 7301314; omega⟩ (q := 94) dL_law_91 rfl ?_
  rintro a_12 _ ⟨rfl, h_12⟩
  have b_12 := fal_bd h_12
  refine v_istore F (q := 96) [(12, VI a_12), (11, VI a_11), (10, VI a_10), (8, .long (digR S)), (7, VI a_8), (6, VI a_6), (5, VI (S 0 8)), (4, VI (S 0 7)), (3, VI a_2), (2, VI ((ti : Nat) : Int)), (1, .ref (h 0)), (0, .ref (b))] dL_law_94 (by decide) rfl rfl ?_
  refine v_iload F 7 (q := 98) dL_law_96 rfl rfl ?_
  refine v_cast (b := ((mcn S : Nat) : Int)) (mcn_z hI.1.1).symm ?_
  refine v_newi F (N := mcn S) (q := 100) (by omega) (by decide +kernel) (by show c + 1 + 1 + 78 + 1 ≤ 600104; omega) (by show n + 6 + 6 + 468 + mcn S ≤ 7301314; omega) dL_law_98 rfl (fun t_13 => ?_)
  refine v_widen (c' := c + 1 + 1 + 78 + 1) (n' := n + 6 + 6 + 468 + 8) (by first | omega | (dsimp only; omega)) (by first | omega | (dsimp only; omega)) ?_
  refine v_weq (w9 := cw k h S Z_11 ++ [(t_13, aI k (mcn S) (fun _ => 0))]) rfl ?_
  refine v_astore F (q := 102) [(13, .ref (t_13)), (12, VI a_12), (11, VI a_11), (10, VI a_10), (8, .long (digR S)), (7, VI a_8), (6, VI a_6), (5, VI (S 0 8)), (4, VI (S 0 7)), (3, VI a_2), (2, VI ((ti : Nat) : Int)), (1, .ref (h 0)), (0, .ref (b))] dL_law_100 (by decide) rfl rfl ?_
  refine v_iload F 8 (q := 104) dL_law_102 rfl rfl ?_
  refine v_cast (b := ((mcn S : Nat) : Int)) (mcn_z hI.1.1).symm ?_
  refine v_newi F (N := mcn S) (q := 106) (by omega) (by decide +kernel) (by show c + 1 + 1 + 78 + 1 + 1 ≤ 600104; omega) (by show n + 6 + 6 + 468 + 8 + mcn S ≤ 7301314; omega) dL_law_104 rfl (fun t_14 => ?_)
  refine v_widen (c' := c + 1 + 1 + 78 + 1 + 1) (n' := n + 6 + 6 + 468 + 8 + 8) (by first | omega | (dsimp only; omega)) (by first | omega | (dsimp only; omega)) ?_
  refine v_weq (w9 := cw k h S Z_11 ++ [(t_13, aI k (mcn S) (fun _ => 0)), (t_14, aI k (mcn S) (fun _ => 0))]) rfl ?_
  refine v_astore F (q := 108) [(14, .ref (t_14)), (13, .ref (t_13)), (12, VI a_12), (11, VI a_11), (10, VI a_10), (8, .long (digR S)), (7, VI a_8), (6, VI a_6), (5, VI (S 0 8)), (4, VI (S 0 7)), (3, VI a_2), (2, VI ((ti : Nat) : Int)), (1, .ref (h 0)), (0, .ref (b))] dL_law_106 (by decide) rfl rfl ?_
  refine v_widen (c' := c + 100) (n' := n + 700) (by first | omega | (dsimp only; omega)) (by first | omega | (dsimp only; omega)) ?_
  exact kk a_2 a_6 a_8 a_10 a_11 a_12 t_13 t_14 Z_11 h_2 h_6 h_8 ⟨h_10, hb_10⟩ h_11 h_12
set_option maxRecDepth 100000 in
set_option maxHeartbeats 4000000 in
theorem sgB {XX : vX} {l : Launch} {k : Nat → ClassId} {nm9 : String} (F : v_F XX l k ⟨RL, nm9, "([I)Z"⟩ code 28 wsL_law room_1) (hst : l.stackTraces = false) {b L : Nat} {xs : Nat → Int32} (hX : va_X b L xs XX.1.2.2.2.2 XX.1.2.2.2.2.heap) (hbl : b < XX.1.2.2.2.2.heap.size) (hbA : ¬ XX.2.2.2.2 b) (hL : L ≤ 2560) {h : Nat → Nat} {S Z : Nat → Nat → Int} (hI : Inv3 S) {c n : Nat} (hc : c + 2000 ≤ 600104) (hn : n + 12000 ≤ 7301314) {ti : Nat} (hti : ti < 40) {x9 t9 k9 fw fs fa : Int} (hx9 : R32 x9) (ht9 : 0 ≤ t9 ∧ t9 < max 1 (S 0 8)) (hk9 : 0 ≤ k9 ∧ k9 < max 1 (S 0 7)) (hfw : FewP S (cS S) fw ∧ -1 ≤ fw ∧ fw ≤ 1000) (hfs : FstP S (cS S) fs) (hfa : FallsP S fa) {tl te : Nat} (kk : ∀ (Z' : Nat → Nat → Int) (ln le : Nat → Int), (∀ j, j < mcn S → ln j = S 4 j) → (∀ j, j < mcn S → LeaP S (cS S) j (le j)) → V XX (cw k h S Z' ++ [(tl, aI k (mcn S) ln), (te, aI k (mcn S) le)]) (c + 150) (n + 900) 287 [(16, VI (upN S (mcn S))), (15, VI (sumL (S 4) (mcn S))), (14, .ref (te)), (13, .ref (tl)), (12, VI fa), (11, VI fs), (10, VI fw), (8, .long (digR S)), (7, VI k9), (6, VI t9), (5, VI (S 0 8)), (4, VI (S 0 7)), (3, VI x9), (2, VI ((ti : Nat) : Int)), (1, .ref (h 0)), (0, .ref (b))] []) : V XX (cw k h S Z ++ [(tl, aI k (mcn S) (fun _ => 0)), (te, aI k (mcn S) (fun _ => 0))]) (c + 100) (n + 700) 108 [(14, .ref (te)), (13, .ref (tl)), (12, VI fa), (11, VI fs), (10, VI fw), (8, .long (digR S)), (7, VI k9), (6, VI t9), (5, VI (S 0 8)), (4, VI (S 0 7)), (3, VI x9), (2, VI ((ti : Nat) : Int)), (1, .ref (h 0)), (0, .ref (b))] [] := by
  have hmz := mcn_z hI.1.1
  have htz := tcn_z hI.1.1
  have hmc := hI.1.1.mc
  have hcc := hI.1.1.cc
  refine v_const F (q := 109) dL_law_108 rfl ?_
  refine v_istore F (q := 111) [(15, VI 0), (14, .ref (te)), (13, .ref (tl)), (12, VI fa), (11, VI fs), (10, VI fw), (8, .long (digR S)), (7, VI k9), (6, VI t9), (5, VI (S 0 8)), (4, VI (S 0 7)), (3, VI x9), (2, VI ((ti : Nat) : Int)), (1, .ref (h 0)), (0, .ref (b))] dL_law_109 (by decide) rfl rfl ?_
  refine v_const F (q := 112) dL_law_111 rfl ?_
  refine v_istore F (q := 114) [(16, VI 0), (15, VI 0), (14, .ref (te)), (13, .ref (tl)), (12, VI fa), (11, VI fs), (10, VI fw), (8, .long (digR S)), (7, VI k9), (6, VI t9), (5, VI (S 0 8)), (4, VI (S 0 7)), (3, VI x9), (2, VI ((ti : Nat) : Int)), (1, .ref (h 0)), (0, .ref (b))] dL_law_112 (by decide) rfl rfl ?_
  refine v_const F (q := 115) dL_law_114 rfl ?_
  refine v_istore F (q := 117) [(17, VI 0), (16, VI 0), (15, VI 0), (14, .ref (te)), (13, .ref (tl)), (12, VI fa), (11, VI fs), (10, VI fw), (8, .long (digR S)), (7, VI k9), (6, VI t9), (5, VI (S 0 8)), (4, VI (S 0 7)), (3, VI x9), (2, VI ((ti : Nat) : Int)), (1, .ref (h 0)), (0, .ref (b))] dL_law_115 (by decide) rfl rfl ?_
  have L117_1 : ∀ (fu : Nat) (sm : Int) (up : Int) (i : Nat) (Zx : Nat → Nat → Int) (ln : Nat → Int) (le : Nat → Int), ((i : Int) ≤ S 0 7 ∧ sm = sumL (S 4) i ∧ up = upN S i ∧ (∀ j, j < i → ln j = S 4 j) ∧ (∀ j, j < i → LeaP S (cS S) j (le j)) ∧ (0 ≤ sm ∧ sm ≤ 9 * (i : Int)) ∧ (0 ≤ up ∧ up ≤ (i : Int))) → (S 0 7 - i).toNat < fu → V XX (cw k h S Zx ++ [(tl, aI k (mcn S) ln), (te, aI k (mcn S) le)]) (c + 100 + 8 * i) (n + 700 + 48 * i) 117 [(17, VI ((i : Nat) : Int)), (16, VI up), (15, VI sm), (14, .ref (te)), (13, .ref (tl)), (12, VI fa), (11, VI fs), (10, VI fw), (8, .long (digR S)), (7, VI k9), (6, VI t9), (5, VI (S 0 8)), (4, VI (S 0 7)), (3, VI x9), (2, VI ((ti : Nat) : Int)), (1, .ref (h 0)), (0, .ref (b))] [] := by
    intro fu_117
    induction fu_117 with
    | zero => intros; omega
    | succ fu_117 ih_117 =>
      intro sm up i Zx ln le hv hm_117
      obtain ⟨hv1, hv2, hv3, hv4, hv5, hv6, hv7⟩ := hv
      have hot := own_tall S (S 4) i
      refine v_iload F 0 (q := 119) dL_law_117 rfl rfl ?_
      refine v_iload F 12 (q := 121) dL_law_119 rfl rfl ?_
      refine v_icmp_ge F (tgt := 287) (q := 124) (by omega) (by omega) dL_law_121 rfl rfl (fun h_2 => ?_) (fun h_2 => ?_)
      · refine v_sub [1, 2, 3, 4, 5, 6, 7, 8, 9, 10, 11, 12, 13, 14, 15, 16] rfl ?_
        have hmi : i = mcn S := by omega
        subst hmi
        refine v_widen (c' := c + 150) (n' := n + 900) (by first | omega | (dsimp only; omega)) (by first | omega | (dsimp only; omega)) ?_
        rw [hv2, hv3]
        exact kk Zx ln le hv4 hv5
      · refine v_aload F 4 (q := 126) dL_law_124 rfl rfl ?_
        refine v_iload F 0 (q := 128) dL_law_126 rfl rfl ?_
        refine v_aload_n F 15 (q := 129) dL_law_128 rfl rfl rfl ?_
        refine v_iload F 0 (q := 131) dL_law_129 rfl rfl ?_
        refine v_const F (q := 132) dL_law_131 rfl ?_
        have e_3 : eMast S ((i : Nat) : Int) 2 = 0 := by unfold eMast; rw [if_pos (by omega)]
        refine v_callVt F (kX5_mast hst (k := k) (h := h) (S := S) (Z := Zx) hI.1.1 (a0 := ((i : Nat) : Int)) (a1 := 2) (by omega) (by omega)) rfl gL_law_X5_mast rfl hdX5_mast ⟨Nat.le_of_ble_eq_true rfl, Nat.le_of_ble_eq_true rfl⟩ 0 cw_at0 rfl rfl rfl (Nat.le_of_ble_eq_true rfl) ⟨by show c + 100 + 8 * i + 1 ≤ 600104; omega, by show n + 700 + 48 * i + 6 ≤ 7301314; omega⟩ (q := 135) dL_law_132 rfl (fun E9 u9 h9 => absurd h9.2.1 (by rw [e_3]; decide)) ?_
        rintro a_3 _ ⟨rfl, -, h_3⟩
        refine v_cast (b := S 4 i) (h_3.trans (mv2 _ _)) ?_
        have b_3 := hI.1.1.lean i
        refine v_iast F (j := i) 28 (cw k h S Zx ++ [(tl, aI k (mcn S) (fun z => if z = i then S 4 i else ln z)), (te, aI k (mcn S) le)]) rfl rfl (by omega) (by omega) (by rw [upd_iI]; rfl) (q := 136) dL_law_135 rfl ?_
        refine v_aload F 3 (q := 138) dL_law_136 rfl rfl ?_
        refine v_iload F 0 (q := 140) dL_law_138 rfl rfl ?_
        refine v_aload_n F 15 (q := 141) dL_law_140 rfl rfl rfl ?_
        refine v_iload F 0 (q := 143) dL_law_141 rfl rfl ?_
        have e_4 : eLeast S ((i : Nat) : Int) = 0 := by unfold eLeast; rw [if_pos (by omega)]
        refine v_callVt F (kX5_least hst (k := k) (h := h) (S := S) (Z := Zx) hI.1.1 (a0 := ((i : Nat) : Int)) (by omega)) rfl gL_law_X5_least rfl hdX5_least ⟨Nat.le_of_ble_eq_true rfl, Nat.le_of_ble_eq_true rfl⟩ 0 cw_at0 rfl rfl rfl (Nat.le_of_ble_eq_true rfl) ⟨by show c + 100 + 8 * i + 1 + 1 ≤ 600104; omega, by show n + 700 + 48 * i + 6 + 6 ≤ 7301314; omega⟩ (q := 146) dL_law_143 rfl (fun E9 u9 h9 => absurd h9.2.1 (by rw [e_4]; decide)) ?_
        rintro a_4 _ ⟨Z_4, rfl, -, h_4⟩
        have g_4 : LeaP S (cS S) i a_4 := h_4
        have b_4 := lea_bd hI.1.1 (m := i) (by omega) g_4
        have hl0 : 0 ≤ fw → a_4 = 0 := fun z => lea_0 hfw.1 z g_4
        refine v_iast F (j := i) 29 (cw k h S Z_4 ++ [(tl, aI k (mcn S) (fun z => if z = i then S 4 i else ln z)), (te, aI k (mcn S) (fun z => if z = i then a_4 else le z))]) rfl rfl (by omega) (by omega) (by rw [upd_iI]; rfl) (q := 147) dL_law_146 rfl ?_
        refine v_iload F 2 (q := 149) dL_law_147 rfl rfl ?_
        refine v_aload F 4 (q := 151) dL_law_149 rfl rfl ?_
        refine v_iload F 0 (q := 153) dL_law_151 rfl rfl ?_
        refine v_iald F (j := i) 28 rfl rfl (by omega) (by omega) (q := 154) dL_law_153 rfl ?_
        refine v_cast (b := S 4 i) (if_pos rfl) ?_
        refine v_iadd F (q := 155) dL_law_154 rfl ?_
        refine v_istore F (q := 157) [(15, VI (sm + (S 4 i))), (17, VI ((i : Nat) : Int)), (16, VI up), (14, .ref (te)), (13, .ref (tl)), (12, VI fa), (11, VI fs), (10, VI fw), (8, .long (digR S)), (7, VI k9), (6, VI t9), (5, VI (S 0 8)), (4, VI (S 0 7)), (3, VI x9), (2, VI ((ti : Nat) : Int)), (1, .ref (h 0)), (0, .ref (b))] dL_law_155 (by decide) rfl rfl ?_
        refine v_iload F 2 (q := 159) dL_law_157 rfl rfl ?_
        refine v_aload F 4 (q := 161) dL_law_159 rfl rfl ?_
        refine v_iload F 1 (q := 163) dL_law_161 rfl rfl ?_
        refine v_iald F (j := i) 28 rfl rfl (by omega) (by omega) (q := 164) dL_law_163 rfl ?_
        refine v_cast (b := S 4 i) (if_pos rfl) ?_
        have K_5 : ∀ z_5 : Int, ((z_5 = 1 ∧ (S 4 i) = 0) ∨ (z_5 = 0 ∧ ¬ (S 4 i) = 0)) → V XX (cw k h S Z_4 ++ [(tl, aI k (mcn S) (fun z => if z = i then S 4 i else ln z)), (te, aI k (mcn S) (fun z => if z = i then a_4 else le z))]) (c + 100 + 8 * i + 1 + 1) (n + 700 + 48 * i + 6 + 6) 172 [(15, VI (sm + (S 4 i))), (17, VI ((i : Nat) : Int)), (16, VI up), (14, .ref (te)), (13, .ref (tl)), (12, VI fa), (11, VI fs), (10, VI fw), (8, .long (digR S)), (7, VI k9), (6, VI t9), (5, VI (S 0 8)), (4, VI (S 0 7)), (3, VI x9), (2, VI ((ti : Nat) : Int)), (1, .ref (h 0)), (0, .ref (b))] [VI z_5, VI up] := by
          intro z_5 hz_5
          refine v_iadd F (q := 173) dL_law_172 rfl ?_
          refine v_istore F (q := 175) [(16, VI (up + z_5)), (15, VI (sm + (S 4 i))), (17, VI ((i : Nat) : Int)), (14, .ref (te)), (13, .ref (tl)), (12, VI fa), (11, VI fs), (10, VI fw), (8, .long (digR S)), (7, VI k9), (6, VI t9), (5, VI (S 0 8)), (4, VI (S 0 7)), (3, VI x9), (2, VI ((ti : Nat) : Int)), (1, .ref (h 0)), (0, .ref (b))] dL_law_173 (by decide) rfl rfl ?_
          refine v_aload F 4 (q := 177) dL_law_175 rfl rfl ?_
          refine v_iload F 2 (q := 179) dL_law_177 rfl rfl ?_
          refine v_iald F (j := i) 28 rfl rfl (by omega) (by omega) (q := 180) dL_law_179 rfl ?_
          refine v_cast (b := S 4 i) (if_pos rfl) ?_
          refine v_if_lt F (tgt := 279) (q := 183) (by omega) dL_law_180 rfl rfl (fun h_6 => ?_) (fun h_6 => ?_)
          · exfalso
            omega
          · refine v_aload F 4 (q := 185) dL_law_183 rfl rfl ?_
            refine v_iload F 2 (q := 187) dL_law_185 rfl rfl ?_
            refine v_iald F (j := i) 28 rfl rfl (by omega) (by omega) (q := 188) dL_law_187 rfl ?_
            refine v_cast (b := S 4 i) (if_pos rfl) ?_
            refine v_bipush F (q := 190) dL_law_188 rfl rfl ?_
            refine v_icmp_gt F (tgt := 279) (q := 193) (by omega) (by omega) dL_law_190 rfl rfl (fun h_7 => ?_) (fun h_7 => ?_)
            · exfalso
              omega
            · refine v_aload F 3 (q := 195) dL_law_193 rfl rfl ?_
              refine v_iload F 2 (q := 197) dL_law_195 rfl rfl ?_
              refine v_iald F (j := i) 29 rfl rfl (by omega) (by omega) (q := 198) dL_law_197 rfl ?_
              refine v_cast (b := a_4) (if_pos rfl) ?_
              refine v_if_lt F (tgt := 279) (q := 201) (by omega) dL_law_198 rfl rfl (fun h_8 => ?_) (fun h_8 => ?_)
              · exfalso
                omega
              · refine v_aload F 3 (q := 203) dL_law_201 rfl rfl ?_
                refine v_iload F 2 (q := 205) dL_law_203 rfl rfl ?_
                refine v_iald F (j := i) 29 rfl rfl (by omega) (by omega) (q := 206) dL_law_205 rfl ?_
                refine v_cast (b := a_4) (if_pos rfl) ?_
                refine v_aload F 4 (q := 208) dL_law_206 rfl rfl ?_
                refine v_iload F 2 (q := 210) dL_law_208 rfl rfl ?_
                refine v_iald F (j := i) 28 rfl rfl (by omega) (by omega) (q := 211) dL_law_210 rfl ?_
                refine v_cast (b := S 4 i) (if_pos rfl) ?_
                refine v_icmp_gt F (tgt := 279) (q := 214) (by omega) (by omega) dL_law_211 rfl rfl (fun h_9 => ?_) (fun h_9 => ?_)
                · exfalso
                  omega
                · refine v_iload F 7 (q := 216) dL_law_214 rfl rfl ?_
                  have J_227 : V XX (cw k h S Z_4 ++ [(tl, aI k (mcn S) (fun z => if z = i then S 4 i else ln z)), (te, aI k (mcn S) (fun z => if z = i then a_4 else le z))]) (c + 100 + 8 * i + 1 + 1) (n + 700 + 48 * i + 6 + 6) 227 [(16, VI (up + z_5)), (15, VI (sm + (S 4 i))), (17, VI ((i : Nat) : Int)), (14, .ref (te)), (13, .ref (tl)), (12, VI fa), (11, VI fs), (10, VI fw), (8, .long (digR S)), (7, VI k9), (6, VI t9), (5, VI (S 0 8)), (4, VI (S 0 7)), (3, VI x9), (2, VI ((ti : Nat) : Int)), (1, .ref (h 0)), (0, .ref (b))] [] := by
                    refine v_aload_n F 15 (q := 228) dL_law_227 rfl rfl rfl ?_
                    refine v_iload F 2 (q := 230) dL_law_228 rfl rfl ?_
                    refine v_const F (q := 231) dL_law_230 rfl ?_
                    have e_10 : eMast S ((i : Nat) : Int) 3 = 0 := by unfold eMast; rw [if_pos (by omega)]
                    refine v_callVt F (kX5_mast hst (k := k) (h := h) (S := S) (Z := Z_4) hI.1.1 (a0 := ((i : Nat) : Int)) (a1 := 3) (by omega) (by omega)) rfl gL_law_X5_mast rfl hdX5_mast ⟨Nat.le_of_ble_eq_true rfl, Nat.le_of_ble_eq_true rfl⟩ 0 cw_at0 rfl rfl rfl (Nat.le_of_ble_eq_true rfl) ⟨by show c + 100 + 8 * i + 1 + 1 + 1 ≤ 600104; omega, by show n + 700 + 48 * i + 6 + 6 + 6 ≤ 7301314; omega⟩ (q := 234) dL_law_231 rfl (fun E9 u9 h9 => absurd h9.2.1 (by rw [e_10]; decide)) ?_
                    rintro a_10 _ ⟨rfl, -, h_10⟩
                    refine v_cast (b := stand S (S 4) i) (h_10.trans (mv3 _ _)) ?_
                    have b_10 := stand_bd hI.1.1 (f := S 4) (m := i) (hI.1.1.lean i)
                    refine v_aload_n F 15 (q := 235) dL_law_234 rfl rfl rfl ?_
                    refine v_iload F 2 (q := 237) dL_law_235 rfl rfl ?_
                    refine v_const F (q := 238) dL_law_237 rfl ?_
                    have e_11 : eMast S ((i : Nat) : Int) 4 = 0 := by unfold eMast; rw [if_pos (by omega)]
                    refine v_callVt F (kX5_mast hst (k := k) (h := h) (S := S) (Z := Z_4) hI.1.1 (a0 := ((i : Nat) : Int)) (a1 := 4) (by omega) (by omega)) rfl gL_law_X5_mast rfl hdX5_mast ⟨Nat.le_of_ble_eq_true rfl, Nat.le_of_ble_eq_true rfl⟩ 0 cw_at0 rfl rfl rfl (Nat.le_of_ble_eq_true rfl) ⟨by show c + 100 + 8 * i + 1 + 1 + 1 + 1 ≤ 600104; omega, by show n + 700 + 48 * i + 6 + 6 + 6 + 6 ≤ 7301314; omega⟩ (q := 241) dL_law_238 rfl (fun E9 u9 h9 => absurd h9.2.1 (by rw [e_11]; decide)) ?_
                    rintro a_11 _ ⟨rfl, -, h_11⟩
                    refine v_cast (b := reachM S (S 4) i) (h_11.trans (mv4 _ _)) ?_
                    have b_11 := reach_bd hI.1.1 (f := S 4) (m := i) (hI.1.1.lean i)
                    refine v_iadd F (q := 242) dL_law_241 rfl ?_
                    refine v_aload_n F 15 (q := 243) dL_law_242 rfl rfl rfl ?_
                    refine v_iload F 2 (q := 245) dL_law_243 rfl rfl ?_
                    refine v_const F (q := 246) dL_law_245 rfl ?_
                    have e_12 : eMast S ((i : Nat) : Int) 1 = 0 := by unfold eMast; rw [if_pos (by omega)]
                    refine v_callVt F (kX5_mast hst (k := k) (h := h) (S := S) (Z := Z_4) hI.1.1 (a0 := ((i : Nat) : Int)) (a1 := 1) (by omega) (by omega)) rfl gL_law_X5_mast rfl hdX5_mast ⟨Nat.le_of_ble_eq_true rfl, Nat.le_of_ble_eq_true rfl⟩ 0 cw_at0 rfl rfl rfl (Nat.le_of_ble_eq_true rfl) ⟨by show c + 100 + 8 * i + 1 + 1 + 1 + 1 + 1 ≤ 600104; omega, by show n + 700 + 48 * i + 6 + 6 + 6 + 6 + 6 ≤ 7301314; omega⟩ (q := 249) dL_law_246 rfl (fun E9 u9 h9 => absurd h9.2.1 (by rw [e_12]; decide)) ?_
                    rintro a_12 _ ⟨rfl, -, h_12⟩
                    refine v_cast (b := S 2 i) (h_12.trans (mv1 _ _)) ?_
                    have b_12 := hI.1.1.tall i
                    refine v_icmp_gt F (tgt := 279) (q := 252) (by omega) (by omega) dL_law_249 rfl rfl (fun h_13 => ?_) (fun h_13 => ?_)
                    · exfalso
                      omega
                    · refine v_aload_n F 15 (q := 253) dL_law_252 rfl rfl rfl ?_
                      refine v_iload F 2 (q := 255) dL_law_253 rfl rfl ?_
                      refine v_const F (q := 256) dL_law_255 rfl ?_
                      have e_14 : eMast S ((i : Nat) : Int) 3 = 0 := by unfold eMast; rw [if_pos (by omega)]
                      refine v_callVt F (kX5_mast hst (k := k) (h := h) (S := S) (Z := Z_4) hI.1.1 (a0 := ((i : Nat) : Int)) (a1 := 3) (by omega) (by omega)) rfl gL_law_X5_mast rfl hdX5_mast ⟨Nat.le_of_ble_eq_true rfl, Nat.le_of_ble_eq_true rfl⟩ 0 cw_at0 rfl rfl rfl (Nat.le_of_ble_eq_true rfl) ⟨by show c + 100 + 8 * i + 1 + 1 + 1 + 1 + 1 + 1 ≤ 600104; omega, by show n + 700 + 48 * i + 6 + 6 + 6 + 6 + 6 + 6 ≤ 7301314; omega⟩ (q := 259) dL_law_256 rfl (fun E9 u9 h9 => absurd h9.2.1 (by rw [e_14]; decide)) ?_
                      rintro a_14 _ ⟨rfl, -, h_14⟩
                      refine v_cast (b := stand S (S 4) i) (h_14.trans (mv3 _ _)) ?_
                      have b_14 := stand_bd hI.1.1 (f := S 4) (m := i) (hI.1.1.lean i)
                      refine v_aload_n F 15 (q := 260) dL_law_259 rfl rfl rfl ?_
                      refine v_iload F 2 (q := 262) dL_law_260 rfl rfl ?_
                      refine v_const F (q := 263) dL_law_262 rfl ?_
                      have e_15 : eMast S ((i : Nat) : Int) 4 = 0 := by unfold eMast; rw [if_pos (by omega)]
                      refine v_callVt F (kX5_mast hst (k := k) (h := h) (S := S) (Z := Z_4) hI.1.1 (a0 := ((i : Nat) : Int)) (a1 := 4) (by omega) (by omega)) rfl gL_law_X5_mast rfl hdX5_mast ⟨Nat.le_of_ble_eq_true rfl, Nat.le_of_ble_eq_true rfl⟩ 0 cw_at0 rfl rfl rfl (Nat.le_of_ble_eq_true rfl) ⟨by show c + 100 + 8 * i + 1 + 1 + 1 + 1 + 1 + 1 + 1 ≤ 600104; omega, by show n + 700 + 48 * i + 6 + 6 + 6 + 6 + 6 + 6 + 6 ≤ 7301314; omega⟩ (q := 266) dL_law_263 rfl (fun E9 u9 h9 => absurd h9.2.1 (by rw [e_15]; decide)) ?_
                      rintro a_15 _ ⟨rfl, -, h_15⟩
                      refine v_cast (b := reachM S (S 4) i) (h_15.trans (mv4 _ _)) ?_
                      have b_15 := reach_bd hI.1.1 (f := S 4) (m := i) (hI.1.1.lean i)
                      refine v_iadd F (q := 267) dL_law_266 rfl ?_
                      refine v_aload_n F 15 (q := 268) dL_law_267 rfl rfl rfl ?_
                      refine v_iload F 2 (q := 270) dL_law_268 rfl rfl ?_
                      refine v_const F (q := 271) dL_law_270 rfl ?_
                      have e_16 : eMast S ((i : Nat) : Int) 1 = 0 := by unfold eMast; rw [if_pos (by omega)]
                      refine v_callVt F (kX5_mast hst (k := k) (h := h) (S := S) (Z := Z_4) hI.1.1 (a0 := ((i : Nat) : Int)) (a1 := 1) (by omega) (by omega)) rfl gL_law_X5_mast rfl hdX5_mast ⟨Nat.le_of_ble_eq_true rfl, Nat.le_of_ble_eq_true rfl⟩ 0 cw_at0 rfl rfl rfl (Nat.le_of_ble_eq_true rfl) ⟨by show c + 100 + 8 * i + 1 + 1 + 1 + 1 + 1 + 1 + 1 + 1 ≤ 600104; omega, by show n + 700 + 48 * i + 6 + 6 + 6 + 6 + 6 + 6 + 6 + 6 ≤ 7301314; omega⟩ (q := 274) dL_law_271 rfl (fun E9 u9 h9 => absurd h9.2.1 (by rw [e_16]; decide)) ?_
                      rintro a_16 _ ⟨rfl, -, h_16⟩
                      refine v_cast (b := S 2 i) (h_16.trans (mv1 _ _)) ?_
                      have b_16 := hI.1.1.tall i
                      refine v_const F (q := 275) dL_law_274 rfl ?_
                      refine v_isub F (q := 276) dL_law_275 rfl ?_
                      refine v_icmp_ge F (tgt := 281) (q := 279) (by omega) (by omega) dL_law_276 rfl rfl (fun h_17 => ?_) (fun h_17 => ?_)
                      · refine v_iinc F (q := 284) (z := ((i + 1 : Nat) : Int)) 2 [(17, VI ((i + 1 : Nat) : Int)), (16, VI (up + z_5)), (15, VI (sm + (S 4 i))), (14, .ref (te)), (13, .ref (tl)), (12, VI fa), (11, VI fs), (10, VI fw), (8, .long (digR S)), (7, VI k9), (6, VI t9), (5, VI (S 0 8)), (4, VI (S 0 7)), (3, VI x9), (2, VI ((ti : Nat) : Int)), (1, .ref (h 0)), (0, .ref (b))] dL_law_281 rfl (by decide) (by omega) rfl rfl ?_
                        refine v_goto F (tgt := 117) dL_law_284 rfl ?_
                        refine v_widen (c' := c + 100 + 8 * (i + 1)) (n' := n + 700 + 48 * (i + 1)) (by first | omega | (dsimp only; omega)) (by first | omega | (dsimp only; omega)) ?_
                        exact ih_117 (sm + (S 4 i)) (up + z_5) (i + 1) Z_4 (fun z => if z = i then S 4 i else ln z) (fun z => if z = i then a_4 else le z) (by exact ⟨by omega, by rw [sumL_s, hv2], by rw [up_s S i hz_5, hv3], fun j hj => (by show (if j = i then S 4 i else ln j) = S 4 j; by_cases e : j = i; (rw [if_pos e, e]); (rw [if_neg e]; exact hv4 j (by omega))), fun j hj => (by show LeaP S (cS S) j (if j = i then a_4 else le j); by_cases e : j = i; (rw [if_pos e, e]; exact g_4); (rw [if_neg e]; exact hv5 j (by omega))), by omega, by omega⟩) (by omega)
                      · exfalso
                        omega
                  refine v_if_lt F (tgt := 227) (q := 219) (by omega) dL_law_216 rfl rfl (fun h_18 => ?_) (fun h_18 => ?_)
                  · exact J_227
                  · refine v_aload F 3 (q := 221) dL_law_219 rfl rfl ?_
                    refine v_iload F 2 (q := 223) dL_law_221 rfl rfl ?_
                    refine v_iald F (j := i) 29 rfl rfl (by omega) (by omega) (q := 224) dL_law_223 rfl ?_
                    refine v_cast (b := a_4) (if_pos rfl) ?_
                    refine v_if_ne F (tgt := 279) (q := 227) (by omega) dL_law_224 rfl rfl (fun h_19 => ?_) (fun h_19 => ?_)
                    · exfalso
                      omega
                    · exact J_227
        refine v_if_ne F (tgt := 171) (q := 167) (by omega) dL_law_164 rfl rfl (fun h_5 => ?_) (fun h_5 => ?_)
        · refine v_const F (q := 172) dL_law_171 rfl ?_
          exact K_5 0 (Or.inr ⟨rfl, h_5⟩)
        · refine v_const F (q := 168) dL_law_167 rfl ?_
          refine v_goto F (tgt := 172) dL_law_168 rfl ?_
          exact K_5 1 (Or.inl ⟨rfl, h_5⟩)
  refine v_widen (c' := c + 100 + 8 * 0) (n' := n + 700 + 48 * 0) (by first | omega | (dsimp only; omega)) (by first | omega | (dsimp only; omega)) ?_
  exact L117_1 _ 0 0 0 Z (fun _ => 0) (fun _ => 0) (by exact ⟨by omega, rfl, rfl, fun j hj => absurd hj (Nat.not_lt_zero j), fun j hj => absurd hj (Nat.not_lt_zero j), by omega, by omega⟩) (Nat.lt_succ_self _)
set_option maxRecDepth 100000 in
set_option maxHeartbeats 4000000 in
theorem sgC {XX : vX} {l : Launch} {k : Nat → ClassId} {nm9 : String} (F : v_F XX l k ⟨RL, nm9, "([I)Z"⟩ code 28 wsL_law room_1) (hst : l.stackTraces = false) {b L : Nat} {xs : Nat → Int32} (hX : va_X b L xs XX.1.2.2.2.2 XX.1.2.2.2.2.heap) (hbl : b < XX.1.2.2.2.2.heap.size) (hbA : ¬ XX.2.2.2.2 b) (hL : L ≤ 2560) {h : Nat → Nat} {S Z : Nat → Nat → Int} (hI : Inv3 S) {c n : Nat} (hc : c + 2000 ≤ 600104) (hn : n + 12000 ≤ 7301314) {ti : Nat} (hti : ti < 40) {x9 t9 k9 fw fs fa : Int} (hx9 : R32 x9) (ht9 : 0 ≤ t9 ∧ t9 < max 1 (S 0 8)) (hk9 : 0 ≤ k9 ∧ k9 < max 1 (S 0 7)) (hfw : FewP S (cS S) fw ∧ -1 ≤ fw ∧ fw ≤ 1000) (hfs : FstP S (cS S) fs) (hfa : FallsP S fa) {tl te : Nat} {ln le : Nat → Int} (hln : ∀ j, j < mcn S → ln j = S 4 j) (hle : ∀ j, j < mcn S → LeaP S (cS S) j (le j)) (kk : V XX (cw k h S Z ++ [(tl, aI k (mcn S) ln), (te, aI k (mcn S) le)]) (c + 250) (n + 1500) 397 [(16, VI (upN S (mcn S))), (15, VI (sumL (S 4) (mcn S))), (14, .ref (te)), (13, .ref (tl)), (12, VI fa), (11, VI fs), (10, VI fw), (8, .long (digR S)), (7, VI k9), (6, VI t9), (5, VI (S 0 8)), (4, VI (S 0 7)), (3, VI x9), (2, VI ((ti : Nat) : Int)), (1, .ref (h 0)), (0, .ref (b))] []) : V XX (cw k h S Z ++ [(tl, aI k (mcn S) ln), (te, aI k (mcn S) le)]) (c + 150) (n + 900) 287 [(16, VI (upN S (mcn S))), (15, VI (sumL (S 4) (mcn S))), (14, .ref (te)), (13, .ref (tl)), (12, VI fa), (11, VI fs), (10, VI fw), (8, .long (digR S)), (7, VI k9), (6, VI t9), (5, VI (S 0 8)), (4, VI (S 0 7)), (3, VI x9), (2, VI ((ti : Nat) : Int)), (1, .ref (h 0)), (0, .ref (b))] [] := by
  have hmz := mcn_z hI.1.1
  have htz := tcn_z hI.1.1
  have hmc := hI.1.1.mc
  have hcc := hI.1.1.cc
  have hff1 := fst_few hfs hfw.1
  have hft := fst_th hfs
  have hfu := few_up hI.1.1 hfw.1
  have hf0 := (fal_0 hfa).trans (sum_9 hI.1.1).symm
  have hfb := fal_bd hfa
  have hsm : 0 ≤ fw → sumL (S 4) (mcn S) ≤ fw := few_sum hI.1.1 hfw.1
  have hsb := sum_tb hI.1.1
  have hub := up_bd hI.1.1
  refine v_aload_n F 14 (q := 288) dL_law_287 rfl rfl rfl ?_
  refine v_callVl F (kX5_digest hst (k := k) (h := h) (S := S) (Z := Z) hI.1.1) rfl gL_law_X5_digest rfl hdX5_digest ⟨Nat.le_of_ble_eq_true rfl, Nat.le_of_ble_eq_true rfl⟩ 0 cw_at0 rfl rfl rfl (Nat.le_of_ble_eq_true rfl) ⟨by show c + 150 + 78 ≤ 600104; omega, by show n + 900 + 468 ≤ 7301314; omega⟩ (q := 291) dL_law_288 rfl ?_
  rintro _ _ ⟨rfl, rfl⟩
  refine v_lload F 7 (q := 293) dL_law_291 rfl rfl ?_
  refine v_lcmp0 F rfl (q := 294) dL_law_293 rfl ?_
  refine v_if_ne F (tgt := 395) (q := 297) R32_0 dL_law_294 rfl rfl (fun h_2 => absurd h_2 (by omega)) (fun h_2 => ?_)
  refine v_iload F 6 (q := 299) dL_law_297 rfl rfl ?_
  have K_3 : ∀ z_3 : Int, ((z_3 = 1 ∧ ¬ (fw ≤ 0)) ∨ (z_3 = 0 ∧ fw ≤ 0)) → V XX (cw k h S Z ++ [(tl, aI k (mcn S) ln), (te, aI k (mcn S) le)]) (c + 150 + 78) (n + 900 + 468) 307 [(16, VI (upN S (mcn S))), (15, VI (sumL (S 4) (mcn S))), (14, .ref (te)), (13, .ref (tl)), (12, VI fa), (11, VI fs), (10, VI fw), (8, .long (digR S)), (7, VI k9), (6, VI t9), (5, VI (S 0 8)), (4, VI (S 0 7)), (3, VI x9), (2, VI ((ti : Nat) : Int)), (1, .ref (h 0)), (0, .ref (b))] [VI z_3] := by
    intro z_3 hz_3
    refine v_iload F 5 (q := 309) dL_law_307 rfl rfl ?_
    have K_4 : ∀ z_4 : Int, ((z_4 = 1 ∧ ¬ (fs < 0)) ∨ (z_4 = 0 ∧ fs < 0)) → V XX (cw k h S Z ++ [(tl, aI k (mcn S) ln), (te, aI k (mcn S) le)]) (c + 150 + 78) (n + 900 + 468) 317 [(16, VI (upN S (mcn S))), (15, VI (sumL (S 4) (mcn S))), (14, .ref (te)), (13, .ref (tl)), (12, VI fa), (11, VI fs), (10, VI fw), (8, .long (digR S)), (7, VI k9), (6, VI t9), (5, VI (S 0 8)), (4, VI (S 0 7)), (3, VI x9), (2, VI ((ti : Nat) : Int)), (1, .ref (h 0)), (0, .ref (b))] [VI z_4, VI z_3] := by
      intro z_4 hz_4
      refine v_icmp_ne F (tgt := 395) (q := 320) (by omega) (by omega) dL_law_317 rfl rfl (fun h_5 => ?_) (fun h_5 => ?_)
      · exfalso
        omega
      · refine v_iload F 6 (q := 322) dL_law_320 rfl rfl ?_
        have K_6 : ∀ z_6 : Int, ((z_6 = 1 ∧ fw = 0) ∨ (z_6 = 0 ∧ ¬ fw = 0)) → V XX (cw k h S Z ++ [(tl, aI k (mcn S) ln), (te, aI k (mcn S) le)]) (c + 150 + 78) (n + 900 + 468) 330 [(16, VI (upN S (mcn S))), (15, VI (sumL (S 4) (mcn S))), (14, .ref (te)), (13, .ref (tl)), (12, VI fa), (11, VI fs), (10, VI fw), (8, .long (digR S)), (7, VI k9), (6, VI t9), (5, VI (S 0 8)), (4, VI (S 0 7)), (3, VI x9), (2, VI ((ti : Nat) : Int)), (1, .ref (h 0)), (0, .ref (b))] [VI z_6] := by
          intro z_6 hz_6
          refine v_iload F 0 (q := 332) dL_law_330 rfl rfl ?_
          refine v_iload F 11 (q := 334) dL_law_332 rfl rfl ?_
          have K_7 : ∀ z_7 : Int, ((z_7 = 1 ∧ (upN S (mcn S)) = (S 0 7)) ∨ (z_7 = 0 ∧ ¬ (upN S (mcn S)) = (S 0 7))) → V XX (cw k h S Z ++ [(tl, aI k (mcn S) ln), (te, aI k (mcn S) le)]) (c + 150 + 78) (n + 900 + 468) 342 [(16, VI (upN S (mcn S))), (15, VI (sumL (S 4) (mcn S))), (14, .ref (te)), (13, .ref (tl)), (12, VI fa), (11, VI fs), (10, VI fw), (8, .long (digR S)), (7, VI k9), (6, VI t9), (5, VI (S 0 8)), (4, VI (S 0 7)), (3, VI x9), (2, VI ((ti : Nat) : Int)), (1, .ref (h 0)), (0, .ref (b))] [VI z_7, VI z_6] := by
            intro z_7 hz_7
            refine v_icmp_ne F (tgt := 395) (q := 345) (by omega) (by omega) dL_law_342 rfl rfl (fun h_8 => ?_) (fun h_8 => ?_)
            · exfalso
              omega
            · refine v_iload F 0 (q := 347) dL_law_345 rfl rfl ?_
              refine v_aload_n F 14 (q := 348) dL_law_347 rfl rfl rfl ?_
              refine v_const F (q := 349) dL_law_348 rfl ?_
              have e_9 : eCnt 2 = 0 := by unfold eCnt; rw [if_pos (by omega)]
              refine v_callVt F (kX5_count hst (k := k) (h := h) (S := S) (Z := Z) hI.1.1 (a0 := 2) (by omega)) rfl gL_law_X5_count rfl hdX5_count ⟨Nat.le_of_ble_eq_true rfl, Nat.le_of_ble_eq_true rfl⟩ 0 cw_at0 rfl rfl rfl (Nat.le_of_ble_eq_true rfl) ⟨by show c + 150 + 78 + 1 ≤ 600104; omega, by show n + 900 + 468 + 6 ≤ 7301314; omega⟩ (q := 352) dL_law_349 rfl (fun E9 u9 h9 => absurd h9.2.1 (by rw [e_9]; decide)) ?_
              rintro a_9 _ ⟨rfl, -, h_9⟩
              refine v_cast (b := upN S (mcn S)) (h_9.trans (cv2 _)) ?_
              have b_9 := up_bd hI.1.1
              refine v_icmp_ne F (tgt := 395) (q := 355) (by omega) (by omega) dL_law_352 rfl rfl (fun h_10 => ?_) (fun h_10 => ?_)
              · exfalso
                omega
              · refine v_iload F 4 (q := 357) dL_law_355 rfl rfl ?_
                have K_11 : ∀ z_11 : Int, ((z_11 = 1 ∧ fa = 0) ∨ (z_11 = 0 ∧ ¬ fa = 0)) → V XX (cw k h S Z ++ [(tl, aI k (mcn S) ln), (te, aI k (mcn S) le)]) (c + 150 + 78 + 1) (n + 900 + 468 + 6) 365 [(16, VI (upN S (mcn S))), (15, VI (sumL (S 4) (mcn S))), (14, .ref (te)), (13, .ref (tl)), (12, VI fa), (11, VI fs), (10, VI fw), (8, .long (digR S)), (7, VI k9), (6, VI t9), (5, VI (S 0 8)), (4, VI (S 0 7)), (3, VI x9), (2, VI ((ti : Nat) : Int)), (1, .ref (h 0)), (0, .ref (b))] [VI z_11] := by
                  intro z_11 hz_11
                  refine v_iload F 1 (q := 367) dL_law_365 rfl rfl ?_
                  refine v_bipush F (q := 369) dL_law_367 rfl rfl ?_
                  refine v_iload F 11 (q := 371) dL_law_369 rfl rfl ?_
                  refine v_imul F (q := 372) dL_law_371 rfl ?_
                  have K_12 : ∀ z_12 : Int, ((z_12 = 1 ∧ (sumL (S 4) (mcn S)) = (9 * (S 0 7))) ∨ (z_12 = 0 ∧ ¬ (sumL (S 4) (mcn S)) = (9 * (S 0 7)))) → V XX (cw k h S Z ++ [(tl, aI k (mcn S) ln), (te, aI k (mcn S) le)]) (c + 150 + 78 + 1) (n + 900 + 468 + 6) 380 [(16, VI (upN S (mcn S))), (15, VI (sumL (S 4) (mcn S))), (14, .ref (te)), (13, .ref (tl)), (12, VI fa), (11, VI fs), (10, VI fw), (8, .long (digR S)), (7, VI k9), (6, VI t9), (5, VI (S 0 8)), (4, VI (S 0 7)), (3, VI x9), (2, VI ((ti : Nat) : Int)), (1, .ref (h 0)), (0, .ref (b))] [VI z_12, VI z_11] := by
                    intro z_12 hz_12
                    refine v_icmp_ne F (tgt := 395) (q := 383) (by omega) (by omega) dL_law_380 rfl rfl (fun h_13 => ?_) (fun h_13 => ?_)
                    · exfalso
                      omega
                    · refine v_iload F 6 (q := 385) dL_law_383 rfl rfl ?_
                      refine v_if_le F (tgt := 397) (q := 388) (by omega) dL_law_385 rfl rfl (fun h_14 => ?_) (fun h_14 => ?_)
                      · refine v_widen (c' := c + 250) (n' := n + 1500) (by first | omega | (dsimp only; omega)) (by first | omega | (dsimp only; omega)) ?_
                        exact kk
                      · refine v_iload F 6 (q := 390) dL_law_388 rfl rfl ?_
                        refine v_iload F 1 (q := 392) dL_law_390 rfl rfl ?_
                        refine v_icmp_ge F (tgt := 397) (q := 395) (by omega) (by omega) dL_law_392 rfl rfl (fun h_15 => ?_) (fun h_15 => ?_)
                        · refine v_widen (c' := c + 250) (n' := n + 1500) (by first | omega | (dsimp only; omega)) (by first | omega | (dsimp only; omega)) ?_
                          exact kk
                        · exfalso
                          omega
                  refine v_icmp_ne F (tgt := 379) (q := 375) (by omega) (by omega) dL_law_372 rfl rfl (fun h_12 => ?_) (fun h_12 => ?_)
                  · refine v_const F (q := 380) dL_law_379 rfl ?_
                    exact K_12 0 (Or.inr ⟨rfl, h_12⟩)
                  · refine v_const F (q := 376) dL_law_375 rfl ?_
                    refine v_goto F (tgt := 380) dL_law_376 rfl ?_
                    exact K_12 1 (Or.inl ⟨rfl, h_12⟩)
                refine v_if_ne F (tgt := 364) (q := 360) (by omega) dL_law_357 rfl rfl (fun h_11 => ?_) (fun h_11 => ?_)
                · refine v_const F (q := 365) dL_law_364 rfl ?_
                  exact K_11 0 (Or.inr ⟨rfl, h_11⟩)
                · refine v_const F (q := 361) dL_law_360 rfl ?_
                  refine v_goto F (tgt := 365) dL_law_361 rfl ?_
                  exact K_11 1 (Or.inl ⟨rfl, h_11⟩)
          refine v_icmp_ne F (tgt := 341) (q := 337) (by omega) (by omega) dL_law_334 rfl rfl (fun h_7 => ?_) (fun h_7 => ?_)
          · refine v_const F (q := 342) dL_law_341 rfl ?_
            exact K_7 0 (Or.inr ⟨rfl, h_7⟩)
          · refine v_const F (q := 338) dL_law_337 rfl ?_
            refine v_goto F (tgt := 342) dL_law_338 rfl ?_
            exact K_7 1 (Or.inl ⟨rfl, h_7⟩)
        refine v_if_ne F (tgt := 329) (q := 325) (by omega) dL_law_322 rfl rfl (fun h_6 => ?_) (fun h_6 => ?_)
        · refine v_const F (q := 330) dL_law_329 rfl ?_
          exact K_6 0 (Or.inr ⟨rfl, h_6⟩)
        · refine v_const F (q := 326) dL_law_325 rfl ?_
          refine v_goto F (tgt := 330) dL_law_326 rfl ?_
          exact K_6 1 (Or.inl ⟨rfl, h_6⟩)
    refine v_if_lt F (tgt := 316) (q := 312) (by omega) dL_law_309 rfl rfl (fun h_4 => ?_) (fun h_4 => ?_)
    · refine v_const F (q := 317) dL_law_316 rfl ?_
      exact K_4 0 (Or.inr ⟨rfl, h_4⟩)
    · refine v_const F (q := 313) dL_law_312 rfl ?_
      refine v_goto F (tgt := 317) dL_law_313 rfl ?_
      exact K_4 1 (Or.inl ⟨rfl, h_4⟩)
  refine v_if_le F (tgt := 306) (q := 302) (by omega) dL_law_299 rfl rfl (fun h_3 => ?_) (fun h_3 => ?_)
  · refine v_const F (q := 307) dL_law_306 rfl ?_
    exact K_3 0 (Or.inr ⟨rfl, h_3⟩)
  · refine v_const F (q := 303) dL_law_302 rfl ?_
    refine v_goto F (tgt := 307) dL_law_303 rfl ?_
    exact K_3 1 (Or.inl ⟨rfl, h_3⟩)
set_option maxRecDepth 100000 in
set_option maxHeartbeats 4000000 in
theorem sgD {XX : vX} {l : Launch} {k : Nat → ClassId} {nm9 : String} (F : v_F XX l k ⟨RL, nm9, "([I)Z"⟩ code 28 wsL_law room_1) (hst : l.stackTraces = false) {b L : Nat} {xs : Nat → Int32} (hX : va_X b L xs XX.1.2.2.2.2 XX.1.2.2.2.2.heap) (hbl : b < XX.1.2.2.2.2.heap.size) (hbA : ¬ XX.2.2.2.2 b) (hL : L ≤ 2560) {h : Nat → Nat} {S Z : Nat → Nat → Int} (hI : Inv3 S) {c n : Nat} (hc : c + 2000 ≤ 600104) (hn : n + 12000 ≤ 7301314) {ti : Nat} (hti : ti < 40) {x9 t9 k9 fw fs fa : Int} (hx9 : R32 x9) (ht9 : 0 ≤ t9 ∧ t9 < max 1 (S 0 8)) (hk9 : 0 ≤ k9 ∧ k9 < max 1 (S 0 7)) (hfw : FewP S (cS S) fw ∧ -1 ≤ fw ∧ fw ≤ 1000) (hfs : FstP S (cS S) fs) (hfa : FallsP S fa) {tl te : Nat} {ln le : Nat → Int} (hln : ∀ j, j < mcn S → ln j = S 4 j) (hle : ∀ j, j < mcn S → LeaP S (cS S) j (le j)) (kk : ∀ (ts : Nat) (sa : Nat → Int), (∀ j, j < tcn S → sa j = S 8 j) → V XX (cw k h S Z ++ [(tl, aI k (mcn S) ln), (te, aI k (mcn S) le), (ts, aI k (tcn S) sa)]) (c + 700) (n + 4200) 591 [(17, .ref (ts)), (13, .ref (tl)), (12, VI fa), (11, VI fs), (10, VI fw), (7, VI k9), (6, VI t9), (5, VI (S 0 8)), (4, VI (S 0 7)), (3, VI x9), (2, VI ((ti : Nat) : Int)), (1, .ref (h 0)), (0, .ref (b))] []) : V XX (cw k h S Z ++ [(tl, aI k (mcn S) ln), (te, aI k (mcn S) le)]) (c + 250) (n + 1500) 397 [(16, VI (upN S (mcn S))), (15, VI (sumL (S 4) (mcn S))), (14, .ref (te)), (13, .ref (tl)), (12, VI fa), (11, VI fs), (10, VI fw), (8, .long (digR S)), (7, VI k9), (6, VI t9), (5, VI (S 0 8)), (4, VI (S 0 7)), (3, VI x9), (2, VI ((ti : Nat) : Int)), (1, .ref (h 0)), (0, .ref (b))] [] := by
  have hmz := mcn_z hI.1.1
  have htz := tcn_z hI.1.1
  have hmc := hI.1.1.mc
  have hcc := hI.1.1.cc
  refine v_iload F 10 (q := 399) dL_law_397 rfl rfl ?_
  refine v_cast (b := ((tcn S : Nat) : Int)) (tcn_z hI.1.1).symm ?_
  refine v_newi F (N := tcn S) (q := 401) (by omega) (by decide +kernel) (by show c + 250 + 1 ≤ 600104; omega) (by show n + 1500 + tcn S ≤ 7301314; omega) dL_law_399 rfl (fun t_1 => ?_)
  refine v_widen (c' := c + 250 + 1) (n' := n + 1500 + 8) (by first | omega | (dsimp only; omega)) (by first | omega | (dsimp only; omega)) ?_
  refine v_weq (w9 := cw k h S Z ++ [(tl, aI k (mcn S) ln), (te, aI k (mcn S) le), (t_1, aI k (tcn S) (fun _ => 0))]) rfl ?_
  refine v_astore F (q := 403) [(17, .ref (t_1)), (16, VI (upN S (mcn S))), (15, VI (sumL (S 4) (mcn S))), (14, .ref (te)), (13, .ref (tl)), (12, VI fa), (11, VI fs), (10, VI fw), (8, .long (digR S)), (7, VI k9), (6, VI t9), (5, VI (S 0 8)), (4, VI (S 0 7)), (3, VI x9), (2, VI ((ti : Nat) : Int)), (1, .ref (h 0)), (0, .ref (b))] dL_law_401 (by decide) rfl rfl ?_
  refine v_const F (q := 404) dL_law_403 rfl ?_
  refine v_istore F (q := 406) [(18, VI 0), (17, .ref (t_1)), (16, VI (upN S (mcn S))), (15, VI (sumL (S 4) (mcn S))), (14, .ref (te)), (13, .ref (tl)), (12, VI fa), (11, VI fs), (10, VI fw), (8, .long (digR S)), (7, VI k9), (6, VI t9), (5, VI (S 0 8)), (4, VI (S 0 7)), (3, VI x9), (2, VI ((ti : Nat) : Int)), (1, .ref (h 0)), (0, .ref (b))] dL_law_404 (by decide) rfl rfl ?_
  have L406_2 : ∀ (fu : Nat) (i : Nat) (sa : Nat → Int), ((i : Int) ≤ S 0 8 ∧ ∀ j, j < i → sa j = S 8 j) → (S 0 8 - i).toNat < fu → V XX (cw k h S Z ++ [(tl, aI k (mcn S) ln), (te, aI k (mcn S) le), (t_1, aI k (tcn S) sa)]) (c + 260 + 50 * i) (n + 1600 + 300 * i) 406 [(18, VI ((i : Nat) : Int)), (17, .ref (t_1)), (16, VI (upN S (mcn S))), (15, VI (sumL (S 4) (mcn S))), (14, .ref (te)), (13, .ref (tl)), (12, VI fa), (11, VI fs), (10, VI fw), (8, .long (digR S)), (7, VI k9), (6, VI t9), (5, VI (S 0 8)), (4, VI (S 0 7)), (3, VI x9), (2, VI ((ti : Nat) : Int)), (1, .ref (h 0)), (0, .ref (b))] [] := by
    intro fu_406
    induction fu_406 with
    | zero => intros; omega
    | succ fu_406 ih_406 =>
      intro i sa hv hm_406
      obtain ⟨hv1, hv2⟩ := hv
      refine v_iload F 0 (q := 408) dL_law_406 rfl rfl ?_
      refine v_iload F 12 (q := 410) dL_law_408 rfl rfl ?_
      refine v_icmp_ge F (tgt := 591) (q := 413) (by omega) (by omega) dL_law_410 rfl rfl (fun h_3 => ?_) (fun h_3 => ?_)
      · refine v_sub [1, 5, 6, 7, 8, 10, 11, 12, 13, 14, 15, 16, 17] rfl ?_
        refine v_widen (c' := c + 700) (n' := n + 4200) (by first | omega | (dsimp only; omega)) (by first | omega | (dsimp only; omega)) ?_
        exact kk t_1 sa (fun j hj => hv2 j (by omega))
      · refine v_aload F 1 (q := 415) dL_law_413 rfl rfl ?_
        refine v_iload F 0 (q := 417) dL_law_415 rfl rfl ?_
        refine v_aload_n F 16 (q := 418) dL_law_417 rfl rfl rfl ?_
        refine v_iload F 0 (q := 420) dL_law_418 rfl rfl ?_
        refine v_const F (q := 421) dL_law_420 rfl ?_
        have e_4 : eThr S ((i : Nat) : Int) 3 = 0 := by unfold eThr; rw [if_pos (by omega)]
        refine v_callVt F (kX5_thread hst (k := k) (h := h) (S := S) (Z := Z) hI.1.1 (a0 := ((i : Nat) : Int)) (a1 := 3) (by omega) (by omega)) rfl gL_law_X5_thread rfl hdX5_thread ⟨Nat.le_of_ble_eq_true rfl, Nat.le_of_ble_eq_true rfl⟩ 0 cw_at0 rfl rfl rfl (Nat.le_of_ble_eq_true rfl) ⟨by show c + 260 + 50 * i + 1 ≤ 600104; omega, by show n + 1600 + 300 * i + 6 ≤ 7301314; omega⟩ (q := 424) dL_law_421 rfl (fun E9 u9 h9 => absurd h9.2.1 (by rw [e_4]; decide)) ?_
        rintro a_4 _ ⟨rfl, -, h_4⟩
        refine v_cast (b := S 8 i) (h_4.trans (tv3 _ _)) ?_
        have b_4 := hI.1.1.st i
        refine v_iast F (j := i) 30 (cw k h S Z ++ [(tl, aI k (mcn S) ln), (te, aI k (mcn S) le), (t_1, aI k (tcn S) (fun z => if z = i then S 8 i else sa z))]) rfl rfl (by omega) (by omega) (by rw [upd_iI]; rfl) (q := 425) dL_law_424 rfl ?_
        refine v_const F (q := 426) dL_law_425 rfl ?_
        refine v_istore F (q := 428) [(19, VI 0), (18, VI ((i : Nat) : Int)), (17, .ref (t_1)), (16, VI (upN S (mcn S))), (15, VI (sumL (S 4) (mcn S))), (14, .ref (te)), (13, .ref (tl)), (12, VI fa), (11, VI fs), (10, VI fw), (8, .long (digR S)), (7, VI k9), (6, VI t9), (5, VI (S 0 8)), (4, VI (S 0 7)), (3, VI x9), (2, VI ((ti : Nat) : Int)), (1, .ref (h 0)), (0, .ref (b))] dL_law_426 (by decide) rfl rfl ?_
        refine v_const F (q := 429) dL_law_428 rfl ?_
        refine v_istore F (q := 431) [(20, VI 0), (19, VI 0), (18, VI ((i : Nat) : Int)), (17, .ref (t_1)), (16, VI (upN S (mcn S))), (15, VI (sumL (S 4) (mcn S))), (14, .ref (te)), (13, .ref (tl)), (12, VI fa), (11, VI fs), (10, VI fw), (8, .long (digR S)), (7, VI k9), (6, VI t9), (5, VI (S 0 8)), (4, VI (S 0 7)), (3, VI x9), (2, VI ((ti : Nat) : Int)), (1, .ref (h 0)), (0, .ref (b))] dL_law_429 (by decide) rfl rfl ?_
        have L431_5 : ∀ (fu : Nat) (cr : Int) (j : Nat), ((j : Int) ≤ S 0 8 ∧ cr = cnt (crossB S i) j) → (S 0 8 - j).toNat < fu → V XX (cw k h S Z ++ [(tl, aI k (mcn S) ln), (te, aI k (mcn S) le), (t_1, aI k (tcn S) (fun z => if z = i then S 8 i else sa z))]) (c + 262 + 50 * i + 4 * j) (n + 1612 + 300 * i + 24 * j) 431 [(20, VI ((j : Nat) : Int)), (19, VI cr), (18, VI ((i : Nat) : Int)), (17, .ref (t_1)), (16, VI (upN S (mcn S))), (15, VI (sumL (S 4) (mcn S))), (14, .ref (te)), (13, .ref (tl)), (12, VI fa), (11, VI fs), (10, VI fw), (8, .long (digR S)), (7, VI k9), (6, VI t9), (5, VI (S 0 8)), (4, VI (S 0 7)), (3, VI x9), (2, VI ((ti : Nat) : Int)), (1, .ref (h 0)), (0, .ref (b))] [] := by
          intro fu_431
          induction fu_431 with
          | zero => intros; omega
          | succ fu_431 ih_431 =>
            intro cr j hw hm_431
            obtain ⟨hw1, hw2⟩ := hw
            have hcn := cnt_nn (crossB S i) j
            refine v_iload F 0 (q := 433) dL_law_431 rfl rfl ?_
            refine v_iload F 14 (q := 435) dL_law_433 rfl rfl ?_
            refine v_icmp_ge F (tgt := 513) (q := 438) (by omega) (by omega) dL_law_435 rfl rfl (fun h_6 => ?_) (fun h_6 => ?_)
            · have hcr : cr = cnt (crossB S i) (tcn S) := by rw [hw2, show j = tcn S from by omega]
              refine v_iload F 1 (q := 515) dL_law_513 rfl rfl ?_
              refine v_aload_n F 18 (q := 516) dL_law_515 rfl rfl rfl ?_
              refine v_iload F 2 (q := 518) dL_law_516 rfl rfl ?_
              refine v_const F (q := 519) dL_law_518 rfl ?_
              have e_7 : eThr S ((i : Nat) : Int) 4 = 0 := by unfold eThr; rw [if_pos (by omega)]
              refine v_callVt F (kX5_thread hst (k := k) (h := h) (S := S) (Z := Z) hI.1.1 (a0 := ((i : Nat) : Int)) (a1 := 4) (by omega) (by omega)) rfl gL_law_X5_thread rfl hdX5_thread ⟨Nat.le_of_ble_eq_true rfl, Nat.le_of_ble_eq_true rfl⟩ 0 cw_at0 rfl rfl rfl (Nat.le_of_ble_eq_true rfl) ⟨by show c + 262 + 50 * i + 4 * j + 1 ≤ 600104; omega, by show n + 1612 + 300 * i + 24 * j + 6 ≤ 7301314; omega⟩ (q := 522) dL_law_519 rfl (fun E9 u9 h9 => absurd h9.2.1 (by rw [e_7]; decide)) ?_
              rintro a_7 _ ⟨rfl, -, h_7⟩
              refine v_cast (b := cnt (crossB S i) (tcn S)) (h_7.trans (tv4 _ _)) ?_
              have b_7 := cnt_nn (crossB S i) (tcn S)
              refine v_icmp_ne F (tgt := 583) (q := 525) (by omega) (by omega) dL_law_522 rfl rfl (fun h_8 => ?_) (fun h_8 => ?_)
              · exfalso
                omega
              · have hs0 := str_0 hI (t := i) (by omega)
                refine v_aload_n F 18 (q := 526) dL_law_525 rfl rfl rfl ?_
                refine v_iload F 2 (q := 528) dL_law_526 rfl rfl ?_
                refine v_const F (q := 529) dL_law_528 rfl ?_
                have e_9 : eThr S ((i : Nat) : Int) 2 = 0 := by unfold eThr; rw [if_pos (by omega)]
                refine v_callVt F (kX5_thread hst (k := k) (h := h) (S := S) (Z := Z) hI.1.1 (a0 := ((i : Nat) : Int)) (a1 := 2) (by omega) (by omega)) rfl gL_law_X5_thread rfl hdX5_thread ⟨Nat.le_of_ble_eq_true rfl, Nat.le_of_ble_eq_true rfl⟩ 0 cw_at0 rfl rfl rfl (Nat.le_of_ble_eq_true rfl) ⟨by show c + 262 + 50 * i + 4 * j + 1 + 1 ≤ 600104; omega, by show n + 1612 + 300 * i + 24 * j + 6 + 6 ≤ 7301314; omega⟩ (q := 532) dL_law_529 rfl (fun E9 u9 h9 => absurd h9.2.1 (by rw [e_9]; decide)) ?_
                rintro a_9 _ ⟨rfl, -, h_9⟩
                refine v_cast (b := S 7 i) (h_9.trans (tv2 _ _)) ?_
                have b_9 := And.intro (hI.1.1.pos 7 i (by decide) (by decide)) (hI.1.1.1 7 i (by omega)).2
                have K_10 : ∀ z_10 : Int, ((z_10 = 1 ∧ (S 7 i) = 0) ∨ (z_10 = 0 ∧ ¬ (S 7 i) = 0)) → V XX (cw k h S Z ++ [(tl, aI k (mcn S) ln), (te, aI k (mcn S) le), (t_1, aI k (tcn S) (fun z => if z = i then S 8 i else sa z))]) (c + 262 + 50 * i + 4 * j + 1 + 1) (n + 1612 + 300 * i + 24 * j + 6 + 6) 540 [(20, VI ((j : Nat) : Int)), (19, VI cr), (18, VI ((i : Nat) : Int)), (17, .ref (t_1)), (16, VI (upN S (mcn S))), (15, VI (sumL (S 4) (mcn S))), (14, .ref (te)), (13, .ref (tl)), (12, VI fa), (11, VI fs), (10, VI fw), (8, .long (digR S)), (7, VI k9), (6, VI t9), (5, VI (S 0 8)), (4, VI (S 0 7)), (3, VI x9), (2, VI ((ti : Nat) : Int)), (1, .ref (h 0)), (0, .ref (b))] [VI z_10] := by
                  intro z_10 hz_10
                  refine v_aload F 3 (q := 542) dL_law_540 rfl rfl ?_
                  refine v_iload F 2 (q := 544) dL_law_542 rfl rfl ?_
                  refine v_iald F (j := i) 30 rfl rfl (by omega) (by omega) (q := 545) dL_law_544 rfl ?_
                  refine v_cast (b := S 8 i) (if_pos rfl) ?_
                  refine v_const F (q := 546) dL_law_545 rfl ?_
                  have K_11 : ∀ z_11 : Int, ((z_11 = 1 ∧ (S 8 i) = 2) ∨ (z_11 = 0 ∧ ¬ (S 8 i) = 2)) → V XX (cw k h S Z ++ [(tl, aI k (mcn S) ln), (te, aI k (mcn S) le), (t_1, aI k (tcn S) (fun z => if z = i then S 8 i else sa z))]) (c + 262 + 50 * i + 4 * j + 1 + 1) (n + 1612 + 300 * i + 24 * j + 6 + 6) 554 [(20, VI ((j : Nat) : Int)), (19, VI cr), (18, VI ((i : Nat) : Int)), (17, .ref (t_1)), (16, VI (upN S (mcn S))), (15, VI (sumL (S 4) (mcn S))), (14, .ref (te)), (13, .ref (tl)), (12, VI fa), (11, VI fs), (10, VI fw), (8, .long (digR S)), (7, VI k9), (6, VI t9), (5, VI (S 0 8)), (4, VI (S 0 7)), (3, VI x9), (2, VI ((ti : Nat) : Int)), (1, .ref (h 0)), (0, .ref (b))] [VI z_11, VI z_10] := by
                    intro z_11 hz_11
                    refine v_icmp_ne F (tgt := 583) (q := 557) (by omega) (by omega) dL_law_554 rfl rfl (fun h_12 => ?_) (fun h_12 => ?_)
                    · exfalso
                      omega
                    · refine v_aload F 3 (q := 559) dL_law_557 rfl rfl ?_
                      refine v_iload F 2 (q := 561) dL_law_559 rfl rfl ?_
                      refine v_iald F (j := i) 30 rfl rfl (by omega) (by omega) (q := 562) dL_law_561 rfl ?_
                      refine v_cast (b := S 8 i) (if_pos rfl) ?_
                      refine v_const F (q := 563) dL_law_562 rfl ?_
                      refine v_icmp_ne F (tgt := 585) (q := 566) (by omega) (by omega) dL_law_563 rfl rfl (fun h_13 => ?_) (fun h_13 => ?_)
                      · refine v_iinc F (q := 588) (z := ((i + 1 : Nat) : Int)) 2 [(18, VI ((i + 1 : Nat) : Int)), (20, VI ((j : Nat) : Int)), (19, VI cr), (17, .ref (t_1)), (16, VI (upN S (mcn S))), (15, VI (sumL (S 4) (mcn S))), (14, .ref (te)), (13, .ref (tl)), (12, VI fa), (11, VI fs), (10, VI fw), (8, .long (digR S)), (7, VI k9), (6, VI t9), (5, VI (S 0 8)), (4, VI (S 0 7)), (3, VI x9), (2, VI ((ti : Nat) : Int)), (1, .ref (h 0)), (0, .ref (b))] dL_law_585 rfl (by decide) (by omega) rfl rfl ?_
                        refine v_goto F (tgt := 406) dL_law_588 rfl ?_
                        refine v_sub [0, 3, 4, 5, 6, 7, 8, 9, 10, 11, 12, 13, 14, 15, 16, 17, 18, 19] rfl ?_
                        refine v_widen (c' := c + 260 + 50 * (i + 1)) (n' := n + 1600 + 300 * (i + 1)) (by first | omega | (dsimp only; omega)) (by first | omega | (dsimp only; omega)) ?_
                        exact ih_406 (i + 1) (fun z => if z = i then S 8 i else sa z) (by exact ⟨by omega, fun j hj => (by show (if j = i then S 8 i else sa j) = S 8 j; by_cases e : j = i; (rw [if_pos e, e]); (rw [if_neg e]; exact hv2 j (by omega)))⟩) (by omega)
                      · have hb1 : bI (heldB S (S 5 i)) = 1 := by rw [held_1 hI.1.1 (t := i) (by omega) (by omega)]; rfl
                        have hth := hI.1.1.thr i (by omega)
                        refine v_aload_n F 18 (q := 567) dL_law_566 rfl rfl rfl ?_
                        refine v_aload_n F 18 (q := 568) dL_law_567 rfl rfl rfl ?_
                        refine v_iload F 2 (q := 570) dL_law_568 rfl rfl ?_
                        refine v_const F (q := 571) dL_law_570 rfl ?_
                        have e_14 : eThr S ((i : Nat) : Int) 0 = 0 := by unfold eThr; rw [if_pos (by omega)]
                        refine v_callVt F (kX5_thread hst (k := k) (h := h) (S := S) (Z := Z) hI.1.1 (a0 := ((i : Nat) : Int)) (a1 := 0) (by omega) (by omega)) rfl gL_law_X5_thread rfl hdX5_thread ⟨Nat.le_of_ble_eq_true rfl, Nat.le_of_ble_eq_true rfl⟩ 0 cw_at0 rfl rfl rfl (Nat.le_of_ble_eq_true rfl) ⟨by show c + 262 + 50 * i + 4 * j + 1 + 1 + 1 ≤ 600104; omega, by show n + 1612 + 300 * i + 24 * j + 6 + 6 + 6 ≤ 7301314; omega⟩ (q := 574) dL_law_571 rfl (fun E9 u9 h9 => absurd h9.2.1 (by rw [e_14]; decide)) ?_
                        rintro a_14 _ ⟨rfl, -, h_14⟩
                        refine v_cast (b := S 5 i) (h_14.trans (tv0 _ _)) ?_
                        have b_14 := hI.1.1.th i
                        refine v_bipush F (q := 576) dL_law_574 rfl rfl ?_
                        have e_15 : eMast S (S 5 i) 6 = 0 := by unfold eMast; rw [if_pos (by omega)]
                        refine v_callVt F (kX5_mast hst (k := k) (h := h) (S := S) (Z := Z) hI.1.1 (a0 := S 5 i) (a1 := 6) (by omega) (by omega)) rfl gL_law_X5_mast rfl hdX5_mast ⟨Nat.le_of_ble_eq_true rfl, Nat.le_of_ble_eq_true rfl⟩ 0 cw_at0 rfl rfl rfl (Nat.le_of_ble_eq_true rfl) ⟨by show c + 262 + 50 * i + 4 * j + 1 + 1 + 1 + 1 ≤ 600104; omega, by show n + 1612 + 300 * i + 24 * j + 6 + 6 + 6 + 6 ≤ 7301314; omega⟩ (q := 579) dL_law_576 rfl (fun E9 u9 h9 => absurd h9.2.1 (by rw [e_15]; decide)) ?_
                        rintro a_15 _ ⟨rfl, -, h_15⟩
                        refine v_cast (b := bI (heldB S (S 5 i))) (h_15.trans ((mv6 _ _).trans (by rw [show (((S 5 i).toNat : Nat) : Int) = S 5 i from by omega]))) ?_
                        have b_15 := bI_bd (heldB S (S 5 i))
                        refine v_const F (q := 580) dL_law_579 rfl ?_
                        refine v_icmp_eq F (tgt := 585) (q := 583) (by omega) (by omega) dL_law_580 rfl rfl (fun h_16 => ?_) (fun h_16 => ?_)
                        · refine v_iinc F (q := 588) (z := ((i + 1 : Nat) : Int)) 2 [(18, VI ((i + 1 : Nat) : Int)), (20, VI ((j : Nat) : Int)), (19, VI cr), (17, .ref (t_1)), (16, VI (upN S (mcn S))), (15, VI (sumL (S 4) (mcn S))), (14, .ref (te)), (13, .ref (tl)), (12, VI fa), (11, VI fs), (10, VI fw), (8, .long (digR S)), (7, VI k9), (6, VI t9), (5, VI (S 0 8)), (4, VI (S 0 7)), (3, VI x9), (2, VI ((ti : Nat) : Int)), (1, .ref (h 0)), (0, .ref (b))] dL_law_585 rfl (by decide) (by omega) rfl rfl ?_
                          refine v_goto F (tgt := 406) dL_law_588 rfl ?_
                          refine v_sub [0, 3, 4, 5, 6, 7, 8, 9, 10, 11, 12, 13, 14, 15, 16, 17, 18, 19] rfl ?_
                          refine v_widen (c' := c + 260 + 50 * (i + 1)) (n' := n + 1600 + 300 * (i + 1)) (by first | omega | (dsimp only; omega)) (by first | omega | (dsimp only; omega)) ?_
                          exact ih_406 (i + 1) (fun z => if z = i then S 8 i else sa z) (by exact ⟨by omega, fun j hj => (by show (if j = i then S 8 i else sa j) = S 8 j; by_cases e : j = i; (rw [if_pos e, e]); (rw [if_neg e]; exact hv2 j (by omega)))⟩) (by omega)
                        · exfalso
                          omega
                  refine v_icmp_ne F (tgt := 553) (q := 549) (by omega) (by omega) dL_law_546 rfl rfl (fun h_11 => ?_) (fun h_11 => ?_)
                  · refine v_const F (q := 554) dL_law_553 rfl ?_
                    exact K_11 0 (Or.inr ⟨rfl, h_11⟩)
                  · refine v_const F (q := 550) dL_law_549 rfl ?_
                    refine v_goto F (tgt := 554) dL_law_550 rfl ?_
                    exact K_11 1 (Or.inl ⟨rfl, h_11⟩)
                refine v_if_ne F (tgt := 539) (q := 535) (by omega) dL_law_532 rfl rfl (fun h_10 => ?_) (fun h_10 => ?_)
                · refine v_const F (q := 540) dL_law_539 rfl ?_
                  exact K_10 0 (Or.inr ⟨rfl, h_10⟩)
                · refine v_const F (q := 536) dL_law_535 rfl ?_
                  refine v_goto F (tgt := 540) dL_law_536 rfl ?_
                  exact K_10 1 (Or.inl ⟨rfl, h_10⟩)
            · refine v_aload_n F 18 (q := 439) dL_law_438 rfl rfl rfl ?_
              refine v_iload F 2 (q := 441) dL_law_439 rfl rfl ?_
              refine v_iload F 0 (q := 443) dL_law_441 rfl rfl ?_
              have e_17 : eCross S ((i : Nat) : Int) ((j : Nat) : Int) = 0 := by unfold eCross; rw [if_pos (by omega)]
              refine v_callVt F (kX5_cross hst (k := k) (h := h) (S := S) (Z := Z) hI.1.1 (a0 := ((i : Nat) : Int)) (a1 := ((j : Nat) : Int)) (by omega) (by omega)) rfl gL_law_X5_cross rfl hdX5_cross ⟨Nat.le_of_ble_eq_true rfl, Nat.le_of_ble_eq_true rfl⟩ 0 cw_at0 rfl rfl rfl (Nat.le_of_ble_eq_true rfl) ⟨by show c + 262 + 50 * i + 4 * j + 1 ≤ 600104; omega, by show n + 1612 + 300 * i + 24 * j + 6 ≤ 7301314; omega⟩ (q := 446) dL_law_443 rfl (fun E9 u9 h9 => absurd h9.2.1 (by rw [e_17]; decide)) ?_
              rintro a_17 _ ⟨rfl, -, h_17⟩
              refine v_cast (b := bI (crossB S i j)) (vB_bI h_17) ?_
              have b_17 := bI_bd (crossB S i j)
              refine v_aload_n F 18 (q := 447) dL_law_446 rfl rfl rfl ?_
              refine v_iload F 0 (q := 449) dL_law_447 rfl rfl ?_
              refine v_iload F 2 (q := 451) dL_law_449 rfl rfl ?_
              have e_18 : eCross S ((j : Nat) : Int) ((i : Nat) : Int) = 0 := by unfold eCross; rw [if_pos (by omega)]
              refine v_callVt F (kX5_cross hst (k := k) (h := h) (S := S) (Z := Z) hI.1.1 (a0 := ((j : Nat) : Int)) (a1 := ((i : Nat) : Int)) (by omega) (by omega)) rfl gL_law_X5_cross rfl hdX5_cross ⟨Nat.le_of_ble_eq_true rfl, Nat.le_of_ble_eq_true rfl⟩ 0 cw_at0 rfl rfl rfl (Nat.le_of_ble_eq_true rfl) ⟨by show c + 262 + 50 * i + 4 * j + 1 + 1 ≤ 600104; omega, by show n + 1612 + 300 * i + 24 * j + 6 + 6 ≤ 7301314; omega⟩ (q := 454) dL_law_451 rfl (fun E9 u9 h9 => absurd h9.2.1 (by rw [e_18]; decide)) ?_
              rintro a_18 _ ⟨rfl, -, h_18⟩
              refine v_cast (b := bI (crossB S i j)) ((vB_bI h_18).trans (congrArg bI (cross_c _ _ _))) ?_
              have b_18 := bI_bd (crossB S i j)
              refine v_icmp_ne F (tgt := 484) (q := 457) (by omega) (by omega) dL_law_454 rfl rfl (fun h_19 => ?_) (fun h_19 => ?_)
              · exfalso
                omega
              · refine v_aload_n F 18 (q := 458) dL_law_457 rfl rfl rfl ?_
                refine v_iload F 2 (q := 460) dL_law_458 rfl rfl ?_
                refine v_iload F 0 (q := 462) dL_law_460 rfl rfl ?_
                have e_20 : eCross S ((i : Nat) : Int) ((j : Nat) : Int) = 0 := by unfold eCross; rw [if_pos (by omega)]
                refine v_callVt F (kX5_cross hst (k := k) (h := h) (S := S) (Z := Z) hI.1.1 (a0 := ((i : Nat) : Int)) (a1 := ((j : Nat) : Int)) (by omega) (by omega)) rfl gL_law_X5_cross rfl hdX5_cross ⟨Nat.le_of_ble_eq_true rfl, Nat.le_of_ble_eq_true rfl⟩ 0 cw_at0 rfl rfl rfl (Nat.le_of_ble_eq_true rfl) ⟨by show c + 262 + 50 * i + 4 * j + 1 + 1 + 1 ≤ 600104; omega, by show n + 1612 + 300 * i + 24 * j + 6 + 6 + 6 ≤ 7301314; omega⟩ (q := 465) dL_law_462 rfl (fun E9 u9 h9 => absurd h9.2.1 (by rw [e_20]; decide)) ?_
                rintro a_20 _ ⟨rfl, -, h_20⟩
                refine v_cast (b := bI (crossB S i j)) (vB_bI h_20) ?_
                have b_20 := bI_bd (crossB S i j)
                have J_486 : V XX (cw k h S Z ++ [(tl, aI k (mcn S) ln), (te, aI k (mcn S) le), (t_1, aI k (tcn S) (fun z => if z = i then S 8 i else sa z))]) (c + 262 + 50 * i + 4 * j + 1 + 1 + 1) (n + 1612 + 300 * i + 24 * j + 6 + 6 + 6) 486 [(20, VI ((j : Nat) : Int)), (19, VI cr), (18, VI ((i : Nat) : Int)), (17, .ref (t_1)), (16, VI (upN S (mcn S))), (15, VI (sumL (S 4) (mcn S))), (14, .ref (te)), (13, .ref (tl)), (12, VI fa), (11, VI fs), (10, VI fw), (8, .long (digR S)), (7, VI k9), (6, VI t9), (5, VI (S 0 8)), (4, VI (S 0 7)), (3, VI x9), (2, VI ((ti : Nat) : Int)), (1, .ref (h 0)), (0, .ref (b))] [] := by
                  refine v_iload F 1 (q := 488) dL_law_486 rfl rfl ?_
                  refine v_aload_n F 18 (q := 489) dL_law_488 rfl rfl rfl ?_
                  refine v_iload F 2 (q := 491) dL_law_489 rfl rfl ?_
                  refine v_iload F 0 (q := 493) dL_law_491 rfl rfl ?_
                  have e_21 : eCross S ((i : Nat) : Int) ((j : Nat) : Int) = 0 := by unfold eCross; rw [if_pos (by omega)]
                  refine v_callVt F (kX5_cross hst (k := k) (h := h) (S := S) (Z := Z) hI.1.1 (a0 := ((i : Nat) : Int)) (a1 := ((j : Nat) : Int)) (by omega) (by omega)) rfl gL_law_X5_cross rfl hdX5_cross ⟨Nat.le_of_ble_eq_true rfl, Nat.le_of_ble_eq_true rfl⟩ 0 cw_at0 rfl rfl rfl (Nat.le_of_ble_eq_true rfl) ⟨by show c + 262 + 50 * i + 4 * j + 1 + 1 + 1 + 1 ≤ 600104; omega, by show n + 1612 + 300 * i + 24 * j + 6 + 6 + 6 + 6 ≤ 7301314; omega⟩ (q := 496) dL_law_493 rfl (fun E9 u9 h9 => absurd h9.2.1 (by rw [e_21]; decide)) ?_
                  rintro a_21 _ ⟨rfl, -, h_21⟩
                  refine v_cast (b := bI (crossB S i j)) (vB_bI h_21) ?_
                  have b_21 := bI_bd (crossB S i j)
                  have K_22 : ∀ z_22 : Int, ((z_22 = 1 ∧ ¬ ((bI (crossB S i j)) = 0)) ∨ (z_22 = 0 ∧ (bI (crossB S i j)) = 0)) → V XX (cw k h S Z ++ [(tl, aI k (mcn S) ln), (te, aI k (mcn S) le), (t_1, aI k (tcn S) (fun z => if z = i then S 8 i else sa z))]) (c + 262 + 50 * i + 4 * j + 1 + 1 + 1 + 1) (n + 1612 + 300 * i + 24 * j + 6 + 6 + 6 + 6) 504 [(20, VI ((j : Nat) : Int)), (19, VI cr), (18, VI ((i : Nat) : Int)), (17, .ref (t_1)), (16, VI (upN S (mcn S))), (15, VI (sumL (S 4) (mcn S))), (14, .ref (te)), (13, .ref (tl)), (12, VI fa), (11, VI fs), (10, VI fw), (8, .long (digR S)), (7, VI k9), (6, VI t9), (5, VI (S 0 8)), (4, VI (S 0 7)), (3, VI x9), (2, VI ((ti : Nat) : Int)), (1, .ref (h 0)), (0, .ref (b))] [VI z_22, VI cr] := by
                    intro z_22 hz_22
                    refine v_iadd F (q := 505) dL_law_504 rfl ?_
                    refine v_istore F (q := 507) [(19, VI (cr + z_22)), (20, VI ((j : Nat) : Int)), (18, VI ((i : Nat) : Int)), (17, .ref (t_1)), (16, VI (upN S (mcn S))), (15, VI (sumL (S 4) (mcn S))), (14, .ref (te)), (13, .ref (tl)), (12, VI fa), (11, VI fs), (10, VI fw), (8, .long (digR S)), (7, VI k9), (6, VI t9), (5, VI (S 0 8)), (4, VI (S 0 7)), (3, VI x9), (2, VI ((ti : Nat) : Int)), (1, .ref (h 0)), (0, .ref (b))] dL_law_505 (by decide) rfl rfl ?_
                    refine v_iinc F (q := 510) (z := ((j + 1 : Nat) : Int)) 1 [(20, VI ((j + 1 : Nat) : Int)), (19, VI (cr + z_22)), (18, VI ((i : Nat) : Int)), (17, .ref (t_1)), (16, VI (upN S (mcn S))), (15, VI (sumL (S 4) (mcn S))), (14, .ref (te)), (13, .ref (tl)), (12, VI fa), (11, VI fs), (10, VI fw), (8, .long (digR S)), (7, VI k9), (6, VI t9), (5, VI (S 0 8)), (4, VI (S 0 7)), (3, VI x9), (2, VI ((ti : Nat) : Int)), (1, .ref (h 0)), (0, .ref (b))] dL_law_507 rfl (by decide) (by omega) rfl rfl ?_
                    refine v_goto F (tgt := 431) dL_law_510 rfl ?_
                    refine v_widen (c' := c + 262 + 50 * i + 4 * (j + 1)) (n' := n + 1612 + 300 * i + 24 * (j + 1)) (by first | omega | (dsimp only; omega)) (by first | omega | (dsimp only; omega)) ?_
                    exact ih_431 (cr + z_22) (j + 1) (by exact ⟨by omega, by rw [cr_s (crossB S i) j hz_22, hw2]⟩) (by omega)
                  refine v_if_eq F (tgt := 503) (q := 499) (by omega) dL_law_496 rfl rfl (fun h_22 => ?_) (fun h_22 => ?_)
                  · refine v_const F (q := 504) dL_law_503 rfl ?_
                    exact K_22 0 (Or.inr ⟨rfl, h_22⟩)
                  · refine v_const F (q := 500) dL_law_499 rfl ?_
                    refine v_goto F (tgt := 504) dL_law_500 rfl ?_
                    exact K_22 1 (Or.inl ⟨rfl, h_22⟩)
                refine v_if_eq F (tgt := 486) (q := 468) (by omega) dL_law_465 rfl rfl (fun h_23 => ?_) (fun h_23 => ?_)
                · exact J_486
                · have hcy := cross_y (S := S) (a := i) (b := j) (by rcases bI_bd (crossB S i j) with z | z; exact z.2; omega)
                  refine v_iload F 2 (q := 470) dL_law_468 rfl rfl ?_
                  refine v_iload F 0 (q := 472) dL_law_470 rfl rfl ?_
                  refine v_icmp_eq F (tgt := 484) (q := 475) (by omega) (by omega) dL_law_472 rfl rfl (fun h_24 => ?_) (fun h_24 => ?_)
                  · exfalso
                    omega
                  · refine v_aload F 3 (q := 477) dL_law_475 rfl rfl ?_
                    refine v_iload F 2 (q := 479) dL_law_477 rfl rfl ?_
                    refine v_iald F (j := i) 30 rfl rfl (by omega) (by omega) (q := 480) dL_law_479 rfl ?_
                    refine v_cast (b := S 8 i) (if_pos rfl) ?_
                    refine v_const F (q := 481) dL_law_480 rfl ?_
                    refine v_icmp_ne F (tgt := 486) (q := 484) (by omega) (by omega) dL_law_481 rfl rfl (fun h_25 => ?_) (fun h_25 => ?_)
                    · exact J_486
                    · exfalso
                      omega
        refine v_widen (c' := c + 262 + 50 * i + 4 * 0) (n' := n + 1612 + 300 * i + 24 * 0) (by first | omega | (dsimp only; omega)) (by first | omega | (dsimp only; omega)) ?_
        exact L431_5 _ 0 0 (by exact ⟨by omega, rfl⟩) (Nat.lt_succ_self _)
  refine v_widen (c' := c + 260 + 50 * 0) (n' := n + 1600 + 300 * 0) (by first | omega | (dsimp only; omega)) (by first | omega | (dsimp only; omega)) ?_
  exact L406_2 _ 0 (fun _ => 0) (by exact ⟨by omega, fun j hj => absurd hj (Nat.not_lt_zero j)⟩) (Nat.lt_succ_self _)
theorem bI_t {b : Bool} : b = true ↔ bI b = 1 := by cases b <;> simp [bI]
theorem bI_z {b : Bool} {z : Int} (h : (z = 1 ∧ bI b = 1) ∨ (z = 0 ∧ ¬ bI b = 1)) : (z = 1 ∧ b = true) ∨ (z = 0 ∧ b = false) := by
  cases b <;> simp [bI] at h ⊢ <;> omega
set_option maxRecDepth 100000 in
set_option maxHeartbeats 4000000 in
theorem sgE {XX : vX} {l : Launch} {k : Nat → ClassId} {nm9 : String} (F : v_F XX l k ⟨RL, nm9, "([I)Z"⟩ code 28 wsL_law room_1) (hst : l.stackTraces = false) {b L : Nat} {xs : Nat → Int32} (hX : va_X b L xs XX.1.2.2.2.2 XX.1.2.2.2.2.heap) (hbl : b < XX.1.2.2.2.2.heap.size) (hbA : ¬ XX.2.2.2.2 b) (hL : L ≤ 2560) {h : Nat → Nat} {S Z : Nat → Nat → Int} (hI : Inv3 S) {c n : Nat} (hc : c + 2000 ≤ 600104) (hn : n + 12000 ≤ 7301314) {ti : Nat} (hti : ti < 40) {x9 t9 k9 fw fs fa : Int} (hx9 : R32 x9) (ht9 : 0 ≤ t9 ∧ t9 < max 1 (S 0 8)) (hk9 : 0 ≤ k9 ∧ k9 < max 1 (S 0 7)) (hfw : FewP S (cS S) fw ∧ -1 ≤ fw ∧ fw ≤ 1000) (hfs : FstP S (cS S) fs) (hfa : FallsP S fa) {tl te : Nat} {ln le : Nat → Int} (hln : ∀ j, j < mcn S → ln j = S 4 j) (hle : ∀ j, j < mcn S → LeaP S (cS S) j (le j)) {ts : Nat} {sa : Nat → Int} (hsa : ∀ j, j < tcn S → sa j = S 8 j) (k700 : ∀ (ii gg ff : Int), ((ii = 1 ∧ S 0 9 = 1) ∨ (ii = 0 ∧ ¬ S 0 9 = 1)) → ((gg = 1 ∧ goesB S = true) ∨ (gg = 0 ∧ goesB S = false)) → ((ff = 1 ∧ fitsB S (S 4) = true) ∨ (ff = 0 ∧ fitsB S (S 4) = false)) → V XX (cw k h S Z ++ [(tl, aI k (mcn S) ln), (te, aI k (mcn S) le), (ts, aI k (tcn S) sa)]) (c + 720) (n + 4300) 700 [(22, VI (S 0 12)), (21, VI (S 0 11)), (20, VI ff), (19, VI gg), (18, VI ii), (17, .ref (ts)), (13, .ref (tl)), (12, VI fa), (11, VI fs), (10, VI fw), (7, VI k9), (6, VI t9), (5, VI (S 0 8)), (4, VI (S 0 7)), (3, VI x9), (2, VI ((ti : Nat) : Int)), (1, .ref (h 0)), (0, .ref (b))] []) (k968 : ∀ (ii gg ff : Int), ((ii = 1 ∧ S 0 9 = 1) ∨ (ii = 0 ∧ ¬ S 0 9 = 1)) → ((gg = 1 ∧ goesB S = true) ∨ (gg = 0 ∧ goesB S = false)) → ((ff = 1 ∧ fitsB S (S 4) = true) ∨ (ff = 0 ∧ fitsB S (S 4) = false)) → V XX (cw k h S Z ++ [(tl, aI k (mcn S) ln), (te, aI k (mcn S) le), (ts, aI k (tcn S) sa)]) (c + 720) (n + 4300) 968 [(22, VI (S 0 12)), (21, VI (S 0 11)), (20, VI ff), (19, VI gg), (18, VI ii), (17, .ref (ts)), (13, .ref (tl)), (12, VI fa), (11, VI fs), (10, VI fw), (7, VI k9), (6, VI t9), (5, VI (S 0 8)), (4, VI (S 0 7)), (3, VI x9), (2, VI ((ti : Nat) : Int)), (1, .ref (h 0)), (0, .ref (b))] []) (k1000 : ∀ (ii gg ff : Int), ((ii = 1 ∧ S 0 9 = 1) ∨ (ii = 0 ∧ ¬ S 0 9 = 1)) → ((gg = 1 ∧ goesB S = true) ∨ (gg = 0 ∧ goesB S = false)) → ((ff = 1 ∧ fitsB S (S 4) = true) ∨ (ff = 0 ∧ fitsB S (S 4) = false)) → V XX (cw k h S Z ++ [(tl, aI k (mcn S) ln), (te, aI k (mcn S) le), (ts, aI k (tcn S) sa)]) (c + 720) (n + 4300) 1000 [(22, VI (S 0 12)), (21, VI (S 0 11)), (20, VI ff), (19, VI gg), (18, VI ii), (17, .ref (ts)), (13, .ref (tl)), (12, VI fa), (11, VI fs), (10, VI fw), (7, VI k9), (6, VI t9), (5, VI (S 0 8)), (4, VI (S 0 7)), (3, VI x9), (2, VI ((ti : Nat) : Int)), (1, .ref (h 0)), (0, .ref (b))] []) (k1029 : ∀ (ii gg ff : Int), ((ii = 1 ∧ S 0 9 = 1) ∨ (ii = 0 ∧ ¬ S 0 9 = 1)) → ((gg = 1 ∧ goesB S = true) ∨ (gg = 0 ∧ goesB S = false)) → ((ff = 1 ∧ fitsB S (S 4) = true) ∨ (ff = 0 ∧ fitsB S (S 4) = false)) → V XX (cw k h S Z ++ [(tl, aI k (mcn S) ln), (te, aI k (mcn S) le), (ts, aI k (tcn S) sa)]) (c + 720) (n + 4300) 1029 [(22, VI (S 0 12)), (21, VI (S 0 11)), (20, VI ff), (19, VI gg), (18, VI ii), (17, .ref (ts)), (13, .ref (tl)), (12, VI fa), (11, VI fs), (10, VI fw), (7, VI k9), (6, VI t9), (5, VI (S 0 8)), (4, VI (S 0 7)), (3, VI x9), (2, VI ((ti : Nat) : Int)), (1, .ref (h 0)), (0, .ref (b))] []) (k1053 : ∀ (ii gg ff : Int), ((ii = 1 ∧ S 0 9 = 1) ∨ (ii = 0 ∧ ¬ S 0 9 = 1)) → ((gg = 1 ∧ goesB S = true) ∨ (gg = 0 ∧ goesB S = false)) → ((ff = 1 ∧ fitsB S (S 4) = true) ∨ (ff = 0 ∧ fitsB S (S 4) = false)) → V XX (cw k h S Z ++ [(tl, aI k (mcn S) ln), (te, aI k (mcn S) le), (ts, aI k (tcn S) sa)]) (c + 720) (n + 4300) 1053 [(22, VI (S 0 12)), (21, VI (S 0 11)), (20, VI ff), (19, VI gg), (18, VI ii), (17, .ref (ts)), (13, .ref (tl)), (12, VI fa), (11, VI fs), (10, VI fw), (7, VI k9), (6, VI t9), (5, VI (S 0 8)), (4, VI (S 0 7)), (3, VI x9), (2, VI ((ti : Nat) : Int)), (1, .ref (h 0)), (0, .ref (b))] []) : V XX (cw k h S Z ++ [(tl, aI k (mcn S) ln), (te, aI k (mcn S) le), (ts, aI k (tcn S) sa)]) (c + 700) (n + 4200) 591 [(17, .ref (ts)), (13, .ref (tl)), (12, VI fa), (11, VI fs), (10, VI fw), (7, VI k9), (6, VI t9), (5, VI (S 0 8)), (4, VI (S 0 7)), (3, VI x9), (2, VI ((ti : Nat) : Int)), (1, .ref (h 0)), (0, .ref (b))] [] := by
  have hmz := mcn_z hI.1.1
  have htz := tcn_z hI.1.1
  have hmc := hI.1.1.mc
  have hcc := hI.1.1.cc
  refine v_aload_n F 11 (q := 592) dL_law_591 rfl rfl rfl ?_
  refine v_const F (q := 593) dL_law_592 rfl ?_
  have e_1 : eShip 5 = 0 := by unfold eShip; rw [if_pos (by omega)]
  refine v_callVt F (kX5_ship hst (k := k) (h := h) (S := S) (Z := Z) hI.1.1 (a0 := 5) (by omega)) rfl gL_law_X5_ship rfl hdX5_ship ⟨Nat.le_of_ble_eq_true rfl, Nat.le_of_ble_eq_true rfl⟩ 0 cw_at0 rfl rfl rfl (Nat.le_of_ble_eq_true rfl) ⟨by show c + 700 + 1 ≤ 600104; omega, by show n + 4200 + 6 ≤ 7301314; omega⟩ (q := 596) dL_law_593 rfl (fun E9 u9 h9 => absurd h9.2.1 (by rw [e_1]; decide)) ?_
  rintro a_1 _ ⟨rfl, -, h_1⟩
  refine v_cast (b := S 0 9) (h_1.trans (sv5 _)) ?_
  have b_1 := hI.1.1.isin
  refine v_const F (q := 597) dL_law_596 rfl ?_
  have K_2 : ∀ z_2 : Int, ((z_2 = 1 ∧ (S 0 9) = 1) ∨ (z_2 = 0 ∧ ¬ (S 0 9) = 1)) → V XX (cw k h S Z ++ [(tl, aI k (mcn S) ln), (te, aI k (mcn S) le), (ts, aI k (tcn S) sa)]) (c + 700 + 1) (n + 4200 + 6) 605 [(17, .ref (ts)), (13, .ref (tl)), (12, VI fa), (11, VI fs), (10, VI fw), (7, VI k9), (6, VI t9), (5, VI (S 0 8)), (4, VI (S 0 7)), (3, VI x9), (2, VI ((ti : Nat) : Int)), (1, .ref (h 0)), (0, .ref (b))] [VI z_2] := by
    intro z_2 hz_2
    refine v_istore F (q := 607) [(18, VI z_2), (17, .ref (ts)), (13, .ref (tl)), (12, VI fa), (11, VI fs), (10, VI fw), (7, VI k9), (6, VI t9), (5, VI (S 0 8)), (4, VI (S 0 7)), (3, VI x9), (2, VI ((ti : Nat) : Int)), (1, .ref (h 0)), (0, .ref (b))] dL_law_605 (by decide) rfl rfl ?_
    refine v_aload_n F 12 (q := 608) dL_law_607 rfl rfl rfl ?_
    refine v_const F (q := 609) dL_law_608 rfl ?_
    have e_3 : eShip 3 = 0 := by unfold eShip; rw [if_pos (by omega)]
    refine v_callVt F (kX5_ship hst (k := k) (h := h) (S := S) (Z := Z) hI.1.1 (a0 := 3) (by omega)) rfl gL_law_X5_ship rfl hdX5_ship ⟨Nat.le_of_ble_eq_true rfl, Nat.le_of_ble_eq_true rfl⟩ 0 cw_at0 rfl rfl rfl (Nat.le_of_ble_eq_true rfl) ⟨by show c + 700 + 1 + 1 ≤ 600104; omega, by show n + 4200 + 6 + 6 ≤ 7301314; omega⟩ (q := 612) dL_law_609 rfl (fun E9 u9 h9 => absurd h9.2.1 (by rw [e_3]; decide)) ?_
    rintro a_3 _ ⟨rfl, -, h_3⟩
    refine v_cast (b := bI (goesB S)) (h_3.trans (sv3 _)) ?_
    have b_3 := bI_bd (goesB S)
    refine v_const F (q := 613) dL_law_612 rfl ?_
    have K_4 : ∀ z_4 : Int, ((z_4 = 1 ∧ (bI (goesB S)) = 1) ∨ (z_4 = 0 ∧ ¬ (bI (goesB S)) = 1)) → V XX (cw k h S Z ++ [(tl, aI k (mcn S) ln), (te, aI k (mcn S) le), (ts, aI k (tcn S) sa)]) (c + 700 + 1 + 1) (n + 4200 + 6 + 6) 621 [(18, VI z_2), (17, .ref (ts)), (13, .ref (tl)), (12, VI fa), (11, VI fs), (10, VI fw), (7, VI k9), (6, VI t9), (5, VI (S 0 8)), (4, VI (S 0 7)), (3, VI x9), (2, VI ((ti : Nat) : Int)), (1, .ref (h 0)), (0, .ref (b))] [VI z_4] := by
      intro z_4 hz_4
      refine v_istore F (q := 623) [(19, VI z_4), (18, VI z_2), (17, .ref (ts)), (13, .ref (tl)), (12, VI fa), (11, VI fs), (10, VI fw), (7, VI k9), (6, VI t9), (5, VI (S 0 8)), (4, VI (S 0 7)), (3, VI x9), (2, VI ((ti : Nat) : Int)), (1, .ref (h 0)), (0, .ref (b))] dL_law_621 (by decide) rfl rfl ?_
      refine v_aload_n F 13 (q := 624) dL_law_623 rfl rfl rfl ?_
      refine v_const F (q := 625) dL_law_624 rfl ?_
      have e_5 : eShip 4 = 0 := by unfold eShip; rw [if_pos (by omega)]
      refine v_callVt F (kX5_ship hst (k := k) (h := h) (S := S) (Z := Z) hI.1.1 (a0 := 4) (by omega)) rfl gL_law_X5_ship rfl hdX5_ship ⟨Nat.le_of_ble_eq_true rfl, Nat.le_of_ble_eq_true rfl⟩ 0 cw_at0 rfl rfl rfl (Nat.le_of_ble_eq_true rfl) ⟨by show c + 700 + 1 + 1 + 1 ≤ 600104; omega, by show n + 4200 + 6 + 6 + 6 ≤ 7301314; omega⟩ (q := 628) dL_law_625 rfl (fun E9 u9 h9 => absurd h9.2.1 (by rw [e_5]; decide)) ?_
      rintro a_5 _ ⟨rfl, -, h_5⟩
      refine v_cast (b := bI (fitsB S (S 4))) (h_5.trans (sv4 _)) ?_
      have b_5 := bI_bd (fitsB S (S 4))
      refine v_const F (q := 629) dL_law_628 rfl ?_
      have K_6 : ∀ z_6 : Int, ((z_6 = 1 ∧ (bI (fitsB S (S 4))) = 1) ∨ (z_6 = 0 ∧ ¬ (bI (fitsB S (S 4))) = 1)) → V XX (cw k h S Z ++ [(tl, aI k (mcn S) ln), (te, aI k (mcn S) le), (ts, aI k (tcn S) sa)]) (c + 700 + 1 + 1 + 1) (n + 4200 + 6 + 6 + 6) 637 [(19, VI z_4), (18, VI z_2), (17, .ref (ts)), (13, .ref (tl)), (12, VI fa), (11, VI fs), (10, VI fw), (7, VI k9), (6, VI t9), (5, VI (S 0 8)), (4, VI (S 0 7)), (3, VI x9), (2, VI ((ti : Nat) : Int)), (1, .ref (h 0)), (0, .ref (b))] [VI z_6] := by
        intro z_6 hz_6
        refine v_istore F (q := 639) [(20, VI z_6), (19, VI z_4), (18, VI z_2), (17, .ref (ts)), (13, .ref (tl)), (12, VI fa), (11, VI fs), (10, VI fw), (7, VI k9), (6, VI t9), (5, VI (S 0 8)), (4, VI (S 0 7)), (3, VI x9), (2, VI ((ti : Nat) : Int)), (1, .ref (h 0)), (0, .ref (b))] dL_law_637 (by decide) rfl rfl ?_
        refine v_aload_n F 14 (q := 640) dL_law_639 rfl rfl rfl ?_
        refine v_bipush F (q := 642) dL_law_640 rfl rfl ?_
        have e_7 : eCnt 6 = 0 := by unfold eCnt; rw [if_pos (by omega)]
        refine v_callVt F (kX5_count hst (k := k) (h := h) (S := S) (Z := Z) hI.1.1 (a0 := 6) (by omega)) rfl gL_law_X5_count rfl hdX5_count ⟨Nat.le_of_ble_eq_true rfl, Nat.le_of_ble_eq_true rfl⟩ 0 cw_at0 rfl rfl rfl (Nat.le_of_ble_eq_true rfl) ⟨by show c + 700 + 1 + 1 + 1 + 1 ≤ 600104; omega, by show n + 4200 + 6 + 6 + 6 + 6 ≤ 7301314; omega⟩ (q := 645) dL_law_642 rfl (fun E9 u9 h9 => absurd h9.2.1 (by rw [e_7]; decide)) ?_
        rintro a_7 _ ⟨rfl, -, h_7⟩
        refine v_cast (b := S 0 11) (h_7.trans (cv6 _)) ?_
        refine v_istore F (q := 647) [(21, VI (S 0 11)), (20, VI z_6), (19, VI z_4), (18, VI z_2), (17, .ref (ts)), (13, .ref (tl)), (12, VI fa), (11, VI fs), (10, VI fw), (7, VI k9), (6, VI t9), (5, VI (S 0 8)), (4, VI (S 0 7)), (3, VI x9), (2, VI ((ti : Nat) : Int)), (1, .ref (h 0)), (0, .ref (b))] dL_law_645 (by decide) rfl rfl ?_
        refine v_aload_n F 15 (q := 648) dL_law_647 rfl rfl rfl ?_
        refine v_bipush F (q := 650) dL_law_648 rfl rfl ?_
        have e_8 : eCnt 7 = 0 := by unfold eCnt; rw [if_pos (by omega)]
        refine v_callVt F (kX5_count hst (k := k) (h := h) (S := S) (Z := Z) hI.1.1 (a0 := 7) (by omega)) rfl gL_law_X5_count rfl hdX5_count ⟨Nat.le_of_ble_eq_true rfl, Nat.le_of_ble_eq_true rfl⟩ 0 cw_at0 rfl rfl rfl (Nat.le_of_ble_eq_true rfl) ⟨by show c + 700 + 1 + 1 + 1 + 1 + 1 ≤ 600104; omega, by show n + 4200 + 6 + 6 + 6 + 6 + 6 ≤ 7301314; omega⟩ (q := 653) dL_law_650 rfl (fun E9 u9 h9 => absurd h9.2.1 (by rw [e_8]; decide)) ?_
        rintro a_8 _ ⟨rfl, -, h_8⟩
        refine v_cast (b := S 0 12) (h_8.trans (cv7 _)) ?_
        refine v_istore F (q := 655) [(22, VI (S 0 12)), (21, VI (S 0 11)), (20, VI z_6), (19, VI z_4), (18, VI z_2), (17, .ref (ts)), (13, .ref (tl)), (12, VI fa), (11, VI fs), (10, VI fw), (7, VI k9), (6, VI t9), (5, VI (S 0 8)), (4, VI (S 0 7)), (3, VI x9), (2, VI ((ti : Nat) : Int)), (1, .ref (h 0)), (0, .ref (b))] dL_law_653 (by decide) rfl rfl ?_
        refine v_iload_n F 14 (q := 656) dL_law_655 rfl rfl rfl ?_
        refine v_bipush F (q := 658) dL_law_656 rfl rfl ?_
        refine v_below F hst (by omega) gL_law_L_below ⟨Nat.le_of_ble_eq_true rfl, Nat.le_of_ble_eq_true rfl⟩ (Nat.le_of_ble_eq_true rfl) ⟨by show c + 700 + 1 + 1 + 1 + 1 + 1 ≤ 600104; omega, by show n + 4200 + 6 + 6 + 6 + 6 + 6 ≤ 7301314; omega⟩ (q := 661) dL_law_658 rfl (fun a_9 h_9 => ?_)
        by_cases h_10 : a_9 < 0 ∨ 5 < a_9
        · refine v_tableOut F (tgt := 1053) dL_law_661 (by omega) h_10 rfl ?_
          refine v_widen (c' := c + 720) (n' := n + 4300) (by first | omega | (dsimp only; omega)) (by first | omega | (dsimp only; omega)) ?_
          exact k1053 _ _ _ hz_2 (bI_z hz_4) (bI_z hz_6)
        · obtain rfl | rfl | rfl | rfl | rfl | rfl : a_9 = 0 ∨ a_9 = 1 ∨ a_9 = 2 ∨ a_9 = 3 ∨ a_9 = 4 ∨ a_9 = 5 := by omega
          · refine v_tableIn F (tgt := 700) dL_law_661 (by decide) (by decide) (by decide) rfl rfl ?_
            refine v_widen (c' := c + 720) (n' := n + 4300) (by first | omega | (dsimp only; omega)) (by first | omega | (dsimp only; omega)) ?_
            exact k700 _ _ _ hz_2 (bI_z hz_4) (bI_z hz_6)
          · refine v_tableIn F (tgt := 700) dL_law_661 (by decide) (by decide) (by decide) rfl rfl ?_
            refine v_widen (c' := c + 720) (n' := n + 4300) (by first | omega | (dsimp only; omega)) (by first | omega | (dsimp only; omega)) ?_
            exact k700 _ _ _ hz_2 (bI_z hz_4) (bI_z hz_6)
          · refine v_tableIn F (tgt := 700) dL_law_661 (by decide) (by decide) (by decide) rfl rfl ?_
            refine v_widen (c' := c + 720) (n' := n + 4300) (by first | omega | (dsimp only; omega)) (by first | omega | (dsimp only; omega)) ?_
            exact k700 _ _ _ hz_2 (bI_z hz_4) (bI_z hz_6)
          · refine v_tableIn F (tgt := 968) dL_law_661 (by decide) (by decide) (by decide) rfl rfl ?_
            refine v_widen (c' := c + 720) (n' := n + 4300) (by first | omega | (dsimp only; omega)) (by first | omega | (dsimp only; omega)) ?_
            exact k968 _ _ _ hz_2 (bI_z hz_4) (bI_z hz_6)
          · refine v_tableIn F (tgt := 1000) dL_law_661 (by decide) (by decide) (by decide) rfl rfl ?_
            refine v_widen (c' := c + 720) (n' := n + 4300) (by first | omega | (dsimp only; omega)) (by first | omega | (dsimp only; omega)) ?_
            exact k1000 _ _ _ hz_2 (bI_z hz_4) (bI_z hz_6)
          · refine v_tableIn F (tgt := 1029) dL_law_661 (by decide) (by decide) (by decide) rfl rfl ?_
            refine v_widen (c' := c + 720) (n' := n + 4300) (by first | omega | (dsimp only; omega)) (by first | omega | (dsimp only; omega)) ?_
            exact k1029 _ _ _ hz_2 (bI_z hz_4) (bI_z hz_6)
      refine v_icmp_ne F (tgt := 636) (q := 632) (by omega) (by omega) dL_law_629 rfl rfl (fun h_6 => ?_) (fun h_6 => ?_)
      · refine v_const F (q := 637) dL_law_636 rfl ?_
        exact K_6 0 (Or.inr ⟨rfl, h_6⟩)
      · refine v_const F (q := 633) dL_law_632 rfl ?_
        refine v_goto F (tgt := 637) dL_law_633 rfl ?_
        exact K_6 1 (Or.inl ⟨rfl, h_6⟩)
    refine v_icmp_ne F (tgt := 620) (q := 616) (by omega) (by omega) dL_law_613 rfl rfl (fun h_4 => ?_) (fun h_4 => ?_)
    · refine v_const F (q := 621) dL_law_620 rfl ?_
      exact K_4 0 (Or.inr ⟨rfl, h_4⟩)
    · refine v_const F (q := 617) dL_law_616 rfl ?_
      refine v_goto F (tgt := 621) dL_law_617 rfl ?_
      exact K_4 1 (Or.inl ⟨rfl, h_4⟩)
  refine v_icmp_ne F (tgt := 604) (q := 600) (by omega) (by omega) dL_law_597 rfl rfl (fun h_2 => ?_) (fun h_2 => ?_)
  · refine v_const F (q := 605) dL_law_604 rfl ?_
    exact K_2 0 (Or.inr ⟨rfl, h_2⟩)
  · refine v_const F (q := 601) dL_law_600 rfl ?_
    refine v_goto F (tgt := 605) dL_law_601 rfl ?_
    exact K_2 1 (Or.inl ⟨rfl, h_2⟩)
set_option maxRecDepth 100000 in
set_option maxHeartbeats 4000000 in
theorem sgF0 {XX : vX} {l : Launch} {k : Nat → ClassId} {nm9 : String} (F : v_F XX l k ⟨RL, nm9, "([I)Z"⟩ code 28 wsL_law room_1) (hst : l.stackTraces = false) {b L : Nat} {xs : Nat → Int32} (hX : va_X b L xs XX.1.2.2.2.2 XX.1.2.2.2.2.heap) (hbl : b < XX.1.2.2.2.2.heap.size) (hbA : ¬ XX.2.2.2.2 b) (hL : L ≤ 2560) {h : Nat → Nat} {S Z : Nat → Nat → Int} (hI : Inv3 S) {c n : Nat} (hc : c + 2000 ≤ 600104) (hn : n + 12000 ≤ 7301314) {ti : Nat} (hti : ti < 40) {x9 t9 k9 fw fs fa : Int} (hx9 : R32 x9) (ht9 : 0 ≤ t9 ∧ t9 < max 1 (S 0 8)) (hk9 : 0 ≤ k9 ∧ k9 < max 1 (S 0 7)) (hfw : FewP S (cS S) fw ∧ -1 ≤ fw ∧ fw ≤ 1000) (hfs : FstP S (cS S) fs) (hfa : FallsP S fa) {tl te : Nat} {ln le : Nat → Int} (hln : ∀ j, j < mcn S → ln j = S 4 j) (hle : ∀ j, j < mcn S → LeaP S (cS S) j (le j)) {ts : Nat} {sa : Nat → Int} (hsa : ∀ j, j < tcn S → sa j = S 8 j) {ii gg ff : Int} (hii : (ii = 1 ∧ S 0 9 = 1) ∨ (ii = 0 ∧ ¬ S 0 9 = 1)) (hgg : (gg = 1 ∧ goesB S = true) ∨ (gg = 0 ∧ goesB S = false)) (hff : (ff = 1 ∧ fitsB S (S 4) = true) ∨ (ff = 0 ∧ fitsB S (S 4) = false)) (kk : ∀ (S' Z' : Nat → Nat → Int), Inv3 S' → S' 0 7 = S 0 7 → S' 0 8 = S 0 8 → (∀ j, S 8 j = 2 → S' 8 j = 2) → V XX (cw k h S' Z' ++ [(tl, aI k (mcn S) ln), (te, aI k (mcn S) le), (ts, aI k (tcn S) sa)]) (c + 800) (n + 4900) 1207 [(17, .ref (ts)), (7, VI k9), (5, VI (S 0 8)), (4, VI (S 0 7)), (2, VI ((ti : Nat) : Int)), (1, .ref (h 0)), (0, .ref (b))] []) : V XX (cw k h S Z ++ [(tl, aI k (mcn S) ln), (te, aI k (mcn S) le), (ts, aI k (tcn S) sa)]) (c + 720) (n + 4300) 700 [(22, VI (S 0 12)), (21, VI (S 0 11)), (20, VI ff), (19, VI gg), (18, VI ii), (17, .ref (ts)), (13, .ref (tl)), (12, VI fa), (11, VI fs), (10, VI fw), (7, VI k9), (6, VI t9), (5, VI (S 0 8)), (4, VI (S 0 7)), (3, VI x9), (2, VI ((ti : Nat) : Int)), (1, .ref (h 0)), (0, .ref (b))] [] := by
  have hmz := mcn_z hI.1.1
  have htz := tcn_z hI.1.1
  have hmc := hI.1.1.mc
  have hcc := hI.1.1.cc
  have hff1 := fst_few hfs hfw.1
  have hft := fst_th hfs
  refine v_iload F 12 (q := 702) dL_law_700 rfl rfl ?_
  refine v_if_eq F (tgt := 1207) (q := 705) (by omega) dL_law_702 rfl rfl (fun h_1 => ?_) (fun h_1 => ?_)
  · refine v_sub [5, 10, 12, 13, 15, 16, 17] rfl ?_
    refine v_widen (c' := c + 800) (n' := n + 4900) (by first | omega | (dsimp only; omega)) (by first | omega | (dsimp only; omega)) ?_
    exact kk S Z hI rfl rfl (fun j hj => hj)
  · have hst8 := hI.1.1.st t9.toNat
    refine v_aload F 5 (q := 707) dL_law_705 rfl rfl ?_
    refine v_iload F 11 (q := 709) dL_law_707 rfl rfl ?_
    refine v_iald F (j := t9.toNat) 30 rfl (by omega) (by omega) (by omega) (q := 710) dL_law_709 rfl ?_
    refine v_cast (b := S 8 (t9.toNat)) (hsa (t9.toNat) (by omega)) ?_
    refine v_if_eq F (tgt := 716) (q := 713) (by omega) dL_law_710 rfl rfl (fun h_2 => ?_) (fun h_2 => ?_)
    · have hst9 := hI.1.1.st t9.toNat
      have hth := hI.1.1.thr t9.toNat (by omega)
      have h5 := hI.1.1.th t9.toNat
      have hlo := hI.1.1.lean (S 5 t9.toNat).toNat
      refine v_aload_n F 16 (q := 717) dL_law_716 rfl rfl rfl ?_
      refine v_iload F 11 (q := 719) dL_law_717 rfl rfl ?_
      refine v_const F (q := 720) dL_law_719 rfl ?_
      have e_3 : eThr S t9 0 = 0 := by unfold eThr; rw [if_pos (by omega)]
      refine v_callVt F (kX5_thread hst (k := k) (h := h) (S := S) (Z := Z) hI.1.1 (a0 := t9) (a1 := 0) (by omega) (by omega)) rfl gL_law_X5_thread rfl hdX5_thread ⟨Nat.le_of_ble_eq_true rfl, Nat.le_of_ble_eq_true rfl⟩ 0 cw_at0 rfl rfl rfl (Nat.le_of_ble_eq_true rfl) ⟨by show c + 720 + 1 ≤ 600104; omega, by show n + 4300 + 6 ≤ 7301314; omega⟩ (q := 723) dL_law_720 rfl (fun E9 u9 h9 => absurd h9.2.1 (by rw [e_3]; decide)) ?_
      rintro a_3 _ ⟨rfl, -, h_3⟩
      refine v_cast (b := S 5 (t9.toNat)) (h_3.trans (tv0 _ _)) ?_
      have b_3 := hI.1.1.th (t9.toNat)
      refine v_istore F (q := 725) [(23, VI (S 5 (t9.toNat))), (22, VI (S 0 12)), (21, VI (S 0 11)), (20, VI ff), (19, VI gg), (18, VI ii), (17, .ref (ts)), (13, .ref (tl)), (12, VI fa), (11, VI fs), (10, VI fw), (7, VI k9), (6, VI t9), (5, VI (S 0 8)), (4, VI (S 0 7)), (3, VI x9), (2, VI ((ti : Nat) : Int)), (1, .ref (h 0)), (0, .ref (b))] dL_law_723 (by decide) rfl rfl ?_
      refine v_aload_n F 17 (q := 726) dL_law_725 rfl rfl rfl ?_
      refine v_iload F 0 (q := 728) dL_law_726 rfl rfl ?_
      refine v_bipush F (q := 730) dL_law_728 rfl rfl ?_
      have e_4 : eMast S (S 5 (t9.toNat)) 6 = 0 := by unfold eMast; rw [if_pos (by omega)]
      refine v_callVt F (kX5_mast hst (k := k) (h := h) (S := S) (Z := Z) hI.1.1 (a0 := S 5 (t9.toNat)) (a1 := 6) (by omega) (by omega)) rfl gL_law_X5_mast rfl hdX5_mast ⟨Nat.le_of_ble_eq_true rfl, Nat.le_of_ble_eq_true rfl⟩ 0 cw_at0 rfl rfl rfl (Nat.le_of_ble_eq_true rfl) ⟨by show c + 720 + 1 + 1 ≤ 600104; omega, by show n + 4300 + 6 + 6 ≤ 7301314; omega⟩ (q := 733) dL_law_730 rfl (fun E9 u9 h9 => absurd h9.2.1 (by rw [e_4]; decide)) ?_
      rintro a_4 _ ⟨rfl, -, h_4⟩
      refine v_cast (b := bI (heldB S (S 5 (t9.toNat)))) (h_4.trans ((mv6 _ _).trans (by rw [show (((S 5 (t9.toNat)).toNat : Nat) : Int) = S 5 (t9.toNat) from by omega]))) ?_
      have b_4 := bI_bd (heldB S (S 5 (t9.toNat)))
      refine v_const F (q := 734) dL_law_733 rfl ?_
      have K_5 : ∀ z_5 : Int, ((z_5 = 1 ∧ (bI (heldB S (S 5 (t9.toNat)))) = 1) ∨ (z_5 = 0 ∧ ¬ (bI (heldB S (S 5 (t9.toNat)))) = 1)) → V XX (cw k h S Z ++ [(tl, aI k (mcn S) ln), (te, aI k (mcn S) le), (ts, aI k (tcn S) sa)]) (c + 720 + 1 + 1) (n + 4300 + 6 + 6) 742 [(23, VI (S 5 (t9.toNat))), (22, VI (S 0 12)), (21, VI (S 0 11)), (20, VI ff), (19, VI gg), (18, VI ii), (17, .ref (ts)), (13, .ref (tl)), (12, VI fa), (11, VI fs), (10, VI fw), (7, VI k9), (6, VI t9), (5, VI (S 0 8)), (4, VI (S 0 7)), (3, VI x9), (2, VI ((ti : Nat) : Int)), (1, .ref (h 0)), (0, .ref (b))] [VI z_5] := by
        intro z_5 hz_5
        refine v_istore F (q := 744) [(24, VI z_5), (23, VI (S 5 (t9.toNat))), (22, VI (S 0 12)), (21, VI (S 0 11)), (20, VI ff), (19, VI gg), (18, VI ii), (17, .ref (ts)), (13, .ref (tl)), (12, VI fa), (11, VI fs), (10, VI fw), (7, VI k9), (6, VI t9), (5, VI (S 0 8)), (4, VI (S 0 7)), (3, VI x9), (2, VI ((ti : Nat) : Int)), (1, .ref (h 0)), (0, .ref (b))] dL_law_742 (by decide) rfl rfl ?_
        refine v_aload_n F 18 (q := 745) dL_law_744 rfl rfl rfl ?_
        refine v_iload F 13 (q := 747) dL_law_745 rfl rfl ?_
        have e_6 : ePull S t9 = 0 := by unfold ePull; (try simp only [Int.toNat_natCast]); rw [if_pos (by omega), if_pos (by omega)]
        refine v_callVt F (kX5_pull hst (k := k) (h := h) (S := S) (Z := Z) hI.1.1 (a0 := t9) (by omega)) rfl gL_law_X5_pull rfl hdX5_pull ⟨Nat.le_of_ble_eq_true rfl, Nat.le_of_ble_eq_true rfl⟩ 0 cw_at0 rfl rfl rfl (Nat.le_of_ble_eq_true rfl) ⟨by show c + 720 + 1 + 1 + 1 ≤ 600104; omega, by show n + 4300 + 6 + 6 + 6 ≤ 7301314; omega⟩ (q := 750) dL_law_747 rfl (fun E9 u9 h9 => by rcases h9.2 with z | z <;> (have z1 := z.1; rw [e_6] at z1; exact absurd z1 (by decide))) ?_
        rintro a_6 _ ⟨Z_6, rfl, -, h_6⟩
        refine v_weq (w9 := cw k h (sPull S (t9.toNat)) Z_6 ++ [(tl, aI k (mcn S) ln), (te, aI k (mcn S) le), (ts, aI k (tcn S) sa)]) rfl ?_
        have hJ : Inv3 (sPull S (t9.toNat)) := inv3_sPull hI e_6
        obtain ⟨p0, p1, p2, p3, p4, p5, p6, p66, p7, p8, p9⟩ := pul_f hI (t := t9.toNat) (by omega) (by omega)
        have hq : a_6 = rPull S t9.toNat := h_6
        rw [← hq] at p0 p1 p2 p3 p4 p5 p6 p66
        replace p1 := p1.trans (or_congr bI_t Iff.rfl)
        have hJm := hJ.1.1.mc
        refine v_istore F (q := 752) [(25, VI a_6), (24, VI z_5), (23, VI (S 5 (t9.toNat))), (22, VI (S 0 12)), (21, VI (S 0 11)), (20, VI ff), (19, VI gg), (18, VI ii), (17, .ref (ts)), (13, .ref (tl)), (12, VI fa), (11, VI fs), (10, VI fw), (7, VI k9), (6, VI t9), (5, VI (S 0 8)), (4, VI (S 0 7)), (3, VI x9), (2, VI ((ti : Nat) : Int)), (1, .ref (h 0)), (0, .ref (b))] dL_law_750 (by decide) rfl rfl ?_
        refine v_iload F 0 (q := 754) dL_law_752 rfl rfl ?_
        refine v_bipush F (q := 756) dL_law_754 rfl rfl ?_
        refine v_icmp_lt F (tgt := 835) (q := 759) (by omega) (by omega) dL_law_756 rfl rfl (fun h_7 => ?_) (fun h_7 => ?_)
        · exfalso
          omega
        · refine v_iload F 0 (q := 761) dL_law_759 rfl rfl ?_
          refine v_const F (q := 762) dL_law_761 rfl ?_
          have K_8 : ∀ z_8 : Int, ((z_8 = 1 ∧ a_6 = -1) ∨ (z_8 = 0 ∧ ¬ a_6 = -1)) → V XX (cw k h (sPull S (t9.toNat)) Z_6 ++ [(tl, aI k (mcn S) ln), (te, aI k (mcn S) le), (ts, aI k (tcn S) sa)]) (c + 720 + 1 + 1 + 1) (n + 4300 + 6 + 6 + 6) 770 [(25, VI a_6), (24, VI z_5), (23, VI (S 5 (t9.toNat))), (22, VI (S 0 12)), (21, VI (S 0 11)), (20, VI ff), (19, VI gg), (18, VI ii), (17, .ref (ts)), (13, .ref (tl)), (12, VI fa), (11, VI fs), (10, VI fw), (7, VI k9), (6, VI t9), (5, VI (S 0 8)), (4, VI (S 0 7)), (3, VI x9), (2, VI ((ti : Nat) : Int)), (1, .ref (h 0)), (0, .ref (b))] [VI z_8] := by
            intro z_8 hz_8
            have J_791 : V XX (cw k h (sPull S (t9.toNat)) Z_6 ++ [(tl, aI k (mcn S) ln), (te, aI k (mcn S) le), (ts, aI k (tcn S) sa)]) (c + 720 + 1 + 1 + 1) (n + 4300 + 6 + 6 + 6) 791 [(25, VI a_6), (24, VI z_5), (23, VI (S 5 (t9.toNat))), (22, VI (S 0 12)), (21, VI (S 0 11)), (20, VI ff), (19, VI gg), (18, VI ii), (17, .ref (ts)), (13, .ref (tl)), (12, VI fa), (11, VI fs), (10, VI fw), (7, VI k9), (6, VI t9), (5, VI (S 0 8)), (4, VI (S 0 7)), (3, VI x9), (2, VI ((ti : Nat) : Int)), (1, .ref (h 0)), (0, .ref (b))] [] := by
              refine v_aload_n F 19 (q := 792) dL_law_791 rfl rfl rfl ?_
              refine v_bipush F (q := 794) dL_law_792 rfl rfl ?_
              have e_9 : eCnt 6 = 0 := by unfold eCnt; rw [if_pos (by omega)]
              refine v_callVt F (kX5_count hst (k := k) (h := h) (S := (sPull S (t9.toNat))) (Z := Z_6) hJ.1.1 (a0 := 6) (by omega)) rfl gL_law_X5_count rfl hdX5_count ⟨Nat.le_of_ble_eq_true rfl, Nat.le_of_ble_eq_true rfl⟩ 0 cw_at0 rfl rfl rfl (Nat.le_of_ble_eq_true rfl) ⟨by show c + 720 + 1 + 1 + 1 + 1 ≤ 600104; omega, by show n + 4300 + 6 + 6 + 6 + 6 ≤ 7301314; omega⟩ (q := 797) dL_law_794 rfl (fun E9 u9 h9 => absurd h9.2.1 (by rw [e_9]; decide)) ?_
              rintro a_9 _ ⟨rfl, -, h_9⟩
              refine v_cast (b := (sPull S (t9.toNat)) 0 11) (h_9.trans (cv6 _)) ?_
              refine v_iload F 4 (q := 799) dL_law_797 rfl rfl ?_
              refine v_iload F 0 (q := 801) dL_law_799 rfl rfl ?_
              have K_10 : ∀ z_10 : Int, ((z_10 = 1 ∧ ¬ (a_6 < 0)) ∨ (z_10 = 0 ∧ a_6 < 0)) → V XX (cw k h (sPull S (t9.toNat)) Z_6 ++ [(tl, aI k (mcn S) ln), (te, aI k (mcn S) le), (ts, aI k (tcn S) sa)]) (c + 720 + 1 + 1 + 1 + 1) (n + 4300 + 6 + 6 + 6 + 6) 809 [(25, VI a_6), (24, VI z_5), (23, VI (S 5 (t9.toNat))), (22, VI (S 0 12)), (21, VI (S 0 11)), (20, VI ff), (19, VI gg), (18, VI ii), (17, .ref (ts)), (13, .ref (tl)), (12, VI fa), (11, VI fs), (10, VI fw), (7, VI k9), (6, VI t9), (5, VI (S 0 8)), (4, VI (S 0 7)), (3, VI x9), (2, VI ((ti : Nat) : Int)), (1, .ref (h 0)), (0, .ref (b))] [VI z_10, VI (S 0 11), VI ((sPull S (t9.toNat)) 0 11)] := by
                intro z_10 hz_10
                refine v_iadd F (q := 810) dL_law_809 rfl ?_
                refine v_icmp_ne0 F (tgt := 835) (q := 813) (by rw [p2]; split <;> omega) dL_law_810 rfl rfl ?_
                refine v_aload_n F 19 (q := 814) dL_law_813 rfl rfl rfl ?_
                refine v_bipush F (q := 816) dL_law_814 rfl rfl ?_
                have e_11 : eCnt 7 = 0 := by unfold eCnt; rw [if_pos (by omega)]
                refine v_callVt F (kX5_count hst (k := k) (h := h) (S := (sPull S (t9.toNat))) (Z := Z_6) hJ.1.1 (a0 := 7) (by omega)) rfl gL_law_X5_count rfl hdX5_count ⟨Nat.le_of_ble_eq_true rfl, Nat.le_of_ble_eq_true rfl⟩ 0 cw_at0 rfl rfl rfl (Nat.le_of_ble_eq_true rfl) ⟨by show c + 720 + 1 + 1 + 1 + 1 + 1 ≤ 600104; omega, by show n + 4300 + 6 + 6 + 6 + 6 + 6 ≤ 7301314; omega⟩ (q := 819) dL_law_816 rfl (fun E9 u9 h9 => absurd h9.2.1 (by rw [e_11]; decide)) ?_
                rintro a_11 _ ⟨rfl, -, h_11⟩
                refine v_cast (b := (sPull S (t9.toNat)) 0 12) (h_11.trans (cv7 _)) ?_
                refine v_iload F 3 (q := 821) dL_law_819 rfl rfl ?_
                refine v_iload F 0 (q := 823) dL_law_821 rfl rfl ?_
                have K_12 : ∀ z_12 : Int, ((z_12 = 1 ∧ ¬ (0 ≤ a_6)) ∨ (z_12 = 0 ∧ 0 ≤ a_6)) → V XX (cw k h (sPull S (t9.toNat)) Z_6 ++ [(tl, aI k (mcn S) ln), (te, aI k (mcn S) le), (ts, aI k (tcn S) sa)]) (c + 720 + 1 + 1 + 1 + 1 + 1) (n + 4300 + 6 + 6 + 6 + 6 + 6) 831 [(25, VI a_6), (24, VI z_5), (23, VI (S 5 (t9.toNat))), (22, VI (S 0 12)), (21, VI (S 0 11)), (20, VI ff), (19, VI gg), (18, VI ii), (17, .ref (ts)), (13, .ref (tl)), (12, VI fa), (11, VI fs), (10, VI fw), (7, VI k9), (6, VI t9), (5, VI (S 0 8)), (4, VI (S 0 7)), (3, VI x9), (2, VI ((ti : Nat) : Int)), (1, .ref (h 0)), (0, .ref (b))] [VI z_12, VI (S 0 12), VI ((sPull S (t9.toNat)) 0 12)] := by
                  intro z_12 hz_12
                  refine v_iadd F (q := 832) dL_law_831 rfl ?_
                  refine v_icmp_eq0 F (tgt := 837) (by rw [p3]; split <;> omega) dL_law_832 rfl ?_
                  have J_870 : V XX (cw k h (sPull S (t9.toNat)) Z_6 ++ [(tl, aI k (mcn S) ln), (te, aI k (mcn S) le), (ts, aI k (tcn S) sa)]) (c + 720 + 1 + 1 + 1 + 1 + 1 + 10) (n + 4300 + 6 + 6 + 6 + 6 + 6 + 60) 870 [(25, VI a_6), (24, VI z_5), (23, VI (S 5 (t9.toNat))), (22, VI (S 0 12)), (21, VI (S 0 11)), (20, VI ff), (19, VI gg), (18, VI ii), (17, .ref (ts)), (13, .ref (tl)), (12, VI fa), (11, VI fs), (10, VI fw), (7, VI k9), (6, VI t9), (5, VI (S 0 8)), (4, VI (S 0 7)), (3, VI x9), (2, VI ((ti : Nat) : Int)), (1, .ref (h 0)), (0, .ref (b))] [] := by
                    refine v_const F (q := 871) dL_law_870 rfl ?_
                    refine v_istore F (q := 873) [(26, VI 0), (25, VI a_6), (24, VI z_5), (23, VI (S 5 (t9.toNat))), (22, VI (S 0 12)), (21, VI (S 0 11)), (20, VI ff), (19, VI gg), (18, VI ii), (17, .ref (ts)), (13, .ref (tl)), (12, VI fa), (11, VI fs), (10, VI fw), (7, VI k9), (6, VI t9), (5, VI (S 0 8)), (4, VI (S 0 7)), (3, VI x9), (2, VI ((ti : Nat) : Int)), (1, .ref (h 0)), (0, .ref (b))] dL_law_871 (by decide) rfl rfl ?_
                    have L873_13 : ∀ (fu : Nat) (i : Nat), ((i : Int) ≤ S 0 7) → (S 0 7 - i).toNat < fu → V XX (cw k h (sPull S (t9.toNat)) Z_6 ++ [(tl, aI k (mcn S) ln), (te, aI k (mcn S) le), (ts, aI k (tcn S) sa)]) (c + 740 + i) (n + 4400 + 6 * i) 873 [(26, VI ((i : Nat) : Int)), (25, VI a_6), (24, VI z_5), (23, VI (S 5 (t9.toNat))), (22, VI (S 0 12)), (21, VI (S 0 11)), (20, VI ff), (19, VI gg), (18, VI ii), (17, .ref (ts)), (13, .ref (tl)), (12, VI fa), (11, VI fs), (10, VI fw), (7, VI k9), (6, VI t9), (5, VI (S 0 8)), (4, VI (S 0 7)), (3, VI x9), (2, VI ((ti : Nat) : Int)), (1, .ref (h 0)), (0, .ref (b))] [] := by
                      intro fu_873
                      induction fu_873 with
                      | zero => intros; omega
                      | succ fu_873 ih_873 =>
                        intro i hv1 hm_873
                        have p5i := p5 i
                        have p6i := p6 i
                        have p66i := p66 i
                        refine v_iload F 0 (q := 875) dL_law_873 rfl rfl ?_
                        refine v_iload F 17 (q := 877) dL_law_875 rfl rfl ?_
                        refine v_icmp_ge F (tgt := 943) (q := 880) (by omega) (by omega) dL_law_877 rfl rfl (fun h_14 => ?_) (fun h_14 => ?_)
                        · refine v_iload F 1 (q := 945) dL_law_943 rfl rfl ?_
                          refine v_if_lt F (tgt := 1207) (q := 948) (by omega) dL_law_945 rfl rfl (fun h_15 => ?_) (fun h_15 => ?_)
                          · refine v_sub [9, 14, 16, 17, 19, 20, 21] rfl ?_
                            refine v_widen (c' := c + 800) (n' := n + 4900) (by first | omega | (dsimp only; omega)) (by first | omega | (dsimp only; omega)) ?_
                            exact kk _ Z_6 hJ p7 p8 p9
                          · refine v_iload F 15 (q := 950) dL_law_948 rfl rfl ?_
                            refine v_iload F 12 (q := 952) dL_law_950 rfl rfl ?_
                            refine v_icmp_ne F (tgt := 1207) (q := 955) (by omega) (by omega) dL_law_952 rfl rfl (fun h_16 => ?_) (fun h_16 => ?_)
                            · refine v_sub [9, 14, 16, 17, 19, 20, 21] rfl ?_
                              refine v_widen (c' := c + 800) (n' := n + 4900) (by first | omega | (dsimp only; omega)) (by first | omega | (dsimp only; omega)) ?_
                              exact kk _ Z_6 hJ p7 p8 p9
                            · refine v_aload_n F 20 (q := 956) dL_law_955 rfl rfl rfl ?_
                              refine v_callVi F (kX5_fewest hst (k := k) (h := h) (S := (sPull S (t9.toNat))) (Z := Z_6) hJ.1.1) rfl gL_law_X5_fewest rfl hdX5_fewest ⟨Nat.le_of_ble_eq_true rfl, Nat.le_of_ble_eq_true rfl⟩ 0 cw_at0 rfl rfl rfl (Nat.le_of_ble_eq_true rfl) ⟨by show c + 740 + i + 0 ≤ 600104; omega, by show n + 4400 + 6 * i + 0 ≤ 7301314; omega⟩ (q := 959) dL_law_956 rfl ?_
                              rintro a_17 _ ⟨Z_17, rfl, h_17, hb_17⟩
                              refine v_iload F 13 (q := 961) dL_law_959 rfl rfl ?_
                              refine v_const F (q := 962) dL_law_961 rfl ?_
                              refine v_isub F (q := 963) dL_law_962 rfl ?_
                              refine v_icmp_eq0 F (tgt := 1207) (few_pl hI.1.1 (t := t9.toNat) (p4 (by omega)).2.1 (by omega) (by rw [show ((t9.toNat : Nat) : Int) = fs from by omega]; exact hfs) hfw.1 h_17) dL_law_963 rfl ?_
                              refine v_sub [9, 14, 16, 17, 19, 20, 21] rfl ?_
                              refine v_widen (c' := c + 800) (n' := n + 4900) (by first | omega | (dsimp only; omega)) (by first | omega | (dsimp only; omega)) ?_
                              exact kk _ Z_17 hJ p7 p8 p9
                        · refine v_aload_n F 20 (q := 881) dL_law_880 rfl rfl rfl ?_
                          refine v_iload F 0 (q := 883) dL_law_881 rfl rfl ?_
                          refine v_const F (q := 884) dL_law_883 rfl ?_
                          have e_18 : eMast (sPull S (t9.toNat)) ((i : Nat) : Int) 2 = 0 := by unfold eMast; rw [if_pos (by omega)]
                          refine v_callVt F (kX5_mast hst (k := k) (h := h) (S := (sPull S (t9.toNat))) (Z := Z_6) hJ.1.1 (a0 := ((i : Nat) : Int)) (a1 := 2) (by omega) (by omega)) rfl gL_law_X5_mast rfl hdX5_mast ⟨Nat.le_of_ble_eq_true rfl, Nat.le_of_ble_eq_true rfl⟩ 0 cw_at0 rfl rfl rfl (Nat.le_of_ble_eq_true rfl) ⟨by show c + 740 + i + 1 ≤ 600104; omega, by show n + 4400 + 6 * i + 6 ≤ 7301314; omega⟩ (q := 887) dL_law_884 rfl (fun E9 u9 h9 => absurd h9.2.1 (by rw [e_18]; decide)) ?_
                          rintro a_18 _ ⟨rfl, -, h_18⟩
                          refine v_cast (b := (sPull S (t9.toNat)) 4 i) (h_18.trans (mv2 _ _)) ?_
                          have b_18 := hJ.1.1.lean i
                          refine v_aload F 10 (q := 889) dL_law_887 rfl rfl ?_
                          refine v_iload F 0 (q := 891) dL_law_889 rfl rfl ?_
                          refine v_iald F (j := i) 28 rfl rfl (by omega) (by omega) (q := 892) dL_law_891 rfl ?_
                          refine v_cast (b := S 4 i) (hln i (by omega)) ?_
                          refine v_isub F (q := 893) dL_law_892 rfl ?_
                          refine v_istore F (q := 895) [(27, VI (((sPull S (t9.toNat)) 4 i) - (S 4 i))), (26, VI ((i : Nat) : Int)), (25, VI a_6), (24, VI z_5), (23, VI (S 5 (t9.toNat))), (22, VI (S 0 12)), (21, VI (S 0 11)), (20, VI ff), (19, VI gg), (18, VI ii), (17, .ref (ts)), (13, .ref (tl)), (12, VI fa), (11, VI fs), (10, VI fw), (7, VI k9), (6, VI t9), (5, VI (S 0 8)), (4, VI (S 0 7)), (3, VI x9), (2, VI ((ti : Nat) : Int)), (1, .ref (h 0)), (0, .ref (b))] dL_law_893 (by decide) rfl rfl ?_
                          refine v_iload F 2 (q := 897) dL_law_895 rfl rfl ?_
                          refine v_if_ge F (tgt := 908) (q := 900) (by omega) dL_law_897 rfl rfl (fun h_19 => ?_) (fun h_19 => ?_)
                          · refine v_iload F 1 (q := 910) dL_law_908 rfl rfl ?_
                            refine v_iload F 4 (q := 912) dL_law_910 rfl rfl ?_
                            refine v_icmp_ne F (tgt := 924) (q := 915) (by omega) (by omega) dL_law_912 rfl rfl (fun h_20 => ?_) (fun h_20 => ?_)
                            · refine v_iload F 0 (q := 926) dL_law_924 rfl rfl ?_
                              refine v_if_lt F (tgt := 935) (q := 929) (by omega) dL_law_926 rfl rfl (fun h_21 => ?_) (fun h_21 => ?_)
                              · exfalso
                                omega
                              · refine v_iload F 0 (q := 931) dL_law_929 rfl rfl ?_
                                refine v_const F (q := 932) dL_law_931 rfl ?_
                                refine v_icmp_le F (tgt := 937) (q := 935) (by omega) (by omega) dL_law_932 rfl rfl (fun h_22 => ?_) (fun h_22 => ?_)
                                · refine v_iinc F (q := 940) (z := ((i + 1 : Nat) : Int)) 1 [(26, VI ((i + 1 : Nat) : Int)), (27, VI (((sPull S (t9.toNat)) 4 i) - (S 4 i))), (25, VI a_6), (24, VI z_5), (23, VI (S 5 (t9.toNat))), (22, VI (S 0 12)), (21, VI (S 0 11)), (20, VI ff), (19, VI gg), (18, VI ii), (17, .ref (ts)), (13, .ref (tl)), (12, VI fa), (11, VI fs), (10, VI fw), (7, VI k9), (6, VI t9), (5, VI (S 0 8)), (4, VI (S 0 7)), (3, VI x9), (2, VI ((ti : Nat) : Int)), (1, .ref (h 0)), (0, .ref (b))] dL_law_937 rfl (by decide) (by omega) rfl rfl ?_
                                  refine v_goto F (tgt := 873) dL_law_940 rfl ?_
                                  refine v_sub [0, 2, 3, 4, 5, 6, 7, 8, 9, 10, 11, 12, 13, 14, 15, 16, 17, 18, 19, 20, 21, 22] rfl ?_
                                  refine v_widen (c' := c + 740 + (i + 1)) (n' := n + 4400 + 6 * (i + 1)) (by first | omega | (dsimp only; omega)) (by first | omega | (dsimp only; omega)) ?_
                                  exact ih_873 (i + 1) (by omega) (by omega)
                                · exfalso
                                  omega
                            · refine v_iload F 0 (q := 917) dL_law_915 rfl rfl ?_
                              refine v_const F (q := 918) dL_law_917 rfl ?_
                              refine v_icmp_eq F (tgt := 937) (q := 921) (by omega) (by omega) dL_law_918 rfl rfl (fun h_23 => ?_) (fun h_23 => ?_)
                              · refine v_iinc F (q := 940) (z := ((i + 1 : Nat) : Int)) 1 [(26, VI ((i + 1 : Nat) : Int)), (27, VI (((sPull S (t9.toNat)) 4 i) - (S 4 i))), (25, VI a_6), (24, VI z_5), (23, VI (S 5 (t9.toNat))), (22, VI (S 0 12)), (21, VI (S 0 11)), (20, VI ff), (19, VI gg), (18, VI ii), (17, .ref (ts)), (13, .ref (tl)), (12, VI fa), (11, VI fs), (10, VI fw), (7, VI k9), (6, VI t9), (5, VI (S 0 8)), (4, VI (S 0 7)), (3, VI x9), (2, VI ((ti : Nat) : Int)), (1, .ref (h 0)), (0, .ref (b))] dL_law_937 rfl (by decide) (by omega) rfl rfl ?_
                                refine v_goto F (tgt := 873) dL_law_940 rfl ?_
                                refine v_sub [0, 2, 3, 4, 5, 6, 7, 8, 9, 10, 11, 12, 13, 14, 15, 16, 17, 18, 19, 20, 21, 22] rfl ?_
                                refine v_widen (c' := c + 740 + (i + 1)) (n' := n + 4400 + 6 * (i + 1)) (by first | omega | (dsimp only; omega)) (by first | omega | (dsimp only; omega)) ?_
                                exact ih_873 (i + 1) (by omega) (by omega)
                              · refine v_goto F (tgt := 935) dL_law_921 rfl ?_
                                exfalso
                                omega
                          · refine v_iload F 0 (q := 902) dL_law_900 rfl rfl ?_
                            refine v_if_eq F (tgt := 937) (q := 905) (by omega) dL_law_902 rfl rfl (fun h_24 => ?_) (fun h_24 => ?_)
                            · refine v_iinc F (q := 940) (z := ((i + 1 : Nat) : Int)) 1 [(26, VI ((i + 1 : Nat) : Int)), (27, VI (((sPull S (t9.toNat)) 4 i) - (S 4 i))), (25, VI a_6), (24, VI z_5), (23, VI (S 5 (t9.toNat))), (22, VI (S 0 12)), (21, VI (S 0 11)), (20, VI ff), (19, VI gg), (18, VI ii), (17, .ref (ts)), (13, .ref (tl)), (12, VI fa), (11, VI fs), (10, VI fw), (7, VI k9), (6, VI t9), (5, VI (S 0 8)), (4, VI (S 0 7)), (3, VI x9), (2, VI ((ti : Nat) : Int)), (1, .ref (h 0)), (0, .ref (b))] dL_law_937 rfl (by decide) (by omega) rfl rfl ?_
                              refine v_goto F (tgt := 873) dL_law_940 rfl ?_
                              refine v_sub [0, 2, 3, 4, 5, 6, 7, 8, 9, 10, 11, 12, 13, 14, 15, 16, 17, 18, 19, 20, 21, 22] rfl ?_
                              refine v_widen (c' := c + 740 + (i + 1)) (n' := n + 4400 + 6 * (i + 1)) (by first | omega | (dsimp only; omega)) (by first | omega | (dsimp only; omega)) ?_
                              exact ih_873 (i + 1) (by omega) (by omega)
                            · refine v_goto F (tgt := 935) dL_law_905 rfl ?_
                              exfalso
                              omega
                    refine v_widen (c' := c + 740 + 0) (n' := n + 4400 + 6 * 0) (by first | omega | (dsimp only; omega)) (by first | omega | (dsimp only; omega)) ?_
                    exact L873_13 _ 0 (by omega) (Nat.lt_succ_self _)
                  refine v_iload F 0 (q := 839) dL_law_837 rfl rfl ?_
                  refine v_if_lt F (tgt := 870) (q := 842) (by omega) dL_law_839 rfl rfl (fun h_25 => ?_) (fun h_25 => ?_)
                  · refine v_widen (c' := c + 720 + 1 + 1 + 1 + 1 + 1 + 10) (n' := n + 4300 + 6 + 6 + 6 + 6 + 6 + 60) (by first | omega | (dsimp only; omega)) (by first | omega | (dsimp only; omega)) ?_
                    exact J_870
                  · refine v_iload F 0 (q := 844) dL_law_842 rfl rfl ?_
                    refine v_aload F 9 (q := 846) dL_law_844 rfl rfl ?_
                    refine v_iload F 2 (q := 848) dL_law_846 rfl rfl ?_
                    refine v_iald F (j := (S 5 (t9.toNat)).toNat) 28 rfl (by omega) (by omega) (by omega) (q := 849) dL_law_848 rfl ?_
                    refine v_cast (b := S 4 ((S 5 (t9.toNat)).toNat)) (hln ((S 5 (t9.toNat)).toNat) (by omega)) ?_
                    refine v_const F (q := 850) dL_law_849 rfl ?_
                    refine v_isub F (q := 851) dL_law_850 rfl ?_
                    refine v_icmp_ne F (tgt := 868) (q := 854) (by omega) (by omega) dL_law_851 rfl rfl (fun h_26 => ?_) (fun h_26 => ?_)
                    · exfalso
                      omega
                    · refine v_iload F 7 (q := 856) dL_law_854 rfl rfl ?_
                      refine v_if_eq F (tgt := 870) (q := 859) (by omega) dL_law_856 rfl rfl (fun h_27 => ?_) (fun h_27 => ?_)
                      · refine v_widen (c' := c + 720 + 1 + 1 + 1 + 1 + 1 + 10) (n' := n + 4300 + 6 + 6 + 6 + 6 + 6 + 60) (by first | omega | (dsimp only; omega)) (by first | omega | (dsimp only; omega)) ?_
                        exact J_870
                      · refine v_aload_n F 19 (q := 860) dL_law_859 rfl rfl rfl ?_
                        refine v_const F (q := 861) dL_law_860 rfl ?_
                        have e_28 : eShip 4 = 0 := by unfold eShip; rw [if_pos (by omega)]
                        refine v_callVt F (kX5_ship hst (k := k) (h := h) (S := (sPull S (t9.toNat))) (Z := Z_6) hJ.1.1 (a0 := 4) (by omega)) rfl gL_law_X5_ship rfl hdX5_ship ⟨Nat.le_of_ble_eq_true rfl, Nat.le_of_ble_eq_true rfl⟩ 0 cw_at0 rfl rfl rfl (Nat.le_of_ble_eq_true rfl) ⟨by show c + 720 + 1 + 1 + 1 + 1 + 1 + 1 ≤ 600104; omega, by show n + 4300 + 6 + 6 + 6 + 6 + 6 + 6 ≤ 7301314; omega⟩ (q := 864) dL_law_861 rfl (fun E9 u9 h9 => absurd h9.2.1 (by rw [e_28]; decide)) ?_
                        rintro a_28 _ ⟨rfl, -, h_28⟩
                        refine v_cast (b := bI (fitsB (sPull S (t9.toNat)) ((sPull S (t9.toNat)) 4))) (h_28.trans (sv4 _)) ?_
                        have b_28 := bI_bd (fitsB (sPull S (t9.toNat)) ((sPull S (t9.toNat)) 4))
                        have p4f : S 0 9 = 1 → bI (fitsB (sPull S (t9.toNat)) ((sPull S (t9.toNat)) 4)) = 1 := fun z9 => bI_t.mp ((p4 (by omega)).2.2 z9)
                        refine v_const F (q := 865) dL_law_864 rfl ?_
                        refine v_icmp_eq F (tgt := 870) (q := 868) (by omega) (by omega) dL_law_865 rfl rfl (fun h_29 => ?_) (fun h_29 => ?_)
                        · refine v_widen (c' := c + 720 + 1 + 1 + 1 + 1 + 1 + 10) (n' := n + 4300 + 6 + 6 + 6 + 6 + 6 + 60) (by first | omega | (dsimp only; omega)) (by first | omega | (dsimp only; omega)) ?_
                          exact J_870
                        · exfalso
                          omega
                refine v_if_ge F (tgt := 830) (q := 826) (by omega) dL_law_823 rfl rfl (fun h_12 => ?_) (fun h_12 => ?_)
                · refine v_const F (q := 831) dL_law_830 rfl ?_
                  exact K_12 0 (Or.inr ⟨rfl, h_12⟩)
                · refine v_const F (q := 827) dL_law_826 rfl ?_
                  refine v_goto F (tgt := 831) dL_law_827 rfl ?_
                  exact K_12 1 (Or.inl ⟨rfl, h_12⟩)
              refine v_if_lt F (tgt := 808) (q := 804) (by omega) dL_law_801 rfl rfl (fun h_10 => ?_) (fun h_10 => ?_)
              · refine v_const F (q := 809) dL_law_808 rfl ?_
                exact K_10 0 (Or.inr ⟨rfl, h_10⟩)
              · refine v_const F (q := 805) dL_law_804 rfl ?_
                refine v_goto F (tgt := 809) dL_law_805 rfl ?_
                exact K_10 1 (Or.inl ⟨rfl, h_10⟩)
            refine v_iload F 1 (q := 772) dL_law_770 rfl rfl ?_
            refine v_if_ne F (tgt := 783) (q := 775) (by omega) dL_law_772 rfl rfl (fun h_30 => ?_) (fun h_30 => ?_)
            · refine v_const F (q := 784) dL_law_783 rfl ?_
              refine v_goto F (tgt := 788) dL_law_784 rfl ?_
              refine v_icmp_ne F (tgt := 835) (q := 791) (by omega) (by omega) dL_law_788 rfl rfl (fun h_31 => ?_) (fun h_31 => ?_)
              · exfalso
                omega
              · exact J_791
            · refine v_aload F 9 (q := 777) dL_law_775 rfl rfl ?_
              refine v_iload F 2 (q := 779) dL_law_777 rfl rfl ?_
              refine v_iald F (j := (S 5 (t9.toNat)).toNat) 28 rfl (by omega) (by omega) (by omega) (q := 780) dL_law_779 rfl ?_
              refine v_cast (b := S 4 ((S 5 (t9.toNat)).toNat)) (hln ((S 5 (t9.toNat)).toNat) (by omega)) ?_
              have K_32 : ∀ z_32 : Int, ((z_32 = 1 ∧ (S 4 ((S 5 (t9.toNat)).toNat)) = 0) ∨ (z_32 = 0 ∧ ¬ (S 4 ((S 5 (t9.toNat)).toNat)) = 0)) → V XX (cw k h (sPull S (t9.toNat)) Z_6 ++ [(tl, aI k (mcn S) ln), (te, aI k (mcn S) le), (ts, aI k (tcn S) sa)]) (c + 720 + 1 + 1 + 1) (n + 4300 + 6 + 6 + 6) 788 [(25, VI a_6), (24, VI z_5), (23, VI (S 5 (t9.toNat))), (22, VI (S 0 12)), (21, VI (S 0 11)), (20, VI ff), (19, VI gg), (18, VI ii), (17, .ref (ts)), (13, .ref (tl)), (12, VI fa), (11, VI fs), (10, VI fw), (7, VI k9), (6, VI t9), (5, VI (S 0 8)), (4, VI (S 0 7)), (3, VI x9), (2, VI ((ti : Nat) : Int)), (1, .ref (h 0)), (0, .ref (b))] [VI z_32, VI z_8] := by
                intro z_32 hz_32
                refine v_icmp_ne F (tgt := 835) (q := 791) (by omega) (by omega) dL_law_788 rfl rfl (fun h_33 => ?_) (fun h_33 => ?_)
                · exfalso
                  omega
                · exact J_791
              refine v_if_ne F (tgt := 787) (q := 783) (by omega) dL_law_780 rfl rfl (fun h_32 => ?_) (fun h_32 => ?_)
              · refine v_const F (q := 788) dL_law_787 rfl ?_
                exact K_32 0 (Or.inr ⟨rfl, h_32⟩)
              · refine v_const F (q := 784) dL_law_783 rfl ?_
                refine v_goto F (tgt := 788) dL_law_784 rfl ?_
                exact K_32 1 (Or.inl ⟨rfl, h_32⟩)
          refine v_icmp_ne F (tgt := 769) (q := 765) (by omega) (by omega) dL_law_762 rfl rfl (fun h_8 => ?_) (fun h_8 => ?_)
          · refine v_const F (q := 770) dL_law_769 rfl ?_
            exact K_8 0 (Or.inr ⟨rfl, h_8⟩)
          · refine v_const F (q := 766) dL_law_765 rfl ?_
            refine v_goto F (tgt := 770) dL_law_766 rfl ?_
            exact K_8 1 (Or.inl ⟨rfl, h_8⟩)
      refine v_icmp_ne F (tgt := 741) (q := 737) (by omega) (by omega) dL_law_734 rfl rfl (fun h_5 => ?_) (fun h_5 => ?_)
      · refine v_const F (q := 742) dL_law_741 rfl ?_
        exact K_5 0 (Or.inr ⟨rfl, h_5⟩)
      · refine v_const F (q := 738) dL_law_737 rfl ?_
        refine v_goto F (tgt := 742) dL_law_738 rfl ?_
        exact K_5 1 (Or.inl ⟨rfl, h_5⟩)
    · refine v_goto F (tgt := 1207) dL_law_713 rfl ?_
      refine v_sub [5, 10, 12, 13, 15, 16, 17] rfl ?_
      refine v_widen (c' := c + 800) (n' := n + 4900) (by first | omega | (dsimp only; omega)) (by first | omega | (dsimp only; omega)) ?_
      exact kk S Z hI rfl rfl (fun j hj => hj)
set_option maxRecDepth 100000 in
set_option maxHeartbeats 4000000 in
theorem sgF3 {XX : vX} {l : Launch} {k : Nat → ClassId} {nm9 : String} (F : v_F XX l k ⟨RL, nm9, "([I)Z"⟩ code 28 wsL_law room_1) (hst : l.stackTraces = false) {b L : Nat} {xs : Nat → Int32} (hX : va_X b L xs XX.1.2.2.2.2 XX.1.2.2.2.2.heap) (hbl : b < XX.1.2.2.2.2.heap.size) (hbA : ¬ XX.2.2.2.2 b) (hL : L ≤ 2560) {h : Nat → Nat} {S Z : Nat → Nat → Int} (hI : Inv3 S) {c n : Nat} (hc : c + 2000 ≤ 600104) (hn : n + 12000 ≤ 7301314) {ti : Nat} (hti : ti < 40) {x9 t9 k9 fw fs fa : Int} (hx9 : R32 x9) (ht9 : 0 ≤ t9 ∧ t9 < max 1 (S 0 8)) (hk9 : 0 ≤ k9 ∧ k9 < max 1 (S 0 7)) (hfw : FewP S (cS S) fw ∧ -1 ≤ fw ∧ fw ≤ 1000) (hfs : FstP S (cS S) fs) (hfa : FallsP S fa) {tl te : Nat} {ln le : Nat → Int} (hln : ∀ j, j < mcn S → ln j = S 4 j) (hle : ∀ j, j < mcn S → LeaP S (cS S) j (le j)) {ts : Nat} {sa : Nat → Int} (hsa : ∀ j, j < tcn S → sa j = S 8 j) {ii gg ff : Int} (hii : (ii = 1 ∧ S 0 9 = 1) ∨ (ii = 0 ∧ ¬ S 0 9 = 1)) (hgg : (gg = 1 ∧ goesB S = true) ∨ (gg = 0 ∧ goesB S = false)) (hff : (ff = 1 ∧ fitsB S (S 4) = true) ∨ (ff = 0 ∧ fitsB S (S 4) = false)) (kk : ∀ (S' Z' : Nat → Nat → Int), Inv3 S' → S' 0 7 = S 0 7 → S' 0 8 = S 0 8 → (∀ j, S 8 j = 2 → S' 8 j = 2) → V XX (cw k h S' Z' ++ [(tl, aI k (mcn S) ln), (te, aI k (mcn S) le), (ts, aI k (tcn S) sa)]) (c + 800) (n + 4900) 1207 [(17, .ref (ts)), (7, VI k9), (5, VI (S 0 8)), (4, VI (S 0 7)), (2, VI ((ti : Nat) : Int)), (1, .ref (h 0)), (0, .ref (b))] []) : V XX (cw k h S Z ++ [(tl, aI k (mcn S) ln), (te, aI k (mcn S) le), (ts, aI k (tcn S) sa)]) (c + 720) (n + 4300) 968 [(22, VI (S 0 12)), (21, VI (S 0 11)), (20, VI ff), (19, VI gg), (18, VI ii), (17, .ref (ts)), (13, .ref (tl)), (12, VI fa), (11, VI fs), (10, VI fw), (7, VI k9), (6, VI t9), (5, VI (S 0 8)), (4, VI (S 0 7)), (3, VI x9), (2, VI ((ti : Nat) : Int)), (1, .ref (h 0)), (0, .ref (b))] [] := by
  have hmz := mcn_z hI.1.1
  have htz := tcn_z hI.1.1
  have hmc := hI.1.1.mc
  have hcc := hI.1.1.cc
  refine v_iload F 12 (q := 970) dL_law_968 rfl rfl ?_
  refine v_if_le F (tgt := 1207) (q := 973) (by omega) dL_law_970 rfl rfl (fun h_1 => ?_) (fun h_1 => ?_)
  · refine v_sub [5, 10, 12, 13, 15, 16, 17] rfl ?_
    refine v_widen (c' := c + 800) (n' := n + 4900) (by first | omega | (dsimp only; omega)) (by first | omega | (dsimp only; omega)) ?_
    exact kk S Z hI rfl rfl (fun j hj => hj)
  · have hst9 := hI.1.1.st t9.toNat
    refine v_aload F 5 (q := 975) dL_law_973 rfl rfl ?_
    refine v_iload F 11 (q := 977) dL_law_975 rfl rfl ?_
    refine v_iald F (j := t9.toNat) 30 rfl (by omega) (by omega) (by omega) (q := 978) dL_law_977 rfl ?_
    refine v_cast (b := S 8 (t9.toNat)) (hsa (t9.toNat) (by omega)) ?_
    refine v_const F (q := 979) dL_law_978 rfl ?_
    refine v_icmp_ge F (tgt := 1207) (q := 982) (by omega) (by omega) dL_law_979 rfl rfl (fun h_2 => ?_) (fun h_2 => ?_)
    · refine v_sub [5, 10, 12, 13, 15, 16, 17] rfl ?_
      refine v_widen (c' := c + 800) (n' := n + 4900) (by first | omega | (dsimp only; omega)) (by first | omega | (dsimp only; omega)) ?_
      exact kk S Z hI rfl rfl (fun j hj => hj)
    · refine v_aload_n F 16 (q := 983) dL_law_982 rfl rfl rfl ?_
      refine v_iload F 11 (q := 985) dL_law_983 rfl rfl ?_
      have e_3 : eGlue S t9 = 0 := by unfold eGlue; (try simp only [Int.toNat_natCast]); rw [if_pos (by omega), if_neg (by omega)]
      refine v_callVt F (kX5_glue hst (k := k) (h := h) (S := S) (Z := Z) hI.1.1 (a0 := t9) (by omega)) rfl gL_law_X5_glue rfl hdX5_glue ⟨Nat.le_of_ble_eq_true rfl, Nat.le_of_ble_eq_true rfl⟩ 0 cw_at0 rfl rfl rfl (Nat.le_of_ble_eq_true rfl) ⟨by show c + 720 + 1 ≤ 600104; omega, by show n + 4300 + 6 ≤ 7301314; omega⟩ (q := 988) dL_law_985 rfl (fun E9 u9 h9 => by rcases h9.2 with z | z <;> (have z1 := z.1; rw [e_3] at z1; exact absurd z1 (by decide))) ?_
      rintro a_3 _ ⟨rfl, -, h_3⟩
      refine v_weq (w9 := cw k h (sGlue S (t9.toNat)) Z ++ [(tl, aI k (mcn S) ln), (te, aI k (mcn S) le), (ts, aI k (tcn S) sa)]) rfl ?_
      have hJ : Inv3 (sGlue S (t9.toNat)) := inv3_sGlue hI e_3
      have p7 : (sGlue S (t9.toNat)) 0 7 = S 0 7 := rfl
      have p8 : (sGlue S (t9.toNat)) 0 8 = S 0 8 := rfl
      have p9 : ∀ j, S 8 j = 2 → (sGlue S (t9.toNat)) 8 j = 2 := fun j hj => (u2_ne (fun z => by rw [z.2] at hj; omega)).trans hj
      refine v_cast (b := 1 - S 8 (t9.toNat)) h_3 ?_
      refine v_const F (q := 989) dL_law_988 rfl ?_
      refine v_aload F 5 (q := 991) dL_law_989 rfl rfl ?_
      refine v_iload F 11 (q := 993) dL_law_991 rfl rfl ?_
      refine v_iald F (j := t9.toNat) 30 rfl (by omega) (by omega) (by omega) (q := 994) dL_law_993 rfl ?_
      refine v_cast (b := S 8 (t9.toNat)) (hsa (t9.toNat) (by omega)) ?_
      refine v_isub F (q := 995) dL_law_994 rfl ?_
      refine v_icmp_eq F (tgt := 1207) (q := 998) (by omega) (by omega) dL_law_995 rfl rfl (fun h_4 => ?_) (fun h_4 => ?_)
      · refine v_sub [5, 10, 12, 13, 15, 16, 17] rfl ?_
        refine v_widen (c' := c + 800) (n' := n + 4900) (by first | omega | (dsimp only; omega)) (by first | omega | (dsimp only; omega)) ?_
        exact kk _ Z hJ p7 p8 p9
      · exfalso
        omega
set_option maxRecDepth 100000 in
set_option maxHeartbeats 4000000 in
theorem sgF4 {XX : vX} {l : Launch} {k : Nat → ClassId} {nm9 : String} (F : v_F XX l k ⟨RL, nm9, "([I)Z"⟩ code 28 wsL_law room_1) (hst : l.stackTraces = false) {b L : Nat} {xs : Nat → Int32} (hX : va_X b L xs XX.1.2.2.2.2 XX.1.2.2.2.2.heap) (hbl : b < XX.1.2.2.2.2.heap.size) (hbA : ¬ XX.2.2.2.2 b) (hL : L ≤ 2560) {h : Nat → Nat} {S Z : Nat → Nat → Int} (hI : Inv3 S) {c n : Nat} (hc : c + 2000 ≤ 600104) (hn : n + 12000 ≤ 7301314) {ti : Nat} (hti : ti < 40) {x9 t9 k9 fw fs fa : Int} (hx9 : R32 x9) (ht9 : 0 ≤ t9 ∧ t9 < max 1 (S 0 8)) (hk9 : 0 ≤ k9 ∧ k9 < max 1 (S 0 7)) (hfw : FewP S (cS S) fw ∧ -1 ≤ fw ∧ fw ≤ 1000) (hfs : FstP S (cS S) fs) (hfa : FallsP S fa) {tl te : Nat} {ln le : Nat → Int} (hln : ∀ j, j < mcn S → ln j = S 4 j) (hle : ∀ j, j < mcn S → LeaP S (cS S) j (le j)) {ts : Nat} {sa : Nat → Int} (hsa : ∀ j, j < tcn S → sa j = S 8 j) {ii gg ff : Int} (hii : (ii = 1 ∧ S 0 9 = 1) ∨ (ii = 0 ∧ ¬ S 0 9 = 1)) (hgg : (gg = 1 ∧ goesB S = true) ∨ (gg = 0 ∧ goesB S = false)) (hff : (ff = 1 ∧ fitsB S (S 4) = true) ∨ (ff = 0 ∧ fitsB S (S 4) = false)) (kk : ∀ (S' Z' : Nat → Nat → Int), Inv3 S' → S' 0 7 = S 0 7 → S' 0 8 = S 0 8 → (∀ j, S 8 j = 2 → S' 8 j = 2) → V XX (cw k h S' Z' ++ [(tl, aI k (mcn S) ln), (te, aI k (mcn S) le), (ts, aI k (tcn S) sa)]) (c + 800) (n + 4900) 1207 [(17, .ref (ts)), (7, VI k9), (5, VI (S 0 8)), (4, VI (S 0 7)), (2, VI ((ti : Nat) : Int)), (1, .ref (h 0)), (0, .ref (b))] []) : V XX (cw k h S Z ++ [(tl, aI k (mcn S) ln), (te, aI k (mcn S) le), (ts, aI k (tcn S) sa)]) (c + 720) (n + 4300) 1000 [(22, VI (S 0 12)), (21, VI (S 0 11)), (20, VI ff), (19, VI gg), (18, VI ii), (17, .ref (ts)), (13, .ref (tl)), (12, VI fa), (11, VI fs), (10, VI fw), (7, VI k9), (6, VI t9), (5, VI (S 0 8)), (4, VI (S 0 7)), (3, VI x9), (2, VI ((ti : Nat) : Int)), (1, .ref (h 0)), (0, .ref (b))] [] := by
  have hmz := mcn_z hI.1.1
  have htz := tcn_z hI.1.1
  have hmc := hI.1.1.mc
  have hcc := hI.1.1.cc
  have hJ : Inv3 (sEnter S) := inv3_sEnter hI
  have p7 : sEnter S 0 7 = S 0 7 := by unfold sEnter; split <;> rfl
  have p8 : sEnter S 0 8 = S 0 8 := by unfold sEnter; split <;> rfl
  have p9 : ∀ j, S 8 j = 2 → sEnter S 8 j = 2 := fun j hj => by unfold sEnter; split <;> exact hj
  have hen : bI (entB S) = 1 ↔ (ii = 0 ∧ gg = 1 ∧ ff = 1) := ent_f hI.1.1 hii hgg hff
  have heb := bI_bd (entB S)
  refine v_aload_n F 16 (q := 1001) dL_law_1000 rfl rfl rfl ?_
  refine v_callVi F (kX5_enter hst (k := k) (h := h) (S := S) (Z := Z) hI.1.1) rfl gL_law_X5_enter rfl hdX5_enter ⟨Nat.le_of_ble_eq_true rfl, Nat.le_of_ble_eq_true rfl⟩ 0 cw_at0 rfl rfl rfl (Nat.le_of_ble_eq_true rfl) ⟨by show c + 720 + 0 ≤ 600104; omega, by show n + 4300 + 0 ≤ 7301314; omega⟩ (q := 1004) dL_law_1001 rfl ?_
  rintro a_1 _ ⟨rfl, h_1⟩
  refine v_weq (w9 := cw k h (sEnter S) Z ++ [(tl, aI k (mcn S) ln), (te, aI k (mcn S) le), (ts, aI k (tcn S) sa)]) rfl ?_
  have h_1 := vB_bI h_1
  refine v_cast (b := bI (entB S)) h_1 ?_
  have b_1 := bI_bd (entB S)
  refine v_iload F 4 (q := 1006) dL_law_1004 rfl rfl ?_
  refine v_if_ne F (tgt := 1023) (q := 1009) (by omega) dL_law_1006 rfl rfl (fun h_2 => ?_) (fun h_2 => ?_)
  · refine v_const F (q := 1024) dL_law_1023 rfl ?_
    refine v_icmp_eq F (tgt := 1207) (q := 1027) (by omega) R32_0 dL_law_1024 rfl rfl (fun h_3 => ?_) (fun h_3 => ?_)
    · refine v_sub [5, 10, 12, 13, 15, 16, 17] rfl ?_
      refine v_widen (c' := c + 800) (n' := n + 4900) (by first | omega | (dsimp only; omega)) (by first | omega | (dsimp only; omega)) ?_
      exact kk _ Z hJ p7 p8 p9
    · exfalso
      omega
  · refine v_iload F 3 (q := 1011) dL_law_1009 rfl rfl ?_
    refine v_if_eq F (tgt := 1023) (q := 1014) (by omega) dL_law_1011 rfl rfl (fun h_4 => ?_) (fun h_4 => ?_)
    · refine v_const F (q := 1024) dL_law_1023 rfl ?_
      refine v_icmp_eq F (tgt := 1207) (q := 1027) (by omega) R32_0 dL_law_1024 rfl rfl (fun h_5 => ?_) (fun h_5 => ?_)
      · refine v_sub [5, 10, 12, 13, 15, 16, 17] rfl ?_
        refine v_widen (c' := c + 800) (n' := n + 4900) (by first | omega | (dsimp only; omega)) (by first | omega | (dsimp only; omega)) ?_
        exact kk _ Z hJ p7 p8 p9
      · exfalso
        omega
    · refine v_iload F 2 (q := 1016) dL_law_1014 rfl rfl ?_
      have K_6 : ∀ z_6 : Int, ((z_6 = 1 ∧ ¬ (ff = 0)) ∨ (z_6 = 0 ∧ ff = 0)) → V XX (cw k h (sEnter S) Z ++ [(tl, aI k (mcn S) ln), (te, aI k (mcn S) le), (ts, aI k (tcn S) sa)]) (c + 720) (n + 4300) 1024 [(22, VI (S 0 12)), (21, VI (S 0 11)), (20, VI ff), (19, VI gg), (18, VI ii), (17, .ref (ts)), (13, .ref (tl)), (12, VI fa), (11, VI fs), (10, VI fw), (7, VI k9), (6, VI t9), (5, VI (S 0 8)), (4, VI (S 0 7)), (3, VI x9), (2, VI ((ti : Nat) : Int)), (1, .ref (h 0)), (0, .ref (b))] [VI z_6, VI (bI (entB S))] := by
        intro z_6 hz_6
        refine v_icmp_eq F (tgt := 1207) (q := 1027) (by omega) (by omega) dL_law_1024 rfl rfl (fun h_7 => ?_) (fun h_7 => ?_)
        · refine v_sub [5, 10, 12, 13, 15, 16, 17] rfl ?_
          refine v_widen (c' := c + 800) (n' := n + 4900) (by first | omega | (dsimp only; omega)) (by first | omega | (dsimp only; omega)) ?_
          exact kk _ Z hJ p7 p8 p9
        · exfalso
          omega
      refine v_if_eq F (tgt := 1023) (q := 1019) (by omega) dL_law_1016 rfl rfl (fun h_6 => ?_) (fun h_6 => ?_)
      · refine v_const F (q := 1024) dL_law_1023 rfl ?_
        exact K_6 0 (Or.inr ⟨rfl, h_6⟩)
      · refine v_const F (q := 1020) dL_law_1019 rfl ?_
        refine v_goto F (tgt := 1024) dL_law_1020 rfl ?_
        exact K_6 1 (Or.inl ⟨rfl, h_6⟩)
set_option maxRecDepth 100000 in
set_option maxHeartbeats 4000000 in
theorem sgF5 {XX : vX} {l : Launch} {k : Nat → ClassId} {nm9 : String} (F : v_F XX l k ⟨RL, nm9, "([I)Z"⟩ code 28 wsL_law room_1) (hst : l.stackTraces = false) {b L : Nat} {xs : Nat → Int32} (hX : va_X b L xs XX.1.2.2.2.2 XX.1.2.2.2.2.heap) (hbl : b < XX.1.2.2.2.2.heap.size) (hbA : ¬ XX.2.2.2.2 b) (hL : L ≤ 2560) {h : Nat → Nat} {S Z : Nat → Nat → Int} (hI : Inv3 S) {c n : Nat} (hc : c + 2000 ≤ 600104) (hn : n + 12000 ≤ 7301314) {ti : Nat} (hti : ti < 40) {x9 t9 k9 fw fs fa : Int} (hx9 : R32 x9) (ht9 : 0 ≤ t9 ∧ t9 < max 1 (S 0 8)) (hk9 : 0 ≤ k9 ∧ k9 < max 1 (S 0 7)) (hfw : FewP S (cS S) fw ∧ -1 ≤ fw ∧ fw ≤ 1000) (hfs : FstP S (cS S) fs) (hfa : FallsP S fa) {tl te : Nat} {ln le : Nat → Int} (hln : ∀ j, j < mcn S → ln j = S 4 j) (hle : ∀ j, j < mcn S → LeaP S (cS S) j (le j)) {ts : Nat} {sa : Nat → Int} (hsa : ∀ j, j < tcn S → sa j = S 8 j) {ii gg ff : Int} (hii : (ii = 1 ∧ S 0 9 = 1) ∨ (ii = 0 ∧ ¬ S 0 9 = 1)) (hgg : (gg = 1 ∧ goesB S = true) ∨ (gg = 0 ∧ goesB S = false)) (hff : (ff = 1 ∧ fitsB S (S 4) = true) ∨ (ff = 0 ∧ fitsB S (S 4) = false)) (kk : ∀ (S' Z' : Nat → Nat → Int), Inv3 S' → S' 0 7 = S 0 7 → S' 0 8 = S 0 8 → (∀ j, S 8 j = 2 → S' 8 j = 2) → V XX (cw k h S' Z' ++ [(tl, aI k (mcn S) ln), (te, aI k (mcn S) le), (ts, aI k (tcn S) sa)]) (c + 800) (n + 4900) 1207 [(17, .ref (ts)), (7, VI k9), (5, VI (S 0 8)), (4, VI (S 0 7)), (2, VI ((ti : Nat) : Int)), (1, .ref (h 0)), (0, .ref (b))] []) : V XX (cw k h S Z ++ [(tl, aI k (mcn S) ln), (te, aI k (mcn S) le), (ts, aI k (tcn S) sa)]) (c + 720) (n + 4300) 1029 [(22, VI (S 0 12)), (21, VI (S 0 11)), (20, VI ff), (19, VI gg), (18, VI ii), (17, .ref (ts)), (13, .ref (tl)), (12, VI fa), (11, VI fs), (10, VI fw), (7, VI k9), (6, VI t9), (5, VI (S 0 8)), (4, VI (S 0 7)), (3, VI x9), (2, VI ((ti : Nat) : Int)), (1, .ref (h 0)), (0, .ref (b))] [] := by
  have hmz := mcn_z hI.1.1
  have htz := tcn_z hI.1.1
  have hmc := hI.1.1.mc
  have hcc := hI.1.1.cc
  have hJ : Inv3 (sLeave S) := inv3_sLeave hI
  have p7 : sLeave S 0 7 = S 0 7 := by unfold sLeave; split <;> rfl
  have p8 : sLeave S 0 8 = S 0 8 := by unfold sLeave; split <;> rfl
  have p9 : ∀ j, S 8 j = 2 → sLeave S 8 j = 2 := fun j hj => by unfold sLeave; split <;> exact hj
  have hen : bI (leaB S) = 1 ↔ (ii = 1 ∧ gg = 1) := lea_f hI.1.1 hii hgg
  have heb := bI_bd (leaB S)
  refine v_aload_n F 16 (q := 1030) dL_law_1029 rfl rfl rfl ?_
  refine v_callVi F (kX5_leave hst (k := k) (h := h) (S := S) (Z := Z) hI.1.1) rfl gL_law_X5_leave rfl hdX5_leave ⟨Nat.le_of_ble_eq_true rfl, Nat.le_of_ble_eq_true rfl⟩ 0 cw_at0 rfl rfl rfl (Nat.le_of_ble_eq_true rfl) ⟨by show c + 720 + 0 ≤ 600104; omega, by show n + 4300 + 0 ≤ 7301314; omega⟩ (q := 1033) dL_law_1030 rfl ?_
  rintro a_1 _ ⟨rfl, h_1⟩
  refine v_weq (w9 := cw k h (sLeave S) Z ++ [(tl, aI k (mcn S) ln), (te, aI k (mcn S) le), (ts, aI k (tcn S) sa)]) rfl ?_
  have h_1 := vB_bI h_1
  refine v_cast (b := bI (leaB S)) h_1 ?_
  have b_1 := bI_bd (leaB S)
  refine v_iload F 4 (q := 1035) dL_law_1033 rfl rfl ?_
  refine v_if_eq F (tgt := 1047) (q := 1038) (by omega) dL_law_1035 rfl rfl (fun h_2 => ?_) (fun h_2 => ?_)
  · refine v_const F (q := 1048) dL_law_1047 rfl ?_
    refine v_icmp_eq F (tgt := 1207) (q := 1051) (by omega) R32_0 dL_law_1048 rfl rfl (fun h_3 => ?_) (fun h_3 => ?_)
    · refine v_sub [5, 10, 12, 13, 15, 16, 17] rfl ?_
      refine v_widen (c' := c + 800) (n' := n + 4900) (by first | omega | (dsimp only; omega)) (by first | omega | (dsimp only; omega)) ?_
      exact kk _ Z hJ p7 p8 p9
    · exfalso
      omega
  · refine v_iload F 3 (q := 1040) dL_law_1038 rfl rfl ?_
    have K_4 : ∀ z_4 : Int, ((z_4 = 1 ∧ ¬ (gg = 0)) ∨ (z_4 = 0 ∧ gg = 0)) → V XX (cw k h (sLeave S) Z ++ [(tl, aI k (mcn S) ln), (te, aI k (mcn S) le), (ts, aI k (tcn S) sa)]) (c + 720) (n + 4300) 1048 [(22, VI (S 0 12)), (21, VI (S 0 11)), (20, VI ff), (19, VI gg), (18, VI ii), (17, .ref (ts)), (13, .ref (tl)), (12, VI fa), (11, VI fs), (10, VI fw), (7, VI k9), (6, VI t9), (5, VI (S 0 8)), (4, VI (S 0 7)), (3, VI x9), (2, VI ((ti : Nat) : Int)), (1, .ref (h 0)), (0, .ref (b))] [VI z_4, VI (bI (leaB S))] := by
      intro z_4 hz_4
      refine v_icmp_eq F (tgt := 1207) (q := 1051) (by omega) (by omega) dL_law_1048 rfl rfl (fun h_5 => ?_) (fun h_5 => ?_)
      · refine v_sub [5, 10, 12, 13, 15, 16, 17] rfl ?_
        refine v_widen (c' := c + 800) (n' := n + 4900) (by first | omega | (dsimp only; omega)) (by first | omega | (dsimp only; omega)) ?_
        exact kk _ Z hJ p7 p8 p9
      · exfalso
        omega
    refine v_if_eq F (tgt := 1047) (q := 1043) (by omega) dL_law_1040 rfl rfl (fun h_4 => ?_) (fun h_4 => ?_)
    · refine v_const F (q := 1048) dL_law_1047 rfl ?_
      exact K_4 0 (Or.inr ⟨rfl, h_4⟩)
    · refine v_const F (q := 1044) dL_law_1043 rfl ?_
      refine v_goto F (tgt := 1048) dL_law_1044 rfl ?_
      exact K_4 1 (Or.inl ⟨rfl, h_4⟩)
set_option maxRecDepth 100000 in
set_option maxHeartbeats 4000000 in
theorem sgF6 {XX : vX} {l : Launch} {k : Nat → ClassId} {nm9 : String} (F : v_F XX l k ⟨RL, nm9, "([I)Z"⟩ code 28 wsL_law room_1) (hst : l.stackTraces = false) {b L : Nat} {xs : Nat → Int32} (hX : va_X b L xs XX.1.2.2.2.2 XX.1.2.2.2.2.heap) (hbl : b < XX.1.2.2.2.2.heap.size) (hbA : ¬ XX.2.2.2.2 b) (hL : L ≤ 2560) {h : Nat → Nat} {S Z : Nat → Nat → Int} (hI : Inv3 S) {c n : Nat} (hc : c + 2000 ≤ 600104) (hn : n + 12000 ≤ 7301314) {ti : Nat} (hti : ti < 40) {x9 t9 k9 fw fs fa : Int} (hx9 : R32 x9) (ht9 : 0 ≤ t9 ∧ t9 < max 1 (S 0 8)) (hk9 : 0 ≤ k9 ∧ k9 < max 1 (S 0 7)) (hfw : FewP S (cS S) fw ∧ -1 ≤ fw ∧ fw ≤ 1000) (hfs : FstP S (cS S) fs) (hfa : FallsP S fa) {tl te : Nat} {ln le : Nat → Int} (hln : ∀ j, j < mcn S → ln j = S 4 j) (hle : ∀ j, j < mcn S → LeaP S (cS S) j (le j)) {ts : Nat} {sa : Nat → Int} (hsa : ∀ j, j < tcn S → sa j = S 8 j) {ii gg ff : Int} (hii : (ii = 1 ∧ S 0 9 = 1) ∨ (ii = 0 ∧ ¬ S 0 9 = 1)) (hgg : (gg = 1 ∧ goesB S = true) ∨ (gg = 0 ∧ goesB S = false)) (hff : (ff = 1 ∧ fitsB S (S 4) = true) ∨ (ff = 0 ∧ fitsB S (S 4) = false)) (kk : ∀ (S' Z' : Nat → Nat → Int), Inv3 S' → S' 0 7 = S 0 7 → S' 0 8 = S 0 8 → (∀ j, S 8 j = 2 → S' 8 j = 2) → V XX (cw k h S' Z' ++ [(tl, aI k (mcn S) ln), (te, aI k (mcn S) le), (ts, aI k (tcn S) sa)]) (c + 800) (n + 4900) 1207 [(17, .ref (ts)), (7, VI k9), (5, VI (S 0 8)), (4, VI (S 0 7)), (2, VI ((ti : Nat) : Int)), (1, .ref (h 0)), (0, .ref (b))] []) : V XX (cw k h S Z ++ [(tl, aI k (mcn S) ln), (te, aI k (mcn S) le), (ts, aI k (tcn S) sa)]) (c + 720) (n + 4300) 1053 [(22, VI (S 0 12)), (21, VI (S 0 11)), (20, VI ff), (19, VI gg), (18, VI ii), (17, .ref (ts)), (13, .ref (tl)), (12, VI fa), (11, VI fs), (10, VI fw), (7, VI k9), (6, VI t9), (5, VI (S 0 8)), (4, VI (S 0 7)), (3, VI x9), (2, VI ((ti : Nat) : Int)), (1, .ref (h 0)), (0, .ref (b))] [] := by
  have hmz := mcn_z hI.1.1
  have htz := tcn_z hI.1.1
  have hmc := hI.1.1.mc
  have hcc := hI.1.1.cc
  refine v_const F (q := 1054) dL_law_1053 rfl ?_
  refine v_istore F (q := 1056) [(23, VI 0), (22, VI (S 0 12)), (21, VI (S 0 11)), (20, VI ff), (19, VI gg), (18, VI ii), (17, .ref (ts)), (13, .ref (tl)), (12, VI fa), (11, VI fs), (10, VI fw), (7, VI k9), (6, VI t9), (5, VI (S 0 8)), (4, VI (S 0 7)), (3, VI x9), (2, VI ((ti : Nat) : Int)), (1, .ref (h 0)), (0, .ref (b))] dL_law_1054 (by decide) rfl rfl ?_
  refine v_const F (q := 1057) dL_law_1056 rfl ?_
  refine v_istore F (q := 1059) [(24, VI 0), (23, VI 0), (22, VI (S 0 12)), (21, VI (S 0 11)), (20, VI ff), (19, VI gg), (18, VI ii), (17, .ref (ts)), (13, .ref (tl)), (12, VI fa), (11, VI fs), (10, VI fw), (7, VI k9), (6, VI t9), (5, VI (S 0 8)), (4, VI (S 0 7)), (3, VI x9), (2, VI ((ti : Nat) : Int)), (1, .ref (h 0)), (0, .ref (b))] dL_law_1057 (by decide) rfl rfl ?_
  have L1059_1 : ∀ (fu : Nat) (fl : Int) (i : Nat), ((i : Int) ≤ S 0 7 ∧ fl = cnt (fun m => decide (S 4 m = 9)) i) → (S 0 7 - i).toNat < fu → V XX (cw k h S Z ++ [(tl, aI k (mcn S) ln), (te, aI k (mcn S) le), (ts, aI k (tcn S) sa)]) (c + 720) (n + 4300) 1059 [(24, VI ((i : Nat) : Int)), (23, VI fl), (22, VI (S 0 12)), (21, VI (S 0 11)), (20, VI ff), (19, VI gg), (18, VI ii), (17, .ref (ts)), (13, .ref (tl)), (12, VI fa), (11, VI fs), (10, VI fw), (7, VI k9), (6, VI t9), (5, VI (S 0 8)), (4, VI (S 0 7)), (3, VI x9), (2, VI ((ti : Nat) : Int)), (1, .ref (h 0)), (0, .ref (b))] [] := by
    intro fu_1059
    induction fu_1059 with
    | zero => intros; omega
    | succ fu_1059 ih_1059 =>
      intro fl i hv hm_1059
      obtain ⟨hv1, hv2⟩ := hv
      have hli := hI.1.1.lean i
      have hcn := cnt_nn (fun m => decide (S 4 m = 9)) i
      refine v_iload F 0 (q := 1061) dL_law_1059 rfl rfl ?_
      refine v_iload F 15 (q := 1063) dL_law_1061 rfl rfl ?_
      refine v_icmp_ge F (tgt := 1092) (q := 1066) (by omega) (by omega) dL_law_1063 rfl rfl (fun h_2 => ?_) (fun h_2 => ?_)
      · have hfl : fl = cnt (fun m => decide (S 4 m = 9)) (mcn S) := by rw [hv2, show i = mcn S from by omega]
        refine v_aload_n F 18 (q := 1093) dL_law_1092 rfl rfl rfl ?_
        refine v_const F (q := 1094) dL_law_1093 rfl ?_
        have e_3 : ePass 1 = 0 := by unfold ePass; rw [if_pos (by omega)]
        refine v_callVt F (kX5_pass hst (k := k) (h := h) (S := S) (Z := Z) hI.1.1 (a0 := 1) (by omega)) rfl gL_law_X5_pass rfl hdX5_pass ⟨Nat.le_of_ble_eq_true rfl, Nat.le_of_ble_eq_true rfl⟩ 0 cw_at0 rfl rfl rfl (Nat.le_of_ble_eq_true rfl) ⟨by show c + 720 + 1 ≤ 600104; omega, by show n + 4300 + 6 ≤ 7301314; omega⟩ (q := 1097) dL_law_1094 rfl (fun E9 u9 h9 => absurd h9.2.1 (by rw [e_3]; decide)) ?_
        rintro a_3 _ ⟨rfl, -, h_3⟩
        refine v_weq (w9 := cw k h (sPass S 1) Z ++ [(tl, aI k (mcn S) ln), (te, aI k (mcn S) le), (ts, aI k (tcn S) sa)]) rfl ?_
        have hJ : Inv3 (sPass S 1) := inv3_sPass hI _
        obtain ⟨q1, q2, p7, p8, q3⟩ := pas_f hI.1.1
        have hr : a_3 = rPass S 1 := h_3
        rw [q2] at hr
        have p9 : ∀ j, S 8 j = 2 → sPass S 1 8 j = 2 := fun j hj => (q3 j).trans hj
        have hca := cnt_nn (fun m => decide (S 4 m = 9)) (mcn S)
        have hcb := cnt_nn (fun m => decide (sPass S 1 4 m = 9)) (mcn S)
        refine v_istore F (q := 1099) [(24, VI a_3), (23, VI fl), (22, VI (S 0 12)), (21, VI (S 0 11)), (20, VI ff), (19, VI gg), (18, VI ii), (17, .ref (ts)), (13, .ref (tl)), (12, VI fa), (11, VI fs), (10, VI fw), (7, VI k9), (6, VI t9), (5, VI (S 0 8)), (4, VI (S 0 7)), (3, VI x9), (2, VI ((ti : Nat) : Int)), (1, .ref (h 0)), (0, .ref (b))] dL_law_1097 (by decide) rfl rfl ?_
        refine v_const F (q := 1100) dL_law_1099 rfl ?_
        refine v_istore F (q := 1102) [(25, VI 0), (24, VI a_3), (23, VI fl), (22, VI (S 0 12)), (21, VI (S 0 11)), (20, VI ff), (19, VI gg), (18, VI ii), (17, .ref (ts)), (13, .ref (tl)), (12, VI fa), (11, VI fs), (10, VI fw), (7, VI k9), (6, VI t9), (5, VI (S 0 8)), (4, VI (S 0 7)), (3, VI x9), (2, VI ((ti : Nat) : Int)), (1, .ref (h 0)), (0, .ref (b))] dL_law_1100 (by decide) rfl rfl ?_
        refine v_const F (q := 1103) dL_law_1102 rfl ?_
        refine v_istore F (q := 1105) [(26, VI 0), (25, VI 0), (24, VI a_3), (23, VI fl), (22, VI (S 0 12)), (21, VI (S 0 11)), (20, VI ff), (19, VI gg), (18, VI ii), (17, .ref (ts)), (13, .ref (tl)), (12, VI fa), (11, VI fs), (10, VI fw), (7, VI k9), (6, VI t9), (5, VI (S 0 8)), (4, VI (S 0 7)), (3, VI x9), (2, VI ((ti : Nat) : Int)), (1, .ref (h 0)), (0, .ref (b))] dL_law_1103 (by decide) rfl rfl ?_
        have L1105_4 : ∀ (fu : Nat) (nw : Int) (i2 : Nat), ((i2 : Int) ≤ S 0 7 ∧ nw = cnt (fun m => decide (sPass S 1 4 m = 9)) i2) → (S 0 7 - i2).toNat < fu → V XX (cw k h (sPass S 1) Z ++ [(tl, aI k (mcn S) ln), (te, aI k (mcn S) le), (ts, aI k (tcn S) sa)]) (c + 722 + 3 * i2) (n + 4312 + 18 * i2) 1105 [(26, VI ((i2 : Nat) : Int)), (25, VI nw), (24, VI a_3), (23, VI fl), (22, VI (S 0 12)), (21, VI (S 0 11)), (20, VI ff), (19, VI gg), (18, VI ii), (17, .ref (ts)), (13, .ref (tl)), (12, VI fa), (11, VI fs), (10, VI fw), (7, VI k9), (6, VI t9), (5, VI (S 0 8)), (4, VI (S 0 7)), (3, VI x9), (2, VI ((ti : Nat) : Int)), (1, .ref (h 0)), (0, .ref (b))] [] := by
          intro fu_1105
          induction fu_1105 with
          | zero => intros; omega
          | succ fu_1105 ih_1105 =>
            intro nw i2 hw hm_1105
            obtain ⟨hw1, hw2⟩ := hw
            have hli := hI.1.1.lean i2
            have hpi := fun q => q1 i2 q
            have hcn2 := cnt_nn (fun m => decide (sPass S 1 4 m = 9)) i2
            refine v_iload F 0 (q := 1107) dL_law_1105 rfl rfl ?_
            refine v_iload F 17 (q := 1109) dL_law_1107 rfl rfl ?_
            refine v_icmp_ge F (tgt := 1174) (q := 1112) (by omega) (by omega) dL_law_1109 rfl rfl (fun h_5 => ?_) (fun h_5 => ?_)
            · have hnw : nw = cnt (fun m => decide (sPass S 1 4 m = 9)) (mcn S) := by rw [hw2, show i2 = mcn S from by omega]
              have hfb := fal_bd hfa
              refine v_iload F 2 (q := 1176) dL_law_1174 rfl rfl ?_
              refine v_iload F 1 (q := 1178) dL_law_1176 rfl rfl ?_
              refine v_iload F 3 (q := 1180) dL_law_1178 rfl rfl ?_
              refine v_isub F (q := 1181) dL_law_1180 rfl ?_
              refine v_icmp_ne F (tgt := 1205) (q := 1184) (by omega) (by omega) dL_law_1181 rfl rfl (fun h_6 => ?_) (fun h_6 => ?_)
              · exfalso
                omega
              · refine v_aload_n F 20 (q := 1185) dL_law_1184 rfl rfl rfl ?_
                refine v_callVi F (kX5_falls hst (k := k) (h := h) (S := (sPass S 1)) (Z := Z) hJ.1.1) rfl gL_law_X5_falls rfl hdX5_falls ⟨Nat.le_of_ble_eq_true rfl, Nat.le_of_ble_eq_true rfl⟩ 0 cw_at0 rfl rfl rfl (Nat.le_of_ble_eq_true rfl) ⟨by show c + 722 + 3 * i2 + 0 ≤ 600104; omega, by show n + 4312 + 18 * i2 + 0 ≤ 7301314; omega⟩ (q := 1188) dL_law_1185 rfl ?_
                rintro a_7 _ ⟨rfl, h_7⟩
                have b_7 := fal_bd h_7
                have hps : (0 < fa → a_7 = fa - 1) ∧ (¬ 0 < fa → a_7 = fa) := ⟨fun z9 => by rw [fal_ps hI.1.1 hfa h_7, if_pos z9], fun z9 => by rw [fal_ps hI.1.1 hfa h_7, if_neg z9]⟩
                refine v_iload F 11 (q := 1190) dL_law_1188 rfl rfl ?_
                refine v_if_le F (tgt := 1200) (q := 1193) (by omega) dL_law_1190 rfl rfl (fun h_8 => ?_) (fun h_8 => ?_)
                · refine v_iload F 11 (q := 1202) dL_law_1200 rfl rfl ?_
                  refine v_icmp_eq F (tgt := 1207) (q := 1205) (by omega) (by omega) dL_law_1202 rfl rfl (fun h_9 => ?_) (fun h_9 => ?_)
                  · refine v_sub [9, 14, 16, 17, 19, 20, 21] rfl ?_
                    refine v_widen (c' := c + 800) (n' := n + 4900) (by first | omega | (dsimp only; omega)) (by first | omega | (dsimp only; omega)) ?_
                    exact kk _ Z hJ p7 p8 p9
                  · exfalso
                    omega
                · refine v_iload F 11 (q := 1195) dL_law_1193 rfl rfl ?_
                  refine v_const F (q := 1196) dL_law_1195 rfl ?_
                  refine v_isub F (q := 1197) dL_law_1196 rfl ?_
                  refine v_goto F (tgt := 1202) dL_law_1197 rfl ?_
                  refine v_icmp_eq F (tgt := 1207) (q := 1205) (by omega) (by omega) dL_law_1202 rfl rfl (fun h_10 => ?_) (fun h_10 => ?_)
                  · refine v_sub [9, 14, 16, 17, 19, 20, 21] rfl ?_
                    refine v_widen (c' := c + 800) (n' := n + 4900) (by first | omega | (dsimp only; omega)) (by first | omega | (dsimp only; omega)) ?_
                    exact kk _ Z hJ p7 p8 p9
                  · exfalso
                    omega
            · refine v_iload F 1 (q := 1114) dL_law_1112 rfl rfl ?_
              refine v_aload_n F 20 (q := 1115) dL_law_1114 rfl rfl rfl ?_
              refine v_iload F 0 (q := 1117) dL_law_1115 rfl rfl ?_
              refine v_const F (q := 1118) dL_law_1117 rfl ?_
              have e_11 : eMast (sPass S 1) ((i2 : Nat) : Int) 2 = 0 := by unfold eMast; rw [if_pos (by omega)]
              refine v_callVt F (kX5_mast hst (k := k) (h := h) (S := (sPass S 1)) (Z := Z) hJ.1.1 (a0 := ((i2 : Nat) : Int)) (a1 := 2) (by omega) (by omega)) rfl gL_law_X5_mast rfl hdX5_mast ⟨Nat.le_of_ble_eq_true rfl, Nat.le_of_ble_eq_true rfl⟩ 0 cw_at0 rfl rfl rfl (Nat.le_of_ble_eq_true rfl) ⟨by show c + 722 + 3 * i2 + 1 ≤ 600104; omega, by show n + 4312 + 18 * i2 + 6 ≤ 7301314; omega⟩ (q := 1121) dL_law_1118 rfl (fun E9 u9 h9 => absurd h9.2.1 (by rw [e_11]; decide)) ?_
              rintro a_11 _ ⟨rfl, -, h_11⟩
              refine v_cast (b := (sPass S 1) 4 i2) (h_11.trans (mv2 _ _)) ?_
              have b_11 := hJ.1.1.lean i2
              refine v_bipush F (q := 1123) dL_law_1121 rfl rfl ?_
              have K_12 : ∀ z_12 : Int, ((z_12 = 1 ∧ ((sPass S 1) 4 i2) = 9) ∨ (z_12 = 0 ∧ ¬ ((sPass S 1) 4 i2) = 9)) → V XX (cw k h (sPass S 1) Z ++ [(tl, aI k (mcn S) ln), (te, aI k (mcn S) le), (ts, aI k (tcn S) sa)]) (c + 722 + 3 * i2 + 1) (n + 4312 + 18 * i2 + 6) 1131 [(26, VI ((i2 : Nat) : Int)), (25, VI nw), (24, VI a_3), (23, VI fl), (22, VI (S 0 12)), (21, VI (S 0 11)), (20, VI ff), (19, VI gg), (18, VI ii), (17, .ref (ts)), (13, .ref (tl)), (12, VI fa), (11, VI fs), (10, VI fw), (7, VI k9), (6, VI t9), (5, VI (S 0 8)), (4, VI (S 0 7)), (3, VI x9), (2, VI ((ti : Nat) : Int)), (1, .ref (h 0)), (0, .ref (b))] [VI z_12, VI nw] := by
                intro z_12 hz_12
                refine v_iadd F (q := 1132) dL_law_1131 rfl ?_
                refine v_istore F (q := 1134) [(25, VI (nw + z_12)), (26, VI ((i2 : Nat) : Int)), (24, VI a_3), (23, VI fl), (22, VI (S 0 12)), (21, VI (S 0 11)), (20, VI ff), (19, VI gg), (18, VI ii), (17, .ref (ts)), (13, .ref (tl)), (12, VI fa), (11, VI fs), (10, VI fw), (7, VI k9), (6, VI t9), (5, VI (S 0 8)), (4, VI (S 0 7)), (3, VI x9), (2, VI ((ti : Nat) : Int)), (1, .ref (h 0)), (0, .ref (b))] dL_law_1132 (by decide) rfl rfl ?_
                refine v_aload_n F 20 (q := 1135) dL_law_1134 rfl rfl rfl ?_
                refine v_iload F 1 (q := 1137) dL_law_1135 rfl rfl ?_
                refine v_const F (q := 1138) dL_law_1137 rfl ?_
                have e_13 : eMast (sPass S 1) ((i2 : Nat) : Int) 2 = 0 := by unfold eMast; rw [if_pos (by omega)]
                refine v_callVt F (kX5_mast hst (k := k) (h := h) (S := (sPass S 1)) (Z := Z) hJ.1.1 (a0 := ((i2 : Nat) : Int)) (a1 := 2) (by omega) (by omega)) rfl gL_law_X5_mast rfl hdX5_mast ⟨Nat.le_of_ble_eq_true rfl, Nat.le_of_ble_eq_true rfl⟩ 0 cw_at0 rfl rfl rfl (Nat.le_of_ble_eq_true rfl) ⟨by show c + 722 + 3 * i2 + 1 + 1 ≤ 600104; omega, by show n + 4312 + 18 * i2 + 6 + 6 ≤ 7301314; omega⟩ (q := 1141) dL_law_1138 rfl (fun E9 u9 h9 => absurd h9.2.1 (by rw [e_13]; decide)) ?_
                rintro a_13 _ ⟨rfl, -, h_13⟩
                refine v_cast (b := (sPass S 1) 4 i2) (h_13.trans (mv2 _ _)) ?_
                have b_13 := hJ.1.1.lean i2
                refine v_aload F 10 (q := 1143) dL_law_1141 rfl rfl ?_
                refine v_iload F 1 (q := 1145) dL_law_1143 rfl rfl ?_
                refine v_iald F (j := i2) 28 rfl rfl (by omega) (by omega) (q := 1146) dL_law_1145 rfl ?_
                refine v_cast (b := S 4 i2) (hln i2 (by omega)) ?_
                refine v_icmp_lt F (tgt := 1166) (q := 1149) (by omega) (by omega) dL_law_1146 rfl rfl (fun h_14 => ?_) (fun h_14 => ?_)
                · exfalso
                  omega
                · refine v_aload_n F 20 (q := 1150) dL_law_1149 rfl rfl rfl ?_
                  refine v_iload F 1 (q := 1152) dL_law_1150 rfl rfl ?_
                  refine v_const F (q := 1153) dL_law_1152 rfl ?_
                  have e_15 : eMast (sPass S 1) ((i2 : Nat) : Int) 2 = 0 := by unfold eMast; rw [if_pos (by omega)]
                  refine v_callVt F (kX5_mast hst (k := k) (h := h) (S := (sPass S 1)) (Z := Z) hJ.1.1 (a0 := ((i2 : Nat) : Int)) (a1 := 2) (by omega) (by omega)) rfl gL_law_X5_mast rfl hdX5_mast ⟨Nat.le_of_ble_eq_true rfl, Nat.le_of_ble_eq_true rfl⟩ 0 cw_at0 rfl rfl rfl (Nat.le_of_ble_eq_true rfl) ⟨by show c + 722 + 3 * i2 + 1 + 1 + 1 ≤ 600104; omega, by show n + 4312 + 18 * i2 + 6 + 6 + 6 ≤ 7301314; omega⟩ (q := 1156) dL_law_1153 rfl (fun E9 u9 h9 => absurd h9.2.1 (by rw [e_15]; decide)) ?_
                  rintro a_15 _ ⟨rfl, -, h_15⟩
                  refine v_cast (b := (sPass S 1) 4 i2) (h_15.trans (mv2 _ _)) ?_
                  have b_15 := hJ.1.1.lean i2
                  refine v_aload F 10 (q := 1158) dL_law_1156 rfl rfl ?_
                  refine v_iload F 1 (q := 1160) dL_law_1158 rfl rfl ?_
                  refine v_iald F (j := i2) 28 rfl rfl (by omega) (by omega) (q := 1161) dL_law_1160 rfl ?_
                  refine v_cast (b := S 4 i2) (hln i2 (by omega)) ?_
                  refine v_const F (q := 1162) dL_law_1161 rfl ?_
                  refine v_iadd F (q := 1163) dL_law_1162 rfl ?_
                  refine v_icmp_le F (tgt := 1168) (q := 1166) (by omega) (by omega) dL_law_1163 rfl rfl (fun h_16 => ?_) (fun h_16 => ?_)
                  · refine v_iinc F (q := 1171) (z := ((i2 + 1 : Nat) : Int)) 1 [(26, VI ((i2 + 1 : Nat) : Int)), (25, VI (nw + z_12)), (24, VI a_3), (23, VI fl), (22, VI (S 0 12)), (21, VI (S 0 11)), (20, VI ff), (19, VI gg), (18, VI ii), (17, .ref (ts)), (13, .ref (tl)), (12, VI fa), (11, VI fs), (10, VI fw), (7, VI k9), (6, VI t9), (5, VI (S 0 8)), (4, VI (S 0 7)), (3, VI x9), (2, VI ((ti : Nat) : Int)), (1, .ref (h 0)), (0, .ref (b))] dL_law_1168 rfl (by decide) (by omega) rfl rfl ?_
                    refine v_goto F (tgt := 1105) dL_law_1171 rfl ?_
                    refine v_widen (c' := c + 722 + 3 * (i2 + 1)) (n' := n + 4312 + 18 * (i2 + 1)) (by first | omega | (dsimp only; omega)) (by first | omega | (dsimp only; omega)) ?_
                    exact ih_1105 (nw + z_12) (i2 + 1) (by exact ⟨by omega, by rw [fl_s (sPass S 1 4) i2 hz_12, hw2]⟩) (by omega)
                  · exfalso
                    omega
              refine v_icmp_ne F (tgt := 1130) (q := 1126) (by omega) (by omega) dL_law_1123 rfl rfl (fun h_12 => ?_) (fun h_12 => ?_)
              · refine v_const F (q := 1131) dL_law_1130 rfl ?_
                exact K_12 0 (Or.inr ⟨rfl, h_12⟩)
              · refine v_const F (q := 1127) dL_law_1126 rfl ?_
                refine v_goto F (tgt := 1131) dL_law_1127 rfl ?_
                exact K_12 1 (Or.inl ⟨rfl, h_12⟩)
        refine v_widen (c' := c + 722 + 3 * 0) (n' := n + 4312 + 18 * 0) (by first | omega | (dsimp only; omega)) (by first | omega | (dsimp only; omega)) ?_
        exact L1105_4 _ 0 0 (by exact ⟨by omega, rfl⟩) (Nat.lt_succ_self _)
      · refine v_iload F 1 (q := 1068) dL_law_1066 rfl rfl ?_
        refine v_aload F 8 (q := 1070) dL_law_1068 rfl rfl ?_
        refine v_iload F 0 (q := 1072) dL_law_1070 rfl rfl ?_
        refine v_iald F (j := i) 28 rfl rfl (by omega) (by omega) (q := 1073) dL_law_1072 rfl ?_
        refine v_cast (b := S 4 i) (hln i (by omega)) ?_
        refine v_bipush F (q := 1075) dL_law_1073 rfl rfl ?_
        have K_17 : ∀ z_17 : Int, ((z_17 = 1 ∧ (S 4 i) = 9) ∨ (z_17 = 0 ∧ ¬ (S 4 i) = 9)) → V XX (cw k h S Z ++ [(tl, aI k (mcn S) ln), (te, aI k (mcn S) le), (ts, aI k (tcn S) sa)]) (c + 720) (n + 4300) 1083 [(24, VI ((i : Nat) : Int)), (23, VI fl), (22, VI (S 0 12)), (21, VI (S 0 11)), (20, VI ff), (19, VI gg), (18, VI ii), (17, .ref (ts)), (13, .ref (tl)), (12, VI fa), (11, VI fs), (10, VI fw), (7, VI k9), (6, VI t9), (5, VI (S 0 8)), (4, VI (S 0 7)), (3, VI x9), (2, VI ((ti : Nat) : Int)), (1, .ref (h 0)), (0, .ref (b))] [VI z_17, VI fl] := by
          intro z_17 hz_17
          refine v_iadd F (q := 1084) dL_law_1083 rfl ?_
          refine v_istore F (q := 1086) [(23, VI (fl + z_17)), (24, VI ((i : Nat) : Int)), (22, VI (S 0 12)), (21, VI (S 0 11)), (20, VI ff), (19, VI gg), (18, VI ii), (17, .ref (ts)), (13, .ref (tl)), (12, VI fa), (11, VI fs), (10, VI fw), (7, VI k9), (6, VI t9), (5, VI (S 0 8)), (4, VI (S 0 7)), (3, VI x9), (2, VI ((ti : Nat) : Int)), (1, .ref (h 0)), (0, .ref (b))] dL_law_1084 (by decide) rfl rfl ?_
          refine v_iinc F (q := 1089) (z := ((i + 1 : Nat) : Int)) 1 [(24, VI ((i + 1 : Nat) : Int)), (23, VI (fl + z_17)), (22, VI (S 0 12)), (21, VI (S 0 11)), (20, VI ff), (19, VI gg), (18, VI ii), (17, .ref (ts)), (13, .ref (tl)), (12, VI fa), (11, VI fs), (10, VI fw), (7, VI k9), (6, VI t9), (5, VI (S 0 8)), (4, VI (S 0 7)), (3, VI x9), (2, VI ((ti : Nat) : Int)), (1, .ref (h 0)), (0, .ref (b))] dL_law_1086 rfl (by decide) (by omega) rfl rfl ?_
          refine v_goto F (tgt := 1059) dL_law_1089 rfl ?_
          refine v_widen (c' := c + 720) (n' := n + 4300) (by first | omega | (dsimp only; omega)) (by first | omega | (dsimp only; omega)) ?_
          exact ih_1059 (fl + z_17) (i + 1) (by exact ⟨by omega, by rw [fl_s (S 4) i hz_17, hv2]⟩) (by omega)
        refine v_icmp_ne F (tgt := 1082) (q := 1078) (by omega) (by omega) dL_law_1075 rfl rfl (fun h_17 => ?_) (fun h_17 => ?_)
        · refine v_const F (q := 1083) dL_law_1082 rfl ?_
          exact K_17 0 (Or.inr ⟨rfl, h_17⟩)
        · refine v_const F (q := 1079) dL_law_1078 rfl ?_
          refine v_goto F (tgt := 1083) dL_law_1079 rfl ?_
          exact K_17 1 (Or.inl ⟨rfl, h_17⟩)
  exact L1059_1 _ 0 0 (by exact ⟨by omega, rfl⟩) (Nat.lt_succ_self _)
set_option maxRecDepth 100000 in
set_option maxHeartbeats 4000000 in
theorem sgG {XX : vX} {l : Launch} {k : Nat → ClassId} {nm9 : String} (F : v_F XX l k ⟨RL, nm9, "([I)Z"⟩ code 28 wsL_law room_1) (hst : l.stackTraces = false) {b L : Nat} {xs : Nat → Int32} (hX : va_X b L xs XX.1.2.2.2.2 XX.1.2.2.2.2.heap) (hbl : b < XX.1.2.2.2.2.heap.size) (hbA : ¬ XX.2.2.2.2 b) (hL : L ≤ 2560) {h : Nat → Nat} {S Z : Nat → Nat → Int} (hI : Inv3 S) {c n : Nat} (hc : c + 2000 ≤ 600104) (hn : n + 12000 ≤ 7301314) {ti : Nat} (hti : ti < 40) {tM tT k9 : Int} (hM : S 0 7 = tM) (hT : S 0 8 = tT) (hk9 : 0 ≤ k9 ∧ k9 < max 1 tM) {tl te ts NM NT : Nat} (hNT : (NT : Int) = tT) {ln le sa : Nat → Int} (hsa : ∀ j : Nat, j < NT → 0 ≤ sa j ∧ sa j ≤ 2 ∧ (sa j = 2 → S 8 j = 2)) (kk : V XX (cw k h S Z) (c + 2000) (n + 12000) 1280 [(2, VI ((ti : Nat) : Int)), (1, .ref (h 0)), (0, .ref (b))] []) : V XX (cw k h S Z ++ [(tl, aI k NM ln), (te, aI k NM le), (ts, aI k NT sa)]) (c + 800) (n + 4900) 1207 [(17, .ref (ts)), (7, VI k9), (5, VI tT), (4, VI tM), (2, VI ((ti : Nat) : Int)), (1, .ref (h 0)), (0, .ref (b))] [] := by
  have hmz := mcn_z hI.1.1
  have htz := tcn_z hI.1.1
  have hmc := hI.1.1.mc
  have hcc := hI.1.1.cc
  refine v_const F (q := 1208) dL_law_1207 rfl ?_
  refine v_istore F (q := 1210) [(23, VI 0), (17, .ref (ts)), (7, VI k9), (5, VI tT), (4, VI tM), (2, VI ((ti : Nat) : Int)), (1, .ref (h 0)), (0, .ref (b))] dL_law_1208 (by decide) rfl rfl ?_
  have L1210_1 : ∀ (fu : Nat) (i : Nat), ((i : Int) ≤ tT) → (tT - i).toNat < fu → V XX (cw k h S Z ++ [(tl, aI k NM ln), (te, aI k NM le), (ts, aI k NT sa)]) (c + 800 + i) (n + 4900 + 6 * i) 1210 [(23, VI ((i : Nat) : Int)), (17, .ref (ts)), (7, VI k9), (5, VI tT), (4, VI tM), (2, VI ((ti : Nat) : Int)), (1, .ref (h 0)), (0, .ref (b))] [] := by
    intro fu_1210
    induction fu_1210 with
    | zero => intros; omega
    | succ fu_1210 ih_1210 =>
      intro i hv1 hm_1210
      have hsi := fun q => hsa i q
      refine v_iload F 0 (q := 1212) dL_law_1210 rfl rfl ?_
      refine v_iload F 3 (q := 1214) dL_law_1212 rfl rfl ?_
      refine v_icmp_ge F (tgt := 1245) (q := 1217) (by omega) (by omega) dL_law_1214 rfl rfl (fun h_2 => ?_) (fun h_2 => ?_)
      · refine v_aload_n F 6 (q := 1246) dL_law_1245 rfl rfl rfl ?_
        refine v_const F (q := 1247) dL_law_1246 rfl ?_
        have e_3 : eCnt 1 = 0 := by unfold eCnt; rw [if_pos (by omega)]
        refine v_callVt F (kX5_count hst (k := k) (h := h) (S := S) (Z := Z) hI.1.1 (a0 := 1) (by omega)) rfl gL_law_X5_count rfl hdX5_count ⟨Nat.le_of_ble_eq_true rfl, Nat.le_of_ble_eq_true rfl⟩ 0 cw_at0 rfl rfl rfl (Nat.le_of_ble_eq_true rfl) ⟨by show c + 800 + i + 1 ≤ 600104; omega, by show n + 4900 + 6 * i + 6 ≤ 7301314; omega⟩ (q := 1250) dL_law_1247 rfl (fun E9 u9 h9 => absurd h9.2.1 (by rw [e_3]; decide)) ?_
        rintro a_3 _ ⟨rfl, -, h_3⟩
        refine v_cast (b := S 0 7) (h_3.trans (cv1 _)) ?_
        have b_3 := hI.1.1.mc
        refine v_iload F 4 (q := 1252) dL_law_1250 rfl rfl ?_
        refine v_icmp_ne F (tgt := 1278) (q := 1255) (by omega) (by omega) dL_law_1252 rfl rfl (fun h_4 => ?_) (fun h_4 => ?_)
        · exfalso
          omega
        · refine v_iload F 4 (q := 1257) dL_law_1255 rfl rfl ?_
          refine v_if_le F (tgt := 1280) (q := 1260) (by omega) dL_law_1257 rfl rfl (fun h_5 => ?_) (fun h_5 => ?_)
          · refine v_drop ?_
            refine v_sub [5, 6, 7] rfl ?_
            refine v_widen (c' := c + 2000) (n' := n + 12000) (by first | omega | (dsimp only; omega)) (by first | omega | (dsimp only; omega)) ?_
            exact kk
          · refine v_iload F 2 (q := 1262) dL_law_1260 rfl rfl ?_
            refine v_iload F 4 (q := 1264) dL_law_1262 rfl rfl ?_
            refine v_icmp_ge F (tgt := 1280) (q := 1267) (by omega) (by omega) dL_law_1264 rfl rfl (fun h_6 => ?_) (fun h_6 => ?_)
            · refine v_drop ?_
              refine v_sub [5, 6, 7] rfl ?_
              refine v_widen (c' := c + 2000) (n' := n + 12000) (by first | omega | (dsimp only; omega)) (by first | omega | (dsimp only; omega)) ?_
              exact kk
            · have hyc := hI.1.1.yc k9.toNat
              refine v_aload_n F 6 (q := 1268) dL_law_1267 rfl rfl rfl ?_
              refine v_iload F 2 (q := 1270) dL_law_1268 rfl rfl ?_
              refine v_const F (q := 1271) dL_law_1270 rfl ?_
              have e_7 : eMast S k9 5 = 0 := by unfold eMast; rw [if_pos (by omega)]
              refine v_callVt F (kX5_mast hst (k := k) (h := h) (S := S) (Z := Z) hI.1.1 (a0 := k9) (a1 := 5) (by omega) (by omega)) rfl gL_law_X5_mast rfl hdX5_mast ⟨Nat.le_of_ble_eq_true rfl, Nat.le_of_ble_eq_true rfl⟩ 0 cw_at0 rfl rfl rfl (Nat.le_of_ble_eq_true rfl) ⟨by show c + 800 + i + 1 + 1 ≤ 600104; omega, by show n + 4900 + 6 * i + 6 + 6 ≤ 7301314; omega⟩ (q := 1274) dL_law_1271 rfl (fun E9 u9 h9 => absurd h9.2.1 (by rw [e_7]; decide)) ?_
              rintro a_7 _ ⟨rfl, -, h_7⟩
              refine v_cast (b := S 3 (k9.toNat)) (h_7.trans (mv5 _ _)) ?_
              have b_7 := hI.1.1.yc (k9.toNat)
              refine v_const F (q := 1275) dL_law_1274 rfl ?_
              refine v_icmp_le F (tgt := 1280) (q := 1278) (by omega) (by omega) dL_law_1275 rfl rfl (fun h_8 => ?_) (fun h_8 => ?_)
              · refine v_drop ?_
                refine v_sub [5, 6, 7] rfl ?_
                refine v_widen (c' := c + 2000) (n' := n + 12000) (by first | omega | (dsimp only; omega)) (by first | omega | (dsimp only; omega)) ?_
                exact kk
              · exfalso
                omega
      · have hsj := hsi (by omega)
        refine v_aload F 1 (q := 1219) dL_law_1217 rfl rfl ?_
        refine v_iload F 0 (q := 1221) dL_law_1219 rfl rfl ?_
        refine v_iald F (j := i) 30 rfl rfl (by omega) (by omega) (q := 1222) dL_law_1221 rfl ?_
        refine v_const F (q := 1223) dL_law_1222 rfl ?_
        refine v_icmp_ne F (tgt := 1239) (q := 1226) (by omega) (by omega) dL_law_1223 rfl rfl (fun h_9 => ?_) (fun h_9 => ?_)
        · refine v_iinc F (q := 1242) (z := ((i + 1 : Nat) : Int)) 0 [(23, VI ((i + 1 : Nat) : Int)), (17, .ref (ts)), (7, VI k9), (5, VI tT), (4, VI tM), (2, VI ((ti : Nat) : Int)), (1, .ref (h 0)), (0, .ref (b))] dL_law_1239 rfl (by decide) (by omega) rfl rfl ?_
          refine v_goto F (tgt := 1210) dL_law_1242 rfl ?_
          refine v_widen (c' := c + 800 + (i + 1)) (n' := n + 4900 + 6 * (i + 1)) (by first | omega | (dsimp only; omega)) (by first | omega | (dsimp only; omega)) ?_
          exact ih_1210 (i + 1) (by omega) (by omega)
        · refine v_aload_n F 6 (q := 1227) dL_law_1226 rfl rfl rfl ?_
          refine v_iload F 0 (q := 1229) dL_law_1227 rfl rfl ?_
          refine v_const F (q := 1230) dL_law_1229 rfl ?_
          have e_10 : eThr S ((i : Nat) : Int) 3 = 0 := by unfold eThr; rw [if_pos (by omega)]
          refine v_callVt F (kX5_thread hst (k := k) (h := h) (S := S) (Z := Z) hI.1.1 (a0 := ((i : Nat) : Int)) (a1 := 3) (by omega) (by omega)) rfl gL_law_X5_thread rfl hdX5_thread ⟨Nat.le_of_ble_eq_true rfl, Nat.le_of_ble_eq_true rfl⟩ 0 cw_at0 rfl rfl rfl (Nat.le_of_ble_eq_true rfl) ⟨by show c + 800 + i + 1 ≤ 600104; omega, by show n + 4900 + 6 * i + 6 ≤ 7301314; omega⟩ (q := 1233) dL_law_1230 rfl (fun E9 u9 h9 => absurd h9.2.1 (by rw [e_10]; decide)) ?_
          rintro a_10 _ ⟨rfl, -, h_10⟩
          refine v_cast (b := S 8 i) (h_10.trans (tv3 _ _)) ?_
          have b_10 := hI.1.1.st i
          refine v_const F (q := 1234) dL_law_1233 rfl ?_
          refine v_icmp_eq F (tgt := 1239) (q := 1237) (by omega) (by omega) dL_law_1234 rfl rfl (fun h_11 => ?_) (fun h_11 => ?_)
          · refine v_iinc F (q := 1242) (z := ((i + 1 : Nat) : Int)) 0 [(23, VI ((i + 1 : Nat) : Int)), (17, .ref (ts)), (7, VI k9), (5, VI tT), (4, VI tM), (2, VI ((ti : Nat) : Int)), (1, .ref (h 0)), (0, .ref (b))] dL_law_1239 rfl (by decide) (by omega) rfl rfl ?_
            refine v_goto F (tgt := 1210) dL_law_1242 rfl ?_
            refine v_widen (c' := c + 800 + (i + 1)) (n' := n + 4900 + 6 * (i + 1)) (by first | omega | (dsimp only; omega)) (by first | omega | (dsimp only; omega)) ?_
            exact ih_1210 (i + 1) (by omega) (by omega)
          · exfalso
            omega
  refine v_widen (c' := c + 800 + 0) (n' := n + 4900 + 6 * 0) (by first | omega | (dsimp only; omega)) (by first | omega | (dsimp only; omega)) ?_
  exact L1210_1 _ 0 (by omega) (Nat.lt_succ_self _)
