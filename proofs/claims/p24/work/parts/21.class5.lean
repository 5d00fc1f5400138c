theorem hdJ7_fill_53178 : yJ7_fill_53178.cls ≠ "java/lang/invoke/MethodHandle" ∧ yJ7_fill_53178.cls ≠ "java/lang/invoke/VarHandle" ∧ (parseMethodDescriptor yJ7_fill_53178.desc).map (fun d => d.parameters.length) = some 2 := by decide +kernel
set_option maxRecDepth 100000 in
set_option maxHeartbeats 4000000 in
theorem kJ7_fill_53178 {l : Launch} (hst : l.stackTraces = false) {k : Nat → ClassId} {h : Nat → Nat} {S Z : Nat → Nat → Int} {r : Nat} (hr : r = 5 ∨ r = 6) {v : Int} : v_Cv l k yJ7_fill_53178 wsJ7_fill_53178 ({ frames := 0, cells := 0, slots := 0, locals := 0 } : Room) [.ref (h (21 + r)), VI v] (cw k h S Z) (fun u => u = cw k h S (ur Z r (fillF Z r v 1000))) := by
  refine v_ofV (cc := cJ7_fill_53178) (nL := 4) (by decide +kernel) rfl hst (Nat.le_of_ble_eq_true rfl) (fun XX F ret => ?_)
  show V XX (cw k h S Z) 0 0 0 [(0, .ref (h (21 + r))), (1, VI v)] []
  refine v_const F (q := 1) dJ7_fill_53178_0 rfl ?_
  refine v_istore_n F (q := 2) [(2, VI 0), (0, .ref (h (21 + r))), (1, VI v)] dJ7_fill_53178_1 rfl (by decide) rfl rfl ?_
  refine v_aload_n F 1 (q := 3) dJ7_fill_53178_2 rfl rfl rfl ?_
  refine v_alen F (N := 1000) (21 + r) (cw_so r hr) (by decide) (q := 4) dJ7_fill_53178_3 rfl ?_
  refine v_istore_n F (q := 5) [(3, VI 1000), (2, VI 0), (0, .ref (h (21 + r))), (1, VI v)] dJ7_fill_53178_4 rfl (by decide) rfl rfl ?_
  have L5_1 : ∀ (fu : Nat) (i : Nat), (i ≤ 1000) → 1000 - i < fu → V XX (cw k h S (ur Z r (fillF Z r v i))) 0 0 5 [(3, VI 1000), (2, VI ((i : Nat) : Int)), (0, .ref (h (21 + r))), (1, VI v)] [] := by
    intro fu_5
    induction fu_5 with
    | zero => intros; omega
    | succ fu_5 ih_5 =>
      intro i hv1 hm_5
      refine v_iload_n F 1 (q := 6) dJ7_fill_53178_5 rfl rfl rfl ?_
      refine v_iload_n F 0 (q := 7) dJ7_fill_53178_6 rfl rfl rfl ?_
      refine v_icmp_ge F (tgt := 20) (q := 10) (by omega) (by omega) dJ7_fill_53178_7 rfl rfl (fun h_2 => ?_) (fun h_2 => ?_)
      · exact ret _ _ _ _ _ (Nat.zero_le _) (Nat.zero_le _) dJ7_fill_53178_20 (by rw [show i = 1000 from by omega])
      · refine v_aload_n F 2 (q := 11) dJ7_fill_53178_10 rfl rfl rfl ?_
        refine v_iload_n F 1 (q := 12) dJ7_fill_53178_11 rfl rfl rfl ?_
        refine v_iload_n F 3 (q := 13) dJ7_fill_53178_12 rfl rfl rfl ?_
        refine v_iast F (j := i) (21 + r) (cw k h S (u2 (ur Z r (fillF Z r v i)) r i v)) (cw_so r hr) rfl (by omega) (by decide) (cw_so_set r hr i _) (q := 14) dJ7_fill_53178_13 rfl ?_
        refine v_iinc F (q := 17) (z := ((i + 1 : Nat) : Int)) 1 [(2, VI ((i + 1 : Nat) : Int)), (3, VI 1000), (0, .ref (h (21 + r))), (1, VI v)] dJ7_fill_53178_14 rfl (by decide) (by omega) rfl rfl ?_
        refine v_goto F (tgt := 5) dJ7_fill_53178_17 rfl ?_
        refine v_sub [1, 0, 2, 3] rfl ?_
        refine v_weq ((congrArg (cw k h S) (fill_s Z r v i))) ?_
        exact ih_5 (i + 1) (by omega) (by omega)
  refine v_weq ((congrArg (cw k h S) (fill_0 Z r v))) ?_
  exact L5_1 _ 0 (by omega) (Nat.lt_succ_self _)
theorem hdX4_encode : yX4_encode.cls ≠ "java/lang/invoke/MethodHandle" ∧ yX4_encode.cls ≠ "java/lang/invoke/VarHandle" ∧ (parseMethodDescriptor yX4_encode.desc).map (fun d => d.parameters.length) = some 1 := by decide +kernel
set_option maxRecDepth 100000 in
set_option maxHeartbeats 4000000 in
theorem kX4_encode {l : Launch} (hst : l.stackTraces = false) {k : Nat → ClassId} {h : Nat → Nat} {S Z : Nat → Nat → Int} (hI : Inv S) {rq ra : Nat} {f : Nat → Int} (hrow : (cw k h S Z)[rq]? = some (ra, aI k 3 f)) (hf : ∀ m, m < 3 → 0 ≤ f m ∧ f m ≤ 9) : v_Ci l k yX4_encode wsX4_encode ({ frames := 0, cells := 0, slots := 0, locals := 0 } : Room) [.ref (ra)] (cw k h S Z) (fun a u => u = cw k h S Z ∧ a = codeF f ∧ 0 ≤ a ∧ a ≤ 999) := by
  refine v_ofI (cc := cX4_encode) (nL := 1) (by decide +kernel) rfl hst (Nat.le_of_ble_eq_true rfl) (fun _ _ _ => rfl) (fun XX F ret => ?_)
  have b7 := hI.mc
  have b8 := hI.cc
  show V XX (cw k h S Z) 0 0 0 [(0, .ref (ra))] []
  refine v_aload_n F 0 (q := 1) dX4_encode_0 rfl rfl rfl ?_
  refine v_const F (q := 2) dX4_encode_1 rfl ?_
  refine v_iald F (j := 0) rq hrow rfl (by omega) (by decide) (q := 3) dX4_encode_2 rfl ?_
  have b_1 := hf 0 (by omega)
  refine v_bipush F (q := 5) dX4_encode_3 rfl rfl ?_
  refine v_aload_n F 0 (q := 6) dX4_encode_5 rfl rfl rfl ?_
  refine v_const F (q := 7) dX4_encode_6 rfl ?_
  refine v_iald F (j := 1) rq hrow rfl (by omega) (by decide) (q := 8) dX4_encode_7 rfl ?_
  have b_2 := hf 1 (by omega)
  refine v_imul F (q := 9) dX4_encode_8 rfl ?_
  refine v_iadd F (q := 10) dX4_encode_9 rfl ?_
  refine v_bipush F (q := 12) dX4_encode_10 rfl rfl ?_
  refine v_aload_n F 0 (q := 13) dX4_encode_12 rfl rfl rfl ?_
  refine v_const F (q := 14) dX4_encode_13 rfl ?_
  refine v_iald F (j := 2) rq hrow rfl (by omega) (by decide) (q := 15) dX4_encode_14 rfl ?_
  have b_3 := hf 2 (by omega)
  refine v_imul F (q := 16) dX4_encode_15 rfl ?_
  refine v_iadd F (q := 17) dX4_encode_16 rfl ?_
  exact ret _ _ _ _ _ _ (Nat.zero_le _) (Nat.zero_le _) dX4_encode_17 (⟨rfl, rfl, (code_bd hf).1, (code_bd hf).2⟩)
theorem hdX4_decode : yX4_decode.cls ≠ "java/lang/invoke/MethodHandle" ∧ yX4_decode.cls ≠ "java/lang/invoke/VarHandle" ∧ (parseMethodDescriptor yX4_decode.desc).map (fun d => d.parameters.length) = some 2 := by decide +kernel
set_option maxRecDepth 100000 in
set_option maxHeartbeats 4000000 in
theorem kX4_decode {l : Launch} (hst : l.stackTraces = false) {k : Nat → ClassId} {h : Nat → Nat} {S Z : Nat → Nat → Int} {n : Nat} (hn : n < 1000) {r : Nat} (hr : r < 2) : v_Cv l k yX4_decode wsX4_decode ({ frames := 0, cells := 0, slots := 0, locals := 0 } : Room) [VI ((n : Nat) : Int), .ref (h (7 + r))] (cw k h S Z) (fun u => u = cw k h S (decZ Z r n)) := by
  refine v_ofV (cc := cX4_decode) (nL := 2) (by decide +kernel) rfl hst (Nat.le_of_ble_eq_true rfl) (fun XX F ret => ?_)
  show V XX (cw k h S Z) 0 0 0 [(0, VI ((n : Nat) : Int)), (1, .ref (h (7 + r)))] []
  refine v_aload_n F 1 (q := 1) dX4_decode_0 rfl rfl rfl ?_
  refine v_const F (q := 2) dX4_decode_1 rfl ?_
  refine v_iload_n F 0 (q := 3) dX4_decode_2 rfl rfl rfl ?_
  refine v_bipush F (q := 5) dX4_decode_3 rfl rfl ?_
  refine v_irem F (q := 6) (by omega) (by omega) dX4_decode_5 rfl ?_
  refine v_iast F (j := 0) (7 + r) (cw k h S (u2 Z r 0 (((n : Nat) : Int) % 10))) (cw_ba r hr) rfl (by omega) (by decide) (cw_ba_set r hr 0 _) (q := 7) dX4_decode_6 rfl ?_
  refine v_aload_n F 1 (q := 8) dX4_decode_7 rfl rfl rfl ?_
  refine v_const F (q := 9) dX4_decode_8 rfl ?_
  refine v_iload_n F 0 (q := 10) dX4_decode_9 rfl rfl rfl ?_
  refine v_bipush F (q := 12) dX4_decode_10 rfl rfl ?_
  refine v_idiv F (q := 13) (by omega) (by omega) dX4_decode_12 rfl ?_
  refine v_bipush F (q := 15) dX4_decode_13 rfl rfl ?_
  refine v_irem F (q := 16) (by omega) (by omega) dX4_decode_15 rfl ?_
  refine v_iast F (j := 1) (7 + r) (cw k h S (u2 (u2 Z r 0 (((n : Nat) : Int) % 10)) r 1 ((((n : Nat) : Int) / 10) % 10))) (cw_ba r hr) rfl (by omega) (by decide) (cw_ba_set r hr 1 _) (q := 17) dX4_decode_16 rfl ?_
  refine v_aload_n F 1 (q := 18) dX4_decode_17 rfl rfl rfl ?_
  refine v_const F (q := 19) dX4_decode_18 rfl ?_
  refine v_iload_n F 0 (q := 20) dX4_decode_19 rfl rfl rfl ?_
  refine v_bipush F (q := 22) dX4_decode_20 rfl rfl ?_
  refine v_idiv F (q := 23) (by omega) (by omega) dX4_decode_22 rfl ?_
  refine v_iast F (j := 2) (7 + r) (cw k h S (u2 (u2 (u2 Z r 0 (((n : Nat) : Int) % 10)) r 1 ((((n : Nat) : Int) / 10) % 10)) r 2 (((n : Nat) : Int) / 100))) (cw_ba r hr) rfl (by omega) (by decide) (cw_ba_set r hr 2 _) (q := 24) dX4_decode_23 rfl ?_
  exact ret _ _ _ _ _ (Nat.zero_le _) (Nat.zero_le _) dX4_decode_24 (by unfold decZ; rw [← dec_0, ← dec_1, ← dec_2 hn])
theorem hdX4_isState : yX4_isState.cls ≠ "java/lang/invoke/MethodHandle" ∧ yX4_isState.cls ≠ "java/lang/invoke/VarHandle" ∧ (parseMethodDescriptor yX4_isState.desc).map (fun d => d.parameters.length) = some 1 := by decide +kernel
set_option maxRecDepth 100000 in
set_option maxHeartbeats 4000000 in
theorem kX4_isState {l : Launch} (hst : l.stackTraces = false) {k : Nat → ClassId} {w : va_W} {a0 : Int} (g0 : R32 a0) : v_Ci l k yX4_isState wsX4_isState ({ frames := 0, cells := 0, slots := 0, locals := 0 } : Room) [VI a0] (w) (fun a u => u = w ∧ vB (0 ≤ a0 ∧ a0 < 1000) a) := by
  refine v_ofI (cc := cX4_isState) (nL := 1) (by decide +kernel) rfl hst (Nat.le_of_ble_eq_true rfl) (fun _ _ hp => vB_n hp.2) (fun XX F ret => ?_)
  show V XX (w) 0 0 0 [(0, VI a0)] []
  refine v_iload_n F 0 (q := 1) dX4_isState_0 rfl rfl rfl ?_
  refine v_if_lt F (tgt := 15) (q := 4) (by omega) dX4_isState_1 rfl rfl (fun h_1 => ?_) (fun h_1 => ?_)
  · refine v_const F (q := 16) dX4_isState_15 rfl ?_
    exact ret _ _ _ _ _ _ (Nat.zero_le _) (Nat.zero_le _) dX4_isState_16 (⟨rfl, vB_0 (by omega)⟩)
  · refine v_iload_n F 0 (q := 5) dX4_isState_4 rfl rfl rfl ?_
    refine v_sipush F (q := 8) dX4_isState_5 rfl rfl ?_
    refine v_icmp_ge F (tgt := 15) (q := 11) (by omega) (by omega) dX4_isState_8 rfl rfl (fun h_2 => ?_) (fun h_2 => ?_)
    · refine v_const F (q := 16) dX4_isState_15 rfl ?_
      exact ret _ _ _ _ _ _ (Nat.zero_le _) (Nat.zero_le _) dX4_isState_16 (⟨rfl, vB_0 (by omega)⟩)
    · refine v_const F (q := 12) dX4_isState_11 rfl ?_
      refine v_goto F (tgt := 16) dX4_isState_12 rfl ?_
      exact ret _ _ _ _ _ _ (Nat.zero_le _) (Nat.zero_le _) dX4_isState_16 (⟨rfl, vB_1 (by omega)⟩)
theorem hdX4_begin : yX4_begin.cls = RX4 ∧ yX4_begin.cls ≠ "java/lang/invoke/MethodHandle" ∧ yX4_begin.cls ≠ "java/lang/invoke/VarHandle" ∧ (parseMethodDescriptor yX4_begin.desc).map (fun d => d.parameters.length) = some 1 := by decide +kernel
set_option maxRecDepth 100000 in
set_option maxHeartbeats 4000000 in
theorem kX4_begin {l : Launch} (hst : l.stackTraces = false) {k : Nat → ClassId} {h : Nat → Nat} {S Z : Nat → Nat → Int} {n : Nat} (hn : n < 1000) : v_Cv l k yX4_begin wsX4_begin ({ frames := 1, cells := 0, slots := 0, locals := 23 } : Room) [.ref (h 5), VI ((n : Nat) : Int)] (cw k h S Z) (fun u => u = cw k h S (begZ Z n)) := by
  refine v_ofV (cc := cX4_begin) (nL := 2) (by decide +kernel) rfl hst (Nat.le_of_ble_eq_true rfl) (fun XX F ret => ?_)
  have hin4 : ∀ w ∈ wsX40, w ∈ wsX4_begin := by decide +kernel
  show V XX (cw k h S Z) 0 0 0 [(0, .ref (h 5)), (1, VI ((n : Nat) : Int))] []
  refine v_aload_n F 0 (q := 1) dX4_begin_0 rfl rfl rfl ?_
  refine v_get F (C := RX4) (T := TX4) (N := 6) (ci := 4) (v := .ref (h 26)) 5 3 hin4 rfl cw_at5 (by decide) (by decide +kernel) rfl (q := 4) dX4_begin_1 rfl ?_
  refine v_const F (q := 5) dX4_begin_4 rfl ?_
  refine v_callSv0 F (kJ7_fill_53178 hst (k := k) (h := h) (S := S) (Z := Z) (r := 5) (by decide) (v := -1)) gX4_begin_J7_fill_53178 rfl hdJ7_fill_53178 ⟨by decide, by decide⟩ rfl rfl (Nat.le_of_ble_eq_true rfl) ⟨(Nat.zero_le _), (Nat.zero_le _)⟩ (q := 8) dX4_begin_5 rfl ?_
  rintro _ rfl
  refine v_aload_n F 0 (q := 9) dX4_begin_8 rfl rfl rfl ?_
  refine v_get F (C := RX4) (T := TX4) (N := 6) (ci := 4) (v := .ref (h 27)) 5 4 hin4 rfl cw_at5 (by decide) (by decide +kernel) rfl (q := 12) dX4_begin_9 rfl ?_
  refine v_const F (q := 13) dX4_begin_12 rfl ?_
  refine v_callSv0 F (kJ7_fill_53178 hst (k := k) (h := h) (S := S) (Z := (ur Z 5 (fillF Z 5 (-1) 1000))) (r := 6) (by decide) (v := -1)) gX4_begin_J7_fill_53178 rfl hdJ7_fill_53178 ⟨by decide, by decide⟩ rfl rfl (Nat.le_of_ble_eq_true rfl) ⟨(Nat.zero_le _), (Nat.zero_le _)⟩ (q := 16) dX4_begin_13 rfl ?_
  rintro _ rfl
  refine v_aload_n F 0 (q := 17) dX4_begin_16 rfl rfl rfl ?_
  refine v_const F (q := 18) dX4_begin_17 rfl ?_
  refine v_put F (C := RX4) (T := TX4) (N := 6) (ci := 4) (ty := .int) 5 5 (cw k h S (u2 (ur (ur Z 5 (fillF Z 5 (-1) 1000)) 6 (fillF (ur Z 5 (fillF Z 5 (-1) 1000)) 6 (-1) 1000)) 7 0 0)) hin4 tyX4 tyX4_ok nmX4 rfl cw_at5 (by decide) (by decide +kernel) rfl (by decide +kernel) rfl rfl (Nat.le_of_ble_eq_true rfl) (cw_search5 _) (q := 21) dX4_begin_18 rfl ?_
  refine v_iload_n F 1 (q := 22) dX4_begin_21 rfl rfl rfl ?_
  refine v_callSi0 F (kX4_isState hst (k := k) (w := cw k h S (u2 (ur (ur Z 5 (fillF Z 5 (-1) 1000)) 6 (fillF (ur Z 5 (fillF Z 5 (-1) 1000)) 6 (-1) 1000)) 7 0 0)) (a0 := ((n : Nat) : Int)) (by omega)) gX4_begin_X4_isState rfl hdX4_isState ⟨by decide, by decide⟩ rfl rfl (Nat.le_of_ble_eq_true rfl) ⟨(Nat.zero_le _), (Nat.zero_le _)⟩ (q := 25) dX4_begin_22 rfl ?_
  rintro _ _ ⟨rfl, ⟨rfl, h_3⟩ | ⟨rfl, h_3⟩⟩
  rotate_left
  · exact absurd (by omega) h_3
  refine v_if_eq F (tgt := 47) (q := 28) (by omega) dX4_begin_25 rfl rfl (fun h_4 => absurd h_4 (by omega)) (fun h_4 => ?_)
  refine v_aload_n F 0 (q := 29) dX4_begin_28 rfl rfl rfl ?_
  refine v_get F (C := RX4) (T := TX4) (N := 6) (ci := 4) (v := .ref (h 26)) 5 3 hin4 rfl cw_at5 (by decide) (by decide +kernel) rfl (q := 32) dX4_begin_29 rfl ?_
  refine v_iload_n F 1 (q := 33) dX4_begin_32 rfl rfl rfl ?_
  refine v_const F (q := 34) dX4_begin_33 rfl ?_
  refine v_iast F (j := n) 26 (cw k h S (u2 (u2 (ur (ur Z 5 (fillF Z 5 (-1) 1000)) 6 (fillF (ur Z 5 (fillF Z 5 (-1) 1000)) 6 (-1) 1000)) 7 0 0) 5 n 0)) cw_at26 rfl (by omega) (by decide) (cw_steps n _) (q := 35) dX4_begin_34 rfl ?_
  refine v_aload_n F 0 (q := 36) dX4_begin_35 rfl rfl rfl ?_
  refine v_get F (C := RX4) (T := TX4) (N := 6) (ci := 4) (v := .ref (h 25)) 5 2 hin4 rfl cw_at5 (by decide) (by decide +kernel) rfl (q := 39) dX4_begin_36 rfl ?_
  refine v_const F (q := 40) dX4_begin_39 rfl ?_
  refine v_iload_n F 1 (q := 41) dX4_begin_40 rfl rfl rfl ?_
  refine v_iast F (j := 0) 25 (cw k h S (u2 (u2 (u2 (ur (ur Z 5 (fillF Z 5 (-1) 1000)) 6 (fillF (ur Z 5 (fillF Z 5 (-1) 1000)) 6 (-1) 1000)) 7 0 0) 5 n 0) 4 0 ((n : Nat) : Int))) cw_at25 rfl (by omega) (by decide) (cw_queue 0 _) (q := 42) dX4_begin_41 rfl ?_
  refine v_aload_n F 0 (q := 43) dX4_begin_42 rfl rfl rfl ?_
  refine v_const F (q := 44) dX4_begin_43 rfl ?_
  refine v_put F (C := RX4) (T := TX4) (N := 6) (ci := 4) (ty := .int) 5 5 (cw k h S (u2 (u2 (u2 (u2 (ur (ur Z 5 (fillF Z 5 (-1) 1000)) 6 (fillF (ur Z 5 (fillF Z 5 (-1) 1000)) 6 (-1) 1000)) 7 0 0) 5 n 0) 4 0 ((n : Nat) : Int)) 7 0 1)) hin4 tyX4 tyX4_ok nmX4 rfl cw_at5 (by decide) (by decide +kernel) rfl (by decide +kernel) rfl rfl (Nat.le_of_ble_eq_true rfl) (cw_search5 _) (q := 47) dX4_begin_44 rfl ?_
  exact ret _ _ _ _ _ (Nat.zero_le _) (Nat.zero_le _) dX4_begin_47 (congrArg (cw k h S) (u2_77 _ n))
theorem hdX4_reach : yX4_reach.cls = RX4 ∧ yX4_reach.cls ≠ "java/lang/invoke/MethodHandle" ∧ yX4_reach.cls ≠ "java/lang/invoke/VarHandle" ∧ (parseMethodDescriptor yX4_reach.desc).map (fun d => d.parameters.length) = some 3 := by decide +kernel
set_option maxRecDepth 100000 in
set_option maxHeartbeats 4000000 in
theorem kX4_reach {l : Launch} (hst : l.stackTraces = false) {k : Nat → ClassId} {h : Nat → Nat} {S Z : Nat → Nat → Int} {v n : Nat} (hv : v < 1000) (hn : n < 1000) {hd : Int} (b1 : ∀ x, x < 1000 → -1 ≤ Z 5 x ∧ Z 5 x ≤ 1000) (b2 : ∀ x, x < 1000 → -1 ≤ Z 6 x ∧ Z 6 x ≤ 8) (b3 : -1 ≤ hd ∧ hd ≤ 8) (b4 : 0 ≤ Z 7 0 ∧ (Z 5 n = -1 → Z 7 0 < 1000)) : v_Cv l k yX4_reach wsX4_reach ({ frames := 1, cells := 0, slots := 0, locals := 21 } : Room) [.ref (h 5), VI ((v : Nat) : Int), VI ((n : Nat) : Int), VI hd] (cw k h S Z) (fun u => u = cw k h S (reachZ Z v n hd)) := by
  refine v_ofV (cc := cX4_reach) (nL := 5) (by decide +kernel) rfl hst (Nat.le_of_ble_eq_true rfl) (fun XX F ret => ?_)
  have hin4 : ∀ w ∈ wsX40, w ∈ wsX4_reach := by decide +kernel
  show V XX (cw k h S Z) 0 0 0 [(0, .ref (h 5)), (1, VI ((v : Nat) : Int)), (2, VI ((n : Nat) : Int)), (3, VI hd)] []
  refine v_iload_n F 1 (q := 1) dX4_reach_0 rfl rfl rfl ?_
  refine v_callSi0 F (kX4_isState hst (k := k) (w := cw k h S Z) (a0 := ((v : Nat) : Int)) (by omega)) gX4_reach_X4_isState rfl hdX4_isState ⟨by decide, by decide⟩ rfl rfl (Nat.le_of_ble_eq_true rfl) ⟨(Nat.zero_le _), (Nat.zero_le _)⟩ (q := 4) dX4_reach_1 rfl ?_
  rintro _ _ ⟨rfl, ⟨rfl, h_1⟩ | ⟨rfl, h_1⟩⟩
  rotate_left
  · exact absurd (by omega) h_1
  refine v_if_eq F (tgt := 14) (q := 7) (by omega) dX4_reach_4 rfl rfl (fun h_2 => absurd h_2 (by omega)) (fun h_2 => ?_)
  refine v_iload_n F 2 (q := 8) dX4_reach_7 rfl rfl rfl ?_
  refine v_callSi0 F (kX4_isState hst (k := k) (w := cw k h S Z) (a0 := ((n : Nat) : Int)) (by omega)) gX4_reach_X4_isState rfl hdX4_isState ⟨by decide, by decide⟩ rfl rfl (Nat.le_of_ble_eq_true rfl) ⟨(Nat.zero_le _), (Nat.zero_le _)⟩ (q := 11) dX4_reach_8 rfl ?_
  rintro _ _ ⟨rfl, ⟨rfl, h_3⟩ | ⟨rfl, h_3⟩⟩
  rotate_left
  · exact absurd (by omega) h_3
  refine v_if_ne F (tgt := 15) (q := 14) (by omega) dX4_reach_11 rfl rfl (fun h_4 => ?_) (fun h_4 => absurd h_4 (by omega))
  have c1 := b1 v hv
  have c2 := b1 n hn
  have c3 := b2 v hv
  have c4 := b2 n hn
  refine v_aload_n F 0 (q := 16) dX4_reach_15 rfl rfl rfl ?_
  refine v_get F (C := RX4) (T := TX4) (N := 6) (ci := 4) (v := .ref (h 26)) 5 3 hin4 rfl cw_at5 (by decide) (by decide +kernel) rfl (q := 19) dX4_reach_16 rfl ?_
  refine v_iload_n F 1 (q := 20) dX4_reach_19 rfl rfl rfl ?_
  refine v_iald F (j := v) 26 cw_at26 rfl (by omega) (by decide) (q := 21) dX4_reach_20 rfl ?_
  refine v_if_ne F (tgt := 28) (q := 24) (by omega) dX4_reach_21 rfl rfl (fun h_5 => ?_) (fun h_5 => ?_)
  · refine v_aload_n F 0 (q := 29) dX4_reach_28 rfl rfl rfl ?_
    refine v_get F (C := RX4) (T := TX4) (N := 6) (ci := 4) (v := .ref (h 27)) 5 4 hin4 rfl cw_at5 (by decide) (by decide +kernel) rfl (q := 32) dX4_reach_29 rfl ?_
    refine v_iload_n F 1 (q := 33) dX4_reach_32 rfl rfl rfl ?_
    refine v_iald F (j := v) 27 cw_at27 rfl (by omega) (by decide) (q := 34) dX4_reach_33 rfl ?_
    refine v_istore F (q := 36) [(4, VI (Z 6 v)), (0, .ref (h 5)), (1, VI ((v : Nat) : Int)), (2, VI ((n : Nat) : Int)), (3, VI hd)] dX4_reach_34 (by decide) rfl rfl ?_
    refine v_aload_n F 1 (q := 37) dX4_reach_36 rfl rfl rfl ?_
    refine v_get F (C := RX4) (T := TX4) (N := 6) (ci := 4) (v := .ref (h 26)) 5 3 hin4 rfl cw_at5 (by decide) (by decide +kernel) rfl (q := 40) dX4_reach_37 rfl ?_
    refine v_iload_n F 3 (q := 41) dX4_reach_40 rfl rfl rfl ?_
    refine v_iald F (j := n) 26 cw_at26 rfl (by omega) (by decide) (q := 42) dX4_reach_41 rfl ?_
    refine v_const F (q := 43) dX4_reach_42 rfl ?_
    refine v_icmp_ne F (tgt := 101) (q := 46) (by omega) (by omega) dX4_reach_43 rfl rfl (fun h_6 => ?_) (fun h_6 => ?_)
    · refine v_aload_n F 1 (q := 102) dX4_reach_101 rfl rfl rfl ?_
      refine v_get F (C := RX4) (T := TX4) (N := 6) (ci := 4) (v := .ref (h 26)) 5 3 hin4 rfl cw_at5 (by decide) (by decide +kernel) rfl (q := 105) dX4_reach_102 rfl ?_
      refine v_iload_n F 3 (q := 106) dX4_reach_105 rfl rfl rfl ?_
      refine v_iald F (j := n) 26 cw_at26 rfl (by omega) (by decide) (q := 107) dX4_reach_106 rfl ?_
      refine v_aload_n F 1 (q := 108) dX4_reach_107 rfl rfl rfl ?_
      refine v_get F (C := RX4) (T := TX4) (N := 6) (ci := 4) (v := .ref (h 26)) 5 3 hin4 rfl cw_at5 (by decide) (by decide +kernel) rfl (q := 111) dX4_reach_108 rfl ?_
      refine v_iload_n F 2 (q := 112) dX4_reach_111 rfl rfl rfl ?_
      refine v_iald F (j := v) 26 cw_at26 rfl (by omega) (by decide) (q := 113) dX4_reach_112 rfl ?_
      refine v_const F (q := 114) dX4_reach_113 rfl ?_
      refine v_iadd F (q := 115) dX4_reach_114 rfl ?_
      refine v_icmp_ne F (tgt := 135) (q := 118) (by omega) (by omega) dX4_reach_115 rfl rfl (fun h_7 => ?_) (fun h_7 => ?_)
      · exact ret _ _ _ _ _ (Nat.zero_le _) (Nat.zero_le _) dX4_reach_135 (by unfold reachZ; by_cases q1 : Z 5 n = -1 <;> by_cases q2 : Z 5 n = Z 5 v + 1 <;> by_cases q3 : Z 5 v = 0 <;> first | (exfalso; omega) | (rw [if_pos q1, if_pos q3]; done) | (rw [if_pos q1, if_neg q3]; done) | (rw [if_neg q1, if_pos q2, if_pos q3]; done) | (rw [if_neg q1, if_pos q2, if_neg q3]; done) | (rw [if_neg q1, if_neg q2]; done))
      · refine v_aload_n F 1 (q := 119) dX4_reach_118 rfl rfl rfl ?_
        refine v_get F (C := RX4) (T := TX4) (N := 6) (ci := 4) (v := .ref (h 27)) 5 4 hin4 rfl cw_at5 (by decide) (by decide +kernel) rfl (q := 122) dX4_reach_119 rfl ?_
        refine v_iload_n F 3 (q := 123) dX4_reach_122 rfl rfl rfl ?_
        refine v_aload_n F 1 (q := 124) dX4_reach_123 rfl rfl rfl ?_
        refine v_get F (C := RX4) (T := TX4) (N := 6) (ci := 4) (v := .ref (h 27)) 5 4 hin4 rfl cw_at5 (by decide) (by decide +kernel) rfl (q := 127) dX4_reach_124 rfl ?_
        refine v_iload_n F 3 (q := 128) dX4_reach_127 rfl rfl rfl ?_
        refine v_iald F (j := n) 27 cw_at27 rfl (by omega) (by decide) (q := 129) dX4_reach_128 rfl ?_
        refine v_iload F 0 (q := 131) dX4_reach_129 rfl rfl ?_
        refine v_min F (by omega) (by omega) (by decide +kernel) (by decide +kernel) (by decide +kernel) (by decide +kernel) ⟨by decide, Nat.le_of_ble_eq_true rfl⟩ ⟨(Nat.zero_le _), (Nat.zero_le _)⟩ (q := 134) dX4_reach_131 rfl ?_
        refine v_iast F (j := n) 27 (cw k h S (u2 Z 6 n (min (Z 6 n) (Z 6 v)))) cw_at27 rfl (by omega) (by decide) (cw_openers n _) (q := 135) dX4_reach_134 rfl ?_
        exact ret _ _ _ _ _ (Nat.zero_le _) (Nat.zero_le _) dX4_reach_135 (by unfold reachZ; by_cases q1 : Z 5 n = -1 <;> by_cases q2 : Z 5 n = Z 5 v + 1 <;> by_cases q3 : Z 5 v = 0 <;> first | (exfalso; omega) | (rw [if_pos q1, if_pos q3]; done) | (rw [if_pos q1, if_neg q3]; done) | (rw [if_neg q1, if_pos q2, if_pos q3]; done) | (rw [if_neg q1, if_pos q2, if_neg q3]; done) | (rw [if_neg q1, if_neg q2]; done))
    · refine v_aload_n F 1 (q := 47) dX4_reach_46 rfl rfl rfl ?_
      refine v_get F (C := RX4) (T := TX4) (N := 6) (ci := 4) (v := VI (Z 7 0)) 5 5 hin4 rfl cw_at5 (by decide) (by decide +kernel) rfl (q := 50) dX4_reach_47 rfl ?_
      refine v_sipush F (q := 53) dX4_reach_50 rfl rfl ?_
      refine v_icmp_ge F (tgt := 101) (q := 56) (by omega) (by omega) dX4_reach_53 rfl rfl (fun h_8 => ?_) (fun h_8 => ?_)
      · refine v_aload_n F 1 (q := 102) dX4_reach_101 rfl rfl rfl ?_
        refine v_get F (C := RX4) (T := TX4) (N := 6) (ci := 4) (v := .ref (h 26)) 5 3 hin4 rfl cw_at5 (by decide) (by decide +kernel) rfl (q := 105) dX4_reach_102 rfl ?_
        refine v_iload_n F 3 (q := 106) dX4_reach_105 rfl rfl rfl ?_
        refine v_iald F (j := n) 26 cw_at26 rfl (by omega) (by decide) (q := 107) dX4_reach_106 rfl ?_
        refine v_aload_n F 1 (q := 108) dX4_reach_107 rfl rfl rfl ?_
        refine v_get F (C := RX4) (T := TX4) (N := 6) (ci := 4) (v := .ref (h 26)) 5 3 hin4 rfl cw_at5 (by decide) (by decide +kernel) rfl (q := 111) dX4_reach_108 rfl ?_
        refine v_iload_n F 2 (q := 112) dX4_reach_111 rfl rfl rfl ?_
        refine v_iald F (j := v) 26 cw_at26 rfl (by omega) (by decide) (q := 113) dX4_reach_112 rfl ?_
        refine v_const F (q := 114) dX4_reach_113 rfl ?_
        refine v_iadd F (q := 115) dX4_reach_114 rfl ?_
        refine v_icmp_ne F (tgt := 135) (q := 118) (by omega) (by omega) dX4_reach_115 rfl rfl (fun h_9 => ?_) (fun h_9 => ?_)
        · exact ret _ _ _ _ _ (Nat.zero_le _) (Nat.zero_le _) dX4_reach_135 (by unfold reachZ; by_cases q1 : Z 5 n = -1 <;> by_cases q2 : Z 5 n = Z 5 v + 1 <;> by_cases q3 : Z 5 v = 0 <;> first | (exfalso; omega) | (rw [if_pos q1, if_pos q3]; done) | (rw [if_pos q1, if_neg q3]; done) | (rw [if_neg q1, if_pos q2, if_pos q3]; done) | (rw [if_neg q1, if_pos q2, if_neg q3]; done) | (rw [if_neg q1, if_neg q2]; done))
        · refine v_aload_n F 1 (q := 119) dX4_reach_118 rfl rfl rfl ?_
          refine v_get F (C := RX4) (T := TX4) (N := 6) (ci := 4) (v := .ref (h 27)) 5 4 hin4 rfl cw_at5 (by decide) (by decide +kernel) rfl (q := 122) dX4_reach_119 rfl ?_
          refine v_iload_n F 3 (q := 123) dX4_reach_122 rfl rfl rfl ?_
          refine v_aload_n F 1 (q := 124) dX4_reach_123 rfl rfl rfl ?_
          refine v_get F (C := RX4) (T := TX4) (N := 6) (ci := 4) (v := .ref (h 27)) 5 4 hin4 rfl cw_at5 (by decide) (by decide +kernel) rfl (q := 127) dX4_reach_124 rfl ?_
          refine v_iload_n F 3 (q := 128) dX4_reach_127 rfl rfl rfl ?_
          refine v_iald F (j := n) 27 cw_at27 rfl (by omega) (by decide) (q := 129) dX4_reach_128 rfl ?_
          refine v_iload F 0 (q := 131) dX4_reach_129 rfl rfl ?_
          refine v_min F (by omega) (by omega) (by decide +kernel) (by decide +kernel) (by decide +kernel) (by decide +kernel) ⟨by decide, Nat.le_of_ble_eq_true rfl⟩ ⟨(Nat.zero_le _), (Nat.zero_le _)⟩ (q := 134) dX4_reach_131 rfl ?_
          refine v_iast F (j := n) 27 (cw k h S (u2 Z 6 n (min (Z 6 n) (Z 6 v)))) cw_at27 rfl (by omega) (by decide) (cw_openers n _) (q := 135) dX4_reach_134 rfl ?_
          exact ret _ _ _ _ _ (Nat.zero_le _) (Nat.zero_le _) dX4_reach_135 (by unfold reachZ; by_cases q1 : Z 5 n = -1 <;> by_cases q2 : Z 5 n = Z 5 v + 1 <;> by_cases q3 : Z 5 v = 0 <;> first | (exfalso; omega) | (rw [if_pos q1, if_pos q3]; done) | (rw [if_pos q1, if_neg q3]; done) | (rw [if_neg q1, if_pos q2, if_pos q3]; done) | (rw [if_neg q1, if_pos q2, if_neg q3]; done) | (rw [if_neg q1, if_neg q2]; done))
      · refine v_aload_n F 1 (q := 57) dX4_reach_56 rfl rfl rfl ?_
        refine v_get F (C := RX4) (T := TX4) (N := 6) (ci := 4) (v := .ref (h 26)) 5 3 hin4 rfl cw_at5 (by decide) (by decide +kernel) rfl (q := 60) dX4_reach_57 rfl ?_
        refine v_iload_n F 3 (q := 61) dX4_reach_60 rfl rfl rfl ?_
        refine v_aload_n F 1 (q := 62) dX4_reach_61 rfl rfl rfl ?_
        refine v_get F (C := RX4) (T := TX4) (N := 6) (ci := 4) (v := .ref (h 26)) 5 3 hin4 rfl cw_at5 (by decide) (by decide +kernel) rfl (q := 65) dX4_reach_62 rfl ?_
        refine v_iload_n F 2 (q := 66) dX4_reach_65 rfl rfl rfl ?_
        refine v_iald F (j := v) 26 cw_at26 rfl (by omega) (by decide) (q := 67) dX4_reach_66 rfl ?_
        refine v_const F (q := 68) dX4_reach_67 rfl ?_
        refine v_iadd F (q := 69) dX4_reach_68 rfl ?_
        refine v_iast F (j := n) 26 (cw k h S (u2 Z 5 n ((Z 5 v) + 1))) cw_at26 rfl (by omega) (by decide) (cw_steps n _) (q := 70) dX4_reach_69 rfl ?_
        refine v_aload_n F 1 (q := 71) dX4_reach_70 rfl rfl rfl ?_
        refine v_get F (C := RX4) (T := TX4) (N := 6) (ci := 4) (v := .ref (h 27)) 5 4 hin4 rfl cw_at5 (by decide) (by decide +kernel) rfl (q := 74) dX4_reach_71 rfl ?_
        refine v_iload_n F 3 (q := 75) dX4_reach_74 rfl rfl rfl ?_
        refine v_iload F 0 (q := 77) dX4_reach_75 rfl rfl ?_
        refine v_iast F (j := n) 27 (cw k h S (u2 (u2 Z 5 n ((Z 5 v) + 1)) 6 n (Z 6 v))) cw_at27 rfl (by omega) (by decide) (cw_openers n _) (q := 78) dX4_reach_77 rfl ?_
        refine v_aload_n F 1 (q := 79) dX4_reach_78 rfl rfl rfl ?_
        refine v_get F (C := RX4) (T := TX4) (N := 6) (ci := 4) (v := .ref (h 25)) 5 2 hin4 rfl cw_at5 (by decide) (by decide +kernel) rfl (q := 82) dX4_reach_79 rfl ?_
        refine v_aload_n F 1 (q := 83) dX4_reach_82 rfl rfl rfl ?_
        refine v_get F (C := RX4) (T := TX4) (N := 6) (ci := 4) (v := VI (Z 7 0)) 5 5 hin4 rfl cw_at5 (by decide) (by decide +kernel) rfl (q := 86) dX4_reach_83 rfl ?_
        refine v_iload_n F 3 (q := 87) dX4_reach_86 rfl rfl rfl ?_
        refine v_iast F (j := (Z 7 0).toNat) 25 (cw k h S (u2 (u2 (u2 Z 5 n ((Z 5 v) + 1)) 6 n (Z 6 v)) 4 ((Z 7 0).toNat) ((n : Nat) : Int))) cw_at25 (by omega) (by omega) (by decide) (cw_queue ((Z 7 0).toNat) _) (q := 88) dX4_reach_87 rfl ?_
        refine v_aload_n F 1 (q := 89) dX4_reach_88 rfl rfl rfl ?_
        refine v_dup F (q := 90) dX4_reach_89 rfl rfl ?_
        refine v_get F (C := RX4) (T := TX4) (N := 6) (ci := 4) (v := VI (Z 7 0)) 5 5 hin4 rfl cw_at5 (by decide) (by decide +kernel) rfl (q := 93) dX4_reach_90 rfl ?_
        refine v_const F (q := 94) dX4_reach_93 rfl ?_
        refine v_iadd F (q := 95) dX4_reach_94 rfl ?_
        refine v_put F (C := RX4) (T := TX4) (N := 6) (ci := 4) (ty := .int) 5 5 (cw k h S (u2 (u2 (u2 (u2 Z 5 n ((Z 5 v) + 1)) 6 n (Z 6 v)) 4 ((Z 7 0).toNat) ((n : Nat) : Int)) 7 0 ((Z 7 0) + 1))) hin4 tyX4 tyX4_ok nmX4 rfl cw_at5 (by decide) (by decide +kernel) rfl (by decide +kernel) rfl rfl (Nat.le_of_ble_eq_true rfl) (cw_search5 _) (q := 98) dX4_reach_95 rfl ?_
        refine v_goto F (tgt := 135) dX4_reach_98 rfl ?_
        exact ret _ _ _ _ _ (Nat.zero_le _) (Nat.zero_le _) dX4_reach_135 (by unfold reachZ; by_cases q1 : Z 5 n = -1 <;> by_cases q2 : Z 5 n = Z 5 v + 1 <;> by_cases q3 : Z 5 v = 0 <;> first | (exfalso; omega) | (rw [if_pos q1, if_pos q3]; done) | (rw [if_pos q1, if_neg q3]; done) | (rw [if_neg q1, if_pos q2, if_pos q3]; done) | (rw [if_neg q1, if_pos q2, if_neg q3]; done) | (rw [if_neg q1, if_neg q2]; done))
  · refine v_iload_n F 3 (q := 25) dX4_reach_24 rfl rfl rfl ?_
    refine v_goto F (tgt := 34) dX4_reach_25 rfl ?_
    refine v_istore F (q := 36) [(4, VI hd), (0, .ref (h 5)), (1, VI ((v : Nat) : Int)), (2, VI ((n : Nat) : Int)), (3, VI hd)] dX4_reach_34 (by decide) rfl rfl ?_
    refine v_aload_n F 1 (q := 37) dX4_reach_36 rfl rfl rfl ?_
    refine v_get F (C := RX4) (T := TX4) (N := 6) (ci := 4) (v := .ref (h 26)) 5 3 hin4 rfl cw_at5 (by decide) (by decide +kernel) rfl (q := 40) dX4_reach_37 rfl ?_
    refine v_iload_n F 3 (q := 41) dX4_reach_40 rfl rfl rfl ?_
    refine v_iald F (j := n) 26 cw_at26 rfl (by omega) (by decide) (q := 42) dX4_reach_41 rfl ?_
    refine v_const F (q := 43) dX4_reach_42 rfl ?_
    refine v_icmp_ne F (tgt := 101) (q := 46) (by omega) (by omega) dX4_reach_43 rfl rfl (fun h_10 => ?_) (fun h_10 => ?_)
    · refine v_aload_n F 1 (q := 102) dX4_reach_101 rfl rfl rfl ?_
      refine v_get F (C := RX4) (T := TX4) (N := 6) (ci := 4) (v := .ref (h 26)) 5 3 hin4 rfl cw_at5 (by decide) (by decide +kernel) rfl (q := 105) dX4_reach_102 rfl ?_
      refine v_iload_n F 3 (q := 106) dX4_reach_105 rfl rfl rfl ?_
      refine v_iald F (j := n) 26 cw_at26 rfl (by omega) (by decide) (q := 107) dX4_reach_106 rfl ?_
      refine v_aload_n F 1 (q := 108) dX4_reach_107 rfl rfl rfl ?_
      refine v_get F (C := RX4) (T := TX4) (N := 6) (ci := 4) (v := .ref (h 26)) 5 3 hin4 rfl cw_at5 (by decide) (by decide +kernel) rfl (q := 111) dX4_reach_108 rfl ?_
      refine v_iload_n F 2 (q := 112) dX4_reach_111 rfl rfl rfl ?_
      refine v_iald F (j := v) 26 cw_at26 rfl (by omega) (by decide) (q := 113) dX4_reach_112 rfl ?_
      refine v_const F (q := 114) dX4_reach_113 rfl ?_
      refine v_iadd F (q := 115) dX4_reach_114 rfl ?_
      refine v_icmp_ne F (tgt := 135) (q := 118) (by omega) (by omega) dX4_reach_115 rfl rfl (fun h_11 => ?_) (fun h_11 => ?_)
      · exact ret _ _ _ _ _ (Nat.zero_le _) (Nat.zero_le _) dX4_reach_135 (by unfold reachZ; by_cases q1 : Z 5 n = -1 <;> by_cases q2 : Z 5 n = Z 5 v + 1 <;> by_cases q3 : Z 5 v = 0 <;> first | (exfalso; omega) | (rw [if_pos q1, if_pos q3]; done) | (rw [if_pos q1, if_neg q3]; done) | (rw [if_neg q1, if_pos q2, if_pos q3]; done) | (rw [if_neg q1, if_pos q2, if_neg q3]; done) | (rw [if_neg q1, if_neg q2]; done))
      · refine v_aload_n F 1 (q := 119) dX4_reach_118 rfl rfl rfl ?_
        refine v_get F (C := RX4) (T := TX4) (N := 6) (ci := 4) (v := .ref (h 27)) 5 4 hin4 rfl cw_at5 (by decide) (by decide +kernel) rfl (q := 122) dX4_reach_119 rfl ?_
        refine v_iload_n F 3 (q := 123) dX4_reach_122 rfl rfl rfl ?_
        refine v_aload_n F 1 (q := 124) dX4_reach_123 rfl rfl rfl ?_
        refine v_get F (C := RX4) (T := TX4) (N := 6) (ci := 4) (v := .ref (h 27)) 5 4 hin4 rfl cw_at5 (by decide) (by decide +kernel) rfl (q := 127) dX4_reach_124 rfl ?_
        refine v_iload_n F 3 (q := 128) dX4_reach_127 rfl rfl rfl ?_
        refine v_iald F (j := n) 27 cw_at27 rfl (by omega) (by decide) (q := 129) dX4_reach_128 rfl ?_
        refine v_iload F 0 (q := 131) dX4_reach_129 rfl rfl ?_
        refine v_min F (by omega) (by omega) (by decide +kernel) (by decide +kernel) (by decide +kernel) (by decide +kernel) ⟨by decide, Nat.le_of_ble_eq_true rfl⟩ ⟨(Nat.zero_le _), (Nat.zero_le _)⟩ (q := 134) dX4_reach_131 rfl ?_
        refine v_iast F (j := n) 27 (cw k h S (u2 Z 6 n (min (Z 6 n) hd))) cw_at27 rfl (by omega) (by decide) (cw_openers n _) (q := 135) dX4_reach_134 rfl ?_
        exact ret _ _ _ _ _ (Nat.zero_le _) (Nat.zero_le _) dX4_reach_135 (by unfold reachZ; by_cases q1 : Z 5 n = -1 <;> by_cases q2 : Z 5 n = Z 5 v + 1 <;> by_cases q3 : Z 5 v = 0 <;> first | (exfalso; omega) | (rw [if_pos q1, if_pos q3]; done) | (rw [if_pos q1, if_neg q3]; done) | (rw [if_neg q1, if_pos q2, if_pos q3]; done) | (rw [if_neg q1, if_pos q2, if_neg q3]; done) | (rw [if_neg q1, if_neg q2]; done))
    · refine v_aload_n F 1 (q := 47) dX4_reach_46 rfl rfl rfl ?_
      refine v_get F (C := RX4) (T := TX4) (N := 6) (ci := 4) (v := VI (Z 7 0)) 5 5 hin4 rfl cw_at5 (by decide) (by decide +kernel) rfl (q := 50) dX4_reach_47 rfl ?_
      refine v_sipush F (q := 53) dX4_reach_50 rfl rfl ?_
      refine v_icmp_ge F (tgt := 101) (q := 56) (by omega) (by omega) dX4_reach_53 rfl rfl (fun h_12 => ?_) (fun h_12 => ?_)
      · refine v_aload_n F 1 (q := 102) dX4_reach_101 rfl rfl rfl ?_
        refine v_get F (C := RX4) (T := TX4) (N := 6) (ci := 4) (v := .ref (h 26)) 5 3 hin4 rfl cw_at5 (by decide) (by decide +kernel) rfl (q := 105) dX4_reach_102 rfl ?_
        refine v_iload_n F 3 (q := 106) dX4_reach_105 rfl rfl rfl ?_
        refine v_iald F (j := n) 26 cw_at26 rfl (by omega) (by decide) (q := 107) dX4_reach_106 rfl ?_
        refine v_aload_n F 1 (q := 108) dX4_reach_107 rfl rfl rfl ?_
        refine v_get F (C := RX4) (T := TX4) (N := 6) (ci := 4) (v := .ref (h 26)) 5 3 hin4 rfl cw_at5 (by decide) (by decide +kernel) rfl (q := 111) dX4_reach_108 rfl ?_
        refine v_iload_n F 2 (q := 112) dX4_reach_111 rfl rfl rfl ?_
        refine v_iald F (j := v) 26 cw_at26 rfl (by omega) (by decide) (q := 113) dX4_reach_112 rfl ?_
        refine v_const F (q := 114) dX4_reach_113 rfl ?_
        refine v_iadd F (q := 115) dX4_reach_114 rfl ?_
        refine v_icmp_ne F (tgt := 135) (q := 118) (by omega) (by omega) dX4_reach_115 rfl rfl (fun h_13 => ?_) (fun h_13 => ?_)
        · exact ret _ _ _ _ _ (Nat.zero_le _) (Nat.zero_le _) dX4_reach_135 (by unfold reachZ; by_cases q1 : Z 5 n = -1 <;> by_cases q2 : Z 5 n = Z 5 v + 1 <;> by_cases q3 : Z 5 v = 0 <;> first | (exfalso; omega) | (rw [if_pos q1, if_pos q3]; done) | (rw [if_pos q1, if_neg q3]; done) | (rw [if_neg q1, if_pos q2, if_pos q3]; done) | (rw [if_neg q1, if_pos q2, if_neg q3]; done) | (rw [if_neg q1, if_neg q2]; done))
        · refine v_aload_n F 1 (q := 119) dX4_reach_118 rfl rfl rfl ?_
          refine v_get F (C := RX4) (T := TX4) (N := 6) (ci := 4) (v := .ref (h 27)) 5 4 hin4 rfl cw_at5 (by decide) (by decide +kernel) rfl (q := 122) dX4_reach_119 rfl ?_
          refine v_iload_n F 3 (q := 123) dX4_reach_122 rfl rfl rfl ?_
          refine v_aload_n F 1 (q := 124) dX4_reach_123 rfl rfl rfl ?_
          refine v_get F (C := RX4) (T := TX4) (N := 6) (ci := 4) (v := .ref (h 27)) 5 4 hin4 rfl cw_at5 (by decide) (by decide +kernel) rfl (q := 127) dX4_reach_124 rfl ?_
          refine v_iload_n F 3 (q := 128) dX4_reach_127 rfl rfl rfl ?_
          refine v_iald F (j := n) 27 cw_at27 rfl (by omega) (by decide) (q := 129) dX4_reach_128 rfl ?_
          refine v_iload F 0 (q := 131) dX4_reach_129 rfl rfl ?_
          refine v_min F (by omega) (by omega) (by decide +kernel) (by decide +kernel) (by decide +kernel) (by decide +kernel) ⟨by decide, Nat.le_of_ble_eq_true rfl⟩ ⟨(Nat.zero_le _), (Nat.zero_le _)⟩ (q := 134) dX4_reach_131 rfl ?_
          refine v_iast F (j := n) 27 (cw k h S (u2 Z 6 n (min (Z 6 n) hd))) cw_at27 rfl (by omega) (by decide) (cw_openers n _) (q := 135) dX4_reach_134 rfl ?_
          exact ret _ _ _ _ _ (Nat.zero_le _) (Nat.zero_le _) dX4_reach_135 (by unfold reachZ; by_cases q1 : Z 5 n = -1 <;> by_cases q2 : Z 5 n = Z 5 v + 1 <;> by_cases q3 : Z 5 v = 0 <;> first | (exfalso; omega) | (rw [if_pos q1, if_pos q3]; done) | (rw [if_pos q1, if_neg q3]; done) | (rw [if_neg q1, if_pos q2, if_pos q3]; done) | (rw [if_neg q1, if_pos q2, if_neg q3]; done) | (rw [if_neg q1, if_neg q2]; done))
      · refine v_aload_n F 1 (q := 57) dX4_reach_56 rfl rfl rfl ?_
        refine v_get F (C := RX4) (T := TX4) (N := 6) (ci := 4) (v := .ref (h 26)) 5 3 hin4 rfl cw_at5 (by decide) (by decide +kernel) rfl (q := 60) dX4_reach_57 rfl ?_
        refine v_iload_n F 3 (q := 61) dX4_reach_60 rfl rfl rfl ?_
        refine v_aload_n F 1 (q := 62) dX4_reach_61 rfl rfl rfl ?_
        refine v_get F (C := RX4) (T := TX4) (N := 6) (ci := 4) (v := .ref (h 26)) 5 3 hin4 rfl cw_at5 (by decide) (by decide +kernel) rfl (q := 65) dX4_reach_62 rfl ?_
        refine v_iload_n F 2 (q := 66) dX4_reach_65 rfl rfl rfl ?_
        refine v_iald F (j := v) 26 cw_at26 rfl (by omega) (by decide) (q := 67) dX4_reach_66 rfl ?_
        refine v_const F (q := 68) dX4_reach_67 rfl ?_
        refine v_iadd F (q := 69) dX4_reach_68 rfl ?_
        refine v_iast F (j := n) 26 (cw k h S (u2 Z 5 n ((Z 5 v) + 1))) cw_at26 rfl (by omega) (by decide) (cw_steps n _) (q := 70) dX4_reach_69 rfl ?_
        refine v_aload_n F 1 (q := 71) dX4_reach_70 rfl rfl rfl ?_
        refine v_get F (C := RX4) (T := TX4) (N := 6) (ci := 4) (v := .ref (h 27)) 5 4 hin4 rfl cw_at5 (by decide) (by decide +kernel) rfl (q := 74) dX4_reach_71 rfl ?_
        refine v_iload_n F 3 (q := 75) dX4_reach_74 rfl rfl rfl ?_
        refine v_iload F 0 (q := 77) dX4_reach_75 rfl rfl ?_
        refine v_iast F (j := n) 27 (cw k h S (u2 (u2 Z 5 n ((Z 5 v) + 1)) 6 n hd)) cw_at27 rfl (by omega) (by decide) (cw_openers n _) (q := 78) dX4_reach_77 rfl ?_
        refine v_aload_n F 1 (q := 79) dX4_reach_78 rfl rfl rfl ?_
        refine v_get F (C := RX4) (T := TX4) (N := 6) (ci := 4) (v := .ref (h 25)) 5 2 hin4 rfl cw_at5 (by decide) (by decide +kernel) rfl (q := 82) dX4_reach_79 rfl ?_
        refine v_aload_n F 1 (q := 83) dX4_reach_82 rfl rfl rfl ?_
        refine v_get F (C := RX4) (T := TX4) (N := 6) (ci := 4) (v := VI (Z 7 0)) 5 5 hin4 rfl cw_at5 (by decide) (by decide +kernel) rfl (q := 86) dX4_reach_83 rfl ?_
        refine v_iload_n F 3 (q := 87) dX4_reach_86 rfl rfl rfl ?_
        refine v_iast F (j := (Z 7 0).toNat) 25 (cw k h S (u2 (u2 (u2 Z 5 n ((Z 5 v) + 1)) 6 n hd) 4 ((Z 7 0).toNat) ((n : Nat) : Int))) cw_at25 (by omega) (by omega) (by decide) (cw_queue ((Z 7 0).toNat) _) (q := 88) dX4_reach_87 rfl ?_
        refine v_aload_n F 1 (q := 89) dX4_reach_88 rfl rfl rfl ?_
        refine v_dup F (q := 90) dX4_reach_89 rfl rfl ?_
        refine v_get F (C := RX4) (T := TX4) (N := 6) (ci := 4) (v := VI (Z 7 0)) 5 5 hin4 rfl cw_at5 (by decide) (by decide +kernel) rfl (q := 93) dX4_reach_90 rfl ?_
        refine v_const F (q := 94) dX4_reach_93 rfl ?_
        refine v_iadd F (q := 95) dX4_reach_94 rfl ?_
        refine v_put F (C := RX4) (T := TX4) (N := 6) (ci := 4) (ty := .int) 5 5 (cw k h S (u2 (u2 (u2 (u2 Z 5 n ((Z 5 v) + 1)) 6 n hd) 4 ((Z 7 0).toNat) ((n : Nat) : Int)) 7 0 ((Z 7 0) + 1))) hin4 tyX4 tyX4_ok nmX4 rfl cw_at5 (by decide) (by decide +kernel) rfl (by decide +kernel) rfl rfl (Nat.le_of_ble_eq_true rfl) (cw_search5 _) (q := 98) dX4_reach_95 rfl ?_
        refine v_goto F (tgt := 135) dX4_reach_98 rfl ?_
        exact ret _ _ _ _ _ (Nat.zero_le _) (Nat.zero_le _) dX4_reach_135 (by unfold reachZ; by_cases q1 : Z 5 n = -1 <;> by_cases q2 : Z 5 n = Z 5 v + 1 <;> by_cases q3 : Z 5 v = 0 <;> first | (exfalso; omega) | (rw [if_pos q1, if_pos q3]; done) | (rw [if_pos q1, if_neg q3]; done) | (rw [if_neg q1, if_pos q2, if_pos q3]; done) | (rw [if_neg q1, if_pos q2, if_neg q3]; done) | (rw [if_neg q1, if_neg q2]; done))
theorem hdX5_firstFreeThreadOf : yX5_firstFreeThreadOf.cls = RX5 ∧ yX5_firstFreeThreadOf.cls ≠ "java/lang/invoke/MethodHandle" ∧ yX5_firstFreeThreadOf.cls ≠ "java/lang/invoke/VarHandle" ∧ (parseMethodDescriptor yX5_firstFreeThreadOf.desc).map (fun d => d.parameters.length) = some 1 := by decide +kernel
set_option maxRecDepth 100000 in
set_option maxHeartbeats 4000000 in
theorem kX5_firstFreeThreadOf {l : Launch} (hst : l.stackTraces = false) {k : Nat → ClassId} {h : Nat → Nat} {S Z : Nat → Nat → Int} (hI : Inv S) {m : Nat} (hm : m < 3) : v_Ci l k yX5_firstFreeThreadOf wsX5_firstFreeThreadOf ({ frames := 3, cells := 0, slots := 0, locals := 65 } : Room) [.ref (h 0), VI ((m : Nat) : Int)] (cw k h S Z) (fun a u => u = cw k h S Z ∧ HndP S m a ∧ -1 ≤ a ∧ a ≤ 8) := by
  refine v_ofI (cc := cX5_firstFreeThreadOf) (nL := 3) (by decide +kernel) rfl hst (Nat.le_of_ble_eq_true rfl) (fun _ _ _ => rfl) (fun XX F ret => ?_)
  have hin1 : ∀ w ∈ wsX10, w ∈ wsX5_firstFreeThreadOf := by decide +kernel
  have hin5 : ∀ w ∈ wsX50, w ∈ wsX5_firstFreeThreadOf := by decide +kernel
  have b7 := hI.mc
  have b8 := hI.cc
  show V XX (cw k h S Z) 0 0 0 [(0, .ref (h 0)), (1, VI ((m : Nat) : Int))] []
  refine v_aload_n F 0 (q := 1) dX5_firstFreeThreadOf_0 rfl rfl rfl ?_
  refine v_iload_n F 1 (q := 2) dX5_firstFreeThreadOf_1 rfl rfl rfl ?_
  refine v_callVi0 F (kX5_isHeld hst (k := k) (h := h) (S := S) (Z := Z) hI (a0 := ((m : Nat) : Int)) (by omega)) gX5_firstFreeThreadOf_X5_isHeld rfl hdX5_isHeld ⟨by decide, by decide⟩ 0 cw_at0 rfl rfl rfl (Nat.le_of_ble_eq_true rfl) ⟨(Nat.zero_le _), (Nat.zero_le _)⟩ (q := 5) dX5_firstFreeThreadOf_2 rfl ?_
  rintro _ _ ⟨rfl, ⟨rfl, h_1⟩ | ⟨rfl, h_1⟩⟩
  · refine v_if_eq F (tgt := 10) (q := 8) (by omega) dX5_firstFreeThreadOf_5 rfl rfl (fun h_2 => absurd h_2 (by omega)) (fun h_2 => ?_)
    refine v_const F (q := 9) dX5_firstFreeThreadOf_8 rfl ?_
    exact ret _ _ _ _ _ _ (Nat.zero_le _) (Nat.zero_le _) dX5_firstFreeThreadOf_9 (⟨rfl, Or.inl ⟨rfl, fun t _ => fun z => absurd (by assumption) (frT_iff.mp z).1⟩, by decide, by decide⟩)
  · refine v_if_eq F (tgt := 10) (q := 8) R32_0 dX5_firstFreeThreadOf_5 rfl rfl (fun h_3 => ?_) (fun h_3 => absurd h_3 (by omega))
    refine v_const F (q := 11) dX5_firstFreeThreadOf_10 rfl ?_
    refine v_istore_n F (q := 12) [(2, VI 0), (0, .ref (h 0)), (1, VI ((m : Nat) : Int))] dX5_firstFreeThreadOf_11 rfl (by decide) rfl rfl ?_
    have L12_4 : ∀ (fu : Nat) (t : Nat), ((t : Int) ≤ S 0 8 ∧ ∀ j : Nat, j < t → ¬ frT S m j = true) → (S 0 8 - t).toNat < fu → V XX (cw k h S Z) 0 0 12 [(2, VI ((t : Nat) : Int)), (0, .ref (h 0)), (1, VI ((m : Nat) : Int))] [] := by
      intro fu_12
      induction fu_12 with
      | zero => intros; omega
      | succ fu_12 ih_12 =>
        intro t hv hm_12
        obtain ⟨hv1, hv2⟩ := hv
        refine v_iload_n F 0 (q := 13) dX5_firstFreeThreadOf_12 rfl rfl rfl ?_
        refine v_aload_n F 1 (q := 14) dX5_firstFreeThreadOf_13 rfl rfl rfl ?_
        refine v_get F (C := RX5) (T := TX5) (N := 14) (ci := 5) (v := VI (S 0 8)) 0 9 hin5 rfl cw_at0 (by decide) (by decide +kernel) rfl (q := 17) dX5_firstFreeThreadOf_14 rfl ?_
        have b_5 := And.intro (hI.sc 8 (by decide)) (hI.1 0 8 (by omega)).2
        refine v_icmp_ge F (tgt := 66) (q := 20) (by omega) (by omega) dX5_firstFreeThreadOf_17 rfl rfl (fun h_6 => ?_) (fun h_6 => ?_)
        · refine v_const F (q := 67) dX5_firstFreeThreadOf_66 rfl ?_
          exact ret _ _ _ _ _ _ (Nat.zero_le _) (Nat.zero_le _) dX5_firstFreeThreadOf_67 (⟨rfl, Or.inl ⟨rfl, fun t ht => hv2 t (by omega)⟩, by decide, by decide⟩)
        · refine v_aload_n F 1 (q := 21) dX5_firstFreeThreadOf_20 rfl rfl rfl ?_
          refine v_get F (C := RX5) (T := TX5) (N := 14) (ci := 5) (v := .ref (h 4)) 0 3 hin5 rfl cw_at0 (by decide) (by decide +kernel) rfl (q := 24) dX5_firstFreeThreadOf_21 rfl ?_
          refine v_iload_n F 0 (q := 25) dX5_firstFreeThreadOf_24 rfl rfl rfl ?_
          refine v_aald F (j := t) (b := h (15 + t)) 4 2 rfl cw_at4 rfl (by omega) (by decide) rfl (q := 26) dX5_firstFreeThreadOf_25 rfl ?_
          refine v_get F (C := RX1) (T := TX1) (N := 6) (ci := 1) (v := VI (S 5 t)) (15 + t) 0 hin1 rfl (cw_cord t (by omega)) (by decide) (by decide +kernel) rfl (q := 29) dX5_firstFreeThreadOf_26 rfl ?_
          have b_7 := hI.th t
          refine v_iload_n F 2 (q := 30) dX5_firstFreeThreadOf_29 rfl rfl rfl ?_
          refine v_icmp_ne F (tgt := 60) (q := 33) (by omega) (by omega) dX5_firstFreeThreadOf_30 rfl rfl (fun h_8 => ?_) (fun h_8 => ?_)
          · refine v_iinc F (q := 63) (z := ((t + 1 : Nat) : Int)) 0 [(2, VI ((t + 1 : Nat) : Int)), (0, .ref (h 0)), (1, VI ((m : Nat) : Int))] dX5_firstFreeThreadOf_60 rfl (by decide) (by omega) rfl rfl ?_
            refine v_goto F (tgt := 12) dX5_firstFreeThreadOf_63 rfl ?_
            exact ih_12 (t + 1) (by exact ⟨by omega, fun j hj => (Nat.lt_or_ge j t).elim (fun q => hv2 j q) (fun q => by obtain rfl : j = t := (by omega); intro z; obtain ⟨z1, z2, z3, z4⟩ := frT_iff.mp z; first | exact absurd z2 (by assumption) | exact absurd z3 (by assumption) | exact absurd (by assumption) z4)⟩) (by omega)
          · refine v_aload_n F 1 (q := 34) dX5_firstFreeThreadOf_33 rfl rfl rfl ?_
            refine v_get F (C := RX5) (T := TX5) (N := 14) (ci := 5) (v := .ref (h 4)) 0 3 hin5 rfl cw_at0 (by decide) (by decide +kernel) rfl (q := 37) dX5_firstFreeThreadOf_34 rfl ?_
            refine v_iload_n F 0 (q := 38) dX5_firstFreeThreadOf_37 rfl rfl rfl ?_
            refine v_aald F (j := t) (b := h (15 + t)) 4 2 rfl cw_at4 rfl (by omega) (by decide) rfl (q := 39) dX5_firstFreeThreadOf_38 rfl ?_
            refine v_get F (C := RX1) (T := TX1) (N := 6) (ci := 1) (v := VI (S 8 t)) (15 + t) 3 hin1 rfl (cw_cord t (by omega)) (by decide) (by decide +kernel) rfl (q := 42) dX5_firstFreeThreadOf_39 rfl ?_
            have b_9 := hI.st t
            refine v_if_ne F (tgt := 60) (q := 45) (by omega) dX5_firstFreeThreadOf_42 rfl rfl (fun h_10 => ?_) (fun h_10 => ?_)
            · refine v_iinc F (q := 63) (z := ((t + 1 : Nat) : Int)) 0 [(2, VI ((t + 1 : Nat) : Int)), (0, .ref (h 0)), (1, VI ((m : Nat) : Int))] dX5_firstFreeThreadOf_60 rfl (by decide) (by omega) rfl rfl ?_
              refine v_goto F (tgt := 12) dX5_firstFreeThreadOf_63 rfl ?_
              exact ih_12 (t + 1) (by exact ⟨by omega, fun j hj => (Nat.lt_or_ge j t).elim (fun q => hv2 j q) (fun q => by obtain rfl : j = t := (by omega); intro z; obtain ⟨z1, z2, z3, z4⟩ := frT_iff.mp z; first | exact absurd z2 (by assumption) | exact absurd z3 (by assumption) | exact absurd (by assumption) z4)⟩) (by omega)
            · refine v_aload_n F 1 (q := 46) dX5_firstFreeThreadOf_45 rfl rfl rfl ?_
              refine v_aload_n F 1 (q := 47) dX5_firstFreeThreadOf_46 rfl rfl rfl ?_
              refine v_get F (C := RX5) (T := TX5) (N := 14) (ci := 5) (v := .ref (h 4)) 0 3 hin5 rfl cw_at0 (by decide) (by decide +kernel) rfl (q := 50) dX5_firstFreeThreadOf_47 rfl ?_
              refine v_iload_n F 0 (q := 51) dX5_firstFreeThreadOf_50 rfl rfl rfl ?_
              refine v_aald F (j := t) (b := h (15 + t)) 4 2 rfl cw_at4 rfl (by omega) (by decide) rfl (q := 52) dX5_firstFreeThreadOf_51 rfl ?_
              refine v_callVi0 F (kX5_isCrossedByStronger hst (k := k) (h := h) (S := S) (Z := Z) hI (t := t) (by omega)) gX5_firstFreeThreadOf_X5_isCrossedByStronger rfl hdX5_isCrossedByStronger ⟨by decide, by decide⟩ 0 cw_at0 rfl rfl rfl (Nat.le_of_ble_eq_true rfl) ⟨(Nat.zero_le _), (Nat.zero_le _)⟩ (q := 55) dX5_firstFreeThreadOf_52 rfl ?_
              rintro _ _ ⟨rfl, ⟨rfl, h_11⟩ | ⟨rfl, h_11⟩⟩
              · refine v_if_ne F (tgt := 60) (q := 58) (by omega) dX5_firstFreeThreadOf_55 rfl rfl (fun h_12 => ?_) (fun h_12 => absurd h_12 (by omega))
                refine v_iinc F (q := 63) (z := ((t + 1 : Nat) : Int)) 0 [(2, VI ((t + 1 : Nat) : Int)), (0, .ref (h 0)), (1, VI ((m : Nat) : Int))] dX5_firstFreeThreadOf_60 rfl (by decide) (by omega) rfl rfl ?_
                refine v_goto F (tgt := 12) dX5_firstFreeThreadOf_63 rfl ?_
                exact ih_12 (t + 1) (by exact ⟨by omega, fun j hj => (Nat.lt_or_ge j t).elim (fun q => hv2 j q) (fun q => by obtain rfl : j = t := (by omega); intro z; obtain ⟨z1, z2, z3, z4⟩ := frT_iff.mp z; first | exact absurd z2 (by assumption) | exact absurd z3 (by assumption) | exact absurd (by assumption) z4)⟩) (by omega)
              · refine v_if_ne F (tgt := 60) (q := 58) R32_0 dX5_firstFreeThreadOf_55 rfl rfl (fun h_13 => absurd h_13 (by omega)) (fun h_13 => ?_)
                refine v_iload_n F 0 (q := 59) dX5_firstFreeThreadOf_58 rfl rfl rfl ?_
                exact ret _ _ _ _ _ _ (Nat.zero_le _) (Nat.zero_le _) dX5_firstFreeThreadOf_59 (⟨rfl, Or.inr ⟨t, rfl, by omega, frT_iff.mpr ⟨by assumption, by assumption, by assumption, by assumption⟩, hv2⟩, by omega, by omega⟩)
    exact L12_4 _ 0 (by exact ⟨by omega, fun j hj => absurd hj (Nat.not_lt_zero j)⟩) (Nat.lt_succ_self _)
