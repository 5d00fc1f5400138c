/-! ===== the law, from its entry ===== -/
set_option maxRecDepth 100000 in
set_option maxHeartbeats 4000000 in
theorem law_loop {XX : vX} {l : Launch} {k : Nat → ClassId} {nm9 : String} (F : v_F XX l k ⟨RL, nm9, "([I)Z"⟩ code 28 wsL_law room_1) (hst : l.stackTraces = false) {b L : Nat} {xs : Nat → Int32} (hX : va_X b L xs XX.1.2.2.2.2 XX.1.2.2.2.2.heap) (hbl : b < XX.1.2.2.2.2.heap.size) (hbA : ¬ XX.2.2.2.2 b) (hL : L ≤ 2560) {h : Nat → Nat} (retT : ∀ (w : va_W) (c n : Nat) (lv : List (Nat × Value)), c ≤ 600104 → n ≤ 7301314 → V XX w c n 1287 lv [VI 1]) : ∀ (fu ti : Nat) (S Z : Nat → Nat → Int), Inv3 S → ti ≤ 40 → 40 - ti < fu → V XX (cw k h S Z) (300 + ti * 2000) (5000 + ti * 12000) 7 [(2, VI ((ti : Nat) : Int)), (1, .ref (h 0)), (0, .ref (b))] [] := by
  intro fu
  induction fu with
  | zero => intros; omega
  | succ fu ih =>
    intro ti S Z hI ht40 hm
    refine v_iload_n F 0 (q := 8) dL_law_7 rfl rfl rfl ?_
    refine v_bipush F (q := 10) dL_law_8 rfl rfl ?_
    refine v_icmp_ge F (tgt := 1286) (q := 13) (by omega) (by omega) dL_law_10 rfl rfl (fun h1 => ?_) (fun h1 => ?_)
    · refine v_const F (q := 1287) dL_law_1286 rfl ?_
      exact retT _ _ _ _ (by omega) (by omega)
    · have hti : ti < 40 := by omega
      have hc : 300 + ti * 2000 + 2000 ≤ 600104 := by omega
      have hn : 5000 + ti * 12000 + 12000 ≤ 7301314 := by omega
      have htz := tcn_z hI.1.1
      refine sgA F hst hX hbl hbA hL hI hc hn hti (fun x9 t9 k9 fw fs fa tl te Z1 hx9 ht9 hk9 hfw hfs hfa => ?_)
      refine sgB F hst hX hbl hbA hL hI hc hn hti hx9 ht9 hk9 hfw hfs hfa (fun Z2 ln le hln hle => ?_)
      refine sgC F hst hX hbl hbA hL hI hc hn hti hx9 ht9 hk9 hfw hfs hfa hln hle ?_
      refine sgD F hst hX hbl hbA hL hI hc hn hti hx9 ht9 hk9 hfw hfs hfa hln hle (fun ts sa hsa => ?_)
      have KK : ∀ (S' Z' : Nat → Nat → Int), Inv3 S' → S' 0 7 = S 0 7 → S' 0 8 = S 0 8 → (∀ j, S 8 j = 2 → S' 8 j = 2) → V XX (cw k h S' Z' ++ [(tl, aI k (mcn S) ln), (te, aI k (mcn S) le), (ts, aI k (tcn S) sa)]) (300 + ti * 2000 + 800) (5000 + ti * 12000 + 4900) 1207 [(17, .ref (ts)), (7, VI k9), (5, VI (S 0 8)), (4, VI (S 0 7)), (2, VI ((ti : Nat) : Int)), (1, .ref (h 0)), (0, .ref (b))] [] := fun S' Z' hI' h7 h8 hb => by
        refine sgG F hst hX hbl hbA hL hI' hc hn hti h7 h8 hk9 htz (fun j hj => ?_) ?_
        · have e := hsa j hj
          have hs := hI.1.1.st j
          exact ⟨by omega, by omega, fun q => hb j (by omega)⟩
        · refine v_iinc F (q := 1283) (z := ((ti + 1 : Nat) : Int)) 0 [(2, VI ((ti + 1 : Nat) : Int)), (1, .ref (h 0)), (0, .ref (b))] dL_law_1280 rfl (by decide) (by omega) rfl rfl ?_
          refine v_goto F (tgt := 7) dL_law_1283 rfl ?_
          refine v_widen (c' := 300 + (ti + 1) * 2000) (n' := 5000 + (ti + 1) * 12000) (by omega) (by omega) ?_
          exact ih (ti + 1) S' Z' hI' (by omega) (by omega)
      exact sgE F hst hX hbl hbA hL hI hc hn hti hx9 ht9 hk9 hfw hfs hfa hln hle hsa (fun ii gg ff a1 a2 a3 => sgF0 F hst hX hbl hbA hL hI hc hn hti hx9 ht9 hk9 hfw hfs hfa hln hle hsa a1 a2 a3 KK) (fun ii gg ff a1 a2 a3 => sgF3 F hst hX hbl hbA hL hI hc hn hti hx9 ht9 hk9 hfw hfs hfa hln hle hsa a1 a2 a3 KK) (fun ii gg ff a1 a2 a3 => sgF4 F hst hX hbl hbA hL hI hc hn hti hx9 ht9 hk9 hfw hfs hfa hln hle hsa a1 a2 a3 KK) (fun ii gg ff a1 a2 a3 => sgF5 F hst hX hbl hbA hL hI hc hn hti hx9 ht9 hk9 hfw hfs hfa hln hle hsa a1 a2 a3 KK) (fun ii gg ff a1 a2 a3 => sgF6 F hst hX hbl hbA hL hI hc hn hti hx9 ht9 hk9 hfw hfs hfa hln hle hsa a1 a2 a3 KK)
set_option maxRecDepth 100000 in
set_option maxHeartbeats 4000000 in
theorem law_walk {XX : vX} {l : Launch} {k : Nat → ClassId} {nm9 : String} (F : v_F XX l k ⟨RL, nm9, "([I)Z"⟩ code 28 wsL_law room_1) (hN : v_NX XX.1.2.2.2.2) (hst : l.stackTraces = false) {b L : Nat} {xs : Nat → Int32} (hX : va_X b L xs XX.1.2.2.2.2 XX.1.2.2.2.2.heap) (hbl : b < XX.1.2.2.2.2.heap.size) (hbA : ¬ XX.2.2.2.2 b) (hL : L ≤ 2560) (retT : ∀ (w : va_W) (c n : Nat) (lv : List (Nat × Value)), c ≤ 600104 → n ≤ 7301314 → V XX w c n 1287 lv [VI 1]) : V XX [] 0 0 0 [(0, .ref b)] [] := by
  refine v_aload_n F 0 (q := 1) dL_law_0 rfl rfl rfl ?_
  refine v_callSr F hX hbl hbA hN (kL_ship hst (k := k) hL) (w2 := []) rfl gL_law_L_ship rfl hdL_ship ⟨Nat.le_of_ble_eq_true rfl, Nat.le_of_ble_eq_true rfl⟩ rfl rfl (Nat.le_of_ble_eq_true rfl) ⟨Nat.le_of_ble_eq_true rfl, Nat.le_of_ble_eq_true rfl⟩ (q := 4) dL_law_1 rfl ?_
  rintro _ _ ⟨h, S, Z, rfl, rfl, hI⟩
  refine v_weq (w9 := cw k h S Z) (List.append_nil _) ?_
  refine v_astore_n F (q := 5) [(1, .ref (h 0)), (0, .ref b)] dL_law_4 rfl (by decide) rfl rfl ?_
  refine v_const F (q := 6) dL_law_5 rfl ?_
  refine v_istore_n F (q := 7) [(2, VI ((0 : Nat) : Int)), (1, .ref (h 0)), (0, .ref b)] dL_law_6 rfl (by decide) rfl rfl ?_
  refine v_widen (c' := 300 + 0 * 2000) (n' := 5000 + 0 * 12000) (Nat.le_of_ble_eq_true rfl) (Nat.le_of_ble_eq_true rfl) ?_
  exact law_loop F hst hX hbl hbA hL retT _ 0 S Z hI (Nat.zero_le _) (Nat.lt_succ_self _)
theorem st_arr {args : Array Value} {s : State} {ty : FieldType} (h : (Cond.arrayClass ty).before args s = true) (hp : ty = .int ∨ ty = .long) : ∃ cA : ClassId, ArrOfT s cA ty ∧ va_RA s cA ty := by
  obtain ⟨cA, kA, comp, h1, h2, h3⟩ := Cond.arrayClass_spec h
  refine ⟨cA, fun N z => ⟨(fun k h => by cases h), kA, h2, comp, h3⟩, ?_⟩
  rcases hp with rfl | rfl
  · exact h1
  · exact h1
theorem st_arrq {args : Array Value} {s : State} {C : String} (h : (Cond.arrayOver (.object C)).before args s = true) : ∃ cA : ClassId, ArrOfT s cA (.object C) ∧ va_RA s cA (.object C) := by
  obtain ⟨comp, cA, kA, h1, h2, h3, h4, h5⟩ := Cond.arrayOver_spec h
  exact ⟨cA, fun N z => ⟨(fun k h => by cases h), kA, h3, comp, h4⟩, kA, comp, h3, h4, h1, h5⟩
