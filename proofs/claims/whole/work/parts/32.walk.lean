/-! ===== the law, from its entry ===== -/
theorem perm_of {α : Type} {w w' : List α} (σ : List Nat) (n : Nat) (h : (List.range n).isPerm σ = true) (e1 : (List.range n).filterMap (fun i => w[i]?) = w) (e2 : σ.filterMap (fun i => w[i]?) = w') : w.Perm w' := by
  have := (List.isPerm_iff.mp h).filterMap (fun i => w[i]?)
  rw [e1, e2] at this
  exact this
def S00 (a i : Nat) : Int := if a = 0 then (if i = 0 then 8 else if i = 1 then 30 else if i = 2 then 60 else if i = 4 then 40 else if i = 5 then 4 else if i = 6 then 5 else 0) else 0
def Z00 (_ _ : Nat) : Int := 0
theorem s00_r (a i : Nat) (h : ¬ a = 0) : S00 a i = 0 := by unfold S00; rw [if_neg h]
theorem s00_b (i : Nat) : 0 ≤ S00 0 i ∧ S00 0 i ≤ 60 := by
  unfold S00
  rw [if_pos rfl]
  (repeat' split) <;> decide
theorem wd0 : wdF S00 = fun _ => 0 := by
  funext j
  unfold wdF
  rw [s00_r 10 _ (by decide), s00_r 11 _ (by decide), s00_r 12 _ (by decide)]
  (repeat' split) <;> rfl
theorem inv_S00 : Inv2 S00 := by
  have r1 := fun i => s00_r 1 i (by decide)
  have r2 := fun i => s00_r 2 i (by decide)
  have r3 := fun i => s00_r 3 i (by decide)
  have r4 := fun i => s00_r 4 i (by decide)
  have r5 := fun i => s00_r 5 i (by decide)
  have r8 := fun i => s00_r 8 i (by decide)
  have e7 : S00 0 7 = 0 := rfl
  have e8 : S00 0 8 = 0 := rfl
  have e9 : S00 0 9 = 0 := rfl
  have e6 : S00 0 6 = 5 := rfl
  refine ⟨?_, fun t ht => by rw [e8] at ht; omega⟩
  unfold Inv
  simp only [r2, r3, r4, r5, r8, e7, e8, e9, e6]
  refine ⟨fun a i _ => ?_, by decide, by decide, by decide, fun _ => by decide, fun _ _ => by first | exact ⟨rfl, rfl⟩ | exact ⟨trivial, trivial⟩ | trivial, fun _ => by decide, fun _ => by decide, fun _ => by decide, fun t ht => by omega, fun _ _ => trivial, fun a i ha _ => ?_, fun i _ => (s00_b i).1, by decide, fun _ => by decide⟩
  · by_cases z : a = 0
    · subst z; have := s00_b i; omega
    · rw [s00_r a i z]; decide
  · rw [s00_r a i (by omega)]; decide
set_option maxRecDepth 100000 in
set_option maxHeartbeats 4000000 in
theorem law_loop {X : vX} {l : Launch} {k : Nat → ClassId} {nm9 : String} (F : v_F X l k ⟨RL, nm9, "([I)Z"⟩ code 9 wsL_law room_1) (hst : l.stackTraces = false) {b L : Nat} {xs : Nat → Int32} (hX : va_X b L xs X.1.2.2.2.2 X.1.2.2.2.2.heap) (hbl : b < X.1.2.2.2.2.heap.size) (hbA : ¬ X.2.2.2.2 b) (hL : L ≤ 2560) {h g : Nat → Nat} {ho : Nat} (retT : ∀ (w : va_W) (c n : Nat) (lv : List (Nat × Value)), c ≤ 601024 → n ≤ 7293034 → V X w c n 1198 lv [VI 1]) : ∀ (fu i : Nat) (S Z Y : Nat → Nat → Int) (f : Nat → Int64), Inv2 S → 5 * i ≤ L → L - 5 * i < fu → V X (cw k h S Z ++ (mw k g S Y ++ [(ho, oE k f)])) (60 + i * 200) (5300 + i * 1100) 23 [(4, VI ((5 * i : Nat) : Int)), (3, .ref ho), (2, .ref (g 0)), (1, .ref (h 0)), (0, .ref b)] [] := by
  intro fu
  induction fu with
  | zero => intros; omega
  | succ fu ih =>
    intro i S Z Y f hI hi hm
    have nxt : ∀ (S' Z' Y' : Nat → Nat → Int) (f' : Nat → Int64), 5 * i + 5 ≤ L → Inv2 S' → V X (cw k h S' Z' ++ (mw k g S' Y' ++ [(ho, oE k f')])) (60 + i * 200 + 200) (5300 + i * 1100 + 1100) 1191 [(4, VI ((5 * i : Nat) : Int)), (3, .ref ho), (2, .ref (g 0)), (1, .ref (h 0)), (0, .ref b)] [] := by
      intro S' Z' Y' f' hi5 hI'
      refine v_iinc F (q := 1194) (z := ((5 * (i + 1) : Nat) : Int)) 0 [(4, VI ((5 * (i + 1) : Nat) : Int)), (3, .ref ho), (2, .ref (g 0)), (1, .ref (h 0)), (0, .ref b)] dL_law_1191 rfl (by decide) (by omega) rfl rfl ?_
      refine v_goto F (tgt := 23) dL_law_1194 rfl ?_
      refine v_widen (c' := 60 + (i + 1) * 200) (n' := 5300 + (i + 1) * 1100) (by omega) (by omega) ?_
      exact ih (i + 1) S' Z' Y' f' hI' (by omega) (by omega)
    refine v_iload F 0 (q := 25) dL_law_23 rfl rfl ?_
    refine v_aload_n F 4 (q := 26) dL_law_25 rfl rfl rfl ?_
    refine v_slen F hX hbl hbA (q := 27) dL_law_26 rfl ?_
    refine v_const F (q := 28) dL_law_27 rfl ?_
    refine v_isub F (q := 29) dL_law_28 rfl ?_
    refine v_icmp_gt F (tgt := 1197) (q := 32) (by omega) (by omega) dL_law_29 rfl rfl (fun h1 => ?_) (fun h1 => ?_)
    · refine v_const F (q := 1198) dL_law_1197 rfl ?_
      exact retT _ _ _ _ (by omega) (by omega)
    · have hi5 : 5 * i + 5 ≤ L := by omega
      refine v_aload_n F 4 (q := 33) dL_law_32 rfl rfl rfl ?_
      refine v_iload F 0 (q := 35) dL_law_33 rfl rfl ?_
      refine v_sld F (j := 5 * i) hX hbl hbA hL rfl (by omega) (q := 36) dL_law_35 rfl ?_
      refine v_bipush F (q := 38) dL_law_36 rfl rfl ?_
      refine v_iand F (z := (xs (5 * i) &&& 31).toInt) (q := 39) dL_law_38 (by show iI (xs (5 * i)).toInt &&& iI 31 = iI (xs (5 * i) &&& 31).toInt; rw [iI_of, iI_of]; rfl) rfl ?_
      have hz := and31 (xs (5 * i))
      generalize (xs (5 * i) &&& 31).toInt = z at hz
      by_cases h2 : z < 0 ∨ 20 < z
      · refine v_tableOut F (tgt := 1191) dL_law_39 (by omega) h2 rfl ?_
        refine v_widen (c' := 60 + i * 200 + 200) (n' := 5300 + i * 1100 + 1100) (by omega) (by omega) ?_
        exact nxt S Z Y f hi5 hI
      · obtain rfl | rfl | rfl | rfl | rfl | rfl | rfl | rfl | rfl | rfl | rfl | rfl | rfl | rfl | rfl | rfl | rfl | rfl | rfl | rfl | rfl : z = 0 ∨ z = 1 ∨ z = 2 ∨ z = 3 ∨ z = 4 ∨ z = 5 ∨ z = 6 ∨ z = 7 ∨ z = 8 ∨ z = 9 ∨ z = 10 ∨ z = 11 ∨ z = 12 ∨ z = 13 ∨ z = 14 ∨ z = 15 ∨ z = 16 ∨ z = 17 ∨ z = 18 ∨ z = 19 ∨ z = 20 := by omega
        · refine v_tableIn F (tgt := 136) dL_law_39 (by decide) (by decide) (by decide) rfl rfl ?_
          exact o_setBottle F hst hX hbl hbA hL hi5 hI (by omega) (by omega) (fun S' Z' Y' f' hI' => nxt S' Z' Y' f' hi5 hI')
        · refine v_tableIn F (tgt := 228) dL_law_39 (by decide) (by decide) (by decide) rfl rfl ?_
          exact o_setHull F hst hX hbl hbA hL hi5 hI (by omega) (by omega) (fun S' Z' Y' f' hI' => nxt S' Z' Y' f' hi5 hI')
        · refine v_tableIn F (tgt := 308) dL_law_39 (by decide) (by decide) (by decide) rfl rfl ?_
          exact o_step F hst hX hbl hbA hL hi5 hI (by omega) (by omega) (fun S' Z' Y' f' hI' => nxt S' Z' Y' f' hi5 hI')
        · refine v_tableIn F (tgt := 376) dL_law_39 (by decide) (by decide) (by decide) rfl rfl ?_
          exact o_yard F hst hX hbl hbA hL hi5 hI (by omega) (by omega) (fun S' Z' Y' f' hI' => nxt S' Z' Y' f' hi5 hI')
        · refine v_tableIn F (tgt := 444) dL_law_39 (by decide) (by decide) (by decide) rfl rfl ?_
          exact o_lead F hst hX hbl hbA hL hi5 hI (by omega) (by omega) (fun S' Z' Y' f' hI' => nxt S' Z' Y' f' hi5 hI')
        · refine v_tableIn F (tgt := 524) dL_law_39 (by decide) (by decide) (by decide) rfl rfl ?_
          exact o_enter F hst hX hbl hbA hL hi5 hI (by omega) (by omega) (fun S' Z' Y' f' hI' => nxt S' Z' Y' f' hi5 hI')
        · refine v_tableIn F (tgt := 537) dL_law_39 (by decide) (by decide) (by decide) rfl rfl ?_
          exact o_leave F hst hX hbl hbA hL hi5 hI (by omega) (by omega) (fun S' Z' Y' f' hI' => nxt S' Z' Y' f' hi5 hI')
        · refine v_tableIn F (tgt := 550) dL_law_39 (by decide) (by decide) (by decide) rfl rfl ?_
          exact o_pull F hst hX hbl hbA hL hi5 hI (by omega) (by omega) (fun S' Z' Y' f' hI' => nxt S' Z' Y' f' hi5 hI')
        · refine v_tableIn F (tgt := 606) dL_law_39 (by decide) (by decide) (by decide) rfl rfl ?_
          exact o_glue F hst hX hbl hbA hL hi5 hI (by omega) (by omega) (fun S' Z' Y' f' hI' => nxt S' Z' Y' f' hi5 hI')
        · refine v_tableIn F (tgt := 662) dL_law_39 (by decide) (by decide) (by decide) rfl rfl ?_
          exact o_cross F hst hX hbl hbA hL hi5 hI (by omega) (by omega) (fun S' Z' Y' f' hI' => nxt S' Z' Y' f' hi5 hI')
        · refine v_tableIn F (tgt := 737) dL_law_39 (by decide) (by decide) (by decide) rfl rfl ?_
          exact o_mast F hst hX hbl hbA hL hi5 hI (by omega) (by omega) (fun S' Z' Y' f' hI' => nxt S' Z' Y' f' hi5 hI')
        · refine v_tableIn F (tgt := 805) dL_law_39 (by decide) (by decide) (by decide) rfl rfl ?_
          exact o_thread F hst hX hbl hbA hL hi5 hI (by omega) (by omega) (fun S' Z' Y' f' hI' => nxt S' Z' Y' f' hi5 hI')
        · refine v_tableIn F (tgt := 873) dL_law_39 (by decide) (by decide) (by decide) rfl rfl ?_
          exact o_ship F hst hX hbl hbA hL hi5 hI (by omega) (by omega) (fun S' Z' Y' f' hI' => nxt S' Z' Y' f' hi5 hI')
        · refine v_tableIn F (tgt := 929) dL_law_39 (by decide) (by decide) (by decide) rfl rfl ?_
          exact o_count F hst hX hbl hbA hL hi5 hI (by omega) (by omega) (fun S' Z' Y' f' hI' => nxt S' Z' Y' f' hi5 hI')
        · refine v_tableIn F (tgt := 985) dL_law_39 (by decide) (by decide) (by decide) rfl rfl ?_
          exact o_pass F hst hX hbl hbA hL hi5 hI (by omega) (by omega) (fun S' Z' Y' f' hI' => nxt S' Z' Y' f' hi5 hI')
        · refine v_tableIn F (tgt := 1041) dL_law_39 (by decide) (by decide) (by decide) rfl rfl ?_
          exact o_fewest F hst hX hbl hbA hL hi5 hI (by omega) (by omega) (fun S' Z' Y' f' hI' => nxt S' Z' Y' f' hi5 hI')
        · refine v_tableIn F (tgt := 1054) dL_law_39 (by decide) (by decide) (by decide) rfl rfl ?_
          exact o_first F hst hX hbl hbA hL hi5 hI (by omega) (by omega) (fun S' Z' Y' f' hI' => nxt S' Z' Y' f' hi5 hI')
        · refine v_tableIn F (tgt := 1067) dL_law_39 (by decide) (by decide) (by decide) rfl rfl ?_
          exact o_least F hst hX hbl hbA hL hi5 hI (by omega) (by omega) (fun S' Z' Y' f' hI' => nxt S' Z' Y' f' hi5 hI')
        · refine v_tableIn F (tgt := 1123) dL_law_39 (by decide) (by decide) (by decide) rfl rfl ?_
          exact o_falls F hst hX hbl hbA hL hi5 hI (by omega) (by omega) (fun S' Z' Y' f' hI' => nxt S' Z' Y' f' hi5 hI')
        · refine v_tableIn F (tgt := 1136) dL_law_39 (by decide) (by decide) (by decide) rfl rfl ?_
          exact o_mean F hst hX hbl hbA hL hi5 hI (by omega) (by omega) (fun S' Z' Y' f' hI' => nxt S' Z' Y' f' hi5 hI')
        · refine v_tableIn F (tgt := 1177) dL_law_39 (by decide) (by decide) (by decide) rfl rfl ?_
          exact o_digest F hst hX hbl hbA hL hi5 hI (by omega) (by omega) (fun S' Z' Y' f' hI' => nxt S' Z' Y' f' hi5 hI')
def hOf (a b0 b1 b2 b3 b4 b5 b6 b7 b8 b9 b10 b11 b12 b13 b14 b15 b16 b17 b18 b19 b20 b21 b22 b23 b24 b25 b26 : Nat) (i : Nat) : Nat := match i with | 0 => a | 1 => b21 | 2 => b20 | 3 => b22 | 4 => b23 | 5 => b14 | 6 => b24 | 7 => b25 | 8 => b26 | 9 => b12 | 10 => b10 | 11 => b8 | 12 => b13 | 13 => b11 | 14 => b9 | 15 => b7 | 16 => b6 | 17 => b5 | 18 => b4 | 19 => b3 | 20 => b2 | 21 => b1 | 22 => b0 | 23 => b15 | 24 => b16 | 25 => b17 | 26 => b18 | 27 => b19 | _ => 0
def gOf (a g1 g2 g3 g4 g5 g6 g7 g8 g9 g10 : Nat) (i : Nat) : Nat := match i with | 0 => a | 1 => g1 | 2 => g2 | 3 => g3 | 4 => g4 | 5 => g5 | 6 => g6 | 7 => g7 | 8 => g8 | 9 => g9 | 10 => g10 | _ => 0
theorem st_arr {args : Array Value} {s : State} {ty : FieldType} (h : (Cond.arrayClass ty).before args s = true) (hp : ty = .int ∨ ty = .long) : ∃ cA : ClassId, ArrOfT s cA ty ∧ va_RA s cA ty := by
  obtain ⟨cA, kA, comp, h1, h2, h3⟩ := Cond.arrayClass_spec h
  refine ⟨cA, fun N z => ⟨(fun k h => by cases h), kA, h2, comp, h3⟩, ?_⟩
  rcases hp with rfl | rfl
  · exact h1
  · exact h1
theorem st_arrq {args : Array Value} {s : State} {C : String} (h : (Cond.arrayOver (.object C)).before args s = true) : ∃ cA : ClassId, ArrOfT s cA (.object C) ∧ va_RA s cA (.object C) := by
  obtain ⟨comp, cA, kA, h1, h2, h3, h4, h5⟩ := Cond.arrayOver_spec h
  exact ⟨cA, fun N z => ⟨(fun k h => by cases h), kA, h3, comp, h4⟩, kA, comp, h3, h4, h1, h5⟩
set_option maxRecDepth 100000 in
set_option maxHeartbeats 8000000 in
theorem law_walk {X : vX} {l : Launch} {k : Nat → ClassId} {nm9 : String} (F : v_F X l k ⟨RL, nm9, "([I)Z"⟩ code 9 wsL_law room_1) (hN : v_NX X.1.2.2.2.2) (hst : l.stackTraces = false) {b L : Nat} {xs : Nat → Int32} (hX : va_X b L xs X.1.2.2.2.2 X.1.2.2.2.2.heap) (hbl : b < X.1.2.2.2.2.heap.size) (hbA : ¬ X.2.2.2.2 b) (hL : L ≤ 2560) (retT : ∀ (w : va_W) (c n : Nat) (lv : List (Nat × Value)), c ≤ 601024 → n ≤ 7293034 → V X w c n 1198 lv [VI 1]) : V X [] 0 0 0 [(0, .ref b)] [] := by
  have hin5 : ∀ w ∈ wsX50, w ∈ wsL_law := by decide +kernel
  have hin6 : ∀ w ∈ wsX60, w ∈ wsL_law := by decide +kernel
  refine v_new F (C := RX5) (T := TX5) (N := 14) (ci := 5) (fs := [.null, .null, .null, .null, .null, .null, .null, .null, VI 0, VI 0, VI 0, VI 0, VI 0, VI 0]) hin5 tyX5 tyX5_ok (by decide +kernel : Cond.classLink RL 8 RX5 ∈ wsL_law) (by decide +kernel) (by decide +kernel) rfl (fun j hj => match j, hj with | 0, _ => rfl | 1, _ => rfl | 2, _ => rfl | 3, _ => rfl | 4, _ => rfl | 5, _ => rfl | 6, _ => rfl | 7, _ => rfl | 8, _ => rfl | 9, _ => rfl | 10, _ => rfl | 11, _ => rfl | 12, _ => rfl | 13, _ => rfl | j + 14, h => absurd h (by omega)) (Nat.le_of_ble_eq_true rfl) (Nat.le_of_ble_eq_true rfl) (q := 3) dL_law_0 rfl (fun a => ?_)
  refine v_weq (w9 := [(a, .inr (5, [.null, .null, .null, .null, .null, .null, .null, .null, VI 0, VI 0, VI 0, VI 0, VI 0, VI 0]))]) rfl ?_
  refine v_dup F (q := 4) dL_law_3 rfl rfl ?_
  refine v_callIX F hN (kX5_init hst (k := k) (a := a)) (w2 := []) rfl gL_law_X5_init rfl (by decide +kernel) (by decide +kernel : Cond.methodLink RL 62 yX5_init ∈ wsL_law) (by decide +kernel) rfl ⟨by decide +kernel, by decide +kernel, by decide +kernel⟩ ⟨Nat.le_of_ble_eq_true rfl, Nat.le_of_ble_eq_true rfl⟩ rfl (Nat.le_of_ble_eq_true rfl) ⟨Nat.le_of_ble_eq_true rfl, Nat.le_of_ble_eq_true rfl⟩ (q := 7) dL_law_4 rfl ?_
  rintro _ ⟨b0, b1, b2, b3, b4, b5, b6, b7, b8, b9, b10, b11, b12, b13, b14, b15, b16, b17, b18, b19, b20, b21, b22, b23, b24, b25, b26, rfl⟩
  refine v_weq (w9 := [(b0, .inr (1, [VI 0, VI 0, VI 0, VI 0, VI 0, VI 0])), (b1, .inr (1, [VI 0, VI 0, VI 0, VI 0, VI 0, VI 0])), (b2, .inr (1, [VI 0, VI 0, VI 0, VI 0, VI 0, VI 0])), (b3, .inr (1, [VI 0, VI 0, VI 0, VI 0, VI 0, VI 0])), (b4, .inr (1, [VI 0, VI 0, VI 0, VI 0, VI 0, VI 0])), (b5, .inr (1, [VI 0, VI 0, VI 0, VI 0, VI 0, VI 0])), (b6, .inr (1, [VI 0, VI 0, VI 0, VI 0, VI 0, VI 0])), (b7, .inr (1, [VI 0, VI 0, VI 0, VI 0, VI 0, VI 0])), (b8, .inr (3, [.ref b9, VI 0, VI 0, VI 0])), (b9, aI k 3 (fun _ => 0)), (b10, .inr (3, [.ref b11, VI 0, VI 0, VI 0])), (b11, aI k 3 (fun _ => 0)), (b12, .inr (3, [.ref b13, VI 0, VI 0, VI 0])), (b13, aI k 3 (fun _ => 0)), (b14, .inr (4, [.ref b15, .ref b16, .ref b17, .ref b18, .ref b19, VI 0])), (b15, aI k 3 (fun _ => 0)), (b16, aI k 3 (fun _ => 0)), (b17, aI k 1000 (fun _ => 0)), (b18, aI k 1000 (fun _ => 0)), (b19, aI k 1000 (fun _ => 0)), (b20, .inr (2, [VI 40, VI 4, VI 5])), (b21, .inr (0, [VI 8, VI 30, VI 60, VI 0])), (a, .inr (5, [.ref b21, .ref b20, .ref b22, .ref b23, .ref b14, .ref b24, .ref b25, .ref b26, VI 0, VI 0, VI 0, VI 0, VI 0, VI 0])), (b22, .inl (k 1, 3, .inr (.inr (.inr (.inr (va_up (va_up (va_up (fun _ => none) 0 (some b12)) 1 (some b10)) 2 (some b8))))))), (b23, .inl (k 2, 8, .inr (.inr (.inr (.inr (va_up (va_up (va_up (va_up (va_up (va_up (va_up (va_up (fun _ => none) 0 (some b7)) 1 (some b6)) 2 (some b5)) 3 (some b4)) 4 (some b3)) 5 (some b2)) 6 (some b1)) 7 (some b0))))))), (b24, aI k 3 (fun _ => 0)), (b25, aI k 3 (fun _ => 0)), (b26, aI k 3 (fun _ => 0))]) (List.append_nil _) ?_
  refine v_astore_n F (q := 8) [(1, .ref a), (0, .ref b)] dL_law_7 rfl (by decide) rfl rfl ?_
  refine v_rowcg (g := fun m => some ((hOf a b0 b1 b2 b3 b4 b5 b6 b7 b8 b9 b10 b11 b12 b13 b14 b15 b16 b17 b18 b19 b20 b21 b22 b23 b24 b25 b26) (9 + m))) 23 ([(b0, .inr (1, [VI 0, VI 0, VI 0, VI 0, VI 0, VI 0])), (b1, .inr (1, [VI 0, VI 0, VI 0, VI 0, VI 0, VI 0])), (b2, .inr (1, [VI 0, VI 0, VI 0, VI 0, VI 0, VI 0])), (b3, .inr (1, [VI 0, VI 0, VI 0, VI 0, VI 0, VI 0])), (b4, .inr (1, [VI 0, VI 0, VI 0, VI 0, VI 0, VI 0])), (b5, .inr (1, [VI 0, VI 0, VI 0, VI 0, VI 0, VI 0])), (b6, .inr (1, [VI 0, VI 0, VI 0, VI 0, VI 0, VI 0])), (b7, .inr (1, [VI 0, VI 0, VI 0, VI 0, VI 0, VI 0])), (b8, .inr (3, [.ref b9, VI 0, VI 0, VI 0])), (b9, aI k 3 (fun _ => 0)), (b10, .inr (3, [.ref b11, VI 0, VI 0, VI 0])), (b11, aI k 3 (fun _ => 0)), (b12, .inr (3, [.ref b13, VI 0, VI 0, VI 0])), (b13, aI k 3 (fun _ => 0)), (b14, .inr (4, [.ref b15, .ref b16, .ref b17, .ref b18, .ref b19, VI 0])), (b15, aI k 3 (fun _ => 0)), (b16, aI k 3 (fun _ => 0)), (b17, aI k 1000 (fun _ => 0)), (b18, aI k 1000 (fun _ => 0)), (b19, aI k 1000 (fun _ => 0)), (b20, .inr (2, [VI 40, VI 4, VI 5])), (b21, .inr (0, [VI 8, VI 30, VI 60, VI 0])), (a, .inr (5, [.ref b21, .ref b20, .ref b22, .ref b23, .ref b14, .ref b24, .ref b25, .ref b26, VI 0, VI 0, VI 0, VI 0, VI 0, VI 0])), (b22, .inl (k 1, 3, .inr (.inr (.inr (.inr (fun m => some ((hOf a b0 b1 b2 b3 b4 b5 b6 b7 b8 b9 b10 b11 b12 b13 b14 b15 b16 b17 b18 b19 b20 b21 b22 b23 b24 b25 b26) (9 + m)))))))), (b23, .inl (k 2, 8, .inr (.inr (.inr (.inr (va_up (va_up (va_up (va_up (va_up (va_up (va_up (va_up (fun _ => none) 0 (some b7)) 1 (some b6)) 2 (some b5)) 3 (some b4)) 4 (some b3)) 5 (some b2)) 6 (some b1)) 7 (some b0))))))), (b24, aI k 3 (fun _ => 0)), (b25, aI k 3 (fun _ => 0)), (b26, aI k 3 (fun _ => 0))]) rfl (fun j hj => by obtain rfl | rfl | rfl : j = 0 ∨ j = 1 ∨ j = 2 := (by omega); all_goals rfl) rfl ?_
  refine v_rowcg (g := fun m => some ((hOf a b0 b1 b2 b3 b4 b5 b6 b7 b8 b9 b10 b11 b12 b13 b14 b15 b16 b17 b18 b19 b20 b21 b22 b23 b24 b25 b26) (15 + m))) 24 ([(b0, .inr (1, [VI 0, VI 0, VI 0, VI 0, VI 0, VI 0])), (b1, .inr (1, [VI 0, VI 0, VI 0, VI 0, VI 0, VI 0])), (b2, .inr (1, [VI 0, VI 0, VI 0, VI 0, VI 0, VI 0])), (b3, .inr (1, [VI 0, VI 0, VI 0, VI 0, VI 0, VI 0])), (b4, .inr (1, [VI 0, VI 0, VI 0, VI 0, VI 0, VI 0])), (b5, .inr (1, [VI 0, VI 0, VI 0, VI 0, VI 0, VI 0])), (b6, .inr (1, [VI 0, VI 0, VI 0, VI 0, VI 0, VI 0])), (b7, .inr (1, [VI 0, VI 0, VI 0, VI 0, VI 0, VI 0])), (b8, .inr (3, [.ref b9, VI 0, VI 0, VI 0])), (b9, aI k 3 (fun _ => 0)), (b10, .inr (3, [.ref b11, VI 0, VI 0, VI 0])), (b11, aI k 3 (fun _ => 0)), (b12, .inr (3, [.ref b13, VI 0, VI 0, VI 0])), (b13, aI k 3 (fun _ => 0)), (b14, .inr (4, [.ref b15, .ref b16, .ref b17, .ref b18, .ref b19, VI 0])), (b15, aI k 3 (fun _ => 0)), (b16, aI k 3 (fun _ => 0)), (b17, aI k 1000 (fun _ => 0)), (b18, aI k 1000 (fun _ => 0)), (b19, aI k 1000 (fun _ => 0)), (b20, .inr (2, [VI 40, VI 4, VI 5])), (b21, .inr (0, [VI 8, VI 30, VI 60, VI 0])), (a, .inr (5, [.ref b21, .ref b20, .ref b22, .ref b23, .ref b14, .ref b24, .ref b25, .ref b26, VI 0, VI 0, VI 0, VI 0, VI 0, VI 0])), (b22, .inl (k 1, 3, .inr (.inr (.inr (.inr (fun m => some ((hOf a b0 b1 b2 b3 b4 b5 b6 b7 b8 b9 b10 b11 b12 b13 b14 b15 b16 b17 b18 b19 b20 b21 b22 b23 b24 b25 b26) (9 + m)))))))), (b23, .inl (k 2, 8, .inr (.inr (.inr (.inr (fun m => some ((hOf a b0 b1 b2 b3 b4 b5 b6 b7 b8 b9 b10 b11 b12 b13 b14 b15 b16 b17 b18 b19 b20 b21 b22 b23 b24 b25 b26) (15 + m)))))))), (b24, aI k 3 (fun _ => 0)), (b25, aI k 3 (fun _ => 0)), (b26, aI k 3 (fun _ => 0))]) rfl (fun j hj => by obtain rfl | rfl | rfl | rfl | rfl | rfl | rfl | rfl : j = 0 ∨ j = 1 ∨ j = 2 ∨ j = 3 ∨ j = 4 ∨ j = 5 ∨ j = 6 ∨ j = 7 := (by omega); all_goals rfl) rfl ?_
  refine v_perm (w' := cw k (hOf a b0 b1 b2 b3 b4 b5 b6 b7 b8 b9 b10 b11 b12 b13 b14 b15 b16 b17 b18 b19 b20 b21 b22 b23 b24 b25 b26) S00 Z00) (perm_of [22, 21, 20, 23, 24, 14, 25, 26, 27, 12, 10, 8, 13, 11, 9, 7, 6, 5, 4, 3, 2, 1, 0, 15, 16, 17, 18, 19] 28 (by decide) rfl rfl) ?_
  generalize hq : (hOf a b0 b1 b2 b3 b4 b5 b6 b7 b8 b9 b10 b11 b12 b13 b14 b15 b16 b17 b18 b19 b20 b21 b22 b23 b24 b25 b26) = hh
  have e0 : a = hh 0 := by rw [← hq]; rfl
  rw [e0]
  refine v_new F (C := RX6) (T := TX6) (N := 25) (ci := 6) (fs := [VI 0, VI 0, VI 0, VI 0, VI 0, VI 0, VI 0, VI 0, VI 0, VI 0, VI 0, VI 0, VI 0, VI 0, .null, .null, .null, .null, VI 0, .null, .null, .null, .null, .null, .null]) hin6 tyX6 tyX6_ok (by decide +kernel : Cond.classLink RL 63 RX6 ∈ wsL_law) (by decide +kernel) (by decide +kernel) rfl (fun j hj => match j, hj with | 0, _ => rfl | 1, _ => rfl | 2, _ => rfl | 3, _ => rfl | 4, _ => rfl | 5, _ => rfl | 6, _ => rfl | 7, _ => rfl | 8, _ => rfl | 9, _ => rfl | 10, _ => rfl | 11, _ => rfl | 12, _ => rfl | 13, _ => rfl | 14, _ => rfl | 15, _ => rfl | 16, _ => rfl | 17, _ => rfl | 18, _ => rfl | 19, _ => rfl | 20, _ => rfl | 21, _ => rfl | 22, _ => rfl | 23, _ => rfl | 24, _ => rfl | j + 25, h => absurd h (by omega)) (Nat.le_of_ble_eq_true rfl) (Nat.le_of_ble_eq_true rfl) (q := 11) dL_law_8 rfl (fun t9 => ?_)
  refine v_dup F (q := 12) dL_law_11 rfl rfl ?_
  refine v_rot ?_
  refine v_callIv F (kX6_init hst (k := k) (a := t9)) rfl gL_law_X6_init rfl (by decide +kernel) (by decide +kernel : Cond.methodLink RL 65 yX6_init ∈ wsL_law) (by decide +kernel) rfl ⟨by decide +kernel, by decide +kernel, by decide +kernel⟩ ⟨Nat.le_of_ble_eq_true rfl, Nat.le_of_ble_eq_true rfl⟩ rfl (Nat.le_of_ble_eq_true rfl) ⟨Nat.le_of_ble_eq_true rfl, Nat.le_of_ble_eq_true rfl⟩ (q := 15) dL_law_12 rfl ?_
  rintro _ ⟨g1, g2, g3, g4, g5, g6, g7, g8, g9, g10, rfl⟩
  refine v_weq (w9 := mw k (gOf t9 g1 g2 g3 g4 g5 g6 g7 g8 g9 g10) S00 Z00 ++ cw k hh S00 Z00) (by unfold mw; rw [wd0]; rfl) ?_
  generalize hq2 : (gOf t9 g1 g2 g3 g4 g5 g6 g7 g8 g9 g10) = gg
  have e1 : t9 = gg 0 := by rw [← hq2]; rfl
  rw [e1]
  refine v_rot ?_
  refine v_astore_n F (q := 16) [(2, .ref (gg 0)), (1, .ref (hh 0)), (0, .ref b)] dL_law_15 rfl (by decide) rfl rfl ?_
  refine v_const F (q := 17) dL_law_16 rfl ?_
  refine v_newl F (by decide +kernel) (Nat.le_of_ble_eq_true rfl) (Nat.le_of_ble_eq_true rfl) (q := 19) dL_law_17 rfl (fun ho => ?_)
  refine v_weq (List.append_assoc _ _ _) ?_
  refine v_astore_n F (q := 20) [(3, .ref ho), (2, .ref (gg 0)), (1, .ref (hh 0)), (0, .ref b)] dL_law_19 rfl (by decide) rfl rfl ?_
  refine v_const F (q := 21) dL_law_20 rfl ?_
  refine v_istore F (q := 23) [(4, VI ((5 * 0 : Nat) : Int)), (3, .ref ho), (2, .ref (gg 0)), (1, .ref (hh 0)), (0, .ref b)] dL_law_21 (by decide) rfl rfl ?_
  refine v_widen (c' := 60 + 0 * 200) (n' := 5300 + 0 * 1100) (Nat.le_of_ble_eq_true rfl) (Nat.le_of_ble_eq_true rfl) ?_
  exact law_loop F hst hX hbl hbA hL retT _ 0 S00 Z00 Z00 _ inv_S00 (Nat.zero_le _) (Nat.lt_succ_self _)
