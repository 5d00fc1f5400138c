/-! ===== the property's ship, chosen by cells ===== -/
abbrev shRm : Room := ({ frames := 7, cells := 200, slots := 4200, locals := 115 } : Room)
set_option maxRecDepth 100000 in
set_option maxHeartbeats 4000000 in
theorem sh525 {XX : vX} {l : Launch} {k : Nat → ClassId} (F : v_F XX l k yL_ship cL_ship 9 wsL_ship shRm) (hst : l.stackTraces = false) {b L : Nat} {xs : Nat → Int32} (hX : va_X b L xs XX.1.2.2.2.2 XX.1.2.2.2.2.heap) (hbl : b < XX.1.2.2.2.2.heap.size) (hbA : ¬ XX.2.2.2.2 b) (hL : L ≤ 2560) {h : Nat → Nat} (fin : ∀ (S Z : Nat → Nat → Int) (c n : Nat) (lv : List (Nat × Value)), Inv3 S → c ≤ 200 → n ≤ 4200 → V XX (cw k h S Z) c n 561 lv [.ref (h 0)]) {S Z : Nat → Nat → Int} (hI : Inv3 S) : V XX (cw k h S Z) 150 4000 525 [(1, .ref (h 0)), (0, .ref (b))] [] := by
  refine v_aload_n F 1 (q := 526) dL_ship_525 rfl rfl rfl ?_
  refine v_bipush F (q := 528) dL_ship_526 rfl rfl ?_
  refine v_cell F hst hX hbl hbA hL (by omega) gL_ship_L_cell ⟨Nat.le_of_ble_eq_true rfl, Nat.le_of_ble_eq_true rfl⟩ (Nat.le_of_ble_eq_true rfl) ⟨by show 150 ≤ 200; omega, by show 4000 ≤ 4200; omega⟩ (q := 531) dL_ship_528 rfl (fun a_1 h_1 => ?_)
  refine v_const F (q := 532) dL_ship_531 rfl ?_
  refine v_shr F (q := 533) dL_ship_532 rfl (fun a_2 h_2 => ?_)
  refine v_const F (q := 534) dL_ship_533 rfl ?_
  refine v_below F hst (by omega) gL_ship_L_below ⟨Nat.le_of_ble_eq_true rfl, Nat.le_of_ble_eq_true rfl⟩ (Nat.le_of_ble_eq_true rfl) ⟨by show 150 ≤ 200; omega, by show 4000 ≤ 4200; omega⟩ (q := 537) dL_ship_534 rfl (fun a_3 h_3 => ?_)
  refine v_if_ne F (tgt := 560) (q := 540) (by omega) dL_ship_537 rfl rfl (fun h_4 => ?_) (fun h_4 => ?_)
  · refine v_aload_n F 0 (q := 561) dL_ship_560 rfl rfl rfl ?_
    exact fin _ _ _ _ _ hI (by first | omega | (dsimp only; omega)) (by first | omega | (dsimp only; omega))
  · refine v_aload_n F 0 (q := 541) dL_ship_540 rfl rfl rfl ?_
    refine v_const F (q := 542) dL_ship_541 rfl ?_
    refine v_aload_n F 1 (q := 543) dL_ship_542 rfl rfl rfl ?_
    refine v_bipush F (q := 545) dL_ship_543 rfl rfl ?_
    refine v_cell F hst hX hbl hbA hL (by omega) gL_ship_L_cell ⟨Nat.le_of_ble_eq_true rfl, Nat.le_of_ble_eq_true rfl⟩ (Nat.le_of_ble_eq_true rfl) ⟨by show 150 ≤ 200; omega, by show 4000 ≤ 4200; omega⟩ (q := 548) dL_ship_545 rfl (fun a_5 h_5 => ?_)
    refine v_bipush F (q := 550) dL_ship_548 rfl rfl ?_
    refine v_shr F (q := 551) dL_ship_550 rfl (fun a_6 h_6 => ?_)
    refine v_const F (q := 552) dL_ship_551 rfl ?_
    refine v_below F hst (by omega) gL_ship_L_below ⟨Nat.le_of_ble_eq_true rfl, Nat.le_of_ble_eq_true rfl⟩ (Nat.le_of_ble_eq_true rfl) ⟨by show 150 ≤ 200; omega, by show 4000 ≤ 4200; omega⟩ (q := 555) dL_ship_552 rfl (fun a_7 h_7 => ?_)
    refine v_iadd F (q := 556) dL_ship_555 rfl ?_
    have e_8 : ePass (1 + a_7) = 0 := by unfold ePass; rw [if_pos (by omega)]
    refine v_callVt0 F (kX5_pass hst (k := k) (h := h) (S := S) (Z := Z) hI.1.1 (a0 := 1 + a_7) (by omega)) (fun E9 u9 h9 => absurd h9.2.1 (by rw [e_8]; decide)) gL_ship_X5_pass rfl hdX5_pass ⟨Nat.le_of_ble_eq_true rfl, Nat.le_of_ble_eq_true rfl⟩ 0 cw_at0 rfl rfl rfl (Nat.le_of_ble_eq_true rfl) ⟨by show 150 + 1 ≤ 200; omega, by show 4000 + 6 ≤ 4200; omega⟩ (q := 559) dL_ship_556 rfl ?_
    rintro a_8 _ ⟨rfl, -, h_8⟩
    refine v_weq (w9 := cw k h (sPass S (1 + a_7)) Z) rfl ?_
    have hJ : Inv3 (sPass S (1 + a_7)) := inv3_sPass hI _
    refine v_pop F (q := 560) dL_ship_559 rfl rfl ?_
    refine v_aload_n F 0 (q := 561) dL_ship_560 rfl rfl rfl ?_
    exact fin _ _ _ _ _ hJ (by first | omega | (dsimp only; omega)) (by first | omega | (dsimp only; omega))
set_option maxRecDepth 100000 in
set_option maxHeartbeats 4000000 in
theorem sh474 {XX : vX} {l : Launch} {k : Nat → ClassId} (F : v_F XX l k yL_ship cL_ship 9 wsL_ship shRm) (hst : l.stackTraces = false) {b L : Nat} {xs : Nat → Int32} (hX : va_X b L xs XX.1.2.2.2.2 XX.1.2.2.2.2.heap) (hbl : b < XX.1.2.2.2.2.heap.size) (hbA : ¬ XX.2.2.2.2 b) (hL : L ≤ 2560) {h : Nat → Nat} (fin : ∀ (S Z : Nat → Nat → Int) (c n : Nat) (lv : List (Nat × Value)), Inv3 S → c ≤ 200 → n ≤ 4200 → V XX (cw k h S Z) c n 561 lv [.ref (h 0)]) {S Z : Nat → Nat → Int} (hI : Inv3 S) {tT : Int} (hT : S 0 8 = tT) (hT2 : 0 ≤ tT ∧ tT ≤ 8) : V XX (cw k h S Z) 130 3900 474 [(4, VI tT), (1, .ref (h 0)), (0, .ref (b))] [] := by
  refine v_const F (q := 475) dL_ship_474 rfl ?_
  refine v_istore F (q := 477) [(5, VI 0), (4, VI tT), (1, .ref (h 0)), (0, .ref (b))] dL_ship_475 (by decide) rfl rfl ?_
  have L477_1 : ∀ (fu : Nat) (j : Nat) (Sx : Nat → Nat → Int), ((j : Int) ≤ tT ∧ Inv3 Sx ∧ Sx 0 8 = tT) → (tT - j).toNat < fu → V XX (cw k h Sx Z) (130 + 2 * j) (3900 + 12 * j) 477 [(5, VI ((j : Nat) : Int)), (4, VI tT), (1, .ref (h 0)), (0, .ref (b))] [] := by
    intro fu_477
    induction fu_477 with
    | zero => intros; omega
    | succ fu_477 ih_477 =>
      intro j Sx hv hm_477
      obtain ⟨hv1, hI1, hv3⟩ := hv
      refine v_iload F 0 (q := 479) dL_ship_477 rfl rfl ?_
      refine v_iload F 1 (q := 481) dL_ship_479 rfl rfl ?_
      refine v_icmp_ge F (tgt := 525) (q := 484) (by omega) (by omega) dL_ship_481 rfl rfl (fun h_2 => ?_) (fun h_2 => ?_)
      · refine v_sub [2, 3] rfl ?_
        refine v_widen (c' := 150) (n' := 4000) (by first | omega | (dsimp only; omega)) (by first | omega | (dsimp only; omega)) ?_
        exact sh525 F hst hX hbl hbA hL fin hI1
      · refine v_aload_n F 2 (q := 485) dL_ship_484 rfl rfl rfl ?_
        refine v_iload F 0 (q := 487) dL_ship_485 rfl rfl ?_
        refine v_const F (q := 488) dL_ship_487 rfl ?_
        have e_3 : eThr Sx ((j : Nat) : Int) 3 = 0 := by unfold eThr; rw [if_pos (by omega)]
        refine v_callVt0 F (kX5_thread hst (k := k) (h := h) (S := Sx) (Z := Z) hI1.1.1 (a0 := ((j : Nat) : Int)) (a1 := 3) (by omega) (by omega)) (fun E9 u9 h9 => absurd h9.2.1 (by rw [e_3]; decide)) gL_ship_X5_thread rfl hdX5_thread ⟨Nat.le_of_ble_eq_true rfl, Nat.le_of_ble_eq_true rfl⟩ 0 cw_at0 rfl rfl rfl (Nat.le_of_ble_eq_true rfl) ⟨by show 130 + 2 * j + 1 ≤ 200; omega, by show 3900 + 12 * j + 6 ≤ 4200; omega⟩ (q := 491) dL_ship_488 rfl ?_
        rintro a_3 _ ⟨rfl, -, h_3⟩
        refine v_cast (b := Sx 8 j) (h_3.trans (tv3 _ _)) ?_
        have b_3 := hI1.1.1.st j
        refine v_if_ne F (tgt := 519) (q := 494) (by omega) dL_ship_491 rfl rfl (fun h_4 => ?_) (fun h_4 => ?_)
        · refine v_iinc F (q := 522) (z := ((j + 1 : Nat) : Int)) 0 [(5, VI ((j + 1 : Nat) : Int)), (4, VI tT), (1, .ref (h 0)), (0, .ref (b))] dL_ship_519 rfl (by decide) (by omega) rfl rfl ?_
          refine v_goto F (tgt := 477) dL_ship_522 rfl ?_
          refine v_widen (c' := 130 + 2 * (j + 1)) (n' := 3900 + 12 * (j + 1)) (by first | omega | (dsimp only; omega)) (by first | omega | (dsimp only; omega)) ?_
          exact ih_477 (j + 1) Sx (by exact ⟨by omega, hI1, hv3⟩) (by omega)
        · refine v_aload_n F 3 (q := 495) dL_ship_494 rfl rfl rfl ?_
          refine v_bipush F (q := 497) dL_ship_495 rfl rfl ?_
          refine v_cell F hst hX hbl hbA hL (by omega) gL_ship_L_cell ⟨Nat.le_of_ble_eq_true rfl, Nat.le_of_ble_eq_true rfl⟩ (Nat.le_of_ble_eq_true rfl) ⟨by show 130 + 2 * j + 1 ≤ 200; omega, by show 3900 + 12 * j + 6 ≤ 4200; omega⟩ (q := 500) dL_ship_497 rfl (fun a_5 h_5 => ?_)
          refine v_const F (q := 501) dL_ship_500 rfl ?_
          refine v_iload F 0 (q := 503) dL_ship_501 rfl rfl ?_
          refine v_imul F (q := 504) dL_ship_503 rfl ?_
          refine v_shr F (q := 505) dL_ship_504 rfl (fun a_6 h_6 => ?_)
          refine v_const F (q := 506) dL_ship_505 rfl ?_
          refine v_below F hst (by omega) gL_ship_L_below ⟨Nat.le_of_ble_eq_true rfl, Nat.le_of_ble_eq_true rfl⟩ (Nat.le_of_ble_eq_true rfl) ⟨by show 130 + 2 * j + 1 ≤ 200; omega, by show 3900 + 12 * j + 6 ≤ 4200; omega⟩ (q := 509) dL_ship_506 rfl (fun a_7 h_7 => ?_)
          refine v_if_ne F (tgt := 519) (q := 512) (by omega) dL_ship_509 rfl rfl (fun h_8 => ?_) (fun h_8 => ?_)
          · refine v_iinc F (q := 522) (z := ((j + 1 : Nat) : Int)) 0 [(5, VI ((j + 1 : Nat) : Int)), (4, VI tT), (1, .ref (h 0)), (0, .ref (b))] dL_ship_519 rfl (by decide) (by omega) rfl rfl ?_
            refine v_goto F (tgt := 477) dL_ship_522 rfl ?_
            refine v_widen (c' := 130 + 2 * (j + 1)) (n' := 3900 + 12 * (j + 1)) (by first | omega | (dsimp only; omega)) (by first | omega | (dsimp only; omega)) ?_
            exact ih_477 (j + 1) Sx (by exact ⟨by omega, hI1, hv3⟩) (by omega)
          · refine v_aload_n F 2 (q := 513) dL_ship_512 rfl rfl rfl ?_
            refine v_iload F 0 (q := 515) dL_ship_513 rfl rfl ?_
            have e_9 : eGlue Sx ((j : Nat) : Int) = 0 := by unfold eGlue; (try simp only [Int.toNat_natCast]); rw [if_pos (by omega), if_neg (by omega)]
            refine v_callVt0 F (kX5_glue hst (k := k) (h := h) (S := Sx) (Z := Z) hI1.1.1 (a0 := ((j : Nat) : Int)) (by omega)) (fun E9 u9 h9 => by rcases h9.2 with z | z <;> (have z1 := z.1; rw [e_9] at z1; exact absurd z1 (by decide))) gL_ship_X5_glue rfl hdX5_glue ⟨Nat.le_of_ble_eq_true rfl, Nat.le_of_ble_eq_true rfl⟩ 0 cw_at0 rfl rfl rfl (Nat.le_of_ble_eq_true rfl) ⟨by show 130 + 2 * j + 1 + 1 ≤ 200; omega, by show 3900 + 12 * j + 6 + 6 ≤ 4200; omega⟩ (q := 518) dL_ship_515 rfl ?_
            rintro a_9 _ ⟨rfl, -, h_9⟩
            refine v_weq (w9 := cw k h (sGlue Sx j) Z) rfl ?_
            have hJ : Inv3 (sGlue Sx j) := inv3_sGlue hI1 e_9
            refine v_cast (b := 1 - Sx 8 j) h_9 ?_
            refine v_pop F (q := 519) dL_ship_518 rfl rfl ?_
            refine v_iinc F (q := 522) (z := ((j + 1 : Nat) : Int)) 0 [(5, VI ((j + 1 : Nat) : Int)), (4, VI tT), (1, .ref (h 0)), (0, .ref (b))] dL_ship_519 rfl (by decide) (by omega) rfl rfl ?_
            refine v_goto F (tgt := 477) dL_ship_522 rfl ?_
            refine v_widen (c' := 130 + 2 * (j + 1)) (n' := 3900 + 12 * (j + 1)) (by first | omega | (dsimp only; omega)) (by first | omega | (dsimp only; omega)) ?_
            exact ih_477 (j + 1) (sGlue Sx j) (by exact ⟨by omega, hJ, hv3⟩) (by omega)
  refine v_widen (c' := 130 + 2 * 0) (n' := 3900 + 12 * 0) (by first | omega | (dsimp only; omega)) (by first | omega | (dsimp only; omega)) ?_
  exact L477_1 _ 0 S (by exact ⟨by omega, hI, hT⟩) (Nat.lt_succ_self _)
set_option maxRecDepth 100000 in
set_option maxHeartbeats 4000000 in
theorem sh403 {XX : vX} {l : Launch} {k : Nat → ClassId} (F : v_F XX l k yL_ship cL_ship 9 wsL_ship shRm) (hst : l.stackTraces = false) {b L : Nat} {xs : Nat → Int32} (hX : va_X b L xs XX.1.2.2.2.2 XX.1.2.2.2.2.heap) (hbl : b < XX.1.2.2.2.2.heap.size) (hbA : ¬ XX.2.2.2.2 b) (hL : L ≤ 2560) {h : Nat → Nat} (fin : ∀ (S Z : Nat → Nat → Int) (c n : Nat) (lv : List (Nat × Value)), Inv3 S → c ≤ 200 → n ≤ 4200 → V XX (cw k h S Z) c n 561 lv [.ref (h 0)]) {S Z : Nat → Nat → Int} (hI : Inv3 S) {tT : Int} (hT : S 0 8 = tT) (hT2 : 0 ≤ tT ∧ tT ≤ 8) : V XX (cw k h S Z) 100 3700 403 [(4, VI tT), (1, .ref (h 0)), (0, .ref (b))] [] := by
  refine v_aload_n F 2 (q := 404) dL_ship_403 rfl rfl rfl ?_
  refine v_bipush F (q := 406) dL_ship_404 rfl rfl ?_
  refine v_cell F hst hX hbl hbA hL (by omega) gL_ship_L_cell ⟨Nat.le_of_ble_eq_true rfl, Nat.le_of_ble_eq_true rfl⟩ (Nat.le_of_ble_eq_true rfl) ⟨by show 100 ≤ 200; omega, by show 3700 ≤ 4200; omega⟩ (q := 409) dL_ship_406 rfl (fun a_1 h_1 => ?_)
  refine v_bipush F (q := 411) dL_ship_409 rfl rfl ?_
  refine v_below F hst (by omega) gL_ship_L_below ⟨Nat.le_of_ble_eq_true rfl, Nat.le_of_ble_eq_true rfl⟩ (Nat.le_of_ble_eq_true rfl) ⟨by show 100 ≤ 200; omega, by show 3700 ≤ 4200; omega⟩ (q := 414) dL_ship_411 rfl (fun i0 h_i0 => ?_)
  refine v_istore F (q := 416) [(5, VI i0), (4, VI tT), (1, .ref (h 0)), (0, .ref (b))] dL_ship_414 (by decide) rfl rfl ?_
  have L416_3 : ∀ (fu : Nat) (i : Int) (Sx : Nat → Nat → Int) (Zx : Nat → Nat → Int), ((0 ≤ i ∧ i ≤ 13) ∧ Inv3 Sx ∧ Sx 0 8 = tT) → i.toNat < fu → V XX (cw k h Sx Zx) (100 + 2 * (13 - i.toNat)) (3700 + 12 * (13 - i.toNat)) 416 [(5, VI i), (4, VI tT), (1, .ref (h 0)), (0, .ref (b))] [] := by
    intro fu_416
    induction fu_416 with
    | zero => intros; omega
    | succ fu_416 ih_416 =>
      intro i Sx Zx hv hm_416
      obtain ⟨hv1, hI1, hv3⟩ := hv
      refine v_iload F 0 (q := 418) dL_ship_416 rfl rfl ?_
      refine v_if_le F (tgt := 474) (q := 421) (by omega) dL_ship_418 rfl rfl (fun h_4 => ?_) (fun h_4 => ?_)
      · refine v_sub [1, 2, 3] rfl ?_
        refine v_widen (c' := 130) (n' := 3900) (by first | omega | (dsimp only; omega)) (by first | omega | (dsimp only; omega)) ?_
        exact sh474 F hst hX hbl hbA hL fin hI1 hv3 hT2
      · refine v_iload F 1 (q := 423) dL_ship_421 rfl rfl ?_
        refine v_if_le F (tgt := 474) (q := 426) (by omega) dL_ship_423 rfl rfl (fun h_5 => ?_) (fun h_5 => ?_)
        · refine v_sub [1, 2, 3] rfl ?_
          refine v_widen (c' := 130) (n' := 3900) (by first | omega | (dsimp only; omega)) (by first | omega | (dsimp only; omega)) ?_
          exact sh474 F hst hX hbl hbA hL fin hI1 hv3 hT2
        · refine v_aload_n F 3 (q := 427) dL_ship_426 rfl rfl rfl ?_
          refine v_bipush F (q := 429) dL_ship_427 rfl rfl ?_
          refine v_iload F 0 (q := 431) dL_ship_429 rfl rfl ?_
          refine v_const F (q := 432) dL_ship_431 rfl ?_
          refine v_irem F (q := 433) (by omega) (by omega) dL_ship_432 rfl ?_
          refine v_iadd F (q := 434) dL_ship_433 rfl ?_
          refine v_cell F hst hX hbl hbA hL (by omega) gL_ship_L_cell ⟨Nat.le_of_ble_eq_true rfl, Nat.le_of_ble_eq_true rfl⟩ (Nat.le_of_ble_eq_true rfl) ⟨by show 100 + 2 * (13 - i.toNat) ≤ 200; omega, by show 3700 + 12 * (13 - i.toNat) ≤ 4200; omega⟩ (q := 437) dL_ship_434 rfl (fun a_6 h_6 => ?_)
          refine v_iload F 0 (q := 439) dL_ship_437 rfl rfl ?_
          refine v_shr F (q := 440) dL_ship_439 rfl (fun a_7 h_7 => ?_)
          refine v_istore F (q := 442) [(6, VI a_7), (5, VI i), (4, VI tT), (1, .ref (h 0)), (0, .ref (b))] dL_ship_440 (by decide) rfl rfl ?_
          refine v_iload F 0 (q := 444) dL_ship_442 rfl rfl ?_
          refine v_iload F 2 (q := 446) dL_ship_444 rfl rfl ?_
          refine v_below F hst (by omega) gL_ship_L_below ⟨Nat.le_of_ble_eq_true rfl, Nat.le_of_ble_eq_true rfl⟩ (Nat.le_of_ble_eq_true rfl) ⟨by show 100 + 2 * (13 - i.toNat) ≤ 200; omega, by show 3700 + 12 * (13 - i.toNat) ≤ 4200; omega⟩ (q := 449) dL_ship_446 rfl (fun a_8 h_8 => ?_)
          refine v_istore F (q := 451) [(7, VI a_8), (6, VI a_7), (5, VI i), (4, VI tT), (1, .ref (h 0)), (0, .ref (b))] dL_ship_449 (by decide) rfl rfl ?_
          refine v_aload_n F 4 (q := 452) dL_ship_451 rfl rfl rfl ?_
          refine v_iload F 0 (q := 454) dL_ship_452 rfl rfl ?_
          refine v_const F (q := 455) dL_ship_454 rfl ?_
          have e_9 : eThr Sx a_8 3 = 0 := by unfold eThr; rw [if_pos (by omega)]
          refine v_callVt0 F (kX5_thread hst (k := k) (h := h) (S := Sx) (Z := Zx) hI1.1.1 (a0 := a_8) (a1 := 3) (by omega) (by omega)) (fun E9 u9 h9 => absurd h9.2.1 (by rw [e_9]; decide)) gL_ship_X5_thread rfl hdX5_thread ⟨Nat.le_of_ble_eq_true rfl, Nat.le_of_ble_eq_true rfl⟩ 0 cw_at0 rfl rfl rfl (Nat.le_of_ble_eq_true rfl) ⟨by show 100 + 2 * (13 - i.toNat) + 1 ≤ 200; omega, by show 3700 + 12 * (13 - i.toNat) + 6 ≤ 4200; omega⟩ (q := 458) dL_ship_455 rfl ?_
          rintro a_9 _ ⟨rfl, -, h_9⟩
          refine v_cast (b := Sx 8 (a_8.toNat)) (h_9.trans (tv3 _ _)) ?_
          have b_9 := hI1.1.1.st (a_8.toNat)
          refine v_if_ne F (tgt := 468) (q := 461) (by omega) dL_ship_458 rfl rfl (fun h_10 => ?_) (fun h_10 => ?_)
          · refine v_iinc F (q := 471) (z := i + -1) 2 [(5, VI (i + -1)), (7, VI a_8), (6, VI a_7), (4, VI tT), (1, .ref (h 0)), (0, .ref (b))] dL_ship_468 rfl (by decide) rfl rfl rfl ?_
            refine v_goto F (tgt := 416) dL_ship_471 rfl ?_
            refine v_sub [0, 3, 4, 5] rfl ?_
            refine v_widen (c' := 100 + 2 * (13 - (i + -1).toNat)) (n' := 3700 + 12 * (13 - (i + -1).toNat)) (by first | omega | (dsimp only; omega)) (by first | omega | (dsimp only; omega)) ?_
            exact ih_416 (i + -1) Sx Zx (by exact ⟨by omega, hI1, hv3⟩) (by omega)
          · refine v_aload_n F 4 (q := 462) dL_ship_461 rfl rfl rfl ?_
            refine v_iload F 0 (q := 464) dL_ship_462 rfl rfl ?_
            have e_11 : ePull Sx a_8 = 0 := by unfold ePull; (try simp only [Int.toNat_natCast]); rw [if_pos (by omega), if_pos (by omega)]
            refine v_callVt0 F (kX5_pull hst (k := k) (h := h) (S := Sx) (Z := Zx) hI1.1.1 (a0 := a_8) (by omega)) (fun E9 u9 h9 => by rcases h9.2 with z | z <;> (have z1 := z.1; rw [e_11] at z1; exact absurd z1 (by decide))) gL_ship_X5_pull rfl hdX5_pull ⟨Nat.le_of_ble_eq_true rfl, Nat.le_of_ble_eq_true rfl⟩ 0 cw_at0 rfl rfl rfl (Nat.le_of_ble_eq_true rfl) ⟨by show 100 + 2 * (13 - i.toNat) + 1 + 1 ≤ 200; omega, by show 3700 + 12 * (13 - i.toNat) + 6 + 6 ≤ 4200; omega⟩ (q := 467) dL_ship_464 rfl ?_
            rintro a_11 _ ⟨Z_11, rfl, -, h_11⟩
            refine v_weq (w9 := cw k h (sPull Sx (a_8.toNat)) Z_11) rfl ?_
            have hJ : Inv3 (sPull Sx (a_8.toNat)) := inv3_sPull hI1 e_11
            obtain ⟨-, -, -, -, -, -, -, -, -, p8, -⟩ := pul_f hI1 (t := a_8.toNat) (by omega) (by omega)
            refine v_pop F (q := 468) dL_ship_467 rfl rfl ?_
            refine v_iinc F (q := 471) (z := i + -1) 2 [(5, VI (i + -1)), (7, VI a_8), (6, VI a_7), (4, VI tT), (1, .ref (h 0)), (0, .ref (b))] dL_ship_468 rfl (by decide) rfl rfl rfl ?_
            refine v_goto F (tgt := 416) dL_ship_471 rfl ?_
            refine v_sub [0, 3, 4, 5] rfl ?_
            refine v_widen (c' := 100 + 2 * (13 - (i + -1).toNat)) (n' := 3700 + 12 * (13 - (i + -1).toNat)) (by first | omega | (dsimp only; omega)) (by first | omega | (dsimp only; omega)) ?_
            exact ih_416 (i + -1) (sPull Sx (a_8.toNat)) Z_11 (by exact ⟨by omega, hJ, p8.trans hv3⟩) (by omega)
  refine v_widen (c' := 100 + 2 * (13 - i0.toNat)) (n' := 3700 + 12 * (13 - i0.toNat)) (by first | omega | (dsimp only; omega)) (by first | omega | (dsimp only; omega)) ?_
  exact L416_3 _ i0 S Z (by exact ⟨by omega, hI, hT⟩) (Nat.lt_succ_self _)
set_option maxRecDepth 100000 in
set_option maxHeartbeats 4000000 in
theorem sh385 {XX : vX} {l : Launch} {k : Nat → ClassId} (F : v_F XX l k yL_ship cL_ship 9 wsL_ship shRm) (hst : l.stackTraces = false) {b L : Nat} {xs : Nat → Int32} (hX : va_X b L xs XX.1.2.2.2.2 XX.1.2.2.2.2.heap) (hbl : b < XX.1.2.2.2.2.heap.size) (hbA : ¬ XX.2.2.2.2 b) (hL : L ≤ 2560) {h : Nat → Nat} (fin : ∀ (S Z : Nat → Nat → Int) (c n : Nat) (lv : List (Nat × Value)), Inv3 S → c ≤ 200 → n ≤ 4200 → V XX (cw k h S Z) c n 561 lv [.ref (h 0)]) {S Z : Nat → Nat → Int} (hI : Inv3 S) {tT : Int} (hT : S 0 8 = tT) (hT2 : 0 ≤ tT ∧ tT ≤ 8) : V XX (cw k h S Z) 100 3700 385 [(4, VI tT), (1, .ref (h 0)), (0, .ref (b))] [] := by
  have e8 : sEnter S 0 8 = S 0 8 := by unfold sEnter; split <;> rfl
  refine v_aload_n F 2 (q := 386) dL_ship_385 rfl rfl rfl ?_
  refine v_bipush F (q := 388) dL_ship_386 rfl rfl ?_
  refine v_cell F hst hX hbl hbA hL (by omega) gL_ship_L_cell ⟨Nat.le_of_ble_eq_true rfl, Nat.le_of_ble_eq_true rfl⟩ (Nat.le_of_ble_eq_true rfl) ⟨by show 100 ≤ 200; omega, by show 3700 ≤ 4200; omega⟩ (q := 391) dL_ship_388 rfl (fun a_1 h_1 => ?_)
  refine v_const F (q := 392) dL_ship_391 rfl ?_
  refine v_below F hst (by omega) gL_ship_L_below ⟨Nat.le_of_ble_eq_true rfl, Nat.le_of_ble_eq_true rfl⟩ (Nat.le_of_ble_eq_true rfl) ⟨by show 100 ≤ 200; omega, by show 3700 ≤ 4200; omega⟩ (q := 395) dL_ship_392 rfl (fun a_2 h_2 => ?_)
  refine v_if_le F (tgt := 403) (q := 398) (by omega) dL_ship_395 rfl rfl (fun h_3 => ?_) (fun h_3 => ?_)
  · refine v_widen (c' := 100) (n' := 3700) (by first | omega | (dsimp only; omega)) (by first | omega | (dsimp only; omega)) ?_
    exact sh403 F hst hX hbl hbA hL fin hI hT hT2
  · refine v_aload_n F 1 (q := 399) dL_ship_398 rfl rfl rfl ?_
    refine v_callVi0 F (kX5_enter hst (k := k) (h := h) (S := S) (Z := Z) hI.1.1) gL_ship_X5_enter rfl hdX5_enter ⟨Nat.le_of_ble_eq_true rfl, Nat.le_of_ble_eq_true rfl⟩ 0 cw_at0 rfl rfl rfl (Nat.le_of_ble_eq_true rfl) ⟨by show 100 + 0 ≤ 200; omega, by show 3700 + 0 ≤ 4200; omega⟩ (q := 402) dL_ship_399 rfl ?_
    rintro a_4 _ ⟨rfl, h_4⟩
    refine v_weq (w9 := cw k h (sEnter S) Z) rfl ?_
    have h_4 := vB_bI h_4
    refine v_cast (b := bI (entB S)) h_4 ?_
    have b_4 := bI_bd (entB S)
    refine v_pop F (q := 403) dL_ship_402 rfl rfl ?_
    refine v_widen (c' := 100) (n' := 3700) (by first | omega | (dsimp only; omega)) (by first | omega | (dsimp only; omega)) ?_
    exact sh403 F hst hX hbl hbA hL fin (inv3_sEnter hI) (e8.trans hT) hT2
set_option maxRecDepth 100000 in
set_option maxHeartbeats 4000000 in
theorem sh266 {XX : vX} {l : Launch} {k : Nat → ClassId} (F : v_F XX l k yL_ship cL_ship 9 wsL_ship shRm) (hst : l.stackTraces = false) {b L : Nat} {xs : Nat → Int32} (hX : va_X b L xs XX.1.2.2.2.2 XX.1.2.2.2.2.heap) (hbl : b < XX.1.2.2.2.2.heap.size) (hbA : ¬ XX.2.2.2.2 b) (hL : L ≤ 2560) {h : Nat → Nat} (fin : ∀ (S Z : Nat → Nat → Int) (c n : Nat) (lv : List (Nat × Value)), Inv3 S → c ≤ 200 → n ≤ 4200 → V XX (cw k h S Z) c n 561 lv [.ref (h 0)]) {S Z : Nat → Nat → Int} (hI : Inv3 S) {tM : Int} (hM : S 0 7 = tM) (hM2 : 1 ≤ tM ∧ tM ≤ 3) (hT0 : S 0 8 = 0) : V XX (cw k h S Z) 80 3600 266 [(3, VI tM), (1, .ref (h 0)), (0, .ref (b))] [] := by
  refine v_aload_n F 2 (q := 267) dL_ship_266 rfl rfl rfl ?_
  refine v_bipush F (q := 269) dL_ship_267 rfl rfl ?_
  refine v_cell F hst hX hbl hbA hL (by omega) gL_ship_L_cell ⟨Nat.le_of_ble_eq_true rfl, Nat.le_of_ble_eq_true rfl⟩ (Nat.le_of_ble_eq_true rfl) ⟨by show 80 ≤ 200; omega, by show 3600 ≤ 4200; omega⟩ (q := 272) dL_ship_269 rfl (fun a_1 h_1 => ?_)
  refine v_bipush F (q := 274) dL_ship_272 rfl rfl ?_
  refine v_below F hst (by omega) gL_ship_L_below ⟨Nat.le_of_ble_eq_true rfl, Nat.le_of_ble_eq_true rfl⟩ (Nat.le_of_ble_eq_true rfl) ⟨by show 80 ≤ 200; omega, by show 3600 ≤ 4200; omega⟩ (q := 277) dL_ship_274 rfl (fun tT h_tT => ?_)
  refine v_istore F (q := 279) [(4, VI tT), (3, VI tM), (1, .ref (h 0)), (0, .ref (b))] dL_ship_277 (by decide) rfl rfl ?_
  refine v_const F (q := 280) dL_ship_279 rfl ?_
  refine v_istore F (q := 282) [(5, VI 0), (4, VI tT), (3, VI tM), (1, .ref (h 0)), (0, .ref (b))] dL_ship_280 (by decide) rfl rfl ?_
  have L282_3 : ∀ (fu : Nat) (j : Nat) (Sx : Nat → Nat → Int), ((j : Int) ≤ tT ∧ Inv3 Sx ∧ Sx 0 7 = tM ∧ Sx 0 8 = (j : Int)) → (tT - j).toNat < fu → V XX (cw k h Sx Z) (80 + j) (3600 + 6 * j) 282 [(5, VI ((j : Nat) : Int)), (4, VI tT), (3, VI tM), (1, .ref (h 0)), (0, .ref (b))] [] := by
    intro fu_282
    induction fu_282 with
    | zero => intros; omega
    | succ fu_282 ih_282 =>
      intro j Sx hv hm_282
      obtain ⟨hv1, hI1, hv3, hv4⟩ := hv
      refine v_iload F 0 (q := 284) dL_ship_282 rfl rfl ?_
      refine v_iload F 1 (q := 286) dL_ship_284 rfl rfl ?_
      refine v_icmp_ge F (tgt := 385) (q := 289) (by omega) (by omega) dL_ship_286 rfl rfl (fun h_4 => ?_) (fun h_4 => ?_)
      · refine v_sub [1, 3, 4] rfl ?_
        refine v_widen (c' := 100) (n' := 3700) (by first | omega | (dsimp only; omega)) (by first | omega | (dsimp only; omega)) ?_
        exact sh385 F hst hX hbl hbA hL fin hI1 (by omega) (by omega)
      · refine v_aload_n F 4 (q := 290) dL_ship_289 rfl rfl rfl ?_
        refine v_bipush F (q := 292) dL_ship_290 rfl rfl ?_
        refine v_iload F 0 (q := 294) dL_ship_292 rfl rfl ?_
        refine v_const F (q := 295) dL_ship_294 rfl ?_
        refine v_irem F (q := 296) (by omega) (by omega) dL_ship_295 rfl ?_
        refine v_iadd F (q := 297) dL_ship_296 rfl ?_
        refine v_cell F hst hX hbl hbA hL (by omega) gL_ship_L_cell ⟨Nat.le_of_ble_eq_true rfl, Nat.le_of_ble_eq_true rfl⟩ (Nat.le_of_ble_eq_true rfl) ⟨by show 80 + j ≤ 200; omega, by show 3600 + 6 * j ≤ 4200; omega⟩ (q := 300) dL_ship_297 rfl (fun a_5 h_5 => ?_)
        refine v_iload F 0 (q := 302) dL_ship_300 rfl rfl ?_
        refine v_const F (q := 303) dL_ship_302 rfl ?_
        refine v_idiv F (q := 304) (by omega) (by omega) dL_ship_303 rfl ?_
        refine v_bipush F (q := 306) dL_ship_304 rfl rfl ?_
        refine v_imul F (q := 307) dL_ship_306 rfl ?_
        refine v_shr F (q := 308) dL_ship_307 rfl (fun a_6 h_6 => ?_)
        refine v_istore F (q := 310) [(6, VI a_6), (5, VI ((j : Nat) : Int)), (4, VI tT), (3, VI tM), (1, .ref (h 0)), (0, .ref (b))] dL_ship_308 (by decide) rfl rfl ?_
        refine v_iload F 0 (q := 312) dL_ship_310 rfl rfl ?_
        refine v_iload_n F 3 (q := 313) dL_ship_312 rfl rfl rfl ?_
        refine v_below F hst (by omega) gL_ship_L_below ⟨Nat.le_of_ble_eq_true rfl, Nat.le_of_ble_eq_true rfl⟩ (Nat.le_of_ble_eq_true rfl) ⟨by show 80 + j ≤ 200; omega, by show 3600 + 6 * j ≤ 4200; omega⟩ (q := 316) dL_ship_313 rfl (fun fr h_fr => ?_)
        refine v_istore F (q := 318) [(7, VI fr), (6, VI a_6), (5, VI ((j : Nat) : Int)), (4, VI tT), (3, VI tM), (1, .ref (h 0)), (0, .ref (b))] dL_ship_316 (by decide) rfl rfl ?_
        refine v_iload F 1 (q := 320) dL_ship_318 rfl rfl ?_
        refine v_const F (q := 321) dL_ship_320 rfl ?_
        refine v_shr F (q := 322) dL_ship_321 rfl (fun a_8 h_8 => ?_)
        refine v_iload_n F 4 (q := 323) dL_ship_322 rfl rfl rfl ?_
        refine v_const F (q := 324) dL_ship_323 rfl ?_
        refine v_iadd F (q := 325) dL_ship_324 rfl ?_
        refine v_below F hst (by omega) gL_ship_L_below ⟨Nat.le_of_ble_eq_true rfl, Nat.le_of_ble_eq_true rfl⟩ (Nat.le_of_ble_eq_true rfl) ⟨by show 80 + j ≤ 200; omega, by show 3600 + 6 * j ≤ 4200; omega⟩ (q := 328) dL_ship_325 rfl (fun to9 h_to9 => ?_)
        refine v_const F (q := 329) dL_ship_328 rfl ?_
        refine v_isub F (q := 330) dL_ship_329 rfl ?_
        refine v_istore F (q := 332) [(8, VI (to9 - 1)), (7, VI fr), (6, VI a_6), (5, VI ((j : Nat) : Int)), (4, VI tT), (3, VI tM), (1, .ref (h 0)), (0, .ref (b))] dL_ship_330 (by decide) rfl rfl ?_
        refine v_aload_n F 6 (q := 333) dL_ship_332 rfl rfl rfl ?_
        refine v_iload F 1 (q := 335) dL_ship_333 rfl rfl ?_
        refine v_iload F 0 (q := 337) dL_ship_335 rfl rfl ?_
        refine v_iload F 1 (q := 339) dL_ship_337 rfl rfl ?_
        refine v_icmp_ne F (tgt := 346) (q := 342) (by omega) (by omega) dL_ship_339 rfl rfl (fun h_10 => ?_) (fun h_10 => ?_)
        · refine v_iload F 0 (q := 348) dL_ship_346 rfl rfl ?_
          refine v_iload F 2 (q := 350) dL_ship_348 rfl rfl ?_
          refine v_bipush F (q := 352) dL_ship_350 rfl rfl ?_
          refine v_shr F (q := 353) dL_ship_352 rfl (fun a_11 h_11 => ?_)
          refine v_const F (q := 354) dL_ship_353 rfl ?_
          refine v_below F hst (by omega) gL_ship_L_below ⟨Nat.le_of_ble_eq_true rfl, Nat.le_of_ble_eq_true rfl⟩ (Nat.le_of_ble_eq_true rfl) ⟨by show 80 + j ≤ 200; omega, by show 3600 + 6 * j ≤ 4200; omega⟩ (q := 357) dL_ship_354 rfl (fun a_12 h_12 => ?_)
          refine v_if_ne F (tgt := 374) (q := 360) (by omega) dL_ship_357 rfl rfl (fun h_13 => ?_) (fun h_13 => ?_)
          · refine v_const F (q := 375) dL_ship_374 rfl ?_
            have e_14 : eLead Sx fr (to9 - 1) 5 = 0 := by unfold eLead; rw [if_pos (by omega), if_pos (by omega), if_pos (by omega)]
            refine v_callVt0 F (kX5_lead hst (k := k) (h := h) (S := Sx) (Z := Z) hI1.1.1 (a0 := fr) (a1 := to9 - 1) (a2 := 5) (by omega) (by omega) (by omega)) (fun E9 u9 h9 => by rcases h9.2 with z | z | z <;> (have z1 := z.1; rw [e_14] at z1; exact absurd z1 (by decide))) gL_ship_X5_lead rfl hdX5_lead ⟨Nat.le_of_ble_eq_true rfl, Nat.le_of_ble_eq_true rfl⟩ 0 cw_at0 rfl rfl rfl (Nat.le_of_ble_eq_true rfl) ⟨by show 80 + j + 1 ≤ 200; omega, by show 3600 + 6 * j + 6 ≤ 4200; omega⟩ (q := 378) dL_ship_375 rfl ?_
            rintro a_14 _ ⟨rfl, -, h_14⟩
            refine v_weq (w9 := cw k h (sLead Sx fr (to9 - 1) 5) Z) rfl ?_
            have hJ : Inv3 (sLead Sx fr (to9 - 1) 5) := inv3_sLead hI1 e_14
            refine v_pop F (q := 379) dL_ship_378 rfl rfl ?_
            refine v_iinc F (q := 382) (z := ((j + 1 : Nat) : Int)) 3 [(5, VI ((j + 1 : Nat) : Int)), (8, VI (to9 - 1)), (7, VI fr), (6, VI a_6), (4, VI tT), (3, VI tM), (1, .ref (h 0)), (0, .ref (b))] dL_ship_379 rfl (by decide) (by omega) rfl rfl ?_
            refine v_goto F (tgt := 282) dL_ship_382 rfl ?_
            refine v_sub [0, 4, 5, 6, 7] rfl ?_
            refine v_widen (c' := 80 + (j + 1)) (n' := 3600 + 6 * (j + 1)) (by first | omega | (dsimp only; omega)) (by first | omega | (dsimp only; omega)) ?_
            exact ih_282 (j + 1) (sLead Sx fr (to9 - 1) 5) (by exact ⟨by omega, hJ, hv3, (by show Sx 0 8 + 1 = _; omega)⟩) (by omega)
          · refine v_const F (q := 361) dL_ship_360 rfl ?_
            refine v_iload F 2 (q := 363) dL_ship_361 rfl rfl ?_
            refine v_const F (q := 364) dL_ship_363 rfl ?_
            refine v_shr F (q := 365) dL_ship_364 rfl (fun a_15 h_15 => ?_)
            refine v_bipush F (q := 367) dL_ship_365 rfl rfl ?_
            refine v_below F hst (by omega) gL_ship_L_below ⟨Nat.le_of_ble_eq_true rfl, Nat.le_of_ble_eq_true rfl⟩ (Nat.le_of_ble_eq_true rfl) ⟨by show 80 + j ≤ 200; omega, by show 3600 + 6 * j ≤ 4200; omega⟩ (q := 370) dL_ship_367 rfl (fun a_16 h_16 => ?_)
            refine v_iadd F (q := 371) dL_ship_370 rfl ?_
            refine v_goto F (tgt := 375) dL_ship_371 rfl ?_
            have e_17 : eLead Sx fr (to9 - 1) (1 + a_16) = 0 := by unfold eLead; rw [if_pos (by omega), if_pos (by omega), if_pos (by omega)]
            refine v_callVt0 F (kX5_lead hst (k := k) (h := h) (S := Sx) (Z := Z) hI1.1.1 (a0 := fr) (a1 := to9 - 1) (a2 := 1 + a_16) (by omega) (by omega) (by omega)) (fun E9 u9 h9 => by rcases h9.2 with z | z | z <;> (have z1 := z.1; rw [e_17] at z1; exact absurd z1 (by decide))) gL_ship_X5_lead rfl hdX5_lead ⟨Nat.le_of_ble_eq_true rfl, Nat.le_of_ble_eq_true rfl⟩ 0 cw_at0 rfl rfl rfl (Nat.le_of_ble_eq_true rfl) ⟨by show 80 + j + 1 ≤ 200; omega, by show 3600 + 6 * j + 6 ≤ 4200; omega⟩ (q := 378) dL_ship_375 rfl ?_
            rintro a_17 _ ⟨rfl, -, h_17⟩
            refine v_weq (w9 := cw k h (sLead Sx fr (to9 - 1) (1 + a_16)) Z) rfl ?_
            have hJ : Inv3 (sLead Sx fr (to9 - 1) (1 + a_16)) := inv3_sLead hI1 e_17
            refine v_pop F (q := 379) dL_ship_378 rfl rfl ?_
            refine v_iinc F (q := 382) (z := ((j + 1 : Nat) : Int)) 3 [(5, VI ((j + 1 : Nat) : Int)), (8, VI (to9 - 1)), (7, VI fr), (6, VI a_6), (4, VI tT), (3, VI tM), (1, .ref (h 0)), (0, .ref (b))] dL_ship_379 rfl (by decide) (by omega) rfl rfl ?_
            refine v_goto F (tgt := 282) dL_ship_382 rfl ?_
            refine v_sub [0, 4, 5, 6, 7] rfl ?_
            refine v_widen (c' := 80 + (j + 1)) (n' := 3600 + 6 * (j + 1)) (by first | omega | (dsimp only; omega)) (by first | omega | (dsimp only; omega)) ?_
            exact ih_282 (j + 1) (sLead Sx fr (to9 - 1) (1 + a_16)) (by exact ⟨by omega, hJ, hv3, (by show Sx 0 8 + 1 = _; omega)⟩) (by omega)
        · refine v_const F (q := 343) dL_ship_342 rfl ?_
          refine v_goto F (tgt := 348) dL_ship_343 rfl ?_
          refine v_iload F 2 (q := 350) dL_ship_348 rfl rfl ?_
          refine v_bipush F (q := 352) dL_ship_350 rfl rfl ?_
          refine v_shr F (q := 353) dL_ship_352 rfl (fun a_18 h_18 => ?_)
          refine v_const F (q := 354) dL_ship_353 rfl ?_
          refine v_below F hst (by omega) gL_ship_L_below ⟨Nat.le_of_ble_eq_true rfl, Nat.le_of_ble_eq_true rfl⟩ (Nat.le_of_ble_eq_true rfl) ⟨by show 80 + j ≤ 200; omega, by show 3600 + 6 * j ≤ 4200; omega⟩ (q := 357) dL_ship_354 rfl (fun a_19 h_19 => ?_)
          refine v_if_ne F (tgt := 374) (q := 360) (by omega) dL_ship_357 rfl rfl (fun h_20 => ?_) (fun h_20 => ?_)
          · refine v_const F (q := 375) dL_ship_374 rfl ?_
            have e_21 : eLead Sx fr (-1) 5 = 0 := by unfold eLead; rw [if_pos (by omega), if_pos (by omega), if_pos (by omega)]
            refine v_callVt0 F (kX5_lead hst (k := k) (h := h) (S := Sx) (Z := Z) hI1.1.1 (a0 := fr) (a1 := -1) (a2 := 5) (by omega) (by omega) (by omega)) (fun E9 u9 h9 => by rcases h9.2 with z | z | z <;> (have z1 := z.1; rw [e_21] at z1; exact absurd z1 (by decide))) gL_ship_X5_lead rfl hdX5_lead ⟨Nat.le_of_ble_eq_true rfl, Nat.le_of_ble_eq_true rfl⟩ 0 cw_at0 rfl rfl rfl (Nat.le_of_ble_eq_true rfl) ⟨by show 80 + j + 1 ≤ 200; omega, by show 3600 + 6 * j + 6 ≤ 4200; omega⟩ (q := 378) dL_ship_375 rfl ?_
            rintro a_21 _ ⟨rfl, -, h_21⟩
            refine v_weq (w9 := cw k h (sLead Sx fr (-1) 5) Z) rfl ?_
            have hJ : Inv3 (sLead Sx fr (-1) 5) := inv3_sLead hI1 e_21
            refine v_pop F (q := 379) dL_ship_378 rfl rfl ?_
            refine v_iinc F (q := 382) (z := ((j + 1 : Nat) : Int)) 3 [(5, VI ((j + 1 : Nat) : Int)), (8, VI (to9 - 1)), (7, VI fr), (6, VI a_6), (4, VI tT), (3, VI tM), (1, .ref (h 0)), (0, .ref (b))] dL_ship_379 rfl (by decide) (by omega) rfl rfl ?_
            refine v_goto F (tgt := 282) dL_ship_382 rfl ?_
            refine v_sub [0, 4, 5, 6, 7] rfl ?_
            refine v_widen (c' := 80 + (j + 1)) (n' := 3600 + 6 * (j + 1)) (by first | omega | (dsimp only; omega)) (by first | omega | (dsimp only; omega)) ?_
            exact ih_282 (j + 1) (sLead Sx fr (-1) 5) (by exact ⟨by omega, hJ, hv3, (by show Sx 0 8 + 1 = _; omega)⟩) (by omega)
          · refine v_const F (q := 361) dL_ship_360 rfl ?_
            refine v_iload F 2 (q := 363) dL_ship_361 rfl rfl ?_
            refine v_const F (q := 364) dL_ship_363 rfl ?_
            refine v_shr F (q := 365) dL_ship_364 rfl (fun a_22 h_22 => ?_)
            refine v_bipush F (q := 367) dL_ship_365 rfl rfl ?_
            refine v_below F hst (by omega) gL_ship_L_below ⟨Nat.le_of_ble_eq_true rfl, Nat.le_of_ble_eq_true rfl⟩ (Nat.le_of_ble_eq_true rfl) ⟨by show 80 + j ≤ 200; omega, by show 3600 + 6 * j ≤ 4200; omega⟩ (q := 370) dL_ship_367 rfl (fun a_23 h_23 => ?_)
            refine v_iadd F (q := 371) dL_ship_370 rfl ?_
            refine v_goto F (tgt := 375) dL_ship_371 rfl ?_
            have e_24 : eLead Sx fr (-1) (1 + a_23) = 0 := by unfold eLead; rw [if_pos (by omega), if_pos (by omega), if_pos (by omega)]
            refine v_callVt0 F (kX5_lead hst (k := k) (h := h) (S := Sx) (Z := Z) hI1.1.1 (a0 := fr) (a1 := -1) (a2 := 1 + a_23) (by omega) (by omega) (by omega)) (fun E9 u9 h9 => by rcases h9.2 with z | z | z <;> (have z1 := z.1; rw [e_24] at z1; exact absurd z1 (by decide))) gL_ship_X5_lead rfl hdX5_lead ⟨Nat.le_of_ble_eq_true rfl, Nat.le_of_ble_eq_true rfl⟩ 0 cw_at0 rfl rfl rfl (Nat.le_of_ble_eq_true rfl) ⟨by show 80 + j + 1 ≤ 200; omega, by show 3600 + 6 * j + 6 ≤ 4200; omega⟩ (q := 378) dL_ship_375 rfl ?_
            rintro a_24 _ ⟨rfl, -, h_24⟩
            refine v_weq (w9 := cw k h (sLead Sx fr (-1) (1 + a_23)) Z) rfl ?_
            have hJ : Inv3 (sLead Sx fr (-1) (1 + a_23)) := inv3_sLead hI1 e_24
            refine v_pop F (q := 379) dL_ship_378 rfl rfl ?_
            refine v_iinc F (q := 382) (z := ((j + 1 : Nat) : Int)) 3 [(5, VI ((j + 1 : Nat) : Int)), (8, VI (to9 - 1)), (7, VI fr), (6, VI a_6), (4, VI tT), (3, VI tM), (1, .ref (h 0)), (0, .ref (b))] dL_ship_379 rfl (by decide) (by omega) rfl rfl ?_
            refine v_goto F (tgt := 282) dL_ship_382 rfl ?_
            refine v_sub [0, 4, 5, 6, 7] rfl ?_
            refine v_widen (c' := 80 + (j + 1)) (n' := 3600 + 6 * (j + 1)) (by first | omega | (dsimp only; omega)) (by first | omega | (dsimp only; omega)) ?_
            exact ih_282 (j + 1) (sLead Sx fr (-1) (1 + a_23)) (by exact ⟨by omega, hJ, hv3, (by show Sx 0 8 + 1 = _; omega)⟩) (by omega)
  refine v_widen (c' := 80 + 0) (n' := 3600 + 6 * 0) (by first | omega | (dsimp only; omega)) (by first | omega | (dsimp only; omega)) ?_
  exact L282_3 _ 0 S (by exact ⟨by omega, hI, hM, hT0⟩) (Nat.lt_succ_self _)
set_option maxRecDepth 100000 in
set_option maxHeartbeats 4000000 in
theorem sh191 {XX : vX} {l : Launch} {k : Nat → ClassId} (F : v_F XX l k yL_ship cL_ship 9 wsL_ship shRm) (hst : l.stackTraces = false) {b L : Nat} {xs : Nat → Int32} (hX : va_X b L xs XX.1.2.2.2.2 XX.1.2.2.2.2.heap) (hbl : b < XX.1.2.2.2.2.heap.size) (hbA : ¬ XX.2.2.2.2 b) (hL : L ≤ 2560) {h : Nat → Nat} (fin : ∀ (S Z : Nat → Nat → Int) (c n : Nat) (lv : List (Nat × Value)), Inv3 S → c ≤ 200 → n ≤ 4200 → V XX (cw k h S Z) c n 561 lv [.ref (h 0)]) {S Z : Nat → Nat → Int} (hI : Inv3 S) (hM : 1 ≤ S 0 7) (hT0 : S 0 8 = 0) (h9 : S 0 9 = 0) (hY : ∀ m, S 3 m = 0) : V XX (cw k h S Z) 50 3300 191 [(1, .ref (h 0)), (0, .ref (b))] [] := by
  refine v_aload_n F 0 (q := 192) dL_ship_191 rfl rfl rfl ?_
  refine v_const F (q := 193) dL_ship_192 rfl ?_
  have e_1 : eCnt 1 = 0 := by unfold eCnt; rw [if_pos (by omega)]
  refine v_callVt0 F (kX5_count hst (k := k) (h := h) (S := S) (Z := Z) hI.1.1 (a0 := 1) (by omega)) (fun E9 u9 h9 => absurd h9.2.1 (by rw [e_1]; decide)) gL_ship_X5_count rfl hdX5_count ⟨Nat.le_of_ble_eq_true rfl, Nat.le_of_ble_eq_true rfl⟩ 0 cw_at0 rfl rfl rfl (Nat.le_of_ble_eq_true rfl) ⟨by show 50 + 1 ≤ 200; omega, by show 3300 + 6 ≤ 4200; omega⟩ (q := 196) dL_ship_193 rfl ?_
  rintro a_1 _ ⟨rfl, -, h_1⟩
  refine v_cast (b := S 0 7) (h_1.trans (cv1 _)) ?_
  have b_1 := hI.1.1.mc
  refine v_istore_n F (q := 197) [(3, VI (S 0 7)), (1, .ref (h 0)), (0, .ref (b))] dL_ship_196 rfl (by decide) rfl rfl ?_
  refine v_const F (q := 198) dL_ship_197 rfl ?_
  refine v_istore F (q := 200) [(4, VI 0), (3, VI (S 0 7)), (1, .ref (h 0)), (0, .ref (b))] dL_ship_198 (by decide) rfl rfl ?_
  have L200_2 : ∀ (fu : Nat) (kk : Nat) (Sx : Nat → Nat → Int), ((kk : Int) ≤ S 0 7 ∧ Inv3 Sx ∧ Sx 0 7 = S 0 7 ∧ Sx 0 8 = 0 ∧ Sx 0 9 = 0 ∧ ∀ j, kk ≤ j → Sx 3 j = 0) → (S 0 7 - kk).toNat < fu → V XX (cw k h Sx Z) (60 + 4 * kk) (3400 + 24 * kk) 200 [(4, VI ((kk : Nat) : Int)), (3, VI (S 0 7)), (1, .ref (h 0)), (0, .ref (b))] [] := by
    intro fu_200
    induction fu_200 with
    | zero => intros; omega
    | succ fu_200 ih_200 =>
      intro kk Sx hv hm_200
      obtain ⟨hv1, hI1, hv3, hv4, hv5, hv6⟩ := hv
      refine v_iload F 0 (q := 202) dL_ship_200 rfl rfl ?_
      refine v_iload_n F 1 (q := 203) dL_ship_202 rfl rfl rfl ?_
      refine v_icmp_ge F (tgt := 266) (q := 206) (by omega) (by omega) dL_ship_203 rfl rfl (fun h_3 => ?_) (fun h_3 => ?_)
      · refine v_sub [1, 2, 3] rfl ?_
        refine v_widen (c' := 80) (n' := 3600) (by first | omega | (dsimp only; omega)) (by first | omega | (dsimp only; omega)) ?_
        exact sh266 F hst hX hbl hbA hL fin hI1 hv3 (by omega) hv4
      · refine v_aload_n F 3 (q := 207) dL_ship_206 rfl rfl rfl ?_
        refine v_const F (q := 208) dL_ship_207 rfl ?_
        refine v_cell F hst hX hbl hbA hL (by omega) gL_ship_L_cell ⟨Nat.le_of_ble_eq_true rfl, Nat.le_of_ble_eq_true rfl⟩ (Nat.le_of_ble_eq_true rfl) ⟨by show 60 + 4 * kk ≤ 200; omega, by show 3400 + 24 * kk ≤ 4200; omega⟩ (q := 211) dL_ship_208 rfl (fun a_4 h_4 => ?_)
        refine v_const F (q := 212) dL_ship_211 rfl ?_
        refine v_iload F 0 (q := 214) dL_ship_212 rfl rfl ?_
        refine v_imul F (q := 215) dL_ship_214 rfl ?_
        refine v_shr F (q := 216) dL_ship_215 rfl (fun a_5 h_5 => ?_)
        refine v_const F (q := 217) dL_ship_216 rfl ?_
        refine v_below F hst (by omega) gL_ship_L_below ⟨Nat.le_of_ble_eq_true rfl, Nat.le_of_ble_eq_true rfl⟩ (Nat.le_of_ble_eq_true rfl) ⟨by show 60 + 4 * kk ≤ 200; omega, by show 3400 + 24 * kk ≤ 4200; omega⟩ (q := 220) dL_ship_217 rfl (fun i0 h_i0 => ?_)
        refine v_istore F (q := 222) [(5, VI i0), (4, VI ((kk : Nat) : Int)), (3, VI (S 0 7)), (1, .ref (h 0)), (0, .ref (b))] dL_ship_220 (by decide) rfl rfl ?_
        have L222_7 : ∀ (fu : Nat) (i : Int) (Sy : Nat → Nat → Int), ((0 ≤ i ∧ i ≤ 3) ∧ Inv3 Sy ∧ Sy 0 7 = S 0 7 ∧ Sy 0 8 = 0 ∧ Sy 0 9 = 0 ∧ Sy 3 kk + i ≤ 3 ∧ ∀ j, kk < j → Sy 3 j = 0) → i.toNat < fu → V XX (cw k h Sy Z) (60 + 4 * kk + (3 - i.toNat)) (3400 + 24 * kk + 6 * (3 - i.toNat)) 222 [(5, VI i), (4, VI ((kk : Nat) : Int)), (3, VI (S 0 7)), (1, .ref (h 0)), (0, .ref (b))] [] := by
          intro fu_222
          induction fu_222 with
          | zero => intros; omega
          | succ fu_222 ih_222 =>
            intro i Sy hw hm_222
            obtain ⟨hw1, hI2, hw4, hw5, hw6, hw7, hw8⟩ := hw
            refine v_iload F 0 (q := 224) dL_ship_222 rfl rfl ?_
            refine v_if_le F (tgt := 260) (q := 227) (by omega) dL_ship_224 rfl rfl (fun h_8 => ?_) (fun h_8 => ?_)
            · refine v_iinc F (q := 263) (z := ((kk + 1 : Nat) : Int)) 1 [(4, VI ((kk + 1 : Nat) : Int)), (5, VI i), (3, VI (S 0 7)), (1, .ref (h 0)), (0, .ref (b))] dL_ship_260 rfl (by decide) (by omega) rfl rfl ?_
              refine v_goto F (tgt := 200) dL_ship_263 rfl ?_
              refine v_sub [0, 2, 3, 4] rfl ?_
              refine v_widen (c' := 60 + 4 * (kk + 1)) (n' := 3400 + 24 * (kk + 1)) (by first | omega | (dsimp only; omega)) (by first | omega | (dsimp only; omega)) ?_
              exact ih_200 (kk + 1) Sy (by exact ⟨by omega, hI2, hw4, hw5, hw6, fun j hj => hw8 j (by omega)⟩) (by omega)
            · refine v_aload_n F 3 (q := 228) dL_ship_227 rfl rfl rfl ?_
              refine v_iload F 1 (q := 230) dL_ship_228 rfl rfl ?_
              refine v_const F (q := 231) dL_ship_230 rfl ?_
              refine v_aload_n F 4 (q := 232) dL_ship_231 rfl rfl rfl ?_
              refine v_const F (q := 233) dL_ship_232 rfl ?_
              refine v_cell F hst hX hbl hbA hL (by omega) gL_ship_L_cell ⟨Nat.le_of_ble_eq_true rfl, Nat.le_of_ble_eq_true rfl⟩ (Nat.le_of_ble_eq_true rfl) ⟨by show 60 + 4 * kk + (3 - i.toNat) ≤ 200; omega, by show 3400 + 24 * kk + 6 * (3 - i.toNat) ≤ 4200; omega⟩ (q := 236) dL_ship_233 rfl (fun a_9 h_9 => ?_)
              refine v_const F (q := 237) dL_ship_236 rfl ?_
              refine v_iload F 1 (q := 239) dL_ship_237 rfl rfl ?_
              refine v_imul F (q := 240) dL_ship_239 rfl ?_
              refine v_iload F 0 (q := 242) dL_ship_240 rfl rfl ?_
              refine v_iadd F (q := 243) dL_ship_242 rfl ?_
              refine v_shr F (q := 244) dL_ship_243 rfl (fun a_10 h_10 => ?_)
              refine v_bipush F (q := 246) dL_ship_244 rfl rfl ?_
              refine v_below F hst (by omega) gL_ship_L_below ⟨Nat.le_of_ble_eq_true rfl, Nat.le_of_ble_eq_true rfl⟩ (Nat.le_of_ble_eq_true rfl) ⟨by show 60 + 4 * kk + (3 - i.toNat) ≤ 200; omega, by show 3400 + 24 * kk + 6 * (3 - i.toNat) ≤ 4200; omega⟩ (q := 249) dL_ship_246 rfl (fun a_11 h_11 => ?_)
              refine v_iadd F (q := 250) dL_ship_249 rfl ?_
              have e_12 : eYard Sy ((kk : Nat) : Int) (1 + a_11) = 0 := by unfold eYard; (try simp only [Int.toNat_natCast]); rw [if_pos (by omega), if_pos (by omega), if_pos (by omega)]
              refine v_callVt0 F (kX5_yard hst (k := k) (h := h) (S := Sy) (Z := Z) hI2.1.1 (a0 := ((kk : Nat) : Int)) (a1 := 1 + a_11) (by omega) (by omega)) (fun E9 u9 h9 => by rcases h9.2 with z | z | z <;> (have z1 := z.1; rw [e_12] at z1; exact absurd z1 (by decide))) gL_ship_X5_yard rfl hdX5_yard ⟨Nat.le_of_ble_eq_true rfl, Nat.le_of_ble_eq_true rfl⟩ 0 cw_at0 rfl rfl rfl (Nat.le_of_ble_eq_true rfl) ⟨by show 60 + 4 * kk + (3 - i.toNat) + 1 ≤ 200; omega, by show 3400 + 24 * kk + 6 * (3 - i.toNat) + 6 ≤ 4200; omega⟩ (q := 253) dL_ship_250 rfl ?_
              rintro a_12 _ ⟨rfl, -, h_12⟩
              refine v_weq (w9 := cw k h (sYard Sy ((kk : Nat) : Int) (1 + a_11)) Z) rfl ?_
              have hJ : Inv3 (sYard Sy ((kk : Nat) : Int) (1 + a_11)) := inv3_sYard hI2 e_12
              have y3 : (sYard Sy ((kk : Nat) : Int) (1 + a_11)) 3 kk = Sy 3 kk + 1 := u2_eq _ _ _ _
              have yj : ∀ j, kk < j → (sYard Sy ((kk : Nat) : Int) (1 + a_11)) 3 j = Sy 3 j := fun j hj => (u2_ne (fun z => by omega)).trans (u2_ne (fun z => by omega))
              have y7 : (sYard Sy ((kk : Nat) : Int) (1 + a_11)) 0 7 = Sy 0 7 := (u2_ne (fun z => by omega)).trans (u2_ne (fun z => by omega))
              have y8 : (sYard Sy ((kk : Nat) : Int) (1 + a_11)) 0 8 = Sy 0 8 := (u2_ne (fun z => by omega)).trans (u2_ne (fun z => by omega))
              have y9 : (sYard Sy ((kk : Nat) : Int) (1 + a_11)) 0 9 = Sy 0 9 := (u2_ne (fun z => by omega)).trans (u2_ne (fun z => by omega))
              refine v_pop F (q := 254) dL_ship_253 rfl rfl ?_
              refine v_iinc F (q := 257) (z := i + -1) 0 [(5, VI (i + -1)), (4, VI ((kk : Nat) : Int)), (3, VI (S 0 7)), (1, .ref (h 0)), (0, .ref (b))] dL_ship_254 rfl (by decide) rfl rfl rfl ?_
              refine v_goto F (tgt := 222) dL_ship_257 rfl ?_
              refine v_widen (c' := 60 + 4 * kk + (3 - (i + -1).toNat)) (n' := 3400 + 24 * kk + 6 * (3 - (i + -1).toNat)) (by first | omega | (dsimp only; omega)) (by first | omega | (dsimp only; omega)) ?_
              exact ih_222 (i + -1) (sYard Sy ((kk : Nat) : Int) (1 + a_11)) (by exact ⟨by omega, hJ, y7.trans hw4, y8.trans hw5, y9.trans hw6, (by omega), fun j hj => (yj j hj).trans (hw8 j hj)⟩) (by omega)
        refine v_widen (c' := 60 + 4 * kk + (3 - i0.toNat)) (n' := 3400 + 24 * kk + 6 * (3 - i0.toNat)) (by first | omega | (dsimp only; omega)) (by first | omega | (dsimp only; omega)) ?_
        exact L222_7 _ i0 Sx (by exact ⟨by omega, hI1, hv3, hv4, hv5, (by have := hv6 kk (Nat.le_refl kk); omega), fun j hj => hv6 j (by omega)⟩) (Nat.lt_succ_self _)
  refine v_widen (c' := 60 + 4 * 0) (n' := 3400 + 24 * 0) (by first | omega | (dsimp only; omega)) (by first | omega | (dsimp only; omega)) ?_
  exact L200_2 _ 0 S (by exact ⟨by omega, hI, rfl, hT0, h9, fun j _ => hY j⟩) (Nat.lt_succ_self _)
set_option maxRecDepth 100000 in
set_option maxHeartbeats 4000000 in
theorem sh113 {XX : vX} {l : Launch} {k : Nat → ClassId} (F : v_F XX l k yL_ship cL_ship 9 wsL_ship shRm) (hst : l.stackTraces = false) {b L : Nat} {xs : Nat → Int32} (hX : va_X b L xs XX.1.2.2.2.2 XX.1.2.2.2.2.heap) (hbl : b < XX.1.2.2.2.2.heap.size) (hbA : ¬ XX.2.2.2.2 b) (hL : L ≤ 2560) {h : Nat → Nat} (fin : ∀ (S Z : Nat → Nat → Int) (c n : Nat) (lv : List (Nat × Value)), Inv3 S → c ≤ 200 → n ≤ 4200 → V XX (cw k h S Z) c n 561 lv [.ref (h 0)]) (hTab : XX.2.1.2.2.2.2.exceptionTable.toList = tableOf [(153, 177, 180, 38)]) {S Z : Nat → Nat → Int} (hI : Inv3 S) {ln : Int} (hM0 : S 0 7 = 0) (hT0 : S 0 8 = 0) (h9 : S 0 9 = 0) (h4 : S 0 4 = ln) (hln : 10 ≤ ln ∧ ln ≤ 59) (hY : ∀ m, S 3 m = 0) : V XX (cw k h S Z) 40 3200 113 [(2, VI ln), (1, .ref (h 0)), (0, .ref (b))] [] := by
  refine v_const F (q := 114) dL_ship_113 rfl ?_
  refine v_aload_n F 2 (q := 115) dL_ship_114 rfl rfl rfl ?_
  refine v_const F (q := 116) dL_ship_115 rfl ?_
  refine v_cell F hst hX hbl hbA hL (by omega) gL_ship_L_cell ⟨Nat.le_of_ble_eq_true rfl, Nat.le_of_ble_eq_true rfl⟩ (Nat.le_of_ble_eq_true rfl) ⟨by show 40 ≤ 200; omega, by show 3200 ≤ 4200; omega⟩ (q := 119) dL_ship_116 rfl (fun a_1 h_1 => ?_)
  refine v_const F (q := 120) dL_ship_119 rfl ?_
  refine v_below F hst (by omega) gL_ship_L_below ⟨Nat.le_of_ble_eq_true rfl, Nat.le_of_ble_eq_true rfl⟩ (Nat.le_of_ble_eq_true rfl) ⟨by show 40 ≤ 200; omega, by show 3200 ≤ 4200; omega⟩ (q := 123) dL_ship_120 rfl (fun m0 h_m0 => ?_)
  refine v_iadd F (q := 124) dL_ship_123 rfl ?_
  refine v_istore_n F (q := 125) [(3, VI (1 + m0)), (2, VI ln), (1, .ref (h 0)), (0, .ref (b))] dL_ship_124 rfl (by decide) rfl rfl ?_
  refine v_const F (q := 126) dL_ship_125 rfl ?_
  refine v_istore F (q := 128) [(4, VI 0), (3, VI (1 + m0)), (2, VI ln), (1, .ref (h 0)), (0, .ref (b))] dL_ship_126 (by decide) rfl rfl ?_
  have L128_3 : ∀ (fu : Nat) (kk : Nat) (Sx : Nat → Nat → Int), (kk ≤ 3 ∧ Inv3 Sx ∧ Sx 0 7 ≤ (kk : Int) ∧ (1 ≤ kk → 1 ≤ Sx 0 7) ∧ Sx 0 8 = 0 ∧ Sx 0 9 = 0 ∧ Sx 0 4 = ln ∧ ∀ m, Sx 3 m = 0) → 3 - kk < fu → V XX (cw k h Sx Z) (40 + kk) (3200 + 6 * kk) 128 [(4, VI ((kk : Nat) : Int)), (3, VI (1 + m0)), (2, VI ln), (1, .ref (h 0)), (0, .ref (b))] [] := by
    intro fu_128
    induction fu_128 with
    | zero => intros; omega
    | succ fu_128 ih_128 =>
      intro kk Sx hv hm_128
      obtain ⟨hv1, hI1, hv3, hv4, hv5, hv6, hv7, hv8⟩ := hv
      have hmc := hI1.1.1.mc
      refine v_iload F 0 (q := 130) dL_ship_128 rfl rfl ?_
      refine v_const F (q := 131) dL_ship_130 rfl ?_
      refine v_iload_n F 1 (q := 132) dL_ship_131 rfl rfl rfl ?_
      refine v_min F (by omega) (by omega) (by decide +kernel) (by decide +kernel) (by decide +kernel) (by decide +kernel) ⟨Nat.le_of_ble_eq_true rfl, Nat.le_of_ble_eq_true rfl⟩ ⟨by show 40 + kk ≤ 200; omega, by show 3200 + 6 * kk ≤ 4200; omega⟩ (q := 135) dL_ship_132 rfl ?_
      refine v_icmp_ge F (tgt := 191) (q := 138) (by omega) (by omega) dL_ship_135 rfl rfl (fun h_4 => ?_) (fun h_4 => ?_)
      · refine v_sub [3, 4] rfl ?_
        refine v_widen (c' := 50) (n' := 3300) (by first | omega | (dsimp only; omega)) (by first | omega | (dsimp only; omega)) ?_
        exact sh191 F hst hX hbl hbA hL fin hI1 (hv4 (by omega)) hv5 hv6 hv8
      · refine v_aload_n F 4 (q := 139) dL_ship_138 rfl rfl rfl ?_
        refine v_const F (q := 140) dL_ship_139 rfl ?_
        refine v_cell F hst hX hbl hbA hL (by omega) gL_ship_L_cell ⟨Nat.le_of_ble_eq_true rfl, Nat.le_of_ble_eq_true rfl⟩ (Nat.le_of_ble_eq_true rfl) ⟨by show 40 + kk ≤ 200; omega, by show 3200 + 6 * kk ≤ 4200; omega⟩ (q := 143) dL_ship_140 rfl (fun a_5 h_5 => ?_)
        refine v_const F (q := 144) dL_ship_143 rfl ?_
        refine v_bipush F (q := 146) dL_ship_144 rfl rfl ?_
        refine v_iload F 0 (q := 148) dL_ship_146 rfl rfl ?_
        refine v_imul F (q := 149) dL_ship_148 rfl ?_
        refine v_iadd F (q := 150) dL_ship_149 rfl ?_
        refine v_shr F (q := 151) dL_ship_150 rfl (fun a_6 h_6 => ?_)
        refine v_istore F (q := 153) [(5, VI a_6), (4, VI ((kk : Nat) : Int)), (3, VI (1 + m0)), (2, VI ln), (1, .ref (h 0)), (0, .ref (b))] dL_ship_151 (by decide) rfl rfl ?_
        refine v_aload_n F 4 (q := 154) dL_ship_153 rfl rfl rfl ?_
        refine v_iload F 0 (q := 156) dL_ship_154 rfl rfl ?_
        refine v_iload_n F 3 (q := 157) dL_ship_156 rfl rfl rfl ?_
        refine v_const F (q := 158) dL_ship_157 rfl ?_
        refine v_iadd F (q := 159) dL_ship_158 rfl ?_
        refine v_below F hst (by omega) gL_ship_L_below ⟨Nat.le_of_ble_eq_true rfl, Nat.le_of_ble_eq_true rfl⟩ (Nat.le_of_ble_eq_true rfl) ⟨by show 40 + kk ≤ 200; omega, by show 3200 + 6 * kk ≤ 4200; omega⟩ (q := 162) dL_ship_159 rfl (fun a_7 h_7 => ?_)
        refine v_const F (q := 163) dL_ship_162 rfl ?_
        refine v_iload F 0 (q := 165) dL_ship_163 rfl rfl ?_
        refine v_const F (q := 166) dL_ship_165 rfl ?_
        refine v_shr F (q := 167) dL_ship_166 rfl (fun a_8 h_8 => ?_)
        refine v_bipush F (q := 169) dL_ship_167 rfl rfl ?_
        refine v_below F hst (by omega) gL_ship_L_below ⟨Nat.le_of_ble_eq_true rfl, Nat.le_of_ble_eq_true rfl⟩ (Nat.le_of_ble_eq_true rfl) ⟨by show 40 + kk ≤ 200; omega, by show 3200 + 6 * kk ≤ 4200; omega⟩ (q := 172) dL_ship_169 rfl (fun a_9 h_9 => ?_)
        refine v_iadd F (q := 173) dL_ship_172 rfl ?_
        have e_10 : eStep Sx a_7 (1 + a_9) = if (Sx 0 9 = 0 ∧ Sx 0 7 < 3 ∧ plcB Sx a_7 = false) then 0 else 2 := by unfold eStep; rw [if_pos (by omega)]
        refine v_callVt F (kX5_step hst (k := k) (h := h) (S := Sx) (Z := Z) hI1.1.1 (a0 := a_7) (a1 := 1 + a_9) (by omega) (by omega)) (List.append_nil _).symm gL_ship_X5_step rfl hdX5_step ⟨Nat.le_of_ble_eq_true rfl, Nat.le_of_ble_eq_true rfl⟩ 0 cw_at0 rfl rfl rfl (Nat.le_of_ble_eq_true rfl) ⟨by show 40 + kk + 1 ≤ 200; omega, by show 3200 + 6 * kk + 6 ≤ 4200; omega⟩ (q := 176) dL_ship_173 rfl (fun E9 u9 hp9 => ?_) (fun a_10 u9 hp9 => ?_)
        · obtain ⟨rfl, hE9⟩ := hp9
          rcases hE9 with ⟨hE9, rfl⟩ | ⟨hE9, rfl⟩
          · rw [e_10] at hE9; split at hE9 <;> omega
          · have hne : ¬ Sx 0 7 = 0 := fun z7 => by
              have hpl : plcB Sx a_7 = false := by unfold plcB; rw [show mcn Sx = 0 from by unfold mcn; omega]; rfl
              rw [e_10, if_pos ⟨by omega, by omega, hpl⟩] at hE9
              omega
            refine v_catch F hTab (tableOf []) ⟨153, 177, 180, 38⟩ (tableOf []) rfl (fun z hz => absurd hz List.not_mem_nil) (by decide) (by decide) (by decide +kernel) (by decide +kernel) (fun q9 => ?_)
            refine v_weq (w9 := cw k h Sx Z) (List.append_nil _) ?_
            refine v_astore F (q := 182) [(6, .ref (q9)), (5, VI a_6), (4, VI ((kk : Nat) : Int)), (3, VI (1 + m0)), (2, VI ln), (1, .ref (h 0)), (0, .ref (b))] dL_ship_180 (by decide) rfl rfl ?_
            refine v_goto F (tgt := 185) dL_ship_182 rfl ?_
            refine v_iinc F (q := 188) (z := ((kk + 1 : Nat) : Int)) 2 [(4, VI ((kk + 1 : Nat) : Int)), (6, .ref (q9)), (5, VI a_6), (3, VI (1 + m0)), (2, VI ln), (1, .ref (h 0)), (0, .ref (b))] dL_ship_185 rfl (by decide) (by omega) rfl rfl ?_
            refine v_goto F (tgt := 128) dL_ship_188 rfl ?_
            refine v_sub [0, 3, 4, 5, 6] rfl ?_
            refine v_widen (c' := 40 + (kk + 1)) (n' := 3200 + 6 * (kk + 1)) (by first | omega | (dsimp only; omega)) (by first | omega | (dsimp only; omega)) ?_
            exact ih_128 (kk + 1) Sx (by exact ⟨by omega, hI1, by omega, fun _ => by omega, hv5, hv6, hv7, hv8⟩) (by omega)
        · obtain ⟨rfl, hs_10, h_10⟩ := hp9
          refine v_weq (w9 := cw k h (sStep Sx a_7 (1 + a_9)) Z) (List.append_nil _) ?_
          have hJ : Inv3 (sStep Sx a_7 (1 + a_9)) := inv3_sStep hI1 hs_10
          refine v_pop F (q := 177) dL_ship_176 rfl rfl ?_
          refine v_goto F (tgt := 185) dL_ship_177 rfl ?_
          refine v_iinc F (q := 188) (z := ((kk + 1 : Nat) : Int)) 1 [(4, VI ((kk + 1 : Nat) : Int)), (5, VI a_6), (3, VI (1 + m0)), (2, VI ln), (1, .ref (h 0)), (0, .ref (b))] dL_ship_185 rfl (by decide) (by omega) rfl rfl ?_
          refine v_goto F (tgt := 128) dL_ship_188 rfl ?_
          refine v_sub [0, 2, 3, 4, 5] rfl ?_
          refine v_widen (c' := 40 + (kk + 1)) (n' := 3200 + 6 * (kk + 1)) (by first | omega | (dsimp only; omega)) (by first | omega | (dsimp only; omega)) ?_
          exact ih_128 (kk + 1) (sStep Sx a_7 (1 + a_9)) (by exact ⟨by omega, hJ, (by show Sx 0 7 + 1 ≤ _; omega), (fun _ => by show 1 ≤ Sx 0 7 + 1; omega), hv5, hv6, hv7, hv8⟩) (by omega)
  refine v_widen (c' := 40 + 0) (n' := 3200 + 6 * 0) (by first | omega | (dsimp only; omega)) (by first | omega | (dsimp only; omega)) ?_
  exact L128_3 _ 0 S (by exact ⟨by omega, hI, by omega, fun z => by omega, hT0, h9, h4, hY⟩) (Nat.lt_succ_self _)
set_option maxRecDepth 100000 in
set_option maxHeartbeats 4000000 in
theorem sh8 {XX : vX} {l : Launch} {k : Nat → ClassId} (F : v_F XX l k yL_ship cL_ship 9 wsL_ship shRm) (hst : l.stackTraces = false) {b L : Nat} {xs : Nat → Int32} (hX : va_X b L xs XX.1.2.2.2.2 XX.1.2.2.2.2.heap) (hbl : b < XX.1.2.2.2.2.heap.size) (hbA : ¬ XX.2.2.2.2 b) (hL : L ≤ 2560) {h : Nat → Nat} (fin : ∀ (S Z : Nat → Nat → Int) (c n : Nat) (lv : List (Nat × Value)), Inv3 S → c ≤ 200 → n ≤ 4200 → V XX (cw k h S Z) c n 561 lv [.ref (h 0)]) (hTab : XX.2.1.2.2.2.2.exceptionTable.toList = tableOf [(153, 177, 180, 38)]) {S Z : Nat → Nat → Int} (hI : Inv3 S) (hM0 : S 0 7 = 0) (hT0 : S 0 8 = 0) (h9 : S 0 9 = 0) (hY : ∀ m, S 3 m = 0) : V XX (cw k h S Z) 30 3140 8 [(1, .ref (h 0)), (0, .ref (b))] [] := by
  refine v_aload_n F 0 (q := 9) dL_ship_8 rfl rfl rfl ?_
  refine v_const F (q := 10) dL_ship_9 rfl ?_
  refine v_aload_n F 1 (q := 11) dL_ship_10 rfl rfl rfl ?_
  refine v_const F (q := 12) dL_ship_11 rfl ?_
  refine v_cell F hst hX hbl hbA hL (by omega) gL_ship_L_cell ⟨Nat.le_of_ble_eq_true rfl, Nat.le_of_ble_eq_true rfl⟩ (Nat.le_of_ble_eq_true rfl) ⟨by show 30 ≤ 200; omega, by show 3140 ≤ 4200; omega⟩ (q := 15) dL_ship_12 rfl (fun a_1 h_1 => ?_)
  refine v_bipush F (q := 17) dL_ship_15 rfl rfl ?_
  refine v_below F hst (by omega) gL_ship_L_below ⟨Nat.le_of_ble_eq_true rfl, Nat.le_of_ble_eq_true rfl⟩ (Nat.le_of_ble_eq_true rfl) ⟨by show 30 ≤ 200; omega, by show 3140 ≤ 4200; omega⟩ (q := 20) dL_ship_17 rfl (fun a_2 h_2 => ?_)
  refine v_iadd F (q := 21) dL_ship_20 rfl ?_
  refine v_const F (q := 22) dL_ship_21 rfl ?_
  refine v_aload_n F 1 (q := 23) dL_ship_22 rfl rfl rfl ?_
  refine v_const F (q := 24) dL_ship_23 rfl ?_
  refine v_cell F hst hX hbl hbA hL (by omega) gL_ship_L_cell ⟨Nat.le_of_ble_eq_true rfl, Nat.le_of_ble_eq_true rfl⟩ (Nat.le_of_ble_eq_true rfl) ⟨by show 30 ≤ 200; omega, by show 3140 ≤ 4200; omega⟩ (q := 27) dL_ship_24 rfl (fun a_3 h_3 => ?_)
  refine v_bipush F (q := 29) dL_ship_27 rfl rfl ?_
  refine v_below F hst (by omega) gL_ship_L_below ⟨Nat.le_of_ble_eq_true rfl, Nat.le_of_ble_eq_true rfl⟩ (Nat.le_of_ble_eq_true rfl) ⟨by show 30 ≤ 200; omega, by show 3140 ≤ 4200; omega⟩ (q := 32) dL_ship_29 rfl (fun a_4 h_4 => ?_)
  refine v_iadd F (q := 33) dL_ship_32 rfl ?_
  refine v_bipush F (q := 35) dL_ship_33 rfl rfl ?_
  refine v_aload_n F 1 (q := 36) dL_ship_35 rfl rfl rfl ?_
  refine v_const F (q := 37) dL_ship_36 rfl ?_
  refine v_cell F hst hX hbl hbA hL (by omega) gL_ship_L_cell ⟨Nat.le_of_ble_eq_true rfl, Nat.le_of_ble_eq_true rfl⟩ (Nat.le_of_ble_eq_true rfl) ⟨by show 30 ≤ 200; omega, by show 3140 ≤ 4200; omega⟩ (q := 40) dL_ship_37 rfl (fun a_5 h_5 => ?_)
  refine v_bipush F (q := 42) dL_ship_40 rfl rfl ?_
  refine v_below F hst (by omega) gL_ship_L_below ⟨Nat.le_of_ble_eq_true rfl, Nat.le_of_ble_eq_true rfl⟩ (Nat.le_of_ble_eq_true rfl) ⟨by show 30 ≤ 200; omega, by show 3140 ≤ 4200; omega⟩ (q := 45) dL_ship_42 rfl (fun a_6 h_6 => ?_)
  refine v_iadd F (q := 46) dL_ship_45 rfl ?_
  refine v_aload_n F 1 (q := 47) dL_ship_46 rfl rfl rfl ?_
  refine v_const F (q := 48) dL_ship_47 rfl ?_
  refine v_cell F hst hX hbl hbA hL (by omega) gL_ship_L_cell ⟨Nat.le_of_ble_eq_true rfl, Nat.le_of_ble_eq_true rfl⟩ (Nat.le_of_ble_eq_true rfl) ⟨by show 30 ≤ 200; omega, by show 3140 ≤ 4200; omega⟩ (q := 51) dL_ship_48 rfl (fun a_7 h_7 => ?_)
  refine v_bipush F (q := 53) dL_ship_51 rfl rfl ?_
  refine v_shr F (q := 54) dL_ship_53 rfl (fun a_8 h_8 => ?_)
  refine v_bipush F (q := 56) dL_ship_54 rfl rfl ?_
  refine v_below F hst (by omega) gL_ship_L_below ⟨Nat.le_of_ble_eq_true rfl, Nat.le_of_ble_eq_true rfl⟩ (Nat.le_of_ble_eq_true rfl) ⟨by show 30 ≤ 200; omega, by show 3140 ≤ 4200; omega⟩ (q := 59) dL_ship_56 rfl (fun a_9 h_9 => ?_)
  have e_10 : eBottle S (3 + a_2) (5 + a_4) (20 + a_6) a_9 = 0 := by unfold eBottle; rw [if_pos (by omega), if_pos (by omega)]
  refine v_callVt0 F (kX5_setBottle hst (k := k) (h := h) (S := S) (Z := Z) hI.1.1 (a0 := 3 + a_2) (a1 := 5 + a_4) (a2 := 20 + a_6) (a3 := a_9) (by omega) (by omega) (by omega) (by omega)) (fun E9 u9 h9 => by rcases h9.2 with z | z <;> (have z1 := z.1; rw [e_10] at z1; exact absurd z1 (by decide))) gL_ship_X5_setBottle rfl hdX5_setBottle ⟨Nat.le_of_ble_eq_true rfl, Nat.le_of_ble_eq_true rfl⟩ 0 cw_at0 rfl rfl rfl (Nat.le_of_ble_eq_true rfl) ⟨by show 30 + 1 ≤ 200; omega, by show 3140 + 6 ≤ 4200; omega⟩ (q := 62) dL_ship_59 rfl ?_
  rintro a_10 _ ⟨rfl, -, h_10⟩
  refine v_weq (w9 := cw k h (sBottle S (3 + a_2) (5 + a_4) (20 + a_6) a_9) Z) rfl ?_
  obtain ⟨S1, hS1⟩ : ∃ S1, S1 = (sBottle S (3 + a_2) (5 + a_4) (20 + a_6) a_9) := ⟨_, rfl⟩
  rw [← hS1]
  have hI1 : Inv3 S1 := by rw [hS1]; exact inv3_sBottle hI e_10
  have f7 : S1 0 7 = 0 := by rw [hS1]; exact hM0
  have f8 : S1 0 8 = 0 := by rw [hS1]; exact hT0
  have f9 : S1 0 9 = 0 := by rw [hS1]; exact h9
  have f3 : ∀ m, S1 3 m = 0 := by rw [hS1]; exact hY
  refine v_pop F (q := 63) dL_ship_62 rfl rfl ?_
  refine v_bipush F (q := 65) dL_ship_63 rfl rfl ?_
  refine v_aload_n F 1 (q := 66) dL_ship_65 rfl rfl rfl ?_
  refine v_const F (q := 67) dL_ship_66 rfl ?_
  refine v_cell F hst hX hbl hbA hL (by omega) gL_ship_L_cell ⟨Nat.le_of_ble_eq_true rfl, Nat.le_of_ble_eq_true rfl⟩ (Nat.le_of_ble_eq_true rfl) ⟨by show 30 + 1 ≤ 200; omega, by show 3140 + 6 ≤ 4200; omega⟩ (q := 70) dL_ship_67 rfl (fun a_11 h_11 => ?_)
  refine v_bipush F (q := 72) dL_ship_70 rfl rfl ?_
  refine v_below F hst (by omega) gL_ship_L_below ⟨Nat.le_of_ble_eq_true rfl, Nat.le_of_ble_eq_true rfl⟩ (Nat.le_of_ble_eq_true rfl) ⟨by show 30 + 1 ≤ 200; omega, by show 3140 + 6 ≤ 4200; omega⟩ (q := 75) dL_ship_72 rfl (fun l0 h_l0 => ?_)
  refine v_iadd F (q := 76) dL_ship_75 rfl ?_
  refine v_istore_n F (q := 77) [(2, VI (10 + l0)), (1, .ref (h 0)), (0, .ref (b))] dL_ship_76 rfl (by decide) rfl rfl ?_
  refine v_aload_n F 1 (q := 78) dL_ship_77 rfl rfl rfl ?_
  refine v_iload_n F 0 (q := 79) dL_ship_78 rfl rfl rfl ?_
  refine v_const F (q := 80) dL_ship_79 rfl ?_
  refine v_aload_n F 2 (q := 81) dL_ship_80 rfl rfl rfl ?_
  refine v_const F (q := 82) dL_ship_81 rfl ?_
  refine v_cell F hst hX hbl hbA hL (by omega) gL_ship_L_cell ⟨Nat.le_of_ble_eq_true rfl, Nat.le_of_ble_eq_true rfl⟩ (Nat.le_of_ble_eq_true rfl) ⟨by show 30 + 1 ≤ 200; omega, by show 3140 + 6 ≤ 4200; omega⟩ (q := 85) dL_ship_82 rfl (fun a_13 h_13 => ?_)
  refine v_bipush F (q := 87) dL_ship_85 rfl rfl ?_
  refine v_shr F (q := 88) dL_ship_87 rfl (fun a_14 h_14 => ?_)
  refine v_bipush F (q := 90) dL_ship_88 rfl rfl ?_
  refine v_below F hst (by omega) gL_ship_L_below ⟨Nat.le_of_ble_eq_true rfl, Nat.le_of_ble_eq_true rfl⟩ (Nat.le_of_ble_eq_true rfl) ⟨by show 30 + 1 ≤ 200; omega, by show 3140 + 6 ≤ 4200; omega⟩ (q := 93) dL_ship_90 rfl (fun a_15 h_15 => ?_)
  refine v_iadd F (q := 94) dL_ship_93 rfl ?_
  refine v_const F (q := 95) dL_ship_94 rfl ?_
  refine v_aload_n F 2 (q := 96) dL_ship_95 rfl rfl rfl ?_
  refine v_const F (q := 97) dL_ship_96 rfl ?_
  refine v_cell F hst hX hbl hbA hL (by omega) gL_ship_L_cell ⟨Nat.le_of_ble_eq_true rfl, Nat.le_of_ble_eq_true rfl⟩ (Nat.le_of_ble_eq_true rfl) ⟨by show 30 + 1 ≤ 200; omega, by show 3140 + 6 ≤ 4200; omega⟩ (q := 100) dL_ship_97 rfl (fun a_16 h_16 => ?_)
  refine v_bipush F (q := 102) dL_ship_100 rfl rfl ?_
  refine v_shr F (q := 103) dL_ship_102 rfl (fun a_17 h_17 => ?_)
  refine v_bipush F (q := 105) dL_ship_103 rfl rfl ?_
  refine v_below F hst (by omega) gL_ship_L_below ⟨Nat.le_of_ble_eq_true rfl, Nat.le_of_ble_eq_true rfl⟩ (Nat.le_of_ble_eq_true rfl) ⟨by show 30 + 1 ≤ 200; omega, by show 3140 + 6 ≤ 4200; omega⟩ (q := 108) dL_ship_105 rfl (fun a_18 h_18 => ?_)
  refine v_iadd F (q := 109) dL_ship_108 rfl ?_
  have e_19 : eHull S1 (10 + l0) (1 + a_15) (1 + a_18) = 0 := by unfold eHull; rw [if_pos (by omega), if_pos (by omega)]
  refine v_callVt0 F (kX5_setHull hst (k := k) (h := h) (S := S1) (Z := Z) hI1.1.1 (a0 := 10 + l0) (a1 := 1 + a_15) (a2 := 1 + a_18) (by omega) (by omega) (by omega)) (fun E9 u9 h9 => by rcases h9.2 with z | z <;> (have z1 := z.1; rw [e_19] at z1; exact absurd z1 (by decide))) gL_ship_X5_setHull rfl hdX5_setHull ⟨Nat.le_of_ble_eq_true rfl, Nat.le_of_ble_eq_true rfl⟩ 0 cw_at0 rfl rfl rfl (Nat.le_of_ble_eq_true rfl) ⟨by show 30 + 1 + 1 ≤ 200; omega, by show 3140 + 6 + 6 ≤ 4200; omega⟩ (q := 112) dL_ship_109 rfl ?_
  rintro a_19 _ ⟨rfl, -, h_19⟩
  refine v_weq (w9 := cw k h (sHull S1 (10 + l0) (1 + a_15) (1 + a_18)) Z) rfl ?_
  obtain ⟨S2, hS2⟩ : ∃ S2, S2 = (sHull S1 (10 + l0) (1 + a_15) (1 + a_18)) := ⟨_, rfl⟩
  rw [← hS2]
  have hI2 : Inv3 S2 := by rw [hS2]; exact inv3_sHull hI1 e_19
  have g7 : S2 0 7 = 0 := by rw [hS2]; exact f7
  have g8 : S2 0 8 = 0 := by rw [hS2]; exact f8
  have g9 : S2 0 9 = 0 := by rw [hS2]; exact f9
  have g3 : ∀ m, S2 3 m = 0 := by rw [hS2]; exact f3
  have g4 : S2 0 4 = 10 + l0 := by rw [hS2]; rfl
  refine v_pop F (q := 113) dL_ship_112 rfl rfl ?_
  refine v_widen (c' := 40) (n' := 3200) (by first | omega | (dsimp only; omega)) (by first | omega | (dsimp only; omega)) ?_
  exact sh113 F hst hX hbl hbA hL fin hTab hI2 g7 g8 g9 g4 (by omega) g3
/-! ===== the law, from its entry ===== -/
theorem perm_of {α : Type} {w w' : List α} (σ : List Nat) (n : Nat) (h : (List.range n).isPerm σ = true) (e1 : (List.range n).filterMap (fun i => w[i]?) = w) (e2 : σ.filterMap (fun i => w[i]?) = w') : w.Perm w' := by
  have := (List.isPerm_iff.mp h).filterMap (fun i => w[i]?)
  rw [e1, e2] at this
  exact this
def S00 (a i : Nat) : Int := if a = 0 then (if i = 0 then 8 else if i = 1 then 30 else if i = 2 then 60 else if i = 4 then 40 else if i = 5 then 4 else if i = 6 then 5 else 0) else 0
def Z00 (_ _ : Nat) : Int := 0
theorem s00_r (a i : Nat) (h : ¬ a = 0) : S00 a i = 0 := by unfold S00; rw [if_neg h]
theorem s00_b (i : Nat) : 0 ≤ S00 0 i ∧ S00 0 i ≤ 60 := by
  unfold S00
  rw [if_pos rfl]
  (repeat' split) <;> decide
theorem inv_S00 : Inv2 S00 := by
  have r1 := fun i => s00_r 1 i (by decide)
  have r2 := fun i => s00_r 2 i (by decide)
  have r3 := fun i => s00_r 3 i (by decide)
  have r4 := fun i => s00_r 4 i (by decide)
  have r5 := fun i => s00_r 5 i (by decide)
  have r8 := fun i => s00_r 8 i (by decide)
  have e7 : S00 0 7 = 0 := rfl
  have e8 : S00 0 8 = 0 := rfl
  have e9 : S00 0 9 = 0 := rfl
  have e6 : S00 0 6 = 5 := rfl
  refine ⟨?_, fun t ht => by rw [e8] at ht; omega⟩
  unfold Inv
  simp only [r2, r3, r4, r5, r8, e7, e8, e9, e6]
  refine ⟨fun a i _ => ?_, by decide, by decide, by decide, fun _ => by decide, fun _ _ => by first | exact ⟨rfl, rfl⟩ | exact ⟨trivial, trivial⟩ | trivial, fun _ => by decide, fun _ => by decide, fun _ => by decide, fun t ht => by omega, fun _ _ => trivial, fun a i ha _ => ?_, fun i _ => (s00_b i).1, by decide, fun _ => by decide⟩
  · by_cases z : a = 0
    · subst z; have := s00_b i; omega
    · rw [s00_r a i z]; decide
  · rw [s00_r a i (by omega)]; decide
theorem inv3_S00 : Inv3 S00 := ⟨inv_S00, fun t ht => by have e8 : S00 0 8 = 0 := rfl; rw [e8] at ht; omega⟩

def hOf (a b0 b1 b2 b3 b4 b5 b6 b7 b8 b9 b10 b11 b12 b13 b14 b15 b16 b17 b18 b19 b20 b21 b22 b23 b24 b25 b26 : Nat) (i : Nat) : Nat := match i with | 0 => a | 1 => b21 | 2 => b20 | 3 => b22 | 4 => b23 | 5 => b14 | 6 => b24 | 7 => b25 | 8 => b26 | 9 => b12 | 10 => b10 | 11 => b8 | 12 => b13 | 13 => b11 | 14 => b9 | 15 => b7 | 16 => b6 | 17 => b5 | 18 => b4 | 19 => b3 | 20 => b2 | 21 => b1 | 22 => b0 | 23 => b15 | 24 => b16 | 25 => b17 | 26 => b18 | 27 => b19 | _ => 0
theorem hdL_ship : yL_ship.cls ≠ "java/lang/invoke/MethodHandle" ∧ yL_ship.cls ≠ "java/lang/invoke/VarHandle" ∧ (parseMethodDescriptor yL_ship.desc).map (fun d => d.parameters.length) = some 1 := by decide +kernel
set_option maxRecDepth 100000 in
set_option maxHeartbeats 4000000 in
theorem kL_ship {l : Launch} (hst : l.stackTraces = false) {k : Nat → ClassId} {b L : Nat} {xs : Nat → Int32} (hL : L ≤ 2560) : v_Cr l k yL_ship wsL_ship shRm [.ref b] [] b L xs (fun r u => ∃ (h : Nat → Nat) (S Z : Nat → Nat → Int), u = cw k h S Z ∧ r = h 0 ∧ Inv3 S) := by
  refine v_ofR (cc := cL_ship) (nL := 9) (by decide +kernel) rfl hst (Nat.le_of_ble_eq_true rfl) (fun XX hX hbl hbA hN F hTab ret => ?_)
  have hin5 : ∀ w ∈ wsX50, w ∈ wsL_ship := by decide +kernel
  show V XX [] 0 0 0 [(0, .ref b)] []
  refine v_new F (C := RX5) (T := TX5) (N := 14) (ci := 5) (fs := [.null, .null, .null, .null, .null, .null, .null, .null, VI 0, VI 0, VI 0, VI 0, VI 0, VI 0]) hin5 tyX5 tyX5_ok (by decide +kernel : Cond.classLink RL 9 RX5 ∈ wsL_ship) (by decide +kernel) (by decide +kernel) rfl (fun j hj => match j, hj with | 0, _ => rfl | 1, _ => rfl | 2, _ => rfl | 3, _ => rfl | 4, _ => rfl | 5, _ => rfl | 6, _ => rfl | 7, _ => rfl | 8, _ => rfl | 9, _ => rfl | 10, _ => rfl | 11, _ => rfl | 12, _ => rfl | 13, _ => rfl | j + 14, h => absurd h (by omega)) (Nat.le_of_ble_eq_true rfl) (Nat.le_of_ble_eq_true rfl) (q := 3) dL_ship_0 rfl (fun a => ?_)
  refine v_weq (w9 := [(a, .inr (5, [.null, .null, .null, .null, .null, .null, .null, .null, VI 0, VI 0, VI 0, VI 0, VI 0, VI 0]))]) rfl ?_
  refine v_dup F (q := 4) dL_ship_3 rfl rfl ?_
  refine v_callIX F hN (kX5_init hst (k := k) (a := a)) (w2 := []) rfl gL_ship_X5_init rfl (by decide +kernel) (by decide +kernel : Cond.methodLink RL 11 yX5_init ∈ wsL_ship) (by decide +kernel) rfl ⟨by decide +kernel, by decide +kernel, by decide +kernel⟩ ⟨Nat.le_of_ble_eq_true rfl, Nat.le_of_ble_eq_true rfl⟩ rfl (Nat.le_of_ble_eq_true rfl) ⟨Nat.le_of_ble_eq_true rfl, Nat.le_of_ble_eq_true rfl⟩ (q := 7) dL_ship_4 rfl ?_
  rintro _ ⟨b0, b1, b2, b3, b4, b5, b6, b7, b8, b9, b10, b11, b12, b13, b14, b15, b16, b17, b18, b19, b20, b21, b22, b23, b24, b25, b26, rfl⟩
  refine v_weq (w9 := [(b0, .inr (1, [VI 0, VI 0, VI 0, VI 0, VI 0, VI 0])), (b1, .inr (1, [VI 0, VI 0, VI 0, VI 0, VI 0, VI 0])), (b2, .inr (1, [VI 0, VI 0, VI 0, VI 0, VI 0, VI 0])), (b3, .inr (1, [VI 0, VI 0, VI 0, VI 0, VI 0, VI 0])), (b4, .inr (1, [VI 0, VI 0, VI 0, VI 0, VI 0, VI 0])), (b5, .inr (1, [VI 0, VI 0, VI 0, VI 0, VI 0, VI 0])), (b6, .inr (1, [VI 0, VI 0, VI 0, VI 0, VI 0, VI 0])), (b7, .inr (1, [VI 0, VI 0, VI 0, VI 0, VI 0, VI 0])), (b8, .inr (3, [.ref b9, VI 0, VI 0, VI 0])), (b9, aI k 3 (fun _ => 0)), (b10, .inr (3, [.ref b11, VI 0, VI 0, VI 0])), (b11, aI k 3 (fun _ => 0)), (b12, .inr (3, [.ref b13, VI 0, VI 0, VI 0])), (b13, aI k 3 (fun _ => 0)), (b14, .inr (4, [.ref b15, .ref b16, .ref b17, .ref b18, .ref b19, VI 0])), (b15, aI k 3 (fun _ => 0)), (b16, aI k 3 (fun _ => 0)), (b17, aI k 1000 (fun _ => 0)), (b18, aI k 1000 (fun _ => 0)), (b19, aI k 1000 (fun _ => 0)), (b20, .inr (2, [VI 40, VI 4, VI 5])), (b21, .inr (0, [VI 8, VI 30, VI 60, VI 0])), (a, .inr (5, [.ref b21, .ref b20, .ref b22, .ref b23, .ref b14, .ref b24, .ref b25, .ref b26, VI 0, VI 0, VI 0, VI 0, VI 0, VI 0])), (b22, .inl (k 1, 3, .inr (.inr (.inr (.inr (va_up (va_up (va_up (fun _ => none) 0 (some b12)) 1 (some b10)) 2 (some b8))))))), (b23, .inl (k 2, 8, .inr (.inr (.inr (.inr (va_up (va_up (va_up (va_up (va_up (va_up (va_up (va_up (fun _ => none) 0 (some b7)) 1 (some b6)) 2 (some b5)) 3 (some b4)) 4 (some b3)) 5 (some b2)) 6 (some b1)) 7 (some b0))))))), (b24, aI k 3 (fun _ => 0)), (b25, aI k 3 (fun _ => 0)), (b26, aI k 3 (fun _ => 0))]) (List.append_nil _) ?_
  refine v_astore_n F (q := 8) [(1, .ref a), (0, .ref b)] dL_ship_7 rfl (by decide) rfl rfl ?_
  refine v_rowcg (g := fun m => some ((hOf a b0 b1 b2 b3 b4 b5 b6 b7 b8 b9 b10 b11 b12 b13 b14 b15 b16 b17 b18 b19 b20 b21 b22 b23 b24 b25 b26) (9 + m))) 23 ([(b0, .inr (1, [VI 0, VI 0, VI 0, VI 0, VI 0, VI 0])), (b1, .inr (1, [VI 0, VI 0, VI 0, VI 0, VI 0, VI 0])), (b2, .inr (1, [VI 0, VI 0, VI 0, VI 0, VI 0, VI 0])), (b3, .inr (1, [VI 0, VI 0, VI 0, VI 0, VI 0, VI 0])), (b4, .inr (1, [VI 0, VI 0, VI 0, VI 0, VI 0, VI 0])), (b5, .inr (1, [VI 0, VI 0, VI 0, VI 0, VI 0, VI 0])), (b6, .inr (1, [VI 0, VI 0, VI 0, VI 0, VI 0, VI 0])), (b7, .inr (1, [VI 0, VI 0, VI 0, VI 0, VI 0, VI 0])), (b8, .inr (3, [.ref b9, VI 0, VI 0, VI 0])), (b9, aI k 3 (fun _ => 0)), (b10, .inr (3, [.ref b11, VI 0, VI 0, VI 0])), (b11, aI k 3 (fun _ => 0)), (b12, .inr (3, [.ref b13, VI 0, VI 0, VI 0])), (b13, aI k 3 (fun _ => 0)), (b14, .inr (4, [.ref b15, .ref b16, .ref b17, .ref b18, .ref b19, VI 0])), (b15, aI k 3 (fun _ => 0)), (b16, aI k 3 (fun _ => 0)), (b17, aI k 1000 (fun _ => 0)), (b18, aI k 1000 (fun _ => 0)), (b19, aI k 1000 (fun _ => 0)), (b20, .inr (2, [VI 40, VI 4, VI 5])), (b21, .inr (0, [VI 8, VI 30, VI 60, VI 0])), (a, .inr (5, [.ref b21, .ref b20, .ref b22, .ref b23, .ref b14, .ref b24, .ref b25, .ref b26, VI 0, VI 0, VI 0, VI 0, VI 0, VI 0])), (b22, .inl (k 1, 3, .inr (.inr (.inr (.inr (fun m => some ((hOf a b0 b1 b2 b3 b4 b5 b6 b7 b8 b9 b10 b11 b12 b13 b14 b15 b16 b17 b18 b19 b20 b21 b22 b23 b24 b25 b26) (9 + m)))))))), (b23, .inl (k 2, 8, .inr (.inr (.inr (.inr (va_up (va_up (va_up (va_up (va_up (va_up (va_up (va_up (fun _ => none) 0 (some b7)) 1 (some b6)) 2 (some b5)) 3 (some b4)) 4 (some b3)) 5 (some b2)) 6 (some b1)) 7 (some b0))))))), (b24, aI k 3 (fun _ => 0)), (b25, aI k 3 (fun _ => 0)), (b26, aI k 3 (fun _ => 0))]) rfl (fun j hj => by obtain rfl | rfl | rfl : j = 0 ∨ j = 1 ∨ j = 2 := (by omega); all_goals rfl) rfl ?_
  refine v_rowcg (g := fun m => some ((hOf a b0 b1 b2 b3 b4 b5 b6 b7 b8 b9 b10 b11 b12 b13 b14 b15 b16 b17 b18 b19 b20 b21 b22 b23 b24 b25 b26) (15 + m))) 24 ([(b0, .inr (1, [VI 0, VI 0, VI 0, VI 0, VI 0, VI 0])), (b1, .inr (1, [VI 0, VI 0, VI 0, VI 0, VI 0, VI 0])), (b2, .inr (1, [VI 0, VI 0, VI 0, VI 0, VI 0, VI 0])), (b3, .inr (1, [VI 0, VI 0, VI 0, VI 0, VI 0, VI 0])), (b4, .inr (1, [VI 0, VI 0, VI 0, VI 0, VI 0, VI 0])), (b5, .inr (1, [VI 0, VI 0, VI 0, VI 0, VI 0, VI 0])), (b6, .inr (1, [VI 0, VI 0, VI 0, VI 0, VI 0, VI 0])), (b7, .inr (1, [VI 0, VI 0, VI 0, VI 0, VI 0, VI 0])), (b8, .inr (3, [.ref b9, VI 0, VI 0, VI 0])), (b9, aI k 3 (fun _ => 0)), (b10, .inr (3, [.ref b11, VI 0, VI 0, VI 0])), (b11, aI k 3 (fun _ => 0)), (b12, .inr (3, [.ref b13, VI 0, VI 0, VI 0])), (b13, aI k 3 (fun _ => 0)), (b14, .inr (4, [.ref b15, .ref b16, .ref b17, .ref b18, .ref b19, VI 0])), (b15, aI k 3 (fun _ => 0)), (b16, aI k 3 (fun _ => 0)), (b17, aI k 1000 (fun _ => 0)), (b18, aI k 1000 (fun _ => 0)), (b19, aI k 1000 (fun _ => 0)), (b20, .inr (2, [VI 40, VI 4, VI 5])), (b21, .inr (0, [VI 8, VI 30, VI 60, VI 0])), (a, .inr (5, [.ref b21, .ref b20, .ref b22, .ref b23, .ref b14, .ref b24, .ref b25, .ref b26, VI 0, VI 0, VI 0, VI 0, VI 0, VI 0])), (b22, .inl (k 1, 3, .inr (.inr (.inr (.inr (fun m => some ((hOf a b0 b1 b2 b3 b4 b5 b6 b7 b8 b9 b10 b11 b12 b13 b14 b15 b16 b17 b18 b19 b20 b21 b22 b23 b24 b25 b26) (9 + m)))))))), (b23, .inl (k 2, 8, .inr (.inr (.inr (.inr (fun m => some ((hOf a b0 b1 b2 b3 b4 b5 b6 b7 b8 b9 b10 b11 b12 b13 b14 b15 b16 b17 b18 b19 b20 b21 b22 b23 b24 b25 b26) (15 + m)))))))), (b24, aI k 3 (fun _ => 0)), (b25, aI k 3 (fun _ => 0)), (b26, aI k 3 (fun _ => 0))]) rfl (fun j hj => by obtain rfl | rfl | rfl | rfl | rfl | rfl | rfl | rfl : j = 0 ∨ j = 1 ∨ j = 2 ∨ j = 3 ∨ j = 4 ∨ j = 5 ∨ j = 6 ∨ j = 7 := (by omega); all_goals rfl) rfl ?_
  refine v_perm (w' := cw k (hOf a b0 b1 b2 b3 b4 b5 b6 b7 b8 b9 b10 b11 b12 b13 b14 b15 b16 b17 b18 b19 b20 b21 b22 b23 b24 b25 b26) S00 Z00) (perm_of [22, 21, 20, 23, 24, 14, 25, 26, 27, 12, 10, 8, 13, 11, 9, 7, 6, 5, 4, 3, 2, 1, 0, 15, 16, 17, 18, 19] 28 (by decide) rfl rfl) ?_
  generalize hq : (hOf a b0 b1 b2 b3 b4 b5 b6 b7 b8 b9 b10 b11 b12 b13 b14 b15 b16 b17 b18 b19 b20 b21 b22 b23 b24 b25 b26) = hh
  have e0 : a = hh 0 := by rw [← hq]; rfl
  rw [e0]
  refine v_widen (c' := 30) (n' := 3140) (Nat.le_of_ble_eq_true rfl) (Nat.le_of_ble_eq_true rfl) ?_
  exact sh8 F hst hX hbl hbA hL (fun S Z c n lv hI hc hn => ret _ _ c n 561 lv hc hn dL_ship_561 ⟨hh, S, Z, rfl, rfl, hI⟩) hTab inv3_S00 rfl rfl rfl (fun m => s00_r 3 m (by decide))
