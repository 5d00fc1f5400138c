/-! ===== what the property says, of a state ===== -/
/-- and a broken thread has no strength -/
def Inv3 (S : Nat → Nat → Int) : Prop := Inv2 S ∧ ∀ t : Nat, (t : Int) < S 0 8 → S 8 t = 2 → S 7 t = 0
theorem Inv3.keep {S S1 : Nat → Nat → Int} (h : Inv3 S) (h1 : Inv2 S1) (e8 : S1 0 8 = S 0 8) (r8 : ∀ t, S1 8 t = S 8 t) (r7 : ∀ t, S1 7 t = S 7 t) : Inv3 S1 := ⟨h1, fun t ht hs => by rw [r7]; rw [e8] at ht; rw [r8] at hs; exact h.2 t ht hs⟩
theorem inv3_sBottle {S : Nat → Nat → Int} (h : Inv3 S) {a b c d : Int} (e : eBottle S a b c d = 0) : Inv3 (sBottle S a b c d) := h.keep (inv2_sBottle h.1 e) rfl (fun _ => rfl) (fun _ => rfl)
theorem inv3_sHull {S : Nat → Nat → Int} (h : Inv3 S) {a b c : Int} (e : eHull S a b c = 0) : Inv3 (sHull S a b c) := h.keep (inv2_sHull h.1 e) rfl (fun _ => rfl) (fun _ => rfl)
theorem inv3_sStep {S : Nat → Nat → Int} (h : Inv3 S) {p t : Int} (e : eStep S p t = 0) : Inv3 (sStep S p t) := h.keep (inv2_sStep h.1 e) rfl (fun _ => rfl) (fun _ => rfl)
theorem inv3_sEnter {S : Nat → Nat → Int} (h : Inv3 S) : Inv3 (sEnter S) := by
  refine h.keep (inv2_sEnter h.1) ?_ (fun j => ?_) (fun j => ?_) <;> (unfold sEnter; split <;> rfl)
theorem inv3_sLeave {S : Nat → Nat → Int} (h : Inv3 S) : Inv3 (sLeave S) := by
  refine h.keep (inv2_sLeave h.1) ?_ (fun j => ?_) (fun j => ?_) <;> (unfold sLeave; split <;> rfl)
theorem inv3_sPass {S : Nat → Nat → Int} (h : Inv3 S) (n : Int) : Inv3 (sPass S n) := h.keep (inv2_sPass h.1 n) rfl (fun _ => rfl) (fun _ => rfl)
theorem inv3_sYard {S : Nat → Nat → Int} (h : Inv3 S) {m v : Int} (e : eYard S m v = 0) : Inv3 (sYard S m v) := by
  refine h.keep (inv2_sYard h.1 e) ?_ (fun j => ?_) (fun j => ?_)
  · exact (u2_ne (fun z => by omega)).trans (u2_ne (fun z => by omega))
  · exact (u2_ne (fun z => by omega)).trans (u2_ne (fun z => by omega))
  · exact (u2_ne (fun z => by omega)).trans (u2_ne (fun z => by omega))
theorem inv3_sLead {S : Nat → Nat → Int} (h : Inv3 S) {m t v : Int} (e : eLead S m t v = 0) : Inv3 (sLead S m t v) := by
  refine ⟨inv2_sLead h.1 e, fun j hj hs => ?_⟩
  have r7 : sLead S m t v 7 j = if j = tcn S then v else S 7 j := rfl
  have r8 : sLead S m t v 8 j = S 8 j := rfl
  have r08 : sLead S m t v 0 8 = S 0 8 + 1 := rfl
  have hc := h.1.1.cc
  rw [r8] at hs
  rw [r08] at hj
  rw [r7]
  by_cases z : j = tcn S
  · have := h.1.1.nt j (by rw [z]; unfold tcn; omega)
    omega
  · rw [if_neg z]
    exact h.2 j (by unfold tcn at z; omega) hs
theorem inv3_sGlue {S : Nat → Nat → Int} (h : Inv3 S) {t : Int} (e : eGlue S t = 0) : Inv3 (sGlue S t.toNat) := by
  refine ⟨inv2_sGlue h.1 e, fun j hj hs => ?_⟩
  have hr : ¬ S 8 t.toNat = 2 := by
    unfold eGlue at e; split at e
    · split at e
      · omega
      · next h1 h2 => exact h2
    · omega
  have hst := h.1.1.st t.toNat
  have hj' : (j : Int) < S 0 8 := hj
  show S 7 j = 0
  unfold sGlue at hs
  by_cases z : j = t.toNat
  · subst z; rw [u2_eq] at hs; omega
  · rw [u2_ne (fun y => z y.2)] at hs; exact h.2 j hj' hs
theorem inv3_sPull {S : Nat → Nat → Int} (h : Inv3 S) {t : Int} (e : ePull S t = 0) : Inv3 (sPull S t.toNat) := by
  refine ⟨inv2_sPull h.1 e, fun j hj hs => ?_⟩
  unfold sPull at hj hs ⊢
  split at hj
  · next e0 => rw [if_pos e0] at hs ⊢; exact h.2 j hj hs
  · next e0 =>
    rw [if_neg e0] at hs ⊢
    split at hj
    · next e1 => rw [if_pos e1] at hs ⊢; exact h.2 j hj hs
    · next e1 =>
      rw [if_neg e1] at hs ⊢
      have hh : ∀ j : Nat, (j : Int) < u2 S 0 12 (S 0 12 + 1) 0 8 → u2 S 0 12 (S 0 12 + 1) 8 j = 2 → u2 S 0 12 (S 0 12 + 1) 7 j = 0 := h.2
      have h8 : u2 S 0 12 (S 0 12 + 1) 8 t.toNat = 0 := by
        show S 8 t.toNat = 0
        unfold ePull at e; split at e
        · split at e
          · next h1 h2 => exact h2
          · omega
        · omega
      generalize u2 S 0 12 (S 0 12 + 1) = S1 at hj hs hh h8
      unfold sWear at hj hs ⊢
      split at hj
      · next e2 =>
        rw [if_pos e2] at hs ⊢
        have q0 : u2 (u2 S1 7 t.toNat (S1 7 t.toNat - 1)) 8 t.toNat 2 0 8 = S1 0 8 := rfl
        rw [q0] at hj
        by_cases z : j = t.toNat
        · subst z; rw [u2_ne (fun y => by omega), u2_eq]; exact e2
        · rw [u2_ne (fun y => z y.2), u2_ne (fun y => z y.2)] at hs
          rw [u2_ne (fun y => z y.2), u2_ne (fun y => z y.2)]
          exact hh j hj hs
      · next e2 =>
        rw [if_neg e2] at hs ⊢
        have q0 : u2 S1 7 t.toNat (S1 7 t.toNat - 1) 0 8 = S1 0 8 := rfl
        rw [q0] at hj
        rw [u2_ne (fun y => by omega)] at hs
        by_cases z : j = t.toNat
        · exfalso
          rw [z] at hs
          omega
        · rw [u2_ne (fun y => z y.2)]
          exact hh j hj hs
/-- height and reach -/
theorem own_tall (S : Nat → Nat → Int) (f : Nat → Int) (m : Nat) : stand S f m + reachM S f m ≤ S 2 m ∧ S 2 m - 1 ≤ stand S f m + reachM S f m := by
  unfold stand reachM
  rw [Int.mul_sub]
  generalize S 2 m * f m = p
  omega
theorem dig_nn (n m : Nat) : 0 ≤ dig n m := by unfold dig; omega
theorem dig_0 (m : Nat) : dig 0 m = 0 := by unfold dig; simp
theorem lea_bd {S : Nat → Nat → Int} (hI : Inv S) {m : Nat} (hm : m < 3) {a : Int} (h : LeaP S (cS S) m a) : 0 ≤ a ∧ a ≤ S 4 m := by
  obtain ⟨⟨k, n, r, e⟩, l⟩ := h
  have h1 := dig_nn n m
  have h2 := l 0 (cS S) rfl
  rw [dig_cS hI hm] at h2
  omega
theorem lea_0 {S : Nat → Nat → Int} {s m : Nat} {a b : Int} (hf : FewP S s a) (ha : 0 ≤ a) (h : LeaP S s m b) : b = 0 := by
  obtain ⟨⟨k, n, r, e⟩, l⟩ := h
  have h1 := dig_nn n m
  rcases hf with ⟨rfl, _⟩ | ⟨d, rfl, hd⟩
  · omega
  · have h2 := l d 0 hd.1
    rw [dig_0] at h2
    omega
theorem few_0 {S : Nat → Nat → Int} {s : Nat} {a : Int} (h : FewP S s a) : a = 0 ↔ s = 0 := by
  rcases h with ⟨rfl, h⟩ | ⟨d, rfl, h⟩
  · refine ⟨fun q => by omega, fun q => ?_⟩
    subst q
    exact absurd rfl (h 0)
  · refine ⟨fun q => ?_, fun q => ?_⟩
    · obtain rfl : d = 0 := by omega
      have : 0 = s := h.1
      exact this.symm
    · subst q
      have h2 : Dst S 0 0 0 := ⟨rfl, fun j hj => absurd hj (Nat.not_lt_zero j)⟩
      rw [h.uniq h2]; rfl
theorem cnt_all (p : Nat → Bool) (n : Nat) : cnt p n = (n : Int) ↔ ∀ t, t < n → p t = true := by
  induction n with
  | zero => exact ⟨fun _ t ht => absurd ht (Nat.not_lt_zero t), fun _ => rfl⟩
  | succ n ih =>
    have hn := cnt_nn p n
    rw [cnt_s]
    refine ⟨fun q t ht => ?_, fun q => ?_⟩
    · by_cases hp : p n = true
      · rw [if_pos hp] at q
        by_cases e : t = n
        · rw [e]; exact hp
        · exact (ih.mp (by omega)) t (by omega)
      · rw [if_neg hp] at q; omega
    · rw [if_pos (q n (by omega)), ih.mpr (fun t ht => q t (by omega))]; omega
def upN (S : Nat → Nat → Int) (n : Nat) : Int := cnt (fun m => decide (S 4 m = 0)) n
theorem mcn_z {S : Nat → Nat → Int} (hI : Inv S) : ((mcn S : Nat) : Int) = S 0 7 := by have := hI.mc; unfold mcn; omega
theorem tcn_z {S : Nat → Nat → Int} (hI : Inv S) : ((tcn S : Nat) : Int) = S 0 8 := by have := hI.cc; unfold tcn; omega
theorem few_up {S : Nat → Nat → Int} (hI : Inv S) {a : Int} (h : FewP S (cS S) a) : a = 0 ↔ upN S (mcn S) = S 0 7 := by
  rw [few_0 h, ← mcn_z hI]
  unfold upN
  rw [cnt_all]
  have hc := (cS_lt hI).2
  have z := mcn_z hI
  have l0 := hI.lean 0; have l1 := hI.lean 1; have l2 := hI.lean 2
  unfold codeF at hc
  refine ⟨fun q t ht => ?_, fun q => ?_⟩
  · have hm := hI.mc
    obtain rfl | rfl | rfl : t = 0 ∨ t = 1 ∨ t = 2 := by omega
    all_goals exact decide_eq_true (by omega)
  · have g : ∀ t, t < 3 → S 4 t = 0 := fun t ht => by
      by_cases e : t < mcn S
      · exact of_decide_eq_true (q t e)
      · exact (hI.none t (by omega)).1
    have g0 := g 0 (by decide); have g1 := g 1 (by decide); have g2 := g 2 (by decide)
    omega
theorem fst_few {S : Nat → Nat → Int} {s : Nat} {a b : Int} (hf : FstP S s a) (h : FewP S s b) : (0 < b ↔ 0 ≤ a) ∧ -1 ≤ a := by
  rcases hf with ⟨rfl, hd⟩ | ⟨d, t, rfl, hd, h1, h2, h3⟩
  · rcases h with ⟨rfl, h⟩ | ⟨d, rfl, h⟩
    · omega
    · have := hd d h; omega
  · rcases h with ⟨rfl, h⟩ | ⟨d', rfl, h⟩
    · exact absurd h1.1 (h d)
    · have := h1.uniq h; omega
theorem fst_th {S : Nat → Nat → Int} {s : Nat} {a : Int} (hf : FstP S s a) : a < max 0 (S 0 8) := by
  rcases hf with ⟨rfl, hd⟩ | ⟨d, t, rfl, hd, h1, h2, h3⟩
  · omega
  · have := h2.1; omega
def tot (f : Nat → Int) : Int := f 0 + f 1 + f 2
theorem raise_ge (S : Nat → Nat → Int) (m : Nat) (f : Nat → Int) (o : Nat) : (if o = m then f o - 1 else f o) ≤ raiseF S m f o := by
  unfold raiseF
  split
  · omega
  · split <;> omega
theorem ed_tot {S : Nat → Nat → Int} {n n' : Nat} (h : Ed S n n') : tot (dig n) ≤ tot (dig n') + 1 := by
  obtain ⟨t, ht, hs⟩ := h
  unfold stp at hs
  split at hs
  · have hb := beh_ge (S := S) (f := dig n) (t := t) (by omega)
    have hd := dig_of (raise_bd (S := S) (dig_D9 n) hb.2.2) (hb.1.symm.trans hs)
    have g0 := raise_ge S (S 5 t).toNat (dig n) 0
    have g1 := raise_ge S (S 5 t).toNat (dig n) 1
    have g2 := raise_ge S (S 5 t).toNat (dig n) 2
    rw [← hd 0 (by decide)] at g0
    rw [← hd 1 (by decide)] at g1
    rw [← hd 2 (by decide)] at g2
    unfold tot
    generalize (S 5 t).toNat = m at g0 g1 g2
    (split at g0 <;> split at g1 <;> split at g2) <;> omega
  · omega
theorem rk_tot {S : Nat → Nat → Int} {s : Nat} : ∀ (k n : Nat), Rk S s k n → tot (dig s) ≤ tot (dig n) + (k : Int) := by
  intro k
  induction k with
  | zero => intro n h; rw [Rk_0] at h; subst h; omega
  | succ k ih =>
    intro n h
    obtain ⟨p, h1, h2⟩ := h
    have := ih p h1
    have := ed_tot h2
    omega
theorem sum_tot {S : Nat → Nat → Int} (hI : Inv S) : sumL (S 4) (mcn S) = tot (S 4) := by
  have z := mcn_z hI
  have hm := hI.mc
  have g : ∀ t : Nat, S 0 7 ≤ t → S 4 t = 0 := fun t ht => (hI.none t ht).1
  unfold tot
  obtain e | e | e | e : mcn S = 0 ∨ mcn S = 1 ∨ mcn S = 2 ∨ mcn S = 3 := by omega
  · rw [e, g 0 (by omega), g 1 (by omega), g 2 (by omega)]; rfl
  · rw [e, g 1 (by omega), g 2 (by omega)]; show 0 + S 4 0 = _; omega
  · rw [e, g 2 (by omega)]; show 0 + S 4 0 + S 4 1 = _; omega
  · rw [e]; show 0 + S 4 0 + S 4 1 + S 4 2 = _; omega
theorem few_sum {S : Nat → Nat → Int} (hI : Inv S) {a : Int} (h : FewP S (cS S) a) (ha : 0 ≤ a) : sumL (S 4) (mcn S) ≤ a := by
  rcases h with ⟨rfl, h⟩ | ⟨d, rfl, h⟩
  · omega
  · have h1 := rk_tot d 0 h.1
    have e : tot (dig (cS S)) = tot (S 4) := by
      unfold tot; rw [dig_cS hI (by decide), dig_cS hI (by decide), dig_cS hI (by decide)]
    have e0 : tot (dig 0) = 0 := by unfold tot; rw [dig_0, dig_0, dig_0]; rfl
    rw [sum_tot hI]
    omega
theorem sum_9 {S : Nat → Nat → Int} (hI : Inv S) : sumL (S 4) (mcn S) = 9 * S 0 7 ↔ afB S 0 := by
  have z := mcn_z hI
  have hm := hI.mc
  have l0 := hI.lean 0; have l1 := hI.lean 1; have l2 := hI.lean 2
  have q : afB S 0 ↔ ∀ m : Nat, m < mcn S → S 4 m = 9 := by
    refine ⟨fun h m hm => ?_, fun h m hm => ?_⟩
    · have := h m (by omega); have := hI.lean m; simp at *; omega
    · have := h m (by omega); simp; omega
  rw [q]
  obtain e | e | e | e : mcn S = 0 ∨ mcn S = 1 ∨ mcn S = 2 ∨ mcn S = 3 := by omega
  · rw [e]; refine ⟨fun _ m hm => absurd hm (Nat.not_lt_zero m), fun _ => ?_⟩; show (0 : Int) = _; omega
  · rw [e]
    refine ⟨fun h m hm => ?_, fun h => ?_⟩
    · have h' : 0 + S 4 0 = 9 * S 0 7 := h
      obtain rfl : m = 0 := by omega
      omega
    · have := h 0 (by decide); show 0 + S 4 0 = _; omega
  · rw [e]
    refine ⟨fun h m hm => ?_, fun h => ?_⟩
    · have h' : 0 + S 4 0 + S 4 1 = 9 * S 0 7 := h
      obtain rfl | rfl : m = 0 ∨ m = 1 := by omega
      all_goals omega
    · have := h 0 (by decide); have := h 1 (by decide); show 0 + S 4 0 + S 4 1 = _; omega
  · rw [e]
    refine ⟨fun h m hm => ?_, fun h => ?_⟩
    · have h' : 0 + S 4 0 + S 4 1 + S 4 2 = 9 * S 0 7 := h
      obtain rfl | rfl | rfl : m = 0 ∨ m = 1 ∨ m = 2 := by omega
      all_goals omega
    · have := h 0 (by decide); have := h 1 (by decide); have := h 2 (by decide); show 0 + S 4 0 + S 4 1 + S 4 2 = _; omega
theorem fal_bd {S : Nat → Nat → Int} {a : Int} (h : FallsP S a) : -1 ≤ a ∧ a ≤ 50 := by
  rcases h with ⟨rfl, _⟩ | ⟨n, rfl, h, _⟩ <;> omega
theorem fal_0 {S : Nat → Nat → Int} {a : Int} (h : FallsP S a) : a = 0 ↔ afB S 0 := by
  rcases h with ⟨rfl, h⟩ | ⟨n, rfl, hn, h, hj⟩
  · exact ⟨fun q => by omega, fun q => absurd q (h 0 (by decide))⟩
  · refine ⟨fun q => ?_, fun q => ?_⟩
    · obtain rfl : n = 0 := by omega
      exact h
    · by_cases e : n = 0
      · omega
      · exact absurd q (hj 0 (by omega))
theorem cross_c (S : Nat → Nat → Int) (a b : Nat) : crossB S a b = crossB S b a := by
  unfold crossB
  rw [Bool.eq_iff_iff]
  simp only [Bool.and_eq_true, decide_eq_true_eq]
  constructor
  · rintro ⟨⟨⟨h1, h2⟩, h3⟩, h4⟩; exact ⟨⟨⟨fun e => h1 e.symm, h3⟩, h2⟩, by omega⟩
  · rintro ⟨⟨⟨h1, h2⟩, h3⟩, h4⟩; exact ⟨⟨⟨fun e => h1 e.symm, h3⟩, h2⟩, by omega⟩
theorem cross_y {S : Nat → Nat → Int} {a b : Nat} (h : crossB S a b = true) : ¬ a = b ∧ ¬ S 8 a = 2 := by
  unfold crossB at h
  simp only [Bool.and_eq_true, decide_eq_true_eq] at h
  exact ⟨h.1.1.1, h.1.1.2⟩
theorem str_0 {S : Nat → Nat → Int} (h : Inv3 S) {t : Nat} (ht : (t : Int) < S 0 8) : S 7 t = 0 ↔ S 8 t = 2 := by
  refine ⟨fun q => ?_, fun q => h.2 t ht q⟩
  by_cases e : S 8 t = 2
  · exact e
  · have := h.1.2 t ht e; omega
theorem held_1 {S : Nat → Nat → Int} (hI : Inv S) {t : Nat} (ht : (t : Int) < S 0 8) (h : S 8 t = 1) : heldB S (S 5 t) = true := by
  unfold heldB
  refine decide_eq_true ((cnt_pos _ _).mpr ⟨t, by have := tcn_z hI; omega, ?_⟩)
  unfold onT
  simp [h]
/-! a pull that is done -/
theorem stp_pl (S : Nat → Nat → Int) (v : Int) (g : Nat → Int) (n t : Nat) : stp (ur (u2 S 0 11 v) 4 g) n t = stp S n t := rfl
theorem rk_pl (S : Nat → Nat → Int) (v : Int) (g : Nat → Int) {s : Nat} : ∀ (k n : Nat), Rk (ur (u2 S 0 11 v) 4 g) s k n ↔ Rk S s k n := by
  intro k
  induction k with
  | zero => intro n; exact Iff.rfl
  | succ k ih =>
    intro n
    rw [Rk_s, Rk_s]
    refine ⟨fun ⟨p, h1, t, h2, h3⟩ => ⟨p, (ih p).mp h1, t, h2, ?_⟩, fun ⟨p, h1, t, h2, h3⟩ => ⟨p, (ih p).mpr h1, t, h2, ?_⟩⟩
    · rw [← stp_pl S v g]; exact h3
    · rw [stp_pl S v g]; exact h3
theorem hin_e {S : Nat → Nat → Int} {t : Nat} (h : hinF S t = 0) : behF S (S 4) t = codeF (raiseF S (S 5 t).toNat (S 4)) := by
  unfold hinF at h
  unfold behF
  by_cases e : heldB S (S 5 t) = true ∨ S 4 (S 5 t).toNat = 0
  · rw [if_pos e] at h; omega
  · rw [if_neg e] at h ⊢
    by_cases e2 : strongB S t = true
    · rw [if_pos e2] at h; omega
    · rw [if_neg e2] at h ⊢
      by_cases e3 : S 0 9 = 1 ∧ fitsB S (raiseF S (S 5 t).toNat (S 4)) = false
      · rw [if_pos e3] at h; omega
      · rw [if_neg e3]
theorem beh_cg {S : Nat → Nat → Int} (hI : Inv S) {f g : Nat → Int} (e : ∀ m, m < 3 → f m = g m) (t : Nat) : behF S f t = behF S g t := by
  have hm : (S 5 t).toNat < 3 := by have := hI.th t; omega
  have r : ∀ m, m < 3 → raiseF S (S 5 t).toNat f m = raiseF S (S 5 t).toNat g m := fun m h => by unfold raiseF; rw [e m h]
  unfold behF
  rw [e _ hm, fits_cg hI r, code_cg r]
theorem few_pl {S : Nat → Nat → Int} (hI : Inv S) {t : Nat} {a b : Int} (hh : hinF S t = 0) (h8 : S 8 t = 0) (hf : FstP S (cS S) (t : Int)) (h : FewP S (cS S) a) (h' : FewP (sPull S t) (cS (sPull S t)) b) : b = a - 1 := by
  have e1 : sPull S t = ur (u2 S 0 11 (S 0 11 + 1)) 4 (raiseF S (S 5 t).toNat (S 4)) := by unfold sPull; rw [if_pos hh]
  rw [e1] at h'
  have hz := hin_0 hh
  have hc : cS (ur (u2 S 0 11 (S 0 11 + 1)) 4 (raiseF S (S 5 t).toNat (S 4))) = (codeF (raiseF S (S 5 t).toNat (S 4))).toNat := rfl
  have hb := code_bd (raise_bd (S := S) (m := (S 5 t).toNat) hI.lean3 hz.2)
  rw [hc] at h'
  have hs : stp S (cS S) t = codeF (raiseF S (S 5 t).toNat (S 4)) := by
    unfold stp
    rw [if_pos h8, beh_cg hI (fun m hm => dig_cS hI hm), hin_e hh]
  generalize codeF (raiseF S (S 5 t).toNat (S 4)) = p at h' hb hs
  rcases hf with ⟨q, _⟩ | ⟨d, t', q, hd, h1, h2, h3⟩
  · omega
  · obtain rfl : t' = t := by omega
    obtain ⟨h2lt, p', hp, hr⟩ := h2
    obtain rfl : p' = p.toNat := by omega
    have hD : Dst (ur (u2 S 0 11 (S 0 11 + 1)) 4 (raiseF S (S 5 t').toNat (S 4))) p.toNat 0 (d - 1) := by
      refine ⟨(rk_pl _ _ _ _ _).mpr hr, fun j hj hk => ?_⟩
      exact h1.2 (j + 1) (by omega) (Rk_cons ⟨t', h2lt, by omega⟩ ((rk_pl _ _ _ _ _).mp hk))
    have ha := h.uniq (Or.inr ⟨d, rfl, h1⟩)
    have hb := h'.uniq (Or.inr ⟨d - 1, rfl, hD⟩)
    omega
/-! an hour -/
theorem fall_ps (S : Nat → Nat → Int) (m : Nat) : fallF (sPass S 1) m = fallF S m := rfl
theorem late_1 {S : Nat → Nat → Int} {m : Nat} (hm : (m : Int) < S 0 7) : lateF S 1 m = min 9 (S 4 m + fallF S m) := by
  unfold lateF; rw [if_pos hm]; simp
theorem af_ps {S : Nat → Nat → Int} (n : Nat) : afB (sPass S 1) n ↔ afB S (n + 1) := by
  refine ⟨fun h m hm => ?_, fun h m hm => ?_⟩
  · have q := h m hm
    have e : sPass S 1 4 m = lateF S 1 m := rfl
    rw [e, late_1 hm, fall_ps] at q
    have e2 := succ_mul9 n (fallF S m)
    have := fall_bd S m
    have := mul_bd (show (0 : Int) ≤ n by omega) (Int.le_refl n) this.1 this.2
    omega
  · have hm' : (m : Int) < S 0 7 := hm
    have q := h m hm'
    have e : sPass S 1 4 m = lateF S 1 m := rfl
    rw [e, late_1 hm', fall_ps]
    have e2 := succ_mul9 n (fallF S m)
    have := fall_bd S m
    have := mul_bd (show (0 : Int) ≤ n by omega) (Int.le_refl n) this.1 this.2
    omega
theorem af_51 {S : Nat → Nat → Int} (h : afB S 51) (hl : ∀ m, 0 ≤ S 4 m ∧ S 4 m ≤ 9) : afB S 50 := by
  intro m hm
  have q := h m hm
  have hb := fall_bd S m
  have hl := hl m
  obtain e | e | e : fallF S m = 0 ∨ fallF S m = 1 ∨ fallF S m = 2 := by omega
  all_goals (rw [e] at q ⊢; omega)
theorem fal_ps {S : Nat → Nat → Int} (hI : Inv S) {a b : Int} (h : FallsP S a) (h' : FallsP (sPass S 1) b) : b = if 0 < a then a - 1 else a := by
  rcases h with ⟨rfl, h⟩ | ⟨n, rfl, hn, h, hj⟩
  · rw [if_neg (by decide)]
    rcases h' with ⟨rfl, _⟩ | ⟨n', rfl, hn', h', _⟩
    · rfl
    · exfalso
      rw [af_ps] at h'
      by_cases e : n' = 50
      · subst e; exact h 50 (by decide) (af_51 h' hI.lean)
      · exact h (n' + 1) (by omega) h'
  · by_cases e : n = 0
    · subst e
      rw [if_neg (by decide)]
      have h1 : afB (sPass S 1) 0 := by
        rw [af_ps]
        intro m hm
        have q := h m hm
        have := fall_bd S m
        simp at q ⊢
        omega
      exact (fal_0 h').mpr h1
    · rw [if_pos (by omega)]
      have h1 : FallsP (sPass S 1) ((n - 1 : Nat) : Int) := by
        refine Or.inr ⟨n - 1, rfl, by omega, ?_, fun j hj' => ?_⟩
        · rw [af_ps, show n - 1 + 1 = n by omega]; exact h
        · rw [af_ps]; exact hj (j + 1) (by omega)
      rcases h' with ⟨rfl, h'⟩ | ⟨n', rfl, hn', h', hj'⟩
      · exact absurd (by rw [af_ps, show n - 1 + 1 = n by omega]; exact h) (h' (n - 1) (by omega))
      · rcases Nat.lt_trichotomy n' (n - 1) with z | z | z
        · exact absurd h' (by rw [af_ps]; exact hj (n' + 1) (by omega))
        · omega
        · exact absurd (by rw [af_ps, show n - 1 + 1 = n by omega]; exact h) (hj' (n - 1) z)
/-! what a pull shows -/
def pulF (S S' : Nat → Nat → Int) (t : Nat) (r : Int) : Prop :=
  (-3 ≤ r ∧ r ≤ 8) ∧ (r = -1 ↔ (heldB S (S 5 t) = true ∨ S 4 (S 5 t).toNat = 0)) ∧ (S' 0 11 = S 0 11 + (if 0 ≤ r then 1 else 0)) ∧ (S' 0 12 = S 0 12 + (if 0 ≤ r then 0 else 1)) ∧ (0 ≤ r → r = S 4 (S 5 t).toNat - 1 ∧ hinF S t = 0 ∧ (S 0 9 = 1 → fitsB S' (S' 4) = true)) ∧ (∀ m, r < 0 → S' 4 m = S 4 m) ∧ (∀ m, 0 ≤ r → m = (S 5 t).toNat → S' 4 m = S 4 m - 1) ∧ (∀ m, 0 ≤ r → ¬ m = (S 5 t).toNat → S 4 m ≤ S' 4 m ∧ S' 4 m ≤ S 4 m + 1) ∧ S' 0 7 = S 0 7 ∧ S' 0 8 = S 0 8 ∧ ∀ j, S 8 j = 2 → S' 8 j = 2
theorem wear_r (S : Nat → Nat → Int) (t : Nat) (h8 : S 8 t = 0) : (∀ i, sWear S t 0 i = S 0 i) ∧ (∀ m, sWear S t 4 m = S 4 m) ∧ ∀ j, S 8 j = 2 → sWear S t 8 j = 2 := by
  unfold sWear
  split
  · refine ⟨fun i => rfl, fun m => rfl, fun j hj => ?_⟩
    by_cases z : j = t
    · subst z; omega
    · rw [u2_ne (fun y => z y.2)]; exact hj
  · exact ⟨fun i => rfl, fun m => rfl, fun j hj => hj⟩
theorem pul_f {S : Nat → Nat → Int} (h : Inv3 S) {t : Nat} (ht : (t : Int) < S 0 8) (h8 : S 8 t = 0) : pulF S (sPull S t) t (rPull S t) := by
  have hI := h.1.1
  have hb := hin_bd S t
  have hth := hI.thr t ht
  have hm := hI.mc
  have h5 := hI.th t
  have hl := hI.lean (S 5 t).toNat
  by_cases hh : hinF S t = 0
  · have hz := hin_0 hh
    have e1 : sPull S t = ur (u2 S 0 11 (S 0 11 + 1)) 4 (raiseF S (S 5 t).toNat (S 4)) := by unfold sPull; rw [if_pos hh]
    have e2 : rPull S t = S 4 (S 5 t).toNat - 1 := by unfold rPull; rw [if_pos hh]; unfold raiseF; rw [if_pos rfl]
    rw [e1, e2]
    have r4 : ∀ m, ur (u2 S 0 11 (S 0 11 + 1)) 4 (raiseF S (S 5 t).toNat (S 4)) 4 m = raiseF S (S 5 t).toNat (S 4) m := fun m => rfl
    have r11 : ur (u2 S 0 11 (S 0 11 + 1)) 4 (raiseF S (S 5 t).toNat (S 4)) 0 11 = S 0 11 + 1 := rfl
    have r12 : ur (u2 S 0 11 (S 0 11 + 1)) 4 (raiseF S (S 5 t).toNat (S 4)) 0 12 = S 0 12 := rfl
    have h0 : 0 ≤ S 4 (S 5 t).toNat - 1 := by omega
    refine ⟨by omega, ⟨fun q => by omega, fun q => (q.elim (fun z => absurd z hz.1) (fun z => absurd z hz.2))⟩, by rw [r11, if_pos h0], by rw [r12, if_pos h0]; omega, fun _ => ⟨rfl, hh, fun hin => ?_⟩, fun m hm9 => by omega, fun m _ em => ?_, fun m _ em => ?_, rfl, rfl, fun j hj => hj⟩
    · show fitsB S (raiseF S (S 5 t).toNat (S 4)) = true
      unfold hinF at hh
      rw [if_neg (fun z => z.elim hz.1 hz.2)] at hh
      split at hh
      · omega
      · cases hq : fitsB S (raiseF S (S 5 t).toNat (S 4)) with
        | true => rfl
        | false => rw [if_pos ⟨hin, hq⟩] at hh; omega
    · rw [r4]; unfold raiseF; rw [if_pos em]
    · rw [r4]; unfold raiseF; rw [if_neg em]; split <;> omega
  · have e2 : rPull S t = hinF S t := by unfold rPull; rw [if_neg hh]
    have hc : hinF S t = -1 ↔ (heldB S (S 5 t) = true ∨ S 4 (S 5 t).toNat = 0) := by
      unfold hinF
      by_cases e : heldB S (S 5 t) = true ∨ S 4 (S 5 t).toNat = 0
      · rw [if_pos e]; exact ⟨fun _ => e, fun _ => rfl⟩
      · rw [if_neg e]
        refine ⟨fun q => ?_, fun q => absurd q e⟩
        split at q
        · omega
        · split at q <;> omega
    rw [e2]
    by_cases h1 : hinF S t = -1
    · have e1 : sPull S t = u2 S 0 12 (S 0 12 + 1) := by unfold sPull; rw [if_neg hh, if_pos h1]
      rw [e1]
      have r11 : u2 S 0 12 (S 0 12 + 1) 0 11 = S 0 11 := rfl
      have r12 : u2 S 0 12 (S 0 12 + 1) 0 12 = S 0 12 + 1 := rfl
      exact ⟨by omega, hc, by rw [r11, if_neg (by omega)]; omega, by rw [r12, if_neg (by omega)], fun q => by omega, fun m _ => rfl, fun m q _ => by omega, fun m q _ => by omega, rfl, rfl, fun j hj => hj⟩
    · have e1 : sPull S t = sWear (u2 S 0 12 (S 0 12 + 1)) t := by unfold sPull; rw [if_neg hh, if_neg h1]
      rw [e1]
      obtain ⟨w0, w4, w8⟩ := wear_r (u2 S 0 12 (S 0 12 + 1)) t h8
      have r11 : u2 S 0 12 (S 0 12 + 1) 0 11 = S 0 11 := rfl
      have r12 : u2 S 0 12 (S 0 12 + 1) 0 12 = S 0 12 + 1 := rfl
      exact ⟨by omega, hc, by rw [w0, r11, if_neg (by omega)]; omega, by rw [w0, r12, if_neg (by omega)], fun q => by omega, fun m _ => w4 m, fun m q _ => by omega, fun m q _ => by omega, w0 7, w0 8, fun j hj => w8 j hj⟩
/-! what an hour shows -/
theorem pas_f {S : Nat → Nat → Int} (hI : Inv S) : (∀ m : Nat, (m : Int) < S 0 7 → S 4 m ≤ sPass S 1 4 m ∧ sPass S 1 4 m ≤ S 4 m + 2) ∧ rPass S 1 = cnt (fun m => decide (sPass S 1 4 m = 9)) (mcn S) - cnt (fun m => decide (S 4 m = 9)) (mcn S) ∧ sPass S 1 0 7 = S 0 7 ∧ sPass S 1 0 8 = S 0 8 ∧ ∀ j, sPass S 1 8 j = S 8 j := by
  refine ⟨fun m hm => ?_, rfl, rfl, rfl, fun j => rfl⟩
  have e : sPass S 1 4 m = lateF S 1 m := rfl
  rw [e, late_1 hm]
  have := fall_bd S m
  have := hI.lean m
  omega
theorem mv1 (S : Nat → Nat → Int) (m : Nat) : mastV S m 1 = S 2 m := by simp [mastV]
theorem mv2 (S : Nat → Nat → Int) (m : Nat) : mastV S m 2 = S 4 m := by simp [mastV]
theorem mv3 (S : Nat → Nat → Int) (m : Nat) : mastV S m 3 = stand S (S 4) m := by simp [mastV]
theorem mv4 (S : Nat → Nat → Int) (m : Nat) : mastV S m 4 = reachM S (S 4) m := by simp [mastV]
theorem mv5 (S : Nat → Nat → Int) (m : Nat) : mastV S m 5 = S 3 m := by simp [mastV]
theorem mv6 (S : Nat → Nat → Int) (m : Nat) : mastV S m 6 = bI (heldB S (m : Int)) := by simp [mastV]
theorem tv0 (S : Nat → Nat → Int) (t : Nat) : thrV S t 0 = S 5 t := by simp [thrV]
theorem tv2 (S : Nat → Nat → Int) (t : Nat) : thrV S t 2 = S 7 t := by simp [thrV]
theorem tv3 (S : Nat → Nat → Int) (t : Nat) : thrV S t 3 = S 8 t := by simp [thrV]
theorem tv4 (S : Nat → Nat → Int) (t : Nat) : thrV S t 4 = cnt (crossB S t) (tcn S) := by simp [thrV]
theorem sv3 (S : Nat → Nat → Int) : shipV S 3 = bI (goesB S) := by simp [shipV]
theorem sv4 (S : Nat → Nat → Int) : shipV S 4 = bI (fitsB S (S 4)) := by simp [shipV]
theorem sv5 (S : Nat → Nat → Int) : shipV S 5 = S 0 9 := by simp [shipV]
theorem cv1 (S : Nat → Nat → Int) : cntV S 1 = S 0 7 := by simp [cntV]
theorem cv2 (S : Nat → Nat → Int) : cntV S 2 = upN S (mcn S) := by simp [cntV, upN]
theorem cv3 (S : Nat → Nat → Int) : cntV S 3 = S 0 8 := by simp [cntV]
theorem cv6 (S : Nat → Nat → Int) : cntV S 6 = S 0 11 := by simp [cntV]
theorem cv7 (S : Nat → Nat → Int) : cntV S 7 = S 0 12 := by simp [cntV]
theorem bI_bd (b : Bool) : (bI b = 1 ∧ b = true) ∨ (bI b = 0 ∧ b = false) := by cases b <;> simp [bI]
theorem sum_tb {S : Nat → Nat → Int} (hI : Inv S) : 0 ≤ sumL (S 4) (mcn S) ∧ sumL (S 4) (mcn S) ≤ 27 := by
  rw [sum_tot hI]
  have l0 := hI.lean 0; have l1 := hI.lean 1; have l2 := hI.lean 2
  unfold tot; omega
theorem up_bd {S : Nat → Nat → Int} (hI : Inv S) : 0 ≤ upN S (mcn S) ∧ upN S (mcn S) ≤ 3 := by
  have := cnt_nn (fun m => decide (S 4 m = 0)) (mcn S)
  have z := mcn_z hI
  have := hI.mc
  unfold upN; omega
theorem up_s (S : Nat → Nat → Int) (i : Nat) {z : Int} (hz : (z = 1 ∧ S 4 i = 0) ∨ (z = 0 ∧ ¬ S 4 i = 0)) : upN S (i + 1) = upN S i + z := by
  unfold upN
  rw [cnt_s]
  rcases hz with ⟨rfl, h⟩ | ⟨rfl, h⟩
  · simp [h]
  · simp [h]
theorem cr_s (p : Nat → Bool) (j : Nat) {z : Int} (hz : (z = 1 ∧ ¬ bI (p j) = 0) ∨ (z = 0 ∧ bI (p j) = 0)) : cnt p (j + 1) = cnt p j + z := by
  rw [cnt_s]
  rcases bI_bd (p j) with ⟨h, h2⟩ | ⟨h, h2⟩
  · rw [if_pos h2]; omega
  · rw [if_neg (by rw [h2]; decide)]; omega
theorem fl_s (f : Nat → Int) (j : Nat) {z : Int} (hz : (z = 1 ∧ f j = 9) ∨ (z = 0 ∧ ¬ f j = 9)) : cnt (fun m => decide (f m = 9)) (j + 1) = cnt (fun m => decide (f m = 9)) j + z := by
  rw [cnt_s]
  rcases hz with ⟨rfl, h⟩ | ⟨rfl, h⟩
  · simp [h]
  · simp [h]
theorem ent_f {S : Nat → Nat → Int} (hI : Inv S) {ii gg ff : Int} (hii : (ii = 1 ∧ S 0 9 = 1) ∨ (ii = 0 ∧ ¬ S 0 9 = 1)) (hgg : (gg = 1 ∧ goesB S = true) ∨ (gg = 0 ∧ goesB S = false)) (hff : (ff = 1 ∧ fitsB S (S 4) = true) ∨ (ff = 0 ∧ fitsB S (S 4) = false)) : bI (entB S) = 1 ↔ (ii = 0 ∧ gg = 1 ∧ ff = 1) := by
  have h9 := hI.isin
  unfold entB
  rcases hgg with ⟨rfl, hg⟩ | ⟨rfl, hg⟩ <;> rcases hff with ⟨rfl, hf⟩ | ⟨rfl, hf⟩ <;> rcases hii with ⟨rfl, hi⟩ | ⟨rfl, hi⟩ <;> rw [hg, hf]
  all_goals first | (rw [show S 0 9 = 0 from by omega]; simp [bI]; done) | (rw [show S 0 9 = 1 from by omega]; simp [bI])
theorem lea_f {S : Nat → Nat → Int} (hI : Inv S) {ii gg : Int} (hii : (ii = 1 ∧ S 0 9 = 1) ∨ (ii = 0 ∧ ¬ S 0 9 = 1)) (hgg : (gg = 1 ∧ goesB S = true) ∨ (gg = 0 ∧ goesB S = false)) : bI (leaB S) = 1 ↔ (ii = 1 ∧ gg = 1) := by
  have h9 := hI.isin
  unfold leaB
  rcases hgg with ⟨rfl, hg⟩ | ⟨rfl, hg⟩ <;> rcases hii with ⟨rfl, hi⟩ | ⟨rfl, hi⟩ <;> rw [hg]
  all_goals first | (rw [show S 0 9 = 0 from by omega]; simp [bI]; done) | (rw [show S 0 9 = 1 from by omega]; simp [bI])
