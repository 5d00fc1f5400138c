/-! ===== what holds stays so ===== -/
theorem u2_eq (S : Nat → Nat → Int) (a i : Nat) (v : Int) : u2 S a i v a i = v := by show (if a = a then (if i = i then v else S a i) else S a i) = v; rw [if_pos rfl, if_pos rfl]
theorem u2_ne {S : Nat → Nat → Int} {a i : Nat} {v : Int} {b j : Nat} (h : ¬ (b = a ∧ j = i)) : u2 S a i v b j = S b j := by
  show (if b = a then (if j = i then v else S b j) else S b j) = S b j
  by_cases e : b = a
  · rw [if_pos e, if_neg (fun z => h ⟨e, z⟩)]
  · rw [if_neg e]
/-- a scalar -/
theorem inv_put0 {S : Nat → Nat → Int} (h : Inv S) {i : Nat} (hi : i < 7 ∨ i = 9) {v : Int} (hv : 0 ≤ v ∧ v ≤ 100) (h6 : i = 6 → 1 ≤ v) (h9 : i = 9 → v ≤ 1) : Inv (u2 S 0 i v) := by
  obtain ⟨h1, h2, h3, h4, h5, h6', h7, h8, h9', h10, h11, h12, h13, h14, h15⟩ := h
  have e : ∀ b j, ¬ b = 0 → u2 S 0 i v b j = S b j := fun b j hb => u2_ne (fun z => hb z.1)
  have e0 : ∀ j, ¬ j = i → u2 S 0 i v 0 j = S 0 j := fun j hj => u2_ne (fun z => hj z.2)
  have ei := u2_eq S 0 i v
  have r4 : ∀ j, u2 S 0 i v 4 j = S 4 j := fun j => e 4 j (by decide)
  have r3 : ∀ j, u2 S 0 i v 3 j = S 3 j := fun j => e 3 j (by decide)
  have r2 : ∀ j, u2 S 0 i v 2 j = S 2 j := fun j => e 2 j (by decide)
  have r5 : ∀ j, u2 S 0 i v 5 j = S 5 j := fun j => e 5 j (by decide)
  have r6 : ∀ j, u2 S 0 i v 6 j = S 6 j := fun j => e 6 j (by decide)
  have r1 : ∀ j, u2 S 0 i v 1 j = S 1 j := fun j => e 1 j (by decide)
  have r8 : ∀ j, u2 S 0 i v 8 j = S 8 j := fun j => e 8 j (by decide)
  have r13 : ∀ j, u2 S 0 i v 13 j = S 13 j := fun j => e 13 j (by decide)
  have r14 : ∀ j, u2 S 0 i v 14 j = S 14 j := fun j => e 14 j (by decide)
  unfold Inv
  simp only [r4, r3, r2, r5, r6, r1, r8, r13, r14, e0 7 (by omega), e0 8 (by omega)]
  refine ⟨fun a j ha => ?_, h2, h3, ?_, h5, h6', h7, h8, h9', h10, h11, fun a j ha h6 => ?_, fun j hj => ?_, ?_, h15⟩
  · by_cases z : a = 0 ∧ j = i
    · obtain ⟨rfl, rfl⟩ := z; rw [ei]; omega
    · rw [u2_ne z]; exact h1 a j ha
  · by_cases z : 9 = i
    · subst z; rw [ei]; omega
    · rw [e0 9 z]; exact h4
  · rw [e a j (by omega)]; exact h12 a j ha h6
  · by_cases z : j = i
    · subst z; rw [ei]; omega
    · rw [e0 j z]; exact h13 j hj
  · by_cases z : 6 = i
    · subst z; rw [ei]; omega
    · rw [e0 6 z]; exact h14
/-- a place of a row that the other facts don't speak of -/
theorem inv_putR {S : Nat → Nat → Int} (h : Inv S) {a i : Nat} (ha : a = 7 ∨ 15 ≤ a ∨ a = 10 ∨ a = 11 ∨ a = 12) {v : Int} (hv : 0 ≤ v ∧ v ≤ 100) : Inv (u2 S a i v) := by
  obtain ⟨h1, h2, h3, h4, h5, h6', h7, h8, h9', h10, h11, h12, h13, h14, h15⟩ := h
  have e : ∀ b j, ¬ b = a → u2 S a i v b j = S b j := fun b j hb => u2_ne (fun z => hb z.1)
  have ei := u2_eq S a i v
  have r0 : ∀ j, u2 S a i v 0 j = S 0 j := fun j => e 0 j (by omega)
  have r4 : ∀ j, u2 S a i v 4 j = S 4 j := fun j => e 4 j (by omega)
  have r3 : ∀ j, u2 S a i v 3 j = S 3 j := fun j => e 3 j (by omega)
  have r2 : ∀ j, u2 S a i v 2 j = S 2 j := fun j => e 2 j (by omega)
  have r5 : ∀ j, u2 S a i v 5 j = S 5 j := fun j => e 5 j (by omega)
  have r6 : ∀ j, u2 S a i v 6 j = S 6 j := fun j => e 6 j (by omega)
  have r1 : ∀ j, u2 S a i v 1 j = S 1 j := fun j => e 1 j (by omega)
  have r8 : ∀ j, u2 S a i v 8 j = S 8 j := fun j => e 8 j (by omega)
  have r13 : ∀ j, u2 S a i v 13 j = S 13 j := fun j => e 13 j (by omega)
  have r14 : ∀ j, u2 S a i v 14 j = S 14 j := fun j => e 14 j (by omega)
  unfold Inv
  simp only [r0, r4, r3, r2, r5, r6, r1, r8, r13, r14]
  refine ⟨fun b j hb => ?_, h2, h3, h4, h5, h6', h7, h8, h9', h10, h11, fun b j hb h6 => ?_, h13, h14, h15⟩
  · by_cases z : b = a ∧ j = i
    · obtain ⟨rfl, rfl⟩ := z; rw [ei]; omega
    · rw [u2_ne z]; exact h1 b j hb
  · by_cases z : b = a ∧ j = i
    · obtain ⟨rfl, rfl⟩ := z; rw [ei]; omega
    · rw [u2_ne z]; exact h12 b j hb h6
/-- a thread's state -/
theorem inv_put8 {S : Nat → Nat → Int} (h : Inv S) {i : Nat} (hi : (i : Int) < S 0 8) {v : Int} (hv : 0 ≤ v ∧ v ≤ 2) : Inv (u2 S 8 i v) := by
  obtain ⟨h1, h2, h3, h4, h5, h6', h7, h8, h9', h10, h11, h12, h13, h14, h15⟩ := h
  have e : ∀ b j, ¬ b = 8 → u2 S 8 i v b j = S b j := fun b j hb => u2_ne (fun z => hb z.1)
  have ei := u2_eq S 8 i v
  have r0 : ∀ j, u2 S 8 i v 0 j = S 0 j := fun j => e 0 j (by decide)
  have r4 : ∀ j, u2 S 8 i v 4 j = S 4 j := fun j => e 4 j (by decide)
  have r3 : ∀ j, u2 S 8 i v 3 j = S 3 j := fun j => e 3 j (by decide)
  have r2 : ∀ j, u2 S 8 i v 2 j = S 2 j := fun j => e 2 j (by decide)
  have r5 : ∀ j, u2 S 8 i v 5 j = S 5 j := fun j => e 5 j (by decide)
  have r6 : ∀ j, u2 S 8 i v 6 j = S 6 j := fun j => e 6 j (by decide)
  have r1 : ∀ j, u2 S 8 i v 1 j = S 1 j := fun j => e 1 j (by decide)
  have r13 : ∀ j, u2 S 8 i v 13 j = S 13 j := fun j => e 13 j (by decide)
  have r14 : ∀ j, u2 S 8 i v 14 j = S 14 j := fun j => e 14 j (by decide)
  unfold Inv
  simp only [r0, r4, r3, r2, r5, r6, r1, r13, r14]
  refine ⟨fun b j hb => ?_, h2, h3, h4, h5, h6', h7, h8, h9', h10, fun t ht => ?_, fun b j hb h6 => ?_, h13, h14, fun t => ?_⟩
  · by_cases z : b = 8 ∧ j = i
    · obtain ⟨rfl, rfl⟩ := z; rw [ei]; omega
    · rw [u2_ne z]; exact h1 b j hb
  · rw [u2_ne (fun z => by omega)]; exact h11 t ht
  · by_cases z : b = 8 ∧ j = i
    · obtain ⟨rfl, rfl⟩ := z; rw [ei]; omega
    · rw [u2_ne z]; exact h12 b j hb h6
  · by_cases z : t = i
    · subst z; rw [ei]; omega
    · rw [u2_ne (fun y => z y.2)]; exact h15 t
/-- a mast's yards -/
theorem inv_put3 {S : Nat → Nat → Int} (h : Inv S) {i : Nat} (hi : (i : Int) < S 0 7) {v : Int} (hv : 0 ≤ v ∧ v ≤ 3) : Inv (u2 S 3 i v) := by
  obtain ⟨h1, h2, h3, h4, h5, h6', h7, h8, h9', h10, h11, h12, h13, h14, h15⟩ := h
  have e : ∀ b j, ¬ b = 3 → u2 S 3 i v b j = S b j := fun b j hb => u2_ne (fun z => hb z.1)
  have ei := u2_eq S 3 i v
  have r0 : ∀ j, u2 S 3 i v 0 j = S 0 j := fun j => e 0 j (by decide)
  have r4 : ∀ j, u2 S 3 i v 4 j = S 4 j := fun j => e 4 j (by decide)
  have r2 : ∀ j, u2 S 3 i v 2 j = S 2 j := fun j => e 2 j (by decide)
  have r5 : ∀ j, u2 S 3 i v 5 j = S 5 j := fun j => e 5 j (by decide)
  have r6 : ∀ j, u2 S 3 i v 6 j = S 6 j := fun j => e 6 j (by decide)
  have r1 : ∀ j, u2 S 3 i v 1 j = S 1 j := fun j => e 1 j (by decide)
  have r8 : ∀ j, u2 S 3 i v 8 j = S 8 j := fun j => e 8 j (by decide)
  have r13 : ∀ j, u2 S 3 i v 13 j = S 13 j := fun j => e 13 j (by decide)
  have r14 : ∀ j, u2 S 3 i v 14 j = S 14 j := fun j => e 14 j (by decide)
  unfold Inv
  simp only [r0, r4, r2, r5, r6, r1, r8, r13, r14]
  refine ⟨fun b j hb => ?_, h2, h3, h4, h5, fun m hm => ⟨(h6' m hm).1, ?_⟩, h7, fun m => ?_, h9', h10, h11, fun b j hb h6 => ?_, h13, h14, h15⟩
  · by_cases z : b = 3 ∧ j = i
    · obtain ⟨rfl, rfl⟩ := z; rw [ei]; omega
    · rw [u2_ne z]; exact h1 b j hb
  · rw [u2_ne (fun z => by omega)]; exact (h6' m hm).2
  · by_cases z : m = i
    · subst z; rw [ei]; omega
    · rw [u2_ne (fun y => z y.2)]; exact h8 m
  · by_cases z : b = 3 ∧ j = i
    · obtain ⟨rfl, rfl⟩ := z; rw [ei]; omega
    · rw [u2_ne z]; exact h12 b j hb h6
theorem inv_sBottle {S : Nat → Nat → Int} (h : Inv S) {a b c d : Int} (e : eBottle S a b c d = 0) : Inv (sBottle S a b c d) := by
  have hr : (1 ≤ a ∧ a ≤ 20) ∧ (5 ≤ b ∧ b ≤ 60) ∧ (10 ≤ c ∧ c ≤ 90) ∧ (0 ≤ d ∧ d ≤ 20) := by
    unfold eBottle at e; split at e
    · assumption
    · omega
  exact inv_put0 (inv_put0 (inv_put0 (inv_put0 h (by decide) (by omega) (by omega) (by omega)) (by decide) (by omega) (by omega) (by omega)) (by decide) (by omega) (by omega) (by omega)) (by decide) (by omega) (by omega) (by omega)
theorem inv_sHull {S : Nat → Nat → Int} (h : Inv S) {a b c : Int} (e : eHull S a b c = 0) : Inv (sHull S a b c) := by
  have hr : (5 ≤ a ∧ a ≤ 80) ∧ (1 ≤ b ∧ b ≤ 15) ∧ (1 ≤ c ∧ c ≤ 15) := by
    unfold eHull at e; split at e
    · assumption
    · omega
  exact inv_put0 (inv_put0 (inv_put0 h (by decide) (by omega) (by omega) (by omega)) (by decide) (by omega) (by omega) (by omega)) (by decide) (by omega) (fun _ => by omega) (by omega)
theorem inv_sEnter {S : Nat → Nat → Int} (h : Inv S) : Inv (sEnter S) := by
  unfold sEnter; split
  · exact inv_put0 h (by decide) (by decide) (by decide) (by decide)
  · exact h
theorem inv_sLeave {S : Nat → Nat → Int} (h : Inv S) : Inv (sLeave S) := by
  unfold sLeave; split
  · exact inv_put0 h (by decide) (by decide) (by decide) (by decide)
  · exact h
theorem inv_sYard {S : Nat → Nat → Int} (h : Inv S) {m v : Int} (e : eYard S m v = 0) : Inv (sYard S m v) := by
  have hr : (0 ≤ m ∧ m < S 0 7) ∧ (1 ≤ v ∧ v ≤ 20) ∧ S 3 m.toNat < 3 := by
    unfold eYard at e; split at e
    · split at e
      · split at e
        · next h1 h2 h3 => exact ⟨h1, h2, h3.2⟩
        · omega
      · omega
    · omega
  have hm := h.mc
  have hy := h.yc m.toNat
  have h2 := inv_putR h (a := 10 + m.toNat) (i := (S 3 m.toNat).toNat) (by omega) (v := v) (by omega)
  refine inv_put3 h2 ?_ (by omega)
  rw [u2_ne (fun z => by omega)]; omega
theorem inv_sGlue {S : Nat → Nat → Int} (h : Inv S) {t : Int} (e : eGlue S t = 0) : Inv (sGlue S t.toNat) := by
  have hr : (0 ≤ t ∧ t < S 0 8) ∧ ¬ S 8 t.toNat = 2 := by
    unfold eGlue at e; split at e
    · split at e
      · omega
      · next h1 h2 => exact ⟨h1, h2⟩
    · omega
  have hs := h.st t.toNat
  exact inv_put8 h (by omega) (by omega)
theorem inv_sPass {S : Nat → Nat → Int} (h : Inv S) (n : Int) : Inv (sPass S n) := inv_cnt (inv_ur h (late_ok h _)) (by decide) _
theorem raise_inv {S : Nat → Nat → Int} (h : Inv S) {m : Nat} (hm : (m : Int) < S 0 7) (hf : ¬ S 4 m = 0) : (∀ o, 0 ≤ raiseF S m (S 4) o ∧ raiseF S m (S 4) o ≤ 9) ∧ ∀ o : Nat, S 0 7 ≤ o → raiseF S m (S 4) o = 0 := by
  have hm3 := h.mc
  refine ⟨fun o => ?_, fun o ho => ?_⟩
  · by_cases z : o < 3
    · exact raise_bd h.lean3 hf o z
    · have hl := low_out h (m : Int) (o := o) (by omega)
      have hlo := h.lean o
      unfold raiseF
      rw [if_neg (by omega)]
      simp only [hl]
      simpa using hlo
  · have hl := low_out h (m : Int) (o := o) (by omega)
    have h0 := (h.none o ho).1
    unfold raiseF
    rw [if_neg (by omega)]
    simp only [hl]
    simpa using h0
/-- and a thread that isn't broken has strength -/
def Inv2 (S : Nat → Nat → Int) : Prop := Inv S ∧ ∀ t : Nat, (t : Int) < S 0 8 → ¬ S 8 t = 2 → 1 ≤ S 7 t
theorem Inv2.keep {S S1 : Nat → Nat → Int} (h : Inv2 S) (h1 : Inv S1) (e8 : S1 0 8 = S 0 8) (r8 : ∀ t, S1 8 t = S 8 t) (r7 : ∀ t, S1 7 t = S 7 t) : Inv2 S1 := ⟨h1, fun t ht hs => by rw [r7]; rw [e8] at ht; rw [r8] at hs; exact h.2 t ht hs⟩
theorem inv2_sPull {S : Nat → Nat → Int} (h2 : Inv2 S) {t : Int} (e : ePull S t = 0) : Inv2 (sPull S t.toNat) := by
  obtain ⟨h, hs⟩ := h2
  have hr : (0 ≤ t ∧ t < S 0 8) ∧ S 8 t.toNat = 0 := by
    unfold ePull at e; split at e
    · split at e
      · next h1 h2 => exact ⟨h1, h2⟩
      · omega
    · omega
  have hth := h.thr t.toNat (by omega)
  have hb := h.th t.toNat
  have h71 := hs t.toNat (by omega) (by omega)
  unfold sPull
  split
  · next e0 =>
    have h0 := hin_0 e0
    have h1 := inv_cnt h (i := 11) (by decide) (S 0 11 + 1)
    exact Inv2.keep ⟨h, hs⟩ (inv_ur h1 (raise_inv h (by omega) h0.2)) rfl (fun _ => rfl) (fun _ => rfl)
  · split
    · exact Inv2.keep ⟨h, hs⟩ (inv_cnt h (i := 12) (by decide) (S 0 12 + 1)) rfl (fun _ => rfl) (fun _ => rfl)
    · have h1 := inv_cnt h (i := 12) (by decide) (S 0 12 + 1)
      have h7b := (h.1 7 t.toNat (by omega)).2
      have hs1 : ∀ j : Nat, (j : Int) < u2 S 0 12 (S 0 12 + 1) 0 8 → ¬ u2 S 0 12 (S 0 12 + 1) 8 j = 2 → 1 ≤ u2 S 0 12 (S 0 12 + 1) 7 j := hs
      have e7 : u2 S 0 12 (S 0 12 + 1) 7 t.toNat = S 7 t.toNat := rfl
      have e8 : u2 S 0 12 (S 0 12 + 1) 0 8 = S 0 8 := rfl
      have e88 : u2 S 0 12 (S 0 12 + 1) 8 t.toNat = S 8 t.toNat := rfl
      generalize u2 S 0 12 (S 0 12 + 1) = S1 at h1 hs1 e7 e8 e88
      unfold sWear
      split
      · next e1 =>
        have h2 := inv_putR h1 (a := 7) (i := t.toNat) (by decide) (v := S1 7 t.toNat - 1) (by omega)
        refine ⟨inv_put8 h2 (by show _ < S1 0 8; omega) (by decide), fun j hj hjs => ?_⟩
        have q0 : u2 (u2 S1 7 t.toNat (S1 7 t.toNat - 1)) 8 t.toNat 2 0 8 = S1 0 8 := rfl
        rw [q0] at hj
        by_cases z : j = t.toNat
        · subst z; exact absurd (u2_eq _ _ _ _) hjs
        · rw [u2_ne (fun y => z y.2), u2_ne (fun y => z y.2)] at hjs
          rw [u2_ne (fun y => z y.2), u2_ne (fun y => z y.2)]
          exact hs1 j hj hjs
      · next e1 =>
        refine ⟨inv_putR h1 (a := 7) (i := t.toNat) (by decide) (v := S1 7 t.toNat - 1) (by omega), fun j hj hjs => ?_⟩
        have q0 : u2 S1 7 t.toNat (S1 7 t.toNat - 1) 0 8 = S1 0 8 := rfl
        rw [q0] at hj
        by_cases z : j = t.toNat
        · subst z; rw [u2_eq]; omega
        · rw [u2_ne (fun y => z y.2)] at hjs
          rw [u2_ne (fun y => z y.2)]
          exact hs1 j hj hjs
theorem inv2_sBottle {S : Nat → Nat → Int} (h : Inv2 S) {a b c d : Int} (e : eBottle S a b c d = 0) : Inv2 (sBottle S a b c d) := h.keep (inv_sBottle h.1 e) rfl (fun _ => rfl) (fun _ => rfl)
theorem inv2_sHull {S : Nat → Nat → Int} (h : Inv2 S) {a b c : Int} (e : eHull S a b c = 0) : Inv2 (sHull S a b c) := h.keep (inv_sHull h.1 e) rfl (fun _ => rfl) (fun _ => rfl)
theorem inv2_sEnter {S : Nat → Nat → Int} (h : Inv2 S) : Inv2 (sEnter S) := by
  refine h.keep (inv_sEnter h.1) ?_ (fun j => ?_) (fun j => ?_) <;> (unfold sEnter; split <;> rfl)
theorem inv2_sLeave {S : Nat → Nat → Int} (h : Inv2 S) : Inv2 (sLeave S) := by
  refine h.keep (inv_sLeave h.1) ?_ (fun j => ?_) (fun j => ?_) <;> (unfold sLeave; split <;> rfl)
theorem inv2_sPass {S : Nat → Nat → Int} (h : Inv2 S) (n : Int) : Inv2 (sPass S n) := h.keep (inv_sPass h.1 n) rfl (fun _ => rfl) (fun _ => rfl)
theorem inv2_sYard {S : Nat → Nat → Int} (h : Inv2 S) {m v : Int} (e : eYard S m v = 0) : Inv2 (sYard S m v) := by
  refine h.keep (inv_sYard h.1 e) ?_ (fun j => ?_) (fun j => ?_)
  · exact (u2_ne (fun z => by omega)).trans (u2_ne (fun z => by omega))
  · exact (u2_ne (fun z => by omega)).trans (u2_ne (fun z => by omega))
  · exact (u2_ne (fun z => by omega)).trans (u2_ne (fun z => by omega))
theorem inv2_sGlue {S : Nat → Nat → Int} (h : Inv2 S) {t : Int} (e : eGlue S t = 0) : Inv2 (sGlue S t.toNat) := by
  have hr : (0 ≤ t ∧ t < S 0 8) ∧ ¬ S 8 t.toNat = 2 := by
    unfold eGlue at e; split at e
    · split at e
      · omega
      · next h1 h2 => exact ⟨h1, h2⟩
    · omega
  refine ⟨inv_sGlue h.1 e, fun j hj hs => ?_⟩
  have hj' : (j : Int) < S 0 8 := hj
  show 1 ≤ S 7 j
  by_cases z : j = t.toNat
  · subst z; exact h.2 _ hj' hr.2
  · refine h.2 j hj' ?_
    unfold sGlue at hs
    rw [u2_ne (fun y => z y.2)] at hs
    exact hs
theorem inv2_sStep {S : Nat → Nat → Int} (h2 : Inv2 S) {p t : Int} (e : eStep S p t = 0) : Inv2 (sStep S p t) := by
  obtain ⟨h, hs⟩ := h2
  have hr : (0 ≤ p ∧ p ≤ S 0 4) ∧ (1 ≤ t ∧ t ≤ 50) ∧ S 0 7 < 3 := by
    unfold eStep at e; split at e
    · split at e
      · next h1 h2 => exact ⟨h1.1, h1.2, h2.2.1⟩
      · omega
    · omega
  have h04 := (h.1 0 4 (by omega)).2
  obtain ⟨h1, h2, h3, h4, h5, h6', h7, h8, h9', h10, h11, h12, h13, h14, h15⟩ := h
  have hn : ((mcn S : Nat) : Int) = S 0 7 := by unfold mcn; omega
  have rx : ∀ b j, ¬ b = 0 → ¬ b = 1 → ¬ b = 2 → ¬ b = 4 → sStep S p t b j = S b j := fun b j q0 q1 q2 q4 => (u2_ne (fun z => q0 z.1)).trans ((u2_ne (fun z => q4 z.1)).trans ((u2_ne (fun z => q2 z.1)).trans (u2_ne (fun z => q1 z.1))))
  have r0 : ∀ j, sStep S p t 0 j = if j = 7 then S 0 7 + 1 else S 0 j := fun j => rfl
  have r1 : ∀ j, sStep S p t 1 j = if j = mcn S then p else S 1 j := fun j => rfl
  have r2 : ∀ j, sStep S p t 2 j = if j = mcn S then t else S 2 j := fun j => rfl
  have r4 : ∀ j, sStep S p t 4 j = if j = mcn S then 9 else S 4 j := fun j => rfl
  have r07 : sStep S p t 0 7 = S 0 7 + 1 := rfl
  have r08 : sStep S p t 0 8 = S 0 8 := rfl
  have r09 : sStep S p t 0 9 = S 0 9 := rfl
  have r06 : sStep S p t 0 6 = S 0 6 := rfl
  have r3 : ∀ j, sStep S p t 3 j = S 3 j := fun j => rfl
  have r5 : ∀ j, sStep S p t 5 j = S 5 j := fun j => rfl
  have r6 : ∀ j, sStep S p t 6 j = S 6 j := fun j => rfl
  have r7 : ∀ j, sStep S p t 7 j = S 7 j := fun j => rfl
  have r8 : ∀ j, sStep S p t 8 j = S 8 j := fun j => rfl
  have r13 : ∀ j, sStep S p t 13 j = S 13 j := fun j => rfl
  have r14 : ∀ j, sStep S p t 14 j = S 14 j := fun j => rfl
  generalize sStep S p t = S1 at rx r0 r1 r2 r4 r07 r08 r09 r06 r3 r5 r6 r7 r8 r13 r14
  refine ⟨?_, fun j hj hq => by rw [r7]; rw [r08] at hj; rw [r8] at hq; exact hs j hj hq⟩
  unfold Inv
  simp only [r07, r08, r09, r06, r3, r5, r6, r8, r13, r14]
  refine ⟨fun a j ha => ?_, by omega, h3, h4, fun m => ?_, fun m hm => ?_, fun m => ?_, h8, h9', fun j hj => ?_, h11, fun a j ha h6 => ?_, fun j hj => ?_, h14, h15⟩
  · have q := h1 a j ha
    by_cases z0 : a = 0
    · subst z0; rw [r0]; split <;> omega
    · by_cases z1 : a = 1
      · subst z1; rw [r1]; split <;> omega
      · by_cases z2 : a = 2
        · subst z2; rw [r2]; split <;> omega
        · by_cases z4 : a = 4
          · subst z4; rw [r4]; split <;> omega
          · rw [rx a j z0 z1 z2 z4]; exact q
  · rw [r4]; have := h5 m; split <;> omega
  · rw [r4, if_neg (by omega)]; exact h6' m (by omega)
  · rw [r2]; have := h7 m; split <;> omega
  · obtain ⟨g1, g2, g3, g4, g5⟩ := h10 j hj
    have g6 := h9' j
    have e1 : S1 1 (S 5 j).toNat = S 1 (S 5 j).toNat := by rw [r1, if_neg (by omega)]
    refine ⟨by omega, by omega, g3, ?_, ?_⟩
    · rw [e1, g4]
      by_cases z : S 6 j = -1
      · rw [if_pos z, if_pos z]
      · rw [if_neg z, if_neg z, r1, if_neg (by have := h1 6 j (by omega); omega)]
    · rw [e1, g5]
      by_cases z : S 6 j = -1
      · rw [if_pos z, if_pos z]
      · rw [if_neg z, if_neg z, r1, if_neg (by have := h1 6 j (by omega); omega)]
  · have q := h12 a j ha h6
    by_cases z1 : a = 1
    · subst z1; rw [r1]; split <;> omega
    · by_cases z2 : a = 2
      · subst z2; rw [r2]; split <;> omega
      · by_cases z4 : a = 4
        · subst z4; rw [r4]; split <;> omega
        · rw [rx a j (by omega) z1 z2 z4]; exact q
  · have q := h13 j hj
    rw [r0]; split <;> omega
theorem inv2_sLead {S : Nat → Nat → Int} (h2 : Inv2 S) {m t v : Int} (e : eLead S m t v = 0) : Inv2 (sLead S m t v) := by
  obtain ⟨h, hs⟩ := h2
  have hr : (0 ≤ m ∧ m < S 0 7) ∧ (t = -1 ∨ (0 ≤ t ∧ t < S 0 7)) ∧ ¬ m = t ∧ (1 ≤ v ∧ v ≤ 9) ∧ S 0 8 < 8 := by
    unfold eLead at e; split at e
    · split at e
      · split at e
        · next h1 h2 h3 => exact ⟨h1.1, h1.2, h2.1, h2.2, h3⟩
        · omega
      · omega
    · omega
  have p1 := h.1 1 m.toNat (by omega)
  have p2 := h.1 1 t.toNat (by omega)
  have p3 := h.pos 1 m.toNat (by decide) (by decide)
  have p4 := h.pos 1 t.toNat (by decide) (by decide)
  obtain ⟨h1, h2, h3, h4, h5, h6', h7, h8, h9', h10, h11, h12, h13, h14, h15⟩ := h
  have hn : ((tcn S : Nat) : Int) = S 0 8 := by unfold tcn; omega
  have rx : ∀ b j, ¬ b = 0 → ¬ b = 5 → ¬ b = 6 → ¬ b = 7 → ¬ b = 13 → ¬ b = 14 → sLead S m t v b j = S b j := fun b j q0 q5 q6 q7 q13 q14 => (u2_ne (fun z => q0 z.1)).trans ((u2_ne (fun z => q14 z.1)).trans ((u2_ne (fun z => q13 z.1)).trans ((u2_ne (fun z => q7 z.1)).trans ((u2_ne (fun z => q6 z.1)).trans (u2_ne (fun z => q5 z.1))))))
  have r0 : ∀ j, sLead S m t v 0 j = if j = 8 then S 0 8 + 1 else S 0 j := fun j => rfl
  have r5 : ∀ j, sLead S m t v 5 j = if j = tcn S then m else S 5 j := fun j => rfl
  have r6 : ∀ j, sLead S m t v 6 j = if j = tcn S then t else S 6 j := fun j => rfl
  have r7 : ∀ j, sLead S m t v 7 j = if j = tcn S then v else S 7 j := fun j => rfl
  have r13 : ∀ j, sLead S m t v 13 j = if j = tcn S then min (S 1 m.toNat) (if t = -1 then 0 else S 1 t.toNat) else S 13 j := fun j => rfl
  have r14 : ∀ j, sLead S m t v 14 j = if j = tcn S then max (S 1 m.toNat) (if t = -1 then 0 else S 1 t.toNat) else S 14 j := fun j => rfl
  have r07 : sLead S m t v 0 7 = S 0 7 := rfl
  have r08 : sLead S m t v 0 8 = S 0 8 + 1 := rfl
  have r09 : sLead S m t v 0 9 = S 0 9 := rfl
  have r06 : sLead S m t v 0 6 = S 0 6 := rfl
  have r1 : ∀ j, sLead S m t v 1 j = S 1 j := fun j => rfl
  have r2 : ∀ j, sLead S m t v 2 j = S 2 j := fun j => rfl
  have r3 : ∀ j, sLead S m t v 3 j = S 3 j := fun j => rfl
  have r4 : ∀ j, sLead S m t v 4 j = S 4 j := fun j => rfl
  have r8 : ∀ j, sLead S m t v 8 j = S 8 j := fun j => rfl
  generalize sLead S m t v = S1 at rx r0 r1 r2 r4 r07 r08 r09 r06 r3 r5 r6 r7 r8 r13 r14
  have hz : (0 : Int) ≤ (if t = -1 then 0 else S 1 t.toNat) ∧ (if t = -1 then 0 else S 1 t.toNat) ≤ 100 := by split <;> omega
  refine ⟨?_, fun j hj hq => ?_⟩
  · unfold Inv
    simp only [r07, r08, r09, r06, r1, r2, r3, r4, r8]
    refine ⟨fun a j ha => ?_, h2, by omega, h4, h5, h6', h7, h8, fun j => ?_, fun j hj => ?_, fun j hj => h11 j (by omega), fun a j ha h6 => ?_, fun j hj => ?_, h14, h15⟩
    · have q := h1 a j ha
      by_cases z0 : a = 0
      · subst z0; rw [r0]; split <;> omega
      · by_cases z1 : a = 5
        · subst z1; rw [r5]; split <;> omega
        · by_cases z2 : a = 6
          · subst z2; rw [r6]; split <;> omega
          · by_cases z4 : a = 7
            · subst z4; rw [r7]; split <;> omega
            · by_cases z5 : a = 13
              · subst z5; rw [r13]; by_cases y : j = tcn S
                · rw [if_pos y]; omega
                · rw [if_neg y]; exact q
              · by_cases z6 : a = 14
                · subst z6; rw [r14]; by_cases y : j = tcn S
                  · rw [if_pos y]; omega
                  · rw [if_neg y]; exact q
                · rw [rx a j z0 z1 z2 z4 z5 z6]; exact q
    · rw [r5]; have := h9' j; split <;> omega
    · by_cases y : j = tcn S
      · rw [r5, r6, r13, r14, if_pos y, if_pos y, if_pos y, if_pos y]
        exact ⟨by omega, by omega, by omega, rfl, rfl⟩
      · rw [r5, r6, r13, r14, if_neg y, if_neg y, if_neg y, if_neg y]
        exact h10 j (by omega)
    · have q := h12 a j ha h6
      by_cases z1 : a = 5
      · subst z1; rw [r5]; split <;> omega
      · by_cases z4 : a = 7
        · subst z4; rw [r7]; split <;> omega
        · by_cases z5 : a = 13
          · subst z5; rw [r13]; by_cases y : j = tcn S
            · rw [if_pos y]; omega
            · rw [if_neg y]; exact q
          · by_cases z6 : a = 14
            · subst z6; rw [r14]; by_cases y : j = tcn S
              · rw [if_pos y]; omega
              · rw [if_neg y]; exact q
            · rw [rx a j (by omega) z1 h6 z4 z5 z6]; exact q
    · have q := h13 j hj
      rw [r0]; split <;> omega
  · rw [r7]
    by_cases y : j = tcn S
    · rw [if_pos y]; omega
    · rw [if_neg y]
      rw [r8] at hq
      exact hs j (by omega) hq
