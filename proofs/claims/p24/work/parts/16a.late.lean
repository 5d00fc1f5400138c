/-! ===== the leans some hours later ===== -/
theorem inv_ur {S : Nat → Nat → Int} (h : Inv S) {f : Nat → Int} (hf : (∀ m, 0 ≤ f m ∧ f m ≤ 9) ∧ ∀ m : Nat, S 0 7 ≤ m → f m = 0) : Inv (ur S 4 f) := by
  obtain ⟨h1, h2, h3, h4, h5, h6, h7, h8, h9, h10, h11, h12, h13, h14, h15⟩ := h
  have e1 : ∀ a j, a ≠ 4 → ur S 4 f a j = S a j := fun a j ha => if_neg ha
  have e4 : ∀ j, ur S 4 f 4 j = f j := fun j => if_pos rfl
  unfold Inv
  rw [e1 0 7 (by decide), e1 0 8 (by decide), e1 0 9 (by decide), e1 0 6 (by decide)]
  refine ⟨fun a j haj => ?_, h2, h3, h4, fun m => by rw [e4]; exact hf.1 m, fun m hm => by rw [e4, e1 3 m (by decide)]; exact ⟨hf.2 m hm, (h6 m hm).2⟩, fun m => by rw [e1 2 m (by decide)]; exact h7 m, fun m => by rw [e1 3 m (by decide)]; exact h8 m, fun t => by rw [e1 5 t (by decide)]; exact h9 t, fun t ht => by rw [e1 5 t (by decide), e1 6 t (by decide), e1 13 t (by decide), e1 14 t (by decide), e1 1 _ (by decide), e1 1 _ (by decide)]; exact h10 t ht, fun t ht => by rw [e1 8 t (by decide)]; exact h11 t ht, fun a j h1a h6a => ?_, fun j hj => by rw [e1 0 j (by decide)]; exact h13 j hj, h14, fun t => by rw [e1 8 t (by decide)]; exact h15 t⟩
  · by_cases ha : a = 4
    · subst ha; rw [e4]; have := hf.1 j; omega
    · rw [e1 a j ha]; exact h1 a j haj
  · by_cases ha : a = 4
    · subst ha; rw [e4]; exact (hf.1 j).1
    · rw [e1 a j ha]; exact h12 a j h1a h6a
theorem late_ok {S : Nat → Nat → Int} (h : Inv S) (n : Nat) : (∀ m, 0 ≤ lateF S n m ∧ lateF S n m ≤ 9) ∧ ∀ m : Nat, S 0 7 ≤ m → lateF S n m = 0 := by
  refine ⟨fun m => ?_, fun m hm => ?_⟩
  · have h1 := h.lean m
    have h2 := Int.mul_nonneg (show (0 : Int) ≤ (n : Int) by omega) (fall_bd S m).1
    unfold lateF; split <;> omega
  · unfold lateF; rw [if_neg (by omega)]; exact (h.none m hm).1
theorem late_0 {S : Nat → Nat → Int} (h : Inv S) (m : Nat) : lateF S 0 m = S 4 m := by
  have h1 := h.lean m
  unfold lateF
  split
  · simp; omega
  · rfl
theorem min_step {x f y : Int} (hf : 0 ≤ f) (e : y = x + f) : min 9 (min 9 x + f) = min 9 y := by omega
/-- an hour, as far as the masts below i are looked at -/
def lt1 (S : Nat → Nat → Int) (f : Nat → Int) (i m : Nat) : Int := if m < i then min 9 (f m + fallF S m) else f m
theorem lt1_ok (S : Nat → Nat → Int) {f : Nat → Int} (hf : D9 f) (i : Nat) : D9 (lt1 S f i) := fun m hm => by
  have := hf m hm
  have := fall_bd S m
  unfold lt1; split <;> omega
theorem lt1_no {S : Nat → Nat → Int} {f : Nat → Int} (hf : D9 f) {i : Nat} (hi : i < 3) (h : fallF S i = 0) : codeF (lt1 S f (i + 1)) = codeF (lt1 S f i) := code_cg fun o ho => by
  have := hf o ho
  unfold lt1
  by_cases e : o = i
  · subst e; rw [if_pos (by omega), if_neg (by omega), h]; omega
  · by_cases q : o < i
    · rw [if_pos (by omega), if_pos q]
    · rw [if_neg (by omega), if_neg q]
theorem lt1_add {S : Nat → Nat → Int} {f : Nat → Int} (hf : D9 f) {i : Nat} (hi : i < 3) {k9 : Int} (h : fallF S i = k9) : codeF (lt1 S f (i + 1)) = codeF (lt1 S f i) + min (9 - f i) k9 * unitN i := code_add hi _ fun o ho => by
  have := hf o ho
  unfold lt1
  by_cases e : o = i
  · subst e; rw [if_pos (by omega), if_pos rfl, if_neg (by omega), h]; omega
  · rw [if_neg e]
    by_cases q : o < i
    · rw [if_pos (by omega), if_pos q]
    · rw [if_neg (by omega), if_neg q]
theorem late_s {S : Nat → Nat → Int} (h : Inv S) (n m : Nat) (_hm : m < 3) : lateF S (n + 1) m = lt1 S (lateF S n) (mcn S) m := by
  have h1 := succ_mul9 n (fallF S m)
  have h2 := h.mc
  unfold lt1
  by_cases e : (m : Int) < S 0 7
  · rw [if_pos (show m < mcn S by unfold mcn; omega)]
    unfold lateF
    rw [if_pos e, if_pos e]
    exact (min_step (fall_bd S m).1 (by rw [h1]; omega)).symm
  · rw [if_neg (show ¬ m < mcn S by unfold mcn; omega)]
    unfold lateF
    rw [if_neg e, if_neg e]
theorem flat_all {S : Nat → Nat → Int} (h : Inv S) (f : Nat → Int) : flatN S f = S 0 7 ↔ ∀ m : Nat, (m : Int) < S 0 7 → f m = 9 := by
  have hm := h.mc
  have key : ∀ n : Nat, cnt (fun m => decide (f m = 9)) n = n ↔ ∀ m, m < n → f m = 9 := by
    intro n
    induction n with
    | zero => exact ⟨fun _ m hm => absurd hm (Nat.not_lt_zero m), fun _ => rfl⟩
    | succ n ih =>
      have hb := cnt_nn (fun m => decide (f m = 9)) n
      rw [cnt_s]
      by_cases e : f n = 9
      · simp only [e, decide_true, if_true]
        refine ⟨fun q m hm => ?_, fun q => ?_⟩
        · by_cases z : m = n
          · subst z; exact e
          · exact ih.mp (by omega) m (by omega)
        · have := ih.mpr (fun m hm => q m (by omega)); omega
      · simp only [e, decide_false]
        refine ⟨fun q => ?_, fun q => absurd (q n (by omega)) e⟩
        simp at q; omega
  have := key (mcn S)
  unfold flatN
  have e2 : ((mcn S : Nat) : Int) = S 0 7 := by unfold mcn; omega
  rw [e2] at this
  rw [this]
  exact ⟨fun q m hm => q m (by unfold mcn; omega), fun q m hm => q m (by unfold mcn at hm; omega)⟩
theorem af_iff {S : Nat → Nat → Int} (h : Inv S) (n : Nat) : afB S n ↔ flatN S (lateF S n) = S 0 7 := by
  rw [flat_all h]
  refine ⟨fun q m hm => ?_, fun q m hm => ?_⟩
  · have := q m hm; unfold lateF; rw [if_pos hm]; omega
  · have := q m hm; unfold lateF at this; rw [if_pos hm] at this; omega
theorem mw_l0 {k : Nat → ClassId} {g : Nat → Nat} {S Y : Nat → Nat → Int} (f : Nat → Int) (e : codeF f = codeF (S 4)) : mw k g S Y = mw k g (ur S 4 f) Y := by
  unfold mw cMod
  rw [← e]
  rfl
def pF (S : Nat → Nat → Int) (n m i : Nat) : Int := if i < m then lateF S n i else S 4 i
def qF (S : Nat → Nat → Int) (n m j i : Nat) : Int := if i < m then lateF S n i else if i = m then min 9 (S 4 m + (j : Int) * fallF S m) else S 4 i
theorem pF_ok {S : Nat → Nat → Int} (h : Inv S) (n m : Nat) : (∀ i, 0 ≤ pF S n m i ∧ pF S n m i ≤ 9) ∧ ∀ i : Nat, S 0 7 ≤ i → pF S n m i = 0 := by
  refine ⟨fun i => ?_, fun i hi => ?_⟩
  · unfold pF; split
    · exact (late_ok h n).1 i
    · exact h.lean i
  · unfold pF; split
    · exact (late_ok h n).2 i hi
    · exact (h.none i hi).1
theorem qF_ok {S : Nat → Nat → Int} (h : Inv S) (n m j : Nat) : (∀ i, 0 ≤ qF S n m j i ∧ qF S n m j i ≤ 9) := by
  intro i
  have h1 := h.lean m
  have h2 := h.lean i
  have h3 := Int.mul_nonneg (show (0 : Int) ≤ (j : Int) by omega) (fall_bd S m).1
  have h4 := (late_ok h n).1 i
  unfold qF; split
  · exact h4
  · split <;> omega
theorem pF_0 {S : Nat → Nat → Int} (_h : Inv S) (n : Nat) : S = ur S 4 (pF S n 0) := by
  funext a i
  unfold ur pF
  by_cases e : a = 4
  · subst e; simp
  · simp [e]
theorem pF_end {S : Nat → Nat → Int} (_h : Inv S) {n m : Nat} (hm : (m : Int) = S 0 7) : pF S n m = lateF S n := by
  funext i
  unfold pF
  split
  · rfl
  · unfold lateF; rw [if_neg (by omega)]
theorem qF_0 {S : Nat → Nat → Int} (h : Inv S) (n m : Nat) : pF S n m = qF S n m 0 := by
  funext i
  have h1 := h.lean m
  unfold pF qF
  split
  · rfl
  · split
    · next e => subst e; simp; omega
    · rfl
theorem qF_end {S : Nat → Nat → Int} {n m j : Nat} (hm : (m : Int) < S 0 7) (hj : j = n) : qF S n m j = pF S n (m + 1) := by
  subst hj
  funext i
  unfold pF qF
  by_cases e : i < m
  · rw [if_pos e, if_pos (by omega)]
  · rw [if_neg e]
    by_cases q : i = m
    · subst q; rw [if_pos rfl, if_pos (by omega)]; unfold lateF; rw [if_pos hm]
    · rw [if_neg q, if_neg (by omega)]
theorem qF_s {S : Nat → Nat → Int} (_h : Inv S) (n m j : Nat) {fl : Int} (e : fl = fallF S m) : u2 (ur S 4 (qF S n m j)) 4 m (min 9 (qF S n m j m + fl)) = ur S 4 (qF S n m (j + 1)) := by
  subst e
  rw [u2_ur]
  congr 1
  funext i
  by_cases q : i = m
  · subst q
    rw [if_pos rfl]
    unfold qF
    rw [if_neg (by omega), if_pos rfl, if_neg (by omega), if_pos rfl]
    exact min_step (fall_bd S i).1 (by rw [succ_mul9]; omega)
  · rw [if_neg q]
    unfold qF
    split
    · rfl
    · first | (rw [if_neg q, if_neg q]; done) | (rw [if_neg q]; done) | simp [q]
theorem pull_h0 {S : Nat → Nat → Int} {t : Nat} (hb : 0 ≤ behF S (S 4) t) : hinF S t = 0 := (beh_hin S t (Or.inl (by rw [← (beh_ge hb).1]; exact hb))).2 hb
theorem pull_hn {S : Nat → Nat → Int} (h : Inv S) {t : Nat} (hb : behF S (S 4) t < 0) : hinF S t = behF S (S 4) t := by
  refine (beh_hin S t ?_).1 hb
  by_cases e : S 4 (S 5 t).toNat = 0
  · exact Or.inr e
  · exact Or.inl (code_bd (raise_bd h.lean3 e)).1
theorem lt1_a2 {S : Nat → Nat → Int} {f : Nat → Int} (hf : D9 f) {i : Nat} (hi : i < 3) {th a b k9 : Int} (hth : th = codeF (lt1 S f i)) (ha : a = unitN i) (hb : b = f i) (h : fallF S i = k9) : th + a * min (9 - b) k9 = codeF (lt1 S f (i + 1)) := by
  rw [lt1_add hf hi h, hth, ha, hb, Int.mul_comm]
