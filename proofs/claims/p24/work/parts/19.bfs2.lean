/-! ===== the class's own search: by masts, with the first thread of each way ===== -/
theorem beh_iff {S : Nat → Nat → Int} {f : Nat → Int} {t n' : Nat} : behF S f t = (n' : Int) ↔ (¬ heldB S (S 5 t) = true ∧ ¬ f (S 5 t).toNat = 0) ∧ ¬ strongB S t = true ∧ ¬ (S 0 9 = 1 ∧ fitsB S (raiseF S (S 5 t).toNat f) = false) ∧ codeF (raiseF S (S 5 t).toNat f) = (n' : Int) := by
  unfold behF
  by_cases e : heldB S (S 5 t) = true ∨ f (S 5 t).toNat = 0
  · rw [if_pos e]
    refine ⟨fun q => by omega, fun q => ?_⟩
    rcases e with e | e
    · exact absurd e q.1.1
    · exact absurd e q.1.2
  · rw [if_neg e]
    have e' : ¬ heldB S (S 5 t) = true ∧ ¬ f (S 5 t).toNat = 0 := ⟨fun z => e (Or.inl z), fun z => e (Or.inr z)⟩
    by_cases e2 : strongB S t = true
    · rw [if_pos e2]; exact ⟨fun q => by omega, fun q => absurd e2 q.2.1⟩
    · rw [if_neg e2]
      by_cases e3 : S 0 9 = 1 ∧ fitsB S (raiseF S (S 5 t).toNat f) = false
      · rw [if_pos e3]; exact ⟨fun q => by omega, fun q => absurd e3 q.2.2.1⟩
      · rw [if_neg e3]; exact ⟨fun q => ⟨e', e2, e3, q⟩, fun q => q.2.2.2⟩
def frT (S : Nat → Nat → Int) (m t : Nat) : Bool := !heldB S (m : Int) && decide (S 5 t = (m : Int)) && decide (S 8 t = 0) && !strongB S t
theorem frT_iff {S : Nat → Nat → Int} {m t : Nat} : frT S m t = true ↔ ¬ heldB S (m : Int) = true ∧ S 5 t = (m : Int) ∧ S 8 t = 0 ∧ ¬ strongB S t = true := by
  unfold frT
  simp only [Bool.and_eq_true, decide_eq_true_eq, Bool.not_eq_true', Bool.not_eq_true]
  exact ⟨fun ⟨⟨⟨a, b⟩, c⟩, d⟩ => ⟨a, b, c, d⟩, fun ⟨a, b, c, d⟩ => ⟨⟨⟨a, b⟩, c⟩, d⟩⟩
def HndP (S : Nat → Nat → Int) (m : Nat) (a : Int) : Prop := (a = -1 ∧ ∀ t : Nat, (t : Int) < S 0 8 → ¬ frT S m t = true) ∨ (∃ t : Nat, a = (t : Int) ∧ (t : Int) < S 0 8 ∧ frT S m t = true ∧ ∀ j, j < t → ¬ frT S m j = true)
theorem HndP.uniq {S : Nat → Nat → Int} {m : Nat} {a b : Int} (h1 : HndP S m a) (h2 : HndP S m b) : a = b := by
  rcases h1 with ⟨rfl, h1⟩ | ⟨t, rfl, p1, q1, r1⟩ <;> rcases h2 with ⟨rfl, h2⟩ | ⟨u, rfl, p2, q2, r2⟩
  · rfl
  · exact absurd q2 (h1 u p2)
  · exact absurd q1 (h2 t p1)
  · rcases Nat.lt_trichotomy t u with h | h | h
    · exact absurd q1 (r2 t h)
    · rw [h]
    · exact absurd q2 (r1 u h)
theorem HndP.le {S : Nat → Nat → Int} {m : Nat} {a : Int} (h : HndP S m a) {t : Nat} (ht : (t : Int) < S 0 8) (hf : frT S m t = true) : a ≤ t := by
  rcases h with ⟨rfl, h1⟩ | ⟨u, rfl, p1, q1, r1⟩
  · omega
  · rcases Nat.lt_or_ge t u with z | z
    · exact absurd hf (r1 t z)
    · omega
/-- a pull of the mast m, from n to n' -/
def EC (S : Nat → Nat → Int) (n m n' : Nat) : Prop := (∃ t : Nat, (t : Int) < S 0 8 ∧ frT S m t = true) ∧ ¬ dig n m = 0 ∧ ¬ (S 0 9 = 1 ∧ fitsB S (raiseF S m (dig n)) = false) ∧ codeF (raiseF S m (dig n)) = (n' : Int)
theorem EC.fn {S : Nat → Nat → Int} {n m a b : Nat} (h1 : EC S n m a) (h2 : EC S n m b) : a = b := by
  have := h1.2.2.2.symm.trans h2.2.2.2
  omega
theorem EC_of {S : Nat → Nat → Int} (hI : Inv S) {n t n' : Nat} (ht : (t : Int) < S 0 8) (h : stp S n t = (n' : Int)) : EC S n (S 5 t).toNat n' ∧ frT S (S 5 t).toNat t = true ∧ (((S 5 t).toNat : Nat) : Int) < S 0 7 := by
  have hb := hI.th t
  have hm : (((S 5 t).toNat : Nat) : Int) = S 5 t := by omega
  unfold stp at h
  by_cases e : S 8 t = 0
  · rw [if_pos e] at h
    obtain ⟨⟨h1, h2⟩, h3, h4, h5⟩ := beh_iff.mp h
    have hf : frT S (S 5 t).toNat t = true := frT_iff.mpr ⟨by rw [hm]; exact h1, by omega, e, h3⟩
    exact ⟨⟨⟨t, ht, hf⟩, h2, h4, h5⟩, hf, by have := (hI.thr t ht).1; omega⟩
  · rw [if_neg e] at h; omega
theorem stp_of {S : Nat → Nat → Int} {n m t n' : Nat} (hf : frT S m t = true) (h : EC S n m n') : stp S n t = (n' : Int) := by
  obtain ⟨h1, h2, h3, h4⟩ := frT_iff.mp hf
  unfold stp
  rw [if_pos h3]
  have hm : (S 5 t).toNat = m := by omega
  exact beh_iff.mpr ⟨⟨by rw [h2]; exact h1, by rw [hm]; exact h.2.1⟩, h4, by rw [hm]; exact h.2.2.1, by rw [hm]; exact h.2.2.2⟩
theorem Ed_of {S : Nat → Nat → Int} {n m n' : Nat} (h : EC S n m n') : Ed S n n' := by
  obtain ⟨t, ht, hf⟩ := h.1
  exact ⟨t, ht, stp_of hf h⟩
/-- the first pulls are right -/
def OA (S : Nat → Nat → Int) (s : Nat) (P O : Nat → Int) : Prop := ∀ n, n < 1000 → ¬ P n = -1 → n = s ∨ ∃ t : Nat, O n = (t : Int) ∧ FO S s n (P n).toNat t
def OB (S : Nat → Nat → Int) (s v : Nat) (O : Nat → Int) (n : Nat) : Prop := (v = s → ∀ t : Nat, (t : Int) < S 0 8 → stp S s t = (n : Int) → O n ≤ (t : Int)) ∧ (¬ v = s → O n ≤ O v)
def OL (S : Nat → Nat → Int) (s : Nat) (P Q O : Nat → Int) (i : Nat) : Prop := ∀ j, j < i → ∀ n, Ed S (Q j).toNat n → P n = P (Q j).toNat + 1 → OB S s (Q j).toNat O n
def CI (S : Nat → Nat → Int) (s : Nat) (P Q O : Nat → Int) (fd i : Nat) : Prop := BV S s P Q fd ∧ BO P Q fd i ∧ BC S P Q i ∧ OA S s P O ∧ OL S s P Q O i ∧ O s = -1 ∧ (∀ n, n < 1000 → P n = -1 → O n = -1) ∧ (∀ j, j < fd → P (Q j).toNat ≤ (j : Int)) ∧ (∀ n, n < 1000 → -1 ≤ O n ∧ O n ≤ 8) ∧ i ≤ fd
def PM (S : Nat → Nat → Int) (s : Nat) (P Q O : Nat → Int) (i m : Nat) : Prop := ∀ m' n', m' < m → EC S (Q i).toNat m' n' → 0 ≤ P n' ∧ P n' ≤ P (Q i).toNat + 1 ∧ (P n' = P (Q i).toNat + 1 → ((Q i).toNat = s → ∀ hd, HndP S m' hd → O n' ≤ hd) ∧ (¬ (Q i).toNat = s → O n' ≤ O (Q i).toNat))
theorem P_s {S : Nat → Nat → Int} {s fd : Nat} {P Q : Nat → Int} (h : BV S s P Q fd) {i : Nat} (hi : i < fd) : P (Q i).toNat = 0 ↔ (Q i).toNat = s := by
  refine ⟨fun e => ?_, fun e => by rw [e]; exact h.2.2.1⟩
  have := (h.at hi).2.2.2
  rw [e] at this
  exact this
/-- a way by v goes on to n' -/
theorem FO_step {S : Nat → Nat → Int} {s fd i : Nat} {P Q O : Nat → Int} (h : BV S s P Q fd) (hA : OA S s P O) (hi : i < fd) {m n' t : Nat} (he : EC S (Q i).toNat m n') (hf : frT S m t = true) (ht : (t : Int) < S 0 8) {op : Int} (ho : op = if P (Q i).toNat = 0 then (t : Int) else O (Q i).toNat) : ∃ u : Nat, op = (u : Int) ∧ FO S s n' ((P (Q i).toNat + 1).toNat) u := by
  obtain ⟨q0, q1, q2, q3⟩ := h.at hi
  by_cases e : P (Q i).toNat = 0
  · rw [if_pos e] at ho
    have hs := (P_s h hi).mp e
    refine ⟨t, ho, ht, n', ?_, ?_⟩
    · rw [← hs]; exact stp_of hf he
    · rw [e]; exact (Rk_0 S n' n').mpr rfl
  · rw [if_neg e] at ho
    rcases hA (Q i).toNat (by omega) (by omega) with z | ⟨u, hu, hlt, p, hp1, hp2⟩
    · exact absurd ((P_s h hi).mpr z) e
    · refine ⟨u, ho.trans hu, hlt, p, hp1, ?_⟩
      have e1 : (P (Q i).toNat + 1).toNat - 1 = ((P (Q i).toNat).toNat - 1) + 1 := by omega
      rw [e1]
      exact ⟨(Q i).toNat, hp2, Ed_of he⟩
/-- Search.reach: found anew -/
theorem CI.new {S : Nat → Nat → Int} {s fd i m n' : Nat} {P Q O : Nat → Int} (h : CI S s P Q O fd i) (hi : i < fd) (hM : PM S s P Q O i m) (he : EC S (Q i).toNat m n') {t : Nat} (hH : HndP S m (t : Int)) (hf : frT S m t = true) (ht : (t : Int) < S 0 8 ∧ S 0 8 ≤ 8) (hp : P n' = -1) {op : Int} (ho : op = if P (Q i).toNat = 0 then (t : Int) else O (Q i).toNat) :
    CI S s (fun x => if x = n' then P (Q i).toNat + 1 else P x) (fun x => if x = fd then (n' : Int) else Q x) (fun x => if x = n' then op else O x) (fd + 1) i ∧
    PM S s (fun x => if x = n' then P (Q i).toNat + 1 else P x) (fun x => if x = fd then (n' : Int) else Q x) (fun x => if x = n' then op else O x) i (m + 1) := by
  obtain ⟨hV, hO, hC, hA, hL, hs1, hn1, hb1, hb2, hle⟩ := h
  have hn' : n' < 1000 := Ed_lt (Ed_of he)
  obtain ⟨q0, q1, q2, q3⟩ := hV.at hi
  have hstep := FO_step hV hA hi he hf ht.1 ho
  have hvn : ¬ (Q i).toNat = n' := fun z => by rw [z, hp] at q2; omega
  have hsn : ¬ s = n' := fun z => by have := hV.2.2.1; rw [z, hp] at this; omega
  have hQ : ∀ j, j < fd → (if j = fd then (n' : Int) else Q j) = Q j := fun j hj => if_neg (by omega)
  have hne : ∀ j, j < fd → ¬ (Q j).toNat = n' := fun j hj z => by have := (hV.at hj).2.2.1; rw [z, hp] at this; omega
  have hopb : -1 ≤ op ∧ op ≤ 8 := by
    rw [ho]; split
    · omega
    · exact hb2 _ (by omega)
  refine ⟨⟨hV.new hi hn' hp (Ed_of he), BO.new hV hO hi hp, ?_, ?_, ?_, ?_, ?_, ?_, ?_, by omega⟩, ?_⟩
  · intro j hj x hx
    simp only [hQ j (by omega)] at hx ⊢
    have := hC j hj x hx
    have hxn : ¬ x = n' := fun z => by rw [z, hp] at this; omega
    simp only [if_neg hxn, if_neg (hne j (by omega))]
    exact this
  · intro x hx hpx
    by_cases z : x = n'
    · subst z
      obtain ⟨u, hu1, hu2⟩ := hstep
      simp only [if_pos]
      exact Or.inr ⟨u, hu1, hu2⟩
    · simp only [if_neg z] at hpx ⊢
      exact hA x hx hpx
  · intro j hj x hx hpx
    simp only [hQ j (by omega)] at hx hpx ⊢
    have hc := hC j hj x hx
    have hxn : ¬ x = n' := fun z => by rw [z, hp] at hc; omega
    simp only [if_neg hxn, if_neg (hne j (by omega))] at hpx
    have := hL j hj x hx hpx
    unfold OB at this ⊢
    simp only [if_neg hxn, if_neg (hne j (by omega))]
    exact this
  · simp only [if_neg hsn]; exact hs1
  · intro x hx hpx
    by_cases z : x = n'
    · subst z; simp only [if_pos] at hpx; omega
    · simp only [if_neg z] at hpx ⊢; exact hn1 x hx hpx
  · intro j hj
    by_cases z : j = fd
    · subst z
      simp only [if_pos, Int.toNat_natCast]
      have := hb1 i hi; omega
    · simp only [hQ j (by omega), if_neg (hne j (by omega))]
      exact hb1 j (by omega)
  · intro x hx
    by_cases z : x = n'
    · simp only [if_pos z]; exact hopb
    · simp only [if_neg z]; exact hb2 x hx
  · intro m' x hm' hx
    simp only [hQ i hi] at hx ⊢
    simp only [if_neg hvn]
    by_cases z : m' = m
    · subst z
      have hxe : x = n' := hx.fn he
      subst hxe
      simp only [if_pos]
      refine ⟨by omega, Int.le_refl _, fun _ => ⟨fun z hd hh => ?_, fun z => ?_⟩⟩
      · rw [ho, if_pos ((P_s hV hi).mpr z), hH.uniq hh]; exact Int.le_refl _
      · rw [ho, if_neg (fun q => z ((P_s hV hi).mp q))]; exact Int.le_refl _
    · have h1 := hM m' x (by omega) hx
      have hxn : ¬ x = n' := fun z => by have := h1.1; rw [z, hp] at this; omega
      simp only [if_neg hxn]
      exact h1
/-- Search.reach: found before, in as many pulls -/
theorem CI.min {S : Nat → Nat → Int} {s fd i m n' : Nat} {P Q O : Nat → Int} (h : CI S s P Q O fd i) (hi : i < fd) (hM : PM S s P Q O i m) (he : EC S (Q i).toNat m n') {t : Nat} (hH : HndP S m (t : Int)) (hf : frT S m t = true) (ht : (t : Int) < S 0 8 ∧ S 0 8 ≤ 8) (hp : P n' = P (Q i).toNat + 1) {op : Int} (ho : op = if P (Q i).toNat = 0 then (t : Int) else O (Q i).toNat) :
    CI S s P Q (fun x => if x = n' then min (O n') op else O x) fd i ∧ PM S s P Q (fun x => if x = n' then min (O n') op else O x) i (m + 1) := by
  obtain ⟨hV, hO, hC, hA, hL, hs1, hn1, hb1, hb2, hle⟩ := h
  have hn' : n' < 1000 := Ed_lt (Ed_of he)
  obtain ⟨q0, q1, q2, q3⟩ := hV.at hi
  have hstep := FO_step hV hA hi he hf ht.1 ho
  have hvn : ¬ (Q i).toNat = n' := fun z => by rw [z] at hp; omega
  have hsn : ¬ s = n' := fun z => by have := hV.2.2.1; rw [z] at this; omega
  have hopb : -1 ≤ op ∧ op ≤ 8 := by
    rw [ho]; split
    · omega
    · exact hb2 _ (by omega)
  have hbn := hb2 n' hn'
  refine ⟨⟨hV, hO, hC, ?_, ?_, ?_, ?_, hb1, ?_, hle⟩, ?_⟩
  · intro x hx hpx
    by_cases z : x = n'
    · subst z
      simp only [if_pos]
      rcases hA x hx hpx with w | ⟨u, hu1, hu2⟩
      · exact absurd w.symm hsn
      · obtain ⟨u2, hu3, hu4⟩ := hstep
        by_cases q : O x ≤ op
        · exact Or.inr ⟨u, by omega, hu2⟩
        · exact Or.inr ⟨u2, by omega, by rw [hp]; exact hu4⟩
    · simp only [if_neg z]
      exact hA x hx hpx
  · intro j hj x hx hpx
    have := hL j hj x hx hpx
    have hjn : ¬ (Q j).toNat = n' := fun z => by
      have := hO.1 j i (by omega) hi
      rw [z] at this; omega
    unfold OB at this ⊢
    by_cases z : x = n'
    · subst z
      simp only [if_pos, if_neg hjn]
      exact ⟨fun a t b c => by have := this.1 a t b c; omega, fun a => by have := this.2 a; omega⟩
    · simp only [if_neg z, if_neg hjn]; exact this
  · simp only [if_neg hsn]; exact hs1
  · intro x hx hpx
    by_cases z : x = n'
    · subst z; omega
    · simp only [if_neg z]; exact hn1 x hx hpx
  · intro x hx
    by_cases z : x = n'
    · simp only [if_pos z]; omega
    · simp only [if_neg z]; exact hb2 x hx
  · intro m' x hm' hx
    simp only [if_neg hvn]
    by_cases z : m' = m
    · subst z
      have hxe : x = n' := hx.fn he
      subst hxe
      simp only [if_pos]
      refine ⟨by omega, by omega, fun _ => ⟨fun z hd hh => ?_, fun z => ?_⟩⟩
      · have e1 : op = (t : Int) := by rw [ho, if_pos ((P_s hV hi).mpr z)]
        rw [← hH.uniq hh]; omega
      · have e1 : op = O (Q i).toNat := by rw [ho, if_neg (fun q => z ((P_s hV hi).mp q))]
        omega
    · have h1 := hM m' x (by omega) hx
      by_cases w : x = n'
      · subst w
        simp only [if_pos]
        exact ⟨h1.1, h1.2.1, fun e => ⟨fun a hd b => by have := (h1.2.2 e).1 a hd b; omega, fun a => by have := (h1.2.2 e).2 a; omega⟩⟩
      · simp only [if_neg w]; exact h1
/-- Search.reach: found before, in fewer pulls -/
theorem CI.old {S : Nat → Nat → Int} {s fd i m n' : Nat} {P Q O : Nat → Int} (h : CI S s P Q O fd i) (hi : i < fd) (hM : PM S s P Q O i m) (he : EC S (Q i).toNat m n') (hp1 : ¬ P n' = -1) (hp : ¬ P n' = P (Q i).toNat + 1) : PM S s P Q O i (m + 1) := by
  have hn' : n' < 1000 := Ed_lt (Ed_of he)
  intro m' x hm' hx
  by_cases z : m' = m
  · subst z
    have hxe : x = n' := hx.fn he
    subst hxe
    have h0 := h.1.nn hn' hp1
    rcases h.1.2.2.2.2.1 x hn' with q | ⟨j, hj, hq⟩
    · exact absurd q hp1
    · have := h.2.1.2 hi j hj
      rw [hq] at this
      simp only [Int.toNat_natCast] at this
      exact ⟨h0, this, fun e => absurd e hp⟩
  · exact hM m' x (by omega) hx
/-- no pull of this mast -/
theorem PM.skip {S : Nat → Nat → Int} {s i m : Nat} {P Q O : Nat → Int} (hM : PM S s P Q O i m) (hn : ∀ n', ¬ EC S (Q i).toNat m n') : PM S s P Q O i (m + 1) := by
  intro m' x hm' hx
  by_cases z : m' = m
  · subst z; exact absurd hx (hn x)
  · exact hM m' x (by omega) hx
/-- a node is done -/
theorem CI.next {S : Nat → Nat → Int} (hI : Inv S) {s fd i : Nat} {P Q O : Nat → Int} (h : CI S s P Q O fd i) (hi : i < fd) (hM : PM S s P Q O i (mcn S)) (hH : ∀ m : Nat, (m : Int) < S 0 7 → ∃ a, HndP S m a) : CI S s P Q O fd (i + 1) := by
  obtain ⟨hV, hO, hC, hA, hL, hs1, hn1, hb1, hb2, hle⟩ := h
  refine ⟨hV, hO.next, ?_, hA, ?_, hs1, hn1, hb1, hb2, by omega⟩
  · intro j hj x hx
    by_cases z : j = i
    · subst z
      obtain ⟨t, ht, hst⟩ := hx
      obtain ⟨h1, h2, h3⟩ := EC_of hI ht hst
      have := hM _ x (by unfold mcn; omega) h1
      exact ⟨this.1, this.2.1⟩
    · exact hC j (by omega) x hx
  · intro j hj x hx hpx
    by_cases z : j = i
    · subst z
      obtain ⟨t, ht, hst⟩ := hx
      refine ⟨fun a u hu hsu => ?_, fun a => ?_⟩
      · rw [← a] at hsu
        obtain ⟨h1, h2, h3⟩ := EC_of hI hu hsu
        obtain ⟨hd, hh⟩ := hH _ h3
        have := ((hM _ x (by unfold mcn; omega) h1).2.2 hpx).1 a hd hh
        have := hh.le hu h2
        omega
      · obtain ⟨h1, h2, h3⟩ := EC_of hI ht hst
        exact ((hM _ x (by unfold mcn; omega) h1).2.2 hpx).2 a
    · exact hL j (by omega) x hx hpx
/-- at the end: the first pulls are the smallest -/
theorem O_end {S : Nat → Nat → Int} {s fd : Nat} {P Q O : Nat → Int} (h : CI S s P Q O fd fd) : ∀ d n : Nat, P n = (d : Int) → n < 1000 → ¬ n = s → ∀ t, FO S s n d t → O n ≤ (t : Int) := by
  obtain ⟨hV, hO, hC, hA, hL, hs1, hn1, hb1, hb2, hle⟩ := h
  have hE := B_end hV hC
  intro d
  induction d with
  | zero =>
    intro n hp hn hns t ht
    rcases hV.2.2.2.2.1 n hn with q | ⟨j, hj, hq⟩
    · omega
    · have h1 := (P_s hV hj).mp (by rw [hq]; simpa using hp)
      rw [hq] at h1
      exact absurd (by simpa using h1) hns
  | succ d ih =>
    intro n hp hn hns t ⟨ht, p, hp1, hp2⟩
    simp only [Nat.add_sub_cancel] at hp2
    cases d with
    | zero =>
      rw [Rk_0] at hp2
      subst hp2
      rcases hV.2.2.2.2.1 s hV.2.1 with q | ⟨j, hj, hq⟩
      · have := hV.2.2.1; omega
      · have hqs : (Q j).toNat = s := by rw [hq]; simp
        exact (hL j hj n (by rw [hqs]; exact ⟨t, ht, hp1⟩) (by rw [hqs, hV.2.2.1, hp]; rfl)).1 hqs t ht hp1
    | succ d =>
      obtain ⟨q, hq1, hq2⟩ := hp2
      have hsq : Rk S s (d + 1) q := Rk_cons ⟨t, ht, hp1⟩ hq1
      have hb := hE (d + 1) q hsq
      have hql : q < 1000 := Rk_lt hV.2.1 hsq
      rcases hV.2.2.2.2.1 q hql with z | ⟨j, hj, hjq⟩
      · omega
      · have hjt : (Q j).toNat = q := by rw [hjq]; simp
        have hc := hC j hj n (by rw [hjt]; exact hq2)
        rw [hjt] at hc
        have hpq : P q = ((d + 1 : Nat) : Int) := by omega
        have hqs : ¬ q = s := fun z => by rw [z, hV.2.2.1] at hpq; omega
        have h1 := ih q hpq hql hqs t ⟨ht, p, hp1, by simpa using hq1⟩
        have h2 := (hL j hj n (by rw [hjt]; exact hq2) (by rw [hjt]; omega)).2 (by rw [hjt]; exact hqs)
        rw [hjt] at h2
        omega
theorem CI_few {S : Nat → Nat → Int} {s fd : Nat} {P Q O : Nat → Int} (h : CI S s P Q O fd fd) : FewP S s (P 0) := B_dst h.1 h.2.2.1 (by decide)
theorem CI_first {S : Nat → Nat → Int} {s fd : Nat} {P Q O : Nat → Int} (h : CI S s P Q O fd fd) : FstP S s (O 0) := by
  have hA := h.2.2.2.1
  by_cases e : P 0 = -1
  · refine Or.inl ⟨h.2.2.2.2.2.2.1 0 (by decide) e, fun d hd => ?_⟩
    have := B_end h.1 h.2.2.1 d 0 hd.1
    omega
  · by_cases z : 0 = s
    · refine Or.inl ⟨by rw [z]; exact h.2.2.2.2.2.1, fun d hd => ?_⟩
      subst z
      rcases Nat.eq_zero_or_pos d with q | q
      · exact q
      · exact absurd ((Rk_0 S 0 0).mpr rfl) (hd.2 0 q)
    · rcases hA 0 (by decide) e with w | ⟨t, ht1, ht2⟩
      · exact absurd w z
      · rcases B_dst h.1 h.2.2.1 (n := 0) (by decide) with w | ⟨d, hd1, hd2⟩
        · exact absurd w.1 e
        · have hd0 : 0 < d := by
            rcases Nat.eq_zero_or_pos d with q | q
            · subst q; exact absurd hd2.1 (fun w => z ((Rk_0 S s 0).mp w))
            · exact q
          refine Or.inr ⟨d, t, ht1, hd0, hd2, by rw [hd1] at ht2; simpa using ht2, fun i hi hf => ?_⟩
          have := O_end h d 0 hd1 (by decide) z i hf
          omega
