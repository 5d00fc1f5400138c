/-! ===== looking ahead: the leans as numbers of three digits, pulls as edges ===== -/
def dig (n m : Nat) : Int := ((n / (if m = 0 then 1 else if m = 1 then 10 else 100) % 10 : Nat) : Int)
theorem dig_D9 (n : Nat) : D9 (dig n) := fun m _ => by unfold dig; omega
theorem dig_code {n : Nat} (h : n < 1000) : codeF (dig n) = (n : Int) := by
  show ((n / 1 % 10 : Nat) : Int) + 10 * ((n / 10 % 10 : Nat) : Int) + 100 * ((n / 100 % 10 : Nat) : Int) = n
  omega
theorem dig_of {f : Nat → Int} (hf : D9 f) {n : Nat} (h : codeF f = (n : Int)) : ∀ m, m < 3 → dig n m = f m := by
  have hb := code_bd hf
  exact code_inj (dig_D9 n) hf (by rw [dig_code (by omega), h])
/-- what is behind a pull of t, from the leans n; -1 if it can't be -/
def stp (S : Nat → Nat → Int) (n t : Nat) : Int := if S 8 t = 0 then behF S (dig n) t else -1
def Ed (S : Nat → Nat → Int) (n n' : Nat) : Prop := ∃ t : Nat, (t : Int) < S 0 8 ∧ stp S n t = (n' : Int)
def Rk (S : Nat → Nat → Int) (s : Nat) : Nat → Nat → Prop
  | 0, n => n = s
  | k + 1, n => ∃ p, Rk S s k p ∧ Ed S p n
theorem Rk_0 (S : Nat → Nat → Int) (s n : Nat) : Rk S s 0 n ↔ n = s := Iff.rfl
theorem Rk_s (S : Nat → Nat → Int) (s k n : Nat) : Rk S s (k + 1) n ↔ ∃ p, Rk S s k p ∧ Ed S p n := Iff.rfl
theorem stp_bd (S : Nat → Nat → Int) (n t : Nat) : -3 ≤ stp S n t ∧ stp S n t ≤ 999 := by
  unfold stp; split
  · exact beh_bd (dig_D9 n) t
  · omega
theorem Ed_lt {S : Nat → Nat → Int} {n n' : Nat} (h : Ed S n n') : n' < 1000 := by
  obtain ⟨t, -, ht⟩ := h
  have := stp_bd S n t
  omega
theorem Rk_lt {S : Nat → Nat → Int} {s k n : Nat} (hs : s < 1000) (h : Rk S s k n) : n < 1000 := by
  cases k with
  | zero => rw [Rk_0] at h; omega
  | succ k => obtain ⟨p, -, he⟩ := h; exact Ed_lt he
/-- the first pull of a way -/
theorem Rk_cons {S : Nat → Nat → Int} {s p n : Nat} : ∀ {k : Nat}, Ed S s p → Rk S p k n → Rk S s (k + 1) n := by
  intro k
  induction k generalizing n with
  | zero => intro h1 h2; rw [Rk_0] at h2; subst h2; exact ⟨s, rfl, h1⟩
  | succ k ih => intro h1 h2; obtain ⟨q, h3, h4⟩ := h2; exact ⟨q, ih h1 h3, h4⟩
theorem Rk_uncons {S : Nat → Nat → Int} {s n : Nat} : ∀ {k : Nat}, Rk S s (k + 1) n → ∃ p, Ed S s p ∧ Rk S p k n := by
  intro k
  induction k generalizing n with
  | zero => intro h; obtain ⟨q, h1, h2⟩ := h; rw [Rk_0] at h1; subst h1; exact ⟨n, h2, rfl⟩
  | succ k ih => intro h; obtain ⟨q, h1, h2⟩ := h; obtain ⟨p, h3, h4⟩ := ih h1; exact ⟨p, h3, q, h4, h2⟩
/-- P: the pulls to each, or -1; Q: the row of those found, fd of them -/
def BV (S : Nat → Nat → Int) (s : Nat) (P Q : Nat → Int) (fd : Nat) : Prop :=
  1 ≤ fd ∧ s < 1000 ∧ P s = 0 ∧ (∀ j, j < fd → ∃ n k : Nat, Q j = (n : Int) ∧ n < 1000 ∧ P n = (k : Int) ∧ Rk S s k n) ∧ (∀ n, n < 1000 → P n = -1 ∨ ∃ j, j < fd ∧ Q j = (n : Int)) ∧ cnt (fun n => decide (¬ P n = -1)) 1000 = (fd : Int)
/-- the row is in the order of its pulls; i is looked at -/
def BO (P Q : Nat → Int) (fd i : Nat) : Prop := (∀ j l, j ≤ l → l < fd → P (Q j).toNat ≤ P (Q l).toNat) ∧ (i < fd → ∀ l, l < fd → P (Q l).toNat ≤ P (Q i).toNat + 1)
/-- those before i are done -/
def BC (S : Nat → Nat → Int) (P Q : Nat → Int) (i : Nat) : Prop := ∀ j, j < i → ∀ n', Ed S (Q j).toNat n' → 0 ≤ P n' ∧ P n' ≤ P (Q j).toNat + 1
theorem BV.nn {S : Nat → Nat → Int} {s fd : Nat} {P Q : Nat → Int} (h : BV S s P Q fd) {n : Nat} (hn : n < 1000) (hp : ¬ P n = -1) : 0 ≤ P n := by
  rcases h.2.2.2.2.1 n hn with q | ⟨j, hj, hq⟩
  · exact absurd q hp
  · obtain ⟨m, k, h1, h2, h3, -⟩ := h.2.2.2.1 j hj
    have : m = n := by omega
    subst this; omega
theorem cnt_up {p q : Nat → Bool} {n x : Nat} (hx : x < n) (h0 : p x = false) (h1 : q x = true) (he : ∀ y, ¬ y = x → p y = q y) : cnt q n = cnt p n + 1 := by
  induction n with
  | zero => omega
  | succ n ih =>
    rw [cnt_s, cnt_s]
    by_cases e : n = x
    · subst e
      rw [h0, h1, cnt_congr q p n (fun t ht => (he t (by omega)).symm)]; simp
    · rw [ih (by omega), he n e]; omega
theorem cnt_lt {p : Nat → Bool} {n x : Nat} (hx : x < n) (h0 : p x = false) : cnt p n < n := by
  induction n with
  | zero => omega
  | succ n ih =>
    rw [cnt_s]
    by_cases e : n = x
    · subst e; have := cnt_nn p n; rw [h0]; simp; omega
    · have := ih (by omega); split <;> omega
theorem BV.room {S : Nat → Nat → Int} {s fd : Nat} {P Q : Nat → Int} (h : BV S s P Q fd) {n : Nat} (hn : n < 1000) (hp : P n = -1) : fd < 1000 := by
  have := cnt_lt (p := fun n => decide (¬ P n = -1)) hn (by simp [hp])
  rw [h.2.2.2.2.2] at this; omega
theorem BV.le {S : Nat → Nat → Int} {s fd : Nat} {P Q : Nat → Int} (h : BV S s P Q fd) : fd ≤ 1000 := by
  have := (cnt_nn (fun n => decide (¬ P n = -1)) 1000).2
  rw [h.2.2.2.2.2] at this; omega
theorem BV.at {S : Nat → Nat → Int} {s fd : Nat} {P Q : Nat → Int} (h : BV S s P Q fd) {j : Nat} (hj : j < fd) : 0 ≤ Q j ∧ Q j < 1000 ∧ 0 ≤ P (Q j).toNat ∧ Rk S s (P (Q j).toNat).toNat (Q j).toNat := by
  obtain ⟨n, k, h1, h2, h3, h4⟩ := h.2.2.2.1 j hj
  rw [h1]
  simp only [Int.toNat_natCast]
  rw [h3]
  exact ⟨by omega, by omega, by omega, by simpa using h4⟩
/-- the row's numbers are found, and their pulls small -/
theorem BV.pb {S : Nat → Nat → Int} {s fd : Nat} {P Q : Nat → Int} (h : BV S s P Q fd) {i : Nat} (hO : BO P Q fd i) (hb : ∀ j, j < fd → P (Q j).toNat ≤ (j : Int)) {n : Nat} (hn : n < 1000) : -1 ≤ P n ∧ P n ≤ 1000 := by
  rcases h.2.2.2.2.1 n hn with q | ⟨j, hj, hq⟩
  · omega
  · have h1 := hb j hj
    have h2 := h.at hj
    have h3 := h.le
    rw [hq] at h1 h2
    simp only [Int.toNat_natCast] at h1 h2
    omega
/-- one more is found, from i -/
theorem BV.new {S : Nat → Nat → Int} {s fd : Nat} {P Q : Nat → Int} (h : BV S s P Q fd) {i n : Nat} (hi : i < fd) (hn : n < 1000) (hp : P n = -1) (he : Ed S (Q i).toNat n) :
    BV S s (fun x => if x = n then P (Q i).toNat + 1 else P x) (fun x => if x = fd then (n : Int) else Q x) (fd + 1) := by
  have hr := h.room hn hp
  obtain ⟨q0, q1, q2, q3⟩ := h.at hi
  obtain ⟨h1, h2, h3, h4, h5, h6⟩ := h
  have hsn : ¬ s = n := fun e => by rw [← e, h3] at hp; omega
  refine ⟨by omega, h2, by simp only [if_neg hsn]; exact h3, fun j hj => ?_, fun x hx => ?_, ?_⟩
  · by_cases e : j = fd
    · refine ⟨n, (P (Q i).toNat).toNat + 1, by simp [e], hn, by simp; omega, (Q i).toNat, q3, he⟩
    · obtain ⟨m, k, a, b, c, d⟩ := h4 j (by omega)
      have : ¬ m = n := fun z => by rw [z, hp] at c; omega
      exact ⟨m, k, by simp only [if_neg e]; exact a, b, by simp only [if_neg this]; exact c, d⟩
  · by_cases e : x = n
    · exact Or.inr ⟨fd, by omega, by simp [e]⟩
    · rcases h5 x hx with q | ⟨j, hj, hq⟩
      · exact Or.inl (by simp only [if_neg e]; exact q)
      · exact Or.inr ⟨j, by omega, by show (if j = fd then (n : Int) else Q j) = _; rw [if_neg (by omega)]; exact hq⟩
  · rw [cnt_up (p := fun n => decide (¬ P n = -1)) hn (by simp [hp]) (by simp; omega) (fun y hy => by simp [hy]), h6]
    omega
theorem BO.new {S : Nat → Nat → Int} {s fd : Nat} {P Q : Nat → Int} (h : BV S s P Q fd) {i n : Nat} (hO : BO P Q fd i) (hi : i < fd) (hp : P n = -1) :
    BO (fun x => if x = n then P (Q i).toNat + 1 else P x) (fun x => if x = fd then (n : Int) else Q x) (fd + 1) i := by
  have hne : ∀ j, j < fd → ¬ (Q j).toNat = n := fun j hj e => by
    have := (h.at hj).2.2.1; rw [e, hp] at this; omega
  have val : ∀ j, j < fd → (if (if j = fd then (n : Int) else Q j).toNat = n then P (Q i).toNat + 1 else P (if j = fd then (n : Int) else Q j).toNat) = P (Q j).toNat := fun j hj => by
    have e1 : (if j = fd then (n : Int) else Q j) = Q j := if_neg (by omega)
    rw [e1, if_neg (hne j hj)]
  have vn : (if (if fd = fd then (n : Int) else Q fd).toNat = n then P (Q i).toNat + 1 else P (if fd = fd then (n : Int) else Q fd).toNat) = P (Q i).toNat + 1 := by simp
  refine ⟨fun j l hjl hl => ?_, fun _ l hl => ?_⟩
  · show (if (if j = fd then (n : Int) else Q j).toNat = n then P (Q i).toNat + 1 else P (if j = fd then (n : Int) else Q j).toNat) ≤ (if (if l = fd then (n : Int) else Q l).toNat = n then P (Q i).toNat + 1 else P (if l = fd then (n : Int) else Q l).toNat)
    by_cases e : l = fd
    · subst e
      rw [vn]
      by_cases e2 : j = l
      · subst e2; rw [vn]; omega
      · rw [val j (by omega)]; exact hO.2 hi j (by omega)
    · rw [val j (by omega), val l (by omega)]; exact hO.1 j l hjl (by omega)
  · show (if (if l = fd then (n : Int) else Q l).toNat = n then P (Q i).toNat + 1 else P (if l = fd then (n : Int) else Q l).toNat) ≤ (if (if i = fd then (n : Int) else Q i).toNat = n then P (Q i).toNat + 1 else P (if i = fd then (n : Int) else Q i).toNat) + 1
    rw [val i hi]
    by_cases e : l = fd
    · subst e; rw [vn]; omega
    · rw [val l (by omega)]; exact hO.2 hi l (by omega)
theorem BO.next {P Q : Nat → Int} {fd i : Nat} (hO : BO P Q fd i) : BO P Q fd (i + 1) := by
  refine ⟨hO.1, fun hi l hl => ?_⟩
  have h1 := hO.2 (by omega) l hl
  have h2 := hO.1 i (i + 1) (by omega) hi
  omega
/-- at the end: every way is seen, none is shorter -/
theorem B_end {S : Nat → Nat → Int} {s fd : Nat} {P Q : Nat → Int} (h : BV S s P Q fd) (hC : BC S P Q fd) : ∀ k n, Rk S s k n → 0 ≤ P n ∧ P n ≤ k := by
  intro k
  induction k with
  | zero => intro n hk; rw [Rk_0] at hk; subst hk; rw [h.2.2.1]; omega
  | succ k ih =>
    intro n hk
    obtain ⟨p, h1, h2⟩ := hk
    have h3 := ih p h1
    have hp : p < 1000 := Rk_lt h.2.1 h1
    rcases h.2.2.2.2.1 p hp with q | ⟨j, hj, hq⟩
    · omega
    · have h4 := hC j hj n (by rw [hq]; simpa using h2)
      rw [hq] at h4
      simp only [Int.toNat_natCast] at h4
      omega
def Dst (S : Nat → Nat → Int) (s n d : Nat) : Prop := Rk S s d n ∧ ∀ j, j < d → ¬ Rk S s j n
theorem Dst.uniq {S : Nat → Nat → Int} {s n d e : Nat} (h1 : Dst S s n d) (h2 : Dst S s n e) : d = e := by
  rcases Nat.lt_trichotomy d e with h | h | h
  · exact absurd h1.1 (h2.2 d h)
  · exact h
  · exact absurd h2.1 (h1.2 e h)
theorem B_dst {S : Nat → Nat → Int} {s fd : Nat} {P Q : Nat → Int} (h : BV S s P Q fd) (hC : BC S P Q fd) {n : Nat} (hn : n < 1000) : (P n = -1 ∧ ∀ k, ¬ Rk S s k n) ∨ (∃ d : Nat, P n = (d : Int) ∧ Dst S s n d) := by
  rcases h.2.2.2.2.1 n hn with q | ⟨j, hj, hq⟩
  · exact Or.inl ⟨q, fun k hk => by have := B_end h hC k n hk; omega⟩
  · have h1 := h.at hj
    rw [hq] at h1
    simp only [Int.toNat_natCast] at h1
    exact Or.inr ⟨(P n).toNat, by omega, h1.2.2.2, fun i hi hk => by have := B_end h hC i n hk; omega⟩
/-- the calls' words -/
def cS (S : Nat → Nat → Int) : Nat := (codeF (S 4)).toNat
def FewP (S : Nat → Nat → Int) (s : Nat) (a : Int) : Prop := (a = -1 ∧ ∀ k, ¬ Rk S s k 0) ∨ (∃ d : Nat, a = (d : Int) ∧ Dst S s 0 d)
theorem FewP.uniq {S : Nat → Nat → Int} {s : Nat} {a b : Int} (h1 : FewP S s a) (h2 : FewP S s b) : a = b := by
  rcases h1 with ⟨rfl, h1⟩ | ⟨d, rfl, h1⟩ <;> rcases h2 with ⟨rfl, h2⟩ | ⟨e, rfl, h2⟩
  · rfl
  · exact absurd h2.1 (h1 e)
  · exact absurd h1.1 (h2 d)
  · rw [h1.uniq h2]
/-- t can be the first one of d pulls from s to n -/
def FO (S : Nat → Nat → Int) (s n d t : Nat) : Prop := (t : Int) < S 0 8 ∧ ∃ p : Nat, stp S s t = (p : Int) ∧ Rk S p (d - 1) n
def FstP (S : Nat → Nat → Int) (s : Nat) (a : Int) : Prop := (a = -1 ∧ ∀ d, Dst S s 0 d → d = 0) ∨ (∃ d t : Nat, a = (t : Int) ∧ 0 < d ∧ Dst S s 0 d ∧ FO S s 0 d t ∧ ∀ i, i < t → ¬ FO S s 0 d i)
theorem FstP.uniq {S : Nat → Nat → Int} {s : Nat} {a b : Int} (h1 : FstP S s a) (h2 : FstP S s b) : a = b := by
  rcases h1 with ⟨rfl, h1⟩ | ⟨d, t, rfl, p1, q1, r1, s1⟩ <;> rcases h2 with ⟨rfl, h2⟩ | ⟨e, u, rfl, p2, q2, r2, s2⟩
  · rfl
  · have := h1 e q2; omega
  · have := h2 d q1; omega
  · have := q1.uniq q2
    subst this
    rcases Nat.lt_trichotomy t u with h | h | h
    · exact absurd r1 (s2 t h)
    · rw [h]
    · exact absurd r2 (s1 u h)
def LeaP (S : Nat → Nat → Int) (s m : Nat) (a : Int) : Prop := (∃ k n, Rk S s k n ∧ dig n m = a) ∧ ∀ k n, Rk S s k n → a ≤ dig n m
theorem LeaP.uniq {S : Nat → Nat → Int} {s m : Nat} {a b : Int} (h1 : LeaP S s m a) (h2 : LeaP S s m b) : a = b := by
  obtain ⟨⟨k, n, r1, e1⟩, l1⟩ := h1
  obtain ⟨⟨k2, n2, r2, e2⟩, l2⟩ := h2
  have := l1 k2 n2 r2
  have := l2 k n r1
  omega
