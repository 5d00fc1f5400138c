/-! ===== hours and means ===== -/
theorem succ_mul9 (n : Nat) (x : Int) : ((n + 1 : Nat) : Int) * x = (n : Int) * x + x := by
  have : ((n + 1 : Nat) : Int) = (n : Int) + 1 := by omega
  rw [this, Int.add_mul, Int.one_mul]
theorem mul_mono9 {i j : Nat} (h : i ≤ j) {x : Int} (hx : 0 ≤ x) : (i : Int) * x ≤ (j : Int) * x := Int.mul_le_mul_of_nonneg_right (by omega) hx
theorem HrsP.flat {S : Nat → Nat → Int} {m : Nat} {d : Int} (h : HrsP S m d) (h0 : 0 ≤ d) (n : Nat) (hn : d ≤ (n : Int)) : 9 ≤ S 4 m + (n : Int) * fallF S m := by
  rcases h with ⟨rfl, -⟩ | ⟨j, rfl, -, h1, -⟩
  · omega
  · have := mul_mono9 (i := j) (j := n) (by omega) (fall_bd S m).1; omega
theorem HrsP.not {S : Nat → Nat → Int} {m : Nat} {d : Int} (h : HrsP S m d) (n : Nat) (hn : (n : Int) < d) : S 4 m + (n : Int) * fallF S m < 9 := by
  rcases h with ⟨rfl, -⟩ | ⟨j, rfl, -, -, h1⟩
  · omega
  · exact h1 n (by omega)
theorem falls_none {S : Nat → Nat → Int} (_hI : Inv S) {m : Nat} (hm : (m : Int) < S 0 7) {d : Int} (h : HrsP S m d) (hd : d = -1 := by omega) : FallsP S (-1) := by
  subst hd
  rcases h with ⟨-, h⟩ | ⟨j, h, -⟩
  · exact Or.inl ⟨rfl, fun n hn ha => by have := h n hn; have := ha m hm; omega⟩
  · omega
theorem falls_some {S : Nat → Nat → Int} (_hI : Inv S) {m : Nat} (hm : (m : Int) = S 0 7) {lo : Int} (h1 : ∀ j : Nat, j < m → ∃ d : Int, HrsP S j d ∧ 0 ≤ d ∧ d ≤ lo) (h2 : (lo = 0 ∨ ∃ j : Nat, j < m ∧ HrsP S j lo) ∧ 0 ≤ lo ∧ lo ≤ 50) (_h : 0 = 0) : FallsP S lo := by
  refine Or.inr ⟨lo.toNat, by omega, by omega, fun j hj => ?_, fun n hn ha => ?_⟩
  · obtain ⟨d, d1, d2, d3⟩ := h1 j (by omega)
    exact d1.flat d2 _ (by omega)
  · rcases h2.1 with h | ⟨j, j1, j2⟩
    · omega
    · have := j2.not n (by omega)
      have := ha j (by omega)
      omega
/-- the mean, as the machine has it -/
def meanV (S : Nat → Nat → Int) : UInt64 := if S 0 7 = 0 then FP.dconst0 else FP.ddiv (FP.i2d (iI (sumL (S 4) (mcn S)))) (FP.i2d (iI (S 0 7)))
theorem sum_bd {S : Nat → Nat → Int} (h : Inv S) (n : Nat) : 0 ≤ sumL (S 4) n ∧ sumL (S 4) n ≤ 9 * (n : Int) := by
  induction n with
  | zero => exact ⟨Int.le_refl _, Int.le_refl _⟩
  | succ n ih => rw [sumL_s]; have := h.lean n; omega
theorem ddiv_ok0 : ∀ s : Nat, s < 28 → ∀ c : Nat, c < 4 → ¬ c = 0 → FP.ddiv (FP.i2d (iI (s : Int))) (FP.i2d (iI (c : Int))) &&& 0x7fffffffffffffff ≤ 0x7ff0000000000000 := by decide +kernel
theorem ddiv_ok {a b : Int} (ha : 0 ≤ a ∧ a < 28) (hb : 0 < b ∧ b < 4) : vf_n64 (FP.ddiv (FP.i2d (iI a)) (FP.i2d (iI b))) := by
  have := ddiv_ok0 a.toNat (by omega) b.toNat (by omega) (by omega)
  rw [Int.toNat_of_nonneg ha.1, Int.toNat_of_nonneg (by omega)] at this
  exact this
theorem dcmp_ok0 : ∀ s : Nat, s < 28 → ∀ c : Nat, c < 4 → ¬ c = 0 → Op.cmpValue (FP.dcmp (FP.ddiv (FP.i2d (iI (s : Int))) (FP.i2d (iI (c : Int)))) (FP.ddiv (FP.i2d (iI (s : Int))) (FP.i2d (iI (c : Int))))) CmpOp.l = 0 := by decide +kernel
section VRowsD
variable {X : vX} {l : Launch} {k : Nat → ClassId} {y : MethodName} {cc : ByteArray} {nL : Nat} {Ts : List Cond} {rm : Room} {w : va_W} {c n : Nat} {pc q : Nat} {lv : List (Nat × Value)} {st : List Value}
theorem v_i2d (F : v_F X l k y cc nL Ts rm) {a : Int} (d : decode cc pc = .ok (.i2d, 1)) (hq : pc + 1 = q) (kk : V X w c n q lv (.double (FP.i2d (iI a)) :: st)) : V X w c n pc lv (VI a :: st) := by
  obtain ⟨⟨p, l, e, R, s⟩, ⟨m, args, below, meth, c0⟩, ⟨Q, D, A⟩⟩ := X
  obtain ⟨hx, hb, hml, hown, hts, hK, hA, hR, hlk, hll, hst, hZ, hnm⟩ := F
  intro H locs ls hP hD hS hl
  subst hq
  exact lv_i2d hx hb d (kk H locs ls hP hD hS hl)
theorem v_ddiv (F : v_F X l k y cc nL Ts rm) {a b : UInt64} (hne : vf_n64 (FP.ddiv a b)) (d : decode cc pc = .ok (.ddiv, 1)) (hq : pc + 1 = q) (kk : V X w c n q lv (.double (FP.ddiv a b) :: st)) : V X w c n pc lv (.double b :: .double a :: st) := by
  obtain ⟨⟨p, l, e, R, s⟩, ⟨m, args, below, meth, c0⟩, ⟨Q, D, A⟩⟩ := X
  obtain ⟨hx, hb, hml, hown, hts, hK, hA, hR, hlk, hll, hst, hZ, hnm⟩ := F
  intro H locs ls hP hD hS hl
  subst hq
  exact lv_ddiv hx hb d hne (kk H locs ls hP hD hS hl)
theorem v_dconst0 (F : v_F X l k y cc nL Ts rm) (d : decode cc pc = .ok (.dconst 0, 1)) (hq : pc + 1 = q) (kk : V X w c n q lv (.double FP.dconst0 :: st)) : V X w c n pc lv st := by
  obtain ⟨⟨p, l, e, R, s⟩, ⟨m, args, below, meth, c0⟩, ⟨Q, D, A⟩⟩ := X
  obtain ⟨hx, hb, hml, hown, hts, hK, hA, hR, hlk, hll, hst, hZ, hnm⟩ := F
  intro H locs ls hP hD hS hl
  subst hq
  exact lv_dconst0 hx hb d (kk H locs ls hP hD hS hl)
theorem v_dcmp (F : v_F X l k y cc nL Ts rm) {a b : UInt64} {op : CmpOp} {z : Int} (d : decode cc pc = .ok (.dcmp op, 1)) (hz : Op.cmpValue (FP.dcmp a b) op = iI z) (hq : pc + 1 = q) (kk : V X w c n q lv (VI z :: st)) : V X w c n pc lv (.double b :: .double a :: st) := by
  obtain ⟨⟨p, l, e, R, s⟩, ⟨m, args, below, meth, c0⟩, ⟨Q, D, A⟩⟩ := X
  obtain ⟨hx, hb, hml, hown, hts, hK, hA, hR, hlk, hll, hst, hZ, hnm⟩ := F
  intro H locs ls hP hD hS hl
  subst hq
  refine lv_dcmp hx hb d ?_
  rw [hz]
  exact kk H locs ls hP hD hS hl
end VRowsD
theorem mean_cmp {S : Nat → Nat → Int} (h : Inv S) : Op.cmpValue (FP.dcmp (meanV S) (meanV S)) CmpOp.l = 0 := by
  unfold meanV
  by_cases e : S 0 7 = 0
  · rw [if_pos e]; decide +kernel
  · rw [if_neg e]
    have h1 := h.mc
    have h2 := sum_bd h (mcn S)
    have h3 := dcmp_ok0 (sumL (S 4) (mcn S)).toNat (by unfold mcn at *; omega) (S 0 7).toNat (by omega) (by omega)
    rw [Int.toNat_of_nonneg h2.1, Int.toNat_of_nonneg h1.1] at h3
    exact h3
theorem FallsP.uniq {S : Nat → Nat → Int} {a b : Int} (h1 : FallsP S a) (h2 : FallsP S b) : a = b := by
  rcases h1 with ⟨rfl, h1⟩ | ⟨n, rfl, p1, q1, r1⟩ <;> rcases h2 with ⟨rfl, h2⟩ | ⟨k, rfl, p2, q2, r2⟩
  · rfl
  · exact absurd q2 (h1 k p2)
  · exact absurd q1 (h2 n p1)
  · rcases Nat.lt_trichotomy n k with h | h | h
    · exact absurd q1 (r2 n h)
    · rw [h]
    · exact absurd q2 (r1 k h)
def LoP (S : Nat → Nat → Int) (m : Nat) (lo : Int) : Prop := lo = 0 ∨ ∃ j : Nat, j < m ∧ HrsP S j lo
theorem LoP.mx9 {S : Nat → Nat → Int} {m : Nat} {lo a : Int} (h : LoP S m lo) (ha : HrsP S m a) : LoP S (m + 1) (max lo a) := by
  by_cases e : lo ≤ a
  · rw [show max lo a = a by omega]; exact Or.inr ⟨m, Nat.lt_succ_self m, ha⟩
  · rw [show max lo a = lo by omega]
    rcases h with h | ⟨j, h1, h2⟩
    · exact Or.inl h
    · exact Or.inr ⟨j, Nat.lt_succ_of_lt h1, h2⟩
def HlP (S : Nat → Nat → Int) (m : Nat) (lo : Int) : Prop := ∀ j : Nat, j < m → ∃ d : Int, HrsP S j d ∧ 0 ≤ d ∧ d ≤ lo
theorem HlP.mx9 {S : Nat → Nat → Int} {m : Nat} {lo a : Int} (h : HlP S m lo) (ha : HrsP S m a) (h0 : 0 ≤ a) : HlP S (m + 1) (max lo a) := by
  intro j hj
  by_cases e : j = m
  · subst e; exact ⟨a, ha, h0, by omega⟩
  · obtain ⟨d, d1, d2, d3⟩ := h j (by omega)
    exact ⟨d, d1, d2, by omega⟩
