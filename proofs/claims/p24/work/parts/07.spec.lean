/-! ===== what the document says, over the flat memory ===== -/
def cnt (p : Nat → Bool) : Nat → Int
  | 0 => 0
  | n + 1 => cnt p n + (if p n = true then 1 else 0)
def mx (b : Int) (f : Nat → Int) : Nat → Int
  | 0 => b
  | n + 1 => max (mx b f n) (f n)
theorem cnt_s (p : Nat → Bool) (n : Nat) : cnt p (n + 1) = cnt p n + (if p n = true then 1 else 0) := rfl
theorem cnt_0 (p : Nat → Bool) : cnt p 0 = 0 := rfl
theorem mx_s (b : Int) (f : Nat → Int) (n : Nat) : mx b f (n + 1) = max (mx b f n) (f n) := rfl
theorem mx_0 (b : Int) (f : Nat → Int) : mx b f 0 = b := rfl
theorem cnt_nn (p : Nat → Bool) (n : Nat) : 0 ≤ cnt p n ∧ cnt p n ≤ n := by
  induction n with
  | zero => exact ⟨Int.le_refl _, Int.le_refl _⟩
  | succ n ih => rw [cnt_s]; split <;> omega
theorem cnt_pos (p : Nat → Bool) (n : Nat) : 0 < cnt p n ↔ ∃ t, t < n ∧ p t = true := by
  induction n with
  | zero => exact ⟨fun h => absurd h (Int.lt_irrefl 0), fun ⟨t, h, _⟩ => absurd h (Nat.not_lt_zero t)⟩
  | succ n ih =>
    have h0 := cnt_nn p n
    rw [cnt_s]
    by_cases h : p n = true
    · rw [if_pos h]
      exact ⟨fun _ => ⟨n, Nat.lt_succ_self n, h⟩, fun _ => by omega⟩
    · rw [if_neg h, Int.add_zero, ih]
      refine ⟨fun ⟨t, a, b⟩ => ⟨t, by omega, b⟩, fun ⟨t, a, b⟩ => ⟨t, ?_, b⟩⟩
      by_cases e : t = n
      · exact absurd (e ▸ b) h
      · omega
theorem cnt_mono (p : Nat → Bool) {i n : Nat} (h : i ≤ n) : cnt p i ≤ cnt p n := by
  induction n with
  | zero => have : i = 0 := by omega
            subst this; exact Int.le_refl _
  | succ n ih =>
    by_cases e : i = n + 1
    · subst e; exact Int.le_refl _
    · have := ih (by omega)
      rw [cnt_s]; split <;> omega
theorem cnt_congr (p q : Nat → Bool) (n : Nat) (h : ∀ t, t < n → p t = q t) : cnt p n = cnt q n := by
  induction n with
  | zero => rfl
  | succ n ih => rw [cnt_s, cnt_s, ih (fun t ht => h t (by omega)), h n (by omega)]
theorem mx_le (b : Int) (f : Nat → Int) (n : Nat) : b ≤ mx b f n := by
  induction n with
  | zero => exact Int.le_refl _
  | succ n ih => rw [mx_s]; omega
theorem mx_ub (b : Int) (f : Nat → Int) (n : Nat) (M : Int) (hb : b ≤ M) (hf : ∀ i, i < n → f i ≤ M) : mx b f n ≤ M := by
  induction n with
  | zero => exact hb
  | succ n ih => have h1 := ih (fun i hi => hf i (by omega)); have h2 := hf n (by omega); rw [mx_s]; omega
theorem mx_congr (b : Int) (f g : Nat → Int) (n : Nat) (h : ∀ t, t < n → f t = g t) : mx b f n = mx b g n := by
  induction n with
  | zero => rfl
  | succ n ih => rw [mx_s, mx_s, ih (fun t ht => h t (by omega)), h n (by omega)]
def vB (P : Prop) (a : Int) : Prop := (a = 1 ∧ P) ∨ (a = 0 ∧ ¬ P)
theorem vB_n {P : Prop} {a : Int} (h : vB P a) : narrow .boolean (.int (iI a)) = .int (iI a) := by
  rcases h with ⟨rfl, -⟩ | ⟨rfl, -⟩ <;> decide
theorem vB_1 {P : Prop} (h : P) : vB P 1 := Or.inl ⟨rfl, h⟩
theorem vB_0 {P : Prop} (h : ¬ P) : vB P 0 := Or.inr ⟨rfl, h⟩
abbrev mcn (S : Nat → Nat → Int) : Nat := (S 0 7).toNat
abbrev tcn (S : Nat → Nat → Int) : Nat := (S 0 8).toNat
def onT (S : Nat → Nat → Int) (m v : Int) (t : Nat) : Bool := decide (S 5 t = m) && decide (S 8 t = v)
def heldB (S : Nat → Nat → Int) (m : Int) : Bool := decide (0 < cnt (onT S m 1) (tcn S))
def looseN (S : Nat → Nat → Int) (m : Int) : Int := cnt (onT S m 0) (tcn S)
def leadT (S : Nat → Nat → Int) (m o : Int) (t : Nat) : Bool := decide (S 5 t = m) && decide (S 6 t = o) && decide (S 8 t = 0)
def leadB (S : Nat → Nat → Int) (m o : Int) : Bool := decide (0 < cnt (leadT S m o) (tcn S))
def lowB (S : Nat → Nat → Int) (m o : Int) : Bool := leadB S m o && !heldB S o
def stand (S : Nat → Nat → Int) (f : Nat → Int) (m : Nat) : Int := S 2 m * (9 - f m) / 9
def reachM (S : Nat → Nat → Int) (f : Nat → Int) (m : Nat) : Int := S 2 m * f m / 9
def topF (S : Nat → Nat → Int) (f : Nat → Int) : Int := S 0 5 + mx 0 (stand S f) (mcn S)
def endF (S : Nat → Nat → Int) (f : Nat → Int) : Int := mx (S 0 4) (fun m => S 1 m + reachM S f m) (mcn S)
def widest (S : Nat → Nat → Int) (m : Nat) : Int := mx 0 (S (10 + m)) (S 3 m).toNat
def breF (S : Nat → Nat → Int) (f : Nat → Int) : Nat → Int
  | 0 => S 0 6
  | m + 1 => if f m = 9 then breF S f m else max (breF S f m) (widest S m)
def breN (S : Nat → Nat → Int) : Int := breF S (S 4) (mcn S)
def goesB (S : Nat → Nat → Int) : Bool := decide (breN S ≤ S 0 0) && decide (topF S (S 4) ≤ S 0 0)
def fitsB (S : Nat → Nat → Int) (f : Nat → Int) : Bool := decide (endF S f ≤ S 0 2) && decide (topF S f + S 0 3 ≤ S 0 1)
def crossB (S : Nat → Nat → Int) (a b : Nat) : Bool := decide (a ≠ b) && decide (S 8 a ≠ 2) && decide (S 8 b ≠ 2) && decide (max (S 13 a) (S 13 b) < min (S 14 a) (S 14 b))
def strT (S : Nat → Nat → Int) (t o : Nat) : Bool := decide (S 8 o = 0) && decide (S 7 t < S 7 o) && crossB S t o
def strongB (S : Nat → Nat → Int) (t : Nat) : Bool := decide (0 < cnt (strT S t) (tcn S))
def raiseF (S : Nat → Nat → Int) (m : Nat) (f : Nat → Int) (o : Nat) : Int := if o = m then f o - 1 else if lowB S m o = true ∧ f o < 9 then f o + 1 else f o
def fallF (S : Nat → Nat → Int) (m : Nat) : Int := if heldB S m = true ∨ 0 < looseN S m then 0 else if 2 ≤ S 3 m then 2 else 1
/-- what holds between calls -/
def Inv (S : Nat → Nat → Int) : Prop :=
  (∀ a i : Nat, (a = 0 → i < 10) → -1 ≤ S a i ∧ S a i ≤ 100) ∧ (0 ≤ S 0 7 ∧ S 0 7 ≤ 3) ∧ (0 ≤ S 0 8 ∧ S 0 8 ≤ 8) ∧ (0 ≤ S 0 9 ∧ S 0 9 ≤ 1) ∧ (∀ m : Nat, 0 ≤ S 4 m ∧ S 4 m ≤ 9) ∧ (∀ m : Nat, S 0 7 ≤ m → S 4 m = 0 ∧ S 3 m = 0) ∧ (∀ m : Nat, 0 ≤ S 2 m ∧ S 2 m ≤ 50) ∧ (∀ m : Nat, 0 ≤ S 3 m ∧ S 3 m ≤ 3) ∧ (∀ t : Nat, 0 ≤ S 5 t ∧ S 5 t ≤ 2) ∧
  (∀ t : Nat, (t : Int) < S 0 8 → S 5 t < S 0 7 ∧ S 6 t < S 0 7 ∧ S 5 t ≠ S 6 t ∧ S 13 t = min (S 1 (S 5 t).toNat) (if S 6 t = -1 then 0 else S 1 (S 6 t).toNat) ∧ S 14 t = max (S 1 (S 5 t).toNat) (if S 6 t = -1 then 0 else S 1 (S 6 t).toNat)) ∧ (∀ t : Nat, S 0 8 ≤ t → S 8 t = 0) ∧ (∀ a i : Nat, 1 ≤ a → a ≠ 6 → 0 ≤ S a i) ∧ (∀ i : Nat, i < 10 → 0 ≤ S 0 i) ∧ 1 ≤ S 0 6 ∧ (∀ t : Nat, S 8 t ≤ 2)
theorem Inv.mc {S : Nat → Nat → Int} (h : Inv S) : 0 ≤ S 0 7 ∧ S 0 7 ≤ 3 := h.2.1
theorem Inv.cc {S : Nat → Nat → Int} (h : Inv S) : 0 ≤ S 0 8 ∧ S 0 8 ≤ 8 := h.2.2.1
theorem Inv.isin {S : Nat → Nat → Int} (h : Inv S) : 0 ≤ S 0 9 ∧ S 0 9 ≤ 1 := h.2.2.2.1
theorem Inv.lean {S : Nat → Nat → Int} (h : Inv S) (m : Nat) : 0 ≤ S 4 m ∧ S 4 m ≤ 9 := h.2.2.2.2.1 m
theorem Inv.none {S : Nat → Nat → Int} (h : Inv S) (m : Nat) (hm : S 0 7 ≤ m) : S 4 m = 0 ∧ S 3 m = 0 := h.2.2.2.2.2.1 m hm
theorem Inv.tall {S : Nat → Nat → Int} (h : Inv S) (m : Nat) : 0 ≤ S 2 m ∧ S 2 m ≤ 50 := h.2.2.2.2.2.2.1 m
theorem Inv.yc {S : Nat → Nat → Int} (h : Inv S) (m : Nat) : 0 ≤ S 3 m ∧ S 3 m ≤ 3 := h.2.2.2.2.2.2.2.1 m
theorem Inv.th {S : Nat → Nat → Int} (h : Inv S) (t : Nat) : 0 ≤ S 5 t ∧ S 5 t ≤ 2 := h.2.2.2.2.2.2.2.2.1 t
theorem Inv.thr {S : Nat → Nat → Int} (h : Inv S) (t : Nat) (ht : (t : Int) < S 0 8) : S 5 t < S 0 7 ∧ S 6 t < S 0 7 ∧ S 5 t ≠ S 6 t ∧ S 13 t = min (S 1 (S 5 t).toNat) (if S 6 t = -1 then 0 else S 1 (S 6 t).toNat) ∧ S 14 t = max (S 1 (S 5 t).toNat) (if S 6 t = -1 then 0 else S 1 (S 6 t).toNat) := h.2.2.2.2.2.2.2.2.2.1 t ht
theorem Inv.nt {S : Nat → Nat → Int} (h : Inv S) (t : Nat) (ht : S 0 8 ≤ t) : S 8 t = 0 := h.2.2.2.2.2.2.2.2.2.2.1 t ht
theorem Inv.pos {S : Nat → Nat → Int} (h : Inv S) (a i : Nat) (h1 : 1 ≤ a) (h6 : a ≠ 6) : 0 ≤ S a i := h.2.2.2.2.2.2.2.2.2.2.2.1 a i h1 h6
theorem Inv.sc {S : Nat → Nat → Int} (h : Inv S) (i : Nat) (hi : i < 10) : 0 ≤ S 0 i := h.2.2.2.2.2.2.2.2.2.2.2.2.1 i hi
theorem Inv.wd {S : Nat → Nat → Int} (h : Inv S) : 1 ≤ S 0 6 := h.2.2.2.2.2.2.2.2.2.2.2.2.2.1
theorem Inv.st {S : Nat → Nat → Int} (h : Inv S) (t : Nat) : 0 ≤ S 8 t ∧ S 8 t ≤ 2 := ⟨h.pos 8 t (by decide) (by decide), h.2.2.2.2.2.2.2.2.2.2.2.2.2.2 t⟩
theorem mul_bd {a b A B : Int} (h0 : 0 ≤ a) (h1 : a ≤ A) (h2 : 0 ≤ b) (h3 : b ≤ B) : 0 ≤ a * b ∧ a * b ≤ A * B := ⟨Int.mul_nonneg h0 h2, Int.mul_le_mul h1 h3 h2 (Int.le_trans h0 h1)⟩
theorem stand_bd {S : Nat → Nat → Int} (h : Inv S) {f : Nat → Int} {m : Nat} (hf : 0 ≤ f m ∧ f m ≤ 9) : 0 ≤ stand S f m ∧ stand S f m ≤ 50 := by
  have h1 := mul_bd (h.tall m).1 (h.tall m).2 (show 0 ≤ 9 - f m by omega) (show 9 - f m ≤ 9 by omega)
  unfold stand; omega
theorem reach_bd {S : Nat → Nat → Int} (h : Inv S) {f : Nat → Int} {m : Nat} (hf : 0 ≤ f m ∧ f m ≤ 9) : 0 ≤ reachM S f m ∧ reachM S f m ≤ 50 := by
  have h1 := mul_bd (h.tall m).1 (h.tall m).2 hf.1 hf.2
  unfold reachM; omega
theorem top_bd {S : Nat → Nat → Int} (h : Inv S) {f : Nat → Int} (hf : ∀ m, m < 3 → 0 ≤ f m ∧ f m ≤ 9) : 0 ≤ topF S f ∧ topF S f ≤ 150 := by
  have h1 := mx_le 0 (stand S f) (mcn S)
  have h2 := mx_ub 0 (stand S f) (mcn S) 50 (by decide) (fun i hi => (stand_bd h (hf i (by have := h.mc; unfold mcn at hi; omega))).2)
  have h3 := h.1 0 5 (by omega)
  have h4 := h.sc 5 (by omega)
  unfold topF; omega
theorem end_bd {S : Nat → Nat → Int} (h : Inv S) {f : Nat → Int} (hf : ∀ m, m < 3 → 0 ≤ f m ∧ f m ≤ 9) : 0 ≤ endF S f ∧ endF S f ≤ 150 := by
  have h0 := h.1 0 4 (by omega)
  have h4 := h.sc 4 (by omega)
  have h1 := mx_le (S 0 4) (fun m => S 1 m + reachM S f m) (mcn S)
  have h2 := mx_ub (S 0 4) (fun m => S 1 m + reachM S f m) (mcn S) 150 (by omega) (fun i hi => by have a := (reach_bd h (hf i (by have := h.mc; unfold mcn at hi; omega))).2; have b := (h.1 1 i (by omega)).2; show S 1 i + reachM S f i ≤ 150; omega)
  unfold endF; omega
theorem wid_bd {S : Nat → Nat → Int} (h : Inv S) (m n : Nat) : 0 ≤ mx 0 (S (10 + m)) n ∧ mx 0 (S (10 + m)) n ≤ 100 := ⟨mx_le 0 (S (10 + m)) n, mx_ub 0 (S (10 + m)) n 100 (by decide) (fun i _ => (h.1 (10 + m) i (by omega)).2)⟩
theorem bre_bd {S : Nat → Nat → Int} (h : Inv S) (f : Nat → Int) (n : Nat) : 1 ≤ breF S f n ∧ breF S f n ≤ 100 := by
  induction n with
  | zero => exact ⟨h.wd, (h.1 0 6 (by omega)).2⟩
  | succ n ih =>
    have h1 := wid_bd h n (S 3 n).toNat
    show 1 ≤ (if f n = 9 then breF S f n else max (breF S f n) (widest S n)) ∧ (if f n = 9 then breF S f n else max (breF S f n) (widest S n)) ≤ 100
    unfold widest
    split <;> omega
theorem bre_s (S : Nat → Nat → Int) (f : Nat → Int) (n : Nat) : breF S f (n + 1) = if f n = 9 then breF S f n else max (breF S f n) (widest S n) := rfl
theorem Inv.lean3 {S : Nat → Nat → Int} (h : Inv S) : ∀ m, m < 3 → 0 ≤ S 4 m ∧ S 4 m ≤ 9 := fun m _ => h.lean m
theorem top_cg {S : Nat → Nat → Int} (h : Inv S) {f g : Nat → Int} (e : ∀ m, m < 3 → f m = g m) : topF S f = topF S g := by
  unfold topF
  rw [mx_congr 0 (stand S f) (stand S g) (mcn S) (fun t ht => by have := h.mc; unfold mcn at ht; unfold stand; rw [e t (by omega)])]
theorem end_cg {S : Nat → Nat → Int} (h : Inv S) {f g : Nat → Int} (e : ∀ m, m < 3 → f m = g m) : endF S f = endF S g := by
  unfold endF
  exact mx_congr _ _ _ (mcn S) (fun t ht => by have := h.mc; unfold mcn at ht; show S 1 t + reachM S f t = S 1 t + reachM S g t; unfold reachM; rw [e t (by omega)])
theorem fits_cg {S : Nat → Nat → Int} (h : Inv S) {f g : Nat → Int} (e : ∀ m, m < 3 → f m = g m) : fitsB S f = fitsB S g := by
  unfold fitsB; rw [top_cg h e, end_cg h e]
/-! masks of three bits -/
def btI (b : Bool) : Int := if b = true then 1 else 0
def mskI (b : Nat → Bool) : Int := btI (b 0) + 2 * btI (b 1) + 4 * btI (b 2)
theorem msk_bd (b : Nat → Bool) : 0 ≤ mskI b ∧ mskI b ≤ 7 := by
  unfold mskI btI; split <;> split <;> split <;> omega
theorem msk_cg {b d : Nat → Bool} (e : ∀ o, o < 3 → b o = d o) : mskI b = mskI d := by
  unfold mskI; rw [e 0 (by decide), e 1 (by decide), e 2 (by decide)]
theorem msk_sh1 : ∀ o : Nat, o < 3 → iI 1 <<< (iI (o : Int) &&& 31) = iI ((2 ^ o : Nat) : Int) := by decide +kernel
theorem msk_or0 : ∀ (a b c : Bool) (o : Nat), o < 3 → iI (btI a + 2 * btI b + 4 * btI c) ||| iI ((2 ^ o : Nat) : Int) = iI (btI (a || decide (0 = o)) + 2 * btI (b || decide (1 = o)) + 4 * btI (c || decide (2 = o))) := by decide +kernel
theorem msk_or (b : Nat → Bool) (o : Nat) (h : o < 3) : iI (mskI b) ||| iI ((2 ^ o : Nat) : Int) = iI (mskI (fun x => b x || decide (x = o))) := msk_or0 (b 0) (b 1) (b 2) o h
theorem msk_bit0 : ∀ (a b c : Bool) (o : Nat), o < 3 → iI (btI a + 2 * btI b + 4 * btI c) >>> (iI (o : Int) &&& 31) = iI ((btI a + 2 * btI b + 4 * btI c) / ((2 ^ o : Nat) : Int)) ∧ iI ((btI a + 2 * btI b + 4 * btI c) / ((2 ^ o : Nat) : Int)) &&& iI 1 = iI (btI (if o = 0 then a else if o = 1 then b else c)) := by decide +kernel
theorem msk_shr (b : Nat → Bool) (o : Nat) (h : o < 3) : iI (mskI b) >>> (iI (o : Int) &&& 31) = iI (mskI b / ((2 ^ o : Nat) : Int)) := (msk_bit0 (b 0) (b 1) (b 2) o h).1
theorem msk_bit (b : Nat → Bool) (o : Nat) (h : o < 3) : iI (mskI b / ((2 ^ o : Nat) : Int)) &&& iI 1 = iI (btI (b o)) := by
  have := (msk_bit0 (b 0) (b 1) (b 2) o h).2
  obtain rfl | rfl | rfl : o = 0 ∨ o = 1 ∨ o = 2 := by omega
  all_goals exact this
def lowM (S : Nat → Nat → Int) (m : Int) : Int := mskI (fun o => lowB S m (o : Int))
/-- a row behind a raising of m, with the bits b -/
def rzF (b : Nat → Bool) (m : Nat) (f : Nat → Int) (o : Nat) : Int := if o = m then f o - 1 else if b o = true ∧ f o < 9 then f o + 1 else f o
theorem rz_raise (S : Nat → Nat → Int) (m : Nat) (f : Nat → Int) (o : Nat) : rzF (fun o => lowB S m (o : Int)) m f o = raiseF S m f o := rfl
/-! the checksum -/
def dg (d : Int64) (x : Int) : Int64 := d * 31 + (iI x).toInt64
def dgF (d : Int64) (f : Nat → Int) : Nat → Int64
  | 0 => d
  | n + 1 => dg (dgF d f n) (f n)
theorem dgF_s (d : Int64) (f : Nat → Int) (n : Nat) : dgF d f (n + 1) = dg (dgF d f n) (f n) := rfl
theorem dgF_cg (d : Int64) (f g : Nat → Int) (n : Nat) (h : ∀ t, t < n → f t = g t) : dgF d f n = dgF d g n := by
  induction n with
  | zero => rfl
  | succ n ih => rw [dgF_s, dgF_s, ih (fun t ht => h t (by omega)), h n (by omega)]
theorem inv_cnt {S : Nat → Nat → Int} (h : Inv S) {i : Nat} (hi : 10 ≤ i) (v : Int) : Inv (u2 S 0 i v) := by
  have e0 : ∀ j, j < 10 → u2 S 0 i v 0 j = S 0 j := fun j hj => by
    show (if (0 : Nat) = 0 then (if j = i then v else S 0 j) else S 0 j) = S 0 j
    rw [if_pos rfl, if_neg (by omega)]
  have e1 : ∀ a j, a ≠ 0 → u2 S 0 i v a j = S a j := fun a j ha => by
    show (if a = 0 then (if j = i then v else S a j) else S a j) = S a j
    rw [if_neg ha]
  obtain ⟨h1, h2, h3, h4, h5, h6, h7, h8, h9, h10, h11, h12, h13, h14, h15⟩ := h
  unfold Inv
  rw [e0 7 (by omega), e0 8 (by omega), e0 9 (by omega), e0 6 (by omega)]
  refine ⟨fun a j haj => ?_, h2, h3, h4, fun m => by rw [e1 4 m (by decide)]; exact h5 m, fun m hm => by rw [e1 4 m (by decide), e1 3 m (by decide)]; exact h6 m hm, fun m => by rw [e1 2 m (by decide)]; exact h7 m, fun m => by rw [e1 3 m (by decide)]; exact h8 m, fun t => by rw [e1 5 t (by decide)]; exact h9 t, fun t ht => ?_, fun t ht => by rw [e1 8 t (by decide)]; exact h11 t ht, fun a j h1a h6a => by rw [e1 a j (by omega)]; exact h12 a j h1a h6a, fun j hj => by rw [e0 j hj]; exact h13 j hj, h14, fun t => by rw [e1 8 t (by decide)]; exact h15 t⟩
  · by_cases ha : a = 0
    · subst ha; rw [e0 j (haj rfl)]; exact h1 0 j haj
    · rw [e1 a j ha]; exact h1 a j haj
  · rw [e1 5 t (by decide), e1 6 t (by decide), e1 13 t (by decide), e1 14 t (by decide), e1 1 _ (by decide), e1 1 _ (by decide)]; exact h10 t ht
def lowI (S : Nat → Nat → Int) (m : Int) (i o : Nat) : Bool := decide (0 < cnt (leadT S m (o : Int)) i) && !heldB S (o : Int)
theorem lowI_end (S : Nat → Nat → Int) (m : Int) (o : Nat) : lowI S m (tcn S) o = lowB S m (o : Int) := rfl
theorem lowI_0 (S : Nat → Nat → Int) (m : Int) (o : Nat) : lowI S m 0 o = false := by unfold lowI; rw [cnt_0]; rfl
theorem lowI_add {S : Nat → Nat → Int} {m : Int} {i o : Nat} (h5 : S 5 i = m) (h8 : S 8 i = 0) (h6 : S 6 i = (o : Int)) (hh : ¬ heldB S (S 6 i) = true) (x : Nat) : lowI S m (i + 1) x = (lowI S m i x || decide (x = o)) := by
  unfold lowI
  rw [cnt_s]
  have hn := (cnt_nn (leadT S m (x : Int)) i).1
  by_cases e : x = o
  · subst e
    rw [h6] at hh
    have hl : leadT S m (x : Int) i = true := by unfold leadT; simp [h5, h6, h8]
    have hb : heldB S (x : Int) = false := by cases hq : heldB S (x : Int) with | false => rfl | true => exact absurd hq hh
    rw [if_pos hl, hb]; simp; omega
  · have hl : ¬ leadT S m (x : Int) i = true := by unfold leadT; simp [h6]; omega
    rw [if_neg hl]; simp [e]
theorem lowI_no {S : Nat → Nat → Int} {m : Int} {i : Nat} (h : S 5 i = m → S 8 i = 0 → ¬ S 6 i = -1 → heldB S (S 6 i) = true) (x : Nat) : lowI S m (i + 1) x = lowI S m i x := by
  unfold lowI
  rw [cnt_s]
  by_cases hl : leadT S m (x : Int) i = true
  · have hl2 := hl
    unfold leadT at hl2
    simp only [Bool.and_eq_true, decide_eq_true_eq] at hl2
    have hb := h hl2.1.1 hl2.2 (by rw [hl2.1.2]; omega)
    rw [hl2.1.2] at hb
    rw [hb]; simp
  · rw [if_neg hl, Int.add_zero]
theorem btI_bd (b : Bool) : 0 ≤ btI b ∧ btI b ≤ 1 := by unfold btI; split <;> omega
theorem btI_1 (b : Bool) : btI b = 1 ↔ b = true := by cases b <;> decide
theorem rz_bd {b : Nat → Bool} {m : Nat} {f : Nat → Int} (hf : ∀ o, o < 3 → 0 ≤ f o ∧ f o ≤ 9) (hm : ¬ f m = 0) : ∀ o, o < 3 → 0 ≤ rzF b m f o ∧ rzF b m f o ≤ 9 := by
  intro o ho
  have h := hf o ho
  unfold rzF
  by_cases e : o = m
  · subst e; rw [if_pos rfl]; omega
  · rw [if_neg e]; split <;> omega
theorem low_out {S : Nat → Nat → Int} (h : Inv S) (m : Int) {o : Nat} (ho : S 0 7 ≤ o) : lowB S m (o : Int) = false := by
  have hz : leadB S m (o : Int) = false := by
    cases hq : leadB S m (o : Int) with
    | false => rfl
    | true =>
      obtain ⟨t, ht, hl⟩ := (cnt_pos _ _).mp (of_decide_eq_true hq)
      unfold leadT at hl
      simp only [Bool.and_eq_true, decide_eq_true_eq] at hl
      have hc := h.cc
      have := (h.thr t (by unfold tcn at ht; omega)).2.1
      omega
  unfold lowB; rw [hz]; rfl
def hinF (S : Nat → Nat → Int) (t : Nat) : Int := if heldB S (S 5 t) = true ∨ S 4 (S 5 t).toNat = 0 then -1 else if strongB S t = true then -2 else if S 0 9 = 1 ∧ fitsB S (raiseF S (S 5 t).toNat (S 4)) = false then -3 else 0
def behF (S : Nat → Nat → Int) (f : Nat → Int) (t : Nat) : Int := if heldB S (S 5 t) = true ∨ f (S 5 t).toNat = 0 then -1 else if strongB S t = true then -2 else if S 0 9 = 1 ∧ fitsB S (raiseF S (S 5 t).toNat f) = false then -3 else codeF (raiseF S (S 5 t).toNat f)
def HrsP (S : Nat → Nat → Int) (m : Nat) (a : Int) : Prop := (a = -1 ∧ ∀ j : Nat, j ≤ 50 → S 4 m + (j : Int) * fallF S m < 9) ∨ (∃ j : Nat, a = (j : Int) ∧ j ≤ 50 ∧ 9 ≤ S 4 m + (j : Int) * fallF S m ∧ ∀ i : Nat, i < j → S 4 m + (i : Int) * fallF S m < 9)
theorem fall_bd (S : Nat → Nat → Int) (m : Nat) : 0 ≤ fallF S m ∧ fallF S m ≤ 2 := by unfold fallF; split <;> (try split) <;> omega
/-! leans as one number of three digits -/
def unitN (m : Nat) : Int := if m = 0 then 1 else if m = 1 then 10 else 100
theorem unit_bd (m : Nat) : 1 ≤ unitN m ∧ unitN m ≤ 100 := by unfold unitN; split <;> (try split) <;> omega
abbrev D9 (f : Nat → Int) : Prop := ∀ m, m < 3 → 0 ≤ f m ∧ f m ≤ 9
theorem code_bd {f : Nat → Int} (hf : D9 f) : 0 ≤ codeF f ∧ codeF f ≤ 999 := by
  have h0 := hf 0 (by decide); have h1 := hf 1 (by decide); have h2 := hf 2 (by decide)
  unfold codeF; omega
theorem code_dig {f : Nat → Int} (hf : D9 f) {m : Nat} (hm : m < 3) : codeF f / unitN m % 10 = f m := by
  have h0 := hf 0 (by decide); have h1 := hf 1 (by decide); have h2 := hf 2 (by decide)
  obtain rfl | rfl | rfl : m = 0 ∨ m = 1 ∨ m = 2 := by omega
  · show (f 0 + 10 * f 1 + 100 * f 2) / 1 % 10 = f 0; omega
  · show (f 0 + 10 * f 1 + 100 * f 2) / 10 % 10 = f 1; omega
  · show (f 0 + 10 * f 1 + 100 * f 2) / 100 % 10 = f 2; omega
theorem code_cg {f g : Nat → Int} (e : ∀ m, m < 3 → f m = g m) : codeF f = codeF g := by
  unfold codeF; rw [e 0 (by decide), e 1 (by decide), e 2 (by decide)]
theorem code_inj {f g : Nat → Int} (hf : D9 f) (hg : D9 g) (e : codeF f = codeF g) : ∀ m, m < 3 → f m = g m := fun m hm => by
  rw [← code_dig hf hm, ← code_dig hg hm, e]
/-- one more at a place -/
theorem code_add {f g : Nat → Int} {m : Nat} (hm : m < 3) (v : Int) (e : ∀ o, o < 3 → g o = if o = m then f o + v else f o) : codeF g = codeF f + v * unitN m := by
  have h0 := e 0 (by decide); have h1 := e 1 (by decide); have h2 := e 2 (by decide)
  obtain rfl | rfl | rfl : m = 0 ∨ m = 1 ∨ m = 2 := by omega
  · simp at h0 h1 h2; unfold codeF unitN; rw [h0, h1, h2]; simp; omega
  · simp at h0 h1 h2; unfold codeF unitN; rw [h0, h1, h2]; simp; omega
  · simp at h0 h1 h2; unfold codeF unitN; rw [h0, h1, h2]; simp; omega
def plF (S : Nat → Nat → Int) (p : Int) : Int := if p = -1 then 0 else S 1 p.toNat
theorem cr_lo {S : Nat → Nat → Int} (h : Inv S) {t : Nat} (ht : (t : Int) < S 0 8) : S 13 t = min (plF S (S 5 t)) (plF S (S 6 t)) ∧ S 14 t = max (plF S (S 5 t)) (plF S (S 6 t)) := by
  have h1 := h.thr t ht
  have h2 := h.th t
  unfold plF
  rw [if_neg (show ¬ S 5 t = -1 by omega)]
  exact ⟨h1.2.2.2.1, h1.2.2.2.2⟩
theorem pl_bd {S : Nat → Nat → Int} (h : Inv S) (p : Int) : 0 ≤ plF S p ∧ plF S p ≤ 100 := by
  unfold plF
  split
  · omega
  · exact ⟨h.pos 1 _ (by decide) (by decide), (h.1 1 _ (by omega)).2⟩
/-- the raising, as far as the masts below i are looked at -/
def rsI (S : Nat → Nat → Int) (m : Nat) (f : Nat → Int) (i o : Nat) : Int := if o = m then f o - 1 else if o < i ∧ lowB S m o = true ∧ f o < 9 then f o + 1 else f o
theorem rsI_end {S : Nat → Nat → Int} (h : Inv S) (m : Nat) (f : Nat → Int) (o : Nat) : rsI S m f (mcn S) o = raiseF S m f o := by
  unfold rsI raiseF
  by_cases e : o = m
  · rw [if_pos e, if_pos e]
  · rw [if_neg e, if_neg e]
    by_cases q : o < mcn S
    · simp [q]
    · have := low_out h m (o := o) (by have := h.mc; unfold mcn at q; omega)
      simp [this]
theorem raise_bd {S : Nat → Nat → Int} {m : Nat} {f : Nat → Int} (hf : D9 f) (hm : ¬ f m = 0) : D9 (raiseF S m f) := fun o ho => rz_bd (b := fun o => lowB S m (o : Int)) hf hm o ho
theorem div_bd {a b : Int} (ha : 0 ≤ a) (hb : 1 ≤ b) : 0 ≤ a / b ∧ a / b ≤ a := ⟨Int.ediv_nonneg ha (by omega), Int.ediv_le_self b ha⟩
