/-! ===== the search's memory ===== -/
section VLook
variable {X : vX} {l : Launch} {k : Nat → ClassId} {y : MethodName} {cc : ByteArray} {nL : Nat} {Ts : List Cond} {rm : Room} {w : va_W} {c n : Nat} {pc q : Nat} {lv : List (Nat × Value)} {st : List Value}
theorem v_alen (F : v_F X l k y cc nL Ts rm) {a N : Nat} {x : (Nat → Int32) ⊕ (Nat → Int64) ⊕ (Nat → UInt32) ⊕ (Nat → UInt64) ⊕ (Nat → Option Nat)} (q0 : Nat) (ha : w[q0]? = some (a, .inl (k 0, N, x))) (_hN : N < 2147483648) (d : decode cc pc = .ok (.arraylength, 1)) (hq : pc + 1 = q) (kk : V X w c n q lv (VI (N : Int) :: st)) : V X w c n pc lv (.ref a :: st) := by
  obtain ⟨⟨p, l, e, R, s⟩, ⟨m, args, below, meth, c0⟩, ⟨Q, D, A⟩⟩ := X
  obtain ⟨hx, hb, hml, hown, hts, hK, hA, hR, hlk, hll, hst, hZ, hnm⟩ := F
  intro H locs ls hP hD hS hl
  subst hq
  refine va_alen hx hb hK hP q0 0 ha rfl (v := iI (N : Int)) (by rw [iI_nat]; rfl) d ?_
  exact kk H locs ls hP hD hS hl
end VLook
section VLook2
variable {k : Nat → ClassId} {h g : Nat → Nat} {S Z X : Nat → Nat → Int}
theorem cw_so (r : Nat) (hr : r = 5 ∨ r = 6) : (cw k h S X)[21 + r]? = some (h (21 + r), aI k 1000 (X r)) := by
  rcases hr with rfl | rfl <;> rfl
theorem cw_so_set (r : Nat) (hr : r = 5 ∨ r = 6) (j : Nat) (v : Int) : (cw k h S X).set (21 + r) (h (21 + r), .inl (k 0, 1000, .inl (upd (fun i => iI (X r i)) j (iI v)))) = cw k h S (u2 X r j v) := by
  rw [upd_iI]
  rcases hr with rfl | rfl <;> rfl
theorem cw_ba (r : Nat) (hr : r < 2) : (cw k h S X)[7 + r]? = some (h (7 + r), aI k 3 (X r)) := by
  obtain rfl | rfl : r = 0 ∨ r = 1 := by omega
  all_goals rfl
theorem cw_ba_set (r : Nat) (hr : r < 2) (j : Nat) (v : Int) : (cw k h S X).set (7 + r) (h (7 + r), .inl (k 0, 3, .inl (upd (fun i => iI (X r i)) j (iI v)))) = cw k h S (u2 X r j v) := by
  rw [upd_iI]
  obtain rfl | rfl : r = 0 ∨ r = 1 := by omega
  all_goals rfl
end VLook2
def fillF (Z : Nat → Nat → Int) (r : Nat) (v : Int) (n i : Nat) : Int := if i < n then v else Z r i
theorem fill_0 (Z : Nat → Nat → Int) (r : Nat) (v : Int) : Z = ur Z r (fillF Z r v 0) := by
  funext a i
  unfold ur fillF
  by_cases e : a = r
  · subst e; simp
  · simp [e]
theorem fill_s (Z : Nat → Nat → Int) (r : Nat) (v : Int) (n : Nat) : u2 (ur Z r (fillF Z r v n)) r n v = ur Z r (fillF Z r v (n + 1)) := by
  rw [u2_ur]
  congr 1
  funext i
  unfold fillF
  by_cases e : i = n
  · subst e; simp
  · rw [if_neg e]
    have : (i < n + 1) ↔ (i < n) := by omega
    simp [this]
theorem dec_0 (n : Nat) : (n : Int) % 10 = dig n 0 := by show (n : Int) % 10 = ((n / 1 % 10 : Nat) : Int); omega
theorem dec_1 (n : Nat) : (n : Int) / 10 % 10 = dig n 1 := by show (n : Int) / 10 % 10 = ((n / 10 % 10 : Nat) : Int); omega
theorem dec_2 {n : Nat} (h : n < 1000) : (n : Int) / 100 = dig n 2 := by show (n : Int) / 100 = ((n / 100 % 10 : Nat) : Int); omega
def decZ (Z : Nat → Nat → Int) (r n : Nat) : Nat → Nat → Int := u2 (u2 (u2 Z r 0 (dig n 0)) r 1 (dig n 1)) r 2 (dig n 2)
theorem dec_ne {Z : Nat → Nat → Int} {r n a : Nat} (h : ¬ a = r) (j : Nat) : decZ Z r n a j = Z a j := by unfold decZ u2; simp [h]
theorem dec_eq (Z : Nat → Nat → Int) (r n : Nat) : ∀ m, m < 3 → decZ Z r n r m = dig n m := by
  intro m hm
  obtain rfl | rfl | rfl : m = 0 ∨ m = 1 ∨ m = 2 := by omega
  all_goals simp [decZ, u2]
def begZ (Z : Nat → Nat → Int) (n : Nat) : Nat → Nat → Int := u2 (u2 (u2 (ur (ur Z 5 (fillF Z 5 (-1) 1000)) 6 (fillF (ur Z 5 (fillF Z 5 (-1) 1000)) 6 (-1) 1000)) 5 n 0) 4 0 (n : Int)) 7 0 1
theorem u2_77 (B : Nat → Nat → Int) (n : Nat) : u2 (u2 (u2 (u2 B 7 0 0) 5 n 0) 4 0 (n : Int)) 7 0 1 = u2 (u2 (u2 B 5 n 0) 4 0 (n : Int)) 7 0 1 := by
  funext a i
  by_cases h7 : a = 7 <;> by_cases h0 : i = 0 <;> simp [u2, h7, h0]
def reachZ (Z : Nat → Nat → Int) (v n : Nat) (hd : Int) : Nat → Nat → Int :=
  if Z 5 n = -1 then u2 (u2 (u2 (u2 Z 5 n (Z 5 v + 1)) 6 n (if Z 5 v = 0 then hd else Z 6 v)) 4 (Z 7 0).toNat (n : Int)) 7 0 (Z 7 0 + 1)
  else if Z 5 n = Z 5 v + 1 then u2 Z 6 n (min (Z 6 n) (if Z 5 v = 0 then hd else Z 6 v)) else Z
/-- the threads at hand, and what they let down -/
def HK (S Z : Nat → Nat → Int) : Prop := ∀ m : Nat, (m : Int) < S 0 7 → HndP S m (Z 2 m) ∧ Z 3 m = lowM S (m : Int)
def XI (S : Nat → Nat → Int) (s : Nat) (Z : Nat → Nat → Int) (i : Nat) : Prop := ∃ fd : Nat, Z 7 0 = (fd : Int) ∧ CI S s (Z 5) (Z 4) (Z 6) fd i
/-- in the midst of the node v, at the place i of the row -/
def EI (S : Nat → Nat → Int) (s : Nat) (Z : Nat → Nat → Int) (i m v : Nat) : Prop := ∃ fd : Nat, Z 7 0 = (fd : Int) ∧ CI S s (Z 5) (Z 4) (Z 6) fd i ∧ PM S s (Z 5) (Z 4) (Z 6) i m ∧ i < fd ∧ Z 4 i = (v : Int) ∧ HK S Z ∧ ∀ j, j < 3 → Z 0 j = dig v j
theorem row_eq {Z Z9 : Nat → Nat → Int} {x : Nat} (h : ∀ a j : Nat, ¬ a = x → Z9 a j = Z a j) {a : Nat} (ha : ¬ a = x) : Z9 a = Z a := funext fun j => h a j ha
theorem EI.same {S : Nat → Nat → Int} {s : Nat} {Z Z9 : Nat → Nat → Int} {i m v : Nat} (h : EI S s Z i m v) (e : ∀ a j : Nat, ¬ a = 1 → Z9 a j = Z a j) : EI S s Z9 i m v := by
  unfold EI HK at h ⊢
  rw [row_eq e (show ¬ 7 = 1 by decide), row_eq e (show ¬ 5 = 1 by decide), row_eq e (show ¬ 4 = 1 by decide), row_eq e (show ¬ 6 = 1 by decide), row_eq e (show ¬ 2 = 1 by decide), row_eq e (show ¬ 3 = 1 by decide), row_eq e (show ¬ 0 = 1 by decide)]
  exact h
theorem EI.start {S : Nat → Nat → Int} {s : Nat} {Z : Nat → Nat → Int} {i v : Nat} {fd : Nat} (h0 : Z 7 0 = (fd : Int)) (h : CI S s (Z 5) (Z 4) (Z 6) fd i) (hi : i < fd) (hv : Z 4 i = (v : Int)) (hk : HK S Z) : EI S s (decZ Z 0 v) i 0 v := by
  have e : ∀ a j : Nat, ¬ a = 0 → decZ Z 0 v a j = Z a j := fun a j ha => dec_ne ha j
  unfold EI HK
  rw [row_eq e (show ¬ 7 = 0 by decide), row_eq e (show ¬ 5 = 0 by decide), row_eq e (show ¬ 4 = 0 by decide), row_eq e (show ¬ 6 = 0 by decide), row_eq e (show ¬ 2 = 0 by decide), row_eq e (show ¬ 3 = 0 by decide)]
  exact ⟨fd, h0, h, fun m' n' hm => absurd hm (Nat.not_lt_zero m'), hi, hv, hk, dec_eq Z 0 v⟩
theorem EI.skip {S : Nat → Nat → Int} {s : Nat} {Z : Nat → Nat → Int} {i m v : Nat} (h : EI S s Z i m v) (hn : ∀ n', ¬ EC S v m n') : EI S s Z i (m + 1) v := by
  obtain ⟨fd, h1, h2, h3, h4, h5, h6, h7⟩ := h
  exact ⟨fd, h1, h2, h3.skip (by rw [h5]; simpa using hn), h4, h5, h6, h7⟩
theorem EI.none {S : Nat → Nat → Int} {s : Nat} {Z : Nat → Nat → Int} {i m v : Nat} (h : EI S s Z i m v) (hm : (m : Int) < S 0 7) (hd : Z 2 m = -1) : EI S s Z i (m + 1) v := by
  refine h.skip fun n' he => ?_
  obtain ⟨fd, h1, h2, h3, h4, h5, h6, h7⟩ := h
  have := (h6 m hm).1
  rw [hd] at this
  rcases this with ⟨-, q⟩ | ⟨t, q, -⟩
  · obtain ⟨t, ht, hf⟩ := he.1; exact absurd hf (q t ht)
  · omega
theorem EI.reach {S : Nat → Nat → Int} (hI : Inv S) {s : Nat} {Z : Nat → Nat → Int} {i m v n' : Nat} (h : EI S s Z i m v) (hm : (m : Int) < S 0 7) (hd : ¬ Z 2 m = -1) (h0 : ¬ dig v m = 0) (hf : ¬ (S 0 9 = 1 ∧ fitsB S (raiseF S m (dig v)) = false)) (hn : codeF (raiseF S m (dig v)) = (n' : Int)) : EI S s (reachZ Z v n' (Z 2 m)) i (m + 1) v := by
  obtain ⟨fd, h1, h2, h3, h4, h5, h6, h7⟩ := h
  have hv : (Z 4 i).toNat = v := by rw [h5]; simp
  have hc := hI.cc
  rcases (h6 m hm).1 with ⟨q, -⟩ | ⟨t, ht1, ht2, ht3, ht4⟩
  · exact absurd q hd
  have hH : HndP S m (t : Int) := by rw [← ht1]; exact (h6 m hm).1
  have he : EC S (Z 4 i).toNat m n' := by rw [hv]; exact ⟨⟨t, ht2, ht3⟩, h0, hf, hn⟩
  have hat := h2.1.at h4
  rw [hv] at hat
  unfold reachZ
  by_cases e1 : Z 5 n' = -1
  · rw [if_pos e1]
    have hr := h2.1.room (Ed_lt (Ed_of he)) e1
    obtain ⟨g1, g2⟩ := h2.new h4 h3 he hH ht3 ⟨ht2, hc.2⟩ e1 (op := if Z 5 (Z 4 i).toNat = 0 then (t : Int) else Z 6 (Z 4 i).toNat) rfl
    rw [hv, ← ht1] at g1 g2
    have efd : (Z 7 0).toNat = fd := by rw [h1]; simp
    refine ⟨fd + 1, ?_, ?_, ?_, by omega, ?_, ?_, ?_⟩
    · show Z 7 0 + 1 = _; omega
    · rw [efd]; exact g1
    · rw [efd]; exact g2
    · rw [efd]
      show (if i = fd then (n' : Int) else Z 4 i) = v
      rw [if_neg (by omega)]; exact h5
    · exact h6
    · exact h7
  · rw [if_neg e1]
    by_cases e2 : Z 5 n' = Z 5 v + 1
    · rw [if_pos e2]
      obtain ⟨g1, g2⟩ := h2.min h4 h3 he hH ht3 ⟨ht2, hc.2⟩ (by rw [hv]; exact e2) (op := if Z 5 (Z 4 i).toNat = 0 then (t : Int) else Z 6 (Z 4 i).toNat) rfl
      rw [hv, ← ht1] at g1 g2
      exact ⟨fd, h1, g1, g2, h4, h5, h6, h7⟩
    · rw [if_neg e2]
      exact ⟨fd, h1, h2, h2.old h4 h3 he e1 (by rw [hv]; exact e2), h4, h5, h6, h7⟩
theorem EI.done {S : Nat → Nat → Int} (hI : Inv S) {s : Nat} {Z : Nat → Nat → Int} {i m v : Nat} (h : EI S s Z i m v) (hm : (m : Int) = S 0 7) : XI S s Z (i + 1) ∧ HK S Z := by
  obtain ⟨fd, h1, h2, h3, h4, h5, h6, h7⟩ := h
  have : m = mcn S := by unfold mcn; omega
  subst this
  exact ⟨⟨fd, h1, h2.next hI h4 h3 fun m' hm' => ⟨_, (h6 m' hm').1⟩⟩, h6⟩
theorem XI.beg {S : Nat → Nat → Int} {Z : Nat → Nat → Int} {n : Nat} (hn : n < 1000) : XI S n (begZ Z n) 0 := by
  have p5 : ∀ x, begZ Z n 5 x = if x = n then 0 else if x < 1000 then -1 else Z 5 x := fun x => rfl
  have p6 : ∀ x, begZ Z n 6 x = if x < 1000 then -1 else Z 6 x := fun x => rfl
  have p4 : begZ Z n 4 0 = (n : Int) := rfl
  have hs : begZ Z n 5 n = 0 := by rw [p5, if_pos rfl]
  refine ⟨1, rfl, ⟨by omega, hn, hs, fun j hj => ⟨n, 0, ?_, hn, hs, rfl⟩, fun x hx => ?_, ?_⟩, ⟨fun j l hjl hl => ?_, fun _ l hl => ?_⟩, fun j hj => absurd hj (Nat.not_lt_zero j), fun x hx hp => ?_, fun j hj => absurd hj (Nat.not_lt_zero j), ?_, fun x hx _ => ?_, fun j hj => ?_, fun x hx => ?_, by omega⟩
  · obtain rfl : j = 0 := by omega
    exact p4
  · by_cases e : x = n
    · exact Or.inr ⟨0, by omega, by rw [e]; exact p4⟩
    · exact Or.inl (by rw [p5, if_neg e, if_pos hx])
  · have hz : cnt (fun _ => false) 1000 = 0 := by decide +kernel
    have e1 : cnt (fun x => decide (¬ begZ Z n 5 x = -1)) 1000 = cnt (fun x => decide (x = n)) 1000 := cnt_congr _ _ _ (fun t ht => by
      rw [p5]
      by_cases e : t = n
      · simp [e]
      · simp [e, ht])
    rw [e1, cnt_up (p := fun _ => false) hn rfl (by simp) (fun y hy => by simp [hy]), hz]; rfl
  · obtain rfl : j = l := by omega
    exact Int.le_refl _
  · obtain rfl : l = 0 := by omega
    omega
  · by_cases e : x = n
    · exact Or.inl e
    · exact absurd (by rw [p5, if_neg e, if_pos hx]) hp
  · rw [p6, if_pos hn]
  · rw [p6, if_pos hx]
  · obtain rfl : j = 0 := by omega
    rw [p4]; simp only [Int.toNat_natCast]; rw [hs]; omega
  · rw [p6, if_pos hx]; omega
theorem XI.end {S : Nat → Nat → Int} {s : Nat} {Z : Nat → Nat → Int} {i : Nat} (h : XI S s Z i) (hi : Z 7 0 ≤ (i : Int) ∨ 1000 ≤ i) : ∃ fd : Nat, Z 7 0 = (fd : Int) ∧ CI S s (Z 5) (Z 4) (Z 6) fd fd := by
  obtain ⟨fd, h1, h2⟩ := h
  have h3 := h2.1.le
  have h4 := h2.2.2.2.2.2.2.2.2.2
  have : i = fd := by omega
  subst this
  exact ⟨i, h1, h2⟩
theorem EI_dig {S : Nat → Nat → Int} {s : Nat} {Z : Nat → Nat → Int} {i m v : Nat} (h : EI S s Z i m v) : ∀ j, j < 3 → Z 0 j = dig v j := by
  obtain ⟨fd, h1, h2, h3, h4, h5, h6, h7⟩ := h; exact h7
theorem EI_hk {S : Nat → Nat → Int} {s : Nat} {Z : Nat → Nat → Int} {i m v : Nat} (h : EI S s Z i m v) : HK S Z := by
  obtain ⟨fd, h1, h2, h3, h4, h5, h6, h7⟩ := h; exact h6
theorem CI_pb {S : Nat → Nat → Int} {s fd i : Nat} {P Q O : Nat → Int} (h : CI S s P Q O fd i) {x : Nat} (hx : x < 1000) : -1 ≤ P x ∧ P x ≤ 1000 := h.1.pb h.2.1 h.2.2.2.2.2.2.2.1 hx
theorem EI_b1 {S : Nat → Nat → Int} {s : Nat} {Z : Nat → Nat → Int} {i m v : Nat} (h : EI S s Z i m v) : ∀ x, x < 1000 → -1 ≤ Z 5 x ∧ Z 5 x ≤ 1000 := by
  obtain ⟨fd, h1, h2, h3, h4, h5, h6, h7⟩ := h; exact fun x hx => CI_pb h2 hx
theorem EI_b2 {S : Nat → Nat → Int} {s : Nat} {Z : Nat → Nat → Int} {i m v : Nat} (h : EI S s Z i m v) : ∀ x, x < 1000 → -1 ≤ Z 6 x ∧ Z 6 x ≤ 8 := by
  obtain ⟨fd, h1, h2, h3, h4, h5, h6, h7⟩ := h; exact h2.2.2.2.2.2.2.2.2.1
theorem EI_b4 {S : Nat → Nat → Int} {s : Nat} {Z : Nat → Nat → Int} {i m v : Nat} (h : EI S s Z i m v) {n : Nat} (hn : n < 1000) : 0 ≤ Z 7 0 ∧ (Z 5 n = -1 → Z 7 0 < 1000) := by
  obtain ⟨fd, h1, h2, h3, h4, h5, h6, h7⟩ := h
  refine ⟨by omega, fun e => ?_⟩
  have := h2.1.room hn e
  omega
theorem HndP_bd {S : Nat → Nat → Int} (hI : Inv S) {m : Nat} {a : Int} (h : HndP S m a) : -1 ≤ a ∧ a ≤ 8 := by
  have := hI.cc
  rcases h with ⟨rfl, -⟩ | ⟨t, rfl, p1, -⟩ <;> omega
