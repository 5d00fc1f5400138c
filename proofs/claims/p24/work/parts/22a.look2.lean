/-! ===== looking ahead, the ends ===== -/
theorem HK_step {S Z : Nat → Nat → Int} {m : Nat} (h : ∀ j : Nat, j < m → HndP S j (Z 2 j) ∧ Z 3 j = lowM S (j : Int)) {a b : Int} (ha : HndP S m a) (hb : b = lowM S (m : Int)) : ∀ j : Nat, j < m + 1 → HndP S j (u2 (u2 Z 2 m a) 3 m b 2 j) ∧ u2 (u2 Z 2 m a) 3 m b 3 j = lowM S (j : Int) := by
  intro j hj
  by_cases e : j = m
  · subst e; exact ⟨by simpa [u2] using ha, by simpa [u2] using hb⟩
  · have := h j (by omega)
    exact ⟨by simpa [u2, e] using this.1, by simpa [u2, e] using this.2⟩
theorem cS_lt {S : Nat → Nat → Int} (hI : Inv S) : cS S < 1000 ∧ ((cS S : Nat) : Int) = codeF (S 4) := by
  have := code_bd hI.lean3
  unfold cS
  omega
theorem dig_cS {S : Nat → Nat → Int} (hI : Inv S) {m : Nat} (hm : m < 3) : dig (cS S) m = S 4 m := dig_of hI.lean3 (cS_lt hI).2.symm m hm
theorem Lea_end {S : Nat → Nat → Int} {s fd : Nat} {P Q : Nat → Int} (hV : BV S s P Q fd) (hC : BC S P Q fd) {m : Nat} {le : Int} (h1 : ∃ k n, Rk S s k n ∧ dig n m = le) (h2 : ∀ j, j < fd → le ≤ dig (Q j).toNat m) : LeaP S s m le := by
  refine ⟨h1, fun k n hk => ?_⟩
  have h3 := B_end hV hC k n hk
  rcases hV.2.2.2.2.1 n (Rk_lt hV.2.1 hk) with q | ⟨j, hj, hq⟩
  · omega
  · have := h2 j hj
    rw [hq] at this
    simpa using this
theorem Lea_min {S : Nat → Nat → Int} {s m : Nat} {le x : Int} {n k : Nat} (h : ∃ k n, Rk S s k n ∧ dig n m = le) (hr : Rk S s k n) (hx : x = dig n m) : ∃ k n, Rk S s k n ∧ dig n m = min le x := by
  by_cases e : le ≤ x
  · rw [show min le x = le by omega]; exact h
  · rw [show min le x = x by omega]; exact ⟨k, n, hr, hx.symm⟩
/-- the model's row -/
def SI (S : Nat → Nat → Int) (s : Nat) (Y : Nat → Nat → Int) (fd i : Nat) : Prop := BV S s (Y 1) (Y 2) fd ∧ BO (Y 1) (Y 2) fd i ∧ BC S (Y 1) (Y 2) i ∧ i ≤ fd ∧ ∀ j, j < fd → Y 1 (Y 2 j).toNat ≤ (j : Int)
def PT (S : Nat → Nat → Int) (Y : Nat → Nat → Int) (i t : Nat) : Prop := ∀ t' n' : Nat, t' < t → stp S (Y 2 i).toNat t' = (n' : Int) → 0 ≤ Y 1 n' ∧ Y 1 n' ≤ Y 1 (Y 2 i).toNat + 1
theorem SI.beg {S : Nat → Nat → Int} {Y : Nat → Nat → Int} {s : Nat} (hs : s < 1000) : SI S s (u2 (u2 (ur Y 1 (fillF Y 1 (-1) 1000)) 1 s 0) 2 0 (s : Int)) 1 0 := by
  have p1 : ∀ x, (u2 (u2 (ur Y 1 (fillF Y 1 (-1) 1000)) 1 s 0) 2 0 (s : Int)) 1 x = if x = s then 0 else if x < 1000 then -1 else Y 1 x := fun x => rfl
  have p2 : (u2 (u2 (ur Y 1 (fillF Y 1 (-1) 1000)) 1 s 0) 2 0 (s : Int)) 2 0 = (s : Int) := rfl
  generalize (u2 (u2 (ur Y 1 (fillF Y 1 (-1) 1000)) 1 s 0) 2 0 (s : Int)) = Y9 at p1 p2
  have hs0 : Y9 1 s = 0 := by rw [p1, if_pos rfl]
  refine ⟨⟨by omega, hs, hs0, fun j hj => ⟨s, 0, ?_, hs, hs0, rfl⟩, fun x hx => ?_, ?_⟩, ⟨fun j l hjl hl => ?_, fun _ l hl => ?_⟩, fun j hj => absurd hj (Nat.not_lt_zero j), by omega, fun j hj => ?_⟩
  · obtain rfl : j = 0 := by omega
    exact p2
  · by_cases e : x = s
    · exact Or.inr ⟨0, by omega, by rw [e]; exact p2⟩
    · exact Or.inl (by rw [p1, if_neg e, if_pos hx])
  · have hz : cnt (fun _ => false) 1000 = 0 := by decide +kernel
    have e1 : cnt (fun x => decide (¬ Y9 1 x = -1)) 1000 = cnt (fun x => decide (x = s)) 1000 := cnt_congr _ _ _ (fun t ht => by
      rw [p1]
      by_cases e : t = s
      · simp [e]
      · simp [e, ht])
    rw [e1, cnt_up (p := fun _ => false) hs rfl (by simp) (fun y hy => by simp [hy]), hz]; rfl
  · obtain rfl : j = l := by omega
    exact Int.le_refl _
  · obtain rfl : l = 0 := by omega
    omega
  · obtain rfl : j = 0 := by omega
    rw [p2]; simp only [Int.toNat_natCast]; rw [hs0]; omega
theorem SI.new {S : Nat → Nat → Int} {s fd i t n' : Nat} {Y : Nat → Nat → Int} (h : SI S s Y fd i) (hi : i < fd) (ht : (t : Int) < S 0 8) (hM : PT S Y i t) (he : stp S (Y 2 i).toNat t = (n' : Int)) (hp : Y 1 n' = -1) : SI S s (u2 (u2 Y 1 n' (Y 1 (Y 2 i).toNat + 1)) 2 fd (n' : Int)) (fd + 1) i ∧ PT S (u2 (u2 Y 1 n' (Y 1 (Y 2 i).toNat + 1)) 2 fd (n' : Int)) i (t + 1) := by
  obtain ⟨hV, hO, hC, hle, hb9⟩ := h
  have hE : Ed S (Y 2 i).toNat n' := ⟨t, ht, he⟩
  have hn' := Ed_lt hE
  have hne : ∀ j, j < fd → ¬ (Y 2 j).toNat = n' := fun j hj z => by have := (hV.at hj).2.2.1; rw [z, hp] at this; omega
  have hQ : ∀ j, j < fd → (if j = fd then (n' : Int) else Y 2 j) = Y 2 j := fun j hj => if_neg (by omega)
  refine ⟨⟨hV.new hi hn' hp hE, BO.new hV hO hi hp, ?_, by omega, ?_⟩, ?_⟩
  · intro j hj x hx
    have hx' : Ed S (Y 2 j).toNat x := by
      have hx2 : Ed S (if j = fd then (n' : Int) else Y 2 j).toNat x := hx
      rwa [hQ j (by omega)] at hx2
    have := hC j hj x hx'
    have hxn : ¬ x = n' := fun z => by rw [z, hp] at this; omega
    show 0 ≤ (if x = n' then Y 1 (Y 2 i).toNat + 1 else Y 1 x) ∧ (if x = n' then Y 1 (Y 2 i).toNat + 1 else Y 1 x) ≤ (if (if j = fd then (n' : Int) else Y 2 j).toNat = n' then Y 1 (Y 2 i).toNat + 1 else Y 1 (if j = fd then (n' : Int) else Y 2 j).toNat) + 1
    rw [hQ j (by omega), if_neg hxn, if_neg (hne j (by omega))]
    exact this
  · intro j hj
    show (if (if j = fd then (n' : Int) else Y 2 j).toNat = n' then Y 1 (Y 2 i).toNat + 1 else Y 1 (if j = fd then (n' : Int) else Y 2 j).toNat) ≤ (j : Int)
    by_cases z : j = fd
    · rw [if_pos z, Int.toNat_natCast, if_pos rfl]
      have := hb9 i hi
      omega
    · rw [if_neg z, if_neg (hne j (by omega))]
      exact hb9 j (by omega)
  · intro t' x ht' hx
    have hx' : stp S (Y 2 i).toNat t' = (x : Int) := by
      have hx2 : stp S (if i = fd then (n' : Int) else Y 2 i).toNat t' = (x : Int) := hx
      rwa [hQ i hi] at hx2
    show 0 ≤ (if x = n' then Y 1 (Y 2 i).toNat + 1 else Y 1 x) ∧ (if x = n' then Y 1 (Y 2 i).toNat + 1 else Y 1 x) ≤ (if (if i = fd then (n' : Int) else Y 2 i).toNat = n' then Y 1 (Y 2 i).toNat + 1 else Y 1 (if i = fd then (n' : Int) else Y 2 i).toNat) + 1
    rw [hQ i hi, if_neg (hne i hi)]
    have hb := (hV.at hi).2.2.1
    by_cases z : x = n'
    · rw [if_pos z]; omega
    · rw [if_neg z]
      by_cases w : t' = t
      · subst w; exact absurd (by omega) z
      · exact hM t' x (by omega) hx'
theorem PT.skip {S : Nat → Nat → Int} {i t : Nat} {Y : Nat → Nat → Int} (hM : PT S Y i t) (hn : stp S (Y 2 i).toNat t < 0) : PT S Y i (t + 1) := by
  intro t' x ht' hx
  by_cases w : t' = t
  · subst w; omega
  · exact hM t' x (by omega) hx
theorem PT.old {S : Nat → Nat → Int} {s fd i t n' : Nat} {Y : Nat → Nat → Int} (h : SI S s Y fd i) (hi : i < fd) (ht : (t : Int) < S 0 8) (hM : PT S Y i t) (he : stp S (Y 2 i).toNat t = (n' : Int)) (hp : ¬ Y 1 n' = -1) : PT S Y i (t + 1) := by
  obtain ⟨hV, hO, hC, hle, hb9⟩ := h
  have hE : Ed S (Y 2 i).toNat n' := ⟨t, ht, he⟩
  have hn' := Ed_lt hE
  intro t' x ht' hx
  by_cases w : t' = t
  · subst w
    have hxe : x = n' := by omega
    subst hxe
    refine ⟨hV.nn hn' hp, ?_⟩
    rcases hV.2.2.2.2.1 x hn' with q | ⟨j, hj, hq⟩
    · exact absurd q hp
    · have := hO.2 hi j hj
      rw [hq] at this
      simpa using this
  · exact hM t' x (by omega) hx
theorem SI.next {S : Nat → Nat → Int} {s fd i t : Nat} {Y : Nat → Nat → Int} (h : SI S s Y fd i) (hi : i < fd) (ht : S 0 8 ≤ (t : Int)) (hM : PT S Y i t) : SI S s Y fd (i + 1) := by
  obtain ⟨hV, hO, hC, hle, hb9⟩ := h
  refine ⟨hV, hO.next, ?_, by omega, hb9⟩
  intro j hj x hx
  by_cases z : j = i
  · subst z
    obtain ⟨t', ht', hst⟩ := hx
    exact hM t' x (by omega) hst
  · exact hC j (by omega) x hx
theorem Fst_none {S : Nat → Nat → Int} {s : Nat} {d0 : Int} (hF : FewP S s d0) {t : Nat} (ht : S 0 8 ≤ (t : Int) ∨ d0 ≤ 0) (h : ∀ i, i < t → ¬ FO S s 0 d0.toNat i) : FstP S s (-1) := by
  refine Or.inl ⟨rfl, fun d hd => ?_⟩
  rcases hF with ⟨rfl, q⟩ | ⟨e, rfl, he⟩
  · exact absurd hd.1 (q d)
  · have := hd.uniq he
    subst this
    rcases Nat.eq_zero_or_pos d with z | z
    · exact z
    · exfalso
      obtain ⟨p, hp1, hp2⟩ := Rk_uncons (k := d - 1) (by rw [show d - 1 + 1 = d by omega]; exact hd.1)
      obtain ⟨t', ht', hst⟩ := hp1
      exact h t' (by omega) ⟨ht', p, hst, by simpa using hp2⟩
theorem Fst_no {S : Nat → Nat → Int} {s n t : Nat} {d0 v : Int} (hF : FewP S s d0) (hd : 0 < d0) {P Q : Nat → Int} {fd : Nat} (hv : stp S s t = v) (hn : v = (n : Int)) (hV : BV S n P Q fd) (hC : BC S P Q fd) (ht : (t : Int) < S 0 8) (hx : ¬ P 0 = d0 - 1) : ¬ FO S s 0 d0.toNat t := by
  intro ⟨_, p, hp, hr⟩
  have hpn : p = n := by omega
  subst hpn
  rcases hF with ⟨rfl, q⟩ | ⟨d, rfl, hD⟩
  · omega
  · simp only [Int.toNat_natCast] at hr
    rcases B_dst hV hC (n := 0) (by decide) with w | ⟨e, he, hE⟩
    · exact w.2 _ hr
    · have h1 : ¬ d - 1 < e := fun z => hE.2 _ z hr
      have h2 : ¬ e + 1 < d := fun z => hD.2 _ z (Rk_cons ⟨t, ht, hp⟩ hE.1)
      omega
theorem Fst_no0 {S : Nat → Nat → Int} {s t d : Nat} {v : Int} (hv : stp S s t = v) (h0 : v < 0) : ¬ FO S s 0 d t := fun ⟨_, p, hp, _⟩ => by omega
theorem Fst_yes {S : Nat → Nat → Int} {s n t : Nat} {d0 v : Int} (hF : FewP S s d0) (hd : 0 < d0) {P Q : Nat → Int} {fd : Nat} (hv : stp S s t = v) (hn : v = (n : Int)) (hV : BV S n P Q fd) (hC : BC S P Q fd) (ht : (t : Int) < S 0 8) (hx : P 0 = d0 - 1) (h : ∀ i, i < t → ¬ FO S s 0 d0.toNat i) : FstP S s (t : Int) := by
  rcases hF with ⟨rfl, q⟩ | ⟨d, rfl, hD⟩
  · omega
  · simp only [Int.toNat_natCast] at h
    refine Or.inr ⟨d, t, rfl, by omega, hD, ⟨ht, n, by omega, ?_⟩, h⟩
    rcases B_dst hV hC (n := 0) (by decide) with w | ⟨e, he, hE⟩
    · omega
    · rw [show d - 1 = e by omega]; exact hE.1
theorem Lea_end9 {S : Nat → Nat → Int} {s fd : Nat} {P Q : Nat → Int} (hV : BV S s P Q fd) (hC : BC S P Q fd) {m : Nat} (hm : m < 3) {le : Int} (h1 : le = 9 ∨ ∃ k n, Rk S s k n ∧ dig n m = le) (h2 : ∀ j, j < fd → le ≤ dig (Q j).toNat m) : LeaP S s m le := by
  refine Lea_end hV hC ?_ h2
  rcases h1 with rfl | h1
  · have h0 : 0 < fd := hV.1
    have h3 := h2 0 h0
    have h4 := dig_D9 (Q 0).toNat m hm
    exact ⟨_, _, (hV.at h0).2.2.2, by omega⟩
  · exact h1
theorem Lea_min9 {S : Nat → Nat → Int} {s m : Nat} {le x : Int} {n k : Nat} (h : le = 9 ∨ ∃ k n, Rk S s k n ∧ dig n m = le) (h9 : x ≤ 9) (hr : Rk S s k n) (hx : x = dig n m) : min le x = 9 ∨ ∃ k n, Rk S s k n ∧ dig n m = min le x := by
  rcases h with rfl | h
  · exact Or.inr ⟨k, n, hr, by omega⟩
  · exact Or.inr (Lea_min h hr hx)
def tl7 (S : Nat → Nat → Int) (i : Nat) : Int := if i = 6 then S 0 6 else if i = 5 then S 0 5 else if i = 4 then S 0 4 else if i = 3 then S 0 3 else if i = 2 then S 0 2 else if i = 1 then S 0 1 else if i = 0 then S 0 0 else 0
theorem stp_no {S : Nat → Nat → Int} {n t : Nat} (h : ¬ S 8 t = 0) : stp S n t < 0 := by unfold stp; rw [if_neg h]; decide
theorem stp_yes {S : Nat → Nat → Int} {n t : Nat} {a : Int} (h : S 8 t = 0) (e : a = behF S (dig n) t) : stp S n t = a := by unfold stp; rw [if_pos h, e]
theorem tl7_7 (S : Nat → Nat → Int) (d : Int64) : dgF d (tl7 S) 7 = dg (dg (dg (dg (dg (dg (dg d (S 0 0)) (S 0 1)) (S 0 2)) (S 0 3)) (S 0 4)) (S 0 5)) (S 0 6) := by
  show dgF d (tl7 S) (0 + 1 + 1 + 1 + 1 + 1 + 1 + 1) = _
  rw [dgF_s, dgF_s, dgF_s, dgF_s, dgF_s, dgF_s, dgF_s]
  rfl
