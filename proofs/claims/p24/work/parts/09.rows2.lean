/-! ===== more rows: a new row of ints, a world's tail let go, truth values ===== -/
theorem vz_n {a : Int} (h : 0 ≤ a ∧ a ≤ 1) : narrow .boolean (.int (iI a)) = .int (iI a) := by
  obtain rfl | rfl : a = 0 ∨ a = 1 := by omega
  all_goals decide
theorem vz_f {a : Int} (h : 0 ≤ a ∧ a ≤ 1) : fits .boolean (.int (iI a)) = true := by
  obtain rfl | rfl : a = 0 ∨ a = 1 := by omega
  all_goals decide
theorem or_0 {a : Int} (h : 0 ≤ a ∧ a ≤ 1) : iI a ||| iI 0 = iI a := by
  obtain rfl | rfl : a = 0 ∨ a = 1 := by omega
  all_goals decide
theorem and_1 {a : Int} (h : 0 ≤ a ∧ a ≤ 1) : iI a &&& iI 1 = iI a := by
  obtain rfl | rfl : a = 0 ∨ a = 1 := by omega
  all_goals decide
theorem and_00 {a : Int} : iI a &&& iI 0 = iI 0 := by
  show iI a &&& 0 = 0
  simp
section VRows2
variable {X : vX} {l : Launch} {k : Nat → ClassId} {y : MethodName} {cc : ByteArray} {nL : Nat} {Ts : List Cond} {rm : Room} {w w1 w2 : va_W} {c n : Nat} {pc q : Nat} {lv : List (Nat × Value)} {st : List Value}
theorem v_drop (kk : V X w1 c n pc lv st) : V X (w1 ++ w2) c n pc lv st := fun H locs ls hP hD hS hl => kk H locs ls (v_splP hP).1 (v_splD hD).1 hS hl
theorem v_steq {st9 : List Value} (h : st = st9) (kk : V X w c n pc lv st9) : V X w c n pc lv st := h ▸ kk
theorem v_newi (F : v_F X l k y cc nL Ts rm) {N : Nat} (hN : N ≤ 1000) (harr : Cond.arrayClass .int ∈ Ts) (hc : c + 1 ≤ rm.cells) (hs : n + N ≤ rm.slots) (d : decode cc pc = .ok (.newarray .int, 2)) (hq : pc + 2 = q) (kk : ∀ q9 : Nat, V X (w ++ [(q9, aI k N (fun _ => 0))]) (c + 1) (n + N) q lv (.ref q9 :: st)) : V X w c n pc lv (VI (N : Int) :: st) := by
  obtain ⟨⟨p, l, e, R, s⟩, ⟨m, args, below, meth, c0⟩, ⟨Q, D, A⟩⟩ := X
  obtain ⟨hx, hb, hml, hown, hts, hK, hA, hR, hlk, hll, hst, hZ, hnm⟩ := F
  intro H locs ls hP hD hS hl
  subst hq
  have hR' : R = rm := hR
  subst hR'
  have zn : ¬ iI (N : Int) < 0 := by rw [iI_0, iI_lt (by omega) R32_0]; omega
  refine va_newa (atype := .int) (ty := .int) (a0 := (N, .inl (fun _ => iI 0))) hx hb (hts _ harr) rfl hK hP hD hS hA (fun _ => rfl) zn (iI_clamp (by omega)) (by show N * 4 ≤ 536870912; omega) hc hs d (fun q9 cA H1 hK1 hP1 hD1 hS1 => ?_)
  have e1 : s.vm.findClass ("[" ++ (FieldType.int).toString) = some cA := (hK1.2 4 (cA, .int) rfl).2
  have e2 : s.vm.findClass ("[" ++ (FieldType.int).toString) = some (k 0) := (hK.2 0 (k 0, .int) rfl).2
  have e3 : cA = k 0 := Option.some.inj (e1.symm.trans e2)
  subst e3
  exact kk q9 H1 locs ls hP1 hD1 hS1 hl
end VRows2
theorem mw_tail {k : Nat → ClassId} {g : Nat → Nat} {S Y : Nat → Nat → Int} {q9 N : Nat} (f : Nat → Int) (j : Nat) (v : Int) : (mw k g S Y ++ [(q9, aI k N f)]).set 11 (q9, .inl (k 0, N, .inl (upd (fun i => iI (f i)) j (iI v)))) = mw k g S Y ++ [(q9, aI k N (fun i => if i = j then v else f i))] := by
  rw [upd_iI]; rfl
theorem mw_tail_at {k : Nat → ClassId} {g : Nat → Nat} {S Y : Nat → Nat → Int} {q9 N : Nat} (f : Nat → Int) : (mw k g S Y ++ [(q9, aI k N f)])[11]? = some (q9, aI k N f) := rfl
theorem mw_lean1 {k : Nat → ClassId} {g : Nat → Nat} {S Y : Nat → Nat → Int} (j : Nat) (x v : Int) (e : codeF (u2 S 4 j x 4) = v) : (mw k g S Y).set 0 (g 0, .inr (6, (cMod g S Y).set 13 (VI v))) = mw k g (u2 S 4 j x) Y := by
  subst e; rfl
theorem beh_ge {S : Nat → Nat → Int} {f : Nat → Int} {t : Nat} (h : 0 ≤ behF S f t) : behF S f t = codeF (raiseF S (S 5 t).toNat f) ∧ ¬ heldB S (S 5 t) = true ∧ ¬ f (S 5 t).toNat = 0 := by
  unfold behF at h ⊢
  by_cases e : heldB S (S 5 t) = true ∨ f (S 5 t).toNat = 0
  · rw [if_pos e] at h; omega
  · rw [if_neg e] at h ⊢
    by_cases e2 : strongB S t = true
    · rw [if_pos e2] at h; omega
    · rw [if_neg e2] at h ⊢
      by_cases e3 : S 0 9 = 1 ∧ fitsB S (raiseF S (S 5 t).toNat f) = false
      · rw [if_pos e3] at h; omega
      · rw [if_neg e3]; exact ⟨rfl, fun q => e (Or.inl q), fun q => e (Or.inr q)⟩
theorem beh_hin (S : Nat → Nat → Int) (t : Nat) (hc : 0 ≤ codeF (raiseF S (S 5 t).toNat (S 4)) ∨ S 4 (S 5 t).toNat = 0) : (behF S (S 4) t < 0 → hinF S t = behF S (S 4) t) ∧ (0 ≤ behF S (S 4) t → hinF S t = 0) := by
  unfold behF hinF
  by_cases e : heldB S (S 5 t) = true ∨ S 4 (S 5 t).toNat = 0
  · rw [if_pos e, if_pos e]; omega
  · rw [if_neg e, if_neg e]
    by_cases e2 : strongB S t = true
    · rw [if_pos e2, if_pos e2]; omega
    · rw [if_neg e2, if_neg e2]
      by_cases e3 : S 0 9 = 1 ∧ fitsB S (raiseF S (S 5 t).toNat (S 4)) = false
      · rw [if_pos e3, if_pos e3]; omega
      · rw [if_neg e3, if_neg e3]
        have : 0 ≤ codeF (raiseF S (S 5 t).toNat (S 4)) := hc.elim id (fun q => absurd (Or.inr q) e)
        omega
theorem beh_bd {S : Nat → Nat → Int} {f : Nat → Int} (hf : D9 f) (t : Nat) : -3 ≤ behF S f t ∧ behF S f t ≤ 999 := by
  unfold behF
  by_cases e : heldB S (S 5 t) = true ∨ f (S 5 t).toNat = 0
  · rw [if_pos e]; omega
  · rw [if_neg e]
    have := code_bd (raise_bd (S := S) hf (fun q => e (Or.inr q)))
    split
    · omega
    · split <;> omega
theorem plc_all (S : Nat → Nat → Int) (p : Int) {m : Nat} (hm : (m : Int) = S 0 7) : plcB S p = false ↔ ∀ j : Nat, j < m → ¬ S 1 j = p := by
  have h := plc_iff S p
  constructor
  · intro e j hj hs
    have := h.mpr ⟨j, by omega, hs⟩
    rw [e] at this
    cases this
  · intro e
    cases hq : plcB S p with
    | false => rfl
    | true =>
      obtain ⟨j, h1, h2⟩ := h.mp hq
      exact absurd h2 (e j (by omega))
theorem mast8 {a : Int} (h : 0 ≤ a ∧ a ≤ 7) : a = 0 ∨ a = 1 ∨ a = 2 ∨ a = 3 ∨ a = 4 ∨ a = 5 ∨ a = 6 ∨ a = 7 := by omega
theorem rs_add {S : Nat → Nat → Int} {m : Nat} {f : Nat → Int} {i : Nat} (hi : i < 3) (hne : ¬ i = m) (hl : lowB S m i = true) (hf : f i < 9) : codeF (rsI S m f (i + 1)) = codeF (rsI S m f i) + unitN i := by
  have := code_add (f := rsI S m f i) (g := rsI S m f (i + 1)) hi 1 (fun o _ => by
    unfold rsI
    by_cases e : o = i
    · subst e; simp [hne, hl, hf]
    · by_cases q : o = m
      · simp [q, show ¬ m = i from fun z => hne z.symm]
      · rw [if_neg e, if_neg q, if_neg q]
        have : (o < i + 1) ↔ (o < i) := by omega
        simp [this])
  omega
theorem rs_no {S : Nat → Nat → Int} {m : Nat} {f : Nat → Int} {i : Nat} (h : i = m ∨ ¬ lowB S m i = true ∨ ¬ f i < 9) (o : Nat) : rsI S m f (i + 1) o = rsI S m f i o := by
  unfold rsI
  by_cases q : o = m
  · rw [if_pos q, if_pos q]
  · rw [if_neg q, if_neg q]
    by_cases e : o = i
    · subst e
      rw [if_neg (fun z => by rcases h with h | h | h; exact q h; exact h z.2.1; exact h z.2.2), if_neg (fun z => by omega)]
    · have : (o < i + 1) ↔ (o < i) := by omega
      simp [this]
theorem rs_0 {S : Nat → Nat → Int} {m : Nat} {f : Nat → Int} (hm : m < 3) : codeF (rsI S m f 0) = codeF f - unitN m := by
  have := code_add (f := f) (g := rsI S m f 0) hm (-1) (fun o _ => by
    unfold rsI
    by_cases q : o = m
    · subst q; simp; omega
    · simp [q])
  omega
theorem low_of {S : Nat → Nat → Int} {m o : Int} (h1 : leadB S m o = true) (h2 : ¬ heldB S o = true) : lowB S m o = true := by
  unfold lowB; rw [h1]; simp; cases hq : heldB S o with | false => rfl | true => exact absurd hq h2
theorem low_no1 {S : Nat → Nat → Int} {m o : Int} (h : ¬ leadB S m o = true) : ¬ lowB S m o = true := by
  unfold lowB; simp [h]
theorem low_no2 {S : Nat → Nat → Int} {m o : Int} (h : heldB S o = true) : ¬ lowB S m o = true := by
  unfold lowB; simp [h]
