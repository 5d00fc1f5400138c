/-! ===== the law's walk: its script, its three parts side by side ===== -/
def xv (xs : Nat → Int32) (j : Nat) : Int := (xs j).toInt
theorem xv_R (xs : Nat → Int32) (j : Nat) : R32 (xv xs j) := R32_of _
section VLaw
variable {X : vX} {l : Launch} {k : Nat → ClassId} {y : MethodName} {cc : ByteArray} {nL : Nat} {Ts : List Cond} {rm : Room} {w w1 w2 : va_W} {c n : Nat} {pc q : Nat} {lv : List (Nat × Value)} {st rest : List Value}
theorem v_sld (F : v_F X l k y cc nL Ts rm) {b L j : Nat} {xs : Nat → Int32} {x : Int} (hX : va_X b L xs X.1.2.2.2.2 X.1.2.2.2.2.heap) (hbl : b < X.1.2.2.2.2.heap.size) (hbA : ¬ X.2.2.2.2 b) (hL : L ≤ 2560) (hx2 : x = (j : Int)) (hj : j < L) (d : decode cc pc = .ok (.iaload, 1)) (hq : pc + 1 = q) (kk : V X w c n q lv (VI (xv xs j) :: st)) : V X w c n pc lv (VI x :: .ref b :: st) := by
  obtain ⟨⟨p, l, e, R, s⟩, ⟨m, args, below, meth, c0⟩, ⟨Q, D, A⟩⟩ := X
  obtain ⟨hx, hb, hml, hown, hts, hK, hA, hR, hlk, hll, hst, hZ, hnm⟩ := F
  intro H locs ls hP hD hS hl
  subst hq; subst hx2
  refine va_sld hx hb hX hbl hbA hS (iI_in hj (by omega)) d ?_
  rw [iI_clamp (by omega)]
  have e9 : VI (xv xs j) = .int (xs j) := by show Value.int (iI (xs j).toInt) = _; rw [iI_of]
  rw [← e9]
  exact kk H locs ls hP hD hS hl
theorem v_slen (F : v_F X l k y cc nL Ts rm) {b L : Nat} {xs : Nat → Int32} (hX : va_X b L xs X.1.2.2.2.2 X.1.2.2.2.2.heap) (hbl : b < X.1.2.2.2.2.heap.size) (hbA : ¬ X.2.2.2.2 b) (d : decode cc pc = .ok (.arraylength, 1)) (hq : pc + 1 = q) (kk : V X w c n q lv (VI (L : Int) :: st)) : V X w c n pc lv (.ref b :: st) := by
  obtain ⟨⟨p, l, e, R, s⟩, ⟨m, args, below, meth, c0⟩, ⟨Q, D, A⟩⟩ := X
  obtain ⟨hx, hb, hml, hown, hts, hK, hA, hR, hlk, hll, hst, hZ, hnm⟩ := F
  intro H locs ls hP hD hS hl
  subst hq
  refine va_slen hx hb hX hbl hbA hS d ?_
  have e9 : VI (L : Int) = .int (Int32.ofNat L) := by show Value.int (iI (L : Int)) = _; rw [iI_nat]; rfl
  rw [← e9]
  exact kk H locs ls hP hD hS hl
theorem v_icmp_same (F : v_F X l k y cc nL Ts rm) {a off : Int} {tgt : Nat} (d : decode cc pc = .ok (.if_icmp .eq off, 3)) (ht : (pc : Int) + off = (tgt : Int)) (kt : V X w c n tgt lv st) : V X w c n pc lv (VI a :: VI a :: st) := by
  obtain ⟨⟨p, l, e, R, s⟩, ⟨m, args, below, meth, c0⟩, ⟨Q, D, A⟩⟩ := X
  obtain ⟨hx, hb, hml, hown, hts, hK, hA, hR, hlk, hll, hst, hZ, hnm⟩ := F
  intro H locs ls hP hD hS hl
  exact lv_icmp_eq hx hb d ht (fun h => kt H locs ls hP hD hS hl) (fun h => absurd rfl h)
theorem lg_self (a : Int64) : lg_cmp a a = iI 0 := by
  unfold lg_cmp
  simp
  try decide
theorem v_lcmp0 (F : v_F X l k y cc nL Ts rm) {a b : Int64} (h : a = b) (d : decode cc pc = .ok (.lcmp, 1)) (hq : pc + 1 = q) (kk : V X w c n q lv (VI 0 :: st)) : V X w c n pc lv (.long b :: .long a :: st) := by
  subst h
  exact v_lcmp F d (lg_self a) hq kk
theorem v_ar1 {a b e : va_W} (kk : V X ((a ++ e) ++ b) c n pc lv st) : V X (a ++ (b ++ e)) c n pc lv st := v_perm (by rw [List.append_assoc]; exact List.Perm.append_left a List.perm_append_comm) kk
theorem v_ar2 {a b e : va_W} (kk : V X (a ++ (b ++ e)) c n pc lv st) : V X ((a ++ e) ++ b) c n pc lv st := v_perm (by rw [List.append_assoc]; exact List.Perm.append_left a List.perm_append_comm) kk
theorem v_newl (F : v_F X l k y cc nL Ts rm) (harr : Cond.arrayClass .long ∈ Ts) (hc : c + 1 ≤ rm.cells) (hs : n + 1 ≤ rm.slots) (d : decode cc pc = .ok (.newarray .long, 2)) (hq : pc + 2 = q) (kk : ∀ q9 : Nat, V X (w ++ [(q9, oE k (fun _ => 0))]) (c + 1) (n + 1) q lv (.ref q9 :: st)) : V X w c n pc lv (VI 1 :: st) := by
  obtain ⟨⟨p, l, e, R, s⟩, ⟨m, args, below, meth, c0⟩, ⟨Q, D, A⟩⟩ := X
  obtain ⟨hx, hb, hml, hown, hts, hK, hA, hR, hlk, hll, hst, hZ, hnm⟩ := F
  intro H locs ls hP hD hS hl
  subst hq
  have hR' : R = rm := hR
  subst hR'
  refine va_newa (atype := .long) (ty := .long) (a0 := (1, .inr (.inl (fun _ => 0)))) (N' := 1) hx hb (hts _ harr) rfl hK hP hD hS hA (fun _ => rfl) (by decide) (by decide) (by decide) hc hs d (fun q9 cA H1 hK1 hP1 hD1 hS1 => ?_)
  have e1 : s.vm.findClass ("[" ++ (FieldType.long).toString) = some cA := (hK1.2 4 (cA, .long) rfl).2
  have e2 : s.vm.findClass ("[" ++ (FieldType.long).toString) = some (k 3) := (hK.2 3 (k 3, .long) rfl).2
  have e3 : cA = k 3 := Option.some.inj (e1.symm.trans e2)
  subst e3
  exact kk q9 H1 locs ls hP1 hD1 hS1 hl
end VLaw
theorem vB_uniq {P : Prop} {a b : Int} (h1 : vB P a) (h2 : vB P b) : a = b := by
  rcases h1 with ⟨rfl, h1⟩ | ⟨rfl, h1⟩ <;> rcases h2 with ⟨rfl, h2⟩ | ⟨rfl, h2⟩
  · rfl
  · exact absurd h1 h2
  · exact absurd h2 h1
  · rfl
/-- a number of five bits -/
theorem and31 (a : Int32) : 0 ≤ (a &&& 31).toInt ∧ (a &&& 31).toInt ≤ 31 := by
  have h : a &&& 31 = Int32.ofBitVec (a.toBitVec &&& 31#32) := rfl
  have h2 : (a.toBitVec &&& 31#32).toNat ≤ 31 := by rw [BitVec.toNat_and]; exact Nat.and_le_right
  have h3 : (a &&& 31).toInt = (a.toBitVec &&& 31#32).toInt := rfl
  rw [h3, BitVec.toInt_eq_toNat_of_lt (by omega)]
  omega
