/-! ===== numbers: an int of the machine by the integer that it stands for ===== -/
def iI (a : Int) : Int32 := Int32.ofInt a
abbrev VI (a : Int) : Value := .int (iI a)
abbrev R32 (a : Int) : Prop := -2147483648 ≤ a ∧ a < 2147483648
theorem iI_add (a b : Int) : iI a + iI b = iI (a + b) := (Int32.ofInt_add a b).symm
theorem iI_sub (a b : Int) : iI a - iI b = iI (a - b) := (Int32.ofInt_sub a b).symm
theorem iI_mul (a b : Int) : iI a * iI b = iI (a * b) := (Int32.ofInt_mul a b).symm
theorem iI_toInt {a : Int} (h : R32 a) : (iI a).toInt = a := Int32.toInt_ofInt_of_le (by have := h.1; omega) (by have := h.2; omega)
theorem iI_of (x : Int32) : iI x.toInt = x := Int32.ofInt_toInt x
theorem R32_of (x : Int32) : R32 x.toInt := ⟨by have := Int32.le_toInt x; omega, by have := Int32.toInt_lt x; omega⟩
theorem iI_ex (x : Int32) : ∃ a : Int, x = iI a ∧ R32 a := ⟨x.toInt, (iI_of x).symm, R32_of x⟩
theorem iI_lt {a b : Int} (ha : R32 a) (hb : R32 b) : iI a < iI b ↔ a < b := by rw [Int32.lt_iff_toInt_lt, iI_toInt ha, iI_toInt hb]
theorem iI_le {a b : Int} (ha : R32 a) (hb : R32 b) : iI a ≤ iI b ↔ a ≤ b := by rw [Int32.le_iff_toInt_le, iI_toInt ha, iI_toInt hb]
theorem iI_eq {a b : Int} (ha : R32 a) (hb : R32 b) : iI a = iI b ↔ a = b := by rw [← Int32.toInt_inj, iI_toInt ha, iI_toInt hb]
theorem iI_0 : (0 : Int32) = iI 0 := by decide
theorem R32_0 : R32 0 := by decide
theorem iI_div {a b : Int} (ha : 0 ≤ a ∧ a < 2147483648) (hb : 0 < b ∧ b < 2147483648) : iI a / iI b = iI (a / b) := by
  have h1 : 0 ≤ a / b := Int.ediv_nonneg ha.1 (by omega)
  have h2 : a / b ≤ a := Int.ediv_le_self b ha.1
  refine Int32.toInt_inj.1 ?_
  rw [Int32.toInt_div_of_ne_right _ _ (fun h => ?_), iI_toInt (by omega), iI_toInt (by omega), iI_toInt (by omega), Int.tdiv_eq_ediv_of_nonneg ha.1]
  have h3 := congrArg Int32.toInt h
  rw [iI_toInt (by omega)] at h3
  have h4 : ((-1 : Int32)).toInt = -1 := by decide
  omega
theorem iI_rem {a b : Int} (ha : 0 ≤ a ∧ a < 2147483648) (hb : 0 < b ∧ b < 2147483648) : iI a - iI a / iI b * iI b = iI (a % b) := by
  rw [iI_div ha hb, iI_mul, iI_sub, Int.emod_def, Int.mul_comm b]
theorem iI_nat (j : Nat) : iI (j : Int) = nI j := by unfold iI nI; exact Int32.ofInt_eq_ofNat
theorem iI_in {j n : Nat} (h : j < n) (hn : n < 2147483648) : vp_in (iI (j : Int)) n := by rw [iI_nat]; exact vp_in_nI h (by omega)
theorem iI_clamp {j : Nat} (h : j < 2147483648) : (iI (j : Int)).toNatClampNeg = j := by rw [iI_nat]; exact nI_clamp (by omega)
theorem iI_max {a b : Int} (ha : R32 a) (hb : R32 b) : (if iI a < iI b then iI b else iI a) = iI (max a b) := by
  by_cases h : a < b
  · rw [if_pos ((iI_lt ha hb).mpr h)]; congr 1; omega
  · rw [if_neg (fun q => h ((iI_lt ha hb).mp q))]; congr 1; omega
theorem iI_min {a b : Int} (ha : R32 a) (hb : R32 b) : (if iI b < iI a then iI b else iI a) = iI (min a b) := by
  by_cases h : b < a
  · rw [if_pos ((iI_lt hb ha).mpr h)]; congr 1; omega
  · rw [if_neg (fun q => h ((iI_lt hb ha).mp q))]; congr 1; omega
/-! ===== the walk, its heap and its fixed things held back ===== -/
abbrev vX : Type := (Program × Launch × Env × Room × State) × (MethodId × Array Value × List Frame × Method × Code) × ((State → Prop) × va_G × (Nat → Prop))
def v_tys (k : Nat → ClassId) : List (ClassId × FieldType) := [(k 0, .int), (k 1, .object "BottleShip$Mast"), (k 2, .object "BottleShip$Cord"), (k 3, .int)]
/-! what throws lean on: two statics of Throwable, the messages' constants, words that aren't a method's own -/
def E_A : String := "java/lang/IllegalArgumentException"
def E_S : String := "java/lang/IllegalStateException"
def E_X : String := "java/lang/IndexOutOfBoundsException"
def v_nm : List String := ["java/lang/RuntimeException", "java/lang/Exception"]
def v_strs : List (Nat × String) := [(60, "no such bottle"), (71, "the ship is in the bottle"), (87, "no such hull"), (92, "a mast stands, or the ship is in the bottle"), (101, "no such place or height"), (107, "no mast can be stepped here now"), (118, "no such mast"), (121, "no such width"), (126, "no yard can be added now"), (131, "both are the same, or no such strength"), (136, "there are 8 threads"), (162, "no such thread"), (167, "the thread is not loose"), (196, "the thread is broken"), (214, "what is not 0 to 7"), (219, "what is not 0 to 4"), (232, "what is not 0 to 5"), (243, "hours are not 1 to 50")]
def v_ng : List Cond := (vx_atS RX5 62 E_A v_nm).filter (fun w => !goodWord w) ++ ((vx_atS RX5 73 E_S v_nm).filter (fun w => !goodWord w) ++ (vx_atS RX5 120 E_X v_nm).filter (fun w => !goodWord w))
def v_nc : List (String × String) := []
def v_dc (w : Cond) : Bool := match w with
  | .declares _ => true
  | .castable _ _ => true
  | _ => false
theorem v_ng_dc : ∀ w ∈ v_ng, v_dc w = true := by decide +kernel
theorem v_dcw {w : Cond} (h : v_dc w = true) {s U : State} (hW : s.WarmedH U.vm) (hz : va_Nw w s) : va_Nw w U := by
  cases w <;> first | exact va_Nw.warmD hW hz | exact va_Nw.warmC hW hz | exact Bool.noConfusion h
theorem v_dct {w : Cond} (h : v_dc w = true) : w.onTables = true := by
  cases w <;> first | rfl | exact Bool.noConfusion h
def v_T (U : State) : Prop := (∀ q ∈ v_strs, ∃ a : Nat, vk_R RX5 q.1 q.2 a U) ∧ (∀ w ∈ v_ng, va_Nw w U) ∧ (∀ q ∈ v_nc, va_Nc q.1 q.2 U)
theorem v_T.warm {s U : State} (hW : s.WarmedH U.vm) (h : v_T s) : v_T U := ⟨fun q hq => let ⟨a, ha⟩ := h.1 q hq; ⟨a, vk_R.warm hW ha⟩, fun w hw => v_dcw (v_ng_dc w hw) hW (h.2.1 w hw), fun q hq => (h.2.2 q hq).moved hW.alike⟩
theorem v_T.same {s U : State} (hv : U.vm = s.vm) (h : v_T s) : v_T U := ⟨fun q hq => let ⟨a, ha⟩ := h.1 q hq; ⟨a, vk_R.same hv ha⟩, fun w hw => va_Nw.same (v_dct (v_ng_dc w hw)) hv.symm (h.2.1 w hw), fun q hq => by have := h.2.2 q hq; unfold va_Nc at this ⊢; rw [hv]; exact this⟩
def v_Z (A : Nat → Prop) (U : State) (H : Heap) : Prop := vx_Zq Bundle.tN "UNASSIGNED_STACK" Bundle.steD A U H ∧ vx_Zq Bundle.tN "SUPPRESSED_SENTINEL" Bundle.listD A U H ∧ v_T U
def v_W (X : vX) (H : Heap) (locs : List Loc) (cells slots : Nat) (g : JFrame) : Prop := W X.1.1 X.1.2.1 X.1.2.2.1 X.1.2.2.2.1 X.1.2.2.2.2 X.2.1.1 X.2.1.2.1 X.2.1.2.2.1 X.2.1.2.2.2.1 X.2.1.2.2.2.2 H locs cells slots X.2.2.1 g
def V (X : vX) (w : va_W) (cells slots : Nat) (pc : Nat) (lv : List (Nat × Value)) (st : List Value) : Prop :=
  ∀ (H : Heap) (locs : List Loc) (ls : Array Slot), va_P X.2.2.2.1 vwCl w H → va_D X.2.2.2.2 w → va_S X.2.2.2.2 X.1.2.2.2.2.heap H locs → lv_has ls X.2.1.2.2.2.2.maxLocals lv → v_W X H locs cells slots (F0 X.2.1.1 pc ls st)
def v_F (X : vX) (l : Launch) (k : Nat → ClassId) (y : MethodName) (cc : ByteArray) (nL : Nat) (Ts : List Cond) (rm : Room) : Prop :=
  X.1.1.tables.exec = Jvm.exec ∧ X.2.1.2.2.2.2.code = cc ∧ X.2.1.2.2.2.2.maxLocals = nL ∧ X.1.2.2.2.2.vm.findClass y.cls = some X.2.1.1.cls ∧ (∀ w ∈ Ts, w.before X.2.1.2.1 X.1.2.2.2.2 = true) ∧ va_K X.2.2.2.1 vwCl (v_tys k) X.1.2.2.2.2 ∧ (∀ q, X.1.2.2.2.2.heap.size ≤ q → X.2.2.2.2 q) ∧ X.1.2.2.2.1 = rm ∧ X.2.1.2.2.2.1.locks = false ∧ X.1.2.1 = l ∧ l.stackTraces = false ∧ v_Z X.2.2.2.2 X.1.2.2.2.2 X.1.2.2.2.2.heap ∧ X.2.1.2.2.2.1.name = y.name
section VRows
variable {X : vX} {l : Launch} {k : Nat → ClassId} {y : MethodName} {cc : ByteArray} {nL : Nat} {Ts : List Cond} {rm : Room} {w w' : va_W} {c n : Nat} {pc q : Nat} {lv lv' : List (Nat × Value)} {st : List Value}
theorem v_const (F : v_F X l k y cc nL Ts rm) {i : Int} (d : decode cc pc = .ok (.iconst i, 1)) (hq : pc + 1 = q) (kk : V X w c n q lv (VI i :: st)) : V X w c n pc lv (st) := by
  obtain ⟨⟨p, l, e, R, s⟩, ⟨m, args, below, meth, c0⟩, ⟨Q, D, A⟩⟩ := X
  obtain ⟨hx, hb, hml, hown, hts, hK, hA, hR, hlk, hll, hst, hZ, hnm⟩ := F
  intro H locs ls hP hD hS hl
  subst hq; exact lv_iconst hx hb d rfl (kk H locs ls hP hD hS hl)
theorem v_bipush (F : v_F X l k y cc nL Ts rm) {i : Int} (d : decode cc pc = .ok (.bipush i, 2)) (hv : (Int8.ofInt i).toInt32 = iI i) (hq : pc + 2 = q) (kk : V X w c n q lv (VI i :: st)) : V X w c n pc lv (st) := by
  obtain ⟨⟨p, l, e, R, s⟩, ⟨m, args, below, meth, c0⟩, ⟨Q, D, A⟩⟩ := X
  obtain ⟨hx, hb, hml, hown, hts, hK, hA, hR, hlk, hll, hst, hZ, hnm⟩ := F
  intro H locs ls hP hD hS hl
  subst hq; exact lv_bipush hx hb d hv (kk H locs ls hP hD hS hl)
theorem v_sipush (F : v_F X l k y cc nL Ts rm) {i : Int} (d : decode cc pc = .ok (.sipush i, 3)) (hv : (Int16.ofInt i).toInt32 = iI i) (hq : pc + 3 = q) (kk : V X w c n q lv (VI i :: st)) : V X w c n pc lv (st) := by
  obtain ⟨⟨p, l, e, R, s⟩, ⟨m, args, below, meth, c0⟩, ⟨Q, D, A⟩⟩ := X
  obtain ⟨hx, hb, hml, hown, hts, hK, hA, hR, hlk, hll, hst, hZ, hnm⟩ := F
  intro H locs ls hP hD hS hl
  subst hq; exact lv_sipush hx hb d hv (kk H locs ls hP hD hS hl)
theorem v_lconst (F : v_F X l k y cc nL Ts rm) {i : Fin 2} {v : Int64} (d : decode cc pc = .ok (.lconst i, 1)) (hv : Int64.ofNat (i : Nat) = v) (hq : pc + 1 = q) (kk : V X w c n q lv (.long v :: st)) : V X w c n pc lv (st) := by
  obtain ⟨⟨p, l, e, R, s⟩, ⟨m, args, below, meth, c0⟩, ⟨Q, D, A⟩⟩ := X
  obtain ⟨hx, hb, hml, hown, hts, hK, hA, hR, hlk, hll, hst, hZ, hnm⟩ := F
  intro H locs ls hP hD hS hl
  subst hq; exact lv_lconst hx hb d hv (kk H locs ls hP hD hS hl)
theorem v_ldc2 (F : v_F X l k y cc nL Ts rm) {i : Nat} {v : Int64} (hc : Jvm.Cond.constantLong y.cls i v ∈ Ts) (d : decode cc pc = .ok (.ldc2_w i, 3)) (hq : pc + 3 = q) (kk : V X w c n q lv (.long v :: st)) : V X w c n pc lv (st) := by
  obtain ⟨⟨p, l, e, R, s⟩, ⟨m, args, below, meth, c0⟩, ⟨Q, D, A⟩⟩ := X
  obtain ⟨hx, hb, hml, hown, hts, hK, hA, hR, hlk, hll, hst, hZ, hnm⟩ := F
  intro H locs ls hP hD hS hl
  subst hq; exact lv_ldc2 hx hb hown (hts _ hc) d (kk H locs ls hP hD hS hl)
theorem v_iload_n (F : v_F X l k y cc nL Ts rm) {z : Fin 4} {i : Nat} {x : Int} (j : Nat) (d : decode cc pc = .ok (.iload_n z, 1)) (hi : (z : Nat) = i) (hj : lv[j]? = some (i, VI x)) (hq : pc + 1 = q) (kk : V X w c n q lv (VI x :: st)) : V X w c n pc lv (st) := by
  obtain ⟨⟨p, l, e, R, s⟩, ⟨m, args, below, meth, c0⟩, ⟨Q, D, A⟩⟩ := X
  obtain ⟨hx, hb, hml, hown, hts, hK, hA, hR, hlk, hll, hst, hZ, hnm⟩ := F
  intro H locs ls hP hD hS hl
  subst hq; exact lv_iload_n hx hb d hi (lv_at hl j hj) (kk H locs ls hP hD hS hl)
theorem v_iload (F : v_F X l k y cc nL Ts rm) {i : Nat} {x : Int} (j : Nat) (d : decode cc pc = .ok (.iload i, 2)) (hj : lv[j]? = some (i, VI x)) (hq : pc + 2 = q) (kk : V X w c n q lv (VI x :: st)) : V X w c n pc lv (st) := by
  obtain ⟨⟨p, l, e, R, s⟩, ⟨m, args, below, meth, c0⟩, ⟨Q, D, A⟩⟩ := X
  obtain ⟨hx, hb, hml, hown, hts, hK, hA, hR, hlk, hll, hst, hZ, hnm⟩ := F
  intro H locs ls hP hD hS hl
  subst hq; exact lv_iload hx hb d (lv_at hl j hj) (kk H locs ls hP hD hS hl)
theorem v_istore_n (F : v_F X l k y cc nL Ts rm) {z : Fin 4} {i : Nat} {x : Int} (lv' : List (Nat × Value)) (d : decode cc pc = .ok (.istore_n z, 1)) (hi : (z : Nat) = i) (hn : i < nL) (hj : (i, Value.int (iI x)) :: lv.filter (fun q => !(q.1 == i) && !(q.1 + 1 == i && q.2.category == 2)) = lv') (hq : pc + 1 = q) (kk : V X w c n q lv' st) : V X w c n pc lv (VI x :: st) := by
  obtain ⟨⟨p, l, e, R, s⟩, ⟨m, args, below, meth, c0⟩, ⟨Q, D, A⟩⟩ := X
  obtain ⟨hx, hb, hml, hown, hts, hK, hA, hR, hlk, hll, hst, hZ, hnm⟩ := F
  intro H locs ls hP hD hS hl
  subst hq; exact lv_istore_n hx hb d hi hl (by rw [hml]; exact hn) hj (fun ls hl => (kk H locs ls hP hD hS hl))
theorem v_istore (F : v_F X l k y cc nL Ts rm) {i : Nat} {x : Int} (lv' : List (Nat × Value)) (d : decode cc pc = .ok (.istore i, 2)) (hn : i < nL) (hj : (i, Value.int (iI x)) :: lv.filter (fun q => !(q.1 == i) && !(q.1 + 1 == i && q.2.category == 2)) = lv') (hq : pc + 2 = q) (kk : V X w c n q lv' st) : V X w c n pc lv (VI x :: st) := by
  obtain ⟨⟨p, l, e, R, s⟩, ⟨m, args, below, meth, c0⟩, ⟨Q, D, A⟩⟩ := X
  obtain ⟨hx, hb, hml, hown, hts, hK, hA, hR, hlk, hll, hst, hZ, hnm⟩ := F
  intro H locs ls hP hD hS hl
  subst hq; exact lv_istore hx hb d hl (by rw [hml]; exact hn) hj (fun ls hl => (kk H locs ls hP hD hS hl))
theorem v_aload_n (F : v_F X l k y cc nL Ts rm) {z : Fin 4} {i : Nat} {x : Nat} (j : Nat) (d : decode cc pc = .ok (.aload_n z, 1)) (hi : (z : Nat) = i) (hj : lv[j]? = some (i, .ref x)) (hq : pc + 1 = q) (kk : V X w c n q lv (.ref x :: st)) : V X w c n pc lv (st) := by
  obtain ⟨⟨p, l, e, R, s⟩, ⟨m, args, below, meth, c0⟩, ⟨Q, D, A⟩⟩ := X
  obtain ⟨hx, hb, hml, hown, hts, hK, hA, hR, hlk, hll, hst, hZ, hnm⟩ := F
  intro H locs ls hP hD hS hl
  subst hq; exact lv_aload_n hx hb d hi (lv_at hl j hj) (kk H locs ls hP hD hS hl)
theorem v_aload (F : v_F X l k y cc nL Ts rm) {i : Nat} {x : Nat} (j : Nat) (d : decode cc pc = .ok (.aload i, 2)) (hj : lv[j]? = some (i, .ref x)) (hq : pc + 2 = q) (kk : V X w c n q lv (.ref x :: st)) : V X w c n pc lv (st) := by
  obtain ⟨⟨p, l, e, R, s⟩, ⟨m, args, below, meth, c0⟩, ⟨Q, D, A⟩⟩ := X
  obtain ⟨hx, hb, hml, hown, hts, hK, hA, hR, hlk, hll, hst, hZ, hnm⟩ := F
  intro H locs ls hP hD hS hl
  subst hq; exact lv_aload hx hb d (lv_at hl j hj) (kk H locs ls hP hD hS hl)
theorem v_astore_n (F : v_F X l k y cc nL Ts rm) {z : Fin 4} {i : Nat} {x : Nat} (lv' : List (Nat × Value)) (d : decode cc pc = .ok (.astore_n z, 1)) (hi : (z : Nat) = i) (hn : i < nL) (hj : (i, Value.ref x) :: lv.filter (fun q => !(q.1 == i) && !(q.1 + 1 == i && q.2.category == 2)) = lv') (hq : pc + 1 = q) (kk : V X w c n q lv' st) : V X w c n pc lv (.ref x :: st) := by
  obtain ⟨⟨p, l, e, R, s⟩, ⟨m, args, below, meth, c0⟩, ⟨Q, D, A⟩⟩ := X
  obtain ⟨hx, hb, hml, hown, hts, hK, hA, hR, hlk, hll, hst, hZ, hnm⟩ := F
  intro H locs ls hP hD hS hl
  subst hq; exact lv_astore_n hx hb d hi hl (by rw [hml]; exact hn) hj (fun ls hl => (kk H locs ls hP hD hS hl))
theorem v_astore (F : v_F X l k y cc nL Ts rm) {i : Nat} {x : Nat} (lv' : List (Nat × Value)) (d : decode cc pc = .ok (.astore i, 2)) (hn : i < nL) (hj : (i, Value.ref x) :: lv.filter (fun q => !(q.1 == i) && !(q.1 + 1 == i && q.2.category == 2)) = lv') (hq : pc + 2 = q) (kk : V X w c n q lv' st) : V X w c n pc lv (.ref x :: st) := by
  obtain ⟨⟨p, l, e, R, s⟩, ⟨m, args, below, meth, c0⟩, ⟨Q, D, A⟩⟩ := X
  obtain ⟨hx, hb, hml, hown, hts, hK, hA, hR, hlk, hll, hst, hZ, hnm⟩ := F
  intro H locs ls hP hD hS hl
  subst hq; exact lv_astore hx hb d hl (by rw [hml]; exact hn) hj (fun ls hl => (kk H locs ls hP hD hS hl))
theorem v_lload_n (F : v_F X l k y cc nL Ts rm) {z : Fin 4} {i : Nat} {x : Int64} (j : Nat) (d : decode cc pc = .ok (.lload_n z, 1)) (hi : (z : Nat) = i) (hj : lv[j]? = some (i, .long x)) (hq : pc + 1 = q) (kk : V X w c n q lv (.long x :: st)) : V X w c n pc lv (st) := by
  obtain ⟨⟨p, l, e, R, s⟩, ⟨m, args, below, meth, c0⟩, ⟨Q, D, A⟩⟩ := X
  obtain ⟨hx, hb, hml, hown, hts, hK, hA, hR, hlk, hll, hst, hZ, hnm⟩ := F
  intro H locs ls hP hD hS hl
  subst hq; exact lv_lload_n hx hb d hi (lv_at hl j hj) (kk H locs ls hP hD hS hl)
theorem v_lload (F : v_F X l k y cc nL Ts rm) {i : Nat} {x : Int64} (j : Nat) (d : decode cc pc = .ok (.lload i, 2)) (hj : lv[j]? = some (i, .long x)) (hq : pc + 2 = q) (kk : V X w c n q lv (.long x :: st)) : V X w c n pc lv (st) := by
  obtain ⟨⟨p, l, e, R, s⟩, ⟨m, args, below, meth, c0⟩, ⟨Q, D, A⟩⟩ := X
  obtain ⟨hx, hb, hml, hown, hts, hK, hA, hR, hlk, hll, hst, hZ, hnm⟩ := F
  intro H locs ls hP hD hS hl
  subst hq; exact lv_lload hx hb d (lv_at hl j hj) (kk H locs ls hP hD hS hl)
theorem v_lstore_n (F : v_F X l k y cc nL Ts rm) {z : Fin 4} {i : Nat} {x : Int64} (lv' : List (Nat × Value)) (d : decode cc pc = .ok (.lstore_n z, 1)) (hi : (z : Nat) = i) (hn : i + 1 < nL) (hj : (i, Value.long x) :: lv.filter (fun q => !(q.1 == i) && (!(q.1 == i + 1) && !(q.1 + 1 == i && q.2.category == 2))) = lv') (hq : pc + 1 = q) (kk : V X w c n q lv' st) : V X w c n pc lv (.long x :: st) := by
  obtain ⟨⟨p, l, e, R, s⟩, ⟨m, args, below, meth, c0⟩, ⟨Q, D, A⟩⟩ := X
  obtain ⟨hx, hb, hml, hown, hts, hK, hA, hR, hlk, hll, hst, hZ, hnm⟩ := F
  intro H locs ls hP hD hS hl
  subst hq; exact lv_lstore_n hx hb d hi hl (by rw [hml]; exact hn) hj (fun ls hl => (kk H locs ls hP hD hS hl))
theorem v_lstore (F : v_F X l k y cc nL Ts rm) {i : Nat} {x : Int64} (lv' : List (Nat × Value)) (d : decode cc pc = .ok (.lstore i, 2)) (hn : i + 1 < nL) (hj : (i, Value.long x) :: lv.filter (fun q => !(q.1 == i) && (!(q.1 == i + 1) && !(q.1 + 1 == i && q.2.category == 2))) = lv') (hq : pc + 2 = q) (kk : V X w c n q lv' st) : V X w c n pc lv (.long x :: st) := by
  obtain ⟨⟨p, l, e, R, s⟩, ⟨m, args, below, meth, c0⟩, ⟨Q, D, A⟩⟩ := X
  obtain ⟨hx, hb, hml, hown, hts, hK, hA, hR, hlk, hll, hst, hZ, hnm⟩ := F
  intro H locs ls hP hD hS hl
  subst hq; exact lv_lstore hx hb d hl (by rw [hml]; exact hn) hj (fun ls hl => (kk H locs ls hP hD hS hl))
theorem v_dload_n (F : v_F X l k y cc nL Ts rm) {z : Fin 4} {i : Nat} {x : UInt64} (j : Nat) (d : decode cc pc = .ok (.dload_n z, 1)) (hi : (z : Nat) = i) (hj : lv[j]? = some (i, .double x)) (hq : pc + 1 = q) (kk : V X w c n q lv (.double x :: st)) : V X w c n pc lv (st) := by
  obtain ⟨⟨p, l, e, R, s⟩, ⟨m, args, below, meth, c0⟩, ⟨Q, D, A⟩⟩ := X
  obtain ⟨hx, hb, hml, hown, hts, hK, hA, hR, hlk, hll, hst, hZ, hnm⟩ := F
  intro H locs ls hP hD hS hl
  subst hq; exact lv_dload_n hx hb d hi (lv_at hl j hj) (kk H locs ls hP hD hS hl)
theorem v_dload (F : v_F X l k y cc nL Ts rm) {i : Nat} {x : UInt64} (j : Nat) (d : decode cc pc = .ok (.dload i, 2)) (hj : lv[j]? = some (i, .double x)) (hq : pc + 2 = q) (kk : V X w c n q lv (.double x :: st)) : V X w c n pc lv (st) := by
  obtain ⟨⟨p, l, e, R, s⟩, ⟨m, args, below, meth, c0⟩, ⟨Q, D, A⟩⟩ := X
  obtain ⟨hx, hb, hml, hown, hts, hK, hA, hR, hlk, hll, hst, hZ, hnm⟩ := F
  intro H locs ls hP hD hS hl
  subst hq; exact lv_dload hx hb d (lv_at hl j hj) (kk H locs ls hP hD hS hl)
theorem v_dstore_n (F : v_F X l k y cc nL Ts rm) {z : Fin 4} {i : Nat} {x : UInt64} (lv' : List (Nat × Value)) (d : decode cc pc = .ok (.dstore_n z, 1)) (hi : (z : Nat) = i) (hn : i + 1 < nL) (hj : (i, Value.double x) :: lv.filter (fun q => !(q.1 == i) && (!(q.1 == i + 1) && !(q.1 + 1 == i && q.2.category == 2))) = lv') (hq : pc + 1 = q) (kk : V X w c n q lv' st) : V X w c n pc lv (.double x :: st) := by
  obtain ⟨⟨p, l, e, R, s⟩, ⟨m, args, below, meth, c0⟩, ⟨Q, D, A⟩⟩ := X
  obtain ⟨hx, hb, hml, hown, hts, hK, hA, hR, hlk, hll, hst, hZ, hnm⟩ := F
  intro H locs ls hP hD hS hl
  subst hq; exact lv_dstore_n hx hb d hi hl (by rw [hml]; exact hn) hj (fun ls hl => (kk H locs ls hP hD hS hl))
theorem v_dstore (F : v_F X l k y cc nL Ts rm) {i : Nat} {x : UInt64} (lv' : List (Nat × Value)) (d : decode cc pc = .ok (.dstore i, 2)) (hn : i + 1 < nL) (hj : (i, Value.double x) :: lv.filter (fun q => !(q.1 == i) && (!(q.1 == i + 1) && !(q.1 + 1 == i && q.2.category == 2))) = lv') (hq : pc + 2 = q) (kk : V X w c n q lv' st) : V X w c n pc lv (.double x :: st) := by
  obtain ⟨⟨p, l, e, R, s⟩, ⟨m, args, below, meth, c0⟩, ⟨Q, D, A⟩⟩ := X
  obtain ⟨hx, hb, hml, hown, hts, hK, hA, hR, hlk, hll, hst, hZ, hnm⟩ := F
  intro H locs ls hP hD hS hl
  subst hq; exact lv_dstore hx hb d hl (by rw [hml]; exact hn) hj (fun ls hl => (kk H locs ls hP hD hS hl))
theorem v_iinc (F : v_F X l k y cc nL Ts rm) {i : Nat} {a b z : Int} (j : Nat) (lv' : List (Nat × Value)) (d : decode cc pc = .ok (.iinc i a, 3)) (hj : lv[j]? = some (i, VI b)) (hn : i < nL) (hv : b + a = z) (hl2 : (i, Value.int (iI z)) :: lv.filter (fun q => !(q.1 == i) && !(q.1 + 1 == i && q.2.category == 2)) = lv') (hq : pc + 3 = q) (kk : V X w c n q lv' st) : V X w c n pc lv (st) := by
  obtain ⟨⟨p, l, e, R, s⟩, ⟨m, args, below, meth, c0⟩, ⟨Q, D, A⟩⟩ := X
  obtain ⟨hx, hb, hml, hown, hts, hK, hA, hR, hlk, hll, hst, hZ, hnm⟩ := F
  intro H locs ls hP hD hS hl
  subst hq; exact lv_iinc (v := iI z) hx hb d hl hj (by subst hv; exact iI_add b a) (by rw [hml]; exact hn) hl2 (fun ls hl => (kk H locs ls hP hD hS hl))
theorem v_iadd (F : v_F X l k y cc nL Ts rm) {a b : Int} (d : decode cc pc = .ok (.iadd, 1)) (hq : pc + 1 = q) (kk : V X w c n q lv (VI (a + b) :: st)) : V X w c n pc lv (VI b :: VI a :: st) := by
  obtain ⟨⟨p, l, e, R, s⟩, ⟨m, args, below, meth, c0⟩, ⟨Q, D, A⟩⟩ := X
  obtain ⟨hx, hb, hml, hown, hts, hK, hA, hR, hlk, hll, hst, hZ, hnm⟩ := F
  intro H locs ls hP hD hS hl
  subst hq; refine lv_iadd hx hb d ?_
  rw [iI_add]
  exact kk H locs ls hP hD hS hl
theorem v_isub (F : v_F X l k y cc nL Ts rm) {a b : Int} (d : decode cc pc = .ok (.isub, 1)) (hq : pc + 1 = q) (kk : V X w c n q lv (VI (a - b) :: st)) : V X w c n pc lv (VI b :: VI a :: st) := by
  obtain ⟨⟨p, l, e, R, s⟩, ⟨m, args, below, meth, c0⟩, ⟨Q, D, A⟩⟩ := X
  obtain ⟨hx, hb, hml, hown, hts, hK, hA, hR, hlk, hll, hst, hZ, hnm⟩ := F
  intro H locs ls hP hD hS hl
  subst hq; refine lv_isub hx hb d ?_
  rw [iI_sub]
  exact kk H locs ls hP hD hS hl
theorem v_imul (F : v_F X l k y cc nL Ts rm) {a b : Int} (d : decode cc pc = .ok (.imul, 1)) (hq : pc + 1 = q) (kk : V X w c n q lv (VI (a * b) :: st)) : V X w c n pc lv (VI b :: VI a :: st) := by
  obtain ⟨⟨p, l, e, R, s⟩, ⟨m, args, below, meth, c0⟩, ⟨Q, D, A⟩⟩ := X
  obtain ⟨hx, hb, hml, hown, hts, hK, hA, hR, hlk, hll, hst, hZ, hnm⟩ := F
  intro H locs ls hP hD hS hl
  subst hq; refine lv_imul hx hb d ?_
  rw [iI_mul]
  exact kk H locs ls hP hD hS hl
theorem v_idiv (F : v_F X l k y cc nL Ts rm) {a b : Int} (ha : 0 ≤ a ∧ a < 2147483648) (hb2 : 0 < b ∧ b < 2147483648) (d : decode cc pc = .ok (.idiv, 1)) (hq : pc + 1 = q) (kk : V X w c n q lv (VI (a / b) :: st)) : V X w c n pc lv (VI b :: VI a :: st) := by
  obtain ⟨⟨p, l, e, R, s⟩, ⟨m, args, below, meth, c0⟩, ⟨Q, D, A⟩⟩ := X
  obtain ⟨hx, hb, hml, hown, hts, hK, hA, hR, hlk, hll, hst, hZ, hnm⟩ := F
  intro H locs ls hP hD hS hl
  subst hq; refine lv_idiv hx hb d (fun h => ?_) ?_
  · rw [iI_0, iI_eq (by omega) R32_0] at h; omega
  rw [iI_div ha hb2]
  exact kk H locs ls hP hD hS hl
theorem v_irem (F : v_F X l k y cc nL Ts rm) {a b : Int} (ha : 0 ≤ a ∧ a < 2147483648) (hb2 : 0 < b ∧ b < 2147483648) (d : decode cc pc = .ok (.irem, 1)) (hq : pc + 1 = q) (kk : V X w c n q lv (VI (a % b) :: st)) : V X w c n pc lv (VI b :: VI a :: st) := by
  obtain ⟨⟨p, l, e, R, s⟩, ⟨m, args, below, meth, c0⟩, ⟨Q, D, A⟩⟩ := X
  obtain ⟨hx, hb, hml, hown, hts, hK, hA, hR, hlk, hll, hst, hZ, hnm⟩ := F
  intro H locs ls hP hD hS hl
  subst hq; refine lv_irem hx hb d (fun h => ?_) ?_
  · rw [iI_0, iI_eq (by omega) R32_0] at h; omega
  rw [iI_rem ha hb2]
  exact kk H locs ls hP hD hS hl
theorem v_iand (F : v_F X l k y cc nL Ts rm) {a b z : Int} (d : decode cc pc = .ok (.iand, 1)) (hz : iI a &&& iI b = iI z) (hq : pc + 1 = q) (kk : V X w c n q lv (VI z :: st)) : V X w c n pc lv (VI b :: VI a :: st) := by
  obtain ⟨⟨p, l, e, R, s⟩, ⟨m, args, below, meth, c0⟩, ⟨Q, D, A⟩⟩ := X
  obtain ⟨hx, hb, hml, hown, hts, hK, hA, hR, hlk, hll, hst, hZ, hnm⟩ := F
  intro H locs ls hP hD hS hl
  subst hq; refine lv_iand hx hb d ?_
  rw [hz]
  exact kk H locs ls hP hD hS hl
theorem v_ior (F : v_F X l k y cc nL Ts rm) {a b z : Int} (d : decode cc pc = .ok (.ior, 1)) (hz : iI a ||| iI b = iI z) (hq : pc + 1 = q) (kk : V X w c n q lv (VI z :: st)) : V X w c n pc lv (VI b :: VI a :: st) := by
  obtain ⟨⟨p, l, e, R, s⟩, ⟨m, args, below, meth, c0⟩, ⟨Q, D, A⟩⟩ := X
  obtain ⟨hx, hb, hml, hown, hts, hK, hA, hR, hlk, hll, hst, hZ, hnm⟩ := F
  intro H locs ls hP hD hS hl
  subst hq; refine lv_ior hx hb d ?_
  rw [hz]
  exact kk H locs ls hP hD hS hl
theorem v_ishl (F : v_F X l k y cc nL Ts rm) {a b z : Int} (d : decode cc pc = .ok (.ishl, 1)) (hz : iI a <<< (iI b &&& 31) = iI z) (hq : pc + 1 = q) (kk : V X w c n q lv (VI z :: st)) : V X w c n pc lv (VI b :: VI a :: st) := by
  obtain ⟨⟨p, l, e, R, s⟩, ⟨m, args, below, meth, c0⟩, ⟨Q, D, A⟩⟩ := X
  obtain ⟨hx, hb, hml, hown, hts, hK, hA, hR, hlk, hll, hst, hZ, hnm⟩ := F
  intro H locs ls hP hD hS hl
  subst hq; refine lv_ishl hx hb d ?_
  rw [hz]
  exact kk H locs ls hP hD hS hl
theorem v_ishr (F : v_F X l k y cc nL Ts rm) {a b z : Int} (d : decode cc pc = .ok (.ishr, 1)) (hz : iI a >>> (iI b &&& 31) = iI z) (hq : pc + 1 = q) (kk : V X w c n q lv (VI z :: st)) : V X w c n pc lv (VI b :: VI a :: st) := by
  obtain ⟨⟨p, l, e, R, s⟩, ⟨m, args, below, meth, c0⟩, ⟨Q, D, A⟩⟩ := X
  obtain ⟨hx, hb, hml, hown, hts, hK, hA, hR, hlk, hll, hst, hZ, hnm⟩ := F
  intro H locs ls hP hD hS hl
  subst hq; refine lv_ishr hx hb d ?_
  rw [hz]
  exact kk H locs ls hP hD hS hl
theorem v_i2l (F : v_F X l k y cc nL Ts rm) {a : Int} (d : decode cc pc = .ok (.i2l, 1)) (hq : pc + 1 = q) (kk : V X w c n q lv (.long (iI a).toInt64 :: st)) : V X w c n pc lv (VI a :: st) := by
  obtain ⟨⟨p, l, e, R, s⟩, ⟨m, args, below, meth, c0⟩, ⟨Q, D, A⟩⟩ := X
  obtain ⟨hx, hb, hml, hown, hts, hK, hA, hR, hlk, hll, hst, hZ, hnm⟩ := F
  intro H locs ls hP hD hS hl
  subst hq; exact lv_i2l hx hb d rfl (kk H locs ls hP hD hS hl)
theorem v_ladd (F : v_F X l k y cc nL Ts rm) {a b : Int64} (d : decode cc pc = .ok (.ladd, 1)) (hq : pc + 1 = q) (kk : V X w c n q lv (.long (a + b) :: st)) : V X w c n pc lv (.long b :: .long a :: st) := by
  obtain ⟨⟨p, l, e, R, s⟩, ⟨m, args, below, meth, c0⟩, ⟨Q, D, A⟩⟩ := X
  obtain ⟨hx, hb, hml, hown, hts, hK, hA, hR, hlk, hll, hst, hZ, hnm⟩ := F
  intro H locs ls hP hD hS hl
  subst hq; exact lv_ladd hx hb d (kk H locs ls hP hD hS hl)
theorem v_lmul (F : v_F X l k y cc nL Ts rm) {a b : Int64} (d : decode cc pc = .ok (.lmul, 1)) (hq : pc + 1 = q) (kk : V X w c n q lv (.long (a * b) :: st)) : V X w c n pc lv (.long b :: .long a :: st) := by
  obtain ⟨⟨p, l, e, R, s⟩, ⟨m, args, below, meth, c0⟩, ⟨Q, D, A⟩⟩ := X
  obtain ⟨hx, hb, hml, hown, hts, hK, hA, hR, hlk, hll, hst, hZ, hnm⟩ := F
  intro H locs ls hP hD hS hl
  subst hq; exact lv_lmul hx hb d (kk H locs ls hP hD hS hl)
theorem v_lcmp (F : v_F X l k y cc nL Ts rm) {a b : Int64} {z : Int} (d : decode cc pc = .ok (.lcmp, 1)) (hz : lg_cmp a b = iI z) (hq : pc + 1 = q) (kk : V X w c n q lv (VI z :: st)) : V X w c n pc lv (.long b :: .long a :: st) := by
  obtain ⟨⟨p, l, e, R, s⟩, ⟨m, args, below, meth, c0⟩, ⟨Q, D, A⟩⟩ := X
  obtain ⟨hx, hb, hml, hown, hts, hK, hA, hR, hlk, hll, hst, hZ, hnm⟩ := F
  intro H locs ls hP hD hS hl
  subst hq; refine W.lcmp hx hb d ?_
  rw [hz]
  exact kk H locs ls hP hD hS hl
theorem v_dup (F : v_F X l k y cc nL Ts rm) {v : Value} (d : decode cc pc = .ok (.dup, 1)) (hv : v.category = 1) (hq : pc + 1 = q) (kk : V X w c n q lv (v :: v :: st)) : V X w c n pc lv (v :: st) := by
  obtain ⟨⟨p, l, e, R, s⟩, ⟨m, args, below, meth, c0⟩, ⟨Q, D, A⟩⟩ := X
  obtain ⟨hx, hb, hml, hown, hts, hK, hA, hR, hlk, hll, hst, hZ, hnm⟩ := F
  intro H locs ls hP hD hS hl
  subst hq; exact lv_dup hx hb d hv (kk H locs ls hP hD hS hl)
theorem v_dup2 (F : v_F X l k y cc nL Ts rm) {v u : Value} (d : decode cc pc = .ok (.dup2, 1)) (hv : v.category = 1) (hu : u.category = 1) (hq : pc + 1 = q) (kk : V X w c n q lv (v :: u :: v :: u :: st)) : V X w c n pc lv (v :: u :: st) := by
  obtain ⟨⟨p, l, e, R, s⟩, ⟨m, args, below, meth, c0⟩, ⟨Q, D, A⟩⟩ := X
  obtain ⟨hx, hb, hml, hown, hts, hK, hA, hR, hlk, hll, hst, hZ, hnm⟩ := F
  intro H locs ls hP hD hS hl
  subst hq; exact lv_dup2_11 hx hb d hv hu (kk H locs ls hP hD hS hl)
theorem v_pop (F : v_F X l k y cc nL Ts rm) {v : Value} (d : decode cc pc = .ok (.pop, 1)) (hv : v.category = 1) (hq : pc + 1 = q) (kk : V X w c n q lv st) : V X w c n pc lv (v :: st) := by
  obtain ⟨⟨p, l, e, R, s⟩, ⟨m, args, below, meth, c0⟩, ⟨Q, D, A⟩⟩ := X
  obtain ⟨hx, hb, hml, hown, hts, hK, hA, hR, hlk, hll, hst, hZ, hnm⟩ := F
  intro H locs ls hP hD hS hl
  subst hq; exact lv_pop hx hb d hv (kk H locs ls hP hD hS hl)
theorem v_goto (F : v_F X l k y cc nL Ts rm) {off : Int} {tgt : Nat} (d : decode cc pc = .ok (.goto off, 3)) (ht : (pc : Int) + off = (tgt : Int)) (kk : V X w c n tgt lv st) : V X w c n pc lv (st) := by
  obtain ⟨⟨p, l, e, R, s⟩, ⟨m, args, below, meth, c0⟩, ⟨Q, D, A⟩⟩ := X
  obtain ⟨hx, hb, hml, hown, hts, hK, hA, hR, hlk, hll, hst, hZ, hnm⟩ := F
  intro H locs ls hP hD hS hl
  exact lv_goto hx hb d ht (kk H locs ls hP hD hS hl)
theorem v_if_eq (F : v_F X l k y cc nL Ts rm) {a off : Int} {tgt : Nat} (ha : R32 a) (d : decode cc pc = .ok (.ifCond .eq off, 3)) (ht : (pc : Int) + off = (tgt : Int)) (hq : pc + 3 = q) (kt : a = 0 → V X w c n tgt lv st) (kf : ¬ a = 0 → V X w c n q lv st) : V X w c n pc lv (VI a :: st) := by
  obtain ⟨⟨p, l, e, R, s⟩, ⟨m, args, below, meth, c0⟩, ⟨Q, D, A⟩⟩ := X
  obtain ⟨hx, hb, hml, hown, hts, hK, hA, hR, hlk, hll, hst, hZ, hnm⟩ := F
  intro H locs ls hP hD hS hl
  subst hq; refine lv_if_eq hx hb d ht (fun h => ?_) (fun h => ?_)
  · rw [iI_0, iI_eq ha R32_0] at h; exact kt h H locs ls hP hD hS hl
  · rw [iI_0, iI_eq ha R32_0] at h; exact kf h H locs ls hP hD hS hl
theorem v_if_ne (F : v_F X l k y cc nL Ts rm) {a off : Int} {tgt : Nat} (ha : R32 a) (d : decode cc pc = .ok (.ifCond .ne off, 3)) (ht : (pc : Int) + off = (tgt : Int)) (hq : pc + 3 = q) (kt : ¬ a = 0 → V X w c n tgt lv st) (kf : a = 0 → V X w c n q lv st) : V X w c n pc lv (VI a :: st) := by
  obtain ⟨⟨p, l, e, R, s⟩, ⟨m, args, below, meth, c0⟩, ⟨Q, D, A⟩⟩ := X
  obtain ⟨hx, hb, hml, hown, hts, hK, hA, hR, hlk, hll, hst, hZ, hnm⟩ := F
  intro H locs ls hP hD hS hl
  subst hq; refine lv_if_ne hx hb d ht (fun h => ?_) (fun h => ?_)
  · rw [iI_0, iI_eq ha R32_0] at h; exact kt h H locs ls hP hD hS hl
  · rw [iI_0, iI_eq ha R32_0] at h; exact kf h H locs ls hP hD hS hl
theorem v_if_lt (F : v_F X l k y cc nL Ts rm) {a off : Int} {tgt : Nat} (ha : R32 a) (d : decode cc pc = .ok (.ifCond .lt off, 3)) (ht : (pc : Int) + off = (tgt : Int)) (hq : pc + 3 = q) (kt : a < 0 → V X w c n tgt lv st) (kf : ¬ a < 0 → V X w c n q lv st) : V X w c n pc lv (VI a :: st) := by
  obtain ⟨⟨p, l, e, R, s⟩, ⟨m, args, below, meth, c0⟩, ⟨Q, D, A⟩⟩ := X
  obtain ⟨hx, hb, hml, hown, hts, hK, hA, hR, hlk, hll, hst, hZ, hnm⟩ := F
  intro H locs ls hP hD hS hl
  subst hq; refine lv_if_lt hx hb d ht (fun h => ?_) (fun h => ?_)
  · rw [iI_0, iI_lt ha R32_0] at h; exact kt h H locs ls hP hD hS hl
  · rw [iI_0, iI_lt ha R32_0] at h; exact kf h H locs ls hP hD hS hl
theorem v_if_le (F : v_F X l k y cc nL Ts rm) {a off : Int} {tgt : Nat} (ha : R32 a) (d : decode cc pc = .ok (.ifCond .le off, 3)) (ht : (pc : Int) + off = (tgt : Int)) (hq : pc + 3 = q) (kt : a ≤ 0 → V X w c n tgt lv st) (kf : ¬ a ≤ 0 → V X w c n q lv st) : V X w c n pc lv (VI a :: st) := by
  obtain ⟨⟨p, l, e, R, s⟩, ⟨m, args, below, meth, c0⟩, ⟨Q, D, A⟩⟩ := X
  obtain ⟨hx, hb, hml, hown, hts, hK, hA, hR, hlk, hll, hst, hZ, hnm⟩ := F
  intro H locs ls hP hD hS hl
  subst hq; refine lv_if_le hx hb d ht (fun h => ?_) (fun h => ?_)
  · rw [iI_0, iI_le ha R32_0] at h; exact kt h H locs ls hP hD hS hl
  · rw [iI_0, iI_le ha R32_0] at h; exact kf h H locs ls hP hD hS hl
theorem v_if_gt (F : v_F X l k y cc nL Ts rm) {a off : Int} {tgt : Nat} (ha : R32 a) (d : decode cc pc = .ok (.ifCond .gt off, 3)) (ht : (pc : Int) + off = (tgt : Int)) (hq : pc + 3 = q) (kt : 0 < a → V X w c n tgt lv st) (kf : ¬ 0 < a → V X w c n q lv st) : V X w c n pc lv (VI a :: st) := by
  obtain ⟨⟨p, l, e, R, s⟩, ⟨m, args, below, meth, c0⟩, ⟨Q, D, A⟩⟩ := X
  obtain ⟨hx, hb, hml, hown, hts, hK, hA, hR, hlk, hll, hst, hZ, hnm⟩ := F
  intro H locs ls hP hD hS hl
  subst hq; refine lv_if_gt hx hb d ht (fun h => ?_) (fun h => ?_)
  · rw [iI_0, iI_lt R32_0 ha] at h; exact kt h H locs ls hP hD hS hl
  · rw [iI_0, iI_lt R32_0 ha] at h; exact kf h H locs ls hP hD hS hl
theorem v_if_ge (F : v_F X l k y cc nL Ts rm) {a off : Int} {tgt : Nat} (ha : R32 a) (d : decode cc pc = .ok (.ifCond .ge off, 3)) (ht : (pc : Int) + off = (tgt : Int)) (hq : pc + 3 = q) (kt : 0 ≤ a → V X w c n tgt lv st) (kf : ¬ 0 ≤ a → V X w c n q lv st) : V X w c n pc lv (VI a :: st) := by
  obtain ⟨⟨p, l, e, R, s⟩, ⟨m, args, below, meth, c0⟩, ⟨Q, D, A⟩⟩ := X
  obtain ⟨hx, hb, hml, hown, hts, hK, hA, hR, hlk, hll, hst, hZ, hnm⟩ := F
  intro H locs ls hP hD hS hl
  subst hq; refine lv_if_ge hx hb d ht (fun h => ?_) (fun h => ?_)
  · rw [iI_0, iI_le R32_0 ha] at h; exact kt h H locs ls hP hD hS hl
  · rw [iI_0, iI_le R32_0 ha] at h; exact kf h H locs ls hP hD hS hl
theorem v_icmp_eq (F : v_F X l k y cc nL Ts rm) {a b off : Int} {tgt : Nat} (ha : R32 a) (hb2 : R32 b) (d : decode cc pc = .ok (.if_icmp .eq off, 3)) (ht : (pc : Int) + off = (tgt : Int)) (hq : pc + 3 = q) (kt : a = b → V X w c n tgt lv st) (kf : ¬ a = b → V X w c n q lv st) : V X w c n pc lv (VI b :: VI a :: st) := by
  obtain ⟨⟨p, l, e, R, s⟩, ⟨m, args, below, meth, c0⟩, ⟨Q, D, A⟩⟩ := X
  obtain ⟨hx, hb, hml, hown, hts, hK, hA, hR, hlk, hll, hst, hZ, hnm⟩ := F
  intro H locs ls hP hD hS hl
  subst hq; refine lv_icmp_eq hx hb d ht (fun h => ?_) (fun h => ?_)
  · rw [iI_eq ha hb2] at h; exact kt h H locs ls hP hD hS hl
  · rw [iI_eq ha hb2] at h; exact kf h H locs ls hP hD hS hl
theorem v_icmp_ne (F : v_F X l k y cc nL Ts rm) {a b off : Int} {tgt : Nat} (ha : R32 a) (hb2 : R32 b) (d : decode cc pc = .ok (.if_icmp .ne off, 3)) (ht : (pc : Int) + off = (tgt : Int)) (hq : pc + 3 = q) (kt : ¬ a = b → V X w c n tgt lv st) (kf : a = b → V X w c n q lv st) : V X w c n pc lv (VI b :: VI a :: st) := by
  obtain ⟨⟨p, l, e, R, s⟩, ⟨m, args, below, meth, c0⟩, ⟨Q, D, A⟩⟩ := X
  obtain ⟨hx, hb, hml, hown, hts, hK, hA, hR, hlk, hll, hst, hZ, hnm⟩ := F
  intro H locs ls hP hD hS hl
  subst hq; refine lv_icmp_ne hx hb d ht (fun h => ?_) (fun h => ?_)
  · rw [iI_eq ha hb2] at h; exact kt h H locs ls hP hD hS hl
  · rw [iI_eq ha hb2] at h; exact kf h H locs ls hP hD hS hl
theorem v_icmp_lt (F : v_F X l k y cc nL Ts rm) {a b off : Int} {tgt : Nat} (ha : R32 a) (hb2 : R32 b) (d : decode cc pc = .ok (.if_icmp .lt off, 3)) (ht : (pc : Int) + off = (tgt : Int)) (hq : pc + 3 = q) (kt : a < b → V X w c n tgt lv st) (kf : ¬ a < b → V X w c n q lv st) : V X w c n pc lv (VI b :: VI a :: st) := by
  obtain ⟨⟨p, l, e, R, s⟩, ⟨m, args, below, meth, c0⟩, ⟨Q, D, A⟩⟩ := X
  obtain ⟨hx, hb, hml, hown, hts, hK, hA, hR, hlk, hll, hst, hZ, hnm⟩ := F
  intro H locs ls hP hD hS hl
  subst hq; refine lv_icmp_lt hx hb d ht (fun h => ?_) (fun h => ?_)
  · rw [iI_lt ha hb2] at h; exact kt h H locs ls hP hD hS hl
  · rw [iI_lt ha hb2] at h; exact kf h H locs ls hP hD hS hl
theorem v_icmp_le (F : v_F X l k y cc nL Ts rm) {a b off : Int} {tgt : Nat} (ha : R32 a) (hb2 : R32 b) (d : decode cc pc = .ok (.if_icmp .le off, 3)) (ht : (pc : Int) + off = (tgt : Int)) (hq : pc + 3 = q) (kt : a ≤ b → V X w c n tgt lv st) (kf : ¬ a ≤ b → V X w c n q lv st) : V X w c n pc lv (VI b :: VI a :: st) := by
  obtain ⟨⟨p, l, e, R, s⟩, ⟨m, args, below, meth, c0⟩, ⟨Q, D, A⟩⟩ := X
  obtain ⟨hx, hb, hml, hown, hts, hK, hA, hR, hlk, hll, hst, hZ, hnm⟩ := F
  intro H locs ls hP hD hS hl
  subst hq; refine lv_icmp_le hx hb d ht (fun h => ?_) (fun h => ?_)
  · rw [iI_le ha hb2] at h; exact kt h H locs ls hP hD hS hl
  · rw [iI_le ha hb2] at h; exact kf h H locs ls hP hD hS hl
theorem v_icmp_gt (F : v_F X l k y cc nL Ts rm) {a b off : Int} {tgt : Nat} (ha : R32 a) (hb2 : R32 b) (d : decode cc pc = .ok (.if_icmp .gt off, 3)) (ht : (pc : Int) + off = (tgt : Int)) (hq : pc + 3 = q) (kt : b < a → V X w c n tgt lv st) (kf : ¬ b < a → V X w c n q lv st) : V X w c n pc lv (VI b :: VI a :: st) := by
  obtain ⟨⟨p, l, e, R, s⟩, ⟨m, args, below, meth, c0⟩, ⟨Q, D, A⟩⟩ := X
  obtain ⟨hx, hb, hml, hown, hts, hK, hA, hR, hlk, hll, hst, hZ, hnm⟩ := F
  intro H locs ls hP hD hS hl
  subst hq; refine lv_icmp_gt hx hb d ht (fun h => ?_) (fun h => ?_)
  · rw [iI_lt hb2 ha] at h; exact kt h H locs ls hP hD hS hl
  · rw [iI_lt hb2 ha] at h; exact kf h H locs ls hP hD hS hl
theorem v_icmp_ge (F : v_F X l k y cc nL Ts rm) {a b off : Int} {tgt : Nat} (ha : R32 a) (hb2 : R32 b) (d : decode cc pc = .ok (.if_icmp .ge off, 3)) (ht : (pc : Int) + off = (tgt : Int)) (hq : pc + 3 = q) (kt : b ≤ a → V X w c n tgt lv st) (kf : ¬ b ≤ a → V X w c n q lv st) : V X w c n pc lv (VI b :: VI a :: st) := by
  obtain ⟨⟨p, l, e, R, s⟩, ⟨m, args, below, meth, c0⟩, ⟨Q, D, A⟩⟩ := X
  obtain ⟨hx, hb, hml, hown, hts, hK, hA, hR, hlk, hll, hst, hZ, hnm⟩ := F
  intro H locs ls hP hD hS hl
  subst hq; refine lv_icmp_ge hx hb d ht (fun h => ?_) (fun h => ?_)
  · rw [iI_le hb2 ha] at h; exact kt h H locs ls hP hD hS hl
  · rw [iI_le hb2 ha] at h; exact kf h H locs ls hP hD hS hl
theorem v_acmp_eq (F : v_F X l k y cc nL Ts rm) {a b : Nat} {off : Int} {tgt : Nat} (d : decode cc pc = .ok (.if_acmp .eq off, 3)) (ht : (pc : Int) + off = (tgt : Int)) (hq : pc + 3 = q) (kt : a = b → V X w c n tgt lv st) (kf : ¬ a = b → V X w c n q lv st) : V X w c n pc lv (.ref b :: .ref a :: st) := by
  obtain ⟨⟨p, l, e, R, s⟩, ⟨m, args, below, meth, c0⟩, ⟨Q, D, A⟩⟩ := X
  obtain ⟨hx, hb, hml, hown, hts, hK, hA, hR, hlk, hll, hst, hZ, hnm⟩ := F
  intro H locs ls hP hD hS hl
  subst hq
  exact lv_acmp_eq (rx := some a) (ry := some b) hx hb d ht (fun h => kt (Option.some.inj h) H locs ls hP hD hS hl) (fun h => kf (fun q => h (congrArg some q)) H locs ls hP hD hS hl)
theorem v_tableIn (F : v_F X l k y cc nL Ts rm) {dflt lo hi : Int} {offs : Array Int} {len : Nat} {a off : Int} {tgt : Nat} (d : decode cc pc = .ok (.tableswitch dflt lo hi offs, len)) (ha : R32 a) (h1 : lo ≤ a) (h2 : a ≤ hi) (ho : offs[(a - lo).toNat]? = some off) (ht : (pc : Int) + off = (tgt : Int)) (kk : V X w c n tgt lv st) : V X w c n pc lv (VI a :: st) := by
  obtain ⟨⟨p, l, e, R, s⟩, ⟨m, args, below, meth, c0⟩, ⟨Q, D, A⟩⟩ := X
  obtain ⟨hx, hb, hml, hown, hts, hK, hA, hR, hlk, hll, hst, hZ, hnm⟩ := F
  intro H locs ls hP hD hS hl
  exact lv_tableIn hx hb d (by rw [iI_toInt ha]; omega) (by rw [iI_toInt ha]; omega) (by rw [iI_toInt ha]; exact ho) ht (kk H locs ls hP hD hS hl)
theorem v_tableOut (F : v_F X l k y cc nL Ts rm) {dflt lo hi : Int} {offs : Array Int} {len : Nat} {a : Int} {tgt : Nat} (d : decode cc pc = .ok (.tableswitch dflt lo hi offs, len)) (ha : R32 a) (h : a < lo ∨ hi < a) (ht : (pc : Int) + dflt = (tgt : Int)) (kk : V X w c n tgt lv st) : V X w c n pc lv (VI a :: st) := by
  obtain ⟨⟨p, l, e, R, s⟩, ⟨m, args, below, meth, c0⟩, ⟨Q, D, A⟩⟩ := X
  obtain ⟨hx, hb, hml, hown, hts, hK, hA, hR, hlk, hll, hst, hZ, hnm⟩ := F
  intro H locs ls hP hD hS hl
  exact lv_tableOut hx hb d (by rw [iI_toInt ha]; exact h) ht (kk H locs ls hP hD hS hl)
theorem v_sub (ks : List Nat) (hj : lv_pick lv ks = lv') (kk : V X w c n pc lv' st) : V X w c n pc lv st := fun H locs ls hP hD hS hl => kk H locs ls hP hD hS (lv_sub hl ks hj)
theorem v_widen {c' n' : Nat} (h1 : c ≤ c') (h2 : n ≤ n') (kk : V X w c' n' pc lv st) : V X w c n pc lv st := fun H locs ls hP hD hS hl => W.widen h1 h2 (kk H locs ls hP hD hS hl)
theorem v_cast {a b : Int} (h : a = b) (kk : V X w c n pc lv (VI b :: st)) : V X w c n pc lv (VI a :: st) := h ▸ kk
theorem v_top {a : Int} (kk : ∀ z : Int, z = a → V X w c n pc lv (VI z :: st)) : V X w c n pc lv (VI a :: st) := kk a rfl
theorem v_top2 {a b : Int} (kk : ∀ z : Int, z = b → V X w c n pc lv (VI a :: VI z :: st)) : V X w c n pc lv (VI a :: VI b :: st) := kk b rfl
/-- a field is read -/
theorem v_get (F : v_F X l k y cc nL Ts rm) {C : String} {T : u_T} {N ci i a : Nat} {fs : List Value} {v : Value} (q0 : Nat) (z : Nat) (hin : ∀ w ∈ u_ws C T N, w ∈ Ts) (hc : vwCl[ci]? = some (C, T, N)) (he : w[q0]? = some (a, .inr (ci, fs))) (hk : z < N) (hi : Cond.fieldLink y.cls i (T z).1 (T z).2.1 (T z).2.2.1 ∈ Ts) (hv : fs[z]? = some v) (d : decode cc pc = .ok (.getfield i, 3)) (hq : pc + 3 = q) (kk : V X w c n q lv (v :: st)) : V X w c n pc lv (.ref a :: st) := by
  obtain ⟨⟨p, l, e, R, s⟩, ⟨m, args, below, meth, c0⟩, ⟨Q, D, A⟩⟩ := X
  obtain ⟨hx, hb, hml, hown, hts, hK, hA, hR, hlk, hll, hst, hZ, hnm⟩ := F
  intro H locs ls hP hD hS hl
  subst hq
  exact va_get hx hb hts hin hown hK hP q0 he hc z hk (hts _ hi) (fun _ h => h) hv d (kk H locs ls hP hD hS hl)
/-- a field is written -/
theorem v_put (F : v_F X l k y cc nL Ts rm) {C : String} {T : u_T} {N ci i a : Nat} {fs : List Value} {v : Value} {ty : FieldType} (q0 : Nat) (z : Nat) (w' : va_W) (hin : ∀ w ∈ u_ws C T N, w ∈ Ts) (ty0 : Nat → FieldType) (hty : ∀ k, k < N → parseFieldDescriptor (T k).2.2.1 = some (ty0 k)) (hnmF : ∀ a, a < N → ∀ b, b < N → a ≠ b → (T a).2.1 ≠ (T b).2.1) (hc : vwCl[ci]? = some (C, T, N)) (he : w[q0]? = some (a, .inr (ci, fs))) (hk : z < N) (hi : Cond.fieldLink y.cls i (T z).1 (T z).2.1 (T z).2.2.1 ∈ Ts) (hfin : (T z).2.2.2 = false) (hd : parseFieldDescriptor (T z).2.2.1 = some ty) (hn : narrow ty v = v) (hfit : fits ty v = true) (hlen : z < fs.length) (hw : w.set q0 (a, .inr (ci, fs.set z v)) = w') (d : decode cc pc = .ok (.putfield i, 3)) (hq : pc + 3 = q) (kk : V X w' c n q lv st) : V X w c n pc lv (v :: .ref a :: st) := by
  obtain ⟨⟨p, l, e, R, s⟩, ⟨m, args, below, meth, c0⟩, ⟨Q, D, A⟩⟩ := X
  obtain ⟨hx, hb, hml, hown, hts, hK, hA, hR, hlk, hll, hst, hZ, hnm⟩ := F
  intro H locs ls hP hD hS hl
  subst hq; subst hw
  exact va_put hx hb hts hin ty0 hty hnmF hown hK hP hD hS q0 he hc z hk (hts _ hi) (fun _ h => h) hfin hd hn hfit hlen d (fun H locs hP hD hS => kk H locs ls hP hD hS hl)
/-- a final field is written in a constructor -/
theorem v_putF (F : v_F X l k y cc nL Ts rm) {C : String} {T : u_T} {N ci i a : Nat} {fs : List Value} {v : Value} {ty : FieldType} (q0 : Nat) (z : Nat) (w' : va_W) (hin : ∀ w ∈ u_ws C T N, w ∈ Ts) (ty0 : Nat → FieldType) (hty : ∀ k, k < N → parseFieldDescriptor (T k).2.2.1 = some (ty0 k)) (hnmF : ∀ a, a < N → ∀ b, b < N → a ≠ b → (T a).2.1 ≠ (T b).2.1) (hc : vwCl[ci]? = some (C, T, N)) (he : w[q0]? = some (a, .inr (ci, fs))) (hk : z < N) (hi : Cond.fieldLink y.cls i (T z).1 (T z).2.1 (T z).2.2.1 ∈ Ts) (hfin : (T z).2.2.2 = true) (hin2 : y.name = "<init>") (hdecl : (T z).1 = y.cls) (hd : parseFieldDescriptor (T z).2.2.1 = some ty) (hn : narrow ty v = v) (hfit : fits ty v = true) (hlen : z < fs.length) (hw : w.set q0 (a, .inr (ci, fs.set z v)) = w') (d : decode cc pc = .ok (.putfield i, 3)) (hq : pc + 3 = q) (kk : V X w' c n q lv st) : V X w c n pc lv (v :: .ref a :: st) := by
  obtain ⟨⟨p, l, e, R, s⟩, ⟨m, args, below, meth, c0⟩, ⟨Q, D, A⟩⟩ := X
  obtain ⟨hx, hb, hml, hown, hts, hK, hA, hR, hlk, hll, hst, hZ, hnm⟩ := F
  intro H locs ls hP hD hS hl
  subst hq; subst hw
  exact va_putF hx hb hts hin ty0 hty hnmF hown hK hP hD hS q0 he hc z hk (hts _ hi) (fun _ h => h) hfin (hnm.trans hin2) hdecl hd hn hfit hlen d (fun H locs hP hD hS => kk H locs ls hP hD hS hl)
/-- an int of a row is read -/
theorem v_iald (F : v_F X l k y cc nL Ts rm) {a N j : Nat} {f : Nat → Int} {x : Int} (q0 : Nat) (ha : w[q0]? = some (a, .inl (k 0, N, .inl (fun i => iI (f i))))) (hx2 : x = (j : Int)) (hj : j < N) (hN : N < 2147483648) (d : decode cc pc = .ok (.iaload, 1)) (hq : pc + 1 = q) (kk : V X w c n q lv (VI (f j) :: st)) : V X w c n pc lv (VI x :: .ref a :: st) := by
  obtain ⟨⟨p, l, e, R, s⟩, ⟨m, args, below, meth, c0⟩, ⟨Q, D, A⟩⟩ := X
  obtain ⟨hx, hb, hml, hown, hts, hK, hA, hR, hlk, hll, hst, hZ, hnm⟩ := F
  intro H locs ls hP hD hS hl
  subst hq; subst hx2
  refine va_iald hx hb hK hP q0 0 ha rfl (iI_in hj hN) d ?_
  rw [iI_clamp (by omega)]
  exact kk H locs ls hP hD hS hl
/-- an int of a row is written -/
theorem v_iast (F : v_F X l k y cc nL Ts rm) {a N j : Nat} {f : Nat → Int} {x v : Int} (q0 : Nat) (w' : va_W) (ha : w[q0]? = some (a, .inl (k 0, N, .inl (fun i => iI (f i))))) (hx2 : x = (j : Int)) (hj : j < N) (hN : N < 2147483648) (hw : w.set q0 (a, .inl (k 0, N, .inl (upd (fun i => iI (f i)) j (iI v)))) = w') (d : decode cc pc = .ok (.iastore, 1)) (hq : pc + 1 = q) (kk : V X w' c n q lv st) : V X w c n pc lv (VI v :: VI x :: .ref a :: st) := by
  obtain ⟨⟨p, l, e, R, s⟩, ⟨m, args, below, meth, c0⟩, ⟨Q, D, A⟩⟩ := X
  obtain ⟨hx, hb, hml, hown, hts, hK, hA, hR, hlk, hll, hst, hZ, hnm⟩ := F
  intro H locs ls hP hD hS hl
  subst hq; subst hx2; subst hw
  refine va_iast hx hb hK hP hD hS q0 0 ha rfl (iI_in hj hN) d ?_
  rw [iI_clamp (by omega)]
  exact fun H locs hP hD hS => kk H locs ls hP hD hS hl
/-- an object of a row is read -/
theorem v_aald (F : v_F X l k y cc nL Ts rm) {cA : ClassId} {C : String} {a b N j : Nat} {f : Nat → Option Nat} {x : Int} (q0 t0 : Nat) (ht : (v_tys k)[t0]? = some (cA, .object C)) (ha : w[q0]? = some (a, .inl (cA, N, .inr (.inr (.inr (.inr f)))))) (hx2 : x = (j : Int)) (hj : j < N) (hN : N < 2147483648) (hf : f j = some b) (d : decode cc pc = .ok (.aaload, 1)) (hq : pc + 1 = q) (kk : V X w c n q lv (.ref b :: st)) : V X w c n pc lv (VI x :: .ref a :: st) := by
  obtain ⟨⟨p, l, e, R, s⟩, ⟨m, args, below, meth, c0⟩, ⟨Q, D, A⟩⟩ := X
  obtain ⟨hx, hb, hml, hown, hts, hK, hA, hR, hlk, hll, hst, hZ, hnm⟩ := F
  intro H locs ls hP hD hS hl
  subst hq; subst hx2
  refine va_aldq hx hb hK hP q0 t0 ha ht (iI_in hj hN) d ?_
  rw [iI_clamp (by omega), hf]
  exact kk H locs ls hP hD hS hl
/-- the greater one, the lesser one -/
theorem v_max (F : v_F X l k y cc nL Ts rm) {i : Nat} {a b : Int} (ha : R32 a) (hb2 : R32 b) (h1 : Cond.methodLink y.cls i Lib.Math.max.name ∈ Ts) (h2 : Cond.static Lib.Math.max.name ∈ Ts) (h3 : Cond.initialized "java/lang/Math" ∈ Ts) (h4 : Cond.code Lib.Math.max.name Lib.Math.max.code 2 (some .int) ∈ Ts) (hr : 1 ≤ rm.frames ∧ (st.map fun v => v.category).sum + 13 ≤ rm.locals) (hc : c ≤ rm.cells ∧ n ≤ rm.slots) (d : decode cc pc = .ok (.invokestatic i, 3)) (hq : pc + 3 = q) (kk : V X w c n q lv (VI (max a b) :: st)) : V X w c n pc lv (VI b :: VI a :: st) := by
  obtain ⟨⟨p, l, e, R, s⟩, ⟨m, args, below, meth, c0⟩, ⟨Q, D, A⟩⟩ := X
  obtain ⟨hx, hb, hml, hown, hts, hK, hA, hR, hlk, hll, hst, hZ, hnm⟩ := F
  intro H locs ls hP hD hS hl
  subst hq; subst hR
  refine va_mmax hx hb hl.1.symm hown (hts _ h1) (hts _ h2) (hts _ h3) (hts _ h4) hr.1 hr.2 hc.1 hc.2 d ?_
  rw [iI_max ha hb2]
  exact kk H locs ls hP hD hS hl
theorem v_min (F : v_F X l k y cc nL Ts rm) {i : Nat} {a b : Int} (ha : R32 a) (hb2 : R32 b) (h1 : Cond.methodLink y.cls i Lib.Math.min.name ∈ Ts) (h2 : Cond.static Lib.Math.min.name ∈ Ts) (h3 : Cond.initialized "java/lang/Math" ∈ Ts) (h4 : Cond.code Lib.Math.min.name Lib.Math.min.code 2 (some .int) ∈ Ts) (hr : 1 ≤ rm.frames ∧ (st.map fun v => v.category).sum + 13 ≤ rm.locals) (hc : c ≤ rm.cells ∧ n ≤ rm.slots) (d : decode cc pc = .ok (.invokestatic i, 3)) (hq : pc + 3 = q) (kk : V X w c n q lv (VI (min a b) :: st)) : V X w c n pc lv (VI b :: VI a :: st) := by
  obtain ⟨⟨p, l, e, R, s⟩, ⟨m, args, below, meth, c0⟩, ⟨Q, D, A⟩⟩ := X
  obtain ⟨hx, hb, hml, hown, hts, hK, hA, hR, hlk, hll, hst, hZ, hnm⟩ := F
  intro H locs ls hP hD hS hl
  subst hq; subst hR
  refine va_mmin hx hb hl.1.symm hown (hts _ h1) (hts _ h2) (hts _ h3) (hts _ h4) hr.1 hr.2 hc.1 hc.2 d ?_
  rw [iI_min ha hb2]
  exact kk H locs ls hP hD hS hl
end VRows
/-! ===== worlds side by side ===== -/
theorem v_splP {D : va_G} {a b : va_W} {H : Heap} (h : va_P D vwCl (a ++ b) H) : va_P D vwCl a H ∧ va_P D vwCl b H := by
  refine ⟨fun i q hi => h i q ?_, fun i q hi => h (a.length + i) q ?_⟩
  · rw [List.getElem?_append_left (List.getElem?_eq_some_iff.mp hi).1]; exact hi
  · rw [List.getElem?_append_right (Nat.le_add_right _ _), Nat.add_sub_cancel_left]; exact hi
theorem v_splD {A : Nat → Prop} {a b : va_W} (h : va_D A (a ++ b)) : va_D A a ∧ va_D A b ∧ ∀ (i j : Nat) (p q : Nat × va_E), a[i]? = some p → b[j]? = some q → p.1 ≠ q.1 := by
  have hl : ∀ (i : Nat) (p : Nat × va_E), a[i]? = some p → (a ++ b)[i]? = some p := fun i p hi => by
    rw [List.getElem?_append_left (List.getElem?_eq_some_iff.mp hi).1]; exact hi
  have hr : ∀ (i : Nat) (p : Nat × va_E), b[i]? = some p → (a ++ b)[a.length + i]? = some p := fun i p hi => by
    rw [List.getElem?_append_right (Nat.le_add_right _ _), Nat.add_sub_cancel_left]; exact hi
  refine ⟨⟨fun i j p q hi hj e => h.1 i j p q (hl i p hi) (hl j q hj) e, fun i q hi => h.2 i q (hl i q hi)⟩, ⟨fun i j p q hi hj e => ?_, fun i q hi => h.2 _ q (hr i q hi)⟩, fun i j p q hi hj e => ?_⟩
  · have := h.1 _ _ p q (hr i p hi) (hr j q hj) e
    omega
  · have h1 := h.1 _ _ p q (hl i p hi) (hr j q hj) e
    have h2 := (List.getElem?_eq_some_iff.mp hi).1
    omega
theorem v_swap3 {X : vX} {a b e : va_W} {c n pc : Nat} {lv : List (Nat × Value)} {st : List Value} (kk : V X (b ++ (a ++ e)) c n pc lv st) : V X (a ++ (b ++ e)) c n pc lv st := by
  intro H locs ls hP hD hS hl
  obtain ⟨ha, hP2⟩ := v_splP hP
  obtain ⟨hb, he⟩ := v_splP hP2
  obtain ⟨da, hD2, x1⟩ := v_splD hD
  obtain ⟨db, de, x2⟩ := v_splD hD2
  have fl : ∀ (i : Nat) (p : Nat × va_E), b[i]? = some p → (b ++ e)[i]? = some p := fun i p hi => by
    rw [List.getElem?_append_left (List.getElem?_eq_some_iff.mp hi).1]; exact hi
  have fr : ∀ (i : Nat) (p : Nat × va_E), e[i]? = some p → (b ++ e)[b.length + i]? = some p := fun i p hi => by
    rw [List.getElem?_append_right (Nat.le_add_right _ _), Nat.add_sub_cancel_left]; exact hi
  refine kk H locs ls (va_P.app hb (va_P.app ha he)) (va_D.app db (va_D.app da de fun i j p q hi hj => x1 i _ p q hi (fr j q hj)) ?_) hS hl
  intro i j p q hi hj
  rcases List.mem_append.mp (List.mem_of_getElem? hj) with h | h
  · obtain ⟨j', hj'⟩ := List.getElem?_of_mem h
    exact fun e => x1 j' i q p hj' (fl i p hi) e.symm
  · obtain ⟨j', hj'⟩ := List.getElem?_of_mem h
    exact x2 i j' p q hi hj'
/-! ===== contracts ===== -/
def v_B (D : va_G) (k : Nat → ClassId) (A : Nat → Prop) (u : va_W) (t : State) : Prop := va_P D vwCl u t.heap ∧ va_K D vwCl (v_tys k) t ∧ va_D A u
def v_Pc (D : va_G) (k : Nat → ClassId) (sz : Nat) (av : List Value) (w : va_W) : Array Value → State → Prop := va_Pc av (fun U => U.heap.size = sz ∧ va_P D vwCl w U.heap ∧ va_K D vwCl (v_tys k) U ∧ va_D (fun _ => True) w ∧ v_Z (va_A w sz) U U.heap)
/-- an int is answered -/
def v_Ci (l : Launch) (k : Nat → ClassId) (y : MethodName) (ws : List Cond) (rm : Room) (av : List Value) (w : va_W) (post : Int → va_W → Prop) : Prop := ∀ (D : va_G) (sz : Nat), Met l y ws rm (v_Pc D k sz av w) (va_Qi (fun r u => ∃ a : Int, r = iI a ∧ post a u) (v_B D k (va_A w sz)) (va_A w sz)) rm.cells rm.slots (va_A w sz)
/-- a long is answered -/
def v_Cl (l : Launch) (k : Nat → ClassId) (y : MethodName) (ws : List Cond) (rm : Room) (av : List Value) (w : va_W) (post : Int64 → va_W → Prop) : Prop := ∀ (D : va_G) (sz : Nat), Met l y ws rm (v_Pc D k sz av w) (va_Ql post (v_B D k (va_A w sz)) (va_A w sz)) rm.cells rm.slots (va_A w sz)
/-- a double is answered -/
def v_Cd (l : Launch) (k : Nat → ClassId) (y : MethodName) (ws : List Cond) (rm : Room) (av : List Value) (w : va_W) (post : UInt64 → va_W → Prop) : Prop := ∀ (D : va_G) (sz : Nat), Met l y ws rm (v_Pc D k sz av w) (va_Qd post (v_B D k (va_A w sz)) (va_A w sz)) rm.cells rm.slots (va_A w sz)
/-- nothing is answered -/
def v_Cv (l : Launch) (k : Nat → ClassId) (y : MethodName) (ws : List Cond) (rm : Room) (av : List Value) (w : va_W) (post : va_W → Prop) : Prop := ∀ (D : va_G) (sz : Nat), Met l y ws rm (v_Pc D k sz av w) (va_Qv post (v_B D k (va_A w sz)) (va_A w sz)) rm.cells rm.slots (va_A w sz)
theorem v_blind {D : va_G} {k : Nat → ClassId} {sz : Nat} {av : List Value} {w : va_W} : FrameBlind (v_Pc D k sz av w) := fun a U g mk q => by
  obtain ⟨e, hz, hP, hK, hD, hZ⟩ := q
  exact ⟨e, hz, hP, va_K.moved (u := U) (U := U.calling g mk a) (Vm.Alike.refl U.vm) hK, hD, vx_Zq.moved (u := U) (U := U.calling g mk a) (Vm.Alike.refl U.vm) hZ.1, vx_Zq.moved (u := U) (U := U.calling g mk a) (Vm.Alike.refl U.vm) hZ.2.1, v_T.same (s := U) (U := U.calling g mk a) rfl hZ.2.2⟩
theorem v_free {A : Nat → Prop} {w : va_W} {H0 H : Heap} {locs : List Loc} (hD : va_D A w) (hS : va_S A H0 H locs) (hA : ∀ q, H0.size ≤ q → A q) : ∀ q, va_A w H.size q → A q := fun q h => h.elim (fun ⟨i, e, hk⟩ => hD.2 i (q, e) hk) (fun h => hA q (Nat.le_trans hS.1 h))
theorem v_prec {D : va_G} {k : Nat → ClassId} {A : Nat → Prop} {w : va_W} {s : State} {H : Heap} {locs : List Loc} (hK : va_K D vwCl (v_tys k) s) (hP : va_P D vwCl w H) (hD : va_D A w) (hS : va_S A s.heap H locs) (hA : ∀ q, s.heap.size ≤ q → A q) (hZ : v_Z A s s.heap) {av : List Value} (U : State) (hU : U.heap = H) (hW : s.WarmedH U.vm) : v_Pc D k H.size av w av.toArray U := by
  have hz : ∀ C n d, vx_Zq C n d A s s.heap → vx_Zq C n d (va_A w H.size) U H := fun C n d h => ((h.kept (fun a h1 h2 => hS.2.1 a h1 h2)).narrow (v_free hD hS hA)).moved hW.alike
  exact ⟨rfl, by rw [hU], by rw [hU]; exact hP, va_K.moved hW.alike hK, hD.weaken (fun _ _ _ _ => trivial), by rw [hU]; exact ⟨hz _ _ _ hZ.1, hz _ _ _ hZ.2.1, hZ.2.2.warm hW⟩⟩
/-- behind a call: the callee's world beside the rest -/
theorem v_back {D : va_G} {A : Nat → Prop} {w1 w2 u : va_W} {H H1 : Heap} {H0 : Heap} {locs : List Loc} (hP : va_P D vwCl (w1 ++ w2) H) (hD : va_D A (w1 ++ w2)) (hS : va_S A H0 H locs) (hA : ∀ q, H0.size ≤ q → A q) (hP1 : va_P D vwCl u H1) (hD1 : va_D (va_A w1 H.size) u) (hk : ∀ q : Nat, q < H.size → ¬ va_A w1 H.size q → H1[q]? = H[q]?) : va_P D vwCl (u ++ w2) H1 ∧ va_D A (u ++ w2) := by
  obtain ⟨p1, p2⟩ := v_splP hP
  obtain ⟨d1, d2, hx⟩ := v_splD hD
  have hn : ∀ (j : Nat) (q : Nat × va_E), w2[j]? = some q → q.1 < H.size ∧ ¬ va_A w1 H.size q.1 := fun j q hj => by
    have hlt := vx_lt p2 hj
    refine ⟨hlt, fun h => h.elim (fun ⟨i, e, hi⟩ => hx i j _ _ hi hj rfl) (fun h => ?_)⟩
    exact absurd hlt (Nat.not_lt.mpr h)
  refine ⟨va_P.app hP1 (va_P.kept p2 fun j q hj => hk q.1 (hn j q hj).1 (hn j q hj).2), va_D.app (hD1.weaken fun _ q _ h => v_free d1 hS hA q.1 h) d2 fun i j p q hi hj e => ?_⟩
  exact (hn j q hj).2 (e ▸ hD1.2 i p hi)
section VCalls
variable {X : vX} {l : Launch} {k : Nat → ClassId} {y : MethodName} {cc : ByteArray} {nL : Nat} {Ts : List Cond} {rm : Room} {w w1 w2 : va_W} {c n : Nat} {pc q : Nat} {lv : List (Nat × Value)} {st rest : List Value}
variable {y2 : MethodName} {cc2 : ByteArray} {nL2 : Nat} {ret2 : Option FieldType} {ws2 ws2' : List Cond} {rm2 : Room} {As : List Value} {b : Nat} {C : String} {i na : Nat}
theorem v_callVi (F : v_F X l k y cc nL Ts rm) {post : Int → va_W → Prop} (hC : v_Ci l k y2 ws2 rm2 (.ref b :: As) w1 post) (hw : w = w1 ++ w2) (hT : GoodIn Ts (wsV y.cls i C y2 ws2)) (hw2 : ws2 = Cond.code y2 cc2 nL2 ret2 :: ws2') (hd : y2.cls = C ∧ y2.cls ≠ "java/lang/invoke/MethodHandle" ∧ y2.cls ≠ "java/lang/invoke/VarHandle" ∧ (parseMethodDescriptor y2.desc).map (fun d => d.parameters.length) = some na) (hR2 : rm2.frames + 1 ≤ rm.frames ∧ 8 + (nL2 + 11) + rm2.locals ≤ rm.locals)
    (q0 : Nat) {ci : Nat} {fs : List Value} {T : u_T} {N : Nat} (he : w1[q0]? = some (b, .inr (ci, fs))) (hc : vwCl[ci]? = some (C, T, N)) (hn : As.length = na) (hst2 : st = As.reverse ++ .ref b :: rest) (hcat : (rest.map fun v => v.category).sum ≤ 8) (hf : c + rm2.cells ≤ rm.cells ∧ n + rm2.slots ≤ rm.slots) (d : decode cc pc = .ok (.invokevirtual i, 3)) (hq : pc + 3 = q)
    (kk : ∀ (a : Int) (u : va_W), post a u → V X (u ++ w2) (c + rm2.cells) (n + rm2.slots) q lv (VI a :: rest)) : V X w c n pc lv st := by
  obtain ⟨⟨p, l, e, R, s⟩, ⟨m, args, below, meth, c0⟩, ⟨Q, D, A⟩⟩ := X
  obtain ⟨hx, hb, hml, hown, hts, hK, hA, hR, hlk, hll, hst, hZ, hnm⟩ := F
  intro H locs ls hP hD hS hl
  subst hq; subst hw; subst hll
  have hR' : R = rm := hR
  subst hR'
  have p1 := (v_splP hP).1
  have d1 := (v_splD hD).1
  have hF := v_free d1 hS hA
  refine va_calli (va_runV (As := As) (rest := rest) ⟨hx, hb, hml, hown, hts⟩ (hC D H.size) (cwV na hts hT hw2 rfl rfl hd hR2) ⟨v_blind, va_recv hK p1 hc he, fun U hU hW => v_prec hK p1 d1 hS hA hZ U hU hW⟩ rfl hn (hl.1.trans hml) hst2 (lv_room hcat) d hf) hS (fun q _ h => hF q h) hF (fun r u t H1 locs1 ht hvm hwp hB hz1 hk1 hS1 => ?_)
  obtain ⟨a, rfl, hp⟩ := hwp
  obtain ⟨hP1, hK1, hD1⟩ := hB
  rw [ht] at hP1
  obtain ⟨g1, g2⟩ := v_back hP hD hS hA hP1 hD1 hk1
  exact kk a u hp H1 locs1 ls g1 g2 hS1 hl
theorem v_callVl (F : v_F X l k y cc nL Ts rm) {post : Int64 → va_W → Prop} (hC : v_Cl l k y2 ws2 rm2 (.ref b :: As) w1 post) (hw : w = w1 ++ w2) (hT : GoodIn Ts (wsV y.cls i C y2 ws2)) (hw2 : ws2 = Cond.code y2 cc2 nL2 ret2 :: ws2') (hd : y2.cls = C ∧ y2.cls ≠ "java/lang/invoke/MethodHandle" ∧ y2.cls ≠ "java/lang/invoke/VarHandle" ∧ (parseMethodDescriptor y2.desc).map (fun d => d.parameters.length) = some na) (hR2 : rm2.frames + 1 ≤ rm.frames ∧ 8 + (nL2 + 11) + rm2.locals ≤ rm.locals)
    (q0 : Nat) {ci : Nat} {fs : List Value} {T : u_T} {N : Nat} (he : w1[q0]? = some (b, .inr (ci, fs))) (hc : vwCl[ci]? = some (C, T, N)) (hn : As.length = na) (hst2 : st = As.reverse ++ .ref b :: rest) (hcat : (rest.map fun v => v.category).sum ≤ 8) (hf : c + rm2.cells ≤ rm.cells ∧ n + rm2.slots ≤ rm.slots) (d : decode cc pc = .ok (.invokevirtual i, 3)) (hq : pc + 3 = q)
    (kk : ∀ (a : Int64) (u : va_W), post a u → V X (u ++ w2) (c + rm2.cells) (n + rm2.slots) q lv (.long a :: rest)) : V X w c n pc lv st := by
  obtain ⟨⟨p, l, e, R, s⟩, ⟨m, args, below, meth, c0⟩, ⟨Q, D, A⟩⟩ := X
  obtain ⟨hx, hb, hml, hown, hts, hK, hA, hR, hlk, hll, hst, hZ, hnm⟩ := F
  intro H locs ls hP hD hS hl
  subst hq; subst hw; subst hll
  have hR' : R = rm := hR
  subst hR'
  have p1 := (v_splP hP).1
  have d1 := (v_splD hD).1
  have hF := v_free d1 hS hA
  refine va_calll (va_runV (As := As) (rest := rest) ⟨hx, hb, hml, hown, hts⟩ (hC D H.size) (cwV na hts hT hw2 rfl rfl hd hR2) ⟨v_blind, va_recv hK p1 hc he, fun U hU hW => v_prec hK p1 d1 hS hA hZ U hU hW⟩ rfl hn (hl.1.trans hml) hst2 (lv_room hcat) d hf) hS (fun q _ h => hF q h) hF (fun r u t H1 locs1 ht hvm hwp hB hz1 hk1 hS1 => ?_)
  obtain ⟨hP1, hK1, hD1⟩ := hB
  rw [ht] at hP1
  obtain ⟨g1, g2⟩ := v_back hP hD hS hA hP1 hD1 hk1
  exact kk r u hwp H1 locs1 ls g1 g2 hS1 hl
theorem v_callVd (F : v_F X l k y cc nL Ts rm) {post : UInt64 → va_W → Prop} (hC : v_Cd l k y2 ws2 rm2 (.ref b :: As) w1 post) (hw : w = w1 ++ w2) (hT : GoodIn Ts (wsV y.cls i C y2 ws2)) (hw2 : ws2 = Cond.code y2 cc2 nL2 ret2 :: ws2') (hd : y2.cls = C ∧ y2.cls ≠ "java/lang/invoke/MethodHandle" ∧ y2.cls ≠ "java/lang/invoke/VarHandle" ∧ (parseMethodDescriptor y2.desc).map (fun d => d.parameters.length) = some na) (hR2 : rm2.frames + 1 ≤ rm.frames ∧ 8 + (nL2 + 11) + rm2.locals ≤ rm.locals)
    (q0 : Nat) {ci : Nat} {fs : List Value} {T : u_T} {N : Nat} (he : w1[q0]? = some (b, .inr (ci, fs))) (hc : vwCl[ci]? = some (C, T, N)) (hn : As.length = na) (hst2 : st = As.reverse ++ .ref b :: rest) (hcat : (rest.map fun v => v.category).sum ≤ 8) (hf : c + rm2.cells ≤ rm.cells ∧ n + rm2.slots ≤ rm.slots) (d : decode cc pc = .ok (.invokevirtual i, 3)) (hq : pc + 3 = q)
    (kk : ∀ (a : UInt64) (u : va_W), post a u → V X (u ++ w2) (c + rm2.cells) (n + rm2.slots) q lv (.double a :: rest)) : V X w c n pc lv st := by
  obtain ⟨⟨p, l, e, R, s⟩, ⟨m, args, below, meth, c0⟩, ⟨Q, D, A⟩⟩ := X
  obtain ⟨hx, hb, hml, hown, hts, hK, hA, hR, hlk, hll, hst, hZ, hnm⟩ := F
  intro H locs ls hP hD hS hl
  subst hq; subst hw; subst hll
  have hR' : R = rm := hR
  subst hR'
  have p1 := (v_splP hP).1
  have d1 := (v_splD hD).1
  have hF := v_free d1 hS hA
  refine va_calld (va_runV (As := As) (rest := rest) ⟨hx, hb, hml, hown, hts⟩ (hC D H.size) (cwV na hts hT hw2 rfl rfl hd hR2) ⟨v_blind, va_recv hK p1 hc he, fun U hU hW => v_prec hK p1 d1 hS hA hZ U hU hW⟩ rfl hn (hl.1.trans hml) hst2 (lv_room hcat) d hf) hS (fun q _ h => hF q h) hF (fun r u t H1 locs1 ht hvm hwp hB hz1 hk1 hS1 => ?_)
  obtain ⟨hP1, hK1, hD1⟩ := hB
  rw [ht] at hP1
  obtain ⟨g1, g2⟩ := v_back hP hD hS hA hP1 hD1 hk1
  exact kk r u hwp H1 locs1 ls g1 g2 hS1 hl
theorem v_callVv (F : v_F X l k y cc nL Ts rm) {post : va_W → Prop} (hC : v_Cv l k y2 ws2 rm2 (.ref b :: As) w1 post) (hw : w = w1 ++ w2) (hT : GoodIn Ts (wsV y.cls i C y2 ws2)) (hw2 : ws2 = Cond.code y2 cc2 nL2 ret2 :: ws2') (hd : y2.cls = C ∧ y2.cls ≠ "java/lang/invoke/MethodHandle" ∧ y2.cls ≠ "java/lang/invoke/VarHandle" ∧ (parseMethodDescriptor y2.desc).map (fun d => d.parameters.length) = some na) (hR2 : rm2.frames + 1 ≤ rm.frames ∧ 8 + (nL2 + 11) + rm2.locals ≤ rm.locals)
    (q0 : Nat) {ci : Nat} {fs : List Value} {T : u_T} {N : Nat} (he : w1[q0]? = some (b, .inr (ci, fs))) (hc : vwCl[ci]? = some (C, T, N)) (hn : As.length = na) (hst2 : st = As.reverse ++ .ref b :: rest) (hcat : (rest.map fun v => v.category).sum ≤ 8) (hf : c + rm2.cells ≤ rm.cells ∧ n + rm2.slots ≤ rm.slots) (d : decode cc pc = .ok (.invokevirtual i, 3)) (hq : pc + 3 = q)
    (kk : ∀ (u : va_W), post u → V X (u ++ w2) (c + rm2.cells) (n + rm2.slots) q lv rest) : V X w c n pc lv st := by
  obtain ⟨⟨p, l, e, R, s⟩, ⟨m, args, below, meth, c0⟩, ⟨Q, D, A⟩⟩ := X
  obtain ⟨hx, hb, hml, hown, hts, hK, hA, hR, hlk, hll, hst, hZ, hnm⟩ := F
  intro H locs ls hP hD hS hl
  subst hq; subst hw; subst hll
  have hR' : R = rm := hR
  subst hR'
  have p1 := (v_splP hP).1
  have d1 := (v_splD hD).1
  have hF := v_free d1 hS hA
  refine va_callv (va_runV (As := As) (rest := rest) ⟨hx, hb, hml, hown, hts⟩ (hC D H.size) (cwV na hts hT hw2 rfl rfl hd hR2) ⟨v_blind, va_recv hK p1 hc he, fun U hU hW => v_prec hK p1 d1 hS hA hZ U hU hW⟩ rfl hn (hl.1.trans hml) hst2 (lv_room hcat) d hf) hS (fun q _ h => hF q h) hF (fun u t H1 locs1 ht hvm hwp hB hz1 hk1 hS1 => ?_)
  obtain ⟨hP1, hK1, hD1⟩ := hB
  rw [ht] at hP1
  obtain ⟨g1, g2⟩ := v_back hP hD hS hA hP1 hD1 hk1
  exact kk u hwp H1 locs1 ls g1 g2 hS1 hl
theorem v_callSi (F : v_F X l k y cc nL Ts rm) {post : Int → va_W → Prop} (hC : v_Ci l k y2 ws2 rm2 As w1 post) (hw : w = w1 ++ w2) (hT : GoodIn Ts (va_wsS y.cls i y2 ws2)) (hw2 : ws2 = Cond.code y2 cc2 nL2 ret2 :: ws2') (hd : y2.cls ≠ "java/lang/invoke/MethodHandle" ∧ y2.cls ≠ "java/lang/invoke/VarHandle" ∧ (parseMethodDescriptor y2.desc).map (fun d => d.parameters.length) = some na) (hR2 : rm2.frames + 1 ≤ rm.frames ∧ 8 + (nL2 + 11) + rm2.locals ≤ rm.locals)
    (hn : As.length = na) (hst2 : st = As.reverse ++ rest) (hcat : (rest.map fun v => v.category).sum ≤ 8) (hf : c + rm2.cells ≤ rm.cells ∧ n + rm2.slots ≤ rm.slots) (d : decode cc pc = .ok (.invokestatic i, 3)) (hq : pc + 3 = q)
    (kk : ∀ (a : Int) (u : va_W), post a u → V X (u ++ w2) (c + rm2.cells) (n + rm2.slots) q lv (VI a :: rest)) : V X w c n pc lv st := by
  obtain ⟨⟨p, l, e, R, s⟩, ⟨m, args, below, meth, c0⟩, ⟨Q, D, A⟩⟩ := X
  obtain ⟨hx, hb, hml, hown, hts, hK, hA, hR, hlk, hll, hst, hZ, hnm⟩ := F
  intro H locs ls hP hD hS hl
  subst hq; subst hw; subst hll
  have hR' : R = rm := hR
  subst hR'
  have p1 := (v_splP hP).1
  have d1 := (v_splD hD).1
  have hF := v_free d1 hS hA
  refine va_calli (va_runS (As := As) (rest := rest) ⟨hx, hb, hml, hown, hts⟩ (hC D H.size) (va_cwS na hts hT hw2 rfl rfl hd hR2) ⟨v_blind, fun U hU hW => v_prec hK p1 d1 hS hA hZ U hU hW⟩ rfl hn (hl.1.trans hml) hst2 (lv_room hcat) d hf) hS (fun q _ h => hF q h) hF (fun r u t H1 locs1 ht hvm hwp hB hz1 hk1 hS1 => ?_)
  obtain ⟨a, rfl, hp⟩ := hwp
  obtain ⟨hP1, hK1, hD1⟩ := hB
  rw [ht] at hP1
  obtain ⟨g1, g2⟩ := v_back hP hD hS hA hP1 hD1 hk1
  exact kk a u hp H1 locs1 ls g1 g2 hS1 hl
theorem v_callSv (F : v_F X l k y cc nL Ts rm) {post : va_W → Prop} (hC : v_Cv l k y2 ws2 rm2 As w1 post) (hw : w = w1 ++ w2) (hT : GoodIn Ts (va_wsS y.cls i y2 ws2)) (hw2 : ws2 = Cond.code y2 cc2 nL2 ret2 :: ws2') (hd : y2.cls ≠ "java/lang/invoke/MethodHandle" ∧ y2.cls ≠ "java/lang/invoke/VarHandle" ∧ (parseMethodDescriptor y2.desc).map (fun d => d.parameters.length) = some na) (hR2 : rm2.frames + 1 ≤ rm.frames ∧ 8 + (nL2 + 11) + rm2.locals ≤ rm.locals)
    (hn : As.length = na) (hst2 : st = As.reverse ++ rest) (hcat : (rest.map fun v => v.category).sum ≤ 8) (hf : c + rm2.cells ≤ rm.cells ∧ n + rm2.slots ≤ rm.slots) (d : decode cc pc = .ok (.invokestatic i, 3)) (hq : pc + 3 = q)
    (kk : ∀ (u : va_W), post u → V X (u ++ w2) (c + rm2.cells) (n + rm2.slots) q lv rest) : V X w c n pc lv st := by
  obtain ⟨⟨p, l, e, R, s⟩, ⟨m, args, below, meth, c0⟩, ⟨Q, D, A⟩⟩ := X
  obtain ⟨hx, hb, hml, hown, hts, hK, hA, hR, hlk, hll, hst, hZ, hnm⟩ := F
  intro H locs ls hP hD hS hl
  subst hq; subst hw; subst hll
  have hR' : R = rm := hR
  subst hR'
  have p1 := (v_splP hP).1
  have d1 := (v_splD hD).1
  have hF := v_free d1 hS hA
  refine va_callv (va_runS (As := As) (rest := rest) ⟨hx, hb, hml, hown, hts⟩ (hC D H.size) (va_cwS na hts hT hw2 rfl rfl hd hR2) ⟨v_blind, fun U hU hW => v_prec hK p1 d1 hS hA hZ U hU hW⟩ rfl hn (hl.1.trans hml) hst2 (lv_room hcat) d hf) hS (fun q _ h => hF q h) hF (fun u t H1 locs1 ht hvm hwp hB hz1 hk1 hS1 => ?_)
  obtain ⟨hP1, hK1, hD1⟩ := hB
  rw [ht] at hP1
  obtain ⟨g1, g2⟩ := v_back hP hD hS hA hP1 hD1 hk1
  exact kk u hwp H1 locs1 ls g1 g2 hS1 hl
theorem v_callVi0 (F : v_F X l k y cc nL Ts rm) {post : Int → va_W → Prop} (hC : v_Ci l k y2 ws2 rm2 (.ref b :: As) w post) (hT : GoodIn Ts (wsV y.cls i C y2 ws2)) (hw2 : ws2 = Cond.code y2 cc2 nL2 ret2 :: ws2') (hd : y2.cls = C ∧ y2.cls ≠ "java/lang/invoke/MethodHandle" ∧ y2.cls ≠ "java/lang/invoke/VarHandle" ∧ (parseMethodDescriptor y2.desc).map (fun d => d.parameters.length) = some na) (hR2 : rm2.frames + 1 ≤ rm.frames ∧ 8 + (nL2 + 11) + rm2.locals ≤ rm.locals)
    (q0 : Nat) {ci : Nat} {fs : List Value} {T : u_T} {N : Nat} (he : w[q0]? = some (b, .inr (ci, fs))) (hc : vwCl[ci]? = some (C, T, N)) (hn : As.length = na) (hst2 : st = As.reverse ++ .ref b :: rest) (hcat : (rest.map fun v => v.category).sum ≤ 8) (hf : c + rm2.cells ≤ rm.cells ∧ n + rm2.slots ≤ rm.slots) (d : decode cc pc = .ok (.invokevirtual i, 3)) (hq : pc + 3 = q)
    (kk : ∀ (a : Int) (u : va_W), post a u → V X u (c + rm2.cells) (n + rm2.slots) q lv (VI a :: rest)) : V X w c n pc lv st := v_callVi F hC (List.append_nil w).symm hT hw2 hd hR2 q0 he hc hn hst2 hcat hf d hq (fun a u hp => by rw [List.append_nil]; exact kk a u hp)
theorem v_callVl0 (F : v_F X l k y cc nL Ts rm) {post : Int64 → va_W → Prop} (hC : v_Cl l k y2 ws2 rm2 (.ref b :: As) w post) (hT : GoodIn Ts (wsV y.cls i C y2 ws2)) (hw2 : ws2 = Cond.code y2 cc2 nL2 ret2 :: ws2') (hd : y2.cls = C ∧ y2.cls ≠ "java/lang/invoke/MethodHandle" ∧ y2.cls ≠ "java/lang/invoke/VarHandle" ∧ (parseMethodDescriptor y2.desc).map (fun d => d.parameters.length) = some na) (hR2 : rm2.frames + 1 ≤ rm.frames ∧ 8 + (nL2 + 11) + rm2.locals ≤ rm.locals)
    (q0 : Nat) {ci : Nat} {fs : List Value} {T : u_T} {N : Nat} (he : w[q0]? = some (b, .inr (ci, fs))) (hc : vwCl[ci]? = some (C, T, N)) (hn : As.length = na) (hst2 : st = As.reverse ++ .ref b :: rest) (hcat : (rest.map fun v => v.category).sum ≤ 8) (hf : c + rm2.cells ≤ rm.cells ∧ n + rm2.slots ≤ rm.slots) (d : decode cc pc = .ok (.invokevirtual i, 3)) (hq : pc + 3 = q)
    (kk : ∀ (a : Int64) (u : va_W), post a u → V X u (c + rm2.cells) (n + rm2.slots) q lv (.long a :: rest)) : V X w c n pc lv st := v_callVl F hC (List.append_nil w).symm hT hw2 hd hR2 q0 he hc hn hst2 hcat hf d hq (fun a u hp => by rw [List.append_nil]; exact kk a u hp)
theorem v_callVd0 (F : v_F X l k y cc nL Ts rm) {post : UInt64 → va_W → Prop} (hC : v_Cd l k y2 ws2 rm2 (.ref b :: As) w post) (hT : GoodIn Ts (wsV y.cls i C y2 ws2)) (hw2 : ws2 = Cond.code y2 cc2 nL2 ret2 :: ws2') (hd : y2.cls = C ∧ y2.cls ≠ "java/lang/invoke/MethodHandle" ∧ y2.cls ≠ "java/lang/invoke/VarHandle" ∧ (parseMethodDescriptor y2.desc).map (fun d => d.parameters.length) = some na) (hR2 : rm2.frames + 1 ≤ rm.frames ∧ 8 + (nL2 + 11) + rm2.locals ≤ rm.locals)
    (q0 : Nat) {ci : Nat} {fs : List Value} {T : u_T} {N : Nat} (he : w[q0]? = some (b, .inr (ci, fs))) (hc : vwCl[ci]? = some (C, T, N)) (hn : As.length = na) (hst2 : st = As.reverse ++ .ref b :: rest) (hcat : (rest.map fun v => v.category).sum ≤ 8) (hf : c + rm2.cells ≤ rm.cells ∧ n + rm2.slots ≤ rm.slots) (d : decode cc pc = .ok (.invokevirtual i, 3)) (hq : pc + 3 = q)
    (kk : ∀ (a : UInt64) (u : va_W), post a u → V X u (c + rm2.cells) (n + rm2.slots) q lv (.double a :: rest)) : V X w c n pc lv st := v_callVd F hC (List.append_nil w).symm hT hw2 hd hR2 q0 he hc hn hst2 hcat hf d hq (fun a u hp => by rw [List.append_nil]; exact kk a u hp)
theorem v_callVv0 (F : v_F X l k y cc nL Ts rm) {post : va_W → Prop} (hC : v_Cv l k y2 ws2 rm2 (.ref b :: As) w post) (hT : GoodIn Ts (wsV y.cls i C y2 ws2)) (hw2 : ws2 = Cond.code y2 cc2 nL2 ret2 :: ws2') (hd : y2.cls = C ∧ y2.cls ≠ "java/lang/invoke/MethodHandle" ∧ y2.cls ≠ "java/lang/invoke/VarHandle" ∧ (parseMethodDescriptor y2.desc).map (fun d => d.parameters.length) = some na) (hR2 : rm2.frames + 1 ≤ rm.frames ∧ 8 + (nL2 + 11) + rm2.locals ≤ rm.locals)
    (q0 : Nat) {ci : Nat} {fs : List Value} {T : u_T} {N : Nat} (he : w[q0]? = some (b, .inr (ci, fs))) (hc : vwCl[ci]? = some (C, T, N)) (hn : As.length = na) (hst2 : st = As.reverse ++ .ref b :: rest) (hcat : (rest.map fun v => v.category).sum ≤ 8) (hf : c + rm2.cells ≤ rm.cells ∧ n + rm2.slots ≤ rm.slots) (d : decode cc pc = .ok (.invokevirtual i, 3)) (hq : pc + 3 = q)
    (kk : ∀ (u : va_W), post u → V X u (c + rm2.cells) (n + rm2.slots) q lv rest) : V X w c n pc lv st := v_callVv F hC (List.append_nil w).symm hT hw2 hd hR2 q0 he hc hn hst2 hcat hf d hq (fun u hp => by rw [List.append_nil]; exact kk u hp)
theorem v_callSi0 (F : v_F X l k y cc nL Ts rm) {post : Int → va_W → Prop} (hC : v_Ci l k y2 ws2 rm2 As w post) (hT : GoodIn Ts (va_wsS y.cls i y2 ws2)) (hw2 : ws2 = Cond.code y2 cc2 nL2 ret2 :: ws2') (hd : y2.cls ≠ "java/lang/invoke/MethodHandle" ∧ y2.cls ≠ "java/lang/invoke/VarHandle" ∧ (parseMethodDescriptor y2.desc).map (fun d => d.parameters.length) = some na) (hR2 : rm2.frames + 1 ≤ rm.frames ∧ 8 + (nL2 + 11) + rm2.locals ≤ rm.locals)
    (hn : As.length = na) (hst2 : st = As.reverse ++ rest) (hcat : (rest.map fun v => v.category).sum ≤ 8) (hf : c + rm2.cells ≤ rm.cells ∧ n + rm2.slots ≤ rm.slots) (d : decode cc pc = .ok (.invokestatic i, 3)) (hq : pc + 3 = q)
    (kk : ∀ (a : Int) (u : va_W), post a u → V X u (c + rm2.cells) (n + rm2.slots) q lv (VI a :: rest)) : V X w c n pc lv st := v_callSi F hC (List.append_nil w).symm hT hw2 hd hR2 hn hst2 hcat hf d hq (fun a u hp => by rw [List.append_nil]; exact kk a u hp)
theorem v_callSv0 (F : v_F X l k y cc nL Ts rm) {post : va_W → Prop} (hC : v_Cv l k y2 ws2 rm2 As w post) (hT : GoodIn Ts (va_wsS y.cls i y2 ws2)) (hw2 : ws2 = Cond.code y2 cc2 nL2 ret2 :: ws2') (hd : y2.cls ≠ "java/lang/invoke/MethodHandle" ∧ y2.cls ≠ "java/lang/invoke/VarHandle" ∧ (parseMethodDescriptor y2.desc).map (fun d => d.parameters.length) = some na) (hR2 : rm2.frames + 1 ≤ rm.frames ∧ 8 + (nL2 + 11) + rm2.locals ≤ rm.locals)
    (hn : As.length = na) (hst2 : st = As.reverse ++ rest) (hcat : (rest.map fun v => v.category).sum ≤ 8) (hf : c + rm2.cells ≤ rm.cells ∧ n + rm2.slots ≤ rm.slots) (d : decode cc pc = .ok (.invokestatic i, 3)) (hq : pc + 3 = q)
    (kk : ∀ (u : va_W), post u → V X u (c + rm2.cells) (n + rm2.slots) q lv rest) : V X w c n pc lv st := v_callSv F hC (List.append_nil w).symm hT hw2 hd hR2 hn hst2 hcat hf d hq (fun u hp => by rw [List.append_nil]; exact kk u hp)
theorem v_apart (kk : (∀ (i j : Nat) (p q : Nat × va_E), w[i]? = some p → w[j]? = some q → p.1 = q.1 → i = j) → V X w c n pc lv st) : V X w c n pc lv st := fun H locs ls hP hD hS hl => kk hD.1 H locs ls hP hD hS hl
/-! a contract out of a walk -/
theorem v_ofI {av : List Value} {post : Int → va_W → Prop} {ty : FieldType} {ws' : List Cond} (hy : plainName y.cls = true) (hw : Ts = Cond.code y cc nL (some ty) :: ws') (hst : l.stackTraces = false) (hlen : (lg_sl av).length ≤ nL) (hn : ∀ a u, post a u → narrow ty (.int (iI a)) = .int (iI a))
    (body : ∀ X : vX, v_F X l k y cc nL Ts rm → (∀ (a : Int) (u : va_W) (c n pc : Nat) (lv : List (Nat × Value)), c ≤ rm.cells → n ≤ rm.slots → decode cc pc = .ok (.ireturn, 1) → post a u → V X u c n pc lv [VI a]) → V X w 0 0 0 (lv_args 0 av) []) : v_Ci l k y Ts rm av w post := by
  intro D sz
  refine Met.ofW (cc := cc) (maxL := nL) (ret := some ty) hy hw ?_
  intro p e s m args below meth c s₁ B hml hv
  obtain ⟨rfl, hsz, hP, hK, hD0, hZ⟩ := hv
  have hts := atoms_spec (ws := Ts) B.pre
  subst hsz
  have hX := body ((p, l, e, (headSpec Ts rm).room, s), (m, av.toArray, below, meth, c), (MQ below (va_Qi (fun r u => ∃ a : Int, r = iI a ∧ post a u) (v_B D k (va_A w s.heap.size)) (va_A w s.heap.size)) av.toArray s rm.cells rm.slots (va_A w s.heap.size), D, va_A w s.heap.size)) ⟨B.exec, B.bytes, hml, findClass_of_methodNamed B.named, hts, hK, fun q h => Or.inr h, rfl, B.notSynchronized, rfl, hst, hZ, (name_of_methodNamed B.named B.method).1⟩
    (fun a u c1 n1 pc lv hc hn1 d hp H locs ls hP2 hD2 hS2 hl2 => W.widen hc hn1 (W.zret (v := iI a) B.exec B.bytes B.returns (hn a u hp) (fun t ht hW => ⟨⟨iI a, u, rfl, ⟨a, rfl, hp⟩, by rw [ht]; exact hP2, va_K.moved hW.alike hK, hD2⟩, hS2.F ht⟩) hS2.2.2 d B.notSynchronized))
  have hl := lv_entry av (n := nL) hlen
  rw [lg_entry_eq]
  exact hX s.heap [] _ hP hD0.self va_S.rf (by show lv_has _ c.maxLocals _; rw [hml]; exact hl)
theorem v_ofV {av : List Value} {post : va_W → Prop} {ws' : List Cond} (hy : plainName y.cls = true) (hw : Ts = Cond.code y cc nL none :: ws') (hst : l.stackTraces = false) (hlen : (lg_sl av).length ≤ nL)
    (body : ∀ X : vX, v_F X l k y cc nL Ts rm → (∀ (u : va_W) (c n pc : Nat) (lv : List (Nat × Value)), c ≤ rm.cells → n ≤ rm.slots → decode cc pc = .ok (.return_, 1) → post u → V X u c n pc lv []) → V X w 0 0 0 (lv_args 0 av) []) : v_Cv l k y Ts rm av w post := by
  intro D sz
  refine Met.ofW (cc := cc) (maxL := nL) (ret := none) hy hw ?_
  intro p e s m args below meth c s₁ B hml hv
  obtain ⟨rfl, hsz, hP, hK, hD0, hZ⟩ := hv
  have hts := atoms_spec (ws := Ts) B.pre
  subst hsz
  have hX := body ((p, l, e, (headSpec Ts rm).room, s), (m, av.toArray, below, meth, c), (MQ below (va_Qv post (v_B D k (va_A w s.heap.size)) (va_A w s.heap.size)) av.toArray s rm.cells rm.slots (va_A w s.heap.size), D, va_A w s.heap.size)) ⟨B.exec, B.bytes, hml, findClass_of_methodNamed B.named, hts, hK, fun q h => Or.inr h, rfl, B.notSynchronized, rfl, hst, hZ, (name_of_methodNamed B.named B.method).1⟩
    (fun u c1 n1 pc lv hc hn1 d hp H locs ls hP2 hD2 hS2 hl2 => W.widen hc hn1 (W.vret B.exec B.bytes B.returns (fun t ht hW => ⟨⟨u, rfl, hp, by rw [ht]; exact hP2, va_K.moved hW.alike hK, hD2⟩, hS2.F ht⟩) hS2.2.2 d B.notSynchronized))
  have hl := lv_entry av (n := nL) hlen
  rw [lg_entry_eq]
  exact hX s.heap [] _ hP hD0.self va_S.rf (by show lv_has _ c.maxLocals _; rw [hml]; exact hl)
theorem v_ofL {av : List Value} {post : Int64 → va_W → Prop} {ws' : List Cond} (hy : plainName y.cls = true) (hw : Ts = Cond.code y cc nL (some .long) :: ws') (hst : l.stackTraces = false) (hlen : (lg_sl av).length ≤ nL)
    (body : ∀ X : vX, v_F X l k y cc nL Ts rm → (∀ (a : Int64) (u : va_W) (c n pc : Nat) (lv : List (Nat × Value)), c ≤ rm.cells → n ≤ rm.slots → decode cc pc = .ok (.lreturn, 1) → post a u → V X u c n pc lv [.long a]) → V X w 0 0 0 (lv_args 0 av) []) : v_Cl l k y Ts rm av w post := by
  intro D sz
  refine Met.ofW (cc := cc) (maxL := nL) (ret := some .long) hy hw ?_
  intro p e s m args below meth c s₁ B hml hv
  obtain ⟨rfl, hsz, hP, hK, hD0, hZ⟩ := hv
  have hts := atoms_spec (ws := Ts) B.pre
  subst hsz
  have hX := body ((p, l, e, (headSpec Ts rm).room, s), (m, av.toArray, below, meth, c), (MQ below (va_Ql post (v_B D k (va_A w s.heap.size)) (va_A w s.heap.size)) av.toArray s rm.cells rm.slots (va_A w s.heap.size), D, va_A w s.heap.size)) ⟨B.exec, B.bytes, hml, findClass_of_methodNamed B.named, hts, hK, fun q h => Or.inr h, rfl, B.notSynchronized, rfl, hst, hZ, (name_of_methodNamed B.named B.method).1⟩
    (fun a u c1 n1 pc lv hc hn1 d hp H locs ls hP2 hD2 hS2 hl2 => W.widen hc hn1 (W.lret B.exec B.bytes B.returns (fun t ht hW => ⟨⟨a, u, rfl, hp, by rw [ht]; exact hP2, va_K.moved hW.alike hK, hD2⟩, hS2.F ht⟩) hS2.2.2 d B.notSynchronized))
  have hl := lv_entry av (n := nL) hlen
  rw [lg_entry_eq]
  exact hX s.heap [] _ hP hD0.self va_S.rf (by show lv_has _ c.maxLocals _; rw [hml]; exact hl)
theorem v_ofD {av : List Value} {post : UInt64 → va_W → Prop} {ws' : List Cond} (hy : plainName y.cls = true) (hw : Ts = Cond.code y cc nL (some .double) :: ws') (hst : l.stackTraces = false) (hlen : (lg_sl av).length ≤ nL)
    (body : ∀ X : vX, v_F X l k y cc nL Ts rm → (∀ (a : UInt64) (u : va_W) (c n pc : Nat) (lv : List (Nat × Value)), c ≤ rm.cells → n ≤ rm.slots → decode cc pc = .ok (.dreturn, 1) → post a u → V X u c n pc lv [.double a]) → V X w 0 0 0 (lv_args 0 av) []) : v_Cd l k y Ts rm av w post := by
  intro D sz
  refine Met.ofW (cc := cc) (maxL := nL) (ret := some .double) hy hw ?_
  intro p e s m args below meth c s₁ B hml hv
  obtain ⟨rfl, hsz, hP, hK, hD0, hZ⟩ := hv
  have hts := atoms_spec (ws := Ts) B.pre
  subst hsz
  have hX := body ((p, l, e, (headSpec Ts rm).room, s), (m, av.toArray, below, meth, c), (MQ below (va_Qd post (v_B D k (va_A w s.heap.size)) (va_A w s.heap.size)) av.toArray s rm.cells rm.slots (va_A w s.heap.size), D, va_A w s.heap.size)) ⟨B.exec, B.bytes, hml, findClass_of_methodNamed B.named, hts, hK, fun q h => Or.inr h, rfl, B.notSynchronized, rfl, hst, hZ, (name_of_methodNamed B.named B.method).1⟩
    (fun a u c1 n1 pc lv hc hn1 d hp H locs ls hP2 hD2 hS2 hl2 => W.widen hc hn1 (W.dret B.exec B.bytes B.returns (fun t ht hW => ⟨⟨a, u, rfl, hp, by rw [ht]; exact hP2, va_K.moved hW.alike hK, hD2⟩, hS2.F ht⟩) hS2.2.2 d B.notSynchronized))
  have hl := lv_entry av (n := nL) hlen
  rw [lg_entry_eq]
  exact hX s.heap [] _ hP hD0.self va_S.rf (by show lv_has _ c.maxLocals _; rw [hml]; exact hl)
/-- System.arraycopy of the first places -/
theorem v_copy (F : v_F X l k y cc nL Ts rm) {a0 a1 N0 N1 n9 : Nat} {f g : Nat → Int} (q0 q1 : Nat) (w' : va_W) (ha0 : w[q0]? = some (a0, .inl (k 0, N0, .inl (fun i => iI (f i))))) (ha1 : w[q1]? = some (a1, .inl (k 0, N1, .inl (fun i => iI (g i))))) (hn0 : n9 ≤ N0) (hn1 : n9 ≤ N1) (hN : n9 < 2147483648) (h1 : Cond.methodLink y.cls i arraycopyName ∈ Ts) (h2 : Cond.native arraycopyName ∈ Ts) (h3 : Cond.static arraycopyName ∈ Ts) (h4 : Cond.initialized "java/lang/System" ∈ Ts) (hr : 1 ≤ rm.frames ∧ (st.map fun v => v.category).sum + (nativeFrameWords "java/lang/System" "arraycopy" 5 + 11) ≤ rm.locals)
    (hw : w.set q1 (a1, .inl (k 0, N1, .inl (fun j => iI (if j < n9 then f j else g j)))) = w') (d : decode cc pc = .ok (.invokestatic i, 3)) (hq : pc + 3 = q) (kk : V X w' c n q lv st) : V X w c n pc lv (VI (n9 : Int) :: VI 0 :: .ref a1 :: VI 0 :: .ref a0 :: st) := by
  obtain ⟨⟨p, l, e, R, s⟩, ⟨m, args, below, meth, c0⟩, ⟨Q, D, A⟩⟩ := X
  obtain ⟨hx, hb, hml, hown, hts, hK, hA, hR, hlk, hll, hst, hZ, hnm⟩ := F
  intro H locs ls hP hD hS hl
  subst hq; subst hw
  have hR' : R = rm := hR
  subst hR'
  have e0 : (iI 0).toNatClampNeg = 0 := iI_clamp (j := 0) (by decide)
  have en : (iI (n9 : Int)).toNatClampNeg = n9 := iI_clamp hN
  have z0 : ¬ iI 0 < 0 := by decide
  have zn : ¬ iI (n9 : Int) < 0 := by rw [iI_0, iI_lt (by omega) R32_0]; omega
  refine va_copyi hx hb hl.1.symm hown (hts _ h1) (hts _ h2) (hts _ h3) (hts _ h4) hK hP hD hS q0 q1 0 0 ha0 ha1 rfl rfl rfl z0 z0 zn (by rw [e0, en]; omega) (by rw [e0, en]; omega) (fun _ _ => rfl) hr.1 hr.2 d ?_
  rw [e0, en, show va_cpy (fun i => iI (f i)) (fun i => iI (g i)) 0 0 n9 = (fun j => iI (if j < n9 then f j else g j)) from funext fun j => by unfold va_cpy; by_cases h : j < n9 <;> simp [h]]
  exact fun H locs hP hD hS => kk H locs ls hP hD hS hl
theorem v_weq {w9 : va_W} (h : w = w9) (kk : V X w9 c n pc lv st) : V X w c n pc lv st := h ▸ kk
/-! methods that throw -/
/-- an E thrown over the frame -/
def VT (X : vX) (w : va_W) (cells slots : Nat) (pc : Nat) (lv : List (Nat × Value)) (st : List Value) (E : String) : Prop :=
  ∀ (H : Heap) (locs : List Loc) (ls : Array Slot) (q : Addr) (ce : Cell), va_P X.2.2.2.1 vwCl w H → va_D X.2.2.2.2 w → va_S X.2.2.2.2 X.1.2.2.2.2.heap H locs → lv_has ls X.2.1.2.2.2.2.maxLocals lv → H[q]? = some ce → ce.vm = .none → X.1.2.2.2.2.vm.findClass E = some ce.cls →
    vx_W X.1.1 X.1.2.1 X.1.2.2.1 X.1.2.2.2.1 X.1.2.2.2.2 X.2.1.1 X.2.1.2.1 X.2.1.2.2.1 X.2.1.2.2.2.1 X.2.1.2.2.2.2 H locs cells slots X.2.2.1 (F0 X.2.1.1 pc ls st) q
/-- an int is answered, or one of the three is thrown -/
def v_Ct (l : Launch) (k : Nat → ClassId) (y : MethodName) (ws : List Cond) (rm : Room) (av : List Value) (w : va_W) (post : Int → va_W → Prop) (px : String → va_W → Prop) : Prop := ∀ (D : va_G) (sz : Nat), vx_Met l y ws rm (v_Pc D k sz av w) (va_Qi (fun r u => ∃ a : Int, r = iI a ∧ post a u) (v_B D k (va_A w sz)) (va_A w sz)) (vx_X (fun _ : va_W => True) (fun E u t => px E u ∧ v_B D k (va_A w sz) u t) (va_A w sz)) rm.cells rm.slots (va_A w sz)
def v_Ex (E : String) (ik ic : Nat) : Prop := Bundle.fit E = true ∧ (∀ w ∈ Cond.classLink RX5 ik E :: Cond.initialized E :: vx_atS RX5 ic E v_nm, vx_ot w = true) ∧ (∀ w ∈ (vx_atS RX5 ic E v_nm).filter (fun w => !goodWord w), w ∈ v_ng)
def v_In (Ts : List Cond) (E : String) (ik ic : Nat) : Prop := Cond.classLink RX5 ik E ∈ Ts ∧ Cond.initialized E ∈ Ts ∧ ∀ w ∈ (vx_atS RX5 ic E v_nm).filter goodWord, w ∈ Ts
theorem v_exA : v_Ex E_A 58 62 := ⟨by decide, by decide +kernel, by decide +kernel⟩
theorem v_exS : v_Ex E_S 69 73 := ⟨by decide, by decide +kernel, by decide +kernel⟩
theorem v_exX : v_Ex E_X 116 120 := ⟨by decide, by decide +kernel, by decide +kernel⟩
theorem v_ofX {av : List Value} {post : Int → va_W → Prop} {px : String → va_W → Prop} {ty : FieldType} {ws' : List Cond} (hyc : y.cls = RX5) (hy : plainName y.cls = true) (hw : Ts = Cond.code y cc nL (some ty) :: ws') (hst : l.stackTraces = false) (hlen : (lg_sl av).length ≤ nL) (hn : ∀ a u, post a u → narrow ty (.int (iI a)) = .int (iI a)) (hfr : 6 ≤ rm.frames) (hlo : 90 ≤ rm.locals)
    (body : ∀ X : vX, v_F X l k y cc nL Ts rm → (∀ (a : Int) (u : va_W) (c n pc : Nat) (lv : List (Nat × Value)), c ≤ rm.cells → n ≤ rm.slots → decode cc pc = .ok (.ireturn, 1) → post a u → V X u c n pc lv [VI a]) →
      (∀ (E text : String) (ik is ic : Nat) (u : va_W) (c n pc : Nat) (lv : List (Nat × Value)), v_Ex E ik ic → v_In Ts E ik ic → (is, text) ∈ v_strs → decode cc pc = .ok (.new ik, 3) → decode cc (pc + 3) = .ok (.dup, 1) → decode cc (pc + 4) = .ok (.ldc is, 2) → decode cc (pc + 6) = .ok (.invokespecial ic, 3) → decode cc (pc + 9) = .ok (.athrow, 1) → c + 1 ≤ rm.cells → n + 6 ≤ rm.slots → px E u → V X u c n pc lv []) → V X w 0 0 0 (lv_args 0 av) []) : v_Ct l k y Ts rm av w post px := by
  intro D sz
  refine vx_ofW (cc := cc) (maxL := nL) (ret := some ty) hy hw ?_
  intro p e s m args below meth c s₁ B hml hnoex hv
  obtain ⟨rfl, hsz, hP, hK, hD0, hZ⟩ := hv
  have hts := atoms_spec (ws := Ts) B.pre
  subst hsz
  have hown : s.vm.findClass y.cls = some m.cls := findClass_of_methodNamed B.named
  have hX := body ((p, l, e, (headSpec Ts rm).room, s), (m, av.toArray, below, meth, c), (vx_MQ below (va_Qi (fun r u => ∃ a : Int, r = iI a ∧ post a u) (v_B D k (va_A w s.heap.size)) (va_A w s.heap.size)) (vx_X (fun _ : va_W => True) (fun E u t => px E u ∧ v_B D k (va_A w s.heap.size) u t) (va_A w s.heap.size)) av.toArray s rm.cells rm.slots (va_A w s.heap.size), D, va_A w s.heap.size)) ⟨B.exec, B.bytes, hml, hown, hts, hK, fun q h => Or.inr h, rfl, B.notSynchronized, rfl, hst, hZ, (name_of_methodNamed B.named B.method).1⟩
    (fun a u c1 n1 pc lv hc hn1 d hp H locs ls hP2 hD2 hS2 hl2 => W.widen hc hn1 (vx_ret (W.zret (v := iI a) B.exec B.bytes B.returns (hn a u hp) (fun t ht hW => ⟨⟨iI a, u, rfl, ⟨a, rfl, hp⟩, by rw [ht]; exact hP2, va_K.moved hW.alike hK, hD2⟩, hS2.F ht⟩) hS2.2.2 d B.notSynchronized)))
    (fun E text ik is ic u c1 n1 pc lv hE hIn hstr d0 d3 d4 d6 d9 hc hn1 hp H locs ls hP2 hD2 hS2 hl2 => by
      obtain ⟨sa, hsa⟩ := hZ.2.2.1 (is, text) hstr
      rw [hyc] at hown
      refine vx_throwS (names := v_nm) (A := va_A w s.heap.size) (text := text) (sa := sa) B.exec B.bytes hst hown hE.1 (by decide) (hts _ hIn.1) (hts _ hIn.2.1) hsa (vx_hat (fun w9 h9 => hts w9 (hIn.2.2 w9 h9)) hE.2.2 (fun w9 h9 => va_Nw.use (v_dct (v_ng_dc w9 h9)) (hZ.2.2.2.1 w9 h9))) hE.2.1 hZ.1 hZ.2.1 hS2 hl2.1 d0 d3 d4 d6 d9 (fun x hx => (hnoex x hx).elim) (Nat.lt_of_lt_of_le (by decide) hfr) (Nat.le_trans (by decide) hlo) hc hn1 B.notSynchronized (fun t hal hz1 hk1 => ⟨u, trivial, ⟨hp, va_P.kept hP2 (fun j q hj => hk1 q.1 (vx_lt hP2 hj)), va_K.moved hal hK, hD2⟩, Nat.le_trans hS2.1 hz1, fun q h1 h2 => by rw [hk1 q (Nat.lt_of_lt_of_le h1 hS2.1)]; exact hS2.2.1 q h1 h2⟩) hS2.2.2 hc hn1)
  have hl := lv_entry av (n := nL) hlen
  rw [lg_entry_eq]
  exact hX s.heap [] _ hP hD0.self va_S.rf (by show lv_has _ c.maxLocals _; rw [hml]; exact hl)
theorem v_callVt (F : v_F X l k y cc nL Ts rm) {post : Int → va_W → Prop} {px : String → va_W → Prop} (hC : v_Ct l k y2 ws2 rm2 (.ref b :: As) w1 post px) (hw : w = w1 ++ w2) (hT : GoodIn Ts (wsV y.cls i C y2 ws2)) (hw2 : ws2 = Cond.code y2 cc2 nL2 ret2 :: ws2') (hd : y2.cls = C ∧ y2.cls ≠ "java/lang/invoke/MethodHandle" ∧ y2.cls ≠ "java/lang/invoke/VarHandle" ∧ (parseMethodDescriptor y2.desc).map (fun d => d.parameters.length) = some na) (hR2 : rm2.frames + 1 ≤ rm.frames ∧ 8 + (nL2 + 11) + rm2.locals ≤ rm.locals)
    (q0 : Nat) {ci : Nat} {fs : List Value} {T : u_T} {N : Nat} (he : w1[q0]? = some (b, .inr (ci, fs))) (hc : vwCl[ci]? = some (C, T, N)) (hn : As.length = na) (hst2 : st = As.reverse ++ .ref b :: rest) (hcat : (rest.map fun v => v.category).sum ≤ 8) (hf : c + rm2.cells ≤ rm.cells ∧ n + rm2.slots ≤ rm.slots) (d : decode cc pc = .ok (.invokevirtual i, 3)) (hq : pc + 3 = q)
    (kx : ∀ (E : String) (u : va_W), px E u → VT X (u ++ w2) (c + rm2.cells) (n + rm2.slots) pc lv rest E)
    (kk : ∀ (a : Int) (u : va_W), post a u → V X (u ++ w2) (c + rm2.cells) (n + rm2.slots) q lv (VI a :: rest)) : V X w c n pc lv st := by
  obtain ⟨⟨p, l, e, R, s⟩, ⟨m, args, below, meth, c0⟩, ⟨Q, D, A⟩⟩ := X
  obtain ⟨hx, hb, hml, hown, hts, hK, hA, hR, hlk, hll, hst, hZ, hnm⟩ := F
  intro H locs ls hP hD hS hl
  subst hq; subst hw; subst hll
  have hR' : R = rm := hR
  subst hR'
  have p1 := (v_splP hP).1
  have d1 := (v_splD hD).1
  have hF := v_free d1 hS hA
  refine vx_calli (vx_runV (As := As) (rest := rest) ⟨hx, hb, hml, hown, hts⟩ (hC D H.size) (cwV na hts hT hw2 rfl rfl hd hR2) ⟨v_blind, va_recv hK p1 hc he, fun U hU hW => v_prec hK p1 d1 hS hA hZ U hU hW⟩ rfl hn (hl.1.trans hml) hst2 (lv_room hcat) d hf) hS (fun q _ h => hF q h) hF (fun q _ h => hF q h) (fun E ce q9 u t H1 locs1 ht hvm _ hB hz1 hk1 hS1 hce hcv hcl => ?_) (fun r u t H1 locs1 ht hvm hwp hB hz1 hk1 hS1 => ?_)
  · obtain ⟨hpx, hP1, hK1, hD1⟩ := hB
    rw [ht] at hP1
    obtain ⟨g1, g2⟩ := v_back hP hD hS hA hP1 hD1 hk1
    exact kx E u hpx H1 locs1 ls q9 ce g1 g2 hS1 hl hce hcv hcl
  · obtain ⟨a, rfl, hp⟩ := hwp
    obtain ⟨hP1, hK1, hD1⟩ := hB
    rw [ht] at hP1
    obtain ⟨g1, g2⟩ := v_back hP hD hS hA hP1 hD1 hk1
    exact kk a u hp H1 locs1 ls g1 g2 hS1 hl
/-- a call that can't throw here -/
theorem v_callVt0 (F : v_F X l k y cc nL Ts rm) {post : Int → va_W → Prop} {px : String → va_W → Prop} (hC : v_Ct l k y2 ws2 rm2 (.ref b :: As) w post px) (hno : ∀ (E : String) (u : va_W), ¬ px E u) (hT : GoodIn Ts (wsV y.cls i C y2 ws2)) (hw2 : ws2 = Cond.code y2 cc2 nL2 ret2 :: ws2') (hd : y2.cls = C ∧ y2.cls ≠ "java/lang/invoke/MethodHandle" ∧ y2.cls ≠ "java/lang/invoke/VarHandle" ∧ (parseMethodDescriptor y2.desc).map (fun d => d.parameters.length) = some na) (hR2 : rm2.frames + 1 ≤ rm.frames ∧ 8 + (nL2 + 11) + rm2.locals ≤ rm.locals)
    (q0 : Nat) {ci : Nat} {fs : List Value} {T : u_T} {N : Nat} (he : w[q0]? = some (b, .inr (ci, fs))) (hc : vwCl[ci]? = some (C, T, N)) (hn : As.length = na) (hst2 : st = As.reverse ++ .ref b :: rest) (hcat : (rest.map fun v => v.category).sum ≤ 8) (hf : c + rm2.cells ≤ rm.cells ∧ n + rm2.slots ≤ rm.slots) (d : decode cc pc = .ok (.invokevirtual i, 3)) (hq : pc + 3 = q)
    (kk : ∀ (a : Int) (u : va_W), post a u → V X u (c + rm2.cells) (n + rm2.slots) q lv (VI a :: rest)) : V X w c n pc lv st :=
  v_callVt F hC (List.append_nil w).symm hT hw2 hd hR2 q0 he hc hn hst2 hcat hf d hq (fun E u h => absurd h (hno E u)) (fun a u hp => by rw [List.append_nil]; exact kk a u hp)
/-- caught by a row of this method's table -/
theorem v_catch (F : v_F X l k y cc nL Ts rm) {E : String} {hh : List (Nat × Nat × Nat × Nat)} (hTab : X.2.1.2.2.2.2.exceptionTable.toList = tableOf hh) (pre : List ExceptionTableEntry) (x : ExceptionTableEntry) (suf : List ExceptionTableEntry) (hsplit : tableOf hh = pre ++ x :: suf) (hpass : ∀ z ∈ pre, covers z pc = false ∨ (z.catchType ≠ 0 ∧ ∃ nm : String, Cond.classLink y.cls z.catchType nm ∈ Ts ∧ (E, nm) ∈ v_nc)) (hx0 : covers x pc = true) (h0 : x.catchType ≠ 0) (hlink : Cond.classLink y.cls x.catchType E ∈ Ts) (hcast : Cond.castable E E ∈ v_ng) (kk : ∀ q9 : Nat, V X w c n x.handlerPc lv [.ref q9]) : VT X w c n pc lv st E := by
  obtain ⟨⟨p, l, e, R, s⟩, ⟨m, args, below, meth, c0⟩, ⟨Q, D, A⟩⟩ := X
  obtain ⟨hx, hb, hml, hown, hts, hK, hA, hR, hlk, hll, hst, hZ, hnm⟩ := F
  intro H locs ls q ce hP hD hS hl hce hcv hcl
  exact vx_catch hown pre x suf (hTab.trans hsplit) (fun z hz => (hpass z hz).elim Or.inl (fun h => Or.inr ⟨h.1, h.2.elim fun nm hn => ⟨nm, hts _ hn.1, hZ.2.2.2.2 (E, nm) hn.2⟩⟩)) hx0 h0 (hts _ hlink) (va_Nw.use (v_dct (v_ng_dc _ hcast)) (hZ.2.2.2.1 _ hcast)) hce hcv hcl (kk q H locs ls hP hD hS hl)
end VCalls
section VRows
end VRows
