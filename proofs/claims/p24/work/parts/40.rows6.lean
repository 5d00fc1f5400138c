/-! ===== the property's rows: its script in a callee, a ship that is handed out, numbers that are alike ===== -/
/-- the script, as a callee finds it -/
def v_XS (b L : Nat) (xs : Nat → Int32) (A : Nat → Prop) (U : State) : Prop := va_X b L xs U U.heap ∧ b < U.heap.size ∧ ¬ A b
theorem v_xsb {b L : Nat} {xs : Nat → Int32} {A : Nat → Prop} {U U' : State} (hv : U.vm.Alike U'.vm) (hh : U'.heap = U.heap) (h : v_XS b L xs A U) : v_XS b L xs A U' := ⟨by rw [hh]; exact h.1.moved hv, by rw [hh]; exact h.2.1, h.2.2⟩
theorem v_xsc {b L : Nat} {xs : Nat → Int32} {A : Nat → Prop} {w : va_W} {s : State} {H : Heap} {locs : List Loc} (hX : va_X b L xs s s.heap) (hbl : b < s.heap.size) (hbA : ¬ A b) (hD : va_D A w) (hS : va_S A s.heap H locs) (hA : ∀ q, s.heap.size ≤ q → A q) (U : State) (hU : U.heap = H) (hW : s.WarmedH U.vm) : v_XS b L xs (va_A w H.size) U := by
  refine ⟨?_, ?_, fun h => hbA (v_free hD hS hA b h)⟩
  · rw [hU]; exact (hX.kept (hS.2.1 b hbl hbA)).moved hW.alike
  · rw [hU]; exact Nat.lt_of_lt_of_le hbl hS.1
/-- an int is answered, and the script was there -/
def v_Cx (l : Launch) (k : Nat → ClassId) (y : MethodName) (ws : List Cond) (rm : Room) (av : List Value) (w : va_W) (b L : Nat) (xs : Nat → Int32) (post : Int → va_W → Prop) : Prop := ∀ (D : va_G) (sz : Nat), Met l y ws rm (fun a U => v_Pc D k sz av w a U ∧ v_XS b L xs (va_A w sz) U) (va_Qi (fun r u => ∃ a : Int, r = iI a ∧ post a u) (v_B D k (va_A w sz)) (va_A w sz)) rm.cells rm.slots (va_A w sz)
/-- a cell is answered, the script and the nest's links were there -/
def v_Cr (l : Launch) (k : Nat → ClassId) (y : MethodName) (ws : List Cond) (rm : Room) (av : List Value) (w : va_W) (b L : Nat) (xs : Nat → Int32) (post : Nat → va_W → Prop) : Prop := ∀ (D : va_G) (sz : Nat), Met l y ws rm (fun a U => v_Pc D k sz av w a U ∧ v_XS b L xs (va_A w sz) U ∧ v_NX U) (va_Qr (S := Nat × va_W) (fun u => post u.1 u.2) (fun u r t => r = u.1 ∧ v_B D k (va_A w sz) u.2 t) (va_A w sz)) rm.cells rm.slots (va_A w sz)
section VOwn
variable {X : vX} {l : Launch} {k : Nat → ClassId} {y : MethodName} {cc : ByteArray} {nL : Nat} {Ts : List Cond} {rm : Room} {w w1 w2 : va_W} {c n : Nat} {pc q : Nat} {lv : List (Nat × Value)} {st rest : List Value}
theorem v_ldc (F : v_F X l k y cc nL Ts rm) {i : Nat} {v : Int} (hc : Jvm.Cond.constant y.cls i (iI v) ∈ Ts) (d : decode cc pc = .ok (.ldc i, 2)) (hq : pc + 2 = q) (kk : V X w c n q lv (VI v :: st)) : V X w c n pc lv st := by
  obtain ⟨⟨p, l, e, R, s⟩, ⟨m, args, below, meth, c0⟩, ⟨Q, D, A⟩⟩ := X
  obtain ⟨hx, hb, hml, hown, hts, hK, hA, hR, hlk, hll, hst, hZ, hnm⟩ := F
  intro H locs ls hP hD hS hl
  subst hq; exact lv_ldc hx hb hown (hts _ hc) d (kk H locs ls hP hD hS hl)
theorem v_sld (F : v_F X l k y cc nL Ts rm) {b L j : Nat} {xs : Nat → Int32} {x : Int} (hX : va_X b L xs X.1.2.2.2.2 X.1.2.2.2.2.heap) (hbl : b < X.1.2.2.2.2.heap.size) (hbA : ¬ X.2.2.2.2 b) (hL : L ≤ 2560) (hx2 : x = (j : Int)) (hj : j < L) (d : decode cc pc = .ok (.iaload, 1)) (hq : pc + 1 = q) (kk : V X w c n q lv (VI (xs j).toInt :: st)) : V X w c n pc lv (VI x :: .ref b :: st) := by
  obtain ⟨⟨p, l, e, R, s⟩, ⟨m, args, below, meth, c0⟩, ⟨Q, D, A⟩⟩ := X
  obtain ⟨hx, hb, hml, hown, hts, hK, hA, hR, hlk, hll, hst, hZ, hnm⟩ := F
  intro H locs ls hP hD hS hl
  subst hq; subst hx2
  refine va_sld hx hb hX hbl hbA hS (iI_in hj (by omega)) d ?_
  rw [iI_clamp (by omega)]
  have e9 : VI (xs j).toInt = .int (xs j) := by show Value.int (iI (xs j).toInt) = _; rw [iI_of]
  rw [← e9]
  exact kk H locs ls hP hD hS hl
theorem v_slen (F : v_F X l k y cc nL Ts rm) {b L : Nat} {xs : Nat → Int32} (hX : va_X b L xs X.1.2.2.2.2 X.1.2.2.2.2.heap) (hbl : b < X.1.2.2.2.2.heap.size) (hbA : ¬ X.2.2.2.2 b) (d : decode cc pc = .ok (.arraylength, 1)) (hq : pc + 1 = q) (kk : V X w c n q lv (VI (L : Int) :: st)) : V X w c n pc lv (.ref b :: st) := by
  obtain ⟨⟨p, l, e, R, s⟩, ⟨m, args, below, meth, c0⟩, ⟨Q, D, A⟩⟩ := X
  obtain ⟨hx, hb, hml, hown, hts, hK, hA, hR, hlk, hll, hst, hZ, hnm⟩ := F
  intro H locs ls hP hD hS hl
  subst hq
  refine va_slen hx hb hX hbl hbA hS d ?_
  have e9 : VI (L : Int) = .int (Int32.ofNat L) := by show Value.int (iI (L : Int)) = _; rw [iI_nat]; rfl
  rw [← e9]
  exact kk H locs ls hP hD hS hl
/-- alike: the branch is known, whatever the numbers' size -/
theorem v_icmp_eq0 (F : v_F X l k y cc nL Ts rm) {a b off : Int} {tgt : Nat} (h : a = b) (d : decode cc pc = .ok (.if_icmp .eq off, 3)) (ht : (pc : Int) + off = (tgt : Int)) (kt : V X w c n tgt lv st) : V X w c n pc lv (VI b :: VI a :: st) := by
  obtain ⟨⟨p, l, e, R, s⟩, ⟨m, args, below, meth, c0⟩, ⟨Q, D, A⟩⟩ := X
  obtain ⟨hx, hb, hml, hown, hts, hK, hA, hR, hlk, hll, hst, hZ, hnm⟩ := F
  intro H locs ls hP hD hS hl
  subst h
  exact lv_icmp_eq hx hb d ht (fun h => kt H locs ls hP hD hS hl) (fun h => absurd rfl h)
theorem v_icmp_ne0 (F : v_F X l k y cc nL Ts rm) {a b off : Int} {tgt : Nat} (h : a = b) (d : decode cc pc = .ok (.if_icmp .ne off, 3)) (ht : (pc : Int) + off = (tgt : Int)) (hq : pc + 3 = q) (kf : V X w c n q lv st) : V X w c n pc lv (VI b :: VI a :: st) := by
  obtain ⟨⟨p, l, e, R, s⟩, ⟨m, args, below, meth, c0⟩, ⟨Q, D, A⟩⟩ := X
  obtain ⟨hx, hb, hml, hown, hts, hK, hA, hR, hlk, hll, hst, hZ, hnm⟩ := F
  intro H locs ls hP hD hS hl
  subst hq; subst h
  exact lv_icmp_ne hx hb d ht (fun h => absurd rfl h) (fun h => kf H locs ls hP hD hS hl)
theorem lg_self (a : Int64) : lg_cmp a a = iI 0 := by
  unfold lg_cmp
  simp
  try decide
theorem v_lcmp0 (F : v_F X l k y cc nL Ts rm) {a b : Int64} (h : a = b) (d : decode cc pc = .ok (.lcmp, 1)) (hq : pc + 1 = q) (kk : V X w c n q lv (VI 0 :: st)) : V X w c n pc lv (.long b :: .long a :: st) := by
  subst h
  exact v_lcmp F d (lg_self a) hq kk
/-- shifted to the right: some int -/
theorem v_shr (F : v_F X l k y cc nL Ts rm) {a b : Int} (d : decode cc pc = .ok (.ishr, 1)) (hq : pc + 1 = q) (kk : ∀ z : Int, R32 z → V X w c n q lv (VI z :: st)) : V X w c n pc lv (VI b :: VI a :: st) :=
  v_ishr F d (iI_of _).symm hq (kk _ (R32_of _))
/-- any int, by a number in its range -/
theorem v_any (kk : ∀ z : Int, R32 z → V X w c n pc lv (VI z :: st)) {a : Int} : V X w c n pc lv (VI a :: st) := by
  have h := kk (iI a).toInt (R32_of _)
  rw [show VI (iI a).toInt = VI a from by show Value.int (iI (iI a).toInt) = _; rw [iI_of]] at h
  exact h
theorem v_ofX1 {b L : Nat} {xs : Nat → Int32} {av : List Value} {post : Int → va_W → Prop} {ty : FieldType} {ws' : List Cond} (hy : plainName y.cls = true) (hw : Ts = Cond.code y cc nL (some ty) :: ws') (hst : l.stackTraces = false) (hlen : (lg_sl av).length ≤ nL) (hn : ∀ a u, post a u → narrow ty (.int (iI a)) = .int (iI a))
    (body : ∀ X : vX, va_X b L xs X.1.2.2.2.2 X.1.2.2.2.2.heap → b < X.1.2.2.2.2.heap.size → ¬ X.2.2.2.2 b → v_F X l k y cc nL Ts rm → (∀ (a : Int) (u : va_W) (c n pc : Nat) (lv : List (Nat × Value)), c ≤ rm.cells → n ≤ rm.slots → decode cc pc = .ok (.ireturn, 1) → post a u → V X u c n pc lv [VI a]) → V X w 0 0 0 (lv_args 0 av) []) : v_Cx l k y Ts rm av w b L xs post := by
  intro D sz
  refine Met.ofW (cc := cc) (maxL := nL) (ret := some ty) hy hw ?_
  intro p e s m args below meth c s₁ B hml hv
  obtain ⟨⟨rfl, hsz, hP, hK, hD0, hZ⟩, hX1, hX2, hX3⟩ := hv
  have hts := atoms_spec (ws := Ts) B.pre
  subst hsz
  have hX := body ((p, l, e, (headSpec Ts rm).room, s), (m, av.toArray, below, meth, c), (MQ below (va_Qi (fun r u => ∃ a : Int, r = iI a ∧ post a u) (v_B D k (va_A w s.heap.size)) (va_A w s.heap.size)) av.toArray s rm.cells rm.slots (va_A w s.heap.size), D, va_A w s.heap.size)) hX1 hX2 hX3 ⟨B.exec, B.bytes, hml, findClass_of_methodNamed B.named, hts, hK, fun q h => Or.inr h, rfl, B.notSynchronized, rfl, hst, hZ, (name_of_methodNamed B.named B.method).1⟩
    (fun a u c1 n1 pc lv hc hn1 d hp H locs ls hP2 hD2 hS2 hl2 => W.widen hc hn1 (W.zret (v := iI a) B.exec B.bytes B.returns (hn a u hp) (fun t ht hW => ⟨⟨iI a, u, rfl, ⟨a, rfl, hp⟩, by rw [ht]; exact hP2, va_K.moved hW.alike hK, hD2⟩, hS2.F ht⟩) hS2.2.2 d B.notSynchronized))
  have hl := lv_entry av (n := nL) hlen
  rw [lg_entry_eq]
  exact hX s.heap [] _ hP hD0.self va_S.rf (by show lv_has _ c.maxLocals _; rw [hml]; exact hl)
theorem v_ofR {b L : Nat} {xs : Nat → Int32} {av : List Value} {post : Nat → va_W → Prop} {C : String} {hh : List (Nat × Nat × Nat × Nat)} {ws' : List Cond} (hy : plainName y.cls = true) (hw : Ts = Cond.codeWith y cc nL (some (.object C)) hh :: ws') (hst : l.stackTraces = false) (hlen : (lg_sl av).length ≤ nL)
    (body : ∀ X : vX, va_X b L xs X.1.2.2.2.2 X.1.2.2.2.2.heap → b < X.1.2.2.2.2.heap.size → ¬ X.2.2.2.2 b → v_NX X.1.2.2.2.2 → v_F X l k y cc nL Ts rm → X.2.1.2.2.2.2.exceptionTable.toList = tableOf hh → (∀ (a : Nat) (u : va_W) (c n pc : Nat) (lv : List (Nat × Value)), c ≤ rm.cells → n ≤ rm.slots → decode cc pc = .ok (.areturn, 1) → post a u → V X u c n pc lv [.ref a]) → V X w 0 0 0 (lv_args 0 av) []) : v_Cr l k y Ts rm av w b L xs post := by
  intro D sz
  refine va_MetW (cc := cc) (maxL := nL) (ret := some (.object C)) (hh := hh) hy hw ?_
  intro p e s m args below meth c s₁ B hml hv
  obtain ⟨⟨rfl, hsz, hP, hK, hD0, hZ⟩, ⟨hX1, hX2, hX3⟩, hN⟩ := hv
  have hts := atoms_spec (ws := Ts) B.pre
  have hTab : c.exceptionTable.toList = tableOf hh := vx_table (x := y) B (hts _ (by rw [hw]; exact List.mem_cons_self))
  subst hsz
  have hX := body ((p, l, e, (headSpec Ts rm).room, s), (m, av.toArray, below, meth, c), (MQ below (va_Qr (S := Nat × va_W) (fun u => post u.1 u.2) (fun u r t => r = u.1 ∧ v_B D k (va_A w s.heap.size) u.2 t) (va_A w s.heap.size)) av.toArray s rm.cells rm.slots (va_A w s.heap.size), D, va_A w s.heap.size)) hX1 hX2 hX3 hN ⟨B.exec, B.bytes, hml, findClass_of_methodNamed B.named, hts, hK, fun q h => Or.inr h, rfl, B.notSynchronized, rfl, hst, hZ, (name_of_methodNamed B.named B.method).1⟩ hTab
    (fun a u c1 n1 pc lv hc hn1 d hp H locs ls hP2 hD2 hS2 hl2 => W.widen hc hn1 (W.aret (v := .ref a) B.exec B.bytes B.returns (Or.inl ⟨C, rfl⟩) (Or.inr ⟨a, rfl⟩) (fun t ht hW => ⟨⟨(a, u), a, rfl, hp, rfl, by rw [ht]; exact hP2, va_K.moved hW.alike hK, hD2⟩, hS2.F ht⟩) hS2.2.2 d B.notSynchronized))
  have hl := lv_entry av (n := nL) hlen
  rw [lg_entry_eq]
  exact hX s.heap [] _ hP hD0.self va_S.rf (by show lv_has _ c.maxLocals _; rw [hml]; exact hl)
theorem v_callSx {y2 : MethodName} {cc2 : ByteArray} {nL2 : Nat} {ret2 : Option FieldType} {ws2 ws2' : List Cond} {rm2 : Room} {As : List Value} {i na : Nat} (F : v_F X l k y cc nL Ts rm) {b L : Nat} {xs : Nat → Int32} (hX : va_X b L xs X.1.2.2.2.2 X.1.2.2.2.2.heap) (hbl : b < X.1.2.2.2.2.heap.size) (hbA : ¬ X.2.2.2.2 b) {post : Int → va_W → Prop} (hC : v_Cx l k y2 ws2 rm2 As w1 b L xs post) (hw : w = w1 ++ w2) (hT : GoodIn Ts (va_wsS y.cls i y2 ws2)) (hw2 : ws2 = Cond.code y2 cc2 nL2 ret2 :: ws2') (hd : y2.cls ≠ "java/lang/invoke/MethodHandle" ∧ y2.cls ≠ "java/lang/invoke/VarHandle" ∧ (parseMethodDescriptor y2.desc).map (fun d => d.parameters.length) = some na) (hR2 : rm2.frames + 1 ≤ rm.frames ∧ 8 + (nL2 + 11) + rm2.locals ≤ rm.locals)
    (hn : As.length = na) (hst2 : st = As.reverse ++ rest) (hcat : (rest.map fun v => v.category).sum ≤ 8) (hf : c + rm2.cells ≤ rm.cells ∧ n + rm2.slots ≤ rm.slots) (d : decode cc pc = .ok (.invokestatic i, 3)) (hq : pc + 3 = q)
    (kk : ∀ (a : Int) (u : va_W), post a u → V X (u ++ w2) (c + rm2.cells) (n + rm2.slots) q lv (VI a :: rest)) : V X w c n pc lv st := by
  obtain ⟨⟨p, l, e, R, s⟩, ⟨m, args, below, meth, c0⟩, ⟨Q, D, A⟩⟩ := X
  obtain ⟨hx, hb, hml, hown, hts, hK, hA, hR, hlk, hll, hst, hZ, hnm⟩ := F
  intro H locs ls hP hD hS hl
  subst hq; subst hw; subst hll
  have hR' : R = rm := hR
  subst hR'
  have p1 := (v_splP hP).1
  have d1 := (v_splD hD).1
  have hF := v_free d1 hS hA
  refine va_calli (va_runS (As := As) (rest := rest) ⟨hx, hb, hml, hown, hts⟩ (hC D H.size) (va_cwS na hts hT hw2 rfl rfl hd hR2) ⟨fun a U g mk q => ⟨v_blind a U g mk q.1, v_xsb (U := U) (U' := U.calling g mk a) (Vm.Alike.refl U.vm) rfl q.2⟩, fun U hU hW => ⟨v_prec hK p1 d1 hS hA hZ U hU hW, v_xsc hX hbl hbA d1 hS hA U hU hW⟩⟩ rfl hn (hl.1.trans hml) hst2 (lv_room hcat) d hf) hS (fun q _ h => hF q h) hF (fun r u t H1 locs1 ht hvm hwp hB hz1 hk1 hS1 => ?_)
  obtain ⟨a, rfl, hp⟩ := hwp
  obtain ⟨hP1, hK1, hD1⟩ := hB
  rw [ht] at hP1
  obtain ⟨g1, g2⟩ := v_back hP hD hS hA hP1 hD1 hk1
  exact kk a u hp H1 locs1 ls g1 g2 hS1 hl
theorem v_callSr {y2 : MethodName} {cc2 : ByteArray} {nL2 : Nat} {ret2 : Option FieldType} {ws2 ws2' : List Cond} {rm2 : Room} {As : List Value} {i na : Nat} {hh : List (Nat × Nat × Nat × Nat)} (F : v_F X l k y cc nL Ts rm) {b L : Nat} {xs : Nat → Int32} (hX : va_X b L xs X.1.2.2.2.2 X.1.2.2.2.2.heap) (hbl : b < X.1.2.2.2.2.heap.size) (hbA : ¬ X.2.2.2.2 b) (hN : v_NX X.1.2.2.2.2) {post : Nat → va_W → Prop} (hC : v_Cr l k y2 ws2 rm2 As w1 b L xs post) (hw : w = w1 ++ w2) (hT : GoodIn Ts (va_wsS y.cls i y2 ws2)) (hw2 : ws2 = Cond.codeWith y2 cc2 nL2 ret2 hh :: ws2') (hd : y2.cls ≠ "java/lang/invoke/MethodHandle" ∧ y2.cls ≠ "java/lang/invoke/VarHandle" ∧ (parseMethodDescriptor y2.desc).map (fun d => d.parameters.length) = some na) (hR2 : rm2.frames + 1 ≤ rm.frames ∧ 8 + (nL2 + 11) + rm2.locals ≤ rm.locals)
    (hn : As.length = na) (hst2 : st = As.reverse ++ rest) (hcat : (rest.map fun v => v.category).sum ≤ 8) (hf : c + rm2.cells ≤ rm.cells ∧ n + rm2.slots ≤ rm.slots) (d : decode cc pc = .ok (.invokestatic i, 3)) (hq : pc + 3 = q)
    (kk : ∀ (a : Nat) (u : va_W), post a u → V X (u ++ w2) (c + rm2.cells) (n + rm2.slots) q lv (.ref a :: rest)) : V X w c n pc lv st := by
  obtain ⟨⟨p, l, e, R, s⟩, ⟨m, args, below, meth, c0⟩, ⟨Q, D, A⟩⟩ := X
  obtain ⟨hx, hb, hml, hown, hts, hK, hA, hR, hlk, hll, hst, hZ, hnm⟩ := F
  intro H locs ls hP hD hS hl
  subst hq; subst hw; subst hll
  have hR' : R = rm := hR
  subst hR'
  have p1 := (v_splP hP).1
  have d1 := (v_splD hD).1
  have hF := v_free d1 hS hA
  refine va_callr (vx_runSW (As := As) (rest := rest) ⟨hx, hb, hml, hown, hts⟩ (hC D H.size) (vx_cwSW na hts hT hw2 rfl rfl hd hR2) ⟨fun a U g mk q => ⟨v_blind a U g mk q.1, v_xsb (U := U) (U' := U.calling g mk a) (Vm.Alike.refl U.vm) rfl q.2.1, v_NX.same rfl q.2.2⟩, fun U hU hW => ⟨v_prec hK p1 d1 hS hA hZ U hU hW, v_xsc hX hbl hbA d1 hS hA U hU hW, v_NX.warm hW hN⟩⟩ rfl hn (hl.1.trans hml) hst2 (lv_room hcat) d hf) hS (fun q _ h => hF q h) hF (fun u ra t H1 locs1 ht hvm hwp hB hz1 hk1 hS1 => ?_)
  obtain ⟨rfl, hP1, hK1, hD1⟩ := hB
  rw [ht] at hP1
  obtain ⟨g1, g2⟩ := v_back hP hD hS hA hP1 hD1 hk1
  exact kk _ u.2 hwp H1 locs1 ls g1 g2 hS1 hl
end VOwn
theorem and_top (a : Int) : 0 ≤ (iI a &&& iI 2147483647).toInt ∧ (iI a &&& iI 2147483647).toInt < 2147483648 := by
  have h2 : ((iI a).toBitVec &&& 2147483647#32).toNat ≤ 2147483647 := by rw [BitVec.toNat_and]; exact Nat.and_le_right
  have h3 : (iI a &&& iI 2147483647).toInt = ((iI a).toBitVec &&& 2147483647#32).toInt := rfl
  rw [h3, BitVec.toInt_eq_toNat_of_lt (by omega)]
  omega
/-! ===== a number below another, a cell of the script ===== -/
theorem hdL_below : yL_below.cls ≠ "java/lang/invoke/MethodHandle" ∧ yL_below.cls ≠ "java/lang/invoke/VarHandle" ∧ (parseMethodDescriptor yL_below.desc).map (fun d => d.parameters.length) = some 2 := by decide +kernel
theorem kL_below {l : Launch} (hst : l.stackTraces = false) {k : Nat → ClassId} {w : va_W} {a0 a1 : Int} (g1 : 1 ≤ a1 ∧ a1 < 2147483648) : v_Ci l k yL_below wsL_below ({ frames := 0, cells := 0, slots := 0, locals := 0 } : Room) [VI a0, VI a1] w (fun a u => u = w ∧ 0 ≤ a ∧ a < a1) := by
  refine v_ofI (cc := cL_below) (nL := 2) (by decide +kernel) rfl hst (Nat.le_of_ble_eq_true rfl) (fun _ _ _ => rfl) (fun XX F ret => ?_)
  show V XX w 0 0 0 [(0, VI a0), (1, VI a1)] []
  refine v_iload_n F 0 (q := 1) dL_below_0 rfl rfl rfl ?_
  refine v_ldc F (v := 2147483647) (q := 3) (by decide +kernel) dL_below_1 rfl ?_
  have hz := and_top a0
  refine v_iand F (q := 4) (z := (iI a0 &&& iI 2147483647).toInt) dL_below_3 (iI_of _).symm rfl ?_
  generalize (iI a0 &&& iI 2147483647).toInt = z at hz
  refine v_iload_n F 1 (q := 5) dL_below_4 rfl rfl rfl ?_
  refine v_irem F (q := 6) (by omega) (by omega) dL_below_5 rfl ?_
  exact ret _ _ _ _ _ _ (Nat.zero_le _) (Nat.zero_le _) dL_below_6 ⟨rfl, Int.emod_nonneg _ (by omega), Int.emod_lt_of_pos _ (by omega)⟩
theorem hdL_cell : yL_cell.cls ≠ "java/lang/invoke/MethodHandle" ∧ yL_cell.cls ≠ "java/lang/invoke/VarHandle" ∧ (parseMethodDescriptor yL_cell.desc).map (fun d => d.parameters.length) = some 2 := by decide +kernel
theorem kL_cell {l : Launch} (hst : l.stackTraces = false) {k : Nat → ClassId} {w : va_W} {b L : Nat} {xs : Nat → Int32} (hL : L ≤ 2560) {a1 : Int} (g1 : 0 ≤ a1 ∧ a1 < 2147483648) : v_Cx l k yL_cell wsL_cell ({ frames := 0, cells := 0, slots := 0, locals := 0 } : Room) [.ref b, VI a1] w b L xs (fun a u => u = w ∧ R32 a) := by
  refine v_ofX1 (cc := cL_cell) (nL := 2) (by decide +kernel) rfl hst (Nat.le_of_ble_eq_true rfl) (fun _ _ _ => rfl) (fun XX hX hbl hbA F ret => ?_)
  show V XX w 0 0 0 [(0, .ref b), (1, VI a1)] []
  refine v_iload_n F 1 (q := 1) dL_cell_0 rfl rfl rfl ?_
  refine v_aload_n F 0 (q := 2) dL_cell_1 rfl rfl rfl ?_
  refine v_slen F hX hbl hbA (q := 3) dL_cell_2 rfl ?_
  refine v_icmp_ge F (tgt := 12) (q := 6) (by omega) (by omega) dL_cell_3 rfl rfl (fun h => ?_) (fun h => ?_)
  · refine v_ldc F (v := 790386105) (q := 14) (by decide +kernel) dL_cell_12 rfl ?_
    refine v_iload_n F 1 (q := 15) dL_cell_14 rfl rfl rfl ?_
    refine v_const F (q := 16) dL_cell_15 rfl ?_
    refine v_iadd F (q := 17) dL_cell_16 rfl ?_
    refine v_imul F (q := 18) dL_cell_17 rfl ?_
    refine v_any (fun z hz => ?_)
    exact ret _ _ _ _ _ _ (Nat.zero_le _) (Nat.zero_le _) dL_cell_18 ⟨rfl, hz⟩
  · refine v_aload_n F 0 (q := 7) dL_cell_6 rfl rfl rfl ?_
    refine v_iload_n F 1 (q := 8) dL_cell_7 rfl rfl rfl ?_
    refine v_sld F (j := a1.toNat) hX hbl hbA hL (by omega) (by omega) (q := 9) dL_cell_8 rfl ?_
    refine v_goto F (tgt := 18) dL_cell_9 rfl ?_
    exact ret _ _ _ _ _ _ (Nat.zero_le _) (Nat.zero_le _) dL_cell_18 ⟨rfl, R32_of _⟩
section VOwn2
variable {X : vX} {l : Launch} {k : Nat → ClassId} {y : MethodName} {cc : ByteArray} {nL : Nat} {Ts : List Cond} {rm : Room} {w w1 w2 : va_W} {c n : Nat} {pc q : Nat} {lv : List (Nat × Value)} {st rest : List Value}
theorem v_below (F : v_F X l k y cc nL Ts rm) (hst : l.stackTraces = false) {i : Nat} {a0 a1 : Int} (g1 : 1 ≤ a1 ∧ a1 < 2147483648) (hT : GoodIn Ts (va_wsS y.cls i yL_below wsL_below)) (hR2 : 1 ≤ rm.frames ∧ 21 ≤ rm.locals) (hcat : (rest.map fun v => v.category).sum ≤ 8) (hf : c ≤ rm.cells ∧ n ≤ rm.slots) (d : decode cc pc = .ok (.invokestatic i, 3)) (hq : pc + 3 = q) (kk : ∀ a : Int, 0 ≤ a ∧ a < a1 → V X w c n q lv (VI a :: rest)) : V X w c n pc lv (VI a1 :: VI a0 :: rest) :=
  v_callSi F (kL_below hst (w := []) (a0 := a0) g1) (w2 := w) rfl hT rfl hdL_below ⟨hR2.1, hR2.2⟩ (As := [VI a0, VI a1]) rfl rfl hcat hf d hq (fun a u hp => by obtain ⟨rfl, hp⟩ := hp; exact kk a hp)
theorem v_cell (F : v_F X l k y cc nL Ts rm) (hst : l.stackTraces = false) {i b L : Nat} {xs : Nat → Int32} (hX : va_X b L xs X.1.2.2.2.2 X.1.2.2.2.2.heap) (hbl : b < X.1.2.2.2.2.heap.size) (hbA : ¬ X.2.2.2.2 b) (hL : L ≤ 2560) {a1 : Int} (g1 : 0 ≤ a1 ∧ a1 < 2147483648) (hT : GoodIn Ts (va_wsS y.cls i yL_cell wsL_cell)) (hR2 : 1 ≤ rm.frames ∧ 21 ≤ rm.locals) (hcat : (rest.map fun v => v.category).sum ≤ 8) (hf : c ≤ rm.cells ∧ n ≤ rm.slots) (d : decode cc pc = .ok (.invokestatic i, 3)) (hq : pc + 3 = q) (kk : ∀ a : Int, R32 a → V X w c n q lv (VI a :: rest)) : V X w c n pc lv (VI a1 :: .ref b :: rest) :=
  v_callSx F hX hbl hbA (kL_cell hst (w := []) hL g1) (w2 := w) rfl hT rfl hdL_cell ⟨hR2.1, hR2.2⟩ (As := [.ref b, VI a1]) rfl rfl hcat hf d hq (fun a u hp => by obtain ⟨rfl, hp⟩ := hp; exact kk a hp)
end VOwn2
theorem vB_bI {b : Bool} {a : Int} (h : vB (b = true) a) : a = bI b := by
  rcases h with ⟨rfl, h⟩ | ⟨rfl, h⟩
  · rw [h]; rfl
  · cases b with
    | true => exact absurd rfl h
    | false => rfl
