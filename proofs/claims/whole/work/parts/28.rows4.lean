/-! ===== the law's own methods: with a table of handlers, and a row of one long ===== -/
abbrev oE (k : Nat → ClassId) (f : Nat → Int64) : va_E := .inl (k 3, 1, .inr (.inl f))
section VWrap
variable {X : vX} {l : Launch} {k : Nat → ClassId} {y : MethodName} {cc : ByteArray} {nL : Nat} {Ts : List Cond} {rm : Room} {w w1 w2 : va_W} {c n : Nat} {pc q : Nat} {lv : List (Nat × Value)} {st rest : List Value}
theorem v_last (F : v_F X l k y cc nL Ts rm) {a : Nat} {f : Nat → Int64} {x : Int64} (q0 : Nat) (w' : va_W) (ha : w[q0]? = some (a, oE k f)) (hw : w.set q0 (a, oE k (vp_updL f 0 x)) = w') (d : decode cc pc = .ok (.lastore, 1)) (hq : pc + 1 = q) (kk : V X w' c n q lv st) : V X w c n pc lv (.long x :: VI 0 :: .ref a :: st) := by
  obtain ⟨⟨p, l, e, R, s⟩, ⟨m, args, below, meth, c0⟩, ⟨Q, D, A⟩⟩ := X
  obtain ⟨hx, hb, hml, hown, hts, hK, hA, hR, hlk, hll, hst, hZ, hnm⟩ := F
  intro H locs ls hP hD hS hl
  subst hq; subst hw
  have e0 : (iI 0).toNatClampNeg = 0 := by decide
  refine va_last hx hb hK hP hD hS q0 3 ha rfl (iI_in (j := 0) (by decide) (by decide)) d (fun H1 locs1 hP1 hD1 hS1 => ?_)
  rw [e0] at hP1 hD1
  exact kk H1 locs1 ls hP1 hD1 hS1 hl
theorem v_lald (F : v_F X l k y cc nL Ts rm) {a : Nat} {f : Nat → Int64} (q0 : Nat) (ha : w[q0]? = some (a, oE k f)) (d : decode cc pc = .ok (.laload, 1)) (hq : pc + 1 = q) (kk : V X w c n q lv (.long (f 0) :: st)) : V X w c n pc lv (VI 0 :: .ref a :: st) := by
  obtain ⟨⟨p, l, e, R, s⟩, ⟨m, args, below, meth, c0⟩, ⟨Q, D, A⟩⟩ := X
  obtain ⟨hx, hb, hml, hown, hts, hK, hA, hR, hlk, hll, hst, hZ, hnm⟩ := F
  intro H locs ls hP hD hS hl
  subst hq
  have e0 : (iI 0).toNatClampNeg = 0 := by decide
  refine va_lald hx hb hK hP q0 3 ha rfl (iI_in (j := 0) (by decide) (by decide)) d ?_
  rw [e0]
  exact kk H locs ls hP hD hS hl
theorem v_ofW {av : List Value} {post : Int → va_W → Prop} {ty : FieldType} {hh : List (Nat × Nat × Nat × Nat)} {ws' : List Cond} (hy : plainName y.cls = true) (hw : Ts = Cond.codeWith y cc nL (some ty) hh :: ws') (hst : l.stackTraces = false) (hlen : (lg_sl av).length ≤ nL) (hn : ∀ a u, post a u → narrow ty (.int (iI a)) = .int (iI a))
    (body : ∀ X : vX, v_F X l k y cc nL Ts rm → X.2.1.2.2.2.2.exceptionTable.toList = tableOf hh → (∀ (a : Int) (u : va_W) (c n pc : Nat) (lv : List (Nat × Value)), c ≤ rm.cells → n ≤ rm.slots → decode cc pc = .ok (.ireturn, 1) → post a u → V X u c n pc lv [VI a]) → V X w 0 0 0 (lv_args 0 av) []) : v_Ci l k y Ts rm av w post := by
  intro D sz
  refine va_MetW (cc := cc) (maxL := nL) (ret := some ty) (hh := hh) hy hw ?_
  intro p e s m args below meth c s₁ B hml hv
  obtain ⟨rfl, hsz, hP, hK, hD0, hZ⟩ := hv
  have hts := atoms_spec (ws := Ts) B.pre
  have hTab : c.exceptionTable.toList = tableOf hh := vx_table (x := y) B (hts _ (by rw [hw]; exact List.mem_cons_self))
  subst hsz
  have hX := body ((p, l, e, (headSpec Ts rm).room, s), (m, av.toArray, below, meth, c), (MQ below (va_Qi (fun r u => ∃ a : Int, r = iI a ∧ post a u) (v_B D k (va_A w s.heap.size)) (va_A w s.heap.size)) av.toArray s rm.cells rm.slots (va_A w s.heap.size), D, va_A w s.heap.size)) ⟨B.exec, B.bytes, hml, findClass_of_methodNamed B.named, hts, hK, fun q h => Or.inr h, rfl, B.notSynchronized, rfl, hst, hZ, (name_of_methodNamed B.named B.method).1⟩ hTab
    (fun a u c1 n1 pc lv hc hn1 d hp H locs ls hP2 hD2 hS2 hl2 => W.widen hc hn1 (W.zret (v := iI a) B.exec B.bytes B.returns (hn a u hp) (fun t ht hW => ⟨⟨iI a, u, rfl, ⟨a, rfl, hp⟩, by rw [ht]; exact hP2, va_K.moved hW.alike hK, hD2⟩, hS2.F ht⟩) hS2.2.2 d B.notSynchronized))
  have hl := lv_entry av (n := nL) hlen
  rw [lg_entry_eq]
  exact hX s.heap [] _ hP hD0.self va_S.rf (by show lv_has _ c.maxLocals _; rw [hml]; exact hl)
theorem v_callSW {y2 : MethodName} {cc2 : ByteArray} {nL2 : Nat} {ret2 : Option FieldType} {ws2 ws2' : List Cond} {rm2 : Room} {As : List Value} {i na : Nat} {hh : List (Nat × Nat × Nat × Nat)} (F : v_F X l k y cc nL Ts rm) {post : Int → va_W → Prop} (hC : v_Ci l k y2 ws2 rm2 As w1 post) (hw : w = w1 ++ w2) (hT : GoodIn Ts (va_wsS y.cls i y2 ws2)) (hw2 : ws2 = Cond.codeWith y2 cc2 nL2 ret2 hh :: ws2') (hd : y2.cls ≠ "java/lang/invoke/MethodHandle" ∧ y2.cls ≠ "java/lang/invoke/VarHandle" ∧ (parseMethodDescriptor y2.desc).map (fun d => d.parameters.length) = some na) (hR2 : rm2.frames + 1 ≤ rm.frames ∧ 8 + (nL2 + 11) + rm2.locals ≤ rm.locals)
    (hn : As.length = na) (hst2 : st = As.reverse ++ rest) (hcat : (rest.map fun v => v.category).sum ≤ 8) (hf : c + rm2.cells ≤ rm.cells ∧ n + rm2.slots ≤ rm.slots) (d : decode cc pc = .ok (.invokestatic i, 3)) (hq : pc + 3 = q)
    (kk : ∀ (a : Int) (u : va_W), post a u → V X (u ++ w2) (c + rm2.cells) (n + rm2.slots) q lv (VI a :: rest)) : V X w c n pc lv st := by
  obtain ⟨⟨p, l, e, R, s⟩, ⟨m, args, below, meth, c0⟩, ⟨Q, D, A⟩⟩ := X
  obtain ⟨hx, hb, hml, hown, hts, hK, hA, hR, hlk, hll, hst, hZ, hnm⟩ := F
  intro H locs ls hP hD hS hl
  subst hq; subst hw; subst hll
  have hR' : R = rm := hR
  subst hR'
  have p1 := (v_splP hP).1
  have d1 := (v_splD hD).1
  have hF := v_free d1 hS hA
  refine va_calli (vx_runSW (As := As) (rest := rest) ⟨hx, hb, hml, hown, hts⟩ (hC D H.size) (vx_cwSW na hts hT hw2 rfl rfl hd hR2) ⟨v_blind, fun U hU hW => v_prec hK p1 d1 hS hA hZ U hU hW⟩ rfl hn (hl.1.trans hml) hst2 (lv_room hcat) d hf) hS (fun q _ h => hF q h) hF (fun r u t H1 locs1 ht hvm hwp hB hz1 hk1 hS1 => ?_)
  obtain ⟨a, rfl, hp⟩ := hwp
  obtain ⟨hP1, hK1, hD1⟩ := hB
  rw [ht] at hP1
  obtain ⟨g1, g2⟩ := v_back hP hD hS hA hP1 hD1 hk1
  exact kk a u hp H1 locs1 ls g1 g2 hS1 hl
end VWrap
/-- how one of the law's own methods ends: with what is thrown (0: nothing), the answer in the row -/
def LQ (k : Nat → ClassId) (h : Nat → Nat) (S S2 : Nat → Nat → Int) (ho : Nat) (f : Nat → Int64) (e : Int) (R : Int → Prop) (a : Int) (u : va_W) : Prop := a = e ∧ ((e = 0 ∧ ∃ (Z9 : Nat → Nat → Int) (f9 : Nat → Int64) (r : Int), u = cw k h S2 Z9 ++ [(ho, oE k f9)] ∧ f9 0 = (iI r).toInt64 ∧ R r) ∨ (¬ e = 0 ∧ ∃ Z9 : Nat → Nat → Int, u = cw k h S Z9 ++ [(ho, oE k f)]))
