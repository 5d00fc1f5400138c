/-! ===== things are made ===== -/
section VMade
variable {X : vX} {l : Launch} {k : Nat → ClassId} {y : MethodName} {cc : ByteArray} {nL : Nat} {Ts : List Cond} {rm : Room} {w w1 w2 : va_W} {c n : Nat} {pc q : Nat} {lv : List (Nat × Value)} {st rest : List Value}
theorem v_rot {a b : va_W} (kk : V X (b ++ a) c n pc lv st) : V X (a ++ b) c n pc lv st := by
  have := v_swap3 (X := X) (a := a) (b := b) (e := []) (c := c) (n := n) (pc := pc) (lv := lv) (st := st)
  rw [List.append_nil, List.append_nil] at this
  exact this kk
theorem v_objInit (F : v_F X l k y cc nL Ts rm) {a i : Nat} (h1 : Cond.methodLink y.cls i Lib.objectInit ∈ Ts) (h2 : Cond.instanceMethod Lib.objectInit ∈ Ts) (h3 : Cond.code Lib.objectInit ⟨#[0xb1]⟩ 1 none ∈ Ts) (hr : 1 ≤ rm.frames ∧ (st.map fun v => v.category).sum + 12 ≤ rm.locals) (d : decode cc pc = .ok (.invokespecial i, 3)) (hq : pc + 3 = q) (kk : V X w c n q lv st) : V X w c n pc lv (.ref a :: st) := by
  obtain ⟨⟨p, l, e, R, s⟩, ⟨m, args, below, meth, c0⟩, ⟨Q, D, A⟩⟩ := X
  obtain ⟨hx, hb, hml, hown, hts, hK, hA, hR, hlk, hll, hst, hZ, hnm⟩ := F
  intro H locs ls hP hD hS hl
  subst hq
  have hR' : R = rm := hR
  subst hR'
  exact W.objInit hx hb hown (hts _ h1) (hts _ h2) (hts _ h3) rfl hl.1 rfl d hr.1 (by show 2 * 0 + _ + 12 ≤ _; rw [Nat.mul_zero, Nat.zero_add]; exact hr.2) (kk H locs ls hP hD hS hl)
theorem v_new (F : v_F X l k y cc nL Ts rm) {C : String} {T : u_T} {N ci i : Nat} {fs : List Value} (hin : ∀ w ∈ u_ws C T N, w ∈ Ts) (ty0 : Nat → FieldType) (hty : ∀ k, k < N → parseFieldDescriptor (T k).2.2.1 = some (ty0 k)) (h1 : Cond.classLink y.cls i C ∈ Ts) (h2 : Cond.instantiable C N ∈ Ts) (h3 : Cond.initialized C ∈ Ts) (hc : vwCl[ci]? = some (C, T, N)) (hfs : ∀ j, j < N → defaultValue (ty0 j) = vp_V fs j) (hcl : c + 1 ≤ rm.cells) (hsl : n + N ≤ rm.slots) (d : decode cc pc = .ok (.new i, 3)) (hq : pc + 3 = q) (kk : ∀ q9 : Nat, V X (w ++ [(q9, .inr (ci, fs))]) (c + 1) (n + N) q lv (.ref q9 :: st)) : V X w c n pc lv st := by
  obtain ⟨⟨p, l, e, R, s⟩, ⟨m, args, below, meth, c0⟩, ⟨Q, D, A⟩⟩ := X
  obtain ⟨hx, hb, hml, hown, hts, hK, hA, hR, hlk, hll, hst, hZ, hnm⟩ := F
  intro H locs ls hP hD hS hl
  subst hq
  have hR' : R = rm := hR
  subst hR'
  exact va_new hx hb hts hin ty0 hty hown (hts _ h1) (hts _ h2) (hts _ h3) hK hP hD hS hA hc hfs hcl hsl d (fun q9 H1 hP1 hD1 hS1 => kk q9 H1 locs ls hP1 hD1 hS1 hl)
theorem v_anew (F : v_F X l k y cc nL Ts rm) {C : String} {N i : Nat} (t0 : Nat) {cA : ClassId} (ht : (v_tys k)[t0]? = some (cA, .object C)) (hN : N ≤ 1000) (h1 : Cond.classLink y.cls i C ∈ Ts) (h2 : Cond.arrayOver (.object C) ∈ Ts) (hcl : c + 1 ≤ rm.cells) (hsl : n + N ≤ rm.slots) (d : decode cc pc = .ok (.anewarray i, 3)) (hq : pc + 3 = q) (kk : ∀ q9 : Nat, V X (w ++ [(q9, .inl (cA, N, .inr (.inr (.inr (.inr (fun _ => none))))))]) (c + 1) (n + N) q lv (.ref q9 :: st)) : V X w c n pc lv (VI (N : Int) :: st) := by
  obtain ⟨⟨p, l, e, R, s⟩, ⟨m, args, below, meth, c0⟩, ⟨Q, D, A⟩⟩ := X
  obtain ⟨hx, hb, hml, hown, hts, hK, hA, hR, hlk, hll, hst, hZ, hnm⟩ := F
  intro H locs ls hP hD hS hl
  subst hq
  have hR' : R = rm := hR
  subst hR'
  have zn : ¬ iI (N : Int) < 0 := by rw [iI_0, iI_lt (by omega) R32_0]; omega
  refine va_newq hx hb hown (hts _ h1) (va_AO.of (hts _ h2)) hK hP hD hS hA zn (iI_clamp (by omega)) (by omega) hcl hsl d (fun q9 cB H1 hK1 hP1 hD1 hS1 => ?_)
  have e1 : ∃ (kA : Class) (comp : ClassId), s.vm.classes[cB]? = some kA ∧ kA.kind = .array comp (.object C) ∧ s.vm.findClass C = some comp ∧ s.vm.findClass ("[" ++ (FieldType.object C).toString) = some cB := (hK1.2 4 (cB, .object C) rfl).2
  have e2 : ∃ (kA : Class) (comp : ClassId), s.vm.classes[cA]? = some kA ∧ kA.kind = .array comp (.object C) ∧ s.vm.findClass C = some comp ∧ s.vm.findClass ("[" ++ (FieldType.object C).toString) = some cA := (hK.2 t0 (cA, .object C) ht).2
  obtain ⟨_, _, -, -, -, e1⟩ := e1
  obtain ⟨_, _, -, -, -, e2⟩ := e2
  have e3 : cB = cA := Option.some.inj (e1.symm.trans e2)
  subst e3
  exact kk q9 H1 locs ls hP1 hD1 hS1 hl
theorem v_aast (F : v_F X l k y cc nL Ts rm) {a N j v ci : Nat} {cA : ClassId} {r : vw_C} {vs : List Value} {f : Nat → Option Nat} (q0 t0 qk : Nat) (w' : va_W) (ha : w[q0]? = some (a, .inl (cA, N, .inr (.inr (.inr (.inr f)))))) (ht : (v_tys k)[t0]? = some (cA, .object r.1)) (hv : w[qk]? = some (v, .inr (ci, vs))) (hc : vwCl[ci]? = some r) (hj : j < N) (hN : N ≤ 1000) (hw : w.set q0 (a, .inl (cA, N, .inr (.inr (.inr (.inr (va_up f j (some v))))))) = w') (d : decode cc pc = .ok (.aastore, 1)) (hq : pc + 1 = q) (kk : V X w' c n q lv st) : V X w c n pc lv (.ref v :: VI (j : Int) :: .ref a :: st) := by
  obtain ⟨⟨p, l, e, R, s⟩, ⟨m, args, below, meth, c0⟩, ⟨Q, D, A⟩⟩ := X
  obtain ⟨hx, hb, hml, hown, hts, hK, hA, hR, hlk, hll, hst, hZ, hnm⟩ := F
  intro H locs ls hP hD hS hl
  subst hq; subst hw
  refine va_astq hx hb hK hP hD hS q0 t0 qk ci ha ht hv hc (iI_in hj (by omega)) d (fun H1 locs1 hP1 hD1 hS1 => ?_)
  rw [iI_clamp (by omega)] at hP1 hD1
  exact kk H1 locs1 ls hP1 hD1 hS1 hl
theorem v_callIv {y2 : MethodName} {cc2 : ByteArray} {nL2 : Nat} {ws2 ws2' : List Cond} {rm2 : Room} {b i : Nat} (F : v_F X l k y cc nL Ts rm) {post : va_W → Prop} (hC : v_Cv l k y2 ws2 rm2 [.ref b] w1 post) (hw : w = w1 ++ w2) (hT : GoodIn Ts ws2) (hw2 : ws2 = Cond.code y2 cc2 nL2 none :: ws2') (h1 : Cond.initialized y2.cls ∈ Ts) (h2 : Cond.methodLink y.cls i y2 ∈ Ts) (h3 : Cond.instanceMethod y2 ∈ Ts) (hy1 : y2.name = "<init>") (hd : y2.cls ≠ "java/lang/invoke/MethodHandle" ∧ y2.cls ≠ "java/lang/invoke/VarHandle" ∧ (parseMethodDescriptor y2.desc).map (fun d => d.parameters.length) = some 0) (hR2 : rm2.frames + 1 ≤ rm.frames ∧ 8 + (nL2 + 11) + rm2.locals ≤ rm.locals)
    (hst2 : st = .ref b :: rest) (hcat : (rest.map fun v => v.category).sum ≤ 8) (hf : c + rm2.cells ≤ rm.cells ∧ n + rm2.slots ≤ rm.slots) (d : decode cc pc = .ok (.invokespecial i, 3)) (hq : pc + 3 = q)
    (kk : ∀ (u : va_W), post u → V X (u ++ w2) (c + rm2.cells) (n + rm2.slots) q lv rest) : V X w c n pc lv st := by
  obtain ⟨⟨p, l, e, R, s⟩, ⟨m, args, below, meth, c0⟩, ⟨Q, D, A⟩⟩ := X
  obtain ⟨hx, hb, hml, hown, hts, hK, hA, hR, hlk, hll, hst, hZ, hnm⟩ := F
  intro H locs ls hP hD hS hl
  subst hq; subst hw; subst hll; subst hst2
  have hR' : R = rm := hR
  subst hR'
  have p1 := (v_splP hP).1
  have d1 := (v_splD hD).1
  have hF := v_free d1 hS hA
  refine va_callv (va_runI (As := []) (rest := rest) ⟨hx, hb, hml, hown, hts⟩ (hC D H.size) (cwI 0 hts hT hw2 rfl rfl (hts _ h1) (hts _ h2) (hts _ h3) hy1 hd hR2) ⟨v_blind, fun U hU hW => v_prec hK p1 d1 hS hA hZ U hU hW⟩ rfl rfl (hl.1.trans hml) rfl (lv_room hcat) d hf) hS (fun q _ h => hF q h) hF (fun u t H1 locs1 ht hvm hwp hB hz1 hk1 hS1 => ?_)
  obtain ⟨hP1, hK1, hD1⟩ := hB
  rw [ht] at hP1
  obtain ⟨g1, g2⟩ := v_back hP hD hS hA hP1 hD1 hk1
  exact kk u hwp H1 locs1 ls g1 g2 hS1 hl
/-- the same cells, in another order -/
theorem v_perm {w' : va_W} (hp : w.Perm w') (kk : V X w' c n pc lv st) : V X w c n pc lv st := by
  intro H locs ls hP hD hS hl
  refine kk H locs ls (fun i q hi => ?_) ⟨?_, fun i q hi => ?_⟩ hS hl
  · obtain ⟨j, hj⟩ := List.getElem?_of_mem (hp.mem_iff.mpr (List.mem_of_getElem? hi))
    exact hP j q hj
  · have h1 : w.Pairwise (fun p q => p.1 ≠ q.1) := List.pairwise_iff_getElem.mpr (fun i j hi hj hij e => by
      have := hD.1 i j _ _ (List.getElem?_eq_getElem hi) (List.getElem?_eq_getElem hj) e
      omega)
    have h2 : w'.Pairwise (fun p q => p.1 ≠ q.1) := (hp.pairwise_iff (fun h => h.symm)).mp h1
    intro i j p q hi hj e
    obtain ⟨li, ei⟩ := List.getElem?_eq_some_iff.mp hi
    obtain ⟨lj, ej⟩ := List.getElem?_eq_some_iff.mp hj
    rcases Nat.lt_trichotomy i j with h | h | h
    · exact absurd (by rw [ei, ej]; exact e) (List.pairwise_iff_getElem.mp h2 i j li lj h)
    · exact h
    · exact absurd (by rw [ei, ej]; exact e.symm) (List.pairwise_iff_getElem.mp h2 j i lj li h)
  · obtain ⟨j, hj⟩ := List.getElem?_of_mem (hp.mem_iff.mpr (List.mem_of_getElem? hi))
    exact hD.2 j q hj
/-- a row of references speaks of its own places only -/
theorem v_rowcg {a N : Nat} {cA : ClassId} {f g : Nat → Option Nat} (q0 : Nat) (w' : va_W) (ha : w[q0]? = some (a, .inl (cA, N, .inr (.inr (.inr (.inr f)))))) (h : ∀ j, j < N → f j = g j) (hw : w.set q0 (a, .inl (cA, N, .inr (.inr (.inr (.inr g))))) = w') (kk : V X w' c n pc lv st) : V X w c n pc lv st := by
  subst hw
  intro H locs ls hP hD hS hl
  refine kk H locs ls (fun i q hi => ?_) ⟨fun i j p q hi hj e => ?_, fun i q hi => ?_⟩ hS hl
  · rw [List.getElem?_set] at hi
    split at hi
    · next e =>
      subst e
      split at hi
      · cases hi
        have h1 := hP q0 _ ha
        show H[a]? = some (vp_cell cA (N, _))
        have h2 : H[a]? = some (vp_cell cA (N, .inr (.inr (.inr (.inr f))))) := h1
        rw [h2, vp_cell_q, vp_cell_q]
        unfold arrV
        congr 3
        funext j
        show va_rf (f j.val) = va_rf (g j.val)
        rw [h j.val j.isLt]
      · cases hi
    · exact hP i q hi
  · have hh : ∀ (i : Nat) (p : Nat × va_E), (w.set q0 (a, .inl (cA, N, .inr (.inr (.inr (.inr g))))))[i]? = some p → ∃ p', w[i]? = some p' ∧ p'.1 = p.1 := by
      intro i p hi
      rw [List.getElem?_set] at hi
      split at hi
      · next e =>
        subst e
        split at hi
        · cases hi; exact ⟨_, ha, rfl⟩
        · cases hi
      · exact ⟨p, hi, rfl⟩
    obtain ⟨p', h1, h2⟩ := hh i p hi
    obtain ⟨q', h3, h4⟩ := hh j q hj
    exact hD.1 i j p' q' h1 h3 (by rw [h2, h4]; exact e)
  · rw [List.getElem?_set] at hi
    split at hi
    · next e =>
      subst e
      split at hi
      · cases hi; have h9 := hD.2 q0 _ ha; exact h9
      · cases hi
    · exact hD.2 i q hi
end VMade
/-- the ship's maker leans on its nest's links, and on two classes of arrays -/
def v_NX (U : State) : Prop := (va_AO RX3 U ∧ va_AO RX1 U) ∧ va_Nw (.methodLinkNest RX5 9 yX0_init RX5) U ∧ va_Nw (.methodLinkNest RX5 18 yX2_init RX5) U ∧ va_Nw (.methodLinkNest RX5 37 yX4_init RX5) U ∧ va_Nw (.methodLinkNest RX5 52 yX3_init RX5) U ∧ va_Nw (.methodLinkNest RX5 53 yX1_init RX5) U
theorem v_NX.warm {s U : State} (hW : s.WarmedH U.vm) (h : v_NX s) : v_NX U := ⟨⟨h.1.1.moved hW.alike, h.1.2.moved hW.alike⟩, va_Nw.warmM hW h.2.1, va_Nw.warmM hW h.2.2.1, va_Nw.warmM hW h.2.2.2.1, va_Nw.warmM hW h.2.2.2.2.1, va_Nw.warmM hW h.2.2.2.2.2⟩
theorem v_NX.same {s U : State} (e : s.vm = U.vm) (h : v_NX s) : v_NX U := ⟨⟨h.1.1.moved (by rw [e]; exact Vm.Alike.refl _), h.1.2.moved (by rw [e]; exact Vm.Alike.refl _)⟩, va_Nw.same rfl e h.2.1, va_Nw.same rfl e h.2.2.1, va_Nw.same rfl e h.2.2.2.1, va_Nw.same rfl e h.2.2.2.2.1, va_Nw.same rfl e h.2.2.2.2.2⟩
def v_Cn (l : Launch) (k : Nat → ClassId) (y : MethodName) (ws : List Cond) (rm : Room) (av : List Value) (w : va_W) (post : va_W → Prop) : Prop := ∀ (D : va_G) (sz : Nat), Met l y ws rm (fun a U => v_Pc D k sz av w a U ∧ v_NX U) (va_Qv post (v_B D k (va_A w sz)) (va_A w sz)) rm.cells rm.slots (va_A w sz)
section VNest
variable {X : vX} {l : Launch} {k : Nat → ClassId} {y : MethodName} {cc : ByteArray} {nL : Nat} {Ts : List Cond} {rm : Room} {w w1 w2 : va_W} {c n : Nat} {pc q : Nat} {lv : List (Nat × Value)} {st rest : List Value}
theorem v_ofN {av : List Value} {post : va_W → Prop} {ws' : List Cond} (hy : plainName y.cls = true) (hw : Ts = Cond.code y cc nL none :: ws') (hst : l.stackTraces = false) (hlen : (lg_sl av).length ≤ nL)
    (body : ∀ X : vX, v_NX X.1.2.2.2.2 → v_F X l k y cc nL Ts rm → (∀ (u : va_W) (c n pc : Nat) (lv : List (Nat × Value)), c ≤ rm.cells → n ≤ rm.slots → decode cc pc = .ok (.return_, 1) → post u → V X u c n pc lv []) → V X w 0 0 0 (lv_args 0 av) []) : v_Cn l k y Ts rm av w post := by
  intro D sz
  refine Met.ofW (cc := cc) (maxL := nL) (ret := none) hy hw ?_
  intro p e s m args below meth c s₁ B hml hv
  obtain ⟨⟨rfl, hsz, hP, hK, hD0, hZ⟩, hNX⟩ := hv
  have hts := atoms_spec (ws := Ts) B.pre
  subst hsz
  have hX := body ((p, l, e, (headSpec Ts rm).room, s), (m, av.toArray, below, meth, c), (MQ below (va_Qv post (v_B D k (va_A w s.heap.size)) (va_A w s.heap.size)) av.toArray s rm.cells rm.slots (va_A w s.heap.size), D, va_A w s.heap.size)) hNX ⟨B.exec, B.bytes, hml, findClass_of_methodNamed B.named, hts, hK, fun q h => Or.inr h, rfl, B.notSynchronized, rfl, hst, hZ, (name_of_methodNamed B.named B.method).1⟩
    (fun u c1 n1 pc lv hc hn1 d hp H locs ls hP2 hD2 hS2 hl2 => W.widen hc hn1 (W.vret B.exec B.bytes B.returns (fun t ht hW => ⟨⟨u, rfl, hp, by rw [ht]; exact hP2, va_K.moved hW.alike hK, hD2⟩, hS2.F ht⟩) hS2.2.2 d B.notSynchronized))
  have hl := lv_entry av (n := nL) hlen
  rw [lg_entry_eq]
  exact hX s.heap [] _ hP hD0.self va_S.rf (by show lv_has _ c.maxLocals _; rw [hml]; exact hl)
theorem v_anewN (F : v_F X l k y cc nL Ts rm) {C : String} {N i : Nat} (t0 : Nat) {cA : ClassId} (ht : (v_tys k)[t0]? = some (cA, .object C)) (hN : N ≤ 1000) (h1 : Cond.classLink y.cls i C ∈ Ts) (h2 : va_AO C X.1.2.2.2.2) (hcl : c + 1 ≤ rm.cells) (hsl : n + N ≤ rm.slots) (d : decode cc pc = .ok (.anewarray i, 3)) (hq : pc + 3 = q) (kk : ∀ q9 : Nat, V X (w ++ [(q9, .inl (cA, N, .inr (.inr (.inr (.inr (fun _ => none))))))]) (c + 1) (n + N) q lv (.ref q9 :: st)) : V X w c n pc lv (VI (N : Int) :: st) := by
  obtain ⟨⟨p, l, e, R, s⟩, ⟨m, args, below, meth, c0⟩, ⟨Q, D, A⟩⟩ := X
  obtain ⟨hx, hb, hml, hown, hts, hK, hA, hR, hlk, hll, hst, hZ, hnm⟩ := F
  intro H locs ls hP hD hS hl
  subst hq
  have hR' : R = rm := hR
  subst hR'
  have zn : ¬ iI (N : Int) < 0 := by rw [iI_0, iI_lt (by omega) R32_0]; omega
  refine va_newq hx hb hown (hts _ h1) h2 hK hP hD hS hA zn (iI_clamp (by omega)) (by omega) hcl hsl d (fun q9 cB H1 hK1 hP1 hD1 hS1 => ?_)
  have e1 : ∃ (kA : Class) (comp : ClassId), s.vm.classes[cB]? = some kA ∧ kA.kind = .array comp (.object C) ∧ s.vm.findClass C = some comp ∧ s.vm.findClass ("[" ++ (FieldType.object C).toString) = some cB := (hK1.2 4 (cB, .object C) rfl).2
  have e2 : ∃ (kA : Class) (comp : ClassId), s.vm.classes[cA]? = some kA ∧ kA.kind = .array comp (.object C) ∧ s.vm.findClass C = some comp ∧ s.vm.findClass ("[" ++ (FieldType.object C).toString) = some cA := (hK.2 t0 (cA, .object C) ht).2
  obtain ⟨_, _, -, -, -, e1⟩ := e1
  obtain ⟨_, _, -, -, -, e2⟩ := e2
  have e3 : cB = cA := Option.some.inj (e1.symm.trans e2)
  subst e3
  exact kk q9 H1 locs ls hP1 hD1 hS1 hl
theorem v_callIN {y2 : MethodName} {cc2 : ByteArray} {nL2 : Nat} {ws2 ws2' : List Cond} {rm2 : Room} {b i : Nat} {host : String} (F : v_F X l k y cc nL Ts rm) {post : va_W → Prop} (hC : v_Cv l k y2 ws2 rm2 [.ref b] w1 post) (hw : w = w1 ++ w2) (hT : GoodIn Ts ws2) (hw2 : ws2 = Cond.code y2 cc2 nL2 none :: ws2') (h1 : Cond.initialized y2.cls ∈ Ts) (h2 : va_Nw (.methodLinkNest y.cls i y2 host) X.1.2.2.2.2) (h3 : Cond.instanceMethod y2 ∈ Ts) (hy1 : y2.name = "<init>") (hd : y2.cls ≠ "java/lang/invoke/MethodHandle" ∧ y2.cls ≠ "java/lang/invoke/VarHandle" ∧ (parseMethodDescriptor y2.desc).map (fun d => d.parameters.length) = some 0) (hR2 : rm2.frames + 1 ≤ rm.frames ∧ 8 + (nL2 + 11) + rm2.locals ≤ rm.locals)
    (hst2 : st = .ref b :: rest) (hcat : (rest.map fun v => v.category).sum ≤ 8) (hf : c + rm2.cells ≤ rm.cells ∧ n + rm2.slots ≤ rm.slots) (d : decode cc pc = .ok (.invokespecial i, 3)) (hq : pc + 3 = q)
    (kk : ∀ (u : va_W), post u → V X (u ++ w2) (c + rm2.cells) (n + rm2.slots) q lv rest) : V X w c n pc lv st := by
  obtain ⟨⟨p, l, e, R, s⟩, ⟨m, args, below, meth, c0⟩, ⟨Q, D, A⟩⟩ := X
  obtain ⟨hx, hb, hml, hown, hts, hK, hA, hR, hlk, hll, hst, hZ, hnm⟩ := F
  intro H locs ls hP hD hS hl
  subst hq; subst hw; subst hll; subst hst2
  have hR' : R = rm := hR
  subst hR'
  have p1 := (v_splP hP).1
  have d1 := (v_splD hD).1
  have hF := v_free d1 hS hA
  refine va_callv (va_runIN (As := []) (rest := rest) ⟨hx, hb, hml, hown, hts⟩ (hC D H.size) ⟨va_cnB 0 hts hT hw2 rfl rfl h2 (hts _ h1) hd hR2, hy1, hts _ h3⟩ ⟨v_blind, fun U hU hW => v_prec hK p1 d1 hS hA hZ U hU hW⟩ rfl rfl (hl.1.trans hml) rfl (lv_room hcat) d hf) hS (fun q _ h => hF q h) hF (fun u t H1 locs1 ht hvm hwp hB hz1 hk1 hS1 => ?_)
  obtain ⟨hP1, hK1, hD1⟩ := hB
  rw [ht] at hP1
  obtain ⟨g1, g2⟩ := v_back hP hD hS hA hP1 hD1 hk1
  exact kk u hwp H1 locs1 ls g1 g2 hS1 hl
/-- the call of the ship's maker -/
theorem v_callIX {y2 : MethodName} {cc2 : ByteArray} {nL2 : Nat} {ws2 ws2' : List Cond} {rm2 : Room} {b i : Nat} (F : v_F X l k y cc nL Ts rm) (hN : v_NX X.1.2.2.2.2) {post : va_W → Prop} (hC : v_Cn l k y2 ws2 rm2 [.ref b] w1 post) (hw : w = w1 ++ w2) (hT : GoodIn Ts ws2) (hw2 : ws2 = Cond.code y2 cc2 nL2 none :: ws2') (h1 : Cond.initialized y2.cls ∈ Ts) (h2 : Cond.methodLink y.cls i y2 ∈ Ts) (h3 : Cond.instanceMethod y2 ∈ Ts) (hy1 : y2.name = "<init>") (hd : y2.cls ≠ "java/lang/invoke/MethodHandle" ∧ y2.cls ≠ "java/lang/invoke/VarHandle" ∧ (parseMethodDescriptor y2.desc).map (fun d => d.parameters.length) = some 0) (hR2 : rm2.frames + 1 ≤ rm.frames ∧ 8 + (nL2 + 11) + rm2.locals ≤ rm.locals)
    (hst2 : st = .ref b :: rest) (hcat : (rest.map fun v => v.category).sum ≤ 8) (hf : c + rm2.cells ≤ rm.cells ∧ n + rm2.slots ≤ rm.slots) (d : decode cc pc = .ok (.invokespecial i, 3)) (hq : pc + 3 = q)
    (kk : ∀ (u : va_W), post u → V X (u ++ w2) (c + rm2.cells) (n + rm2.slots) q lv rest) : V X w c n pc lv st := by
  obtain ⟨⟨p, l, e, R, s⟩, ⟨m, args, below, meth, c0⟩, ⟨Q, D, A⟩⟩ := X
  obtain ⟨hx, hb, hml, hown, hts, hK, hA, hR, hlk, hll, hst, hZ, hnm⟩ := F
  intro H locs ls hP hD hS hl
  subst hq; subst hw; subst hll; subst hst2
  have hR' : R = rm := hR
  subst hR'
  have p1 := (v_splP hP).1
  have d1 := (v_splD hD).1
  have hF := v_free d1 hS hA
  refine va_callv (va_runI (As := []) (rest := rest) ⟨hx, hb, hml, hown, hts⟩ (hC D H.size) (cwI 0 hts hT hw2 rfl rfl (hts _ h1) (hts _ h2) (hts _ h3) hy1 hd hR2) ⟨fun a U g mk q => ⟨v_blind a U g mk q.1, v_NX.same rfl q.2⟩, fun U hU hW => ⟨v_prec hK p1 d1 hS hA hZ U hU hW, v_NX.warm hW hN⟩⟩ rfl rfl (hl.1.trans hml) rfl (lv_room hcat) d hf) hS (fun q _ h => hF q h) hF (fun u t H1 locs1 ht hvm hwp hB hz1 hk1 hS1 => ?_)
  obtain ⟨hP1, hK1, hD1⟩ := hB
  rw [ht] at hP1
  obtain ⟨g1, g2⟩ := v_back hP hD hS hA hP1 hD1 hk1
  exact kk u hwp H1 locs1 ls g1 g2 hS1 hl
end VNest
