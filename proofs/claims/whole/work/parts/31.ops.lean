set_option maxRecDepth 100000 in
set_option maxHeartbeats 4000000 in
theorem o_setBottle {X : vX} {l : Launch} {k : Nat → ClassId} {nm9 : String} (F : v_F X l k ⟨RL, nm9, "([I)Z"⟩ code 9 wsL_law room_1) (hst : l.stackTraces = false) {b L : Nat} {xs : Nat → Int32} (hX : va_X b L xs X.1.2.2.2.2 X.1.2.2.2.2.heap) (hbl : b < X.1.2.2.2.2.heap.size) (hbA : ¬ X.2.2.2.2 b) (hL : L ≤ 2560) {h g : Nat → Nat} {ho : Nat} {i : Nat} (hi : 5 * i + 5 ≤ L) {S Z Y : Nat → Nat → Int} {f : Nat → Int64} (hI : Inv2 S) {c n : Nat} (hc : c + 200 ≤ 601024) (hn : n + 1100 ≤ 7293034) (kk : (∀ (S' Z' Y' : Nat → Nat → Int) (f' : Nat → Int64), Inv2 S' → V X (cw k h S' Z' ++ (mw k g S' Y' ++ [(ho, oE k f')])) (c + 200) (n + 1100) 1191 [(4, VI ((5 * i : Nat) : Int)), (3, .ref ho), (2, .ref (g 0)), (1, .ref (h 0)), (0, .ref b)] [])) : V X (cw k h S Z ++ (mw k g S Y ++ [(ho, oE k f)])) c n 136 [(4, VI ((5 * i : Nat) : Int)), (3, .ref ho), (2, .ref (g 0)), (1, .ref (h 0)), (0, .ref b)] [] := by
  have r1 := xv_R xs (5 * i + 1)
  have r2 := xv_R xs (5 * i + 2)
  have r3 := xv_R xs (5 * i + 3)
  have r4 := xv_R xs (5 * i + 4)
  refine v_aload_n F 3 (q := 137) dL_law_136 rfl rfl rfl ?_
  refine v_aload_n F 4 (q := 138) dL_law_137 rfl rfl rfl ?_
  refine v_iload F 0 (q := 140) dL_law_138 rfl rfl ?_
  refine v_const F (q := 141) dL_law_140 rfl ?_
  refine v_iadd F (q := 142) dL_law_141 rfl ?_
  refine v_sld F (j := 5 * i + 1) hX hbl hbA hL (by omega) (by omega) (q := 143) dL_law_142 rfl ?_
  refine v_aload_n F 4 (q := 144) dL_law_143 rfl rfl rfl ?_
  refine v_iload F 0 (q := 146) dL_law_144 rfl rfl ?_
  refine v_const F (q := 147) dL_law_146 rfl ?_
  refine v_iadd F (q := 148) dL_law_147 rfl ?_
  refine v_sld F (j := 5 * i + 2) hX hbl hbA hL (by omega) (by omega) (q := 149) dL_law_148 rfl ?_
  refine v_aload_n F 4 (q := 150) dL_law_149 rfl rfl rfl ?_
  refine v_iload F 0 (q := 152) dL_law_150 rfl rfl ?_
  refine v_const F (q := 153) dL_law_152 rfl ?_
  refine v_iadd F (q := 154) dL_law_153 rfl ?_
  refine v_sld F (j := 5 * i + 3) hX hbl hbA hL (by omega) (by omega) (q := 155) dL_law_154 rfl ?_
  refine v_aload_n F 4 (q := 156) dL_law_155 rfl rfl rfl ?_
  refine v_iload F 0 (q := 158) dL_law_156 rfl rfl ?_
  refine v_const F (q := 159) dL_law_158 rfl ?_
  refine v_iadd F (q := 160) dL_law_159 rfl ?_
  refine v_sld F (j := 5 * i + 4) hX hbl hbA hL (by omega) (by omega) (q := 161) dL_law_160 rfl ?_
  refine v_aload_n F 1 (q := 162) dL_law_161 rfl rfl rfl ?_
  refine v_ar1 ?_
  refine v_callSW F (kL_setBottle hst (k := k) (h := h) (S := S) (Z := Z) hI.1 (a0 := xv xs (5 * i + 1)) (a1 := xv xs (5 * i + 2)) (a2 := xv xs (5 * i + 3)) (a3 := xv xs (5 * i + 4)) (by omega) (by omega) (by omega) (by omega) (ho := ho) (f := f)) rfl gL_law_L_setBottle rfl hdL_setBottle ⟨Nat.le_of_ble_eq_true rfl, Nat.le_of_ble_eq_true rfl⟩ rfl rfl (Nat.le_of_ble_eq_true rfl) ⟨by show c + 1 ≤ 601024; omega, by show n + 6 ≤ 7293034; omega⟩ (q := 165) dL_law_162 rfl ?_
  rintro a5 _ ⟨h5, ⟨he, Z9, f9, r9, rfl, hf9, hr9⟩ | ⟨he, Z9, rfl⟩⟩
  · refine v_ar2 ?_
    have hb9 : 0 ≤ eBottle S (xv xs (5 * i + 1)) (xv xs (5 * i + 2)) (xv xs (5 * i + 3)) (xv xs (5 * i + 4)) ∧ eBottle S (xv xs (5 * i + 1)) (xv xs (5 * i + 2)) (xv xs (5 * i + 3)) (xv xs (5 * i + 4)) ≤ 3 := by unfold eBottle; (repeat' split) <;> decide
    have hI9 : Inv2 (sBottle S (xv xs (5 * i + 1)) (xv xs (5 * i + 2)) (xv xs (5 * i + 3)) (xv xs (5 * i + 4))) := inv2_sBottle hI he
    refine v_istore F (q := 167) [(5, VI a5), (4, VI ((5 * i : Nat) : Int)), (3, .ref ho), (2, .ref (g 0)), (1, .ref (h 0)), (0, .ref b)] dL_law_165 (by decide) rfl rfl ?_
    refine v_aload_n F 3 (q := 168) dL_law_167 rfl rfl rfl ?_
    refine v_aload_n F 5 (q := 169) dL_law_168 rfl rfl rfl ?_
    refine v_iload F 1 (q := 171) dL_law_169 rfl rfl ?_
    refine v_const F (q := 172) dL_law_171 rfl ?_
    refine v_iadd F (q := 173) dL_law_172 rfl ?_
    refine v_sld F (j := 5 * i + 1) hX hbl hbA hL (by omega) (by omega) (q := 174) dL_law_173 rfl ?_
    refine v_aload_n F 5 (q := 175) dL_law_174 rfl rfl rfl ?_
    refine v_iload F 1 (q := 177) dL_law_175 rfl rfl ?_
    refine v_const F (q := 178) dL_law_177 rfl ?_
    refine v_iadd F (q := 179) dL_law_178 rfl ?_
    refine v_sld F (j := 5 * i + 2) hX hbl hbA hL (by omega) (by omega) (q := 180) dL_law_179 rfl ?_
    refine v_aload_n F 5 (q := 181) dL_law_180 rfl rfl rfl ?_
    refine v_iload F 1 (q := 183) dL_law_181 rfl rfl ?_
    refine v_const F (q := 184) dL_law_183 rfl ?_
    refine v_iadd F (q := 185) dL_law_184 rfl ?_
    refine v_sld F (j := 5 * i + 3) hX hbl hbA hL (by omega) (by omega) (q := 186) dL_law_185 rfl ?_
    refine v_aload_n F 5 (q := 187) dL_law_186 rfl rfl rfl ?_
    refine v_iload F 1 (q := 189) dL_law_187 rfl rfl ?_
    refine v_const F (q := 190) dL_law_189 rfl ?_
    refine v_iadd F (q := 191) dL_law_190 rfl ?_
    refine v_sld F (j := 5 * i + 4) hX hbl hbA hL (by omega) (by omega) (q := 192) dL_law_191 rfl ?_
    refine v_swap3 ?_
    refine v_callVi F (kX6_setBottle hst (k := k) (g := g) (S := S) (Y := Y) hI.1 (a0 := xv xs (5 * i + 1)) (a1 := xv xs (5 * i + 2)) (a2 := xv xs (5 * i + 3)) (a3 := xv xs (5 * i + 4)) (by omega) (by omega) (by omega) (by omega)) rfl gL_law_X6_setBottle rfl hdX6_setBottle ⟨Nat.le_of_ble_eq_true rfl, Nat.le_of_ble_eq_true rfl⟩ 0 mw_at0 rfl rfl rfl (Nat.le_of_ble_eq_true rfl) ⟨by show c + 1 + 0 ≤ 601024; omega, by show n + 6 + 0 ≤ 7293034; omega⟩ (q := 195) dL_law_192 rfl ?_
    rintro a6 _ ⟨Y9, hy9, ⟨_, h6, rfl⟩ | ⟨hn9, _⟩⟩
    case inr => exact absurd he hn9
    refine v_swap3 ?_
    refine v_istore F (q := 197) [(6, VI a6), (5, VI a5), (4, VI ((5 * i : Nat) : Int)), (3, .ref ho), (2, .ref (g 0)), (1, .ref (h 0)), (0, .ref b)] dL_law_195 (by decide) rfl rfl ?_
    refine v_aload_n F 4 (q := 198) dL_law_197 rfl rfl rfl ?_
    refine v_swap3 ?_
    refine v_callVi F (kX6_thrown hst (k := k) (g := g) (S := sBottle S (xv xs (5 * i + 1)) (xv xs (5 * i + 2)) (xv xs (5 * i + 3)) (xv xs (5 * i + 4))) (Y := Y9) hI9.1) rfl gL_law_X6_thrown rfl hdX6_thrown ⟨Nat.le_of_ble_eq_true rfl, Nat.le_of_ble_eq_true rfl⟩ 0 mw_at0 rfl rfl rfl (Nat.le_of_ble_eq_true rfl) ⟨by show c + 1 + 0 ≤ 601024; omega, by show n + 6 + 0 ≤ 7293034; omega⟩ (q := 201) dL_law_198 rfl ?_
    rintro a7 _ ⟨rfl, h7⟩
    refine v_swap3 ?_
    refine v_iload F 1 (q := 203) dL_law_201 rfl rfl ?_
    refine v_icmp_eq F (tgt := 208) (q := 206) (by omega) (by omega) dL_law_203 rfl rfl (fun h9 => ?_) (fun h9 => absurd (show a7 = a5 by omega) h9)
    refine v_iload F 1 (q := 210) dL_law_208 rfl rfl ?_
    refine v_if_ne F (tgt := 225) (q := 213) (by omega) dL_law_210 rfl rfl (fun h9 => absurd (show a5 = 0 by omega) h9) (fun _ => ?_)
    refine v_aload_n F 3 (q := 214) dL_law_213 rfl rfl rfl ?_
    refine v_const F (q := 215) dL_law_214 rfl ?_
    refine v_lald F 39 rfl (q := 216) dL_law_215 rfl ?_
    refine v_iload F 0 (q := 218) dL_law_216 rfl rfl ?_
    refine v_i2l F (q := 219) dL_law_218 rfl ?_
    refine v_lcmp0 F (by rw [hf9, show r9 = S 0 0 from hr9, h6]) (q := 220) dL_law_219 rfl ?_
    refine v_if_eq F (tgt := 225) (q := 223) R32_0 dL_law_220 rfl rfl (fun _ => ?_) (fun h9 => absurd rfl h9)
    refine v_goto F (tgt := 1191) dL_law_225 rfl ?_
    refine v_sub [2, 3, 4, 5, 6] rfl ?_
    refine v_widen (c' := c + 200) (n' := n + 1100) (by show c + 1 ≤ c + 200; omega) (by show n + 6 ≤ n + 1100; omega) ?_
    exact kk (sBottle S (xv xs (5 * i + 1)) (xv xs (5 * i + 2)) (xv xs (5 * i + 3)) (xv xs (5 * i + 4))) Z9 Y9 f9 hI9
  · refine v_ar2 ?_
    have hb9 : 0 ≤ eBottle S (xv xs (5 * i + 1)) (xv xs (5 * i + 2)) (xv xs (5 * i + 3)) (xv xs (5 * i + 4)) ∧ eBottle S (xv xs (5 * i + 1)) (xv xs (5 * i + 2)) (xv xs (5 * i + 3)) (xv xs (5 * i + 4)) ≤ 3 := by unfold eBottle; (repeat' split) <;> decide
    refine v_istore F (q := 167) [(5, VI a5), (4, VI ((5 * i : Nat) : Int)), (3, .ref ho), (2, .ref (g 0)), (1, .ref (h 0)), (0, .ref b)] dL_law_165 (by decide) rfl rfl ?_
    refine v_aload_n F 3 (q := 168) dL_law_167 rfl rfl rfl ?_
    refine v_aload_n F 5 (q := 169) dL_law_168 rfl rfl rfl ?_
    refine v_iload F 1 (q := 171) dL_law_169 rfl rfl ?_
    refine v_const F (q := 172) dL_law_171 rfl ?_
    refine v_iadd F (q := 173) dL_law_172 rfl ?_
    refine v_sld F (j := 5 * i + 1) hX hbl hbA hL (by omega) (by omega) (q := 174) dL_law_173 rfl ?_
    refine v_aload_n F 5 (q := 175) dL_law_174 rfl rfl rfl ?_
    refine v_iload F 1 (q := 177) dL_law_175 rfl rfl ?_
    refine v_const F (q := 178) dL_law_177 rfl ?_
    refine v_iadd F (q := 179) dL_law_178 rfl ?_
    refine v_sld F (j := 5 * i + 2) hX hbl hbA hL (by omega) (by omega) (q := 180) dL_law_179 rfl ?_
    refine v_aload_n F 5 (q := 181) dL_law_180 rfl rfl rfl ?_
    refine v_iload F 1 (q := 183) dL_law_181 rfl rfl ?_
    refine v_const F (q := 184) dL_law_183 rfl ?_
    refine v_iadd F (q := 185) dL_law_184 rfl ?_
    refine v_sld F (j := 5 * i + 3) hX hbl hbA hL (by omega) (by omega) (q := 186) dL_law_185 rfl ?_
    refine v_aload_n F 5 (q := 187) dL_law_186 rfl rfl rfl ?_
    refine v_iload F 1 (q := 189) dL_law_187 rfl rfl ?_
    refine v_const F (q := 190) dL_law_189 rfl ?_
    refine v_iadd F (q := 191) dL_law_190 rfl ?_
    refine v_sld F (j := 5 * i + 4) hX hbl hbA hL (by omega) (by omega) (q := 192) dL_law_191 rfl ?_
    refine v_swap3 ?_
    refine v_callVi F (kX6_setBottle hst (k := k) (g := g) (S := S) (Y := Y) hI.1 (a0 := xv xs (5 * i + 1)) (a1 := xv xs (5 * i + 2)) (a2 := xv xs (5 * i + 3)) (a3 := xv xs (5 * i + 4)) (by omega) (by omega) (by omega) (by omega)) rfl gL_law_X6_setBottle rfl hdX6_setBottle ⟨Nat.le_of_ble_eq_true rfl, Nat.le_of_ble_eq_true rfl⟩ 0 mw_at0 rfl rfl rfl (Nat.le_of_ble_eq_true rfl) ⟨by show c + 1 + 0 ≤ 601024; omega, by show n + 6 + 0 ≤ 7293034; omega⟩ (q := 195) dL_law_192 rfl ?_
    rintro a6 _ ⟨Y9, hy9, ⟨he9, _, _⟩ | ⟨_, rfl⟩⟩
    case inl => exact absurd he9 he
    refine v_swap3 ?_
    refine v_istore F (q := 197) [(6, VI a6), (5, VI a5), (4, VI ((5 * i : Nat) : Int)), (3, .ref ho), (2, .ref (g 0)), (1, .ref (h 0)), (0, .ref b)] dL_law_195 (by decide) rfl rfl ?_
    refine v_aload_n F 4 (q := 198) dL_law_197 rfl rfl rfl ?_
    refine v_swap3 ?_
    refine v_callVi F (kX6_thrown hst (k := k) (g := g) (S := S) (Y := Y9) hI.1) rfl gL_law_X6_thrown rfl hdX6_thrown ⟨Nat.le_of_ble_eq_true rfl, Nat.le_of_ble_eq_true rfl⟩ 0 mw_at0 rfl rfl rfl (Nat.le_of_ble_eq_true rfl) ⟨by show c + 1 + 0 ≤ 601024; omega, by show n + 6 + 0 ≤ 7293034; omega⟩ (q := 201) dL_law_198 rfl ?_
    rintro a7 _ ⟨rfl, h7⟩
    refine v_swap3 ?_
    refine v_iload F 1 (q := 203) dL_law_201 rfl rfl ?_
    refine v_icmp_eq F (tgt := 208) (q := 206) (by omega) (by omega) dL_law_203 rfl rfl (fun h9 => ?_) (fun h9 => absurd (show a7 = a5 by omega) h9)
    refine v_iload F 1 (q := 210) dL_law_208 rfl rfl ?_
    refine v_if_ne F (tgt := 225) (q := 213) (by omega) dL_law_210 rfl rfl (fun _ => ?_) (fun h9 => absurd h9 (by omega))
    refine v_goto F (tgt := 1191) dL_law_225 rfl ?_
    refine v_sub [2, 3, 4, 5, 6] rfl ?_
    refine v_widen (c' := c + 200) (n' := n + 1100) (by show c + 1 ≤ c + 200; omega) (by show n + 6 ≤ n + 1100; omega) ?_
    exact kk S Z9 Y9 f hI
set_option maxRecDepth 100000 in
set_option maxHeartbeats 4000000 in
theorem o_setHull {X : vX} {l : Launch} {k : Nat → ClassId} {nm9 : String} (F : v_F X l k ⟨RL, nm9, "([I)Z"⟩ code 9 wsL_law room_1) (hst : l.stackTraces = false) {b L : Nat} {xs : Nat → Int32} (hX : va_X b L xs X.1.2.2.2.2 X.1.2.2.2.2.heap) (hbl : b < X.1.2.2.2.2.heap.size) (hbA : ¬ X.2.2.2.2 b) (hL : L ≤ 2560) {h g : Nat → Nat} {ho : Nat} {i : Nat} (hi : 5 * i + 5 ≤ L) {S Z Y : Nat → Nat → Int} {f : Nat → Int64} (hI : Inv2 S) {c n : Nat} (hc : c + 200 ≤ 601024) (hn : n + 1100 ≤ 7293034) (kk : (∀ (S' Z' Y' : Nat → Nat → Int) (f' : Nat → Int64), Inv2 S' → V X (cw k h S' Z' ++ (mw k g S' Y' ++ [(ho, oE k f')])) (c + 200) (n + 1100) 1191 [(4, VI ((5 * i : Nat) : Int)), (3, .ref ho), (2, .ref (g 0)), (1, .ref (h 0)), (0, .ref b)] [])) : V X (cw k h S Z ++ (mw k g S Y ++ [(ho, oE k f)])) c n 228 [(4, VI ((5 * i : Nat) : Int)), (3, .ref ho), (2, .ref (g 0)), (1, .ref (h 0)), (0, .ref b)] [] := by
  have r1 := xv_R xs (5 * i + 1)
  have r2 := xv_R xs (5 * i + 2)
  have r3 := xv_R xs (5 * i + 3)
  have r4 := xv_R xs (5 * i + 4)
  refine v_aload_n F 3 (q := 229) dL_law_228 rfl rfl rfl ?_
  refine v_aload_n F 4 (q := 230) dL_law_229 rfl rfl rfl ?_
  refine v_iload F 0 (q := 232) dL_law_230 rfl rfl ?_
  refine v_const F (q := 233) dL_law_232 rfl ?_
  refine v_iadd F (q := 234) dL_law_233 rfl ?_
  refine v_sld F (j := 5 * i + 1) hX hbl hbA hL (by omega) (by omega) (q := 235) dL_law_234 rfl ?_
  refine v_aload_n F 4 (q := 236) dL_law_235 rfl rfl rfl ?_
  refine v_iload F 0 (q := 238) dL_law_236 rfl rfl ?_
  refine v_const F (q := 239) dL_law_238 rfl ?_
  refine v_iadd F (q := 240) dL_law_239 rfl ?_
  refine v_sld F (j := 5 * i + 2) hX hbl hbA hL (by omega) (by omega) (q := 241) dL_law_240 rfl ?_
  refine v_aload_n F 4 (q := 242) dL_law_241 rfl rfl rfl ?_
  refine v_iload F 0 (q := 244) dL_law_242 rfl rfl ?_
  refine v_const F (q := 245) dL_law_244 rfl ?_
  refine v_iadd F (q := 246) dL_law_245 rfl ?_
  refine v_sld F (j := 5 * i + 3) hX hbl hbA hL (by omega) (by omega) (q := 247) dL_law_246 rfl ?_
  refine v_aload_n F 1 (q := 248) dL_law_247 rfl rfl rfl ?_
  refine v_ar1 ?_
  refine v_callSW F (kL_setHull hst (k := k) (h := h) (S := S) (Z := Z) hI.1 (a0 := xv xs (5 * i + 1)) (a1 := xv xs (5 * i + 2)) (a2 := xv xs (5 * i + 3)) (by omega) (by omega) (by omega) (ho := ho) (f := f)) rfl gL_law_L_setHull rfl hdL_setHull ⟨Nat.le_of_ble_eq_true rfl, Nat.le_of_ble_eq_true rfl⟩ rfl rfl (Nat.le_of_ble_eq_true rfl) ⟨by show c + 1 ≤ 601024; omega, by show n + 6 ≤ 7293034; omega⟩ (q := 251) dL_law_248 rfl ?_
  rintro a5 _ ⟨h5, ⟨he, Z9, f9, r9, rfl, hf9, hr9⟩ | ⟨he, Z9, rfl⟩⟩
  · refine v_ar2 ?_
    have hb9 : 0 ≤ eHull S (xv xs (5 * i + 1)) (xv xs (5 * i + 2)) (xv xs (5 * i + 3)) ∧ eHull S (xv xs (5 * i + 1)) (xv xs (5 * i + 2)) (xv xs (5 * i + 3)) ≤ 3 := by unfold eHull; (repeat' split) <;> decide
    have hI9 : Inv2 (sHull S (xv xs (5 * i + 1)) (xv xs (5 * i + 2)) (xv xs (5 * i + 3))) := inv2_sHull hI he
    refine v_istore F (q := 253) [(5, VI a5), (4, VI ((5 * i : Nat) : Int)), (3, .ref ho), (2, .ref (g 0)), (1, .ref (h 0)), (0, .ref b)] dL_law_251 (by decide) rfl rfl ?_
    refine v_aload_n F 3 (q := 254) dL_law_253 rfl rfl rfl ?_
    refine v_aload_n F 5 (q := 255) dL_law_254 rfl rfl rfl ?_
    refine v_iload F 1 (q := 257) dL_law_255 rfl rfl ?_
    refine v_const F (q := 258) dL_law_257 rfl ?_
    refine v_iadd F (q := 259) dL_law_258 rfl ?_
    refine v_sld F (j := 5 * i + 1) hX hbl hbA hL (by omega) (by omega) (q := 260) dL_law_259 rfl ?_
    refine v_aload_n F 5 (q := 261) dL_law_260 rfl rfl rfl ?_
    refine v_iload F 1 (q := 263) dL_law_261 rfl rfl ?_
    refine v_const F (q := 264) dL_law_263 rfl ?_
    refine v_iadd F (q := 265) dL_law_264 rfl ?_
    refine v_sld F (j := 5 * i + 2) hX hbl hbA hL (by omega) (by omega) (q := 266) dL_law_265 rfl ?_
    refine v_aload_n F 5 (q := 267) dL_law_266 rfl rfl rfl ?_
    refine v_iload F 1 (q := 269) dL_law_267 rfl rfl ?_
    refine v_const F (q := 270) dL_law_269 rfl ?_
    refine v_iadd F (q := 271) dL_law_270 rfl ?_
    refine v_sld F (j := 5 * i + 3) hX hbl hbA hL (by omega) (by omega) (q := 272) dL_law_271 rfl ?_
    refine v_swap3 ?_
    refine v_callVi F (kX6_setHull hst (k := k) (g := g) (S := S) (Y := Y) hI.1 (a0 := xv xs (5 * i + 1)) (a1 := xv xs (5 * i + 2)) (a2 := xv xs (5 * i + 3)) (by omega) (by omega) (by omega)) rfl gL_law_X6_setHull rfl hdX6_setHull ⟨Nat.le_of_ble_eq_true rfl, Nat.le_of_ble_eq_true rfl⟩ 0 mw_at0 rfl rfl rfl (Nat.le_of_ble_eq_true rfl) ⟨by show c + 1 + 0 ≤ 601024; omega, by show n + 6 + 0 ≤ 7293034; omega⟩ (q := 275) dL_law_272 rfl ?_
    rintro a6 _ ⟨Y9, hy9, ⟨_, h6, rfl⟩ | ⟨hn9, _⟩⟩
    case inr => exact absurd he hn9
    refine v_swap3 ?_
    refine v_istore F (q := 277) [(6, VI a6), (5, VI a5), (4, VI ((5 * i : Nat) : Int)), (3, .ref ho), (2, .ref (g 0)), (1, .ref (h 0)), (0, .ref b)] dL_law_275 (by decide) rfl rfl ?_
    refine v_aload_n F 4 (q := 278) dL_law_277 rfl rfl rfl ?_
    refine v_swap3 ?_
    refine v_callVi F (kX6_thrown hst (k := k) (g := g) (S := sHull S (xv xs (5 * i + 1)) (xv xs (5 * i + 2)) (xv xs (5 * i + 3))) (Y := Y9) hI9.1) rfl gL_law_X6_thrown rfl hdX6_thrown ⟨Nat.le_of_ble_eq_true rfl, Nat.le_of_ble_eq_true rfl⟩ 0 mw_at0 rfl rfl rfl (Nat.le_of_ble_eq_true rfl) ⟨by show c + 1 + 0 ≤ 601024; omega, by show n + 6 + 0 ≤ 7293034; omega⟩ (q := 281) dL_law_278 rfl ?_
    rintro a7 _ ⟨rfl, h7⟩
    refine v_swap3 ?_
    refine v_iload F 1 (q := 283) dL_law_281 rfl rfl ?_
    refine v_icmp_eq F (tgt := 288) (q := 286) (by omega) (by omega) dL_law_283 rfl rfl (fun h9 => ?_) (fun h9 => absurd (show a7 = a5 by omega) h9)
    refine v_iload F 1 (q := 290) dL_law_288 rfl rfl ?_
    refine v_if_ne F (tgt := 305) (q := 293) (by omega) dL_law_290 rfl rfl (fun h9 => absurd (show a5 = 0 by omega) h9) (fun _ => ?_)
    refine v_aload_n F 3 (q := 294) dL_law_293 rfl rfl rfl ?_
    refine v_const F (q := 295) dL_law_294 rfl ?_
    refine v_lald F 39 rfl (q := 296) dL_law_295 rfl ?_
    refine v_iload F 0 (q := 298) dL_law_296 rfl rfl ?_
    refine v_i2l F (q := 299) dL_law_298 rfl ?_
    refine v_lcmp0 F (by rw [hf9, show r9 = S 0 4 from hr9, h6]) (q := 300) dL_law_299 rfl ?_
    refine v_if_eq F (tgt := 305) (q := 303) R32_0 dL_law_300 rfl rfl (fun _ => ?_) (fun h9 => absurd rfl h9)
    refine v_goto F (tgt := 1191) dL_law_305 rfl ?_
    refine v_sub [2, 3, 4, 5, 6] rfl ?_
    refine v_widen (c' := c + 200) (n' := n + 1100) (by show c + 1 ≤ c + 200; omega) (by show n + 6 ≤ n + 1100; omega) ?_
    exact kk (sHull S (xv xs (5 * i + 1)) (xv xs (5 * i + 2)) (xv xs (5 * i + 3))) Z9 Y9 f9 hI9
  · refine v_ar2 ?_
    have hb9 : 0 ≤ eHull S (xv xs (5 * i + 1)) (xv xs (5 * i + 2)) (xv xs (5 * i + 3)) ∧ eHull S (xv xs (5 * i + 1)) (xv xs (5 * i + 2)) (xv xs (5 * i + 3)) ≤ 3 := by unfold eHull; (repeat' split) <;> decide
    refine v_istore F (q := 253) [(5, VI a5), (4, VI ((5 * i : Nat) : Int)), (3, .ref ho), (2, .ref (g 0)), (1, .ref (h 0)), (0, .ref b)] dL_law_251 (by decide) rfl rfl ?_
    refine v_aload_n F 3 (q := 254) dL_law_253 rfl rfl rfl ?_
    refine v_aload_n F 5 (q := 255) dL_law_254 rfl rfl rfl ?_
    refine v_iload F 1 (q := 257) dL_law_255 rfl rfl ?_
    refine v_const F (q := 258) dL_law_257 rfl ?_
    refine v_iadd F (q := 259) dL_law_258 rfl ?_
    refine v_sld F (j := 5 * i + 1) hX hbl hbA hL (by omega) (by omega) (q := 260) dL_law_259 rfl ?_
    refine v_aload_n F 5 (q := 261) dL_law_260 rfl rfl rfl ?_
    refine v_iload F 1 (q := 263) dL_law_261 rfl rfl ?_
    refine v_const F (q := 264) dL_law_263 rfl ?_
    refine v_iadd F (q := 265) dL_law_264 rfl ?_
    refine v_sld F (j := 5 * i + 2) hX hbl hbA hL (by omega) (by omega) (q := 266) dL_law_265 rfl ?_
    refine v_aload_n F 5 (q := 267) dL_law_266 rfl rfl rfl ?_
    refine v_iload F 1 (q := 269) dL_law_267 rfl rfl ?_
    refine v_const F (q := 270) dL_law_269 rfl ?_
    refine v_iadd F (q := 271) dL_law_270 rfl ?_
    refine v_sld F (j := 5 * i + 3) hX hbl hbA hL (by omega) (by omega) (q := 272) dL_law_271 rfl ?_
    refine v_swap3 ?_
    refine v_callVi F (kX6_setHull hst (k := k) (g := g) (S := S) (Y := Y) hI.1 (a0 := xv xs (5 * i + 1)) (a1 := xv xs (5 * i + 2)) (a2 := xv xs (5 * i + 3)) (by omega) (by omega) (by omega)) rfl gL_law_X6_setHull rfl hdX6_setHull ⟨Nat.le_of_ble_eq_true rfl, Nat.le_of_ble_eq_true rfl⟩ 0 mw_at0 rfl rfl rfl (Nat.le_of_ble_eq_true rfl) ⟨by show c + 1 + 0 ≤ 601024; omega, by show n + 6 + 0 ≤ 7293034; omega⟩ (q := 275) dL_law_272 rfl ?_
    rintro a6 _ ⟨Y9, hy9, ⟨he9, _, _⟩ | ⟨_, rfl⟩⟩
    case inl => exact absurd he9 he
    refine v_swap3 ?_
    refine v_istore F (q := 277) [(6, VI a6), (5, VI a5), (4, VI ((5 * i : Nat) : Int)), (3, .ref ho), (2, .ref (g 0)), (1, .ref (h 0)), (0, .ref b)] dL_law_275 (by decide) rfl rfl ?_
    refine v_aload_n F 4 (q := 278) dL_law_277 rfl rfl rfl ?_
    refine v_swap3 ?_
    refine v_callVi F (kX6_thrown hst (k := k) (g := g) (S := S) (Y := Y9) hI.1) rfl gL_law_X6_thrown rfl hdX6_thrown ⟨Nat.le_of_ble_eq_true rfl, Nat.le_of_ble_eq_true rfl⟩ 0 mw_at0 rfl rfl rfl (Nat.le_of_ble_eq_true rfl) ⟨by show c + 1 + 0 ≤ 601024; omega, by show n + 6 + 0 ≤ 7293034; omega⟩ (q := 281) dL_law_278 rfl ?_
    rintro a7 _ ⟨rfl, h7⟩
    refine v_swap3 ?_
    refine v_iload F 1 (q := 283) dL_law_281 rfl rfl ?_
    refine v_icmp_eq F (tgt := 288) (q := 286) (by omega) (by omega) dL_law_283 rfl rfl (fun h9 => ?_) (fun h9 => absurd (show a7 = a5 by omega) h9)
    refine v_iload F 1 (q := 290) dL_law_288 rfl rfl ?_
    refine v_if_ne F (tgt := 305) (q := 293) (by omega) dL_law_290 rfl rfl (fun _ => ?_) (fun h9 => absurd h9 (by omega))
    refine v_goto F (tgt := 1191) dL_law_305 rfl ?_
    refine v_sub [2, 3, 4, 5, 6] rfl ?_
    refine v_widen (c' := c + 200) (n' := n + 1100) (by show c + 1 ≤ c + 200; omega) (by show n + 6 ≤ n + 1100; omega) ?_
    exact kk S Z9 Y9 f hI
set_option maxRecDepth 100000 in
set_option maxHeartbeats 4000000 in
theorem o_step {X : vX} {l : Launch} {k : Nat → ClassId} {nm9 : String} (F : v_F X l k ⟨RL, nm9, "([I)Z"⟩ code 9 wsL_law room_1) (hst : l.stackTraces = false) {b L : Nat} {xs : Nat → Int32} (hX : va_X b L xs X.1.2.2.2.2 X.1.2.2.2.2.heap) (hbl : b < X.1.2.2.2.2.heap.size) (hbA : ¬ X.2.2.2.2 b) (hL : L ≤ 2560) {h g : Nat → Nat} {ho : Nat} {i : Nat} (hi : 5 * i + 5 ≤ L) {S Z Y : Nat → Nat → Int} {f : Nat → Int64} (hI : Inv2 S) {c n : Nat} (hc : c + 200 ≤ 601024) (hn : n + 1100 ≤ 7293034) (kk : (∀ (S' Z' Y' : Nat → Nat → Int) (f' : Nat → Int64), Inv2 S' → V X (cw k h S' Z' ++ (mw k g S' Y' ++ [(ho, oE k f')])) (c + 200) (n + 1100) 1191 [(4, VI ((5 * i : Nat) : Int)), (3, .ref ho), (2, .ref (g 0)), (1, .ref (h 0)), (0, .ref b)] [])) : V X (cw k h S Z ++ (mw k g S Y ++ [(ho, oE k f)])) c n 308 [(4, VI ((5 * i : Nat) : Int)), (3, .ref ho), (2, .ref (g 0)), (1, .ref (h 0)), (0, .ref b)] [] := by
  have r1 := xv_R xs (5 * i + 1)
  have r2 := xv_R xs (5 * i + 2)
  have r3 := xv_R xs (5 * i + 3)
  have r4 := xv_R xs (5 * i + 4)
  refine v_aload_n F 3 (q := 309) dL_law_308 rfl rfl rfl ?_
  refine v_aload_n F 4 (q := 310) dL_law_309 rfl rfl rfl ?_
  refine v_iload F 0 (q := 312) dL_law_310 rfl rfl ?_
  refine v_const F (q := 313) dL_law_312 rfl ?_
  refine v_iadd F (q := 314) dL_law_313 rfl ?_
  refine v_sld F (j := 5 * i + 1) hX hbl hbA hL (by omega) (by omega) (q := 315) dL_law_314 rfl ?_
  refine v_aload_n F 4 (q := 316) dL_law_315 rfl rfl rfl ?_
  refine v_iload F 0 (q := 318) dL_law_316 rfl rfl ?_
  refine v_const F (q := 319) dL_law_318 rfl ?_
  refine v_iadd F (q := 320) dL_law_319 rfl ?_
  refine v_sld F (j := 5 * i + 2) hX hbl hbA hL (by omega) (by omega) (q := 321) dL_law_320 rfl ?_
  refine v_aload_n F 1 (q := 322) dL_law_321 rfl rfl rfl ?_
  refine v_ar1 ?_
  refine v_callSW F (kL_step hst (k := k) (h := h) (S := S) (Z := Z) hI.1 (a0 := xv xs (5 * i + 1)) (a1 := xv xs (5 * i + 2)) (by omega) (by omega) (ho := ho) (f := f)) rfl gL_law_L_step rfl hdL_step ⟨Nat.le_of_ble_eq_true rfl, Nat.le_of_ble_eq_true rfl⟩ rfl rfl (Nat.le_of_ble_eq_true rfl) ⟨by show c + 1 ≤ 601024; omega, by show n + 6 ≤ 7293034; omega⟩ (q := 325) dL_law_322 rfl ?_
  rintro a5 _ ⟨h5, ⟨he, Z9, f9, r9, rfl, hf9, hr9⟩ | ⟨he, Z9, rfl⟩⟩
  · refine v_ar2 ?_
    have hb9 : 0 ≤ eStep S (xv xs (5 * i + 1)) (xv xs (5 * i + 2)) ∧ eStep S (xv xs (5 * i + 1)) (xv xs (5 * i + 2)) ≤ 3 := by unfold eStep; (repeat' split) <;> decide
    have hI9 : Inv2 (sStep S (xv xs (5 * i + 1)) (xv xs (5 * i + 2))) := inv2_sStep hI he
    refine v_istore F (q := 327) [(5, VI a5), (4, VI ((5 * i : Nat) : Int)), (3, .ref ho), (2, .ref (g 0)), (1, .ref (h 0)), (0, .ref b)] dL_law_325 (by decide) rfl rfl ?_
    refine v_aload_n F 3 (q := 328) dL_law_327 rfl rfl rfl ?_
    refine v_aload_n F 5 (q := 329) dL_law_328 rfl rfl rfl ?_
    refine v_iload F 1 (q := 331) dL_law_329 rfl rfl ?_
    refine v_const F (q := 332) dL_law_331 rfl ?_
    refine v_iadd F (q := 333) dL_law_332 rfl ?_
    refine v_sld F (j := 5 * i + 1) hX hbl hbA hL (by omega) (by omega) (q := 334) dL_law_333 rfl ?_
    refine v_aload_n F 5 (q := 335) dL_law_334 rfl rfl rfl ?_
    refine v_iload F 1 (q := 337) dL_law_335 rfl rfl ?_
    refine v_const F (q := 338) dL_law_337 rfl ?_
    refine v_iadd F (q := 339) dL_law_338 rfl ?_
    refine v_sld F (j := 5 * i + 2) hX hbl hbA hL (by omega) (by omega) (q := 340) dL_law_339 rfl ?_
    refine v_swap3 ?_
    refine v_callVi F (kX6_step hst (k := k) (g := g) (S := S) (Y := Y) hI.1 (a0 := xv xs (5 * i + 1)) (a1 := xv xs (5 * i + 2)) (by omega) (by omega)) rfl gL_law_X6_step rfl hdX6_step ⟨Nat.le_of_ble_eq_true rfl, Nat.le_of_ble_eq_true rfl⟩ 0 mw_at0 rfl rfl rfl (Nat.le_of_ble_eq_true rfl) ⟨by show c + 1 + 0 ≤ 601024; omega, by show n + 6 + 0 ≤ 7293034; omega⟩ (q := 343) dL_law_340 rfl ?_
    rintro a6 _ ⟨Y9, hy9, ⟨_, h6, rfl⟩ | ⟨hn9, _⟩⟩
    case inr => exact absurd he hn9
    refine v_swap3 ?_
    refine v_istore F (q := 345) [(6, VI a6), (5, VI a5), (4, VI ((5 * i : Nat) : Int)), (3, .ref ho), (2, .ref (g 0)), (1, .ref (h 0)), (0, .ref b)] dL_law_343 (by decide) rfl rfl ?_
    refine v_aload_n F 4 (q := 346) dL_law_345 rfl rfl rfl ?_
    refine v_swap3 ?_
    refine v_callVi F (kX6_thrown hst (k := k) (g := g) (S := sStep S (xv xs (5 * i + 1)) (xv xs (5 * i + 2))) (Y := Y9) hI9.1) rfl gL_law_X6_thrown rfl hdX6_thrown ⟨Nat.le_of_ble_eq_true rfl, Nat.le_of_ble_eq_true rfl⟩ 0 mw_at0 rfl rfl rfl (Nat.le_of_ble_eq_true rfl) ⟨by show c + 1 + 0 ≤ 601024; omega, by show n + 6 + 0 ≤ 7293034; omega⟩ (q := 349) dL_law_346 rfl ?_
    rintro a7 _ ⟨rfl, h7⟩
    refine v_swap3 ?_
    refine v_iload F 1 (q := 351) dL_law_349 rfl rfl ?_
    refine v_icmp_eq F (tgt := 356) (q := 354) (by omega) (by omega) dL_law_351 rfl rfl (fun h9 => ?_) (fun h9 => absurd (show a7 = a5 by omega) h9)
    refine v_iload F 1 (q := 358) dL_law_356 rfl rfl ?_
    refine v_if_ne F (tgt := 373) (q := 361) (by omega) dL_law_358 rfl rfl (fun h9 => absurd (show a5 = 0 by omega) h9) (fun _ => ?_)
    refine v_aload_n F 3 (q := 362) dL_law_361 rfl rfl rfl ?_
    refine v_const F (q := 363) dL_law_362 rfl ?_
    refine v_lald F 39 rfl (q := 364) dL_law_363 rfl ?_
    refine v_iload F 0 (q := 366) dL_law_364 rfl rfl ?_
    refine v_i2l F (q := 367) dL_law_366 rfl ?_
    refine v_lcmp0 F (by rw [hf9, show r9 = S 0 7 from hr9, h6]) (q := 368) dL_law_367 rfl ?_
    refine v_if_eq F (tgt := 373) (q := 371) R32_0 dL_law_368 rfl rfl (fun _ => ?_) (fun h9 => absurd rfl h9)
    refine v_goto F (tgt := 1191) dL_law_373 rfl ?_
    refine v_sub [2, 3, 4, 5, 6] rfl ?_
    refine v_widen (c' := c + 200) (n' := n + 1100) (by show c + 1 ≤ c + 200; omega) (by show n + 6 ≤ n + 1100; omega) ?_
    exact kk (sStep S (xv xs (5 * i + 1)) (xv xs (5 * i + 2))) Z9 Y9 f9 hI9
  · refine v_ar2 ?_
    have hb9 : 0 ≤ eStep S (xv xs (5 * i + 1)) (xv xs (5 * i + 2)) ∧ eStep S (xv xs (5 * i + 1)) (xv xs (5 * i + 2)) ≤ 3 := by unfold eStep; (repeat' split) <;> decide
    refine v_istore F (q := 327) [(5, VI a5), (4, VI ((5 * i : Nat) : Int)), (3, .ref ho), (2, .ref (g 0)), (1, .ref (h 0)), (0, .ref b)] dL_law_325 (by decide) rfl rfl ?_
    refine v_aload_n F 3 (q := 328) dL_law_327 rfl rfl rfl ?_
    refine v_aload_n F 5 (q := 329) dL_law_328 rfl rfl rfl ?_
    refine v_iload F 1 (q := 331) dL_law_329 rfl rfl ?_
    refine v_const F (q := 332) dL_law_331 rfl ?_
    refine v_iadd F (q := 333) dL_law_332 rfl ?_
    refine v_sld F (j := 5 * i + 1) hX hbl hbA hL (by omega) (by omega) (q := 334) dL_law_333 rfl ?_
    refine v_aload_n F 5 (q := 335) dL_law_334 rfl rfl rfl ?_
    refine v_iload F 1 (q := 337) dL_law_335 rfl rfl ?_
    refine v_const F (q := 338) dL_law_337 rfl ?_
    refine v_iadd F (q := 339) dL_law_338 rfl ?_
    refine v_sld F (j := 5 * i + 2) hX hbl hbA hL (by omega) (by omega) (q := 340) dL_law_339 rfl ?_
    refine v_swap3 ?_
    refine v_callVi F (kX6_step hst (k := k) (g := g) (S := S) (Y := Y) hI.1 (a0 := xv xs (5 * i + 1)) (a1 := xv xs (5 * i + 2)) (by omega) (by omega)) rfl gL_law_X6_step rfl hdX6_step ⟨Nat.le_of_ble_eq_true rfl, Nat.le_of_ble_eq_true rfl⟩ 0 mw_at0 rfl rfl rfl (Nat.le_of_ble_eq_true rfl) ⟨by show c + 1 + 0 ≤ 601024; omega, by show n + 6 + 0 ≤ 7293034; omega⟩ (q := 343) dL_law_340 rfl ?_
    rintro a6 _ ⟨Y9, hy9, ⟨he9, _, _⟩ | ⟨_, rfl⟩⟩
    case inl => exact absurd he9 he
    refine v_swap3 ?_
    refine v_istore F (q := 345) [(6, VI a6), (5, VI a5), (4, VI ((5 * i : Nat) : Int)), (3, .ref ho), (2, .ref (g 0)), (1, .ref (h 0)), (0, .ref b)] dL_law_343 (by decide) rfl rfl ?_
    refine v_aload_n F 4 (q := 346) dL_law_345 rfl rfl rfl ?_
    refine v_swap3 ?_
    refine v_callVi F (kX6_thrown hst (k := k) (g := g) (S := S) (Y := Y9) hI.1) rfl gL_law_X6_thrown rfl hdX6_thrown ⟨Nat.le_of_ble_eq_true rfl, Nat.le_of_ble_eq_true rfl⟩ 0 mw_at0 rfl rfl rfl (Nat.le_of_ble_eq_true rfl) ⟨by show c + 1 + 0 ≤ 601024; omega, by show n + 6 + 0 ≤ 7293034; omega⟩ (q := 349) dL_law_346 rfl ?_
    rintro a7 _ ⟨rfl, h7⟩
    refine v_swap3 ?_
    refine v_iload F 1 (q := 351) dL_law_349 rfl rfl ?_
    refine v_icmp_eq F (tgt := 356) (q := 354) (by omega) (by omega) dL_law_351 rfl rfl (fun h9 => ?_) (fun h9 => absurd (show a7 = a5 by omega) h9)
    refine v_iload F 1 (q := 358) dL_law_356 rfl rfl ?_
    refine v_if_ne F (tgt := 373) (q := 361) (by omega) dL_law_358 rfl rfl (fun _ => ?_) (fun h9 => absurd h9 (by omega))
    refine v_goto F (tgt := 1191) dL_law_373 rfl ?_
    refine v_sub [2, 3, 4, 5, 6] rfl ?_
    refine v_widen (c' := c + 200) (n' := n + 1100) (by show c + 1 ≤ c + 200; omega) (by show n + 6 ≤ n + 1100; omega) ?_
    exact kk S Z9 Y9 f hI
set_option maxRecDepth 100000 in
set_option maxHeartbeats 4000000 in
theorem o_yard {X : vX} {l : Launch} {k : Nat → ClassId} {nm9 : String} (F : v_F X l k ⟨RL, nm9, "([I)Z"⟩ code 9 wsL_law room_1) (hst : l.stackTraces = false) {b L : Nat} {xs : Nat → Int32} (hX : va_X b L xs X.1.2.2.2.2 X.1.2.2.2.2.heap) (hbl : b < X.1.2.2.2.2.heap.size) (hbA : ¬ X.2.2.2.2 b) (hL : L ≤ 2560) {h g : Nat → Nat} {ho : Nat} {i : Nat} (hi : 5 * i + 5 ≤ L) {S Z Y : Nat → Nat → Int} {f : Nat → Int64} (hI : Inv2 S) {c n : Nat} (hc : c + 200 ≤ 601024) (hn : n + 1100 ≤ 7293034) (kk : (∀ (S' Z' Y' : Nat → Nat → Int) (f' : Nat → Int64), Inv2 S' → V X (cw k h S' Z' ++ (mw k g S' Y' ++ [(ho, oE k f')])) (c + 200) (n + 1100) 1191 [(4, VI ((5 * i : Nat) : Int)), (3, .ref ho), (2, .ref (g 0)), (1, .ref (h 0)), (0, .ref b)] [])) : V X (cw k h S Z ++ (mw k g S Y ++ [(ho, oE k f)])) c n 376 [(4, VI ((5 * i : Nat) : Int)), (3, .ref ho), (2, .ref (g 0)), (1, .ref (h 0)), (0, .ref b)] [] := by
  have r1 := xv_R xs (5 * i + 1)
  have r2 := xv_R xs (5 * i + 2)
  have r3 := xv_R xs (5 * i + 3)
  have r4 := xv_R xs (5 * i + 4)
  refine v_aload_n F 3 (q := 377) dL_law_376 rfl rfl rfl ?_
  refine v_aload_n F 4 (q := 378) dL_law_377 rfl rfl rfl ?_
  refine v_iload F 0 (q := 380) dL_law_378 rfl rfl ?_
  refine v_const F (q := 381) dL_law_380 rfl ?_
  refine v_iadd F (q := 382) dL_law_381 rfl ?_
  refine v_sld F (j := 5 * i + 1) hX hbl hbA hL (by omega) (by omega) (q := 383) dL_law_382 rfl ?_
  refine v_aload_n F 4 (q := 384) dL_law_383 rfl rfl rfl ?_
  refine v_iload F 0 (q := 386) dL_law_384 rfl rfl ?_
  refine v_const F (q := 387) dL_law_386 rfl ?_
  refine v_iadd F (q := 388) dL_law_387 rfl ?_
  refine v_sld F (j := 5 * i + 2) hX hbl hbA hL (by omega) (by omega) (q := 389) dL_law_388 rfl ?_
  refine v_aload_n F 1 (q := 390) dL_law_389 rfl rfl rfl ?_
  refine v_ar1 ?_
  refine v_callSW F (kL_yard hst (k := k) (h := h) (S := S) (Z := Z) hI.1 (a0 := xv xs (5 * i + 1)) (a1 := xv xs (5 * i + 2)) (by omega) (by omega) (ho := ho) (f := f)) rfl gL_law_L_yard rfl hdL_yard ⟨Nat.le_of_ble_eq_true rfl, Nat.le_of_ble_eq_true rfl⟩ rfl rfl (Nat.le_of_ble_eq_true rfl) ⟨by show c + 1 ≤ 601024; omega, by show n + 6 ≤ 7293034; omega⟩ (q := 393) dL_law_390 rfl ?_
  rintro a5 _ ⟨h5, ⟨he, Z9, f9, r9, rfl, hf9, hr9⟩ | ⟨he, Z9, rfl⟩⟩
  · refine v_ar2 ?_
    have hb9 : 0 ≤ eYard S (xv xs (5 * i + 1)) (xv xs (5 * i + 2)) ∧ eYard S (xv xs (5 * i + 1)) (xv xs (5 * i + 2)) ≤ 3 := by unfold eYard; (repeat' split) <;> decide
    have hI9 : Inv2 (sYard S (xv xs (5 * i + 1)) (xv xs (5 * i + 2))) := inv2_sYard hI he
    refine v_istore F (q := 395) [(5, VI a5), (4, VI ((5 * i : Nat) : Int)), (3, .ref ho), (2, .ref (g 0)), (1, .ref (h 0)), (0, .ref b)] dL_law_393 (by decide) rfl rfl ?_
    refine v_aload_n F 3 (q := 396) dL_law_395 rfl rfl rfl ?_
    refine v_aload_n F 5 (q := 397) dL_law_396 rfl rfl rfl ?_
    refine v_iload F 1 (q := 399) dL_law_397 rfl rfl ?_
    refine v_const F (q := 400) dL_law_399 rfl ?_
    refine v_iadd F (q := 401) dL_law_400 rfl ?_
    refine v_sld F (j := 5 * i + 1) hX hbl hbA hL (by omega) (by omega) (q := 402) dL_law_401 rfl ?_
    refine v_aload_n F 5 (q := 403) dL_law_402 rfl rfl rfl ?_
    refine v_iload F 1 (q := 405) dL_law_403 rfl rfl ?_
    refine v_const F (q := 406) dL_law_405 rfl ?_
    refine v_iadd F (q := 407) dL_law_406 rfl ?_
    refine v_sld F (j := 5 * i + 2) hX hbl hbA hL (by omega) (by omega) (q := 408) dL_law_407 rfl ?_
    refine v_swap3 ?_
    refine v_callVi F (kX6_yard hst (k := k) (g := g) (S := S) (Y := Y) hI.1 (a0 := xv xs (5 * i + 1)) (a1 := xv xs (5 * i + 2)) (by omega) (by omega)) rfl gL_law_X6_yard rfl hdX6_yard ⟨Nat.le_of_ble_eq_true rfl, Nat.le_of_ble_eq_true rfl⟩ 0 mw_at0 rfl rfl rfl (Nat.le_of_ble_eq_true rfl) ⟨by show c + 1 + 0 ≤ 601024; omega, by show n + 6 + 0 ≤ 7293034; omega⟩ (q := 411) dL_law_408 rfl ?_
    rintro a6 _ ⟨Y9, hy9, ⟨_, h6, rfl⟩ | ⟨hn9, _⟩⟩
    case inr => exact absurd he hn9
    refine v_swap3 ?_
    refine v_istore F (q := 413) [(6, VI a6), (5, VI a5), (4, VI ((5 * i : Nat) : Int)), (3, .ref ho), (2, .ref (g 0)), (1, .ref (h 0)), (0, .ref b)] dL_law_411 (by decide) rfl rfl ?_
    refine v_aload_n F 4 (q := 414) dL_law_413 rfl rfl rfl ?_
    refine v_swap3 ?_
    refine v_callVi F (kX6_thrown hst (k := k) (g := g) (S := sYard S (xv xs (5 * i + 1)) (xv xs (5 * i + 2))) (Y := Y9) hI9.1) rfl gL_law_X6_thrown rfl hdX6_thrown ⟨Nat.le_of_ble_eq_true rfl, Nat.le_of_ble_eq_true rfl⟩ 0 mw_at0 rfl rfl rfl (Nat.le_of_ble_eq_true rfl) ⟨by show c + 1 + 0 ≤ 601024; omega, by show n + 6 + 0 ≤ 7293034; omega⟩ (q := 417) dL_law_414 rfl ?_
    rintro a7 _ ⟨rfl, h7⟩
    refine v_swap3 ?_
    refine v_iload F 1 (q := 419) dL_law_417 rfl rfl ?_
    refine v_icmp_eq F (tgt := 424) (q := 422) (by omega) (by omega) dL_law_419 rfl rfl (fun h9 => ?_) (fun h9 => absurd (show a7 = a5 by omega) h9)
    refine v_iload F 1 (q := 426) dL_law_424 rfl rfl ?_
    refine v_if_ne F (tgt := 441) (q := 429) (by omega) dL_law_426 rfl rfl (fun h9 => absurd (show a5 = 0 by omega) h9) (fun _ => ?_)
    refine v_aload_n F 3 (q := 430) dL_law_429 rfl rfl rfl ?_
    refine v_const F (q := 431) dL_law_430 rfl ?_
    refine v_lald F 39 rfl (q := 432) dL_law_431 rfl ?_
    refine v_iload F 0 (q := 434) dL_law_432 rfl rfl ?_
    refine v_i2l F (q := 435) dL_law_434 rfl ?_
    refine v_lcmp0 F (by rw [hf9, show r9 = S 3 ((xv xs (5 * i + 1))).toNat + 1 from hr9, h6]) (q := 436) dL_law_435 rfl ?_
    refine v_if_eq F (tgt := 441) (q := 439) R32_0 dL_law_436 rfl rfl (fun _ => ?_) (fun h9 => absurd rfl h9)
    refine v_goto F (tgt := 1191) dL_law_441 rfl ?_
    refine v_sub [2, 3, 4, 5, 6] rfl ?_
    refine v_widen (c' := c + 200) (n' := n + 1100) (by show c + 1 ≤ c + 200; omega) (by show n + 6 ≤ n + 1100; omega) ?_
    exact kk (sYard S (xv xs (5 * i + 1)) (xv xs (5 * i + 2))) Z9 Y9 f9 hI9
  · refine v_ar2 ?_
    have hb9 : 0 ≤ eYard S (xv xs (5 * i + 1)) (xv xs (5 * i + 2)) ∧ eYard S (xv xs (5 * i + 1)) (xv xs (5 * i + 2)) ≤ 3 := by unfold eYard; (repeat' split) <;> decide
    refine v_istore F (q := 395) [(5, VI a5), (4, VI ((5 * i : Nat) : Int)), (3, .ref ho), (2, .ref (g 0)), (1, .ref (h 0)), (0, .ref b)] dL_law_393 (by decide) rfl rfl ?_
    refine v_aload_n F 3 (q := 396) dL_law_395 rfl rfl rfl ?_
    refine v_aload_n F 5 (q := 397) dL_law_396 rfl rfl rfl ?_
    refine v_iload F 1 (q := 399) dL_law_397 rfl rfl ?_
    refine v_const F (q := 400) dL_law_399 rfl ?_
    refine v_iadd F (q := 401) dL_law_400 rfl ?_
    refine v_sld F (j := 5 * i + 1) hX hbl hbA hL (by omega) (by omega) (q := 402) dL_law_401 rfl ?_
    refine v_aload_n F 5 (q := 403) dL_law_402 rfl rfl rfl ?_
    refine v_iload F 1 (q := 405) dL_law_403 rfl rfl ?_
    refine v_const F (q := 406) dL_law_405 rfl ?_
    refine v_iadd F (q := 407) dL_law_406 rfl ?_
    refine v_sld F (j := 5 * i + 2) hX hbl hbA hL (by omega) (by omega) (q := 408) dL_law_407 rfl ?_
    refine v_swap3 ?_
    refine v_callVi F (kX6_yard hst (k := k) (g := g) (S := S) (Y := Y) hI.1 (a0 := xv xs (5 * i + 1)) (a1 := xv xs (5 * i + 2)) (by omega) (by omega)) rfl gL_law_X6_yard rfl hdX6_yard ⟨Nat.le_of_ble_eq_true rfl, Nat.le_of_ble_eq_true rfl⟩ 0 mw_at0 rfl rfl rfl (Nat.le_of_ble_eq_true rfl) ⟨by show c + 1 + 0 ≤ 601024; omega, by show n + 6 + 0 ≤ 7293034; omega⟩ (q := 411) dL_law_408 rfl ?_
    rintro a6 _ ⟨Y9, hy9, ⟨he9, _, _⟩ | ⟨_, rfl⟩⟩
    case inl => exact absurd he9 he
    refine v_swap3 ?_
    refine v_istore F (q := 413) [(6, VI a6), (5, VI a5), (4, VI ((5 * i : Nat) : Int)), (3, .ref ho), (2, .ref (g 0)), (1, .ref (h 0)), (0, .ref b)] dL_law_411 (by decide) rfl rfl ?_
    refine v_aload_n F 4 (q := 414) dL_law_413 rfl rfl rfl ?_
    refine v_swap3 ?_
    refine v_callVi F (kX6_thrown hst (k := k) (g := g) (S := S) (Y := Y9) hI.1) rfl gL_law_X6_thrown rfl hdX6_thrown ⟨Nat.le_of_ble_eq_true rfl, Nat.le_of_ble_eq_true rfl⟩ 0 mw_at0 rfl rfl rfl (Nat.le_of_ble_eq_true rfl) ⟨by show c + 1 + 0 ≤ 601024; omega, by show n + 6 + 0 ≤ 7293034; omega⟩ (q := 417) dL_law_414 rfl ?_
    rintro a7 _ ⟨rfl, h7⟩
    refine v_swap3 ?_
    refine v_iload F 1 (q := 419) dL_law_417 rfl rfl ?_
    refine v_icmp_eq F (tgt := 424) (q := 422) (by omega) (by omega) dL_law_419 rfl rfl (fun h9 => ?_) (fun h9 => absurd (show a7 = a5 by omega) h9)
    refine v_iload F 1 (q := 426) dL_law_424 rfl rfl ?_
    refine v_if_ne F (tgt := 441) (q := 429) (by omega) dL_law_426 rfl rfl (fun _ => ?_) (fun h9 => absurd h9 (by omega))
    refine v_goto F (tgt := 1191) dL_law_441 rfl ?_
    refine v_sub [2, 3, 4, 5, 6] rfl ?_
    refine v_widen (c' := c + 200) (n' := n + 1100) (by show c + 1 ≤ c + 200; omega) (by show n + 6 ≤ n + 1100; omega) ?_
    exact kk S Z9 Y9 f hI
set_option maxRecDepth 100000 in
set_option maxHeartbeats 4000000 in
theorem o_lead {X : vX} {l : Launch} {k : Nat → ClassId} {nm9 : String} (F : v_F X l k ⟨RL, nm9, "([I)Z"⟩ code 9 wsL_law room_1) (hst : l.stackTraces = false) {b L : Nat} {xs : Nat → Int32} (hX : va_X b L xs X.1.2.2.2.2 X.1.2.2.2.2.heap) (hbl : b < X.1.2.2.2.2.heap.size) (hbA : ¬ X.2.2.2.2 b) (hL : L ≤ 2560) {h g : Nat → Nat} {ho : Nat} {i : Nat} (hi : 5 * i + 5 ≤ L) {S Z Y : Nat → Nat → Int} {f : Nat → Int64} (hI : Inv2 S) {c n : Nat} (hc : c + 200 ≤ 601024) (hn : n + 1100 ≤ 7293034) (kk : (∀ (S' Z' Y' : Nat → Nat → Int) (f' : Nat → Int64), Inv2 S' → V X (cw k h S' Z' ++ (mw k g S' Y' ++ [(ho, oE k f')])) (c + 200) (n + 1100) 1191 [(4, VI ((5 * i : Nat) : Int)), (3, .ref ho), (2, .ref (g 0)), (1, .ref (h 0)), (0, .ref b)] [])) : V X (cw k h S Z ++ (mw k g S Y ++ [(ho, oE k f)])) c n 444 [(4, VI ((5 * i : Nat) : Int)), (3, .ref ho), (2, .ref (g 0)), (1, .ref (h 0)), (0, .ref b)] [] := by
  have r1 := xv_R xs (5 * i + 1)
  have r2 := xv_R xs (5 * i + 2)
  have r3 := xv_R xs (5 * i + 3)
  have r4 := xv_R xs (5 * i + 4)
  refine v_aload_n F 3 (q := 445) dL_law_444 rfl rfl rfl ?_
  refine v_aload_n F 4 (q := 446) dL_law_445 rfl rfl rfl ?_
  refine v_iload F 0 (q := 448) dL_law_446 rfl rfl ?_
  refine v_const F (q := 449) dL_law_448 rfl ?_
  refine v_iadd F (q := 450) dL_law_449 rfl ?_
  refine v_sld F (j := 5 * i + 1) hX hbl hbA hL (by omega) (by omega) (q := 451) dL_law_450 rfl ?_
  refine v_aload_n F 4 (q := 452) dL_law_451 rfl rfl rfl ?_
  refine v_iload F 0 (q := 454) dL_law_452 rfl rfl ?_
  refine v_const F (q := 455) dL_law_454 rfl ?_
  refine v_iadd F (q := 456) dL_law_455 rfl ?_
  refine v_sld F (j := 5 * i + 2) hX hbl hbA hL (by omega) (by omega) (q := 457) dL_law_456 rfl ?_
  refine v_aload_n F 4 (q := 458) dL_law_457 rfl rfl rfl ?_
  refine v_iload F 0 (q := 460) dL_law_458 rfl rfl ?_
  refine v_const F (q := 461) dL_law_460 rfl ?_
  refine v_iadd F (q := 462) dL_law_461 rfl ?_
  refine v_sld F (j := 5 * i + 3) hX hbl hbA hL (by omega) (by omega) (q := 463) dL_law_462 rfl ?_
  refine v_aload_n F 1 (q := 464) dL_law_463 rfl rfl rfl ?_
  refine v_ar1 ?_
  refine v_callSW F (kL_lead hst (k := k) (h := h) (S := S) (Z := Z) hI.1 (a0 := xv xs (5 * i + 1)) (a1 := xv xs (5 * i + 2)) (a2 := xv xs (5 * i + 3)) (by omega) (by omega) (by omega) (ho := ho) (f := f)) rfl gL_law_L_lead rfl hdL_lead ⟨Nat.le_of_ble_eq_true rfl, Nat.le_of_ble_eq_true rfl⟩ rfl rfl (Nat.le_of_ble_eq_true rfl) ⟨by show c + 1 ≤ 601024; omega, by show n + 6 ≤ 7293034; omega⟩ (q := 467) dL_law_464 rfl ?_
  rintro a5 _ ⟨h5, ⟨he, Z9, f9, r9, rfl, hf9, hr9⟩ | ⟨he, Z9, rfl⟩⟩
  · refine v_ar2 ?_
    have hb9 : 0 ≤ eLead S (xv xs (5 * i + 1)) (xv xs (5 * i + 2)) (xv xs (5 * i + 3)) ∧ eLead S (xv xs (5 * i + 1)) (xv xs (5 * i + 2)) (xv xs (5 * i + 3)) ≤ 3 := by unfold eLead; (repeat' split) <;> decide
    have hI9 : Inv2 (sLead S (xv xs (5 * i + 1)) (xv xs (5 * i + 2)) (xv xs (5 * i + 3))) := inv2_sLead hI he
    refine v_istore F (q := 469) [(5, VI a5), (4, VI ((5 * i : Nat) : Int)), (3, .ref ho), (2, .ref (g 0)), (1, .ref (h 0)), (0, .ref b)] dL_law_467 (by decide) rfl rfl ?_
    refine v_aload_n F 3 (q := 470) dL_law_469 rfl rfl rfl ?_
    refine v_aload_n F 5 (q := 471) dL_law_470 rfl rfl rfl ?_
    refine v_iload F 1 (q := 473) dL_law_471 rfl rfl ?_
    refine v_const F (q := 474) dL_law_473 rfl ?_
    refine v_iadd F (q := 475) dL_law_474 rfl ?_
    refine v_sld F (j := 5 * i + 1) hX hbl hbA hL (by omega) (by omega) (q := 476) dL_law_475 rfl ?_
    refine v_aload_n F 5 (q := 477) dL_law_476 rfl rfl rfl ?_
    refine v_iload F 1 (q := 479) dL_law_477 rfl rfl ?_
    refine v_const F (q := 480) dL_law_479 rfl ?_
    refine v_iadd F (q := 481) dL_law_480 rfl ?_
    refine v_sld F (j := 5 * i + 2) hX hbl hbA hL (by omega) (by omega) (q := 482) dL_law_481 rfl ?_
    refine v_aload_n F 5 (q := 483) dL_law_482 rfl rfl rfl ?_
    refine v_iload F 1 (q := 485) dL_law_483 rfl rfl ?_
    refine v_const F (q := 486) dL_law_485 rfl ?_
    refine v_iadd F (q := 487) dL_law_486 rfl ?_
    refine v_sld F (j := 5 * i + 3) hX hbl hbA hL (by omega) (by omega) (q := 488) dL_law_487 rfl ?_
    refine v_swap3 ?_
    refine v_callVi F (kX6_lead hst (k := k) (g := g) (S := S) (Y := Y) hI.1 (a0 := xv xs (5 * i + 1)) (a1 := xv xs (5 * i + 2)) (a2 := xv xs (5 * i + 3)) (by omega) (by omega) (by omega)) rfl gL_law_X6_lead rfl hdX6_lead ⟨Nat.le_of_ble_eq_true rfl, Nat.le_of_ble_eq_true rfl⟩ 0 mw_at0 rfl rfl rfl (Nat.le_of_ble_eq_true rfl) ⟨by show c + 1 + 0 ≤ 601024; omega, by show n + 6 + 0 ≤ 7293034; omega⟩ (q := 491) dL_law_488 rfl ?_
    rintro a6 _ ⟨Y9, hy9, ⟨_, h6, rfl⟩ | ⟨hn9, _⟩⟩
    case inr => exact absurd he hn9
    refine v_swap3 ?_
    refine v_istore F (q := 493) [(6, VI a6), (5, VI a5), (4, VI ((5 * i : Nat) : Int)), (3, .ref ho), (2, .ref (g 0)), (1, .ref (h 0)), (0, .ref b)] dL_law_491 (by decide) rfl rfl ?_
    refine v_aload_n F 4 (q := 494) dL_law_493 rfl rfl rfl ?_
    refine v_swap3 ?_
    refine v_callVi F (kX6_thrown hst (k := k) (g := g) (S := sLead S (xv xs (5 * i + 1)) (xv xs (5 * i + 2)) (xv xs (5 * i + 3))) (Y := Y9) hI9.1) rfl gL_law_X6_thrown rfl hdX6_thrown ⟨Nat.le_of_ble_eq_true rfl, Nat.le_of_ble_eq_true rfl⟩ 0 mw_at0 rfl rfl rfl (Nat.le_of_ble_eq_true rfl) ⟨by show c + 1 + 0 ≤ 601024; omega, by show n + 6 + 0 ≤ 7293034; omega⟩ (q := 497) dL_law_494 rfl ?_
    rintro a7 _ ⟨rfl, h7⟩
    refine v_swap3 ?_
    refine v_iload F 1 (q := 499) dL_law_497 rfl rfl ?_
    refine v_icmp_eq F (tgt := 504) (q := 502) (by omega) (by omega) dL_law_499 rfl rfl (fun h9 => ?_) (fun h9 => absurd (show a7 = a5 by omega) h9)
    refine v_iload F 1 (q := 506) dL_law_504 rfl rfl ?_
    refine v_if_ne F (tgt := 521) (q := 509) (by omega) dL_law_506 rfl rfl (fun h9 => absurd (show a5 = 0 by omega) h9) (fun _ => ?_)
    refine v_aload_n F 3 (q := 510) dL_law_509 rfl rfl rfl ?_
    refine v_const F (q := 511) dL_law_510 rfl ?_
    refine v_lald F 39 rfl (q := 512) dL_law_511 rfl ?_
    refine v_iload F 0 (q := 514) dL_law_512 rfl rfl ?_
    refine v_i2l F (q := 515) dL_law_514 rfl ?_
    refine v_lcmp0 F (by rw [hf9, show r9 = S 0 8 from hr9, h6]) (q := 516) dL_law_515 rfl ?_
    refine v_if_eq F (tgt := 521) (q := 519) R32_0 dL_law_516 rfl rfl (fun _ => ?_) (fun h9 => absurd rfl h9)
    refine v_goto F (tgt := 1191) dL_law_521 rfl ?_
    refine v_sub [2, 3, 4, 5, 6] rfl ?_
    refine v_widen (c' := c + 200) (n' := n + 1100) (by show c + 1 ≤ c + 200; omega) (by show n + 6 ≤ n + 1100; omega) ?_
    exact kk (sLead S (xv xs (5 * i + 1)) (xv xs (5 * i + 2)) (xv xs (5 * i + 3))) Z9 Y9 f9 hI9
  · refine v_ar2 ?_
    have hb9 : 0 ≤ eLead S (xv xs (5 * i + 1)) (xv xs (5 * i + 2)) (xv xs (5 * i + 3)) ∧ eLead S (xv xs (5 * i + 1)) (xv xs (5 * i + 2)) (xv xs (5 * i + 3)) ≤ 3 := by unfold eLead; (repeat' split) <;> decide
    refine v_istore F (q := 469) [(5, VI a5), (4, VI ((5 * i : Nat) : Int)), (3, .ref ho), (2, .ref (g 0)), (1, .ref (h 0)), (0, .ref b)] dL_law_467 (by decide) rfl rfl ?_
    refine v_aload_n F 3 (q := 470) dL_law_469 rfl rfl rfl ?_
    refine v_aload_n F 5 (q := 471) dL_law_470 rfl rfl rfl ?_
    refine v_iload F 1 (q := 473) dL_law_471 rfl rfl ?_
    refine v_const F (q := 474) dL_law_473 rfl ?_
    refine v_iadd F (q := 475) dL_law_474 rfl ?_
    refine v_sld F (j := 5 * i + 1) hX hbl hbA hL (by omega) (by omega) (q := 476) dL_law_475 rfl ?_
    refine v_aload_n F 5 (q := 477) dL_law_476 rfl rfl rfl ?_
    refine v_iload F 1 (q := 479) dL_law_477 rfl rfl ?_
    refine v_const F (q := 480) dL_law_479 rfl ?_
    refine v_iadd F (q := 481) dL_law_480 rfl ?_
    refine v_sld F (j := 5 * i + 2) hX hbl hbA hL (by omega) (by omega) (q := 482) dL_law_481 rfl ?_
    refine v_aload_n F 5 (q := 483) dL_law_482 rfl rfl rfl ?_
    refine v_iload F 1 (q := 485) dL_law_483 rfl rfl ?_
    refine v_const F (q := 486) dL_law_485 rfl ?_
    refine v_iadd F (q := 487) dL_law_486 rfl ?_
    refine v_sld F (j := 5 * i + 3) hX hbl hbA hL (by omega) (by omega) (q := 488) dL_law_487 rfl ?_
    refine v_swap3 ?_
    refine v_callVi F (kX6_lead hst (k := k) (g := g) (S := S) (Y := Y) hI.1 (a0 := xv xs (5 * i + 1)) (a1 := xv xs (5 * i + 2)) (a2 := xv xs (5 * i + 3)) (by omega) (by omega) (by omega)) rfl gL_law_X6_lead rfl hdX6_lead ⟨Nat.le_of_ble_eq_true rfl, Nat.le_of_ble_eq_true rfl⟩ 0 mw_at0 rfl rfl rfl (Nat.le_of_ble_eq_true rfl) ⟨by show c + 1 + 0 ≤ 601024; omega, by show n + 6 + 0 ≤ 7293034; omega⟩ (q := 491) dL_law_488 rfl ?_
    rintro a6 _ ⟨Y9, hy9, ⟨he9, _, _⟩ | ⟨_, rfl⟩⟩
    case inl => exact absurd he9 he
    refine v_swap3 ?_
    refine v_istore F (q := 493) [(6, VI a6), (5, VI a5), (4, VI ((5 * i : Nat) : Int)), (3, .ref ho), (2, .ref (g 0)), (1, .ref (h 0)), (0, .ref b)] dL_law_491 (by decide) rfl rfl ?_
    refine v_aload_n F 4 (q := 494) dL_law_493 rfl rfl rfl ?_
    refine v_swap3 ?_
    refine v_callVi F (kX6_thrown hst (k := k) (g := g) (S := S) (Y := Y9) hI.1) rfl gL_law_X6_thrown rfl hdX6_thrown ⟨Nat.le_of_ble_eq_true rfl, Nat.le_of_ble_eq_true rfl⟩ 0 mw_at0 rfl rfl rfl (Nat.le_of_ble_eq_true rfl) ⟨by show c + 1 + 0 ≤ 601024; omega, by show n + 6 + 0 ≤ 7293034; omega⟩ (q := 497) dL_law_494 rfl ?_
    rintro a7 _ ⟨rfl, h7⟩
    refine v_swap3 ?_
    refine v_iload F 1 (q := 499) dL_law_497 rfl rfl ?_
    refine v_icmp_eq F (tgt := 504) (q := 502) (by omega) (by omega) dL_law_499 rfl rfl (fun h9 => ?_) (fun h9 => absurd (show a7 = a5 by omega) h9)
    refine v_iload F 1 (q := 506) dL_law_504 rfl rfl ?_
    refine v_if_ne F (tgt := 521) (q := 509) (by omega) dL_law_506 rfl rfl (fun _ => ?_) (fun h9 => absurd h9 (by omega))
    refine v_goto F (tgt := 1191) dL_law_521 rfl ?_
    refine v_sub [2, 3, 4, 5, 6] rfl ?_
    refine v_widen (c' := c + 200) (n' := n + 1100) (by show c + 1 ≤ c + 200; omega) (by show n + 6 ≤ n + 1100; omega) ?_
    exact kk S Z9 Y9 f hI
set_option maxRecDepth 100000 in
set_option maxHeartbeats 4000000 in
theorem o_enter {X : vX} {l : Launch} {k : Nat → ClassId} {nm9 : String} (F : v_F X l k ⟨RL, nm9, "([I)Z"⟩ code 9 wsL_law room_1) (hst : l.stackTraces = false) {b L : Nat} {xs : Nat → Int32} (hX : va_X b L xs X.1.2.2.2.2 X.1.2.2.2.2.heap) (hbl : b < X.1.2.2.2.2.heap.size) (hbA : ¬ X.2.2.2.2 b) (hL : L ≤ 2560) {h g : Nat → Nat} {ho : Nat} {i : Nat} (hi : 5 * i + 5 ≤ L) {S Z Y : Nat → Nat → Int} {f : Nat → Int64} (hI : Inv2 S) {c n : Nat} (hc : c + 200 ≤ 601024) (hn : n + 1100 ≤ 7293034) (kk : (∀ (S' Z' Y' : Nat → Nat → Int) (f' : Nat → Int64), Inv2 S' → V X (cw k h S' Z' ++ (mw k g S' Y' ++ [(ho, oE k f')])) (c + 200) (n + 1100) 1191 [(4, VI ((5 * i : Nat) : Int)), (3, .ref ho), (2, .ref (g 0)), (1, .ref (h 0)), (0, .ref b)] [])) : V X (cw k h S Z ++ (mw k g S Y ++ [(ho, oE k f)])) c n 524 [(4, VI ((5 * i : Nat) : Int)), (3, .ref ho), (2, .ref (g 0)), (1, .ref (h 0)), (0, .ref b)] [] := by
  have r1 := xv_R xs (5 * i + 1)
  have r2 := xv_R xs (5 * i + 2)
  have r3 := xv_R xs (5 * i + 3)
  have r4 := xv_R xs (5 * i + 4)
  refine v_aload_n F 3 (q := 525) dL_law_524 rfl rfl rfl ?_
  refine v_callVi F (kX5_enter hst (k := k) (h := h) (S := S) (Z := Z) hI.1) rfl gL_law_X5_enter rfl hdX5_enter ⟨Nat.le_of_ble_eq_true rfl, Nat.le_of_ble_eq_true rfl⟩ 0 cw_at0 rfl rfl rfl (Nat.le_of_ble_eq_true rfl) ⟨by show c + 0 ≤ 601024; omega, by show n + 0 ≤ 7293034; omega⟩ (q := 528) dL_law_525 rfl ?_
  rintro a5 _ ⟨rfl, h5⟩
  refine v_aload_n F 2 (q := 529) dL_law_528 rfl rfl rfl ?_
  refine v_swap3 ?_
  refine v_callVi F (kX6_enter hst (k := k) (g := g) (S := S) (Y := Y) hI.1) rfl gL_law_X6_enter rfl hdX6_enter ⟨Nat.le_of_ble_eq_true rfl, Nat.le_of_ble_eq_true rfl⟩ 0 mw_at0 rfl rfl rfl (Nat.le_of_ble_eq_true rfl) ⟨by show c + 0 ≤ 601024; omega, by show n + 0 ≤ 7293034; omega⟩ (q := 532) dL_law_529 rfl ?_
  rintro a6 _ ⟨Y9, rfl, hy9, h6⟩
  refine v_swap3 ?_
  have e9 : a5 = a6 := vB_uniq h5 h6; subst e9
  refine v_icmp_same F (tgt := 1191) dL_law_532 rfl ?_
  refine v_widen (c' := c + 200) (n' := n + 1100) (by show c ≤ c + 200; omega) (by show n ≤ n + 1100; omega) ?_
  exact kk (sEnter S) Z Y9 f (inv2_sEnter hI)
set_option maxRecDepth 100000 in
set_option maxHeartbeats 4000000 in
theorem o_leave {X : vX} {l : Launch} {k : Nat → ClassId} {nm9 : String} (F : v_F X l k ⟨RL, nm9, "([I)Z"⟩ code 9 wsL_law room_1) (hst : l.stackTraces = false) {b L : Nat} {xs : Nat → Int32} (hX : va_X b L xs X.1.2.2.2.2 X.1.2.2.2.2.heap) (hbl : b < X.1.2.2.2.2.heap.size) (hbA : ¬ X.2.2.2.2 b) (hL : L ≤ 2560) {h g : Nat → Nat} {ho : Nat} {i : Nat} (hi : 5 * i + 5 ≤ L) {S Z Y : Nat → Nat → Int} {f : Nat → Int64} (hI : Inv2 S) {c n : Nat} (hc : c + 200 ≤ 601024) (hn : n + 1100 ≤ 7293034) (kk : (∀ (S' Z' Y' : Nat → Nat → Int) (f' : Nat → Int64), Inv2 S' → V X (cw k h S' Z' ++ (mw k g S' Y' ++ [(ho, oE k f')])) (c + 200) (n + 1100) 1191 [(4, VI ((5 * i : Nat) : Int)), (3, .ref ho), (2, .ref (g 0)), (1, .ref (h 0)), (0, .ref b)] [])) : V X (cw k h S Z ++ (mw k g S Y ++ [(ho, oE k f)])) c n 537 [(4, VI ((5 * i : Nat) : Int)), (3, .ref ho), (2, .ref (g 0)), (1, .ref (h 0)), (0, .ref b)] [] := by
  have r1 := xv_R xs (5 * i + 1)
  have r2 := xv_R xs (5 * i + 2)
  have r3 := xv_R xs (5 * i + 3)
  have r4 := xv_R xs (5 * i + 4)
  refine v_aload_n F 3 (q := 538) dL_law_537 rfl rfl rfl ?_
  refine v_callVi F (kX5_leave hst (k := k) (h := h) (S := S) (Z := Z) hI.1) rfl gL_law_X5_leave rfl hdX5_leave ⟨Nat.le_of_ble_eq_true rfl, Nat.le_of_ble_eq_true rfl⟩ 0 cw_at0 rfl rfl rfl (Nat.le_of_ble_eq_true rfl) ⟨by show c + 0 ≤ 601024; omega, by show n + 0 ≤ 7293034; omega⟩ (q := 541) dL_law_538 rfl ?_
  rintro a5 _ ⟨rfl, h5⟩
  refine v_aload_n F 2 (q := 542) dL_law_541 rfl rfl rfl ?_
  refine v_swap3 ?_
  refine v_callVi F (kX6_leave hst (k := k) (g := g) (S := S) (Y := Y) hI.1) rfl gL_law_X6_leave rfl hdX6_leave ⟨Nat.le_of_ble_eq_true rfl, Nat.le_of_ble_eq_true rfl⟩ 0 mw_at0 rfl rfl rfl (Nat.le_of_ble_eq_true rfl) ⟨by show c + 0 ≤ 601024; omega, by show n + 0 ≤ 7293034; omega⟩ (q := 545) dL_law_542 rfl ?_
  rintro a6 _ ⟨Y9, rfl, hy9, h6⟩
  refine v_swap3 ?_
  have e9 : a5 = a6 := vB_uniq h5 h6; subst e9
  refine v_icmp_same F (tgt := 1191) dL_law_545 rfl ?_
  refine v_widen (c' := c + 200) (n' := n + 1100) (by show c ≤ c + 200; omega) (by show n ≤ n + 1100; omega) ?_
  exact kk (sLeave S) Z Y9 f (inv2_sLeave hI)
set_option maxRecDepth 100000 in
set_option maxHeartbeats 4000000 in
theorem o_pull {X : vX} {l : Launch} {k : Nat → ClassId} {nm9 : String} (F : v_F X l k ⟨RL, nm9, "([I)Z"⟩ code 9 wsL_law room_1) (hst : l.stackTraces = false) {b L : Nat} {xs : Nat → Int32} (hX : va_X b L xs X.1.2.2.2.2 X.1.2.2.2.2.heap) (hbl : b < X.1.2.2.2.2.heap.size) (hbA : ¬ X.2.2.2.2 b) (hL : L ≤ 2560) {h g : Nat → Nat} {ho : Nat} {i : Nat} (hi : 5 * i + 5 ≤ L) {S Z Y : Nat → Nat → Int} {f : Nat → Int64} (hI : Inv2 S) {c n : Nat} (hc : c + 200 ≤ 601024) (hn : n + 1100 ≤ 7293034) (kk : (∀ (S' Z' Y' : Nat → Nat → Int) (f' : Nat → Int64), Inv2 S' → V X (cw k h S' Z' ++ (mw k g S' Y' ++ [(ho, oE k f')])) (c + 200) (n + 1100) 1191 [(4, VI ((5 * i : Nat) : Int)), (3, .ref ho), (2, .ref (g 0)), (1, .ref (h 0)), (0, .ref b)] [])) : V X (cw k h S Z ++ (mw k g S Y ++ [(ho, oE k f)])) c n 550 [(4, VI ((5 * i : Nat) : Int)), (3, .ref ho), (2, .ref (g 0)), (1, .ref (h 0)), (0, .ref b)] [] := by
  have r1 := xv_R xs (5 * i + 1)
  have r2 := xv_R xs (5 * i + 2)
  have r3 := xv_R xs (5 * i + 3)
  have r4 := xv_R xs (5 * i + 4)
  refine v_aload_n F 3 (q := 551) dL_law_550 rfl rfl rfl ?_
  refine v_aload_n F 4 (q := 552) dL_law_551 rfl rfl rfl ?_
  refine v_iload F 0 (q := 554) dL_law_552 rfl rfl ?_
  refine v_const F (q := 555) dL_law_554 rfl ?_
  refine v_iadd F (q := 556) dL_law_555 rfl ?_
  refine v_sld F (j := 5 * i + 1) hX hbl hbA hL (by omega) (by omega) (q := 557) dL_law_556 rfl ?_
  refine v_aload_n F 1 (q := 558) dL_law_557 rfl rfl rfl ?_
  refine v_ar1 ?_
  refine v_callSW F (kL_pull hst (k := k) (h := h) (S := S) (Z := Z) hI.1 (a0 := xv xs (5 * i + 1)) (by omega) (ho := ho) (f := f)) rfl gL_law_L_pull rfl hdL_pull ⟨Nat.le_of_ble_eq_true rfl, Nat.le_of_ble_eq_true rfl⟩ rfl rfl (Nat.le_of_ble_eq_true rfl) ⟨by show c + 1 ≤ 601024; omega, by show n + 6 ≤ 7293034; omega⟩ (q := 561) dL_law_558 rfl ?_
  rintro a5 _ ⟨h5, ⟨he, Z9, f9, r9, rfl, hf9, hr9⟩ | ⟨he, Z9, rfl⟩⟩
  · refine v_ar2 ?_
    have hb9 : 0 ≤ ePull S (xv xs (5 * i + 1)) ∧ ePull S (xv xs (5 * i + 1)) ≤ 3 := by unfold ePull; (repeat' split) <;> decide
    have hI9 : Inv2 (sPull S ((xv xs (5 * i + 1))).toNat) := inv2_sPull hI he
    refine v_istore F (q := 563) [(5, VI a5), (4, VI ((5 * i : Nat) : Int)), (3, .ref ho), (2, .ref (g 0)), (1, .ref (h 0)), (0, .ref b)] dL_law_561 (by decide) rfl rfl ?_
    refine v_aload_n F 3 (q := 564) dL_law_563 rfl rfl rfl ?_
    refine v_aload_n F 5 (q := 565) dL_law_564 rfl rfl rfl ?_
    refine v_iload F 1 (q := 567) dL_law_565 rfl rfl ?_
    refine v_const F (q := 568) dL_law_567 rfl ?_
    refine v_iadd F (q := 569) dL_law_568 rfl ?_
    refine v_sld F (j := 5 * i + 1) hX hbl hbA hL (by omega) (by omega) (q := 570) dL_law_569 rfl ?_
    refine v_swap3 ?_
    refine v_callVi F (kX6_pull hst (k := k) (g := g) (S := S) (Y := Y) hI.1 (a0 := xv xs (5 * i + 1)) (by omega)) rfl gL_law_X6_pull rfl hdX6_pull ⟨Nat.le_of_ble_eq_true rfl, Nat.le_of_ble_eq_true rfl⟩ 0 mw_at0 rfl rfl rfl (Nat.le_of_ble_eq_true rfl) ⟨by show c + 1 + 0 ≤ 601024; omega, by show n + 6 + 0 ≤ 7293034; omega⟩ (q := 573) dL_law_570 rfl ?_
    rintro a6 _ ⟨Y9, hy9, ⟨_, h6, rfl⟩ | ⟨hn9, _⟩⟩
    case inr => exact absurd he hn9
    refine v_swap3 ?_
    refine v_istore F (q := 575) [(6, VI a6), (5, VI a5), (4, VI ((5 * i : Nat) : Int)), (3, .ref ho), (2, .ref (g 0)), (1, .ref (h 0)), (0, .ref b)] dL_law_573 (by decide) rfl rfl ?_
    refine v_aload_n F 4 (q := 576) dL_law_575 rfl rfl rfl ?_
    refine v_swap3 ?_
    refine v_callVi F (kX6_thrown hst (k := k) (g := g) (S := sPull S ((xv xs (5 * i + 1))).toNat) (Y := Y9) hI9.1) rfl gL_law_X6_thrown rfl hdX6_thrown ⟨Nat.le_of_ble_eq_true rfl, Nat.le_of_ble_eq_true rfl⟩ 0 mw_at0 rfl rfl rfl (Nat.le_of_ble_eq_true rfl) ⟨by show c + 1 + 0 ≤ 601024; omega, by show n + 6 + 0 ≤ 7293034; omega⟩ (q := 579) dL_law_576 rfl ?_
    rintro a7 _ ⟨rfl, h7⟩
    refine v_swap3 ?_
    refine v_iload F 1 (q := 581) dL_law_579 rfl rfl ?_
    refine v_icmp_eq F (tgt := 586) (q := 584) (by omega) (by omega) dL_law_581 rfl rfl (fun h9 => ?_) (fun h9 => absurd (show a7 = a5 by omega) h9)
    refine v_iload F 1 (q := 588) dL_law_586 rfl rfl ?_
    refine v_if_ne F (tgt := 603) (q := 591) (by omega) dL_law_588 rfl rfl (fun h9 => absurd (show a5 = 0 by omega) h9) (fun _ => ?_)
    refine v_aload_n F 3 (q := 592) dL_law_591 rfl rfl rfl ?_
    refine v_const F (q := 593) dL_law_592 rfl ?_
    refine v_lald F 39 rfl (q := 594) dL_law_593 rfl ?_
    refine v_iload F 0 (q := 596) dL_law_594 rfl rfl ?_
    refine v_i2l F (q := 597) dL_law_596 rfl ?_
    refine v_lcmp0 F (by rw [hf9, show r9 = rPull S ((xv xs (5 * i + 1))).toNat from hr9, h6]) (q := 598) dL_law_597 rfl ?_
    refine v_if_eq F (tgt := 603) (q := 601) R32_0 dL_law_598 rfl rfl (fun _ => ?_) (fun h9 => absurd rfl h9)
    refine v_goto F (tgt := 1191) dL_law_603 rfl ?_
    refine v_sub [2, 3, 4, 5, 6] rfl ?_
    refine v_widen (c' := c + 200) (n' := n + 1100) (by show c + 1 ≤ c + 200; omega) (by show n + 6 ≤ n + 1100; omega) ?_
    exact kk (sPull S ((xv xs (5 * i + 1))).toNat) Z9 Y9 f9 hI9
  · refine v_ar2 ?_
    have hb9 : 0 ≤ ePull S (xv xs (5 * i + 1)) ∧ ePull S (xv xs (5 * i + 1)) ≤ 3 := by unfold ePull; (repeat' split) <;> decide
    refine v_istore F (q := 563) [(5, VI a5), (4, VI ((5 * i : Nat) : Int)), (3, .ref ho), (2, .ref (g 0)), (1, .ref (h 0)), (0, .ref b)] dL_law_561 (by decide) rfl rfl ?_
    refine v_aload_n F 3 (q := 564) dL_law_563 rfl rfl rfl ?_
    refine v_aload_n F 5 (q := 565) dL_law_564 rfl rfl rfl ?_
    refine v_iload F 1 (q := 567) dL_law_565 rfl rfl ?_
    refine v_const F (q := 568) dL_law_567 rfl ?_
    refine v_iadd F (q := 569) dL_law_568 rfl ?_
    refine v_sld F (j := 5 * i + 1) hX hbl hbA hL (by omega) (by omega) (q := 570) dL_law_569 rfl ?_
    refine v_swap3 ?_
    refine v_callVi F (kX6_pull hst (k := k) (g := g) (S := S) (Y := Y) hI.1 (a0 := xv xs (5 * i + 1)) (by omega)) rfl gL_law_X6_pull rfl hdX6_pull ⟨Nat.le_of_ble_eq_true rfl, Nat.le_of_ble_eq_true rfl⟩ 0 mw_at0 rfl rfl rfl (Nat.le_of_ble_eq_true rfl) ⟨by show c + 1 + 0 ≤ 601024; omega, by show n + 6 + 0 ≤ 7293034; omega⟩ (q := 573) dL_law_570 rfl ?_
    rintro a6 _ ⟨Y9, hy9, ⟨he9, _, _⟩ | ⟨_, rfl⟩⟩
    case inl => exact absurd he9 he
    refine v_swap3 ?_
    refine v_istore F (q := 575) [(6, VI a6), (5, VI a5), (4, VI ((5 * i : Nat) : Int)), (3, .ref ho), (2, .ref (g 0)), (1, .ref (h 0)), (0, .ref b)] dL_law_573 (by decide) rfl rfl ?_
    refine v_aload_n F 4 (q := 576) dL_law_575 rfl rfl rfl ?_
    refine v_swap3 ?_
    refine v_callVi F (kX6_thrown hst (k := k) (g := g) (S := S) (Y := Y9) hI.1) rfl gL_law_X6_thrown rfl hdX6_thrown ⟨Nat.le_of_ble_eq_true rfl, Nat.le_of_ble_eq_true rfl⟩ 0 mw_at0 rfl rfl rfl (Nat.le_of_ble_eq_true rfl) ⟨by show c + 1 + 0 ≤ 601024; omega, by show n + 6 + 0 ≤ 7293034; omega⟩ (q := 579) dL_law_576 rfl ?_
    rintro a7 _ ⟨rfl, h7⟩
    refine v_swap3 ?_
    refine v_iload F 1 (q := 581) dL_law_579 rfl rfl ?_
    refine v_icmp_eq F (tgt := 586) (q := 584) (by omega) (by omega) dL_law_581 rfl rfl (fun h9 => ?_) (fun h9 => absurd (show a7 = a5 by omega) h9)
    refine v_iload F 1 (q := 588) dL_law_586 rfl rfl ?_
    refine v_if_ne F (tgt := 603) (q := 591) (by omega) dL_law_588 rfl rfl (fun _ => ?_) (fun h9 => absurd h9 (by omega))
    refine v_goto F (tgt := 1191) dL_law_603 rfl ?_
    refine v_sub [2, 3, 4, 5, 6] rfl ?_
    refine v_widen (c' := c + 200) (n' := n + 1100) (by show c + 1 ≤ c + 200; omega) (by show n + 6 ≤ n + 1100; omega) ?_
    exact kk S Z9 Y9 f hI
set_option maxRecDepth 100000 in
set_option maxHeartbeats 4000000 in
theorem o_glue {X : vX} {l : Launch} {k : Nat → ClassId} {nm9 : String} (F : v_F X l k ⟨RL, nm9, "([I)Z"⟩ code 9 wsL_law room_1) (hst : l.stackTraces = false) {b L : Nat} {xs : Nat → Int32} (hX : va_X b L xs X.1.2.2.2.2 X.1.2.2.2.2.heap) (hbl : b < X.1.2.2.2.2.heap.size) (hbA : ¬ X.2.2.2.2 b) (hL : L ≤ 2560) {h g : Nat → Nat} {ho : Nat} {i : Nat} (hi : 5 * i + 5 ≤ L) {S Z Y : Nat → Nat → Int} {f : Nat → Int64} (hI : Inv2 S) {c n : Nat} (hc : c + 200 ≤ 601024) (hn : n + 1100 ≤ 7293034) (kk : (∀ (S' Z' Y' : Nat → Nat → Int) (f' : Nat → Int64), Inv2 S' → V X (cw k h S' Z' ++ (mw k g S' Y' ++ [(ho, oE k f')])) (c + 200) (n + 1100) 1191 [(4, VI ((5 * i : Nat) : Int)), (3, .ref ho), (2, .ref (g 0)), (1, .ref (h 0)), (0, .ref b)] [])) : V X (cw k h S Z ++ (mw k g S Y ++ [(ho, oE k f)])) c n 606 [(4, VI ((5 * i : Nat) : Int)), (3, .ref ho), (2, .ref (g 0)), (1, .ref (h 0)), (0, .ref b)] [] := by
  have r1 := xv_R xs (5 * i + 1)
  have r2 := xv_R xs (5 * i + 2)
  have r3 := xv_R xs (5 * i + 3)
  have r4 := xv_R xs (5 * i + 4)
  refine v_aload_n F 3 (q := 607) dL_law_606 rfl rfl rfl ?_
  refine v_aload_n F 4 (q := 608) dL_law_607 rfl rfl rfl ?_
  refine v_iload F 0 (q := 610) dL_law_608 rfl rfl ?_
  refine v_const F (q := 611) dL_law_610 rfl ?_
  refine v_iadd F (q := 612) dL_law_611 rfl ?_
  refine v_sld F (j := 5 * i + 1) hX hbl hbA hL (by omega) (by omega) (q := 613) dL_law_612 rfl ?_
  refine v_aload_n F 1 (q := 614) dL_law_613 rfl rfl rfl ?_
  refine v_ar1 ?_
  refine v_callSW F (kL_glue hst (k := k) (h := h) (S := S) (Z := Z) hI.1 (a0 := xv xs (5 * i + 1)) (by omega) (ho := ho) (f := f)) rfl gL_law_L_glue rfl hdL_glue ⟨Nat.le_of_ble_eq_true rfl, Nat.le_of_ble_eq_true rfl⟩ rfl rfl (Nat.le_of_ble_eq_true rfl) ⟨by show c + 1 ≤ 601024; omega, by show n + 6 ≤ 7293034; omega⟩ (q := 617) dL_law_614 rfl ?_
  rintro a5 _ ⟨h5, ⟨he, Z9, f9, r9, rfl, hf9, hr9⟩ | ⟨he, Z9, rfl⟩⟩
  · refine v_ar2 ?_
    have hb9 : 0 ≤ eGlue S (xv xs (5 * i + 1)) ∧ eGlue S (xv xs (5 * i + 1)) ≤ 3 := by unfold eGlue; (repeat' split) <;> decide
    have hI9 : Inv2 (sGlue S ((xv xs (5 * i + 1))).toNat) := inv2_sGlue hI he
    refine v_istore F (q := 619) [(5, VI a5), (4, VI ((5 * i : Nat) : Int)), (3, .ref ho), (2, .ref (g 0)), (1, .ref (h 0)), (0, .ref b)] dL_law_617 (by decide) rfl rfl ?_
    refine v_aload_n F 3 (q := 620) dL_law_619 rfl rfl rfl ?_
    refine v_aload_n F 5 (q := 621) dL_law_620 rfl rfl rfl ?_
    refine v_iload F 1 (q := 623) dL_law_621 rfl rfl ?_
    refine v_const F (q := 624) dL_law_623 rfl ?_
    refine v_iadd F (q := 625) dL_law_624 rfl ?_
    refine v_sld F (j := 5 * i + 1) hX hbl hbA hL (by omega) (by omega) (q := 626) dL_law_625 rfl ?_
    refine v_swap3 ?_
    refine v_callVi F (kX6_glue hst (k := k) (g := g) (S := S) (Y := Y) hI.1 (a0 := xv xs (5 * i + 1)) (by omega)) rfl gL_law_X6_glue rfl hdX6_glue ⟨Nat.le_of_ble_eq_true rfl, Nat.le_of_ble_eq_true rfl⟩ 0 mw_at0 rfl rfl rfl (Nat.le_of_ble_eq_true rfl) ⟨by show c + 1 + 0 ≤ 601024; omega, by show n + 6 + 0 ≤ 7293034; omega⟩ (q := 629) dL_law_626 rfl ?_
    rintro a6 _ ⟨Y9, hy9, ⟨_, h6, rfl⟩ | ⟨hn9, _⟩⟩
    case inr => exact absurd he hn9
    refine v_swap3 ?_
    refine v_istore F (q := 631) [(6, VI a6), (5, VI a5), (4, VI ((5 * i : Nat) : Int)), (3, .ref ho), (2, .ref (g 0)), (1, .ref (h 0)), (0, .ref b)] dL_law_629 (by decide) rfl rfl ?_
    refine v_aload_n F 4 (q := 632) dL_law_631 rfl rfl rfl ?_
    refine v_swap3 ?_
    refine v_callVi F (kX6_thrown hst (k := k) (g := g) (S := sGlue S ((xv xs (5 * i + 1))).toNat) (Y := Y9) hI9.1) rfl gL_law_X6_thrown rfl hdX6_thrown ⟨Nat.le_of_ble_eq_true rfl, Nat.le_of_ble_eq_true rfl⟩ 0 mw_at0 rfl rfl rfl (Nat.le_of_ble_eq_true rfl) ⟨by show c + 1 + 0 ≤ 601024; omega, by show n + 6 + 0 ≤ 7293034; omega⟩ (q := 635) dL_law_632 rfl ?_
    rintro a7 _ ⟨rfl, h7⟩
    refine v_swap3 ?_
    refine v_iload F 1 (q := 637) dL_law_635 rfl rfl ?_
    refine v_icmp_eq F (tgt := 642) (q := 640) (by omega) (by omega) dL_law_637 rfl rfl (fun h9 => ?_) (fun h9 => absurd (show a7 = a5 by omega) h9)
    refine v_iload F 1 (q := 644) dL_law_642 rfl rfl ?_
    refine v_if_ne F (tgt := 659) (q := 647) (by omega) dL_law_644 rfl rfl (fun h9 => absurd (show a5 = 0 by omega) h9) (fun _ => ?_)
    refine v_aload_n F 3 (q := 648) dL_law_647 rfl rfl rfl ?_
    refine v_const F (q := 649) dL_law_648 rfl ?_
    refine v_lald F 39 rfl (q := 650) dL_law_649 rfl ?_
    refine v_iload F 0 (q := 652) dL_law_650 rfl rfl ?_
    refine v_i2l F (q := 653) dL_law_652 rfl ?_
    refine v_lcmp0 F (by rw [hf9, show r9 = 1 - S 8 ((xv xs (5 * i + 1))).toNat from hr9, h6]) (q := 654) dL_law_653 rfl ?_
    refine v_if_eq F (tgt := 659) (q := 657) R32_0 dL_law_654 rfl rfl (fun _ => ?_) (fun h9 => absurd rfl h9)
    refine v_goto F (tgt := 1191) dL_law_659 rfl ?_
    refine v_sub [2, 3, 4, 5, 6] rfl ?_
    refine v_widen (c' := c + 200) (n' := n + 1100) (by show c + 1 ≤ c + 200; omega) (by show n + 6 ≤ n + 1100; omega) ?_
    exact kk (sGlue S ((xv xs (5 * i + 1))).toNat) Z9 Y9 f9 hI9
  · refine v_ar2 ?_
    have hb9 : 0 ≤ eGlue S (xv xs (5 * i + 1)) ∧ eGlue S (xv xs (5 * i + 1)) ≤ 3 := by unfold eGlue; (repeat' split) <;> decide
    refine v_istore F (q := 619) [(5, VI a5), (4, VI ((5 * i : Nat) : Int)), (3, .ref ho), (2, .ref (g 0)), (1, .ref (h 0)), (0, .ref b)] dL_law_617 (by decide) rfl rfl ?_
    refine v_aload_n F 3 (q := 620) dL_law_619 rfl rfl rfl ?_
    refine v_aload_n F 5 (q := 621) dL_law_620 rfl rfl rfl ?_
    refine v_iload F 1 (q := 623) dL_law_621 rfl rfl ?_
    refine v_const F (q := 624) dL_law_623 rfl ?_
    refine v_iadd F (q := 625) dL_law_624 rfl ?_
    refine v_sld F (j := 5 * i + 1) hX hbl hbA hL (by omega) (by omega) (q := 626) dL_law_625 rfl ?_
    refine v_swap3 ?_
    refine v_callVi F (kX6_glue hst (k := k) (g := g) (S := S) (Y := Y) hI.1 (a0 := xv xs (5 * i + 1)) (by omega)) rfl gL_law_X6_glue rfl hdX6_glue ⟨Nat.le_of_ble_eq_true rfl, Nat.le_of_ble_eq_true rfl⟩ 0 mw_at0 rfl rfl rfl (Nat.le_of_ble_eq_true rfl) ⟨by show c + 1 + 0 ≤ 601024; omega, by show n + 6 + 0 ≤ 7293034; omega⟩ (q := 629) dL_law_626 rfl ?_
    rintro a6 _ ⟨Y9, hy9, ⟨he9, _, _⟩ | ⟨_, rfl⟩⟩
    case inl => exact absurd he9 he
    refine v_swap3 ?_
    refine v_istore F (q := 631) [(6, VI a6), (5, VI a5), (4, VI ((5 * i : Nat) : Int)), (3, .ref ho), (2, .ref (g 0)), (1, .ref (h 0)), (0, .ref b)] dL_law_629 (by decide) rfl rfl ?_
    refine v_aload_n F 4 (q := 632) dL_law_631 rfl rfl rfl ?_
    refine v_swap3 ?_
    refine v_callVi F (kX6_thrown hst (k := k) (g := g) (S := S) (Y := Y9) hI.1) rfl gL_law_X6_thrown rfl hdX6_thrown ⟨Nat.le_of_ble_eq_true rfl, Nat.le_of_ble_eq_true rfl⟩ 0 mw_at0 rfl rfl rfl (Nat.le_of_ble_eq_true rfl) ⟨by show c + 1 + 0 ≤ 601024; omega, by show n + 6 + 0 ≤ 7293034; omega⟩ (q := 635) dL_law_632 rfl ?_
    rintro a7 _ ⟨rfl, h7⟩
    refine v_swap3 ?_
    refine v_iload F 1 (q := 637) dL_law_635 rfl rfl ?_
    refine v_icmp_eq F (tgt := 642) (q := 640) (by omega) (by omega) dL_law_637 rfl rfl (fun h9 => ?_) (fun h9 => absurd (show a7 = a5 by omega) h9)
    refine v_iload F 1 (q := 644) dL_law_642 rfl rfl ?_
    refine v_if_ne F (tgt := 659) (q := 647) (by omega) dL_law_644 rfl rfl (fun _ => ?_) (fun h9 => absurd h9 (by omega))
    refine v_goto F (tgt := 1191) dL_law_659 rfl ?_
    refine v_sub [2, 3, 4, 5, 6] rfl ?_
    refine v_widen (c' := c + 200) (n' := n + 1100) (by show c + 1 ≤ c + 200; omega) (by show n + 6 ≤ n + 1100; omega) ?_
    exact kk S Z9 Y9 f hI
set_option maxRecDepth 100000 in
set_option maxHeartbeats 4000000 in
theorem o_cross {X : vX} {l : Launch} {k : Nat → ClassId} {nm9 : String} (F : v_F X l k ⟨RL, nm9, "([I)Z"⟩ code 9 wsL_law room_1) (hst : l.stackTraces = false) {b L : Nat} {xs : Nat → Int32} (hX : va_X b L xs X.1.2.2.2.2 X.1.2.2.2.2.heap) (hbl : b < X.1.2.2.2.2.heap.size) (hbA : ¬ X.2.2.2.2 b) (hL : L ≤ 2560) {h g : Nat → Nat} {ho : Nat} {i : Nat} (hi : 5 * i + 5 ≤ L) {S Z Y : Nat → Nat → Int} {f : Nat → Int64} (hI : Inv2 S) {c n : Nat} (hc : c + 200 ≤ 601024) (hn : n + 1100 ≤ 7293034) (kk : (∀ (S' Z' Y' : Nat → Nat → Int) (f' : Nat → Int64), Inv2 S' → V X (cw k h S' Z' ++ (mw k g S' Y' ++ [(ho, oE k f')])) (c + 200) (n + 1100) 1191 [(4, VI ((5 * i : Nat) : Int)), (3, .ref ho), (2, .ref (g 0)), (1, .ref (h 0)), (0, .ref b)] [])) : V X (cw k h S Z ++ (mw k g S Y ++ [(ho, oE k f)])) c n 662 [(4, VI ((5 * i : Nat) : Int)), (3, .ref ho), (2, .ref (g 0)), (1, .ref (h 0)), (0, .ref b)] [] := by
  have r1 := xv_R xs (5 * i + 1)
  have r2 := xv_R xs (5 * i + 2)
  have r3 := xv_R xs (5 * i + 3)
  have r4 := xv_R xs (5 * i + 4)
  refine v_aload_n F 3 (q := 663) dL_law_662 rfl rfl rfl ?_
  refine v_aload_n F 4 (q := 664) dL_law_663 rfl rfl rfl ?_
  refine v_iload F 0 (q := 666) dL_law_664 rfl rfl ?_
  refine v_const F (q := 667) dL_law_666 rfl ?_
  refine v_iadd F (q := 668) dL_law_667 rfl ?_
  refine v_sld F (j := 5 * i + 1) hX hbl hbA hL (by omega) (by omega) (q := 669) dL_law_668 rfl ?_
  refine v_aload_n F 4 (q := 670) dL_law_669 rfl rfl rfl ?_
  refine v_iload F 0 (q := 672) dL_law_670 rfl rfl ?_
  refine v_const F (q := 673) dL_law_672 rfl ?_
  refine v_iadd F (q := 674) dL_law_673 rfl ?_
  refine v_sld F (j := 5 * i + 2) hX hbl hbA hL (by omega) (by omega) (q := 675) dL_law_674 rfl ?_
  refine v_aload_n F 1 (q := 676) dL_law_675 rfl rfl rfl ?_
  refine v_ar1 ?_
  refine v_callSW F (kL_cross hst (k := k) (h := h) (S := S) (Z := Z) hI.1 (a0 := xv xs (5 * i + 1)) (a1 := xv xs (5 * i + 2)) (by omega) (by omega) (ho := ho) (f := f)) rfl gL_law_L_cross rfl hdL_cross ⟨Nat.le_of_ble_eq_true rfl, Nat.le_of_ble_eq_true rfl⟩ rfl rfl (Nat.le_of_ble_eq_true rfl) ⟨by show c + 1 ≤ 601024; omega, by show n + 6 ≤ 7293034; omega⟩ (q := 679) dL_law_676 rfl ?_
  rintro a5 _ ⟨h5, ⟨he, Z9, f9, r9, rfl, hf9, hr9⟩ | ⟨he, Z9, rfl⟩⟩
  · refine v_ar2 ?_
    have hb9 : 0 ≤ eCross S (xv xs (5 * i + 1)) (xv xs (5 * i + 2)) ∧ eCross S (xv xs (5 * i + 1)) (xv xs (5 * i + 2)) ≤ 3 := by unfold eCross; (repeat' split) <;> decide
    refine v_istore F (q := 681) [(5, VI a5), (4, VI ((5 * i : Nat) : Int)), (3, .ref ho), (2, .ref (g 0)), (1, .ref (h 0)), (0, .ref b)] dL_law_679 (by decide) rfl rfl ?_
    refine v_aload_n F 3 (q := 682) dL_law_681 rfl rfl rfl ?_
    refine v_aload_n F 5 (q := 683) dL_law_682 rfl rfl rfl ?_
    refine v_iload F 1 (q := 685) dL_law_683 rfl rfl ?_
    refine v_const F (q := 686) dL_law_685 rfl ?_
    refine v_iadd F (q := 687) dL_law_686 rfl ?_
    refine v_sld F (j := 5 * i + 1) hX hbl hbA hL (by omega) (by omega) (q := 688) dL_law_687 rfl ?_
    refine v_aload_n F 5 (q := 689) dL_law_688 rfl rfl rfl ?_
    refine v_iload F 1 (q := 691) dL_law_689 rfl rfl ?_
    refine v_const F (q := 692) dL_law_691 rfl ?_
    refine v_iadd F (q := 693) dL_law_692 rfl ?_
    refine v_sld F (j := 5 * i + 2) hX hbl hbA hL (by omega) (by omega) (q := 694) dL_law_693 rfl ?_
    refine v_swap3 ?_
    refine v_callVi F (kX6_cross hst (k := k) (g := g) (S := S) (Y := Y) hI.1 (a0 := xv xs (5 * i + 1)) (a1 := xv xs (5 * i + 2)) (by omega) (by omega)) rfl gL_law_X6_cross rfl hdX6_cross ⟨Nat.le_of_ble_eq_true rfl, Nat.le_of_ble_eq_true rfl⟩ 0 mw_at0 rfl rfl rfl (Nat.le_of_ble_eq_true rfl) ⟨by show c + 1 + 0 ≤ 601024; omega, by show n + 6 + 0 ≤ 7293034; omega⟩ (q := 697) dL_law_694 rfl ?_
    rintro a6 _ ⟨Y9, hy9, rfl, hb6, h6⟩
    refine v_swap3 ?_
    refine v_istore F (q := 699) [(6, VI a6), (5, VI a5), (4, VI ((5 * i : Nat) : Int)), (3, .ref ho), (2, .ref (g 0)), (1, .ref (h 0)), (0, .ref b)] dL_law_697 (by decide) rfl rfl ?_
    refine v_aload_n F 4 (q := 700) dL_law_699 rfl rfl rfl ?_
    refine v_swap3 ?_
    refine v_callVi F (kX6_thrown hst (k := k) (g := g) (S := S) (Y := Y9) hI.1) rfl gL_law_X6_thrown rfl hdX6_thrown ⟨Nat.le_of_ble_eq_true rfl, Nat.le_of_ble_eq_true rfl⟩ 0 mw_at0 rfl rfl rfl (Nat.le_of_ble_eq_true rfl) ⟨by show c + 1 + 0 ≤ 601024; omega, by show n + 6 + 0 ≤ 7293034; omega⟩ (q := 703) dL_law_700 rfl ?_
    rintro a7 _ ⟨rfl, h7⟩
    refine v_swap3 ?_
    refine v_iload F 1 (q := 705) dL_law_703 rfl rfl ?_
    refine v_icmp_eq F (tgt := 710) (q := 708) (by omega) (by omega) dL_law_705 rfl rfl (fun h9 => ?_) (fun h9 => absurd (show a7 = a5 by omega) h9)
    refine v_iload F 1 (q := 712) dL_law_710 rfl rfl ?_
    refine v_if_ne F (tgt := 734) (q := 715) (by omega) dL_law_712 rfl rfl (fun h9 => absurd (show a5 = 0 by omega) h9) (fun _ => ?_)
    refine v_aload_n F 3 (q := 716) dL_law_715 rfl rfl rfl ?_
    refine v_const F (q := 717) dL_law_716 rfl ?_
    refine v_lald F 39 rfl (q := 718) dL_law_717 rfl ?_
    refine v_iload F 0 (q := 720) dL_law_718 rfl rfl ?_
    refine v_if_eq F (tgt := 727) (q := 723) (by omega) dL_law_720 rfl rfl (fun hz => ?_) (fun hz => ?_)
    · refine v_lconst F (v := 0) dL_law_727 rfl (q := 728) rfl ?_
      refine v_lcmp0 F (by rw [hf9, show r9 = a6 from vB_uniq hr9 (h6 he), show a6 = 0 from (by omega)]; decide) (q := 729) dL_law_728 rfl ?_
      refine v_if_eq F (tgt := 734) (q := 732) R32_0 dL_law_729 rfl rfl (fun _ => ?_) (fun h9 => absurd rfl h9)
      refine v_goto F (tgt := 1191) dL_law_734 rfl ?_
      refine v_sub [2, 3, 4, 5, 6] rfl ?_
      refine v_widen (c' := c + 200) (n' := n + 1100) (by show c + 1 ≤ c + 200; omega) (by show n + 6 ≤ n + 1100; omega) ?_
      exact kk S Z9 Y9 f9 hI
    · refine v_lconst F (v := 1) dL_law_723 rfl (q := 724) rfl ?_
      refine v_goto F (tgt := 728) dL_law_724 rfl ?_
      refine v_lcmp0 F (by rw [hf9, show r9 = a6 from vB_uniq hr9 (h6 he), show a6 = 1 from (by omega)]; decide) (q := 729) dL_law_728 rfl ?_
      refine v_if_eq F (tgt := 734) (q := 732) R32_0 dL_law_729 rfl rfl (fun _ => ?_) (fun h9 => absurd rfl h9)
      refine v_goto F (tgt := 1191) dL_law_734 rfl ?_
      refine v_sub [2, 3, 4, 5, 6] rfl ?_
      refine v_widen (c' := c + 200) (n' := n + 1100) (by show c + 1 ≤ c + 200; omega) (by show n + 6 ≤ n + 1100; omega) ?_
      exact kk S Z9 Y9 f9 hI
  · refine v_ar2 ?_
    have hb9 : 0 ≤ eCross S (xv xs (5 * i + 1)) (xv xs (5 * i + 2)) ∧ eCross S (xv xs (5 * i + 1)) (xv xs (5 * i + 2)) ≤ 3 := by unfold eCross; (repeat' split) <;> decide
    refine v_istore F (q := 681) [(5, VI a5), (4, VI ((5 * i : Nat) : Int)), (3, .ref ho), (2, .ref (g 0)), (1, .ref (h 0)), (0, .ref b)] dL_law_679 (by decide) rfl rfl ?_
    refine v_aload_n F 3 (q := 682) dL_law_681 rfl rfl rfl ?_
    refine v_aload_n F 5 (q := 683) dL_law_682 rfl rfl rfl ?_
    refine v_iload F 1 (q := 685) dL_law_683 rfl rfl ?_
    refine v_const F (q := 686) dL_law_685 rfl ?_
    refine v_iadd F (q := 687) dL_law_686 rfl ?_
    refine v_sld F (j := 5 * i + 1) hX hbl hbA hL (by omega) (by omega) (q := 688) dL_law_687 rfl ?_
    refine v_aload_n F 5 (q := 689) dL_law_688 rfl rfl rfl ?_
    refine v_iload F 1 (q := 691) dL_law_689 rfl rfl ?_
    refine v_const F (q := 692) dL_law_691 rfl ?_
    refine v_iadd F (q := 693) dL_law_692 rfl ?_
    refine v_sld F (j := 5 * i + 2) hX hbl hbA hL (by omega) (by omega) (q := 694) dL_law_693 rfl ?_
    refine v_swap3 ?_
    refine v_callVi F (kX6_cross hst (k := k) (g := g) (S := S) (Y := Y) hI.1 (a0 := xv xs (5 * i + 1)) (a1 := xv xs (5 * i + 2)) (by omega) (by omega)) rfl gL_law_X6_cross rfl hdX6_cross ⟨Nat.le_of_ble_eq_true rfl, Nat.le_of_ble_eq_true rfl⟩ 0 mw_at0 rfl rfl rfl (Nat.le_of_ble_eq_true rfl) ⟨by show c + 1 + 0 ≤ 601024; omega, by show n + 6 + 0 ≤ 7293034; omega⟩ (q := 697) dL_law_694 rfl ?_
    rintro a6 _ ⟨Y9, hy9, rfl, hb6, h6⟩
    refine v_swap3 ?_
    refine v_istore F (q := 699) [(6, VI a6), (5, VI a5), (4, VI ((5 * i : Nat) : Int)), (3, .ref ho), (2, .ref (g 0)), (1, .ref (h 0)), (0, .ref b)] dL_law_697 (by decide) rfl rfl ?_
    refine v_aload_n F 4 (q := 700) dL_law_699 rfl rfl rfl ?_
    refine v_swap3 ?_
    refine v_callVi F (kX6_thrown hst (k := k) (g := g) (S := S) (Y := Y9) hI.1) rfl gL_law_X6_thrown rfl hdX6_thrown ⟨Nat.le_of_ble_eq_true rfl, Nat.le_of_ble_eq_true rfl⟩ 0 mw_at0 rfl rfl rfl (Nat.le_of_ble_eq_true rfl) ⟨by show c + 1 + 0 ≤ 601024; omega, by show n + 6 + 0 ≤ 7293034; omega⟩ (q := 703) dL_law_700 rfl ?_
    rintro a7 _ ⟨rfl, h7⟩
    refine v_swap3 ?_
    refine v_iload F 1 (q := 705) dL_law_703 rfl rfl ?_
    refine v_icmp_eq F (tgt := 710) (q := 708) (by omega) (by omega) dL_law_705 rfl rfl (fun h9 => ?_) (fun h9 => absurd (show a7 = a5 by omega) h9)
    refine v_iload F 1 (q := 712) dL_law_710 rfl rfl ?_
    refine v_if_ne F (tgt := 734) (q := 715) (by omega) dL_law_712 rfl rfl (fun _ => ?_) (fun h9 => absurd h9 (by omega))
    refine v_goto F (tgt := 1191) dL_law_734 rfl ?_
    refine v_sub [2, 3, 4, 5, 6] rfl ?_
    refine v_widen (c' := c + 200) (n' := n + 1100) (by show c + 1 ≤ c + 200; omega) (by show n + 6 ≤ n + 1100; omega) ?_
    exact kk S Z9 Y9 f hI
set_option maxRecDepth 100000 in
set_option maxHeartbeats 4000000 in
theorem o_mast {X : vX} {l : Launch} {k : Nat → ClassId} {nm9 : String} (F : v_F X l k ⟨RL, nm9, "([I)Z"⟩ code 9 wsL_law room_1) (hst : l.stackTraces = false) {b L : Nat} {xs : Nat → Int32} (hX : va_X b L xs X.1.2.2.2.2 X.1.2.2.2.2.heap) (hbl : b < X.1.2.2.2.2.heap.size) (hbA : ¬ X.2.2.2.2 b) (hL : L ≤ 2560) {h g : Nat → Nat} {ho : Nat} {i : Nat} (hi : 5 * i + 5 ≤ L) {S Z Y : Nat → Nat → Int} {f : Nat → Int64} (hI : Inv2 S) {c n : Nat} (hc : c + 200 ≤ 601024) (hn : n + 1100 ≤ 7293034) (kk : (∀ (S' Z' Y' : Nat → Nat → Int) (f' : Nat → Int64), Inv2 S' → V X (cw k h S' Z' ++ (mw k g S' Y' ++ [(ho, oE k f')])) (c + 200) (n + 1100) 1191 [(4, VI ((5 * i : Nat) : Int)), (3, .ref ho), (2, .ref (g 0)), (1, .ref (h 0)), (0, .ref b)] [])) : V X (cw k h S Z ++ (mw k g S Y ++ [(ho, oE k f)])) c n 737 [(4, VI ((5 * i : Nat) : Int)), (3, .ref ho), (2, .ref (g 0)), (1, .ref (h 0)), (0, .ref b)] [] := by
  have r1 := xv_R xs (5 * i + 1)
  have r2 := xv_R xs (5 * i + 2)
  have r3 := xv_R xs (5 * i + 3)
  have r4 := xv_R xs (5 * i + 4)
  refine v_aload_n F 3 (q := 738) dL_law_737 rfl rfl rfl ?_
  refine v_aload_n F 4 (q := 739) dL_law_738 rfl rfl rfl ?_
  refine v_iload F 0 (q := 741) dL_law_739 rfl rfl ?_
  refine v_const F (q := 742) dL_law_741 rfl ?_
  refine v_iadd F (q := 743) dL_law_742 rfl ?_
  refine v_sld F (j := 5 * i + 1) hX hbl hbA hL (by omega) (by omega) (q := 744) dL_law_743 rfl ?_
  refine v_aload_n F 4 (q := 745) dL_law_744 rfl rfl rfl ?_
  refine v_iload F 0 (q := 747) dL_law_745 rfl rfl ?_
  refine v_const F (q := 748) dL_law_747 rfl ?_
  refine v_iadd F (q := 749) dL_law_748 rfl ?_
  refine v_sld F (j := 5 * i + 2) hX hbl hbA hL (by omega) (by omega) (q := 750) dL_law_749 rfl ?_
  refine v_aload_n F 1 (q := 751) dL_law_750 rfl rfl rfl ?_
  refine v_ar1 ?_
  refine v_callSW F (kL_mast hst (k := k) (h := h) (S := S) (Z := Z) hI.1 (a0 := xv xs (5 * i + 1)) (a1 := xv xs (5 * i + 2)) (by omega) (by omega) (ho := ho) (f := f)) rfl gL_law_L_mast rfl hdL_mast ⟨Nat.le_of_ble_eq_true rfl, Nat.le_of_ble_eq_true rfl⟩ rfl rfl (Nat.le_of_ble_eq_true rfl) ⟨by show c + 1 ≤ 601024; omega, by show n + 6 ≤ 7293034; omega⟩ (q := 754) dL_law_751 rfl ?_
  rintro a5 _ ⟨h5, ⟨he, Z9, f9, r9, rfl, hf9, hr9⟩ | ⟨he, Z9, rfl⟩⟩
  · refine v_ar2 ?_
    have hb9 : 0 ≤ eMast S (xv xs (5 * i + 1)) (xv xs (5 * i + 2)) ∧ eMast S (xv xs (5 * i + 1)) (xv xs (5 * i + 2)) ≤ 3 := by unfold eMast; (repeat' split) <;> decide
    refine v_istore F (q := 756) [(5, VI a5), (4, VI ((5 * i : Nat) : Int)), (3, .ref ho), (2, .ref (g 0)), (1, .ref (h 0)), (0, .ref b)] dL_law_754 (by decide) rfl rfl ?_
    refine v_aload_n F 3 (q := 757) dL_law_756 rfl rfl rfl ?_
    refine v_aload_n F 5 (q := 758) dL_law_757 rfl rfl rfl ?_
    refine v_iload F 1 (q := 760) dL_law_758 rfl rfl ?_
    refine v_const F (q := 761) dL_law_760 rfl ?_
    refine v_iadd F (q := 762) dL_law_761 rfl ?_
    refine v_sld F (j := 5 * i + 1) hX hbl hbA hL (by omega) (by omega) (q := 763) dL_law_762 rfl ?_
    refine v_aload_n F 5 (q := 764) dL_law_763 rfl rfl rfl ?_
    refine v_iload F 1 (q := 766) dL_law_764 rfl rfl ?_
    refine v_const F (q := 767) dL_law_766 rfl ?_
    refine v_iadd F (q := 768) dL_law_767 rfl ?_
    refine v_sld F (j := 5 * i + 2) hX hbl hbA hL (by omega) (by omega) (q := 769) dL_law_768 rfl ?_
    refine v_swap3 ?_
    refine v_callVi F (kX6_mast hst (k := k) (g := g) (S := S) (Y := Y) hI.1 (a0 := xv xs (5 * i + 1)) (a1 := xv xs (5 * i + 2)) (by omega) (by omega)) rfl gL_law_X6_mast rfl hdX6_mast ⟨Nat.le_of_ble_eq_true rfl, Nat.le_of_ble_eq_true rfl⟩ 0 mw_at0 rfl rfl rfl (Nat.le_of_ble_eq_true rfl) ⟨by show c + 1 + 1 ≤ 601024; omega, by show n + 6 + 8 ≤ 7293034; omega⟩ (q := 772) dL_law_769 rfl ?_
    rintro a6 _ ⟨Y9, hy9, ⟨_, h6, rfl⟩ | ⟨hn9, _⟩⟩
    case inr => exact absurd he hn9
    refine v_swap3 ?_
    refine v_istore F (q := 774) [(6, VI a6), (5, VI a5), (4, VI ((5 * i : Nat) : Int)), (3, .ref ho), (2, .ref (g 0)), (1, .ref (h 0)), (0, .ref b)] dL_law_772 (by decide) rfl rfl ?_
    refine v_aload_n F 4 (q := 775) dL_law_774 rfl rfl rfl ?_
    refine v_swap3 ?_
    refine v_callVi F (kX6_thrown hst (k := k) (g := g) (S := S) (Y := Y9) hI.1) rfl gL_law_X6_thrown rfl hdX6_thrown ⟨Nat.le_of_ble_eq_true rfl, Nat.le_of_ble_eq_true rfl⟩ 0 mw_at0 rfl rfl rfl (Nat.le_of_ble_eq_true rfl) ⟨by show c + 1 + 1 + 0 ≤ 601024; omega, by show n + 6 + 8 + 0 ≤ 7293034; omega⟩ (q := 778) dL_law_775 rfl ?_
    rintro a7 _ ⟨rfl, h7⟩
    refine v_swap3 ?_
    refine v_iload F 1 (q := 780) dL_law_778 rfl rfl ?_
    refine v_icmp_eq F (tgt := 785) (q := 783) (by omega) (by omega) dL_law_780 rfl rfl (fun h9 => ?_) (fun h9 => absurd (show a7 = a5 by omega) h9)
    refine v_iload F 1 (q := 787) dL_law_785 rfl rfl ?_
    refine v_if_ne F (tgt := 802) (q := 790) (by omega) dL_law_787 rfl rfl (fun h9 => absurd (show a5 = 0 by omega) h9) (fun _ => ?_)
    refine v_aload_n F 3 (q := 791) dL_law_790 rfl rfl rfl ?_
    refine v_const F (q := 792) dL_law_791 rfl ?_
    refine v_lald F 39 rfl (q := 793) dL_law_792 rfl ?_
    refine v_iload F 0 (q := 795) dL_law_793 rfl rfl ?_
    refine v_i2l F (q := 796) dL_law_795 rfl ?_
    refine v_lcmp0 F (by rw [hf9, show r9 = mastV S ((xv xs (5 * i + 1))).toNat (xv xs (5 * i + 2)) from hr9, h6]) (q := 797) dL_law_796 rfl ?_
    refine v_if_eq F (tgt := 802) (q := 800) R32_0 dL_law_797 rfl rfl (fun _ => ?_) (fun h9 => absurd rfl h9)
    refine v_goto F (tgt := 1191) dL_law_802 rfl ?_
    refine v_sub [2, 3, 4, 5, 6] rfl ?_
    refine v_widen (c' := c + 200) (n' := n + 1100) (by show c + 1 + 1 ≤ c + 200; omega) (by show n + 6 + 8 ≤ n + 1100; omega) ?_
    exact kk S Z9 Y9 f9 hI
  · refine v_ar2 ?_
    have hb9 : 0 ≤ eMast S (xv xs (5 * i + 1)) (xv xs (5 * i + 2)) ∧ eMast S (xv xs (5 * i + 1)) (xv xs (5 * i + 2)) ≤ 3 := by unfold eMast; (repeat' split) <;> decide
    refine v_istore F (q := 756) [(5, VI a5), (4, VI ((5 * i : Nat) : Int)), (3, .ref ho), (2, .ref (g 0)), (1, .ref (h 0)), (0, .ref b)] dL_law_754 (by decide) rfl rfl ?_
    refine v_aload_n F 3 (q := 757) dL_law_756 rfl rfl rfl ?_
    refine v_aload_n F 5 (q := 758) dL_law_757 rfl rfl rfl ?_
    refine v_iload F 1 (q := 760) dL_law_758 rfl rfl ?_
    refine v_const F (q := 761) dL_law_760 rfl ?_
    refine v_iadd F (q := 762) dL_law_761 rfl ?_
    refine v_sld F (j := 5 * i + 1) hX hbl hbA hL (by omega) (by omega) (q := 763) dL_law_762 rfl ?_
    refine v_aload_n F 5 (q := 764) dL_law_763 rfl rfl rfl ?_
    refine v_iload F 1 (q := 766) dL_law_764 rfl rfl ?_
    refine v_const F (q := 767) dL_law_766 rfl ?_
    refine v_iadd F (q := 768) dL_law_767 rfl ?_
    refine v_sld F (j := 5 * i + 2) hX hbl hbA hL (by omega) (by omega) (q := 769) dL_law_768 rfl ?_
    refine v_swap3 ?_
    refine v_callVi F (kX6_mast hst (k := k) (g := g) (S := S) (Y := Y) hI.1 (a0 := xv xs (5 * i + 1)) (a1 := xv xs (5 * i + 2)) (by omega) (by omega)) rfl gL_law_X6_mast rfl hdX6_mast ⟨Nat.le_of_ble_eq_true rfl, Nat.le_of_ble_eq_true rfl⟩ 0 mw_at0 rfl rfl rfl (Nat.le_of_ble_eq_true rfl) ⟨by show c + 1 + 1 ≤ 601024; omega, by show n + 6 + 8 ≤ 7293034; omega⟩ (q := 772) dL_law_769 rfl ?_
    rintro a6 _ ⟨Y9, hy9, ⟨he9, _, _⟩ | ⟨_, rfl⟩⟩
    case inl => exact absurd he9 he
    refine v_swap3 ?_
    refine v_istore F (q := 774) [(6, VI a6), (5, VI a5), (4, VI ((5 * i : Nat) : Int)), (3, .ref ho), (2, .ref (g 0)), (1, .ref (h 0)), (0, .ref b)] dL_law_772 (by decide) rfl rfl ?_
    refine v_aload_n F 4 (q := 775) dL_law_774 rfl rfl rfl ?_
    refine v_swap3 ?_
    refine v_callVi F (kX6_thrown hst (k := k) (g := g) (S := S) (Y := Y9) hI.1) rfl gL_law_X6_thrown rfl hdX6_thrown ⟨Nat.le_of_ble_eq_true rfl, Nat.le_of_ble_eq_true rfl⟩ 0 mw_at0 rfl rfl rfl (Nat.le_of_ble_eq_true rfl) ⟨by show c + 1 + 1 + 0 ≤ 601024; omega, by show n + 6 + 8 + 0 ≤ 7293034; omega⟩ (q := 778) dL_law_775 rfl ?_
    rintro a7 _ ⟨rfl, h7⟩
    refine v_swap3 ?_
    refine v_iload F 1 (q := 780) dL_law_778 rfl rfl ?_
    refine v_icmp_eq F (tgt := 785) (q := 783) (by omega) (by omega) dL_law_780 rfl rfl (fun h9 => ?_) (fun h9 => absurd (show a7 = a5 by omega) h9)
    refine v_iload F 1 (q := 787) dL_law_785 rfl rfl ?_
    refine v_if_ne F (tgt := 802) (q := 790) (by omega) dL_law_787 rfl rfl (fun _ => ?_) (fun h9 => absurd h9 (by omega))
    refine v_goto F (tgt := 1191) dL_law_802 rfl ?_
    refine v_sub [2, 3, 4, 5, 6] rfl ?_
    refine v_widen (c' := c + 200) (n' := n + 1100) (by show c + 1 + 1 ≤ c + 200; omega) (by show n + 6 + 8 ≤ n + 1100; omega) ?_
    exact kk S Z9 Y9 f hI
set_option maxRecDepth 100000 in
set_option maxHeartbeats 4000000 in
theorem o_thread {X : vX} {l : Launch} {k : Nat → ClassId} {nm9 : String} (F : v_F X l k ⟨RL, nm9, "([I)Z"⟩ code 9 wsL_law room_1) (hst : l.stackTraces = false) {b L : Nat} {xs : Nat → Int32} (hX : va_X b L xs X.1.2.2.2.2 X.1.2.2.2.2.heap) (hbl : b < X.1.2.2.2.2.heap.size) (hbA : ¬ X.2.2.2.2 b) (hL : L ≤ 2560) {h g : Nat → Nat} {ho : Nat} {i : Nat} (hi : 5 * i + 5 ≤ L) {S Z Y : Nat → Nat → Int} {f : Nat → Int64} (hI : Inv2 S) {c n : Nat} (hc : c + 200 ≤ 601024) (hn : n + 1100 ≤ 7293034) (kk : (∀ (S' Z' Y' : Nat → Nat → Int) (f' : Nat → Int64), Inv2 S' → V X (cw k h S' Z' ++ (mw k g S' Y' ++ [(ho, oE k f')])) (c + 200) (n + 1100) 1191 [(4, VI ((5 * i : Nat) : Int)), (3, .ref ho), (2, .ref (g 0)), (1, .ref (h 0)), (0, .ref b)] [])) : V X (cw k h S Z ++ (mw k g S Y ++ [(ho, oE k f)])) c n 805 [(4, VI ((5 * i : Nat) : Int)), (3, .ref ho), (2, .ref (g 0)), (1, .ref (h 0)), (0, .ref b)] [] := by
  have r1 := xv_R xs (5 * i + 1)
  have r2 := xv_R xs (5 * i + 2)
  have r3 := xv_R xs (5 * i + 3)
  have r4 := xv_R xs (5 * i + 4)
  refine v_aload_n F 3 (q := 806) dL_law_805 rfl rfl rfl ?_
  refine v_aload_n F 4 (q := 807) dL_law_806 rfl rfl rfl ?_
  refine v_iload F 0 (q := 809) dL_law_807 rfl rfl ?_
  refine v_const F (q := 810) dL_law_809 rfl ?_
  refine v_iadd F (q := 811) dL_law_810 rfl ?_
  refine v_sld F (j := 5 * i + 1) hX hbl hbA hL (by omega) (by omega) (q := 812) dL_law_811 rfl ?_
  refine v_aload_n F 4 (q := 813) dL_law_812 rfl rfl rfl ?_
  refine v_iload F 0 (q := 815) dL_law_813 rfl rfl ?_
  refine v_const F (q := 816) dL_law_815 rfl ?_
  refine v_iadd F (q := 817) dL_law_816 rfl ?_
  refine v_sld F (j := 5 * i + 2) hX hbl hbA hL (by omega) (by omega) (q := 818) dL_law_817 rfl ?_
  refine v_aload_n F 1 (q := 819) dL_law_818 rfl rfl rfl ?_
  refine v_ar1 ?_
  refine v_callSW F (kL_thread hst (k := k) (h := h) (S := S) (Z := Z) hI.1 (a0 := xv xs (5 * i + 1)) (a1 := xv xs (5 * i + 2)) (by omega) (by omega) (ho := ho) (f := f)) rfl gL_law_L_thread rfl hdL_thread ⟨Nat.le_of_ble_eq_true rfl, Nat.le_of_ble_eq_true rfl⟩ rfl rfl (Nat.le_of_ble_eq_true rfl) ⟨by show c + 1 ≤ 601024; omega, by show n + 6 ≤ 7293034; omega⟩ (q := 822) dL_law_819 rfl ?_
  rintro a5 _ ⟨h5, ⟨he, Z9, f9, r9, rfl, hf9, hr9⟩ | ⟨he, Z9, rfl⟩⟩
  · refine v_ar2 ?_
    have hb9 : 0 ≤ eThr S (xv xs (5 * i + 1)) (xv xs (5 * i + 2)) ∧ eThr S (xv xs (5 * i + 1)) (xv xs (5 * i + 2)) ≤ 3 := by unfold eThr; (repeat' split) <;> decide
    refine v_istore F (q := 824) [(5, VI a5), (4, VI ((5 * i : Nat) : Int)), (3, .ref ho), (2, .ref (g 0)), (1, .ref (h 0)), (0, .ref b)] dL_law_822 (by decide) rfl rfl ?_
    refine v_aload_n F 3 (q := 825) dL_law_824 rfl rfl rfl ?_
    refine v_aload_n F 5 (q := 826) dL_law_825 rfl rfl rfl ?_
    refine v_iload F 1 (q := 828) dL_law_826 rfl rfl ?_
    refine v_const F (q := 829) dL_law_828 rfl ?_
    refine v_iadd F (q := 830) dL_law_829 rfl ?_
    refine v_sld F (j := 5 * i + 1) hX hbl hbA hL (by omega) (by omega) (q := 831) dL_law_830 rfl ?_
    refine v_aload_n F 5 (q := 832) dL_law_831 rfl rfl rfl ?_
    refine v_iload F 1 (q := 834) dL_law_832 rfl rfl ?_
    refine v_const F (q := 835) dL_law_834 rfl ?_
    refine v_iadd F (q := 836) dL_law_835 rfl ?_
    refine v_sld F (j := 5 * i + 2) hX hbl hbA hL (by omega) (by omega) (q := 837) dL_law_836 rfl ?_
    refine v_swap3 ?_
    refine v_callVi F (kX6_thread hst (k := k) (g := g) (S := S) (Y := Y) hI.1 (a0 := xv xs (5 * i + 1)) (a1 := xv xs (5 * i + 2)) (by omega) (by omega)) rfl gL_law_X6_thread rfl hdX6_thread ⟨Nat.le_of_ble_eq_true rfl, Nat.le_of_ble_eq_true rfl⟩ 0 mw_at0 rfl rfl rfl (Nat.le_of_ble_eq_true rfl) ⟨by show c + 1 + 1 ≤ 601024; omega, by show n + 6 + 5 ≤ 7293034; omega⟩ (q := 840) dL_law_837 rfl ?_
    rintro a6 _ ⟨Y9, hy9, ⟨_, h6, rfl⟩ | ⟨hn9, _⟩⟩
    case inr => exact absurd he hn9
    refine v_swap3 ?_
    refine v_istore F (q := 842) [(6, VI a6), (5, VI a5), (4, VI ((5 * i : Nat) : Int)), (3, .ref ho), (2, .ref (g 0)), (1, .ref (h 0)), (0, .ref b)] dL_law_840 (by decide) rfl rfl ?_
    refine v_aload_n F 4 (q := 843) dL_law_842 rfl rfl rfl ?_
    refine v_swap3 ?_
    refine v_callVi F (kX6_thrown hst (k := k) (g := g) (S := S) (Y := Y9) hI.1) rfl gL_law_X6_thrown rfl hdX6_thrown ⟨Nat.le_of_ble_eq_true rfl, Nat.le_of_ble_eq_true rfl⟩ 0 mw_at0 rfl rfl rfl (Nat.le_of_ble_eq_true rfl) ⟨by show c + 1 + 1 + 0 ≤ 601024; omega, by show n + 6 + 5 + 0 ≤ 7293034; omega⟩ (q := 846) dL_law_843 rfl ?_
    rintro a7 _ ⟨rfl, h7⟩
    refine v_swap3 ?_
    refine v_iload F 1 (q := 848) dL_law_846 rfl rfl ?_
    refine v_icmp_eq F (tgt := 853) (q := 851) (by omega) (by omega) dL_law_848 rfl rfl (fun h9 => ?_) (fun h9 => absurd (show a7 = a5 by omega) h9)
    refine v_iload F 1 (q := 855) dL_law_853 rfl rfl ?_
    refine v_if_ne F (tgt := 870) (q := 858) (by omega) dL_law_855 rfl rfl (fun h9 => absurd (show a5 = 0 by omega) h9) (fun _ => ?_)
    refine v_aload_n F 3 (q := 859) dL_law_858 rfl rfl rfl ?_
    refine v_const F (q := 860) dL_law_859 rfl ?_
    refine v_lald F 39 rfl (q := 861) dL_law_860 rfl ?_
    refine v_iload F 0 (q := 863) dL_law_861 rfl rfl ?_
    refine v_i2l F (q := 864) dL_law_863 rfl ?_
    refine v_lcmp0 F (by rw [hf9, show r9 = thrV S ((xv xs (5 * i + 1))).toNat (xv xs (5 * i + 2)) from hr9, h6]) (q := 865) dL_law_864 rfl ?_
    refine v_if_eq F (tgt := 870) (q := 868) R32_0 dL_law_865 rfl rfl (fun _ => ?_) (fun h9 => absurd rfl h9)
    refine v_goto F (tgt := 1191) dL_law_870 rfl ?_
    refine v_sub [2, 3, 4, 5, 6] rfl ?_
    refine v_widen (c' := c + 200) (n' := n + 1100) (by show c + 1 + 1 ≤ c + 200; omega) (by show n + 6 + 5 ≤ n + 1100; omega) ?_
    exact kk S Z9 Y9 f9 hI
  · refine v_ar2 ?_
    have hb9 : 0 ≤ eThr S (xv xs (5 * i + 1)) (xv xs (5 * i + 2)) ∧ eThr S (xv xs (5 * i + 1)) (xv xs (5 * i + 2)) ≤ 3 := by unfold eThr; (repeat' split) <;> decide
    refine v_istore F (q := 824) [(5, VI a5), (4, VI ((5 * i : Nat) : Int)), (3, .ref ho), (2, .ref (g 0)), (1, .ref (h 0)), (0, .ref b)] dL_law_822 (by decide) rfl rfl ?_
    refine v_aload_n F 3 (q := 825) dL_law_824 rfl rfl rfl ?_
    refine v_aload_n F 5 (q := 826) dL_law_825 rfl rfl rfl ?_
    refine v_iload F 1 (q := 828) dL_law_826 rfl rfl ?_
    refine v_const F (q := 829) dL_law_828 rfl ?_
    refine v_iadd F (q := 830) dL_law_829 rfl ?_
    refine v_sld F (j := 5 * i + 1) hX hbl hbA hL (by omega) (by omega) (q := 831) dL_law_830 rfl ?_
    refine v_aload_n F 5 (q := 832) dL_law_831 rfl rfl rfl ?_
    refine v_iload F 1 (q := 834) dL_law_832 rfl rfl ?_
    refine v_const F (q := 835) dL_law_834 rfl ?_
    refine v_iadd F (q := 836) dL_law_835 rfl ?_
    refine v_sld F (j := 5 * i + 2) hX hbl hbA hL (by omega) (by omega) (q := 837) dL_law_836 rfl ?_
    refine v_swap3 ?_
    refine v_callVi F (kX6_thread hst (k := k) (g := g) (S := S) (Y := Y) hI.1 (a0 := xv xs (5 * i + 1)) (a1 := xv xs (5 * i + 2)) (by omega) (by omega)) rfl gL_law_X6_thread rfl hdX6_thread ⟨Nat.le_of_ble_eq_true rfl, Nat.le_of_ble_eq_true rfl⟩ 0 mw_at0 rfl rfl rfl (Nat.le_of_ble_eq_true rfl) ⟨by show c + 1 + 1 ≤ 601024; omega, by show n + 6 + 5 ≤ 7293034; omega⟩ (q := 840) dL_law_837 rfl ?_
    rintro a6 _ ⟨Y9, hy9, ⟨he9, _, _⟩ | ⟨_, rfl⟩⟩
    case inl => exact absurd he9 he
    refine v_swap3 ?_
    refine v_istore F (q := 842) [(6, VI a6), (5, VI a5), (4, VI ((5 * i : Nat) : Int)), (3, .ref ho), (2, .ref (g 0)), (1, .ref (h 0)), (0, .ref b)] dL_law_840 (by decide) rfl rfl ?_
    refine v_aload_n F 4 (q := 843) dL_law_842 rfl rfl rfl ?_
    refine v_swap3 ?_
    refine v_callVi F (kX6_thrown hst (k := k) (g := g) (S := S) (Y := Y9) hI.1) rfl gL_law_X6_thrown rfl hdX6_thrown ⟨Nat.le_of_ble_eq_true rfl, Nat.le_of_ble_eq_true rfl⟩ 0 mw_at0 rfl rfl rfl (Nat.le_of_ble_eq_true rfl) ⟨by show c + 1 + 1 + 0 ≤ 601024; omega, by show n + 6 + 5 + 0 ≤ 7293034; omega⟩ (q := 846) dL_law_843 rfl ?_
    rintro a7 _ ⟨rfl, h7⟩
    refine v_swap3 ?_
    refine v_iload F 1 (q := 848) dL_law_846 rfl rfl ?_
    refine v_icmp_eq F (tgt := 853) (q := 851) (by omega) (by omega) dL_law_848 rfl rfl (fun h9 => ?_) (fun h9 => absurd (show a7 = a5 by omega) h9)
    refine v_iload F 1 (q := 855) dL_law_853 rfl rfl ?_
    refine v_if_ne F (tgt := 870) (q := 858) (by omega) dL_law_855 rfl rfl (fun _ => ?_) (fun h9 => absurd h9 (by omega))
    refine v_goto F (tgt := 1191) dL_law_870 rfl ?_
    refine v_sub [2, 3, 4, 5, 6] rfl ?_
    refine v_widen (c' := c + 200) (n' := n + 1100) (by show c + 1 + 1 ≤ c + 200; omega) (by show n + 6 + 5 ≤ n + 1100; omega) ?_
    exact kk S Z9 Y9 f hI
set_option maxRecDepth 100000 in
set_option maxHeartbeats 4000000 in
theorem o_ship {X : vX} {l : Launch} {k : Nat → ClassId} {nm9 : String} (F : v_F X l k ⟨RL, nm9, "([I)Z"⟩ code 9 wsL_law room_1) (hst : l.stackTraces = false) {b L : Nat} {xs : Nat → Int32} (hX : va_X b L xs X.1.2.2.2.2 X.1.2.2.2.2.heap) (hbl : b < X.1.2.2.2.2.heap.size) (hbA : ¬ X.2.2.2.2 b) (hL : L ≤ 2560) {h g : Nat → Nat} {ho : Nat} {i : Nat} (hi : 5 * i + 5 ≤ L) {S Z Y : Nat → Nat → Int} {f : Nat → Int64} (hI : Inv2 S) {c n : Nat} (hc : c + 200 ≤ 601024) (hn : n + 1100 ≤ 7293034) (kk : (∀ (S' Z' Y' : Nat → Nat → Int) (f' : Nat → Int64), Inv2 S' → V X (cw k h S' Z' ++ (mw k g S' Y' ++ [(ho, oE k f')])) (c + 200) (n + 1100) 1191 [(4, VI ((5 * i : Nat) : Int)), (3, .ref ho), (2, .ref (g 0)), (1, .ref (h 0)), (0, .ref b)] [])) : V X (cw k h S Z ++ (mw k g S Y ++ [(ho, oE k f)])) c n 873 [(4, VI ((5 * i : Nat) : Int)), (3, .ref ho), (2, .ref (g 0)), (1, .ref (h 0)), (0, .ref b)] [] := by
  have r1 := xv_R xs (5 * i + 1)
  have r2 := xv_R xs (5 * i + 2)
  have r3 := xv_R xs (5 * i + 3)
  have r4 := xv_R xs (5 * i + 4)
  refine v_aload_n F 3 (q := 874) dL_law_873 rfl rfl rfl ?_
  refine v_aload_n F 4 (q := 875) dL_law_874 rfl rfl rfl ?_
  refine v_iload F 0 (q := 877) dL_law_875 rfl rfl ?_
  refine v_const F (q := 878) dL_law_877 rfl ?_
  refine v_iadd F (q := 879) dL_law_878 rfl ?_
  refine v_sld F (j := 5 * i + 1) hX hbl hbA hL (by omega) (by omega) (q := 880) dL_law_879 rfl ?_
  refine v_aload_n F 1 (q := 881) dL_law_880 rfl rfl rfl ?_
  refine v_ar1 ?_
  refine v_callSW F (kL_ship hst (k := k) (h := h) (S := S) (Z := Z) hI.1 (a0 := xv xs (5 * i + 1)) (by omega) (ho := ho) (f := f)) rfl gL_law_L_ship rfl hdL_ship ⟨Nat.le_of_ble_eq_true rfl, Nat.le_of_ble_eq_true rfl⟩ rfl rfl (Nat.le_of_ble_eq_true rfl) ⟨by show c + 1 ≤ 601024; omega, by show n + 6 ≤ 7293034; omega⟩ (q := 884) dL_law_881 rfl ?_
  rintro a5 _ ⟨h5, ⟨he, Z9, f9, r9, rfl, hf9, hr9⟩ | ⟨he, Z9, rfl⟩⟩
  · refine v_ar2 ?_
    have hb9 : 0 ≤ eShip (xv xs (5 * i + 1)) ∧ eShip (xv xs (5 * i + 1)) ≤ 3 := by unfold eShip; (repeat' split) <;> decide
    refine v_istore F (q := 886) [(5, VI a5), (4, VI ((5 * i : Nat) : Int)), (3, .ref ho), (2, .ref (g 0)), (1, .ref (h 0)), (0, .ref b)] dL_law_884 (by decide) rfl rfl ?_
    refine v_aload_n F 3 (q := 887) dL_law_886 rfl rfl rfl ?_
    refine v_aload_n F 5 (q := 888) dL_law_887 rfl rfl rfl ?_
    refine v_iload F 1 (q := 890) dL_law_888 rfl rfl ?_
    refine v_const F (q := 891) dL_law_890 rfl ?_
    refine v_iadd F (q := 892) dL_law_891 rfl ?_
    refine v_sld F (j := 5 * i + 1) hX hbl hbA hL (by omega) (by omega) (q := 893) dL_law_892 rfl ?_
    refine v_swap3 ?_
    refine v_callVi F (kX6_ship hst (k := k) (g := g) (S := S) (Y := Y) hI.1 (a0 := xv xs (5 * i + 1)) (by omega)) rfl gL_law_X6_ship rfl hdX6_ship ⟨Nat.le_of_ble_eq_true rfl, Nat.le_of_ble_eq_true rfl⟩ 0 mw_at0 rfl rfl rfl (Nat.le_of_ble_eq_true rfl) ⟨by show c + 1 + 1 ≤ 601024; omega, by show n + 6 + 6 ≤ 7293034; omega⟩ (q := 896) dL_law_893 rfl ?_
    rintro a6 _ ⟨Y9, hy9, ⟨_, h6, rfl⟩ | ⟨hn9, _⟩⟩
    case inr => exact absurd he hn9
    refine v_swap3 ?_
    refine v_istore F (q := 898) [(6, VI a6), (5, VI a5), (4, VI ((5 * i : Nat) : Int)), (3, .ref ho), (2, .ref (g 0)), (1, .ref (h 0)), (0, .ref b)] dL_law_896 (by decide) rfl rfl ?_
    refine v_aload_n F 4 (q := 899) dL_law_898 rfl rfl rfl ?_
    refine v_swap3 ?_
    refine v_callVi F (kX6_thrown hst (k := k) (g := g) (S := S) (Y := Y9) hI.1) rfl gL_law_X6_thrown rfl hdX6_thrown ⟨Nat.le_of_ble_eq_true rfl, Nat.le_of_ble_eq_true rfl⟩ 0 mw_at0 rfl rfl rfl (Nat.le_of_ble_eq_true rfl) ⟨by show c + 1 + 1 + 0 ≤ 601024; omega, by show n + 6 + 6 + 0 ≤ 7293034; omega⟩ (q := 902) dL_law_899 rfl ?_
    rintro a7 _ ⟨rfl, h7⟩
    refine v_swap3 ?_
    refine v_iload F 1 (q := 904) dL_law_902 rfl rfl ?_
    refine v_icmp_eq F (tgt := 909) (q := 907) (by omega) (by omega) dL_law_904 rfl rfl (fun h9 => ?_) (fun h9 => absurd (show a7 = a5 by omega) h9)
    refine v_iload F 1 (q := 911) dL_law_909 rfl rfl ?_
    refine v_if_ne F (tgt := 926) (q := 914) (by omega) dL_law_911 rfl rfl (fun h9 => absurd (show a5 = 0 by omega) h9) (fun _ => ?_)
    refine v_aload_n F 3 (q := 915) dL_law_914 rfl rfl rfl ?_
    refine v_const F (q := 916) dL_law_915 rfl ?_
    refine v_lald F 39 rfl (q := 917) dL_law_916 rfl ?_
    refine v_iload F 0 (q := 919) dL_law_917 rfl rfl ?_
    refine v_i2l F (q := 920) dL_law_919 rfl ?_
    refine v_lcmp0 F (by rw [hf9, show r9 = shipV S (xv xs (5 * i + 1)) from hr9, h6]) (q := 921) dL_law_920 rfl ?_
    refine v_if_eq F (tgt := 926) (q := 924) R32_0 dL_law_921 rfl rfl (fun _ => ?_) (fun h9 => absurd rfl h9)
    refine v_goto F (tgt := 1191) dL_law_926 rfl ?_
    refine v_sub [2, 3, 4, 5, 6] rfl ?_
    refine v_widen (c' := c + 200) (n' := n + 1100) (by show c + 1 + 1 ≤ c + 200; omega) (by show n + 6 + 6 ≤ n + 1100; omega) ?_
    exact kk S Z9 Y9 f9 hI
  · refine v_ar2 ?_
    have hb9 : 0 ≤ eShip (xv xs (5 * i + 1)) ∧ eShip (xv xs (5 * i + 1)) ≤ 3 := by unfold eShip; (repeat' split) <;> decide
    refine v_istore F (q := 886) [(5, VI a5), (4, VI ((5 * i : Nat) : Int)), (3, .ref ho), (2, .ref (g 0)), (1, .ref (h 0)), (0, .ref b)] dL_law_884 (by decide) rfl rfl ?_
    refine v_aload_n F 3 (q := 887) dL_law_886 rfl rfl rfl ?_
    refine v_aload_n F 5 (q := 888) dL_law_887 rfl rfl rfl ?_
    refine v_iload F 1 (q := 890) dL_law_888 rfl rfl ?_
    refine v_const F (q := 891) dL_law_890 rfl ?_
    refine v_iadd F (q := 892) dL_law_891 rfl ?_
    refine v_sld F (j := 5 * i + 1) hX hbl hbA hL (by omega) (by omega) (q := 893) dL_law_892 rfl ?_
    refine v_swap3 ?_
    refine v_callVi F (kX6_ship hst (k := k) (g := g) (S := S) (Y := Y) hI.1 (a0 := xv xs (5 * i + 1)) (by omega)) rfl gL_law_X6_ship rfl hdX6_ship ⟨Nat.le_of_ble_eq_true rfl, Nat.le_of_ble_eq_true rfl⟩ 0 mw_at0 rfl rfl rfl (Nat.le_of_ble_eq_true rfl) ⟨by show c + 1 + 1 ≤ 601024; omega, by show n + 6 + 6 ≤ 7293034; omega⟩ (q := 896) dL_law_893 rfl ?_
    rintro a6 _ ⟨Y9, hy9, ⟨he9, _, _⟩ | ⟨_, rfl⟩⟩
    case inl => exact absurd he9 he
    refine v_swap3 ?_
    refine v_istore F (q := 898) [(6, VI a6), (5, VI a5), (4, VI ((5 * i : Nat) : Int)), (3, .ref ho), (2, .ref (g 0)), (1, .ref (h 0)), (0, .ref b)] dL_law_896 (by decide) rfl rfl ?_
    refine v_aload_n F 4 (q := 899) dL_law_898 rfl rfl rfl ?_
    refine v_swap3 ?_
    refine v_callVi F (kX6_thrown hst (k := k) (g := g) (S := S) (Y := Y9) hI.1) rfl gL_law_X6_thrown rfl hdX6_thrown ⟨Nat.le_of_ble_eq_true rfl, Nat.le_of_ble_eq_true rfl⟩ 0 mw_at0 rfl rfl rfl (Nat.le_of_ble_eq_true rfl) ⟨by show c + 1 + 1 + 0 ≤ 601024; omega, by show n + 6 + 6 + 0 ≤ 7293034; omega⟩ (q := 902) dL_law_899 rfl ?_
    rintro a7 _ ⟨rfl, h7⟩
    refine v_swap3 ?_
    refine v_iload F 1 (q := 904) dL_law_902 rfl rfl ?_
    refine v_icmp_eq F (tgt := 909) (q := 907) (by omega) (by omega) dL_law_904 rfl rfl (fun h9 => ?_) (fun h9 => absurd (show a7 = a5 by omega) h9)
    refine v_iload F 1 (q := 911) dL_law_909 rfl rfl ?_
    refine v_if_ne F (tgt := 926) (q := 914) (by omega) dL_law_911 rfl rfl (fun _ => ?_) (fun h9 => absurd h9 (by omega))
    refine v_goto F (tgt := 1191) dL_law_926 rfl ?_
    refine v_sub [2, 3, 4, 5, 6] rfl ?_
    refine v_widen (c' := c + 200) (n' := n + 1100) (by show c + 1 + 1 ≤ c + 200; omega) (by show n + 6 + 6 ≤ n + 1100; omega) ?_
    exact kk S Z9 Y9 f hI
set_option maxRecDepth 100000 in
set_option maxHeartbeats 4000000 in
theorem o_count {X : vX} {l : Launch} {k : Nat → ClassId} {nm9 : String} (F : v_F X l k ⟨RL, nm9, "([I)Z"⟩ code 9 wsL_law room_1) (hst : l.stackTraces = false) {b L : Nat} {xs : Nat → Int32} (hX : va_X b L xs X.1.2.2.2.2 X.1.2.2.2.2.heap) (hbl : b < X.1.2.2.2.2.heap.size) (hbA : ¬ X.2.2.2.2 b) (hL : L ≤ 2560) {h g : Nat → Nat} {ho : Nat} {i : Nat} (hi : 5 * i + 5 ≤ L) {S Z Y : Nat → Nat → Int} {f : Nat → Int64} (hI : Inv2 S) {c n : Nat} (hc : c + 200 ≤ 601024) (hn : n + 1100 ≤ 7293034) (kk : (∀ (S' Z' Y' : Nat → Nat → Int) (f' : Nat → Int64), Inv2 S' → V X (cw k h S' Z' ++ (mw k g S' Y' ++ [(ho, oE k f')])) (c + 200) (n + 1100) 1191 [(4, VI ((5 * i : Nat) : Int)), (3, .ref ho), (2, .ref (g 0)), (1, .ref (h 0)), (0, .ref b)] [])) : V X (cw k h S Z ++ (mw k g S Y ++ [(ho, oE k f)])) c n 929 [(4, VI ((5 * i : Nat) : Int)), (3, .ref ho), (2, .ref (g 0)), (1, .ref (h 0)), (0, .ref b)] [] := by
  have r1 := xv_R xs (5 * i + 1)
  have r2 := xv_R xs (5 * i + 2)
  have r3 := xv_R xs (5 * i + 3)
  have r4 := xv_R xs (5 * i + 4)
  refine v_aload_n F 3 (q := 930) dL_law_929 rfl rfl rfl ?_
  refine v_aload_n F 4 (q := 931) dL_law_930 rfl rfl rfl ?_
  refine v_iload F 0 (q := 933) dL_law_931 rfl rfl ?_
  refine v_const F (q := 934) dL_law_933 rfl ?_
  refine v_iadd F (q := 935) dL_law_934 rfl ?_
  refine v_sld F (j := 5 * i + 1) hX hbl hbA hL (by omega) (by omega) (q := 936) dL_law_935 rfl ?_
  refine v_aload_n F 1 (q := 937) dL_law_936 rfl rfl rfl ?_
  refine v_ar1 ?_
  refine v_callSW F (kL_count hst (k := k) (h := h) (S := S) (Z := Z) hI.1 (a0 := xv xs (5 * i + 1)) (by omega) (ho := ho) (f := f)) rfl gL_law_L_count rfl hdL_count ⟨Nat.le_of_ble_eq_true rfl, Nat.le_of_ble_eq_true rfl⟩ rfl rfl (Nat.le_of_ble_eq_true rfl) ⟨by show c + 1 ≤ 601024; omega, by show n + 6 ≤ 7293034; omega⟩ (q := 940) dL_law_937 rfl ?_
  rintro a5 _ ⟨h5, ⟨he, Z9, f9, r9, rfl, hf9, hr9⟩ | ⟨he, Z9, rfl⟩⟩
  · refine v_ar2 ?_
    have hb9 : 0 ≤ eCnt (xv xs (5 * i + 1)) ∧ eCnt (xv xs (5 * i + 1)) ≤ 3 := by unfold eCnt; (repeat' split) <;> decide
    refine v_istore F (q := 942) [(5, VI a5), (4, VI ((5 * i : Nat) : Int)), (3, .ref ho), (2, .ref (g 0)), (1, .ref (h 0)), (0, .ref b)] dL_law_940 (by decide) rfl rfl ?_
    refine v_aload_n F 3 (q := 943) dL_law_942 rfl rfl rfl ?_
    refine v_aload_n F 5 (q := 944) dL_law_943 rfl rfl rfl ?_
    refine v_iload F 1 (q := 946) dL_law_944 rfl rfl ?_
    refine v_const F (q := 947) dL_law_946 rfl ?_
    refine v_iadd F (q := 948) dL_law_947 rfl ?_
    refine v_sld F (j := 5 * i + 1) hX hbl hbA hL (by omega) (by omega) (q := 949) dL_law_948 rfl ?_
    refine v_swap3 ?_
    refine v_callVi F (kX6_count hst (k := k) (g := g) (S := S) (Y := Y) hI.1 (a0 := xv xs (5 * i + 1)) (by omega)) rfl gL_law_X6_count rfl hdX6_count ⟨Nat.le_of_ble_eq_true rfl, Nat.le_of_ble_eq_true rfl⟩ 0 mw_at0 rfl rfl rfl (Nat.le_of_ble_eq_true rfl) ⟨by show c + 1 + 1 ≤ 601024; omega, by show n + 6 + 8 ≤ 7293034; omega⟩ (q := 952) dL_law_949 rfl ?_
    rintro a6 _ ⟨Y9, hy9, ⟨_, h6, rfl⟩ | ⟨hn9, _⟩⟩
    case inr => exact absurd he hn9
    refine v_swap3 ?_
    refine v_istore F (q := 954) [(6, VI a6), (5, VI a5), (4, VI ((5 * i : Nat) : Int)), (3, .ref ho), (2, .ref (g 0)), (1, .ref (h 0)), (0, .ref b)] dL_law_952 (by decide) rfl rfl ?_
    refine v_aload_n F 4 (q := 955) dL_law_954 rfl rfl rfl ?_
    refine v_swap3 ?_
    refine v_callVi F (kX6_thrown hst (k := k) (g := g) (S := S) (Y := Y9) hI.1) rfl gL_law_X6_thrown rfl hdX6_thrown ⟨Nat.le_of_ble_eq_true rfl, Nat.le_of_ble_eq_true rfl⟩ 0 mw_at0 rfl rfl rfl (Nat.le_of_ble_eq_true rfl) ⟨by show c + 1 + 1 + 0 ≤ 601024; omega, by show n + 6 + 8 + 0 ≤ 7293034; omega⟩ (q := 958) dL_law_955 rfl ?_
    rintro a7 _ ⟨rfl, h7⟩
    refine v_swap3 ?_
    refine v_iload F 1 (q := 960) dL_law_958 rfl rfl ?_
    refine v_icmp_eq F (tgt := 965) (q := 963) (by omega) (by omega) dL_law_960 rfl rfl (fun h9 => ?_) (fun h9 => absurd (show a7 = a5 by omega) h9)
    refine v_iload F 1 (q := 967) dL_law_965 rfl rfl ?_
    refine v_if_ne F (tgt := 982) (q := 970) (by omega) dL_law_967 rfl rfl (fun h9 => absurd (show a5 = 0 by omega) h9) (fun _ => ?_)
    refine v_aload_n F 3 (q := 971) dL_law_970 rfl rfl rfl ?_
    refine v_const F (q := 972) dL_law_971 rfl ?_
    refine v_lald F 39 rfl (q := 973) dL_law_972 rfl ?_
    refine v_iload F 0 (q := 975) dL_law_973 rfl rfl ?_
    refine v_i2l F (q := 976) dL_law_975 rfl ?_
    refine v_lcmp0 F (by rw [hf9, show r9 = cntV S (xv xs (5 * i + 1)) from hr9, h6]) (q := 977) dL_law_976 rfl ?_
    refine v_if_eq F (tgt := 982) (q := 980) R32_0 dL_law_977 rfl rfl (fun _ => ?_) (fun h9 => absurd rfl h9)
    refine v_goto F (tgt := 1191) dL_law_982 rfl ?_
    refine v_sub [2, 3, 4, 5, 6] rfl ?_
    refine v_widen (c' := c + 200) (n' := n + 1100) (by show c + 1 + 1 ≤ c + 200; omega) (by show n + 6 + 8 ≤ n + 1100; omega) ?_
    exact kk S Z9 Y9 f9 hI
  · refine v_ar2 ?_
    have hb9 : 0 ≤ eCnt (xv xs (5 * i + 1)) ∧ eCnt (xv xs (5 * i + 1)) ≤ 3 := by unfold eCnt; (repeat' split) <;> decide
    refine v_istore F (q := 942) [(5, VI a5), (4, VI ((5 * i : Nat) : Int)), (3, .ref ho), (2, .ref (g 0)), (1, .ref (h 0)), (0, .ref b)] dL_law_940 (by decide) rfl rfl ?_
    refine v_aload_n F 3 (q := 943) dL_law_942 rfl rfl rfl ?_
    refine v_aload_n F 5 (q := 944) dL_law_943 rfl rfl rfl ?_
    refine v_iload F 1 (q := 946) dL_law_944 rfl rfl ?_
    refine v_const F (q := 947) dL_law_946 rfl ?_
    refine v_iadd F (q := 948) dL_law_947 rfl ?_
    refine v_sld F (j := 5 * i + 1) hX hbl hbA hL (by omega) (by omega) (q := 949) dL_law_948 rfl ?_
    refine v_swap3 ?_
    refine v_callVi F (kX6_count hst (k := k) (g := g) (S := S) (Y := Y) hI.1 (a0 := xv xs (5 * i + 1)) (by omega)) rfl gL_law_X6_count rfl hdX6_count ⟨Nat.le_of_ble_eq_true rfl, Nat.le_of_ble_eq_true rfl⟩ 0 mw_at0 rfl rfl rfl (Nat.le_of_ble_eq_true rfl) ⟨by show c + 1 + 1 ≤ 601024; omega, by show n + 6 + 8 ≤ 7293034; omega⟩ (q := 952) dL_law_949 rfl ?_
    rintro a6 _ ⟨Y9, hy9, ⟨he9, _, _⟩ | ⟨_, rfl⟩⟩
    case inl => exact absurd he9 he
    refine v_swap3 ?_
    refine v_istore F (q := 954) [(6, VI a6), (5, VI a5), (4, VI ((5 * i : Nat) : Int)), (3, .ref ho), (2, .ref (g 0)), (1, .ref (h 0)), (0, .ref b)] dL_law_952 (by decide) rfl rfl ?_
    refine v_aload_n F 4 (q := 955) dL_law_954 rfl rfl rfl ?_
    refine v_swap3 ?_
    refine v_callVi F (kX6_thrown hst (k := k) (g := g) (S := S) (Y := Y9) hI.1) rfl gL_law_X6_thrown rfl hdX6_thrown ⟨Nat.le_of_ble_eq_true rfl, Nat.le_of_ble_eq_true rfl⟩ 0 mw_at0 rfl rfl rfl (Nat.le_of_ble_eq_true rfl) ⟨by show c + 1 + 1 + 0 ≤ 601024; omega, by show n + 6 + 8 + 0 ≤ 7293034; omega⟩ (q := 958) dL_law_955 rfl ?_
    rintro a7 _ ⟨rfl, h7⟩
    refine v_swap3 ?_
    refine v_iload F 1 (q := 960) dL_law_958 rfl rfl ?_
    refine v_icmp_eq F (tgt := 965) (q := 963) (by omega) (by omega) dL_law_960 rfl rfl (fun h9 => ?_) (fun h9 => absurd (show a7 = a5 by omega) h9)
    refine v_iload F 1 (q := 967) dL_law_965 rfl rfl ?_
    refine v_if_ne F (tgt := 982) (q := 970) (by omega) dL_law_967 rfl rfl (fun _ => ?_) (fun h9 => absurd h9 (by omega))
    refine v_goto F (tgt := 1191) dL_law_982 rfl ?_
    refine v_sub [2, 3, 4, 5, 6] rfl ?_
    refine v_widen (c' := c + 200) (n' := n + 1100) (by show c + 1 + 1 ≤ c + 200; omega) (by show n + 6 + 8 ≤ n + 1100; omega) ?_
    exact kk S Z9 Y9 f hI
set_option maxRecDepth 100000 in
set_option maxHeartbeats 4000000 in
theorem o_pass {X : vX} {l : Launch} {k : Nat → ClassId} {nm9 : String} (F : v_F X l k ⟨RL, nm9, "([I)Z"⟩ code 9 wsL_law room_1) (hst : l.stackTraces = false) {b L : Nat} {xs : Nat → Int32} (hX : va_X b L xs X.1.2.2.2.2 X.1.2.2.2.2.heap) (hbl : b < X.1.2.2.2.2.heap.size) (hbA : ¬ X.2.2.2.2 b) (hL : L ≤ 2560) {h g : Nat → Nat} {ho : Nat} {i : Nat} (hi : 5 * i + 5 ≤ L) {S Z Y : Nat → Nat → Int} {f : Nat → Int64} (hI : Inv2 S) {c n : Nat} (hc : c + 200 ≤ 601024) (hn : n + 1100 ≤ 7293034) (kk : (∀ (S' Z' Y' : Nat → Nat → Int) (f' : Nat → Int64), Inv2 S' → V X (cw k h S' Z' ++ (mw k g S' Y' ++ [(ho, oE k f')])) (c + 200) (n + 1100) 1191 [(4, VI ((5 * i : Nat) : Int)), (3, .ref ho), (2, .ref (g 0)), (1, .ref (h 0)), (0, .ref b)] [])) : V X (cw k h S Z ++ (mw k g S Y ++ [(ho, oE k f)])) c n 985 [(4, VI ((5 * i : Nat) : Int)), (3, .ref ho), (2, .ref (g 0)), (1, .ref (h 0)), (0, .ref b)] [] := by
  have r1 := xv_R xs (5 * i + 1)
  have r2 := xv_R xs (5 * i + 2)
  have r3 := xv_R xs (5 * i + 3)
  have r4 := xv_R xs (5 * i + 4)
  refine v_aload_n F 3 (q := 986) dL_law_985 rfl rfl rfl ?_
  refine v_aload_n F 4 (q := 987) dL_law_986 rfl rfl rfl ?_
  refine v_iload F 0 (q := 989) dL_law_987 rfl rfl ?_
  refine v_const F (q := 990) dL_law_989 rfl ?_
  refine v_iadd F (q := 991) dL_law_990 rfl ?_
  refine v_sld F (j := 5 * i + 1) hX hbl hbA hL (by omega) (by omega) (q := 992) dL_law_991 rfl ?_
  refine v_aload_n F 1 (q := 993) dL_law_992 rfl rfl rfl ?_
  refine v_ar1 ?_
  refine v_callSW F (kL_pass hst (k := k) (h := h) (S := S) (Z := Z) hI.1 (a0 := xv xs (5 * i + 1)) (by omega) (ho := ho) (f := f)) rfl gL_law_L_pass rfl hdL_pass ⟨Nat.le_of_ble_eq_true rfl, Nat.le_of_ble_eq_true rfl⟩ rfl rfl (Nat.le_of_ble_eq_true rfl) ⟨by show c + 1 ≤ 601024; omega, by show n + 6 ≤ 7293034; omega⟩ (q := 996) dL_law_993 rfl ?_
  rintro a5 _ ⟨h5, ⟨he, Z9, f9, r9, rfl, hf9, hr9⟩ | ⟨he, Z9, rfl⟩⟩
  · refine v_ar2 ?_
    have hb9 : 0 ≤ ePass (xv xs (5 * i + 1)) ∧ ePass (xv xs (5 * i + 1)) ≤ 3 := by unfold ePass; (repeat' split) <;> decide
    have hI9 : Inv2 (sPass S (xv xs (5 * i + 1))) := inv2_sPass hI _
    refine v_istore F (q := 998) [(5, VI a5), (4, VI ((5 * i : Nat) : Int)), (3, .ref ho), (2, .ref (g 0)), (1, .ref (h 0)), (0, .ref b)] dL_law_996 (by decide) rfl rfl ?_
    refine v_aload_n F 3 (q := 999) dL_law_998 rfl rfl rfl ?_
    refine v_aload_n F 5 (q := 1000) dL_law_999 rfl rfl rfl ?_
    refine v_iload F 1 (q := 1002) dL_law_1000 rfl rfl ?_
    refine v_const F (q := 1003) dL_law_1002 rfl ?_
    refine v_iadd F (q := 1004) dL_law_1003 rfl ?_
    refine v_sld F (j := 5 * i + 1) hX hbl hbA hL (by omega) (by omega) (q := 1005) dL_law_1004 rfl ?_
    refine v_swap3 ?_
    refine v_callVi F (kX6_pass hst (k := k) (g := g) (S := S) (Y := Y) hI.1 (a0 := xv xs (5 * i + 1)) (by omega)) rfl gL_law_X6_pass rfl hdX6_pass ⟨Nat.le_of_ble_eq_true rfl, Nat.le_of_ble_eq_true rfl⟩ 0 mw_at0 rfl rfl rfl (Nat.le_of_ble_eq_true rfl) ⟨by show c + 1 + 0 ≤ 601024; omega, by show n + 6 + 0 ≤ 7293034; omega⟩ (q := 1008) dL_law_1005 rfl ?_
    rintro a6 _ ⟨Y9, hy9, ⟨_, h6, rfl⟩ | ⟨hn9, _⟩⟩
    case inr => exact absurd he hn9
    refine v_swap3 ?_
    refine v_istore F (q := 1010) [(6, VI a6), (5, VI a5), (4, VI ((5 * i : Nat) : Int)), (3, .ref ho), (2, .ref (g 0)), (1, .ref (h 0)), (0, .ref b)] dL_law_1008 (by decide) rfl rfl ?_
    refine v_aload_n F 4 (q := 1011) dL_law_1010 rfl rfl rfl ?_
    refine v_swap3 ?_
    refine v_callVi F (kX6_thrown hst (k := k) (g := g) (S := sPass S (xv xs (5 * i + 1))) (Y := Y9) hI9.1) rfl gL_law_X6_thrown rfl hdX6_thrown ⟨Nat.le_of_ble_eq_true rfl, Nat.le_of_ble_eq_true rfl⟩ 0 mw_at0 rfl rfl rfl (Nat.le_of_ble_eq_true rfl) ⟨by show c + 1 + 0 ≤ 601024; omega, by show n + 6 + 0 ≤ 7293034; omega⟩ (q := 1014) dL_law_1011 rfl ?_
    rintro a7 _ ⟨rfl, h7⟩
    refine v_swap3 ?_
    refine v_iload F 1 (q := 1016) dL_law_1014 rfl rfl ?_
    refine v_icmp_eq F (tgt := 1021) (q := 1019) (by omega) (by omega) dL_law_1016 rfl rfl (fun h9 => ?_) (fun h9 => absurd (show a7 = a5 by omega) h9)
    refine v_iload F 1 (q := 1023) dL_law_1021 rfl rfl ?_
    refine v_if_ne F (tgt := 1038) (q := 1026) (by omega) dL_law_1023 rfl rfl (fun h9 => absurd (show a5 = 0 by omega) h9) (fun _ => ?_)
    refine v_aload_n F 3 (q := 1027) dL_law_1026 rfl rfl rfl ?_
    refine v_const F (q := 1028) dL_law_1027 rfl ?_
    refine v_lald F 39 rfl (q := 1029) dL_law_1028 rfl ?_
    refine v_iload F 0 (q := 1031) dL_law_1029 rfl rfl ?_
    refine v_i2l F (q := 1032) dL_law_1031 rfl ?_
    refine v_lcmp0 F (by rw [hf9, show r9 = rPass S (xv xs (5 * i + 1)) from hr9, h6]) (q := 1033) dL_law_1032 rfl ?_
    refine v_if_eq F (tgt := 1038) (q := 1036) R32_0 dL_law_1033 rfl rfl (fun _ => ?_) (fun h9 => absurd rfl h9)
    refine v_goto F (tgt := 1191) dL_law_1038 rfl ?_
    refine v_sub [2, 3, 4, 5, 6] rfl ?_
    refine v_widen (c' := c + 200) (n' := n + 1100) (by show c + 1 ≤ c + 200; omega) (by show n + 6 ≤ n + 1100; omega) ?_
    exact kk (sPass S (xv xs (5 * i + 1))) Z9 Y9 f9 hI9
  · refine v_ar2 ?_
    have hb9 : 0 ≤ ePass (xv xs (5 * i + 1)) ∧ ePass (xv xs (5 * i + 1)) ≤ 3 := by unfold ePass; (repeat' split) <;> decide
    refine v_istore F (q := 998) [(5, VI a5), (4, VI ((5 * i : Nat) : Int)), (3, .ref ho), (2, .ref (g 0)), (1, .ref (h 0)), (0, .ref b)] dL_law_996 (by decide) rfl rfl ?_
    refine v_aload_n F 3 (q := 999) dL_law_998 rfl rfl rfl ?_
    refine v_aload_n F 5 (q := 1000) dL_law_999 rfl rfl rfl ?_
    refine v_iload F 1 (q := 1002) dL_law_1000 rfl rfl ?_
    refine v_const F (q := 1003) dL_law_1002 rfl ?_
    refine v_iadd F (q := 1004) dL_law_1003 rfl ?_
    refine v_sld F (j := 5 * i + 1) hX hbl hbA hL (by omega) (by omega) (q := 1005) dL_law_1004 rfl ?_
    refine v_swap3 ?_
    refine v_callVi F (kX6_pass hst (k := k) (g := g) (S := S) (Y := Y) hI.1 (a0 := xv xs (5 * i + 1)) (by omega)) rfl gL_law_X6_pass rfl hdX6_pass ⟨Nat.le_of_ble_eq_true rfl, Nat.le_of_ble_eq_true rfl⟩ 0 mw_at0 rfl rfl rfl (Nat.le_of_ble_eq_true rfl) ⟨by show c + 1 + 0 ≤ 601024; omega, by show n + 6 + 0 ≤ 7293034; omega⟩ (q := 1008) dL_law_1005 rfl ?_
    rintro a6 _ ⟨Y9, hy9, ⟨he9, _, _⟩ | ⟨_, rfl⟩⟩
    case inl => exact absurd he9 he
    refine v_swap3 ?_
    refine v_istore F (q := 1010) [(6, VI a6), (5, VI a5), (4, VI ((5 * i : Nat) : Int)), (3, .ref ho), (2, .ref (g 0)), (1, .ref (h 0)), (0, .ref b)] dL_law_1008 (by decide) rfl rfl ?_
    refine v_aload_n F 4 (q := 1011) dL_law_1010 rfl rfl rfl ?_
    refine v_swap3 ?_
    refine v_callVi F (kX6_thrown hst (k := k) (g := g) (S := S) (Y := Y9) hI.1) rfl gL_law_X6_thrown rfl hdX6_thrown ⟨Nat.le_of_ble_eq_true rfl, Nat.le_of_ble_eq_true rfl⟩ 0 mw_at0 rfl rfl rfl (Nat.le_of_ble_eq_true rfl) ⟨by show c + 1 + 0 ≤ 601024; omega, by show n + 6 + 0 ≤ 7293034; omega⟩ (q := 1014) dL_law_1011 rfl ?_
    rintro a7 _ ⟨rfl, h7⟩
    refine v_swap3 ?_
    refine v_iload F 1 (q := 1016) dL_law_1014 rfl rfl ?_
    refine v_icmp_eq F (tgt := 1021) (q := 1019) (by omega) (by omega) dL_law_1016 rfl rfl (fun h9 => ?_) (fun h9 => absurd (show a7 = a5 by omega) h9)
    refine v_iload F 1 (q := 1023) dL_law_1021 rfl rfl ?_
    refine v_if_ne F (tgt := 1038) (q := 1026) (by omega) dL_law_1023 rfl rfl (fun _ => ?_) (fun h9 => absurd h9 (by omega))
    refine v_goto F (tgt := 1191) dL_law_1038 rfl ?_
    refine v_sub [2, 3, 4, 5, 6] rfl ?_
    refine v_widen (c' := c + 200) (n' := n + 1100) (by show c + 1 ≤ c + 200; omega) (by show n + 6 ≤ n + 1100; omega) ?_
    exact kk S Z9 Y9 f hI
set_option maxRecDepth 100000 in
set_option maxHeartbeats 4000000 in
theorem o_fewest {X : vX} {l : Launch} {k : Nat → ClassId} {nm9 : String} (F : v_F X l k ⟨RL, nm9, "([I)Z"⟩ code 9 wsL_law room_1) (hst : l.stackTraces = false) {b L : Nat} {xs : Nat → Int32} (hX : va_X b L xs X.1.2.2.2.2 X.1.2.2.2.2.heap) (hbl : b < X.1.2.2.2.2.heap.size) (hbA : ¬ X.2.2.2.2 b) (hL : L ≤ 2560) {h g : Nat → Nat} {ho : Nat} {i : Nat} (hi : 5 * i + 5 ≤ L) {S Z Y : Nat → Nat → Int} {f : Nat → Int64} (hI : Inv2 S) {c n : Nat} (hc : c + 200 ≤ 601024) (hn : n + 1100 ≤ 7293034) (kk : (∀ (S' Z' Y' : Nat → Nat → Int) (f' : Nat → Int64), Inv2 S' → V X (cw k h S' Z' ++ (mw k g S' Y' ++ [(ho, oE k f')])) (c + 200) (n + 1100) 1191 [(4, VI ((5 * i : Nat) : Int)), (3, .ref ho), (2, .ref (g 0)), (1, .ref (h 0)), (0, .ref b)] [])) : V X (cw k h S Z ++ (mw k g S Y ++ [(ho, oE k f)])) c n 1041 [(4, VI ((5 * i : Nat) : Int)), (3, .ref ho), (2, .ref (g 0)), (1, .ref (h 0)), (0, .ref b)] [] := by
  have r1 := xv_R xs (5 * i + 1)
  have r2 := xv_R xs (5 * i + 2)
  have r3 := xv_R xs (5 * i + 3)
  have r4 := xv_R xs (5 * i + 4)
  refine v_aload_n F 3 (q := 1042) dL_law_1041 rfl rfl rfl ?_
  refine v_callVi F (kX5_fewest hst (k := k) (h := h) (S := S) (Z := Z) hI.1) rfl gL_law_X5_fewest rfl hdX5_fewest ⟨Nat.le_of_ble_eq_true rfl, Nat.le_of_ble_eq_true rfl⟩ 0 cw_at0 rfl rfl rfl (Nat.le_of_ble_eq_true rfl) ⟨by show c + 0 ≤ 601024; omega, by show n + 0 ≤ 7293034; omega⟩ (q := 1045) dL_law_1042 rfl ?_
  rintro a5 _ ⟨Z9, rfl, h5⟩
  refine v_aload_n F 2 (q := 1046) dL_law_1045 rfl rfl rfl ?_
  refine v_swap3 ?_
  refine v_callVi F (kX6_fewest hst (k := k) (g := g) (S := S) (Y := Y) hI.1) rfl gL_law_X6_fewest rfl hdX6_fewest ⟨Nat.le_of_ble_eq_true rfl, Nat.le_of_ble_eq_true rfl⟩ 0 mw_at0 rfl rfl rfl (Nat.le_of_ble_eq_true rfl) ⟨by show c + 0 ≤ 601024; omega, by show n + 0 ≤ 7293034; omega⟩ (q := 1049) dL_law_1046 rfl ?_
  rintro a6 _ ⟨Y9, hy9, rfl, h6⟩
  refine v_swap3 ?_
  have e9 : a5 = a6 := h5.uniq h6; subst e9
  refine v_icmp_same F (tgt := 1191) dL_law_1049 rfl ?_
  refine v_widen (c' := c + 200) (n' := n + 1100) (by show c ≤ c + 200; omega) (by show n ≤ n + 1100; omega) ?_
  exact kk S Z9 Y9 f hI
set_option maxRecDepth 100000 in
set_option maxHeartbeats 4000000 in
theorem o_first {X : vX} {l : Launch} {k : Nat → ClassId} {nm9 : String} (F : v_F X l k ⟨RL, nm9, "([I)Z"⟩ code 9 wsL_law room_1) (hst : l.stackTraces = false) {b L : Nat} {xs : Nat → Int32} (hX : va_X b L xs X.1.2.2.2.2 X.1.2.2.2.2.heap) (hbl : b < X.1.2.2.2.2.heap.size) (hbA : ¬ X.2.2.2.2 b) (hL : L ≤ 2560) {h g : Nat → Nat} {ho : Nat} {i : Nat} (hi : 5 * i + 5 ≤ L) {S Z Y : Nat → Nat → Int} {f : Nat → Int64} (hI : Inv2 S) {c n : Nat} (hc : c + 200 ≤ 601024) (hn : n + 1100 ≤ 7293034) (kk : (∀ (S' Z' Y' : Nat → Nat → Int) (f' : Nat → Int64), Inv2 S' → V X (cw k h S' Z' ++ (mw k g S' Y' ++ [(ho, oE k f')])) (c + 200) (n + 1100) 1191 [(4, VI ((5 * i : Nat) : Int)), (3, .ref ho), (2, .ref (g 0)), (1, .ref (h 0)), (0, .ref b)] [])) : V X (cw k h S Z ++ (mw k g S Y ++ [(ho, oE k f)])) c n 1054 [(4, VI ((5 * i : Nat) : Int)), (3, .ref ho), (2, .ref (g 0)), (1, .ref (h 0)), (0, .ref b)] [] := by
  have r1 := xv_R xs (5 * i + 1)
  have r2 := xv_R xs (5 * i + 2)
  have r3 := xv_R xs (5 * i + 3)
  have r4 := xv_R xs (5 * i + 4)
  refine v_aload_n F 3 (q := 1055) dL_law_1054 rfl rfl rfl ?_
  refine v_callVi F (kX5_first hst (k := k) (h := h) (S := S) (Z := Z) hI.1) rfl gL_law_X5_first rfl hdX5_first ⟨Nat.le_of_ble_eq_true rfl, Nat.le_of_ble_eq_true rfl⟩ 0 cw_at0 rfl rfl rfl (Nat.le_of_ble_eq_true rfl) ⟨by show c + 0 ≤ 601024; omega, by show n + 0 ≤ 7293034; omega⟩ (q := 1058) dL_law_1055 rfl ?_
  rintro a5 _ ⟨Z9, rfl, h5⟩
  refine v_aload_n F 2 (q := 1059) dL_law_1058 rfl rfl rfl ?_
  refine v_swap3 ?_
  refine v_callVi F (kX6_first hst (k := k) (g := g) (S := S) (Y := Y) hI.1) rfl gL_law_X6_first rfl hdX6_first ⟨Nat.le_of_ble_eq_true rfl, Nat.le_of_ble_eq_true rfl⟩ 0 mw_at0 rfl rfl rfl (Nat.le_of_ble_eq_true rfl) ⟨by show c + 0 ≤ 601024; omega, by show n + 0 ≤ 7293034; omega⟩ (q := 1062) dL_law_1059 rfl ?_
  rintro a6 _ ⟨Y9, hy9, rfl, h6⟩
  refine v_swap3 ?_
  have e9 : a5 = a6 := h5.uniq h6; subst e9
  refine v_icmp_same F (tgt := 1191) dL_law_1062 rfl ?_
  refine v_widen (c' := c + 200) (n' := n + 1100) (by show c ≤ c + 200; omega) (by show n ≤ n + 1100; omega) ?_
  exact kk S Z9 Y9 f hI
set_option maxRecDepth 100000 in
set_option maxHeartbeats 4000000 in
theorem o_least {X : vX} {l : Launch} {k : Nat → ClassId} {nm9 : String} (F : v_F X l k ⟨RL, nm9, "([I)Z"⟩ code 9 wsL_law room_1) (hst : l.stackTraces = false) {b L : Nat} {xs : Nat → Int32} (hX : va_X b L xs X.1.2.2.2.2 X.1.2.2.2.2.heap) (hbl : b < X.1.2.2.2.2.heap.size) (hbA : ¬ X.2.2.2.2 b) (hL : L ≤ 2560) {h g : Nat → Nat} {ho : Nat} {i : Nat} (hi : 5 * i + 5 ≤ L) {S Z Y : Nat → Nat → Int} {f : Nat → Int64} (hI : Inv2 S) {c n : Nat} (hc : c + 200 ≤ 601024) (hn : n + 1100 ≤ 7293034) (kk : (∀ (S' Z' Y' : Nat → Nat → Int) (f' : Nat → Int64), Inv2 S' → V X (cw k h S' Z' ++ (mw k g S' Y' ++ [(ho, oE k f')])) (c + 200) (n + 1100) 1191 [(4, VI ((5 * i : Nat) : Int)), (3, .ref ho), (2, .ref (g 0)), (1, .ref (h 0)), (0, .ref b)] [])) : V X (cw k h S Z ++ (mw k g S Y ++ [(ho, oE k f)])) c n 1067 [(4, VI ((5 * i : Nat) : Int)), (3, .ref ho), (2, .ref (g 0)), (1, .ref (h 0)), (0, .ref b)] [] := by
  have r1 := xv_R xs (5 * i + 1)
  have r2 := xv_R xs (5 * i + 2)
  have r3 := xv_R xs (5 * i + 3)
  have r4 := xv_R xs (5 * i + 4)
  refine v_aload_n F 3 (q := 1068) dL_law_1067 rfl rfl rfl ?_
  refine v_aload_n F 4 (q := 1069) dL_law_1068 rfl rfl rfl ?_
  refine v_iload F 0 (q := 1071) dL_law_1069 rfl rfl ?_
  refine v_const F (q := 1072) dL_law_1071 rfl ?_
  refine v_iadd F (q := 1073) dL_law_1072 rfl ?_
  refine v_sld F (j := 5 * i + 1) hX hbl hbA hL (by omega) (by omega) (q := 1074) dL_law_1073 rfl ?_
  refine v_aload_n F 1 (q := 1075) dL_law_1074 rfl rfl rfl ?_
  refine v_ar1 ?_
  refine v_callSW F (kL_least hst (k := k) (h := h) (S := S) (Z := Z) hI.1 (a0 := xv xs (5 * i + 1)) (by omega) (ho := ho) (f := f)) rfl gL_law_L_least rfl hdL_least ⟨Nat.le_of_ble_eq_true rfl, Nat.le_of_ble_eq_true rfl⟩ rfl rfl (Nat.le_of_ble_eq_true rfl) ⟨by show c + 1 ≤ 601024; omega, by show n + 6 ≤ 7293034; omega⟩ (q := 1078) dL_law_1075 rfl ?_
  rintro a5 _ ⟨h5, ⟨he, Z9, f9, r9, rfl, hf9, hr9⟩ | ⟨he, Z9, rfl⟩⟩
  · refine v_ar2 ?_
    have hb9 : 0 ≤ eLeast S (xv xs (5 * i + 1)) ∧ eLeast S (xv xs (5 * i + 1)) ≤ 3 := by unfold eLeast; (repeat' split) <;> decide
    refine v_istore F (q := 1080) [(5, VI a5), (4, VI ((5 * i : Nat) : Int)), (3, .ref ho), (2, .ref (g 0)), (1, .ref (h 0)), (0, .ref b)] dL_law_1078 (by decide) rfl rfl ?_
    refine v_aload_n F 3 (q := 1081) dL_law_1080 rfl rfl rfl ?_
    refine v_aload_n F 5 (q := 1082) dL_law_1081 rfl rfl rfl ?_
    refine v_iload F 1 (q := 1084) dL_law_1082 rfl rfl ?_
    refine v_const F (q := 1085) dL_law_1084 rfl ?_
    refine v_iadd F (q := 1086) dL_law_1085 rfl ?_
    refine v_sld F (j := 5 * i + 1) hX hbl hbA hL (by omega) (by omega) (q := 1087) dL_law_1086 rfl ?_
    refine v_swap3 ?_
    refine v_callVi F (kX6_least hst (k := k) (g := g) (S := S) (Y := Y) hI.1 (a0 := xv xs (5 * i + 1)) (by omega)) rfl gL_law_X6_least rfl hdX6_least ⟨Nat.le_of_ble_eq_true rfl, Nat.le_of_ble_eq_true rfl⟩ 0 mw_at0 rfl rfl rfl (Nat.le_of_ble_eq_true rfl) ⟨by show c + 1 + 0 ≤ 601024; omega, by show n + 6 + 0 ≤ 7293034; omega⟩ (q := 1090) dL_law_1087 rfl ?_
    rintro a6 _ ⟨Y9, hy9, rfl, h6⟩
    refine v_swap3 ?_
    refine v_istore F (q := 1092) [(6, VI a6), (5, VI a5), (4, VI ((5 * i : Nat) : Int)), (3, .ref ho), (2, .ref (g 0)), (1, .ref (h 0)), (0, .ref b)] dL_law_1090 (by decide) rfl rfl ?_
    refine v_aload_n F 4 (q := 1093) dL_law_1092 rfl rfl rfl ?_
    refine v_swap3 ?_
    refine v_callVi F (kX6_thrown hst (k := k) (g := g) (S := S) (Y := Y9) hI.1) rfl gL_law_X6_thrown rfl hdX6_thrown ⟨Nat.le_of_ble_eq_true rfl, Nat.le_of_ble_eq_true rfl⟩ 0 mw_at0 rfl rfl rfl (Nat.le_of_ble_eq_true rfl) ⟨by show c + 1 + 0 ≤ 601024; omega, by show n + 6 + 0 ≤ 7293034; omega⟩ (q := 1096) dL_law_1093 rfl ?_
    rintro a7 _ ⟨rfl, h7⟩
    refine v_swap3 ?_
    refine v_iload F 1 (q := 1098) dL_law_1096 rfl rfl ?_
    refine v_icmp_eq F (tgt := 1103) (q := 1101) (by omega) (by omega) dL_law_1098 rfl rfl (fun h9 => ?_) (fun h9 => absurd (show a7 = a5 by omega) h9)
    refine v_iload F 1 (q := 1105) dL_law_1103 rfl rfl ?_
    refine v_if_ne F (tgt := 1120) (q := 1108) (by omega) dL_law_1105 rfl rfl (fun h9 => absurd (show a5 = 0 by omega) h9) (fun _ => ?_)
    refine v_aload_n F 3 (q := 1109) dL_law_1108 rfl rfl rfl ?_
    refine v_const F (q := 1110) dL_law_1109 rfl ?_
    refine v_lald F 39 rfl (q := 1111) dL_law_1110 rfl ?_
    refine v_iload F 0 (q := 1113) dL_law_1111 rfl rfl ?_
    refine v_i2l F (q := 1114) dL_law_1113 rfl ?_
    refine v_lcmp0 F (by rw [hf9, show r9 = a6 from LeaP.uniq hr9 (h6 he)]) (q := 1115) dL_law_1114 rfl ?_
    refine v_if_eq F (tgt := 1120) (q := 1118) R32_0 dL_law_1115 rfl rfl (fun _ => ?_) (fun h9 => absurd rfl h9)
    refine v_goto F (tgt := 1191) dL_law_1120 rfl ?_
    refine v_sub [2, 3, 4, 5, 6] rfl ?_
    refine v_widen (c' := c + 200) (n' := n + 1100) (by show c + 1 ≤ c + 200; omega) (by show n + 6 ≤ n + 1100; omega) ?_
    exact kk S Z9 Y9 f9 hI
  · refine v_ar2 ?_
    have hb9 : 0 ≤ eLeast S (xv xs (5 * i + 1)) ∧ eLeast S (xv xs (5 * i + 1)) ≤ 3 := by unfold eLeast; (repeat' split) <;> decide
    refine v_istore F (q := 1080) [(5, VI a5), (4, VI ((5 * i : Nat) : Int)), (3, .ref ho), (2, .ref (g 0)), (1, .ref (h 0)), (0, .ref b)] dL_law_1078 (by decide) rfl rfl ?_
    refine v_aload_n F 3 (q := 1081) dL_law_1080 rfl rfl rfl ?_
    refine v_aload_n F 5 (q := 1082) dL_law_1081 rfl rfl rfl ?_
    refine v_iload F 1 (q := 1084) dL_law_1082 rfl rfl ?_
    refine v_const F (q := 1085) dL_law_1084 rfl ?_
    refine v_iadd F (q := 1086) dL_law_1085 rfl ?_
    refine v_sld F (j := 5 * i + 1) hX hbl hbA hL (by omega) (by omega) (q := 1087) dL_law_1086 rfl ?_
    refine v_swap3 ?_
    refine v_callVi F (kX6_least hst (k := k) (g := g) (S := S) (Y := Y) hI.1 (a0 := xv xs (5 * i + 1)) (by omega)) rfl gL_law_X6_least rfl hdX6_least ⟨Nat.le_of_ble_eq_true rfl, Nat.le_of_ble_eq_true rfl⟩ 0 mw_at0 rfl rfl rfl (Nat.le_of_ble_eq_true rfl) ⟨by show c + 1 + 0 ≤ 601024; omega, by show n + 6 + 0 ≤ 7293034; omega⟩ (q := 1090) dL_law_1087 rfl ?_
    rintro a6 _ ⟨Y9, hy9, rfl, h6⟩
    refine v_swap3 ?_
    refine v_istore F (q := 1092) [(6, VI a6), (5, VI a5), (4, VI ((5 * i : Nat) : Int)), (3, .ref ho), (2, .ref (g 0)), (1, .ref (h 0)), (0, .ref b)] dL_law_1090 (by decide) rfl rfl ?_
    refine v_aload_n F 4 (q := 1093) dL_law_1092 rfl rfl rfl ?_
    refine v_swap3 ?_
    refine v_callVi F (kX6_thrown hst (k := k) (g := g) (S := S) (Y := Y9) hI.1) rfl gL_law_X6_thrown rfl hdX6_thrown ⟨Nat.le_of_ble_eq_true rfl, Nat.le_of_ble_eq_true rfl⟩ 0 mw_at0 rfl rfl rfl (Nat.le_of_ble_eq_true rfl) ⟨by show c + 1 + 0 ≤ 601024; omega, by show n + 6 + 0 ≤ 7293034; omega⟩ (q := 1096) dL_law_1093 rfl ?_
    rintro a7 _ ⟨rfl, h7⟩
    refine v_swap3 ?_
    refine v_iload F 1 (q := 1098) dL_law_1096 rfl rfl ?_
    refine v_icmp_eq F (tgt := 1103) (q := 1101) (by omega) (by omega) dL_law_1098 rfl rfl (fun h9 => ?_) (fun h9 => absurd (show a7 = a5 by omega) h9)
    refine v_iload F 1 (q := 1105) dL_law_1103 rfl rfl ?_
    refine v_if_ne F (tgt := 1120) (q := 1108) (by omega) dL_law_1105 rfl rfl (fun _ => ?_) (fun h9 => absurd h9 (by omega))
    refine v_goto F (tgt := 1191) dL_law_1120 rfl ?_
    refine v_sub [2, 3, 4, 5, 6] rfl ?_
    refine v_widen (c' := c + 200) (n' := n + 1100) (by show c + 1 ≤ c + 200; omega) (by show n + 6 ≤ n + 1100; omega) ?_
    exact kk S Z9 Y9 f hI
set_option maxRecDepth 100000 in
set_option maxHeartbeats 4000000 in
theorem o_falls {X : vX} {l : Launch} {k : Nat → ClassId} {nm9 : String} (F : v_F X l k ⟨RL, nm9, "([I)Z"⟩ code 9 wsL_law room_1) (hst : l.stackTraces = false) {b L : Nat} {xs : Nat → Int32} (hX : va_X b L xs X.1.2.2.2.2 X.1.2.2.2.2.heap) (hbl : b < X.1.2.2.2.2.heap.size) (hbA : ¬ X.2.2.2.2 b) (hL : L ≤ 2560) {h g : Nat → Nat} {ho : Nat} {i : Nat} (hi : 5 * i + 5 ≤ L) {S Z Y : Nat → Nat → Int} {f : Nat → Int64} (hI : Inv2 S) {c n : Nat} (hc : c + 200 ≤ 601024) (hn : n + 1100 ≤ 7293034) (kk : (∀ (S' Z' Y' : Nat → Nat → Int) (f' : Nat → Int64), Inv2 S' → V X (cw k h S' Z' ++ (mw k g S' Y' ++ [(ho, oE k f')])) (c + 200) (n + 1100) 1191 [(4, VI ((5 * i : Nat) : Int)), (3, .ref ho), (2, .ref (g 0)), (1, .ref (h 0)), (0, .ref b)] [])) : V X (cw k h S Z ++ (mw k g S Y ++ [(ho, oE k f)])) c n 1123 [(4, VI ((5 * i : Nat) : Int)), (3, .ref ho), (2, .ref (g 0)), (1, .ref (h 0)), (0, .ref b)] [] := by
  have r1 := xv_R xs (5 * i + 1)
  have r2 := xv_R xs (5 * i + 2)
  have r3 := xv_R xs (5 * i + 3)
  have r4 := xv_R xs (5 * i + 4)
  refine v_aload_n F 3 (q := 1124) dL_law_1123 rfl rfl rfl ?_
  refine v_callVi F (kX5_falls hst (k := k) (h := h) (S := S) (Z := Z) hI.1) rfl gL_law_X5_falls rfl hdX5_falls ⟨Nat.le_of_ble_eq_true rfl, Nat.le_of_ble_eq_true rfl⟩ 0 cw_at0 rfl rfl rfl (Nat.le_of_ble_eq_true rfl) ⟨by show c + 0 ≤ 601024; omega, by show n + 0 ≤ 7293034; omega⟩ (q := 1127) dL_law_1124 rfl ?_
  rintro a5 _ ⟨rfl, h5⟩
  refine v_aload_n F 2 (q := 1128) dL_law_1127 rfl rfl rfl ?_
  refine v_swap3 ?_
  refine v_callVi F (kX6_falls hst (k := k) (g := g) (S := S) (Y := Y) hI.1) rfl gL_law_X6_falls rfl hdX6_falls ⟨Nat.le_of_ble_eq_true rfl, Nat.le_of_ble_eq_true rfl⟩ 0 mw_at0 rfl rfl rfl (Nat.le_of_ble_eq_true rfl) ⟨by show c + 0 ≤ 601024; omega, by show n + 0 ≤ 7293034; omega⟩ (q := 1131) dL_law_1128 rfl ?_
  rintro a6 _ ⟨Y9, hy9, rfl, h6⟩
  refine v_swap3 ?_
  have e9 : a5 = a6 := h5.uniq h6; subst e9
  refine v_icmp_same F (tgt := 1191) dL_law_1131 rfl ?_
  refine v_widen (c' := c + 200) (n' := n + 1100) (by show c ≤ c + 200; omega) (by show n ≤ n + 1100; omega) ?_
  exact kk S Z Y9 f hI
set_option maxRecDepth 100000 in
set_option maxHeartbeats 4000000 in
theorem o_mean {X : vX} {l : Launch} {k : Nat → ClassId} {nm9 : String} (F : v_F X l k ⟨RL, nm9, "([I)Z"⟩ code 9 wsL_law room_1) (hst : l.stackTraces = false) {b L : Nat} {xs : Nat → Int32} (hX : va_X b L xs X.1.2.2.2.2 X.1.2.2.2.2.heap) (hbl : b < X.1.2.2.2.2.heap.size) (hbA : ¬ X.2.2.2.2 b) (hL : L ≤ 2560) {h g : Nat → Nat} {ho : Nat} {i : Nat} (hi : 5 * i + 5 ≤ L) {S Z Y : Nat → Nat → Int} {f : Nat → Int64} (hI : Inv2 S) {c n : Nat} (hc : c + 200 ≤ 601024) (hn : n + 1100 ≤ 7293034) (kk : (∀ (S' Z' Y' : Nat → Nat → Int) (f' : Nat → Int64), Inv2 S' → V X (cw k h S' Z' ++ (mw k g S' Y' ++ [(ho, oE k f')])) (c + 200) (n + 1100) 1191 [(4, VI ((5 * i : Nat) : Int)), (3, .ref ho), (2, .ref (g 0)), (1, .ref (h 0)), (0, .ref b)] [])) : V X (cw k h S Z ++ (mw k g S Y ++ [(ho, oE k f)])) c n 1136 [(4, VI ((5 * i : Nat) : Int)), (3, .ref ho), (2, .ref (g 0)), (1, .ref (h 0)), (0, .ref b)] [] := by
  have r1 := xv_R xs (5 * i + 1)
  have r2 := xv_R xs (5 * i + 2)
  have r3 := xv_R xs (5 * i + 3)
  have r4 := xv_R xs (5 * i + 4)
  refine v_aload_n F 3 (q := 1137) dL_law_1136 rfl rfl rfl ?_
  refine v_callVd F (kX5_mean hst (k := k) (h := h) (S := S) (Z := Z) hI.1) rfl gL_law_X5_mean rfl hdX5_mean ⟨Nat.le_of_ble_eq_true rfl, Nat.le_of_ble_eq_true rfl⟩ 0 cw_at0 rfl rfl rfl (Nat.le_of_ble_eq_true rfl) ⟨by show c + 0 ≤ 601024; omega, by show n + 0 ≤ 7293034; omega⟩ (q := 1140) dL_law_1137 rfl ?_
  rintro a5 _ ⟨rfl, rfl⟩
  refine v_dstore F (q := 1142) [(5, .double (meanV S)), (4, VI ((5 * i : Nat) : Int)), (3, .ref ho), (2, .ref (g 0)), (1, .ref (h 0)), (0, .ref b)] dL_law_1140 (by decide) rfl rfl ?_
  refine v_aload_n F 3 (q := 1143) dL_law_1142 rfl rfl rfl ?_
  refine v_swap3 ?_
  refine v_callVd F (kX6_mean hst (k := k) (g := g) (S := S) (Y := Y) hI.1) rfl gL_law_X6_mean rfl hdX6_mean ⟨Nat.le_of_ble_eq_true rfl, Nat.le_of_ble_eq_true rfl⟩ 0 mw_at0 rfl rfl rfl (Nat.le_of_ble_eq_true rfl) ⟨by show c + 0 ≤ 601024; omega, by show n + 0 ≤ 7293034; omega⟩ (q := 1146) dL_law_1143 rfl ?_
  rintro a6 _ ⟨Y9, hy9, rfl, rfl⟩
  refine v_swap3 ?_
  refine v_dstore F (q := 1148) [(7, .double (meanV S)), (5, .double (meanV S)), (4, VI ((5 * i : Nat) : Int)), (3, .ref ho), (2, .ref (g 0)), (1, .ref (h 0)), (0, .ref b)] dL_law_1146 (by decide) rfl rfl ?_
  refine v_dload F 1 (q := 1150) dL_law_1148 rfl rfl ?_
  refine v_dload F 0 (q := 1152) dL_law_1150 rfl rfl ?_
  refine v_dcmp F (z := 0) (q := 1153) dL_law_1152 ((mean_cmp hI.1).trans iI_0) rfl ?_
  refine v_if_eq F (tgt := 1174) (q := 1156) R32_0 dL_law_1153 rfl rfl (fun _ => ?_) (fun h9 => absurd rfl h9)
  refine v_goto F (tgt := 1191) dL_law_1174 rfl ?_
  refine v_sub [2, 3, 4, 5, 6] rfl ?_
  refine v_widen (c' := c + 200) (n' := n + 1100) (by show c ≤ c + 200; omega) (by show n ≤ n + 1100; omega) ?_
  exact kk S Z Y9 f hI
set_option maxRecDepth 100000 in
set_option maxHeartbeats 4000000 in
theorem o_digest {X : vX} {l : Launch} {k : Nat → ClassId} {nm9 : String} (F : v_F X l k ⟨RL, nm9, "([I)Z"⟩ code 9 wsL_law room_1) (hst : l.stackTraces = false) {b L : Nat} {xs : Nat → Int32} (hX : va_X b L xs X.1.2.2.2.2 X.1.2.2.2.2.heap) (hbl : b < X.1.2.2.2.2.heap.size) (hbA : ¬ X.2.2.2.2 b) (hL : L ≤ 2560) {h g : Nat → Nat} {ho : Nat} {i : Nat} (hi : 5 * i + 5 ≤ L) {S Z Y : Nat → Nat → Int} {f : Nat → Int64} (hI : Inv2 S) {c n : Nat} (hc : c + 200 ≤ 601024) (hn : n + 1100 ≤ 7293034) (kk : (∀ (S' Z' Y' : Nat → Nat → Int) (f' : Nat → Int64), Inv2 S' → V X (cw k h S' Z' ++ (mw k g S' Y' ++ [(ho, oE k f')])) (c + 200) (n + 1100) 1191 [(4, VI ((5 * i : Nat) : Int)), (3, .ref ho), (2, .ref (g 0)), (1, .ref (h 0)), (0, .ref b)] [])) : V X (cw k h S Z ++ (mw k g S Y ++ [(ho, oE k f)])) c n 1177 [(4, VI ((5 * i : Nat) : Int)), (3, .ref ho), (2, .ref (g 0)), (1, .ref (h 0)), (0, .ref b)] [] := by
  have r1 := xv_R xs (5 * i + 1)
  have r2 := xv_R xs (5 * i + 2)
  have r3 := xv_R xs (5 * i + 3)
  have r4 := xv_R xs (5 * i + 4)
  refine v_aload_n F 3 (q := 1178) dL_law_1177 rfl rfl rfl ?_
  refine v_callVl F (kX5_digest hst (k := k) (h := h) (S := S) (Z := Z) hI.1) rfl gL_law_X5_digest rfl hdX5_digest ⟨Nat.le_of_ble_eq_true rfl, Nat.le_of_ble_eq_true rfl⟩ 0 cw_at0 rfl rfl rfl (Nat.le_of_ble_eq_true rfl) ⟨by show c + 78 ≤ 601024; omega, by show n + 468 ≤ 7293034; omega⟩ (q := 1181) dL_law_1178 rfl ?_
  rintro a5 _ ⟨rfl, rfl⟩
  refine v_aload_n F 2 (q := 1182) dL_law_1181 rfl rfl rfl ?_
  refine v_swap3 ?_
  refine v_callVl F (kX6_digest hst (k := k) (g := g) (S := S) (Y := Y) hI.1) rfl gL_law_X6_digest rfl hdX6_digest ⟨Nat.le_of_ble_eq_true rfl, Nat.le_of_ble_eq_true rfl⟩ 0 mw_at0 rfl rfl rfl (Nat.le_of_ble_eq_true rfl) ⟨by show c + 78 + 79 ≤ 601024; omega, by show n + 468 + 499 ≤ 7293034; omega⟩ (q := 1185) dL_law_1182 rfl ?_
  rintro a6 _ ⟨Y9, hy9, rfl, rfl⟩
  refine v_swap3 ?_
  refine v_lcmp0 F (rfl) (q := 1186) dL_law_1185 rfl ?_
  refine v_if_eq F (tgt := 1191) (q := 1189) R32_0 dL_law_1186 rfl rfl (fun _ => ?_) (fun h9 => absurd rfl h9)
  refine v_widen (c' := c + 200) (n' := n + 1100) (by show c + 78 + 79 ≤ c + 200; omega) (by show n + 468 + 499 ≤ n + 1100; omega) ?_
  exact kk S Z Y9 f hI
