/-! THE LAW: a call of each kind -/
def lawInv (cI cL : ClassId) (x0 y0 mm : Nat) (ws : va_W) : Prop := ∃ (a b : Nat → Nat) (B : dB) (S : dS) (V : dV) (O : dO) (G : dG) (F : dF) (T : dT) (B0 : Int32) (B1 : Int32) (B2 : Int64) (B3 : (Nat → Int64)) (B4 : (Nat → Int64)) (B5 : (Nat → Int32)) (B6 : (Nat → Int32)) (K0 : (Nat → Int32)) (K1 : (Nat → Int32)) (K2 : (Nat → Int32)) (K3 : (Nat → Int32)) (K4 : (Nat → Int64)) (E0 : (Nat → Int32)) (M0 : Int32) (M1 : (Nat → Int32)) (M2 : (Nat → Int32)) (M3 : (Nat → Int32)) (M4 : (Nat → Int32)) (M5 : (Nat → Int64)) (M6 : Int64) (M7 : Int32) (U0 : Int32) (U1 : Int32) (U2 : Int32) (U3 : Int32) (U4 : Int32) (U5 : Int32) (G0 : Int32) (G1 : (Nat → Int64)) (G2 : (Nat → Int32)) (G3 : (Nat → Int64)) (G4 : (Nat → Int32)) (N0 : (Nat → Int64)) (N1 : (Nat → Int32)) (N2 : (Nat → Int64)) (N3 : (Nat → Int32)) (nt k sn vn on g m : Nat) (rs rv ro : Nat → Nat), a 0 = x0 ∧ b 0 = y0 ∧ m ≤ mm ∧ zRel B S V O G T B0 B1 B2 B3 B4 B5 K0 K1 K2 K3 K4 E0 U1 U2 U3 U4 U5 G0 G1 G2 G3 G4 nt k sn vn on g m rs rv ro ∧ ws = wD cI cL a B S V O G F T ++ wM cI cL b B0 B1 B2 B3 B4 B5 B6 K0 K1 K2 K3 K4 E0 M0 M1 M2 M3 M4 M5 M6 M7 U0 U1 U2 U3 U4 U5 G0 G1 G2 G3 G4 N0 N1 N2 N3
section ZLW
variable {p : Program} {l : Launch} {e : Env} {s : State} {mi : MethodId} {args : Array Value} {below : List Frame} {meth : Method} {c : Code} {D : va_G} {cI cL : ClassId} {A : Nat → Prop} {Q : State → Prop} {nc ns : Nat} {bs Ls : Nat} {xs : Nat → Int32} {x3 : Int32} {x0 y0 mm : Nat} {ws : va_W}
theorem dsa0 {q : Bool} {a : Nat → Nat} : dsa q a 0 = a 0 := by cases q <;> rfl
set_option maxHeartbeats 2000000 in
theorem lawc_0 (C : zw_C p s mi args c D (zw_tys cI cL) A RL cL_law 4) (X : zw_X s A bs Ls xs) (hR : nc ≤ room_1.cells ∧ ns ≤ room_1.slots) (hv : ∀ j : Nat, j < 7 → vp_in (x3 + nI j) Ls) (hmm : mm + 2000 ≤ 2000000) (hI : lawInv cI cL x0 y0 mm ws) (K : ∀ ws2 : va_W, lawInv cI cL x0 y0 (mm + 2000) ws2 → zw_W p l e room_1 s mi args below meth c D A 4 Q nc ns ws2 792 [(0, .ref bs), (1, .ref x0), (2, .ref y0), (3, .int x3)] []) : zw_W p l e room_1 s mi args below meth c D A 4 Q nc ns ws 116 [(0, .ref bs), (1, .ref x0), (2, .ref y0), (3, .int x3)] [] := by
  obtain ⟨a, b, B, S, V, O, G, F, T, B0, B1, B2, B3, B4, B5, B6, K0, K1, K2, K3, K4, E0, M0, M1, M2, M3, M4, M5, M6, M7, U0, U1, U2, U3, U4, U5, G0, G1, G2, G3, G4, N0, N1, N2, N3, nt, k, sn, vn, on, g, m, rs, rv, ro, rfl, rfl, hle, h, rfl⟩ := hI
  have hm : m + 2000 ≤ 2000000 := by omega
  obtain ⟨q, hq⟩ : ∃ q, fX3_thing B ((((xs (x3 + 1).toNatClampNeg).toInt64 <<< ((32 : Int32).toInt64 &&& 63)) ||| ((xs (x3 + 2).toNatClampNeg).toInt64 &&& 4294967295))) ((((xs (x3 + 3).toNatClampNeg).toInt64 <<< ((32 : Int32).toInt64 &&& 63)) ||| ((xs (x3 + 4).toNatClampNeg).toInt64 &&& 4294967295))) ((((xs (x3 + 5).toNatClampNeg).toInt64 <<< ((32 : Int32).toInt64 &&& 63)) ||| ((xs (x3 + 6).toNatClampNeg).toInt64 &&& 4294967295))) = q := ⟨_, rfl⟩
  obtain ⟨r, hr⟩ : ∃ r, fX4_thing B0 B1 B3 B5 ((((xs (x3 + 1).toNatClampNeg).toInt64 <<< ((32 : Int32).toInt64 &&& 63)) ||| ((xs (x3 + 2).toNatClampNeg).toInt64 &&& 4294967295))) ((((xs (x3 + 3).toNatClampNeg).toInt64 <<< ((32 : Int32).toInt64 &&& 63)) ||| ((xs (x3 + 4).toNatClampNeg).toInt64 &&& 4294967295))) ((((xs (x3 + 5).toNatClampNeg).toInt64 <<< ((32 : Int32).toInt64 &&& 63)) ||| ((xs (x3 + 6).toNatClampNeg).toInt64 &&& 4294967295))) = r := ⟨_, rfl⟩
  obtain ⟨he, nt2, k2, sn2, vn2, on2, g2, m2, rs2, rv2, ro2, hm2, hz⟩ := eqn_thing h hq hr
  refine zw_aload_n C dL_law_116 1 rfl rfl ?_
  refine zw_aload_n C dL_law_117 0 rfl rfl ?_
  refine zw_iload_n C dL_law_118 3 rfl rfl ?_
  refine zw_iconst (v := 1) C dL_law_119 (by decide) ?_
  refine zw_iadd C dL_law_120 ?_
  refine zw_sld C X (hv 1 (by decide)) dL_law_121 ?_
  refine zw_i2l C dL_law_122 ?_
  refine zw_bipush (v := 32) C dL_law_123 (by decide) ?_
  refine zw_lshl C dL_law_125 ?_
  refine zw_aload_n C dL_law_126 0 rfl rfl ?_
  refine zw_iload_n C dL_law_127 3 rfl rfl ?_
  refine zw_iconst (v := 2) C dL_law_128 (by decide) ?_
  refine zw_iadd C dL_law_129 ?_
  refine zw_sld C X (hv 2 (by decide)) dL_law_130 ?_
  refine zw_i2l C dL_law_131 ?_
  refine zw_ldc2 C lkcL_13 dL_law_132 ?_
  refine zw_land C dL_law_135 ?_
  refine zw_lor C dL_law_136 ?_
  refine zw_aload_n C dL_law_137 0 rfl rfl ?_
  refine zw_iload_n C dL_law_138 3 rfl rfl ?_
  refine zw_iconst (v := 3) C dL_law_139 (by decide) ?_
  refine zw_iadd C dL_law_140 ?_
  refine zw_sld C X (hv 3 (by decide)) dL_law_141 ?_
  refine zw_i2l C dL_law_142 ?_
  refine zw_bipush (v := 32) C dL_law_143 (by decide) ?_
  refine zw_lshl C dL_law_145 ?_
  refine zw_aload_n C dL_law_146 0 rfl rfl ?_
  refine zw_iload_n C dL_law_147 3 rfl rfl ?_
  refine zw_iconst (v := 4) C dL_law_148 (by decide) ?_
  refine zw_iadd C dL_law_149 ?_
  refine zw_sld C X (hv 4 (by decide)) dL_law_150 ?_
  refine zw_i2l C dL_law_151 ?_
  refine zw_ldc2 C lkcL_13 dL_law_152 ?_
  refine zw_land C dL_law_155 ?_
  refine zw_lor C dL_law_156 ?_
  refine zw_aload_n C dL_law_157 0 rfl rfl ?_
  refine zw_iload_n C dL_law_158 3 rfl rfl ?_
  refine zw_iconst (v := 5) C dL_law_159 (by decide) ?_
  refine zw_iadd C dL_law_160 ?_
  refine zw_sld C X (hv 5 (by decide)) dL_law_161 ?_
  refine zw_i2l C dL_law_162 ?_
  refine zw_bipush (v := 32) C dL_law_163 (by decide) ?_
  refine zw_lshl C dL_law_165 ?_
  refine zw_aload_n C dL_law_166 0 rfl rfl ?_
  refine zw_iload_n C dL_law_167 3 rfl rfl ?_
  refine zw_bipush (v := 6) C dL_law_168 (by decide) ?_
  refine zw_iadd C dL_law_170 ?_
  refine zw_sld C X (hv 6 (by decide)) dL_law_171 ?_
  refine zw_i2l C dL_law_172 ?_
  refine zw_ldc2 C lkcL_13 dL_law_173 ?_
  refine zw_land C dL_law_176 ?_
  refine zw_lor C dL_law_177 ?_
  refine zw_fcalli C 31 24 rfl rfl nd31 kvL_15 (kX3_thing h.1.1 hq) ⟨rfl, rfl, ⟨by decide, by decide⟩, hR.1, hR.2⟩ FX3 0 rfl rfl rfl (Nat.le_of_ble_eq_true rfl) dL_law_178 ?_
  refine zw_aload_n C dL_law_181 2 rfl rfl ?_
  refine zw_aload_n C dL_law_182 0 rfl rfl ?_
  refine zw_iload_n C dL_law_183 3 rfl rfl ?_
  refine zw_iconst (v := 1) C dL_law_184 (by decide) ?_
  refine zw_iadd C dL_law_185 ?_
  refine zw_sld C X (hv 1 (by decide)) dL_law_186 ?_
  refine zw_i2l C dL_law_187 ?_
  refine zw_bipush (v := 32) C dL_law_188 (by decide) ?_
  refine zw_lshl C dL_law_190 ?_
  refine zw_aload_n C dL_law_191 0 rfl rfl ?_
  refine zw_iload_n C dL_law_192 3 rfl rfl ?_
  refine zw_iconst (v := 2) C dL_law_193 (by decide) ?_
  refine zw_iadd C dL_law_194 ?_
  refine zw_sld C X (hv 2 (by decide)) dL_law_195 ?_
  refine zw_i2l C dL_law_196 ?_
  refine zw_ldc2 C lkcL_13 dL_law_197 ?_
  refine zw_land C dL_law_200 ?_
  refine zw_lor C dL_law_201 ?_
  refine zw_aload_n C dL_law_202 0 rfl rfl ?_
  refine zw_iload_n C dL_law_203 3 rfl rfl ?_
  refine zw_iconst (v := 3) C dL_law_204 (by decide) ?_
  refine zw_iadd C dL_law_205 ?_
  refine zw_sld C X (hv 3 (by decide)) dL_law_206 ?_
  refine zw_i2l C dL_law_207 ?_
  refine zw_bipush (v := 32) C dL_law_208 (by decide) ?_
  refine zw_lshl C dL_law_210 ?_
  refine zw_aload_n C dL_law_211 0 rfl rfl ?_
  refine zw_iload_n C dL_law_212 3 rfl rfl ?_
  refine zw_iconst (v := 4) C dL_law_213 (by decide) ?_
  refine zw_iadd C dL_law_214 ?_
  refine zw_sld C X (hv 4 (by decide)) dL_law_215 ?_
  refine zw_i2l C dL_law_216 ?_
  refine zw_ldc2 C lkcL_13 dL_law_217 ?_
  refine zw_land C dL_law_220 ?_
  refine zw_lor C dL_law_221 ?_
  refine zw_aload_n C dL_law_222 0 rfl rfl ?_
  refine zw_iload_n C dL_law_223 3 rfl rfl ?_
  refine zw_iconst (v := 5) C dL_law_224 (by decide) ?_
  refine zw_iadd C dL_law_225 ?_
  refine zw_sld C X (hv 5 (by decide)) dL_law_226 ?_
  refine zw_i2l C dL_law_227 ?_
  refine zw_bipush (v := 32) C dL_law_228 (by decide) ?_
  refine zw_lshl C dL_law_230 ?_
  refine zw_aload_n C dL_law_231 0 rfl rfl ?_
  refine zw_iload_n C dL_law_232 3 rfl rfl ?_
  refine zw_bipush (v := 6) C dL_law_233 (by decide) ?_
  refine zw_iadd C dL_law_235 ?_
  refine zw_sld C X (hv 6 (by decide)) dL_law_236 ?_
  refine zw_i2l C dL_law_237 ?_
  refine zw_ldc2 C lkcL_13 dL_law_238 ?_
  refine zw_land C dL_law_241 ?_
  refine zw_lor C dL_law_242 ?_
  refine zw_fcalli C 24 31 rfl rfl nd24 kvL_19 (kX4_thing h.dmB hr) ⟨rfl, rfl, ⟨by decide, by decide⟩, hR.1, hR.2⟩ FX4 0 rfl rfl rfl (Nat.le_of_ble_eq_true rfl) dL_law_243 ?_
  refine zw_icmp_eq C 792 dL_law_246 (by decide) (fun _ => ?_) (fun hne => absurd he hne)
  exact K _ ⟨a, b, q.2, S, V, O, G, F, T, r.2.1, r.2.2.1, B2, r.2.2.2.1, B4, r.2.2.2.2, B6, K0, K1, K2, K3, K4, E0, M0, M1, M2, M3, M4, M5, M6, M7, U0, U1, U2, U3, U4, U5, G0, G1, G2, G3, G4, N0, N1, N2, N3, nt2, k2, sn2, vn2, on2, g2, m2, rs2, rv2, ro2, rfl, rfl, by omega, hz, rfl⟩
set_option maxHeartbeats 2000000 in
theorem lawc_1 (C : zw_C p s mi args c D (zw_tys cI cL) A RL cL_law 4) (X : zw_X s A bs Ls xs) (hR : nc ≤ room_1.cells ∧ ns ≤ room_1.slots) (hv : ∀ j : Nat, j < 7 → vp_in (x3 + nI j) Ls) (hmm : mm + 2000 ≤ 2000000) (hI : lawInv cI cL x0 y0 mm ws) (K : ∀ ws2 : va_W, lawInv cI cL x0 y0 (mm + 2000) ws2 → zw_W p l e room_1 s mi args below meth c D A 4 Q nc ns ws2 792 [(0, .ref bs), (1, .ref x0), (2, .ref y0), (3, .int x3)] []) : zw_W p l e room_1 s mi args below meth c D A 4 Q nc ns ws 251 [(0, .ref bs), (1, .ref x0), (2, .ref y0), (3, .int x3)] [] := by
  obtain ⟨a, b, B, S, V, O, G, F, T, B0, B1, B2, B3, B4, B5, B6, K0, K1, K2, K3, K4, E0, M0, M1, M2, M3, M4, M5, M6, M7, U0, U1, U2, U3, U4, U5, G0, G1, G2, G3, G4, N0, N1, N2, N3, nt, k, sn, vn, on, g, m, rs, rv, ro, rfl, rfl, hle, h, rfl⟩ := hI
  have hm : m + 2000 ≤ 2000000 := by omega
  obtain ⟨q, hq⟩ : ∃ q, fX3_change B (xs (x3 + 1).toNatClampNeg) (xs (x3 + 2).toNatClampNeg) ((((xs (x3 + 3).toNatClampNeg).toInt64 <<< ((32 : Int32).toInt64 &&& 63)) ||| ((xs (x3 + 4).toNatClampNeg).toInt64 &&& 4294967295))) = q := ⟨_, rfl⟩
  obtain ⟨r, hr⟩ : ∃ r, fX4_change B0 B3 (xs (x3 + 1).toNatClampNeg) (xs (x3 + 2).toNatClampNeg) ((((xs (x3 + 3).toNatClampNeg).toInt64 <<< ((32 : Int32).toInt64 &&& 63)) ||| ((xs (x3 + 4).toNatClampNeg).toInt64 &&& 4294967295))) = r := ⟨_, rfl⟩
  obtain ⟨he, nt2, k2, sn2, vn2, on2, g2, m2, rs2, rv2, ro2, hm2, hz⟩ := eqn_change h hq hr
  refine zw_aload_n C dL_law_251 1 rfl rfl ?_
  refine zw_aload_n C dL_law_252 0 rfl rfl ?_
  refine zw_iload_n C dL_law_253 3 rfl rfl ?_
  refine zw_iconst (v := 1) C dL_law_254 (by decide) ?_
  refine zw_iadd C dL_law_255 ?_
  refine zw_sld C X (hv 1 (by decide)) dL_law_256 ?_
  refine zw_aload_n C dL_law_257 0 rfl rfl ?_
  refine zw_iload_n C dL_law_258 3 rfl rfl ?_
  refine zw_iconst (v := 2) C dL_law_259 (by decide) ?_
  refine zw_iadd C dL_law_260 ?_
  refine zw_sld C X (hv 2 (by decide)) dL_law_261 ?_
  refine zw_aload_n C dL_law_262 0 rfl rfl ?_
  refine zw_iload_n C dL_law_263 3 rfl rfl ?_
  refine zw_iconst (v := 3) C dL_law_264 (by decide) ?_
  refine zw_iadd C dL_law_265 ?_
  refine zw_sld C X (hv 3 (by decide)) dL_law_266 ?_
  refine zw_i2l C dL_law_267 ?_
  refine zw_bipush (v := 32) C dL_law_268 (by decide) ?_
  refine zw_lshl C dL_law_270 ?_
  refine zw_aload_n C dL_law_271 0 rfl rfl ?_
  refine zw_iload_n C dL_law_272 3 rfl rfl ?_
  refine zw_iconst (v := 4) C dL_law_273 (by decide) ?_
  refine zw_iadd C dL_law_274 ?_
  refine zw_sld C X (hv 4 (by decide)) dL_law_275 ?_
  refine zw_i2l C dL_law_276 ?_
  refine zw_ldc2 C lkcL_13 dL_law_277 ?_
  refine zw_land C dL_law_280 ?_
  refine zw_lor C dL_law_281 ?_
  refine zw_fcalli C 31 24 rfl rfl nd31 kvL_20 (kX3_change h.1.1 hq) ⟨rfl, rfl, ⟨by decide, by decide⟩, hR.1, hR.2⟩ FX3 0 rfl rfl rfl (Nat.le_of_ble_eq_true rfl) dL_law_282 ?_
  refine zw_aload_n C dL_law_285 2 rfl rfl ?_
  refine zw_aload_n C dL_law_286 0 rfl rfl ?_
  refine zw_iload_n C dL_law_287 3 rfl rfl ?_
  refine zw_iconst (v := 1) C dL_law_288 (by decide) ?_
  refine zw_iadd C dL_law_289 ?_
  refine zw_sld C X (hv 1 (by decide)) dL_law_290 ?_
  refine zw_aload_n C dL_law_291 0 rfl rfl ?_
  refine zw_iload_n C dL_law_292 3 rfl rfl ?_
  refine zw_iconst (v := 2) C dL_law_293 (by decide) ?_
  refine zw_iadd C dL_law_294 ?_
  refine zw_sld C X (hv 2 (by decide)) dL_law_295 ?_
  refine zw_aload_n C dL_law_296 0 rfl rfl ?_
  refine zw_iload_n C dL_law_297 3 rfl rfl ?_
  refine zw_iconst (v := 3) C dL_law_298 (by decide) ?_
  refine zw_iadd C dL_law_299 ?_
  refine zw_sld C X (hv 3 (by decide)) dL_law_300 ?_
  refine zw_i2l C dL_law_301 ?_
  refine zw_bipush (v := 32) C dL_law_302 (by decide) ?_
  refine zw_lshl C dL_law_304 ?_
  refine zw_aload_n C dL_law_305 0 rfl rfl ?_
  refine zw_iload_n C dL_law_306 3 rfl rfl ?_
  refine zw_iconst (v := 4) C dL_law_307 (by decide) ?_
  refine zw_iadd C dL_law_308 ?_
  refine zw_sld C X (hv 4 (by decide)) dL_law_309 ?_
  refine zw_i2l C dL_law_310 ?_
  refine zw_ldc2 C lkcL_13 dL_law_311 ?_
  refine zw_land C dL_law_314 ?_
  refine zw_lor C dL_law_315 ?_
  refine zw_fcalli C 24 31 rfl rfl nd24 kvL_24 (kX4_change h.dmB hr) ⟨rfl, rfl, ⟨by decide, by decide⟩, hR.1, hR.2⟩ FX4 0 rfl rfl rfl (Nat.le_of_ble_eq_true rfl) dL_law_316 ?_
  refine zw_icmp_eq C 792 dL_law_319 (by decide) (fun _ => ?_) (fun hne => absurd he hne)
  exact K _ ⟨a, b, q.2, S, V, O, G, F, T, B0, B1, B2, r.2, B4, B5, B6, K0, K1, K2, K3, K4, E0, M0, M1, M2, M3, M4, M5, M6, M7, U0, U1, U2, U3, U4, U5, G0, G1, G2, G3, G4, N0, N1, N2, N3, nt2, k2, sn2, vn2, on2, g2, m2, rs2, rv2, ro2, rfl, rfl, by omega, hz, rfl⟩
set_option maxHeartbeats 2000000 in
theorem lawc_2 (C : zw_C p s mi args c D (zw_tys cI cL) A RL cL_law 4) (X : zw_X s A bs Ls xs) (hR : nc ≤ room_1.cells ∧ ns ≤ room_1.slots) (hv : ∀ j : Nat, j < 7 → vp_in (x3 + nI j) Ls) (hmm : mm + 2000 ≤ 2000000) (hI : lawInv cI cL x0 y0 mm ws) (K : ∀ ws2 : va_W, lawInv cI cL x0 y0 (mm + 2000) ws2 → zw_W p l e room_1 s mi args below meth c D A 4 Q nc ns ws2 792 [(0, .ref bs), (1, .ref x0), (2, .ref y0), (3, .int x3)] []) : zw_W p l e room_1 s mi args below meth c D A 4 Q nc ns ws 324 [(0, .ref bs), (1, .ref x0), (2, .ref y0), (3, .int x3)] [] := by
  obtain ⟨a, b, B, S, V, O, G, F, T, B0, B1, B2, B3, B4, B5, B6, K0, K1, K2, K3, K4, E0, M0, M1, M2, M3, M4, M5, M6, M7, U0, U1, U2, U3, U4, U5, G0, G1, G2, G3, G4, N0, N1, N2, N3, nt, k, sn, vn, on, g, m, rs, rv, ro, rfl, rfl, hle, h, rfl⟩ := hI
  have hm : m + 2000 ≤ 2000000 := by omega
  obtain ⟨q, hq⟩ : ∃ q, fX3_get B (xs (x3 + 1).toNatClampNeg) (xs (x3 + 2).toNatClampNeg) = q := ⟨_, rfl⟩
  obtain ⟨r, hr⟩ : ∃ r, fX4_get B0 B3 (xs (x3 + 1).toNatClampNeg) (xs (x3 + 2).toNatClampNeg) = r := ⟨_, rfl⟩
  obtain ⟨he, nt2, k2, sn2, vn2, on2, g2, m2, rs2, rv2, ro2, hm2, hz⟩ := eqn_get h hq hr
  refine zw_aload_n C dL_law_324 1 rfl rfl ?_
  refine zw_aload_n C dL_law_325 0 rfl rfl ?_
  refine zw_iload_n C dL_law_326 3 rfl rfl ?_
  refine zw_iconst (v := 1) C dL_law_327 (by decide) ?_
  refine zw_iadd C dL_law_328 ?_
  refine zw_sld C X (hv 1 (by decide)) dL_law_329 ?_
  refine zw_aload_n C dL_law_330 0 rfl rfl ?_
  refine zw_iload_n C dL_law_331 3 rfl rfl ?_
  refine zw_iconst (v := 2) C dL_law_332 (by decide) ?_
  refine zw_iadd C dL_law_333 ?_
  refine zw_sld C X (hv 2 (by decide)) dL_law_334 ?_
  refine zw_fcalll C 31 24 rfl rfl nd31 kvL_25 (kX3_get h.1.1 hq) ⟨rfl, rfl, ⟨by decide, by decide⟩, hR.1, hR.2⟩ FX3 0 rfl rfl rfl (Nat.le_of_ble_eq_true rfl) dL_law_335 ?_
  refine zw_aload_n C dL_law_338 2 rfl rfl ?_
  refine zw_aload_n C dL_law_339 0 rfl rfl ?_
  refine zw_iload_n C dL_law_340 3 rfl rfl ?_
  refine zw_iconst (v := 1) C dL_law_341 (by decide) ?_
  refine zw_iadd C dL_law_342 ?_
  refine zw_sld C X (hv 1 (by decide)) dL_law_343 ?_
  refine zw_aload_n C dL_law_344 0 rfl rfl ?_
  refine zw_iload_n C dL_law_345 3 rfl rfl ?_
  refine zw_iconst (v := 2) C dL_law_346 (by decide) ?_
  refine zw_iadd C dL_law_347 ?_
  refine zw_sld C X (hv 2 (by decide)) dL_law_348 ?_
  refine zw_fcalll C 24 31 rfl rfl nd24 kvL_29 (kX4_get h.dmB hr) ⟨rfl, rfl, ⟨by decide, by decide⟩, hR.1, hR.2⟩ FX4 0 rfl rfl rfl (Nat.le_of_ble_eq_true rfl) dL_law_349 ?_
  refine zw_lcmp C dL_law_352 ?_
  refine zw_if_eq C 792 dL_law_353 (by decide) (fun _ => ?_) (fun hne => absurd ((lg_cmp_eq _ _).mpr he) hne)
  exact K _ ⟨a, b, B, S, V, O, G, F, T, B0, B1, B2, B3, B4, B5, B6, K0, K1, K2, K3, K4, E0, M0, M1, M2, M3, M4, M5, M6, M7, U0, U1, U2, U3, U4, U5, G0, G1, G2, G3, G4, N0, N1, N2, N3, nt2, k2, sn2, vn2, on2, g2, m2, rs2, rv2, ro2, rfl, rfl, by omega, hz, rfl⟩
set_option maxHeartbeats 2000000 in
theorem lawc_3 (C : zw_C p s mi args c D (zw_tys cI cL) A RL cL_law 4) (X : zw_X s A bs Ls xs) (hR : nc ≤ room_1.cells ∧ ns ≤ room_1.slots) (hv : ∀ j : Nat, j < 7 → vp_in (x3 + nI j) Ls) (hmm : mm + 2000 ≤ 2000000) (hI : lawInv cI cL x0 y0 mm ws) (K : ∀ ws2 : va_W, lawInv cI cL x0 y0 (mm + 2000) ws2 → zw_W p l e room_1 s mi args below meth c D A 4 Q nc ns ws2 792 [(0, .ref bs), (1, .ref x0), (2, .ref y0), (3, .int x3)] []) : zw_W p l e room_1 s mi args below meth c D A 4 Q nc ns ws 358 [(0, .ref bs), (1, .ref x0), (2, .ref y0), (3, .int x3)] [] := by
  obtain ⟨a, b, B, S, V, O, G, F, T, B0, B1, B2, B3, B4, B5, B6, K0, K1, K2, K3, K4, E0, M0, M1, M2, M3, M4, M5, M6, M7, U0, U1, U2, U3, U4, U5, G0, G1, G2, G3, G4, N0, N1, N2, N3, nt, k, sn, vn, on, g, m, rs, rv, ro, rfl, rfl, hle, h, rfl⟩ := hI
  have hm : m + 2000 ≤ 2000000 := by omega
  obtain ⟨q, hq⟩ : ∃ q, fX3_item B (xs (x3 + 1).toNatClampNeg) ((((xs (x3 + 2).toNatClampNeg).toInt64 <<< ((32 : Int32).toInt64 &&& 63)) ||| ((xs (x3 + 3).toNatClampNeg).toInt64 &&& 4294967295))) = q := ⟨_, rfl⟩
  obtain ⟨r, hr⟩ : ∃ r, fX4_item B4 (xs (x3 + 1).toNatClampNeg) ((((xs (x3 + 2).toNatClampNeg).toInt64 <<< ((32 : Int32).toInt64 &&& 63)) ||| ((xs (x3 + 3).toNatClampNeg).toInt64 &&& 4294967295))) = r := ⟨_, rfl⟩
  obtain ⟨he, nt2, k2, sn2, vn2, on2, g2, m2, rs2, rv2, ro2, hm2, hz⟩ := eqn_item h hq hr
  refine zw_aload_n C dL_law_358 1 rfl rfl ?_
  refine zw_aload_n C dL_law_359 0 rfl rfl ?_
  refine zw_iload_n C dL_law_360 3 rfl rfl ?_
  refine zw_iconst (v := 1) C dL_law_361 (by decide) ?_
  refine zw_iadd C dL_law_362 ?_
  refine zw_sld C X (hv 1 (by decide)) dL_law_363 ?_
  refine zw_aload_n C dL_law_364 0 rfl rfl ?_
  refine zw_iload_n C dL_law_365 3 rfl rfl ?_
  refine zw_iconst (v := 2) C dL_law_366 (by decide) ?_
  refine zw_iadd C dL_law_367 ?_
  refine zw_sld C X (hv 2 (by decide)) dL_law_368 ?_
  refine zw_i2l C dL_law_369 ?_
  refine zw_bipush (v := 32) C dL_law_370 (by decide) ?_
  refine zw_lshl C dL_law_372 ?_
  refine zw_aload_n C dL_law_373 0 rfl rfl ?_
  refine zw_iload_n C dL_law_374 3 rfl rfl ?_
  refine zw_iconst (v := 3) C dL_law_375 (by decide) ?_
  refine zw_iadd C dL_law_376 ?_
  refine zw_sld C X (hv 3 (by decide)) dL_law_377 ?_
  refine zw_i2l C dL_law_378 ?_
  refine zw_ldc2 C lkcL_13 dL_law_379 ?_
  refine zw_land C dL_law_382 ?_
  refine zw_lor C dL_law_383 ?_
  refine zw_fcalli C 31 24 rfl rfl nd31 kvL_30 (kX3_item  hq) ⟨rfl, rfl, ⟨by decide, by decide⟩, hR.1, hR.2⟩ FX3 0 rfl rfl rfl (Nat.le_of_ble_eq_true rfl) dL_law_384 ?_
  refine zw_aload_n C dL_law_387 2 rfl rfl ?_
  refine zw_aload_n C dL_law_388 0 rfl rfl ?_
  refine zw_iload_n C dL_law_389 3 rfl rfl ?_
  refine zw_iconst (v := 1) C dL_law_390 (by decide) ?_
  refine zw_iadd C dL_law_391 ?_
  refine zw_sld C X (hv 1 (by decide)) dL_law_392 ?_
  refine zw_aload_n C dL_law_393 0 rfl rfl ?_
  refine zw_iload_n C dL_law_394 3 rfl rfl ?_
  refine zw_iconst (v := 2) C dL_law_395 (by decide) ?_
  refine zw_iadd C dL_law_396 ?_
  refine zw_sld C X (hv 2 (by decide)) dL_law_397 ?_
  refine zw_i2l C dL_law_398 ?_
  refine zw_bipush (v := 32) C dL_law_399 (by decide) ?_
  refine zw_lshl C dL_law_401 ?_
  refine zw_aload_n C dL_law_402 0 rfl rfl ?_
  refine zw_iload_n C dL_law_403 3 rfl rfl ?_
  refine zw_iconst (v := 3) C dL_law_404 (by decide) ?_
  refine zw_iadd C dL_law_405 ?_
  refine zw_sld C X (hv 3 (by decide)) dL_law_406 ?_
  refine zw_i2l C dL_law_407 ?_
  refine zw_ldc2 C lkcL_13 dL_law_408 ?_
  refine zw_land C dL_law_411 ?_
  refine zw_lor C dL_law_412 ?_
  refine zw_fcalli C 24 31 rfl rfl nd24 kvL_34 (kX4_item  hr) ⟨rfl, rfl, ⟨by decide, by decide⟩, hR.1, hR.2⟩ FX4 0 rfl rfl rfl (Nat.le_of_ble_eq_true rfl) dL_law_413 ?_
  refine zw_icmp_eq C 792 dL_law_416 (by decide) (fun _ => ?_) (fun hne => absurd he hne)
  exact K _ ⟨a, b, q.2, S, V, O, G, F, T, B0, B1, B2, B3, r.2, B5, B6, K0, K1, K2, K3, K4, E0, M0, M1, M2, M3, M4, M5, M6, M7, U0, U1, U2, U3, U4, U5, G0, G1, G2, G3, G4, N0, N1, N2, N3, nt2, k2, sn2, vn2, on2, g2, m2, rs2, rv2, ro2, rfl, rfl, by omega, hz, rfl⟩
set_option maxHeartbeats 2000000 in
theorem lawc_4 (C : zw_C p s mi args c D (zw_tys cI cL) A RL cL_law 4) (X : zw_X s A bs Ls xs) (hR : nc ≤ room_1.cells ∧ ns ≤ room_1.slots) (hv : ∀ j : Nat, j < 7 → vp_in (x3 + nI j) Ls) (hmm : mm + 2000 ≤ 2000000) (hI : lawInv cI cL x0 y0 mm ws) (K : ∀ ws2 : va_W, lawInv cI cL x0 y0 (mm + 2000) ws2 → zw_W p l e room_1 s mi args below meth c D A 4 Q nc ns ws2 792 [(0, .ref bs), (1, .ref x0), (2, .ref y0), (3, .int x3)] []) : zw_W p l e room_1 s mi args below meth c D A 4 Q nc ns ws 421 [(0, .ref bs), (1, .ref x0), (2, .ref y0), (3, .int x3)] [] := by
  obtain ⟨a, b, B, S, V, O, G, F, T, B0, B1, B2, B3, B4, B5, B6, K0, K1, K2, K3, K4, E0, M0, M1, M2, M3, M4, M5, M6, M7, U0, U1, U2, U3, U4, U5, G0, G1, G2, G3, G4, N0, N1, N2, N3, nt, k, sn, vn, on, g, m, rs, rv, ro, rfl, rfl, hle, h, rfl⟩ := hI
  have hm : m + 2000 ≤ 2000000 := by omega
  obtain ⟨q, hq⟩ : ∃ q, fX3_scale B S V T (xs (x3 + 1).toNatClampNeg) (xs (x3 + 2).toNatClampNeg) (xs (x3 + 3).toNatClampNeg) = q := ⟨_, rfl⟩
  obtain ⟨r, hr⟩ : ∃ r, fX4_scale B0 B3 B4 K0 K1 K2 K3 K4 E0 M0 M1 M2 M3 M4 M5 M6 M7 U0 U1 U2 U3 U4 U5 (xs (x3 + 1).toNatClampNeg) (xs (x3 + 2).toNatClampNeg) (xs (x3 + 3).toNatClampNeg) = r := ⟨_, rfl⟩
  obtain ⟨he, nt2, k2, sn2, vn2, on2, g2, m2, rs2, rv2, ro2, hm2, hz⟩ := eqn_scale h hm hq hr
  refine zw_aload_n C dL_law_421 1 rfl rfl ?_
  refine zw_aload_n C dL_law_422 0 rfl rfl ?_
  refine zw_iload_n C dL_law_423 3 rfl rfl ?_
  refine zw_iconst (v := 1) C dL_law_424 (by decide) ?_
  refine zw_iadd C dL_law_425 ?_
  refine zw_sld C X (hv 1 (by decide)) dL_law_426 ?_
  refine zw_aload_n C dL_law_427 0 rfl rfl ?_
  refine zw_iload_n C dL_law_428 3 rfl rfl ?_
  refine zw_iconst (v := 2) C dL_law_429 (by decide) ?_
  refine zw_iadd C dL_law_430 ?_
  refine zw_sld C X (hv 2 (by decide)) dL_law_431 ?_
  refine zw_aload_n C dL_law_432 0 rfl rfl ?_
  refine zw_iload_n C dL_law_433 3 rfl rfl ?_
  refine zw_iconst (v := 3) C dL_law_434 (by decide) ?_
  refine zw_iadd C dL_law_435 ?_
  refine zw_sld C X (hv 3 (by decide)) dL_law_436 ?_
  refine zw_fcalli C 31 24 rfl rfl nd31 kvL_35 (kX3_scale h.1.1 h.2.1.1 hq) ⟨rfl, rfl, ⟨by decide, by decide⟩, hR.1, hR.2⟩ FX3 0 rfl rfl rfl (Nat.le_of_ble_eq_true rfl) dL_law_437 ?_
  refine zw_aload_n C dL_law_440 2 rfl rfl ?_
  refine zw_aload_n C dL_law_441 0 rfl rfl ?_
  refine zw_iload_n C dL_law_442 3 rfl rfl ?_
  refine zw_iconst (v := 1) C dL_law_443 (by decide) ?_
  refine zw_iadd C dL_law_444 ?_
  refine zw_sld C X (hv 1 (by decide)) dL_law_445 ?_
  refine zw_aload_n C dL_law_446 0 rfl rfl ?_
  refine zw_iload_n C dL_law_447 3 rfl rfl ?_
  refine zw_iconst (v := 2) C dL_law_448 (by decide) ?_
  refine zw_iadd C dL_law_449 ?_
  refine zw_sld C X (hv 2 (by decide)) dL_law_450 ?_
  refine zw_aload_n C dL_law_451 0 rfl rfl ?_
  refine zw_iload_n C dL_law_452 3 rfl rfl ?_
  refine zw_iconst (v := 3) C dL_law_453 (by decide) ?_
  refine zw_iadd C dL_law_454 ?_
  refine zw_sld C X (hv 3 (by decide)) dL_law_455 ?_
  refine zw_fcalli C 24 31 rfl rfl nd24 kvL_39 (kX4_scale h.dmB h.dmK (mJ_all (L := m + 2000) h.2.1.1 h.2.1.2.1 h.1.1.1 hm) ⟨(S.2.2.2.1, V.2.2.2.1, 0, T.2.1, T.2.2.1, 0, 0, 0), rfl, sim_start h.2.2.2.1 h.2.2.1.2.2.2.2.2 h.2.2.1.2.2.1 h.2.2.1.2.1⟩ hr) ⟨rfl, rfl, ⟨by decide, by decide⟩, hR.1, hR.2⟩ FX4 0 rfl rfl rfl (Nat.le_of_ble_eq_true rfl) dL_law_456 ?_
  refine zw_icmp_eq C 792 dL_law_459 (by decide) (fun _ => ?_) (fun hne => absurd he hne)
  exact K _ ⟨a, b, B, q.2.1, (V.1, V.2.1, V.2.2.1, q.2.2.1, V.2.2.2.2), O, G, F, q.2.2.2, B0, B1, B2, B3, B4, B5, B6, r.2.1, r.2.2.1, r.2.2.2.1, r.2.2.2.2.1, r.2.2.2.2.2.1, r.2.2.2.2.2.2.1, r.2.2.2.2.2.2.2.1, r.2.2.2.2.2.2.2.2.1, r.2.2.2.2.2.2.2.2.2.1, r.2.2.2.2.2.2.2.2.2.2.1, r.2.2.2.2.2.2.2.2.2.2.2.1, r.2.2.2.2.2.2.2.2.2.2.2.2.1, r.2.2.2.2.2.2.2.2.2.2.2.2.2.1, r.2.2.2.2.2.2.2.2.2.2.2.2.2.2.1, r.2.2.2.2.2.2.2.2.2.2.2.2.2.2.2.1, r.2.2.2.2.2.2.2.2.2.2.2.2.2.2.2.2.2.2.1, r.2.2.2.2.2.2.2.2.2.2.2.2.2.2.2.2.1, r.2.2.2.2.2.2.2.2.2.2.2.2.2.2.2.2.2.1, r.2.2.2.2.2.2.2.2.2.2.2.2.2.2.2.2.2.2.2.1, r.2.2.2.2.2.2.2.2.2.2.2.2.2.2.2.2.2.2.2.2, G0, G1, G2, G3, G4, N0, N1, N2, N3, nt2, k2, sn2, vn2, on2, g2, m2, rs2, rv2, ro2, rfl, rfl, by omega, hz, rfl⟩
set_option maxHeartbeats 2000000 in
theorem lawc_5 (C : zw_C p s mi args c D (zw_tys cI cL) A RL cL_law 4) (X : zw_X s A bs Ls xs) (hR : nc ≤ room_1.cells ∧ ns ≤ room_1.slots) (hv : ∀ j : Nat, j < 7 → vp_in (x3 + nI j) Ls) (hmm : mm + 2000 ≤ 2000000) (hI : lawInv cI cL x0 y0 mm ws) (K : ∀ ws2 : va_W, lawInv cI cL x0 y0 (mm + 2000) ws2 → zw_W p l e room_1 s mi args below meth c D A 4 Q nc ns ws2 792 [(0, .ref bs), (1, .ref x0), (2, .ref y0), (3, .int x3)] []) : zw_W p l e room_1 s mi args below meth c D A 4 Q nc ns ws 464 [(0, .ref bs), (1, .ref x0), (2, .ref y0), (3, .int x3)] [] := by
  obtain ⟨a, b, B, S, V, O, G, F, T, B0, B1, B2, B3, B4, B5, B6, K0, K1, K2, K3, K4, E0, M0, M1, M2, M3, M4, M5, M6, M7, U0, U1, U2, U3, U4, U5, G0, G1, G2, G3, G4, N0, N1, N2, N3, nt, k, sn, vn, on, g, m, rs, rv, ro, rfl, rfl, hle, h, rfl⟩ := hI
  have hm : m + 2000 ≤ 2000000 := by omega
  obtain ⟨q, hq⟩ : ∃ q, fX3_sieve S V (xs (x3 + 1).toNatClampNeg) (xs (x3 + 2).toNatClampNeg) (xs (x3 + 3).toNatClampNeg) = q := ⟨_, rfl⟩
  obtain ⟨r, hr⟩ : ∃ r, fX4_sieve K0 K1 K2 K3 K4 E0 (xs (x3 + 1).toNatClampNeg) (xs (x3 + 2).toNatClampNeg) (xs (x3 + 3).toNatClampNeg) = r := ⟨_, rfl⟩
  obtain ⟨he, nt2, k2, sn2, vn2, on2, g2, m2, rs2, rv2, ro2, hm2, hz⟩ := eqn_sieve h hq hr
  refine zw_aload_n C dL_law_464 1 rfl rfl ?_
  refine zw_aload_n C dL_law_465 0 rfl rfl ?_
  refine zw_iload_n C dL_law_466 3 rfl rfl ?_
  refine zw_iconst (v := 1) C dL_law_467 (by decide) ?_
  refine zw_iadd C dL_law_468 ?_
  refine zw_sld C X (hv 1 (by decide)) dL_law_469 ?_
  refine zw_aload_n C dL_law_470 0 rfl rfl ?_
  refine zw_iload_n C dL_law_471 3 rfl rfl ?_
  refine zw_iconst (v := 2) C dL_law_472 (by decide) ?_
  refine zw_iadd C dL_law_473 ?_
  refine zw_sld C X (hv 2 (by decide)) dL_law_474 ?_
  refine zw_aload_n C dL_law_475 0 rfl rfl ?_
  refine zw_iload_n C dL_law_476 3 rfl rfl ?_
  refine zw_iconst (v := 3) C dL_law_477 (by decide) ?_
  refine zw_iadd C dL_law_478 ?_
  refine zw_sld C X (hv 3 (by decide)) dL_law_479 ?_
  refine zw_fcalli C 31 24 rfl rfl nd31 kvL_40 (kX3_sieve h.1.1 h.2.1.1 hq) ⟨rfl, rfl, ⟨by decide, by decide⟩, hR.1, hR.2⟩ FX3 0 rfl rfl rfl (Nat.le_of_ble_eq_true rfl) dL_law_480 ?_
  refine zw_aload_n C dL_law_483 2 rfl rfl ?_
  refine zw_aload_n C dL_law_484 0 rfl rfl ?_
  refine zw_iload_n C dL_law_485 3 rfl rfl ?_
  refine zw_iconst (v := 1) C dL_law_486 (by decide) ?_
  refine zw_iadd C dL_law_487 ?_
  refine zw_sld C X (hv 1 (by decide)) dL_law_488 ?_
  refine zw_aload_n C dL_law_489 0 rfl rfl ?_
  refine zw_iload_n C dL_law_490 3 rfl rfl ?_
  refine zw_iconst (v := 2) C dL_law_491 (by decide) ?_
  refine zw_iadd C dL_law_492 ?_
  refine zw_sld C X (hv 2 (by decide)) dL_law_493 ?_
  refine zw_aload_n C dL_law_494 0 rfl rfl ?_
  refine zw_iload_n C dL_law_495 3 rfl rfl ?_
  refine zw_iconst (v := 3) C dL_law_496 (by decide) ?_
  refine zw_iadd C dL_law_497 ?_
  refine zw_sld C X (hv 3 (by decide)) dL_law_498 ?_
  refine zw_fcalli C 24 31 rfl rfl nd24 kvL_43 (kX4_sieve h.dmK hr) ⟨rfl, rfl, ⟨by decide, by decide⟩, hR.1, hR.2⟩ FX4 0 rfl rfl rfl (Nat.le_of_ble_eq_true rfl) dL_law_499 ?_
  refine zw_icmp_eq C 792 dL_law_502 (by decide) (fun _ => ?_) (fun hne => absurd he hne)
  exact K _ ⟨a, b, B, S, q.2, O, G, F, T, B0, B1, B2, B3, B4, B5, B6, r.2.1, r.2.2.1, r.2.2.2.1, r.2.2.2.2.1, r.2.2.2.2.2.1, r.2.2.2.2.2.2, M0, M1, M2, M3, M4, M5, M6, M7, U0, U1, U2, U3, U4, U5, G0, G1, G2, G3, G4, N0, N1, N2, N3, nt2, k2, sn2, vn2, on2, g2, m2, rs2, rv2, ro2, rfl, rfl, by omega, hz, rfl⟩
set_option maxHeartbeats 2000000 in
theorem lawc_6 (C : zw_C p s mi args c D (zw_tys cI cL) A RL cL_law 4) (X : zw_X s A bs Ls xs) (hR : nc ≤ room_1.cells ∧ ns ≤ room_1.slots) (hv : ∀ j : Nat, j < 7 → vp_in (x3 + nI j) Ls) (hmm : mm + 2000 ≤ 2000000) (hI : lawInv cI cL x0 y0 mm ws) (K : ∀ ws2 : va_W, lawInv cI cL x0 y0 (mm + 2000) ws2 → zw_W p l e room_1 s mi args below meth c D A 4 Q nc ns ws2 792 [(0, .ref bs), (1, .ref x0), (2, .ref y0), (3, .int x3)] []) : zw_W p l e room_1 s mi args below meth c D A 4 Q nc ns ws 507 [(0, .ref bs), (1, .ref x0), (2, .ref y0), (3, .int x3)] [] := by
  obtain ⟨a, b, B, S, V, O, G, F, T, B0, B1, B2, B3, B4, B5, B6, K0, K1, K2, K3, K4, E0, M0, M1, M2, M3, M4, M5, M6, M7, U0, U1, U2, U3, U4, U5, G0, G1, G2, G3, G4, N0, N1, N2, N3, nt, k, sn, vn, on, g, m, rs, rv, ro, rfl, rfl, hle, h, rfl⟩ := hI
  have hm : m + 2000 ≤ 2000000 := by omega
  obtain ⟨q, hq⟩ : ∃ q, fX3_order S V O (xs (x3 + 1).toNatClampNeg) (xs (x3 + 2).toNatClampNeg) (xs (x3 + 3).toNatClampNeg) = q := ⟨_, rfl⟩
  obtain ⟨r, hr⟩ : ∃ r, fX4_order K0 K1 K2 K3 K4 E0 (xs (x3 + 1).toNatClampNeg) (xs (x3 + 2).toNatClampNeg) (xs (x3 + 3).toNatClampNeg) = r := ⟨_, rfl⟩
  obtain ⟨he, nt2, k2, sn2, vn2, on2, g2, m2, rs2, rv2, ro2, hm2, hz⟩ := eqn_order h hq hr
  refine zw_aload_n C dL_law_507 1 rfl rfl ?_
  refine zw_aload_n C dL_law_508 0 rfl rfl ?_
  refine zw_iload_n C dL_law_509 3 rfl rfl ?_
  refine zw_iconst (v := 1) C dL_law_510 (by decide) ?_
  refine zw_iadd C dL_law_511 ?_
  refine zw_sld C X (hv 1 (by decide)) dL_law_512 ?_
  refine zw_aload_n C dL_law_513 0 rfl rfl ?_
  refine zw_iload_n C dL_law_514 3 rfl rfl ?_
  refine zw_iconst (v := 2) C dL_law_515 (by decide) ?_
  refine zw_iadd C dL_law_516 ?_
  refine zw_sld C X (hv 2 (by decide)) dL_law_517 ?_
  refine zw_aload_n C dL_law_518 0 rfl rfl ?_
  refine zw_iload_n C dL_law_519 3 rfl rfl ?_
  refine zw_iconst (v := 3) C dL_law_520 (by decide) ?_
  refine zw_iadd C dL_law_521 ?_
  refine zw_sld C X (hv 3 (by decide)) dL_law_522 ?_
  refine zw_fcalli C 31 24 rfl rfl nd31 kvL_44 (kX3_order h.1.1 h.2.1.1 hq) ⟨rfl, rfl, ⟨by decide, by decide⟩, hR.1, hR.2⟩ FX3 0 rfl rfl rfl (Nat.le_of_ble_eq_true rfl) dL_law_523 ?_
  refine zw_aload_n C dL_law_526 2 rfl rfl ?_
  refine zw_aload_n C dL_law_527 0 rfl rfl ?_
  refine zw_iload_n C dL_law_528 3 rfl rfl ?_
  refine zw_iconst (v := 1) C dL_law_529 (by decide) ?_
  refine zw_iadd C dL_law_530 ?_
  refine zw_sld C X (hv 1 (by decide)) dL_law_531 ?_
  refine zw_aload_n C dL_law_532 0 rfl rfl ?_
  refine zw_iload_n C dL_law_533 3 rfl rfl ?_
  refine zw_iconst (v := 2) C dL_law_534 (by decide) ?_
  refine zw_iadd C dL_law_535 ?_
  refine zw_sld C X (hv 2 (by decide)) dL_law_536 ?_
  refine zw_aload_n C dL_law_537 0 rfl rfl ?_
  refine zw_iload_n C dL_law_538 3 rfl rfl ?_
  refine zw_iconst (v := 3) C dL_law_539 (by decide) ?_
  refine zw_iadd C dL_law_540 ?_
  refine zw_sld C X (hv 3 (by decide)) dL_law_541 ?_
  refine zw_fcalli C 24 31 rfl rfl nd24 kvL_47 (kX4_order h.dmK hr) ⟨rfl, rfl, ⟨by decide, by decide⟩, hR.1, hR.2⟩ FX4 0 rfl rfl rfl (Nat.le_of_ble_eq_true rfl) dL_law_542 ?_
  refine zw_icmp_eq C 792 dL_law_545 (by decide) (fun _ => ?_) (fun hne => absurd he hne)
  exact K _ ⟨a, b, B, S, V, q.2, G, F, T, B0, B1, B2, B3, B4, B5, B6, r.2.1, r.2.2.1, r.2.2.2.1, r.2.2.2.2.1, r.2.2.2.2.2.1, r.2.2.2.2.2.2, M0, M1, M2, M3, M4, M5, M6, M7, U0, U1, U2, U3, U4, U5, G0, G1, G2, G3, G4, N0, N1, N2, N3, nt2, k2, sn2, vn2, on2, g2, m2, rs2, rv2, ro2, rfl, rfl, by omega, hz, rfl⟩
set_option maxHeartbeats 2000000 in
theorem lawc_7 (C : zw_C p s mi args c D (zw_tys cI cL) A RL cL_law 4) (X : zw_X s A bs Ls xs) (hR : nc ≤ room_1.cells ∧ ns ≤ room_1.slots) (hv : ∀ j : Nat, j < 7 → vp_in (x3 + nI j) Ls) (hmm : mm + 2000 ≤ 2000000) (hI : lawInv cI cL x0 y0 mm ws) (K : ∀ ws2 : va_W, lawInv cI cL x0 y0 (mm + 2000) ws2 → zw_W p l e room_1 s mi args below meth c D A 4 Q nc ns ws2 792 [(0, .ref bs), (1, .ref x0), (2, .ref y0), (3, .int x3)] []) : zw_W p l e room_1 s mi args below meth c D A 4 Q nc ns ws 550 [(0, .ref bs), (1, .ref x0), (2, .ref y0), (3, .int x3)] [] := by
  obtain ⟨a, b, B, S, V, O, G, F, T, B0, B1, B2, B3, B4, B5, B6, K0, K1, K2, K3, K4, E0, M0, M1, M2, M3, M4, M5, M6, M7, U0, U1, U2, U3, U4, U5, G0, G1, G2, G3, G4, N0, N1, N2, N3, nt, k, sn, vn, on, g, m, rs, rv, ro, rfl, rfl, hle, h, rfl⟩ := hI
  have hm : m + 2000 ≤ 2000000 := by omega
  obtain ⟨q, hq⟩ : ∃ q, fX3_all B = q := ⟨_, rfl⟩
  obtain ⟨r, hr⟩ : ∃ r, fX4_all B0 B5 = r := ⟨_, rfl⟩
  obtain ⟨he, nt2, k2, sn2, vn2, on2, g2, m2, rs2, rv2, ro2, hm2, hz⟩ := eqn_all h hq hr
  refine zw_aload_n C dL_law_550 1 rfl rfl ?_
  refine zw_fcalli C 31 24 rfl rfl nd31 kvL_48 (kX3_all h.1.1 hq) ⟨rfl, rfl, ⟨by decide, by decide⟩, hR.1, hR.2⟩ FX3 0 rfl rfl rfl (Nat.le_of_ble_eq_true rfl) dL_law_551 ?_
  refine zw_aload_n C dL_law_554 2 rfl rfl ?_
  refine zw_fcalli C 24 31 rfl rfl nd24 kvL_52 (kX4_all h.dmB hr) ⟨rfl, rfl, ⟨by decide, by decide⟩, hR.1, hR.2⟩ FX4 0 rfl rfl rfl (Nat.le_of_ble_eq_true rfl) dL_law_555 ?_
  refine zw_icmp_eq C 792 dL_law_558 (by decide) (fun _ => ?_) (fun hne => absurd he hne)
  exact K _ ⟨a, b, (B.1, q.2.1, B.2.2.1, B.2.2.2.1, B.2.2.2.2.1, q.2.2, B.2.2.2.2.2.2), S, V, O, G, F, T, B0, r.2.1, B2, B3, B4, r.2.2, B6, K0, K1, K2, K3, K4, E0, M0, M1, M2, M3, M4, M5, M6, M7, U0, U1, U2, U3, U4, U5, G0, G1, G2, G3, G4, N0, N1, N2, N3, nt2, k2, sn2, vn2, on2, g2, m2, rs2, rv2, ro2, rfl, rfl, by omega, hz, rfl⟩
set_option maxHeartbeats 2000000 in
theorem lawc_8 (C : zw_C p s mi args c D (zw_tys cI cL) A RL cL_law 4) (X : zw_X s A bs Ls xs) (hR : nc ≤ room_1.cells ∧ ns ≤ room_1.slots) (hv : ∀ j : Nat, j < 7 → vp_in (x3 + nI j) Ls) (hmm : mm + 2000 ≤ 2000000) (hI : lawInv cI cL x0 y0 mm ws) (K : ∀ ws2 : va_W, lawInv cI cL x0 y0 (mm + 2000) ws2 → zw_W p l e room_1 s mi args below meth c D A 4 Q nc ns ws2 792 [(0, .ref bs), (1, .ref x0), (2, .ref y0), (3, .int x3)] []) : zw_W p l e room_1 s mi args below meth c D A 4 Q nc ns ws 563 [(0, .ref bs), (1, .ref x0), (2, .ref y0), (3, .int x3)] [] := by
  obtain ⟨a, b, B, S, V, O, G, F, T, B0, B1, B2, B3, B4, B5, B6, K0, K1, K2, K3, K4, E0, M0, M1, M2, M3, M4, M5, M6, M7, U0, U1, U2, U3, U4, U5, G0, G1, G2, G3, G4, N0, N1, N2, N3, nt, k, sn, vn, on, g, m, rs, rv, ro, rfl, rfl, hle, h, rfl⟩ := hI
  have hm : m + 2000 ≤ 2000000 := by omega
  obtain ⟨q, hq⟩ : ∃ q, fX3_tell B S V T (xs (x3 + 1).toNatClampNeg) (xs (x3 + 2).toNatClampNeg) = q := ⟨_, rfl⟩
  obtain ⟨r, hr⟩ : ∃ r, fX4_tell B0 B2 B3 B4 K0 K1 K2 K3 K4 E0 M0 M1 M2 M3 M4 M5 M6 M7 U0 U1 U2 U3 U4 U5 (xs (x3 + 1).toNatClampNeg) (xs (x3 + 2).toNatClampNeg) = r := ⟨_, rfl⟩
  obtain ⟨he, nt2, k2, sn2, vn2, on2, g2, m2, rs2, rv2, ro2, hm2, hz⟩ := eqn_tell h hm hq hr
  refine zw_aload_n C dL_law_563 1 rfl rfl ?_
  refine zw_aload_n C dL_law_564 0 rfl rfl ?_
  refine zw_iload_n C dL_law_565 3 rfl rfl ?_
  refine zw_iconst (v := 1) C dL_law_566 (by decide) ?_
  refine zw_iadd C dL_law_567 ?_
  refine zw_sld C X (hv 1 (by decide)) dL_law_568 ?_
  refine zw_aload_n C dL_law_569 0 rfl rfl ?_
  refine zw_iload_n C dL_law_570 3 rfl rfl ?_
  refine zw_iconst (v := 2) C dL_law_571 (by decide) ?_
  refine zw_iadd C dL_law_572 ?_
  refine zw_sld C X (hv 2 (by decide)) dL_law_573 ?_
  refine zw_fcalli C 31 24 rfl rfl nd31 kvL_53 (kX3_tell h.1.1 h.2.1.1 hq) ⟨rfl, rfl, ⟨by decide, by decide⟩, hR.1, hR.2⟩ FX3 0 rfl rfl rfl (Nat.le_of_ble_eq_true rfl) dL_law_574 ?_
  refine zw_aload_n C dL_law_577 2 rfl rfl ?_
  refine zw_aload_n C dL_law_578 0 rfl rfl ?_
  refine zw_iload_n C dL_law_579 3 rfl rfl ?_
  refine zw_iconst (v := 1) C dL_law_580 (by decide) ?_
  refine zw_iadd C dL_law_581 ?_
  refine zw_sld C X (hv 1 (by decide)) dL_law_582 ?_
  refine zw_aload_n C dL_law_583 0 rfl rfl ?_
  refine zw_iload_n C dL_law_584 3 rfl rfl ?_
  refine zw_iconst (v := 2) C dL_law_585 (by decide) ?_
  refine zw_iadd C dL_law_586 ?_
  refine zw_sld C X (hv 2 (by decide)) dL_law_587 ?_
  refine zw_fcalli C 24 31 rfl rfl nd24 kvL_57 (kX4_tell h.dmB h.dmK (mJ_all (L := m + 2000) h.2.1.1 h.2.1.2.1 h.1.1.1 hm) ⟨(S.2.2.2.1, V.2.2.2.1, 0, T.2.1, T.2.2.1, 0, 0, 0), rfl, sim_start h.2.2.2.1 h.2.2.1.2.2.2.2.2 h.2.2.1.2.2.1 h.2.2.1.2.1⟩ hr) ⟨rfl, rfl, ⟨by decide, by decide⟩, hR.1, hR.2⟩ FX4 0 rfl rfl rfl (Nat.le_of_ble_eq_true rfl) dL_law_588 ?_
  refine zw_icmp_eq C 792 dL_law_591 (by decide) (fun _ => ?_) (fun hne => absurd he hne)
  exact K _ ⟨a, b, (B.1, B.2.1, q.2.1, B.2.2.2.1, B.2.2.2.2.1, B.2.2.2.2.2.1, B.2.2.2.2.2.2), (S.1, S.2.1, S.2.2.1, q.2.2.1, S.2.2.2.2), (V.1, V.2.1, V.2.2.1, q.2.2.2.1, V.2.2.2.2), O, G, F, q.2.2.2.2, B0, B1, r.2.1, B3, B4, B5, B6, K0, K1, K2, K3, K4, r.2.2.1, r.2.2.2.1, r.2.2.2.2.1, r.2.2.2.2.2.1, r.2.2.2.2.2.2.1, r.2.2.2.2.2.2.2.1, r.2.2.2.2.2.2.2.2.1, r.2.2.2.2.2.2.2.2.2.1, r.2.2.2.2.2.2.2.2.2.2.1, r.2.2.2.2.2.2.2.2.2.2.2.1, r.2.2.2.2.2.2.2.2.2.2.2.2.2.2.1, r.2.2.2.2.2.2.2.2.2.2.2.2.1, r.2.2.2.2.2.2.2.2.2.2.2.2.2.1, r.2.2.2.2.2.2.2.2.2.2.2.2.2.2.2.1, r.2.2.2.2.2.2.2.2.2.2.2.2.2.2.2.2, G0, G1, G2, G3, G4, N0, N1, N2, N3, nt2, k2, sn2, vn2, on2, g2, m2, rs2, rv2, ro2, rfl, rfl, by omega, hz, rfl⟩
set_option maxHeartbeats 2000000 in
theorem lawc_9 (C : zw_C p s mi args c D (zw_tys cI cL) A RL cL_law 4) (X : zw_X s A bs Ls xs) (hR : nc ≤ room_1.cells ∧ ns ≤ room_1.slots) (hv : ∀ j : Nat, j < 7 → vp_in (x3 + nI j) Ls) (hmm : mm + 2000 ≤ 2000000) (hI : lawInv cI cL x0 y0 mm ws) (K : ∀ ws2 : va_W, lawInv cI cL x0 y0 (mm + 2000) ws2 → zw_W p l e room_1 s mi args below meth c D A 4 Q nc ns ws2 792 [(0, .ref bs), (1, .ref x0), (2, .ref y0), (3, .int x3)] []) : zw_W p l e room_1 s mi args below meth c D A 4 Q nc ns ws 596 [(0, .ref bs), (1, .ref x0), (2, .ref y0), (3, .int x3)] [] := by
  obtain ⟨a, b, B, S, V, O, G, F, T, B0, B1, B2, B3, B4, B5, B6, K0, K1, K2, K3, K4, E0, M0, M1, M2, M3, M4, M5, M6, M7, U0, U1, U2, U3, U4, U5, G0, G1, G2, G3, G4, N0, N1, N2, N3, nt, k, sn, vn, on, g, m, rs, rv, ro, rfl, rfl, hle, h, rfl⟩ := hI
  have hm : m + 2000 ≤ 2000000 := by omega
  obtain ⟨q, hq⟩ : ∃ q, fX3_sift B S V T (xs (x3 + 1).toNatClampNeg) = q := ⟨_, rfl⟩
  obtain ⟨r, hr⟩ : ∃ r, fX4_sift B1 B2 B3 B4 B5 B6 K0 K1 K2 K3 K4 E0 M0 M1 M2 M3 M4 M5 M6 M7 U0 U1 U2 U3 U4 U5 (xs (x3 + 1).toNatClampNeg) = r := ⟨_, rfl⟩
  obtain ⟨he, nt2, k2, sn2, vn2, on2, g2, m2, rs2, rv2, ro2, hm2, hz⟩ := eqn_sift h hm hq hr
  refine zw_aload_n C dL_law_596 1 rfl rfl ?_
  refine zw_aload_n C dL_law_597 0 rfl rfl ?_
  refine zw_iload_n C dL_law_598 3 rfl rfl ?_
  refine zw_iconst (v := 1) C dL_law_599 (by decide) ?_
  refine zw_iadd C dL_law_600 ?_
  refine zw_sld C X (hv 1 (by decide)) dL_law_601 ?_
  refine zw_fcalli C 31 24 rfl rfl nd31 kvL_58 (kX3_sift h.1.1 h.2.1.1 hq) ⟨rfl, rfl, ⟨by decide, by decide⟩, hR.1, hR.2⟩ FX3 0 rfl rfl rfl (Nat.le_of_ble_eq_true rfl) dL_law_602 ?_
  refine zw_aload_n C dL_law_605 2 rfl rfl ?_
  refine zw_aload_n C dL_law_606 0 rfl rfl ?_
  refine zw_iload_n C dL_law_607 3 rfl rfl ?_
  refine zw_iconst (v := 1) C dL_law_608 (by decide) ?_
  refine zw_iadd C dL_law_609 ?_
  refine zw_sld C X (hv 1 (by decide)) dL_law_610 ?_
  refine zw_fcalli C 24 31 rfl rfl nd24 kvL_62 (kX4_sift h.dmB h.dmK (mJ_all (L := m + 2000) h.2.1.1 h.2.1.2.1 h.1.1.1 hm) ⟨(S.2.2.2.1, V.2.2.2.1, 0, T.2.1, T.2.2.1, 0, 0, 0), rfl, sim_start h.2.2.2.1 h.2.2.1.2.2.2.2.2 h.2.2.1.2.2.1 h.2.2.1.2.1⟩ hr) ⟨rfl, rfl, ⟨by decide, by decide⟩, hR.1, hR.2⟩ FX4 0 rfl rfl rfl (Nat.le_of_ble_eq_true rfl) dL_law_611 ?_
  refine zw_icmp_eq C 792 dL_law_614 (by decide) (fun _ => ?_) (fun hne => absurd he hne)
  exact K _ ⟨a, b, (B.1, q.2.1, B.2.2.1, B.2.2.2.1, B.2.2.2.2.1, q.2.2.1, q.2.2.2.1), (S.1, S.2.1, S.2.2.1, q.2.2.2.2.1, S.2.2.2.2), (V.1, V.2.1, V.2.2.1, q.2.2.2.2.2.1, V.2.2.2.2), O, G, F, q.2.2.2.2.2.2, B0, r.2.1, B2, B3, B4, r.2.2.1, r.2.2.2.1, K0, K1, K2, K3, K4, r.2.2.2.2.1, r.2.2.2.2.2.1, r.2.2.2.2.2.2.1, r.2.2.2.2.2.2.2.1, r.2.2.2.2.2.2.2.2.1, r.2.2.2.2.2.2.2.2.2.1, r.2.2.2.2.2.2.2.2.2.2.1, r.2.2.2.2.2.2.2.2.2.2.2.1, r.2.2.2.2.2.2.2.2.2.2.2.2.1, r.2.2.2.2.2.2.2.2.2.2.2.2.2.1, r.2.2.2.2.2.2.2.2.2.2.2.2.2.2.2.2.1, r.2.2.2.2.2.2.2.2.2.2.2.2.2.2.1, r.2.2.2.2.2.2.2.2.2.2.2.2.2.2.2.1, r.2.2.2.2.2.2.2.2.2.2.2.2.2.2.2.2.2.1, r.2.2.2.2.2.2.2.2.2.2.2.2.2.2.2.2.2.2, G0, G1, G2, G3, G4, N0, N1, N2, N3, nt2, k2, sn2, vn2, on2, g2, m2, rs2, rv2, ro2, rfl, rfl, by omega, hz, rfl⟩
set_option maxHeartbeats 2000000 in
theorem lawc_10 (C : zw_C p s mi args c D (zw_tys cI cL) A RL cL_law 4) (X : zw_X s A bs Ls xs) (hR : nc ≤ room_1.cells ∧ ns ≤ room_1.slots) (hv : ∀ j : Nat, j < 7 → vp_in (x3 + nI j) Ls) (hmm : mm + 2000 ≤ 2000000) (hI : lawInv cI cL x0 y0 mm ws) (K : ∀ ws2 : va_W, lawInv cI cL x0 y0 (mm + 2000) ws2 → zw_W p l e room_1 s mi args below meth c D A 4 Q nc ns ws2 792 [(0, .ref bs), (1, .ref x0), (2, .ref y0), (3, .int x3)] []) : zw_W p l e room_1 s mi args below meth c D A 4 Q nc ns ws 619 [(0, .ref bs), (1, .ref x0), (2, .ref y0), (3, .int x3)] [] := by
  obtain ⟨a, b, B, S, V, O, G, F, T, B0, B1, B2, B3, B4, B5, B6, K0, K1, K2, K3, K4, E0, M0, M1, M2, M3, M4, M5, M6, M7, U0, U1, U2, U3, U4, U5, G0, G1, G2, G3, G4, N0, N1, N2, N3, nt, k, sn, vn, on, g, m, rs, rv, ro, rfl, rfl, hle, h, rfl⟩ := hI
  have hm : m + 2000 ≤ 2000000 := by omega
  obtain ⟨q, hq⟩ : ∃ q, fX3_sort B S V O T (xs (x3 + 1).toNatClampNeg) = q := ⟨_, rfl⟩
  obtain ⟨r, hr⟩ : ∃ r, fX4_sort B1 B2 B3 B4 B5 B6 K0 K1 K2 K3 K4 E0 M0 M1 M2 M3 M4 M5 M6 M7 U0 U1 U2 U3 U4 U5 (xs (x3 + 1).toNatClampNeg) = r := ⟨_, rfl⟩
  obtain ⟨he, nt2, k2, sn2, vn2, on2, g2, m2, rs2, rv2, ro2, hm2, hz⟩ := eqn_sort h hm hq hr
  refine zw_aload_n C dL_law_619 1 rfl rfl ?_
  refine zw_aload_n C dL_law_620 0 rfl rfl ?_
  refine zw_iload_n C dL_law_621 3 rfl rfl ?_
  refine zw_iconst (v := 1) C dL_law_622 (by decide) ?_
  refine zw_iadd C dL_law_623 ?_
  refine zw_sld C X (hv 1 (by decide)) dL_law_624 ?_
  refine zw_fcalli C 31 24 rfl rfl nd31 kvL_63 (kX3_sort h.1.1 h.2.1.1 hq) ⟨rfl, rfl, ⟨by decide, by decide⟩, hR.1, hR.2⟩ FX3 0 rfl rfl rfl (Nat.le_of_ble_eq_true rfl) dL_law_625 ?_
  refine zw_aload_n C dL_law_628 2 rfl rfl ?_
  refine zw_aload_n C dL_law_629 0 rfl rfl ?_
  refine zw_iload_n C dL_law_630 3 rfl rfl ?_
  refine zw_iconst (v := 1) C dL_law_631 (by decide) ?_
  refine zw_iadd C dL_law_632 ?_
  refine zw_sld C X (hv 1 (by decide)) dL_law_633 ?_
  refine zw_fcalli C 24 31 rfl rfl nd24 kvL_66 (kX4_sort h.dmB h.dmK (mJ_all (L := m + 2000) h.2.1.1 h.2.1.2.1 h.1.1.1 hm) ⟨(S.2.2.2.1, V.2.2.2.1, 0, T.2.1, T.2.2.1, 0, 0, 0), rfl, sim_start h.2.2.2.1 h.2.2.1.2.2.2.2.2 h.2.2.1.2.2.1 h.2.2.1.2.1⟩ hr) ⟨rfl, rfl, ⟨by decide, by decide⟩, hR.1, hR.2⟩ FX4 0 rfl rfl rfl (Nat.le_of_ble_eq_true rfl) dL_law_634 ?_
  refine zw_icmp_eq C 792 dL_law_637 (by decide) (fun _ => ?_) (fun hne => absurd he hne)
  exact K _ ⟨a, b, (B.1, q.2.1, B.2.2.1, B.2.2.2.1, B.2.2.2.2.1, q.2.2.1, q.2.2.2.1), (S.1, S.2.1, S.2.2.1, q.2.2.2.2.1, S.2.2.2.2), (V.1, V.2.1, V.2.2.1, q.2.2.2.2.2.1, V.2.2.2.2), O, G, F, q.2.2.2.2.2.2, B0, B1, B2, B3, B4, r.2.1, r.2.2.1, K0, K1, K2, K3, K4, r.2.2.2.1, r.2.2.2.2.1, r.2.2.2.2.2.1, r.2.2.2.2.2.2.1, r.2.2.2.2.2.2.2.1, r.2.2.2.2.2.2.2.2.1, r.2.2.2.2.2.2.2.2.2.1, r.2.2.2.2.2.2.2.2.2.2.1, r.2.2.2.2.2.2.2.2.2.2.2.1, r.2.2.2.2.2.2.2.2.2.2.2.2.1, r.2.2.2.2.2.2.2.2.2.2.2.2.2.2.2.1, r.2.2.2.2.2.2.2.2.2.2.2.2.2.1, r.2.2.2.2.2.2.2.2.2.2.2.2.2.2.1, r.2.2.2.2.2.2.2.2.2.2.2.2.2.2.2.2.1, r.2.2.2.2.2.2.2.2.2.2.2.2.2.2.2.2.2, G0, G1, G2, G3, G4, N0, N1, N2, N3, nt2, k2, sn2, vn2, on2, g2, m2, rs2, rv2, ro2, rfl, rfl, by omega, hz, rfl⟩
set_option maxHeartbeats 2000000 in
theorem lawc_11 (C : zw_C p s mi args c D (zw_tys cI cL) A RL cL_law 4) (X : zw_X s A bs Ls xs) (hR : nc ≤ room_1.cells ∧ ns ≤ room_1.slots) (hv : ∀ j : Nat, j < 7 → vp_in (x3 + nI j) Ls) (hmm : mm + 2000 ≤ 2000000) (hI : lawInv cI cL x0 y0 mm ws) (K : ∀ ws2 : va_W, lawInv cI cL x0 y0 (mm + 2000) ws2 → zw_W p l e room_1 s mi args below meth c D A 4 Q nc ns ws2 792 [(0, .ref bs), (1, .ref x0), (2, .ref y0), (3, .int x3)] []) : zw_W p l e room_1 s mi args below meth c D A 4 Q nc ns ws 642 [(0, .ref bs), (1, .ref x0), (2, .ref y0), (3, .int x3)] [] := by
  obtain ⟨a, b, B, S, V, O, G, F, T, B0, B1, B2, B3, B4, B5, B6, K0, K1, K2, K3, K4, E0, M0, M1, M2, M3, M4, M5, M6, M7, U0, U1, U2, U3, U4, U5, G0, G1, G2, G3, G4, N0, N1, N2, N3, nt, k, sn, vn, on, g, m, rs, rv, ro, rfl, rfl, hle, h, rfl⟩ := hI
  have hm : m + 2000 ≤ 2000000 := by omega
  obtain ⟨q, hq⟩ : ∃ q, fX3_sum B S V T (xs (x3 + 1).toNatClampNeg) = q := ⟨_, rfl⟩
  obtain ⟨r, hr⟩ : ∃ r, fX4_sum B1 B2 B3 B4 B5 K0 K1 K2 K3 K4 E0 M0 M1 M2 M3 M4 M5 M6 M7 U0 U1 U2 U3 U4 U5 (xs (x3 + 1).toNatClampNeg) = r := ⟨_, rfl⟩
  obtain ⟨he, nt2, k2, sn2, vn2, on2, g2, m2, rs2, rv2, ro2, hm2, hz⟩ := eqn_sum h hm hq hr
  refine zw_aload_n C dL_law_642 1 rfl rfl ?_
  refine zw_aload_n C dL_law_643 0 rfl rfl ?_
  refine zw_iload_n C dL_law_644 3 rfl rfl ?_
  refine zw_iconst (v := 1) C dL_law_645 (by decide) ?_
  refine zw_iadd C dL_law_646 ?_
  refine zw_sld C X (hv 1 (by decide)) dL_law_647 ?_
  refine zw_fcalli C 31 24 rfl rfl nd31 kvL_67 (kX3_sum h.1.1 h.2.1.1 hq) ⟨rfl, rfl, ⟨by decide, by decide⟩, hR.1, hR.2⟩ FX3 0 rfl rfl rfl (Nat.le_of_ble_eq_true rfl) dL_law_648 ?_
  refine zw_aload_n C dL_law_651 2 rfl rfl ?_
  refine zw_aload_n C dL_law_652 0 rfl rfl ?_
  refine zw_iload_n C dL_law_653 3 rfl rfl ?_
  refine zw_iconst (v := 1) C dL_law_654 (by decide) ?_
  refine zw_iadd C dL_law_655 ?_
  refine zw_sld C X (hv 1 (by decide)) dL_law_656 ?_
  refine zw_fcalli C 24 31 rfl rfl nd24 kvL_70 (kX4_sum h.dmB h.dmK (mJ_all (L := m + 2000) h.2.1.1 h.2.1.2.1 h.1.1.1 hm) ⟨(S.2.2.2.1, V.2.2.2.1, 0, T.2.1, T.2.2.1, 0, 0, 0), rfl, sim_start h.2.2.2.1 h.2.2.1.2.2.2.2.2 h.2.2.1.2.2.1 h.2.2.1.2.1⟩ hr) ⟨rfl, rfl, ⟨by decide, by decide⟩, hR.1, hR.2⟩ FX4 0 rfl rfl rfl (Nat.le_of_ble_eq_true rfl) dL_law_657 ?_
  refine zw_icmp_eq C 792 dL_law_660 (by decide) (fun _ => ?_) (fun hne => absurd he hne)
  exact K _ ⟨a, b, (B.1, B.2.1, q.2.1, B.2.2.2.1, B.2.2.2.2.1, B.2.2.2.2.2.1, B.2.2.2.2.2.2), (S.1, S.2.1, S.2.2.1, q.2.2.1, S.2.2.2.2), (V.1, V.2.1, V.2.2.1, q.2.2.2.1, V.2.2.2.2), O, G, F, q.2.2.2.2, B0, B1, r.2.1, B3, B4, B5, B6, K0, K1, K2, K3, K4, r.2.2.1, r.2.2.2.1, r.2.2.2.2.1, r.2.2.2.2.2.1, r.2.2.2.2.2.2.1, r.2.2.2.2.2.2.2.1, r.2.2.2.2.2.2.2.2.1, r.2.2.2.2.2.2.2.2.2.1, r.2.2.2.2.2.2.2.2.2.2.1, r.2.2.2.2.2.2.2.2.2.2.2.1, r.2.2.2.2.2.2.2.2.2.2.2.2.2.2.1, r.2.2.2.2.2.2.2.2.2.2.2.2.1, r.2.2.2.2.2.2.2.2.2.2.2.2.2.1, r.2.2.2.2.2.2.2.2.2.2.2.2.2.2.2.1, r.2.2.2.2.2.2.2.2.2.2.2.2.2.2.2.2, G0, G1, G2, G3, G4, N0, N1, N2, N3, nt2, k2, sn2, vn2, on2, g2, m2, rs2, rv2, ro2, rfl, rfl, by omega, hz, rfl⟩
set_option maxHeartbeats 2000000 in
theorem lawc_12 (C : zw_C p s mi args c D (zw_tys cI cL) A RL cL_law 4) (X : zw_X s A bs Ls xs) (hR : nc ≤ room_1.cells ∧ ns ≤ room_1.slots) (hv : ∀ j : Nat, j < 7 → vp_in (x3 + nI j) Ls) (hmm : mm + 2000 ≤ 2000000) (hI : lawInv cI cL x0 y0 mm ws) (K : ∀ ws2 : va_W, lawInv cI cL x0 y0 (mm + 2000) ws2 → zw_W p l e room_1 s mi args below meth c D A 4 Q nc ns ws2 792 [(0, .ref bs), (1, .ref x0), (2, .ref y0), (3, .int x3)] []) : zw_W p l e room_1 s mi args below meth c D A 4 Q nc ns ws 665 [(0, .ref bs), (1, .ref x0), (2, .ref y0), (3, .int x3)] [] := by
  obtain ⟨a, b, B, S, V, O, G, F, T, B0, B1, B2, B3, B4, B5, B6, K0, K1, K2, K3, K4, E0, M0, M1, M2, M3, M4, M5, M6, M7, U0, U1, U2, U3, U4, U5, G0, G1, G2, G3, G4, N0, N1, N2, N3, nt, k, sn, vn, on, g, m, rs, rv, ro, rfl, rfl, hle, h, rfl⟩ := hI
  have hm : m + 2000 ≤ 2000000 := by omega
  obtain ⟨q, hq⟩ : ∃ q, fX3_group B S V G F T (xs (x3 + 1).toNatClampNeg) (xs (x3 + 2).toNatClampNeg) = q := ⟨_, rfl⟩
  obtain ⟨r, hr⟩ : ∃ r, fX4_group B1 B3 B4 B5 K0 K1 K2 K3 K4 E0 M0 M1 M2 M3 M4 M5 M6 M7 U0 U1 U2 U3 U4 U5 G0 G1 G2 G3 G4 N0 N1 N2 N3 (xs (x3 + 1).toNatClampNeg) (xs (x3 + 2).toNatClampNeg) = r := ⟨_, rfl⟩
  obtain ⟨he, nt2, k2, sn2, vn2, on2, g2, m2, rs2, rv2, ro2, hm2, hz⟩ := eqn_group h hm hq hr
  refine zw_aload_n C dL_law_665 1 rfl rfl ?_
  refine zw_aload_n C dL_law_666 0 rfl rfl ?_
  refine zw_iload_n C dL_law_667 3 rfl rfl ?_
  refine zw_iconst (v := 1) C dL_law_668 (by decide) ?_
  refine zw_iadd C dL_law_669 ?_
  refine zw_sld C X (hv 1 (by decide)) dL_law_670 ?_
  refine zw_aload_n C dL_law_671 0 rfl rfl ?_
  refine zw_iload_n C dL_law_672 3 rfl rfl ?_
  refine zw_iconst (v := 2) C dL_law_673 (by decide) ?_
  refine zw_iadd C dL_law_674 ?_
  refine zw_sld C X (hv 2 (by decide)) dL_law_675 ?_
  refine zw_fcalli C 31 24 rfl rfl nd31 kvL_71 (kX3_group h.1.1 h.2.1.1 hq) ⟨rfl, rfl, ⟨by decide, by decide⟩, hR.1, hR.2⟩ FX3 0 rfl rfl rfl (Nat.le_of_ble_eq_true rfl) dL_law_676 ?_
  refine zw_aload_n C dL_law_679 2 rfl rfl ?_
  refine zw_aload_n C dL_law_680 0 rfl rfl ?_
  refine zw_iload_n C dL_law_681 3 rfl rfl ?_
  refine zw_iconst (v := 1) C dL_law_682 (by decide) ?_
  refine zw_iadd C dL_law_683 ?_
  refine zw_sld C X (hv 1 (by decide)) dL_law_684 ?_
  refine zw_aload_n C dL_law_685 0 rfl rfl ?_
  refine zw_iload_n C dL_law_686 3 rfl rfl ?_
  refine zw_iconst (v := 2) C dL_law_687 (by decide) ?_
  refine zw_iadd C dL_law_688 ?_
  refine zw_sld C X (hv 2 (by decide)) dL_law_689 ?_
  refine zw_fcalli C 24 31 rfl rfl nd24 kvL_74 (kX4_group h.dmB h.dmK (mJ_all (L := m + 2000) h.2.1.1 h.2.1.2.1 h.1.1.1 hm) ⟨(S.2.2.2.1, V.2.2.2.1, 0, T.2.1, T.2.2.1, 0, 0, 0), rfl, sim_start h.2.2.2.1 h.2.2.1.2.2.2.2.2 h.2.2.1.2.2.1 h.2.2.1.2.1⟩ hr) ⟨rfl, rfl, ⟨by decide, by decide⟩, hR.1, hR.2⟩ FX4 0 rfl rfl rfl (Nat.le_of_ble_eq_true rfl) dL_law_690 ?_
  refine zw_icmp_eq C 792 dL_law_693 (by decide) (fun _ => ?_) (fun hne => absurd he hne)
  exact K _ ⟨(dsa q.2.1 a), b, B, (S.1, S.2.1, S.2.2.1, q.2.2.2.2.1, S.2.2.2.2), (V.1, V.2.1, V.2.2.1, q.2.2.2.2.2.1, V.2.2.2.2), O, q.2.2.1, q.2.2.2.1, q.2.2.2.2.2.2, B0, B1, B2, B3, B4, B5, B6, K0, K1, K2, K3, K4, r.2.2.2.2.2.2.2.2.2.2.1, r.2.2.2.2.2.2.2.2.2.2.2.1, r.2.2.2.2.2.2.2.2.2.2.2.2.1, r.2.2.2.2.2.2.2.2.2.2.2.2.2.1, r.2.2.2.2.2.2.2.2.2.2.2.2.2.2.1, r.2.2.2.2.2.2.2.2.2.2.2.2.2.2.2.1, r.2.2.2.2.2.2.2.2.2.2.2.2.2.2.2.2.1, r.2.2.2.2.2.2.2.2.2.2.2.2.2.2.2.2.2.1, r.2.2.2.2.2.2.2.2.2.2.2.2.2.2.2.2.2.2.1, r.2.2.2.2.2.2.2.2.2.2.2.2.2.2.2.2.2.2.2.1, r.2.2.2.2.2.2.2.2.2.2.2.2.2.2.2.2.2.2.2.2.2.2.1, r.2.2.2.2.2.2.2.2.2.2.2.2.2.2.2.2.2.2.2.2.1, r.2.2.2.2.2.2.2.2.2.2.2.2.2.2.2.2.2.2.2.2.2.1, r.2.2.2.2.2.2.2.2.2.2.2.2.2.2.2.2.2.2.2.2.2.2.2.1, r.2.2.2.2.2.2.2.2.2.2.2.2.2.2.2.2.2.2.2.2.2.2.2.2, r.2.1, r.2.2.1, r.2.2.2.1, r.2.2.2.2.1, r.2.2.2.2.2.1, r.2.2.2.2.2.2.1, r.2.2.2.2.2.2.2.1, r.2.2.2.2.2.2.2.2.1, r.2.2.2.2.2.2.2.2.2.1, nt2, k2, sn2, vn2, on2, g2, m2, rs2, rv2, ro2, dsa0, rfl, by omega, hz, rfl⟩
set_option maxHeartbeats 2000000 in
theorem lawc_13 (C : zw_C p s mi args c D (zw_tys cI cL) A RL cL_law 4) (X : zw_X s A bs Ls xs) (hR : nc ≤ room_1.cells ∧ ns ≤ room_1.slots) (hv : ∀ j : Nat, j < 7 → vp_in (x3 + nI j) Ls) (hmm : mm + 2000 ≤ 2000000) (hI : lawInv cI cL x0 y0 mm ws) (K : ∀ ws2 : va_W, lawInv cI cL x0 y0 (mm + 2000) ws2 → zw_W p l e room_1 s mi args below meth c D A 4 Q nc ns ws2 792 [(0, .ref bs), (1, .ref x0), (2, .ref y0), (3, .int x3)] []) : zw_W p l e room_1 s mi args below meth c D A 4 Q nc ns ws 698 [(0, .ref bs), (1, .ref x0), (2, .ref y0), (3, .int x3)] [] := by
  obtain ⟨a, b, B, S, V, O, G, F, T, B0, B1, B2, B3, B4, B5, B6, K0, K1, K2, K3, K4, E0, M0, M1, M2, M3, M4, M5, M6, M7, U0, U1, U2, U3, U4, U5, G0, G1, G2, G3, G4, N0, N1, N2, N3, nt, k, sn, vn, on, g, m, rs, rv, ro, rfl, rfl, hle, h, rfl⟩ := hI
  have hm : m + 2000 ≤ 2000000 := by omega
  obtain ⟨q, hq⟩ : ∃ q, fX3_answer B = q := ⟨_, rfl⟩
  obtain ⟨r, hr⟩ : ∃ r, fX4_answer B2 = r := ⟨_, rfl⟩
  obtain ⟨he, nt2, k2, sn2, vn2, on2, g2, m2, rs2, rv2, ro2, hm2, hz⟩ := eqn_answer h hq hr
  refine zw_aload_n C dL_law_698 1 rfl rfl ?_
  refine zw_fcalll C 31 24 rfl rfl nd31 kvL_75 (kX3_answer  hq) ⟨rfl, rfl, ⟨by decide, by decide⟩, hR.1, hR.2⟩ FX3 0 rfl rfl rfl (Nat.le_of_ble_eq_true rfl) dL_law_699 ?_
  refine zw_aload_n C dL_law_702 2 rfl rfl ?_
  refine zw_fcalll C 24 31 rfl rfl nd24 kvL_79 (kX4_answer  hr) ⟨rfl, rfl, ⟨by decide, by decide⟩, hR.1, hR.2⟩ FX4 0 rfl rfl rfl (Nat.le_of_ble_eq_true rfl) dL_law_703 ?_
  refine zw_lcmp C dL_law_706 ?_
  refine zw_if_eq C 792 dL_law_707 (by decide) (fun _ => ?_) (fun hne => absurd ((lg_cmp_eq _ _).mpr he) hne)
  exact K _ ⟨a, b, B, S, V, O, G, F, T, B0, B1, B2, B3, B4, B5, B6, K0, K1, K2, K3, K4, E0, M0, M1, M2, M3, M4, M5, M6, M7, U0, U1, U2, U3, U4, U5, G0, G1, G2, G3, G4, N0, N1, N2, N3, nt2, k2, sn2, vn2, on2, g2, m2, rs2, rv2, ro2, rfl, rfl, by omega, hz, rfl⟩
set_option maxHeartbeats 2000000 in
theorem lawc_14 (C : zw_C p s mi args c D (zw_tys cI cL) A RL cL_law 4) (X : zw_X s A bs Ls xs) (hR : nc ≤ room_1.cells ∧ ns ≤ room_1.slots) (hv : ∀ j : Nat, j < 7 → vp_in (x3 + nI j) Ls) (hmm : mm + 2000 ≤ 2000000) (hI : lawInv cI cL x0 y0 mm ws) (K : ∀ ws2 : va_W, lawInv cI cL x0 y0 (mm + 2000) ws2 → zw_W p l e room_1 s mi args below meth c D A 4 Q nc ns ws2 792 [(0, .ref bs), (1, .ref x0), (2, .ref y0), (3, .int x3)] []) : zw_W p l e room_1 s mi args below meth c D A 4 Q nc ns ws 712 [(0, .ref bs), (1, .ref x0), (2, .ref y0), (3, .int x3)] [] := by
  obtain ⟨a, b, B, S, V, O, G, F, T, B0, B1, B2, B3, B4, B5, B6, K0, K1, K2, K3, K4, E0, M0, M1, M2, M3, M4, M5, M6, M7, U0, U1, U2, U3, U4, U5, G0, G1, G2, G3, G4, N0, N1, N2, N3, nt, k, sn, vn, on, g, m, rs, rv, ro, rfl, rfl, hle, h, rfl⟩ := hI
  have hm : m + 2000 ≤ 2000000 := by omega
  obtain ⟨q, hq⟩ : ∃ q, fX3_list B (xs (x3 + 1).toNatClampNeg) = q := ⟨_, rfl⟩
  obtain ⟨r, hr⟩ : ∃ r, fX4_list B1 B5 (xs (x3 + 1).toNatClampNeg) = r := ⟨_, rfl⟩
  obtain ⟨he, nt2, k2, sn2, vn2, on2, g2, m2, rs2, rv2, ro2, hm2, hz⟩ := eqn_list h hq hr
  refine zw_aload_n C dL_law_712 1 rfl rfl ?_
  refine zw_aload_n C dL_law_713 0 rfl rfl ?_
  refine zw_iload_n C dL_law_714 3 rfl rfl ?_
  refine zw_iconst (v := 1) C dL_law_715 (by decide) ?_
  refine zw_iadd C dL_law_716 ?_
  refine zw_sld C X (hv 1 (by decide)) dL_law_717 ?_
  refine zw_fcalli C 31 24 rfl rfl nd31 kvL_80 (kX3_list h.1.1 hq) ⟨rfl, rfl, ⟨by decide, by decide⟩, hR.1, hR.2⟩ FX3 0 rfl rfl rfl (Nat.le_of_ble_eq_true rfl) dL_law_718 ?_
  refine zw_aload_n C dL_law_721 2 rfl rfl ?_
  refine zw_aload_n C dL_law_722 0 rfl rfl ?_
  refine zw_iload_n C dL_law_723 3 rfl rfl ?_
  refine zw_iconst (v := 1) C dL_law_724 (by decide) ?_
  refine zw_iadd C dL_law_725 ?_
  refine zw_sld C X (hv 1 (by decide)) dL_law_726 ?_
  refine zw_fcalli C 24 31 rfl rfl nd24 kvL_83 (kX4_list h.dmB hr) ⟨rfl, rfl, ⟨by decide, by decide⟩, hR.1, hR.2⟩ FX4 0 rfl rfl rfl (Nat.le_of_ble_eq_true rfl) dL_law_727 ?_
  refine zw_icmp_eq C 792 dL_law_730 (by decide) (fun _ => ?_) (fun hne => absurd he hne)
  exact K _ ⟨a, b, B, S, V, O, G, F, T, B0, B1, B2, B3, B4, B5, B6, K0, K1, K2, K3, K4, E0, M0, M1, M2, M3, M4, M5, M6, M7, U0, U1, U2, U3, U4, U5, G0, G1, G2, G3, G4, N0, N1, N2, N3, nt2, k2, sn2, vn2, on2, g2, m2, rs2, rv2, ro2, rfl, rfl, by omega, hz, rfl⟩
set_option maxHeartbeats 2000000 in
theorem lawc_15 (C : zw_C p s mi args c D (zw_tys cI cL) A RL cL_law 4) (X : zw_X s A bs Ls xs) (hR : nc ≤ room_1.cells ∧ ns ≤ room_1.slots) (hv : ∀ j : Nat, j < 7 → vp_in (x3 + nI j) Ls) (hmm : mm + 2000 ≤ 2000000) (hI : lawInv cI cL x0 y0 mm ws) (K : ∀ ws2 : va_W, lawInv cI cL x0 y0 (mm + 2000) ws2 → zw_W p l e room_1 s mi args below meth c D A 4 Q nc ns ws2 792 [(0, .ref bs), (1, .ref x0), (2, .ref y0), (3, .int x3)] []) : zw_W p l e room_1 s mi args below meth c D A 4 Q nc ns ws 735 [(0, .ref bs), (1, .ref x0), (2, .ref y0), (3, .int x3)] [] := by
  obtain ⟨a, b, B, S, V, O, G, F, T, B0, B1, B2, B3, B4, B5, B6, K0, K1, K2, K3, K4, E0, M0, M1, M2, M3, M4, M5, M6, M7, U0, U1, U2, U3, U4, U5, G0, G1, G2, G3, G4, N0, N1, N2, N3, nt, k, sn, vn, on, g, m, rs, rv, ro, rfl, rfl, hle, h, rfl⟩ := hI
  have hm : m + 2000 ≤ 2000000 := by omega
  obtain ⟨q, hq⟩ : ∃ q, fX3_groups G (xs (x3 + 1).toNatClampNeg) (xs (x3 + 2).toNatClampNeg) = q := ⟨_, rfl⟩
  obtain ⟨r, hr⟩ : ∃ r, fX4_groups G0 G1 G2 G3 G4 (xs (x3 + 1).toNatClampNeg) (xs (x3 + 2).toNatClampNeg) = r := ⟨_, rfl⟩
  obtain ⟨he, nt2, k2, sn2, vn2, on2, g2, m2, rs2, rv2, ro2, hm2, hz⟩ := eqn_groups h hq hr
  refine zw_aload_n C dL_law_735 1 rfl rfl ?_
  refine zw_aload_n C dL_law_736 0 rfl rfl ?_
  refine zw_iload_n C dL_law_737 3 rfl rfl ?_
  refine zw_iconst (v := 1) C dL_law_738 (by decide) ?_
  refine zw_iadd C dL_law_739 ?_
  refine zw_sld C X (hv 1 (by decide)) dL_law_740 ?_
  refine zw_aload_n C dL_law_741 0 rfl rfl ?_
  refine zw_iload_n C dL_law_742 3 rfl rfl ?_
  refine zw_iconst (v := 2) C dL_law_743 (by decide) ?_
  refine zw_iadd C dL_law_744 ?_
  refine zw_sld C X (hv 2 (by decide)) dL_law_745 ?_
  refine zw_fcalll C 31 24 rfl rfl nd31 kvL_84 (kX3_groups ⟨g, h.2.2.2.2.1, h.2.2.2.2.2.1⟩ hq) ⟨rfl, rfl, ⟨by decide, by decide⟩, hR.1, hR.2⟩ FX3 0 rfl rfl rfl (Nat.le_of_ble_eq_true rfl) dL_law_746 ?_
  refine zw_aload_n C dL_law_749 2 rfl rfl ?_
  refine zw_aload_n C dL_law_750 0 rfl rfl ?_
  refine zw_iload_n C dL_law_751 3 rfl rfl ?_
  refine zw_iconst (v := 1) C dL_law_752 (by decide) ?_
  refine zw_iadd C dL_law_753 ?_
  refine zw_sld C X (hv 1 (by decide)) dL_law_754 ?_
  refine zw_aload_n C dL_law_755 0 rfl rfl ?_
  refine zw_iload_n C dL_law_756 3 rfl rfl ?_
  refine zw_iconst (v := 2) C dL_law_757 (by decide) ?_
  refine zw_iadd C dL_law_758 ?_
  refine zw_sld C X (hv 2 (by decide)) dL_law_759 ?_
  refine zw_fcalll C 24 31 rfl rfl nd24 kvL_87 (kX4_groups h.2.2.2.2.1 h.2.2.2.2.2.2.1 hr) ⟨rfl, rfl, ⟨by decide, by decide⟩, hR.1, hR.2⟩ FX4 0 rfl rfl rfl (Nat.le_of_ble_eq_true rfl) dL_law_760 ?_
  refine zw_lcmp C dL_law_763 ?_
  refine zw_if_eq C 792 dL_law_764 (by decide) (fun _ => ?_) (fun hne => absurd ((lg_cmp_eq _ _).mpr he) hne)
  exact K _ ⟨a, b, B, S, V, O, G, F, T, B0, B1, B2, B3, B4, B5, B6, K0, K1, K2, K3, K4, E0, M0, M1, M2, M3, M4, M5, M6, M7, U0, U1, U2, U3, U4, U5, G0, G1, G2, G3, G4, N0, N1, N2, N3, nt2, k2, sn2, vn2, on2, g2, m2, rs2, rv2, ro2, rfl, rfl, by omega, hz, rfl⟩
set_option maxHeartbeats 2000000 in
theorem lawc_16 (C : zw_C p s mi args c D (zw_tys cI cL) A RL cL_law 4) (X : zw_X s A bs Ls xs) (hR : nc ≤ room_1.cells ∧ ns ≤ room_1.slots) (hv : ∀ j : Nat, j < 7 → vp_in (x3 + nI j) Ls) (hmm : mm + 2000 ≤ 2000000) (hI : lawInv cI cL x0 y0 mm ws) (K : ∀ ws2 : va_W, lawInv cI cL x0 y0 (mm + 2000) ws2 → zw_W p l e room_1 s mi args below meth c D A 4 Q nc ns ws2 792 [(0, .ref bs), (1, .ref x0), (2, .ref y0), (3, .int x3)] []) : zw_W p l e room_1 s mi args below meth c D A 4 Q nc ns ws 769 [(0, .ref bs), (1, .ref x0), (2, .ref y0), (3, .int x3)] [] := by
  obtain ⟨a, b, B, S, V, O, G, F, T, B0, B1, B2, B3, B4, B5, B6, K0, K1, K2, K3, K4, E0, M0, M1, M2, M3, M4, M5, M6, M7, U0, U1, U2, U3, U4, U5, G0, G1, G2, G3, G4, N0, N1, N2, N3, nt, k, sn, vn, on, g, m, rs, rv, ro, rfl, rfl, hle, h, rfl⟩ := hI
  have hm : m + 2000 ≤ 2000000 := by omega
  obtain ⟨q, hq⟩ : ∃ q, fX3_count B S V O G T (xs (x3 + 1).toNatClampNeg) = q := ⟨_, rfl⟩
  obtain ⟨r, hr⟩ : ∃ r, fX4_count B0 B1 K0 G0 U0 U1 U2 U3 U4 U5 (xs (x3 + 1).toNatClampNeg) = r := ⟨_, rfl⟩
  obtain ⟨he, nt2, k2, sn2, vn2, on2, g2, m2, rs2, rv2, ro2, hm2, hz⟩ := eqn_count h hq hr
  refine zw_aload_n C dL_law_769 1 rfl rfl ?_
  refine zw_aload_n C dL_law_770 0 rfl rfl ?_
  refine zw_iload_n C dL_law_771 3 rfl rfl ?_
  refine zw_iconst (v := 1) C dL_law_772 (by decide) ?_
  refine zw_iadd C dL_law_773 ?_
  refine zw_sld C X (hv 1 (by decide)) dL_law_774 ?_
  refine zw_fcalli C 31 24 rfl rfl nd31 kvL_88 (kX3_count  hq) ⟨rfl, rfl, ⟨by decide, by decide⟩, hR.1, hR.2⟩ FX3 0 rfl rfl rfl (Nat.le_of_ble_eq_true rfl) dL_law_775 ?_
  refine zw_aload_n C dL_law_778 2 rfl rfl ?_
  refine zw_aload_n C dL_law_779 0 rfl rfl ?_
  refine zw_iload_n C dL_law_780 3 rfl rfl ?_
  refine zw_iconst (v := 1) C dL_law_781 (by decide) ?_
  refine zw_iadd C dL_law_782 ?_
  refine zw_sld C X (hv 1 (by decide)) dL_law_783 ?_
  refine zw_fcalli C 24 31 rfl rfl nd24 kvL_91 (kX4_count  hr) ⟨rfl, rfl, ⟨by decide, by decide⟩, hR.1, hR.2⟩ FX4 0 rfl rfl rfl (Nat.le_of_ble_eq_true rfl) dL_law_784 ?_
  refine zw_icmp_eq C 792 dL_law_787 (by decide) (fun _ => ?_) (fun hne => absurd he hne)
  exact K _ ⟨a, b, B, S, V, O, G, F, T, B0, B1, B2, B3, B4, B5, B6, K0, K1, K2, K3, K4, E0, M0, M1, M2, M3, M4, M5, M6, M7, U0, U1, U2, U3, U4, U5, G0, G1, G2, G3, G4, N0, N1, N2, N3, nt2, k2, sn2, vn2, on2, g2, m2, rs2, rv2, ro2, rfl, rfl, by omega, hz, rfl⟩
end ZLW
