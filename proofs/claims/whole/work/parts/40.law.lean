abbrev m_law : pm_M := (x, code, 4, ret, room_1)
def th_u (w : Int64) : Nat := w.toBitVec.toNat
theorem th_lN_u (w : Int64) : lN (th_u w) = w := Int64.toBitVec_inj.mp (by rw [th_u, lN]; simp [Int64.ofNat])
theorem th_u_lt (w : Int64) : th_u w < 2 ^ 64 := w.toBitVec.isLt
theorem c_X11_lettersW {l : Launch} {G : pm_G} {ad : Nat → Nat → Nat} {S : Nat → Nat} {A : Nat → Nat → Int32} {X : Nat → Int32} {Y : Nat → Nat → Int32} {F : Nat → Int64} {Hd Cs : Nat → Option Nat} {m : List pm_A} {Q : pm_T} {v : Int64} (hI : th_I S A) (hQ : Q ad (some (.int (th_letA S (th_u v)))) (th_cw ad (th_letS S (th_u v)) (th_letT S A (th_u v)) X Y F Hd Cs m)) : pm_C l G m_X11_letters [.ref (ad 0 0), .long v] ad (th_cw ad S A X Y F Hd Cs m) Q := by
  have h := c_X11_letters (l := l) (G := G) (n := th_u v) hI (th_u_lt v) hQ
  rw [th_lN_u] at h
  exact h
theorem c_X12_lettersW {l : Launch} {G : pm_G} {ad : Nat → Nat → Nat} {a0 a3 a4 a5 a6 a7 : List pm_A} {a1 a2 : Nat → Option pm_A} {S : Nat → Nat} {A : Nat → Nat → Int32} {s : Nat → Int32} {B : Nat → Nat → Int32} {hs : Int64} {Q : pm_T} {v : Int64} (hI : th_I S A) (hQ : Q ad (some (.int (th_letA S (th_u v)))) (a0, a1, a2, a3, a4, a5, a6, a7, th_mp ad (th_letS S (th_u v)) (th_letT S A (th_u v)) s B hs)) : pm_C l G m_X12_letters [.ref (ad 8 0), .long v] ad (a0, a1, a2, a3, a4, a5, a6, a7, th_mp ad S A s B hs) Q := by
  have h := c_X12_letters (l := l) (G := G) (n := th_u v) hI (th_u_lt v) hQ
  rw [th_lN_u] at h
  exact h
set_option maxHeartbeats 600000 in
set_option maxRecDepth 100000 in
theorem lw_c0 {l : Launch} {G : pm_G} {ad : Nat → Nat → Nat} {S : Nat → Nat} {A : Nat → Nat → Int32} {X : Nat → Int32} {Y : Nat → Nat → Int32} {F : Nat → Int64} {Hd Cs : Nat → Option Nat} {s : Nat → Int32} {B : Nat → Nat → Int32} {hs : Int64} {Q : pm_T} {t cs ss : Nat} (hV : th_V ad S A Y Cs) (hL : 7 * t + 7 ≤ G.2.2.2.2.1) (hL2 : G.2.2.2.2.1 ≤ 448) (hcs : cs ≤ 1000) (hss : ss ≤ 10000) (kk : ∀ ad2 S2 A2 X2 Y2 F2 Hd2 Cs2 s2 B2 hs2 cs2 ss2, th_V ad2 S2 A2 Y2 Cs2 → cs2 ≤ cs + 1 → ss2 ≤ ss + 13 → pm_W l G m_law ad2 1286 [(3, .int (nI (7 * t))), (2, .ref (ad2 8 0)), (1, .ref (ad2 0 0)), (0, .ref G.2.2.2.1)] [] (th_cw ad2 S2 A2 X2 Y2 F2 Hd2 Cs2 (th_mp ad2 S2 A2 s2 B2 hs2)) cs2 ss2 Q) : pm_W l G m_law ad 180 [(3, .int (nI (7 * t))), (2, .ref (ad 8 0)), (1, .ref (ad 0 0)), (0, .ref G.2.2.2.1)] [] (th_cw ad S A X Y F Hd Cs (th_mp ad S A s B hs)) cs ss Q := by
  refine pm_aload_n dL_law_180 rfl rfl ?_
  refine pm_aload_n dL_law_181 rfl rfl ?_
  refine pm_iload_n dL_law_182 rfl rfl ?_
  refine pm_iconst (v := 1) dL_law_183 (by decide) ?_
  refine pm_iadd dL_law_184 ?_
  rw [show nI (7 * t) + 1 = nI (7 * t + 1) from nI_add _ 1]
  refine pm_sld dL_law_185 (th_in (by omega) (by omega)) ?_
  refine pm_i2l dL_law_186 ?_
  refine pm_bipush (v := 32) dL_law_187 (by decide) ?_
  refine pm_lshl dL_law_189 ?_
  refine pm_aload_n dL_law_190 rfl rfl ?_
  refine pm_iload_n dL_law_191 rfl rfl ?_
  refine pm_iconst (v := 2) dL_law_192 (by decide) ?_
  refine pm_iadd dL_law_193 ?_
  rw [show nI (7 * t) + 2 = nI (7 * t + 2) from nI_add _ 2]
  refine pm_sld dL_law_194 (th_in (by omega) (by omega)) ?_
  refine pm_i2l dL_law_195 ?_
  refine pm_ldc2 kw_1373 dL_law_196 ?_
  refine pm_land dL_law_199 ?_
  refine pm_lor dL_law_200 ?_
  refine pm_callV (M2 := m_X11_letters) (As := [_]) ok_X11_letters (ci := 11) rfl kw_275 kw_276 kw_277 dL_law_201 rfl rfl rfl (Nat.le_of_ble_eq_true rfl) ⟨⟨Nat.le_of_ble_eq_true rfl, Nat.le_of_ble_eq_true rfl⟩, (show cs + 0 ≤ 600000 by omega), (show ss + 0 ≤ 7302250 by omega)⟩ ?_
  refine c_X11_lettersW hV.1 ?_
  refine pm_aload_n dL_law_204 rfl rfl ?_
  refine pm_aload_n dL_law_205 rfl rfl ?_
  refine pm_iload_n dL_law_206 rfl rfl ?_
  refine pm_iconst (v := 1) dL_law_207 (by decide) ?_
  refine pm_iadd dL_law_208 ?_
  rw [show nI (7 * t) + 1 = nI (7 * t + 1) from nI_add _ 1]
  refine pm_sld dL_law_209 (th_in (by omega) (by omega)) ?_
  refine pm_i2l dL_law_210 ?_
  refine pm_bipush (v := 32) dL_law_211 (by decide) ?_
  refine pm_lshl dL_law_213 ?_
  refine pm_aload_n dL_law_214 rfl rfl ?_
  refine pm_iload_n dL_law_215 rfl rfl ?_
  refine pm_iconst (v := 2) dL_law_216 (by decide) ?_
  refine pm_iadd dL_law_217 ?_
  rw [show nI (7 * t) + 2 = nI (7 * t + 2) from nI_add _ 2]
  refine pm_sld dL_law_218 (th_in (by omega) (by omega)) ?_
  refine pm_i2l dL_law_219 ?_
  refine pm_ldc2 kw_1373 dL_law_220 ?_
  refine pm_land dL_law_223 ?_
  refine pm_lor dL_law_224 ?_
  refine pm_callV (M2 := m_X12_letters) (As := [_]) ok_X12_letters (ci := 12) rfl kw_1092 kw_1093 kw_1094 dL_law_225 rfl rfl rfl (Nat.le_of_ble_eq_true rfl) ⟨⟨Nat.le_of_ble_eq_true rfl, Nat.le_of_ble_eq_true rfl⟩, (show cs + 0 + 0 ≤ 600000 by omega), (show ss + 0 + 0 ≤ 7302250 by omega)⟩ ?_
  refine c_X12_lettersW hV.1 ?_
  refine pm_icmp_eq (tgt := 1286) dL_law_228 (by decide) (fun c_228 => ?_) (fun c_228 => absurd (rfl) c_228)
  exact kk ad (th_letS S (th_u _)) (th_letT S A (th_u _)) X Y F Hd Cs s B hs (cs + 0 + 0) (ss + 0 + 0) (th_V_letters hV _) (by omega) (by omega)

set_option maxHeartbeats 600000 in
set_option maxRecDepth 100000 in
theorem lw_c1 {l : Launch} {G : pm_G} {ad : Nat → Nat → Nat} {S : Nat → Nat} {A : Nat → Nat → Int32} {X : Nat → Int32} {Y : Nat → Nat → Int32} {F : Nat → Int64} {Hd Cs : Nat → Option Nat} {s : Nat → Int32} {B : Nat → Nat → Int32} {hs : Int64} {Q : pm_T} {t cs ss : Nat} (hV : th_V ad S A Y Cs) (hL : 7 * t + 7 ≤ G.2.2.2.2.1) (hL2 : G.2.2.2.2.1 ≤ 448) (hcs : cs ≤ 1000) (hss : ss ≤ 10000) (kk : ∀ ad2 S2 A2 X2 Y2 F2 Hd2 Cs2 s2 B2 hs2 cs2 ss2, th_V ad2 S2 A2 Y2 Cs2 → cs2 ≤ cs + 1 → ss2 ≤ ss + 13 → pm_W l G m_law ad2 1286 [(3, .int (nI (7 * t))), (2, .ref (ad2 8 0)), (1, .ref (ad2 0 0)), (0, .ref G.2.2.2.1)] [] (th_cw ad2 S2 A2 X2 Y2 F2 Hd2 Cs2 (th_mp ad2 S2 A2 s2 B2 hs2)) cs2 ss2 Q) : pm_W l G m_law ad 233 [(3, .int (nI (7 * t))), (2, .ref (ad 8 0)), (1, .ref (ad 0 0)), (0, .ref G.2.2.2.1)] [] (th_cw ad S A X Y F Hd Cs (th_mp ad S A s B hs)) cs ss Q := by
  refine pm_aload_n dL_law_233 rfl rfl ?_
  refine pm_callV (M2 := m_X11_blank) (As := []) ok_X11_blank (ci := 11) rfl kw_289 kw_290 kw_291 dL_law_234 rfl rfl rfl (Nat.le_of_ble_eq_true rfl) ⟨⟨Nat.le_of_ble_eq_true rfl, Nat.le_of_ble_eq_true rfl⟩, (show cs + 0 ≤ 600000 by omega), (show ss + 0 ≤ 7302250 by omega)⟩ ?_
  refine c_X11_blank ?_
  refine pm_aload_n dL_law_237 rfl rfl ?_
  refine pm_callV (M2 := m_X12_blank) (As := []) ok_X12_blank (ci := 12) rfl kw_1097 kw_1098 kw_1099 dL_law_238 rfl rfl rfl (Nat.le_of_ble_eq_true rfl) ⟨⟨Nat.le_of_ble_eq_true rfl, Nat.le_of_ble_eq_true rfl⟩, (show cs + 0 + 0 ≤ 600000 by omega), (show ss + 0 + 0 ≤ 7302250 by omega)⟩ ?_
  refine c_X12_blank ?_
  refine pm_icmp_eq (tgt := 1286) dL_law_241 (by decide) (fun c_241 => ?_) (fun c_241 => absurd (rfl) c_241)
  exact kk ad (va_up S 1 0) A X Y F Hd Cs s B hs (cs + 0 + 0) (ss + 0 + 0) (th_V_blank hV) (by omega) (by omega)

set_option maxHeartbeats 600000 in
set_option maxRecDepth 100000 in
theorem lw_c2 {l : Launch} {G : pm_G} {ad : Nat → Nat → Nat} {S : Nat → Nat} {A : Nat → Nat → Int32} {X : Nat → Int32} {Y : Nat → Nat → Int32} {F : Nat → Int64} {Hd Cs : Nat → Option Nat} {s : Nat → Int32} {B : Nat → Nat → Int32} {hs : Int64} {Q : pm_T} {t cs ss : Nat} (hV : th_V ad S A Y Cs) (hL : 7 * t + 7 ≤ G.2.2.2.2.1) (hL2 : G.2.2.2.2.1 ≤ 448) (hcs : cs ≤ 1000) (hss : ss ≤ 10000) (kk : ∀ ad2 S2 A2 X2 Y2 F2 Hd2 Cs2 s2 B2 hs2 cs2 ss2, th_V ad2 S2 A2 Y2 Cs2 → cs2 ≤ cs + 1 → ss2 ≤ ss + 13 → pm_W l G m_law ad2 1286 [(3, .int (nI (7 * t))), (2, .ref (ad2 8 0)), (1, .ref (ad2 0 0)), (0, .ref G.2.2.2.1)] [] (th_cw ad2 S2 A2 X2 Y2 F2 Hd2 Cs2 (th_mp ad2 S2 A2 s2 B2 hs2)) cs2 ss2 Q) : pm_W l G m_law ad 246 [(3, .int (nI (7 * t))), (2, .ref (ad 8 0)), (1, .ref (ad 0 0)), (0, .ref G.2.2.2.1)] [] (th_cw ad S A X Y F Hd Cs (th_mp ad S A s B hs)) cs ss Q := by
  refine pm_aload_n dL_law_246 rfl rfl ?_
  refine pm_callV (M2 := m_X11_fault) (As := []) ok_X11_fault (ci := 11) rfl kw_297 kw_298 kw_299 dL_law_247 rfl rfl rfl (Nat.le_of_ble_eq_true rfl) ⟨⟨Nat.le_of_ble_eq_true rfl, Nat.le_of_ble_eq_true rfl⟩, (show cs + 0 ≤ 600000 by omega), (show ss + 0 ≤ 7302250 by omega)⟩ ?_
  refine c_X11_fault hV.1 (fun X2 y2 => ?_)
  refine pm_aload_n dL_law_250 rfl rfl ?_
  refine pm_callV (M2 := m_X12_fault) (As := []) ok_X12_fault (ci := 12) rfl kw_1101 kw_1102 kw_1103 dL_law_251 rfl rfl rfl (Nat.le_of_ble_eq_true rfl) ⟨⟨Nat.le_of_ble_eq_true rfl, Nat.le_of_ble_eq_true rfl⟩, (show cs + 0 + 0 ≤ 600000 by omega), (show ss + 0 + 0 ≤ 7302250 by omega)⟩ ?_
  refine c_X12_fault hV.1 (fun s2 B2 => ?_)
  refine pm_icmp_eq (tgt := 1286) dL_law_254 (by decide) (fun c_254 => ?_) (fun c_254 => absurd (rfl) c_254)
  exact kk ad S A X2 (va_up Y 1 y2) F Hd Cs s2 B2 hs (cs + 0 + 0) (ss + 0 + 0) (hV) (by omega) (by omega)

set_option maxHeartbeats 600000 in
set_option maxRecDepth 100000 in
theorem lw_c3 {l : Launch} {G : pm_G} {ad : Nat → Nat → Nat} {S : Nat → Nat} {A : Nat → Nat → Int32} {X : Nat → Int32} {Y : Nat → Nat → Int32} {F : Nat → Int64} {Hd Cs : Nat → Option Nat} {s : Nat → Int32} {B : Nat → Nat → Int32} {hs : Int64} {Q : pm_T} {t cs ss : Nat} (hV : th_V ad S A Y Cs) (hL : 7 * t + 7 ≤ G.2.2.2.2.1) (hL2 : G.2.2.2.2.1 ≤ 448) (hcs : cs ≤ 1000) (hss : ss ≤ 10000) (kk : ∀ ad2 S2 A2 X2 Y2 F2 Hd2 Cs2 s2 B2 hs2 cs2 ss2, th_V ad2 S2 A2 Y2 Cs2 → cs2 ≤ cs + 1 → ss2 ≤ ss + 13 → pm_W l G m_law ad2 1286 [(3, .int (nI (7 * t))), (2, .ref (ad2 8 0)), (1, .ref (ad2 0 0)), (0, .ref G.2.2.2.1)] [] (th_cw ad2 S2 A2 X2 Y2 F2 Hd2 Cs2 (th_mp ad2 S2 A2 s2 B2 hs2)) cs2 ss2 Q) : pm_W l G m_law ad 259 [(3, .int (nI (7 * t))), (2, .ref (ad 8 0)), (1, .ref (ad 0 0)), (0, .ref G.2.2.2.1)] [] (th_cw ad S A X Y F Hd Cs (th_mp ad S A s B hs)) cs ss Q := by
  refine pm_aload_n dL_law_259 rfl rfl ?_
  refine pm_callV (M2 := m_X11_school) (As := []) ok_X11_school (ci := 11) rfl kw_340 kw_341 kw_342 dL_law_260 rfl rfl rfl (Nat.le_of_ble_eq_true rfl) ⟨⟨Nat.le_of_ble_eq_true rfl, Nat.le_of_ble_eq_true rfl⟩, (show cs + 1 ≤ 600000 by omega), (show ss + 8 ≤ 7302250 by omega)⟩ ?_
  refine c_X11_school hV.1 (fun b X2 y2 hb => ?_)
  rw [← hb.2.2.2.2.2 8 0 (by decide), ← hb.1 0, ← th_mp_ad hb]
  refine pm_aload_n dL_law_263 rfl rfl ?_
  refine pm_callV (M2 := m_X12_school) (As := []) ok_X12_school (ci := 12) rfl kw_1118 kw_1119 kw_1120 dL_law_264 rfl rfl rfl (Nat.le_of_ble_eq_true rfl) ⟨⟨Nat.le_of_ble_eq_true rfl, Nat.le_of_ble_eq_true rfl⟩, (show cs + 1 + 0 ≤ 600000 by omega), (show ss + 8 + 0 ≤ 7302250 by omega)⟩ ?_
  refine c_X12_school hV.1 (fun s2 B2 => ?_)
  refine pm_icmp_eq (tgt := 1286) dL_law_267 (by decide) (fun c_267 => ?_) (fun c_267 => absurd (rfl) c_267)
  exact kk b (th_schS S A) (th_schT S A) X2 (va_up Y 1 y2) F Hd Cs s2 B2 hs (cs + 1 + 0) (ss + 8 + 0) (th_V_school (Y := va_up Y 1 y2) hV hb) (by omega) (by omega)

set_option maxHeartbeats 600000 in
set_option maxRecDepth 100000 in
theorem lw_c4 {l : Launch} {G : pm_G} {ad : Nat → Nat → Nat} {S : Nat → Nat} {A : Nat → Nat → Int32} {X : Nat → Int32} {Y : Nat → Nat → Int32} {F : Nat → Int64} {Hd Cs : Nat → Option Nat} {s : Nat → Int32} {B : Nat → Nat → Int32} {hs : Int64} {Q : pm_T} {t cs ss : Nat} (hV : th_V ad S A Y Cs) (hL : 7 * t + 7 ≤ G.2.2.2.2.1) (hL2 : G.2.2.2.2.1 ≤ 448) (hcs : cs ≤ 1000) (hss : ss ≤ 10000) (kk : ∀ ad2 S2 A2 X2 Y2 F2 Hd2 Cs2 s2 B2 hs2 cs2 ss2, th_V ad2 S2 A2 Y2 Cs2 → cs2 ≤ cs + 1 → ss2 ≤ ss + 13 → pm_W l G m_law ad2 1286 [(3, .int (nI (7 * t))), (2, .ref (ad2 8 0)), (1, .ref (ad2 0 0)), (0, .ref G.2.2.2.1)] [] (th_cw ad2 S2 A2 X2 Y2 F2 Hd2 Cs2 (th_mp ad2 S2 A2 s2 B2 hs2)) cs2 ss2 Q) : pm_W l G m_law ad 272 [(3, .int (nI (7 * t))), (2, .ref (ad 8 0)), (1, .ref (ad 0 0)), (0, .ref G.2.2.2.1)] [] (th_cw ad S A X Y F Hd Cs (th_mp ad S A s B hs)) cs ss Q := by
  refine pm_aload_n dL_law_272 rfl rfl ?_
  refine pm_aload_n dL_law_273 rfl rfl ?_
  refine pm_iload_n dL_law_274 rfl rfl ?_
  refine pm_iconst (v := 1) dL_law_275 (by decide) ?_
  refine pm_iadd dL_law_276 ?_
  rw [show nI (7 * t) + 1 = nI (7 * t + 1) from nI_add _ 1]
  refine pm_sld dL_law_277 (th_in (by omega) (by omega)) ?_
  refine pm_aload_n dL_law_278 rfl rfl ?_
  refine pm_iload_n dL_law_279 rfl rfl ?_
  refine pm_iconst (v := 2) dL_law_280 (by decide) ?_
  refine pm_iadd dL_law_281 ?_
  rw [show nI (7 * t) + 2 = nI (7 * t + 2) from nI_add _ 2]
  refine pm_sld dL_law_282 (th_in (by omega) (by omega)) ?_
  refine pm_aload_n dL_law_283 rfl rfl ?_
  refine pm_iload_n dL_law_284 rfl rfl ?_
  refine pm_iconst (v := 3) dL_law_285 (by decide) ?_
  refine pm_iadd dL_law_286 ?_
  rw [show nI (7 * t) + 3 = nI (7 * t + 3) from nI_add _ 3]
  refine pm_sld dL_law_287 (th_in (by omega) (by omega)) ?_
  refine pm_callV (M2 := m_X11_counts) (As := [_, _, _]) ok_X11_counts (ci := 11) rfl kw_353 kw_354 kw_355 dL_law_288 rfl rfl rfl (Nat.le_of_ble_eq_true rfl) ⟨⟨Nat.le_of_ble_eq_true rfl, Nat.le_of_ble_eq_true rfl⟩, (show cs + 0 ≤ 600000 by omega), (show ss + 0 ≤ 7302250 by omega)⟩ ?_
  refine c_X11_counts hV.1 ?_
  refine pm_aload_n dL_law_291 rfl rfl ?_
  refine pm_aload_n dL_law_292 rfl rfl ?_
  refine pm_iload_n dL_law_293 rfl rfl ?_
  refine pm_iconst (v := 1) dL_law_294 (by decide) ?_
  refine pm_iadd dL_law_295 ?_
  rw [show nI (7 * t) + 1 = nI (7 * t + 1) from nI_add _ 1]
  refine pm_sld dL_law_296 (th_in (by omega) (by omega)) ?_
  refine pm_aload_n dL_law_297 rfl rfl ?_
  refine pm_iload_n dL_law_298 rfl rfl ?_
  refine pm_iconst (v := 2) dL_law_299 (by decide) ?_
  refine pm_iadd dL_law_300 ?_
  rw [show nI (7 * t) + 2 = nI (7 * t + 2) from nI_add _ 2]
  refine pm_sld dL_law_301 (th_in (by omega) (by omega)) ?_
  refine pm_aload_n dL_law_302 rfl rfl ?_
  refine pm_iload_n dL_law_303 rfl rfl ?_
  refine pm_iconst (v := 3) dL_law_304 (by decide) ?_
  refine pm_iadd dL_law_305 ?_
  rw [show nI (7 * t) + 3 = nI (7 * t + 3) from nI_add _ 3]
  refine pm_sld dL_law_306 (th_in (by omega) (by omega)) ?_
  refine pm_callV (M2 := m_X12_counts) (As := [_, _, _]) ok_X12_counts (ci := 12) rfl kw_1122 kw_1123 kw_1124 dL_law_307 rfl rfl rfl (Nat.le_of_ble_eq_true rfl) ⟨⟨Nat.le_of_ble_eq_true rfl, Nat.le_of_ble_eq_true rfl⟩, (show cs + 0 + 0 ≤ 600000 by omega), (show ss + 0 + 0 ≤ 7302250 by omega)⟩ ?_
  refine c_X12_counts hV.1 ?_
  refine pm_icmp_eq (tgt := 1286) dL_law_310 (by decide) (fun c_310 => ?_) (fun c_310 => absurd (rfl) c_310)
  exact kk ad S A X Y F Hd Cs s B hs (cs + 0 + 0) (ss + 0 + 0) (hV) (by omega) (by omega)

set_option maxHeartbeats 600000 in
set_option maxRecDepth 100000 in
theorem lw_c5 {l : Launch} {G : pm_G} {ad : Nat → Nat → Nat} {S : Nat → Nat} {A : Nat → Nat → Int32} {X : Nat → Int32} {Y : Nat → Nat → Int32} {F : Nat → Int64} {Hd Cs : Nat → Option Nat} {s : Nat → Int32} {B : Nat → Nat → Int32} {hs : Int64} {Q : pm_T} {t cs ss : Nat} (hV : th_V ad S A Y Cs) (hL : 7 * t + 7 ≤ G.2.2.2.2.1) (hL2 : G.2.2.2.2.1 ≤ 448) (hcs : cs ≤ 1000) (hss : ss ≤ 10000) (kk : ∀ ad2 S2 A2 X2 Y2 F2 Hd2 Cs2 s2 B2 hs2 cs2 ss2, th_V ad2 S2 A2 Y2 Cs2 → cs2 ≤ cs + 1 → ss2 ≤ ss + 13 → pm_W l G m_law ad2 1286 [(3, .int (nI (7 * t))), (2, .ref (ad2 8 0)), (1, .ref (ad2 0 0)), (0, .ref G.2.2.2.1)] [] (th_cw ad2 S2 A2 X2 Y2 F2 Hd2 Cs2 (th_mp ad2 S2 A2 s2 B2 hs2)) cs2 ss2 Q) : pm_W l G m_law ad 315 [(3, .int (nI (7 * t))), (2, .ref (ad 8 0)), (1, .ref (ad 0 0)), (0, .ref G.2.2.2.1)] [] (th_cw ad S A X Y F Hd Cs (th_mp ad S A s B hs)) cs ss Q := by
  refine pm_aload_n dL_law_315 rfl rfl ?_
  refine pm_aload_n dL_law_316 rfl rfl ?_
  refine pm_iload_n dL_law_317 rfl rfl ?_
  refine pm_iconst (v := 1) dL_law_318 (by decide) ?_
  refine pm_iadd dL_law_319 ?_
  rw [show nI (7 * t) + 1 = nI (7 * t + 1) from nI_add _ 1]
  refine pm_sld dL_law_320 (th_in (by omega) (by omega)) ?_
  refine pm_callV (M2 := m_X11_meeting) (As := [_]) ok_X11_meeting (ci := 11) rfl kw_374 kw_375 kw_376 dL_law_321 rfl rfl rfl (Nat.le_of_ble_eq_true rfl) ⟨⟨Nat.le_of_ble_eq_true rfl, Nat.le_of_ble_eq_true rfl⟩, (show cs + 0 ≤ 600000 by omega), (show ss + 0 ≤ 7302250 by omega)⟩ ?_
  refine c_X11_meeting ?_
  refine pm_aload_n dL_law_324 rfl rfl ?_
  refine pm_aload_n dL_law_325 rfl rfl ?_
  refine pm_iload_n dL_law_326 rfl rfl ?_
  refine pm_iconst (v := 1) dL_law_327 (by decide) ?_
  refine pm_iadd dL_law_328 ?_
  rw [show nI (7 * t) + 1 = nI (7 * t + 1) from nI_add _ 1]
  refine pm_sld dL_law_329 (th_in (by omega) (by omega)) ?_
  refine pm_callV (M2 := m_X12_meeting) (As := [_]) ok_X12_meeting (ci := 12) rfl kw_1138 kw_1139 kw_1140 dL_law_330 rfl rfl rfl (Nat.le_of_ble_eq_true rfl) ⟨⟨Nat.le_of_ble_eq_true rfl, Nat.le_of_ble_eq_true rfl⟩, (show cs + 0 + 0 ≤ 600000 by omega), (show ss + 0 + 0 ≤ 7302250 by omega)⟩ ?_
  refine c_X12_meeting ?_
  refine pm_icmp_eq (tgt := 1286) dL_law_333 (by decide) (fun c_333 => ?_) (fun c_333 => absurd (rfl) c_333)
  exact kk ad (th_meetS S _) A X Y F Hd Cs s B hs (cs + 0 + 0) (ss + 0 + 0) (th_V_meet hV _) (by omega) (by omega)

set_option maxHeartbeats 600000 in
set_option maxRecDepth 100000 in
theorem lw_c6 {l : Launch} {G : pm_G} {ad : Nat → Nat → Nat} {S : Nat → Nat} {A : Nat → Nat → Int32} {X : Nat → Int32} {Y : Nat → Nat → Int32} {F : Nat → Int64} {Hd Cs : Nat → Option Nat} {s : Nat → Int32} {B : Nat → Nat → Int32} {hs : Int64} {Q : pm_T} {t cs ss : Nat} (hV : th_V ad S A Y Cs) (hL : 7 * t + 7 ≤ G.2.2.2.2.1) (hL2 : G.2.2.2.2.1 ≤ 448) (hcs : cs ≤ 1000) (hss : ss ≤ 10000) (kk : ∀ ad2 S2 A2 X2 Y2 F2 Hd2 Cs2 s2 B2 hs2 cs2 ss2, th_V ad2 S2 A2 Y2 Cs2 → cs2 ≤ cs + 1 → ss2 ≤ ss + 13 → pm_W l G m_law ad2 1286 [(3, .int (nI (7 * t))), (2, .ref (ad2 8 0)), (1, .ref (ad2 0 0)), (0, .ref G.2.2.2.1)] [] (th_cw ad2 S2 A2 X2 Y2 F2 Hd2 Cs2 (th_mp ad2 S2 A2 s2 B2 hs2)) cs2 ss2 Q) : pm_W l G m_law ad 338 [(3, .int (nI (7 * t))), (2, .ref (ad 8 0)), (1, .ref (ad 0 0)), (0, .ref G.2.2.2.1)] [] (th_cw ad S A X Y F Hd Cs (th_mp ad S A s B hs)) cs ss Q := by
  refine pm_aload_n dL_law_338 rfl rfl ?_
  refine pm_aload_n dL_law_339 rfl rfl ?_
  refine pm_iload_n dL_law_340 rfl rfl ?_
  refine pm_iconst (v := 1) dL_law_341 (by decide) ?_
  refine pm_iadd dL_law_342 ?_
  rw [show nI (7 * t) + 1 = nI (7 * t + 1) from nI_add _ 1]
  refine pm_sld dL_law_343 (th_in (by omega) (by omega)) ?_
  refine pm_aload_n dL_law_344 rfl rfl ?_
  refine pm_iload_n dL_law_345 rfl rfl ?_
  refine pm_iconst (v := 2) dL_law_346 (by decide) ?_
  refine pm_iadd dL_law_347 ?_
  rw [show nI (7 * t) + 2 = nI (7 * t + 2) from nI_add _ 2]
  refine pm_sld dL_law_348 (th_in (by omega) (by omega)) ?_
  refine pm_aload_n dL_law_349 rfl rfl ?_
  refine pm_iload_n dL_law_350 rfl rfl ?_
  refine pm_iconst (v := 3) dL_law_351 (by decide) ?_
  refine pm_iadd dL_law_352 ?_
  rw [show nI (7 * t) + 3 = nI (7 * t + 3) from nI_add _ 3]
  refine pm_sld dL_law_353 (th_in (by omega) (by omega)) ?_
  refine pm_aload_n dL_law_354 rfl rfl ?_
  refine pm_iload_n dL_law_355 rfl rfl ?_
  refine pm_iconst (v := 4) dL_law_356 (by decide) ?_
  refine pm_iadd dL_law_357 ?_
  rw [show nI (7 * t) + 4 = nI (7 * t + 4) from nI_add _ 4]
  refine pm_sld dL_law_358 (th_in (by omega) (by omega)) ?_
  refine pm_aload_n dL_law_359 rfl rfl ?_
  refine pm_iload_n dL_law_360 rfl rfl ?_
  refine pm_iconst (v := 5) dL_law_361 (by decide) ?_
  refine pm_iadd dL_law_362 ?_
  rw [show nI (7 * t) + 5 = nI (7 * t + 5) from nI_add _ 5]
  refine pm_sld dL_law_363 (th_in (by omega) (by omega)) ?_
  refine pm_callV (M2 := m_X11_nut) (As := [_, _, _, _, _]) ok_X11_nut (ci := 11) rfl kw_378 kw_379 kw_380 dL_law_364 rfl rfl rfl (Nat.le_of_ble_eq_true rfl) ⟨⟨Nat.le_of_ble_eq_true rfl, Nat.le_of_ble_eq_true rfl⟩, (show cs + 1 ≤ 600000 by omega), (show ss + 13 ≤ 7302250 by omega)⟩ ?_
  refine c_X11_nut hV.1 (fun b hb h32 => ?_)
  rw [← hb.2.2.2.2.2 8 0 (by decide), ← hb.1 0, ← th_mp_ad hb]
  refine pm_aload_n dL_law_367 rfl rfl ?_
  refine pm_aload_n dL_law_368 rfl rfl ?_
  refine pm_iload_n dL_law_369 rfl rfl ?_
  refine pm_iconst (v := 1) dL_law_370 (by decide) ?_
  refine pm_iadd dL_law_371 ?_
  rw [show nI (7 * t) + 1 = nI (7 * t + 1) from nI_add _ 1]
  refine pm_sld dL_law_372 (th_in (by omega) (by omega)) ?_
  refine pm_aload_n dL_law_373 rfl rfl ?_
  refine pm_iload_n dL_law_374 rfl rfl ?_
  refine pm_iconst (v := 2) dL_law_375 (by decide) ?_
  refine pm_iadd dL_law_376 ?_
  rw [show nI (7 * t) + 2 = nI (7 * t + 2) from nI_add _ 2]
  refine pm_sld dL_law_377 (th_in (by omega) (by omega)) ?_
  refine pm_aload_n dL_law_378 rfl rfl ?_
  refine pm_iload_n dL_law_379 rfl rfl ?_
  refine pm_iconst (v := 3) dL_law_380 (by decide) ?_
  refine pm_iadd dL_law_381 ?_
  rw [show nI (7 * t) + 3 = nI (7 * t + 3) from nI_add _ 3]
  refine pm_sld dL_law_382 (th_in (by omega) (by omega)) ?_
  refine pm_aload_n dL_law_383 rfl rfl ?_
  refine pm_iload_n dL_law_384 rfl rfl ?_
  refine pm_iconst (v := 4) dL_law_385 (by decide) ?_
  refine pm_iadd dL_law_386 ?_
  rw [show nI (7 * t) + 4 = nI (7 * t + 4) from nI_add _ 4]
  refine pm_sld dL_law_387 (th_in (by omega) (by omega)) ?_
  refine pm_aload_n dL_law_388 rfl rfl ?_
  refine pm_iload_n dL_law_389 rfl rfl ?_
  refine pm_iconst (v := 5) dL_law_390 (by decide) ?_
  refine pm_iadd dL_law_391 ?_
  rw [show nI (7 * t) + 5 = nI (7 * t + 5) from nI_add _ 5]
  refine pm_sld dL_law_392 (th_in (by omega) (by omega)) ?_
  refine pm_callV (M2 := m_X12_nut) (As := [_, _, _, _, _]) ok_X12_nut (ci := 12) rfl kw_1143 kw_1144 kw_1145 dL_law_393 rfl rfl rfl (Nat.le_of_ble_eq_true rfl) ⟨⟨Nat.le_of_ble_eq_true rfl, Nat.le_of_ble_eq_true rfl⟩, (show cs + 1 + 0 ≤ 600000 by omega), (show ss + 13 + 0 ≤ 7302250 by omega)⟩ ?_
  refine c_X12_nut hV.1 ?_
  refine pm_icmp_eq (tgt := 1286) dL_law_396 (by decide) (fun c_396 => ?_) (fun c_396 => absurd (rfl) c_396)
  exact kk b (th_nutS S _ _ _ _ _) (th_nutT S A _ _ _ _ _) X (th_nutY S Y _ _ _ _ _) F Hd Cs s B hs (cs + 1 + 0) (ss + 13 + 0) (th_V_nut hV hb _ _ _ _ _) (by omega) (by omega)

set_option maxHeartbeats 600000 in
set_option maxRecDepth 100000 in
theorem lw_c7 {l : Launch} {G : pm_G} {ad : Nat → Nat → Nat} {S : Nat → Nat} {A : Nat → Nat → Int32} {X : Nat → Int32} {Y : Nat → Nat → Int32} {F : Nat → Int64} {Hd Cs : Nat → Option Nat} {s : Nat → Int32} {B : Nat → Nat → Int32} {hs : Int64} {Q : pm_T} {t cs ss : Nat} (hV : th_V ad S A Y Cs) (hL : 7 * t + 7 ≤ G.2.2.2.2.1) (hL2 : G.2.2.2.2.1 ≤ 448) (hcs : cs ≤ 1000) (hss : ss ≤ 10000) (kk : ∀ ad2 S2 A2 X2 Y2 F2 Hd2 Cs2 s2 B2 hs2 cs2 ss2, th_V ad2 S2 A2 Y2 Cs2 → cs2 ≤ cs + 1 → ss2 ≤ ss + 13 → pm_W l G m_law ad2 1286 [(3, .int (nI (7 * t))), (2, .ref (ad2 8 0)), (1, .ref (ad2 0 0)), (0, .ref G.2.2.2.1)] [] (th_cw ad2 S2 A2 X2 Y2 F2 Hd2 Cs2 (th_mp ad2 S2 A2 s2 B2 hs2)) cs2 ss2 Q) : pm_W l G m_law ad 401 [(3, .int (nI (7 * t))), (2, .ref (ad 8 0)), (1, .ref (ad 0 0)), (0, .ref G.2.2.2.1)] [] (th_cw ad S A X Y F Hd Cs (th_mp ad S A s B hs)) cs ss Q := by
  refine pm_aload_n dL_law_401 rfl rfl ?_
  refine pm_aload_n dL_law_402 rfl rfl ?_
  refine pm_iload_n dL_law_403 rfl rfl ?_
  refine pm_iconst (v := 1) dL_law_404 (by decide) ?_
  refine pm_iadd dL_law_405 ?_
  rw [show nI (7 * t) + 1 = nI (7 * t + 1) from nI_add _ 1]
  refine pm_sld dL_law_406 (th_in (by omega) (by omega)) ?_
  refine pm_aload_n dL_law_407 rfl rfl ?_
  refine pm_iload_n dL_law_408 rfl rfl ?_
  refine pm_iconst (v := 2) dL_law_409 (by decide) ?_
  refine pm_iadd dL_law_410 ?_
  rw [show nI (7 * t) + 2 = nI (7 * t + 2) from nI_add _ 2]
  refine pm_sld dL_law_411 (th_in (by omega) (by omega)) ?_
  refine pm_callV (M2 := m_X11_as) (As := [_, _]) ok_X11_as (ci := 11) rfl kw_541 kw_542 kw_543 dL_law_412 rfl rfl rfl (Nat.le_of_ble_eq_true rfl) ⟨⟨Nat.le_of_ble_eq_true rfl, Nat.le_of_ble_eq_true rfl⟩, (show cs + 0 ≤ 600000 by omega), (show ss + 0 ≤ 7302250 by omega)⟩ ?_
  refine c_X11_as hV.1 ?_
  refine pm_aload_n dL_law_415 rfl rfl ?_
  refine pm_aload_n dL_law_416 rfl rfl ?_
  refine pm_iload_n dL_law_417 rfl rfl ?_
  refine pm_iconst (v := 1) dL_law_418 (by decide) ?_
  refine pm_iadd dL_law_419 ?_
  rw [show nI (7 * t) + 1 = nI (7 * t + 1) from nI_add _ 1]
  refine pm_sld dL_law_420 (th_in (by omega) (by omega)) ?_
  refine pm_aload_n dL_law_421 rfl rfl ?_
  refine pm_iload_n dL_law_422 rfl rfl ?_
  refine pm_iconst (v := 2) dL_law_423 (by decide) ?_
  refine pm_iadd dL_law_424 ?_
  rw [show nI (7 * t) + 2 = nI (7 * t + 2) from nI_add _ 2]
  refine pm_sld dL_law_425 (th_in (by omega) (by omega)) ?_
  refine pm_callV (M2 := m_X12_as) (As := [_, _]) ok_X12_as (ci := 12) rfl kw_1150 kw_1151 kw_1152 dL_law_426 rfl rfl rfl (Nat.le_of_ble_eq_true rfl) ⟨⟨Nat.le_of_ble_eq_true rfl, Nat.le_of_ble_eq_true rfl⟩, (show cs + 0 + 0 ≤ 600000 by omega), (show ss + 0 + 0 ≤ 7302250 by omega)⟩ ?_
  refine c_X12_as hV.1 ?_
  refine pm_icmp_eq (tgt := 1286) dL_law_429 (by decide) (fun c_429 => ?_) (fun c_429 => absurd (rfl) c_429)
  exact kk ad S A X Y F Hd Cs s B hs (cs + 0 + 0) (ss + 0 + 0) (hV) (by omega) (by omega)

set_option maxHeartbeats 600000 in
set_option maxRecDepth 100000 in
theorem lw_c8 {l : Launch} {G : pm_G} {ad : Nat → Nat → Nat} {S : Nat → Nat} {A : Nat → Nat → Int32} {X : Nat → Int32} {Y : Nat → Nat → Int32} {F : Nat → Int64} {Hd Cs : Nat → Option Nat} {s : Nat → Int32} {B : Nat → Nat → Int32} {hs : Int64} {Q : pm_T} {t cs ss : Nat} (hV : th_V ad S A Y Cs) (hL : 7 * t + 7 ≤ G.2.2.2.2.1) (hL2 : G.2.2.2.2.1 ≤ 448) (hcs : cs ≤ 1000) (hss : ss ≤ 10000) (kk : ∀ ad2 S2 A2 X2 Y2 F2 Hd2 Cs2 s2 B2 hs2 cs2 ss2, th_V ad2 S2 A2 Y2 Cs2 → cs2 ≤ cs + 1 → ss2 ≤ ss + 13 → pm_W l G m_law ad2 1286 [(3, .int (nI (7 * t))), (2, .ref (ad2 8 0)), (1, .ref (ad2 0 0)), (0, .ref G.2.2.2.1)] [] (th_cw ad2 S2 A2 X2 Y2 F2 Hd2 Cs2 (th_mp ad2 S2 A2 s2 B2 hs2)) cs2 ss2 Q) : pm_W l G m_law ad 434 [(3, .int (nI (7 * t))), (2, .ref (ad 8 0)), (1, .ref (ad 0 0)), (0, .ref G.2.2.2.1)] [] (th_cw ad S A X Y F Hd Cs (th_mp ad S A s B hs)) cs ss Q := by
  refine pm_aload_n dL_law_434 rfl rfl ?_
  refine pm_aload_n dL_law_435 rfl rfl ?_
  refine pm_iload_n dL_law_436 rfl rfl ?_
  refine pm_iconst (v := 1) dL_law_437 (by decide) ?_
  refine pm_iadd dL_law_438 ?_
  rw [show nI (7 * t) + 1 = nI (7 * t + 1) from nI_add _ 1]
  refine pm_sld dL_law_439 (th_in (by omega) (by omega)) ?_
  refine pm_aload_n dL_law_440 rfl rfl ?_
  refine pm_iload_n dL_law_441 rfl rfl ?_
  refine pm_iconst (v := 2) dL_law_442 (by decide) ?_
  refine pm_iadd dL_law_443 ?_
  rw [show nI (7 * t) + 2 = nI (7 * t + 2) from nI_add _ 2]
  refine pm_sld dL_law_444 (th_in (by omega) (by omega)) ?_
  refine pm_callV (M2 := m_X11_about) (As := [_, _]) ok_X11_about (ci := 11) rfl kw_552 kw_553 kw_554 dL_law_445 rfl rfl rfl (Nat.le_of_ble_eq_true rfl) ⟨⟨Nat.le_of_ble_eq_true rfl, Nat.le_of_ble_eq_true rfl⟩, (show cs + 0 ≤ 600000 by omega), (show ss + 0 ≤ 7302250 by omega)⟩ ?_
  refine c_X11_about hV.1 ?_
  refine pm_aload_n dL_law_448 rfl rfl ?_
  refine pm_aload_n dL_law_449 rfl rfl ?_
  refine pm_iload_n dL_law_450 rfl rfl ?_
  refine pm_iconst (v := 1) dL_law_451 (by decide) ?_
  refine pm_iadd dL_law_452 ?_
  rw [show nI (7 * t) + 1 = nI (7 * t + 1) from nI_add _ 1]
  refine pm_sld dL_law_453 (th_in (by omega) (by omega)) ?_
  refine pm_aload_n dL_law_454 rfl rfl ?_
  refine pm_iload_n dL_law_455 rfl rfl ?_
  refine pm_iconst (v := 2) dL_law_456 (by decide) ?_
  refine pm_iadd dL_law_457 ?_
  rw [show nI (7 * t) + 2 = nI (7 * t + 2) from nI_add _ 2]
  refine pm_sld dL_law_458 (th_in (by omega) (by omega)) ?_
  refine pm_callV (M2 := m_X12_about) (As := [_, _]) ok_X12_about (ci := 12) rfl kw_1158 kw_1159 kw_1160 dL_law_459 rfl rfl rfl (Nat.le_of_ble_eq_true rfl) ⟨⟨Nat.le_of_ble_eq_true rfl, Nat.le_of_ble_eq_true rfl⟩, (show cs + 0 + 0 ≤ 600000 by omega), (show ss + 0 + 0 ≤ 7302250 by omega)⟩ ?_
  refine c_X12_about hV.1 ?_
  refine pm_icmp_eq (tgt := 1286) dL_law_462 (by decide) (fun c_462 => ?_) (fun c_462 => absurd (rfl) c_462)
  exact kk ad S A X Y F Hd Cs s B hs (cs + 0 + 0) (ss + 0 + 0) (hV) (by omega) (by omega)

set_option maxHeartbeats 600000 in
set_option maxRecDepth 100000 in
theorem lw_c9 {l : Launch} {G : pm_G} {ad : Nat → Nat → Nat} {S : Nat → Nat} {A : Nat → Nat → Int32} {X : Nat → Int32} {Y : Nat → Nat → Int32} {F : Nat → Int64} {Hd Cs : Nat → Option Nat} {s : Nat → Int32} {B : Nat → Nat → Int32} {hs : Int64} {Q : pm_T} {t cs ss : Nat} (hV : th_V ad S A Y Cs) (hL : 7 * t + 7 ≤ G.2.2.2.2.1) (hL2 : G.2.2.2.2.1 ≤ 448) (hcs : cs ≤ 1000) (hss : ss ≤ 10000) (kk : ∀ ad2 S2 A2 X2 Y2 F2 Hd2 Cs2 s2 B2 hs2 cs2 ss2, th_V ad2 S2 A2 Y2 Cs2 → cs2 ≤ cs + 1 → ss2 ≤ ss + 13 → pm_W l G m_law ad2 1286 [(3, .int (nI (7 * t))), (2, .ref (ad2 8 0)), (1, .ref (ad2 0 0)), (0, .ref G.2.2.2.1)] [] (th_cw ad2 S2 A2 X2 Y2 F2 Hd2 Cs2 (th_mp ad2 S2 A2 s2 B2 hs2)) cs2 ss2 Q) : pm_W l G m_law ad 467 [(3, .int (nI (7 * t))), (2, .ref (ad 8 0)), (1, .ref (ad 0 0)), (0, .ref G.2.2.2.1)] [] (th_cw ad S A X Y F Hd Cs (th_mp ad S A s B hs)) cs ss Q := by
  refine pm_aload_n dL_law_467 rfl rfl ?_
  refine pm_aload_n dL_law_468 rfl rfl ?_
  refine pm_iload_n dL_law_469 rfl rfl ?_
  refine pm_iconst (v := 1) dL_law_470 (by decide) ?_
  refine pm_iadd dL_law_471 ?_
  rw [show nI (7 * t) + 1 = nI (7 * t + 1) from nI_add _ 1]
  refine pm_sld dL_law_472 (th_in (by omega) (by omega)) ?_
  refine pm_aload_n dL_law_473 rfl rfl ?_
  refine pm_iload_n dL_law_474 rfl rfl ?_
  refine pm_iconst (v := 2) dL_law_475 (by decide) ?_
  refine pm_iadd dL_law_476 ?_
  rw [show nI (7 * t) + 2 = nI (7 * t + 2) from nI_add _ 2]
  refine pm_sld dL_law_477 (th_in (by omega) (by omega)) ?_
  refine pm_callV (M2 := m_X11_beats) (As := [_, _]) ok_X11_beats (ci := 11) rfl kw_599 kw_600 kw_601 dL_law_478 rfl rfl rfl (Nat.le_of_ble_eq_true rfl) ⟨⟨Nat.le_of_ble_eq_true rfl, Nat.le_of_ble_eq_true rfl⟩, (show cs + 0 ≤ 600000 by omega), (show ss + 0 ≤ 7302250 by omega)⟩ ?_
  refine c_X11_beats hV.1 ?_
  refine pm_aload_n dL_law_481 rfl rfl ?_
  refine pm_aload_n dL_law_482 rfl rfl ?_
  refine pm_iload_n dL_law_483 rfl rfl ?_
  refine pm_iconst (v := 1) dL_law_484 (by decide) ?_
  refine pm_iadd dL_law_485 ?_
  rw [show nI (7 * t) + 1 = nI (7 * t + 1) from nI_add _ 1]
  refine pm_sld dL_law_486 (th_in (by omega) (by omega)) ?_
  refine pm_aload_n dL_law_487 rfl rfl ?_
  refine pm_iload_n dL_law_488 rfl rfl ?_
  refine pm_iconst (v := 2) dL_law_489 (by decide) ?_
  refine pm_iadd dL_law_490 ?_
  rw [show nI (7 * t) + 2 = nI (7 * t + 2) from nI_add _ 2]
  refine pm_sld dL_law_491 (th_in (by omega) (by omega)) ?_
  refine pm_callV (M2 := m_X12_beats) (As := [_, _]) ok_X12_beats (ci := 12) rfl kw_1170 kw_1171 kw_1172 dL_law_492 rfl rfl rfl (Nat.le_of_ble_eq_true rfl) ⟨⟨Nat.le_of_ble_eq_true rfl, Nat.le_of_ble_eq_true rfl⟩, (show cs + 0 + 0 ≤ 600000 by omega), (show ss + 0 + 0 ≤ 7302250 by omega)⟩ ?_
  refine c_X12_beats hV.1 ?_
  refine pm_icmp_eq (tgt := 1286) dL_law_495 (by decide) (fun c_495 => ?_) (fun c_495 => absurd (rfl) c_495)
  exact kk ad S (th_beatsT S A _ _) X Y F Hd Cs s B hs (cs + 0 + 0) (ss + 0 + 0) (⟨th_I_beats hV.1 _ _, th_J_beats hV.2 _ _⟩) (by omega) (by omega)

set_option maxHeartbeats 600000 in
set_option maxRecDepth 100000 in
theorem lw_c10 {l : Launch} {G : pm_G} {ad : Nat → Nat → Nat} {S : Nat → Nat} {A : Nat → Nat → Int32} {X : Nat → Int32} {Y : Nat → Nat → Int32} {F : Nat → Int64} {Hd Cs : Nat → Option Nat} {s : Nat → Int32} {B : Nat → Nat → Int32} {hs : Int64} {Q : pm_T} {t cs ss : Nat} (hV : th_V ad S A Y Cs) (hL : 7 * t + 7 ≤ G.2.2.2.2.1) (hL2 : G.2.2.2.2.1 ≤ 448) (hcs : cs ≤ 1000) (hss : ss ≤ 10000) (kk : ∀ ad2 S2 A2 X2 Y2 F2 Hd2 Cs2 s2 B2 hs2 cs2 ss2, th_V ad2 S2 A2 Y2 Cs2 → cs2 ≤ cs + 1 → ss2 ≤ ss + 13 → pm_W l G m_law ad2 1286 [(3, .int (nI (7 * t))), (2, .ref (ad2 8 0)), (1, .ref (ad2 0 0)), (0, .ref G.2.2.2.1)] [] (th_cw ad2 S2 A2 X2 Y2 F2 Hd2 Cs2 (th_mp ad2 S2 A2 s2 B2 hs2)) cs2 ss2 Q) : pm_W l G m_law ad 500 [(3, .int (nI (7 * t))), (2, .ref (ad 8 0)), (1, .ref (ad 0 0)), (0, .ref G.2.2.2.1)] [] (th_cw ad S A X Y F Hd Cs (th_mp ad S A s B hs)) cs ss Q := by
  refine pm_aload_n dL_law_500 rfl rfl ?_
  refine pm_aload_n dL_law_501 rfl rfl ?_
  refine pm_iload_n dL_law_502 rfl rfl ?_
  refine pm_iconst (v := 1) dL_law_503 (by decide) ?_
  refine pm_iadd dL_law_504 ?_
  rw [show nI (7 * t) + 1 = nI (7 * t + 1) from nI_add _ 1]
  refine pm_sld dL_law_505 (th_in (by omega) (by omega)) ?_
  refine pm_aload_n dL_law_506 rfl rfl ?_
  refine pm_iload_n dL_law_507 rfl rfl ?_
  refine pm_iconst (v := 2) dL_law_508 (by decide) ?_
  refine pm_iadd dL_law_509 ?_
  rw [show nI (7 * t) + 2 = nI (7 * t + 2) from nI_add _ 2]
  refine pm_sld dL_law_510 (th_in (by omega) (by omega)) ?_
  refine pm_aload_n dL_law_511 rfl rfl ?_
  refine pm_iload_n dL_law_512 rfl rfl ?_
  refine pm_iconst (v := 3) dL_law_513 (by decide) ?_
  refine pm_iadd dL_law_514 ?_
  rw [show nI (7 * t) + 3 = nI (7 * t + 3) from nI_add _ 3]
  refine pm_sld dL_law_515 (th_in (by omega) (by omega)) ?_
  refine pm_callV (M2 := m_X11_fight) (As := [_, _, _]) ok_X11_fight (ci := 11) rfl kw_617 kw_618 kw_619 dL_law_516 rfl rfl rfl (Nat.le_of_ble_eq_true rfl) ⟨⟨Nat.le_of_ble_eq_true rfl, Nat.le_of_ble_eq_true rfl⟩, (show cs + 0 ≤ 600000 by omega), (show ss + 0 ≤ 7302250 by omega)⟩ ?_
  refine c_X11_fight hV.1 (fun X2 => ?_)
  refine pm_aload_n dL_law_519 rfl rfl ?_
  refine pm_aload_n dL_law_520 rfl rfl ?_
  refine pm_iload_n dL_law_521 rfl rfl ?_
  refine pm_iconst (v := 1) dL_law_522 (by decide) ?_
  refine pm_iadd dL_law_523 ?_
  rw [show nI (7 * t) + 1 = nI (7 * t + 1) from nI_add _ 1]
  refine pm_sld dL_law_524 (th_in (by omega) (by omega)) ?_
  refine pm_aload_n dL_law_525 rfl rfl ?_
  refine pm_iload_n dL_law_526 rfl rfl ?_
  refine pm_iconst (v := 2) dL_law_527 (by decide) ?_
  refine pm_iadd dL_law_528 ?_
  rw [show nI (7 * t) + 2 = nI (7 * t + 2) from nI_add _ 2]
  refine pm_sld dL_law_529 (th_in (by omega) (by omega)) ?_
  refine pm_aload_n dL_law_530 rfl rfl ?_
  refine pm_iload_n dL_law_531 rfl rfl ?_
  refine pm_iconst (v := 3) dL_law_532 (by decide) ?_
  refine pm_iadd dL_law_533 ?_
  rw [show nI (7 * t) + 3 = nI (7 * t + 3) from nI_add _ 3]
  refine pm_sld dL_law_534 (th_in (by omega) (by omega)) ?_
  refine pm_callV (M2 := m_X12_fight) (As := [_, _, _]) ok_X12_fight (ci := 12) rfl kw_1186 kw_1187 kw_1188 dL_law_535 rfl rfl rfl (Nat.le_of_ble_eq_true rfl) ⟨⟨Nat.le_of_ble_eq_true rfl, Nat.le_of_ble_eq_true rfl⟩, (show cs + 0 + 0 ≤ 600000 by omega), (show ss + 0 + 0 ≤ 7302250 by omega)⟩ ?_
  refine c_X12_fight hV.1 (fun s2 => ?_)
  refine pm_icmp_eq (tgt := 1286) dL_law_538 (by decide) (fun c_538 => ?_) (fun c_538 => absurd (rfl) c_538)
  exact kk ad S (th_fightT S A _ _ _) X2 Y F Hd Cs s2 B hs (cs + 0 + 0) (ss + 0 + 0) (⟨th_I_fight hV.1 _ _ _, th_J_fight hV.2 _ _ _⟩) (by omega) (by omega)

set_option maxHeartbeats 600000 in
set_option maxRecDepth 100000 in
theorem lw_c11 {l : Launch} {G : pm_G} {ad : Nat → Nat → Nat} {S : Nat → Nat} {A : Nat → Nat → Int32} {X : Nat → Int32} {Y : Nat → Nat → Int32} {F : Nat → Int64} {Hd Cs : Nat → Option Nat} {s : Nat → Int32} {B : Nat → Nat → Int32} {hs : Int64} {Q : pm_T} {t cs ss : Nat} (hV : th_V ad S A Y Cs) (hL : 7 * t + 7 ≤ G.2.2.2.2.1) (hL2 : G.2.2.2.2.1 ≤ 448) (hcs : cs ≤ 1000) (hss : ss ≤ 10000) (kk : ∀ ad2 S2 A2 X2 Y2 F2 Hd2 Cs2 s2 B2 hs2 cs2 ss2, th_V ad2 S2 A2 Y2 Cs2 → cs2 ≤ cs + 1 → ss2 ≤ ss + 13 → pm_W l G m_law ad2 1286 [(3, .int (nI (7 * t))), (2, .ref (ad2 8 0)), (1, .ref (ad2 0 0)), (0, .ref G.2.2.2.1)] [] (th_cw ad2 S2 A2 X2 Y2 F2 Hd2 Cs2 (th_mp ad2 S2 A2 s2 B2 hs2)) cs2 ss2 Q) : pm_W l G m_law ad 543 [(3, .int (nI (7 * t))), (2, .ref (ad 8 0)), (1, .ref (ad 0 0)), (0, .ref G.2.2.2.1)] [] (th_cw ad S A X Y F Hd Cs (th_mp ad S A s B hs)) cs ss Q := by
  refine pm_aload_n dL_law_543 rfl rfl ?_
  refine pm_aload_n dL_law_544 rfl rfl ?_
  refine pm_iload_n dL_law_545 rfl rfl ?_
  refine pm_iconst (v := 1) dL_law_546 (by decide) ?_
  refine pm_iadd dL_law_547 ?_
  rw [show nI (7 * t) + 1 = nI (7 * t + 1) from nI_add _ 1]
  refine pm_sld dL_law_548 (th_in (by omega) (by omega)) ?_
  refine pm_aload_n dL_law_549 rfl rfl ?_
  refine pm_iload_n dL_law_550 rfl rfl ?_
  refine pm_iconst (v := 2) dL_law_551 (by decide) ?_
  refine pm_iadd dL_law_552 ?_
  rw [show nI (7 * t) + 2 = nI (7 * t + 2) from nI_add _ 2]
  refine pm_sld dL_law_553 (th_in (by omega) (by omega)) ?_
  refine pm_aload_n dL_law_554 rfl rfl ?_
  refine pm_iload_n dL_law_555 rfl rfl ?_
  refine pm_iconst (v := 3) dL_law_556 (by decide) ?_
  refine pm_iadd dL_law_557 ?_
  rw [show nI (7 * t) + 3 = nI (7 * t + 3) from nI_add _ 3]
  refine pm_sld dL_law_558 (th_in (by omega) (by omega)) ?_
  refine pm_aload_n dL_law_559 rfl rfl ?_
  refine pm_iload_n dL_law_560 rfl rfl ?_
  refine pm_iconst (v := 4) dL_law_561 (by decide) ?_
  refine pm_iadd dL_law_562 ?_
  rw [show nI (7 * t) + 4 = nI (7 * t + 4) from nI_add _ 4]
  refine pm_sld dL_law_563 (th_in (by omega) (by omega)) ?_
  refine pm_callV (M2 := m_X11_would) (As := [_, _, _, _]) ok_X11_would (ci := 11) rfl kw_642 kw_643 kw_644 dL_law_564 rfl rfl rfl (Nat.le_of_ble_eq_true rfl) ⟨⟨Nat.le_of_ble_eq_true rfl, Nat.le_of_ble_eq_true rfl⟩, (show cs + 0 ≤ 600000 by omega), (show ss + 0 ≤ 7302250 by omega)⟩ ?_
  refine c_X11_would hV.1 (fun X2 => ?_)
  refine pm_aload_n dL_law_567 rfl rfl ?_
  refine pm_aload_n dL_law_568 rfl rfl ?_
  refine pm_iload_n dL_law_569 rfl rfl ?_
  refine pm_iconst (v := 1) dL_law_570 (by decide) ?_
  refine pm_iadd dL_law_571 ?_
  rw [show nI (7 * t) + 1 = nI (7 * t + 1) from nI_add _ 1]
  refine pm_sld dL_law_572 (th_in (by omega) (by omega)) ?_
  refine pm_aload_n dL_law_573 rfl rfl ?_
  refine pm_iload_n dL_law_574 rfl rfl ?_
  refine pm_iconst (v := 2) dL_law_575 (by decide) ?_
  refine pm_iadd dL_law_576 ?_
  rw [show nI (7 * t) + 2 = nI (7 * t + 2) from nI_add _ 2]
  refine pm_sld dL_law_577 (th_in (by omega) (by omega)) ?_
  refine pm_aload_n dL_law_578 rfl rfl ?_
  refine pm_iload_n dL_law_579 rfl rfl ?_
  refine pm_iconst (v := 3) dL_law_580 (by decide) ?_
  refine pm_iadd dL_law_581 ?_
  rw [show nI (7 * t) + 3 = nI (7 * t + 3) from nI_add _ 3]
  refine pm_sld dL_law_582 (th_in (by omega) (by omega)) ?_
  refine pm_aload_n dL_law_583 rfl rfl ?_
  refine pm_iload_n dL_law_584 rfl rfl ?_
  refine pm_iconst (v := 4) dL_law_585 (by decide) ?_
  refine pm_iadd dL_law_586 ?_
  rw [show nI (7 * t) + 4 = nI (7 * t + 4) from nI_add _ 4]
  refine pm_sld dL_law_587 (th_in (by omega) (by omega)) ?_
  refine pm_callV (M2 := m_X12_would) (As := [_, _, _, _]) ok_X12_would (ci := 12) rfl kw_1202 kw_1203 kw_1204 dL_law_588 rfl rfl rfl (Nat.le_of_ble_eq_true rfl) ⟨⟨Nat.le_of_ble_eq_true rfl, Nat.le_of_ble_eq_true rfl⟩, (show cs + 0 + 0 ≤ 600000 by omega), (show ss + 0 + 0 ≤ 7302250 by omega)⟩ ?_
  refine c_X12_would hV.1 (fun s2 => ?_)
  refine pm_icmp_eq (tgt := 1286) dL_law_591 (by decide) (fun c_591 => ?_) (fun c_591 => absurd (rfl) c_591)
  exact kk ad S A X2 Y F Hd Cs s2 B hs (cs + 0 + 0) (ss + 0 + 0) (hV) (by omega) (by omega)

set_option maxHeartbeats 600000 in
set_option maxRecDepth 100000 in
theorem lw_c12 {l : Launch} {G : pm_G} {ad : Nat → Nat → Nat} {S : Nat → Nat} {A : Nat → Nat → Int32} {X : Nat → Int32} {Y : Nat → Nat → Int32} {F : Nat → Int64} {Hd Cs : Nat → Option Nat} {s : Nat → Int32} {B : Nat → Nat → Int32} {hs : Int64} {Q : pm_T} {t cs ss : Nat} (hV : th_V ad S A Y Cs) (hL : 7 * t + 7 ≤ G.2.2.2.2.1) (hL2 : G.2.2.2.2.1 ≤ 448) (hcs : cs ≤ 1000) (hss : ss ≤ 10000) (kk : ∀ ad2 S2 A2 X2 Y2 F2 Hd2 Cs2 s2 B2 hs2 cs2 ss2, th_V ad2 S2 A2 Y2 Cs2 → cs2 ≤ cs + 1 → ss2 ≤ ss + 13 → pm_W l G m_law ad2 1286 [(3, .int (nI (7 * t))), (2, .ref (ad2 8 0)), (1, .ref (ad2 0 0)), (0, .ref G.2.2.2.1)] [] (th_cw ad2 S2 A2 X2 Y2 F2 Hd2 Cs2 (th_mp ad2 S2 A2 s2 B2 hs2)) cs2 ss2 Q) : pm_W l G m_law ad 596 [(3, .int (nI (7 * t))), (2, .ref (ad 8 0)), (1, .ref (ad 0 0)), (0, .ref G.2.2.2.1)] [] (th_cw ad S A X Y F Hd Cs (th_mp ad S A s B hs)) cs ss Q := by
  refine pm_aload_n dL_law_596 rfl rfl ?_
  refine pm_aload_n dL_law_597 rfl rfl ?_
  refine pm_iload_n dL_law_598 rfl rfl ?_
  refine pm_iconst (v := 1) dL_law_599 (by decide) ?_
  refine pm_iadd dL_law_600 ?_
  rw [show nI (7 * t) + 1 = nI (7 * t + 1) from nI_add _ 1]
  refine pm_sld dL_law_601 (th_in (by omega) (by omega)) ?_
  refine pm_aload_n dL_law_602 rfl rfl ?_
  refine pm_iload_n dL_law_603 rfl rfl ?_
  refine pm_iconst (v := 2) dL_law_604 (by decide) ?_
  refine pm_iadd dL_law_605 ?_
  rw [show nI (7 * t) + 2 = nI (7 * t + 2) from nI_add _ 2]
  refine pm_sld dL_law_606 (th_in (by omega) (by omega)) ?_
  refine pm_callV (M2 := m_X11_scales) (As := [_, _]) ok_X11_scales (ci := 11) rfl kw_650 kw_651 kw_652 dL_law_607 rfl rfl rfl (Nat.le_of_ble_eq_true rfl) ⟨⟨Nat.le_of_ble_eq_true rfl, Nat.le_of_ble_eq_true rfl⟩, (show cs + 0 ≤ 600000 by omega), (show ss + 0 ≤ 7302250 by omega)⟩ ?_
  refine c_X11_scales hV.1 ?_
  refine pm_aload_n dL_law_610 rfl rfl ?_
  refine pm_aload_n dL_law_611 rfl rfl ?_
  refine pm_iload_n dL_law_612 rfl rfl ?_
  refine pm_iconst (v := 1) dL_law_613 (by decide) ?_
  refine pm_iadd dL_law_614 ?_
  rw [show nI (7 * t) + 1 = nI (7 * t + 1) from nI_add _ 1]
  refine pm_sld dL_law_615 (th_in (by omega) (by omega)) ?_
  refine pm_aload_n dL_law_616 rfl rfl ?_
  refine pm_iload_n dL_law_617 rfl rfl ?_
  refine pm_iconst (v := 2) dL_law_618 (by decide) ?_
  refine pm_iadd dL_law_619 ?_
  rw [show nI (7 * t) + 2 = nI (7 * t + 2) from nI_add _ 2]
  refine pm_sld dL_law_620 (th_in (by omega) (by omega)) ?_
  refine pm_callV (M2 := m_X12_scales) (As := [_, _]) ok_X12_scales (ci := 12) rfl kw_1206 kw_1207 kw_1208 dL_law_621 rfl rfl rfl (Nat.le_of_ble_eq_true rfl) ⟨⟨Nat.le_of_ble_eq_true rfl, Nat.le_of_ble_eq_true rfl⟩, (show cs + 0 + 0 ≤ 600000 by omega), (show ss + 0 + 0 ≤ 7302250 by omega)⟩ ?_
  refine c_X12_scales hV.1 ?_
  refine pm_icmp_eq (tgt := 1286) dL_law_624 (by decide) (fun c_624 => ?_) (fun c_624 => absurd (rfl) c_624)
  exact kk ad S A X Y F Hd Cs s B hs (cs + 0 + 0) (ss + 0 + 0) (hV) (by omega) (by omega)

set_option maxHeartbeats 600000 in
set_option maxRecDepth 100000 in
theorem lw_c13 {l : Launch} {G : pm_G} {ad : Nat → Nat → Nat} {S : Nat → Nat} {A : Nat → Nat → Int32} {X : Nat → Int32} {Y : Nat → Nat → Int32} {F : Nat → Int64} {Hd Cs : Nat → Option Nat} {s : Nat → Int32} {B : Nat → Nat → Int32} {hs : Int64} {Q : pm_T} {t cs ss : Nat} (hV : th_V ad S A Y Cs) (hL : 7 * t + 7 ≤ G.2.2.2.2.1) (hL2 : G.2.2.2.2.1 ≤ 448) (hcs : cs ≤ 1000) (hss : ss ≤ 10000) (kk : ∀ ad2 S2 A2 X2 Y2 F2 Hd2 Cs2 s2 B2 hs2 cs2 ss2, th_V ad2 S2 A2 Y2 Cs2 → cs2 ≤ cs + 1 → ss2 ≤ ss + 13 → pm_W l G m_law ad2 1286 [(3, .int (nI (7 * t))), (2, .ref (ad2 8 0)), (1, .ref (ad2 0 0)), (0, .ref G.2.2.2.1)] [] (th_cw ad2 S2 A2 X2 Y2 F2 Hd2 Cs2 (th_mp ad2 S2 A2 s2 B2 hs2)) cs2 ss2 Q) : pm_W l G m_law ad 629 [(3, .int (nI (7 * t))), (2, .ref (ad 8 0)), (1, .ref (ad 0 0)), (0, .ref G.2.2.2.1)] [] (th_cw ad S A X Y F Hd Cs (th_mp ad S A s B hs)) cs ss Q := by
  refine pm_aload_n dL_law_629 rfl rfl ?_
  refine pm_aload_n dL_law_630 rfl rfl ?_
  refine pm_iload_n dL_law_631 rfl rfl ?_
  refine pm_iconst (v := 1) dL_law_632 (by decide) ?_
  refine pm_iadd dL_law_633 ?_
  rw [show nI (7 * t) + 1 = nI (7 * t + 1) from nI_add _ 1]
  refine pm_sld dL_law_634 (th_in (by omega) (by omega)) ?_
  refine pm_aload_n dL_law_635 rfl rfl ?_
  refine pm_iload_n dL_law_636 rfl rfl ?_
  refine pm_iconst (v := 2) dL_law_637 (by decide) ?_
  refine pm_iadd dL_law_638 ?_
  rw [show nI (7 * t) + 2 = nI (7 * t + 2) from nI_add _ 2]
  refine pm_sld dL_law_639 (th_in (by omega) (by omega)) ?_
  refine pm_callV (M2 := m_X11_told) (As := [_, _]) ok_X11_told (ci := 11) rfl kw_654 kw_655 kw_656 dL_law_640 rfl rfl rfl (Nat.le_of_ble_eq_true rfl) ⟨⟨Nat.le_of_ble_eq_true rfl, Nat.le_of_ble_eq_true rfl⟩, (show cs + 0 ≤ 600000 by omega), (show ss + 0 ≤ 7302250 by omega)⟩ ?_
  refine c_X11_told hV.1 ?_
  refine pm_aload_n dL_law_643 rfl rfl ?_
  refine pm_aload_n dL_law_644 rfl rfl ?_
  refine pm_iload_n dL_law_645 rfl rfl ?_
  refine pm_iconst (v := 1) dL_law_646 (by decide) ?_
  refine pm_iadd dL_law_647 ?_
  rw [show nI (7 * t) + 1 = nI (7 * t + 1) from nI_add _ 1]
  refine pm_sld dL_law_648 (th_in (by omega) (by omega)) ?_
  refine pm_aload_n dL_law_649 rfl rfl ?_
  refine pm_iload_n dL_law_650 rfl rfl ?_
  refine pm_iconst (v := 2) dL_law_651 (by decide) ?_
  refine pm_iadd dL_law_652 ?_
  rw [show nI (7 * t) + 2 = nI (7 * t + 2) from nI_add _ 2]
  refine pm_sld dL_law_653 (th_in (by omega) (by omega)) ?_
  refine pm_callV (M2 := m_X12_told) (As := [_, _]) ok_X12_told (ci := 12) rfl kw_1211 kw_1212 kw_1213 dL_law_654 rfl rfl rfl (Nat.le_of_ble_eq_true rfl) ⟨⟨Nat.le_of_ble_eq_true rfl, Nat.le_of_ble_eq_true rfl⟩, (show cs + 0 + 0 ≤ 600000 by omega), (show ss + 0 + 0 ≤ 7302250 by omega)⟩ ?_
  refine c_X12_told hV.1 ?_
  refine pm_icmp_eq (tgt := 1286) dL_law_657 (by decide) (fun c_657 => ?_) (fun c_657 => absurd (rfl) c_657)
  exact kk ad (th_toldS S _ _) (th_toldT S A _ _) X (th_toldY S Y _ _) F Hd Cs s B hs (cs + 0 + 0) (ss + 0 + 0) (th_V_told hV _ _) (by omega) (by omega)

set_option maxHeartbeats 600000 in
set_option maxRecDepth 100000 in
theorem lw_c14 {l : Launch} {G : pm_G} {ad : Nat → Nat → Nat} {S : Nat → Nat} {A : Nat → Nat → Int32} {X : Nat → Int32} {Y : Nat → Nat → Int32} {F : Nat → Int64} {Hd Cs : Nat → Option Nat} {s : Nat → Int32} {B : Nat → Nat → Int32} {hs : Int64} {Q : pm_T} {t cs ss : Nat} (hV : th_V ad S A Y Cs) (hL : 7 * t + 7 ≤ G.2.2.2.2.1) (hL2 : G.2.2.2.2.1 ≤ 448) (hcs : cs ≤ 1000) (hss : ss ≤ 10000) (kk : ∀ ad2 S2 A2 X2 Y2 F2 Hd2 Cs2 s2 B2 hs2 cs2 ss2, th_V ad2 S2 A2 Y2 Cs2 → cs2 ≤ cs + 1 → ss2 ≤ ss + 13 → pm_W l G m_law ad2 1286 [(3, .int (nI (7 * t))), (2, .ref (ad2 8 0)), (1, .ref (ad2 0 0)), (0, .ref G.2.2.2.1)] [] (th_cw ad2 S2 A2 X2 Y2 F2 Hd2 Cs2 (th_mp ad2 S2 A2 s2 B2 hs2)) cs2 ss2 Q) : pm_W l G m_law ad 662 [(3, .int (nI (7 * t))), (2, .ref (ad 8 0)), (1, .ref (ad 0 0)), (0, .ref G.2.2.2.1)] [] (th_cw ad S A X Y F Hd Cs (th_mp ad S A s B hs)) cs ss Q := by
  refine pm_aload_n dL_law_662 rfl rfl ?_
  refine pm_aload_n dL_law_663 rfl rfl ?_
  refine pm_iload_n dL_law_664 rfl rfl ?_
  refine pm_iconst (v := 1) dL_law_665 (by decide) ?_
  refine pm_iadd dL_law_666 ?_
  rw [show nI (7 * t) + 1 = nI (7 * t + 1) from nI_add _ 1]
  refine pm_sld dL_law_667 (th_in (by omega) (by omega)) ?_
  refine pm_aload_n dL_law_668 rfl rfl ?_
  refine pm_iload_n dL_law_669 rfl rfl ?_
  refine pm_iconst (v := 2) dL_law_670 (by decide) ?_
  refine pm_iadd dL_law_671 ?_
  rw [show nI (7 * t) + 2 = nI (7 * t + 2) from nI_add _ 2]
  refine pm_sld dL_law_672 (th_in (by omega) (by omega)) ?_
  refine pm_callV (M2 := m_X11_claim) (As := [_, _]) ok_X11_claim (ci := 11) rfl kw_662 kw_663 kw_664 dL_law_673 rfl rfl rfl (Nat.le_of_ble_eq_true rfl) ⟨⟨Nat.le_of_ble_eq_true rfl, Nat.le_of_ble_eq_true rfl⟩, (show cs + 0 ≤ 600000 by omega), (show ss + 0 ≤ 7302250 by omega)⟩ ?_
  refine c_X11_claim hV.1 ?_
  refine pm_aload_n dL_law_676 rfl rfl ?_
  refine pm_aload_n dL_law_677 rfl rfl ?_
  refine pm_iload_n dL_law_678 rfl rfl ?_
  refine pm_iconst (v := 1) dL_law_679 (by decide) ?_
  refine pm_iadd dL_law_680 ?_
  rw [show nI (7 * t) + 1 = nI (7 * t + 1) from nI_add _ 1]
  refine pm_sld dL_law_681 (th_in (by omega) (by omega)) ?_
  refine pm_aload_n dL_law_682 rfl rfl ?_
  refine pm_iload_n dL_law_683 rfl rfl ?_
  refine pm_iconst (v := 2) dL_law_684 (by decide) ?_
  refine pm_iadd dL_law_685 ?_
  rw [show nI (7 * t) + 2 = nI (7 * t + 2) from nI_add _ 2]
  refine pm_sld dL_law_686 (th_in (by omega) (by omega)) ?_
  refine pm_callV (M2 := m_X12_claim) (As := [_, _]) ok_X12_claim (ci := 12) rfl kw_1215 kw_1216 kw_1217 dL_law_687 rfl rfl rfl (Nat.le_of_ble_eq_true rfl) ⟨⟨Nat.le_of_ble_eq_true rfl, Nat.le_of_ble_eq_true rfl⟩, (show cs + 0 + 0 ≤ 600000 by omega), (show ss + 0 + 0 ≤ 7302250 by omega)⟩ ?_
  refine c_X12_claim hV.1 ?_
  refine pm_icmp_eq (tgt := 1286) dL_law_690 (by decide) (fun c_690 => ?_) (fun c_690 => absurd (rfl) c_690)
  exact kk ad S (th_claimT S A _ _) X Y F Hd Cs s B hs (cs + 0 + 0) (ss + 0 + 0) (th_V_claim hV _ _) (by omega) (by omega)

set_option maxHeartbeats 600000 in
set_option maxRecDepth 100000 in
theorem lw_c15 {l : Launch} {G : pm_G} {ad : Nat → Nat → Nat} {S : Nat → Nat} {A : Nat → Nat → Int32} {X : Nat → Int32} {Y : Nat → Nat → Int32} {F : Nat → Int64} {Hd Cs : Nat → Option Nat} {s : Nat → Int32} {B : Nat → Nat → Int32} {hs : Int64} {Q : pm_T} {t cs ss : Nat} (hV : th_V ad S A Y Cs) (hL : 7 * t + 7 ≤ G.2.2.2.2.1) (hL2 : G.2.2.2.2.1 ≤ 448) (hcs : cs ≤ 1000) (hss : ss ≤ 10000) (kk : ∀ ad2 S2 A2 X2 Y2 F2 Hd2 Cs2 s2 B2 hs2 cs2 ss2, th_V ad2 S2 A2 Y2 Cs2 → cs2 ≤ cs + 1 → ss2 ≤ ss + 13 → pm_W l G m_law ad2 1286 [(3, .int (nI (7 * t))), (2, .ref (ad2 8 0)), (1, .ref (ad2 0 0)), (0, .ref G.2.2.2.1)] [] (th_cw ad2 S2 A2 X2 Y2 F2 Hd2 Cs2 (th_mp ad2 S2 A2 s2 B2 hs2)) cs2 ss2 Q) : pm_W l G m_law ad 695 [(3, .int (nI (7 * t))), (2, .ref (ad 8 0)), (1, .ref (ad 0 0)), (0, .ref G.2.2.2.1)] [] (th_cw ad S A X Y F Hd Cs (th_mp ad S A s B hs)) cs ss Q := by
  refine pm_aload_n dL_law_695 rfl rfl ?_
  refine pm_aload_n dL_law_696 rfl rfl ?_
  refine pm_iload_n dL_law_697 rfl rfl ?_
  refine pm_iconst (v := 1) dL_law_698 (by decide) ?_
  refine pm_iadd dL_law_699 ?_
  rw [show nI (7 * t) + 1 = nI (7 * t + 1) from nI_add _ 1]
  refine pm_sld dL_law_700 (th_in (by omega) (by omega)) ?_
  refine pm_aload_n dL_law_701 rfl rfl ?_
  refine pm_iload_n dL_law_702 rfl rfl ?_
  refine pm_iconst (v := 2) dL_law_703 (by decide) ?_
  refine pm_iadd dL_law_704 ?_
  rw [show nI (7 * t) + 2 = nI (7 * t + 2) from nI_add _ 2]
  refine pm_sld dL_law_705 (th_in (by omega) (by omega)) ?_
  refine pm_callV (M2 := m_X11_by) (As := [_, _]) ok_X11_by (ci := 11) rfl kw_666 kw_667 kw_668 dL_law_706 rfl rfl rfl (Nat.le_of_ble_eq_true rfl) ⟨⟨Nat.le_of_ble_eq_true rfl, Nat.le_of_ble_eq_true rfl⟩, (show cs + 0 ≤ 600000 by omega), (show ss + 0 ≤ 7302250 by omega)⟩ ?_
  refine c_X11_by hV.1 hV.2.1.1 (fun ty => ?_)
  refine pm_aload_n dL_law_709 rfl rfl ?_
  refine pm_aload_n dL_law_710 rfl rfl ?_
  refine pm_iload_n dL_law_711 rfl rfl ?_
  refine pm_iconst (v := 1) dL_law_712 (by decide) ?_
  refine pm_iadd dL_law_713 ?_
  rw [show nI (7 * t) + 1 = nI (7 * t + 1) from nI_add _ 1]
  refine pm_sld dL_law_714 (th_in (by omega) (by omega)) ?_
  refine pm_aload_n dL_law_715 rfl rfl ?_
  refine pm_iload_n dL_law_716 rfl rfl ?_
  refine pm_iconst (v := 2) dL_law_717 (by decide) ?_
  refine pm_iadd dL_law_718 ?_
  rw [show nI (7 * t) + 2 = nI (7 * t + 2) from nI_add _ 2]
  refine pm_sld dL_law_719 (th_in (by omega) (by omega)) ?_
  refine pm_callV (M2 := m_X12_by) (As := [_, _]) ok_X12_by (ci := 12) rfl kw_1220 kw_1221 kw_1222 dL_law_720 rfl rfl rfl (Nat.le_of_ble_eq_true rfl) ⟨⟨Nat.le_of_ble_eq_true rfl, Nat.le_of_ble_eq_true rfl⟩, (show cs + 0 + 0 ≤ 600000 by omega), (show ss + 0 + 0 ≤ 7302250 by omega)⟩ ?_
  refine c_X12_by hV.1 (fun B2 => ?_)
  refine pm_icmp_eq (tgt := 1286) dL_law_723 (by decide) (fun c_723 => ?_) (fun c_723 => absurd (rfl) c_723)
  exact kk ad S A X (va_up Y 4 ty) F Hd Cs s B2 hs (cs + 0 + 0) (ss + 0 + 0) (hV) (by omega) (by omega)

set_option maxHeartbeats 600000 in
set_option maxRecDepth 100000 in
theorem lw_c16 {l : Launch} {G : pm_G} {ad : Nat → Nat → Nat} {S : Nat → Nat} {A : Nat → Nat → Int32} {X : Nat → Int32} {Y : Nat → Nat → Int32} {F : Nat → Int64} {Hd Cs : Nat → Option Nat} {s : Nat → Int32} {B : Nat → Nat → Int32} {hs : Int64} {Q : pm_T} {t cs ss : Nat} (hV : th_V ad S A Y Cs) (hL : 7 * t + 7 ≤ G.2.2.2.2.1) (hL2 : G.2.2.2.2.1 ≤ 448) (hcs : cs ≤ 1000) (hss : ss ≤ 10000) (kk : ∀ ad2 S2 A2 X2 Y2 F2 Hd2 Cs2 s2 B2 hs2 cs2 ss2, th_V ad2 S2 A2 Y2 Cs2 → cs2 ≤ cs + 1 → ss2 ≤ ss + 13 → pm_W l G m_law ad2 1286 [(3, .int (nI (7 * t))), (2, .ref (ad2 8 0)), (1, .ref (ad2 0 0)), (0, .ref G.2.2.2.1)] [] (th_cw ad2 S2 A2 X2 Y2 F2 Hd2 Cs2 (th_mp ad2 S2 A2 s2 B2 hs2)) cs2 ss2 Q) : pm_W l G m_law ad 728 [(3, .int (nI (7 * t))), (2, .ref (ad 8 0)), (1, .ref (ad 0 0)), (0, .ref G.2.2.2.1)] [] (th_cw ad S A X Y F Hd Cs (th_mp ad S A s B hs)) cs ss Q := by
  refine pm_aload_n dL_law_728 rfl rfl ?_
  refine pm_aload_n dL_law_729 rfl rfl ?_
  refine pm_iload_n dL_law_730 rfl rfl ?_
  refine pm_iconst (v := 1) dL_law_731 (by decide) ?_
  refine pm_iadd dL_law_732 ?_
  rw [show nI (7 * t) + 1 = nI (7 * t + 1) from nI_add _ 1]
  refine pm_sld dL_law_733 (th_in (by omega) (by omega)) ?_
  refine pm_callV (M2 := m_X11_lies) (As := [_]) ok_X11_lies (ci := 11) rfl kw_687 kw_688 kw_689 dL_law_734 rfl rfl rfl (Nat.le_of_ble_eq_true rfl) ⟨⟨Nat.le_of_ble_eq_true rfl, Nat.le_of_ble_eq_true rfl⟩, (show cs + 0 ≤ 600000 by omega), (show ss + 0 ≤ 7302250 by omega)⟩ ?_
  refine c_X11_lies hV.1 hV.2.1.1 (fun X2 ty => ?_)
  refine pm_aload_n dL_law_737 rfl rfl ?_
  refine pm_aload_n dL_law_738 rfl rfl ?_
  refine pm_iload_n dL_law_739 rfl rfl ?_
  refine pm_iconst (v := 1) dL_law_740 (by decide) ?_
  refine pm_iadd dL_law_741 ?_
  rw [show nI (7 * t) + 1 = nI (7 * t + 1) from nI_add _ 1]
  refine pm_sld dL_law_742 (th_in (by omega) (by omega)) ?_
  refine pm_callV (M2 := m_X12_lies) (As := [_]) ok_X12_lies (ci := 12) rfl kw_1228 kw_1229 kw_1230 dL_law_743 rfl rfl rfl (Nat.le_of_ble_eq_true rfl) ⟨⟨Nat.le_of_ble_eq_true rfl, Nat.le_of_ble_eq_true rfl⟩, (show cs + 0 + 0 ≤ 600000 by omega), (show ss + 0 + 0 ≤ 7302250 by omega)⟩ ?_
  refine c_X12_lies hV.1 (fun s2 B2 => ?_)
  refine pm_icmp_eq (tgt := 1286) dL_law_746 (by decide) (fun c_746 => ?_) (fun c_746 => absurd (rfl) c_746)
  exact kk ad S A X2 (va_up Y 4 ty) F Hd Cs s2 B2 hs (cs + 0 + 0) (ss + 0 + 0) (hV) (by omega) (by omega)

set_option maxHeartbeats 600000 in
set_option maxRecDepth 100000 in
theorem lw_c17 {l : Launch} {G : pm_G} {ad : Nat → Nat → Nat} {S : Nat → Nat} {A : Nat → Nat → Int32} {X : Nat → Int32} {Y : Nat → Nat → Int32} {F : Nat → Int64} {Hd Cs : Nat → Option Nat} {s : Nat → Int32} {B : Nat → Nat → Int32} {hs : Int64} {Q : pm_T} {t cs ss : Nat} (hV : th_V ad S A Y Cs) (hL : 7 * t + 7 ≤ G.2.2.2.2.1) (hL2 : G.2.2.2.2.1 ≤ 448) (hcs : cs ≤ 1000) (hss : ss ≤ 10000) (kk : ∀ ad2 S2 A2 X2 Y2 F2 Hd2 Cs2 s2 B2 hs2 cs2 ss2, th_V ad2 S2 A2 Y2 Cs2 → cs2 ≤ cs + 1 → ss2 ≤ ss + 13 → pm_W l G m_law ad2 1286 [(3, .int (nI (7 * t))), (2, .ref (ad2 8 0)), (1, .ref (ad2 0 0)), (0, .ref G.2.2.2.1)] [] (th_cw ad2 S2 A2 X2 Y2 F2 Hd2 Cs2 (th_mp ad2 S2 A2 s2 B2 hs2)) cs2 ss2 Q) : pm_W l G m_law ad 751 [(3, .int (nI (7 * t))), (2, .ref (ad 8 0)), (1, .ref (ad 0 0)), (0, .ref G.2.2.2.1)] [] (th_cw ad S A X Y F Hd Cs (th_mp ad S A s B hs)) cs ss Q := by
  refine pm_aload_n dL_law_751 rfl rfl ?_
  refine pm_aload_n dL_law_752 rfl rfl ?_
  refine pm_iload_n dL_law_753 rfl rfl ?_
  refine pm_iconst (v := 1) dL_law_754 (by decide) ?_
  refine pm_iadd dL_law_755 ?_
  rw [show nI (7 * t) + 1 = nI (7 * t + 1) from nI_add _ 1]
  refine pm_sld dL_law_756 (th_in (by omega) (by omega)) ?_
  refine pm_aload_n dL_law_757 rfl rfl ?_
  refine pm_iload_n dL_law_758 rfl rfl ?_
  refine pm_iconst (v := 2) dL_law_759 (by decide) ?_
  refine pm_iadd dL_law_760 ?_
  rw [show nI (7 * t) + 2 = nI (7 * t + 2) from nI_add _ 2]
  refine pm_sld dL_law_761 (th_in (by omega) (by omega)) ?_
  refine pm_callV (M2 := m_X11_most) (As := [_, _]) ok_X11_most (ci := 11) rfl kw_706 kw_707 kw_708 dL_law_762 rfl rfl rfl (Nat.le_of_ble_eq_true rfl) ⟨⟨Nat.le_of_ble_eq_true rfl, Nat.le_of_ble_eq_true rfl⟩, (show cs + 0 ≤ 600000 by omega), (show ss + 0 ≤ 7302250 by omega)⟩ ?_
  refine c_X11_most hV.1 hV.2.1.1 (fun ty => ?_)
  refine pm_aload_n dL_law_765 rfl rfl ?_
  refine pm_aload_n dL_law_766 rfl rfl ?_
  refine pm_iload_n dL_law_767 rfl rfl ?_
  refine pm_iconst (v := 1) dL_law_768 (by decide) ?_
  refine pm_iadd dL_law_769 ?_
  rw [show nI (7 * t) + 1 = nI (7 * t + 1) from nI_add _ 1]
  refine pm_sld dL_law_770 (th_in (by omega) (by omega)) ?_
  refine pm_aload_n dL_law_771 rfl rfl ?_
  refine pm_iload_n dL_law_772 rfl rfl ?_
  refine pm_iconst (v := 2) dL_law_773 (by decide) ?_
  refine pm_iadd dL_law_774 ?_
  rw [show nI (7 * t) + 2 = nI (7 * t + 2) from nI_add _ 2]
  refine pm_sld dL_law_775 (th_in (by omega) (by omega)) ?_
  refine pm_callV (M2 := m_X12_most) (As := [_, _]) ok_X12_most (ci := 12) rfl kw_1243 kw_1244 kw_1245 dL_law_776 rfl rfl rfl (Nat.le_of_ble_eq_true rfl) ⟨⟨Nat.le_of_ble_eq_true rfl, Nat.le_of_ble_eq_true rfl⟩, (show cs + 0 + 0 ≤ 600000 by omega), (show ss + 0 + 0 ≤ 7302250 by omega)⟩ ?_
  refine c_X12_most hV.1 (fun B2 => ?_)
  refine pm_icmp_eq (tgt := 1286) dL_law_779 (by decide) (fun c_779 => ?_) (fun c_779 => absurd (rfl) c_779)
  exact kk ad S A X (va_up Y 4 ty) F Hd Cs s B2 hs (cs + 0 + 0) (ss + 0 + 0) (hV) (by omega) (by omega)

set_option maxHeartbeats 600000 in
set_option maxRecDepth 100000 in
theorem lw_c18 {l : Launch} {G : pm_G} {ad : Nat → Nat → Nat} {S : Nat → Nat} {A : Nat → Nat → Int32} {X : Nat → Int32} {Y : Nat → Nat → Int32} {F : Nat → Int64} {Hd Cs : Nat → Option Nat} {s : Nat → Int32} {B : Nat → Nat → Int32} {hs : Int64} {Q : pm_T} {t cs ss : Nat} (hV : th_V ad S A Y Cs) (hL : 7 * t + 7 ≤ G.2.2.2.2.1) (hL2 : G.2.2.2.2.1 ≤ 448) (hcs : cs ≤ 1000) (hss : ss ≤ 10000) (kk : ∀ ad2 S2 A2 X2 Y2 F2 Hd2 Cs2 s2 B2 hs2 cs2 ss2, th_V ad2 S2 A2 Y2 Cs2 → cs2 ≤ cs + 1 → ss2 ≤ ss + 13 → pm_W l G m_law ad2 1286 [(3, .int (nI (7 * t))), (2, .ref (ad2 8 0)), (1, .ref (ad2 0 0)), (0, .ref G.2.2.2.1)] [] (th_cw ad2 S2 A2 X2 Y2 F2 Hd2 Cs2 (th_mp ad2 S2 A2 s2 B2 hs2)) cs2 ss2 Q) : pm_W l G m_law ad 784 [(3, .int (nI (7 * t))), (2, .ref (ad 8 0)), (1, .ref (ad 0 0)), (0, .ref G.2.2.2.1)] [] (th_cw ad S A X Y F Hd Cs (th_mp ad S A s B hs)) cs ss Q := by
  refine pm_aload_n dL_law_784 rfl rfl ?_
  refine pm_aload_n dL_law_785 rfl rfl ?_
  refine pm_iload_n dL_law_786 rfl rfl ?_
  refine pm_iconst (v := 1) dL_law_787 (by decide) ?_
  refine pm_iadd dL_law_788 ?_
  rw [show nI (7 * t) + 1 = nI (7 * t + 1) from nI_add _ 1]
  refine pm_sld dL_law_789 (th_in (by omega) (by omega)) ?_
  refine pm_callV (M2 := m_X11_whose) (As := [_]) ok_X11_whose (ci := 11) rfl kw_716 kw_717 kw_718 dL_law_790 rfl rfl rfl (Nat.le_of_ble_eq_true rfl) ⟨⟨Nat.le_of_ble_eq_true rfl, Nat.le_of_ble_eq_true rfl⟩, (show cs + 0 ≤ 600000 by omega), (show ss + 0 ≤ 7302250 by omega)⟩ ?_
  refine c_X11_whose hV.1 hV.2.1.1 (fun X2 ty => ?_)
  refine pm_aload_n dL_law_793 rfl rfl ?_
  refine pm_aload_n dL_law_794 rfl rfl ?_
  refine pm_iload_n dL_law_795 rfl rfl ?_
  refine pm_iconst (v := 1) dL_law_796 (by decide) ?_
  refine pm_iadd dL_law_797 ?_
  rw [show nI (7 * t) + 1 = nI (7 * t + 1) from nI_add _ 1]
  refine pm_sld dL_law_798 (th_in (by omega) (by omega)) ?_
  refine pm_callV (M2 := m_X12_whose) (As := [_]) ok_X12_whose (ci := 12) rfl kw_1248 kw_1249 kw_1250 dL_law_799 rfl rfl rfl (Nat.le_of_ble_eq_true rfl) ⟨⟨Nat.le_of_ble_eq_true rfl, Nat.le_of_ble_eq_true rfl⟩, (show cs + 0 + 0 ≤ 600000 by omega), (show ss + 0 + 0 ≤ 7302250 by omega)⟩ ?_
  refine c_X12_whose hV.1 (fun s2 B2 => ?_)
  refine pm_icmp_eq (tgt := 1286) dL_law_802 (by decide) (fun c_802 => ?_) (fun c_802 => absurd (rfl) c_802)
  exact kk ad S A X2 (va_up Y 4 ty) F Hd Cs s2 B2 hs (cs + 0 + 0) (ss + 0 + 0) (hV) (by omega) (by omega)

set_option maxHeartbeats 600000 in
set_option maxRecDepth 100000 in
theorem lw_c19 {l : Launch} {G : pm_G} {ad : Nat → Nat → Nat} {S : Nat → Nat} {A : Nat → Nat → Int32} {X : Nat → Int32} {Y : Nat → Nat → Int32} {F : Nat → Int64} {Hd Cs : Nat → Option Nat} {s : Nat → Int32} {B : Nat → Nat → Int32} {hs : Int64} {Q : pm_T} {t cs ss : Nat} (hV : th_V ad S A Y Cs) (hL : 7 * t + 7 ≤ G.2.2.2.2.1) (hL2 : G.2.2.2.2.1 ≤ 448) (hcs : cs ≤ 1000) (hss : ss ≤ 10000) (kk : ∀ ad2 S2 A2 X2 Y2 F2 Hd2 Cs2 s2 B2 hs2 cs2 ss2, th_V ad2 S2 A2 Y2 Cs2 → cs2 ≤ cs + 1 → ss2 ≤ ss + 13 → pm_W l G m_law ad2 1286 [(3, .int (nI (7 * t))), (2, .ref (ad2 8 0)), (1, .ref (ad2 0 0)), (0, .ref G.2.2.2.1)] [] (th_cw ad2 S2 A2 X2 Y2 F2 Hd2 Cs2 (th_mp ad2 S2 A2 s2 B2 hs2)) cs2 ss2 Q) : pm_W l G m_law ad 807 [(3, .int (nI (7 * t))), (2, .ref (ad 8 0)), (1, .ref (ad 0 0)), (0, .ref G.2.2.2.1)] [] (th_cw ad S A X Y F Hd Cs (th_mp ad S A s B hs)) cs ss Q := by
  refine pm_aload_n dL_law_807 rfl rfl ?_
  refine pm_aload_n dL_law_808 rfl rfl ?_
  refine pm_iload_n dL_law_809 rfl rfl ?_
  refine pm_iconst (v := 1) dL_law_810 (by decide) ?_
  refine pm_iadd dL_law_811 ?_
  rw [show nI (7 * t) + 1 = nI (7 * t + 1) from nI_add _ 1]
  refine pm_sld dL_law_812 (th_in (by omega) (by omega)) ?_
  refine pm_aload_n dL_law_813 rfl rfl ?_
  refine pm_iload_n dL_law_814 rfl rfl ?_
  refine pm_iconst (v := 2) dL_law_815 (by decide) ?_
  refine pm_iadd dL_law_816 ?_
  rw [show nI (7 * t) + 2 = nI (7 * t + 2) from nI_add _ 2]
  refine pm_sld dL_law_817 (th_in (by omega) (by omega)) ?_
  refine pm_callV (M2 := m_X11_reach) (As := [_, _]) ok_X11_reach (ci := 11) rfl kw_724 kw_725 kw_726 dL_law_818 rfl rfl rfl (Nat.le_of_ble_eq_true rfl) ⟨⟨Nat.le_of_ble_eq_true rfl, Nat.le_of_ble_eq_true rfl⟩, (show cs + 0 ≤ 600000 by omega), (show ss + 0 ≤ 7302250 by omega)⟩ ?_
  refine c_X11_reach hV.1 (fun X2 F2 Hd2 => ?_)
  refine pm_aload_n dL_law_821 rfl rfl ?_
  refine pm_aload_n dL_law_822 rfl rfl ?_
  refine pm_iload_n dL_law_823 rfl rfl ?_
  refine pm_iconst (v := 1) dL_law_824 (by decide) ?_
  refine pm_iadd dL_law_825 ?_
  rw [show nI (7 * t) + 1 = nI (7 * t + 1) from nI_add _ 1]
  refine pm_sld dL_law_826 (th_in (by omega) (by omega)) ?_
  refine pm_aload_n dL_law_827 rfl rfl ?_
  refine pm_iload_n dL_law_828 rfl rfl ?_
  refine pm_iconst (v := 2) dL_law_829 (by decide) ?_
  refine pm_iadd dL_law_830 ?_
  rw [show nI (7 * t) + 2 = nI (7 * t + 2) from nI_add _ 2]
  refine pm_sld dL_law_831 (th_in (by omega) (by omega)) ?_
  refine pm_callV (M2 := m_X12_reach) (As := [_, _]) ok_X12_reach (ci := 12) rfl kw_1252 kw_1253 kw_1254 dL_law_832 rfl rfl rfl (Nat.le_of_ble_eq_true rfl) ⟨⟨Nat.le_of_ble_eq_true rfl, Nat.le_of_ble_eq_true rfl⟩, (show cs + 0 + 0 ≤ 600000 by omega), (show ss + 0 + 0 ≤ 7302250 by omega)⟩ ?_
  refine c_X12_reach hV.1 (fun s2 B2 => ?_)
  refine pm_lcmp dL_law_835 ?_
  refine pm_if_eq (tgt := 1286) dL_law_836 (by decide) (fun c_836 => ?_) (fun c_836 => absurd (th_eq.mpr rfl) c_836)
  exact kk ad S A X2 Y F2 Hd2 Cs s2 B2 hs (cs + 0 + 0) (ss + 0 + 0) (hV) (by omega) (by omega)

set_option maxHeartbeats 600000 in
set_option maxRecDepth 100000 in
theorem lw_c20 {l : Launch} {G : pm_G} {ad : Nat → Nat → Nat} {S : Nat → Nat} {A : Nat → Nat → Int32} {X : Nat → Int32} {Y : Nat → Nat → Int32} {F : Nat → Int64} {Hd Cs : Nat → Option Nat} {s : Nat → Int32} {B : Nat → Nat → Int32} {hs : Int64} {Q : pm_T} {t cs ss : Nat} (hV : th_V ad S A Y Cs) (hL : 7 * t + 7 ≤ G.2.2.2.2.1) (hL2 : G.2.2.2.2.1 ≤ 448) (hcs : cs ≤ 1000) (hss : ss ≤ 10000) (kk : ∀ ad2 S2 A2 X2 Y2 F2 Hd2 Cs2 s2 B2 hs2 cs2 ss2, th_V ad2 S2 A2 Y2 Cs2 → cs2 ≤ cs + 1 → ss2 ≤ ss + 13 → pm_W l G m_law ad2 1286 [(3, .int (nI (7 * t))), (2, .ref (ad2 8 0)), (1, .ref (ad2 0 0)), (0, .ref G.2.2.2.1)] [] (th_cw ad2 S2 A2 X2 Y2 F2 Hd2 Cs2 (th_mp ad2 S2 A2 s2 B2 hs2)) cs2 ss2 Q) : pm_W l G m_law ad 841 [(3, .int (nI (7 * t))), (2, .ref (ad 8 0)), (1, .ref (ad 0 0)), (0, .ref G.2.2.2.1)] [] (th_cw ad S A X Y F Hd Cs (th_mp ad S A s B hs)) cs ss Q := by
  refine pm_aload_n dL_law_841 rfl rfl ?_
  refine pm_aload_n dL_law_842 rfl rfl ?_
  refine pm_iload_n dL_law_843 rfl rfl ?_
  refine pm_iconst (v := 1) dL_law_844 (by decide) ?_
  refine pm_iadd dL_law_845 ?_
  rw [show nI (7 * t) + 1 = nI (7 * t + 1) from nI_add _ 1]
  refine pm_sld dL_law_846 (th_in (by omega) (by omega)) ?_
  refine pm_aload_n dL_law_847 rfl rfl ?_
  refine pm_iload_n dL_law_848 rfl rfl ?_
  refine pm_iconst (v := 2) dL_law_849 (by decide) ?_
  refine pm_iadd dL_law_850 ?_
  rw [show nI (7 * t) + 2 = nI (7 * t + 2) from nI_add _ 2]
  refine pm_sld dL_law_851 (th_in (by omega) (by omega)) ?_
  refine pm_aload_n dL_law_852 rfl rfl ?_
  refine pm_iload_n dL_law_853 rfl rfl ?_
  refine pm_iconst (v := 3) dL_law_854 (by decide) ?_
  refine pm_iadd dL_law_855 ?_
  rw [show nI (7 * t) + 3 = nI (7 * t + 3) from nI_add _ 3]
  refine pm_sld dL_law_856 (th_in (by omega) (by omega)) ?_
  refine pm_callV (M2 := m_X11_odds) (As := [_, _, _]) ok_X11_odds (ci := 11) rfl kw_764 kw_765 kw_766 dL_law_857 rfl rfl rfl (Nat.le_of_ble_eq_true rfl) ⟨⟨Nat.le_of_ble_eq_true rfl, Nat.le_of_ble_eq_true rfl⟩, (show cs + 0 ≤ 600000 by omega), (show ss + 0 ≤ 7302250 by omega)⟩ ?_
  refine c_X11_odds hV.1 hV.2.1.1 (fun ty => ?_)
  refine pm_aload_n dL_law_860 rfl rfl ?_
  refine pm_aload_n dL_law_861 rfl rfl ?_
  refine pm_iload_n dL_law_862 rfl rfl ?_
  refine pm_iconst (v := 1) dL_law_863 (by decide) ?_
  refine pm_iadd dL_law_864 ?_
  rw [show nI (7 * t) + 1 = nI (7 * t + 1) from nI_add _ 1]
  refine pm_sld dL_law_865 (th_in (by omega) (by omega)) ?_
  refine pm_aload_n dL_law_866 rfl rfl ?_
  refine pm_iload_n dL_law_867 rfl rfl ?_
  refine pm_iconst (v := 2) dL_law_868 (by decide) ?_
  refine pm_iadd dL_law_869 ?_
  rw [show nI (7 * t) + 2 = nI (7 * t + 2) from nI_add _ 2]
  refine pm_sld dL_law_870 (th_in (by omega) (by omega)) ?_
  refine pm_aload_n dL_law_871 rfl rfl ?_
  refine pm_iload_n dL_law_872 rfl rfl ?_
  refine pm_iconst (v := 3) dL_law_873 (by decide) ?_
  refine pm_iadd dL_law_874 ?_
  rw [show nI (7 * t) + 3 = nI (7 * t + 3) from nI_add _ 3]
  refine pm_sld dL_law_875 (th_in (by omega) (by omega)) ?_
  refine pm_callV (M2 := m_X12_odds) (As := [_, _, _]) ok_X12_odds (ci := 12) rfl kw_1269 kw_1270 kw_1271 dL_law_876 rfl rfl rfl (Nat.le_of_ble_eq_true rfl) ⟨⟨Nat.le_of_ble_eq_true rfl, Nat.le_of_ble_eq_true rfl⟩, (show cs + 0 + 0 ≤ 600000 by omega), (show ss + 0 + 0 ≤ 7302250 by omega)⟩ ?_
  refine c_X12_odds hV.1 ?_
  refine pm_lcmp dL_law_879 ?_
  refine pm_if_eq (tgt := 1286) dL_law_880 (by decide) (fun c_880 => ?_) (fun c_880 => absurd (th_eq.mpr rfl) c_880)
  exact kk ad S A X (va_up Y 5 ty) F Hd Cs s B hs (cs + 0 + 0) (ss + 0 + 0) (hV) (by omega) (by omega)

set_option maxHeartbeats 600000 in
set_option maxRecDepth 100000 in
theorem lw_c21 {l : Launch} {G : pm_G} {ad : Nat → Nat → Nat} {S : Nat → Nat} {A : Nat → Nat → Int32} {X : Nat → Int32} {Y : Nat → Nat → Int32} {F : Nat → Int64} {Hd Cs : Nat → Option Nat} {s : Nat → Int32} {B : Nat → Nat → Int32} {hs : Int64} {Q : pm_T} {t cs ss : Nat} (hV : th_V ad S A Y Cs) (hL : 7 * t + 7 ≤ G.2.2.2.2.1) (hL2 : G.2.2.2.2.1 ≤ 448) (hcs : cs ≤ 1000) (hss : ss ≤ 10000) (kk : ∀ ad2 S2 A2 X2 Y2 F2 Hd2 Cs2 s2 B2 hs2 cs2 ss2, th_V ad2 S2 A2 Y2 Cs2 → cs2 ≤ cs + 1 → ss2 ≤ ss + 13 → pm_W l G m_law ad2 1286 [(3, .int (nI (7 * t))), (2, .ref (ad2 8 0)), (1, .ref (ad2 0 0)), (0, .ref G.2.2.2.1)] [] (th_cw ad2 S2 A2 X2 Y2 F2 Hd2 Cs2 (th_mp ad2 S2 A2 s2 B2 hs2)) cs2 ss2 Q) : pm_W l G m_law ad 885 [(3, .int (nI (7 * t))), (2, .ref (ad 8 0)), (1, .ref (ad 0 0)), (0, .ref G.2.2.2.1)] [] (th_cw ad S A X Y F Hd Cs (th_mp ad S A s B hs)) cs ss Q := by
  refine pm_aload_n dL_law_885 rfl rfl ?_
  refine pm_aload_n dL_law_886 rfl rfl ?_
  refine pm_iload_n dL_law_887 rfl rfl ?_
  refine pm_iconst (v := 1) dL_law_888 (by decide) ?_
  refine pm_iadd dL_law_889 ?_
  rw [show nI (7 * t) + 1 = nI (7 * t + 1) from nI_add _ 1]
  refine pm_sld dL_law_890 (th_in (by omega) (by omega)) ?_
  refine pm_aload_n dL_law_891 rfl rfl ?_
  refine pm_iload_n dL_law_892 rfl rfl ?_
  refine pm_iconst (v := 2) dL_law_893 (by decide) ?_
  refine pm_iadd dL_law_894 ?_
  rw [show nI (7 * t) + 2 = nI (7 * t + 2) from nI_add _ 2]
  refine pm_sld dL_law_895 (th_in (by omega) (by omega)) ?_
  refine pm_aload_n dL_law_896 rfl rfl ?_
  refine pm_iload_n dL_law_897 rfl rfl ?_
  refine pm_iconst (v := 3) dL_law_898 (by decide) ?_
  refine pm_iadd dL_law_899 ?_
  rw [show nI (7 * t) + 3 = nI (7 * t + 3) from nI_add _ 3]
  refine pm_sld dL_law_900 (th_in (by omega) (by omega)) ?_
  refine pm_callV (M2 := m_X11_likely) (As := [_, _, _]) ok_X11_likely (ci := 11) rfl kw_792 kw_793 kw_794 dL_law_901 rfl rfl rfl (Nat.le_of_ble_eq_true rfl) ⟨⟨Nat.le_of_ble_eq_true rfl, Nat.le_of_ble_eq_true rfl⟩, (show cs + 0 ≤ 600000 by omega), (show ss + 0 ≤ 7302250 by omega)⟩ ?_
  refine c_X11_likely hV.1 hV.2.1.1 (fun ty => ?_)
  refine pm_aload_n dL_law_904 rfl rfl ?_
  refine pm_aload_n dL_law_905 rfl rfl ?_
  refine pm_iload_n dL_law_906 rfl rfl ?_
  refine pm_iconst (v := 1) dL_law_907 (by decide) ?_
  refine pm_iadd dL_law_908 ?_
  rw [show nI (7 * t) + 1 = nI (7 * t + 1) from nI_add _ 1]
  refine pm_sld dL_law_909 (th_in (by omega) (by omega)) ?_
  refine pm_aload_n dL_law_910 rfl rfl ?_
  refine pm_iload_n dL_law_911 rfl rfl ?_
  refine pm_iconst (v := 2) dL_law_912 (by decide) ?_
  refine pm_iadd dL_law_913 ?_
  rw [show nI (7 * t) + 2 = nI (7 * t + 2) from nI_add _ 2]
  refine pm_sld dL_law_914 (th_in (by omega) (by omega)) ?_
  refine pm_aload_n dL_law_915 rfl rfl ?_
  refine pm_iload_n dL_law_916 rfl rfl ?_
  refine pm_iconst (v := 3) dL_law_917 (by decide) ?_
  refine pm_iadd dL_law_918 ?_
  rw [show nI (7 * t) + 3 = nI (7 * t + 3) from nI_add _ 3]
  refine pm_sld dL_law_919 (th_in (by omega) (by omega)) ?_
  refine pm_callV (M2 := m_X12_likely) (As := [_, _, _]) ok_X12_likely (ci := 12) rfl kw_1294 kw_1295 kw_1296 dL_law_920 rfl rfl rfl (Nat.le_of_ble_eq_true rfl) ⟨⟨Nat.le_of_ble_eq_true rfl, Nat.le_of_ble_eq_true rfl⟩, (show cs + 0 + 0 ≤ 600000 by omega), (show ss + 0 + 0 ≤ 7302250 by omega)⟩ ?_
  refine c_X12_likely hV.1 ?_
  refine pm_lcmp dL_law_923 ?_
  refine pm_if_eq (tgt := 1286) dL_law_924 (by decide) (fun c_924 => ?_) (fun c_924 => absurd (th_eq.mpr rfl) c_924)
  exact kk ad S A X (va_up Y 5 ty) F Hd Cs s B hs (cs + 0 + 0) (ss + 0 + 0) (hV) (by omega) (by omega)

set_option maxHeartbeats 600000 in
set_option maxRecDepth 100000 in
theorem lw_c22 {l : Launch} {G : pm_G} {ad : Nat → Nat → Nat} {S : Nat → Nat} {A : Nat → Nat → Int32} {X : Nat → Int32} {Y : Nat → Nat → Int32} {F : Nat → Int64} {Hd Cs : Nat → Option Nat} {s : Nat → Int32} {B : Nat → Nat → Int32} {hs : Int64} {Q : pm_T} {t cs ss : Nat} (hV : th_V ad S A Y Cs) (hL : 7 * t + 7 ≤ G.2.2.2.2.1) (hL2 : G.2.2.2.2.1 ≤ 448) (hcs : cs ≤ 1000) (hss : ss ≤ 10000) (kk : ∀ ad2 S2 A2 X2 Y2 F2 Hd2 Cs2 s2 B2 hs2 cs2 ss2, th_V ad2 S2 A2 Y2 Cs2 → cs2 ≤ cs + 1 → ss2 ≤ ss + 13 → pm_W l G m_law ad2 1286 [(3, .int (nI (7 * t))), (2, .ref (ad2 8 0)), (1, .ref (ad2 0 0)), (0, .ref G.2.2.2.1)] [] (th_cw ad2 S2 A2 X2 Y2 F2 Hd2 Cs2 (th_mp ad2 S2 A2 s2 B2 hs2)) cs2 ss2 Q) : pm_W l G m_law ad 929 [(3, .int (nI (7 * t))), (2, .ref (ad 8 0)), (1, .ref (ad 0 0)), (0, .ref G.2.2.2.1)] [] (th_cw ad S A X Y F Hd Cs (th_mp ad S A s B hs)) cs ss Q := by
  refine pm_aload_n dL_law_929 rfl rfl ?_
  refine pm_aload_n dL_law_930 rfl rfl ?_
  refine pm_iload_n dL_law_931 rfl rfl ?_
  refine pm_iconst (v := 1) dL_law_932 (by decide) ?_
  refine pm_iadd dL_law_933 ?_
  rw [show nI (7 * t) + 1 = nI (7 * t + 1) from nI_add _ 1]
  refine pm_sld dL_law_934 (th_in (by omega) (by omega)) ?_
  refine pm_aload_n dL_law_935 rfl rfl ?_
  refine pm_iload_n dL_law_936 rfl rfl ?_
  refine pm_iconst (v := 2) dL_law_937 (by decide) ?_
  refine pm_iadd dL_law_938 ?_
  rw [show nI (7 * t) + 2 = nI (7 * t + 2) from nI_add _ 2]
  refine pm_sld dL_law_939 (th_in (by omega) (by omega)) ?_
  refine pm_aload_n dL_law_940 rfl rfl ?_
  refine pm_iload_n dL_law_941 rfl rfl ?_
  refine pm_iconst (v := 3) dL_law_942 (by decide) ?_
  refine pm_iadd dL_law_943 ?_
  rw [show nI (7 * t) + 3 = nI (7 * t + 3) from nI_add _ 3]
  refine pm_sld dL_law_944 (th_in (by omega) (by omega)) ?_
  refine pm_callV (M2 := m_X11_comer) (As := [_, _, _]) ok_X11_comer (ci := 11) rfl kw_800 kw_801 kw_802 dL_law_945 rfl rfl rfl (Nat.le_of_ble_eq_true rfl) ⟨⟨Nat.le_of_ble_eq_true rfl, Nat.le_of_ble_eq_true rfl⟩, (show cs + 0 ≤ 600000 by omega), (show ss + 0 ≤ 7302250 by omega)⟩ ?_
  refine c_X11_comer hV.1 ?_
  refine pm_aload_n dL_law_948 rfl rfl ?_
  refine pm_aload_n dL_law_949 rfl rfl ?_
  refine pm_iload_n dL_law_950 rfl rfl ?_
  refine pm_iconst (v := 1) dL_law_951 (by decide) ?_
  refine pm_iadd dL_law_952 ?_
  rw [show nI (7 * t) + 1 = nI (7 * t + 1) from nI_add _ 1]
  refine pm_sld dL_law_953 (th_in (by omega) (by omega)) ?_
  refine pm_aload_n dL_law_954 rfl rfl ?_
  refine pm_iload_n dL_law_955 rfl rfl ?_
  refine pm_iconst (v := 2) dL_law_956 (by decide) ?_
  refine pm_iadd dL_law_957 ?_
  rw [show nI (7 * t) + 2 = nI (7 * t + 2) from nI_add _ 2]
  refine pm_sld dL_law_958 (th_in (by omega) (by omega)) ?_
  refine pm_aload_n dL_law_959 rfl rfl ?_
  refine pm_iload_n dL_law_960 rfl rfl ?_
  refine pm_iconst (v := 3) dL_law_961 (by decide) ?_
  refine pm_iadd dL_law_962 ?_
  rw [show nI (7 * t) + 3 = nI (7 * t + 3) from nI_add _ 3]
  refine pm_sld dL_law_963 (th_in (by omega) (by omega)) ?_
  refine pm_callV (M2 := m_X12_comer) (As := [_, _, _]) ok_X12_comer (ci := 12) rfl kw_1298 kw_1299 kw_1300 dL_law_964 rfl rfl rfl (Nat.le_of_ble_eq_true rfl) ⟨⟨Nat.le_of_ble_eq_true rfl, Nat.le_of_ble_eq_true rfl⟩, (show cs + 0 + 0 ≤ 600000 by omega), (show ss + 0 + 0 ≤ 7302250 by omega)⟩ ?_
  refine c_X12_comer hV.1 ?_
  refine pm_icmp_eq (tgt := 1286) dL_law_967 (by decide) (fun c_967 => ?_) (fun c_967 => absurd (rfl) c_967)
  exact kk ad (th_comS S _ _ _) (th_comA S A _ _ _) X Y F Hd (th_comC ad S Cs _ _ _) s B hs (cs + 0 + 0) (ss + 0 + 0) (th_V_comer hV _ _ _) (by omega) (by omega)

set_option maxHeartbeats 600000 in
set_option maxRecDepth 100000 in
theorem lw_c23 {l : Launch} {G : pm_G} {ad : Nat → Nat → Nat} {S : Nat → Nat} {A : Nat → Nat → Int32} {X : Nat → Int32} {Y : Nat → Nat → Int32} {F : Nat → Int64} {Hd Cs : Nat → Option Nat} {s : Nat → Int32} {B : Nat → Nat → Int32} {hs : Int64} {Q : pm_T} {t cs ss : Nat} (hV : th_V ad S A Y Cs) (hL : 7 * t + 7 ≤ G.2.2.2.2.1) (hL2 : G.2.2.2.2.1 ≤ 448) (hcs : cs ≤ 1000) (hss : ss ≤ 10000) (kk : ∀ ad2 S2 A2 X2 Y2 F2 Hd2 Cs2 s2 B2 hs2 cs2 ss2, th_V ad2 S2 A2 Y2 Cs2 → cs2 ≤ cs + 1 → ss2 ≤ ss + 13 → pm_W l G m_law ad2 1286 [(3, .int (nI (7 * t))), (2, .ref (ad2 8 0)), (1, .ref (ad2 0 0)), (0, .ref G.2.2.2.1)] [] (th_cw ad2 S2 A2 X2 Y2 F2 Hd2 Cs2 (th_mp ad2 S2 A2 s2 B2 hs2)) cs2 ss2 Q) : pm_W l G m_law ad 972 [(3, .int (nI (7 * t))), (2, .ref (ad 8 0)), (1, .ref (ad 0 0)), (0, .ref G.2.2.2.1)] [] (th_cw ad S A X Y F Hd Cs (th_mp ad S A s B hs)) cs ss Q := by
  refine pm_aload_n dL_law_972 rfl rfl ?_
  refine pm_callV (M2 := m_X11_gone) (As := []) ok_X11_gone (ci := 11) rfl kw_808 kw_809 kw_810 dL_law_973 rfl rfl rfl (Nat.le_of_ble_eq_true rfl) ⟨⟨Nat.le_of_ble_eq_true rfl, Nat.le_of_ble_eq_true rfl⟩, (show cs + 0 ≤ 600000 by omega), (show ss + 0 ≤ 7302250 by omega)⟩ ?_
  refine c_X11_gone ?_
  refine pm_aload_n dL_law_976 rfl rfl ?_
  refine pm_callV (M2 := m_X12_gone) (As := []) ok_X12_gone (ci := 12) rfl kw_1302 kw_1303 kw_1304 dL_law_977 rfl rfl rfl (Nat.le_of_ble_eq_true rfl) ⟨⟨Nat.le_of_ble_eq_true rfl, Nat.le_of_ble_eq_true rfl⟩, (show cs + 0 + 0 ≤ 600000 by omega), (show ss + 0 + 0 ≤ 7302250 by omega)⟩ ?_
  refine c_X12_gone ?_
  refine pm_icmp_eq (tgt := 1286) dL_law_980 (by decide) (fun c_980 => ?_) (fun c_980 => absurd (rfl) c_980)
  exact kk ad (va_up S 34 0) A X Y F Hd Cs s B hs (cs + 0 + 0) (ss + 0 + 0) (th_V_gone hV) (by omega) (by omega)

set_option maxHeartbeats 600000 in
set_option maxRecDepth 100000 in
theorem lw_c24 {l : Launch} {G : pm_G} {ad : Nat → Nat → Nat} {S : Nat → Nat} {A : Nat → Nat → Int32} {X : Nat → Int32} {Y : Nat → Nat → Int32} {F : Nat → Int64} {Hd Cs : Nat → Option Nat} {s : Nat → Int32} {B : Nat → Nat → Int32} {hs : Int64} {Q : pm_T} {t cs ss : Nat} (hV : th_V ad S A Y Cs) (hL : 7 * t + 7 ≤ G.2.2.2.2.1) (hL2 : G.2.2.2.2.1 ≤ 448) (hcs : cs ≤ 1000) (hss : ss ≤ 10000) (kk : ∀ ad2 S2 A2 X2 Y2 F2 Hd2 Cs2 s2 B2 hs2 cs2 ss2, th_V ad2 S2 A2 Y2 Cs2 → cs2 ≤ cs + 1 → ss2 ≤ ss + 13 → pm_W l G m_law ad2 1286 [(3, .int (nI (7 * t))), (2, .ref (ad2 8 0)), (1, .ref (ad2 0 0)), (0, .ref G.2.2.2.1)] [] (th_cw ad2 S2 A2 X2 Y2 F2 Hd2 Cs2 (th_mp ad2 S2 A2 s2 B2 hs2)) cs2 ss2 Q) : pm_W l G m_law ad 985 [(3, .int (nI (7 * t))), (2, .ref (ad 8 0)), (1, .ref (ad 0 0)), (0, .ref G.2.2.2.1)] [] (th_cw ad S A X Y F Hd Cs (th_mp ad S A s B hs)) cs ss Q := by
  refine pm_aload_n dL_law_985 rfl rfl ?_
  refine pm_aload_n dL_law_986 rfl rfl ?_
  refine pm_iload_n dL_law_987 rfl rfl ?_
  refine pm_iconst (v := 1) dL_law_988 (by decide) ?_
  refine pm_iadd dL_law_989 ?_
  rw [show nI (7 * t) + 1 = nI (7 * t + 1) from nI_add _ 1]
  refine pm_sld dL_law_990 (th_in (by omega) (by omega)) ?_
  refine pm_aload_n dL_law_991 rfl rfl ?_
  refine pm_iload_n dL_law_992 rfl rfl ?_
  refine pm_iconst (v := 2) dL_law_993 (by decide) ?_
  refine pm_iadd dL_law_994 ?_
  rw [show nI (7 * t) + 2 = nI (7 * t + 2) from nI_add _ 2]
  refine pm_sld dL_law_995 (th_in (by omega) (by omega)) ?_
  refine pm_aload_n dL_law_996 rfl rfl ?_
  refine pm_iload_n dL_law_997 rfl rfl ?_
  refine pm_iconst (v := 3) dL_law_998 (by decide) ?_
  refine pm_iadd dL_law_999 ?_
  rw [show nI (7 * t) + 3 = nI (7 * t + 3) from nI_add _ 3]
  refine pm_sld dL_law_1000 (th_in (by omega) (by omega)) ?_
  refine pm_callV (M2 := m_X11_worth) (As := [_, _, _]) ok_X11_worth (ci := 11) rfl kw_816 kw_817 kw_818 dL_law_1001 rfl rfl rfl (Nat.le_of_ble_eq_true rfl) ⟨⟨Nat.le_of_ble_eq_true rfl, Nat.le_of_ble_eq_true rfl⟩, (show cs + 0 ≤ 600000 by omega), (show ss + 0 ≤ 7302250 by omega)⟩ ?_
  refine c_X11_worth hV.1 hV.2 ?_
  refine pm_aload_n dL_law_1004 rfl rfl ?_
  refine pm_aload_n dL_law_1005 rfl rfl ?_
  refine pm_iload_n dL_law_1006 rfl rfl ?_
  refine pm_iconst (v := 1) dL_law_1007 (by decide) ?_
  refine pm_iadd dL_law_1008 ?_
  rw [show nI (7 * t) + 1 = nI (7 * t + 1) from nI_add _ 1]
  refine pm_sld dL_law_1009 (th_in (by omega) (by omega)) ?_
  refine pm_aload_n dL_law_1010 rfl rfl ?_
  refine pm_iload_n dL_law_1011 rfl rfl ?_
  refine pm_iconst (v := 2) dL_law_1012 (by decide) ?_
  refine pm_iadd dL_law_1013 ?_
  rw [show nI (7 * t) + 2 = nI (7 * t + 2) from nI_add _ 2]
  refine pm_sld dL_law_1014 (th_in (by omega) (by omega)) ?_
  refine pm_aload_n dL_law_1015 rfl rfl ?_
  refine pm_iload_n dL_law_1016 rfl rfl ?_
  refine pm_iconst (v := 3) dL_law_1017 (by decide) ?_
  refine pm_iadd dL_law_1018 ?_
  rw [show nI (7 * t) + 3 = nI (7 * t + 3) from nI_add _ 3]
  refine pm_sld dL_law_1019 (th_in (by omega) (by omega)) ?_
  refine pm_callV (M2 := m_X12_worth) (As := [_, _, _]) ok_X12_worth (ci := 12) rfl kw_1306 kw_1307 kw_1308 dL_law_1020 rfl rfl rfl (Nat.le_of_ble_eq_true rfl) ⟨⟨Nat.le_of_ble_eq_true rfl, Nat.le_of_ble_eq_true rfl⟩, (show cs + 0 + 0 ≤ 600000 by omega), (show ss + 0 + 0 ≤ 7302250 by omega)⟩ ?_
  refine c_X12_worth hV.1 ?_
  refine pm_lcmp dL_law_1023 ?_
  refine pm_if_eq (tgt := 1286) dL_law_1024 (by decide) (fun c_1024 => ?_) (fun c_1024 => absurd (th_eq.mpr rfl) c_1024)
  exact kk ad S A X Y F Hd Cs s B hs (cs + 0 + 0) (ss + 0 + 0) (hV) (by omega) (by omega)

set_option maxHeartbeats 600000 in
set_option maxRecDepth 100000 in
theorem lw_c25 {l : Launch} {G : pm_G} {ad : Nat → Nat → Nat} {S : Nat → Nat} {A : Nat → Nat → Int32} {X : Nat → Int32} {Y : Nat → Nat → Int32} {F : Nat → Int64} {Hd Cs : Nat → Option Nat} {s : Nat → Int32} {B : Nat → Nat → Int32} {hs : Int64} {Q : pm_T} {t cs ss : Nat} (hV : th_V ad S A Y Cs) (hL : 7 * t + 7 ≤ G.2.2.2.2.1) (hL2 : G.2.2.2.2.1 ≤ 448) (hcs : cs ≤ 1000) (hss : ss ≤ 10000) (kk : ∀ ad2 S2 A2 X2 Y2 F2 Hd2 Cs2 s2 B2 hs2 cs2 ss2, th_V ad2 S2 A2 Y2 Cs2 → cs2 ≤ cs + 1 → ss2 ≤ ss + 13 → pm_W l G m_law ad2 1286 [(3, .int (nI (7 * t))), (2, .ref (ad2 8 0)), (1, .ref (ad2 0 0)), (0, .ref G.2.2.2.1)] [] (th_cw ad2 S2 A2 X2 Y2 F2 Hd2 Cs2 (th_mp ad2 S2 A2 s2 B2 hs2)) cs2 ss2 Q) : pm_W l G m_law ad 1029 [(3, .int (nI (7 * t))), (2, .ref (ad 8 0)), (1, .ref (ad 0 0)), (0, .ref G.2.2.2.1)] [] (th_cw ad S A X Y F Hd Cs (th_mp ad S A s B hs)) cs ss Q := by
  refine pm_aload_n dL_law_1029 rfl rfl ?_
  refine pm_aload_n dL_law_1030 rfl rfl ?_
  refine pm_iload_n dL_law_1031 rfl rfl ?_
  refine pm_iconst (v := 1) dL_law_1032 (by decide) ?_
  refine pm_iadd dL_law_1033 ?_
  rw [show nI (7 * t) + 1 = nI (7 * t + 1) from nI_add _ 1]
  refine pm_sld dL_law_1034 (th_in (by omega) (by omega)) ?_
  refine pm_callV (M2 := m_X11_season) (As := [_]) ok_X11_season (ci := 11) rfl kw_833 kw_834 kw_835 dL_law_1035 rfl rfl rfl (Nat.le_of_ble_eq_true rfl) ⟨⟨Nat.le_of_ble_eq_true rfl, Nat.le_of_ble_eq_true rfl⟩, (show cs + 0 ≤ 600000 by omega), (show ss + 0 ≤ 7302250 by omega)⟩ ?_
  refine c_X11_season hV.1 hV.2 ?_
  refine pm_aload_n dL_law_1038 rfl rfl ?_
  refine pm_aload_n dL_law_1039 rfl rfl ?_
  refine pm_iload_n dL_law_1040 rfl rfl ?_
  refine pm_iconst (v := 1) dL_law_1041 (by decide) ?_
  refine pm_iadd dL_law_1042 ?_
  rw [show nI (7 * t) + 1 = nI (7 * t + 1) from nI_add _ 1]
  refine pm_sld dL_law_1043 (th_in (by omega) (by omega)) ?_
  refine pm_callV (M2 := m_X12_season) (As := [_]) ok_X12_season (ci := 12) rfl kw_1314 kw_1315 kw_1316 dL_law_1044 rfl rfl rfl (Nat.le_of_ble_eq_true rfl) ⟨⟨Nat.le_of_ble_eq_true rfl, Nat.le_of_ble_eq_true rfl⟩, (show cs + 0 + 0 ≤ 600000 by omega), (show ss + 0 + 0 ≤ 7302250 by omega)⟩ ?_
  refine c_X12_season hV.1 ?_
  refine pm_icmp_eq (tgt := 1286) dL_law_1047 (by decide) (fun c_1047 => ?_) (fun c_1047 => absurd (rfl) c_1047)
  exact kk ad S A X Y F Hd Cs s B hs (cs + 0 + 0) (ss + 0 + 0) (hV) (by omega) (by omega)

set_option maxHeartbeats 600000 in
set_option maxRecDepth 100000 in
theorem lw_c26 {l : Launch} {G : pm_G} {ad : Nat → Nat → Nat} {S : Nat → Nat} {A : Nat → Nat → Int32} {X : Nat → Int32} {Y : Nat → Nat → Int32} {F : Nat → Int64} {Hd Cs : Nat → Option Nat} {s : Nat → Int32} {B : Nat → Nat → Int32} {hs : Int64} {Q : pm_T} {t cs ss : Nat} (hV : th_V ad S A Y Cs) (hL : 7 * t + 7 ≤ G.2.2.2.2.1) (hL2 : G.2.2.2.2.1 ≤ 448) (hcs : cs ≤ 1000) (hss : ss ≤ 10000) (kk : ∀ ad2 S2 A2 X2 Y2 F2 Hd2 Cs2 s2 B2 hs2 cs2 ss2, th_V ad2 S2 A2 Y2 Cs2 → cs2 ≤ cs + 1 → ss2 ≤ ss + 13 → pm_W l G m_law ad2 1286 [(3, .int (nI (7 * t))), (2, .ref (ad2 8 0)), (1, .ref (ad2 0 0)), (0, .ref G.2.2.2.1)] [] (th_cw ad2 S2 A2 X2 Y2 F2 Hd2 Cs2 (th_mp ad2 S2 A2 s2 B2 hs2)) cs2 ss2 Q) : pm_W l G m_law ad 1052 [(3, .int (nI (7 * t))), (2, .ref (ad 8 0)), (1, .ref (ad 0 0)), (0, .ref G.2.2.2.1)] [] (th_cw ad S A X Y F Hd Cs (th_mp ad S A s B hs)) cs ss Q := by
  refine pm_aload_n dL_law_1052 rfl rfl ?_
  refine pm_aload_n dL_law_1053 rfl rfl ?_
  refine pm_iload_n dL_law_1054 rfl rfl ?_
  refine pm_iconst (v := 1) dL_law_1055 (by decide) ?_
  refine pm_iadd dL_law_1056 ?_
  rw [show nI (7 * t) + 1 = nI (7 * t + 1) from nI_add _ 1]
  refine pm_sld dL_law_1057 (th_in (by omega) (by omega)) ?_
  refine pm_aload_n dL_law_1058 rfl rfl ?_
  refine pm_iload_n dL_law_1059 rfl rfl ?_
  refine pm_iconst (v := 2) dL_law_1060 (by decide) ?_
  refine pm_iadd dL_law_1061 ?_
  rw [show nI (7 * t) + 2 = nI (7 * t + 2) from nI_add _ 2]
  refine pm_sld dL_law_1062 (th_in (by omega) (by omega)) ?_
  refine pm_aload_n dL_law_1063 rfl rfl ?_
  refine pm_iload_n dL_law_1064 rfl rfl ?_
  refine pm_iconst (v := 3) dL_law_1065 (by decide) ?_
  refine pm_iadd dL_law_1066 ?_
  rw [show nI (7 * t) + 3 = nI (7 * t + 3) from nI_add _ 3]
  refine pm_sld dL_law_1067 (th_in (by omega) (by omega)) ?_
  refine pm_aload_n dL_law_1068 rfl rfl ?_
  refine pm_iload_n dL_law_1069 rfl rfl ?_
  refine pm_iconst (v := 4) dL_law_1070 (by decide) ?_
  refine pm_iadd dL_law_1071 ?_
  rw [show nI (7 * t) + 4 = nI (7 * t + 4) from nI_add _ 4]
  refine pm_sld dL_law_1072 (th_in (by omega) (by omega)) ?_
  refine pm_aload_n dL_law_1073 rfl rfl ?_
  refine pm_iload_n dL_law_1074 rfl rfl ?_
  refine pm_iconst (v := 5) dL_law_1075 (by decide) ?_
  refine pm_iadd dL_law_1076 ?_
  rw [show nI (7 * t) + 5 = nI (7 * t + 5) from nI_add _ 5]
  refine pm_sld dL_law_1077 (th_in (by omega) (by omega)) ?_
  refine pm_aload_n dL_law_1078 rfl rfl ?_
  refine pm_iload_n dL_law_1079 rfl rfl ?_
  refine pm_bipush (v := 6) dL_law_1080 (by decide) ?_
  refine pm_iadd dL_law_1082 ?_
  rw [show nI (7 * t) + 6 = nI (7 * t + 6) from nI_add _ 6]
  refine pm_sld dL_law_1083 (th_in (by omega) (by omega)) ?_
  refine pm_callV (M2 := m_X11_tree) (As := [_, _, _, _, _, _]) ok_X11_tree (ci := 11) rfl kw_846 kw_847 kw_848 dL_law_1084 rfl rfl rfl (Nat.le_of_ble_eq_true rfl) ⟨⟨Nat.le_of_ble_eq_true rfl, Nat.le_of_ble_eq_true rfl⟩, (show cs + 0 ≤ 600000 by omega), (show ss + 0 ≤ 7302250 by omega)⟩ ?_
  refine c_X11_tree hV.1 (fun y => ?_)
  refine pm_aload_n dL_law_1087 rfl rfl ?_
  refine pm_aload_n dL_law_1088 rfl rfl ?_
  refine pm_iload_n dL_law_1089 rfl rfl ?_
  refine pm_iconst (v := 1) dL_law_1090 (by decide) ?_
  refine pm_iadd dL_law_1091 ?_
  rw [show nI (7 * t) + 1 = nI (7 * t + 1) from nI_add _ 1]
  refine pm_sld dL_law_1092 (th_in (by omega) (by omega)) ?_
  refine pm_aload_n dL_law_1093 rfl rfl ?_
  refine pm_iload_n dL_law_1094 rfl rfl ?_
  refine pm_iconst (v := 2) dL_law_1095 (by decide) ?_
  refine pm_iadd dL_law_1096 ?_
  rw [show nI (7 * t) + 2 = nI (7 * t + 2) from nI_add _ 2]
  refine pm_sld dL_law_1097 (th_in (by omega) (by omega)) ?_
  refine pm_aload_n dL_law_1098 rfl rfl ?_
  refine pm_iload_n dL_law_1099 rfl rfl ?_
  refine pm_iconst (v := 3) dL_law_1100 (by decide) ?_
  refine pm_iadd dL_law_1101 ?_
  rw [show nI (7 * t) + 3 = nI (7 * t + 3) from nI_add _ 3]
  refine pm_sld dL_law_1102 (th_in (by omega) (by omega)) ?_
  refine pm_aload_n dL_law_1103 rfl rfl ?_
  refine pm_iload_n dL_law_1104 rfl rfl ?_
  refine pm_iconst (v := 4) dL_law_1105 (by decide) ?_
  refine pm_iadd dL_law_1106 ?_
  rw [show nI (7 * t) + 4 = nI (7 * t + 4) from nI_add _ 4]
  refine pm_sld dL_law_1107 (th_in (by omega) (by omega)) ?_
  refine pm_aload_n dL_law_1108 rfl rfl ?_
  refine pm_iload_n dL_law_1109 rfl rfl ?_
  refine pm_iconst (v := 5) dL_law_1110 (by decide) ?_
  refine pm_iadd dL_law_1111 ?_
  rw [show nI (7 * t) + 5 = nI (7 * t + 5) from nI_add _ 5]
  refine pm_sld dL_law_1112 (th_in (by omega) (by omega)) ?_
  refine pm_aload_n dL_law_1113 rfl rfl ?_
  refine pm_iload_n dL_law_1114 rfl rfl ?_
  refine pm_bipush (v := 6) dL_law_1115 (by decide) ?_
  refine pm_iadd dL_law_1117 ?_
  rw [show nI (7 * t) + 6 = nI (7 * t + 6) from nI_add _ 6]
  refine pm_sld dL_law_1118 (th_in (by omega) (by omega)) ?_
  refine pm_callV (M2 := m_X12_tree) (As := [_, _, _, _, _, _]) ok_X12_tree (ci := 12) rfl kw_1322 kw_1323 kw_1324 dL_law_1119 rfl rfl rfl (Nat.le_of_ble_eq_true rfl) ⟨⟨Nat.le_of_ble_eq_true rfl, Nat.le_of_ble_eq_true rfl⟩, (show cs + 0 + 0 ≤ 600000 by omega), (show ss + 0 + 0 ≤ 7302250 by omega)⟩ ?_
  refine c_X12_tree hV.1 ?_
  refine pm_icmp_eq (tgt := 1286) dL_law_1122 (by decide) (fun c_1122 => ?_) (fun c_1122 => absurd (rfl) c_1122)
  exact kk ad S A X (va_up Y 0 y) F Hd Cs s B hs (cs + 0 + 0) (ss + 0 + 0) (hV) (by omega) (by omega)

set_option maxHeartbeats 600000 in
set_option maxRecDepth 100000 in
theorem lw_c27 {l : Launch} {G : pm_G} {ad : Nat → Nat → Nat} {S : Nat → Nat} {A : Nat → Nat → Int32} {X : Nat → Int32} {Y : Nat → Nat → Int32} {F : Nat → Int64} {Hd Cs : Nat → Option Nat} {s : Nat → Int32} {B : Nat → Nat → Int32} {hs : Int64} {Q : pm_T} {t cs ss : Nat} (hV : th_V ad S A Y Cs) (hL : 7 * t + 7 ≤ G.2.2.2.2.1) (hL2 : G.2.2.2.2.1 ≤ 448) (hcs : cs ≤ 1000) (hss : ss ≤ 10000) (kk : ∀ ad2 S2 A2 X2 Y2 F2 Hd2 Cs2 s2 B2 hs2 cs2 ss2, th_V ad2 S2 A2 Y2 Cs2 → cs2 ≤ cs + 1 → ss2 ≤ ss + 13 → pm_W l G m_law ad2 1286 [(3, .int (nI (7 * t))), (2, .ref (ad2 8 0)), (1, .ref (ad2 0 0)), (0, .ref G.2.2.2.1)] [] (th_cw ad2 S2 A2 X2 Y2 F2 Hd2 Cs2 (th_mp ad2 S2 A2 s2 B2 hs2)) cs2 ss2 Q) : pm_W l G m_law ad 1127 [(3, .int (nI (7 * t))), (2, .ref (ad 8 0)), (1, .ref (ad 0 0)), (0, .ref G.2.2.2.1)] [] (th_cw ad S A X Y F Hd Cs (th_mp ad S A s B hs)) cs ss Q := by
  refine pm_aload_n dL_law_1127 rfl rfl ?_
  refine pm_aload_n dL_law_1128 rfl rfl ?_
  refine pm_iload_n dL_law_1129 rfl rfl ?_
  refine pm_iconst (v := 1) dL_law_1130 (by decide) ?_
  refine pm_iadd dL_law_1131 ?_
  rw [show nI (7 * t) + 1 = nI (7 * t + 1) from nI_add _ 1]
  refine pm_sld dL_law_1132 (th_in (by omega) (by omega)) ?_
  refine pm_aload_n dL_law_1133 rfl rfl ?_
  refine pm_iload_n dL_law_1134 rfl rfl ?_
  refine pm_iconst (v := 2) dL_law_1135 (by decide) ?_
  refine pm_iadd dL_law_1136 ?_
  rw [show nI (7 * t) + 2 = nI (7 * t + 2) from nI_add _ 2]
  refine pm_sld dL_law_1137 (th_in (by omega) (by omega)) ?_
  refine pm_aload_n dL_law_1138 rfl rfl ?_
  refine pm_iload_n dL_law_1139 rfl rfl ?_
  refine pm_iconst (v := 3) dL_law_1140 (by decide) ?_
  refine pm_iadd dL_law_1141 ?_
  rw [show nI (7 * t) + 3 = nI (7 * t + 3) from nI_add _ 3]
  refine pm_sld dL_law_1142 (th_in (by omega) (by omega)) ?_
  refine pm_aload_n dL_law_1143 rfl rfl ?_
  refine pm_iload_n dL_law_1144 rfl rfl ?_
  refine pm_iconst (v := 4) dL_law_1145 (by decide) ?_
  refine pm_iadd dL_law_1146 ?_
  rw [show nI (7 * t) + 4 = nI (7 * t + 4) from nI_add _ 4]
  refine pm_sld dL_law_1147 (th_in (by omega) (by omega)) ?_
  refine pm_callV (M2 := m_X11_last) (As := [_, _, _, _]) ok_X11_last (ci := 11) rfl kw_861 kw_862 kw_863 dL_law_1148 rfl rfl rfl (Nat.le_of_ble_eq_true rfl) ⟨⟨Nat.le_of_ble_eq_true rfl, Nat.le_of_ble_eq_true rfl⟩, (show cs + 0 ≤ 600000 by omega), (show ss + 0 ≤ 7302250 by omega)⟩ ?_
  refine c_X11_last hV.1 (fun y => ?_)
  refine pm_aload_n dL_law_1151 rfl rfl ?_
  refine pm_aload_n dL_law_1152 rfl rfl ?_
  refine pm_iload_n dL_law_1153 rfl rfl ?_
  refine pm_iconst (v := 1) dL_law_1154 (by decide) ?_
  refine pm_iadd dL_law_1155 ?_
  rw [show nI (7 * t) + 1 = nI (7 * t + 1) from nI_add _ 1]
  refine pm_sld dL_law_1156 (th_in (by omega) (by omega)) ?_
  refine pm_aload_n dL_law_1157 rfl rfl ?_
  refine pm_iload_n dL_law_1158 rfl rfl ?_
  refine pm_iconst (v := 2) dL_law_1159 (by decide) ?_
  refine pm_iadd dL_law_1160 ?_
  rw [show nI (7 * t) + 2 = nI (7 * t + 2) from nI_add _ 2]
  refine pm_sld dL_law_1161 (th_in (by omega) (by omega)) ?_
  refine pm_aload_n dL_law_1162 rfl rfl ?_
  refine pm_iload_n dL_law_1163 rfl rfl ?_
  refine pm_iconst (v := 3) dL_law_1164 (by decide) ?_
  refine pm_iadd dL_law_1165 ?_
  rw [show nI (7 * t) + 3 = nI (7 * t + 3) from nI_add _ 3]
  refine pm_sld dL_law_1166 (th_in (by omega) (by omega)) ?_
  refine pm_aload_n dL_law_1167 rfl rfl ?_
  refine pm_iload_n dL_law_1168 rfl rfl ?_
  refine pm_iconst (v := 4) dL_law_1169 (by decide) ?_
  refine pm_iadd dL_law_1170 ?_
  rw [show nI (7 * t) + 4 = nI (7 * t + 4) from nI_add _ 4]
  refine pm_sld dL_law_1171 (th_in (by omega) (by omega)) ?_
  refine pm_callV (M2 := m_X12_last) (As := [_, _, _, _]) ok_X12_last (ci := 12) rfl kw_1339 kw_1340 kw_1341 dL_law_1172 rfl rfl rfl (Nat.le_of_ble_eq_true rfl) ⟨⟨Nat.le_of_ble_eq_true rfl, Nat.le_of_ble_eq_true rfl⟩, (show cs + 0 + 0 ≤ 600000 by omega), (show ss + 0 + 0 ≤ 7302250 by omega)⟩ ?_
  refine c_X12_last hV.1 ?_
  refine pm_icmp_eq (tgt := 1286) dL_law_1175 (by decide) (fun c_1175 => ?_) (fun c_1175 => absurd (rfl) c_1175)
  exact kk ad S A X (va_up Y 0 y) F Hd Cs s B hs (cs + 0 + 0) (ss + 0 + 0) (hV) (by omega) (by omega)

set_option maxHeartbeats 600000 in
set_option maxRecDepth 100000 in
theorem lw_c28 {l : Launch} {G : pm_G} {ad : Nat → Nat → Nat} {S : Nat → Nat} {A : Nat → Nat → Int32} {X : Nat → Int32} {Y : Nat → Nat → Int32} {F : Nat → Int64} {Hd Cs : Nat → Option Nat} {s : Nat → Int32} {B : Nat → Nat → Int32} {hs : Int64} {Q : pm_T} {t cs ss : Nat} (hV : th_V ad S A Y Cs) (hL : 7 * t + 7 ≤ G.2.2.2.2.1) (hL2 : G.2.2.2.2.1 ≤ 448) (hcs : cs ≤ 1000) (hss : ss ≤ 10000) (kk : ∀ ad2 S2 A2 X2 Y2 F2 Hd2 Cs2 s2 B2 hs2 cs2 ss2, th_V ad2 S2 A2 Y2 Cs2 → cs2 ≤ cs + 1 → ss2 ≤ ss + 13 → pm_W l G m_law ad2 1286 [(3, .int (nI (7 * t))), (2, .ref (ad2 8 0)), (1, .ref (ad2 0 0)), (0, .ref G.2.2.2.1)] [] (th_cw ad2 S2 A2 X2 Y2 F2 Hd2 Cs2 (th_mp ad2 S2 A2 s2 B2 hs2)) cs2 ss2 Q) : pm_W l G m_law ad 1180 [(3, .int (nI (7 * t))), (2, .ref (ad 8 0)), (1, .ref (ad 0 0)), (0, .ref G.2.2.2.1)] [] (th_cw ad S A X Y F Hd Cs (th_mp ad S A s B hs)) cs ss Q := by
  refine pm_aload_n dL_law_1180 rfl rfl ?_
  refine pm_aload_n dL_law_1181 rfl rfl ?_
  refine pm_iload_n dL_law_1182 rfl rfl ?_
  refine pm_iconst (v := 1) dL_law_1183 (by decide) ?_
  refine pm_iadd dL_law_1184 ?_
  rw [show nI (7 * t) + 1 = nI (7 * t + 1) from nI_add _ 1]
  refine pm_sld dL_law_1185 (th_in (by omega) (by omega)) ?_
  refine pm_aload_n dL_law_1186 rfl rfl ?_
  refine pm_iload_n dL_law_1187 rfl rfl ?_
  refine pm_iconst (v := 2) dL_law_1188 (by decide) ?_
  refine pm_iadd dL_law_1189 ?_
  rw [show nI (7 * t) + 2 = nI (7 * t + 2) from nI_add _ 2]
  refine pm_sld dL_law_1190 (th_in (by omega) (by omega)) ?_
  refine pm_aload_n dL_law_1191 rfl rfl ?_
  refine pm_iload_n dL_law_1192 rfl rfl ?_
  refine pm_iconst (v := 3) dL_law_1193 (by decide) ?_
  refine pm_iadd dL_law_1194 ?_
  rw [show nI (7 * t) + 3 = nI (7 * t + 3) from nI_add _ 3]
  refine pm_sld dL_law_1195 (th_in (by omega) (by omega)) ?_
  refine pm_callV (M2 := m_X11_run) (As := [_, _, _]) ok_X11_run (ci := 11) rfl kw_865 kw_866 kw_867 dL_law_1196 rfl rfl rfl (Nat.le_of_ble_eq_true rfl) ⟨⟨Nat.le_of_ble_eq_true rfl, Nat.le_of_ble_eq_true rfl⟩, (show cs + 0 ≤ 600000 by omega), (show ss + 0 ≤ 7302250 by omega)⟩ ?_
  refine c_X11_run ?_
  refine pm_aload_n dL_law_1199 rfl rfl ?_
  refine pm_aload_n dL_law_1200 rfl rfl ?_
  refine pm_iload_n dL_law_1201 rfl rfl ?_
  refine pm_iconst (v := 1) dL_law_1202 (by decide) ?_
  refine pm_iadd dL_law_1203 ?_
  rw [show nI (7 * t) + 1 = nI (7 * t + 1) from nI_add _ 1]
  refine pm_sld dL_law_1204 (th_in (by omega) (by omega)) ?_
  refine pm_aload_n dL_law_1205 rfl rfl ?_
  refine pm_iload_n dL_law_1206 rfl rfl ?_
  refine pm_iconst (v := 2) dL_law_1207 (by decide) ?_
  refine pm_iadd dL_law_1208 ?_
  rw [show nI (7 * t) + 2 = nI (7 * t + 2) from nI_add _ 2]
  refine pm_sld dL_law_1209 (th_in (by omega) (by omega)) ?_
  refine pm_aload_n dL_law_1210 rfl rfl ?_
  refine pm_iload_n dL_law_1211 rfl rfl ?_
  refine pm_iconst (v := 3) dL_law_1212 (by decide) ?_
  refine pm_iadd dL_law_1213 ?_
  rw [show nI (7 * t) + 3 = nI (7 * t + 3) from nI_add _ 3]
  refine pm_sld dL_law_1214 (th_in (by omega) (by omega)) ?_
  refine pm_callV (M2 := m_X12_run) (As := [_, _, _]) ok_X12_run (ci := 12) rfl kw_1343 kw_1344 kw_1345 dL_law_1215 rfl rfl rfl (Nat.le_of_ble_eq_true rfl) ⟨⟨Nat.le_of_ble_eq_true rfl, Nat.le_of_ble_eq_true rfl⟩, (show cs + 0 + 0 ≤ 600000 by omega), (show ss + 0 + 0 ≤ 7302250 by omega)⟩ ?_
  refine c_X12_run ?_
  refine pm_icmp_eq (tgt := 1286) dL_law_1218 (by decide) (fun c_1218 => ?_) (fun c_1218 => absurd (rfl) c_1218)
  exact kk ad S A X Y F Hd Cs s B hs (cs + 0 + 0) (ss + 0 + 0) (hV) (by omega) (by omega)

set_option maxHeartbeats 600000 in
set_option maxRecDepth 100000 in
theorem lw_c29 {l : Launch} {G : pm_G} {ad : Nat → Nat → Nat} {S : Nat → Nat} {A : Nat → Nat → Int32} {X : Nat → Int32} {Y : Nat → Nat → Int32} {F : Nat → Int64} {Hd Cs : Nat → Option Nat} {s : Nat → Int32} {B : Nat → Nat → Int32} {hs : Int64} {Q : pm_T} {t cs ss : Nat} (hV : th_V ad S A Y Cs) (hL : 7 * t + 7 ≤ G.2.2.2.2.1) (hL2 : G.2.2.2.2.1 ≤ 448) (hcs : cs ≤ 1000) (hss : ss ≤ 10000) (kk : ∀ ad2 S2 A2 X2 Y2 F2 Hd2 Cs2 s2 B2 hs2 cs2 ss2, th_V ad2 S2 A2 Y2 Cs2 → cs2 ≤ cs + 1 → ss2 ≤ ss + 13 → pm_W l G m_law ad2 1286 [(3, .int (nI (7 * t))), (2, .ref (ad2 8 0)), (1, .ref (ad2 0 0)), (0, .ref G.2.2.2.1)] [] (th_cw ad2 S2 A2 X2 Y2 F2 Hd2 Cs2 (th_mp ad2 S2 A2 s2 B2 hs2)) cs2 ss2 Q) : pm_W l G m_law ad 1223 [(3, .int (nI (7 * t))), (2, .ref (ad 8 0)), (1, .ref (ad 0 0)), (0, .ref G.2.2.2.1)] [] (th_cw ad S A X Y F Hd Cs (th_mp ad S A s B hs)) cs ss Q := by
  refine pm_aload_n dL_law_1223 rfl rfl ?_
  refine pm_callV (M2 := m_X11_image) (As := []) ok_X11_image (ci := 11) rfl kw_869 kw_870 kw_871 dL_law_1224 rfl rfl rfl (Nat.le_of_ble_eq_true rfl) ⟨⟨Nat.le_of_ble_eq_true rfl, Nat.le_of_ble_eq_true rfl⟩, (show cs + 0 ≤ 600000 by omega), (show ss + 0 ≤ 7302250 by omega)⟩ ?_
  refine c_X11_image hV.1 (fun a b c d hk => ?_)
  refine pm_aload_n dL_law_1227 rfl rfl ?_
  refine pm_callV (M2 := m_X12_image) (As := []) ok_X12_image (ci := 12) rfl kw_1347 kw_1348 kw_1349 dL_law_1228 rfl rfl rfl (Nat.le_of_ble_eq_true rfl) ⟨⟨Nat.le_of_ble_eq_true rfl, Nat.le_of_ble_eq_true rfl⟩, (show cs + 0 + 0 ≤ 600000 by omega), (show ss + 0 + 0 ≤ 7302250 by omega)⟩ ?_
  refine c_X12_image hV.1 (fun tt u ht hu => ?_)
  refine pm_icmp_eq (tgt := 1286) dL_law_1231 (by decide) (fun c_1231 => ?_) (fun c_1231 => absurd (rfl) c_1231)
  exact kk ad (th_imS S) (va_up (va_up A 22 tt) 23 u) X (va_up (va_up (va_up (va_up Y 20 a) 21 b) 22 c) 23 d) F Hd Cs s B hs (cs + 0 + 0) (ss + 0 + 0) (th_V_image hV hk ht hu) (by omega) (by omega)

set_option maxHeartbeats 600000 in
set_option maxRecDepth 100000 in
theorem lw_c30 {l : Launch} {G : pm_G} {ad : Nat → Nat → Nat} {S : Nat → Nat} {A : Nat → Nat → Int32} {X : Nat → Int32} {Y : Nat → Nat → Int32} {F : Nat → Int64} {Hd Cs : Nat → Option Nat} {s : Nat → Int32} {B : Nat → Nat → Int32} {hs : Int64} {Q : pm_T} {t cs ss : Nat} (hV : th_V ad S A Y Cs) (hL : 7 * t + 7 ≤ G.2.2.2.2.1) (hL2 : G.2.2.2.2.1 ≤ 448) (hcs : cs ≤ 1000) (hss : ss ≤ 10000) (kk : ∀ ad2 S2 A2 X2 Y2 F2 Hd2 Cs2 s2 B2 hs2 cs2 ss2, th_V ad2 S2 A2 Y2 Cs2 → cs2 ≤ cs + 1 → ss2 ≤ ss + 13 → pm_W l G m_law ad2 1286 [(3, .int (nI (7 * t))), (2, .ref (ad2 8 0)), (1, .ref (ad2 0 0)), (0, .ref G.2.2.2.1)] [] (th_cw ad2 S2 A2 X2 Y2 F2 Hd2 Cs2 (th_mp ad2 S2 A2 s2 B2 hs2)) cs2 ss2 Q) : pm_W l G m_law ad 1236 [(3, .int (nI (7 * t))), (2, .ref (ad 8 0)), (1, .ref (ad 0 0)), (0, .ref G.2.2.2.1)] [] (th_cw ad S A X Y F Hd Cs (th_mp ad S A s B hs)) cs ss Q := by
  refine pm_aload_n dL_law_1236 rfl rfl ?_
  refine pm_callV (M2 := m_X11_restore) (As := []) ok_X11_restore (ci := 11) rfl kw_886 kw_887 kw_888 dL_law_1237 rfl rfl rfl (Nat.le_of_ble_eq_true rfl) ⟨⟨Nat.le_of_ble_eq_true rfl, Nat.le_of_ble_eq_true rfl⟩, (show cs + 0 ≤ 600000 by omega), (show ss + 0 ≤ 7302250 by omega)⟩ ?_
  refine c_X11_restore hV.1 hV.2 ?_
  refine pm_aload_n dL_law_1240 rfl rfl ?_
  refine pm_callV (M2 := m_X12_restore) (As := []) ok_X12_restore (ci := 12) rfl kw_1351 kw_1352 kw_1353 dL_law_1241 rfl rfl rfl (Nat.le_of_ble_eq_true rfl) ⟨⟨Nat.le_of_ble_eq_true rfl, Nat.le_of_ble_eq_true rfl⟩, (show cs + 0 + 0 ≤ 600000 by omega), (show ss + 0 + 0 ≤ 7302250 by omega)⟩ ?_
  refine c_X12_restore hV.1 ?_
  refine pm_icmp_eq (tgt := 1286) dL_law_1244 (by decide) (fun c_1244 => ?_) (fun c_1244 => absurd (rfl) c_1244)
  exact kk ad (th_rsS S) (th_rsA S A) X Y F Hd Cs s B hs (cs + 0 + 0) (ss + 0 + 0) (th_V_restore hV) (by omega) (by omega)

set_option maxHeartbeats 600000 in
set_option maxRecDepth 100000 in
theorem lw_c31 {l : Launch} {G : pm_G} {ad : Nat → Nat → Nat} {S : Nat → Nat} {A : Nat → Nat → Int32} {X : Nat → Int32} {Y : Nat → Nat → Int32} {F : Nat → Int64} {Hd Cs : Nat → Option Nat} {s : Nat → Int32} {B : Nat → Nat → Int32} {hs : Int64} {Q : pm_T} {t cs ss : Nat} (hV : th_V ad S A Y Cs) (hL : 7 * t + 7 ≤ G.2.2.2.2.1) (hL2 : G.2.2.2.2.1 ≤ 448) (hcs : cs ≤ 1000) (hss : ss ≤ 10000) (kk : ∀ ad2 S2 A2 X2 Y2 F2 Hd2 Cs2 s2 B2 hs2 cs2 ss2, th_V ad2 S2 A2 Y2 Cs2 → cs2 ≤ cs + 1 → ss2 ≤ ss + 13 → pm_W l G m_law ad2 1286 [(3, .int (nI (7 * t))), (2, .ref (ad2 8 0)), (1, .ref (ad2 0 0)), (0, .ref G.2.2.2.1)] [] (th_cw ad2 S2 A2 X2 Y2 F2 Hd2 Cs2 (th_mp ad2 S2 A2 s2 B2 hs2)) cs2 ss2 Q) : pm_W l G m_law ad 1249 [(3, .int (nI (7 * t))), (2, .ref (ad 8 0)), (1, .ref (ad 0 0)), (0, .ref G.2.2.2.1)] [] (th_cw ad S A X Y F Hd Cs (th_mp ad S A s B hs)) cs ss Q := by
  refine pm_aload_n dL_law_1249 rfl rfl ?_
  refine pm_aload_n dL_law_1250 rfl rfl ?_
  refine pm_iload_n dL_law_1251 rfl rfl ?_
  refine pm_iconst (v := 1) dL_law_1252 (by decide) ?_
  refine pm_iadd dL_law_1253 ?_
  rw [show nI (7 * t) + 1 = nI (7 * t + 1) from nI_add _ 1]
  refine pm_sld dL_law_1254 (th_in (by omega) (by omega)) ?_
  refine pm_callV (M2 := m_X11_count) (As := [_]) ok_X11_count (ci := 11) rfl kw_903 kw_904 kw_905 dL_law_1255 rfl rfl rfl (Nat.le_of_ble_eq_true rfl) ⟨⟨Nat.le_of_ble_eq_true rfl, Nat.le_of_ble_eq_true rfl⟩, (show cs + 0 ≤ 600000 by omega), (show ss + 0 ≤ 7302250 by omega)⟩ ?_
  refine c_X11_count hV.1 ?_
  refine pm_aload_n dL_law_1258 rfl rfl ?_
  refine pm_aload_n dL_law_1259 rfl rfl ?_
  refine pm_iload_n dL_law_1260 rfl rfl ?_
  refine pm_iconst (v := 1) dL_law_1261 (by decide) ?_
  refine pm_iadd dL_law_1262 ?_
  rw [show nI (7 * t) + 1 = nI (7 * t + 1) from nI_add _ 1]
  refine pm_sld dL_law_1263 (th_in (by omega) (by omega)) ?_
  refine pm_callV (M2 := m_X12_count) (As := [_]) ok_X12_count (ci := 12) rfl kw_1355 kw_1356 kw_1357 dL_law_1264 rfl rfl rfl (Nat.le_of_ble_eq_true rfl) ⟨⟨Nat.le_of_ble_eq_true rfl, Nat.le_of_ble_eq_true rfl⟩, (show cs + 0 + 0 ≤ 600000 by omega), (show ss + 0 + 0 ≤ 7302250 by omega)⟩ ?_
  refine c_X12_count hV.1 ?_
  refine pm_icmp_eq (tgt := 1286) dL_law_1267 (by decide) (fun c_1267 => ?_) (fun c_1267 => absurd (rfl) c_1267)
  exact kk ad S A X Y F Hd Cs s B hs (cs + 0 + 0) (ss + 0 + 0) (hV) (by omega) (by omega)

set_option maxHeartbeats 600000 in
set_option maxRecDepth 100000 in
theorem lw_c32 {l : Launch} {G : pm_G} {ad : Nat → Nat → Nat} {S : Nat → Nat} {A : Nat → Nat → Int32} {X : Nat → Int32} {Y : Nat → Nat → Int32} {F : Nat → Int64} {Hd Cs : Nat → Option Nat} {s : Nat → Int32} {B : Nat → Nat → Int32} {hs : Int64} {Q : pm_T} {t cs ss : Nat} (hV : th_V ad S A Y Cs) (hL : 7 * t + 7 ≤ G.2.2.2.2.1) (hL2 : G.2.2.2.2.1 ≤ 448) (hcs : cs ≤ 1000) (hss : ss ≤ 10000) (kk : ∀ ad2 S2 A2 X2 Y2 F2 Hd2 Cs2 s2 B2 hs2 cs2 ss2, th_V ad2 S2 A2 Y2 Cs2 → cs2 ≤ cs + 1 → ss2 ≤ ss + 13 → pm_W l G m_law ad2 1286 [(3, .int (nI (7 * t))), (2, .ref (ad2 8 0)), (1, .ref (ad2 0 0)), (0, .ref G.2.2.2.1)] [] (th_cw ad2 S2 A2 X2 Y2 F2 Hd2 Cs2 (th_mp ad2 S2 A2 s2 B2 hs2)) cs2 ss2 Q) : pm_W l G m_law ad 1272 [(3, .int (nI (7 * t))), (2, .ref (ad 8 0)), (1, .ref (ad 0 0)), (0, .ref G.2.2.2.1)] [] (th_cw ad S A X Y F Hd Cs (th_mp ad S A s B hs)) cs ss Q := by
  refine pm_aload_n dL_law_1272 rfl rfl ?_
  refine pm_callV (M2 := m_X11_digest) (As := []) ok_X11_digest (ci := 11) rfl kw_915 kw_916 kw_917 dL_law_1273 rfl rfl rfl (Nat.le_of_ble_eq_true rfl) ⟨⟨Nat.le_of_ble_eq_true rfl, Nat.le_of_ble_eq_true rfl⟩, (show cs + 0 ≤ 600000 by omega), (show ss + 0 ≤ 7302250 by omega)⟩ ?_
  refine c_X11_digest hV.1 hV.2 (fun X2 ty => ?_)
  refine pm_aload_n dL_law_1276 rfl rfl ?_
  refine pm_callV (M2 := m_X12_digest) (As := []) ok_X12_digest (ci := 12) rfl kw_1363 kw_1364 kw_1365 dL_law_1277 rfl rfl rfl (Nat.le_of_ble_eq_true rfl) ⟨⟨Nat.le_of_ble_eq_true rfl, Nat.le_of_ble_eq_true rfl⟩, (show cs + 0 + 0 ≤ 600000 by omega), (show ss + 0 + 0 ≤ 7302250 by omega)⟩ ?_
  refine c_X12_digest hV.1 (fun s2 B2 h2 => ?_)
  refine pm_lcmp dL_law_1280 ?_
  refine pm_if_eq (tgt := 1286) dL_law_1281 (by decide) (fun c_1281 => ?_) (fun c_1281 => absurd (th_eq.mpr rfl) c_1281)
  exact kk ad S A X2 (va_up Y 4 ty) F Hd Cs s2 B2 h2 (cs + 0 + 0) (ss + 0 + 0) (hV) (by omega) (by omega)

set_option maxHeartbeats 600000 in
set_option maxRecDepth 100000 in
theorem g_lw1286 {l : Launch} {G : pm_G} {ad : Nat → Nat → Nat} {w : pm_V} {Q : pm_T} {t cs ss : Nat} (k : pm_W l G m_law ad 18 [(3, .int (nI (7 * (t + 1)))), (2, .ref (ad 8 0)), (1, .ref (ad 0 0)), (0, .ref G.2.2.2.1)] [] w cs ss Q) : pm_W l G m_law ad 1286 [(3, .int (nI (7 * t))), (2, .ref (ad 8 0)), (1, .ref (ad 0 0)), (0, .ref G.2.2.2.1)] [] w cs ss Q := by
  refine pm_iinc (lv2 := [(3, _), (2, _), (1, _), (0, _)]) dL_law_1286 rfl (show nI (7 * t) + 7 = nI (7 * (t + 1)) from nI_add _ 7) (Nat.le_of_ble_eq_true rfl) rfl ?_
  refine pm_goto (tgt := 18) dL_law_1289 (by decide) ?_
  exact k

set_option maxHeartbeats 600000 in
set_option maxRecDepth 100000 in
theorem g_loop {l : Launch} {G : pm_G} {Q : pm_T} (hL2 : G.2.2.2.2.1 ≤ 448) (hQ : ∀ ad w, Q ad (some (.int 1)) w) : ∀ t, t ≤ 64 → ∀ ad S A X Y F Hd Cs s B hs cs ss, th_V ad S A Y Cs → cs ≤ 46 + t → ss ≤ 630 + 13 * t → pm_W l G m_law ad 18 [(3, .int (nI (7 * t))), (2, .ref (ad 8 0)), (1, .ref (ad 0 0)), (0, .ref G.2.2.2.1)] [] (th_cw ad S A X Y F Hd Cs (th_mp ad S A s B hs)) cs ss Q := by
  refine th_loop _ ?_
  intro t ht kk ad S A X Y F Hd Cs s B hs cs ss hV hcs hss
  refine pm_iload_n dL_law_18 rfl rfl ?_
  refine pm_aload_n dL_law_19 rfl rfl ?_
  refine pm_slen dL_law_20 ?_
  refine pm_bipush (v := 7) dL_law_21 (by decide) ?_
  refine pm_isub dL_law_23 ?_
  refine pm_icmp_gt (tgt := 1292) dL_law_24 (by decide) (fun c_24 => ?_) (fun c_24 => ?_)
  · refine pm_wide (k := 600000) (n := 7302250) (by omega) (by omega) ?_
    refine pm_iconst (v := 1) dL_law_1292 (by decide) ?_
    refine pm_zret dL_law_1293 rfl rfl rfl rfl ?_
    exact hQ ad _
  · have hL : 7 * t + 7 ≤ G.2.2.2.2.1 := by
      have h := Int32.not_lt.mp c_24
      rw [Int32.le_iff_toInt_le, nI_toInt (by omega), show nI G.2.2.2.2.1 - 7 = nI G.2.2.2.2.1 - nI 7 from rfl, pk_sub_toInt (by omega) (by decide)] at h
      omega
    have ht2 : t < 64 := by omega
    have kn : ∀ ad2 S2 A2 X2 Y2 F2 Hd2 Cs2 s2 B2 hs2 cs2 ss2, th_V ad2 S2 A2 Y2 Cs2 → cs2 ≤ cs + 1 → ss2 ≤ ss + 13 → pm_W l G m_law ad2 1286 [(3, .int (nI (7 * t))), (2, .ref (ad2 8 0)), (1, .ref (ad2 0 0)), (0, .ref G.2.2.2.1)] [] (th_cw ad2 S2 A2 X2 Y2 F2 Hd2 Cs2 (th_mp ad2 S2 A2 s2 B2 hs2)) cs2 ss2 Q := by
      intro ad2 S2 A2 X2 Y2 F2 Hd2 Cs2 s2 B2 hs2 cs2 ss2 hV2 h1 h2
      exact g_lw1286 (kk ht2 ad2 S2 A2 X2 Y2 F2 Hd2 Cs2 s2 B2 hs2 cs2 ss2 hV2 (by omega) (by omega))
    refine pm_aload_n dL_law_27 rfl rfl ?_
    refine pm_iload_n dL_law_28 rfl rfl ?_
    refine pm_sld dL_law_29 (th_in (by omega) (by omega)) ?_
    refine pm_bipush (v := 63) dL_law_30 (by decide) ?_
    refine pm_iand dL_law_32 ?_
    generalize (G.2.2.2.2.2 (Int32.toNatClampNeg (nI (7 * t))) &&& 63 : Int32) = z
    by_cases s_33_0 : z = 0
    · refine pm_tableIn (off := 147) (tgt := 180) dL_law_33 (by rw [s_33_0]; decide) (by rw [s_33_0]; decide) (by rw [s_33_0]; decide) (by decide) ?_
      exact lw_c0 hV hL hL2 (by omega) (by omega) kn
    · skip
      by_cases s_33_1 : z = 1
      · refine pm_tableIn (off := 200) (tgt := 233) dL_law_33 (by rw [s_33_1]; decide) (by rw [s_33_1]; decide) (by rw [s_33_1]; decide) (by decide) ?_
        exact lw_c1 hV hL hL2 (by omega) (by omega) kn
      · skip
        by_cases s_33_2 : z = 2
        · refine pm_tableIn (off := 213) (tgt := 246) dL_law_33 (by rw [s_33_2]; decide) (by rw [s_33_2]; decide) (by rw [s_33_2]; decide) (by decide) ?_
          exact lw_c2 hV hL hL2 (by omega) (by omega) kn
        · skip
          by_cases s_33_3 : z = 3
          · refine pm_tableIn (off := 226) (tgt := 259) dL_law_33 (by rw [s_33_3]; decide) (by rw [s_33_3]; decide) (by rw [s_33_3]; decide) (by decide) ?_
            exact lw_c3 hV hL hL2 (by omega) (by omega) kn
          · skip
            by_cases s_33_4 : z = 4
            · refine pm_tableIn (off := 239) (tgt := 272) dL_law_33 (by rw [s_33_4]; decide) (by rw [s_33_4]; decide) (by rw [s_33_4]; decide) (by decide) ?_
              exact lw_c4 hV hL hL2 (by omega) (by omega) kn
            · skip
              by_cases s_33_5 : z = 5
              · refine pm_tableIn (off := 282) (tgt := 315) dL_law_33 (by rw [s_33_5]; decide) (by rw [s_33_5]; decide) (by rw [s_33_5]; decide) (by decide) ?_
                exact lw_c5 hV hL hL2 (by omega) (by omega) kn
              · skip
                by_cases s_33_6 : z = 6
                · refine pm_tableIn (off := 305) (tgt := 338) dL_law_33 (by rw [s_33_6]; decide) (by rw [s_33_6]; decide) (by rw [s_33_6]; decide) (by decide) ?_
                  exact lw_c6 hV hL hL2 (by omega) (by omega) kn
                · skip
                  by_cases s_33_7 : z = 7
                  · refine pm_tableIn (off := 368) (tgt := 401) dL_law_33 (by rw [s_33_7]; decide) (by rw [s_33_7]; decide) (by rw [s_33_7]; decide) (by decide) ?_
                    exact lw_c7 hV hL hL2 (by omega) (by omega) kn
                  · skip
                    by_cases s_33_8 : z = 8
                    · refine pm_tableIn (off := 401) (tgt := 434) dL_law_33 (by rw [s_33_8]; decide) (by rw [s_33_8]; decide) (by rw [s_33_8]; decide) (by decide) ?_
                      exact lw_c8 hV hL hL2 (by omega) (by omega) kn
                    · skip
                      by_cases s_33_9 : z = 9
                      · refine pm_tableIn (off := 434) (tgt := 467) dL_law_33 (by rw [s_33_9]; decide) (by rw [s_33_9]; decide) (by rw [s_33_9]; decide) (by decide) ?_
                        exact lw_c9 hV hL hL2 (by omega) (by omega) kn
                      · skip
                        by_cases s_33_10 : z = 10
                        · refine pm_tableIn (off := 467) (tgt := 500) dL_law_33 (by rw [s_33_10]; decide) (by rw [s_33_10]; decide) (by rw [s_33_10]; decide) (by decide) ?_
                          exact lw_c10 hV hL hL2 (by omega) (by omega) kn
                        · skip
                          by_cases s_33_11 : z = 11
                          · refine pm_tableIn (off := 510) (tgt := 543) dL_law_33 (by rw [s_33_11]; decide) (by rw [s_33_11]; decide) (by rw [s_33_11]; decide) (by decide) ?_
                            exact lw_c11 hV hL hL2 (by omega) (by omega) kn
                          · skip
                            by_cases s_33_12 : z = 12
                            · refine pm_tableIn (off := 563) (tgt := 596) dL_law_33 (by rw [s_33_12]; decide) (by rw [s_33_12]; decide) (by rw [s_33_12]; decide) (by decide) ?_
                              exact lw_c12 hV hL hL2 (by omega) (by omega) kn
                            · skip
                              by_cases s_33_13 : z = 13
                              · refine pm_tableIn (off := 596) (tgt := 629) dL_law_33 (by rw [s_33_13]; decide) (by rw [s_33_13]; decide) (by rw [s_33_13]; decide) (by decide) ?_
                                exact lw_c13 hV hL hL2 (by omega) (by omega) kn
                              · skip
                                by_cases s_33_14 : z = 14
                                · refine pm_tableIn (off := 629) (tgt := 662) dL_law_33 (by rw [s_33_14]; decide) (by rw [s_33_14]; decide) (by rw [s_33_14]; decide) (by decide) ?_
                                  exact lw_c14 hV hL hL2 (by omega) (by omega) kn
                                · skip
                                  by_cases s_33_15 : z = 15
                                  · refine pm_tableIn (off := 662) (tgt := 695) dL_law_33 (by rw [s_33_15]; decide) (by rw [s_33_15]; decide) (by rw [s_33_15]; decide) (by decide) ?_
                                    exact lw_c15 hV hL hL2 (by omega) (by omega) kn
                                  · skip
                                    by_cases s_33_16 : z = 16
                                    · refine pm_tableIn (off := 695) (tgt := 728) dL_law_33 (by rw [s_33_16]; decide) (by rw [s_33_16]; decide) (by rw [s_33_16]; decide) (by decide) ?_
                                      exact lw_c16 hV hL hL2 (by omega) (by omega) kn
                                    · skip
                                      by_cases s_33_17 : z = 17
                                      · refine pm_tableIn (off := 718) (tgt := 751) dL_law_33 (by rw [s_33_17]; decide) (by rw [s_33_17]; decide) (by rw [s_33_17]; decide) (by decide) ?_
                                        exact lw_c17 hV hL hL2 (by omega) (by omega) kn
                                      · skip
                                        by_cases s_33_18 : z = 18
                                        · refine pm_tableIn (off := 751) (tgt := 784) dL_law_33 (by rw [s_33_18]; decide) (by rw [s_33_18]; decide) (by rw [s_33_18]; decide) (by decide) ?_
                                          exact lw_c18 hV hL hL2 (by omega) (by omega) kn
                                        · skip
                                          by_cases s_33_19 : z = 19
                                          · refine pm_tableIn (off := 774) (tgt := 807) dL_law_33 (by rw [s_33_19]; decide) (by rw [s_33_19]; decide) (by rw [s_33_19]; decide) (by decide) ?_
                                            exact lw_c19 hV hL hL2 (by omega) (by omega) kn
                                          · skip
                                            by_cases s_33_20 : z = 20
                                            · refine pm_tableIn (off := 808) (tgt := 841) dL_law_33 (by rw [s_33_20]; decide) (by rw [s_33_20]; decide) (by rw [s_33_20]; decide) (by decide) ?_
                                              exact lw_c20 hV hL hL2 (by omega) (by omega) kn
                                            · skip
                                              by_cases s_33_21 : z = 21
                                              · refine pm_tableIn (off := 852) (tgt := 885) dL_law_33 (by rw [s_33_21]; decide) (by rw [s_33_21]; decide) (by rw [s_33_21]; decide) (by decide) ?_
                                                exact lw_c21 hV hL hL2 (by omega) (by omega) kn
                                              · skip
                                                by_cases s_33_22 : z = 22
                                                · refine pm_tableIn (off := 896) (tgt := 929) dL_law_33 (by rw [s_33_22]; decide) (by rw [s_33_22]; decide) (by rw [s_33_22]; decide) (by decide) ?_
                                                  exact lw_c22 hV hL hL2 (by omega) (by omega) kn
                                                · skip
                                                  by_cases s_33_23 : z = 23
                                                  · refine pm_tableIn (off := 939) (tgt := 972) dL_law_33 (by rw [s_33_23]; decide) (by rw [s_33_23]; decide) (by rw [s_33_23]; decide) (by decide) ?_
                                                    exact lw_c23 hV hL hL2 (by omega) (by omega) kn
                                                  · skip
                                                    by_cases s_33_24 : z = 24
                                                    · refine pm_tableIn (off := 952) (tgt := 985) dL_law_33 (by rw [s_33_24]; decide) (by rw [s_33_24]; decide) (by rw [s_33_24]; decide) (by decide) ?_
                                                      exact lw_c24 hV hL hL2 (by omega) (by omega) kn
                                                    · skip
                                                      by_cases s_33_25 : z = 25
                                                      · refine pm_tableIn (off := 996) (tgt := 1029) dL_law_33 (by rw [s_33_25]; decide) (by rw [s_33_25]; decide) (by rw [s_33_25]; decide) (by decide) ?_
                                                        exact lw_c25 hV hL hL2 (by omega) (by omega) kn
                                                      · skip
                                                        by_cases s_33_26 : z = 26
                                                        · refine pm_tableIn (off := 1019) (tgt := 1052) dL_law_33 (by rw [s_33_26]; decide) (by rw [s_33_26]; decide) (by rw [s_33_26]; decide) (by decide) ?_
                                                          exact lw_c26 hV hL hL2 (by omega) (by omega) kn
                                                        · skip
                                                          by_cases s_33_27 : z = 27
                                                          · refine pm_tableIn (off := 1094) (tgt := 1127) dL_law_33 (by rw [s_33_27]; decide) (by rw [s_33_27]; decide) (by rw [s_33_27]; decide) (by decide) ?_
                                                            exact lw_c27 hV hL hL2 (by omega) (by omega) kn
                                                          · skip
                                                            by_cases s_33_28 : z = 28
                                                            · refine pm_tableIn (off := 1147) (tgt := 1180) dL_law_33 (by rw [s_33_28]; decide) (by rw [s_33_28]; decide) (by rw [s_33_28]; decide) (by decide) ?_
                                                              exact lw_c28 hV hL hL2 (by omega) (by omega) kn
                                                            · skip
                                                              by_cases s_33_29 : z = 29
                                                              · refine pm_tableIn (off := 1190) (tgt := 1223) dL_law_33 (by rw [s_33_29]; decide) (by rw [s_33_29]; decide) (by rw [s_33_29]; decide) (by decide) ?_
                                                                exact lw_c29 hV hL hL2 (by omega) (by omega) kn
                                                              · skip
                                                                by_cases s_33_30 : z = 30
                                                                · refine pm_tableIn (off := 1203) (tgt := 1236) dL_law_33 (by rw [s_33_30]; decide) (by rw [s_33_30]; decide) (by rw [s_33_30]; decide) (by decide) ?_
                                                                  exact lw_c30 hV hL hL2 (by omega) (by omega) kn
                                                                · skip
                                                                  by_cases s_33_31 : z = 31
                                                                  · refine pm_tableIn (off := 1216) (tgt := 1249) dL_law_33 (by rw [s_33_31]; decide) (by rw [s_33_31]; decide) (by rw [s_33_31]; decide) (by decide) ?_
                                                                    exact lw_c31 hV hL hL2 (by omega) (by omega) kn
                                                                  · skip
                                                                    by_cases s_33_32 : z = 32
                                                                    · refine pm_tableIn (off := 1239) (tgt := 1272) dL_law_33 (by rw [s_33_32]; decide) (by rw [s_33_32]; decide) (by rw [s_33_32]; decide) (by decide) ?_
                                                                      exact lw_c32 hV hL hL2 (by omega) (by omega) kn
                                                                    · skip
                                                                      refine pm_tableOut (tgt := 1286) dL_law_33 (by have q0 := th_ne s_33_0 (z := 0) (by decide); have q1 := th_ne s_33_1 (z := 1) (by decide); have q2 := th_ne s_33_2 (z := 2) (by decide); have q3 := th_ne s_33_3 (z := 3) (by decide); have q4 := th_ne s_33_4 (z := 4) (by decide); have q5 := th_ne s_33_5 (z := 5) (by decide); have q6 := th_ne s_33_6 (z := 6) (by decide); have q7 := th_ne s_33_7 (z := 7) (by decide); have q8 := th_ne s_33_8 (z := 8) (by decide); have q9 := th_ne s_33_9 (z := 9) (by decide); have q10 := th_ne s_33_10 (z := 10) (by decide); have q11 := th_ne s_33_11 (z := 11) (by decide); have q12 := th_ne s_33_12 (z := 12) (by decide); have q13 := th_ne s_33_13 (z := 13) (by decide); have q14 := th_ne s_33_14 (z := 14) (by decide); have q15 := th_ne s_33_15 (z := 15) (by decide); have q16 := th_ne s_33_16 (z := 16) (by decide); have q17 := th_ne s_33_17 (z := 17) (by decide); have q18 := th_ne s_33_18 (z := 18) (by decide); have q19 := th_ne s_33_19 (z := 19) (by decide); have q20 := th_ne s_33_20 (z := 20) (by decide); have q21 := th_ne s_33_21 (z := 21) (by decide); have q22 := th_ne s_33_22 (z := 22) (by decide); have q23 := th_ne s_33_23 (z := 23) (by decide); have q24 := th_ne s_33_24 (z := 24) (by decide); have q25 := th_ne s_33_25 (z := 25) (by decide); have q26 := th_ne s_33_26 (z := 26) (by decide); have q27 := th_ne s_33_27 (z := 27) (by decide); have q28 := th_ne s_33_28 (z := 28) (by decide); have q29 := th_ne s_33_29 (z := 29) (by decide); have q30 := th_ne s_33_30 (z := 30) (by decide); have q31 := th_ne s_33_31 (z := 31) (by decide); have q32 := th_ne s_33_32 (z := 32) (by decide); omega) (by decide) ?_
                                                                      exact kn ad S A X Y F Hd Cs s B hs cs ss hV (by omega) (by omega)

set_option maxHeartbeats 600000 in
set_option maxRecDepth 100000 in
theorem g_start {l : Launch} {G : pm_G} {ad : Nat → Nat → Nat} {Q : pm_T} (hL2 : G.2.2.2.2.1 ≤ 448) (hQ : ∀ ad w, Q ad (some (.int 1)) w) : pm_W l G m_law ad 0 [(0, .ref G.2.2.2.1)] [] ([], (fun _ => none), (fun _ => none), [], [], [], [], [], []) 0 0 Q := by
  refine pm_new2 (g := 0) (k := 0) nw_RL_7 dL_law_0 (by decide) (by decide) (rfl) (pm_app0 rfl) (show 0 + 1 ≤ 600000 by decide) (show 0 + 12 ≤ 7302250 by decide) (fun b1 h1 => ?_)
  refine pm_dup dL_law_3 rfl ?_
  refine pm_callI (M2 := m_X11_init) (As := []) ok_X11_init rfl rfl kw_64 kw_65 dL_law_4 rfl rfl (Nat.le_of_ble_eq_true rfl) ⟨⟨Nat.le_of_ble_eq_true rfl, Nat.le_of_ble_eq_true rfl⟩, Nat.le_of_ble_eq_true rfl, Nat.le_of_ble_eq_true rfl⟩ ?_
  refine c_X11_init (fun b2 h2 => ?_)
  rw [← h2 0 0 (by decide) (by decide)]
  refine pm_astore_n (lv2 := [(1, _), (0, _)]) dL_law_7 rfl (Nat.le_of_ble_eq_true rfl) rfl ?_
  refine pm_new2 (g := 8) (k := 0) nw_RL_10 dL_law_8 (by decide) (by decide) (rfl) (pm_app8 (a8 := []) rfl) (Nat.le_of_ble_eq_true rfl) (Nat.le_of_ble_eq_true rfl) (fun b3 h3 => ?_)
  rw [← h3 0 0 (by decide)]
  refine pm_dup dL_law_11 rfl ?_
  refine pm_callI (M2 := m_X12_init) (As := []) ok_X12_init rfl rfl kw_954 kw_955 dL_law_12 rfl rfl (Nat.le_of_ble_eq_true rfl) ⟨⟨Nat.le_of_ble_eq_true rfl, Nat.le_of_ble_eq_true rfl⟩, Nat.le_of_ble_eq_true rfl, Nat.le_of_ble_eq_true rfl⟩ ?_
  refine c_X12_init (fun b4 h4 => ?_)
  rw [← h4 0 0 (by decide), ← h4 8 0 (by decide)]
  refine pm_astore_n (lv2 := [(2, _), (1, _), (0, _)]) dL_law_15 rfl (Nat.le_of_ble_eq_true rfl) rfl ?_
  refine pm_iconst (v := 0) dL_law_16 (by decide) ?_
  refine pm_istore_n (lv2 := [(3, _), (2, _), (1, _), (0, _)]) dL_law_17 rfl (Nat.le_of_ble_eq_true rfl) rfl ?_
  refine pm_pick [0, 1, 2, 3] rfl ?_
  have h := g_loop (l := l) hL2 hQ 0 (Nat.zero_le _) b4 (fun _ => 0) th_A0 (fun _ => 0) (fun _ _ => 0) (fun _ => 0) (fun _ => none) (fun _ => none) (fun _ => 0) (fun _ _ => 0) 0 44 608 (th_V_0 b4) (by decide) (by decide)
  have ho : ∀ g k, g ≤ 7 → b4 g k = b2 g k := fun g k hg => (h4 g k (fun z => by have := z.1; omega)).trans (h3 g k (fun z => by have := z.1; omega))
  have e1 : th_g1 (fun _ => 0) th_A0 = fun _ => none := funext fun j => if_neg (Nat.not_lt_zero j)
  have e2 : th_g2 b4 (fun _ => 0) th_A0 (fun _ _ => 0) = fun _ => none := funext fun j => if_neg (Nat.not_lt_zero j)
  have e0 : th_g0 b4 (fun _ => 0) (fun _ _ => 0) = th_g0 b2 (fun _ => 0) (fun _ _ => 0) := by
    unfold th_g0
    rw [ho 3 0 (by decide), ho 0 1 (by decide), ho 0 2 (by decide), ho 0 3 (by decide), ho 7 0 (by decide), ho 4 0 (by decide), ho 5 0 (by decide), ho 6 0 (by decide), th_rs_ad (ad := b2) (b := b4) (g := 1) (fun j hj => ho 1 j (by decide)), th_rs_ad (ad := b2) (b := b4) (g := 2) (fun j hj => ho 2 j (by decide))]
  have e3 : th_g3 b4 (fun _ => 0) th_A0 (fun _ => 0) (fun _ _ => 0) = th_g3 b2 (fun _ => 0) th_A0 (fun _ => 0) (fun _ _ => 0) := by
    unfold th_g3
    rw [ho 3 1 (by decide), ho 3 2 (by decide)]
  have e4 : th_g4 b4 (fun _ => 0) th_A0 (fun _ => 0) (fun _ _ => 0) = th_g4 b2 (fun _ => 0) th_A0 (fun _ => 0) (fun _ _ => 0) := by
    unfold th_g4
    rw [ho 4 1 (by decide), ho 4 2 (by decide), ho 4 3 (by decide), ho 4 4 (by decide)]
  have e5 : th_g5 b4 (fun _ => 0) (fun _ => 0) (fun _ => none) = th_g5 b2 (fun _ => 0) (fun _ => 0) (fun _ => none) := by
    unfold th_g5
    rw [ho 5 1 (by decide), ho 5 2 (by decide)]
  have e6 : th_g6 b4 (fun _ => 0) th_A0 (fun _ => none) = th_g6 b2 (fun _ => 0) th_A0 (fun _ => none) := by
    unfold th_g6
    rw [ho 6 1 (by decide), ho 6 2 (by decide), ho 6 3 (by decide)]
  rw [th_cw, e0, e1, e2, e3, e4, e5, e6] at h
  exact h

