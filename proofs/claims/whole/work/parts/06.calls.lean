section PM2
variable {l : Launch} {G : pm_G} {M : pm_M} {ad : Nat → Nat → Nat} {pc : Nat} {lv : List (Nat × Value)} {st rest : List Value} {w : pm_V} {cs ss : Nat} {Q : pm_T}
theorem pm_zast {g k n : Nat} {f : Nat → Int32} {i x : Int32} {w2 : pm_V} (hd : decode M.2.1 pc = .ok (.bastore, 1)) (hw : pm_get? w g k = some (.inl (2, n, .inl f))) (hin : vp_in i n) (h2 : pm_set w g k (.inl (2, n, .inl (upd f i.toNatClampNeg (vp_nar .boolean x)))) = w2) (kk : pm_W l G M ad (pc + 1) lv st w2 cs ss Q) : pm_W l G M ad pc lv (.int x :: .int i :: .ref (ad g k) :: st) w cs ss Q := fun p e s m args below meth c X H locs ls hR hS hl => (pm_E_mem hR hw).elim (fun q hq => va_zast X.1 X.2.1 X.2.2.2.2.2.2.2.2.1 (pm_E_P hR) (pm_E_D hR) hS q 2 hq rfl hin hd (fun H1 locs1 hP1 _ hS1 => kk p e s m args below meth c X H1 locs1 ls (h2 ▸ pm_R_set hR hw hq hP1) hS1 hl))
/-- a School into a row of Schools -/
theorem pm_aastS {g k g2 k2 n : Nat} {f : Nat → Option Nat} {i : Int32} {vs : List Value} {w2 : pm_V} (hd : decode M.2.1 pc = .ok (.aastore, 1)) (hw : pm_get? w g k = some (.inl (3, n, .inr (.inr (.inr (.inr f)))))) (hv : pm_get? w g2 k2 = some (.inr (10, vs))) (hin : vp_in i n) (h2 : pm_set w g k (.inl (3, n, .inr (.inr (.inr (.inr (va_up f i.toNatClampNeg (some (ad g2 k2)))))))) = w2) (kk : pm_W l G M ad (pc + 1) lv st w2 cs ss Q) : pm_W l G M ad pc lv (.ref (ad g2 k2) :: .int i :: .ref (ad g k) :: st) w cs ss Q := by
  intro p e s m args below meth c X H locs ls hR hS hl
  obtain ⟨q, hq⟩ := pm_E_mem hR hw
  obtain ⟨q2, hq2⟩ := pm_E_mem hR hv
  exact va_astq (r := (RX10, TX10, 8)) X.1 X.2.1 X.2.2.2.2.2.2.2.2.1 (pm_E_P hR) (pm_E_D hR) hS q 3 q2 10 hq rfl hq2 rfl hin hd (fun H1 locs1 hP1 _ hS1 => kk p e s m args below meth c X H1 locs1 ls (h2 ▸ pm_R_set hR hw hq hP1) hS1 hl)
/-- a Nut of a kind into a row of Nuts -/
theorem pm_aastN {g k g2 k2 n ci : Nat} {f : Nat → Option Nat} {i : Int32} {vs : List Value} {w2 : pm_V} {r : vw_C} (hc : vwCl[ci]? = some r) (hca : r.1 = "ThirtyNine$Nut" ∨ Cond.castable r.1 "ThirtyNine$Nut" ∈ pm_nw) (hd : decode M.2.1 pc = .ok (.aastore, 1)) (hw : pm_get? w g k = some (.inl (4, n, .inr (.inr (.inr (.inr f)))))) (hv : pm_get? w g2 k2 = some (.inr (ci, vs))) (hin : vp_in i n) (h2 : pm_set w g k (.inl (4, n, .inr (.inr (.inr (.inr (va_up f i.toNatClampNeg (some (ad g2 k2)))))))) = w2) (kk : pm_W l G M ad (pc + 1) lv st w2 cs ss Q) : pm_W l G M ad pc lv (.ref (ad g2 k2) :: .int i :: .ref (ad g k) :: st) w cs ss Q := by
  intro p e s m args below meth c X H locs ls hR hS hl
  obtain ⟨q, hq⟩ := pm_E_mem hR hw
  obtain ⟨q2, hq2⟩ := pm_E_mem hR hv
  rcases hca with hca | hca
  · exact va_astq (r := r) X.1 X.2.1 X.2.2.2.2.2.2.2.2.1 (pm_E_P hR) (pm_E_D hR) hS q 4 q2 ci hq (by rw [hca]; rfl) hq2 hc hin hd (fun H1 locs1 hP1 _ hS1 => kk p e s m args below meth c X H1 locs1 ls (h2 ▸ pm_R_set hR hw hq hP1) hS1 hl)
  · exact va_astqO (r := r) (E := "ThirtyNine$Nut") X.1 X.2.1 X.2.2.2.2.2.2.2.2.1 (pm_E_P hR) (pm_E_D hR) hS q 4 q2 ci hq rfl (X.2.2.2.2.2.2.2.2.2.2.1.1 _ hca) hq2 hc hin hd (fun H1 locs1 hP1 _ hS1 => kk p e s m args below meth c X H1 locs1 ls (h2 ▸ pm_R_set hR hw hq hP1) hS1 hl)
theorem pm_tyk (G : pm_G) {t : Nat} (ht : t < 5) : ∃ ty, (pm_tys G)[t]? = some (G.2.1 t, ty) := by
  match t, ht with
  | 0, _ => exact ⟨_, rfl⟩
  | 1, _ => exact ⟨_, rfl⟩
  | 2, _ => exact ⟨_, rfl⟩
  | 3, _ => exact ⟨_, rfl⟩
  | 4, _ => exact ⟨_, rfl⟩
theorem pm_alen {g k t : Nat} {x : vp_A} (ht : t < 5) (hd : decode M.2.1 pc = .ok (.arraylength, 1)) (hw : pm_get? w g k = some (.inl (t, x))) (kk : pm_W l G M ad (pc + 1) lv (.int (nI x.1) :: st) w cs ss Q) : pm_W l G M ad pc lv (.ref (ad g k) :: st) w cs ss Q := by
  intro p e s m args below meth c X H locs ls hR hS hl
  obtain ⟨q, hq⟩ := pm_E_mem hR hw
  obtain ⟨ty, hty⟩ := pm_tyk G ht
  exact va_alen X.1 X.2.1 X.2.2.2.2.2.2.2.2.1 (pm_E_P hR) q t hq hty rfl hd (kk p e s m args below meth c X H locs ls hR hS hl)
theorem pm_sld {i : Int32} (hd : decode M.2.1 pc = .ok (.iaload, 1)) (hin : vp_in i G.2.2.2.2.1) (kk : pm_W l G M ad (pc + 1) lv (.int (G.2.2.2.2.2 i.toNatClampNeg) :: st) w cs ss Q) : pm_W l G M ad pc lv (.int i :: .ref G.2.2.2.1 :: st) w cs ss Q := by
  intro p e s m args below meth c X H locs ls hR hS hl
  obtain ⟨-, hB, -, hb, hx⟩ := X.2.2.2.2.2.2.2.2
  exact va_sld X.1 X.2.1 hx (Nat.lt_of_lt_of_le hb hB) (Nat.not_le.mpr hb) hS hin hd (kk p e s m args below meth c X H locs ls hR hS hl)
theorem pm_slen (hd : decode M.2.1 pc = .ok (.arraylength, 1)) (kk : pm_W l G M ad (pc + 1) lv (.int (nI G.2.2.2.2.1) :: st) w cs ss Q) : pm_W l G M ad pc lv (.ref G.2.2.2.1 :: st) w cs ss Q := by
  intro p e s m args below meth c X H locs ls hR hS hl
  obtain ⟨-, hB, -, hb, hx⟩ := X.2.2.2.2.2.2.2.2
  exact va_slen X.1 X.2.1 hx (Nat.lt_of_lt_of_le hb hB) (Nat.not_le.mpr hb) hS hd (kk p e s m args below meth c X H locs ls hR hS hl)
theorem pm_up {s : State} {args : Array Value} {p : Program} {m : MethodId} {meth : Method} {c : Code} (X : pm_X p G M s m args meth c) : ∀ q, s.heap.size ≤ q → pm_P G q := fun _ h => Nat.le_trans X.2.2.2.2.2.2.2.2.2.1 h
/-- new: an object -/
def pm_NW (own : String) (idx ci N : Nat) (fs : List Value) : Prop := ∃ (q : vw_C) (ty : Nat → FieldType), q.2.2 = N ∧ vwCl[ci]? = some q ∧ (∀ w ∈ u_ws q.1 q.2.1 q.2.2, w ∈ pm_tb) ∧ (∀ k, k < q.2.2 → parseFieldDescriptor (q.2.1 k).2.2.1 = some (ty k)) ∧ Cond.classLink own idx q.1 ∈ pm_tb ∧ Cond.instantiable q.1 q.2.2 ∈ pm_tb ∧ Cond.initialized q.1 ∈ pm_tb ∧ ∀ j, j < q.2.2 → defaultValue (ty j) = vp_V fs j
theorem pm_adk {ad : Nat → Nat → Nat} {g k q : Nat} : pm_ad ad g k q g k = q := if_pos ⟨rfl, rfl⟩
theorem pm_ado {ad : Nat → Nat → Nat} {g k q g2 k2 : Nat} (h : ¬ (g2 = g ∧ k2 = k)) : pm_ad ad g k q g2 k2 = ad g2 k2 := if_neg h
theorem pm_new {idx ci N g k : Nat} {fs : List Value} {w2 : pm_V} (hN : pm_NW M.1.cls idx ci N fs) (hd : decode M.2.1 pc = .ok (.new idx, 3)) (hg : g < 9) (hk : k < 64) (h0 : pm_get? w g k = none) (hw : ∀ g' k', pm_get? w2 g' k' = if g' = g ∧ k' = k then some (.inr (ci, fs)) else pm_get? w g' k') (hc : cs + 1 ≤ M.2.2.2.2.cells) (hs : ss + N ≤ M.2.2.2.2.slots)
    (kk : ∀ q, pm_W l G M (pm_ad ad g k q) (pc + 3) lv (.ref q :: st) w2 (cs + 1) (ss + N) Q) : pm_W l G M ad pc lv st w cs ss Q := by
  intro p e s m args below meth c X H locs ls hR hS hl
  obtain ⟨⟨C, T, N'⟩, ty, hNN, hc0, hin, hty, hcl, hinst, hini, hfs⟩ := hN
  cases hNN
  exact va_new X.1 X.2.1 X.2.2.2.2.2.1 hin ty hty X.2.2.2.2.1 (X.2.2.2.2.2.1 _ hcl) (X.2.2.2.2.2.1 _ hinst) (X.2.2.2.2.2.1 _ hini) X.2.2.2.2.2.2.2.2.1 (pm_E_P hR) (pm_E_D hR) hS (pm_up X) hc0 hfs hc hs hd (fun q H1 hP1 hD1 hS1 => kk q p e s m args below meth c X H1 locs ls (pm_R_new hR hg hk hw hP1 hD1 h0) hS1 hl)
theorem pm_RAu {s : State} {a b : ClassId} {ty : FieldType} (h1 : va_RA s a ty) (h2 : va_RA s b ty) : a = b := by
  cases ty with
  | object C =>
    obtain ⟨_, _, -, -, -, e1⟩ := h1
    obtain ⟨_, _, -, -, -, e2⟩ := h2
    exact Option.some.inj (e1.symm.trans e2)
  | _ => exact Option.some.inj (Eq.trans (Eq.symm h1) h2)
theorem pm_newa {atype : ArrayType} {ty : FieldType} {t N g k : Nat} {a0 : vp_A} {n : Int32} {w2 : pm_V} (hcl : Cond.arrayClass (newarray.typeOf atype) ∈ pm_tb) (hty : newarray.typeOf atype = ty) (ht : (pm_tys G)[t]? = some (G.2.1 t, ty)) (ha : ∀ cA : ClassId, vp_cell cA a0 = arrV cA N (fun _ => defaultValue ty)) (hn : ¬ n < 0) (hN : n.toNatClampNeg = N) (hby : N * componentBytes ty ≤ 536870912) (hd : decode M.2.1 pc = .ok (.newarray atype, 2)) (hg : g < 9) (hk : k < 64) (h0 : pm_get? w g k = none) (hw : ∀ g' k', pm_get? w2 g' k' = if g' = g ∧ k' = k then some (.inl (t, a0)) else pm_get? w g' k') (hc : cs + 1 ≤ M.2.2.2.2.cells) (hs : ss + N ≤ M.2.2.2.2.slots)
    (kk : ∀ q, pm_W l G M (pm_ad ad g k q) (pc + 2) lv (.ref q :: st) w2 (cs + 1) (ss + N) Q) : pm_W l G M ad pc lv (.int n :: st) w cs ss Q := by
  intro p e s m args below meth c X H locs ls hR hS hl
  refine va_newa X.1 X.2.1 (X.2.2.2.2.2.1 _ hcl) hty X.2.2.2.2.2.2.2.2.1 (pm_E_P hR) (pm_E_D hR) hS (pm_up X) ha hn hN hby hc hs hd (fun q cA H1 hK1 hP1 hD1 hS1 => ?_)
  have e1 : cA = G.2.1 t := pm_RAu (hK1.2 (pm_tys G).length (cA, ty) (by simp)).2 (X.2.2.2.2.2.2.2.2.1.2 t _ ht).2
  subst e1
  exact kk q p e s m args below meth c X H1 locs ls (pm_R_new hR hg hk hw hP1 hD1 h0) hS1 hl
theorem pm_newq {C : String} {idx t N g k : Nat} {n : Int32} {w2 : pm_V} (hcl : Cond.classLink M.1.cls idx C ∈ pm_tb) (ht : (t = 3 ∧ C = "ThirtyNine$School") ∨ (t = 4 ∧ C = "ThirtyNine$Nut")) (hn : ¬ n < 0) (hN : n.toNatClampNeg = N) (hby : N * 4 ≤ 536870912) (hd : decode M.2.1 pc = .ok (.anewarray idx, 3)) (hg : g < 9) (hk : k < 64) (h0 : pm_get? w g k = none) (hw : ∀ g' k', pm_get? w2 g' k' = if g' = g ∧ k' = k then some (.inl (t, N, .inr (.inr (.inr (.inr (fun _ => none)))))) else pm_get? w g' k') (hc : cs + 1 ≤ M.2.2.2.2.cells) (hs : ss + N ≤ M.2.2.2.2.slots)
    (kk : ∀ q, pm_W l G M (pm_ad ad g k q) (pc + 3) lv (.ref q :: st) w2 (cs + 1) (ss + N) Q) : pm_W l G M ad pc lv (.int n :: st) w cs ss Q := by
  intro p e s m args below meth c X H locs ls hR hS hl
  have hT : (pm_tys G)[t]? = some (G.2.1 t, .object C) := by rcases ht with ⟨rfl, rfl⟩ | ⟨rfl, rfl⟩ <;> rfl
  have hao : va_AO C s := by
    rcases ht with ⟨rfl, rfl⟩ | ⟨rfl, rfl⟩
    · exact X.2.2.2.2.2.2.2.2.2.2.1.2.1
    · exact X.2.2.2.2.2.2.2.2.2.2.1.2.2.1
  refine va_newq X.1 X.2.1 X.2.2.2.2.1 (X.2.2.2.2.2.1 _ hcl) hao X.2.2.2.2.2.2.2.2.1 (pm_E_P hR) (pm_E_D hR) hS (pm_up X) hn hN hby hc hs hd (fun q cA H1 hK1 hP1 hD1 hS1 => ?_)
  have e1 : cA = G.2.1 t := pm_RAu (hK1.2 (pm_tys G).length (cA, .object C) (by simp)).2 (X.2.2.2.2.2.2.2.2.1.2 t _ hT).2
  subst e1
  exact kk q p e s m args below meth c X H1 locs ls (pm_R_new hR hg hk hw hP1 hD1 h0) hS1 hl
-- the library: Math.max, Math.min, System.arraycopy, Object.<init>
theorem pm_max {idx : Nat} {x y : Int32} (hlk : Cond.methodLink M.1.cls idx Lib.Math.max.name ∈ pm_tb) (hst : Cond.static Lib.Math.max.name ∈ pm_tb) (hini : Cond.initialized "java/lang/Math" ∈ pm_tb) (hco : Cond.code Lib.Math.max.name Lib.Math.max.code 2 (some .int) ∈ pm_tb) (hf : 1 ≤ M.2.2.2.2.frames) (hlo : (st.map fun v => v.category).sum + 13 ≤ M.2.2.2.2.locals) (hc : cs ≤ M.2.2.2.2.cells) (hs : ss ≤ M.2.2.2.2.slots) (hd : decode M.2.1 pc = .ok (.invokestatic idx, 3)) (kk : pm_W l G M ad (pc + 3) lv (.int (if x < y then y else x) :: st) w cs ss Q) : pm_W l G M ad pc lv (.int y :: .int x :: st) w cs ss Q :=
  fun p e s m args below meth c X H locs ls hR hS hl => va_mmax X.1 X.2.1 (X.2.2.2.1.trans hl.1.symm) X.2.2.2.2.1 (X.2.2.2.2.2.1 _ hlk) (X.2.2.2.2.2.1 _ hst) (X.2.2.2.2.2.1 _ hini) (X.2.2.2.2.2.1 _ hco) hf hlo hc hs hd (kk p e s m args below meth c X H locs ls hR hS hl)
theorem pm_min {idx : Nat} {x y : Int32} (hlk : Cond.methodLink M.1.cls idx Lib.Math.min.name ∈ pm_tb) (hst : Cond.static Lib.Math.min.name ∈ pm_tb) (hini : Cond.initialized "java/lang/Math" ∈ pm_tb) (hco : Cond.code Lib.Math.min.name Lib.Math.min.code 2 (some .int) ∈ pm_tb) (hf : 1 ≤ M.2.2.2.2.frames) (hlo : (st.map fun v => v.category).sum + 13 ≤ M.2.2.2.2.locals) (hc : cs ≤ M.2.2.2.2.cells) (hs : ss ≤ M.2.2.2.2.slots) (hd : decode M.2.1 pc = .ok (.invokestatic idx, 3)) (kk : pm_W l G M ad (pc + 3) lv (.int (if y < x then y else x) :: st) w cs ss Q) : pm_W l G M ad pc lv (.int y :: .int x :: st) w cs ss Q :=
  fun p e s m args below meth c X H locs ls hR hS hl => va_mmin X.1 X.2.1 (X.2.2.2.1.trans hl.1.symm) X.2.2.2.2.1 (X.2.2.2.2.2.1 _ hlk) (X.2.2.2.2.2.1 _ hst) (X.2.2.2.2.2.1 _ hini) (X.2.2.2.2.2.1 _ hco) hf hlo hc hs hd (kk p e s m args below meth c X H locs ls hR hS hl)
theorem pm_copyi {idx g k g0 k0 n0 n1 : Nat} {f h : Nat → Int32} {sp dp n : Int32} {w2 : pm_V} (hlk : Cond.methodLink M.1.cls idx arraycopyName ∈ pm_tb) (hnat : Cond.native arraycopyName ∈ pm_tb) (hst : Cond.static arraycopyName ∈ pm_tb) (hini : Cond.initialized "java/lang/System" ∈ pm_tb) (hw0 : pm_get? w g0 k0 = some (.inl (0, n0, .inl f))) (hw : pm_get? w g k = some (.inl (0, n1, .inl h))) (h1 : ¬ sp < 0) (h2 : ¬ dp < 0) (h3 : ¬ n < 0) (h4 : sp.toNatClampNeg + n.toNatClampNeg ≤ n0) (h5 : dp.toNatClampNeg + n.toNatClampNeg ≤ n1) (hf : 1 ≤ M.2.2.2.2.frames) (hlo : (st.map fun v => v.category).sum + (nativeFrameWords "java/lang/System" "arraycopy" 5 + 11) ≤ M.2.2.2.2.locals) (hd : decode M.2.1 pc = .ok (.invokestatic idx, 3))
    (h6 : pm_set w g k (.inl (0, n1, .inl (va_cpy f h sp.toNatClampNeg dp.toNatClampNeg n.toNatClampNeg))) = w2) (kk : pm_W l G M ad (pc + 3) lv st w2 cs ss Q) : pm_W l G M ad pc lv (.int n :: .int dp :: .ref (ad g k) :: .int sp :: .ref (ad g0 k0) :: st) w cs ss Q := by
  intro p e s m args below meth c X H locs ls hR hS hl
  obtain ⟨q, hq⟩ := pm_E_mem hR hw
  obtain ⟨q0, hq0⟩ := pm_E_mem hR hw0
  exact va_copyi (ty := .int) X.1 X.2.1 (X.2.2.2.1.trans hl.1.symm) X.2.2.2.2.1 (X.2.2.2.2.2.1 _ hlk) (X.2.2.2.2.2.1 _ hnat) (X.2.2.2.2.2.1 _ hst) (X.2.2.2.2.2.1 _ hini) X.2.2.2.2.2.2.2.2.1 (pm_E_P hR) (pm_E_D hR) hS q0 q 0 0 hq0 hq rfl rfl rfl h1 h2 h3 h4 h5 (fun _ _ => rfl) hf hlo hd (fun H1 locs1 hP1 _ hS1 => kk p e s m args below meth c X H1 locs1 ls (h6 ▸ pm_R_set hR hw hq hP1) hS1 hl)
theorem pm_objInit {idx a : Nat} (hlk : Cond.methodLink M.1.cls idx Lib.objectInit ∈ pm_tb) (hin : Cond.instanceMethod Lib.objectInit ∈ pm_tb) (hco : Cond.code Lib.objectInit ⟨#[0xb1]⟩ 1 none ∈ pm_tb) (hf : 1 ≤ M.2.2.2.2.frames) (hlo : (st.map fun v => v.category).sum + 12 ≤ M.2.2.2.2.locals) (hd : decode M.2.1 pc = .ok (.invokespecial idx, 3)) (kk : pm_W l G M ad (pc + 3) lv st w cs ss Q) : pm_W l G M ad pc lv (.ref a :: st) w cs ss Q :=
  fun p e s m args below meth c X H locs ls hR hS hl => W.objInit X.1 X.2.1 X.2.2.2.2.1 (X.2.2.2.2.2.1 _ hlk) (X.2.2.2.2.2.1 _ hin) (X.2.2.2.2.2.1 _ hco) rfl (hl.1.trans X.2.2.2.1.symm) rfl hd hf (by show 2 * 0 + _ + 12 ≤ _; omega) (kk p e s m args below meth c X H locs ls hR hS hl)
theorem pm_recv {s : State} {H : Heap} {g k ci : Nat} {fs : List Value} {q : vw_C} (hK : pm_K G s) (hR : pm_R G ad w H) (hw : pm_get? w g k = some (.inr (ci, fs))) (hc : vwCl[ci]? = some q) : ∃ cell : Cell, H[ad g k]? = some cell ∧ cell.vm.isStatics = false ∧ s.vm.findClass q.1 = some cell.cls := (pm_E_mem hR hw).elim fun i hi => va_recv hK.1 (pm_E_P hR) hc hi
theorem pm_inst1 {g k ci idx : Nat} {fs : List Value} {q : vw_C} {nm : String} (hc : vwCl[ci]? = some q) (hlk : Cond.classLink M.1.cls idx nm ∈ pm_tb) (hca : q.1 = nm ∨ Cond.castable q.1 nm ∈ pm_nw) (hd : decode M.2.1 pc = .ok (.instanceof idx, 3)) (hw : pm_get? w g k = some (.inr (ci, fs))) (kk : pm_W l G M ad (pc + 3) lv (.int 1 :: st) w cs ss Q) : pm_W l G M ad pc lv (.ref (ad g k) :: st) w cs ss Q := by
  intro p e s m args below meth c X H locs ls hR hS hl
  rcases hca with rfl | hca
  · exact va_instS X.1 X.2.1 X.2.2.2.2.1 (X.2.2.2.2.2.1 _ hlk) (X.2.2.2.2.2.2.2.2.1.1 ci q hc).2 (pm_recv X.2.2.2.2.2.2.2.2 hR hw hc) hd (kk p e s m args below meth c X H locs ls hR hS hl)
  · exact va_instY X.1 X.2.1 X.2.2.2.2.1 (X.2.2.2.2.2.1 _ hlk) (X.2.2.2.2.2.2.2.2.2.2.1.1 _ hca) (pm_recv X.2.2.2.2.2.2.2.2 hR hw hc) hd (kk p e s m args below meth c X H locs ls hR hS hl)
theorem pm_inst0 {g k ci idx : Nat} {fs : List Value} {q : vw_C} {nm : String} (hc : vwCl[ci]? = some q) (hlk : Cond.classLink M.1.cls idx nm ∈ pm_tb) (hca : (q.1, nm) ∈ pm_nc) (hd : decode M.2.1 pc = .ok (.instanceof idx, 3)) (hw : pm_get? w g k = some (.inr (ci, fs))) (kk : pm_W l G M ad (pc + 3) lv (.int 0 :: st) w cs ss Q) : pm_W l G M ad pc lv (.ref (ad g k) :: st) w cs ss Q :=
  fun p e s m args below meth c X H locs ls hR hS hl => va_instNo X.1 X.2.1 X.2.2.2.2.1 (X.2.2.2.2.2.1 _ hlk) (X.2.2.2.2.2.2.2.2.2.2.1.2.2.2 _ hca) (pm_recv X.2.2.2.2.2.2.2.2 hR hw hc) hd (kk p e s m args below meth c X H locs ls hR hS hl)
-- calls
theorem pm_pre {H : Heap} {s : State} {args : Array Value} {p : Program} {m : MethodId} {meth : Method} {c : Code} {locs : List Loc} {as : List Value} (X : pm_X p G M s m args meth c) (hR : pm_R G ad w H) (hS : va_S (pm_P G) s.heap H locs) : PreS s H (va_Pc as (fun U => pm_K G U ∧ pm_R G ad w U.heap)) as := by
  refine ⟨fun a U g mk q => ?_, fun U hU hW => ⟨rfl, ⟨va_K.moved hW.alike X.2.2.2.2.2.2.2.2.1, by rw [hU]; exact Nat.le_trans X.2.2.2.2.2.2.2.2.2.1 hS.1, pm_N_warm hW X.2.2.2.2.2.2.2.2.2.2.1, X.2.2.2.2.2.2.2.2.2.2.2.1, ?_⟩, by rw [hU]; exact hR⟩⟩
  · obtain ⟨q0, ⟨k1, k2, k3, k4, k5⟩, qR⟩ := q
    exact ⟨q0, ⟨va_K.moved (u := U) (U := U.calling g mk a) (Vm.Alike.refl U.vm) k1, k2, pm_N_warm (U := U.calling g mk a) (State.WarmedH.refl U) k3, k4, k5⟩, qR⟩
  · have hx := X.2.2.2.2.2.2.2.2.2.2.2.2
    have hb := X.2.2.2.2.2.2.2.2.2.2.2.1
    have hB := X.2.2.2.2.2.2.2.2.2.1
    have hx2 := va_X.moved hW.alike hx
    rw [hU]
    exact va_X.kept hx2 (hS.2.1 _ (Nat.lt_of_lt_of_le hb hB) (Nat.not_le.mpr hb))
theorem pm_after {p : Program} {e : Env} {s : State} {m : MethodId} {args a : Array Value} {below : List Frame} {meth : Method} {c : Code} {M2 : pm_M} {st0 : List Value} {H : Heap} {locs : List Loc} {ls : Array Slot} (X : pm_X p G M s m args meth c) (hl : lv_has ls M.2.2.1 lv) (hS : va_S (pm_P G) s.heap H locs)
    (hr : va_Run p l e M.2.2.2.2 s m args below meth c H locs cs ss M2.2.2.2.2.cells M2.2.2.2.2.slots (F0 m pc ls st0) rest (pm_Q G (fun ad' v w' => pm_W l G M ad' (pc + 3) lv (v.toList ++ rest) w' (cs + M2.2.2.2.2.cells) (ss + M2.2.2.2.2.slots) Q) a) (pm_P G)) :
    W p l e M.2.2.2.2 s m args below meth c H locs cs ss (MQ below (pm_Q G Q) args s M.2.2.2.2.cells M.2.2.2.2.slots (pm_P G)) (F0 m pc ls st0) := by
  intro T hT XS
  obtain ⟨v, st₀, t, T', L, h0, X', hL, e1, e2, ⟨⟨ad', v', w', hv, hq, hR'⟩, hz, hk⟩, stp⟩ := hr T hT XS
  cases hv
  rw [h0] at hz hk
  have hS1 : va_S (pm_P G) s.heap T'.heap (locs ++ L) := ⟨Nat.le_trans hS.1 (by rw [e1]; exact hz), fun q h1 h2 => by rw [e1, hk q (Nat.lt_of_lt_of_le h1 hS.1) h2]; exact hS.2.1 q h1 h2, fun q hq => by
      rcases List.mem_append.mp hq with h | h
      · exact hS.2.2 q h
      · exact hL q h⟩
  obtain ⟨t2, a1, b1⟩ := hq p e s m args below meth c X T'.heap (locs ++ L) ls (by rw [e1]; exact hR') hS1 hl T' rfl X'
  exact ⟨t2, stp t2 a1, b1⟩
/-- what is known of a method that is called -/
def pm_ok (M2 : pm_M) (n : Nat) : Prop := Cond.code M2.1 M2.2.1 M2.2.2.1 M2.2.2.2.1 ∈ pm_tb ∧ Cond.initialized M2.1.cls ∈ pm_tb ∧ M2.1.cls ≠ "java/lang/invoke/MethodHandle" ∧ M2.1.cls ≠ "java/lang/invoke/VarHandle" ∧ (parseMethodDescriptor M2.1.desc).map (fun d => d.parameters.length) = some n
def pm_rm (M M2 : pm_M) (cs ss : Nat) : Prop := (M2.2.2.2.2.frames + 1 ≤ M.2.2.2.2.frames ∧ 8 + (M2.2.2.1 + 11) + M2.2.2.2.2.locals ≤ M.2.2.2.2.locals) ∧ (cs + M2.2.2.2.2.cells ≤ M.2.2.2.2.cells ∧ ss + M2.2.2.2.2.slots ≤ M.2.2.2.2.slots)
theorem pm_callS {M2 : pm_M} {idx n : Nat} {As : List Value} (ho : pm_ok M2 n) (hlk : Cond.methodLink M.1.cls idx M2.1 ∈ pm_tb) (hsk : Cond.static M2.1 ∈ pm_tb) (hd : decode M.2.1 pc = .ok (.invokestatic idx, 3)) (hn : As.length = n) (hst : st = As.reverse ++ rest) (hr : (rest.map fun v => v.category).sum ≤ 8) (hrm : pm_rm M M2 cs ss)
    (hC : pm_C l G M2 As ad w (fun ad' v w' => pm_W l G M ad' (pc + 3) lv (v.toList ++ rest) w' (cs + M2.2.2.2.2.cells) (ss + M2.2.2.2.2.slots) Q)) : pm_W l G M ad pc lv st w cs ss Q := by
  intro p e s m args below meth c X H locs ls hR hS hl
  have hts := X.2.2.2.2.2.1
  exact pm_after X hl hS (va_runS (n := n) (As := As) (rest := rest) ⟨X.1, X.2.1, X.2.2.2.1, X.2.2.2.2.1, hts⟩ hC ⟨callB_of n hts (pm_good_c ho.1) rfl rfl rfl (hts _ ho.2.1) (hts _ hlk) ho.2.2 hrm.1, hts _ hsk⟩ (pm_pre X hR hS) rfl hn hl.1 hst (lv_room hr) hd hrm.2)
theorem pm_callSN {M2 : pm_M} {idx n : Nat} {As : List Value} {host : String} (ho : pm_ok M2 n) (hlk : Cond.methodLinkNest M.1.cls idx M2.1 host ∈ pm_nw) (hsk : Cond.static M2.1 ∈ pm_tb) (hd : decode M.2.1 pc = .ok (.invokestatic idx, 3)) (hn : As.length = n) (hst : st = As.reverse ++ rest) (hr : (rest.map fun v => v.category).sum ≤ 8) (hrm : pm_rm M M2 cs ss)
    (hC : pm_C l G M2 As ad w (fun ad' v w' => pm_W l G M ad' (pc + 3) lv (v.toList ++ rest) w' (cs + M2.2.2.2.2.cells) (ss + M2.2.2.2.2.slots) Q)) : pm_W l G M ad pc lv st w cs ss Q := by
  intro p e s m args below meth c X H locs ls hR hS hl
  have hts := X.2.2.2.2.2.1
  exact pm_after X hl hS (va_runSN (n := n) (As := As) (rest := rest) ⟨X.1, X.2.1, X.2.2.2.1, X.2.2.2.2.1, hts⟩ hC ⟨va_cnB n hts (pm_good_c ho.1) rfl rfl rfl (X.2.2.2.2.2.2.2.2.2.2.1.1 _ hlk) (hts _ ho.2.1) ho.2.2 hrm.1, hts _ hsk, trivial⟩ (pm_pre X hR hS) rfl hn hl.1 hst (lv_room hr) hd hrm.2)
theorem pm_callV {M2 : pm_M} {idx n g k ci : Nat} {As fs : List Value} {q : vw_C} (ho : pm_ok M2 n) (hc : vwCl[ci]? = some q) (hlk : Cond.methodLink M.1.cls idx M2.1 ∈ pm_tb) (hik : Cond.instanceMethod M2.1 ∈ pm_tb) (hsk : Cond.selects q.1 M2.1 M2.1 ∈ pm_tb) (hd : decode M.2.1 pc = .ok (.invokevirtual idx, 3)) (hw : pm_get? w g k = some (.inr (ci, fs))) (hn : As.length = n) (hst : st = As.reverse ++ .ref (ad g k) :: rest) (hr : (rest.map fun v => v.category).sum ≤ 8) (hrm : pm_rm M M2 cs ss)
    (hC : pm_C l G M2 (.ref (ad g k) :: As) ad w (fun ad' v w' => pm_W l G M ad' (pc + 3) lv (v.toList ++ rest) w' (cs + M2.2.2.2.2.cells) (ss + M2.2.2.2.2.slots) Q)) : pm_W l G M ad pc lv st w cs ss Q := by
  intro p e s m args below meth c X H locs ls hR hS hl
  have hts := X.2.2.2.2.2.1
  have hp := pm_pre (as := .ref (ad g k) :: As) X hR hS
  exact pm_after X hl hS (va_runV (n := n) (As := As) (rest := rest) ⟨X.1, X.2.1, X.2.2.2.1, X.2.2.2.2.1, hts⟩ hC ⟨callB_of n hts (pm_good_c ho.1) rfl rfl rfl (hts _ ho.2.1) (hts _ hlk) ho.2.2 hrm.1, hts _ hik, hts _ hsk⟩ ⟨hp.1, pm_recv X.2.2.2.2.2.2.2.2 hR hw hc, hp.2⟩ rfl hn hl.1 hst (lv_room hr) hd hrm.2)
theorem pm_callVN {M2 : pm_M} {idx n g k ci : Nat} {As fs : List Value} {q : vw_C} {host : String} (ho : pm_ok M2 n) (hc : vwCl[ci]? = some q) (hlk : Cond.methodLinkNest M.1.cls idx M2.1 host ∈ pm_nw) (hik : Cond.instanceMethod M2.1 ∈ pm_tb) (hsk : Cond.selects q.1 M2.1 M2.1 ∈ pm_tb) (hd : decode M.2.1 pc = .ok (.invokevirtual idx, 3)) (hw : pm_get? w g k = some (.inr (ci, fs))) (hn : As.length = n) (hst : st = As.reverse ++ .ref (ad g k) :: rest) (hr : (rest.map fun v => v.category).sum ≤ 8) (hrm : pm_rm M M2 cs ss)
    (hC : pm_C l G M2 (.ref (ad g k) :: As) ad w (fun ad' v w' => pm_W l G M ad' (pc + 3) lv (v.toList ++ rest) w' (cs + M2.2.2.2.2.cells) (ss + M2.2.2.2.2.slots) Q)) : pm_W l G M ad pc lv st w cs ss Q := by
  intro p e s m args below meth c X H locs ls hR hS hl
  have hts := X.2.2.2.2.2.1
  have hp := pm_pre (as := .ref (ad g k) :: As) X hR hS
  exact pm_after X hl hS (va_runVN (n := n) (As := As) (rest := rest) ⟨X.1, X.2.1, X.2.2.2.1, X.2.2.2.2.1, hts⟩ hC ⟨va_cnB n hts (pm_good_c ho.1) rfl rfl rfl (X.2.2.2.2.2.2.2.2.2.2.1.1 _ hlk) (hts _ ho.2.1) ho.2.2 hrm.1, hts _ hik, hts _ hsk⟩ ⟨hp.1, pm_recv X.2.2.2.2.2.2.2.2 hR hw hc, hp.2⟩ rfl hn hl.1 hst (lv_room hr) hd hrm.2)
/-- a receiver of another class than the one that is named: x is named, M2 is run -/
theorem pm_callU {M2 : pm_M} {idx n g k ci : Nat} {As fs : List Value} {q : vw_C} {x : MethodName} {b0 : ByteArray} {m0 : Nat} {r0 : Option FieldType} (ho : pm_ok M2 n) (hc : vwCl[ci]? = some q) (hlk : Cond.methodLink M.1.cls idx x ∈ pm_tb) (hsm : Cond.sameMethod x.cls x.cls x.name x.desc ∈ pm_tb) (hix : Cond.instanceMethod x ∈ pm_tb) (hcx : Cond.code x b0 m0 r0 ∈ pm_tb) (hx : x.cls ≠ "java/lang/invoke/MethodHandle" ∧ x.cls ≠ "java/lang/invoke/VarHandle" ∧ (parseMethodDescriptor x.desc).map (fun d => d.parameters.length) = some n) (hik : Cond.instanceMethod M2.1 ∈ pm_tb) (hsk : Cond.selects q.1 x M2.1 ∈ pm_tb) (hd : decode M.2.1 pc = .ok (.invokevirtual idx, 3)) (hw : pm_get? w g k = some (.inr (ci, fs))) (hn : As.length = n) (hst : st = As.reverse ++ .ref (ad g k) :: rest) (hr : (rest.map fun v => v.category).sum ≤ 8) (hrm : pm_rm M M2 cs ss)
    (hC : pm_C l G M2 (.ref (ad g k) :: As) ad w (fun ad' v w' => pm_W l G M ad' (pc + 3) lv (v.toList ++ rest) w' (cs + M2.2.2.2.2.cells) (ss + M2.2.2.2.2.slots) Q)) : pm_W l G M ad pc lv st w cs ss Q := by
  intro p e s m args below meth c X H locs ls hR hS hl
  have hts := X.2.2.2.2.2.1
  have hp := pm_pre (as := .ref (ad g k) :: As) X hR hS
  have hG : GoodIn pm_tb (va_wsO M.1.cls idx q.1 x.cls x M2.1 (pm_ws M2)) := by
    intro z hz
    unfold va_wsO at hz
    have hm : z ∈ pm_tb := by
      rcases List.mem_append.mp hz with h | h
      · simp only [List.mem_cons, List.not_mem_nil, or_false] at h
        rcases h with rfl | rfl | rfl | rfl | rfl | rfl
        · exact hlk
        · exact hsm
        · exact hix
        · exact hsk
        · exact hik
        · exact ho.2.1
      · exact (pm_good_c ho.1 z h).1
    exact ⟨hm, pm_tb_good hm⟩
  exact pm_after X hl hS (va_runU (n := n) (As := As) (rest := rest) (C := q.1) (owner := x.cls) (x := x) ⟨X.1, X.2.1, X.2.2.2.1, X.2.2.2.2.1, hts⟩ hC (va_cwO (b0 := b0) (m0 := m0) (r0 := r0) n hts hG rfl rfl rfl hcx hx hrm.1) ⟨hp.1, pm_recv X.2.2.2.2.2.2.2.2 hR hw hc, hp.2⟩ rfl hn hl.1 hst (lv_room hr) hd hrm.2)
theorem pm_callI {M2 : pm_M} {idx n a : Nat} {As : List Value} (ho : pm_ok M2 n) (hv : M2.2.2.2.1 = none) (hnm : M2.1.name = "<init>") (hlk : Cond.methodLink M.1.cls idx M2.1 ∈ pm_tb) (hik : Cond.instanceMethod M2.1 ∈ pm_tb) (hd : decode M.2.1 pc = .ok (.invokespecial idx, 3)) (hn : As.length = n) (hst : st = As.reverse ++ .ref a :: rest) (hr : (rest.map fun v => v.category).sum ≤ 8) (hrm : pm_rm M M2 cs ss)
    (hC : pm_C l G M2 (.ref a :: As) ad w (fun ad' v w' => pm_W l G M ad' (pc + 3) lv (v.toList ++ rest) w' (cs + M2.2.2.2.2.cells) (ss + M2.2.2.2.2.slots) Q)) : pm_W l G M ad pc lv st w cs ss Q := by
  intro p e s m args below meth c X H locs ls hR hS hl
  have hts := X.2.2.2.2.2.1
  obtain ⟨y2, b2, L2, r2, rm2⟩ := M2
  cases hv
  exact pm_after (M2 := (y2, b2, L2, none, rm2)) X hl hS (va_runI (n := n) (As := As) (rest := rest) ⟨X.1, X.2.1, X.2.2.2.1, X.2.2.2.2.1, hts⟩ hC ⟨callB_of n hts (pm_good_c ho.1) rfl rfl rfl (hts _ ho.2.1) (hts _ hlk) ho.2.2 hrm.1, hnm, hts _ hik⟩ (pm_pre X hR hS) rfl hn hl.1 hst (lv_room hr) hd hrm.2)
theorem pm_callIN {M2 : pm_M} {idx n a : Nat} {As : List Value} {host : String} (ho : pm_ok M2 n) (hv : M2.2.2.2.1 = none) (hnm : M2.1.name = "<init>") (hlk : Cond.methodLinkNest M.1.cls idx M2.1 host ∈ pm_nw) (hik : Cond.instanceMethod M2.1 ∈ pm_tb) (hd : decode M.2.1 pc = .ok (.invokespecial idx, 3)) (hn : As.length = n) (hst : st = As.reverse ++ .ref a :: rest) (hr : (rest.map fun v => v.category).sum ≤ 8) (hrm : pm_rm M M2 cs ss)
    (hC : pm_C l G M2 (.ref a :: As) ad w (fun ad' v w' => pm_W l G M ad' (pc + 3) lv (v.toList ++ rest) w' (cs + M2.2.2.2.2.cells) (ss + M2.2.2.2.2.slots) Q)) : pm_W l G M ad pc lv st w cs ss Q := by
  intro p e s m args below meth c X H locs ls hR hS hl
  have hts := X.2.2.2.2.2.1
  obtain ⟨y2, b2, L2, r2, rm2⟩ := M2
  cases hv
  exact pm_after (M2 := (y2, b2, L2, none, rm2)) X hl hS (va_runIN (n := n) (As := As) (rest := rest) ⟨X.1, X.2.1, X.2.2.2.1, X.2.2.2.2.1, hts⟩ hC ⟨va_cnB n hts (pm_good_c ho.1) rfl rfl rfl (X.2.2.2.2.2.2.2.2.2.2.1.1 _ hlk) (hts _ ho.2.1) ho.2.2 hrm.1, hnm, hts _ hik⟩ (pm_pre X hR hS) rfl hn hl.1 hst (lv_room hr) hd hrm.2)
end PM2
