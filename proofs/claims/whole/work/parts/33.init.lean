set_option maxHeartbeats 600000 in
set_option maxRecDepth 100000 in
theorem c_X10_init {l : Launch} {G : pm_G} {ad : Nat → Nat → Nat} {w : pm_V} {Q : pm_T} {a : Nat} (hQ : Q ad none w) : pm_C l G m_X10_init [.ref a] ad w Q := by
  refine pm_met (by decide) (Nat.le_of_ble_eq_true rfl) ?_
  refine pm_aload_n dX10_init_0 rfl rfl ?_
  refine pm_objInit kw_81 kw_68 kw_69 (Nat.le_of_ble_eq_true rfl) (Nat.le_of_ble_eq_true rfl) dX10_init_1 ?_
  refine pm_vret dX10_init_4 rfl rfl rfl ?_
  exact hQ

set_option maxHeartbeats 600000 in
set_option maxRecDepth 100000 in
theorem c_X1_init {l : Launch} {G : pm_G} {ad : Nat → Nat → Nat} {w : pm_V} {Q : pm_T} {a : Nat} (hQ : Q ad none w) : pm_C l G m_X1_init [.ref a] ad w Q := by
  refine pm_met (by decide) (Nat.le_of_ble_eq_true rfl) ?_
  refine pm_aload_n dX1_init_0 rfl rfl ?_
  refine pm_objInit kw_142 kw_68 kw_69 (Nat.le_of_ble_eq_true rfl) (Nat.le_of_ble_eq_true rfl) dX1_init_1 ?_
  refine pm_vret dX1_init_4 rfl rfl rfl ?_
  exact hQ

set_option maxHeartbeats 600000 in
set_option maxRecDepth 100000 in
theorem c_X6_init {l : Launch} {G : pm_G} {ad : Nat → Nat → Nat} {a0 a4 a5 a6 a7 a8 : List pm_A} {a1 a2 : Nat → Option pm_A} {Q : pm_T} (hQ : ∀ ad2, (∀ g k, ¬ (g = 3 ∧ 1 ≤ k) → ad2 g k = ad g k) → Q ad2 none (a0, a1, a2, [.inr (6, [.ref (ad2 3 1), .ref (ad2 3 2), .int 0, .int 0, .int 0, .int 0]), .inl (0, 20, .inl (fun _ => 0)), .inr (10, [.int 0, .int 0, .int 0, .int 0, .int 0, .int 0, .int 0, .int 0])], a4, a5, a6, a7, a8)) : pm_C l G m_X6_init [.ref (ad 3 0)] ad (a0, a1, a2, [.inr (6, [.null, .null, .int 0, .int 0, .int 0, .int 0])], a4, a5, a6, a7, a8) Q := by
  refine pm_met (by decide) (Nat.le_of_ble_eq_true rfl) ?_
  refine pm_aload_n dX6_init_0 rfl rfl ?_
  refine pm_objInit kw_75 kw_68 kw_69 (Nat.le_of_ble_eq_true rfl) (Nat.le_of_ble_eq_true rfl) dX6_init_1 ?_
  refine pm_aload_n dX6_init_4 rfl rfl ?_
  refine pm_bipush (v := 20) dX6_init_5 (by decide) ?_
  refine pm_newa2 (g := 3) (k := 1) (atype := .int) (t := 0) (a0 := (20, .inl (fun _ => 0))) kw_112 rfl rfl (fun _ => rfl) (by decide) (by decide) (by decide) dX6_init_7 (by decide) (by decide) (rfl) (pm_app3 rfl) (Nat.le_of_ble_eq_true rfl) (Nat.le_of_ble_eq_true rfl) (fun b1 h1 => ?_)
  rw [← h1 3 0 (by decide)]
  refine pm_putF (w2 := (_, _, _, [.inr (_, [_, _, _, _, _, _]), _], _, _, _, _, _)) fl_RX6_9_6 fF_6_0 rfl dX6_init_9 rfl rfl rfl (Nat.le_of_ble_eq_true rfl) rfl ?_
  refine pm_aload_n dX6_init_12 rfl rfl ?_
  refine pm_new2 (g := 3) (k := 2) nw_RX6_15 dX6_init_13 (by decide) (by decide) (rfl) (pm_app3 rfl) (Nat.le_of_ble_eq_true rfl) (Nat.le_of_ble_eq_true rfl) (fun b2 h2 => ?_)
  rw [← h2 3 0 (by decide), ← h2 3 1 (by decide)]
  refine pm_dup dX6_init_16 rfl ?_
  refine pm_callIN (M2 := m_X10_init) (As := []) ok_X10_init rfl rfl kw_78 kw_79 dX6_init_17 rfl rfl (Nat.le_of_ble_eq_true rfl) ⟨⟨Nat.le_of_ble_eq_true rfl, Nat.le_of_ble_eq_true rfl⟩, Nat.le_of_ble_eq_true rfl, Nat.le_of_ble_eq_true rfl⟩ ?_
  refine c_X10_init ?_
  refine pm_put (w2 := (_, _, _, [.inr (_, [_, _, _, _, _, _]), _, _], _, _, _, _, _)) fl_RX6_18_6 fp_6_1 dX6_init_20 rfl rfl rfl (Nat.le_of_ble_eq_true rfl) rfl ?_
  refine pm_vret dX6_init_23 rfl rfl rfl ?_
  exact hQ b2 (fun g1 k1 hn => ((h2 g1 k1 (fun z => hn ⟨z.1, by have := z.2; omega⟩)).trans (h1 g1 k1 (fun z => hn ⟨z.1, by have := z.2; omega⟩))))

set_option maxHeartbeats 600000 in
set_option maxRecDepth 100000 in
theorem c_X3_init {l : Launch} {G : pm_G} {ad : Nat → Nat → Nat} {a0 a3 a5 a6 a7 a8 : List pm_A} {a1 a2 : Nat → Option pm_A} {Q : pm_T} (hQ : ∀ ad2, (∀ g k, ¬ (g = 4 ∧ 1 ≤ k) → ad2 g k = ad g k) → Q ad2 none (a0, a1, a2, a3, [.inr (3, [.int 0, .int 0, .int 0, .ref (ad2 4 1), .ref (ad2 4 2), .ref (ad2 4 3), .ref (ad2 4 4), .int 0]), .inl (0, 10, .inl (fun _ => 0)), .inl (0, 10, .inl (fun _ => 0)), .inl (0, 8, .inl (fun _ => 0)), .inl (0, 8, .inl (fun _ => 0))], a5, a6, a7, a8)) : pm_C l G m_X3_init [.ref (ad 4 0)] ad (a0, a1, a2, a3, [.inr (3, [.int 0, .int 0, .int 0, .null, .null, .null, .null, .int 0])], a5, a6, a7, a8) Q := by
  refine pm_met (by decide) (Nat.le_of_ble_eq_true rfl) ?_
  refine pm_aload_n dX3_init_0 rfl rfl ?_
  refine pm_objInit kw_170 kw_68 kw_69 (Nat.le_of_ble_eq_true rfl) (Nat.le_of_ble_eq_true rfl) dX3_init_1 ?_
  refine pm_aload_n dX3_init_4 rfl rfl ?_
  refine pm_bipush (v := 10) dX3_init_5 (by decide) ?_
  refine pm_newa2 (g := 4) (k := 1) (atype := .int) (t := 0) (a0 := (10, .inl (fun _ => 0))) kw_112 rfl rfl (fun _ => rfl) (by decide) (by decide) (by decide) dX3_init_7 (by decide) (by decide) (rfl) (pm_app4 rfl) (Nat.le_of_ble_eq_true rfl) (Nat.le_of_ble_eq_true rfl) (fun b1 h1 => ?_)
  rw [← h1 4 0 (by decide)]
  refine pm_putF (w2 := (_, _, _, _, [.inr (_, [_, _, _, _, _, _, _, _]), _], _, _, _, _)) fl_RX3_9_3 fF_3_3 rfl dX3_init_9 rfl rfl rfl (Nat.le_of_ble_eq_true rfl) rfl ?_
  refine pm_aload_n dX3_init_12 rfl rfl ?_
  refine pm_bipush (v := 10) dX3_init_13 (by decide) ?_
  refine pm_newa2 (g := 4) (k := 2) (atype := .int) (t := 0) (a0 := (10, .inl (fun _ => 0))) kw_112 rfl rfl (fun _ => rfl) (by decide) (by decide) (by decide) dX3_init_15 (by decide) (by decide) (rfl) (pm_app4 rfl) (Nat.le_of_ble_eq_true rfl) (Nat.le_of_ble_eq_true rfl) (fun b2 h2 => ?_)
  rw [← h2 4 0 (by decide), ← h2 4 1 (by decide)]
  refine pm_putF (w2 := (_, _, _, _, [.inr (_, [_, _, _, _, _, _, _, _]), _, _], _, _, _, _)) fl_RX3_15_3 fF_3_4 rfl dX3_init_17 rfl rfl rfl (Nat.le_of_ble_eq_true rfl) rfl ?_
  refine pm_aload_n dX3_init_20 rfl rfl ?_
  refine pm_bipush (v := 8) dX3_init_21 (by decide) ?_
  refine pm_newa2 (g := 4) (k := 3) (atype := .int) (t := 0) (a0 := (8, .inl (fun _ => 0))) kw_112 rfl rfl (fun _ => rfl) (by decide) (by decide) (by decide) dX3_init_23 (by decide) (by decide) (rfl) (pm_app4 rfl) (Nat.le_of_ble_eq_true rfl) (Nat.le_of_ble_eq_true rfl) (fun b3 h3 => ?_)
  rw [← h3 4 0 (by decide), ← h3 4 1 (by decide), ← h3 4 2 (by decide)]
  refine pm_putF (w2 := (_, _, _, _, [.inr (_, [_, _, _, _, _, _, _, _]), _, _, _], _, _, _, _)) fl_RX3_18_3 fF_3_5 rfl dX3_init_25 rfl rfl rfl (Nat.le_of_ble_eq_true rfl) rfl ?_
  refine pm_aload_n dX3_init_28 rfl rfl ?_
  refine pm_bipush (v := 8) dX3_init_29 (by decide) ?_
  refine pm_newa2 (g := 4) (k := 4) (atype := .int) (t := 0) (a0 := (8, .inl (fun _ => 0))) kw_112 rfl rfl (fun _ => rfl) (by decide) (by decide) (by decide) dX3_init_31 (by decide) (by decide) (rfl) (pm_app4 rfl) (Nat.le_of_ble_eq_true rfl) (Nat.le_of_ble_eq_true rfl) (fun b4 h4 => ?_)
  rw [← h4 4 0 (by decide), ← h4 4 1 (by decide), ← h4 4 2 (by decide), ← h4 4 3 (by decide)]
  refine pm_putF (w2 := (_, _, _, _, [.inr (_, [_, _, _, _, _, _, _, _]), _, _, _, _], _, _, _, _)) fl_RX3_21_3 fF_3_6 rfl dX3_init_33 rfl rfl rfl (Nat.le_of_ble_eq_true rfl) rfl ?_
  refine pm_vret dX3_init_36 rfl rfl rfl ?_
  exact hQ b4 (fun g1 k1 hn => ((((h4 g1 k1 (fun z => hn ⟨z.1, by have := z.2; omega⟩)).trans (h3 g1 k1 (fun z => hn ⟨z.1, by have := z.2; omega⟩))).trans (h2 g1 k1 (fun z => hn ⟨z.1, by have := z.2; omega⟩))).trans (h1 g1 k1 (fun z => hn ⟨z.1, by have := z.2; omega⟩))))

set_option maxHeartbeats 600000 in
set_option maxRecDepth 100000 in
theorem c_X9_init {l : Launch} {G : pm_G} {ad : Nat → Nat → Nat} {a0 a3 a4 a6 a7 a8 : List pm_A} {a1 a2 : Nat → Option pm_A} {Q : pm_T} (hQ : ∀ ad2, (∀ g k, ¬ (g = 5 ∧ 1 ≤ k) → ad2 g k = ad g k) → Q ad2 none (a0, a1, a2, a3, a4, [.inr (9, [.ref (ad2 5 1), .ref (ad2 5 2), .int 0]), .inl (4, 6, .inr (.inr (.inr (.inr (fun _ => none))))), .inl (1, 192, .inr (.inl (fun _ => 0)))], a6, a7, a8)) : pm_C l G m_X9_init [.ref (ad 5 0)] ad (a0, a1, a2, a3, a4, [.inr (9, [.null, .null, .int 0])], a6, a7, a8) Q := by
  refine pm_met (by decide) (Nat.le_of_ble_eq_true rfl) ?_
  refine pm_aload_n dX9_init_0 rfl rfl ?_
  refine pm_objInit kw_204 kw_68 kw_69 (Nat.le_of_ble_eq_true rfl) (Nat.le_of_ble_eq_true rfl) dX9_init_1 ?_
  refine pm_aload_n dX9_init_4 rfl rfl ?_
  refine pm_bipush (v := 6) dX9_init_5 (by decide) ?_
  refine pm_newq2 (g := 5) (k := 1) (t := 4) (N := 6) kw_205 (Or.inr ⟨rfl, rfl⟩) (by decide) (by decide) (by decide) dX9_init_7 (by decide) (by decide) (rfl) (pm_app5 rfl) (Nat.le_of_ble_eq_true rfl) (Nat.le_of_ble_eq_true rfl) (fun b1 h1 => ?_)
  rw [← h1 5 0 (by decide)]
  refine pm_putF (w2 := (_, _, _, _, _, [.inr (_, [_, _, _]), _], _, _, _)) fl_RX9_11_9 fF_9_0 rfl dX9_init_10 rfl rfl rfl (Nat.le_of_ble_eq_true rfl) rfl ?_
  refine pm_aload_n dX9_init_13 rfl rfl ?_
  refine pm_sipush (v := 192) dX9_init_14 (by decide) ?_
  refine pm_newa2 (g := 5) (k := 2) (atype := .long) (t := 1) (a0 := (192, .inr (.inl (fun _ => 0)))) kw_216 rfl rfl (fun _ => rfl) (by decide) (by decide) (by decide) dX9_init_17 (by decide) (by decide) (rfl) (pm_app5 rfl) (Nat.le_of_ble_eq_true rfl) (Nat.le_of_ble_eq_true rfl) (fun b2 h2 => ?_)
  rw [← h2 5 0 (by decide), ← h2 5 1 (by decide)]
  refine pm_putF (w2 := (_, _, _, _, _, [.inr (_, [_, _, _]), _, _], _, _, _)) fl_RX9_17_9 fF_9_1 rfl dX9_init_19 rfl rfl rfl (Nat.le_of_ble_eq_true rfl) rfl ?_
  refine pm_vret dX9_init_22 rfl rfl rfl ?_
  exact hQ b2 (fun g1 k1 hn => ((h2 g1 k1 (fun z => hn ⟨z.1, by have := z.2; omega⟩)).trans (h1 g1 k1 (fun z => hn ⟨z.1, by have := z.2; omega⟩))))

set_option maxHeartbeats 600000 in
set_option maxRecDepth 100000 in
theorem c_X2_init {l : Launch} {G : pm_G} {ad : Nat → Nat → Nat} {a0 a3 a4 a5 a7 a8 : List pm_A} {a1 a2 : Nat → Option pm_A} {Q : pm_T} (hQ : ∀ ad2, (∀ g k, ¬ (g = 6 ∧ 1 ≤ k) → ad2 g k = ad g k) → Q ad2 none (a0, a1, a2, a3, a4, a5, [.inr (2, [.int 0, .ref (ad2 6 1), .ref (ad2 6 2), .ref (ad2 6 3)]), .inl (3, 8, .inr (.inr (.inr (.inr (fun _ => none))))), .inl (0, 8, .inl (fun _ => 0)), .inl (0, 8, .inl (fun _ => 0))], a7, a8)) : pm_C l G m_X2_init [.ref (ad 6 0)] ad (a0, a1, a2, a3, a4, a5, [.inr (2, [.int 0, .null, .null, .null])], a7, a8) Q := by
  refine pm_met (by decide) (Nat.le_of_ble_eq_true rfl) ?_
  refine pm_aload_n dX2_init_0 rfl rfl ?_
  refine pm_objInit kw_222 kw_68 kw_69 (Nat.le_of_ble_eq_true rfl) (Nat.le_of_ble_eq_true rfl) dX2_init_1 ?_
  refine pm_aload_n dX2_init_4 rfl rfl ?_
  refine pm_bipush (v := 8) dX2_init_5 (by decide) ?_
  refine pm_newq2 (g := 6) (k := 1) (t := 3) (N := 8) kw_223 (Or.inl ⟨rfl, rfl⟩) (by decide) (by decide) (by decide) dX2_init_7 (by decide) (by decide) (rfl) (pm_app6 rfl) (Nat.le_of_ble_eq_true rfl) (Nat.le_of_ble_eq_true rfl) (fun b1 h1 => ?_)
  rw [← h1 6 0 (by decide)]
  refine pm_putF (w2 := (_, _, _, _, _, _, [.inr (_, [_, _, _, _]), _], _, _)) fl_RX2_11_2 fF_2_1 rfl dX2_init_10 rfl rfl rfl (Nat.le_of_ble_eq_true rfl) rfl ?_
  refine pm_aload_n dX2_init_13 rfl rfl ?_
  refine pm_bipush (v := 8) dX2_init_14 (by decide) ?_
  refine pm_newa2 (g := 6) (k := 2) (atype := .int) (t := 0) (a0 := (8, .inl (fun _ => 0))) kw_112 rfl rfl (fun _ => rfl) (by decide) (by decide) (by decide) dX2_init_16 (by decide) (by decide) (rfl) (pm_app6 rfl) (Nat.le_of_ble_eq_true rfl) (Nat.le_of_ble_eq_true rfl) (fun b2 h2 => ?_)
  rw [← h2 6 0 (by decide), ← h2 6 1 (by decide)]
  refine pm_putF (w2 := (_, _, _, _, _, _, [.inr (_, [_, _, _, _]), _, _], _, _)) fl_RX2_17_2 fF_2_2 rfl dX2_init_18 rfl rfl rfl (Nat.le_of_ble_eq_true rfl) rfl ?_
  refine pm_aload_n dX2_init_21 rfl rfl ?_
  refine pm_bipush (v := 8) dX2_init_22 (by decide) ?_
  refine pm_newa2 (g := 6) (k := 3) (atype := .int) (t := 0) (a0 := (8, .inl (fun _ => 0))) kw_112 rfl rfl (fun _ => rfl) (by decide) (by decide) (by decide) dX2_init_24 (by decide) (by decide) (rfl) (pm_app6 rfl) (Nat.le_of_ble_eq_true rfl) (Nat.le_of_ble_eq_true rfl) (fun b3 h3 => ?_)
  rw [← h3 6 0 (by decide), ← h3 6 1 (by decide), ← h3 6 2 (by decide)]
  refine pm_putF (w2 := (_, _, _, _, _, _, [.inr (_, [_, _, _, _]), _, _, _], _, _)) fl_RX2_21_2 fF_2_3 rfl dX2_init_26 rfl rfl rfl (Nat.le_of_ble_eq_true rfl) rfl ?_
  refine pm_vret dX2_init_29 rfl rfl rfl ?_
  exact hQ b3 (fun g1 k1 hn => (((h3 g1 k1 (fun z => hn ⟨z.1, by have := z.2; omega⟩)).trans (h2 g1 k1 (fun z => hn ⟨z.1, by have := z.2; omega⟩))).trans (h1 g1 k1 (fun z => hn ⟨z.1, by have := z.2; omega⟩))))

def th_A0 (g : Nat) : Nat → Int32 := if g = 14 then (fun q => if q < 8 then -1 else 0) else fun _ => 0
theorem th_rs0 (ad : Nat → Nat → Nat) (g : Nat) : th_rs ad g 0 = fun _ => none := funext fun j => if_neg (Nat.not_lt_zero j)
set_option maxHeartbeats 4000000 in
set_option maxRecDepth 100000 in
theorem c_X11_init {l : Launch} {G : pm_G} {ad : Nat → Nat → Nat} {a8 : List pm_A} {a1 a2 : Nat → Option pm_A} {Q : pm_T} (hQ : ∀ ad2, (∀ g k, ¬ (g = 0 ∧ 1 ≤ k) → ¬ (3 ≤ g ∧ g ≤ 7) → ad2 g k = ad g k) → Q ad2 none (th_g0 ad2 (fun _ => 0) (fun _ _ => 0), a1, a2, th_g3 ad2 (fun _ => 0) th_A0 (fun _ => 0) (fun _ _ => 0), th_g4 ad2 (fun _ => 0) th_A0 (fun _ => 0) (fun _ _ => 0), th_g5 ad2 (fun _ => 0) (fun _ => 0) (fun _ => none), th_g6 ad2 (fun _ => 0) th_A0 (fun _ => none), th_g7 (fun _ => 0), a8)) : pm_C l G m_X11_init [.ref (ad 0 0)] ad ([.inr (11, [.null, .null, .null, .null, .null, .null, .null, .null, .int 0, .int 0, .int 0, .int 0])], a1, a2, [], [], [], [], [], a8) Q := by
  refine pm_met (by decide) (Nat.le_of_ble_eq_true rfl) ?_
  refine pm_aload_n dX11_init_0 rfl rfl ?_
  refine pm_objInit kw_67 kw_68 kw_69 (Nat.le_of_ble_eq_true rfl) (Nat.le_of_ble_eq_true rfl) dX11_init_1 ?_
  refine pm_aload_n dX11_init_4 rfl rfl ?_
  refine pm_new2 (g := 3) (k := 0) nw_RX11_9 dX11_init_5 (by decide) (by decide) (rfl) (pm_app3 rfl) (Nat.le_of_ble_eq_true rfl) (Nat.le_of_ble_eq_true rfl) (fun b1 h1 => ?_)
  rw [← h1 0 0 (by decide)]
  refine pm_dup dX11_init_8 rfl ?_
  refine pm_callIN (M2 := m_X6_init) (As := []) ok_X6_init rfl rfl kw_72 kw_73 dX11_init_9 rfl rfl (Nat.le_of_ble_eq_true rfl) ⟨⟨Nat.le_of_ble_eq_true rfl, Nat.le_of_ble_eq_true rfl⟩, Nat.le_of_ble_eq_true rfl, Nat.le_of_ble_eq_true rfl⟩ ?_
  refine c_X6_init (fun b2 h2 => ?_)
  rw [← h2 0 0 (by decide), ← h2 3 0 (by decide)]
  refine pm_putF (w2 := ([.inr (_, [_, _, _, _, _, _, _, _, _, _, _, _])], _, _, _, _, _, _, _, _)) fl_RX11_12_11 fF_11_0 rfl dX11_init_12 rfl rfl rfl (Nat.le_of_ble_eq_true rfl) rfl ?_
  refine pm_aload_n dX11_init_15 rfl rfl ?_
  refine pm_iconst (v := 3) dX11_init_16 (by decide) ?_
  refine pm_newq2 (g := 0) (k := 1) (t := 3) (N := 3) kw_133 (Or.inl ⟨rfl, rfl⟩) (by decide) (by decide) (by decide) dX11_init_17 (by decide) (by decide) (rfl) (pm_app0 rfl) (Nat.le_of_ble_eq_true rfl) (Nat.le_of_ble_eq_true rfl) (fun b3 h3 => ?_)
  rw [← h3 0 0 (by decide), ← h3 3 0 (by decide), ← h3 3 1 (by decide), ← h3 3 2 (by decide)]
  refine pm_putF (w2 := ([.inr (_, [_, _, _, _, _, _, _, _, _, _, _, _]), _], _, _, _, _, _, _, _, _)) fl_RX11_18_11 fF_11_1 rfl dX11_init_20 rfl rfl rfl (Nat.le_of_ble_eq_true rfl) rfl ?_
  refine pm_aload_n dX11_init_23 rfl rfl ?_
  refine pm_bipush (v := 8) dX11_init_24 (by decide) ?_
  refine pm_newq2 (g := 0) (k := 2) (t := 4) (N := 8) kw_135 (Or.inr ⟨rfl, rfl⟩) (by decide) (by decide) (by decide) dX11_init_26 (by decide) (by decide) (rfl) (pm_app0 rfl) (Nat.le_of_ble_eq_true rfl) (Nat.le_of_ble_eq_true rfl) (fun b4 h4 => ?_)
  rw [← h4 0 0 (by decide), ← h4 3 0 (by decide), ← h4 3 1 (by decide), ← h4 3 2 (by decide), ← h4 0 1 (by decide)]
  refine pm_putF (w2 := ([.inr (_, [_, _, _, _, _, _, _, _, _, _, _, _]), _, _], _, _, _, _, _, _, _, _)) fl_RX11_24_11 fF_11_2 rfl dX11_init_29 rfl rfl rfl (Nat.le_of_ble_eq_true rfl) rfl ?_
  refine pm_aload_n dX11_init_32 rfl rfl ?_
  refine pm_new2 (g := 7) (k := 0) nw_RX11_28 dX11_init_33 (by decide) (by decide) (rfl) (pm_app7 rfl) (Nat.le_of_ble_eq_true rfl) (Nat.le_of_ble_eq_true rfl) (fun b5 h5 => ?_)
  rw [← h5 0 0 (by decide), ← h5 3 0 (by decide), ← h5 3 1 (by decide), ← h5 3 2 (by decide), ← h5 0 1 (by decide), ← h5 0 2 (by decide)]
  refine pm_dup dX11_init_36 rfl ?_
  refine pm_callIN (M2 := m_X1_init) (As := []) ok_X1_init rfl rfl kw_139 kw_140 dX11_init_37 rfl rfl (Nat.le_of_ble_eq_true rfl) ⟨⟨Nat.le_of_ble_eq_true rfl, Nat.le_of_ble_eq_true rfl⟩, Nat.le_of_ble_eq_true rfl, Nat.le_of_ble_eq_true rfl⟩ ?_
  refine c_X1_init ?_
  refine pm_putF (w2 := ([.inr (_, [_, _, _, _, _, _, _, _, _, _, _, _]), _, _], _, _, _, _, _, _, _, _)) fl_RX11_31_11 fF_11_3 rfl dX11_init_40 rfl rfl rfl (Nat.le_of_ble_eq_true rfl) rfl ?_
  refine pm_aload_n dX11_init_43 rfl rfl ?_
  refine pm_new2 (g := 4) (k := 0) nw_RX11_35 dX11_init_44 (by decide) (by decide) (rfl) (pm_app4 rfl) (Nat.le_of_ble_eq_true rfl) (Nat.le_of_ble_eq_true rfl) (fun b6 h6 => ?_)
  rw [← h6 0 0 (by decide), ← h6 3 0 (by decide), ← h6 3 1 (by decide), ← h6 3 2 (by decide), ← h6 0 1 (by decide), ← h6 0 2 (by decide), ← h6 7 0 (by decide)]
  refine pm_dup dX11_init_47 rfl ?_
  refine pm_callIN (M2 := m_X3_init) (As := []) ok_X3_init rfl rfl kw_167 kw_168 dX11_init_48 rfl rfl (Nat.le_of_ble_eq_true rfl) ⟨⟨Nat.le_of_ble_eq_true rfl, Nat.le_of_ble_eq_true rfl⟩, Nat.le_of_ble_eq_true rfl, Nat.le_of_ble_eq_true rfl⟩ ?_
  refine c_X3_init (fun b7 h7 => ?_)
  rw [← h7 0 0 (by decide), ← h7 3 0 (by decide), ← h7 3 1 (by decide), ← h7 3 2 (by decide), ← h7 0 1 (by decide), ← h7 0 2 (by decide), ← h7 7 0 (by decide), ← h7 4 0 (by decide)]
  refine pm_putF (w2 := ([.inr (_, [_, _, _, _, _, _, _, _, _, _, _, _]), _, _], _, _, _, _, _, _, _, _)) fl_RX11_38_11 fF_11_4 rfl dX11_init_51 rfl rfl rfl (Nat.le_of_ble_eq_true rfl) rfl ?_
  refine pm_aload_n dX11_init_54 rfl rfl ?_
  refine pm_new2 (g := 5) (k := 0) nw_RX11_42 dX11_init_55 (by decide) (by decide) (rfl) (pm_app5 rfl) (Nat.le_of_ble_eq_true rfl) (Nat.le_of_ble_eq_true rfl) (fun b8 h8 => ?_)
  rw [← h8 0 0 (by decide), ← h8 3 0 (by decide), ← h8 3 1 (by decide), ← h8 3 2 (by decide), ← h8 0 1 (by decide), ← h8 0 2 (by decide), ← h8 7 0 (by decide), ← h8 4 0 (by decide), ← h8 4 1 (by decide), ← h8 4 2 (by decide), ← h8 4 3 (by decide), ← h8 4 4 (by decide)]
  refine pm_dup dX11_init_58 rfl ?_
  refine pm_callIN (M2 := m_X9_init) (As := []) ok_X9_init rfl rfl kw_201 kw_202 dX11_init_59 rfl rfl (Nat.le_of_ble_eq_true rfl) ⟨⟨Nat.le_of_ble_eq_true rfl, Nat.le_of_ble_eq_true rfl⟩, Nat.le_of_ble_eq_true rfl, Nat.le_of_ble_eq_true rfl⟩ ?_
  refine c_X9_init (fun b9 h9 => ?_)
  rw [← h9 0 0 (by decide), ← h9 3 0 (by decide), ← h9 3 1 (by decide), ← h9 3 2 (by decide), ← h9 0 1 (by decide), ← h9 0 2 (by decide), ← h9 7 0 (by decide), ← h9 4 0 (by decide), ← h9 4 1 (by decide), ← h9 4 2 (by decide), ← h9 4 3 (by decide), ← h9 4 4 (by decide), ← h9 5 0 (by decide)]
  refine pm_putF (w2 := ([.inr (_, [_, _, _, _, _, _, _, _, _, _, _, _]), _, _], _, _, _, _, _, _, _, _)) fl_RX11_45_11 fF_11_5 rfl dX11_init_62 rfl rfl rfl (Nat.le_of_ble_eq_true rfl) rfl ?_
  refine pm_aload_n dX11_init_65 rfl rfl ?_
  refine pm_new2 (g := 6) (k := 0) nw_RX11_49 dX11_init_66 (by decide) (by decide) (rfl) (pm_app6 rfl) (Nat.le_of_ble_eq_true rfl) (Nat.le_of_ble_eq_true rfl) (fun b10 h10 => ?_)
  rw [← h10 0 0 (by decide), ← h10 3 0 (by decide), ← h10 3 1 (by decide), ← h10 3 2 (by decide), ← h10 0 1 (by decide), ← h10 0 2 (by decide), ← h10 7 0 (by decide), ← h10 4 0 (by decide), ← h10 4 1 (by decide), ← h10 4 2 (by decide), ← h10 4 3 (by decide), ← h10 4 4 (by decide), ← h10 5 0 (by decide), ← h10 5 1 (by decide), ← h10 5 2 (by decide)]
  refine pm_dup dX11_init_69 rfl ?_
  refine pm_callIN (M2 := m_X2_init) (As := []) ok_X2_init rfl rfl kw_219 kw_220 dX11_init_70 rfl rfl (Nat.le_of_ble_eq_true rfl) ⟨⟨Nat.le_of_ble_eq_true rfl, Nat.le_of_ble_eq_true rfl⟩, Nat.le_of_ble_eq_true rfl, Nat.le_of_ble_eq_true rfl⟩ ?_
  refine c_X2_init (fun b11 h11 => ?_)
  rw [← h11 0 0 (by decide), ← h11 3 0 (by decide), ← h11 3 1 (by decide), ← h11 3 2 (by decide), ← h11 0 1 (by decide), ← h11 0 2 (by decide), ← h11 7 0 (by decide), ← h11 4 0 (by decide), ← h11 4 1 (by decide), ← h11 4 2 (by decide), ← h11 4 3 (by decide), ← h11 4 4 (by decide), ← h11 5 0 (by decide), ← h11 5 1 (by decide), ← h11 5 2 (by decide), ← h11 6 0 (by decide)]
  refine pm_putF (w2 := ([.inr (_, [_, _, _, _, _, _, _, _, _, _, _, _]), _, _], _, _, _, _, _, _, _, _)) fl_RX11_52_11 fF_11_6 rfl dX11_init_73 rfl rfl rfl (Nat.le_of_ble_eq_true rfl) rfl ?_
  refine pm_aload_n dX11_init_76 rfl rfl ?_
  refine pm_iconst (v := 4) dX11_init_77 (by decide) ?_
  refine pm_newa2 (g := 0) (k := 3) (atype := .int) (t := 0) (a0 := (4, .inl (fun _ => 0))) kw_112 rfl rfl (fun _ => rfl) (by decide) (by decide) (by decide) dX11_init_78 (by decide) (by decide) (rfl) (pm_app0 rfl) (Nat.le_of_ble_eq_true rfl) (Nat.le_of_ble_eq_true rfl) (fun b12 h12 => ?_)
  rw [← h12 0 0 (by decide), ← h12 3 0 (by decide), ← h12 3 1 (by decide), ← h12 3 2 (by decide), ← h12 0 1 (by decide), ← h12 0 2 (by decide), ← h12 7 0 (by decide), ← h12 4 0 (by decide), ← h12 4 1 (by decide), ← h12 4 2 (by decide), ← h12 4 3 (by decide), ← h12 4 4 (by decide), ← h12 5 0 (by decide), ← h12 5 1 (by decide), ← h12 5 2 (by decide), ← h12 6 0 (by decide), ← h12 6 1 (by decide), ← h12 6 2 (by decide), ← h12 6 3 (by decide)]
  refine pm_putF (w2 := ([.inr (_, [_, _, _, _, _, _, _, _, _, _, _, _]), _, _, _], _, _, _, _, _, _, _, _)) fl_RX11_56_11 fF_11_7 rfl dX11_init_80 rfl rfl rfl (Nat.le_of_ble_eq_true rfl) rfl ?_
  refine pm_aload_n dX11_init_83 rfl rfl ?_
  refine pm_iconst (v := 0) dX11_init_84 (by decide) ?_
  refine pm_put (w2 := ([.inr (_, [_, _, _, _, _, _, _, _, _, _, _, _]), _, _, _], _, _, _, _, _, _, _, _)) fl_RX11_60_11 fp_11_10 dX11_init_85 rfl rfl rfl (Nat.le_of_ble_eq_true rfl) rfl ?_
  refine pm_aload_n dX11_init_88 rfl rfl ?_
  refine pm_iconst (v := (-1)) dX11_init_89 (by decide) ?_
  refine pm_put (w2 := ([.inr (_, [_, _, _, _, _, _, _, _, _, _, _, _]), _, _, _], _, _, _, _, _, _, _, _)) fl_RX11_64_11 fp_11_11 dX11_init_90 rfl rfl rfl (Nat.le_of_ble_eq_true rfl) rfl ?_
  refine pm_vret dX11_init_93 rfl rfl rfl ?_
  have hq := hQ b12 (fun g1 k1 hn1 hn2 => ((((((((((((h12 g1 k1 (fun z => by have h0 := z.1; have h1 := z.2; omega)).trans (h11 g1 k1 (fun z => by have h0 := z.1; have h1 := z.2; omega))).trans (h10 g1 k1 (fun z => by have h0 := z.1; have h1 := z.2; omega))).trans (h9 g1 k1 (fun z => by have h0 := z.1; have h1 := z.2; omega))).trans (h8 g1 k1 (fun z => by have h0 := z.1; have h1 := z.2; omega))).trans (h7 g1 k1 (fun z => by have h0 := z.1; have h1 := z.2; omega))).trans (h6 g1 k1 (fun z => by have h0 := z.1; have h1 := z.2; omega))).trans (h5 g1 k1 (fun z => by have h0 := z.1; have h1 := z.2; omega))).trans (h4 g1 k1 (fun z => by have h0 := z.1; have h1 := z.2; omega))).trans (h3 g1 k1 (fun z => by have h0 := z.1; have h1 := z.2; omega))).trans (h2 g1 k1 (fun z => by have h0 := z.1; have h1 := z.2; omega))).trans (h1 g1 k1 (fun z => by have h0 := z.1; have h1 := z.2; omega))))
  rw [th_g0, th_rs0, th_rs0] at hq
  exact hq

set_option maxHeartbeats 4000000 in
set_option maxRecDepth 100000 in
theorem c_X12_init {l : Launch} {G : pm_G} {ad : Nat → Nat → Nat} {a0 a3 a4 a5 a6 a7 : List pm_A} {a1 a2 : Nat → Option pm_A} {Q : pm_T} (hQ : ∀ ad2, (∀ g k, ¬ (g = 8 ∧ 1 ≤ k) → ad2 g k = ad g k) → Q ad2 none (a0, a1, a2, a3, a4, a5, a6, a7, (th_mp ad2 (fun _ => 0) th_A0 (fun _ => 0) (fun _ _ => 0) 0))) : pm_C l G m_X12_init [.ref (ad 8 0)] ad (a0, a1, a2, a3, a4, a5, a6, a7, [.inr (12, [.null, .int 0, .int 0, .null, .null, .null, .int 0, .int 0, .int 0, .int 0, .null, .int 0, .null, .null, .null, .null, .null, .null, .null, .null, .null, .int 0, .int 0, .int 0, .int 0, .int 0, .int 0, .null, .null, .null, .int 0, .int 0, .null, .int 0, .int 0, .null, .null, .null, .null, .null, .int 0, .int 0, .int 0, .long 0])]) Q := by
  refine pm_met (by decide) (Nat.le_of_ble_eq_true rfl) ?_
  refine pm_aload_n dX12_init_0 rfl rfl ?_
  refine pm_objInit kw_957 kw_68 kw_69 (Nat.le_of_ble_eq_true rfl) (Nat.le_of_ble_eq_true rfl) dX12_init_1 ?_
  refine pm_aload_n dX12_init_4 rfl rfl ?_
  refine pm_bipush (v := 20) dX12_init_5 (by decide) ?_
  refine pm_newa2 (g := 8) (k := 1) (atype := .int) (t := 0) (a0 := (20, .inl (fun _ => 0))) kw_112 rfl rfl (fun _ => rfl) (by decide) (by decide) (by decide) dX12_init_7 (by decide) (by decide) (rfl) (pm_app8 rfl) (Nat.le_of_ble_eq_true rfl) (Nat.le_of_ble_eq_true rfl) (fun b1 h1 => ?_)
  rw [← h1 8 0 (by decide)]
  refine pm_putF (w2 := (_, _, _, _, _, _, _, _, [.inr (_, [_, _, _, _, _, _, _, _, _, _, _, _, _, _, _, _, _, _, _, _, _, _, _, _, _, _, _, _, _, _, _, _, _, _, _, _, _, _, _, _, _, _, _, _]), _])) fl_RX12_7_12 fF_12_0 rfl dX12_init_9 rfl rfl rfl (Nat.le_of_ble_eq_true rfl) rfl ?_
  refine pm_aload_n dX12_init_12 rfl rfl ?_
  refine pm_bipush (v := 12) dX12_init_13 (by decide) ?_
  refine pm_newa2 (g := 8) (k := 2) (atype := .int) (t := 0) (a0 := (12, .inl (fun _ => 0))) kw_112 rfl rfl (fun _ => rfl) (by decide) (by decide) (by decide) dX12_init_15 (by decide) (by decide) (rfl) (pm_app8 rfl) (Nat.le_of_ble_eq_true rfl) (Nat.le_of_ble_eq_true rfl) (fun b2 h2 => ?_)
  rw [← h2 8 0 (by decide), ← h2 8 1 (by decide)]
  refine pm_putF (w2 := (_, _, _, _, _, _, _, _, [.inr (_, [_, _, _, _, _, _, _, _, _, _, _, _, _, _, _, _, _, _, _, _, _, _, _, _, _, _, _, _, _, _, _, _, _, _, _, _, _, _, _, _, _, _, _, _]), _, _])) fl_RX12_13_12 fF_12_3 rfl dX12_init_17 rfl rfl rfl (Nat.le_of_ble_eq_true rfl) rfl ?_
  refine pm_aload_n dX12_init_20 rfl rfl ?_
  refine pm_iconst (v := 3) dX12_init_21 (by decide) ?_
  refine pm_newa2 (g := 8) (k := 3) (atype := .int) (t := 0) (a0 := (3, .inl (fun _ => 0))) kw_112 rfl rfl (fun _ => rfl) (by decide) (by decide) (by decide) dX12_init_22 (by decide) (by decide) (rfl) (pm_app8 rfl) (Nat.le_of_ble_eq_true rfl) (Nat.le_of_ble_eq_true rfl) (fun b3 h3 => ?_)
  rw [← h3 8 0 (by decide), ← h3 8 1 (by decide), ← h3 8 2 (by decide)]
  refine pm_putF (w2 := (_, _, _, _, _, _, _, _, [.inr (_, [_, _, _, _, _, _, _, _, _, _, _, _, _, _, _, _, _, _, _, _, _, _, _, _, _, _, _, _, _, _, _, _, _, _, _, _, _, _, _, _, _, _, _, _]), _, _, _])) fl_RX12_16_12 fF_12_4 rfl dX12_init_24 rfl rfl rfl (Nat.le_of_ble_eq_true rfl) rfl ?_
  refine pm_aload_n dX12_init_27 rfl rfl ?_
  refine pm_iconst (v := 3) dX12_init_28 (by decide) ?_
  refine pm_newa2 (g := 8) (k := 4) (atype := .int) (t := 0) (a0 := (3, .inl (fun _ => 0))) kw_112 rfl rfl (fun _ => rfl) (by decide) (by decide) (by decide) dX12_init_29 (by decide) (by decide) (rfl) (pm_app8 rfl) (Nat.le_of_ble_eq_true rfl) (Nat.le_of_ble_eq_true rfl) (fun b4 h4 => ?_)
  rw [← h4 8 0 (by decide), ← h4 8 1 (by decide), ← h4 8 2 (by decide), ← h4 8 3 (by decide)]
  refine pm_putF (w2 := (_, _, _, _, _, _, _, _, [.inr (_, [_, _, _, _, _, _, _, _, _, _, _, _, _, _, _, _, _, _, _, _, _, _, _, _, _, _, _, _, _, _, _, _, _, _, _, _, _, _, _, _, _, _, _, _]), _, _, _, _])) fl_RX12_19_12 fF_12_5 rfl dX12_init_31 rfl rfl rfl (Nat.le_of_ble_eq_true rfl) rfl ?_
  refine pm_aload_n dX12_init_34 rfl rfl ?_
  refine pm_iconst (v := 4) dX12_init_35 (by decide) ?_
  refine pm_newa2 (g := 8) (k := 5) (atype := .int) (t := 0) (a0 := (4, .inl (fun _ => 0))) kw_112 rfl rfl (fun _ => rfl) (by decide) (by decide) (by decide) dX12_init_36 (by decide) (by decide) (rfl) (pm_app8 rfl) (Nat.le_of_ble_eq_true rfl) (Nat.le_of_ble_eq_true rfl) (fun b5 h5 => ?_)
  rw [← h5 8 0 (by decide), ← h5 8 1 (by decide), ← h5 8 2 (by decide), ← h5 8 3 (by decide), ← h5 8 4 (by decide)]
  refine pm_putF (w2 := (_, _, _, _, _, _, _, _, [.inr (_, [_, _, _, _, _, _, _, _, _, _, _, _, _, _, _, _, _, _, _, _, _, _, _, _, _, _, _, _, _, _, _, _, _, _, _, _, _, _, _, _, _, _, _, _]), _, _, _, _, _])) fl_RX12_22_12 fF_12_10 rfl dX12_init_38 rfl rfl rfl (Nat.le_of_ble_eq_true rfl) rfl ?_
  refine pm_aload_n dX12_init_41 rfl rfl ?_
  refine pm_bipush (v := 8) dX12_init_42 (by decide) ?_
  refine pm_newa2 (g := 8) (k := 6) (atype := .int) (t := 0) (a0 := (8, .inl (fun _ => 0))) kw_112 rfl rfl (fun _ => rfl) (by decide) (by decide) (by decide) dX12_init_44 (by decide) (by decide) (rfl) (pm_app8 rfl) (Nat.le_of_ble_eq_true rfl) (Nat.le_of_ble_eq_true rfl) (fun b6 h6 => ?_)
  rw [← h6 8 0 (by decide), ← h6 8 1 (by decide), ← h6 8 2 (by decide), ← h6 8 3 (by decide), ← h6 8 4 (by decide), ← h6 8 5 (by decide)]
  refine pm_putF (w2 := (_, _, _, _, _, _, _, _, [.inr (_, [_, _, _, _, _, _, _, _, _, _, _, _, _, _, _, _, _, _, _, _, _, _, _, _, _, _, _, _, _, _, _, _, _, _, _, _, _, _, _, _, _, _, _, _]), _, _, _, _, _, _])) fl_RX12_25_12 fF_12_12 rfl dX12_init_46 rfl rfl rfl (Nat.le_of_ble_eq_true rfl) rfl ?_
  refine pm_aload_n dX12_init_49 rfl rfl ?_
  refine pm_bipush (v := 8) dX12_init_50 (by decide) ?_
  refine pm_newa2 (g := 8) (k := 7) (atype := .int) (t := 0) (a0 := (8, .inl (fun _ => 0))) kw_112 rfl rfl (fun _ => rfl) (by decide) (by decide) (by decide) dX12_init_52 (by decide) (by decide) (rfl) (pm_app8 rfl) (Nat.le_of_ble_eq_true rfl) (Nat.le_of_ble_eq_true rfl) (fun b7 h7 => ?_)
  rw [← h7 8 0 (by decide), ← h7 8 1 (by decide), ← h7 8 2 (by decide), ← h7 8 3 (by decide), ← h7 8 4 (by decide), ← h7 8 5 (by decide), ← h7 8 6 (by decide)]
  refine pm_putF (w2 := (_, _, _, _, _, _, _, _, [.inr (_, [_, _, _, _, _, _, _, _, _, _, _, _, _, _, _, _, _, _, _, _, _, _, _, _, _, _, _, _, _, _, _, _, _, _, _, _, _, _, _, _, _, _, _, _]), _, _, _, _, _, _, _])) fl_RX12_28_12 fF_12_13 rfl dX12_init_54 rfl rfl rfl (Nat.le_of_ble_eq_true rfl) rfl ?_
  refine pm_aload_n dX12_init_57 rfl rfl ?_
  refine pm_bipush (v := 8) dX12_init_58 (by decide) ?_
  refine pm_newa2 (g := 8) (k := 8) (atype := .int) (t := 0) (a0 := (8, .inl (fun _ => 0))) kw_112 rfl rfl (fun _ => rfl) (by decide) (by decide) (by decide) dX12_init_60 (by decide) (by decide) (rfl) (pm_app8 rfl) (Nat.le_of_ble_eq_true rfl) (Nat.le_of_ble_eq_true rfl) (fun b8 h8 => ?_)
  rw [← h8 8 0 (by decide), ← h8 8 1 (by decide), ← h8 8 2 (by decide), ← h8 8 3 (by decide), ← h8 8 4 (by decide), ← h8 8 5 (by decide), ← h8 8 6 (by decide), ← h8 8 7 (by decide)]
  refine pm_putF (w2 := (_, _, _, _, _, _, _, _, [.inr (_, [_, _, _, _, _, _, _, _, _, _, _, _, _, _, _, _, _, _, _, _, _, _, _, _, _, _, _, _, _, _, _, _, _, _, _, _, _, _, _, _, _, _, _, _]), _, _, _, _, _, _, _, _])) fl_RX12_31_12 fF_12_14 rfl dX12_init_62 rfl rfl rfl (Nat.le_of_ble_eq_true rfl) rfl ?_
  refine pm_aload_n dX12_init_65 rfl rfl ?_
  refine pm_bipush (v := 8) dX12_init_66 (by decide) ?_
  refine pm_newa2 (g := 8) (k := 9) (atype := .int) (t := 0) (a0 := (8, .inl (fun _ => 0))) kw_112 rfl rfl (fun _ => rfl) (by decide) (by decide) (by decide) dX12_init_68 (by decide) (by decide) (rfl) (pm_app8 rfl) (Nat.le_of_ble_eq_true rfl) (Nat.le_of_ble_eq_true rfl) (fun b9 h9 => ?_)
  rw [← h9 8 0 (by decide), ← h9 8 1 (by decide), ← h9 8 2 (by decide), ← h9 8 3 (by decide), ← h9 8 4 (by decide), ← h9 8 5 (by decide), ← h9 8 6 (by decide), ← h9 8 7 (by decide), ← h9 8 8 (by decide)]
  refine pm_putF (w2 := (_, _, _, _, _, _, _, _, [.inr (_, [_, _, _, _, _, _, _, _, _, _, _, _, _, _, _, _, _, _, _, _, _, _, _, _, _, _, _, _, _, _, _, _, _, _, _, _, _, _, _, _, _, _, _, _]), _, _, _, _, _, _, _, _, _])) fl_RX12_34_12 fF_12_15 rfl dX12_init_70 rfl rfl rfl (Nat.le_of_ble_eq_true rfl) rfl ?_
  refine pm_aload_n dX12_init_73 rfl rfl ?_
  refine pm_bipush (v := 8) dX12_init_74 (by decide) ?_
  refine pm_newa2 (g := 8) (k := 10) (atype := .int) (t := 0) (a0 := (8, .inl (fun _ => 0))) kw_112 rfl rfl (fun _ => rfl) (by decide) (by decide) (by decide) dX12_init_76 (by decide) (by decide) (rfl) (pm_app8 rfl) (Nat.le_of_ble_eq_true rfl) (Nat.le_of_ble_eq_true rfl) (fun b10 h10 => ?_)
  rw [← h10 8 0 (by decide), ← h10 8 1 (by decide), ← h10 8 2 (by decide), ← h10 8 3 (by decide), ← h10 8 4 (by decide), ← h10 8 5 (by decide), ← h10 8 6 (by decide), ← h10 8 7 (by decide), ← h10 8 8 (by decide), ← h10 8 9 (by decide)]
  refine pm_putF (w2 := (_, _, _, _, _, _, _, _, [.inr (_, [_, _, _, _, _, _, _, _, _, _, _, _, _, _, _, _, _, _, _, _, _, _, _, _, _, _, _, _, _, _, _, _, _, _, _, _, _, _, _, _, _, _, _, _]), _, _, _, _, _, _, _, _, _, _])) fl_RX12_37_12 fF_12_16 rfl dX12_init_78 rfl rfl rfl (Nat.le_of_ble_eq_true rfl) rfl ?_
  refine pm_aload_n dX12_init_81 rfl rfl ?_
  refine pm_bipush (v := 8) dX12_init_82 (by decide) ?_
  refine pm_newa2 (g := 8) (k := 11) (atype := .int) (t := 0) (a0 := (8, .inl (fun _ => 0))) kw_112 rfl rfl (fun _ => rfl) (by decide) (by decide) (by decide) dX12_init_84 (by decide) (by decide) (rfl) (pm_app8 rfl) (Nat.le_of_ble_eq_true rfl) (Nat.le_of_ble_eq_true rfl) (fun b11 h11 => ?_)
  rw [← h11 8 0 (by decide), ← h11 8 1 (by decide), ← h11 8 2 (by decide), ← h11 8 3 (by decide), ← h11 8 4 (by decide), ← h11 8 5 (by decide), ← h11 8 6 (by decide), ← h11 8 7 (by decide), ← h11 8 8 (by decide), ← h11 8 9 (by decide), ← h11 8 10 (by decide)]
  refine pm_putF (w2 := (_, _, _, _, _, _, _, _, [.inr (_, [_, _, _, _, _, _, _, _, _, _, _, _, _, _, _, _, _, _, _, _, _, _, _, _, _, _, _, _, _, _, _, _, _, _, _, _, _, _, _, _, _, _, _, _]), _, _, _, _, _, _, _, _, _, _, _])) fl_RX12_40_12 fF_12_17 rfl dX12_init_86 rfl rfl rfl (Nat.le_of_ble_eq_true rfl) rfl ?_
  refine pm_aload_n dX12_init_89 rfl rfl ?_
  refine pm_bipush (v := 8) dX12_init_90 (by decide) ?_
  refine pm_newa2 (g := 8) (k := 12) (atype := .int) (t := 0) (a0 := (8, .inl (fun _ => 0))) kw_112 rfl rfl (fun _ => rfl) (by decide) (by decide) (by decide) dX12_init_92 (by decide) (by decide) (rfl) (pm_app8 rfl) (Nat.le_of_ble_eq_true rfl) (Nat.le_of_ble_eq_true rfl) (fun b12 h12 => ?_)
  rw [← h12 8 0 (by decide), ← h12 8 1 (by decide), ← h12 8 2 (by decide), ← h12 8 3 (by decide), ← h12 8 4 (by decide), ← h12 8 5 (by decide), ← h12 8 6 (by decide), ← h12 8 7 (by decide), ← h12 8 8 (by decide), ← h12 8 9 (by decide), ← h12 8 10 (by decide), ← h12 8 11 (by decide)]
  refine pm_putF (w2 := (_, _, _, _, _, _, _, _, [.inr (_, [_, _, _, _, _, _, _, _, _, _, _, _, _, _, _, _, _, _, _, _, _, _, _, _, _, _, _, _, _, _, _, _, _, _, _, _, _, _, _, _, _, _, _, _]), _, _, _, _, _, _, _, _, _, _, _, _])) fl_RX12_43_12 fF_12_18 rfl dX12_init_94 rfl rfl rfl (Nat.le_of_ble_eq_true rfl) rfl ?_
  refine pm_aload_n dX12_init_97 rfl rfl ?_
  refine pm_bipush (v := 8) dX12_init_98 (by decide) ?_
  refine pm_newa2 (g := 8) (k := 13) (atype := .boolean) (t := 2) (a0 := (8, .inl (fun _ => 0))) kw_1091 rfl rfl (fun _ => rfl) (by decide) (by decide) (by decide) dX12_init_100 (by decide) (by decide) (rfl) (pm_app8 rfl) (Nat.le_of_ble_eq_true rfl) (Nat.le_of_ble_eq_true rfl) (fun b13 h13 => ?_)
  rw [← h13 8 0 (by decide), ← h13 8 1 (by decide), ← h13 8 2 (by decide), ← h13 8 3 (by decide), ← h13 8 4 (by decide), ← h13 8 5 (by decide), ← h13 8 6 (by decide), ← h13 8 7 (by decide), ← h13 8 8 (by decide), ← h13 8 9 (by decide), ← h13 8 10 (by decide), ← h13 8 11 (by decide), ← h13 8 12 (by decide)]
  refine pm_putF (w2 := (_, _, _, _, _, _, _, _, [.inr (_, [_, _, _, _, _, _, _, _, _, _, _, _, _, _, _, _, _, _, _, _, _, _, _, _, _, _, _, _, _, _, _, _, _, _, _, _, _, _, _, _, _, _, _, _]), _, _, _, _, _, _, _, _, _, _, _, _, _])) fl_RX12_46_12 fF_12_19 rfl dX12_init_102 rfl rfl rfl (Nat.le_of_ble_eq_true rfl) rfl ?_
  refine pm_aload_n dX12_init_105 rfl rfl ?_
  refine pm_bipush (v := 8) dX12_init_106 (by decide) ?_
  refine pm_newa2 (g := 8) (k := 14) (atype := .int) (t := 0) (a0 := (8, .inl (fun _ => 0))) kw_112 rfl rfl (fun _ => rfl) (by decide) (by decide) (by decide) dX12_init_108 (by decide) (by decide) (rfl) (pm_app8 rfl) (Nat.le_of_ble_eq_true rfl) (Nat.le_of_ble_eq_true rfl) (fun b14 h14 => ?_)
  rw [← h14 8 0 (by decide), ← h14 8 1 (by decide), ← h14 8 2 (by decide), ← h14 8 3 (by decide), ← h14 8 4 (by decide), ← h14 8 5 (by decide), ← h14 8 6 (by decide), ← h14 8 7 (by decide), ← h14 8 8 (by decide), ← h14 8 9 (by decide), ← h14 8 10 (by decide), ← h14 8 11 (by decide), ← h14 8 12 (by decide), ← h14 8 13 (by decide)]
  refine pm_putF (w2 := (_, _, _, _, _, _, _, _, [.inr (_, [_, _, _, _, _, _, _, _, _, _, _, _, _, _, _, _, _, _, _, _, _, _, _, _, _, _, _, _, _, _, _, _, _, _, _, _, _, _, _, _, _, _, _, _]), _, _, _, _, _, _, _, _, _, _, _, _, _, _])) fl_RX12_50_12 fF_12_20 rfl dX12_init_110 rfl rfl rfl (Nat.le_of_ble_eq_true rfl) rfl ?_
  refine pm_aload_n dX12_init_113 rfl rfl ?_
  refine pm_bipush (v := 10) dX12_init_114 (by decide) ?_
  refine pm_newa2 (g := 8) (k := 15) (atype := .int) (t := 0) (a0 := (10, .inl (fun _ => 0))) kw_112 rfl rfl (fun _ => rfl) (by decide) (by decide) (by decide) dX12_init_116 (by decide) (by decide) (rfl) (pm_app8 rfl) (Nat.le_of_ble_eq_true rfl) (Nat.le_of_ble_eq_true rfl) (fun b15 h15 => ?_)
  rw [← h15 8 0 (by decide), ← h15 8 1 (by decide), ← h15 8 2 (by decide), ← h15 8 3 (by decide), ← h15 8 4 (by decide), ← h15 8 5 (by decide), ← h15 8 6 (by decide), ← h15 8 7 (by decide), ← h15 8 8 (by decide), ← h15 8 9 (by decide), ← h15 8 10 (by decide), ← h15 8 11 (by decide), ← h15 8 12 (by decide), ← h15 8 13 (by decide), ← h15 8 14 (by decide)]
  refine pm_putF (w2 := (_, _, _, _, _, _, _, _, [.inr (_, [_, _, _, _, _, _, _, _, _, _, _, _, _, _, _, _, _, _, _, _, _, _, _, _, _, _, _, _, _, _, _, _, _, _, _, _, _, _, _, _, _, _, _, _]), _, _, _, _, _, _, _, _, _, _, _, _, _, _, _])) fl_RX12_53_12 fF_12_27 rfl dX12_init_118 rfl rfl rfl (Nat.le_of_ble_eq_true rfl) rfl ?_
  refine pm_aload_n dX12_init_121 rfl rfl ?_
  refine pm_bipush (v := 10) dX12_init_122 (by decide) ?_
  refine pm_newa2 (g := 8) (k := 16) (atype := .int) (t := 0) (a0 := (10, .inl (fun _ => 0))) kw_112 rfl rfl (fun _ => rfl) (by decide) (by decide) (by decide) dX12_init_124 (by decide) (by decide) (rfl) (pm_app8 rfl) (Nat.le_of_ble_eq_true rfl) (Nat.le_of_ble_eq_true rfl) (fun b16 h16 => ?_)
  rw [← h16 8 0 (by decide), ← h16 8 1 (by decide), ← h16 8 2 (by decide), ← h16 8 3 (by decide), ← h16 8 4 (by decide), ← h16 8 5 (by decide), ← h16 8 6 (by decide), ← h16 8 7 (by decide), ← h16 8 8 (by decide), ← h16 8 9 (by decide), ← h16 8 10 (by decide), ← h16 8 11 (by decide), ← h16 8 12 (by decide), ← h16 8 13 (by decide), ← h16 8 14 (by decide), ← h16 8 15 (by decide)]
  refine pm_putF (w2 := (_, _, _, _, _, _, _, _, [.inr (_, [_, _, _, _, _, _, _, _, _, _, _, _, _, _, _, _, _, _, _, _, _, _, _, _, _, _, _, _, _, _, _, _, _, _, _, _, _, _, _, _, _, _, _, _]), _, _, _, _, _, _, _, _, _, _, _, _, _, _, _, _])) fl_RX12_56_12 fF_12_28 rfl dX12_init_126 rfl rfl rfl (Nat.le_of_ble_eq_true rfl) rfl ?_
  refine pm_aload_n dX12_init_129 rfl rfl ?_
  refine pm_bipush (v := 8) dX12_init_130 (by decide) ?_
  refine pm_newa2 (g := 8) (k := 17) (atype := .int) (t := 0) (a0 := (8, .inl (fun _ => 0))) kw_112 rfl rfl (fun _ => rfl) (by decide) (by decide) (by decide) dX12_init_132 (by decide) (by decide) (rfl) (pm_app8 rfl) (Nat.le_of_ble_eq_true rfl) (Nat.le_of_ble_eq_true rfl) (fun b17 h17 => ?_)
  rw [← h17 8 0 (by decide), ← h17 8 1 (by decide), ← h17 8 2 (by decide), ← h17 8 3 (by decide), ← h17 8 4 (by decide), ← h17 8 5 (by decide), ← h17 8 6 (by decide), ← h17 8 7 (by decide), ← h17 8 8 (by decide), ← h17 8 9 (by decide), ← h17 8 10 (by decide), ← h17 8 11 (by decide), ← h17 8 12 (by decide), ← h17 8 13 (by decide), ← h17 8 14 (by decide), ← h17 8 15 (by decide), ← h17 8 16 (by decide)]
  refine pm_putF (w2 := (_, _, _, _, _, _, _, _, [.inr (_, [_, _, _, _, _, _, _, _, _, _, _, _, _, _, _, _, _, _, _, _, _, _, _, _, _, _, _, _, _, _, _, _, _, _, _, _, _, _, _, _, _, _, _, _]), _, _, _, _, _, _, _, _, _, _, _, _, _, _, _, _, _])) fl_RX12_59_12 fF_12_29 rfl dX12_init_134 rfl rfl rfl (Nat.le_of_ble_eq_true rfl) rfl ?_
  refine pm_aload_n dX12_init_137 rfl rfl ?_
  refine pm_bipush (v := 6) dX12_init_138 (by decide) ?_
  refine pm_newa2 (g := 8) (k := 18) (atype := .int) (t := 0) (a0 := (6, .inl (fun _ => 0))) kw_112 rfl rfl (fun _ => rfl) (by decide) (by decide) (by decide) dX12_init_140 (by decide) (by decide) (rfl) (pm_app8 rfl) (Nat.le_of_ble_eq_true rfl) (Nat.le_of_ble_eq_true rfl) (fun b18 h18 => ?_)
  rw [← h18 8 0 (by decide), ← h18 8 1 (by decide), ← h18 8 2 (by decide), ← h18 8 3 (by decide), ← h18 8 4 (by decide), ← h18 8 5 (by decide), ← h18 8 6 (by decide), ← h18 8 7 (by decide), ← h18 8 8 (by decide), ← h18 8 9 (by decide), ← h18 8 10 (by decide), ← h18 8 11 (by decide), ← h18 8 12 (by decide), ← h18 8 13 (by decide), ← h18 8 14 (by decide), ← h18 8 15 (by decide), ← h18 8 16 (by decide), ← h18 8 17 (by decide)]
  refine pm_putF (w2 := (_, _, _, _, _, _, _, _, [.inr (_, [_, _, _, _, _, _, _, _, _, _, _, _, _, _, _, _, _, _, _, _, _, _, _, _, _, _, _, _, _, _, _, _, _, _, _, _, _, _, _, _, _, _, _, _]), _, _, _, _, _, _, _, _, _, _, _, _, _, _, _, _, _, _])) fl_RX12_62_12 fF_12_32 rfl dX12_init_142 rfl rfl rfl (Nat.le_of_ble_eq_true rfl) rfl ?_
  refine pm_aload_n dX12_init_145 rfl rfl ?_
  refine pm_bipush (v := 8) dX12_init_146 (by decide) ?_
  refine pm_newa2 (g := 8) (k := 19) (atype := .int) (t := 0) (a0 := (8, .inl (fun _ => 0))) kw_112 rfl rfl (fun _ => rfl) (by decide) (by decide) (by decide) dX12_init_148 (by decide) (by decide) (rfl) (pm_app8 rfl) (Nat.le_of_ble_eq_true rfl) (Nat.le_of_ble_eq_true rfl) (fun b19 h19 => ?_)
  rw [← h19 8 0 (by decide), ← h19 8 1 (by decide), ← h19 8 2 (by decide), ← h19 8 3 (by decide), ← h19 8 4 (by decide), ← h19 8 5 (by decide), ← h19 8 6 (by decide), ← h19 8 7 (by decide), ← h19 8 8 (by decide), ← h19 8 9 (by decide), ← h19 8 10 (by decide), ← h19 8 11 (by decide), ← h19 8 12 (by decide), ← h19 8 13 (by decide), ← h19 8 14 (by decide), ← h19 8 15 (by decide), ← h19 8 16 (by decide), ← h19 8 17 (by decide), ← h19 8 18 (by decide)]
  refine pm_putF (w2 := (_, _, _, _, _, _, _, _, [.inr (_, [_, _, _, _, _, _, _, _, _, _, _, _, _, _, _, _, _, _, _, _, _, _, _, _, _, _, _, _, _, _, _, _, _, _, _, _, _, _, _, _, _, _, _, _]), _, _, _, _, _, _, _, _, _, _, _, _, _, _, _, _, _, _, _])) fl_RX12_65_12 fF_12_35 rfl dX12_init_150 rfl rfl rfl (Nat.le_of_ble_eq_true rfl) rfl ?_
  refine pm_aload_n dX12_init_153 rfl rfl ?_
  refine pm_bipush (v := 8) dX12_init_154 (by decide) ?_
  refine pm_newa2 (g := 8) (k := 20) (atype := .int) (t := 0) (a0 := (8, .inl (fun _ => 0))) kw_112 rfl rfl (fun _ => rfl) (by decide) (by decide) (by decide) dX12_init_156 (by decide) (by decide) (rfl) (pm_app8 rfl) (Nat.le_of_ble_eq_true rfl) (Nat.le_of_ble_eq_true rfl) (fun b20 h20 => ?_)
  rw [← h20 8 0 (by decide), ← h20 8 1 (by decide), ← h20 8 2 (by decide), ← h20 8 3 (by decide), ← h20 8 4 (by decide), ← h20 8 5 (by decide), ← h20 8 6 (by decide), ← h20 8 7 (by decide), ← h20 8 8 (by decide), ← h20 8 9 (by decide), ← h20 8 10 (by decide), ← h20 8 11 (by decide), ← h20 8 12 (by decide), ← h20 8 13 (by decide), ← h20 8 14 (by decide), ← h20 8 15 (by decide), ← h20 8 16 (by decide), ← h20 8 17 (by decide), ← h20 8 18 (by decide), ← h20 8 19 (by decide)]
  refine pm_putF (w2 := (_, _, _, _, _, _, _, _, [.inr (_, [_, _, _, _, _, _, _, _, _, _, _, _, _, _, _, _, _, _, _, _, _, _, _, _, _, _, _, _, _, _, _, _, _, _, _, _, _, _, _, _, _, _, _, _]), _, _, _, _, _, _, _, _, _, _, _, _, _, _, _, _, _, _, _, _])) fl_RX12_68_12 fF_12_36 rfl dX12_init_158 rfl rfl rfl (Nat.le_of_ble_eq_true rfl) rfl ?_
  refine pm_aload_n dX12_init_161 rfl rfl ?_
  refine pm_bipush (v := 8) dX12_init_162 (by decide) ?_
  refine pm_newa2 (g := 8) (k := 21) (atype := .int) (t := 0) (a0 := (8, .inl (fun _ => 0))) kw_112 rfl rfl (fun _ => rfl) (by decide) (by decide) (by decide) dX12_init_164 (by decide) (by decide) (rfl) (pm_app8 rfl) (Nat.le_of_ble_eq_true rfl) (Nat.le_of_ble_eq_true rfl) (fun b21 h21 => ?_)
  rw [← h21 8 0 (by decide), ← h21 8 1 (by decide), ← h21 8 2 (by decide), ← h21 8 3 (by decide), ← h21 8 4 (by decide), ← h21 8 5 (by decide), ← h21 8 6 (by decide), ← h21 8 7 (by decide), ← h21 8 8 (by decide), ← h21 8 9 (by decide), ← h21 8 10 (by decide), ← h21 8 11 (by decide), ← h21 8 12 (by decide), ← h21 8 13 (by decide), ← h21 8 14 (by decide), ← h21 8 15 (by decide), ← h21 8 16 (by decide), ← h21 8 17 (by decide), ← h21 8 18 (by decide), ← h21 8 19 (by decide), ← h21 8 20 (by decide)]
  refine pm_putF (w2 := (_, _, _, _, _, _, _, _, [.inr (_, [_, _, _, _, _, _, _, _, _, _, _, _, _, _, _, _, _, _, _, _, _, _, _, _, _, _, _, _, _, _, _, _, _, _, _, _, _, _, _, _, _, _, _, _]), _, _, _, _, _, _, _, _, _, _, _, _, _, _, _, _, _, _, _, _, _])) fl_RX12_71_12 fF_12_37 rfl dX12_init_166 rfl rfl rfl (Nat.le_of_ble_eq_true rfl) rfl ?_
  refine pm_aload_n dX12_init_169 rfl rfl ?_
  refine pm_bipush (v := 32) dX12_init_170 (by decide) ?_
  refine pm_newa2 (g := 8) (k := 22) (atype := .int) (t := 0) (a0 := (32, .inl (fun _ => 0))) kw_112 rfl rfl (fun _ => rfl) (by decide) (by decide) (by decide) dX12_init_172 (by decide) (by decide) (rfl) (pm_app8 rfl) (Nat.le_of_ble_eq_true rfl) (Nat.le_of_ble_eq_true rfl) (fun b22 h22 => ?_)
  rw [← h22 8 0 (by decide), ← h22 8 1 (by decide), ← h22 8 2 (by decide), ← h22 8 3 (by decide), ← h22 8 4 (by decide), ← h22 8 5 (by decide), ← h22 8 6 (by decide), ← h22 8 7 (by decide), ← h22 8 8 (by decide), ← h22 8 9 (by decide), ← h22 8 10 (by decide), ← h22 8 11 (by decide), ← h22 8 12 (by decide), ← h22 8 13 (by decide), ← h22 8 14 (by decide), ← h22 8 15 (by decide), ← h22 8 16 (by decide), ← h22 8 17 (by decide), ← h22 8 18 (by decide), ← h22 8 19 (by decide), ← h22 8 20 (by decide), ← h22 8 21 (by decide)]
  refine pm_putF (w2 := (_, _, _, _, _, _, _, _, [.inr (_, [_, _, _, _, _, _, _, _, _, _, _, _, _, _, _, _, _, _, _, _, _, _, _, _, _, _, _, _, _, _, _, _, _, _, _, _, _, _, _, _, _, _, _, _]), _, _, _, _, _, _, _, _, _, _, _, _, _, _, _, _, _, _, _, _, _, _])) fl_RX12_74_12 fF_12_38 rfl dX12_init_174 rfl rfl rfl (Nat.le_of_ble_eq_true rfl) rfl ?_
  refine pm_aload_n dX12_init_177 rfl rfl ?_
  refine pm_bipush (v := 20) dX12_init_178 (by decide) ?_
  refine pm_newa2 (g := 8) (k := 23) (atype := .int) (t := 0) (a0 := (20, .inl (fun _ => 0))) kw_112 rfl rfl (fun _ => rfl) (by decide) (by decide) (by decide) dX12_init_180 (by decide) (by decide) (rfl) (pm_app8 rfl) (Nat.le_of_ble_eq_true rfl) (Nat.le_of_ble_eq_true rfl) (fun b23 h23 => ?_)
  rw [← h23 8 0 (by decide), ← h23 8 1 (by decide), ← h23 8 2 (by decide), ← h23 8 3 (by decide), ← h23 8 4 (by decide), ← h23 8 5 (by decide), ← h23 8 6 (by decide), ← h23 8 7 (by decide), ← h23 8 8 (by decide), ← h23 8 9 (by decide), ← h23 8 10 (by decide), ← h23 8 11 (by decide), ← h23 8 12 (by decide), ← h23 8 13 (by decide), ← h23 8 14 (by decide), ← h23 8 15 (by decide), ← h23 8 16 (by decide), ← h23 8 17 (by decide), ← h23 8 18 (by decide), ← h23 8 19 (by decide), ← h23 8 20 (by decide), ← h23 8 21 (by decide), ← h23 8 22 (by decide)]
  refine pm_putF (w2 := (_, _, _, _, _, _, _, _, [.inr (_, [_, _, _, _, _, _, _, _, _, _, _, _, _, _, _, _, _, _, _, _, _, _, _, _, _, _, _, _, _, _, _, _, _, _, _, _, _, _, _, _, _, _, _, _]), _, _, _, _, _, _, _, _, _, _, _, _, _, _, _, _, _, _, _, _, _, _, _])) fl_RX12_77_12 fF_12_39 rfl dX12_init_182 rfl rfl rfl (Nat.le_of_ble_eq_true rfl) rfl ?_
  refine pm_iconst (v := 0) dX12_init_185 (by decide) ?_
  refine pm_istore_n (lv2 := [(1, _), (0, _)]) dX12_init_186 rfl (Nat.le_of_ble_eq_true rfl) rfl ?_
  have hag : ∀ g1 k1, ¬ (g1 = 8 ∧ 1 ≤ k1) → b23 g1 k1 = ad g1 k1 := fun g1 k1 hn => (((((((((((((((((((((((h23 g1 k1 (fun z => hn ⟨z.1, by have := z.2; omega⟩)).trans (h22 g1 k1 (fun z => hn ⟨z.1, by have := z.2; omega⟩))).trans (h21 g1 k1 (fun z => hn ⟨z.1, by have := z.2; omega⟩))).trans (h20 g1 k1 (fun z => hn ⟨z.1, by have := z.2; omega⟩))).trans (h19 g1 k1 (fun z => hn ⟨z.1, by have := z.2; omega⟩))).trans (h18 g1 k1 (fun z => hn ⟨z.1, by have := z.2; omega⟩))).trans (h17 g1 k1 (fun z => hn ⟨z.1, by have := z.2; omega⟩))).trans (h16 g1 k1 (fun z => hn ⟨z.1, by have := z.2; omega⟩))).trans (h15 g1 k1 (fun z => hn ⟨z.1, by have := z.2; omega⟩))).trans (h14 g1 k1 (fun z => hn ⟨z.1, by have := z.2; omega⟩))).trans (h13 g1 k1 (fun z => hn ⟨z.1, by have := z.2; omega⟩))).trans (h12 g1 k1 (fun z => hn ⟨z.1, by have := z.2; omega⟩))).trans (h11 g1 k1 (fun z => hn ⟨z.1, by have := z.2; omega⟩))).trans (h10 g1 k1 (fun z => hn ⟨z.1, by have := z.2; omega⟩))).trans (h9 g1 k1 (fun z => hn ⟨z.1, by have := z.2; omega⟩))).trans (h8 g1 k1 (fun z => hn ⟨z.1, by have := z.2; omega⟩))).trans (h7 g1 k1 (fun z => hn ⟨z.1, by have := z.2; omega⟩))).trans (h6 g1 k1 (fun z => hn ⟨z.1, by have := z.2; omega⟩))).trans (h5 g1 k1 (fun z => hn ⟨z.1, by have := z.2; omega⟩))).trans (h4 g1 k1 (fun z => hn ⟨z.1, by have := z.2; omega⟩))).trans (h3 g1 k1 (fun z => hn ⟨z.1, by have := z.2; omega⟩))).trans (h2 g1 k1 (fun z => hn ⟨z.1, by have := z.2; omega⟩))).trans (h1 g1 k1 (fun z => hn ⟨z.1, by have := z.2; omega⟩)))
  suffices H : ∀ i, i ≤ 8 → ∀ t, t = th_pf (fun _ => -1) (fun _ => 0) i → pm_W l G m_X12_init b23 187 [(1, .int (nI i)), (0, .ref (b23 8 0))] [] (a0, a1, a2, a3, a4, a5, a6, a7, (th_mp b23 (fun _ => 0) (va_up th_A0 14 t) (fun _ => 0) (fun _ _ => 0) 0)) 23 224 Q from H 0 (by decide) (fun _ => 0) (th_pf0 _ _).symm
  refine th_loop _ ?_
  intro i hi k t ht
  refine pm_iload_n dX12_init_187 rfl rfl ?_
  refine pm_bipush (v := 8) dX12_init_188 (by decide) ?_
  refine pm_icmp_ge (tgt := 206) dX12_init_190 (by decide) (fun c_190 => ?_) (fun c_190 => ?_)
  · refine pm_vret dX12_init_206 rfl rfl rfl ?_
    have he : i = 8 := by
      rw [show (8 : Int32) = nI 8 from rfl, nI_leI (by decide) (by omega)] at c_190
      omega
    subst he ht
    exact hQ b23 hag
  · have hlt : i < 8 := by
      rw [show (8 : Int32) = nI 8 from rfl, nI_leI (by decide) (by omega)] at c_190
      omega
    refine pm_aload_n dX12_init_193 rfl rfl ?_
    refine pm_get fl_RX12_50_12 dX12_init_194 rfl rfl ?_
    refine pm_iload_n dX12_init_197 rfl rfl ?_
    refine pm_iconst (v := (-1)) dX12_init_198 (by decide) ?_
    refine pm_iast (w2 := (_, _, _, _, _, _, _, _, [_, _, _, _, _, _, _, _, _, _, _, _, _, _, _, _, _, _, _, _, _, _, _, _])) dX12_init_199 rfl (th_in hlt (by decide)) rfl ?_
    rw [th_cl (by omega)]
    refine pm_iinc (lv2 := [(1, _), (0, _)]) dX12_init_200 rfl (nI_1 i) (Nat.le_of_ble_eq_true rfl) rfl ?_
    refine pm_goto (tgt := 187) dX12_init_203 (by decide) ?_
    refine pm_pick [0, 1] rfl ?_
    exact k hlt (upd t i (-1)) (by rw [ht]; exact th_pfs (fun _ => -1) (fun _ => 0) i)

