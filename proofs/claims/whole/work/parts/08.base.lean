-- null in locals and on the stack
section PM3
variable {l : Launch} {G : pm_G} {M : pm_M} {ad : Nat → Nat → Nat} {pc : Nat} {lv : List (Nat × Value)} {st rest : List Value} {w : pm_V} {cs ss : Nat} {Q : pm_T}
theorem pm_set_set (w : pm_V) (g k : Nat) (a b : pm_A) : pm_set (pm_set w g k a) g k b = pm_set w g k b := by
  obtain ⟨a0, a1, a2, a3, a4, a5, a6, a7, a8⟩ := w
  match g with
  | 0 => simp [pm_set]
  | 1 => simp [pm_set, bx_uu]
  | 2 => simp [pm_set, bx_uu]
  | 3 => simp [pm_set]
  | 4 => simp [pm_set]
  | 5 => simp [pm_set]
  | 6 => simp [pm_set]
  | 7 => simp [pm_set]
  | 8 => simp [pm_set]
  | n + 9 => simp [pm_set]
def pm_kc : Nat → Nat
  | 0 => 4
  | 1 => 5
  | 2 => 0
  | 3 => 8
  | _ => 7
end PM3

section PM4
variable {l : Launch} {G : pm_G} {M : pm_M} {ad : Nat → Nat → Nat} {pc : Nat} {lv : List (Nat × Value)} {st rest : List Value} {w : pm_V} {cs ss : Nat} {Q : pm_T}
theorem pm_aconst_null (hd : decode M.2.1 pc = .ok (.aconst_null, 1)) (k : pm_W l G M ad (pc + 1) lv (.null :: st) w cs ss Q) : pm_W l G M ad pc lv (st) w cs ss Q := fun p e s m args below meth c X H locs ls hR hS hl => lv_null X.1 X.2.1 hd (k p e s m args below meth c X H locs ls hR hS hl)
theorem pm_nload_n {k : Fin 4} {i : Nat} (hd : decode M.2.1 pc = .ok (.aload_n k, 1)) (hi : (k : Nat) = i) (hx : pm_at lv i = some .null) (kk : pm_W l G M ad (pc + 1) lv (.null :: st) w cs ss Q) : pm_W l G M ad pc lv (st) w cs ss Q := fun p e s m args below meth c X H locs ls hR hS hl => lv_aload_nN X.1 X.2.1 hd hi (pm_slot hl hx) (kk p e s m args below meth c X H locs ls hR hS hl)
theorem pm_nload {i : Nat} (hd : decode M.2.1 pc = .ok (.aload i, 2)) (hx : pm_at lv i = some .null) (kk : pm_W l G M ad (pc + 2) lv (.null :: st) w cs ss Q) : pm_W l G M ad pc lv (st) w cs ss Q := fun p e s m args below meth c X H locs ls hR hS hl => lv_aloadN X.1 X.2.1 hd (pm_slot hl hx) (kk p e s m args below meth c X H locs ls hR hS hl)
theorem pm_nstore_n {k : Fin 4} {i : Nat} {lv2 : List (Nat × Value)} (hd : decode M.2.1 pc = .ok (.astore_n k, 1)) (hi : (k : Nat) = i) (hn : i < M.2.2.1) (h2 : (i, Value.null) :: lv.filter (fun q => !(q.1 == i) && !(q.1 + 1 == i && q.2.category == 2)) = lv2) (kk : pm_W l G M ad (pc + 1) lv2 (st) w cs ss Q) : pm_W l G M ad pc lv (.null :: st) w cs ss Q := fun p e s m args below meth c X H locs ls hR hS hl => lv_astore_nN X.1 X.2.1 hd hi hl hn h2 (fun ls2 hl2 => kk p e s m args below meth c X H locs ls2 hR hS hl2)
theorem pm_nstore {i : Nat} {lv2 : List (Nat × Value)} (hd : decode M.2.1 pc = .ok (.astore i, 2)) (hn : i < M.2.2.1) (h2 : (i, Value.null) :: lv.filter (fun q => !(q.1 == i) && !(q.1 + 1 == i && q.2.category == 2)) = lv2) (kk : pm_W l G M ad (pc + 2) lv2 (st) w cs ss Q) : pm_W l G M ad pc lv (.null :: st) w cs ss Q := fun p e s m args below meth c X H locs ls hR hS hl => lv_astoreN X.1 X.2.1 hd hl hn h2 (fun ls2 hl2 => kk p e s m args below meth c X H locs ls2 hR hS hl2)
end PM4
theorem fn_RX4_15 (k : Nat) : pm_FL RX4 15 (pm_kc k) 0 := match k with
  | 0 => fl_RX4_15_4
  | 1 => fl_RX4_15_5
  | 2 => fl_RX4_15_0
  | 3 => fl_RX4_15_8
  | n + 4 => fl_RX4_15_7
theorem fn_RX1_55 (k : Nat) : pm_FL RX1 55 (pm_kc k) 0 := match k with
  | 0 => fl_RX1_55_4
  | 1 => fl_RX1_55_5
  | 2 => fl_RX1_55_0
  | 3 => fl_RX1_55_8
  | n + 4 => fl_RX1_55_7
theorem fn_RX2_39 (k : Nat) : pm_FL RX2 39 (pm_kc k) 0 := match k with
  | 0 => fl_RX2_39_4
  | 1 => fl_RX2_39_5
  | 2 => fl_RX2_39_0
  | 3 => fl_RX2_39_8
  | n + 4 => fl_RX2_39_7
theorem fn_RX9_55 (k : Nat) : pm_FL RX9 55 (pm_kc k) 0 := match k with
  | 0 => fl_RX9_55_4
  | 1 => fl_RX9_55_5
  | 2 => fl_RX9_55_0
  | 3 => fl_RX9_55_8
  | n + 4 => fl_RX9_55_7
theorem fn_RX3_43 (k : Nat) : pm_FL RX3 43 (pm_kc k) 0 := match k with
  | 0 => fl_RX3_43_4
  | 1 => fl_RX3_43_5
  | 2 => fl_RX3_43_0
  | 3 => fl_RX3_43_8
  | n + 4 => fl_RX3_43_7
theorem fn_RX4_19 (k : Nat) : pm_FL RX4 19 (pm_kc k) 1 := match k with
  | 0 => fl_RX4_19_4
  | 1 => fl_RX4_19_5
  | 2 => fl_RX4_19_0
  | 3 => fl_RX4_19_8
  | n + 4 => fl_RX4_19_7
theorem fn_RX0_9 (k : Nat) : pm_FL RX0 9 (pm_kc k) 1 := match k with
  | 0 => fl_RX0_9_4
  | 1 => fl_RX0_9_5
  | 2 => fl_RX0_9_0
  | 3 => fl_RX0_9_8
  | n + 4 => fl_RX0_9_7
theorem fn_RX5_9 (k : Nat) : pm_FL RX5 9 (pm_kc k) 1 := match k with
  | 0 => fl_RX5_9_4
  | 1 => fl_RX5_9_5
  | 2 => fl_RX5_9_0
  | 3 => fl_RX5_9_8
  | n + 4 => fl_RX5_9_7
theorem fn_RX8_9 (k : Nat) : pm_FL RX8 9 (pm_kc k) 1 := match k with
  | 0 => fl_RX8_9_4
  | 1 => fl_RX8_9_5
  | 2 => fl_RX8_9_0
  | 3 => fl_RX8_9_8
  | n + 4 => fl_RX8_9_7
theorem fn_RX4_22 (k : Nat) : pm_FL RX4 22 (pm_kc k) 2 := match k with
  | 0 => fl_RX4_22_4
  | 1 => fl_RX4_22_5
  | 2 => fl_RX4_22_0
  | 3 => fl_RX4_22_8
  | n + 4 => fl_RX4_22_7
theorem fn_RX3_28 (k : Nat) : pm_FL RX3 28 (pm_kc k) 2 := match k with
  | 0 => fl_RX3_28_4
  | 1 => fl_RX3_28_5
  | 2 => fl_RX3_28_0
  | 3 => fl_RX3_28_8
  | n + 4 => fl_RX3_28_7
theorem fn_RX1_43 (k : Nat) : pm_FL RX1 43 (pm_kc k) 2 := match k with
  | 0 => fl_RX1_43_4
  | 1 => fl_RX1_43_5
  | 2 => fl_RX1_43_0
  | 3 => fl_RX1_43_8
  | n + 4 => fl_RX1_43_7
theorem fn_RX11_114 (k : Nat) : pm_FL RX11 114 (pm_kc k) 2 := match k with
  | 0 => fl_RX11_114_4
  | 1 => fl_RX11_114_5
  | 2 => fl_RX11_114_0
  | 3 => fl_RX11_114_8
  | n + 4 => fl_RX11_114_7
theorem fn_RX4_25 (k : Nat) : pm_FL RX4 25 (pm_kc k) 3 := match k with
  | 0 => fl_RX4_25_4
  | 1 => fl_RX4_25_5
  | 2 => fl_RX4_25_0
  | 3 => fl_RX4_25_8
  | n + 4 => fl_RX4_25_7
theorem fn_RX9_33 (k : Nat) : pm_FL RX9 33 (pm_kc k) 3 := match k with
  | 0 => fl_RX9_33_4
  | 1 => fl_RX9_33_5
  | 2 => fl_RX9_33_0
  | 3 => fl_RX9_33_8
  | n + 4 => fl_RX9_33_7
theorem fn_RX3_36 (k : Nat) : pm_FL RX3 36 (pm_kc k) 3 := match k with
  | 0 => fl_RX3_36_4
  | 1 => fl_RX3_36_5
  | 2 => fl_RX3_36_0
  | 3 => fl_RX3_36_8
  | n + 4 => fl_RX3_36_7
theorem fn_RX4_31 (k : Nat) : pm_FL RX4 31 (pm_kc k) 4 := match k with
  | 0 => fl_RX4_31_4
  | 1 => fl_RX4_31_5
  | 2 => fl_RX4_31_0
  | 3 => fl_RX4_31_8
  | n + 4 => fl_RX4_31_7
theorem fn_RX11_152 (k : Nat) : pm_FL RX11 152 (pm_kc k) 4 := match k with
  | 0 => fl_RX11_152_4
  | 1 => fl_RX11_152_5
  | 2 => fl_RX11_152_0
  | 3 => fl_RX11_152_8
  | n + 4 => fl_RX11_152_7
theorem fn_RX4_28 (k : Nat) : pm_FL RX4 28 (pm_kc k) 5 := match k with
  | 0 => fl_RX4_28_4
  | 1 => fl_RX4_28_5
  | 2 => fl_RX4_28_0
  | 3 => fl_RX4_28_8
  | n + 4 => fl_RX4_28_7
theorem fn_RX2_28 (k : Nat) : pm_FL RX2 28 (pm_kc k) 5 := match k with
  | 0 => fl_RX2_28_4
  | 1 => fl_RX2_28_5
  | 2 => fl_RX2_28_0
  | 3 => fl_RX2_28_8
  | n + 4 => fl_RX2_28_7
theorem fn_RX1_15 (k : Nat) : pm_FL RX1 15 (pm_kc k) 6 := match k with
  | 0 => fl_RX1_15_4
  | 1 => fl_RX1_15_5
  | 2 => fl_RX1_15_0
  | 3 => fl_RX1_15_8
  | n + 4 => fl_RX1_15_7
theorem fn_RX4_44 (k : Nat) : pm_FL RX4 44 (pm_kc k) 6 := match k with
  | 0 => fl_RX4_44_4
  | 1 => fl_RX4_44_5
  | 2 => fl_RX4_44_0
  | 3 => fl_RX4_44_8
  | n + 4 => fl_RX4_44_7
theorem fn_RX11_142 (k : Nat) : pm_FL RX11 142 (pm_kc k) 6 := match k with
  | 0 => fl_RX11_142_4
  | 1 => fl_RX11_142_5
  | 2 => fl_RX11_142_0
  | 3 => fl_RX11_142_8
  | n + 4 => fl_RX11_142_7
theorem fn_RX4_47 (k : Nat) : pm_FL RX4 47 (pm_kc k) 7 := match k with
  | 0 => fl_RX4_47_4
  | 1 => fl_RX4_47_5
  | 2 => fl_RX4_47_0
  | 3 => fl_RX4_47_8
  | n + 4 => fl_RX4_47_7
theorem fn_RX11_127 (k : Nat) : pm_FL RX11 127 (pm_kc k) 7 := match k with
  | 0 => fl_RX11_127_4
  | 1 => fl_RX11_127_5
  | 2 => fl_RX11_127_0
  | 3 => fl_RX11_127_8
  | n + 4 => fl_RX11_127_7
theorem fn_RX4_9 (k : Nat) : pm_FL RX4 9 (pm_kc k) 8 := match k with
  | 0 => fl_RX4_9_4
  | 1 => fl_RX4_9_5
  | 2 => fl_RX4_9_0
  | 3 => fl_RX4_9_8
  | n + 4 => fl_RX4_9_7
theorem fn_RX3_59 (k : Nat) : pm_FL RX3 59 (pm_kc k) 8 := match k with
  | 0 => fl_RX3_59_4
  | 1 => fl_RX3_59_5
  | 2 => fl_RX3_59_0
  | 3 => fl_RX3_59_8
  | n + 4 => fl_RX3_59_7
theorem fn_RX11_159 (k : Nat) : pm_FL RX11 159 (pm_kc k) 8 := match k with
  | 0 => fl_RX11_159_4
  | 1 => fl_RX11_159_5
  | 2 => fl_RX11_159_0
  | 3 => fl_RX11_159_8
  | n + 4 => fl_RX11_159_7
theorem fn_RX4_55 (k : Nat) : pm_FL RX4 55 (pm_kc k) 9 := match k with
  | 0 => fl_RX4_55_4
  | 1 => fl_RX4_55_5
  | 2 => fl_RX4_55_0
  | 3 => fl_RX4_55_8
  | n + 4 => fl_RX4_55_7
theorem fn_RX4_58 (k : Nat) : pm_FL RX4 58 (pm_kc k) 10 := match k with
  | 0 => fl_RX4_58_4
  | 1 => fl_RX4_58_5
  | 2 => fl_RX4_58_0
  | 3 => fl_RX4_58_8
  | n + 4 => fl_RX4_58_7
theorem fn_RX4_61 (k : Nat) : pm_FL RX4 61 (pm_kc k) 11 := match k with
  | 0 => fl_RX4_61_4
  | 1 => fl_RX4_61_5
  | 2 => fl_RX4_61_0
  | 3 => fl_RX4_61_8
  | n + 4 => fl_RX4_61_7
theorem fn_RX4_64 (k : Nat) : pm_FL RX4 64 (pm_kc k) 12 := match k with
  | 0 => fl_RX4_64_4
  | 1 => fl_RX4_64_5
  | 2 => fl_RX4_64_0
  | 3 => fl_RX4_64_8
  | n + 4 => fl_RX4_64_7
theorem fpn_2 (k : Nat) : ∀ q : vw_C, vwCl[pm_kc k]? = some q → (q.2.1 2).2.2.2 = false ∧ parseFieldDescriptor (q.2.1 2).2.2.1 = some .int := match k with
  | 0 => fp_4_2
  | 1 => fp_5_2
  | 2 => fp_0_2
  | 3 => fp_8_2
  | n + 4 => fp_7_2
theorem fpn_3 (k : Nat) : ∀ q : vw_C, vwCl[pm_kc k]? = some q → (q.2.1 3).2.2.2 = false ∧ parseFieldDescriptor (q.2.1 3).2.2.1 = some .int := match k with
  | 0 => fp_4_3
  | 1 => fp_5_3
  | 2 => fp_0_3
  | 3 => fp_8_3
  | n + 4 => fp_7_3
theorem fpn_4 (k : Nat) : ∀ q : vw_C, vwCl[pm_kc k]? = some q → (q.2.1 4).2.2.2 = false ∧ parseFieldDescriptor (q.2.1 4).2.2.1 = some .int := match k with
  | 0 => fp_4_4
  | 1 => fp_5_4
  | 2 => fp_0_4
  | 3 => fp_8_4
  | n + 4 => fp_7_4
theorem fpn_5 (k : Nat) : ∀ q : vw_C, vwCl[pm_kc k]? = some q → (q.2.1 5).2.2.2 = false ∧ parseFieldDescriptor (q.2.1 5).2.2.1 = some .int := match k with
  | 0 => fp_4_5
  | 1 => fp_5_5
  | 2 => fp_0_5
  | 3 => fp_8_5
  | n + 4 => fp_7_5
theorem fpn_6 (k : Nat) : ∀ q : vw_C, vwCl[pm_kc k]? = some q → (q.2.1 6).2.2.2 = false ∧ parseFieldDescriptor (q.2.1 6).2.2.1 = some .int := match k with
  | 0 => fp_4_6
  | 1 => fp_5_6
  | 2 => fp_0_6
  | 3 => fp_8_6
  | n + 4 => fp_7_6
theorem fpn_7 (k : Nat) : ∀ q : vw_C, vwCl[pm_kc k]? = some q → (q.2.1 7).2.2.2 = false ∧ parseFieldDescriptor (q.2.1 7).2.2.1 = some .boolean := match k with
  | 0 => fp_4_7
  | 1 => fp_5_7
  | 2 => fp_0_7
  | 3 => fp_8_7
  | n + 4 => fp_7_7
theorem fpn_8 (k : Nat) : ∀ q : vw_C, vwCl[pm_kc k]? = some q → (q.2.1 8).2.2.2 = false ∧ parseFieldDescriptor (q.2.1 8).2.2.1 = some .int := match k with
  | 0 => fp_4_8
  | 1 => fp_5_8
  | 2 => fp_0_8
  | 3 => fp_8_8
  | n + 4 => fp_7_8
theorem fpn_9 (k : Nat) : ∀ q : vw_C, vwCl[pm_kc k]? = some q → (q.2.1 9).2.2.2 = false ∧ parseFieldDescriptor (q.2.1 9).2.2.1 = some .int := match k with
  | 0 => fp_4_9
  | 1 => fp_5_9
  | 2 => fp_0_9
  | 3 => fp_8_9
  | n + 4 => fp_7_9
theorem fpn_10 (k : Nat) : ∀ q : vw_C, vwCl[pm_kc k]? = some q → (q.2.1 10).2.2.2 = false ∧ parseFieldDescriptor (q.2.1 10).2.2.1 = some .int := match k with
  | 0 => fp_4_10
  | 1 => fp_5_10
  | 2 => fp_0_10
  | 3 => fp_8_10
  | n + 4 => fp_7_10
theorem fpn_11 (k : Nat) : ∀ q : vw_C, vwCl[pm_kc k]? = some q → (q.2.1 11).2.2.2 = false ∧ parseFieldDescriptor (q.2.1 11).2.2.1 = some .boolean := match k with
  | 0 => fp_4_11
  | 1 => fp_5_11
  | 2 => fp_0_11
  | 3 => fp_8_11
  | n + 4 => fp_7_11
theorem fpn_12 (k : Nat) : ∀ q : vw_C, vwCl[pm_kc k]? = some q → (q.2.1 12).2.2.2 = false ∧ parseFieldDescriptor (q.2.1 12).2.2.1 = some .int := match k with
  | 0 => fp_4_12
  | 1 => fp_5_12
  | 2 => fp_0_12
  | 3 => fp_8_12
  | n + 4 => fp_7_12
def pm_kr : Nat → vw_C
  | 0 => (RX4, TX4, 13)
  | 1 => (RX5, TX5, 13)
  | 2 => (RX0, TX0, 13)
  | 3 => (RX8, TX8, 13)
  | _ => (RX7, TX7, 13)

theorem kcl (k : Nat) : vwCl[pm_kc k]? = some (pm_kr k) := match k with
  | 0 => rfl
  | 1 => rfl
  | 2 => rfl
  | 3 => rfl
  | n + 4 => rfl

theorem kca (k : Nat) : (pm_kr k).1 = "ThirtyNine$Nut" ∨ Cond.castable (pm_kr k).1 "ThirtyNine$Nut" ∈ pm_nw := match k with
  | 0 => Or.inl rfl
  | 1 => Or.inr kw_1375
  | 2 => Or.inr kw_1376
  | 3 => Or.inr kw_1377
  | n + 4 => Or.inr kw_1378

theorem cn_RX11_110 {l : Launch} {G : pm_G} {M : pm_M} {ad : Nat → Nat → Nat} {pc : Nat} {lv : List (Nat × Value)} {st rest : List Value} {w : pm_V} {cs ss : Nat} {Q : pm_T} {g k kd : Nat} {As fs : List Value} (hd : decode M.2.1 pc = .ok (.invokevirtual 110, 3)) (hw : pm_get? w g k = some (.inr (pm_kc kd, fs))) (hst : st = As.reverse ++ .ref (ad g k) :: rest) (hr : (rest.map fun v => v.category).sum ≤ 8) (hrm : pm_rm M m_X4_begins cs ss) (hC : pm_C l G m_X4_begins (.ref (ad g k) :: As) ad w (fun ad' v w' => pm_W l G M ad' (pc + 3) lv (v.toList ++ rest) w' cs ss Q)) (hM : M.1.cls = RX11 := by rfl) (hn : As.length = 3 := by rfl) : pm_W l G M ad pc lv st w cs ss Q := by
  have hsel : Cond.selects (pm_kr kd).1 yX4_begins yX4_begins ∈ pm_tb := match kd with
    | 0 => kw_534
    | 1 => kw_537
    | 2 => kw_536
    | 3 => kw_539
    | n + 4 => kw_538
  exact pm_callU (M2 := m_X4_begins) ok_X4_begins (kcl kd) (by rw [hM]; exact kw_532) kw_535 kw_533 kw_540 ⟨by decide, by decide, by decide +kernel⟩ kw_533 hsel hd hw hn hst hr hrm hC
theorem cn_RX11_123 {l : Launch} {G : pm_G} {M : pm_M} {ad : Nat → Nat → Nat} {pc : Nat} {lv : List (Nat × Value)} {st rest : List Value} {w : pm_V} {cs ss : Nat} {Q : pm_T} {g k kd : Nat} {As fs : List Value} (hd : decode M.2.1 pc = .ok (.invokevirtual 123, 3)) (hw : pm_get? w g k = some (.inr (pm_kc kd, fs))) (hst : st = As.reverse ++ .ref (ad g k) :: rest) (hr : (rest.map fun v => v.category).sum ≤ 8) (hrm : pm_rm M m_X4_tell cs ss) (hC : pm_C l G m_X4_tell (.ref (ad g k) :: As) ad w (fun ad' v w' => pm_W l G M ad' (pc + 3) lv (v.toList ++ rest) w' cs ss Q)) (hM : M.1.cls = RX11 := by rfl) (hn : As.length = 1 := by rfl) : pm_W l G M ad pc lv st w cs ss Q := by
  have hsel : Cond.selects (pm_kr kd).1 yX4_tell yX4_tell ∈ pm_tb := match kd with
    | 0 => kw_558
    | 1 => kw_561
    | 2 => kw_560
    | 3 => kw_563
    | n + 4 => kw_562
  exact pm_callU (M2 := m_X4_tell) ok_X4_tell (kcl kd) (by rw [hM]; exact kw_556) kw_559 kw_557 kw_564 ⟨by decide, by decide, by decide +kernel⟩ kw_557 hsel hd hw hn hst hr hrm hC
theorem cn_RX11_131 {l : Launch} {G : pm_G} {M : pm_M} {ad : Nat → Nat → Nat} {pc : Nat} {lv : List (Nat × Value)} {st rest : List Value} {w : pm_V} {cs ss : Nat} {Q : pm_T} {g k kd : Nat} {As fs : List Value} (hd : decode M.2.1 pc = .ok (.invokevirtual 131, 3)) (hw : pm_get? w g k = some (.inr (pm_kc kd, fs))) (hst : st = As.reverse ++ .ref (ad g k) :: rest) (hr : (rest.map fun v => v.category).sum ≤ 8) (hrm : pm_rm M m_X4_breaks cs ss) (hC : pm_C l G m_X4_breaks (.ref (ad g k) :: As) ad w (fun ad' v w' => pm_W l G M ad' (pc + 3) lv (v.toList ++ rest) w' cs ss Q)) (hM : M.1.cls = RX11 := by rfl) (hn : As.length = 2 := by rfl) : pm_W l G M ad pc lv st w cs ss Q := by
  have hsel : Cond.selects (pm_kr kd).1 yX4_breaks yX4_breaks ∈ pm_tb := match kd with
    | 0 => kw_605
    | 1 => kw_608
    | 2 => kw_607
    | 3 => kw_610
    | n + 4 => kw_609
  exact pm_callU (M2 := m_X4_breaks) ok_X4_breaks (kcl kd) (by rw [hM]; exact kw_603) kw_606 kw_604 kw_611 ⟨by decide, by decide, by decide +kernel⟩ kw_604 hsel hd hw hn hst hr hrm hC
theorem cn_RX11_251 {l : Launch} {G : pm_G} {M : pm_M} {ad : Nat → Nat → Nat} {pc : Nat} {lv : List (Nat × Value)} {st rest : List Value} {w : pm_V} {cs ss : Nat} {Q : pm_T} {g k kd : Nat} {As fs : List Value} (hd : decode M.2.1 pc = .ok (.invokevirtual 251, 3)) (hw : pm_get? w g k = some (.inr (pm_kc kd, fs))) (hst : st = As.reverse ++ .ref (ad g k) :: rest) (hr : (rest.map fun v => v.category).sum ≤ 8) (hrm : pm_rm M m_X4_keep cs ss) (hC : pm_C l G m_X4_keep (.ref (ad g k) :: As) ad w (fun ad' v w' => pm_W l G M ad' (pc + 3) lv (v.toList ++ rest) w' cs ss Q)) (hM : M.1.cls = RX11 := by rfl) (hn : As.length = 0 := by rfl) : pm_W l G M ad pc lv st w cs ss Q := by
  have hsel : Cond.selects (pm_kr kd).1 yX4_keep yX4_keep ∈ pm_tb := match kd with
    | 0 => kw_875
    | 1 => kw_878
    | 2 => kw_877
    | 3 => kw_880
    | n + 4 => kw_879
  exact pm_callU (M2 := m_X4_keep) ok_X4_keep (kcl kd) (by rw [hM]; exact kw_873) kw_876 kw_874 kw_881 ⟨by decide, by decide, by decide +kernel⟩ kw_874 hsel hd hw hn hst hr hrm hC
theorem cn_RX11_255 {l : Launch} {G : pm_G} {M : pm_M} {ad : Nat → Nat → Nat} {pc : Nat} {lv : List (Nat × Value)} {st rest : List Value} {w : pm_V} {cs ss : Nat} {Q : pm_T} {g k kd : Nat} {As fs : List Value} (hd : decode M.2.1 pc = .ok (.invokevirtual 255, 3)) (hw : pm_get? w g k = some (.inr (pm_kc kd, fs))) (hst : st = As.reverse ++ .ref (ad g k) :: rest) (hr : (rest.map fun v => v.category).sum ≤ 8) (hrm : pm_rm M m_X4_goBack cs ss) (hC : pm_C l G m_X4_goBack (.ref (ad g k) :: As) ad w (fun ad' v w' => pm_W l G M ad' (pc + 3) lv (v.toList ++ rest) w' cs ss Q)) (hM : M.1.cls = RX11 := by rfl) (hn : As.length = 0 := by rfl) : pm_W l G M ad pc lv st w cs ss Q := by
  have hsel : Cond.selects (pm_kr kd).1 yX4_goBack yX4_goBack ∈ pm_tb := match kd with
    | 0 => kw_892
    | 1 => kw_895
    | 2 => kw_894
    | 3 => kw_897
    | n + 4 => kw_896
  exact pm_callU (M2 := m_X4_goBack) ok_X4_goBack (kcl kd) (by rw [hM]; exact kw_890) kw_893 kw_891 kw_898 ⟨by decide, by decide, by decide +kernel⟩ kw_891 hsel hd hw hn hst hr hrm hC
def pm_hd : Nat → Int32 → Int32
  | 0, h => h
  | 1, h => h + 1
  | 2, h => h + 2
  | 3, h => h + 3
  | _, _ => 0

def pm_kn : Nat → Int32
  | 0 => 0
  | 1 => 1
  | 2 => 2
  | 3 => 3
  | _ => 4

set_option maxHeartbeats 600000 in
set_option maxRecDepth 100000 in
theorem c_X4_hard {l : Launch} {G : pm_G} {ad : Nat → Nat → Nat} {w : pm_V} {g k : Nat} {fs : List Value} {h : Int32} {Q : pm_T} (hw : pm_get? w g k = some (.inr (4, fs))) (hf : fs[1]? = some (.int h)) (hQ : Q ad (some (.int (h))) w) : pm_C l G m_X4_hard [.ref (ad g k)] ad w Q := by
  refine pm_met (by decide) (Nat.le_of_ble_eq_true rfl) ?_
  refine pm_aload_n dX4_hard_0 rfl rfl ?_
  refine pm_get fl_RX4_19_4 dX4_hard_1 hw hf ?_
  refine pm_iret dX4_hard_4 rfl rfl rfl ?_
  exact hQ
set_option maxHeartbeats 600000 in
set_option maxRecDepth 100000 in
theorem c_X4_kind {l : Launch} {G : pm_G} {ad : Nat → Nat → Nat} {w : pm_V} {g k : Nat} {fs : List Value} {h : Int32} {Q : pm_T} (hw : pm_get? w g k = some (.inr (4, fs))) (hf : fs[1]? = some (.int h)) (hQ : Q ad (some (.int 0)) w) : pm_C l G m_X4_kind [.ref (ad g k)] ad w Q := by
  refine pm_met (by decide) (Nat.le_of_ble_eq_true rfl) ?_
  refine pm_iconst (v := 0) dX4_kind_0 (by decide) ?_
  refine pm_iret dX4_kind_1 rfl rfl rfl ?_
  exact hQ
set_option maxHeartbeats 600000 in
set_option maxRecDepth 100000 in
theorem c_X5_hard {l : Launch} {G : pm_G} {ad : Nat → Nat → Nat} {w : pm_V} {g k : Nat} {fs : List Value} {h : Int32} {Q : pm_T} (hw : pm_get? w g k = some (.inr (5, fs))) (hf : fs[1]? = some (.int h)) (hQ : Q ad (some (.int (h + 1))) w) : pm_C l G m_X5_hard [.ref (ad g k)] ad w Q := by
  refine pm_met (by decide) (Nat.le_of_ble_eq_true rfl) ?_
  refine pm_aload_n dX5_hard_0 rfl rfl ?_
  refine pm_get fl_RX5_9_5 dX5_hard_1 hw hf ?_
  refine pm_iconst (v := 1) dX5_hard_4 (by decide) ?_
  refine pm_iadd dX5_hard_5 ?_
  refine pm_iret dX5_hard_6 rfl rfl rfl ?_
  exact hQ
set_option maxHeartbeats 600000 in
set_option maxRecDepth 100000 in
theorem c_X5_kind {l : Launch} {G : pm_G} {ad : Nat → Nat → Nat} {w : pm_V} {g k : Nat} {fs : List Value} {h : Int32} {Q : pm_T} (hw : pm_get? w g k = some (.inr (5, fs))) (hf : fs[1]? = some (.int h)) (hQ : Q ad (some (.int 1)) w) : pm_C l G m_X5_kind [.ref (ad g k)] ad w Q := by
  refine pm_met (by decide) (Nat.le_of_ble_eq_true rfl) ?_
  refine pm_iconst (v := 1) dX5_kind_0 (by decide) ?_
  refine pm_iret dX5_kind_1 rfl rfl rfl ?_
  exact hQ
set_option maxHeartbeats 600000 in
set_option maxRecDepth 100000 in
theorem c_X0_hard {l : Launch} {G : pm_G} {ad : Nat → Nat → Nat} {w : pm_V} {g k : Nat} {fs : List Value} {h : Int32} {Q : pm_T} (hw : pm_get? w g k = some (.inr (0, fs))) (hf : fs[1]? = some (.int h)) (hQ : Q ad (some (.int (h + 2))) w) : pm_C l G m_X0_hard [.ref (ad g k)] ad w Q := by
  refine pm_met (by decide) (Nat.le_of_ble_eq_true rfl) ?_
  refine pm_aload_n dX0_hard_0 rfl rfl ?_
  refine pm_get fl_RX0_9_0 dX0_hard_1 hw hf ?_
  refine pm_iconst (v := 2) dX0_hard_4 (by decide) ?_
  refine pm_iadd dX0_hard_5 ?_
  refine pm_iret dX0_hard_6 rfl rfl rfl ?_
  exact hQ
set_option maxHeartbeats 600000 in
set_option maxRecDepth 100000 in
theorem c_X0_kind {l : Launch} {G : pm_G} {ad : Nat → Nat → Nat} {w : pm_V} {g k : Nat} {fs : List Value} {h : Int32} {Q : pm_T} (hw : pm_get? w g k = some (.inr (0, fs))) (hf : fs[1]? = some (.int h)) (hQ : Q ad (some (.int 2)) w) : pm_C l G m_X0_kind [.ref (ad g k)] ad w Q := by
  refine pm_met (by decide) (Nat.le_of_ble_eq_true rfl) ?_
  refine pm_iconst (v := 2) dX0_kind_0 (by decide) ?_
  refine pm_iret dX0_kind_1 rfl rfl rfl ?_
  exact hQ
set_option maxHeartbeats 600000 in
set_option maxRecDepth 100000 in
theorem c_X8_hard {l : Launch} {G : pm_G} {ad : Nat → Nat → Nat} {w : pm_V} {g k : Nat} {fs : List Value} {h : Int32} {Q : pm_T} (hw : pm_get? w g k = some (.inr (8, fs))) (hf : fs[1]? = some (.int h)) (hQ : Q ad (some (.int (h + 3))) w) : pm_C l G m_X8_hard [.ref (ad g k)] ad w Q := by
  refine pm_met (by decide) (Nat.le_of_ble_eq_true rfl) ?_
  refine pm_aload_n dX8_hard_0 rfl rfl ?_
  refine pm_get fl_RX8_9_8 dX8_hard_1 hw hf ?_
  refine pm_iconst (v := 3) dX8_hard_4 (by decide) ?_
  refine pm_iadd dX8_hard_5 ?_
  refine pm_iret dX8_hard_6 rfl rfl rfl ?_
  exact hQ
set_option maxHeartbeats 600000 in
set_option maxRecDepth 100000 in
theorem c_X8_kind {l : Launch} {G : pm_G} {ad : Nat → Nat → Nat} {w : pm_V} {g k : Nat} {fs : List Value} {h : Int32} {Q : pm_T} (hw : pm_get? w g k = some (.inr (8, fs))) (hf : fs[1]? = some (.int h)) (hQ : Q ad (some (.int 3)) w) : pm_C l G m_X8_kind [.ref (ad g k)] ad w Q := by
  refine pm_met (by decide) (Nat.le_of_ble_eq_true rfl) ?_
  refine pm_iconst (v := 3) dX8_kind_0 (by decide) ?_
  refine pm_iret dX8_kind_1 rfl rfl rfl ?_
  exact hQ
set_option maxHeartbeats 600000 in
set_option maxRecDepth 100000 in
theorem c_X7_hard {l : Launch} {G : pm_G} {ad : Nat → Nat → Nat} {w : pm_V} {g k : Nat} {fs : List Value} {h : Int32} {Q : pm_T} (hw : pm_get? w g k = some (.inr (7, fs))) (hf : fs[1]? = some (.int h)) (hQ : Q ad (some (.int (0))) w) : pm_C l G m_X7_hard [.ref (ad g k)] ad w Q := by
  refine pm_met (by decide) (Nat.le_of_ble_eq_true rfl) ?_
  refine pm_iconst (v := 0) dX7_hard_0 (by decide) ?_
  refine pm_iret dX7_hard_1 rfl rfl rfl ?_
  exact hQ
set_option maxHeartbeats 600000 in
set_option maxRecDepth 100000 in
theorem c_X7_kind {l : Launch} {G : pm_G} {ad : Nat → Nat → Nat} {w : pm_V} {g k : Nat} {fs : List Value} {h : Int32} {Q : pm_T} (hw : pm_get? w g k = some (.inr (7, fs))) (hf : fs[1]? = some (.int h)) (hQ : Q ad (some (.int 4)) w) : pm_C l G m_X7_kind [.ref (ad g k)] ad w Q := by
  refine pm_met (by decide) (Nat.le_of_ble_eq_true rfl) ?_
  refine pm_iconst (v := 4) dX7_kind_0 (by decide) ?_
  refine pm_iret dX7_kind_1 rfl rfl rfl ?_
  exact hQ
theorem cn_RX4_34 {l : Launch} {G : pm_G} {M : pm_M} {ad : Nat → Nat → Nat} {pc : Nat} {lv : List (Nat × Value)} {st rest : List Value} {w : pm_V} {cs ss : Nat} {Q : pm_T} {g k kd : Nat} {fs : List Value} {h : Int32} (hd : decode M.2.1 pc = .ok (.invokevirtual 34, 3)) (hw : pm_get? w g k = some (.inr (pm_kc kd, fs))) (hf : fs[1]? = some (.int h)) (hr : (rest.map fun v => v.category).sum ≤ 8) (hrm : (1 ≤ M.2.2.2.2.frames ∧ 20 ≤ M.2.2.2.2.locals) ∧ cs ≤ M.2.2.2.2.cells ∧ ss ≤ M.2.2.2.2.slots) (kk : pm_W l G M ad (pc + 3) lv (.int (pm_kn kd) :: rest) w cs ss Q) (hM : M.1.cls = RX4 := by rfl) : pm_W l G M ad pc lv (.ref (ad g k) :: rest) w cs ss Q := by
  match kd, hw, kk with
  | 0, hw, kk => exact pm_callU (M2 := m_X4_kind) (As := []) ok_X4_kind (ci := 4) (q := (RX4, TX4, 13)) rfl (by rw [hM]; exact kw_565) kw_568 kw_566 kw_581 ⟨by decide, by decide, by decide +kernel⟩ kw_566 kw_567 hd hw rfl rfl hr ⟨hrm.1, hrm.2⟩ (c_X4_kind hw hf kk)
  | 1, hw, kk => exact pm_callU (M2 := m_X5_kind) (As := []) ok_X5_kind (ci := 5) (q := (RX5, TX5, 13)) rfl (by rw [hM]; exact kw_565) kw_568 kw_566 kw_581 ⟨by decide, by decide, by decide +kernel⟩ kw_573 kw_572 hd hw rfl rfl hr ⟨hrm.1, hrm.2⟩ (c_X5_kind hw hf kk)
  | 2, hw, kk => exact pm_callU (M2 := m_X0_kind) (As := []) ok_X0_kind (ci := 0) (q := (RX0, TX0, 13)) rfl (by rw [hM]; exact kw_565) kw_568 kw_566 kw_581 ⟨by decide, by decide, by decide +kernel⟩ kw_570 kw_569 hd hw rfl rfl hr ⟨hrm.1, hrm.2⟩ (c_X0_kind hw hf kk)
  | 3, hw, kk => exact pm_callU (M2 := m_X8_kind) (As := []) ok_X8_kind (ci := 8) (q := (RX8, TX8, 13)) rfl (by rw [hM]; exact kw_565) kw_568 kw_566 kw_581 ⟨by decide, by decide, by decide +kernel⟩ kw_579 kw_578 hd hw rfl rfl hr ⟨hrm.1, hrm.2⟩ (c_X8_kind hw hf kk)
  | n + 4, hw, kk => exact pm_callU (M2 := m_X7_kind) (As := []) ok_X7_kind (ci := 7) (q := (RX7, TX7, 13)) rfl (by rw [hM]; exact kw_565) kw_568 kw_566 kw_581 ⟨by decide, by decide, by decide +kernel⟩ kw_576 kw_575 hd hw rfl rfl hr ⟨hrm.1, hrm.2⟩ (c_X7_kind hw hf kk)
theorem cn_RX4_41 {l : Launch} {G : pm_G} {M : pm_M} {ad : Nat → Nat → Nat} {pc : Nat} {lv : List (Nat × Value)} {st rest : List Value} {w : pm_V} {cs ss : Nat} {Q : pm_T} {g k kd : Nat} {fs : List Value} {h : Int32} (hd : decode M.2.1 pc = .ok (.invokevirtual 41, 3)) (hw : pm_get? w g k = some (.inr (pm_kc kd, fs))) (hf : fs[1]? = some (.int h)) (hr : (rest.map fun v => v.category).sum ≤ 8) (hrm : (1 ≤ M.2.2.2.2.frames ∧ 20 ≤ M.2.2.2.2.locals) ∧ cs ≤ M.2.2.2.2.cells ∧ ss ≤ M.2.2.2.2.slots) (kk : pm_W l G M ad (pc + 3) lv (.int (pm_hd kd h) :: rest) w cs ss Q) (hM : M.1.cls = RX4 := by rfl) : pm_W l G M ad pc lv (.ref (ad g k) :: rest) w cs ss Q := by
  match kd, hw, kk with
  | 0, hw, kk => exact pm_callU (M2 := m_X4_hard) (As := []) ok_X4_hard (ci := 4) (q := (RX4, TX4, 13)) rfl (by rw [hM]; exact kw_582) kw_585 kw_583 kw_598 ⟨by decide, by decide, by decide +kernel⟩ kw_583 kw_584 hd hw rfl rfl hr ⟨hrm.1, hrm.2⟩ (c_X4_hard hw hf kk)
  | 1, hw, kk => exact pm_callU (M2 := m_X5_hard) (As := []) ok_X5_hard (ci := 5) (q := (RX5, TX5, 13)) rfl (by rw [hM]; exact kw_582) kw_585 kw_583 kw_598 ⟨by decide, by decide, by decide +kernel⟩ kw_590 kw_589 hd hw rfl rfl hr ⟨hrm.1, hrm.2⟩ (c_X5_hard hw hf kk)
  | 2, hw, kk => exact pm_callU (M2 := m_X0_hard) (As := []) ok_X0_hard (ci := 0) (q := (RX0, TX0, 13)) rfl (by rw [hM]; exact kw_582) kw_585 kw_583 kw_598 ⟨by decide, by decide, by decide +kernel⟩ kw_587 kw_586 hd hw rfl rfl hr ⟨hrm.1, hrm.2⟩ (c_X0_hard hw hf kk)
  | 3, hw, kk => exact pm_callU (M2 := m_X8_hard) (As := []) ok_X8_hard (ci := 8) (q := (RX8, TX8, 13)) rfl (by rw [hM]; exact kw_582) kw_585 kw_583 kw_598 ⟨by decide, by decide, by decide +kernel⟩ kw_596 kw_595 hd hw rfl rfl hr ⟨hrm.1, hrm.2⟩ (c_X8_hard hw hf kk)
  | n + 4, hw, kk => exact pm_callU (M2 := m_X7_hard) (As := []) ok_X7_hard (ci := 7) (q := (RX7, TX7, 13)) rfl (by rw [hM]; exact kw_582) kw_585 kw_583 kw_598 ⟨by decide, by decide, by decide +kernel⟩ kw_593 kw_592 hd hw rfl rfl hr ⟨hrm.1, hrm.2⟩ (c_X7_hard hw hf kk)
theorem cn_RX1_70 {l : Launch} {G : pm_G} {M : pm_M} {ad : Nat → Nat → Nat} {pc : Nat} {lv : List (Nat × Value)} {st rest : List Value} {w : pm_V} {cs ss : Nat} {Q : pm_T} {g k kd : Nat} {fs : List Value} {h : Int32} (hd : decode M.2.1 pc = .ok (.invokevirtual 70, 3)) (hw : pm_get? w g k = some (.inr (pm_kc kd, fs))) (hf : fs[1]? = some (.int h)) (hr : (rest.map fun v => v.category).sum ≤ 8) (hrm : (1 ≤ M.2.2.2.2.frames ∧ 20 ≤ M.2.2.2.2.locals) ∧ cs ≤ M.2.2.2.2.cells ∧ ss ≤ M.2.2.2.2.slots) (kk : pm_W l G M ad (pc + 3) lv (.int (pm_hd kd h) :: rest) w cs ss Q) (hM : M.1.cls = RX1 := by rfl) : pm_W l G M ad pc lv (.ref (ad g k) :: rest) w cs ss Q := by
  match kd, hw, kk with
  | 0, hw, kk => exact pm_callU (M2 := m_X4_hard) (As := []) ok_X4_hard (ci := 4) (q := (RX4, TX4, 13)) rfl (by rw [hM]; exact kw_640) kw_585 kw_583 kw_598 ⟨by decide, by decide, by decide +kernel⟩ kw_583 kw_584 hd hw rfl rfl hr ⟨hrm.1, hrm.2⟩ (c_X4_hard hw hf kk)
  | 1, hw, kk => exact pm_callU (M2 := m_X5_hard) (As := []) ok_X5_hard (ci := 5) (q := (RX5, TX5, 13)) rfl (by rw [hM]; exact kw_640) kw_585 kw_583 kw_598 ⟨by decide, by decide, by decide +kernel⟩ kw_590 kw_589 hd hw rfl rfl hr ⟨hrm.1, hrm.2⟩ (c_X5_hard hw hf kk)
  | 2, hw, kk => exact pm_callU (M2 := m_X0_hard) (As := []) ok_X0_hard (ci := 0) (q := (RX0, TX0, 13)) rfl (by rw [hM]; exact kw_640) kw_585 kw_583 kw_598 ⟨by decide, by decide, by decide +kernel⟩ kw_587 kw_586 hd hw rfl rfl hr ⟨hrm.1, hrm.2⟩ (c_X0_hard hw hf kk)
  | 3, hw, kk => exact pm_callU (M2 := m_X8_hard) (As := []) ok_X8_hard (ci := 8) (q := (RX8, TX8, 13)) rfl (by rw [hM]; exact kw_640) kw_585 kw_583 kw_598 ⟨by decide, by decide, by decide +kernel⟩ kw_596 kw_595 hd hw rfl rfl hr ⟨hrm.1, hrm.2⟩ (c_X8_hard hw hf kk)
  | n + 4, hw, kk => exact pm_callU (M2 := m_X7_hard) (As := []) ok_X7_hard (ci := 7) (q := (RX7, TX7, 13)) rfl (by rw [hM]; exact kw_640) kw_585 kw_583 kw_598 ⟨by decide, by decide, by decide +kernel⟩ kw_593 kw_592 hd hw rfl rfl hr ⟨hrm.1, hrm.2⟩ (c_X7_hard hw hf kk)
theorem cn_RX11_308 {l : Launch} {G : pm_G} {M : pm_M} {ad : Nat → Nat → Nat} {pc : Nat} {lv : List (Nat × Value)} {st rest : List Value} {w : pm_V} {cs ss : Nat} {Q : pm_T} {g k kd : Nat} {fs : List Value} {h : Int32} (hd : decode M.2.1 pc = .ok (.invokevirtual 308, 3)) (hw : pm_get? w g k = some (.inr (pm_kc kd, fs))) (hf : fs[1]? = some (.int h)) (hr : (rest.map fun v => v.category).sum ≤ 8) (hrm : (1 ≤ M.2.2.2.2.frames ∧ 20 ≤ M.2.2.2.2.locals) ∧ cs ≤ M.2.2.2.2.cells ∧ ss ≤ M.2.2.2.2.slots) (kk : pm_W l G M ad (pc + 3) lv (.int (pm_hd kd h) :: rest) w cs ss Q) (hM : M.1.cls = RX11 := by rfl) : pm_W l G M ad pc lv (.ref (ad g k) :: rest) w cs ss Q := by
  match kd, hw, kk with
  | 0, hw, kk => exact pm_callU (M2 := m_X4_hard) (As := []) ok_X4_hard (ci := 4) (q := (RX4, TX4, 13)) rfl (by rw [hM]; exact kw_854) kw_585 kw_583 kw_598 ⟨by decide, by decide, by decide +kernel⟩ kw_583 kw_584 hd hw rfl rfl hr ⟨hrm.1, hrm.2⟩ (c_X4_hard hw hf kk)
  | 1, hw, kk => exact pm_callU (M2 := m_X5_hard) (As := []) ok_X5_hard (ci := 5) (q := (RX5, TX5, 13)) rfl (by rw [hM]; exact kw_854) kw_585 kw_583 kw_598 ⟨by decide, by decide, by decide +kernel⟩ kw_590 kw_589 hd hw rfl rfl hr ⟨hrm.1, hrm.2⟩ (c_X5_hard hw hf kk)
  | 2, hw, kk => exact pm_callU (M2 := m_X0_hard) (As := []) ok_X0_hard (ci := 0) (q := (RX0, TX0, 13)) rfl (by rw [hM]; exact kw_854) kw_585 kw_583 kw_598 ⟨by decide, by decide, by decide +kernel⟩ kw_587 kw_586 hd hw rfl rfl hr ⟨hrm.1, hrm.2⟩ (c_X0_hard hw hf kk)
  | 3, hw, kk => exact pm_callU (M2 := m_X8_hard) (As := []) ok_X8_hard (ci := 8) (q := (RX8, TX8, 13)) rfl (by rw [hM]; exact kw_854) kw_585 kw_583 kw_598 ⟨by decide, by decide, by decide +kernel⟩ kw_596 kw_595 hd hw rfl rfl hr ⟨hrm.1, hrm.2⟩ (c_X8_hard hw hf kk)
  | n + 4, hw, kk => exact pm_callU (M2 := m_X7_hard) (As := []) ok_X7_hard (ci := 7) (q := (RX7, TX7, 13)) rfl (by rw [hM]; exact kw_854) kw_585 kw_583 kw_598 ⟨by decide, by decide, by decide +kernel⟩ kw_593 kw_592 hd hw rfl rfl hr ⟨hrm.1, hrm.2⟩ (c_X7_hard hw hf kk)
