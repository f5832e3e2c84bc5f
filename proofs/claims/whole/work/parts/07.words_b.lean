set_option maxRecDepth 20000 in
theorem cl_0 : pm_CL 0 := by
  refine ⟨(RX0, TX0, 13), rfl, ?_, nmX0, tyX0, tyX0_ok⟩
  show ∀ w ∈ u_ws RX0 TX0 13, w ∈ pm_tb
  intro w hw
  obtain ⟨k, hk, rfl⟩ := List.mem_map.mp hw
  have hk := List.mem_range.mp hk
  match k, hk with
  | 0, _ => exact kw_462
  | 1, _ => exact kw_463
  | 2, _ => exact kw_464
  | 3, _ => exact kw_465
  | 4, _ => exact kw_466
  | 5, _ => exact kw_467
  | 6, _ => exact kw_468
  | 7, _ => exact kw_469
  | 8, _ => exact kw_470
  | 9, _ => exact kw_471
  | 10, _ => exact kw_472
  | 11, _ => exact kw_473
  | 12, _ => exact kw_474
theorem fF_0_0 : ∀ q : vw_C, vwCl[0]? = some q → (q.2.1 0).2.2.2 = true ∧ (q.2.1 0).1 = "ThirtyNine$Nut" ∧ parseFieldDescriptor (q.2.1 0).2.2.1 = some (.object "ThirtyNine$School") := fun q hq => by cases hq; exact ⟨rfl, rfl, by decide +kernel⟩
theorem fF_0_1 : ∀ q : vw_C, vwCl[0]? = some q → (q.2.1 1).2.2.2 = true ∧ (q.2.1 1).1 = "ThirtyNine$Nut" ∧ parseFieldDescriptor (q.2.1 1).2.2.1 = some .int := fun q hq => by cases hq; exact ⟨rfl, rfl, by decide +kernel⟩
theorem fp_0_2 : ∀ q : vw_C, vwCl[0]? = some q → (q.2.1 2).2.2.2 = false ∧ parseFieldDescriptor (q.2.1 2).2.2.1 = some .int := fun q hq => by cases hq; exact ⟨rfl, by decide +kernel⟩
theorem fp_0_3 : ∀ q : vw_C, vwCl[0]? = some q → (q.2.1 3).2.2.2 = false ∧ parseFieldDescriptor (q.2.1 3).2.2.1 = some .int := fun q hq => by cases hq; exact ⟨rfl, by decide +kernel⟩
theorem fp_0_4 : ∀ q : vw_C, vwCl[0]? = some q → (q.2.1 4).2.2.2 = false ∧ parseFieldDescriptor (q.2.1 4).2.2.1 = some .int := fun q hq => by cases hq; exact ⟨rfl, by decide +kernel⟩
theorem fp_0_5 : ∀ q : vw_C, vwCl[0]? = some q → (q.2.1 5).2.2.2 = false ∧ parseFieldDescriptor (q.2.1 5).2.2.1 = some .int := fun q hq => by cases hq; exact ⟨rfl, by decide +kernel⟩
theorem fp_0_6 : ∀ q : vw_C, vwCl[0]? = some q → (q.2.1 6).2.2.2 = false ∧ parseFieldDescriptor (q.2.1 6).2.2.1 = some .int := fun q hq => by cases hq; exact ⟨rfl, by decide +kernel⟩
theorem fp_0_7 : ∀ q : vw_C, vwCl[0]? = some q → (q.2.1 7).2.2.2 = false ∧ parseFieldDescriptor (q.2.1 7).2.2.1 = some .boolean := fun q hq => by cases hq; exact ⟨rfl, by decide +kernel⟩
theorem fp_0_8 : ∀ q : vw_C, vwCl[0]? = some q → (q.2.1 8).2.2.2 = false ∧ parseFieldDescriptor (q.2.1 8).2.2.1 = some .int := fun q hq => by cases hq; exact ⟨rfl, by decide +kernel⟩
theorem fp_0_9 : ∀ q : vw_C, vwCl[0]? = some q → (q.2.1 9).2.2.2 = false ∧ parseFieldDescriptor (q.2.1 9).2.2.1 = some .int := fun q hq => by cases hq; exact ⟨rfl, by decide +kernel⟩
theorem fp_0_10 : ∀ q : vw_C, vwCl[0]? = some q → (q.2.1 10).2.2.2 = false ∧ parseFieldDescriptor (q.2.1 10).2.2.1 = some .int := fun q hq => by cases hq; exact ⟨rfl, by decide +kernel⟩
theorem fp_0_11 : ∀ q : vw_C, vwCl[0]? = some q → (q.2.1 11).2.2.2 = false ∧ parseFieldDescriptor (q.2.1 11).2.2.1 = some .boolean := fun q hq => by cases hq; exact ⟨rfl, by decide +kernel⟩
theorem fp_0_12 : ∀ q : vw_C, vwCl[0]? = some q → (q.2.1 12).2.2.2 = false ∧ parseFieldDescriptor (q.2.1 12).2.2.1 = some .int := fun q hq => by cases hq; exact ⟨rfl, by decide +kernel⟩
set_option maxRecDepth 20000 in
theorem cl_1 : pm_CL 1 := by
  refine ⟨(RX1, TX1, 6), rfl, ?_, nmX1, tyX1, tyX1_ok⟩
  show ∀ w ∈ u_ws RX1 TX1 6, w ∈ pm_tb
  intro w hw
  obtain ⟨k, hk, rfl⟩ := List.mem_map.mp hw
  have hk := List.mem_range.mp hk
  match k, hk with
  | 0, _ => exact kw_152
  | 1, _ => exact kw_154
  | 2, _ => exact kw_156
  | 3, _ => exact kw_158
  | 4, _ => exact kw_160
  | 5, _ => exact kw_162
theorem fp_1_0 : ∀ q : vw_C, vwCl[1]? = some q → (q.2.1 0).2.2.2 = false ∧ parseFieldDescriptor (q.2.1 0).2.2.1 = some .int := fun q hq => by cases hq; exact ⟨rfl, by decide +kernel⟩
theorem fp_1_1 : ∀ q : vw_C, vwCl[1]? = some q → (q.2.1 1).2.2.2 = false ∧ parseFieldDescriptor (q.2.1 1).2.2.1 = some .int := fun q hq => by cases hq; exact ⟨rfl, by decide +kernel⟩
theorem fp_1_2 : ∀ q : vw_C, vwCl[1]? = some q → (q.2.1 2).2.2.2 = false ∧ parseFieldDescriptor (q.2.1 2).2.2.1 = some .int := fun q hq => by cases hq; exact ⟨rfl, by decide +kernel⟩
theorem fp_1_3 : ∀ q : vw_C, vwCl[1]? = some q → (q.2.1 3).2.2.2 = false ∧ parseFieldDescriptor (q.2.1 3).2.2.1 = some .int := fun q hq => by cases hq; exact ⟨rfl, by decide +kernel⟩
theorem fp_1_4 : ∀ q : vw_C, vwCl[1]? = some q → (q.2.1 4).2.2.2 = false ∧ parseFieldDescriptor (q.2.1 4).2.2.1 = some .int := fun q hq => by cases hq; exact ⟨rfl, by decide +kernel⟩
theorem fp_1_5 : ∀ q : vw_C, vwCl[1]? = some q → (q.2.1 5).2.2.2 = false ∧ parseFieldDescriptor (q.2.1 5).2.2.1 = some .int := fun q hq => by cases hq; exact ⟨rfl, by decide +kernel⟩
set_option maxRecDepth 20000 in
theorem cl_2 : pm_CL 2 := by
  refine ⟨(RX2, TX2, 4), rfl, ?_, nmX2, tyX2, tyX2_ok⟩
  show ∀ w ∈ u_ws RX2 TX2 4, w ∈ pm_tb
  intro w hw
  obtain ⟨k, hk, rfl⟩ := List.mem_map.mp hw
  have hk := List.mem_range.mp hk
  match k, hk with
  | 0, _ => exact kw_229
  | 1, _ => exact kw_231
  | 2, _ => exact kw_233
  | 3, _ => exact kw_235
theorem fp_2_0 : ∀ q : vw_C, vwCl[2]? = some q → (q.2.1 0).2.2.2 = false ∧ parseFieldDescriptor (q.2.1 0).2.2.1 = some .int := fun q hq => by cases hq; exact ⟨rfl, by decide +kernel⟩
theorem fF_2_1 : ∀ q : vw_C, vwCl[2]? = some q → (q.2.1 1).2.2.2 = true ∧ (q.2.1 1).1 = "ThirtyNine$Comers" ∧ parseFieldDescriptor (q.2.1 1).2.2.1 = some (.array (.object "ThirtyNine$School")) := fun q hq => by cases hq; exact ⟨rfl, rfl, by decide +kernel⟩
theorem fF_2_2 : ∀ q : vw_C, vwCl[2]? = some q → (q.2.1 2).2.2.2 = true ∧ (q.2.1 2).1 = "ThirtyNine$Comers" ∧ parseFieldDescriptor (q.2.1 2).2.2.1 = some (.array .int) := fun q hq => by cases hq; exact ⟨rfl, rfl, by decide +kernel⟩
theorem fF_2_3 : ∀ q : vw_C, vwCl[2]? = some q → (q.2.1 3).2.2.2 = true ∧ (q.2.1 3).1 = "ThirtyNine$Comers" ∧ parseFieldDescriptor (q.2.1 3).2.2.1 = some (.array .int) := fun q hq => by cases hq; exact ⟨rfl, rfl, by decide +kernel⟩
set_option maxRecDepth 20000 in
theorem cl_3 : pm_CL 3 := by
  refine ⟨(RX3, TX3, 8), rfl, ?_, nmX3, tyX3, tyX3_ok⟩
  show ∀ w ∈ u_ws RX3 TX3 8, w ∈ pm_tb
  intro w hw
  obtain ⟨k, hk, rfl⟩ := List.mem_map.mp hw
  have hk := List.mem_range.mp hk
  match k, hk with
  | 0, _ => exact kw_182
  | 1, _ => exact kw_184
  | 2, _ => exact kw_186
  | 3, _ => exact kw_188
  | 4, _ => exact kw_190
  | 5, _ => exact kw_192
  | 6, _ => exact kw_194
  | 7, _ => exact kw_196
theorem fp_3_0 : ∀ q : vw_C, vwCl[3]? = some q → (q.2.1 0).2.2.2 = false ∧ parseFieldDescriptor (q.2.1 0).2.2.1 = some .int := fun q hq => by cases hq; exact ⟨rfl, by decide +kernel⟩
theorem fp_3_1 : ∀ q : vw_C, vwCl[3]? = some q → (q.2.1 1).2.2.2 = false ∧ parseFieldDescriptor (q.2.1 1).2.2.1 = some .int := fun q hq => by cases hq; exact ⟨rfl, by decide +kernel⟩
theorem fp_3_2 : ∀ q : vw_C, vwCl[3]? = some q → (q.2.1 2).2.2.2 = false ∧ parseFieldDescriptor (q.2.1 2).2.2.1 = some .int := fun q hq => by cases hq; exact ⟨rfl, by decide +kernel⟩
theorem fF_3_3 : ∀ q : vw_C, vwCl[3]? = some q → (q.2.1 3).2.2.2 = true ∧ (q.2.1 3).1 = "ThirtyNine$Ledger" ∧ parseFieldDescriptor (q.2.1 3).2.2.1 = some (.array .int) := fun q hq => by cases hq; exact ⟨rfl, rfl, by decide +kernel⟩
theorem fF_3_4 : ∀ q : vw_C, vwCl[3]? = some q → (q.2.1 4).2.2.2 = true ∧ (q.2.1 4).1 = "ThirtyNine$Ledger" ∧ parseFieldDescriptor (q.2.1 4).2.2.1 = some (.array .int) := fun q hq => by cases hq; exact ⟨rfl, rfl, by decide +kernel⟩
theorem fF_3_5 : ∀ q : vw_C, vwCl[3]? = some q → (q.2.1 5).2.2.2 = true ∧ (q.2.1 5).1 = "ThirtyNine$Ledger" ∧ parseFieldDescriptor (q.2.1 5).2.2.1 = some (.array .int) := fun q hq => by cases hq; exact ⟨rfl, rfl, by decide +kernel⟩
theorem fF_3_6 : ∀ q : vw_C, vwCl[3]? = some q → (q.2.1 6).2.2.2 = true ∧ (q.2.1 6).1 = "ThirtyNine$Ledger" ∧ parseFieldDescriptor (q.2.1 6).2.2.1 = some (.array .int) := fun q hq => by cases hq; exact ⟨rfl, rfl, by decide +kernel⟩
theorem fp_3_7 : ∀ q : vw_C, vwCl[3]? = some q → (q.2.1 7).2.2.2 = false ∧ parseFieldDescriptor (q.2.1 7).2.2.1 = some .int := fun q hq => by cases hq; exact ⟨rfl, by decide +kernel⟩
set_option maxRecDepth 20000 in
theorem cl_4 : pm_CL 4 := by
  refine ⟨(RX4, TX4, 13), rfl, ?_, nmX4, tyX4, tyX4_ok⟩
  show ∀ w ∈ u_ws RX4 TX4 13, w ∈ pm_tb
  intro w hw
  obtain ⟨k, hk, rfl⟩ := List.mem_map.mp hw
  have hk := List.mem_range.mp hk
  match k, hk with
  | 0, _ => exact kw_518
  | 1, _ => exact kw_519
  | 2, _ => exact kw_520
  | 3, _ => exact kw_521
  | 4, _ => exact kw_522
  | 5, _ => exact kw_523
  | 6, _ => exact kw_524
  | 7, _ => exact kw_525
  | 8, _ => exact kw_526
  | 9, _ => exact kw_527
  | 10, _ => exact kw_528
  | 11, _ => exact kw_529
  | 12, _ => exact kw_530
theorem fF_4_0 : ∀ q : vw_C, vwCl[4]? = some q → (q.2.1 0).2.2.2 = true ∧ (q.2.1 0).1 = "ThirtyNine$Nut" ∧ parseFieldDescriptor (q.2.1 0).2.2.1 = some (.object "ThirtyNine$School") := fun q hq => by cases hq; exact ⟨rfl, rfl, by decide +kernel⟩
theorem fF_4_1 : ∀ q : vw_C, vwCl[4]? = some q → (q.2.1 1).2.2.2 = true ∧ (q.2.1 1).1 = "ThirtyNine$Nut" ∧ parseFieldDescriptor (q.2.1 1).2.2.1 = some .int := fun q hq => by cases hq; exact ⟨rfl, rfl, by decide +kernel⟩
theorem fp_4_2 : ∀ q : vw_C, vwCl[4]? = some q → (q.2.1 2).2.2.2 = false ∧ parseFieldDescriptor (q.2.1 2).2.2.1 = some .int := fun q hq => by cases hq; exact ⟨rfl, by decide +kernel⟩
theorem fp_4_3 : ∀ q : vw_C, vwCl[4]? = some q → (q.2.1 3).2.2.2 = false ∧ parseFieldDescriptor (q.2.1 3).2.2.1 = some .int := fun q hq => by cases hq; exact ⟨rfl, by decide +kernel⟩
theorem fp_4_4 : ∀ q : vw_C, vwCl[4]? = some q → (q.2.1 4).2.2.2 = false ∧ parseFieldDescriptor (q.2.1 4).2.2.1 = some .int := fun q hq => by cases hq; exact ⟨rfl, by decide +kernel⟩
theorem fp_4_5 : ∀ q : vw_C, vwCl[4]? = some q → (q.2.1 5).2.2.2 = false ∧ parseFieldDescriptor (q.2.1 5).2.2.1 = some .int := fun q hq => by cases hq; exact ⟨rfl, by decide +kernel⟩
theorem fp_4_6 : ∀ q : vw_C, vwCl[4]? = some q → (q.2.1 6).2.2.2 = false ∧ parseFieldDescriptor (q.2.1 6).2.2.1 = some .int := fun q hq => by cases hq; exact ⟨rfl, by decide +kernel⟩
theorem fp_4_7 : ∀ q : vw_C, vwCl[4]? = some q → (q.2.1 7).2.2.2 = false ∧ parseFieldDescriptor (q.2.1 7).2.2.1 = some .boolean := fun q hq => by cases hq; exact ⟨rfl, by decide +kernel⟩
theorem fp_4_8 : ∀ q : vw_C, vwCl[4]? = some q → (q.2.1 8).2.2.2 = false ∧ parseFieldDescriptor (q.2.1 8).2.2.1 = some .int := fun q hq => by cases hq; exact ⟨rfl, by decide +kernel⟩
theorem fp_4_9 : ∀ q : vw_C, vwCl[4]? = some q → (q.2.1 9).2.2.2 = false ∧ parseFieldDescriptor (q.2.1 9).2.2.1 = some .int := fun q hq => by cases hq; exact ⟨rfl, by decide +kernel⟩
theorem fp_4_10 : ∀ q : vw_C, vwCl[4]? = some q → (q.2.1 10).2.2.2 = false ∧ parseFieldDescriptor (q.2.1 10).2.2.1 = some .int := fun q hq => by cases hq; exact ⟨rfl, by decide +kernel⟩
theorem fp_4_11 : ∀ q : vw_C, vwCl[4]? = some q → (q.2.1 11).2.2.2 = false ∧ parseFieldDescriptor (q.2.1 11).2.2.1 = some .boolean := fun q hq => by cases hq; exact ⟨rfl, by decide +kernel⟩
theorem fp_4_12 : ∀ q : vw_C, vwCl[4]? = some q → (q.2.1 12).2.2.2 = false ∧ parseFieldDescriptor (q.2.1 12).2.2.1 = some .int := fun q hq => by cases hq; exact ⟨rfl, by decide +kernel⟩
set_option maxRecDepth 20000 in
theorem cl_5 : pm_CL 5 := by
  refine ⟨(RX5, TX5, 13), rfl, ?_, nmX5, tyX5, tyX5_ok⟩
  show ∀ w ∈ u_ws RX5 TX5 13, w ∈ pm_tb
  intro w hw
  obtain ⟨k, hk, rfl⟩ := List.mem_map.mp hw
  have hk := List.mem_range.mp hk
  match k, hk with
  | 0, _ => exact kw_429
  | 1, _ => exact kw_431
  | 2, _ => exact kw_433
  | 3, _ => exact kw_435
  | 4, _ => exact kw_437
  | 5, _ => exact kw_439
  | 6, _ => exact kw_441
  | 7, _ => exact kw_443
  | 8, _ => exact kw_445
  | 9, _ => exact kw_447
  | 10, _ => exact kw_449
  | 11, _ => exact kw_451
  | 12, _ => exact kw_453
theorem fF_5_0 : ∀ q : vw_C, vwCl[5]? = some q → (q.2.1 0).2.2.2 = true ∧ (q.2.1 0).1 = "ThirtyNine$Nut" ∧ parseFieldDescriptor (q.2.1 0).2.2.1 = some (.object "ThirtyNine$School") := fun q hq => by cases hq; exact ⟨rfl, rfl, by decide +kernel⟩
theorem fF_5_1 : ∀ q : vw_C, vwCl[5]? = some q → (q.2.1 1).2.2.2 = true ∧ (q.2.1 1).1 = "ThirtyNine$Nut" ∧ parseFieldDescriptor (q.2.1 1).2.2.1 = some .int := fun q hq => by cases hq; exact ⟨rfl, rfl, by decide +kernel⟩
theorem fp_5_2 : ∀ q : vw_C, vwCl[5]? = some q → (q.2.1 2).2.2.2 = false ∧ parseFieldDescriptor (q.2.1 2).2.2.1 = some .int := fun q hq => by cases hq; exact ⟨rfl, by decide +kernel⟩
theorem fp_5_3 : ∀ q : vw_C, vwCl[5]? = some q → (q.2.1 3).2.2.2 = false ∧ parseFieldDescriptor (q.2.1 3).2.2.1 = some .int := fun q hq => by cases hq; exact ⟨rfl, by decide +kernel⟩
theorem fp_5_4 : ∀ q : vw_C, vwCl[5]? = some q → (q.2.1 4).2.2.2 = false ∧ parseFieldDescriptor (q.2.1 4).2.2.1 = some .int := fun q hq => by cases hq; exact ⟨rfl, by decide +kernel⟩
theorem fp_5_5 : ∀ q : vw_C, vwCl[5]? = some q → (q.2.1 5).2.2.2 = false ∧ parseFieldDescriptor (q.2.1 5).2.2.1 = some .int := fun q hq => by cases hq; exact ⟨rfl, by decide +kernel⟩
theorem fp_5_6 : ∀ q : vw_C, vwCl[5]? = some q → (q.2.1 6).2.2.2 = false ∧ parseFieldDescriptor (q.2.1 6).2.2.1 = some .int := fun q hq => by cases hq; exact ⟨rfl, by decide +kernel⟩
theorem fp_5_7 : ∀ q : vw_C, vwCl[5]? = some q → (q.2.1 7).2.2.2 = false ∧ parseFieldDescriptor (q.2.1 7).2.2.1 = some .boolean := fun q hq => by cases hq; exact ⟨rfl, by decide +kernel⟩
theorem fp_5_8 : ∀ q : vw_C, vwCl[5]? = some q → (q.2.1 8).2.2.2 = false ∧ parseFieldDescriptor (q.2.1 8).2.2.1 = some .int := fun q hq => by cases hq; exact ⟨rfl, by decide +kernel⟩
theorem fp_5_9 : ∀ q : vw_C, vwCl[5]? = some q → (q.2.1 9).2.2.2 = false ∧ parseFieldDescriptor (q.2.1 9).2.2.1 = some .int := fun q hq => by cases hq; exact ⟨rfl, by decide +kernel⟩
theorem fp_5_10 : ∀ q : vw_C, vwCl[5]? = some q → (q.2.1 10).2.2.2 = false ∧ parseFieldDescriptor (q.2.1 10).2.2.1 = some .int := fun q hq => by cases hq; exact ⟨rfl, by decide +kernel⟩
theorem fp_5_11 : ∀ q : vw_C, vwCl[5]? = some q → (q.2.1 11).2.2.2 = false ∧ parseFieldDescriptor (q.2.1 11).2.2.1 = some .boolean := fun q hq => by cases hq; exact ⟨rfl, by decide +kernel⟩
theorem fp_5_12 : ∀ q : vw_C, vwCl[5]? = some q → (q.2.1 12).2.2.2 = false ∧ parseFieldDescriptor (q.2.1 12).2.2.1 = some .int := fun q hq => by cases hq; exact ⟨rfl, by decide +kernel⟩
set_option maxRecDepth 20000 in
theorem cl_6 : pm_CL 6 := by
  refine ⟨(RX6, TX6, 6), rfl, ?_, nmX6, tyX6, tyX6_ok⟩
  show ∀ w ∈ u_ws RX6 TX6 6, w ∈ pm_tb
  intro w hw
  obtain ⟨k, hk, rfl⟩ := List.mem_map.mp hw
  have hk := List.mem_range.mp hk
  match k, hk with
  | 0, _ => exact kw_120
  | 1, _ => exact kw_122
  | 2, _ => exact kw_124
  | 3, _ => exact kw_126
  | 4, _ => exact kw_128
  | 5, _ => exact kw_130
theorem fF_6_0 : ∀ q : vw_C, vwCl[6]? = some q → (q.2.1 0).2.2.2 = true ∧ (q.2.1 0).1 = "ThirtyNine$Page" ∧ parseFieldDescriptor (q.2.1 0).2.2.1 = some (.array .int) := fun q hq => by cases hq; exact ⟨rfl, rfl, by decide +kernel⟩
theorem fp_6_1 : ∀ q : vw_C, vwCl[6]? = some q → (q.2.1 1).2.2.2 = false ∧ parseFieldDescriptor (q.2.1 1).2.2.1 = some (.object "ThirtyNine$School") := fun q hq => by cases hq; exact ⟨rfl, by decide +kernel⟩
theorem fp_6_2 : ∀ q : vw_C, vwCl[6]? = some q → (q.2.1 2).2.2.2 = false ∧ parseFieldDescriptor (q.2.1 2).2.2.1 = some .int := fun q hq => by cases hq; exact ⟨rfl, by decide +kernel⟩
theorem fp_6_3 : ∀ q : vw_C, vwCl[6]? = some q → (q.2.1 3).2.2.2 = false ∧ parseFieldDescriptor (q.2.1 3).2.2.1 = some .int := fun q hq => by cases hq; exact ⟨rfl, by decide +kernel⟩
theorem fp_6_4 : ∀ q : vw_C, vwCl[6]? = some q → (q.2.1 4).2.2.2 = false ∧ parseFieldDescriptor (q.2.1 4).2.2.1 = some .int := fun q hq => by cases hq; exact ⟨rfl, by decide +kernel⟩
theorem fp_6_5 : ∀ q : vw_C, vwCl[6]? = some q → (q.2.1 5).2.2.2 = false ∧ parseFieldDescriptor (q.2.1 5).2.2.1 = some .int := fun q hq => by cases hq; exact ⟨rfl, by decide +kernel⟩
set_option maxRecDepth 20000 in
theorem cl_7 : pm_CL 7 := by
  refine ⟨(RX7, TX7, 13), rfl, ?_, nmX7, tyX7, tyX7_ok⟩
  show ∀ w ∈ u_ws RX7 TX7 13, w ∈ pm_tb
  intro w hw
  obtain ⟨k, hk, rfl⟩ := List.mem_map.mp hw
  have hk := List.mem_range.mp hk
  match k, hk with
  | 0, _ => exact kw_502
  | 1, _ => exact kw_503
  | 2, _ => exact kw_504
  | 3, _ => exact kw_505
  | 4, _ => exact kw_506
  | 5, _ => exact kw_507
  | 6, _ => exact kw_508
  | 7, _ => exact kw_509
  | 8, _ => exact kw_510
  | 9, _ => exact kw_511
  | 10, _ => exact kw_512
  | 11, _ => exact kw_513
  | 12, _ => exact kw_514
theorem fF_7_0 : ∀ q : vw_C, vwCl[7]? = some q → (q.2.1 0).2.2.2 = true ∧ (q.2.1 0).1 = "ThirtyNine$Nut" ∧ parseFieldDescriptor (q.2.1 0).2.2.1 = some (.object "ThirtyNine$School") := fun q hq => by cases hq; exact ⟨rfl, rfl, by decide +kernel⟩
theorem fF_7_1 : ∀ q : vw_C, vwCl[7]? = some q → (q.2.1 1).2.2.2 = true ∧ (q.2.1 1).1 = "ThirtyNine$Nut" ∧ parseFieldDescriptor (q.2.1 1).2.2.1 = some .int := fun q hq => by cases hq; exact ⟨rfl, rfl, by decide +kernel⟩
theorem fp_7_2 : ∀ q : vw_C, vwCl[7]? = some q → (q.2.1 2).2.2.2 = false ∧ parseFieldDescriptor (q.2.1 2).2.2.1 = some .int := fun q hq => by cases hq; exact ⟨rfl, by decide +kernel⟩
theorem fp_7_3 : ∀ q : vw_C, vwCl[7]? = some q → (q.2.1 3).2.2.2 = false ∧ parseFieldDescriptor (q.2.1 3).2.2.1 = some .int := fun q hq => by cases hq; exact ⟨rfl, by decide +kernel⟩
theorem fp_7_4 : ∀ q : vw_C, vwCl[7]? = some q → (q.2.1 4).2.2.2 = false ∧ parseFieldDescriptor (q.2.1 4).2.2.1 = some .int := fun q hq => by cases hq; exact ⟨rfl, by decide +kernel⟩
theorem fp_7_5 : ∀ q : vw_C, vwCl[7]? = some q → (q.2.1 5).2.2.2 = false ∧ parseFieldDescriptor (q.2.1 5).2.2.1 = some .int := fun q hq => by cases hq; exact ⟨rfl, by decide +kernel⟩
theorem fp_7_6 : ∀ q : vw_C, vwCl[7]? = some q → (q.2.1 6).2.2.2 = false ∧ parseFieldDescriptor (q.2.1 6).2.2.1 = some .int := fun q hq => by cases hq; exact ⟨rfl, by decide +kernel⟩
theorem fp_7_7 : ∀ q : vw_C, vwCl[7]? = some q → (q.2.1 7).2.2.2 = false ∧ parseFieldDescriptor (q.2.1 7).2.2.1 = some .boolean := fun q hq => by cases hq; exact ⟨rfl, by decide +kernel⟩
theorem fp_7_8 : ∀ q : vw_C, vwCl[7]? = some q → (q.2.1 8).2.2.2 = false ∧ parseFieldDescriptor (q.2.1 8).2.2.1 = some .int := fun q hq => by cases hq; exact ⟨rfl, by decide +kernel⟩
theorem fp_7_9 : ∀ q : vw_C, vwCl[7]? = some q → (q.2.1 9).2.2.2 = false ∧ parseFieldDescriptor (q.2.1 9).2.2.1 = some .int := fun q hq => by cases hq; exact ⟨rfl, by decide +kernel⟩
theorem fp_7_10 : ∀ q : vw_C, vwCl[7]? = some q → (q.2.1 10).2.2.2 = false ∧ parseFieldDescriptor (q.2.1 10).2.2.1 = some .int := fun q hq => by cases hq; exact ⟨rfl, by decide +kernel⟩
theorem fp_7_11 : ∀ q : vw_C, vwCl[7]? = some q → (q.2.1 11).2.2.2 = false ∧ parseFieldDescriptor (q.2.1 11).2.2.1 = some .boolean := fun q hq => by cases hq; exact ⟨rfl, by decide +kernel⟩
theorem fp_7_12 : ∀ q : vw_C, vwCl[7]? = some q → (q.2.1 12).2.2.2 = false ∧ parseFieldDescriptor (q.2.1 12).2.2.1 = some .int := fun q hq => by cases hq; exact ⟨rfl, by decide +kernel⟩
set_option maxRecDepth 20000 in
theorem cl_8 : pm_CL 8 := by
  refine ⟨(RX8, TX8, 13), rfl, ?_, nmX8, tyX8, tyX8_ok⟩
  show ∀ w ∈ u_ws RX8 TX8 13, w ∈ pm_tb
  intro w hw
  obtain ⟨k, hk, rfl⟩ := List.mem_map.mp hw
  have hk := List.mem_range.mp hk
  match k, hk with
  | 0, _ => exact kw_482
  | 1, _ => exact kw_483
  | 2, _ => exact kw_484
  | 3, _ => exact kw_485
  | 4, _ => exact kw_486
  | 5, _ => exact kw_487
  | 6, _ => exact kw_488
  | 7, _ => exact kw_489
  | 8, _ => exact kw_490
  | 9, _ => exact kw_491
  | 10, _ => exact kw_492
  | 11, _ => exact kw_493
  | 12, _ => exact kw_494
theorem fF_8_0 : ∀ q : vw_C, vwCl[8]? = some q → (q.2.1 0).2.2.2 = true ∧ (q.2.1 0).1 = "ThirtyNine$Nut" ∧ parseFieldDescriptor (q.2.1 0).2.2.1 = some (.object "ThirtyNine$School") := fun q hq => by cases hq; exact ⟨rfl, rfl, by decide +kernel⟩
theorem fF_8_1 : ∀ q : vw_C, vwCl[8]? = some q → (q.2.1 1).2.2.2 = true ∧ (q.2.1 1).1 = "ThirtyNine$Nut" ∧ parseFieldDescriptor (q.2.1 1).2.2.1 = some .int := fun q hq => by cases hq; exact ⟨rfl, rfl, by decide +kernel⟩
theorem fp_8_2 : ∀ q : vw_C, vwCl[8]? = some q → (q.2.1 2).2.2.2 = false ∧ parseFieldDescriptor (q.2.1 2).2.2.1 = some .int := fun q hq => by cases hq; exact ⟨rfl, by decide +kernel⟩
theorem fp_8_3 : ∀ q : vw_C, vwCl[8]? = some q → (q.2.1 3).2.2.2 = false ∧ parseFieldDescriptor (q.2.1 3).2.2.1 = some .int := fun q hq => by cases hq; exact ⟨rfl, by decide +kernel⟩
theorem fp_8_4 : ∀ q : vw_C, vwCl[8]? = some q → (q.2.1 4).2.2.2 = false ∧ parseFieldDescriptor (q.2.1 4).2.2.1 = some .int := fun q hq => by cases hq; exact ⟨rfl, by decide +kernel⟩
theorem fp_8_5 : ∀ q : vw_C, vwCl[8]? = some q → (q.2.1 5).2.2.2 = false ∧ parseFieldDescriptor (q.2.1 5).2.2.1 = some .int := fun q hq => by cases hq; exact ⟨rfl, by decide +kernel⟩
theorem fp_8_6 : ∀ q : vw_C, vwCl[8]? = some q → (q.2.1 6).2.2.2 = false ∧ parseFieldDescriptor (q.2.1 6).2.2.1 = some .int := fun q hq => by cases hq; exact ⟨rfl, by decide +kernel⟩
theorem fp_8_7 : ∀ q : vw_C, vwCl[8]? = some q → (q.2.1 7).2.2.2 = false ∧ parseFieldDescriptor (q.2.1 7).2.2.1 = some .boolean := fun q hq => by cases hq; exact ⟨rfl, by decide +kernel⟩
theorem fp_8_8 : ∀ q : vw_C, vwCl[8]? = some q → (q.2.1 8).2.2.2 = false ∧ parseFieldDescriptor (q.2.1 8).2.2.1 = some .int := fun q hq => by cases hq; exact ⟨rfl, by decide +kernel⟩
theorem fp_8_9 : ∀ q : vw_C, vwCl[8]? = some q → (q.2.1 9).2.2.2 = false ∧ parseFieldDescriptor (q.2.1 9).2.2.1 = some .int := fun q hq => by cases hq; exact ⟨rfl, by decide +kernel⟩
theorem fp_8_10 : ∀ q : vw_C, vwCl[8]? = some q → (q.2.1 10).2.2.2 = false ∧ parseFieldDescriptor (q.2.1 10).2.2.1 = some .int := fun q hq => by cases hq; exact ⟨rfl, by decide +kernel⟩
theorem fp_8_11 : ∀ q : vw_C, vwCl[8]? = some q → (q.2.1 11).2.2.2 = false ∧ parseFieldDescriptor (q.2.1 11).2.2.1 = some .boolean := fun q hq => by cases hq; exact ⟨rfl, by decide +kernel⟩
theorem fp_8_12 : ∀ q : vw_C, vwCl[8]? = some q → (q.2.1 12).2.2.2 = false ∧ parseFieldDescriptor (q.2.1 12).2.2.1 = some .int := fun q hq => by cases hq; exact ⟨rfl, by decide +kernel⟩
set_option maxRecDepth 20000 in
theorem cl_9 : pm_CL 9 := by
  refine ⟨(RX9, TX9, 3), rfl, ?_, nmX9, tyX9, tyX9_ok⟩
  show ∀ w ∈ u_ws RX9 TX9 3, w ∈ pm_tb
  intro w hw
  obtain ⟨k, hk, rfl⟩ := List.mem_map.mp hw
  have hk := List.mem_range.mp hk
  match k, hk with
  | 0, _ => exact kw_209
  | 1, _ => exact kw_211
  | 2, _ => exact kw_213
theorem fF_9_0 : ∀ q : vw_C, vwCl[9]? = some q → (q.2.1 0).2.2.2 = true ∧ (q.2.1 0).1 = "ThirtyNine$Reaching" ∧ parseFieldDescriptor (q.2.1 0).2.2.1 = some (.array (.object "ThirtyNine$Nut")) := fun q hq => by cases hq; exact ⟨rfl, rfl, by decide +kernel⟩
theorem fF_9_1 : ∀ q : vw_C, vwCl[9]? = some q → (q.2.1 1).2.2.2 = true ∧ (q.2.1 1).1 = "ThirtyNine$Reaching" ∧ parseFieldDescriptor (q.2.1 1).2.2.1 = some (.array .long) := fun q hq => by cases hq; exact ⟨rfl, rfl, by decide +kernel⟩
theorem fp_9_2 : ∀ q : vw_C, vwCl[9]? = some q → (q.2.1 2).2.2.2 = false ∧ parseFieldDescriptor (q.2.1 2).2.2.1 = some .int := fun q hq => by cases hq; exact ⟨rfl, by decide +kernel⟩
set_option maxRecDepth 20000 in
theorem cl_10 : pm_CL 10 := by
  refine ⟨(RX10, TX10, 8), rfl, ?_, nmX10, tyX10, tyX10_ok⟩
  show ∀ w ∈ u_ws RX10 TX10 8, w ∈ pm_tb
  intro w hw
  obtain ⟨k, hk, rfl⟩ := List.mem_map.mp hw
  have hk := List.mem_range.mp hk
  match k, hk with
  | 0, _ => exact kw_95
  | 1, _ => exact kw_97
  | 2, _ => exact kw_99
  | 3, _ => exact kw_101
  | 4, _ => exact kw_103
  | 5, _ => exact kw_105
  | 6, _ => exact kw_107
  | 7, _ => exact kw_109
theorem fp_10_0 : ∀ q : vw_C, vwCl[10]? = some q → (q.2.1 0).2.2.2 = false ∧ parseFieldDescriptor (q.2.1 0).2.2.1 = some .int := fun q hq => by cases hq; exact ⟨rfl, by decide +kernel⟩
theorem fp_10_1 : ∀ q : vw_C, vwCl[10]? = some q → (q.2.1 1).2.2.2 = false ∧ parseFieldDescriptor (q.2.1 1).2.2.1 = some .int := fun q hq => by cases hq; exact ⟨rfl, by decide +kernel⟩
theorem fp_10_2 : ∀ q : vw_C, vwCl[10]? = some q → (q.2.1 2).2.2.2 = false ∧ parseFieldDescriptor (q.2.1 2).2.2.1 = some .int := fun q hq => by cases hq; exact ⟨rfl, by decide +kernel⟩
theorem fp_10_3 : ∀ q : vw_C, vwCl[10]? = some q → (q.2.1 3).2.2.2 = false ∧ parseFieldDescriptor (q.2.1 3).2.2.1 = some .int := fun q hq => by cases hq; exact ⟨rfl, by decide +kernel⟩
theorem fp_10_4 : ∀ q : vw_C, vwCl[10]? = some q → (q.2.1 4).2.2.2 = false ∧ parseFieldDescriptor (q.2.1 4).2.2.1 = some .int := fun q hq => by cases hq; exact ⟨rfl, by decide +kernel⟩
theorem fp_10_5 : ∀ q : vw_C, vwCl[10]? = some q → (q.2.1 5).2.2.2 = false ∧ parseFieldDescriptor (q.2.1 5).2.2.1 = some .int := fun q hq => by cases hq; exact ⟨rfl, by decide +kernel⟩
theorem fp_10_6 : ∀ q : vw_C, vwCl[10]? = some q → (q.2.1 6).2.2.2 = false ∧ parseFieldDescriptor (q.2.1 6).2.2.1 = some .int := fun q hq => by cases hq; exact ⟨rfl, by decide +kernel⟩
theorem fp_10_7 : ∀ q : vw_C, vwCl[10]? = some q → (q.2.1 7).2.2.2 = false ∧ parseFieldDescriptor (q.2.1 7).2.2.1 = some .int := fun q hq => by cases hq; exact ⟨rfl, by decide +kernel⟩
set_option maxRecDepth 20000 in
theorem cl_11 : pm_CL 11 := by
  refine ⟨(RX11, TX11, 12), rfl, ?_, nmX11, tyX11, tyX11_ok⟩
  show ∀ w ∈ u_ws RX11 TX11 12, w ∈ pm_tb
  intro w hw
  obtain ⟨k, hk, rfl⟩ := List.mem_map.mp hw
  have hk := List.mem_range.mp hk
  match k, hk with
  | 0, _ => exact kw_250
  | 1, _ => exact kw_252
  | 2, _ => exact kw_254
  | 3, _ => exact kw_256
  | 4, _ => exact kw_258
  | 5, _ => exact kw_260
  | 6, _ => exact kw_262
  | 7, _ => exact kw_264
  | 8, _ => exact kw_266
  | 9, _ => exact kw_268
  | 10, _ => exact kw_270
  | 11, _ => exact kw_272
theorem fF_11_0 : ∀ q : vw_C, vwCl[11]? = some q → (q.2.1 0).2.2.2 = true ∧ (q.2.1 0).1 = "ThirtyNine" ∧ parseFieldDescriptor (q.2.1 0).2.2.1 = some (.object "ThirtyNine$Page") := fun q hq => by cases hq; exact ⟨rfl, rfl, by decide +kernel⟩
theorem fF_11_1 : ∀ q : vw_C, vwCl[11]? = some q → (q.2.1 1).2.2.2 = true ∧ (q.2.1 1).1 = "ThirtyNine" ∧ parseFieldDescriptor (q.2.1 1).2.2.1 = some (.array (.object "ThirtyNine$School")) := fun q hq => by cases hq; exact ⟨rfl, rfl, by decide +kernel⟩
theorem fF_11_2 : ∀ q : vw_C, vwCl[11]? = some q → (q.2.1 2).2.2.2 = true ∧ (q.2.1 2).1 = "ThirtyNine" ∧ parseFieldDescriptor (q.2.1 2).2.2.1 = some (.array (.object "ThirtyNine$Nut")) := fun q hq => by cases hq; exact ⟨rfl, rfl, by decide +kernel⟩
theorem fF_11_3 : ∀ q : vw_C, vwCl[11]? = some q → (q.2.1 3).2.2.2 = true ∧ (q.2.1 3).1 = "ThirtyNine" ∧ parseFieldDescriptor (q.2.1 3).2.2.1 = some (.object "ThirtyNine$Bout") := fun q hq => by cases hq; exact ⟨rfl, rfl, by decide +kernel⟩
theorem fF_11_4 : ∀ q : vw_C, vwCl[11]? = some q → (q.2.1 4).2.2.2 = true ∧ (q.2.1 4).1 = "ThirtyNine" ∧ parseFieldDescriptor (q.2.1 4).2.2.1 = some (.object "ThirtyNine$Ledger") := fun q hq => by cases hq; exact ⟨rfl, rfl, by decide +kernel⟩
theorem fF_11_5 : ∀ q : vw_C, vwCl[11]? = some q → (q.2.1 5).2.2.2 = true ∧ (q.2.1 5).1 = "ThirtyNine" ∧ parseFieldDescriptor (q.2.1 5).2.2.1 = some (.object "ThirtyNine$Reaching") := fun q hq => by cases hq; exact ⟨rfl, rfl, by decide +kernel⟩
theorem fF_11_6 : ∀ q : vw_C, vwCl[11]? = some q → (q.2.1 6).2.2.2 = true ∧ (q.2.1 6).1 = "ThirtyNine" ∧ parseFieldDescriptor (q.2.1 6).2.2.1 = some (.object "ThirtyNine$Comers") := fun q hq => by cases hq; exact ⟨rfl, rfl, by decide +kernel⟩
theorem fF_11_7 : ∀ q : vw_C, vwCl[11]? = some q → (q.2.1 7).2.2.2 = true ∧ (q.2.1 7).1 = "ThirtyNine" ∧ parseFieldDescriptor (q.2.1 7).2.2.1 = some (.array .int) := fun q hq => by cases hq; exact ⟨rfl, rfl, by decide +kernel⟩
theorem fp_11_8 : ∀ q : vw_C, vwCl[11]? = some q → (q.2.1 8).2.2.2 = false ∧ parseFieldDescriptor (q.2.1 8).2.2.1 = some .int := fun q hq => by cases hq; exact ⟨rfl, by decide +kernel⟩
theorem fp_11_9 : ∀ q : vw_C, vwCl[11]? = some q → (q.2.1 9).2.2.2 = false ∧ parseFieldDescriptor (q.2.1 9).2.2.1 = some .int := fun q hq => by cases hq; exact ⟨rfl, by decide +kernel⟩
theorem fp_11_10 : ∀ q : vw_C, vwCl[11]? = some q → (q.2.1 10).2.2.2 = false ∧ parseFieldDescriptor (q.2.1 10).2.2.1 = some .int := fun q hq => by cases hq; exact ⟨rfl, by decide +kernel⟩
theorem fp_11_11 : ∀ q : vw_C, vwCl[11]? = some q → (q.2.1 11).2.2.2 = false ∧ parseFieldDescriptor (q.2.1 11).2.2.1 = some .int := fun q hq => by cases hq; exact ⟨rfl, by decide +kernel⟩
set_option maxRecDepth 20000 in
theorem cl_12 : pm_CL 12 := by
  refine ⟨(RX12, TX12, 44), rfl, ?_, nmX12, tyX12, tyX12_ok⟩
  show ∀ w ∈ u_ws RX12 TX12 44, w ∈ pm_tb
  intro w hw
  obtain ⟨k, hk, rfl⟩ := List.mem_map.mp hw
  have hk := List.mem_range.mp hk
  match k, hk with
  | 0, _ => exact kw_1002
  | 1, _ => exact kw_1004
  | 2, _ => exact kw_1006
  | 3, _ => exact kw_1008
  | 4, _ => exact kw_1010
  | 5, _ => exact kw_1012
  | 6, _ => exact kw_1014
  | 7, _ => exact kw_1016
  | 8, _ => exact kw_1018
  | 9, _ => exact kw_1020
  | 10, _ => exact kw_1022
  | 11, _ => exact kw_1024
  | 12, _ => exact kw_1026
  | 13, _ => exact kw_1028
  | 14, _ => exact kw_1030
  | 15, _ => exact kw_1032
  | 16, _ => exact kw_1034
  | 17, _ => exact kw_1036
  | 18, _ => exact kw_1038
  | 19, _ => exact kw_1040
  | 20, _ => exact kw_1042
  | 21, _ => exact kw_1044
  | 22, _ => exact kw_1046
  | 23, _ => exact kw_1048
  | 24, _ => exact kw_1050
  | 25, _ => exact kw_1052
  | 26, _ => exact kw_1054
  | 27, _ => exact kw_1056
  | 28, _ => exact kw_1058
  | 29, _ => exact kw_1060
  | 30, _ => exact kw_1062
  | 31, _ => exact kw_1064
  | 32, _ => exact kw_1066
  | 33, _ => exact kw_1068
  | 34, _ => exact kw_1070
  | 35, _ => exact kw_1072
  | 36, _ => exact kw_1074
  | 37, _ => exact kw_1076
  | 38, _ => exact kw_1078
  | 39, _ => exact kw_1080
  | 40, _ => exact kw_1082
  | 41, _ => exact kw_1084
  | 42, _ => exact kw_1086
  | 43, _ => exact kw_1088
  | q + 44, h => exact absurd h (by omega)
theorem fF_12_0 : ∀ q : vw_C, vwCl[12]? = some q → (q.2.1 0).2.2.2 = true ∧ (q.2.1 0).1 = "ThirtyNineModel" ∧ parseFieldDescriptor (q.2.1 0).2.2.1 = some (.array .int) := fun q hq => by cases hq; exact ⟨rfl, rfl, by decide +kernel⟩
theorem fp_12_1 : ∀ q : vw_C, vwCl[12]? = some q → (q.2.1 1).2.2.2 = false ∧ parseFieldDescriptor (q.2.1 1).2.2.1 = some .int := fun q hq => by cases hq; exact ⟨rfl, by decide +kernel⟩
theorem fp_12_2 : ∀ q : vw_C, vwCl[12]? = some q → (q.2.1 2).2.2.2 = false ∧ parseFieldDescriptor (q.2.1 2).2.2.1 = some .int := fun q hq => by cases hq; exact ⟨rfl, by decide +kernel⟩
theorem fF_12_3 : ∀ q : vw_C, vwCl[12]? = some q → (q.2.1 3).2.2.2 = true ∧ (q.2.1 3).1 = "ThirtyNineModel" ∧ parseFieldDescriptor (q.2.1 3).2.2.1 = some (.array .int) := fun q hq => by cases hq; exact ⟨rfl, rfl, by decide +kernel⟩
theorem fF_12_4 : ∀ q : vw_C, vwCl[12]? = some q → (q.2.1 4).2.2.2 = true ∧ (q.2.1 4).1 = "ThirtyNineModel" ∧ parseFieldDescriptor (q.2.1 4).2.2.1 = some (.array .int) := fun q hq => by cases hq; exact ⟨rfl, rfl, by decide +kernel⟩
theorem fF_12_5 : ∀ q : vw_C, vwCl[12]? = some q → (q.2.1 5).2.2.2 = true ∧ (q.2.1 5).1 = "ThirtyNineModel" ∧ parseFieldDescriptor (q.2.1 5).2.2.1 = some (.array .int) := fun q hq => by cases hq; exact ⟨rfl, rfl, by decide +kernel⟩
theorem fp_12_6 : ∀ q : vw_C, vwCl[12]? = some q → (q.2.1 6).2.2.2 = false ∧ parseFieldDescriptor (q.2.1 6).2.2.1 = some .int := fun q hq => by cases hq; exact ⟨rfl, by decide +kernel⟩
theorem fp_12_7 : ∀ q : vw_C, vwCl[12]? = some q → (q.2.1 7).2.2.2 = false ∧ parseFieldDescriptor (q.2.1 7).2.2.1 = some .int := fun q hq => by cases hq; exact ⟨rfl, by decide +kernel⟩
theorem fp_12_8 : ∀ q : vw_C, vwCl[12]? = some q → (q.2.1 8).2.2.2 = false ∧ parseFieldDescriptor (q.2.1 8).2.2.1 = some .int := fun q hq => by cases hq; exact ⟨rfl, by decide +kernel⟩
theorem fp_12_9 : ∀ q : vw_C, vwCl[12]? = some q → (q.2.1 9).2.2.2 = false ∧ parseFieldDescriptor (q.2.1 9).2.2.1 = some .int := fun q hq => by cases hq; exact ⟨rfl, by decide +kernel⟩
theorem fF_12_10 : ∀ q : vw_C, vwCl[12]? = some q → (q.2.1 10).2.2.2 = true ∧ (q.2.1 10).1 = "ThirtyNineModel" ∧ parseFieldDescriptor (q.2.1 10).2.2.1 = some (.array .int) := fun q hq => by cases hq; exact ⟨rfl, rfl, by decide +kernel⟩
theorem fp_12_11 : ∀ q : vw_C, vwCl[12]? = some q → (q.2.1 11).2.2.2 = false ∧ parseFieldDescriptor (q.2.1 11).2.2.1 = some .int := fun q hq => by cases hq; exact ⟨rfl, by decide +kernel⟩
theorem fF_12_12 : ∀ q : vw_C, vwCl[12]? = some q → (q.2.1 12).2.2.2 = true ∧ (q.2.1 12).1 = "ThirtyNineModel" ∧ parseFieldDescriptor (q.2.1 12).2.2.1 = some (.array .int) := fun q hq => by cases hq; exact ⟨rfl, rfl, by decide +kernel⟩
theorem fF_12_13 : ∀ q : vw_C, vwCl[12]? = some q → (q.2.1 13).2.2.2 = true ∧ (q.2.1 13).1 = "ThirtyNineModel" ∧ parseFieldDescriptor (q.2.1 13).2.2.1 = some (.array .int) := fun q hq => by cases hq; exact ⟨rfl, rfl, by decide +kernel⟩
theorem fF_12_14 : ∀ q : vw_C, vwCl[12]? = some q → (q.2.1 14).2.2.2 = true ∧ (q.2.1 14).1 = "ThirtyNineModel" ∧ parseFieldDescriptor (q.2.1 14).2.2.1 = some (.array .int) := fun q hq => by cases hq; exact ⟨rfl, rfl, by decide +kernel⟩
theorem fF_12_15 : ∀ q : vw_C, vwCl[12]? = some q → (q.2.1 15).2.2.2 = true ∧ (q.2.1 15).1 = "ThirtyNineModel" ∧ parseFieldDescriptor (q.2.1 15).2.2.1 = some (.array .int) := fun q hq => by cases hq; exact ⟨rfl, rfl, by decide +kernel⟩
theorem fF_12_16 : ∀ q : vw_C, vwCl[12]? = some q → (q.2.1 16).2.2.2 = true ∧ (q.2.1 16).1 = "ThirtyNineModel" ∧ parseFieldDescriptor (q.2.1 16).2.2.1 = some (.array .int) := fun q hq => by cases hq; exact ⟨rfl, rfl, by decide +kernel⟩
theorem fF_12_17 : ∀ q : vw_C, vwCl[12]? = some q → (q.2.1 17).2.2.2 = true ∧ (q.2.1 17).1 = "ThirtyNineModel" ∧ parseFieldDescriptor (q.2.1 17).2.2.1 = some (.array .int) := fun q hq => by cases hq; exact ⟨rfl, rfl, by decide +kernel⟩
theorem fF_12_18 : ∀ q : vw_C, vwCl[12]? = some q → (q.2.1 18).2.2.2 = true ∧ (q.2.1 18).1 = "ThirtyNineModel" ∧ parseFieldDescriptor (q.2.1 18).2.2.1 = some (.array .int) := fun q hq => by cases hq; exact ⟨rfl, rfl, by decide +kernel⟩
theorem fF_12_19 : ∀ q : vw_C, vwCl[12]? = some q → (q.2.1 19).2.2.2 = true ∧ (q.2.1 19).1 = "ThirtyNineModel" ∧ parseFieldDescriptor (q.2.1 19).2.2.1 = some (.array .boolean) := fun q hq => by cases hq; exact ⟨rfl, rfl, by decide +kernel⟩
theorem fF_12_20 : ∀ q : vw_C, vwCl[12]? = some q → (q.2.1 20).2.2.2 = true ∧ (q.2.1 20).1 = "ThirtyNineModel" ∧ parseFieldDescriptor (q.2.1 20).2.2.1 = some (.array .int) := fun q hq => by cases hq; exact ⟨rfl, rfl, by decide +kernel⟩
theorem fp_12_21 : ∀ q : vw_C, vwCl[12]? = some q → (q.2.1 21).2.2.2 = false ∧ parseFieldDescriptor (q.2.1 21).2.2.1 = some .int := fun q hq => by cases hq; exact ⟨rfl, by decide +kernel⟩
theorem fp_12_22 : ∀ q : vw_C, vwCl[12]? = some q → (q.2.1 22).2.2.2 = false ∧ parseFieldDescriptor (q.2.1 22).2.2.1 = some .int := fun q hq => by cases hq; exact ⟨rfl, by decide +kernel⟩
theorem fp_12_23 : ∀ q : vw_C, vwCl[12]? = some q → (q.2.1 23).2.2.2 = false ∧ parseFieldDescriptor (q.2.1 23).2.2.1 = some .int := fun q hq => by cases hq; exact ⟨rfl, by decide +kernel⟩
theorem fp_12_24 : ∀ q : vw_C, vwCl[12]? = some q → (q.2.1 24).2.2.2 = false ∧ parseFieldDescriptor (q.2.1 24).2.2.1 = some .int := fun q hq => by cases hq; exact ⟨rfl, by decide +kernel⟩
theorem fp_12_25 : ∀ q : vw_C, vwCl[12]? = some q → (q.2.1 25).2.2.2 = false ∧ parseFieldDescriptor (q.2.1 25).2.2.1 = some .int := fun q hq => by cases hq; exact ⟨rfl, by decide +kernel⟩
theorem fp_12_26 : ∀ q : vw_C, vwCl[12]? = some q → (q.2.1 26).2.2.2 = false ∧ parseFieldDescriptor (q.2.1 26).2.2.1 = some .int := fun q hq => by cases hq; exact ⟨rfl, by decide +kernel⟩
theorem fF_12_27 : ∀ q : vw_C, vwCl[12]? = some q → (q.2.1 27).2.2.2 = true ∧ (q.2.1 27).1 = "ThirtyNineModel" ∧ parseFieldDescriptor (q.2.1 27).2.2.1 = some (.array .int) := fun q hq => by cases hq; exact ⟨rfl, rfl, by decide +kernel⟩
theorem fF_12_28 : ∀ q : vw_C, vwCl[12]? = some q → (q.2.1 28).2.2.2 = true ∧ (q.2.1 28).1 = "ThirtyNineModel" ∧ parseFieldDescriptor (q.2.1 28).2.2.1 = some (.array .int) := fun q hq => by cases hq; exact ⟨rfl, rfl, by decide +kernel⟩
theorem fF_12_29 : ∀ q : vw_C, vwCl[12]? = some q → (q.2.1 29).2.2.2 = true ∧ (q.2.1 29).1 = "ThirtyNineModel" ∧ parseFieldDescriptor (q.2.1 29).2.2.1 = some (.array .int) := fun q hq => by cases hq; exact ⟨rfl, rfl, by decide +kernel⟩
theorem fp_12_30 : ∀ q : vw_C, vwCl[12]? = some q → (q.2.1 30).2.2.2 = false ∧ parseFieldDescriptor (q.2.1 30).2.2.1 = some .int := fun q hq => by cases hq; exact ⟨rfl, by decide +kernel⟩
theorem fp_12_31 : ∀ q : vw_C, vwCl[12]? = some q → (q.2.1 31).2.2.2 = false ∧ parseFieldDescriptor (q.2.1 31).2.2.1 = some .int := fun q hq => by cases hq; exact ⟨rfl, by decide +kernel⟩
theorem fF_12_32 : ∀ q : vw_C, vwCl[12]? = some q → (q.2.1 32).2.2.2 = true ∧ (q.2.1 32).1 = "ThirtyNineModel" ∧ parseFieldDescriptor (q.2.1 32).2.2.1 = some (.array .int) := fun q hq => by cases hq; exact ⟨rfl, rfl, by decide +kernel⟩
theorem fp_12_33 : ∀ q : vw_C, vwCl[12]? = some q → (q.2.1 33).2.2.2 = false ∧ parseFieldDescriptor (q.2.1 33).2.2.1 = some .int := fun q hq => by cases hq; exact ⟨rfl, by decide +kernel⟩
theorem fp_12_34 : ∀ q : vw_C, vwCl[12]? = some q → (q.2.1 34).2.2.2 = false ∧ parseFieldDescriptor (q.2.1 34).2.2.1 = some .int := fun q hq => by cases hq; exact ⟨rfl, by decide +kernel⟩
theorem fF_12_35 : ∀ q : vw_C, vwCl[12]? = some q → (q.2.1 35).2.2.2 = true ∧ (q.2.1 35).1 = "ThirtyNineModel" ∧ parseFieldDescriptor (q.2.1 35).2.2.1 = some (.array .int) := fun q hq => by cases hq; exact ⟨rfl, rfl, by decide +kernel⟩
theorem fF_12_36 : ∀ q : vw_C, vwCl[12]? = some q → (q.2.1 36).2.2.2 = true ∧ (q.2.1 36).1 = "ThirtyNineModel" ∧ parseFieldDescriptor (q.2.1 36).2.2.1 = some (.array .int) := fun q hq => by cases hq; exact ⟨rfl, rfl, by decide +kernel⟩
theorem fF_12_37 : ∀ q : vw_C, vwCl[12]? = some q → (q.2.1 37).2.2.2 = true ∧ (q.2.1 37).1 = "ThirtyNineModel" ∧ parseFieldDescriptor (q.2.1 37).2.2.1 = some (.array .int) := fun q hq => by cases hq; exact ⟨rfl, rfl, by decide +kernel⟩
theorem fF_12_38 : ∀ q : vw_C, vwCl[12]? = some q → (q.2.1 38).2.2.2 = true ∧ (q.2.1 38).1 = "ThirtyNineModel" ∧ parseFieldDescriptor (q.2.1 38).2.2.1 = some (.array .int) := fun q hq => by cases hq; exact ⟨rfl, rfl, by decide +kernel⟩
theorem fF_12_39 : ∀ q : vw_C, vwCl[12]? = some q → (q.2.1 39).2.2.2 = true ∧ (q.2.1 39).1 = "ThirtyNineModel" ∧ parseFieldDescriptor (q.2.1 39).2.2.1 = some (.array .int) := fun q hq => by cases hq; exact ⟨rfl, rfl, by decide +kernel⟩
theorem fp_12_40 : ∀ q : vw_C, vwCl[12]? = some q → (q.2.1 40).2.2.2 = false ∧ parseFieldDescriptor (q.2.1 40).2.2.1 = some .int := fun q hq => by cases hq; exact ⟨rfl, by decide +kernel⟩
theorem fp_12_41 : ∀ q : vw_C, vwCl[12]? = some q → (q.2.1 41).2.2.2 = false ∧ parseFieldDescriptor (q.2.1 41).2.2.1 = some .int := fun q hq => by cases hq; exact ⟨rfl, by decide +kernel⟩
theorem fp_12_42 : ∀ q : vw_C, vwCl[12]? = some q → (q.2.1 42).2.2.2 = false ∧ parseFieldDescriptor (q.2.1 42).2.2.1 = some .boolean := fun q hq => by cases hq; exact ⟨rfl, by decide +kernel⟩
theorem fp_12_43 : ∀ q : vw_C, vwCl[12]? = some q → (q.2.1 43).2.2.2 = false ∧ parseFieldDescriptor (q.2.1 43).2.2.1 = some .long := fun q hq => by cases hq; exact ⟨rfl, by decide +kernel⟩
theorem fl_RX4_38_10 : pm_FL RX4 38 10 0 := ⟨cl_10, fun q hq => by cases hq; exact ⟨by decide, "ThirtyNine$School", kw_82, Or.inl rfl⟩⟩
theorem fl_RX11_89_10 : pm_FL RX11 89 10 0 := ⟨cl_10, fun q hq => by cases hq; exact ⟨by decide, "ThirtyNine$School", kw_83, Or.inl rfl⟩⟩
theorem fl_RX10_45_10 : pm_FL RX10 45 10 0 := ⟨cl_10, fun q hq => by cases hq; exact ⟨by decide, "ThirtyNine$School", kw_84, Or.inl rfl⟩⟩
theorem fl_RX2_65_10 : pm_FL RX2 65 10 0 := ⟨cl_10, fun q hq => by cases hq; exact ⟨by decide, "ThirtyNine$School", kw_85, Or.inl rfl⟩⟩
theorem fl_RX6_51_10 : pm_FL RX6 51 10 0 := ⟨cl_10, fun q hq => by cases hq; exact ⟨by decide, "ThirtyNine$School", kw_86, Or.inl rfl⟩⟩
theorem fl_RX1_59_10 : pm_FL RX1 59 10 1 := ⟨cl_10, fun q hq => by cases hq; exact ⟨by decide, "ThirtyNine$School", kw_87, Or.inl rfl⟩⟩
theorem fl_RX10_30_10 : pm_FL RX10 30 10 1 := ⟨cl_10, fun q hq => by cases hq; exact ⟨by decide, "ThirtyNine$School", kw_88, Or.inl rfl⟩⟩
theorem fl_RX10_9_10 : pm_FL RX10 9 10 2 := ⟨cl_10, fun q hq => by cases hq; exact ⟨by decide, "ThirtyNine$School", kw_89, Or.inl rfl⟩⟩
theorem fl_RX10_15_10 : pm_FL RX10 15 10 3 := ⟨cl_10, fun q hq => by cases hq; exact ⟨by decide, "ThirtyNine$School", kw_90, Or.inl rfl⟩⟩
theorem fl_RX10_18_10 : pm_FL RX10 18 10 4 := ⟨cl_10, fun q hq => by cases hq; exact ⟨by decide, "ThirtyNine$School", kw_91, Or.inl rfl⟩⟩
theorem fl_RX10_21_10 : pm_FL RX10 21 10 5 := ⟨cl_10, fun q hq => by cases hq; exact ⟨by decide, "ThirtyNine$School", kw_92, Or.inl rfl⟩⟩
theorem fl_RX10_24_10 : pm_FL RX10 24 10 6 := ⟨cl_10, fun q hq => by cases hq; exact ⟨by decide, "ThirtyNine$School", kw_93, Or.inl rfl⟩⟩
theorem fl_RX10_27_10 : pm_FL RX10 27 10 7 := ⟨cl_10, fun q hq => by cases hq; exact ⟨by decide, "ThirtyNine$School", kw_94, Or.inl rfl⟩⟩
theorem fl_RX6_9_6 : pm_FL RX6 9 6 0 := ⟨cl_6, fun q hq => by cases hq; exact ⟨by decide, "ThirtyNine$Page", kw_113, Or.inl rfl⟩⟩
theorem fl_RX6_18_6 : pm_FL RX6 18 6 1 := ⟨cl_6, fun q hq => by cases hq; exact ⟨by decide, "ThirtyNine$Page", kw_114, Or.inl rfl⟩⟩
theorem fl_RX6_26_6 : pm_FL RX6 26 6 2 := ⟨cl_6, fun q hq => by cases hq; exact ⟨by decide, "ThirtyNine$Page", kw_115, Or.inl rfl⟩⟩
theorem fl_RX6_34_6 : pm_FL RX6 34 6 3 := ⟨cl_6, fun q hq => by cases hq; exact ⟨by decide, "ThirtyNine$Page", kw_117, Or.inl rfl⟩⟩
theorem fl_RX6_37_6 : pm_FL RX6 37 6 4 := ⟨cl_6, fun q hq => by cases hq; exact ⟨by decide, "ThirtyNine$Page", kw_118, Or.inl rfl⟩⟩
theorem fl_RX6_72_6 : pm_FL RX6 72 6 5 := ⟨cl_6, fun q hq => by cases hq; exact ⟨by decide, "ThirtyNine$Page", kw_119, Or.inl rfl⟩⟩
theorem fl_RX1_9_1 : pm_FL RX1 9 1 0 := ⟨cl_1, fun q hq => by cases hq; exact ⟨by decide, "ThirtyNine$Bout", kw_143, Or.inl rfl⟩⟩
theorem fl_RX11_148_1 : pm_FL RX11 148 1 0 := ⟨cl_1, fun q hq => by cases hq; exact ⟨by decide, "ThirtyNine$Bout", kw_144, Or.inl rfl⟩⟩
theorem fl_RX1_20_1 : pm_FL RX1 20 1 1 := ⟨cl_1, fun q hq => by cases hq; exact ⟨by decide, "ThirtyNine$Bout", kw_145, Or.inl rfl⟩⟩
theorem fl_RX11_139_1 : pm_FL RX11 139 1 1 := ⟨cl_1, fun q hq => by cases hq; exact ⟨by decide, "ThirtyNine$Bout", kw_146, Or.inl rfl⟩⟩
theorem fl_RX1_23_1 : pm_FL RX1 23 1 2 := ⟨cl_1, fun q hq => by cases hq; exact ⟨by decide, "ThirtyNine$Bout", kw_147, Or.inl rfl⟩⟩
theorem fl_RX11_145_1 : pm_FL RX11 145 1 2 := ⟨cl_1, fun q hq => by cases hq; exact ⟨by decide, "ThirtyNine$Bout", kw_148, Or.inl rfl⟩⟩
theorem fl_RX1_26_1 : pm_FL RX1 26 1 3 := ⟨cl_1, fun q hq => by cases hq; exact ⟨by decide, "ThirtyNine$Bout", kw_149, Or.inl rfl⟩⟩
theorem fl_RX1_29_1 : pm_FL RX1 29 1 4 := ⟨cl_1, fun q hq => by cases hq; exact ⟨by decide, "ThirtyNine$Bout", kw_150, Or.inl rfl⟩⟩
theorem fl_RX1_32_1 : pm_FL RX1 32 1 5 := ⟨cl_1, fun q hq => by cases hq; exact ⟨by decide, "ThirtyNine$Bout", kw_151, Or.inl rfl⟩⟩
theorem fl_RX3_24_3 : pm_FL RX3 24 3 0 := ⟨cl_3, fun q hq => by cases hq; exact ⟨by decide, "ThirtyNine$Ledger", kw_171, Or.inl rfl⟩⟩
theorem fl_RX11_188_3 : pm_FL RX11 188 3 0 := ⟨cl_3, fun q hq => by cases hq; exact ⟨by decide, "ThirtyNine$Ledger", kw_172, Or.inl rfl⟩⟩
theorem fl_RX3_62_3 : pm_FL RX3 62 3 1 := ⟨cl_3, fun q hq => by cases hq; exact ⟨by decide, "ThirtyNine$Ledger", kw_173, Or.inl rfl⟩⟩
theorem fl_RX11_178_3 : pm_FL RX11 178 3 1 := ⟨cl_3, fun q hq => by cases hq; exact ⟨by decide, "ThirtyNine$Ledger", kw_174, Or.inl rfl⟩⟩
theorem fl_RX3_65_3 : pm_FL RX3 65 3 2 := ⟨cl_3, fun q hq => by cases hq; exact ⟨by decide, "ThirtyNine$Ledger", kw_175, Or.inl rfl⟩⟩
theorem fl_RX11_181_3 : pm_FL RX11 181 3 2 := ⟨cl_3, fun q hq => by cases hq; exact ⟨by decide, "ThirtyNine$Ledger", kw_176, Or.inl rfl⟩⟩
theorem fl_RX3_9_3 : pm_FL RX3 9 3 3 := ⟨cl_3, fun q hq => by cases hq; exact ⟨by decide, "ThirtyNine$Ledger", kw_177, Or.inl rfl⟩⟩
theorem fl_RX3_15_3 : pm_FL RX3 15 3 4 := ⟨cl_3, fun q hq => by cases hq; exact ⟨by decide, "ThirtyNine$Ledger", kw_178, Or.inl rfl⟩⟩
theorem fl_RX3_18_3 : pm_FL RX3 18 3 5 := ⟨cl_3, fun q hq => by cases hq; exact ⟨by decide, "ThirtyNine$Ledger", kw_179, Or.inl rfl⟩⟩
theorem fl_RX3_21_3 : pm_FL RX3 21 3 6 := ⟨cl_3, fun q hq => by cases hq; exact ⟨by decide, "ThirtyNine$Ledger", kw_180, Or.inl rfl⟩⟩
theorem fl_RX3_33_3 : pm_FL RX3 33 3 7 := ⟨cl_3, fun q hq => by cases hq; exact ⟨by decide, "ThirtyNine$Ledger", kw_181, Or.inl rfl⟩⟩
theorem fl_RX9_11_9 : pm_FL RX9 11 9 0 := ⟨cl_9, fun q hq => by cases hq; exact ⟨by decide, "ThirtyNine$Reaching", kw_206, Or.inl rfl⟩⟩
theorem fl_RX9_17_9 : pm_FL RX9 17 9 1 := ⟨cl_9, fun q hq => by cases hq; exact ⟨by decide, "ThirtyNine$Reaching", kw_207, Or.inl rfl⟩⟩
theorem fl_RX9_21_9 : pm_FL RX9 21 9 2 := ⟨cl_9, fun q hq => by cases hq; exact ⟨by decide, "ThirtyNine$Reaching", kw_208, Or.inl rfl⟩⟩
theorem fl_RX2_24_2 : pm_FL RX2 24 2 0 := ⟨cl_2, fun q hq => by cases hq; exact ⟨by decide, "ThirtyNine$Comers", kw_224, Or.inl rfl⟩⟩
theorem fl_RX11_265_2 : pm_FL RX11 265 2 0 := ⟨cl_2, fun q hq => by cases hq; exact ⟨by decide, "ThirtyNine$Comers", kw_225, Or.inl rfl⟩⟩
theorem fl_RX2_11_2 : pm_FL RX2 11 2 1 := ⟨cl_2, fun q hq => by cases hq; exact ⟨by decide, "ThirtyNine$Comers", kw_226, Or.inl rfl⟩⟩
theorem fl_RX2_17_2 : pm_FL RX2 17 2 2 := ⟨cl_2, fun q hq => by cases hq; exact ⟨by decide, "ThirtyNine$Comers", kw_227, Or.inl rfl⟩⟩
theorem fl_RX2_21_2 : pm_FL RX2 21 2 3 := ⟨cl_2, fun q hq => by cases hq; exact ⟨by decide, "ThirtyNine$Comers", kw_228, Or.inl rfl⟩⟩
theorem fl_RX11_12_11 : pm_FL RX11 12 11 0 := ⟨cl_11, fun q hq => by cases hq; exact ⟨by decide, "ThirtyNine", kw_238, Or.inl rfl⟩⟩
theorem fl_RX11_18_11 : pm_FL RX11 18 11 1 := ⟨cl_11, fun q hq => by cases hq; exact ⟨by decide, "ThirtyNine", kw_239, Or.inl rfl⟩⟩
theorem fl_RX11_24_11 : pm_FL RX11 24 11 2 := ⟨cl_11, fun q hq => by cases hq; exact ⟨by decide, "ThirtyNine", kw_240, Or.inl rfl⟩⟩
theorem fl_RX11_31_11 : pm_FL RX11 31 11 3 := ⟨cl_11, fun q hq => by cases hq; exact ⟨by decide, "ThirtyNine", kw_241, Or.inl rfl⟩⟩
theorem fl_RX11_38_11 : pm_FL RX11 38 11 4 := ⟨cl_11, fun q hq => by cases hq; exact ⟨by decide, "ThirtyNine", kw_242, Or.inl rfl⟩⟩
theorem fl_RX11_45_11 : pm_FL RX11 45 11 5 := ⟨cl_11, fun q hq => by cases hq; exact ⟨by decide, "ThirtyNine", kw_243, Or.inl rfl⟩⟩
theorem fl_RX11_52_11 : pm_FL RX11 52 11 6 := ⟨cl_11, fun q hq => by cases hq; exact ⟨by decide, "ThirtyNine", kw_244, Or.inl rfl⟩⟩
theorem fl_RX11_56_11 : pm_FL RX11 56 11 7 := ⟨cl_11, fun q hq => by cases hq; exact ⟨by decide, "ThirtyNine", kw_245, Or.inl rfl⟩⟩
theorem fl_RX11_82_11 : pm_FL RX11 82 11 8 := ⟨cl_11, fun q hq => by cases hq; exact ⟨by decide, "ThirtyNine", kw_246, Or.inl rfl⟩⟩
theorem fl_RX11_103_11 : pm_FL RX11 103 11 9 := ⟨cl_11, fun q hq => by cases hq; exact ⟨by decide, "ThirtyNine", kw_247, Or.inl rfl⟩⟩
theorem fl_RX11_60_11 : pm_FL RX11 60 11 10 := ⟨cl_11, fun q hq => by cases hq; exact ⟨by decide, "ThirtyNine", kw_248, Or.inl rfl⟩⟩
theorem fl_RX11_64_11 : pm_FL RX11 64 11 11 := ⟨cl_11, fun q hq => by cases hq; exact ⟨by decide, "ThirtyNine", kw_249, Or.inl rfl⟩⟩
theorem fl_RX4_15_0 : pm_FL RX4 15 0 0 := ⟨cl_0, fun q hq => by cases hq; exact ⟨by decide, "ThirtyNine$Nut", kw_394, Or.inl rfl⟩⟩
theorem fl_RX4_15_4 : pm_FL RX4 15 4 0 := ⟨cl_4, fun q hq => by cases hq; exact ⟨by decide, "ThirtyNine$Nut", kw_394, Or.inl rfl⟩⟩
theorem fl_RX4_15_5 : pm_FL RX4 15 5 0 := ⟨cl_5, fun q hq => by cases hq; exact ⟨by decide, "ThirtyNine$Nut", kw_394, Or.inl rfl⟩⟩
theorem fl_RX4_15_7 : pm_FL RX4 15 7 0 := ⟨cl_7, fun q hq => by cases hq; exact ⟨by decide, "ThirtyNine$Nut", kw_394, Or.inl rfl⟩⟩
theorem fl_RX4_15_8 : pm_FL RX4 15 8 0 := ⟨cl_8, fun q hq => by cases hq; exact ⟨by decide, "ThirtyNine$Nut", kw_394, Or.inl rfl⟩⟩
theorem fl_RX1_55_0 : pm_FL RX1 55 0 0 := ⟨cl_0, fun q hq => by cases hq; exact ⟨by decide, "ThirtyNine$Nut", kw_395, Or.inl rfl⟩⟩
theorem fl_RX1_55_4 : pm_FL RX1 55 4 0 := ⟨cl_4, fun q hq => by cases hq; exact ⟨by decide, "ThirtyNine$Nut", kw_395, Or.inl rfl⟩⟩
theorem fl_RX1_55_5 : pm_FL RX1 55 5 0 := ⟨cl_5, fun q hq => by cases hq; exact ⟨by decide, "ThirtyNine$Nut", kw_395, Or.inl rfl⟩⟩
theorem fl_RX1_55_7 : pm_FL RX1 55 7 0 := ⟨cl_7, fun q hq => by cases hq; exact ⟨by decide, "ThirtyNine$Nut", kw_395, Or.inl rfl⟩⟩
theorem fl_RX1_55_8 : pm_FL RX1 55 8 0 := ⟨cl_8, fun q hq => by cases hq; exact ⟨by decide, "ThirtyNine$Nut", kw_395, Or.inl rfl⟩⟩
theorem fl_RX2_39_0 : pm_FL RX2 39 0 0 := ⟨cl_0, fun q hq => by cases hq; exact ⟨by decide, "ThirtyNine$Nut", kw_396, Or.inl rfl⟩⟩
theorem fl_RX2_39_4 : pm_FL RX2 39 4 0 := ⟨cl_4, fun q hq => by cases hq; exact ⟨by decide, "ThirtyNine$Nut", kw_396, Or.inl rfl⟩⟩
theorem fl_RX2_39_5 : pm_FL RX2 39 5 0 := ⟨cl_5, fun q hq => by cases hq; exact ⟨by decide, "ThirtyNine$Nut", kw_396, Or.inl rfl⟩⟩
theorem fl_RX2_39_7 : pm_FL RX2 39 7 0 := ⟨cl_7, fun q hq => by cases hq; exact ⟨by decide, "ThirtyNine$Nut", kw_396, Or.inl rfl⟩⟩
theorem fl_RX2_39_8 : pm_FL RX2 39 8 0 := ⟨cl_8, fun q hq => by cases hq; exact ⟨by decide, "ThirtyNine$Nut", kw_396, Or.inl rfl⟩⟩
theorem fl_RX9_55_0 : pm_FL RX9 55 0 0 := ⟨cl_0, fun q hq => by cases hq; exact ⟨by decide, "ThirtyNine$Nut", kw_397, Or.inl rfl⟩⟩
theorem fl_RX9_55_4 : pm_FL RX9 55 4 0 := ⟨cl_4, fun q hq => by cases hq; exact ⟨by decide, "ThirtyNine$Nut", kw_397, Or.inl rfl⟩⟩
theorem fl_RX9_55_5 : pm_FL RX9 55 5 0 := ⟨cl_5, fun q hq => by cases hq; exact ⟨by decide, "ThirtyNine$Nut", kw_397, Or.inl rfl⟩⟩
theorem fl_RX9_55_7 : pm_FL RX9 55 7 0 := ⟨cl_7, fun q hq => by cases hq; exact ⟨by decide, "ThirtyNine$Nut", kw_397, Or.inl rfl⟩⟩
theorem fl_RX9_55_8 : pm_FL RX9 55 8 0 := ⟨cl_8, fun q hq => by cases hq; exact ⟨by decide, "ThirtyNine$Nut", kw_397, Or.inl rfl⟩⟩
theorem fl_RX3_43_0 : pm_FL RX3 43 0 0 := ⟨cl_0, fun q hq => by cases hq; exact ⟨by decide, "ThirtyNine$Nut", kw_398, Or.inl rfl⟩⟩
theorem fl_RX3_43_4 : pm_FL RX3 43 4 0 := ⟨cl_4, fun q hq => by cases hq; exact ⟨by decide, "ThirtyNine$Nut", kw_398, Or.inl rfl⟩⟩
theorem fl_RX3_43_5 : pm_FL RX3 43 5 0 := ⟨cl_5, fun q hq => by cases hq; exact ⟨by decide, "ThirtyNine$Nut", kw_398, Or.inl rfl⟩⟩
theorem fl_RX3_43_7 : pm_FL RX3 43 7 0 := ⟨cl_7, fun q hq => by cases hq; exact ⟨by decide, "ThirtyNine$Nut", kw_398, Or.inl rfl⟩⟩
theorem fl_RX3_43_8 : pm_FL RX3 43 8 0 := ⟨cl_8, fun q hq => by cases hq; exact ⟨by decide, "ThirtyNine$Nut", kw_398, Or.inl rfl⟩⟩
theorem fl_RX4_19_0 : pm_FL RX4 19 0 1 := ⟨cl_0, fun q hq => by cases hq; exact ⟨by decide, "ThirtyNine$Nut", kw_399, Or.inl rfl⟩⟩
theorem fl_RX4_19_4 : pm_FL RX4 19 4 1 := ⟨cl_4, fun q hq => by cases hq; exact ⟨by decide, "ThirtyNine$Nut", kw_399, Or.inl rfl⟩⟩
theorem fl_RX4_19_5 : pm_FL RX4 19 5 1 := ⟨cl_5, fun q hq => by cases hq; exact ⟨by decide, "ThirtyNine$Nut", kw_399, Or.inl rfl⟩⟩
theorem fl_RX4_19_7 : pm_FL RX4 19 7 1 := ⟨cl_7, fun q hq => by cases hq; exact ⟨by decide, "ThirtyNine$Nut", kw_399, Or.inl rfl⟩⟩
theorem fl_RX4_19_8 : pm_FL RX4 19 8 1 := ⟨cl_8, fun q hq => by cases hq; exact ⟨by decide, "ThirtyNine$Nut", kw_399, Or.inl rfl⟩⟩
theorem fl_RX0_9_0 : pm_FL RX0 9 0 1 := ⟨cl_0, fun q hq => by cases hq; exact ⟨by decide, "ThirtyNine$Baked", kw_400, Or.inr kw_401⟩⟩
theorem fl_RX0_9_4 : pm_FL RX0 9 4 1 := ⟨cl_4, fun q hq => by cases hq; exact ⟨by decide, "ThirtyNine$Baked", kw_400, Or.inr kw_401⟩⟩
theorem fl_RX0_9_5 : pm_FL RX0 9 5 1 := ⟨cl_5, fun q hq => by cases hq; exact ⟨by decide, "ThirtyNine$Baked", kw_400, Or.inr kw_401⟩⟩
theorem fl_RX0_9_7 : pm_FL RX0 9 7 1 := ⟨cl_7, fun q hq => by cases hq; exact ⟨by decide, "ThirtyNine$Baked", kw_400, Or.inr kw_401⟩⟩
theorem fl_RX0_9_8 : pm_FL RX0 9 8 1 := ⟨cl_8, fun q hq => by cases hq; exact ⟨by decide, "ThirtyNine$Baked", kw_400, Or.inr kw_401⟩⟩
theorem fl_RX5_9_0 : pm_FL RX5 9 0 1 := ⟨cl_0, fun q hq => by cases hq; exact ⟨by decide, "ThirtyNine$Old", kw_402, Or.inr kw_403⟩⟩
theorem fl_RX5_9_4 : pm_FL RX5 9 4 1 := ⟨cl_4, fun q hq => by cases hq; exact ⟨by decide, "ThirtyNine$Old", kw_402, Or.inr kw_403⟩⟩
theorem fl_RX5_9_5 : pm_FL RX5 9 5 1 := ⟨cl_5, fun q hq => by cases hq; exact ⟨by decide, "ThirtyNine$Old", kw_402, Or.inr kw_403⟩⟩
theorem fl_RX5_9_7 : pm_FL RX5 9 7 1 := ⟨cl_7, fun q hq => by cases hq; exact ⟨by decide, "ThirtyNine$Old", kw_402, Or.inr kw_403⟩⟩
theorem fl_RX5_9_8 : pm_FL RX5 9 8 1 := ⟨cl_8, fun q hq => by cases hq; exact ⟨by decide, "ThirtyNine$Old", kw_402, Or.inr kw_403⟩⟩
theorem fl_RX8_9_0 : pm_FL RX8 9 0 1 := ⟨cl_0, fun q hq => by cases hq; exact ⟨by decide, "ThirtyNine$Pickled", kw_404, Or.inr kw_405⟩⟩
theorem fl_RX8_9_4 : pm_FL RX8 9 4 1 := ⟨cl_4, fun q hq => by cases hq; exact ⟨by decide, "ThirtyNine$Pickled", kw_404, Or.inr kw_405⟩⟩
theorem fl_RX8_9_5 : pm_FL RX8 9 5 1 := ⟨cl_5, fun q hq => by cases hq; exact ⟨by decide, "ThirtyNine$Pickled", kw_404, Or.inr kw_405⟩⟩
theorem fl_RX8_9_7 : pm_FL RX8 9 7 1 := ⟨cl_7, fun q hq => by cases hq; exact ⟨by decide, "ThirtyNine$Pickled", kw_404, Or.inr kw_405⟩⟩
theorem fl_RX8_9_8 : pm_FL RX8 9 8 1 := ⟨cl_8, fun q hq => by cases hq; exact ⟨by decide, "ThirtyNine$Pickled", kw_404, Or.inr kw_405⟩⟩
theorem fl_RX4_22_0 : pm_FL RX4 22 0 2 := ⟨cl_0, fun q hq => by cases hq; exact ⟨by decide, "ThirtyNine$Nut", kw_406, Or.inl rfl⟩⟩
theorem fl_RX4_22_4 : pm_FL RX4 22 4 2 := ⟨cl_4, fun q hq => by cases hq; exact ⟨by decide, "ThirtyNine$Nut", kw_406, Or.inl rfl⟩⟩
theorem fl_RX4_22_5 : pm_FL RX4 22 5 2 := ⟨cl_5, fun q hq => by cases hq; exact ⟨by decide, "ThirtyNine$Nut", kw_406, Or.inl rfl⟩⟩
theorem fl_RX4_22_7 : pm_FL RX4 22 7 2 := ⟨cl_7, fun q hq => by cases hq; exact ⟨by decide, "ThirtyNine$Nut", kw_406, Or.inl rfl⟩⟩
theorem fl_RX4_22_8 : pm_FL RX4 22 8 2 := ⟨cl_8, fun q hq => by cases hq; exact ⟨by decide, "ThirtyNine$Nut", kw_406, Or.inl rfl⟩⟩
theorem fl_RX3_28_0 : pm_FL RX3 28 0 2 := ⟨cl_0, fun q hq => by cases hq; exact ⟨by decide, "ThirtyNine$Nut", kw_407, Or.inl rfl⟩⟩
theorem fl_RX3_28_4 : pm_FL RX3 28 4 2 := ⟨cl_4, fun q hq => by cases hq; exact ⟨by decide, "ThirtyNine$Nut", kw_407, Or.inl rfl⟩⟩
theorem fl_RX3_28_5 : pm_FL RX3 28 5 2 := ⟨cl_5, fun q hq => by cases hq; exact ⟨by decide, "ThirtyNine$Nut", kw_407, Or.inl rfl⟩⟩
theorem fl_RX3_28_7 : pm_FL RX3 28 7 2 := ⟨cl_7, fun q hq => by cases hq; exact ⟨by decide, "ThirtyNine$Nut", kw_407, Or.inl rfl⟩⟩
theorem fl_RX3_28_8 : pm_FL RX3 28 8 2 := ⟨cl_8, fun q hq => by cases hq; exact ⟨by decide, "ThirtyNine$Nut", kw_407, Or.inl rfl⟩⟩
theorem fl_RX1_43_0 : pm_FL RX1 43 0 2 := ⟨cl_0, fun q hq => by cases hq; exact ⟨by decide, "ThirtyNine$Nut", kw_408, Or.inl rfl⟩⟩
theorem fl_RX1_43_4 : pm_FL RX1 43 4 2 := ⟨cl_4, fun q hq => by cases hq; exact ⟨by decide, "ThirtyNine$Nut", kw_408, Or.inl rfl⟩⟩
theorem fl_RX1_43_5 : pm_FL RX1 43 5 2 := ⟨cl_5, fun q hq => by cases hq; exact ⟨by decide, "ThirtyNine$Nut", kw_408, Or.inl rfl⟩⟩
theorem fl_RX1_43_7 : pm_FL RX1 43 7 2 := ⟨cl_7, fun q hq => by cases hq; exact ⟨by decide, "ThirtyNine$Nut", kw_408, Or.inl rfl⟩⟩
theorem fl_RX1_43_8 : pm_FL RX1 43 8 2 := ⟨cl_8, fun q hq => by cases hq; exact ⟨by decide, "ThirtyNine$Nut", kw_408, Or.inl rfl⟩⟩
theorem fl_RX11_114_0 : pm_FL RX11 114 0 2 := ⟨cl_0, fun q hq => by cases hq; exact ⟨by decide, "ThirtyNine$Nut", kw_409, Or.inl rfl⟩⟩
theorem fl_RX11_114_4 : pm_FL RX11 114 4 2 := ⟨cl_4, fun q hq => by cases hq; exact ⟨by decide, "ThirtyNine$Nut", kw_409, Or.inl rfl⟩⟩
theorem fl_RX11_114_5 : pm_FL RX11 114 5 2 := ⟨cl_5, fun q hq => by cases hq; exact ⟨by decide, "ThirtyNine$Nut", kw_409, Or.inl rfl⟩⟩
theorem fl_RX11_114_7 : pm_FL RX11 114 7 2 := ⟨cl_7, fun q hq => by cases hq; exact ⟨by decide, "ThirtyNine$Nut", kw_409, Or.inl rfl⟩⟩
theorem fl_RX11_114_8 : pm_FL RX11 114 8 2 := ⟨cl_8, fun q hq => by cases hq; exact ⟨by decide, "ThirtyNine$Nut", kw_409, Or.inl rfl⟩⟩
theorem fl_RX4_25_0 : pm_FL RX4 25 0 3 := ⟨cl_0, fun q hq => by cases hq; exact ⟨by decide, "ThirtyNine$Nut", kw_410, Or.inl rfl⟩⟩
theorem fl_RX4_25_4 : pm_FL RX4 25 4 3 := ⟨cl_4, fun q hq => by cases hq; exact ⟨by decide, "ThirtyNine$Nut", kw_410, Or.inl rfl⟩⟩
theorem fl_RX4_25_5 : pm_FL RX4 25 5 3 := ⟨cl_5, fun q hq => by cases hq; exact ⟨by decide, "ThirtyNine$Nut", kw_410, Or.inl rfl⟩⟩
theorem fl_RX4_25_7 : pm_FL RX4 25 7 3 := ⟨cl_7, fun q hq => by cases hq; exact ⟨by decide, "ThirtyNine$Nut", kw_410, Or.inl rfl⟩⟩
theorem fl_RX4_25_8 : pm_FL RX4 25 8 3 := ⟨cl_8, fun q hq => by cases hq; exact ⟨by decide, "ThirtyNine$Nut", kw_410, Or.inl rfl⟩⟩
theorem fl_RX9_33_0 : pm_FL RX9 33 0 3 := ⟨cl_0, fun q hq => by cases hq; exact ⟨by decide, "ThirtyNine$Nut", kw_411, Or.inl rfl⟩⟩
theorem fl_RX9_33_4 : pm_FL RX9 33 4 3 := ⟨cl_4, fun q hq => by cases hq; exact ⟨by decide, "ThirtyNine$Nut", kw_411, Or.inl rfl⟩⟩
theorem fl_RX9_33_5 : pm_FL RX9 33 5 3 := ⟨cl_5, fun q hq => by cases hq; exact ⟨by decide, "ThirtyNine$Nut", kw_411, Or.inl rfl⟩⟩
theorem fl_RX9_33_7 : pm_FL RX9 33 7 3 := ⟨cl_7, fun q hq => by cases hq; exact ⟨by decide, "ThirtyNine$Nut", kw_411, Or.inl rfl⟩⟩
theorem fl_RX9_33_8 : pm_FL RX9 33 8 3 := ⟨cl_8, fun q hq => by cases hq; exact ⟨by decide, "ThirtyNine$Nut", kw_411, Or.inl rfl⟩⟩
theorem fl_RX3_36_0 : pm_FL RX3 36 0 3 := ⟨cl_0, fun q hq => by cases hq; exact ⟨by decide, "ThirtyNine$Nut", kw_412, Or.inl rfl⟩⟩
theorem fl_RX3_36_4 : pm_FL RX3 36 4 3 := ⟨cl_4, fun q hq => by cases hq; exact ⟨by decide, "ThirtyNine$Nut", kw_412, Or.inl rfl⟩⟩
theorem fl_RX3_36_5 : pm_FL RX3 36 5 3 := ⟨cl_5, fun q hq => by cases hq; exact ⟨by decide, "ThirtyNine$Nut", kw_412, Or.inl rfl⟩⟩
theorem fl_RX3_36_7 : pm_FL RX3 36 7 3 := ⟨cl_7, fun q hq => by cases hq; exact ⟨by decide, "ThirtyNine$Nut", kw_412, Or.inl rfl⟩⟩
theorem fl_RX3_36_8 : pm_FL RX3 36 8 3 := ⟨cl_8, fun q hq => by cases hq; exact ⟨by decide, "ThirtyNine$Nut", kw_412, Or.inl rfl⟩⟩
theorem fl_RX4_31_0 : pm_FL RX4 31 0 4 := ⟨cl_0, fun q hq => by cases hq; exact ⟨by decide, "ThirtyNine$Nut", kw_413, Or.inl rfl⟩⟩
theorem fl_RX4_31_4 : pm_FL RX4 31 4 4 := ⟨cl_4, fun q hq => by cases hq; exact ⟨by decide, "ThirtyNine$Nut", kw_413, Or.inl rfl⟩⟩
theorem fl_RX4_31_5 : pm_FL RX4 31 5 4 := ⟨cl_5, fun q hq => by cases hq; exact ⟨by decide, "ThirtyNine$Nut", kw_413, Or.inl rfl⟩⟩
theorem fl_RX4_31_7 : pm_FL RX4 31 7 4 := ⟨cl_7, fun q hq => by cases hq; exact ⟨by decide, "ThirtyNine$Nut", kw_413, Or.inl rfl⟩⟩
theorem fl_RX4_31_8 : pm_FL RX4 31 8 4 := ⟨cl_8, fun q hq => by cases hq; exact ⟨by decide, "ThirtyNine$Nut", kw_413, Or.inl rfl⟩⟩
theorem fl_RX11_152_0 : pm_FL RX11 152 0 4 := ⟨cl_0, fun q hq => by cases hq; exact ⟨by decide, "ThirtyNine$Nut", kw_414, Or.inl rfl⟩⟩
theorem fl_RX11_152_4 : pm_FL RX11 152 4 4 := ⟨cl_4, fun q hq => by cases hq; exact ⟨by decide, "ThirtyNine$Nut", kw_414, Or.inl rfl⟩⟩
theorem fl_RX11_152_5 : pm_FL RX11 152 5 4 := ⟨cl_5, fun q hq => by cases hq; exact ⟨by decide, "ThirtyNine$Nut", kw_414, Or.inl rfl⟩⟩
theorem fl_RX11_152_7 : pm_FL RX11 152 7 4 := ⟨cl_7, fun q hq => by cases hq; exact ⟨by decide, "ThirtyNine$Nut", kw_414, Or.inl rfl⟩⟩
theorem fl_RX11_152_8 : pm_FL RX11 152 8 4 := ⟨cl_8, fun q hq => by cases hq; exact ⟨by decide, "ThirtyNine$Nut", kw_414, Or.inl rfl⟩⟩
theorem fl_RX4_28_0 : pm_FL RX4 28 0 5 := ⟨cl_0, fun q hq => by cases hq; exact ⟨by decide, "ThirtyNine$Nut", kw_415, Or.inl rfl⟩⟩
theorem fl_RX4_28_4 : pm_FL RX4 28 4 5 := ⟨cl_4, fun q hq => by cases hq; exact ⟨by decide, "ThirtyNine$Nut", kw_415, Or.inl rfl⟩⟩
theorem fl_RX4_28_5 : pm_FL RX4 28 5 5 := ⟨cl_5, fun q hq => by cases hq; exact ⟨by decide, "ThirtyNine$Nut", kw_415, Or.inl rfl⟩⟩
theorem fl_RX4_28_7 : pm_FL RX4 28 7 5 := ⟨cl_7, fun q hq => by cases hq; exact ⟨by decide, "ThirtyNine$Nut", kw_415, Or.inl rfl⟩⟩
theorem fl_RX4_28_8 : pm_FL RX4 28 8 5 := ⟨cl_8, fun q hq => by cases hq; exact ⟨by decide, "ThirtyNine$Nut", kw_415, Or.inl rfl⟩⟩
theorem fl_RX2_28_0 : pm_FL RX2 28 0 5 := ⟨cl_0, fun q hq => by cases hq; exact ⟨by decide, "ThirtyNine$Nut", kw_416, Or.inl rfl⟩⟩
theorem fl_RX2_28_4 : pm_FL RX2 28 4 5 := ⟨cl_4, fun q hq => by cases hq; exact ⟨by decide, "ThirtyNine$Nut", kw_416, Or.inl rfl⟩⟩
theorem fl_RX2_28_5 : pm_FL RX2 28 5 5 := ⟨cl_5, fun q hq => by cases hq; exact ⟨by decide, "ThirtyNine$Nut", kw_416, Or.inl rfl⟩⟩
theorem fl_RX2_28_7 : pm_FL RX2 28 7 5 := ⟨cl_7, fun q hq => by cases hq; exact ⟨by decide, "ThirtyNine$Nut", kw_416, Or.inl rfl⟩⟩
theorem fl_RX2_28_8 : pm_FL RX2 28 8 5 := ⟨cl_8, fun q hq => by cases hq; exact ⟨by decide, "ThirtyNine$Nut", kw_416, Or.inl rfl⟩⟩
theorem fl_RX1_15_0 : pm_FL RX1 15 0 6 := ⟨cl_0, fun q hq => by cases hq; exact ⟨by decide, "ThirtyNine$Nut", kw_417, Or.inl rfl⟩⟩
theorem fl_RX1_15_4 : pm_FL RX1 15 4 6 := ⟨cl_4, fun q hq => by cases hq; exact ⟨by decide, "ThirtyNine$Nut", kw_417, Or.inl rfl⟩⟩
theorem fl_RX1_15_5 : pm_FL RX1 15 5 6 := ⟨cl_5, fun q hq => by cases hq; exact ⟨by decide, "ThirtyNine$Nut", kw_417, Or.inl rfl⟩⟩
theorem fl_RX1_15_7 : pm_FL RX1 15 7 6 := ⟨cl_7, fun q hq => by cases hq; exact ⟨by decide, "ThirtyNine$Nut", kw_417, Or.inl rfl⟩⟩
theorem fl_RX1_15_8 : pm_FL RX1 15 8 6 := ⟨cl_8, fun q hq => by cases hq; exact ⟨by decide, "ThirtyNine$Nut", kw_417, Or.inl rfl⟩⟩
theorem fl_RX4_44_0 : pm_FL RX4 44 0 6 := ⟨cl_0, fun q hq => by cases hq; exact ⟨by decide, "ThirtyNine$Nut", kw_418, Or.inl rfl⟩⟩
theorem fl_RX4_44_4 : pm_FL RX4 44 4 6 := ⟨cl_4, fun q hq => by cases hq; exact ⟨by decide, "ThirtyNine$Nut", kw_418, Or.inl rfl⟩⟩
theorem fl_RX4_44_5 : pm_FL RX4 44 5 6 := ⟨cl_5, fun q hq => by cases hq; exact ⟨by decide, "ThirtyNine$Nut", kw_418, Or.inl rfl⟩⟩
theorem fl_RX4_44_7 : pm_FL RX4 44 7 6 := ⟨cl_7, fun q hq => by cases hq; exact ⟨by decide, "ThirtyNine$Nut", kw_418, Or.inl rfl⟩⟩
theorem fl_RX4_44_8 : pm_FL RX4 44 8 6 := ⟨cl_8, fun q hq => by cases hq; exact ⟨by decide, "ThirtyNine$Nut", kw_418, Or.inl rfl⟩⟩
theorem fl_RX11_142_0 : pm_FL RX11 142 0 6 := ⟨cl_0, fun q hq => by cases hq; exact ⟨by decide, "ThirtyNine$Nut", kw_419, Or.inl rfl⟩⟩
theorem fl_RX11_142_4 : pm_FL RX11 142 4 6 := ⟨cl_4, fun q hq => by cases hq; exact ⟨by decide, "ThirtyNine$Nut", kw_419, Or.inl rfl⟩⟩
theorem fl_RX11_142_5 : pm_FL RX11 142 5 6 := ⟨cl_5, fun q hq => by cases hq; exact ⟨by decide, "ThirtyNine$Nut", kw_419, Or.inl rfl⟩⟩
theorem fl_RX11_142_7 : pm_FL RX11 142 7 6 := ⟨cl_7, fun q hq => by cases hq; exact ⟨by decide, "ThirtyNine$Nut", kw_419, Or.inl rfl⟩⟩
theorem fl_RX11_142_8 : pm_FL RX11 142 8 6 := ⟨cl_8, fun q hq => by cases hq; exact ⟨by decide, "ThirtyNine$Nut", kw_419, Or.inl rfl⟩⟩
theorem fl_RX4_47_0 : pm_FL RX4 47 0 7 := ⟨cl_0, fun q hq => by cases hq; exact ⟨by decide, "ThirtyNine$Nut", kw_420, Or.inl rfl⟩⟩
theorem fl_RX4_47_4 : pm_FL RX4 47 4 7 := ⟨cl_4, fun q hq => by cases hq; exact ⟨by decide, "ThirtyNine$Nut", kw_420, Or.inl rfl⟩⟩
theorem fl_RX4_47_5 : pm_FL RX4 47 5 7 := ⟨cl_5, fun q hq => by cases hq; exact ⟨by decide, "ThirtyNine$Nut", kw_420, Or.inl rfl⟩⟩
theorem fl_RX4_47_7 : pm_FL RX4 47 7 7 := ⟨cl_7, fun q hq => by cases hq; exact ⟨by decide, "ThirtyNine$Nut", kw_420, Or.inl rfl⟩⟩
theorem fl_RX4_47_8 : pm_FL RX4 47 8 7 := ⟨cl_8, fun q hq => by cases hq; exact ⟨by decide, "ThirtyNine$Nut", kw_420, Or.inl rfl⟩⟩
theorem fl_RX11_127_0 : pm_FL RX11 127 0 7 := ⟨cl_0, fun q hq => by cases hq; exact ⟨by decide, "ThirtyNine$Nut", kw_421, Or.inl rfl⟩⟩
theorem fl_RX11_127_4 : pm_FL RX11 127 4 7 := ⟨cl_4, fun q hq => by cases hq; exact ⟨by decide, "ThirtyNine$Nut", kw_421, Or.inl rfl⟩⟩
theorem fl_RX11_127_5 : pm_FL RX11 127 5 7 := ⟨cl_5, fun q hq => by cases hq; exact ⟨by decide, "ThirtyNine$Nut", kw_421, Or.inl rfl⟩⟩
theorem fl_RX11_127_7 : pm_FL RX11 127 7 7 := ⟨cl_7, fun q hq => by cases hq; exact ⟨by decide, "ThirtyNine$Nut", kw_421, Or.inl rfl⟩⟩
theorem fl_RX11_127_8 : pm_FL RX11 127 8 7 := ⟨cl_8, fun q hq => by cases hq; exact ⟨by decide, "ThirtyNine$Nut", kw_421, Or.inl rfl⟩⟩
theorem fl_RX4_9_0 : pm_FL RX4 9 0 8 := ⟨cl_0, fun q hq => by cases hq; exact ⟨by decide, "ThirtyNine$Nut", kw_422, Or.inl rfl⟩⟩
theorem fl_RX4_9_4 : pm_FL RX4 9 4 8 := ⟨cl_4, fun q hq => by cases hq; exact ⟨by decide, "ThirtyNine$Nut", kw_422, Or.inl rfl⟩⟩
theorem fl_RX4_9_5 : pm_FL RX4 9 5 8 := ⟨cl_5, fun q hq => by cases hq; exact ⟨by decide, "ThirtyNine$Nut", kw_422, Or.inl rfl⟩⟩
theorem fl_RX4_9_7 : pm_FL RX4 9 7 8 := ⟨cl_7, fun q hq => by cases hq; exact ⟨by decide, "ThirtyNine$Nut", kw_422, Or.inl rfl⟩⟩
theorem fl_RX4_9_8 : pm_FL RX4 9 8 8 := ⟨cl_8, fun q hq => by cases hq; exact ⟨by decide, "ThirtyNine$Nut", kw_422, Or.inl rfl⟩⟩
theorem fl_RX3_59_0 : pm_FL RX3 59 0 8 := ⟨cl_0, fun q hq => by cases hq; exact ⟨by decide, "ThirtyNine$Nut", kw_423, Or.inl rfl⟩⟩
theorem fl_RX3_59_4 : pm_FL RX3 59 4 8 := ⟨cl_4, fun q hq => by cases hq; exact ⟨by decide, "ThirtyNine$Nut", kw_423, Or.inl rfl⟩⟩
theorem fl_RX3_59_5 : pm_FL RX3 59 5 8 := ⟨cl_5, fun q hq => by cases hq; exact ⟨by decide, "ThirtyNine$Nut", kw_423, Or.inl rfl⟩⟩
theorem fl_RX3_59_7 : pm_FL RX3 59 7 8 := ⟨cl_7, fun q hq => by cases hq; exact ⟨by decide, "ThirtyNine$Nut", kw_423, Or.inl rfl⟩⟩
theorem fl_RX3_59_8 : pm_FL RX3 59 8 8 := ⟨cl_8, fun q hq => by cases hq; exact ⟨by decide, "ThirtyNine$Nut", kw_423, Or.inl rfl⟩⟩
theorem fl_RX11_159_0 : pm_FL RX11 159 0 8 := ⟨cl_0, fun q hq => by cases hq; exact ⟨by decide, "ThirtyNine$Nut", kw_424, Or.inl rfl⟩⟩
theorem fl_RX11_159_4 : pm_FL RX11 159 4 8 := ⟨cl_4, fun q hq => by cases hq; exact ⟨by decide, "ThirtyNine$Nut", kw_424, Or.inl rfl⟩⟩
theorem fl_RX11_159_5 : pm_FL RX11 159 5 8 := ⟨cl_5, fun q hq => by cases hq; exact ⟨by decide, "ThirtyNine$Nut", kw_424, Or.inl rfl⟩⟩
theorem fl_RX11_159_7 : pm_FL RX11 159 7 8 := ⟨cl_7, fun q hq => by cases hq; exact ⟨by decide, "ThirtyNine$Nut", kw_424, Or.inl rfl⟩⟩
theorem fl_RX11_159_8 : pm_FL RX11 159 8 8 := ⟨cl_8, fun q hq => by cases hq; exact ⟨by decide, "ThirtyNine$Nut", kw_424, Or.inl rfl⟩⟩
theorem fl_RX4_55_0 : pm_FL RX4 55 0 9 := ⟨cl_0, fun q hq => by cases hq; exact ⟨by decide, "ThirtyNine$Nut", kw_425, Or.inl rfl⟩⟩
theorem fl_RX4_55_4 : pm_FL RX4 55 4 9 := ⟨cl_4, fun q hq => by cases hq; exact ⟨by decide, "ThirtyNine$Nut", kw_425, Or.inl rfl⟩⟩
theorem fl_RX4_55_5 : pm_FL RX4 55 5 9 := ⟨cl_5, fun q hq => by cases hq; exact ⟨by decide, "ThirtyNine$Nut", kw_425, Or.inl rfl⟩⟩
theorem fl_RX4_55_7 : pm_FL RX4 55 7 9 := ⟨cl_7, fun q hq => by cases hq; exact ⟨by decide, "ThirtyNine$Nut", kw_425, Or.inl rfl⟩⟩
theorem fl_RX4_55_8 : pm_FL RX4 55 8 9 := ⟨cl_8, fun q hq => by cases hq; exact ⟨by decide, "ThirtyNine$Nut", kw_425, Or.inl rfl⟩⟩
theorem fl_RX4_58_0 : pm_FL RX4 58 0 10 := ⟨cl_0, fun q hq => by cases hq; exact ⟨by decide, "ThirtyNine$Nut", kw_426, Or.inl rfl⟩⟩
theorem fl_RX4_58_4 : pm_FL RX4 58 4 10 := ⟨cl_4, fun q hq => by cases hq; exact ⟨by decide, "ThirtyNine$Nut", kw_426, Or.inl rfl⟩⟩
theorem fl_RX4_58_5 : pm_FL RX4 58 5 10 := ⟨cl_5, fun q hq => by cases hq; exact ⟨by decide, "ThirtyNine$Nut", kw_426, Or.inl rfl⟩⟩
theorem fl_RX4_58_7 : pm_FL RX4 58 7 10 := ⟨cl_7, fun q hq => by cases hq; exact ⟨by decide, "ThirtyNine$Nut", kw_426, Or.inl rfl⟩⟩
theorem fl_RX4_58_8 : pm_FL RX4 58 8 10 := ⟨cl_8, fun q hq => by cases hq; exact ⟨by decide, "ThirtyNine$Nut", kw_426, Or.inl rfl⟩⟩
theorem fl_RX4_61_0 : pm_FL RX4 61 0 11 := ⟨cl_0, fun q hq => by cases hq; exact ⟨by decide, "ThirtyNine$Nut", kw_427, Or.inl rfl⟩⟩
theorem fl_RX4_61_4 : pm_FL RX4 61 4 11 := ⟨cl_4, fun q hq => by cases hq; exact ⟨by decide, "ThirtyNine$Nut", kw_427, Or.inl rfl⟩⟩
theorem fl_RX4_61_5 : pm_FL RX4 61 5 11 := ⟨cl_5, fun q hq => by cases hq; exact ⟨by decide, "ThirtyNine$Nut", kw_427, Or.inl rfl⟩⟩
theorem fl_RX4_61_7 : pm_FL RX4 61 7 11 := ⟨cl_7, fun q hq => by cases hq; exact ⟨by decide, "ThirtyNine$Nut", kw_427, Or.inl rfl⟩⟩
theorem fl_RX4_61_8 : pm_FL RX4 61 8 11 := ⟨cl_8, fun q hq => by cases hq; exact ⟨by decide, "ThirtyNine$Nut", kw_427, Or.inl rfl⟩⟩
theorem fl_RX4_64_0 : pm_FL RX4 64 0 12 := ⟨cl_0, fun q hq => by cases hq; exact ⟨by decide, "ThirtyNine$Nut", kw_428, Or.inl rfl⟩⟩
theorem fl_RX4_64_4 : pm_FL RX4 64 4 12 := ⟨cl_4, fun q hq => by cases hq; exact ⟨by decide, "ThirtyNine$Nut", kw_428, Or.inl rfl⟩⟩
theorem fl_RX4_64_5 : pm_FL RX4 64 5 12 := ⟨cl_5, fun q hq => by cases hq; exact ⟨by decide, "ThirtyNine$Nut", kw_428, Or.inl rfl⟩⟩
theorem fl_RX4_64_7 : pm_FL RX4 64 7 12 := ⟨cl_7, fun q hq => by cases hq; exact ⟨by decide, "ThirtyNine$Nut", kw_428, Or.inl rfl⟩⟩
theorem fl_RX4_64_8 : pm_FL RX4 64 8 12 := ⟨cl_8, fun q hq => by cases hq; exact ⟨by decide, "ThirtyNine$Nut", kw_428, Or.inl rfl⟩⟩
theorem fl_RX12_7_12 : pm_FL RX12 7 12 0 := ⟨cl_12, fun q hq => by cases hq; exact ⟨by decide, "ThirtyNineModel", kw_958, Or.inl rfl⟩⟩
theorem fl_RX12_82_12 : pm_FL RX12 82 12 1 := ⟨cl_12, fun q hq => by cases hq; exact ⟨by decide, "ThirtyNineModel", kw_959, Or.inl rfl⟩⟩
theorem fl_RX12_111_12 : pm_FL RX12 111 12 2 := ⟨cl_12, fun q hq => by cases hq; exact ⟨by decide, "ThirtyNineModel", kw_960, Or.inl rfl⟩⟩
theorem fl_RX12_13_12 : pm_FL RX12 13 12 3 := ⟨cl_12, fun q hq => by cases hq; exact ⟨by decide, "ThirtyNineModel", kw_961, Or.inl rfl⟩⟩
theorem fl_RX12_16_12 : pm_FL RX12 16 12 4 := ⟨cl_12, fun q hq => by cases hq; exact ⟨by decide, "ThirtyNineModel", kw_962, Or.inl rfl⟩⟩
theorem fl_RX12_19_12 : pm_FL RX12 19 12 5 := ⟨cl_12, fun q hq => by cases hq; exact ⟨by decide, "ThirtyNineModel", kw_963, Or.inl rfl⟩⟩
theorem fl_RX12_128_12 : pm_FL RX12 128 12 6 := ⟨cl_12, fun q hq => by cases hq; exact ⟨by decide, "ThirtyNineModel", kw_964, Or.inl rfl⟩⟩
theorem fl_RX12_86_12 : pm_FL RX12 86 12 7 := ⟨cl_12, fun q hq => by cases hq; exact ⟨by decide, "ThirtyNineModel", kw_965, Or.inl rfl⟩⟩
theorem fl_RX12_97_12 : pm_FL RX12 97 12 8 := ⟨cl_12, fun q hq => by cases hq; exact ⟨by decide, "ThirtyNineModel", kw_966, Or.inl rfl⟩⟩
theorem fl_RX12_100_12 : pm_FL RX12 100 12 9 := ⟨cl_12, fun q hq => by cases hq; exact ⟨by decide, "ThirtyNineModel", kw_967, Or.inl rfl⟩⟩
theorem fl_RX12_22_12 : pm_FL RX12 22 12 10 := ⟨cl_12, fun q hq => by cases hq; exact ⟨by decide, "ThirtyNineModel", kw_968, Or.inl rfl⟩⟩
theorem fl_RX12_137_12 : pm_FL RX12 137 12 11 := ⟨cl_12, fun q hq => by cases hq; exact ⟨by decide, "ThirtyNineModel", kw_969, Or.inl rfl⟩⟩
theorem fl_RX12_25_12 : pm_FL RX12 25 12 12 := ⟨cl_12, fun q hq => by cases hq; exact ⟨by decide, "ThirtyNineModel", kw_970, Or.inl rfl⟩⟩
theorem fl_RX12_28_12 : pm_FL RX12 28 12 13 := ⟨cl_12, fun q hq => by cases hq; exact ⟨by decide, "ThirtyNineModel", kw_971, Or.inl rfl⟩⟩
theorem fl_RX12_31_12 : pm_FL RX12 31 12 14 := ⟨cl_12, fun q hq => by cases hq; exact ⟨by decide, "ThirtyNineModel", kw_972, Or.inl rfl⟩⟩
theorem fl_RX12_34_12 : pm_FL RX12 34 12 15 := ⟨cl_12, fun q hq => by cases hq; exact ⟨by decide, "ThirtyNineModel", kw_973, Or.inl rfl⟩⟩
theorem fl_RX12_37_12 : pm_FL RX12 37 12 16 := ⟨cl_12, fun q hq => by cases hq; exact ⟨by decide, "ThirtyNineModel", kw_974, Or.inl rfl⟩⟩
theorem fl_RX12_40_12 : pm_FL RX12 40 12 17 := ⟨cl_12, fun q hq => by cases hq; exact ⟨by decide, "ThirtyNineModel", kw_975, Or.inl rfl⟩⟩
theorem fl_RX12_43_12 : pm_FL RX12 43 12 18 := ⟨cl_12, fun q hq => by cases hq; exact ⟨by decide, "ThirtyNineModel", kw_976, Or.inl rfl⟩⟩
theorem fl_RX12_46_12 : pm_FL RX12 46 12 19 := ⟨cl_12, fun q hq => by cases hq; exact ⟨by decide, "ThirtyNineModel", kw_977, Or.inl rfl⟩⟩
theorem fl_RX12_50_12 : pm_FL RX12 50 12 20 := ⟨cl_12, fun q hq => by cases hq; exact ⟨by decide, "ThirtyNineModel", kw_978, Or.inl rfl⟩⟩
theorem fl_RX12_165_12 : pm_FL RX12 165 12 21 := ⟨cl_12, fun q hq => by cases hq; exact ⟨by decide, "ThirtyNineModel", kw_979, Or.inl rfl⟩⟩
theorem fl_RX12_173_12 : pm_FL RX12 173 12 22 := ⟨cl_12, fun q hq => by cases hq; exact ⟨by decide, "ThirtyNineModel", kw_980, Or.inl rfl⟩⟩
theorem fl_RX12_176_12 : pm_FL RX12 176 12 23 := ⟨cl_12, fun q hq => by cases hq; exact ⟨by decide, "ThirtyNineModel", kw_981, Or.inl rfl⟩⟩
theorem fl_RX12_179_12 : pm_FL RX12 179 12 24 := ⟨cl_12, fun q hq => by cases hq; exact ⟨by decide, "ThirtyNineModel", kw_982, Or.inl rfl⟩⟩
theorem fl_RX12_182_12 : pm_FL RX12 182 12 25 := ⟨cl_12, fun q hq => by cases hq; exact ⟨by decide, "ThirtyNineModel", kw_983, Or.inl rfl⟩⟩
theorem fl_RX12_193_12 : pm_FL RX12 193 12 26 := ⟨cl_12, fun q hq => by cases hq; exact ⟨by decide, "ThirtyNineModel", kw_984, Or.inl rfl⟩⟩
theorem fl_RX12_53_12 : pm_FL RX12 53 12 27 := ⟨cl_12, fun q hq => by cases hq; exact ⟨by decide, "ThirtyNineModel", kw_985, Or.inl rfl⟩⟩
theorem fl_RX12_56_12 : pm_FL RX12 56 12 28 := ⟨cl_12, fun q hq => by cases hq; exact ⟨by decide, "ThirtyNineModel", kw_986, Or.inl rfl⟩⟩
theorem fl_RX12_59_12 : pm_FL RX12 59 12 29 := ⟨cl_12, fun q hq => by cases hq; exact ⟨by decide, "ThirtyNineModel", kw_987, Or.inl rfl⟩⟩
theorem fl_RX12_204_12 : pm_FL RX12 204 12 30 := ⟨cl_12, fun q hq => by cases hq; exact ⟨by decide, "ThirtyNineModel", kw_988, Or.inl rfl⟩⟩
theorem fl_RX12_207_12 : pm_FL RX12 207 12 31 := ⟨cl_12, fun q hq => by cases hq; exact ⟨by decide, "ThirtyNineModel", kw_989, Or.inl rfl⟩⟩
theorem fl_RX12_62_12 : pm_FL RX12 62 12 32 := ⟨cl_12, fun q hq => by cases hq; exact ⟨by decide, "ThirtyNineModel", kw_990, Or.inl rfl⟩⟩
theorem fl_RX12_218_12 : pm_FL RX12 218 12 33 := ⟨cl_12, fun q hq => by cases hq; exact ⟨by decide, "ThirtyNineModel", kw_991, Or.inl rfl⟩⟩
theorem fl_RX12_259_12 : pm_FL RX12 259 12 34 := ⟨cl_12, fun q hq => by cases hq; exact ⟨by decide, "ThirtyNineModel", kw_992, Or.inl rfl⟩⟩
theorem fl_RX12_65_12 : pm_FL RX12 65 12 35 := ⟨cl_12, fun q hq => by cases hq; exact ⟨by decide, "ThirtyNineModel", kw_993, Or.inl rfl⟩⟩
theorem fl_RX12_68_12 : pm_FL RX12 68 12 36 := ⟨cl_12, fun q hq => by cases hq; exact ⟨by decide, "ThirtyNineModel", kw_994, Or.inl rfl⟩⟩
theorem fl_RX12_71_12 : pm_FL RX12 71 12 37 := ⟨cl_12, fun q hq => by cases hq; exact ⟨by decide, "ThirtyNineModel", kw_995, Or.inl rfl⟩⟩
theorem fl_RX12_74_12 : pm_FL RX12 74 12 38 := ⟨cl_12, fun q hq => by cases hq; exact ⟨by decide, "ThirtyNineModel", kw_996, Or.inl rfl⟩⟩
theorem fl_RX12_77_12 : pm_FL RX12 77 12 39 := ⟨cl_12, fun q hq => by cases hq; exact ⟨by decide, "ThirtyNineModel", kw_997, Or.inl rfl⟩⟩
theorem fl_RX12_281_12 : pm_FL RX12 281 12 40 := ⟨cl_12, fun q hq => by cases hq; exact ⟨by decide, "ThirtyNineModel", kw_998, Or.inl rfl⟩⟩
theorem fl_RX12_284_12 : pm_FL RX12 284 12 41 := ⟨cl_12, fun q hq => by cases hq; exact ⟨by decide, "ThirtyNineModel", kw_999, Or.inl rfl⟩⟩
theorem fl_RX12_287_12 : pm_FL RX12 287 12 42 := ⟨cl_12, fun q hq => by cases hq; exact ⟨by decide, "ThirtyNineModel", kw_1000, Or.inl rfl⟩⟩
theorem fl_RX12_296_12 : pm_FL RX12 296 12 43 := ⟨cl_12, fun q hq => by cases hq; exact ⟨by decide, "ThirtyNineModel", kw_1001, Or.inl rfl⟩⟩
