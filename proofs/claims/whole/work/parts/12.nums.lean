def th_pw (b : Int64) : Nat → Int64
  | 0 => 1
  | k + 1 => th_pw b k * b
def th_pi (b : Int32) : Nat → Int32
  | 0 => 1
  | k + 1 => th_pi b k * b
def th_bits (n : Nat) : Nat → Nat
  | 0 => 0
  | k + 1 => th_bits n k + n / 2 ^ k % 2
theorem th_sm : ∀ n, n < 32 → ((nI n &&& 31).toBitVec.smod 32).toNat = n := by decide +kernel
theorem th_bit {n k : Nat} (hn : n < 2 ^ 31) (hk : k < 32) : (nI n >>> (nI k &&& 31)) &&& 1 = nI (n / 2 ^ k % 2) := by
  rw [pk_shrN hn _ k (th_sm k hk)]
  exact pk_andN (n := n / 2 ^ k) (m := 1) (Nat.lt_of_le_of_lt (Nat.div_le_self _ _) (by omega)) 1 (by decide)
theorem th_bits_le (n : Nat) : ∀ k, th_bits n k ≤ k := by
  intro k
  induction k with
  | zero => exact Nat.le_refl 0
  | succ k ih => unfold th_bits; omega
set_option maxHeartbeats 600000 in
set_option maxRecDepth 100000 in
theorem c_X12_power {l : Launch} {G : pm_G} {ad : Nat → Nat → Nat} {w : pm_V} {Q : pm_T} {b : Int32} {n : Nat} (hn : n < 2 ^ 31) (hQ : Q ad (some (.int (th_pi b n))) w) : pm_C l G m_X12_power [.int b, .int (nI n)] ad w Q := by
  refine pm_met (by decide) (Nat.le_of_ble_eq_true rfl) ?_
  refine pm_iconst (v := 1) dX12_power_0 (by decide) ?_
  refine pm_istore_n (lv2 := [(2, _), (0, _), (1, _)]) dX12_power_1 rfl (Nat.le_of_ble_eq_true rfl) rfl ?_
  refine pm_iconst (v := 0) dX12_power_2 (by decide) ?_
  refine pm_istore_n (lv2 := [(3, _), (2, _), (0, _), (1, _)]) dX12_power_3 rfl (Nat.le_of_ble_eq_true rfl) rfl ?_
  suffices H : ∀ i, i ≤ n → pm_W l G m_X12_power ad 4 [(3, .int (nI i)), (2, .int (th_pi b i)), (0, .int b), (1, .int (nI n))] [] w 0 0 Q from H 0 (Nat.zero_le _)
  refine th_loop _ ?_
  intro i hi k
  refine pm_iload_n dX12_power_4 rfl rfl ?_
  refine pm_iload_n dX12_power_5 rfl rfl ?_
  refine pm_icmp_ge (tgt := 19) dX12_power_6 (by decide) (fun c_6 => ?_) (fun c_6 => ?_)
  · have he : i = n := by
      rw [nI_leI hn (by omega)] at c_6
      omega
    subst he
    refine pm_iload_n dX12_power_19 rfl rfl ?_
    refine pm_iret dX12_power_20 rfl rfl rfl ?_
    exact hQ
  · have hlt : i < n := by
      rw [nI_leI hn (by omega)] at c_6
      omega
    refine pm_iload_n dX12_power_9 rfl rfl ?_
    refine pm_iload_n dX12_power_10 rfl rfl ?_
    refine pm_imul dX12_power_11 ?_
    refine pm_istore_n (lv2 := [(2, _), (3, _), (0, _), (1, _)]) dX12_power_12 rfl (Nat.le_of_ble_eq_true rfl) rfl ?_
    refine pm_iinc (lv2 := [(3, _), (2, _), (0, _), (1, _)]) dX12_power_13 rfl (nI_1 i) (Nat.le_of_ble_eq_true rfl) rfl ?_
    refine pm_goto (tgt := 4) dX12_power_16 (by decide) ?_
    refine pm_pick [0, 1, 2, 3] rfl ?_
    exact k hlt

set_option maxHeartbeats 600000 in
set_option maxRecDepth 100000 in
theorem c_X11_power {l : Launch} {G : pm_G} {ad : Nat → Nat → Nat} {w : pm_V} {Q : pm_T} {b : Int64} {n : Nat} (hn : n < 2 ^ 31) (hQ : Q ad (some (.long (th_pw b n))) w) : pm_C l G m_X11_power [.long b, .int (nI n)] ad w Q := by
  refine pm_met (by decide) (Nat.le_of_ble_eq_true rfl) ?_
  refine pm_lconst (v := 1) dX11_power_0 (by decide) ?_
  refine pm_lstore_n (lv2 := [(3, _), (0, _), (2, _)]) dX11_power_1 rfl (Nat.le_of_ble_eq_true rfl) rfl ?_
  refine pm_iconst (v := 0) dX11_power_2 (by decide) ?_
  refine pm_istore (lv2 := [(5, _), (3, _), (0, _), (2, _)]) dX11_power_3 (Nat.le_of_ble_eq_true rfl) rfl ?_
  suffices H : ∀ i, i ≤ n → pm_W l G m_X11_power ad 5 [(5, .int (nI i)), (3, .long (th_pw b i)), (0, .long b), (2, .int (nI n))] [] w 0 0 Q from H 0 (Nat.zero_le _)
  refine th_loop _ ?_
  intro i hi k
  refine pm_iload dX11_power_5 rfl ?_
  refine pm_iload_n dX11_power_7 rfl rfl ?_
  refine pm_icmp_ge (tgt := 21) dX11_power_8 (by decide) (fun c_8 => ?_) (fun c_8 => ?_)
  · have he : i = n := by
      rw [nI_leI hn (by omega)] at c_8
      omega
    subst he
    refine pm_lload_n dX11_power_21 rfl rfl ?_
    refine pm_lret dX11_power_22 rfl rfl rfl ?_
    exact hQ
  · have hlt : i < n := by
      rw [nI_leI hn (by omega)] at c_8
      omega
    refine pm_lload_n dX11_power_11 rfl rfl ?_
    refine pm_lload_n dX11_power_12 rfl rfl ?_
    refine pm_lmul dX11_power_13 ?_
    refine pm_lstore_n (lv2 := [(3, _), (5, _), (0, _), (2, _)]) dX11_power_14 rfl (Nat.le_of_ble_eq_true rfl) rfl ?_
    refine pm_iinc (lv2 := [(5, _), (3, _), (0, _), (2, _)]) dX11_power_15 rfl (nI_1 i) (Nat.le_of_ble_eq_true rfl) rfl ?_
    refine pm_goto (tgt := 5) dX11_power_18 (by decide) ?_
    refine pm_pick [0, 1, 2, 3] rfl ?_
    exact k hlt

set_option maxHeartbeats 600000 in
set_option maxRecDepth 100000 in
theorem c_X12_bitsOf {l : Launch} {G : pm_G} {ad : Nat → Nat → Nat} {w : pm_V} {Q : pm_T} {n : Nat} (hn : n < 2 ^ 31) (hQ : Q ad (some (.int (nI (th_bits n 10)))) w) : pm_C l G m_X12_bitsOf [.int (nI n)] ad w Q := by
  refine pm_met (by decide) (Nat.le_of_ble_eq_true rfl) ?_
  refine pm_iconst (v := 0) dX12_bitsOf_0 (by decide) ?_
  refine pm_istore_n (lv2 := [(1, _), (0, _)]) dX12_bitsOf_1 rfl (Nat.le_of_ble_eq_true rfl) rfl ?_
  refine pm_iconst (v := 0) dX12_bitsOf_2 (by decide) ?_
  refine pm_istore_n (lv2 := [(2, _), (1, _), (0, _)]) dX12_bitsOf_3 rfl (Nat.le_of_ble_eq_true rfl) rfl ?_
  suffices H : ∀ i, i ≤ 10 → pm_W l G m_X12_bitsOf ad 4 [(2, .int (nI i)), (1, .int (nI (th_bits n i))), (0, .int (nI n))] [] w 0 0 Q from H 0 (Nat.zero_le _)
  refine th_loop _ ?_
  intro i hi k
  refine pm_iload_n dX12_bitsOf_4 rfl rfl ?_
  refine pm_bipush (v := 10) dX12_bitsOf_5 (by decide) ?_
  rw [show (10 : Int32) = nI 10 from rfl]
  refine pm_icmp_ge (tgt := 24) dX12_bitsOf_7 (by decide) (fun c_7 => ?_) (fun c_7 => ?_)
  · have he : i = 10 := by
      rw [nI_leI (by decide) (by omega)] at c_7
      omega
    subst he
    refine pm_iload_n dX12_bitsOf_24 rfl rfl ?_
    refine pm_iret dX12_bitsOf_25 rfl rfl rfl ?_
    exact hQ
  · have hlt : i < 10 := by
      rw [nI_leI (by decide) (by omega)] at c_7
      omega
    refine pm_iload_n dX12_bitsOf_10 rfl rfl ?_
    refine pm_iload_n dX12_bitsOf_11 rfl rfl ?_
    refine pm_iload_n dX12_bitsOf_12 rfl rfl ?_
    refine pm_ishr dX12_bitsOf_13 ?_
    refine pm_iconst (v := 1) dX12_bitsOf_14 (by decide) ?_
    refine pm_iand dX12_bitsOf_15 ?_
    rw [th_bit hn (by omega)]
    refine pm_iadd dX12_bitsOf_16 ?_
    rw [nI_add]
    refine pm_istore_n (lv2 := [(1, _), (2, _), (0, _)]) dX12_bitsOf_17 rfl (Nat.le_of_ble_eq_true rfl) rfl ?_
    refine pm_iinc (lv2 := [(2, _), (1, _), (0, _)]) dX12_bitsOf_18 rfl (nI_1 i) (Nat.le_of_ble_eq_true rfl) rfl ?_
    refine pm_goto (tgt := 4) dX12_bitsOf_21 (by decide) ?_
    refine pm_pick [0, 1, 2] rfl ?_
    exact k hlt

def th_b1 (x : Int32) : Int32 := x - ((x.toUInt32 >>> ((1 : Int32).toUInt32 &&& Int32.toUInt32 31)).toInt32 &&& 1431655765)
def th_b2 (x : Int32) : Int32 := (x &&& 858993459) + ((x.toUInt32 >>> ((2 : Int32).toUInt32 &&& Int32.toUInt32 31)).toInt32 &&& 858993459)
def th_b3 (x : Int32) : Int32 := (x + (x.toUInt32 >>> ((4 : Int32).toUInt32 &&& Int32.toUInt32 31)).toInt32) &&& 252645135
def th_b4 (x : Int32) : Int32 := x + (x.toUInt32 >>> ((8 : Int32).toUInt32 &&& Int32.toUInt32 31)).toInt32
def th_b5 (x : Int32) : Int32 := x + (x.toUInt32 >>> ((16 : Int32).toUInt32 &&& Int32.toUInt32 31)).toInt32
def th_bc (x : Int32) : Int32 := th_b5 (th_b4 (th_b3 (th_b2 (th_b1 x)))) &&& 63
theorem th_bc_ok : ∀ n, n < 1024 → th_bc (nI n) = nI (th_bits n 10) := by decide +kernel
set_option maxHeartbeats 600000 in
set_option maxRecDepth 100000 in
theorem c_bitCount {l : Launch} {G : pm_G} {ad : Nat → Nat → Nat} {w : pm_V} {Q : pm_T} {n : Nat} (hn : n < 1024) (hQ : Q ad (some (.int (nI (th_bits n 10)))) w) : pm_C l G m_J6_bitCount_0f7a4 [.int (nI n)] ad w Q := by
  refine pm_met (by decide) (Nat.le_of_ble_eq_true rfl) ?_
  refine pm_iload_n dJ6_bitCount_0f7a4_0 rfl rfl ?_
  refine pm_iload_n dJ6_bitCount_0f7a4_1 rfl rfl ?_
  refine pm_iconst (v := 1) dJ6_bitCount_0f7a4_2 (by decide) ?_
  refine pm_iushr dJ6_bitCount_0f7a4_3 ?_
  refine pm_ldcw kw_703 dJ6_bitCount_0f7a4_4 ?_
  refine pm_iand dJ6_bitCount_0f7a4_7 ?_
  refine pm_isub dJ6_bitCount_0f7a4_8 ?_
  refine pm_istore_n (lv2 := [(0, _)]) dJ6_bitCount_0f7a4_9 rfl (Nat.le_of_ble_eq_true rfl) rfl ?_
  refine pm_iload_n dJ6_bitCount_0f7a4_10 rfl rfl ?_
  refine pm_ldcw kw_704 dJ6_bitCount_0f7a4_11 ?_
  refine pm_iand dJ6_bitCount_0f7a4_14 ?_
  refine pm_iload_n dJ6_bitCount_0f7a4_15 rfl rfl ?_
  refine pm_iconst (v := 2) dJ6_bitCount_0f7a4_16 (by decide) ?_
  refine pm_iushr dJ6_bitCount_0f7a4_17 ?_
  refine pm_ldcw kw_704 dJ6_bitCount_0f7a4_18 ?_
  refine pm_iand dJ6_bitCount_0f7a4_21 ?_
  refine pm_iadd dJ6_bitCount_0f7a4_22 ?_
  refine pm_istore_n (lv2 := [(0, _)]) dJ6_bitCount_0f7a4_23 rfl (Nat.le_of_ble_eq_true rfl) rfl ?_
  refine pm_iload_n dJ6_bitCount_0f7a4_24 rfl rfl ?_
  refine pm_iload_n dJ6_bitCount_0f7a4_25 rfl rfl ?_
  refine pm_iconst (v := 4) dJ6_bitCount_0f7a4_26 (by decide) ?_
  refine pm_iushr dJ6_bitCount_0f7a4_27 ?_
  refine pm_iadd dJ6_bitCount_0f7a4_28 ?_
  refine pm_ldcw kw_705 dJ6_bitCount_0f7a4_29 ?_
  refine pm_iand dJ6_bitCount_0f7a4_32 ?_
  refine pm_istore_n (lv2 := [(0, _)]) dJ6_bitCount_0f7a4_33 rfl (Nat.le_of_ble_eq_true rfl) rfl ?_
  refine pm_iload_n dJ6_bitCount_0f7a4_34 rfl rfl ?_
  refine pm_iload_n dJ6_bitCount_0f7a4_35 rfl rfl ?_
  refine pm_bipush (v := 8) dJ6_bitCount_0f7a4_36 (by decide) ?_
  refine pm_iushr dJ6_bitCount_0f7a4_38 ?_
  refine pm_iadd dJ6_bitCount_0f7a4_39 ?_
  refine pm_istore_n (lv2 := [(0, _)]) dJ6_bitCount_0f7a4_40 rfl (Nat.le_of_ble_eq_true rfl) rfl ?_
  refine pm_iload_n dJ6_bitCount_0f7a4_41 rfl rfl ?_
  refine pm_iload_n dJ6_bitCount_0f7a4_42 rfl rfl ?_
  refine pm_bipush (v := 16) dJ6_bitCount_0f7a4_43 (by decide) ?_
  refine pm_iushr dJ6_bitCount_0f7a4_45 ?_
  refine pm_iadd dJ6_bitCount_0f7a4_46 ?_
  refine pm_istore_n (lv2 := [(0, _)]) dJ6_bitCount_0f7a4_47 rfl (Nat.le_of_ble_eq_true rfl) rfl ?_
  refine pm_iload_n dJ6_bitCount_0f7a4_48 rfl rfl ?_
  refine pm_bipush (v := 63) dJ6_bitCount_0f7a4_49 (by decide) ?_
  refine pm_iand dJ6_bitCount_0f7a4_51 ?_
  refine pm_iret dJ6_bitCount_0f7a4_52 rfl rfl rfl ?_
  exact th_r (th_bc_ok n hn).symm hQ

theorem th_l63 {n : Nat} (h : n < 2 ^ 63) : lN n = 0 ↔ n = 0 := by
  rw [show (0 : Int64) = lN 0 from rfl, pk_lEQ h (by decide)]
def th_trm (a b : Nat) (part : Int32) : Int64 := lN ((if part = 0 then a else b) / Nat.gcd a b)
set_option maxHeartbeats 600000 in
set_option maxRecDepth 100000 in
theorem c_X12_common {l : Launch} {G : pm_G} {ad : Nat → Nat → Nat} {w : pm_V} {Q : pm_T} {a b : Nat} (ha : a < 2 ^ 63) (hb : b < 2 ^ 63) (hQ : Q ad (some (.long (lN (Nat.gcd a b)))) w) : pm_C l G m_X12_common [.long (lN a), .long (lN b)] ad w Q := by
  refine pm_met (by decide) (Nat.le_of_ble_eq_true rfl) ?_
  refine pm_lload_n dX12_common_0 rfl rfl ?_
  refine pm_lstore (lv2 := [(4, _), (0, _), (2, _)]) dX12_common_1 (Nat.le_of_ble_eq_true rfl) rfl ?_
  refine pm_lload_n dX12_common_3 rfl rfl ?_
  refine pm_lstore (lv2 := [(6, _), (4, _), (0, _), (2, _)]) dX12_common_4 (Nat.le_of_ble_eq_true rfl) rfl ?_
  suffices H : ∀ x y, x < 2 ^ 63 → y < 2 ^ 63 → Nat.gcd x y = Nat.gcd a b → pm_W l G m_X12_common ad 6 [(6, .long (lN y)), (4, .long (lN x)), (0, .long (lN a)), (2, .long (lN b))] [] w 0 0 Q from H a b ha hb rfl
  intro x
  refine Nat.strongRecOn x ?_
  intro x ih y hx hy hg
  refine pm_lload dX12_common_6 rfl ?_
  refine pm_lconst (v := 0) dX12_common_8 (by decide) ?_
  refine pm_lcmp dX12_common_9 ?_
  refine pm_if_eq (tgt := 31) dX12_common_10 (by decide) (fun c_10 => ?_) (fun c_10 => ?_)
  · have hx0 : x = 0 := (th_l63 hx).mp (th_eq.mp c_10)
    subst hx0
    rw [Nat.gcd_zero_left] at hg
    subst hg
    refine pm_lload dX12_common_31 rfl ?_
    refine pm_lret dX12_common_33 rfl rfl rfl ?_
    exact hQ
  · have hx0 : ¬ x = 0 := fun z => c_10 (th_eq.mpr ((th_l63 hx).mpr z))
    refine pm_lload dX12_common_13 rfl ?_
    refine pm_lload dX12_common_15 rfl ?_
    refine pm_lrem dX12_common_17 (fun z => hx0 ((th_l63 hx).mp z)) ?_
    refine pm_lstore (lv2 := [(8, _), (6, _), (4, _), (0, _), (2, _)]) dX12_common_18 (Nat.le_of_ble_eq_true rfl) rfl ?_
    refine pm_lload dX12_common_20 rfl ?_
    refine pm_lstore (lv2 := [(6, _), (8, _), (4, _), (0, _), (2, _)]) dX12_common_22 (Nat.le_of_ble_eq_true rfl) rfl ?_
    refine pm_lload dX12_common_24 rfl ?_
    refine pm_lstore (lv2 := [(4, _), (6, _), (8, _), (0, _), (2, _)]) dX12_common_26 (Nat.le_of_ble_eq_true rfl) rfl ?_
    refine pm_goto (tgt := 6) dX12_common_28 (by decide) ?_
    refine pm_pick [1, 0, 3, 4] rfl ?_
    rw [pk_lRem hy (by omega) hx]
    exact ih (y % x) (Nat.mod_lt _ (by omega)) x (Nat.lt_of_lt_of_le (Nat.mod_lt _ (by omega)) (by omega)) hx (by rw [← hg, Nat.gcd_rec x y])

set_option maxHeartbeats 600000 in
set_option maxRecDepth 100000 in
theorem c_X12_term {l : Launch} {G : pm_G} {ad : Nat → Nat → Nat} {w : pm_V} {Q : pm_T} {a b : Nat} {part : Int32} (ha : a < 2 ^ 63) (hb : b < 2 ^ 63) (h0 : 0 < b) (hQ : Q ad (some (.long (th_trm a b part))) w) : pm_C l G m_X12_term [.long (lN a), .long (lN b), .int part] ad w Q := by
  have hg0 : 0 < Nat.gcd a b := Nat.gcd_pos_of_pos_right a h0
  have hgl : Nat.gcd a b < 2 ^ 63 := Nat.lt_of_le_of_lt (Nat.gcd_le_right a h0) hb
  refine pm_met (by decide) (Nat.le_of_ble_eq_true rfl) ?_
  refine pm_lload_n dX12_term_0 rfl rfl ?_
  refine pm_lload_n dX12_term_1 rfl rfl ?_
  refine pm_callS (M2 := m_X12_common) (As := [_, _]) ok_X12_common kw_1291 kw_1292 dX12_term_2 rfl rfl (Nat.le_of_ble_eq_true rfl) ⟨⟨Nat.le_of_ble_eq_true rfl, Nat.le_of_ble_eq_true rfl⟩, Nat.le_of_ble_eq_true rfl, Nat.le_of_ble_eq_true rfl⟩ ?_
  refine c_X12_common ha hb ?_
  refine pm_lstore (lv2 := [(5, _), (0, _), (2, _), (4, _)]) dX12_term_5 (Nat.le_of_ble_eq_true rfl) rfl ?_
  refine pm_iload dX12_term_7 rfl ?_
  refine pm_if_ne (tgt := 19) dX12_term_9 (by decide) (fun c_9 => ?_) (fun c_9 => ?_)
  · refine pm_lload_n dX12_term_19 rfl rfl ?_
    refine pm_lload dX12_term_20 rfl ?_
    refine pm_ldiv dX12_term_22 (fun z => absurd ((th_l63 hgl).mp z) (by omega)) ?_
    refine pm_lret dX12_term_23 rfl rfl rfl ?_
    refine th_rl ?_ hQ
    rw [th_trm, if_neg c_9, pk_lDiv hb hg0 hgl]
  · refine pm_lload_n dX12_term_12 rfl rfl ?_
    refine pm_lload dX12_term_13 rfl ?_
    refine pm_ldiv dX12_term_15 (fun z => absurd ((th_l63 hgl).mp z) (by omega)) ?_
    refine pm_goto (tgt := 23) dX12_term_16 (by decide) ?_
    refine pm_lret dX12_term_23 rfl rfl rfl ?_
    refine th_rl ?_ hQ
    rw [th_trm, if_pos c_9, pk_lDiv ha hg0 hgl]

set_option maxHeartbeats 600000 in
set_option maxRecDepth 100000 in
theorem b_X11_gd {l : Launch} {G : pm_G} {ad : Nat → Nat → Nat} {w : pm_V} {Q : pm_T} {a b d r i : Nat} (hd : d < 2 ^ 63) (hr : r < 2 ^ 63) (hi : i < 200) (h0 : r = 0 → Q ad (some (.long (lN d))) w) (k : 0 < r → pm_W l G m_X11_greatestDivisor ad 9 [(8, .int (nI (i + 1))), (6, .long (lN (d % r))), (4, .long (lN r)), (0, .long (lN a)), (2, .long (lN b))] [] w 0 0 Q) : pm_W l G m_X11_greatestDivisor ad 9 [(8, .int (nI i)), (6, .long (lN r)), (4, .long (lN d)), (0, .long (lN a)), (2, .long (lN b))] [] w 0 0 Q := by
  refine pm_iload dX11_greatestDivisor_9 rfl ?_
  refine pm_sipush (v := 200) dX11_greatestDivisor_11 (by decide) ?_
  rw [show (200 : Int32) = nI 200 from rfl]
  refine pm_icmp_ge (tgt := 45) dX11_greatestDivisor_14 (by decide) (fun c_14 => absurd c_14 (by rw [nI_leI (by decide) (by omega)]; omega)) (fun c_14 => ?_)
  refine pm_lload dX11_greatestDivisor_17 rfl ?_
  refine pm_lconst (v := 0) dX11_greatestDivisor_19 (by decide) ?_
  refine pm_lcmp dX11_greatestDivisor_20 ?_
  refine pm_if_eq (tgt := 45) dX11_greatestDivisor_21 (by decide) (fun c_21 => ?_) (fun c_21 => ?_)
  · refine pm_lload dX11_greatestDivisor_45 rfl ?_
    refine pm_lret dX11_greatestDivisor_47 rfl rfl rfl ?_
    exact h0 ((th_l63 hr).mp (th_eq.mp c_21))
  · have hr0 : ¬ r = 0 := fun z => c_21 (th_eq.mpr ((th_l63 hr).mpr z))
    refine pm_lload dX11_greatestDivisor_24 rfl ?_
    refine pm_lload dX11_greatestDivisor_26 rfl ?_
    refine pm_lrem dX11_greatestDivisor_28 (fun z => hr0 ((th_l63 hr).mp z)) ?_
    refine pm_lstore (lv2 := [(9, _), (8, _), (6, _), (4, _), (0, _), (2, _)]) dX11_greatestDivisor_29 (Nat.le_of_ble_eq_true rfl) rfl ?_
    refine pm_lload dX11_greatestDivisor_31 rfl ?_
    refine pm_lstore (lv2 := [(4, _), (9, _), (8, _), (6, _), (0, _), (2, _)]) dX11_greatestDivisor_33 (Nat.le_of_ble_eq_true rfl) rfl ?_
    refine pm_lload dX11_greatestDivisor_35 rfl ?_
    refine pm_lstore (lv2 := [(6, _), (4, _), (9, _), (8, _), (0, _), (2, _)]) dX11_greatestDivisor_37 (Nat.le_of_ble_eq_true rfl) rfl ?_
    refine pm_iinc (lv2 := [(8, _), (6, _), (4, _), (9, _), (0, _), (2, _)]) dX11_greatestDivisor_39 rfl (nI_1 i) (Nat.le_of_ble_eq_true rfl) rfl ?_
    refine pm_goto (tgt := 9) dX11_greatestDivisor_42 (by decide) ?_
    refine pm_pick [0, 1, 2, 4, 5] rfl ?_
    rw [pk_lRem hd (by omega) hr]
    exact k (by omega)

theorem l_X11_gd {l : Launch} {G : pm_G} {ad : Nat → Nat → Nat} {w : pm_V} {Q : pm_T} {a b : Nat} (hQ : Q ad (some (.long (lN (Nat.gcd a b)))) w) : ∀ (n d r i : Nat), r < 2 ^ n → n ≤ 63 → d < 2 ^ 63 → i + 2 * n < 200 → Nat.gcd d r = Nat.gcd a b → pm_W l G m_X11_greatestDivisor ad 9 [(8, .int (nI i)), (6, .long (lN r)), (4, .long (lN d)), (0, .long (lN a)), (2, .long (lN b))] [] w 0 0 Q := by
  intro n
  induction n with
  | zero =>
    intro d r i hr hn hd hi hg
    have h0 : r = 0 := by omega
    subst h0
    rw [Nat.gcd_zero_right] at hg
    subst hg
    exact b_X11_gd hd (by decide) (by omega) (fun _ => hQ) (fun h => absurd h (by decide))
  | succ n ih =>
    intro d r i hr hn hd hi hg
    have hp : 2 ^ (n + 1) ≤ 2 ^ 63 := Nat.pow_le_pow_right (by decide) hn
    have hr63 : r < 2 ^ 63 := Nat.lt_of_lt_of_le hr hp
    refine b_X11_gd hd hr63 (by omega) (fun h0 => ?_) (fun hr0 => ?_)
    · subst h0
      rw [Nat.gcd_zero_right] at hg
      subst hg
      exact hQ
    · have hm : d % r < r := Nat.mod_lt _ hr0
      have hg1 : Nat.gcd r (d % r) = Nat.gcd a b := by
        rw [← hg, Nat.gcd_comm r (d % r), ← Nat.gcd_rec r d, Nat.gcd_comm]
      refine b_X11_gd hr63 (by omega) (by omega) (fun h0 => ?_) (fun h1 => ?_)
      · rw [h0, Nat.gcd_zero_right] at hg1
        rw [hg1]
        exact hQ
      · have h2 : r % (d % r) < d % r := Nat.mod_lt _ h1
        have h3 := Nat.div_add_mod r (d % r)
        have h4 : 1 ≤ r / (d % r) := (Nat.le_div_iff_mul_le h1).mpr (by omega)
        have h5 : d % r ≤ (d % r) * (r / (d % r)) := Nat.le_mul_of_pos_right _ h4
        have h6 : r % (d % r) < 2 ^ n := by
          rw [Nat.pow_succ] at hr
          omega
        refine ih (d % r) (r % (d % r)) (i + 1 + 1) h6 (by omega) (by omega) (by omega) ?_
        rw [← hg1, Nat.gcd_comm (d % r), ← Nat.gcd_rec (d % r) r, Nat.gcd_comm]
set_option maxHeartbeats 600000 in
set_option maxRecDepth 100000 in
theorem c_X11_greatestDivisor {l : Launch} {G : pm_G} {ad : Nat → Nat → Nat} {w : pm_V} {Q : pm_T} {a b : Nat} (ha : a < 2 ^ 63) (hb : b < 2 ^ 63) (hQ : Q ad (some (.long (lN (Nat.gcd a b)))) w) : pm_C l G m_X11_greatestDivisor [.long (lN a), .long (lN b)] ad w Q := by
  refine pm_met (by decide) (Nat.le_of_ble_eq_true rfl) ?_
  refine pm_lload_n dX11_greatestDivisor_0 rfl rfl ?_
  refine pm_lstore (lv2 := [(4, _), (0, _), (2, _)]) dX11_greatestDivisor_1 (Nat.le_of_ble_eq_true rfl) rfl ?_
  refine pm_lload_n dX11_greatestDivisor_3 rfl rfl ?_
  refine pm_lstore (lv2 := [(6, _), (4, _), (0, _), (2, _)]) dX11_greatestDivisor_4 (Nat.le_of_ble_eq_true rfl) rfl ?_
  refine pm_iconst (v := 0) dX11_greatestDivisor_6 (by decide) ?_
  refine pm_istore (lv2 := [(8, _), (6, _), (4, _), (0, _), (2, _)]) dX11_greatestDivisor_7 (Nat.le_of_ble_eq_true rfl) rfl ?_
  exact l_X11_gd hQ 63 a b 0 hb (by decide) ha (by decide) rfl

set_option maxHeartbeats 600000 in
set_option maxRecDepth 100000 in
theorem c_X11_inLowestTerms {l : Launch} {G : pm_G} {ad : Nat → Nat → Nat} {w : pm_V} {Q : pm_T} {a b : Nat} {part : Int32} (ha : a < 2 ^ 63) (hb : b < 2 ^ 63) (h0 : 0 < b) (hQ : Q ad (some (.long (th_trm a b part))) w) : pm_C l G m_X11_inLowestTerms [.long (lN a), .long (lN b), .int part] ad w Q := by
  have hg0 : 0 < Nat.gcd a b := Nat.gcd_pos_of_pos_right a h0
  have hgl : Nat.gcd a b < 2 ^ 63 := Nat.lt_of_le_of_lt (Nat.gcd_le_right a h0) hb
  refine pm_met (by decide) (Nat.le_of_ble_eq_true rfl) ?_
  refine pm_lload_n dX11_inLowestTerms_0 rfl rfl ?_
  refine pm_lload_n dX11_inLowestTerms_1 rfl rfl ?_
  refine pm_callS (M2 := m_X11_greatestDivisor) (As := [_, _]) ok_X11_greatestDivisor kw_789 kw_790 dX11_inLowestTerms_2 rfl rfl (Nat.le_of_ble_eq_true rfl) ⟨⟨Nat.le_of_ble_eq_true rfl, Nat.le_of_ble_eq_true rfl⟩, Nat.le_of_ble_eq_true rfl, Nat.le_of_ble_eq_true rfl⟩ ?_
  refine c_X11_greatestDivisor ha hb ?_
  refine pm_lstore (lv2 := [(5, _), (0, _), (2, _), (4, _)]) dX11_inLowestTerms_5 (Nat.le_of_ble_eq_true rfl) rfl ?_
  refine pm_lload dX11_inLowestTerms_7 rfl ?_
  refine pm_lconst (v := 0) dX11_inLowestTerms_9 (by decide) ?_
  refine pm_lcmp dX11_inLowestTerms_10 ?_
  refine pm_if_ne (tgt := 16) dX11_inLowestTerms_11 (by decide) (fun c_11 => ?_) (fun c_11 => absurd c_11 (fun z => absurd ((th_l63 hgl).mp (th_eq.mp z)) (by omega)))
  refine pm_iload dX11_inLowestTerms_16 rfl ?_
  refine pm_if_ne (tgt := 25) dX11_inLowestTerms_18 (by decide) (fun c_18 => ?_) (fun c_18 => ?_)
  · refine pm_lload_n dX11_inLowestTerms_25 rfl rfl ?_
    refine pm_lload dX11_inLowestTerms_26 rfl ?_
    refine pm_ldiv dX11_inLowestTerms_28 (fun z => absurd ((th_l63 hgl).mp z) (by omega)) ?_
    refine pm_lret dX11_inLowestTerms_29 rfl rfl rfl ?_
    refine th_rl ?_ hQ
    rw [th_trm, if_neg c_18, pk_lDiv hb hg0 hgl]
  · refine pm_lload_n dX11_inLowestTerms_21 rfl rfl ?_
    refine pm_goto (tgt := 26) dX11_inLowestTerms_22 (by decide) ?_
    refine pm_lload dX11_inLowestTerms_26 rfl ?_
    refine pm_ldiv dX11_inLowestTerms_28 (fun z => absurd ((th_l63 hgl).mp z) (by omega)) ?_
    refine pm_lret dX11_inLowestTerms_29 rfl rfl rfl ?_
    refine th_rl ?_ hQ
    rw [th_trm, if_pos c_18, pk_lDiv ha hg0 hgl]

set_option maxHeartbeats 600000 in
set_option maxRecDepth 100000 in
theorem c_X12_narrow {l : Launch} {G : pm_G} {ad : Nat → Nat → Nat} {w : pm_V} {Q : pm_T} {x : Int32} (hQ : Q ad (some (.int (if 62 ≤ x then 62 else x))) w) : pm_C l G m_X12_narrow [.int x] ad w Q := by
  refine pm_met (by decide) (Nat.le_of_ble_eq_true rfl) ?_
  refine pm_iload_n dX12_narrow_0 rfl rfl ?_
  refine pm_bipush (v := 62) dX12_narrow_1 (by decide) ?_
  refine pm_icmp_ge (tgt := 10) dX12_narrow_3 (by decide) (fun c_3 => ?_) (fun c_3 => ?_)
  · refine pm_bipush (v := 62) dX12_narrow_10 (by decide) ?_
    refine pm_iret dX12_narrow_12 rfl rfl rfl ?_
    exact th_r (if_pos c_3) hQ
  · refine pm_iload_n dX12_narrow_6 rfl rfl ?_
    refine pm_goto (tgt := 12) dX12_narrow_7 (by decide) ?_
    refine pm_iret dX12_narrow_12 rfl rfl rfl ?_
    exact th_r (if_neg c_3) hQ

def th_tn (a b : Int32) : Int32 := if 1 ≤ 5 + a - b then (if 5 + a - b ≤ 9 then 5 + a - b else 9) else 1
theorem th_tn_mm (v : Int32) : (if 1 < (if v < 9 then v else 9) then (if v < 9 then v else 9) else 1) = (if 1 ≤ v then (if v ≤ 9 then v else 9) else 1) := by
  by_cases h9 : v < 9
  · rw [if_pos h9]
    by_cases h1 : 1 < v
    · rw [if_pos h1, if_pos (Int32.le_of_lt h1), if_pos (Int32.le_of_lt h9)]
    · rw [if_neg h1]
      by_cases h2 : 1 ≤ v
      · rw [if_pos h2, if_pos (Int32.le_of_lt h9)]
        exact Int32.le_antisymm h2 (Int32.not_lt.mp h1)
      · rw [if_neg h2]
  · rw [if_neg h9, if_pos (by decide)]
    have h3 : (9 : Int32) ≤ v := Int32.not_lt.mp h9
    rw [if_pos (Int32.le_trans (by decide) h3)]
    by_cases h4 : v ≤ 9
    · rw [if_pos h4]
      exact Int32.le_antisymm h3 h4
    · rw [if_neg h4]
set_option maxHeartbeats 600000 in
set_option maxRecDepth 100000 in
theorem c_X12_tenths {l : Launch} {G : pm_G} {ad : Nat → Nat → Nat} {a0 a3 a4 a5 a6 a7 : List pm_A} {a1 a2 : Nat → Option pm_A} {S : Nat → Nat} {A : Nat → Nat → Int32} {s : Nat → Int32} {B : Nat → Nat → Int32} {hs : Int64} {Q : pm_T} {i j ki kj : Nat} (hi : i < 8) (hj : j < 8) (hki : ki ≤ 4) (hkj : kj ≤ 4) (ei : A 6 i = nI ki) (ej : A 6 j = nI kj) (hQ : Q ad (some (.int (th_tn (pm_hd ki (A 8 i)) (pm_hd kj (A 8 j))))) (a0, a1, a2, a3, a4, a5, a6, a7, th_mp ad S A s B hs)) : pm_C l G m_X12_tenths [.ref (ad 8 0), .int (nI i), .int (nI j)] ad (a0, a1, a2, a3, a4, a5, a6, a7, th_mp ad S A s B hs) Q := by
  refine pm_met (by decide) (Nat.le_of_ble_eq_true rfl) ?_
  refine pm_iconst (v := 5) dX12_tenths_0 (by decide) ?_
  refine pm_aload_n dX12_tenths_1 rfl rfl ?_
  refine pm_iload_n dX12_tenths_2 rfl rfl ?_
  refine pm_callV (M2 := m_X12_hard) (As := [_]) ok_X12_hard (ci := 12) rfl kw_1166 kw_1168 kw_26 dX12_tenths_3 rfl rfl rfl (Nat.le_of_ble_eq_true rfl) ⟨⟨Nat.le_of_ble_eq_true rfl, Nat.le_of_ble_eq_true rfl⟩, Nat.le_of_ble_eq_true rfl, Nat.le_of_ble_eq_true rfl⟩ ?_
  refine c_X12_hard hi hki ei ?_
  refine pm_iadd dX12_tenths_6 ?_
  refine pm_aload_n dX12_tenths_7 rfl rfl ?_
  refine pm_iload_n dX12_tenths_8 rfl rfl ?_
  refine pm_callV (M2 := m_X12_hard) (As := [_]) ok_X12_hard (ci := 12) rfl kw_1166 kw_1168 kw_26 dX12_tenths_9 rfl rfl rfl (Nat.le_of_ble_eq_true rfl) ⟨⟨Nat.le_of_ble_eq_true rfl, Nat.le_of_ble_eq_true rfl⟩, Nat.le_of_ble_eq_true rfl, Nat.le_of_ble_eq_true rfl⟩ ?_
  refine c_X12_hard hj hkj ej ?_
  refine pm_isub dX12_tenths_12 ?_
  refine pm_istore_n (lv2 := [(3, _), (0, _), (1, _), (2, _)]) dX12_tenths_13 rfl (Nat.le_of_ble_eq_true rfl) rfl ?_
  refine pm_iload_n dX12_tenths_14 rfl rfl ?_
  refine pm_iconst (v := 1) dX12_tenths_15 (by decide) ?_
  refine pm_icmp_ge (tgt := 23) dX12_tenths_16 (by decide) (fun c_16 => ?_) (fun c_16 => ?_)
  · refine pm_iload_n dX12_tenths_23 rfl rfl ?_
    refine pm_bipush (v := 9) dX12_tenths_24 (by decide) ?_
    refine pm_icmp_le (tgt := 34) dX12_tenths_26 (by decide) (fun c_26 => ?_) (fun c_26 => ?_)
    · refine pm_iload_n dX12_tenths_34 rfl rfl ?_
      refine pm_iret dX12_tenths_35 rfl rfl rfl ?_
      refine th_r ?_ hQ
      rw [th_tn, if_pos c_16, if_pos c_26]
    · refine pm_bipush (v := 9) dX12_tenths_29 (by decide) ?_
      refine pm_goto (tgt := 35) dX12_tenths_31 (by decide) ?_
      refine pm_iret dX12_tenths_35 rfl rfl rfl ?_
      refine th_r ?_ hQ
      rw [th_tn, if_pos c_16, if_neg c_26]
  · refine pm_iconst (v := 1) dX12_tenths_19 (by decide) ?_
    refine pm_goto (tgt := 35) dX12_tenths_20 (by decide) ?_
    refine pm_iret dX12_tenths_35 rfl rfl rfl ?_
    refine th_r ?_ hQ
    rw [th_tn, if_neg c_16]

set_option maxHeartbeats 600000 in
set_option maxRecDepth 100000 in
theorem c_X11_tenthsFor {l : Launch} {G : pm_G} {ad : Nat → Nat → Nat} {a3 a4 a5 a6 a7 a8 : List pm_A} {a1 a2 : Nat → Option pm_A} {S : Nat → Nat} {Y : Nat → Nat → Int32} {Q : pm_T} {i j : Nat} (hi : i < 4) (hj : j < 4) (hQ : Q ad (some (.int (th_tn (Y 0 i) (Y 0 j)))) (th_g0 ad S Y, a1, a2, a3, a4, a5, a6, a7, a8)) : pm_C l G m_X11_tenthsFor [.ref (ad 0 0), .int (nI i), .int (nI j)] ad (th_g0 ad S Y, a1, a2, a3, a4, a5, a6, a7, a8) Q := by
  refine pm_met (by decide) (Nat.le_of_ble_eq_true rfl) ?_
  refine pm_iconst (v := 5) dX11_tenthsFor_0 (by decide) ?_
  refine pm_aload_n dX11_tenthsFor_1 rfl rfl ?_
  refine pm_get fl_RX11_56_11 dX11_tenthsFor_2 rfl rfl ?_
  refine pm_iload_n dX11_tenthsFor_5 rfl rfl ?_
  refine pm_iald dX11_tenthsFor_6 rfl (th_in hi (by decide)) ?_
  rw [th_cl (by omega)]
  refine pm_iadd dX11_tenthsFor_7 ?_
  refine pm_aload_n dX11_tenthsFor_8 rfl rfl ?_
  refine pm_get fl_RX11_56_11 dX11_tenthsFor_9 rfl rfl ?_
  refine pm_iload_n dX11_tenthsFor_12 rfl rfl ?_
  refine pm_iald dX11_tenthsFor_13 rfl (th_in hj (by decide)) ?_
  rw [th_cl (by omega)]
  refine pm_isub dX11_tenthsFor_14 ?_
  refine pm_istore_n (lv2 := [(3, _), (0, _), (1, _), (2, _)]) dX11_tenthsFor_15 rfl (Nat.le_of_ble_eq_true rfl) rfl ?_
  refine pm_iconst (v := 1) dX11_tenthsFor_16 (by decide) ?_
  refine pm_bipush (v := 9) dX11_tenthsFor_17 (by decide) ?_
  refine pm_iload_n dX11_tenthsFor_19 rfl rfl ?_
  refine pm_min kw_859 kw_372 kw_54 kw_373 (Nat.le_of_ble_eq_true rfl) (Nat.le_of_ble_eq_true rfl) (Nat.le_of_ble_eq_true rfl) (Nat.le_of_ble_eq_true rfl) dX11_tenthsFor_20 ?_
  refine pm_max kw_860 kw_369 kw_54 kw_370 (Nat.le_of_ble_eq_true rfl) (Nat.le_of_ble_eq_true rfl) (Nat.le_of_ble_eq_true rfl) (Nat.le_of_ble_eq_true rfl) dX11_tenthsFor_23 ?_
  refine pm_iret dX11_tenthsFor_26 rfl rfl rfl ?_
  exact th_r (th_tn_mm _).symm hQ

set_option maxHeartbeats 600000 in
set_option maxRecDepth 100000 in
theorem th_pi3 : ∀ a, a < 8 → th_pi 3 a = nI (3 ^ a) := by decide +kernel
theorem th_p3 : ∀ a, a < 8 → 0 < 3 ^ a ∧ 3 ^ a < 2188 := by decide +kernel
set_option maxHeartbeats 4000000 in
set_option maxRecDepth 100000 in
theorem c_X12_softOf {l : Launch} {G : pm_G} {ad : Nat → Nat → Nat} {w : pm_V} {Q : pm_T} {c a : Nat} (hc : c < 729) (ha : a < 8) (hQ : Q ad (some (.int (nI (c / 3 ^ a % 3 + 1)))) w) : pm_C l G m_X12_softOf [.int (nI c), .int (nI a)] ad w Q := by
  refine pm_met (by decide) (Nat.le_of_ble_eq_true rfl) ?_
  refine pm_iload_n dX12_softOf_0 rfl rfl ?_
  refine pm_iconst (v := 3) dX12_softOf_1 (by decide) ?_
  refine pm_iload_n dX12_softOf_2 rfl rfl ?_
  refine pm_callS (M2 := m_X12_power) (As := [_, _]) ok_X12_power kw_1277 kw_1278 dX12_softOf_3 rfl rfl (Nat.le_of_ble_eq_true rfl) ⟨⟨Nat.le_of_ble_eq_true rfl, Nat.le_of_ble_eq_true rfl⟩, Nat.le_of_ble_eq_true rfl, Nat.le_of_ble_eq_true rfl⟩ ?_
  refine c_X12_power (by omega) ?_
  rw [th_pi3 a (by omega)]
  refine pm_idiv dX12_softOf_6 (fun z => absurd ((nI_eq (b := 0) (by have := th_p3 a ha; omega) (by decide)).mp z) (by have := th_p3 a ha; omega)) ?_
  refine pm_iconst (v := 3) dX12_softOf_7 (by decide) ?_
  have hp := th_p3 a ha
  rw [pk_div (by omega) (by omega) (by omega), show (3 : Int32) = nI 3 from rfl]
  refine pm_irem dX12_softOf_8 (by decide) ?_
  rw [pk_rem (Nat.lt_of_le_of_lt (Nat.div_le_self _ _) (by omega)) (by decide) (by decide)]
  refine pm_iconst (v := 1) dX12_softOf_9 (by decide) ?_
  refine pm_iadd dX12_softOf_10 ?_
  rw [nI_1]
  refine pm_iret dX12_softOf_11 rfl rfl rfl ?_
  exact hQ

set_option maxHeartbeats 600000 in
set_option maxRecDepth 100000 in
theorem c_X11_mixed {l : Launch} {G : pm_G} {ad : Nat → Nat → Nat} {w : pm_V} {Q : pm_T} {h n : Int64} (hQ : Q ad (some (.long (31 * h + n))) w) : pm_C l G m_X11_mixed [.long h, .long n] ad w Q := by
  refine pm_met (by decide) (Nat.le_of_ble_eq_true rfl) ?_
  refine pm_ldc2 kw_927 dX11_mixed_0 ?_
  refine pm_lload_n dX11_mixed_3 rfl rfl ?_
  refine pm_lmul dX11_mixed_4 ?_
  refine pm_lload_n dX11_mixed_5 rfl rfl ?_
  refine pm_ladd dX11_mixed_6 ?_
  refine pm_lret dX11_mixed_7 rfl rfl rfl ?_
  exact hQ

set_option maxHeartbeats 600000 in
set_option maxRecDepth 100000 in
theorem c_X12_say {l : Launch} {G : pm_G} {ad : Nat → Nat → Nat} {a0 a3 a4 a5 a6 a7 : List pm_A} {a1 a2 : Nat → Option pm_A} {S : Nat → Nat} {A : Nat → Nat → Int32} {s : Nat → Int32} {B : Nat → Nat → Int32} {hs : Int64} {Q : pm_T} {n : Int64} (hQ : Q ad none (a0, a1, a2, a3, a4, a5, a6, a7, th_mp ad S A s B (31 * hs + n))) : pm_C l G m_X12_say [.ref (ad 8 0), .long n] ad (a0, a1, a2, a3, a4, a5, a6, a7, th_mp ad S A s B hs) Q := by
  refine pm_met (by decide) (Nat.le_of_ble_eq_true rfl) ?_
  refine pm_aload_n dX12_say_0 rfl rfl ?_
  refine pm_ldc2 kw_1372 dX12_say_1 ?_
  refine pm_aload_n dX12_say_4 rfl rfl ?_
  refine pm_get fl_RX12_296_12 dX12_say_5 rfl rfl ?_
  refine pm_lmul dX12_say_8 ?_
  refine pm_lload_n dX12_say_9 rfl rfl ?_
  refine pm_ladd dX12_say_10 ?_
  refine pm_put (w2 := (_, _, _, _, _, _, _, _, [.inr (_, [_, _, _, _, _, _, _, _, _, _, _, _, _, _, _, _, _, _, _, _, _, _, _, _, _, _, _, _, _, _, _, _, _, _, _, _, _, _, _, _, _, _, _, _]), _, _, _, _, _, _, _, _, _, _, _, _, _, _, _, _, _, _, _, _, _, _, _])) fl_RX12_296_12 fp_12_43 dX12_say_11 rfl rfl rfl (Nat.le_of_ble_eq_true rfl) rfl ?_
  refine pm_vret dX12_say_14 rfl rfl rfl ?_
  exact hQ

