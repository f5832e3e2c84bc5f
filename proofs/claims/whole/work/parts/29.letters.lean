theorem th_lNex (w : Int64) : ∃ n : Nat, n < 2 ^ 64 ∧ w = lN n := ⟨w.toBitVec.toNat, w.toBitVec.isLt, Int64.toBitVec_inj.mp (by rw [lN]; simp [Int64.ofNat])⟩
theorem th_lbv (n : Nat) : (lN n).toBitVec = BitVec.ofNat 64 n := rfl
theorem th_nbv (n : Nat) : (nI n).toBitVec = BitVec.ofNat 32 n := rfl
theorem th_land255 (n : Nat) : lN n &&& 255 = lN (n % 256) := by
  apply Int64.toBitVec_inj.mp
  rw [Int64.toBitVec_and, th_lbv, th_lbv]
  apply BitVec.eq_of_toNat_eq
  rw [BitVec.toNat_and, BitVec.toNat_ofNat, BitVec.toNat_ofNat, show (Int64.toBitVec 255).toNat = 2 ^ 8 - 1 from by decide, Nat.and_two_pow_sub_one_eq_mod]
  omega
theorem th_iand255 (n : Nat) : nI n &&& 255 = nI (n % 256) := by
  apply Int32.toBitVec_inj.mp
  rw [Int32.toBitVec_and, th_nbv, th_nbv]
  apply BitVec.eq_of_toNat_eq
  rw [BitVec.toNat_and, BitVec.toNat_ofNat, BitVec.toNat_ofNat, show (Int32.toBitVec 255).toNat = 2 ^ 8 - 1 from by decide, Nat.and_two_pow_sub_one_eq_mod]
  omega
theorem th_ush {n k : Nat} (hn : n < 2 ^ 64) (y : UInt64) (hy : y.toNat % 64 = k) : ((lN n).toUInt64 >>> y).toInt64 = lN (n / 2 ^ k) := by
  apply Int64.toBitVec_inj.mp
  apply BitVec.eq_of_toNat_eq
  have e1 : ((lN n).toUInt64 >>> y).toInt64.toBitVec.toNat = ((lN n).toUInt64 >>> y).toNat := rfl
  have e2 : (lN n).toUInt64.toNat = n := by
    show (BitVec.ofNat 64 n).toNat = n
    rw [BitVec.toNat_ofNat, Nat.mod_eq_of_lt hn]
  rw [e1, UInt64.toNat_shiftRight, e2, hy, th_lbv, BitVec.toNat_ofNat, Nat.shiftRight_eq_div_pow]
  exact (Nat.mod_eq_of_lt (Nat.lt_of_le_of_lt (Nat.div_le_self _ _) hn)).symm
theorem th_shy : ∀ k, k < 64 → (((nI k).toInt64.toUInt64 &&& Int64.toUInt64 63)).toNat % 64 = k := by decide +kernel
/-- a byte of w -/
def th_by (n k : Nat) : Nat := n / 2 ^ (8 * k) % 256
def th_le (n : Nat) : Nat → Option Nat
  | 0 => some 0
  | k + 1 => match th_le n k with
    | none => none
    | some m => if 126 < th_by n k ∨ (¬ th_by n k = 0 ∧ m < k) then none else some (if th_by n k = 0 then m else m + 1)
theorem th_len {n k : Nat} (h : th_le n k = none) : th_le n (k + 1) = none := by rw [th_le, h]
theorem th_leb {n k m : Nat} (h : th_le n k = some m) (hb : 126 < th_by n k ∨ (¬ th_by n k = 0 ∧ m < k)) : th_le n (k + 1) = none := by rw [th_le, h]; exact if_pos hb
theorem th_le0 {n k m : Nat} (h : th_le n k = some m) (hb : th_by n k = 0) : th_le n (k + 1) = some m := by
  rw [th_le, h]
  show (if 126 < th_by n k ∨ (¬ th_by n k = 0 ∧ m < k) then none else some (if th_by n k = 0 then m else m + 1)) = some m
  rw [if_neg (by omega), if_pos hb]
theorem th_le1 {n k m : Nat} (h : th_le n k = some m) (hb : ¬ th_by n k = 0) (h6 : ¬ 126 < th_by n k) (hm : ¬ m < k) : th_le n (k + 1) = some (m + 1) := by
  rw [th_le, h]
  show (if 126 < th_by n k ∨ (¬ th_by n k = 0 ∧ m < k) then none else some (if th_by n k = 0 then m else m + 1)) = some (m + 1)
  rw [if_neg (by omega), if_neg hb]
theorem th_le_i {n : Nat} : ∀ k m, th_le n k = some m → m ≤ k ∧ ∀ i, i < m → 1 ≤ th_by n i ∧ th_by n i ≤ 126 := by
  intro k
  induction k with
  | zero =>
    intro m h
    cases h
    exact ⟨Nat.le_refl _, fun i hi => absurd hi (by omega)⟩
  | succ k ih =>
    intro m h
    cases hp : th_le n k with
    | none => rw [th_len hp] at h; cases h
    | some q =>
      obtain ⟨h1, h2⟩ := ih q hp
      by_cases hb : th_by n k = 0
      · rw [th_le0 hp hb] at h
        cases h
        exact ⟨by omega, h2⟩
      · by_cases h6 : 126 < th_by n k
        · rw [th_leb hp (Or.inl h6)] at h; cases h
        · by_cases hm : q < k
          · rw [th_leb hp (Or.inr ⟨hb, hm⟩)] at h; cases h
          · rw [th_le1 hp hb h6 hm] at h
            cases h
            refine ⟨by omega, fun i hi => ?_⟩
            by_cases e : i = q
            · have e2 : i = k := by omega
              rw [e2]
              exact ⟨by omega, by omega⟩
            · exact h2 i (by omega)
def th_wrt (n : Nat) (f : Nat → Int32) (s : Nat) : Nat → Nat → Int32
  | 0 => f
  | i + 1 => upd (th_wrt n f s i) (s + i) (nI (th_by n i))
def th_letA (S : Nat → Nat) (n : Nat) : Int32 := match th_le n 8 with
  | none => -102
  | some m => if S 1 + m ≤ 20 then nI (S 1 + m) else -104
def th_letS (S : Nat → Nat) (n : Nat) : Nat → Nat := match th_le n 8 with
  | none => S
  | some m => if S 1 + m ≤ 20 then va_up S 1 (S 1 + m) else S
def th_letT (S : Nat → Nat) (A : Nat → Nat → Int32) (n : Nat) : Nat → Nat → Int32 := match th_le n 8 with
  | none => A
  | some m => if S 1 + m ≤ 20 then va_up A 1 (th_wrt n (A 1) (S 1) m) else A
theorem th_by_lt (n k : Nat) : th_by n k < 256 := Nat.mod_lt _ (by decide)
theorem th_b8 {n k : Nat} (hn : n < 2 ^ 64) (hk : k < 8) : ((lN n).toUInt64 >>> ((8 * nI k : Int32).toInt64.toUInt64 &&& Int64.toUInt64 63)).toInt64 = lN (n / 2 ^ (8 * k)) := by
  rw [show (8 : Int32) * nI k = nI (8 * k) from pk_mul 8 k]
  exact th_ush hn _ (th_shy (8 * k) (by omega))
set_option maxHeartbeats 600000 in
set_option maxRecDepth 100000 in
theorem c_X6_byteOf {l : Launch} {G : pm_G} {ad : Nat → Nat → Nat} {w : pm_V} {Q : pm_T} {n k : Nat} (hn : n < 2 ^ 64) (hk : k < 8) (hQ : Q ad (some (.int (nI (th_by n k)))) w) : pm_C l G m_X6_byteOf [.long (lN n), .int (nI k)] ad w Q := by
  refine pm_met (by decide) (Nat.le_of_ble_eq_true rfl) ?_
  refine pm_lload_n dX6_byteOf_0 rfl rfl ?_
  refine pm_bipush (v := 8) dX6_byteOf_1 (by decide) ?_
  refine pm_iload_n dX6_byteOf_3 rfl rfl ?_
  refine pm_imul dX6_byteOf_4 ?_
  refine pm_lushr dX6_byteOf_5 ?_
  rw [th_b8 hn hk]
  refine pm_l2i dX6_byteOf_6 ?_
  rw [lN_i]
  refine pm_sipush (v := 255) dX6_byteOf_7 (by decide) ?_
  refine pm_iand dX6_byteOf_10 ?_
  rw [th_iand255, show n / 2 ^ (8 * k) % 256 = th_by n k from rfl]
  refine pm_iret dX6_byteOf_11 rfl rfl rfl ?_
  exact hQ

set_option maxHeartbeats 600000 in
set_option maxRecDepth 100000 in
theorem f_X12_letters {l : Launch} {G : pm_G} {ad : Nat → Nat → Nat} {a0 a3 a4 a5 a6 a7 : List pm_A} {a1 a2 : Nat → Option pm_A} {S : Nat → Nat} {A : Nat → Nat → Int32} {s : Nat → Int32} {B : Nat → Nat → Int32} {hs : Int64} {Q : pm_T} {n m : Nat} {x y : Int32} {z : Int64} (hn : n < 2 ^ 64) (hm : m ≤ 8) (h2 : S 1 + m ≤ 20) (hQ : Q ad (some (.int (nI (S 1 + m)))) (a0, a1, a2, a3, a4, a5, a6, a7, th_mp ad (va_up S 1 (S 1 + m)) (va_up A 1 (th_wrt n (A 1) (S 1) m)) s B hs)) : pm_W l G m_X12_letters ad 105 [(7, .int x), (5, .long z), (4, .int y), (3, .int (nI m)), (0, .ref (ad 8 0)), (1, .long (lN n))] [] (a0, a1, a2, a3, a4, a5, a6, a7, th_mp ad S A s B hs) 0 0 Q := by
  refine pm_iconst (v := 0) dX12_letters_105 (by decide) ?_
  refine pm_istore (lv2 := [(7, _), (5, _), (4, _), (3, _), (0, _), (1, _)]) dX12_letters_106 (Nat.le_of_ble_eq_true rfl) rfl ?_
  suffices H : ∀ i, i ≤ m → pm_W l G m_X12_letters ad 108 [(7, .int (nI i)), (5, .long z), (4, .int y), (3, .int (nI m)), (0, .ref (ad 8 0)), (1, .long (lN n))] [] (a0, a1, a2, a3, a4, a5, a6, a7, th_mp ad (va_up S 1 (S 1 + i)) (va_up A 1 (th_wrt n (A 1) (S 1) i)) s B hs) 0 0 Q from H 0 (Nat.zero_le _)
  refine th_loop _ ?_
  intro i hi kk
  refine pm_iload dX12_letters_108 rfl ?_
  refine pm_iload_n dX12_letters_110 rfl rfl ?_
  refine pm_icmp_ge (tgt := 151) dX12_letters_111 (by decide) (fun c_111 => ?_) (fun c_111 => ?_)
  · refine pm_aload_n dX12_letters_151 rfl rfl ?_
    refine pm_get fl_RX12_82_12 dX12_letters_152 rfl rfl ?_
    refine pm_iret dX12_letters_155 rfl rfl rfl ?_
    have he : i = m := by
      rw [nI_leI (by omega) (by omega)] at c_111
      omega
    subst he
    exact hQ
  · have hlt : i < m := by
      rw [nI_leI (by omega) (by omega)] at c_111
      omega
    refine pm_aload_n dX12_letters_114 rfl rfl ?_
    refine pm_get fl_RX12_7_12 dX12_letters_115 rfl rfl ?_
    refine pm_aload_n dX12_letters_118 rfl rfl ?_
    refine pm_get fl_RX12_82_12 dX12_letters_119 rfl rfl ?_
    show pm_W _ _ _ _ _ _ (.int (nI (S 1 + i)) :: _) _ _ _ _
    refine pm_lload_n dX12_letters_122 rfl rfl ?_
    refine pm_bipush (v := 8) dX12_letters_123 (by decide) ?_
    refine pm_iload dX12_letters_125 rfl ?_
    refine pm_imul dX12_letters_127 ?_
    refine pm_lushr dX12_letters_128 ?_
    rw [th_b8 hn (by omega)]
    refine pm_ldc2 kw_1096 dX12_letters_129 ?_
    refine pm_land dX12_letters_132 ?_
    rw [th_land255]
    refine pm_l2i dX12_letters_133 ?_
    rw [lN_i, show n / 2 ^ (8 * i) % 256 = th_by n i from rfl]
    refine pm_iast (w2 := (_, _, _, _, _, _, _, _, [_, _, _, _, _, _, _, _, _, _, _, _, _, _, _, _, _, _, _, _, _, _, _, _])) dX12_letters_134 rfl (th_in (by omega) (by decide)) rfl ?_
    rw [th_cl (by omega)]
    refine pm_aload_n dX12_letters_135 rfl rfl ?_
    refine pm_dup dX12_letters_136 rfl ?_
    refine pm_get fl_RX12_82_12 dX12_letters_137 rfl rfl ?_
    show pm_W _ _ _ _ _ _ (.int (nI (S 1 + i)) :: _) _ _ _ _
    refine pm_iconst (v := 1) dX12_letters_140 (by decide) ?_
    refine pm_iadd dX12_letters_141 ?_
    rw [nI_1]
    refine pm_put (w2 := (_, _, _, _, _, _, _, _, [.inr (_, [_, _, _, _, _, _, _, _, _, _, _, _, _, _, _, _, _, _, _, _, _, _, _, _, _, _, _, _, _, _, _, _, _, _, _, _, _, _, _, _, _, _, _, _]), _, _, _, _, _, _, _, _, _, _, _, _, _, _, _, _, _, _, _, _, _, _, _])) fl_RX12_82_12 fp_12_1 dX12_letters_142 rfl rfl rfl (Nat.le_of_ble_eq_true rfl) rfl ?_
    refine pm_iinc (lv2 := [(7, _), (5, _), (4, _), (3, _), (0, _), (1, _)]) dX12_letters_145 rfl (nI_1 i) (Nat.le_of_ble_eq_true rfl) rfl ?_
    refine pm_goto (tgt := 108) dX12_letters_148 (by decide) ?_
    refine pm_pick [0, 1, 2, 3, 4, 5] rfl ?_
    exact kk hlt

set_option maxHeartbeats 600000 in
set_option maxRecDepth 100000 in
theorem c_X12_letters {l : Launch} {G : pm_G} {ad : Nat → Nat → Nat} {a0 a3 a4 a5 a6 a7 : List pm_A} {a1 a2 : Nat → Option pm_A} {S : Nat → Nat} {A : Nat → Nat → Int32} {s : Nat → Int32} {B : Nat → Nat → Int32} {hs : Int64} {Q : pm_T} {n : Nat} (hI : th_I S A) (hn : n < 2 ^ 64) (hQ : Q ad (some (.int (th_letA S n))) (a0, a1, a2, a3, a4, a5, a6, a7, th_mp ad (th_letS S n) (th_letT S A n) s B hs)) : pm_C l G m_X12_letters [.ref (ad 8 0), .long (lN n)] ad (a0, a1, a2, a3, a4, a5, a6, a7, th_mp ad S A s B hs) Q := by
  have h20 := hI.1.1
  refine pm_met (by decide) (Nat.le_of_ble_eq_true rfl) ?_
  refine pm_iconst (v := 0) dX12_letters_0 (by decide) ?_
  refine pm_istore_n (lv2 := [(3, _), (0, _), (1, _)]) dX12_letters_1 rfl (Nat.le_of_ble_eq_true rfl) rfl ?_
  refine pm_iconst (v := 1) dX12_letters_2 (by decide) ?_
  refine pm_istore (lv2 := [(4, _), (3, _), (0, _), (1, _)]) dX12_letters_3 (Nat.le_of_ble_eq_true rfl) rfl ?_
  refine pm_lload_n dX12_letters_5 rfl rfl ?_
  refine pm_lstore (lv2 := [(5, _), (4, _), (3, _), (0, _), (1, _)]) dX12_letters_6 (Nat.le_of_ble_eq_true rfl) rfl ?_
  refine pm_iconst (v := 0) dX12_letters_8 (by decide) ?_
  refine pm_istore (lv2 := [(7, _), (5, _), (4, _), (3, _), (0, _), (1, _)]) dX12_letters_9 (Nat.le_of_ble_eq_true rfl) rfl ?_
  suffices H : ∀ k, k ≤ 8 → ∀ g m : Nat, ((g = 1 ∧ th_le n k = some m) ∨ (g = 0 ∧ th_le n k = none)) → m ≤ k → g ≤ 1 → pm_W l G m_X12_letters ad 11 [(7, .int (nI k)), (5, .long (lN (n / 2 ^ (8 * k)))), (4, .int (nI g)), (3, .int (nI m)), (0, .ref (ad 8 0)), (1, .long (lN n))] [] (a0, a1, a2, a3, a4, a5, a6, a7, th_mp ad S A s B hs) 0 0 Q from by
    have h := H 0 (by decide) 1 0 (Or.inl ⟨rfl, rfl⟩) (Nat.le_refl _) (by decide)
    rw [Nat.mul_zero, Nat.pow_zero, Nat.div_one] at h
    exact h
  refine th_loop _ ?_
  intro k hk kk g m hg hm hg1
  have hbl := th_by_lt n k
  refine pm_iload dX12_letters_11 rfl ?_
  refine pm_bipush (v := 8) dX12_letters_13 (by decide) ?_
  refine pm_icmp_ge (tgt := 83) dX12_letters_15 (by decide) (fun c_15 => ?_) (fun c_15 => ?_)
  · have he : k = 8 := by
      rw [show (8 : Int32) = nI 8 from rfl, nI_leI (by decide) (by omega)] at c_15
      omega
    subst he
    refine pm_iload dX12_letters_83 rfl ?_
    refine pm_if_ne (tgt := 91) dX12_letters_85 (by decide) (fun c_85 => ?_) (fun c_85 => ?_)
    · have hs0 : th_le n 8 = some m := by
        rcases hg with ⟨-, e⟩ | ⟨e, -⟩
        · exact e
        · exact absurd (by rw [e]; rfl) c_85
      rw [th_letA, th_letS, th_letT, hs0] at hQ
      replace hQ : Q ad (some (.int (if S 1 + m ≤ 20 then nI (S 1 + m) else -104))) (a0, a1, a2, a3, a4, a5, a6, a7, th_mp ad (if S 1 + m ≤ 20 then va_up S 1 (S 1 + m) else S) (if S 1 + m ≤ 20 then va_up A 1 (th_wrt n (A 1) (S 1) m) else A) s B hs) := hQ
      refine pm_aload_n dX12_letters_91 rfl rfl ?_
      refine pm_get fl_RX12_82_12 dX12_letters_92 rfl rfl ?_
      refine pm_iload_n dX12_letters_95 rfl rfl ?_
      refine pm_iadd dX12_letters_96 ?_
      rw [nI_add]
      refine pm_bipush (v := 20) dX12_letters_97 (by decide) ?_
      refine pm_icmp_le (tgt := 105) dX12_letters_99 (by decide) (fun c_99 => ?_) (fun c_99 => ?_)
      · refine pm_pick [0, 1, 2, 3, 4, 5] rfl ?_
        have h2 : S 1 + m ≤ 20 := (nI_leI (b := 20) (by omega) (by decide)).mp c_99
        rw [if_pos h2, if_pos h2, if_pos h2] at hQ
        exact f_X12_letters hn hm h2 hQ
      · refine pm_bipush (v := (-104)) dX12_letters_102 (by decide) ?_
        refine pm_iret dX12_letters_104 rfl rfl rfl ?_
        have h2 : ¬ S 1 + m ≤ 20 := fun z => c_99 ((nI_leI (b := 20) (by omega) (by decide)).mpr z)
        rw [if_neg h2, if_neg h2, if_neg h2] at hQ
        exact hQ
    · refine pm_bipush (v := (-102)) dX12_letters_88 (by decide) ?_
      refine pm_iret dX12_letters_90 rfl rfl rfl ?_
      rcases hg with ⟨e, -⟩ | ⟨-, e⟩
      · exact absurd c_85 (by rw [e]; decide)
      · rw [th_letA, th_letS, th_letT, e] at hQ
        exact hQ
  · have hlt : k < 8 := by
      rw [show (8 : Int32) = nI 8 from rfl, nI_leI (by decide) (by omega)] at c_15
      omega
    refine pm_lload dX12_letters_18 rfl ?_
    refine pm_ldc2 kw_1096 dX12_letters_20 ?_
    refine pm_land dX12_letters_23 ?_
    rw [th_land255]
    refine pm_l2i dX12_letters_24 ?_
    rw [lN_i, show n / 2 ^ (8 * k) % 256 = th_by n k from rfl]
    refine pm_istore (lv2 := [(8, _), (7, _), (5, _), (4, _), (3, _), (0, _), (1, _)]) dX12_letters_25 (Nat.le_of_ble_eq_true rfl) rfl ?_
    refine pm_lload dX12_letters_27 rfl ?_
    refine pm_bipush (v := 8) dX12_letters_29 (by decide) ?_
    refine pm_lushr dX12_letters_31 ?_
    rw [th_ush (k := 8) (Nat.lt_of_le_of_lt (Nat.div_le_self _ _) hn) _ (by decide), Nat.div_div_eq_div_mul, ← Nat.pow_add, show 8 * k + 8 = 8 * (k + 1) from by omega]
    refine pm_lstore (lv2 := [(5, _), (8, _), (7, _), (4, _), (3, _), (0, _), (1, _)]) dX12_letters_32 (Nat.le_of_ble_eq_true rfl) rfl ?_
    refine pm_iload dX12_letters_34 rfl ?_
    refine pm_if_eq (tgt := 61) dX12_letters_36 (by decide) (fun c_36 => ?_) (fun c_36 => ?_)
    · have hn0 : th_le n k = none := by
        rcases hg with ⟨e, -⟩ | ⟨-, e⟩
        · exact absurd c_36 (by rw [e]; decide)
        · exact e
      refine pm_iconst (v := 0) dX12_letters_61 (by decide) ?_
      refine pm_istore (lv2 := [(4, _), (5, _), (8, _), (7, _), (3, _), (0, _), (1, _)]) dX12_letters_62 (Nat.le_of_ble_eq_true rfl) rfl ?_
      refine pm_iload_n dX12_letters_64 rfl rfl ?_
      refine pm_iload dX12_letters_65 rfl ?_
      refine pm_if_le (tgt := 74) dX12_letters_67 (by decide) (fun c_67 => ?_) (fun c_67 => ?_)
      · refine pm_iconst (v := 0) dX12_letters_74 (by decide) ?_
        refine pm_iadd dX12_letters_75 ?_
        rw [Int32.add_zero]
        refine pm_istore_n (lv2 := [(3, _), (4, _), (5, _), (8, _), (7, _), (0, _), (1, _)]) dX12_letters_76 rfl (Nat.le_of_ble_eq_true rfl) rfl ?_
        refine pm_iinc (lv2 := [(7, _), (3, _), (4, _), (5, _), (8, _), (0, _), (1, _)]) dX12_letters_77 rfl (nI_1 k) (Nat.le_of_ble_eq_true rfl) rfl ?_
        refine pm_goto (tgt := 11) dX12_letters_80 (by decide) ?_
        refine pm_pick [0, 3, 2, 1, 5, 6] rfl ?_
        exact kk hlt 0 m (Or.inr ⟨rfl, th_len hn0⟩) (by omega) (by decide)
      · refine pm_iconst (v := 1) dX12_letters_70 (by decide) ?_
        refine pm_goto (tgt := 75) dX12_letters_71 (by decide) ?_
        refine pm_iadd dX12_letters_75 ?_
        rw [nI_1]
        refine pm_istore_n (lv2 := [(3, _), (4, _), (5, _), (8, _), (7, _), (0, _), (1, _)]) dX12_letters_76 rfl (Nat.le_of_ble_eq_true rfl) rfl ?_
        refine pm_iinc (lv2 := [(7, _), (3, _), (4, _), (5, _), (8, _), (0, _), (1, _)]) dX12_letters_77 rfl (nI_1 k) (Nat.le_of_ble_eq_true rfl) rfl ?_
        refine pm_goto (tgt := 11) dX12_letters_80 (by decide) ?_
        refine pm_pick [0, 3, 2, 1, 5, 6] rfl ?_
        exact kk hlt 0 (m + 1) (Or.inr ⟨rfl, th_len hn0⟩) (by omega) (by decide)
    · have hs0 : th_le n k = some m := by
        rcases hg with ⟨-, e⟩ | ⟨e, -⟩
        · exact e
        · exact absurd (by rw [e]; rfl) c_36
      refine pm_iload dX12_letters_39 rfl ?_
      refine pm_bipush (v := 126) dX12_letters_41 (by decide) ?_
      refine pm_icmp_gt (tgt := 61) dX12_letters_43 (by decide) (fun c_43 => ?_) (fun c_43 => ?_)
      · refine pm_iconst (v := 0) dX12_letters_61 (by decide) ?_
        refine pm_istore (lv2 := [(4, _), (5, _), (8, _), (7, _), (3, _), (0, _), (1, _)]) dX12_letters_62 (Nat.le_of_ble_eq_true rfl) rfl ?_
        refine pm_iload_n dX12_letters_64 rfl rfl ?_
        refine pm_iload dX12_letters_65 rfl ?_
        refine pm_if_le (tgt := 74) dX12_letters_67 (by decide) (fun c_67 => ?_) (fun c_67 => ?_)
        · refine pm_iconst (v := 0) dX12_letters_74 (by decide) ?_
          refine pm_iadd dX12_letters_75 ?_
          rw [Int32.add_zero]
          refine pm_istore_n (lv2 := [(3, _), (4, _), (5, _), (8, _), (7, _), (0, _), (1, _)]) dX12_letters_76 rfl (Nat.le_of_ble_eq_true rfl) rfl ?_
          refine pm_iinc (lv2 := [(7, _), (3, _), (4, _), (5, _), (8, _), (0, _), (1, _)]) dX12_letters_77 rfl (nI_1 k) (Nat.le_of_ble_eq_true rfl) rfl ?_
          refine pm_goto (tgt := 11) dX12_letters_80 (by decide) ?_
          refine pm_pick [0, 3, 2, 1, 5, 6] rfl ?_
          exact kk hlt 0 m (Or.inr ⟨rfl, th_leb hs0 (Or.inl ((nI_ltI (a := 126) (by decide) (by omega)).mp c_43))⟩) (by omega) (by decide)
        · refine pm_iconst (v := 1) dX12_letters_70 (by decide) ?_
          refine pm_goto (tgt := 75) dX12_letters_71 (by decide) ?_
          refine pm_iadd dX12_letters_75 ?_
          rw [nI_1]
          refine pm_istore_n (lv2 := [(3, _), (4, _), (5, _), (8, _), (7, _), (0, _), (1, _)]) dX12_letters_76 rfl (Nat.le_of_ble_eq_true rfl) rfl ?_
          refine pm_iinc (lv2 := [(7, _), (3, _), (4, _), (5, _), (8, _), (0, _), (1, _)]) dX12_letters_77 rfl (nI_1 k) (Nat.le_of_ble_eq_true rfl) rfl ?_
          refine pm_goto (tgt := 11) dX12_letters_80 (by decide) ?_
          refine pm_pick [0, 3, 2, 1, 5, 6] rfl ?_
          exact kk hlt 0 (m + 1) (Or.inr ⟨rfl, th_leb hs0 (Or.inl ((nI_ltI (a := 126) (by decide) (by omega)).mp c_43))⟩) (by omega) (by decide)
      · refine pm_iload dX12_letters_46 rfl ?_
        refine pm_if_eq (tgt := 57) dX12_letters_48 (by decide) (fun c_48 => ?_) (fun c_48 => ?_)
        · refine pm_iconst (v := 1) dX12_letters_57 (by decide) ?_
          refine pm_goto (tgt := 62) dX12_letters_58 (by decide) ?_
          refine pm_istore (lv2 := [(4, _), (5, _), (8, _), (7, _), (3, _), (0, _), (1, _)]) dX12_letters_62 (Nat.le_of_ble_eq_true rfl) rfl ?_
          refine pm_iload_n dX12_letters_64 rfl rfl ?_
          refine pm_iload dX12_letters_65 rfl ?_
          refine pm_if_le (tgt := 74) dX12_letters_67 (by decide) (fun c_67 => ?_) (fun c_67 => absurd (by rw [c_48]; decide) c_67)
          refine pm_iconst (v := 0) dX12_letters_74 (by decide) ?_
          refine pm_iadd dX12_letters_75 ?_
          rw [Int32.add_zero]
          refine pm_istore_n (lv2 := [(3, _), (4, _), (5, _), (8, _), (7, _), (0, _), (1, _)]) dX12_letters_76 rfl (Nat.le_of_ble_eq_true rfl) rfl ?_
          refine pm_iinc (lv2 := [(7, _), (3, _), (4, _), (5, _), (8, _), (0, _), (1, _)]) dX12_letters_77 rfl (nI_1 k) (Nat.le_of_ble_eq_true rfl) rfl ?_
          refine pm_goto (tgt := 11) dX12_letters_80 (by decide) ?_
          refine pm_pick [0, 3, 2, 1, 5, 6] rfl ?_
          exact kk hlt 1 m (Or.inl ⟨rfl, th_le0 hs0 ((nI_eq (b := 0) (by omega) (by decide)).mp c_48)⟩) (by omega) (by decide)
        · refine pm_iload_n dX12_letters_51 rfl rfl ?_
          refine pm_iload dX12_letters_52 rfl ?_
          refine pm_icmp_ne (tgt := 61) dX12_letters_54 (by decide) (fun c_54 => ?_) (fun c_54 => ?_)
          · refine pm_iconst (v := 0) dX12_letters_61 (by decide) ?_
            refine pm_istore (lv2 := [(4, _), (5, _), (8, _), (7, _), (3, _), (0, _), (1, _)]) dX12_letters_62 (Nat.le_of_ble_eq_true rfl) rfl ?_
            refine pm_iload_n dX12_letters_64 rfl rfl ?_
            refine pm_iload dX12_letters_65 rfl ?_
            refine pm_if_le (tgt := 74) dX12_letters_67 (by decide) (fun c_67 => ?_) (fun c_67 => ?_)
            · refine pm_iconst (v := 0) dX12_letters_74 (by decide) ?_
              refine pm_iadd dX12_letters_75 ?_
              rw [Int32.add_zero]
              refine pm_istore_n (lv2 := [(3, _), (4, _), (5, _), (8, _), (7, _), (0, _), (1, _)]) dX12_letters_76 rfl (Nat.le_of_ble_eq_true rfl) rfl ?_
              refine pm_iinc (lv2 := [(7, _), (3, _), (4, _), (5, _), (8, _), (0, _), (1, _)]) dX12_letters_77 rfl (nI_1 k) (Nat.le_of_ble_eq_true rfl) rfl ?_
              refine pm_goto (tgt := 11) dX12_letters_80 (by decide) ?_
              refine pm_pick [0, 3, 2, 1, 5, 6] rfl ?_
              exact kk hlt 0 m (Or.inr ⟨rfl, th_leb hs0 (Or.inr ⟨fun e => c_48 ((nI_eq (b := 0) (by omega) (by decide)).mpr e), by have hne : ¬ m = k := fun e => c_54 (congrArg nI e); omega⟩)⟩) (by omega) (by decide)
            · refine pm_iconst (v := 1) dX12_letters_70 (by decide) ?_
              refine pm_goto (tgt := 75) dX12_letters_71 (by decide) ?_
              refine pm_iadd dX12_letters_75 ?_
              rw [nI_1]
              refine pm_istore_n (lv2 := [(3, _), (4, _), (5, _), (8, _), (7, _), (0, _), (1, _)]) dX12_letters_76 rfl (Nat.le_of_ble_eq_true rfl) rfl ?_
              refine pm_iinc (lv2 := [(7, _), (3, _), (4, _), (5, _), (8, _), (0, _), (1, _)]) dX12_letters_77 rfl (nI_1 k) (Nat.le_of_ble_eq_true rfl) rfl ?_
              refine pm_goto (tgt := 11) dX12_letters_80 (by decide) ?_
              refine pm_pick [0, 3, 2, 1, 5, 6] rfl ?_
              exact kk hlt 0 (m + 1) (Or.inr ⟨rfl, th_leb hs0 (Or.inr ⟨fun e => c_48 ((nI_eq (b := 0) (by omega) (by decide)).mpr e), by have hne : ¬ m = k := fun e => c_54 (congrArg nI e); omega⟩)⟩) (by omega) (by decide)
          · refine pm_iconst (v := 1) dX12_letters_57 (by decide) ?_
            refine pm_goto (tgt := 62) dX12_letters_58 (by decide) ?_
            refine pm_istore (lv2 := [(4, _), (5, _), (8, _), (7, _), (3, _), (0, _), (1, _)]) dX12_letters_62 (Nat.le_of_ble_eq_true rfl) rfl ?_
            refine pm_iload_n dX12_letters_64 rfl rfl ?_
            refine pm_iload dX12_letters_65 rfl ?_
            refine pm_if_le (tgt := 74) dX12_letters_67 (by decide) (fun c_67 => absurd c_67 (fun z => c_48 ((nI_eq (b := 0) (by omega) (by decide)).mpr (Nat.le_zero.mp ((nI_leI (b := 0) (by omega) (by decide)).mp z))))) (fun c_67 => ?_)
            refine pm_iconst (v := 1) dX12_letters_70 (by decide) ?_
            refine pm_goto (tgt := 75) dX12_letters_71 (by decide) ?_
            refine pm_iadd dX12_letters_75 ?_
            rw [nI_1]
            refine pm_istore_n (lv2 := [(3, _), (4, _), (5, _), (8, _), (7, _), (0, _), (1, _)]) dX12_letters_76 rfl (Nat.le_of_ble_eq_true rfl) rfl ?_
            refine pm_iinc (lv2 := [(7, _), (3, _), (4, _), (5, _), (8, _), (0, _), (1, _)]) dX12_letters_77 rfl (nI_1 k) (Nat.le_of_ble_eq_true rfl) rfl ?_
            refine pm_goto (tgt := 11) dX12_letters_80 (by decide) ?_
            refine pm_pick [0, 3, 2, 1, 5, 6] rfl ?_
            exact kk hlt 1 (m + 1) (Or.inl ⟨rfl, th_le1 hs0 (fun e => c_48 ((nI_eq (b := 0) (by omega) (by decide)).mpr e)) (fun z => c_43 ((nI_ltI (a := 126) (by decide) (by omega)).mpr z)) (by have := (nI_eq (by omega) (by omega)).mp c_54; omega)⟩) (by omega) (by decide)

theorem th_leN {n k : Nat} (hk : k < 8) (h : th_le n (k + 1) = none) : th_le n 8 = none := by
  have hd : ∀ d, th_le n (k + 1 + d) = none := by
    intro d
    induction d with
    | zero => exact h
    | succ d ih => exact th_len ih
  have := hd (7 - k)
  rw [show k + 1 + (7 - k) = 8 from by omega] at this
  exact this
set_option maxHeartbeats 600000 in
set_option maxRecDepth 100000 in
theorem c_X6_lettersIn {l : Launch} {G : pm_G} {ad : Nat → Nat → Nat} {w : pm_V} {Q : pm_T} {n : Nat} (hn : n < 2 ^ 64) (h1 : ∀ m, m ≤ 8 → th_le n 8 = some m → Q ad (some (.int (nI m))) w) (h0 : th_le n 8 = none → Q ad (some (.int (-1))) w) : pm_C l G m_X6_lettersIn [.long (lN n)] ad w Q := by
  refine pm_met (by decide) (Nat.le_of_ble_eq_true rfl) ?_
  refine pm_iconst (v := 0) dX6_lettersIn_0 (by decide) ?_
  refine pm_istore_n (lv2 := [(2, _), (0, _)]) dX6_lettersIn_1 rfl (Nat.le_of_ble_eq_true rfl) rfl ?_
  refine pm_iconst (v := 0) dX6_lettersIn_2 (by decide) ?_
  refine pm_istore_n (lv2 := [(3, _), (2, _), (0, _)]) dX6_lettersIn_3 rfl (Nat.le_of_ble_eq_true rfl) rfl ?_
  suffices H : ∀ k, k ≤ 8 → ∀ m : Nat, th_le n k = some m → m ≤ k → pm_W l G m_X6_lettersIn ad 4 [(3, .int (nI k)), (2, .int (nI m)), (0, .long (lN n))] [] w 0 0 Q from H 0 (by decide) 0 rfl (Nat.le_refl _)
  refine th_loop _ ?_
  intro k hk kk m hp hm
  have hbl := th_by_lt n k
  refine pm_iload_n dX6_lettersIn_4 rfl rfl ?_
  refine pm_bipush (v := 8) dX6_lettersIn_5 (by decide) ?_
  refine pm_icmp_ge (tgt := 62) dX6_lettersIn_7 (by decide) (fun c_7 => ?_) (fun c_7 => ?_)
  · refine pm_iload_n dX6_lettersIn_62 rfl rfl ?_
    refine pm_iret dX6_lettersIn_63 rfl rfl rfl ?_
    have he : k = 8 := by
      rw [show (8 : Int32) = nI 8 from rfl, nI_leI (by decide) (by omega)] at c_7
      omega
    subst he
    exact h1 m hm hp
  · have hlt : k < 8 := by
      rw [show (8 : Int32) = nI 8 from rfl, nI_leI (by decide) (by omega)] at c_7
      omega
    refine pm_lload_n dX6_lettersIn_10 rfl rfl ?_
    refine pm_iload_n dX6_lettersIn_11 rfl rfl ?_
    refine pm_callS (M2 := m_X6_byteOf) (As := [_, _]) ok_X6_byteOf kw_286 kw_287 dX6_lettersIn_12 rfl rfl (Nat.le_of_ble_eq_true rfl) ⟨⟨Nat.le_of_ble_eq_true rfl, Nat.le_of_ble_eq_true rfl⟩, Nat.le_of_ble_eq_true rfl, Nat.le_of_ble_eq_true rfl⟩ ?_
    refine c_X6_byteOf hn hlt ?_
    refine pm_istore (lv2 := [(4, _), (3, _), (2, _), (0, _)]) dX6_lettersIn_15 (Nat.le_of_ble_eq_true rfl) rfl ?_
    refine pm_iload_n dX6_lettersIn_17 rfl rfl ?_
    refine pm_iload_n dX6_lettersIn_18 rfl rfl ?_
    refine pm_icmp_ge (tgt := 26) dX6_lettersIn_19 (by decide) (fun c_19 => ?_) (fun c_19 => ?_)
    · refine pm_iconst (v := 0) dX6_lettersIn_26 (by decide) ?_
      refine pm_istore (lv2 := [(5, _), (4, _), (3, _), (2, _), (0, _)]) dX6_lettersIn_27 (Nat.le_of_ble_eq_true rfl) rfl ?_
      refine pm_iload dX6_lettersIn_29 rfl ?_
      refine pm_bipush (v := 126) dX6_lettersIn_31 (by decide) ?_
      refine pm_icmp_gt (tgt := 46) dX6_lettersIn_33 (by decide) (fun c_33 => ?_) (fun c_33 => ?_)
      · refine pm_iconst (v := (-1)) dX6_lettersIn_46 (by decide) ?_
        refine pm_iret dX6_lettersIn_47 rfl rfl rfl ?_
        have hz := th_leN hlt (th_leb hp (Or.inl ((nI_ltI (a := 126) (by decide) (by omega)).mp c_33)))
        exact h0 hz
      · refine pm_iload dX6_lettersIn_36 rfl ?_
        refine pm_if_eq (tgt := 48) dX6_lettersIn_38 (by decide) (fun c_38 => ?_) (fun c_38 => ?_)
        · refine pm_iload dX6_lettersIn_48 rfl ?_
          refine pm_if_eq (tgt := 56) dX6_lettersIn_50 (by decide) (fun c_50 => ?_) (fun c_50 => absurd (c_38) c_50)
          refine pm_iinc (lv2 := [(3, _), (5, _), (4, _), (2, _), (0, _)]) dX6_lettersIn_56 rfl (nI_1 k) (Nat.le_of_ble_eq_true rfl) rfl ?_
          refine pm_goto (tgt := 4) dX6_lettersIn_59 (by decide) ?_
          refine pm_pick [0, 3, 4] rfl ?_
          exact kk hlt m (th_le0 hp ((nI_eq (b := 0) (by omega) (by decide)).mp c_38)) (by omega)
        · refine pm_iload dX6_lettersIn_41 rfl ?_
          refine pm_if_eq (tgt := 48) dX6_lettersIn_43 (by decide) (fun c_43 => ?_) (fun c_43 => absurd (rfl) c_43)
          refine pm_iload dX6_lettersIn_48 rfl ?_
          refine pm_if_eq (tgt := 56) dX6_lettersIn_50 (by decide) (fun c_50 => absurd c_50 (c_38)) (fun c_50 => ?_)
          refine pm_iinc (lv2 := [(2, _), (5, _), (4, _), (3, _), (0, _)]) dX6_lettersIn_53 rfl (nI_1 m) (Nat.le_of_ble_eq_true rfl) rfl ?_
          refine pm_iinc (lv2 := [(3, _), (2, _), (5, _), (4, _), (0, _)]) dX6_lettersIn_56 rfl (nI_1 k) (Nat.le_of_ble_eq_true rfl) rfl ?_
          refine pm_goto (tgt := 4) dX6_lettersIn_59 (by decide) ?_
          refine pm_pick [0, 1, 4] rfl ?_
          exact kk hlt (m + 1) (th_le1 hp (fun e => c_38 ((nI_eq (b := 0) (by omega) (by decide)).mpr e)) (fun z => c_33 ((nI_ltI (a := 126) (by decide) (by omega)).mpr z)) (Nat.not_lt.mpr ((nI_leI (by omega) (by omega)).mp c_19))) (by omega)
    · refine pm_iconst (v := 1) dX6_lettersIn_22 (by decide) ?_
      refine pm_goto (tgt := 27) dX6_lettersIn_23 (by decide) ?_
      refine pm_istore (lv2 := [(5, _), (4, _), (3, _), (2, _), (0, _)]) dX6_lettersIn_27 (Nat.le_of_ble_eq_true rfl) rfl ?_
      refine pm_iload dX6_lettersIn_29 rfl ?_
      refine pm_bipush (v := 126) dX6_lettersIn_31 (by decide) ?_
      refine pm_icmp_gt (tgt := 46) dX6_lettersIn_33 (by decide) (fun c_33 => ?_) (fun c_33 => ?_)
      · refine pm_iconst (v := (-1)) dX6_lettersIn_46 (by decide) ?_
        refine pm_iret dX6_lettersIn_47 rfl rfl rfl ?_
        have hz := th_leN hlt (th_leb hp (Or.inl ((nI_ltI (a := 126) (by decide) (by omega)).mp c_33)))
        exact h0 hz
      · refine pm_iload dX6_lettersIn_36 rfl ?_
        refine pm_if_eq (tgt := 48) dX6_lettersIn_38 (by decide) (fun c_38 => ?_) (fun c_38 => ?_)
        · refine pm_iload dX6_lettersIn_48 rfl ?_
          refine pm_if_eq (tgt := 56) dX6_lettersIn_50 (by decide) (fun c_50 => ?_) (fun c_50 => absurd (c_38) c_50)
          refine pm_iinc (lv2 := [(3, _), (5, _), (4, _), (2, _), (0, _)]) dX6_lettersIn_56 rfl (nI_1 k) (Nat.le_of_ble_eq_true rfl) rfl ?_
          refine pm_goto (tgt := 4) dX6_lettersIn_59 (by decide) ?_
          refine pm_pick [0, 3, 4] rfl ?_
          exact kk hlt m (th_le0 hp ((nI_eq (b := 0) (by omega) (by decide)).mp c_38)) (by omega)
        · refine pm_iload dX6_lettersIn_41 rfl ?_
          refine pm_if_eq (tgt := 48) dX6_lettersIn_43 (by decide) (fun c_43 => absurd c_43 (by decide)) (fun c_43 => ?_)
          refine pm_iconst (v := (-1)) dX6_lettersIn_46 (by decide) ?_
          refine pm_iret dX6_lettersIn_47 rfl rfl rfl ?_
          have hz := th_leN hlt (th_leb hp (Or.inr ⟨fun e => c_38 ((nI_eq (b := 0) (by omega) (by decide)).mpr e), Nat.lt_of_not_le (fun z => c_19 ((nI_leI (by omega) (by omega)).mpr z))⟩))
          exact h0 hz

set_option maxHeartbeats 600000 in
set_option maxRecDepth 100000 in
theorem c_X6_write {l : Launch} {G : pm_G} {ad : Nat → Nat → Nat} {S : Nat → Nat} {A : Nat → Nat → Int32} {X : Nat → Int32} {Y : Nat → Nat → Int32} {F : Nat → Int64} {Hd Cs : Nat → Option Nat} {m : List pm_A} {Q : pm_T} {n : Nat} (hI : th_I S A) (hn : n < 2 ^ 64) (hQ : Q ad (some (.int (th_letA S n))) (th_cw ad (th_letS S n) (th_letT S A n) X Y F Hd Cs m)) : pm_C l G m_X6_write [.ref (ad 3 0), .long (lN n)] ad (th_cw ad S A X Y F Hd Cs m) Q := by
  have h20 := hI.1.1
  refine pm_met (by decide) (Nat.le_of_ble_eq_true rfl) ?_
  refine pm_lload_n dX6_write_0 rfl rfl ?_
  refine pm_callS (M2 := m_X6_lettersIn) (As := [_]) ok_X6_lettersIn kw_283 kw_284 dX6_write_1 rfl rfl (Nat.le_of_ble_eq_true rfl) ⟨⟨Nat.le_of_ble_eq_true rfl, Nat.le_of_ble_eq_true rfl⟩, Nat.le_of_ble_eq_true rfl, Nat.le_of_ble_eq_true rfl⟩ ?_
  refine c_X6_lettersIn hn (fun ml hm hp => ?_) (fun hp => ?_)
  · rw [th_letA, th_letS, th_letT, hp] at hQ
    replace hQ : Q ad (some (.int (if S 1 + ml ≤ 20 then nI (S 1 + ml) else -104))) (th_cw ad (if S 1 + ml ≤ 20 then va_up S 1 (S 1 + ml) else S) (if S 1 + ml ≤ 20 then va_up A 1 (th_wrt n (A 1) (S 1) ml) else A) X Y F Hd Cs m) := hQ
    refine pm_istore_n (lv2 := [(3, _), (0, _), (1, _)]) dX6_write_4 rfl (Nat.le_of_ble_eq_true rfl) rfl ?_
    refine pm_iload_n dX6_write_5 rfl rfl ?_
    refine pm_if_ge (tgt := 12) dX6_write_6 (by decide) (fun c_6 => ?_) (fun c_6 => absurd (Int32.not_lt.mp (nI_pos (by omega))) c_6)
    refine pm_aload_n dX6_write_12 rfl rfl ?_
    refine pm_get fl_RX6_26_6 dX6_write_13 rfl rfl ?_
    refine pm_iload_n dX6_write_16 rfl rfl ?_
    refine pm_iadd dX6_write_17 ?_
    rw [nI_add]
    refine pm_aload_n dX6_write_18 rfl rfl ?_
    refine pm_get fl_RX6_9_6 dX6_write_19 rfl rfl ?_
    refine pm_alen (by decide) dX6_write_22 rfl ?_
    show pm_W _ _ _ _ _ _ (.int (nI 20) :: _) _ _ _ _
    refine pm_icmp_le (tgt := 29) dX6_write_23 (by decide) (fun c_23 => ?_) (fun c_23 => ?_)
    · have h2 : S 1 + ml ≤ 20 := (nI_leI (by omega) (by decide)).mp c_23
      rw [if_pos h2, if_pos h2, if_pos h2] at hQ
      refine pm_iconst (v := 0) dX6_write_29 (by decide) ?_
      refine pm_istore (lv2 := [(4, _), (3, _), (0, _), (1, _)]) dX6_write_30 (Nat.le_of_ble_eq_true rfl) rfl ?_
      suffices H : ∀ i, i ≤ ml → pm_W l G m_X6_write ad 32 [(4, .int (nI i)), (3, .int (nI ml)), (0, .ref (ad 3 0)), (1, .long (lN n))] [] (th_cw ad S (va_up A 1 (th_wrt n (A 1) (S 1) i)) X Y F Hd Cs m) 0 0 Q from H 0 (Nat.zero_le _)
      refine th_loop _ ?_
      intro i hi kk
      refine pm_iload dX6_write_32 rfl ?_
      refine pm_iload_n dX6_write_34 rfl rfl ?_
      refine pm_icmp_ge (tgt := 62) dX6_write_35 (by decide) (fun c_35 => ?_) (fun c_35 => ?_)
      · have he : i = ml := by
          rw [nI_leI (by omega) (by omega)] at c_35
          omega
        subst he
        refine pm_aload_n dX6_write_62 rfl rfl ?_
        refine pm_dup dX6_write_63 rfl ?_
        refine pm_get fl_RX6_26_6 dX6_write_64 rfl rfl ?_
        refine pm_iload_n dX6_write_67 rfl rfl ?_
        refine pm_iadd dX6_write_68 ?_
        rw [nI_add]
        refine pm_put (w2 := (_, _, _, [.inr (_, [_, _, _, _, _, _]), _, _], _, _, _, _, _)) fl_RX6_26_6 fp_6_2 dX6_write_69 rfl rfl rfl (Nat.le_of_ble_eq_true rfl) rfl ?_
        refine pm_aload_n dX6_write_72 rfl rfl ?_
        refine pm_get fl_RX6_26_6 dX6_write_73 rfl rfl ?_
        refine pm_iret dX6_write_76 rfl rfl rfl ?_
        exact hQ
      · have hlt : i < ml := by
          rw [nI_leI (by omega) (by omega)] at c_35
          omega
        refine pm_aload_n dX6_write_38 rfl rfl ?_
        refine pm_get fl_RX6_9_6 dX6_write_39 rfl rfl ?_
        refine pm_aload_n dX6_write_42 rfl rfl ?_
        refine pm_get fl_RX6_26_6 dX6_write_43 rfl rfl ?_
        refine pm_iload dX6_write_46 rfl ?_
        refine pm_iadd dX6_write_48 ?_
        rw [nI_add]
        refine pm_lload_n dX6_write_49 rfl rfl ?_
        refine pm_iload dX6_write_50 rfl ?_
        refine pm_callS (M2 := m_X6_byteOf) (As := [_, _]) ok_X6_byteOf kw_286 kw_287 dX6_write_52 rfl rfl (Nat.le_of_ble_eq_true rfl) ⟨⟨Nat.le_of_ble_eq_true rfl, Nat.le_of_ble_eq_true rfl⟩, Nat.le_of_ble_eq_true rfl, Nat.le_of_ble_eq_true rfl⟩ ?_
        refine c_X6_byteOf hn (by omega) ?_
        refine pm_iast (w2 := (_, _, _, [_, _, _], _, _, _, _, _)) dX6_write_55 rfl (th_in (by omega) (by decide)) rfl ?_
        rw [th_cl (by omega)]
        refine pm_iinc (lv2 := [(4, _), (3, _), (0, _), (1, _)]) dX6_write_56 rfl (nI_1 i) (Nat.le_of_ble_eq_true rfl) rfl ?_
        refine pm_goto (tgt := 32) dX6_write_59 (by decide) ?_
        refine pm_pick [0, 1, 2, 3] rfl ?_
        exact kk hlt
    · refine pm_bipush (v := (-104)) dX6_write_26 (by decide) ?_
      refine pm_iret dX6_write_28 rfl rfl rfl ?_
      have h2 : ¬ S 1 + ml ≤ 20 := fun z => c_23 ((nI_leI (by omega) (by decide)).mpr z)
      rw [if_neg h2, if_neg h2, if_neg h2] at hQ
      exact hQ
  · rw [th_letA, th_letS, th_letT, hp] at hQ
    refine pm_istore_n (lv2 := [(3, _), (0, _), (1, _)]) dX6_write_4 rfl (Nat.le_of_ble_eq_true rfl) rfl ?_
    refine pm_iload_n dX6_write_5 rfl rfl ?_
    refine pm_if_ge (tgt := 12) dX6_write_6 (by decide) (fun c_6 => absurd c_6 (by decide)) (fun c_6 => ?_)
    refine pm_bipush (v := (-102)) dX6_write_9 (by decide) ?_
    refine pm_iret dX6_write_11 rfl rfl rfl ?_
    exact hQ

set_option maxHeartbeats 600000 in
set_option maxRecDepth 100000 in
theorem c_X11_letters {l : Launch} {G : pm_G} {ad : Nat → Nat → Nat} {S : Nat → Nat} {A : Nat → Nat → Int32} {X : Nat → Int32} {Y : Nat → Nat → Int32} {F : Nat → Int64} {Hd Cs : Nat → Option Nat} {m : List pm_A} {Q : pm_T} {n : Nat} (hI : th_I S A) (hn : n < 2 ^ 64) (hQ : Q ad (some (.int (th_letA S n))) (th_cw ad (th_letS S n) (th_letT S A n) X Y F Hd Cs m)) : pm_C l G m_X11_letters [.ref (ad 0 0), .long (lN n)] ad (th_cw ad S A X Y F Hd Cs m) Q := by
  refine pm_met (by decide) (Nat.le_of_ble_eq_true rfl) ?_
  refine pm_aload_n dX11_letters_0 rfl rfl ?_
  refine pm_get fl_RX11_12_11 dX11_letters_1 rfl rfl ?_
  refine pm_lload_n dX11_letters_4 rfl rfl ?_
  refine pm_callV (M2 := m_X6_write) (As := [_]) ok_X6_write (ci := 6) rfl kw_279 kw_280 kw_281 dX11_letters_5 rfl rfl rfl (Nat.le_of_ble_eq_true rfl) ⟨⟨Nat.le_of_ble_eq_true rfl, Nat.le_of_ble_eq_true rfl⟩, Nat.le_of_ble_eq_true rfl, Nat.le_of_ble_eq_true rfl⟩ ?_
  refine c_X6_write hI hn ?_
  refine pm_iret dX11_letters_8 rfl rfl rfl ?_
  exact hQ

set_option maxHeartbeats 600000 in
set_option maxRecDepth 100000 in
theorem c_X12_blank {l : Launch} {G : pm_G} {ad : Nat → Nat → Nat} {a0 a3 a4 a5 a6 a7 : List pm_A} {a1 a2 : Nat → Option pm_A} {S : Nat → Nat} {A : Nat → Nat → Int32} {s : Nat → Int32} {B : Nat → Nat → Int32} {hs : Int64} {Q : pm_T} (hQ : Q ad (some (.int (nI (S 1)))) (a0, a1, a2, a3, a4, a5, a6, a7, th_mp ad (va_up S 1 0) A s B hs)) : pm_C l G m_X12_blank [.ref (ad 8 0)] ad (a0, a1, a2, a3, a4, a5, a6, a7, th_mp ad S A s B hs) Q := by
  refine pm_met (by decide) (Nat.le_of_ble_eq_true rfl) ?_
  refine pm_aload_n dX12_blank_0 rfl rfl ?_
  refine pm_get fl_RX12_82_12 dX12_blank_1 rfl rfl ?_
  refine pm_istore_n (lv2 := [(1, _), (0, _)]) dX12_blank_4 rfl (Nat.le_of_ble_eq_true rfl) rfl ?_
  refine pm_aload_n dX12_blank_5 rfl rfl ?_
  refine pm_iconst (v := 0) dX12_blank_6 (by decide) ?_
  refine pm_put (w2 := (_, _, _, _, _, _, _, _, [.inr (_, [_, _, _, _, _, _, _, _, _, _, _, _, _, _, _, _, _, _, _, _, _, _, _, _, _, _, _, _, _, _, _, _, _, _, _, _, _, _, _, _, _, _, _, _]), _, _, _, _, _, _, _, _, _, _, _, _, _, _, _, _, _, _, _, _, _, _, _])) fl_RX12_82_12 fp_12_1 dX12_blank_7 rfl rfl rfl (Nat.le_of_ble_eq_true rfl) rfl ?_
  refine pm_iload_n dX12_blank_10 rfl rfl ?_
  refine pm_iret dX12_blank_11 rfl rfl rfl ?_
  exact hQ

set_option maxHeartbeats 600000 in
set_option maxRecDepth 100000 in
theorem c_X6_clear {l : Launch} {G : pm_G} {ad : Nat → Nat → Nat} {S : Nat → Nat} {A : Nat → Nat → Int32} {X : Nat → Int32} {Y : Nat → Nat → Int32} {F : Nat → Int64} {Hd Cs : Nat → Option Nat} {m : List pm_A} {Q : pm_T} (hQ : Q ad (some (.int (nI (S 1)))) (th_cw ad (va_up S 1 0) A X Y F Hd Cs m)) : pm_C l G m_X6_clear [.ref (ad 3 0)] ad (th_cw ad S A X Y F Hd Cs m) Q := by
  refine pm_met (by decide) (Nat.le_of_ble_eq_true rfl) ?_
  refine pm_aload_n dX6_clear_0 rfl rfl ?_
  refine pm_get fl_RX6_26_6 dX6_clear_1 rfl rfl ?_
  refine pm_istore_n (lv2 := [(1, _), (0, _)]) dX6_clear_4 rfl (Nat.le_of_ble_eq_true rfl) rfl ?_
  refine pm_aload_n dX6_clear_5 rfl rfl ?_
  refine pm_iconst (v := 0) dX6_clear_6 (by decide) ?_
  refine pm_put (w2 := (_, _, _, [.inr (_, [_, _, _, _, _, _]), _, _], _, _, _, _, _)) fl_RX6_26_6 fp_6_2 dX6_clear_7 rfl rfl rfl (Nat.le_of_ble_eq_true rfl) rfl ?_
  refine pm_iload_n dX6_clear_10 rfl rfl ?_
  refine pm_iret dX6_clear_11 rfl rfl rfl ?_
  exact hQ

set_option maxHeartbeats 600000 in
set_option maxRecDepth 100000 in
theorem c_X11_blank {l : Launch} {G : pm_G} {ad : Nat → Nat → Nat} {S : Nat → Nat} {A : Nat → Nat → Int32} {X : Nat → Int32} {Y : Nat → Nat → Int32} {F : Nat → Int64} {Hd Cs : Nat → Option Nat} {m : List pm_A} {Q : pm_T} (hQ : Q ad (some (.int (nI (S 1)))) (th_cw ad (va_up S 1 0) A X Y F Hd Cs m)) : pm_C l G m_X11_blank [.ref (ad 0 0)] ad (th_cw ad S A X Y F Hd Cs m) Q := by
  refine pm_met (by decide) (Nat.le_of_ble_eq_true rfl) ?_
  refine pm_aload_n dX11_blank_0 rfl rfl ?_
  refine pm_get fl_RX11_12_11 dX11_blank_1 rfl rfl ?_
  refine pm_callV (M2 := m_X6_clear) (As := []) ok_X6_clear (ci := 6) rfl kw_293 kw_294 kw_295 dX11_blank_4 rfl rfl rfl (Nat.le_of_ble_eq_true rfl) ⟨⟨Nat.le_of_ble_eq_true rfl, Nat.le_of_ble_eq_true rfl⟩, Nat.le_of_ble_eq_true rfl, Nat.le_of_ble_eq_true rfl⟩ ?_
  refine c_X6_clear ?_
  refine pm_iret dX11_blank_7 rfl rfl rfl ?_
  exact hQ

