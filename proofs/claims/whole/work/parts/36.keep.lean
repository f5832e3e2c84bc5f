theorem th_okx {x : Int32} {n : Nat} (hn : n < 2 ^ 30) (h : th_ok x n) : th_n x < n ∧ x = nI (th_n x) := by
  obtain ⟨j, hj, rfl⟩ := (th_is_iff hn).mp h
  rw [th_n_nI (by omega)]
  exact ⟨hj, rfl⟩
theorem th_I_beat {S : Nat → Nat} {A : Nat → Nat → Int32} (hI : th_I S A) {a b : Nat} (ha : a < S 11) (hb : b < S 11) : th_I S (th_beat A (S 6) a b) := by
  obtain ⟨i1, i2, i4, i6, ⟨h8, hn, hz⟩, i26, i34, i42⟩ := hI
  have h3 := i2.1
  refine ⟨i1, i2, i4, i6, ⟨h8, fun i hi => ?_, fun i hi hi8 => ?_⟩, i26, i34, i42⟩
  · obtain ⟨n1, n2, n3, n4, n5, n6, n7⟩ := hn i hi
    refine ⟨n1, n2, n3, n4, n5, ?_, ?_⟩
    · show ∃ c : Nat, c ≤ 999 ∧ upd (A 11) a _ i = nI c
      by_cases e : i = a
      · rw [upd, if_pos e]
        obtain ⟨-, ⟨sa, hsa, esa⟩, -, -, -, ⟨ca, hca, eca⟩, -⟩ := hn a ha
        obtain ⟨-, ⟨sb, hsb, esb⟩, -, -, -, ⟨cb, hcb, ecb⟩, -⟩ := hn b hb
        rw [esa, esb, th_n_nI (by omega), th_n_nI (by omega), eca, ecb]
        exact th_meet_bd i2 hsa hsb hca hcb
      · rw [upd, if_neg e]; exact n6
    · show upd (A 13) b 1 i = 0 ∨ upd (A 13) b 1 i = 1
      by_cases e : i = b
      · rw [upd, if_pos e]; exact Or.inr rfl
      · rw [upd, if_neg e]; exact n7
  · obtain ⟨z1, z2, z3⟩ := hz i hi hi8
    refine ⟨z1, ?_, z3⟩
    show upd (A 13) b 1 i = 0
    rw [upd, if_neg (by omega)]
    exact z2
theorem th_I_crk {S : Nat → Nat} {A : Nat → Nat → Int32} (hI : th_I S A) {a b : Nat} {ca cb : Int32} (ha : a < S 11) (hb : b < S 11) : th_I S (th_cr A a b ca cb) := by
  obtain ⟨i1, i2, i4, i6, ⟨h8, hn, hz⟩, i26, i34, i42⟩ := hI
  refine ⟨i1, i2, i4, i6, ⟨h8, hn, fun i hi hi8 => ?_⟩, i26, i34, i42⟩
  obtain ⟨z1, z2, z3⟩ := hz i hi hi8
  refine ⟨?_, z2, z3⟩
  show upd (upd (A 12) a ca) b cb i = 0
  rw [upd, if_neg (by omega), upd, if_neg (by omega)]
  exact z1
theorem th_I_beats {S : Nat → Nat} {A : Nat → Nat → Int32} (hI : th_I S A) (x y : Int32) : th_I S (th_beatsT S A x y) := by
  have h8 := hI.2.2.2.2.1.1
  unfold th_beatsT
  by_cases h : th_pr S x y
  · rw [if_pos h]
    by_cases h2 : A 13 (th_n x) = 0 ∧ A 13 (th_n y) = 0
    · rw [if_pos h2]
      exact th_I_beat hI (th_okx (by omega) h.1.1).1 (th_okx (by omega) h.1.2).1
    · rw [if_neg h2]; exact hI
  · rw [if_neg h]; exact hI
theorem th_I_fight {S : Nat → Nat} {A : Nat → Nat → Int32} (hI : th_I S A) (x y z : Int32) : th_I S (th_fightT S A x y z) := by
  have h8 := hI.2.2.2.2.1.1
  unfold th_fightT
  by_cases h : th_pr S x y
  · rw [if_pos h]
    have hx := (th_okx (by omega) h.1.1).1
    have hy := (th_okx (by omega) h.1.2).1
    by_cases hz : z < 0
    · rw [if_pos hz]; exact hI
    · rw [if_neg hz]
      by_cases h2 : A 13 (th_n x) = 0 ∧ A 13 (th_n y) = 0
      · rw [if_pos h2]
        generalize th_fr A (th_n x) (th_n y) z = r
        unfold th_fA
        have hc := th_I_crk (ca := r.2.2.2.2.1) (cb := r.2.2.2.2.2) hI hx hy
        by_cases e0 : r.1 = 0
        · rw [if_pos e0]; exact hc
        · rw [if_neg e0]
          by_cases e1 : r.1 = 1
          · rw [if_pos e1]; exact th_I_beat hc hx hy
          · rw [if_neg e1]; exact th_I_beat hc hy hx
      · rw [if_neg h2]; exact hI
  · rw [if_neg h]; exact hI
theorem th_J_fight {ad : Nat → Nat → Nat} {S : Nat → Nat} {A Y : Nat → Nat → Int32} {Cs : Nat → Option Nat} (hJ : th_J ad S A Y Cs) (x y z : Int32) : th_J ad S (th_fightT S A x y z) Y Cs := by
  unfold th_fightT
  by_cases h : th_pr S x y
  · rw [if_pos h]
    by_cases hz : z < 0
    · rw [if_pos hz]; exact hJ
    · rw [if_neg hz]
      by_cases h2 : A 13 (th_n x) = 0 ∧ A 13 (th_n y) = 0
      · rw [if_pos h2]
        generalize th_fr A (th_n x) (th_n y) z = r
        unfold th_fA
        by_cases e0 : r.1 = 0
        · rw [if_pos e0]; exact hJ
        · rw [if_neg e0]
          by_cases e1 : r.1 = 1
          · rw [if_pos e1]; exact hJ
          · rw [if_neg e1]; exact hJ
      · rw [if_neg h2]; exact hJ
  · rw [if_neg h]; exact hJ
theorem th_J_beats {ad : Nat → Nat → Nat} {S : Nat → Nat} {A Y : Nat → Nat → Int32} {Cs : Nat → Option Nat} (hJ : th_J ad S A Y Cs) (x y : Int32) : th_J ad S (th_beatsT S A x y) Y Cs := by
  unfold th_beatsT
  by_cases h : th_pr S x y
  · rw [if_pos h]
    by_cases h2 : A 13 (th_n x) = 0 ∧ A 13 (th_n y) = 0
    · rw [if_pos h2]; exact hJ
    · rw [if_neg h2]; exact hJ
  · rw [if_neg h]; exact hJ
abbrev th_V (ad : Nat → Nat → Nat) (S : Nat → Nat) (A Y : Nat → Nat → Int32) (Cs : Nat → Option Nat) : Prop := th_I S A ∧ th_J ad S A Y Cs
theorem th_V_told {ad : Nat → Nat → Nat} {S : Nat → Nat} {A Y : Nat → Nat → Int32} {Cs : Nat → Option Nat} (hV : th_V ad S A Y Cs) (x y : Int32) : th_V ad (th_toldS S x y) (th_toldT S A x y) (th_toldY S Y x y) Cs := by
  have h8 := hV.1.2.2.2.2.1.1
  unfold th_toldS th_toldT th_toldY
  by_cases h : th_pr S x y
  · rw [if_pos h, if_pos h, if_pos h]
    by_cases e : S 26 = 10
    · rw [if_pos e, if_pos e, if_pos e]; exact hV
    · rw [if_neg e, if_neg e, if_neg e]
      obtain ⟨hx, ex⟩ := th_okx (by omega) h.1.1
      obtain ⟨hy, ey⟩ := th_okx (by omega) h.1.2
      obtain ⟨⟨i1, i2, i4, i6, i11, ⟨h10, hf⟩, i34, i42⟩, ⟨jt, jl, jk⟩, j2, j3⟩ := hV
      refine ⟨⟨i1, i2, i4, i6, i11, ⟨by show S 26 + 1 ≤ 10; omega, fun f hlt => ?_⟩, i34, i42⟩, ⟨fun f hlt => ?_, ?_, fun f hlt => ?_⟩, j2, j3⟩
      · have hlt : f < S 26 + 1 := hlt
        show ∃ a b : Nat, a < S 11 ∧ b < S 11 ∧ a ≠ b ∧ upd (A 15) (S 26) x f = nI a ∧ upd (A 16) (S 26) y f = nI b
        by_cases e2 : f = S 26
        · rw [upd, upd, if_pos e2, if_pos e2]
          exact ⟨th_n x, th_n y, hx, hy, fun z => h.2 (by rw [ex, ey, z]), ex, ey⟩
        · rw [upd, upd, if_neg e2, if_neg e2]
          exact hf f (by omega)
      · have hlt : f < S 26 + 1 := hlt
        show upd (Y 2) (S 26) x f = upd (A 15) (S 26) x f ∧ upd (Y 3) (S 26) y f = upd (A 16) (S 26) y f
        by_cases e2 : f = S 26
        · rw [upd, upd, upd, upd, if_pos e2, if_pos e2, if_pos e2, if_pos e2]
          exact ⟨rfl, rfl⟩
        · rw [upd, upd, upd, upd, if_neg e2, if_neg e2, if_neg e2, if_neg e2]
          exact jt f (by omega)
      · show S 41 ≤ S 26 + 1
        omega
      · have hlt : f < S 41 := hlt
        show upd (Y 2) (S 26) x f = A 23 (2 * f) ∧ upd (Y 3) (S 26) y f = A 23 (2 * f + 1)
        rw [upd, upd, if_neg (by omega), if_neg (by omega)]
        exact jk f hlt
  · rw [if_neg h, if_neg h, if_neg h]; exact hV
theorem th_V_claim {ad : Nat → Nat → Nat} {S : Nat → Nat} {A Y : Nat → Nat → Int32} {Cs : Nat → Option Nat} (hV : th_V ad S A Y Cs) (x z : Int32) : th_V ad S (th_claimT S A x z) Y Cs := by
  have h8 := hV.1.2.2.2.2.1.1
  unfold th_claimT
  by_cases h : th_ok x (S 11)
  · rw [if_pos h]
    by_cases h2 : -1 ≤ z ∧ z ≤ 999
    · rw [if_pos h2]
      have hx := (th_okx (by omega) h).1
      obtain ⟨⟨i1, i2, i4, i6, ⟨h8, hn, hz⟩, i26, i34, i42⟩, hJ⟩ := hV
      refine ⟨⟨i1, i2, i4, i6, ⟨h8, hn, fun i hi hi8 => ?_⟩, i26, i34, i42⟩, hJ⟩
      obtain ⟨z1, z2, z3⟩ := hz i hi hi8
      refine ⟨z1, z2, ?_⟩
      show upd (A 14) (th_n x) z i = -1
      rw [upd, if_neg (by omega)]
      exact z3
    · rw [if_neg h2]; exact hV
  · rw [if_neg h]; exact hV
theorem th_V_meet {ad : Nat → Nat → Nat} {S : Nat → Nat} {A Y : Nat → Nat → Int32} {Cs : Nat → Option Nat} (hV : th_V ad S A Y Cs) (x : Int32) : th_V ad (th_meetS S x) A Y Cs := by
  unfold th_meetS
  by_cases h : 0 ≤ x ∧ x ≤ 3
  · rw [if_pos h]
    obtain ⟨j, hj, rfl⟩ := th_03 h.1 (n := 3) (by decide) h.2
    obtain ⟨⟨i1, i2, i4, i6, i11, i26, i34, i42⟩, hJ⟩ := hV
    refine ⟨⟨i1, i2, i4, ?_, i11, i26, i34, i42⟩, hJ⟩
    show th_n (nI j) ≤ 3
    rw [th_n_nI (by omega)]
    exact hj
  · rw [if_neg h]; exact hV
theorem th_V_gone {ad : Nat → Nat → Nat} {S : Nat → Nat} {A Y : Nat → Nat → Int32} {Cs : Nat → Option Nat} (hV : th_V ad S A Y Cs) : th_V ad (va_up S 34 0) A Y Cs := by
  obtain ⟨⟨i1, i2, i4, i6, i11, i26, i34, i42⟩, j1, j2, j3⟩ := hV
  exact ⟨⟨i1, i2, i4, i6, i11, i26, ⟨Nat.zero_le _, fun k hk => absurd hk (Nat.not_lt_zero k)⟩, i42⟩, j1, j2, fun k hk => absurd hk (Nat.not_lt_zero k)⟩
theorem th_V_blank {ad : Nat → Nat → Nat} {S : Nat → Nat} {A Y : Nat → Nat → Int32} {Cs : Nat → Option Nat} (hV : th_V ad S A Y Cs) : th_V ad (va_up S 1 0) A Y Cs := by
  obtain ⟨⟨i1, i2, i4, i6, i11, i26, i34, i42⟩, hJ⟩ := hV
  exact ⟨⟨⟨Nat.zero_le _, fun k hk => absurd hk (Nat.not_lt_zero k)⟩, i2, i4, i6, i11, i26, i34, i42⟩, hJ⟩
theorem th_V_comer {ad : Nat → Nat → Nat} {S : Nat → Nat} {A Y : Nat → Nat → Int32} {Cs : Nat → Option Nat} (hV : th_V ad S A Y Cs) (x c t : Int32) : th_V ad (th_comS S x c t) (th_comA S A x c t) Y (th_comC ad S Cs x c t) := by
  have h3 := hV.1.2.1.1
  unfold th_comS th_comA th_comC
  by_cases h : th_ok x (S 2)
  · rw [if_pos h, if_pos h, if_pos h]
    by_cases h2 : (0 ≤ c ∧ c ≤ 99) ∧ (0 ≤ t ∧ t ≤ 10)
    · rw [if_pos h2, if_pos h2, if_pos h2]
      by_cases e : S 34 = 8
      · rw [if_pos e, if_pos e, if_pos e]; exact hV
      · rw [if_neg e, if_neg e, if_neg e]
        obtain ⟨hx, ex⟩ := th_okx (by omega) h
        obtain ⟨cc, hcc, rfl⟩ := th_03 h2.1.1 (n := 99) (by decide) h2.1.2
        obtain ⟨tt, htt, rfl⟩ := th_03 h2.2.1 (n := 10) (by decide) h2.2.2
        obtain ⟨⟨i1, i2, i4, i6, i11, i26, ⟨h34, hk⟩, i42⟩, j1, j2, j3⟩ := hV
        refine ⟨⟨i1, i2, i4, i6, i11, i26, ⟨by show S 34 + 1 ≤ 8; omega, fun k hlt => ?_⟩, i42⟩, j1, j2, fun k hlt => ?_⟩
        · have hlt : k < S 34 + 1 := hlt
          show ∃ sc c t : Nat, sc < S 2 ∧ c ≤ 99 ∧ t ≤ 10 ∧ upd (A 19) (S 34) x k = nI sc ∧ upd (A 20) (S 34) (nI cc) k = nI c ∧ upd (A 21) (S 34) (nI tt) k = nI t
          by_cases e2 : k = S 34
          · rw [upd, upd, upd, if_pos e2, if_pos e2, if_pos e2]
            exact ⟨th_n x, cc, tt, hx, hcc, htt, ex, rfl, rfl⟩
          · rw [upd, upd, upd, if_neg e2, if_neg e2, if_neg e2]
            exact hk k (by omega)
        · have hlt : k < S 34 + 1 := hlt
          show ∃ sc : Nat, sc < S 2 ∧ upd (A 19) (S 34) x k = nI sc ∧ va_up Cs (S 34) (some (ad 1 (th_n x))) k = some (ad 1 sc)
          by_cases e2 : k = S 34
          · rw [upd, va_up, if_pos e2, if_pos e2]
            exact ⟨th_n x, hx, ex, rfl⟩
          · rw [upd, va_up, if_neg e2, if_neg e2]
            exact j3 k (by omega)
    · rw [if_neg h2, if_neg h2, if_neg h2]; exact hV
  · rw [if_neg h, if_neg h, if_neg h]; exact hV
theorem th_wrt_in {n : Nat} {f : Nat → Int32} {s : Nat} : ∀ m q, q < s + m → th_wrt n f s m q = if s ≤ q then nI (th_by n (q - s)) else f q := by
  intro m
  induction m with
  | zero => intro q hq; rw [if_neg (by omega)]; rfl
  | succ m ih =>
    intro q hq
    rw [th_wrt, upd]
    by_cases e : q = s + m
    · rw [if_pos e, if_pos (by omega), show q - s = m by omega]
    · rw [if_neg e]; exact ih q (by omega)
theorem th_V_letters {ad : Nat → Nat → Nat} {S : Nat → Nat} {A Y : Nat → Nat → Int32} {Cs : Nat → Option Nat} (hV : th_V ad S A Y Cs) (n : Nat) : th_V ad (th_letS S n) (th_letT S A n) Y Cs := by
  unfold th_letS th_letT
  cases hp : th_le n 8 with
  | none => exact hV
  | some m =>
    show th_V ad (if S 1 + m ≤ 20 then va_up S 1 (S 1 + m) else S) (if S 1 + m ≤ 20 then va_up A 1 (th_wrt n (A 1) (S 1) m) else A) Y Cs
    by_cases e : S 1 + m ≤ 20
    · rw [if_pos e, if_pos e]
      obtain ⟨⟨⟨h20, hl⟩, i2, i4, i6, i11, i26, i34, i42⟩, hJ⟩ := hV
      refine ⟨⟨⟨e, fun k hk => ?_⟩, i2, i4, i6, i11, i26, i34, i42⟩, hJ⟩
      have hk : k < S 1 + m := hk
      show ∃ v : Nat, 1 ≤ v ∧ v ≤ 126 ∧ th_wrt n (A 1) (S 1) m k = nI v
      rw [th_wrt_in m k hk]
      by_cases e2 : S 1 ≤ k
      · rw [if_pos e2]
        obtain ⟨v1, v2⟩ := (th_le_i 8 m hp).2 (k - S 1) (by omega)
        exact ⟨_, v1, v2, rfl⟩
      · rw [if_neg e2]; exact hl k (by omega)
    · rw [if_neg e, if_neg e]; exact hV
theorem th_J_same {ad b : Nat → Nat → Nat} {S : Nat → Nat} {A Y : Nat → Nat → Int32} {Cs : Nat → Option Nat} (h : th_same ad b S) (hJ : th_J ad S A Y Cs) : th_J b S A Y Cs := by
  obtain ⟨j1, j2, j3⟩ := hJ
  refine ⟨j1, j2, fun k hk => ?_⟩
  obtain ⟨sc, hsc, e1, e2⟩ := j3 k hk
  exact ⟨sc, hsc, e1, by rw [e2, h.2.1 sc hsc]⟩
theorem th_V_sc {ad : Nat → Nat → Nat} {S : Nat → Nat} {A Y : Nat → Nat → Int32} {Cs : Nat → Option Nat} (hV : th_V ad S A Y Cs) {p : th_P} (hp : th_PI p) (h4 : p.1 = 4) (e3 : ¬ S 2 = 3) : th_V ad (th_scS S) (th_scT S A p) Y Cs := by
  obtain ⟨⟨i1, ⟨h3, ht⟩, i4, i6, ⟨h8, hn, hz⟩, i26, ⟨h34, hk⟩, i42⟩, j1, j2, j3⟩ := hV
  obtain ⟨-, pm, -, -, -, pv, pt⟩ := hp
  refine ⟨⟨⟨Nat.zero_le _, fun k hk => absurd hk (Nat.not_lt_zero k)⟩, ⟨by show S 2 + 1 ≤ 3; omega, fun j hj => ?_⟩, fun j hj => ?_, i6, ⟨h8, fun i hi => ?_, hz⟩, i26, ⟨h34, fun k hlt => ?_⟩, i42⟩, j1, j2, fun k hlt => ?_⟩
  · have hj : j < S 2 + 1 := hj
    by_cases e : j = S 2
    · subst e
      refine ⟨p.2.1, pm, if_pos rfl, fun k hk => ?_⟩
      have et : th_scT S A p 2 (4 * S 2 + k) = p.2.2.1 k := th_tcp_in p.2.1 k hk
      rw [et]
      exact pv k hk
    · obtain ⟨n, hn4, en, hv⟩ := ht j (by omega)
      refine ⟨n, hn4, ?_, fun k hk => ?_⟩
      · show upd (A 3) (S 2) _ j = nI n
        rw [upd, if_neg e]; exact en
      · have et : th_scT S A p 2 (4 * j + k) = A 2 (4 * j + k) := th_tcp_out p.2.1 _ (by omega)
        rw [et]
        exact hv k hk
  · have hj : j < S 2 + 1 := hj
    show upd (A 4) (S 2) p.2.2.2 j = 116 ∨ upd (A 4) (S 2) p.2.2.2 j = 111 ∨ upd (A 4) (S 2) p.2.2.2 j = 110
    by_cases e : j = S 2
    · rw [upd, if_pos e]; exact pt h4
    · rw [upd, if_neg e]; exact i4 j (by omega)
  · obtain ⟨n1, ⟨sc, hsc, esc⟩, n3⟩ := hn i hi
    exact ⟨n1, ⟨sc, Nat.lt_succ_of_lt hsc, esc⟩, n3⟩
  · obtain ⟨sc, c, t, hsc, r⟩ := hk k hlt
    exact ⟨sc, c, t, Nat.lt_succ_of_lt hsc, r⟩
  · obtain ⟨sc, hsc, r⟩ := j3 k hlt
    exact ⟨sc, Nat.lt_succ_of_lt hsc, r⟩
theorem th_V_school {ad b : Nat → Nat → Nat} {S : Nat → Nat} {A Y : Nat → Nat → Int32} {Cs : Nat → Option Nat} (hV : th_V ad S A Y Cs) (hs : th_same ad b S) : th_V b (th_schS S A) (th_schT S A) Y Cs := by
  have hV2 : th_V b S A Y Cs := ⟨hV.1, th_J_same hs hV.2⟩
  unfold th_schS th_schT
  cases hp : th_sc4 A (S 1) with
  | none => exact hV2
  | some p =>
    show th_V b (if S 2 = 3 then S else th_scS S) (if S 2 = 3 then A else th_scT S A p) Y Cs
    by_cases e : S 2 = 3
    · rw [if_pos e, if_pos e]; exact hV2
    · rw [if_neg e, if_neg e]
      unfold th_sc4 at hp
      cases hq : th_ru A (S 1) with
      | none => rw [hq] at hp; cases hp
      | some q =>
        rw [hq] at hp
        have hp : (if q.1 = 4 then some q else none) = some p := hp
        by_cases e4 : q.1 = 4
        · rw [if_pos e4] at hp
          cases hp
          exact th_V_sc hV2 (th_ru_PI _ _ hq) e4 e
        · rw [if_neg e4] at hp; cases hp
theorem th_V_nu {ad : Nat → Nat → Nat} {S : Nat → Nat} {A Y : Nat → Nat → Int32} {Cs : Nat → Option Nat} (hV : th_V ad S A Y Cs) {kd j hh c wt : Nat} (e8 : ¬ S 11 = 8) (hkd : kd ≤ 4) (hj : j < S 2) (h1 : 1 ≤ hh) (h9 : hh ≤ 9) (hc : c ≤ 99) (hw1 : 1 ≤ wt) (hw : wt ≤ 99) : th_V ad (th_nuS S) (th_nuT S A (nI kd) (nI j) (nI hh) (nI c) (nI wt)) (th_nuY S Y) Cs := by
  obtain ⟨⟨i1, i2, i4, i6, ⟨h8, hn, hz⟩, ⟨h26, hf⟩, i34, ⟨k1, k2, k3, k4, k5⟩⟩, j1, j2, j3⟩ := hV
  refine ⟨⟨i1, i2, i4, i6, ⟨by show S 11 + 1 ≤ 8; omega, fun i hi => ?_, fun i hi hi8 => hz i (by have : S 11 + 1 ≤ i := hi; omega) hi8⟩, ⟨h26, fun f hlt => ?_⟩, i34, ⟨k1, Nat.le_succ_of_le k2, k3, k4, fun f hlt => ?_⟩⟩, j1, fun i hi => ?_, j3⟩
  · have hi : i < S 11 + 1 := hi
    by_cases e : i = S 11
    · subst e
      exact ⟨⟨kd, hkd, if_pos rfl⟩, ⟨j, hj, if_pos rfl⟩, ⟨hh, h1, h9, if_pos rfl⟩, ⟨c, hc, if_pos rfl⟩, ⟨wt, hw1, hw, if_pos rfl⟩, ⟨c, by omega, if_pos rfl⟩, Or.inl (hz _ (Nat.le_refl _) (by omega)).2.1⟩
    · obtain ⟨⟨a1, a2, a3⟩, ⟨b1, b2, b3⟩, ⟨c1, c2, c3, c4⟩, ⟨d1, d2, d3⟩, ⟨e1, e2, e3, e4⟩, ⟨f1, f2, f3⟩, g1⟩ := hn i (by omega)
      exact ⟨⟨a1, a2, (if_neg e).trans a3⟩, ⟨b1, b2, (if_neg e).trans b3⟩, ⟨c1, c2, c3, (if_neg e).trans c4⟩, ⟨d1, d2, (if_neg e).trans d3⟩, ⟨e1, e2, e3, (if_neg e).trans e4⟩, ⟨f1, f2, (if_neg e).trans f3⟩, g1⟩
  · obtain ⟨a, b, ha, hb, r⟩ := hf f hlt
    exact ⟨a, b, Nat.lt_succ_of_lt ha, Nat.lt_succ_of_lt hb, r⟩
  · obtain ⟨a, b, ha, hb, r⟩ := k5 f hlt
    exact ⟨a, b, Nat.lt_succ_of_lt ha, Nat.lt_succ_of_lt hb, r⟩
  · have hi : i < S 40 := hi
    have e : ¬ i = S 11 := by omega
    obtain ⟨r1, r2, r3, r4⟩ := j2 i hi
    exact ⟨(if_neg e).trans r1, (if_neg e).trans r2, (if_neg e).trans r3, (if_neg e).trans r4⟩
theorem th_V_nut {ad b : Nat → Nat → Nat} {S : Nat → Nat} {A Y : Nat → Nat → Int32} {Cs : Nat → Option Nat} (hV : th_V ad S A Y Cs) (hs : th_same ad b S) (k sc h c wt : Int32) : th_V b (th_nutS S k sc h c wt) (th_nutT S A k sc h c wt) (th_nutY S Y k sc h c wt) Cs := by
  have hV2 : th_V b S A Y Cs := ⟨hV.1, th_J_same hs hV.2⟩
  have h3 := hV.1.2.1.1
  unfold th_nutS th_nutT th_nutY
  by_cases e1 : 0 ≤ k ∧ k ≤ 4
  · rw [if_pos e1, if_pos e1, if_pos e1]
    by_cases e2 : th_ok sc (S 2)
    · rw [if_pos e2, if_pos e2, if_pos e2]
      by_cases e3 : th_nok h c wt
      · rw [if_pos e3, if_pos e3, if_pos e3]
        by_cases e4 : S 11 = 8
        · rw [if_pos e4, if_pos e4, if_pos e4]; exact hV2
        · rw [if_neg e4, if_neg e4, if_neg e4]
          obtain ⟨kd, hkd, rfl⟩ := th_03 e1.1 (n := 4) (by decide) e1.2
          obtain ⟨j, hj, rfl⟩ := (th_is_iff (by omega)).mp e2
          obtain ⟨hh, hh9, rfl⟩ := th_03 (Int32.le_trans (by decide) e3.1.1) (n := 9) (by decide) e3.1.2
          obtain ⟨cc, hcc, rfl⟩ := th_03 e3.2.1.1 (n := 99) (by decide) e3.2.1.2
          obtain ⟨ww, hww, rfl⟩ := th_03 (Int32.le_trans (by decide) e3.2.2.1) (n := 99) (by decide) e3.2.2.2
          exact th_V_nu hV2 e4 hkd hj ((nI_leI (a := 1) (by decide) (by omega)).mp e3.1.1) hh9 hcc ((nI_leI (a := 1) (by decide) (by omega)).mp e3.2.2.1) hww
      · rw [if_neg e3, if_neg e3, if_neg e3]; exact hV2
    · rw [if_neg e2, if_neg e2, if_neg e2]; exact hV2
  · rw [if_neg e1, if_neg e1, if_neg e1]; exact hV2
theorem th_V_image {ad : Nat → Nat → Nat} {S : Nat → Nat} {A Y : Nat → Nat → Int32} {Cs : Nat → Option Nat} (hV : th_V ad S A Y Cs) {a b c d t u : Nat → Int32} (hk : ∀ q, q < S 11 → a q = A 11 q ∧ b q = A 12 q ∧ c q = A 13 q ∧ d q = A 14 q) (ht : th_im22 A 8 t) (hu : th_im23 A 10 u) : th_V ad (th_imS S) (va_up (va_up A 22 t) 23 u) (va_up (va_up (va_up (va_up Y 20 a) 21 b) 22 c) 23 d) Cs := by
  obtain ⟨⟨i1, i2, i4, i6, ⟨h8, hn, hz⟩, ⟨h26, hf⟩, i34, -⟩, ⟨jt, -, -⟩, -, j3⟩ := hV
  refine ⟨⟨i1, i2, i4, i6, ⟨h8, hn, hz⟩, ⟨h26, hf⟩, i34, ⟨Nat.le_refl 1, Nat.le_refl _, h26, fun i hi => ?_, fun f hlt => ?_⟩⟩, ⟨jt, Nat.le_refl _, fun f hlt => ?_⟩, fun i hi => ?_, j3⟩
  · have hi : i < S 11 := hi
    obtain ⟨t0, -, t2, -⟩ := ht i (by omega)
    obtain ⟨-, -, -, -, -, n6, n7⟩ := hn i hi
    refine ⟨?_, ?_⟩
    · show ∃ c : Nat, c ≤ 999 ∧ t (4 * i) = nI c
      rw [t0]; exact n6
    · show t (4 * i + 2) = 0 ∨ t (4 * i + 2) = 1
      rw [t2]; exact n7
  · have hlt : f < S 26 := hlt
    obtain ⟨u0, u1⟩ := hu f (by omega)
    show ∃ a b : Nat, a < S 11 ∧ b < S 11 ∧ a ≠ b ∧ u (2 * f) = nI a ∧ u (2 * f + 1) = nI b
    rw [u0, u1]
    exact hf f hlt
  · have hlt : f < S 26 := hlt
    obtain ⟨u0, u1⟩ := hu f (by omega)
    obtain ⟨y0, y1⟩ := jt f hlt
    exact ⟨y0.trans u0.symm, y1.trans u1.symm⟩
  · have hi : i < S 11 := hi
    obtain ⟨t0, t1, t2, t3⟩ := ht i (by omega)
    obtain ⟨a0, a1, a2, a3⟩ := hk i hi
    exact ⟨a0.trans t0.symm, a1.trans t1.symm, a2.trans t2.symm, a3.trans t3.symm⟩
theorem th_V_restore {ad : Nat → Nat → Nat} {S : Nat → Nat} {A Y : Nat → Nat → Int32} {Cs : Nat → Option Nat} (hV : th_V ad S A Y Cs) : th_V ad (th_rsS S) (th_rsA S A) Y Cs := by
  unfold th_rsS th_rsA
  by_cases e : S 42 = 0
  · rw [if_pos e, if_pos e]; exact hV
  · rw [if_neg e, if_neg e]
    obtain ⟨⟨i1, i2, i4, i6, ⟨h8, hn, hz⟩, -, i34, ⟨k1, k2, k3, k4, k5⟩⟩, ⟨jt, jl, jk⟩, j2, j3⟩ := hV
    refine ⟨⟨i1, i2, i4, i6, ⟨h8, fun i hi => ?_, fun i hi hi8 => ?_⟩, ⟨k3, fun f hlt => ?_⟩, i34, ⟨k1, k2, k3, k4, k5⟩⟩, ⟨fun f hlt => ?_, Nat.le_refl _, jk⟩, j2, j3⟩
    · have hi : i < S 11 := hi
      obtain ⟨n1, n2, n3, n4, n5, n6, n7⟩ := hn i hi
      refine ⟨n1, n2, n3, n4, n5, ?_, ?_⟩
      · show ∃ c : Nat, c ≤ 999 ∧ th_pf (fun q => A 22 (4 * q)) (A 11) (S 40) i = nI c
        unfold th_pf
        by_cases h : i < S 40
        · rw [if_pos h]; exact (k4 i h).1
        · rw [if_neg h]; exact n6
      · show th_pf (fun q => A 22 (4 * q + 2)) (A 13) (S 40) i = 0 ∨ th_pf (fun q => A 22 (4 * q + 2)) (A 13) (S 40) i = 1
        unfold th_pf
        by_cases h : i < S 40
        · rw [if_pos h]; exact (k4 i h).2
        · rw [if_neg h]; exact n7
    · have hi : S 11 ≤ i := hi
      obtain ⟨z1, z2, z3⟩ := hz i hi hi8
      have h : ¬ i < S 40 := by omega
      exact ⟨(if_neg h).trans z1, (if_neg h).trans z2, (if_neg h).trans z3⟩
    · have hlt : f < S 41 := hlt
      obtain ⟨a, b, ha, hb, hne, ea, eb⟩ := k5 f hlt
      exact ⟨a, b, ha, hb, hne, (if_pos (by omega)).trans ea, (if_pos (by omega)).trans eb⟩
    · have hlt : f < S 41 := hlt
      obtain ⟨y0, y1⟩ := jk f hlt
      have h10 : f < 10 := by omega
      exact ⟨y0.trans (if_pos h10).symm, y1.trans (if_pos h10).symm⟩
theorem th_V_0 (ad : Nat → Nat → Nat) : th_V ad (fun _ => 0) th_A0 (fun _ _ => 0) (fun _ => none) :=
  ⟨⟨⟨Nat.zero_le _, fun k hk => absurd hk (Nat.not_lt_zero k)⟩, ⟨Nat.zero_le _, fun k hk => absurd hk (Nat.not_lt_zero k)⟩, fun k hk => absurd hk (Nat.not_lt_zero k), Nat.zero_le _, ⟨Nat.zero_le _, fun k hk => absurd hk (Nat.not_lt_zero k), fun i _ hi => ⟨rfl, rfl, if_pos hi⟩⟩, ⟨Nat.zero_le _, fun k hk => absurd hk (Nat.not_lt_zero k)⟩, ⟨Nat.zero_le _, fun k hk => absurd hk (Nat.not_lt_zero k)⟩, ⟨Nat.zero_le _, Nat.le_refl _, Nat.zero_le _, fun k hk => absurd hk (Nat.not_lt_zero k), fun k hk => absurd hk (Nat.not_lt_zero k)⟩⟩, ⟨fun k hk => absurd hk (Nat.not_lt_zero k), Nat.le_refl _, fun k hk => absurd hk (Nat.not_lt_zero k)⟩, fun k hk => absurd hk (Nat.not_lt_zero k), fun k hk => absurd hk (Nat.not_lt_zero k)⟩
