/-- s is r, p and l, and none of them twice -/
def rh_3 (l p r s : Nat) : Prop := ∀ b, (b = l → s.testBit b = true ∧ r.testBit b = false ∧ p.testBit b = false) ∧ (¬ b = l → (s.testBit b = true ↔ (r.testBit b = true ∨ p.testBit b = true)) ∧ ¬ (r.testBit b = true ∧ p.testBit b = true))
/-- what i may come to, all of s being broken by it or by such as it broke -/
def rh_D (N : Nat) (c : Nat → Nat) (q : Nat → Nat → Nat → Nat → Nat) : Nat → Nat → Nat → Nat → Prop
  | 0, _, _, _ => False
  | n + 1, i, s, v => (s = 0 ∧ v = c i) ∨ ∃ l p r x y, l < N ∧ rh_3 l p r s ∧ rh_D N c q n i r x ∧ rh_D N c q n (l + 1) p y ∧ v = q i (l + 1) x y
def rh_T (N : Nat) (c : Nat → Nat) (q : Nat → Nat → Nat → Nat → Nat) (i s v : Nat) : Prop := ∃ n, rh_D N c q n i s v
theorem rh_D1 {N : Nat} {c : Nat → Nat} {q : Nat → Nat → Nat → Nat → Nat} : ∀ {n i s v : Nat}, rh_D N c q n i s v → rh_D N c q (n + 1) i s v := by
  intro n
  induction n with
  | zero => intro i s v h; exact absurd h id
  | succ n ih =>
    intro i s v h
    rcases h with h | ⟨l, p, r, x, y, hl, h3, h1, h2, e⟩
    · exact Or.inl h
    · exact Or.inr ⟨l, p, r, x, y, hl, h3, ih h1, ih h2, e⟩
theorem rh_Dle {N : Nat} {c : Nat → Nat} {q : Nat → Nat → Nat → Nat → Nat} {n i s v : Nat} (d : Nat) (h : rh_D N c q n i s v) : rh_D N c q (n + d) i s v := by
  induction d with
  | zero => exact h
  | succ d ih => exact rh_D1 ih
theorem rh_Tun {N : Nat} {c : Nat → Nat} {q : Nat → Nat → Nat → Nat → Nat} {i s v : Nat} : rh_T N c q i s v ↔ (s = 0 ∧ v = c i) ∨ ∃ l p r x y, l < N ∧ rh_3 l p r s ∧ rh_T N c q i r x ∧ rh_T N c q (l + 1) p y ∧ v = q i (l + 1) x y := by
  constructor
  · rintro ⟨n, h⟩
    cases n with
    | zero => exact absurd h id
    | succ n =>
      rcases h with h | ⟨l, p, r, x, y, hl, h3, h1, h2, e⟩
      · exact Or.inl h
      · exact Or.inr ⟨l, p, r, x, y, hl, h3, ⟨n, h1⟩, ⟨n, h2⟩, e⟩
  · rintro (h | ⟨l, p, r, x, y, hl, h3, ⟨n, h1⟩, ⟨k, h2⟩, e⟩)
    · exact ⟨1, Or.inl h⟩
    · exact ⟨n + k + 1, Or.inr ⟨l, p, r, x, y, hl, h3, rh_Dle k h1, by rw [Nat.add_comm]; exact rh_Dle n h2, e⟩⟩
theorem rh_Tbd {N M : Nat} {c : Nat → Nat} {q : Nat → Nat → Nat → Nat → Nat} (hc : ∀ i, i ≤ N → c i ≤ M) (hq : ∀ i j x y, i ≤ N → j ≤ N → x ≤ M → y ≤ M → q i j x y ≤ M) {i s v : Nat} (hi : i ≤ N) (h : rh_T N c q i s v) : v ≤ M := by
  obtain ⟨n, h⟩ := h
  induction n generalizing i s v with
  | zero => exact absurd h id
  | succ n ih =>
    rcases h with ⟨_, h⟩ | ⟨l, p, r, x, y, hl, h3, h1, h2, e⟩
    · exact h ▸ hc i hi
    · exact e ▸ hq i (l + 1) x y hi hl (ih hi h1) (ih hl h2)
/-- a run of fights: who wins, who is broken -/
def rh_up (q : Nat → Nat → Nat → Nat → Nat) (w l : Nat) (v : Nat → Nat) : Nat → Nat := fun j => if j = w then q w l (v w) (v l) else v j
def rh_run (q : Nat → Nat → Nat → Nat → Nat) : List (Nat × Nat) → (Nat → Nat) → Nat → Nat
  | [], v => v
  | (w, l) :: L, v => rh_run q L (rh_up q w l v)
def rh_fin : List (Nat × Nat) → Nat → Nat
  | [], P => P
  | (_, l) :: L, P => rh_fin L (P ||| 2 ^ l)
def rh_leg (N : Nat) : List (Nat × Nat) → Nat → Prop
  | [], _ => True
  | (w, l) :: L, P => (0 < l ∧ l ≤ N ∧ w ≤ N ∧ ¬ w = l ∧ P.testBit l = false ∧ P.testBit w = false) ∧ rh_leg N L (P ||| 2 ^ l)
theorem rh_run_app (q : Nat → Nat → Nat → Nat → Nat) : ∀ (L M : List (Nat × Nat)) (v : Nat → Nat), rh_run q (L ++ M) v = rh_run q M (rh_run q L v) := by
  intro L
  induction L with
  | nil => intro M v; rfl
  | cons a L ih => intro M v; exact ih M _
theorem rh_fin_app : ∀ (L M : List (Nat × Nat)) (P : Nat), rh_fin (L ++ M) P = rh_fin M (rh_fin L P) := by
  intro L
  induction L with
  | nil => intro M v; rfl
  | cons a L ih => intro M v; exact ih M _
theorem rh_leg_app {N : Nat} : ∀ (L M : List (Nat × Nat)) (P : Nat), rh_leg N L P → rh_leg N M (rh_fin L P) → rh_leg N (L ++ M) P := by
  intro L
  induction L with
  | nil => intro M v _ h; exact h
  | cons a L ih => intro M v h1 h2; exact ⟨h1.1, ih M _ h1.2 h2⟩
theorem rh_orb (P l j : Nat) : (P ||| 2 ^ l).testBit j = (P.testBit j || decide (l = j)) := by
  rw [Nat.testBit_or, Nat.testBit_two_pow]
theorem rh_B {N : Nat} {c : Nat → Nat} {q : Nat → Nat → Nat → Nat → Nat} : ∀ (n i s v : Nat), rh_D N c q n i s v → i ≤ N → (∀ j, s.testBit j = true → j < N ∧ ¬ j + 1 = i) → ∃ L, ∀ P val, P.testBit i = false → val i = c i → (∀ j, s.testBit j = true → P.testBit (j + 1) = false ∧ val (j + 1) = c (j + 1)) → rh_leg N L P ∧ (rh_fin L P).testBit 0 = P.testBit 0 ∧ (∀ j, (rh_fin L P).testBit (j + 1) = (P.testBit (j + 1) || s.testBit j)) ∧ rh_run q L val i = v ∧ ∀ j, ¬ j = i → (∀ b, s.testBit b = true → ¬ j = b + 1) → rh_run q L val j = val j := by
  intro n
  induction n with
  | zero => intro i s v h; exact absurd h id
  | succ n ih =>
    intro i s v h hi hs
    rcases h with ⟨e1, e2⟩ | ⟨l, p, r, x, y, hl, h3, h1, h2, e⟩
    · subst e1; subst e2
      exact ⟨[], fun P val hP hv _ => ⟨trivial, rfl, fun j => by simp [rh_fin], hv, fun j _ _ => rfl⟩⟩
    · have hr : ∀ j, r.testBit j = true → s.testBit j = true ∧ ¬ j = l ∧ p.testBit j = false := by
        intro j hj
        by_cases e : j = l
        · have := ((h3 j).1 e).2.1; rw [hj] at this; exact absurd this (by decide)
        · refine ⟨((h3 j).2 e).1.mpr (Or.inl hj), e, ?_⟩
          have := ((h3 j).2 e).2
          cases hp : p.testBit j
          · rfl
          · exact absurd ⟨hj, hp⟩ this
      have hp : ∀ j, p.testBit j = true → s.testBit j = true ∧ ¬ j = l ∧ r.testBit j = false := by
        intro j hj
        by_cases e : j = l
        · have := ((h3 j).1 e).2.2; rw [hj] at this; exact absurd this (by decide)
        · refine ⟨((h3 j).2 e).1.mpr (Or.inr hj), e, ?_⟩
          have := ((h3 j).2 e).2
          cases hp : r.testBit j
          · rfl
          · exact absurd ⟨hp, hj⟩ this
      have hls : s.testBit l = true := ((h3 l).1 rfl).1
      have hli : ¬ l + 1 = i := (hs l hls).2
      obtain ⟨L1, H1⟩ := ih i r x h1 hi (fun j hj => hs j (hr j hj).1)
      obtain ⟨L2, H2⟩ := ih (l + 1) p y h2 hl (fun j hj => ⟨(hs j (hp j hj).1).1, fun e => (hp j hj).2.1 (by omega)⟩)
      refine ⟨L1 ++ (L2 ++ [(i, l + 1)]), ?_⟩
      intro P val hP hv hb
      obtain ⟨g1, z1, f1, r1, k1⟩ := H1 P val hP hv (fun j hj => hb j (hr j hj).1)
      have nr : ∀ j, p.testBit j = true → r.testBit j = false := fun j hj => (hp j hj).2.2
      have lr : r.testBit l = false := ((h3 l).1 rfl).2.1
      have lp : p.testBit l = false := ((h3 l).1 rfl).2.2
      have bt : ∀ l, r.testBit l = false → ∀ b, r.testBit b = true → ¬ l + 1 = b + 1 := by
        intro l a1 b a2 e
        have e' : l = b := by omega
        subst e'; rw [a1] at a2; exact absurd a2 (by decide)
      obtain ⟨g2, z2, f2, r2, k2⟩ := H2 (rh_fin L1 P) (rh_run q L1 val) (by rw [f1, (hb l hls).1, lr]; rfl)
        (by rw [k1 (l + 1) hli (bt l lr)]; exact (hb l hls).2)
        (fun j hj => ⟨by rw [f1, (hb j (hp j hj).1).1, nr j hj]; rfl, by rw [k1 (j + 1) (hs j (hp j hj).1).2 (bt j (nr j hj))]; exact (hb j (hp j hj).1).2⟩)
      have fi : (rh_fin L2 (rh_fin L1 P)).testBit i = false := by
        cases i with
        | zero => rw [z2, z1]; exact hP
        | succ i =>
          rw [f2, f1, hP]
          have a1 : r.testBit i = false := by
            cases hh : r.testBit i
            · rfl
            · exact absurd rfl (hs i (hr i hh).1).2
          have a2 : p.testBit i = false := by
            cases hh : p.testBit i
            · rfl
            · exact absurd rfl (hs i (hp i hh).1).2
          rw [a1, a2]; rfl
      have fl : (rh_fin L2 (rh_fin L1 P)).testBit (l + 1) = false := by rw [f2, f1, (hb l hls).1, lr, lp]; rfl
      refine ⟨rh_leg_app _ _ _ g1 (rh_leg_app _ _ _ g2 ⟨⟨by omega, hl, hi, fun e => hli e.symm, fl, fi⟩, trivial⟩), ?_, ?_, ?_, ?_⟩
      · rw [rh_fin_app, rh_fin_app]
        show (rh_fin L2 (rh_fin L1 P) ||| 2 ^ (l + 1)).testBit 0 = _
        rw [rh_orb, z2, z1]; simp
      · intro j
        rw [rh_fin_app, rh_fin_app]
        show (rh_fin L2 (rh_fin L1 P) ||| 2 ^ (l + 1)).testBit (j + 1) = _
        rw [rh_orb, f2, f1]
        by_cases e : j = l
        · subst e; rw [hls]; simp
        · have := ((h3 j).2 e).1
          rw [show decide (l + 1 = j + 1) = false from decide_eq_false (by omega)]
          revert this
          cases s.testBit j <;> cases r.testBit j <;> cases p.testBit j <;> cases P.testBit (j + 1) <;> decide
      · rw [rh_run_app, rh_run_app]
        show rh_up q i (l + 1) (rh_run q L2 (rh_run q L1 val)) i = v
        unfold rh_up
        rw [if_pos rfl, r2, k2 i (fun e => hli e.symm) (fun b hb' e => (hs b (hp b hb').1).2 e.symm), r1, e]
      · intro j hj hb2
        rw [rh_run_app, rh_run_app]
        show rh_up q i (l + 1) (rh_run q L2 (rh_run q L1 val)) j = val j
        unfold rh_up
        rw [if_neg hj, k2 j (hb2 l hls) (fun b hb' => hb2 b (hp b hb').1), k1 j hj (fun b hb' => hb2 b (hr b hb').1)]
/-- how many below n -/
def rh_c (f : Nat → Bool) : Nat → Nat
  | 0 => 0
  | n + 1 => rh_c f n + (if f n = true then 1 else 0)
theorem rh_cmono (f : Nat → Bool) {i : Nat} : ∀ d, rh_c f i ≤ rh_c f (i + d) := by
  intro d
  induction d with
  | zero => exact Nat.le_refl _
  | succ d ih => exact Nat.le_trans ih (Nat.le_add_right _ _)
theorem rh_clt {f : Nat → Bool} {i j : Nat} (h : i < j) (hi : f i = true) : rh_c f i < rh_c f j := by
  have := rh_cmono f (i := i + 1) (j - (i + 1))
  rw [show i + 1 + (j - (i + 1)) = j from by omega] at this
  have e : rh_c f (i + 1) = rh_c f i + 1 := by
    show rh_c f i + (if f i = true then 1 else 0) = _
    rw [if_pos hi]
  omega
theorem rh_cinj {f : Nat → Bool} {i j : Nat} (hi : f i = true) (hj : f j = true) (h : rh_c f i = rh_c f j) : i = j := by
  rcases Nat.lt_trichotomy i j with h1 | h1 | h1
  · have := rh_clt h1 hi; omega
  · exact h1
  · have := rh_clt h1 hj; omega
theorem rh_cex {f : Nat → Bool} {k : Nat} : ∀ n, k < rh_c f n → ∃ j, j < n ∧ f j = true ∧ rh_c f j = k := by
  intro n
  induction n with
  | zero => intro h; exact absurd h (Nat.not_lt_zero _)
  | succ n ih =>
    intro h
    by_cases h1 : k < rh_c f n
    · obtain ⟨j, a, b, d⟩ := ih h1; exact ⟨j, by omega, b, d⟩
    · have e : rh_c f (n + 1) = rh_c f n + (if f n = true then 1 else 0) := rfl
      by_cases hf : f n = true
      · rw [if_pos hf] at e; exact ⟨n, by omega, hf, by omega⟩
      · rw [if_neg hf] at e; omega
theorem rh_cext {f g : Nat → Bool} : ∀ n, (∀ j, j < n → f j = g j) → rh_c f n = rh_c g n := by
  intro n
  induction n with
  | zero => intro _; rfl
  | succ n ih =>
    intro h
    show rh_c f n + _ = rh_c g n + _
    rw [ih (fun j hj => h j (by omega)), h n (by omega)]
theorem rh_cdel {f g : Nat → Bool} {l : Nat} (hl : f l = true) (hg : g l = false) (h : ∀ j, ¬ j = l → f j = g j) : ∀ n, l < n → rh_c f n = rh_c g n + 1 := by
  intro n
  induction n with
  | zero => intro h; exact absurd h (Nat.not_lt_zero _)
  | succ n ih =>
    intro hn
    show rh_c f n + _ = rh_c g n + _ + 1
    by_cases e : l = n
    · subst e
      rw [hl, hg, rh_cext l (fun j hj => h j (by omega))]; simp
    · rw [ih (by omega), h n (fun e' => e e'.symm)]; omega
/-- whole, and not b -/
def rh_f (P b : Nat) : Nat → Bool := fun j => !P.testBit j && !decide (j = b)
theorem rh_ft {P b j : Nat} : rh_f P b j = true ↔ (P.testBit j = false ∧ ¬ j = b) := by
  unfold rh_f; simp
/-- he that has k whole ones before him -/
def rh_pk (f : Nat → Bool) (k : Nat) : Nat → Nat
  | 0 => 0
  | n + 1 => if f n = true ∧ rh_c f n = k then n else rh_pk f k n
theorem rh_pke {f : Nat → Bool} {k j : Nat} (hf : f j = true) (hc : rh_c f j = k) : ∀ n, j < n → rh_pk f k n = j := by
  intro n
  induction n with
  | zero => intro h; exact absurd h (Nat.not_lt_zero _)
  | succ n ih =>
    intro h
    unfold rh_pk
    by_cases e : f n = true ∧ rh_c f n = k
    · rw [if_pos e]; exact rh_cinj e.1 hf (by rw [e.2, hc])
    · rw [if_neg e]
      refine ih ?_
      by_cases e2 : j = n
      · subst e2; exact absurd ⟨hf, hc⟩ e
      · omega
theorem rh_pkx {f : Nat → Bool} {k n : Nat} (h : k < rh_c f n) : rh_pk f k n < n ∧ f (rh_pk f k n) = true ∧ rh_c f (rh_pk f k n) = k := by
  obtain ⟨j, a, b, d⟩ := rh_cex n h
  rw [rh_pke b d n a]; exact ⟨a, b, d⟩
def rh_W : Nat → Nat
  | 0 => 1
  | m + 1 => (m + 1) * (m + 1) * rh_W m
def rh_lo (N P m z : Nat) : Nat := rh_pk (rh_f P 0) (z % (m * m) / m) (N + 1)
def rh_wi (N P m z : Nat) : Nat := rh_pk (rh_f P (rh_lo N P m z)) (z % (m * m) % m) (N + 1)
def rh_rr (N : Nat) (q : Nat → Nat → Nat → Nat → Nat) : Nat → Nat → Nat → (Nat → Nat) → Nat
  | 0, _, _, v => v 0
  | m + 1, z, P, v => rh_rr N q m (z / ((m + 1) * (m + 1))) (P ||| 2 ^ rh_lo N P (m + 1) z) (rh_up q (rh_wi N P (m + 1) z) (rh_lo N P (m + 1) z) v)
/-- the nut is whole, and m others -/
def rh_st (N m P : Nat) : Prop := P.testBit 0 = false ∧ rh_c (rh_f P 0) (N + 1) = m
theorem rh_stw {N m P l : Nat} (h : rh_st N m P) (hl : 0 < l) (hN : l ≤ N) (hP : P.testBit l = false) : rh_c (rh_f P l) (N + 1) = m := by
  have h1 := rh_cdel (f := fun j => !P.testBit j) (g := rh_f P 0) (l := 0) (by simp [h.1]) (by simp [rh_f]) (fun j hj => by simp [rh_f, hj]) (N + 1) (by omega)
  have h2 := rh_cdel (f := fun j => !P.testBit j) (g := rh_f P l) (l := l) (by simp [hP]) (by simp [rh_f]) (fun j hj => by simp [rh_f, hj]) (N + 1) (by omega)
  have := h.2
  omega
theorem rh_stn {N m P l : Nat} (h : rh_st N (m + 1) P) (hl : 0 < l) (hN : l ≤ N) (hP : P.testBit l = false) : rh_st N m (P ||| 2 ^ l) := by
  refine ⟨?_, ?_⟩
  · rw [rh_orb, h.1]; simp; omega
  · have h2 := rh_cdel (f := rh_f P 0) (g := rh_f (P ||| 2 ^ l) 0) (l := l) (by simp [rh_f, hP]; omega) (by simp [rh_f, rh_orb]) (fun j hj => by simp only [rh_f, rh_orb]; simp [show ¬ l = j from fun e => hj e.symm]) (N + 1) (by omega)
    have := h.2
    omega
theorem rh_loP {N m P z : Nat} (h : rh_st N (m + 1) P) : 0 < rh_lo N P (m + 1) z ∧ rh_lo N P (m + 1) z ≤ N ∧ P.testBit (rh_lo N P (m + 1) z) = false ∧ rh_c (rh_f P 0) (rh_lo N P (m + 1) z) = z % ((m + 1) * (m + 1)) / (m + 1) := by
  have hz : z % ((m + 1) * (m + 1)) < (m + 1) * (m + 1) := Nat.mod_lt _ (Nat.mul_pos (by omega) (by omega))
  have := rh_pkx (f := rh_f P 0) (k := z % ((m + 1) * (m + 1)) / (m + 1)) (n := N + 1) (by rw [h.2]; exact Nat.div_lt_of_lt_mul hz)
  have h2 := rh_ft.mp this.2.1
  exact ⟨Nat.pos_of_ne_zero h2.2, Nat.le_of_lt_succ this.1, h2.1, this.2.2⟩
theorem rh_wiP {N m P z : Nat} (h : rh_st N (m + 1) P) : rh_wi N P (m + 1) z ≤ N ∧ P.testBit (rh_wi N P (m + 1) z) = false ∧ ¬ rh_wi N P (m + 1) z = rh_lo N P (m + 1) z ∧ rh_c (rh_f P (rh_lo N P (m + 1) z)) (rh_wi N P (m + 1) z) = z % ((m + 1) * (m + 1)) % (m + 1) := by
  obtain ⟨a, b, d, _⟩ := rh_loP (z := z) h
  have := rh_pkx (f := rh_f P (rh_lo N P (m + 1) z)) (k := z % ((m + 1) * (m + 1)) % (m + 1)) (n := N + 1) (by rw [rh_stw h a b d]; exact Nat.mod_lt _ (by omega))
  have h2 := rh_ft.mp this.2.1
  exact ⟨Nat.le_of_lt_succ this.1, h2.1, h2.2, this.2.2⟩
theorem rh_rrL {N : Nat} {q : Nat → Nat → Nat → Nat → Nat} : ∀ (m z P : Nat) (v : Nat → Nat), rh_st N m P → ∃ L, rh_leg N L P ∧ L.length = m ∧ rh_rr N q m z P v = rh_run q L v 0 := by
  intro m
  induction m with
  | zero => intro z P v _; exact ⟨[], trivial, rfl, rfl⟩
  | succ m ih =>
    intro z P v h
    obtain ⟨a, b, d, _⟩ := rh_loP (z := z) h
    obtain ⟨a2, b2, d2, _⟩ := rh_wiP (z := z) h
    obtain ⟨L, h1, h2, h3⟩ := ih (z / ((m + 1) * (m + 1))) (P ||| 2 ^ rh_lo N P (m + 1) z) (rh_up q (rh_wi N P (m + 1) z) (rh_lo N P (m + 1) z) v) (rh_stn h a b d)
    exact ⟨(rh_wi N P (m + 1) z, rh_lo N P (m + 1) z) :: L, ⟨⟨a, b, a2, d2, d, b2⟩, h1⟩, by rw [List.length_cons, h2], h3⟩
theorem rh_Lrr {N : Nat} {q : Nat → Nat → Nat → Nat → Nat} : ∀ (m : Nat) (L : List (Nat × Nat)) (P : Nat) (v : Nat → Nat), rh_st N m P → rh_leg N L P → L.length = m → ∃ z, z < rh_W m ∧ rh_rr N q m z P v = rh_run q L v 0 := by
  intro m
  induction m with
  | zero => intro L P v _ _ hL; cases L with
    | nil => exact ⟨0, by decide, rfl⟩
    | cons a L => exact absurd hL (by simp)
  | succ m ih =>
    intro L P v h g hL
    cases L with
    | nil => exact absurd hL (by simp)
    | cons a L =>
      obtain ⟨w, l⟩ := a
      obtain ⟨⟨g1, g2, g3, g4, g5, g6⟩, g7⟩ := g
      obtain ⟨z, hz, e⟩ := ih L (P ||| 2 ^ l) (rh_up q w l v) (rh_stn h g1 g2 g5) g7 (by simpa using hL)
      have f1 : rh_f P 0 l = true := rh_ft.mpr ⟨g5, by omega⟩
      have f2 : rh_f P l w = true := rh_ft.mpr ⟨g6, g4⟩
      have k1 : rh_c (rh_f P 0) l < m + 1 := by rw [← h.2]; exact rh_clt (by omega) f1
      have k2 : rh_c (rh_f P l) w < m + 1 := by rw [← rh_stw h g1 g2 g5]; exact rh_clt (by omega) f2
      have hch : (m + 1) * rh_c (rh_f P 0) l + rh_c (rh_f P l) w < (m + 1) * (m + 1) := by
        have : (m + 1) * rh_c (rh_f P 0) l + (m + 1) ≤ (m + 1) * (m + 1) := by
          rw [← Nat.mul_succ]; exact Nat.mul_le_mul_left _ k1
        omega
      refine ⟨(m + 1) * (m + 1) * z + ((m + 1) * rh_c (rh_f P 0) l + rh_c (rh_f P l) w), ?_, ?_⟩
      · have : (m + 1) * (m + 1) * z + (m + 1) * (m + 1) ≤ (m + 1) * (m + 1) * rh_W m := by
          rw [← Nat.mul_succ]; exact Nat.mul_le_mul_left _ hz
        show _ < (m + 1) * (m + 1) * rh_W m
        omega
      · have hm : ((m + 1) * (m + 1) * z + ((m + 1) * rh_c (rh_f P 0) l + rh_c (rh_f P l) w)) % ((m + 1) * (m + 1)) = (m + 1) * rh_c (rh_f P 0) l + rh_c (rh_f P l) w := by
          rw [Nat.mul_add_mod, Nat.mod_eq_of_lt hch]
        have hd : ((m + 1) * (m + 1) * z + ((m + 1) * rh_c (rh_f P 0) l + rh_c (rh_f P l) w)) / ((m + 1) * (m + 1)) = z := by
          rw [Nat.mul_add_div (Nat.mul_pos (by omega) (by omega)), Nat.div_eq_of_lt hch, Nat.add_zero]
        have hl : rh_lo N P (m + 1) ((m + 1) * (m + 1) * z + ((m + 1) * rh_c (rh_f P 0) l + rh_c (rh_f P l) w)) = l := by
          unfold rh_lo
          rw [hm, Nat.mul_add_div (by omega), Nat.div_eq_of_lt k2]
          exact rh_pke f1 rfl (N + 1) (by omega)
        have hw : rh_wi N P (m + 1) ((m + 1) * (m + 1) * z + ((m + 1) * rh_c (rh_f P 0) l + rh_c (rh_f P l) w)) = w := by
          unfold rh_wi
          rw [hl, hm, Nat.mul_add_mod, Nat.mod_eq_of_lt k2]
          exact rh_pke f2 rfl (N + 1) (by omega)
        show rh_rr N q m _ _ _ = rh_run q L (rh_up q w l v) 0
        rw [hl, hw, hd]; exact e
theorem rh_len {N : Nat} : ∀ (L : List (Nat × Nat)) (P : Nat), P.testBit 0 = false → rh_leg N L P → (rh_fin L P).testBit 0 = false ∧ rh_c (rh_f P 0) (N + 1) = rh_c (rh_f (rh_fin L P) 0) (N + 1) + L.length := by
  intro L
  induction L with
  | nil => intro P h _; exact ⟨h, rfl⟩
  | cons a L ih =>
    intro P h g
    obtain ⟨w, l⟩ := a
    obtain ⟨⟨g1, g2, g3, g4, g5, g6⟩, g7⟩ := g
    have hs : rh_st N (rh_c (rh_f P 0) (N + 1)) P := ⟨h, rfl⟩
    have hp : 0 < rh_c (rh_f P 0) (N + 1) := Nat.lt_of_le_of_lt (Nat.zero_le _) (rh_clt (i := l) (by omega) (rh_ft.mpr ⟨g5, by omega⟩))
    obtain ⟨k, hk⟩ : ∃ k, rh_c (rh_f P 0) (N + 1) = k + 1 := ⟨rh_c (rh_f P 0) (N + 1) - 1, by omega⟩
    rw [hk] at hs
    have h2 := rh_stn hs g1 g2 g5
    have := ih (P ||| 2 ^ l) h2.1 g7
    refine ⟨this.1, ?_⟩
    have := this.2
    rw [h2.2] at this
    show _ = rh_c (rh_f (rh_fin L (P ||| 2 ^ l)) 0) (N + 1) + (L.length + 1)
    omega
theorem rh_c0 {f : Nat → Bool} {n : Nat} (h : rh_c f n = 0) {j : Nat} (hj : j < n) : f j = false := by
  cases e : f j
  · rfl
  · have := rh_clt hj e; omega
theorem rh_cz {f : Nat → Bool} : ∀ n, (∀ j, j < n → f j = false) → rh_c f n = 0 := by
  intro n
  induction n with
  | zero => intro _; rfl
  | succ n ih => intro h; show rh_c f n + _ = 0; rw [ih (fun j hj => h j (by omega)), h n (by omega)]; rfl
theorem rh_st0 (N : Nat) : rh_st N N 0 := by
  refine ⟨Nat.zero_testBit 0, ?_⟩
  have h : ∀ n, rh_c (rh_f 0 0) (n + 1) = n := by
    intro n
    induction n with
    | zero => rfl
    | succ n ih =>
      show rh_c (rh_f 0 0) (n + 1) + (if rh_f 0 0 (n + 1) = true then 1 else 0) = n + 1
      rw [ih, if_pos (rh_ft.mpr ⟨Nat.zero_testBit _, by omega⟩)]
  exact h N
def rh_iv (N : Nat) (c : Nat → Nat) (q : Nat → Nat → Nat → Nat → Nat) (P : Nat) (v : Nat → Nat) (B : Nat → Nat) : Prop :=
  (∀ i, i ≤ N → P.testBit i = false → rh_T N c q i (B i) (v i)) ∧ (∀ i j b, i ≤ N → j ≤ N → P.testBit i = false → P.testBit j = false → (B i).testBit b = true → (B j).testBit b = true → i = j) ∧ (∀ b, P.testBit (b + 1) = true ↔ ∃ i, i ≤ N ∧ P.testBit i = false ∧ (B i).testBit b = true)
theorem rh_A {N : Nat} {c : Nat → Nat} {q : Nat → Nat → Nat → Nat → Nat} : ∀ (L : List (Nat × Nat)) (P : Nat) (v B : Nat → Nat), rh_leg N L P → rh_iv N c q P v B → ∃ B2, rh_iv N c q (rh_fin L P) (rh_run q L v) B2 := by
  intro L
  induction L with
  | nil => intro P v B _ h; exact ⟨B, h⟩
  | cons a L ih =>
    intro P v B g h
    obtain ⟨w, l⟩ := a
    obtain ⟨⟨g1, g2, g3, g4, g5, g6⟩, g7⟩ := g
    obtain ⟨l, rfl⟩ : ∃ k, l = k + 1 := ⟨l - 1, by omega⟩
    obtain ⟨h1, h2, h3⟩ := h
    have nb : ∀ i, i ≤ N → P.testBit i = false → (B i).testBit l = false := by
      intro i hi hP
      cases e : (B i).testBit l
      · rfl
      · have := (h3 l).mpr ⟨i, hi, hP, e⟩; rw [g5] at this; exact absurd this (by decide)
    refine ih (P ||| 2 ^ (l + 1)) (rh_up q w (l + 1) v) (fun j => if j = w then B w ||| B (l + 1) ||| 2 ^ l else B j) g7 ⟨?_, ?_, ?_⟩
    · intro i hi hP
      rw [rh_orb] at hP
      have hP1 : P.testBit i = false := by cases e : P.testBit i <;> simp_all
      have hil : ¬ i = l + 1 := by intro e; subst e; simp at hP
      show rh_T N c q i (if i = w then B w ||| B (l + 1) ||| 2 ^ l else B i) (if i = w then q w (l + 1) (v w) (v (l + 1)) else v i)
      by_cases e : i = w
      · subst e
        rw [if_pos rfl, if_pos rfl]
        refine rh_Tun.mpr (Or.inr ⟨l, B (l + 1), B i, v i, v (l + 1), g2, ?_, h1 i g3 g6, h1 (l + 1) g2 g5, rfl⟩)
        intro b
        refine ⟨fun e => ?_, fun e => ⟨?_, fun z => ?_⟩⟩
        · subst e
          exact ⟨by rw [rh_orb]; simp, nb i g3 g6, nb (b + 1) g2 g5⟩
        · rw [rh_orb, Nat.testBit_or]; simp [show ¬ l = b from fun e' => e e'.symm]
        · exact g4 (h2 i (l + 1) b g3 g2 g6 g5 z.1 z.2)
      · rw [if_neg e, if_neg e]; exact h1 i hi hP1
    · intro i j b hi hj hPi hPj
      rw [rh_orb] at hPi hPj
      have hPi1 : P.testBit i = false := by cases e : P.testBit i <;> simp_all
      have hil : ¬ i = l + 1 := by intro e; subst e; simp at hPi
      have hPj1 : P.testBit j = false := by cases e : P.testBit j <;> simp_all
      have hjl : ¬ j = l + 1 := by intro e; subst e; simp at hPj
      show (if i = w then B w ||| B (l + 1) ||| 2 ^ l else B i).testBit b = true → (if j = w then B w ||| B (l + 1) ||| 2 ^ l else B j).testBit b = true → i = j
      have key : ∀ k, k ≤ N → P.testBit k = false → ¬ k = w → ¬ k = l + 1 → (B k).testBit b = true → (B w ||| B (l + 1) ||| 2 ^ l).testBit b = true → False := by
        intro k hk hPk e1 e2 t1 t2
        rw [rh_orb, Nat.testBit_or] at t2
        by_cases a1 : (B w).testBit b = true
        · exact e1 (h2 k w b hk g3 hPk g6 t1 a1)
        · by_cases a2 : (B (l + 1)).testBit b = true
          · exact e2 (h2 k (l + 1) b hk g2 hPk g5 t1 a2)
          · simp [a1, a2] at t2
            subst t2
            have := nb k hk hPk; rw [t1] at this; exact absurd this (by decide)
      by_cases ei : i = w
      · by_cases ej : j = w
        · intro _ _; exact ei.trans ej.symm
        · rw [if_pos ei, if_neg ej]; intro t2 t1; exact absurd (key j hj hPj1 ej hjl t1 t2) id
      · by_cases ej : j = w
        · rw [if_neg ei, if_pos ej]; intro t1 t2; exact absurd (key i hi hPi1 ei hil t1 t2) id
        · rw [if_neg ei, if_neg ej]; exact h2 i j b hi hj hPi1 hPj1
    · intro b
      rw [rh_orb]
      have alive : ∀ k, P.testBit k = false → ¬ k = l + 1 → (P ||| 2 ^ (l + 1)).testBit k = false := by
        intro k a1 a2; rw [rh_orb, a1]; simp [show ¬ l + 1 = k from fun e => a2 e.symm]
      constructor
      · intro t
        by_cases e : l = b
        · subst e
          refine ⟨w, g3, alive w g6 g4, ?_⟩
          show (if w = w then B w ||| B (l + 1) ||| 2 ^ l else B w).testBit l = true
          rw [if_pos rfl, rh_orb]; simp
        · have t2 : P.testBit (b + 1) = true := by
            cases e2 : P.testBit (b + 1)
            · rw [e2] at t; simp at t; omega
            · rfl
          obtain ⟨i, hi, hP, hb⟩ := (h3 b).mp t2
          by_cases e1 : i = w ∨ i = l + 1
          · refine ⟨w, g3, alive w g6 g4, ?_⟩
            show (if w = w then B w ||| B (l + 1) ||| 2 ^ l else B w).testBit b = true
            rw [if_pos rfl, rh_orb, Nat.testBit_or]
            rcases e1 with e1 | e1
            · subst e1; simp [hb]
            · subst e1; simp [hb]
          · refine ⟨i, hi, alive i hP (fun e => e1 (Or.inr e)), ?_⟩
            show (if i = w then B w ||| B (l + 1) ||| 2 ^ l else B i).testBit b = true
            rw [if_neg (fun e => e1 (Or.inl e))]; exact hb
      · rintro ⟨i, hi, hP, hb⟩
        have hP1 : P.testBit i = false := by rw [rh_orb] at hP; cases e : P.testBit i <;> simp_all
        revert hb
        show (if i = w then B w ||| B (l + 1) ||| 2 ^ l else B i).testBit b = true → _
        by_cases e : i = w
        · rw [if_pos e, rh_orb, Nat.testBit_or]
          intro t
          by_cases a1 : (B w).testBit b = true
          · rw [(h3 b).mpr ⟨w, g3, g6, a1⟩]; rfl
          · by_cases a2 : (B (l + 1)).testBit b = true
            · rw [(h3 b).mpr ⟨l + 1, g2, g5, a2⟩]; rfl
            · simp [a1, a2] at t
              subst t; simp
        · rw [if_neg e]; intro t; rw [(h3 b).mpr ⟨i, hi, hP1, t⟩]; rfl
/-- the two ways of telling it are one -/
theorem rh_main {N : Nat} {c : Nat → Nat} {q : Nat → Nat → Nat → Nat → Nat} {v : Nat} : (∃ z, z < rh_W N ∧ rh_rr N q N z 0 c = v) ↔ rh_T N c q 0 (2 ^ N - 1) v := by
  constructor
  · rintro ⟨z, _, e⟩
    obtain ⟨L, g, hL, e2⟩ := rh_rrL (q := q) N z 0 c (rh_st0 N)
    obtain ⟨B, h1, h2, h3⟩ := rh_A L 0 c (fun _ => 0) g ⟨fun i _ _ => rh_Tun.mpr (Or.inl ⟨rfl, rfl⟩), fun i j b _ _ _ _ h => absurd h (by simp), fun b => by simp⟩
    obtain ⟨f0, fl⟩ := rh_len L 0 (rh_st0 N).1 g
    rw [(rh_st0 N).2, hL] at fl
    have all : ∀ j, 0 < j → j ≤ N → (rh_fin L 0).testBit j = true := by
      intro j hj hN
      have := rh_c0 (j := j) (show rh_c (rh_f (rh_fin L 0) 0) (N + 1) = 0 by omega) (by omega)
      cases e : (rh_fin L 0).testBit j
      · rw [rh_ft.mpr ⟨e, by omega⟩] at this; exact absurd this (by decide)
      · rfl
    have big : ∀ (L : List (Nat × Nat)) (P j : Nat), rh_leg N L P → N < j → (rh_fin L P).testBit j = P.testBit j := by
      intro L
      induction L with
      | nil => intro P j _ _; rfl
      | cons a L ih =>
        intro P j g hj
        obtain ⟨w, l⟩ := a
        have := ih (P ||| 2 ^ l) j g.2 hj
        show (rh_fin L (P ||| 2 ^ l)).testBit j = _
        rw [this, rh_orb]
        have hl : l ≤ N := g.1.2.1
        simp [show ¬ l = j by omega]
    have e0 : B 0 = 2 ^ N - 1 := by
      refine Nat.eq_of_testBit_eq (fun b => ?_)
      rw [Nat.testBit_two_pow_sub_one]
      by_cases hb : b < N
      · obtain ⟨i, hi, hP, t⟩ := (h3 b).mp (all (b + 1) (by omega) hb)
        have : i = 0 := by
          cases i with
          | zero => rfl
          | succ i => rw [all (i + 1) (by omega) hi] at hP; exact absurd hP (by decide)
        subst this
        rw [t]; simp [hb]
      · cases t : (B 0).testBit b
        · simp [hb]
        · have := (h3 b).mpr ⟨0, by omega, f0, t⟩
          rw [big L 0 (b + 1) g (by omega), Nat.zero_testBit] at this
          exact absurd this (by decide)
    have := h1 0 (by omega) f0
    rw [e0, ← e2, e] at this
    exact this
  · rintro ⟨n, h⟩
    obtain ⟨L, H⟩ := rh_B n 0 (2 ^ N - 1) v h (by omega) (fun j hj => ⟨by rw [Nat.testBit_two_pow_sub_one] at hj; simpa using hj, by omega⟩)
    obtain ⟨g, z0, f, r, _⟩ := H 0 c (Nat.zero_testBit 0) rfl (fun j _ => ⟨Nat.zero_testBit _, rfl⟩)
    obtain ⟨f0, fl⟩ := rh_len L 0 (rh_st0 N).1 g
    rw [(rh_st0 N).2, rh_cz (N + 1) (fun j hj => by
      cases j with
      | zero => simp [rh_f]
      | succ j => unfold rh_f; rw [f, Nat.testBit_two_pow_sub_one]; simp; omega)] at fl
    obtain ⟨z, hz, e⟩ := rh_Lrr (q := q) N L 0 c (rh_st0 N) g (by omega)
    exact ⟨z, hz, by rw [e, r]⟩
