-- the pure picture of the machine: cells by group and place, and one judgement for a frame
abbrev pm_A : Type := (Nat × vp_A) ⊕ (Nat × List Value)
abbrev pm_V : Type := List pm_A × (Nat → Option pm_A) × (Nat → Option pm_A) × List pm_A × List pm_A × List pm_A × List pm_A × List pm_A × List pm_A
def pm_get? (w : pm_V) (g k : Nat) : Option pm_A := match w with
  | (a0, a1, a2, a3, a4, a5, a6, a7, a8) => match g with
    | 0 => a0[k]?
    | 1 => a1 k
    | 2 => a2 k
    | 3 => a3[k]?
    | 4 => a4[k]?
    | 5 => a5[k]?
    | 6 => a6[k]?
    | 7 => a7[k]?
    | 8 => a8[k]?
    | _ => none
def pm_set (w : pm_V) (g k : Nat) (x : pm_A) : pm_V := match w with
  | (a0, a1, a2, a3, a4, a5, a6, a7, a8) => match g with
    | 0 => (a0.set k x, a1, a2, a3, a4, a5, a6, a7, a8)
    | 1 => (a0, va_up a1 k (some x), a2, a3, a4, a5, a6, a7, a8)
    | 2 => (a0, a1, va_up a2 k (some x), a3, a4, a5, a6, a7, a8)
    | 3 => (a0, a1, a2, a3.set k x, a4, a5, a6, a7, a8)
    | 4 => (a0, a1, a2, a3, a4.set k x, a5, a6, a7, a8)
    | 5 => (a0, a1, a2, a3, a4, a5.set k x, a6, a7, a8)
    | 6 => (a0, a1, a2, a3, a4, a5, a6.set k x, a7, a8)
    | 7 => (a0, a1, a2, a3, a4, a5, a6, a7.set k x, a8)
    | 8 => (a0, a1, a2, a3, a4, a5, a6, a7, a8.set k x)
    | _ => (a0, a1, a2, a3, a4, a5, a6, a7, a8)
theorem pm_set_get {w : pm_V} {g k : Nat} {c x : pm_A} (h : pm_get? w g k = some c) (g' k' : Nat) : pm_get? (pm_set w g k x) g' k' = if g' = g ∧ k' = k then some x else pm_get? w g' k' := by
  obtain ⟨a0, a1, a2, a3, a4, a5, a6, a7, a8⟩ := w
  have hs : ∀ (a : List pm_A), a[k]? = some c → (a.set k x)[k']? = if k' = k then some x else a[k']? := by
    intro a ha
    have hl : k < a.length := (List.getElem?_eq_some_iff.mp ha).1
    by_cases e : k' = k
    · subst e; simp [hl]
    · rw [if_neg e, List.getElem?_set_ne (fun z => e z.symm)]
  have hu : ∀ (a : Nat → Option pm_A), va_up a k (some x) k' = if k' = k then some x else a k' := fun a => rfl
  match g, h with
  | 0, h => match g' with
    | 0 => simpa [pm_get?, pm_set] using hs a0 h
    | 1 => simp [pm_get?, pm_set]
    | 2 => simp [pm_get?, pm_set]
    | 3 => simp [pm_get?, pm_set]
    | 4 => simp [pm_get?, pm_set]
    | 5 => simp [pm_get?, pm_set]
    | 6 => simp [pm_get?, pm_set]
    | 7 => simp [pm_get?, pm_set]
    | 8 => simp [pm_get?, pm_set]
    | n + 9 => simp [pm_get?, pm_set]
  | 1, h => match g' with
    | 0 => simp [pm_get?, pm_set]
    | 1 => simp [pm_get?, pm_set, hu]
    | 2 => simp [pm_get?, pm_set]
    | 3 => simp [pm_get?, pm_set]
    | 4 => simp [pm_get?, pm_set]
    | 5 => simp [pm_get?, pm_set]
    | 6 => simp [pm_get?, pm_set]
    | 7 => simp [pm_get?, pm_set]
    | 8 => simp [pm_get?, pm_set]
    | n + 9 => simp [pm_get?, pm_set]
  | 2, h => match g' with
    | 0 => simp [pm_get?, pm_set]
    | 1 => simp [pm_get?, pm_set]
    | 2 => simp [pm_get?, pm_set, hu]
    | 3 => simp [pm_get?, pm_set]
    | 4 => simp [pm_get?, pm_set]
    | 5 => simp [pm_get?, pm_set]
    | 6 => simp [pm_get?, pm_set]
    | 7 => simp [pm_get?, pm_set]
    | 8 => simp [pm_get?, pm_set]
    | n + 9 => simp [pm_get?, pm_set]
  | 3, h => match g' with
    | 0 => simp [pm_get?, pm_set]
    | 1 => simp [pm_get?, pm_set]
    | 2 => simp [pm_get?, pm_set]
    | 3 => simpa [pm_get?, pm_set] using hs a3 h
    | 4 => simp [pm_get?, pm_set]
    | 5 => simp [pm_get?, pm_set]
    | 6 => simp [pm_get?, pm_set]
    | 7 => simp [pm_get?, pm_set]
    | 8 => simp [pm_get?, pm_set]
    | n + 9 => simp [pm_get?, pm_set]
  | 4, h => match g' with
    | 0 => simp [pm_get?, pm_set]
    | 1 => simp [pm_get?, pm_set]
    | 2 => simp [pm_get?, pm_set]
    | 3 => simp [pm_get?, pm_set]
    | 4 => simpa [pm_get?, pm_set] using hs a4 h
    | 5 => simp [pm_get?, pm_set]
    | 6 => simp [pm_get?, pm_set]
    | 7 => simp [pm_get?, pm_set]
    | 8 => simp [pm_get?, pm_set]
    | n + 9 => simp [pm_get?, pm_set]
  | 5, h => match g' with
    | 0 => simp [pm_get?, pm_set]
    | 1 => simp [pm_get?, pm_set]
    | 2 => simp [pm_get?, pm_set]
    | 3 => simp [pm_get?, pm_set]
    | 4 => simp [pm_get?, pm_set]
    | 5 => simpa [pm_get?, pm_set] using hs a5 h
    | 6 => simp [pm_get?, pm_set]
    | 7 => simp [pm_get?, pm_set]
    | 8 => simp [pm_get?, pm_set]
    | n + 9 => simp [pm_get?, pm_set]
  | 6, h => match g' with
    | 0 => simp [pm_get?, pm_set]
    | 1 => simp [pm_get?, pm_set]
    | 2 => simp [pm_get?, pm_set]
    | 3 => simp [pm_get?, pm_set]
    | 4 => simp [pm_get?, pm_set]
    | 5 => simp [pm_get?, pm_set]
    | 6 => simpa [pm_get?, pm_set] using hs a6 h
    | 7 => simp [pm_get?, pm_set]
    | 8 => simp [pm_get?, pm_set]
    | n + 9 => simp [pm_get?, pm_set]
  | 7, h => match g' with
    | 0 => simp [pm_get?, pm_set]
    | 1 => simp [pm_get?, pm_set]
    | 2 => simp [pm_get?, pm_set]
    | 3 => simp [pm_get?, pm_set]
    | 4 => simp [pm_get?, pm_set]
    | 5 => simp [pm_get?, pm_set]
    | 6 => simp [pm_get?, pm_set]
    | 7 => simpa [pm_get?, pm_set] using hs a7 h
    | 8 => simp [pm_get?, pm_set]
    | n + 9 => simp [pm_get?, pm_set]
  | 8, h => match g' with
    | 0 => simp [pm_get?, pm_set]
    | 1 => simp [pm_get?, pm_set]
    | 2 => simp [pm_get?, pm_set]
    | 3 => simp [pm_get?, pm_set]
    | 4 => simp [pm_get?, pm_set]
    | 5 => simp [pm_get?, pm_set]
    | 6 => simp [pm_get?, pm_set]
    | 7 => simp [pm_get?, pm_set]
    | 8 => simpa [pm_get?, pm_set] using hs a8 h
    | n + 9 => simp [pm_get?, pm_set]
  | n + 9, h => simp [pm_get?] at h
-- the context: class numbers and slots, the array classes by code, where the old heap ends, the script
abbrev pm_G : Type := va_G × (Nat → ClassId) × Nat × Nat × Nat × (Nat → Int32)
def pm_tys (G : pm_G) : List (ClassId × FieldType) := [(G.2.1 0, .int), (G.2.1 1, .long), (G.2.1 2, .boolean), (G.2.1 3, .object "ThirtyNine$School"), (G.2.1 4, .object "ThirtyNine$Nut")]
def pm_cc (G : pm_G) (c : pm_A) : va_E := match c with
  | .inl a => .inl (G.2.1 a.1, a.2)
  | .inr o => .inr o
abbrev pm_P (G : pm_G) : Nat → Prop := fun q => G.2.2.1 ≤ q
def pm_R (G : pm_G) (ad : Nat → Nat → Nat) (w : pm_V) (H : Heap) : Prop :=
  (∀ g k c, pm_get? w g k = some c → (va_at G.1 vwCl (ad g k, pm_cc G c) H ∧ G.2.2.1 ≤ ad g k) ∧ g < 9 ∧ k < 64) ∧ ∀ g k c g' k' c', pm_get? w g k = some c → pm_get? w g' k' = some c' → ad g k = ad g' k' → g = g' ∧ k = k'
def pm_ix : List (Nat × Nat) := (List.range 9).flatMap fun g => (List.range 64).map fun k => (g, k)
theorem pm_ix_nd : pm_ix.Nodup := by decide +kernel
theorem pm_ix_in {g k : Nat} (hg : g < 9) (hk : k < 64) : (g, k) ∈ pm_ix := List.mem_flatMap.mpr ⟨g, List.mem_range.mpr hg, List.mem_map.mpr ⟨k, List.mem_range.mpr hk, rfl⟩⟩
/-- the cells as the kit's worlds have them -/
def pm_E (G : pm_G) (ad : Nat → Nat → Nat) (w : pm_V) : va_W := pm_ix.filterMap fun q => (pm_get? w q.1 q.2).map fun c => (ad q.1 q.2, pm_cc G c)
theorem pm_E_mem {G : pm_G} {ad : Nat → Nat → Nat} {w : pm_V} {H : Heap} (h : pm_R G ad w H) {g k : Nat} {c : pm_A} (hc : pm_get? w g k = some c) : ∃ i : Nat, (pm_E G ad w)[i]? = some (ad g k, pm_cc G c) := by
  have hm : (ad g k, pm_cc G c) ∈ pm_E G ad w := List.mem_filterMap.mpr ⟨(g, k), pm_ix_in (h.1 g k c hc).2.1 (h.1 g k c hc).2.2, by simp [hc]⟩
  exact List.getElem?_of_mem hm
theorem pm_E_of {G : pm_G} {ad : Nat → Nat → Nat} {w : pm_V} {i : Nat} {x : Nat × va_E} (hx : (pm_E G ad w)[i]? = some x) : ∃ g k c, pm_get? w g k = some c ∧ x = (ad g k, pm_cc G c) := by
  obtain ⟨q, -, hq⟩ := List.mem_filterMap.mp (List.mem_of_getElem? hx)
  obtain ⟨c, hc, rfl⟩ := Option.map_eq_some_iff.mp hq
  exact ⟨q.1, q.2, c, hc, rfl⟩
theorem pm_E_P {G : pm_G} {ad : Nat → Nat → Nat} {w : pm_V} {H : Heap} (h : pm_R G ad w H) : va_P G.1 vwCl (pm_E G ad w) H := by
  intro i x hx
  obtain ⟨g, k, c, hc, rfl⟩ := pm_E_of hx
  exact (h.1 g k c hc).1.1
theorem pm_pw {α β : Type} {f : α → Option β} {key : β → Nat} {l : List α} (hn : l.Nodup) (hi : ∀ x y a b, f x = some a → f y = some b → key a = key b → x = y) : ∀ (i j : Nat) (a b : β), (l.filterMap f)[i]? = some a → (l.filterMap f)[j]? = some b → key a = key b → i = j := by
  have hp : (l.filterMap f).Pairwise (fun a b => key a ≠ key b) := by
    rw [List.pairwise_filterMap]
    exact List.Pairwise.imp (fun {x y} hne a ha b hb e => hne (hi x y a b ha hb e)) hn
  intro i j a b ha hb e
  rw [List.pairwise_iff_getElem] at hp
  obtain ⟨hi1, rfl⟩ := List.getElem?_eq_some_iff.mp ha
  obtain ⟨hj1, rfl⟩ := List.getElem?_eq_some_iff.mp hb
  rcases Nat.lt_trichotomy i j with h | h | h
  · exact absurd e (hp i j hi1 hj1 h)
  · exact h
  · exact absurd e.symm (hp j i hj1 hi1 h)
theorem pm_E_D {G : pm_G} {ad : Nat → Nat → Nat} {w : pm_V} {H : Heap} (h : pm_R G ad w H) : va_D (pm_P G) (pm_E G ad w) := by
  refine ⟨fun i j x y hx hy e => ?_, fun i x hx => ?_⟩
  · refine pm_pw (key := fun x : Nat × va_E => x.1) pm_ix_nd ?_ i j x y hx hy e
    intro p q a b ha hb e2
    obtain ⟨c, hc, rfl⟩ := Option.map_eq_some_iff.mp ha
    obtain ⟨c', hc', rfl⟩ := Option.map_eq_some_iff.mp hb
    obtain ⟨e3, e4⟩ := h.2 _ _ _ _ _ _ hc hc' e2
    exact Prod.ext e3 e4
  · obtain ⟨g, k, c, hc, rfl⟩ := pm_E_of hx
    exact (h.1 g k c hc).1.2
theorem pm_R_set {G : pm_G} {ad : Nat → Nat → Nat} {w : pm_V} {H H1 : Heap} (h : pm_R G ad w H) {g k i : Nat} {c x : pm_A} (hc : pm_get? w g k = some c) (hi : (pm_E G ad w)[i]? = some (ad g k, pm_cc G c)) (hP : va_P G.1 vwCl ((pm_E G ad w).set i (ad g k, pm_cc G x)) H1) : pm_R G ad (pm_set w g k x) H1 := by
  have hl : i < (pm_E G ad w).length := (List.getElem?_eq_some_iff.mp hi).1
  refine ⟨fun g' k' c' h' => ?_, fun g1 k1 c1 g2 k2 c2 h1 h2 e => ?_⟩
  · rw [pm_set_get hc] at h'
    by_cases he : g' = g ∧ k' = k
    · obtain ⟨rfl, rfl⟩ := he
      rw [if_pos ⟨rfl, rfl⟩] at h'
      cases h'
      exact ⟨⟨hP i _ (by simp [hl]), (h.1 _ _ _ hc).1.2⟩, (h.1 _ _ _ hc).2⟩
    · rw [if_neg he] at h'
      obtain ⟨j, hj⟩ := pm_E_mem h h'
      have hne : i ≠ j := by
        intro e
        subst e
        have h3 := Option.some.inj (hi.symm.trans hj)
        obtain ⟨e1, e2⟩ := h.2 _ _ _ _ _ _ hc h' (congrArg Prod.fst h3)
        exact he ⟨e1.symm, e2.symm⟩
      exact ⟨⟨hP j _ (by rw [List.getElem?_set_ne hne]; exact hj), (h.1 _ _ _ h').1.2⟩, (h.1 _ _ _ h').2⟩
  · have pre : ∀ g' k' c', pm_get? (pm_set w g k x) g' k' = some c' → ∃ c'', pm_get? w g' k' = some c'' := by
      intro g' k' c' h'
      rw [pm_set_get hc] at h'
      by_cases he : g' = g ∧ k' = k
      · obtain ⟨rfl, rfl⟩ := he
        exact ⟨_, hc⟩
      · rw [if_neg he] at h'
        exact ⟨_, h'⟩
    obtain ⟨d1, q1⟩ := pre _ _ _ h1
    obtain ⟨d2, q2⟩ := pre _ _ _ h2
    exact h.2 _ _ _ _ _ _ q1 q2 e
/-- a new cell at a place that was empty -/
def pm_ad (ad : Nat → Nat → Nat) (g k q : Nat) : Nat → Nat → Nat := fun g' k' => if g' = g ∧ k' = k then q else ad g' k'
theorem pm_R_new {G : pm_G} {ad : Nat → Nat → Nat} {w w' : pm_V} {H H1 : Heap} (h : pm_R G ad w H) {g k q : Nat} {x : pm_A} (hg : g < 9) (hk : k < 64) (hw : ∀ g' k', pm_get? w' g' k' = if g' = g ∧ k' = k then some x else pm_get? w g' k')
    (hP : va_P G.1 vwCl (pm_E G ad w ++ [(q, pm_cc G x)]) H1) (hD : va_D (pm_P G) (pm_E G ad w ++ [(q, pm_cc G x)])) (h0 : pm_get? w g k = none) : pm_R G (pm_ad ad g k q) w' H1 := by
  have hlast : (pm_E G ad w ++ [(q, pm_cc G x)])[(pm_E G ad w).length]? = some (q, pm_cc G x) := by simp
  have hold : ∀ g' k' c', pm_get? w g' k' = some c' → ∃ i : Nat, i < (pm_E G ad w).length ∧ (pm_E G ad w ++ [(q, pm_cc G x)])[i]? = some (ad g' k', pm_cc G c') := by
    intro g' k' c' h'
    obtain ⟨i, hi⟩ := pm_E_mem h h'
    have hl : i < (pm_E G ad w).length := (List.getElem?_eq_some_iff.mp hi).1
    exact ⟨i, hl, by rw [List.getElem?_append_left hl]; exact hi⟩
  refine ⟨fun g' k' c' h' => ?_, fun g1 k1 c1 g2 k2 c2 h1 h2 e => ?_⟩
  · rw [hw] at h'
    by_cases he : g' = g ∧ k' = k
    · rw [if_pos he] at h'
      cases h'
      have e1 : pm_ad ad g k q g' k' = q := if_pos he
      rw [e1]
      exact ⟨⟨hP _ _ hlast, hD.2 _ _ hlast⟩, by rw [he.1]; exact hg, by rw [he.2]; exact hk⟩
    · rw [if_neg he] at h'
      have e1 : pm_ad ad g k q g' k' = ad g' k' := if_neg he
      obtain ⟨i, -, hi⟩ := hold _ _ _ h'
      rw [e1]
      exact ⟨⟨hP i _ hi, (h.1 _ _ _ h').1.2⟩, (h.1 _ _ _ h').2⟩
  · rw [hw] at h1 h2
    by_cases he1 : g1 = g ∧ k1 = k
    · by_cases he2 : g2 = g ∧ k2 = k
      · exact ⟨he1.1.trans he2.1.symm, he1.2.trans he2.2.symm⟩
      · rw [if_neg he2] at h2
        obtain ⟨i, hi, hi2⟩ := hold _ _ _ h2
        have e1 : pm_ad ad g k q g1 k1 = q := if_pos he1
        have e2 : pm_ad ad g k q g2 k2 = ad g2 k2 := if_neg he2
        have := hD.1 _ _ _ _ hi2 hlast (e2.symm.trans (e.symm.trans e1))
        omega
    · rw [if_neg he1] at h1
      have e1 : pm_ad ad g k q g1 k1 = ad g1 k1 := if_neg he1
      by_cases he2 : g2 = g ∧ k2 = k
      · obtain ⟨i, hi, hi2⟩ := hold _ _ _ h1
        have e2 : pm_ad ad g k q g2 k2 = q := if_pos he2
        have := hD.1 _ _ _ _ hi2 hlast (e1.symm.trans (e.trans e2))
        omega
      · rw [if_neg he2] at h2
        have e2 : pm_ad ad g k q g2 k2 = ad g2 k2 := if_neg he2
        exact h.2 _ _ _ _ _ _ h1 h2 (by rw [← e1, ← e2, e])
