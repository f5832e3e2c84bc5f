theorem pm_new2 {l : Launch} {G : pm_G} {M : pm_M} {ad : Nat → Nat → Nat} {pc : Nat} {lv : List (Nat × Value)} {st : List Value} {w : pm_V} {cs ss : Nat} {Q : pm_T} {idx ci N g k : Nat} {fs : List Value} {w2 : pm_V} (hN : pm_NW M.1.cls idx ci N fs) (hd : decode M.2.1 pc = .ok (.new idx, 3)) (hg : g < 9) (hk : k < 64) (h0 : pm_get? w g k = none) (hw : ∀ g' k', pm_get? w2 g' k' = if g' = g ∧ k' = k then some (.inr (ci, fs)) else pm_get? w g' k') (hc : cs + 1 ≤ M.2.2.2.2.cells) (hs : ss + N ≤ M.2.2.2.2.slots) (kk : ∀ ad2 : Nat → Nat → Nat, (∀ g1 k1, ¬ (g1 = g ∧ k1 = k) → ad2 g1 k1 = ad g1 k1) → pm_W l G M ad2 (pc + 3) lv (.ref (ad2 g k) :: st) w2 (cs + 1) (ss + N) Q) : pm_W l G M ad pc lv st w cs ss Q :=
  pm_new hN hd hg hk h0 hw hc hs (fun q => by
    have e : pm_ad ad g k q g k = q := if_pos ⟨rfl, rfl⟩
    have h := kk (pm_ad ad g k q) (fun g1 k1 hn => if_neg hn)
    rw [e] at h
    exact h)
theorem pm_newa2 {l : Launch} {G : pm_G} {M : pm_M} {ad : Nat → Nat → Nat} {pc : Nat} {lv : List (Nat × Value)} {st : List Value} {w : pm_V} {cs ss : Nat} {Q : pm_T} {atype : ArrayType} {ty : FieldType} {t N g k : Nat} {a0 : vp_A} {n : Int32} {w2 : pm_V} (hcl : Cond.arrayClass (newarray.typeOf atype) ∈ pm_tb) (hty : newarray.typeOf atype = ty) (ht : (pm_tys G)[t]? = some (G.2.1 t, ty)) (ha : ∀ cA : ClassId, vp_cell cA a0 = arrV cA N (fun _ => defaultValue ty)) (hn : ¬ n < 0) (hN : n.toNatClampNeg = N) (hby : N * componentBytes ty ≤ 536870912) (hd : decode M.2.1 pc = .ok (.newarray atype, 2)) (hg : g < 9) (hk : k < 64) (h0 : pm_get? w g k = none) (hw : ∀ g' k', pm_get? w2 g' k' = if g' = g ∧ k' = k then some (.inl (t, a0)) else pm_get? w g' k') (hc : cs + 1 ≤ M.2.2.2.2.cells) (hs : ss + N ≤ M.2.2.2.2.slots) (kk : ∀ ad2 : Nat → Nat → Nat, (∀ g1 k1, ¬ (g1 = g ∧ k1 = k) → ad2 g1 k1 = ad g1 k1) → pm_W l G M ad2 (pc + 2) lv (.ref (ad2 g k) :: st) w2 (cs + 1) (ss + N) Q) : pm_W l G M ad pc lv (.int n :: st) w cs ss Q :=
  pm_newa hcl hty ht ha hn hN hby hd hg hk h0 hw hc hs (fun q => by
    have e : pm_ad ad g k q g k = q := if_pos ⟨rfl, rfl⟩
    have h := kk (pm_ad ad g k q) (fun g1 k1 hn => if_neg hn)
    rw [e] at h
    exact h)
theorem pm_newq2 {l : Launch} {G : pm_G} {M : pm_M} {ad : Nat → Nat → Nat} {pc : Nat} {lv : List (Nat × Value)} {st : List Value} {w : pm_V} {cs ss : Nat} {Q : pm_T} {C : String} {idx t N g k : Nat} {n : Int32} {w2 : pm_V} (hcl : Cond.classLink M.1.cls idx C ∈ pm_tb) (ht : (t = 3 ∧ C = "ThirtyNine$School") ∨ (t = 4 ∧ C = "ThirtyNine$Nut")) (hn : ¬ n < 0) (hN : n.toNatClampNeg = N) (hby : N * 4 ≤ 536870912) (hd : decode M.2.1 pc = .ok (.anewarray idx, 3)) (hg : g < 9) (hk : k < 64) (h0 : pm_get? w g k = none) (hw : ∀ g' k', pm_get? w2 g' k' = if g' = g ∧ k' = k then some (.inl (t, N, .inr (.inr (.inr (.inr (fun _ => none)))))) else pm_get? w g' k') (hc : cs + 1 ≤ M.2.2.2.2.cells) (hs : ss + N ≤ M.2.2.2.2.slots) (kk : ∀ ad2 : Nat → Nat → Nat, (∀ g1 k1, ¬ (g1 = g ∧ k1 = k) → ad2 g1 k1 = ad g1 k1) → pm_W l G M ad2 (pc + 3) lv (.ref (ad2 g k) :: st) w2 (cs + 1) (ss + N) Q) : pm_W l G M ad pc lv (.int n :: st) w cs ss Q :=
  pm_newq hcl ht hn hN hby hd hg hk h0 hw hc hs (fun q => by
    have e : pm_ad ad g k q g k = q := if_pos ⟨rfl, rfl⟩
    have h := kk (pm_ad ad g k q) (fun g1 k1 hn => if_neg hn)
    rw [e] at h
    exact h)
theorem pm_apl {a : List pm_A} {x : pm_A} {k : Nat} (h : a.length = k) (k' : Nat) : (a ++ [x])[k']? = if k' = k then some x else a[k']? := by
  subst h
  by_cases e : k' = a.length
  · rw [if_pos e, e]; simp
  · rw [if_neg e]
    by_cases h2 : k' < a.length
    · rw [List.getElem?_append_left h2]
    · rw [List.getElem?_eq_none (by simp; omega), List.getElem?_eq_none (by omega)]
theorem pm_CLw {ci : Nat} {q : vw_C} (h : pm_CL ci) (hq : vwCl[ci]? = some q) : ∀ w ∈ u_ws q.1 q.2.1 q.2.2, w ∈ pm_tb := by
  obtain ⟨q2, h1, h2, -⟩ := h
  cases Option.some.inj (hq.symm.trans h1)
  exact h2
/-- another naming of the same cells -/
theorem pm_rel {l : Launch} {G : pm_G} {M : pm_M} {ad : Nat → Nat → Nat} {pc : Nat} {lv : List (Nat × Value)} {st : List Value} {w : pm_V} {cs ss : Nat} {Q : pm_T} {ad2 : Nat → Nat → Nat} {w2 : pm_V} (h : ∀ H, pm_R G ad w H → pm_R G ad2 w2 H) (kk : pm_W l G M ad2 pc lv st w2 cs ss Q) : pm_W l G M ad pc lv st w cs ss Q := fun p e s m args below meth c X H locs ls hR hS hl => kk p e s m args below meth c X H locs ls (h H hR) hS hl
theorem pm_app0 {a0 a3 a4 a5 a6 a7 a8 : List pm_A} {a1 a2 : Nat → Option pm_A} {x : pm_A} {k : Nat} (h : a0.length = k) : ∀ g' k', pm_get? (a0 ++ [x], a1, a2, a3, a4, a5, a6, a7, a8) g' k' = if g' = 0 ∧ k' = k then some x else pm_get? (a0, a1, a2, a3, a4, a5, a6, a7, a8) g' k' := fun g' k' => match g' with
  | 0 => by
    show (a0 ++ [x])[k']? = if 0 = 0 ∧ k' = k then some x else a0[k']?
    rw [pm_apl h]
    simp
  | 1 => by
    rw [if_neg (fun z => absurd z.1 (by decide))]
    rfl
  | 2 => by
    rw [if_neg (fun z => absurd z.1 (by decide))]
    rfl
  | 3 => by
    rw [if_neg (fun z => absurd z.1 (by decide))]
    rfl
  | 4 => by
    rw [if_neg (fun z => absurd z.1 (by decide))]
    rfl
  | 5 => by
    rw [if_neg (fun z => absurd z.1 (by decide))]
    rfl
  | 6 => by
    rw [if_neg (fun z => absurd z.1 (by decide))]
    rfl
  | 7 => by
    rw [if_neg (fun z => absurd z.1 (by decide))]
    rfl
  | 8 => by
    rw [if_neg (fun z => absurd z.1 (by decide))]
    rfl
  | n + 9 => by
    rw [if_neg (fun z => absurd z.1 (by omega))]
    rfl
theorem pm_app3 {a0 a3 a4 a5 a6 a7 a8 : List pm_A} {a1 a2 : Nat → Option pm_A} {x : pm_A} {k : Nat} (h : a3.length = k) : ∀ g' k', pm_get? (a0, a1, a2, a3 ++ [x], a4, a5, a6, a7, a8) g' k' = if g' = 3 ∧ k' = k then some x else pm_get? (a0, a1, a2, a3, a4, a5, a6, a7, a8) g' k' := fun g' k' => match g' with
  | 0 => by
    rw [if_neg (fun z => absurd z.1 (by decide))]
    rfl
  | 1 => by
    rw [if_neg (fun z => absurd z.1 (by decide))]
    rfl
  | 2 => by
    rw [if_neg (fun z => absurd z.1 (by decide))]
    rfl
  | 3 => by
    show (a3 ++ [x])[k']? = if 3 = 3 ∧ k' = k then some x else a3[k']?
    rw [pm_apl h]
    simp
  | 4 => by
    rw [if_neg (fun z => absurd z.1 (by decide))]
    rfl
  | 5 => by
    rw [if_neg (fun z => absurd z.1 (by decide))]
    rfl
  | 6 => by
    rw [if_neg (fun z => absurd z.1 (by decide))]
    rfl
  | 7 => by
    rw [if_neg (fun z => absurd z.1 (by decide))]
    rfl
  | 8 => by
    rw [if_neg (fun z => absurd z.1 (by decide))]
    rfl
  | n + 9 => by
    rw [if_neg (fun z => absurd z.1 (by omega))]
    rfl
theorem pm_app4 {a0 a3 a4 a5 a6 a7 a8 : List pm_A} {a1 a2 : Nat → Option pm_A} {x : pm_A} {k : Nat} (h : a4.length = k) : ∀ g' k', pm_get? (a0, a1, a2, a3, a4 ++ [x], a5, a6, a7, a8) g' k' = if g' = 4 ∧ k' = k then some x else pm_get? (a0, a1, a2, a3, a4, a5, a6, a7, a8) g' k' := fun g' k' => match g' with
  | 0 => by
    rw [if_neg (fun z => absurd z.1 (by decide))]
    rfl
  | 1 => by
    rw [if_neg (fun z => absurd z.1 (by decide))]
    rfl
  | 2 => by
    rw [if_neg (fun z => absurd z.1 (by decide))]
    rfl
  | 3 => by
    rw [if_neg (fun z => absurd z.1 (by decide))]
    rfl
  | 4 => by
    show (a4 ++ [x])[k']? = if 4 = 4 ∧ k' = k then some x else a4[k']?
    rw [pm_apl h]
    simp
  | 5 => by
    rw [if_neg (fun z => absurd z.1 (by decide))]
    rfl
  | 6 => by
    rw [if_neg (fun z => absurd z.1 (by decide))]
    rfl
  | 7 => by
    rw [if_neg (fun z => absurd z.1 (by decide))]
    rfl
  | 8 => by
    rw [if_neg (fun z => absurd z.1 (by decide))]
    rfl
  | n + 9 => by
    rw [if_neg (fun z => absurd z.1 (by omega))]
    rfl
theorem pm_app5 {a0 a3 a4 a5 a6 a7 a8 : List pm_A} {a1 a2 : Nat → Option pm_A} {x : pm_A} {k : Nat} (h : a5.length = k) : ∀ g' k', pm_get? (a0, a1, a2, a3, a4, a5 ++ [x], a6, a7, a8) g' k' = if g' = 5 ∧ k' = k then some x else pm_get? (a0, a1, a2, a3, a4, a5, a6, a7, a8) g' k' := fun g' k' => match g' with
  | 0 => by
    rw [if_neg (fun z => absurd z.1 (by decide))]
    rfl
  | 1 => by
    rw [if_neg (fun z => absurd z.1 (by decide))]
    rfl
  | 2 => by
    rw [if_neg (fun z => absurd z.1 (by decide))]
    rfl
  | 3 => by
    rw [if_neg (fun z => absurd z.1 (by decide))]
    rfl
  | 4 => by
    rw [if_neg (fun z => absurd z.1 (by decide))]
    rfl
  | 5 => by
    show (a5 ++ [x])[k']? = if 5 = 5 ∧ k' = k then some x else a5[k']?
    rw [pm_apl h]
    simp
  | 6 => by
    rw [if_neg (fun z => absurd z.1 (by decide))]
    rfl
  | 7 => by
    rw [if_neg (fun z => absurd z.1 (by decide))]
    rfl
  | 8 => by
    rw [if_neg (fun z => absurd z.1 (by decide))]
    rfl
  | n + 9 => by
    rw [if_neg (fun z => absurd z.1 (by omega))]
    rfl
theorem pm_app6 {a0 a3 a4 a5 a6 a7 a8 : List pm_A} {a1 a2 : Nat → Option pm_A} {x : pm_A} {k : Nat} (h : a6.length = k) : ∀ g' k', pm_get? (a0, a1, a2, a3, a4, a5, a6 ++ [x], a7, a8) g' k' = if g' = 6 ∧ k' = k then some x else pm_get? (a0, a1, a2, a3, a4, a5, a6, a7, a8) g' k' := fun g' k' => match g' with
  | 0 => by
    rw [if_neg (fun z => absurd z.1 (by decide))]
    rfl
  | 1 => by
    rw [if_neg (fun z => absurd z.1 (by decide))]
    rfl
  | 2 => by
    rw [if_neg (fun z => absurd z.1 (by decide))]
    rfl
  | 3 => by
    rw [if_neg (fun z => absurd z.1 (by decide))]
    rfl
  | 4 => by
    rw [if_neg (fun z => absurd z.1 (by decide))]
    rfl
  | 5 => by
    rw [if_neg (fun z => absurd z.1 (by decide))]
    rfl
  | 6 => by
    show (a6 ++ [x])[k']? = if 6 = 6 ∧ k' = k then some x else a6[k']?
    rw [pm_apl h]
    simp
  | 7 => by
    rw [if_neg (fun z => absurd z.1 (by decide))]
    rfl
  | 8 => by
    rw [if_neg (fun z => absurd z.1 (by decide))]
    rfl
  | n + 9 => by
    rw [if_neg (fun z => absurd z.1 (by omega))]
    rfl
theorem pm_app7 {a0 a3 a4 a5 a6 a7 a8 : List pm_A} {a1 a2 : Nat → Option pm_A} {x : pm_A} {k : Nat} (h : a7.length = k) : ∀ g' k', pm_get? (a0, a1, a2, a3, a4, a5, a6, a7 ++ [x], a8) g' k' = if g' = 7 ∧ k' = k then some x else pm_get? (a0, a1, a2, a3, a4, a5, a6, a7, a8) g' k' := fun g' k' => match g' with
  | 0 => by
    rw [if_neg (fun z => absurd z.1 (by decide))]
    rfl
  | 1 => by
    rw [if_neg (fun z => absurd z.1 (by decide))]
    rfl
  | 2 => by
    rw [if_neg (fun z => absurd z.1 (by decide))]
    rfl
  | 3 => by
    rw [if_neg (fun z => absurd z.1 (by decide))]
    rfl
  | 4 => by
    rw [if_neg (fun z => absurd z.1 (by decide))]
    rfl
  | 5 => by
    rw [if_neg (fun z => absurd z.1 (by decide))]
    rfl
  | 6 => by
    rw [if_neg (fun z => absurd z.1 (by decide))]
    rfl
  | 7 => by
    show (a7 ++ [x])[k']? = if 7 = 7 ∧ k' = k then some x else a7[k']?
    rw [pm_apl h]
    simp
  | 8 => by
    rw [if_neg (fun z => absurd z.1 (by decide))]
    rfl
  | n + 9 => by
    rw [if_neg (fun z => absurd z.1 (by omega))]
    rfl
theorem pm_app8 {a0 a3 a4 a5 a6 a7 a8 : List pm_A} {a1 a2 : Nat → Option pm_A} {x : pm_A} {k : Nat} (h : a8.length = k) : ∀ g' k', pm_get? (a0, a1, a2, a3, a4, a5, a6, a7, a8 ++ [x]) g' k' = if g' = 8 ∧ k' = k then some x else pm_get? (a0, a1, a2, a3, a4, a5, a6, a7, a8) g' k' := fun g' k' => match g' with
  | 0 => by
    rw [if_neg (fun z => absurd z.1 (by decide))]
    rfl
  | 1 => by
    rw [if_neg (fun z => absurd z.1 (by decide))]
    rfl
  | 2 => by
    rw [if_neg (fun z => absurd z.1 (by decide))]
    rfl
  | 3 => by
    rw [if_neg (fun z => absurd z.1 (by decide))]
    rfl
  | 4 => by
    rw [if_neg (fun z => absurd z.1 (by decide))]
    rfl
  | 5 => by
    rw [if_neg (fun z => absurd z.1 (by decide))]
    rfl
  | 6 => by
    rw [if_neg (fun z => absurd z.1 (by decide))]
    rfl
  | 7 => by
    rw [if_neg (fun z => absurd z.1 (by decide))]
    rfl
  | 8 => by
    show (a8 ++ [x])[k']? = if 8 = 8 ∧ k' = k then some x else a8[k']?
    rw [pm_apl h]
    simp
  | n + 9 => by
    rw [if_neg (fun z => absurd z.1 (by omega))]
    rfl
theorem pm_app1 {a0 a3 a4 a5 a6 a7 a8 : List pm_A} {a1 a2 : Nat → Option pm_A} {x : pm_A} {k : Nat} : ∀ g' k', pm_get? (a0, va_up a1 k (some x), a2, a3, a4, a5, a6, a7, a8) g' k' = if g' = 1 ∧ k' = k then some x else pm_get? (a0, a1, a2, a3, a4, a5, a6, a7, a8) g' k' := fun g' k' => match g' with
  | 0 => by
    rw [if_neg (fun z => absurd z.1 (by decide))]
    rfl
  | 1 => by
    show (if k' = k then some x else a1 k') = if 1 = 1 ∧ k' = k then some x else a1 k'
    simp
  | 2 => by
    rw [if_neg (fun z => absurd z.1 (by decide))]
    rfl
  | 3 => by
    rw [if_neg (fun z => absurd z.1 (by decide))]
    rfl
  | 4 => by
    rw [if_neg (fun z => absurd z.1 (by decide))]
    rfl
  | 5 => by
    rw [if_neg (fun z => absurd z.1 (by decide))]
    rfl
  | 6 => by
    rw [if_neg (fun z => absurd z.1 (by decide))]
    rfl
  | 7 => by
    rw [if_neg (fun z => absurd z.1 (by decide))]
    rfl
  | 8 => by
    rw [if_neg (fun z => absurd z.1 (by decide))]
    rfl
  | n + 9 => by
    rw [if_neg (fun z => absurd z.1 (by omega))]
    rfl
theorem pm_app2 {a0 a3 a4 a5 a6 a7 a8 : List pm_A} {a1 a2 : Nat → Option pm_A} {x : pm_A} {k : Nat} : ∀ g' k', pm_get? (a0, a1, va_up a2 k (some x), a3, a4, a5, a6, a7, a8) g' k' = if g' = 2 ∧ k' = k then some x else pm_get? (a0, a1, a2, a3, a4, a5, a6, a7, a8) g' k' := fun g' k' => match g' with
  | 0 => by
    rw [if_neg (fun z => absurd z.1 (by decide))]
    rfl
  | 1 => by
    rw [if_neg (fun z => absurd z.1 (by decide))]
    rfl
  | 2 => by
    show (if k' = k then some x else a2 k') = if 2 = 2 ∧ k' = k then some x else a2 k'
    simp
  | 3 => by
    rw [if_neg (fun z => absurd z.1 (by decide))]
    rfl
  | 4 => by
    rw [if_neg (fun z => absurd z.1 (by decide))]
    rfl
  | 5 => by
    rw [if_neg (fun z => absurd z.1 (by decide))]
    rfl
  | 6 => by
    rw [if_neg (fun z => absurd z.1 (by decide))]
    rfl
  | 7 => by
    rw [if_neg (fun z => absurd z.1 (by decide))]
    rfl
  | 8 => by
    rw [if_neg (fun z => absurd z.1 (by decide))]
    rfl
  | n + 9 => by
    rw [if_neg (fun z => absurd z.1 (by omega))]
    rfl
theorem nw_RL_7 : pm_NW RL 7 11 12 [.null, .null, .null, .null, .null, .null, .null, .null, .int 0, .int 0, .int 0, .int 0] := ⟨(RX11, TX11, 12), tyX11, rfl, rfl, pm_CLw cl_11 rfl, tyX11_ok, kw_62, kw_63, kw_46, fun j hj => match j, hj with
  | 0, _ => rfl
  | 1, _ => rfl
  | 2, _ => rfl
  | 3, _ => rfl
  | 4, _ => rfl
  | 5, _ => rfl
  | 6, _ => rfl
  | 7, _ => rfl
  | 8, _ => rfl
  | 9, _ => rfl
  | 10, _ => rfl
  | 11, _ => rfl⟩
theorem nw_RX11_9 : pm_NW RX11 9 6 6 [.null, .null, .int 0, .int 0, .int 0, .int 0] := ⟨(RX6, TX6, 6), tyX6, rfl, rfl, pm_CLw cl_6 rfl, tyX6_ok, kw_70, kw_71, kw_47, fun j hj => match j, hj with
  | 0, _ => rfl
  | 1, _ => rfl
  | 2, _ => rfl
  | 3, _ => rfl
  | 4, _ => rfl
  | 5, _ => rfl⟩
theorem nw_RX6_15 : pm_NW RX6 15 10 8 [.int 0, .int 0, .int 0, .int 0, .int 0, .int 0, .int 0, .int 0] := ⟨(RX10, TX10, 8), tyX10, rfl, rfl, pm_CLw cl_10 rfl, tyX10_ok, kw_76, kw_77, kw_48, fun j hj => match j, hj with
  | 0, _ => rfl
  | 1, _ => rfl
  | 2, _ => rfl
  | 3, _ => rfl
  | 4, _ => rfl
  | 5, _ => rfl
  | 6, _ => rfl
  | 7, _ => rfl⟩
theorem nw_RX11_22 : pm_NW RX11 22 4 13 [.null, .int 0, .int 0, .int 0, .int 0, .int 0, .int 0, .int 0, .int 0, .int 0, .int 0, .int 0, .int 0] := ⟨(RX4, TX4, 13), tyX4, rfl, rfl, pm_CLw cl_4 rfl, tyX4_ok, kw_135, kw_516, kw_55, fun j hj => match j, hj with
  | 0, _ => rfl
  | 1, _ => rfl
  | 2, _ => rfl
  | 3, _ => rfl
  | 4, _ => rfl
  | 5, _ => rfl
  | 6, _ => rfl
  | 7, _ => rfl
  | 8, _ => rfl
  | 9, _ => rfl
  | 10, _ => rfl
  | 11, _ => rfl
  | 12, _ => rfl⟩
theorem nw_RX11_28 : pm_NW RX11 28 1 6 [.int 0, .int 0, .int 0, .int 0, .int 0, .int 0] := ⟨(RX1, TX1, 6), tyX1, rfl, rfl, pm_CLw cl_1 rfl, tyX1_ok, kw_137, kw_138, kw_49, fun j hj => match j, hj with
  | 0, _ => rfl
  | 1, _ => rfl
  | 2, _ => rfl
  | 3, _ => rfl
  | 4, _ => rfl
  | 5, _ => rfl⟩
theorem nw_RX11_35 : pm_NW RX11 35 3 8 [.int 0, .int 0, .int 0, .null, .null, .null, .null, .int 0] := ⟨(RX3, TX3, 8), tyX3, rfl, rfl, pm_CLw cl_3 rfl, tyX3_ok, kw_165, kw_166, kw_50, fun j hj => match j, hj with
  | 0, _ => rfl
  | 1, _ => rfl
  | 2, _ => rfl
  | 3, _ => rfl
  | 4, _ => rfl
  | 5, _ => rfl
  | 6, _ => rfl
  | 7, _ => rfl⟩
theorem nw_RX11_42 : pm_NW RX11 42 9 3 [.null, .null, .int 0] := ⟨(RX9, TX9, 3), tyX9, rfl, rfl, pm_CLw cl_9 rfl, tyX9_ok, kw_199, kw_200, kw_51, fun j hj => match j, hj with
  | 0, _ => rfl
  | 1, _ => rfl
  | 2, _ => rfl⟩
theorem nw_RX11_49 : pm_NW RX11 49 2 4 [.int 0, .null, .null, .null] := ⟨(RX2, TX2, 4), tyX2, rfl, rfl, pm_CLw cl_2 rfl, tyX2_ok, kw_217, kw_218, kw_52, fun j hj => match j, hj with
  | 0, _ => rfl
  | 1, _ => rfl
  | 2, _ => rfl
  | 3, _ => rfl⟩
theorem nw_RX11_293 : pm_NW RX11 293 5 13 [.null, .int 0, .int 0, .int 0, .int 0, .int 0, .int 0, .int 0, .int 0, .int 0, .int 0, .int 0, .int 0] := ⟨(RX5, TX5, 13), tyX5, rfl, rfl, pm_CLw cl_5 rfl, tyX5_ok, kw_385, kw_386, kw_56, fun j hj => match j, hj with
  | 0, _ => rfl
  | 1, _ => rfl
  | 2, _ => rfl
  | 3, _ => rfl
  | 4, _ => rfl
  | 5, _ => rfl
  | 6, _ => rfl
  | 7, _ => rfl
  | 8, _ => rfl
  | 9, _ => rfl
  | 10, _ => rfl
  | 11, _ => rfl
  | 12, _ => rfl⟩
theorem nw_RX11_298 : pm_NW RX11 298 0 13 [.null, .int 0, .int 0, .int 0, .int 0, .int 0, .int 0, .int 0, .int 0, .int 0, .int 0, .int 0, .int 0] := ⟨(RX0, TX0, 13), tyX0, rfl, rfl, pm_CLw cl_0 rfl, tyX0_ok, kw_456, kw_457, kw_57, fun j hj => match j, hj with
  | 0, _ => rfl
  | 1, _ => rfl
  | 2, _ => rfl
  | 3, _ => rfl
  | 4, _ => rfl
  | 5, _ => rfl
  | 6, _ => rfl
  | 7, _ => rfl
  | 8, _ => rfl
  | 9, _ => rfl
  | 10, _ => rfl
  | 11, _ => rfl
  | 12, _ => rfl⟩
theorem nw_RX11_301 : pm_NW RX11 301 8 13 [.null, .int 0, .int 0, .int 0, .int 0, .int 0, .int 0, .int 0, .int 0, .int 0, .int 0, .int 0, .int 0] := ⟨(RX8, TX8, 13), tyX8, rfl, rfl, pm_CLw cl_8 rfl, tyX8_ok, kw_476, kw_477, kw_58, fun j hj => match j, hj with
  | 0, _ => rfl
  | 1, _ => rfl
  | 2, _ => rfl
  | 3, _ => rfl
  | 4, _ => rfl
  | 5, _ => rfl
  | 6, _ => rfl
  | 7, _ => rfl
  | 8, _ => rfl
  | 9, _ => rfl
  | 10, _ => rfl
  | 11, _ => rfl
  | 12, _ => rfl⟩
theorem nw_RX11_304 : pm_NW RX11 304 7 13 [.null, .int 0, .int 0, .int 0, .int 0, .int 0, .int 0, .int 0, .int 0, .int 0, .int 0, .int 0, .int 0] := ⟨(RX7, TX7, 13), tyX7, rfl, rfl, pm_CLw cl_7 rfl, tyX7_ok, kw_496, kw_497, kw_59, fun j hj => match j, hj with
  | 0, _ => rfl
  | 1, _ => rfl
  | 2, _ => rfl
  | 3, _ => rfl
  | 4, _ => rfl
  | 5, _ => rfl
  | 6, _ => rfl
  | 7, _ => rfl
  | 8, _ => rfl
  | 9, _ => rfl
  | 10, _ => rfl
  | 11, _ => rfl
  | 12, _ => rfl⟩
theorem nw_RL_10 : pm_NW RL 10 12 44 [.null, .int 0, .int 0, .null, .null, .null, .int 0, .int 0, .int 0, .int 0, .null, .int 0, .null, .null, .null, .null, .null, .null, .null, .null, .null, .int 0, .int 0, .int 0, .int 0, .int 0, .int 0, .null, .null, .null, .int 0, .int 0, .null, .int 0, .int 0, .null, .null, .null, .null, .null, .int 0, .int 0, .int 0, .long 0] := ⟨(RX12, TX12, 44), tyX12, rfl, rfl, pm_CLw cl_12 rfl, tyX12_ok, kw_952, kw_953, kw_53, fun j hj => match j, hj with
  | 0, _ => rfl
  | 1, _ => rfl
  | 2, _ => rfl
  | 3, _ => rfl
  | 4, _ => rfl
  | 5, _ => rfl
  | 6, _ => rfl
  | 7, _ => rfl
  | 8, _ => rfl
  | 9, _ => rfl
  | 10, _ => rfl
  | 11, _ => rfl
  | 12, _ => rfl
  | 13, _ => rfl
  | 14, _ => rfl
  | 15, _ => rfl
  | 16, _ => rfl
  | 17, _ => rfl
  | 18, _ => rfl
  | 19, _ => rfl
  | 20, _ => rfl
  | 21, _ => rfl
  | 22, _ => rfl
  | 23, _ => rfl
  | 24, _ => rfl
  | 25, _ => rfl
  | 26, _ => rfl
  | 27, _ => rfl
  | 28, _ => rfl
  | 29, _ => rfl
  | 30, _ => rfl
  | 31, _ => rfl
  | 32, _ => rfl
  | 33, _ => rfl
  | 34, _ => rfl
  | 35, _ => rfl
  | 36, _ => rfl
  | 37, _ => rfl
  | 38, _ => rfl
  | 39, _ => rfl
  | 40, _ => rfl
  | 41, _ => rfl
  | 42, _ => rfl
  | 43, _ => rfl
  | n + 44, h => absurd h (by show ¬ n + 44 < 44; omega)⟩
