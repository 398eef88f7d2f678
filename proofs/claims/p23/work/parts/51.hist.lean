theorem rf_s (v : Nat) : va_rf (some v) = .ref v := rfl
def Hou (m : xM) (a : Nat) (r : Row) : Prop := ∃ (S : Nat) (q ri tr ft : Nat → Int32), HA m a q ri tr ft ∧ RR S q ri tr ft r
def HouX (m : xM) (a : Nat) : Prop := ∃ q ri tr ft : Nat → Int32, HA m a q ri tr ft
theorem Hou.x {m : xM} {a : Nat} {r : Row} (h : Hou m a r) : HouX m a := by
  obtain ⟨S, q, ri, tr, ft, h1, -⟩ := h
  exact ⟨q, ri, tr, ft, h1⟩
theorem Hou.cg {m : xM} {a : Nat} {r r' : Row} (h : Hou m a r) (e : REq r r') : Hou m a r' := by
  obtain ⟨S, q, ri, tr, ft, h1, h2⟩ := h
  exact ⟨S, q, ri, tr, ft, h1, h2.cg e⟩
theorem Hou.fr {m m' : xM} {a : Nat} {r : Row} (h : Hou m a r) (e : ∀ x, a ≤ x → x < a + 7 → m' x = m x) : Hou m' a r := by
  obtain ⟨S, q, ri, tr, ft, h1, h2⟩ := h
  exact ⟨S, q, ri, tr, ft, h1.frame e, h2⟩
theorem HouX.fr {m m' : xM} {a : Nat} (h : HouX m a) (e : ∀ x, a ≤ x → x < a + 7 → m' x = m x) : HouX m' a := by
  obtain ⟨q, ri, tr, ft, h1⟩ := h
  exact ⟨q, ri, tr, ft, h1.frame e⟩
theorem p_copyHouse {h : xH} {a a2 : Nat} {r : Row} (hX : HouX h.2 a) (hH : Hou h.2 a2 r) (hd : a + 7 ≤ a2 ∨ a2 + 7 ≤ a) : ∃ m', cl 71 [.ref a2, .ref a] h = some (none, (h.1, m')) ∧ Hou m' a r ∧ ∀ x, (x < a ∨ a + 7 ≤ x) → m' x = h.2 x := by
  obtain ⟨q, ri, tr, ft, h1⟩ := hX
  obtain ⟨S, q2, ri2, tr2, ft2, h2, hR⟩ := hH
  obtain ⟨m', e, hA, hf⟩ := p_becomeHouse h1 h2 hd
  have k1 := h1.1
  refine ⟨m', ?_, ⟨S, _, _, _, _, hA, ?_⟩, hf⟩
  · simp only [c71, q71_0, q71_0N, q71_1, q71_1N, q71_4, q71_4N, q71_5, q71_5N, q71_8, q71_8N, q71_9, q71_9N, q71_10, q71_13, rv_v, rv_n, rh_v, mu_at, isF_r, isK_r, fld_r, fset_r, gd0, gd1, gd2, gd3, gd4, gd5, gd6, gd7, gd8, gd9, gd10, gd11, gd12, gd13, inA_l, inW_l, inZ_l, inQ_l, aget_l, aset_l, qget_l, qset_l, isA_l, isA_q, alen_l, k2_i, k2_a, k2_n, k2_u, k2_l, ite_si, Option.isSome_some, List.cons_append, List.nil_append, List.length_cons, List.length_nil, Nat.reduceAdd, Nat.zero_add, Nat.reduceLT, Nat.reduceEqDiff, decide_true, decide_false, Bool.and_self, Bool.and_true, Bool.true_and, ↓reduceIte, List.set_cons_zero, List.set_cons_succ, Nat.reduceSub, Nat.add_left_cancel_iff, Nat.add_eq_left, Nat.left_eq_add, not_true_eq_false, not_false_eq_true, reduceCtorEq, i10, i01, ib10, ib01, beq_self_eq_true, eq_self, Int32.reduceLT, Int32.reduceToNatClampNeg, Int32.reduceAdd, Int32.reduceSub, Int32.reduceMul, Bool.or_true, Bool.true_or, Bool.or_false, Bool.false_or, Nat.reduceBEq, Nat.reduceMul, k1, e]
  · obtain ⟨g1, g2, g3, g4, g5⟩ := hR
    refine ⟨g1, g2, g3, fun k hk => ?_, fun k hk => ?_⟩
    · unfold cp
      rw [if_pos (by omega), if_pos (by omega)]
      exact g4 k hk
    · unfold cp
      rw [if_pos (by omega)]
      exact g5 k hk
/-- the history: a ring of six houses -/
def His (m : xM) (a : Nat) (L : List Row) : Prop := ∃ (nx : Nat) (hf : Nat → Option Nat), nx < 6 ∧ L.length ≤ 6 ∧ m a = .inr (1, [.ref (a + 1), .int (nI nx), .int (nI L.length)]) ∧ m (a + 1) = .inl (2, 6, .inr (.inr (.inr (.inr hf)))) ∧ (∀ i, i < 6 → hf i = some (a + 2 + 7 * i)) ∧ (∀ i, i < 6 → HouX m (a + 2 + 7 * i)) ∧ ∀ (j : Nat) (x : Row), L[j]? = some x → Hou m (a + 2 + 7 * ((nx + 6 - L.length + j) % 6)) x
theorem His.fr {m m' : xM} {a : Nat} {L : List Row} (h : His m a L) (e : ∀ x, a ≤ x → x < a + 44 → m' x = m x) : His m' a L := by
  obtain ⟨nx, hf, h1, h2, h3, h4, h5, h6, h7⟩ := h
  refine ⟨nx, hf, h1, h2, by rw [e _ (by omega) (by omega)]; exact h3, by rw [e _ (by omega) (by omega)]; exact h4, h5, fun i hi => (h6 i hi).fr (fun x g1 g2 => e x (by omega) (by omega)), fun j x hj => (h7 j x hj).fr (fun x g1 g2 => e x (by omega) ?_)⟩
  have := Nat.mod_lt (nx + 6 - L.length + j) (show 0 < 6 by omega)
  omega
theorem p_houseAt {h : xH} {a nx : Nat} {hf : Nat → Option Nat} (hn : nx < 6) (h4 : h.2 a = .inl (2, 6, .inr (.inr (.inr (.inr hf))))) {v : Nat} (h5 : hf nx = some v) : cl 70 [.ref a, .int (nI nx)] h = some (some (.ref v), h) := by
  have c0 : ¬ nI nx < 0 := nI_pos (by omega)
  have c1 : nI nx < Int32.ofNat 6 := nI_lt (b := 6) hn (by decide)
  have c2 : (nI nx).toNatClampNeg = nx := nI_clamp (by omega)
  simp only [c70, q70_0, q70_1, q70_4, q70_5, q70_5N, q70_6, q70_7, q70_10, q70_10N, q70_11, q70_12, q70_13, q70_16, q70_17, q70_17N, rv_v, rv_n, rh_v, mu_at, isF_r, isK_r, fld_r, fset_r, gd0, gd1, gd2, gd3, gd4, gd5, gd6, gd7, gd8, gd9, gd10, gd11, gd12, gd13, inA_l, inW_l, inZ_l, inQ_l, aget_l, aset_l, qget_l, qset_l, isA_l, isA_q, alen_l, k2_i, k2_a, k2_n, k2_u, k2_l, ite_si, Option.isSome_some, List.cons_append, List.nil_append, List.length_cons, List.length_nil, Nat.reduceAdd, Nat.zero_add, Nat.reduceLT, Nat.reduceEqDiff, decide_true, decide_false, Bool.and_self, Bool.and_true, Bool.true_and, ↓reduceIte, List.set_cons_zero, List.set_cons_succ, Nat.reduceSub, Nat.add_left_cancel_iff, Nat.add_eq_left, Nat.left_eq_add, not_true_eq_false, not_false_eq_true, reduceCtorEq, i10, i01, ib10, ib01, beq_self_eq_true, eq_self, Int32.reduceLT, Int32.reduceToNatClampNeg, Int32.reduceAdd, Int32.reduceSub, Int32.reduceMul, Bool.or_true, Bool.true_or, Bool.or_false, Bool.false_or, Nat.reduceBEq, Nat.reduceMul, h4, c0, c1, c2, hn, h5, rf_s]
theorem p_keep {h : xH} {a b : Nat} {L : List Row} {r : Row} (hH : His h.2 a L) (hR : Hou h.2 b r) (hd : b + 7 ≤ a ∨ a + 44 ≤ b) : ∃ m', cl 5 [.ref a, .ref b] h = some (none, (h.1, m')) ∧ His m' a (pushH L r) ∧ ∀ x, (x < a ∨ a + 44 ≤ x) → m' x = h.2 x := by
  obtain ⟨nx, hf, h1, h2, h3, h4, h5, h6, h7⟩ := hH
  have e1 := p_houseAt (h := h) h1 h4 (h5 nx h1)
  obtain ⟨m1, e2, g1, g2⟩ := p_copyHouse (h := h) (h6 nx h1) hR (by omega)
  have k3 : m1 a = _ := (g2 a (by omega)).trans h3
  have k4 : m1 (a + 1) = _ := (g2 (a + 1) (by omega)).trans h4
  have en : nI nx + 1 = nI (nx + 1) := nI_1 nx
  have el : nI L.length + 1 = nI (L.length + 1) := nI_1 L.length
  have em : (if 6 < nI (L.length + 1) then 6 else nI (L.length + 1)) = nI (pushH L r).length := by
    unfold pushH
    by_cases h6 : L.length = 6
    · rw [if_pos h6, h6]
      simp
      rw [h6]
      decide
    · rw [if_neg h6, if_neg (show ¬ (6 : Int32) < nI (L.length + 1) from nI_nlt (a := 6) (by omega) (by decide))]
      simp
  have hp : (pushH L r).length ≤ 6 := by unfold pushH; split <;> simp <;> omega
  have key : ∀ nx' : Nat, nx' = (nx + 1) % 6 → His (mu m1 a (.inr (1, [.ref (a + 1), .int (nI nx'), .int (nI (pushH L r).length)]))) a (pushH L r) := by
    intro nx' hnx
    refine ⟨nx', hf, by omega, hp, mu_s _ _ _, by rw [mu_n _ _ (by omega)]; exact k4, h5, fun i hi => ?_, fun j x hj => ?_⟩
    · by_cases hz : i = nx
      · subst hz
        exact g1.x.fr (fun x q1 q2 => mu_n _ _ (by omega))
      · exact (h6 i hi).fr (fun x q1 q2 => by rw [mu_n _ _ (by omega)]; exact g2 x (by omega))
    · have hlt := (List.getElem?_eq_some_iff.mp hj).1
      have old : ∀ j' : Nat, L[j']? = some x → (nx' + 6 - (pushH L r).length + j) % 6 = (nx + 6 - L.length + j') % 6 → ¬ (nx + 6 - L.length + j') % 6 = nx → Hou (mu m1 a (.inr (1, [.ref (a + 1), .int (nI nx'), .int (nI (pushH L r).length)]))) (a + 2 + 7 * ((nx' + 6 - (pushH L r).length + j) % 6)) x := by
        intro j' hj' hi hne
        rw [hi]
        have hm := Nat.mod_lt (nx + 6 - L.length + j') (show 0 < 6 by omega)
        exact (h7 j' x hj').fr (fun y q1 q2 => by rw [mu_n _ _ (by omega)]; exact g2 y (by omega))
      have new : x = r → (nx' + 6 - (pushH L r).length + j) % 6 = nx → Hou (mu m1 a (.inr (1, [.ref (a + 1), .int (nI nx'), .int (nI (pushH L r).length)]))) (a + 2 + 7 * ((nx' + 6 - (pushH L r).length + j) % 6)) x := by
        intro hx hi
        rw [hi, hx]
        exact g1.fr (fun y q1 q2 => mu_n _ _ (by omega))
      by_cases hs : L.length = 6
      · have hl : (pushH L r).length = 6 := by unfold pushH; rw [if_pos hs]; simp; omega
        unfold pushH at hj
        rw [if_pos hs] at hj
        by_cases hz : j = 5
        · subst hz
          rw [List.getElem?_append_right (by simp; omega)] at hj
          exact new (by simp [hs] at hj; exact hj.symm) (by rw [hl]; omega)
        · rw [List.getElem?_append_left (by simp; omega), List.getElem?_tail] at hj
          exact old (j + 1) hj (by rw [hl, hs]; omega) (by rw [hs]; omega)
      · have hl : (pushH L r).length = L.length + 1 := by unfold pushH; rw [if_neg hs]; simp
        unfold pushH at hj
        rw [if_neg hs] at hj
        by_cases hz : j = L.length
        · subst hz
          exact new (by simp at hj; exact hj.symm) (by rw [hl]; omega)
        · rw [List.getElem?_append_left (by omega)] at hj
          exact old j hj (by rw [hl]; omega) (by omega)
  by_cases hc : nx + 1 < 6
  · have c1 : nI (nx + 1) < 6 := nI_lt (b := 6) hc (by decide)
    refine ⟨_, ?_, key (nx + 1) (by omega), fun x hx => by rw [mu_n _ _ (by omega)]; exact g2 x (by omega)⟩
    simp only [c5, q5_0, q5_0N, q5_1, q5_2, q5_5, q5_6, q5_9, q5_12, q5_15, q5_16, q5_17, q5_20, q5_21, q5_22, q5_24, q5_27, q5_28, q5_31, q5_32, q5_33, q5_36, q5_37, q5_40, q5_41, q5_42, q5_45, q5_46, q5_47, q5_49, q5_52, q5_55, rv_v, rv_n, rh_v, mu_at, isF_r, isK_r, fld_r, fset_r, gd0, gd1, gd2, gd3, gd4, gd5, gd6, gd7, gd8, gd9, gd10, gd11, gd12, gd13, inA_l, inW_l, inZ_l, inQ_l, aget_l, aset_l, qget_l, qset_l, isA_l, isA_q, alen_l, k2_i, k2_a, k2_n, k2_u, k2_l, ite_si, Option.isSome_some, List.cons_append, List.nil_append, List.length_cons, List.length_nil, Nat.reduceAdd, Nat.zero_add, Nat.reduceLT, Nat.reduceEqDiff, decide_true, decide_false, Bool.and_self, Bool.and_true, Bool.true_and, ↓reduceIte, List.set_cons_zero, List.set_cons_succ, Nat.reduceSub, Nat.add_left_cancel_iff, Nat.add_eq_left, Nat.left_eq_add, not_true_eq_false, not_false_eq_true, reduceCtorEq, i10, i01, ib10, ib01, beq_self_eq_true, eq_self, Int32.reduceLT, Int32.reduceToNatClampNeg, Int32.reduceAdd, Int32.reduceSub, Int32.reduceMul, Bool.or_true, Bool.true_or, Bool.or_false, Bool.false_or, Nat.reduceBEq, Nat.reduceMul, h3, e1, e2, k3, en, el, if_pos c1, em, mu_mu]
  · have c1 : ¬ nI (nx + 1) < 6 := nI_nlt (b := 6) (by omega) (by omega)
    refine ⟨_, ?_, key 0 (by omega), fun x hx => by rw [mu_n _ _ (by omega)]; exact g2 x (by omega)⟩
    simp only [c5, q5_0, q5_0N, q5_1, q5_2, q5_5, q5_6, q5_9, q5_12, q5_15, q5_16, q5_17, q5_20, q5_21, q5_22, q5_24, q5_27, q5_28, q5_31, q5_32, q5_33, q5_36, q5_37, q5_40, q5_41, q5_42, q5_45, q5_46, q5_47, q5_49, q5_52, q5_55, rv_v, rv_n, rh_v, mu_at, isF_r, isK_r, fld_r, fset_r, gd0, gd1, gd2, gd3, gd4, gd5, gd6, gd7, gd8, gd9, gd10, gd11, gd12, gd13, inA_l, inW_l, inZ_l, inQ_l, aget_l, aset_l, qget_l, qset_l, isA_l, isA_q, alen_l, k2_i, k2_a, k2_n, k2_u, k2_l, ite_si, Option.isSome_some, List.cons_append, List.nil_append, List.length_cons, List.length_nil, Nat.reduceAdd, Nat.zero_add, Nat.reduceLT, Nat.reduceEqDiff, decide_true, decide_false, Bool.and_self, Bool.and_true, Bool.true_and, ↓reduceIte, List.set_cons_zero, List.set_cons_succ, Nat.reduceSub, Nat.add_left_cancel_iff, Nat.add_eq_left, Nat.left_eq_add, not_true_eq_false, not_false_eq_true, reduceCtorEq, i10, i01, ib10, ib01, beq_self_eq_true, eq_self, Int32.reduceLT, Int32.reduceToNatClampNeg, Int32.reduceAdd, Int32.reduceSub, Int32.reduceMul, Bool.or_true, Bool.true_or, Bool.or_false, Bool.false_or, Nat.reduceBEq, Nat.reduceMul, h3, e1, e2, k3, en, el, if_neg c1, em, mu_mu]
    rfl