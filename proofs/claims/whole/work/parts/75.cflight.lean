theorem mu_id {m : xM} {q : Nat} {x : va_E} (h : m q = x) : mu m q x = m := by
  funext y
  by_cases hy : y = q
  · subst hy; rw [mu_s, h]
  · rw [mu_n _ _ hy]
/-- the stairs that a text tells, as far as there is room -/
def PS (m : xM) (b : Nat) (P : List (Int32 × Int32)) : Prop := ∃ (n : Nat) (ri tr ft : Nat → Int32), SA m b (b + 1) (b + 2) (b + 3) (nI n) ri tr ft ∧ n = min P.length 20 ∧ ∀ (j : Nat) (p : Int32 × Int32), j < n → P[j]? = some p → ri j = p.1 ∧ tr j = p.2
theorem PS.fr {m m' : xM} {b : Nat} {P : List (Int32 × Int32)} (h : PS m b P) (e : ∀ x, b ≤ x → x < b + 4 → m' x = m x) : PS m' b P := by
  obtain ⟨n, ri, tr, ft, h1, h2, h3⟩ := h
  exact ⟨n, ri, tr, ft, h1.fr (fun x hx => e x (by omega) (by omega)), h2, h3⟩
theorem p_add1 {h : xH} {b : Nat} {P : List (Int32 × Int32)} (hS : PS h.2 b P) (x y : Int32) : ∃ m', cl 50 [.ref b, .int x, .int y] h = some (none, (h.1, m')) ∧ PS m' b (P ++ [(x, y)]) ∧ ∀ q, (q < b ∨ b + 4 ≤ q) → m' q = h.2 q := by
  obtain ⟨n, ri, tr, ft, h1, h2, h3⟩ := hS
  have hlen : (P ++ [(x, y)]).length = P.length + 1 := by simp
  by_cases hn : n < 20
  · refine ⟨_, p_addStep h1 hn (by omega) (by omega) (by omega) (by omega) (by omega) (by omega), ⟨n + 1, _, _, _, SA.add (S := n) (x := x) (y := y) (by omega) (by omega) (by omega) (by omega) (by omega) (by omega), by omega, fun j p hj hp => ?_⟩, fun q hq => by rw [mu_n _ _ (by omega), mu_n _ _ (by omega), mu_n _ _ (by omega), mu_n _ _ (by omega)]⟩
    by_cases hz : j = n
    · have hl : n = P.length := by omega
      rw [hz, hl, List.getElem?_append_right (Nat.le_refl _), Nat.sub_self] at hp
      cases hp
      rw [hz, upd_s, upd_s]
      exact ⟨rfl, rfl⟩
    · rw [List.getElem?_append_left (by omega)] at hp
      rw [upd_n _ _ hz, upd_n _ _ hz]
      exact h3 j p (by omega) hp
  · have e : n = 20 := by omega
    rw [e] at h1
    refine ⟨h.2, p_addFull h1, ⟨20, ri, tr, ft, h1, by omega, fun j p hj hp => ?_⟩, fun _ _ => rfl⟩
    rw [List.getElem?_append_left (by omega)] at hp
    exact h3 j p (by omega) hp
section
variable {a s W : Nat} {L : List Int32} {z : Nat × Nat}
theorem p_addLoop {kk : Nat} (hk : kk < 1000) (x y : Int32) {v1 v2 : Value} : ∀ (d i : Nat) (P : List (Int32 × Int32)) (m : xM), i + d = kk → m (a + 77) = .inr (4, [.ref (a + 77 + 1), v1, v2]) → PS m (a + 77 + 1) P → ∃ m', rn 42 13 [.ref (a + 77), .int (nI kk), .int x, .int y, .int (nI i)] [] (z, m) = some (none, (z, m')) ∧ PS m' (a + 77 + 1) (P ++ List.replicate d (x, y)) ∧ ∀ q, (q < a + 78 ∨ a + 82 ≤ q) → m' q = m q := by
  intro d
  induction d with
  | zero =>
    intro i P m hi h1 hS
    obtain rfl : i = kk := by omega
    have c1 : ¬ nI i < nI i := Int32.lt_irrefl
    refine ⟨m, ?_, by rw [List.replicate_zero, List.append_nil]; exact hS, fun _ _ => rfl⟩
    rw [q42_13]
    simp only [q42_0, q42_1, q42_2, q42_5, q42_6, q42_7, q42_10, q42_11, q42_15, q42_16, q42_19, q42_20, q42_23, q42_24, q42_25, q42_28, q42_31, q42_34, rv_v, rv_n, rh_v, mu_at, isF_r, isK_r, fld_r, fset_r, gd0, gd1, gd2, gd3, gd4, gd5, gd6, gd7, gd8, gd9, gd10, gd11, gd12, gd13, inA_l, inW_l, inZ_l, inQ_l, aget_l, aset_l, qget_l, qset_l, isA_l, isA_q, alen_l, k2_i, k2_a, k2_n, k2_u, k2_l, ite_si, Option.isSome_some, List.cons_append, List.nil_append, List.length_cons, List.length_nil, Nat.reduceAdd, Nat.zero_add, Nat.reduceLT, Nat.reduceEqDiff, decide_true, decide_false, Bool.and_self, Bool.and_true, Bool.true_and, ↓reduceIte, List.set_cons_zero, List.set_cons_succ, Nat.reduceSub, Nat.add_left_cancel_iff, Nat.add_eq_left, Nat.left_eq_add, not_true_eq_false, not_false_eq_true, reduceCtorEq, i10, i01, ib10, ib01, beq_self_eq_true, eq_self, Int32.reduceLT, Int32.reduceToNatClampNeg, Int32.reduceAdd, Int32.reduceSub, Int32.reduceMul, Bool.or_true, Bool.true_or, Bool.or_false, Bool.false_or, Nat.reduceBEq, Nat.reduceMul, c1]
  | succ d ih =>
    intro i P m hi h1 hS
    have c1 : nI i < nI kk := nI_lt (by omega) (by omega)
    obtain ⟨m1, e1, g1, f1⟩ := p_add1 (h := (z, m)) hS x y
    obtain ⟨m2, e2, g2, f2⟩ := ih (i + 1) (P ++ [(x, y)]) m1 (by omega) ((f1 _ (by omega)).trans h1) g1
    have hs : ∃ w1 w2 w3 w4 : Value, m (a + 77 + 1) = .inr (6, [w1, w2, w3, w4]) := by
      obtain ⟨n, ri, tr, ft, q1, -⟩ := hS
      exact ⟨_, _, _, _, q1.1⟩
    obtain ⟨w1, w2, w3, w4, hs⟩ := hs
    refine ⟨m2, ?_, ?_, fun q hq => (f2 q hq).trans (f1 q (by omega))⟩
    · rw [q42_13]
      simp only [q42_0, q42_1, q42_2, q42_5, q42_6, q42_7, q42_10, q42_11, q42_15, q42_16, q42_19, q42_20, q42_23, q42_24, q42_25, q42_28, q42_31, q42_34, rv_v, rv_n, rh_v, mu_at, isF_r, isK_r, fld_r, fset_r, gd0, gd1, gd2, gd3, gd4, gd5, gd6, gd7, gd8, gd9, gd10, gd11, gd12, gd13, inA_l, inW_l, inZ_l, inQ_l, aget_l, aset_l, qget_l, qset_l, isA_l, isA_q, alen_l, k2_i, k2_a, k2_n, k2_u, k2_l, ite_si, Option.isSome_some, List.cons_append, List.nil_append, List.length_cons, List.length_nil, Nat.reduceAdd, Nat.zero_add, Nat.reduceLT, Nat.reduceEqDiff, decide_true, decide_false, Bool.and_self, Bool.and_true, Bool.true_and, ↓reduceIte, List.set_cons_zero, List.set_cons_succ, Nat.reduceSub, Nat.add_left_cancel_iff, Nat.add_eq_left, Nat.left_eq_add, not_true_eq_false, not_false_eq_true, reduceCtorEq, i10, i01, ib10, ib01, beq_self_eq_true, eq_self, Int32.reduceLT, Int32.reduceToNatClampNeg, Int32.reduceAdd, Int32.reduceSub, Int32.reduceMul, Bool.or_true, Bool.true_or, Bool.or_false, Bool.false_or, Nat.reduceBEq, Nat.reduceMul, h1, hs, c1, e1, nI_1, e2]
    · rw [List.append_assoc] at g2
      exact g2
theorem p_addSteps {kk : Nat} {m : xM} {P : List (Int32 × Int32)} (hk : kk < 1000) (x y : Int32) (hS : PS m (a + 77 + 1) P) : ∃ m', cl 42 [.ref (a + 77), .int (nI kk), .int x, .int y] (z, mu m (a + 77) (.inr (4, [.ref (a + 77 + 1), .int (nI (W)), .int (nI s)]))) = some (none, (z, mu m' (a + 77) (.inr (4, [.ref (a + 77 + 1), .int (nI (W + kk)), .int (nI s)])))) ∧ PS m' (a + 77 + 1) (P ++ List.replicate kk (x, y)) ∧ ∀ q, (q < a + 77 ∨ a + 82 ≤ q) → m' q = m q := by
  have hS' : PS (mu m (a + 77) (.inr (4, [.ref (a + 77 + 1), .int (nI (W + kk)), .int (nI s)]))) (a + 77 + 1) P := hS.fr (fun x q1 q2 => mu_n _ _ (by omega))
  obtain ⟨m1, e1, g1, f1⟩ := p_addLoop (a := a) (z := z) hk x y kk 0 P _ (by omega) (mu_s _ _ _) hS'
  have e0 : m1 (a + 77) = (.inr (4, [.ref (a + 77 + 1), .int (nI (W + kk)), .int (nI s)])) := (f1 _ (by omega)).trans (mu_s _ _ _)
  have ea : nI W + nI kk = nI (W + kk) := nI_add _ _
  refine ⟨m1, ?_, g1, fun q hq => by rw [f1 q (by omega), mu_n _ _ (by omega)]⟩
  rw [mu_id e0, ← e1]
  simp only [c42, q42_0, q42_1, q42_2, q42_5, q42_6, q42_7, q42_10, q42_11, q42_15, q42_16, q42_19, q42_20, q42_23, q42_24, q42_25, q42_28, q42_31, q42_34, rv_v, rv_n, rh_v, mu_at, isF_r, isK_r, fld_r, fset_r, gd0, gd1, gd2, gd3, gd4, gd5, gd6, gd7, gd8, gd9, gd10, gd11, gd12, gd13, inA_l, inW_l, inZ_l, inQ_l, aget_l, aset_l, qget_l, qset_l, isA_l, isA_q, alen_l, k2_i, k2_a, k2_n, k2_u, k2_l, ite_si, Option.isSome_some, List.cons_append, List.nil_append, List.length_cons, List.length_nil, Nat.reduceAdd, Nat.zero_add, Nat.reduceLT, Nat.reduceEqDiff, decide_true, decide_false, Bool.and_self, Bool.and_true, Bool.true_and, ↓reduceIte, List.set_cons_zero, List.set_cons_succ, Nat.reduceSub, Nat.add_left_cancel_iff, Nat.add_eq_left, Nat.left_eq_add, not_true_eq_false, not_false_eq_true, reduceCtorEq, i10, i01, ib10, ib01, beq_self_eq_true, eq_self, Int32.reduceLT, Int32.reduceToNatClampNeg, Int32.reduceAdd, Int32.reduceSub, Int32.reduceMul, Bool.or_true, Bool.true_or, Bool.or_false, Bool.false_or, Nat.reduceBEq, Nat.reduceMul, ea, mu_mu]
  rfl
theorem p_fT {kk : Nat} {x : Int32} {m : xM} {P : List (Int32 × Int32)} (hk : kk < 1000) (hx : bw x 10 25 = 0 ↔ x < 10) (hs : s ≤ L.length) (hP : Pd m (a + 75) L) (hS : PS m (a + 77 + 1) P) (v4 : Value) :
    ((fT L (nI kk) x s).1 = none → rn 41 43 [.ref (a + 77), .ref (a + 75), .int (nI kk), .int x, v4] [] (z, mu m (a + 77) (.inr (4, [.ref (a + 77 + 1), .int (nI W), .int (nI s)]))) = some (some (.int 0), (z, mu m (a + 77) (.inr (4, [.ref (a + 77 + 1), .int (nI W), .int (nI (fT L (nI kk) x s).2)]))))) ∧ ∀ o, (fT L (nI kk) x s).1 = some o → o.1 = nI kk ∧ ∃ m', rn 41 43 [.ref (a + 77), .ref (a + 75), .int (nI kk), .int x, v4] [] (z, mu m (a + 77) (.inr (4, [.ref (a + 77 + 1), .int (nI W), .int (nI s)]))) = some (some (.int 1), (z, mu m' (a + 77) (.inr (4, [.ref (a + 77 + 1), .int (nI (W + kk)), .int (nI (fT L (nI kk) x s).2)])))) ∧ PS m' (a + 77 + 1) (P ++ List.replicate kk (o.2.1, o.2.2)) ∧ ∀ q, (q < a + 77 ∨ a + 82 ≤ q) → m' q = m q := by
  have q1 := hP.1
  unfold fT
  by_cases ha : x < 10
  · have hb := hx.mpr ha
    rw [if_pos ha]
    refine ⟨fun _ => ?_, fun o h => by cases h⟩
    simp only [q41_1, q41_2, q41_3, q41_3N, q41_4, q41_5, q41_7, q41_10, q41_11, q41_12, q41_13, q41_15, q41_18, q41_21, q41_22, q41_22N, q41_23, q41_25, q41_28, q41_31, q41_32, q41_33, q41_34, q41_34N, q41_35, q41_37, q41_39, q41_42, q41_43, q41_44, q41_46, q41_48, q41_51, q41_54, q41_55, q41_55N, q41_56, q41_58, q41_61, q41_64, q41_65, q41_66, q41_67, q41_67N, q41_68, q41_70, q41_72, q41_75, q41_77, q41_79, q41_81, q41_83, q41_86, q41_89, q41_90, q41_91, q41_92, q41_93, q41_94, q41_96, q41_99, q41_100, rv_v, rv_n, rh_v, mu_at, isF_r, isK_r, fld_r, fset_r, gd0, gd1, gd2, gd3, gd4, gd5, gd6, gd7, gd8, gd9, gd10, gd11, gd12, gd13, inA_l, inW_l, inZ_l, inQ_l, aget_l, aset_l, qget_l, qset_l, isA_l, isA_q, alen_l, k2_i, k2_a, k2_n, k2_u, k2_l, ite_si, Option.isSome_some, List.cons_append, List.nil_append, List.length_cons, List.length_nil, Nat.reduceAdd, Nat.zero_add, Nat.reduceLT, Nat.reduceEqDiff, decide_true, decide_false, Bool.and_self, Bool.and_true, Bool.true_and, ↓reduceIte, List.set_cons_zero, List.set_cons_succ, Nat.reduceSub, Nat.add_left_cancel_iff, Nat.add_eq_left, Nat.left_eq_add, not_true_eq_false, not_false_eq_true, reduceCtorEq, i10, i01, ib10, ib01, beq_self_eq_true, eq_self, Int32.reduceLT, Int32.reduceToNatClampNeg, Int32.reduceAdd, Int32.reduceSub, Int32.reduceMul, Bool.or_true, Bool.true_or, Bool.or_false, Bool.false_or, Nat.reduceBEq, Nat.reduceMul, p_isWithin, if_pos hb]
  · have hb : ¬ bw x 10 25 = 0 := fun q => ha (hx.mp q)
    rw [if_neg ha]
    by_cases hc : sg L s = 47
    · rw [if_pos hc]
      have e1 := p_signY (z := z) (w := nI W) hc hs hP
      have hlt : s + 1 ≤ L.length := sg_lt (fun q => by rw [q] at hc; exact absurd hc (by decide))
      have e2 := p_readNum (z := z) (w := nI W) 15 40 hlt hP
      rw [nE_3] at e2
      have hk3 := ok_3 (sg L (s + 1)) (sg L (s + 1 + 1))
      generalize rd 15 40 0 (sg L (s + 1)) (sg L (s + 1 + 1)) = R at *
      obtain ⟨y, v, o⟩ := R
      dsimp only at *
      rw [decide_eq_true_iff] at hk3
      by_cases hd : o = 0
      · have hy := hk3.mp hd
        rw [if_pos hd]
        refine ⟨fun _ => ?_, fun o h => by cases h⟩
        simp only [q41_1, q41_2, q41_3, q41_3N, q41_4, q41_5, q41_7, q41_10, q41_11, q41_12, q41_13, q41_15, q41_18, q41_21, q41_22, q41_22N, q41_23, q41_25, q41_28, q41_31, q41_32, q41_33, q41_34, q41_34N, q41_35, q41_37, q41_39, q41_42, q41_43, q41_44, q41_46, q41_48, q41_51, q41_54, q41_55, q41_55N, q41_56, q41_58, q41_61, q41_64, q41_65, q41_66, q41_67, q41_67N, q41_68, q41_70, q41_72, q41_75, q41_77, q41_79, q41_81, q41_83, q41_86, q41_89, q41_90, q41_91, q41_92, q41_93, q41_94, q41_96, q41_99, q41_100, rv_v, rv_n, rh_v, mu_at, isF_r, isK_r, fld_r, fset_r, gd0, gd1, gd2, gd3, gd4, gd5, gd6, gd7, gd8, gd9, gd10, gd11, gd12, gd13, inA_l, inW_l, inZ_l, inQ_l, aget_l, aset_l, qget_l, qset_l, isA_l, isA_q, alen_l, k2_i, k2_a, k2_n, k2_u, k2_l, ite_si, Option.isSome_some, List.cons_append, List.nil_append, List.length_cons, List.length_nil, Nat.reduceAdd, Nat.zero_add, Nat.reduceLT, Nat.reduceEqDiff, decide_true, decide_false, Bool.and_self, Bool.and_true, Bool.true_and, ↓reduceIte, List.set_cons_zero, List.set_cons_succ, Nat.reduceSub, Nat.add_left_cancel_iff, Nat.add_eq_left, Nat.left_eq_add, not_true_eq_false, not_false_eq_true, reduceCtorEq, i10, i01, ib10, ib01, beq_self_eq_true, eq_self, Int32.reduceLT, Int32.reduceToNatClampNeg, Int32.reduceAdd, Int32.reduceSub, Int32.reduceMul, Bool.or_true, Bool.true_or, Bool.or_false, Bool.false_or, Nat.reduceBEq, Nat.reduceMul, q1, p_isWithin, if_neg hb, e1, e2, if_pos hy]
      · have hy : ¬ bw y 15 40 = 0 := fun q => hd (hk3.mpr q)
        rw [if_neg hd]
        refine ⟨fun h => (by cases h), fun o h => ?_⟩
        cases h
        obtain ⟨m', e3, g3, f3⟩ := p_addSteps (a := a) (z := z) (s := s + 1 + v) (W := W) hk x y hS
        refine ⟨rfl, m', ?_, g3, f3⟩
        simp only [q41_1, q41_2, q41_3, q41_3N, q41_4, q41_5, q41_7, q41_10, q41_11, q41_12, q41_13, q41_15, q41_18, q41_21, q41_22, q41_22N, q41_23, q41_25, q41_28, q41_31, q41_32, q41_33, q41_34, q41_34N, q41_35, q41_37, q41_39, q41_42, q41_43, q41_44, q41_46, q41_48, q41_51, q41_54, q41_55, q41_55N, q41_56, q41_58, q41_61, q41_64, q41_65, q41_66, q41_67, q41_67N, q41_68, q41_70, q41_72, q41_75, q41_77, q41_79, q41_81, q41_83, q41_86, q41_89, q41_90, q41_91, q41_92, q41_93, q41_94, q41_96, q41_99, q41_100, rv_v, rv_n, rh_v, mu_at, isF_r, isK_r, fld_r, fset_r, gd0, gd1, gd2, gd3, gd4, gd5, gd6, gd7, gd8, gd9, gd10, gd11, gd12, gd13, inA_l, inW_l, inZ_l, inQ_l, aget_l, aset_l, qget_l, qset_l, isA_l, isA_q, alen_l, k2_i, k2_a, k2_n, k2_u, k2_l, ite_si, Option.isSome_some, List.cons_append, List.nil_append, List.length_cons, List.length_nil, Nat.reduceAdd, Nat.zero_add, Nat.reduceLT, Nat.reduceEqDiff, decide_true, decide_false, Bool.and_self, Bool.and_true, Bool.true_and, ↓reduceIte, List.set_cons_zero, List.set_cons_succ, Nat.reduceSub, Nat.add_left_cancel_iff, Nat.add_eq_left, Nat.left_eq_add, not_true_eq_false, not_false_eq_true, reduceCtorEq, i10, i01, ib10, ib01, beq_self_eq_true, eq_self, Int32.reduceLT, Int32.reduceToNatClampNeg, Int32.reduceAdd, Int32.reduceSub, Int32.reduceMul, Bool.or_true, Bool.true_or, Bool.or_false, Bool.false_or, Nat.reduceBEq, Nat.reduceMul, q1, p_isWithin, if_neg hb, e1, e2, if_neg hy, e3]
    · rw [if_neg hc]
      have e1 := p_signN (z := z) (w := nI W) hc hs hP
      refine ⟨fun _ => ?_, fun o h => by cases h⟩
      simp only [q41_1, q41_2, q41_3, q41_3N, q41_4, q41_5, q41_7, q41_10, q41_11, q41_12, q41_13, q41_15, q41_18, q41_21, q41_22, q41_22N, q41_23, q41_25, q41_28, q41_31, q41_32, q41_33, q41_34, q41_34N, q41_35, q41_37, q41_39, q41_42, q41_43, q41_44, q41_46, q41_48, q41_51, q41_54, q41_55, q41_55N, q41_56, q41_58, q41_61, q41_64, q41_65, q41_66, q41_67, q41_67N, q41_68, q41_70, q41_72, q41_75, q41_77, q41_79, q41_81, q41_83, q41_86, q41_89, q41_90, q41_91, q41_92, q41_93, q41_94, q41_96, q41_99, q41_100, rv_v, rv_n, rh_v, mu_at, isF_r, isK_r, fld_r, fset_r, gd0, gd1, gd2, gd3, gd4, gd5, gd6, gd7, gd8, gd9, gd10, gd11, gd12, gd13, inA_l, inW_l, inZ_l, inQ_l, aget_l, aset_l, qget_l, qset_l, isA_l, isA_q, alen_l, k2_i, k2_a, k2_n, k2_u, k2_l, ite_si, Option.isSome_some, List.cons_append, List.nil_append, List.length_cons, List.length_nil, Nat.reduceAdd, Nat.zero_add, Nat.reduceLT, Nat.reduceEqDiff, decide_true, decide_false, Bool.and_self, Bool.and_true, Bool.true_and, ↓reduceIte, List.set_cons_zero, List.set_cons_succ, Nat.reduceSub, Nat.add_left_cancel_iff, Nat.add_eq_left, Nat.left_eq_add, not_true_eq_false, not_false_eq_true, reduceCtorEq, i10, i01, ib10, ib01, beq_self_eq_true, eq_self, Int32.reduceLT, Int32.reduceToNatClampNeg, Int32.reduceAdd, Int32.reduceSub, Int32.reduceMul, Bool.or_true, Bool.true_or, Bool.or_false, Bool.false_or, Nat.reduceBEq, Nat.reduceMul, q1, p_isWithin, if_neg hb, e1]
theorem bw_le {x : Int32} {n : Nat} (e : x = nI n) (h : n ≤ 25) : bw x 10 25 = 0 ↔ x < 10 := by
  unfold bw
  by_cases h1 : x < 10
  · rw [if_pos h1]
    exact ⟨fun _ => h1, fun _ => rfl⟩
  · rw [if_neg h1, if_neg (by rw [e]; exact nI_nlt (a := 25) h (by decide))]
    exact ⟨fun q => absurd q (by decide), fun q => absurd q h1⟩
end
