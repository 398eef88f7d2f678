def TF (m : xM) (a S : Nat) : Prop := CO m a ∧ (∃ v1 v2 v3 v5 v6 : Value, m (a + 1) = .inr (2, [v1, v2, v3, .ref (a + 1 + 1), v5, v6])) ∧ ∃ w1 w2 w3 : Value, m (a + 1 + 1) = .inr (6, [w1, w2, w3, .int (nI S)])
/-- only the trial changes -/
def fT8 (a : Nat) (m m' : xM) : Prop := ∀ x, (x < a + 8 ∨ a + 15 ≤ x) → m' x = m x
theorem fT8.tr {a : Nat} {m m' m'' : xM} (h1 : fT8 a m m') (h2 : fT8 a m' m'') : fT8 a m m'' := fun x hx => (h2 x hx).trans (h1 x hx)
theorem TF.fr {m m' : xM} {a S : Nat} (h : TF m a S) (e : fT8 a m m') : TF m' a S := by
  obtain ⟨t1, ⟨v1, v2, v3, v5, v6, t2⟩, w1, w2, w3, t3⟩ := h
  unfold CO at t1
  refine ⟨?_, ⟨v1, v2, v3, v5, v6, ?_⟩, w1, w2, w3, ?_⟩
  · unfold CO; rw [e _ (by omega)]; exact t1
  · rw [e _ (by omega)]; exact t2
  · rw [e _ (by omega)]; exact t3
section
variable {a S t k : Nat} {z : Nat × Nat}
theorem p_t0 {m : xM} {r : Row} {i : Nat} (hT : TF m a S) (hH : Hou m (a + 8) r) (hI : RI k r) (hk : k < 1000) (h3 : r 3 = nI S) (hS : S ≤ 20) (hi : i < t) (ht : t ≤ S) (h45 : r 45 = nI i) (h50 : r 50 = nI 0) (x3 : Value) :
    (lay0 r i = none → rn 64 20 [.ref a, .int (nI t), .int (nI i), x3] [] (z, m) = some (some (.int (-6)), (z, m))) ∧ ∀ r', lay0 r i = some r' → ∃ m', rn 64 20 [.ref a, .int (nI t), .int (nI i), x3] [] (z, m) = rn 64 20 [.ref a, .int (nI t), .int (nI (i + 1)), .ref (a + 8 + 5)] [] (z, m') ∧ Hou m' (a + 8) r' ∧ fT8 a m m' := by
  obtain ⟨S', q, ri, tr, ft, hA, hR⟩ := hH; have gH := hA.1; have g5 := hA.2.2.1; have g6 := hA.2.2.2; unfold CA at g5 g6; obtain ⟨t1, ⟨v1, v2, v3, v5, v6, t2⟩, w1, w2, w3, t3⟩ := hT; unfold CO at t1; obtain rfl : S = S' := (nI_eq (by omega) (by have := hR.1; omega)).mp (h3.symm.trans hR.2.1)
  have c1 : nI i < nI S := nI_lt (by omega) (by omega)
  have c2 : nI i < nI t := nI_lt (by omega) (by omega)
  have hl : r 45 + r 50 < r 3 := by rw [h45, h50, h3, show nI i + nI 0 = nI (i + 0) from nI_add _ _]; exact c1
  have e1 := p_canLay0 (h := (z, m)) hA
  rw [CL0 hR hI hk hl h45 (by omega)] at e1
  refine ⟨fun hn => ?_, fun r' hn => ?_⟩
  · rw [hn, show oI none = 0 from rfl] at e1
    rw [q64_20]
    simp only [q64_0, q64_1, q64_4, q64_5, q64_8, q64_11, q64_12, q64_15, q64_18, q64_19, q64_21, q64_22, q64_25, q64_28, q64_31, q64_34, q64_35, q64_36, q64_39, q64_40, q64_43, q64_46, q64_49, q64_50, q64_53, q64_56, q64_56N, q64_57, q64_58, q64_61, q64_61N, q64_62, q64_65, q64_68, q64_70, q64_71, q64_72, q64_75, q64_75N, q64_76, q64_79, q64_82, q64_85, q64_86, q64_89, q64_92, rv_v, rv_n, rh_v, mu_at, isF_r, isK_r, fld_r, fset_r, gd0, gd1, gd2, gd3, gd4, gd5, gd6, gd7, gd8, gd9, gd10, gd11, gd12, gd13, inA_l, inW_l, inZ_l, inQ_l, aget_l, aset_l, qget_l, qset_l, isA_l, isA_q, alen_l, k2_i, k2_a, k2_n, k2_u, k2_l, ite_si, Option.isSome_some, List.cons_append, List.nil_append, List.length_cons, List.length_nil, Nat.reduceAdd, Nat.zero_add, Nat.reduceLT, Nat.reduceEqDiff, decide_true, decide_false, Bool.and_self, Bool.and_true, Bool.true_and, ↓reduceIte, List.set_cons_zero, List.set_cons_succ, Nat.reduceSub, Nat.add_left_cancel_iff, Nat.add_eq_left, Nat.left_eq_add, not_true_eq_false, not_false_eq_true, reduceCtorEq, i10, i01, ib10, ib01, beq_self_eq_true, eq_self, Int32.reduceLT, Int32.reduceToNatClampNeg, Int32.reduceAdd, Int32.reduceSub, Int32.reduceMul, Bool.or_true, Bool.true_or, Bool.or_false, Bool.false_or, Nat.reduceBEq, Nat.reduceMul, t1, t2, t3, gH, if_pos c1, if_pos c2, e1]
  · rw [hn, show oI (some r') = 1 from rfl] at e1
    obtain ⟨q', gA, gR, -⟩ := LAY0 hA hR hI hk hl h45 (by omega) hn
    have e2 := p_layNext0 (h := (z, m)) hA
    refine ⟨_, ?_, ⟨S, _, _, _, _, gA, gR⟩, fun x hx => mu_n _ _ (by omega)⟩
    rw [q64_20]
    simp only [q64_0, q64_1, q64_4, q64_5, q64_8, q64_11, q64_12, q64_15, q64_18, q64_19, q64_21, q64_22, q64_25, q64_28, q64_31, q64_34, q64_35, q64_36, q64_39, q64_40, q64_43, q64_46, q64_49, q64_50, q64_53, q64_56, q64_56N, q64_57, q64_58, q64_61, q64_61N, q64_62, q64_65, q64_68, q64_70, q64_71, q64_72, q64_75, q64_75N, q64_76, q64_79, q64_82, q64_85, q64_86, q64_89, q64_92, rv_v, rv_n, rh_v, mu_at, isF_r, isK_r, fld_r, fset_r, gd0, gd1, gd2, gd3, gd4, gd5, gd6, gd7, gd8, gd9, gd10, gd11, gd12, gd13, inA_l, inW_l, inZ_l, inQ_l, aget_l, aset_l, qget_l, qset_l, isA_l, isA_q, alen_l, k2_i, k2_a, k2_n, k2_u, k2_l, ite_si, Option.isSome_some, List.cons_append, List.nil_append, List.length_cons, List.length_nil, Nat.reduceAdd, Nat.zero_add, Nat.reduceLT, Nat.reduceEqDiff, decide_true, decide_false, Bool.and_self, Bool.and_true, Bool.true_and, ↓reduceIte, List.set_cons_zero, List.set_cons_succ, Nat.reduceSub, Nat.add_left_cancel_iff, Nat.add_eq_left, Nat.left_eq_add, not_true_eq_false, not_false_eq_true, reduceCtorEq, i10, i01, ib10, ib01, beq_self_eq_true, eq_self, Int32.reduceLT, Int32.reduceToNatClampNeg, Int32.reduceAdd, Int32.reduceSub, Int32.reduceMul, Bool.or_true, Bool.true_or, Bool.or_false, Bool.false_or, Nat.reduceBEq, Nat.reduceMul, t1, t2, t3, gH, if_pos c1, if_pos c2, e1, e2, nI_1]
theorem p_t1 {m : xM} {r : Row} {i : Nat} (hT : TF m a S) (hH : Hou m (a + 8) r) (hI : RI k r) (hk : k < 1000) (h3 : r 3 = nI S) (hS : S ≤ 20) (hi : t ≤ i) (hiS : i < S) (h45 : r 45 = nI t) (h50 : r 50 = nI (i - t)) (x3 : Value) :
    (lay1 r S (S - 1 - (i - t)) = none → rn 64 20 [.ref a, .int (nI t), .int (nI i), x3] [] (z, m) = some (some (.int (-6)), (z, m))) ∧ ∀ r', lay1 r S (S - 1 - (i - t)) = some r' → ∃ m', rn 64 20 [.ref a, .int (nI t), .int (nI i), x3] [] (z, m) = rn 64 20 [.ref a, .int (nI t), .int (nI (i + 1)), .ref (a + 8 + 6)] [] (z, m') ∧ Hou m' (a + 8) r' ∧ fT8 a m m' := by
  obtain ⟨S', q, ri, tr, ft, hA, hR⟩ := hH; have gH := hA.1; have g5 := hA.2.2.1; have g6 := hA.2.2.2; unfold CA at g5 g6; obtain ⟨t1, ⟨v1, v2, v3, v5, v6, t2⟩, w1, w2, w3, t3⟩ := hT; unfold CO at t1; obtain rfl : S = S' := (nI_eq (by omega) (by have := hR.1; omega)).mp (h3.symm.trans hR.2.1)
  have c1 : nI i < nI S := nI_lt (by omega) (by omega)
  have c2 : ¬ nI i < nI t := nI_nlt (by omega) (by omega)
  have hl : r 45 + r 50 < r 3 := by rw [h45, h50, h3, show nI t + nI (i - t) = nI (t + (i - t)) from nI_add _ _]; exact nI_lt (by omega) (by omega)
  have e1 := p_canLay1 (h := (z, m)) hA
  rw [CL1 hR hI hk hl h50 (by omega)] at e1
  refine ⟨fun hn => ?_, fun r' hn => ?_⟩
  · rw [hn, show oI none = 0 from rfl] at e1
    rw [q64_20]
    simp only [q64_0, q64_1, q64_4, q64_5, q64_8, q64_11, q64_12, q64_15, q64_18, q64_19, q64_21, q64_22, q64_25, q64_28, q64_31, q64_34, q64_35, q64_36, q64_39, q64_40, q64_43, q64_46, q64_49, q64_50, q64_53, q64_56, q64_56N, q64_57, q64_58, q64_61, q64_61N, q64_62, q64_65, q64_68, q64_70, q64_71, q64_72, q64_75, q64_75N, q64_76, q64_79, q64_82, q64_85, q64_86, q64_89, q64_92, rv_v, rv_n, rh_v, mu_at, isF_r, isK_r, fld_r, fset_r, gd0, gd1, gd2, gd3, gd4, gd5, gd6, gd7, gd8, gd9, gd10, gd11, gd12, gd13, inA_l, inW_l, inZ_l, inQ_l, aget_l, aset_l, qget_l, qset_l, isA_l, isA_q, alen_l, k2_i, k2_a, k2_n, k2_u, k2_l, ite_si, Option.isSome_some, List.cons_append, List.nil_append, List.length_cons, List.length_nil, Nat.reduceAdd, Nat.zero_add, Nat.reduceLT, Nat.reduceEqDiff, decide_true, decide_false, Bool.and_self, Bool.and_true, Bool.true_and, ↓reduceIte, List.set_cons_zero, List.set_cons_succ, Nat.reduceSub, Nat.add_left_cancel_iff, Nat.add_eq_left, Nat.left_eq_add, not_true_eq_false, not_false_eq_true, reduceCtorEq, i10, i01, ib10, ib01, beq_self_eq_true, eq_self, Int32.reduceLT, Int32.reduceToNatClampNeg, Int32.reduceAdd, Int32.reduceSub, Int32.reduceMul, Bool.or_true, Bool.true_or, Bool.or_false, Bool.false_or, Nat.reduceBEq, Nat.reduceMul, t1, t2, t3, gH, if_pos c1, if_neg c2, e1]
  · rw [hn, show oI (some r') = 1 from rfl] at e1
    obtain ⟨q', gA, gR, -, -⟩ := LAY1 hA hR hI hk hl h50 (by omega) hn
    have e2 := p_layNext1 (h := (z, m)) hA
    refine ⟨_, ?_, ⟨S, _, _, _, _, gA, gR⟩, fun x hx => mu_n _ _ (by omega)⟩
    rw [q64_20]
    simp only [q64_0, q64_1, q64_4, q64_5, q64_8, q64_11, q64_12, q64_15, q64_18, q64_19, q64_21, q64_22, q64_25, q64_28, q64_31, q64_34, q64_35, q64_36, q64_39, q64_40, q64_43, q64_46, q64_49, q64_50, q64_53, q64_56, q64_56N, q64_57, q64_58, q64_61, q64_61N, q64_62, q64_65, q64_68, q64_70, q64_71, q64_72, q64_75, q64_75N, q64_76, q64_79, q64_82, q64_85, q64_86, q64_89, q64_92, rv_v, rv_n, rh_v, mu_at, isF_r, isK_r, fld_r, fset_r, gd0, gd1, gd2, gd3, gd4, gd5, gd6, gd7, gd8, gd9, gd10, gd11, gd12, gd13, inA_l, inW_l, inZ_l, inQ_l, aget_l, aset_l, qget_l, qset_l, isA_l, isA_q, alen_l, k2_i, k2_a, k2_n, k2_u, k2_l, ite_si, Option.isSome_some, List.cons_append, List.nil_append, List.length_cons, List.length_nil, Nat.reduceAdd, Nat.zero_add, Nat.reduceLT, Nat.reduceEqDiff, decide_true, decide_false, Bool.and_self, Bool.and_true, Bool.true_and, ↓reduceIte, List.set_cons_zero, List.set_cons_succ, Nat.reduceSub, Nat.add_left_cancel_iff, Nat.add_eq_left, Nat.left_eq_add, not_true_eq_false, not_false_eq_true, reduceCtorEq, i10, i01, ib10, ib01, beq_self_eq_true, eq_self, Int32.reduceLT, Int32.reduceToNatClampNeg, Int32.reduceAdd, Int32.reduceSub, Int32.reduceMul, Bool.or_true, Bool.true_or, Bool.or_false, Bool.false_or, Nat.reduceBEq, Nat.reduceMul, t1, t2, t3, gH, if_pos c1, if_neg c2, e1, e2, nI_1]
theorem lay0_45 {r r' : Row} {u i : Nat} (h : lay0 r u = some r') (e : r 45 = nI i) : r' 45 = nI (i + 1) := by
  unfold lay0 at h
  split at h
  · split at h
    · cases h
    · cases h; rw [upd_s, e]; exact nI_1 i
  · cases h; rw [upd_s, e]; exact nI_1 i
theorem lay1_50 {r r' : Row} {S u i : Nat} (h : lay1 r S u = some r') (e : r 50 = nI i) : r' 50 = nI (i + 1) := by
  unfold lay1 at h
  split at h
  · split at h
    · cases h
    · cases h; rw [upd_s, e]; exact nI_1 i
  · cases h; rw [upd_s, e]; exact nI_1 i
theorem p_tA (hS : S ≤ 20) (ht : t ≤ S) : ∀ (n i k : Nat) (m : xM) (r : Row) (x3 : Value), i + n = t → k + n < 1000 → TF m a S → Hou m (a + 8) r → RI k r → r 3 = nI S → r 45 = nI i → r 50 = nI 0 →
    ((lA r i n).2 = 0 → ∃ m', rn 64 20 [.ref a, .int (nI t), .int (nI i), x3] [] (z, m) = some (some (.int (-6)), (z, m')) ∧ HouX m' (a + 8) ∧ fT8 a m m') ∧ (¬ (lA r i n).2 = 0 → ∃ m' x3', rn 64 20 [.ref a, .int (nI t), .int (nI i), x3] [] (z, m) = rn 64 20 [.ref a, .int (nI t), .int (nI t), x3'] [] (z, m') ∧ Hou m' (a + 8) (lA r i n).1 ∧ fT8 a m m' ∧ RI (k + n) (lA r i n).1 ∧ (lA r i n).1 45 = nI t) := by
  intro n
  induction n with
  | zero =>
    intro i k m r x3 hi hk hT hH hI h3 h45 h50
    obtain rfl : i = t := by omega
    exact ⟨fun q => absurd q (show ¬ (1 : Int32) = 0 by decide), fun _ => ⟨m, x3, rfl, hH, fun _ _ => rfl, hI, h45⟩⟩
  | succ n ih =>
    intro i k m r x3 hi hk hT hH hI h3 h45 h50
    obtain ⟨s0, s1⟩ := p_t0 (z := z) hT hH hI (by omega) h3 hS (show i < t by omega) ht h45 h50 x3
    have hl : r 45 + r 50 < r 3 := by rw [h45, h50, h3, show nI i + nI 0 = nI (i + 0) from nI_add _ _]; exact nI_lt (by omega) (by omega)
    unfold lA
    cases hn : lay0 r i with
    | none => exact ⟨fun _ => ⟨m, s0 hn, hH.x, fun _ _ => rfl⟩, fun q => absurd rfl q⟩
    | some r' =>
      obtain ⟨m1, e, gH, gf⟩ := s1 r' hn
      have hI' := hI.la0 h3 hS (show i < S by omega) hl hn
      obtain ⟨a0, a1⟩ := ih (i + 1) (k + 1) m1 r' (.ref (a + 8 + 5)) (by omega) (by omega) (hT.fr gf) gH hI' (by rw [lay0_keep hn (by omega)]; exact h3) (lay0_45 hn h45) (by rw [lay0_keep hn (by omega)]; exact h50)
      refine ⟨fun q => ?_, fun q => ?_⟩
      · obtain ⟨m2, q1, q2, q3⟩ := a0 q
        exact ⟨m2, e.trans q1, q2, gf.tr q3⟩
      · obtain ⟨m2, y, q1, q2, q3, q4, q5⟩ := a1 q
        exact ⟨m2, y, e.trans q1, q2, gf.tr q3, q4.mono (by omega), q5⟩
theorem p_tB (hS : S ≤ 20) : ∀ (n i k : Nat) (m : xM) (r : Row) (x3 : Value), i + n = S → t ≤ i → k + n < 1000 → TF m a S → Hou m (a + 8) r → RI k r → r 3 = nI S → r 45 = nI t → r 50 = nI (i - t) →
    ∃ m', rn 64 20 [.ref a, .int (nI t), .int (nI i), x3] [] (z, m) = some (some (.int (if (lB S r t n).2 = 0 then -6 else (lB S r t n).1 48 + (lB S r t n).1 53)), (z, m')) ∧ HouX m' (a + 8) ∧ fT8 a m m' := by
  intro n
  induction n with
  | zero =>
    intro i k m r x3 hi hti hk hT hH hI h3 h45 h50
    obtain rfl : S = i := by omega
    have hX := hH.x
    obtain ⟨S', q, ri, tr, ft, hA, hR⟩ := hH; have gH := hA.1; have g5 := hA.2.2.1; have g6 := hA.2.2.2; unfold CA at g5 g6; obtain ⟨t1, ⟨v1, v2, v3, v5, v6, t2⟩, w1, w2, w3, t3⟩ := hT; unfold CO at t1; obtain rfl : S = S' := (nI_eq (by omega) (by have := hR.1; omega)).mp (h3.symm.trans hR.2.1)
    have c1 : ¬ nI S < nI S := Int32.lt_irrefl
    have e1 := p_allTrims (h := (z, m)) hA
    rw [hR.i8, hR.i13] at e1
    refine ⟨m, ?_, hX, fun _ _ => rfl⟩
    rw [show lB S r t 0 = (r, 1) from rfl, if_neg (show ¬ (1 : Int32) = 0 by decide)]
    rw [q64_20]
    simp only [q64_0, q64_1, q64_4, q64_5, q64_8, q64_11, q64_12, q64_15, q64_18, q64_19, q64_21, q64_22, q64_25, q64_28, q64_31, q64_34, q64_35, q64_36, q64_39, q64_40, q64_43, q64_46, q64_49, q64_50, q64_53, q64_56, q64_56N, q64_57, q64_58, q64_61, q64_61N, q64_62, q64_65, q64_68, q64_70, q64_71, q64_72, q64_75, q64_75N, q64_76, q64_79, q64_82, q64_85, q64_86, q64_89, q64_92, rv_v, rv_n, rh_v, mu_at, isF_r, isK_r, fld_r, fset_r, gd0, gd1, gd2, gd3, gd4, gd5, gd6, gd7, gd8, gd9, gd10, gd11, gd12, gd13, inA_l, inW_l, inZ_l, inQ_l, aget_l, aset_l, qget_l, qset_l, isA_l, isA_q, alen_l, k2_i, k2_a, k2_n, k2_u, k2_l, ite_si, Option.isSome_some, List.cons_append, List.nil_append, List.length_cons, List.length_nil, Nat.reduceAdd, Nat.zero_add, Nat.reduceLT, Nat.reduceEqDiff, decide_true, decide_false, Bool.and_self, Bool.and_true, Bool.true_and, ↓reduceIte, List.set_cons_zero, List.set_cons_succ, Nat.reduceSub, Nat.add_left_cancel_iff, Nat.add_eq_left, Nat.left_eq_add, not_true_eq_false, not_false_eq_true, reduceCtorEq, i10, i01, ib10, ib01, beq_self_eq_true, eq_self, Int32.reduceLT, Int32.reduceToNatClampNeg, Int32.reduceAdd, Int32.reduceSub, Int32.reduceMul, Bool.or_true, Bool.true_or, Bool.or_false, Bool.false_or, Nat.reduceBEq, Nat.reduceMul, t1, t2, t3, gH, if_neg c1, e1]
  | succ n ih =>
    intro i k m r x3 hi hti hk hT hH hI h3 h45 h50
    obtain ⟨s0, s1⟩ := p_t1 (z := z) hT hH hI (by omega) h3 hS hti (show i < S by omega) h45 h50 x3
    have hl : r 45 + r 50 < r 3 := by rw [h45, h50, h3, show nI t + nI (i - t) = nI (t + (i - t)) from nI_add _ _]; exact nI_lt (by omega) (by omega)
    rw [show S - 1 - (i - t) = t + n by omega] at s0 s1
    unfold lB
    cases hn : lay1 r S (t + n) with
    | none => exact ⟨m, s0 hn, hH.x, fun _ _ => rfl⟩
    | some r' =>
      obtain ⟨m1, e, gH, gf⟩ := s1 r' hn
      have hI' := hI.la1 h3 hS (show t + n < S by omega) hl hn
      have e50 := lay1_50 hn h50
      rw [show i - t + 1 = i + 1 - t by omega] at e50
      obtain ⟨m2, q1, q2, q3⟩ := ih (i + 1) (k + 1) m1 r' (.ref (a + 8 + 6)) (by omega) (by omega) (by omega) (hT.fr gf) gH hI' (by rw [lay1_keep hn (by omega)]; exact h3) (by rw [lay1_keep hn (by omega)]; exact h45) e50
      exact ⟨m2, e.trans q1, q2, gf.tr q3⟩
end
section
variable {a S t k : Nat} {σ : AS}
theorem CC.trial {m m' : xM} (h : CC m a σ) (hX : HouX m' (a + 8)) (e : fT8 a m m') : CC m' a σ ∧ fC a m m' := by
  obtain ⟨k1, k2, k3, k4, k5, k6, k7, k8⟩ := h
  refine ⟨⟨?_, k2.fr (fun x q1 q2 => e x (by omega)), hX, k4.fr (fun x q1 q2 => e x (by omega)), k5.fr (fun x q1 q2 => e x (by omega)), k6.fr (fun x q1 q2 => e x (by omega)), k7.fr (fun x q1 q2 => e x (by omega)), k8.fr (fun x q1 q2 => e x (by omega))⟩, fun q hq => e q (by omega)⟩
  unfold CO at k1 ⊢
  rw [e _ (by omega)]
  exact k1
theorem c_trims (hS : S ≤ 20) (ht : t ≤ S) (h3 : σ.1 3 = nI S) (hI : RI k σ.1) : cDo 64 a [.int (nI t)] σ (tv σ.1 S t) σ := by
  intro h hC
  have hC0 := hC
  obtain ⟨k1, k2, k3, k4, k5, k6, k7, k8⟩ := hC
  unfold CO at k1
  obtain ⟨m1, e1, g1, f1⟩ := p_copyHouse (h := h) (a := a + 8) (a2 := a + 1) k3 k2 (by omega)
  have hT : TF h.2 a S := by
    obtain ⟨S', q, ri, tr, ft, hA, hR⟩ := k2
    have hs := hA.2.1.1
    rw [hR.i3, ← hR.2.1, h3] at hs
    exact ⟨k1, ⟨_, _, _, _, _, hA.1⟩, _, _, _, hs⟩
  have j1 : m1 a = _ := (f1 _ (by omega)).trans k1
  have hf1 : fT8 a h.2 m1 := fun x hx => f1 x (by omega)
  obtain ⟨S', q, ri, tr, ft, hA, hR⟩ := g1
  have e2 := p_takeAllUp (h := (h.1, m1)) hA
  have hw := (hA.w5 (q' := upd (upd (upd (upd q 5 0) 6 0) 7 0) 8 0) (fun i hi => by rw [upd_n _ _ (by omega), upd_n _ _ (by omega), upd_n _ _ (by omega), upd_n _ _ (by omega)])).w6 (q' := upd (upd (upd (upd (upd (upd (upd (upd q 5 0) 6 0) 7 0) 8 0) 10 0) 11 0) 12 0) 13 0) (fun i hi => by rw [upd_n _ _ (by omega), upd_n _ _ (by omega), upd_n _ _ (by omega), upd_n _ _ (by omega)])
  have hr := (((((((hR.up (i := 5) 0 (by decide) (by decide)).up (i := 6) 0 (by decide) (by decide)).up (i := 7) 0 (by decide) (by decide)).up (i := 8) 0 (by decide) (by decide)).up (i := 10) 0 (by decide) (by decide)).up (i := 11) 0 (by decide) (by decide)).up (i := 12) 0 (by decide) (by decide)).up (i := 13) 0 (by decide) (by decide)
  have hG : Hou (mu (mu m1 (a + 8 + 5) (.inr (0, [.int 1, .int (q 4), .int 0, .int 0, .int 0, .int 0]))) (a + 8 + 6) (.inr (0, [.int 0, .int (q 9), .int 0, .int 0, .int 0, .int 0]))) (a + 8) (clr σ.1) := ⟨S', _, _, _, _, hw, hr⟩
  have gH := hA.1
  have s1 : cl 64 [.ref a, .int (nI t)] h = rn 64 20 [.ref a, .int (nI t), .int (nI 0), unk] [] (h.1, mu (mu m1 (a + 8 + 5) (.inr (0, [.int 1, .int (q 4), .int 0, .int 0, .int 0, .int 0]))) (a + 8 + 6) (.inr (0, [.int 0, .int (q 9), .int 0, .int 0, .int 0, .int 0]))) := by
    simp only [c64, q64_0, q64_1, q64_4, q64_5, q64_8, q64_11, q64_12, q64_15, q64_18, q64_19, q64_21, q64_22, q64_25, q64_28, q64_31, q64_34, q64_35, q64_36, q64_39, q64_40, q64_43, q64_46, q64_49, q64_50, q64_53, q64_56, q64_56N, q64_57, q64_58, q64_61, q64_61N, q64_62, q64_65, q64_68, q64_70, q64_71, q64_72, q64_75, q64_75N, q64_76, q64_79, q64_82, q64_85, q64_86, q64_89, q64_92, rv_v, rv_n, rh_v, mu_at, isF_r, isK_r, fld_r, fset_r, gd0, gd1, gd2, gd3, gd4, gd5, gd6, gd7, gd8, gd9, gd10, gd11, gd12, gd13, inA_l, inW_l, inZ_l, inQ_l, aget_l, aset_l, qget_l, qset_l, isA_l, isA_q, alen_l, k2_i, k2_a, k2_n, k2_u, k2_l, ite_si, Option.isSome_some, List.cons_append, List.nil_append, List.length_cons, List.length_nil, Nat.reduceAdd, Nat.zero_add, Nat.reduceLT, Nat.reduceEqDiff, decide_true, decide_false, Bool.and_self, Bool.and_true, Bool.true_and, ↓reduceIte, List.set_cons_zero, List.set_cons_succ, Nat.reduceSub, Nat.add_left_cancel_iff, Nat.add_eq_left, Nat.left_eq_add, not_true_eq_false, not_false_eq_true, reduceCtorEq, i10, i01, ib10, ib01, beq_self_eq_true, eq_self, Int32.reduceLT, Int32.reduceToNatClampNeg, Int32.reduceAdd, Int32.reduceSub, Int32.reduceMul, Bool.or_true, Bool.true_or, Bool.or_false, Bool.false_or, Nat.reduceBEq, Nat.reduceMul, k1, e1, j1, gH, e2]
    rfl
  have hf2 : fT8 a h.2 (mu (mu m1 (a + 8 + 5) (.inr (0, [.int 1, .int (q 4), .int 0, .int 0, .int 0, .int 0]))) (a + 8 + 6) (.inr (0, [.int 0, .int (q 9), .int 0, .int 0, .int 0, .int 0]))) := fun x hx => by
    rw [mu_n _ _ (by omega), mu_n _ _ (by omega)]
    exact hf1 x hx
  generalize mu (mu m1 (a + 8 + 5) (.inr (0, [.int 1, .int (q 4), .int 0, .int 0, .int 0, .int 0]))) (a + 8 + 6) (.inr (0, [.int 0, .int (q 9), .int 0, .int 0, .int 0, .int 0])) = m2 at hG s1 hf2
  obtain ⟨q45, q46, q47, q48, q50, q51, q52, q53⟩ := clr_at σ.1
  have hIc := hI.cl0
  have hc3 : clr σ.1 3 = nI S := (clr_keep σ.1 (by omega)).trans h3
  obtain ⟨a0, a1⟩ := p_tA (a := a) (z := h.1) hS ht t 0 0 m2 (clr σ.1) unk (by omega) (by omega) (hT.fr hf2) hG hIc hc3 q45 q50
  by_cases hc : (lA (clr σ.1) 0 t).2 = 0
  · obtain ⟨m3, w1, w2, w3⟩ := a0 hc
    obtain ⟨y1, y2⟩ := hC0.trial w2 (hf2.tr w3)
    refine ⟨m3, ?_, y1, y2⟩
    rw [s1, w1, show tv σ.1 S t = -6 from by unfold tv; rw [lAB_0 hc]; exact if_pos rfl]
  · obtain ⟨m3, x3, w1, w2, w3, w4, w5⟩ := a1 hc
    have k50 : (lA (clr σ.1) 0 t).1 50 = nI (t - t) := by rw [lA_keep _ _ _ _ (by omega), Nat.sub_self]; exact q50
    obtain ⟨m4, u1, u2, u3⟩ := p_tB (a := a) (t := t) (z := h.1) hS (S - t) t (0 + t) m3 (lA (clr σ.1) 0 t).1 x3 (by omega) (Nat.le_refl _) (by omega) (hT.fr (hf2.tr w3)) w2 w4 (by rw [lA_keep _ _ _ _ (by omega)]; exact hc3) w5 k50
    obtain ⟨y1, y2⟩ := hC0.trial u2 (hf2.tr (w3.tr u3))
    refine ⟨m4, ?_, y1, y2⟩
    rw [s1, w1, u1, show tv σ.1 S t = if (lB S (lA (clr σ.1) 0 t).1 t (S - t)).2 = 0 then -6 else (lB S (lA (clr σ.1) 0 t).1 t (S - t)).1 48 + (lB S (lA (clr σ.1) 0 t).1 t (S - t)).1 53 from by unfold tv; rw [lAB_1 hc]]
end
