section
variable {a k S : Nat} {σ : AS}
theorem PS.pn {m : xM} {P : List (Int32 × Int32)} {w p : Int32} (h1 : m (a + 77) = .inr (4, [.ref (a + 77 + 1), .int w, .int p])) (hS : PS m (a + 77 + 1) P) : Pn m (a + 77) := by
  obtain ⟨n, ri, tr, ft, q1, -⟩ := hS
  exact ⟨w, p, nI n, ri, tr, ft, h1, q1⟩
theorem CC.plan {m m' : xM} (h : CC m a σ) (hP : Pn m' (a + 77)) (e : ∀ x, (x < a + 77 ∨ a + 82 ≤ x) → m' x = m x) : CC m' a σ ∧ fC a m m' := by
  obtain ⟨k1, k2, k3, k4, k5, k6, k7, k8⟩ := h
  refine ⟨⟨?_, k2.fr (fun x q1 q2 => e x (by omega)), k3.fr (fun x q1 q2 => e x (by omega)), k4.fr (fun x q1 q2 => e x (by omega)), k5.fr (fun x q1 q2 => e x (by omega)), k6.fr (fun x q1 q2 => e x (by omega)), k7.fr (fun x q1 q2 => e x (by omega)), hP⟩, fun q hq => e q (by omega)⟩
  unfold CO at k1 ⊢
  rw [e _ (by omega)]
  exact k1
theorem c_fault : cDo 79 a [] σ (if (TX σ.2.2.2).2.2 = 0 then nI (TX σ.2.2.2).2.1 else -6) σ := by
  intro h hC
  have hC0 := hC
  obtain ⟨k1, k2, k3, k4, k5, k6, k7, k8⟩ := hC; unfold CO at k1
  obtain ⟨m', e, g1, g2, f⟩ := p_readFrom k7 k8
  obtain ⟨y1, y2⟩ := hC0.plan (PS.pn g1 g2) f
  obtain ⟨w, p, n, ri, tr, ft, q1, q2⟩ := k8
  refine ⟨m', ?_, y1, y2⟩
  simp only [c79, q79_0, q79_1, q79_4, q79_5, q79_8, q79_11, rv_v, rv_n, rh_v, mu_at, isF_r, isK_r, fld_r, fset_r, gd0, gd1, gd2, gd3, gd4, gd5, gd6, gd7, gd8, gd9, gd10, gd11, gd12, gd13, inA_l, inW_l, inZ_l, inQ_l, aget_l, aset_l, qget_l, qset_l, isA_l, isA_q, alen_l, k2_i, k2_a, k2_n, k2_u, k2_l, ite_si, Option.isSome_some, List.cons_append, List.nil_append, List.length_cons, List.length_nil, Nat.reduceAdd, Nat.zero_add, Nat.reduceLT, Nat.reduceEqDiff, decide_true, decide_false, Bool.and_self, Bool.and_true, Bool.true_and, ↓reduceIte, List.set_cons_zero, List.set_cons_succ, Nat.reduceSub, Nat.add_left_cancel_iff, Nat.add_eq_left, Nat.left_eq_add, not_true_eq_false, not_false_eq_true, reduceCtorEq, i10, i01, ib10, ib01, beq_self_eq_true, eq_self, Int32.reduceLT, Int32.reduceToNatClampNeg, Int32.reduceAdd, Int32.reduceSub, Int32.reduceMul, Bool.or_true, Bool.true_or, Bool.or_false, Bool.false_or, Nat.reduceBEq, Nat.reduceMul, k1, q1, e]
theorem TX_le {L : List Int32} : (TX L).2.1 ≤ L.length := (tx_len L 61 0 [] (Nat.zero_le _) (Nat.zero_le _)).2
theorem c_read0 (ht : (TX σ.2.2.2).2.2 = 0) : cDo 64 a [] σ (-3) σ := by
  intro h hC
  have hC0 := hC
  obtain ⟨k1, k2, k3, k4, k5, k6, k7, k8⟩ := hC; unfold CO at k1
  obtain ⟨m', e, g1, g2, f⟩ := p_readFrom k7 k8
  obtain ⟨y1, y2⟩ := hC0.plan (PS.pn g1 g2) f
  have hl := k7.2.1
  have hle := TX_le (L := σ.2.2.2)
  have n6 : ¬ nI (TX σ.2.2.2).2.1 = -6 := nI_n6 (by omega)
  rw [if_pos ht] at e
  obtain ⟨w, p, n, ri, tr, ft, q1, q2⟩ := k8
  refine ⟨m', ?_, y1, y2⟩
  simp only [c64, q64_0, q64_1, q64_4, q64_5, q64_8, q64_11, q64_13, q64_16, q64_18, q64_19, q64_20, q64_23, q64_26, q64_29, q64_31, q64_32, q64_33, q64_36, q64_39, q64_42, q64_43, q64_46, q64_49, q64_50, q64_52, q64_55, q64_57, q64_58, q64_59, q64_62, q64_63, q64_66, q64_69, q64_70, q64_73, q64_76, q64_77, q64_80, q64_83, q64_86, q64_87, q64_90, q64_91, q64_94, q64_95, q64_98, q64_101, q64_104, rv_v, rv_n, rh_v, mu_at, isF_r, isK_r, fld_r, fset_r, gd0, gd1, gd2, gd3, gd4, gd5, gd6, gd7, gd8, gd9, gd10, gd11, gd12, gd13, inA_l, inW_l, inZ_l, inQ_l, aget_l, aset_l, qget_l, qset_l, isA_l, isA_q, alen_l, k2_i, k2_a, k2_n, k2_u, k2_l, ite_si, Option.isSome_some, List.cons_append, List.nil_append, List.length_cons, List.length_nil, Nat.reduceAdd, Nat.zero_add, Nat.reduceLT, Nat.reduceEqDiff, decide_true, decide_false, Bool.and_self, Bool.and_true, Bool.true_and, ↓reduceIte, List.set_cons_zero, List.set_cons_succ, Nat.reduceSub, Nat.add_left_cancel_iff, Nat.add_eq_left, Nat.left_eq_add, not_true_eq_false, not_false_eq_true, reduceCtorEq, i10, i01, ib10, ib01, beq_self_eq_true, eq_self, Int32.reduceLT, Int32.reduceToNatClampNeg, Int32.reduceAdd, Int32.reduceSub, Int32.reduceMul, Bool.or_true, Bool.true_or, Bool.or_false, Bool.false_or, Nat.reduceBEq, Nat.reduceMul, k1, q1, e, if_neg n6]
theorem c_read1 (ht : ¬ (TX σ.2.2.2).2.2 = 0) (hl : 0 < σ.1 45 + σ.1 50) : cDo 64 a [] σ (-5) σ := by
  intro h hC
  have hC0 := hC
  obtain ⟨k1, k2, k3, k4, k5, k6, k7, k8⟩ := hC; unfold CO at k1
  obtain ⟨m', e, g1, g2, f⟩ := p_readFrom k7 k8
  obtain ⟨y1, y2⟩ := hC0.plan (PS.pn g1 g2) f
  rw [if_neg ht] at e
  obtain ⟨w, p, n, ri, tr, ft, q1, q2⟩ := k8
  obtain ⟨j1, ⟨S', q, ri, tr, ft, hA, hR⟩, -⟩ := y1
  have y1 : CC m' a σ := (hC0.plan (PS.pn g1 g2) f).1
  unfold CO at j1
  have es := p_stepsLaid (h := (h.1, m')) hA
  rw [hR.i5, hR.i10] at es
  have jH := hA.1
  refine ⟨m', ?_, y1, y2⟩
  simp only [c64, q64_0, q64_1, q64_4, q64_5, q64_8, q64_11, q64_13, q64_16, q64_18, q64_19, q64_20, q64_23, q64_26, q64_29, q64_31, q64_32, q64_33, q64_36, q64_39, q64_42, q64_43, q64_46, q64_49, q64_50, q64_52, q64_55, q64_57, q64_58, q64_59, q64_62, q64_63, q64_66, q64_69, q64_70, q64_73, q64_76, q64_77, q64_80, q64_83, q64_86, q64_87, q64_90, q64_91, q64_94, q64_95, q64_98, q64_101, q64_104, rv_v, rv_n, rh_v, mu_at, isF_r, isK_r, fld_r, fset_r, gd0, gd1, gd2, gd3, gd4, gd5, gd6, gd7, gd8, gd9, gd10, gd11, gd12, gd13, inA_l, inW_l, inZ_l, inQ_l, aget_l, aset_l, qget_l, qset_l, isA_l, isA_q, alen_l, k2_i, k2_a, k2_n, k2_u, k2_l, ite_si, Option.isSome_some, List.cons_append, List.nil_append, List.length_cons, List.length_nil, Nat.reduceAdd, Nat.zero_add, Nat.reduceLT, Nat.reduceEqDiff, decide_true, decide_false, Bool.and_self, Bool.and_true, Bool.true_and, ↓reduceIte, List.set_cons_zero, List.set_cons_succ, Nat.reduceSub, Nat.add_left_cancel_iff, Nat.add_eq_left, Nat.left_eq_add, not_true_eq_false, not_false_eq_true, reduceCtorEq, i10, i01, ib10, ib01, beq_self_eq_true, eq_self, Int32.reduceLT, Int32.reduceToNatClampNeg, Int32.reduceAdd, Int32.reduceSub, Int32.reduceMul, Bool.or_true, Bool.true_or, Bool.or_false, Bool.false_or, Nat.reduceBEq, Nat.reduceMul, k1, q1, e, j1, jH, es, if_pos hl]
theorem c_read2 (ht : ¬ (TX σ.2.2.2).2.2 = 0) (hl : ¬ 0 < σ.1 45 + σ.1 50) (h3 : σ.1 3 = nI S) (hS : S ≤ 20) (hn : 20 < S + (stp (TX σ.2.2.2).1).length) : cDo 64 a [] σ (-4) σ := by
  intro h hC
  have hC0 := hC
  obtain ⟨k1, k2, k3, k4, k5, k6, k7, k8⟩ := hC; unfold CO at k1
  obtain ⟨m', e, g1, g2, f⟩ := p_readFrom k7 k8
  obtain ⟨y1, y2⟩ := hC0.plan (PS.pn g1 g2) f
  rw [if_neg ht] at e
  have hle := stp_len (TX σ.2.2.2).1 (TX_ok σ.2.2.2)
  have hle2 := TX_len (L := σ.2.2.2) k7.2.1
  have hle3 : (stp (TX σ.2.2.2).1).length ≤ 300 := Nat.le_trans hle (by omega)
  obtain ⟨w, p, n, ri, tr, ft, q1, q2⟩ := k8
  obtain ⟨j1, ⟨S', q, ri, tr, ft, hA, hR⟩, -⟩ := y1
  have y1 : CC m' a σ := (hC0.plan (PS.pn g1 g2) f).1
  unfold CO at j1
  have es := p_stepsLaid (h := (h.1, m')) hA
  rw [hR.i5, hR.i10] at es
  have jH := hA.1
  have js := hA.2.1.1
  rw [hR.i3, ← hR.2.1, h3] at js
  have ea : nI S + nI (stp (TX σ.2.2.2).1).length = nI (S + (stp (TX σ.2.2.2).1).length) := nI_add _ _
  have c1 : 20 < nI (S + (stp (TX σ.2.2.2).1).length) := nI_lt (a := 20) hn (by omega)
  refine ⟨m', ?_, y1, y2⟩
  simp only [c64, q64_0, q64_1, q64_4, q64_5, q64_8, q64_11, q64_13, q64_16, q64_18, q64_19, q64_20, q64_23, q64_26, q64_29, q64_31, q64_32, q64_33, q64_36, q64_39, q64_42, q64_43, q64_46, q64_49, q64_50, q64_52, q64_55, q64_57, q64_58, q64_59, q64_62, q64_63, q64_66, q64_69, q64_70, q64_73, q64_76, q64_77, q64_80, q64_83, q64_86, q64_87, q64_90, q64_91, q64_94, q64_95, q64_98, q64_101, q64_104, rv_v, rv_n, rh_v, mu_at, isF_r, isK_r, fld_r, fset_r, gd0, gd1, gd2, gd3, gd4, gd5, gd6, gd7, gd8, gd9, gd10, gd11, gd12, gd13, inA_l, inW_l, inZ_l, inQ_l, aget_l, aset_l, qget_l, qset_l, isA_l, isA_q, alen_l, k2_i, k2_a, k2_n, k2_u, k2_l, ite_si, Option.isSome_some, List.cons_append, List.nil_append, List.length_cons, List.length_nil, Nat.reduceAdd, Nat.zero_add, Nat.reduceLT, Nat.reduceEqDiff, decide_true, decide_false, Bool.and_self, Bool.and_true, Bool.true_and, ↓reduceIte, List.set_cons_zero, List.set_cons_succ, Nat.reduceSub, Nat.add_left_cancel_iff, Nat.add_eq_left, Nat.left_eq_add, not_true_eq_false, not_false_eq_true, reduceCtorEq, i10, i01, ib10, ib01, beq_self_eq_true, eq_self, Int32.reduceLT, Int32.reduceToNatClampNeg, Int32.reduceAdd, Int32.reduceSub, Int32.reduceMul, Bool.or_true, Bool.true_or, Bool.or_false, Bool.false_or, Nat.reduceBEq, Nat.reduceMul, k1, q1, e, j1, jH, js, es, if_neg hl, g1, ea, if_pos c1]
theorem p_allLoop {P : List (Int32 × Int32)} {z : Nat × Nat} {n : Nat} (hP : P.length = n) (hP20 : n ≤ 20) : ∀ (d i S : Nat) (r : Row) (m : xM), i + d = n → S + d ≤ 20 → Hou m (a + 1) r → r 3 = nI S → PS m (a + 77 + 1) P → ∃ m', rn 49 7 [.ref (a + 1 + 1), .ref (a + 77 + 1), .int (nI n), .int (nI i)] [] (z, m) = some (none, (z, m')) ∧ Hou m' (a + 1) (bldL r S (P.drop i)) ∧ ∀ q, (q < a + 1 ∨ a + 8 ≤ q) → m' q = m q := by
  intro d
  induction d with
  | zero =>
    intro i S r m hi hS hH h3 hPS
    have hin : i = n := by omega
    have c1 : ¬ nI i < nI n := by rw [hin]; exact Int32.lt_irrefl
    refine ⟨m, ?_, by rw [List.drop_eq_nil_of_le (by omega)]; exact hH, fun _ _ => rfl⟩
    rw [q49_7]
    simp only [q49_0, q49_0N, q49_1, q49_4, q49_5, q49_6, q49_8, q49_9, q49_12, q49_13, q49_13N, q49_14, q49_15, q49_18, q49_18N, q49_19, q49_20, q49_23, q49_26, q49_29, q49_32, rv_v, rv_n, rh_v, mu_at, isF_r, isK_r, fld_r, fset_r, gd0, gd1, gd2, gd3, gd4, gd5, gd6, gd7, gd8, gd9, gd10, gd11, gd12, gd13, inA_l, inW_l, inZ_l, inQ_l, aget_l, aset_l, qget_l, qset_l, isA_l, isA_q, alen_l, k2_i, k2_a, k2_n, k2_u, k2_l, ite_si, Option.isSome_some, List.cons_append, List.nil_append, List.length_cons, List.length_nil, Nat.reduceAdd, Nat.zero_add, Nat.reduceLT, Nat.reduceEqDiff, decide_true, decide_false, Bool.and_self, Bool.and_true, Bool.true_and, ↓reduceIte, List.set_cons_zero, List.set_cons_succ, Nat.reduceSub, Nat.add_left_cancel_iff, Nat.add_eq_left, Nat.left_eq_add, not_true_eq_false, not_false_eq_true, reduceCtorEq, i10, i01, ib10, ib01, beq_self_eq_true, eq_self, Int32.reduceLT, Int32.reduceToNatClampNeg, Int32.reduceAdd, Int32.reduceSub, Int32.reduceMul, Bool.or_true, Bool.true_or, Bool.or_false, Bool.false_or, Nat.reduceBEq, Nat.reduceMul, if_neg c1]
  | succ d ih =>
    intro i S r m hi hS hH h3 hPS
    have c1 : nI i < nI n := nI_lt (by omega) (by omega)
    have hPS0 := hPS
    obtain ⟨n', ri2, tr2, ft2, g1, g2, g3⟩ := hPS
    have hlt : i < P.length := by omega
    obtain ⟨w1, w2⟩ := g3 i (P[i]'hlt) (by omega) (List.getElem?_eq_getElem hlt)
    have e1 := p_riserOf (h := (z, m)) (nI i) g1
    have e2 := p_treadOf (h := (z, m)) (nI i) g1
    rw [na_nI (by omega) (by decide), w1] at e1
    rw [na_nI (by omega) (by decide), w2] at e2
    obtain ⟨S', q, ri, tr, ft, hA, hR⟩ := hH
    obtain rfl : S = S' := (nI_eq (by omega) (by have := hR.1; omega)).mp (h3.symm.trans hR.2.1)
    obtain ⟨m1, e3, gA, f1⟩ := hA.add (h := (z, m)) hR.i3 (by omega) (P[i]'hlt).1 (P[i]'hlt).2
    obtain ⟨m2, e4, gB, f2⟩ := ih (i + 1) (S + 1) (bld r S (P[i]'hlt).1 (P[i]'hlt).2) m1 (by omega) (by omega) ⟨_, _, _, _, _, gA, hR.add (by omega) _ _⟩ (upd_s _ _ _) (hPS0.fr (fun x q1 q2 => f1 x (by omega)))
    have s1 := hA.2.1.1
    have s2 := g1.1
    refine ⟨m2, ?_, ?_, fun q hq => (f2 q hq).trans (f1 q (by omega))⟩
    · rw [q49_7]
      simp only [q49_0, q49_0N, q49_1, q49_4, q49_5, q49_6, q49_8, q49_9, q49_12, q49_13, q49_13N, q49_14, q49_15, q49_18, q49_18N, q49_19, q49_20, q49_23, q49_26, q49_29, q49_32, rv_v, rv_n, rh_v, mu_at, isF_r, isK_r, fld_r, fset_r, gd0, gd1, gd2, gd3, gd4, gd5, gd6, gd7, gd8, gd9, gd10, gd11, gd12, gd13, inA_l, inW_l, inZ_l, inQ_l, aget_l, aset_l, qget_l, qset_l, isA_l, isA_q, alen_l, k2_i, k2_a, k2_n, k2_u, k2_l, ite_si, Option.isSome_some, List.cons_append, List.nil_append, List.length_cons, List.length_nil, Nat.reduceAdd, Nat.zero_add, Nat.reduceLT, Nat.reduceEqDiff, decide_true, decide_false, Bool.and_self, Bool.and_true, Bool.true_and, ↓reduceIte, List.set_cons_zero, List.set_cons_succ, Nat.reduceSub, Nat.add_left_cancel_iff, Nat.add_eq_left, Nat.left_eq_add, not_true_eq_false, not_false_eq_true, reduceCtorEq, i10, i01, ib10, ib01, beq_self_eq_true, eq_self, Int32.reduceLT, Int32.reduceToNatClampNeg, Int32.reduceAdd, Int32.reduceSub, Int32.reduceMul, Bool.or_true, Bool.true_or, Bool.or_false, Bool.false_or, Nat.reduceBEq, Nat.reduceMul, s1, s2, if_pos c1, e1, e2, e3, nI_1, e4]
    · rw [List.drop_eq_getElem_cons hlt]
      exact gB
theorem c_read3 (ht : ¬ (TX σ.2.2.2).2.2 = 0) (hl : ¬ 0 < σ.1 45 + σ.1 50) (h3 : σ.1 3 = nI S) (hn : S + (stp (TX σ.2.2.2).1).length ≤ 20) : cDo 64 a [] σ (nI (S + (stp (TX σ.2.2.2).1).length)) (bldL σ.1 S (stp (TX σ.2.2.2).1), pushH σ.2.1 σ.1, σ.2.2.1, []) := by
  intro h hC
  have hC0 := hC
  obtain ⟨k1, k2, k3, k4, k5, k6, k7, k8⟩ := hC; unfold CO at k1
  obtain ⟨m1, e, g1, g2, f1⟩ := p_readFrom k7 k8
  obtain ⟨y1, y2⟩ := hC0.plan (PS.pn g1 g2) f1
  rw [if_neg ht] at e
  obtain ⟨w, p, n, ri, tr, ft, q1, q2⟩ := k8
  have y0 := y1
  obtain ⟨j1, j2, j3, j4, j5, j6, j7, j8⟩ := y1
  unfold CO at j1
  obtain ⟨kv1, kv2, hK⟩ := j4.kk
  obtain ⟨m2, ek, gH, f2⟩ := c_keep (h := (h.1, m1)) y0
  have i2 : Hou m2 (a + 1) σ.1 := j2.fr (fun x q1 q2 => f2 x (by omega))
  have iP : PS m2 (a + 77 + 1) (stp (TX σ.2.2.2).1) := g2.fr (fun x q1 q2 => f2 x (by omega))
  have i1 : m2 a = _ := (f2 a (by omega)).trans j1
  have ip : m2 (a + 77) = _ := (f2 (a + 77) (by omega)).trans g1
  obtain ⟨m3, ea, gA, f3⟩ := p_allLoop (a := a) (z := h.1) (n := (stp (TX σ.2.2.2).1).length) rfl (by omega) (stp (TX σ.2.2.2).1).length 0 S σ.1 m2 (by omega) hn i2 h3 iP
  rw [List.drop_zero] at gA
  have iPs : ∃ w1 w2 w3 : Value, m2 (a + 77 + 1) = .inr (6, [w1, w2, w3, .int (nI (stp (TX σ.2.2.2).1).length)]) := by
    obtain ⟨n', ri2, tr2, ft2, u1, u2, -⟩ := iP
    have := u1.1
    rw [show n' = (stp (TX σ.2.2.2).1).length by omega] at this
    exact ⟨_, _, _, this⟩
  obtain ⟨w1, w2, w3, iPs⟩ := iPs
  have ea2 : cl 49 [.ref (a + 1 + 1), .ref (a + 77 + 1)] (h.1, m2) = some (none, (h.1, m3)) := by
    rw [← ea]
    simp only [c49, q49_0, q49_0N, q49_1, q49_4, q49_5, q49_6, q49_8, q49_9, q49_12, q49_13, q49_13N, q49_14, q49_15, q49_18, q49_18N, q49_19, q49_20, q49_23, q49_26, q49_29, q49_32, rv_v, rv_n, rh_v, mu_at, isF_r, isK_r, fld_r, fset_r, gd0, gd1, gd2, gd3, gd4, gd5, gd6, gd7, gd8, gd9, gd10, gd11, gd12, gd13, inA_l, inW_l, inZ_l, inQ_l, aget_l, aset_l, qget_l, qset_l, isA_l, isA_q, alen_l, k2_i, k2_a, k2_n, k2_u, k2_l, ite_si, Option.isSome_some, List.cons_append, List.nil_append, List.length_cons, List.length_nil, Nat.reduceAdd, Nat.zero_add, Nat.reduceLT, Nat.reduceEqDiff, decide_true, decide_false, Bool.and_self, Bool.and_true, Bool.true_and, ↓reduceIte, List.set_cons_zero, List.set_cons_succ, Nat.reduceSub, Nat.add_left_cancel_iff, Nat.add_eq_left, Nat.left_eq_add, not_true_eq_false, not_false_eq_true, reduceCtorEq, i10, i01, ib10, ib01, beq_self_eq_true, eq_self, Int32.reduceLT, Int32.reduceToNatClampNeg, Int32.reduceAdd, Int32.reduceSub, Int32.reduceMul, Bool.or_true, Bool.true_or, Bool.or_false, Bool.false_or, Nat.reduceBEq, Nat.reduceMul, iPs]
    rfl
  have i7 : Pd m3 (a + 75) σ.2.2.2 := j7.fr (fun x q1 q2 => (f3 x (by omega)).trans (f2 x (by omega)))
  have l1 : m3 a = _ := (f3 a (by omega)).trans i1
  have lp := i7.1
  have i2H : ∃ v1 v2 v3 v5 v6 : Value, m2 (a + 1) = .inr (2, [v1, v2, v3, .ref (a + 1 + 1), v5, v6]) := by
    obtain ⟨S', q, ri, tr, ft, hA, hR⟩ := i2
    exact ⟨_, _, _, _, _, hA.1⟩
  obtain ⟨v1, v2, v3, v5, v6, i2H⟩ := i2H
  have i2S : ∃ v1 v2 v3 v4 : Value, m2 (a + 1 + 1) = .inr (6, [v1, v2, v3, v4]) := by
    obtain ⟨S', q, ri, tr, ft, hA, hR⟩ := i2
    exact ⟨_, _, _, _, hA.2.1.1⟩
  obtain ⟨x1, x2, x3, x4, i2S⟩ := i2S
  have gA0 := gA
  obtain ⟨S3, q3, ri3, tr3, ft3, hA3, hR3⟩ := gA
  have l2 := hA3.1
  have l3 := hA3.2.1.1
  have hb3 := bldL_3 (stp (TX σ.2.2.2).1) σ.1 S h3
  rw [hR3.i3, ← hR3.2.1, hb3] at l3
  obtain ⟨S4, q4, ri4, tr4, ft4, hA4, hR4⟩ := j2
  have es := p_stepsLaid (h := (h.1, m1)) hA4
  rw [hR4.i5, hR4.i10] at es
  have jH := hA4.1
  have js := hA4.2.1.1
  rw [hR4.i3, ← hR4.2.1, h3] at js
  have ead : nI S + nI (stp (TX σ.2.2.2).1).length = nI (S + (stp (TX σ.2.2.2).1).length) := nI_add _ _
  have c1 : ¬ 20 < nI (S + (stp (TX σ.2.2.2).1).length) := nI_nlt (a := 20) hn (by omega)
  have fr : ∀ x, (x < a + 1 ∨ a + 8 ≤ x) → (x < a + 15 ∨ a + 59 ≤ x) → (x < a + 75 ∨ a + 82 ≤ x) → mu m3 (a + 75) (.inr (3, [.ref (a + 75 + 1), .int 0])) x = h.2 x := fun x q1 q2 q3 => by
    rw [mu_n _ _ (by omega), f3 x q1, f2 x q2]
    exact f1 x (by omega)
  have fr2 : ∀ x, x ≠ a + 75 → (x < a + 1 ∨ a + 8 ≤ x) → mu m3 (a + 75) (.inr (3, [.ref (a + 75 + 1), .int 0])) x = m2 x := fun x q1 q2 => by
    rw [mu_n _ _ q1, f3 x q2]
  have i8 : Pn m2 (a + 77) := j8.fr (fun x q1 q2 => f2 x (by omega))
  refine ⟨mu m3 (a + 75) (.inr (3, [.ref (a + 75 + 1), .int 0])), ?_, ⟨?_, gA0.fr (fun x q1 q2 => mu_n _ _ (by omega)), k3.fr (fun x q1 q2 => fr x (by omega) (by omega) (by omega)), gH.fr (fun x q1 q2 => fr2 x (by omega) (by omega)), k5.fr (fun x q1 q2 => fr x (by omega) (by omega) (by omega)), k6.fr (fun x q1 q2 => fr x (by omega) (by omega) (by omega)), ?_, i8.fr (fun x q1 q2 => fr2 x (by omega) (by omega))⟩, fun q hq => fr q (by omega) (by omega) (by omega)⟩
  · simp only [c64, q64_0, q64_1, q64_4, q64_5, q64_8, q64_11, q64_13, q64_16, q64_18, q64_19, q64_20, q64_23, q64_26, q64_29, q64_31, q64_32, q64_33, q64_36, q64_39, q64_42, q64_43, q64_46, q64_49, q64_50, q64_52, q64_55, q64_57, q64_58, q64_59, q64_62, q64_63, q64_66, q64_69, q64_70, q64_73, q64_76, q64_77, q64_80, q64_83, q64_86, q64_87, q64_90, q64_91, q64_94, q64_95, q64_98, q64_101, q64_104, rv_v, rv_n, rh_v, mu_at, isF_r, isK_r, fld_r, fset_r, gd0, gd1, gd2, gd3, gd4, gd5, gd6, gd7, gd8, gd9, gd10, gd11, gd12, gd13, inA_l, inW_l, inZ_l, inQ_l, aget_l, aset_l, qget_l, qset_l, isA_l, isA_q, alen_l, k2_i, k2_a, k2_n, k2_u, k2_l, ite_si, Option.isSome_some, List.cons_append, List.nil_append, List.length_cons, List.length_nil, Nat.reduceAdd, Nat.zero_add, Nat.reduceLT, Nat.reduceEqDiff, decide_true, decide_false, Bool.and_self, Bool.and_true, Bool.true_and, ↓reduceIte, List.set_cons_zero, List.set_cons_succ, Nat.reduceSub, Nat.add_left_cancel_iff, Nat.add_eq_left, Nat.left_eq_add, not_true_eq_false, not_false_eq_true, reduceCtorEq, i10, i01, ib10, ib01, beq_self_eq_true, eq_self, Int32.reduceLT, Int32.reduceToNatClampNeg, Int32.reduceAdd, Int32.reduceSub, Int32.reduceMul, Bool.or_true, Bool.true_or, Bool.or_false, Bool.false_or, Nat.reduceBEq, Nat.reduceMul, k1, q1, e, j1, jH, js, es, if_neg hl, g1, ead, if_neg c1, hK, ek, i1, i2H, i2S, ip, ea2, l1, lp, l2, l3]
  · unfold CO
    rw [fr _ (by omega) (by omega) (by omega)]
    exact k1
  · obtain ⟨-, -, cf, u1, u2⟩ := i7
    exact ⟨mu_s _ _ _, Nat.zero_le _, cf, by rw [mu_n _ _ (by omega)]; exact u1, fun j x hx => by simp at hx⟩
end
