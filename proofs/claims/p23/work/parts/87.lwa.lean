/-! both crews lay anew: the law's trial -/
def LA4 (m : xM) (a : Nat) (rf tf cf nf : Nat → Int32) : Prop := m (a + 82) = .inl (0, 20, .inl rf) ∧ m (a + 83) = .inl (0, 20, .inl tf) ∧ m (a + 86) = .inl (0, 12, .inl cf) ∧ m (a + 87) = .inl (0, 4, .inl nf)
theorem LA4.fr {m m' : xM} {a : Nat} {rf tf cf nf : Nat → Int32} (h : LA4 m a rf tf cf nf) (e : ∀ x, a + 82 ≤ x → x < a + 88 → m' x = m x) : LA4 m' a rf tf cf nf :=
  ⟨by rw [e _ (by omega) (by omega)]; exact h.1, by rw [e _ (by omega) (by omega)]; exact h.2.1, by rw [e _ (by omega) (by omega)]; exact h.2.2.1, by rw [e _ (by omega) (by omega)]; exact h.2.2.2⟩
/-- rows alike but for what the crews have -/
def BQ (ρ r : Row) : Prop := ρ 0 = r 0 ∧ ρ 1 = r 1 ∧ ρ 3 = r 3 ∧ ρ 44 = r 44 ∧ ρ 49 = r 49 ∧ ∀ j, 4 ≤ j → j < 44 → ρ j = r j
section
variable {ρ ρ' r : Row} {S u j k : Nat}
theorem BQ.l (h : BQ ρ r) (hj : j < 20) : ln ρ j = ln r j := by
  unfold ln
  rw [h.2.2.2.2.2 _ (by omega) (by omega), h.2.2.2.2.2 _ (by omega) (by omega)]
theorem BQ.b (h : BQ ρ r) (hj : j ≤ 20) : mB ρ j = mB r j := by
  unfold mB
  rw [h.1, h.2.2.2.1, lns_cg j 0 (fun i h1 h2 => h.l (by omega))]
theorem BQ.a (h : BQ ρ r) (hS : S ≤ 20) : mA ρ S j = mA r S j := by
  unfold mA
  rw [h.1, h.2.2.2.2.1, lns_cg (S - j) j (fun i h1 h2 => h.l (by omega))]
theorem BQ.l0 (h : BQ ρ r) (hl : lay0 ρ u = some ρ') : BQ ρ' r :=
  ⟨(lay0_keep hl (by omega)).trans h.1, (lay0_keep hl (by omega)).trans h.2.1, (lay0_keep hl (by omega)).trans h.2.2.1, (lay0_keep hl (by omega)).trans h.2.2.2.1, (lay0_keep hl (by omega)).trans h.2.2.2.2.1, fun i h1 h2 => (lay0_keep hl (by omega)).trans (h.2.2.2.2.2 i h1 h2)⟩
theorem BQ.l1 (h : BQ ρ r) (hl : lay1 ρ S u = some ρ') : BQ ρ' r :=
  ⟨(lay1_keep hl (by omega)).trans h.1, (lay1_keep hl (by omega)).trans h.2.1, (lay1_keep hl (by omega)).trans h.2.2.1, (lay1_keep hl (by omega)).trans h.2.2.2.1, (lay1_keep hl (by omega)).trans h.2.2.2.2.1, fun i h1 h2 => (lay1_keep hl (by omega)).trans (h.2.2.2.2.2 i h1 h2)⟩
theorem BQ.c (r : Row) : BQ (clr r) r :=
  ⟨clr_keep r (by omega), clr_keep r (by omega), clr_keep r (by omega), clr_keep r (by omega), clr_keep r (by omega), fun i h1 h2 => clr_keep r (by omega)⟩
/-- trims are numbers that stay small -/
theorem lay0_tr (hI : RI k ρ) (h3 : ρ 3 = nI S) (hS : S ≤ 20) (hu : u < S) (hl : lay0 ρ u = some ρ') {x : Nat} (hx : ρ 48 = nI x) : ∃ y, ρ' 48 = nI y ∧ y ≤ x + 500 := by
  obtain ⟨p0, p1, R, O, b0, b1, l0, l1, e47, e52, eR, eO, e44, e49, e46, e51, f1, f2, r2, r60, o1, o2, f3, f4, f5, f6⟩ := hI.all
  obtain ⟨c, c1, c2⟩ := lo_nat (mB ρ u - (ρ 1 - ρ 46)) (R := R) (by omega) (by omega)
  obtain ⟨c', c1', c2'⟩ := lo_nat (mB ρ u - (ρ 1 - ρ 1)) (R := R) (by omega) (by omega)
  have ec : cN0 ρ u = nI c := by unfold cN0; rw [eR]; exact c2
  have ec' : cR0 ρ u = nI c' := by unfold cR0; rw [eR]; exact c2'
  unfold lay0 at hl
  split at hl
  · split at hl
    · cases hl
    · cases hl
      refine ⟨x + (l0 + c'), ?_, by omega⟩
      rw [upd_n _ _ (by omega), upd_s, hx, e46, ec', show nI l0 + nI c' = nI (l0 + c') from nI_add _ _]
      exact nI_add _ _
  · cases hl
    refine ⟨x + c, ?_, by omega⟩
    rw [upd_n _ _ (by omega), upd_s, hx, ec]
    exact nI_add _ _
theorem lay1_tr (hI : RI k ρ) (h3 : ρ 3 = nI S) (hS : S ≤ 20) (hu : u < S) (hl : lay1 ρ S u = some ρ') {x : Nat} (hx : ρ 53 = nI x) : ∃ y, ρ' 53 = nI y ∧ y ≤ x + 500 := by
  obtain ⟨p0, p1, R, O, b0, b1, l0, l1, e47, e52, eR, eO, e44, e49, e46, e51, f1, f2, r2, r60, o1, o2, f3, f4, f5, f6⟩ := hI.all
  obtain ⟨c, c1, c2⟩ := lo_nat (ρ 51 - mA ρ S u - ln ρ u) (R := R) (by omega) (by omega)
  obtain ⟨c', c1', c2'⟩ := lo_nat (ρ 1 - mA ρ S u - ln ρ u) (R := R) (by omega) (by omega)
  have ec : cN1 ρ S u = nI c := by unfold cN1; rw [eR]; exact c2
  have ec' : cR1 ρ S u = nI c' := by unfold cR1; rw [eR]; exact c2'
  unfold lay1 at hl
  split at hl
  · split at hl
    · cases hl
    · cases hl
      refine ⟨x + (l1 + c'), ?_, by omega⟩
      rw [upd_n _ _ (by omega), upd_s, hx, e51, ec', show nI l1 + nI c' = nI (l1 + c') from nI_add _ _]
      exact nI_add _ _
  · cases hl
    refine ⟨x + c, ?_, by omega⟩
    rw [upd_n _ _ (by omega), upd_s, hx, ec]
    exact nI_add _ _
end
section
variable {a q0 k S t : Nat} {r : Row} {rf tf cf nf : Nat → Int32} {z : Nat × Nat} {x5 x6 x7 : Int32} {v14 : Value}
theorem p_wAx (x13 : Int32) (h : xH) : rn 84 125 [.ref a, .ref (a + 82), .ref (a + 83), .ref (a + 86), .ref (a + 87), .int x5, .int x6, .int x7, .int (nI t), .ref q0, .ref (q0 + 1), .ref (q0 + 2), .int 0, .int x13, v14] [] h = rn 84 161 [.ref a, .ref (a + 82), .ref (a + 83), .ref (a + 86), .ref (a + 87), .int x5, .int x6, .int x7, .int (nI t), .ref q0, .ref (q0 + 1), .ref (q0 + 2), .int 0, .int x13, v14] [] h := by
  rw [q84_125]
  by_cases c : x13 < nI t
  · simp only [q84_127, q84_129, q84_132, q84_134, q84_137, q84_137N, q84_138, q84_138N, q84_139, q84_139N, q84_141, q84_141N, q84_143, q84_143N, q84_145, q84_145N, q84_147, q84_148, q84_150, q84_153, q84_155, q84_158, rv_v, rv_n, rh_v, mu_at, isF_r, isK_r, fld_r, fset_r, gd0, gd1, gd2, gd3, gd4, gd5, gd6, gd7, gd8, gd9, gd10, gd11, gd12, gd13, inA_l, inW_l, inZ_l, inQ_l, aget_l, aset_l, qget_l, qset_l, isA_l, isA_q, alen_l, k2_i, k2_a, k2_n, k2_u, k2_l, ite_si, Option.isSome_some, List.cons_append, List.nil_append, List.length_cons, List.length_nil, Nat.reduceAdd, Nat.zero_add, Nat.reduceLT, Nat.reduceEqDiff, decide_true, decide_false, Bool.and_self, Bool.and_true, Bool.true_and, ↓reduceIte, List.set_cons_zero, List.set_cons_succ, Nat.reduceSub, Nat.add_left_cancel_iff, Nat.add_eq_left, Nat.left_eq_add, not_true_eq_false, not_false_eq_true, reduceCtorEq, i10, i01, ib10, ib01, beq_self_eq_true, eq_self, Int32.reduceLT, Int32.reduceToNatClampNeg, Int32.reduceAdd, Int32.reduceSub, Int32.reduceMul, Bool.or_true, Bool.true_or, Bool.or_false, Bool.false_or, Nat.reduceBEq, Nat.reduceMul, if_pos c]
  · simp only [q84_127, q84_129, q84_132, q84_134, q84_137, q84_137N, q84_138, q84_138N, q84_139, q84_139N, q84_141, q84_141N, q84_143, q84_143N, q84_145, q84_145N, q84_147, q84_148, q84_150, q84_153, q84_155, q84_158, rv_v, rv_n, rh_v, mu_at, isF_r, isK_r, fld_r, fset_r, gd0, gd1, gd2, gd3, gd4, gd5, gd6, gd7, gd8, gd9, gd10, gd11, gd12, gd13, inA_l, inW_l, inZ_l, inQ_l, aget_l, aset_l, qget_l, qset_l, isA_l, isA_q, alen_l, k2_i, k2_a, k2_n, k2_u, k2_l, ite_si, Option.isSome_some, List.cons_append, List.nil_append, List.length_cons, List.length_nil, Nat.reduceAdd, Nat.zero_add, Nat.reduceLT, Nat.reduceEqDiff, decide_true, decide_false, Bool.and_self, Bool.and_true, Bool.true_and, ↓reduceIte, List.set_cons_zero, List.set_cons_succ, Nat.reduceSub, Nat.add_left_cancel_iff, Nat.add_eq_left, Nat.left_eq_add, not_true_eq_false, not_false_eq_true, reduceCtorEq, i10, i01, ib10, ib01, beq_self_eq_true, eq_self, Int32.reduceLT, Int32.reduceToNatClampNeg, Int32.reduceAdd, Int32.reduceSub, Int32.reduceMul, Bool.or_true, Bool.true_or, Bool.or_false, Bool.false_or, Nat.reduceBEq, Nat.reduceMul, if_neg c]
theorem p_wBx (x13 : Int32) (h : xH) : rn 84 169 [.ref a, .ref (a + 82), .ref (a + 83), .ref (a + 86), .ref (a + 87), .int x5, .int x6, .int x7, .int (nI t), .ref q0, .ref (q0 + 1), .ref (q0 + 2), .int 0, .int x13, v14] [] h = rn 84 205 [.ref a, .ref (a + 82), .ref (a + 83), .ref (a + 86), .ref (a + 87), .int x5, .int x6, .int x7, .int (nI t), .ref q0, .ref (q0 + 1), .ref (q0 + 2), .int 0, .int x13, v14] [] h := by
  rw [q84_169]
  by_cases c : x13 < nI t
  · simp only [q84_171, q84_173, q84_176, q84_178, q84_181, q84_181N, q84_182, q84_182N, q84_183, q84_183N, q84_185, q84_185N, q84_187, q84_187N, q84_189, q84_189N, q84_191, q84_192, q84_194, q84_197, q84_199, q84_202, rv_v, rv_n, rh_v, mu_at, isF_r, isK_r, fld_r, fset_r, gd0, gd1, gd2, gd3, gd4, gd5, gd6, gd7, gd8, gd9, gd10, gd11, gd12, gd13, inA_l, inW_l, inZ_l, inQ_l, aget_l, aset_l, qget_l, qset_l, isA_l, isA_q, alen_l, k2_i, k2_a, k2_n, k2_u, k2_l, ite_si, Option.isSome_some, List.cons_append, List.nil_append, List.length_cons, List.length_nil, Nat.reduceAdd, Nat.zero_add, Nat.reduceLT, Nat.reduceEqDiff, decide_true, decide_false, Bool.and_self, Bool.and_true, Bool.true_and, ↓reduceIte, List.set_cons_zero, List.set_cons_succ, Nat.reduceSub, Nat.add_left_cancel_iff, Nat.add_eq_left, Nat.left_eq_add, not_true_eq_false, not_false_eq_true, reduceCtorEq, i10, i01, ib10, ib01, beq_self_eq_true, eq_self, Int32.reduceLT, Int32.reduceToNatClampNeg, Int32.reduceAdd, Int32.reduceSub, Int32.reduceMul, Bool.or_true, Bool.true_or, Bool.or_false, Bool.false_or, Nat.reduceBEq, Nat.reduceMul, if_pos c]
  · simp only [q84_171, q84_173, q84_176, q84_178, q84_181, q84_181N, q84_182, q84_182N, q84_183, q84_183N, q84_185, q84_185N, q84_187, q84_187N, q84_189, q84_189N, q84_191, q84_192, q84_194, q84_197, q84_199, q84_202, rv_v, rv_n, rh_v, mu_at, isF_r, isK_r, fld_r, fset_r, gd0, gd1, gd2, gd3, gd4, gd5, gd6, gd7, gd8, gd9, gd10, gd11, gd12, gd13, inA_l, inW_l, inZ_l, inQ_l, aget_l, aset_l, qget_l, qset_l, isA_l, isA_q, alen_l, k2_i, k2_a, k2_n, k2_u, k2_l, ite_si, Option.isSome_some, List.cons_append, List.nil_append, List.length_cons, List.length_nil, Nat.reduceAdd, Nat.zero_add, Nat.reduceLT, Nat.reduceEqDiff, decide_true, decide_false, Bool.and_self, Bool.and_true, Bool.true_and, ↓reduceIte, List.set_cons_zero, List.set_cons_succ, Nat.reduceSub, Nat.add_left_cancel_iff, Nat.add_eq_left, Nat.left_eq_add, not_true_eq_false, not_false_eq_true, reduceCtorEq, i10, i01, ib10, ib01, beq_self_eq_true, eq_self, Int32.reduceLT, Int32.reduceToNatClampNeg, Int32.reduceAdd, Int32.reduceSub, Int32.reduceMul, Bool.or_true, Bool.true_or, Bool.or_false, Bool.false_or, Nat.reduceBEq, Nat.reduceMul, if_neg c]
theorem p_wA (hq : a + 88 ≤ q0) (h3 : r 3 = nI S) (hS : S ≤ 20) (ht : t ≤ S) (hrt : ∀ j, j < S → rf j = r (4 + j) ∧ tf j = r (24 + j)) (n0 : nf 0 = r 0) (n1 : nf 1 = r 1) : ∀ (d i k : Nat) (m : xM) (ρ : Row) (pf bf df : Nat → Int32) (y : Nat), i + d = t → k + d < 900 → LA4 m a rf tf cf nf → m q0 = .inl (0, 20, .inl pf) → m (q0 + 1) = .inl (0, 20, .inl bf) → m (q0 + 2) = .inl (0, 12, .inl df) → RI k ρ → BQ ρ r → LC ρ df → ρ 45 = nI i → ρ 50 = nI 0 → (∀ j, j < i → pf j = mB r j) → ρ 48 = nI y →
    ((lA ρ i d).2 = 0 → ∃ m' x13, rn 84 125 [.ref a, .ref (a + 82), .ref (a + 83), .ref (a + 86), .ref (a + 87), .int x5, .int x6, .int x7, .int (nI t), .ref q0, .ref (q0 + 1), .ref (q0 + 2), .int 1, .int (nI i), v14] [] (z, m) = rn 84 161 [.ref a, .ref (a + 82), .ref (a + 83), .ref (a + 86), .ref (a + 87), .int x5, .int x6, .int x7, .int (nI t), .ref q0, .ref (q0 + 1), .ref (q0 + 2), .int 0, .int x13, v14] [] (z, m') ∧ ∀ x, (x < q0 ∨ q0 + 3 ≤ x) → m' x = m x) ∧
    (¬ (lA ρ i d).2 = 0 → ∃ m' pf' bf' df' y', rn 84 125 [.ref a, .ref (a + 82), .ref (a + 83), .ref (a + 86), .ref (a + 87), .int x5, .int x6, .int x7, .int (nI t), .ref q0, .ref (q0 + 1), .ref (q0 + 2), .int 1, .int (nI i), v14] [] (z, m) = rn 84 161 [.ref a, .ref (a + 82), .ref (a + 83), .ref (a + 86), .ref (a + 87), .int x5, .int x6, .int x7, .int (nI t), .ref q0, .ref (q0 + 1), .ref (q0 + 2), .int 1, .int (nI t), v14] [] (z, m') ∧ (∀ x, (x < q0 ∨ q0 + 3 ≤ x) → m' x = m x) ∧ m' q0 = .inl (0, 20, .inl pf') ∧ m' (q0 + 1) = .inl (0, 20, .inl bf') ∧ m' (q0 + 2) = .inl (0, 12, .inl df') ∧ LC (lA ρ i d).1 df' ∧ RI (k + d) (lA ρ i d).1 ∧ BQ (lA ρ i d).1 r ∧ (∀ j, j < t → pf' j = mB r j) ∧ (lA ρ i d).1 45 = nI t ∧ (lA ρ i d).1 48 = nI y' ∧ y' ≤ y + 500 * d) := by
  intro d
  induction d with
  | zero =>
    intro i k m ρ pf bf df y hi hk hM hp hb hd hI hB hL h45 h50 hpf hy
    obtain rfl : i = t := by omega
    refine ⟨fun q => absurd q (show ¬ (1 : Int32) = 0 by decide), fun _ => ⟨m, pf, bf, df, y, ?_, fun _ _ => rfl, hp, hb, hd, hL, hI, hB, hpf, h45, hy, by omega⟩⟩
    have c1 : ¬ nI i < nI i := Int32.lt_irrefl
    rw [q84_125]
    simp only [q84_127, q84_129, q84_132, q84_134, q84_137, q84_137N, q84_138, q84_138N, q84_139, q84_139N, q84_141, q84_141N, q84_143, q84_143N, q84_145, q84_145N, q84_147, q84_148, q84_150, q84_153, q84_155, q84_158, rv_v, rv_n, rh_v, mu_at, isF_r, isK_r, fld_r, fset_r, gd0, gd1, gd2, gd3, gd4, gd5, gd6, gd7, gd8, gd9, gd10, gd11, gd12, gd13, inA_l, inW_l, inZ_l, inQ_l, aget_l, aset_l, qget_l, qset_l, isA_l, isA_q, alen_l, k2_i, k2_a, k2_n, k2_u, k2_l, ite_si, Option.isSome_some, List.cons_append, List.nil_append, List.length_cons, List.length_nil, Nat.reduceAdd, Nat.zero_add, Nat.reduceLT, Nat.reduceEqDiff, decide_true, decide_false, Bool.and_self, Bool.and_true, Bool.true_and, ↓reduceIte, List.set_cons_zero, List.set_cons_succ, Nat.reduceSub, Nat.add_left_cancel_iff, Nat.add_eq_left, Nat.left_eq_add, not_true_eq_false, not_false_eq_true, reduceCtorEq, i10, i01, ib10, ib01, beq_self_eq_true, eq_self, Int32.reduceLT, Int32.reduceToNatClampNeg, Int32.reduceAdd, Int32.reduceSub, Int32.reduceMul, Bool.or_true, Bool.true_or, Bool.or_false, Bool.false_or, Nat.reduceBEq, Nat.reduceMul, if_neg c1]
  | succ d ih =>
    intro i k m ρ pf bf df y hi hk hM hp hb hd hI hB hL h45 h50 hpf hy
    have g3 : ρ 3 = nI S := hB.2.2.1.trans h3
    have hlt : ρ 45 + ρ 50 < ρ 3 := by rw [h45, h50, g3, show nI i + nI 0 = nI (i + 0) from nI_add _ _]; exact nI_lt (by omega) (by omega)
    have c1 : nI i < nI t := nI_lt (by omega) (by omega)
    obtain ⟨s0, s1⟩ := p_lays0 (h := (z, m)) (ar := a + 82) (at_ := a + 83) (ap := q0) (ab := q0 + 1) (ac := q0 + 2) (an := a + 87) hI (by omega) g3 hS (show i < S by omega) hM.1 hM.2.1 hp hb hd hM.2.2.2 (fun j hj => by rw [hB.2.2.2.2.2 _ (by omega) (by omega), hB.2.2.2.2.2 _ (by omega) (by omega)]; exact hrt j hj) (fun j hj => by rw [hB.b (by omega)]; exact hpf j hj) hL (n0.trans hB.1.symm) (n1.trans hB.2.1.symm) (by omega) (by omega) (by omega) (by omega) (by omega) (by omega)
    unfold lA
    cases hn : lay0 ρ i with
    | none =>
      have e := s0 hn
      refine ⟨fun _ => ⟨m, nI (i + 1), ?_, fun _ _ => rfl⟩, fun q => absurd rfl q⟩
      rw [q84_125, ← p_wAx]
      simp only [q84_127, q84_129, q84_132, q84_134, q84_137, q84_137N, q84_138, q84_138N, q84_139, q84_139N, q84_141, q84_141N, q84_143, q84_143N, q84_145, q84_145N, q84_147, q84_148, q84_150, q84_153, q84_155, q84_158, rv_v, rv_n, rh_v, mu_at, isF_r, isK_r, fld_r, fset_r, gd0, gd1, gd2, gd3, gd4, gd5, gd6, gd7, gd8, gd9, gd10, gd11, gd12, gd13, inA_l, inW_l, inZ_l, inQ_l, aget_l, aset_l, qget_l, qset_l, isA_l, isA_q, alen_l, k2_i, k2_a, k2_n, k2_u, k2_l, ite_si, Option.isSome_some, List.cons_append, List.nil_append, List.length_cons, List.length_nil, Nat.reduceAdd, Nat.zero_add, Nat.reduceLT, Nat.reduceEqDiff, decide_true, decide_false, Bool.and_self, Bool.and_true, Bool.true_and, ↓reduceIte, List.set_cons_zero, List.set_cons_succ, Nat.reduceSub, Nat.add_left_cancel_iff, Nat.add_eq_left, Nat.left_eq_add, not_true_eq_false, not_false_eq_true, reduceCtorEq, i10, i01, ib10, ib01, beq_self_eq_true, eq_self, Int32.reduceLT, Int32.reduceToNatClampNeg, Int32.reduceAdd, Int32.reduceSub, Int32.reduceMul, Bool.or_true, Bool.true_or, Bool.or_false, Bool.false_or, Nat.reduceBEq, Nat.reduceMul, if_pos c1, e, nI_1]
    | some ρ' =>
      obtain ⟨df', m1, e, gL, gc, gb, gp, gf⟩ := s1 ρ' hn
      have gf : ∀ x, (x < q0 ∨ q0 + 3 ≤ x) → m1 x = m x := fun x hx => gf x (by omega) (by omega) (by omega)
      rw [hB.b (by omega)] at gp
      obtain ⟨y', ey', hy'⟩ := lay0_tr hI g3 hS (show i < S by omega) hn hy
      obtain ⟨a0, a1⟩ := ih (i + 1) (k + 1) m1 ρ' (upd pf i (mB r i)) (upd bf i 0) df' y' (by omega) (by omega) (hM.fr (fun x q1 q2 => gf x (by omega))) gp gb gc (hI.la0 g3 hS (by omega) hlt hn) (hB.l0 hn) gL (lay0_45 hn h45) (by rw [lay0_keep hn (by omega)]; exact h50) (fun j hj => by
        by_cases hz : j = i
        · rw [hz, upd_s]
        · rw [upd_n _ _ hz]; exact hpf j (by omega)) ey'
      have st : rn 84 125 [.ref a, .ref (a + 82), .ref (a + 83), .ref (a + 86), .ref (a + 87), .int x5, .int x6, .int x7, .int (nI t), .ref q0, .ref (q0 + 1), .ref (q0 + 2), .int 1, .int (nI i), v14] [] (z, m) = rn 84 125 [.ref a, .ref (a + 82), .ref (a + 83), .ref (a + 86), .ref (a + 87), .int x5, .int x6, .int x7, .int (nI t), .ref q0, .ref (q0 + 1), .ref (q0 + 2), .int 1, .int (nI (i + 1)), v14] [] (z, m1) := by
        rw [q84_125]
        simp only [q84_127, q84_129, q84_132, q84_134, q84_137, q84_137N, q84_138, q84_138N, q84_139, q84_139N, q84_141, q84_141N, q84_143, q84_143N, q84_145, q84_145N, q84_147, q84_148, q84_150, q84_153, q84_155, q84_158, rv_v, rv_n, rh_v, mu_at, isF_r, isK_r, fld_r, fset_r, gd0, gd1, gd2, gd3, gd4, gd5, gd6, gd7, gd8, gd9, gd10, gd11, gd12, gd13, inA_l, inW_l, inZ_l, inQ_l, aget_l, aset_l, qget_l, qset_l, isA_l, isA_q, alen_l, k2_i, k2_a, k2_n, k2_u, k2_l, ite_si, Option.isSome_some, List.cons_append, List.nil_append, List.length_cons, List.length_nil, Nat.reduceAdd, Nat.zero_add, Nat.reduceLT, Nat.reduceEqDiff, decide_true, decide_false, Bool.and_self, Bool.and_true, Bool.true_and, ↓reduceIte, List.set_cons_zero, List.set_cons_succ, Nat.reduceSub, Nat.add_left_cancel_iff, Nat.add_eq_left, Nat.left_eq_add, not_true_eq_false, not_false_eq_true, reduceCtorEq, i10, i01, ib10, ib01, beq_self_eq_true, eq_self, Int32.reduceLT, Int32.reduceToNatClampNeg, Int32.reduceAdd, Int32.reduceSub, Int32.reduceMul, Bool.or_true, Bool.true_or, Bool.or_false, Bool.false_or, Nat.reduceBEq, Nat.reduceMul, if_pos c1, e, nI_1]
      refine ⟨fun q => ?_, fun q => ?_⟩
      · obtain ⟨m2, x13, q1, q2⟩ := a0 q
        exact ⟨m2, x13, st.trans q1, fun x hx => (q2 x hx).trans (gf x hx)⟩
      · obtain ⟨m2, p2, b2, d2, y2, q1, q2, q3, q4, q5, q6, q7, q8, q9, q10, q11, q12⟩ := a1 q
        exact ⟨m2, p2, b2, d2, y2, st.trans q1, fun x hx => (q2 x hx).trans (gf x hx), q3, q4, q5, q6, q7.mono (by omega), q8, q9, q10, q11, by omega⟩
theorem p_wB (hq : a + 88 ≤ q0) (h3 : r 3 = nI S) (hS : S ≤ 20) (ht : t ≤ S) (hrt : ∀ j, j < S → rf j = r (4 + j) ∧ tf j = r (24 + j)) (n0 : nf 0 = r 0) (n1 : nf 1 = r 1) (n3 : nf 3 = r 3) : ∀ (d u k : Nat) (m : xM) (ρ : Row) (pf bf df : Nat → Int32) (y : Nat), t + d + u = S → k + d < 900 → LA4 m a rf tf cf nf → m q0 = .inl (0, 20, .inl pf) → m (q0 + 1) = .inl (0, 20, .inl bf) → m (q0 + 2) = .inl (0, 12, .inl df) → RI k ρ → BQ ρ r → LC ρ df → ρ 45 = nI t → ρ 50 = nI u → (∀ j, j < t → pf j = mB r j) → (∀ j, t + d ≤ j → j < S → pf j = mA r S j) → ρ 53 = nI y →
    ((lB S ρ t d).2 = 0 → ∃ m' x13, rn 84 169 [.ref a, .ref (a + 82), .ref (a + 83), .ref (a + 86), .ref (a + 87), .int x5, .int x6, .int x7, .int (nI t), .ref q0, .ref (q0 + 1), .ref (q0 + 2), .int 1, .int (nI (t + d) - 1), v14] [] (z, m) = rn 84 205 [.ref a, .ref (a + 82), .ref (a + 83), .ref (a + 86), .ref (a + 87), .int x5, .int x6, .int x7, .int (nI t), .ref q0, .ref (q0 + 1), .ref (q0 + 2), .int 0, .int x13, v14] [] (z, m') ∧ ∀ x, (x < q0 ∨ q0 + 3 ≤ x) → m' x = m x) ∧
    (¬ (lB S ρ t d).2 = 0 → ∃ m' pf' bf' df' y', rn 84 169 [.ref a, .ref (a + 82), .ref (a + 83), .ref (a + 86), .ref (a + 87), .int x5, .int x6, .int x7, .int (nI t), .ref q0, .ref (q0 + 1), .ref (q0 + 2), .int 1, .int (nI (t + d) - 1), v14] [] (z, m) = rn 84 205 [.ref a, .ref (a + 82), .ref (a + 83), .ref (a + 86), .ref (a + 87), .int x5, .int x6, .int x7, .int (nI t), .ref q0, .ref (q0 + 1), .ref (q0 + 2), .int 1, .int (nI t - 1), v14] [] (z, m') ∧ (∀ x, (x < q0 ∨ q0 + 3 ≤ x) → m' x = m x) ∧ m' q0 = .inl (0, 20, .inl pf') ∧ m' (q0 + 1) = .inl (0, 20, .inl bf') ∧ m' (q0 + 2) = .inl (0, 12, .inl df') ∧ LC (lB S ρ t d).1 df' ∧ (∀ j, j < t → pf' j = mB r j) ∧ (∀ j, t ≤ j → j < S → pf' j = mA r S j) ∧ (lB S ρ t d).1 53 = nI y' ∧ y' ≤ y + 500 * d) := by
  intro d
  induction d with
  | zero =>
    intro u k m ρ pf bf df y hi hk hM hp hb hd hI hB hL h45 h50 hpf hpg hy
    refine ⟨fun q => absurd q (show ¬ (1 : Int32) = 0 by decide), fun _ => ⟨m, pf, bf, df, y, ?_, fun _ _ => rfl, hp, hb, hd, hL, hpf, hpg, hy, by omega⟩⟩
    have c1 : nI t - 1 < nI t := by
      rw [Int32.lt_iff_toInt_lt, show (1 : Int32) = nI 1 from rfl, pk_sub_toInt (by omega) (by omega), nI_toInt (by omega)]
      omega
    show rn 84 169 [.ref a, .ref (a + 82), .ref (a + 83), .ref (a + 86), .ref (a + 87), .int x5, .int x6, .int x7, .int (nI t), .ref q0, .ref (q0 + 1), .ref (q0 + 2), .int 1, .int (nI t - 1), v14] [] (z, m) = _
    rw [q84_169]
    simp only [q84_171, q84_173, q84_176, q84_178, q84_181, q84_181N, q84_182, q84_182N, q84_183, q84_183N, q84_185, q84_185N, q84_187, q84_187N, q84_189, q84_189N, q84_191, q84_192, q84_194, q84_197, q84_199, q84_202, rv_v, rv_n, rh_v, mu_at, isF_r, isK_r, fld_r, fset_r, gd0, gd1, gd2, gd3, gd4, gd5, gd6, gd7, gd8, gd9, gd10, gd11, gd12, gd13, inA_l, inW_l, inZ_l, inQ_l, aget_l, aset_l, qget_l, qset_l, isA_l, isA_q, alen_l, k2_i, k2_a, k2_n, k2_u, k2_l, ite_si, Option.isSome_some, List.cons_append, List.nil_append, List.length_cons, List.length_nil, Nat.reduceAdd, Nat.zero_add, Nat.reduceLT, Nat.reduceEqDiff, decide_true, decide_false, Bool.and_self, Bool.and_true, Bool.true_and, ↓reduceIte, List.set_cons_zero, List.set_cons_succ, Nat.reduceSub, Nat.add_left_cancel_iff, Nat.add_eq_left, Nat.left_eq_add, not_true_eq_false, not_false_eq_true, reduceCtorEq, i10, i01, ib10, ib01, beq_self_eq_true, eq_self, Int32.reduceLT, Int32.reduceToNatClampNeg, Int32.reduceAdd, Int32.reduceSub, Int32.reduceMul, Bool.or_true, Bool.true_or, Bool.or_false, Bool.false_or, Nat.reduceBEq, Nat.reduceMul, if_pos c1]
  | succ d ih =>
    intro u k m ρ pf bf df y hi hk hM hp hb hd hI hB hL h45 h50 hpf hpg hy
    have g3 : ρ 3 = nI S := hB.2.2.1.trans h3
    have hlt : ρ 45 + ρ 50 < ρ 3 := by rw [h45, h50, g3, show nI t + nI u = nI (t + u) from nI_add _ _]; exact nI_lt (by omega) (by omega)
    have c1 : ¬ nI (t + d) < nI t := nI_nlt (by omega) (by omega)
    have ei : nI (t + (d + 1)) - 1 = nI (t + d) := nI_pred (t + d)
    have ej : nI (t + d) + -1 = nI (t + d) - 1 := (Int32.sub_eq_add_neg _ _).symm
    obtain ⟨s0, s1⟩ := p_lays1 (h := (z, m)) (ar := a + 82) (at_ := a + 83) (ap := q0) (ab := q0 + 1) (ac := q0 + 2) (an := a + 87) hI (by omega) g3 hS (show t + d < S by omega) hM.1 hM.2.1 hp hb hd hM.2.2.2 (fun j hj => by rw [hB.2.2.2.2.2 _ (by omega) (by omega), hB.2.2.2.2.2 _ (by omega) (by omega)]; exact hrt j hj) (fun j hj hj2 => by rw [hB.a hS]; exact hpg j (by omega) hj2) hL (n0.trans hB.1.symm) (n1.trans hB.2.1.symm) (n3.trans hB.2.2.1.symm) (by omega) (by omega) (by omega) (by omega) (by omega) (by omega)
    rw [ei]
    unfold lB
    cases hn : lay1 ρ S (t + d) with
    | none =>
      have e := s0 hn
      refine ⟨fun _ => ⟨m, nI (t + d) - 1, ?_, fun _ _ => rfl⟩, fun q => absurd rfl q⟩
      rw [q84_169, ← p_wBx]
      simp only [q84_171, q84_173, q84_176, q84_178, q84_181, q84_181N, q84_182, q84_182N, q84_183, q84_183N, q84_185, q84_185N, q84_187, q84_187N, q84_189, q84_189N, q84_191, q84_192, q84_194, q84_197, q84_199, q84_202, rv_v, rv_n, rh_v, mu_at, isF_r, isK_r, fld_r, fset_r, gd0, gd1, gd2, gd3, gd4, gd5, gd6, gd7, gd8, gd9, gd10, gd11, gd12, gd13, inA_l, inW_l, inZ_l, inQ_l, aget_l, aset_l, qget_l, qset_l, isA_l, isA_q, alen_l, k2_i, k2_a, k2_n, k2_u, k2_l, ite_si, Option.isSome_some, List.cons_append, List.nil_append, List.length_cons, List.length_nil, Nat.reduceAdd, Nat.zero_add, Nat.reduceLT, Nat.reduceEqDiff, decide_true, decide_false, Bool.and_self, Bool.and_true, Bool.true_and, ↓reduceIte, List.set_cons_zero, List.set_cons_succ, Nat.reduceSub, Nat.add_left_cancel_iff, Nat.add_eq_left, Nat.left_eq_add, not_true_eq_false, not_false_eq_true, reduceCtorEq, i10, i01, ib10, ib01, beq_self_eq_true, eq_self, Int32.reduceLT, Int32.reduceToNatClampNeg, Int32.reduceAdd, Int32.reduceSub, Int32.reduceMul, Bool.or_true, Bool.true_or, Bool.or_false, Bool.false_or, Nat.reduceBEq, Nat.reduceMul, if_neg c1, e, ej]
    | some ρ' =>
      obtain ⟨df', m1, e, gL, gc, gb, gp, gf⟩ := s1 ρ' hn
      have gf : ∀ x, (x < q0 ∨ q0 + 3 ≤ x) → m1 x = m x := fun x hx => gf x (by omega) (by omega) (by omega)
      rw [hB.a hS] at gp
      obtain ⟨y', ey', hy'⟩ := lay1_tr hI g3 hS (show t + d < S by omega) hn hy
      obtain ⟨a0, a1⟩ := ih (u + 1) (k + 1) m1 ρ' (upd pf (t + d) (mA r S (t + d))) (upd bf (t + d) 1) df' y' (by omega) (by omega) (hM.fr (fun x q1 q2 => gf x (by omega))) gp gb gc (hI.la1 g3 hS (by omega) hlt hn) (hB.l1 hn) gL (by rw [lay1_keep hn (by omega)]; exact h45) (lay1_50 hn h50) (fun j hj => by rw [upd_n _ _ (by omega)]; exact hpf j hj) (fun j hj hj2 => by
        by_cases hz : j = t + d
        · rw [hz, upd_s]
        · rw [upd_n _ _ hz]; exact hpg j (by omega) hj2) ey'
      have st : rn 84 169 [.ref a, .ref (a + 82), .ref (a + 83), .ref (a + 86), .ref (a + 87), .int x5, .int x6, .int x7, .int (nI t), .ref q0, .ref (q0 + 1), .ref (q0 + 2), .int 1, .int (nI (t + d)), v14] [] (z, m) = rn 84 169 [.ref a, .ref (a + 82), .ref (a + 83), .ref (a + 86), .ref (a + 87), .int x5, .int x6, .int x7, .int (nI t), .ref q0, .ref (q0 + 1), .ref (q0 + 2), .int 1, .int (nI (t + d) - 1), v14] [] (z, m1) := by
        rw [q84_169]
        simp only [q84_171, q84_173, q84_176, q84_178, q84_181, q84_181N, q84_182, q84_182N, q84_183, q84_183N, q84_185, q84_185N, q84_187, q84_187N, q84_189, q84_189N, q84_191, q84_192, q84_194, q84_197, q84_199, q84_202, rv_v, rv_n, rh_v, mu_at, isF_r, isK_r, fld_r, fset_r, gd0, gd1, gd2, gd3, gd4, gd5, gd6, gd7, gd8, gd9, gd10, gd11, gd12, gd13, inA_l, inW_l, inZ_l, inQ_l, aget_l, aset_l, qget_l, qset_l, isA_l, isA_q, alen_l, k2_i, k2_a, k2_n, k2_u, k2_l, ite_si, Option.isSome_some, List.cons_append, List.nil_append, List.length_cons, List.length_nil, Nat.reduceAdd, Nat.zero_add, Nat.reduceLT, Nat.reduceEqDiff, decide_true, decide_false, Bool.and_self, Bool.and_true, Bool.true_and, ↓reduceIte, List.set_cons_zero, List.set_cons_succ, Nat.reduceSub, Nat.add_left_cancel_iff, Nat.add_eq_left, Nat.left_eq_add, not_true_eq_false, not_false_eq_true, reduceCtorEq, i10, i01, ib10, ib01, beq_self_eq_true, eq_self, Int32.reduceLT, Int32.reduceToNatClampNeg, Int32.reduceAdd, Int32.reduceSub, Int32.reduceMul, Bool.or_true, Bool.true_or, Bool.or_false, Bool.false_or, Nat.reduceBEq, Nat.reduceMul, if_neg c1, e, ej]
      refine ⟨fun q => ?_, fun q => ?_⟩
      · obtain ⟨m2, x13, q1, q2⟩ := a0 q
        exact ⟨m2, x13, st.trans q1, fun x hx => (q2 x hx).trans (gf x hx)⟩
      · obtain ⟨m2, p2, b2, d2, y2, q1, q2, q3, q4, q5, q6, q7, q8, q9, q10⟩ := a1 q
        exact ⟨m2, p2, b2, d2, y2, st.trans q1, fun x hx => (q2 x hx).trans (gf x hx), q3, q4, q5, q6, q7, q8, q9, by omega⟩
end
