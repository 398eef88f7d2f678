section
variable {a s W : Nat} {L : List Int32} {z : Nat × Nat}
theorem p_flight {m : xM} {P : List (Int32 × Int32)} (hs : s ≤ L.length) (hP : Pd m (a + 75) L) (hS : PS m (a + 77 + 1) P) :
    ((fR L s).1 = none → cl 41 [.ref (a + 77), .ref (a + 75)] (z, mu m (a + 77) (.inr (4, [.ref (a + 77 + 1), .int (nI W), .int (nI s)]))) = some (some (.int 0), (z, mu m (a + 77) (.inr (4, [.ref (a + 77 + 1), .int (nI W), .int (nI (fR L s).2)]))))) ∧ ∀ o, (fR L s).1 = some o → ∃ m', cl 41 [.ref (a + 77), .ref (a + 75)] (z, mu m (a + 77) (.inr (4, [.ref (a + 77 + 1), .int (nI W), .int (nI s)]))) = some (some (.int 1), (z, mu m' (a + 77) (.inr (4, [.ref (a + 77 + 1), .int (nI (W + cN o)), .int (nI (fR L s).2)])))) ∧ PS m' (a + 77 + 1) (P ++ List.replicate (cN o) (o.2.1, o.2.2)) ∧ ∀ q, (q < a + 77 ∨ a + 82 ≤ q) → m' q = m q := by
  have q1 := hP.1
  have e1 := p_readNum (z := z) (w := nI W) 2 25 hs hP
  rw [nE_1] at e1
  have hk1 := ok_1 (sg L s) (sg L (s + 1))
  have hs1 := rd_le 10 25 1 hs
  unfold fR
  generalize rd 10 25 1 (sg L s) (sg L (s + 1)) = R at *
  obtain ⟨x, v, o⟩ := R
  dsimp only at *
  rw [decide_eq_true_iff] at hk1
  by_cases ha : o = 0
  · have hx := hk1.mp ha
    rw [if_pos ha]
    have hb1 : bw x 2 20 = 0 := by
      unfold bw at hx ⊢
      by_cases a1 : x < 2
      · rw [if_pos a1]
      · rw [if_neg a1] at hx ⊢
        by_cases a2 : 25 < x
        · rw [if_pos]
          rw [Int32.lt_iff_toInt_lt] at a2 ⊢
          have a2 : 25 < x.toInt := a2
          show 20 < x.toInt
          omega
        · rw [if_neg a2] at hx; exact absurd hx (by decide)
    have hb2 : bw x 10 25 = 0 := by
      unfold bw at hx ⊢
      by_cases a1 : x < 2
      · rw [if_pos]
        rw [Int32.lt_iff_toInt_lt] at a1 ⊢
        have a1 : x.toInt < 2 := a1
        show x.toInt < 10
        omega
      · rw [if_neg a1] at hx
        by_cases a2 : x < 10
        · rw [if_pos a2]
        · rw [if_neg a2]; exact hx
    refine ⟨fun _ => ?_, fun o h => by cases h⟩
    simp only [c41, q41_0, q41_1, q41_2, q41_3, q41_3N, q41_4, q41_5, q41_7, q41_10, q41_11, q41_12, q41_13, q41_15, q41_18, q41_21, q41_22, q41_22N, q41_23, q41_25, q41_28, q41_31, q41_32, q41_33, q41_34, q41_34N, q41_35, q41_37, q41_39, q41_42, q41_43, q41_44, q41_46, q41_48, q41_51, q41_54, q41_55, q41_55N, q41_56, q41_58, q41_61, q41_64, q41_65, q41_66, q41_67, q41_67N, q41_68, q41_70, q41_72, q41_75, q41_77, q41_79, q41_81, q41_83, q41_86, q41_89, q41_90, q41_91, q41_92, q41_93, q41_94, q41_96, q41_99, q41_100, rv_v, rv_n, rh_v, mu_at, isF_r, isK_r, fld_r, fset_r, gd0, gd1, gd2, gd3, gd4, gd5, gd6, gd7, gd8, gd9, gd10, gd11, gd12, gd13, inA_l, inW_l, inZ_l, inQ_l, aget_l, aset_l, qget_l, qset_l, isA_l, isA_q, alen_l, k2_i, k2_a, k2_n, k2_u, k2_l, ite_si, Option.isSome_some, List.cons_append, List.nil_append, List.length_cons, List.length_nil, Nat.reduceAdd, Nat.zero_add, Nat.reduceLT, Nat.reduceEqDiff, decide_true, decide_false, Bool.and_self, Bool.and_true, Bool.true_and, ↓reduceIte, List.set_cons_zero, List.set_cons_succ, Nat.reduceSub, Nat.add_left_cancel_iff, Nat.add_eq_left, Nat.left_eq_add, not_true_eq_false, not_false_eq_true, reduceCtorEq, i10, i01, ib10, ib01, beq_self_eq_true, eq_self, Int32.reduceLT, Int32.reduceToNatClampNeg, Int32.reduceAdd, Int32.reduceSub, Int32.reduceMul, Bool.or_true, Bool.true_or, Bool.or_false, Bool.false_or, Nat.reduceBEq, Nat.reduceMul, p_isWithin, e1, if_pos hb1, if_pos hb2]
  · have hx : ¬ bw x 2 25 = 0 := fun q => ha (hk1.mpr q)
    obtain ⟨n, en, n1, n2⟩ := bwN (a := 2) (c := 25) hx (by decide) (by decide)
    have hw := bw_le en n2
    rw [if_neg ha]
    obtain ⟨t0, t1⟩ := p_fT (W := W) (z := z) (s := s + v) (kk := 1) (x := x) (by omega) hw hs1 hP hS unk
    have tl : rn 41 43 [.ref (a + 77), .ref (a + 75), .int 1, .int x, unk] [] (z, mu m (a + 77) (.inr (4, [.ref (a + 77 + 1), .int (nI W), .int (nI (s + v))]))) = rn 41 43 [.ref (a + 77), .ref (a + 75), .int (nI 1), .int x, unk] [] (z, mu m (a + 77) (.inr (4, [.ref (a + 77 + 1), .int (nI W), .int (nI (s + v))]))) := rfl
    have noStar : cl 41 [.ref (a + 77), .ref (a + 75)] (z, mu m (a + 77) (.inr (4, [.ref (a + 77 + 1), .int (nI W), .int (nI s)]))) = rn 41 43 [.ref (a + 77), .ref (a + 75), .int 1, .int x, unk] [] (z, mu m (a + 77) (.inr (4, [.ref (a + 77 + 1), .int (nI W), .int (nI (s + v))]))) → (((fT L 1 x (s + v)).1 = none → cl 41 [.ref (a + 77), .ref (a + 75)] (z, mu m (a + 77) (.inr (4, [.ref (a + 77 + 1), .int (nI W), .int (nI s)]))) = some (some (.int 0), (z, mu m (a + 77) (.inr (4, [.ref (a + 77 + 1), .int (nI W), .int (nI (fT L 1 x (s + v)).2)]))))) ∧ ∀ o, (fT L 1 x (s + v)).1 = some o → ∃ m', cl 41 [.ref (a + 77), .ref (a + 75)] (z, mu m (a + 77) (.inr (4, [.ref (a + 77 + 1), .int (nI W), .int (nI s)]))) = some (some (.int 1), (z, mu m' (a + 77) (.inr (4, [.ref (a + 77 + 1), .int (nI (W + cN o)), .int (nI (fT L 1 x (s + v)).2)])))) ∧ PS m' (a + 77 + 1) (P ++ List.replicate (cN o) (o.2.1, o.2.2)) ∧ ∀ q, (q < a + 77 ∨ a + 82 ≤ q) → m' q = m q) := fun e => by
      rw [tl] at e
      refine ⟨fun h => e.trans (t0 h), fun o h => ?_⟩
      obtain ⟨g1, m', g2, g3, g4⟩ := t1 o h
      have hc : cN o = 1 := by unfold cN; rw [g1]; rfl
      rw [hc]
      exact ⟨m', e.trans g2, g3, g4⟩
    unfold fM
    by_cases hb : bw x 2 20 = 0
    · rw [if_neg (fun q => q.1 hb)]
      refine noStar ?_
      simp only [c41, q41_0, q41_1, q41_2, q41_3, q41_3N, q41_4, q41_5, q41_7, q41_10, q41_11, q41_12, q41_13, q41_15, q41_18, q41_21, q41_22, q41_22N, q41_23, q41_25, q41_28, q41_31, q41_32, q41_33, q41_34, q41_34N, q41_35, q41_37, q41_39, q41_42, q41_44, q41_46, q41_48, q41_51, q41_54, q41_55, q41_55N, q41_56, q41_58, q41_61, q41_64, q41_65, q41_66, q41_67, q41_67N, q41_68, q41_70, q41_72, q41_75, q41_77, q41_79, q41_81, q41_83, q41_86, q41_89, q41_90, q41_91, q41_92, q41_93, q41_94, q41_96, q41_99, q41_100, rv_v, rv_n, rh_v, mu_at, isF_r, isK_r, fld_r, fset_r, gd0, gd1, gd2, gd3, gd4, gd5, gd6, gd7, gd8, gd9, gd10, gd11, gd12, gd13, inA_l, inW_l, inZ_l, inQ_l, aget_l, aset_l, qget_l, qset_l, isA_l, isA_q, alen_l, k2_i, k2_a, k2_n, k2_u, k2_l, ite_si, Option.isSome_some, List.cons_append, List.nil_append, List.length_cons, List.length_nil, Nat.reduceAdd, Nat.zero_add, Nat.reduceLT, Nat.reduceEqDiff, decide_true, decide_false, Bool.and_self, Bool.and_true, Bool.true_and, ↓reduceIte, List.set_cons_zero, List.set_cons_succ, Nat.reduceSub, Nat.add_left_cancel_iff, Nat.add_eq_left, Nat.left_eq_add, not_true_eq_false, not_false_eq_true, reduceCtorEq, i10, i01, ib10, ib01, beq_self_eq_true, eq_self, Int32.reduceLT, Int32.reduceToNatClampNeg, Int32.reduceAdd, Int32.reduceSub, Int32.reduceMul, Bool.or_true, Bool.true_or, Bool.or_false, Bool.false_or, Nat.reduceBEq, Nat.reduceMul, p_isWithin, e1, if_pos hb]
    · by_cases hc : sg L (s + v) = 42
      · rw [if_pos ⟨hb, hc⟩]
        have hlt : s + v + 1 ≤ L.length := sg_lt (fun q => by rw [q] at hc; exact absurd hc (by decide))
        have e2 := p_signY (z := z) (w := nI W) hc hs1 hP
        have e3 := p_readNum (z := z) (w := nI W) 10 25 hlt hP
        rw [nE_2] at e3
        have hk2 := ok_2 (sg L (s + v + 1)) (sg L (s + v + 1 + 1))
        have hs2 := rd_le 10 25 0 hlt
        obtain ⟨n', en', n3, n4⟩ := bwN (a := 2) (c := 20) hb (by decide) (by decide)
        generalize rd 10 25 0 (sg L (s + v + 1)) (sg L (s + v + 1 + 1)) = R2 at *
        obtain ⟨x2, v2, o2⟩ := R2
        dsimp only at *
        rw [decide_eq_true_iff] at hk2
        by_cases hd : o2 = 0
        · have hx2 := hk2.mp hd
          rw [if_pos hd]
          refine ⟨fun _ => ?_, fun o h => by cases h⟩
          simp only [c41, q41_0, q41_1, q41_2, q41_3, q41_3N, q41_4, q41_5, q41_7, q41_10, q41_11, q41_12, q41_13, q41_15, q41_18, q41_21, q41_22, q41_22N, q41_23, q41_25, q41_28, q41_31, q41_32, q41_33, q41_34, q41_34N, q41_35, q41_37, q41_39, q41_42, q41_43, q41_44, q41_46, q41_48, q41_51, q41_54, q41_55, q41_55N, q41_56, q41_58, q41_61, q41_64, q41_65, q41_66, q41_67, q41_67N, q41_68, q41_70, q41_72, q41_75, q41_77, q41_79, q41_81, q41_83, q41_86, q41_89, q41_90, q41_91, q41_92, q41_93, q41_94, q41_96, q41_99, q41_100, rv_v, rv_n, rh_v, mu_at, isF_r, isK_r, fld_r, fset_r, gd0, gd1, gd2, gd3, gd4, gd5, gd6, gd7, gd8, gd9, gd10, gd11, gd12, gd13, inA_l, inW_l, inZ_l, inQ_l, aget_l, aset_l, qget_l, qset_l, isA_l, isA_q, alen_l, k2_i, k2_a, k2_n, k2_u, k2_l, ite_si, Option.isSome_some, List.cons_append, List.nil_append, List.length_cons, List.length_nil, Nat.reduceAdd, Nat.zero_add, Nat.reduceLT, Nat.reduceEqDiff, decide_true, decide_false, Bool.and_self, Bool.and_true, Bool.true_and, ↓reduceIte, List.set_cons_zero, List.set_cons_succ, Nat.reduceSub, Nat.add_left_cancel_iff, Nat.add_eq_left, Nat.left_eq_add, not_true_eq_false, not_false_eq_true, reduceCtorEq, i10, i01, ib10, ib01, beq_self_eq_true, eq_self, Int32.reduceLT, Int32.reduceToNatClampNeg, Int32.reduceAdd, Int32.reduceSub, Int32.reduceMul, Bool.or_true, Bool.true_or, Bool.or_false, Bool.false_or, Nat.reduceBEq, Nat.reduceMul, p_isWithin, e1, if_neg hb, e2, e3, if_pos hx2]
        · have hx2 : ¬ bw x2 10 25 = 0 := fun q => hd (hk2.mpr q)
          rw [if_neg hd]
          have hw2 : bw x2 10 25 = 0 ↔ x2 < 10 := by
            obtain ⟨n5, e5, -, n6⟩ := bwN (a := 10) (c := 25) hx2 (by decide) (by decide)
            exact bw_le e5 n6
          obtain ⟨u0, u1⟩ := p_fT (W := W) (z := z) (s := s + v + 1 + v2) (kk := n') (x := x2) (by omega) hw2 hs2 hP hS unk
          rw [← en'] at u0 u1
          have e : cl 41 [.ref (a + 77), .ref (a + 75)] (z, mu m (a + 77) (.inr (4, [.ref (a + 77 + 1), .int (nI W), .int (nI s)]))) = rn 41 43 [.ref (a + 77), .ref (a + 75), .int x, .int x2, unk] [] (z, mu m (a + 77) (.inr (4, [.ref (a + 77 + 1), .int (nI W), .int (nI (s + v + 1 + v2))]))) := by
            simp only [c41, q41_0, q41_1, q41_2, q41_3, q41_3N, q41_4, q41_5, q41_7, q41_10, q41_11, q41_12, q41_13, q41_15, q41_18, q41_21, q41_22, q41_22N, q41_23, q41_25, q41_28, q41_31, q41_32, q41_33, q41_34, q41_34N, q41_35, q41_37, q41_39, q41_42, q41_44, q41_46, q41_48, q41_51, q41_54, q41_55, q41_55N, q41_56, q41_58, q41_61, q41_64, q41_65, q41_66, q41_67, q41_67N, q41_68, q41_70, q41_72, q41_75, q41_77, q41_79, q41_81, q41_83, q41_86, q41_89, q41_90, q41_91, q41_92, q41_93, q41_94, q41_96, q41_99, q41_100, rv_v, rv_n, rh_v, mu_at, isF_r, isK_r, fld_r, fset_r, gd0, gd1, gd2, gd3, gd4, gd5, gd6, gd7, gd8, gd9, gd10, gd11, gd12, gd13, inA_l, inW_l, inZ_l, inQ_l, aget_l, aset_l, qget_l, qset_l, isA_l, isA_q, alen_l, k2_i, k2_a, k2_n, k2_u, k2_l, ite_si, Option.isSome_some, List.cons_append, List.nil_append, List.length_cons, List.length_nil, Nat.reduceAdd, Nat.zero_add, Nat.reduceLT, Nat.reduceEqDiff, decide_true, decide_false, Bool.and_self, Bool.and_true, Bool.true_and, ↓reduceIte, List.set_cons_zero, List.set_cons_succ, Nat.reduceSub, Nat.add_left_cancel_iff, Nat.add_eq_left, Nat.left_eq_add, not_true_eq_false, not_false_eq_true, reduceCtorEq, i10, i01, ib10, ib01, beq_self_eq_true, eq_self, Int32.reduceLT, Int32.reduceToNatClampNeg, Int32.reduceAdd, Int32.reduceSub, Int32.reduceMul, Bool.or_true, Bool.true_or, Bool.or_false, Bool.false_or, Nat.reduceBEq, Nat.reduceMul, p_isWithin, e1, if_neg hb, e2, e3]
          refine ⟨fun h => e.trans (u0 h), fun o h => ?_⟩
          obtain ⟨g1, m', g2, g3, g4⟩ := u1 o h
          have hcn : cN o = n' := by unfold cN; rw [g1, en']; exact nI_clamp (by omega)
          rw [hcn]
          exact ⟨m', e.trans g2, g3, g4⟩
      · rw [if_neg (fun q => hc q.2)]
        have e2 := p_signN (z := z) (w := nI W) hc hs1 hP
        refine noStar ?_
        simp only [c41, q41_0, q41_1, q41_2, q41_3, q41_3N, q41_4, q41_5, q41_7, q41_10, q41_11, q41_12, q41_13, q41_15, q41_18, q41_21, q41_22, q41_22N, q41_23, q41_25, q41_28, q41_31, q41_32, q41_33, q41_34, q41_34N, q41_35, q41_37, q41_39, q41_42, q41_44, q41_46, q41_48, q41_51, q41_54, q41_55, q41_55N, q41_56, q41_58, q41_61, q41_64, q41_65, q41_66, q41_67, q41_67N, q41_68, q41_70, q41_72, q41_75, q41_77, q41_79, q41_81, q41_83, q41_86, q41_89, q41_90, q41_91, q41_92, q41_93, q41_94, q41_96, q41_99, q41_100, rv_v, rv_n, rh_v, mu_at, isF_r, isK_r, fld_r, fset_r, gd0, gd1, gd2, gd3, gd4, gd5, gd6, gd7, gd8, gd9, gd10, gd11, gd12, gd13, inA_l, inW_l, inZ_l, inQ_l, aget_l, aset_l, qget_l, qset_l, isA_l, isA_q, alen_l, k2_i, k2_a, k2_n, k2_u, k2_l, ite_si, Option.isSome_some, List.cons_append, List.nil_append, List.length_cons, List.length_nil, Nat.reduceAdd, Nat.zero_add, Nat.reduceLT, Nat.reduceEqDiff, decide_true, decide_false, Bool.and_self, Bool.and_true, Bool.true_and, ↓reduceIte, List.set_cons_zero, List.set_cons_succ, Nat.reduceSub, Nat.add_left_cancel_iff, Nat.add_eq_left, Nat.left_eq_add, not_true_eq_false, not_false_eq_true, reduceCtorEq, i10, i01, ib10, ib01, beq_self_eq_true, eq_self, Int32.reduceLT, Int32.reduceToNatClampNeg, Int32.reduceAdd, Int32.reduceSub, Int32.reduceMul, Bool.or_true, Bool.true_or, Bool.or_false, Bool.false_or, Nat.reduceBEq, Nat.reduceMul, p_isWithin, e1, if_neg hb, e2]
theorem stp_app : ∀ (F : List Fl) (o : Fl), stp (F ++ [o]) = stp F ++ List.replicate (cN o) (o.2.1, o.2.2)
  | [], o => by
    show List.replicate (cN o) (o.2.1, o.2.2) ++ stp [] = [] ++ List.replicate (cN o) (o.2.1, o.2.2)
    rw [show stp [] = [] from rfl, List.append_nil, List.nil_append]
  | p :: F, o => by
    show List.replicate (cN p) (p.2.1, p.2.2) ++ stp (F ++ [o]) = (List.replicate (cN p) (p.2.1, p.2.2) ++ stp F) ++ List.replicate (cN o) (o.2.1, o.2.2)
    rw [stp_app F o, List.append_assoc]
theorem p_rfLoop : ∀ (n i s : Nat) (F : List Fl) (m : xM), i + n = 61 → 3 * i ≤ s → s ≤ L.length → Pd m (a + 75) L → PS m (a + 77 + 1) (stp F) → ∃ m', rn 40 20 [.ref (a + 77), .ref (a + 75), .int (nI i)] [] (z, mu m (a + 77) (.inr (4, [.ref (a + 77 + 1), .int (nI (stp F).length), .int (nI s)]))) = some (some (.int (if (tx L n s F).2.2 = 0 then nI (tx L n s F).2.1 else -6)), (z, mu m' (a + 77) (.inr (4, [.ref (a + 77 + 1), .int (nI (stp (tx L n s F).1).length), .int (nI (tx L n s F).2.1)])))) ∧ PS m' (a + 77 + 1) (stp (tx L n s F).1) ∧ ∀ q, (q < a + 77 ∨ a + 82 ≤ q) → m' q = m q := by
  intro n
  induction n with
  | zero =>
    intro i s F m hi h3 hs hP hS
    have := hP.2.1
    omega
  | succ n ih =>
    intro i s F m hi h3 hs hP hS
    have hl := hP.2.1
    have c1 : nI i < 60 := nI_lt (b := 60) (by omega) (by decide)
    obtain ⟨t0, t1⟩ := p_flight (z := z) (W := (stp F).length) hs hP hS
    have hle := fR_le hs
    cases hr : (fR L s).1 with
    | none =>
      have e := t0 hr
      rw [show tx L (n + 1) s F = (F, (fR L s).2, 0) from by unfold tx; rw [hr]]
      refine ⟨m, ?_, hS, fun _ _ => rfl⟩
      rw [q40_20]
      simp only [q40_0, q40_1, q40_2, q40_5, q40_6, q40_9, q40_10, q40_13, q40_14, q40_15, q40_18, q40_19, q40_21, q40_23, q40_26, q40_27, q40_27N, q40_28, q40_31, q40_34, q40_35, q40_38, q40_39, q40_40, q40_43, q40_43N, q40_44, q40_47, q40_50, q40_52, q40_53, q40_54, q40_54N, q40_55, q40_57, q40_60, q40_63, q40_64, q40_67, q40_68, q40_71, q40_74, q40_75, q40_78, rv_v, rv_n, rh_v, mu_at, isF_r, isK_r, fld_r, fset_r, gd0, gd1, gd2, gd3, gd4, gd5, gd6, gd7, gd8, gd9, gd10, gd11, gd12, gd13, inA_l, inW_l, inZ_l, inQ_l, aget_l, aset_l, qget_l, qset_l, isA_l, isA_q, alen_l, k2_i, k2_a, k2_n, k2_u, k2_l, ite_si, Option.isSome_some, List.cons_append, List.nil_append, List.length_cons, List.length_nil, Nat.reduceAdd, Nat.zero_add, Nat.reduceLT, Nat.reduceEqDiff, decide_true, decide_false, Bool.and_self, Bool.and_true, Bool.true_and, ↓reduceIte, List.set_cons_zero, List.set_cons_succ, Nat.reduceSub, Nat.add_left_cancel_iff, Nat.add_eq_left, Nat.left_eq_add, not_true_eq_false, not_false_eq_true, reduceCtorEq, i10, i01, ib10, ib01, beq_self_eq_true, eq_self, Int32.reduceLT, Int32.reduceToNatClampNeg, Int32.reduceAdd, Int32.reduceSub, Int32.reduceMul, Bool.or_true, Bool.true_or, Bool.or_false, Bool.false_or, Nat.reduceBEq, Nat.reduceMul, c1, e]
    | some o =>
      obtain ⟨m1, e, g1, f1⟩ := t1 o hr
      have hadv := fR_adv hr
      have el : (stp F).length + cN o = (stp (F ++ [o])).length := by rw [stp_app, List.length_append, List.length_replicate]
      rw [← stp_app] at g1
      rw [el] at e
      have hP1 : Pd m1 (a + 75) L := hP.fr (fun x q1 q2 => f1 x (by omega))
      have q1 := hP1.1
      by_cases hend : (fR L s).2 = L.length
      · have hz : ¬ sg L (fR L s).2 = 59 := fun q => by
          have := sg_lt (L := L) (s := (fR L s).2) (by rw [q]; decide)
          omega
        have e2 : nI (fR L s).2 = nI L.length := by rw [hend]
        rw [show tx L (n + 1) s F = (F ++ [o], (fR L s).2, 1) from by unfold tx; rw [hr]; dsimp only; rw [if_neg hz, if_pos hend]]
        refine ⟨m1, ?_, g1, f1⟩
        rw [q40_20]
        simp only [q40_0, q40_1, q40_2, q40_5, q40_6, q40_9, q40_10, q40_13, q40_14, q40_15, q40_18, q40_19, q40_21, q40_23, q40_26, q40_27, q40_27N, q40_28, q40_31, q40_34, q40_35, q40_38, q40_39, q40_40, q40_43, q40_43N, q40_44, q40_47, q40_50, q40_52, q40_53, q40_54, q40_54N, q40_55, q40_57, q40_60, q40_63, q40_64, q40_67, q40_68, q40_71, q40_74, q40_75, q40_78, rv_v, rv_n, rh_v, mu_at, isF_r, isK_r, fld_r, fset_r, gd0, gd1, gd2, gd3, gd4, gd5, gd6, gd7, gd8, gd9, gd10, gd11, gd12, gd13, inA_l, inW_l, inZ_l, inQ_l, aget_l, aset_l, qget_l, qset_l, isA_l, isA_q, alen_l, k2_i, k2_a, k2_n, k2_u, k2_l, ite_si, Option.isSome_some, List.cons_append, List.nil_append, List.length_cons, List.length_nil, Nat.reduceAdd, Nat.zero_add, Nat.reduceLT, Nat.reduceEqDiff, decide_true, decide_false, Bool.and_self, Bool.and_true, Bool.true_and, ↓reduceIte, List.set_cons_zero, List.set_cons_succ, Nat.reduceSub, Nat.add_left_cancel_iff, Nat.add_eq_left, Nat.left_eq_add, not_true_eq_false, not_false_eq_true, reduceCtorEq, i10, i01, ib10, ib01, beq_self_eq_true, eq_self, Int32.reduceLT, Int32.reduceToNatClampNeg, Int32.reduceAdd, Int32.reduceSub, Int32.reduceMul, Bool.or_true, Bool.true_or, Bool.or_false, Bool.false_or, Nat.reduceBEq, Nat.reduceMul, c1, e, q1, if_pos e2]
      · have e2 : ¬ nI (fR L s).2 = nI L.length := fun q => hend (nI_inj (by omega) (by omega) q)
        by_cases hz : sg L (fR L s).2 = 59
        · have e3 := p_signY (z := z) (w := nI (stp (F ++ [o])).length) hz hle hP1
          have hlt : (fR L s).2 + 1 ≤ L.length := by omega
          obtain ⟨m2, e4, g2, f2⟩ := ih (i + 1) ((fR L s).2 + 1) (F ++ [o]) m1 (by omega) (by omega) hlt hP1 g1
          rw [show tx L (n + 1) s F = tx L n ((fR L s).2 + 1) (F ++ [o]) from by rw [tx, hr]; dsimp only; rw [if_pos hz]]
          refine ⟨m2, ?_, g2, fun q hq => (f2 q hq).trans (f1 q hq)⟩
          rw [q40_20]
          simp only [q40_0, q40_1, q40_2, q40_5, q40_6, q40_9, q40_10, q40_13, q40_14, q40_15, q40_18, q40_19, q40_21, q40_23, q40_26, q40_27, q40_27N, q40_28, q40_31, q40_34, q40_35, q40_38, q40_39, q40_40, q40_43, q40_43N, q40_44, q40_47, q40_50, q40_52, q40_53, q40_54, q40_54N, q40_55, q40_57, q40_60, q40_63, q40_64, q40_67, q40_68, q40_71, q40_74, q40_75, q40_78, rv_v, rv_n, rh_v, mu_at, isF_r, isK_r, fld_r, fset_r, gd0, gd1, gd2, gd3, gd4, gd5, gd6, gd7, gd8, gd9, gd10, gd11, gd12, gd13, inA_l, inW_l, inZ_l, inQ_l, aget_l, aset_l, qget_l, qset_l, isA_l, isA_q, alen_l, k2_i, k2_a, k2_n, k2_u, k2_l, ite_si, Option.isSome_some, List.cons_append, List.nil_append, List.length_cons, List.length_nil, Nat.reduceAdd, Nat.zero_add, Nat.reduceLT, Nat.reduceEqDiff, decide_true, decide_false, Bool.and_self, Bool.and_true, Bool.true_and, ↓reduceIte, List.set_cons_zero, List.set_cons_succ, Nat.reduceSub, Nat.add_left_cancel_iff, Nat.add_eq_left, Nat.left_eq_add, not_true_eq_false, not_false_eq_true, reduceCtorEq, i10, i01, ib10, ib01, beq_self_eq_true, eq_self, Int32.reduceLT, Int32.reduceToNatClampNeg, Int32.reduceAdd, Int32.reduceSub, Int32.reduceMul, Bool.or_true, Bool.true_or, Bool.or_false, Bool.false_or, Nat.reduceBEq, Nat.reduceMul, c1, e, q1, if_neg e2, e3, nI_1, e4]
        · have e3 := p_signN (z := z) (w := nI (stp (F ++ [o])).length) hz hle hP1
          rw [show tx L (n + 1) s F = (F ++ [o], (fR L s).2, 0) from by unfold tx; rw [hr]; dsimp only; rw [if_neg hz, if_neg hend]]
          refine ⟨m1, ?_, g1, f1⟩
          rw [q40_20]
          simp only [q40_0, q40_1, q40_2, q40_5, q40_6, q40_9, q40_10, q40_13, q40_14, q40_15, q40_18, q40_19, q40_21, q40_23, q40_26, q40_27, q40_27N, q40_28, q40_31, q40_34, q40_35, q40_38, q40_39, q40_40, q40_43, q40_43N, q40_44, q40_47, q40_50, q40_52, q40_53, q40_54, q40_54N, q40_55, q40_57, q40_60, q40_63, q40_64, q40_67, q40_68, q40_71, q40_74, q40_75, q40_78, rv_v, rv_n, rh_v, mu_at, isF_r, isK_r, fld_r, fset_r, gd0, gd1, gd2, gd3, gd4, gd5, gd6, gd7, gd8, gd9, gd10, gd11, gd12, gd13, inA_l, inW_l, inZ_l, inQ_l, aget_l, aset_l, qget_l, qset_l, isA_l, isA_q, alen_l, k2_i, k2_a, k2_n, k2_u, k2_l, ite_si, Option.isSome_some, List.cons_append, List.nil_append, List.length_cons, List.length_nil, Nat.reduceAdd, Nat.zero_add, Nat.reduceLT, Nat.reduceEqDiff, decide_true, decide_false, Bool.and_self, Bool.and_true, Bool.true_and, ↓reduceIte, List.set_cons_zero, List.set_cons_succ, Nat.reduceSub, Nat.add_left_cancel_iff, Nat.add_eq_left, Nat.left_eq_add, not_true_eq_false, not_false_eq_true, reduceCtorEq, i10, i01, ib10, ib01, beq_self_eq_true, eq_self, Int32.reduceLT, Int32.reduceToNatClampNeg, Int32.reduceAdd, Int32.reduceSub, Int32.reduceMul, Bool.or_true, Bool.true_or, Bool.or_false, Bool.false_or, Nat.reduceBEq, Nat.reduceMul, c1, e, q1, if_neg e2, e3]
theorem p_readFrom {h : xH} (hP : Pd h.2 (a + 75) L) (hn : Pn h.2 (a + 77)) : ∃ m', cl 40 [.ref (a + 77), .ref (a + 75)] h = some (some (.int (if (TX L).2.2 = 0 then nI (TX L).2.1 else -6)), (h.1, m')) ∧ m' (a + 77) = .inr (4, [.ref (a + 77 + 1), .int (nI (stp (TX L).1).length), .int (nI (TX L).2.1)]) ∧ PS m' (a + 77 + 1) (stp (TX L).1) ∧ ∀ q, (q < a + 77 ∨ a + 82 ≤ q) → m' q = h.2 q := by
  obtain ⟨w, p, n, ri, tr, ft, h1, h2⟩ := hn
  obtain ⟨s1, s2, s3, s4⟩ := h2
  obtain ⟨z, m⟩ := h
  have hS : PS (mu m (a + 77 + 1) (.inr (6, [.ref (a + 77 + 2), .ref (a + 77 + 3), .ref (a + 77 + 4), .int 0]))) (a + 77 + 1) (stp []) := ⟨0, ri, tr, ft, ⟨mu_s _ _ _, by rw [mu_n _ _ (by omega)]; exact s2, by rw [mu_n _ _ (by omega)]; exact s3, by rw [mu_n _ _ (by omega)]; exact s4⟩, rfl, fun j p hj => absurd hj (by omega)⟩
  obtain ⟨m', e, g, f⟩ := p_rfLoop (a := a) (z := z) (L := L) 61 0 0 [] (mu m (a + 77 + 1) (.inr (6, [.ref (a + 77 + 2), .ref (a + 77 + 3), .ref (a + 77 + 4), .int 0]))) (by omega) (by omega) (Nat.zero_le _) (hP.fr (fun x q1 q2 => mu_n _ _ (by omega))) hS
  refine ⟨_, ?_, mu_s _ _ _, g.fr (fun x q1 q2 => mu_n _ _ (by omega)), fun q hq => by rw [mu_n _ _ (by omega), f q hq, mu_n _ _ (by omega)]⟩
  have sw : ∀ x y : va_E, mu (mu m (a + 77 + 1) x) (a + 77) y = mu (mu m (a + 77) y) (a + 77 + 1) x := fun x y => by
    funext q
    simp only [mu_at]
    by_cases h1 : q = a + 77
    · rw [if_pos h1, if_neg (by omega), if_pos h1]
    · rw [if_neg h1, if_neg h1]
  show _ = some (some (Value.int (if (tx L 61 0 []).2.2 = 0 then nI (tx L 61 0 []).2.1 else -6)), (z, _))
  unfold TX
  rw [← e, sw]
  have h1 : m (a + 77) = _ := h1
  have s1 : m (a + 77 + 1) = _ := s1
  have sw2 : ∀ x y w : va_E, mu (mu (mu m (a + 77) y) (a + 77 + 1) x) (a + 77) w = mu (mu m (a + 77) w) (a + 77 + 1) x := fun x y w => by
    funext q
    simp only [mu_at]
    by_cases h1 : q = a + 77
    · rw [if_pos h1, if_neg (by omega), if_pos h1]
    · rw [if_neg h1, if_neg h1]
      by_cases h2 : q = a + 77 + 1
      · rw [if_pos h2, if_pos h2]
      · rw [if_neg h2, if_neg h2, if_neg h1]
  simp only [c40, q40_0, q40_1, q40_2, q40_5, q40_6, q40_9, q40_10, q40_13, q40_14, q40_15, q40_18, q40_19, q40_21, q40_23, q40_26, q40_27, q40_27N, q40_28, q40_31, q40_34, q40_35, q40_38, q40_39, q40_40, q40_43, q40_43N, q40_44, q40_47, q40_50, q40_52, q40_53, q40_54, q40_54N, q40_55, q40_57, q40_60, q40_63, q40_64, q40_67, q40_68, q40_71, q40_74, q40_75, q40_78, rv_v, rv_n, rh_v, mu_at, isF_r, isK_r, fld_r, fset_r, gd0, gd1, gd2, gd3, gd4, gd5, gd6, gd7, gd8, gd9, gd10, gd11, gd12, gd13, inA_l, inW_l, inZ_l, inQ_l, aget_l, aset_l, qget_l, qset_l, isA_l, isA_q, alen_l, k2_i, k2_a, k2_n, k2_u, k2_l, ite_si, Option.isSome_some, List.cons_append, List.nil_append, List.length_cons, List.length_nil, Nat.reduceAdd, Nat.zero_add, Nat.reduceLT, Nat.reduceEqDiff, decide_true, decide_false, Bool.and_self, Bool.and_true, Bool.true_and, ↓reduceIte, List.set_cons_zero, List.set_cons_succ, Nat.reduceSub, Nat.add_left_cancel_iff, Nat.add_eq_left, Nat.left_eq_add, not_true_eq_false, not_false_eq_true, reduceCtorEq, i10, i01, ib10, ib01, beq_self_eq_true, eq_self, Int32.reduceLT, Int32.reduceToNatClampNeg, Int32.reduceAdd, Int32.reduceSub, Int32.reduceMul, Bool.or_true, Bool.true_or, Bool.or_false, Bool.false_or, Nat.reduceBEq, Nat.reduceMul, h1, s1, sw2]
  rfl
end
