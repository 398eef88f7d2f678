/-- a text's flights, how far it is read, whether it is a text -/
def tx (L : List Int32) : Nat → Nat → List Fl → List Fl × Nat × Int32
  | 0, s, F => (F, s, 0)
  | n + 1, s, F => match (fR L s).1 with
    | none => (F, (fR L s).2, 0)
    | some o => if sg L (fR L s).2 = 59 then tx L n ((fR L s).2 + 1) (F ++ [o]) else (F ++ [o], (fR L s).2, if (fR L s).2 = L.length then 1 else 0)
theorem tx_01 (L : List Int32) : ∀ (n s : Nat) (F : List Fl), (tx L n s F).2.2 = 0 ∨ (tx L n s F).2.2 = 1
  | 0, _, _ => Or.inl rfl
  | n + 1, s, F => by
    unfold tx
    split
    · exact Or.inl rfl
    · split
      · exact tx_01 L n _ _
      · show (if (fR L s).2 = L.length then (1 : Int32) else 0) = 0 ∨ (if (fR L s).2 = L.length then (1 : Int32) else 0) = 1
        split
        · exact Or.inr rfl
        · exact Or.inl rfl
section
variable {b f s : Nat} {st le nu : Int32} {L : List Int32} {pf mn rs ts : Nat → Int32} {z : Nat × Nat} {m : xM} {h : xH} {σ : AS}
theorem FA.tr {m m' m'' : xM} {mn' rs' ts' : Nat → Int32} (h : FA b m m' mn rs ts) (h' : FA b m' m'' mn' rs' ts') : FA b m m'' mn' rs' ts' :=
  ⟨h'.1, h'.2.1, h'.2.2.1, fun q hq => (h'.2.2.2 q hq).trans (h.2.2.2 q hq)⟩
theorem m_txLoop (hP : PA pf L) (hL : L.length ≤ 60) : ∀ (n s : Nat) (F : List Fl) (nu : Int32) (mn rs ts : Nat → Int32) (m : xM), L.length < s + n → s ≤ L.length → F.length * 4 ≤ s → m (b + 6) = .inl (0, 60, .inl pf) → m (b + 7) = .inl (0, 16, .inl mn) → m (b + 8) = .inl (0, 16, .inl rs) → m (b + 9) = .inl (0, 16, .inl ts) → HF mn rs ts (F ++ (fR L s).1.toList) → ∃ (m' : xM) (nu' : Int32) (mn' rs' ts' : Nat → Int32), rn 144 15 [.ref b, .int (oJ (fR L s).1)] [] (z, mu m b (MC b st (nI L.length) (fR L s).2 nu (F ++ (fR L s).1.toList).length)) = some (some (.int (tx L n s F).2.2), (z, mu m' b (MC b st (nI L.length) (tx L n s F).2.1 nu' (tx L n s F).1.length))) ∧ FA b m m' mn' rs' ts' ∧ HF mn' rs' ts' (tx L n s F).1 := by
  intro n
  induction n with
  | zero => intro s F nu mn rs ts m hn hs; exact absurd hn (by omega)
  | succ n ih =>
    intro s F nu mn rs ts m hn hs hF4 h6 h7 h8 h9 hF
    have hA : FA b m m mn rs ts := ⟨h7, h8, h9, fun _ _ => rfl⟩
    have hle := fR_le hs
    unfold tx
    cases hr : (fR L s).1 with
    | none =>
      rw [hr] at hF
      refine ⟨m, nu, mn, rs, ts, ?_, hA, by rw [show (none : Option Fl).toList = [] from rfl, List.append_nil] at hF; exact hF⟩
      rw [show (none : Option Fl).toList = [] from rfl, List.append_nil, show oJ none = 0 from rfl, q144_15]
      simp only [q144_0, q144_1, q144_2, q144_5, q144_6, q144_7, q144_10, q144_11, q144_14, q144_16, q144_19, q144_20, q144_22, q144_25, q144_28, q144_29, q144_32, q144_33, q144_36, q144_37, q144_40, q144_41, q144_44, q144_45, q144_48, q144_51, q144_52, q144_55, q144_56, rv_v, rv_n, rh_v, mu_at, isF_r, isK_r, fld_r, fset_r, gd0, gd1, gd2, gd3, gd4, gd5, gd6, gd7, gd8, gd9, gd10, gd11, gd12, gd13, inA_l, inW_l, inZ_l, inQ_l, aget_l, aset_l, qget_l, qset_l, isA_l, isA_q, alen_l, k2_i, k2_a, k2_n, k2_u, k2_l, ite_si, Option.isSome_some, List.cons_append, List.nil_append, List.length_cons, List.length_nil, Nat.reduceAdd, Nat.zero_add, Nat.reduceLT, Nat.reduceEqDiff, decide_true, decide_false, Bool.and_self, Bool.and_true, Bool.true_and, ↓reduceIte, List.set_cons_zero, List.set_cons_succ, Nat.reduceSub, Nat.add_left_cancel_iff, Nat.add_eq_left, Nat.left_eq_add, not_true_eq_false, not_false_eq_true, reduceCtorEq, i10, i01, ib10, ib01, beq_self_eq_true, eq_self, Int32.reduceLT, Int32.reduceToNatClampNeg, Int32.reduceAdd, Int32.reduceSub, Int32.reduceMul, Bool.or_true, Bool.true_or, Bool.or_false, Bool.false_or, Nat.reduceBEq, Nat.reduceMul, isF_C, isK_C, fC0, fC1, fC6, fC7, fC8, fC9, fC10, fC11, fC12, fC13, sC8, sC8z, sC9, sC10, sC10z, sw7, sw8, sw9]
    | some o =>
      rw [hr] at hF
      have hadv := fR_adv hr
      have hlen : (F ++ [o]).length = F.length + 1 := by simp
      rw [show (some o : Option Fl).toList = [o] from rfl, show oJ (some o) = 1 from rfl]
      have hF : HF mn rs ts (F ++ [o]) := hF
      dsimp only
      by_cases hc : sg L (fR L s).2 = 59
      · rw [if_pos hc]
        have hlt : (fR L s).2 + 1 ≤ L.length := sg_lt (fun q => by rw [q] at hc; exact absurd hc (by decide))
        have e1 := m_takesY (z := z) (st := st) (nu := nu) (f := (F ++ [o]).length) hc hle h6 hP hL
        obtain ⟨m1, nu1, mn1, rs1, ts1, q1, q2, q3⟩ := m_flight (z := z) (st := st) (nu := nu) hF (by omega) hlt h7 h8 h9 h6 hP hL
        have hA1 := q2
        obtain ⟨k7, k8, k9, k⟩ := q2
        obtain ⟨m2, nu2, mn2, rs2, ts2, w1, w2, w3⟩ := ih ((fR L s).2 + 1) (F ++ [o]) nu1 mn1 rs1 ts1 m1 (by omega) hlt (by omega) (by rw [k _ (by omega)]; exact h6) k7 k8 k9 q3
        refine ⟨m2, nu2, mn2, rs2, ts2, ?_, hA1.tr w2, w3⟩
        rw [← w1, q144_15]
        simp only [q144_0, q144_1, q144_2, q144_5, q144_6, q144_7, q144_10, q144_11, q144_14, q144_16, q144_19, q144_20, q144_22, q144_25, q144_28, q144_29, q144_32, q144_33, q144_36, q144_37, q144_40, q144_41, q144_44, q144_45, q144_48, q144_51, q144_52, q144_55, q144_56, rv_v, rv_n, rh_v, mu_at, isF_r, isK_r, fld_r, fset_r, gd0, gd1, gd2, gd3, gd4, gd5, gd6, gd7, gd8, gd9, gd10, gd11, gd12, gd13, inA_l, inW_l, inZ_l, inQ_l, aget_l, aset_l, qget_l, qset_l, isA_l, isA_q, alen_l, k2_i, k2_a, k2_n, k2_u, k2_l, ite_si, Option.isSome_some, List.cons_append, List.nil_append, List.length_cons, List.length_nil, Nat.reduceAdd, Nat.zero_add, Nat.reduceLT, Nat.reduceEqDiff, decide_true, decide_false, Bool.and_self, Bool.and_true, Bool.true_and, ↓reduceIte, List.set_cons_zero, List.set_cons_succ, Nat.reduceSub, Nat.add_left_cancel_iff, Nat.add_eq_left, Nat.left_eq_add, not_true_eq_false, not_false_eq_true, reduceCtorEq, i10, i01, ib10, ib01, beq_self_eq_true, eq_self, Int32.reduceLT, Int32.reduceToNatClampNeg, Int32.reduceAdd, Int32.reduceSub, Int32.reduceMul, Bool.or_true, Bool.true_or, Bool.or_false, Bool.false_or, Nat.reduceBEq, Nat.reduceMul, isF_C, isK_C, fC0, fC1, fC6, fC7, fC8, fC9, fC10, fC11, fC12, fC13, sC8, sC8z, sC9, sC10, sC10z, sw7, sw8, sw9, e1, q1]
      · rw [if_neg hc]
        have e1 := m_takesN (z := z) (st := st) (nu := nu) (f := (F ++ [o]).length) hc hle h6 hP hL
        refine ⟨m, nu, mn, rs, ts, ?_, hA, hF⟩
        rw [q144_15]
        by_cases hd : (fR L s).2 = L.length
        · rw [hd] at e1
          rw [if_pos hd, hd]
          simp only [q144_0, q144_1, q144_2, q144_5, q144_6, q144_7, q144_10, q144_11, q144_14, q144_16, q144_19, q144_20, q144_22, q144_25, q144_28, q144_29, q144_32, q144_33, q144_36, q144_37, q144_40, q144_41, q144_44, q144_45, q144_48, q144_51, q144_52, q144_55, q144_56, rv_v, rv_n, rh_v, mu_at, isF_r, isK_r, fld_r, fset_r, gd0, gd1, gd2, gd3, gd4, gd5, gd6, gd7, gd8, gd9, gd10, gd11, gd12, gd13, inA_l, inW_l, inZ_l, inQ_l, aget_l, aset_l, qget_l, qset_l, isA_l, isA_q, alen_l, k2_i, k2_a, k2_n, k2_u, k2_l, ite_si, Option.isSome_some, List.cons_append, List.nil_append, List.length_cons, List.length_nil, Nat.reduceAdd, Nat.zero_add, Nat.reduceLT, Nat.reduceEqDiff, decide_true, decide_false, Bool.and_self, Bool.and_true, Bool.true_and, ↓reduceIte, List.set_cons_zero, List.set_cons_succ, Nat.reduceSub, Nat.add_left_cancel_iff, Nat.add_eq_left, Nat.left_eq_add, not_true_eq_false, not_false_eq_true, reduceCtorEq, i10, i01, ib10, ib01, beq_self_eq_true, eq_self, Int32.reduceLT, Int32.reduceToNatClampNeg, Int32.reduceAdd, Int32.reduceSub, Int32.reduceMul, Bool.or_true, Bool.true_or, Bool.or_false, Bool.false_or, Nat.reduceBEq, Nat.reduceMul, isF_C, isK_C, fC0, fC1, fC6, fC7, fC8, fC9, fC10, fC11, fC12, fC13, sC8, sC8z, sC9, sC10, sC10z, sw7, sw8, sw9, e1]
        · have c1 : ¬ nI (fR L s).2 = nI L.length := fun q => hd ((nI_eq (by omega) (by omega)).mp q)
          rw [if_neg hd]
          simp only [q144_0, q144_1, q144_2, q144_5, q144_6, q144_7, q144_10, q144_11, q144_14, q144_16, q144_19, q144_20, q144_22, q144_25, q144_28, q144_29, q144_32, q144_33, q144_36, q144_37, q144_40, q144_41, q144_44, q144_45, q144_48, q144_51, q144_52, q144_55, q144_56, rv_v, rv_n, rh_v, mu_at, isF_r, isK_r, fld_r, fset_r, gd0, gd1, gd2, gd3, gd4, gd5, gd6, gd7, gd8, gd9, gd10, gd11, gd12, gd13, inA_l, inW_l, inZ_l, inQ_l, aget_l, aset_l, qget_l, qset_l, isA_l, isA_q, alen_l, k2_i, k2_a, k2_n, k2_u, k2_l, ite_si, Option.isSome_some, List.cons_append, List.nil_append, List.length_cons, List.length_nil, Nat.reduceAdd, Nat.zero_add, Nat.reduceLT, Nat.reduceEqDiff, decide_true, decide_false, Bool.and_self, Bool.and_true, Bool.true_and, ↓reduceIte, List.set_cons_zero, List.set_cons_succ, Nat.reduceSub, Nat.add_left_cancel_iff, Nat.add_eq_left, Nat.left_eq_add, not_true_eq_false, not_false_eq_true, reduceCtorEq, i10, i01, ib10, ib01, beq_self_eq_true, eq_self, Int32.reduceLT, Int32.reduceToNatClampNeg, Int32.reduceAdd, Int32.reduceSub, Int32.reduceMul, Bool.or_true, Bool.true_or, Bool.or_false, Bool.false_or, Nat.reduceBEq, Nat.reduceMul, isF_C, isK_C, fC0, fC1, fC6, fC7, fC8, fC9, fC10, fC11, fC12, fC13, sC8, sC8z, sC9, sC10, sC10z, sw7, sw8, sw9, e1, if_neg c1]
/-- the text of a pad -/
def TX (L : List Int32) : List Fl × Nat × Int32 := tx L 61 0 []
theorem mm_isText (hM : MM h.2 b σ) : ∃ (m' : xM) (nu' : Int32) (mn' rs' ts' : Nat → Int32), cl 144 [.ref b] h = some (some (.int (TX σ.2.2.2).2.2), (h.1, m')) ∧ MM m' b σ ∧ fB b h.2 m' ∧ m' b = MC b (nI σ.2.1.length) (nI σ.2.2.2.length) (TX σ.2.2.2).2.1 nu' (TX σ.2.2.2).1.length ∧ FA b m' m' mn' rs' ts' ∧ HF mn' rs' ts' (TX σ.2.2.2).1 := by
  obtain ⟨sp, nu, fl, hf, sf, bf, asd, pf, mn, rs, ts, a1, a2, a3, a4, a5, a6, a7, a8, a9, a10, a11, a12, a13, a14, a15, a16, a17, a18⟩ := hM
  have a1' := a1
  unfold MO at a1'
  have hF0 : HF mn rs ts [] := fun j o hj => by simp at hj
  have s1 : cl 144 [.ref b] h = rn 144 10 [.ref b, unk] [] (h.1, mu h.2 b (MC b (nI σ.2.1.length) (nI σ.2.2.2.length) 0 nu 0)) := by
    simp only [c144, q144_0, q144_1, q144_2, q144_5, q144_6, q144_7, rv_v, rv_n, rh_v, mu_at, isF_r, isK_r, fld_r, fset_r, gd0, gd1, gd2, gd3, gd4, gd5, gd6, gd7, gd8, gd9, gd10, gd11, gd12, gd13, inA_l, inW_l, inZ_l, inQ_l, aget_l, aset_l, qget_l, qset_l, isA_l, isA_q, alen_l, k2_i, k2_a, k2_n, k2_u, k2_l, ite_si, Option.isSome_some, List.cons_append, List.nil_append, List.length_cons, List.length_nil, Nat.reduceAdd, Nat.zero_add, Nat.reduceLT, Nat.reduceEqDiff, decide_true, decide_false, Bool.and_self, Bool.and_true, Bool.true_and, ↓reduceIte, List.set_cons_zero, List.set_cons_succ, Nat.reduceSub, Nat.add_left_cancel_iff, Nat.add_eq_left, Nat.left_eq_add, not_true_eq_false, not_false_eq_true, reduceCtorEq, i10, i01, ib10, ib01, beq_self_eq_true, eq_self, Int32.reduceLT, Int32.reduceToNatClampNeg, Int32.reduceAdd, Int32.reduceSub, Int32.reduceMul, Bool.or_true, Bool.true_or, Bool.or_false, Bool.false_or, Nat.reduceBEq, Nat.reduceMul, a1', mu_mu]
    rfl
  obtain ⟨m1, nu1, mn1, rs1, ts1, q1, q2, q3⟩ := m_flight (z := h.1) (st := nI σ.2.1.length) (nu := nu) (m := h.2) hF0 (by decide) (Nat.zero_le _) a16 a17 a18 a13 a14 a15
  have hA1 := q2
  obtain ⟨k7, k8, k9, k⟩ := q2
  obtain ⟨m2, nu2, mn2, rs2, ts2, w1, w2, w3⟩ := m_txLoop (b := b) (st := nI σ.2.1.length) (z := h.1) a14 a15 61 0 [] nu1 mn1 rs1 ts1 m1 (by omega) (Nat.zero_le _) (by decide) (by rw [k _ (by omega)]; exact a13) k7 k8 k9 q3
  have hA2 := hA1.tr w2
  obtain ⟨k7, k8, k9, k⟩ := hA2
  refine ⟨mu m2 b (MC b (nI σ.2.1.length) (nI σ.2.2.2.length) (TX σ.2.2.2).2.1 nu2 (TX σ.2.2.2).1.length), nu2, mn2, rs2, ts2, ?_, ⟨nI (TX σ.2.2.2).2.1, nu2, nI (TX σ.2.2.2).1.length, hf, sf, bf, asd, pf, mn2, rs2, ts2, mu_s _ _ _, a2, by rw [mu_n _ _ (by omega), k _ (by omega)]; exact a3, by rw [mu_n _ _ (by omega), k _ (by omega)]; exact a4, a5, by rw [mu_n _ _ (by omega), k _ (by omega)]; exact a6, a7, a8, by rw [mu_n _ _ (by omega), k _ (by omega)]; exact a9, a10, a11, by rw [mu_n _ _ (by omega), k _ (by omega)]; exact a12, by rw [mu_n _ _ (by omega), k _ (by omega)]; exact a13, a14, a15, by rw [mu_n _ _ (by omega)]; exact k7, by rw [mu_n _ _ (by omega)]; exact k8, by rw [mu_n _ _ (by omega)]; exact k9⟩, fun q hq => by rw [mu_n _ _ (by omega), k _ (by omega)], mu_s _ _ _, ⟨by rw [mu_n _ _ (by omega)]; exact k7, by rw [mu_n _ _ (by omega)]; exact k8, by rw [mu_n _ _ (by omega)]; exact k9, fun _ _ => rfl⟩, w3⟩
  rw [s1]
  unfold TX
  rw [← w1]
  rw [show ([] : List Fl).length = 0 from rfl] at q1
  simp only [q144_10, q144_11, q144_14, rv_v, rv_n, rh_v, mu_at, isF_r, isK_r, fld_r, fset_r, gd0, gd1, gd2, gd3, gd4, gd5, gd6, gd7, gd8, gd9, gd10, gd11, gd12, gd13, inA_l, inW_l, inZ_l, inQ_l, aget_l, aset_l, qget_l, qset_l, isA_l, isA_q, alen_l, k2_i, k2_a, k2_n, k2_u, k2_l, ite_si, Option.isSome_some, List.cons_append, List.nil_append, List.length_cons, List.length_nil, Nat.reduceAdd, Nat.zero_add, Nat.reduceLT, Nat.reduceEqDiff, decide_true, decide_false, Bool.and_self, Bool.and_true, Bool.true_and, ↓reduceIte, List.set_cons_zero, List.set_cons_succ, Nat.reduceSub, Nat.add_left_cancel_iff, Nat.add_eq_left, Nat.left_eq_add, not_true_eq_false, not_false_eq_true, reduceCtorEq, i10, i01, ib10, ib01, beq_self_eq_true, eq_self, Int32.reduceLT, Int32.reduceToNatClampNeg, Int32.reduceAdd, Int32.reduceSub, Int32.reduceMul, Bool.or_true, Bool.true_or, Bool.or_false, Bool.false_or, Nat.reduceBEq, Nat.reduceMul, isF_C, isK_C, fC0, fC1, fC6, fC7, fC8, fC9, fC10, fC11, fC12, fC13, sC8, sC8z, sC9, sC10, sC10z, sw7, sw8, sw9, q1]
theorem mm_fault : mDo 145 b [] σ (if (TX σ.2.2.2).2.2 = 0 then nI (TX σ.2.2.2).2.1 else -6) σ := by
  intro h hM
  obtain ⟨v1, v2, v3, v4, v5, v6, v7, v8, v9, v10, v11, v12, v13, h1⟩ := hM.obj
  obtain ⟨m', nu', mn', rs', ts', e, hM', hB, hC, -, -⟩ := mm_isText hM
  refine ⟨m', ?_, hM', hB⟩
  by_cases ha : (TX σ.2.2.2).2.2 = 0
  · simp only [c145, q145_0, q145_1, q145_4, q145_7, q145_9, q145_12, q145_13, q145_16, rv_v, rv_n, rh_v, mu_at, isF_r, isK_r, fld_r, fset_r, gd0, gd1, gd2, gd3, gd4, gd5, gd6, gd7, gd8, gd9, gd10, gd11, gd12, gd13, inA_l, inW_l, inZ_l, inQ_l, aget_l, aset_l, qget_l, qset_l, isA_l, isA_q, alen_l, k2_i, k2_a, k2_n, k2_u, k2_l, ite_si, Option.isSome_some, List.cons_append, List.nil_append, List.length_cons, List.length_nil, Nat.reduceAdd, Nat.zero_add, Nat.reduceLT, Nat.reduceEqDiff, decide_true, decide_false, Bool.and_self, Bool.and_true, Bool.true_and, ↓reduceIte, List.set_cons_zero, List.set_cons_succ, Nat.reduceSub, Nat.add_left_cancel_iff, Nat.add_eq_left, Nat.left_eq_add, not_true_eq_false, not_false_eq_true, reduceCtorEq, i10, i01, ib10, ib01, beq_self_eq_true, eq_self, Int32.reduceLT, Int32.reduceToNatClampNeg, Int32.reduceAdd, Int32.reduceSub, Int32.reduceMul, Bool.or_true, Bool.true_or, Bool.or_false, Bool.false_or, Nat.reduceBEq, Nat.reduceMul, h1, e, if_pos ha, hC, isF_C, isK_C, fC0, fC1, fC6, fC7, fC8, fC9, fC10, fC11, fC12, fC13, sC8, sC8z, sC9, sC10, sC10z, sw7, sw8, sw9]
  · simp only [c145, q145_0, q145_1, q145_4, q145_7, q145_9, q145_12, q145_13, q145_16, rv_v, rv_n, rh_v, mu_at, isF_r, isK_r, fld_r, fset_r, gd0, gd1, gd2, gd3, gd4, gd5, gd6, gd7, gd8, gd9, gd10, gd11, gd12, gd13, inA_l, inW_l, inZ_l, inQ_l, aget_l, aset_l, qget_l, qset_l, isA_l, isA_q, alen_l, k2_i, k2_a, k2_n, k2_u, k2_l, ite_si, Option.isSome_some, List.cons_append, List.nil_append, List.length_cons, List.length_nil, Nat.reduceAdd, Nat.zero_add, Nat.reduceLT, Nat.reduceEqDiff, decide_true, decide_false, Bool.and_self, Bool.and_true, Bool.true_and, ↓reduceIte, List.set_cons_zero, List.set_cons_succ, Nat.reduceSub, Nat.add_left_cancel_iff, Nat.add_eq_left, Nat.left_eq_add, not_true_eq_false, not_false_eq_true, reduceCtorEq, i10, i01, ib10, ib01, beq_self_eq_true, eq_self, Int32.reduceLT, Int32.reduceToNatClampNeg, Int32.reduceAdd, Int32.reduceSub, Int32.reduceMul, Bool.or_true, Bool.true_or, Bool.or_false, Bool.false_or, Nat.reduceBEq, Nat.reduceMul, h1, e, if_neg ha]
end
