/-- the abstract state: row, history, slots, pad -/
abbrev Row : Type := Nat → Int32
abbrev AS : Type := Row × List Row × (Option Row × Option Row) × List Int32
def MM (m : xM) (b : Nat) (σ : AS) : Prop := ∃ (sp nu fl : Int32) (hf sf bf asd pf mn rs ts : Nat → Int32),
  m b = MO b (nI σ.2.1.length) (nI σ.2.2.2.length) sp nu fl ∧ σ.2.1.length ≤ 6 ∧ m (b + 1) = .inl (0, 54, .inl σ.1) ∧ m (b + 2) = .inl (0, 324, .inl hf) ∧ HR hf σ.2.1 ∧
  m (b + 3) = .inl (0, 108, .inl sf) ∧ (∀ x, σ.2.2.1.1 = some x → ∀ k, k < 54 → sf k = x k) ∧ (∀ x, σ.2.2.1.2 = some x → ∀ k, k < 54 → sf (54 + k) = x k) ∧
  m (b + 4) = .inl (1, 2, .inl bf) ∧ bf 0 = oI σ.2.2.1.1 ∧ bf 1 = oI σ.2.2.1.2 ∧ m (b + 5) = .inl (0, 54, .inl asd) ∧
  m (b + 6) = .inl (0, 60, .inl pf) ∧ (∀ (j : Nat) (x : Int32), σ.2.2.2[j]? = some x → pf j = x) ∧ σ.2.2.2.length ≤ 60 ∧ m (b + 7) = .inl (0, 16, .inl mn) ∧ m (b + 8) = .inl (0, 16, .inl rs) ∧ m (b + 9) = .inl (0, 16, .inl ts)
section
variable {b : Nat} {h : xH} {σ : AS}
theorem MM.frame {m m' : xM} (hM : MM m b σ) (hm : ∀ x, b ≤ x → x < b + 10 → m' x = m x) : MM m' b σ := by
  obtain ⟨sp, nu, fl, hf, sf, bf, asd, pf, mn, rs, ts, a1, a2, a3, a4, a5, a6, a7, a8, a9, a10, a11, a12, a13, a14, a15, a16, a17, a18⟩ := hM
  exact ⟨sp, nu, fl, hf, sf, bf, asd, pf, mn, rs, ts, by rw [hm _ (by omega) (by omega)]; exact a1, a2, by rw [hm _ (by omega) (by omega)]; exact a3, by rw [hm _ (by omega) (by omega)]; exact a4, a5, by rw [hm _ (by omega) (by omega)]; exact a6, a7, a8, by rw [hm _ (by omega) (by omega)]; exact a9, a10, a11, by rw [hm _ (by omega) (by omega)]; exact a12, by rw [hm _ (by omega) (by omega)]; exact a13, a14, a15, by rw [hm _ (by omega) (by omega)]; exact a16, by rw [hm _ (by omega) (by omega)]; exact a17, by rw [hm _ (by omega) (by omega)]; exact a18⟩
theorem MM.row {m : xM} (hM : MM m b σ) (r' : Row) : MM (mu m (b + 1) (.inl (0, 54, .inl r'))) b (r', σ.2) := by
  obtain ⟨sp, nu, fl, hf, sf, bf, asd, pf, mn, rs, ts, a1, a2, a3, a4, a5, a6, a7, a8, a9, a10, a11, a12, a13, a14, a15, a16, a17, a18⟩ := hM
  exact ⟨sp, nu, fl, hf, sf, bf, asd, pf, mn, rs, ts, by rw [mu_n _ _ (by omega)]; exact a1, a2, by rw [mu_s], by rw [mu_n _ _ (by omega)]; exact a4, a5, by rw [mu_n _ _ (by omega)]; exact a6, a7, a8, by rw [mu_n _ _ (by omega)]; exact a9, a10, a11, by rw [mu_n _ _ (by omega)]; exact a12, by rw [mu_n _ _ (by omega)]; exact a13, a14, a15, by rw [mu_n _ _ (by omega)]; exact a16, by rw [mu_n _ _ (by omega)]; exact a17, by rw [mu_n _ _ (by omega)]; exact a18⟩
/-- what is outside stays -/
def fB (b : Nat) (m m' : xM) : Prop := ∀ q, (q < b ∨ b + 10 ≤ q) → m' q = m q
theorem fB.rf {m : xM} : fB b m m := fun _ _ => rfl
theorem fB.tr {m m' m'' : xM} (h1 : fB b m m') (h2 : fB b m' m'') : fB b m m'' := fun q hq => (h2 q hq).trans (h1 q hq)
theorem fB.mu {m m' : xM} (h1 : fB b m m') {a : Nat} {x : va_E} (ha : b ≤ a) (ha2 : a < b + 10) : fB b m (mu m' a x) := fun q hq => by
  rw [mu_n _ _ (by omega)]
  exact h1 q hq
/-- the object and the row, as the readers want them -/
theorem MM.obj {m : xM} (hM : MM m b σ) : ∃ v1 v2 v3 v4 v5 v6 v7 v8 v9 v10 v11 v12 v13 : Value, m b = .inr (8, [.ref (b + 1), v1, v2, v3, v4, v5, v6, v7, v8, v9, v10, v11, v12, v13]) := by
  obtain ⟨sp, nu, fl, hf, sf, bf, asd, pf, mn, rs, ts, a1, -⟩ := hM
  unfold MO at a1
  exact ⟨_, _, _, _, _, _, _, _, _, _, _, _, _, a1⟩
theorem MM.rw {m : xM} (hM : MM m b σ) : m (b + 1) = .inl (0, 54, .inl σ.1) := by
  obtain ⟨sp, nu, fl, hf, sf, bf, asd, pf, mn, rs, ts, a1, a2, a3, -⟩ := hM
  exact a3
theorem mm_record (hM : MM h.2 b σ) : ∃ m', cl 100 [.ref b] h = some (none, (h.1, m')) ∧ MM m' b (σ.1, pushH σ.2.1 σ.1, σ.2.2) ∧ fB b h.2 m' := by
  obtain ⟨sp, nu, fl, hf, sf, bf, asd, pf, mn, rs, ts, a1, a2, a3, a4, a5, a6, a7, a8, a9, a10, a11, a12, a13, a14, a15, a16, a17, a18⟩ := hM
  obtain ⟨hf', e, hR⟩ := m_record a2 a1 a3 a4 a5
  have hp : (pushH σ.2.1 σ.1).length ≤ 6 := by unfold pushH; split <;> simp <;> omega
  refine ⟨_, e, ⟨sp, nu, fl, hf', sf, bf, asd, pf, mn, rs, ts, by rw [mu_s], hp, by rw [mu_n _ _ (by omega), mu_n _ _ (by omega)]; exact a3, by rw [mu_n _ _ (by omega), mu_s], hR, by rw [mu_n _ _ (by omega), mu_n _ _ (by omega)]; exact a6, a7, a8, by rw [mu_n _ _ (by omega), mu_n _ _ (by omega)]; exact a9, a10, a11, by rw [mu_n _ _ (by omega), mu_n _ _ (by omega)]; exact a12, by rw [mu_n _ _ (by omega), mu_n _ _ (by omega)]; exact a13, a14, a15, by rw [mu_n _ _ (by omega), mu_n _ _ (by omega)]; exact a16, by rw [mu_n _ _ (by omega), mu_n _ _ (by omega)]; exact a17, by rw [mu_n _ _ (by omega), mu_n _ _ (by omega)]; exact a18⟩, ?_⟩
  exact (fB.rf.mu (by omega) (by omega)).mu (by omega) (by omega)
/-- a change, or none -/
def chg (σ : AS) (o : Option Row) : AS := match o with | none => σ | some r' => (r', pushH σ.2.1 σ.1, σ.2.2)
/-- what the model does at a call -/
def mDo (z : Nat) (b : Nat) (as : List Value) (σ : AS) (x : Int32) (σ' : AS) : Prop := ∀ (h : xH), MM h.2 b σ → ∃ m', cl z (.ref b :: as) h = some (some (.int x), (h.1, m')) ∧ MM m' b σ' ∧ fB b h.2 m'
theorem mDo.same {z : Nat} {as : List Value} {x : Int32} (hc : ∀ h : xH, MM h.2 b σ → cl z (.ref b :: as) h = some (some (.int x), h)) : mDo z b as σ x σ := fun h hM => ⟨h.2, hc h hM, hM, fB.rf⟩
def msv (s v : Int32) : Int32 := if s = 0 then bw v 2 60 else if s = 1 then bw v 20 400 else if s = 2 then if bw v 0 9 = 0 then 0 else 1 else 0
def okSet (r : Row) (s v : Int32) : Prop := (s = 2 ∨ ¬ 0 < r 47 + r 52) ∧ (s = 0 → r 44 < v ∧ r 49 < v)
theorem msv_s {s v : Int32} (h : ¬ msv s v = 0) : s = 0 ∨ s = 1 ∨ s = 2 := by
  unfold msv at h
  by_cases h0 : s = 0
  · exact Or.inl h0
  · by_cases h1 : s = 1
    · exact Or.inr (Or.inl h1)
    · by_cases h2 : s = 2
      · exact Or.inr (Or.inr h2)
      · rw [if_neg h0, if_neg h1, if_neg h2] at h
        exact absurd rfl h
theorem mm_set0 (s v : Int32) (hs : msv s v = 0) : mDo 115 b [.int s, .int v] σ (-2) σ := by
  refine mDo.same fun h hM => ?_
  have e1 := m_maySet s v h
  rw [show (if s = 0 then bw v 2 60 else if s = 1 then bw v 20 400 else if s = 2 then if bw v 0 9 = 0 then 0 else 1 else 0) = msv s v from rfl, hs] at e1
  simp only [c115, q115_0, q115_1, q115_2, q115_5, q115_8, q115_10, q115_11, q115_12, q115_13, q115_16, q115_17, q115_18, q115_21, q115_24, q115_25, q115_28, q115_29, q115_30, q115_31, q115_34, q115_35, q115_38, q115_39, q115_40, q115_41, q115_44, q115_45, q115_48, q115_50, q115_51, q115_52, q115_55, q115_56, q115_59, q115_60, q115_61, q115_62, q115_63, q115_66, q115_67, q115_68, q115_69, q115_70, rv_v, rv_n, rh_v, mu_at, isF_r, isK_r, fld_r, fset_r, gd0, gd1, gd2, gd3, gd4, gd5, gd6, gd7, gd8, gd9, gd10, gd11, gd12, gd13, inA_l, inW_l, inZ_l, inQ_l, aget_l, aset_l, qget_l, qset_l, isA_l, isA_q, alen_l, k2_i, k2_a, k2_n, k2_u, k2_l, ite_si, Option.isSome_some, List.cons_append, List.nil_append, List.length_cons, List.length_nil, Nat.reduceAdd, Nat.zero_add, Nat.reduceLT, Nat.reduceEqDiff, decide_true, decide_false, Bool.and_self, Bool.and_true, Bool.true_and, ↓reduceIte, List.set_cons_zero, List.set_cons_succ, Nat.reduceSub, Nat.add_left_cancel_iff, Nat.add_eq_left, Nat.left_eq_add, not_true_eq_false, not_false_eq_true, reduceCtorEq, i10, i01, ib10, ib01, beq_self_eq_true, eq_self, Int32.reduceLT, Int32.reduceToNatClampNeg, Int32.reduceAdd, Int32.reduceSub, Int32.reduceMul, Bool.or_true, Bool.true_or, Bool.or_false, Bool.false_or, Nat.reduceBEq, Nat.reduceMul, e1]
theorem mm_set1 (s v : Int32) (hs : ¬ msv s v = 0) (hk : ¬ okSet σ.1 s v) : mDo 115 b [.int s, .int v] σ (-5) σ := by
  refine mDo.same fun h hM => ?_
  have e1 := m_maySet s v h
  rw [show (if s = 0 then bw v 2 60 else if s = 1 then bw v 20 400 else if s = 2 then if bw v 0 9 = 0 then 0 else 1 else 0) = msv s v from rfl] at e1
  obtain ⟨v1, v2, v3, v4, v5, v6, v7, v8, v9, v10, v11, v12, v13, h1⟩ := hM.obj
  have h2 := hM.rw
  have e2 := m_both3 h1 h2
  have e3 := m_of00 h1 h2
  have e4 := m_of10 h1 h2
  have n20 : ((2 : Int32) = 0) = False := by decide
  have n12 : ((1 : Int32) = 2) = False := by decide
  have n02 : ((0 : Int32) = 2) = False := by decide
  rcases msv_s hs with rfl | rfl | rfl
  · by_cases hp : 0 < σ.1 47 + σ.1 52
    · simp only [c115, q115_0, q115_1, q115_2, q115_5, q115_8, q115_10, q115_11, q115_12, q115_13, q115_16, q115_17, q115_18, q115_21, q115_24, q115_25, q115_28, q115_29, q115_30, q115_31, q115_34, q115_35, q115_38, q115_39, q115_40, q115_41, q115_44, q115_45, q115_48, q115_50, q115_51, q115_52, q115_55, q115_56, q115_59, q115_60, q115_61, q115_62, q115_63, q115_66, q115_67, q115_68, q115_69, q115_70, rv_v, rv_n, rh_v, mu_at, isF_r, isK_r, fld_r, fset_r, gd0, gd1, gd2, gd3, gd4, gd5, gd6, gd7, gd8, gd9, gd10, gd11, gd12, gd13, inA_l, inW_l, inZ_l, inQ_l, aget_l, aset_l, qget_l, qset_l, isA_l, isA_q, alen_l, k2_i, k2_a, k2_n, k2_u, k2_l, ite_si, Option.isSome_some, List.cons_append, List.nil_append, List.length_cons, List.length_nil, Nat.reduceAdd, Nat.zero_add, Nat.reduceLT, Nat.reduceEqDiff, decide_true, decide_false, Bool.and_self, Bool.and_true, Bool.true_and, ↓reduceIte, List.set_cons_zero, List.set_cons_succ, Nat.reduceSub, Nat.add_left_cancel_iff, Nat.add_eq_left, Nat.left_eq_add, not_true_eq_false, not_false_eq_true, reduceCtorEq, i10, i01, ib10, ib01, beq_self_eq_true, eq_self, Int32.reduceLT, Int32.reduceToNatClampNeg, Int32.reduceAdd, Int32.reduceSub, Int32.reduceMul, Bool.or_true, Bool.true_or, Bool.or_false, Bool.false_or, Nat.reduceBEq, Nat.reduceMul, e1, e2, e3, e4, hs, h1, n02, if_pos hp]
    · by_cases ha : σ.1 44 < v
      · have hb : ¬ σ.1 49 < v := fun q => hk ⟨Or.inr hp, fun _ => ⟨ha, q⟩⟩
        simp only [c115, q115_0, q115_1, q115_2, q115_5, q115_8, q115_10, q115_11, q115_12, q115_13, q115_16, q115_17, q115_18, q115_21, q115_24, q115_25, q115_28, q115_29, q115_30, q115_31, q115_34, q115_35, q115_38, q115_39, q115_40, q115_41, q115_44, q115_45, q115_48, q115_50, q115_51, q115_52, q115_55, q115_56, q115_59, q115_60, q115_61, q115_62, q115_63, q115_66, q115_67, q115_68, q115_69, q115_70, rv_v, rv_n, rh_v, mu_at, isF_r, isK_r, fld_r, fset_r, gd0, gd1, gd2, gd3, gd4, gd5, gd6, gd7, gd8, gd9, gd10, gd11, gd12, gd13, inA_l, inW_l, inZ_l, inQ_l, aget_l, aset_l, qget_l, qset_l, isA_l, isA_q, alen_l, k2_i, k2_a, k2_n, k2_u, k2_l, ite_si, Option.isSome_some, List.cons_append, List.nil_append, List.length_cons, List.length_nil, Nat.reduceAdd, Nat.zero_add, Nat.reduceLT, Nat.reduceEqDiff, decide_true, decide_false, Bool.and_self, Bool.and_true, Bool.true_and, ↓reduceIte, List.set_cons_zero, List.set_cons_succ, Nat.reduceSub, Nat.add_left_cancel_iff, Nat.add_eq_left, Nat.left_eq_add, not_true_eq_false, not_false_eq_true, reduceCtorEq, i10, i01, ib10, ib01, beq_self_eq_true, eq_self, Int32.reduceLT, Int32.reduceToNatClampNeg, Int32.reduceAdd, Int32.reduceSub, Int32.reduceMul, Bool.or_true, Bool.true_or, Bool.or_false, Bool.false_or, Nat.reduceBEq, Nat.reduceMul, e1, e2, e3, e4, hs, h1, n02, if_neg hp, if_pos ha, if_neg hb]
      · simp only [c115, q115_0, q115_1, q115_2, q115_5, q115_8, q115_10, q115_11, q115_12, q115_13, q115_16, q115_17, q115_18, q115_21, q115_24, q115_25, q115_28, q115_29, q115_30, q115_31, q115_34, q115_35, q115_38, q115_39, q115_40, q115_41, q115_44, q115_45, q115_48, q115_50, q115_51, q115_52, q115_55, q115_56, q115_59, q115_60, q115_61, q115_62, q115_63, q115_66, q115_67, q115_68, q115_69, q115_70, rv_v, rv_n, rh_v, mu_at, isF_r, isK_r, fld_r, fset_r, gd0, gd1, gd2, gd3, gd4, gd5, gd6, gd7, gd8, gd9, gd10, gd11, gd12, gd13, inA_l, inW_l, inZ_l, inQ_l, aget_l, aset_l, qget_l, qset_l, isA_l, isA_q, alen_l, k2_i, k2_a, k2_n, k2_u, k2_l, ite_si, Option.isSome_some, List.cons_append, List.nil_append, List.length_cons, List.length_nil, Nat.reduceAdd, Nat.zero_add, Nat.reduceLT, Nat.reduceEqDiff, decide_true, decide_false, Bool.and_self, Bool.and_true, Bool.true_and, ↓reduceIte, List.set_cons_zero, List.set_cons_succ, Nat.reduceSub, Nat.add_left_cancel_iff, Nat.add_eq_left, Nat.left_eq_add, not_true_eq_false, not_false_eq_true, reduceCtorEq, i10, i01, ib10, ib01, beq_self_eq_true, eq_self, Int32.reduceLT, Int32.reduceToNatClampNeg, Int32.reduceAdd, Int32.reduceSub, Int32.reduceMul, Bool.or_true, Bool.true_or, Bool.or_false, Bool.false_or, Nat.reduceBEq, Nat.reduceMul, e1, e2, e3, e4, hs, h1, n02, if_neg hp, if_neg ha]
  · have hp : 0 < σ.1 47 + σ.1 52 := Classical.byContradiction fun q => hk ⟨Or.inr q, fun z => absurd z (by decide)⟩
    simp only [c115, q115_0, q115_1, q115_2, q115_5, q115_8, q115_10, q115_11, q115_12, q115_13, q115_16, q115_17, q115_18, q115_21, q115_24, q115_25, q115_28, q115_29, q115_30, q115_31, q115_34, q115_35, q115_38, q115_39, q115_40, q115_41, q115_44, q115_45, q115_48, q115_50, q115_51, q115_52, q115_55, q115_56, q115_59, q115_60, q115_61, q115_62, q115_63, q115_66, q115_67, q115_68, q115_69, q115_70, rv_v, rv_n, rh_v, mu_at, isF_r, isK_r, fld_r, fset_r, gd0, gd1, gd2, gd3, gd4, gd5, gd6, gd7, gd8, gd9, gd10, gd11, gd12, gd13, inA_l, inW_l, inZ_l, inQ_l, aget_l, aset_l, qget_l, qset_l, isA_l, isA_q, alen_l, k2_i, k2_a, k2_n, k2_u, k2_l, ite_si, Option.isSome_some, List.cons_append, List.nil_append, List.length_cons, List.length_nil, Nat.reduceAdd, Nat.zero_add, Nat.reduceLT, Nat.reduceEqDiff, decide_true, decide_false, Bool.and_self, Bool.and_true, Bool.true_and, ↓reduceIte, List.set_cons_zero, List.set_cons_succ, Nat.reduceSub, Nat.add_left_cancel_iff, Nat.add_eq_left, Nat.left_eq_add, not_true_eq_false, not_false_eq_true, reduceCtorEq, i10, i01, ib10, ib01, beq_self_eq_true, eq_self, Int32.reduceLT, Int32.reduceToNatClampNeg, Int32.reduceAdd, Int32.reduceSub, Int32.reduceMul, Bool.or_true, Bool.true_or, Bool.or_false, Bool.false_or, Nat.reduceBEq, Nat.reduceMul, e1, e2, e3, e4, hs, h1, n12, if_pos hp]
  · exact absurd ⟨Or.inl rfl, fun z => absurd z (by decide)⟩ hk
theorem mm_set2 (s v : Int32) (hs : ¬ msv s v = 0) (hk : okSet σ.1 s v) : mDo 115 b [.int s, .int v] σ (σ.1 s.toNatClampNeg) (chg σ (some (upd σ.1 s.toNatClampNeg v))) := by
  intro h hM
  have e1 := m_maySet s v h
  rw [show (if s = 0 then bw v 2 60 else if s = 1 then bw v 20 400 else if s = 2 then if bw v 0 9 = 0 then 0 else 1 else 0) = msv s v from rfl] at e1
  obtain ⟨v1, v2, v3, v4, v5, v6, v7, v8, v9, v10, v11, v12, v13, h1⟩ := hM.obj
  have h2 := hM.rw
  have e2 := m_both3 h1 h2
  have e3 := m_of00 h1 h2
  have e4 := m_of10 h1 h2
  have n20 : ((2 : Int32) = 0) = False := by decide
  have n12 : ((1 : Int32) = 2) = False := by decide
  have n02 : ((0 : Int32) = 2) = False := by decide
  obtain ⟨m', er, hM', hB⟩ := mm_record hM
  obtain ⟨w1, w2, w3, w4, w5, w6, w7, w8, w9, w10, w11, w12, w13, g1⟩ := hM'.obj
  have g2 := hM'.rw
  dsimp only at g2
  refine ⟨mu m' (b + 1) (.inl (0, 54, .inl (upd σ.1 s.toNatClampNeg v))), ?_, hM'.row _, hB.mu (by omega) (by omega)⟩
  obtain ⟨k1, k2⟩ := hk
  rcases msv_s hs with rfl | rfl | rfl
  · have hp : ¬ 0 < σ.1 47 + σ.1 52 := k1.resolve_left (by decide)
    have ha := (k2 rfl).1
    have hb := (k2 rfl).2
    simp only [c115, q115_0, q115_1, q115_2, q115_5, q115_8, q115_10, q115_11, q115_12, q115_13, q115_16, q115_17, q115_18, q115_21, q115_24, q115_25, q115_28, q115_29, q115_30, q115_31, q115_34, q115_35, q115_38, q115_39, q115_40, q115_41, q115_44, q115_45, q115_48, q115_50, q115_51, q115_52, q115_55, q115_56, q115_59, q115_60, q115_61, q115_62, q115_63, q115_66, q115_67, q115_68, q115_69, q115_70, rv_v, rv_n, rh_v, mu_at, isF_r, isK_r, fld_r, fset_r, gd0, gd1, gd2, gd3, gd4, gd5, gd6, gd7, gd8, gd9, gd10, gd11, gd12, gd13, inA_l, inW_l, inZ_l, inQ_l, aget_l, aset_l, qget_l, qset_l, isA_l, isA_q, alen_l, k2_i, k2_a, k2_n, k2_u, k2_l, ite_si, Option.isSome_some, List.cons_append, List.nil_append, List.length_cons, List.length_nil, Nat.reduceAdd, Nat.zero_add, Nat.reduceLT, Nat.reduceEqDiff, decide_true, decide_false, Bool.and_self, Bool.and_true, Bool.true_and, ↓reduceIte, List.set_cons_zero, List.set_cons_succ, Nat.reduceSub, Nat.add_left_cancel_iff, Nat.add_eq_left, Nat.left_eq_add, not_true_eq_false, not_false_eq_true, reduceCtorEq, i10, i01, ib10, ib01, beq_self_eq_true, eq_self, Int32.reduceLT, Int32.reduceToNatClampNeg, Int32.reduceAdd, Int32.reduceSub, Int32.reduceMul, Bool.or_true, Bool.true_or, Bool.or_false, Bool.false_or, Nat.reduceBEq, Nat.reduceMul, e1, e2, e3, e4, er, hs, h1, g1, g2, n02, if_neg hp, if_pos ha, if_pos hb]
  · have hp : ¬ 0 < σ.1 47 + σ.1 52 := k1.resolve_left (by decide)
    simp only [c115, q115_0, q115_1, q115_2, q115_5, q115_8, q115_10, q115_11, q115_12, q115_13, q115_16, q115_17, q115_18, q115_21, q115_24, q115_25, q115_28, q115_29, q115_30, q115_31, q115_34, q115_35, q115_38, q115_39, q115_40, q115_41, q115_44, q115_45, q115_48, q115_50, q115_51, q115_52, q115_55, q115_56, q115_59, q115_60, q115_61, q115_62, q115_63, q115_66, q115_67, q115_68, q115_69, q115_70, rv_v, rv_n, rh_v, mu_at, isF_r, isK_r, fld_r, fset_r, gd0, gd1, gd2, gd3, gd4, gd5, gd6, gd7, gd8, gd9, gd10, gd11, gd12, gd13, inA_l, inW_l, inZ_l, inQ_l, aget_l, aset_l, qget_l, qset_l, isA_l, isA_q, alen_l, k2_i, k2_a, k2_n, k2_u, k2_l, ite_si, Option.isSome_some, List.cons_append, List.nil_append, List.length_cons, List.length_nil, Nat.reduceAdd, Nat.zero_add, Nat.reduceLT, Nat.reduceEqDiff, decide_true, decide_false, Bool.and_self, Bool.and_true, Bool.true_and, ↓reduceIte, List.set_cons_zero, List.set_cons_succ, Nat.reduceSub, Nat.add_left_cancel_iff, Nat.add_eq_left, Nat.left_eq_add, not_true_eq_false, not_false_eq_true, reduceCtorEq, i10, i01, ib10, ib01, beq_self_eq_true, eq_self, Int32.reduceLT, Int32.reduceToNatClampNeg, Int32.reduceAdd, Int32.reduceSub, Int32.reduceMul, Bool.or_true, Bool.true_or, Bool.or_false, Bool.false_or, Nat.reduceBEq, Nat.reduceMul, e1, e2, e3, e4, er, hs, h1, g1, g2, n12, if_neg hp]
  · simp only [c115, q115_0, q115_1, q115_2, q115_5, q115_8, q115_10, q115_11, q115_12, q115_13, q115_16, q115_17, q115_18, q115_21, q115_24, q115_25, q115_28, q115_29, q115_30, q115_31, q115_34, q115_35, q115_38, q115_39, q115_40, q115_41, q115_44, q115_45, q115_48, q115_50, q115_51, q115_52, q115_55, q115_56, q115_59, q115_60, q115_61, q115_62, q115_63, q115_66, q115_67, q115_68, q115_69, q115_70, rv_v, rv_n, rh_v, mu_at, isF_r, isK_r, fld_r, fset_r, gd0, gd1, gd2, gd3, gd4, gd5, gd6, gd7, gd8, gd9, gd10, gd11, gd12, gd13, inA_l, inW_l, inZ_l, inQ_l, aget_l, aset_l, qget_l, qset_l, isA_l, isA_q, alen_l, k2_i, k2_a, k2_n, k2_u, k2_l, ite_si, Option.isSome_some, List.cons_append, List.nil_append, List.length_cons, List.length_nil, Nat.reduceAdd, Nat.zero_add, Nat.reduceLT, Nat.reduceEqDiff, decide_true, decide_false, Bool.and_self, Bool.and_true, Bool.true_and, ↓reduceIte, List.set_cons_zero, List.set_cons_succ, Nat.reduceSub, Nat.add_left_cancel_iff, Nat.add_eq_left, Nat.left_eq_add, not_true_eq_false, not_false_eq_true, reduceCtorEq, i10, i01, ib10, ib01, beq_self_eq_true, eq_self, Int32.reduceLT, Int32.reduceToNatClampNeg, Int32.reduceAdd, Int32.reduceSub, Int32.reduceMul, Bool.or_true, Bool.true_or, Bool.or_false, Bool.false_or, Nat.reduceBEq, Nat.reduceMul, e1, e2, e3, e4, er, hs, h1, g1, g2, n20]
end
