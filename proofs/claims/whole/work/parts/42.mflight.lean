abbrev Fl : Type := Int32 × Int32 × Int32
def fT (L : List Int32) (k x : Int32) (s : Nat) : Option Fl × Nat :=
  if x < 10 then (none, s) else if sg L s = 47 then (if (rd 15 40 0 (sg L (s + 1)) (sg L (s + 1 + 1))).2.2 = 0 then (none, s + 1 + (rd 15 40 0 (sg L (s + 1)) (sg L (s + 1 + 1))).2.1) else (some (k, x, (rd 15 40 0 (sg L (s + 1)) (sg L (s + 1 + 1))).1), s + 1 + (rd 15 40 0 (sg L (s + 1)) (sg L (s + 1 + 1))).2.1)) else (none, s)
/-- behind the first number x, up to s -/
def fM (L : List Int32) (x : Int32) (s : Nat) : Option Fl × Nat :=
  if ¬ bw x 2 20 = 0 ∧ sg L s = 42 then (if (rd 10 25 0 (sg L (s + 1)) (sg L (s + 1 + 1))).2.2 = 0 then (none, s + 1 + (rd 10 25 0 (sg L (s + 1)) (sg L (s + 1 + 1))).2.1) else fT L x (rd 10 25 0 (sg L (s + 1)) (sg L (s + 1 + 1))).1 (s + 1 + (rd 10 25 0 (sg L (s + 1)) (sg L (s + 1 + 1))).2.1)) else fT L 1 x s
def fR (L : List Int32) (s : Nat) : Option Fl × Nat :=
  if (rd 10 25 1 (sg L s) (sg L (s + 1))).2.2 = 0 then (none, s + (rd 10 25 1 (sg L s) (sg L (s + 1))).2.1) else fM L (rd 10 25 1 (sg L s) (sg L (s + 1))).1 (s + (rd 10 25 1 (sg L s) (sg L (s + 1))).2.1)
theorem rd2_1 (lo hi fi c2 : Int32) : 1 ≤ (rd2 lo hi fi c2).2 := by 
  unfold rd2
  split
  · exact Nat.le_refl _
  · split
    · exact Nat.le_refl _
    · show 1 ≤ 2
      omega
theorem rd_1 {lo hi one c1 c2 : Int32} (h : ¬ (rd lo hi one c1 c2).2.2 = 0) : 1 ≤ (rd lo hi one c1 c2).2.1 := by
  unfold rd at h ⊢
  by_cases ha : bw c1 49 57 = 0
  · rw [if_pos ha] at h; exact absurd rfl h
  · rw [if_neg ha] at h ⊢
    by_cases hb : hi / 10 < c1 - 48 ∧ (one = 0 ∨ ¬ 1 < c1 - 48)
    · rw [if_pos hb] at h; exact absurd rfl h
    · rw [if_neg hb]
      exact rd2_1 _ _ _ _
theorem rd_le {L : List Int32} {s : Nat} (lo hi one : Int32) (hs : s ≤ L.length) : s + (rd lo hi one (sg L s) (sg L (s + 1))).2.1 ≤ L.length := by
  unfold rd
  by_cases ha : bw (sg L s) 49 57 = 0
  · rw [if_pos ha]; exact hs
  · rw [if_neg ha]
    have hlt : s < L.length := sg_lt (fun q => ha (by rw [q]; decide))
    by_cases hb : hi / 10 < sg L s - 48 ∧ (one = 0 ∨ ¬ 1 < sg L s - 48)
    · rw [if_pos hb]; exact hs
    · rw [if_neg hb]
      show s + (rd2 lo hi (sg L s - 48) (sg L (s + 1))).2 ≤ L.length
      unfold rd2
      by_cases hc : bw (sg L (s + 1)) 48 57 = 0
      · rw [if_pos hc]; exact hlt
      · rw [if_neg hc]
        have hlt2 : s + 1 < L.length := sg_lt (fun q => hc (by rw [q]; decide))
        by_cases hd : bw (10 * (sg L s - 48) + sg L (s + 1) - 48) lo hi = 0
        · rw [if_pos hd]; exact hlt
        · rw [if_neg hd]; exact hlt2
theorem fT_le {L : List Int32} {s : Nat} (k x : Int32) (hs : s ≤ L.length) : (fT L k x s).2 ≤ L.length := by
  unfold fT
  by_cases ha : x < 10
  · rw [if_pos ha]; exact hs
  · rw [if_neg ha]
    by_cases hb : sg L s = 47
    · rw [if_pos hb]
      have hlt : s + 1 ≤ L.length := sg_lt (fun q => by rw [q] at hb; exact absurd hb (by decide))
      have := rd_le 15 40 0 hlt
      by_cases hc : (rd 15 40 0 (sg L (s + 1)) (sg L (s + 1 + 1))).2.2 = 0
      · rw [if_pos hc]; exact this
      · rw [if_neg hc]; exact this
    · rw [if_neg hb]; exact hs
theorem fT_adv {L : List Int32} {s : Nat} {k x : Int32} {o : Fl} (h : (fT L k x s).1 = some o) : s + 2 ≤ (fT L k x s).2 := by
  unfold fT at h ⊢
  by_cases ha : x < 10
  · rw [if_pos ha] at h; cases h
  · rw [if_neg ha] at h ⊢
    by_cases hb : sg L s = 47
    · rw [if_pos hb] at h ⊢
      by_cases hc : (rd 15 40 0 (sg L (s + 1)) (sg L (s + 1 + 1))).2.2 = 0
      · rw [if_pos hc] at h; cases h
      · rw [if_neg hc]
        have := rd_1 hc
        show s + 2 ≤ s + 1 + (rd 15 40 0 (sg L (s + 1)) (sg L (s + 1 + 1))).2.1
        omega
    · rw [if_neg hb] at h; cases h
theorem fM_le {L : List Int32} {s : Nat} (x : Int32) (hs : s ≤ L.length) : (fM L x s).2 ≤ L.length := by
  unfold fM
  by_cases ha : ¬ bw x 2 20 = 0 ∧ sg L s = 42
  · rw [if_pos ha]
    have hlt : s + 1 ≤ L.length := sg_lt (fun q => by rw [q] at ha; exact absurd ha.2 (by decide))
    have := rd_le 10 25 0 hlt
    by_cases hc : (rd 10 25 0 (sg L (s + 1)) (sg L (s + 1 + 1))).2.2 = 0
    · rw [if_pos hc]; exact this
    · rw [if_neg hc]; exact fT_le _ _ this
  · rw [if_neg ha]; exact fT_le _ _ hs
theorem fM_adv {L : List Int32} {s : Nat} {x : Int32} {o : Fl} (h : (fM L x s).1 = some o) : s + 2 ≤ (fM L x s).2 := by
  unfold fM at h ⊢
  by_cases ha : ¬ bw x 2 20 = 0 ∧ sg L s = 42
  · rw [if_pos ha] at h ⊢
    by_cases hc : (rd 10 25 0 (sg L (s + 1)) (sg L (s + 1 + 1))).2.2 = 0
    · rw [if_pos hc] at h; cases h
    · rw [if_neg hc] at h ⊢
      have := fT_adv h
      omega
  · rw [if_neg ha] at h ⊢
    exact fT_adv h
theorem fR_le {L : List Int32} {s : Nat} (hs : s ≤ L.length) : (fR L s).2 ≤ L.length := by
  unfold fR
  have := rd_le 10 25 1 hs
  by_cases hc : (rd 10 25 1 (sg L s) (sg L (s + 1))).2.2 = 0
  · rw [if_pos hc]; exact this
  · rw [if_neg hc]; exact fM_le _ this
theorem fR_adv {L : List Int32} {s : Nat} {o : Fl} (h : (fR L s).1 = some o) : s + 3 ≤ (fR L s).2 := by
  unfold fR at h ⊢
  by_cases hc : (rd 10 25 1 (sg L s) (sg L (s + 1))).2.2 = 0
  · rw [if_pos hc] at h; cases h
  · rw [if_neg hc] at h ⊢
    have := rd_1 hc
    have := fM_adv h
    omega
def oJ (o : Option Fl) : Int32 := match o with | some _ => 1 | none => 0
/-- the arrays of the flights, and what else stays -/
def FA (b : Nat) (m m' : xM) (mn rs ts : Nat → Int32) : Prop := m' (b + 7) = .inl (0, 16, .inl mn) ∧ m' (b + 8) = .inl (0, 16, .inl rs) ∧ m' (b + 9) = .inl (0, 16, .inl ts) ∧ ∀ q, (q < b + 7 ∨ b + 10 ≤ q) → m' q = m q
def HF (mn rs ts : Nat → Int32) (F : List Fl) : Prop := ∀ (j : Nat) (o : Fl), F[j]? = some o → mn j = o.1 ∧ rs j = o.2.1 ∧ ts j = o.2.2
section
variable {b f s : Nat} {st le nu : Int32} {L : List Int32} {pf mn rs ts : Nat → Int32} {z : Nat × Nat} {m : xM}
theorem sw7 (m : xM) (x y : va_E) : mu (mu m b x) (b + 7) y = mu (mu m (b + 7) y) b x := by
  funext q
  simp only [mu_at]
  by_cases ha : q = b + 7
  · rw [if_pos ha, if_pos ha, if_neg (by omega)]
  · rw [if_neg ha, if_neg ha]
theorem sw8 (m : xM) (x y : va_E) : mu (mu m b x) (b + 8) y = mu (mu m (b + 8) y) b x := by
  funext q
  simp only [mu_at]
  by_cases ha : q = b + 8
  · rw [if_pos ha, if_pos ha, if_neg (by omega)]
  · rw [if_neg ha, if_neg ha]
theorem sw9 (m : xM) (x y : va_E) : mu (mu m b x) (b + 9) y = mu (mu m (b + 9) y) b x := by
  funext q
  simp only [mu_at]
  by_cases ha : q = b + 9
  · rw [if_pos ha, if_pos ha, if_neg (by omega)]
  · rw [if_neg ha, if_neg ha]
theorem FA.s7 {m m' : xM} (h : FA b m m' mn rs ts) (g : Nat → Int32) : FA b m (mu m' (b + 7) (.inl (0, 16, .inl g))) g rs ts :=
  ⟨mu_s _ _ _, by rw [mu_n _ _ (by omega)]; exact h.2.1, by rw [mu_n _ _ (by omega)]; exact h.2.2.1, fun q hq => by rw [mu_n _ _ (by omega)]; exact h.2.2.2 q hq⟩
theorem FA.s8 {m m' : xM} (h : FA b m m' mn rs ts) (g : Nat → Int32) : FA b m (mu m' (b + 8) (.inl (0, 16, .inl g))) mn g ts :=
  ⟨by rw [mu_n _ _ (by omega)]; exact h.1, mu_s _ _ _, by rw [mu_n _ _ (by omega)]; exact h.2.2.1, fun q hq => by rw [mu_n _ _ (by omega)]; exact h.2.2.2 q hq⟩
theorem FA.s9 {m m' : xM} (h : FA b m m' mn rs ts) (g : Nat → Int32) : FA b m (mu m' (b + 9) (.inl (0, 16, .inl g))) mn rs g :=
  ⟨by rw [mu_n _ _ (by omega)]; exact h.1, by rw [mu_n _ _ (by omega)]; exact h.2.1, mu_s _ _ _, fun q hq => by rw [mu_n _ _ (by omega)]; exact h.2.2.2 q hq⟩
theorem m_fT (k : Int32) {x : Int32} {F : List Fl} (hF : HF mn rs ts F) (hf : F.length < 16) (hk : mn F.length = k) (hs : s ≤ L.length) (h7 : m (b + 7) = .inl (0, 16, .inl mn)) (h8 : m (b + 8) = .inl (0, 16, .inl rs)) (h9 : m (b + 9) = .inl (0, 16, .inl ts)) (h6 : m (b + 6) = .inl (0, 60, .inl pf)) (hP : PA pf L) (hL : L.length ≤ 60) : ∃ (m' : xM) (nu' : Int32) (rs' ts' : Nat → Int32), rn 143 73 [.ref b] [] (z, mu m b (MC b st (nI L.length) s x F.length)) = some (some (.int (oJ (fT L k x s).1)), (z, mu m' b (MC b st (nI L.length) (fT L k x s).2 nu' (F ++ (fT L k x s).1.toList).length))) ∧ FA b m m' mn rs' ts' ∧ HF mn rs' ts' (F ++ (fT L k x s).1.toList) := by
  have c0 : ¬ nI F.length < 0 := nI_pos (by omega)
  have c2 : (nI F.length).toNatClampNeg = F.length := nI_clamp (by omega)
  have hA : FA b m (mu m (b + 8) (.inl (0, 16, .inl (upd rs F.length x)))) mn (upd rs F.length x) ts := (show FA b m m mn rs ts from ⟨h7, h8, h9, fun _ _ => rfl⟩).s8 _
  have hF1 : HF mn (upd rs F.length x) ts F := fun j o hj => by
    have hlt := (List.getElem?_eq_some_iff.mp hj).1
    rw [upd_n _ _ (by omega)]
    exact hF j o hj
  have g6 : mu m (b + 8) (.inl (0, 16, .inl (upd rs F.length x))) (b + 6) = .inl (0, 60, .inl pf) := by rw [mu_n _ _ (by omega)]; exact h6
  have hM := hA.2.2.1
  unfold fT
  by_cases ha : x < 10
  · rw [if_pos ha]
    refine ⟨_, x, _, _, ?_, hA, by rw [show ((none : Option Fl), s).1.toList = [] from rfl, List.append_nil]; exact hF1⟩
    rw [show ((none : Option Fl), s).1.toList = [] from rfl, List.append_nil]
    simp only [q143_0, q143_1, q143_4, q143_5, q143_8, q143_9, q143_10, q143_11, q143_13, q143_15, q143_16, q143_19, q143_22, q143_23, q143_24, q143_25, q143_28, q143_29, q143_31, q143_34, q143_37, q143_38, q143_40, q143_43, q143_46, q143_47, q143_50, q143_51, q143_54, q143_55, q143_58, q143_59, q143_60, q143_62, q143_64, q143_65, q143_68, q143_71, q143_72, q143_74, q143_77, q143_78, q143_81, q143_82, q143_85, q143_86, q143_87, q143_90, q143_92, q143_95, q143_96, q143_98, q143_101, q143_104, q143_105, q143_107, q143_109, q143_110, q143_113, q143_116, q143_117, q143_118, q143_119, q143_122, q143_123, q143_126, q143_127, q143_130, q143_131, q143_132, q143_133, q143_136, q143_137, q143_138, q143_141, q143_142, q143_73, rv_v, rv_n, rh_v, mu_at, isF_r, isK_r, fld_r, fset_r, gd0, gd1, gd2, gd3, gd4, gd5, gd6, gd7, gd8, gd9, gd10, gd11, gd12, gd13, inA_l, inW_l, inZ_l, inQ_l, aget_l, aset_l, qget_l, qset_l, isA_l, isA_q, alen_l, k2_i, k2_a, k2_n, k2_u, k2_l, ite_si, Option.isSome_some, List.cons_append, List.nil_append, List.length_cons, List.length_nil, Nat.reduceAdd, Nat.zero_add, Nat.reduceLT, Nat.reduceEqDiff, decide_true, decide_false, Bool.and_self, Bool.and_true, Bool.true_and, ↓reduceIte, List.set_cons_zero, List.set_cons_succ, Nat.reduceSub, Nat.add_left_cancel_iff, Nat.add_eq_left, Nat.left_eq_add, not_true_eq_false, not_false_eq_true, reduceCtorEq, i10, i01, ib10, ib01, beq_self_eq_true, eq_self, Int32.reduceLT, Int32.reduceToNatClampNeg, Int32.reduceAdd, Int32.reduceSub, Int32.reduceMul, Bool.or_true, Bool.true_or, Bool.or_false, Bool.false_or, Nat.reduceBEq, Nat.reduceMul, isF_C, isK_C, fC0, fC1, fC6, fC7, fC8, fC9, fC10, fC11, fC12, fC13, sC8, sC8z, sC9, sC10, sC10z, sw7, sw8, sw9, h8, c0, c2, hf, if_pos ha]
    rfl
  · rw [if_neg ha]
    by_cases hb : sg L s = 47
    · rw [if_pos hb]
      have e1 := m_takesY (z := z) (st := st) (nu := x) (f := F.length) (m := mu m (b + 8) (.inl (0, 16, .inl (upd rs F.length x)))) hb hs g6 hP hL
      have hlt : s + 1 ≤ L.length := sg_lt (fun q => by rw [q] at hb; exact absurd hb (by decide))
      have e2 := m_reads (z := z) (st := st) (nu := x) (f := F.length) (m := mu m (b + 8) (.inl (0, 16, .inl (upd rs F.length x)))) 15 40 0 hlt g6 hP hL
      by_cases hc : (rd 15 40 0 (sg L (s + 1)) (sg L (s + 1 + 1))).2.2 = 0
      · rw [if_pos hc]
        refine ⟨_, (rd 15 40 0 (sg L (s + 1)) (sg L (s + 1 + 1))).1, _, _, ?_, hA, by rw [show ((none : Option Fl), s + 1 + (rd 15 40 0 (sg L (s + 1)) (sg L (s + 1 + 1))).2.1).1.toList = [] from rfl, List.append_nil]; exact hF1⟩
        rw [show ((none : Option Fl), s + 1 + (rd 15 40 0 (sg L (s + 1)) (sg L (s + 1 + 1))).2.1).1.toList = [] from rfl, List.append_nil]
        simp only [q143_0, q143_1, q143_4, q143_5, q143_8, q143_9, q143_10, q143_11, q143_13, q143_15, q143_16, q143_19, q143_22, q143_23, q143_24, q143_25, q143_28, q143_29, q143_31, q143_34, q143_37, q143_38, q143_40, q143_43, q143_46, q143_47, q143_50, q143_51, q143_54, q143_55, q143_58, q143_59, q143_60, q143_62, q143_64, q143_65, q143_68, q143_71, q143_72, q143_74, q143_77, q143_78, q143_81, q143_82, q143_85, q143_86, q143_87, q143_90, q143_92, q143_95, q143_96, q143_98, q143_101, q143_104, q143_105, q143_107, q143_109, q143_110, q143_113, q143_116, q143_117, q143_118, q143_119, q143_122, q143_123, q143_126, q143_127, q143_130, q143_131, q143_132, q143_133, q143_136, q143_137, q143_138, q143_141, q143_142, q143_73, rv_v, rv_n, rh_v, mu_at, isF_r, isK_r, fld_r, fset_r, gd0, gd1, gd2, gd3, gd4, gd5, gd6, gd7, gd8, gd9, gd10, gd11, gd12, gd13, inA_l, inW_l, inZ_l, inQ_l, aget_l, aset_l, qget_l, qset_l, isA_l, isA_q, alen_l, k2_i, k2_a, k2_n, k2_u, k2_l, ite_si, Option.isSome_some, List.cons_append, List.nil_append, List.length_cons, List.length_nil, Nat.reduceAdd, Nat.zero_add, Nat.reduceLT, Nat.reduceEqDiff, decide_true, decide_false, Bool.and_self, Bool.and_true, Bool.true_and, ↓reduceIte, List.set_cons_zero, List.set_cons_succ, Nat.reduceSub, Nat.add_left_cancel_iff, Nat.add_eq_left, Nat.left_eq_add, not_true_eq_false, not_false_eq_true, reduceCtorEq, i10, i01, ib10, ib01, beq_self_eq_true, eq_self, Int32.reduceLT, Int32.reduceToNatClampNeg, Int32.reduceAdd, Int32.reduceSub, Int32.reduceMul, Bool.or_true, Bool.true_or, Bool.or_false, Bool.false_or, Nat.reduceBEq, Nat.reduceMul, isF_C, isK_C, fC0, fC1, fC6, fC7, fC8, fC9, fC10, fC11, fC12, fC13, sC8, sC8z, sC9, sC10, sC10z, sw7, sw8, sw9, h8, c0, c2, hf, if_neg ha, e1, e2, if_pos hc]
        rfl
      · rw [if_neg hc]
        refine ⟨_, (rd 15 40 0 (sg L (s + 1)) (sg L (s + 1 + 1))).1, _, _, ?_, hA.s9 (upd ts F.length (rd 15 40 0 (sg L (s + 1)) (sg L (s + 1 + 1))).1), ?_⟩
        · show _ = some (some (Value.int 1), (z, mu _ b (MC b st (nI L.length) _ _ (F ++ [(k, x, (rd 15 40 0 (sg L (s + 1)) (sg L (s + 1 + 1))).1)]).length)))
          rw [List.length_append]
          simp only [q143_0, q143_1, q143_4, q143_5, q143_8, q143_9, q143_10, q143_11, q143_13, q143_15, q143_16, q143_19, q143_22, q143_23, q143_24, q143_25, q143_28, q143_29, q143_31, q143_34, q143_37, q143_38, q143_40, q143_43, q143_46, q143_47, q143_50, q143_51, q143_54, q143_55, q143_58, q143_59, q143_60, q143_62, q143_64, q143_65, q143_68, q143_71, q143_72, q143_74, q143_77, q143_78, q143_81, q143_82, q143_85, q143_86, q143_87, q143_90, q143_92, q143_95, q143_96, q143_98, q143_101, q143_104, q143_105, q143_107, q143_109, q143_110, q143_113, q143_116, q143_117, q143_118, q143_119, q143_122, q143_123, q143_126, q143_127, q143_130, q143_131, q143_132, q143_133, q143_136, q143_137, q143_138, q143_141, q143_142, q143_73, rv_v, rv_n, rh_v, mu_at, isF_r, isK_r, fld_r, fset_r, gd0, gd1, gd2, gd3, gd4, gd5, gd6, gd7, gd8, gd9, gd10, gd11, gd12, gd13, inA_l, inW_l, inZ_l, inQ_l, aget_l, aset_l, qget_l, qset_l, isA_l, isA_q, alen_l, k2_i, k2_a, k2_n, k2_u, k2_l, ite_si, Option.isSome_some, List.cons_append, List.nil_append, List.length_cons, List.length_nil, Nat.reduceAdd, Nat.zero_add, Nat.reduceLT, Nat.reduceEqDiff, decide_true, decide_false, Bool.and_self, Bool.and_true, Bool.true_and, ↓reduceIte, List.set_cons_zero, List.set_cons_succ, Nat.reduceSub, Nat.add_left_cancel_iff, Nat.add_eq_left, Nat.left_eq_add, not_true_eq_false, not_false_eq_true, reduceCtorEq, i10, i01, ib10, ib01, beq_self_eq_true, eq_self, Int32.reduceLT, Int32.reduceToNatClampNeg, Int32.reduceAdd, Int32.reduceSub, Int32.reduceMul, Bool.or_true, Bool.true_or, Bool.or_false, Bool.false_or, Nat.reduceBEq, Nat.reduceMul, isF_C, isK_C, fC0, fC1, fC6, fC7, fC8, fC9, fC10, fC11, fC12, fC13, sC8, sC8z, sC9, sC10, sC10z, sw7, sw8, sw9, h8, h9, c0, c2, hf, if_neg ha, e1, e2, if_neg hc, nI_1, mu_mu]
        · show HF mn _ _ (F ++ [(k, x, (rd 15 40 0 (sg L (s + 1)) (sg L (s + 1 + 1))).1)])
          intro j o hj
          by_cases hz : j < F.length
          · rw [List.getElem?_append_left hz] at hj
            rw [upd_n _ _ (by omega), upd_n _ _ (by omega)]
            exact hF j o hj
          · rw [List.getElem?_append_right (by omega)] at hj
            have hlt2 := (List.getElem?_eq_some_iff.mp hj).1
            obtain rfl : j = F.length := by simp at hlt2; omega
            rw [Nat.sub_self] at hj
            cases hj
            rw [upd_s, upd_s]
            exact ⟨hk, rfl, rfl⟩
    · rw [if_neg hb]
      have e1 := m_takesN (z := z) (st := st) (nu := x) (f := F.length) (m := mu m (b + 8) (.inl (0, 16, .inl (upd rs F.length x)))) hb hs g6 hP hL
      refine ⟨_, x, _, _, ?_, hA, by rw [show ((none : Option Fl), s).1.toList = [] from rfl, List.append_nil]; exact hF1⟩
      rw [show ((none : Option Fl), s).1.toList = [] from rfl, List.append_nil]
      simp only [q143_0, q143_1, q143_4, q143_5, q143_8, q143_9, q143_10, q143_11, q143_13, q143_15, q143_16, q143_19, q143_22, q143_23, q143_24, q143_25, q143_28, q143_29, q143_31, q143_34, q143_37, q143_38, q143_40, q143_43, q143_46, q143_47, q143_50, q143_51, q143_54, q143_55, q143_58, q143_59, q143_60, q143_62, q143_64, q143_65, q143_68, q143_71, q143_72, q143_74, q143_77, q143_78, q143_81, q143_82, q143_85, q143_86, q143_87, q143_90, q143_92, q143_95, q143_96, q143_98, q143_101, q143_104, q143_105, q143_107, q143_109, q143_110, q143_113, q143_116, q143_117, q143_118, q143_119, q143_122, q143_123, q143_126, q143_127, q143_130, q143_131, q143_132, q143_133, q143_136, q143_137, q143_138, q143_141, q143_142, q143_73, rv_v, rv_n, rh_v, mu_at, isF_r, isK_r, fld_r, fset_r, gd0, gd1, gd2, gd3, gd4, gd5, gd6, gd7, gd8, gd9, gd10, gd11, gd12, gd13, inA_l, inW_l, inZ_l, inQ_l, aget_l, aset_l, qget_l, qset_l, isA_l, isA_q, alen_l, k2_i, k2_a, k2_n, k2_u, k2_l, ite_si, Option.isSome_some, List.cons_append, List.nil_append, List.length_cons, List.length_nil, Nat.reduceAdd, Nat.zero_add, Nat.reduceLT, Nat.reduceEqDiff, decide_true, decide_false, Bool.and_self, Bool.and_true, Bool.true_and, ↓reduceIte, List.set_cons_zero, List.set_cons_succ, Nat.reduceSub, Nat.add_left_cancel_iff, Nat.add_eq_left, Nat.left_eq_add, not_true_eq_false, not_false_eq_true, reduceCtorEq, i10, i01, ib10, ib01, beq_self_eq_true, eq_self, Int32.reduceLT, Int32.reduceToNatClampNeg, Int32.reduceAdd, Int32.reduceSub, Int32.reduceMul, Bool.or_true, Bool.true_or, Bool.or_false, Bool.false_or, Nat.reduceBEq, Nat.reduceMul, isF_C, isK_C, fC0, fC1, fC6, fC7, fC8, fC9, fC10, fC11, fC12, fC13, sC8, sC8z, sC9, sC10, sC10z, sw7, sw8, sw9, h8, c0, c2, hf, if_neg ha, e1]
      rfl
end
