theorem step_in {r : Row} {S : Nat} {i : Int32} (h3 : r 3 = nI S) (hS : S ≤ 20) (hi : ¬ bw i 0 (r 3 - 1) = 0) : ∃ j, i = nI j ∧ j < S := by
  rw [h3, ← has_bw i hS] at hi
  by_cases h0 : i < 0
  · rw [if_pos h0] at hi; exact absurd rfl hi
  · rw [if_neg h0] at hi
    obtain ⟨j, hj, rfl⟩ := nI_of h0
    by_cases h1 : nI j < nI S
    · exact ⟨j, rfl, (nI_ltI hj (by omega)).mp h1⟩
    · rw [if_neg h1] at hi; exact absurd rfl hi
/-- a call on both sides: the same answer -/
def xyS (a b zc zm : Nat) (args : List Value) (k : Nat) (σ : AS) : Prop := ∀ h : xH, CC h.2 a σ → MM h.2 b σ → ∃ (x : Int32) (m1 m2 : xM) (σ' : AS), cl zc (.ref a :: args) h = some (some (.int x), (h.1, m1)) ∧ cl zm (.ref b :: args) (h.1, m1) = some (some (.int x), (h.1, m2)) ∧ CC m2 a σ' ∧ MM m2 b σ' ∧ AI (k + 1) σ' ∧ (∀ q, (q < a ∨ a + 82 ≤ q) → (q < b ∨ b + 10 ≤ q) → m2 q = h.2 q) ∧ ∀ q, (q < a ∨ a + 82 ≤ q) → m1 q = h.2 q
section
variable {a b k : Nat} {σ : AS}
theorem xyS.of {zc zm : Nat} {args : List Value} {x : Int32} {σ' : AS} (hd : a + 82 ≤ b) (hc : cDo zc a args σ x σ') (hm : mDo zm b args σ x σ') (hI : AI (k + 1) σ') : xyS a b zc zm args k σ := by
  intro h hC hM
  obtain ⟨m1, e1, c1, f1⟩ := hc h hC
  obtain ⟨m2, e2, d1, f2⟩ := hm (h.1, m1) (hM.frame (fun x q1 q2 => f1 x (by omega)))
  exact ⟨x, m1, m2, σ', e1, e2, c1.fr (fun x q1 q2 => f2 x (by omega)), d1, hI, fun q q1 q2 => (f2 q q2).trans (f1 q q1), f1⟩
theorem RI.nums (h : RI k σ.1) : ∃ S u0 u1 : Nat, σ.1 3 = nI S ∧ σ.1 45 = nI u0 ∧ σ.1 50 = nI u1 ∧ S ≤ 20 ∧ u0 + u1 ≤ S := by
  obtain ⟨S', u0, u1, p0, p1, R, O, b0, b1, l0, l1, sl, ⟨e1, e2, e3, -⟩, ⟨f1, f2, -⟩, -⟩ := h
  exact ⟨S', u0, u1, e1, e2, e3, f1, f2⟩
theorem RI.pcn (h : RI k σ.1) (hk : k < 1000) : (0 < σ.1 47 ↔ ¬ σ.1 47 = 0) ∧ (0 < σ.1 52 ↔ ¬ σ.1 52 = 0) := by
  obtain ⟨S', u0, u1, p0, p1, R, O, b0, b1, l0, l1, sl, ⟨e1, e2, e3, e4, e5, -⟩, ⟨f1, f2, f3, f4, -⟩, -⟩ := h
  rw [e4, e5]
  exact ⟨nI_p (by omega), nI_p (by omega)⟩
theorem cl2 : (2 : Int32).toNatClampNeg = 2 ∧ (1 : Int32).toNatClampNeg = 1 ∧ (0 : Int32).toNatClampNeg = 0 := by decide
theorem y_set (hd : a + 82 ≤ b) (hA : AI k σ) (hk : k < 600) (s v : Int32) : xyS a b 59 115 [.int s, .int v] k σ := by
  have hI := hA.1
  by_cases h0 : msv s v = 0
  · exact xyS.of hd (c_set0 s v h0) (mm_set0 s v h0) hA.nx
  · have hp := hI.pcs (by omega)
    by_cases hok : okSet σ.1 s v
    · have hm := mm_set2 (b := b) s v h0 hok
      obtain ⟨g1, g2⟩ := hok
      rcases msv_s h0 with rfl | rfl | rfl
      · have hv : ¬ bw v 2 60 = 0 := fun q => h0 (by unfold msv; rw [if_pos rfl]; exact q)
        have hq : ¬ (0 < σ.1 47 ∨ 0 < σ.1 52) := fun q => (g1.resolve_left (by decide)) (hp.mpr q)
        obtain ⟨n, rfl, n1, n2⟩ := bwN (a := 2) (c := 60) hv (by decide) (by decide)
        rw [cl2.2.2] at hm
        exact xyS.of hd (c_set 0 _ (Or.inl ⟨rfl, c_rep2 _ hv hq (g2 rfl).1 (g2 rfl).2⟩)) hm (hA.ch ((hI.upR n1 n2 (g2 rfl).1 (g2 rfl).2).mono (by omega)) _)
      · have hv : ¬ bw v 20 400 = 0 := fun q => h0 (by unfold msv; rw [if_neg (by decide), if_pos rfl]; exact q)
        have hq : ¬ (0 < σ.1 47 ∨ 0 < σ.1 52) := fun q => (g1.resolve_left (by decide)) (hp.mpr q)
        obtain ⟨n, rfl, n1, n2⟩ := bwN (a := 20) (c := 400) hv (by decide) (by decide)
        rw [cl2.2.1] at hm
        exact xyS.of hd (c_set 1 _ (Or.inr (Or.inl ⟨rfl, c_roll2 _ hv hq⟩))) hm (hA.ch ((hI.upO n1 n2 (by omega) hq).mono (by omega)) _)
      · have hv : ¬ bw v 0 9 = 0 := fun q => h0 (by unfold msv; rw [if_neg (by decide), if_neg (by decide), if_pos rfl, if_pos q])
        obtain ⟨n, rfl, n1, n2⟩ := bwN (a := 0) (c := 9) hv (by decide) (by decide)
        rw [cl2.1] at hm
        exact xyS.of hd (c_set 2 _ (Or.inr (Or.inr ⟨rfl, c_slack2 _ hv⟩))) hm (hA.ch ((hI.upL n2).mono (by omega)) _)
    · have hm := mm_set1 (b := b) s v h0 hok
      rcases msv_s h0 with rfl | rfl | rfl
      · have hv : ¬ bw v 2 60 = 0 := fun q => h0 (by unfold msv; rw [if_pos rfl]; exact q)
        have hq : (0 < σ.1 47 ∨ 0 < σ.1 52) ∨ ¬ σ.1 44 < v ∨ ¬ σ.1 49 < v := by
          apply Classical.byContradiction
          intro q
          have q1 : ¬ (0 < σ.1 47 ∨ 0 < σ.1 52) := fun y => q (Or.inl y)
          have q2 : σ.1 44 < v := Classical.byContradiction fun y => q (Or.inr (Or.inl y))
          have q3 : σ.1 49 < v := Classical.byContradiction fun y => q (Or.inr (Or.inr y))
          exact hok ⟨Or.inr (fun y => q1 (hp.mp y)), fun _ => ⟨q2, q3⟩⟩
        exact xyS.of hd (c_set 0 _ (Or.inl ⟨rfl, c_rep1 _ hv hq⟩)) hm hA.nx
      · have hv : ¬ bw v 20 400 = 0 := fun q => h0 (by unfold msv; rw [if_neg (by decide), if_pos rfl]; exact q)
        have hq : 0 < σ.1 47 ∨ 0 < σ.1 52 := Classical.byContradiction fun q => hok ⟨Or.inr (fun y => q (hp.mp y)), fun y => absurd y (by decide)⟩
        exact xyS.of hd (c_set 1 _ (Or.inr (Or.inl ⟨rfl, c_roll1 _ hv hq⟩))) hm hA.nx
      · exact absurd ⟨Or.inl rfl, fun y => absurd y (by decide)⟩ hok
theorem y_build (hd : a + 82 ≤ b) (hA : AI k σ) (hk : k < 600) (x y : Int32) : xyS a b 63 117 [.int x, .int y] k σ := by
  have hI := hA.1
  by_cases hx : bw x 10 25 = 0
  · exact xyS.of hd (c_build0 x y (Or.inl hx)) (mm_build0 x y (Or.inl hx)) hA.nx
  · by_cases hy : bw y 15 40 = 0
    · exact xyS.of hd (c_build0 x y (Or.inr hy)) (mm_build0 x y (Or.inr hy)) hA.nx
    · by_cases hl : 0 < σ.1 45 + σ.1 50
      · exact xyS.of hd (c_build1 x y hx hy hl) (mm_build1 x y hx hy hl) hA.nx
      · obtain ⟨S, u0, u1, h3, -, -, hS, -⟩ := hI.nums
        by_cases h20 : S = 20
        · rw [h20] at h3
          have h3 : σ.1 3 = 20 := h3
          exact xyS.of hd (c_build2 x y hx hy hl h3) (mm_build2 x y hx hy hl h3) hA.nx
        · have hm := mm_build3 (b := b) x y hx hy hl h3 (by omega)
          have hc := c_build3 (a := a) x y hx hy hl h3 (by omega)
          obtain ⟨n, rfl, n1, n2⟩ := bwN (a := 10) (c := 25) hx (by decide) (by decide)
          obtain ⟨n', rfl, n3, n4⟩ := bwN (a := 15) (c := 40) hy (by decide) (by decide)
          exact xyS.of hd hc hm (hA.ch ((hI.bd h3 (by omega) n1 n2 n3 n4).mono (by omega)) _)
theorem y_read (hd : a + 82 ≤ b) (hA : AI k σ) (hk : k < 600)  : xyS a b 64 146 [] k σ := by
  have hI := hA.1
  by_cases ht : (TX σ.2.2.2).2.2 = 0
  · exact xyS.of hd (c_read0 ht) (mm_read0 ht) hA.nx
  · by_cases hl : 0 < σ.1 45 + σ.1 50
    · exact xyS.of hd (c_read1 ht hl) (mm_read1 ht hl) hA.nx
    · obtain ⟨S, u0, u1, h3, -, -, hS, -⟩ := hI.nums
      by_cases hn : 20 < S + (stp (TX σ.2.2.2).1).length
      · exact xyS.of hd (c_read2 ht hl h3 hS hn) (mm_read2 ht hl h3 hS hn) hA.nx
      · have hn : S + (stp (TX σ.2.2.2).1).length ≤ 20 := by omega
        exact xyS.of hd (c_read3 ht hl h3 hn) (mm_read3 ht hl h3 hn) (hA.ch ((RI.bdL _ _ _ hI h3 hn (stp_PW _ (TX_ok _))).mono (by omega)) _)
theorem y_begin (hd : a + 82 ≤ b) (hA : AI k σ) (hk : k < 600) (c p : Int32) : xyS a b 65 118 [.int c, .int p] k σ := by
  have hI := hA.1
  by_cases hc : bw c 0 1 = 0
  · exact xyS.of hd (c_begin0 c p hc) (mm_begin0 c p hc) hA.nx
  · by_cases hp : bw p 0 (σ.1 0 - 1) = 0
    · exact xyS.of hd (c_begin1 c p hc hp) (mm_begin1 c p hc hp) hA.nx
    · obtain ⟨R, eR, r2, r60⟩ := hI.rep
      have hp2 := hp
      rw [eR, show nI R - 1 = nI (R - 1) from pk_sub (b := 1) (by omega)] at hp2
      obtain ⟨n, en, -, n2⟩ := bwN (a := 0) (c := R - 1) hp2 (by decide) (by omega)
      have hlt : ∀ R' : Nat, R' ≤ 60 → σ.1 0 = nI R' → n < R' := fun R' q1 q2 => by
        have := nI_inj (by omega) (by omega) (q2.symm.trans eR)
        omega
      rcases bw01 hc with rfl | rfl
      · by_cases hl : 0 < σ.1 45
        · exact xyS.of hd (c_begin20 p hp hl) (mm_begin20 p hp hl) hA.nx
        · refine xyS.of hd (c_begin30 p hp hl) (mm_begin30 p hp hl) ?_
          rw [en]
          exact hA.ch ((hI.upB hlt).mono (by omega)) _
      · by_cases hl : 0 < σ.1 50
        · exact xyS.of hd (c_begin21 p hp hl) (mm_begin21 p hp hl) hA.nx
        · refine xyS.of hd (c_begin31 p hp hl) (mm_begin31 p hp hl) ?_
          rw [en]
          exact hA.ch ((hI.upC hlt).mono (by omega)) _
theorem y_lay (hd : a + 82 ≤ b) (hA : AI k σ) (hk : k < 600) (c : Int32) : xyS a b 66 120 [.int c] k σ := by
  have hI := hA.1
  by_cases hc : bw c 0 1 = 0
  · exact xyS.of hd (c_lay0 c hc) (mm_lay0 c hc) hA.nx
  · by_cases hl : σ.1 45 + σ.1 50 = σ.1 3
    · exact xyS.of hd (c_lay1 c hc hl) (mm_lay1 c hc hl) hA.nx
    · have hlt := hI.lt hl
      obtain ⟨S, u0, u1, h3, h45, h50, hS, hu⟩ := hI.room hlt
      have h0 := hI.pos
      obtain ⟨p0, p1⟩ := hI.pcn (by omega)
      rcases bw01 hc with rfl | rfl
      · cases hn : lay0 σ.1 u0 with
        | none => exact xyS.of hd (c_lay20 hI (by omega) h45 h3 hS (by omega) hl hn) (mm_lay20 h45 h3 hS (by omega) h0 p0 hl hn) hA.nx
        | some r' => exact xyS.of hd (c_lay30 hI (by omega) h45 h3 hS (by omega) hl hn) (mm_lay30 h45 h3 hS (by omega) h0 p0 hl hn (by rw [lay0_keep hn (by omega)]; exact h3) (by rw [lay0_keep hn (by omega)]; exact h0)) (hA.ch (hI.la0 h3 hS (by omega) hlt hn) _)
      · cases hn : lay1 σ.1 S (S - 1 - u1) with
        | none => exact xyS.of hd (c_lay21 hI (by omega) h50 h3 hS (by omega) hl hn) (mm_lay21 h50 h3 hS (by omega) h0 p1 hl hn) hA.nx
        | some r' => exact xyS.of hd (c_lay31 hI (by omega) h50 h3 hS (by omega) hl hn) (mm_lay31 h50 h3 hS (by omega) h0 p1 hl hn (by rw [lay1_keep hn (by omega)]; exact h3) (by rw [lay1_keep hn (by omega)]; exact h0)) (hA.ch (hI.la1 h3 hS (by omega) hlt hn) _)
theorem y_takeUp (hd : a + 82 ≤ b) (hA : AI k σ) (hk : k < 600) (c : Int32) : xyS a b 67 121 [.int c] k σ := by
  have hI := hA.1
  by_cases hc : bw c 0 1 = 0
  · exact xyS.of hd (c_take0 c hc) (mm_take0 c hc) hA.nx
  · obtain ⟨S, u0, u1, h3, h45, h50, hS, hu⟩ := hI.nums
    rcases bw01 hc with rfl | rfl
    · cases u0 with
      | zero => exact xyS.of hd (c_take10 h45) (mm_take10 h45) hA.nx
      | succ u => exact xyS.of hd (c_take20 h45 h3 (by omega) hS) (mm_take20 h45 (by omega)) (hA.ch ((hI.tke0 h45 (by omega) u).mono (by omega)) _)
    · cases u1 with
      | zero => exact xyS.of hd (c_take11 h50) (mm_take11 h50) hA.nx
      | succ u => exact xyS.of hd (c_take21 h50 h3 (by omega) hS) (mm_take21 h50 h3 (by omega) hS) (hA.ch ((hI.tke1 h50 (by omega) _).mono (by omega)) _)
theorem y_clear (hd : a + 82 ≤ b) (hA : AI k σ) (hk : k < 600)  : xyS a b 68 122 [] k σ := by
  have hI := hA.1
  exact xyS.of hd c_clear mm_clear (hA.ch (hI.cl0.mono (by omega)) _)
theorem y_step (hd : a + 82 ≤ b) (hA : AI k σ) (hk : k < 600) (i w : Int32) : xyS a b 69 124 [.int i, .int w] k σ := by
  have hI := hA.1
  obtain ⟨S, u0, u1, h3, h45, h50, hS, hu⟩ := hI.nums
  have h0 := hI.pos
  by_cases hi : bw i 0 (σ.1 3 - 1) = 0
  · exact xyS.of hd (c_step0 i w hi) (mm_step0 i w hi) hA.nx
  · by_cases hw : bw w 0 7 = 0
    · exact xyS.of hd (c_step1 i w hi hw) (mm_step1 i w hi hw) hA.nx
    · obtain ⟨j, rfl, hj⟩ := step_in h3 hS hi
      obtain ⟨n, rfl, -, n2⟩ := bwN (a := 0) (c := 7) hw (by decide) (by decide)
      rcases (show n = 0 ∨ n = 1 ∨ n = 2 ∨ n = 3 ∨ n = 4 ∨ n = 5 ∨ n = 6 ∨ n = 7 by omega) with rfl | rfl | rfl | rfl | rfl | rfl | rfl | rfl
      · exact xyS.of hd (c_step2_0 hj hS h3 hI) (mm_step2_0 hj hS h3 h0) hA.nx
      · exact xyS.of hd (c_step2_1 hj hS h3 hI) (mm_step2_1 hj hS h3 h0) hA.nx
      · exact xyS.of hd (c_step2_2 hj hS h3 hI) (mm_step2_2 hj hS h3 h0) hA.nx
      · exact xyS.of hd (c_step2_3 hj hS h3 hI) (mm_step2_3 hj hS h3 h0) hA.nx
      · exact xyS.of hd (c_step2_4 hj hS h3 hI) (mm_step2_4 hj hS h3 h0) hA.nx
      · exact xyS.of hd (c_step2_5 hj hS h3 hI) (mm_step2_5 hj hS h3 h0) hA.nx
      · exact xyS.of hd (c_step2_6 hj hS h3 hI) (mm_step2_6 hj hS h3 h0) hA.nx
      · exact xyS.of hd (c_step2_7 hj hS h3 hI) (mm_step2_7 hj hS h3 h0) hA.nx
theorem y_crew (hd : a + 82 ≤ b) (hA : AI k σ) (hk : k < 600) (c w : Int32) : xyS a b 70 126 [.int c, .int w] k σ := by
  have hI := hA.1
  by_cases hc : bw c 0 1 = 0
  · exact xyS.of hd (c_crew0 c w hc) (mm_crew0 c w hc) hA.nx
  · by_cases hw : bw w 0 6 = 0
    · exact xyS.of hd (c_crew1 c w hc hw) (mm_crew1 c w hc hw) hA.nx
    · obtain ⟨n, rfl, -, n2⟩ := bwN (a := 0) (c := 6) hw (by decide) (by decide)
      rcases bw01 hc with rfl | rfl
      · rcases (show n = 0 ∨ n = 1 ∨ n = 2 ∨ n = 3 ∨ n = 4 ∨ n = 5 ∨ n = 6 by omega) with rfl | rfl | rfl | rfl | rfl | rfl | rfl
        · exact xyS.of hd (c_crew2_00 hI (by omega)) mm_crew2_00 hA.nx
        · exact xyS.of hd (c_crew2_01 hI (by omega)) mm_crew2_01 hA.nx
        · exact xyS.of hd (c_crew2_02 hI (by omega)) mm_crew2_02 hA.nx
        · exact xyS.of hd (c_crew2_03 hI (by omega)) mm_crew2_03 hA.nx
        · exact xyS.of hd (c_crew2_04 hI (by omega)) mm_crew2_04 hA.nx
        · exact xyS.of hd (c_crew2_05 hI (by omega)) mm_crew2_05 hA.nx
        · exact xyS.of hd (c_crew2_06 hI (by omega)) mm_crew2_06 hA.nx
      · rcases (show n = 0 ∨ n = 1 ∨ n = 2 ∨ n = 3 ∨ n = 4 ∨ n = 5 ∨ n = 6 by omega) with rfl | rfl | rfl | rfl | rfl | rfl | rfl
        · exact xyS.of hd (c_crew2_10 hI (by omega)) mm_crew2_10 hA.nx
        · exact xyS.of hd (c_crew2_11 hI (by omega)) mm_crew2_11 hA.nx
        · exact xyS.of hd (c_crew2_12 hI (by omega)) mm_crew2_12 hA.nx
        · exact xyS.of hd (c_crew2_13 hI (by omega)) mm_crew2_13 hA.nx
        · exact xyS.of hd (c_crew2_14 hI (by omega)) mm_crew2_14 hA.nx
        · exact xyS.of hd (c_crew2_15 hI (by omega)) mm_crew2_15 hA.nx
        · exact xyS.of hd (c_crew2_16 hI (by omega)) mm_crew2_16 hA.nx
theorem y_count (hd : a + 82 ≤ b) (hA : AI k σ) (hk : k < 600) (w : Int32) : xyS a b 71 131 [.int w] k σ := by
  have hI := hA.1
  by_cases hw : bw w 0 16 = 0
  · exact xyS.of hd (c_count0 w hw) (mm_count0 w hw) hA.nx
  · obtain ⟨S, u0, u1, h3, h45, h50, hS, hu⟩ := hI.nums
    have h0 := hI.pos
    obtain ⟨n, rfl, -, n2⟩ := bwN (a := 0) (c := 16) hw (by decide) (by decide)
    rcases (show n = 0 ∨ n = 1 ∨ n = 2 ∨ n = 3 ∨ n = 4 ∨ n = 5 ∨ n = 6 ∨ n = 7 ∨ n = 8 ∨ n = 9 ∨ n = 10 ∨ n = 11 ∨ n = 12 ∨ n = 13 ∨ n = 14 ∨ n = 15 ∨ n = 16 by omega) with rfl | rfl | rfl | rfl | rfl | rfl | rfl | rfl | rfl | rfl | rfl | rfl | rfl | rfl | rfl | rfl | rfl
    · exact xyS.of hd (c_count1_0 hI (by omega) hS h3 h45 h50 hu) (mm_count1_0 hS h3 h45 h50 hu h0) hA.nx
    · exact xyS.of hd (c_count1_1 hI (by omega) hS h3 h45 h50 hu) (mm_count1_1 hS h3 h45 h50 hu h0) hA.nx
    · exact xyS.of hd (c_count1_2 hI (by omega) hS h3 h45 h50 hu) (mm_count1_2 hS h3 h45 h50 hu h0) hA.nx
    · exact xyS.of hd (c_count1_3 hI (by omega) hS h3 h45 h50 hu) (mm_count1_3 hS h3 h45 h50 hu h0) hA.nx
    · exact xyS.of hd (c_count1_4 hI (by omega) hS h3 h45 h50 hu) (mm_count1_4 hS h3 h45 h50 hu h0) hA.nx
    · exact xyS.of hd (c_count1_5 hI (by omega) hS h3 h45 h50 hu) (mm_count1_5 hS h3 h45 h50 hu h0) hA.nx
    · exact xyS.of hd (c_count1_6 hI (by omega) hS h3 h45 h50 hu) (mm_count1_6 hS h3 h45 h50 hu h0) hA.nx
    · exact xyS.of hd (c_count1_7 hI (by omega) hS h3 h45 h50 hu) (mm_count1_7 hS h3 h45 h50 hu h0) hA.nx
    · exact xyS.of hd (c_count1_8 hI (by omega) hS h3 h45 h50 hu) (mm_count1_8 hS h3 h45 h50 hu h0) hA.nx
    · exact xyS.of hd (c_count1_9 hI (by omega) hS h3 h45 h50 hu) (mm_count1_9 hS h3 h45 h50 hu h0) hA.nx
    · exact xyS.of hd (c_count1_10 hI (by omega) hS h3 h45 h50 hu) (mm_count1_10 hS h3 h45 h50 hu h0) hA.nx
    · exact xyS.of hd (c_count1_11 hI (by omega) hS h3 h45 h50 hu) (mm_count1_11 hS h3 h45 h50 hu h0) hA.nx
    · exact xyS.of hd (c_count1_12 hI (by omega) hS h3 h45 h50 hu) (mm_count1_12 hS h3 h45 h50 hu h0) hA.nx
    · exact xyS.of hd (c_count1_13 hI (by omega) hS h3 h45 h50 hu) (mm_count1_13 hS h3 h45 h50 hu h0) hA.nx
    · exact xyS.of hd (c_count1_14 hI (by omega) hS h3 h45 h50 hu) (mm_count1_14 hS h3 h45 h50 hu h0) hA.nx
    · exact xyS.of hd c_count1_15 mm_count1_15 hA.nx
    · exact xyS.of hd c_count1_16 mm_count1_16 hA.nx
theorem y_ifMet (hd : a + 82 ≤ b) (hA : AI k σ) (hk : k < 600) (i w : Int32) : xyS a b 72 132 [.int i, .int w] k σ := by
  have hI := hA.1
  obtain ⟨S, u0, u1, h3, h45, h50, hS, hu⟩ := hI.nums
  have h0 := hI.pos
  by_cases hi : bw i 0 (σ.1 3 - 1) = 0
  · exact xyS.of hd (c_ifMet0 i w (Or.inl hi)) (mm_ifMet0 i w (Or.inl hi)) hA.nx
  · by_cases hz : i = 0
    · exact xyS.of hd (c_ifMet0 i w (Or.inr hz)) (mm_ifMet0 i w (Or.inr hz)) hA.nx
    · by_cases hw : bw w 0 1 = 0
      · exact xyS.of hd (c_ifMet1 i w hi hz hw) (mm_ifMet1 i w hi hz hw) hA.nx
      · obtain ⟨j, rfl, hj⟩ := step_in h3 hS hi
        have hj0 : 0 < j := by
          apply Nat.pos_of_ne_zero
          intro q
          rw [q] at hz
          exact hz rfl
        exact xyS.of hd (c_ifMet2 w hj hj0 hS h3 hI hw) (mm_ifMet2 w hj hj0 hS h3 h0 hw) hA.nx
theorem y_bestBeginning (hd : a + 82 ≤ b) (hA : AI k σ) (hk : k < 600) (c : Int32) : xyS a b 73 133 [.int c] k σ := by
  have hI := hA.1
  obtain ⟨S, u0, u1, h3, h45, h50, hS, hu⟩ := hI.nums
  have h0 := hI.pos
  by_cases hc : bw c 0 1 = 0
  · exact xyS.of hd (c_best0 c hc) (mm_best0 c hc) hA.nx
  · by_cases hn : σ.1 3 < 2
    · exact xyS.of hd (c_best1 c hc hn) (mm_best1 c hc hn) hA.nx
    · rcases bw01 hc with rfl | rfl
      · exact xyS.of hd (c_best20 hS h3 hn) (mm_best20 hS h3 h0 hn) hA.nx
      · exact xyS.of hd (c_best21 hS h3 hn) (mm_best21 hS h3 h0 hn) hA.nx
theorem y_ifLaid (hd : a + 82 ≤ b) (hA : AI k σ) (hk : k < 600) (t : Int32) : xyS a b 74 135 [.int t] k σ := by
  have hI := hA.1
  obtain ⟨S, u0, u1, h3, h45, h50, hS, hu⟩ := hI.nums
  have h0 := hI.pos
  by_cases hl : ¬ 0 < σ.1 3 ∨ bw t 0 (σ.1 3) = 0
  · exact xyS.of hd (c_ifLaid1 hl hI) (mm_ifLaid1 hl) hA.nx
  · have hp : 0 < σ.1 3 := Classical.byContradiction fun q => hl (Or.inl q)
    have hb : ¬ bw t 0 (σ.1 3) = 0 := fun q => hl (Or.inr q)
    rw [h3] at hp hb
    have hS0 : 0 < S := by
      apply Nat.pos_of_ne_zero
      intro q
      rw [q] at hp
      exact absurd hp (by decide)
    obtain ⟨n, rfl, -, n2⟩ := bwN (a := 0) (c := S) hb (by decide) (by omega)
    exact xyS.of hd (c_ifLaid2 hS hS0 n2 h3 hI) (mm_ifLaid2 hS hS0 n2 h3 h0) hA.nx
theorem y_leastTrim (hd : a + 82 ≤ b) (hA : AI k σ) (hk : k < 600)  : xyS a b 76 136 [] k σ := by
  have hI := hA.1
  obtain ⟨S, u0, u1, h3, h45, h50, hS, hu⟩ := hI.nums
  have h0 := hI.pos
  cases S with
  | zero => exact xyS.of hd (c_least0 h3) (mm_least0 h3) hA.nx
  | succ S => exact xyS.of hd (c_least1 hS (Nat.succ_pos S) h3 hI) (mm_least1 hS (Nat.succ_pos S) h3 h0) hA.nx
theorem y_put (hd : a + 82 ≤ b) (hA : AI k σ) (hk : k < 600) (x : Int64) : xyS a b 77 138 [.long x] k σ := by
  have hI := hA.1
  by_cases hz : sz x 0 8 = 0
  · exact xyS.of hd (c_put0 hz) (mm_put0 hz) hA.nx
  · by_cases hl : 60 < σ.2.2.2.length + sz x 0 8
    · exact xyS.of hd (c_put1 hz hl) (mm_put1 hz hl) hA.nx
    · exact xyS.of hd (c_put2 hz (by omega)) (mm_put2 hz (by omega)) hA.nx
theorem y_wipe (hd : a + 82 ≤ b) (hA : AI k σ) (hk : k < 600)  : xyS a b 78 139 [] k σ := by
  have hI := hA.1
  exact xyS.of hd c_wipe mm_wipe hA.nx
theorem y_fault (hd : a + 82 ≤ b) (hA : AI k σ) (hk : k < 600)  : xyS a b 79 145 [] k σ := by
  have hI := hA.1
  exact xyS.of hd c_fault mm_fault hA.nx
theorem y_undo (hd : a + 82 ≤ b) (hA : AI k σ) (hk : k < 600)  : xyS a b 80 101 [] k σ := by
  have hI := hA.1
  rcases List.eq_nil_or_concat σ.2.1 with hL | ⟨L, x, hL⟩
  · exact xyS.of hd (c_undo0 hL) (mm_undo0 hL) hA.nx
  · intro h hC hM
    have hL : σ.2.1 = L ++ [x] := by rw [hL]; simp
    obtain ⟨m1, e1, c1, f1⟩ := c_undo1 hL hC
    obtain ⟨m2, r', e2, g1, d1, f2⟩ := mm_undo1 (h := (h.1, m1)) hL (hM.frame (fun x q1 q2 => f1 x (by omega)))
    have hx : RI (k + 1) x := hA.nx.2.1 x (by rw [hL]; simp)
    exact ⟨_, m1, m2, (r', L, σ.2.2), e1, e2, (c1 r' g1).fr (fun x q1 q2 => f2 x (by omega)), d1, ⟨hx.cg g1.sy, fun y hy => hA.nx.2.1 y (by rw [hL]; exact List.mem_append_left _ hy), hA.nx.2.2.1, hA.nx.2.2.2⟩, fun q q1 q2 => (f2 q q2).trans (f1 q q1), f1⟩
theorem y_save (hd : a + 82 ≤ b) (hA : AI k σ) (hk : k < 600) (c : Int32) : xyS a b 81 102 [.int c] k σ := by
  have hI := hA.1
  by_cases hc : bw c 0 1 = 0
  · exact xyS.of hd (c_save0 c hc) (mm_save0 c hc) hA.nx
  · have hn := hA.nx
    rcases bw01 hc with rfl | rfl
    · exact xyS.of hd c_saveA (mm_save1 (c := 0) (by omega)) ⟨hn.1, hn.2.1, fun x hx => by cases hx; exact hn.1, hn.2.2.2⟩
    · exact xyS.of hd c_saveB (mm_save1 (c := 1) (by omega)) ⟨hn.1, hn.2.1, hn.2.2.1, fun x hx => by cases hx; exact hn.1⟩
theorem y_restore (hd : a + 82 ≤ b) (hA : AI k σ) (hk : k < 600) (c : Int32) : xyS a b 82 103 [.int c] k σ := by
  have hI := hA.1
  by_cases hc : bw c 0 1 = 0
  · exact xyS.of hd (c_rest0 c hc) (mm_rest0 c hc) hA.nx
  · rcases bw01 hc with rfl | rfl
    · cases hs : σ.2.2.1.1 with
      | none => exact xyS.of hd (c_rest1A hs) (mm_rest1 (c := 0) (by omega) hs) hA.nx
      | some x =>
        intro h hC hM
        obtain ⟨m1, e1, c1, f1⟩ := c_rest2A hs hC
        obtain ⟨m2, r', e2, g1, d1, f2⟩ := mm_rest2 (c := 0) (h := (h.1, m1)) (by omega) hs (hM.frame (fun x q1 q2 => f1 x (by omega)))
        rw [g1 3 (by omega)] at e2
        exact ⟨_, m1, m2, _, e1, e2, (c1 r' g1).fr (fun x q1 q2 => f2 x (by omega)), d1, hA.ch ((hA.2.2.1 x hs).mono (by omega) |>.cg g1.sy) _, fun q q1 q2 => (f2 q q2).trans (f1 q q1), f1⟩
    · cases hs : σ.2.2.1.2 with
      | none => exact xyS.of hd (c_rest1B hs) (mm_rest1 (c := 1) (by omega) hs) hA.nx
      | some x =>
        intro h hC hM
        obtain ⟨m1, e1, c1, f1⟩ := c_rest2B hs hC
        obtain ⟨m2, r', e2, g1, d1, f2⟩ := mm_rest2 (c := 1) (h := (h.1, m1)) (by omega) hs (hM.frame (fun x q1 q2 => f1 x (by omega)))
        rw [g1 3 (by omega)] at e2
        exact ⟨_, m1, m2, _, e1, e2, (c1 r' g1).fr (fun x q1 q2 => f2 x (by omega)), d1, hA.ch ((hA.2.2.2 x hs).mono (by omega) |>.cg g1.sy) _, fun q q1 q2 => (f2 q q2).trans (f1 q q1), f1⟩
end
