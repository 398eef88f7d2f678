/-! what the law's own stairs keep -/
def wlP (S u0 u1 : Nat) (r : Row) (pf bf : Nat → Int32) : Prop := ∀ j, j < S → (j < u0 → pf j = mB r j ∧ bf j = 0) ∧ (u0 ≤ j → j < S - u1 → pf j = -6 ∧ bf j = -6) ∧ (S - u1 ≤ j → pf j = mA r S j ∧ bf j = 1)
def wlQ (k S u0 u1 : Nat) (r : Row) (rf tf pf bf cf nf : Nat → Int32) : Prop :=
  RI k r ∧ (r 3 = nI S ∧ r 45 = nI u0 ∧ r 50 = nI u1 ∧ S ≤ 20 ∧ u0 + u1 ≤ S) ∧ LC r cf ∧ (nf 0 = r 0 ∧ nf 1 = r 1 ∧ nf 2 = r 2 ∧ nf 3 = r 3) ∧ (∀ j, j < S → rf j = r (4 + j) ∧ tf j = r (24 + j)) ∧ wlP S u0 u1 r pf bf ∧
  r 1 * (r 47 + r 52) = lns r 0 u0 + lns r (S - u1) u1 + (r 48 + r 53) + (r 46 + r 51) ∧ (r 47 = 0 → u0 = 0) ∧ (r 52 = 0 → u1 = 0)
section
variable {k S u u0 u1 : Nat} {r r' : Row} {rf tf pf bf cf nf : Nat → Int32}
theorem lns_cgL (hl : ∀ j, 4 ≤ j → j < 44 → r' j = r j) {i n : Nat} (hn : i + n ≤ 20) : lns r' i n = lns r i n := by
  refine lns_cg n i (fun j h1 h2 => ?_)
  unfold ln
  rw [hl _ (by omega) (by omega), hl _ (by omega) (by omega)]
theorem mB_cg (h0 : r' 0 = r 0) (h44 : r' 44 = r 44) (hl : ∀ j, 4 ≤ j → j < 44 → r' j = r j) {j : Nat} (hj : j ≤ 20) : mB r' j = mB r j := by
  unfold mB
  rw [h0, h44, lns_cgL hl (by omega)]
theorem mA_cg (h0 : r' 0 = r 0) (h49 : r' 49 = r 49) (hl : ∀ j, 4 ≤ j → j < 44 → r' j = r j) {j : Nat} (hS : S ≤ 20) (hj : j ≤ S) : mA r' S j = mA r S j := by
  unfold mA
  rw [h0, h49, lns_cgL hl (by omega)]
theorem wlQ.mp (h : wlQ k S u0 u1 r rf tf pf bf cf nf) : ∀ j, j < S → pf j = mP r S j ∧ bf j = rStep r S j 4 := by
  obtain ⟨hI, ⟨h3, h45, h50, hS, hu⟩, hc, hn, hrt, hp, hcar, z0, z1⟩ := h
  intro j hj
  have e4 : rStep r S j 4 = if nI j < r 45 then 0 else if nI j < r 3 - r 50 then -6 else 1 := rfl
  have e3 : r 3 - r 50 = nI (S - u1) := by rw [h3, h50]; exact pk_sub (by omega)
  obtain ⟨q1, q2, q3⟩ := hp j hj
  rw [e4]
  unfold mP
  rw [e3, h45]
  by_cases ca : j < u0
  · have c0 : nI j < nI u0 := nI_lt ca (by omega)
    rw [if_pos c0, if_pos c0]
    exact q1 ca
  · have c0 : ¬ nI j < nI u0 := nI_nlt (by omega) (by omega)
    rw [if_neg c0, if_neg c0]
    by_cases cb : j < S - u1
    · have c1 : nI j < nI (S - u1) := nI_lt cb (by omega)
      rw [if_pos c1, if_pos c1]
      exact q2 (by omega) cb
    · have c1 : ¬ nI j < nI (S - u1) := nI_nlt (by omega) (by omega)
      rw [if_neg c1, if_neg c1]
      exact q3 (by omega)
theorem wlQ.sg (h : wlQ k S u0 u1 r rf tf pf bf cf nf) : ∀ j, j < S → (bf j < 0 ↔ ¬ (j < u0 ∨ S - u1 ≤ j)) := by
  obtain ⟨hI, ⟨h3, h45, h50, hS, hu⟩, hc, hn, hrt, hp, hcar, z0, z1⟩ := h
  intro j hj
  obtain ⟨q1, q2, q3⟩ := hp j hj
  by_cases ca : j < u0
  · rw [(q1 ca).2]
    exact ⟨fun q => absurd q (by decide), fun q => absurd (Or.inl ca) q⟩
  · by_cases cb : j < S - u1
    · rw [(q2 (by omega) cb).2]
      exact ⟨fun _ q => by omega, fun _ => by decide⟩
    · rw [(q3 (by omega)).2]
      exact ⟨fun q => absurd q (by decide), fun q => absurd (Or.inr (by omega)) q⟩
theorem wlQ.noL (h : wlQ k S u0 u1 r rf tf pf bf cf nf) (e0 : u0 = 0) (e1 : u1 = 0) : ∀ j, j < S → pf j = -6 ∧ bf j = -6 := by
  intro j hj
  exact (h.2.2.2.2.2.1 j hj).2.1 (by omega) (by omega)
theorem wlP.no (h : ∀ j, j < S → pf j = -6 ∧ bf j = -6) (r : Row) : wlP S 0 0 r pf bf := fun j hj => ⟨fun q => by omega, fun _ _ => h j hj, fun q => by omega⟩
/-- the settings -/
theorem wlQ.set0 (h : wlQ k S u0 u1 r rf tf pf bf cf nf) {n : Nat} (h2 : 2 ≤ n) (h60 : n ≤ 60) (hb : r 44 < nI n) (hc : r 49 < nI n) (p0 : r 47 = 0) (p1 : r 52 = 0) : wlQ (k + 1) S u0 u1 (upd r 0 (nI n)) rf tf pf bf cf (upd nf 0 (nI n)) := by
  have hno := h.noL (h.2.2.2.2.2.2.2.1 p0) (h.2.2.2.2.2.2.2.2 p1)
  obtain ⟨hI, ⟨h3, h45, h50, hS, hu⟩, hc', ⟨n0, n1, n2, n3⟩, hrt, hp, hcar, z0, z1⟩ := h
  obtain rfl := z0 p0
  obtain rfl := z1 p1
  refine ⟨(hI.upR h2 h60 hb hc).mono (by omega), ⟨(upd_n _ _ (by omega)).trans h3, (upd_n _ _ (by omega)).trans h45, (upd_n _ _ (by omega)).trans h50, hS, hu⟩, ?_, ⟨by rw [upd_s, upd_s], ?_, ?_, ?_⟩, fun j hj => ?_, wlP.no hno _, ?_, fun _ => rfl, fun _ => rfl⟩
  · obtain ⟨c0, c1, c2, c3, c4, c6, c7, c8, c9, c10, c5, c11⟩ := hc'
    exact ⟨c0, c1, c2, c3, c4, c6, c7, c8, c9, c10, fun q => absurd p0 q, fun q => absurd p1 q⟩
  · rw [upd_n _ _ (by omega), upd_n _ _ (by omega)]; exact n1
  · rw [upd_n _ _ (by omega), upd_n _ _ (by omega)]; exact n2
  · rw [upd_n _ _ (by omega), upd_n _ _ (by omega)]; exact n3
  · rw [upd_n _ _ (by omega), upd_n _ _ (by omega)]; exact hrt j hj
  · exact hcar
theorem wlQ.set1 (h : wlQ k S u0 u1 r rf tf pf bf cf nf) (hk : k < 1000) {n : Nat} (h2 : 20 ≤ n) (h60 : n ≤ 400) (p0 : r 47 = 0) (p1 : r 52 = 0) : wlQ (k + 1) S u0 u1 (upd r 1 (nI n)) rf tf pf bf cf (upd nf 1 (nI n)) := by
  have hno := h.noL (h.2.2.2.2.2.2.2.1 p0) (h.2.2.2.2.2.2.2.2 p1)
  obtain ⟨hI, ⟨h3, h45, h50, hS, hu⟩, hc', ⟨n0, n1, n2, n3⟩, hrt, hp, hcar, z0, z1⟩ := h
  obtain rfl := z0 p0
  obtain rfl := z1 p1
  have hq : ¬ (0 < r 47 ∨ 0 < r 52) := by rw [p0, p1]; decide
  refine ⟨(hI.upO h2 h60 hk hq).mono (by omega), ⟨(upd_n _ _ (by omega)).trans h3, (upd_n _ _ (by omega)).trans h45, (upd_n _ _ (by omega)).trans h50, hS, hu⟩, ?_, ⟨?_, by rw [upd_s, upd_s], ?_, ?_⟩, fun j hj => ?_, wlP.no hno _, ?_, fun _ => rfl, fun _ => rfl⟩
  · obtain ⟨c0, c1, c2, c3, c4, c6, c7, c8, c9, c10, c5, c11⟩ := hc'
    exact ⟨c0, c1, c2, c3, c4, c6, c7, c8, c9, c10, fun q => absurd p0 q, fun q => absurd p1 q⟩
  · rw [upd_n _ _ (by omega), upd_n _ _ (by omega)]; exact n0
  · rw [upd_n _ _ (by omega), upd_n _ _ (by omega)]; exact n2
  · rw [upd_n _ _ (by omega), upd_n _ _ (by omega)]; exact n3
  · rw [upd_n _ _ (by omega), upd_n _ _ (by omega)]; exact hrt j hj
  · show nI n * (r 47 + r 52) = _
    rw [p0, p1] at hcar ⊢
    rw [show nI n * (0 + 0) = r 1 * (0 + 0) by grind]
    exact hcar
theorem wlQ.set2 (h : wlQ k S u0 u1 r rf tf pf bf cf nf) {n : Nat} (h2 : n ≤ 9) : wlQ (k + 1) S u0 u1 (upd r 2 (nI n)) rf tf pf bf cf (upd nf 2 (nI n)) := by
  obtain ⟨hI, ⟨h3, h45, h50, hS, hu⟩, hc', ⟨n0, n1, n2, n3⟩, hrt, hp, hcar, z0, z1⟩ := h
  have hl : ∀ j, 4 ≤ j → j < 44 → upd r 2 (nI n) j = r j := fun j h1 h2 => upd_n _ _ (by omega)
  refine ⟨(hI.upL h2).mono (by omega), ⟨(upd_n _ _ (by omega)).trans h3, (upd_n _ _ (by omega)).trans h45, (upd_n _ _ (by omega)).trans h50, hS, hu⟩, hc', ⟨?_, ?_, by rw [upd_s, upd_s], ?_⟩, fun j hj => ?_, fun j hj => ?_, ?_, z0, z1⟩
  · rw [upd_n _ _ (by omega), upd_n _ _ (by omega)]; exact n0
  · rw [upd_n _ _ (by omega), upd_n _ _ (by omega)]; exact n1
  · rw [upd_n _ _ (by omega), upd_n _ _ (by omega)]; exact n3
  · rw [upd_n _ _ (by omega), upd_n _ _ (by omega)]; exact hrt j hj
  · rw [mB_cg (r' := upd r 2 (nI n)) (r := r) (upd_n _ _ (by omega)) (upd_n _ _ (by omega)) hl (by omega), mA_cg (r' := upd r 2 (nI n)) (r := r) (upd_n _ _ (by omega)) (upd_n _ _ (by omega)) hl hS (by omega)]
    exact hp j hj
  · rw [lns_cgL hl (by omega), lns_cgL hl (by omega)]
    exact hcar
/-- the beginnings -/
theorem wlQ.beg0 (h : wlQ k S u0 u1 r rf tf pf bf cf nf) {n : Nat} (hn : ∀ R : Nat, R ≤ 60 → r 0 = nI R → n < R) (e0 : u0 = 0) : wlQ (k + 1) S u0 u1 (upd r 44 (nI n)) rf tf pf bf (upd cf 0 (nI n)) nf := by
  obtain ⟨hI, ⟨h3, h45, h50, hS, hu⟩, hc', ⟨n0, n1, n2, n3⟩, hrt, hp, hcar, z0, z1⟩ := h
  have hl : ∀ j, 4 ≤ j → j < 44 → upd r 44 (nI n) j = r j := fun j h1 h2 => upd_n _ _ (by omega)
  refine ⟨(hI.upB hn).mono (by omega), ⟨(upd_n _ _ (by omega)).trans h3, (upd_n _ _ (by omega)).trans h45, (upd_n _ _ (by omega)).trans h50, hS, hu⟩, ?_, ⟨?_, ?_, ?_, ?_⟩, fun j hj => ?_, fun j hj => ?_, ?_, z0, z1⟩
  · obtain ⟨c0, c1, c2, c3, c4, c6, c7, c8, c9, c10, c5, c11⟩ := hc'
    exact ⟨by rw [upd_s, upd_s], c1, c2, c3, c4, c6, c7, c8, c9, c10, c5, c11⟩
  · rw [upd_n _ _ (by omega)]; exact n0
  · rw [upd_n _ _ (by omega)]; exact n1
  · rw [upd_n _ _ (by omega)]; exact n2
  · rw [upd_n _ _ (by omega)]; exact n3
  · rw [upd_n _ _ (by omega), upd_n _ _ (by omega)]; exact hrt j hj
  · rw [mA_cg (r' := upd r 44 (nI n)) (r := r) (upd_n _ _ (by omega)) (upd_n _ _ (by omega)) hl hS (by omega)]
    exact ⟨fun q => by omega, (hp j hj).2⟩
  · rw [lns_cgL hl (by omega), lns_cgL hl (by omega)]
    exact hcar
theorem wlQ.beg1 (h : wlQ k S u0 u1 r rf tf pf bf cf nf) {n : Nat} (hn : ∀ R : Nat, R ≤ 60 → r 0 = nI R → n < R) (e0 : u1 = 0) : wlQ (k + 1) S u0 u1 (upd r 49 (nI n)) rf tf pf bf (upd cf 6 (nI n)) nf := by
  obtain ⟨hI, ⟨h3, h45, h50, hS, hu⟩, hc', ⟨n0, n1, n2, n3⟩, hrt, hp, hcar, z0, z1⟩ := h
  have hl : ∀ j, 4 ≤ j → j < 44 → upd r 49 (nI n) j = r j := fun j h1 h2 => upd_n _ _ (by omega)
  refine ⟨(hI.upC hn).mono (by omega), ⟨(upd_n _ _ (by omega)).trans h3, (upd_n _ _ (by omega)).trans h45, (upd_n _ _ (by omega)).trans h50, hS, hu⟩, ?_, ⟨?_, ?_, ?_, ?_⟩, fun j hj => ?_, fun j hj => ?_, ?_, z0, z1⟩
  · obtain ⟨c0, c1, c2, c3, c4, c6, c7, c8, c9, c10, c5, c11⟩ := hc'
    exact ⟨c0, c1, c2, c3, c4, by rw [upd_s, upd_s], c7, c8, c9, c10, c5, c11⟩
  · rw [upd_n _ _ (by omega)]; exact n0
  · rw [upd_n _ _ (by omega)]; exact n1
  · rw [upd_n _ _ (by omega)]; exact n2
  · rw [upd_n _ _ (by omega)]; exact n3
  · rw [upd_n _ _ (by omega), upd_n _ _ (by omega)]; exact hrt j hj
  · rw [mB_cg (r' := upd r 49 (nI n)) (r := r) (upd_n _ _ (by omega)) (upd_n _ _ (by omega)) hl (by omega)]
    exact ⟨(hp j hj).1, (hp j hj).2.1, fun q => by omega⟩
  · rw [lns_cgL hl (by omega), lns_cgL hl (by omega)]
    exact hcar
/-- one more step -/
theorem wlQ.bd (h : wlQ k S u0 u1 r rf tf pf bf cf nf) (e0 : u0 = 0) (e1 : u1 = 0) (hS20 : S < 20) {x y : Nat} (x1 : 10 ≤ x) (x2 : x ≤ 25) (y1 : 15 ≤ y) (y2 : y ≤ 40) : wlQ (k + 1) (S + 1) u0 u1 (bld r S (nI x) (nI y)) (upd rf S (nI x)) (upd tf S (nI y)) (upd pf S (-6)) (upd bf S (-6)) cf (upd nf 3 (nI (S + 1))) := by
  have hno := h.noL e0 e1
  obtain ⟨hI, ⟨h3, h45, h50, hS, hu⟩, hc', ⟨n0, n1, n2, n3⟩, hrt, hp, hcar, z0, z1⟩ := h
  subst e0
  subst e1
  have keep : ∀ j, j ≠ 3 → j ≠ 4 + S → j ≠ 24 + S → bld r S (nI x) (nI y) j = r j := fun j q1 q2 q3 => by
    unfold bld
    rw [upd_n _ _ q1, upd_n _ _ q3, upd_n _ _ q2]
  have k3 : bld r S (nI x) (nI y) 3 = nI (S + 1) := upd_s _ _ _
  refine ⟨(hI.bd h3 hS20 x1 x2 y1 y2).mono (by omega), ⟨k3, (keep _ (by omega) (by omega) (by omega)).trans h45, (keep _ (by omega) (by omega) (by omega)).trans h50, by omega, by omega⟩, ?_, ⟨?_, ?_, ?_, by rw [upd_s, k3]⟩, fun j hj => ?_, wlP.no (fun j hj => ?_) _, ?_, fun _ => rfl, fun _ => rfl⟩
  · obtain ⟨c0, c1, c2, c3, c4, c6, c7, c8, c9, c10, c5, c11⟩ := hc'
    unfold LC
    rw [keep 44 (by omega) (by omega) (by omega), keep 45 (by omega) (by omega) (by omega), keep 46 (by omega) (by omega) (by omega), keep 47 (by omega) (by omega) (by omega), keep 48 (by omega) (by omega) (by omega), keep 49 (by omega) (by omega) (by omega), keep 50 (by omega) (by omega) (by omega), keep 51 (by omega) (by omega) (by omega), keep 52 (by omega) (by omega) (by omega), keep 53 (by omega) (by omega) (by omega), keep 0 (by omega) (by omega) (by omega), keep 1 (by omega) (by omega) (by omega)]
    exact ⟨c0, c1, c2, c3, c4, c6, c7, c8, c9, c10, c5, c11⟩
  · rw [upd_n _ _ (by omega), keep _ (by omega) (by omega) (by omega)]; exact n0
  · rw [upd_n _ _ (by omega), keep _ (by omega) (by omega) (by omega)]; exact n1
  · rw [upd_n _ _ (by omega), keep _ (by omega) (by omega) (by omega)]; exact n2
  · by_cases hz : j = S
    · subst hz
      unfold bld
      rw [upd_s, upd_s, upd_n _ _ (by omega), upd_n _ _ (by omega), upd_s, upd_n _ _ (by omega), upd_s]
      exact ⟨rfl, rfl⟩
    · rw [upd_n _ _ hz, upd_n _ _ hz, keep _ (by omega) (by omega) (by omega), keep _ (by omega) (by omega) (by omega)]
      exact hrt j (by omega)
  · by_cases hz : j = S
    · subst hz
      exact ⟨upd_s _ _ _, upd_s _ _ _⟩
    · rw [upd_n _ _ hz, upd_n _ _ hz]
      exact hno j (by omega)
  · rw [keep 1 (by omega) (by omega) (by omega), keep 47 (by omega) (by omega) (by omega), keep 52 (by omega) (by omega) (by omega), keep 48 (by omega) (by omega) (by omega), keep 53 (by omega) (by omega) (by omega), keep 46 (by omega) (by omega) (by omega), keep 51 (by omega) (by omega) (by omega)]
    exact hcar
/-- all taken up -/
theorem wlQ.allUp (h : wlQ k S u0 u1 r rf tf pf bf cf nf) {pf' bf' cf' : Nat → Int32} (hp' : ∀ j, j < S → pf' j = -6 ∧ bf' j = -6) (hc' : LC (clr r) cf') : wlQ (k + 1) S 0 0 (clr r) rf tf pf' bf' cf' nf := by
  obtain ⟨hI, ⟨h3, h45, h50, hS, hu⟩, hc, ⟨n0, n1, n2, n3⟩, hrt, hp, hcar, z0, z1⟩ := h
  obtain ⟨q45, q46, q47, q48, q50, q51, q52, q53⟩ := clr_at r
  have keep : ∀ j, (j < 45 ∨ j = 49 ∨ 53 < j) → (clr r) j = r j := fun j hj => clr_keep r hj
  refine ⟨hI.cl0.mono (by omega), ⟨(keep _ (by omega)).trans h3, q45, q50, hS, by omega⟩, hc', ⟨n0.trans (keep _ (by omega)).symm, n1.trans (keep _ (by omega)).symm, n2.trans (keep _ (by omega)).symm, n3.trans (keep _ (by omega)).symm⟩, fun j hj => by rw [keep _ (by omega), keep _ (by omega)]; exact hrt j hj, wlP.no hp' _, ?_, fun _ => rfl, fun _ => rfl⟩
  rw [q46, q47, q48, q51, q52, q53, lns_z, lns_z, show nI 0 = 0 from rfl]
  grind
end
