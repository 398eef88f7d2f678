theorem rg_n0 (A1 A2 A3 A4 A5 A6 A7 A8 A9 B1 B2 : Int32) (h : A7 * (A9 + B2) = A1 + A2 + (A4 + A5) + (A8 + B1)) : A7 * (A9 + 1 + B2) = A1 + A3 + A2 + (A4 + (A8 + A6) + A5) + (A7 - A6 - A3 + B1) := by grind
theorem rg_o0 (A1 A2 A3 A4 A5 A6 A7 A8 A9 B1 B2 : Int32) (h : A7 * (A9 + B2) = A1 + A2 + (A4 + A5) + (A8 + B1)) : A7 * (A9 + B2) = A1 + A3 + A2 + (A4 + A6 + A5) + (A8 - A6 - A3 + B1) := by grind
theorem rg_n1 (A1 A2 A3 A4 A5 A6 A7 A8 A9 B1 B2 : Int32) (h : A7 * (A9 + B2) = A1 + A2 + (A4 + A5) + (A8 + B1)) : A7 * (A9 + (B2 + 1)) = A1 + (A3 + A2) + (A4 + (A5 + (B1 + A6))) + (A8 + (A7 - A6 - A3)) := by grind
theorem rg_o1 (A1 A2 A3 A4 A5 A6 A7 A8 A9 B1 B2 : Int32) (h : A7 * (A9 + B2) = A1 + A2 + (A4 + A5) + (A8 + B1)) : A7 * (A9 + B2) = A1 + (A3 + A2) + (A4 + (A5 + A6)) + (A8 + (B1 - A6 - A3)) := by grind
section
variable {k S u u0 u1 : Nat} {r r' : Row} {rf tf pf bf cf nf : Nat → Int32}
theorem wlQ.up0 (h : wlQ k S (u + 1) u1 r rf tf pf bf cf nf) : wlQ (k + 1) S u u1 (tk0 r u) rf tf (upd pf u (-6)) (upd bf u (-6)) (upd (upd cf 1 (nI u)) 4 (cf 4 + ln r u)) nf := by
  obtain ⟨hI, ⟨h3, h45, h50, hS, hu⟩, hc', ⟨n0, n1, n2, n3⟩, hrt, hp, hcar, z0, z1⟩ := h
  have e45 : r 45 - 1 = nI u := by rw [h45]; exact nI_pred u
  have keep : ∀ i, i ≠ 45 → i ≠ 48 → tk0 r u i = r i := fun i q1 q2 => by unfold tk0; rw [upd_n _ _ q2, upd_n _ _ q1]
  have k45 : tk0 r u 45 = nI u := by unfold tk0; rw [upd_n _ _ (by omega), upd_s, e45]
  have k48 : tk0 r u 48 = r 48 + ln r u := by unfold tk0; rw [upd_s]
  have hl : ∀ j, 4 ≤ j → j < 44 → tk0 r u j = r j := fun j h1 h2 => keep j (by omega) (by omega)
  refine ⟨(hI.tke0 h45 (by omega) u).mono (by omega), ⟨(keep _ (by omega) (by omega)).trans h3, k45, (keep _ (by omega) (by omega)).trans h50, hS, by omega⟩, ?_, ⟨n0.trans (keep _ (by omega) (by omega)).symm, n1.trans (keep _ (by omega) (by omega)).symm, n2.trans (keep _ (by omega) (by omega)).symm, n3.trans (keep _ (by omega) (by omega)).symm⟩, fun j hj => by rw [keep _ (by omega) (by omega), keep _ (by omega) (by omega)]; exact hrt j hj, fun j hj => ?_, ?_, fun q => ?_, fun q => ?_⟩
  · obtain ⟨c0, c1, c2, c3, c4, c6, c7, c8, c9, c10, c5, c11⟩ := hc'
    unfold LC
    rw [k45, k48, keep 44 (by omega) (by omega), keep 46 (by omega) (by omega), keep 47 (by omega) (by omega), keep 49 (by omega) (by omega), keep 50 (by omega) (by omega), keep 51 (by omega) (by omega), keep 52 (by omega) (by omega), keep 53 (by omega) (by omega), keep 0 (by omega) (by omega), keep 1 (by omega) (by omega)]
    refine ⟨c0, ?_, c2, c3, ?_, c6, c7, c8, c9, c10, c5, c11⟩
    · rw [upd_n _ _ (by omega), upd_s]
    · rw [upd_s, c4]
  · rw [mB_cg (r' := tk0 r u) (r := r) (keep _ (by omega) (by omega)) (keep _ (by omega) (by omega)) hl (by omega), mA_cg (r' := tk0 r u) (r := r) (keep _ (by omega) (by omega)) (keep _ (by omega) (by omega)) hl hS (by omega)]
    obtain ⟨p1, p2, p3⟩ := hp j hj
    by_cases hz : j = u
    · subst hz
      rw [upd_s, upd_s]
      exact ⟨fun q => by omega, fun _ _ => ⟨rfl, rfl⟩, fun q => by omega⟩
    · rw [upd_n _ _ hz, upd_n _ _ hz]
      exact ⟨fun q => p1 (by omega), fun q1 q2 => p2 (by omega) q2, p3⟩
  · rw [lns_cgL hl (by omega), lns_cgL hl (by omega), k48, keep 1 (by omega) (by omega), keep 47 (by omega) (by omega), keep 52 (by omega) (by omega), keep 53 (by omega) (by omega), keep 46 (by omega) (by omega), keep 51 (by omega) (by omega), hcar, lns_s, Nat.zero_add]
    generalize lns r 0 u = A1
    generalize lns r (S - u1) u1 = A2
    generalize ln r u = A3
    generalize r 48 = A4
    generalize r 53 = A5
    grind
  · rw [keep _ (by omega) (by omega)] at q
    have := z0 q
    omega
  · rw [keep _ (by omega) (by omega)] at q
    exact z1 q
theorem wlQ.up1 (h : wlQ k S u0 (u + 1) r rf tf pf bf cf nf) : wlQ (k + 1) S u0 u (tk1 r (S - (u + 1))) rf tf (upd pf (S - (u + 1)) (-6)) (upd bf (S - (u + 1)) (-6)) (upd (upd cf 7 (nI u)) 10 (cf 10 + ln r (S - (u + 1)))) nf := by
  obtain ⟨hI, ⟨h3, h45, h50, hS, hu⟩, hc', ⟨n0, n1, n2, n3⟩, hrt, hp, hcar, z0, z1⟩ := h
  obtain ⟨i, hi⟩ : ∃ i, i = S - (u + 1) := ⟨_, rfl⟩
  have hi2 : S - u = i + 1 := by omega
  rw [← hi] at hcar ⊢
  have e50 : r 50 - 1 = nI u := by rw [h50]; exact nI_pred u
  have keep : ∀ j, j ≠ 50 → j ≠ 53 → tk1 r i j = r j := fun j q1 q2 => by unfold tk1; rw [upd_n _ _ q2, upd_n _ _ q1]
  have k50 : tk1 r i 50 = nI u := by unfold tk1; rw [upd_n _ _ (by omega), upd_s, e50]
  have k53 : tk1 r i 53 = r 53 + ln r i := by unfold tk1; rw [upd_s]
  have hl : ∀ j, 4 ≤ j → j < 44 → tk1 r i j = r j := fun j h1 h2 => keep j (by omega) (by omega)
  refine ⟨(hI.tke1 h50 (by omega) i).mono (by omega), ⟨(keep _ (by omega) (by omega)).trans h3, (keep _ (by omega) (by omega)).trans h45, k50, hS, by omega⟩, ?_, ⟨n0.trans (keep _ (by omega) (by omega)).symm, n1.trans (keep _ (by omega) (by omega)).symm, n2.trans (keep _ (by omega) (by omega)).symm, n3.trans (keep _ (by omega) (by omega)).symm⟩, fun j hj => by rw [keep _ (by omega) (by omega), keep _ (by omega) (by omega)]; exact hrt j hj, fun j hj => ?_, ?_, fun q => ?_, fun q => ?_⟩
  · obtain ⟨c0, c1, c2, c3, c4, c6, c7, c8, c9, c10, c5, c11⟩ := hc'
    unfold LC
    rw [k50, k53, keep 44 (by omega) (by omega), keep 46 (by omega) (by omega), keep 47 (by omega) (by omega), keep 49 (by omega) (by omega), keep 45 (by omega) (by omega), keep 51 (by omega) (by omega), keep 52 (by omega) (by omega), keep 48 (by omega) (by omega), keep 0 (by omega) (by omega), keep 1 (by omega) (by omega)]
    refine ⟨c0, c1, c2, c3, c4, c6, ?_, c8, c9, ?_, c5, c11⟩
    · rw [upd_n _ _ (by omega), upd_s]
    · rw [upd_s, c10]
  · rw [mB_cg (r' := tk1 r i) (r := r) (keep _ (by omega) (by omega)) (keep _ (by omega) (by omega)) hl (by omega), mA_cg (r' := tk1 r i) (r := r) (keep _ (by omega) (by omega)) (keep _ (by omega) (by omega)) hl hS (by omega)]
    obtain ⟨p1, p2, p3⟩ := hp j hj
    by_cases hz : j = i
    · rw [hz, upd_s, upd_s]
      exact ⟨fun q => by omega, fun _ _ => ⟨rfl, rfl⟩, fun q => by omega⟩
    · rw [upd_n _ _ hz, upd_n _ _ hz]
      exact ⟨p1, fun q1 q2 => p2 q1 (by omega), fun q => p3 (by omega)⟩
  · rw [lns_cgL hl (by omega), lns_cgL hl (by omega), k53, keep 1 (by omega) (by omega), keep 47 (by omega) (by omega), keep 52 (by omega) (by omega), keep 48 (by omega) (by omega), keep 46 (by omega) (by omega), keep 51 (by omega) (by omega), hcar, lns_front, hi2]
    generalize lns r 0 u0 = A1
    generalize lns r (i + 1) u = A2
    generalize ln r i = A3
    generalize r 48 = A4
    generalize r 53 = A5
    grind
  · rw [keep _ (by omega) (by omega)] at q
    exact z0 q
  · rw [keep _ (by omega) (by omega)] at q
    have := z1 q
    omega
theorem wlQ.ly0 (h : wlQ k S u0 u1 r rf tf pf bf cf nf) (hk : k < 1000) (hlt : u0 + u1 < S) (hr : lay0 r u0 = some r') {cf' : Nat → Int32} (hc' : LC r' cf') : wlQ (k + 1) S (u0 + 1) u1 r' rf tf (upd pf u0 (mB r u0)) (upd bf u0 0) cf' nf := by
  obtain ⟨hI, ⟨h3, h45, h50, hS, hu⟩, -, ⟨n0, n1, n2, n3⟩, hrt, hp, hcar, z0, z1⟩ := h
  have hl2 : r 45 + r 50 < r 3 := by rw [h45, h50, h3, show nI u0 + nI u1 = nI (u0 + u1) from nI_add _ _]; exact nI_lt (by omega) (by omega)
  have keep : ∀ j, (j < 45 ∨ 48 < j) → r' j = r j := fun j hj => lay0_keep hr hj
  have hl : ∀ j, 4 ≤ j → j < 44 → r' j = r j := fun j h1 h2 => keep j (by omega)
  obtain ⟨p0, p1, R, O, b0, b1, l0, l1, e47, e52, eR, eO, e44, e49, e46, e51, f1, f2, r2, r60, o1, o2, f3, f4, f5, f6⟩ := hI.all
  have key : r' 1 * (r' 47 + r' 52) = lns r 0 (u0 + 1) + lns r (S - u1) u1 + (r' 48 + r' 53) + (r' 46 + r' 51) ∧ ¬ r' 47 = 0 := by
    rw [keep 1 (by omega), keep 52 (by omega), keep 53 (by omega), keep 51 (by omega), lns_s, Nat.zero_add]
    unfold lay0 at hr
    by_cases ca : r 47 = 0 ∨ r 46 < cN0 r u0 + ln r u0
    · rw [if_pos ca] at hr
      by_cases cb : r 1 < cR0 r u0 + ln r u0
      · rw [if_pos cb] at hr; cases hr
      · rw [if_neg cb] at hr
        cases hr
        constructor
        · rw [upd_n _ _ (by omega), upd_n _ _ (by omega), upd_n _ _ (by omega), upd_s, upd_n _ _ (by omega), upd_s, upd_n _ _ (by omega), upd_n _ _ (by omega), upd_s]
          exact rg_n0 _ _ _ _ _ _ _ _ _ _ _ hcar
        · rw [upd_n _ _ (by omega), upd_n _ _ (by omega), upd_n _ _ (by omega), upd_s, e47, nI_1]
          exact nI_ne0 (by omega) (by omega)
    · rw [if_neg ca] at hr
      cases hr
      constructor
      · rw [upd_n _ _ (by omega), upd_n _ _ (by omega), upd_n _ _ (by omega), upd_n _ _ (by omega), upd_s, upd_n _ _ (by omega), upd_n _ _ (by omega), upd_s]
        exact rg_o0 _ _ _ _ _ _ _ _ _ _ _ hcar
      · rw [upd_n _ _ (by omega), upd_n _ _ (by omega), upd_n _ _ (by omega)]
        exact fun q => ca (Or.inl q)
  refine ⟨hI.la0 h3 hS (by omega) hl2 hr, ⟨(keep _ (by omega)).trans h3, lay0_45 hr h45, (keep _ (by omega)).trans h50, hS, by omega⟩, hc', ⟨n0.trans (keep _ (by omega)).symm, n1.trans (keep _ (by omega)).symm, n2.trans (keep _ (by omega)).symm, n3.trans (keep _ (by omega)).symm⟩, fun j hj => by rw [keep _ (by omega), keep _ (by omega)]; exact hrt j hj, fun j hj => ?_, ?_, fun q => absurd q key.2, fun q => ?_⟩
  · rw [mB_cg (r' := r') (r := r) (keep _ (by omega)) (keep _ (by omega)) hl (by omega), mA_cg (r' := r') (r := r) (keep _ (by omega)) (keep _ (by omega)) hl hS (by omega)]
    obtain ⟨p1, p2, p3⟩ := hp j hj
    by_cases hz : j = u0
    · rw [hz, upd_s, upd_s]
      exact ⟨fun _ => ⟨rfl, rfl⟩, fun q => by omega, fun q => by omega⟩
    · rw [upd_n _ _ hz, upd_n _ _ hz]
      exact ⟨fun q => p1 (by omega), fun q1 q2 => p2 (by omega) q2, p3⟩
  · rw [lns_cgL hl (by omega), lns_cgL hl (by omega)]
    exact key.1
  · rw [keep _ (by omega)] at q
    exact z1 q
theorem wlQ.ly1 (h : wlQ k S u0 u1 r rf tf pf bf cf nf) (hk : k < 1000) (hlt : u0 + u1 < S) (hr : lay1 r S (S - 1 - u1) = some r') {cf' : Nat → Int32} (hc' : LC r' cf') : wlQ (k + 1) S u0 (u1 + 1) r' rf tf (upd pf (S - 1 - u1) (mA r S (S - 1 - u1))) (upd bf (S - 1 - u1) 1) cf' nf := by
  obtain ⟨hI, ⟨h3, h45, h50, hS, hu⟩, -, ⟨n0, n1, n2, n3⟩, hrt, hp, hcar, z0, z1⟩ := h
  have hl2 : r 45 + r 50 < r 3 := by rw [h45, h50, h3, show nI u0 + nI u1 = nI (u0 + u1) from nI_add _ _]; exact nI_lt (by omega) (by omega)
  obtain ⟨i, hi⟩ : ∃ i, i = S - 1 - u1 := ⟨_, rfl⟩
  have hi2 : S - u1 = i + 1 := by omega
  have hi3 : S - (u1 + 1) = i := by omega
  rw [← hi] at hr ⊢
  have keep : ∀ j, (j < 50 ∨ 53 < j) → r' j = r j := fun j hj => lay1_keep hr hj
  have hl : ∀ j, 4 ≤ j → j < 44 → r' j = r j := fun j h1 h2 => keep j (by omega)
  obtain ⟨p0, p1, R, O, b0, b1, l0, l1, e47, e52, eR, eO, e44, e49, e46, e51, f1, f2, r2, r60, o1, o2, f3, f4, f5, f6⟩ := hI.all
  have key : r' 1 * (r' 47 + r' 52) = lns r 0 u0 + lns r i (u1 + 1) + (r' 48 + r' 53) + (r' 46 + r' 51) ∧ ¬ r' 52 = 0 := by
    rw [keep 1 (by omega), keep 47 (by omega), keep 48 (by omega), keep 46 (by omega), lns_front]
    rw [hi2] at hcar
    unfold lay1 at hr
    by_cases ca : r 52 = 0 ∨ r 51 < cN1 r S i + ln r i
    · rw [if_pos ca] at hr
      by_cases cb : r 1 < cR1 r S i + ln r i
      · rw [if_pos cb] at hr; cases hr
      · rw [if_neg cb] at hr
        cases hr
        constructor
        · rw [upd_n _ _ (by omega), upd_n _ _ (by omega), upd_n _ _ (by omega), upd_s, upd_n _ _ (by omega), upd_s, upd_n _ _ (by omega), upd_n _ _ (by omega), upd_s]
          exact rg_n1 _ _ _ _ _ _ _ _ _ _ _ hcar
        · rw [upd_n _ _ (by omega), upd_n _ _ (by omega), upd_n _ _ (by omega), upd_s, e52, nI_1]
          exact nI_ne0 (by omega) (by omega)
    · rw [if_neg ca] at hr
      cases hr
      constructor
      · rw [upd_n _ _ (by omega), upd_n _ _ (by omega), upd_n _ _ (by omega), upd_n _ _ (by omega), upd_s, upd_n _ _ (by omega), upd_n _ _ (by omega), upd_s]
        exact rg_o1 _ _ _ _ _ _ _ _ _ _ _ hcar
      · rw [upd_n _ _ (by omega), upd_n _ _ (by omega), upd_n _ _ (by omega)]
        exact fun q => ca (Or.inl q)
  refine ⟨hI.la1 h3 hS (by omega) hl2 hr, ⟨(keep _ (by omega)).trans h3, (keep _ (by omega)).trans h45, lay1_50 hr h50, hS, by omega⟩, hc', ⟨n0.trans (keep _ (by omega)).symm, n1.trans (keep _ (by omega)).symm, n2.trans (keep _ (by omega)).symm, n3.trans (keep _ (by omega)).symm⟩, fun j hj => by rw [keep _ (by omega), keep _ (by omega)]; exact hrt j hj, fun j hj => ?_, ?_, fun q => ?_, fun q => absurd q key.2⟩
  · rw [mB_cg (r' := r') (r := r) (keep _ (by omega)) (keep _ (by omega)) hl (by omega), mA_cg (r' := r') (r := r) (keep _ (by omega)) (keep _ (by omega)) hl hS (by omega)]
    obtain ⟨p1, p2, p3⟩ := hp j hj
    by_cases hz : j = i
    · rw [hz, upd_s, upd_s]
      exact ⟨fun q => by omega, fun _ q => by omega, fun _ => ⟨rfl, rfl⟩⟩
    · rw [upd_n _ _ hz, upd_n _ _ hz]
      exact ⟨p1, fun q1 q2 => p2 q1 (by omega), fun q => p3 (by omega)⟩
  · rw [lns_cgL hl (by omega), lns_cgL hl (by omega), hi3]
    exact key.1
  · rw [keep _ (by omega)] at q
    exact z0 q
end
