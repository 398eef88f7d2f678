def Slo (m : xM) (a : Nat) (o : Option Row) : Prop := m a = .inr (5, [.ref (a + 1), .int (oI o)]) ∧ HouX m (a + 1) ∧ ∀ x, o = some x → Hou m (a + 1) x
def Pd (m : xM) (a : Nat) (L : List Int32) : Prop := m a = .inr (3, [.ref (a + 1), .int (nI L.length)]) ∧ L.length ≤ 60 ∧ ∃ cf, m (a + 1) = .inl (0, 60, .inl cf) ∧ PA cf L
def Pn (m : xM) (a : Nat) : Prop := ∃ (w p n : Int32) (ri tr ft : Nat → Int32), m a = .inr (4, [.ref (a + 1), .int w, .int p]) ∧ SA m (a + 1) (a + 2) (a + 3) (a + 4) n ri tr ft
theorem Slo.fr {m m' : xM} {a : Nat} {o : Option Row} (h : Slo m a o) (e : ∀ x, a ≤ x → x < a + 8 → m' x = m x) : Slo m' a o :=
  ⟨by rw [e _ (by omega) (by omega)]; exact h.1, h.2.1.fr (fun x q1 q2 => e x (by omega) (by omega)), fun x hx => (h.2.2 x hx).fr (fun x q1 q2 => e x (by omega) (by omega))⟩
theorem Pd.fr {m m' : xM} {a : Nat} {L : List Int32} (h : Pd m a L) (e : ∀ x, a ≤ x → x < a + 2 → m' x = m x) : Pd m' a L := by
  obtain ⟨h1, h2, cf, h3, h4⟩ := h
  exact ⟨by rw [e _ (by omega) (by omega)]; exact h1, h2, cf, by rw [e _ (by omega) (by omega)]; exact h3, h4⟩
theorem SA.fr {m m' : xM} {b r t f : Nat} {n : Int32} {ri tr ft : Nat → Int32} (h : SA m b r t f n ri tr ft) (e : ∀ x, (x = b ∨ x = r ∨ x = t ∨ x = f) → m' x = m x) : SA m' b r t f n ri tr ft := by
  obtain ⟨h1, h2, h3, h4⟩ := h
  exact ⟨by rw [e _ (by simp)]; exact h1, by rw [e _ (by simp)]; exact h2, by rw [e _ (by simp)]; exact h3, by rw [e _ (by simp)]; exact h4⟩
theorem Pn.fr {m m' : xM} {a : Nat} (h : Pn m a) (e : ∀ x, a ≤ x → x < a + 5 → m' x = m x) : Pn m' a := by
  obtain ⟨w, p, n, ri, tr, ft, h1, h2⟩ := h
  exact ⟨w, p, n, ri, tr, ft, by rw [e _ (by omega) (by omega)]; exact h1, h2.fr (fun x hx => e x (by omega) (by omega))⟩
/-- the program's cells tell the state -/
def CO (m : xM) (a : Nat) : Prop := m a = .inr (7, [.ref (a + 1), .ref (a + 8), .ref (a + 15), .ref (a + 59), .ref (a + 67), .ref (a + 75), .ref (a + 77)])
def CC (m : xM) (a : Nat) (σ : AS) : Prop := CO m a ∧ Hou m (a + 1) σ.1 ∧ HouX m (a + 8) ∧ His m (a + 15) σ.2.1 ∧ Slo m (a + 59) σ.2.2.1.1 ∧ Slo m (a + 67) σ.2.2.1.2 ∧ Pd m (a + 75) σ.2.2.2 ∧ Pn m (a + 77)
def fC (a : Nat) (m m' : xM) : Prop := ∀ q, (q < a ∨ a + 82 ≤ q) → m' q = m q
def cDo (id a : Nat) (args : List Value) (σ : AS) (v : Int32) (σ' : AS) : Prop := ∀ h : xH, CC h.2 a σ → ∃ m', cl id (.ref a :: args) h = some (some (.int v), (h.1, m')) ∧ CC m' a σ' ∧ fC a h.2 m'
theorem cDo.same {id a : Nat} {args : List Value} {σ : AS} {v : Int32} (h : ∀ h : xH, CC h.2 a σ → cl id (.ref a :: args) h = some (some (.int v), h)) : cDo id a args σ v σ := fun g hg => ⟨g.2, h g hg, hg, fun _ _ => rfl⟩
/-- a question: nothing changes -/
def cEq (id a : Nat) (args : List Value) (σ : AS) (v : Int32) (_ : AS) : Prop := ∀ h : xH, CC h.2 a σ → cl id (.ref a :: args) h = some (some (.int v), h)
theorem cEq.same {id a : Nat} {args : List Value} {σ : AS} {v : Int32} (h : ∀ h : xH, CC h.2 a σ → cl id (.ref a :: args) h = some (some (.int v), h)) : cEq id a args σ v σ := h
section
variable {a : Nat} {σ : AS}
theorem CC.fr {m m' : xM} (h : CC m a σ) (e : ∀ x, a ≤ x → x < a + 82 → m' x = m x) : CC m' a σ := by
  obtain ⟨h1, h2, h3, h4, h5, h6, h7, h8⟩ := h
  refine ⟨?_, h2.fr (fun x q1 q2 => e x (by omega) (by omega)), h3.fr (fun x q1 q2 => e x (by omega) (by omega)), h4.fr (fun x q1 q2 => e x (by omega) (by omega)), h5.fr (fun x q1 q2 => e x (by omega) (by omega)), h6.fr (fun x q1 q2 => e x (by omega) (by omega)), h7.fr (fun x q1 q2 => e x (by omega) (by omega)), h8.fr (fun x q1 q2 => e x (by omega) (by omega))⟩
  unfold CO at h1 ⊢
  rw [e _ (by omega) (by omega)]
  exact h1
/-- the house of now and the history change -/
theorem CC.ch {m m' : xM} (h : CC m a σ) {r' : Row} {L' : List Row} (h1 : Hou m' (a + 1) r') (h2 : His m' (a + 15) L') (e : ∀ x, (x < a + 1 ∨ a + 8 ≤ x) → (x < a + 15 ∨ a + 59 ≤ x) → m' x = m x) : CC m' a (r', L', σ.2.2) ∧ fC a m m' := by
  obtain ⟨k1, k2, k3, k4, k5, k6, k7, k8⟩ := h
  refine ⟨⟨?_, h1, k3.fr (fun x q1 q2 => e x (by omega) (by omega)), h2, k5.fr (fun x q1 q2 => e x (by omega) (by omega)), k6.fr (fun x q1 q2 => e x (by omega) (by omega)), k7.fr (fun x q1 q2 => e x (by omega) (by omega)), k8.fr (fun x q1 q2 => e x (by omega) (by omega))⟩, fun q hq => e q (by omega) (by omega)⟩
  unfold CO at k1 ⊢
  rw [e _ (by omega) (by omega)]
  exact k1
theorem His.kk {m : xM} {a : Nat} {L : List Row} (h : His m a L) : ∃ v1 v2 : Value, m a = .inr (1, [.ref (a + 1), v1, v2]) := by
  obtain ⟨nx, hf, -, -, h3, -⟩ := h
  exact ⟨_, _, h3⟩
/-- the house of now, kept in the history -/
theorem c_keep {h : xH} (hC : CC h.2 a σ) : ∃ m', cl 5 [.ref (a + 15), .ref (a + 1)] h = some (none, (h.1, m')) ∧ His m' (a + 15) (pushH σ.2.1 σ.1) ∧ ∀ x, (x < a + 15 ∨ a + 59 ≤ x) → m' x = h.2 x := by
  obtain ⟨k1, k2, k3, k4, k5, k6, k7, k8⟩ := hC
  obtain ⟨m', e, g1, g2⟩ := p_keep k4 k2 (by omega)
  exact ⟨m', e, g1, fun x hx => g2 x (by omega)⟩
end
section
variable {m : xM} {a : Nat} {q q' ri tr ft : Nat → Int32}
theorem HA.w0 (h : HA m a q ri tr ft) (hq : ∀ i, 3 ≤ i → q' i = q i) : HA (mu m a (.inr (2, [.int (q' 0), .int (q' 1), .int (q' 2), .ref (a + 1), .ref (a + 5), .ref (a + 6)]))) a q' ri tr ft := by
  obtain ⟨h1, h2, h5, h6⟩ := h
  unfold CA at h5 h6
  refine ⟨mu_s _ _ _, ?_, ?_, ?_⟩
  · rw [hq 3 (by omega)]
    exact h2.fr (fun x hx => mu_n _ _ (by omega))
  · unfold CA
    rw [mu_n _ _ (by omega), h5, hq 4 (by omega), hq 5 (by omega), hq 6 (by omega), hq 7 (by omega), hq 8 (by omega)]
  · unfold CA
    rw [mu_n _ _ (by omega), h6, hq 9 (by omega), hq 10 (by omega), hq 11 (by omega), hq 12 (by omega), hq 13 (by omega)]
theorem HA.w5 (h : HA m a q ri tr ft) (hq : ∀ i, (i < 4 ∨ 9 ≤ i) → q' i = q i) : HA (mu m (a + 5) (.inr (0, [.int 1, .int (q' 4), .int (q' 5), .int (q' 6), .int (q' 7), .int (q' 8)]))) a q' ri tr ft := by
  obtain ⟨h1, h2, h5, h6⟩ := h
  unfold CA at h5 h6
  refine ⟨?_, ?_, ?_, ?_⟩
  · rw [mu_n _ _ (by omega), h1, hq 0 (by omega), hq 1 (by omega), hq 2 (by omega)]
  · rw [hq 3 (by omega)]
    exact h2.fr (fun x hx => mu_n _ _ (by omega))
  · unfold CA
    rw [mu_s]
  · unfold CA
    rw [mu_n _ _ (by omega), h6, hq 9 (by omega), hq 10 (by omega), hq 11 (by omega), hq 12 (by omega), hq 13 (by omega)]
theorem HA.w6 (h : HA m a q ri tr ft) (hq : ∀ i, (i < 9) → q' i = q i) : HA (mu m (a + 6) (.inr (0, [.int 0, .int (q' 9), .int (q' 10), .int (q' 11), .int (q' 12), .int (q' 13)]))) a q' ri tr ft := by
  obtain ⟨h1, h2, h5, h6⟩ := h
  unfold CA at h5 h6
  refine ⟨?_, ?_, ?_, ?_⟩
  · rw [mu_n _ _ (by omega), h1, hq 0 (by omega), hq 1 (by omega), hq 2 (by omega)]
  · rw [hq 3 (by omega)]
    exact h2.fr (fun x hx => mu_n _ _ (by omega))
  · unfold CA
    rw [mu_n _ _ (by omega), h5, hq 4 (by omega), hq 5 (by omega), hq 6 (by omega), hq 7 (by omega), hq 8 (by omega)]
  · unfold CA
    rw [mu_s]
end
