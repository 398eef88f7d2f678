theorem x_mm0 : x_mmOK ((0, 29), true) := by
  unfold x_mmOK
  first
    | (rw [if_pos rfl]; exact x_tg 415 (by decide +kernel) (by decide +kernel))
    | (rw [if_neg (by decide)]; exact x_tg 415 (by decide +kernel) (by decide +kernel))
theorem x_mm1 : x_mmOK ((1, 33), false) := by
  unfold x_mmOK
  first
    | (rw [if_pos rfl]; exact x_tg 509 (by decide +kernel) (by decide +kernel))
    | (rw [if_neg (by decide)]; exact x_tg 509 (by decide +kernel) (by decide +kernel))
theorem x_mm2 : x_mmOK ((2, 118), false) := by
  unfold x_mmOK
  first
    | (rw [if_pos rfl]; exact x_tg 431 (by decide +kernel) (by decide +kernel))
    | (rw [if_neg (by decide)]; exact x_tg 431 (by decide +kernel) (by decide +kernel))
theorem x_mml : ∀ q ∈ x_MML, x_mmOK q := List.forall_mem_cons.mpr ⟨x_mm0, List.forall_mem_cons.mpr ⟨x_mm1, List.forall_mem_cons.mpr ⟨x_mm2, fun _ h => absurd h List.not_mem_nil⟩⟩⟩
theorem x_jmI : Jvm.Cond.initialized "java/lang/Math" ∈ x_TG := x_tg 54 (by decide +kernel) (by decide +kernel)
theorem x_jmS_max : Jvm.Cond.static Lib.Math.max.name ∈ x_TG := x_tg 416 (by decide +kernel) (by decide +kernel)
theorem x_jmC_max : Jvm.Cond.code Lib.Math.max.name Lib.Math.max.code 2 (some .int) ∈ x_TG := x_tg 417 (by decide +kernel) (by decide +kernel)
theorem x_jmS_min : Jvm.Cond.static Lib.Math.min.name ∈ x_TG := x_tg 432 (by decide +kernel) (by decide +kernel)
theorem x_jmC_min : Jvm.Cond.code Lib.Math.min.name Lib.Math.min.code 2 (some .int) ∈ x_TG := x_tg 433 (by decide +kernel) (by decide +kernel)
theorem x_oi0 : x_oiOK ((0, 1), ()) := x_tg 96 (by decide +kernel) (by decide +kernel)
theorem x_oi1 : x_oiOK ((1, 3), ()) := x_tg 158 (by decide +kernel) (by decide +kernel)
theorem x_oi2 : x_oiOK ((2, 3), ()) := x_tg 68 (by decide +kernel) (by decide +kernel)
theorem x_oi3 : x_oiOK ((3, 3), ()) := x_tg 193 (by decide +kernel) (by decide +kernel)
theorem x_oi4 : x_oiOK ((4, 3), ()) := x_tg 207 (by decide +kernel) (by decide +kernel)
theorem x_oi5 : x_oiOK ((5, 1), ()) := x_tg 178 (by decide +kernel) (by decide +kernel)
theorem x_oi6 : x_oiOK ((6, 3), ()) := x_tg 74 (by decide +kernel) (by decide +kernel)
theorem x_oi7 : x_oiOK ((7, 1), ()) := x_tg 60 (by decide +kernel) (by decide +kernel)
theorem x_oil : ∀ q ∈ x_OIL, x_oiOK q := List.forall_mem_cons.mpr ⟨x_oi0, List.forall_mem_cons.mpr ⟨x_oi1, List.forall_mem_cons.mpr ⟨x_oi2, List.forall_mem_cons.mpr ⟨x_oi3, List.forall_mem_cons.mpr ⟨x_oi4, List.forall_mem_cons.mpr ⟨x_oi5, List.forall_mem_cons.mpr ⟨x_oi6, List.forall_mem_cons.mpr ⟨x_oi7, fun _ h => absurd h List.not_mem_nil⟩⟩⟩⟩⟩⟩⟩⟩
theorem x_oiI : Jvm.Cond.instanceMethod objectInit ∈ x_TG := x_tg 61 (by decide +kernel) (by decide +kernel)
theorem x_oiC : Jvm.Cond.code objectInit ⟨#[0xb1]⟩ 1 none ∈ x_TG := x_tg 62 (by decide +kernel) (by decide +kernel)
theorem x_acI : Jvm.Cond.arrayClass .int ∈ x_TG := x_tg 90 (by decide +kernel) (by decide +kernel)
theorem x_us0 : ∀ w ∈ u_ws RX0 TX0 6, w ∈ x_TG := by
  show ∀ w ∈ (List.range 6).map (u_lay RX0 TX0), w ∈ x_TG
  simp only [List.range, List.range.loop, List.map_cons, List.map_nil]
  exact List.forall_mem_cons.mpr ⟨x_tg 115 (by decide +kernel) (by decide +kernel), List.forall_mem_cons.mpr ⟨x_tg 117 (by decide +kernel) (by decide +kernel), List.forall_mem_cons.mpr ⟨x_tg 119 (by decide +kernel) (by decide +kernel), List.forall_mem_cons.mpr ⟨x_tg 121 (by decide +kernel) (by decide +kernel), List.forall_mem_cons.mpr ⟨x_tg 123 (by decide +kernel) (by decide +kernel), List.forall_mem_cons.mpr ⟨x_tg 125 (by decide +kernel) (by decide +kernel), fun _ h => absurd h List.not_mem_nil⟩⟩⟩⟩⟩⟩
theorem x_us1 : ∀ w ∈ u_ws RX1 TX1 3, w ∈ x_TG := by
  show ∀ w ∈ (List.range 3).map (u_lay RX1 TX1), w ∈ x_TG
  simp only [List.range, List.range.loop, List.map_cons, List.map_nil]
  exact List.forall_mem_cons.mpr ⟨x_tg 166 (by decide +kernel) (by decide +kernel), List.forall_mem_cons.mpr ⟨x_tg 168 (by decide +kernel) (by decide +kernel), List.forall_mem_cons.mpr ⟨x_tg 170 (by decide +kernel) (by decide +kernel), fun _ h => absurd h List.not_mem_nil⟩⟩⟩
theorem x_us2 : ∀ w ∈ u_ws RX2 TX2 6, w ∈ x_TG := by
  show ∀ w ∈ (List.range 6).map (u_lay RX2 TX2), w ∈ x_TG
  simp only [List.range, List.range.loop, List.map_cons, List.map_nil]
  exact List.forall_mem_cons.mpr ⟨x_tg 140 (by decide +kernel) (by decide +kernel), List.forall_mem_cons.mpr ⟨x_tg 142 (by decide +kernel) (by decide +kernel), List.forall_mem_cons.mpr ⟨x_tg 144 (by decide +kernel) (by decide +kernel), List.forall_mem_cons.mpr ⟨x_tg 146 (by decide +kernel) (by decide +kernel), List.forall_mem_cons.mpr ⟨x_tg 148 (by decide +kernel) (by decide +kernel), List.forall_mem_cons.mpr ⟨x_tg 150 (by decide +kernel) (by decide +kernel), fun _ h => absurd h List.not_mem_nil⟩⟩⟩⟩⟩⟩
theorem x_us3 : ∀ w ∈ u_ws RX3 TX3 2, w ∈ x_TG := by
  show ∀ w ∈ (List.range 2).map (u_lay RX3 TX3), w ∈ x_TG
  simp only [List.range, List.range.loop, List.map_cons, List.map_nil]
  exact List.forall_mem_cons.mpr ⟨x_tg 197 (by decide +kernel) (by decide +kernel), List.forall_mem_cons.mpr ⟨x_tg 199 (by decide +kernel) (by decide +kernel), fun _ h => absurd h List.not_mem_nil⟩⟩
theorem x_us4 : ∀ w ∈ u_ws RX4 TX4 3, w ∈ x_TG := by
  show ∀ w ∈ (List.range 3).map (u_lay RX4 TX4), w ∈ x_TG
  simp only [List.range, List.range.loop, List.map_cons, List.map_nil]
  exact List.forall_mem_cons.mpr ⟨x_tg 213 (by decide +kernel) (by decide +kernel), List.forall_mem_cons.mpr ⟨x_tg 215 (by decide +kernel) (by decide +kernel), List.forall_mem_cons.mpr ⟨x_tg 217 (by decide +kernel) (by decide +kernel), fun _ h => absurd h List.not_mem_nil⟩⟩⟩
theorem x_us5 : ∀ w ∈ u_ws RX5 TX5 2, w ∈ x_TG := by
  show ∀ w ∈ (List.range 2).map (u_lay RX5 TX5), w ∈ x_TG
  simp only [List.range, List.range.loop, List.map_cons, List.map_nil]
  exact List.forall_mem_cons.mpr ⟨x_tg 183 (by decide +kernel) (by decide +kernel), List.forall_mem_cons.mpr ⟨x_tg 185 (by decide +kernel) (by decide +kernel), fun _ h => absurd h List.not_mem_nil⟩⟩
theorem x_us6 : ∀ w ∈ u_ws RX6 TX6 4, w ∈ x_TG := by
  show ∀ w ∈ (List.range 4).map (u_lay RX6 TX6), w ∈ x_TG
  simp only [List.range, List.range.loop, List.map_cons, List.map_nil]
  exact List.forall_mem_cons.mpr ⟨x_tg 81 (by decide +kernel) (by decide +kernel), List.forall_mem_cons.mpr ⟨x_tg 83 (by decide +kernel) (by decide +kernel), List.forall_mem_cons.mpr ⟨x_tg 85 (by decide +kernel) (by decide +kernel), List.forall_mem_cons.mpr ⟨x_tg 87 (by decide +kernel) (by decide +kernel), fun _ h => absurd h List.not_mem_nil⟩⟩⟩⟩
theorem x_us7 : ∀ w ∈ u_ws RX7 TX7 7, w ∈ x_TG := by
  show ∀ w ∈ (List.range 7).map (u_lay RX7 TX7), w ∈ x_TG
  simp only [List.range, List.range.loop, List.map_cons, List.map_nil]
  exact List.forall_mem_cons.mpr ⟨x_tg 227 (by decide +kernel) (by decide +kernel), List.forall_mem_cons.mpr ⟨x_tg 229 (by decide +kernel) (by decide +kernel), List.forall_mem_cons.mpr ⟨x_tg 231 (by decide +kernel) (by decide +kernel), List.forall_mem_cons.mpr ⟨x_tg 233 (by decide +kernel) (by decide +kernel), List.forall_mem_cons.mpr ⟨x_tg 235 (by decide +kernel) (by decide +kernel), List.forall_mem_cons.mpr ⟨x_tg 237 (by decide +kernel) (by decide +kernel), List.forall_mem_cons.mpr ⟨x_tg 239 (by decide +kernel) (by decide +kernel), fun _ h => absurd h List.not_mem_nil⟩⟩⟩⟩⟩⟩⟩
def x_clOK (ci : Nat) : Prop := ∀ C T N, x_CLS[ci]? = some (C, T, N) → (∀ w ∈ u_ws C T N, w ∈ x_TG) ∧ (∀ k, k < N → parseFieldDescriptor (T k).2.2.1 = some (x_TY ci k)) ∧ (∀ a, a < N → ∀ b, b < N → a ≠ b → (T a).2.1 ≠ (T b).2.1)
theorem x_cl0 : x_clOK 0 := by
  intro C T N h
  cases h
  exact ⟨x_us0, tyX0_ok, nmX0⟩
theorem x_cl1 : x_clOK 1 := by
  intro C T N h
  cases h
  exact ⟨x_us1, tyX1_ok, nmX1⟩
theorem x_cl2 : x_clOK 2 := by
  intro C T N h
  cases h
  exact ⟨x_us2, tyX2_ok, nmX2⟩
theorem x_cl3 : x_clOK 3 := by
  intro C T N h
  cases h
  exact ⟨x_us3, tyX3_ok, nmX3⟩
theorem x_cl4 : x_clOK 4 := by
  intro C T N h
  cases h
  exact ⟨x_us4, tyX4_ok, nmX4⟩
theorem x_cl5 : x_clOK 5 := by
  intro C T N h
  cases h
  exact ⟨x_us5, tyX5_ok, nmX5⟩
theorem x_cl6 : x_clOK 6 := by
  intro C T N h
  cases h
  exact ⟨x_us6, tyX6_ok, nmX6⟩
theorem x_cl7 : x_clOK 7 := by
  intro C T N h
  cases h
  exact ⟨x_us7, tyX7_ok, nmX7⟩
theorem x_clA : ∀ ci, x_clOK ci
  | 0 => x_cl0
  | 1 => x_cl1
  | 2 => x_cl2
  | 3 => x_cl3
  | 4 => x_cl4
  | 5 => x_cl5
  | 6 => x_cl6
  | 7 => x_cl7
  | n + 8 => fun C T N h => by simp at h
