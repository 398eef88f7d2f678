theorem x_find_mem {α : Type} : ∀ (l : List ((Nat × Nat) × α)) (c i : Nat) (v : α), x_find l c i = some v → ((c, i), v) ∈ l
  | [], _, _, _, h => by cases h
  | q :: t, c, i, v, h => by
    unfold x_find at h
    split at h
    next hq =>
      obtain ⟨⟨a, b⟩, w⟩ := q
      obtain ⟨rfl, rfl⟩ := hq
      cases h
      exact List.mem_cons_self
    next => exact List.mem_cons_of_mem _ (x_find_mem t c i v h)
/-- the words that a callee may ask of its caller -/
def x_TG : List Jvm.Cond := lw_tbl.filter goodWord
/-- the words on nest mates -/
def x_isN : Jvm.Cond → Bool
  | .fieldLinkNest _ _ _ _ _ _ => true
  | .methodLinkNest _ _ _ _ => true
  | _ => false
def x_NW : List Jvm.Cond := lw_tbl.filter x_isN
theorem x_tg {w : Jvm.Cond} (i : Nat) (h : lw_tbl[i]? = some w) (hg : goodWord w = true) : w ∈ x_TG := List.mem_filter.mpr ⟨List.mem_of_getElem? h, hg⟩
theorem x_ng {w : Jvm.Cond} (i : Nat) (h : lw_tbl[i]? = some w) (hg : x_isN w = true) : w ∈ x_NW := List.mem_filter.mpr ⟨List.mem_of_getElem? h, hg⟩
def x_gfOK (q : (Nat × Nat) × (Nat × Nat)) : Prop := ∃ C T N, x_CLS[q.2.1]? = some (C, T, N) ∧ q.2.2 < N ∧ (T q.2.2).1 = C ∧ (Jvm.Cond.fieldLink (x_RC q.1.1) q.1.2 C (T q.2.2).2.1 (T q.2.2).2.2.1 ∈ x_TG ∨ ∃ host, Jvm.Cond.fieldLinkNest (x_RC q.1.1) q.1.2 C (T q.2.2).2.1 (T q.2.2).2.2.1 host ∈ x_NW)
def x_pfOK (q : (Nat × Nat) × (Nat × Nat × Bool)) : Prop := ∃ C T N, x_CLS[q.2.1]? = some (C, T, N) ∧ q.2.2.1 < N ∧ (T q.2.2.1).1 = C ∧ (T q.2.2.1).2.2.2 = q.2.2.2 ∧ (Jvm.Cond.fieldLink (x_RC q.1.1) q.1.2 C (T q.2.2.1).2.1 (T q.2.2.1).2.2.1 ∈ x_TG ∨ (q.2.2.2 = false ∧ ∃ host, Jvm.Cond.fieldLinkNest (x_RC q.1.1) q.1.2 C (T q.2.2.1).2.1 (T q.2.2.1).2.2.1 host ∈ x_NW))
def x_ivOK (q : (Nat × Nat) × (Nat × Nat × Nat)) : Prop :=
  (Jvm.Cond.methodLink (x_RC q.1.1) q.1.2 (x_nm q.2.2.1) ∈ x_TG ∨ ∃ host, Jvm.Cond.methodLinkNest (x_RC q.1.1) q.1.2 (x_nm q.2.2.1) host ∈ x_NW) ∧
  Jvm.Cond.code (x_nm q.2.2.1) (x_cd q.2.2.1) (x_ml q.2.2.1) (x_rt q.2.2.1) ∈ x_TG ∧ Jvm.Cond.initialized (x_nm q.2.2.1).cls ∈ x_TG ∧ ((x_nm q.2.2.1).cls ≠ "java/lang/invoke/MethodHandle" ∧ (x_nm q.2.2.1).cls ≠ "java/lang/invoke/VarHandle") ∧ (parseMethodDescriptor (x_nm q.2.2.1).desc).map (fun d => d.parameters.length) = some q.2.2.2 ∧ plainName (x_nm q.2.2.1).cls = true ∧ (x_nm q.2.2.1).cls = x_RC (x_kl q.2.2.1) ∧
  (q.2.1 = 0 → Jvm.Cond.instanceMethod (x_nm q.2.2.1) ∈ x_TG ∧ Jvm.Cond.selects (x_nm q.2.2.1).cls (x_nm q.2.2.1) (x_nm q.2.2.1) ∈ x_TG ∧ ∃ T N, x_CLS[x_kl q.2.2.1]? = some ((x_nm q.2.2.1).cls, T, N)) ∧
  (q.2.1 = 1 → Jvm.Cond.static (x_nm q.2.2.1) ∈ x_TG) ∧ (q.2.1 = 2 → Jvm.Cond.instanceMethod (x_nm q.2.2.1) ∈ x_TG ∧ (x_nm q.2.2.1).name = "<init>" ∧ x_rt q.2.2.1 = none)
def x_nwOK (q : (Nat × Nat) × Nat) : Prop := ∃ C T N, x_CLS[q.2]? = some (C, T, N) ∧ (x_dfl q.2).length = N ∧ (∀ j, j < N → defaultValue (x_TY q.2 j) = vp_V (x_dfl q.2) j) ∧ Jvm.Cond.classLink (x_RC q.1.1) q.1.2 C ∈ x_TG ∧ Jvm.Cond.instantiable C N ∈ x_TG ∧ Jvm.Cond.initialized C ∈ x_TG
def x_lcOK (q : (Nat × Nat) × Int64) : Prop := Jvm.Cond.constantLong (x_RC q.1.1) q.1.2 q.2 ∈ x_TG
def x_icOK (q : (Nat × Nat) × Int32) : Prop := Jvm.Cond.constant (x_RC q.1.1) q.1.2 q.2 ∈ x_TG
def x_mmOK (q : (Nat × Nat) × Bool) : Prop := if q.2 = true then Jvm.Cond.methodLink (x_RC q.1.1) q.1.2 Lib.Math.max.name ∈ x_TG else Jvm.Cond.methodLink (x_RC q.1.1) q.1.2 Lib.Math.min.name ∈ x_TG
def x_oiOK (q : (Nat × Nat) × Unit) : Prop := Jvm.Cond.methodLink (x_RC q.1.1) q.1.2 objectInit ∈ x_TG
theorem x_gf0 : x_gfOK ((0, 7), (0, 1)) := ⟨RX0, TX0, 6, rfl, by decide, by decide +kernel, Or.inl (x_tg 100 (by decide +kernel) (by decide +kernel))⟩
theorem x_gf1 : x_gfOK ((0, 13), (0, 2)) := ⟨RX0, TX0, 6, rfl, by decide, by decide +kernel, Or.inl (x_tg 103 (by decide +kernel) (by decide +kernel))⟩
theorem x_gf2 : x_gfOK ((0, 16), (0, 3)) := ⟨RX0, TX0, 6, rfl, by decide, by decide +kernel, Or.inl (x_tg 106 (by decide +kernel) (by decide +kernel))⟩
theorem x_gf3 : x_gfOK ((0, 19), (0, 4)) := ⟨RX0, TX0, 6, rfl, by decide, by decide +kernel, Or.inl (x_tg 109 (by decide +kernel) (by decide +kernel))⟩
theorem x_gf4 : x_gfOK ((0, 22), (0, 5)) := ⟨RX0, TX0, 6, rfl, by decide, by decide +kernel, Or.inl (x_tg 112 (by decide +kernel) (by decide +kernel))⟩
theorem x_gf5 : x_gfOK ((0, 25), (0, 0)) := ⟨RX0, TX0, 6, rfl, by decide, by decide +kernel, Or.inl (x_tg 97 (by decide +kernel) (by decide +kernel))⟩
theorem x_gf6 : x_gfOK ((1, 11), (1, 0)) := ⟨RX1, TX1, 3, rfl, by decide, by decide +kernel, Or.inl (x_tg 162 (by decide +kernel) (by decide +kernel))⟩
theorem x_gf7 : x_gfOK ((1, 17), (1, 1)) := ⟨RX1, TX1, 3, rfl, by decide, by decide +kernel, Or.inl (x_tg 163 (by decide +kernel) (by decide +kernel))⟩
theorem x_gf8 : x_gfOK ((1, 21), (1, 2)) := ⟨RX1, TX1, 3, rfl, by decide, by decide +kernel, Or.inl (x_tg 164 (by decide +kernel) (by decide +kernel))⟩
theorem x_gf9 : x_gfOK ((2, 9), (2, 0)) := ⟨RX2, TX2, 6, rfl, by decide, by decide +kernel, Or.inl (x_tg 128 (by decide +kernel) (by decide +kernel))⟩
theorem x_gf10 : x_gfOK ((2, 15), (2, 1)) := ⟨RX2, TX2, 6, rfl, by decide, by decide +kernel, Or.inl (x_tg 130 (by decide +kernel) (by decide +kernel))⟩
theorem x_gf11 : x_gfOK ((2, 18), (2, 2)) := ⟨RX2, TX2, 6, rfl, by decide, by decide +kernel, Or.inl (x_tg 132 (by decide +kernel) (by decide +kernel))⟩
theorem x_gf12 : x_gfOK ((2, 24), (2, 3)) := ⟨RX2, TX2, 6, rfl, by decide, by decide +kernel, Or.inl (x_tg 134 (by decide +kernel) (by decide +kernel))⟩
theorem x_gf13 : x_gfOK ((2, 33), (2, 4)) := ⟨RX2, TX2, 6, rfl, by decide, by decide +kernel, Or.inl (x_tg 136 (by decide +kernel) (by decide +kernel))⟩
theorem x_gf14 : x_gfOK ((2, 37), (2, 5)) := ⟨RX2, TX2, 6, rfl, by decide, by decide +kernel, Or.inl (x_tg 138 (by decide +kernel) (by decide +kernel))⟩
theorem x_gf15 : x_gfOK ((2, 51), (0, 4)) := ⟨RX0, TX0, 6, rfl, by decide, by decide +kernel, Or.inr ⟨"MeetingCarpets", x_ng 110 (by decide +kernel) (by decide +kernel)⟩⟩
theorem x_gf16 : x_gfOK ((2, 54), (0, 2)) := ⟨RX0, TX0, 6, rfl, by decide, by decide +kernel, Or.inr ⟨"MeetingCarpets", x_ng 104 (by decide +kernel) (by decide +kernel)⟩⟩
theorem x_gf17 : x_gfOK ((2, 68), (0, 5)) := ⟨RX0, TX0, 6, rfl, by decide, by decide +kernel, Or.inr ⟨"MeetingCarpets", x_ng 113 (by decide +kernel) (by decide +kernel)⟩⟩
theorem x_gf18 : x_gfOK ((2, 71), (6, 3)) := ⟨RX6, TX6, 4, rfl, by decide, by decide +kernel, Or.inr ⟨"MeetingCarpets", x_ng 80 (by decide +kernel) (by decide +kernel)⟩⟩
theorem x_gf19 : x_gfOK ((2, 81), (0, 0)) := ⟨RX0, TX0, 6, rfl, by decide, by decide +kernel, Or.inr ⟨"MeetingCarpets", x_ng 98 (by decide +kernel) (by decide +kernel)⟩⟩
theorem x_gf20 : x_gfOK ((2, 85), (0, 1)) := ⟨RX0, TX0, 6, rfl, by decide, by decide +kernel, Or.inr ⟨"MeetingCarpets", x_ng 102 (by decide +kernel) (by decide +kernel)⟩⟩
theorem x_gf21 : x_gfOK ((2, 111), (0, 3)) := ⟨RX0, TX0, 6, rfl, by decide, by decide +kernel, Or.inr ⟨"MeetingCarpets", x_ng 108 (by decide +kernel) (by decide +kernel)⟩⟩
theorem x_gf22 : x_gfOK ((3, 9), (3, 0)) := ⟨RX3, TX3, 2, rfl, by decide, by decide +kernel, Or.inl (x_tg 194 (by decide +kernel) (by decide +kernel))⟩
theorem x_gf23 : x_gfOK ((3, 15), (3, 1)) := ⟨RX3, TX3, 2, rfl, by decide, by decide +kernel, Or.inl (x_tg 195 (by decide +kernel) (by decide +kernel))⟩
theorem x_gf24 : x_gfOK ((4, 12), (4, 0)) := ⟨RX4, TX4, 3, rfl, by decide, by decide +kernel, Or.inl (x_tg 210 (by decide +kernel) (by decide +kernel))⟩
theorem x_gf25 : x_gfOK ((4, 18), (4, 1)) := ⟨RX4, TX4, 3, rfl, by decide, by decide +kernel, Or.inl (x_tg 211 (by decide +kernel) (by decide +kernel))⟩
theorem x_gf26 : x_gfOK ((4, 22), (4, 2)) := ⟨RX4, TX4, 3, rfl, by decide, by decide +kernel, Or.inl (x_tg 212 (by decide +kernel) (by decide +kernel))⟩
theorem x_gf27 : x_gfOK ((5, 10), (5, 0)) := ⟨RX5, TX5, 2, rfl, by decide, by decide +kernel, Or.inl (x_tg 181 (by decide +kernel) (by decide +kernel))⟩
theorem x_gf28 : x_gfOK ((5, 16), (5, 1)) := ⟨RX5, TX5, 2, rfl, by decide, by decide +kernel, Or.inl (x_tg 182 (by decide +kernel) (by decide +kernel))⟩
theorem x_gf29 : x_gfOK ((6, 9), (6, 0)) := ⟨RX6, TX6, 4, rfl, by decide, by decide +kernel, Or.inl (x_tg 75 (by decide +kernel) (by decide +kernel))⟩
theorem x_gf30 : x_gfOK ((6, 15), (6, 1)) := ⟨RX6, TX6, 4, rfl, by decide, by decide +kernel, Or.inl (x_tg 76 (by decide +kernel) (by decide +kernel))⟩
theorem x_gf31 : x_gfOK ((6, 18), (6, 2)) := ⟨RX6, TX6, 4, rfl, by decide, by decide +kernel, Or.inl (x_tg 77 (by decide +kernel) (by decide +kernel))⟩
theorem x_gf32 : x_gfOK ((6, 21), (6, 3)) := ⟨RX6, TX6, 4, rfl, by decide, by decide +kernel, Or.inl (x_tg 78 (by decide +kernel) (by decide +kernel))⟩
theorem x_gf33 : x_gfOK ((7, 10), (7, 0)) := ⟨RX7, TX7, 7, rfl, by decide, by decide +kernel, Or.inl (x_tg 220 (by decide +kernel) (by decide +kernel))⟩
theorem x_gf34 : x_gfOK ((7, 16), (7, 1)) := ⟨RX7, TX7, 7, rfl, by decide, by decide +kernel, Or.inl (x_tg 221 (by decide +kernel) (by decide +kernel))⟩
theorem x_gf35 : x_gfOK ((7, 22), (7, 2)) := ⟨RX7, TX7, 7, rfl, by decide, by decide +kernel, Or.inl (x_tg 222 (by decide +kernel) (by decide +kernel))⟩
theorem x_gf36 : x_gfOK ((7, 29), (7, 3)) := ⟨RX7, TX7, 7, rfl, by decide, by decide +kernel, Or.inl (x_tg 223 (by decide +kernel) (by decide +kernel))⟩
theorem x_gf37 : x_gfOK ((7, 33), (7, 4)) := ⟨RX7, TX7, 7, rfl, by decide, by decide +kernel, Or.inl (x_tg 224 (by decide +kernel) (by decide +kernel))⟩
theorem x_gf38 : x_gfOK ((7, 39), (7, 5)) := ⟨RX7, TX7, 7, rfl, by decide, by decide +kernel, Or.inl (x_tg 225 (by decide +kernel) (by decide +kernel))⟩
theorem x_gf39 : x_gfOK ((7, 46), (7, 6)) := ⟨RX7, TX7, 7, rfl, by decide, by decide +kernel, Or.inl (x_tg 226 (by decide +kernel) (by decide +kernel))⟩
theorem x_gf40 : x_gfOK ((7, 68), (2, 4)) := ⟨RX2, TX2, 6, rfl, by decide, by decide +kernel, Or.inr ⟨"MeetingCarpets", x_ng 137 (by decide +kernel) (by decide +kernel)⟩⟩
theorem x_gf41 : x_gfOK ((7, 72), (0, 1)) := ⟨RX0, TX0, 6, rfl, by decide, by decide +kernel, Or.inr ⟨"MeetingCarpets", x_ng 101 (by decide +kernel) (by decide +kernel)⟩⟩
theorem x_gf42 : x_gfOK ((7, 78), (2, 5)) := ⟨RX2, TX2, 6, rfl, by decide, by decide +kernel, Or.inr ⟨"MeetingCarpets", x_ng 139 (by decide +kernel) (by decide +kernel)⟩⟩
theorem x_gf43 : x_gfOK ((7, 85), (2, 0)) := ⟨RX2, TX2, 6, rfl, by decide, by decide +kernel, Or.inr ⟨"MeetingCarpets", x_ng 129 (by decide +kernel) (by decide +kernel)⟩⟩
theorem x_gf44 : x_gfOK ((7, 88), (2, 1)) := ⟨RX2, TX2, 6, rfl, by decide, by decide +kernel, Or.inr ⟨"MeetingCarpets", x_ng 131 (by decide +kernel) (by decide +kernel)⟩⟩
theorem x_gf45 : x_gfOK ((7, 91), (2, 2)) := ⟨RX2, TX2, 6, rfl, by decide, by decide +kernel, Or.inr ⟨"MeetingCarpets", x_ng 133 (by decide +kernel) (by decide +kernel)⟩⟩
theorem x_gf46 : x_gfOK ((7, 98), (2, 3)) := ⟨RX2, TX2, 6, rfl, by decide, by decide +kernel, Or.inr ⟨"MeetingCarpets", x_ng 135 (by decide +kernel) (by decide +kernel)⟩⟩
theorem x_gf47 : x_gfOK ((7, 102), (6, 3)) := ⟨RX6, TX6, 4, rfl, by decide, by decide +kernel, Or.inr ⟨"MeetingCarpets", x_ng 79 (by decide +kernel) (by decide +kernel)⟩⟩
theorem x_gf48 : x_gfOK ((7, 123), (3, 1)) := ⟨RX3, TX3, 2, rfl, by decide, by decide +kernel, Or.inr ⟨"MeetingCarpets", x_ng 196 (by decide +kernel) (by decide +kernel)⟩⟩
theorem x_gf49 : x_gfOK ((7, 130), (0, 2)) := ⟨RX0, TX0, 6, rfl, by decide, by decide +kernel, Or.inr ⟨"MeetingCarpets", x_ng 105 (by decide +kernel) (by decide +kernel)⟩⟩
theorem x_gf50 : x_gfOK ((7, 182), (0, 3)) := ⟨RX0, TX0, 6, rfl, by decide, by decide +kernel, Or.inr ⟨"MeetingCarpets", x_ng 107 (by decide +kernel) (by decide +kernel)⟩⟩
theorem x_gf51 : x_gfOK ((7, 185), (0, 4)) := ⟨RX0, TX0, 6, rfl, by decide, by decide +kernel, Or.inr ⟨"MeetingCarpets", x_ng 111 (by decide +kernel) (by decide +kernel)⟩⟩
theorem x_gf52 : x_gfOK ((7, 191), (0, 5)) := ⟨RX0, TX0, 6, rfl, by decide, by decide +kernel, Or.inr ⟨"MeetingCarpets", x_ng 114 (by decide +kernel) (by decide +kernel)⟩⟩
theorem x_gf53 : x_gfOK ((7, 218), (1, 2)) := ⟨RX1, TX1, 3, rfl, by decide, by decide +kernel, Or.inr ⟨"MeetingCarpets", x_ng 165 (by decide +kernel) (by decide +kernel)⟩⟩
theorem x_gf54 : x_gfOK ((7, 227), (0, 0)) := ⟨RX0, TX0, 6, rfl, by decide, by decide +kernel, Or.inr ⟨"MeetingCarpets", x_ng 99 (by decide +kernel) (by decide +kernel)⟩⟩
set_option maxRecDepth 100000 in
theorem x_gfl : ∀ q ∈ x_GFL, x_gfOK q := List.forall_mem_cons.mpr ⟨x_gf0, List.forall_mem_cons.mpr ⟨x_gf1, List.forall_mem_cons.mpr ⟨x_gf2, List.forall_mem_cons.mpr ⟨x_gf3, List.forall_mem_cons.mpr ⟨x_gf4, List.forall_mem_cons.mpr ⟨x_gf5, List.forall_mem_cons.mpr ⟨x_gf6, List.forall_mem_cons.mpr ⟨x_gf7, List.forall_mem_cons.mpr ⟨x_gf8, List.forall_mem_cons.mpr ⟨x_gf9, List.forall_mem_cons.mpr ⟨x_gf10, List.forall_mem_cons.mpr ⟨x_gf11, List.forall_mem_cons.mpr ⟨x_gf12, List.forall_mem_cons.mpr ⟨x_gf13, List.forall_mem_cons.mpr ⟨x_gf14, List.forall_mem_cons.mpr ⟨x_gf15, List.forall_mem_cons.mpr ⟨x_gf16, List.forall_mem_cons.mpr ⟨x_gf17, List.forall_mem_cons.mpr ⟨x_gf18, List.forall_mem_cons.mpr ⟨x_gf19, List.forall_mem_cons.mpr ⟨x_gf20, List.forall_mem_cons.mpr ⟨x_gf21, List.forall_mem_cons.mpr ⟨x_gf22, List.forall_mem_cons.mpr ⟨x_gf23, List.forall_mem_cons.mpr ⟨x_gf24, List.forall_mem_cons.mpr ⟨x_gf25, List.forall_mem_cons.mpr ⟨x_gf26, List.forall_mem_cons.mpr ⟨x_gf27, List.forall_mem_cons.mpr ⟨x_gf28, List.forall_mem_cons.mpr ⟨x_gf29, List.forall_mem_cons.mpr ⟨x_gf30, List.forall_mem_cons.mpr ⟨x_gf31, List.forall_mem_cons.mpr ⟨x_gf32, List.forall_mem_cons.mpr ⟨x_gf33, List.forall_mem_cons.mpr ⟨x_gf34, List.forall_mem_cons.mpr ⟨x_gf35, List.forall_mem_cons.mpr ⟨x_gf36, List.forall_mem_cons.mpr ⟨x_gf37, List.forall_mem_cons.mpr ⟨x_gf38, List.forall_mem_cons.mpr ⟨x_gf39, List.forall_mem_cons.mpr ⟨x_gf40, List.forall_mem_cons.mpr ⟨x_gf41, List.forall_mem_cons.mpr ⟨x_gf42, List.forall_mem_cons.mpr ⟨x_gf43, List.forall_mem_cons.mpr ⟨x_gf44, List.forall_mem_cons.mpr ⟨x_gf45, List.forall_mem_cons.mpr ⟨x_gf46, List.forall_mem_cons.mpr ⟨x_gf47, List.forall_mem_cons.mpr ⟨x_gf48, List.forall_mem_cons.mpr ⟨x_gf49, List.forall_mem_cons.mpr ⟨x_gf50, List.forall_mem_cons.mpr ⟨x_gf51, List.forall_mem_cons.mpr ⟨x_gf52, List.forall_mem_cons.mpr ⟨x_gf53, List.forall_mem_cons.mpr ⟨x_gf54, fun _ h => absurd h List.not_mem_nil⟩⟩⟩⟩⟩⟩⟩⟩⟩⟩⟩⟩⟩⟩⟩⟩⟩⟩⟩⟩⟩⟩⟩⟩⟩⟩⟩⟩⟩⟩⟩⟩⟩⟩⟩⟩⟩⟩⟩⟩⟩⟩⟩⟩⟩⟩⟩⟩⟩⟩⟩⟩⟩⟩⟩
theorem x_pf0 : x_pfOK ((0, 7), (0, 1, false)) := ⟨RX0, TX0, 6, rfl, by decide, by decide +kernel, by decide +kernel, Or.inl (x_tg 100 (by decide +kernel) (by decide +kernel))⟩
theorem x_pf1 : x_pfOK ((0, 13), (0, 2, false)) := ⟨RX0, TX0, 6, rfl, by decide, by decide +kernel, by decide +kernel, Or.inl (x_tg 103 (by decide +kernel) (by decide +kernel))⟩
theorem x_pf2 : x_pfOK ((0, 16), (0, 3, false)) := ⟨RX0, TX0, 6, rfl, by decide, by decide +kernel, by decide +kernel, Or.inl (x_tg 106 (by decide +kernel) (by decide +kernel))⟩
theorem x_pf3 : x_pfOK ((0, 19), (0, 4, false)) := ⟨RX0, TX0, 6, rfl, by decide, by decide +kernel, by decide +kernel, Or.inl (x_tg 109 (by decide +kernel) (by decide +kernel))⟩
theorem x_pf4 : x_pfOK ((0, 22), (0, 5, false)) := ⟨RX0, TX0, 6, rfl, by decide, by decide +kernel, by decide +kernel, Or.inl (x_tg 112 (by decide +kernel) (by decide +kernel))⟩
theorem x_pf5 : x_pfOK ((0, 25), (0, 0, true)) := ⟨RX0, TX0, 6, rfl, by decide, by decide +kernel, by decide +kernel, Or.inl (x_tg 97 (by decide +kernel) (by decide +kernel))⟩
theorem x_pf6 : x_pfOK ((1, 11), (1, 0, true)) := ⟨RX1, TX1, 3, rfl, by decide, by decide +kernel, by decide +kernel, Or.inl (x_tg 162 (by decide +kernel) (by decide +kernel))⟩
theorem x_pf7 : x_pfOK ((1, 17), (1, 1, false)) := ⟨RX1, TX1, 3, rfl, by decide, by decide +kernel, by decide +kernel, Or.inl (x_tg 163 (by decide +kernel) (by decide +kernel))⟩
theorem x_pf8 : x_pfOK ((1, 21), (1, 2, false)) := ⟨RX1, TX1, 3, rfl, by decide, by decide +kernel, by decide +kernel, Or.inl (x_tg 164 (by decide +kernel) (by decide +kernel))⟩
theorem x_pf9 : x_pfOK ((2, 9), (2, 0, false)) := ⟨RX2, TX2, 6, rfl, by decide, by decide +kernel, by decide +kernel, Or.inl (x_tg 128 (by decide +kernel) (by decide +kernel))⟩
theorem x_pf10 : x_pfOK ((2, 15), (2, 1, false)) := ⟨RX2, TX2, 6, rfl, by decide, by decide +kernel, by decide +kernel, Or.inl (x_tg 130 (by decide +kernel) (by decide +kernel))⟩
theorem x_pf11 : x_pfOK ((2, 18), (2, 2, false)) := ⟨RX2, TX2, 6, rfl, by decide, by decide +kernel, by decide +kernel, Or.inl (x_tg 132 (by decide +kernel) (by decide +kernel))⟩
theorem x_pf12 : x_pfOK ((2, 24), (2, 3, true)) := ⟨RX2, TX2, 6, rfl, by decide, by decide +kernel, by decide +kernel, Or.inl (x_tg 134 (by decide +kernel) (by decide +kernel))⟩
theorem x_pf13 : x_pfOK ((2, 33), (2, 4, true)) := ⟨RX2, TX2, 6, rfl, by decide, by decide +kernel, by decide +kernel, Or.inl (x_tg 136 (by decide +kernel) (by decide +kernel))⟩
theorem x_pf14 : x_pfOK ((2, 37), (2, 5, true)) := ⟨RX2, TX2, 6, rfl, by decide, by decide +kernel, by decide +kernel, Or.inl (x_tg 138 (by decide +kernel) (by decide +kernel))⟩
theorem x_pf15 : x_pfOK ((2, 51), (0, 4, false)) := ⟨RX0, TX0, 6, rfl, by decide, by decide +kernel, by decide +kernel, Or.inr ⟨rfl, "MeetingCarpets", x_ng 110 (by decide +kernel) (by decide +kernel)⟩⟩
theorem x_pf16 : x_pfOK ((2, 54), (0, 2, false)) := ⟨RX0, TX0, 6, rfl, by decide, by decide +kernel, by decide +kernel, Or.inr ⟨rfl, "MeetingCarpets", x_ng 104 (by decide +kernel) (by decide +kernel)⟩⟩
theorem x_pf17 : x_pfOK ((2, 68), (0, 5, false)) := ⟨RX0, TX0, 6, rfl, by decide, by decide +kernel, by decide +kernel, Or.inr ⟨rfl, "MeetingCarpets", x_ng 113 (by decide +kernel) (by decide +kernel)⟩⟩
theorem x_pf18 : x_pfOK ((2, 71), (6, 3, false)) := ⟨RX6, TX6, 4, rfl, by decide, by decide +kernel, by decide +kernel, Or.inr ⟨rfl, "MeetingCarpets", x_ng 80 (by decide +kernel) (by decide +kernel)⟩⟩
theorem x_pf19 : x_pfOK ((2, 85), (0, 1, false)) := ⟨RX0, TX0, 6, rfl, by decide, by decide +kernel, by decide +kernel, Or.inr ⟨rfl, "MeetingCarpets", x_ng 102 (by decide +kernel) (by decide +kernel)⟩⟩
theorem x_pf20 : x_pfOK ((2, 111), (0, 3, false)) := ⟨RX0, TX0, 6, rfl, by decide, by decide +kernel, by decide +kernel, Or.inr ⟨rfl, "MeetingCarpets", x_ng 108 (by decide +kernel) (by decide +kernel)⟩⟩
theorem x_pf21 : x_pfOK ((3, 9), (3, 0, true)) := ⟨RX3, TX3, 2, rfl, by decide, by decide +kernel, by decide +kernel, Or.inl (x_tg 194 (by decide +kernel) (by decide +kernel))⟩
theorem x_pf22 : x_pfOK ((3, 15), (3, 1, false)) := ⟨RX3, TX3, 2, rfl, by decide, by decide +kernel, by decide +kernel, Or.inl (x_tg 195 (by decide +kernel) (by decide +kernel))⟩
theorem x_pf23 : x_pfOK ((4, 12), (4, 0, true)) := ⟨RX4, TX4, 3, rfl, by decide, by decide +kernel, by decide +kernel, Or.inl (x_tg 210 (by decide +kernel) (by decide +kernel))⟩
theorem x_pf24 : x_pfOK ((4, 18), (4, 1, false)) := ⟨RX4, TX4, 3, rfl, by decide, by decide +kernel, by decide +kernel, Or.inl (x_tg 211 (by decide +kernel) (by decide +kernel))⟩
theorem x_pf25 : x_pfOK ((4, 22), (4, 2, false)) := ⟨RX4, TX4, 3, rfl, by decide, by decide +kernel, by decide +kernel, Or.inl (x_tg 212 (by decide +kernel) (by decide +kernel))⟩
theorem x_pf26 : x_pfOK ((5, 10), (5, 0, true)) := ⟨RX5, TX5, 2, rfl, by decide, by decide +kernel, by decide +kernel, Or.inl (x_tg 181 (by decide +kernel) (by decide +kernel))⟩
theorem x_pf27 : x_pfOK ((5, 16), (5, 1, false)) := ⟨RX5, TX5, 2, rfl, by decide, by decide +kernel, by decide +kernel, Or.inl (x_tg 182 (by decide +kernel) (by decide +kernel))⟩
theorem x_pf28 : x_pfOK ((6, 9), (6, 0, true)) := ⟨RX6, TX6, 4, rfl, by decide, by decide +kernel, by decide +kernel, Or.inl (x_tg 75 (by decide +kernel) (by decide +kernel))⟩
theorem x_pf29 : x_pfOK ((6, 15), (6, 1, true)) := ⟨RX6, TX6, 4, rfl, by decide, by decide +kernel, by decide +kernel, Or.inl (x_tg 76 (by decide +kernel) (by decide +kernel))⟩
theorem x_pf30 : x_pfOK ((6, 18), (6, 2, true)) := ⟨RX6, TX6, 4, rfl, by decide, by decide +kernel, by decide +kernel, Or.inl (x_tg 77 (by decide +kernel) (by decide +kernel))⟩
theorem x_pf31 : x_pfOK ((6, 21), (6, 3, false)) := ⟨RX6, TX6, 4, rfl, by decide, by decide +kernel, by decide +kernel, Or.inl (x_tg 78 (by decide +kernel) (by decide +kernel))⟩
theorem x_pf32 : x_pfOK ((7, 10), (7, 0, true)) := ⟨RX7, TX7, 7, rfl, by decide, by decide +kernel, by decide +kernel, Or.inl (x_tg 220 (by decide +kernel) (by decide +kernel))⟩
theorem x_pf33 : x_pfOK ((7, 16), (7, 1, true)) := ⟨RX7, TX7, 7, rfl, by decide, by decide +kernel, by decide +kernel, Or.inl (x_tg 221 (by decide +kernel) (by decide +kernel))⟩
theorem x_pf34 : x_pfOK ((7, 22), (7, 2, true)) := ⟨RX7, TX7, 7, rfl, by decide, by decide +kernel, by decide +kernel, Or.inl (x_tg 222 (by decide +kernel) (by decide +kernel))⟩
theorem x_pf35 : x_pfOK ((7, 29), (7, 3, true)) := ⟨RX7, TX7, 7, rfl, by decide, by decide +kernel, by decide +kernel, Or.inl (x_tg 223 (by decide +kernel) (by decide +kernel))⟩
theorem x_pf36 : x_pfOK ((7, 33), (7, 4, true)) := ⟨RX7, TX7, 7, rfl, by decide, by decide +kernel, by decide +kernel, Or.inl (x_tg 224 (by decide +kernel) (by decide +kernel))⟩
theorem x_pf37 : x_pfOK ((7, 39), (7, 5, true)) := ⟨RX7, TX7, 7, rfl, by decide, by decide +kernel, by decide +kernel, Or.inl (x_tg 225 (by decide +kernel) (by decide +kernel))⟩
theorem x_pf38 : x_pfOK ((7, 46), (7, 6, true)) := ⟨RX7, TX7, 7, rfl, by decide, by decide +kernel, by decide +kernel, Or.inl (x_tg 226 (by decide +kernel) (by decide +kernel))⟩
theorem x_pf39 : x_pfOK ((7, 72), (0, 1, false)) := ⟨RX0, TX0, 6, rfl, by decide, by decide +kernel, by decide +kernel, Or.inr ⟨rfl, "MeetingCarpets", x_ng 101 (by decide +kernel) (by decide +kernel)⟩⟩
theorem x_pf40 : x_pfOK ((7, 85), (2, 0, false)) := ⟨RX2, TX2, 6, rfl, by decide, by decide +kernel, by decide +kernel, Or.inr ⟨rfl, "MeetingCarpets", x_ng 129 (by decide +kernel) (by decide +kernel)⟩⟩
theorem x_pf41 : x_pfOK ((7, 88), (2, 1, false)) := ⟨RX2, TX2, 6, rfl, by decide, by decide +kernel, by decide +kernel, Or.inr ⟨rfl, "MeetingCarpets", x_ng 131 (by decide +kernel) (by decide +kernel)⟩⟩
theorem x_pf42 : x_pfOK ((7, 91), (2, 2, false)) := ⟨RX2, TX2, 6, rfl, by decide, by decide +kernel, by decide +kernel, Or.inr ⟨rfl, "MeetingCarpets", x_ng 133 (by decide +kernel) (by decide +kernel)⟩⟩
theorem x_pf43 : x_pfOK ((7, 102), (6, 3, false)) := ⟨RX6, TX6, 4, rfl, by decide, by decide +kernel, by decide +kernel, Or.inr ⟨rfl, "MeetingCarpets", x_ng 79 (by decide +kernel) (by decide +kernel)⟩⟩
theorem x_pf44 : x_pfOK ((7, 123), (3, 1, false)) := ⟨RX3, TX3, 2, rfl, by decide, by decide +kernel, by decide +kernel, Or.inr ⟨rfl, "MeetingCarpets", x_ng 196 (by decide +kernel) (by decide +kernel)⟩⟩
theorem x_pf45 : x_pfOK ((7, 130), (0, 2, false)) := ⟨RX0, TX0, 6, rfl, by decide, by decide +kernel, by decide +kernel, Or.inr ⟨rfl, "MeetingCarpets", x_ng 105 (by decide +kernel) (by decide +kernel)⟩⟩
theorem x_pf46 : x_pfOK ((7, 182), (0, 3, false)) := ⟨RX0, TX0, 6, rfl, by decide, by decide +kernel, by decide +kernel, Or.inr ⟨rfl, "MeetingCarpets", x_ng 107 (by decide +kernel) (by decide +kernel)⟩⟩
theorem x_pf47 : x_pfOK ((7, 185), (0, 4, false)) := ⟨RX0, TX0, 6, rfl, by decide, by decide +kernel, by decide +kernel, Or.inr ⟨rfl, "MeetingCarpets", x_ng 111 (by decide +kernel) (by decide +kernel)⟩⟩
theorem x_pf48 : x_pfOK ((7, 191), (0, 5, false)) := ⟨RX0, TX0, 6, rfl, by decide, by decide +kernel, by decide +kernel, Or.inr ⟨rfl, "MeetingCarpets", x_ng 114 (by decide +kernel) (by decide +kernel)⟩⟩
theorem x_pf49 : x_pfOK ((7, 218), (1, 2, false)) := ⟨RX1, TX1, 3, rfl, by decide, by decide +kernel, by decide +kernel, Or.inr ⟨rfl, "MeetingCarpets", x_ng 165 (by decide +kernel) (by decide +kernel)⟩⟩
set_option maxRecDepth 100000 in
theorem x_pfl : ∀ q ∈ x_PFL, x_pfOK q := List.forall_mem_cons.mpr ⟨x_pf0, List.forall_mem_cons.mpr ⟨x_pf1, List.forall_mem_cons.mpr ⟨x_pf2, List.forall_mem_cons.mpr ⟨x_pf3, List.forall_mem_cons.mpr ⟨x_pf4, List.forall_mem_cons.mpr ⟨x_pf5, List.forall_mem_cons.mpr ⟨x_pf6, List.forall_mem_cons.mpr ⟨x_pf7, List.forall_mem_cons.mpr ⟨x_pf8, List.forall_mem_cons.mpr ⟨x_pf9, List.forall_mem_cons.mpr ⟨x_pf10, List.forall_mem_cons.mpr ⟨x_pf11, List.forall_mem_cons.mpr ⟨x_pf12, List.forall_mem_cons.mpr ⟨x_pf13, List.forall_mem_cons.mpr ⟨x_pf14, List.forall_mem_cons.mpr ⟨x_pf15, List.forall_mem_cons.mpr ⟨x_pf16, List.forall_mem_cons.mpr ⟨x_pf17, List.forall_mem_cons.mpr ⟨x_pf18, List.forall_mem_cons.mpr ⟨x_pf19, List.forall_mem_cons.mpr ⟨x_pf20, List.forall_mem_cons.mpr ⟨x_pf21, List.forall_mem_cons.mpr ⟨x_pf22, List.forall_mem_cons.mpr ⟨x_pf23, List.forall_mem_cons.mpr ⟨x_pf24, List.forall_mem_cons.mpr ⟨x_pf25, List.forall_mem_cons.mpr ⟨x_pf26, List.forall_mem_cons.mpr ⟨x_pf27, List.forall_mem_cons.mpr ⟨x_pf28, List.forall_mem_cons.mpr ⟨x_pf29, List.forall_mem_cons.mpr ⟨x_pf30, List.forall_mem_cons.mpr ⟨x_pf31, List.forall_mem_cons.mpr ⟨x_pf32, List.forall_mem_cons.mpr ⟨x_pf33, List.forall_mem_cons.mpr ⟨x_pf34, List.forall_mem_cons.mpr ⟨x_pf35, List.forall_mem_cons.mpr ⟨x_pf36, List.forall_mem_cons.mpr ⟨x_pf37, List.forall_mem_cons.mpr ⟨x_pf38, List.forall_mem_cons.mpr ⟨x_pf39, List.forall_mem_cons.mpr ⟨x_pf40, List.forall_mem_cons.mpr ⟨x_pf41, List.forall_mem_cons.mpr ⟨x_pf42, List.forall_mem_cons.mpr ⟨x_pf43, List.forall_mem_cons.mpr ⟨x_pf44, List.forall_mem_cons.mpr ⟨x_pf45, List.forall_mem_cons.mpr ⟨x_pf46, List.forall_mem_cons.mpr ⟨x_pf47, List.forall_mem_cons.mpr ⟨x_pf48, List.forall_mem_cons.mpr ⟨x_pf49, fun _ h => absurd h List.not_mem_nil⟩⟩⟩⟩⟩⟩⟩⟩⟩⟩⟩⟩⟩⟩⟩⟩⟩⟩⟩⟩⟩⟩⟩⟩⟩⟩⟩⟩⟩⟩⟩⟩⟩⟩⟩⟩⟩⟩⟩⟩⟩⟩⟩⟩⟩⟩⟩⟩⟩⟩
