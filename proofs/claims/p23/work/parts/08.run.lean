/-- any step that goes on in the same method -/
theorem s_all {p : Program} {l : Launch} {e : Env} {R : Room} {s : State} {m : MethodId} {args : Array Value} {below : List Frame} {meth : Method} {c : Code} {Q : State → Prop} {D : va_G} {T3 : Nat → ClassId} {A : Nat → Prop} {H0 : Heap} {z0 : Nat × Nat} {y : Nat} {SX : Nat → Nat → (Nat → Int32) → Prop} {pc pc' : Nat} {L st L' st' : List Value} {h h' : xH} (hC : CX SX A H0 D T3 p R s m args meth c y) (hr1 : h'.1.1 ≤ z0.1 + R.cells) (hr2 : h'.1.2 ≤ z0.2 + R.slots) {i : Instr} {len : Nat} (hf : x_fe y pc = some (i, len)) (hs : x_s y i pc L st h = some (.inl (pc', L', st', h'))) (hk : WS p l e R s m args below meth c Q D T3 SX A H0 z0 y pc' L' st' h') : WS p l e R s m args below meth c Q D T3 SX A H0 z0 y pc L st h := by
  obtain ⟨hd, ho⟩ := x_fe_of hf
  cases i with
  | iconst n => obtain rfl := eq_of_beq ho; exact s_iconst hC hd hs hk
  | bipush n => obtain rfl := eq_of_beq ho; exact s_bipush hC hd hs hk
  | sipush n => obtain rfl := eq_of_beq ho; exact s_sipush hC hd hs hk
  | lconst n => obtain rfl := eq_of_beq ho; exact s_lconst hC hd hs hk
  | ldc2_w ix => obtain rfl := eq_of_beq ho; exact s_ldc2 hC hd hs hk
  | aconst_null => obtain rfl := eq_of_beq ho; exact s_null hC hd hs hk
  | iload_n k => obtain rfl := eq_of_beq ho; exact s_iload_n hC hd hs hk
  | iload k => obtain rfl := eq_of_beq ho; exact s_iload hC hd hs hk
  | lload_n k => obtain rfl := eq_of_beq ho; exact s_lload_n hC hd hs hk
  | lload k => obtain rfl := eq_of_beq ho; exact s_lload hC hd hs hk
  | aload_n k => obtain rfl := eq_of_beq ho; exact s_aload_n hC hd hs hk
  | aload k => obtain rfl := eq_of_beq ho; exact s_aload hC hd hs hk
  | istore_n k => obtain rfl := eq_of_beq ho; exact s_istore_n hC hd hs hk
  | istore k => obtain rfl := eq_of_beq ho; exact s_istore hC hd hs hk
  | astore_n k => obtain rfl := eq_of_beq ho; exact s_astore_n hC hd hs hk
  | astore k => obtain rfl := eq_of_beq ho; exact s_astore hC hd hs hk
  | iinc k n => obtain rfl := eq_of_beq ho; exact s_iinc hC hd hs hk
  | iadd => obtain rfl := eq_of_beq ho; exact s_iadd hC hd hs hk
  | isub => obtain rfl := eq_of_beq ho; exact s_isub hC hd hs hk
  | imul => obtain rfl := eq_of_beq ho; exact s_imul hC hd hs hk
  | iand => obtain rfl := eq_of_beq ho; exact s_iand hC hd hs hk
  | ishr => obtain rfl := eq_of_beq ho; exact s_ishr hC hd hs hk
  | ldc ix => obtain rfl := eq_of_beq ho; exact s_ldc hC hd hs hk
  | idiv => obtain rfl := eq_of_beq ho; exact s_idiv hC hd hs hk
  | irem => obtain rfl := eq_of_beq ho; exact s_irem hC hd hs hk
  | land => obtain rfl := eq_of_beq ho; exact s_land hC hd hs hk
  | lor => obtain rfl := eq_of_beq ho; exact s_lor hC hd hs hk
  | lcmp => obtain rfl := eq_of_beq ho; exact s_lcmp hC hd hs hk
  | lshl => obtain rfl := eq_of_beq ho; exact s_lshl hC hd hs hk
  | lushr => obtain rfl := eq_of_beq ho; exact s_lushr hC hd hs hk
  | i2l => obtain rfl := eq_of_beq ho; exact s_i2l hC hd hs hk
  | l2i => obtain rfl := eq_of_beq ho; exact s_l2i hC hd hs hk
  | dup => obtain rfl := eq_of_beq ho; exact s_dup hC hd hs hk
  | dup2 => obtain rfl := eq_of_beq ho; exact s_dup2 hC hd hs hk
  | ifCond c off => obtain rfl := eq_of_beq ho; exact s_if hC hd hs hk
  | if_icmp c off => obtain rfl := eq_of_beq ho; exact s_icmp hC hd hs hk
  | goto off => obtain rfl := eq_of_beq ho; exact s_goto hC hd hs hk
  | ifnull off => obtain rfl := eq_of_beq ho; exact s_ifnull hC hd hs hk
  | ifnonnull off => obtain rfl := eq_of_beq ho; exact s_ifnonnull hC hd hs hk
  | tableswitch dflt lo hi offs => exact s_table hC hd hs hk
  | lookupswitch dflt ps => exact s_look hC hd hs hk
  | getfield ix => obtain rfl := eq_of_beq ho; exact s_get hC hd hs hk
  | putfield ix => obtain rfl := eq_of_beq ho; exact s_put hC hd hs hk
  | iaload => obtain rfl := eq_of_beq ho; exact s_iald hC hd hs hk
  | iastore => obtain rfl := eq_of_beq ho; exact s_iast hC hd hs hk
  | aaload => obtain rfl := eq_of_beq ho; exact s_aald hC hd hs hk
  | aastore => obtain rfl := eq_of_beq ho; exact s_aast hC hd hs hk
  | arraylength => obtain rfl := eq_of_beq ho; exact s_alen hC hd hs hk
  | new ix => obtain rfl := eq_of_beq ho; exact s_new hC hr1 hr2 hd hs hk
  | newarray t =>
    obtain rfl := eq_of_beq ho
    cases t with
    | int => exact s_narrI hC hr1 hr2 hd hs hk
    | _ => cases hs
  | anewarray ix => obtain rfl := eq_of_beq ho; exact s_anew hC hr1 hr2 hd hs hk
  | invokevirtual ix =>
    have hs : xIv y ix pc L st h = some (.inl (pc', L', st', h')) := hs
    unfold xIv at hs
    split at hs
    · split at hs
      · split at hs
        · split at hs
          · unfold xInv at hs
            split at hs
            · cases hs
            · cases hs
          · cases hs
        · cases hs
      · cases hs
    · cases hs
  | invokestatic ix =>
    obtain rfl := eq_of_beq ho
    have hs : xIs y ix pc L st h = some (.inl (pc', L', st', h')) := hs
    unfold xIs at hs
    split at hs
    next b hb => exact s_math hC hr1 hr2 hd hb hs hk
    next =>
      split at hs
      · split at hs
        · unfold xInv at hs
          split at hs
          · cases hs
          · cases hs
        · cases hs
      · cases hs
  | invokespecial ix =>
    obtain rfl := eq_of_beq ho
    have hs : xIp y ix pc L st h = some (.inl (pc', L', st', h')) := hs
    unfold xIp at hs
    split at hs
    next hb => exact s_oinit hC hd hb hs hk
    next =>
      split at hs
      · split at hs
        · split at hs
          · unfold xInv at hs
            split at hs
            · cases hs
            · cases hs
          · cases hs
        · cases hs
      · cases hs
  | ireturn =>
    have hs : xRet y st = some (.inl (pc', L', st', h')) := hs
    unfold xRet at hs
    split at hs
    · split at hs
      · split at hs
        · cases hs
        · cases hs
      · cases hs
    · cases hs
  | areturn =>
    have hs : xRea y st = some (.inl (pc', L', st', h')) := hs
    unfold xRea at hs
    split at hs
    · split at hs
      · cases hs
      · cases hs
    · split at hs
      · cases hs
      · cases hs
    · cases hs
  | return_ =>
    have hs : xRev y st = some (.inl (pc', L', st', h')) := hs
    unfold xRev at hs
    split at hs
    · split at hs
      · cases hs
      · cases hs
    · cases hs
  | _ => cases hs
/-- a run makes cells, and takes none away -/
theorem x_s_mono {y pc pc' : Nat} {L st L' st' : List Value} {h h' : xH} {i : Instr} (hs : x_s y i pc L st h = some (.inl (pc', L', st', h'))) : h.1.1 ≤ h'.1.1 ∧ h.1.2 ≤ h'.1.2 := by
  have go : ∀ j : Instr, (∀ t, j ≠ .newarray t) → x_s y j pc L st h = some (.inl (pc', L', st', h')) → h.1.1 ≤ h'.1.1 ∧ h.1.2 ≤ h'.1.2 := by
    intro j hj hs
    cases j with
    | newarray t => exact absurd rfl (hj t)
    | _ =>
      simp only [x_s, nx, jp, xLi, xLl, xLa, xSi, xSa, xInc, x2i, x2l, xli, xIf, xGet, xPut, xIald, xIast, xZald, xZast, xAald, xAast, xAlen, xNew, xAnew, xIv, xIs, xIp, xInv, xTab, xLook, xRet, xRea, xRev] at hs
      repeat' split at hs
      all_goals first
        | (cases hs; exact ⟨Nat.le_refl _, Nat.le_refl _⟩)
        | (cases hs; exact ⟨Nat.le_succ _, Nat.le_add_right _ _⟩)
        | (cases hs; done)
  by_cases hn : ∃ t, i = .newarray t
  · obtain ⟨t, rfl⟩ := hn
    have key : ∀ tg : Nat, xNarr pc tg L st h = some (.inl (pc', L', st', h')) → h.1.1 ≤ h'.1.1 ∧ h.1.2 ≤ h'.1.2 := by
      intro tg hs
      unfold xNarr at hs
      split at hs
      · split at hs
        · cases hs; exact ⟨Nat.le_succ _, Nat.le_add_right _ _⟩
        · cases hs
      · cases hs
    cases t with
    | int => exact key 0 hs
    | _ => cases hs
  · exact go i (fun t q => hn ⟨t, q⟩) hs
theorem x_r_grow : ∀ (n y pc : Nat) (L st : List Value) (h : xH) (r : Option Value × xH), x_r n y pc L st h = some r → h.1.1 ≤ r.2.1.1 ∧ h.1.2 ≤ r.2.1.2 := by
  intro n
  induction n with
  | zero => intro y pc L st h r hr; cases hr
  | succ n ih =>
    intro y pc L st h r hr
    obtain ⟨k, i, len, e, hf, hc⟩ := x_r_some hr
    cases e
    rcases hc with ⟨pc', L', st', h', hs, hk⟩ | ⟨hs, hh⟩ | ⟨z, as, pc', L', t, v, h', hs, hz, hk⟩
    · have a := x_s_mono hs
      have b := ih _ _ _ _ _ _ hk
      exact ⟨Nat.le_trans a.1 b.1, Nat.le_trans a.2 b.2⟩
    · rw [hh]; exact ⟨Nat.le_refl _, Nat.le_refl _⟩
    · have a := ih _ _ _ _ _ _ hz
      have b := ih _ _ _ _ _ _ hk
      exact ⟨Nat.le_trans a.1 b.1, Nat.le_trans a.2 b.2⟩
