/-! WHOLE FRAMES, whole methods: what the pure machine does, the machine does. -/
def isOut : ClassFile.Instr → Bool
  | .invokevirtual _ => true
  | .invokespecial _ => true
  | .invokestatic _ => true
  | .ireturn => true
  | .lreturn => true
  | .areturn => true
  | .return_ => true
  | _ => false
theorem stepI_in {μ : Nat} {i : ClassFile.Instr} {len pc : Nat} {ls : PL} {st : List PV} {σ : PS} {y : PO} (hn : isOut i = false) (h : stepI μ i len pc ls st σ = some y) : ∃ cf' : Cf, y = .inl cf' := by
  cases i with
  | aload_n k =>
    have hz9 := gd_inv h; clear h; obtain ⟨rfl, h⟩ := hz9
    have hz9 := ldx_inv h; clear h; obtain ⟨v, h1, h2, h3⟩ := hz9
    cases h3
    exact ⟨_, rfl⟩
  | iload_n k =>
    have hz9 := gd_inv h; clear h; obtain ⟨rfl, h⟩ := hz9
    have hz9 := ldx_inv h; clear h; obtain ⟨v, h1, h2, h3⟩ := hz9
    cases h3
    exact ⟨_, rfl⟩
  | lload_n k =>
    have hz9 := gd_inv h; clear h; obtain ⟨rfl, h⟩ := hz9
    have hz9 := ldx_inv h; clear h; obtain ⟨v, h1, h2, h3⟩ := hz9
    cases h3
    exact ⟨_, rfl⟩
  | aload k =>
    have hz9 := gd_inv h; clear h; obtain ⟨rfl, h⟩ := hz9
    have hz9 := ldx_inv h; clear h; obtain ⟨v, h1, h2, h3⟩ := hz9
    cases h3
    exact ⟨_, rfl⟩
  | iload k =>
    have hz9 := gd_inv h; clear h; obtain ⟨rfl, h⟩ := hz9
    have hz9 := ldx_inv h; clear h; obtain ⟨v, h1, h2, h3⟩ := hz9
    cases h3
    exact ⟨_, rfl⟩
  | iconst z =>
    have hz9 := gd_inv h; clear h; obtain ⟨⟨rfl, h1⟩, h⟩ := hz9
    cases h
    exact ⟨_, rfl⟩
  | bipush z =>
    have hz9 := gd_inv h; clear h; obtain ⟨⟨rfl, h1⟩, h⟩ := hz9
    cases h
    exact ⟨_, rfl⟩
  | sipush z =>
    have hz9 := gd_inv h; clear h; obtain ⟨⟨rfl, h1⟩, h⟩ := hz9
    cases h
    exact ⟨_, rfl⟩
  | lconst z =>
    have hz9 := gd_inv h; clear h; obtain ⟨rfl, h⟩ := hz9
    cases h
    exact ⟨_, rfl⟩
  | ldc idx =>
    have hz9 := gd_inv h; clear h; obtain ⟨rfl, h⟩ := hz9
    split at h
    · rename_i z hz
      cases h
      exact ⟨_, rfl⟩
    · rename_i z hz
      cases h
      exact ⟨_, rfl⟩
    · cases h
  | ldc2_w idx =>
    have hz9 := gd_inv h; clear h; obtain ⟨rfl, h⟩ := hz9
    split at h
    · rename_i z hz
      cases h
      exact ⟨_, rfl⟩
    · cases h
  | istore_n k =>
    have hz9 := gd_inv h; clear h; obtain ⟨rfl, h⟩ := hz9
    have hz9 := stx_inv h; clear h; obtain ⟨r, v, rfl, h1, h2, h3, h4⟩ := hz9
    cases h4
    exact ⟨_, rfl⟩
  | astore_n k =>
    have hz9 := gd_inv h; clear h; obtain ⟨rfl, h⟩ := hz9
    have hz9 := stx_inv h; clear h; obtain ⟨r, v, rfl, h1, h2, h3, h4⟩ := hz9
    cases h4
    exact ⟨_, rfl⟩
  | istore k =>
    have hz9 := gd_inv h; clear h; obtain ⟨rfl, h⟩ := hz9
    have hz9 := stx_inv h; clear h; obtain ⟨r, v, rfl, h1, h2, h3, h4⟩ := hz9
    cases h4
    exact ⟨_, rfl⟩
  | astore k =>
    have hz9 := gd_inv h; clear h; obtain ⟨rfl, h⟩ := hz9
    have hz9 := stx_inv h; clear h; obtain ⟨r, v, rfl, h1, h2, h3, h4⟩ := hz9
    cases h4
    exact ⟨_, rfl⟩
  | iinc k z =>
    have hz9 := gd_inv h; clear h; obtain ⟨rfl, h⟩ := hz9
    split at h
    · rename_i x hl
      have hz9 := gd_inv h; clear h; obtain ⟨h1, h⟩ := hz9
      cases h
      exact ⟨_, rfl⟩
    · cases h
  | iadd =>
    have hz9 := gd_inv h; clear h; obtain ⟨rfl, h⟩ := hz9
    have hz9 := i2_inv h; clear h; obtain ⟨r, x, y, rfl, h⟩ := hz9
    cases h
    exact ⟨_, rfl⟩
  | isub =>
    have hz9 := gd_inv h; clear h; obtain ⟨rfl, h⟩ := hz9
    have hz9 := i2_inv h; clear h; obtain ⟨r, x, y, rfl, h⟩ := hz9
    cases h
    exact ⟨_, rfl⟩
  | imul =>
    have hz9 := gd_inv h; clear h; obtain ⟨rfl, h⟩ := hz9
    have hz9 := i2_inv h; clear h; obtain ⟨r, x, y, rfl, h⟩ := hz9
    cases h
    exact ⟨_, rfl⟩
  | idiv =>
    have hz9 := gd_inv h; clear h; obtain ⟨rfl, h⟩ := hz9
    have hz9 := i2_inv h; clear h; obtain ⟨r, x, y, rfl, h⟩ := hz9
    have hz9 := gd_inv h; clear h; obtain ⟨⟨h1, h2⟩, h⟩ := hz9
    cases h
    exact ⟨_, rfl⟩
  | irem =>
    have hz9 := gd_inv h; clear h; obtain ⟨rfl, h⟩ := hz9
    have hz9 := i2_inv h; clear h; obtain ⟨r, x, y, rfl, h⟩ := hz9
    have hz9 := gd_inv h; clear h; obtain ⟨⟨h1, h2⟩, h⟩ := hz9
    cases h
    exact ⟨_, rfl⟩
  | iand =>
    have hz9 := gd_inv h; clear h; obtain ⟨rfl, h⟩ := hz9
    have hz9 := i2_inv h; clear h; obtain ⟨r, x, y, rfl, h⟩ := hz9
    cases h
    exact ⟨_, rfl⟩
  | ior =>
    have hz9 := gd_inv h; clear h; obtain ⟨rfl, h⟩ := hz9
    have hz9 := i2_inv h; clear h; obtain ⟨r, x, y, rfl, h⟩ := hz9
    cases h
    exact ⟨_, rfl⟩
  | ixor =>
    have hz9 := gd_inv h; clear h; obtain ⟨rfl, h⟩ := hz9
    have hz9 := i2_inv h; clear h; obtain ⟨r, x, y, rfl, h⟩ := hz9
    cases h
    exact ⟨_, rfl⟩
  | ishl =>
    have hz9 := gd_inv h; clear h; obtain ⟨rfl, h⟩ := hz9
    have hz9 := i2_inv h; clear h; obtain ⟨r, x, y, rfl, h⟩ := hz9
    have hz9 := gd_inv h; clear h; obtain ⟨⟨h1, h2, h3, h4⟩, h⟩ := hz9
    cases h
    exact ⟨_, rfl⟩
  | ishr =>
    have hz9 := gd_inv h; clear h; obtain ⟨rfl, h⟩ := hz9
    have hz9 := i2_inv h; clear h; obtain ⟨r, x, y, rfl, h⟩ := hz9
    have hz9 := gd_inv h; clear h; obtain ⟨⟨h1, h2, h3⟩, h⟩ := hz9
    cases h
    exact ⟨_, rfl⟩
  | ineg =>
    have hz9 := gd_inv h; clear h; obtain ⟨rfl, h⟩ := hz9
    have hz9 := i1_inv h; clear h; obtain ⟨r, x, rfl, h⟩ := hz9
    cases h
    exact ⟨_, rfl⟩
  | i2b =>
    have hz9 := gd_inv h; clear h; obtain ⟨rfl, h⟩ := hz9
    have hz9 := i1_inv h; clear h; obtain ⟨r, x, rfl, h⟩ := hz9
    cases h
    exact ⟨_, rfl⟩
  | i2s =>
    have hz9 := gd_inv h; clear h; obtain ⟨rfl, h⟩ := hz9
    have hz9 := i1_inv h; clear h; obtain ⟨r, x, rfl, h⟩ := hz9
    cases h
    exact ⟨_, rfl⟩
  | i2c =>
    have hz9 := gd_inv h; clear h; obtain ⟨rfl, h⟩ := hz9
    have hz9 := i1_inv h; clear h; obtain ⟨r, x, rfl, h⟩ := hz9
    cases h
    exact ⟨_, rfl⟩
  | i2l =>
    have hz9 := gd_inv h; clear h; obtain ⟨rfl, h⟩ := hz9
    have hz9 := i1_inv h; clear h; obtain ⟨r, x, rfl, h⟩ := hz9
    cases h
    exact ⟨_, rfl⟩
  | l2i =>
    have hz9 := gd_inv h; clear h; obtain ⟨rfl, h⟩ := hz9
    have hz9 := l1_inv h; clear h; obtain ⟨r, x, rfl, h⟩ := hz9
    cases h
    exact ⟨_, rfl⟩
  | land =>
    have hz9 := gd_inv h; clear h; obtain ⟨rfl, h⟩ := hz9
    have hz9 := l2_inv h; clear h; obtain ⟨r, x, y, rfl, h⟩ := hz9
    cases h
    exact ⟨_, rfl⟩
  | lor =>
    have hz9 := gd_inv h; clear h; obtain ⟨rfl, h⟩ := hz9
    have hz9 := l2_inv h; clear h; obtain ⟨r, x, y, rfl, h⟩ := hz9
    cases h
    exact ⟨_, rfl⟩
  | lcmp =>
    have hz9 := gd_inv h; clear h; obtain ⟨rfl, h⟩ := hz9
    have hz9 := l2_inv h; clear h; obtain ⟨r, x, y, rfl, h⟩ := hz9
    cases h
    exact ⟨_, rfl⟩
  | lshl =>
    have hz9 := gd_inv h; clear h; obtain ⟨rfl, h⟩ := hz9
    split at h
    · cases h
      exact ⟨_, rfl⟩
    · cases h
  | dup =>
    have hz9 := gd_inv h; clear h; obtain ⟨rfl, h⟩ := hz9
    split at h
    · have hz9 := gd_inv h; clear h; obtain ⟨h1, h⟩ := hz9
      cases h
      exact ⟨_, rfl⟩
    · cases h
  | dup2 =>
    have hz9 := gd_inv h; clear h; obtain ⟨rfl, h⟩ := hz9
    split at h
    · have hz9 := gd_inv h; clear h; obtain ⟨⟨h1, h2⟩, h⟩ := hz9
      cases h
      exact ⟨_, rfl⟩
    · cases h
  | pop =>
    have hz9 := gd_inv h; clear h; obtain ⟨rfl, h⟩ := hz9
    split at h
    · have hz9 := gd_inv h; clear h; obtain ⟨h1, h⟩ := hz9
      cases h
      exact ⟨_, rfl⟩
    · cases h
  | ifCond cc off =>
    have hz9 := gd_inv h; clear h; obtain ⟨⟨rfl, h0⟩, h⟩ := hz9
    have hz9 := i1_inv h; clear h; obtain ⟨r, x, rfl, h⟩ := hz9
    by_cases hq : icc cc x 0 = true
    · rw [if_pos hq] at h
      cases h
      exact ⟨_, rfl⟩
    · rw [if_neg hq] at h
      cases h
      exact ⟨_, rfl⟩
  | if_icmp cc off =>
    have hz9 := gd_inv h; clear h; obtain ⟨⟨rfl, h0⟩, h⟩ := hz9
    have hz9 := i2_inv h; clear h; obtain ⟨r, x, y, rfl, h⟩ := hz9
    by_cases hq : icc cc x y = true
    · rw [if_pos hq] at h
      cases h
      exact ⟨_, rfl⟩
    · rw [if_neg hq] at h
      cases h
      exact ⟨_, rfl⟩
  | goto off =>
    have hz9 := gd_inv h; clear h; obtain ⟨rfl, h⟩ := hz9
    have hz9 := jmp_inv h; clear h; obtain ⟨h0, h⟩ := hz9
    cases h
    exact ⟨_, rfl⟩
  | tableswitch dflt lo hi offs =>
    have hz9 := i1_inv h; clear h; obtain ⟨r, x, rfl, h⟩ := hz9
    have hz9 := gd_inv h; clear h; obtain ⟨h1, h⟩ := hz9
    have key : ∀ (os : List Int) (lo : Int), tsw x (fun off => jmp pc off ls r σ) (jmp pc dflt ls r σ) lo os = some y → ∃ cf' : Cf, y = .inl cf' := by
      intro os
      induction os with
      | nil => intro lo h; obtain ⟨-, h⟩ := jmp_inv h; exact ⟨_, h⟩
      | cons o os ih =>
        intro lo h
        simp only [tsw] at h
        split at h
        · obtain ⟨-, h⟩ := jmp_inv h; exact ⟨_, h⟩
        · exact ih _ h
    exact key _ _ h
  | lookupswitch dflt ps =>
    have hz9 := i1_inv h; clear h; obtain ⟨r, x, rfl, h⟩ := hz9
    have hz9 := gd_inv h; clear h; obtain ⟨h1, h⟩ := hz9
    have key : ∀ (os : List (Int × Int)), lsw x (fun off => jmp pc off ls r σ) (jmp pc dflt ls r σ) os = some y → ∃ cf' : Cf, y = .inl cf' := by
      intro os
      induction os with
      | nil => intro h; obtain ⟨-, h⟩ := jmp_inv h; exact ⟨_, h⟩
      | cons o os ih =>
        intro h
        simp only [lsw] at h
        split at h
        · obtain ⟨-, h⟩ := jmp_inv h; exact ⟨_, h⟩
        · exact ih h
    exact key _ h
  | getfield idx =>
    have hz9 := gd_inv h; clear h; obtain ⟨rfl, h⟩ := hz9
    have hz9 := r1_inv h; clear h; obtain ⟨r, o, rfl, h⟩ := hz9
    split at h
    · rename_i ci k hf
      have hz9 := gd_inv h; clear h; obtain ⟨h1, h⟩ := hz9
      cases h
      exact ⟨_, rfl⟩
    · split at h
      · rename_i hk
        have hz9 := gd_inv h; clear h; obtain ⟨h1, h⟩ := hz9
        cases h
        exact ⟨_, rfl⟩
      · rename_i hk
        have hz9 := gd_inv h; clear h; obtain ⟨h1, h⟩ := hz9
        cases h
        exact ⟨_, rfl⟩
      · cases h
  | putfield idx =>
    have hz9 := gd_inv h; clear h; obtain ⟨rfl, h⟩ := hz9
    have hz9 := vr_inv h; clear h; obtain ⟨r, v, o, rfl, h⟩ := hz9
    split at h
    · rename_i ci k hf
      have hz9 := gd_inv h; clear h; obtain ⟨⟨h1, h2, h3⟩, h⟩ := hz9
      unfold putv at h
      split at h
      · rename_i ht
        split at h
        · cases h
          exact ⟨_, rfl⟩
        · cases h
      · rename_i ht
        split at h
        · have hz9 := gd_inv h; clear h; obtain ⟨h4, h⟩ := hz9
          cases h
          exact ⟨_, rfl⟩
        · cases h
      · rename_i ht
        split at h
        · have hz9 := gd_inv h; clear h; obtain ⟨⟨-, h4⟩, h⟩ := hz9
          cases h
          exact ⟨_, rfl⟩
        · cases h
      · cases h
    · cases h
  | getstatic idx =>
    have hz9 := gd_inv h; clear h; obtain ⟨rfl, h⟩ := hz9
    split at h
    · rename_i hk
      cases h
      exact ⟨_, rfl⟩
    · rename_i hk
      cases h
      exact ⟨_, rfl⟩
    · rename_i hk
      cases h
      exact ⟨_, rfl⟩
    · cases h
  | iaload =>
    have hz9 := gd_inv h; clear h; obtain ⟨rfl, h⟩ := hz9
    have hz9 := ir_inv h; clear h; obtain ⟨r, a, i, rfl, h⟩ := hz9
    have hz9 := gd_inv h; clear h; obtain ⟨⟨h1, h2, h3⟩, h⟩ := hz9
    cases h
    exact ⟨_, rfl⟩
  | baload =>
    have hz9 := gd_inv h; clear h; obtain ⟨rfl, h⟩ := hz9
    have hz9 := ir_inv h; clear h; obtain ⟨r, a, i, rfl, h⟩ := hz9
    have hz9 := gd_inv h; clear h; obtain ⟨⟨h1, h2, h3⟩, h⟩ := hz9
    cases h
    exact ⟨_, rfl⟩
  | laload =>
    have hz9 := gd_inv h; clear h; obtain ⟨rfl, h⟩ := hz9
    have hz9 := ir_inv h; clear h; obtain ⟨r, a, i, rfl, h⟩ := hz9
    have hz9 := gd_inv h; clear h; obtain ⟨⟨h1, h2, h3⟩, h⟩ := hz9
    cases h
    exact ⟨_, rfl⟩
  | aaload =>
    have hz9 := gd_inv h; clear h; obtain ⟨rfl, h⟩ := hz9
    have hz9 := ir_inv h; clear h; obtain ⟨r, a, i, rfl, h⟩ := hz9
    have hz9 := gd_inv h; clear h; obtain ⟨⟨h1, h2, h3⟩, h⟩ := hz9
    cases h
    exact ⟨_, rfl⟩
  | iastore =>
    have hz9 := gd_inv h; clear h; obtain ⟨rfl, h⟩ := hz9
    have hz9 := vir_inv h; clear h; obtain ⟨r, v, a, i, rfl, h⟩ := hz9
    split at h
    · have hz9 := gd_inv h; clear h; obtain ⟨⟨h1, h2, h3, h4⟩, h⟩ := hz9
      cases h
      exact ⟨_, rfl⟩
    · cases h
  | bastore =>
    have hz9 := gd_inv h; clear h; obtain ⟨rfl, h⟩ := hz9
    have hz9 := vir_inv h; clear h; obtain ⟨r, v, a, i, rfl, h⟩ := hz9
    split at h
    · have hz9 := gd_inv h; clear h; obtain ⟨⟨h1, h2, h3, h4⟩, h⟩ := hz9
      cases h
      exact ⟨_, rfl⟩
    · cases h
  | lastore =>
    have hz9 := gd_inv h; clear h; obtain ⟨rfl, h⟩ := hz9
    have hz9 := vir_inv h; clear h; obtain ⟨r, v, a, i, rfl, h⟩ := hz9
    split at h
    · have hz9 := gd_inv h; clear h; obtain ⟨⟨h1, h2, h3, h4⟩, h⟩ := hz9
      cases h
      exact ⟨_, rfl⟩
    · cases h
  | aastore =>
    have hz9 := gd_inv h; clear h; obtain ⟨rfl, h⟩ := hz9
    have hz9 := vir_inv h; clear h; obtain ⟨r, v, a, i, rfl, h⟩ := hz9
    split at h
    · have hz9 := gd_inv h; clear h; obtain ⟨⟨h1, h2, h3, h4, h5, h6, h7, h8⟩, h⟩ := hz9
      cases h
      exact ⟨_, rfl⟩
    · cases h
  | arraylength =>
    have hz9 := gd_inv h; clear h; obtain ⟨rfl, h⟩ := hz9
    have hz9 := r1_inv h; clear h; obtain ⟨r, a, rfl, h⟩ := hz9
    have hz9 := gd_inv h; clear h; obtain ⟨⟨h1, h2⟩, h⟩ := hz9
    cases h
    exact ⟨_, rfl⟩
  | newarray ty =>
    have hz9 := gd_inv h; clear h; obtain ⟨rfl, h⟩ := hz9
    have hz9 := i1_inv h; clear h; obtain ⟨r, n, rfl, h⟩ := hz9
    have hz9 := gd_inv h; clear h; obtain ⟨⟨h1, h2, h3⟩, h⟩ := hz9
    obtain ⟨σ9, e1, -⟩ := alc_inv h
    cases e1
    exact ⟨_, rfl⟩
  | anewarray idx =>
    have hz9 := gd_inv h; clear h; obtain ⟨rfl, h⟩ := hz9
    have hz9 := i1_inv h; clear h; obtain ⟨r, n, rfl, h⟩ := hz9
    split at h
    · rename_i t hn
      have hz9 := gd_inv h; clear h; obtain ⟨⟨h1, h2, h3, h4, -⟩, h⟩ := hz9
      obtain ⟨σ9, e1, -⟩ := alc_inv h
      cases e1
      exact ⟨_, rfl⟩
    · cases h
  | new idx =>
    have hz9 := gd_inv h; clear h; obtain ⟨rfl, h⟩ := hz9
    split at h
    · rename_i ci hn
      have hz9 := gd_inv h; clear h; obtain ⟨h1, h⟩ := hz9
      obtain ⟨σ9, e1, -⟩ := alc_inv h
      cases e1
      exact ⟨_, rfl⟩
    · cases h
  | invokevirtual idx =>
    cases hn
  | invokespecial idx =>
    cases hn
  | invokestatic idx =>
    cases hn
  | ireturn =>
    cases hn
  | lreturn =>
    cases hn
  | areturn =>
    cases hn
  | return_ =>
    cases hn
  | _ => exact absurd h (by simp [stepI])
theorem stepI_tot {μ : Nat} {i : ClassFile.Instr} {len pc : Nat} {ls : PL} {st : List PV} {σ : PS} {cf' : Cf} (hn : isOut i = false) (h : stepI μ i len pc ls st σ = some (.inl cf')) : tot σ ≤ tot cf'.2.2.2 ∧ siz σ ≤ siz cf'.2.2.2 := by
  cases i with
  | aload_n k =>
    have hz9 := gd_inv h; clear h; obtain ⟨rfl, h⟩ := hz9
    have hz9 := ldx_inv h; clear h; obtain ⟨v, h1, h2, h3⟩ := hz9
    cases h3
    exact ⟨Nat.le_refl _, Nat.le_refl _⟩
  | iload_n k =>
    have hz9 := gd_inv h; clear h; obtain ⟨rfl, h⟩ := hz9
    have hz9 := ldx_inv h; clear h; obtain ⟨v, h1, h2, h3⟩ := hz9
    cases h3
    exact ⟨Nat.le_refl _, Nat.le_refl _⟩
  | lload_n k =>
    have hz9 := gd_inv h; clear h; obtain ⟨rfl, h⟩ := hz9
    have hz9 := ldx_inv h; clear h; obtain ⟨v, h1, h2, h3⟩ := hz9
    cases h3
    exact ⟨Nat.le_refl _, Nat.le_refl _⟩
  | aload k =>
    have hz9 := gd_inv h; clear h; obtain ⟨rfl, h⟩ := hz9
    have hz9 := ldx_inv h; clear h; obtain ⟨v, h1, h2, h3⟩ := hz9
    cases h3
    exact ⟨Nat.le_refl _, Nat.le_refl _⟩
  | iload k =>
    have hz9 := gd_inv h; clear h; obtain ⟨rfl, h⟩ := hz9
    have hz9 := ldx_inv h; clear h; obtain ⟨v, h1, h2, h3⟩ := hz9
    cases h3
    exact ⟨Nat.le_refl _, Nat.le_refl _⟩
  | iconst z =>
    have hz9 := gd_inv h; clear h; obtain ⟨⟨rfl, h1⟩, h⟩ := hz9
    cases h
    exact ⟨Nat.le_refl _, Nat.le_refl _⟩
  | bipush z =>
    have hz9 := gd_inv h; clear h; obtain ⟨⟨rfl, h1⟩, h⟩ := hz9
    cases h
    exact ⟨Nat.le_refl _, Nat.le_refl _⟩
  | sipush z =>
    have hz9 := gd_inv h; clear h; obtain ⟨⟨rfl, h1⟩, h⟩ := hz9
    cases h
    exact ⟨Nat.le_refl _, Nat.le_refl _⟩
  | lconst z =>
    have hz9 := gd_inv h; clear h; obtain ⟨rfl, h⟩ := hz9
    cases h
    exact ⟨Nat.le_refl _, Nat.le_refl _⟩
  | ldc idx =>
    have hz9 := gd_inv h; clear h; obtain ⟨rfl, h⟩ := hz9
    split at h
    · rename_i z hz
      cases h
      exact ⟨Nat.le_refl _, Nat.le_refl _⟩
    · rename_i z hz
      cases h
      exact ⟨Nat.le_refl _, Nat.le_refl _⟩
    · cases h
  | ldc2_w idx =>
    have hz9 := gd_inv h; clear h; obtain ⟨rfl, h⟩ := hz9
    split at h
    · rename_i z hz
      cases h
      exact ⟨Nat.le_refl _, Nat.le_refl _⟩
    · cases h
  | istore_n k =>
    have hz9 := gd_inv h; clear h; obtain ⟨rfl, h⟩ := hz9
    have hz9 := stx_inv h; clear h; obtain ⟨r, v, rfl, h1, h2, h3, h4⟩ := hz9
    cases h4
    exact ⟨Nat.le_refl _, Nat.le_refl _⟩
  | astore_n k =>
    have hz9 := gd_inv h; clear h; obtain ⟨rfl, h⟩ := hz9
    have hz9 := stx_inv h; clear h; obtain ⟨r, v, rfl, h1, h2, h3, h4⟩ := hz9
    cases h4
    exact ⟨Nat.le_refl _, Nat.le_refl _⟩
  | istore k =>
    have hz9 := gd_inv h; clear h; obtain ⟨rfl, h⟩ := hz9
    have hz9 := stx_inv h; clear h; obtain ⟨r, v, rfl, h1, h2, h3, h4⟩ := hz9
    cases h4
    exact ⟨Nat.le_refl _, Nat.le_refl _⟩
  | astore k =>
    have hz9 := gd_inv h; clear h; obtain ⟨rfl, h⟩ := hz9
    have hz9 := stx_inv h; clear h; obtain ⟨r, v, rfl, h1, h2, h3, h4⟩ := hz9
    cases h4
    exact ⟨Nat.le_refl _, Nat.le_refl _⟩
  | iinc k z =>
    have hz9 := gd_inv h; clear h; obtain ⟨rfl, h⟩ := hz9
    split at h
    · rename_i x hl
      have hz9 := gd_inv h; clear h; obtain ⟨h1, h⟩ := hz9
      cases h
      exact ⟨Nat.le_refl _, Nat.le_refl _⟩
    · cases h
  | iadd =>
    have hz9 := gd_inv h; clear h; obtain ⟨rfl, h⟩ := hz9
    have hz9 := i2_inv h; clear h; obtain ⟨r, x, y, rfl, h⟩ := hz9
    cases h
    exact ⟨Nat.le_refl _, Nat.le_refl _⟩
  | isub =>
    have hz9 := gd_inv h; clear h; obtain ⟨rfl, h⟩ := hz9
    have hz9 := i2_inv h; clear h; obtain ⟨r, x, y, rfl, h⟩ := hz9
    cases h
    exact ⟨Nat.le_refl _, Nat.le_refl _⟩
  | imul =>
    have hz9 := gd_inv h; clear h; obtain ⟨rfl, h⟩ := hz9
    have hz9 := i2_inv h; clear h; obtain ⟨r, x, y, rfl, h⟩ := hz9
    cases h
    exact ⟨Nat.le_refl _, Nat.le_refl _⟩
  | idiv =>
    have hz9 := gd_inv h; clear h; obtain ⟨rfl, h⟩ := hz9
    have hz9 := i2_inv h; clear h; obtain ⟨r, x, y, rfl, h⟩ := hz9
    have hz9 := gd_inv h; clear h; obtain ⟨⟨h1, h2⟩, h⟩ := hz9
    cases h
    exact ⟨Nat.le_refl _, Nat.le_refl _⟩
  | irem =>
    have hz9 := gd_inv h; clear h; obtain ⟨rfl, h⟩ := hz9
    have hz9 := i2_inv h; clear h; obtain ⟨r, x, y, rfl, h⟩ := hz9
    have hz9 := gd_inv h; clear h; obtain ⟨⟨h1, h2⟩, h⟩ := hz9
    cases h
    exact ⟨Nat.le_refl _, Nat.le_refl _⟩
  | iand =>
    have hz9 := gd_inv h; clear h; obtain ⟨rfl, h⟩ := hz9
    have hz9 := i2_inv h; clear h; obtain ⟨r, x, y, rfl, h⟩ := hz9
    cases h
    exact ⟨Nat.le_refl _, Nat.le_refl _⟩
  | ior =>
    have hz9 := gd_inv h; clear h; obtain ⟨rfl, h⟩ := hz9
    have hz9 := i2_inv h; clear h; obtain ⟨r, x, y, rfl, h⟩ := hz9
    cases h
    exact ⟨Nat.le_refl _, Nat.le_refl _⟩
  | ixor =>
    have hz9 := gd_inv h; clear h; obtain ⟨rfl, h⟩ := hz9
    have hz9 := i2_inv h; clear h; obtain ⟨r, x, y, rfl, h⟩ := hz9
    cases h
    exact ⟨Nat.le_refl _, Nat.le_refl _⟩
  | ishl =>
    have hz9 := gd_inv h; clear h; obtain ⟨rfl, h⟩ := hz9
    have hz9 := i2_inv h; clear h; obtain ⟨r, x, y, rfl, h⟩ := hz9
    have hz9 := gd_inv h; clear h; obtain ⟨⟨h1, h2, h3, h4⟩, h⟩ := hz9
    cases h
    exact ⟨Nat.le_refl _, Nat.le_refl _⟩
  | ishr =>
    have hz9 := gd_inv h; clear h; obtain ⟨rfl, h⟩ := hz9
    have hz9 := i2_inv h; clear h; obtain ⟨r, x, y, rfl, h⟩ := hz9
    have hz9 := gd_inv h; clear h; obtain ⟨⟨h1, h2, h3⟩, h⟩ := hz9
    cases h
    exact ⟨Nat.le_refl _, Nat.le_refl _⟩
  | ineg =>
    have hz9 := gd_inv h; clear h; obtain ⟨rfl, h⟩ := hz9
    have hz9 := i1_inv h; clear h; obtain ⟨r, x, rfl, h⟩ := hz9
    cases h
    exact ⟨Nat.le_refl _, Nat.le_refl _⟩
  | i2b =>
    have hz9 := gd_inv h; clear h; obtain ⟨rfl, h⟩ := hz9
    have hz9 := i1_inv h; clear h; obtain ⟨r, x, rfl, h⟩ := hz9
    cases h
    exact ⟨Nat.le_refl _, Nat.le_refl _⟩
  | i2s =>
    have hz9 := gd_inv h; clear h; obtain ⟨rfl, h⟩ := hz9
    have hz9 := i1_inv h; clear h; obtain ⟨r, x, rfl, h⟩ := hz9
    cases h
    exact ⟨Nat.le_refl _, Nat.le_refl _⟩
  | i2c =>
    have hz9 := gd_inv h; clear h; obtain ⟨rfl, h⟩ := hz9
    have hz9 := i1_inv h; clear h; obtain ⟨r, x, rfl, h⟩ := hz9
    cases h
    exact ⟨Nat.le_refl _, Nat.le_refl _⟩
  | i2l =>
    have hz9 := gd_inv h; clear h; obtain ⟨rfl, h⟩ := hz9
    have hz9 := i1_inv h; clear h; obtain ⟨r, x, rfl, h⟩ := hz9
    cases h
    exact ⟨Nat.le_refl _, Nat.le_refl _⟩
  | l2i =>
    have hz9 := gd_inv h; clear h; obtain ⟨rfl, h⟩ := hz9
    have hz9 := l1_inv h; clear h; obtain ⟨r, x, rfl, h⟩ := hz9
    cases h
    exact ⟨Nat.le_refl _, Nat.le_refl _⟩
  | land =>
    have hz9 := gd_inv h; clear h; obtain ⟨rfl, h⟩ := hz9
    have hz9 := l2_inv h; clear h; obtain ⟨r, x, y, rfl, h⟩ := hz9
    cases h
    exact ⟨Nat.le_refl _, Nat.le_refl _⟩
  | lor =>
    have hz9 := gd_inv h; clear h; obtain ⟨rfl, h⟩ := hz9
    have hz9 := l2_inv h; clear h; obtain ⟨r, x, y, rfl, h⟩ := hz9
    cases h
    exact ⟨Nat.le_refl _, Nat.le_refl _⟩
  | lcmp =>
    have hz9 := gd_inv h; clear h; obtain ⟨rfl, h⟩ := hz9
    have hz9 := l2_inv h; clear h; obtain ⟨r, x, y, rfl, h⟩ := hz9
    cases h
    exact ⟨Nat.le_refl _, Nat.le_refl _⟩
  | lshl =>
    have hz9 := gd_inv h; clear h; obtain ⟨rfl, h⟩ := hz9
    split at h
    · cases h
      exact ⟨Nat.le_refl _, Nat.le_refl _⟩
    · cases h
  | dup =>
    have hz9 := gd_inv h; clear h; obtain ⟨rfl, h⟩ := hz9
    split at h
    · have hz9 := gd_inv h; clear h; obtain ⟨h1, h⟩ := hz9
      cases h
      exact ⟨Nat.le_refl _, Nat.le_refl _⟩
    · cases h
  | dup2 =>
    have hz9 := gd_inv h; clear h; obtain ⟨rfl, h⟩ := hz9
    split at h
    · have hz9 := gd_inv h; clear h; obtain ⟨⟨h1, h2⟩, h⟩ := hz9
      cases h
      exact ⟨Nat.le_refl _, Nat.le_refl _⟩
    · cases h
  | pop =>
    have hz9 := gd_inv h; clear h; obtain ⟨rfl, h⟩ := hz9
    split at h
    · have hz9 := gd_inv h; clear h; obtain ⟨h1, h⟩ := hz9
      cases h
      exact ⟨Nat.le_refl _, Nat.le_refl _⟩
    · cases h
  | ifCond cc off =>
    have hz9 := gd_inv h; clear h; obtain ⟨⟨rfl, h0⟩, h⟩ := hz9
    have hz9 := i1_inv h; clear h; obtain ⟨r, x, rfl, h⟩ := hz9
    by_cases hq : icc cc x 0 = true
    · rw [if_pos hq] at h
      cases h
      exact ⟨Nat.le_refl _, Nat.le_refl _⟩
    · rw [if_neg hq] at h
      cases h
      exact ⟨Nat.le_refl _, Nat.le_refl _⟩
  | if_icmp cc off =>
    have hz9 := gd_inv h; clear h; obtain ⟨⟨rfl, h0⟩, h⟩ := hz9
    have hz9 := i2_inv h; clear h; obtain ⟨r, x, y, rfl, h⟩ := hz9
    by_cases hq : icc cc x y = true
    · rw [if_pos hq] at h
      cases h
      exact ⟨Nat.le_refl _, Nat.le_refl _⟩
    · rw [if_neg hq] at h
      cases h
      exact ⟨Nat.le_refl _, Nat.le_refl _⟩
  | goto off =>
    have hz9 := gd_inv h; clear h; obtain ⟨rfl, h⟩ := hz9
    have hz9 := jmp_inv h; clear h; obtain ⟨h0, h⟩ := hz9
    cases h
    exact ⟨Nat.le_refl _, Nat.le_refl _⟩
  | tableswitch dflt lo hi offs =>
    have hz9 := i1_inv h; clear h; obtain ⟨r, x, rfl, h⟩ := hz9
    have hz9 := gd_inv h; clear h; obtain ⟨h1, h⟩ := hz9
    have key : ∀ (os : List Int) (lo : Int), tsw x (fun off => jmp pc off ls r σ) (jmp pc dflt ls r σ) lo os = some (.inl cf') → tot σ ≤ tot cf'.2.2.2 ∧ siz σ ≤ siz cf'.2.2.2 := by
      intro os
      induction os with
      | nil => intro lo h; obtain ⟨-, h⟩ := jmp_inv h; cases h; exact ⟨Nat.le_refl _, Nat.le_refl _⟩
      | cons o os ih =>
        intro lo h
        simp only [tsw] at h
        split at h
        · obtain ⟨-, h⟩ := jmp_inv h; cases h; exact ⟨Nat.le_refl _, Nat.le_refl _⟩
        · exact ih _ h
    exact key _ _ h
  | lookupswitch dflt ps =>
    have hz9 := i1_inv h; clear h; obtain ⟨r, x, rfl, h⟩ := hz9
    have hz9 := gd_inv h; clear h; obtain ⟨h1, h⟩ := hz9
    have key : ∀ (os : List (Int × Int)), lsw x (fun off => jmp pc off ls r σ) (jmp pc dflt ls r σ) os = some (.inl cf') → tot σ ≤ tot cf'.2.2.2 ∧ siz σ ≤ siz cf'.2.2.2 := by
      intro os
      induction os with
      | nil => intro h; obtain ⟨-, h⟩ := jmp_inv h; cases h; exact ⟨Nat.le_refl _, Nat.le_refl _⟩
      | cons o os ih =>
        intro h
        simp only [lsw] at h
        split at h
        · obtain ⟨-, h⟩ := jmp_inv h; cases h; exact ⟨Nat.le_refl _, Nat.le_refl _⟩
        · exact ih h
    exact key _ h
  | getfield idx =>
    have hz9 := gd_inv h; clear h; obtain ⟨rfl, h⟩ := hz9
    have hz9 := r1_inv h; clear h; obtain ⟨r, o, rfl, h⟩ := hz9
    split at h
    · rename_i ci k hf
      have hz9 := gd_inv h; clear h; obtain ⟨h1, h⟩ := hz9
      cases h
      exact ⟨Nat.le_refl _, Nat.le_refl _⟩
    · split at h
      · rename_i hk
        have hz9 := gd_inv h; clear h; obtain ⟨h1, h⟩ := hz9
        cases h
        exact ⟨Nat.le_refl _, Nat.le_refl _⟩
      · rename_i hk
        have hz9 := gd_inv h; clear h; obtain ⟨h1, h⟩ := hz9
        cases h
        exact ⟨Nat.le_refl _, Nat.le_refl _⟩
      · cases h
  | putfield idx =>
    have hz9 := gd_inv h; clear h; obtain ⟨rfl, h⟩ := hz9
    have hz9 := vr_inv h; clear h; obtain ⟨r, v, o, rfl, h⟩ := hz9
    split at h
    · rename_i ci k hf
      have hz9 := gd_inv h; clear h; obtain ⟨⟨h1, h2, h3⟩, h⟩ := hz9
      unfold putv at h
      split at h
      · rename_i ht
        split at h
        · cases h
          exact ⟨Nat.le_refl _, Nat.le_refl _⟩
        · cases h
      · rename_i ht
        split at h
        · have hz9 := gd_inv h; clear h; obtain ⟨h4, h⟩ := hz9
          cases h
          exact ⟨Nat.le_refl _, Nat.le_refl _⟩
        · cases h
      · rename_i ht
        split at h
        · have hz9 := gd_inv h; clear h; obtain ⟨⟨-, h4⟩, h⟩ := hz9
          cases h
          exact ⟨Nat.le_refl _, Nat.le_refl _⟩
        · cases h
      · cases h
    · cases h
  | getstatic idx =>
    have hz9 := gd_inv h; clear h; obtain ⟨rfl, h⟩ := hz9
    split at h
    · rename_i hk
      cases h
      exact ⟨Nat.le_refl _, Nat.le_refl _⟩
    · rename_i hk
      cases h
      exact ⟨Nat.le_refl _, Nat.le_refl _⟩
    · rename_i hk
      cases h
      exact ⟨Nat.le_refl _, Nat.le_refl _⟩
    · cases h
  | iaload =>
    have hz9 := gd_inv h; clear h; obtain ⟨rfl, h⟩ := hz9
    have hz9 := ir_inv h; clear h; obtain ⟨r, a, i, rfl, h⟩ := hz9
    have hz9 := gd_inv h; clear h; obtain ⟨⟨h1, h2, h3⟩, h⟩ := hz9
    cases h
    exact ⟨Nat.le_refl _, Nat.le_refl _⟩
  | baload =>
    have hz9 := gd_inv h; clear h; obtain ⟨rfl, h⟩ := hz9
    have hz9 := ir_inv h; clear h; obtain ⟨r, a, i, rfl, h⟩ := hz9
    have hz9 := gd_inv h; clear h; obtain ⟨⟨h1, h2, h3⟩, h⟩ := hz9
    cases h
    exact ⟨Nat.le_refl _, Nat.le_refl _⟩
  | laload =>
    have hz9 := gd_inv h; clear h; obtain ⟨rfl, h⟩ := hz9
    have hz9 := ir_inv h; clear h; obtain ⟨r, a, i, rfl, h⟩ := hz9
    have hz9 := gd_inv h; clear h; obtain ⟨⟨h1, h2, h3⟩, h⟩ := hz9
    cases h
    exact ⟨Nat.le_refl _, Nat.le_refl _⟩
  | aaload =>
    have hz9 := gd_inv h; clear h; obtain ⟨rfl, h⟩ := hz9
    have hz9 := ir_inv h; clear h; obtain ⟨r, a, i, rfl, h⟩ := hz9
    have hz9 := gd_inv h; clear h; obtain ⟨⟨h1, h2, h3⟩, h⟩ := hz9
    cases h
    exact ⟨Nat.le_refl _, Nat.le_refl _⟩
  | iastore =>
    have hz9 := gd_inv h; clear h; obtain ⟨rfl, h⟩ := hz9
    have hz9 := vir_inv h; clear h; obtain ⟨r, v, a, i, rfl, h⟩ := hz9
    split at h
    · have hz9 := gd_inv h; clear h; obtain ⟨⟨h1, h2, h3, h4⟩, h⟩ := hz9
      cases h
      exact ⟨Nat.le_refl _, Nat.le_refl _⟩
    · cases h
  | bastore =>
    have hz9 := gd_inv h; clear h; obtain ⟨rfl, h⟩ := hz9
    have hz9 := vir_inv h; clear h; obtain ⟨r, v, a, i, rfl, h⟩ := hz9
    split at h
    · have hz9 := gd_inv h; clear h; obtain ⟨⟨h1, h2, h3, h4⟩, h⟩ := hz9
      cases h
      exact ⟨Nat.le_refl _, Nat.le_refl _⟩
    · cases h
  | lastore =>
    have hz9 := gd_inv h; clear h; obtain ⟨rfl, h⟩ := hz9
    have hz9 := vir_inv h; clear h; obtain ⟨r, v, a, i, rfl, h⟩ := hz9
    split at h
    · have hz9 := gd_inv h; clear h; obtain ⟨⟨h1, h2, h3, h4⟩, h⟩ := hz9
      cases h
      exact ⟨Nat.le_refl _, Nat.le_refl _⟩
    · cases h
  | aastore =>
    have hz9 := gd_inv h; clear h; obtain ⟨rfl, h⟩ := hz9
    have hz9 := vir_inv h; clear h; obtain ⟨r, v, a, i, rfl, h⟩ := hz9
    split at h
    · have hz9 := gd_inv h; clear h; obtain ⟨⟨h1, h2, h3, h4, h5, h6, h7, h8⟩, h⟩ := hz9
      cases h
      exact ⟨Nat.le_refl _, Nat.le_refl _⟩
    · cases h
  | arraylength =>
    have hz9 := gd_inv h; clear h; obtain ⟨rfl, h⟩ := hz9
    have hz9 := r1_inv h; clear h; obtain ⟨r, a, rfl, h⟩ := hz9
    have hz9 := gd_inv h; clear h; obtain ⟨⟨h1, h2⟩, h⟩ := hz9
    cases h
    exact ⟨Nat.le_refl _, Nat.le_refl _⟩
  | newarray ty =>
    have hz9 := gd_inv h; clear h; obtain ⟨rfl, h⟩ := hz9
    have hz9 := i1_inv h; clear h; obtain ⟨r, n, rfl, h⟩ := hz9
    have hz9 := gd_inv h; clear h; obtain ⟨⟨h1, h2, h3⟩, h⟩ := hz9
    obtain ⟨σ9, e1, -, e3, e4, -⟩ := alc_inv h
    cases e1
    exact ⟨(by rw [e3]; omega : tot σ ≤ tot σ9), (by rw [e4]; omega : siz σ ≤ siz σ9)⟩
  | anewarray idx =>
    have hz9 := gd_inv h; clear h; obtain ⟨rfl, h⟩ := hz9
    have hz9 := i1_inv h; clear h; obtain ⟨r, n, rfl, h⟩ := hz9
    split at h
    · rename_i t hn
      have hz9 := gd_inv h; clear h; obtain ⟨⟨h1, h2, h3, h4, -⟩, h⟩ := hz9
      obtain ⟨σ9, e1, -, e3, e4, -⟩ := alc_inv h
      cases e1
      exact ⟨(by rw [e3]; omega : tot σ ≤ tot σ9), (by rw [e4]; omega : siz σ ≤ siz σ9)⟩
    · cases h
  | new idx =>
    have hz9 := gd_inv h; clear h; obtain ⟨rfl, h⟩ := hz9
    split at h
    · rename_i ci hn
      have hz9 := gd_inv h; clear h; obtain ⟨h1, h⟩ := hz9
      obtain ⟨σ9, e1, -, e3, e4, -⟩ := alc_inv h
      cases e1
      exact ⟨(by rw [e3]; omega : tot σ ≤ tot σ9), (by rw [e4]; omega : siz σ ≤ siz σ9)⟩
    · cases h
  | invokevirtual idx =>
    cases hn
  | invokespecial idx =>
    cases hn
  | invokestatic idx =>
    cases hn
  | ireturn =>
    cases hn
  | lreturn =>
    cases hn
  | areturn =>
    cases hn
  | return_ =>
    cases hn
  | _ => exact absurd h (by simp [stepI])
