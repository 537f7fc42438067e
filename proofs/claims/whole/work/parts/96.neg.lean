/-! The cells below 0 stay as they are. -/
theorem ng_up {m : PM} {a k z : Int} {X : Option Nat × (List (Nat × Nat) × Nat)} (h : 0 ≤ a) : (∀ x : Int, x < 0 → (up m a k z, X).1 x = m x) ∧ X.2.2 = X.2.2 := ⟨fun x hx => by funext k'; show up m a k z x k' = m x k'; unfold up; rw [if_neg (by omega)], rfl⟩
theorem ng_cpy {m : PM} {a sp b dp n : Int} {X : Option Nat × (List (Nat × Nat) × Nat)} (h : 0 ≤ b) : (∀ x : Int, x < 0 → (cpy m a sp b dp n, X).1 x = m x) ∧ X.2.2 = X.2.2 := ⟨fun x hx => by funext k'; show cpy m a sp b dp n x k' = m x k'; unfold cpy; rw [if_neg (by omega)], rfl⟩
theorem ng_clr (m : PM) (id : Int) : ∀ x : Int, x ≠ id → clr m id x = m x := fun x hx => by funext k; unfold clr; rw [if_neg hx]
theorem ng_clN (m : PM) (id : Int) : ∀ x : Int, x ≠ id → clN m id x = m x := fun x hx => by funext k; unfold clN; rw [if_neg hx]
theorem ng_clO (m : PM) (id : Int) (ci : Nat) : ∀ x : Int, x ≠ id → clO m id ci x = m x := fun x hx => by funext k; unfold clO; rw [if_neg hx]
theorem ng_alc {σ σ9 : PS} {cl : PM → Int → PM} {A B C : Prop} (e2 : σ9.1 = cl σ.1 (tot σ)) (e5 : A ∧ B ∧ C ∧ σ9.2.2.2 = σ.2.2.2 ∧ (∀ k, rf σ9 (tot σ) k = σ9.1 (tot σ) k)) (hc : ∀ (m : PM) (id : Int), ∀ x : Int, x ≠ id → cl m id x = m x) : (∀ x : Int, x < 0 → σ9.1 x = σ.1 x) ∧ σ9.2.2.2 = σ.2.2.2 := ⟨fun x hx => by rw [e2]; exact hc _ _ x (by omega), e5.2.2.2.1⟩
theorem stepI_ng1 {μ : Nat} {i : ClassFile.Instr} {len pc : Nat} {ls : PL} {st : List PV} {σ : PS} {cf' : Cf} (hn : isOut i = false) (h : stepI μ i len pc ls st σ = some (.inl cf')) : (∀ x : Int, x < 0 → cf'.2.2.2.1 x = σ.1 x) ∧ cf'.2.2.2.2.2.2 = σ.2.2.2 := by
  cases i with
  | aload_n k =>
    have hz9 := gd_inv h; clear h; obtain ⟨rfl, h⟩ := hz9
    have hz9 := ldx_inv h; clear h; obtain ⟨v, h1, h2, h3⟩ := hz9
    cases h3
    first | exact ⟨fun _ _ => rfl, rfl⟩ | exact ng_up (by omega) | exact ng_cpy (by omega)
  | iload_n k =>
    have hz9 := gd_inv h; clear h; obtain ⟨rfl, h⟩ := hz9
    have hz9 := ldx_inv h; clear h; obtain ⟨v, h1, h2, h3⟩ := hz9
    cases h3
    first | exact ⟨fun _ _ => rfl, rfl⟩ | exact ng_up (by omega) | exact ng_cpy (by omega)
  | lload_n k =>
    have hz9 := gd_inv h; clear h; obtain ⟨rfl, h⟩ := hz9
    have hz9 := ldx_inv h; clear h; obtain ⟨v, h1, h2, h3⟩ := hz9
    cases h3
    first | exact ⟨fun _ _ => rfl, rfl⟩ | exact ng_up (by omega) | exact ng_cpy (by omega)
  | aload k =>
    have hz9 := gd_inv h; clear h; obtain ⟨rfl, h⟩ := hz9
    have hz9 := ldx_inv h; clear h; obtain ⟨v, h1, h2, h3⟩ := hz9
    cases h3
    first | exact ⟨fun _ _ => rfl, rfl⟩ | exact ng_up (by omega) | exact ng_cpy (by omega)
  | iload k =>
    have hz9 := gd_inv h; clear h; obtain ⟨rfl, h⟩ := hz9
    have hz9 := ldx_inv h; clear h; obtain ⟨v, h1, h2, h3⟩ := hz9
    cases h3
    first | exact ⟨fun _ _ => rfl, rfl⟩ | exact ng_up (by omega) | exact ng_cpy (by omega)
  | iconst z =>
    have hz9 := gd_inv h; clear h; obtain ⟨⟨rfl, h1⟩, h⟩ := hz9
    cases h
    first | exact ⟨fun _ _ => rfl, rfl⟩ | exact ng_up (by omega) | exact ng_cpy (by omega)
  | bipush z =>
    have hz9 := gd_inv h; clear h; obtain ⟨⟨rfl, h1⟩, h⟩ := hz9
    cases h
    first | exact ⟨fun _ _ => rfl, rfl⟩ | exact ng_up (by omega) | exact ng_cpy (by omega)
  | sipush z =>
    have hz9 := gd_inv h; clear h; obtain ⟨⟨rfl, h1⟩, h⟩ := hz9
    cases h
    first | exact ⟨fun _ _ => rfl, rfl⟩ | exact ng_up (by omega) | exact ng_cpy (by omega)
  | lconst z =>
    have hz9 := gd_inv h; clear h; obtain ⟨rfl, h⟩ := hz9
    cases h
    first | exact ⟨fun _ _ => rfl, rfl⟩ | exact ng_up (by omega) | exact ng_cpy (by omega)
  | ldc idx =>
    have hz9 := gd_inv h; clear h; obtain ⟨rfl, h⟩ := hz9
    split at h
    · rename_i z hz
      cases h
      first | exact ⟨fun _ _ => rfl, rfl⟩ | exact ng_up (by omega) | exact ng_cpy (by omega)
    · rename_i z hz
      cases h
      first | exact ⟨fun _ _ => rfl, rfl⟩ | exact ng_up (by omega) | exact ng_cpy (by omega)
    · cases h
  | ldc2_w idx =>
    have hz9 := gd_inv h; clear h; obtain ⟨rfl, h⟩ := hz9
    split at h
    · rename_i z hz
      cases h
      first | exact ⟨fun _ _ => rfl, rfl⟩ | exact ng_up (by omega) | exact ng_cpy (by omega)
    · cases h
  | istore_n k =>
    have hz9 := gd_inv h; clear h; obtain ⟨rfl, h⟩ := hz9
    have hz9 := stx_inv h; clear h; obtain ⟨r, v, rfl, h1, h2, h3, h4⟩ := hz9
    cases h4
    first | exact ⟨fun _ _ => rfl, rfl⟩ | exact ng_up (by omega) | exact ng_cpy (by omega)
  | astore_n k =>
    have hz9 := gd_inv h; clear h; obtain ⟨rfl, h⟩ := hz9
    have hz9 := stx_inv h; clear h; obtain ⟨r, v, rfl, h1, h2, h3, h4⟩ := hz9
    cases h4
    first | exact ⟨fun _ _ => rfl, rfl⟩ | exact ng_up (by omega) | exact ng_cpy (by omega)
  | istore k =>
    have hz9 := gd_inv h; clear h; obtain ⟨rfl, h⟩ := hz9
    have hz9 := stx_inv h; clear h; obtain ⟨r, v, rfl, h1, h2, h3, h4⟩ := hz9
    cases h4
    first | exact ⟨fun _ _ => rfl, rfl⟩ | exact ng_up (by omega) | exact ng_cpy (by omega)
  | astore k =>
    have hz9 := gd_inv h; clear h; obtain ⟨rfl, h⟩ := hz9
    have hz9 := stx_inv h; clear h; obtain ⟨r, v, rfl, h1, h2, h3, h4⟩ := hz9
    cases h4
    first | exact ⟨fun _ _ => rfl, rfl⟩ | exact ng_up (by omega) | exact ng_cpy (by omega)
  | iinc k z =>
    have hz9 := gd_inv h; clear h; obtain ⟨rfl, h⟩ := hz9
    split at h
    · rename_i x hl
      have hz9 := gd_inv h; clear h; obtain ⟨h1, h⟩ := hz9
      cases h
      first | exact ⟨fun _ _ => rfl, rfl⟩ | exact ng_up (by omega) | exact ng_cpy (by omega)
    · cases h
  | iadd =>
    have hz9 := gd_inv h; clear h; obtain ⟨rfl, h⟩ := hz9
    have hz9 := i2_inv h; clear h; obtain ⟨r, x, y, rfl, h⟩ := hz9
    cases h
    first | exact ⟨fun _ _ => rfl, rfl⟩ | exact ng_up (by omega) | exact ng_cpy (by omega)
  | isub =>
    have hz9 := gd_inv h; clear h; obtain ⟨rfl, h⟩ := hz9
    have hz9 := i2_inv h; clear h; obtain ⟨r, x, y, rfl, h⟩ := hz9
    cases h
    first | exact ⟨fun _ _ => rfl, rfl⟩ | exact ng_up (by omega) | exact ng_cpy (by omega)
  | imul =>
    have hz9 := gd_inv h; clear h; obtain ⟨rfl, h⟩ := hz9
    have hz9 := i2_inv h; clear h; obtain ⟨r, x, y, rfl, h⟩ := hz9
    cases h
    first | exact ⟨fun _ _ => rfl, rfl⟩ | exact ng_up (by omega) | exact ng_cpy (by omega)
  | idiv =>
    have hz9 := gd_inv h; clear h; obtain ⟨rfl, h⟩ := hz9
    have hz9 := i2_inv h; clear h; obtain ⟨r, x, y, rfl, h⟩ := hz9
    have hz9 := gd_inv h; clear h; obtain ⟨⟨h1, h2⟩, h⟩ := hz9
    cases h
    first | exact ⟨fun _ _ => rfl, rfl⟩ | exact ng_up (by omega) | exact ng_cpy (by omega)
  | irem =>
    have hz9 := gd_inv h; clear h; obtain ⟨rfl, h⟩ := hz9
    have hz9 := i2_inv h; clear h; obtain ⟨r, x, y, rfl, h⟩ := hz9
    have hz9 := gd_inv h; clear h; obtain ⟨⟨h1, h2⟩, h⟩ := hz9
    cases h
    first | exact ⟨fun _ _ => rfl, rfl⟩ | exact ng_up (by omega) | exact ng_cpy (by omega)
  | iand =>
    have hz9 := gd_inv h; clear h; obtain ⟨rfl, h⟩ := hz9
    have hz9 := i2_inv h; clear h; obtain ⟨r, x, y, rfl, h⟩ := hz9
    cases h
    first | exact ⟨fun _ _ => rfl, rfl⟩ | exact ng_up (by omega) | exact ng_cpy (by omega)
  | ior =>
    have hz9 := gd_inv h; clear h; obtain ⟨rfl, h⟩ := hz9
    have hz9 := i2_inv h; clear h; obtain ⟨r, x, y, rfl, h⟩ := hz9
    cases h
    first | exact ⟨fun _ _ => rfl, rfl⟩ | exact ng_up (by omega) | exact ng_cpy (by omega)
  | ixor =>
    have hz9 := gd_inv h; clear h; obtain ⟨rfl, h⟩ := hz9
    have hz9 := i2_inv h; clear h; obtain ⟨r, x, y, rfl, h⟩ := hz9
    cases h
    first | exact ⟨fun _ _ => rfl, rfl⟩ | exact ng_up (by omega) | exact ng_cpy (by omega)
  | ishl =>
    have hz9 := gd_inv h; clear h; obtain ⟨rfl, h⟩ := hz9
    have hz9 := i2_inv h; clear h; obtain ⟨r, x, y, rfl, h⟩ := hz9
    have hz9 := gd_inv h; clear h; obtain ⟨⟨h1, h2, h3, h4⟩, h⟩ := hz9
    cases h
    first | exact ⟨fun _ _ => rfl, rfl⟩ | exact ng_up (by omega) | exact ng_cpy (by omega)
  | ishr =>
    have hz9 := gd_inv h; clear h; obtain ⟨rfl, h⟩ := hz9
    have hz9 := i2_inv h; clear h; obtain ⟨r, x, y, rfl, h⟩ := hz9
    have hz9 := gd_inv h; clear h; obtain ⟨⟨h1, h2, h3⟩, h⟩ := hz9
    cases h
    first | exact ⟨fun _ _ => rfl, rfl⟩ | exact ng_up (by omega) | exact ng_cpy (by omega)
  | ineg =>
    have hz9 := gd_inv h; clear h; obtain ⟨rfl, h⟩ := hz9
    have hz9 := i1_inv h; clear h; obtain ⟨r, x, rfl, h⟩ := hz9
    cases h
    first | exact ⟨fun _ _ => rfl, rfl⟩ | exact ng_up (by omega) | exact ng_cpy (by omega)
  | i2b =>
    have hz9 := gd_inv h; clear h; obtain ⟨rfl, h⟩ := hz9
    have hz9 := i1_inv h; clear h; obtain ⟨r, x, rfl, h⟩ := hz9
    cases h
    first | exact ⟨fun _ _ => rfl, rfl⟩ | exact ng_up (by omega) | exact ng_cpy (by omega)
  | i2s =>
    have hz9 := gd_inv h; clear h; obtain ⟨rfl, h⟩ := hz9
    have hz9 := i1_inv h; clear h; obtain ⟨r, x, rfl, h⟩ := hz9
    cases h
    first | exact ⟨fun _ _ => rfl, rfl⟩ | exact ng_up (by omega) | exact ng_cpy (by omega)
  | i2c =>
    have hz9 := gd_inv h; clear h; obtain ⟨rfl, h⟩ := hz9
    have hz9 := i1_inv h; clear h; obtain ⟨r, x, rfl, h⟩ := hz9
    cases h
    first | exact ⟨fun _ _ => rfl, rfl⟩ | exact ng_up (by omega) | exact ng_cpy (by omega)
  | i2l =>
    have hz9 := gd_inv h; clear h; obtain ⟨rfl, h⟩ := hz9
    have hz9 := i1_inv h; clear h; obtain ⟨r, x, rfl, h⟩ := hz9
    cases h
    first | exact ⟨fun _ _ => rfl, rfl⟩ | exact ng_up (by omega) | exact ng_cpy (by omega)
  | l2i =>
    have hz9 := gd_inv h; clear h; obtain ⟨rfl, h⟩ := hz9
    have hz9 := l1_inv h; clear h; obtain ⟨r, x, rfl, h⟩ := hz9
    cases h
    first | exact ⟨fun _ _ => rfl, rfl⟩ | exact ng_up (by omega) | exact ng_cpy (by omega)
  | land =>
    have hz9 := gd_inv h; clear h; obtain ⟨rfl, h⟩ := hz9
    have hz9 := l2_inv h; clear h; obtain ⟨r, x, y, rfl, h⟩ := hz9
    cases h
    first | exact ⟨fun _ _ => rfl, rfl⟩ | exact ng_up (by omega) | exact ng_cpy (by omega)
  | lor =>
    have hz9 := gd_inv h; clear h; obtain ⟨rfl, h⟩ := hz9
    have hz9 := l2_inv h; clear h; obtain ⟨r, x, y, rfl, h⟩ := hz9
    cases h
    first | exact ⟨fun _ _ => rfl, rfl⟩ | exact ng_up (by omega) | exact ng_cpy (by omega)
  | lcmp =>
    have hz9 := gd_inv h; clear h; obtain ⟨rfl, h⟩ := hz9
    have hz9 := l2_inv h; clear h; obtain ⟨r, x, y, rfl, h⟩ := hz9
    cases h
    first | exact ⟨fun _ _ => rfl, rfl⟩ | exact ng_up (by omega) | exact ng_cpy (by omega)
  | lshl =>
    have hz9 := gd_inv h; clear h; obtain ⟨rfl, h⟩ := hz9
    split at h
    · cases h
      first | exact ⟨fun _ _ => rfl, rfl⟩ | exact ng_up (by omega) | exact ng_cpy (by omega)
    · cases h
  | dup =>
    have hz9 := gd_inv h; clear h; obtain ⟨rfl, h⟩ := hz9
    split at h
    · have hz9 := gd_inv h; clear h; obtain ⟨h1, h⟩ := hz9
      cases h
      first | exact ⟨fun _ _ => rfl, rfl⟩ | exact ng_up (by omega) | exact ng_cpy (by omega)
    · cases h
  | dup2 =>
    have hz9 := gd_inv h; clear h; obtain ⟨rfl, h⟩ := hz9
    split at h
    · have hz9 := gd_inv h; clear h; obtain ⟨⟨h1, h2⟩, h⟩ := hz9
      cases h
      first | exact ⟨fun _ _ => rfl, rfl⟩ | exact ng_up (by omega) | exact ng_cpy (by omega)
    · cases h
  | pop =>
    have hz9 := gd_inv h; clear h; obtain ⟨rfl, h⟩ := hz9
    split at h
    · have hz9 := gd_inv h; clear h; obtain ⟨h1, h⟩ := hz9
      cases h
      first | exact ⟨fun _ _ => rfl, rfl⟩ | exact ng_up (by omega) | exact ng_cpy (by omega)
    · cases h
  | ifCond cc off =>
    have hz9 := gd_inv h; clear h; obtain ⟨⟨rfl, h0⟩, h⟩ := hz9
    have hz9 := i1_inv h; clear h; obtain ⟨r, x, rfl, h⟩ := hz9
    by_cases hq : icc cc x 0 = true
    · rw [if_pos hq] at h
      cases h
      first | exact ⟨fun _ _ => rfl, rfl⟩ | exact ng_up (by omega) | exact ng_cpy (by omega)
    · rw [if_neg hq] at h
      cases h
      first | exact ⟨fun _ _ => rfl, rfl⟩ | exact ng_up (by omega) | exact ng_cpy (by omega)
  | if_icmp cc off =>
    have hz9 := gd_inv h; clear h; obtain ⟨⟨rfl, h0⟩, h⟩ := hz9
    have hz9 := i2_inv h; clear h; obtain ⟨r, x, y, rfl, h⟩ := hz9
    by_cases hq : icc cc x y = true
    · rw [if_pos hq] at h
      cases h
      first | exact ⟨fun _ _ => rfl, rfl⟩ | exact ng_up (by omega) | exact ng_cpy (by omega)
    · rw [if_neg hq] at h
      cases h
      first | exact ⟨fun _ _ => rfl, rfl⟩ | exact ng_up (by omega) | exact ng_cpy (by omega)
  | goto off =>
    have hz9 := gd_inv h; clear h; obtain ⟨rfl, h⟩ := hz9
    have hz9 := jmp_inv h; clear h; obtain ⟨h0, h⟩ := hz9
    cases h
    first | exact ⟨fun _ _ => rfl, rfl⟩ | exact ng_up (by omega) | exact ng_cpy (by omega)
  | tableswitch dflt lo hi offs =>
    have hz9 := i1_inv h; clear h; obtain ⟨r, x, rfl, h⟩ := hz9
    have hz9 := gd_inv h; clear h; obtain ⟨h1, h⟩ := hz9
    have key : ∀ (os : List Int) (lo : Int), tsw x (fun off => jmp pc off ls r σ) (jmp pc dflt ls r σ) lo os = some (.inl cf') → (∀ x : Int, x < 0 → cf'.2.2.2.1 x = σ.1 x) ∧ cf'.2.2.2.2.2.2 = σ.2.2.2 := by
      intro os
      induction os with
      | nil => intro lo h; obtain ⟨-, h⟩ := jmp_inv h; cases h; first | exact ⟨fun _ _ => rfl, rfl⟩ | exact ng_up (by omega) | exact ng_cpy (by omega)
      | cons o os ih =>
        intro lo h
        simp only [tsw] at h
        split at h
        · obtain ⟨-, h⟩ := jmp_inv h; cases h; first | exact ⟨fun _ _ => rfl, rfl⟩ | exact ng_up (by omega) | exact ng_cpy (by omega)
        · exact ih _ h
    exact key _ _ h
  | lookupswitch dflt ps =>
    have hz9 := i1_inv h; clear h; obtain ⟨r, x, rfl, h⟩ := hz9
    have hz9 := gd_inv h; clear h; obtain ⟨h1, h⟩ := hz9
    have key : ∀ (os : List (Int × Int)), lsw x (fun off => jmp pc off ls r σ) (jmp pc dflt ls r σ) os = some (.inl cf') → (∀ x : Int, x < 0 → cf'.2.2.2.1 x = σ.1 x) ∧ cf'.2.2.2.2.2.2 = σ.2.2.2 := by
      intro os
      induction os with
      | nil => intro h; obtain ⟨-, h⟩ := jmp_inv h; cases h; first | exact ⟨fun _ _ => rfl, rfl⟩ | exact ng_up (by omega) | exact ng_cpy (by omega)
      | cons o os ih =>
        intro h
        simp only [lsw] at h
        split at h
        · obtain ⟨-, h⟩ := jmp_inv h; cases h; first | exact ⟨fun _ _ => rfl, rfl⟩ | exact ng_up (by omega) | exact ng_cpy (by omega)
        · exact ih h
    exact key _ h
  | getfield idx =>
    have hz9 := gd_inv h; clear h; obtain ⟨rfl, h⟩ := hz9
    have hz9 := r1_inv h; clear h; obtain ⟨r, o, rfl, h⟩ := hz9
    split at h
    · rename_i ci k hf
      have hz9 := gd_inv h; clear h; obtain ⟨h1, h⟩ := hz9
      cases h
      first | exact ⟨fun _ _ => rfl, rfl⟩ | exact ng_up (by omega) | exact ng_cpy (by omega)
    · split at h
      · rename_i hk
        have hz9 := gd_inv h; clear h; obtain ⟨h1, h⟩ := hz9
        cases h
        first | exact ⟨fun _ _ => rfl, rfl⟩ | exact ng_up (by omega) | exact ng_cpy (by omega)
      · rename_i hk
        have hz9 := gd_inv h; clear h; obtain ⟨h1, h⟩ := hz9
        cases h
        first | exact ⟨fun _ _ => rfl, rfl⟩ | exact ng_up (by omega) | exact ng_cpy (by omega)
      · cases h
  | putfield idx =>
    have hz9 := gd_inv h; clear h; obtain ⟨rfl, h⟩ := hz9
    have hz9 := vr_inv h; clear h; obtain ⟨r, v, o, rfl, h⟩ := hz9
    split at h
    · rename_i ci k hf
      have hz9 := gd_inv h; clear h; obtain ⟨⟨h1, h2, h3⟩, h⟩ := hz9
      unfold putv at h
      split at h
      · rename_i ht
        split at h
        · cases h
          first | exact ⟨fun _ _ => rfl, rfl⟩ | exact ng_up (by omega) | exact ng_cpy (by omega)
        · cases h
      · rename_i ht
        split at h
        · have hz9 := gd_inv h; clear h; obtain ⟨h4, h⟩ := hz9
          cases h
          first | exact ⟨fun _ _ => rfl, rfl⟩ | exact ng_up (by omega) | exact ng_cpy (by omega)
        · cases h
      · rename_i ht
        split at h
        · have hz9 := gd_inv h; clear h; obtain ⟨⟨-, h4⟩, h⟩ := hz9
          cases h
          first | exact ⟨fun _ _ => rfl, rfl⟩ | exact ng_up (by omega) | exact ng_cpy (by omega)
        · cases h
      · cases h
    · cases h
  | getstatic idx =>
    have hz9 := gd_inv h; clear h; obtain ⟨rfl, h⟩ := hz9
    split at h
    · rename_i hk
      cases h
      first | exact ⟨fun _ _ => rfl, rfl⟩ | exact ng_up (by omega) | exact ng_cpy (by omega)
    · rename_i hk
      cases h
      first | exact ⟨fun _ _ => rfl, rfl⟩ | exact ng_up (by omega) | exact ng_cpy (by omega)
    · rename_i hk
      cases h
      first | exact ⟨fun _ _ => rfl, rfl⟩ | exact ng_up (by omega) | exact ng_cpy (by omega)
    · cases h
  | iaload =>
    have hz9 := gd_inv h; clear h; obtain ⟨rfl, h⟩ := hz9
    have hz9 := ir_inv h; clear h; obtain ⟨r, a, i, rfl, h⟩ := hz9
    have hz9 := gd_inv h; clear h; obtain ⟨⟨h1, h2, h3⟩, h⟩ := hz9
    cases h
    first | exact ⟨fun _ _ => rfl, rfl⟩ | exact ng_up (by omega) | exact ng_cpy (by omega)
  | baload =>
    have hz9 := gd_inv h; clear h; obtain ⟨rfl, h⟩ := hz9
    have hz9 := ir_inv h; clear h; obtain ⟨r, a, i, rfl, h⟩ := hz9
    have hz9 := gd_inv h; clear h; obtain ⟨⟨h1, h2, h3⟩, h⟩ := hz9
    cases h
    first | exact ⟨fun _ _ => rfl, rfl⟩ | exact ng_up (by omega) | exact ng_cpy (by omega)
  | laload =>
    have hz9 := gd_inv h; clear h; obtain ⟨rfl, h⟩ := hz9
    have hz9 := ir_inv h; clear h; obtain ⟨r, a, i, rfl, h⟩ := hz9
    have hz9 := gd_inv h; clear h; obtain ⟨⟨h1, h2, h3⟩, h⟩ := hz9
    cases h
    first | exact ⟨fun _ _ => rfl, rfl⟩ | exact ng_up (by omega) | exact ng_cpy (by omega)
  | aaload =>
    have hz9 := gd_inv h; clear h; obtain ⟨rfl, h⟩ := hz9
    have hz9 := ir_inv h; clear h; obtain ⟨r, a, i, rfl, h⟩ := hz9
    have hz9 := gd_inv h; clear h; obtain ⟨⟨h1, h2, h3⟩, h⟩ := hz9
    cases h
    first | exact ⟨fun _ _ => rfl, rfl⟩ | exact ng_up (by omega) | exact ng_cpy (by omega)
  | iastore =>
    have hz9 := gd_inv h; clear h; obtain ⟨rfl, h⟩ := hz9
    have hz9 := vir_inv h; clear h; obtain ⟨r, v, a, i, rfl, h⟩ := hz9
    split at h
    · have hz9 := gd_inv h; clear h; obtain ⟨⟨h1, h2, h3, h4⟩, h⟩ := hz9
      cases h
      first | exact ⟨fun _ _ => rfl, rfl⟩ | exact ng_up (by omega) | exact ng_cpy (by omega)
    · cases h
  | bastore =>
    have hz9 := gd_inv h; clear h; obtain ⟨rfl, h⟩ := hz9
    have hz9 := vir_inv h; clear h; obtain ⟨r, v, a, i, rfl, h⟩ := hz9
    split at h
    · have hz9 := gd_inv h; clear h; obtain ⟨⟨h1, h2, h3, h4⟩, h⟩ := hz9
      cases h
      first | exact ⟨fun _ _ => rfl, rfl⟩ | exact ng_up (by omega) | exact ng_cpy (by omega)
    · cases h
  | lastore =>
    have hz9 := gd_inv h; clear h; obtain ⟨rfl, h⟩ := hz9
    have hz9 := vir_inv h; clear h; obtain ⟨r, v, a, i, rfl, h⟩ := hz9
    split at h
    · have hz9 := gd_inv h; clear h; obtain ⟨⟨h1, h2, h3, h4⟩, h⟩ := hz9
      cases h
      first | exact ⟨fun _ _ => rfl, rfl⟩ | exact ng_up (by omega) | exact ng_cpy (by omega)
    · cases h
  | aastore =>
    have hz9 := gd_inv h; clear h; obtain ⟨rfl, h⟩ := hz9
    have hz9 := vir_inv h; clear h; obtain ⟨r, v, a, i, rfl, h⟩ := hz9
    split at h
    · have hz9 := gd_inv h; clear h; obtain ⟨⟨h1, h2, h3, h4, h5, h6, h7, h8⟩, h⟩ := hz9
      cases h
      first | exact ⟨fun _ _ => rfl, rfl⟩ | exact ng_up (by omega) | exact ng_cpy (by omega)
    · cases h
  | arraylength =>
    have hz9 := gd_inv h; clear h; obtain ⟨rfl, h⟩ := hz9
    have hz9 := r1_inv h; clear h; obtain ⟨r, a, rfl, h⟩ := hz9
    have hz9 := gd_inv h; clear h; obtain ⟨⟨h1, h2⟩, h⟩ := hz9
    cases h
    first | exact ⟨fun _ _ => rfl, rfl⟩ | exact ng_up (by omega) | exact ng_cpy (by omega)
  | newarray ty =>
    have hz9 := gd_inv h; clear h; obtain ⟨rfl, h⟩ := hz9
    have hz9 := i1_inv h; clear h; obtain ⟨r, n, rfl, h⟩ := hz9
    have hz9 := gd_inv h; clear h; obtain ⟨⟨h1, h2, h3⟩, h⟩ := hz9
    obtain ⟨σ9, e1, e2, e3, e4, e5⟩ := alc_inv h
    cases e1
    first | exact ng_alc e2 e5 (fun m id => ng_clr m id) | exact ng_alc e2 e5 (fun m id => ng_clN m id) | exact ng_alc (cl := fun m id => clO m id ci) e2 e5 (fun m id => ng_clO m id ci)
  | anewarray idx =>
    have hz9 := gd_inv h; clear h; obtain ⟨rfl, h⟩ := hz9
    have hz9 := i1_inv h; clear h; obtain ⟨r, n, rfl, h⟩ := hz9
    split at h
    · rename_i t hn
      have hz9 := gd_inv h; clear h; obtain ⟨⟨h1, h2, h3, h4, -⟩, h⟩ := hz9
      obtain ⟨σ9, e1, e2, e3, e4, e5⟩ := alc_inv h
      cases e1
      first | exact ng_alc e2 e5 (fun m id => ng_clr m id) | exact ng_alc e2 e5 (fun m id => ng_clN m id) | exact ng_alc (cl := fun m id => clO m id ci) e2 e5 (fun m id => ng_clO m id ci)
    · cases h
  | new idx =>
    have hz9 := gd_inv h; clear h; obtain ⟨rfl, h⟩ := hz9
    split at h
    · rename_i ci hn
      have hz9 := gd_inv h; clear h; obtain ⟨h1, h⟩ := hz9
      obtain ⟨σ9, e1, e2, e3, e4, e5⟩ := alc_inv h
      cases e1
      first | exact ng_alc e2 e5 (fun m id => ng_clr m id) | exact ng_alc e2 e5 (fun m id => ng_clN m id) | exact ng_alc (cl := fun m id => clO m id ci) e2 e5 (fun m id => ng_clO m id ci)
    · cases h
  | invokevirtual idx =>
    cases hn
  | invokespecial idx =>
    cases hn
  | invokestatic idx =>
    cases hn
  | ireturn =>
    cases hn
  | lreturn =>
    cases hn
  | areturn =>
    cases hn
  | return_ =>
    cases hn
  | _ => exact absurd h (by simp [stepI])
theorem stepI_ng {μ : Nat} {pc : Nat} {ls : PL} {st : List PV} {σ : PS} {i : ClassFile.Instr} {len : Nat} {cf' : Cf} (h : stepI μ i len pc ls st σ = some (.inl cf')) : (∀ x : Int, x < 0 → cf'.2.2.2.1 x = σ.1 x) ∧ cf'.2.2.2.2.2.2 = σ.2.2.2 := by
  by_cases ho : isOut i = false
  · exact stepI_ng1 ho h
  · cases i with
    | invokespecial idx =>
      have hz9 := gd_inv h; clear h; obtain ⟨h3, h⟩ := hz9
      split at h
      · have hz9 := r1_inv h; clear h; obtain ⟨r, o, -, h⟩ := hz9
        have hz9 := gd_inv h; clear h; obtain ⟨hgd, h⟩ := hz9
        cases h
        first | exact ⟨fun _ _ => rfl, rfl⟩ | exact ng_up (by omega) | exact ng_cpy (by omega)
      · split at h
        · have hz9 := gd_inv h; clear h; obtain ⟨h1, h⟩ := hz9
          rcases h1 with rfl | rfl
          · simp only [cal] at h
            split at h
            · have hz9 := gd_inv h; clear h; obtain ⟨hgd, h⟩ := hz9
              cases h
            · cases h
          · simp only [cal] at h
            split at h
            · have hz9 := gd_inv h; clear h; obtain ⟨hgd, h⟩ := hz9
              cases h
            · cases h
        · cases h
    | invokestatic idx =>
      have hz9 := gd_inv h; clear h; obtain ⟨h3, h⟩ := hz9
      split at h
      · unfold acp at h
        split at h
        · have hz9 := gd_inv h; clear h; obtain ⟨hgd, h⟩ := hz9
          cases h
          first | exact ⟨fun _ _ => rfl, rfl⟩ | exact ng_up (by omega) | exact ng_cpy (by omega)
        · cases h
      · split at h
        · have hz9 := i2_inv h; clear h; obtain ⟨r, x, y, -, h⟩ := hz9
          have hz9 := gd_inv h; clear h; obtain ⟨hgd, h⟩ := hz9
          cases h
          first | exact ⟨fun _ _ => rfl, rfl⟩ | exact ng_up (by omega) | exact ng_cpy (by omega)
        · split at h
          · have hz9 := i2_inv h; clear h; obtain ⟨r, x, y, -, h⟩ := hz9
            have hz9 := gd_inv h; clear h; obtain ⟨hgd, h⟩ := hz9
            cases h
            first | exact ⟨fun _ _ => rfl, rfl⟩ | exact ng_up (by omega) | exact ng_cpy (by omega)
          · split at h
            · have hz9 := gd_inv h; clear h; obtain ⟨h1, h⟩ := hz9
              simp only [cal] at h
              split at h
              · have hz9 := gd_inv h; clear h; obtain ⟨hgd, h⟩ := hz9
                cases h
              · cases h
            · cases h
    | invokevirtual idx =>
      have hz9 := gd_inv h; clear h; obtain ⟨h3, h⟩ := hz9
      split at h
      · have hz9 := gd_inv h; clear h; obtain ⟨h1, h⟩ := hz9
        simp only [cal] at h
        split at h
        · have hz9 := gd_inv h; clear h; obtain ⟨hgd, h⟩ := hz9
          cases h
        · cases h
      · cases h
    | ireturn =>
      have hz9 := gd_inv h; clear h; obtain ⟨h3, h⟩ := hz9
      split at h
      · have hz9 := gd_inv h; clear h; obtain ⟨h2, h⟩ := hz9
        cases h
      · cases h
    | lreturn =>
      have hz9 := gd_inv h; clear h; obtain ⟨h3, h⟩ := hz9
      split at h
      · have hz9 := gd_inv h; clear h; obtain ⟨h2, h⟩ := hz9
        cases h
      · cases h
    | areturn =>
      have hz9 := gd_inv h; clear h; obtain ⟨h3, h⟩ := hz9
      split at h
      · have hz9 := gd_inv h; clear h; obtain ⟨h2, h⟩ := hz9
        cases h
      · cases h
    | return_ =>
      have hz9 := gd_inv h; clear h; obtain ⟨h3, h⟩ := hz9
      split at h
      · have hz9 := gd_inv h; clear h; obtain ⟨h2, h⟩ := hz9
        cases h
      · cases h
    | _ => exact absurd rfl ho
theorem run_ng {μ : Nat} {cl : Nat → List PV → PS → Option (Option PV × PS)} (hcl : ∀ μ' a σ r σ', cl μ' a σ = some (r, σ') → (∀ x : Int, x < 0 → σ'.1 x = σ.1 x) ∧ σ'.2.2.2 = σ.2.2.2) : ∀ (n : Nat) (cf : Cf) (rf : Option PV) (σf : PS), run cl μ n cf = some (rf, σf) → (∀ x : Int, x < 0 → σf.1 x = cf.2.2.2.1 x) ∧ σf.2.2.2 = cf.2.2.2.2.2.2 := by
  intro n
  induction n with
  | zero => intro cf rf σf h; simp [run] at h
  | succ n ih =>
    intro cf rf σf h
    simp only [run] at h
    split at h
    · cases h
    · rename_i cf' hs
      obtain ⟨i, len, hd, hi⟩ := step_inv hs
      have h2 := ih cf' rf σf h
      have h1 := stepI_ng hi
      exact ⟨fun x hx => (h2.1 x hx).trans (h1.1 x hx), h2.2.trans h1.2⟩
    · cases h
      exact ⟨fun _ _ => rfl, rfl⟩
    · rename_i q hs
      obtain ⟨i, len, hd, hi⟩ := step_inv hs
      obtain ⟨idx, kd, μ', na, cls, ml, -, hi2, -, hc⟩ := stepI_call hi
      obtain ⟨c1, c2, -, -, c5⟩ := cal_inv hc
      split at h
      · rename_i w hw
        obtain ⟨r1, σ1⟩ := w
        have h2 := ih _ rf σf h
        have h1 := hcl _ _ _ r1 σ1 hw
        rw [c5] at h1
        exact ⟨fun x hx => (h2.1 x hx).trans (h1.1 x hx), h2.2.trans h1.2⟩
      · cases h
theorem exM_ng (N : Nat) : ∀ (d μ : Nat) (a : List PV) (σ : PS) (r : Option PV) (σ' : PS), exM N d μ a σ = some (r, σ') → (∀ x : Int, x < 0 → σ'.1 x = σ.1 x) ∧ σ'.2.2.2 = σ.2.2.2 := by
  intro d
  induction d with
  | zero => intro μ a σ r σ' h; simp [exM] at h
  | succ d ih =>
    intro μ a σ r σ' h
    exact run_ng ih N _ r σ' h
theorem C_ng {d μ : Nat} {a : List PV} {σ : PS} {Q : Option PV → PS → Prop} (h : C d μ a σ Q) : C d μ a σ (fun r σ' => Q r σ' ∧ ∀ x : Int, x < 0 → σ'.1 x = σ.1 x) := by
  obtain ⟨N, r, σ', e, q⟩ := h
  exact ⟨N, r, σ', e, q, (exM_ng N d μ a σ r σ' e).1⟩
