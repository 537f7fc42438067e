/-! EVERY STEP, whole frames, whole methods. -/
theorem i1_inv {st : List PV} {g : List PV → Int → Option PO} {y : PO} (h : i1 st g = some y) : ∃ r x, st = .inl x :: r ∧ g r x = some y := by
  unfold i1 at h
  split at h
  · exact ⟨_, _, rfl, h⟩
  · cases h
theorem i2_inv {st : List PV} {g : List PV → Int → Int → Option PO} {y : PO} (h : i2 st g = some y) : ∃ r x z, st = .inl z :: .inl x :: r ∧ g r x z = some y := by
  unfold i2 at h
  split at h
  · exact ⟨_, _, _, rfl, h⟩
  · cases h
theorem l1_inv {st : List PV} {g : List PV → Int → Option PO} {y : PO} (h : l1 st g = some y) : ∃ r x, st = .inr (.inl x) :: r ∧ g r x = some y := by
  unfold l1 at h
  split at h
  · exact ⟨_, _, rfl, h⟩
  · cases h
theorem l2_inv {st : List PV} {g : List PV → Int → Int → Option PO} {y : PO} (h : l2 st g = some y) : ∃ r x z, st = .inr (.inl z) :: .inr (.inl x) :: r ∧ g r x z = some y := by
  unfold l2 at h
  split at h
  · exact ⟨_, _, _, rfl, h⟩
  · cases h
theorem r1_inv {st : List PV} {g : List PV → Int → Option PO} {y : PO} (h : r1 st g = some y) : ∃ r x, st = .inr (.inr x) :: r ∧ g r x = some y := by
  unfold r1 at h
  split at h
  · exact ⟨_, _, rfl, h⟩
  · cases h
theorem vr_inv {st : List PV} {g : List PV → PV → Int → Option PO} {y : PO} (h : vr st g = some y) : ∃ r v o, st = v :: .inr (.inr o) :: r ∧ g r v o = some y := by
  unfold vr at h
  split at h
  · exact ⟨_, _, _, rfl, h⟩
  · cases h
theorem ir_inv {st : List PV} {g : List PV → Int → Int → Option PO} {y : PO} (h : ir st g = some y) : ∃ r a i, st = .inl i :: .inr (.inr a) :: r ∧ g r a i = some y := by
  unfold ir at h
  split at h
  · exact ⟨_, _, _, rfl, h⟩
  · cases h
theorem vir_inv {st : List PV} {g : List PV → PV → Int → Int → Option PO} {y : PO} (h : vir st g = some y) : ∃ r v a i, st = v :: .inl i :: .inr (.inr a) :: r ∧ g r v a i = some y := by
  unfold vir at h
  split at h
  · exact ⟨_, _, _, _, rfl, h⟩
  · cases h
theorem ldx_inv {t : Nat} {o : Option (Option PV)} {f : PV → Option PO} {y : PO} (h : ldx t o f = some y) : ∃ v, o = some (some v) ∧ ptag v = t ∧ f v = some y := by
  unfold ldx at h
  split at h
  · obtain ⟨h1, h2⟩ := gd_inv h
    exact ⟨_, rfl, h1, h2⟩
  · cases h
theorem stx_inv {t k len pc : Nat} {ls : PL} {st : List PV} {σ : PS} {y : PO} (h : stx t k len pc ls st σ = some y) : ∃ r v, st = v :: r ∧ ptag v = t ∧ k < ls.length ∧ pok ls k = true ∧ y = .inl (pc + len, (ls.set k (some v), (r, σ))) := by
  unfold stx at h
  split at h
  · obtain ⟨⟨h1, h2, h3⟩, h4⟩ := gd_inv h
    cases h4
    exact ⟨_, _, rfl, h1, h2, h3, rfl⟩
  · cases h
section SNS
variable {p : Program} {l : Launch} {e : Env} {R : Room} {s : State} {m : MethodId} {args : Array Value} {below : List Frame} {meth : Method} {c : Code} {Q : State → Prop} {μ : Nat} {A : Nat → Prop} {cA : Nat → ClassId} {D : va_G} {ad0 ad : Int → Option Nat} {σ0 σ σ' : PS} {pc : Nat} {ls : PL} {st r : List PV} {H H1 : Heap} {locs locs1 : List Loc} {cells slots : Nat} {lsA : Array Slot}
/-- what a step to another place says -/
def SG (p : Program) (l : Launch) (e : Env) (R : Room) (s : State) (m : MethodId) (args : Array Value) (below : List Frame) (meth : Method) (c : Code) (Q : State → Prop) (μ : Nat) (A : Nat → Prop) (cA : Nat → ClassId) (D : va_G) (ad0 : Int → Option Nat) (σ0 : PS) (cf cf' : Cf) : Prop :=
  tot cf.2.2.2 ≤ tot cf'.2.2.2 ∧ siz cf.2.2.2 ≤ siz cf'.2.2.2 ∧ (tot cf'.2.2.2 ≤ tot σ0 + R.cells → siz cf'.2.2.2 ≤ siz σ0 + R.slots → GO p l e R s m args below meth c Q μ A cA D ad0 σ0 cf' → GO p l e R s m args below meth c Q μ A cA D ad0 σ0 cf)
theorem SG_1 {cf cf' : Cf} (h : cf'.2.2.2.2 = cf.2.2.2.2) (k : GO p l e R s m args below meth c Q μ A cA D ad0 σ0 cf' → GO p l e R s m args below meth c Q μ A cA D ad0 σ0 cf) : SG p l e R s m args below meth c Q μ A cA D ad0 σ0 cf cf' := by
  refine ⟨?_, ?_, fun _ _ => k⟩
  · exact Nat.le_of_eq (by unfold tot; rw [h])
  · exact Nat.le_of_eq (by unfold siz; rw [h])
theorem jmp_inv {off : Int} {y : PO} (h : jmp pc off ls st σ = some y) : 0 ≤ (pc : Int) + off ∧ y = .inl (((pc : Int) + off).toNat, (ls, (st, σ))) := by
  obtain ⟨h1, h2⟩ := gd_inv h
  cases h2
  exact ⟨h1, rfl⟩
theorem stepI_GO {i : ClassFile.Instr} {len : Nat} {cf' : Cf} (fx : Fx p s m args meth c μ A cA D ad0 σ0) (hR : 1 ≤ R.frames ∧ 40 ≤ R.locals) (hd : ClassFile.decode (mB μ) pc = .ok (i, len)) (h : stepI μ i len pc ls st σ = some (.inl cf')) : SG p l e R s m args below meth c Q μ A cA D ad0 σ0 (pc, (ls, (st, σ))) cf' := by
  cases i with
  | aload_n k =>
    have hz9 := gd_inv h; clear h; obtain ⟨rfl, h⟩ := hz9
    have hz9 := ldx_inv h; clear h; obtain ⟨v, h1, h2, h3⟩ := hz9
    cases h3
    exact SG_1 rfl (S_load (len := 1) (t := 2) (i := .aload_n k) fx (Or.inl ⟨rfl, k, rfl, Or.inr (Or.inr ⟨rfl, hd⟩)⟩) h1 h2)
  | iload_n k =>
    have hz9 := gd_inv h; clear h; obtain ⟨rfl, h⟩ := hz9
    have hz9 := ldx_inv h; clear h; obtain ⟨v, h1, h2, h3⟩ := hz9
    cases h3
    exact SG_1 rfl (S_load (len := 1) (t := 0) (i := .aload_n k) fx (Or.inl ⟨rfl, k, rfl, Or.inl ⟨rfl, hd⟩⟩) h1 h2)
  | lload_n k =>
    have hz9 := gd_inv h; clear h; obtain ⟨rfl, h⟩ := hz9
    have hz9 := ldx_inv h; clear h; obtain ⟨v, h1, h2, h3⟩ := hz9
    cases h3
    exact SG_1 rfl (S_load (len := 1) (t := 1) (i := .aload_n k) fx (Or.inl ⟨rfl, k, rfl, Or.inr (Or.inl ⟨rfl, hd⟩)⟩) h1 h2)
  | aload k =>
    have hz9 := gd_inv h; clear h; obtain ⟨rfl, h⟩ := hz9
    have hz9 := ldx_inv h; clear h; obtain ⟨v, h1, h2, h3⟩ := hz9
    cases h3
    exact SG_1 rfl (S_load (len := 2) (t := 2) (i := .aload k) fx (Or.inr ⟨rfl, Or.inr ⟨rfl, hd⟩⟩) h1 h2)
  | iload k =>
    have hz9 := gd_inv h; clear h; obtain ⟨rfl, h⟩ := hz9
    have hz9 := ldx_inv h; clear h; obtain ⟨v, h1, h2, h3⟩ := hz9
    cases h3
    exact SG_1 rfl (S_load (len := 2) (t := 0) (i := .aload k) fx (Or.inr ⟨rfl, Or.inl ⟨rfl, hd⟩⟩) h1 h2)
  | iconst z =>
    have hz9 := gd_inv h; clear h; obtain ⟨⟨rfl, h1⟩, h⟩ := hz9
    cases h
    exact SG_1 rfl (S_int (len := 1) fx (Or.inl ⟨rfl, h1, hd⟩))
  | bipush z =>
    have hz9 := gd_inv h; clear h; obtain ⟨⟨rfl, h1⟩, h⟩ := hz9
    cases h
    exact SG_1 rfl (S_int (len := 2) fx (Or.inr (Or.inl ⟨rfl, h1, hd⟩)))
  | sipush z =>
    have hz9 := gd_inv h; clear h; obtain ⟨⟨rfl, h1⟩, h⟩ := hz9
    cases h
    exact SG_1 rfl (S_int (len := 3) fx (Or.inr (Or.inr ⟨rfl, h1, hd⟩)))
  | lconst z =>
    have hz9 := gd_inv h; clear h; obtain ⟨rfl, h⟩ := hz9
    cases h
    exact SG_1 rfl (S_lconst fx hd)
  | ldc idx =>
    have hz9 := gd_inv h; clear h; obtain ⟨rfl, h⟩ := hz9
    split at h
    · rename_i z hz
      cases h
      exact SG_1 rfl (S_ldc fx hd hz)
    · rename_i z hz
      cases h
      exact SG_1 rfl (S_ldcS fx hd hz)
    · cases h
  | ldc2_w idx =>
    have hz9 := gd_inv h; clear h; obtain ⟨rfl, h⟩ := hz9
    split at h
    · rename_i z hz
      cases h
      exact SG_1 rfl (S_ldc2 fx hd hz)
    · cases h
  | istore_n k =>
    have hz9 := gd_inv h; clear h; obtain ⟨rfl, h⟩ := hz9
    have hz9 := stx_inv h; clear h; obtain ⟨r, v, rfl, h1, h2, h3, h4⟩ := hz9
    cases h4
    exact SG_1 rfl (S_store (len := 1) (t := 0) fx (Or.inl ⟨rfl, k, rfl, Or.inl ⟨rfl, hd⟩⟩) h1 h2 h3)
  | astore_n k =>
    have hz9 := gd_inv h; clear h; obtain ⟨rfl, h⟩ := hz9
    have hz9 := stx_inv h; clear h; obtain ⟨r, v, rfl, h1, h2, h3, h4⟩ := hz9
    cases h4
    exact SG_1 rfl (S_store (len := 1) (t := 2) fx (Or.inl ⟨rfl, k, rfl, Or.inr ⟨rfl, hd⟩⟩) h1 h2 h3)
  | istore k =>
    have hz9 := gd_inv h; clear h; obtain ⟨rfl, h⟩ := hz9
    have hz9 := stx_inv h; clear h; obtain ⟨r, v, rfl, h1, h2, h3, h4⟩ := hz9
    cases h4
    exact SG_1 rfl (S_store (len := 2) (t := 0) fx (Or.inr ⟨rfl, Or.inl ⟨rfl, hd⟩⟩) h1 h2 h3)
  | astore k =>
    have hz9 := gd_inv h; clear h; obtain ⟨rfl, h⟩ := hz9
    have hz9 := stx_inv h; clear h; obtain ⟨r, v, rfl, h1, h2, h3, h4⟩ := hz9
    cases h4
    exact SG_1 rfl (S_store (len := 2) (t := 2) fx (Or.inr ⟨rfl, Or.inr ⟨rfl, hd⟩⟩) h1 h2 h3)
  | iinc k z =>
    have hz9 := gd_inv h; clear h; obtain ⟨rfl, h⟩ := hz9
    split at h
    · rename_i x hl
      have hz9 := gd_inv h; clear h; obtain ⟨h1, h⟩ := hz9
      cases h
      exact SG_1 rfl (S_iinc fx hd hl h1)
    · cases h
  | iadd =>
    have hz9 := gd_inv h; clear h; obtain ⟨rfl, h⟩ := hz9
    have hz9 := i2_inv h; clear h; obtain ⟨r, x, y, rfl, h⟩ := hz9
    cases h
    exact SG_1 rfl (S_2 fx hd (fun _ _ => ⟨wr32_in _, Or.inl ⟨rfl, rfl⟩⟩))
  | isub =>
    have hz9 := gd_inv h; clear h; obtain ⟨rfl, h⟩ := hz9
    have hz9 := i2_inv h; clear h; obtain ⟨r, x, y, rfl, h⟩ := hz9
    cases h
    exact SG_1 rfl (S_2 fx hd (fun _ _ => ⟨wr32_in _, Or.inr (Or.inl ⟨rfl, rfl⟩)⟩))
  | imul =>
    have hz9 := gd_inv h; clear h; obtain ⟨rfl, h⟩ := hz9
    have hz9 := i2_inv h; clear h; obtain ⟨r, x, y, rfl, h⟩ := hz9
    cases h
    exact SG_1 rfl (S_2 fx hd (fun _ _ => ⟨wr32_in _, Or.inr (Or.inr (Or.inl ⟨rfl, rfl⟩))⟩))
  | idiv =>
    have hz9 := gd_inv h; clear h; obtain ⟨rfl, h⟩ := hz9
    have hz9 := i2_inv h; clear h; obtain ⟨r, x, y, rfl, h⟩ := hz9
    have hz9 := gd_inv h; clear h; obtain ⟨⟨h1, h2⟩, h⟩ := hz9
    cases h
    refine SG_1 rfl (S_2 fx hd (fun hx _ => ⟨⟨?_, ?_⟩, Or.inr (Or.inr (Or.inr (Or.inl ⟨rfl, h1, h2, rfl⟩)))⟩))
    · have := Int.ediv_nonneg h1 (Int.le_of_lt h2); omega
    · have h3 := Int.ediv_le_self y h1; have := hx.2; omega
  | irem =>
    have hz9 := gd_inv h; clear h; obtain ⟨rfl, h⟩ := hz9
    have hz9 := i2_inv h; clear h; obtain ⟨r, x, y, rfl, h⟩ := hz9
    have hz9 := gd_inv h; clear h; obtain ⟨⟨h1, h2⟩, h⟩ := hz9
    cases h
    refine SG_1 rfl (S_2 fx hd (fun _ hy => ⟨⟨?_, ?_⟩, Or.inr (Or.inr (Or.inr (Or.inr (Or.inl ⟨rfl, h1, h2, rfl⟩))))⟩))
    · have := Int.emod_nonneg x (show y ≠ 0 by omega); omega
    · have := Int.emod_lt_of_pos x h2; have := hy.2; omega
  | iand =>
    have hz9 := gd_inv h; clear h; obtain ⟨rfl, h⟩ := hz9
    have hz9 := i2_inv h; clear h; obtain ⟨r, x, y, rfl, h⟩ := hz9
    cases h
    exact SG_1 rfl (S_2 fx hd (fun _ _ => ⟨t32_in _, Or.inr (Or.inr (Or.inr (Or.inr (Or.inr (Or.inl ⟨rfl, rfl⟩)))))⟩))
  | ior =>
    have hz9 := gd_inv h; clear h; obtain ⟨rfl, h⟩ := hz9
    have hz9 := i2_inv h; clear h; obtain ⟨r, x, y, rfl, h⟩ := hz9
    cases h
    exact SG_1 rfl (S_2 fx hd (fun _ _ => ⟨t32_in _, Or.inr (Or.inr (Or.inr (Or.inr (Or.inr (Or.inr (Or.inl ⟨rfl, rfl⟩))))))⟩))
  | ixor =>
    have hz9 := gd_inv h; clear h; obtain ⟨rfl, h⟩ := hz9
    have hz9 := i2_inv h; clear h; obtain ⟨r, x, y, rfl, h⟩ := hz9
    cases h
    exact SG_1 rfl (S_2 fx hd (fun _ _ => ⟨t32_in _, Or.inr (Or.inr (Or.inr (Or.inr (Or.inr (Or.inr (Or.inr (Or.inl ⟨rfl, rfl⟩)))))))⟩))
  | ishl =>
    have hz9 := gd_inv h; clear h; obtain ⟨rfl, h⟩ := hz9
    have hz9 := i2_inv h; clear h; obtain ⟨r, x, y, rfl, h⟩ := hz9
    have hz9 := gd_inv h; clear h; obtain ⟨⟨h1, h2, h3, h4⟩, h⟩ := hz9
    cases h
    refine SG_1 rfl (S_2 fx hd (fun _ _ => ⟨⟨?_, h4⟩, Or.inr (Or.inr (Or.inr (Or.inr (Or.inr (Or.inr (Or.inr (Or.inr (Or.inl ⟨rfl, h1, h2, h3, h4, rfl⟩))))))))⟩))
    have : 0 ≤ x * 2 ^ y.toNat := Int.mul_nonneg h1 (Int.pow_nonneg (by omega))
    omega
  | ishr =>
    have hz9 := gd_inv h; clear h; obtain ⟨rfl, h⟩ := hz9
    have hz9 := i2_inv h; clear h; obtain ⟨r, x, y, rfl, h⟩ := hz9
    have hz9 := gd_inv h; clear h; obtain ⟨⟨h1, h2, h3⟩, h⟩ := hz9
    cases h
    refine SG_1 rfl (S_2 fx hd (fun hx _ => ⟨⟨?_, ?_⟩, Or.inr (Or.inr (Or.inr (Or.inr (Or.inr (Or.inr (Or.inr (Or.inr (Or.inr ⟨rfl, h1, h2, h3, rfl⟩))))))))⟩))
    · have := Int.ediv_nonneg h1 (show (0 : Int) ≤ 2 ^ y.toNat from Int.pow_nonneg (by omega)); omega
    · have := Int.ediv_le_self (2 ^ y.toNat) h1; have := hx.2; omega
  | ineg =>
    have hz9 := gd_inv h; clear h; obtain ⟨rfl, h⟩ := hz9
    have hz9 := i1_inv h; clear h; obtain ⟨r, x, rfl, h⟩ := hz9
    cases h
    exact SG_1 rfl (S_1 fx hd (Or.inl ⟨rfl, rfl⟩))
  | i2b =>
    have hz9 := gd_inv h; clear h; obtain ⟨rfl, h⟩ := hz9
    have hz9 := i1_inv h; clear h; obtain ⟨r, x, rfl, h⟩ := hz9
    cases h
    exact SG_1 rfl (S_1 fx hd (Or.inr (Or.inl ⟨rfl, rfl⟩)))
  | i2s =>
    have hz9 := gd_inv h; clear h; obtain ⟨rfl, h⟩ := hz9
    have hz9 := i1_inv h; clear h; obtain ⟨r, x, rfl, h⟩ := hz9
    cases h
    exact SG_1 rfl (S_1 fx hd (Or.inr (Or.inr (Or.inl ⟨rfl, rfl⟩))))
  | i2c =>
    have hz9 := gd_inv h; clear h; obtain ⟨rfl, h⟩ := hz9
    have hz9 := i1_inv h; clear h; obtain ⟨r, x, rfl, h⟩ := hz9
    cases h
    exact SG_1 rfl (S_1 fx hd (Or.inr (Or.inr (Or.inr ⟨rfl, rfl⟩))))
  | i2l =>
    have hz9 := gd_inv h; clear h; obtain ⟨rfl, h⟩ := hz9
    have hz9 := i1_inv h; clear h; obtain ⟨r, x, rfl, h⟩ := hz9
    cases h
    exact SG_1 rfl (S_i2l fx hd)
  | l2i =>
    have hz9 := gd_inv h; clear h; obtain ⟨rfl, h⟩ := hz9
    have hz9 := l1_inv h; clear h; obtain ⟨r, x, rfl, h⟩ := hz9
    cases h
    exact SG_1 rfl (S_l2i fx hd)
  | land =>
    have hz9 := gd_inv h; clear h; obtain ⟨rfl, h⟩ := hz9
    have hz9 := l2_inv h; clear h; obtain ⟨r, x, y, rfl, h⟩ := hz9
    cases h
    exact SG_1 rfl (S_l2 fx hd (Or.inl ⟨rfl, rfl⟩))
  | lor =>
    have hz9 := gd_inv h; clear h; obtain ⟨rfl, h⟩ := hz9
    have hz9 := l2_inv h; clear h; obtain ⟨r, x, y, rfl, h⟩ := hz9
    cases h
    exact SG_1 rfl (S_l2 fx hd (Or.inr (Or.inl ⟨rfl, rfl⟩)))
  | lcmp =>
    have hz9 := gd_inv h; clear h; obtain ⟨rfl, h⟩ := hz9
    have hz9 := l2_inv h; clear h; obtain ⟨r, x, y, rfl, h⟩ := hz9
    cases h
    exact SG_1 rfl (S_l2 fx hd (Or.inr (Or.inr ⟨rfl, rfl⟩)))
  | lshl =>
    have hz9 := gd_inv h; clear h; obtain ⟨rfl, h⟩ := hz9
    split at h
    · cases h
      exact SG_1 rfl (S_lshl fx hd)
    · cases h
  | dup =>
    have hz9 := gd_inv h; clear h; obtain ⟨rfl, h⟩ := hz9
    split at h
    · have hz9 := gd_inv h; clear h; obtain ⟨h1, h⟩ := hz9
      cases h
      exact SG_1 rfl (S_dup fx hd h1)
    · cases h
  | dup2 =>
    have hz9 := gd_inv h; clear h; obtain ⟨rfl, h⟩ := hz9
    split at h
    · have hz9 := gd_inv h; clear h; obtain ⟨⟨h1, h2⟩, h⟩ := hz9
      cases h
      exact SG_1 rfl (S_dup2 fx hd h1 h2)
    · cases h
  | pop =>
    have hz9 := gd_inv h; clear h; obtain ⟨rfl, h⟩ := hz9
    split at h
    · have hz9 := gd_inv h; clear h; obtain ⟨h1, h⟩ := hz9
      cases h
      exact SG_1 rfl (S_pop fx hd h1)
    · cases h
  | ifCond cc off =>
    have hz9 := gd_inv h; clear h; obtain ⟨⟨rfl, h0⟩, h⟩ := hz9
    have hz9 := i1_inv h; clear h; obtain ⟨r, x, rfl, h⟩ := hz9
    by_cases hq : icc cc x 0 = true
    · rw [if_pos hq] at h
      cases h
      exact SG_1 rfl (fun k => S_if0 fx hd h0 (fun _ => k) (fun q => absurd hq q))
    · rw [if_neg hq] at h
      cases h
      exact SG_1 rfl (fun k => S_if0 fx hd h0 (fun q => absurd q hq) (fun _ => k))
  | if_icmp cc off =>
    have hz9 := gd_inv h; clear h; obtain ⟨⟨rfl, h0⟩, h⟩ := hz9
    have hz9 := i2_inv h; clear h; obtain ⟨r, x, y, rfl, h⟩ := hz9
    by_cases hq : icc cc x y = true
    · rw [if_pos hq] at h
      cases h
      exact SG_1 rfl (fun k => S_icmp fx hd h0 (fun _ => k) (fun q => absurd hq q))
    · rw [if_neg hq] at h
      cases h
      exact SG_1 rfl (fun k => S_icmp fx hd h0 (fun q => absurd q hq) (fun _ => k))
  | goto off =>
    have hz9 := gd_inv h; clear h; obtain ⟨rfl, h⟩ := hz9
    have hz9 := jmp_inv h; clear h; obtain ⟨h0, h⟩ := hz9
    cases h
    exact SG_1 rfl (S_goto fx hd h0)
  | tableswitch dflt lo hi offs =>
    have hz9 := i1_inv h; clear h; obtain ⟨r, x, rfl, h⟩ := hz9
    have hz9 := gd_inv h; clear h; obtain ⟨h1, h⟩ := hz9
    have hσ : cf'.2.2.2 = σ := by
      have key : ∀ (os : List Int) (lo : Int), tsw x (fun off => jmp pc off ls r σ) (jmp pc dflt ls r σ) lo os = some (.inl cf') → cf'.2.2.2 = σ := by
        intro os
        induction os with
        | nil => intro lo h; have hz9 := jmp_inv h; clear h; obtain ⟨-, h⟩ := hz9; cases h; rfl
        | cons o os ih =>
          intro lo h
          simp only [tsw] at h
          split at h
          · have hz9 := jmp_inv h; clear h; obtain ⟨-, h⟩ := hz9; cases h; rfl
          · exact ih _ h
      exact key _ _ h
    exact SG_1 (by rw [hσ]) (S_table fx hd h1 h)
  | lookupswitch dflt ps =>
    have hz9 := i1_inv h; clear h; obtain ⟨r, x, rfl, h⟩ := hz9
    have hz9 := gd_inv h; clear h; obtain ⟨h1, h⟩ := hz9
    have hσ : cf'.2.2.2 = σ := by
      have key : ∀ (os : List (Int × Int)), lsw x (fun off => jmp pc off ls r σ) (jmp pc dflt ls r σ) os = some (.inl cf') → cf'.2.2.2 = σ := by
        intro os
        induction os with
        | nil => intro h; have hz9 := jmp_inv h; clear h; obtain ⟨-, h⟩ := hz9; cases h; rfl
        | cons o os ih =>
          intro h
          simp only [lsw] at h
          split at h
          · have hz9 := jmp_inv h; clear h; obtain ⟨-, h⟩ := hz9; cases h; rfl
          · exact ih h
      exact key _ h
    exact SG_1 (by rw [hσ]) (S_lookup fx hd h1 h)
  | getfield idx =>
    have hz9 := gd_inv h; clear h; obtain ⟨rfl, h⟩ := hz9
    have hz9 := r1_inv h; clear h; obtain ⟨r, o, rfl, h⟩ := hz9
    split at h
    · rename_i ci k hf
      have hz9 := gd_inv h; clear h; obtain ⟨h1, h⟩ := hz9
      cases h
      exact SG_1 rfl (S_getf fx hd hf h1)
    · split at h
      · rename_i hk
        have hz9 := gd_inv h; clear h; obtain ⟨h1, h⟩ := hz9
        cases h
        exact SG_1 rfl (S_strf fx hd hk h1 (Or.inl ⟨rfl, rfl⟩))
      · rename_i hk
        have hz9 := gd_inv h; clear h; obtain ⟨h1, h⟩ := hz9
        cases h
        exact SG_1 rfl (S_strf fx hd hk h1 (Or.inr ⟨rfl, rfl⟩))
      · cases h
  | putfield idx =>
    have hz9 := gd_inv h; clear h; obtain ⟨rfl, h⟩ := hz9
    have hz9 := vr_inv h; clear h; obtain ⟨r, v, o, rfl, h⟩ := hz9
    split at h
    · rename_i ci k hf
      have hz9 := gd_inv h; clear h; obtain ⟨⟨h1, h2, h3⟩, h⟩ := hz9
      unfold putv at h
      split at h
      · rename_i ht
        split at h
        · cases h
          exact SG_1 rfl (S_putf fx hd hf h1 h2 h3 (Or.inl ⟨ht, rfl⟩))
        · cases h
      · rename_i ht
        split at h
        · have hz9 := gd_inv h; clear h; obtain ⟨h4, h⟩ := hz9
          cases h
          exact SG_1 rfl (S_putf fx hd hf h1 h2 h3 (Or.inr (Or.inl ⟨ht, rfl, h4⟩)))
        · cases h
      · rename_i ht
        split at h
        · have hz9 := gd_inv h; clear h; obtain ⟨⟨-, h4⟩, h⟩ := hz9
          cases h
          exact SG_1 rfl (S_putf fx hd hf h1 h2 h3 (Or.inr (Or.inr ⟨ht, rfl, h4⟩)))
        · cases h
      · cases h
    · cases h
  | getstatic idx =>
    have hz9 := gd_inv h; clear h; obtain ⟨rfl, h⟩ := hz9
    split at h
    · rename_i hk
      cases h
      exact SG_1 rfl (S_gets fx hd hk (Or.inl ⟨rfl, rfl⟩))
    · rename_i hk
      cases h
      exact SG_1 rfl (S_gets fx hd hk (Or.inr (Or.inl ⟨rfl, rfl⟩)))
    · rename_i hk
      cases h
      exact SG_1 rfl (S_gets fx hd hk (Or.inr (Or.inr ⟨rfl, rfl⟩)))
    · cases h
  | iaload =>
    have hz9 := gd_inv h; clear h; obtain ⟨rfl, h⟩ := hz9
    have hz9 := ir_inv h; clear h; obtain ⟨r, a, i, rfl, h⟩ := hz9
    have hz9 := gd_inv h; clear h; obtain ⟨⟨h1, h2, h3⟩, h⟩ := hz9
    cases h
    exact SG_1 rfl (S_iald fx hd h1 h2 h3)
  | baload =>
    have hz9 := gd_inv h; clear h; obtain ⟨rfl, h⟩ := hz9
    have hz9 := ir_inv h; clear h; obtain ⟨r, a, i, rfl, h⟩ := hz9
    have hz9 := gd_inv h; clear h; obtain ⟨⟨h1, h2, h3⟩, h⟩ := hz9
    cases h
    exact SG_1 rfl (S_bald fx hd h1 h2 h3)
  | laload =>
    have hz9 := gd_inv h; clear h; obtain ⟨rfl, h⟩ := hz9
    have hz9 := ir_inv h; clear h; obtain ⟨r, a, i, rfl, h⟩ := hz9
    have hz9 := gd_inv h; clear h; obtain ⟨⟨h1, h2, h3⟩, h⟩ := hz9
    cases h
    exact SG_1 rfl (S_lald fx hd h1 h2 h3)
  | aaload =>
    have hz9 := gd_inv h; clear h; obtain ⟨rfl, h⟩ := hz9
    have hz9 := ir_inv h; clear h; obtain ⟨r, a, i, rfl, h⟩ := hz9
    have hz9 := gd_inv h; clear h; obtain ⟨⟨h1, h2, h3⟩, h⟩ := hz9
    cases h
    exact SG_1 rfl (S_aald fx hd (by omega) (by omega) h2 h3)
  | iastore =>
    have hz9 := gd_inv h; clear h; obtain ⟨rfl, h⟩ := hz9
    have hz9 := vir_inv h; clear h; obtain ⟨r, v, a, i, rfl, h⟩ := hz9
    split at h
    · have hz9 := gd_inv h; clear h; obtain ⟨⟨h1, h2, h3, h4⟩, h⟩ := hz9
      cases h
      exact SG_1 rfl (S_iast fx hd h1 h2 h3 h4)
    · cases h
  | bastore =>
    have hz9 := gd_inv h; clear h; obtain ⟨rfl, h⟩ := hz9
    have hz9 := vir_inv h; clear h; obtain ⟨r, v, a, i, rfl, h⟩ := hz9
    split at h
    · have hz9 := gd_inv h; clear h; obtain ⟨⟨h1, h2, h3, h4⟩, h⟩ := hz9
      cases h
      exact SG_1 rfl (S_bast fx hd h1 h2 h3 h4)
    · cases h
  | lastore =>
    have hz9 := gd_inv h; clear h; obtain ⟨rfl, h⟩ := hz9
    have hz9 := vir_inv h; clear h; obtain ⟨r, v, a, i, rfl, h⟩ := hz9
    split at h
    · have hz9 := gd_inv h; clear h; obtain ⟨⟨h1, h2, h3, h4⟩, h⟩ := hz9
      cases h
      exact SG_1 rfl (S_last fx hd h1 h2 h3 h4)
    · cases h
  | aastore =>
    have hz9 := gd_inv h; clear h; obtain ⟨rfl, h⟩ := hz9
    have hz9 := vir_inv h; clear h; obtain ⟨r, v, a, i, rfl, h⟩ := hz9
    split at h
    · have hz9 := gd_inv h; clear h; obtain ⟨⟨h1, h2, h3, h4, h5, h6, h7, h8⟩, h⟩ := hz9
      cases h
      exact SG_1 rfl (S_aast fx hd h1 h2 h3 h4 h5 h6 h7 h8)
    · cases h
  | arraylength =>
    have hz9 := gd_inv h; clear h; obtain ⟨rfl, h⟩ := hz9
    have hz9 := r1_inv h; clear h; obtain ⟨r, a, rfl, h⟩ := hz9
    have hz9 := gd_inv h; clear h; obtain ⟨⟨h1, h2⟩, h⟩ := hz9
    cases h
    exact SG_1 rfl (S_alen fx hd h1 h2)
  | newarray ty =>
    have hz9 := gd_inv h; clear h; obtain ⟨rfl, h⟩ := hz9
    have hz9 := i1_inv h; clear h; obtain ⟨r, n, rfl, h⟩ := hz9
    have hz9 := gd_inv h; clear h; obtain ⟨⟨h1, h2, h3⟩, h⟩ := hz9
    obtain ⟨cf, e1, e2, e3, e4⟩ := S_newi fx hd h1 h2 h3 h
    cases e1
    exact ⟨e2, e3, e4⟩
  | anewarray idx =>
    have hz9 := gd_inv h; clear h; obtain ⟨rfl, h⟩ := hz9
    have hz9 := i1_inv h; clear h; obtain ⟨r, n, rfl, h⟩ := hz9
    split at h
    · rename_i t hn
      have hz9 := gd_inv h; clear h; obtain ⟨⟨h1, h2, h3, h4, -⟩, h⟩ := hz9
      obtain ⟨cf, e1, e2, e3, e4⟩ := S_newq fx hd hn h1 h2 h3 h4 h
      cases e1
      exact ⟨e2, e3, e4⟩
    · cases h
  | new idx =>
    have hz9 := gd_inv h; clear h; obtain ⟨rfl, h⟩ := hz9
    split at h
    · rename_i ci hn
      have hz9 := gd_inv h; clear h; obtain ⟨h1, h⟩ := hz9
      obtain ⟨cf, e1, e2, e3, e4⟩ := S_new fx hd hn h1 h
      cases e1
      exact ⟨e2, e3, e4⟩
    · cases h
  | invokevirtual idx =>
    have hz9 := gd_inv h; clear h; obtain ⟨rfl, h⟩ := hz9
    split at h
    · have hz9 := gd_inv h; clear h; obtain ⟨h1, h⟩ := hz9
      simp only [cal] at h
      split at h
      · have hz9 := gd_inv h; clear h; obtain ⟨-, h⟩ := hz9; cases h
      · cases h
    · cases h
  | invokespecial idx =>
    have hz9 := gd_inv h; clear h; obtain ⟨rfl, h⟩ := hz9
    split at h
    · rename_i h5
      have hz9 := r1_inv h; clear h; obtain ⟨r, o, rfl, h⟩ := hz9
      have hz9 := gd_inv h; clear h; obtain ⟨⟨h1, h2, h3⟩, h⟩ := hz9
      cases h
      exact SG_1 rfl (S_objInit fx hR hd h5 h1 h2 h3)
    · split at h
      · have hz9 := gd_inv h; clear h; obtain ⟨h1, h⟩ := hz9
        rcases h1 with rfl | rfl
        · simp only [cal] at h
          split at h
          · have hz9 := gd_inv h; clear h; obtain ⟨-, h⟩ := hz9; cases h
          · cases h
        · simp only [cal] at h
          split at h
          · have hz9 := gd_inv h; clear h; obtain ⟨-, h⟩ := hz9; cases h
          · cases h
      · cases h
  | invokestatic idx =>
    have hz9 := gd_inv h; clear h; obtain ⟨rfl, h⟩ := hz9
    split at h
    · rename_i h6
      unfold acp at h
      split at h
      · have hz9 := gd_inv h; clear h; obtain ⟨h1, h⟩ := hz9
        cases h
        exact SG_1 rfl (S_acp fx hR hd h6 h1)
      · cases h
    · split at h
      · rename_i h7
        have hz9 := i2_inv h; clear h; obtain ⟨r, x, y, rfl, h⟩ := hz9
        have hz9 := gd_inv h; clear h; obtain ⟨h1, h⟩ := hz9
        cases h
        exact ⟨Nat.le_refl _, Nat.le_refl _, fun b1 b2 k => S_max fx hR ⟨b1, b2⟩ hd h7 h1 k⟩
      · split at h
        · rename_i h8
          have hz9 := i2_inv h; clear h; obtain ⟨r, x, y, rfl, h⟩ := hz9
          have hz9 := gd_inv h; clear h; obtain ⟨h1, h⟩ := hz9
          cases h
          exact ⟨Nat.le_refl _, Nat.le_refl _, fun b1 b2 k => S_min fx hR ⟨b1, b2⟩ hd h8 h1 k⟩
        · split at h
          · have hz9 := gd_inv h; clear h; obtain ⟨h1, h⟩ := hz9
            simp only [cal] at h
            split at h
            · have hz9 := gd_inv h; clear h; obtain ⟨-, h⟩ := hz9; cases h
            · cases h
          · cases h
  | ireturn =>
    have hz9 := gd_inv h; clear h; obtain ⟨rfl, h⟩ := hz9
    split at h
    · have hz9 := gd_inv h; clear h; obtain ⟨-, h⟩ := hz9; cases h
    · cases h
  | lreturn =>
    have hz9 := gd_inv h; clear h; obtain ⟨rfl, h⟩ := hz9
    split at h
    · have hz9 := gd_inv h; clear h; obtain ⟨-, h⟩ := hz9; cases h
    · cases h
  | areturn =>
    have hz9 := gd_inv h; clear h; obtain ⟨rfl, h⟩ := hz9
    split at h
    · have hz9 := gd_inv h; clear h; obtain ⟨-, h⟩ := hz9; cases h
    · cases h
  | return_ =>
    have hz9 := gd_inv h; clear h; obtain ⟨rfl, h⟩ := hz9
    split at h
    · have hz9 := gd_inv h; clear h; obtain ⟨-, h⟩ := hz9; cases h
    · cases h
  | _ => exact absurd h (by simp [stepI])
end SNS
