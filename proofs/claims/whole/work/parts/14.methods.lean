/-! WHOLE FRAMES, whole methods. -/
section SNT
variable {p : Program} {l : Launch} {e : Env} {R : Room} {s : State} {m : MethodId} {args : Array Value} {below : List Frame} {meth : Method} {c : Code} {Q : State → Prop} {μ : Nat} {A : Nat → Prop} {cA : Nat → ClassId} {D : va_G} {ad0 ad : Int → Option Nat} {σ0 σ σ' : PS} {pc : Nat} {ls : PL} {st r : List PV} {H H1 : Heap} {locs locs1 : List Loc} {cells slots : Nat} {lsA : Array Slot}
theorem step_inv {cf : Cf} {y : PO} (h : step μ cf = some y) : ∃ i len, ClassFile.decode (mB μ) cf.1 = .ok (i, len) ∧ stepI μ i len cf.1 cf.2.1 cf.2.2.1 cf.2.2.2 = some y := by
  unfold step at h
  split at h
  · rename_i i len hd
    exact ⟨i, len, hd, h⟩
  · cases h
theorem stepI_call {i : ClassFile.Instr} {len : Nat} {q : Nat × (List PV × Cf)} (h : stepI μ i len pc ls st σ = some (.inr (.inr q))) : ∃ idx kd μ' na cls ml, len = 3 ∧ inv (mO μ) idx = some (kd, μ', na, cls, ml) ∧ ((kd = 0 ∧ i = .invokevirtual idx) ∨ (kd = 1 ∧ i = .invokestatic idx) ∨ ((kd = 2 ∨ kd = 3) ∧ i = .invokespecial idx)) ∧ cal μ' na cls ml pc ls st σ kd = some (.inr (.inr q)) := by
  cases i with
  | invokespecial idx =>
    have hz9 := gd_inv h; clear h; obtain ⟨h3, h⟩ := hz9
    split at h
    · have hz9 := r1_inv h; clear h; obtain ⟨r, o, -, h⟩ := hz9
      have hz9 := gd_inv h; clear h; obtain ⟨-, h⟩ := hz9
      cases h
    · split at h
      · rename_i kd μ' na cls ml hi
        have hz9 := gd_inv h; clear h; obtain ⟨h1, h⟩ := hz9
        exact ⟨idx, kd, μ', na, cls, ml, h3, hi, Or.inr (Or.inr ⟨h1, rfl⟩), h⟩
      · cases h
  | invokestatic idx =>
    have hz9 := gd_inv h; clear h; obtain ⟨h3, h⟩ := hz9
    split at h
    · unfold acp at h
      split at h
      · have hz9 := gd_inv h; clear h; obtain ⟨-, h⟩ := hz9
        cases h
      · cases h
    · split at h
      · have hz9 := i2_inv h; clear h; obtain ⟨r, x, y, -, h⟩ := hz9
        have hz9 := gd_inv h; clear h; obtain ⟨-, h⟩ := hz9
        cases h
      · split at h
        · have hz9 := i2_inv h; clear h; obtain ⟨r, x, y, -, h⟩ := hz9
          have hz9 := gd_inv h; clear h; obtain ⟨-, h⟩ := hz9
          cases h
        · split at h
          · rename_i kd μ' na cls ml hi
            have hz9 := gd_inv h; clear h; obtain ⟨h1, h⟩ := hz9
            subst h1
            exact ⟨idx, 1, μ', na, cls, ml, h3, hi, Or.inr (Or.inl ⟨rfl, rfl⟩), h⟩
          · cases h
  | invokevirtual idx =>
    have hz9 := gd_inv h; clear h; obtain ⟨h3, h⟩ := hz9
    split at h
    · rename_i kd μ' na cls ml hi
      have hz9 := gd_inv h; clear h; obtain ⟨h1, h⟩ := hz9
      subst h1
      exact ⟨idx, 0, μ', na, cls, ml, h3, hi, Or.inl ⟨rfl, rfl⟩, h⟩
    · cases h
  | ireturn =>
    have hz9 := gd_inv h; clear h; obtain ⟨h3, h⟩ := hz9
    split at h
    · have hz9 := gd_inv h; clear h; obtain ⟨-, h⟩ := hz9
      cases h
    · cases h
  | lreturn =>
    have hz9 := gd_inv h; clear h; obtain ⟨h3, h⟩ := hz9
    split at h
    · have hz9 := gd_inv h; clear h; obtain ⟨-, h⟩ := hz9
      cases h
    · cases h
  | areturn =>
    have hz9 := gd_inv h; clear h; obtain ⟨h3, h⟩ := hz9
    split at h
    · have hz9 := gd_inv h; clear h; obtain ⟨-, h⟩ := hz9
      cases h
    · cases h
  | return_ =>
    have hz9 := gd_inv h; clear h; obtain ⟨h3, h⟩ := hz9
    split at h
    · have hz9 := gd_inv h; clear h; obtain ⟨-, h⟩ := hz9
      cases h
    · cases h
  | _ =>
    obtain ⟨cf', hc⟩ := stepI_in rfl h
    cases hc
theorem stepI_ret {i : ClassFile.Instr} {len : Nat} {rv : Option PV} (h : stepI μ i len pc ls st σ = some (.inr (.inl rv))) : len = 1 ∧ ((i = .ireturn ∧ ∃ z, st = [.inl z] ∧ rok (mK μ) z = true ∧ rv = some (.inl z)) ∨ (i = .lreturn ∧ ∃ z, st = [.inr (.inl z)] ∧ mK μ = 4 ∧ rv = some (.inr (.inl z))) ∨ (i = .areturn ∧ ∃ z, st = [.inr (.inr z)] ∧ (mK μ = 6 ∧ 0 ≤ z) ∧ rv = some (.inr (.inr z))) ∨ (i = .return_ ∧ st = [] ∧ mK μ = 5 ∧ rv = none)) := by
  cases i with
  | invokespecial idx =>
    have hz9 := gd_inv h; clear h; obtain ⟨h3, h⟩ := hz9
    split at h
    · have hz9 := r1_inv h; clear h; obtain ⟨r, o, -, h⟩ := hz9
      have hz9 := gd_inv h; clear h; obtain ⟨-, h⟩ := hz9
      cases h
    · split at h
      · have hz9 := gd_inv h; clear h; obtain ⟨h1, h⟩ := hz9
        rcases h1 with rfl | rfl
        · simp only [cal] at h
          split at h
          · have hz9 := gd_inv h; clear h; obtain ⟨-, h⟩ := hz9
            cases h
          · cases h
        · simp only [cal] at h
          split at h
          · have hz9 := gd_inv h; clear h; obtain ⟨-, h⟩ := hz9
            cases h
          · cases h
      · cases h
  | invokestatic idx =>
    have hz9 := gd_inv h; clear h; obtain ⟨h3, h⟩ := hz9
    split at h
    · unfold acp at h
      split at h
      · have hz9 := gd_inv h; clear h; obtain ⟨-, h⟩ := hz9
        cases h
      · cases h
    · split at h
      · have hz9 := i2_inv h; clear h; obtain ⟨r, x, y, -, h⟩ := hz9
        have hz9 := gd_inv h; clear h; obtain ⟨-, h⟩ := hz9
        cases h
      · split at h
        · have hz9 := i2_inv h; clear h; obtain ⟨r, x, y, -, h⟩ := hz9
          have hz9 := gd_inv h; clear h; obtain ⟨-, h⟩ := hz9
          cases h
        · split at h
          · have hz9 := gd_inv h; clear h; obtain ⟨h1, h⟩ := hz9
            simp only [cal] at h
            split at h
            · have hz9 := gd_inv h; clear h; obtain ⟨-, h⟩ := hz9
              cases h
            · cases h
          · cases h
  | invokevirtual idx =>
    have hz9 := gd_inv h; clear h; obtain ⟨h3, h⟩ := hz9
    split at h
    · have hz9 := gd_inv h; clear h; obtain ⟨h1, h⟩ := hz9
      simp only [cal] at h
      split at h
      · have hz9 := gd_inv h; clear h; obtain ⟨-, h⟩ := hz9
        cases h
      · cases h
    · cases h
  | ireturn =>
    have hz9 := gd_inv h; clear h; obtain ⟨h3, h⟩ := hz9
    split at h
    · have hz9 := gd_inv h; clear h; obtain ⟨h2, h⟩ := hz9
      cases h
      exact ⟨h3, Or.inl ⟨rfl, _, rfl, h2, rfl⟩⟩
    · cases h
  | lreturn =>
    have hz9 := gd_inv h; clear h; obtain ⟨h3, h⟩ := hz9
    split at h
    · have hz9 := gd_inv h; clear h; obtain ⟨h2, h⟩ := hz9
      cases h
      exact ⟨h3, Or.inr (Or.inl ⟨rfl, _, rfl, h2, rfl⟩)⟩
    · cases h
  | areturn =>
    have hz9 := gd_inv h; clear h; obtain ⟨h3, h⟩ := hz9
    split at h
    · have hz9 := gd_inv h; clear h; obtain ⟨h2, h⟩ := hz9
      cases h
      exact ⟨h3, Or.inr (Or.inr (Or.inl ⟨rfl, _, rfl, h2, rfl⟩))⟩
    · cases h
  | return_ =>
    have hz9 := gd_inv h; clear h; obtain ⟨h3, h⟩ := hz9
    split at h
    · have hz9 := gd_inv h; clear h; obtain ⟨h2, h⟩ := hz9
      cases h
      exact ⟨h3, Or.inr (Or.inr (Or.inr ⟨rfl, rfl, h2, rfl⟩))⟩
    · cases h
  | _ =>
    obtain ⟨cf', hc⟩ := stepI_in rfl h
    cases hc
theorem stepI_tot2 {i : ClassFile.Instr} {len : Nat} {cf' : Cf} (h : stepI μ i len pc ls st σ = some (.inl cf')) : tot σ ≤ tot cf'.2.2.2 ∧ siz σ ≤ siz cf'.2.2.2 := by
  by_cases ho : isOut i = false
  · exact stepI_tot ho h
  · cases i with
    | invokespecial idx =>
      have hz9 := gd_inv h; clear h; obtain ⟨h3, h⟩ := hz9
      split at h
      · have hz9 := r1_inv h; clear h; obtain ⟨r, o, -, h⟩ := hz9
        have hz9 := gd_inv h; clear h; obtain ⟨-, h⟩ := hz9
        cases h
        exact ⟨Nat.le_refl _, Nat.le_refl _⟩
      · split at h
        · have hz9 := gd_inv h; clear h; obtain ⟨h1, h⟩ := hz9
          rcases h1 with rfl | rfl
          · simp only [cal] at h
            split at h
            · have hz9 := gd_inv h; clear h; obtain ⟨-, h⟩ := hz9
              cases h
            · cases h
          · simp only [cal] at h
            split at h
            · have hz9 := gd_inv h; clear h; obtain ⟨-, h⟩ := hz9
              cases h
            · cases h
        · cases h
    | invokestatic idx =>
      have hz9 := gd_inv h; clear h; obtain ⟨h3, h⟩ := hz9
      split at h
      · unfold acp at h
        split at h
        · have hz9 := gd_inv h; clear h; obtain ⟨-, h⟩ := hz9
          cases h
          exact ⟨Nat.le_refl _, Nat.le_refl _⟩
        · cases h
      · split at h
        · have hz9 := i2_inv h; clear h; obtain ⟨r, x, y, -, h⟩ := hz9
          have hz9 := gd_inv h; clear h; obtain ⟨-, h⟩ := hz9
          cases h
          exact ⟨Nat.le_refl _, Nat.le_refl _⟩
        · split at h
          · have hz9 := i2_inv h; clear h; obtain ⟨r, x, y, -, h⟩ := hz9
            have hz9 := gd_inv h; clear h; obtain ⟨-, h⟩ := hz9
            cases h
            exact ⟨Nat.le_refl _, Nat.le_refl _⟩
          · split at h
            · have hz9 := gd_inv h; clear h; obtain ⟨h1, h⟩ := hz9
              simp only [cal] at h
              split at h
              · have hz9 := gd_inv h; clear h; obtain ⟨-, h⟩ := hz9
                cases h
              · cases h
            · cases h
    | invokevirtual idx =>
      have hz9 := gd_inv h; clear h; obtain ⟨h3, h⟩ := hz9
      split at h
      · have hz9 := gd_inv h; clear h; obtain ⟨h1, h⟩ := hz9
        simp only [cal] at h
        split at h
        · have hz9 := gd_inv h; clear h; obtain ⟨-, h⟩ := hz9
          cases h
        · cases h
      · cases h
    | ireturn =>
      have hz9 := gd_inv h; clear h; obtain ⟨h3, h⟩ := hz9
      split at h
      · have hz9 := gd_inv h; clear h; obtain ⟨h2, h⟩ := hz9
        cases h
      · cases h
    | lreturn =>
      have hz9 := gd_inv h; clear h; obtain ⟨h3, h⟩ := hz9
      split at h
      · have hz9 := gd_inv h; clear h; obtain ⟨h2, h⟩ := hz9
        cases h
      · cases h
    | areturn =>
      have hz9 := gd_inv h; clear h; obtain ⟨h3, h⟩ := hz9
      split at h
      · have hz9 := gd_inv h; clear h; obtain ⟨h2, h⟩ := hz9
        cases h
      · cases h
    | return_ =>
      have hz9 := gd_inv h; clear h; obtain ⟨h3, h⟩ := hz9
      split at h
      · have hz9 := gd_inv h; clear h; obtain ⟨h2, h⟩ := hz9
        cases h
      · cases h
    | _ => exact absurd rfl ho
theorem cal_inv {μ' na cls ml kd : Nat} {q : Nat × (List PV × Cf)} (h : cal μ' na cls ml pc ls st σ kd = some (.inr (.inr q))) : q.1 = μ' ∧ pcat q.2.1 ≤ ml ∧ q.2.2.1 = pc + 3 ∧ q.2.2.2.1 = ls ∧ q.2.2.2.2.2 = σ := by
  match kd, h with
  | 0, h =>
    simp only [cal] at h
    split at h
    · have hz9 := gd_inv h; clear h; obtain ⟨h2, h⟩ := hz9
      cases h
      exact ⟨rfl, h2.2.2, rfl, rfl, rfl⟩
    · cases h
  | 1, h =>
    simp only [cal] at h
    split at h
    · have hz9 := gd_inv h; clear h; obtain ⟨h2, h⟩ := hz9
      cases h
      exact ⟨rfl, h2.2, rfl, rfl, rfl⟩
    · cases h
  | 2, h =>
    simp only [cal] at h
    split at h
    · have hz9 := gd_inv h; clear h; obtain ⟨h2, h⟩ := hz9
      cases h
      exact ⟨rfl, h2.2.2, rfl, rfl, rfl⟩
    · cases h
  | 3, h =>
    simp only [cal] at h
    split at h
    · have hz9 := gd_inv h; clear h; obtain ⟨h2, h⟩ := hz9
      cases h
      exact ⟨rfl, h2.2.2, rfl, rfl, rfl⟩
    · cases h
  | k + 4, h => cases h
theorem run_tot {cl : Nat → List PV → PS → Option (Option PV × PS)} (hcl : ∀ μ' a σ r σ', cl μ' a σ = some (r, σ') → μ' < 231 → pcat a ≤ mL μ' → tot σ ≤ tot σ' ∧ siz σ ≤ siz σ') : ∀ (n : Nat) (cf : Cf) (rf : Option PV) (σf : PS), run cl μ n cf = some (rf, σf) → tot cf.2.2.2 ≤ tot σf ∧ siz cf.2.2.2 ≤ siz σf := by
  intro n
  induction n with
  | zero => intro cf rf σf h; simp [run] at h
  | succ n ih =>
    intro cf rf σf h
    simp only [run] at h
    split at h
    · cases h
    · rename_i cf' hs
      obtain ⟨i, len, hd, hi⟩ := step_inv hs
      have h2 := ih cf' rf σf h
      have h1 := stepI_tot2 hi
      omega
    · cases h
      exact ⟨Nat.le_refl _, Nat.le_refl _⟩
    · rename_i q hs
      obtain ⟨i, len, hd, hi⟩ := step_inv hs
      obtain ⟨idx, kd, μ', na, cls, ml, -, hi2, -, hc⟩ := stepI_call hi
      obtain ⟨h231, -, -, rfl, -⟩ := inv_inv hi2
      obtain ⟨c1, c2, -, -, c5⟩ := cal_inv hc
      split at h
      · rename_i w hw
        obtain ⟨r1, σ1⟩ := w
        have h2 := ih _ rf σf h
        have h1 := hcl _ _ _ r1 σ1 hw (by rw [c1]; exact h231) (by rw [c1]; exact c2)
        rw [c5] at h1
        dsimp only at h2
        omega
      · cases h
theorem run_GO {cl : Nat → List PV → PS → Option (Option PV × PS)} {d : Nat} (hcl : ∀ μ' a σ r σ', cl μ' a σ = some (r, σ') → μ' < 231 → pcat a ≤ mL μ' → Msound d μ' a σ r σ') (fx : Fx p s m args meth c μ A cA D ad0 σ0) (hR : d + 1 ≤ R.frames ∧ 40 * (d + 1) ≤ R.locals)
    {rf : Option PV} {σf : PS} (hB : tot σf ≤ tot σ0 + R.cells ∧ siz σf ≤ siz σ0 + R.slots) (hret : ∀ cf : Cf, step μ cf = some (.inr (.inl rf)) → cf.2.2.2 = σf → GO p l e R s m args below meth c Q μ A cA D ad0 σ0 cf) :
    ∀ (n : Nat) (cf : Cf), run cl μ n cf = some (rf, σf) → GO p l e R s m args below meth c Q μ A cA D ad0 σ0 cf := by
  have ht : ∀ μ' a σ r σ', cl μ' a σ = some (r, σ') → μ' < 231 → pcat a ≤ mL μ' → tot σ ≤ tot σ' ∧ siz σ ≤ siz σ' := fun μ' a σ r σ' h1 h2 h3 => ⟨(hcl μ' a σ r σ' h1 h2 h3).1, (hcl μ' a σ r σ' h1 h2 h3).2.1⟩
  intro n
  induction n with
  | zero => intro cf h; simp [run] at h
  | succ n ih =>
    intro cf h
    obtain ⟨pc, ls, st, σ⟩ := cf
    simp only [run] at h
    split at h
    · cases h
    · rename_i cf' hs
      obtain ⟨i, len, hd, hi⟩ := step_inv hs
      have h1 := run_tot ht n cf' rf σf h
      exact (stepI_GO fx ⟨by omega, by omega⟩ hd hi).2.2 (by omega) (by omega) (ih cf' h)
    · rename_i r hs
      cases h
      exact hret _ hs rfl
    · rename_i q hs
      obtain ⟨i, len, hd, hi⟩ := step_inv hs
      obtain ⟨idx, kd, μ', na, cls, ml, hlen, hi2, hk, hc⟩ := stepI_call hi
      subst hlen
      split at h
      · rename_i w hw
        obtain ⟨r1, σ1⟩ := w
        obtain ⟨c1, c2, c3, c4, c5, c6, c7⟩ := call_GO (p := p) (l := l) (e := e) (R := R) (below := below) (Q := Q) (d := d) (rv := r1) (σ' := σ1) fx hR hi2 rfl (by
          rcases hk with ⟨h1, rfl⟩ | ⟨h1, rfl⟩ | ⟨h1, rfl⟩
          · exact Or.inl ⟨h1, hd⟩
          · exact Or.inr (Or.inl ⟨h1, hd⟩)
          · exact Or.inr (Or.inr ⟨h1, hd⟩)) hc
        have hm := hcl _ _ _ r1 σ1 hw (by rw [c1]; exact c2) (by rw [c1]; exact c3)
        rw [c1, c6] at hm
        have h1 := run_tot ht n _ rf σf h
        have k := ih _ h
        rw [c4, c5] at k
        dsimp only at h1
        exact c7 hm (by omega) (by omega) k
      · cases h
end SNT
theorem lg_sl_len (ad : Int → Option Nat) (a : List PV) : (lg_sl (a.map (cvv ad))).length = pcat a := by
  induction a with
  | nil => rfl
  | cons v a ih =>
    have e : lg_sl (cvv ad v :: a.map (cvv ad)) = (if (cvv ad v).category = 2 then [Slot.val (cvv ad v), .second] else [.val (cvv ad v)]) ++ lg_sl (a.map (cvv ad)) := rfl
    rw [List.map_cons, e, List.length_append, ih]
    match v with
    | .inl z => rfl
    | .inr (.inl z) => rfl
    | .inr (.inr z) => simp only [cvv, va_rf_cat, pcat]; rfl
theorem eL_len : ∀ (a : List PV) (n : Nat), pcat a ≤ n → (eL a n).length = n := by
  intro a
  induction a with
  | nil => intro n _; simp [eL]
  | cons v a ih =>
    intro n h
    match v, h with
    | .inl z, h =>
      simp only [pcat] at h
      simp only [eL, List.length_cons, ih (n - 1) (by omega)]
      omega
    | .inr (.inl z), h =>
      simp only [pcat] at h
      simp only [eL, List.length_cons, ih (n - 2) (by omega)]
      omega
    | .inr (.inr z), h =>
      simp only [pcat] at h
      simp only [eL, List.length_cons, ih (n - 1) (by omega)]
      omega
theorem eL_args (ad : Int → Option Nat) : ∀ (a : List PV) (n k i : Nat) (v : PV), (eL a n)[i]? = some (some v) → (k + i, cvv ad v) ∈ lv_args k (a.map (cvv ad)) ∧ v ∈ a := by
  intro a
  induction a with
  | nil =>
    intro n k i v h
    simp only [eL, List.getElem?_replicate] at h
    split at h <;> simp at h
  | cons w a ih =>
    intro n k i v h
    match w, h with
    | .inl z, h =>
      simp only [eL] at h
      cases i with
      | zero => cases h; exact ⟨List.mem_cons_self, List.mem_cons_self⟩
      | succ i =>
        obtain ⟨h1, h2⟩ := ih (n - 1) (k + 1) i v h
        exact ⟨List.mem_cons_of_mem _ (by rw [show k + (i + 1) = k + 1 + i by omega]; exact h1), List.mem_cons_of_mem _ h2⟩
    | .inr (.inl z), h =>
      simp only [eL] at h
      cases i with
      | zero => cases h; exact ⟨List.mem_cons_self, List.mem_cons_self⟩
      | succ i =>
        cases i with
        | zero => cases h
        | succ i =>
          obtain ⟨h1, h2⟩ := ih (n - 2) (k + 2) i v h
          exact ⟨List.mem_cons_of_mem _ (by rw [show k + (i + 1 + 1) = k + 2 + i by omega]; exact h1), List.mem_cons_of_mem _ h2⟩
    | .inr (.inr z), h =>
      simp only [eL] at h
      cases i with
      | zero => cases h; exact ⟨List.mem_cons_self, List.mem_cons_self⟩
      | succ i =>
        obtain ⟨h1, h2⟩ := ih (n - 1) (k + 1) i v h
        refine ⟨List.mem_cons_of_mem _ ?_, List.mem_cons_of_mem _ h2⟩
        rw [show k + (i + 1) = k + 1 + i by omega]
        simp only [cvv, va_rf_cat]
        exact h1
theorem met_of {cl : Nat → List PV → PS → Option (Option PV × PS)} {d μ : Nat} (hcl : ∀ μ' a σ r σ', cl μ' a σ = some (r, σ') → μ' < 231 → pcat a ≤ mL μ' → Msound d μ' a σ r σ') (hμ : μ < 231) {n : Nat} {a : List PV} {σ σ' : PS} {r : Option PV} (hp : pcat a ≤ mL μ) (hrun : run cl μ n (0, (eL a (mL μ), ([], σ))) = some (r, σ')) : Msound (d + 1) μ a σ r σ' := by
  have ht : ∀ μ' a σ r σ', cl μ' a σ = some (r, σ') → μ' < 231 → pcat a ≤ mL μ' → tot σ ≤ tot σ' ∧ siz σ ≤ siz σ' := fun μ' a σ r σ' h1 h2 h3 => ⟨(hcl μ' a σ r σ' h1 h2 h3).1, (hcl μ' a σ r σ' h1 h2 h3).2.1⟩
  have htt := run_tot ht n _ r σ' hrun
  dsimp only at htt
  obtain ⟨⟨m1, m2, m3⟩, m4, m5, m6, m7, m8⟩ := mt_facts hμ
  refine ⟨htt.1, htt.2, ?_⟩
  intro l cA D ad sz hwf had hargs
  refine Met.ofW (cc := mB μ) (maxL := mL μ) (ret := mR μ) m5 rfl ?_
  intro p e s m args below meth c s₁ B hml hv
  obtain ⟨rfl, hsz, hP, hK, hD0, hKc⟩ := hv
  subst hsz
  have hD := hD0.self (sz := s.heap.size)
  have hts := atoms_spec (ws := mW μ) B.pre
  have hown : s.vm.findClass (mY μ).cls = some m.cls := findClass_of_methodNamed B.named
  have fx : Fx p s m (a.map (cvv ad)).toArray meth c μ (va_A (wof cA ad σ) s.heap.size) cA D ad σ := ⟨B.exec, B.bytes, hml, by rw [← m8]; exact hown, fun w hw => hts w (List.mem_cons_of_mem _ hw), fun h => by rw [(name_of_methodNamed B.named B.method).1]; exact m7 h, hK, fun q h => Or.inr h, hKc⟩
  have hl := lv_entry (a.map (cvv ad)) (n := mL μ) (by rw [lg_sl_len]; exact hp)
  rw [lg_entry_eq]
  generalize (lg_sl (a.map (cvv ad)) ++ List.replicate (mL μ - (lg_sl (a.map (cvv ad))).length) Slot.unset).toArray = lsA at hl ⊢
  refine run_GO (p := p) (l := l) (e := e) (below := below) (R := { frames := d + 1, cells := tot σ' - tot σ, slots := siz σ' - siz σ, locals := 40 * (d + 1) }) hcl fx ⟨Nat.le_refl _, Nat.le_refl _⟩ (rf := r) (σf := σ') ⟨by show tot σ' ≤ tot σ + (tot σ' - tot σ); omega, by show siz σ' ≤ siz σ + (siz σ' - siz σ); omega⟩ ?_ n _ hrun ad s.heap [] 0 0 lsA ⟨hP, hD, va_S.rf, hwf, had, fun _ _ => rfl, fun _ _ _ => rfl, rfl, by show 0 + tot σ ≤ tot σ; omega, by show 0 + siz σ ≤ siz σ; omega⟩ ⟨hl.1, hl.2.1, eL_len a _ hp, fun i v hi => ?_⟩ (fun _ h => by cases h)
  · intro cf hs hσ
    obtain ⟨pc, ls, st, σ2⟩ := cf
    dsimp only at hσ
    subst hσ
    obtain ⟨i, len, hd, hi⟩ := step_inv hs
    have hz9 := stepI_ret hi; clear hi; obtain ⟨rfl, hi⟩ := hz9
    intro ad' H locs cells slots lsA' hw hlo hsk
    replace hw : Wd s (va_A (wof cA ad σ) s.heap.size) cA D ad σ ad' H locs cells slots σ2 := hw
    obtain ⟨w1, w2, w3, w4, w5, w6, w7, w8, w9, w10⟩ := hw
    refine W.widen (k := tot σ2 - tot σ) (n := siz σ2 - siz σ) (by omega) (by omega) ?_
    have hb : ∀ (rr : Option PV) (t : State), t.heap = H → (∀ v, rr = some v → okv σ2 v) → BBc cA D ad σ s.heap.size σ2 rr ad' t := fun rr t hth hv => ⟨w6, w4, w5, w7, w8, hv, by rw [hth]; exact w1, w2⟩
    rcases hi with ⟨rfl, z, rfl, hk, rfl⟩ | ⟨rfl, z, rfl, hk, rfl⟩ | ⟨rfl, z, rfl, hk, rfl⟩ | ⟨rfl, rfl, hk, rfl⟩
    · have hz : in32 z := Sk_hd hsk
      have hty : ∃ ty, mR μ = some ty ∧ narrow ty (.int (Int32.ofInt z)) = .int (Int32.ofInt z) := by
        rw [← m6] at hk
        generalize mR μ = ro at hk ⊢
        match ro, hk with
        | some .int, _ => exact ⟨_, rfl, rfl⟩
        | some .boolean, hk =>
          simp only [rkOf, rok, decide_eq_true_eq] at hk
          rcases hk with rfl | rfl <;> exact ⟨_, rfl, rfl⟩
        | some .byte, hk =>
          simp only [rkOf, rok, decide_eq_true_eq] at hk
          refine ⟨_, rfl, ?_⟩
          show Value.int _ = _
          rw [o_i2b, show wr8 z = z by unfold wr8; omega]
        | some .char, hk =>
          simp only [rkOf, rok, decide_eq_true_eq] at hk
          refine ⟨_, rfl, ?_⟩
          obtain ⟨k, rfl⟩ := Int.eq_ofNat_of_zero_le hk.1
          rw [o_nat]
          exact (pk_charN (by omega)).1
      obtain ⟨ty, hty1, hty2⟩ := hty
      exact W.zret (ty := ty) B.exec B.bytes (by rw [B.returns]; exact hty1) hty2 (fun t hth hW => ⟨⟨Int32.ofInt z, ad', rfl, rfl, hb _ t hth (fun v hv => by cases hv; exact hz)⟩, w3.F hth⟩) w3.2.2 hd B.notSynchronized
    · have hz : in64 z := Sk_hd hsk
      have hty : mR μ = some .long := by
        rw [← m6] at hk
        generalize mR μ = ro at hk ⊢
        match ro, hk with
        | some .long, _ => rfl
      exact W.lret B.exec B.bytes (by rw [B.returns]; exact hty) (fun t hth hW => ⟨⟨Int64.ofInt z, ad', rfl, rfl, hb _ t hth (fun v hv => by cases hv; exact hz)⟩, w3.F hth⟩) w3.2.2 hd B.notSynchronized
    · have hz : z < (tot σ2 : Int) := Sk_hd hsk
      obtain ⟨hk, hz0⟩ := hk
      have hty : ∃ ty, mR μ = some ty ∧ ((∃ n, ty = .object n) ∨ ∃ t, ty = .array t) := by
        rw [← m6] at hk
        generalize mR μ = ro at hk ⊢
        match ro, hk with
        | some (.object n), _ => exact ⟨_, rfl, Or.inl ⟨_, rfl⟩⟩
        | some (.array t), _ => exact ⟨_, rfl, Or.inr ⟨_, rfl⟩⟩
      obtain ⟨ty, hty1, hty2⟩ := hty
      obtain ⟨k, rfl⟩ := Int.eq_ofNat_of_zero_le hz0
      obtain ⟨q, hq⟩ := w5.2 k (by omega)
      simp only [List.map_cons, List.map_nil, cvv, hq]
      exact W.aret (v := .ref q) (rt := ty) B.exec B.bytes (by rw [B.returns]; exact hty1) hty2 (Or.inr ⟨q, rfl⟩) (fun t hth hW => ⟨⟨ad', q, rfl, trivial, hq, hb _ t hth (fun v hv => by cases hv; exact hz)⟩, w3.F hth⟩) w3.2.2 hd B.notSynchronized
    · have hty : mR μ = none := by
        rw [← m6] at hk
        generalize mR μ = ro at hk ⊢
        match ro, hk with
        | none, _ => rfl
        | some ty, hk => cases ty <;> simp [rkOf] at hk
      exact W.vret B.exec B.bytes (by rw [B.returns]; exact hty) (fun t hth hW => ⟨⟨ad', rfl, trivial, hb _ t hth (fun v hv => by cases hv)⟩, w3.F hth⟩) w3.2.2 hd B.notSynchronized
  · obtain ⟨h1, h2⟩ := eL_args ad a (mL μ) 0 i v hi
    rw [Nat.zero_add] at h1
    exact ⟨hl.2.2 _ h1, hargs v h2⟩
/-- EVERY METHOD'S CONTRACT, from the pure machine -/
theorem exM_sound (N : Nat) : ∀ (d μ : Nat) (a : List PV) (σ : PS) (r : Option PV) (σ' : PS), exM N d μ a σ = some (r, σ') → μ < 231 → pcat a ≤ mL μ → Msound d μ a σ r σ' := by
  intro d
  induction d with
  | zero => intro μ a σ r σ' h; simp [exM] at h
  | succ d ih =>
    intro μ a σ r σ' h hμ hp
    exact met_of ih hμ hp h
