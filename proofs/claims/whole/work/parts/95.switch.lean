/-! The run's prefix, and the change from the making of the fixed cells to what goes on with them. -/
def pre (cl : Nat → List PV → PS → Option (Option PV × PS)) (μ : Nat) : Nat → Cf → Option Cf
  | 0, c => some c
  | n + 1, c => match step μ c with
    | none => none
    | some (.inl c') => pre cl μ n c'
    | some (.inr (.inl _)) => none
    | some (.inr (.inr q)) => match cl q.1 q.2.1 q.2.2.2.2.2 with
      | some w => pre cl μ n (q.2.2.1, (q.2.2.2.1, (psh w.1 q.2.2.2.2.1, w.2)))
      | none => none
theorem pre_tot {μ : Nat} {cl : Nat → List PV → PS → Option (Option PV × PS)} (hcl : ∀ μ' a σ r σ', cl μ' a σ = some (r, σ') → μ' < 231 → pcat a ≤ mL μ' → tot σ ≤ tot σ' ∧ siz σ ≤ siz σ') : ∀ (n : Nat) (cf cf2 : Cf), pre cl μ n cf = some cf2 → tot cf.2.2.2 ≤ tot cf2.2.2.2 ∧ siz cf.2.2.2 ≤ siz cf2.2.2.2 := by
  intro n
  induction n with
  | zero => intro cf cf2 h; simp only [pre] at h; cases h; exact ⟨Nat.le_refl _, Nat.le_refl _⟩
  | succ n ih =>
    intro cf cf2 h
    simp only [pre] at h
    split at h
    · cases h
    · rename_i cf' hs
      obtain ⟨i, len, hd, hi⟩ := step_inv hs
      have h2 := ih cf' cf2 h
      have h1 := stepI_tot2 hi
      omega
    · cases h
    · rename_i q hs
      obtain ⟨i, len, hd, hi⟩ := step_inv hs
      obtain ⟨idx, kd, μ', na, cls, ml, -, hi2, -, hc⟩ := stepI_call hi
      obtain ⟨h231, -, -, rfl, -⟩ := inv_inv hi2
      obtain ⟨c1, c2, -, -, c5⟩ := cal_inv hc
      split at h
      · rename_i w hw
        obtain ⟨r1, σ1⟩ := w
        have h2 := ih _ cf2 h
        have h1 := hcl _ _ _ r1 σ1 hw (by rw [c1]; exact h231) (by rw [c1]; exact c2)
        rw [c5] at h1
        dsimp only at h2
        omega
      · cases h
section SNW
variable {p : Program} {l : Launch} {e : Env} {R : Room} {s : State} {m : MethodId} {args : Array Value} {below : List Frame} {meth : Method} {c : Code} {Q : State → Prop} {μ : Nat} {A : Nat → Prop} {cA : Nat → ClassId} {D : va_G} {ad0 ad : Int → Option Nat} {σ0 σ σ' : PS} {pc : Nat} {ls : PL} {st r : List PV} {H H1 : Heap} {locs locs1 : List Loc} {cells slots : Nat} {lsA : Array Slot}
theorem pre_GO {cl : Nat → List PV → PS → Option (Option PV × PS)} {d : Nat} (hcl : ∀ μ' a σ r σ', cl μ' a σ = some (r, σ') → μ' < 231 → pcat a ≤ mL μ' → Msound d μ' a σ r σ') (fx : Fx p s m args meth c μ A cA D ad0 σ0) (hR : d + 1 ≤ R.frames ∧ 40 * (d + 1) ≤ R.locals) (cf2 : Cf) (hB : tot cf2.2.2.2 ≤ tot σ0 + R.cells ∧ siz cf2.2.2.2 ≤ siz σ0 + R.slots) (h2 : GO p l e R s m args below meth c Q μ A cA D ad0 σ0 cf2) :
    ∀ (n : Nat) (cf : Cf), pre cl μ n cf = some cf2 → GO p l e R s m args below meth c Q μ A cA D ad0 σ0 cf := by
  have ht : ∀ μ' a σ r σ', cl μ' a σ = some (r, σ') → μ' < 231 → pcat a ≤ mL μ' → tot σ ≤ tot σ' ∧ siz σ ≤ siz σ' := fun μ' a σ r σ' h1 h2 h3 => ⟨(hcl μ' a σ r σ' h1 h2 h3).1, (hcl μ' a σ r σ' h1 h2 h3).2.1⟩
  intro n
  induction n with
  | zero => intro cf h; simp only [pre] at h; cases h; exact h2
  | succ n ih =>
    intro cf h
    obtain ⟨pc, ls, st, σ⟩ := cf
    simp only [pre] at h
    split at h
    · cases h
    · rename_i cf' hs
      obtain ⟨i, len, hd, hi⟩ := step_inv hs
      have h1 := pre_tot ht n cf' cf2 h
      exact (stepI_GO fx ⟨by omega, by omega⟩ hd hi).2.2 (by omega) (by omega) (ih cf' h)
    · cases h
    · rename_i q hs
      obtain ⟨i, len, hd, hi⟩ := step_inv hs
      obtain ⟨idx, kd, μ', na, cls, ml, hlen, hi2, hk, hc⟩ := stepI_call hi
      subst hlen
      split at h
      · rename_i w hw
        obtain ⟨r1, σ1⟩ := w
        obtain ⟨c1, c2, c3, c4, c5, c6, c7⟩ := call_GO (p := p) (l := l) (e := e) (R := R) (below := below) (Q := Q) (d := d) (rv := r1) (σ' := σ1) fx hR hi2 rfl (by
          rcases hk with ⟨h1, rfl⟩ | ⟨h1, rfl⟩ | ⟨h1, rfl⟩
          · exact Or.inl ⟨h1, hd⟩
          · exact Or.inr (Or.inl ⟨h1, hd⟩)
          · exact Or.inr (Or.inr ⟨h1, hd⟩)) hc
        have hm := hcl _ _ _ r1 σ1 hw (by rw [c1]; exact c2) (by rw [c1]; exact c3)
        rw [c1, c6] at hm
        have h1 := pre_tot ht n _ cf2 h
        have k := ih _ h
        rw [c4, c5] at k
        dsimp only at h1
        exact c7 hm (by omega) (by omega) k
      · cases h
theorem sw_rf {m : PM} {L : Nat} (hst : ∀ o k r : Int, stat o k = some r → m o k = r) (o k : Int) : rf (m, (some 129, ([], L))) o k = rf (m, (none, ([], L))) o k := by
  show m o k = (stat o k).getD (m o k)
  cases h : stat o k with
  | none => rfl
  | some r => exact hst o k r h
theorem sw_shp (m : PM) (L : Nat) (i : Int) : shp (m, (some 129, ([], L))) i = shp (m, (none, ([], L))) i := by
  unfold shp
  by_cases h0 : i < 0
  · rw [if_pos h0, if_pos h0]
  · rw [if_neg h0, if_neg h0]
    by_cases h1 : i < 129
    · rw [if_pos h1, if_pos h1]
      show (if i < ((129 : Nat) : Int) then dSh i.toNat else (99, 0)) = dSh i.toNat
      rw [if_pos (by omega)]
    · rw [if_neg h1, if_neg h1]
      rfl
theorem sw_fvl {m : PM} {L : Nat} (hst : ∀ o k r : Int, stat o k = some r → m o k = r) (o : Int) (ci k : Nat) : fvl (m, (some 129, ([], L))) o ci k = fvl (m, (none, ([], L))) o ci k := by
  unfold fvl
  rw [sw_rf hst]
theorem sw_tot (m : PM) (L : Nat) : tot (m, (some 129, ([], L))) = tot (m, (none, ([], L))) := rfl
theorem sw_siz (m : PM) (L : Nat) : siz (m, (some 129, ([], L))) = siz (m, (none, ([], L))) := by
  unfold siz
  dsimp only
  rw [List.map_nil, List.sum_nil, Nat.add_zero, show NB = 129 from rfl]
theorem sw_okv (m : PM) (L : Nat) (v : PV) : okv (m, (some 129, ([], L))) v = okv (m, (none, ([], L))) v := by
  match v with
  | .inl _ => rfl
  | .inr (.inl _) => rfl
  | .inr (.inr _) => rfl
theorem sw_wcell {m : PM} {L : Nat} (hst : ∀ o k r : Int, stat o k = some r → m o k = r) (cA : Nat → ClassId) (ad : Int → Option Nat) (i : Nat) : wcell cA ad (m, (some 129, ([], L))) i = wcell cA ad (m, (none, ([], L))) i := by
  unfold wcell
  simp only [sw_shp, sw_fvl hst, sw_rf hst]
theorem sw_wof {m : PM} {L : Nat} (hst : ∀ o k r : Int, stat o k = some r → m o k = r) (cA : Nat → ClassId) (ad : Int → Option Nat) : wof cA ad (m, (some 129, ([], L))) = wof cA ad (m, (none, ([], L))) := by
  unfold wof
  rw [sw_tot]
  simp only [sw_wcell hst]
theorem sw_WF {m : PM} {L : Nat} (hst : ∀ o k r : Int, stat o k = some r → m o k = r) (h : WF (m, (some 129, ([], L)))) : WF (m, (none, ([], L))) := by
  intro i hi
  have := h i hi
  unfold WFc at this ⊢
  simp only [sw_shp, sw_fvl hst, sw_rf hst, sw_okv, sw_tot] at this
  exact this
theorem sw_GO {m1 : PM} {L : Nat} (hst : ∀ o k r : Int, stat o k = some r → m1 o k = r) (h : GO p l e R s m args below meth c Q μ A cA D ad0 σ0 (pc, (ls, (st, (m1, (none, ([], L))))))) : GO p l e R s m args below meth c Q μ A cA D ad0 σ0 (pc, (ls, (st, (m1, (some 129, ([], L)))))) := by
  intro ad H locs cells slots lsA hw hlo hsk
  obtain ⟨w1, w2, w3, w4, w5, w6, w7, w8, w9, w10⟩ := hw
  refine h ad H locs cells slots lsA ⟨?_, ?_, w3, sw_WF hst w4, ⟨w5.1, fun i hi => w5.2 i (by dsimp only; rw [sw_tot]; exact hi)⟩, w6, w7, w8, (by dsimp only at w9 ⊢; rw [← sw_tot]; exact w9), (by dsimp only at w10 ⊢; rw [← sw_siz]; exact w10)⟩ ⟨hlo.1, hlo.2.1, hlo.2.2.1, fun i v hi => ⟨(hlo.2.2.2 i v hi).1, ?_⟩⟩ (fun v hv => ?_)
  · have := w1
    rw [sw_wof hst] at this
    exact this
  · have := w2
    rw [sw_wof hst] at this
    exact this
  · rw [← sw_okv]; exact (hlo.2.2.2 i v hi).2
  · rw [← sw_okv]; exact hsk v hv
end SNW
