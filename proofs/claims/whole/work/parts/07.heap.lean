/-! EACH STEP of the pure machine: fields, rows, new cells. -/
theorem shp_mem (m' : PM) (σ : PS) (i : Int) : shp (m', σ.2) i = shp σ i := rfl
theorem tot_mem (m' : PM) (σ : PS) : tot (m', σ.2) = tot σ := rfl
theorem siz_mem (m' : PM) (σ : PS) : siz (m', σ.2) = siz σ := rfl
theorem rf_mem {m' : PM} {σ : PS} {j : Int} (h : ∀ k, m' j k = σ.1 j k) (k : Int) : rf (m', σ.2) j k = rf σ j k := by unfold rf; simp only [h]
theorem fvl_mem {m' : PM} {σ : PS} {j : Int} (h : ∀ k, m' j k = σ.1 j k) (ci k : Nat) : fvl (m', σ.2) j ci k = fvl σ j ci k := by unfold fvl; rw [rf_mem h]; simp only [h]
theorem wcell_mem {cA : Nat → ClassId} {ad : Int → Option Nat} {m' : PM} {σ : PS} {j : Nat} (h : ∀ k, m' j k = σ.1 j k) : wcell cA ad (m', σ.2) j = wcell cA ad σ j := by
  unfold wcell
  simp only [shp_mem, fvl_mem h, rf_mem h, h]
theorem okv_mem (m' : PM) (σ : PS) (v : PV) : okv (m', σ.2) v = okv σ v := by
  cases v with
  | inl z => rfl
  | inr v => cases v <;> rfl
theorem WFc_mem {m' : PM} {σ : PS} {j : Nat} (h : ∀ k, m' j k = σ.1 j k) (hw : WFc σ j) : WFc (m', σ.2) j := by
  unfold WFc at *
  simp only [shp_mem, fvl_mem h, rf_mem h, h, okv_mem, tot_mem]
  exact hw
theorem WFc_obj {σ : PS} {i ci k : Nat} (h : WFc σ i) (hs : shp σ i = (0, ci)) (hk : k < nfT ci) : okv σ (fvl σ i ci k) := by
  unfold WFc at h
  obtain ⟨-, h2, -⟩ := h
  rw [hs] at h2
  exact (h2 rfl).2 k hk
theorem Lo_mem {ad : Int → Option Nat} {n : Nat} {lsA : Array Slot} {ls : PL} {σ : PS} (m' : PM) (h : Lo ad n lsA ls σ) : Lo ad n lsA ls (m', σ.2) := ⟨h.1, h.2.1, h.2.2.1, fun i v hi => by rw [okv_mem]; exact h.2.2.2 i v hi⟩
theorem Sk_mem {σ : PS} {st : List PV} (m' : PM) (h : Sk σ st) : Sk (m', σ.2) st := fun v hv => by rw [okv_mem]; exact h v hv
section SNH
variable {p : Program} {l : Launch} {e : Env} {R : Room} {s : State} {m : MethodId} {args : Array Value} {below : List Frame} {meth : Method} {c : Code} {Q : State → Prop} {μ : Nat} {A : Nat → Prop} {cA : Nat → ClassId} {D : va_G} {ad0 ad : Int → Option Nat} {σ0 σ : PS} {pc : Nat} {ls : PL} {st r : List PV} {H H1 : Heap} {locs locs1 : List Loc} {cells slots : Nat} {lsA : Array Slot}
theorem at_cell (hw : Wd s A cA D ad0 σ0 ad H locs cells slots σ) {o : Int} (h6 : (shp σ o).1 ≤ 6) (h0 : 0 ≤ o) : ∃ i q : Nat, o = i ∧ i < tot σ ∧ ad o = some q ∧ (wof cA ad σ)[i]? = some (q, wcell cA ad σ i) ∧ WFc σ i := by
  obtain ⟨i, rfl⟩ := Int.eq_ofNat_of_zero_le h0
  have hi : i < tot σ := by have := shp_lt h0 h6; omega
  obtain ⟨q, hq⟩ := hw.2.2.2.2.1.2 i hi
  exact ⟨i, q, rfl, hi, hq, wof_q hi hq, hw.2.2.2.1 i hi⟩
theorem Wd_set (hw : Wd s A cA D ad0 σ0 ad H locs cells slots σ) {i q : Nat} (hi : i < tot σ) (hq : ad i = some q) {m' : PM} (ho : ∀ j : Int, j ≠ i → ∀ k, m' j k = σ.1 j k) (hc : WFc (m', σ.2) i) {x : va_E} (he : wcell cA ad (m', σ.2) i = x) (P1 : va_P D vwCl ((wof cA ad σ).set i (q, x)) H1) (D1 : va_D A ((wof cA ad σ).set i (q, x))) (S1 : va_S A s.heap H1 locs1) : Wd s A cA D ad0 σ0 ad H1 locs1 cells slots (m', σ.2) := by
  obtain ⟨-, -, -, hwf, had, hn, hm, hL, hc1, hs1⟩ := hw
  have e : (wof cA ad σ).set i (q, x) = wof cA ad (m', σ.2) := wof_set hi hq rfl he (fun j _ hj => wcell_mem (ho j (by omega)))
  rw [e] at P1 D1
  refine ⟨P1, D1, S1, fun j hj => ?_, had, hn, fun a k ha => by rw [← hm a k ha]; exact ho a (by omega) k, hL, hc1, hs1⟩
  by_cases hji : j = i
  · subst hji; exact hc
  · exact WFc_mem (ho j (by omega)) (hwf j hj)
theorem wcell_obj {i ci : Nat} (h : shp σ i = (0, ci)) : wcell cA ad σ i = .inr (ci, (List.range (nfT ci)).map (fun k => cvv ad (fvl σ i ci k))) := by
  unfold wcell; rw [h]; rfl
theorem wcell_i {i : Nat} (h : (shp σ i).1 = 1 ∨ (shp σ i).1 = 2) : wcell cA ad σ i = .inl (cA (shp σ i).1, (shp σ i).2, .inl (fun k => Int32.ofInt (σ.1 i k))) := by
  unfold wcell; rw [if_neg (by omega), if_neg (by omega), if_pos (by omega)]
theorem wcell_l {i : Nat} (h : (shp σ i).1 = 3) : wcell cA ad σ i = .inl (cA 3, (shp σ i).2, .inr (.inl (fun k => Int64.ofInt (σ.1 i k)))) := by
  unfold wcell; rw [if_neg (by omega), if_pos h]
theorem wcell_r {i : Nat} (h : 4 ≤ (shp σ i).1) : wcell cA ad σ i = .inl (cA (shp σ i).1, (shp σ i).2, .inr (.inr (.inr (.inr (fun k => ad (rf σ i k)))))) := by
  unfold wcell; rw [if_neg (by omega), if_neg (by omega), if_neg (by omega)]
theorem S_getf {idx ci k : Nat} {o : Int} (fx : Fx p s m args meth c μ A cA D ad0 σ0) (hd : ClassFile.decode (mB μ) pc = .ok (.getfield idx, 3)) (hf : fld (mO μ) idx = some (ci, k)) (hsh : shp σ o = (0, ci))
    (kk : GO p l e R s m args below meth c Q μ A cA D ad0 σ0 (pc + 3, (ls, (fvl σ o ci k :: r, σ)))) : GO p l e R s m args below meth c Q μ A cA D ad0 σ0 (pc, (ls, (.inr (.inr o) :: r, σ))) := by
  intro ad H locs cells slots lsA (hw : Wd s A cA D ad0 σ0 ad H locs cells slots σ) (hlo : Lo ad (mL μ) lsA ls σ) hs
  obtain ⟨hci, hk, hlk⟩ := fld_inv hf
  obtain ⟨i, q, rfl, hi, hq, hc, hwf⟩ := at_cell hw (by rw [hsh]; exact Nat.zero_le _) (shp_nn (σ := σ) (by rw [hsh]; exact Nat.zero_le _) (by rw [hsh]; intro h; cases h))
  obtain ⟨cl, hcl, n1, n2, n3⟩ := cl_some hci
  have hv : okv σ (fvl σ i ci k) := by
    exact WFc_obj hwf hsh hk
  have kk := kk ad H locs cells slots lsA hw hlo (Sk_cons hv (Sk_tl hs))
  simp only [List.map_cons, cvv, hq] at kk ⊢
  rw [wcell_obj hsh] at hc
  rw [fT_of hcl] at hlk
  exact va_get (D := D) (cl := vwCl) (C := cl.1) (T := cl.2.1) (N := cl.2.2) (ref := (cl.2.1 k).1) fx.1 fx.2.1 fx.2.2.2.2.1 (cl_words ci cl hcl) fx.2.2.2.1 fx.2.2.2.2.2.2.1 hw.1 i hc hcl k (by rw [n2]; exact hk) (fx.2.2.2.2.1 _ hlk) (fun _ h => h) (v := cvv ad (fvl σ i ci k)) (by rw [List.getElem?_map, List.getElem?_range hk]; rfl) hd kk
/-- what a field may be given -/
theorem tag_fits {ty : FieldType} {v : PV} {z : Int} (ht : (tyTag ty = 0 ∧ v = .inl z) ∨ (tyTag ty = 3 ∧ v = .inl z ∧ (z = 0 ∨ z = 1)) ∨ (tyTag ty = 2 ∧ v = .inr (.inr z))) : narrow ty (cvv ad v) = cvv ad v ∧ fits ty (cvv ad v) = true := by
  rcases ht with ⟨h, rfl⟩ | ⟨h, rfl, rfl | rfl⟩ | ⟨h, rfl⟩
  · cases ty <;> simp [tyTag] at h
    exact ⟨rfl, rfl⟩
  · cases ty <;> simp [tyTag] at h
    exact ⟨rfl, rfl⟩
  · cases ty <;> simp [tyTag] at h
    exact ⟨rfl, rfl⟩
  · cases ty <;> simp [tyTag] at h
    all_goals
      simp only [cvv]
      cases ad z <;> exact ⟨rfl, rfl⟩
theorem S_putf {idx ci k : Nat} {o z : Int} {v : PV} (fx : Fx p s m args meth c μ A cA D ad0 σ0) (hd : ClassFile.decode (mB μ) pc = .ok (.putfield idx, 3)) (hf : fld (mO μ) idx = some (ci, k)) (h0 : 0 ≤ o) (hsh : shp σ o = (0, ci)) (hfin : ffn ci k = false ∨ (mI μ = true ∧ mO μ = ci))
    (ht : (ftg ci k = 0 ∧ v = .inl z) ∨ (ftg ci k = 3 ∧ v = .inl z ∧ (z = 0 ∨ z = 1)) ∨ (ftg ci k = 2 ∧ v = .inr (.inr z) ∧ (σ.2.1 = none → stat o k = none)))
    (kk : GO p l e R s m args below meth c Q μ A cA D ad0 σ0 (pc + 3, (ls, (r, (up σ.1 o k z, σ.2))))) : GO p l e R s m args below meth c Q μ A cA D ad0 σ0 (pc, (ls, (v :: .inr (.inr o) :: r, σ))) := by
  intro ad H locs cells slots lsA (hw : Wd s A cA D ad0 σ0 ad H locs cells slots σ) (hlo : Lo ad (mL μ) lsA ls σ) hs
  obtain ⟨hci, hk, hlk⟩ := fld_inv hf
  obtain ⟨i, q, rfl, hi, hq, hc, hwf⟩ := at_cell hw (by rw [hsh]; exact Nat.zero_le _) h0
  obtain ⟨cl, hcl, n1, n2, n3⟩ := cl_some hci
  have hok : okv σ v := Sk_hd hs
  rw [wcell_obj hsh] at hc
  rw [fT_of hcl] at hlk
  obtain ⟨t1, t2, t3, -⟩ := n3 k hk
  obtain ⟨f1, f2⟩ := tag_fits (ad := ad) (ty := clTy ci k) (v := v) (z := z) (by rw [← t1]; rcases ht with h | h | ⟨a, b, -⟩; exact Or.inl h; exact Or.inr (Or.inl h); exact Or.inr (Or.inr ⟨a, b⟩))
  have hup : ∀ j : Int, j ≠ i → ∀ k', up σ.1 i k z j k' = σ.1 j k' := fun j hj k' => by unfold up; rw [if_neg (fun h => hj h.1)]
  have hfv : ∀ j : Nat, fvl (up σ.1 i k z, σ.2) i ci j = if j = k then v else fvl σ i ci j := by
    intro j
    by_cases hj : j = k
    · subst hj
      rw [if_pos rfl]
      unfold fvl
      rcases ht with ⟨a, rfl⟩ | ⟨a, rfl, -⟩ | ⟨a, rfl, b⟩
      · rw [a, if_neg (by decide)]; simp [up]
      · rw [a, if_neg (by decide)]; simp [up]
      · rw [a, if_pos rfl]
        unfold rf
        cases hm : σ.2.1 with
        | none => simp [b hm, up]
        | some n => simp [up]
    · rw [if_neg hj]
      have hne : ¬ ((j : Int) = (k : Int)) := by omega
      unfold fvl rf
      simp [up, hne]
  have he : wcell cA ad (up σ.1 i k z, σ.2) i = .inr (ci, ((List.range (nfT ci)).map (fun k => cvv ad (fvl σ i ci k))).set k (cvv ad v)) := by
    rw [wcell_obj (σ := (up σ.1 i k z, σ.2)) hsh]
    refine congrArg (fun x => Sum.inr (ci, x)) (List.ext_getElem? fun j => ?_)
    rw [List.getElem?_set, List.getElem?_map, List.getElem?_map]
    by_cases hjn : j < nfT ci
    · rw [List.getElem?_range hjn, Option.map_some, Option.map_some, hfv j, List.length_map, List.length_range]
      by_cases hj : j = k
      · subst hj; rw [if_pos rfl, if_pos rfl, if_pos hjn]
      · rw [if_neg hj, if_neg (fun h => hj h.symm)]
    · rw [List.getElem?_eq_none (l := List.range (nfT ci)) (by rw [List.length_range]; omega), if_neg (by omega)]
      rfl
  have hcw : WFc (up σ.1 i k z, σ.2) i := by
    obtain ⟨w1, w2, w3, w4, w5, w6⟩ := hwf
    refine ⟨w1, fun h => ⟨(w2 h).1, fun j hj => ?_⟩, fun h => ?_, fun h => ?_, fun h => ?_, w6⟩
    · have g2 : (shp σ i).2 = ci := by rw [hsh]
      rw [shp_mem, g2, hfv j, okv_mem]
      by_cases hjk : j = k
      · rw [if_pos hjk]; exact hok
      · rw [if_neg hjk]
        rw [shp_mem, g2] at hj
        exact WFc_obj ⟨w1, w2, w3, w4, w5, w6⟩ hsh hj
    · rw [shp_mem, hsh] at h; cases h
    · rw [shp_mem, hsh] at h; rcases h with h | h <;> cases h
    · rw [shp_mem, hsh] at h; exact absurd h (show ¬ 4 ≤ (0 : Nat) by decide)
  have hl : k < ((List.range (nfT ci)).map (fun k => cvv ad (fvl σ i ci k))).length := by rw [List.length_map, List.length_range]; exact hk
  simp only [List.map_cons]
  rw [show cvv ad (.inr (.inr (i : Int))) = .ref q by simp only [cvv, hq]; rfl]
  rcases hb : ffn ci k with _ | _
  · refine va_put (D := D) (cl := vwCl) (C := cl.1) (T := cl.2.1) (N := cl.2.2) (ref := (cl.2.1 k).1) (ty := clTy ci k) fx.1 fx.2.1 fx.2.2.2.2.1 (cl_words ci cl hcl) (clTy ci) (cl_types ci cl hcl) (cl_names ci cl hcl) fx.2.2.2.1 fx.2.2.2.2.2.2.1 hw.1 hw.2.1 hw.2.2.1 i hc hcl k (by rw [n2]; exact hk) (fx.2.2.2.2.1 _ hlk) (fun _ h => h) (by rw [← t2]; exact hb) (cl_types ci cl hcl k (by rw [n2]; exact hk)) f1 f2 hl hd (fun H1 locs1 P1 D1 S1 => ?_)
    exact kk ad H1 locs1 cells slots lsA (Wd_set hw hi hq hup hcw he P1 D1 S1) (Lo_mem _ hlo) (Sk_mem _ (Sk_tl (Sk_tl hs)))
  · rcases hfin with hfin | ⟨hfin, hown⟩
    · rw [hb] at hfin; cases hfin
    · refine va_putF (D := D) (cl := vwCl) (C := cl.1) (T := cl.2.1) (N := cl.2.2) (ref := (cl.2.1 k).1) (ty := clTy ci k) fx.1 fx.2.1 fx.2.2.2.2.1 (cl_words ci cl hcl) (clTy ci) (cl_types ci cl hcl) (cl_names ci cl hcl) fx.2.2.2.1 fx.2.2.2.2.2.2.1 hw.1 hw.2.1 hw.2.2.1 i hc hcl k (by rw [n2]; exact hk) (fx.2.2.2.2.1 _ hlk) (fun _ h => h) (by rw [← t2]; exact hb) (fx.2.2.2.2.2.1 hfin) (by rw [t3, hown]) (cl_types ci cl hcl k (by rw [n2]; exact hk)) f1 f2 hl hd (fun H1 locs1 P1 D1 S1 => ?_)
      exact kk ad H1 locs1 cells slots lsA (Wd_set hw hi hq hup hcw he P1 D1 S1) (Lo_mem _ hlo) (Sk_mem _ (Sk_tl (Sk_tl hs)))
theorem const_row {a : Int} (h1 : (shp σ a).1 = 1) (h : a < 0) : (a = -2 ∧ (shp σ a).2 = 7) ∨ (a = -3 ∧ (shp σ a).2 = σ.2.2.2) := by
  unfold shp at h1 ⊢
  rw [if_pos h] at h1 ⊢
  unfold cSh at h1 ⊢
  by_cases a1 : a = -2
  · subst a1; exact Or.inl ⟨rfl, rfl⟩
  by_cases a2 : a = -3
  · subst a2; exact Or.inr ⟨rfl, rfl⟩
  rw [if_neg a1, if_neg a2] at h1
  by_cases a3 : a = -20
  · rw [if_pos a3] at h1; exact absurd h1 (by decide)
  by_cases a4 : a = -21
  · rw [if_neg a3, if_pos a4] at h1; exact absurd h1 (by decide)
  by_cases a5 : a = -22
  · rw [if_neg a3, if_neg a4, if_pos a5] at h1; exact absurd h1 (by decide)
  rw [if_neg a3, if_neg a4, if_neg a5] at h1
  by_cases a6 : a = -10 ∨ a = -11 ∨ a = -12
  · rw [if_pos a6] at h1; exact absurd h1 (by decide)
  rw [if_neg a6] at h1
  exact absurd h1 (by decide)
theorem const_txt {a : Int} (h1 : (shp σ a).1 = 7) (h : a < 0) : ∃ i : Nat, i < 3 ∧ a = -20 - i ∧ (shp σ a).2 = lenS.getD i 0 := by
  unfold shp at h1 ⊢
  rw [if_pos h] at h1 ⊢
  unfold cSh at h1 ⊢
  by_cases a1 : a = -2
  · rw [if_pos a1] at h1; exact absurd h1 (by decide)
  by_cases a2 : a = -3
  · rw [if_neg a1, if_pos a2] at h1; exact absurd h1 (show ¬ (1 : Nat) = 7 by decide)
  rw [if_neg a1, if_neg a2] at h1 ⊢
  by_cases a3 : a = -20
  · subst a3; exact ⟨0, by omega, rfl, rfl⟩
  by_cases a4 : a = -21
  · subst a4; exact ⟨1, by omega, rfl, rfl⟩
  by_cases a5 : a = -22
  · subst a5; exact ⟨2, by omega, rfl, rfl⟩
  rw [if_neg a3, if_neg a4, if_neg a5] at h1
  by_cases a6 : a = -10 ∨ a = -11 ∨ a = -12
  · rw [if_pos a6] at h1; exact absurd h1 (by decide)
  rw [if_neg a6] at h1
  exact absurd h1 (by decide)
theorem shp_out {a : Int} (h0 : 0 ≤ a) (h : ¬ a < tot σ) : shp σ a = (99, 0) := by
  unfold shp
  rw [if_neg (by omega)]
  unfold tot at h
  cases hm : σ.2.1 with
  | none =>
    rw [hm] at h
    dsimp only at h ⊢
    unfold NB at *
    rw [if_neg (by omega), List.getD_eq_getElem?_getD, List.getElem?_eq_none (by omega)]
    rfl
  | some n =>
    rw [hm] at h
    dsimp only at h ⊢
    rw [if_neg h]
    split <;> rfl
theorem shp_7 (hw : Wd s A cA D ad0 σ0 ad H locs cells slots σ) {a : Int} (h1 : (shp σ a).1 = 7) : a < 0 := by
  by_cases h : a < 0
  · exact h
  · exfalso
    by_cases h2 : a < tot σ
    · obtain ⟨i, rfl⟩ := Int.eq_ofNat_of_zero_le (show 0 ≤ a by omega)
      have := (hw.2.2.2.1 i (by omega)).1
      omega
    · rw [shp_out (by omega) h2] at h1
      exact absurd h1 (by decide)
theorem nat_at {m : PM} {a i : Int} (h : 0 ≤ i) : m a (i.toNat : Int) = m a i := by rw [Int.toNat_of_nonneg h]
/-- the length of a row is small -/
theorem len_small (fx : Fx p s m args meth c μ A cA D ad0 σ0) (hw : Wd s A cA D ad0 σ0 ad H locs cells slots σ) {a : Int} (h1 : (shp σ a).1 ≤ 7) : (shp σ a).2 ≤ 100000 := by
  by_cases h : a < 0
  · unfold shp
    rw [if_pos h]
    have hL := fx.2.2.2.2.2.2.2.2.2.2.2.2.2.2.2.2.1
    rw [hw.2.2.2.2.2.2.2.1]
    unfold cSh
    split
    · decide
    split
    · exact hL
    split
    · decide
    split
    · decide
    split
    · decide
    split
    · decide
    · decide
  · by_cases h2 : a < tot σ
    · obtain ⟨i, rfl⟩ := Int.eq_ofNat_of_zero_le (show 0 ≤ a by omega)
      have := (hw.2.2.2.1 i (by omega)).2.2.2.2.2
      omega
    · rw [shp_out (by omega) h2]
      decide
theorem S_iald {a i : Int} (fx : Fx p s m args meth c μ A cA D ad0 σ0) (hd : ClassFile.decode (mB μ) pc = .ok (.iaload, 1)) (h1 : (shp σ a).1 = 1) (h2 : 0 ≤ i) (h3 : i < (shp σ a).2)
    (kk : GO p l e R s m args below meth c Q μ A cA D ad0 σ0 (pc + 1, (ls, (.inl (σ.1 a i) :: r, σ)))) : GO p l e R s m args below meth c Q μ A cA D ad0 σ0 (pc, (ls, (.inl i :: .inr (.inr a) :: r, σ))) := by
  intro ad H locs cells slots lsA (hw : Wd s A cA D ad0 σ0 ad H locs cells slots σ) (hlo : Lo ad (mL μ) lsA ls σ) hs
  have hlen := len_small fx hw (a := a) (by omega)
  have hin : vp_in (Int32.ofInt i) (shp σ a).2 := o_in h2 h3 (by omega)
  have hcl : (Int32.ofInt i).toNatClampNeg = i.toNat := o_clamp h2 (by omega)
  by_cases ha : a < 0
  · obtain ⟨⟨t2, b1, b2, -⟩, ⟨t3, c1, c2⟩, -, -, -, -, r2, r3, -⟩ := fx.2.2.2.2.2.2.2.2
    rcases const_row h1 ha with ⟨rfl, hn⟩ | ⟨rfl, hn⟩
    · rw [hn] at hin h3
      have e : σ.1 (-2) i = σ0.1 (-2) (i.toNat : Int) := by rw [hw.2.2.2.2.2.2.1 (-2) i (by omega), Int.toNat_of_nonneg h2]
      have kk := kk ad H locs cells slots lsA hw hlo (Sk_cons (show in32 (σ.1 (-2) i) by rw [e]; exact r2 _ (by omega)) (Sk_tl (Sk_tl hs)))
      simp only [List.map_cons, cvv, hw.2.2.2.2.2.1 (-2) (by omega), b1] at kk ⊢
      exact va_ti fx.1 fx.2.1 b2 hw.2.2.1 hin (by rw [hcl, e]) hd kk
    · rw [hn, hw.2.2.2.2.2.2.2.1] at hin h3
      have e : σ.1 (-3) i = σ0.1 (-3) (i.toNat : Int) := by rw [hw.2.2.2.2.2.2.1 (-3) i (by omega), Int.toNat_of_nonneg h2]
      have kk := kk ad H locs cells slots lsA hw hlo (Sk_cons (show in32 (σ.1 (-3) i) by rw [e]; exact r3 _ (by omega)) (Sk_tl (Sk_tl hs)))
      simp only [List.map_cons, cvv, hw.2.2.2.2.2.1 (-3) (by omega), c1] at kk ⊢
      exact va_ti fx.1 fx.2.1 c2 hw.2.2.1 hin (by rw [hcl, e]) hd kk
  · obtain ⟨j, q, rfl, hj, hq, hc, hwf⟩ := at_cell hw (o := a) (by omega) (by omega)
    have e : σ.1 j i = σ.1 j (i.toNat : Int) := by rw [Int.toNat_of_nonneg h2]
    have kk := kk ad H locs cells slots lsA hw hlo (Sk_cons (show in32 (σ.1 j i) by rw [e]; exact hwf.2.2.2.1 (Or.inl h1) _) (Sk_tl (Sk_tl hs)))
    simp only [List.map_cons, cvv, hq] at kk ⊢
    rw [wcell_i (Or.inl h1), h1] at hc
    refine va_iald fx.1 fx.2.1 fx.2.2.2.2.2.2.1 hw.1 j 0 hc rfl hin hd ?_
    rw [hcl, Int.toNat_of_nonneg h2]
    exact kk
theorem S_bald {a i : Int} (fx : Fx p s m args meth c μ A cA D ad0 σ0) (hd : ClassFile.decode (mB μ) pc = .ok (.baload, 1)) (h1 : (shp σ a).1 = 2 ∨ (shp σ a).1 = 7) (h2 : 0 ≤ i) (h3 : i < (shp σ a).2)
    (kk : GO p l e R s m args below meth c Q μ A cA D ad0 σ0 (pc + 1, (ls, (.inl (σ.1 a i) :: r, σ)))) : GO p l e R s m args below meth c Q μ A cA D ad0 σ0 (pc, (ls, (.inl i :: .inr (.inr a) :: r, σ))) := by
  intro ad H locs cells slots lsA (hw : Wd s A cA D ad0 σ0 ad H locs cells slots σ) (hlo : Lo ad (mL μ) lsA ls σ) hs
  have hlen := len_small fx hw (a := a) (by omega)
  have hin : vp_in (Int32.ofInt i) (shp σ a).2 := o_in h2 h3 (by omega)
  have hcl : (Int32.ofInt i).toNatClampNeg = i.toNat := o_clamp h2 (by omega)
  rcases h1 with h1 | h1
  · have ha : 0 ≤ a := shp_nn (σ := σ) (by omega) (by omega)
    obtain ⟨j, q, rfl, hj, hq, hc, hwf⟩ := at_cell hw (o := a) (by omega) (by omega)
    have e : σ.1 j i = σ.1 j (i.toNat : Int) := by rw [Int.toNat_of_nonneg h2]
    have kk := kk ad H locs cells slots lsA hw hlo (Sk_cons (show in32 (σ.1 j i) by rw [e]; exact hwf.2.2.2.1 (Or.inr h1) _) (Sk_tl (Sk_tl hs)))
    simp only [List.map_cons, cvv, hq] at kk ⊢
    rw [wcell_i (Or.inr h1), h1] at hc
    refine va_zald fx.1 fx.2.1 fx.2.2.2.2.2.2.1 hw.1 j 1 hc rfl hin hd ?_
    rw [hcl, Int.toNat_of_nonneg h2]
    exact kk
  · obtain ⟨k, hk, rfl, hn⟩ := const_txt h1 (shp_7 hw h1)
    obtain ⟨-, -, -, -, ⟨adK, adV, hS, hr⟩, hb, -⟩ := fx.2.2.2.2.2.2.2.2
    obtain ⟨-, -, -, hT⟩ := hS.1 k hk
    rw [hn] at hin h3
    have e : σ.1 (-20 - k) i = σ0.1 (-20 - k) (i.toNat : Int) := by rw [hw.2.2.2.2.2.2.1 (-20 - k) i (by omega), Int.toNat_of_nonneg h2]
    obtain ⟨b1, b2⟩ := hb k hk i.toNat (by omega)
    have kk := kk ad H locs cells slots lsA hw hlo (Sk_cons (show in32 (σ.1 (-20 - k) i) by rw [e]; exact b2) (Sk_tl (Sk_tl hs)))
    simp only [List.map_cons, cvv, hw.2.2.2.2.2.1 (-20 - k) (by omega), (hr k hk).2.1] at kk ⊢
    exact va_tb fx.1 fx.2.1 hT hw.2.2.1 hin (by rw [hcl, e, b1]) hd kk
theorem S_lald {a i : Int} (fx : Fx p s m args meth c μ A cA D ad0 σ0) (hd : ClassFile.decode (mB μ) pc = .ok (.laload, 1)) (h1 : (shp σ a).1 = 3) (h2 : 0 ≤ i) (h3 : i < (shp σ a).2)
    (kk : GO p l e R s m args below meth c Q μ A cA D ad0 σ0 (pc + 1, (ls, (.inr (.inl (σ.1 a i)) :: r, σ)))) : GO p l e R s m args below meth c Q μ A cA D ad0 σ0 (pc, (ls, (.inl i :: .inr (.inr a) :: r, σ))) := by
  intro ad H locs cells slots lsA (hw : Wd s A cA D ad0 σ0 ad H locs cells slots σ) (hlo : Lo ad (mL μ) lsA ls σ) hs
  have hlen := len_small fx hw (a := a) (by omega)
  have hin : vp_in (Int32.ofInt i) (shp σ a).2 := o_in h2 h3 (by omega)
  have hcl : (Int32.ofInt i).toNatClampNeg = i.toNat := o_clamp h2 (by omega)
  have ha : 0 ≤ a := shp_nn (σ := σ) (by omega) (by omega)
  obtain ⟨j, q, rfl, hj, hq, hc, hwf⟩ := at_cell hw (o := a) (by omega) (by omega)
  have e : σ.1 j i = σ.1 j (i.toNat : Int) := by rw [Int.toNat_of_nonneg h2]
  have kk := kk ad H locs cells slots lsA hw hlo (Sk_cons (show in64 (σ.1 j i) by rw [e]; exact hwf.2.2.1 h1 _) (Sk_tl (Sk_tl hs)))
  simp only [List.map_cons, cvv, hq] at kk ⊢
  rw [wcell_l h1] at hc
  refine va_lald fx.1 fx.2.1 fx.2.2.2.2.2.2.1 hw.1 j 2 hc rfl hin hd ?_
  rw [hcl, Int.toNat_of_nonneg h2]
  exact kk
theorem tyL_r {t : Nat} (h : 4 ≤ t) (h2 : t ≤ 6) : (tyL cA)[t - 1]? = some (cA t, .object (cN (ecl t))) := by
  rcases (show t = 4 ∨ t = 5 ∨ t = 6 by omega) with rfl | rfl | rfl <;> rfl
theorem S_aald {a i : Int} (fx : Fx p s m args meth c μ A cA D ad0 σ0) (hd : ClassFile.decode (mB μ) pc = .ok (.aaload, 1)) (h1 : 4 ≤ (shp σ a).1) (h6 : (shp σ a).1 ≤ 6) (h2 : 0 ≤ i) (h3 : i < (shp σ a).2)
    (kk : GO p l e R s m args below meth c Q μ A cA D ad0 σ0 (pc + 1, (ls, (.inr (.inr (rf σ a i)) :: r, σ)))) : GO p l e R s m args below meth c Q μ A cA D ad0 σ0 (pc, (ls, (.inl i :: .inr (.inr a) :: r, σ))) := by
  intro ad H locs cells slots lsA (hw : Wd s A cA D ad0 σ0 ad H locs cells slots σ) (hlo : Lo ad (mL μ) lsA ls σ) hs
  have hlen := len_small fx hw (a := a) (by omega)
  have hin : vp_in (Int32.ofInt i) (shp σ a).2 := o_in h2 h3 (by omega)
  have hcl : (Int32.ofInt i).toNatClampNeg = i.toNat := o_clamp h2 (by omega)
  have ha : 0 ≤ a := shp_nn (σ := σ) (by omega) (by omega)
  obtain ⟨j, q, rfl, hj, hq, hc, hwf⟩ := at_cell hw (o := a) (by omega) (by omega)
  have e : rf σ j i = rf σ j (i.toNat : Int) := by rw [Int.toNat_of_nonneg h2]
  have kk := kk ad H locs cells slots lsA hw hlo (Sk_cons (show rf σ j i < (tot σ : Int) by rw [e]; exact hwf.2.2.2.2.1 h1 _) (Sk_tl (Sk_tl hs)))
  simp only [List.map_cons, cvv, hq] at kk ⊢
  rw [wcell_r h1] at hc
  refine va_aldq fx.1 fx.2.1 fx.2.2.2.2.2.2.1 hw.1 j ((shp σ j).1 - 1) hc (tyL_r h1 h6) hin hd ?_
  rw [hcl, Int.toNat_of_nonneg h2]
  exact kk
theorem row_up {f : Int → Int} {i : Int} (h2 : 0 ≤ i) (k : Nat) (z : Int) : (if (k : Int) = i then z else f k) = if k = i.toNat then z else f k := by
  by_cases h : k = i.toNat
  · rw [if_pos h, if_pos (by omega)]
  · rw [if_neg h, if_neg (by omega)]
theorem up_self (m' : PM) (a i z : Int) (k : Int) : up m' a i z a k = if k = i then z else m' a k := by simp [up]
theorem up_off {m' : PM} {a i z : Int} {j : Int} (hj : j ≠ a) (k : Int) : up m' a i z j k = m' j k := by simp [up, hj]
theorem S_iast {a i z : Int} (fx : Fx p s m args meth c μ A cA D ad0 σ0) (hd : ClassFile.decode (mB μ) pc = .ok (.iastore, 1)) (h0 : 0 ≤ a) (h1 : (shp σ a).1 = 1) (h2 : 0 ≤ i) (h3 : i < (shp σ a).2)
    (kk : GO p l e R s m args below meth c Q μ A cA D ad0 σ0 (pc + 1, (ls, (r, (up σ.1 a i z, σ.2))))) : GO p l e R s m args below meth c Q μ A cA D ad0 σ0 (pc, (ls, (.inl z :: .inl i :: .inr (.inr a) :: r, σ))) := by
  intro ad H locs cells slots lsA (hw : Wd s A cA D ad0 σ0 ad H locs cells slots σ) (hlo : Lo ad (mL μ) lsA ls σ) hs
  have hlen := len_small fx hw (a := a) (by omega)
  have hin : vp_in (Int32.ofInt i) (shp σ a).2 := o_in h2 h3 (by omega)
  have hcl : (Int32.ofInt i).toNatClampNeg = i.toNat := o_clamp h2 (by omega)
  have hz : in32 z := Sk_hd hs
  obtain ⟨j, q, rfl, hj, hq, hc, hwf⟩ := at_cell hw (o := a) (by omega) (by omega)
  simp only [List.map_cons, cvv, hq]
  rw [wcell_i (Or.inl h1), h1] at hc
  refine va_iast fx.1 fx.2.1 fx.2.2.2.2.2.2.1 hw.1 hw.2.1 hw.2.2.1 j 0 hc rfl hin hd (fun H1 locs1 P1 D1 S1 => ?_)
  refine kk ad H1 locs1 cells slots lsA (Wd_set hw hj hq (fun _ hj2 k => up_off hj2 k) ⟨hwf.1, fun h => ?_, fun h => ?_, fun _ k => ?_, fun h => ?_, hwf.2.2.2.2.2⟩ ?_ P1 D1 S1) (Lo_mem _ hlo) (Sk_mem _ (Sk_tl (Sk_tl (Sk_tl hs))))
  · rw [shp_mem] at h; omega
  · rw [shp_mem] at h; omega
  · show in32 (up σ.1 j i z j k)
    rw [up_self]
    split
    · exact hz
    · exact hwf.2.2.2.1 (Or.inl h1) k
  · rw [shp_mem] at h; omega
  · rw [wcell_i (σ := (up σ.1 j i z, σ.2)) (Or.inl h1), shp_mem, h1, hcl]
    refine congrArg (fun x => Sum.inl (cA 1, (shp σ j).2, Sum.inl x)) (funext fun k => ?_)
    show Int32.ofInt (up σ.1 j i z j k) = upd (fun k => Int32.ofInt (σ.1 j k)) i.toNat (Int32.ofInt z) k
    rw [up_self, row_up h2]
    unfold upd
    by_cases hk : k = i.toNat
    · rw [if_pos hk, if_pos hk]
    · rw [if_neg hk, if_neg hk]
theorem S_bast {a i z : Int} (fx : Fx p s m args meth c μ A cA D ad0 σ0) (hd : ClassFile.decode (mB μ) pc = .ok (.bastore, 1)) (h0 : 0 ≤ a) (h1 : (shp σ a).1 = 2) (h2 : 0 ≤ i) (h3 : i < (shp σ a).2)
    (kk : GO p l e R s m args below meth c Q μ A cA D ad0 σ0 (pc + 1, (ls, (r, (up σ.1 a i (z % 2), σ.2))))) : GO p l e R s m args below meth c Q μ A cA D ad0 σ0 (pc, (ls, (.inl z :: .inl i :: .inr (.inr a) :: r, σ))) := by
  intro ad H locs cells slots lsA (hw : Wd s A cA D ad0 σ0 ad H locs cells slots σ) (hlo : Lo ad (mL μ) lsA ls σ) hs
  have hlen := len_small fx hw (a := a) (by omega)
  have hin : vp_in (Int32.ofInt i) (shp σ a).2 := o_in h2 h3 (by omega)
  have hcl : (Int32.ofInt i).toNatClampNeg = i.toNat := o_clamp h2 (by omega)
  obtain ⟨j, q, rfl, hj, hq, hc, hwf⟩ := at_cell hw (o := a) (by omega) (by omega)
  simp only [List.map_cons, cvv, hq]
  rw [wcell_i (Or.inr h1), h1] at hc
  refine va_zast fx.1 fx.2.1 fx.2.2.2.2.2.2.1 hw.1 hw.2.1 hw.2.2.1 j 1 hc rfl hin hd (fun H1 locs1 P1 D1 S1 => ?_)
  refine kk ad H1 locs1 cells slots lsA (Wd_set hw hj hq (fun _ hj2 k => up_off hj2 k) ⟨hwf.1, fun h => ?_, fun h => ?_, fun _ k => ?_, fun h => ?_, hwf.2.2.2.2.2⟩ ?_ P1 D1 S1) (Lo_mem _ hlo) (Sk_mem _ (Sk_tl (Sk_tl (Sk_tl hs))))
  · rw [shp_mem] at h; omega
  · rw [shp_mem] at h; omega
  · show in32 (up σ.1 j i (z % 2) j k)
    rw [up_self]
    split
    · unfold in32; omega
    · exact hwf.2.2.2.1 (Or.inr h1) k
  · rw [shp_mem] at h; omega
  · rw [wcell_i (σ := (up σ.1 j i (z % 2), σ.2)) (Or.inr h1), shp_mem, h1, hcl, o_bool]
    refine congrArg (fun x => Sum.inl (cA 2, (shp σ j).2, Sum.inl x)) (funext fun k => ?_)
    show Int32.ofInt (up σ.1 j i (z % 2) j k) = upd (fun k => Int32.ofInt (σ.1 j k)) i.toNat (Int32.ofInt (z % 2)) k
    rw [up_self, row_up h2]
    unfold upd
    by_cases hk : k = i.toNat
    · rw [if_pos hk, if_pos hk]
    · rw [if_neg hk, if_neg hk]
theorem S_last {a i z : Int} (fx : Fx p s m args meth c μ A cA D ad0 σ0) (hd : ClassFile.decode (mB μ) pc = .ok (.lastore, 1)) (h0 : 0 ≤ a) (h1 : (shp σ a).1 = 3) (h2 : 0 ≤ i) (h3 : i < (shp σ a).2)
    (kk : GO p l e R s m args below meth c Q μ A cA D ad0 σ0 (pc + 1, (ls, (r, (up σ.1 a i z, σ.2))))) : GO p l e R s m args below meth c Q μ A cA D ad0 σ0 (pc, (ls, (.inr (.inl z) :: .inl i :: .inr (.inr a) :: r, σ))) := by
  intro ad H locs cells slots lsA (hw : Wd s A cA D ad0 σ0 ad H locs cells slots σ) (hlo : Lo ad (mL μ) lsA ls σ) hs
  have hlen := len_small fx hw (a := a) (by omega)
  have hin : vp_in (Int32.ofInt i) (shp σ a).2 := o_in h2 h3 (by omega)
  have hcl : (Int32.ofInt i).toNatClampNeg = i.toNat := o_clamp h2 (by omega)
  have hz : in64 z := Sk_hd hs
  obtain ⟨j, q, rfl, hj, hq, hc, hwf⟩ := at_cell hw (o := a) (by omega) (by omega)
  simp only [List.map_cons, cvv, hq]
  rw [wcell_l h1] at hc
  refine va_last fx.1 fx.2.1 fx.2.2.2.2.2.2.1 hw.1 hw.2.1 hw.2.2.1 j 2 hc rfl hin hd (fun H1 locs1 P1 D1 S1 => ?_)
  refine kk ad H1 locs1 cells slots lsA (Wd_set hw hj hq (fun _ hj2 k => up_off hj2 k) ⟨hwf.1, fun h => ?_, fun _ k => ?_, fun h => ?_, fun h => ?_, hwf.2.2.2.2.2⟩ ?_ P1 D1 S1) (Lo_mem _ hlo) (Sk_mem _ (Sk_tl (Sk_tl (Sk_tl hs))))
  · rw [shp_mem] at h; omega
  · show in64 (up σ.1 j i z j k)
    rw [up_self]
    split
    · exact hz
    · exact hwf.2.2.1 h1 k
  · rw [shp_mem] at h; omega
  · rw [shp_mem] at h; omega
  · rw [wcell_l (σ := (up σ.1 j i z, σ.2)) h1, shp_mem, hcl]
    refine congrArg (fun x => Sum.inl (cA 3, (shp σ j).2, Sum.inr (Sum.inl x))) (funext fun k => ?_)
    show Int64.ofInt (up σ.1 j i z j k) = vp_updL (fun k => Int64.ofInt (σ.1 j k)) i.toNat (Int64.ofInt z) k
    rw [up_self, row_up h2]
    unfold vp_updL
    by_cases hk : k = i.toNat
    · rw [if_pos hk, if_pos hk]
    · rw [if_neg hk, if_neg hk]
theorem S_aast {a i z : Int} (fx : Fx p s m args meth c μ A cA D ad0 σ0) (hd : ClassFile.decode (mB μ) pc = .ok (.aastore, 1)) (h0 : 0 ≤ a) (h1 : 4 ≤ (shp σ a).1) (h6 : (shp σ a).1 ≤ 6) (h2 : 0 ≤ i) (h3 : i < (shp σ a).2) (hz0 : 0 ≤ z) (hzs : shp σ z = (0, ecl (shp σ a).1)) (hst : σ.2.1 = none → stat a i = none)
    (kk : GO p l e R s m args below meth c Q μ A cA D ad0 σ0 (pc + 1, (ls, (r, (up σ.1 a i z, σ.2))))) : GO p l e R s m args below meth c Q μ A cA D ad0 σ0 (pc, (ls, (.inr (.inr z) :: .inl i :: .inr (.inr a) :: r, σ))) := by
  intro ad H locs cells slots lsA (hw : Wd s A cA D ad0 σ0 ad H locs cells slots σ) (hlo : Lo ad (mL μ) lsA ls σ) hs
  have hlen := len_small fx hw (a := a) (by omega)
  have hin : vp_in (Int32.ofInt i) (shp σ a).2 := o_in h2 h3 (by omega)
  have hcl : (Int32.ofInt i).toNatClampNeg = i.toNat := o_clamp h2 (by omega)
  have hz : z < (tot σ : Int) := Sk_hd hs
  obtain ⟨j, q, rfl, hj, hq, hc, hwf⟩ := at_cell hw (o := a) (by omega) (by omega)
  obtain ⟨jz, qz, rfl, hjz, hqz, hcz, -⟩ := at_cell hw (o := z) (by rw [hzs]; exact Nat.zero_le _) hz0
  obtain ⟨cl, hcl2, n1, -⟩ := cl_some (ci := ecl (shp σ j).1) (by rcases (show (shp σ j).1 = 4 ∨ (shp σ j).1 = 5 ∨ (shp σ j).1 = 6 by omega) with q | q | q <;> rw [q] <;> decide)
  simp only [List.map_cons, cvv, hq, hqz]
  rw [wcell_r h1] at hc
  rw [wcell_obj hzs] at hcz
  refine va_astq fx.1 fx.2.1 fx.2.2.2.2.2.2.1 hw.1 hw.2.1 hw.2.2.1 j ((shp σ j).1 - 1) jz (ecl (shp σ j).1) hc (by rw [n1]; exact tyL_r h1 h6) hcz hcl2 hin hd (fun H1 locs1 P1 D1 S1 => ?_)
  have hrf : ∀ k : Nat, rf (up σ.1 j i jz, σ.2) j k = if k = i.toNat then (jz : Int) else rf σ j k := by
    intro k
    unfold rf
    by_cases hk : k = i.toNat
    · have hki : (k : Int) = i := by omega
      rw [if_pos hk, hki]
      cases hm : σ.2.1 with
      | none => simp [hst hm, up]
      | some n => simp [up]
    · have hki : ¬ (k : Int) = i := by omega
      rw [if_neg hk]
      simp [up, hki]
  refine kk ad H1 locs1 cells slots lsA (Wd_set hw hj hq (fun _ hj2 k => up_off hj2 k) ⟨hwf.1, fun h => ?_, fun h => ?_, fun h => ?_, fun _ k => ?_, hwf.2.2.2.2.2⟩ ?_ P1 D1 S1) (Lo_mem _ hlo) (Sk_mem _ (Sk_tl (Sk_tl (Sk_tl hs))))
  · rw [shp_mem] at h; omega
  · rw [shp_mem] at h; omega
  · rw [shp_mem] at h; omega
  · rw [hrf, tot_mem]
    split
    · exact hz
    · exact hwf.2.2.2.2.1 h1 k
  · rw [wcell_r (σ := (up σ.1 j i jz, σ.2)) h1, shp_mem, hcl]
    refine congrArg (fun x => Sum.inl (cA (shp σ j).1, (shp σ j).2, Sum.inr (Sum.inr (Sum.inr (Sum.inr x))))) (funext fun k => ?_)
    show ad (rf (up σ.1 j i jz, σ.2) j k) = va_up (fun k : Nat => ad (rf σ j k)) i.toNat (some qz) k
    rw [hrf]
    unfold va_up
    by_cases hk : k = i.toNat
    · rw [if_pos hk, if_pos hk, hqz]
    · rw [if_neg hk, if_neg hk]
end SNH
