/-! EACH STEP of the pure machine: new cells, the host's own calls, constants; calls of methods. -/
set_option maxRecDepth 100000 in
theorem w_acZ : Cond.arrayClass .boolean ∈ gw_tbl := gw_of (pos := 5124) (by decide +kernel) rfl
set_option maxRecDepth 100000 in
theorem w_acI : Cond.arrayClass .int ∈ gw_tbl := gw_of (pos := 1051) (by decide +kernel) rfl
set_option maxRecDepth 100000 in
theorem w_acJ : Cond.arrayClass .long ∈ gw_tbl := gw_of (pos := 2005) (by decide +kernel) rfl
theorem pr0 {q : Nat × Nat} (h : q.1 = 0) : q = (0, q.2) := by
  obtain ⟨a, b⟩ := q
  cases h
  rfl
theorem stat_far {o k : Int} (h : 129 ≤ o) : stat o k = none := by
  unfold stat
  rw [List.find?_eq_none.mpr]
  · rfl
  · intro e he
    have h1 : e.1 < 129 := (by decide +kernel : ∀ e ∈ q_st, e.1 < 129) e he
    simp only [Bool.and_eq_true, beq_iff_eq, not_and]
    intro h2
    omega
theorem dSh_ok {i : Nat} (h : i < 129) : (dSh i).1 ≤ 6 := by
  unfold dSh
  rw [List.getD_eq_getElem?_getD]
  cases hq : q_bs[i]? with
  | none =>
    have := List.getElem?_eq_none_iff.mp hq
    have hl : q_bs.length = 129 := by decide +kernel
    omega
  | some q => exact (by decide +kernel : ∀ q ∈ q_bs, q.1 ≤ 6) q (List.mem_of_getElem? hq)
theorem sum_snoc (l : List Nat) (x : Nat) : (l ++ [x]).sum = l.sum + x := by simp
theorem alc_inv {σ : PS} {sh : Nat × Nat} {f : Int → PS → Option PO} {cl : PM → Int → PM} {y : PO} (h : alc σ sh f cl = some y) :
    ∃ σ' : PS, f (tot σ) σ' = some y ∧ σ'.1 = cl σ.1 (tot σ) ∧ tot σ' = tot σ + 1 ∧ siz σ' = siz σ + siz1 sh ∧ shp σ' (tot σ) = sh ∧ (∀ j : Int, j < tot σ → j < 0 ∨ shp σ' j = shp σ j) ∧ (∀ (j : Int), j < tot σ → (∀ k, σ'.1 j k = σ.1 j k) → ∀ k, rf σ' j k = rf σ j k) ∧ σ'.2.2.2 = σ.2.2.2 ∧ (∀ k, rf σ' (tot σ) k = σ'.1 (tot σ) k) := by
  unfold alc at h
  obtain ⟨m, mode, dyn, L⟩ := σ
  cases mode with
  | some t =>
    dsimp only at h
    unfold gd at h
    by_cases hc : t < NB ∧ dSh t = sh
    · rw [if_pos hc] at h
      obtain ⟨h1, h2⟩ := hc
      unfold NB at h1
      refine ⟨_, h, rfl, rfl, ?_, ?_, fun j hj => ?_, fun j hj hm k => hm k, rfl, fun k => rfl⟩
      · show ((List.range (t + 1)).map (fun i => siz1 (dSh i))).sum = ((List.range t).map (fun i => siz1 (dSh i))).sum + siz1 sh
        rw [List.range_succ, List.map_append, List.map_cons, List.map_nil, sum_snoc, h2]
      · show shp (cl m t, (some (t + 1), (dyn, L))) (t : Int) = sh
        unfold shp
        rw [if_neg (by omega), if_pos (by omega)]
        dsimp only
        rw [if_pos (by omega), Int.toNat_natCast]
        exact h2
      · by_cases h0 : j < 0
        · exact Or.inl h0
        · right
          replace hj : j < (t : Int) := hj
          unfold shp
          rw [if_neg h0, if_neg h0, if_pos (by omega), if_pos (by omega)]
          dsimp only
          rw [if_pos (by omega), if_pos (by omega)]
    · rw [if_neg hc] at h; cases h
  | none =>
    dsimp only at h
    have hst : ∀ k, stat ((NB + dyn.length : Nat) : Int) k = none := fun k => stat_far (by unfold NB; omega)
    refine ⟨_, h, rfl, ?_, ?_, ?_, fun j hj => ?_, fun j hj hm k => ?_, rfl, fun k => ?_⟩
    · show NB + (dyn ++ [sh]).length = NB + dyn.length + 1
      rw [List.length_append]; rfl
    · show ((List.range NB).map (fun i => siz1 (dSh i))).sum + ((dyn ++ [sh]).map siz1).sum = ((List.range NB).map (fun i => siz1 (dSh i))).sum + (dyn.map siz1).sum + siz1 sh
      rw [List.map_append, List.map_cons, List.map_nil, sum_snoc, Nat.add_assoc]
    · show shp (_, (none, (dyn ++ [sh], L))) ((NB + dyn.length : Nat) : Int) = sh
      unfold shp
      rw [if_neg (by omega), if_neg (by unfold NB; omega)]
      dsimp only
      rw [Int.toNat_natCast, Nat.add_sub_cancel_left, List.getD_eq_getElem?_getD, List.getElem?_append_right (Nat.le_refl _), Nat.sub_self]
      rfl
    · by_cases h0 : j < 0
      · exact Or.inl h0
      · right
        replace hj : j < ((NB + dyn.length : Nat) : Int) := hj
        unfold shp
        rw [if_neg h0, if_neg h0]
        by_cases h1 : j < 129
        · rw [if_pos h1, if_pos h1]
        · rw [if_neg h1, if_neg h1]
          dsimp only
          rw [List.getD_eq_getElem?_getD, List.getD_eq_getElem?_getD, List.getElem?_append_left (by unfold NB at *; omega)]
    · have hk : cl m ((NB + dyn.length : Nat) : Int) j k = m j k := hm k
      show (stat j k).getD (cl m ((NB + dyn.length : Nat) : Int) j k) = (stat j k).getD (m j k)
      rw [hk]
    · show (stat _ k).getD _ = _
      rw [show stat ((tot (m, (none, (dyn, L))) : Nat) : Int) k = none from hst k]
      rfl
def adN (ad : Int → Option Nat) (n q : Nat) : Int → Option Nat := fun z => if z = (n : Int) then some q else ad z
theorem cvv_adN {ad : Int → Option Nat} {σ : PS} {q : Nat} {v : PV} (h : okv σ v) : cvv (adN ad (tot σ) q) v = cvv ad v := by
  match v, h with
  | .inl z, _ => rfl
  | .inr (.inl z), _ => rfl
  | .inr (.inr z), h =>
    have h : z < (tot σ : Int) := h
    simp only [cvv, adN, if_neg (show ¬ z = (tot σ : Int) by omega)]
theorem okv_up {σ σ' : PS} (h : tot σ ≤ tot σ') {v : PV} (hv : okv σ v) : okv σ' v := by
  match v, hv with
  | .inl z, hv => exact hv
  | .inr (.inl z), hv => exact hv
  | .inr (.inr z), hv =>
    have hv : z < (tot σ : Int) := hv
    show z < (tot σ' : Int)
    omega
section SNC
variable {p : Program} {l : Launch} {e : Env} {R : Room} {s : State} {m : MethodId} {args : Array Value} {below : List Frame} {meth : Method} {c : Code} {Q : State → Prop} {μ : Nat} {A : Nat → Prop} {cA : Nat → ClassId} {D : va_G} {ad0 ad : Int → Option Nat} {σ0 σ σ' : PS} {pc : Nat} {ls : PL} {st r : List PV} {H H1 : Heap} {locs locs1 : List Loc} {cells slots : Nat} {lsA : Array Slot} {sh : Nat × Nat} {cl : PM → Int → PM}
theorem Lo_up {n : Nat} {ad' : Int → Option Nat} (h : tot σ ≤ tot σ') (ha : ∀ v, okv σ v → cvv ad' v = cvv ad v) (hl : Lo ad n lsA ls σ) : Lo ad' n lsA ls σ' := ⟨hl.1, hl.2.1, hl.2.2.1, fun i v hi => by
  obtain ⟨a1, a2⟩ := hl.2.2.2 i v hi
  exact ⟨by rw [ha v a2]; exact a1, okv_up h a2⟩⟩
theorem Sk_up (h : tot σ ≤ tot σ') (hs : Sk σ st) : Sk σ' st := fun v hv => okv_up h (hs v hv)
theorem map_up {ad' : Int → Option Nat} (ha : ∀ v, okv σ v → cvv ad' v = cvv ad v) (hs : Sk σ st) : st.map (cvv ad') = st.map (cvv ad) := List.map_congr_left fun v hv => ha v (hs v hv)
theorem wcell_up {ad' : Int → Option Nat} {j : Nat} (hj : WFc σ j) (h1 : shp σ' j = shp σ j) (h2 : ∀ k, σ'.1 j k = σ.1 j k) (h3 : ∀ k, rf σ' j k = rf σ j k) (ha : ∀ z : Int, z < tot σ → ad' z = ad z) : wcell cA ad' σ' j = wcell cA ad σ j := by
  have hf : ∀ ci k, fvl σ' j ci k = fvl σ j ci k := fun ci k => by unfold fvl; rw [h3, h2]
  by_cases q0 : (shp σ j).1 = 0
  · obtain ⟨ci, hci⟩ : ∃ ci, shp σ j = (0, ci) := ⟨(shp σ j).2, by rw [← q0]⟩
    rw [wcell_obj (σ := σ') (h1.trans hci), wcell_obj hci]
    refine congrArg (fun x => Sum.inr (ci, x)) (List.map_congr_left fun k hk => ?_)
    rw [hf]
    have hv := WFc_obj hj hci (List.mem_range.mp hk)
    generalize fvl σ j ci k = v at hv
    match v, hv with
    | .inl z, _ => rfl
    | .inr (.inl z), _ => rfl
    | .inr (.inr z), hv => simp only [cvv, ha z hv]
  · by_cases q3 : (shp σ j).1 = 3
    · rw [wcell_l (σ := σ') (by rw [h1]; exact q3), wcell_l q3, h1]
      simp only [h2]
    · by_cases q2 : (shp σ j).1 ≤ 2
      · rw [wcell_i (σ := σ') (by rw [h1]; omega), wcell_i (by omega), h1]
        simp only [h2]
      · rw [wcell_r (σ := σ') (by rw [h1]; omega), wcell_r (by omega), h1]
        have hr : ∀ k : Nat, ad' (rf σ' j k) = ad (rf σ j k) := fun k => by rw [h3]; exact ha _ (hj.2.2.2.2.1 (by omega) k)
        simp only [hr]
theorem WFc_up {j : Nat} (hj : WFc σ j) (ht : tot σ ≤ tot σ') (h1 : shp σ' j = shp σ j) (h2 : ∀ k, σ'.1 j k = σ.1 j k) (h3 : ∀ k, rf σ' j k = rf σ j k) : WFc σ' j := by
  have hf : ∀ ci k, fvl σ' j ci k = fvl σ j ci k := fun ci k => by unfold fvl; rw [h3, h2]
  have key : ∀ ci k, shp σ j = (0, ci) → k < nfT ci → okv σ' (fvl σ' j ci k) := fun ci k h hk => by
    have hv := WFc_obj hj h hk
    rw [hf]
    exact okv_up ht hv
  unfold WFc at hj ⊢
  obtain ⟨w1, w2, w3, w4, w5, w6⟩ := hj
  rw [h1]
  refine ⟨w1, ?_, fun h k => by rw [h2]; exact w3 h k, fun h k => by rw [h2]; exact w4 h k, fun h k => by rw [h3]; have := w5 h k; omega, w6⟩
  intro h
  refine ⟨(w2 h).1, ?_⟩
  intro k hk
  have e0 : shp σ j = (0, (shp σ j).2) := pr0 h
  generalize (shp σ (j : Int)).2 = ci at hk e0 ⊢
  exact key ci k e0 hk
/-- the world with a new cell -/
theorem Wd_push (hw : Wd s A cA D ad0 σ0 ad H locs cells slots σ) (ht : tot σ' = tot σ + 1) (hz : siz σ' = siz σ + siz1 sh) (ho : ∀ j : Int, j < tot σ → j < 0 ∨ shp σ' j = shp σ j) (hr : ∀ (j : Int), j < tot σ → (∀ k, σ'.1 j k = σ.1 j k) → ∀ k, rf σ' j k = rf σ j k) (hL : σ'.2.2.2 = σ.2.2.2) (hm : ∀ j : Int, j ≠ tot σ → ∀ k, σ'.1 j k = σ.1 j k)
    (hc : WFc σ' (tot σ)) {q : Nat} {x : va_E} (he : wcell cA (adN ad (tot σ) q) σ' (tot σ) = x) (P1 : va_P D vwCl (wof cA ad σ ++ [(q, x)]) H1) (D1 : va_D A (wof cA ad σ ++ [(q, x)])) (S1 : va_S A s.heap H1 locs) : Wd s A cA D ad0 σ0 (adN ad (tot σ) q) H1 locs (cells + 1) (slots + siz1 sh) σ' := by
  obtain ⟨-, -, -, hwf, had, hn, hmm, hLL, hc1, hs1⟩ := hw
  have hsh : ∀ j : Nat, j < tot σ → shp σ' j = shp σ j := fun j hj => by
    rcases ho j (by omega) with h | h
    · omega
    · exact h
  have hrr : ∀ j : Nat, j < tot σ → ∀ k, rf σ' j k = rf σ j k := fun j hj => hr j (by omega) (hm j (by omega))
  have ha : ∀ z : Int, z < tot σ → adN ad (tot σ) q z = ad z := fun z h => by unfold adN; rw [if_neg (by omega)]
  have e : wof cA ad σ ++ [(q, x)] = wof cA (adN ad (tot σ) q) σ' := wof_push (by unfold adN; rw [if_pos rfl]) ht he (fun j hj => wcell_up (hwf j hj) (hsh j hj) (hm j (by omega)) (hrr j hj) ha) (fun j hj => ha j (by omega))
  rw [e] at P1 D1
  refine ⟨P1, D1, S1, fun j hj => ?_, ⟨by rw [ha (-1) (by omega)]; exact had.1, fun j hj => ?_⟩, fun z hz => by rw [ha z (by omega)]; exact hn z hz, fun a k h => by rw [hm a (by omega)]; exact hmm a k h, by rw [hL]; exact hLL, by omega, by omega⟩
  · by_cases hjt : j = tot σ
    · subst hjt; exact hc
    · exact WFc_up (hwf j (by omega)) (by omega) (hsh j (by omega)) (hm j (by omega)) (hrr j (by omega))
  · by_cases hjt : j = tot σ
    · subst hjt; exact ⟨q, by unfold adN; rw [if_pos rfl]⟩
    · obtain ⟨w, hw⟩ := had.2 j (by omega)
      exact ⟨w, by rw [ha j (by omega)]; exact hw⟩
theorem cA_same {cB : ClassId} {ty : FieldType} {t : Nat} (fx : Fx p s m args meth c μ A cA D ad0 σ0) (hK : va_K D vwCl (tyL cA ++ [(cB, ty)]) s) (ht : (tyL cA)[t]? = some (cA (t + 1), ty)) : cB = cA (t + 1) := by
  have h1 := (hK.2 (tyL cA).length (cB, ty) (by rw [List.getElem?_append_right (Nat.le_refl _), Nat.sub_self]; rfl)).2
  have h2 := (fx.2.2.2.2.2.2.1.2 t _ ht).2
  cases ty with
  | object C =>
    obtain ⟨k1, c1, -, -, -, a4⟩ := h1
    obtain ⟨k2, c2, -, -, -, b4⟩ := h2
    rw [a4] at b4
    exact Option.some.inj b4
  | _ =>
    have h1 : s.vm.findClass _ = some cB := h1
    have h2 : s.vm.findClass _ = some (cA (t + 1)) := h2
    rw [h1] at h2
    exact Option.some.inj h2
theorem S_newi {ty : ClassFile.ArrayType} {n : Int} {y : PO} (fx : Fx p s m args meth c μ A cA D ad0 σ0) (hd : ClassFile.decode (mB μ) pc = .ok (.newarray ty, 2)) (h0 : 0 ≤ n) (h1 : n ≤ 1000) (hty : 1 ≤ aTy ty)
    (ha : alc σ (aTy ty, n.toNat) (fun id σ' => nx (pc + 2) ls (.inr (.inr id) :: r) σ') clr = some y) : ∃ cf' : Cf, y = .inl cf' ∧ tot σ ≤ tot cf'.2.2.2 ∧ siz σ ≤ siz cf'.2.2.2 ∧ (tot cf'.2.2.2 ≤ tot σ0 + R.cells → siz cf'.2.2.2 ≤ siz σ0 + R.slots → GO p l e R s m args below meth c Q μ A cA D ad0 σ0 cf' → GO p l e R s m args below meth c Q μ A cA D ad0 σ0 (pc, (ls, (.inl n :: r, σ)))) := by
  obtain ⟨σ', e1, e2, e3, e4, e5, e6, e7, e8, e9⟩ := alc_inv ha
  cases e1
  refine ⟨_, rfl, by show tot σ ≤ tot σ'; omega, by show siz σ ≤ siz σ'; omega, fun hB1 hB2 kk => ?_⟩
  replace hB1 : tot σ' ≤ tot σ0 + R.cells := hB1
  replace hB2 : siz σ' ≤ siz σ0 + R.slots := hB2
  intro ad H locs cells slots lsA (hw : Wd s A cA D ad0 σ0 ad H locs cells slots σ) (hlo : Lo ad (mL μ) lsA ls σ) hs
  have hcl : (Int32.ofInt n).toNatClampNeg = n.toNat := o_clamp h0 (by omega)
  have hnn : ¬ Int32.ofInt n < 0 := fun h => by
    have := (o_lt (x := n) (y := 0) ⟨by omega, by omega⟩ ⟨by omega, by omega⟩).mp h
    omega
  have hst : siz1 (aTy ty, n.toNat) = n.toNat := by unfold siz1; rw [if_neg (show ¬ aTy ty = 0 by omega)]
  have hc1 := hw.2.2.2.2.2.2.2.2.1
  have hc2 := hw.2.2.2.2.2.2.2.2.2
  rw [hst] at e4
  have hm : ∀ j : Int, j ≠ tot σ → ∀ k, σ'.1 j k = σ.1 j k := fun j hj k => by rw [e2]; unfold clr; rw [if_neg hj]
  have hm0 : ∀ k, σ'.1 (tot σ) k = 0 := fun k => by rw [e2]; unfold clr; rw [if_pos rfl]
  have hs2 := Sk_tl hs
  have fin : ∀ (q : Nat) (H1 : Heap) (x : va_E), wcell cA (adN ad (tot σ) q) σ' (tot σ) = x → WFc σ' (tot σ) → va_P D vwCl (wof cA ad σ ++ [(q, x)]) H1 → va_D A (wof cA ad σ ++ [(q, x)]) → va_S A s.heap H1 locs → W p l e R s m args below meth c H1 locs (cells + 1) (slots + n.toNat) Q (F0 m (pc + 2) lsA (.ref q :: r.map (cvv ad))) := by
    intro q H1 x hx hwc P1 D1 S1
    have hav : ∀ v, okv σ v → cvv (adN ad (tot σ) q) v = cvv ad v := fun v hv => cvv_adN hv
    have w1 := Wd_push (sh := (aTy ty, n.toNat)) hw e3 (by rw [hst]; exact e4) e6 e7 e8 hm hwc hx P1 D1 S1
    rw [hst] at w1
    have ht2 : tot σ ≤ tot σ' := by omega
    have k1 := kk (adN ad (tot σ) q) H1 locs (cells + 1) (slots + n.toNat) lsA w1 (Lo_up ht2 hav hlo) (Sk_cons (show ((tot σ : Nat) : Int) < (tot σ' : Int) by omega) (Sk_up ht2 hs2))
    simp only [List.map_cons, cvv] at k1
    rw [map_up hav hs2] at k1
    simp only [adN, if_pos] at k1
    exact k1
  simp only [List.map_cons, cvv]
  cases ty <;> simp only [aTy] at hty e5 hst <;> try omega
  · refine va_newa (a0 := (n.toNat, .inl (fun _ => 0))) (ty := .boolean) (atype := .boolean) fx.1 fx.2.1 (fx.2.2.2.2.1 _ w_acZ) rfl fx.2.2.2.2.2.2.1 hw.1 hw.2.1 hw.2.2.1 fx.2.2.2.2.2.2.2.1 (fun cB => vp_cell_i cB _ _) hnn hcl (show n.toNat * 1 ≤ 536870912 by omega) (by omega) (by omega) hd (fun q cB H1 K1 P1 D1 S1 => ?_)
    have hcB := cA_same (t := 1) fx K1 rfl
    subst hcB
    refine fin q H1 _ ?_ ?_ P1 D1 S1
    · rw [wcell_i (σ := σ') (by rw [e5]; exact Or.inr rfl), e5]
      simp only [hm0]; rfl
    · unfold WFc
      rw [e5]
      exact ⟨(show 2 ≤ 6 by omega), fun h => (by cases h), fun h => (by cases h), fun _ k => by rw [hm0]; exact ⟨by omega, by omega⟩, fun h => absurd h (show ¬ 4 ≤ 2 by omega), (show n.toNat ≤ 1000 by omega)⟩
  · refine va_newa (a0 := (n.toNat, .inl (fun _ => 0))) (ty := .int) (atype := .int) fx.1 fx.2.1 (fx.2.2.2.2.1 _ w_acI) rfl fx.2.2.2.2.2.2.1 hw.1 hw.2.1 hw.2.2.1 fx.2.2.2.2.2.2.2.1 (fun cB => vp_cell_i cB _ _) hnn hcl (show n.toNat * 4 ≤ 536870912 by omega) (by omega) (by omega) hd (fun q cB H1 K1 P1 D1 S1 => ?_)
    have hcB := cA_same (t := 0) fx K1 rfl
    subst hcB
    refine fin q H1 _ ?_ ?_ P1 D1 S1
    · rw [wcell_i (σ := σ') (by rw [e5]; exact Or.inl rfl), e5]
      simp only [hm0]; rfl
    · unfold WFc
      rw [e5]
      exact ⟨(show 1 ≤ 6 by omega), fun h => (by cases h), fun h => (by cases h), fun _ k => by rw [hm0]; exact ⟨by omega, by omega⟩, fun h => absurd h (show ¬ 4 ≤ 1 by omega), (show n.toNat ≤ 1000 by omega)⟩
  · refine va_newa (a0 := (n.toNat, .inr (.inl (fun _ => 0)))) (ty := .long) (atype := .long) fx.1 fx.2.1 (fx.2.2.2.2.1 _ w_acJ) rfl fx.2.2.2.2.2.2.1 hw.1 hw.2.1 hw.2.2.1 fx.2.2.2.2.2.2.2.1 (fun cB => vp_cell_l cB _ _) hnn hcl (show n.toNat * 8 ≤ 536870912 by omega) (by omega) (by omega) hd (fun q cB H1 K1 P1 D1 S1 => ?_)
    have hcB := cA_same (t := 2) fx K1 rfl
    subst hcB
    refine fin q H1 _ ?_ ?_ P1 D1 S1
    · rw [wcell_l (σ := σ') (by rw [e5]), e5]
      simp only [hm0]; rfl
    · unfold WFc
      rw [e5]
      exact ⟨(show 3 ≤ 6 by omega), fun h => (by cases h), fun _ k => by rw [hm0]; exact ⟨by omega, by omega⟩, fun h => (by rcases h with h | h <;> cases h), fun h => absurd h (show ¬ 4 ≤ 3 by omega), (show n.toNat ≤ 1000 by omega)⟩
end SNC
