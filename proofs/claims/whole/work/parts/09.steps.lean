/-! EACH STEP of the pure machine: rows of references, objects, the host's own calls, constants. -/
def q_ci : List (Nat × Nat) := [(1203, 1009), (1183, 1008), (2234, 1019), (1055, 1004), (1036, 1003), (1133, 1006), (1030, 1002), (1139, 1007), (1227, 1010), (1081, 1005), (1022, 1001), (4151, 1011)]
def q_ci_c (ci : Nat) : Bool := match q_ci[ci]? with
  | some q => decide (lwx q.1 = some (.instantiable (cN ci) (nfT ci))) && decide (lwx q.2 = some (.initialized (cN ci)))
  | none => false
set_option maxRecDepth 100000 in
theorem q_ci_ok : (List.range 12).all q_ci_c = true := by decide +kernel
theorem ci_words {ci : Nat} (h : ci < 12) : Cond.instantiable (cN ci) (nfT ci) ∈ gw_tbl ∧ Cond.initialized (cN ci) ∈ gw_tbl := by
  have h1 := List.all_eq_true.mp q_ci_ok ci (List.mem_range.mpr h)
  unfold q_ci_c at h1
  cases hq : q_ci[ci]? with
  | none => rw [hq] at h1; cases h1
  | some q =>
    rw [hq] at h1
    simp only [Bool.and_eq_true, decide_eq_true_eq] at h1
    exact ⟨gw_of h1.1 rfl, gw_of h1.2 rfl⟩
set_option maxRecDepth 100000 in
theorem w_oi : Cond.code objectInit ⟨#[0xb1]⟩ 1 none ∈ gw_tbl ∧ Cond.instanceMethod objectInit ∈ gw_tbl := ⟨gw_of (pos := 1028) (by rfl) rfl, gw_of (pos := 1027) (by decide +kernel) rfl⟩
set_option maxRecDepth 100000 in
theorem w_acp : Cond.native arraycopyName ∈ gw_tbl ∧ Cond.static arraycopyName ∈ gw_tbl ∧ Cond.initialized "java/lang/System" ∈ gw_tbl := ⟨gw_of (pos := 3008) (by decide +kernel) rfl, gw_of (pos := 3007) (by decide +kernel) rfl, gw_of (pos := 1020) (by decide +kernel) rfl⟩
set_option maxRecDepth 100000 in
theorem w_mmax : Cond.code Lib.Math.max.name Lib.Math.max.code 2 (some .int) ∈ gw_tbl ∧ Cond.static Lib.Math.max.name ∈ gw_tbl ∧ Cond.initialized "java/lang/Math" ∈ gw_tbl := ⟨gw_of (pos := 2129) (by rfl) rfl, gw_of (pos := 2128) (by decide +kernel) rfl, gw_of (pos := 1017) (by decide +kernel) rfl⟩
set_option maxRecDepth 100000 in
theorem w_mmin : Cond.code Lib.Math.min.name Lib.Math.min.code 2 (some .int) ∈ gw_tbl ∧ Cond.static Lib.Math.min.name ∈ gw_tbl := ⟨gw_of (pos := 2144) (by rfl) rfl, gw_of (pos := 2143) (by decide +kernel) rfl⟩
theorem spc_inv {own idx k : Nat} (h : spc own idx = k) (hk : k ≠ 0) : Cond.methodLink (cN own) idx (if k = 5 then objectInit else if k = 6 then arraycopyName else if k = 7 then Lib.Math.max.name else Lib.Math.min.name) ∈ gw_tbl := by
  unfold spc at h
  cases hf : q_sp.find? (fun e => e.1 == own && e.2.1 == idx) with
  | none => rw [hf] at h; exact absurd h.symm hk
  | some e =>
    rw [hf] at h
    obtain ⟨a1, a2⟩ := find_inv hf q_sp_ok
    obtain ⟨e1, e2, e3, e4⟩ := e
    dsimp only at h
    subst h
    simp only [q_sp_c, Bool.and_eq_true, decide_eq_true_eq, beq_iff_eq] at a1 a2
    obtain ⟨rfl, rfl⟩ := a1
    refine gw_of a2 ?_
    split <;> (try split) <;> (try split) <;> rfl
set_option maxRecDepth 100000 in
theorem ftg7 {ci j : Nat} (hci : ci < 12) (hj : j < nfT ci) : ftg ci j ≠ 7 := by
  have hh : (List.range 12).all (fun c => (List.range (nfT c)).all (fun k => decide (ftg c k ≠ 7))) = true := by decide +kernel
  have := List.all_eq_true.mp (List.all_eq_true.mp hh ci (List.mem_range.mpr hci)) j (List.mem_range.mpr hj)
  exact of_decide_eq_true this
section SNP
variable {p : Program} {l : Launch} {e : Env} {R : Room} {s : State} {m : MethodId} {args : Array Value} {below : List Frame} {meth : Method} {c : Code} {Q : State → Prop} {μ : Nat} {A : Nat → Prop} {cA : Nat → ClassId} {D : va_G} {ad0 ad : Int → Option Nat} {σ0 σ σ' : PS} {pc : Nat} {ls : PL} {st r : List PV} {H H1 : Heap} {locs locs1 : List Loc} {cells slots : Nat} {lsA : Array Slot} {sh : Nat × Nat} {cl : PM → Int → PM}
theorem S_newq {idx t : Nat} {n : Int} {y : PO} (fx : Fx p s m args meth c μ A cA D ad0 σ0) (hd : ClassFile.decode (mB μ) pc = .ok (.anewarray idx, 3)) (hn : anc (mO μ) idx = some t) (h0 : 0 ≤ n) (h1 : n ≤ 1000) (ht4 : 4 ≤ t) (ht6 : t ≤ 6)
    (ha : alc σ (t, n.toNat) (fun id σ' => nx (pc + 3) ls (.inr (.inr id) :: r) σ') clN = some y) : ∃ cf' : Cf, y = .inl cf' ∧ tot σ ≤ tot cf'.2.2.2 ∧ siz σ ≤ siz cf'.2.2.2 ∧ (tot cf'.2.2.2 ≤ tot σ0 + R.cells → siz cf'.2.2.2 ≤ siz σ0 + R.slots → GO p l e R s m args below meth c Q μ A cA D ad0 σ0 cf' → GO p l e R s m args below meth c Q μ A cA D ad0 σ0 (pc, (ls, (.inl n :: r, σ)))) := by
  obtain ⟨σ', e1, e2, e3, e4, e5, e6, e7, e8, e9⟩ := alc_inv ha
  cases e1
  refine ⟨_, rfl, by show tot σ ≤ tot σ'; omega, by show siz σ ≤ siz σ'; omega, fun hB1 hB2 kk => ?_⟩
  replace hB1 : tot σ' ≤ tot σ0 + R.cells := hB1
  replace hB2 : siz σ' ≤ siz σ0 + R.slots := hB2
  intro ad H locs cells slots lsA (hw : Wd s A cA D ad0 σ0 ad H locs cells slots σ) (hlo : Lo ad (mL μ) lsA ls σ) hs
  have hcl : (Int32.ofInt n).toNatClampNeg = n.toNat := o_clamp h0 (by omega)
  have hnn : ¬ Int32.ofInt n < 0 := fun h => by
    have := (o_lt (x := n) (y := 0) ⟨by omega, by omega⟩ ⟨by omega, by omega⟩).mp h
    omega
  have hst : siz1 (t, n.toNat) = n.toNat := by unfold siz1; rw [if_neg (show ¬ t = 0 by omega)]
  have hc1 := hw.2.2.2.2.2.2.2.2.1
  have hc2 := hw.2.2.2.2.2.2.2.2.2
  rw [hst] at e4
  have hm : ∀ j : Int, j ≠ tot σ → ∀ k, σ'.1 j k = σ.1 j k := fun j hj k => by rw [e2]; unfold clN; rw [if_neg hj]
  have hm0 : ∀ k, σ'.1 (tot σ) k = -1 := fun k => by rw [e2]; unfold clN; rw [if_pos rfl]
  have hs2 := Sk_tl hs
  have hover : va_AO (cN (ecl t)) s := by
    obtain ⟨-, -, -, -, -, -, -, -, -, -, o1, o2, o3⟩ := fx.2.2.2.2.2.2.2.2
    rcases (show t = 4 ∨ t = 5 ∨ t = 6 by omega) with rfl | rfl | rfl
    · exact o1
    · exact o2
    · exact o3
  have hlink : Cond.classLink (cN (mO μ)) idx (cN (ecl t)) ∈ gw_tbl := by
    unfold anc at hn
    cases hf : q_an.find? (fun e => e.1 == mO μ && e.2.1 == idx) with
    | none => rw [hf] at hn; cases hn
    | some q =>
      rw [hf] at hn
      obtain ⟨a1, a2⟩ := find_inv hf q_an_ok
      obtain ⟨e1, e2, e3, e4⟩ := q
      simp only [Option.map_some, Option.some.injEq] at hn
      subst hn
      simp only [q_an_c, Bool.and_eq_true, decide_eq_true_eq, beq_iff_eq] at a1 a2
      obtain ⟨b1, rfl⟩ := a1
      rw [← b1]
      exact gw_of a2.1.1 rfl
  simp only [List.map_cons, cvv]
  refine va_newq fx.1 fx.2.1 fx.2.2.2.1 (fx.2.2.2.2.1 _ hlink) hover fx.2.2.2.2.2.2.1 hw.1 hw.2.1 hw.2.2.1 fx.2.2.2.2.2.2.2.1 hnn hcl (show n.toNat * 4 ≤ 536870912 by omega) (by omega) (by omega) hd (fun q cB H1 K1 P1 D1 S1 => ?_)
  have hcB : cB = cA t := by
    have := cA_same (t := t - 1) fx K1 (by rw [tyL_r ht4 ht6, show t - 1 + 1 = t by omega])
    rw [show t - 1 + 1 = t by omega] at this
    exact this
  subst hcB
  have hav : ∀ v, okv σ v → cvv (adN ad (tot σ) q) v = cvv ad v := fun v hv => cvv_adN hv
  have e51 : (shp σ' (tot σ)).1 = t := by rw [e5]
  have e52 : (shp σ' (tot σ)).2 = n.toNat := by rw [e5]
  have hwc : WFc σ' (tot σ) := by
    unfold WFc
    rw [e51, e52]
    exact ⟨ht6, fun h => by omega, fun h => by omega, fun h => by omega, fun _ k => by rw [e9, hm0]; omega, by omega⟩
  have hx : wcell cA (adN ad (tot σ) q) σ' (tot σ) = .inl (cA t, n.toNat, .inr (.inr (.inr (.inr (fun _ => none))))) := by
    rw [wcell_r (σ := σ') (by rw [e51]; exact ht4), e51, e52]
    refine congrArg (fun x => Sum.inl (cA t, n.toNat, Sum.inr (Sum.inr (Sum.inr (Sum.inr x))))) (funext fun k => ?_)
    rw [e9, hm0]
    unfold adN
    rw [if_neg (by omega)]
    exact hw.2.2.2.2.1.1
  have w1 := Wd_push (sh := (t, n.toNat)) hw e3 (by rw [hst]; exact e4) e6 e7 e8 hm hwc hx P1 D1 S1
  rw [hst] at w1
  have ht2 : tot σ ≤ tot σ' := by omega
  have k1 := kk (adN ad (tot σ) q) H1 locs (cells + 1) (slots + n.toNat) lsA w1 (Lo_up ht2 hav hlo) (Sk_cons (show ((tot σ : Nat) : Int) < (tot σ' : Int) by omega) (Sk_up ht2 hs2))
  simp only [List.map_cons, cvv] at k1
  rw [map_up hav hs2] at k1
  simp only [adN, if_pos] at k1
  exact k1
theorem S_new {idx ci : Nat} {y : PO} (fx : Fx p s m args meth c μ A cA D ad0 σ0) (hd : ClassFile.decode (mB μ) pc = .ok (.new idx, 3)) (hn : nwc (mO μ) idx = some ci) (hci : ci < 12)
    (ha : alc σ (0, ci) (fun id σ' => nx (pc + 3) ls (.inr (.inr id) :: st) σ') (fun m id => clO m id ci) = some y) : ∃ cf' : Cf, y = .inl cf' ∧ tot σ ≤ tot cf'.2.2.2 ∧ siz σ ≤ siz cf'.2.2.2 ∧ (tot cf'.2.2.2 ≤ tot σ0 + R.cells → siz cf'.2.2.2 ≤ siz σ0 + R.slots → GO p l e R s m args below meth c Q μ A cA D ad0 σ0 cf' → GO p l e R s m args below meth c Q μ A cA D ad0 σ0 (pc, (ls, (st, σ)))) := by
  obtain ⟨σ', e1, e2, e3, e4, e5, e6, e7, e8, e9⟩ := alc_inv ha
  cases e1
  refine ⟨_, rfl, by show tot σ ≤ tot σ'; omega, by show siz σ ≤ siz σ'; omega, fun hB1 hB2 kk => ?_⟩
  replace hB1 : tot σ' ≤ tot σ0 + R.cells := hB1
  replace hB2 : siz σ' ≤ siz σ0 + R.slots := hB2
  intro ad H locs cells slots lsA (hw : Wd s A cA D ad0 σ0 ad H locs cells slots σ) (hlo : Lo ad (mL μ) lsA ls σ) hs
  have hst : siz1 (0, ci) = nfT ci := by unfold siz1; rw [if_pos rfl]
  have hc1 := hw.2.2.2.2.2.2.2.2.1
  have hc2 := hw.2.2.2.2.2.2.2.2.2
  rw [hst] at e4
  have hm : ∀ j : Int, j ≠ tot σ → ∀ k, σ'.1 j k = σ.1 j k := fun j hj k => by rw [e2]; unfold clO; rw [if_neg hj]
  have hm0 : ∀ k : Nat, σ'.1 (tot σ) k = if ftg ci k = 2 then -1 else 0 := fun k => by
    rw [e2]; unfold clO; rw [if_pos rfl, Int.toNat_natCast]
    by_cases h : ftg ci k = 2
    · rw [if_pos h, if_pos ⟨by omega, h⟩]
    · rw [if_neg h, if_neg (fun q => h q.2)]
  have hlink : Cond.classLink (cN (mO μ)) idx (cN ci) ∈ gw_tbl := by
    unfold nwc at hn
    cases hf : q_nw.find? (fun e => e.1 == mO μ && e.2.1 == idx) with
    | none => rw [hf] at hn; cases hn
    | some q =>
      rw [hf] at hn
      obtain ⟨a1, a2⟩ := find_inv hf q_nw_ok
      obtain ⟨e1, e2, e3, e4⟩ := q
      simp only [Option.map_some, Option.some.injEq] at hn
      subst hn
      simp only [q_nw_c, Bool.and_eq_true, decide_eq_true_eq, beq_iff_eq] at a1 a2
      obtain ⟨b1, rfl⟩ := a1
      rw [← b1]
      exact gw_of a2.1 rfl
  obtain ⟨cl, hcl, n1, n2, n3⟩ := cl_some hci
  obtain ⟨w1, w2⟩ := ci_words hci
  have hfv : ∀ k : Nat, fvl σ' (tot σ) ci k = if ftg ci k = 2 then .inr (.inr (-1)) else .inl 0 := fun k => by
    unfold fvl
    rw [e9, hm0]
    by_cases h : ftg ci k = 2
    · rw [if_pos h, if_pos h, if_pos h]
    · rw [if_neg h, if_neg h, if_neg h]
  refine va_new (D := D) (cl := vwCl) (ci := ci) (fs := (List.range (nfT ci)).map (fun k => if ftg ci k = 2 then Value.null else .int 0)) (C := cl.1) (T := cl.2.1) (N := cl.2.2) fx.1 fx.2.1 fx.2.2.2.2.1 (cl_words ci cl hcl) (clTy ci) (cl_types ci cl hcl) fx.2.2.2.1 (by rw [n1]; exact fx.2.2.2.2.1 _ hlink) (by rw [n1, n2]; exact fx.2.2.2.2.1 _ w1) (by rw [n1]; exact fx.2.2.2.2.1 _ w2) fx.2.2.2.2.2.2.1 hw.1 hw.2.1 hw.2.2.1 fx.2.2.2.2.2.2.2.1 hcl (fun j hj => ?_) (by omega) (by rw [n2]; omega) hd (fun q H1 P1 D1 S1 => ?_)
  · rw [n2] at hj
    unfold vp_V
    rw [List.getD_eq_getElem?_getD, List.getElem?_map, List.getElem?_range hj]
    show defaultValue (clTy ci j) = if ftg ci j = 2 then Value.null else .int 0
    obtain ⟨t1, -, -, t4⟩ := n3 j hj
    have h7 : ftg ci j ≠ 7 := ftg7 hci hj
    rw [t1] at t4 h7 ⊢
    generalize clTy ci j = ty at t4 h7 ⊢
    cases ty <;> simp [tyTag] at t4 h7 ⊢ <;> rfl
  · have hav : ∀ v, okv σ v → cvv (adN ad (tot σ) q) v = cvv ad v := fun v hv => cvv_adN hv
    have hwc : WFc σ' (tot σ) := by
      have g1 : (shp σ' (tot σ)).1 = 0 := by rw [e5]
      have g2 : (shp σ' (tot σ)).2 = ci := by rw [e5]
      unfold WFc
      rw [g1, g2]
      refine ⟨by omega, fun _ => ⟨hci, fun k hk => ?_⟩, fun h => by omega, fun h => by omega, fun h => by omega, by omega⟩
      rw [hfv]
      split
      · show (-1 : Int) < (tot σ' : Int); omega
      · exact ⟨by omega, by omega⟩
    have hx : wcell cA (adN ad (tot σ) q) σ' (tot σ) = .inr (ci, (List.range (nfT ci)).map (fun k => if ftg ci k = 2 then Value.null else .int 0)) := by
      rw [wcell_obj (σ := σ') e5]
      refine congrArg (fun x => Sum.inr (ci, x)) (List.map_congr_left fun k _ => ?_)
      rw [hfv]
      split
      · show va_rf (adN ad (tot σ) q (-1)) = .null
        unfold adN
        rw [if_neg (by omega), hw.2.2.2.2.1.1]
        rfl
      · rfl
    have w1 := Wd_push (sh := (0, ci)) hw e3 (by rw [hst]; exact e4) e6 e7 e8 hm hwc hx P1 D1 S1
    rw [hst] at w1
    have ht2 : tot σ ≤ tot σ' := by omega
    have k1 := kk (adN ad (tot σ) q) H1 locs (cells + 1) (slots + nfT ci) lsA w1 (Lo_up ht2 hav hlo) (Sk_cons (show ((tot σ : Nat) : Int) < (tot σ' : Int) by omega) (Sk_up ht2 hs))
    simp only [List.map_cons, cvv] at k1
    rw [map_up hav hs] at k1
    simp only [adN, if_pos] at k1
    rw [n2]
    exact k1
theorem S_objInit {idx : Nat} {o : Int} (fx : Fx p s m args meth c μ A cA D ad0 σ0) (hR : 1 ≤ R.frames ∧ 40 ≤ R.locals) (hd : ClassFile.decode (mB μ) pc = .ok (.invokespecial idx, 3)) (hs5 : spc (mO μ) idx = 5) (h1 : (shp σ o).1 = 0) (h0 : 0 ≤ o) (hr : pcat r ≤ 8)
    (kk : GO p l e R s m args below meth c Q μ A cA D ad0 σ0 (pc + 3, (ls, (r, σ)))) : GO p l e R s m args below meth c Q μ A cA D ad0 σ0 (pc, (ls, (.inr (.inr o) :: r, σ))) := by
  intro ad H locs cells slots lsA (hw : Wd s A cA D ad0 σ0 ad H locs cells slots σ) (hlo : Lo ad (mL μ) lsA ls σ) hs
  obtain ⟨i, q, rfl, hi, hq, hc, hwf⟩ := at_cell hw (o := o) (by omega) h0
  have hlk := spc_inv hs5 (by decide)
  rw [if_pos rfl] at hlk
  have k1 := kk ad H locs cells slots lsA hw hlo (Sk_tl hs)
  simp only [List.map_cons, cvv, hq]
  refine W.objInit fx.1 fx.2.1 fx.2.2.2.1 (fx.2.2.2.2.1 _ hlk) (fx.2.2.2.2.1 _ w_oi.2) (fx.2.2.2.2.1 _ w_oi.1) rfl (by show lsA.size = _; rw [hlo.1, fx.2.2.1]) rfl hd hR.1 ?_ k1
  show 2 * 0 + ((r.map (cvv ad)).map fun v => v.category).sum + 12 ≤ R.locals
  rw [pcat_eq]
  omega
theorem S_max {idx : Nat} {x y : Int} (fx : Fx p s m args meth c μ A cA D ad0 σ0) (hR : 1 ≤ R.frames ∧ 40 ≤ R.locals) (hB : tot σ ≤ tot σ0 + R.cells ∧ siz σ ≤ siz σ0 + R.slots) (hd : ClassFile.decode (mB μ) pc = .ok (.invokestatic idx, 3)) (hs7 : spc (mO μ) idx = 7) (hr : pcat r ≤ 8)
    (kk : GO p l e R s m args below meth c Q μ A cA D ad0 σ0 (pc + 3, (ls, (.inl (if x < y then y else x) :: r, σ)))) : GO p l e R s m args below meth c Q μ A cA D ad0 σ0 (pc, (ls, (.inl y :: .inl x :: r, σ))) := by
  intro ad H locs cells slots lsA (hw : Wd s A cA D ad0 σ0 ad H locs cells slots σ) (hlo : Lo ad (mL μ) lsA ls σ) hs
  have hy : in32 y := Sk_hd hs
  have hx : in32 x := Sk_hd (Sk_tl hs)
  have hlk := spc_inv hs7 (by decide)
  rw [if_neg (by decide), if_neg (by decide), if_pos rfl] at hlk
  have hc1 := hw.2.2.2.2.2.2.2.2.1
  have hc2 := hw.2.2.2.2.2.2.2.2.2
  have k1 := kk ad H locs cells slots lsA hw hlo (Sk_cons (show in32 (if x < y then y else x) by split <;> assumption) (Sk_tl (Sk_tl hs)))
  simp only [List.map_cons, cvv] at k1 ⊢
  refine va_mmax fx.1 fx.2.1 (by rw [fx.2.2.1, hlo.1]) fx.2.2.2.1 (fx.2.2.2.2.1 _ hlk) (fx.2.2.2.2.1 _ w_mmax.2.1) (fx.2.2.2.2.1 _ w_mmax.2.2) (fx.2.2.2.2.1 _ w_mmax.1) hR.1 (by rw [pcat_eq]; omega) (by omega) (by omega) hd ?_
  simp only [o_lt hx hy]
  split
  · rename_i h; rw [if_pos h] at k1; exact k1
  · rename_i h; rw [if_neg h] at k1; exact k1
theorem S_min {idx : Nat} {x y : Int} (fx : Fx p s m args meth c μ A cA D ad0 σ0) (hR : 1 ≤ R.frames ∧ 40 ≤ R.locals) (hB : tot σ ≤ tot σ0 + R.cells ∧ siz σ ≤ siz σ0 + R.slots) (hd : ClassFile.decode (mB μ) pc = .ok (.invokestatic idx, 3)) (hs7 : spc (mO μ) idx = 8) (hr : pcat r ≤ 8)
    (kk : GO p l e R s m args below meth c Q μ A cA D ad0 σ0 (pc + 3, (ls, (.inl (if y < x then y else x) :: r, σ)))) : GO p l e R s m args below meth c Q μ A cA D ad0 σ0 (pc, (ls, (.inl y :: .inl x :: r, σ))) := by
  intro ad H locs cells slots lsA (hw : Wd s A cA D ad0 σ0 ad H locs cells slots σ) (hlo : Lo ad (mL μ) lsA ls σ) hs
  have hy : in32 y := Sk_hd hs
  have hx : in32 x := Sk_hd (Sk_tl hs)
  have hlk := spc_inv hs7 (by decide)
  rw [if_neg (by decide), if_neg (by decide), if_neg (by decide)] at hlk
  have hc1 := hw.2.2.2.2.2.2.2.2.1
  have hc2 := hw.2.2.2.2.2.2.2.2.2
  have k1 := kk ad H locs cells slots lsA hw hlo (Sk_cons (show in32 (if y < x then y else x) by split <;> assumption) (Sk_tl (Sk_tl hs)))
  simp only [List.map_cons, cvv] at k1 ⊢
  refine va_mmin fx.1 fx.2.1 (by rw [fx.2.2.1, hlo.1]) fx.2.2.2.1 (fx.2.2.2.2.1 _ hlk) (fx.2.2.2.2.1 _ w_mmin.2) (fx.2.2.2.2.1 _ w_mmax.2.2) (fx.2.2.2.2.1 _ w_mmin.1) hR.1 (by rw [pcat_eq]; omega) (by omega) (by omega) hd ?_
  simp only [o_lt hy hx]
  split
  · rename_i h; rw [if_pos h] at k1; exact k1
  · rename_i h; rw [if_neg h] at k1; exact k1
set_option maxRecDepth 100000 in
theorem S_alen {a : Int} (fx : Fx p s m args meth c μ A cA D ad0 σ0) (hd : ClassFile.decode (mB μ) pc = .ok (.arraylength, 1)) (h1 : 1 ≤ (shp σ a).1) (h7 : (shp σ a).1 ≤ 7)
    (kk : GO p l e R s m args below meth c Q μ A cA D ad0 σ0 (pc + 1, (ls, (.inl (shp σ a).2 :: r, σ)))) : GO p l e R s m args below meth c Q μ A cA D ad0 σ0 (pc, (ls, (.inr (.inr a) :: r, σ))) := by
  intro ad H locs cells slots lsA (hw : Wd s A cA D ad0 σ0 ad H locs cells slots σ) (hlo : Lo ad (mL μ) lsA ls σ) hs
  have hlen := len_small fx hw (a := a) h7
  have k1 := kk ad H locs cells slots lsA hw hlo (Sk_cons (show in32 ((shp σ a).2 : Int) from ⟨by omega, by omega⟩) (Sk_tl hs))
  simp only [List.map_cons, cvv] at k1 ⊢
  have hof : Int32.ofNat (shp σ a).2 = Int32.ofInt ((shp σ a).2 : Int) := Int32.ofInt_eq_ofNat.symm
  by_cases hq7 : (shp σ a).1 = 7
  · obtain ⟨k, hk, rfl, hn⟩ := const_txt hq7 (shp_7 hw hq7)
    obtain ⟨-, -, -, -, ⟨adK, adV, hS, hr⟩, -⟩ := fx.2.2.2.2.2.2.2.2
    obtain ⟨-, -, -, hT⟩ := hS.1 k hk
    simp only [hw.2.2.2.2.2.1 (-20 - k) (by omega), (hr k hk).2.1]
    exact va_tlen fx.1 fx.2.1 hT hw.2.2.1 (by rw [← hn]; exact hof) hd k1
  · by_cases ha : a < 0
    · have h11 : (shp σ a).1 = 1 := by
        by_cases h6 : (shp σ a).1 = 1
        · exact h6
        · have := shp_nn (σ := σ) (i := a) (by omega) (by omega)
          omega
      obtain ⟨⟨t2, b1, b2, -⟩, ⟨t3, c1, c2⟩, -⟩ := fx.2.2.2.2.2.2.2.2
      rcases const_row h11 ha with ⟨rfl, hn⟩ | ⟨rfl, hn⟩
      · simp only [hw.2.2.2.2.2.1 (-2) (by omega), b1]
        exact va_tlen fx.1 fx.2.1 b2 hw.2.2.1 (by rw [← hn]; exact hof) hd k1
      · simp only [hw.2.2.2.2.2.1 (-3) (by omega), c1]
        rw [hw.2.2.2.2.2.2.2.1] at hn
        exact va_tlen fx.1 fx.2.1 c2 hw.2.2.1 (by rw [← hn]; exact hof) hd k1
    · obtain ⟨j, q, rfl, hj, hq, hc, hwf⟩ := at_cell hw (o := a) (by omega) (by omega)
      simp only [hq]
      by_cases h3 : (shp σ j).1 = 3
      · rw [wcell_l h3] at hc
        exact va_alen fx.1 fx.2.1 fx.2.2.2.2.2.2.1 hw.1 j 2 hc (ty := .long) rfl hof hd k1
      · by_cases h2 : (shp σ j).1 ≤ 2
        · rw [wcell_i (by omega)] at hc
          rcases (show (shp σ j).1 = 1 ∨ (shp σ j).1 = 2 by omega) with h | h
          · exact va_alen fx.1 fx.2.1 fx.2.2.2.2.2.2.1 hw.1 j 0 hc (ty := .int) (by rw [h]; rfl) hof hd k1
          · exact va_alen fx.1 fx.2.1 fx.2.2.2.2.2.2.1 hw.1 j 1 hc (ty := .boolean) (by rw [h]; rfl) hof hd k1
        · rw [wcell_r (by omega)] at hc
          exact va_alen fx.1 fx.2.1 fx.2.2.2.2.2.2.1 hw.1 j ((shp σ j).1 - 1) hc (tyL_r (by omega) (by omega)) hof hd k1
theorem gst_inv {own idx k : Nat} (h : gst own idx = some k) : Cond.fieldLink (cN own) idx (gsN k).1 (gsN k).2.1 (gsN k).2.2 ∈ gw_tbl := by
  unfold gst at h
  cases hf : q_gs.find? (fun e => e.1 == own && e.2.1 == idx) with
  | none => rw [hf] at h; cases h
  | some e =>
    rw [hf] at h
    obtain ⟨a1, a2⟩ := find_inv hf q_gs_ok
    obtain ⟨e1, e2, e3, e4⟩ := e
    simp only [Option.map_some, Option.some.injEq] at h
    subst h
    simp only [q_gs_c, Bool.and_eq_true, decide_eq_true_eq, beq_iff_eq] at a1 a2
    obtain ⟨rfl, rfl⟩ := a1
    exact gw_of a2 rfl
theorem S_gets {idx k : Nat} {v : PV} (fx : Fx p s m args meth c μ A cA D ad0 σ0) (hd : ClassFile.decode (mB μ) pc = .ok (.getstatic idx, 3)) (hk : gst (mO μ) idx = some k) (hv : (k = 0 ∧ v = .inr (.inr (-2))) ∨ (k = 1 ∧ v = .inl 1) ∨ (k = 2 ∧ v = .inr (.inr (-4))))
    (kk : GO p l e R s m args below meth c Q μ A cA D ad0 σ0 (pc + 3, (ls, (v :: st, σ)))) : GO p l e R s m args below meth c Q μ A cA D ad0 σ0 (pc, (ls, (st, σ))) := by
  intro ad H locs cells slots lsA (hw : Wd s A cA D ad0 σ0 ad H locs cells slots σ) (hlo : Lo ad (mL μ) lsA ls σ) hs
  have hlk := gst_inv hk
  have hok : okv σ v := by
    rcases hv with ⟨-, rfl⟩ | ⟨-, rfl⟩ | ⟨-, rfl⟩
    · show (-2 : Int) < (tot σ : Int); omega
    · exact ⟨by omega, by omega⟩
    · show (-4 : Int) < (tot σ : Int); omega
  have k1 := kk ad H locs cells slots lsA hw hlo (Sk_cons hok hs)
  obtain ⟨⟨t2, b1, -, b3⟩, -, c1, c2, -⟩ := fx.2.2.2.2.2.2.2.2
  rcases hv with ⟨rfl, rfl⟩ | ⟨rfl, rfl⟩ | ⟨rfl, rfl⟩
  · simp only [List.map_cons, cvv, hw.2.2.2.2.2.1 (-2) (by omega), b1] at k1
    exact va_gets fx.1 fx.2.1 b3 hw.2.2.1 fx.2.2.2.1 (fx.2.2.2.2.1 _ hlk) (fun _ h => h) hd k1
  · simp only [List.map_cons, cvv] at k1
    exact va_gets fx.1 fx.2.1 c1 hw.2.2.1 fx.2.2.2.1 (fx.2.2.2.2.1 _ hlk) (fun _ h => h) hd k1
  · simp only [List.map_cons, cvv, hw.2.2.2.2.2.1 (-4) (by omega)] at k1
    exact va_gets fx.1 fx.2.1 c2 hw.2.2.1 fx.2.2.2.1 (fx.2.2.2.2.1 _ hlk) (fun _ h => h) hd k1
theorem sfl_inv {own idx k : Nat} (h : sfl own idx = some k) : Cond.fieldLink (cN own) idx "java/lang/String" (if k = 0 then "value" else "coder") (if k = 0 then "[B" else "B") ∈ gw_tbl := by
  unfold sfl at h
  cases hf : q_sf.find? (fun e => e.1 == own && e.2.1 == idx) with
  | none => rw [hf] at h; cases h
  | some e =>
    rw [hf] at h
    obtain ⟨a1, a2⟩ := find_inv hf q_sf_ok
    obtain ⟨e1, e2, e3, e4⟩ := e
    simp only [Option.map_some, Option.some.injEq] at h
    subst h
    simp only [q_sf_c, Bool.and_eq_true, decide_eq_true_eq, beq_iff_eq] at a1 a2
    obtain ⟨rfl, rfl⟩ := a1
    exact gw_of a2 rfl
theorem S_strf {idx k : Nat} {o : Int} {v : PV} (fx : Fx p s m args meth c μ A cA D ad0 σ0) (hd : ClassFile.decode (mB μ) pc = .ok (.getfield idx, 3)) (hk : sfl (mO μ) idx = some k) (ho : o = -10 ∨ o = -11 ∨ o = -12) (hv : (k = 0 ∧ v = .inr (.inr (o - 10))) ∨ (k = 1 ∧ v = .inl 0))
    (kk : GO p l e R s m args below meth c Q μ A cA D ad0 σ0 (pc + 3, (ls, (v :: r, σ)))) : GO p l e R s m args below meth c Q μ A cA D ad0 σ0 (pc, (ls, (.inr (.inr o) :: r, σ))) := by
  intro ad H locs cells slots lsA (hw : Wd s A cA D ad0 σ0 ad H locs cells slots σ) (hlo : Lo ad (mL μ) lsA ls σ) hs
  have hlk := sfl_inv hk
  obtain ⟨i, hi, rfl⟩ : ∃ i : Nat, i < 3 ∧ o = -10 - i := by
    rcases ho with rfl | rfl | rfl
    · exact ⟨0, by omega, by omega⟩
    · exact ⟨1, by omega, by omega⟩
    · exact ⟨2, by omega, by omega⟩
  have hok : okv σ v := by
    rcases hv with ⟨-, rfl⟩ | ⟨-, rfl⟩
    · show (-10 - (i : Int) - 10 : Int) < (tot σ : Int); omega
    · exact ⟨by omega, by omega⟩
  have k1 := kk ad H locs cells slots lsA hw hlo (Sk_cons hok (Sk_tl hs))
  obtain ⟨-, -, -, -, ⟨adK, adV, hS, hr⟩, -⟩ := fx.2.2.2.2.2.2.2.2
  obtain ⟨-, f1, f2, -⟩ := hS.1 i hi
  obtain ⟨g1, g2, -⟩ := hr i hi
  simp only [List.map_cons, cvv, hw.2.2.2.2.2.1 (-10 - i) (by omega), g1]
  rcases hv with ⟨rfl, rfl⟩ | ⟨rfl, rfl⟩
  · simp only [List.map_cons, cvv, show (-10 - (i : Int) - 10) = -20 - i by omega, hw.2.2.2.2.2.1 (-20 - i) (by omega), g2] at k1
    exact vk_getf fx.1 fx.2.1 f2 hw.2.2.1 fx.2.2.2.1 (fx.2.2.2.2.1 _ hlk) (fun _ h => h) hd k1
  · simp only [List.map_cons, cvv] at k1
    exact vk_getf fx.1 fx.2.1 f1 hw.2.2.1 fx.2.2.2.1 (fx.2.2.2.2.1 _ hlk) (fun _ h => h) hd k1
end SNP
