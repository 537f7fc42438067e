/-! CALLS, WHOLE FRAMES, CONTRACTS: what the pure machine does, the machine does. -/
section SNQ
variable {p : Program} {l : Launch} {e : Env} {R : Room} {s : State} {m : MethodId} {args : Array Value} {below : List Frame} {meth : Method} {c : Code} {Q : State → Prop} {μ : Nat} {A : Nat → Prop} {cA : Nat → ClassId} {D : va_G} {ad0 ad : Int → Option Nat} {σ0 σ σ' : PS} {pc : Nat} {ls : PL} {st r : List PV} {H H1 : Heap} {locs locs1 : List Loc} {cells slots : Nat} {lsA : Array Slot}
theorem cpy_off {m' : PM} {a sp b dp n : Int} {j : Int} (hj : j ≠ b) (k : Int) : cpy m' a sp b dp n j k = m' j k := by
  unfold cpy; rw [if_neg (fun h => hj h.1)]
theorem cpy_nat {m' : PM} {a sp b dp n : Int} (h0 : 0 ≤ sp) (h1 : 0 ≤ dp) (h2 : 0 ≤ n) (k : Nat) : cpy m' a sp b dp n b k = if dp.toNat ≤ k ∧ k < dp.toNat + n.toNat then m' a ((sp.toNat + (k - dp.toNat) : Nat) : Int) else m' b k := by
  unfold cpy
  by_cases h : dp.toNat ≤ k ∧ k < dp.toNat + n.toNat
  · rw [if_pos h, if_pos ⟨rfl, by omega, by omega⟩]
    congr 1
    omega
  · rw [if_neg h, if_neg (fun q => h ⟨by omega, by omega⟩)]
set_option maxRecDepth 100000 in
theorem S_acp {idx : Nat} {a b sp dp n : Int} (fx : Fx p s m args meth c μ A cA D ad0 σ0) (hR : 1 ≤ R.frames ∧ 40 ≤ R.locals) (hd : ClassFile.decode (mB μ) pc = .ok (.invokestatic idx, 3)) (hs6 : spc (mO μ) idx = 6)
    (hc : 0 ≤ sp ∧ 0 ≤ dp ∧ 0 ≤ n ∧ 0 ≤ a ∧ 0 ≤ b ∧ ((shp σ a).1 = 1 ∨ (shp σ a).1 = 3) ∧ (shp σ b).1 = (shp σ a).1 ∧ sp + n ≤ (shp σ a).2 ∧ dp + n ≤ (shp σ b).2 ∧ pcat r ≤ 8)
    (kk : GO p l e R s m args below meth c Q μ A cA D ad0 σ0 (pc + 3, (ls, (r, (cpy σ.1 a sp b dp n, σ.2))))) : GO p l e R s m args below meth c Q μ A cA D ad0 σ0 (pc, (ls, (.inl n :: .inl dp :: .inr (.inr b) :: .inl sp :: .inr (.inr a) :: r, σ))) := by
  intro ad H locs cells slots lsA (hw : Wd s A cA D ad0 σ0 ad H locs cells slots σ) (hlo : Lo ad (mL μ) lsA ls σ) hs
  obtain ⟨c1, c2, c3, c4, c5, c6, c7, c8, c9, c10⟩ := hc
  have l1 := len_small fx hw (a := a) (by omega)
  have l2 := len_small fx hw (a := b) (by omega)
  have hlk := spc_inv hs6 (by decide)
  rw [if_neg (by decide), if_pos rfl] at hlk
  obtain ⟨i, q, rfl, hi, hq, hcc, hwf⟩ := at_cell hw (o := a) (by omega) c4
  obtain ⟨j, q2, rfl, hj, hq2, hcc2, hwf2⟩ := at_cell hw (o := b) (by omega) c5
  have e1 : (Int32.ofInt sp).toNatClampNeg = sp.toNat := o_clamp c1 (by omega)
  have e2 : (Int32.ofInt dp).toNatClampNeg = dp.toNat := o_clamp c2 (by omega)
  have e3 : (Int32.ofInt n).toNatClampNeg = n.toNat := o_clamp c3 (by omega)
  have neg : ∀ z : Int, 0 ≤ z → z < 2147483648 → ¬ Int32.ofInt z < 0 := fun z h0 h1 h => by
    have := (o_lt (x := z) (y := 0) ⟨by omega, by omega⟩ ⟨by omega, by omega⟩).mp h
    omega
  have hs5 := Sk_tl (Sk_tl (Sk_tl (Sk_tl (Sk_tl hs))))
  have hrm : ((r.map (cvv ad)).map fun v => v.category).sum + (nativeFrameWords "java/lang/System" "arraycopy" 5 + 11) ≤ R.locals := by
    rw [pcat_eq]
    have : nativeFrameWords "java/lang/System" "arraycopy" 5 + 11 ≤ 32 := Nat.le_of_ble_eq_true rfl
    omega
  simp only [List.map_cons, cvv, hq, hq2]
  rcases c6 with c6 | c6
  · rw [wcell_i (Or.inl c6), c6] at hcc
    rw [wcell_i (Or.inl (by omega)), c7, c6] at hcc2
    refine va_copyi (ty := .int) fx.1 fx.2.1 (by rw [fx.2.2.1, hlo.1]) fx.2.2.2.1 (fx.2.2.2.2.1 _ hlk) (fx.2.2.2.2.1 _ w_acp.1) (fx.2.2.2.2.1 _ w_acp.2.1) (fx.2.2.2.2.1 _ w_acp.2.2) fx.2.2.2.2.2.2.1 hw.1 hw.2.1 hw.2.2.1 i j 0 0 hcc hcc2 rfl rfl rfl (neg sp c1 (by omega)) (neg dp c2 (by omega)) (neg n c3 (by omega)) (by omega) (by omega) (fun _ _ => rfl) hR.1 hrm hd (fun H1 locs1 P1 D1 S1 => ?_)
    refine kk ad H1 locs1 cells slots lsA (Wd_set hw hj hq2 (fun _ hj2 k => cpy_off hj2 k) ⟨hwf2.1, fun h => ?_, fun h => ?_, fun _ k => ?_, fun h => ?_, hwf2.2.2.2.2.2⟩ ?_ P1 D1 S1) (Lo_mem _ hlo) (Sk_mem _ hs5)
    · rw [shp_mem] at h; omega
    · rw [shp_mem] at h; omega
    · show in32 (cpy σ.1 i sp j dp n j k)
      rw [cpy_nat c1 c2 c3]
      split
      · exact hwf.2.2.2.1 (Or.inl c6) _
      · exact hwf2.2.2.2.1 (Or.inl (by omega)) _
    · rw [shp_mem] at h; omega
    · rw [wcell_i (σ := (cpy σ.1 i sp j dp n, σ.2)) (Or.inl (by rw [shp_mem]; omega)), shp_mem, c7, c6, e1, e2, e3]
      refine congrArg (fun x => Sum.inl (cA 1, (shp σ j).2, Sum.inl x)) (funext fun k => ?_)
      show Int32.ofInt (cpy σ.1 i sp j dp n j k) = va_cpy (fun k : Nat => Int32.ofInt (σ.1 i k)) (fun k : Nat => Int32.ofInt (σ.1 j k)) sp.toNat dp.toNat n.toNat k
      rw [cpy_nat c1 c2 c3]
      unfold va_cpy
      split <;> rfl
  · rw [wcell_l c6] at hcc
    rw [wcell_l (by omega)] at hcc2
    refine va_copyl (ty := .long) fx.1 fx.2.1 (by rw [fx.2.2.1, hlo.1]) fx.2.2.2.1 (fx.2.2.2.2.1 _ hlk) (fx.2.2.2.2.1 _ w_acp.1) (fx.2.2.2.2.1 _ w_acp.2.1) (fx.2.2.2.2.1 _ w_acp.2.2) fx.2.2.2.2.2.2.1 hw.1 hw.2.1 hw.2.2.1 i j 2 2 hcc hcc2 rfl rfl rfl (neg sp c1 (by omega)) (neg dp c2 (by omega)) (neg n c3 (by omega)) (by omega) (by omega) (fun _ _ => rfl) hR.1 hrm hd (fun H1 locs1 P1 D1 S1 => ?_)
    refine kk ad H1 locs1 cells slots lsA (Wd_set hw hj hq2 (fun _ hj2 k => cpy_off hj2 k) ⟨hwf2.1, fun h => ?_, fun _ k => ?_, fun h => ?_, fun h => ?_, hwf2.2.2.2.2.2⟩ ?_ P1 D1 S1) (Lo_mem _ hlo) (Sk_mem _ hs5)
    · rw [shp_mem] at h; omega
    · show in64 (cpy σ.1 i sp j dp n j k)
      rw [cpy_nat c1 c2 c3]
      split
      · exact hwf.2.2.1 c6 _
      · exact hwf2.2.2.1 (by omega) _
    · rw [shp_mem] at h; omega
    · rw [shp_mem] at h; omega
    · rw [wcell_l (σ := (cpy σ.1 i sp j dp n, σ.2)) (by rw [shp_mem]; omega), shp_mem, e1, e2, e3]
      refine congrArg (fun x => Sum.inl (cA 3, (shp σ j).2, Sum.inr (Sum.inl x))) (funext fun k => ?_)
      show Int64.ofInt (cpy σ.1 i sp j dp n j k) = va_cpy (fun k : Nat => Int64.ofInt (σ.1 i k)) (fun k : Nat => Int64.ofInt (σ.1 j k)) sp.toNat dp.toNat n.toNat k
      rw [cpy_nat c1 c2 c3]
      unfold va_cpy
      split <;> rfl
-- contracts
def Pcc (cA : Nat → ClassId) (D : va_G) (ad : Int → Option Nat) (σ : PS) (sz : Nat) (a : List PV) : Array Value → State → Prop := va_Pc (a.map (cvv ad)) (fun U => U.heap.size = sz ∧ va_P D vwCl (wof cA ad σ) U.heap ∧ va_K D vwCl (tyL cA) U ∧ va_D (fun _ => True) (wof cA ad σ) ∧ Kc (va_A (wof cA ad σ) sz) U U.heap ad σ)
def BBc (cA : Nat → ClassId) (D : va_G) (ad : Int → Option Nat) (σ : PS) (sz : Nat) (σ' : PS) (r : Option PV) (ad' : Int → Option Nat) (t : State) : Prop :=
  (∀ z : Int, z < tot σ → ad' z = ad z) ∧ WF σ' ∧ ADok ad' σ' ∧ (∀ a k : Int, a < 0 → σ'.1 a k = σ.1 a k) ∧ σ'.2.2.2 = σ.2.2.2 ∧ (∀ v, r = some v → okv σ' v) ∧ va_P D vwCl (wof cA ad' σ') t.heap ∧ va_D (va_A (wof cA ad σ) sz) (wof cA ad' σ')
def Qcc (cA : Nat → ClassId) (D : va_G) (ad : Int → Option Nat) (σ : PS) (sz : Nat) (σ' : PS) (r : Option PV) : Array Value → State → Outcome → State → Prop := match r with
  | none => va_Qv (fun _ : Int → Option Nat => True) (BBc cA D ad σ sz σ' none) (va_A (wof cA ad σ) sz)
  | some (.inl z) => va_Qi (fun x (_ : Int → Option Nat) => x = Int32.ofInt z) (BBc cA D ad σ sz σ' (some (.inl z))) (va_A (wof cA ad σ) sz)
  | some (.inr (.inl z)) => va_Ql (fun x (_ : Int → Option Nat) => x = Int64.ofInt z) (BBc cA D ad σ sz σ' (some (.inr (.inl z)))) (va_A (wof cA ad σ) sz)
  | some (.inr (.inr z)) => va_Qr (fun _ : Int → Option Nat => True) (fun ad' a t => ad' z = some a ∧ BBc cA D ad σ sz σ' (some (.inr (.inr z))) ad' t) (va_A (wof cA ad σ) sz)
def mW (μ : Nat) : List Cond := .code (mY μ) (mB μ) (mL μ) (mR μ) :: gw_tbl
def Msound (d μ : Nat) (a : List PV) (σ : PS) (r : Option PV) (σ' : PS) : Prop := tot σ ≤ tot σ' ∧ siz σ ≤ siz σ' ∧ ∀ (l : Launch) (cA : Nat → ClassId) (D : va_G) (ad : Int → Option Nat) (sz : Nat), WF σ → ADok ad σ → (∀ v ∈ a, okv σ v) →
  Met l (mY μ) (mW μ) { frames := d, cells := tot σ' - tot σ, slots := siz σ' - siz σ, locals := 40 * d } (Pcc cA D ad σ sz a) (Qcc cA D ad σ sz σ' r) (tot σ' - tot σ) (siz σ' - siz σ) (va_A (wof cA ad σ) sz)
theorem nest_shape {w : Cond} (h : w ∈ nestW) : ∃ a i x h2, w = .methodLinkNest a i x h2 := by
  have h1 := (List.mem_filter.mp h).2
  cases w <;> simp [isNest] at h1
  exact ⟨_, _, _, _, rfl⟩
/-- the constants in another state of the same tables -/
theorem Kc_vm {U U' : State} (hv : U'.vm = U.vm) (h : Kc A U H ad σ) : Kc A U' H ad σ := by
  have hal : U.vm.Alike U'.vm := by rw [hv]; exact Vm.Alike.refl _
  obtain ⟨⟨t2, a1, a2, a3⟩, ⟨t3, b1, b2⟩, c1, c2, ⟨adK, adV, hS, hr⟩, d1, d2, d3, d4, d5, o1, o2, o3⟩ := h
  refine ⟨⟨t2, a1, a2.moved hal, a3.moved hal⟩, ⟨t3, b1, b2.moved hal⟩, c1.moved hal, c2.moved hal, ⟨adK, adV, hS.moved hal, fun i hi => ⟨(hr i hi).1, (hr i hi).2.1, vk_R.same hv (hr i hi).2.2⟩⟩, d1, d2, d3, d4, fun w hw => ?_, o1.moved hal, o2.moved hal, o3.moved hal⟩
  obtain ⟨a, i, x, h2, rfl⟩ := nest_shape hw
  exact va_Nw.same rfl hv.symm (d5 _ hw)
/-- the constants as a called method finds them -/
theorem Kc_call {A1 : Nat → Prop} {U : State} (fx : Fx p s m args meth c μ A cA D ad0 σ0) (hw : Wd s A cA D ad0 σ0 ad H locs cells slots σ) (hA : ∀ q, A1 q → A q) (hU : U.heap = H) (hW : s.WarmedH U.vm) : Kc A1 U U.heap ad σ := by
  have hal := hW.alike
  have hk : ∀ a : Nat, a < s.heap.size → ¬ A a → H[a]? = s.heap[a]? := hw.2.2.1.2.1
  obtain ⟨⟨t2, a1, a2, a3⟩, ⟨t3, b1, b2⟩, c1, c2, ⟨adK, adV, hS, hr⟩, d1, d2, d3, d4, d5, o1, o2, o3⟩ := fx.2.2.2.2.2.2.2.2
  have hn := hw.2.2.2.2.2.1
  have hm := hw.2.2.2.2.2.2.1
  have hL := hw.2.2.2.2.2.2.2.1
  rw [hU]
  refine ⟨⟨t2, by rw [hn _ (by omega)]; exact a1, ?_, ((a3.kept hk).moved hal).narrow hA⟩, ⟨t3, by rw [hn _ (by omega)]; exact b1, ?_⟩, ((c1.kept hk).moved hal).narrow hA, ?_, ⟨adK, adV, ((hS.kept hk).moved hal).narrow hA, fun i hi => ⟨by rw [hn _ (by omega)]; exact (hr i hi).1, by rw [hn _ (by omega)]; exact (hr i hi).2.1, vk_R.warm hW (hr i hi).2.2⟩⟩, fun i hi j hj => ?_, fun j hj => ?_, fun j hj => ?_, by rw [hL]; exact d4, fun w hw => ?_, o1.moved hal, o2.moved hal, o3.moved hal⟩
  · simp only [hm (-2) _ (show (-2 : Int) < 0 by omega)]
    exact ((a2.kept hk).moved hal).narrow hA
  · rw [hL]
    simp only [hm (-3) _ (show (-3 : Int) < 0 by omega)]
    exact ((b2.kept hk).moved hal).narrow hA
  · rw [hn (-4) (by omega)]
    exact ((c2.kept hk).moved hal).narrow hA
  · rw [hm (-20 - i) _ (by omega)]
    exact d1 i hi j hj
  · rw [hm (-2) _ (by omega)]
    exact d2 j hj
  · rw [hL] at hj
    rw [hm (-3) _ (by omega)]
    exact d3 j hj
  · obtain ⟨a, i, x, h2, rfl⟩ := nest_shape hw
    exact va_Nw.warmM hW (d5 _ hw)
theorem Pcc_blind {a : List PV} {sz : Nat} : FrameBlind (Pcc cA D ad σ sz a) := by
  intro x U g mk h
  obtain ⟨h1, h2, h3, h4, h5, h6⟩ := h
  exact ⟨h1, h2, h3, va_K.moved (u := U) (U := U.calling g mk x) (Vm.Alike.refl U.vm) h4, h5, Kc_vm (U := U) (U' := U.calling g mk x) rfl h6⟩
theorem Pcc_pre {a : List PV} (fx : Fx p s m args meth c μ A cA D ad0 σ0) (hw : Wd s A cA D ad0 σ0 ad H locs cells slots σ) (hA : ∀ q, va_A (wof cA ad σ) H.size q → A q) : ∀ U : State, U.heap = H → s.WarmedH U.vm → Pcc cA D ad σ H.size a (a.map (cvv ad)).toArray U := fun U hU hW =>
  ⟨rfl, by rw [hU], by rw [hU]; exact hw.1, va_K.moved hW.alike fx.2.2.2.2.2.2.1, hw.2.1.weaken (fun _ _ _ _ => trivial), Kc_call fx hw hA hU hW⟩
theorem A_sub (fx : Fx p s m args meth c μ A cA D ad0 σ0) (hw : Wd s A cA D ad0 σ0 ad H locs cells slots σ) : ∀ q, va_A (wof cA ad σ) H.size q → A q := by
  intro q h
  rcases h with ⟨k, e, h⟩ | h
  · exact hw.2.1.2 k (q, e) h
  · exact fx.2.2.2.2.2.2.2.1 q (Nat.le_trans hw.2.2.1.1 h)
/-- behind a call -/
theorem ret_GO {rv : Option PV} {a : Array Value} {st0 : List Value} (fx : Fx p s m args meth c μ A cA D ad0 σ0) (hw : Wd s A cA D ad0 σ0 ad H locs cells slots σ) (hlo : Lo ad (mL μ) lsA ls σ) (hs : Sk σ r) (ht : tot σ ≤ tot σ') (hz : siz σ ≤ siz σ')
    (hr : va_Run p l e R s m args below meth c H locs cells slots (tot σ' - tot σ) (siz σ' - siz σ) (F0 m pc lsA st0) (r.map (cvv ad)) (Qcc cA D ad σ H.size σ' rv a) (va_A (wof cA ad σ) H.size))
    (kk : GO p l e R s m args below meth c Q μ A cA D ad0 σ0 (pc + 3, (ls, (psh rv r, σ')))) : W p l e R s m args below meth c H locs cells slots Q (F0 m pc lsA st0) := by
  have hA := A_sub fx hw
  have hav : ∀ ad' : Int → Option Nat, (∀ z : Int, z < tot σ → ad' z = ad z) → ∀ v, okv σ v → cvv ad' v = cvv ad v := by
    intro ad' h v hv
    match v, hv with
    | .inl z, _ => rfl
    | .inr (.inl z), _ => rfl
    | .inr (.inr z), hv => simp only [cvv, h z hv]
  have key : ∀ (ad' : Int → Option Nat) (t : State) (H1 : Heap) (locs1 : List Loc), t.heap = H1 → BBc cA D ad σ H.size σ' rv ad' t → va_S A s.heap H1 locs1 → W p l e R s m args below meth c H1 locs1 (cells + (tot σ' - tot σ)) (slots + (siz σ' - siz σ)) Q (F0 m (pc + 3) lsA ((psh rv r).map (cvv ad'))) := by
    intro ad' t H1 locs1 hth hb hS1
    obtain ⟨b1, b2, b3, b4, b5, b6, b7, b8⟩ := hb
    obtain ⟨-, -, -, -, -, hn, hm, hL, hc1, hc2⟩ := hw
    refine kk ad' H1 locs1 _ _ lsA ⟨by rw [← hth]; exact b7, b8.weaken (fun _ q _ h => hA q.1 h), hS1, b2, b3, fun z hz => by rw [b1 z (by omega)]; exact hn z hz, fun a k h => by rw [b4 a k h]; exact hm a k h, by rw [b5]; exact hL, by show _ ≤ tot σ'; omega, by show _ ≤ siz σ'; omega⟩ (Lo_up ht (hav ad' b1) hlo) ?_
    cases rv with
    | none => exact Sk_up ht hs
    | some v => exact Sk_cons (b6 v rfl) (Sk_up ht hs)
  have km : ∀ ad' : Int → Option Nat, (∀ z : Int, z < tot σ → ad' z = ad z) → r.map (cvv ad') = r.map (cvv ad) := fun ad' h => map_up (hav ad' h) hs
  match rv, hr, key with
  | none, hr, key =>
    refine va_callv (a := a) hr hw.2.2.1 (fun q _ h => hA q h) hA (fun u t H1 locs1 h1 h2 h3 h4 h5 h6 h7 => ?_)
    have k1 := key u t H1 locs1 h1 h4 h7
    simp only [psh] at k1
    rw [km u h4.1] at k1
    exact k1
  | some (.inl z), hr, key =>
    refine va_calli (a := a) hr hw.2.2.1 (fun q _ h => hA q h) hA (fun x u t H1 locs1 h1 h2 h3 h4 h5 h6 h7 => ?_)
    have k1 := key u t H1 locs1 h1 h4 h7
    simp only [psh, List.map_cons, cvv] at k1
    rw [km u h4.1] at k1
    rw [h3]
    exact k1
  | some (.inr (.inl z)), hr, key =>
    refine va_calll (a := a) hr hw.2.2.1 (fun q _ h => hA q h) hA (fun x u t H1 locs1 h1 h2 h3 h4 h5 h6 h7 => ?_)
    have k1 := key u t H1 locs1 h1 h4 h7
    simp only [psh, List.map_cons, cvv] at k1
    rw [km u h4.1] at k1
    rw [h3]
    exact k1
  | some (.inr (.inr z)), hr, key =>
    refine va_callr (a := a) hr hw.2.2.1 (fun q _ h => hA q h) hA (fun u x t H1 locs1 h1 h2 h3 h4 h5 h6 h7 => ?_)
    have k1 := key u t H1 locs1 h1 h4.2 h7
    simp only [psh, List.map_cons, cvv, h4.1] at k1
    rw [km u h4.2.1] at k1
    exact k1
theorem pop_inv {as rest : List PV} : ∀ (n : Nat) (acc st : List PV), pop n acc st = some (as, rest) → ∃ pre : List PV, pre.length = n ∧ st = pre ++ rest ∧ as = pre.reverse ++ acc := by
  intro n
  induction n with
  | zero => intro acc st h; cases h; exact ⟨[], rfl, rfl, rfl⟩
  | succ n ih =>
    intro acc st h
    cases st with
    | nil => cases h
    | cons v st =>
      obtain ⟨pre, h1, h2, h3⟩ := ih (v :: acc) st h
      refine ⟨v :: pre, by simp [h1], by rw [h2]; rfl, by rw [h3]; simp⟩
theorem pop_st {as rest st : List PV} {n : Nat} (h : pop n [] st = some (as, rest)) : st = as.reverse ++ rest ∧ as.length = n := by
  obtain ⟨pre, h1, h2, h3⟩ := pop_inv n [] st h
  rw [List.append_nil] at h3
  subst h3
  exact ⟨by rw [List.reverse_reverse]; exact h2, by rw [List.length_reverse]; exact h1⟩
theorem Sk_app {as : List PV} (h : Sk σ (as.reverse ++ st)) : (∀ v ∈ as, okv σ v) ∧ Sk σ st := ⟨fun v hv => h v (List.mem_append_left _ (List.mem_reverse.mpr hv)), fun v hv => h v (List.mem_append_right _ hv)⟩
end SNQ
