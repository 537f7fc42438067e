/-! CALLS of the four kinds, every step, whole frames, whole methods. -/
section SNR
variable {p : Program} {l : Launch} {e : Env} {R : Room} {s : State} {m : MethodId} {args : Array Value} {below : List Frame} {meth : Method} {c : Code} {Q : State → Prop} {μ : Nat} {A : Nat → Prop} {cA : Nat → ClassId} {D : va_G} {ad0 ad : Int → Option Nat} {σ0 σ σ' : PS} {pc : Nat} {ls : PL} {st r : List PV} {H H1 : Heap} {locs locs1 : List Loc} {cells slots : Nat} {lsA : Array Slot}
theorem mW_in {μ' : Nat} (h : μ' < 231) : ∀ w ∈ mW μ', w ∈ gw_tbl := by
  intro w hw
  rcases List.mem_cons.mp hw with rfl | hw
  · exact (mw_facts h).1
  · exact hw
/-- the receiver of a call, of a class of the two, or a text -/
theorem rcv_of {o : Int} {cls : Nat} (fx : Fx p s m args meth c μ A cA D ad0 σ0) (hw : Wd s A cA D ad0 σ0 ad H locs cells slots σ) (ho : shp σ o = (0, cls) ∨ ((o = -10 ∨ o = -11 ∨ o = -12) ∧ cls = 12)) : ∃ b : Nat, ad o = some b ∧ ∃ cell : Cell, H[b]? = some cell ∧ cell.vm.isStatics = false ∧ s.vm.findClass (cN cls) = some cell.cls := by
  rcases ho with ho | ⟨ho, rfl⟩
  · obtain ⟨i, q, rfl, hi, hq, hc, hwf⟩ := at_cell hw (o := o) (by rw [ho]; exact Nat.zero_le _) (shp_nn (σ := σ) (by rw [ho]; exact Nat.zero_le _) (by rw [ho]; intro h; cases h))
    have hci : cls < 12 := by
      unfold WFc at hwf
      obtain ⟨-, h2, -⟩ := hwf
      rw [ho] at h2
      exact (h2 rfl).1
    obtain ⟨cl, hcl, n1, -⟩ := cl_some hci
    rw [wcell_obj ho] at hc
    rw [← n1]
    exact ⟨q, hq, va_recv fx.2.2.2.2.2.2.1 hw.1 hcl hc⟩
  · obtain ⟨i, hi, rfl⟩ : ∃ i : Nat, i < 3 ∧ o = -10 - i := by
      rcases ho with rfl | rfl | rfl
      · exact ⟨0, by omega, by omega⟩
      · exact ⟨1, by omega, by omega⟩
      · exact ⟨2, by omega, by omega⟩
    obtain ⟨-, -, -, -, ⟨adK, adV, hS, hr⟩, -⟩ := fx.2.2.2.2.2.2.2.2
    exact ⟨adK i, by rw [hw.2.2.2.2.2.1 _ (by omega)]; exact (hr i hi).1, vk_recv hS hi hw.2.2.1⟩
theorem gd_inv {cnd : Prop} [Decidable cnd] {x : Option PO} {y : PO} (h : gd cnd x = some y) : cnd ∧ x = some y := by
  unfold gd at h
  by_cases hc : cnd
  · rw [if_pos hc] at h; exact ⟨hc, h⟩
  · rw [if_neg hc] at h; cases h
theorem call_GO {d idx kd kc μ' na cls ml : Nat} {q : Nat × (List PV × Cf)} {rv : Option PV} (fx : Fx p s m args meth c μ A cA D ad0 σ0) (hR : d + 1 ≤ R.frames ∧ 40 * (d + 1) ≤ R.locals)
    (hi : inv (mO μ) idx = some (kd, μ', na, cls, ml)) (hkc : kc = kd) (hd : (kd = 0 ∧ ClassFile.decode (mB μ) pc = .ok (.invokevirtual idx, 3)) ∨ (kd = 1 ∧ ClassFile.decode (mB μ) pc = .ok (.invokestatic idx, 3)) ∨ ((kd = 2 ∨ kd = 3) ∧ ClassFile.decode (mB μ) pc = .ok (.invokespecial idx, 3)))
    (hc : cal μ' na cls ml pc ls st σ kc = some (.inr (.inr q))) :
    q.1 = μ' ∧ μ' < 231 ∧ pcat q.2.1 ≤ mL μ' ∧ q.2.2.1 = pc + 3 ∧ q.2.2.2.1 = ls ∧ q.2.2.2.2.2 = σ ∧
    (Msound d μ' q.2.1 σ rv σ' → tot σ' ≤ tot σ0 + R.cells → siz σ' ≤ siz σ0 + R.slots → GO p l e R s m args below meth c Q μ A cA D ad0 σ0 (pc + 3, (ls, (psh rv q.2.2.2.2.1, σ'))) → GO p l e R s m args below meth c Q μ A cA D ad0 σ0 (pc, (ls, (st, σ)))) := by
  subst hkc
  obtain ⟨h231, rfl, rfl, rfl, hkd, hk3, hl1, hl2⟩ := inv_inv hi
  obtain ⟨⟨m1, m2, m3⟩, m4, m5, m6, m7, m8⟩ := mt_facts h231
  obtain ⟨w1, w2, w3, w4, w5, w6⟩ := mw_facts h231
  have hts := fx.2.2.2.2.1
  have hcat1 : ∀ (v : Int) (as : List PV), pcat (.inr (.inr v) :: as) = 1 + pcat as := fun _ _ => rfl
  rcases hd with ⟨rfl, hd⟩ | ⟨rfl, hd⟩ | ⟨hk, hd⟩
  · simp only [cal] at hc
    split at hc
    · rename_i as o r' hp
      obtain ⟨⟨ho, hr8, hml⟩, hq⟩ := gd_inv hc
      cases hq
      obtain ⟨hst, hlen⟩ := pop_st hp
      subst hst
      refine ⟨rfl, h231, by rw [hcat1]; exact hml, rfl, rfl, rfl, fun hM hB1 hB2 kk => ?_⟩
      intro ad H locs cells slots lsA (hw : Wd s A cA D ad0 σ0 ad H locs cells slots σ) (hlo : Lo ad (mL μ) lsA ls σ) hs
      obtain ⟨ha1, hs1⟩ := Sk_app hs
      obtain ⟨b, hb, hrc⟩ := rcv_of fx hw ho
      have hA := A_sub fx hw
      have hall : ∀ v ∈ (.inr (.inr o) :: as : List PV), okv σ v := fun v hv => by
        rcases List.mem_cons.mp hv with rfl | hv
        · exact Sk_hd hs1
        · exact ha1 v hv
      have hMet := hM.2.2 l cA D ad H.size hw.2.2.2.1 hw.2.2.2.2.1 hall
      have hmd : mD μ' = 0 := by rcases hkd with h | ⟨h, -⟩ <;> omega
      have cw : CallW R s args (cN (mO μ)) (mY μ').cls idx (mY μ') (mB μ') (mL μ') (mR μ') (mW μ') { frames := d, cells := tot σ' - tot σ, slots := siz σ' - siz σ, locals := 40 * d } (tot σ' - tot σ) (siz σ' - siz σ) (mA μ') :=
        cwV (ws' := gw_tbl) (mA μ') hts (gw_good fun w hw2 => by
          unfold wsV at hw2
          simp only [List.cons_append, List.nil_append, List.mem_cons] at hw2
          rcases hw2 with rfl | rfl | rfl | rfl | hw2
          · exact hl1 (by omega)
          · exact w4 (by omega)
          · exact w5 hmd
          · exact w2
          · exact mW_in h231 w hw2) rfl rfl rfl ⟨rfl, m1, m2, m3⟩ ⟨hR.1, by show 8 + (mL μ' + 11) + 40 * d ≤ R.locals; omega⟩
      have hc1 := hw.2.2.2.2.2.2.2.2.1
      have hc2 := hw.2.2.2.2.2.2.2.2.2
      have hbv : cvv ad (.inr (.inr o)) = .ref b := by simp only [cvv, hb]; rfl
      have ht1 := hM.1
      have ht2 := hM.2.1
      have pre := Pcc_pre (a := .inr (.inr o) :: as) fx hw hA
      simp only [List.map_cons, hbv] at pre
      have run := va_runV (mc := tot σ' - tot σ) (ms := siz σ' - siz σ) (cells := cells) (slots := slots) (locs := locs) (p := p) (e := e) (below := below) (meth := meth) (As := as.map (cvv ad)) (rest := r'.map (cvv ad)) (b := b) (g := F0 m pc lsA ((as.reverse ++ .inr (.inr o) :: r').map (cvv ad))) ⟨fx.1, fx.2.1, fx.2.2.1, fx.2.2.2.1, hts⟩ hMet cw ⟨Pcc_blind, by rw [m8]; exact hrc, pre⟩ rfl (by rw [List.length_map]; exact hlen) hlo.1 (by show List.map (cvv ad) (as.reverse ++ .inr (.inr o) :: r') = _; rw [List.map_append, List.map_cons, hbv, List.map_reverse]) (lv_room (by rw [pcat_eq]; exact hr8)) hd ⟨by omega, by omega⟩
      exact ret_GO fx hw hlo (Sk_tl hs1) hM.1 hM.2.1 run kk
    · cases hc
  · simp only [cal] at hc
    split at hc
    · rename_i as r' hp
      obtain ⟨⟨hr8, hml⟩, hq⟩ := gd_inv hc
      cases hq
      obtain ⟨hst, hlen⟩ := pop_st hp
      subst hst
      refine ⟨rfl, h231, hml, rfl, rfl, rfl, fun hM hB1 hB2 kk => ?_⟩
      intro ad H locs cells slots lsA (hw : Wd s A cA D ad0 σ0 ad H locs cells slots σ) (hlo : Lo ad (mL μ) lsA ls σ) hs
      obtain ⟨ha1, hs1⟩ := Sk_app hs
      have hA := A_sub fx hw
      have hMet := hM.2.2 l cA D ad H.size hw.2.2.2.1 hw.2.2.2.2.1 ha1
      have hmd : mD μ' = 1 := by rcases hkd with h | ⟨h, -⟩ <;> omega
      have cw := va_cwS (R := R) (rm := { frames := d, cells := tot σ' - tot σ, slots := siz σ' - siz σ, locals := 40 * d }) (mc := tot σ' - tot σ) (ms := siz σ' - siz σ) (own := cN (mO μ)) (index := idx) (y := mY μ') (bytes := mB μ') (maxL := mL μ') (ret := mR μ') (ws := mW μ') (ws' := gw_tbl) (mA μ') hts (gw_good fun w hw2 => by
          unfold va_wsS at hw2
          simp only [List.cons_append, List.nil_append, List.mem_cons] at hw2
          rcases hw2 with rfl | rfl | rfl | hw2
          · exact hl1 (by omega)
          · exact w3 hmd
          · exact w2
          · exact mW_in h231 w hw2) rfl rfl rfl ⟨m1, m2, m3⟩ ⟨hR.1, by show 8 + (mL μ' + 11) + 40 * d ≤ R.locals; omega⟩
      have hc1 := hw.2.2.2.2.2.2.2.2.1
      have hc2 := hw.2.2.2.2.2.2.2.2.2
      have ht1 := hM.1
      have ht2 := hM.2.1
      have pre := Pcc_pre (a := as) fx hw hA
      have run := va_runS (mc := tot σ' - tot σ) (ms := siz σ' - siz σ) (cells := cells) (slots := slots) (locs := locs) (p := p) (e := e) (below := below) (meth := meth) (As := as.map (cvv ad)) (rest := r'.map (cvv ad)) (g := F0 m pc lsA ((as.reverse ++ r').map (cvv ad))) ⟨fx.1, fx.2.1, fx.2.2.1, fx.2.2.2.1, hts⟩ hMet cw ⟨Pcc_blind, pre⟩ rfl (by rw [List.length_map]; exact hlen) hlo.1 (by show List.map (cvv ad) (as.reverse ++ r') = _; rw [List.map_append, List.map_reverse]) (lv_room (by rw [pcat_eq]; exact hr8)) hd ⟨by omega, by omega⟩
      exact ret_GO fx hw hlo hs1 hM.1 hM.2.1 run kk
    · cases hc
  · have hmd : 2 ≤ mD μ' := by rcases hkd with h | ⟨h, h'⟩ <;> rcases hk with hk | hk <;> omega
    obtain ⟨hy1, hret⟩ := w6 (by omega)
    have hc' : ∃ (as : List PV) (o : Int) (r' : List PV), pop (mA μ') [] st = some (as, .inr (.inr o) :: r') ∧ (shp σ o = (0, mO μ') ∧ pcat r' ≤ 8 ∧ 1 + pcat as ≤ mL μ') ∧ q = (μ', (.inr (.inr o) :: as, (pc + 3, (ls, (r', σ))))) := by
      rcases hk with rfl | rfl
      · simp only [cal] at hc
        split at hc
        · rename_i as o r' hp
          obtain ⟨h1, hq⟩ := gd_inv hc
          cases hq
          exact ⟨as, o, r', hp, h1, rfl⟩
        · cases hc
      · simp only [cal] at hc
        split at hc
        · rename_i as o r' hp
          obtain ⟨h1, hq⟩ := gd_inv hc
          cases hq
          exact ⟨as, o, r', hp, h1, rfl⟩
        · cases hc
    obtain ⟨as, o, r', hp, ⟨ho, hr8, hml⟩, rfl⟩ := hc'
    obtain ⟨hst, hlen⟩ := pop_st hp
    subst hst
    refine ⟨rfl, h231, by rw [hcat1]; exact hml, rfl, rfl, rfl, fun hM hB1 hB2 kk => ?_⟩
    intro ad H locs cells slots lsA (hw : Wd s A cA D ad0 σ0 ad H locs cells slots σ) (hlo : Lo ad (mL μ) lsA ls σ) hs
    obtain ⟨ha1, hs1⟩ := Sk_app hs
    obtain ⟨b, hb, hrc⟩ := rcv_of fx hw (Or.inl ho)
    have hA := A_sub fx hw
    have hall : ∀ v ∈ (.inr (.inr o) :: as : List PV), okv σ v := fun v hv => by
      rcases List.mem_cons.mp hv with rfl | hv
      · exact Sk_hd hs1
      · exact ha1 v hv
    have hMet := hM.2.2 l cA D ad H.size hw.2.2.2.1 hw.2.2.2.2.1 hall
    have hc1 := hw.2.2.2.2.2.2.2.2.1
    have hc2 := hw.2.2.2.2.2.2.2.2.2
    have hbv : cvv ad (.inr (.inr o)) = .ref b := by simp only [cvv, hb]; rfl
    have ht1 := hM.1
    have ht2 := hM.2.1
    have pre := Pcc_pre (a := .inr (.inr o) :: as) fx hw hA
    simp only [List.map_cons, hbv] at pre
    have hwR : mW μ' = .code (mY μ') (mB μ') (mL μ') none :: gw_tbl := by unfold mW; rw [hret]
    by_cases h3 : kc = 3
    · have cw := va_cnB (R := R) (rm := { frames := d, cells := tot σ' - tot σ, slots := siz σ' - siz σ, locals := 40 * d }) (mc := tot σ' - tot σ) (ms := siz σ' - siz σ) (own := cN (mO μ)) (host := "BothSidesSheet") (index := idx) (y := mY μ') (bytes := mB μ') (maxL := mL μ') (ret := none) (ws := mW μ') (ws' := gw_tbl) (mA μ') hts (gw_good (mW_in h231)) hwR rfl rfl (fx.2.2.2.2.2.2.2.2.2.2.2.2.2.2.2.2.2.1 _ (List.mem_filter.mpr ⟨hl2 h3, rfl⟩)) (hts _ w2) ⟨m1, m2, m3⟩ ⟨hR.1, by show 8 + (mL μ' + 11) + 40 * d ≤ R.locals; omega⟩
      have run := va_runIN (mc := tot σ' - tot σ) (ms := siz σ' - siz σ) (cells := cells) (slots := slots) (locs := locs) (p := p) (e := e) (below := below) (meth := meth) (As := as.map (cvv ad)) (rest := r'.map (cvv ad)) (b := b) (g := F0 m pc lsA ((as.reverse ++ .inr (.inr o) :: r').map (cvv ad))) ⟨fx.1, fx.2.1, fx.2.2.1, fx.2.2.2.1, hts⟩ hMet ⟨cw, hy1, hts _ (w4 (by omega))⟩ ⟨Pcc_blind, pre⟩ rfl (by rw [List.length_map]; exact hlen) hlo.1 (by show List.map (cvv ad) (as.reverse ++ .inr (.inr o) :: r') = _; rw [List.map_append, List.map_cons, hbv, List.map_reverse]) (lv_room (by rw [pcat_eq]; exact hr8)) hd ⟨by omega, by omega⟩
      exact ret_GO fx hw hlo (Sk_tl hs1) hM.1 hM.2.1 run kk
    · have cw := cwI (R := R) (rm := { frames := d, cells := tot σ' - tot σ, slots := siz σ' - siz σ, locals := 40 * d }) (mc := tot σ' - tot σ) (ms := siz σ' - siz σ) (own := cN (mO μ)) (index := idx) (y := mY μ') (bytes := mB μ') (maxL := mL μ') (ws := mW μ') (ws' := gw_tbl) (mA μ') hts (gw_good (mW_in h231)) hwR rfl rfl (hts _ w2) (hts _ (hl1 h3)) (hts _ (w4 (by omega))) hy1 ⟨m1, m2, m3⟩ ⟨hR.1, by show 8 + (mL μ' + 11) + 40 * d ≤ R.locals; omega⟩
      have run := va_runI (mc := tot σ' - tot σ) (ms := siz σ' - siz σ) (cells := cells) (slots := slots) (locs := locs) (p := p) (e := e) (below := below) (meth := meth) (As := as.map (cvv ad)) (rest := r'.map (cvv ad)) (b := b) (g := F0 m pc lsA ((as.reverse ++ .inr (.inr o) :: r').map (cvv ad))) ⟨fx.1, fx.2.1, fx.2.2.1, fx.2.2.2.1, hts⟩ hMet cw ⟨Pcc_blind, pre⟩ rfl (by rw [List.length_map]; exact hlen) hlo.1 (by show List.map (cvv ad) (as.reverse ++ .inr (.inr o) :: r') = _; rw [List.map_append, List.map_cons, hbv, List.map_reverse]) (lv_room (by rw [pcat_eq]; exact hr8)) hd ⟨by omega, by omega⟩
      exact ret_GO fx hw hlo (Sk_tl hs1) hM.1 hM.2.1 run kk
end SNR
