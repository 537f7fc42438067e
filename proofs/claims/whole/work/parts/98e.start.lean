/-! THE LAW'S FRAME: the constructors' run, then the law's. -/
set_option maxRecDepth 100000 in
theorem law_start2 {p : Program} {e : Env} {s : State} {m : MethodId} {below : List Frame} {meth : Method} {c : Code} (l : Launch) {b L : Nat} {xs : Nat → Int32} (hL : L ≤ 3072)
    (C0 : lw_At p s m meth c b L xs) : W p l e room_1 s m #[Value.ref b] below meth c s.heap [] 0 0 (lw_Z below #[Value.ref b] s) (entryFrame m ([Value.ref b] : List Value).toArray 4) := by
  obtain ⟨hx, hb, hr, hml, hown, hts, hX, hbl, hlocks, hgv⟩ := C0
  obtain ⟨cA, D, hK⟩ := K_entry hts
  obtain ⟨ad, had, had3, hKc⟩ := Kc_entry hL hts hX hbl hgv (fun j => (xs j.toNat).toInt) (fun j hj => ⟨by rw [Int.toNat_natCast]; exact Int32.ofInt_toInt _, t32_in _⟩)
  obtain ⟨N, r, σf, hrun, rfl, hB1, hB2⟩ := law_run hL (fun j => (xs j.toNat).toInt) (fun j => t32_in _)
  have fx : Fx p s m #[Value.ref b] meth c 232 (fun q => s.heap.size ≤ q) cA D ad (m00 (fun j => (xs j.toNat).toInt), (some 0, ([], L))) := ⟨hx, by rw [mB_232]; exact hb, by rw [mL_232]; exact hml, by rw [mO_232]; exact hown, fun w hw => hts w (List.mem_filter.mp hw).1, fun h => (by rw [mI_232] at h; cases h), hK, fun _ h => h, hKc⟩
  have hl := lv_entry ([.ref b]) (n := 4) (Nat.le_of_ble_eq_true rfl)
  rw [lg_entry_eq]
  generalize (lg_sl ([.ref b]) ++ List.replicate (4 - (lg_sl ([.ref b])).length) Slot.unset).toArray = lsA at hl ⊢
  have G1 : GO p l e room_1 s m #[Value.ref b] below meth c (lw_Z below #[Value.ref b] s) 232 (fun q => s.heap.size ≤ q) cA D ad (m00 (fun j => (xs j.toNat).toInt), (some 0, ([], L))) (18, ([some (.inr (.inr (-3))), some (.inr (.inr 0)), some (.inr (.inr 81)), some (.inl 0)], ([], (mm1 (fun j => (xs j.toNat).toInt), (none, ([], L)))))) := by
    refine run_GO (p := p) (l := l) (e := e) (below := below) (R := room_1) (exM_sound N 100) fx ⟨Nat.le_of_ble_eq_true rfl, Nat.le_of_ble_eq_true rfl⟩ (rf := some (.inl 1)) (σf := σf) ⟨by show tot σf ≤ 0 + 600000; omega, by show siz σf ≤ siz _ + 7302250; omega⟩ ?_ N _ hrun
    intro cf hs hσ
    obtain ⟨pc, ls, st, σ2⟩ := cf
    dsimp only at hσ
    subst hσ
    obtain ⟨i, len, hd, hi⟩ := step_inv hs
    rw [mB_232] at hd
    have hz9 := stepI_ret hi; clear hi; obtain ⟨rfl, hi⟩ := hz9
    intro ad' H locs cells slots lsA' hw hlo hsk
    obtain ⟨w1, w2, w3, w4, w5, w6, w7, w8, w9, w10⟩ := hw
    dsimp only at w9 w10
    refine W.widen (k := 600000) (n := 7302250) (by omega) (by omega) ?_
    rcases hi with ⟨rfl, z, rfl, hk, hz⟩ | ⟨rfl, z, rfl, hk, hz⟩ | ⟨rfl, z, rfl, hk, hz⟩ | ⟨rfl, rfl, hk, hz⟩
    · cases hz
      exact va_forget w3.2.2 (lw_ret hx hb hr hlocks hd)
    · cases hz
    · cases hz
    · cases hz
  have hF := fin_ok (L := L) (mm1_Inv (fun j => (xs j.toNat).toInt))
  have G3 := pre_GO (p := p) (l := l) (e := e) (below := below) (R := room_1) (exM_sound 800 3) fx ⟨Nat.le_of_ble_eq_true rfl, Nat.le_of_ble_eq_true rfl⟩ _ ⟨by show 129 ≤ 0 + 600000; omega, by
    show siz (mm1 (fun j => (xs j.toNat).toInt), (some 129, ([], L))) ≤ siz _ + 7302250
    rw [sw_siz]
    omega⟩ (sw_GO (mm1_st _) G1) 10 _ (boot_pre (fun j => (xs j.toNat).toInt) L)
  refine G3 ad s.heap [] 0 0 lsA ⟨fun k q h => by simp [wof, tot] at h, ⟨fun i j p q h => by simp [wof, tot] at h, fun k q h => by simp [wof, tot] at h⟩, va_S.rf, fun i h => by simp [tot] at h, ⟨had, fun i h => by simp [tot] at h⟩, fun _ _ => rfl, fun _ _ _ => rfl, rfl, Nat.le_refl _, Nat.le_of_eq (Nat.zero_add _)⟩ ⟨by rw [mL_232]; exact hl.1, hl.2.1, by rw [mL_232]; rfl, fun i v hi => ?_⟩ (fun _ h => by cases h)
  match i, hi with
  | 0, hi =>
    cases hi
    refine ⟨?_, by show (-3 : Int) < _; exact Int.lt_of_lt_of_le (by decide) (Int.natCast_nonneg _)⟩
    have h3 := hl.2.2 (0, .ref b) List.mem_cons_self
    simp only [cvv, had3]
    exact h3
  | 1, hi => cases hi
  | 2, hi => cases hi
  | 3, hi => cases hi
  | i + 4, hi => cases hi
