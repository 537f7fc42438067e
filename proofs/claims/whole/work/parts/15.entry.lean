/-! THE LAW'S ENTRY: the constants as the Statement gives them, and the law's frame out of the pure machine. -/
def R_law : String := "BothSidesSheetLaw"
def lw_P (b : Addr) (xs : List Int32) (args : Array Value) (s : State) : Prop := args = #[.ref b] ∧ s.IntsAt b xs ∧ xs.length ≤ 3072 ∧ (Jvm.Cond.and given_1 narrow_1).before args s = true
def lw_Q (_ : Array Value) (s : State) (o : Outcome) (t : State) : Prop := o = .returned (some (.int 1)) ∧ Framed s o t [] 600000 7302250
def lw_Z (below : List Frame) (a : Array Value) (s : State) : State → Prop := fun t => ∃ o, t.status = .running ∧ Ended t below o ∧ lw_Q a s o t
theorem lw_ret {p : Program} {l : Launch} {e : Env} {s : State} {m : MethodId} {below : List Frame} {meth : Method} {c : Code} {b : Nat} (hx : p.tables.exec = Jvm.exec) (hb : c.code = code) (hr : meth.sig.returnType = ret) (hlocks : meth.locks = false) {pc : Nat} {H : Heap} {ls : Array Slot} (hdg : decode code pc = .ok (.ireturn, 1)) : W p l e room_1 s m #[Value.ref b] below meth c H [] 600000 7302250 (lw_Z below #[Value.ref b] s) (F0 m pc ls [.int 1]) := by
  intro T hT X
  obtain ⟨fs, hret, hrun, hended, hW, hframe⟩ := X.leave (v := some (.int 1)) (hlocks := hlocks) (fun h => by rw [hr] at h; cases h)
  have hmeth' : T.vm.method? m = some meth := X.method'
  refine ⟨T.setFrames fs, ?_, .returned (some (.int 1)), hrun, hended, rfl, ⟨_, rfl⟩, hW, hframe⟩
  jvm_step X.here [X.here.top, hx, hb, hdg, hmeth', hr, ret, narrow_b1]
  (try refine ⟨rfl, ?_⟩); (try refine ⟨rfl, ?_⟩)
  first | (intro acts; rw [hret _ acts rfl rfl rfl]) | rw [hret _ _ rfl rfl rfl]
  exact Steps.refl _
def lw_At (p : Program) (s : State) (m : MethodId) (meth : Method) (c : Code) (b L : Nat) (xs : Nat → Int32) : Prop :=
  p.tables.exec = Jvm.exec ∧ c.code = code ∧ meth.sig.returnType = ret ∧ c.maxLocals = 4 ∧ s.vm.findClass R_law = some m.cls ∧ (∀ w ∈ lw_tbl, w.before #[Value.ref b] s = true) ∧ va_X b L xs s s.heap ∧ b < s.heap.size ∧ meth.locks = false ∧ (Jvm.Cond.and given_1 narrow_1).before #[Value.ref b] s = true
def kab : List Int := [-1, 0, 0, 0, 1, 2, 3]
def kabT (j : Nat) : Value := .int (Int32.ofInt (kab.getD j 0))
/-- memory at the law's entry: the constants, nothing else -/
def m00 (xs : Int → Int) : PM := fun a k => if a = -2 then kab.getD k.toNat 0 else if a = -3 then xs k else if a = -20 ∨ a = -21 ∨ a = -22 then ((bytS.getD (-20 - a).toNat []).getD k.toNat 0).toInt else 0
abbrev flN : List Cond := flatC (Jvm.Cond.and given_1 narrow_1)
def tKA : Term := .static "BothSidesSheet" "KIND_ABOVE" "[I"
def tST (i : Nat) : Term := .string RX5 (txS i).1
set_option maxRecDepth 100000 in
theorem fl_KA : Cond.arrayOf tKA .int ∈ flN ∧ Cond.eq (.length tKA) (.int 7) ∈ flN ∧ (∀ j, j < 7 → Cond.eq (.elem tKA (.int (Int32.ofNat j))) (.int (Int32.ofInt (kab.getD j 0))) ∈ flN) := by decide +kernel
set_option maxRecDepth 100000 in
theorem fl_CS : Cond.eq (.static "java/lang/String" "COMPACT_STRINGS" "Z") (.int 1) ∈ flN ∧ Cond.isRef (.static "jdk/internal/util/Preconditions" "SIOOBE_FORMATTER" "Ljava/util/function/BiFunction;") ∈ flN := by decide +kernel
set_option maxRecDepth 100000 in
theorem fl_S1 : ∀ i, i < 3 → Cond.exactly (tST i) "java/lang/String" ∈ flN ∧ Cond.eq (.field (tST i) "java/lang/String" "coder" "B") (.int 0) ∈ flN ∧ Cond.arrayOf (.field (tST i) "java/lang/String" "value" "[B") .byte ∈ flN ∧ Cond.eq (.length (.field (tST i) "java/lang/String" "value" "[B")) (.int (Int32.ofNat (lenS.getD i 0))) ∈ flN := by decide +kernel
set_option maxRecDepth 100000 in
theorem fl_S2 : ∀ i, i < 3 → ∀ j, j < lenS.getD i 0 → Cond.eq (.elem (.field (tST i) "java/lang/String" "value" "[B") (.int (Int32.ofNat j))) (.int ((bytS.getD i []).getD j 0)) ∈ flN := by decide +kernel
set_option maxRecDepth 100000 in
theorem fl_S3 : ∀ i, i < 3 → ∀ j, j < 3 → i ≠ j → Cond.not (Cond.eq (tST i) (tST j)) ∈ flN ∨ Cond.not (Cond.eq (tST j) (tST i)) ∈ flN := by decide +kernel
set_option maxRecDepth 100000 in
theorem w_k1 : lwx 2096 = some (.laysStatic "java/lang/String" "COMPACT_STRINGS" "Z") ∧ lwx 2104 = some (.laysStatic "jdk/internal/util/Preconditions" "SIOOBE_FORMATTER" "Ljava/util/function/BiFunction;") ∧ lwx 4113 = some (.laysStatic "BothSidesSheet" "KIND_ABOVE" "[I") := by decide +kernel
set_option maxRecDepth 100000 in
theorem w_k2 : lwx 1053 = some (.arrayOver (.object RX9)) ∧ lwx 1181 = some (.arrayOver (.object RX2)) ∧ lwx 1226 = some (.arrayOver (.object RX8)) := by decide +kernel
set_option maxRecDepth 100000 in
theorem w_k3 : lwx 2086 = some (.stringRef RX5 (txS 0).1 (txS 0).2) ∧ lwx 2161 = some (.stringRef RX5 (txS 1).1 (txS 1).2) ∧ lwx 2224 = some (.stringRef RX5 (txS 2).1 (txS 2).2) := by decide +kernel
set_option maxRecDepth 100000 in
theorem w_k4 : lwx 1013 = some (.initialized "java/lang/String") ∧ lwx 1015 = some (.initialized "jdk/internal/util/Preconditions") ∧ lwx 1001 = some (.initialized "BothSidesSheet") := by decide +kernel
theorem ac_of {s : State} {A : Array Value} {ty : FieldType} (h : (Cond.arrayClass ty).before A s = true) (ho : ∀ C, ty ≠ .object C) : ∃ cA : ClassId, ArrOfT s cA ty ∧ va_RA s cA ty := by
  obtain ⟨cA, kA, comp, h1, h2, h3⟩ := Cond.arrayClass_spec (args := A) (first := s) (o := none) (s := s) (idx := []) h
  refine ⟨cA, fun n z => ⟨fun k h => (by cases h), kA, h2, comp, h3⟩, ?_⟩
  cases ty with
  | object C => exact absurd rfl (ho C)
  | _ => exact h1
theorem ao_of {s : State} {A : Array Value} {C : String} (h : (Cond.arrayOver (.object C)).before A s = true) : ∃ cA : ClassId, ArrOfT s cA (.object C) ∧ va_RA s cA (.object C) := by
  obtain ⟨comp, cA, kA, f4, -, f2, f3, f1⟩ := Cond.arrayOver_spec (args := A) (first := s) (o := none) (s := s) (idx := []) h
  exact ⟨cA, fun n z => ⟨fun k h => (by cases h), kA, f2, comp, f3⟩, kA, comp, f2, f3, f4, f1⟩
/-- the tables at the law's entry -/
theorem K_entry {s : State} {b : Nat} (hts : ∀ w ∈ lw_tbl, w.before #[Value.ref b] s = true) : ∃ (cA : Nat → ClassId) (D : va_G), va_K D vwCl (tyL cA) s := by
  have hgw : ∀ w ∈ gw_tbl, w.before #[Value.ref b] s = true := fun w hw => hts w (List.mem_filter.mp hw).1
  have h0 : ∀ ci : Nat, ∃ q : ClassId × (Nat → Nat), ∀ cl : vw_C, vwCl[ci]? = some cl → u_Kn s cl.1 cl.2.1 cl.2.2 q.1 q.2 := by
    intro ci
    cases hcl : vwCl[ci]? with
    | none => exact ⟨(default, fun _ => 0), fun cl h => by cases h⟩
    | some cl =>
      have hci : ci < 12 := by
        have := (List.getElem?_eq_some_iff.mp hcl).1
        exact this
      obtain ⟨cl', h1, h2, h3, -⟩ := cl_some hci
      rw [hcl] at h1
      cases h1
      obtain ⟨c, iS, hk⟩ := u_known (n := cl.2.2) hgw (cl_words ci cl hcl) (by rw [h2, h3]; exact hgw _ (ci_words hci).1)
      exact ⟨(c, iS), fun cl' h => by cases h; exact hk⟩
  obtain ⟨f, hf⟩ := Classical.axiomOfChoice h0
  obtain ⟨c1, a1, b1⟩ := ac_of (hgw _ w_acI) (fun C h => by cases h)
  obtain ⟨c2, a2, b2⟩ := ac_of (hgw _ w_acZ) (fun C h => by cases h)
  obtain ⟨c3, a3, b3⟩ := ac_of (hgw _ w_acJ) (fun C h => by cases h)
  obtain ⟨c4, a4, b4⟩ := ao_of (hts _ (lwx_mem w_k2.1))
  obtain ⟨c5, a5, b5⟩ := ao_of (hts _ (lwx_mem w_k2.2.2))
  obtain ⟨c6, a6, b6⟩ := ao_of (hts _ (lwx_mem w_k2.2.1))
  refine ⟨fun k => if k = 1 then c1 else if k = 2 then c2 else if k = 3 then c3 else if k = 4 then c4 else if k = 5 then c5 else c6, (fun ci => (f ci).1, fun ci => (f ci).2), fun ci cl h => hf ci cl h, fun k q hq => ?_⟩
  match k, hq with
  | 0, hq => cases hq; exact ⟨a1, b1⟩
  | 1, hq => cases hq; exact ⟨a2, b2⟩
  | 2, hq => cases hq; exact ⟨a3, b3⟩
  | 3, hq => cases hq; exact ⟨a4, b4⟩
  | 4, hq => cases hq; exact ⟨a5, b5⟩
  | 5, hq => cases hq; exact ⟨a6, b6⟩
  | k + 6, hq => simp [tyL] at hq
/-- the constants at the law's entry -/
theorem Kc_entry {s : State} {b L : Nat} {xs : Nat → Int32} (hL : L ≤ 3072) (hts : ∀ w ∈ lw_tbl, w.before #[Value.ref b] s = true) (hX : va_X b L xs s s.heap) (hbl : b < s.heap.size) (hgv : (Jvm.Cond.and given_1 narrow_1).before #[Value.ref b] s = true) (xi : Int → Int) (hxi : ∀ j : Nat, j < L → Int32.ofInt (xi j) = xs j ∧ in32 (xi j)) :
    ∃ ad : Int → Option Nat, ad (-1) = none ∧ ad (-3) = some b ∧ Kc (fun q => s.heap.size ≤ q) s s.heap ad (m00 xi, (some 0, ([], L))) := by
  have hs := flat_of_before _ hgv
  have hA : ∀ a : Nat, a < s.heap.size → ¬ s.heap.size ≤ a := fun a h => by omega
  obtain ⟨tK, k1, k2⟩ := va_Tof (A := fun q => s.heap.size ≤ q) (tm := tKA) (ty := .int) (N := 7) (f := kabT) (by omega) (hs _ fl_KA.1) (va_eqt (hs _ fl_KA.2.1)) (fun j hj => va_eqt (hs _ (fl_KA.2.2 j hj))) hA
  have k3 := va_Zof (A := fun q => s.heap.size ≤ q) (hts _ (lwx_mem w_k1.2.2)) (hts _ (lwx_mem w_k4.2.2)) k1 hA
  have z1 := va_Zof (A := fun q => s.heap.size ≤ q) (hts _ (lwx_mem w_k1.1)) (hts _ (lwx_mem w_k4.1)) (va_eqt (hs _ fl_CS.1)) hA
  have z2 : ∃ r : Option Nat, va_Z "jdk/internal/util/Preconditions" "SIOOBE_FORMATTER" "Ljava/util/function/BiFunction;" (va_rf r) (fun q => s.heap.size ≤ q) s s.heap := by
    rcases va_Zqof (A := fun q => s.heap.size ≤ q) (hts _ (lwx_mem w_k1.2.1)) (hts _ (lwx_mem w_k4.2.1)) (hs _ fl_CS.2) hA with h | ⟨t, h⟩
    · exact ⟨none, h⟩
    · exact ⟨some t, h⟩
  obtain ⟨fr, z2⟩ := z2
  obtain ⟨adK, adV, s1, s2⟩ := vk_Sof (A := fun q => s.heap.size ≤ q) (N := 3) (tm := tST) (len := lenS) (byt := bytS) (args := #[Value.ref b]) (s := s) (fun i hi => by rcases (show i = 0 ∨ i = 1 ∨ i = 2 by omega) with rfl | rfl | rfl <;> decide) (fun i hi => hs _ (fl_S1 i hi).1) (fun i hi => hs _ (fl_S1 i hi).2.1) (fun i hi => hs _ (fl_S1 i hi).2.2.1) (fun i hi => hs _ (fl_S1 i hi).2.2.2) (fun i hi j hj => hs _ (fl_S2 i hi j hj)) (fun i j hi hj hne => by
    rcases fl_S3 i hi j hj hne with h | h
    · exact Or.inl (hs _ h)
    · exact Or.inr (hs _ h)) hA
  refine ⟨fun z => if z = -2 then some tK else if z = -3 then some b else if z = -4 then fr else if z ≤ -20 ∧ -23 < z then some (adV (-20 - z).toNat) else if z ≤ -10 ∧ -13 < z then some (adK (-10 - z).toNat) else none, rfl, rfl, ⟨tK, rfl, ?_, k3⟩, ⟨b, rfl, ?_⟩, z1, z2, ⟨adK, adV, s1, fun i hi => ⟨?_, ?_, ?_⟩⟩, fun i hi j hj => ?_, fun j hj => ?_, fun j hj => ?_, by show L ≤ 100000; omega, fun w hw => ?_, hts _ (lwx_mem w_k2.1), hts _ (lwx_mem w_k2.2.2), hts _ (lwx_mem w_k2.2.1)⟩
  · exact k2
  · obtain ⟨scr, x1, x2, x3, x4, x5⟩ := hX
    refine ⟨scr, x1, x2, x3, Nat.le_of_eq x4.symm, by rw [x4], fun j hj => ?_, by omega⟩
    rw [x5 j hj]
    show some (Value.int (xs j)) = some (Value.int (Int32.ofInt (m00 xi (-3) j)))
    rw [show m00 xi (-3) j = xi j from rfl, (hxi j hj).1]
  · dsimp only
    rw [if_neg (by omega), if_neg (by omega), if_neg (by omega), if_neg (by omega), if_pos (by omega), show (-10 - (-10 - (i : Int))).toNat = i by omega]
  · dsimp only
    rw [if_neg (by omega), if_neg (by omega), if_neg (by omega), if_pos (by omega), show (-20 - (-20 - (i : Int))).toNat = i by omega]
  · refine vk_R.of ?_ (s2 i hi)
    rcases (show i = 0 ∨ i = 1 ∨ i = 2 by omega) with rfl | rfl | rfl
    · exact hts _ (lwx_mem w_k3.1)
    · exact hts _ (lwx_mem w_k3.2.1)
    · exact hts _ (lwx_mem w_k3.2.2)
  · have e : m00 xi (-20 - i) j = ((bytS.getD i []).getD j 0).toInt := by
      unfold m00
      rw [if_neg (by omega), if_neg (by omega), if_pos (by omega), show (-20 - (-20 - (i : Int))).toNat = i by omega, Int.toNat_natCast]
    show Int32.ofInt (m00 xi (-20 - i) j) = _ ∧ in32 (m00 xi (-20 - i) j)
    rw [e]
    exact ⟨Int32.ofInt_toInt _, t32_in _⟩
  · show in32 (kab.getD (j : Int).toNat 0)
    rw [Int.toNat_natCast]
    rcases (show j = 0 ∨ j = 1 ∨ j = 2 ∨ j = 3 ∨ j = 4 ∨ j = 5 ∨ j = 6 by omega) with rfl | rfl | rfl | rfl | rfl | rfl | rfl <;> exact ⟨by decide, by decide⟩
  · exact (hxi j hj).2
  · obtain ⟨a, i, x, h2, rfl⟩ := nest_shape hw
    exact va_Nw.of rfl (hts _ (List.mem_filter.mp hw).1)
set_option maxRecDepth 100000 in
/-- THE LAW'S FRAME out of the pure machine -/
theorem law_start {p : Program} {e : Env} {s : State} {m : MethodId} {below : List Frame} {meth : Method} {c : Code} (l : Launch) {b L : Nat} {xs : Nat → Int32} (hL : L ≤ 3072)
    (hpure : ∀ xi : Int → Int, (∀ j, in32 (xi j)) → V 100 232 (0, ([some (.inr (.inr (-3))), none, none, none], ([], (m00 xi, (some 0, ([], L)))))) (fun r σ' => r = some (.inl 1) ∧ tot σ' ≤ 600000 ∧ siz σ' ≤ 7302250))
    (C0 : lw_At p s m meth c b L xs) : W p l e room_1 s m #[Value.ref b] below meth c s.heap [] 0 0 (lw_Z below #[Value.ref b] s) (entryFrame m ([Value.ref b] : List Value).toArray 4) := by
  obtain ⟨hx, hb, hr, hml, hown, hts, hX, hbl, hlocks, hgv⟩ := C0
  obtain ⟨cA, D, hK⟩ := K_entry hts
  obtain ⟨ad, had, had3, hKc⟩ := Kc_entry hL hts hX hbl hgv (fun j => (xs j.toNat).toInt) (fun j hj => ⟨by rw [Int.toNat_natCast]; exact Int32.ofInt_toInt _, t32_in _⟩)
  obtain ⟨N, r, σf, hrun, rfl, hB1, hB2⟩ := hpure (fun j => (xs j.toNat).toInt) (fun j => t32_in _)
  have fx : Fx p s m #[Value.ref b] meth c 232 (fun q => s.heap.size ≤ q) cA D ad (m00 (fun j => (xs j.toNat).toInt), (some 0, ([], L))) := ⟨hx, by rw [mB_232]; exact hb, by rw [mL_232]; exact hml, by rw [mO_232]; exact hown, fun w hw => hts w (List.mem_filter.mp hw).1, fun h => (by rw [mI_232] at h; cases h), hK, fun _ h => h, hKc⟩
  have hl := lv_entry ([.ref b]) (n := 4) (Nat.le_of_ble_eq_true rfl)
  rw [lg_entry_eq]
  generalize (lg_sl ([.ref b]) ++ List.replicate (4 - (lg_sl ([.ref b])).length) Slot.unset).toArray = lsA at hl ⊢
  refine run_GO (p := p) (l := l) (e := e) (below := below) (R := room_1) (exM_sound N 100) fx ⟨Nat.le_of_ble_eq_true rfl, Nat.le_of_ble_eq_true rfl⟩ (rf := some (.inl 1)) (σf := σf) ⟨by show tot σf ≤ 0 + 600000; omega, by show siz σf ≤ siz _ + 7302250; omega⟩ ?_ N _ hrun ad s.heap [] 0 0 lsA ⟨fun k q h => by simp [wof, tot] at h, ⟨fun i j p q h => by simp [wof, tot] at h, fun k q h => by simp [wof, tot] at h⟩, va_S.rf, fun i h => by simp [tot] at h, ⟨had, fun i h => by simp [tot] at h⟩, fun _ _ => rfl, fun _ _ _ => rfl, rfl, Nat.le_refl _, Nat.le_of_eq (Nat.zero_add _)⟩ ⟨by rw [mL_232]; exact hl.1, hl.2.1, by rw [mL_232]; rfl, fun i v hi => ?_⟩ (fun _ h => by cases h)
  · intro cf hs hσ
    obtain ⟨pc, ls, st, σ2⟩ := cf
    dsimp only at hσ
    subst hσ
    obtain ⟨i, len, hd, hi⟩ := step_inv hs
    rw [mB_232] at hd
    have hz9 := stepI_ret hi; clear hi; obtain ⟨rfl, hi⟩ := hz9
    intro ad' H locs cells slots lsA' hw hlo hsk
    obtain ⟨w1, w2, w3, w4, w5, w6, w7, w8, w9, w10⟩ := hw
    dsimp only at w9 w10
    refine W.widen (k := 600000) (n := 7302250) (by omega) (by omega) ?_
    rcases hi with ⟨rfl, z, rfl, hk, hz⟩ | ⟨rfl, z, rfl, hk, hz⟩ | ⟨rfl, z, rfl, hk, hz⟩ | ⟨rfl, rfl, hk, hz⟩
    · cases hz
      exact va_forget w3.2.2 (lw_ret hx hb hr hlocks hd)
    · cases hz
    · cases hz
    · cases hz
  · match i, hi with
    | 0, hi =>
      cases hi
      refine ⟨?_, by show (-3 : Int) < _; exact Int.lt_of_lt_of_le (by decide) (Int.natCast_nonneg _)⟩
      have h3 := hl.2.2 (0, .ref b) List.mem_cons_self
      simp only [cvv, had3]
      exact h3
    | 1, hi => cases hi
    | 2, hi => cases hi
    | 3, hi => cases hi
    | i + 4, hi => cases hi
