/-! EACH STEP of the pure machine is the machine's own. -/
def bytS : List (List Int32) := [[102, 114, 111, 109, 116, 105, 108, 108, 115, 107, 105, 112, 116, 117, 114, 110], [112, 111, 116, 107, 118, 110], [60, 61, 62]]
def lenS : List Nat := [16, 6, 3]
def txS : Nat → Nat × String
  | 0 => (109, "fromtillskipturn")
  | 1 => (99, "potkvn")
  | _ => (107, "<=>")
def isNest : Cond → Bool
  | .methodLinkNest .. => true
  | _ => false
def nestW : List Cond := lw_tbl.filter isNest
/-- what never changes: the constant rows and texts, the script, the links of private constructors -/
def Kc (A : Nat → Prop) (U : State) (H : Heap) (ad : Int → Option Nat) (σ : PS) : Prop :=
  (∃ t : Nat, ad (-2) = some t ∧ va_T .int t 7 (fun j => .int (Int32.ofInt (σ.1 (-2) j))) A U H ∧ va_Z "BothSidesSheet" "KIND_ABOVE" "[I" (.ref t) A U H) ∧
  (∃ t : Nat, ad (-3) = some t ∧ va_T .int t σ.2.2.2 (fun j => .int (Int32.ofInt (σ.1 (-3) j))) A U H) ∧
  va_Z "java/lang/String" "COMPACT_STRINGS" "Z" (.int 1) A U H ∧
  va_Z "jdk/internal/util/Preconditions" "SIOOBE_FORMATTER" "Ljava/util/function/BiFunction;" (va_rf (ad (-4))) A U H ∧
  (∃ adK adV : Nat → Nat, vk_S 3 lenS bytS adK adV A U H ∧ ∀ i : Nat, i < 3 → ad (-10 - i) = some (adK i) ∧ ad (-20 - i) = some (adV i) ∧ vk_R RX5 (txS i).1 (txS i).2 (adK i) U) ∧
  (∀ i : Nat, i < 3 → ∀ j : Nat, j < lenS.getD i 0 → Int32.ofInt (σ.1 (-20 - i) j) = (bytS.getD i []).getD j 0 ∧ in32 (σ.1 (-20 - i) j)) ∧
  (∀ j : Nat, j < 7 → in32 (σ.1 (-2) j)) ∧ (∀ j : Nat, j < σ.2.2.2 → in32 (σ.1 (-3) j)) ∧ σ.2.2.2 ≤ 100000 ∧
  (∀ w ∈ nestW, va_Nw w U) ∧ va_AO RX9 U ∧ va_AO RX8 U ∧ va_AO RX2 U
def siz1 (q : Nat × Nat) : Nat := if q.1 = 0 then nfT q.2 else q.2
def siz (σ : PS) : Nat := match σ.2.1 with
  | none => ((List.range NB).map (fun i => siz1 (dSh i))).sum + (σ.2.2.1.map siz1).sum
  | some n => ((List.range n).map (fun i => siz1 (dSh i))).sum
def Fx (p : Program) (s : State) (m : MethodId) (args : Array Value) (meth : Method) (c : Code) (μ : Nat) (A : Nat → Prop) (cA : Nat → ClassId) (D : va_G) (ad0 : Int → Option Nat) (σ0 : PS) : Prop :=
  p.tables.exec = Jvm.exec ∧ c.code = mB μ ∧ c.maxLocals = mL μ ∧ s.vm.findClass (cN (mO μ)) = some m.cls ∧ (∀ w ∈ gw_tbl, w.before args s = true) ∧ (mI μ = true → meth.name = "<init>") ∧ va_K D vwCl (tyL cA) s ∧ (∀ q, s.heap.size ≤ q → A q) ∧ Kc A s s.heap ad0 σ0
def Wd (s : State) (A : Nat → Prop) (cA : Nat → ClassId) (D : va_G) (ad0 : Int → Option Nat) (σ0 : PS) (ad : Int → Option Nat) (H : Heap) (locs : List Loc) (cells slots : Nat) (σ : PS) : Prop :=
  va_P D vwCl (wof cA ad σ) H ∧ va_D A (wof cA ad σ) ∧ va_S A s.heap H locs ∧ WF σ ∧ ADok ad σ ∧ (∀ z : Int, z < (tot σ0 : Int) → ad z = ad0 z) ∧ (∀ a k : Int, a < 0 → σ.1 a k = σ0.1 a k) ∧ σ.2.2.2 = σ0.2.2.2 ∧ cells + tot σ0 ≤ tot σ ∧ slots + siz σ0 ≤ siz σ
def Lo (ad : Int → Option Nat) (n : Nat) (lsA : Array Slot) (ls : PL) (σ : PS) : Prop :=
  lsA.size = n ∧ lv_wf lsA ∧ ls.length = n ∧ ∀ (i : Nat) (v : PV), ls[i]? = some (some v) → lsA[i]? = some (.val (cvv ad v)) ∧ okv σ v
def Sk (σ : PS) (st : List PV) : Prop := ∀ v ∈ st, okv σ v
def GO (p : Program) (l : Launch) (e : Env) (R : Room) (s : State) (m : MethodId) (args : Array Value) (below : List Frame) (meth : Method) (c : Code) (Q : State → Prop) (μ : Nat) (A : Nat → Prop) (cA : Nat → ClassId) (D : va_G) (ad0 : Int → Option Nat) (σ0 : PS) (cf : Cf) : Prop :=
  ∀ (ad : Int → Option Nat) (H : Heap) (locs : List Loc) (cells slots : Nat) (lsA : Array Slot), Wd s A cA D ad0 σ0 ad H locs cells slots cf.2.2.2 → Lo ad (mL μ) lsA cf.2.1 cf.2.2.2 → Sk cf.2.2.2 cf.2.2.1 →
    W p l e R s m args below meth c H locs cells slots Q (F0 m cf.1 lsA (cf.2.2.1.map (cvv ad)))
theorem Sk_cons {σ : PS} {v : PV} {st : List PV} (hv : okv σ v) (h : Sk σ st) : Sk σ (v :: st) := fun w hw => by
  rcases List.mem_cons.mp hw with rfl | hw
  · exact hv
  · exact h w hw
theorem Sk_hd {σ : PS} {v : PV} {st : List PV} (h : Sk σ (v :: st)) : okv σ v := h v List.mem_cons_self
theorem Sk_tl {σ : PS} {v : PV} {st : List PV} (h : Sk σ (v :: st)) : Sk σ st := fun w hw => h w (List.mem_cons_of_mem _ hw)
theorem word_of {p : Program} {s : State} {m : MethodId} {args : Array Value} {meth : Method} {c : Code} {μ : Nat} {A : Nat → Prop} {cA : Nat → ClassId} {D : va_G} {ad0 : Int → Option Nat} {σ0 : PS} (fx : Fx p s m args meth c μ A cA D ad0 σ0) {pos : Nat} {w : Cond} (h : lwx pos = some w) (hg : goodWord w = true) : w.before args s = true := fx.2.2.2.2.1 w (gw_of h hg)
section SND
variable {p : Program} {l : Launch} {e : Env} {R : Room} {s : State} {m : MethodId} {args : Array Value} {below : List Frame} {meth : Method} {c : Code} {Q : State → Prop} {μ : Nat} {A : Nat → Prop} {cA : Nat → ClassId} {D : va_G} {ad0 : Int → Option Nat} {σ0 σ : PS} {pc : Nat} {ls : PL} {st r : List PV}
theorem S_load {i : ClassFile.Instr} {len k t : Nat} {v : PV} (fx : Fx p s m args meth c μ A cA D ad0 σ0)
    (hd : (len = 1 ∧ ∃ k4 : Fin 4, k4.val = k ∧ ((t = 0 ∧ ClassFile.decode (mB μ) pc = .ok (.iload_n k4, 1)) ∨ (t = 1 ∧ ClassFile.decode (mB μ) pc = .ok (.lload_n k4, 1)) ∨ (t = 2 ∧ ClassFile.decode (mB μ) pc = .ok (.aload_n k4, 1)))) ∨ (len = 2 ∧ ((t = 0 ∧ ClassFile.decode (mB μ) pc = .ok (.iload k, 2)) ∨ (t = 2 ∧ ClassFile.decode (mB μ) pc = .ok (.aload k, 2)))))
    (hl : ls[k]? = some (some v)) (ht : ptag v = t)
    (kk : GO p l e R s m args below meth c Q μ A cA D ad0 σ0 (pc + len, (ls, (v :: st, σ)))) : GO p l e R s m args below meth c Q μ A cA D ad0 σ0 (pc, (ls, (st, σ))) := by
  intro ad H locs cells slots lsA hw hlo hs
  obtain ⟨h1, h2⟩ := hlo.2.2.2 k v hl
  have kk := kk ad H locs cells slots lsA hw hlo (Sk_cons h2 hs)
  simp only [List.map_cons] at kk
  rcases hd with ⟨rfl, k4, rfl, ⟨rfl, hd⟩ | ⟨rfl, hd⟩ | ⟨rfl, hd⟩⟩ | ⟨rfl, ⟨rfl, hd⟩ | ⟨rfl, hd⟩⟩
  · match v, ht with
    | .inl z, _ => exact lv_iload_n fx.1 fx.2.1 hd rfl h1 kk
  · match v, ht with
    | .inr (.inl z), _ => exact lv_lload_n fx.1 fx.2.1 hd rfl h1 kk
  · match v, ht with
    | .inr (.inr z), _ =>
      simp only [cvv] at h1 kk
      cases ha : ad z with
      | none => rw [ha] at h1 kk; exact lv_aload_nN fx.1 fx.2.1 hd rfl h1 kk
      | some q => rw [ha] at h1 kk; exact lv_aload_n fx.1 fx.2.1 hd rfl h1 kk
  · match v, ht with
    | .inl z, _ => exact lv_iload fx.1 fx.2.1 hd h1 kk
  · match v, ht with
    | .inr (.inr z), _ =>
      simp only [cvv] at h1 kk
      cases ha : ad z with
      | none => rw [ha] at h1 kk; exact lv_aloadN fx.1 fx.2.1 hd h1 kk
      | some q => rw [ha] at h1 kk; exact lv_aload fx.1 fx.2.1 hd h1 kk
/-- a constant int -/
theorem S_int {len : Nat} {z : Int} (fx : Fx p s m args meth c μ A cA D ad0 σ0)
    (hd : (len = 1 ∧ (-1 ≤ z ∧ z ≤ 5) ∧ ClassFile.decode (mB μ) pc = .ok (.iconst z, 1)) ∨ (len = 2 ∧ (-128 ≤ z ∧ z < 128) ∧ ClassFile.decode (mB μ) pc = .ok (.bipush z, 2)) ∨ (len = 3 ∧ (-32768 ≤ z ∧ z < 32768) ∧ ClassFile.decode (mB μ) pc = .ok (.sipush z, 3)))
    (kk : GO p l e R s m args below meth c Q μ A cA D ad0 σ0 (pc + len, (ls, (.inl z :: st, σ)))) : GO p l e R s m args below meth c Q μ A cA D ad0 σ0 (pc, (ls, (st, σ))) := by
  intro ad H locs cells slots lsA hw hlo hs
  have hz : in32 z := by unfold in32; rcases hd with ⟨-, h, -⟩ | ⟨-, h, -⟩ | ⟨-, h, -⟩ <;> omega
  have kk := kk ad H locs cells slots lsA hw hlo (Sk_cons hz hs)
  simp only [List.map_cons, cvv] at kk
  rcases hd with ⟨rfl, h, hd⟩ | ⟨rfl, h, hd⟩ | ⟨rfl, h, hd⟩
  · exact lv_iconst fx.1 fx.2.1 hd rfl kk
  · refine lv_bipush fx.1 fx.2.1 hd ?_ kk
    rw [← Int32.ofInt_int8ToInt, Int8.toInt_ofInt_of_le (by omega) (by omega)]
  · refine lv_sipush fx.1 fx.2.1 hd ?_ kk
    rw [← Int32.ofInt_int16ToInt, Int16.toInt_ofInt_of_le (by omega) (by omega)]
theorem S_lconst {k : Fin 2} (fx : Fx p s m args meth c μ A cA D ad0 σ0) (hd : ClassFile.decode (mB μ) pc = .ok (.lconst k, 1))
    (kk : GO p l e R s m args below meth c Q μ A cA D ad0 σ0 (pc + 1, (ls, (.inr (.inl k.val) :: st, σ)))) : GO p l e R s m args below meth c Q μ A cA D ad0 σ0 (pc, (ls, (st, σ))) := by
  intro ad H locs cells slots lsA hw hlo hs
  have hk := k.isLt
  have kk := kk ad H locs cells slots lsA hw hlo (Sk_cons (show in64 (k.val : Int) from ⟨by omega, by omega⟩) hs)
  simp only [List.map_cons, cvv] at kk
  exact lv_lconst fx.1 fx.2.1 hd (Int64.ofInt_eq_ofNat.symm) kk
theorem S_ldc {idx : Nat} {z : Int} (fx : Fx p s m args meth c μ A cA D ad0 σ0) (hd : ClassFile.decode (mB μ) pc = .ok (.ldc idx, 2)) (hz : lct (mO μ) idx = some (0, z))
    (kk : GO p l e R s m args below meth c Q μ A cA D ad0 σ0 (pc + 2, (ls, (.inl z :: st, σ)))) : GO p l e R s m args below meth c Q μ A cA D ad0 σ0 (pc, (ls, (st, σ))) := by
  intro ad H locs cells slots lsA hw hlo hs
  unfold lct at hz
  cases hf : q_lc.find? (fun e => e.1 == mO μ && e.2.1 == idx) with
  | none => rw [hf] at hz; cases hz
  | some q =>
    rw [hf] at hz
    obtain ⟨a1, a2⟩ := find_inv hf q_lc_ok
    obtain ⟨e1, e2, e3, e4, e5⟩ := q
    simp only [Option.map_some, Option.some.injEq, Prod.mk.injEq] at hz
    obtain ⟨h3, h4⟩ := hz
    subst h3
    subst h4
    simp only [q_lc_c, Bool.and_eq_true, Bool.or_eq_true, decide_eq_true_eq, beq_iff_eq] at a1 a2
    obtain ⟨rfl, rfl⟩ := a1
    rcases a2 with ⟨⟨-, a2⟩, a3⟩ | ⟨⟨a2, -⟩, -⟩
    · have kk := kk ad H locs cells slots lsA hw hlo (Sk_cons (show in32 e4 from a3) hs)
      simp only [List.map_cons, cvv] at kk
      exact lv_ldc fx.1 fx.2.1 fx.2.2.2.1 (word_of fx a2 rfl) hd kk
    · cases a2
theorem S_ldcS {idx : Nat} {z : Int} (fx : Fx p s m args meth c μ A cA D ad0 σ0) (hd : ClassFile.decode (mB μ) pc = .ok (.ldc idx, 2)) (hz : lct (mO μ) idx = some (1, z))
    (kk : GO p l e R s m args below meth c Q μ A cA D ad0 σ0 (pc + 2, (ls, (.inr (.inr z) :: st, σ)))) : GO p l e R s m args below meth c Q μ A cA D ad0 σ0 (pc, (ls, (st, σ))) := by
  intro ad H locs cells slots lsA hw hlo hs
  unfold lct at hz
  cases hf : q_lc.find? (fun e => e.1 == mO μ && e.2.1 == idx) with
  | none => rw [hf] at hz; cases hz
  | some q =>
    rw [hf] at hz
    obtain ⟨a1, a2⟩ := find_inv hf q_lc_ok
    obtain ⟨e1, e2, e3, e4, e5⟩ := q
    simp only [Option.map_some, Option.some.injEq, Prod.mk.injEq] at hz
    obtain ⟨h3, h4⟩ := hz
    subst h3
    subst h4
    simp only [q_lc_c, Bool.and_eq_true, Bool.or_eq_true, decide_eq_true_eq, beq_iff_eq] at a1 a2
    obtain ⟨ho, hi2⟩ := a1
    subst hi2
    rcases a2 with ⟨⟨a2, -⟩, -⟩ | ⟨⟨-, h5⟩, a2⟩
    · cases a2
    · subst h5
      obtain ⟨-, -, -, -, ⟨adK, adV, hk, hr⟩, -⟩ := fx.2.2.2.2.2.2.2.2
      have hown := fx.2.2.2.1
      rw [← ho] at hown
      have key : ∃ i : Nat, i < 3 ∧ e4 = -10 - (i : Int) ∧ (txS i).1 = e2 := by
        rcases a2 with (⟨h1, h2⟩ | ⟨h1, h2⟩) | ⟨h1, h2⟩
        · exact ⟨0, by omega, by omega, h1.symm⟩
        · exact ⟨1, by omega, by omega, h1.symm⟩
        · exact ⟨2, by omega, by omega, h1.symm⟩
      obtain ⟨i, hi, h8, h9⟩ := key
      subst h8
      subst h9

      obtain ⟨g1, g2, g3⟩ := hr i hi
      have kk := kk ad H locs cells slots lsA hw hlo (Sk_cons (show (-10 - (i : Int)) < (tot σ : Int) from by omega) hs)
      simp only [List.map_cons, cvv, hw.2.2.2.2.2.1 (-10 - i) (by omega), g1] at kk
      exact va_ldcS fx.1 fx.2.1 hown g3 hd kk
theorem S_ldc2 {idx : Nat} {z : Int} (fx : Fx p s m args meth c μ A cA D ad0 σ0) (hd : ClassFile.decode (mB μ) pc = .ok (.ldc2_w idx, 3)) (hz : l2t (mO μ) idx = some z)
    (kk : GO p l e R s m args below meth c Q μ A cA D ad0 σ0 (pc + 3, (ls, (.inr (.inl z) :: st, σ)))) : GO p l e R s m args below meth c Q μ A cA D ad0 σ0 (pc, (ls, (st, σ))) := by
  intro ad H locs cells slots lsA hw hlo hs
  unfold l2t at hz
  cases hf : q_l2.find? (fun e => e.1 == mO μ && e.2.1 == idx) with
  | none => rw [hf] at hz; cases hz
  | some q =>
    rw [hf] at hz
    obtain ⟨a1, a2⟩ := find_inv hf q_l2_ok
    obtain ⟨e1, e2, e3, e4⟩ := q
    simp only [Option.map_some, Option.some.injEq] at hz
    subst hz
    simp only [q_l2_c, Bool.and_eq_true, Bool.or_eq_true, decide_eq_true_eq, beq_iff_eq] at a1 a2
    obtain ⟨rfl, rfl⟩ := a1
    have kk := kk ad H locs cells slots lsA hw hlo (Sk_cons (show in64 e3 from a2.2) hs)
    simp only [List.map_cons, cvv] at kk
    exact lv_ldc2 fx.1 fx.2.1 fx.2.2.2.1 (word_of fx a2.1 rfl) hd kk
/-- the locals behind a store -/
theorem Lo_set {ad : Int → Option Nat} {n k : Nat} {lsA ls' : Array Slot} {v : PV} (h : Lo ad n lsA ls σ) (hv : okv σ v) (hp : pok ls k = true)
    (h2 : lv_has ls' n ((k, cvv ad v) :: ((List.range ls.length).filterMap (fun i => match ls[i]? with | some (some w) => some (i, cvv ad w) | _ => none)).filter (fun q => !(q.1 == k) && !(q.1 + 1 == k && q.2.category == 2)))) : Lo ad n ls' (ls.set k (some v)) σ := by
  refine ⟨h2.1, h2.2.1, by rw [List.length_set]; exact h.2.2.1, fun i w hi => ?_⟩
  rw [List.getElem?_set] at hi
  by_cases hk : k = i
  · subst hk
    rw [if_pos rfl] at hi
    by_cases hl : k < ls.length
    · rw [if_pos hl] at hi
      cases hi
      exact ⟨h2.2.2 _ List.mem_cons_self, hv⟩
    · rw [if_neg hl] at hi; cases hi
  · rw [if_neg hk] at hi
    obtain ⟨a1, a2⟩ := h.2.2.2 i w hi
    refine ⟨h2.2.2 (i, cvv ad w) (List.mem_cons_of_mem _ (List.mem_filter.mpr ⟨List.mem_filterMap.mpr ⟨i, List.mem_range.mpr (List.getElem?_eq_some_iff.mp hi).1, by rw [hi]⟩, ?_⟩)), a2⟩
    have c1 : ((i : Nat) == k) = false := by simpa using fun q => hk q.symm
    simp only [c1, Bool.not_false, Bool.true_and, Bool.not_eq_true', Bool.and_eq_false_iff, beq_eq_false_iff_ne]
    by_cases hik : i + 1 = k
    · subst hik
      right
      rw [cvv_cat]
      match w, hi with
      | .inl z, hi => simp [ptag]
      | .inr (.inr z), hi => simp [ptag]
      | .inr (.inl z), hi => simp [pok, hi] at hp
    · exact Or.inl hik
theorem Lo_has {ad : Int → Option Nat} {n : Nat} {lsA : Array Slot} (h : Lo ad n lsA ls σ) : lv_has lsA n ((List.range ls.length).filterMap (fun i => match ls[i]? with | some (some w) => some (i, cvv ad w) | _ => none)) := by
  refine ⟨h.1, h.2.1, fun q hq => ?_⟩
  obtain ⟨i, hi, hq⟩ := List.mem_filterMap.mp hq
  cases hg : ls[i]? with
  | none => rw [hg] at hq; cases hq
  | some o =>
    cases o with
    | none => rw [hg] at hq; cases hq
    | some w => rw [hg] at hq; cases hq; exact (h.2.2.2 i w hg).1
theorem S_store {len k t : Nat} {v : PV} (fx : Fx p s m args meth c μ A cA D ad0 σ0)
    (hd : (len = 1 ∧ ∃ k4 : Fin 4, k4.val = k ∧ ((t = 0 ∧ ClassFile.decode (mB μ) pc = .ok (.istore_n k4, 1)) ∨ (t = 2 ∧ ClassFile.decode (mB μ) pc = .ok (.astore_n k4, 1)))) ∨ (len = 2 ∧ ((t = 0 ∧ ClassFile.decode (mB μ) pc = .ok (.istore k, 2)) ∨ (t = 2 ∧ ClassFile.decode (mB μ) pc = .ok (.astore k, 2)))))
    (ht : ptag v = t) (hk : k < ls.length) (hp : pok ls k = true)
    (kk : GO p l e R s m args below meth c Q μ A cA D ad0 σ0 (pc + len, (ls.set k (some v), (r, σ)))) : GO p l e R s m args below meth c Q μ A cA D ad0 σ0 (pc, (ls, (v :: r, σ))) := by
  intro ad H locs cells slots lsA hw hlo hs
  have hv := Sk_hd hs
  have hk2 : k < mL μ := by rw [← hlo.2.2.1]; exact hk
  have kk := fun ls' h2 => kk ad H locs cells slots ls' hw (Lo_set hlo hv hp h2) (Sk_tl hs)
  simp only [List.map_cons]
  rcases hd with ⟨rfl, k4, rfl, ⟨rfl, hd⟩ | ⟨rfl, hd⟩⟩ | ⟨rfl, ⟨rfl, hd⟩ | ⟨rfl, hd⟩⟩
  · match v, ht with
    | .inl z, _ => exact lv_istore_n fx.1 fx.2.1 hd rfl (Lo_has hlo) hk2 rfl kk
  · match v, ht with
    | .inr (.inr z), _ =>
      simp only [cvv] at kk ⊢
      cases ha : ad z with
      | none => rw [ha] at kk; exact lv_astore_nN fx.1 fx.2.1 hd rfl (Lo_has hlo) hk2 rfl kk
      | some q => rw [ha] at kk; exact lv_astore_n fx.1 fx.2.1 hd rfl (Lo_has hlo) hk2 rfl kk
  · match v, ht with
    | .inl z, _ => exact lv_istore fx.1 fx.2.1 hd (Lo_has hlo) hk2 rfl kk
  · match v, ht with
    | .inr (.inr z), _ =>
      simp only [cvv] at kk ⊢
      cases ha : ad z with
      | none => rw [ha] at kk; exact lv_astoreN fx.1 fx.2.1 hd (Lo_has hlo) hk2 rfl kk
      | some q => rw [ha] at kk; exact lv_astore fx.1 fx.2.1 hd (Lo_has hlo) hk2 rfl kk
theorem S_iinc {k : Nat} {x z : Int} (fx : Fx p s m args meth c μ A cA D ad0 σ0) (hd : ClassFile.decode (mB μ) pc = .ok (.iinc k z, 3)) (hl : ls[k]? = some (some (.inl x))) (hp : pok ls k = true)
    (kk : GO p l e R s m args below meth c Q μ A cA D ad0 σ0 (pc + 3, (ls.set k (some (.inl (wr32 (x + z)))), (st, σ)))) : GO p l e R s m args below meth c Q μ A cA D ad0 σ0 (pc, (ls, (st, σ))) := by
  intro ad H locs cells slots lsA hw hlo hs
  have kk := fun ls' h2 => kk ad H locs cells slots ls' hw (Lo_set hlo (show in32 (wr32 (x + z)) from wr32_in _) hp h2) hs
  have hk : k < ls.length := (List.getElem?_eq_some_iff.mp hl).1
  have hm : (k, cvv ad (.inl x)) ∈ ((List.range ls.length).filterMap (fun i => match ls[i]? with | some (some w) => some (i, cvv ad w) | _ => none)) := List.mem_filterMap.mpr ⟨k, List.mem_range.mpr hk, by rw [hl]⟩
  obtain ⟨j, hj⟩ := List.getElem?_of_mem hm
  refine lv_iinc (k := j) fx.1 fx.2.1 hd (Lo_has hlo) hj rfl (by rw [← hlo.2.2.1]; exact hk) rfl (fun ls' h2 => kk ls' ?_)
  simp only [cvv, o_wr, Int32.ofInt_add]
  exact h2
theorem S_2 {x y z : Int} {i : ClassFile.Instr} (fx : Fx p s m args meth c μ A cA D ad0 σ0) (hd : ClassFile.decode (mB μ) pc = .ok (i, 1))
    (hi : in32 x → in32 y → in32 z ∧ ((i = .iadd ∧ z = wr32 (x + y)) ∨ (i = .isub ∧ z = wr32 (x - y)) ∨ (i = .imul ∧ z = wr32 (x * y)) ∨ (i = .idiv ∧ 0 ≤ x ∧ 0 < y ∧ z = x / y) ∨ (i = .irem ∧ 0 ≤ x ∧ 0 < y ∧ z = x % y) ∨ (i = .iand ∧ z = iAnd x y) ∨ (i = .ior ∧ z = iOr x y) ∨ (i = .ixor ∧ z = iXor x y) ∨ (i = .ishl ∧ 0 ≤ x ∧ 0 ≤ y ∧ y < 31 ∧ x * 2 ^ y.toNat < 2147483648 ∧ z = x * 2 ^ y.toNat) ∨ (i = .ishr ∧ 0 ≤ x ∧ 0 ≤ y ∧ y < 32 ∧ z = x / 2 ^ y.toNat)))
    (kk : GO p l e R s m args below meth c Q μ A cA D ad0 σ0 (pc + 1, (ls, (.inl z :: r, σ)))) : GO p l e R s m args below meth c Q μ A cA D ad0 σ0 (pc, (ls, (.inl y :: .inl x :: r, σ))) := by
  intro ad H locs cells slots lsA hw hlo hs
  have hy : in32 y := Sk_hd hs
  have hx : in32 x := Sk_hd (Sk_tl hs)
  obtain ⟨hz, hi⟩ := hi hx hy
  have kk := kk ad H locs cells slots lsA hw hlo (Sk_cons (show okv σ (.inl z) from hz) (Sk_tl (Sk_tl hs)))
  simp only [List.map_cons, cvv] at kk ⊢
  rcases hi with ⟨rfl, rfl⟩ | ⟨rfl, rfl⟩ | ⟨rfl, rfl⟩ | ⟨rfl, h0, h1, rfl⟩ | ⟨rfl, h0, h1, rfl⟩ | ⟨rfl, rfl⟩ | ⟨rfl, rfl⟩ | ⟨rfl, rfl⟩ | ⟨rfl, h0, h1, h2, h3, rfl⟩ | ⟨rfl, h0, h1, h2, rfl⟩
  · refine lv_iadd fx.1 fx.2.1 hd ?_; rw [o_wr, Int32.ofInt_add] at kk; exact kk
  · refine lv_isub fx.1 fx.2.1 hd ?_; rw [o_wr, Int32.ofInt_sub] at kk; exact kk
  · refine lv_imul fx.1 fx.2.1 hd ?_; rw [o_wr, Int32.ofInt_mul] at kk; exact kk
  · refine lv_idiv fx.1 fx.2.1 hd (o_ne0 hy h1) ?_; rw [o_div hx hy h0 h1]; exact kk
  · refine lv_irem fx.1 fx.2.1 hd (o_ne0 hy h1) ?_; rw [o_rem hx hy h0 h1]; exact kk
  · refine lv_iand fx.1 fx.2.1 hd ?_; rw [o_and] at kk; exact kk
  · refine lv_ior fx.1 fx.2.1 hd ?_; rw [o_or] at kk; exact kk
  · refine lv_ixor fx.1 fx.2.1 hd ?_; rw [o_xor] at kk; exact kk
  · refine lv_ishl fx.1 fx.2.1 hd ?_; rw [o_shl h0 h1 h2 h3]; exact kk
  · refine lv_ishr fx.1 fx.2.1 hd ?_; rw [o_shr hx h0 h1 h2]; exact kk
theorem S_1 {x z : Int} {i : ClassFile.Instr} (fx : Fx p s m args meth c μ A cA D ad0 σ0) (hd : ClassFile.decode (mB μ) pc = .ok (i, 1))
    (hi : (i = .ineg ∧ z = wr32 (-x)) ∨ (i = .i2b ∧ z = wr8 x) ∨ (i = .i2s ∧ z = wr16 x) ∨ (i = .i2c ∧ z = x % 65536))
    (kk : GO p l e R s m args below meth c Q μ A cA D ad0 σ0 (pc + 1, (ls, (.inl z :: r, σ)))) : GO p l e R s m args below meth c Q μ A cA D ad0 σ0 (pc, (ls, (.inl x :: r, σ))) := by
  intro ad H locs cells slots lsA hw hlo hs
  have hz : in32 z := by
    rcases hi with ⟨-, rfl⟩ | ⟨-, rfl⟩ | ⟨-, rfl⟩ | ⟨-, rfl⟩
    · exact wr32_in _
    · unfold in32 wr8; omega
    · unfold in32 wr16; omega
    · unfold in32; omega
  have kk := kk ad H locs cells slots lsA hw hlo (Sk_cons (show okv σ (.inl z) from hz) (Sk_tl hs))
  simp only [List.map_cons, cvv] at kk ⊢
  rcases hi with ⟨rfl, rfl⟩ | ⟨rfl, rfl⟩ | ⟨rfl, rfl⟩ | ⟨rfl, rfl⟩
  · refine lv_ineg fx.1 fx.2.1 hd ?_; rw [o_wr, Int32.ofInt_neg] at kk; exact kk
  · exact lv_i2b fx.1 fx.2.1 hd (o_i2b x) kk
  · exact lv_i2s fx.1 fx.2.1 hd (o_i2s x) kk
  · exact lv_i2c fx.1 fx.2.1 hd (o_i2c x) kk
theorem S_i2l {x : Int} (fx : Fx p s m args meth c μ A cA D ad0 σ0) (hd : ClassFile.decode (mB μ) pc = .ok (.i2l, 1))
    (kk : GO p l e R s m args below meth c Q μ A cA D ad0 σ0 (pc + 1, (ls, (.inr (.inl x) :: r, σ)))) : GO p l e R s m args below meth c Q μ A cA D ad0 σ0 (pc, (ls, (.inl x :: r, σ))) := by
  intro ad H locs cells slots lsA hw hlo hs
  have hx : in32 x := Sk_hd hs
  have kk := kk ad H locs cells slots lsA hw hlo (Sk_cons (show okv σ (.inr (.inl x)) from ⟨by have := hx.1; omega, by have := hx.2; omega⟩) (Sk_tl hs))
  simp only [List.map_cons, cvv] at kk ⊢
  exact lv_i2l fx.1 fx.2.1 hd (o_i2l hx) kk
theorem S_l2i {x : Int} (fx : Fx p s m args meth c μ A cA D ad0 σ0) (hd : ClassFile.decode (mB μ) pc = .ok (.l2i, 1))
    (kk : GO p l e R s m args below meth c Q μ A cA D ad0 σ0 (pc + 1, (ls, (.inl (wr32 x) :: r, σ)))) : GO p l e R s m args below meth c Q μ A cA D ad0 σ0 (pc, (ls, (.inr (.inl x) :: r, σ))) := by
  intro ad H locs cells slots lsA hw hlo hs
  have hx : in64 x := Sk_hd hs
  have kk := kk ad H locs cells slots lsA hw hlo (Sk_cons (show okv σ (.inl (wr32 x)) from wr32_in _) (Sk_tl hs))
  simp only [List.map_cons, cvv] at kk ⊢
  exact lv_l2i fx.1 fx.2.1 hd (o_l2i hx) kk
theorem S_l2 {x y : Int} {v : PV} {i : ClassFile.Instr} (fx : Fx p s m args meth c μ A cA D ad0 σ0) (hd : ClassFile.decode (mB μ) pc = .ok (i, 1))
    (hi : (i = .land ∧ v = .inr (.inl (lAnd x y))) ∨ (i = .lor ∧ v = .inr (.inl (lOr x y))) ∨ (i = .lcmp ∧ v = .inl (lCmp x y)))
    (kk : GO p l e R s m args below meth c Q μ A cA D ad0 σ0 (pc + 1, (ls, (v :: r, σ)))) : GO p l e R s m args below meth c Q μ A cA D ad0 σ0 (pc, (ls, (.inr (.inl y) :: .inr (.inl x) :: r, σ))) := by
  intro ad H locs cells slots lsA hw hlo hs
  have hy : in64 y := Sk_hd hs
  have hx : in64 x := Sk_hd (Sk_tl hs)
  have hz : okv σ v := by
    rcases hi with ⟨-, rfl⟩ | ⟨-, rfl⟩ | ⟨-, rfl⟩
    · exact t64_in _
    · exact t64_in _
    · show in32 (lCmp x y)
      unfold lCmp in32
      split <;> (try split) <;> omega
  have kk := kk ad H locs cells slots lsA hw hlo (Sk_cons hz (Sk_tl (Sk_tl hs)))
  simp only [List.map_cons] at kk ⊢
  rcases hi with ⟨rfl, rfl⟩ | ⟨rfl, rfl⟩ | ⟨rfl, rfl⟩
  · refine lv_land fx.1 fx.2.1 hd ?_; simp only [cvv, ol_and] at kk; exact kk
  · refine lv_lor fx.1 fx.2.1 hd ?_; simp only [cvv, ol_or] at kk; exact kk
  · refine W.lcmp fx.1 fx.2.1 hd ?_; rw [o_cmp hx hy]; exact kk
theorem S_lshl {x y : Int} (fx : Fx p s m args meth c μ A cA D ad0 σ0) (hd : ClassFile.decode (mB μ) pc = .ok (.lshl, 1))
    (kk : GO p l e R s m args below meth c Q μ A cA D ad0 σ0 (pc + 1, (ls, (.inr (.inl (lShl x y)) :: r, σ)))) : GO p l e R s m args below meth c Q μ A cA D ad0 σ0 (pc, (ls, (.inl y :: .inr (.inl x) :: r, σ))) := by
  intro ad H locs cells slots lsA hw hlo hs
  have kk := kk ad H locs cells slots lsA hw hlo (Sk_cons (show okv σ (.inr (.inl (lShl x y))) from t64_in _) (Sk_tl (Sk_tl hs)))
  simp only [List.map_cons, cvv] at kk ⊢
  exact lv_lshl fx.1 fx.2.1 hd (ol_shl x y).symm kk
theorem S_dup {v : PV} (fx : Fx p s m args meth c μ A cA D ad0 σ0) (hd : ClassFile.decode (mB μ) pc = .ok (.dup, 1)) (hv : ptag v ≠ 1)
    (kk : GO p l e R s m args below meth c Q μ A cA D ad0 σ0 (pc + 1, (ls, (v :: v :: r, σ)))) : GO p l e R s m args below meth c Q μ A cA D ad0 σ0 (pc, (ls, (v :: r, σ))) := by
  intro ad H locs cells slots lsA hw hlo hs
  have kk := kk ad H locs cells slots lsA hw hlo (Sk_cons (Sk_hd hs) hs)
  simp only [List.map_cons] at kk ⊢
  exact lv_dup fx.1 fx.2.1 hd (by rw [cvv_cat, if_neg hv]) kk
theorem S_dup2 {v w : PV} (fx : Fx p s m args meth c μ A cA D ad0 σ0) (hd : ClassFile.decode (mB μ) pc = .ok (.dup2, 1)) (hv : ptag v ≠ 1) (hw2 : ptag w ≠ 1)
    (kk : GO p l e R s m args below meth c Q μ A cA D ad0 σ0 (pc + 1, (ls, (v :: w :: v :: w :: r, σ)))) : GO p l e R s m args below meth c Q μ A cA D ad0 σ0 (pc, (ls, (v :: w :: r, σ))) := by
  intro ad H locs cells slots lsA hw hlo hs
  have kk := kk ad H locs cells slots lsA hw hlo (Sk_cons (Sk_hd hs) (Sk_cons (Sk_hd (Sk_tl hs)) hs))
  simp only [List.map_cons] at kk ⊢
  exact lv_dup2_11 fx.1 fx.2.1 hd (by rw [cvv_cat, if_neg hv]) (by rw [cvv_cat, if_neg hw2]) kk
theorem S_pop {v : PV} (fx : Fx p s m args meth c μ A cA D ad0 σ0) (hd : ClassFile.decode (mB μ) pc = .ok (.pop, 1)) (hv : ptag v ≠ 1)
    (kk : GO p l e R s m args below meth c Q μ A cA D ad0 σ0 (pc + 1, (ls, (r, σ)))) : GO p l e R s m args below meth c Q μ A cA D ad0 σ0 (pc, (ls, (v :: r, σ))) := by
  intro ad H locs cells slots lsA hw hlo hs
  have kk := kk ad H locs cells slots lsA hw hlo (Sk_tl hs)
  simp only [List.map_cons] at kk ⊢
  exact lv_pop fx.1 fx.2.1 hd (by rw [cvv_cat, if_neg hv]) kk
theorem S_goto {off : Int} (fx : Fx p s m args meth c μ A cA D ad0 σ0) (hd : ClassFile.decode (mB μ) pc = .ok (.goto off, 3)) (h0 : 0 ≤ (pc : Int) + off)
    (kk : GO p l e R s m args below meth c Q μ A cA D ad0 σ0 (((pc : Int) + off).toNat, (ls, (st, σ)))) : GO p l e R s m args below meth c Q μ A cA D ad0 σ0 (pc, (ls, (st, σ))) := by
  intro ad H locs cells slots lsA hw hlo hs
  exact lv_goto fx.1 fx.2.1 hd (Int.toNat_of_nonneg h0).symm (kk ad H locs cells slots lsA hw hlo hs)
theorem icc_iff {cc : ClassFile.Cond} {x y : Int} : (icc cc x y = true) ↔ (match cc with | .eq => x = y | .ne => ¬ x = y | .lt => x < y | .ge => y ≤ x | .gt => y < x | .le => x ≤ y) := by
  cases cc <;> simp [icc]
theorem S_if0 {x off : Int} {cc : ClassFile.Cond} (fx : Fx p s m args meth c μ A cA D ad0 σ0) (hd : ClassFile.decode (mB μ) pc = .ok (.ifCond cc off, 3)) (z : 0 ≤ (pc : Int) + off)
    (kt : icc cc x 0 = true → GO p l e R s m args below meth c Q μ A cA D ad0 σ0 (((pc : Int) + off).toNat, (ls, (r, σ)))) (kf : ¬ icc cc x 0 = true → GO p l e R s m args below meth c Q μ A cA D ad0 σ0 (pc + 3, (ls, (r, σ)))) : GO p l e R s m args below meth c Q μ A cA D ad0 σ0 (pc, (ls, (.inl x :: r, σ))) := by
  intro ad H locs cells slots lsA hw hlo hs
  have hx : in32 x := Sk_hd hs
  have h0 : in32 0 := ⟨by omega, by omega⟩
  have kf2 := fun q => kf q ad H locs cells slots lsA hw hlo (Sk_tl hs)
  have kt2 := fun q => kt q ad H locs cells slots lsA hw hlo (Sk_tl hs)
  have ht := (Int.toNat_of_nonneg z).symm
  rw [icc_iff] at kf2 kt2
  clear kf kt
  cases cc
  · exact lv_if_eq fx.1 fx.2.1 hd ht (fun q => kt2 ((o_eq hx h0).mp q)) (fun q => kf2 (fun q2 => q ((o_eq hx h0).mpr q2)))
  · exact lv_if_ne fx.1 fx.2.1 hd ht (fun q => kt2 (fun q2 => q ((o_eq hx h0).mpr q2))) (fun q => kf2 (fun q2 => q2 ((o_eq hx h0).mp q)))
  · exact lv_if_lt fx.1 fx.2.1 hd ht (fun q => kt2 ((o_lt hx h0).mp q)) (fun q => kf2 (fun q2 => q ((o_lt hx h0).mpr q2)))
  · exact lv_if_ge fx.1 fx.2.1 hd ht (fun q => kt2 ((o_le h0 hx).mp q)) (fun q => kf2 (fun q2 => q ((o_le h0 hx).mpr q2)))
  · exact lv_if_gt fx.1 fx.2.1 hd ht (fun q => kt2 ((o_lt h0 hx).mp q)) (fun q => kf2 (fun q2 => q ((o_lt h0 hx).mpr q2)))
  · exact lv_if_le fx.1 fx.2.1 hd ht (fun q => kt2 ((o_le hx h0).mp q)) (fun q => kf2 (fun q2 => q ((o_le hx h0).mpr q2)))
theorem S_icmp {x y off : Int} {cc : ClassFile.Cond} (fx : Fx p s m args meth c μ A cA D ad0 σ0) (hd : ClassFile.decode (mB μ) pc = .ok (.if_icmp cc off, 3)) (z : 0 ≤ (pc : Int) + off)
    (kt : icc cc x y = true → GO p l e R s m args below meth c Q μ A cA D ad0 σ0 (((pc : Int) + off).toNat, (ls, (r, σ)))) (kf : ¬ icc cc x y = true → GO p l e R s m args below meth c Q μ A cA D ad0 σ0 (pc + 3, (ls, (r, σ)))) : GO p l e R s m args below meth c Q μ A cA D ad0 σ0 (pc, (ls, (.inl y :: .inl x :: r, σ))) := by
  intro ad H locs cells slots lsA hw hlo hs
  have h0 : in32 y := Sk_hd hs
  have hx : in32 x := Sk_hd (Sk_tl hs)
  have kf2 := fun q => kf q ad H locs cells slots lsA hw hlo (Sk_tl (Sk_tl hs))
  have kt2 := fun q => kt q ad H locs cells slots lsA hw hlo (Sk_tl (Sk_tl hs))
  have ht := (Int.toNat_of_nonneg z).symm
  rw [icc_iff] at kf2 kt2
  clear kf kt
  cases cc
  · exact lv_icmp_eq fx.1 fx.2.1 hd ht (fun q => kt2 ((o_eq hx h0).mp q)) (fun q => kf2 (fun q2 => q ((o_eq hx h0).mpr q2)))
  · exact lv_icmp_ne fx.1 fx.2.1 hd ht (fun q => kt2 (fun q2 => q ((o_eq hx h0).mpr q2))) (fun q => kf2 (fun q2 => q2 ((o_eq hx h0).mp q)))
  · exact lv_icmp_lt fx.1 fx.2.1 hd ht (fun q => kt2 ((o_lt hx h0).mp q)) (fun q => kf2 (fun q2 => q ((o_lt hx h0).mpr q2)))
  · exact lv_icmp_ge fx.1 fx.2.1 hd ht (fun q => kt2 ((o_le h0 hx).mp q)) (fun q => kf2 (fun q2 => q ((o_le h0 hx).mpr q2)))
  · exact lv_icmp_gt fx.1 fx.2.1 hd ht (fun q => kt2 ((o_lt h0 hx).mp q)) (fun q => kf2 (fun q2 => q ((o_lt h0 hx).mpr q2)))
  · exact lv_icmp_le fx.1 fx.2.1 hd ht (fun q => kt2 ((o_le hx h0).mp q)) (fun q => kf2 (fun q2 => q ((o_le hx h0).mpr q2)))
theorem S_table {x dflt lo hi : Int} {offs : Array Int} {len : Nat} (fx : Fx p s m args meth c μ A cA D ad0 σ0) (hd : ClassFile.decode (mB μ) pc = .ok (.tableswitch dflt lo hi offs, len)) (hh : hi = lo + offs.toList.length - 1)
    {cf' : Cf} (hsw : tsw x (fun off => jmp pc off ls r σ) (jmp pc dflt ls r σ) lo offs.toList = some (.inl cf')) (kk : GO p l e R s m args below meth c Q μ A cA D ad0 σ0 cf') : GO p l e R s m args below meth c Q μ A cA D ad0 σ0 (pc, (ls, (.inl x :: r, σ))) := by
  intro ad H locs cells slots lsA hw hlo hs
  have hx : in32 x := Sk_hd hs
  have key : ∀ (os : List Int) (lo : Int), tsw x (fun off => jmp pc off ls r σ) (jmp pc dflt ls r σ) lo os = some (.inl cf') → ((x < lo ∨ lo + os.length ≤ x) ∧ jmp pc dflt ls r σ = some (.inl cf')) ∨ (lo ≤ x ∧ x < lo + os.length ∧ ∃ off, os[(x - lo).toNat]? = some off ∧ jmp pc off ls r σ = some (.inl cf')) := by
    intro os
    induction os with
    | nil => intro lo h; exact Or.inl ⟨by simp only [List.length_nil]; omega, h⟩
    | cons o os ih =>
      intro lo h
      simp only [tsw] at h
      simp only [List.length_cons]
      by_cases hq : x = lo
      · rw [if_pos hq] at h
        right
        refine ⟨by omega, by omega, o, ?_, h⟩
        rw [show (x - lo).toNat = 0 by omega]
        rfl
      · rw [if_neg hq] at h
        rcases ih (lo + 1) h with ⟨a, b⟩ | ⟨a, b, off, e1, e2⟩
        · exact Or.inl ⟨by omega, b⟩
        · right
          refine ⟨by omega, by omega, off, ?_, e2⟩
          rw [show (x - lo).toNat = (x - (lo + 1)).toNat + 1 by omega, List.getElem?_cons_succ]
          exact e1
  have jk : ∀ off, jmp pc off ls r σ = some (.inl cf') → 0 ≤ (pc : Int) + off ∧ cf' = (((pc : Int) + off).toNat, (ls, (r, σ))) := by
    intro off h
    unfold jmp gd at h
    by_cases h0 : 0 ≤ (pc : Int) + off
    · rw [if_pos h0] at h
      cases h
      exact ⟨h0, rfl⟩
    · rw [if_neg h0] at h; cases h
  rcases key offs.toList lo hsw with ⟨a, b⟩ | ⟨a, b, off, e1, e2⟩
  · obtain ⟨h0, rfl⟩ := jk dflt b
    refine lv_tableOut fx.1 fx.2.1 hd ?_ (Int.toNat_of_nonneg h0).symm (kk ad H locs cells slots lsA hw hlo (Sk_tl hs))
    rw [oT hx]; omega
  · obtain ⟨h0, rfl⟩ := jk off e2
    refine lv_tableIn fx.1 fx.2.1 hd ?_ ?_ ?_ (Int.toNat_of_nonneg h0).symm (kk ad H locs cells slots lsA hw hlo (Sk_tl hs))
    · rw [oT hx]; omega
    · rw [oT hx]; omega
    · rw [oT hx, ← Array.getElem?_toList]; exact e1
theorem S_lookup {x dflt : Int} {ps : Array (Int × Int)} {len : Nat} (fx : Fx p s m args meth c μ A cA D ad0 σ0) (hd : ClassFile.decode (mB μ) pc = .ok (.lookupswitch dflt ps, len)) (hh : (ps.toList.zip (ps.toList.drop 1)).all (fun (a, next) => a.1 < next.1) = true)
    {cf' : Cf} (hsw : lsw x (fun off => jmp pc off ls r σ) (jmp pc dflt ls r σ) ps.toList = some (.inl cf')) (kk : GO p l e R s m args below meth c Q μ A cA D ad0 σ0 cf') : GO p l e R s m args below meth c Q μ A cA D ad0 σ0 (pc, (ls, (.inl x :: r, σ))) := by
  intro ad H locs cells slots lsA hw hlo hs
  have hx : in32 x := Sk_hd hs
  have key : ∀ (os : List (Int × Int)), lsw x (fun off => jmp pc off ls r σ) (jmp pc dflt ls r σ) os = some (.inl cf') → jmp pc (Op.lookupswitch.offset os dflt x) ls r σ = some (.inl cf') := by
    intro os
    induction os with
    | nil => intro h; exact h
    | cons o os ih =>
      intro h
      obtain ⟨o1, o2⟩ := o
      simp only [lsw] at h
      rw [Op.lookupswitch.offset_cons]
      by_cases hq : x = o1
      · rw [if_pos hq] at h; rw [if_pos hq.symm]; exact h
      · rw [if_neg hq] at h; rw [if_neg (Ne.symm hq)]; exact ih h
  have h := key _ hsw
  unfold jmp gd at h
  by_cases h0 : 0 ≤ (pc : Int) + Op.lookupswitch.offset ps.toList dflt x
  · rw [if_pos h0] at h
    cases h
    exact lv_lookup fx.1 fx.2.1 hd hh (by rw [oT hx]) (Int.toNat_of_nonneg h0).symm (kk ad H locs cells slots lsA hw hlo (Sk_tl hs))
  · rw [if_neg h0] at h; cases h
end SND
