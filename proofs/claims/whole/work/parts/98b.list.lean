/-! The making of the fixed cells once more, by a machine whose memory is a list: what it comes to, the pure machine comes to. -/
abbrev BM : Type := List (Int × (Nat × List (Int × Int)))
abbrev BC : Type := Nat × (PL × (List PV × (BM × Nat)))
abbrev BO : Type := BC ⊕ (Unit ⊕ (Nat × (List PV × BC)))
def bkf : Nat → Int → Int
  | 0 => zf
  | 1 => nf
  | c + 2 => ob c
def bcf (k : Nat) : List (Int × Int) → Int → Int
  | [] => bkf k
  | e :: r => ud (bcf k r) e.1 e.2
def bmm : BM → PM → PM
  | [], m => m
  | e :: M, m => setA (bmm M m) e.1 (bcf e.2.1 e.2.2)
def bup : BM → Int → Int → Int → BM
  | [], o, k, z => [(o, (0, [(k, z)]))]
  | e :: M, o, k, z => if e.1 = o then (e.1, (e.2.1, (k, z) :: e.2.2)) :: M else e :: bup M o k z
def bz : PM := fun _ _ => 0
theorem bmm_up (m : PM) (o k z : Int) (h : m o = zf) : ∀ M : BM, bmm (bup M o k z) m = setA (bmm M m) o (ud (bmm M m o) k z) := by
  intro M
  induction M with
  | nil =>
    show setA m o (ud zf k z) = setA m o (ud (m o) k z)
    rw [h]
  | cons e M ih =>
    unfold bup
    by_cases he : e.1 = o
    · rw [if_pos he]
      show setA (bmm M m) e.1 (ud (bcf e.2.1 e.2.2) k z) = setA (setA (bmm M m) e.1 (bcf e.2.1 e.2.2)) o (ud (setA (bmm M m) e.1 (bcf e.2.1 e.2.2) o) k z)
      rw [he, sA_same, sA_sA]
    · rw [if_neg he]
      show setA (bmm (bup M o k z) m) e.1 (bcf e.2.1 e.2.2) = setA (setA (bmm M m) e.1 (bcf e.2.1 e.2.2)) o (ud (setA (bmm M m) e.1 (bcf e.2.1 e.2.2) o) k z)
      rw [ih, sA_ne (fun h => he h.symm), sA_comm (fun h => he h)]
theorem bmm_rd (m : PM) (o : Int) (h : m o = zf) : ∀ M : BM, bmm M m o = bmm M bz o := by
  intro M
  induction M with
  | nil => show m o = bz o; rw [h]; rfl
  | cons e M ih =>
    show setA (bmm M m) e.1 (bcf e.2.1 e.2.2) o = setA (bmm M bz) e.1 (bcf e.2.1 e.2.2) o
    rw [sA_s, sA_s, ih]
theorem bmm_no (m : PM) (o : Int) : ∀ M : BM, M.all (fun e => !(e.1 == o)) = true → bmm M m o = m o := by
  intro M
  induction M with
  | nil => intro _; rfl
  | cons e M ih =>
    intro h
    rw [List.all_cons, Bool.and_eq_true] at h
    have h1 : ¬ o = e.1 := fun e' => by
      have := h.1
      rw [← e'] at this
      simp at this
    show setA (bmm M m) e.1 (bcf e.2.1 e.2.2) o = m o
    rw [sA_s, if_neg h1, ih h.2]
/-- what goes past the memory -/
def cgo (σ : PS) : PO → PO
  | .inl c => .inl (c.1, (c.2.1, (c.2.2.1, σ)))
  | .inr (.inl r) => .inr (.inl r)
  | .inr (.inr q) => .inr (.inr (q.1, (q.2.1, (q.2.2.1, (q.2.2.2.1, (q.2.2.2.2.1, σ))))))
def σd : PS := (fun _ _ => 0, (some 0, ([], 0)))
def okP : ClassFile.Instr → Bool
  | .aload_n _ => true
  | .iload_n _ => true
  | .iconst _ => true
  | .bipush _ => true
  | .sipush _ => true
  | .dup => true
  | .istore_n _ => true
  | .astore_n _ => true
  | .iinc _ _ => true
  | .if_icmp _ _ => true
  | .goto _ => true
  | .return_ => true
  | _ => false
theorem gd_cg {c : Prop} [Decidable c] {σ : PS} {x y : Option PO} {o : PO} (h : x = some o → y = some (cgo σ o)) (hx : gd c x = some o) : gd c y = some (cgo σ o) := by
  unfold gd at hx ⊢
  by_cases hc : c
  · rw [if_pos hc] at hx ⊢; exact h hx
  · rw [if_neg hc] at hx; cases hx
theorem nx_cg {σ : PS} {pc : Nat} {ls : PL} {st : List PV} {o : PO} (h : nx pc ls st σd = some o) : nx pc ls st σ = some (cgo σ o) := by
  cases h; rfl
theorem ldx_cg {σ : PS} {t : Nat} {x : Option (Option PV)} {f g : PV → Option PO} {o : PO} (h : ∀ v, f v = some o → g v = some (cgo σ o)) (hx : ldx t x f = some o) : ldx t x g = some (cgo σ o) := by
  match x, hx with
  | some (some v), hx => exact gd_cg (h v) hx
theorem stx_cg {σ : PS} {t k len pc : Nat} {ls : PL} {st : List PV} {o : PO} (h : stx t k len pc ls st σd = some o) : stx t k len pc ls st σ = some (cgo σ o) := by
  match st, h with
  | v :: r, h => exact gd_cg nx_cg h
theorem ps_of {μ len pc : Nat} {ls : PL} {st : List PV} {σ : PS} {o : PO} (i : ClassFile.Instr) (hk : okP i = true) (h : stepI μ i len pc ls st σd = some o) : stepI μ i len pc ls st σ = some (cgo σ o) := by
  unfold okP at hk
  split at hk
  · rw [sI_aload_n] at h ⊢; exact gd_cg (ldx_cg fun v => nx_cg) h
  · rw [sI_iload_n] at h ⊢; exact gd_cg (ldx_cg fun v => nx_cg) h
  · rw [sI_iconst] at h ⊢; exact gd_cg nx_cg h
  · rw [sI_bipush] at h ⊢; exact gd_cg nx_cg h
  · rw [sI_sipush] at h ⊢; exact gd_cg nx_cg h
  · rw [sI_dup] at h ⊢
    refine gd_cg (fun h => ?_) h
    match st, h with
    | v :: r, h => exact gd_cg nx_cg h
  · rw [sI_istore_n] at h ⊢; exact gd_cg stx_cg h
  · rw [sI_astore_n] at h ⊢; exact gd_cg stx_cg h
  · rw [sI_iinc] at h ⊢
    refine gd_cg (fun h => ?_) h
    split at h
    · exact gd_cg nx_cg h
    · cases h
  · rw [sI_if_icmp] at h ⊢
    refine gd_cg (fun h => ?_) h
    match st, h with
    | .inl y :: .inl x :: r, h =>
      rw [i2_s] at h ⊢
      split at h
      · rename_i e; rw [if_pos e]; exact nx_cg h
      · rename_i e; rw [if_neg e]; exact nx_cg h
  · rw [sI_goto] at h ⊢
    exact gd_cg (gd_cg nx_cg) h
  · rw [sI_return_] at h ⊢
    refine gd_cg (fun h => ?_) h
    match st, h with
    | [], h =>
      refine gd_cg (fun h => ?_) h
      cases h; rfl
  · cases hk
def bsh (t : Nat) (o : Int) : Nat × Nat := if 0 ≤ o ∧ o < 129 ∧ o < (t : Int) then dSh o.toNat else (99, 0)
theorem bsh_s {m : PM} {t L : Nat} {o : Int} (h : 0 ≤ o) : shp (m, (some t, ([], L))) o = bsh t o := by
  unfold shp bsh
  rw [if_neg (by omega)]
  by_cases h1 : o < 129
  · rw [if_pos h1]
    show (if o < (t : Int) then dSh o.toNat else (99, 0)) = _
    by_cases h2 : o < (t : Int)
    · rw [if_pos h2, if_pos ⟨h, h1, h2⟩]
    · rw [if_neg h2, if_neg (fun h => h2 h.2.2)]
  · rw [if_neg h1, if_neg (fun h => h1 h.2.1)]
def bvv : Nat → PV → Option Int
  | 0, .inl z => some z
  | 3, .inl z => if z = 0 ∨ z = 1 then some z else none
  | 2, .inr (.inr z) => if -1 ≤ z then some z else none
  | _, _ => none
def bJ (μ : Nat) (i : ClassFile.Instr) (len pc : Nat) (ls : PL) (st : List PV) (M : BM) (t : Nat) : Option BO := match i with
  | .new idx => match nwc (mO μ) idx with
    | some ci => if len = 3 ∧ ci < 12 ∧ t < NB ∧ dSh t = (0, ci) then some (.inl (pc + 3, (ls, (.inr (.inr (t : Int)) :: st, (((t : Int), (ci + 2, [])) :: M, t + 1))))) else none
    | none => none
  | .newarray ty => match st with
    | .inl n :: r => if len = 2 ∧ 0 ≤ n ∧ n ≤ 1000 ∧ 1 ≤ aTy ty ∧ t < NB ∧ dSh t = (aTy ty, n.toNat) then some (.inl (pc + 2, (ls, (.inr (.inr (t : Int)) :: r, (((t : Int), (0, [])) :: M, t + 1))))) else none
    | _ => none
  | .anewarray idx => match st with
    | .inl n :: r => match anc (mO μ) idx with
      | some tt => if len = 3 ∧ 0 ≤ n ∧ n ≤ 1000 ∧ 4 ≤ tt ∧ tt ≤ 6 ∧ t < NB ∧ dSh t = (tt, n.toNat) then some (.inl (pc + 3, (ls, (.inr (.inr (t : Int)) :: r, (((t : Int), (1, [])) :: M, t + 1))))) else none
      | none => none
    | _ => none
  | .putfield idx => match st with
    | v :: .inr (.inr o) :: r => match fld (mO μ) idx with
      | some (ci, k) => if len = 3 ∧ 0 ≤ o ∧ bsh t o = (0, ci) ∧ (ffn ci k = false ∨ (mI μ = true ∧ mO μ = ci)) then (match bvv (ftg ci k) v with
        | some z => some (.inl (pc + 3, (ls, (r, (bup M o k z, t)))))
        | none => none) else none
      | none => none
    | _ => none
  | .getfield idx => match st with
    | .inr (.inr o) :: r => match fld (mO μ) idx with
      | some (ci, k) => if len = 3 ∧ 0 ≤ o ∧ bsh t o = (0, ci) ∧ ftg ci k = 2 then some (.inl (pc + 3, (ls, (.inr (.inr (bmm M bz o k)) :: r, (M, t))))) else none
      | none => none
    | _ => none
  | .iastore => match st with
    | .inl z :: .inl i :: .inr (.inr a) :: r => if len = 1 ∧ 0 ≤ a ∧ (bsh t a).1 = 1 ∧ 0 ≤ i ∧ i < ((bsh t a).2 : Int) then some (.inl (pc + 1, (ls, (r, (bup M a i z, t))))) else none
    | _ => none
  | .aastore => match st with
    | .inr (.inr z) :: .inl i :: .inr (.inr a) :: r => if len = 1 ∧ 0 ≤ a ∧ 4 ≤ (bsh t a).1 ∧ (bsh t a).1 ≤ 6 ∧ 0 ≤ i ∧ i < ((bsh t a).2 : Int) ∧ 0 ≤ z ∧ bsh t z = (0, ecl (bsh t a).1) then some (.inl (pc + 1, (ls, (r, (bup M a i z, t))))) else none
    | _ => none
  | .invokespecial idx => if spc (mO μ) idx = 5 then (match st with
    | .inr (.inr o) :: r => if len = 3 ∧ 0 ≤ o ∧ (bsh t o).1 = 0 ∧ pcat r ≤ 8 then some (.inl (pc + 3, (ls, (r, (M, t))))) else none
    | _ => none) else (match inv (mO μ) idx with
    | some (kd, μ', na, cls, ml) => match pop na [] st with
      | some (as, .inr (.inr o) :: r) => if (kd = 2 ∨ kd = 3) ∧ len = 3 ∧ 0 ≤ o ∧ bsh t o = (0, cls) ∧ pcat r ≤ 8 ∧ 1 + pcat as ≤ ml then some (.inr (.inr (μ', (.inr (.inr o) :: as, (pc + 3, (ls, (r, (M, t)))))))) else none
      | _ => none
    | _ => none)
  | _ => none
def bI (μ : Nat) (i : ClassFile.Instr) (len pc : Nat) (ls : PL) (st : List PV) (M : BM) (t : Nat) : Option BO := if okP i = true then (match stepI μ i len pc ls st σd with
  | some (.inl c) => some (.inl (c.1, (c.2.1, (c.2.2.1, (M, t)))))
  | some (.inr (.inl none)) => some (.inr (.inl ()))
  | _ => none) else bJ μ i len pc ls st M t
def cB (m : PM) (L : Nat) (x : BM × Nat) : PS := (bmm x.1 m, (some x.2, ([], L)))
def cC (m : PM) (L : Nat) (c : BC) : Cf := (c.1, (c.2.1, (c.2.2.1, cB m L c.2.2.2)))
def cO (m : PM) (L : Nat) : BO → PO
  | .inl c => .inl (cC m L c)
  | .inr (.inl _) => .inr (.inl none)
  | .inr (.inr q) => .inr (.inr (q.1, (q.2.1, cC m L q.2.2)))
theorem gd_t {c : Prop} [Decidable c] {x : Option PO} (h : c) : gd c x = x := if_pos h
theorem bJ_s {m : PM} {L μ len pc : Nat} {ls : PL} {st : List PV} {M : BM} {t : Nat} {o : BO} (hZ : ∀ a : Int, 0 ≤ a → m a = zf) (i : ClassFile.Instr) (h : bJ μ i len pc ls st M t = some o) : stepI μ i len pc ls st (cB m L (M, t)) = some (cO m L o) := by
  unfold bJ at h
  split at h
  · split at h
    · rename_i ci hci
      split at h
      · rename_i hh
        obtain ⟨rfl, h1, h2, h3⟩ := hh
        cases h
        rw [sI_new, gd_t rfl, hci]
        show gd (ci < 12) _ = _
        rw [gd_t h1]
        show gd (t < NB ∧ dSh t = (0, ci)) _ = _
        rw [gd_t ⟨h2, h3⟩]
        show nx (pc + 3) ls (.inr (.inr (t : Int)) :: st) (clO (bmm M m) t ci, (some (t + 1), ([], L))) = _
        rw [clO_sA]
        rfl
      · cases h
    · cases h
  · split at h
    · split at h
      · rename_i hh
        obtain ⟨rfl, h1, h2, h3, h4, h5⟩ := hh
        cases h
        rw [sI_newarray, gd_t rfl, i1_s, gd_t ⟨h1, h2, h3⟩]
        show gd (t < NB ∧ dSh t = _) _ = _
        rw [gd_t ⟨h4, h5⟩]
        rename_i ty n r
        show nx (pc + 2) ls (.inr (.inr (t : Int)) :: r) (clr (bmm M m) t, (some (t + 1), ([], L))) = _
        rw [clr_sA]
        rfl
      · cases h
    · cases h
  · split at h
    · split at h
      · rename_i tt htt
        split at h
        · rename_i hh
          obtain ⟨rfl, h1, h2, h3, h4, h5, h6⟩ := hh
          cases h
          rw [sI_anewarray, gd_t rfl, i1_s, htt]
          show gd _ _ = _
          rw [gd_t ⟨h1, h2, h3, h4, by intro e; cases e⟩]
          show gd (t < NB ∧ dSh t = _) _ = _
          rw [gd_t ⟨h5, h6⟩]
          rename_i r _
          show nx (pc + 3) ls (.inr (.inr (t : Int)) :: r) (clN (bmm M m) t, (some (t + 1), ([], L))) = _
          rw [clN_sA]
          rfl
        · cases h
      · cases h
    · cases h
  · split at h
    · split at h
      · rename_i ci k hfl
        split at h
        · rename_i hh
          obtain ⟨rfl, h1, h2, h3⟩ := hh
          rw [sI_putfield, gd_t rfl, vr_s, hfl]
          show gd _ (putv _ _ _ _ _ (ftg ci k)) = _
          rw [gd_t ⟨h1, (bsh_s h1).trans h2, h3⟩]
          generalize ftg ci k = g at h ⊢
          split at h
          · rename_i z hz
            cases h
            unfold bvv at hz
            split at hz
            · cases hz
              rw [put_0]
              show nx _ _ _ (up (bmm M m) _ _ _, _) = _
              rw [up_ud, ← bmm_up m _ _ _ (hZ _ h1)]
              rfl
            · split at hz
              · rename_i h01
                cases hz
                rw [put_3, gd_t h01]
                show nx _ _ _ (up (bmm M m) _ _ _, _) = _
                rw [up_ud, ← bmm_up m _ _ _ (hZ _ h1)]
                rfl
              · cases hz
            · split at hz
              · rename_i h01
                cases hz
                rw [put_2, gd_t ⟨h01, fun e => by cases e⟩]
                show nx _ _ _ (up (bmm M m) _ _ _, _) = _
                rw [up_ud, ← bmm_up m _ _ _ (hZ _ h1)]
                rfl
              · cases hz
            · cases hz
          · cases h
        · cases h
      · cases h
    · cases h
  · split at h
    · split at h
      · rename_i ci k hfl
        split at h
        · rename_i hh
          obtain ⟨rfl, h1, h2, h3⟩ := hh
          cases h
          rw [sI_getfield, gd_t rfl, r1_s, hfl]
          show gd _ _ = _
          rw [gd_t (show shp (cB m L (M, t)) _ = (0, ci) from (bsh_s h1).trans h2), fvl_s, if_pos h3]
          show nx (pc + 3) ls (.inr (.inr (bmm M m _ _)) :: _) _ = _
          rw [bmm_rd m _ (hZ _ h1)]
          rfl
        · cases h
      · cases h
    · cases h
  · split at h
    · split at h
      · rename_i hh
        obtain ⟨rfl, h1, h2, h3, h4⟩ := hh
        cases h
        rw [sI_iastore, gd_t rfl, vir_s]
        show gd _ _ = _
        rw [gd_t (by rw [cB, bsh_s h1]; exact ⟨h1, h2, h3, h4⟩)]
        show nx _ _ _ (up (bmm M m) _ _ _, _) = _
        rw [up_ud, ← bmm_up m _ _ _ (hZ _ h1)]
        rfl
      · cases h
    · cases h
  · split at h
    · split at h
      · rename_i hh
        obtain ⟨rfl, h1, h2, h3, h4, h5, h6, h7⟩ := hh
        cases h
        rw [sI_aastore, gd_t rfl, vir_s]
        show gd _ _ = _
        rw [gd_t (by rw [cB, bsh_s h1, bsh_s h6]; exact ⟨h1, h2, h3, h4, h5, h6, h7, fun e => by cases e⟩)]
        show nx _ _ _ (up (bmm M m) _ _ _, _) = _
        rw [up_ud, ← bmm_up m _ _ _ (hZ _ h1)]
        rfl
      · cases h
    · cases h
  · split at h
    · rename_i h5
      split at h
      · split at h
        · rename_i hh
          obtain ⟨rfl, h1, h2, h3⟩ := hh
          cases h
          rw [sI_invokespecial, gd_t rfl, if_pos h5, r1_s, gd_t (by rw [cB, bsh_s h1]; exact ⟨h2, h1, h3⟩)]
          rfl
        · cases h
      · cases h
    · rename_i h5
      split at h
      · rename_i kd μ' na cls ml hi
        split at h
        · rename_i as o1 r hp
          split at h
          · rename_i hh
            obtain ⟨hk, rfl, h1, h2, h3, h4⟩ := hh
            cases h
            rw [sI_invokespecial, gd_t rfl, if_neg h5, hi]
            show gd (kd = 2 ∨ kd = 3) _ = _
            rw [gd_t hk]
            rcases hk with rfl | rfl
            · unfold cal
              rw [hp]
              show gd _ _ = _
              rw [gd_t ⟨(bsh_s h1).trans h2, h3, h4⟩]
              rfl
            · unfold cal
              rw [hp]
              show gd _ _ = _
              rw [gd_t ⟨(bsh_s h1).trans h2, h3, h4⟩]
              rfl
          · cases h
        · cases h
      · cases h
  · cases h
theorem bI_s {m : PM} {L μ len pc : Nat} {ls : PL} {st : List PV} {M : BM} {t : Nat} {o : BO} (hZ : ∀ a : Int, 0 ≤ a → m a = zf) (i : ClassFile.Instr) (h : bI μ i len pc ls st M t = some o) : stepI μ i len pc ls st (cB m L (M, t)) = some (cO m L o) := by
  unfold bI at h
  split at h
  · rename_i hk
    split at h
    · rename_i c hc
      cases h
      exact ps_of i hk hc
    · rename_i hc
      cases h
      exact ps_of i hk hc
    · cases h
  · exact bJ_s hZ i h
def bstep (μ : Nat) (c : BC) : Option BO := match ClassFile.decode (mB μ) c.1 with
  | .ok (i, len) => bI μ i len c.1 c.2.1 c.2.2.1 c.2.2.2.1 c.2.2.2.2
  | .error _ => none
def brun (cl : Nat → List PV → BM → Nat → Option (BM × Nat)) (μ : Nat) : Nat → BC → Option (BM × Nat)
  | 0, _ => none
  | n + 1, c => match bstep μ c with
    | none => none
    | some (.inl c') => brun cl μ n c'
    | some (.inr (.inl _)) => some c.2.2.2
    | some (.inr (.inr q)) => match cl q.1 q.2.1 q.2.2.2.2.2.1 q.2.2.2.2.2.2 with
      | some w => brun cl μ n (q.2.2.1, (q.2.2.2.1, (q.2.2.2.2.1, w)))
      | none => none
def bex (N : Nat) : Nat → Nat → List PV → BM → Nat → Option (BM × Nat)
  | 0 => fun _ _ _ _ => none
  | d + 1 => fun μ a M t => brun (bex N d) μ N (0, (eL a (mL μ), ([], (M, t))))
def bpre (cl : Nat → List PV → BM → Nat → Option (BM × Nat)) (μ : Nat) : Nat → BC → Option BC
  | 0, c => some c
  | n + 1, c => match bstep μ c with
    | none => none
    | some (.inl c') => bpre cl μ n c'
    | some (.inr (.inl _)) => none
    | some (.inr (.inr q)) => match cl q.1 q.2.1 q.2.2.2.2.2.1 q.2.2.2.2.2.2 with
      | some w => bpre cl μ n (q.2.2.1, (q.2.2.2.1, (q.2.2.2.2.1, w)))
      | none => none
theorem bstep_s {m : PM} {L μ : Nat} {o : BO} (hZ : ∀ a : Int, 0 ≤ a → m a = zf) (c : BC) (h : bstep μ c = some o) : step μ (cC m L c) = some (cO m L o) := by
  unfold bstep at h
  unfold step
  split at h
  · rename_i i len hd
    show (match ClassFile.decode (mB μ) c.1 with | .ok (i, len) => stepI μ i len c.1 c.2.1 c.2.2.1 (cB m L c.2.2.2) | .error _ => none) = _
    rw [hd]
    exact bI_s hZ i h
  · cases h
def bOK (m : PM) (L : Nat) (bl : Nat → List PV → BM → Nat → Option (BM × Nat)) (cl : Nat → List PV → PS → Option (Option PV × PS)) : Prop := ∀ μ a M t w, bl μ a M t = some w → cl μ a (cB m L (M, t)) = some (none, cB m L w)
theorem brun_s {m : PM} {L μ : Nat} {bl : Nat → List PV → BM → Nat → Option (BM × Nat)} {cl : Nat → List PV → PS → Option (Option PV × PS)} (hZ : ∀ a : Int, 0 ≤ a → m a = zf) (hcl : bOK m L bl cl) : ∀ (n : Nat) (c : BC) (w : BM × Nat), brun bl μ n c = some w → run cl μ n (cC m L c) = some (none, cB m L w) := by
  intro n
  induction n with
  | zero => intro c w h; cases h
  | succ n ih =>
    intro c w h
    simp only [brun] at h
    simp only [run]
    split at h
    · cases h
    · rename_i c' hs
      rw [bstep_s (m := m) (L := L) hZ c hs]
      exact ih c' w h
    · rename_i u hs
      rw [bstep_s (m := m) (L := L) hZ c hs]
      cases h
      rfl
    · rename_i q hs
      rw [bstep_s (m := m) (L := L) hZ c hs]
      split at h
      · rename_i w1 hw
        have := hcl _ _ _ _ _ hw
        show (match cl q.1 q.2.1 (cB m L (q.2.2.2.2.2.1, q.2.2.2.2.2.2)) with
          | some w => run cl μ n (q.2.2.1, (q.2.2.2.1, (psh w.1 q.2.2.2.2.1, w.2)))
          | none => none) = _
        rw [this]
        exact ih _ w h
      · cases h
theorem bpre_s {m : PM} {L μ : Nat} {bl : Nat → List PV → BM → Nat → Option (BM × Nat)} {cl : Nat → List PV → PS → Option (Option PV × PS)} (hZ : ∀ a : Int, 0 ≤ a → m a = zf) (hcl : bOK m L bl cl) : ∀ (n : Nat) (c w : BC), bpre bl μ n c = some w → pre cl μ n (cC m L c) = some (cC m L w) := by
  intro n
  induction n with
  | zero => intro c w h; cases h; rfl
  | succ n ih =>
    intro c w h
    simp only [bpre] at h
    simp only [pre]
    split at h
    · cases h
    · rename_i c' hs
      rw [bstep_s (m := m) (L := L) hZ c hs]
      exact ih c' w h
    · cases h
    · rename_i q hs
      rw [bstep_s (m := m) (L := L) hZ c hs]
      split at h
      · rename_i w1 hw
        have := hcl _ _ _ _ _ hw
        show (match cl q.1 q.2.1 (cB m L (q.2.2.2.2.2.1, q.2.2.2.2.2.2)) with
          | some w => pre cl μ n (q.2.2.1, (q.2.2.2.1, (psh w.1 q.2.2.2.2.1, w.2)))
          | none => none) = _
        rw [this]
        exact ih _ w h
      · cases h
theorem bex_s {m : PM} {L : Nat} (hZ : ∀ a : Int, 0 ≤ a → m a = zf) (N : Nat) : ∀ d : Nat, bOK m L (bex N d) (exM N d) := by
  intro d
  induction d with
  | zero => intro μ a M t w h; cases h
  | succ d ih => intro μ a M t w h; exact brun_s hZ ih N _ w h
