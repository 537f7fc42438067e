/-! A row an instruction: the goal behind it, what it asks, the goal at it. -/
theorem V_dec {d μ pc len : Nat} {B : ByteArray} {i : ClassFile.Instr} {ls : PL} {st : List PV} {σ : PS} {Q : Option PV → PS → Prop} (hb : mB μ = B) (hd : ClassFile.decode B pc = .ok (i, len)) (h : SP (stepI μ i len pc ls st σ) (fun c' => V d μ c' Q) (fun r => Q r σ) (fun μ' a c' => C d μ' a c'.2.2.2 (fun r σ' => V d μ (c'.1, (c'.2.1, (psh r c'.2.2.1, σ'))) Q))) : V d μ (pc, (ls, (st, σ))) Q := by
  refine V_step ?_
  show SP (match ClassFile.decode (mB μ) pc with | .ok (i, len) => stepI μ i len pc ls st σ | .error _ => none) _ _ _
  rw [hb, hd]
  exact h
theorem C_go {d k μ nl : Nat} {a : List PV} {σ : PS} {Q : Option PV → PS → Prop} (hd : k + 1 ≤ d) (hl : mL μ = nl) (h : ∀ d' : Nat, k ≤ d' → V d' μ (0, (eL a nl, ([], σ))) Q) : C d μ a σ Q := by
  obtain ⟨d', rfl⟩ : ∃ j, d = j + 1 := ⟨d - 1, by omega⟩
  rw [C_succ, hl]
  exact h d' (by omega)
def jmP (d μ pc : Nat) (off : Int) (ls : PL) (st : List PV) (σ : PS) (Q : Option PV → PS → Prop) : Prop := 0 ≤ (pc : Int) + off ∧ V d μ (((pc : Int) + off).toNat, (ls, (st, σ))) Q
theorem jm_go {d μ pc t : Nat} {off : Int} {ls : PL} {st : List PV} {σ : PS} {Q : Option PV → PS → Prop} (hz : 0 ≤ (pc : Int) + off) (ht : ((pc : Int) + off).toNat = t) (h : V d μ (t, (ls, (st, σ))) Q) : jmP d μ pc off ls st σ Q := by
  subst ht; exact ⟨hz, h⟩
def tsP (x : Int) (K : Int → Prop) (D : Prop) : Int → List Int → Prop
  | _, [] => D
  | lo, o :: os => (x = lo → K o) ∧ (¬ x = lo → tsP x K D (lo + 1) os)
theorem ts_c {x lo lo' o : Int} {K : Int → Prop} {D : Prop} {os : List Int} (hl : lo + 1 = lo') (h1 : x = lo → K o) (h2 : ¬ x = lo → tsP x K D lo' os) : tsP x K D lo (o :: os) := by
  subst hl; exact ⟨h1, h2⟩
theorem ts_n {x lo : Int} {K : Int → Prop} {D : Prop} (h : D) : tsP x K D lo [] := h
def lsP (x : Int) (K : Int → Prop) (D : Prop) : List (Int × Int) → Prop
  | [] => D
  | q :: os => (x = q.1 → K q.2) ∧ (¬ x = q.1 → lsP x K D os)
theorem lsp_c {x a o : Int} {K : Int → Prop} {D : Prop} {os : List (Int × Int)} (h1 : x = a → K o) (h2 : ¬ x = a → lsP x K D os) : lsP x K D ((a, o) :: os) := ⟨h1, h2⟩
theorem lsp_n {x : Int} {K : Int → Prop} {D : Prop} (h : D) : lsP x K D [] := h
theorem ts_SP {x : Int} {d μ pc : Nat} {dflt : Int} {ls : PL} {st : List PV} {σ : PS} {Q : Option PV → PS → Prop} {R : Option PV → Prop} {G : Nat → List PV → Cf → Prop} : ∀ (os : List Int) (lo : Int), tsP x (fun off => jmP d μ pc off ls st σ Q) (jmP d μ pc dflt ls st σ Q) lo os → SP (tsw x (fun off => jmp pc off ls st σ) (jmp pc dflt ls st σ) lo os) (fun c' => V d μ c' Q) R G := by
  intro os
  induction os with
  | nil => intro lo h; show SP (jmp pc dflt ls st σ) _ _ _; unfold jmp; rw [SP_gd]; exact h
  | cons o os ih =>
    intro lo h
    show SP (if x = lo then jmp pc o ls st σ else tsw x (fun off => jmp pc off ls st σ) (jmp pc dflt ls st σ) (lo + 1) os) _ _ _
    by_cases hx : x = lo
    · rw [if_pos hx]; unfold jmp; rw [SP_gd]; exact h.1 hx
    · rw [if_neg hx]; exact ih _ (h.2 hx)
theorem ls_SP {x : Int} {d μ pc : Nat} {dflt : Int} {ls : PL} {st : List PV} {σ : PS} {Q : Option PV → PS → Prop} {R : Option PV → Prop} {G : Nat → List PV → Cf → Prop} : ∀ (os : List (Int × Int)), lsP x (fun off => jmP d μ pc off ls st σ Q) (jmP d μ pc dflt ls st σ Q) os → SP (lsw x (fun off => jmp pc off ls st σ) (jmp pc dflt ls st σ) os) (fun c' => V d μ c' Q) R G := by
  intro os
  induction os with
  | nil => intro h; show SP (jmp pc dflt ls st σ) _ _ _; unfold jmp; rw [SP_gd]; exact h
  | cons o os ih =>
    intro h
    show SP (if x = o.1 then jmp pc o.2 ls st σ else lsw x (fun off => jmp pc off ls st σ) (jmp pc dflt ls st σ) os) _ _ _
    by_cases hx : x = o.1
    · rw [if_pos hx]; unfold jmp; rw [SP_gd]; exact h.1 hx
    · rw [if_neg hx]; exact ih (h.2 hx)
theorem v_iload_n {d μ pc n : Nat} {B : ByteArray} {ls : PL} {st : List PV} {σ : PS} {Q : Option PV → PS → Prop} {k : Fin 4} {v : Int} (hb : mB μ = B) (hd : ClassFile.decode B pc = .ok (.iload_n k, 1)) (hl : ls[k.val]? = some (some (.inl v))) (hn : pc + 1 = n) (h : V d μ (n, (ls, (.inl v :: st, σ))) Q) : V d μ (pc, (ls, (st, σ))) Q := by
  subst hn
  refine V_dec hb hd ?_
  rw [sI_iload_n, hl, SP_gd]
  exact ⟨rfl, by rw [ldx_s, SP_gd]; exact ⟨rfl, h⟩⟩
theorem v_lload_n {d μ pc n : Nat} {B : ByteArray} {ls : PL} {st : List PV} {σ : PS} {Q : Option PV → PS → Prop} {k : Fin 4} {v : Int} (hb : mB μ = B) (hd : ClassFile.decode B pc = .ok (.lload_n k, 1)) (hl : ls[k.val]? = some (some (.inr (.inl v)))) (hn : pc + 1 = n) (h : V d μ (n, (ls, (.inr (.inl v) :: st, σ))) Q) : V d μ (pc, (ls, (st, σ))) Q := by
  subst hn
  refine V_dec hb hd ?_
  rw [sI_lload_n, hl, SP_gd]
  exact ⟨rfl, by rw [ldx_s, SP_gd]; exact ⟨rfl, h⟩⟩
theorem v_aload_n {d μ pc n : Nat} {B : ByteArray} {ls : PL} {st : List PV} {σ : PS} {Q : Option PV → PS → Prop} {k : Fin 4} {v : Int} (hb : mB μ = B) (hd : ClassFile.decode B pc = .ok (.aload_n k, 1)) (hl : ls[k.val]? = some (some (.inr (.inr v)))) (hn : pc + 1 = n) (h : V d μ (n, (ls, (.inr (.inr v) :: st, σ))) Q) : V d μ (pc, (ls, (st, σ))) Q := by
  subst hn
  refine V_dec hb hd ?_
  rw [sI_aload_n, hl, SP_gd]
  exact ⟨rfl, by rw [ldx_s, SP_gd]; exact ⟨rfl, h⟩⟩
theorem v_iload {d μ pc n : Nat} {B : ByteArray} {ls : PL} {st : List PV} {σ : PS} {Q : Option PV → PS → Prop} {k : Nat} {v : Int} (hb : mB μ = B) (hd : ClassFile.decode B pc = .ok (.iload k, 2)) (hl : ls[k]? = some (some (.inl v))) (hn : pc + 2 = n) (h : V d μ (n, (ls, (.inl v :: st, σ))) Q) : V d μ (pc, (ls, (st, σ))) Q := by
  subst hn
  refine V_dec hb hd ?_
  rw [sI_iload, hl, SP_gd]
  exact ⟨rfl, by rw [ldx_s, SP_gd]; exact ⟨rfl, h⟩⟩
theorem v_aload {d μ pc n : Nat} {B : ByteArray} {ls : PL} {st : List PV} {σ : PS} {Q : Option PV → PS → Prop} {k : Nat} {v : Int} (hb : mB μ = B) (hd : ClassFile.decode B pc = .ok (.aload k, 2)) (hl : ls[k]? = some (some (.inr (.inr v)))) (hn : pc + 2 = n) (h : V d μ (n, (ls, (.inr (.inr v) :: st, σ))) Q) : V d μ (pc, (ls, (st, σ))) Q := by
  subst hn
  refine V_dec hb hd ?_
  rw [sI_aload, hl, SP_gd]
  exact ⟨rfl, by rw [ldx_s, SP_gd]; exact ⟨rfl, h⟩⟩
theorem v_iconst {d μ pc n : Nat} {B : ByteArray} {ls : PL} {st : List PV} {σ : PS} {Q : Option PV → PS → Prop} {z : Int} (hb : mB μ = B) (hd : ClassFile.decode B pc = .ok (.iconst z, 1)) (hz : -1 ≤ z ∧ z ≤ 5) (hn : pc + 1 = n) (h : V d μ (n, (ls, (.inl z :: st, σ))) Q) : V d μ (pc, (ls, (st, σ))) Q := by
  subst hn
  refine V_dec hb hd ?_
  rw [sI_iconst, SP_gd]
  exact ⟨⟨rfl, hz⟩, h⟩
theorem v_bipush {d μ pc n : Nat} {B : ByteArray} {ls : PL} {st : List PV} {σ : PS} {Q : Option PV → PS → Prop} {z : Int} (hb : mB μ = B) (hd : ClassFile.decode B pc = .ok (.bipush z, 2)) (hz : -128 ≤ z ∧ z < 128) (hn : pc + 2 = n) (h : V d μ (n, (ls, (.inl z :: st, σ))) Q) : V d μ (pc, (ls, (st, σ))) Q := by
  subst hn
  refine V_dec hb hd ?_
  rw [sI_bipush, SP_gd]
  exact ⟨⟨rfl, hz⟩, h⟩
theorem v_sipush {d μ pc n : Nat} {B : ByteArray} {ls : PL} {st : List PV} {σ : PS} {Q : Option PV → PS → Prop} {z : Int} (hb : mB μ = B) (hd : ClassFile.decode B pc = .ok (.sipush z, 3)) (hz : -32768 ≤ z ∧ z < 32768) (hn : pc + 3 = n) (h : V d μ (n, (ls, (.inl z :: st, σ))) Q) : V d μ (pc, (ls, (st, σ))) Q := by
  subst hn
  refine V_dec hb hd ?_
  rw [sI_sipush, SP_gd]
  exact ⟨⟨rfl, hz⟩, h⟩
theorem v_ldc_i {d μ pc n : Nat} {B : ByteArray} {ls : PL} {st : List PV} {σ : PS} {Q : Option PV → PS → Prop} {idx ow : Nat} {z : Int} (hb : mB μ = B) (hd : ClassFile.decode B pc = .ok (.ldc idx, 2)) (ho : mO μ = ow) (hr : lct ow idx = some (0, z)) (hn : pc + 2 = n) (h : V d μ (n, (ls, (.inl z :: st, σ))) Q) : V d μ (pc, (ls, (st, σ))) Q := by
  subst hn
  refine V_dec hb hd ?_
  rw [sI_ldc, SP_gd, ho, hr]
  exact ⟨rfl, h⟩
theorem v_ldc_r {d μ pc n : Nat} {B : ByteArray} {ls : PL} {st : List PV} {σ : PS} {Q : Option PV → PS → Prop} {idx ow : Nat} {z : Int} (hb : mB μ = B) (hd : ClassFile.decode B pc = .ok (.ldc idx, 2)) (ho : mO μ = ow) (hr : lct ow idx = some (1, z)) (hn : pc + 2 = n) (h : V d μ (n, (ls, (.inr (.inr z) :: st, σ))) Q) : V d μ (pc, (ls, (st, σ))) Q := by
  subst hn
  refine V_dec hb hd ?_
  rw [sI_ldc, SP_gd, ho, hr]
  exact ⟨rfl, h⟩
theorem v_ldc2 {d μ pc n : Nat} {B : ByteArray} {ls : PL} {st : List PV} {σ : PS} {Q : Option PV → PS → Prop} {idx ow : Nat} {z : Int} (hb : mB μ = B) (hd : ClassFile.decode B pc = .ok (.ldc2_w idx, 3)) (ho : mO μ = ow) (hr : l2t ow idx = some z) (hn : pc + 3 = n) (h : V d μ (n, (ls, (.inr (.inl z) :: st, σ))) Q) : V d μ (pc, (ls, (st, σ))) Q := by
  subst hn
  refine V_dec hb hd ?_
  rw [sI_ldc2_w, SP_gd, ho, hr]
  exact ⟨rfl, h⟩
theorem v_lconst_0 {d μ pc n : Nat} {B : ByteArray} {ls : PL} {st : List PV} {σ : PS} {Q : Option PV → PS → Prop}  (hb : mB μ = B) (hd : ClassFile.decode B pc = .ok (.lconst 0, 1)) (hn : pc + 1 = n) (h : V d μ (n, (ls, (.inr (.inl 0) :: st, σ))) Q) : V d μ (pc, (ls, (st, σ))) Q := by
  subst hn
  refine V_dec hb hd ?_
  rw [sI_lconst, SP_gd]
  exact ⟨rfl, h⟩
theorem v_lconst_1 {d μ pc n : Nat} {B : ByteArray} {ls : PL} {st : List PV} {σ : PS} {Q : Option PV → PS → Prop}  (hb : mB μ = B) (hd : ClassFile.decode B pc = .ok (.lconst 1, 1)) (hn : pc + 1 = n) (h : V d μ (n, (ls, (.inr (.inl 1) :: st, σ))) Q) : V d μ (pc, (ls, (st, σ))) Q := by
  subst hn
  refine V_dec hb hd ?_
  rw [sI_lconst, SP_gd]
  exact ⟨rfl, h⟩
theorem v_istore_n0 {d μ pc n : Nat} {B : ByteArray} {st : List PV} {σ : PS} {Q : Option PV → PS → Prop} {y : Option PV} {r : PL} {v : Int} (hb : mB μ = B) (hd : ClassFile.decode B pc = .ok (.istore_n 0, 1)) (hp : pok (y :: r) 0 = true) (hn : pc + 1 = n) (h : V d μ (n, ((some (.inl v) :: r), (st, σ))) Q) : V d μ (pc, ((y :: r), (.inl v :: st, σ))) Q := by
  subst hn
  refine V_dec hb hd ?_
  rw [sI_istore_n, SP_gd, stx_s, SP_gd]
  exact ⟨rfl, ⟨rfl, by simp only [List.length_cons]; omega, hp⟩, h⟩
theorem v_istore0 {d μ pc n : Nat} {B : ByteArray} {st : List PV} {σ : PS} {Q : Option PV → PS → Prop} {y : Option PV} {r : PL} {v : Int} (hb : mB μ = B) (hd : ClassFile.decode B pc = .ok (.istore 0, 2)) (hp : pok (y :: r) 0 = true) (hn : pc + 2 = n) (h : V d μ (n, ((some (.inl v) :: r), (st, σ))) Q) : V d μ (pc, ((y :: r), (.inl v :: st, σ))) Q := by
  subst hn
  refine V_dec hb hd ?_
  rw [sI_istore, SP_gd, stx_s, SP_gd]
  exact ⟨rfl, ⟨rfl, by simp only [List.length_cons]; omega, hp⟩, h⟩
theorem v_istore_n1 {d μ pc n : Nat} {B : ByteArray} {st : List PV} {σ : PS} {Q : Option PV → PS → Prop} {x0 y : Option PV} {r : PL} {v : Int} (hb : mB μ = B) (hd : ClassFile.decode B pc = .ok (.istore_n 1, 1)) (hp : pok (x0 :: y :: r) 1 = true) (hn : pc + 1 = n) (h : V d μ (n, ((x0 :: some (.inl v) :: r), (st, σ))) Q) : V d μ (pc, ((x0 :: y :: r), (.inl v :: st, σ))) Q := by
  subst hn
  refine V_dec hb hd ?_
  rw [sI_istore_n, SP_gd, stx_s, SP_gd]
  exact ⟨rfl, ⟨rfl, by simp only [List.length_cons]; omega, hp⟩, h⟩
theorem v_istore1 {d μ pc n : Nat} {B : ByteArray} {st : List PV} {σ : PS} {Q : Option PV → PS → Prop} {x0 y : Option PV} {r : PL} {v : Int} (hb : mB μ = B) (hd : ClassFile.decode B pc = .ok (.istore 1, 2)) (hp : pok (x0 :: y :: r) 1 = true) (hn : pc + 2 = n) (h : V d μ (n, ((x0 :: some (.inl v) :: r), (st, σ))) Q) : V d μ (pc, ((x0 :: y :: r), (.inl v :: st, σ))) Q := by
  subst hn
  refine V_dec hb hd ?_
  rw [sI_istore, SP_gd, stx_s, SP_gd]
  exact ⟨rfl, ⟨rfl, by simp only [List.length_cons]; omega, hp⟩, h⟩
theorem v_istore_n2 {d μ pc n : Nat} {B : ByteArray} {st : List PV} {σ : PS} {Q : Option PV → PS → Prop} {x0 x1 y : Option PV} {r : PL} {v : Int} (hb : mB μ = B) (hd : ClassFile.decode B pc = .ok (.istore_n 2, 1)) (hp : pok (x0 :: x1 :: y :: r) 2 = true) (hn : pc + 1 = n) (h : V d μ (n, ((x0 :: x1 :: some (.inl v) :: r), (st, σ))) Q) : V d μ (pc, ((x0 :: x1 :: y :: r), (.inl v :: st, σ))) Q := by
  subst hn
  refine V_dec hb hd ?_
  rw [sI_istore_n, SP_gd, stx_s, SP_gd]
  exact ⟨rfl, ⟨rfl, by simp only [List.length_cons]; omega, hp⟩, h⟩
theorem v_istore2 {d μ pc n : Nat} {B : ByteArray} {st : List PV} {σ : PS} {Q : Option PV → PS → Prop} {x0 x1 y : Option PV} {r : PL} {v : Int} (hb : mB μ = B) (hd : ClassFile.decode B pc = .ok (.istore 2, 2)) (hp : pok (x0 :: x1 :: y :: r) 2 = true) (hn : pc + 2 = n) (h : V d μ (n, ((x0 :: x1 :: some (.inl v) :: r), (st, σ))) Q) : V d μ (pc, ((x0 :: x1 :: y :: r), (.inl v :: st, σ))) Q := by
  subst hn
  refine V_dec hb hd ?_
  rw [sI_istore, SP_gd, stx_s, SP_gd]
  exact ⟨rfl, ⟨rfl, by simp only [List.length_cons]; omega, hp⟩, h⟩
theorem v_istore_n3 {d μ pc n : Nat} {B : ByteArray} {st : List PV} {σ : PS} {Q : Option PV → PS → Prop} {x0 x1 x2 y : Option PV} {r : PL} {v : Int} (hb : mB μ = B) (hd : ClassFile.decode B pc = .ok (.istore_n 3, 1)) (hp : pok (x0 :: x1 :: x2 :: y :: r) 3 = true) (hn : pc + 1 = n) (h : V d μ (n, ((x0 :: x1 :: x2 :: some (.inl v) :: r), (st, σ))) Q) : V d μ (pc, ((x0 :: x1 :: x2 :: y :: r), (.inl v :: st, σ))) Q := by
  subst hn
  refine V_dec hb hd ?_
  rw [sI_istore_n, SP_gd, stx_s, SP_gd]
  exact ⟨rfl, ⟨rfl, by simp only [List.length_cons]; omega, hp⟩, h⟩
theorem v_istore3 {d μ pc n : Nat} {B : ByteArray} {st : List PV} {σ : PS} {Q : Option PV → PS → Prop} {x0 x1 x2 y : Option PV} {r : PL} {v : Int} (hb : mB μ = B) (hd : ClassFile.decode B pc = .ok (.istore 3, 2)) (hp : pok (x0 :: x1 :: x2 :: y :: r) 3 = true) (hn : pc + 2 = n) (h : V d μ (n, ((x0 :: x1 :: x2 :: some (.inl v) :: r), (st, σ))) Q) : V d μ (pc, ((x0 :: x1 :: x2 :: y :: r), (.inl v :: st, σ))) Q := by
  subst hn
  refine V_dec hb hd ?_
  rw [sI_istore, SP_gd, stx_s, SP_gd]
  exact ⟨rfl, ⟨rfl, by simp only [List.length_cons]; omega, hp⟩, h⟩
theorem v_istore4 {d μ pc n : Nat} {B : ByteArray} {st : List PV} {σ : PS} {Q : Option PV → PS → Prop} {x0 x1 x2 x3 y : Option PV} {r : PL} {v : Int} (hb : mB μ = B) (hd : ClassFile.decode B pc = .ok (.istore 4, 2)) (hp : pok (x0 :: x1 :: x2 :: x3 :: y :: r) 4 = true) (hn : pc + 2 = n) (h : V d μ (n, ((x0 :: x1 :: x2 :: x3 :: some (.inl v) :: r), (st, σ))) Q) : V d μ (pc, ((x0 :: x1 :: x2 :: x3 :: y :: r), (.inl v :: st, σ))) Q := by
  subst hn
  refine V_dec hb hd ?_
  rw [sI_istore, SP_gd, stx_s, SP_gd]
  exact ⟨rfl, ⟨rfl, by simp only [List.length_cons]; omega, hp⟩, h⟩
theorem v_istore5 {d μ pc n : Nat} {B : ByteArray} {st : List PV} {σ : PS} {Q : Option PV → PS → Prop} {x0 x1 x2 x3 x4 y : Option PV} {r : PL} {v : Int} (hb : mB μ = B) (hd : ClassFile.decode B pc = .ok (.istore 5, 2)) (hp : pok (x0 :: x1 :: x2 :: x3 :: x4 :: y :: r) 5 = true) (hn : pc + 2 = n) (h : V d μ (n, ((x0 :: x1 :: x2 :: x3 :: x4 :: some (.inl v) :: r), (st, σ))) Q) : V d μ (pc, ((x0 :: x1 :: x2 :: x3 :: x4 :: y :: r), (.inl v :: st, σ))) Q := by
  subst hn
  refine V_dec hb hd ?_
  rw [sI_istore, SP_gd, stx_s, SP_gd]
  exact ⟨rfl, ⟨rfl, by simp only [List.length_cons]; omega, hp⟩, h⟩
theorem v_istore6 {d μ pc n : Nat} {B : ByteArray} {st : List PV} {σ : PS} {Q : Option PV → PS → Prop} {x0 x1 x2 x3 x4 x5 y : Option PV} {r : PL} {v : Int} (hb : mB μ = B) (hd : ClassFile.decode B pc = .ok (.istore 6, 2)) (hp : pok (x0 :: x1 :: x2 :: x3 :: x4 :: x5 :: y :: r) 6 = true) (hn : pc + 2 = n) (h : V d μ (n, ((x0 :: x1 :: x2 :: x3 :: x4 :: x5 :: some (.inl v) :: r), (st, σ))) Q) : V d μ (pc, ((x0 :: x1 :: x2 :: x3 :: x4 :: x5 :: y :: r), (.inl v :: st, σ))) Q := by
  subst hn
  refine V_dec hb hd ?_
  rw [sI_istore, SP_gd, stx_s, SP_gd]
  exact ⟨rfl, ⟨rfl, by simp only [List.length_cons]; omega, hp⟩, h⟩
theorem v_istore7 {d μ pc n : Nat} {B : ByteArray} {st : List PV} {σ : PS} {Q : Option PV → PS → Prop} {x0 x1 x2 x3 x4 x5 x6 y : Option PV} {r : PL} {v : Int} (hb : mB μ = B) (hd : ClassFile.decode B pc = .ok (.istore 7, 2)) (hp : pok (x0 :: x1 :: x2 :: x3 :: x4 :: x5 :: x6 :: y :: r) 7 = true) (hn : pc + 2 = n) (h : V d μ (n, ((x0 :: x1 :: x2 :: x3 :: x4 :: x5 :: x6 :: some (.inl v) :: r), (st, σ))) Q) : V d μ (pc, ((x0 :: x1 :: x2 :: x3 :: x4 :: x5 :: x6 :: y :: r), (.inl v :: st, σ))) Q := by
  subst hn
  refine V_dec hb hd ?_
  rw [sI_istore, SP_gd, stx_s, SP_gd]
  exact ⟨rfl, ⟨rfl, by simp only [List.length_cons]; omega, hp⟩, h⟩
theorem v_istore8 {d μ pc n : Nat} {B : ByteArray} {st : List PV} {σ : PS} {Q : Option PV → PS → Prop} {x0 x1 x2 x3 x4 x5 x6 x7 y : Option PV} {r : PL} {v : Int} (hb : mB μ = B) (hd : ClassFile.decode B pc = .ok (.istore 8, 2)) (hp : pok (x0 :: x1 :: x2 :: x3 :: x4 :: x5 :: x6 :: x7 :: y :: r) 8 = true) (hn : pc + 2 = n) (h : V d μ (n, ((x0 :: x1 :: x2 :: x3 :: x4 :: x5 :: x6 :: x7 :: some (.inl v) :: r), (st, σ))) Q) : V d μ (pc, ((x0 :: x1 :: x2 :: x3 :: x4 :: x5 :: x6 :: x7 :: y :: r), (.inl v :: st, σ))) Q := by
  subst hn
  refine V_dec hb hd ?_
  rw [sI_istore, SP_gd, stx_s, SP_gd]
  exact ⟨rfl, ⟨rfl, by simp only [List.length_cons]; omega, hp⟩, h⟩
theorem v_istore9 {d μ pc n : Nat} {B : ByteArray} {st : List PV} {σ : PS} {Q : Option PV → PS → Prop} {x0 x1 x2 x3 x4 x5 x6 x7 x8 y : Option PV} {r : PL} {v : Int} (hb : mB μ = B) (hd : ClassFile.decode B pc = .ok (.istore 9, 2)) (hp : pok (x0 :: x1 :: x2 :: x3 :: x4 :: x5 :: x6 :: x7 :: x8 :: y :: r) 9 = true) (hn : pc + 2 = n) (h : V d μ (n, ((x0 :: x1 :: x2 :: x3 :: x4 :: x5 :: x6 :: x7 :: x8 :: some (.inl v) :: r), (st, σ))) Q) : V d μ (pc, ((x0 :: x1 :: x2 :: x3 :: x4 :: x5 :: x6 :: x7 :: x8 :: y :: r), (.inl v :: st, σ))) Q := by
  subst hn
  refine V_dec hb hd ?_
  rw [sI_istore, SP_gd, stx_s, SP_gd]
  exact ⟨rfl, ⟨rfl, by simp only [List.length_cons]; omega, hp⟩, h⟩
theorem v_istore10 {d μ pc n : Nat} {B : ByteArray} {st : List PV} {σ : PS} {Q : Option PV → PS → Prop} {x0 x1 x2 x3 x4 x5 x6 x7 x8 x9 y : Option PV} {r : PL} {v : Int} (hb : mB μ = B) (hd : ClassFile.decode B pc = .ok (.istore 10, 2)) (hp : pok (x0 :: x1 :: x2 :: x3 :: x4 :: x5 :: x6 :: x7 :: x8 :: x9 :: y :: r) 10 = true) (hn : pc + 2 = n) (h : V d μ (n, ((x0 :: x1 :: x2 :: x3 :: x4 :: x5 :: x6 :: x7 :: x8 :: x9 :: some (.inl v) :: r), (st, σ))) Q) : V d μ (pc, ((x0 :: x1 :: x2 :: x3 :: x4 :: x5 :: x6 :: x7 :: x8 :: x9 :: y :: r), (.inl v :: st, σ))) Q := by
  subst hn
  refine V_dec hb hd ?_
  rw [sI_istore, SP_gd, stx_s, SP_gd]
  exact ⟨rfl, ⟨rfl, by simp only [List.length_cons]; omega, hp⟩, h⟩
theorem v_istore11 {d μ pc n : Nat} {B : ByteArray} {st : List PV} {σ : PS} {Q : Option PV → PS → Prop} {x0 x1 x2 x3 x4 x5 x6 x7 x8 x9 x10 y : Option PV} {r : PL} {v : Int} (hb : mB μ = B) (hd : ClassFile.decode B pc = .ok (.istore 11, 2)) (hp : pok (x0 :: x1 :: x2 :: x3 :: x4 :: x5 :: x6 :: x7 :: x8 :: x9 :: x10 :: y :: r) 11 = true) (hn : pc + 2 = n) (h : V d μ (n, ((x0 :: x1 :: x2 :: x3 :: x4 :: x5 :: x6 :: x7 :: x8 :: x9 :: x10 :: some (.inl v) :: r), (st, σ))) Q) : V d μ (pc, ((x0 :: x1 :: x2 :: x3 :: x4 :: x5 :: x6 :: x7 :: x8 :: x9 :: x10 :: y :: r), (.inl v :: st, σ))) Q := by
  subst hn
  refine V_dec hb hd ?_
  rw [sI_istore, SP_gd, stx_s, SP_gd]
  exact ⟨rfl, ⟨rfl, by simp only [List.length_cons]; omega, hp⟩, h⟩
theorem v_astore_n0 {d μ pc n : Nat} {B : ByteArray} {st : List PV} {σ : PS} {Q : Option PV → PS → Prop} {y : Option PV} {r : PL} {v : Int} (hb : mB μ = B) (hd : ClassFile.decode B pc = .ok (.astore_n 0, 1)) (hp : pok (y :: r) 0 = true) (hn : pc + 1 = n) (h : V d μ (n, ((some (.inr (.inr v)) :: r), (st, σ))) Q) : V d μ (pc, ((y :: r), (.inr (.inr v) :: st, σ))) Q := by
  subst hn
  refine V_dec hb hd ?_
  rw [sI_astore_n, SP_gd, stx_s, SP_gd]
  exact ⟨rfl, ⟨rfl, by simp only [List.length_cons]; omega, hp⟩, h⟩
theorem v_astore0 {d μ pc n : Nat} {B : ByteArray} {st : List PV} {σ : PS} {Q : Option PV → PS → Prop} {y : Option PV} {r : PL} {v : Int} (hb : mB μ = B) (hd : ClassFile.decode B pc = .ok (.astore 0, 2)) (hp : pok (y :: r) 0 = true) (hn : pc + 2 = n) (h : V d μ (n, ((some (.inr (.inr v)) :: r), (st, σ))) Q) : V d μ (pc, ((y :: r), (.inr (.inr v) :: st, σ))) Q := by
  subst hn
  refine V_dec hb hd ?_
  rw [sI_astore, SP_gd, stx_s, SP_gd]
  exact ⟨rfl, ⟨rfl, by simp only [List.length_cons]; omega, hp⟩, h⟩
theorem v_astore_n1 {d μ pc n : Nat} {B : ByteArray} {st : List PV} {σ : PS} {Q : Option PV → PS → Prop} {x0 y : Option PV} {r : PL} {v : Int} (hb : mB μ = B) (hd : ClassFile.decode B pc = .ok (.astore_n 1, 1)) (hp : pok (x0 :: y :: r) 1 = true) (hn : pc + 1 = n) (h : V d μ (n, ((x0 :: some (.inr (.inr v)) :: r), (st, σ))) Q) : V d μ (pc, ((x0 :: y :: r), (.inr (.inr v) :: st, σ))) Q := by
  subst hn
  refine V_dec hb hd ?_
  rw [sI_astore_n, SP_gd, stx_s, SP_gd]
  exact ⟨rfl, ⟨rfl, by simp only [List.length_cons]; omega, hp⟩, h⟩
theorem v_astore1 {d μ pc n : Nat} {B : ByteArray} {st : List PV} {σ : PS} {Q : Option PV → PS → Prop} {x0 y : Option PV} {r : PL} {v : Int} (hb : mB μ = B) (hd : ClassFile.decode B pc = .ok (.astore 1, 2)) (hp : pok (x0 :: y :: r) 1 = true) (hn : pc + 2 = n) (h : V d μ (n, ((x0 :: some (.inr (.inr v)) :: r), (st, σ))) Q) : V d μ (pc, ((x0 :: y :: r), (.inr (.inr v) :: st, σ))) Q := by
  subst hn
  refine V_dec hb hd ?_
  rw [sI_astore, SP_gd, stx_s, SP_gd]
  exact ⟨rfl, ⟨rfl, by simp only [List.length_cons]; omega, hp⟩, h⟩
theorem v_astore_n2 {d μ pc n : Nat} {B : ByteArray} {st : List PV} {σ : PS} {Q : Option PV → PS → Prop} {x0 x1 y : Option PV} {r : PL} {v : Int} (hb : mB μ = B) (hd : ClassFile.decode B pc = .ok (.astore_n 2, 1)) (hp : pok (x0 :: x1 :: y :: r) 2 = true) (hn : pc + 1 = n) (h : V d μ (n, ((x0 :: x1 :: some (.inr (.inr v)) :: r), (st, σ))) Q) : V d μ (pc, ((x0 :: x1 :: y :: r), (.inr (.inr v) :: st, σ))) Q := by
  subst hn
  refine V_dec hb hd ?_
  rw [sI_astore_n, SP_gd, stx_s, SP_gd]
  exact ⟨rfl, ⟨rfl, by simp only [List.length_cons]; omega, hp⟩, h⟩
theorem v_astore2 {d μ pc n : Nat} {B : ByteArray} {st : List PV} {σ : PS} {Q : Option PV → PS → Prop} {x0 x1 y : Option PV} {r : PL} {v : Int} (hb : mB μ = B) (hd : ClassFile.decode B pc = .ok (.astore 2, 2)) (hp : pok (x0 :: x1 :: y :: r) 2 = true) (hn : pc + 2 = n) (h : V d μ (n, ((x0 :: x1 :: some (.inr (.inr v)) :: r), (st, σ))) Q) : V d μ (pc, ((x0 :: x1 :: y :: r), (.inr (.inr v) :: st, σ))) Q := by
  subst hn
  refine V_dec hb hd ?_
  rw [sI_astore, SP_gd, stx_s, SP_gd]
  exact ⟨rfl, ⟨rfl, by simp only [List.length_cons]; omega, hp⟩, h⟩
theorem v_astore_n3 {d μ pc n : Nat} {B : ByteArray} {st : List PV} {σ : PS} {Q : Option PV → PS → Prop} {x0 x1 x2 y : Option PV} {r : PL} {v : Int} (hb : mB μ = B) (hd : ClassFile.decode B pc = .ok (.astore_n 3, 1)) (hp : pok (x0 :: x1 :: x2 :: y :: r) 3 = true) (hn : pc + 1 = n) (h : V d μ (n, ((x0 :: x1 :: x2 :: some (.inr (.inr v)) :: r), (st, σ))) Q) : V d μ (pc, ((x0 :: x1 :: x2 :: y :: r), (.inr (.inr v) :: st, σ))) Q := by
  subst hn
  refine V_dec hb hd ?_
  rw [sI_astore_n, SP_gd, stx_s, SP_gd]
  exact ⟨rfl, ⟨rfl, by simp only [List.length_cons]; omega, hp⟩, h⟩
theorem v_astore3 {d μ pc n : Nat} {B : ByteArray} {st : List PV} {σ : PS} {Q : Option PV → PS → Prop} {x0 x1 x2 y : Option PV} {r : PL} {v : Int} (hb : mB μ = B) (hd : ClassFile.decode B pc = .ok (.astore 3, 2)) (hp : pok (x0 :: x1 :: x2 :: y :: r) 3 = true) (hn : pc + 2 = n) (h : V d μ (n, ((x0 :: x1 :: x2 :: some (.inr (.inr v)) :: r), (st, σ))) Q) : V d μ (pc, ((x0 :: x1 :: x2 :: y :: r), (.inr (.inr v) :: st, σ))) Q := by
  subst hn
  refine V_dec hb hd ?_
  rw [sI_astore, SP_gd, stx_s, SP_gd]
  exact ⟨rfl, ⟨rfl, by simp only [List.length_cons]; omega, hp⟩, h⟩
theorem v_astore4 {d μ pc n : Nat} {B : ByteArray} {st : List PV} {σ : PS} {Q : Option PV → PS → Prop} {x0 x1 x2 x3 y : Option PV} {r : PL} {v : Int} (hb : mB μ = B) (hd : ClassFile.decode B pc = .ok (.astore 4, 2)) (hp : pok (x0 :: x1 :: x2 :: x3 :: y :: r) 4 = true) (hn : pc + 2 = n) (h : V d μ (n, ((x0 :: x1 :: x2 :: x3 :: some (.inr (.inr v)) :: r), (st, σ))) Q) : V d μ (pc, ((x0 :: x1 :: x2 :: x3 :: y :: r), (.inr (.inr v) :: st, σ))) Q := by
  subst hn
  refine V_dec hb hd ?_
  rw [sI_astore, SP_gd, stx_s, SP_gd]
  exact ⟨rfl, ⟨rfl, by simp only [List.length_cons]; omega, hp⟩, h⟩
theorem v_astore5 {d μ pc n : Nat} {B : ByteArray} {st : List PV} {σ : PS} {Q : Option PV → PS → Prop} {x0 x1 x2 x3 x4 y : Option PV} {r : PL} {v : Int} (hb : mB μ = B) (hd : ClassFile.decode B pc = .ok (.astore 5, 2)) (hp : pok (x0 :: x1 :: x2 :: x3 :: x4 :: y :: r) 5 = true) (hn : pc + 2 = n) (h : V d μ (n, ((x0 :: x1 :: x2 :: x3 :: x4 :: some (.inr (.inr v)) :: r), (st, σ))) Q) : V d μ (pc, ((x0 :: x1 :: x2 :: x3 :: x4 :: y :: r), (.inr (.inr v) :: st, σ))) Q := by
  subst hn
  refine V_dec hb hd ?_
  rw [sI_astore, SP_gd, stx_s, SP_gd]
  exact ⟨rfl, ⟨rfl, by simp only [List.length_cons]; omega, hp⟩, h⟩
theorem v_astore6 {d μ pc n : Nat} {B : ByteArray} {st : List PV} {σ : PS} {Q : Option PV → PS → Prop} {x0 x1 x2 x3 x4 x5 y : Option PV} {r : PL} {v : Int} (hb : mB μ = B) (hd : ClassFile.decode B pc = .ok (.astore 6, 2)) (hp : pok (x0 :: x1 :: x2 :: x3 :: x4 :: x5 :: y :: r) 6 = true) (hn : pc + 2 = n) (h : V d μ (n, ((x0 :: x1 :: x2 :: x3 :: x4 :: x5 :: some (.inr (.inr v)) :: r), (st, σ))) Q) : V d μ (pc, ((x0 :: x1 :: x2 :: x3 :: x4 :: x5 :: y :: r), (.inr (.inr v) :: st, σ))) Q := by
  subst hn
  refine V_dec hb hd ?_
  rw [sI_astore, SP_gd, stx_s, SP_gd]
  exact ⟨rfl, ⟨rfl, by simp only [List.length_cons]; omega, hp⟩, h⟩
theorem v_astore7 {d μ pc n : Nat} {B : ByteArray} {st : List PV} {σ : PS} {Q : Option PV → PS → Prop} {x0 x1 x2 x3 x4 x5 x6 y : Option PV} {r : PL} {v : Int} (hb : mB μ = B) (hd : ClassFile.decode B pc = .ok (.astore 7, 2)) (hp : pok (x0 :: x1 :: x2 :: x3 :: x4 :: x5 :: x6 :: y :: r) 7 = true) (hn : pc + 2 = n) (h : V d μ (n, ((x0 :: x1 :: x2 :: x3 :: x4 :: x5 :: x6 :: some (.inr (.inr v)) :: r), (st, σ))) Q) : V d μ (pc, ((x0 :: x1 :: x2 :: x3 :: x4 :: x5 :: x6 :: y :: r), (.inr (.inr v) :: st, σ))) Q := by
  subst hn
  refine V_dec hb hd ?_
  rw [sI_astore, SP_gd, stx_s, SP_gd]
  exact ⟨rfl, ⟨rfl, by simp only [List.length_cons]; omega, hp⟩, h⟩
theorem v_astore8 {d μ pc n : Nat} {B : ByteArray} {st : List PV} {σ : PS} {Q : Option PV → PS → Prop} {x0 x1 x2 x3 x4 x5 x6 x7 y : Option PV} {r : PL} {v : Int} (hb : mB μ = B) (hd : ClassFile.decode B pc = .ok (.astore 8, 2)) (hp : pok (x0 :: x1 :: x2 :: x3 :: x4 :: x5 :: x6 :: x7 :: y :: r) 8 = true) (hn : pc + 2 = n) (h : V d μ (n, ((x0 :: x1 :: x2 :: x3 :: x4 :: x5 :: x6 :: x7 :: some (.inr (.inr v)) :: r), (st, σ))) Q) : V d μ (pc, ((x0 :: x1 :: x2 :: x3 :: x4 :: x5 :: x6 :: x7 :: y :: r), (.inr (.inr v) :: st, σ))) Q := by
  subst hn
  refine V_dec hb hd ?_
  rw [sI_astore, SP_gd, stx_s, SP_gd]
  exact ⟨rfl, ⟨rfl, by simp only [List.length_cons]; omega, hp⟩, h⟩
theorem v_astore9 {d μ pc n : Nat} {B : ByteArray} {st : List PV} {σ : PS} {Q : Option PV → PS → Prop} {x0 x1 x2 x3 x4 x5 x6 x7 x8 y : Option PV} {r : PL} {v : Int} (hb : mB μ = B) (hd : ClassFile.decode B pc = .ok (.astore 9, 2)) (hp : pok (x0 :: x1 :: x2 :: x3 :: x4 :: x5 :: x6 :: x7 :: x8 :: y :: r) 9 = true) (hn : pc + 2 = n) (h : V d μ (n, ((x0 :: x1 :: x2 :: x3 :: x4 :: x5 :: x6 :: x7 :: x8 :: some (.inr (.inr v)) :: r), (st, σ))) Q) : V d μ (pc, ((x0 :: x1 :: x2 :: x3 :: x4 :: x5 :: x6 :: x7 :: x8 :: y :: r), (.inr (.inr v) :: st, σ))) Q := by
  subst hn
  refine V_dec hb hd ?_
  rw [sI_astore, SP_gd, stx_s, SP_gd]
  exact ⟨rfl, ⟨rfl, by simp only [List.length_cons]; omega, hp⟩, h⟩
theorem v_astore10 {d μ pc n : Nat} {B : ByteArray} {st : List PV} {σ : PS} {Q : Option PV → PS → Prop} {x0 x1 x2 x3 x4 x5 x6 x7 x8 x9 y : Option PV} {r : PL} {v : Int} (hb : mB μ = B) (hd : ClassFile.decode B pc = .ok (.astore 10, 2)) (hp : pok (x0 :: x1 :: x2 :: x3 :: x4 :: x5 :: x6 :: x7 :: x8 :: x9 :: y :: r) 10 = true) (hn : pc + 2 = n) (h : V d μ (n, ((x0 :: x1 :: x2 :: x3 :: x4 :: x5 :: x6 :: x7 :: x8 :: x9 :: some (.inr (.inr v)) :: r), (st, σ))) Q) : V d μ (pc, ((x0 :: x1 :: x2 :: x3 :: x4 :: x5 :: x6 :: x7 :: x8 :: x9 :: y :: r), (.inr (.inr v) :: st, σ))) Q := by
  subst hn
  refine V_dec hb hd ?_
  rw [sI_astore, SP_gd, stx_s, SP_gd]
  exact ⟨rfl, ⟨rfl, by simp only [List.length_cons]; omega, hp⟩, h⟩
theorem v_astore11 {d μ pc n : Nat} {B : ByteArray} {st : List PV} {σ : PS} {Q : Option PV → PS → Prop} {x0 x1 x2 x3 x4 x5 x6 x7 x8 x9 x10 y : Option PV} {r : PL} {v : Int} (hb : mB μ = B) (hd : ClassFile.decode B pc = .ok (.astore 11, 2)) (hp : pok (x0 :: x1 :: x2 :: x3 :: x4 :: x5 :: x6 :: x7 :: x8 :: x9 :: x10 :: y :: r) 11 = true) (hn : pc + 2 = n) (h : V d μ (n, ((x0 :: x1 :: x2 :: x3 :: x4 :: x5 :: x6 :: x7 :: x8 :: x9 :: x10 :: some (.inr (.inr v)) :: r), (st, σ))) Q) : V d μ (pc, ((x0 :: x1 :: x2 :: x3 :: x4 :: x5 :: x6 :: x7 :: x8 :: x9 :: x10 :: y :: r), (.inr (.inr v) :: st, σ))) Q := by
  subst hn
  refine V_dec hb hd ?_
  rw [sI_astore, SP_gd, stx_s, SP_gd]
  exact ⟨rfl, ⟨rfl, by simp only [List.length_cons]; omega, hp⟩, h⟩
theorem v_iinc0 {d μ pc n : Nat} {B : ByteArray} {st : List PV} {σ : PS} {Q : Option PV → PS → Prop} {r : PL} {v z : Int} (hb : mB μ = B) (hd : ClassFile.decode B pc = .ok (.iinc 0 z, 3)) (hp : pok (some (.inl v) :: r) 0 = true) (hr : -2147483648 ≤ v + z ∧ v + z < 2147483648) (hn : pc + 3 = n) (h : V d μ (n, ((some (.inl (v + z)) :: r), (st, σ))) Q) : V d μ (pc, ((some (.inl v) :: r), (st, σ))) Q := by
  subst hn
  refine V_dec hb hd ?_
  rw [sI_iinc, SP_gd]
  refine ⟨rfl, ?_⟩
  show SP (gd (pok (some (.inl v) :: r) 0 = true) (nx (pc + 3) ((some (.inl (wr32 (v + z))) :: r)) st σ)) _ _ _
  rw [SP_gd, wr32_id hr.1 hr.2]
  exact ⟨hp, h⟩
theorem v_iinc1 {d μ pc n : Nat} {B : ByteArray} {st : List PV} {σ : PS} {Q : Option PV → PS → Prop} {x0 : Option PV} {r : PL} {v z : Int} (hb : mB μ = B) (hd : ClassFile.decode B pc = .ok (.iinc 1 z, 3)) (hp : pok (x0 :: some (.inl v) :: r) 1 = true) (hr : -2147483648 ≤ v + z ∧ v + z < 2147483648) (hn : pc + 3 = n) (h : V d μ (n, ((x0 :: some (.inl (v + z)) :: r), (st, σ))) Q) : V d μ (pc, ((x0 :: some (.inl v) :: r), (st, σ))) Q := by
  subst hn
  refine V_dec hb hd ?_
  rw [sI_iinc, SP_gd]
  refine ⟨rfl, ?_⟩
  show SP (gd (pok (x0 :: some (.inl v) :: r) 1 = true) (nx (pc + 3) ((x0 :: some (.inl (wr32 (v + z))) :: r)) st σ)) _ _ _
  rw [SP_gd, wr32_id hr.1 hr.2]
  exact ⟨hp, h⟩
theorem v_iinc2 {d μ pc n : Nat} {B : ByteArray} {st : List PV} {σ : PS} {Q : Option PV → PS → Prop} {x0 x1 : Option PV} {r : PL} {v z : Int} (hb : mB μ = B) (hd : ClassFile.decode B pc = .ok (.iinc 2 z, 3)) (hp : pok (x0 :: x1 :: some (.inl v) :: r) 2 = true) (hr : -2147483648 ≤ v + z ∧ v + z < 2147483648) (hn : pc + 3 = n) (h : V d μ (n, ((x0 :: x1 :: some (.inl (v + z)) :: r), (st, σ))) Q) : V d μ (pc, ((x0 :: x1 :: some (.inl v) :: r), (st, σ))) Q := by
  subst hn
  refine V_dec hb hd ?_
  rw [sI_iinc, SP_gd]
  refine ⟨rfl, ?_⟩
  show SP (gd (pok (x0 :: x1 :: some (.inl v) :: r) 2 = true) (nx (pc + 3) ((x0 :: x1 :: some (.inl (wr32 (v + z))) :: r)) st σ)) _ _ _
  rw [SP_gd, wr32_id hr.1 hr.2]
  exact ⟨hp, h⟩
theorem v_iinc3 {d μ pc n : Nat} {B : ByteArray} {st : List PV} {σ : PS} {Q : Option PV → PS → Prop} {x0 x1 x2 : Option PV} {r : PL} {v z : Int} (hb : mB μ = B) (hd : ClassFile.decode B pc = .ok (.iinc 3 z, 3)) (hp : pok (x0 :: x1 :: x2 :: some (.inl v) :: r) 3 = true) (hr : -2147483648 ≤ v + z ∧ v + z < 2147483648) (hn : pc + 3 = n) (h : V d μ (n, ((x0 :: x1 :: x2 :: some (.inl (v + z)) :: r), (st, σ))) Q) : V d μ (pc, ((x0 :: x1 :: x2 :: some (.inl v) :: r), (st, σ))) Q := by
  subst hn
  refine V_dec hb hd ?_
  rw [sI_iinc, SP_gd]
  refine ⟨rfl, ?_⟩
  show SP (gd (pok (x0 :: x1 :: x2 :: some (.inl v) :: r) 3 = true) (nx (pc + 3) ((x0 :: x1 :: x2 :: some (.inl (wr32 (v + z))) :: r)) st σ)) _ _ _
  rw [SP_gd, wr32_id hr.1 hr.2]
  exact ⟨hp, h⟩
theorem v_iinc4 {d μ pc n : Nat} {B : ByteArray} {st : List PV} {σ : PS} {Q : Option PV → PS → Prop} {x0 x1 x2 x3 : Option PV} {r : PL} {v z : Int} (hb : mB μ = B) (hd : ClassFile.decode B pc = .ok (.iinc 4 z, 3)) (hp : pok (x0 :: x1 :: x2 :: x3 :: some (.inl v) :: r) 4 = true) (hr : -2147483648 ≤ v + z ∧ v + z < 2147483648) (hn : pc + 3 = n) (h : V d μ (n, ((x0 :: x1 :: x2 :: x3 :: some (.inl (v + z)) :: r), (st, σ))) Q) : V d μ (pc, ((x0 :: x1 :: x2 :: x3 :: some (.inl v) :: r), (st, σ))) Q := by
  subst hn
  refine V_dec hb hd ?_
  rw [sI_iinc, SP_gd]
  refine ⟨rfl, ?_⟩
  show SP (gd (pok (x0 :: x1 :: x2 :: x3 :: some (.inl v) :: r) 4 = true) (nx (pc + 3) ((x0 :: x1 :: x2 :: x3 :: some (.inl (wr32 (v + z))) :: r)) st σ)) _ _ _
  rw [SP_gd, wr32_id hr.1 hr.2]
  exact ⟨hp, h⟩
theorem v_iinc5 {d μ pc n : Nat} {B : ByteArray} {st : List PV} {σ : PS} {Q : Option PV → PS → Prop} {x0 x1 x2 x3 x4 : Option PV} {r : PL} {v z : Int} (hb : mB μ = B) (hd : ClassFile.decode B pc = .ok (.iinc 5 z, 3)) (hp : pok (x0 :: x1 :: x2 :: x3 :: x4 :: some (.inl v) :: r) 5 = true) (hr : -2147483648 ≤ v + z ∧ v + z < 2147483648) (hn : pc + 3 = n) (h : V d μ (n, ((x0 :: x1 :: x2 :: x3 :: x4 :: some (.inl (v + z)) :: r), (st, σ))) Q) : V d μ (pc, ((x0 :: x1 :: x2 :: x3 :: x4 :: some (.inl v) :: r), (st, σ))) Q := by
  subst hn
  refine V_dec hb hd ?_
  rw [sI_iinc, SP_gd]
  refine ⟨rfl, ?_⟩
  show SP (gd (pok (x0 :: x1 :: x2 :: x3 :: x4 :: some (.inl v) :: r) 5 = true) (nx (pc + 3) ((x0 :: x1 :: x2 :: x3 :: x4 :: some (.inl (wr32 (v + z))) :: r)) st σ)) _ _ _
  rw [SP_gd, wr32_id hr.1 hr.2]
  exact ⟨hp, h⟩
theorem v_iinc6 {d μ pc n : Nat} {B : ByteArray} {st : List PV} {σ : PS} {Q : Option PV → PS → Prop} {x0 x1 x2 x3 x4 x5 : Option PV} {r : PL} {v z : Int} (hb : mB μ = B) (hd : ClassFile.decode B pc = .ok (.iinc 6 z, 3)) (hp : pok (x0 :: x1 :: x2 :: x3 :: x4 :: x5 :: some (.inl v) :: r) 6 = true) (hr : -2147483648 ≤ v + z ∧ v + z < 2147483648) (hn : pc + 3 = n) (h : V d μ (n, ((x0 :: x1 :: x2 :: x3 :: x4 :: x5 :: some (.inl (v + z)) :: r), (st, σ))) Q) : V d μ (pc, ((x0 :: x1 :: x2 :: x3 :: x4 :: x5 :: some (.inl v) :: r), (st, σ))) Q := by
  subst hn
  refine V_dec hb hd ?_
  rw [sI_iinc, SP_gd]
  refine ⟨rfl, ?_⟩
  show SP (gd (pok (x0 :: x1 :: x2 :: x3 :: x4 :: x5 :: some (.inl v) :: r) 6 = true) (nx (pc + 3) ((x0 :: x1 :: x2 :: x3 :: x4 :: x5 :: some (.inl (wr32 (v + z))) :: r)) st σ)) _ _ _
  rw [SP_gd, wr32_id hr.1 hr.2]
  exact ⟨hp, h⟩
theorem v_iinc7 {d μ pc n : Nat} {B : ByteArray} {st : List PV} {σ : PS} {Q : Option PV → PS → Prop} {x0 x1 x2 x3 x4 x5 x6 : Option PV} {r : PL} {v z : Int} (hb : mB μ = B) (hd : ClassFile.decode B pc = .ok (.iinc 7 z, 3)) (hp : pok (x0 :: x1 :: x2 :: x3 :: x4 :: x5 :: x6 :: some (.inl v) :: r) 7 = true) (hr : -2147483648 ≤ v + z ∧ v + z < 2147483648) (hn : pc + 3 = n) (h : V d μ (n, ((x0 :: x1 :: x2 :: x3 :: x4 :: x5 :: x6 :: some (.inl (v + z)) :: r), (st, σ))) Q) : V d μ (pc, ((x0 :: x1 :: x2 :: x3 :: x4 :: x5 :: x6 :: some (.inl v) :: r), (st, σ))) Q := by
  subst hn
  refine V_dec hb hd ?_
  rw [sI_iinc, SP_gd]
  refine ⟨rfl, ?_⟩
  show SP (gd (pok (x0 :: x1 :: x2 :: x3 :: x4 :: x5 :: x6 :: some (.inl v) :: r) 7 = true) (nx (pc + 3) ((x0 :: x1 :: x2 :: x3 :: x4 :: x5 :: x6 :: some (.inl (wr32 (v + z))) :: r)) st σ)) _ _ _
  rw [SP_gd, wr32_id hr.1 hr.2]
  exact ⟨hp, h⟩
theorem v_iinc8 {d μ pc n : Nat} {B : ByteArray} {st : List PV} {σ : PS} {Q : Option PV → PS → Prop} {x0 x1 x2 x3 x4 x5 x6 x7 : Option PV} {r : PL} {v z : Int} (hb : mB μ = B) (hd : ClassFile.decode B pc = .ok (.iinc 8 z, 3)) (hp : pok (x0 :: x1 :: x2 :: x3 :: x4 :: x5 :: x6 :: x7 :: some (.inl v) :: r) 8 = true) (hr : -2147483648 ≤ v + z ∧ v + z < 2147483648) (hn : pc + 3 = n) (h : V d μ (n, ((x0 :: x1 :: x2 :: x3 :: x4 :: x5 :: x6 :: x7 :: some (.inl (v + z)) :: r), (st, σ))) Q) : V d μ (pc, ((x0 :: x1 :: x2 :: x3 :: x4 :: x5 :: x6 :: x7 :: some (.inl v) :: r), (st, σ))) Q := by
  subst hn
  refine V_dec hb hd ?_
  rw [sI_iinc, SP_gd]
  refine ⟨rfl, ?_⟩
  show SP (gd (pok (x0 :: x1 :: x2 :: x3 :: x4 :: x5 :: x6 :: x7 :: some (.inl v) :: r) 8 = true) (nx (pc + 3) ((x0 :: x1 :: x2 :: x3 :: x4 :: x5 :: x6 :: x7 :: some (.inl (wr32 (v + z))) :: r)) st σ)) _ _ _
  rw [SP_gd, wr32_id hr.1 hr.2]
  exact ⟨hp, h⟩
theorem v_iinc9 {d μ pc n : Nat} {B : ByteArray} {st : List PV} {σ : PS} {Q : Option PV → PS → Prop} {x0 x1 x2 x3 x4 x5 x6 x7 x8 : Option PV} {r : PL} {v z : Int} (hb : mB μ = B) (hd : ClassFile.decode B pc = .ok (.iinc 9 z, 3)) (hp : pok (x0 :: x1 :: x2 :: x3 :: x4 :: x5 :: x6 :: x7 :: x8 :: some (.inl v) :: r) 9 = true) (hr : -2147483648 ≤ v + z ∧ v + z < 2147483648) (hn : pc + 3 = n) (h : V d μ (n, ((x0 :: x1 :: x2 :: x3 :: x4 :: x5 :: x6 :: x7 :: x8 :: some (.inl (v + z)) :: r), (st, σ))) Q) : V d μ (pc, ((x0 :: x1 :: x2 :: x3 :: x4 :: x5 :: x6 :: x7 :: x8 :: some (.inl v) :: r), (st, σ))) Q := by
  subst hn
  refine V_dec hb hd ?_
  rw [sI_iinc, SP_gd]
  refine ⟨rfl, ?_⟩
  show SP (gd (pok (x0 :: x1 :: x2 :: x3 :: x4 :: x5 :: x6 :: x7 :: x8 :: some (.inl v) :: r) 9 = true) (nx (pc + 3) ((x0 :: x1 :: x2 :: x3 :: x4 :: x5 :: x6 :: x7 :: x8 :: some (.inl (wr32 (v + z))) :: r)) st σ)) _ _ _
  rw [SP_gd, wr32_id hr.1 hr.2]
  exact ⟨hp, h⟩
theorem v_iinc10 {d μ pc n : Nat} {B : ByteArray} {st : List PV} {σ : PS} {Q : Option PV → PS → Prop} {x0 x1 x2 x3 x4 x5 x6 x7 x8 x9 : Option PV} {r : PL} {v z : Int} (hb : mB μ = B) (hd : ClassFile.decode B pc = .ok (.iinc 10 z, 3)) (hp : pok (x0 :: x1 :: x2 :: x3 :: x4 :: x5 :: x6 :: x7 :: x8 :: x9 :: some (.inl v) :: r) 10 = true) (hr : -2147483648 ≤ v + z ∧ v + z < 2147483648) (hn : pc + 3 = n) (h : V d μ (n, ((x0 :: x1 :: x2 :: x3 :: x4 :: x5 :: x6 :: x7 :: x8 :: x9 :: some (.inl (v + z)) :: r), (st, σ))) Q) : V d μ (pc, ((x0 :: x1 :: x2 :: x3 :: x4 :: x5 :: x6 :: x7 :: x8 :: x9 :: some (.inl v) :: r), (st, σ))) Q := by
  subst hn
  refine V_dec hb hd ?_
  rw [sI_iinc, SP_gd]
  refine ⟨rfl, ?_⟩
  show SP (gd (pok (x0 :: x1 :: x2 :: x3 :: x4 :: x5 :: x6 :: x7 :: x8 :: x9 :: some (.inl v) :: r) 10 = true) (nx (pc + 3) ((x0 :: x1 :: x2 :: x3 :: x4 :: x5 :: x6 :: x7 :: x8 :: x9 :: some (.inl (wr32 (v + z))) :: r)) st σ)) _ _ _
  rw [SP_gd, wr32_id hr.1 hr.2]
  exact ⟨hp, h⟩
theorem v_iinc11 {d μ pc n : Nat} {B : ByteArray} {st : List PV} {σ : PS} {Q : Option PV → PS → Prop} {x0 x1 x2 x3 x4 x5 x6 x7 x8 x9 x10 : Option PV} {r : PL} {v z : Int} (hb : mB μ = B) (hd : ClassFile.decode B pc = .ok (.iinc 11 z, 3)) (hp : pok (x0 :: x1 :: x2 :: x3 :: x4 :: x5 :: x6 :: x7 :: x8 :: x9 :: x10 :: some (.inl v) :: r) 11 = true) (hr : -2147483648 ≤ v + z ∧ v + z < 2147483648) (hn : pc + 3 = n) (h : V d μ (n, ((x0 :: x1 :: x2 :: x3 :: x4 :: x5 :: x6 :: x7 :: x8 :: x9 :: x10 :: some (.inl (v + z)) :: r), (st, σ))) Q) : V d μ (pc, ((x0 :: x1 :: x2 :: x3 :: x4 :: x5 :: x6 :: x7 :: x8 :: x9 :: x10 :: some (.inl v) :: r), (st, σ))) Q := by
  subst hn
  refine V_dec hb hd ?_
  rw [sI_iinc, SP_gd]
  refine ⟨rfl, ?_⟩
  show SP (gd (pok (x0 :: x1 :: x2 :: x3 :: x4 :: x5 :: x6 :: x7 :: x8 :: x9 :: x10 :: some (.inl v) :: r) 11 = true) (nx (pc + 3) ((x0 :: x1 :: x2 :: x3 :: x4 :: x5 :: x6 :: x7 :: x8 :: x9 :: x10 :: some (.inl (wr32 (v + z))) :: r)) st σ)) _ _ _
  rw [SP_gd, wr32_id hr.1 hr.2]
  exact ⟨hp, h⟩
theorem v_iadd {d μ pc n : Nat} {B : ByteArray} {ls : PL} {st : List PV} {σ : PS} {Q : Option PV → PS → Prop} {x y : Int} (hb : mB μ = B) (hd : ClassFile.decode B pc = .ok (.iadd, 1)) (hr : -2147483648 ≤ x + y ∧ x + y < 2147483648) (hn : pc + 1 = n) (h : V d μ (n, (ls, (.inl (x + y) :: st, σ))) Q) : V d μ (pc, (ls, (.inl y :: .inl x :: st, σ))) Q := by
  subst hn
  refine V_dec hb hd ?_
  rw [sI_iadd, SP_gd, i2_s, wr32_id hr.1 hr.2]
  exact ⟨rfl, h⟩
theorem v_iaddw {d μ pc n : Nat} {B : ByteArray} {ls : PL} {st : List PV} {σ : PS} {Q : Option PV → PS → Prop} {x y : Int} (hb : mB μ = B) (hd : ClassFile.decode B pc = .ok (.iadd, 1)) (hn : pc + 1 = n) (h : V d μ (n, (ls, (.inl (wr32 (x + y)) :: st, σ))) Q) : V d μ (pc, (ls, (.inl y :: .inl x :: st, σ))) Q := by
  subst hn
  refine V_dec hb hd ?_
  rw [sI_iadd, SP_gd, i2_s]
  exact ⟨rfl, h⟩
theorem v_isub {d μ pc n : Nat} {B : ByteArray} {ls : PL} {st : List PV} {σ : PS} {Q : Option PV → PS → Prop} {x y : Int} (hb : mB μ = B) (hd : ClassFile.decode B pc = .ok (.isub, 1)) (hr : -2147483648 ≤ x - y ∧ x - y < 2147483648) (hn : pc + 1 = n) (h : V d μ (n, (ls, (.inl (x - y) :: st, σ))) Q) : V d μ (pc, (ls, (.inl y :: .inl x :: st, σ))) Q := by
  subst hn
  refine V_dec hb hd ?_
  rw [sI_isub, SP_gd, i2_s, wr32_id hr.1 hr.2]
  exact ⟨rfl, h⟩
theorem v_isubw {d μ pc n : Nat} {B : ByteArray} {ls : PL} {st : List PV} {σ : PS} {Q : Option PV → PS → Prop} {x y : Int} (hb : mB μ = B) (hd : ClassFile.decode B pc = .ok (.isub, 1)) (hn : pc + 1 = n) (h : V d μ (n, (ls, (.inl (wr32 (x - y)) :: st, σ))) Q) : V d μ (pc, (ls, (.inl y :: .inl x :: st, σ))) Q := by
  subst hn
  refine V_dec hb hd ?_
  rw [sI_isub, SP_gd, i2_s]
  exact ⟨rfl, h⟩
theorem v_imul {d μ pc n : Nat} {B : ByteArray} {ls : PL} {st : List PV} {σ : PS} {Q : Option PV → PS → Prop} {x y : Int} (hb : mB μ = B) (hd : ClassFile.decode B pc = .ok (.imul, 1)) (hr : -2147483648 ≤ x * y ∧ x * y < 2147483648) (hn : pc + 1 = n) (h : V d μ (n, (ls, (.inl (x * y) :: st, σ))) Q) : V d μ (pc, (ls, (.inl y :: .inl x :: st, σ))) Q := by
  subst hn
  refine V_dec hb hd ?_
  rw [sI_imul, SP_gd, i2_s, wr32_id hr.1 hr.2]
  exact ⟨rfl, h⟩
theorem v_imulw {d μ pc n : Nat} {B : ByteArray} {ls : PL} {st : List PV} {σ : PS} {Q : Option PV → PS → Prop} {x y : Int} (hb : mB μ = B) (hd : ClassFile.decode B pc = .ok (.imul, 1)) (hn : pc + 1 = n) (h : V d μ (n, (ls, (.inl (wr32 (x * y)) :: st, σ))) Q) : V d μ (pc, (ls, (.inl y :: .inl x :: st, σ))) Q := by
  subst hn
  refine V_dec hb hd ?_
  rw [sI_imul, SP_gd, i2_s]
  exact ⟨rfl, h⟩
theorem v_idiv {d μ pc n : Nat} {B : ByteArray} {ls : PL} {st : List PV} {σ : PS} {Q : Option PV → PS → Prop} {x y : Int} (hb : mB μ = B) (hd : ClassFile.decode B pc = .ok (.idiv, 1)) (hq : 0 ≤ x ∧ 0 < y) (hn : pc + 1 = n) (h : V d μ (n, (ls, (.inl (x / y) :: st, σ))) Q) : V d μ (pc, (ls, (.inl y :: .inl x :: st, σ))) Q := by
  subst hn
  refine V_dec hb hd ?_
  rw [sI_idiv, SP_gd, i2_s, SP_gd]
  exact ⟨rfl, hq, h⟩
theorem v_irem {d μ pc n : Nat} {B : ByteArray} {ls : PL} {st : List PV} {σ : PS} {Q : Option PV → PS → Prop} {x y : Int} (hb : mB μ = B) (hd : ClassFile.decode B pc = .ok (.irem, 1)) (hq : 0 ≤ x ∧ 0 < y) (hn : pc + 1 = n) (h : V d μ (n, (ls, (.inl (x % y) :: st, σ))) Q) : V d μ (pc, (ls, (.inl y :: .inl x :: st, σ))) Q := by
  subst hn
  refine V_dec hb hd ?_
  rw [sI_irem, SP_gd, i2_s, SP_gd]
  exact ⟨rfl, hq, h⟩
theorem v_iand {d μ pc n : Nat} {B : ByteArray} {ls : PL} {st : List PV} {σ : PS} {Q : Option PV → PS → Prop} {x y : Int} (hb : mB μ = B) (hd : ClassFile.decode B pc = .ok (.iand, 1)) (hn : pc + 1 = n) (h : V d μ (n, (ls, (.inl (iAnd x y) :: st, σ))) Q) : V d μ (pc, (ls, (.inl y :: .inl x :: st, σ))) Q := by
  subst hn
  refine V_dec hb hd ?_
  rw [sI_iand, SP_gd, i2_s]
  exact ⟨rfl, h⟩
theorem v_iand_e {d μ pc n : Nat} {B : ByteArray} {ls : PL} {st : List PV} {σ : PS} {Q : Option PV → PS → Prop} {x y z : Int} (hb : mB μ = B) (hd : ClassFile.decode B pc = .ok (.iand, 1)) (he : iAnd x y = z) (hn : pc + 1 = n) (h : V d μ (n, (ls, (.inl z :: st, σ))) Q) : V d μ (pc, (ls, (.inl y :: .inl x :: st, σ))) Q := by
  subst hn
  refine V_dec hb hd ?_
  rw [sI_iand, SP_gd, i2_s, he]
  exact ⟨rfl, h⟩
theorem v_ior {d μ pc n : Nat} {B : ByteArray} {ls : PL} {st : List PV} {σ : PS} {Q : Option PV → PS → Prop} {x y : Int} (hb : mB μ = B) (hd : ClassFile.decode B pc = .ok (.ior, 1)) (hn : pc + 1 = n) (h : V d μ (n, (ls, (.inl (iOr x y) :: st, σ))) Q) : V d μ (pc, (ls, (.inl y :: .inl x :: st, σ))) Q := by
  subst hn
  refine V_dec hb hd ?_
  rw [sI_ior, SP_gd, i2_s]
  exact ⟨rfl, h⟩
theorem v_ior_e {d μ pc n : Nat} {B : ByteArray} {ls : PL} {st : List PV} {σ : PS} {Q : Option PV → PS → Prop} {x y z : Int} (hb : mB μ = B) (hd : ClassFile.decode B pc = .ok (.ior, 1)) (he : iOr x y = z) (hn : pc + 1 = n) (h : V d μ (n, (ls, (.inl z :: st, σ))) Q) : V d μ (pc, (ls, (.inl y :: .inl x :: st, σ))) Q := by
  subst hn
  refine V_dec hb hd ?_
  rw [sI_ior, SP_gd, i2_s, he]
  exact ⟨rfl, h⟩
theorem v_ixor {d μ pc n : Nat} {B : ByteArray} {ls : PL} {st : List PV} {σ : PS} {Q : Option PV → PS → Prop} {x y : Int} (hb : mB μ = B) (hd : ClassFile.decode B pc = .ok (.ixor, 1)) (hn : pc + 1 = n) (h : V d μ (n, (ls, (.inl (iXor x y) :: st, σ))) Q) : V d μ (pc, (ls, (.inl y :: .inl x :: st, σ))) Q := by
  subst hn
  refine V_dec hb hd ?_
  rw [sI_ixor, SP_gd, i2_s]
  exact ⟨rfl, h⟩
theorem v_ixor_e {d μ pc n : Nat} {B : ByteArray} {ls : PL} {st : List PV} {σ : PS} {Q : Option PV → PS → Prop} {x y z : Int} (hb : mB μ = B) (hd : ClassFile.decode B pc = .ok (.ixor, 1)) (he : iXor x y = z) (hn : pc + 1 = n) (h : V d μ (n, (ls, (.inl z :: st, σ))) Q) : V d μ (pc, (ls, (.inl y :: .inl x :: st, σ))) Q := by
  subst hn
  refine V_dec hb hd ?_
  rw [sI_ixor, SP_gd, i2_s, he]
  exact ⟨rfl, h⟩
theorem v_ishl {d μ pc n : Nat} {B : ByteArray} {ls : PL} {st : List PV} {σ : PS} {Q : Option PV → PS → Prop} {x y p : Int} (hb : mB μ = B) (hd : ClassFile.decode B pc = .ok (.ishl, 1)) (hp : (2 : Int) ^ y.toNat = p) (hq : 0 ≤ x ∧ 0 ≤ y ∧ y < 31 ∧ x * p < 2147483648) (hn : pc + 1 = n) (h : V d μ (n, (ls, (.inl (x * p) :: st, σ))) Q) : V d μ (pc, (ls, (.inl y :: .inl x :: st, σ))) Q := by
  subst hn
  refine V_dec hb hd ?_
  subst hp
  rw [sI_ishl, SP_gd, i2_s, SP_gd]
  exact ⟨rfl, hq, h⟩
theorem v_ishr {d μ pc n : Nat} {B : ByteArray} {ls : PL} {st : List PV} {σ : PS} {Q : Option PV → PS → Prop} {x y p : Int} (hb : mB μ = B) (hd : ClassFile.decode B pc = .ok (.ishr, 1)) (hp : (2 : Int) ^ y.toNat = p) (hq : 0 ≤ x ∧ 0 ≤ y ∧ y < 32) (hn : pc + 1 = n) (h : V d μ (n, (ls, (.inl (x / p) :: st, σ))) Q) : V d μ (pc, (ls, (.inl y :: .inl x :: st, σ))) Q := by
  subst hn
  refine V_dec hb hd ?_
  subst hp
  rw [sI_ishr, SP_gd, i2_s, SP_gd]
  exact ⟨rfl, hq, h⟩
theorem v_ineg {d μ pc n : Nat} {B : ByteArray} {ls : PL} {st : List PV} {σ : PS} {Q : Option PV → PS → Prop} {x : Int} (hb : mB μ = B) (hd : ClassFile.decode B pc = .ok (.ineg, 1)) (hr : -2147483648 ≤ -x ∧ -x < 2147483648) (hn : pc + 1 = n) (h : V d μ (n, (ls, (.inl (-x) :: st, σ))) Q) : V d μ (pc, (ls, (.inl x :: st, σ))) Q := by
  subst hn
  refine V_dec hb hd ?_
  rw [sI_ineg, SP_gd, i1_s, wr32_id hr.1 hr.2]
  exact ⟨rfl, h⟩
theorem v_inegw {d μ pc n : Nat} {B : ByteArray} {ls : PL} {st : List PV} {σ : PS} {Q : Option PV → PS → Prop} {x : Int} (hb : mB μ = B) (hd : ClassFile.decode B pc = .ok (.ineg, 1)) (hn : pc + 1 = n) (h : V d μ (n, (ls, (.inl (wr32 (-x)) :: st, σ))) Q) : V d μ (pc, (ls, (.inl x :: st, σ))) Q := by
  subst hn
  refine V_dec hb hd ?_
  rw [sI_ineg, SP_gd, i1_s]
  exact ⟨rfl, h⟩
theorem v_i2l {d μ pc n : Nat} {B : ByteArray} {ls : PL} {st : List PV} {σ : PS} {Q : Option PV → PS → Prop} {x : Int} (hb : mB μ = B) (hd : ClassFile.decode B pc = .ok (.i2l, 1)) (hn : pc + 1 = n) (h : V d μ (n, (ls, (.inr (.inl x) :: st, σ))) Q) : V d μ (pc, (ls, (.inl x :: st, σ))) Q := by
  subst hn
  refine V_dec hb hd ?_
  rw [sI_i2l, SP_gd, i1_s]
  exact ⟨rfl, h⟩
theorem v_l2i {d μ pc n : Nat} {B : ByteArray} {ls : PL} {st : List PV} {σ : PS} {Q : Option PV → PS → Prop} {x : Int} (hb : mB μ = B) (hd : ClassFile.decode B pc = .ok (.l2i, 1)) (hn : pc + 1 = n) (h : V d μ (n, (ls, (.inl (wr32 x) :: st, σ))) Q) : V d μ (pc, (ls, (.inr (.inl x) :: st, σ))) Q := by
  subst hn
  refine V_dec hb hd ?_
  rw [sI_l2i, SP_gd, l1_s]
  exact ⟨rfl, h⟩
theorem v_i2b {d μ pc n : Nat} {B : ByteArray} {ls : PL} {st : List PV} {σ : PS} {Q : Option PV → PS → Prop} {x : Int} (hb : mB μ = B) (hd : ClassFile.decode B pc = .ok (.i2b, 1)) (hn : pc + 1 = n) (h : V d μ (n, (ls, (.inl (wr8 x) :: st, σ))) Q) : V d μ (pc, (ls, (.inl x :: st, σ))) Q := by
  subst hn
  refine V_dec hb hd ?_
  rw [sI_i2b, SP_gd, i1_s]
  exact ⟨rfl, h⟩
theorem v_i2s {d μ pc n : Nat} {B : ByteArray} {ls : PL} {st : List PV} {σ : PS} {Q : Option PV → PS → Prop} {x : Int} (hb : mB μ = B) (hd : ClassFile.decode B pc = .ok (.i2s, 1)) (hn : pc + 1 = n) (h : V d μ (n, (ls, (.inl (wr16 x) :: st, σ))) Q) : V d μ (pc, (ls, (.inl x :: st, σ))) Q := by
  subst hn
  refine V_dec hb hd ?_
  rw [sI_i2s, SP_gd, i1_s]
  exact ⟨rfl, h⟩
theorem v_i2c {d μ pc n : Nat} {B : ByteArray} {ls : PL} {st : List PV} {σ : PS} {Q : Option PV → PS → Prop} {x : Int} (hb : mB μ = B) (hd : ClassFile.decode B pc = .ok (.i2c, 1)) (hn : pc + 1 = n) (h : V d μ (n, (ls, (.inl (x % 65536) :: st, σ))) Q) : V d μ (pc, (ls, (.inl x :: st, σ))) Q := by
  subst hn
  refine V_dec hb hd ?_
  rw [sI_i2c, SP_gd, i1_s]
  exact ⟨rfl, h⟩
theorem v_land {d μ pc n : Nat} {B : ByteArray} {ls : PL} {st : List PV} {σ : PS} {Q : Option PV → PS → Prop} {x y : Int} (hb : mB μ = B) (hd : ClassFile.decode B pc = .ok (.land, 1)) (hn : pc + 1 = n) (h : V d μ (n, (ls, (.inr (.inl (lAnd x y)) :: st, σ))) Q) : V d μ (pc, (ls, (.inr (.inl y) :: .inr (.inl x) :: st, σ))) Q := by
  subst hn
  refine V_dec hb hd ?_
  rw [sI_land, SP_gd, l2_s]
  exact ⟨rfl, h⟩
theorem v_lor {d μ pc n : Nat} {B : ByteArray} {ls : PL} {st : List PV} {σ : PS} {Q : Option PV → PS → Prop} {x y : Int} (hb : mB μ = B) (hd : ClassFile.decode B pc = .ok (.lor, 1)) (hn : pc + 1 = n) (h : V d μ (n, (ls, (.inr (.inl (lOr x y)) :: st, σ))) Q) : V d μ (pc, (ls, (.inr (.inl y) :: .inr (.inl x) :: st, σ))) Q := by
  subst hn
  refine V_dec hb hd ?_
  rw [sI_lor, SP_gd, l2_s]
  exact ⟨rfl, h⟩
theorem v_lcmp {d μ pc n : Nat} {B : ByteArray} {ls : PL} {st : List PV} {σ : PS} {Q : Option PV → PS → Prop} {x y : Int} (hb : mB μ = B) (hd : ClassFile.decode B pc = .ok (.lcmp, 1)) (hn : pc + 1 = n) (h : V d μ (n, (ls, (.inl (lCmp x y) :: st, σ))) Q) : V d μ (pc, (ls, (.inr (.inl y) :: .inr (.inl x) :: st, σ))) Q := by
  subst hn
  refine V_dec hb hd ?_
  rw [sI_lcmp, SP_gd, l2_s]
  exact ⟨rfl, h⟩
theorem v_lshl {d μ pc n : Nat} {B : ByteArray} {ls : PL} {st : List PV} {σ : PS} {Q : Option PV → PS → Prop} {x y : Int} (hb : mB μ = B) (hd : ClassFile.decode B pc = .ok (.lshl, 1)) (hn : pc + 1 = n) (h : V d μ (n, (ls, (.inr (.inl (lShl x y)) :: st, σ))) Q) : V d μ (pc, (ls, (.inl y :: .inr (.inl x) :: st, σ))) Q := by
  subst hn
  refine V_dec hb hd ?_
  rw [sI_lshl, SP_gd]
  exact ⟨rfl, h⟩
theorem v_dup {d μ pc n : Nat} {B : ByteArray} {ls : PL} {st : List PV} {σ : PS} {Q : Option PV → PS → Prop} {v : PV} (hb : mB μ = B) (hd : ClassFile.decode B pc = .ok (.dup, 1)) (hv : Nat.beq (ptag v) 1 = false) (hn : pc + 1 = n) (h : V d μ (n, (ls, (v :: v :: st, σ))) Q) : V d μ (pc, (ls, (v :: st, σ))) Q := by
  subst hn
  refine V_dec hb hd ?_
  have hv1 : ptag v ≠ 1 := fun e => by rw [e] at hv; cases hv
  rw [sI_dup, SP_gd]
  refine ⟨rfl, ?_⟩
  show SP (gd _ _) _ _ _
  rw [SP_gd]
  exact ⟨hv1, h⟩
theorem v_dup2 {d μ pc n : Nat} {B : ByteArray} {ls : PL} {st : List PV} {σ : PS} {Q : Option PV → PS → Prop} {v w : PV} (hb : mB μ = B) (hd : ClassFile.decode B pc = .ok (.dup2, 1)) (hv : Nat.beq (ptag v) 1 = false) (hw : Nat.beq (ptag w) 1 = false) (hn : pc + 1 = n) (h : V d μ (n, (ls, (v :: w :: v :: w :: st, σ))) Q) : V d μ (pc, (ls, (v :: w :: st, σ))) Q := by
  subst hn
  refine V_dec hb hd ?_
  have hv1 : ptag v ≠ 1 := fun e => by rw [e] at hv; cases hv
  have hw1 : ptag w ≠ 1 := fun e => by rw [e] at hw; cases hw
  rw [sI_dup2, SP_gd]
  refine ⟨rfl, ?_⟩
  show SP (gd _ _) _ _ _
  rw [SP_gd]
  exact ⟨⟨hv1, hw1⟩, h⟩
theorem v_pop {d μ pc n : Nat} {B : ByteArray} {ls : PL} {st : List PV} {σ : PS} {Q : Option PV → PS → Prop} {v : PV} (hb : mB μ = B) (hd : ClassFile.decode B pc = .ok (.pop, 1)) (hv : Nat.beq (ptag v) 1 = false) (hn : pc + 1 = n) (h : V d μ (n, (ls, (st, σ))) Q) : V d μ (pc, (ls, (v :: st, σ))) Q := by
  subst hn
  refine V_dec hb hd ?_
  have hv1 : ptag v ≠ 1 := fun e => by rw [e] at hv; cases hv
  rw [sI_pop, SP_gd]
  refine ⟨rfl, ?_⟩
  show SP (gd _ _) _ _ _
  rw [SP_gd]
  exact ⟨hv1, h⟩
theorem v_if_eq {d μ pc n t : Nat} {B : ByteArray} {ls : PL} {st : List PV} {σ : PS} {Q : Option PV → PS → Prop} {off : Int} {x : Int} (hb : mB μ = B) (hd : ClassFile.decode B pc = .ok (.ifCond .eq off, 3)) (hz : 0 ≤ (pc : Int) + off) (ht : ((pc : Int) + off).toNat = t) (hn : pc + 3 = n) (h1 : x = 0 → V d μ (t, (ls, (st, σ))) Q) (h2 : ¬ (x = 0) → V d μ (n, (ls, (st, σ))) Q) : V d μ (pc, (ls, (.inl x :: st, σ))) Q := by
  subst hn
  subst ht
  refine V_dec hb hd ?_
  rw [sI_ifCond, SP_gd, i1_s]
  refine ⟨⟨rfl, hz⟩, ?_⟩
  by_cases hc : x = 0
  · rw [if_pos ((ic_eq x 0).mpr hc)]
    exact h1 hc
  · rw [if_neg (fun e => hc ((ic_eq x 0).mp e))]
    exact h2 hc
theorem v_if_eq_y {d μ pc t : Nat} {B : ByteArray} {ls : PL} {st : List PV} {σ : PS} {Q : Option PV → PS → Prop} {off : Int} {x : Int} (hb : mB μ = B) (hd : ClassFile.decode B pc = .ok (.ifCond .eq off, 3)) (hz : 0 ≤ (pc : Int) + off) (ht : ((pc : Int) + off).toNat = t) (hc : x = 0) (h : V d μ (t, (ls, (st, σ))) Q) : V d μ (pc, (ls, (.inl x :: st, σ))) Q := v_if_eq hb hd hz ht rfl (fun _ => h) (fun e => absurd hc e)
theorem v_if_eq_n {d μ pc n : Nat} {B : ByteArray} {ls : PL} {st : List PV} {σ : PS} {Q : Option PV → PS → Prop} {off : Int} {x : Int} (hb : mB μ = B) (hd : ClassFile.decode B pc = .ok (.ifCond .eq off, 3)) (hz : 0 ≤ (pc : Int) + off) (hn : pc + 3 = n) (hc : ¬ (x = 0)) (h : V d μ (n, (ls, (st, σ))) Q) : V d μ (pc, (ls, (.inl x :: st, σ))) Q := v_if_eq hb hd hz rfl hn (fun e => absurd e hc) (fun _ => h)
theorem v_ic_eq {d μ pc n t : Nat} {B : ByteArray} {ls : PL} {st : List PV} {σ : PS} {Q : Option PV → PS → Prop} {off : Int} {x y : Int} (hb : mB μ = B) (hd : ClassFile.decode B pc = .ok (.if_icmp .eq off, 3)) (hz : 0 ≤ (pc : Int) + off) (ht : ((pc : Int) + off).toNat = t) (hn : pc + 3 = n) (h1 : x = y → V d μ (t, (ls, (st, σ))) Q) (h2 : ¬ (x = y) → V d μ (n, (ls, (st, σ))) Q) : V d μ (pc, (ls, (.inl y :: .inl x :: st, σ))) Q := by
  subst hn
  subst ht
  refine V_dec hb hd ?_
  rw [sI_if_icmp, SP_gd, i2_s]
  refine ⟨⟨rfl, hz⟩, ?_⟩
  by_cases hc : x = y
  · rw [if_pos ((ic_eq x y).mpr hc)]
    exact h1 hc
  · rw [if_neg (fun e => hc ((ic_eq x y).mp e))]
    exact h2 hc
theorem v_ic_eq_y {d μ pc t : Nat} {B : ByteArray} {ls : PL} {st : List PV} {σ : PS} {Q : Option PV → PS → Prop} {off : Int} {x y : Int} (hb : mB μ = B) (hd : ClassFile.decode B pc = .ok (.if_icmp .eq off, 3)) (hz : 0 ≤ (pc : Int) + off) (ht : ((pc : Int) + off).toNat = t) (hc : x = y) (h : V d μ (t, (ls, (st, σ))) Q) : V d μ (pc, (ls, (.inl y :: .inl x :: st, σ))) Q := v_ic_eq hb hd hz ht rfl (fun _ => h) (fun e => absurd hc e)
theorem v_ic_eq_n {d μ pc n : Nat} {B : ByteArray} {ls : PL} {st : List PV} {σ : PS} {Q : Option PV → PS → Prop} {off : Int} {x y : Int} (hb : mB μ = B) (hd : ClassFile.decode B pc = .ok (.if_icmp .eq off, 3)) (hz : 0 ≤ (pc : Int) + off) (hn : pc + 3 = n) (hc : ¬ (x = y)) (h : V d μ (n, (ls, (st, σ))) Q) : V d μ (pc, (ls, (.inl y :: .inl x :: st, σ))) Q := v_ic_eq hb hd hz rfl hn (fun e => absurd e hc) (fun _ => h)
theorem v_if_ne {d μ pc n t : Nat} {B : ByteArray} {ls : PL} {st : List PV} {σ : PS} {Q : Option PV → PS → Prop} {off : Int} {x : Int} (hb : mB μ = B) (hd : ClassFile.decode B pc = .ok (.ifCond .ne off, 3)) (hz : 0 ≤ (pc : Int) + off) (ht : ((pc : Int) + off).toNat = t) (hn : pc + 3 = n) (h1 : ¬ x = 0 → V d μ (t, (ls, (st, σ))) Q) (h2 : x = 0 → V d μ (n, (ls, (st, σ))) Q) : V d μ (pc, (ls, (.inl x :: st, σ))) Q := by
  subst hn
  subst ht
  refine V_dec hb hd ?_
  rw [sI_ifCond, SP_gd, i1_s]
  refine ⟨⟨rfl, hz⟩, ?_⟩
  by_cases hc : ¬ x = 0
  · rw [if_pos ((ic_ne x 0).mpr hc)]
    exact h1 hc
  · rw [if_neg (fun e => hc ((ic_ne x 0).mp e))]
    exact h2 (Decidable.not_not.mp hc)
theorem v_if_ne_y {d μ pc t : Nat} {B : ByteArray} {ls : PL} {st : List PV} {σ : PS} {Q : Option PV → PS → Prop} {off : Int} {x : Int} (hb : mB μ = B) (hd : ClassFile.decode B pc = .ok (.ifCond .ne off, 3)) (hz : 0 ≤ (pc : Int) + off) (ht : ((pc : Int) + off).toNat = t) (hc : ¬ x = 0) (h : V d μ (t, (ls, (st, σ))) Q) : V d μ (pc, (ls, (.inl x :: st, σ))) Q := v_if_ne hb hd hz ht rfl (fun _ => h) (fun e => absurd e hc)
theorem v_if_ne_n {d μ pc n : Nat} {B : ByteArray} {ls : PL} {st : List PV} {σ : PS} {Q : Option PV → PS → Prop} {off : Int} {x : Int} (hb : mB μ = B) (hd : ClassFile.decode B pc = .ok (.ifCond .ne off, 3)) (hz : 0 ≤ (pc : Int) + off) (hn : pc + 3 = n) (hc : ¬ (¬ x = 0)) (h : V d μ (n, (ls, (st, σ))) Q) : V d μ (pc, (ls, (.inl x :: st, σ))) Q := v_if_ne hb hd hz rfl hn (fun e => absurd e hc) (fun _ => h)
theorem v_ic_ne {d μ pc n t : Nat} {B : ByteArray} {ls : PL} {st : List PV} {σ : PS} {Q : Option PV → PS → Prop} {off : Int} {x y : Int} (hb : mB μ = B) (hd : ClassFile.decode B pc = .ok (.if_icmp .ne off, 3)) (hz : 0 ≤ (pc : Int) + off) (ht : ((pc : Int) + off).toNat = t) (hn : pc + 3 = n) (h1 : ¬ x = y → V d μ (t, (ls, (st, σ))) Q) (h2 : x = y → V d μ (n, (ls, (st, σ))) Q) : V d μ (pc, (ls, (.inl y :: .inl x :: st, σ))) Q := by
  subst hn
  subst ht
  refine V_dec hb hd ?_
  rw [sI_if_icmp, SP_gd, i2_s]
  refine ⟨⟨rfl, hz⟩, ?_⟩
  by_cases hc : ¬ x = y
  · rw [if_pos ((ic_ne x y).mpr hc)]
    exact h1 hc
  · rw [if_neg (fun e => hc ((ic_ne x y).mp e))]
    exact h2 (Decidable.not_not.mp hc)
theorem v_ic_ne_y {d μ pc t : Nat} {B : ByteArray} {ls : PL} {st : List PV} {σ : PS} {Q : Option PV → PS → Prop} {off : Int} {x y : Int} (hb : mB μ = B) (hd : ClassFile.decode B pc = .ok (.if_icmp .ne off, 3)) (hz : 0 ≤ (pc : Int) + off) (ht : ((pc : Int) + off).toNat = t) (hc : ¬ x = y) (h : V d μ (t, (ls, (st, σ))) Q) : V d μ (pc, (ls, (.inl y :: .inl x :: st, σ))) Q := v_ic_ne hb hd hz ht rfl (fun _ => h) (fun e => absurd e hc)
theorem v_ic_ne_n {d μ pc n : Nat} {B : ByteArray} {ls : PL} {st : List PV} {σ : PS} {Q : Option PV → PS → Prop} {off : Int} {x y : Int} (hb : mB μ = B) (hd : ClassFile.decode B pc = .ok (.if_icmp .ne off, 3)) (hz : 0 ≤ (pc : Int) + off) (hn : pc + 3 = n) (hc : ¬ (¬ x = y)) (h : V d μ (n, (ls, (st, σ))) Q) : V d μ (pc, (ls, (.inl y :: .inl x :: st, σ))) Q := v_ic_ne hb hd hz rfl hn (fun e => absurd e hc) (fun _ => h)
theorem v_if_lt {d μ pc n t : Nat} {B : ByteArray} {ls : PL} {st : List PV} {σ : PS} {Q : Option PV → PS → Prop} {off : Int} {x : Int} (hb : mB μ = B) (hd : ClassFile.decode B pc = .ok (.ifCond .lt off, 3)) (hz : 0 ≤ (pc : Int) + off) (ht : ((pc : Int) + off).toNat = t) (hn : pc + 3 = n) (h1 : x < 0 → V d μ (t, (ls, (st, σ))) Q) (h2 : ¬ (x < 0) → V d μ (n, (ls, (st, σ))) Q) : V d μ (pc, (ls, (.inl x :: st, σ))) Q := by
  subst hn
  subst ht
  refine V_dec hb hd ?_
  rw [sI_ifCond, SP_gd, i1_s]
  refine ⟨⟨rfl, hz⟩, ?_⟩
  by_cases hc : x < 0
  · rw [if_pos ((ic_lt x 0).mpr hc)]
    exact h1 hc
  · rw [if_neg (fun e => hc ((ic_lt x 0).mp e))]
    exact h2 hc
theorem v_if_lt_y {d μ pc t : Nat} {B : ByteArray} {ls : PL} {st : List PV} {σ : PS} {Q : Option PV → PS → Prop} {off : Int} {x : Int} (hb : mB μ = B) (hd : ClassFile.decode B pc = .ok (.ifCond .lt off, 3)) (hz : 0 ≤ (pc : Int) + off) (ht : ((pc : Int) + off).toNat = t) (hc : x < 0) (h : V d μ (t, (ls, (st, σ))) Q) : V d μ (pc, (ls, (.inl x :: st, σ))) Q := v_if_lt hb hd hz ht rfl (fun _ => h) (fun e => absurd hc e)
theorem v_if_lt_n {d μ pc n : Nat} {B : ByteArray} {ls : PL} {st : List PV} {σ : PS} {Q : Option PV → PS → Prop} {off : Int} {x : Int} (hb : mB μ = B) (hd : ClassFile.decode B pc = .ok (.ifCond .lt off, 3)) (hz : 0 ≤ (pc : Int) + off) (hn : pc + 3 = n) (hc : ¬ (x < 0)) (h : V d μ (n, (ls, (st, σ))) Q) : V d μ (pc, (ls, (.inl x :: st, σ))) Q := v_if_lt hb hd hz rfl hn (fun e => absurd e hc) (fun _ => h)
theorem v_ic_lt {d μ pc n t : Nat} {B : ByteArray} {ls : PL} {st : List PV} {σ : PS} {Q : Option PV → PS → Prop} {off : Int} {x y : Int} (hb : mB μ = B) (hd : ClassFile.decode B pc = .ok (.if_icmp .lt off, 3)) (hz : 0 ≤ (pc : Int) + off) (ht : ((pc : Int) + off).toNat = t) (hn : pc + 3 = n) (h1 : x < y → V d μ (t, (ls, (st, σ))) Q) (h2 : ¬ (x < y) → V d μ (n, (ls, (st, σ))) Q) : V d μ (pc, (ls, (.inl y :: .inl x :: st, σ))) Q := by
  subst hn
  subst ht
  refine V_dec hb hd ?_
  rw [sI_if_icmp, SP_gd, i2_s]
  refine ⟨⟨rfl, hz⟩, ?_⟩
  by_cases hc : x < y
  · rw [if_pos ((ic_lt x y).mpr hc)]
    exact h1 hc
  · rw [if_neg (fun e => hc ((ic_lt x y).mp e))]
    exact h2 hc
theorem v_ic_lt_y {d μ pc t : Nat} {B : ByteArray} {ls : PL} {st : List PV} {σ : PS} {Q : Option PV → PS → Prop} {off : Int} {x y : Int} (hb : mB μ = B) (hd : ClassFile.decode B pc = .ok (.if_icmp .lt off, 3)) (hz : 0 ≤ (pc : Int) + off) (ht : ((pc : Int) + off).toNat = t) (hc : x < y) (h : V d μ (t, (ls, (st, σ))) Q) : V d μ (pc, (ls, (.inl y :: .inl x :: st, σ))) Q := v_ic_lt hb hd hz ht rfl (fun _ => h) (fun e => absurd hc e)
theorem v_ic_lt_n {d μ pc n : Nat} {B : ByteArray} {ls : PL} {st : List PV} {σ : PS} {Q : Option PV → PS → Prop} {off : Int} {x y : Int} (hb : mB μ = B) (hd : ClassFile.decode B pc = .ok (.if_icmp .lt off, 3)) (hz : 0 ≤ (pc : Int) + off) (hn : pc + 3 = n) (hc : ¬ (x < y)) (h : V d μ (n, (ls, (st, σ))) Q) : V d μ (pc, (ls, (.inl y :: .inl x :: st, σ))) Q := v_ic_lt hb hd hz rfl hn (fun e => absurd e hc) (fun _ => h)
theorem v_if_ge {d μ pc n t : Nat} {B : ByteArray} {ls : PL} {st : List PV} {σ : PS} {Q : Option PV → PS → Prop} {off : Int} {x : Int} (hb : mB μ = B) (hd : ClassFile.decode B pc = .ok (.ifCond .ge off, 3)) (hz : 0 ≤ (pc : Int) + off) (ht : ((pc : Int) + off).toNat = t) (hn : pc + 3 = n) (h1 : 0 ≤ x → V d μ (t, (ls, (st, σ))) Q) (h2 : ¬ (0 ≤ x) → V d μ (n, (ls, (st, σ))) Q) : V d μ (pc, (ls, (.inl x :: st, σ))) Q := by
  subst hn
  subst ht
  refine V_dec hb hd ?_
  rw [sI_ifCond, SP_gd, i1_s]
  refine ⟨⟨rfl, hz⟩, ?_⟩
  by_cases hc : 0 ≤ x
  · rw [if_pos ((ic_ge x 0).mpr hc)]
    exact h1 hc
  · rw [if_neg (fun e => hc ((ic_ge x 0).mp e))]
    exact h2 hc
theorem v_if_ge_y {d μ pc t : Nat} {B : ByteArray} {ls : PL} {st : List PV} {σ : PS} {Q : Option PV → PS → Prop} {off : Int} {x : Int} (hb : mB μ = B) (hd : ClassFile.decode B pc = .ok (.ifCond .ge off, 3)) (hz : 0 ≤ (pc : Int) + off) (ht : ((pc : Int) + off).toNat = t) (hc : 0 ≤ x) (h : V d μ (t, (ls, (st, σ))) Q) : V d μ (pc, (ls, (.inl x :: st, σ))) Q := v_if_ge hb hd hz ht rfl (fun _ => h) (fun e => absurd hc e)
theorem v_if_ge_n {d μ pc n : Nat} {B : ByteArray} {ls : PL} {st : List PV} {σ : PS} {Q : Option PV → PS → Prop} {off : Int} {x : Int} (hb : mB μ = B) (hd : ClassFile.decode B pc = .ok (.ifCond .ge off, 3)) (hz : 0 ≤ (pc : Int) + off) (hn : pc + 3 = n) (hc : ¬ (0 ≤ x)) (h : V d μ (n, (ls, (st, σ))) Q) : V d μ (pc, (ls, (.inl x :: st, σ))) Q := v_if_ge hb hd hz rfl hn (fun e => absurd e hc) (fun _ => h)
theorem v_ic_ge {d μ pc n t : Nat} {B : ByteArray} {ls : PL} {st : List PV} {σ : PS} {Q : Option PV → PS → Prop} {off : Int} {x y : Int} (hb : mB μ = B) (hd : ClassFile.decode B pc = .ok (.if_icmp .ge off, 3)) (hz : 0 ≤ (pc : Int) + off) (ht : ((pc : Int) + off).toNat = t) (hn : pc + 3 = n) (h1 : y ≤ x → V d μ (t, (ls, (st, σ))) Q) (h2 : ¬ (y ≤ x) → V d μ (n, (ls, (st, σ))) Q) : V d μ (pc, (ls, (.inl y :: .inl x :: st, σ))) Q := by
  subst hn
  subst ht
  refine V_dec hb hd ?_
  rw [sI_if_icmp, SP_gd, i2_s]
  refine ⟨⟨rfl, hz⟩, ?_⟩
  by_cases hc : y ≤ x
  · rw [if_pos ((ic_ge x y).mpr hc)]
    exact h1 hc
  · rw [if_neg (fun e => hc ((ic_ge x y).mp e))]
    exact h2 hc
theorem v_ic_ge_y {d μ pc t : Nat} {B : ByteArray} {ls : PL} {st : List PV} {σ : PS} {Q : Option PV → PS → Prop} {off : Int} {x y : Int} (hb : mB μ = B) (hd : ClassFile.decode B pc = .ok (.if_icmp .ge off, 3)) (hz : 0 ≤ (pc : Int) + off) (ht : ((pc : Int) + off).toNat = t) (hc : y ≤ x) (h : V d μ (t, (ls, (st, σ))) Q) : V d μ (pc, (ls, (.inl y :: .inl x :: st, σ))) Q := v_ic_ge hb hd hz ht rfl (fun _ => h) (fun e => absurd hc e)
theorem v_ic_ge_n {d μ pc n : Nat} {B : ByteArray} {ls : PL} {st : List PV} {σ : PS} {Q : Option PV → PS → Prop} {off : Int} {x y : Int} (hb : mB μ = B) (hd : ClassFile.decode B pc = .ok (.if_icmp .ge off, 3)) (hz : 0 ≤ (pc : Int) + off) (hn : pc + 3 = n) (hc : ¬ (y ≤ x)) (h : V d μ (n, (ls, (st, σ))) Q) : V d μ (pc, (ls, (.inl y :: .inl x :: st, σ))) Q := v_ic_ge hb hd hz rfl hn (fun e => absurd e hc) (fun _ => h)
theorem v_if_gt {d μ pc n t : Nat} {B : ByteArray} {ls : PL} {st : List PV} {σ : PS} {Q : Option PV → PS → Prop} {off : Int} {x : Int} (hb : mB μ = B) (hd : ClassFile.decode B pc = .ok (.ifCond .gt off, 3)) (hz : 0 ≤ (pc : Int) + off) (ht : ((pc : Int) + off).toNat = t) (hn : pc + 3 = n) (h1 : 0 < x → V d μ (t, (ls, (st, σ))) Q) (h2 : ¬ (0 < x) → V d μ (n, (ls, (st, σ))) Q) : V d μ (pc, (ls, (.inl x :: st, σ))) Q := by
  subst hn
  subst ht
  refine V_dec hb hd ?_
  rw [sI_ifCond, SP_gd, i1_s]
  refine ⟨⟨rfl, hz⟩, ?_⟩
  by_cases hc : 0 < x
  · rw [if_pos ((ic_gt x 0).mpr hc)]
    exact h1 hc
  · rw [if_neg (fun e => hc ((ic_gt x 0).mp e))]
    exact h2 hc
theorem v_if_gt_y {d μ pc t : Nat} {B : ByteArray} {ls : PL} {st : List PV} {σ : PS} {Q : Option PV → PS → Prop} {off : Int} {x : Int} (hb : mB μ = B) (hd : ClassFile.decode B pc = .ok (.ifCond .gt off, 3)) (hz : 0 ≤ (pc : Int) + off) (ht : ((pc : Int) + off).toNat = t) (hc : 0 < x) (h : V d μ (t, (ls, (st, σ))) Q) : V d μ (pc, (ls, (.inl x :: st, σ))) Q := v_if_gt hb hd hz ht rfl (fun _ => h) (fun e => absurd hc e)
theorem v_if_gt_n {d μ pc n : Nat} {B : ByteArray} {ls : PL} {st : List PV} {σ : PS} {Q : Option PV → PS → Prop} {off : Int} {x : Int} (hb : mB μ = B) (hd : ClassFile.decode B pc = .ok (.ifCond .gt off, 3)) (hz : 0 ≤ (pc : Int) + off) (hn : pc + 3 = n) (hc : ¬ (0 < x)) (h : V d μ (n, (ls, (st, σ))) Q) : V d μ (pc, (ls, (.inl x :: st, σ))) Q := v_if_gt hb hd hz rfl hn (fun e => absurd e hc) (fun _ => h)
theorem v_ic_gt {d μ pc n t : Nat} {B : ByteArray} {ls : PL} {st : List PV} {σ : PS} {Q : Option PV → PS → Prop} {off : Int} {x y : Int} (hb : mB μ = B) (hd : ClassFile.decode B pc = .ok (.if_icmp .gt off, 3)) (hz : 0 ≤ (pc : Int) + off) (ht : ((pc : Int) + off).toNat = t) (hn : pc + 3 = n) (h1 : y < x → V d μ (t, (ls, (st, σ))) Q) (h2 : ¬ (y < x) → V d μ (n, (ls, (st, σ))) Q) : V d μ (pc, (ls, (.inl y :: .inl x :: st, σ))) Q := by
  subst hn
  subst ht
  refine V_dec hb hd ?_
  rw [sI_if_icmp, SP_gd, i2_s]
  refine ⟨⟨rfl, hz⟩, ?_⟩
  by_cases hc : y < x
  · rw [if_pos ((ic_gt x y).mpr hc)]
    exact h1 hc
  · rw [if_neg (fun e => hc ((ic_gt x y).mp e))]
    exact h2 hc
theorem v_ic_gt_y {d μ pc t : Nat} {B : ByteArray} {ls : PL} {st : List PV} {σ : PS} {Q : Option PV → PS → Prop} {off : Int} {x y : Int} (hb : mB μ = B) (hd : ClassFile.decode B pc = .ok (.if_icmp .gt off, 3)) (hz : 0 ≤ (pc : Int) + off) (ht : ((pc : Int) + off).toNat = t) (hc : y < x) (h : V d μ (t, (ls, (st, σ))) Q) : V d μ (pc, (ls, (.inl y :: .inl x :: st, σ))) Q := v_ic_gt hb hd hz ht rfl (fun _ => h) (fun e => absurd hc e)
theorem v_ic_gt_n {d μ pc n : Nat} {B : ByteArray} {ls : PL} {st : List PV} {σ : PS} {Q : Option PV → PS → Prop} {off : Int} {x y : Int} (hb : mB μ = B) (hd : ClassFile.decode B pc = .ok (.if_icmp .gt off, 3)) (hz : 0 ≤ (pc : Int) + off) (hn : pc + 3 = n) (hc : ¬ (y < x)) (h : V d μ (n, (ls, (st, σ))) Q) : V d μ (pc, (ls, (.inl y :: .inl x :: st, σ))) Q := v_ic_gt hb hd hz rfl hn (fun e => absurd e hc) (fun _ => h)
theorem v_if_le {d μ pc n t : Nat} {B : ByteArray} {ls : PL} {st : List PV} {σ : PS} {Q : Option PV → PS → Prop} {off : Int} {x : Int} (hb : mB μ = B) (hd : ClassFile.decode B pc = .ok (.ifCond .le off, 3)) (hz : 0 ≤ (pc : Int) + off) (ht : ((pc : Int) + off).toNat = t) (hn : pc + 3 = n) (h1 : x ≤ 0 → V d μ (t, (ls, (st, σ))) Q) (h2 : ¬ (x ≤ 0) → V d μ (n, (ls, (st, σ))) Q) : V d μ (pc, (ls, (.inl x :: st, σ))) Q := by
  subst hn
  subst ht
  refine V_dec hb hd ?_
  rw [sI_ifCond, SP_gd, i1_s]
  refine ⟨⟨rfl, hz⟩, ?_⟩
  by_cases hc : x ≤ 0
  · rw [if_pos ((ic_le x 0).mpr hc)]
    exact h1 hc
  · rw [if_neg (fun e => hc ((ic_le x 0).mp e))]
    exact h2 hc
theorem v_if_le_y {d μ pc t : Nat} {B : ByteArray} {ls : PL} {st : List PV} {σ : PS} {Q : Option PV → PS → Prop} {off : Int} {x : Int} (hb : mB μ = B) (hd : ClassFile.decode B pc = .ok (.ifCond .le off, 3)) (hz : 0 ≤ (pc : Int) + off) (ht : ((pc : Int) + off).toNat = t) (hc : x ≤ 0) (h : V d μ (t, (ls, (st, σ))) Q) : V d μ (pc, (ls, (.inl x :: st, σ))) Q := v_if_le hb hd hz ht rfl (fun _ => h) (fun e => absurd hc e)
theorem v_if_le_n {d μ pc n : Nat} {B : ByteArray} {ls : PL} {st : List PV} {σ : PS} {Q : Option PV → PS → Prop} {off : Int} {x : Int} (hb : mB μ = B) (hd : ClassFile.decode B pc = .ok (.ifCond .le off, 3)) (hz : 0 ≤ (pc : Int) + off) (hn : pc + 3 = n) (hc : ¬ (x ≤ 0)) (h : V d μ (n, (ls, (st, σ))) Q) : V d μ (pc, (ls, (.inl x :: st, σ))) Q := v_if_le hb hd hz rfl hn (fun e => absurd e hc) (fun _ => h)
theorem v_ic_le {d μ pc n t : Nat} {B : ByteArray} {ls : PL} {st : List PV} {σ : PS} {Q : Option PV → PS → Prop} {off : Int} {x y : Int} (hb : mB μ = B) (hd : ClassFile.decode B pc = .ok (.if_icmp .le off, 3)) (hz : 0 ≤ (pc : Int) + off) (ht : ((pc : Int) + off).toNat = t) (hn : pc + 3 = n) (h1 : x ≤ y → V d μ (t, (ls, (st, σ))) Q) (h2 : ¬ (x ≤ y) → V d μ (n, (ls, (st, σ))) Q) : V d μ (pc, (ls, (.inl y :: .inl x :: st, σ))) Q := by
  subst hn
  subst ht
  refine V_dec hb hd ?_
  rw [sI_if_icmp, SP_gd, i2_s]
  refine ⟨⟨rfl, hz⟩, ?_⟩
  by_cases hc : x ≤ y
  · rw [if_pos ((ic_le x y).mpr hc)]
    exact h1 hc
  · rw [if_neg (fun e => hc ((ic_le x y).mp e))]
    exact h2 hc
theorem v_ic_le_y {d μ pc t : Nat} {B : ByteArray} {ls : PL} {st : List PV} {σ : PS} {Q : Option PV → PS → Prop} {off : Int} {x y : Int} (hb : mB μ = B) (hd : ClassFile.decode B pc = .ok (.if_icmp .le off, 3)) (hz : 0 ≤ (pc : Int) + off) (ht : ((pc : Int) + off).toNat = t) (hc : x ≤ y) (h : V d μ (t, (ls, (st, σ))) Q) : V d μ (pc, (ls, (.inl y :: .inl x :: st, σ))) Q := v_ic_le hb hd hz ht rfl (fun _ => h) (fun e => absurd hc e)
theorem v_ic_le_n {d μ pc n : Nat} {B : ByteArray} {ls : PL} {st : List PV} {σ : PS} {Q : Option PV → PS → Prop} {off : Int} {x y : Int} (hb : mB μ = B) (hd : ClassFile.decode B pc = .ok (.if_icmp .le off, 3)) (hz : 0 ≤ (pc : Int) + off) (hn : pc + 3 = n) (hc : ¬ (x ≤ y)) (h : V d μ (n, (ls, (st, σ))) Q) : V d μ (pc, (ls, (.inl y :: .inl x :: st, σ))) Q := v_ic_le hb hd hz rfl hn (fun e => absurd e hc) (fun _ => h)
theorem v_goto {d μ pc t : Nat} {B : ByteArray} {ls : PL} {st : List PV} {σ : PS} {Q : Option PV → PS → Prop} {off : Int} (hb : mB μ = B) (hd : ClassFile.decode B pc = .ok (.goto off, 3)) (hz : 0 ≤ (pc : Int) + off) (ht : ((pc : Int) + off).toNat = t) (h : V d μ (t, (ls, (st, σ))) Q) : V d μ (pc, (ls, (st, σ))) Q := by
  subst ht
  refine V_dec hb hd ?_
  rw [sI_goto, SP_gd]
  refine ⟨rfl, ?_⟩
  unfold jmp
  rw [SP_gd]
  exact ⟨hz, h⟩
theorem v_tsw {d μ pc len : Nat} {B : ByteArray} {ls : PL} {st : List PV} {σ : PS} {Q : Option PV → PS → Prop} {x dflt lo hi : Int} {offs : Array Int} (hb : mB μ = B) (hd : ClassFile.decode B pc = .ok (.tableswitch dflt lo hi offs, len)) (hh : hi = lo + offs.toList.length - 1) (h : tsP x (fun off => jmP d μ pc off ls st σ Q) (jmP d μ pc dflt ls st σ Q) lo offs.toList) : V d μ (pc, (ls, (.inl x :: st, σ))) Q := by
  refine V_dec hb hd ?_
  rw [sI_tableswitch, i1_s, SP_gd]
  exact ⟨hh, ts_SP _ _ h⟩
theorem v_lsw {d μ pc len : Nat} {B : ByteArray} {ls : PL} {st : List PV} {σ : PS} {Q : Option PV → PS → Prop} {x dflt : Int} {ps : Array (Int × Int)} (hb : mB μ = B) (hd : ClassFile.decode B pc = .ok (.lookupswitch dflt ps, len)) (hh : (ps.toList.zip (ps.toList.drop 1)).all (fun (a, next) => a.1 < next.1) = true) (h : lsP x (fun off => jmP d μ pc off ls st σ Q) (jmP d μ pc dflt ls st σ Q) ps.toList) : V d μ (pc, (ls, (.inl x :: st, σ))) Q := by
  refine V_dec hb hd ?_
  rw [sI_lookupswitch, i1_s, SP_gd]
  exact ⟨hh, ls_SP _ h⟩
theorem v_gf_i {d μ pc n : Nat} {B : ByteArray} {ls : PL} {st : List PV} {m : PM} {dy : List (Nat × Nat)} {L : Nat} {Q : Option PV → PS → Prop} {idx ow ci k g : Nat} {o kz : Int} (hb : mB μ = B) (hd : ClassFile.decode B pc = .ok (.getfield idx, 3)) (ho : mO μ = ow) (hf : fld ow idx = some (ci, k)) (hg : ftg ci k = g) (hg2 : Nat.beq g 2 = false) (hs : shp (m, (none, (dy, L))) o = (0, ci)) (hk : (k : Int) = kz) (hn : pc + 3 = n) (h : V d μ (n, (ls, (.inl (m o kz) :: st, (m, (none, (dy, L)))))) Q) : V d μ (pc, (ls, (.inr (.inr o) :: st, (m, (none, (dy, L)))))) Q := by
  subst hn
  refine V_dec hb hd ?_
  subst hk
  have hv1 : ¬ ftg ci k = 2 := fun e => by rw [hg] at e; rw [e] at hg2; cases hg2
  rw [sI_getfield, SP_gd, r1_s, ho, hf]
  refine ⟨rfl, ?_⟩
  show SP (gd _ _) _ _ _
  rw [SP_gd, fvl_s, if_neg hv1]
  exact ⟨hs, h⟩
theorem v_gf_s {d μ pc n : Nat} {B : ByteArray} {ls : PL} {st : List PV} {m : PM} {dy : List (Nat × Nat)} {L : Nat} {Q : Option PV → PS → Prop} {idx ow ci k : Nat} {o r kz : Int} (hb : mB μ = B) (hd : ClassFile.decode B pc = .ok (.getfield idx, 3)) (ho : mO μ = ow) (hf : fld ow idx = some (ci, k)) (hg : ftg ci k = 2) (hs : shp (m, (none, (dy, L))) o = (0, ci)) (hk : (k : Int) = kz) (hr : stat o kz = some r) (hn : pc + 3 = n) (h : V d μ (n, (ls, (.inr (.inr r) :: st, (m, (none, (dy, L)))))) Q) : V d μ (pc, (ls, (.inr (.inr o) :: st, (m, (none, (dy, L)))))) Q := by
  subst hn
  refine V_dec hb hd ?_
  subst hk
  rw [sI_getfield, SP_gd, r1_s, ho, hf]
  refine ⟨rfl, ?_⟩
  show SP (gd _ _) _ _ _
  rw [SP_gd, fvl_s, if_pos hg, rf_s, hr]
  exact ⟨hs, h⟩
theorem v_gf_d {d μ pc n : Nat} {B : ByteArray} {ls : PL} {st : List PV} {m : PM} {dy : List (Nat × Nat)} {L : Nat} {Q : Option PV → PS → Prop} {idx ow ci k : Nat} {o kz : Int} (hb : mB μ = B) (hd : ClassFile.decode B pc = .ok (.getfield idx, 3)) (ho : mO μ = ow) (hf : fld ow idx = some (ci, k)) (hg : ftg ci k = 2) (hs : shp (m, (none, (dy, L))) o = (0, ci)) (hk : (k : Int) = kz) (hr : stat o kz = none) (hn : pc + 3 = n) (h : V d μ (n, (ls, (.inr (.inr (m o kz)) :: st, (m, (none, (dy, L)))))) Q) : V d μ (pc, (ls, (.inr (.inr o) :: st, (m, (none, (dy, L)))))) Q := by
  subst hn
  refine V_dec hb hd ?_
  subst hk
  rw [sI_getfield, SP_gd, r1_s, ho, hf]
  refine ⟨rfl, ?_⟩
  show SP (gd _ _) _ _ _
  rw [SP_gd, fvl_s, if_pos hg, rf_s, hr]
  exact ⟨hs, h⟩
theorem v_pf_i {d μ pc n : Nat} {B : ByteArray} {ls : PL} {st : List PV} {m : PM} {dy : List (Nat × Nat)} {L : Nat} {Q : Option PV → PS → Prop} {idx ow ci k : Nat} {o z kz : Int} (hb : mB μ = B) (hd : ClassFile.decode B pc = .ok (.putfield idx, 3)) (ho : mO μ = ow) (hf : fld ow idx = some (ci, k)) (hg : ftg ci k = 0) (hfin : ffn ci k = false ∨ (mI μ = true ∧ mO μ = ci)) (hs : shp (m, (none, (dy, L))) o = (0, ci)) (h0 : 0 ≤ o) (hk : (k : Int) = kz) (hn : pc + 3 = n) (h : V d μ (n, (ls, (st, (setA m o (ud (m o) kz z), (none, (dy, L)))))) Q) : V d μ (pc, (ls, (.inl z :: .inr (.inr o) :: st, (m, (none, (dy, L)))))) Q := by
  subst hn
  refine V_dec hb hd ?_
  subst hk
  rw [sI_putfield, SP_gd, vr_s, ho, hf]
  refine ⟨rfl, ?_⟩
  show SP (gd (0 ≤ o ∧ shp (m, (none, (dy, L))) o = (0, ci) ∧ (ffn ci k = false ∨ (mI μ = true ∧ ow = ci))) (putv (m, (none, (dy, L))) o k (.inl z) (fun σ' => nx (pc + 3) ls st σ') (ftg ci k))) _ _ _
  rw [SP_gd, hg, put_0]
  rw [ho] at hfin
  rw [← up_ud] at h
  exact ⟨⟨h0, hs, hfin⟩, h⟩
theorem v_pf_z {d μ pc n : Nat} {B : ByteArray} {ls : PL} {st : List PV} {m : PM} {dy : List (Nat × Nat)} {L : Nat} {Q : Option PV → PS → Prop} {idx ow ci k : Nat} {o z kz : Int} (hb : mB μ = B) (hd : ClassFile.decode B pc = .ok (.putfield idx, 3)) (ho : mO μ = ow) (hf : fld ow idx = some (ci, k)) (hg : ftg ci k = 3) (hfin : ffn ci k = false ∨ (mI μ = true ∧ mO μ = ci)) (hs : shp (m, (none, (dy, L))) o = (0, ci)) (h0 : 0 ≤ o) (hk : (k : Int) = kz) (h01 : z = 0 ∨ z = 1) (hn : pc + 3 = n) (h : V d μ (n, (ls, (st, (setA m o (ud (m o) kz z), (none, (dy, L)))))) Q) : V d μ (pc, (ls, (.inl z :: .inr (.inr o) :: st, (m, (none, (dy, L)))))) Q := by
  subst hn
  refine V_dec hb hd ?_
  subst hk
  rw [sI_putfield, SP_gd, vr_s, ho, hf]
  refine ⟨rfl, ?_⟩
  show SP (gd (0 ≤ o ∧ shp (m, (none, (dy, L))) o = (0, ci) ∧ (ffn ci k = false ∨ (mI μ = true ∧ ow = ci))) (putv (m, (none, (dy, L))) o k (.inl z) (fun σ' => nx (pc + 3) ls st σ') (ftg ci k))) _ _ _
  rw [SP_gd, hg, put_3, SP_gd]
  rw [ho] at hfin
  rw [← up_ud] at h
  exact ⟨⟨h0, hs, hfin⟩, ⟨h01, h⟩⟩
theorem v_pf_r {d μ pc n : Nat} {B : ByteArray} {ls : PL} {st : List PV} {m : PM} {dy : List (Nat × Nat)} {L : Nat} {Q : Option PV → PS → Prop} {idx ow ci k : Nat} {o z kz : Int} (hb : mB μ = B) (hd : ClassFile.decode B pc = .ok (.putfield idx, 3)) (ho : mO μ = ow) (hf : fld ow idx = some (ci, k)) (hg : ftg ci k = 2) (hfin : ffn ci k = false ∨ (mI μ = true ∧ mO μ = ci)) (hs : shp (m, (none, (dy, L))) o = (0, ci)) (h0 : 0 ≤ o) (hk : (k : Int) = kz) (hz0 : -1 ≤ z) (hst : stat o kz = none) (hn : pc + 3 = n) (h : V d μ (n, (ls, (st, (setA m o (ud (m o) kz z), (none, (dy, L)))))) Q) : V d μ (pc, (ls, (.inr (.inr z) :: .inr (.inr o) :: st, (m, (none, (dy, L)))))) Q := by
  subst hn
  refine V_dec hb hd ?_
  subst hk
  rw [sI_putfield, SP_gd, vr_s, ho, hf]
  refine ⟨rfl, ?_⟩
  show SP (gd (0 ≤ o ∧ shp (m, (none, (dy, L))) o = (0, ci) ∧ (ffn ci k = false ∨ (mI μ = true ∧ ow = ci))) (putv (m, (none, (dy, L))) o k (.inr (.inr z)) (fun σ' => nx (pc + 3) ls st σ') (ftg ci k))) _ _ _
  rw [SP_gd, hg, put_2, SP_gd]
  rw [ho] at hfin
  rw [← up_ud] at h
  exact ⟨⟨h0, hs, hfin⟩, ⟨hz0, fun _ => hst⟩, h⟩
theorem v_iaload {d μ pc n : Nat} {B : ByteArray} {ls : PL} {st : List PV} {m : PM} {dy : List (Nat × Nat)} {L : Nat} {Q : Option PV → PS → Prop} {len : Nat} {a i lz : Int} (hb : mB μ = B) (hd : ClassFile.decode B pc = .ok (.iaload, 1)) (hs : shp (m, (none, (dy, L))) a = (1, len)) (hL : (len : Int) = lz) (hi : 0 ≤ i ∧ i < lz) (hn : pc + 1 = n) (h : V d μ (n, (ls, (.inl (m a i) :: st, (m, (none, (dy, L)))))) Q) : V d μ (pc, (ls, (.inl i :: .inr (.inr a) :: st, (m, (none, (dy, L)))))) Q := by
  subst hn
  refine V_dec hb hd ?_
  subst hL
  rw [sI_iaload, SP_gd, ir_s, SP_gd, hs]
  exact ⟨rfl, ⟨rfl, hi⟩, h⟩
theorem v_laload {d μ pc n : Nat} {B : ByteArray} {ls : PL} {st : List PV} {m : PM} {dy : List (Nat × Nat)} {L : Nat} {Q : Option PV → PS → Prop} {len : Nat} {a i lz : Int} (hb : mB μ = B) (hd : ClassFile.decode B pc = .ok (.laload, 1)) (hs : shp (m, (none, (dy, L))) a = (3, len)) (hL : (len : Int) = lz) (hi : 0 ≤ i ∧ i < lz) (hn : pc + 1 = n) (h : V d μ (n, (ls, (.inr (.inl (m a i)) :: st, (m, (none, (dy, L)))))) Q) : V d μ (pc, (ls, (.inl i :: .inr (.inr a) :: st, (m, (none, (dy, L)))))) Q := by
  subst hn
  refine V_dec hb hd ?_
  subst hL
  rw [sI_laload, SP_gd, ir_s, SP_gd, hs]
  exact ⟨rfl, ⟨rfl, hi⟩, h⟩
theorem v_baload {d μ pc n : Nat} {B : ByteArray} {ls : PL} {st : List PV} {m : PM} {dy : List (Nat × Nat)} {L : Nat} {Q : Option PV → PS → Prop} {len : Nat} {a i lz : Int} (hb : mB μ = B) (hd : ClassFile.decode B pc = .ok (.baload, 1)) (hs : shp (m, (none, (dy, L))) a = (2, len)) (hL : (len : Int) = lz) (hi : 0 ≤ i ∧ i < lz) (hn : pc + 1 = n) (h : V d μ (n, (ls, (.inl (m a i) :: st, (m, (none, (dy, L)))))) Q) : V d μ (pc, (ls, (.inl i :: .inr (.inr a) :: st, (m, (none, (dy, L)))))) Q := by
  subst hn
  refine V_dec hb hd ?_
  subst hL
  rw [sI_baload, SP_gd, ir_s, SP_gd, hs]
  exact ⟨rfl, ⟨Or.inl rfl, hi⟩, h⟩
theorem v_baload7 {d μ pc n : Nat} {B : ByteArray} {ls : PL} {st : List PV} {m : PM} {dy : List (Nat × Nat)} {L : Nat} {Q : Option PV → PS → Prop} {len : Nat} {a i lz : Int} (hb : mB μ = B) (hd : ClassFile.decode B pc = .ok (.baload, 1)) (hs : shp (m, (none, (dy, L))) a = (7, len)) (hL : (len : Int) = lz) (hi : 0 ≤ i ∧ i < lz) (hn : pc + 1 = n) (h : V d μ (n, (ls, (.inl (m a i) :: st, (m, (none, (dy, L)))))) Q) : V d μ (pc, (ls, (.inl i :: .inr (.inr a) :: st, (m, (none, (dy, L)))))) Q := by
  subst hn
  refine V_dec hb hd ?_
  subst hL
  rw [sI_baload, SP_gd, ir_s, SP_gd, hs]
  exact ⟨rfl, ⟨Or.inr rfl, hi⟩, h⟩
theorem v_aald_s {d μ pc n : Nat} {B : ByteArray} {ls : PL} {st : List PV} {m : PM} {dy : List (Nat × Nat)} {L : Nat} {Q : Option PV → PS → Prop} {len tt : Nat} {a i lz r : Int} (hb : mB μ = B) (hd : ClassFile.decode B pc = .ok (.aaload, 1)) (hs : shp (m, (none, (dy, L))) a = (tt, len)) (htt : tt = 4 ∨ tt = 5 ∨ tt = 6) (hL : (len : Int) = lz) (hi : 0 ≤ i ∧ i < lz) (hr : stat a i = some r) (hn : pc + 1 = n) (h : V d μ (n, (ls, (.inr (.inr r) :: st, (m, (none, (dy, L)))))) Q) : V d μ (pc, (ls, (.inl i :: .inr (.inr a) :: st, (m, (none, (dy, L)))))) Q := by
  subst hn
  refine V_dec hb hd ?_
  subst hL
  rw [sI_aaload, SP_gd, ir_s, SP_gd, hs, rf_s, hr]
  exact ⟨rfl, ⟨htt, hi⟩, h⟩
theorem v_aald_d {d μ pc n : Nat} {B : ByteArray} {ls : PL} {st : List PV} {m : PM} {dy : List (Nat × Nat)} {L : Nat} {Q : Option PV → PS → Prop} {len tt : Nat} {a i lz : Int} (hb : mB μ = B) (hd : ClassFile.decode B pc = .ok (.aaload, 1)) (hs : shp (m, (none, (dy, L))) a = (tt, len)) (htt : tt = 4 ∨ tt = 5 ∨ tt = 6) (hL : (len : Int) = lz) (hi : 0 ≤ i ∧ i < lz) (hr : stat a i = none) (hn : pc + 1 = n) (h : V d μ (n, (ls, (.inr (.inr (m a i)) :: st, (m, (none, (dy, L)))))) Q) : V d μ (pc, (ls, (.inl i :: .inr (.inr a) :: st, (m, (none, (dy, L)))))) Q := by
  subst hn
  refine V_dec hb hd ?_
  subst hL
  rw [sI_aaload, SP_gd, ir_s, SP_gd, hs, rf_s, hr]
  exact ⟨rfl, ⟨htt, hi⟩, h⟩
theorem v_iastore {d μ pc n : Nat} {B : ByteArray} {ls : PL} {st : List PV} {m : PM} {dy : List (Nat × Nat)} {L : Nat} {Q : Option PV → PS → Prop} {len : Nat} {a i z lz : Int} (hb : mB μ = B) (hd : ClassFile.decode B pc = .ok (.iastore, 1)) (hs : shp (m, (none, (dy, L))) a = (1, len)) (h0 : 0 ≤ a) (hL : (len : Int) = lz) (hi : 0 ≤ i ∧ i < lz) (hn : pc + 1 = n) (h : V d μ (n, (ls, (st, (setA m a (ud (m a) i z), (none, (dy, L)))))) Q) : V d μ (pc, (ls, (.inl z :: .inl i :: .inr (.inr a) :: st, (m, (none, (dy, L)))))) Q := by
  subst hn
  refine V_dec hb hd ?_
  subst hL
  rw [sI_iastore, SP_gd, vir_s]
  refine ⟨rfl, ?_⟩
  show SP (gd (0 ≤ a ∧ (shp (m, (none, (dy, L))) a).1 = 1 ∧ 0 ≤ i ∧ i < ((shp (m, (none, (dy, L))) a).2 : Int)) (nx (pc + 1) ls st (up m a i z, (none, (dy, L))))) _ _ _
  rw [SP_gd, hs]
  rw [← up_ud] at h
  exact ⟨⟨h0, rfl, hi⟩, h⟩
theorem v_bastore {d μ pc n : Nat} {B : ByteArray} {ls : PL} {st : List PV} {m : PM} {dy : List (Nat × Nat)} {L : Nat} {Q : Option PV → PS → Prop} {len : Nat} {a i z lz : Int} (hb : mB μ = B) (hd : ClassFile.decode B pc = .ok (.bastore, 1)) (hs : shp (m, (none, (dy, L))) a = (2, len)) (h0 : 0 ≤ a) (hL : (len : Int) = lz) (hi : 0 ≤ i ∧ i < lz) (hn : pc + 1 = n) (h : V d μ (n, (ls, (st, (setA m a (ud (m a) i (z % 2)), (none, (dy, L)))))) Q) : V d μ (pc, (ls, (.inl z :: .inl i :: .inr (.inr a) :: st, (m, (none, (dy, L)))))) Q := by
  subst hn
  refine V_dec hb hd ?_
  subst hL
  rw [sI_bastore, SP_gd, vir_s]
  refine ⟨rfl, ?_⟩
  show SP (gd (0 ≤ a ∧ (shp (m, (none, (dy, L))) a).1 = 2 ∧ 0 ≤ i ∧ i < ((shp (m, (none, (dy, L))) a).2 : Int)) (nx (pc + 1) ls st (up m a i (z % 2), (none, (dy, L))))) _ _ _
  rw [SP_gd, hs]
  rw [← up_ud] at h
  exact ⟨⟨h0, rfl, hi⟩, h⟩
theorem v_lastore {d μ pc n : Nat} {B : ByteArray} {ls : PL} {st : List PV} {m : PM} {dy : List (Nat × Nat)} {L : Nat} {Q : Option PV → PS → Prop} {len : Nat} {a i z lz : Int} (hb : mB μ = B) (hd : ClassFile.decode B pc = .ok (.lastore, 1)) (hs : shp (m, (none, (dy, L))) a = (3, len)) (h0 : 0 ≤ a) (hL : (len : Int) = lz) (hi : 0 ≤ i ∧ i < lz) (hn : pc + 1 = n) (h : V d μ (n, (ls, (st, (setA m a (ud (m a) i z), (none, (dy, L)))))) Q) : V d μ (pc, (ls, (.inr (.inl z) :: .inl i :: .inr (.inr a) :: st, (m, (none, (dy, L)))))) Q := by
  subst hn
  refine V_dec hb hd ?_
  subst hL
  rw [sI_lastore, SP_gd, vir_s]
  refine ⟨rfl, ?_⟩
  show SP (gd (0 ≤ a ∧ (shp (m, (none, (dy, L))) a).1 = 3 ∧ 0 ≤ i ∧ i < ((shp (m, (none, (dy, L))) a).2 : Int)) (nx (pc + 1) ls st (up m a i z, (none, (dy, L))))) _ _ _
  rw [SP_gd, hs]
  rw [← up_ud] at h
  exact ⟨⟨h0, rfl, hi⟩, h⟩
theorem v_bastore01 {d μ pc n : Nat} {B : ByteArray} {ls : PL} {st : List PV} {m : PM} {dy : List (Nat × Nat)} {L : Nat} {Q : Option PV → PS → Prop} {len : Nat} {a i z lz : Int} (hb : mB μ = B) (hd : ClassFile.decode B pc = .ok (.bastore, 1)) (hs : shp (m, (none, (dy, L))) a = (2, len)) (h0 : 0 ≤ a) (hL : (len : Int) = lz) (hi : 0 ≤ i ∧ i < lz) (h01 : z = 0 ∨ z = 1) (hn : pc + 1 = n) (h : V d μ (n, (ls, (st, (setA m a (ud (m a) i z), (none, (dy, L)))))) Q) : V d μ (pc, (ls, (.inl z :: .inl i :: .inr (.inr a) :: st, (m, (none, (dy, L)))))) Q := v_bastore hb hd hs h0 hL hi hn (by rw [show z % 2 = z by omega]; exact h)
theorem v_aast {d μ pc n : Nat} {B : ByteArray} {ls : PL} {st : List PV} {m : PM} {dy : List (Nat × Nat)} {L : Nat} {Q : Option PV → PS → Prop} {len tt : Nat} {a i z lz : Int} (hb : mB μ = B) (hd : ClassFile.decode B pc = .ok (.aastore, 1)) (hs : shp (m, (none, (dy, L))) a = (tt, len)) (htt : 4 ≤ tt ∧ tt ≤ 6) (h0 : 0 ≤ a) (hL : (len : Int) = lz) (hi : 0 ≤ i ∧ i < lz) (hz : 0 ≤ z) (hsz : shp (m, (none, (dy, L))) z = (0, ecl tt)) (hst : stat a i = none) (hn : pc + 1 = n) (h : V d μ (n, (ls, (st, (setA m a (ud (m a) i z), (none, (dy, L)))))) Q) : V d μ (pc, (ls, (.inr (.inr z) :: .inl i :: .inr (.inr a) :: st, (m, (none, (dy, L)))))) Q := by
  subst hn
  refine V_dec hb hd ?_
  subst hL
  rw [sI_aastore, SP_gd, vir_s]
  refine ⟨rfl, ?_⟩
  show SP (gd (0 ≤ a ∧ 4 ≤ (shp (m, (none, (dy, L))) a).1 ∧ (shp (m, (none, (dy, L))) a).1 ≤ 6 ∧ 0 ≤ i ∧ i < ((shp (m, (none, (dy, L))) a).2 : Int) ∧ 0 ≤ z ∧ shp (m, (none, (dy, L))) z = (0, ecl (shp (m, (none, (dy, L))) a).1) ∧ ((none : Option Nat) = none → stat a i = none)) (nx (pc + 1) ls st (up m a i z, (none, (dy, L))))) _ _ _
  rw [SP_gd, hs]
  rw [← up_ud] at h
  exact ⟨⟨h0, htt.1, htt.2, hi.1, hi.2, hz, hsz, fun _ => hst⟩, h⟩
theorem v_alen {d μ pc n : Nat} {B : ByteArray} {ls : PL} {st : List PV} {σ : PS} {Q : Option PV → PS → Prop} {len tt : Nat} {a lz : Int} (hb : mB μ = B) (hd : ClassFile.decode B pc = .ok (.arraylength, 1)) (hs : shp σ a = (tt, len)) (htt : 1 ≤ tt ∧ tt ≤ 7) (hL : (len : Int) = lz) (hn : pc + 1 = n) (h : V d μ (n, (ls, (.inl lz :: st, σ))) Q) : V d μ (pc, (ls, (.inr (.inr a) :: st, σ))) Q := by
  subst hn
  refine V_dec hb hd ?_
  subst hL
  rw [sI_arraylength, SP_gd, r1_s, SP_gd, hs]
  exact ⟨rfl, htt, h⟩
theorem v_gst_0 {d μ pc n : Nat} {B : ByteArray} {ls : PL} {st : List PV} {σ : PS} {Q : Option PV → PS → Prop} {idx ow : Nat} (hb : mB μ = B) (hd : ClassFile.decode B pc = .ok (.getstatic idx, 3)) (ho : mO μ = ow) (hr : gst ow idx = some 0) (hn : pc + 3 = n) (h : V d μ (n, (ls, (.inr (.inr (-2)) :: st, σ))) Q) : V d μ (pc, (ls, (st, σ))) Q := by
  subst hn
  refine V_dec hb hd ?_
  rw [sI_getstatic, SP_gd, ho, hr]
  exact ⟨rfl, h⟩
theorem v_gst_1 {d μ pc n : Nat} {B : ByteArray} {ls : PL} {st : List PV} {σ : PS} {Q : Option PV → PS → Prop} {idx ow : Nat} (hb : mB μ = B) (hd : ClassFile.decode B pc = .ok (.getstatic idx, 3)) (ho : mO μ = ow) (hr : gst ow idx = some 1) (hn : pc + 3 = n) (h : V d μ (n, (ls, (.inl 1 :: st, σ))) Q) : V d μ (pc, (ls, (st, σ))) Q := by
  subst hn
  refine V_dec hb hd ?_
  rw [sI_getstatic, SP_gd, ho, hr]
  exact ⟨rfl, h⟩
theorem v_gst_2 {d μ pc n : Nat} {B : ByteArray} {ls : PL} {st : List PV} {σ : PS} {Q : Option PV → PS → Prop} {idx ow : Nat} (hb : mB μ = B) (hd : ClassFile.decode B pc = .ok (.getstatic idx, 3)) (ho : mO μ = ow) (hr : gst ow idx = some 2) (hn : pc + 3 = n) (h : V d μ (n, (ls, (.inr (.inr (-4)) :: st, σ))) Q) : V d μ (pc, (ls, (st, σ))) Q := by
  subst hn
  refine V_dec hb hd ?_
  rw [sI_getstatic, SP_gd, ho, hr]
  exact ⟨rfl, h⟩
theorem v_gf_s0 {d μ pc n : Nat} {B : ByteArray} {ls : PL} {st : List PV} {σ : PS} {Q : Option PV → PS → Prop} {idx ow : Nat} {o : Int} (hb : mB μ = B) (hd : ClassFile.decode B pc = .ok (.getfield idx, 3)) (ho : mO μ = ow) (hf : fld ow idx = none) (hr : sfl ow idx = some 0) (hs : o = -10 ∨ o = -11 ∨ o = -12) (hn : pc + 3 = n) (h : V d μ (n, (ls, (.inr (.inr (o - 10)) :: st, σ))) Q) : V d μ (pc, (ls, (.inr (.inr o) :: st, σ))) Q := by
  subst hn
  refine V_dec hb hd ?_
  rw [sI_getfield, SP_gd, r1_s, ho, hf]
  refine ⟨rfl, ?_⟩
  rw [hr]
  show SP (gd _ _) _ _ _
  rw [SP_gd]
  exact ⟨hs, h⟩
theorem v_gf_s1 {d μ pc n : Nat} {B : ByteArray} {ls : PL} {st : List PV} {σ : PS} {Q : Option PV → PS → Prop} {idx ow : Nat} {o : Int} (hb : mB μ = B) (hd : ClassFile.decode B pc = .ok (.getfield idx, 3)) (ho : mO μ = ow) (hf : fld ow idx = none) (hr : sfl ow idx = some 1) (hs : o = -10 ∨ o = -11 ∨ o = -12) (hn : pc + 3 = n) (h : V d μ (n, (ls, (.inl 0 :: st, σ))) Q) : V d μ (pc, (ls, (.inr (.inr o) :: st, σ))) Q := by
  subst hn
  refine V_dec hb hd ?_
  rw [sI_getfield, SP_gd, r1_s, ho, hf]
  refine ⟨rfl, ?_⟩
  rw [hr]
  show SP (gd _ _) _ _ _
  rw [SP_gd]
  exact ⟨hs, h⟩
theorem v_call_v {d μ pc n : Nat} {B : ByteArray} {ls : PL} {st : List PV} {σ : PS} {Q : Option PV → PS → Prop} {idx ow μ' na cls ml : Nat} {o : Int} {as r : List PV} (hb : mB μ = B) (hd : ClassFile.decode B pc = .ok (.invokevirtual idx, 3)) (ho : mO μ = ow) (hi : inv ow idx = some (0, μ', na, cls, ml)) (hp : pop na [] st = some (as, .inr (.inr o) :: r)) (hs : shp σ o = (0, cls)) (hc : Nat.ble (pcat r) 8 = true) (hm : Nat.ble (1 + pcat as) ml = true) (hn : pc + 3 = n) (h : C d μ' (.inr (.inr o) :: as) σ (fun rv σ' => V d μ (n, (ls, (psh rv r, σ'))) Q)) : V d μ (pc, (ls, (st, σ))) Q := by
  subst hn
  refine V_dec hb hd ?_
  rw [sI_invokevirtual, SP_gd, ho, hi]
  refine ⟨rfl, ?_⟩
  show SP (gd _ _) _ _ _
  rw [SP_gd]
  refine ⟨rfl, ?_⟩
  unfold cal
  rw [hp]
  show SP (gd _ _) _ _ _
  rw [SP_gd]
  exact ⟨⟨Or.inl hs, Nat.le_of_ble_eq_true hc, Nat.le_of_ble_eq_true hm⟩, h⟩
theorem v_call_t {d μ pc n : Nat} {B : ByteArray} {ls : PL} {st : List PV} {σ : PS} {Q : Option PV → PS → Prop} {idx ow μ' na cls ml : Nat} {o : Int} {as r : List PV} (hb : mB μ = B) (hd : ClassFile.decode B pc = .ok (.invokevirtual idx, 3)) (ho : mO μ = ow) (hi : inv ow idx = some (0, μ', na, 12, ml)) (hp : pop na [] st = some (as, .inr (.inr o) :: r)) (hs : o = -10 ∨ o = -11 ∨ o = -12) (hc : Nat.ble (pcat r) 8 = true) (hm : Nat.ble (1 + pcat as) ml = true) (hn : pc + 3 = n) (h : C d μ' (.inr (.inr o) :: as) σ (fun rv σ' => V d μ (n, (ls, (psh rv r, σ'))) Q)) : V d μ (pc, (ls, (st, σ))) Q := by
  subst hn
  refine V_dec hb hd ?_
  rw [sI_invokevirtual, SP_gd, ho, hi]
  refine ⟨rfl, ?_⟩
  show SP (gd _ _) _ _ _
  rw [SP_gd]
  refine ⟨rfl, ?_⟩
  unfold cal
  rw [hp]
  show SP (gd _ _) _ _ _
  rw [SP_gd]
  exact ⟨⟨Or.inr ⟨hs, rfl⟩, Nat.le_of_ble_eq_true hc, Nat.le_of_ble_eq_true hm⟩, h⟩
theorem v_call_p2 {d μ pc n : Nat} {B : ByteArray} {ls : PL} {st : List PV} {σ : PS} {Q : Option PV → PS → Prop} {idx ow μ' na cls ml sp : Nat} {o : Int} {as r : List PV} (hb : mB μ = B) (hd : ClassFile.decode B pc = .ok (.invokespecial idx, 3)) (ho : mO μ = ow) (h5 : spc ow idx = sp) (h5n : Nat.beq sp 5 = false) (hi : inv ow idx = some (2, μ', na, cls, ml)) (hp : pop na [] st = some (as, .inr (.inr o) :: r)) (hs : shp σ o = (0, cls)) (hc : Nat.ble (pcat r) 8 = true) (hm : Nat.ble (1 + pcat as) ml = true) (hn : pc + 3 = n) (h : C d μ' (.inr (.inr o) :: as) σ (fun rv σ' => V d μ (n, (ls, (psh rv r, σ'))) Q)) : V d μ (pc, (ls, (st, σ))) Q := by
  subst hn
  refine V_dec hb hd ?_
  have h5m : ¬ sp = 5 := fun e => by rw [e] at h5n; cases h5n
  rw [sI_invokespecial, SP_gd, ho, h5, if_neg h5m, hi]
  refine ⟨rfl, ?_⟩
  show SP (gd _ _) _ _ _
  rw [SP_gd]
  refine ⟨Or.inl rfl, ?_⟩
  unfold cal
  rw [hp]
  show SP (gd _ _) _ _ _
  rw [SP_gd]
  exact ⟨⟨hs, Nat.le_of_ble_eq_true hc, Nat.le_of_ble_eq_true hm⟩, h⟩
theorem v_call_p3 {d μ pc n : Nat} {B : ByteArray} {ls : PL} {st : List PV} {σ : PS} {Q : Option PV → PS → Prop} {idx ow μ' na cls ml sp : Nat} {o : Int} {as r : List PV} (hb : mB μ = B) (hd : ClassFile.decode B pc = .ok (.invokespecial idx, 3)) (ho : mO μ = ow) (h5 : spc ow idx = sp) (h5n : Nat.beq sp 5 = false) (hi : inv ow idx = some (3, μ', na, cls, ml)) (hp : pop na [] st = some (as, .inr (.inr o) :: r)) (hs : shp σ o = (0, cls)) (hc : Nat.ble (pcat r) 8 = true) (hm : Nat.ble (1 + pcat as) ml = true) (hn : pc + 3 = n) (h : C d μ' (.inr (.inr o) :: as) σ (fun rv σ' => V d μ (n, (ls, (psh rv r, σ'))) Q)) : V d μ (pc, (ls, (st, σ))) Q := by
  subst hn
  refine V_dec hb hd ?_
  have h5m : ¬ sp = 5 := fun e => by rw [e] at h5n; cases h5n
  rw [sI_invokespecial, SP_gd, ho, h5, if_neg h5m, hi]
  refine ⟨rfl, ?_⟩
  show SP (gd _ _) _ _ _
  rw [SP_gd]
  refine ⟨Or.inr rfl, ?_⟩
  unfold cal
  rw [hp]
  show SP (gd _ _) _ _ _
  rw [SP_gd]
  exact ⟨⟨hs, Nat.le_of_ble_eq_true hc, Nat.le_of_ble_eq_true hm⟩, h⟩
theorem v_obj {d μ pc n : Nat} {B : ByteArray} {ls : PL} {st : List PV} {σ : PS} {Q : Option PV → PS → Prop} {idx ow ci : Nat} {o : Int} (hb : mB μ = B) (hd : ClassFile.decode B pc = .ok (.invokespecial idx, 3)) (ho : mO μ = ow) (h5 : spc ow idx = 5) (hs : shp σ o = (0, ci)) (h0 : 0 ≤ o) (hc : Nat.ble (pcat st) 8 = true) (hn : pc + 3 = n) (h : V d μ (n, (ls, (st, σ))) Q) : V d μ (pc, (ls, (.inr (.inr o) :: st, σ))) Q := by
  subst hn
  refine V_dec hb hd ?_
  rw [sI_invokespecial, SP_gd, ho, h5, if_pos rfl, r1_s, SP_gd, hs]
  exact ⟨rfl, ⟨rfl, h0, Nat.le_of_ble_eq_true hc⟩, h⟩
theorem v_call_s {d μ pc n : Nat} {B : ByteArray} {ls : PL} {st : List PV} {σ : PS} {Q : Option PV → PS → Prop} {idx ow μ' na cls ml sp : Nat} {as r : List PV} (hb : mB μ = B) (hd : ClassFile.decode B pc = .ok (.invokestatic idx, 3)) (ho : mO μ = ow) (h5 : spc ow idx = sp) (h5n : Nat.ble 6 sp = false ∨ Nat.ble sp 8 = false) (hi : inv ow idx = some (1, μ', na, cls, ml)) (hp : pop na [] st = some (as, r)) (hc : Nat.ble (pcat r) 8 = true) (hm : Nat.ble (pcat as) ml = true) (hn : pc + 3 = n) (h : C d μ' as σ (fun rv σ' => V d μ (n, (ls, (psh rv r, σ'))) Q)) : V d μ (pc, (ls, (st, σ))) Q := by
  subst hn
  refine V_dec hb hd ?_
  have e6 : ¬ sp = 6 := fun e => by rw [e] at h5n; rcases h5n with h | h <;> cases h
  have e7 : ¬ sp = 7 := fun e => by rw [e] at h5n; rcases h5n with h | h <;> cases h
  have e8 : ¬ sp = 8 := fun e => by rw [e] at h5n; rcases h5n with h | h <;> cases h
  rw [sI_invokestatic, SP_gd, ho, h5, if_neg e6, if_neg e7, if_neg e8, hi]
  refine ⟨rfl, ?_⟩
  show SP (gd _ _) _ _ _
  rw [SP_gd]
  refine ⟨rfl, ?_⟩
  unfold cal
  rw [hp]
  show SP (gd _ _) _ _ _
  rw [SP_gd]
  exact ⟨⟨Nat.le_of_ble_eq_true hc, Nat.le_of_ble_eq_true hm⟩, h⟩
theorem v_max {d μ pc n : Nat} {B : ByteArray} {ls : PL} {st : List PV} {σ : PS} {Q : Option PV → PS → Prop} {idx ow : Nat} {x y : Int} (hb : mB μ = B) (hd : ClassFile.decode B pc = .ok (.invokestatic idx, 3)) (ho : mO μ = ow) (h5 : spc ow idx = 7) (hc : Nat.ble (pcat st) 8 = true) (hn : pc + 3 = n) (h : V d μ (n, (ls, (.inl (if x < y then y else x) :: st, σ))) Q) : V d μ (pc, (ls, (.inl y :: .inl x :: st, σ))) Q := by
  subst hn
  refine V_dec hb hd ?_
  rw [sI_invokestatic, SP_gd, ho, h5, if_neg (by decide), if_pos rfl, i2_s, SP_gd]
  exact ⟨rfl, Nat.le_of_ble_eq_true hc, h⟩
theorem v_min {d μ pc n : Nat} {B : ByteArray} {ls : PL} {st : List PV} {σ : PS} {Q : Option PV → PS → Prop} {idx ow : Nat} {x y : Int} (hb : mB μ = B) (hd : ClassFile.decode B pc = .ok (.invokestatic idx, 3)) (ho : mO μ = ow) (h5 : spc ow idx = 8) (hc : Nat.ble (pcat st) 8 = true) (hn : pc + 3 = n) (h : V d μ (n, (ls, (.inl (if y < x then y else x) :: st, σ))) Q) : V d μ (pc, (ls, (.inl y :: .inl x :: st, σ))) Q := by
  subst hn
  refine V_dec hb hd ?_
  rw [sI_invokestatic, SP_gd, ho, h5, if_neg (by decide), if_neg (by decide), if_pos rfl, i2_s, SP_gd]
  exact ⟨rfl, Nat.le_of_ble_eq_true hc, h⟩
theorem v_acp {d μ pc n : Nat} {B : ByteArray} {ls : PL} {st : List PV} {m : PM} {dy : List (Nat × Nat)} {L : Nat} {Q : Option PV → PS → Prop} {idx ow ta la tb lb : Nat} {nn dp b sp a : Int} (hb : mB μ = B) (hd : ClassFile.decode B pc = .ok (.invokestatic idx, 3)) (ho : mO μ = ow) (h5 : spc ow idx = 6) (hsa : shp (m, (none, (dy, L))) a = (ta, la)) (hsb : shp (m, (none, (dy, L))) b = (ta, lb)) (hta : ta = 1 ∨ ta = 3) (hq : 0 ≤ sp ∧ 0 ≤ dp ∧ 0 ≤ nn ∧ 0 ≤ a ∧ 0 ≤ b ∧ sp + nn ≤ la ∧ dp + nn ≤ lb) (hc : Nat.ble (pcat st) 8 = true) (hn : pc + 3 = n) (h : V d μ (n, (ls, (st, (setA m b (fun j => if dp ≤ j ∧ j < dp + nn then m a (sp + (j - dp)) else m b j), (none, (dy, L)))))) Q) : V d μ (pc, (ls, (.inl nn :: .inl dp :: .inr (.inr b) :: .inl sp :: .inr (.inr a) :: st, (m, (none, (dy, L)))))) Q := by
  subst hn
  refine V_dec hb hd ?_
  rw [sI_invokestatic, SP_gd, ho, h5, if_pos rfl]
  refine ⟨rfl, ?_⟩
  unfold acp
  rw [SP_gd, hsa, hsb]
  rw [← cpy_sA] at h
  exact ⟨⟨hq.1, hq.2.1, hq.2.2.1, hq.2.2.2.1, hq.2.2.2.2.1, hta, rfl, hq.2.2.2.2.2.1, hq.2.2.2.2.2.2, Nat.le_of_ble_eq_true hc⟩, h⟩
theorem v_ireturn0 {d μ pc : Nat} {B : ByteArray} {ls : PL} {σ : PS} {Q : Option PV → PS → Prop} {z : Int} (hb : mB μ = B) (hd : ClassFile.decode B pc = .ok (.ireturn, 1)) (hk : mK μ = 0) (h : Q (some (.inl z)) σ) : V d μ (pc, (ls, ([.inl z], σ))) Q := by
  refine V_dec hb hd ?_
  rw [sI_ireturn, SP_gd]
  refine ⟨rfl, ?_⟩
  show SP (gd _ _) _ _ _
  rw [SP_gd, hk, rok_0]
  exact ⟨trivial, h⟩
theorem v_ireturn1 {d μ pc : Nat} {B : ByteArray} {ls : PL} {σ : PS} {Q : Option PV → PS → Prop} {z : Int} (hb : mB μ = B) (hd : ClassFile.decode B pc = .ok (.ireturn, 1)) (hk : mK μ = 1) (hz : z = 0 ∨ z = 1) (h : Q (some (.inl z)) σ) : V d μ (pc, (ls, ([.inl z], σ))) Q := by
  refine V_dec hb hd ?_
  rw [sI_ireturn, SP_gd]
  refine ⟨rfl, ?_⟩
  show SP (gd _ _) _ _ _
  rw [SP_gd, hk, rok_1]
  exact ⟨hz, h⟩
theorem v_ireturn2 {d μ pc : Nat} {B : ByteArray} {ls : PL} {σ : PS} {Q : Option PV → PS → Prop} {z : Int} (hb : mB μ = B) (hd : ClassFile.decode B pc = .ok (.ireturn, 1)) (hk : mK μ = 2) (hz : -128 ≤ z ∧ z < 128) (h : Q (some (.inl z)) σ) : V d μ (pc, (ls, ([.inl z], σ))) Q := by
  refine V_dec hb hd ?_
  rw [sI_ireturn, SP_gd]
  refine ⟨rfl, ?_⟩
  show SP (gd _ _) _ _ _
  rw [SP_gd, hk, rok_2]
  exact ⟨hz, h⟩
theorem v_ireturn3 {d μ pc : Nat} {B : ByteArray} {ls : PL} {σ : PS} {Q : Option PV → PS → Prop} {z : Int} (hb : mB μ = B) (hd : ClassFile.decode B pc = .ok (.ireturn, 1)) (hk : mK μ = 3) (hz : 0 ≤ z ∧ z < 65536) (h : Q (some (.inl z)) σ) : V d μ (pc, (ls, ([.inl z], σ))) Q := by
  refine V_dec hb hd ?_
  rw [sI_ireturn, SP_gd]
  refine ⟨rfl, ?_⟩
  show SP (gd _ _) _ _ _
  rw [SP_gd, hk, rok_3]
  exact ⟨hz, h⟩
theorem v_lreturn {d μ pc : Nat} {B : ByteArray} {ls : PL} {σ : PS} {Q : Option PV → PS → Prop} {z : Int} (hb : mB μ = B) (hd : ClassFile.decode B pc = .ok (.lreturn, 1)) (hk : mK μ = 4) (h : Q (some (.inr (.inl z))) σ) : V d μ (pc, (ls, ([.inr (.inl z)], σ))) Q := by
  refine V_dec hb hd ?_
  rw [sI_lreturn, SP_gd]
  refine ⟨rfl, ?_⟩
  show SP (gd _ _) _ _ _
  rw [SP_gd]
  exact ⟨hk, h⟩
theorem v_areturn {d μ pc : Nat} {B : ByteArray} {ls : PL} {σ : PS} {Q : Option PV → PS → Prop} {z : Int} (hb : mB μ = B) (hd : ClassFile.decode B pc = .ok (.areturn, 1)) (hk : mK μ = 6) (hz : 0 ≤ z) (h : Q (some (.inr (.inr z))) σ) : V d μ (pc, (ls, ([.inr (.inr z)], σ))) Q := by
  refine V_dec hb hd ?_
  rw [sI_areturn, SP_gd]
  refine ⟨rfl, ?_⟩
  show SP (gd _ _) _ _ _
  rw [SP_gd]
  exact ⟨⟨hk, hz⟩, h⟩
theorem v_return {d μ pc : Nat} {B : ByteArray} {ls : PL} {σ : PS} {Q : Option PV → PS → Prop}  (hb : mB μ = B) (hd : ClassFile.decode B pc = .ok (.return_, 1)) (hk : mK μ = 5) (h : Q (none) σ) : V d μ (pc, (ls, ([], σ))) Q := by
  refine V_dec hb hd ?_
  rw [sI_return_, SP_gd]
  refine ⟨rfl, ?_⟩
  show SP (gd _ _) _ _ _
  rw [SP_gd]
  exact ⟨hk, h⟩
