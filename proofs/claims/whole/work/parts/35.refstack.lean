/-! The reference: the stack. -/
def pkA (sd dn : Int → Int) (s : Int) : Int := sd (2 * s) + 128 * dn (2 * s) + 256 * sd (2 * s + 1) + 32768 * dn (2 * s + 1)
theorem pkA_ok {sd dn : Int → Int} (h : pgs sd) (hb : bl dn) (s : Int) : okS (pkA sd dn s) := by
  have := h (2 * s); have := h (2 * s + 1); have := hb (2 * s); have := hb (2 * s + 1)
  unfold okS pkA; omega
def wyF (w N : Int) (c : Int → Int) (s : Int) : Int :=
  if 1 < w then abt (if w % 2 = 1 then ovF (c (N - 1 - s)) else c s) else (if w % 2 = 1 then ovF (c (N - 1 - s)) else c s)
def rtF (N : Int) (c : Int → Int) : Int := sm (fun i => if c i = 2 * i + 1 + 256 * (2 * i + 2) then 1 else 0) N.toNat
def pgk (c : Int → Int) (k : Int) : Int := if k % 2 = 0 then c (k / 2) % 128 else c (k / 2) / 256 % 128
def swF (N : Int) (c : Int → Int) (p : Int) : Int := sm (fun k => if pgk c k = p then 1 else 0) (2 * N).toNat
def msF (f : Int → Int) : Nat → Int
  | 0 => 0
  | n + 1 => iOr (msF f n) (if f ((n : Int) + 1) = 0 then 2 ^ n else 0)
theorem pgk_pk {sd dn : Int → Int} (h : pgs sd) (hb : bl dn) (k : Int) : pgk (pkA sd dn) k = sd k := by
  unfold pgk pkA
  have q1 := h (2 * (k / 2)); have q2 := h (2 * (k / 2) + 1); have q3 := hb (2 * (k / 2)); have q4 := hb (2 * (k / 2) + 1)
  by_cases e : k % 2 = 0
  · rw [if_pos e]
    have e2 : k = 2 * (k / 2) := by omega
    rw [← e2] at q1 ⊢; omega
  · rw [if_neg e]
    have e2 : k = 2 * (k / 2) + 1 := by omega
    rw [← e2] at q2 ⊢; omega
theorem sm_s {f : Int → Int} {k : Int} (h : 0 ≤ k) : sm f (k + 1).toNat = sm f k.toNat + f k := by
  have e : (k + 1).toNat = k.toNat + 1 := by omega
  rw [e, sm, show ((k.toNat : Nat) : Int) = k by omega]
theorem sm01 {P : Int → Prop} (hP : ∀ i, Decidable (P i)) (n : Nat) : 0 ≤ sm (fun i => @ite _ (P i) (hP i) 1 0) n ∧ sm (fun i => @ite _ (P i) (hP i) 1 0) n ≤ n := by
  have := sm_in (f := fun i => @ite _ (P i) (hP i) 1 0) (b := 1) n (fun i _ => by split <;> omega)
  omega
theorem sw_in (f : Int → Int) (p : Int) (n : Nat) : 0 ≤ sm (fun k => if f k = p then 1 else 0) n ∧ sm (fun k => if f k = p then 1 else 0) n ≤ n := sm01 _ n
theorem rt_in (c : Int → Int) (n : Nat) : 0 ≤ sm (fun i => if c i = 2 * i + 1 + 256 * (2 * i + 2) then 1 else 0) n ∧ sm (fun i => if c i = 2 * i + 1 + 256 * (2 * i + 2) then 1 else 0) n ≤ n := sm01 _ n
theorem pkR {a x b y k : Int} (ha : 0 ≤ a ∧ a < 128) (hx : x = 0 ∨ x = 1) (hb : 0 ≤ b ∧ b < 128) (hy : y = 0 ∨ y = 1) (hk : 0 ≤ k ∧ k < 12) (h : a + 128 * x + 256 * b + 32768 * y = 2 * k + 1 + 256 * (2 * k + 2)) : a = 2 * k + 1 ∧ b = 2 * k + 2 ∧ x = 0 ∧ y = 0 := by
  have e1 : a + 128 * x = 2 * k + 1 := by
    have e : (a + 128 * x + 256 * b + 32768 * y) % 256 = (2 * k + 1 + 256 * (2 * k + 2)) % 256 := by rw [h]
    omega
  have e2 : b + 128 * y = 2 * k + 2 := by omega
  omega
theorem rtF_congr {N : Int} {c e : Int → Int} (h : ∀ s, 0 ≤ s → s < N → c s = e s) : rtF N c = rtF N e := by
  unfold rtF
  refine sm_congr _ (fun i hi => ?_)
  rw [h i (by omega) (by omega)]
theorem swF_congr {N : Int} {c e : Int → Int} (h : ∀ s, 0 ≤ s → s < N → c s = e s) (p : Int) : swF N c p = swF N e p := by
  unfold swF pgk
  refine sm_congr _ (fun i hi => ?_)
  rw [h ((i : Int) / 2) (by omega) (by omega)]
theorem sA2 {m : PM} {a b : Int} {f f' g g' : Int → Int} (h1 : f = f') (h2 : g = g') : setA (setA m a f) b g = setA (setA m a f') b g' := by rw [h1, h2]
theorem bl_ivl {f g : Int → Int} (hf : bl f) (hg : bl g) (a b : Int) : bl (ivl f g a b) := by
  intro j; unfold ivl; split
  · exact hf j
  · exact hg j
theorem pgs_ivl {f g : Int → Int} (hf : pgs f) (hg : pgs g) (a b : Int) : pgs (ivl f g a b) := by
  intro j; unfold ivl; split
  · exact hf j
  · exact hg j
set_option maxHeartbeats 1000000 in
theorem c_right {d : Nat}  {m : PM} {dy : List (Nat × Nat)} {L : Nat} {Q : Option PV → PS → Prop} (hd : 2 ≤ d) (hN : 0 ≤ m 81 22 ∧ m 81 22 ≤ 12) (hb : bl (m 99)) (hp : pgs (m 96)) (o1 : Q (some (.inl (rtF (m 81 22) (pkA (m 96) (m 99))))) (m, (none, (dy, L)))) : C d 158 [.inr (.inr 81)] (m, (none, (dy, L))) Q := by
  refine C_go (k := 1) hd xL_158 (fun d hd => ?_)
  show V d 158 (0, ([some (.inr (.inr 81)), none, none], ([], (m, (none, (dy, L)))))) Q
  refine v_iconst (n := 1) xB_158 dX11_right_0 ⟨by decide, by decide⟩ rfl ?_
  refine v_istore_n1 (n := 2) xB_158 dX11_right_1 rfl rfl ?_
  refine v_iconst (n := 3) xB_158 dX11_right_2 ⟨by decide, by decide⟩ rfl ?_
  refine v_istore_n2 (n := 4) xB_158 dX11_right_3 rfl rfl ?_
  refine lp_up (F := fun (k : Int) (m' : PM) => V d 158 (4, ([some (.inr (.inr 81)), some (.inl (sm (fun i => if pkA (m 96) (m 99) i = 2 * i + 1 + 256 * (2 * i + 2) then 1 else 0) (k).toNat)), some (.inl (k))], ([], (m', (none, (dy, L)))))) Q) (E := fun (k : Int) (m' : PM) => m = m') (a := 0) (b := m 81 22) ?_ ?_ (0) (m) (by first | omega | (simp only [sA_same, sA_s, ud_s, Int.reduceEq, if_true, if_false, ite_true, ite_false, ↓reduceIte, and_true, true_and, eq_self, Int.add_zero, Int.reduceAdd]; omega)) (by first | omega | (simp only [sA_same, sA_s, ud_s, Int.reduceEq, if_true, if_false, ite_true, ite_false, ↓reduceIte, and_true, true_and, eq_self, Int.add_zero, Int.reduceAdd]; omega)) ?_
  · intro m' hm 
    show V d 158 (4, ([some (.inr (.inr 81)), some (.inl (sm (fun i => if pkA (m 96) (m 99) i = 2 * i + 1 + 256 * (2 * i + 2) then 1 else 0) (m 81 22).toNat)), some (.inl (m 81 22))], ([], (m', (none, (dy, L)))))) Q
    subst hm
    refine v_iload_n (n := 5) xB_158 dX11_right_4 rfl rfl ?_
    refine v_aload_n (n := 6) xB_158 dX11_right_5 rfl rfl ?_
    refine v_gf_i (n := 9) (kz := 22) xB_158 dX11_right_6 xO_158 fl_11_78 fg_11_22 rfl (sh_81 _ _ _) rfl rfl ?_
    refine v_ic_ge_y (t := 34) xB_158 dX11_right_9 (by decide) rfl (by first | omega | (simp only [sA_same, sA_s, ud_s, Int.reduceEq, if_true, if_false, ite_true, ite_false, ↓reduceIte, and_true, true_and, eq_self, Int.add_zero, Int.reduceAdd]; omega)) ?_
    refine v_iload_n (n := 35) xB_158 dX11_right_34 rfl rfl ?_
    refine v_ireturn0 xB_158 dX11_right_35 xK_158 ?_
    exact o1
  · intro k m' h1 h2 hm ih 
    show V d 158 (4, ([some (.inr (.inr 81)), some (.inl (sm (fun i => if pkA (m 96) (m 99) i = 2 * i + 1 + 256 * (2 * i + 2) then 1 else 0) (k).toNat)), some (.inl (k))], ([], (m', (none, (dy, L)))))) Q
    subst hm
    have q5 := rt_in (pkA (m 96) (m 99)) k.toNat
    have q1 := hp (2 * k)
    have q2 := hp (2 * k + 1)
    have q3 := hb (2 * k)
    have q4 := hb (2 * k + 1)
    refine v_iload_n (n := 5) xB_158 dX11_right_4 rfl rfl ?_
    refine v_aload_n (n := 6) xB_158 dX11_right_5 rfl rfl ?_
    refine v_gf_i (n := 9) (kz := 22) xB_158 dX11_right_6 xO_158 fl_11_78 fg_11_22 rfl (sh_81 _ _ _) rfl rfl ?_
    refine v_ic_ge_n (n := 12) xB_158 dX11_right_9 (by decide) rfl (by first | omega | (simp only [sA_same, sA_s, ud_s, Int.reduceEq, if_true, if_false, ite_true, ite_false, ↓reduceIte, and_true, true_and, eq_self, Int.add_zero, Int.reduceAdd]; omega)) ?_
    refine v_iload_n (n := 13) xB_158 dX11_right_12 rfl rfl ?_
    refine v_aload_n (n := 14) xB_158 dX11_right_13 rfl rfl ?_
    refine v_iload_n (n := 15) xB_158 dX11_right_14 rfl rfl ?_
    refine v_call_v (n := 18) xB_158 dX11_right_15 xO_158 iv_11_312 rfl (sh_81 _ _ _) rfl rfl rfl ?_
    refine c_isRight (by omega) (by first | omega | (simp only [sA_same, sA_s, ud_s, Int.reduceEq, if_true, if_false, ite_true, ite_false, ↓reduceIte, and_true, true_and, eq_self, Int.add_zero, Int.reduceAdd]; omega)) (fun g1 => ?_) (fun g2 => ?_)
    · refine v_if_eq_n (n := 21) xB_158 dX11_right_18 (by decide) rfl (by decide) ?_
      refine v_iconst (n := 22) xB_158 dX11_right_21 ⟨by decide, by decide⟩ rfl ?_
      refine v_goto (t := 26) xB_158 dX11_right_22 (by decide) rfl ?_
      refine v_iadd (n := 27) xB_158 dX11_right_26 (by first | omega | (simp only [sA_same, sA_s, ud_s, Int.reduceEq, if_true, if_false, ite_true, ite_false, ↓reduceIte, and_true, true_and, eq_self, Int.add_zero, Int.reduceAdd]; omega)) rfl ?_
      refine v_istore_n1 (n := 28) xB_158 dX11_right_27 rfl rfl ?_
      refine v_iinc2 (n := 31) xB_158 dX11_right_28 rfl (by first | omega | (simp only [sA_same, sA_s, ud_s, Int.reduceEq, if_true, if_false, ite_true, ite_false, ↓reduceIte, and_true, true_and, eq_self, Int.add_zero, Int.reduceAdd]; omega)) rfl ?_
      refine v_goto (t := 4) xB_158 dX11_right_31 (by decide) rfl ?_
      refine cast (congrArg (fun z => V d 158 (4, ([some (.inr (.inr 81)), some (.inl z), some (.inl (k + 1))], ([], (m, (none, (dy, L)))))) Q) ?_) (ih _ rfl)
      rw [sm_s (by omega)]
      first | rw [if_pos (by unfold pkA; omega)] | rw [if_neg (fun e => by unfold pkA at e; have e2 := pkR q1 q3 q2 q4 (by omega) e; omega)]
    · refine v_if_eq_y (t := 25) xB_158 dX11_right_18 (by decide) rfl (by decide) ?_
      refine v_iconst (n := 26) xB_158 dX11_right_25 ⟨by decide, by decide⟩ rfl ?_
      refine v_iadd (n := 27) xB_158 dX11_right_26 (by first | omega | (simp only [sA_same, sA_s, ud_s, Int.reduceEq, if_true, if_false, ite_true, ite_false, ↓reduceIte, and_true, true_and, eq_self, Int.add_zero, Int.reduceAdd]; omega)) rfl ?_
      refine v_istore_n1 (n := 28) xB_158 dX11_right_27 rfl rfl ?_
      refine v_iinc2 (n := 31) xB_158 dX11_right_28 rfl (by first | omega | (simp only [sA_same, sA_s, ud_s, Int.reduceEq, if_true, if_false, ite_true, ite_false, ↓reduceIte, and_true, true_and, eq_self, Int.add_zero, Int.reduceAdd]; omega)) rfl ?_
      refine v_goto (t := 4) xB_158 dX11_right_31 (by decide) rfl ?_
      refine cast (congrArg (fun z => V d 158 (4, ([some (.inr (.inr 81)), some (.inl z), some (.inl (k + 1))], ([], (m, (none, (dy, L)))))) Q) ?_) (ih _ rfl)
      rw [sm_s (by omega)]
      first | rw [if_pos (by unfold pkA; omega)] | rw [if_neg (fun e => by unfold pkA at e; have e2 := pkR q1 q3 q2 q4 (by omega) e; omega)]
  · rfl
set_option maxHeartbeats 1000000 in
theorem c_sidesWith {d : Nat} {p : Int} {m : PM} {dy : List (Nat × Nat)} {L : Nat} {Q : Option PV → PS → Prop} (hd : 1 ≤ d) (hN : 0 ≤ m 81 22 ∧ m 81 22 ≤ 12) (hb : bl (m 99)) (hp : pgs (m 96)) (o1 : Q (some (.inl (swF (m 81 22) (pkA (m 96) (m 99)) p))) (m, (none, (dy, L)))) : C d 159 [.inr (.inr 81), .inl p] (m, (none, (dy, L))) Q := by
  refine C_go (k := 0) hd xL_159 (fun d hd => ?_)
  show V d 159 (0, ([some (.inr (.inr 81)), some (.inl p), none, none], ([], (m, (none, (dy, L)))))) Q
  refine v_iconst (n := 1) xB_159 dX11_sidesWith_0 ⟨by decide, by decide⟩ rfl ?_
  refine v_istore_n2 (n := 2) xB_159 dX11_sidesWith_1 rfl rfl ?_
  refine v_iconst (n := 3) xB_159 dX11_sidesWith_2 ⟨by decide, by decide⟩ rfl ?_
  refine v_istore_n3 (n := 4) xB_159 dX11_sidesWith_3 rfl rfl ?_
  refine lp_up (F := fun (k : Int) (m' : PM) => V d 159 (4, ([some (.inr (.inr 81)), some (.inl p), some (.inl (sm (fun k => if pgk (pkA (m 96) (m 99)) k = p then 1 else 0) (k).toNat)), some (.inl (k))], ([], (m', (none, (dy, L)))))) Q) (E := fun (k : Int) (m' : PM) => m = m') (a := 0) (b := 2 * m 81 22) ?_ ?_ (0) (m) (by first | omega | (simp only [sA_same, sA_s, ud_s, Int.reduceEq, if_true, if_false, ite_true, ite_false, ↓reduceIte, and_true, true_and, eq_self, Int.add_zero, Int.reduceAdd]; omega)) (by first | omega | (simp only [sA_same, sA_s, ud_s, Int.reduceEq, if_true, if_false, ite_true, ite_false, ↓reduceIte, and_true, true_and, eq_self, Int.add_zero, Int.reduceAdd]; omega)) ?_
  · intro m' hm 
    show V d 159 (4, ([some (.inr (.inr 81)), some (.inl p), some (.inl (sm (fun k => if pgk (pkA (m 96) (m 99)) k = p then 1 else 0) (2 * m 81 22).toNat)), some (.inl (2 * m 81 22))], ([], (m', (none, (dy, L)))))) Q
    subst hm
    refine v_iload_n (n := 5) xB_159 dX11_sidesWith_4 rfl rfl ?_
    refine v_iconst (n := 6) xB_159 dX11_sidesWith_5 ⟨by decide, by decide⟩ rfl ?_
    refine v_aload_n (n := 7) xB_159 dX11_sidesWith_6 rfl rfl ?_
    refine v_gf_i (n := 10) (kz := 22) xB_159 dX11_sidesWith_7 xO_159 fl_11_78 fg_11_22 rfl (sh_81 _ _ _) rfl rfl ?_
    refine v_imul (n := 11) xB_159 dX11_sidesWith_10 (by first | omega | (simp only [sA_same, sA_s, ud_s, Int.reduceEq, if_true, if_false, ite_true, ite_false, ↓reduceIte, and_true, true_and, eq_self, Int.add_zero, Int.reduceAdd]; omega)) rfl ?_
    refine v_ic_ge_y (t := 38) xB_159 dX11_sidesWith_11 (by decide) rfl (by first | omega | (simp only [sA_same, sA_s, ud_s, Int.reduceEq, if_true, if_false, ite_true, ite_false, ↓reduceIte, and_true, true_and, eq_self, Int.add_zero, Int.reduceAdd]; omega)) ?_
    refine v_iload_n (n := 39) xB_159 dX11_sidesWith_38 rfl rfl ?_
    refine v_ireturn0 xB_159 dX11_sidesWith_39 xK_159 ?_
    exact o1
  · intro k m' h1 h2 hm ih 
    show V d 159 (4, ([some (.inr (.inr 81)), some (.inl p), some (.inl (sm (fun k => if pgk (pkA (m 96) (m 99)) k = p then 1 else 0) (k).toNat)), some (.inl (k))], ([], (m', (none, (dy, L)))))) Q
    subst hm
    have q5 := sw_in (pgk (pkA (m 96) (m 99))) p k.toNat
    refine v_iload_n (n := 5) xB_159 dX11_sidesWith_4 rfl rfl ?_
    refine v_iconst (n := 6) xB_159 dX11_sidesWith_5 ⟨by decide, by decide⟩ rfl ?_
    refine v_aload_n (n := 7) xB_159 dX11_sidesWith_6 rfl rfl ?_
    refine v_gf_i (n := 10) (kz := 22) xB_159 dX11_sidesWith_7 xO_159 fl_11_78 fg_11_22 rfl (sh_81 _ _ _) rfl rfl ?_
    refine v_imul (n := 11) xB_159 dX11_sidesWith_10 (by first | omega | (simp only [sA_same, sA_s, ud_s, Int.reduceEq, if_true, if_false, ite_true, ite_false, ↓reduceIte, and_true, true_and, eq_self, Int.add_zero, Int.reduceAdd]; omega)) rfl ?_
    refine v_ic_ge_n (n := 14) xB_159 dX11_sidesWith_11 (by decide) rfl (by first | omega | (simp only [sA_same, sA_s, ud_s, Int.reduceEq, if_true, if_false, ite_true, ite_false, ↓reduceIte, and_true, true_and, eq_self, Int.add_zero, Int.reduceAdd]; omega)) ?_
    refine v_iload_n (n := 15) xB_159 dX11_sidesWith_14 rfl rfl ?_
    refine v_aload_n (n := 16) xB_159 dX11_sidesWith_15 rfl rfl ?_
    refine v_gf_s (n := 19) (kz := 23) xB_159 dX11_sidesWith_16 xO_159 fl_11_81 fg_11_23 (sh_81 _ _ _) rfl st_81_23 rfl ?_
    refine v_iload_n (n := 20) xB_159 dX11_sidesWith_19 rfl rfl ?_
    refine v_iaload (n := 21) (lz := 24) xB_159 dX11_sidesWith_20 (sh_96 _ _ _) rfl (by first | omega | (simp only [sA_same, sA_s, ud_s, Int.reduceEq, if_true, if_false, ite_true, ite_false, ↓reduceIte, and_true, true_and, eq_self, Int.add_zero, Int.reduceAdd]; omega)) rfl ?_
    refine v_iload_n (n := 22) xB_159 dX11_sidesWith_21 rfl rfl ?_
    refine v_ic_ne (t := 29) (n := 25) xB_159 dX11_sidesWith_22 (by decide) rfl rfl (fun g1 => ?_) (fun g1 => ?_)
    · refine v_iconst (n := 30) xB_159 dX11_sidesWith_29 ⟨by decide, by decide⟩ rfl ?_
      refine v_iadd (n := 31) xB_159 dX11_sidesWith_30 (by first | omega | (simp only [sA_same, sA_s, ud_s, Int.reduceEq, if_true, if_false, ite_true, ite_false, ↓reduceIte, and_true, true_and, eq_self, Int.add_zero, Int.reduceAdd]; omega)) rfl ?_
      refine v_istore_n2 (n := 32) xB_159 dX11_sidesWith_31 rfl rfl ?_
      refine v_iinc3 (n := 35) xB_159 dX11_sidesWith_32 rfl (by first | omega | (simp only [sA_same, sA_s, ud_s, Int.reduceEq, if_true, if_false, ite_true, ite_false, ↓reduceIte, and_true, true_and, eq_self, Int.add_zero, Int.reduceAdd]; omega)) rfl ?_
      refine v_goto (t := 4) xB_159 dX11_sidesWith_35 (by decide) rfl ?_
      refine cast (congrArg (fun z => V d 159 (4, ([some (.inr (.inr 81)), some (.inl p), some (.inl z), some (.inl (k + 1))], ([], (m, (none, (dy, L)))))) Q) ?_) (ih _ rfl)
      rw [sm_s (by omega)]
      rw [pgk_pk hp hb]
      first | rw [if_pos (by omega)] | rw [if_neg (by omega)]
    · refine v_iconst (n := 26) xB_159 dX11_sidesWith_25 ⟨by decide, by decide⟩ rfl ?_
      refine v_goto (t := 30) xB_159 dX11_sidesWith_26 (by decide) rfl ?_
      refine v_iadd (n := 31) xB_159 dX11_sidesWith_30 (by first | omega | (simp only [sA_same, sA_s, ud_s, Int.reduceEq, if_true, if_false, ite_true, ite_false, ↓reduceIte, and_true, true_and, eq_self, Int.add_zero, Int.reduceAdd]; omega)) rfl ?_
      refine v_istore_n2 (n := 32) xB_159 dX11_sidesWith_31 rfl rfl ?_
      refine v_iinc3 (n := 35) xB_159 dX11_sidesWith_32 rfl (by first | omega | (simp only [sA_same, sA_s, ud_s, Int.reduceEq, if_true, if_false, ite_true, ite_false, ↓reduceIte, and_true, true_and, eq_self, Int.add_zero, Int.reduceAdd]; omega)) rfl ?_
      refine v_goto (t := 4) xB_159 dX11_sidesWith_35 (by decide) rfl ?_
      refine cast (congrArg (fun z => V d 159 (4, ([some (.inr (.inr 81)), some (.inl p), some (.inl z), some (.inl (k + 1))], ([], (m, (none, (dy, L)))))) Q) ?_) (ih _ rfl)
      rw [sm_s (by omega)]
      rw [pgk_pk hp hb]
      first | rw [if_pos (by omega)] | rw [if_neg (by omega)]
  · rfl
theorem p2_lt {y : Int} (h : 0 ≤ y ∧ y < 24) : 0 < (2 : Int) ^ y.toNat ∧ (2 : Int) ^ y.toNat < 16777217 := by
  have e : y.toNat ≤ 24 := by omega
  have h1 := Nat.pow_le_pow_right (n := 2) (by omega) e
  have h2 : 0 < 2 ^ y.toNat := Nat.two_pow_pos _
  have h3 : ((2 ^ y.toNat : Nat) : Int) = (2 : Int) ^ y.toNat := by simp
  have h4 : (2 : Nat) ^ 24 = 16777216 := by decide
  omega
theorem msF_s {f : Int → Int} {k : Int} (h : 1 ≤ k) : msF f (k + 1 - 1).toNat = iOr (msF f (k - 1).toNat) (if f k = 0 then 2 ^ (k - 1).toNat else 0) := by
  have e : (k + 1 - 1).toNat = (k - 1).toNat + 1 := by omega
  have e2 : (((k - 1).toNat : Nat) : Int) + 1 = k := by omega
  rw [e, msF, e2]
set_option maxHeartbeats 1000000 in
theorem c_missing {d : Nat}  {m : PM} {dy : List (Nat × Nat)} {L : Nat} {Q : Option PV → PS → Prop} (hd : 2 ≤ d) (hN : 0 ≤ m 81 22 ∧ m 81 22 ≤ 12) (hb : bl (m 99)) (hp : pgs (m 96)) (o1 : Q (some (.inl (msF (swF (m 81 22) (pkA (m 96) (m 99))) 24))) (m, (none, (dy, L)))) : C d 162 [.inr (.inr 81)] (m, (none, (dy, L))) Q := by
  refine C_go (k := 1) hd xL_162 (fun d hd => ?_)
  show V d 162 (0, ([some (.inr (.inr 81)), none, none], ([], (m, (none, (dy, L)))))) Q
  refine v_iconst (n := 1) xB_162 dX11_missing_0 ⟨by decide, by decide⟩ rfl ?_
  refine v_istore_n1 (n := 2) xB_162 dX11_missing_1 rfl rfl ?_
  refine v_iconst (n := 3) xB_162 dX11_missing_2 ⟨by decide, by decide⟩ rfl ?_
  refine v_istore_n2 (n := 4) xB_162 dX11_missing_3 rfl rfl ?_
  refine lp_up (F := fun (k : Int) (m' : PM) => V d 162 (4, ([some (.inr (.inr 81)), some (.inl (msF (swF (m 81 22) (pkA (m 96) (m 99))) ((k : Int) - 1).toNat)), some (.inl (k))], ([], (m', (none, (dy, L)))))) Q) (E := fun (k : Int) (m' : PM) => m = m') (a := 1) (b := 25) ?_ ?_ (1) (m) (by first | omega | (simp only [sA_same, sA_s, ud_s, Int.reduceEq, if_true, if_false, ite_true, ite_false, ↓reduceIte, and_true, true_and, eq_self, Int.add_zero, Int.reduceAdd]; omega)) (by first | omega | (simp only [sA_same, sA_s, ud_s, Int.reduceEq, if_true, if_false, ite_true, ite_false, ↓reduceIte, and_true, true_and, eq_self, Int.add_zero, Int.reduceAdd]; omega)) ?_
  · intro m' hm 
    show V d 162 (4, ([some (.inr (.inr 81)), some (.inl (msF (swF (m 81 22) (pkA (m 96) (m 99))) ((25 : Int) - 1).toNat)), some (.inl (25))], ([], (m', (none, (dy, L)))))) Q
    subst hm
    refine v_iload_n (n := 5) xB_162 dX11_missing_4 rfl rfl ?_
    refine v_bipush (n := 7) xB_162 dX11_missing_5 ⟨by decide, by decide⟩ rfl ?_
    refine v_ic_ge_y (t := 36) xB_162 dX11_missing_7 (by decide) rfl (by first | omega | (simp only [sA_same, sA_s, ud_s, Int.reduceEq, if_true, if_false, ite_true, ite_false, ↓reduceIte, and_true, true_and, eq_self, Int.add_zero, Int.reduceAdd]; omega)) ?_
    refine v_iload_n (n := 37) xB_162 dX11_missing_36 rfl rfl ?_
    refine v_ireturn0 xB_162 dX11_missing_37 xK_162 ?_
    exact o1
  · intro k m' h1 h2 hm ih 
    show V d 162 (4, ([some (.inr (.inr 81)), some (.inl (msF (swF (m 81 22) (pkA (m 96) (m 99))) ((k : Int) - 1).toNat)), some (.inl (k))], ([], (m', (none, (dy, L)))))) Q
    subst hm
    refine v_iload_n (n := 5) xB_162 dX11_missing_4 rfl rfl ?_
    refine v_bipush (n := 7) xB_162 dX11_missing_5 ⟨by decide, by decide⟩ rfl ?_
    refine v_ic_ge_n (n := 10) xB_162 dX11_missing_7 (by decide) rfl (by first | omega | (simp only [sA_same, sA_s, ud_s, Int.reduceEq, if_true, if_false, ite_true, ite_false, ↓reduceIte, and_true, true_and, eq_self, Int.add_zero, Int.reduceAdd]; omega)) ?_
    refine v_iload_n (n := 11) xB_162 dX11_missing_10 rfl rfl ?_
    refine v_aload_n (n := 12) xB_162 dX11_missing_11 rfl rfl ?_
    refine v_iload_n (n := 13) xB_162 dX11_missing_12 rfl rfl ?_
    refine v_call_v (n := 16) xB_162 dX11_missing_13 xO_162 iv_11_321 rfl (sh_81 _ _ _) rfl rfl rfl ?_
    refine c_sidesWith (by omega) (by first | omega | (simp only [sA_same, sA_s, ud_s, Int.reduceEq, if_true, if_false, ite_true, ite_false, ↓reduceIte, and_true, true_and, eq_self, Int.add_zero, Int.reduceAdd]; omega)) (by first | assumption | (simp only [sA_same, sA_s, ud_s, Int.reduceEq, if_true, if_false, ite_true, ite_false, ↓reduceIte, and_true, true_and, eq_self, Int.add_zero, Int.reduceAdd]; assumption)) (by first | assumption | (simp only [sA_same, sA_s, ud_s, Int.reduceEq, if_true, if_false, ite_true, ite_false, ↓reduceIte, and_true, true_and, eq_self, Int.add_zero, Int.reduceAdd]; assumption)) ?_
    refine v_if_ne (t := 27) (n := 19) xB_162 dX11_missing_16 (by decide) rfl rfl (fun g1 => ?_) (fun g1 => ?_)
    · refine v_iconst (n := 28) xB_162 dX11_missing_27 ⟨by decide, by decide⟩ rfl ?_
      refine v_ior (n := 29) xB_162 dX11_missing_28 rfl ?_
      refine v_istore_n1 (n := 30) xB_162 dX11_missing_29 rfl rfl ?_
      refine v_iinc2 (n := 33) xB_162 dX11_missing_30 rfl (by first | omega | (simp only [sA_same, sA_s, ud_s, Int.reduceEq, if_true, if_false, ite_true, ite_false, ↓reduceIte, and_true, true_and, eq_self, Int.add_zero, Int.reduceAdd]; omega)) rfl ?_
      refine v_goto (t := 4) xB_162 dX11_missing_33 (by decide) rfl ?_
      refine cast (congrArg (fun z => V d 162 (4, ([some (.inr (.inr 81)), some (.inl z), some (.inl (k + 1))], ([], (m, (none, (dy, L)))))) Q) ?_) (ih _ rfl)
      rw [msF_s (by omega)]
      first | (rw [if_pos (by assumption), Int.one_mul]; done) | rw [if_neg (by assumption)]
    · refine v_iconst (n := 20) xB_162 dX11_missing_19 ⟨by decide, by decide⟩ rfl ?_
      refine v_iload_n (n := 21) xB_162 dX11_missing_20 rfl rfl ?_
      refine v_iconst (n := 22) xB_162 dX11_missing_21 ⟨by decide, by decide⟩ rfl ?_
      refine v_isub (n := 23) xB_162 dX11_missing_22 (by first | omega | (simp only [sA_same, sA_s, ud_s, Int.reduceEq, if_true, if_false, ite_true, ite_false, ↓reduceIte, and_true, true_and, eq_self, Int.add_zero, Int.reduceAdd]; omega)) rfl ?_
      refine v_ishl (n := 24) xB_162 dX11_missing_23 rfl ⟨by decide, by omega, by omega, by have := p2_lt (y := k - 1) (by omega); omega⟩ rfl ?_
      refine v_goto (t := 28) xB_162 dX11_missing_24 (by decide) rfl ?_
      refine v_ior (n := 29) xB_162 dX11_missing_28 rfl ?_
      refine v_istore_n1 (n := 30) xB_162 dX11_missing_29 rfl rfl ?_
      refine v_iinc2 (n := 33) xB_162 dX11_missing_30 rfl (by first | omega | (simp only [sA_same, sA_s, ud_s, Int.reduceEq, if_true, if_false, ite_true, ite_false, ↓reduceIte, and_true, true_and, eq_self, Int.add_zero, Int.reduceAdd]; omega)) rfl ?_
      refine v_goto (t := 4) xB_162 dX11_missing_33 (by decide) rfl ?_
      refine cast (congrArg (fun z => V d 162 (4, ([some (.inr (.inr 81)), some (.inl z), some (.inl (k + 1))], ([], (m, (none, (dy, L)))))) Q) ?_) (ih _ rfl)
      rw [msF_s (by omega)]
      first | (rw [if_pos (by assumption), Int.one_mul]; done) | rw [if_neg (by assumption)]
  · rfl
theorem setA_self (m : PM) (a : Int) : setA m a (m a) = m := sA_id m a
set_option maxHeartbeats 1000000 in
theorem c_loads {d : Nat} {n : Int} {m : PM} {dy : List (Nat × Nat)} {L : Nat} {Q : Option PV → PS → Prop} (hd : 1 ≤ d) (hN : 0 ≤ m 81 22 ∧ m 81 22 ≤ 12) (hn : 0 ≤ n ∧ m 81 22 + n ≤ 12) (hb : bl (m 99)) (hp : pgs (m 96)) (o1 : ∀ sd dn : Int → Int, bl dn → pgs sd → (∀ s, 0 ≤ s → s < m 81 22 + n → pkA sd dn s = if s < n then 0 else pkA (m 96) (m 99) (s - n)) → Q (none) (setA (setA (setA m 81 (ud (m 81) 22 (m 81 22 + n))) 96 sd) 99 dn, (none, (dy, L)))) : C d 152 [.inr (.inr 81), .inl n] (m, (none, (dy, L))) Q := by
  refine C_go (k := 0) hd xL_152 (fun d hd => ?_)
  show V d 152 (0, ([some (.inr (.inr 81)), some (.inl n), none], ([], (m, (none, (dy, L)))))) Q
  refine v_iconst (n := 1) xB_152 dX11_loads_0 ⟨by decide, by decide⟩ rfl ?_
  refine v_aload_n (n := 2) xB_152 dX11_loads_1 rfl rfl ?_
  refine v_gf_i (n := 5) (kz := 22) xB_152 dX11_loads_2 xO_152 fl_11_78 fg_11_22 rfl (sh_81 _ _ _) rfl rfl ?_
  refine v_imul (n := 6) xB_152 dX11_loads_5 (by first | omega | (simp only [sA_same, sA_s, ud_s, Int.reduceEq, if_true, if_false, ite_true, ite_false, ↓reduceIte, and_true, true_and, eq_self, Int.add_zero, Int.reduceAdd]; omega)) rfl ?_
  refine v_iconst (n := 7) xB_152 dX11_loads_6 ⟨by decide, by decide⟩ rfl ?_
  refine v_isub (n := 8) xB_152 dX11_loads_7 (by first | omega | (simp only [sA_same, sA_s, ud_s, Int.reduceEq, if_true, if_false, ite_true, ite_false, ↓reduceIte, and_true, true_and, eq_self, Int.add_zero, Int.reduceAdd]; omega)) rfl ?_
  refine v_istore_n2 (n := 9) xB_152 dX11_loads_8 rfl rfl ?_
  refine lp_dn (F := fun (k : Int) (m' : PM) => V d 152 (9, ([some (.inr (.inr 81)), some (.inl n), some (.inl (k))], ([], (m', (none, (dy, L)))))) Q) (E := fun (k : Int) (m' : PM) => m' = setA (setA m 96 (ivl (fun j => m 96 (j - 2 * n)) (m 96) (2 * n + k + 1) (2 * n + 2 * m 81 22))) 99 (ivl (fun j => m 99 (j - 2 * n)) (m 99) (2 * n + k + 1) (2 * n + 2 * m 81 22))) (a := -1) (b := 2 * m 81 22 - 1) ?_ ?_ (2 * m 81 22 - 1) (_) (by first | omega | (simp only [sA_same, sA_s, ud_s, Int.reduceEq, if_true, if_false, ite_true, ite_false, ↓reduceIte, and_true, true_and, eq_self, Int.add_zero, Int.reduceAdd]; omega)) (by first | omega | (simp only [sA_same, sA_s, ud_s, Int.reduceEq, if_true, if_false, ite_true, ite_false, ↓reduceIte, and_true, true_and, eq_self, Int.add_zero, Int.reduceAdd]; omega)) ?_
  · intro m' hm 
    show V d 152 (9, ([some (.inr (.inr 81)), some (.inl n), some (.inl (-1))], ([], (m', (none, (dy, L)))))) Q
    subst hm
    refine v_iload_n (n := 10) xB_152 dX11_loads_9 rfl rfl ?_
    refine v_if_lt_y (t := 51) xB_152 dX11_loads_10 (by decide) rfl (by first | omega | (simp only [sA_same, sA_s, ud_s, Int.reduceEq, if_true, if_false, ite_true, ite_false, ↓reduceIte, and_true, true_and, eq_self, Int.add_zero, Int.reduceAdd]; omega)) ?_
    refine v_iconst (n := 52) xB_152 dX11_loads_51 ⟨by decide, by decide⟩ rfl ?_
    refine v_istore_n2 (n := 53) xB_152 dX11_loads_52 rfl rfl ?_
    refine lp_up (F := fun (k : Int) (m' : PM) => V d 152 (53, ([some (.inr (.inr 81)), some (.inl n), some (.inl (k))], ([], (m', (none, (dy, L)))))) Q) (E := fun (k : Int) (m' : PM) => m' = setA (setA m 96 (ivl (fun _ => 0) (ivl (fun j => m 96 (j - 2 * n)) (m 96) (2 * n + -1 + 1) (2 * n + 2 * m 81 22)) 0 (k))) 99 (ivl (fun _ => 0) (ivl (fun j => m 99 (j - 2 * n)) (m 99) (2 * n + -1 + 1) (2 * n + 2 * m 81 22)) 0 (k))) (a := 0) (b := 2 * n) ?_ ?_ (0) (_) (by first | omega | (simp only [sA_same, sA_s, ud_s, Int.reduceEq, if_true, if_false, ite_true, ite_false, ↓reduceIte, and_true, true_and, eq_self, Int.add_zero, Int.reduceAdd]; omega)) (by first | omega | (simp only [sA_same, sA_s, ud_s, Int.reduceEq, if_true, if_false, ite_true, ite_false, ↓reduceIte, and_true, true_and, eq_self, Int.add_zero, Int.reduceAdd]; omega)) ?_
    · intro m' hm 
      show V d 152 (53, ([some (.inr (.inr 81)), some (.inl n), some (.inl (2 * n))], ([], (m', (none, (dy, L)))))) Q
      subst hm
      refine v_iload_n (n := 54) xB_152 dX11_loads_53 rfl rfl ?_
      refine v_iconst (n := 55) xB_152 dX11_loads_54 ⟨by decide, by decide⟩ rfl ?_
      refine v_iload_n (n := 56) xB_152 dX11_loads_55 rfl rfl ?_
      refine v_imul (n := 57) xB_152 dX11_loads_56 (by first | omega | (simp only [sA_same, sA_s, ud_s, Int.reduceEq, if_true, if_false, ite_true, ite_false, ↓reduceIte, and_true, true_and, eq_self, Int.add_zero, Int.reduceAdd]; omega)) rfl ?_
      refine v_ic_ge_y (t := 80) xB_152 dX11_loads_57 (by decide) rfl (by first | omega | (simp only [sA_same, sA_s, ud_s, Int.reduceEq, if_true, if_false, ite_true, ite_false, ↓reduceIte, and_true, true_and, eq_self, Int.add_zero, Int.reduceAdd]; omega)) ?_
      refine v_aload_n (n := 81) xB_152 dX11_loads_80 rfl rfl ?_
      refine v_dup (n := 82) xB_152 dX11_loads_81 rfl rfl ?_
      refine v_gf_i (n := 85) (kz := 22) xB_152 dX11_loads_82 xO_152 fl_11_78 fg_11_22 rfl (sh_81 _ _ _) rfl rfl ?_
      refine v_iload_n (n := 86) xB_152 dX11_loads_85 rfl rfl ?_
      refine v_iadd (n := 87) xB_152 dX11_loads_86 (by first | omega | (simp only [sA_same, sA_s, ud_s, Int.reduceEq, if_true, if_false, ite_true, ite_false, ↓reduceIte, and_true, true_and, eq_self, Int.add_zero, Int.reduceAdd]; omega)) rfl ?_
      refine v_pf_i (n := 90) (kz := 22) xB_152 dX11_loads_87 xO_152 fl_11_78 fg_11_22 (Or.inl fn_11_22) (sh_81 _ _ _) (by decide) rfl rfl ?_
      (try simp (disch := omega) only [sA_same, sA_ne, sA_sA, sA_sr, sB_s, ud_eq, ud_ne, ud_ud, ud_sr, uB_s, Int.add_zero, Int.reduceAdd])
      refine v_return xB_152 dX11_loads_90 xK_152 ?_
      (try simp (disch := omega) only [sA_same, sA_ne, sA_sA, sA_sr, sB_s, ud_eq, ud_ne, ud_ud, ud_sr, uB_s, Int.add_zero, Int.reduceAdd])
      refine o1 _ _ (bl_ivl (fun _ => Or.inl rfl) (bl_ivl (fun _ => hb _) hb _ _) _ _) (pgs_ivl (fun _ => ⟨by decide, by decide⟩) (pgs_ivl (fun _ => hp _) hp _ _) _ _) ?_
      intro s h1 h2
      unfold pkA
      by_cases hs : s < n
      · rw [if_pos hs]; simp (disch := omega) only [ivl_in, ivl_lo, ivl_hi]; rfl
      · rw [if_neg hs]; simp (disch := omega) only [ivl_in, ivl_lo, ivl_hi]; rw [show 2 * s - 2 * n = 2 * (s - n) by omega, show 2 * s + 1 - 2 * n = 2 * (s - n) + 1 by omega]
    · intro k m' h1 h2 hm ih 
      show V d 152 (53, ([some (.inr (.inr 81)), some (.inl n), some (.inl (k))], ([], (m', (none, (dy, L)))))) Q
      subst hm
      refine v_iload_n (n := 54) xB_152 dX11_loads_53 rfl rfl ?_
      refine v_iconst (n := 55) xB_152 dX11_loads_54 ⟨by decide, by decide⟩ rfl ?_
      refine v_iload_n (n := 56) xB_152 dX11_loads_55 rfl rfl ?_
      refine v_imul (n := 57) xB_152 dX11_loads_56 (by first | omega | (simp only [sA_same, sA_s, ud_s, Int.reduceEq, if_true, if_false, ite_true, ite_false, ↓reduceIte, and_true, true_and, eq_self, Int.add_zero, Int.reduceAdd]; omega)) rfl ?_
      refine v_ic_ge_n (n := 60) xB_152 dX11_loads_57 (by decide) rfl (by first | omega | (simp only [sA_same, sA_s, ud_s, Int.reduceEq, if_true, if_false, ite_true, ite_false, ↓reduceIte, and_true, true_and, eq_self, Int.add_zero, Int.reduceAdd]; omega)) ?_
      refine v_aload_n (n := 61) xB_152 dX11_loads_60 rfl rfl ?_
      refine v_gf_s (n := 64) (kz := 23) xB_152 dX11_loads_61 xO_152 fl_11_81 fg_11_23 (sh_81 _ _ _) rfl st_81_23 rfl ?_
      refine v_iload_n (n := 65) xB_152 dX11_loads_64 rfl rfl ?_
      refine v_iconst (n := 66) xB_152 dX11_loads_65 ⟨by decide, by decide⟩ rfl ?_
      refine v_iastore (n := 67) (lz := 24) xB_152 dX11_loads_66 (sh_96 _ _ _) (by decide) rfl (by first | omega | (simp only [sA_same, sA_s, ud_s, Int.reduceEq, if_true, if_false, ite_true, ite_false, ↓reduceIte, and_true, true_and, eq_self, Int.add_zero, Int.reduceAdd]; omega)) rfl ?_
      (try simp (disch := omega) only [sA_same, sA_ne, sA_sA, sA_sr, sB_s, ud_eq, ud_ne, ud_ud, ud_sr, uB_s, Int.add_zero, Int.reduceAdd])
      refine v_aload_n (n := 68) xB_152 dX11_loads_67 rfl rfl ?_
      refine v_gf_s (n := 71) (kz := 26) xB_152 dX11_loads_68 xO_152 fl_11_90 fg_11_26 (sh_81 _ _ _) rfl st_81_26 rfl ?_
      refine v_iload_n (n := 72) xB_152 dX11_loads_71 rfl rfl ?_
      refine v_iconst (n := 73) xB_152 dX11_loads_72 ⟨by decide, by decide⟩ rfl ?_
      refine v_bastore01 (n := 74) (lz := 24) xB_152 dX11_loads_73 (sh_99 _ _ _) (by decide) rfl (by first | omega | (simp only [sA_same, sA_s, ud_s, Int.reduceEq, if_true, if_false, ite_true, ite_false, ↓reduceIte, and_true, true_and, eq_self, Int.add_zero, Int.reduceAdd]; omega)) (by decide) rfl ?_
      (try simp (disch := omega) only [sA_same, sA_ne, sA_sA, sA_sr, sB_s, ud_eq, ud_ne, ud_ud, ud_sr, uB_s, Int.add_zero, Int.reduceAdd])
      refine v_iinc2 (n := 77) xB_152 dX11_loads_74 rfl (by first | omega | (simp only [sA_same, sA_s, ud_s, Int.reduceEq, if_true, if_false, ite_true, ite_false, ↓reduceIte, and_true, true_and, eq_self, Int.add_zero, Int.reduceAdd]; omega)) rfl ?_
      refine v_goto (t := 53) xB_152 dX11_loads_77 (by decide) rfl ?_
      refine ih _ ?_
      (try simp (disch := omega) only [sA_same, sA_ne, sA_sA, sA_sr, sB_s, ud_eq, ud_ne, ud_ud, ud_sr, uB_s, Int.add_zero, Int.reduceAdd])
      exact sA2 (by funext j; simp only [ud_s, ivl, sA_same, sA_s, Int.reduceEq, if_true, if_false, ↓reduceIte]; (repeat' split) <;> first | rfl | omega | (congr 1; omega) | (congr 2; omega)) (by funext j; simp only [ud_s, ivl, sA_same, sA_s, Int.reduceEq, if_true, if_false, ↓reduceIte]; (repeat' split) <;> first | rfl | omega | (congr 1; omega) | (congr 2; omega))
    · simp (disch := omega) only [sA_id, ivl_0, sA_ne, sA_same]
  · intro k m' h1 h2 hm ih 
    show V d 152 (9, ([some (.inr (.inr 81)), some (.inl n), some (.inl (k))], ([], (m', (none, (dy, L)))))) Q
    subst hm
    have qb : ivl (fun j => m 99 (j - 2 * n)) (m 99) (2 * n + k + 1) (2 * n + 2 * m 81 22) k = 0 ∨ ivl (fun j => m 99 (j - 2 * n)) (m 99) (2 * n + k + 1) (2 * n + 2 * m 81 22) k = 1 := bl_ivl (fun _ => hb _) hb _ _ k
    refine v_iload_n (n := 10) xB_152 dX11_loads_9 rfl rfl ?_
    refine v_if_lt_n (n := 13) xB_152 dX11_loads_10 (by decide) rfl (by first | omega | (simp only [sA_same, sA_s, ud_s, Int.reduceEq, if_true, if_false, ite_true, ite_false, ↓reduceIte, and_true, true_and, eq_self, Int.add_zero, Int.reduceAdd]; omega)) ?_
    refine v_aload_n (n := 14) xB_152 dX11_loads_13 rfl rfl ?_
    refine v_gf_s (n := 17) (kz := 23) xB_152 dX11_loads_14 xO_152 fl_11_81 fg_11_23 (sh_81 _ _ _) rfl st_81_23 rfl ?_
    refine v_iload_n (n := 18) xB_152 dX11_loads_17 rfl rfl ?_
    refine v_iconst (n := 19) xB_152 dX11_loads_18 ⟨by decide, by decide⟩ rfl ?_
    refine v_iload_n (n := 20) xB_152 dX11_loads_19 rfl rfl ?_
    refine v_imul (n := 21) xB_152 dX11_loads_20 (by first | omega | (simp only [sA_same, sA_s, ud_s, Int.reduceEq, if_true, if_false, ite_true, ite_false, ↓reduceIte, and_true, true_and, eq_self, Int.add_zero, Int.reduceAdd]; omega)) rfl ?_
    refine v_iadd (n := 22) xB_152 dX11_loads_21 (by first | omega | (simp only [sA_same, sA_s, ud_s, Int.reduceEq, if_true, if_false, ite_true, ite_false, ↓reduceIte, and_true, true_and, eq_self, Int.add_zero, Int.reduceAdd]; omega)) rfl ?_
    refine v_aload_n (n := 23) xB_152 dX11_loads_22 rfl rfl ?_
    refine v_gf_s (n := 26) (kz := 23) xB_152 dX11_loads_23 xO_152 fl_11_81 fg_11_23 (sh_81 _ _ _) rfl st_81_23 rfl ?_
    refine v_iload_n (n := 27) xB_152 dX11_loads_26 rfl rfl ?_
    refine v_iaload (n := 28) (lz := 24) xB_152 dX11_loads_27 (sh_96 _ _ _) rfl (by first | omega | (simp only [sA_same, sA_s, ud_s, Int.reduceEq, if_true, if_false, ite_true, ite_false, ↓reduceIte, and_true, true_and, eq_self, Int.add_zero, Int.reduceAdd]; omega)) rfl ?_
    refine v_iastore (n := 29) (lz := 24) xB_152 dX11_loads_28 (sh_96 _ _ _) (by decide) rfl (by first | omega | (simp only [sA_same, sA_s, ud_s, Int.reduceEq, if_true, if_false, ite_true, ite_false, ↓reduceIte, and_true, true_and, eq_self, Int.add_zero, Int.reduceAdd]; omega)) rfl ?_
    (try simp (disch := omega) only [sA_same, sA_ne, sA_sA, sA_sr, sB_s, ud_eq, ud_ne, ud_ud, ud_sr, uB_s, Int.add_zero, Int.reduceAdd])
    refine v_aload_n (n := 30) xB_152 dX11_loads_29 rfl rfl ?_
    refine v_gf_s (n := 33) (kz := 26) xB_152 dX11_loads_30 xO_152 fl_11_90 fg_11_26 (sh_81 _ _ _) rfl st_81_26 rfl ?_
    refine v_iload_n (n := 34) xB_152 dX11_loads_33 rfl rfl ?_
    refine v_iconst (n := 35) xB_152 dX11_loads_34 ⟨by decide, by decide⟩ rfl ?_
    refine v_iload_n (n := 36) xB_152 dX11_loads_35 rfl rfl ?_
    refine v_imul (n := 37) xB_152 dX11_loads_36 (by first | omega | (simp only [sA_same, sA_s, ud_s, Int.reduceEq, if_true, if_false, ite_true, ite_false, ↓reduceIte, and_true, true_and, eq_self, Int.add_zero, Int.reduceAdd]; omega)) rfl ?_
    refine v_iadd (n := 38) xB_152 dX11_loads_37 (by first | omega | (simp only [sA_same, sA_s, ud_s, Int.reduceEq, if_true, if_false, ite_true, ite_false, ↓reduceIte, and_true, true_and, eq_self, Int.add_zero, Int.reduceAdd]; omega)) rfl ?_
    refine v_aload_n (n := 39) xB_152 dX11_loads_38 rfl rfl ?_
    refine v_gf_s (n := 42) (kz := 26) xB_152 dX11_loads_39 xO_152 fl_11_90 fg_11_26 (sh_81 _ _ _) rfl st_81_26 rfl ?_
    refine v_iload_n (n := 43) xB_152 dX11_loads_42 rfl rfl ?_
    refine v_baload (n := 44) (lz := 24) xB_152 dX11_loads_43 (sh_99 _ _ _) rfl (by first | omega | (simp only [sA_same, sA_s, ud_s, Int.reduceEq, if_true, if_false, ite_true, ite_false, ↓reduceIte, and_true, true_and, eq_self, Int.add_zero, Int.reduceAdd]; omega)) rfl ?_
    refine v_bastore01 (n := 45) (lz := 24) xB_152 dX11_loads_44 (sh_99 _ _ _) (by decide) rfl (by first | omega | (simp only [sA_same, sA_s, ud_s, Int.reduceEq, if_true, if_false, ite_true, ite_false, ↓reduceIte, and_true, true_and, eq_self, Int.add_zero, Int.reduceAdd]; omega)) (by first | omega | (simp only [sA_same, sA_s, ud_s, Int.reduceEq, if_true, if_false, ite_true, ite_false, ↓reduceIte, and_true, true_and, eq_self, Int.add_zero, Int.reduceAdd]; omega)) rfl ?_
    (try simp (disch := omega) only [sA_same, sA_ne, sA_sA, sA_sr, sB_s, ud_eq, ud_ne, ud_ud, ud_sr, uB_s, Int.add_zero, Int.reduceAdd])
    refine v_iinc2 (n := 48) xB_152 dX11_loads_45 rfl (by first | omega | (simp only [sA_same, sA_s, ud_s, Int.reduceEq, if_true, if_false, ite_true, ite_false, ↓reduceIte, and_true, true_and, eq_self, Int.add_zero, Int.reduceAdd]; omega)) rfl ?_
    refine v_goto (t := 9) xB_152 dX11_loads_48 (by decide) rfl ?_
    refine ih _ ?_
    (try simp (disch := omega) only [sA_same, sA_ne, sA_sA, sA_sr, sB_s, ud_eq, ud_ne, ud_ud, ud_sr, uB_s, Int.add_zero, Int.reduceAdd])
    exact sA2 (by funext j; simp only [ud_s, ivl, sA_same, sA_s, Int.reduceEq, if_true, if_false, ↓reduceIte]; (repeat' split) <;> first | rfl | omega | (congr 1; omega) | (congr 2; omega)) (by funext j; simp only [ud_s, ivl, sA_same, sA_s, Int.reduceEq, if_true, if_false, ↓reduceIte]; (repeat' split) <;> first | rfl | omega | (congr 1; omega) | (congr 2; omega))
  · rw [ivl_0 (by omega), ivl_0 (by omega), sA_id]
    exact (setA_self _ _).symm
