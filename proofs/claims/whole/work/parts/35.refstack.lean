/-! The reference: the stack. -/
def pkA (sd dn : Int → Int) (s : Int) : Int := sd (2 * s) + 128 * dn (2 * s) + 256 * sd (2 * s + 1) + 32768 * dn (2 * s + 1)
theorem pkA_ok {sd dn : Int → Int} (h : pgs sd) (hb : bl dn) (s : Int) : okS (pkA sd dn s) := by
  have := h (2 * s); have := h (2 * s + 1); have := hb (2 * s); have := hb (2 * s + 1)
  unfold okS pkA; omega
def wyF (w N : Int) (c : Int → Int) (s : Int) : Int :=
  if 1 < w then abt (if w % 2 = 1 then ovF (c (N - 1 - s)) else c s) else (if w % 2 = 1 then ovF (c (N - 1 - s)) else c s)
def rtF (N : Int) (c : Int → Int) : Int := sm (fun i => if c i = 2 * i + 1 + 256 * (2 * i + 2) then 1 else 0) N.toNat
def pgk (c : Int → Int) (k : Int) : Int := if k % 2 = 0 then c (k / 2) % 128 else c (k / 2) / 256 % 128
def swF (N : Int) (c : Int → Int) (p : Int) : Int := sm (fun k => if pgk c k = p then 1 else 0) (2 * N).toNat
def msF (f : Int → Int) : Nat → Int
  | 0 => 0
  | n + 1 => iOr (msF f n) (if f ((n : Int) + 1) = 0 then 2 ^ n else 0)
theorem pgk_pk {sd dn : Int → Int} (h : pgs sd) (hb : bl dn) (k : Int) : pgk (pkA sd dn) k = sd k := by
  unfold pgk pkA
  have q1 := h (2 * (k / 2)); have q2 := h (2 * (k / 2) + 1); have q3 := hb (2 * (k / 2)); have q4 := hb (2 * (k / 2) + 1)
  by_cases e : k % 2 = 0
  · rw [if_pos e]
    have e2 : k = 2 * (k / 2) := by omega
    rw [← e2] at q1 ⊢; omega
  · rw [if_neg e]
    have e2 : k = 2 * (k / 2) + 1 := by omega
    rw [← e2] at q2 ⊢; omega
theorem sm_s {f : Int → Int} {k : Int} (h : 0 ≤ k) : sm f (k + 1).toNat = sm f k.toNat + f k := by
  have e : (k + 1).toNat = k.toNat + 1 := by omega
  rw [e, sm, show ((k.toNat : Nat) : Int) = k by omega]
theorem sm01 {P : Int → Prop} (hP : ∀ i, Decidable (P i)) (n : Nat) : 0 ≤ sm (fun i => @ite _ (P i) (hP i) 1 0) n ∧ sm (fun i => @ite _ (P i) (hP i) 1 0) n ≤ n := by
  have := sm_in (f := fun i => @ite _ (P i) (hP i) 1 0) (b := 1) n (fun i _ => by split <;> omega)
  omega
theorem sw_in (f : Int → Int) (p : Int) (n : Nat) : 0 ≤ sm (fun k => if f k = p then 1 else 0) n ∧ sm (fun k => if f k = p then 1 else 0) n ≤ n := sm01 _ n
theorem rt_in (c : Int → Int) (n : Nat) : 0 ≤ sm (fun i => if c i = 2 * i + 1 + 256 * (2 * i + 2) then 1 else 0) n ∧ sm (fun i => if c i = 2 * i + 1 + 256 * (2 * i + 2) then 1 else 0) n ≤ n := sm01 _ n
theorem pkR {a x b y k : Int} (ha : 0 ≤ a ∧ a < 128) (hx : x = 0 ∨ x = 1) (hb : 0 ≤ b ∧ b < 128) (hy : y = 0 ∨ y = 1) (hk : 0 ≤ k ∧ k < 12) (h : a + 128 * x + 256 * b + 32768 * y = 2 * k + 1 + 256 * (2 * k + 2)) : a = 2 * k + 1 ∧ b = 2 * k + 2 ∧ x = 0 ∧ y = 0 := by
  have e1 : a + 128 * x = 2 * k + 1 := by
    have e : (a + 128 * x + 256 * b + 32768 * y) % 256 = (2 * k + 1 + 256 * (2 * k + 2)) % 256 := by rw [h]
    omega
  have e2 : b + 128 * y = 2 * k + 2 := by omega
  omega
theorem rtF_congr {N : Int} {c e : Int → Int} (h : ∀ s, 0 ≤ s → s < N → c s = e s) : rtF N c = rtF N e := by
  unfold rtF
  refine sm_congr _ (fun i hi => ?_)
  rw [h i (by omega) (by omega)]
theorem swF_congr {N : Int} {c e : Int → Int} (h : ∀ s, 0 ≤ s → s < N → c s = e s) (p : Int) : swF N c p = swF N e p := by
  unfold swF pgk
  refine sm_congr _ (fun i hi => ?_)
  rw [h ((i : Int) / 2) (by omega) (by omega)]
theorem sA2 {m : PM} {a b : Int} {f f' g g' : Int → Int} (h1 : f = f') (h2 : g = g') : setA (setA m a f) b g = setA (setA m a f') b g' := by rw [h1, h2]
theorem bl_ivl {f g : Int → Int} (hf : bl f) (hg : bl g) (a b : Int) : bl (ivl f g a b) := by
  intro j; unfold ivl; split
  · exact hf j
  · exact hg j
theorem pgs_ivl {f g : Int → Int} (hf : pgs f) (hg : pgs g) (a b : Int) : pgs (ivl f g a b) := by
  intro j; unfold ivl; split
  · exact hf j
  · exact hg j
set_option maxHeartbeats 1000000 in
theorem c_right {d : Nat}  {m : PM} {dy : List (Nat × Nat)} {L : Nat} {Q : Option PV → PS → Prop} (hd : 2 ≤ d) (hN : 0 ≤ m 81 22 ∧ m 81 22 ≤ 12) (hb : bl (m 99)) (hp : pgs (m 96)) (o1 : Q (some (.inl (rtF (m 81 22) (pkA (m 96) (m 99))))) (m, (none, (dy, L)))) : C d 158 [.inr (.inr 81)] (m, (none, (dy, L))) Q := by
  refine C_go (k := 1) hd xL_158 (fun d hd => ?_)
  show V d 158 (0, ([some (.inr (.inr 81)), none, none], ([], (m, (none, (dy, L)))))) Q
  refine v_iconst (n := 1) xB_158 dX11_right_0 ⟨by decide, by decide⟩ rfl ?_
  refine v_istore_n1 (n := 2) xB_158 dX11_right_1 rfl rfl ?_
  refine v_iconst (n := 3) xB_158 dX11_right_2 ⟨by decide, by decide⟩ rfl ?_
  refine v_istore_n2 (n := 4) xB_158 dX11_right_3 rfl rfl ?_
  refine lp_up (F := fun (k : Int) (m' : PM) => V d 158 (4, ([some (.inr (.inr 81)), some (.inl (sm (fun i => if pkA (m 96) (m 99) i = 2 * i + 1 + 256 * (2 * i + 2) then 1 else 0) (k).toNat)), some (.inl (k))], ([], (m', (none, (dy, L)))))) Q) (E := fun (k : Int) (m' : PM) => m = m') (a := 0) (b := m 81 22) ?_ ?_ (0) (m) (by first | omega | (simp only [sA_same, sA_s, ud_s, Int.reduceEq, if_true, if_false, ite_true, ite_false, ↓reduceIte, and_true, true_and, eq_self]; omega)) (by first | omega | (simp only [sA_same, sA_s, ud_s, Int.reduceEq, if_true, if_false, ite_true, ite_false, ↓reduceIte, and_true, true_and, eq_self]; omega)) ?_
  · intro m' hm
    show V d 158 (4, ([some (.inr (.inr 81)), some (.inl (sm (fun i => if pkA (m 96) (m 99) i = 2 * i + 1 + 256 * (2 * i + 2) then 1 else 0) (m 81 22).toNat)), some (.inl (m 81 22))], ([], (m', (none, (dy, L)))))) Q
    subst hm
    refine v_iload_n (n := 5) xB_158 dX11_right_4 rfl rfl ?_
    refine v_aload_n (n := 6) xB_158 dX11_right_5 rfl rfl ?_
    refine v_gf_i (n := 9) (kz := 22) xB_158 dX11_right_6 xO_158 fl_11_78 fg_11_22 rfl (sh_81 _ _ _) rfl rfl ?_
    refine v_ic_ge_y (t := 34) xB_158 dX11_right_9 (by decide) rfl (by first | omega | (simp only [sA_same, sA_s, ud_s, Int.reduceEq, if_true, if_false, ite_true, ite_false, ↓reduceIte, and_true, true_and, eq_self]; omega)) ?_
    refine v_iload_n (n := 35) xB_158 dX11_right_34 rfl rfl ?_
    refine v_ireturn0 xB_158 dX11_right_35 xK_158 ?_
    exact o1
  · intro k m' h1 h2 hm ih
    show V d 158 (4, ([some (.inr (.inr 81)), some (.inl (sm (fun i => if pkA (m 96) (m 99) i = 2 * i + 1 + 256 * (2 * i + 2) then 1 else 0) (k).toNat)), some (.inl (k))], ([], (m', (none, (dy, L)))))) Q
    subst hm
    have q5 := rt_in (pkA (m 96) (m 99)) k.toNat
    have q1 := hp (2 * k)
    have q2 := hp (2 * k + 1)
    have q3 := hb (2 * k)
    have q4 := hb (2 * k + 1)
    refine v_iload_n (n := 5) xB_158 dX11_right_4 rfl rfl ?_
    refine v_aload_n (n := 6) xB_158 dX11_right_5 rfl rfl ?_
    refine v_gf_i (n := 9) (kz := 22) xB_158 dX11_right_6 xO_158 fl_11_78 fg_11_22 rfl (sh_81 _ _ _) rfl rfl ?_
    refine v_ic_ge_n (n := 12) xB_158 dX11_right_9 (by decide) rfl (by first | omega | (simp only [sA_same, sA_s, ud_s, Int.reduceEq, if_true, if_false, ite_true, ite_false, ↓reduceIte, and_true, true_and, eq_self]; omega)) ?_
    refine v_iload_n (n := 13) xB_158 dX11_right_12 rfl rfl ?_
    refine v_aload_n (n := 14) xB_158 dX11_right_13 rfl rfl ?_
    refine v_iload_n (n := 15) xB_158 dX11_right_14 rfl rfl ?_
    refine v_call_v (n := 18) xB_158 dX11_right_15 xO_158 iv_11_312 rfl (sh_81 _ _ _) rfl rfl rfl ?_
    refine c_isRight (by omega) (by first | omega | (simp only [sA_same, sA_s, ud_s, Int.reduceEq, if_true, if_false, ite_true, ite_false, ↓reduceIte, and_true, true_and, eq_self]; omega)) (fun g1 => ?_) (fun g2 => ?_)
    · refine v_if_eq_n (n := 21) xB_158 dX11_right_18 (by decide) rfl (by decide) ?_
      refine v_iconst (n := 22) xB_158 dX11_right_21 ⟨by decide, by decide⟩ rfl ?_
      refine v_goto (t := 26) xB_158 dX11_right_22 (by decide) rfl ?_
      refine v_iadd (n := 27) xB_158 dX11_right_26 (by first | omega | (simp only [sA_same, sA_s, ud_s, Int.reduceEq, if_true, if_false, ite_true, ite_false, ↓reduceIte, and_true, true_and, eq_self]; omega)) rfl ?_
      refine v_istore_n1 (n := 28) xB_158 dX11_right_27 rfl rfl ?_
      refine v_iinc2 (n := 31) xB_158 dX11_right_28 rfl (by first | omega | (simp only [sA_same, sA_s, ud_s, Int.reduceEq, if_true, if_false, ite_true, ite_false, ↓reduceIte, and_true, true_and, eq_self]; omega)) rfl ?_
      refine v_goto (t := 4) xB_158 dX11_right_31 (by decide) rfl ?_
      refine cast (congrArg (fun z => V d 158 (4, ([some (.inr (.inr 81)), some (.inl z), some (.inl (k + 1))], ([], (m, (none, (dy, L)))))) Q) ?_) (ih _ rfl)
      rw [sm_s (by omega)]
      first | rw [if_pos (by unfold pkA; omega)] | rw [if_neg (fun e => by unfold pkA at e; have e2 := pkR q1 q3 q2 q4 (by omega) e; omega)]
    · refine v_if_eq_y (t := 25) xB_158 dX11_right_18 (by decide) rfl (by decide) ?_
      refine v_iconst (n := 26) xB_158 dX11_right_25 ⟨by decide, by decide⟩ rfl ?_
      refine v_iadd (n := 27) xB_158 dX11_right_26 (by first | omega | (simp only [sA_same, sA_s, ud_s, Int.reduceEq, if_true, if_false, ite_true, ite_false, ↓reduceIte, and_true, true_and, eq_self]; omega)) rfl ?_
      refine v_istore_n1 (n := 28) xB_158 dX11_right_27 rfl rfl ?_
      refine v_iinc2 (n := 31) xB_158 dX11_right_28 rfl (by first | omega | (simp only [sA_same, sA_s, ud_s, Int.reduceEq, if_true, if_false, ite_true, ite_false, ↓reduceIte, and_true, true_and, eq_self]; omega)) rfl ?_
      refine v_goto (t := 4) xB_158 dX11_right_31 (by decide) rfl ?_
      refine cast (congrArg (fun z => V d 158 (4, ([some (.inr (.inr 81)), some (.inl z), some (.inl (k + 1))], ([], (m, (none, (dy, L)))))) Q) ?_) (ih _ rfl)
      rw [sm_s (by omega)]
      first | rw [if_pos (by unfold pkA; omega)] | rw [if_neg (fun e => by unfold pkA at e; have e2 := pkR q1 q3 q2 q4 (by omega) e; omega)]
  · rfl
set_option maxHeartbeats 1000000 in
theorem c_sidesWith {d : Nat} {p : Int} {m : PM} {dy : List (Nat × Nat)} {L : Nat} {Q : Option PV → PS → Prop} (hd : 1 ≤ d) (hN : 0 ≤ m 81 22 ∧ m 81 22 ≤ 12) (hb : bl (m 99)) (hp : pgs (m 96)) (o1 : Q (some (.inl (swF (m 81 22) (pkA (m 96) (m 99)) p))) (m, (none, (dy, L)))) : C d 159 [.inr (.inr 81), .inl p] (m, (none, (dy, L))) Q := by
  refine C_go (k := 0) hd xL_159 (fun d hd => ?_)
  show V d 159 (0, ([some (.inr (.inr 81)), some (.inl p), none, none], ([], (m, (none, (dy, L)))))) Q
  refine v_iconst (n := 1) xB_159 dX11_sidesWith_0 ⟨by decide, by decide⟩ rfl ?_
  refine v_istore_n2 (n := 2) xB_159 dX11_sidesWith_1 rfl rfl ?_
  refine v_iconst (n := 3) xB_159 dX11_sidesWith_2 ⟨by decide, by decide⟩ rfl ?_
  refine v_istore_n3 (n := 4) xB_159 dX11_sidesWith_3 rfl rfl ?_
  refine lp_up (F := fun (k : Int) (m' : PM) => V d 159 (4, ([some (.inr (.inr 81)), some (.inl p), some (.inl (sm (fun k => if pgk (pkA (m 96) (m 99)) k = p then 1 else 0) (k).toNat)), some (.inl (k))], ([], (m', (none, (dy, L)))))) Q) (E := fun (k : Int) (m' : PM) => m = m') (a := 0) (b := 2 * m 81 22) ?_ ?_ (0) (m) (by first | omega | (simp only [sA_same, sA_s, ud_s, Int.reduceEq, if_true, if_false, ite_true, ite_false, ↓reduceIte, and_true, true_and, eq_self]; omega)) (by first | omega | (simp only [sA_same, sA_s, ud_s, Int.reduceEq, if_true, if_false, ite_true, ite_false, ↓reduceIte, and_true, true_and, eq_self]; omega)) ?_
  · intro m' hm
    show V d 159 (4, ([some (.inr (.inr 81)), some (.inl p), some (.inl (sm (fun k => if pgk (pkA (m 96) (m 99)) k = p then 1 else 0) (2 * m 81 22).toNat)), some (.inl (2 * m 81 22))], ([], (m', (none, (dy, L)))))) Q
    subst hm
    refine v_iload_n (n := 5) xB_159 dX11_sidesWith_4 rfl rfl ?_
    refine v_iconst (n := 6) xB_159 dX11_sidesWith_5 ⟨by decide, by decide⟩ rfl ?_
    refine v_aload_n (n := 7) xB_159 dX11_sidesWith_6 rfl rfl ?_
    refine v_gf_i (n := 10) (kz := 22) xB_159 dX11_sidesWith_7 xO_159 fl_11_78 fg_11_22 rfl (sh_81 _ _ _) rfl rfl ?_
    refine v_imul (n := 11) xB_159 dX11_sidesWith_10 (by first | omega | (simp only [sA_same, sA_s, ud_s, Int.reduceEq, if_true, if_false, ite_true, ite_false, ↓reduceIte, and_true, true_and, eq_self]; omega)) rfl ?_
    refine v_ic_ge_y (t := 38) xB_159 dX11_sidesWith_11 (by decide) rfl (by first | omega | (simp only [sA_same, sA_s, ud_s, Int.reduceEq, if_true, if_false, ite_true, ite_false, ↓reduceIte, and_true, true_and, eq_self]; omega)) ?_
    refine v_iload_n (n := 39) xB_159 dX11_sidesWith_38 rfl rfl ?_
    refine v_ireturn0 xB_159 dX11_sidesWith_39 xK_159 ?_
    exact o1
  · intro k m' h1 h2 hm ih
    show V d 159 (4, ([some (.inr (.inr 81)), some (.inl p), some (.inl (sm (fun k => if pgk (pkA (m 96) (m 99)) k = p then 1 else 0) (k).toNat)), some (.inl (k))], ([], (m', (none, (dy, L)))))) Q
    subst hm
    have q5 := sw_in (pgk (pkA (m 96) (m 99))) p k.toNat
    refine v_iload_n (n := 5) xB_159 dX11_sidesWith_4 rfl rfl ?_
    refine v_iconst (n := 6) xB_159 dX11_sidesWith_5 ⟨by decide, by decide⟩ rfl ?_
    refine v_aload_n (n := 7) xB_159 dX11_sidesWith_6 rfl rfl ?_
    refine v_gf_i (n := 10) (kz := 22) xB_159 dX11_sidesWith_7 xO_159 fl_11_78 fg_11_22 rfl (sh_81 _ _ _) rfl rfl ?_
    refine v_imul (n := 11) xB_159 dX11_sidesWith_10 (by first | omega | (simp only [sA_same, sA_s, ud_s, Int.reduceEq, if_true, if_false, ite_true, ite_false, ↓reduceIte, and_true, true_and, eq_self]; omega)) rfl ?_
    refine v_ic_ge_n (n := 14) xB_159 dX11_sidesWith_11 (by decide) rfl (by first | omega | (simp only [sA_same, sA_s, ud_s, Int.reduceEq, if_true, if_false, ite_true, ite_false, ↓reduceIte, and_true, true_and, eq_self]; omega)) ?_
    refine v_iload_n (n := 15) xB_159 dX11_sidesWith_14 rfl rfl ?_
    refine v_aload_n (n := 16) xB_159 dX11_sidesWith_15 rfl rfl ?_
    refine v_gf_s (n := 19) (kz := 23) xB_159 dX11_sidesWith_16 xO_159 fl_11_81 fg_11_23 (sh_81 _ _ _) rfl st_81_23 rfl ?_
    refine v_iload_n (n := 20) xB_159 dX11_sidesWith_19 rfl rfl ?_
    refine v_iaload (n := 21) (lz := 24) xB_159 dX11_sidesWith_20 (sh_96 _ _ _) rfl (by first | omega | (simp only [sA_same, sA_s, ud_s, Int.reduceEq, if_true, if_false, ite_true, ite_false, ↓reduceIte, and_true, true_and, eq_self]; omega)) rfl ?_
    refine v_iload_n (n := 22) xB_159 dX11_sidesWith_21 rfl rfl ?_
    refine v_ic_ne (t := 29) (n := 25) xB_159 dX11_sidesWith_22 (by decide) rfl rfl (fun g1 => ?_) (fun g1 => ?_)
    · refine v_iconst (n := 30) xB_159 dX11_sidesWith_29 ⟨by decide, by decide⟩ rfl ?_
      refine v_iadd (n := 31) xB_159 dX11_sidesWith_30 (by first | omega | (simp only [sA_same, sA_s, ud_s, Int.reduceEq, if_true, if_false, ite_true, ite_false, ↓reduceIte, and_true, true_and, eq_self]; omega)) rfl ?_
      refine v_istore_n2 (n := 32) xB_159 dX11_sidesWith_31 rfl rfl ?_
      refine v_iinc3 (n := 35) xB_159 dX11_sidesWith_32 rfl (by first | omega | (simp only [sA_same, sA_s, ud_s, Int.reduceEq, if_true, if_false, ite_true, ite_false, ↓reduceIte, and_true, true_and, eq_self]; omega)) rfl ?_
      refine v_goto (t := 4) xB_159 dX11_sidesWith_35 (by decide) rfl ?_
      refine cast (congrArg (fun z => V d 159 (4, ([some (.inr (.inr 81)), some (.inl p), some (.inl z), some (.inl (k + 1))], ([], (m, (none, (dy, L)))))) Q) ?_) (ih _ rfl)
      rw [sm_s (by omega)]
      rw [pgk_pk hp hb]
      first | rw [if_pos (by omega)] | rw [if_neg (by omega)]
    · refine v_iconst (n := 26) xB_159 dX11_sidesWith_25 ⟨by decide, by decide⟩ rfl ?_
      refine v_goto (t := 30) xB_159 dX11_sidesWith_26 (by decide) rfl ?_
      refine v_iadd (n := 31) xB_159 dX11_sidesWith_30 (by first | omega | (simp only [sA_same, sA_s, ud_s, Int.reduceEq, if_true, if_false, ite_true, ite_false, ↓reduceIte, and_true, true_and, eq_self]; omega)) rfl ?_
      refine v_istore_n2 (n := 32) xB_159 dX11_sidesWith_31 rfl rfl ?_
      refine v_iinc3 (n := 35) xB_159 dX11_sidesWith_32 rfl (by first | omega | (simp only [sA_same, sA_s, ud_s, Int.reduceEq, if_true, if_false, ite_true, ite_false, ↓reduceIte, and_true, true_and, eq_self]; omega)) rfl ?_
      refine v_goto (t := 4) xB_159 dX11_sidesWith_35 (by decide) rfl ?_
      refine cast (congrArg (fun z => V d 159 (4, ([some (.inr (.inr 81)), some (.inl p), some (.inl z), some (.inl (k + 1))], ([], (m, (none, (dy, L)))))) Q) ?_) (ih _ rfl)
      rw [sm_s (by omega)]
      rw [pgk_pk hp hb]
      first | rw [if_pos (by omega)] | rw [if_neg (by omega)]
  · rfl
