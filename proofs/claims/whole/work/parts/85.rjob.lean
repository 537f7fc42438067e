/-! The reference: a job. -/
theorem LA_fr {f f' : Int → Int} : ∀ (U : List Int) (k : Int), LA f k U → (∀ i, k ≤ i → i < k + U.length → f' i = f i) → LA f' k U := by
  intro U
  induction U with
  | nil => intro k _ _; trivial
  | cons z U ih =>
    intro k h1 h2
    rw [List.length_cons] at h2
    exact ⟨by rw [h2 k (by omega) (by omega)]; exact h1.1, ih (k + 1) h1.2 (fun i p q => h2 i (by omega) (by omega))⟩
def JRc (m : PM) (c : Int) (x : Int × (Int × List Int)) : Prop := okC x ∧ m 88 c = x.1 ∧ (x.1 < 2 → m 89 c = x.2.1) ∧ (2 ≤ x.1 → RCs m c x.2.2)
theorem JRs_c (m : PM) (c : Int) (x : Int × (Int × List Int)) (CL : CLs) : JRs m c (x :: CL) = (JRc m c x ∧ JRs m (c + 1) CL) := rfl
theorem JRs_sn {m : PM} {x : Int × (Int × List Int)} : ∀ (CL : CLs) (c : Int), JRs m c CL → JRc m (c + CL.length) x → JRs m c (CL ++ [x]) := by
  intro CL
  induction CL with
  | nil =>
    intro c _ h
    rw [List.nil_append, JRs_c]
    rw [List.length_nil] at h
    refine ⟨?_, trivial⟩
    have e : c + ((0 : Nat) : Int) = c := by omega
    rw [e] at h
    exact h
  | cons y CL ih =>
    intro c h1 h2
    rw [JRs_c] at h1
    rw [List.cons_append, JRs_c]
    rw [List.length_cons] at h2
    exact ⟨h1.1, ih (c + 1) h1.2 (by rw [show c + 1 + (CL.length : Int) = c + ((CL.length + 1 : Nat) : Int) by omega]; exact h2)⟩
theorem JRc_fr {m m' : PM} {c s : Int} {x : Int × (Int × List Int)} (h : JRc m c x) (h1 : m' 88 c = m 88 c ∧ m' 89 c = m 89 c ∧ m' 90 c = m 90 c ∧ m' 91 c = m 91 c) (h2 : ∀ i : Int, i < s → m' 92 i = m 92 i) (h3 : 2 ≤ m 88 c → m 91 c ≤ s) : JRc m' c x := by
  obtain ⟨a1, a2, a3, a4⟩ := h
  obtain ⟨b1, b2, b3, b4⟩ := h1
  refine ⟨a1, by rw [b1]; exact a2, fun q => by rw [b2]; exact a3 q, fun q => ?_⟩
  obtain ⟨c1, c2, c3, c4⟩ := a4 q
  have := h3 (by omega)
  refine ⟨by rw [b3]; exact c1, by rw [b4, b3]; exact c2, by rw [b4]; exact c3, ?_⟩
  rw [b3]
  refine LA_fr _ _ c4 (fun i p q => h2 i ?_)
  rw [List.length_map] at q
  omega
theorem JRs_fr3 {m m' : PM} {s : Int} (h2 : ∀ i : Int, i < s → m' 92 i = m 92 i) : ∀ (CL : CLs) (c : Int), JRs m c CL → (∀ i, c ≤ i → i < c + CL.length → m' 88 i = m 88 i ∧ m' 89 i = m 89 i ∧ m' 90 i = m 90 i ∧ m' 91 i = m 91 i) → (∀ i, c ≤ i → i < c + CL.length → 2 ≤ m 88 i → m 91 i ≤ s) → JRs m' c CL := by
  intro CL
  induction CL with
  | nil => intro c _ _ _; trivial
  | cons x CL ih =>
    intro c h h1 h3
    rw [JRs_c] at h ⊢
    rw [List.length_cons] at h1 h3
    exact ⟨JRc_fr h.1 (h1 c (by omega) (by omega)) h2 (h3 c (by omega) (by omega)), ih (c + 1) h.2 (fun i p q => h1 i (by omega) (by omega)) (fun i p q => h3 i (by omega) (by omega))⟩
def Gz (m0 m : PM) (f a : Int) : Prop := (∀ x : Int, x ≠ 81 → x < 87 ∨ 93 < x → m x = m0 x) ∧ (∀ k : Int, k ≠ 7 → k ≠ 8 → k ≠ 17 → k ≠ 18 → k ≠ 19 → m 81 k = m0 81 k) ∧ (∀ i : Int, i < 10 * f → m 88 i = m0 88 i ∧ m 89 i = m0 89 i ∧ m 90 i = m0 90 i ∧ m 91 i = m0 91 i) ∧ (∀ i : Int, i ≠ f → m 87 i = m0 87 i) ∧ (∀ i : Int, i < 100 * f → m 92 i = m0 92 i) ∧ m 81 7 = a
def Gt (m0 m : PM) (f a : Int) (CL : CLs) : Prop := Gz m0 m f a ∧ (100 * f ≤ m 81 17 ∧ m 81 17 ≤ 100 * f + a) ∧ JRs m (10 * f) CL ∧ (∀ c, 10 * f ≤ c → c < 10 * f + CL.length → 2 ≤ m 88 c → m 91 c ≤ m 81 17)
theorem Gz_F {m0 m m' : PM} {f a a' c : Int} (h : Gz m0 m f a) (hs : 100 * f ≤ m 81 17) (hc : 10 * f ≤ c) (hF : Fc m m' c a') : Gz m0 m' f a' := by
  obtain ⟨h1, h2, h3, h4, h5, h6⟩ := h
  obtain ⟨g1, g2, g3, g4, g5⟩ := hF
  refine ⟨fun x p q => (g1 x p (by omega)).trans (h1 x p q), fun k a b c d e => (g2 k a b c d e).trans (h2 k a b c d e), fun i hi => ?_, fun i hi => ?_, fun i hi => (g4 i (by omega)).trans (h5 i hi), g5⟩
  · obtain ⟨z1, z2, z3, z4⟩ := g3 i (by omega)
    obtain ⟨y1, y2, y3, y4⟩ := h3 i hi
    exact ⟨z1.trans y1, z2.trans y2, z3.trans y3, z4.trans y4⟩
  · rw [g1 87 (by omega) (by omega)]; exact h4 i hi
theorem Gt_step {m0 m m' : PM} {f a a' : Int} {CL : CLs} {x : Int × (Int × List Int)} (h : Gt m0 m f a CL) (hf : 0 ≤ f ∧ f < 6) (ha : a' ≤ 100) (hF : Fc m m' (10 * f + CL.length) a') (hS : Fs m m' (10 * f + CL.length) x) (hx : okC x) (hl : (x.2.2.length : Int) ≤ a' - a) : Gt m0 m' f a' (CL ++ [x]) := by
  obtain ⟨h1, h2, h3, h4⟩ := h
  have hz := Gz_F h1 h2.1 (by omega) hF
  obtain ⟨g1, g2, g3, g4, g5⟩ := hF
  obtain ⟨s1, s2, s3, s4⟩ := hS
  refine ⟨hz, by omega, JRs_sn _ _ (JRs_fr3 (s := m 81 17) g4 _ _ h3 (fun i p q => g3 i (by omega)) h4) ⟨hx, s2, s3, fun q => ?_⟩, fun c p q r => ?_⟩
  · obtain ⟨t1, t2, t3⟩ := s4 q
    exact ⟨by omega, by omega, by omega, by rw [t1]; exact t3⟩
  · rw [List.length_append, List.length_singleton] at q
    by_cases hc : c = 10 * f + CL.length
    · subst hc
      rw [s2] at r
      rw [(s4 r).2.1]; exact Int.le_refl _
    · obtain ⟨z1, z2, z3, z4⟩ := g3 c hc
      rw [z1] at r
      rw [z4, s1]
      have := h4 c p (by omega) r
      omega
theorem Gz_87 {m0 m m2 : PM} {f a z : Int} (h : Gz m0 m f a) (e : m2 = setA m 87 (ud (m 87) f z)) : Gz m0 m2 f a := by
  subst e
  obtain ⟨h1, h2, h3, h4, h5, h6⟩ := h
  unfold Gz
  simp (disch := omega) only [sA_ne, sA_same]
  exact ⟨fun x p q => by rw [sA_ne (by omega)]; exact h1 x p q, h2, h3, fun i hi => by rw [ud_ne hi]; exact h4 i hi, h5, h6⟩
theorem Gt_87 {m0 m m2 : PM} {f a z : Int} {CL : CLs} (h : Gt m0 m f a CL) (e : m2 = setA m 87 (ud (m 87) f z)) : Gt m0 m2 f a CL := by
  refine ⟨Gz_87 h.1 e, ?_⟩
  subst e
  have e2 : JRs (setA m 87 (ud (m 87) f z)) (10 * f) CL = JRs m (10 * f) CL := JRs_fr ⟨by simp (disch := omega) only [sA_ne], by simp (disch := omega) only [sA_ne], by simp (disch := omega) only [sA_ne], by simp (disch := omega) only [sA_ne], by simp (disch := omega) only [sA_ne]⟩ _ _
  rw [e2]
  simp (disch := omega) only [sA_ne]
  exact h.2
theorem Gt_7 {m0 m m2 : PM} {f a : Int} {CL : CLs} (h : Gt m0 m f a CL) (e : m2 = setA m 81 (ud (m 81) 7 (m 81 7 + 1))) : Gt m0 m2 f (a + 1) CL := by
  obtain ⟨⟨h1, h2, h3, h4, h5, h6⟩, h7, h8, h9⟩ := h
  subst e
  have e2 : JRs (setA m 81 (ud (m 81) 7 (m 81 7 + 1))) (10 * f) CL = JRs m (10 * f) CL := JRs_fr ⟨by simp (disch := omega) only [sA_ne], by simp (disch := omega) only [sA_ne], by simp (disch := omega) only [sA_ne], by simp (disch := omega) only [sA_ne], by simp (disch := omega) only [sA_ne]⟩ _ _
  unfold Gt Gz
  rw [e2]
  simp (disch := omega) only [sA_ne, sA_same, ud_eq, ud_ne]
  refine ⟨⟨fun x p q => by rw [sA_ne (by omega)]; exact h1 x p q, fun k a b c d e => by rw [ud_ne a]; exact h2 k a b c d e, h3, h4, h5, by omega⟩, by omega, h8, h9⟩
set_option maxHeartbeats 1000000 in
theorem vc_goes {d : Nat} {m0 : PM} {f : Int} {dy : List (Nat × Nat)} {L : Nat} {Q : Option PV → PS → Prop} (hd : 7 ≤ d) (hf : 0 ≤ f ∧ f < 6) (hL : ∀ i : Nat, i < 16 → m0 94 i = ltr i) (hn : 0 ≤ m0 81 6 ∧ m0 81 6 ≤ 100) : ∀ (k : Nat) (m : PM) (a : Int) (CL : CLs), k + 1 + CL.length = 10 → Gt m0 m f a CL → 0 ≤ a → a ≤ m0 81 6 → ((csF (m0 86) (m0 81 6) (k + 1) a CL).1 = true → ∀ m' : PM, Gt m0 m' f (csF (m0 86) (m0 81 6) (k + 1) a CL).2.1 (csF (m0 86) (m0 81 6) (k + 1) a CL).2.2 → m' 87 f = (csF (m0 86) (m0 81 6) (k + 1) a CL).2.2.length → Q (some (.inl 1)) (m', (none, (dy, L)))) → ((csF (m0 86) (m0 81 6) (k + 1) a CL).1 = false → ∀ m' : PM, Gz m0 m' f (csF (m0 86) (m0 81 6) (k + 1) a CL).2.1 → Q (some (.inl 0)) (m', (none, (dy, L)))) → V d 140 (15, ([some (.inr (.inr 81)), some (.inl f), some (.inl (CL.length : Int))], ([], (m, (none, (dy, L)))))) Q := by
  intro k
  induction k with
  | zero =>
    intro m a CL hk hG ha hal o1 o2
    have e86 : m 86 = m0 86 := hG.1.1 86 (by omega) (by omega)
    have e94 : m 94 = m0 94 := hG.1.1 94 (by omega) (by omega)
    have e6 : m 81 6 = m0 81 6 := hG.1.2.1 6 (by omega) (by omega) (by omega) (by omega) (by omega)
    have e7 : m 81 7 = a := hG.1.2.2.2.2.2
    have e17 := hG.2.1
    obtain ⟨n1, n2, n3⟩ := clF_in (m0 86) (n := m0 81 6) (a := a) hal
    rw [csF] at o1 o2
    refine v_aload_n (n := 16) xB_140 dX11_goesText_15 rfl rfl ?_
    refine v_bipush (n := 18) xB_140 dX11_goesText_16 ⟨by decide, by decide⟩ rfl ?_
    refine v_iload_n (n := 19) xB_140 dX11_goesText_18 rfl rfl ?_
    refine v_imul (n := 20) xB_140 dX11_goesText_19 (by first | omega | (simp only [sA_same, sA_s, ud_s, Int.reduceEq, if_true, if_false, ite_true, ite_false, ↓reduceIte, and_true, true_and, eq_self, Int.add_zero, Int.reduceAdd]; omega) | (simp (disch := omega) only [sA_same, sA_ne, ud_eq, ud_ne, Int.add_zero, Int.reduceAdd]; omega)) rfl ?_
    refine v_iload_n (n := 21) xB_140 dX11_goesText_20 rfl rfl ?_
    refine v_iadd (n := 22) xB_140 dX11_goesText_21 (by first | omega | (simp only [sA_same, sA_s, ud_s, Int.reduceEq, if_true, if_false, ite_true, ite_false, ↓reduceIte, and_true, true_and, eq_self, Int.add_zero, Int.reduceAdd]; omega) | (simp (disch := omega) only [sA_same, sA_ne, ud_eq, ud_ne, Int.add_zero, Int.reduceAdd]; omega)) rfl ?_
    refine v_call_v (n := 25) xB_140 dX11_goesText_22 xO_140 iv_11_273 rfl (sh_81 _ _ _) rfl rfl rfl ?_
    refine c_takesClause (B := 100 * f) (by omega) (by omega) (fun i hi => by rw [e94]; exact hL i hi) (by omega) (by omega) (by omega) (by omega) (fun gC mA hF hG2 => ?_) (fun gC mA hF => ?_)
    · rw [e86, e6, e7] at gC hF hG2
      obtain ⟨n4, n5, n6⟩ := n3 gC
      have gN : ¬ (clF (m0 86) (m0 81 6) a).1 = false := by rw [gC]; decide
      rw [if_neg gN] at o1 o2
      have hT := Gt_step hG hf (by omega) hF hG2 n5 (by omega)
      have f87 := hF.1 87 (by omega) (by omega)
      have f6 : mA 81 6 = m0 81 6 := hT.1.2.1 6 (by omega) (by omega) (by omega) (by omega) (by omega)
      have f7 : mA 81 7 = (clF (m0 86) (m0 81 6) a).2.1 := hT.1.2.2.2.2.2
      have f86 : mA 86 = m0 86 := hT.1.1 86 (by omega) (by omega)
      refine v_if_ne_y (t := 30) xB_140 dX11_goesText_25 (by decide) rfl (by decide) ?_
      refine v_iinc2 (n := 33) xB_140 dX11_goesText_30 rfl (by first | omega | (simp only [sA_same, sA_s, ud_s, Int.reduceEq, if_true, if_false, ite_true, ite_false, ↓reduceIte, and_true, true_and, eq_self, Int.add_zero, Int.reduceAdd]; omega) | (simp (disch := omega) only [sA_same, sA_ne, ud_eq, ud_ne, Int.add_zero, Int.reduceAdd]; omega)) rfl ?_
      refine v_aload_n (n := 34) xB_140 dX11_goesText_33 rfl rfl ?_
      refine v_gf_s (n := 37) (kz := 10) xB_140 dX11_goesText_34 xO_140 fl_11_41 fg_11_10 (sh_81 _ _ _) rfl st_81_10 rfl ?_
      refine v_iload_n (n := 38) xB_140 dX11_goesText_37 rfl rfl ?_
      refine v_iload_n (n := 39) xB_140 dX11_goesText_38 rfl rfl ?_
      refine v_iastore (n := 40) (lz := 6) xB_140 dX11_goesText_39 (sh_87 _ _ _) (by decide) rfl (by first | omega | (simp only [sA_same, sA_s, ud_s, Int.reduceEq, if_true, if_false, ite_true, ite_false, ↓reduceIte, and_true, true_and, eq_self, Int.add_zero, Int.reduceAdd]; omega) | (simp (disch := omega) only [sA_same, sA_ne, ud_eq, ud_ne, Int.add_zero, Int.reduceAdd]; omega)) rfl ?_
      (try simp (disch := omega) only [sA_same, sA_ne, sA_sA, sA_sr, sB_s, ud_eq, ud_ne, ud_ud, ud_sr, uB_s, Int.add_zero, Int.reduceAdd])
      refine v_aload_n (n := 41) xB_140 dX11_goesText_40 rfl rfl ?_
      refine v_gf_i (n := 44) (kz := 7) xB_140 dX11_goesText_41 xO_140 fl_11_32 fg_11_7 rfl (sh_81 _ _ _) rfl rfl ?_
      refine v_aload_n (n := 45) xB_140 dX11_goesText_44 rfl rfl ?_
      refine v_gf_i (n := 48) (kz := 6) xB_140 dX11_goesText_45 xO_140 fl_11_29 fg_11_6 rfl (sh_81 _ _ _) rfl rfl ?_
      refine v_ic_ne (t := 53) (n := 51) xB_140 dX11_goesText_48 (by decide) rfl rfl (fun g1 => ?_) (fun g1 => ?_)
      · (try simp (disch := omega) only [sA_same, sA_ne, sA_sA, sA_sr, sB_s, ud_eq, ud_ne, ud_ud, ud_sr, uB_s, Int.add_zero, Int.reduceAdd] at g1)
        refine v_iload_n (n := 54) xB_140 dX11_goesText_53 rfl rfl ?_
        refine v_bipush (n := 56) xB_140 dX11_goesText_54 ⟨by decide, by decide⟩ rfl ?_
        refine v_ic_eq_y (t := 68) xB_140 dX11_goesText_56 (by decide) rfl (by first | omega | (simp only [sA_same, sA_s, ud_s, Int.reduceEq, if_true, if_false, ite_true, ite_false, ↓reduceIte, and_true, true_and, eq_self, Int.add_zero, Int.reduceAdd]; omega) | (simp (disch := omega) only [sA_same, sA_ne, ud_eq, ud_ne, Int.add_zero, Int.reduceAdd]; omega)) ?_
        refine v_iconst (n := 69) xB_140 dX11_goesText_68 ⟨by decide, by decide⟩ rfl ?_
        refine v_ireturn1 xB_140 dX11_goesText_69 xK_140 (by decide) ?_
        first
        | exact o2 rfl _ hz
        | (rw [if_pos (by omega)] at o1
           refine o1 rfl _ (Gt_87 hT rfl) ?_
           dsimp only
           rw [sA_same, ud_eq, List.length_append, List.length_singleton]
           omega)
        | (rw [if_neg (by omega), if_pos (by omega)] at o2
           exact o2 rfl _ (Gz_87 hT.1 rfl))
      · (try simp (disch := omega) only [sA_same, sA_ne, sA_sA, sA_sr, sB_s, ud_eq, ud_ne, ud_ud, ud_sr, uB_s, Int.add_zero, Int.reduceAdd] at g1)
        refine v_iconst (n := 52) xB_140 dX11_goesText_51 ⟨by decide, by decide⟩ rfl ?_
        refine v_ireturn1 xB_140 dX11_goesText_52 xK_140 (by decide) ?_
        first
        | exact o2 rfl _ hz
        | (rw [if_pos (by omega)] at o1
           refine o1 rfl _ (Gt_87 hT rfl) ?_
           dsimp only
           rw [sA_same, ud_eq, List.length_append, List.length_singleton]
           omega)
        | (rw [if_neg (by omega), if_pos (by omega)] at o2
           exact o2 rfl _ (Gz_87 hT.1 rfl))
    · rw [e86, e6, e7] at gC hF
      rw [if_pos gC] at o1 o2
      have hz := Gz_F hG.1 e17.1 (by omega) hF
      refine v_if_ne_n (n := 28) xB_140 dX11_goesText_25 (by decide) rfl (by decide) ?_
      refine v_iconst (n := 29) xB_140 dX11_goesText_28 ⟨by decide, by decide⟩ rfl ?_
      refine v_ireturn1 xB_140 dX11_goesText_29 xK_140 (by decide) ?_
      first
      | exact o2 rfl _ hz
      | (rw [if_pos (by omega)] at o1
         refine o1 rfl _ (Gt_87 hT rfl) ?_
         dsimp only
         rw [sA_same, ud_eq, List.length_append, List.length_singleton]
         omega)
      | (rw [if_neg (by omega), if_pos (by omega)] at o2
         exact o2 rfl _ (Gz_87 hT.1 rfl))
  | succ k ih =>
    intro m a CL hk hG ha hal o1 o2
    have e86 : m 86 = m0 86 := hG.1.1 86 (by omega) (by omega)
    have e94 : m 94 = m0 94 := hG.1.1 94 (by omega) (by omega)
    have e6 : m 81 6 = m0 81 6 := hG.1.2.1 6 (by omega) (by omega) (by omega) (by omega) (by omega)
    have e7 : m 81 7 = a := hG.1.2.2.2.2.2
    have e17 := hG.2.1
    obtain ⟨n1, n2, n3⟩ := clF_in (m0 86) (n := m0 81 6) (a := a) hal
    rw [csF] at o1 o2
    refine v_aload_n (n := 16) xB_140 dX11_goesText_15 rfl rfl ?_
    refine v_bipush (n := 18) xB_140 dX11_goesText_16 ⟨by decide, by decide⟩ rfl ?_
    refine v_iload_n (n := 19) xB_140 dX11_goesText_18 rfl rfl ?_
    refine v_imul (n := 20) xB_140 dX11_goesText_19 (by first | omega | (simp only [sA_same, sA_s, ud_s, Int.reduceEq, if_true, if_false, ite_true, ite_false, ↓reduceIte, and_true, true_and, eq_self, Int.add_zero, Int.reduceAdd]; omega) | (simp (disch := omega) only [sA_same, sA_ne, ud_eq, ud_ne, Int.add_zero, Int.reduceAdd]; omega)) rfl ?_
    refine v_iload_n (n := 21) xB_140 dX11_goesText_20 rfl rfl ?_
    refine v_iadd (n := 22) xB_140 dX11_goesText_21 (by first | omega | (simp only [sA_same, sA_s, ud_s, Int.reduceEq, if_true, if_false, ite_true, ite_false, ↓reduceIte, and_true, true_and, eq_self, Int.add_zero, Int.reduceAdd]; omega) | (simp (disch := omega) only [sA_same, sA_ne, ud_eq, ud_ne, Int.add_zero, Int.reduceAdd]; omega)) rfl ?_
    refine v_call_v (n := 25) xB_140 dX11_goesText_22 xO_140 iv_11_273 rfl (sh_81 _ _ _) rfl rfl rfl ?_
    refine c_takesClause (B := 100 * f) (by omega) (by omega) (fun i hi => by rw [e94]; exact hL i hi) (by omega) (by omega) (by omega) (by omega) (fun gC mA hF hG2 => ?_) (fun gC mA hF => ?_)
    · rw [e86, e6, e7] at gC hF hG2
      obtain ⟨n4, n5, n6⟩ := n3 gC
      have gN : ¬ (clF (m0 86) (m0 81 6) a).1 = false := by rw [gC]; decide
      rw [if_neg gN] at o1 o2
      have hT := Gt_step hG hf (by omega) hF hG2 n5 (by omega)
      have f87 := hF.1 87 (by omega) (by omega)
      have f6 : mA 81 6 = m0 81 6 := hT.1.2.1 6 (by omega) (by omega) (by omega) (by omega) (by omega)
      have f7 : mA 81 7 = (clF (m0 86) (m0 81 6) a).2.1 := hT.1.2.2.2.2.2
      have f86 : mA 86 = m0 86 := hT.1.1 86 (by omega) (by omega)
      refine v_if_ne_y (t := 30) xB_140 dX11_goesText_25 (by decide) rfl (by decide) ?_
      refine v_iinc2 (n := 33) xB_140 dX11_goesText_30 rfl (by first | omega | (simp only [sA_same, sA_s, ud_s, Int.reduceEq, if_true, if_false, ite_true, ite_false, ↓reduceIte, and_true, true_and, eq_self, Int.add_zero, Int.reduceAdd]; omega) | (simp (disch := omega) only [sA_same, sA_ne, ud_eq, ud_ne, Int.add_zero, Int.reduceAdd]; omega)) rfl ?_
      refine v_aload_n (n := 34) xB_140 dX11_goesText_33 rfl rfl ?_
      refine v_gf_s (n := 37) (kz := 10) xB_140 dX11_goesText_34 xO_140 fl_11_41 fg_11_10 (sh_81 _ _ _) rfl st_81_10 rfl ?_
      refine v_iload_n (n := 38) xB_140 dX11_goesText_37 rfl rfl ?_
      refine v_iload_n (n := 39) xB_140 dX11_goesText_38 rfl rfl ?_
      refine v_iastore (n := 40) (lz := 6) xB_140 dX11_goesText_39 (sh_87 _ _ _) (by decide) rfl (by first | omega | (simp only [sA_same, sA_s, ud_s, Int.reduceEq, if_true, if_false, ite_true, ite_false, ↓reduceIte, and_true, true_and, eq_self, Int.add_zero, Int.reduceAdd]; omega) | (simp (disch := omega) only [sA_same, sA_ne, ud_eq, ud_ne, Int.add_zero, Int.reduceAdd]; omega)) rfl ?_
      (try simp (disch := omega) only [sA_same, sA_ne, sA_sA, sA_sr, sB_s, ud_eq, ud_ne, ud_ud, ud_sr, uB_s, Int.add_zero, Int.reduceAdd])
      refine v_aload_n (n := 41) xB_140 dX11_goesText_40 rfl rfl ?_
      refine v_gf_i (n := 44) (kz := 7) xB_140 dX11_goesText_41 xO_140 fl_11_32 fg_11_7 rfl (sh_81 _ _ _) rfl rfl ?_
      refine v_aload_n (n := 45) xB_140 dX11_goesText_44 rfl rfl ?_
      refine v_gf_i (n := 48) (kz := 6) xB_140 dX11_goesText_45 xO_140 fl_11_29 fg_11_6 rfl (sh_81 _ _ _) rfl rfl ?_
      refine v_ic_ne (t := 53) (n := 51) xB_140 dX11_goesText_48 (by decide) rfl rfl (fun g1 => ?_) (fun g1 => ?_)
      · (try simp (disch := omega) only [sA_same, sA_ne, sA_sA, sA_sr, sB_s, ud_eq, ud_ne, ud_ud, ud_sr, uB_s, Int.add_zero, Int.reduceAdd] at g1)
        refine v_iload_n (n := 54) xB_140 dX11_goesText_53 rfl rfl ?_
        refine v_bipush (n := 56) xB_140 dX11_goesText_54 ⟨by decide, by decide⟩ rfl ?_
        refine v_ic_eq_n (n := 59) xB_140 dX11_goesText_56 (by decide) rfl (by first | omega | (simp only [sA_same, sA_s, ud_s, Int.reduceEq, if_true, if_false, ite_true, ite_false, ↓reduceIte, and_true, true_and, eq_self, Int.add_zero, Int.reduceAdd]; omega) | (simp (disch := omega) only [sA_same, sA_ne, ud_eq, ud_ne, Int.add_zero, Int.reduceAdd]; omega)) ?_
        refine v_aload_n (n := 60) xB_140 dX11_goesText_59 rfl rfl ?_
        refine v_bipush (n := 62) xB_140 dX11_goesText_60 ⟨by decide, by decide⟩ rfl ?_
        refine v_call_v (n := 65) xB_140 dX11_goesText_62 xO_140 iv_11_233 rfl (sh_81 _ _ _) rfl rfl rfl ?_
        refine c_takes (by omega) (by first | omega | (simp only [sA_same, sA_s, ud_s, Int.reduceEq, if_true, if_false, ite_true, ite_false, ↓reduceIte, and_true, true_and, eq_self, Int.add_zero, Int.reduceAdd]; omega) | (simp (disch := omega) only [sA_same, sA_ne, ud_eq, ud_ne, Int.add_zero, Int.reduceAdd]; omega)) (fun g2 => ?_) (fun g3 => ?_)
        · (try simp (disch := omega) only [sA_same, sA_ne, sA_sA, sA_sr, sB_s, ud_eq, ud_ne, ud_ud, ud_sr, uB_s, Int.add_zero, Int.reduceAdd] at g2)
          rw [f86, f6, f7] at g2
          have gS := g2
          have hin := nxt_in gS (by omega)
          (try simp (disch := omega) only [sA_same, sA_ne, sA_sA, sA_sr, sB_s, ud_eq, ud_ne, ud_ud, ud_sr, uB_s, Int.add_zero, Int.reduceAdd] at g2)
          (try simp (disch := omega) only [sA_same, sA_ne, sA_sA, sA_sr, sB_s, ud_eq, ud_ne, ud_ud, ud_sr, uB_s, Int.add_zero, Int.reduceAdd])
          refine v_if_ne_y (t := 15) xB_140 dX11_goesText_65 (by decide) rfl (by decide) ?_
          rw [if_neg (by omega), if_neg (fun q => by rcases q with q | q; omega; exact q gS)] at o1 o2
          have hln : ((CL ++ [(clF (m0 86) (m0 81 6) a).2.2]).length : Int) = CL.length + 1 := by rw [List.length_append, List.length_singleton]; omega
          rw [← hln]
          exact ih _ _ (CL ++ [(clF (m0 86) (m0 81 6) a).2.2]) (by rw [List.length_append, List.length_singleton]; omega) (Gt_87 (z := (CL.length : Int) + 1) (Gt_7 hT rfl) (by rw [hln]; simp (disch := omega) only [sA_ne, sA_same])) (by omega) (by omega) o1 o2
        · (try simp (disch := omega) only [sA_same, sA_ne, sA_sA, sA_sr, sB_s, ud_eq, ud_ne, ud_ud, ud_sr, uB_s, Int.add_zero, Int.reduceAdd] at g3)
          rw [f86, f6, f7] at g3
          have gS := g3
          (try simp (disch := omega) only [sA_same, sA_ne, sA_sA, sA_sr, sB_s, ud_eq, ud_ne, ud_ud, ud_sr, uB_s, Int.add_zero, Int.reduceAdd] at g3)
          (try simp (disch := omega) only [sA_same, sA_ne, sA_sA, sA_sr, sB_s, ud_eq, ud_ne, ud_ud, ud_sr, uB_s, Int.add_zero, Int.reduceAdd])
          refine v_if_ne_n (n := 68) xB_140 dX11_goesText_65 (by decide) rfl (by decide) ?_
          refine v_iconst (n := 69) xB_140 dX11_goesText_68 ⟨by decide, by decide⟩ rfl ?_
          refine v_ireturn1 xB_140 dX11_goesText_69 xK_140 (by decide) ?_
          first
          | exact o2 rfl _ hz
          | (rw [if_pos (by omega)] at o1
             refine o1 rfl _ (Gt_87 hT rfl) ?_
             dsimp only
             rw [sA_same, ud_eq, List.length_append, List.length_singleton]
             omega)
          | (rw [if_neg (by omega), if_pos (by omega)] at o2
             exact o2 rfl _ (Gz_87 hT.1 rfl))
          | (rw [if_neg (by omega), if_pos (Or.inr gS)] at o2
             exact o2 rfl _ (Gz_87 hT.1 rfl))
      · (try simp (disch := omega) only [sA_same, sA_ne, sA_sA, sA_sr, sB_s, ud_eq, ud_ne, ud_ud, ud_sr, uB_s, Int.add_zero, Int.reduceAdd] at g1)
        refine v_iconst (n := 52) xB_140 dX11_goesText_51 ⟨by decide, by decide⟩ rfl ?_
        refine v_ireturn1 xB_140 dX11_goesText_52 xK_140 (by decide) ?_
        first
        | exact o2 rfl _ hz
        | (rw [if_pos (by omega)] at o1
           refine o1 rfl _ (Gt_87 hT rfl) ?_
           dsimp only
           rw [sA_same, ud_eq, List.length_append, List.length_singleton]
           omega)
        | (rw [if_neg (by omega), if_pos (by omega)] at o2
           exact o2 rfl _ (Gz_87 hT.1 rfl))
        | (rw [if_neg (by omega), if_pos (Or.inr gS)] at o2
           exact o2 rfl _ (Gz_87 hT.1 rfl))
    · rw [e86, e6, e7] at gC hF
      rw [if_pos gC] at o1 o2
      have hz := Gz_F hG.1 e17.1 (by omega) hF
      refine v_if_ne_n (n := 28) xB_140 dX11_goesText_25 (by decide) rfl (by decide) ?_
      refine v_iconst (n := 29) xB_140 dX11_goesText_28 ⟨by decide, by decide⟩ rfl ?_
      refine v_ireturn1 xB_140 dX11_goesText_29 xK_140 (by decide) ?_
      first
      | exact o2 rfl _ hz
      | (rw [if_pos (by omega)] at o1
         refine o1 rfl _ (Gt_87 hT rfl) ?_
         dsimp only
         rw [sA_same, ud_eq, List.length_append, List.length_singleton]
         omega)
      | (rw [if_neg (by omega), if_pos (by omega)] at o2
         exact o2 rfl _ (Gz_87 hT.1 rfl))
      | (rw [if_neg (by omega), if_pos (Or.inr gS)] at o2
         exact o2 rfl _ (Gz_87 hT.1 rfl))
theorem csF_in (T : Int → Int) {n : Int} : ∀ (k : Nat) (a : Int) (CL : CLs), 0 ≤ a → a ≤ n → okCL CL → 0 ≤ (csF T n k a CL).2.1 ∧ (csF T n k a CL).2.1 ≤ n ∧ okCL (csF T n k a CL).2.2 ∧ (csF T n k a CL).2.2.length ≤ CL.length + k := by
  intro k
  induction k with
  | zero => intro a CL h0 h1 h2; exact ⟨h0, h1, h2, Nat.le_refl _⟩
  | succ k ih =>
    intro a CL h0 h1 h2
    obtain ⟨n1, n2, n3⟩ := clF_in T (n := n) (a := a) h1
    rw [csF]
    by_cases hc : (clF T n a).1 = false
    · rw [if_pos hc]; exact ⟨by dsimp only; omega, n2, h2, by dsimp only; omega⟩
    · rw [if_neg hc]
      have hc2 : (clF T n a).1 = true := by cases hx : (clF T n a).1 with
        | true => rfl
        | false => exact absurd hx hc
      obtain ⟨n4, n5, n6⟩ := n3 hc2
      have hok : okCL (CL ++ [(clF T n a).2.2]) := fun x hx => by
        rcases List.mem_append.mp hx with q | q
        · exact h2 x q
        · rw [List.mem_singleton.mp q]; exact n5
      have hl : (CL ++ [(clF T n a).2.2]).length = CL.length + 1 := by rw [List.length_append, List.length_singleton]
      by_cases hx : n ≤ (clF T n a).2.1
      · rw [if_pos hx]; exact ⟨by dsimp only; omega, n2, hok, by dsimp only; omega⟩
      · rw [if_neg hx]
        by_cases hy : k = 0 ∨ nxt T n (clF T n a).2.1 ≠ 59
        · rw [if_pos hy]; exact ⟨by dsimp only; omega, n2, hok, by dsimp only; omega⟩
        · rw [if_neg hy]
          obtain ⟨z1, z2, z3, z4⟩ := ih ((clF T n a).2.1 + 1) _ (by omega) (by omega) hok
          exact ⟨z1, z2, z3, by omega⟩
set_option maxHeartbeats 1000000 in
theorem c_goesText {d : Nat} {f : Int} {m : PM} {dy : List (Nat × Nat)} {L : Nat} {Q : Option PV → PS → Prop} (hd : 8 ≤ d) (hf : 0 ≤ f ∧ f < 6) (hL : ∀ i : Nat, i < 16 → m 94 i = ltr i) (hn : 0 ≤ m 81 6 ∧ m 81 6 ≤ 100) (o1 : (csF (m 86) (m 81 6) 10 0 []).1 = true → ∀ m' : PM, Gt (setA m 81 (ud (ud (m 81) 7 0) 17 (100 * f))) m' f (csF (m 86) (m 81 6) 10 0 []).2.1 (csF (m 86) (m 81 6) 10 0 []).2.2 → m' 87 f = (csF (m 86) (m 81 6) 10 0 []).2.2.length → Q (some (.inl 1)) (m', (none, (dy, L)))) (o2 : (csF (m 86) (m 81 6) 10 0 []).1 = false → ∀ m' : PM, Gz (setA m 81 (ud (ud (m 81) 7 0) 17 (100 * f))) m' f (csF (m 86) (m 81 6) 10 0 []).2.1 → Q (some (.inl 0)) (m', (none, (dy, L)))) : C d 140 [.inr (.inr 81), .inl f] (m, (none, (dy, L))) Q := by
  refine C_go (k := 7) hd xL_140 (fun d hd => ?_)
  show V d 140 (0, ([some (.inr (.inr 81)), some (.inl f), none], ([], (m, (none, (dy, L)))))) Q
  refine v_aload_n (n := 1) xB_140 dX11_goesText_0 rfl rfl ?_
  refine v_iconst (n := 2) xB_140 dX11_goesText_1 ⟨by decide, by decide⟩ rfl ?_
  refine v_pf_i (n := 5) (kz := 7) xB_140 dX11_goesText_2 xO_140 fl_11_32 fg_11_7 (Or.inl fn_11_7) (sh_81 _ _ _) (by decide) rfl rfl ?_
  (try simp (disch := omega) only [sA_same, sA_ne, sA_sA, sA_sr, sB_s, ud_eq, ud_ne, ud_ud, ud_sr, uB_s, Int.add_zero, Int.reduceAdd])
  refine v_aload_n (n := 6) xB_140 dX11_goesText_5 rfl rfl ?_
  refine v_bipush (n := 8) xB_140 dX11_goesText_6 ⟨by decide, by decide⟩ rfl ?_
  refine v_iload_n (n := 9) xB_140 dX11_goesText_8 rfl rfl ?_
  refine v_imul (n := 10) xB_140 dX11_goesText_9 (by first | omega | (simp only [sA_same, sA_s, ud_s, Int.reduceEq, if_true, if_false, ite_true, ite_false, ↓reduceIte, and_true, true_and, eq_self, Int.add_zero, Int.reduceAdd]; omega) | (simp (disch := omega) only [sA_same, sA_ne, ud_eq, ud_ne, Int.add_zero, Int.reduceAdd]; omega)) rfl ?_
  refine v_pf_i (n := 13) (kz := 17) xB_140 dX11_goesText_10 xO_140 fl_11_62 fg_11_17 (Or.inl fn_11_17) (sh_81 _ _ _) (by decide) rfl rfl ?_
  (try simp (disch := omega) only [sA_same, sA_ne, sA_sA, sA_sr, sB_s, ud_eq, ud_ne, ud_ud, ud_sr, uB_s, Int.add_zero, Int.reduceAdd])
  refine v_iconst (n := 14) xB_140 dX11_goesText_13 ⟨by decide, by decide⟩ rfl ?_
  refine v_istore_n2 (n := 15) xB_140 dX11_goesText_14 rfl rfl ?_
  (try simp (disch := omega) only [sA_same, sA_ne, sA_sA, sA_sr, sB_s, ud_eq, ud_ne, ud_ud, ud_sr, uB_s, Int.add_zero, Int.reduceAdd])
  have h0 : Gt (setA m 81 (ud (ud (m 81) 7 0) 17 (100 * f))) (setA m 81 (ud (ud (m 81) 7 0) 17 (100 * f))) f 0 [] := by
    refine ⟨⟨fun _ _ _ => rfl, fun _ _ _ _ _ _ => rfl, fun _ _ => ⟨rfl, rfl, rfl, rfl⟩, fun _ _ => rfl, fun _ _ => rfl, by simp (disch := omega) only [sA_same, ud_eq, ud_ne]⟩, by simp (disch := omega) only [sA_same, ud_eq, ud_ne]; omega, trivial, fun c p q => by rw [List.length_nil] at q; omega⟩
  have x86 : (setA m 81 (ud (ud (m 81) 7 0) 17 (100 * f))) 86 = m 86 := by simp (disch := omega) only [sA_ne]
  have x94 : (setA m 81 (ud (ud (m 81) 7 0) 17 (100 * f))) 94 = m 94 := by simp (disch := omega) only [sA_ne]
  have x6 : (setA m 81 (ud (ud (m 81) 7 0) 17 (100 * f))) 81 6 = m 81 6 := by simp (disch := omega) only [sA_same, ud_ne]
  refine vc_goes (m0 := (setA m 81 (ud (ud (m 81) 7 0) 17 (100 * f)))) (by omega) hf (by rw [x94]; exact hL) (by rw [x6]; exact hn) 9 _ 0 [] rfl h0 (by omega) (by rw [x6]; omega) ?_ ?_
  · rw [x86, x6]; exact o1
  · rw [x86, x6]; exact o2
def JG (m m' : PM) (f : Int) : Prop := (∀ x : Int, x ≠ 81 → x < 87 ∨ 93 < x → m' x = m x) ∧ (∀ k : Int, k ≠ 5 → k ≠ 6 → k ≠ 7 → k ≠ 8 → k ≠ 17 → k ≠ 18 → k ≠ 19 → m' 81 k = m 81 k) ∧ (∀ i : Int, i < 10 * f → m' 88 i = m 88 i ∧ m' 89 i = m 89 i ∧ m' 90 i = m 90 i ∧ m' 91 i = m 91 i) ∧ (∀ i : Int, i ≠ f → m' 87 i = m 87 i) ∧ (∀ i : Int, i < 100 * f → m' 92 i = m 92 i) ∧ m' 81 6 = 0
theorem JG_z {m m1 m2 : PM} {f a w : Int} {F : Int → Int} (h : Gz (setA m 81 (ud (ud (m 81) 7 0) 17 w)) m1 f a) (hF : ∀ k : Int, k ≠ 5 → k ≠ 6 → F k = m1 81 k) (h6 : F 6 = 0) (e : m2 = setA m1 81 F) : JG m m2 f := by
  subst e
  obtain ⟨h1, h2, h3, h4, h5, -⟩ := h
  unfold JG
  simp (disch := omega) only [sA_ne, sA_same] at h3 h4 h5 ⊢
  refine ⟨fun x p q => ?_, fun k a b c d e g i => ?_, h3, h4, h5, h6⟩
  · have := h1 x p q
    simp (disch := omega) only [sA_ne] at this ⊢
    exact this
  · have := h2 k c d e g i
    simp (disch := omega) only [sA_ne, sA_same, ud_ne] at this ⊢
    rw [hF k a b]; exact this
theorem Gt_j {m0 m m' : PM} {f a : Int} {CL : CLs} (h : Gt m0 m f a CL) (h87 : m 87 f = CL.length) (e7 : m' 87 = m 87) (e8 : m' 88 = m 88) (e9 : m' 89 = m 89) (e0 : m' 90 = m 90) (e1 : m' 91 = m 91) (e2 : m' 92 = m 92) (ha : a ≤ 100) (hl : CL.length ≤ ([] : CLs).length + 10) (_ : 0 ≤ a) : JR m' f CL ∧ (∀ c, 10 * f ≤ c → c < 10 * f + m' 87 f → 2 ≤ m' 88 c → m' 91 c ≤ 100 * (f + 1)) := by
  obtain ⟨h1, h2, h3, h4⟩ := h
  refine ⟨⟨by rw [e7]; exact h87, by rw [List.length_nil] at hl; omega, ?_⟩, fun c p q r => ?_⟩
  · rw [JRs_fr ⟨e8, e9, e0, e1, e2⟩]; exact h3
  · rw [e7, h87] at q
    rw [e8] at r
    rw [e1]
    have := h4 c p q r
    omega
set_option maxHeartbeats 1000000 in
theorem c_job {d : Nat}  {m : PM} {dy : List (Nat × Nat)} {L : Nat} {Q : Option PV → PS → Prop} (hd : 9 ≤ d) (h5 : 0 ≤ m 81 5 ∧ m 81 5 ≤ 6) (hL : ∀ i : Nat, i < 16 → m 94 i = ltr i) (hn : 0 ≤ m 81 6 ∧ m 81 6 ≤ 100) (o1 : (m 81 5 = 6) → Q (some (.inl (-4))) (m, (none, (dy, L)))) (o2 : m 81 5 < 6 ∧ (csF (m 86) (m 81 6) 10 0 []).1 = true → ∀ m' : PM, JG m m' (m 81 5) → m' 81 5 = m 81 5 + 1 → (JR m' (m 81 5) (csF (m 86) (m 81 6) 10 0 []).2.2 ∧ (∀ c, 10 * m 81 5 ≤ c → c < 10 * m 81 5 + m' 87 (m 81 5) → 2 ≤ m' 88 c → m' 91 c ≤ 100 * (m 81 5 + 1))) → okCL (csF (m 86) (m 81 6) 10 0 []).2.2 → Q (some (.inl (m 81 5))) (m', (none, (dy, L)))) (o3 : m 81 5 < 6 ∧ (csF (m 86) (m 81 6) 10 0 []).1 = false → ∀ m' : PM, JG m m' (m 81 5) → m' 81 5 = m 81 5 → Q (some (.inl (-10 - (csF (m 86) (m 81 6) 10 0 []).2.1))) (m', (none, (dy, L)))) : C d 141 [.inr (.inr 81)] (m, (none, (dy, L))) Q := by
  refine C_go (k := 8) hd xL_141 (fun d hd => ?_)
  show V d 141 (0, ([some (.inr (.inr 81)), none], ([], (m, (none, (dy, L)))))) Q
  obtain ⟨z1, z2, z3, z4⟩ := csF_in (m 86) (n := m 81 6) 10 0 [] (Int.le_refl 0) hn.1 (fun x hx => by cases hx)
  refine v_aload_n (n := 1) xB_141 dX11_job_0 rfl rfl ?_
  refine v_gf_i (n := 4) (kz := 5) xB_141 dX11_job_1 xO_141 fl_11_26 fg_11_5 rfl (sh_81 _ _ _) rfl rfl ?_
  refine v_bipush (n := 6) xB_141 dX11_job_4 ⟨by decide, by decide⟩ rfl ?_
  refine v_ic_ne (t := 12) (n := 9) xB_141 dX11_job_6 (by decide) rfl rfl (fun g1 => ?_) (fun g1 => ?_)
  · (try simp (disch := omega) only [sA_same, sA_ne, sA_sA, sA_sr, sB_s, ud_eq, ud_ne, ud_ud, ud_sr, uB_s, Int.add_zero, Int.reduceAdd] at g1)
    refine v_aload_n (n := 13) xB_141 dX11_job_12 rfl rfl ?_
    refine v_aload_n (n := 14) xB_141 dX11_job_13 rfl rfl ?_
    refine v_gf_i (n := 17) (kz := 5) xB_141 dX11_job_14 xO_141 fl_11_26 fg_11_5 rfl (sh_81 _ _ _) rfl rfl ?_
    refine v_call_v (n := 20) xB_141 dX11_job_17 xO_141 iv_11_276 rfl (sh_81 _ _ _) rfl rfl rfl ?_
    refine c_goesText (by omega) (by first | omega | (simp only [sA_same, sA_s, ud_s, Int.reduceEq, if_true, if_false, ite_true, ite_false, ↓reduceIte, and_true, true_and, eq_self, Int.add_zero, Int.reduceAdd]; omega) | (simp (disch := omega) only [sA_same, sA_ne, ud_eq, ud_ne, Int.add_zero, Int.reduceAdd]; omega)) hL (by first | omega | (simp only [sA_same, sA_s, ud_s, Int.reduceEq, if_true, if_false, ite_true, ite_false, ↓reduceIte, and_true, true_and, eq_self, Int.add_zero, Int.reduceAdd]; omega) | (simp (disch := omega) only [sA_same, sA_ne, ud_eq, ud_ne, Int.add_zero, Int.reduceAdd]; omega)) (fun gT mA hG h87 => ?_) (fun gT mA hG => ?_)
    · have y5 : mA 81 5 = m 81 5 := by rw [hG.1.2.1 5 (by omega) (by omega) (by omega) (by omega) (by omega), sA_same, ud_ne (by omega), ud_ne (by omega)]
      refine v_istore_n1 (n := 21) xB_141 dX11_job_20 rfl rfl ?_
      refine v_aload_n (n := 22) xB_141 dX11_job_21 rfl rfl ?_
      refine v_iconst (n := 23) xB_141 dX11_job_22 ⟨by decide, by decide⟩ rfl ?_
      refine v_pf_i (n := 26) (kz := 6) xB_141 dX11_job_23 xO_141 fl_11_29 fg_11_6 (Or.inl fn_11_6) (sh_81 _ _ _) (by decide) rfl rfl ?_
      (try simp (disch := omega) only [sA_same, sA_ne, sA_sA, sA_sr, sB_s, ud_eq, ud_ne, ud_ud, ud_sr, uB_s, Int.add_zero, Int.reduceAdd])
      refine v_iload_n (n := 27) xB_141 dX11_job_26 rfl rfl ?_
      refine v_if_ne_y (t := 38) xB_141 dX11_job_27 (by decide) rfl (by decide) ?_
      refine v_aload_n (n := 39) xB_141 dX11_job_38 rfl rfl ?_
      refine v_dup (n := 40) xB_141 dX11_job_39 rfl rfl ?_
      refine v_gf_i (n := 43) (kz := 5) xB_141 dX11_job_40 xO_141 fl_11_26 fg_11_5 rfl (sh_81 _ _ _) rfl rfl ?_
      refine v_iconst (n := 44) xB_141 dX11_job_43 ⟨by decide, by decide⟩ rfl ?_
      refine v_iadd (n := 45) xB_141 dX11_job_44 (by first | omega | (simp only [sA_same, sA_s, ud_s, Int.reduceEq, if_true, if_false, ite_true, ite_false, ↓reduceIte, and_true, true_and, eq_self, Int.add_zero, Int.reduceAdd]; omega) | (simp (disch := omega) only [sA_same, sA_ne, ud_eq, ud_ne, Int.add_zero, Int.reduceAdd]; omega)) rfl ?_
      refine v_pf_i (n := 48) (kz := 5) xB_141 dX11_job_45 xO_141 fl_11_26 fg_11_5 (Or.inl fn_11_5) (sh_81 _ _ _) (by decide) rfl rfl ?_
      (try simp (disch := omega) only [sA_same, sA_ne, sA_sA, sA_sr, sB_s, ud_eq, ud_ne, ud_ud, ud_sr, uB_s, Int.add_zero, Int.reduceAdd])
      refine v_aload_n (n := 49) xB_141 dX11_job_48 rfl rfl ?_
      refine v_gf_i (n := 52) (kz := 5) xB_141 dX11_job_49 xO_141 fl_11_26 fg_11_5 rfl (sh_81 _ _ _) rfl rfl ?_
      refine v_iconst (n := 53) xB_141 dX11_job_52 ⟨by decide, by decide⟩ rfl ?_
      refine v_isub (n := 54) xB_141 dX11_job_53 (by first | omega | (simp only [sA_same, sA_s, ud_s, Int.reduceEq, if_true, if_false, ite_true, ite_false, ↓reduceIte, and_true, true_and, eq_self, Int.add_zero, Int.reduceAdd]; omega) | (simp (disch := omega) only [sA_same, sA_ne, ud_eq, ud_ne, Int.add_zero, Int.reduceAdd]; omega)) rfl ?_
      refine v_ireturn0 xB_141 dX11_job_54 xK_141 ?_
      first
      | exact o1 (by omega)
      | ((try simp (disch := omega) only [sA_ne, sA_same, ud_eq, ud_ne])
         rw [y7]
         exact o3 ⟨by omega, gT⟩ _ (JG_z hG (fun k p q => by simp (disch := omega) only [ud_ne]) (by simp (disch := omega) only [ud_eq]) rfl) (by simp (disch := omega) only [sA_same, ud_ne]; rw [hG.2.1 5 (by omega) (by omega) (by omega) (by omega) (by omega), sA_same, ud_ne (by omega), ud_ne (by omega)]))
      | ((try simp (disch := omega) only [sA_ne, sA_same, ud_eq, ud_ne])
         try rw [y5]
         rw [show m 81 5 + 1 - 1 = m 81 5 by omega]
         exact o2 ⟨by omega, gT⟩ _ (JG_z hG.1 (fun k p q => by simp (disch := omega) only [ud_ne]) (by simp (disch := omega) only [ud_eq, ud_ne]) rfl) (by simp (disch := omega) only [sA_same, ud_eq, ud_ne]) (Gt_j hG h87 (by simp (disch := omega) only [sA_ne]) (by simp (disch := omega) only [sA_ne]) (by simp (disch := omega) only [sA_ne]) (by simp (disch := omega) only [sA_ne]) (by simp (disch := omega) only [sA_ne]) (by simp (disch := omega) only [sA_ne]) (by omega) z4 (by omega)) z3)
    · have y7 : mA 81 7 = (csF (m 86) (m 81 6) 10 0 []).2.1 := hG.2.2.2.2.2
      refine v_istore_n1 (n := 21) xB_141 dX11_job_20 rfl rfl ?_
      refine v_aload_n (n := 22) xB_141 dX11_job_21 rfl rfl ?_
      refine v_iconst (n := 23) xB_141 dX11_job_22 ⟨by decide, by decide⟩ rfl ?_
      refine v_pf_i (n := 26) (kz := 6) xB_141 dX11_job_23 xO_141 fl_11_29 fg_11_6 (Or.inl fn_11_6) (sh_81 _ _ _) (by decide) rfl rfl ?_
      (try simp (disch := omega) only [sA_same, sA_ne, sA_sA, sA_sr, sB_s, ud_eq, ud_ne, ud_ud, ud_sr, uB_s, Int.add_zero, Int.reduceAdd])
      refine v_iload_n (n := 27) xB_141 dX11_job_26 rfl rfl ?_
      refine v_if_ne_n (n := 30) xB_141 dX11_job_27 (by decide) rfl (by decide) ?_
      refine v_bipush (n := 32) xB_141 dX11_job_30 ⟨by decide, by decide⟩ rfl ?_
      refine v_aload_n (n := 33) xB_141 dX11_job_32 rfl rfl ?_
      refine v_gf_i (n := 36) (kz := 7) xB_141 dX11_job_33 xO_141 fl_11_32 fg_11_7 rfl (sh_81 _ _ _) rfl rfl ?_
      refine v_isub (n := 37) xB_141 dX11_job_36 (by first | omega | (simp only [sA_same, sA_s, ud_s, Int.reduceEq, if_true, if_false, ite_true, ite_false, ↓reduceIte, and_true, true_and, eq_self, Int.add_zero, Int.reduceAdd]; omega) | (simp (disch := omega) only [sA_same, sA_ne, ud_eq, ud_ne, Int.add_zero, Int.reduceAdd]; omega)) rfl ?_
      refine v_ireturn0 xB_141 dX11_job_37 xK_141 ?_
      first
      | exact o1 (by omega)
      | ((try simp (disch := omega) only [sA_ne, sA_same, ud_eq, ud_ne])
         rw [y7]
         exact o3 ⟨by omega, gT⟩ _ (JG_z hG (fun k p q => by simp (disch := omega) only [ud_ne]) (by simp (disch := omega) only [ud_eq]) rfl) (by simp (disch := omega) only [sA_same, ud_ne]; rw [hG.2.1 5 (by omega) (by omega) (by omega) (by omega) (by omega), sA_same, ud_ne (by omega), ud_ne (by omega)]))
      | ((try simp (disch := omega) only [sA_ne, sA_same, ud_eq, ud_ne])
         try rw [y5]
         rw [show m 81 5 + 1 - 1 = m 81 5 by omega]
         exact o2 ⟨by omega, gT⟩ _ (JG_z hG.1 (fun k p q => by simp (disch := omega) only [ud_ne]) (by simp (disch := omega) only [ud_eq, ud_ne]) rfl) (by simp (disch := omega) only [sA_same, ud_eq, ud_ne]) (Gt_j hG h87 (by simp (disch := omega) only [sA_ne]) (by simp (disch := omega) only [sA_ne]) (by simp (disch := omega) only [sA_ne]) (by simp (disch := omega) only [sA_ne]) (by simp (disch := omega) only [sA_ne]) (by simp (disch := omega) only [sA_ne]) (by omega) z4 (by omega)) z3)
  · (try simp (disch := omega) only [sA_same, sA_ne, sA_sA, sA_sr, sB_s, ud_eq, ud_ne, ud_ud, ud_sr, uB_s, Int.add_zero, Int.reduceAdd] at g1)
    refine v_bipush (n := 11) xB_141 dX11_job_9 ⟨by decide, by decide⟩ rfl ?_
    refine v_ireturn0 xB_141 dX11_job_11 xK_141 ?_
    first
    | exact o1 (by omega)
    | ((try simp (disch := omega) only [sA_ne, sA_same, ud_eq, ud_ne])
       rw [y7]
       exact o3 ⟨by omega, gT⟩ _ (JG_z hG (fun k p q => by simp (disch := omega) only [ud_ne]) (by simp (disch := omega) only [ud_eq]) rfl) (by simp (disch := omega) only [sA_same, ud_ne]; rw [hG.2.1 5 (by omega) (by omega) (by omega) (by omega) (by omega), sA_same, ud_ne (by omega), ud_ne (by omega)]))
    | ((try simp (disch := omega) only [sA_ne, sA_same, ud_eq, ud_ne])
       try rw [y5]
       rw [show m 81 5 + 1 - 1 = m 81 5 by omega]
       exact o2 ⟨by omega, gT⟩ _ (JG_z hG.1 (fun k p q => by simp (disch := omega) only [ud_ne]) (by simp (disch := omega) only [ud_eq, ud_ne]) rfl) (by simp (disch := omega) only [sA_same, ud_eq, ud_ne]) (Gt_j hG h87 (by simp (disch := omega) only [sA_ne]) (by simp (disch := omega) only [sA_ne]) (by simp (disch := omega) only [sA_ne]) (by simp (disch := omega) only [sA_ne]) (by simp (disch := omega) only [sA_ne]) (by simp (disch := omega) only [sA_ne]) (by omega) z4 (by omega)) z3)
