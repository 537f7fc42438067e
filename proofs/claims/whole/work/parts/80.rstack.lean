/-! The reference reads a job: its stack of what waits. -/
def opn : List Int → Int
  | [] => 0
  | w :: W => (if w = 33 ∨ w = 40 then 1 else 0) + opn W
def WS (f : Int → Int) : Int → List Int → Prop
  | n, [] => n = 0
  | n, w :: W => f (n - 1) = w ∧ WS f (n - 1) W
def stp : List Int → List Int
  | [] => []
  | w :: W => if w = 33 then stp W else w :: W
def nts : List Int → List Int
  | [] => []
  | w :: W => if w = 33 then -33 :: nts W else []
theorem opn_c (w : Int) (W : List Int) : opn (w :: W) = (if w = 33 ∨ w = 40 then 1 else 0) + opn W := rfl
theorem WS_ud {f : Int → Int} {k z : Int} : ∀ (W : List Int) (n : Int), n ≤ k → WS f n W → WS (ud f k z) n W := by
  intro W
  induction W with
  | nil => intro n _ h; exact h
  | cons w W ih => intro n hk h; exact ⟨by rw [ud_ne (by omega)]; exact h.1, ih _ (by omega) h.2⟩
theorem WS_in {f : Int → Int} : ∀ (W : List Int) (n : Int), WS f n W → n = W.length := by
  intro W
  induction W with
  | nil => intro n h; exact h
  | cons w W ih => intro n h; have := ih _ h.2; rw [List.length_cons]; omega
theorem LA_ap {f : Int → Int} : ∀ (E F : List Int) (s : Int), LA f s E → LA f (s + E.length) F → LA f s (E ++ F) := by
  intro E
  induction E with
  | nil => intro F s _ h; simpa using h
  | cons z E ih =>
    intro F s h1 h2
    refine ⟨h1.1, ih F (s + 1) h1.2 ?_⟩
    rw [List.length_cons] at h2
    rw [show s + 1 + (E.length : Int) = s + ((E.length + 1 : Nat) : Int) by omega]
    exact h2
theorem LA_ud {f : Int → Int} {k z : Int} : ∀ (E : List Int) (s : Int), s + E.length ≤ k → LA f s E → LA (ud f k z) s E := by
  intro E
  induction E with
  | nil => intro s _ _; trivial
  | cons y E ih =>
    intro s hk h
    rw [List.length_cons] at hk
    exact ⟨by rw [ud_ne (by omega)]; exact h.1, ih _ (by omega) h.2⟩
theorem LA_sn {f : Int → Int} {E : List Int} {s k z : Int} (h : LA f s E) (hk : k = s + E.length) : LA (ud f k z) s (E ++ [z]) := by
  refine LA_ap _ _ _ (LA_ud _ _ (by omega) h) ⟨?_, trivial⟩
  rw [← hk, ud_eq]
def St (m0 m : PM) (c a : Int) (W E : List Int) : Prop :=
  (∀ x : Int, x ≠ 81 → x ≠ 91 → x ≠ 92 → x ≠ 93 → m x = m0 x) ∧ (∀ k : Int, k ≠ 7 → k ≠ 8 → k ≠ 17 → k ≠ 18 → k ≠ 19 → m 81 k = m0 81 k) ∧ (∀ i : Int, i ≠ c → m 91 i = m0 91 i) ∧ m 81 7 = a ∧ m 81 18 = W.length ∧ m 81 19 = opn W ∧ m 81 17 = m0 81 17 + E.length ∧ (∀ i : Int, i < m0 81 17 → m 92 i = m0 92 i) ∧ LA (m 92) (m0 81 17) E ∧ WS (m 93) W.length W
theorem St_emit {m0 m m2 : PM} {c a a2 z : Int} {W W2 E : List Int} {F : Int → Int} (h : St m0 m c a W E) (hF : ∀ k : Int, k ≠ 7 → k ≠ 8 → k ≠ 17 → k ≠ 18 → k ≠ 19 → F k = m 81 k) (e7 : F 7 = a2) (e17 : F 17 = m 81 17 + 1) (e18 : F 18 = W2.length) (e19 : F 19 = opn W2) (hW : WS (m 93) W2.length W2) (e : m2 = setA (setA m 81 F) 92 (ud (m 92) (m 81 17) z)) : St m0 m2 c a2 W2 (E ++ [z]) := by
  subst e
  obtain ⟨h1, h2, h3, h4, h5, h6, h7, h8, h9, h10⟩ := h
  unfold St
  simp (disch := omega) only [sA_ne, sA_same]
  refine ⟨fun x p q r s => by simp (disch := omega) only [sA_ne]; exact h1 x p q r s, fun k p q r s t => (hF k p q r s t).trans (h2 k p q r s t), h3, e7, e18, e19, ?_, fun i p => by rw [ud_ne (by omega)]; exact h8 i p, LA_sn h9 h7, hW⟩
  rw [e17, h7, List.length_append, List.length_singleton]
  omega
theorem St_push {m0 m m2 : PM} {c a a2 w : Int} {W E : List Int} {F : Int → Int} (h : St m0 m c a W E) (hF : ∀ k : Int, k ≠ 7 → k ≠ 8 → k ≠ 17 → k ≠ 18 → k ≠ 19 → F k = m 81 k) (e7 : F 7 = a2) (e17 : F 17 = m 81 17) (e18 : F 18 = m 81 18 + 1) (e19 : F 19 = opn (w :: W)) (e : m2 = setA (setA m 81 F) 93 (ud (m 93) (m 81 18) w)) : St m0 m2 c a2 (w :: W) E := by
  subst e
  obtain ⟨h1, h2, h3, h4, h5, h6, h7, h8, h9, h10⟩ := h
  unfold St
  simp (disch := omega) only [sA_ne, sA_same]
  refine ⟨fun x p q r s => by simp (disch := omega) only [sA_ne]; exact h1 x p q r s, fun k p q r s t => (hF k p q r s t).trans (h2 k p q r s t), h3, e7, ?_, e19, by rw [e17]; exact h7, h8, h9, ?_⟩
  · rw [e18, h5, List.length_cons]; omega
  · rw [List.length_cons]
    refine ⟨?_, ?_⟩
    · rw [h5, show ((W.length + 1 : Nat) : Int) - 1 = W.length by omega, ud_eq]
    · rw [h5, show ((W.length + 1 : Nat) : Int) - 1 = W.length by omega]; exact WS_ud _ _ (Int.le_refl _) h10
theorem St_81 {m0 m m2 : PM} {c a a2 : Int} {W W2 E : List Int} {F : Int → Int} (h : St m0 m c a W E) (hF : ∀ k : Int, k ≠ 7 → k ≠ 8 → k ≠ 17 → k ≠ 18 → k ≠ 19 → F k = m 81 k) (e7 : F 7 = a2) (e17 : F 17 = m 81 17) (e18 : F 18 = W2.length) (e19 : F 19 = opn W2) (hW : WS (m 93) W2.length W2) (e : m2 = setA m 81 F) : St m0 m2 c a2 W2 E := by
  subst e
  obtain ⟨h1, h2, h3, h4, h5, h6, h7, h8, h9, h10⟩ := h
  unfold St
  simp (disch := omega) only [sA_ne, sA_same]
  exact ⟨fun x p q r s => by simp (disch := omega) only [sA_ne]; exact h1 x p q r s, fun k p q r s t => (hF k p q r s t).trans (h2 k p q r s t), h3, e7, e18, e19, by rw [e17]; exact h7, h8, h9, hW⟩
theorem St_91 {m0 m m2 : PM} {c a z : Int} {W E : List Int} (h : St m0 m c a W E) (e : m2 = setA m 91 (ud (m 91) c z)) : St m0 m2 c a W E := by
  subst e
  obtain ⟨h1, h2, h3, h4, h5, h6, h7, h8, h9, h10⟩ := h
  unfold St
  simp (disch := omega) only [sA_ne, sA_same]
  exact ⟨fun x p q r s => by simp (disch := omega) only [sA_ne]; exact h1 x p q r s, h2, fun i hi => by rw [ud_ne hi]; exact h3 i hi, h4, h5, h6, h7, h8, h9, h10⟩
theorem St_nil {m0 m : PM} {c a : Int} {W E : List Int} (h : St m0 m c a W E) : St m0 m c a W (E ++ []) := by rw [List.append_nil]; exact h
theorem opn_in : ∀ W : List Int, 0 ≤ opn W ∧ opn W ≤ W.length := by
  intro W
  induction W with
  | nil => exact ⟨Int.le_refl 0, Int.le_refl 0⟩
  | cons w W ih => unfold opn; rw [List.length_cons]; split <;> omega
theorem stp_len : ∀ W : List Int, ((stp W).length : Int) + (nts W).length = W.length := by
  intro W
  induction W with
  | nil => rfl
  | cons w W ih =>
    unfold stp nts
    by_cases h : w = 33
    · rw [if_pos h, if_pos h, List.length_cons, List.length_cons]; omega
    · rw [if_neg h, if_neg h, List.length_nil]; omega
set_option maxHeartbeats 1000000 in
theorem vc_whole {d : Nat} {m0 : PM} {c a : Int} {dy : List (Nat × Nat)} {L : Nat} {Q : Option PV → PS → Prop} (hd : 1 ≤ d) : ∀ (W E : List Int) (m : PM), St m0 m c a W E → 0 ≤ m0 81 17 → m0 81 17 + E.length + W.length ≤ 600 → W.length ≤ 100 → (∀ m', St m0 m' c a (stp W) (E ++ nts W) → Q none (m', (none, (dy, L)))) → V d 133 (0, ([some (.inr (.inr 81))], ([], (m, (none, (dy, L)))))) Q := by
  intro W
  induction W with
  | nil =>
    intro E m h hs hb hb2 o1
    have w18 : m 81 18 = 0 := h.2.2.2.2.1
    refine v_aload_n (n := 1) xB_133 dX11_whole_0 rfl rfl ?_
    refine v_gf_i (n := 4) (kz := 18) xB_133 dX11_whole_1 xO_133 fl_11_65 fg_11_18 rfl (sh_81 _ _ _) rfl rfl ?_
    refine v_if_le_y (t := 52) xB_133 dX11_whole_4 (by decide) rfl (by first | omega | (simp only [sA_same, sA_s, ud_s, Int.reduceEq, if_true, if_false, ite_true, ite_false, ↓reduceIte, and_true, true_and, eq_self, Int.add_zero, Int.reduceAdd]; omega) | (simp (disch := omega) only [sA_same, sA_ne, ud_eq, ud_ne, Int.add_zero, Int.reduceAdd]; omega)) ?_
    refine v_return xB_133 dX11_whole_52 xK_133 ?_
    exact o1 _ (St_nil h)
  | cons w W ih =>
    intro E m h hs hb hb2 o1
    have h18 := h.2.2.2.2.1
    have h19 := h.2.2.2.2.2.1
    have h17 := h.2.2.2.2.2.2.1
    have hws := h.2.2.2.2.2.2.2.2.2
    have hwt := hws.2
    have hw1 := hws.1
    have hop := opn_in (w :: W)
    rw [List.length_cons] at h18 hb hb2 hws hwt hw1 hop
    rw [show ((W.length + 1 : Nat) : Int) - 1 = W.length by omega] at hwt hw1
    have hix : m 81 18 - 1 = W.length := by omega
    refine v_aload_n (n := 1) xB_133 dX11_whole_0 rfl rfl ?_
    refine v_gf_i (n := 4) (kz := 18) xB_133 dX11_whole_1 xO_133 fl_11_65 fg_11_18 rfl (sh_81 _ _ _) rfl rfl ?_
    refine v_if_le_n (n := 7) xB_133 dX11_whole_4 (by decide) rfl (by first | omega | (simp only [sA_same, sA_s, ud_s, Int.reduceEq, if_true, if_false, ite_true, ite_false, ↓reduceIte, and_true, true_and, eq_self, Int.add_zero, Int.reduceAdd]; omega) | (simp (disch := omega) only [sA_same, sA_ne, ud_eq, ud_ne, Int.add_zero, Int.reduceAdd]; omega)) ?_
    refine v_aload_n (n := 8) xB_133 dX11_whole_7 rfl rfl ?_
    refine v_gf_s (n := 11) (kz := 16) xB_133 dX11_whole_8 xO_133 fl_11_59 fg_11_16 (sh_81 _ _ _) rfl st_81_16 rfl ?_
    refine v_aload_n (n := 12) xB_133 dX11_whole_11 rfl rfl ?_
    refine v_gf_i (n := 15) (kz := 18) xB_133 dX11_whole_12 xO_133 fl_11_65 fg_11_18 rfl (sh_81 _ _ _) rfl rfl ?_
    refine v_iconst (n := 16) xB_133 dX11_whole_15 ⟨by decide, by decide⟩ rfl ?_
    refine v_isub (n := 17) xB_133 dX11_whole_16 (by first | omega | (simp only [sA_same, sA_s, ud_s, Int.reduceEq, if_true, if_false, ite_true, ite_false, ↓reduceIte, and_true, true_and, eq_self, Int.add_zero, Int.reduceAdd]; omega) | (simp (disch := omega) only [sA_same, sA_ne, ud_eq, ud_ne, Int.add_zero, Int.reduceAdd]; omega)) rfl ?_
    refine v_iaload (n := 18) (lz := 101) xB_133 dX11_whole_17 (sh_93 _ _ _) rfl (by first | omega | (simp only [sA_same, sA_s, ud_s, Int.reduceEq, if_true, if_false, ite_true, ite_false, ↓reduceIte, and_true, true_and, eq_self, Int.add_zero, Int.reduceAdd]; omega) | (simp (disch := omega) only [sA_same, sA_ne, ud_eq, ud_ne, Int.add_zero, Int.reduceAdd]; omega)) rfl ?_
    refine v_bipush (n := 20) xB_133 dX11_whole_18 ⟨by decide, by decide⟩ rfl ?_
    refine v_ic_ne (t := 52) (n := 23) xB_133 dX11_whole_20 (by decide) rfl rfl (fun g1 => ?_) (fun g1 => ?_)
    · (try simp (disch := omega) only [sA_same, sA_ne, sA_sA, sA_sr, sB_s, ud_eq, ud_ne, ud_ud, ud_sr, uB_s, Int.add_zero, Int.reduceAdd] at g1)
      refine v_return xB_133 dX11_whole_52 xK_133 ?_
      have hw33 : ¬ w = 33 := by rw [← hw1, ← hix]; assumption
      have e1 : stp (w :: W) = w :: W := by unfold stp; rw [if_neg hw33]
      have e2 : nts (w :: W) = [] := by unfold nts; rw [if_neg hw33]
      rw [e1, e2] at o1
      exact o1 _ (St_nil h)
    · (try simp (disch := omega) only [sA_same, sA_ne, sA_sA, sA_sr, sB_s, ud_eq, ud_ne, ud_ud, ud_sr, uB_s, Int.add_zero, Int.reduceAdd] at g1)
      refine v_aload_n (n := 24) xB_133 dX11_whole_23 rfl rfl ?_
      refine v_bipush (n := 26) xB_133 dX11_whole_24 ⟨by decide, by decide⟩ rfl ?_
      refine v_call_v (n := 29) xB_133 dX11_whole_26 xO_133 iv_11_240 rfl (sh_81 _ _ _) rfl rfl rfl ?_
      refine c_emits (by omega) (by first | omega | (simp only [sA_same, sA_s, ud_s, Int.reduceEq, if_true, if_false, ite_true, ite_false, ↓reduceIte, and_true, true_and, eq_self, Int.add_zero, Int.reduceAdd]; omega) | (simp (disch := omega) only [sA_same, sA_ne, ud_eq, ud_ne, Int.add_zero, Int.reduceAdd]; omega)) ?_
      (try simp (disch := omega) only [sA_same, sA_ne, sA_sA, sA_sr, sB_s, ud_eq, ud_ne, ud_ud, ud_sr, uB_s, Int.add_zero, Int.reduceAdd])
      refine v_aload_n (n := 30) xB_133 dX11_whole_29 rfl rfl ?_
      refine v_dup (n := 31) xB_133 dX11_whole_30 rfl rfl ?_
      refine v_gf_i (n := 34) (kz := 18) xB_133 dX11_whole_31 xO_133 fl_11_65 fg_11_18 rfl (sh_81 _ _ _) rfl rfl ?_
      refine v_iconst (n := 35) xB_133 dX11_whole_34 ⟨by decide, by decide⟩ rfl ?_
      refine v_isub (n := 36) xB_133 dX11_whole_35 (by first | omega | (simp only [sA_same, sA_s, ud_s, Int.reduceEq, if_true, if_false, ite_true, ite_false, ↓reduceIte, and_true, true_and, eq_self, Int.add_zero, Int.reduceAdd]; omega) | (simp (disch := omega) only [sA_same, sA_ne, ud_eq, ud_ne, Int.add_zero, Int.reduceAdd]; omega)) rfl ?_
      refine v_pf_i (n := 39) (kz := 18) xB_133 dX11_whole_36 xO_133 fl_11_65 fg_11_18 (Or.inl fn_11_18) (sh_81 _ _ _) (by decide) rfl rfl ?_
      (try simp (disch := omega) only [sA_same, sA_ne, sA_sA, sA_sr, sB_s, ud_eq, ud_ne, ud_ud, ud_sr, uB_s, Int.add_zero, Int.reduceAdd])
      refine v_aload_n (n := 40) xB_133 dX11_whole_39 rfl rfl ?_
      refine v_dup (n := 41) xB_133 dX11_whole_40 rfl rfl ?_
      refine v_gf_i (n := 44) (kz := 19) xB_133 dX11_whole_41 xO_133 fl_11_68 fg_11_19 rfl (sh_81 _ _ _) rfl rfl ?_
      refine v_iconst (n := 45) xB_133 dX11_whole_44 ⟨by decide, by decide⟩ rfl ?_
      refine v_isub (n := 46) xB_133 dX11_whole_45 (by first | omega | (simp only [sA_same, sA_s, ud_s, Int.reduceEq, if_true, if_false, ite_true, ite_false, ↓reduceIte, and_true, true_and, eq_self, Int.add_zero, Int.reduceAdd]; omega) | (simp (disch := omega) only [sA_same, sA_ne, ud_eq, ud_ne, Int.add_zero, Int.reduceAdd]; omega)) rfl ?_
      refine v_pf_i (n := 49) (kz := 19) xB_133 dX11_whole_46 xO_133 fl_11_68 fg_11_19 (Or.inl fn_11_19) (sh_81 _ _ _) (by decide) rfl rfl ?_
      (try simp (disch := omega) only [sA_same, sA_ne, sA_sA, sA_sr, sB_s, ud_eq, ud_ne, ud_ud, ud_sr, uB_s, Int.add_zero, Int.reduceAdd])
      refine v_goto (t := 0) xB_133 dX11_whole_49 (by decide) rfl ?_
      (try simp (disch := omega) only [sA_same, sA_ne, sA_sA, sA_sr, sB_s, ud_eq, ud_ne, ud_ud, ud_sr, uB_s, Int.add_zero, Int.reduceAdd])
      have hw33 : w = 33 := by rw [← hw1, ← hix]; assumption
      subst hw33
      refine ih (E ++ [-33]) _ (St_emit h (W2 := W) (a2 := a) (fun k p q r s t => by simp (disch := omega) only [ud_ne]) (by simp (disch := omega) only [ud_ne]; exact h.2.2.2.1) (by simp (disch := omega) only [ud_eq, ud_ne]) (by simp (disch := omega) only [ud_eq, ud_ne]; omega) (by simp (disch := omega) only [ud_eq, ud_ne]; rw [h19, opn_c, if_pos (Or.inl rfl)]; omega) hwt rfl) hs (by rw [List.length_append, List.length_singleton]; omega) (by omega) (fun m' hm => o1 _ ?_)
      unfold stp nts
      rw [if_pos rfl, if_pos rfl]
      rw [List.append_assoc] at hm
      exact hm
theorem c_whole {d : Nat} {m0 m : PM} {c a : Int} {W E : List Int} {dy : List (Nat × Nat)} {L : Nat} {Q : Option PV → PS → Prop} (hd : 2 ≤ d) (h : St m0 m c a W E) (hs : 0 ≤ m0 81 17) (hb : m0 81 17 + E.length + W.length ≤ 600) (hb2 : W.length ≤ 100) (o1 : ∀ m', St m0 m' c a (stp W) (E ++ nts W) → Q none (m', (none, (dy, L)))) : C d 133 [.inr (.inr 81)] (m, (none, (dy, L))) Q := by
  refine C_go (k := 1) hd xL_133 (fun d hd => ?_)
  exact vc_whole hd W E m h hs hb hb2 o1
def sPop (s w : Int) : Prop := w = 38 ∨ (w = 124 ∧ s ≠ 38)
def sStop (s : Int) : List Int → Prop
  | [] => True
  | w :: _ => ¬ sPop s w
set_option maxHeartbeats 1000000 in
theorem vc_settle {d : Nat} {m0 : PM} {c a s : Int} {W : List Int} {dy : List (Nat × Nat)} {L : Nat} {Q : Option PV → PS → Prop} (hd : 1 ≤ d) (hW : sStop s W) : ∀ (P E : List Int) (m : PM), (∀ p ∈ P, sPop s p) → St m0 m c a (P ++ W) E → 0 ≤ m0 81 17 → m0 81 17 + E.length + (P ++ W).length ≤ 600 → (P ++ W).length ≤ 100 → (∀ m', St m0 m' c a W (E ++ P.map (fun z => -z)) → Q none (m', (none, (dy, L)))) → V d 134 (0, ([some (.inr (.inr 81)), some (.inl s)], ([], (m, (none, (dy, L)))))) Q := by
  intro P
  induction P with
  | nil =>
    intro E m _ h hs hb hb2 o1
    rw [List.nil_append] at h hb hb2
    have o2 := o1 m (St_nil h)
    cases W with
    | nil =>
      have w18 : m 81 18 = 0 := h.2.2.2.2.1
      refine v_aload_n (n := 1) xB_134 dX11_settle_0 rfl rfl ?_
      refine v_gf_i (n := 4) (kz := 18) xB_134 dX11_settle_1 xO_134 fl_11_65 fg_11_18 rfl (sh_81 _ _ _) rfl rfl ?_
      refine v_if_le_y (t := 72) xB_134 dX11_settle_4 (by decide) rfl (by first | omega | (simp only [sA_same, sA_s, ud_s, Int.reduceEq, if_true, if_false, ite_true, ite_false, ↓reduceIte, and_true, true_and, eq_self, Int.add_zero, Int.reduceAdd]; omega) | (simp (disch := omega) only [sA_same, sA_ne, ud_eq, ud_ne, Int.add_zero, Int.reduceAdd]; omega)) ?_
      refine v_return xB_134 dX11_settle_72 xK_134 ?_
      exact o2
    | cons w W =>
      have h18 := h.2.2.2.2.1
      have hw1 := h.2.2.2.2.2.2.2.2.2.1
      rw [List.length_cons] at h18 hw1 hb2
      rw [show ((W.length + 1 : Nat) : Int) - 1 = W.length by omega] at hw1
      have hix : m 81 18 - 1 = W.length := by omega
      have hnp : ¬ sPop s w := hW
      refine v_aload_n (n := 1) xB_134 dX11_settle_0 rfl rfl ?_
      refine v_gf_i (n := 4) (kz := 18) xB_134 dX11_settle_1 xO_134 fl_11_65 fg_11_18 rfl (sh_81 _ _ _) rfl rfl ?_
      refine v_if_le_n (n := 7) xB_134 dX11_settle_4 (by decide) rfl (by first | omega | (simp only [sA_same, sA_s, ud_s, Int.reduceEq, if_true, if_false, ite_true, ite_false, ↓reduceIte, and_true, true_and, eq_self, Int.add_zero, Int.reduceAdd]; omega) | (simp (disch := omega) only [sA_same, sA_ne, ud_eq, ud_ne, Int.add_zero, Int.reduceAdd]; omega)) ?_
      refine v_aload_n (n := 8) xB_134 dX11_settle_7 rfl rfl ?_
      refine v_gf_s (n := 11) (kz := 16) xB_134 dX11_settle_8 xO_134 fl_11_59 fg_11_16 (sh_81 _ _ _) rfl st_81_16 rfl ?_
      refine v_aload_n (n := 12) xB_134 dX11_settle_11 rfl rfl ?_
      refine v_gf_i (n := 15) (kz := 18) xB_134 dX11_settle_12 xO_134 fl_11_65 fg_11_18 rfl (sh_81 _ _ _) rfl rfl ?_
      refine v_iconst (n := 16) xB_134 dX11_settle_15 ⟨by decide, by decide⟩ rfl ?_
      refine v_isub (n := 17) xB_134 dX11_settle_16 (by first | omega | (simp only [sA_same, sA_s, ud_s, Int.reduceEq, if_true, if_false, ite_true, ite_false, ↓reduceIte, and_true, true_and, eq_self, Int.add_zero, Int.reduceAdd]; omega) | (simp (disch := omega) only [sA_same, sA_ne, ud_eq, ud_ne, Int.add_zero, Int.reduceAdd]; omega)) rfl ?_
      refine v_iaload (n := 18) (lz := 101) xB_134 dX11_settle_17 (sh_93 _ _ _) rfl (by first | omega | (simp only [sA_same, sA_s, ud_s, Int.reduceEq, if_true, if_false, ite_true, ite_false, ↓reduceIte, and_true, true_and, eq_self, Int.add_zero, Int.reduceAdd]; omega) | (simp (disch := omega) only [sA_same, sA_ne, ud_eq, ud_ne, Int.add_zero, Int.reduceAdd]; omega)) rfl ?_
      refine v_bipush (n := 20) xB_134 dX11_settle_18 ⟨by decide, by decide⟩ rfl ?_
      refine v_ic_eq (t := 45) (n := 23) xB_134 dX11_settle_20 (by decide) rfl rfl (fun g1 => ?_) (fun g1 => ?_)
      · exfalso
        apply hnp
        have q1 : m 93 (m 81 18 - 1) = w := by rw [hix]; exact hw1
        unfold sPop
        omega
      · refine v_aload_n (n := 24) xB_134 dX11_settle_23 rfl rfl ?_
        refine v_gf_s (n := 27) (kz := 16) xB_134 dX11_settle_24 xO_134 fl_11_59 fg_11_16 (sh_81 _ _ _) rfl st_81_16 rfl ?_
        refine v_aload_n (n := 28) xB_134 dX11_settle_27 rfl rfl ?_
        refine v_gf_i (n := 31) (kz := 18) xB_134 dX11_settle_28 xO_134 fl_11_65 fg_11_18 rfl (sh_81 _ _ _) rfl rfl ?_
        refine v_iconst (n := 32) xB_134 dX11_settle_31 ⟨by decide, by decide⟩ rfl ?_
        refine v_isub (n := 33) xB_134 dX11_settle_32 (by first | omega | (simp only [sA_same, sA_s, ud_s, Int.reduceEq, if_true, if_false, ite_true, ite_false, ↓reduceIte, and_true, true_and, eq_self, Int.add_zero, Int.reduceAdd]; omega) | (simp (disch := omega) only [sA_same, sA_ne, ud_eq, ud_ne, Int.add_zero, Int.reduceAdd]; omega)) rfl ?_
        refine v_iaload (n := 34) (lz := 101) xB_134 dX11_settle_33 (sh_93 _ _ _) rfl (by first | omega | (simp only [sA_same, sA_s, ud_s, Int.reduceEq, if_true, if_false, ite_true, ite_false, ↓reduceIte, and_true, true_and, eq_self, Int.add_zero, Int.reduceAdd]; omega) | (simp (disch := omega) only [sA_same, sA_ne, ud_eq, ud_ne, Int.add_zero, Int.reduceAdd]; omega)) rfl ?_
        refine v_bipush (n := 36) xB_134 dX11_settle_34 ⟨by decide, by decide⟩ rfl ?_
        refine v_ic_ne (t := 72) (n := 39) xB_134 dX11_settle_36 (by decide) rfl rfl (fun g2 => ?_) (fun g2 => ?_)
        · refine v_return xB_134 dX11_settle_72 xK_134 ?_
          exact o2
        · refine v_iload_n (n := 40) xB_134 dX11_settle_39 rfl rfl ?_
          refine v_bipush (n := 42) xB_134 dX11_settle_40 ⟨by decide, by decide⟩ rfl ?_
          refine v_ic_eq (t := 72) (n := 45) xB_134 dX11_settle_42 (by decide) rfl rfl (fun g3 => ?_) (fun g3 => ?_)
          · refine v_return xB_134 dX11_settle_72 xK_134 ?_
            exact o2
          · exfalso
            apply hnp
            have q1 : m 93 (m 81 18 - 1) = w := by rw [hix]; exact hw1
            unfold sPop
            omega
  | cons w P ih =>
    intro E m hp h hs hb hb2 o1
    have h18 := h.2.2.2.2.1
    have h19 := h.2.2.2.2.2.1
    have h17 := h.2.2.2.2.2.2.1
    have hws := h.2.2.2.2.2.2.2.2.2
    have hwt := hws.2
    have hw1 := hws.1
    have hpw : sPop s w := hp w List.mem_cons_self
    have hpw2 : w = 38 ∨ (w = 124 ∧ s ≠ 38) := hpw
    rw [List.cons_append, List.length_cons] at h18 hb hb2 hws
    rw [show ((w :: P ++ W).length : Int) - 1 = (P ++ W).length by rw [List.cons_append, List.length_cons]; omega] at hwt hw1
    have hix : m 81 18 - 1 = (P ++ W).length := by omega
    have q1 : m 93 (m 81 18 - 1) = w := by rw [hix]; exact hw1
    refine v_aload_n (n := 1) xB_134 dX11_settle_0 rfl rfl ?_
    refine v_gf_i (n := 4) (kz := 18) xB_134 dX11_settle_1 xO_134 fl_11_65 fg_11_18 rfl (sh_81 _ _ _) rfl rfl ?_
    refine v_if_le_n (n := 7) xB_134 dX11_settle_4 (by decide) rfl (by first | omega | (simp only [sA_same, sA_s, ud_s, Int.reduceEq, if_true, if_false, ite_true, ite_false, ↓reduceIte, and_true, true_and, eq_self, Int.add_zero, Int.reduceAdd]; omega) | (simp (disch := omega) only [sA_same, sA_ne, ud_eq, ud_ne, Int.add_zero, Int.reduceAdd]; omega)) ?_
    refine v_aload_n (n := 8) xB_134 dX11_settle_7 rfl rfl ?_
    refine v_gf_s (n := 11) (kz := 16) xB_134 dX11_settle_8 xO_134 fl_11_59 fg_11_16 (sh_81 _ _ _) rfl st_81_16 rfl ?_
    refine v_aload_n (n := 12) xB_134 dX11_settle_11 rfl rfl ?_
    refine v_gf_i (n := 15) (kz := 18) xB_134 dX11_settle_12 xO_134 fl_11_65 fg_11_18 rfl (sh_81 _ _ _) rfl rfl ?_
    refine v_iconst (n := 16) xB_134 dX11_settle_15 ⟨by decide, by decide⟩ rfl ?_
    refine v_isub (n := 17) xB_134 dX11_settle_16 (by first | omega | (simp only [sA_same, sA_s, ud_s, Int.reduceEq, if_true, if_false, ite_true, ite_false, ↓reduceIte, and_true, true_and, eq_self, Int.add_zero, Int.reduceAdd]; omega) | (simp (disch := omega) only [sA_same, sA_ne, ud_eq, ud_ne, Int.add_zero, Int.reduceAdd]; omega)) rfl ?_
    refine v_iaload (n := 18) (lz := 101) xB_134 dX11_settle_17 (sh_93 _ _ _) rfl (by first | omega | (simp only [sA_same, sA_s, ud_s, Int.reduceEq, if_true, if_false, ite_true, ite_false, ↓reduceIte, and_true, true_and, eq_self, Int.add_zero, Int.reduceAdd]; omega) | (simp (disch := omega) only [sA_same, sA_ne, ud_eq, ud_ne, Int.add_zero, Int.reduceAdd]; omega)) rfl ?_
    refine v_bipush (n := 20) xB_134 dX11_settle_18 ⟨by decide, by decide⟩ rfl ?_
    refine v_ic_eq (t := 45) (n := 23) xB_134 dX11_settle_20 (by decide) rfl rfl (fun g1 => ?_) (fun g1 => ?_)
    · (try simp (disch := omega) only [sA_same, sA_ne, sA_sA, sA_sr, sB_s, ud_eq, ud_ne, ud_ud, ud_sr, uB_s, Int.add_zero, Int.reduceAdd] at g1)
      refine v_aload_n (n := 46) xB_134 dX11_settle_45 rfl rfl ?_
      refine v_dup (n := 47) xB_134 dX11_settle_46 rfl rfl ?_
      refine v_gf_i (n := 50) (kz := 18) xB_134 dX11_settle_47 xO_134 fl_11_65 fg_11_18 rfl (sh_81 _ _ _) rfl rfl ?_
      refine v_iconst (n := 51) xB_134 dX11_settle_50 ⟨by decide, by decide⟩ rfl ?_
      refine v_isub (n := 52) xB_134 dX11_settle_51 (by first | omega | (simp only [sA_same, sA_s, ud_s, Int.reduceEq, if_true, if_false, ite_true, ite_false, ↓reduceIte, and_true, true_and, eq_self, Int.add_zero, Int.reduceAdd]; omega) | (simp (disch := omega) only [sA_same, sA_ne, ud_eq, ud_ne, Int.add_zero, Int.reduceAdd]; omega)) rfl ?_
      refine v_pf_i (n := 55) (kz := 18) xB_134 dX11_settle_52 xO_134 fl_11_65 fg_11_18 (Or.inl fn_11_18) (sh_81 _ _ _) (by decide) rfl rfl ?_
      (try simp (disch := omega) only [sA_same, sA_ne, sA_sA, sA_sr, sB_s, ud_eq, ud_ne, ud_ud, ud_sr, uB_s, Int.add_zero, Int.reduceAdd])
      refine v_aload_n (n := 56) xB_134 dX11_settle_55 rfl rfl ?_
      refine v_aload_n (n := 57) xB_134 dX11_settle_56 rfl rfl ?_
      refine v_gf_s (n := 60) (kz := 16) xB_134 dX11_settle_57 xO_134 fl_11_59 fg_11_16 (sh_81 _ _ _) rfl st_81_16 rfl ?_
      refine v_aload_n (n := 61) xB_134 dX11_settle_60 rfl rfl ?_
      refine v_gf_i (n := 64) (kz := 18) xB_134 dX11_settle_61 xO_134 fl_11_65 fg_11_18 rfl (sh_81 _ _ _) rfl rfl ?_
      refine v_iaload (n := 65) (lz := 101) xB_134 dX11_settle_64 (sh_93 _ _ _) rfl (by first | omega | (simp only [sA_same, sA_s, ud_s, Int.reduceEq, if_true, if_false, ite_true, ite_false, ↓reduceIte, and_true, true_and, eq_self, Int.add_zero, Int.reduceAdd]; omega) | (simp (disch := omega) only [sA_same, sA_ne, ud_eq, ud_ne, Int.add_zero, Int.reduceAdd]; omega)) rfl ?_
      refine v_ineg (n := 66) xB_134 dX11_settle_65 (by first | omega | (simp only [sA_same, sA_s, ud_s, Int.reduceEq, if_true, if_false, ite_true, ite_false, ↓reduceIte, and_true, true_and, eq_self, Int.add_zero, Int.reduceAdd]; omega) | (simp (disch := omega) only [sA_same, sA_ne, ud_eq, ud_ne, Int.add_zero, Int.reduceAdd]; omega)) rfl ?_
      refine v_call_v (n := 69) xB_134 dX11_settle_66 xO_134 iv_11_240 rfl (sh_81 _ _ _) rfl rfl rfl ?_
      refine c_emits (by omega) (by first | omega | (simp only [sA_same, sA_s, ud_s, Int.reduceEq, if_true, if_false, ite_true, ite_false, ↓reduceIte, and_true, true_and, eq_self, Int.add_zero, Int.reduceAdd]; omega) | (simp (disch := omega) only [sA_same, sA_ne, ud_eq, ud_ne, Int.add_zero, Int.reduceAdd]; omega)) ?_
      (try simp (disch := omega) only [sA_same, sA_ne, sA_sA, sA_sr, sB_s, ud_eq, ud_ne, ud_ud, ud_sr, uB_s, Int.add_zero, Int.reduceAdd])
      refine v_goto (t := 0) xB_134 dX11_settle_69 (by decide) rfl ?_
      (try simp (disch := omega) only [sA_same, sA_ne, sA_sA, sA_sr, sB_s, ud_eq, ud_ne, ud_ud, ud_sr, uB_s, Int.add_zero, Int.reduceAdd])
      rw [show m 93 (m 81 18 - 1) = w from q1]
      refine ih (E ++ [-w]) _ (fun p hpp => hp p (List.mem_cons_of_mem _ hpp)) (St_emit h (W2 := P ++ W) (a2 := a) (fun k p q r s t => by simp (disch := omega) only [ud_ne]) (by simp (disch := omega) only [ud_ne]; exact h.2.2.2.1) (by simp (disch := omega) only [ud_eq, ud_ne]) (by simp (disch := omega) only [ud_eq, ud_ne]; omega) (by simp (disch := omega) only [ud_eq, ud_ne]; rw [h19, List.cons_append, opn_c, if_neg (by omega)]; omega) hwt rfl) hs (by rw [List.length_append, List.length_singleton]; omega) (by omega) (fun m' hm => o1 _ ?_)
      rw [List.map_cons, List.append_cons]
      exact hm
    · (try simp (disch := omega) only [sA_same, sA_ne, sA_sA, sA_sr, sB_s, ud_eq, ud_ne, ud_ud, ud_sr, uB_s, Int.add_zero, Int.reduceAdd] at g1)
      refine v_aload_n (n := 24) xB_134 dX11_settle_23 rfl rfl ?_
      refine v_gf_s (n := 27) (kz := 16) xB_134 dX11_settle_24 xO_134 fl_11_59 fg_11_16 (sh_81 _ _ _) rfl st_81_16 rfl ?_
      refine v_aload_n (n := 28) xB_134 dX11_settle_27 rfl rfl ?_
      refine v_gf_i (n := 31) (kz := 18) xB_134 dX11_settle_28 xO_134 fl_11_65 fg_11_18 rfl (sh_81 _ _ _) rfl rfl ?_
      refine v_iconst (n := 32) xB_134 dX11_settle_31 ⟨by decide, by decide⟩ rfl ?_
      refine v_isub (n := 33) xB_134 dX11_settle_32 (by first | omega | (simp only [sA_same, sA_s, ud_s, Int.reduceEq, if_true, if_false, ite_true, ite_false, ↓reduceIte, and_true, true_and, eq_self, Int.add_zero, Int.reduceAdd]; omega) | (simp (disch := omega) only [sA_same, sA_ne, ud_eq, ud_ne, Int.add_zero, Int.reduceAdd]; omega)) rfl ?_
      refine v_iaload (n := 34) (lz := 101) xB_134 dX11_settle_33 (sh_93 _ _ _) rfl (by first | omega | (simp only [sA_same, sA_s, ud_s, Int.reduceEq, if_true, if_false, ite_true, ite_false, ↓reduceIte, and_true, true_and, eq_self, Int.add_zero, Int.reduceAdd]; omega) | (simp (disch := omega) only [sA_same, sA_ne, ud_eq, ud_ne, Int.add_zero, Int.reduceAdd]; omega)) rfl ?_
      refine v_bipush (n := 36) xB_134 dX11_settle_34 ⟨by decide, by decide⟩ rfl ?_
      refine v_ic_ne (t := 72) (n := 39) xB_134 dX11_settle_36 (by decide) rfl rfl (fun g2 => ?_) (fun g2 => ?_)
      · (try simp (disch := omega) only [sA_same, sA_ne, sA_sA, sA_sr, sB_s, ud_eq, ud_ne, ud_ud, ud_sr, uB_s, Int.add_zero, Int.reduceAdd] at g2)
        refine v_return xB_134 dX11_settle_72 xK_134 ?_
        exfalso; omega
      · (try simp (disch := omega) only [sA_same, sA_ne, sA_sA, sA_sr, sB_s, ud_eq, ud_ne, ud_ud, ud_sr, uB_s, Int.add_zero, Int.reduceAdd] at g2)
        refine v_iload_n (n := 40) xB_134 dX11_settle_39 rfl rfl ?_
        refine v_bipush (n := 42) xB_134 dX11_settle_40 ⟨by decide, by decide⟩ rfl ?_
        refine v_ic_eq (t := 72) (n := 45) xB_134 dX11_settle_42 (by decide) rfl rfl (fun g3 => ?_) (fun g3 => ?_)
        · (try simp (disch := omega) only [sA_same, sA_ne, sA_sA, sA_sr, sB_s, ud_eq, ud_ne, ud_ud, ud_sr, uB_s, Int.add_zero, Int.reduceAdd] at g3)
          refine v_return xB_134 dX11_settle_72 xK_134 ?_
          exfalso; omega
        · (try simp (disch := omega) only [sA_same, sA_ne, sA_sA, sA_sr, sB_s, ud_eq, ud_ne, ud_ud, ud_sr, uB_s, Int.add_zero, Int.reduceAdd] at g3)
          refine v_aload_n (n := 46) xB_134 dX11_settle_45 rfl rfl ?_
          refine v_dup (n := 47) xB_134 dX11_settle_46 rfl rfl ?_
          refine v_gf_i (n := 50) (kz := 18) xB_134 dX11_settle_47 xO_134 fl_11_65 fg_11_18 rfl (sh_81 _ _ _) rfl rfl ?_
          refine v_iconst (n := 51) xB_134 dX11_settle_50 ⟨by decide, by decide⟩ rfl ?_
          refine v_isub (n := 52) xB_134 dX11_settle_51 (by first | omega | (simp only [sA_same, sA_s, ud_s, Int.reduceEq, if_true, if_false, ite_true, ite_false, ↓reduceIte, and_true, true_and, eq_self, Int.add_zero, Int.reduceAdd]; omega) | (simp (disch := omega) only [sA_same, sA_ne, ud_eq, ud_ne, Int.add_zero, Int.reduceAdd]; omega)) rfl ?_
          refine v_pf_i (n := 55) (kz := 18) xB_134 dX11_settle_52 xO_134 fl_11_65 fg_11_18 (Or.inl fn_11_18) (sh_81 _ _ _) (by decide) rfl rfl ?_
          (try simp (disch := omega) only [sA_same, sA_ne, sA_sA, sA_sr, sB_s, ud_eq, ud_ne, ud_ud, ud_sr, uB_s, Int.add_zero, Int.reduceAdd])
          refine v_aload_n (n := 56) xB_134 dX11_settle_55 rfl rfl ?_
          refine v_aload_n (n := 57) xB_134 dX11_settle_56 rfl rfl ?_
          refine v_gf_s (n := 60) (kz := 16) xB_134 dX11_settle_57 xO_134 fl_11_59 fg_11_16 (sh_81 _ _ _) rfl st_81_16 rfl ?_
          refine v_aload_n (n := 61) xB_134 dX11_settle_60 rfl rfl ?_
          refine v_gf_i (n := 64) (kz := 18) xB_134 dX11_settle_61 xO_134 fl_11_65 fg_11_18 rfl (sh_81 _ _ _) rfl rfl ?_
          refine v_iaload (n := 65) (lz := 101) xB_134 dX11_settle_64 (sh_93 _ _ _) rfl (by first | omega | (simp only [sA_same, sA_s, ud_s, Int.reduceEq, if_true, if_false, ite_true, ite_false, ↓reduceIte, and_true, true_and, eq_self, Int.add_zero, Int.reduceAdd]; omega) | (simp (disch := omega) only [sA_same, sA_ne, ud_eq, ud_ne, Int.add_zero, Int.reduceAdd]; omega)) rfl ?_
          refine v_ineg (n := 66) xB_134 dX11_settle_65 (by first | omega | (simp only [sA_same, sA_s, ud_s, Int.reduceEq, if_true, if_false, ite_true, ite_false, ↓reduceIte, and_true, true_and, eq_self, Int.add_zero, Int.reduceAdd]; omega) | (simp (disch := omega) only [sA_same, sA_ne, ud_eq, ud_ne, Int.add_zero, Int.reduceAdd]; omega)) rfl ?_
          refine v_call_v (n := 69) xB_134 dX11_settle_66 xO_134 iv_11_240 rfl (sh_81 _ _ _) rfl rfl rfl ?_
          refine c_emits (by omega) (by first | omega | (simp only [sA_same, sA_s, ud_s, Int.reduceEq, if_true, if_false, ite_true, ite_false, ↓reduceIte, and_true, true_and, eq_self, Int.add_zero, Int.reduceAdd]; omega) | (simp (disch := omega) only [sA_same, sA_ne, ud_eq, ud_ne, Int.add_zero, Int.reduceAdd]; omega)) ?_
          (try simp (disch := omega) only [sA_same, sA_ne, sA_sA, sA_sr, sB_s, ud_eq, ud_ne, ud_ud, ud_sr, uB_s, Int.add_zero, Int.reduceAdd])
          refine v_goto (t := 0) xB_134 dX11_settle_69 (by decide) rfl ?_
          (try simp (disch := omega) only [sA_same, sA_ne, sA_sA, sA_sr, sB_s, ud_eq, ud_ne, ud_ud, ud_sr, uB_s, Int.add_zero, Int.reduceAdd])
          rw [show m 93 (m 81 18 - 1) = w from q1]
          refine ih (E ++ [-w]) _ (fun p hpp => hp p (List.mem_cons_of_mem _ hpp)) (St_emit h (W2 := P ++ W) (a2 := a) (fun k p q r s t => by simp (disch := omega) only [ud_ne]) (by simp (disch := omega) only [ud_ne]; exact h.2.2.2.1) (by simp (disch := omega) only [ud_eq, ud_ne]) (by simp (disch := omega) only [ud_eq, ud_ne]; omega) (by simp (disch := omega) only [ud_eq, ud_ne]; rw [h19, List.cons_append, opn_c, if_neg (by omega)]; omega) hwt rfl) hs (by rw [List.length_append, List.length_singleton]; omega) (by omega) (fun m' hm => o1 _ ?_)
          rw [List.map_cons, List.append_cons]
          exact hm
theorem c_settle {d : Nat} {m0 m : PM} {c a s : Int} {P W E : List Int} {dy : List (Nat × Nat)} {L : Nat} {Q : Option PV → PS → Prop} (hd : 2 ≤ d) (hW : sStop s W) (hp : ∀ p ∈ P, sPop s p) (h : St m0 m c a (P ++ W) E) (hs : 0 ≤ m0 81 17) (hb : m0 81 17 + E.length + (P ++ W).length ≤ 600) (hb2 : (P ++ W).length ≤ 100) (o1 : ∀ m', St m0 m' c a W (E ++ P.map (fun z => -z)) → Q none (m', (none, (dy, L)))) : C d 134 [.inr (.inr 81), .inl s] (m, (none, (dy, L))) Q := by
  refine C_go (k := 1) hd xL_134 (fun d hd => ?_)
  exact vc_settle hd hW P E m hp h hs hb hb2 o1
theorem tr_tst {f g n : Int} (hf : 0 ≤ f ∧ f ≤ 5) (hg : 0 ≤ g ∧ g ≤ 2) (hn : 0 ≤ n ∧ n ≤ 99) : trS ((f * 3 + g) * 100 + n) = 1000 * f + 100 * g + n := by
  rw [tr_t (by omega) (by omega)]
  omega
def Bd (m0 : PM) (B a : Int) (W E : List Int) : Prop := 0 ≤ m0 81 17 ∧ 0 ≤ B ∧ B ≤ 500 ∧ m0 81 6 ≤ 100 ∧ 0 ≤ a ∧ a ≤ m0 81 6 ∧ m0 81 17 + E.length + W.length ≤ B + a ∧ W.length ≤ a
set_option maxHeartbeats 1000000 in
theorem c_takesTest {d : Nat} {m0 : PM} {T : Int → Int} {n a c B : Int} {W E : List Int} {m : PM} {dy : List (Nat × Nat)} {L : Nat} {Q : Option PV → PS → Prop} (hd : 4 ≤ d) (hT : m 86 = T) (hn : m 81 6 = n) (ha : m 81 7 = a) (hSt : St m0 m c a W E) (hBd : Bd m0 B a W E) (o1 : (tst T n a).1 = true → ∀ m' : PM, St m0 m' c (tst T n a).2.1 (stp W) (E ++ (tst T n a).2.2.map trS ++ nts W) → Q (some (.inl 1)) (m', (none, (dy, L)))) (o2 : (tst T n a).1 = false → ∀ (m' : PM) (W' E' : List Int), St m0 m' c (tst T n a).2.1 W' E' → Q (some (.inl 0)) (m', (none, (dy, L)))) : C d 136 [.inr (.inr 81)] (m, (none, (dy, L))) Q := by
  refine C_go (k := 3) hd xL_136 (fun d hd => ?_)
  show V d 136 (0, ([some (.inr (.inr 81)), none, none], ([], (m, (none, (dy, L)))))) Q
  subst hT
  subst hn
  subst ha
  obtain ⟨d1, d2, d3, d4, d5, d6, d7, d8⟩ := hBd
  have h6 : m 81 6 = m0 81 6 := hSt.2.1 6 (by omega) (by omega) (by omega) (by omega) (by omega)
  have h17 := hSt.2.2.2.2.2.2.1
  have h18 := hSt.2.2.2.2.1
  have h19 := hSt.2.2.2.2.2.1
  have hws := hSt.2.2.2.2.2.2.2.2.2
  refine v_aload_n (n := 1) xB_136 dX11_takesTest_0 rfl rfl ?_
  refine v_aload_n (n := 2) xB_136 dX11_takesTest_1 rfl rfl ?_
  refine v_call_v (n := 5) xB_136 dX11_takesTest_2 xO_136 iv_11_229 rfl (sh_81 _ _ _) rfl rfl rfl ?_
  refine c_next (by omega) (by first | omega | (simp only [sA_same, sA_s, ud_s, Int.reduceEq, if_true, if_false, ite_true, ite_false, ↓reduceIte, and_true, true_and, eq_self, Int.add_zero, Int.reduceAdd]; omega) | (simp (disch := omega) only [sA_same, sA_ne, ud_eq, ud_ne, Int.add_zero, Int.reduceAdd]; omega)) ?_
  refine v_call_v (n := 8) xB_136 dX11_takesTest_5 xO_136 iv_11_244 rfl (sh_81 _ _ _) rfl rfl rfl ?_
  refine c_place (by omega)  ?_
  refine v_istore_n1 (n := 9) xB_136 dX11_takesTest_8 rfl rfl ?_
  refine v_iload_n (n := 10) xB_136 dX11_takesTest_9 rfl rfl ?_
  refine v_if_ge (t := 15) (n := 13) xB_136 dX11_takesTest_10 (by decide) rfl rfl (fun g1 => ?_) (fun g1 => ?_)
  · (try simp (disch := omega) only [sA_same, sA_ne, sA_sA, sA_sr, sB_s, ud_eq, ud_ne, ud_ud, ud_sr, uB_s, Int.add_zero, Int.reduceAdd] at g1)
    have pf := plc_in (c := nxt (m 86) (m 81 6) (m 81 7)) (by omega)
    have pn0 := nxt_in (T := m 86) (n := m 81 6) (a := m 81 7) rfl (by omega)
    refine v_aload_n (n := 16) xB_136 dX11_takesTest_15 rfl rfl ?_
    refine v_dup (n := 17) xB_136 dX11_takesTest_16 rfl rfl ?_
    refine v_gf_i (n := 20) (kz := 7) xB_136 dX11_takesTest_17 xO_136 fl_11_32 fg_11_7 rfl (sh_81 _ _ _) rfl rfl ?_
    refine v_iconst (n := 21) xB_136 dX11_takesTest_20 ⟨by decide, by decide⟩ rfl ?_
    refine v_iadd (n := 22) xB_136 dX11_takesTest_21 (by first | omega | (simp only [sA_same, sA_s, ud_s, Int.reduceEq, if_true, if_false, ite_true, ite_false, ↓reduceIte, and_true, true_and, eq_self, Int.add_zero, Int.reduceAdd]; omega) | (simp (disch := omega) only [sA_same, sA_ne, ud_eq, ud_ne, Int.add_zero, Int.reduceAdd]; omega)) rfl ?_
    refine v_pf_i (n := 25) (kz := 7) xB_136 dX11_takesTest_22 xO_136 fl_11_32 fg_11_7 (Or.inl fn_11_7) (sh_81 _ _ _) (by decide) rfl rfl ?_
    (try simp (disch := omega) only [sA_same, sA_ne, sA_sA, sA_sr, sB_s, ud_eq, ud_ne, ud_ud, ud_sr, uB_s, Int.add_zero, Int.reduceAdd])
    refine v_aload_n (n := 26) xB_136 dX11_takesTest_25 rfl rfl ?_
    refine v_call_v (n := 29) xB_136 dX11_takesTest_26 xO_136 iv_11_229 rfl (sh_81 _ _ _) rfl rfl rfl ?_
    refine c_next (by omega) (by first | omega | (simp only [sA_same, sA_s, ud_s, Int.reduceEq, if_true, if_false, ite_true, ite_false, ↓reduceIte, and_true, true_and, eq_self, Int.add_zero, Int.reduceAdd]; omega) | (simp (disch := omega) only [sA_same, sA_ne, ud_eq, ud_ne, Int.add_zero, Int.reduceAdd]; omega)) ?_
    refine v_istore_n2 (n := 30) xB_136 dX11_takesTest_29 rfl rfl ?_
    refine v_aload_n (n := 31) xB_136 dX11_takesTest_30 rfl rfl ?_
    refine v_iload_n (n := 32) xB_136 dX11_takesTest_31 rfl rfl ?_
    refine v_bipush (n := 34) xB_136 dX11_takesTest_32 ⟨by decide, by decide⟩ rfl ?_
    refine v_bipush (n := 36) xB_136 dX11_takesTest_34 ⟨by decide, by decide⟩ rfl ?_
    refine v_call_v (n := 39) xB_136 dX11_takesTest_36 xO_136 iv_11_221 rfl (sh_81 _ _ _) rfl rfl rfl ?_
    refine c_in (by omega)  (fun g2 => ?_) (fun g3 => ?_)
    · (try simp (disch := omega) only [sA_same, sA_ne, sA_sA, sA_sr, sB_s, ud_eq, ud_ne, ud_ud, ud_sr, uB_s, Int.add_zero, Int.reduceAdd] at g2)
      refine v_if_ne_y (t := 44) xB_136 dX11_takesTest_39 (by decide) rfl (by decide) ?_
      have pn1 := nxt_in (T := m 86) (n := m 81 6) (a := m 81 7 + 1) rfl (by omega)
      have q3 := nmv_in (m 86) (n := m 81 6) (a := m 81 7 + 1 + 1) (by omega)
      refine v_aload_n (n := 45) xB_136 dX11_takesTest_44 rfl rfl ?_
      refine v_dup (n := 46) xB_136 dX11_takesTest_45 rfl rfl ?_
      refine v_gf_i (n := 49) (kz := 7) xB_136 dX11_takesTest_46 xO_136 fl_11_32 fg_11_7 rfl (sh_81 _ _ _) rfl rfl ?_
      refine v_iconst (n := 50) xB_136 dX11_takesTest_49 ⟨by decide, by decide⟩ rfl ?_
      refine v_iadd (n := 51) xB_136 dX11_takesTest_50 (by first | omega | (simp only [sA_same, sA_s, ud_s, Int.reduceEq, if_true, if_false, ite_true, ite_false, ↓reduceIte, and_true, true_and, eq_self, Int.add_zero, Int.reduceAdd]; omega) | (simp (disch := omega) only [sA_same, sA_ne, ud_eq, ud_ne, Int.add_zero, Int.reduceAdd]; omega)) rfl ?_
      refine v_pf_i (n := 54) (kz := 7) xB_136 dX11_takesTest_51 xO_136 fl_11_32 fg_11_7 (Or.inl fn_11_7) (sh_81 _ _ _) (by decide) rfl rfl ?_
      (try simp (disch := omega) only [sA_same, sA_ne, sA_sA, sA_sr, sB_s, ud_eq, ud_ne, ud_ud, ud_sr, uB_s, Int.add_zero, Int.reduceAdd])
      refine v_aload_n (n := 55) xB_136 dX11_takesTest_54 rfl rfl ?_
      refine v_call_v (n := 58) xB_136 dX11_takesTest_55 xO_136 iv_11_248 rfl (sh_81 _ _ _) rfl rfl rfl ?_
      refine c_takesNumber (by omega) (by first | omega | (simp only [sA_same, sA_s, ud_s, Int.reduceEq, if_true, if_false, ite_true, ite_false, ↓reduceIte, and_true, true_and, eq_self, Int.add_zero, Int.reduceAdd]; omega) | (simp (disch := omega) only [sA_same, sA_ne, ud_eq, ud_ne, Int.add_zero, Int.reduceAdd]; omega)) (fun g4 => ?_) (fun g5 => ?_)
      · (try simp (disch := omega) only [sA_same, sA_ne, sA_sA, sA_sr, sB_s, ud_eq, ud_ne, ud_ud, ud_sr, uB_s, Int.add_zero, Int.reduceAdd] at g4)
        (try simp (disch := omega) only [sA_same, sA_ne, sA_sA, sA_sr, sB_s, ud_eq, ud_ne, ud_ud, ud_sr, uB_s, Int.add_zero, Int.reduceAdd])
        refine v_if_ne_y (t := 63) xB_136 dX11_takesTest_58 (by decide) rfl (by decide) ?_
        refine v_aload_n (n := 64) xB_136 dX11_takesTest_63 rfl rfl ?_
        refine v_sipush (n := 67) xB_136 dX11_takesTest_64 ⟨by decide, by decide⟩ rfl ?_
        refine v_iload_n (n := 68) xB_136 dX11_takesTest_67 rfl rfl ?_
        refine v_imul (n := 69) xB_136 dX11_takesTest_68 (by first | omega | (simp only [sA_same, sA_s, ud_s, Int.reduceEq, if_true, if_false, ite_true, ite_false, ↓reduceIte, and_true, true_and, eq_self, Int.add_zero, Int.reduceAdd]; omega) | (simp (disch := omega) only [sA_same, sA_ne, ud_eq, ud_ne, Int.add_zero, Int.reduceAdd]; omega)) rfl ?_
        refine v_bipush (n := 71) xB_136 dX11_takesTest_69 ⟨by decide, by decide⟩ rfl ?_
        refine v_iload_n (n := 72) xB_136 dX11_takesTest_71 rfl rfl ?_
        refine v_bipush (n := 74) xB_136 dX11_takesTest_72 ⟨by decide, by decide⟩ rfl ?_
        refine v_isub (n := 75) xB_136 dX11_takesTest_74 (by first | omega | (simp only [sA_same, sA_s, ud_s, Int.reduceEq, if_true, if_false, ite_true, ite_false, ↓reduceIte, and_true, true_and, eq_self, Int.add_zero, Int.reduceAdd]; omega) | (simp (disch := omega) only [sA_same, sA_ne, ud_eq, ud_ne, Int.add_zero, Int.reduceAdd]; omega)) rfl ?_
        refine v_imul (n := 76) xB_136 dX11_takesTest_75 (by first | omega | (simp only [sA_same, sA_s, ud_s, Int.reduceEq, if_true, if_false, ite_true, ite_false, ↓reduceIte, and_true, true_and, eq_self, Int.add_zero, Int.reduceAdd]; omega) | (simp (disch := omega) only [sA_same, sA_ne, ud_eq, ud_ne, Int.add_zero, Int.reduceAdd]; omega)) rfl ?_
        refine v_iadd (n := 77) xB_136 dX11_takesTest_76 (by first | omega | (simp only [sA_same, sA_s, ud_s, Int.reduceEq, if_true, if_false, ite_true, ite_false, ↓reduceIte, and_true, true_and, eq_self, Int.add_zero, Int.reduceAdd]; omega) | (simp (disch := omega) only [sA_same, sA_ne, ud_eq, ud_ne, Int.add_zero, Int.reduceAdd]; omega)) rfl ?_
        refine v_aload_n (n := 78) xB_136 dX11_takesTest_77 rfl rfl ?_
        refine v_gf_i (n := 81) (kz := 8) xB_136 dX11_takesTest_78 xO_136 fl_11_35 fg_11_8 rfl (sh_81 _ _ _) rfl rfl ?_
        refine v_iadd (n := 82) xB_136 dX11_takesTest_81 (by first | omega | (simp only [sA_same, sA_s, ud_s, Int.reduceEq, if_true, if_false, ite_true, ite_false, ↓reduceIte, and_true, true_and, eq_self, Int.add_zero, Int.reduceAdd]; omega) | (simp (disch := omega) only [sA_same, sA_ne, ud_eq, ud_ne, Int.add_zero, Int.reduceAdd]; omega)) rfl ?_
        refine v_call_v (n := 85) xB_136 dX11_takesTest_82 xO_136 iv_11_240 rfl (sh_81 _ _ _) rfl rfl rfl ?_
        refine c_emits (by omega) (by first | omega | (simp only [sA_same, sA_s, ud_s, Int.reduceEq, if_true, if_false, ite_true, ite_false, ↓reduceIte, and_true, true_and, eq_self, Int.add_zero, Int.reduceAdd]; omega) | (simp (disch := omega) only [sA_same, sA_ne, ud_eq, ud_ne, Int.add_zero, Int.reduceAdd]; omega)) ?_
        (try simp (disch := omega) only [sA_same, sA_ne, sA_sA, sA_sr, sB_s, ud_eq, ud_ne, ud_ud, ud_sr, uB_s, Int.add_zero, Int.reduceAdd])
        refine v_aload_n (n := 86) xB_136 dX11_takesTest_85 rfl rfl ?_
        refine v_call_v (n := 89) xB_136 dX11_takesTest_86 xO_136 iv_11_251 rfl (sh_81 _ _ _) rfl rfl rfl ?_
        refine c_whole (by omega) (St_emit hSt (W2 := W) (a2 := (nmv (m 86) (m 81 6) (m 81 7 + 1 + 1)).2) (fun k p q r s t => by simp (disch := omega) only [ud_ne]) (by simp (disch := omega) only [ud_eq, ud_ne]) (by simp (disch := omega) only [ud_eq, ud_ne]) (by simp (disch := omega) only [ud_ne]; exact h18) (by simp (disch := omega) only [ud_ne]; exact h19) hws rfl) d1 (by rw [List.length_append, List.length_singleton]; omega) (by omega) (fun mA hA => ?_)
        refine v_iconst (n := 90) xB_136 dX11_takesTest_89 ⟨by decide, by decide⟩ rfl ?_
        refine v_ireturn1 xB_136 dX11_takesTest_90 xK_136 (by decide) ?_
        first
        | (have q : tst (m 86) (m 81 6) (m 81 7) = (false, (m 81 7, [])) := by unfold tst; rw [if_pos (by omega)]
           rw [q] at o2; exact o2 rfl _ _ _ hSt)
        | (have q : tst (m 86) (m 81 6) (m 81 7) = (false, (m 81 7 + 1, [])) := by unfold tst; rw [if_neg (by omega), if_pos (by omega)]
           rw [q] at o2
           exact o2 rfl _ _ _ (St_81 hSt (W2 := W) (a2 := m 81 7 + 1) (fun k p q r s t => by simp (disch := omega) only [ud_ne]) (by simp (disch := omega) only [ud_eq, ud_ne]) (by simp (disch := omega) only [ud_ne]) (by simp (disch := omega) only [ud_ne]; exact h18) (by simp (disch := omega) only [ud_ne]; exact h19) hws rfl))
        | (have q : tst (m 86) (m 81 6) (m 81 7) = (false, (m 81 7 + 1 + 1, [])) := by unfold tst; rw [show m 81 7 + 2 = m 81 7 + 1 + 1 by omega, if_neg (by omega), if_neg (by omega), if_pos (by omega)]
           rw [q] at o2
           exact o2 rfl _ _ _ (St_81 hSt (W2 := W) (a2 := m 81 7 + 1 + 1) (fun k p q r s t => by simp (disch := omega) only [ud_ne]) (by simp (disch := omega) only [ud_eq, ud_ne]) (by simp (disch := omega) only [ud_ne]) (by simp (disch := omega) only [ud_ne]; exact h18) (by simp (disch := omega) only [ud_ne]; exact h19) hws rfl))
        | (have q : tst (m 86) (m 81 6) (m 81 7) = (true, ((nmv (m 86) (m 81 6) (m 81 7 + 1 + 1)).2, [(plc (nxt (m 86) (m 81 6) (m 81 7)) * 3 + ((nxt (m 86) (m 81 6) (m 81 7 + 1)) - 60)) * 100 + (nmv (m 86) (m 81 6) (m 81 7 + 1 + 1)).1])) := by unfold tst; rw [show m 81 7 + 2 = m 81 7 + 1 + 1 by omega, if_neg (by omega), if_neg (by omega), if_neg (by omega)]
           rw [q] at o1
           refine o1 rfl _ ?_
           rw [List.map_cons, List.map_nil, tr_tst (by omega) (by omega) (by omega)]
           exact hA)
      · (try simp (disch := omega) only [sA_same, sA_ne, sA_sA, sA_sr, sB_s, ud_eq, ud_ne, ud_ud, ud_sr, uB_s, Int.add_zero, Int.reduceAdd] at g5)
        (try simp (disch := omega) only [sA_same, sA_ne, sA_sA, sA_sr, sB_s, ud_eq, ud_ne, ud_ud, ud_sr, uB_s, Int.add_zero, Int.reduceAdd])
        refine v_if_ne_n (n := 61) xB_136 dX11_takesTest_58 (by decide) rfl (by decide) ?_
        refine v_iconst (n := 62) xB_136 dX11_takesTest_61 ⟨by decide, by decide⟩ rfl ?_
        refine v_ireturn1 xB_136 dX11_takesTest_62 xK_136 (by decide) ?_
        first
        | (have q : tst (m 86) (m 81 6) (m 81 7) = (false, (m 81 7, [])) := by unfold tst; rw [if_pos (by omega)]
           rw [q] at o2; exact o2 rfl _ _ _ hSt)
        | (have q : tst (m 86) (m 81 6) (m 81 7) = (false, (m 81 7 + 1, [])) := by unfold tst; rw [if_neg (by omega), if_pos (by omega)]
           rw [q] at o2
           exact o2 rfl _ _ _ (St_81 hSt (W2 := W) (a2 := m 81 7 + 1) (fun k p q r s t => by simp (disch := omega) only [ud_ne]) (by simp (disch := omega) only [ud_eq, ud_ne]) (by simp (disch := omega) only [ud_ne]) (by simp (disch := omega) only [ud_ne]; exact h18) (by simp (disch := omega) only [ud_ne]; exact h19) hws rfl))
        | (have q : tst (m 86) (m 81 6) (m 81 7) = (false, (m 81 7 + 1 + 1, [])) := by unfold tst; rw [show m 81 7 + 2 = m 81 7 + 1 + 1 by omega, if_neg (by omega), if_neg (by omega), if_pos (by omega)]
           rw [q] at o2
           exact o2 rfl _ _ _ (St_81 hSt (W2 := W) (a2 := m 81 7 + 1 + 1) (fun k p q r s t => by simp (disch := omega) only [ud_ne]) (by simp (disch := omega) only [ud_eq, ud_ne]) (by simp (disch := omega) only [ud_ne]) (by simp (disch := omega) only [ud_ne]; exact h18) (by simp (disch := omega) only [ud_ne]; exact h19) hws rfl))
        | (have q : tst (m 86) (m 81 6) (m 81 7) = (true, ((nmv (m 86) (m 81 6) (m 81 7 + 1 + 1)).2, [(plc (nxt (m 86) (m 81 6) (m 81 7)) * 3 + ((nxt (m 86) (m 81 6) (m 81 7 + 1)) - 60)) * 100 + (nmv (m 86) (m 81 6) (m 81 7 + 1 + 1)).1])) := by unfold tst; rw [show m 81 7 + 2 = m 81 7 + 1 + 1 by omega, if_neg (by omega), if_neg (by omega), if_neg (by omega)]
           rw [q] at o1
           refine o1 rfl _ ?_
           rw [List.map_cons, List.map_nil, tr_tst (by omega) (by omega) (by omega)]
           exact hA)
    · (try simp (disch := omega) only [sA_same, sA_ne, sA_sA, sA_sr, sB_s, ud_eq, ud_ne, ud_ud, ud_sr, uB_s, Int.add_zero, Int.reduceAdd] at g3)
      refine v_if_ne_n (n := 42) xB_136 dX11_takesTest_39 (by decide) rfl (by decide) ?_
      refine v_iconst (n := 43) xB_136 dX11_takesTest_42 ⟨by decide, by decide⟩ rfl ?_
      refine v_ireturn1 xB_136 dX11_takesTest_43 xK_136 (by decide) ?_
      first
      | (have q : tst (m 86) (m 81 6) (m 81 7) = (false, (m 81 7, [])) := by unfold tst; rw [if_pos (by omega)]
         rw [q] at o2; exact o2 rfl _ _ _ hSt)
      | (have q : tst (m 86) (m 81 6) (m 81 7) = (false, (m 81 7 + 1, [])) := by unfold tst; rw [if_neg (by omega), if_pos (by omega)]
         rw [q] at o2
         exact o2 rfl _ _ _ (St_81 hSt (W2 := W) (a2 := m 81 7 + 1) (fun k p q r s t => by simp (disch := omega) only [ud_ne]) (by simp (disch := omega) only [ud_eq, ud_ne]) (by simp (disch := omega) only [ud_ne]) (by simp (disch := omega) only [ud_ne]; exact h18) (by simp (disch := omega) only [ud_ne]; exact h19) hws rfl))
      | (have q : tst (m 86) (m 81 6) (m 81 7) = (false, (m 81 7 + 1 + 1, [])) := by unfold tst; rw [show m 81 7 + 2 = m 81 7 + 1 + 1 by omega, if_neg (by omega), if_neg (by omega), if_pos (by omega)]
         rw [q] at o2
         exact o2 rfl _ _ _ (St_81 hSt (W2 := W) (a2 := m 81 7 + 1 + 1) (fun k p q r s t => by simp (disch := omega) only [ud_ne]) (by simp (disch := omega) only [ud_eq, ud_ne]) (by simp (disch := omega) only [ud_ne]) (by simp (disch := omega) only [ud_ne]; exact h18) (by simp (disch := omega) only [ud_ne]; exact h19) hws rfl))
      | (have q : tst (m 86) (m 81 6) (m 81 7) = (true, ((nmv (m 86) (m 81 6) (m 81 7 + 1 + 1)).2, [(plc (nxt (m 86) (m 81 6) (m 81 7)) * 3 + ((nxt (m 86) (m 81 6) (m 81 7 + 1)) - 60)) * 100 + (nmv (m 86) (m 81 6) (m 81 7 + 1 + 1)).1])) := by unfold tst; rw [show m 81 7 + 2 = m 81 7 + 1 + 1 by omega, if_neg (by omega), if_neg (by omega), if_neg (by omega)]
         rw [q] at o1
         refine o1 rfl _ ?_
         rw [List.map_cons, List.map_nil, tr_tst (by omega) (by omega) (by omega)]
         exact hA)
  · (try simp (disch := omega) only [sA_same, sA_ne, sA_sA, sA_sr, sB_s, ud_eq, ud_ne, ud_ud, ud_sr, uB_s, Int.add_zero, Int.reduceAdd] at g1)
    refine v_iconst (n := 14) xB_136 dX11_takesTest_13 ⟨by decide, by decide⟩ rfl ?_
    refine v_ireturn1 xB_136 dX11_takesTest_14 xK_136 (by decide) ?_
    first
    | (have q : tst (m 86) (m 81 6) (m 81 7) = (false, (m 81 7, [])) := by unfold tst; rw [if_pos (by omega)]
       rw [q] at o2; exact o2 rfl _ _ _ hSt)
    | (have q : tst (m 86) (m 81 6) (m 81 7) = (false, (m 81 7 + 1, [])) := by unfold tst; rw [if_neg (by omega), if_pos (by omega)]
       rw [q] at o2
       exact o2 rfl _ _ _ (St_81 hSt (W2 := W) (a2 := m 81 7 + 1) (fun k p q r s t => by simp (disch := omega) only [ud_ne]) (by simp (disch := omega) only [ud_eq, ud_ne]) (by simp (disch := omega) only [ud_ne]) (by simp (disch := omega) only [ud_ne]; exact h18) (by simp (disch := omega) only [ud_ne]; exact h19) hws rfl))
    | (have q : tst (m 86) (m 81 6) (m 81 7) = (false, (m 81 7 + 1 + 1, [])) := by unfold tst; rw [show m 81 7 + 2 = m 81 7 + 1 + 1 by omega, if_neg (by omega), if_neg (by omega), if_pos (by omega)]
       rw [q] at o2
       exact o2 rfl _ _ _ (St_81 hSt (W2 := W) (a2 := m 81 7 + 1 + 1) (fun k p q r s t => by simp (disch := omega) only [ud_ne]) (by simp (disch := omega) only [ud_eq, ud_ne]) (by simp (disch := omega) only [ud_ne]) (by simp (disch := omega) only [ud_ne]; exact h18) (by simp (disch := omega) only [ud_ne]; exact h19) hws rfl))
    | (have q : tst (m 86) (m 81 6) (m 81 7) = (true, ((nmv (m 86) (m 81 6) (m 81 7 + 1 + 1)).2, [(plc (nxt (m 86) (m 81 6) (m 81 7)) * 3 + ((nxt (m 86) (m 81 6) (m 81 7 + 1)) - 60)) * 100 + (nmv (m 86) (m 81 6) (m 81 7 + 1 + 1)).1])) := by unfold tst; rw [show m 81 7 + 2 = m 81 7 + 1 + 1 by omega, if_neg (by omega), if_neg (by omega), if_neg (by omega)]
       rw [q] at o1
       refine o1 rfl _ ?_
       rw [List.map_cons, List.map_nil, tr_tst (by omega) (by omega) (by omega)]
       exact hA)
