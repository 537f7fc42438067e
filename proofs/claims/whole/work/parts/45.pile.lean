/-! The class: a pile of sheets. -/
def okc (f : Int → Int) : Prop := ∀ s, okS (f s)
theorem okc_ud {f : Int → Int} (h : okc f) {z : Int} (hz : okS z) (k : Int) : okc (ud f k z) := by
  intro j; unfold ud; split
  · exact hz
  · exact h j
theorem okc_ivl {f g : Int → Int} (hf : okc f) (hg : okc g) (a b : Int) : okc (ivl f g a b) := by
  intro j; unfold ivl; split
  · exact hf j
  · exact hg j
def sdF (x k : Int) : Int := if k = 0 then x % 256 else x / 256
def ponF (N a k : Int) (c : Int → Int) : Int := if 0 ≤ a ∧ a < N then (if k = 0 then c a % 128 else c a / 256 % 128) else 0
theorem ponF_pgk {N a k : Int} {c : Int → Int} (h : 0 ≤ a ∧ a < N) (hk : k = 0 ∨ k = 1) : ponF N a k c = pgk c (2 * a + k) := by
  unfold ponF pgk; rw [if_pos h]
  rcases hk with rfl | rfl
  · rw [if_pos rfl, if_pos (by omega), show (2 * a + 0) / 2 = a by omega]
  · rw [if_neg (by omega), if_neg (by omega), show (2 * a + 1) / 2 = a by omega]
def mxF (x y : Int) : Int := if x < y then y else x
def mnF (x y : Int) : Int := if y < x then y else x
def mirC (f : Int → Int) (N s : Int) : Int → Int := fun j => if 0 ≤ j ∧ j < N ∧ (j < s ∨ N - s ≤ j) then ovF (f (N - 1 - j)) else f j
theorem mirC_0 (f : Int → Int) (N : Int) : mirC f N 0 = f := by
  funext j; unfold mirC; rw [if_neg (by omega)]
theorem okc_mirC {f : Int → Int} (h : okc f) (N s : Int) : okc (mirC f N s) := by
  intro j; unfold mirC; split
  · exact ovF_ok (h _)
  · exact h _
set_option maxHeartbeats 1000000 in
theorem k_over {d : Nat} {s : Int} {σ : PS} {Q : Option PV → PS → Prop} (hd : 1 ≤ d) (hs : okS s) (o1 : Q (some (.inl (ovF s))) σ) : C d 25 [.inl s] σ Q := by
  refine C_go (k := 0) hd xL_25 (fun d hd => ?_)
  show V d 25 (0, ([some (.inl s)], ([], σ))) Q
  unfold okS at hs
  refine v_iload_n (n := 1) xB_25 dX4_over_0 rfl rfl ?_
  refine v_bipush (n := 3) xB_25 dX4_over_1 ⟨by decide, by decide⟩ rfl ?_
  refine v_ishr (n := 4) (p := 256) xB_25 dX4_over_3 (by decide) (by first | omega | (simp only [sA_same, sA_s, ud_s, Int.reduceEq, if_true, if_false, ite_true, ite_false, ↓reduceIte, and_true, true_and, eq_self, Int.add_zero, Int.reduceAdd]; omega)) rfl ?_
  refine v_iload_n (n := 5) xB_25 dX4_over_4 rfl rfl ?_
  refine v_sipush (n := 8) xB_25 dX4_over_5 ⟨by decide, by decide⟩ rfl ?_
  refine v_iand_e (n := 9) xB_25 dX4_over_8 (z := s % 256) (iA255 (by omega) (by omega)) rfl ?_
  refine v_bipush (n := 11) xB_25 dX4_over_9 ⟨by decide, by decide⟩ rfl ?_
  refine v_ishl (n := 12) (p := 256) xB_25 dX4_over_11 (by decide) (by first | omega | (simp only [sA_same, sA_s, ud_s, Int.reduceEq, if_true, if_false, ite_true, ite_false, ↓reduceIte, and_true, true_and, eq_self, Int.add_zero, Int.reduceAdd]; omega)) rfl ?_
  refine v_ior_e (n := 13) xB_25 dX4_over_12 (z := s / 256 + 256 * (s % 256)) (iOhl (by omega) (by omega) (by omega) (by omega)) rfl ?_
  refine v_ireturn0 xB_25 dX4_over_13 xK_25 ?_
  exact o1
set_option maxHeartbeats 1000000 in
theorem k_about {d : Nat} {s : Int} {σ : PS} {Q : Option PV → PS → Prop} (hd : 1 ≤ d) (hs : okS s) (o1 : Q (some (.inl (abt s))) σ) : C d 26 [.inl s] σ Q := by
  refine C_go (k := 0) hd xL_26 (fun d hd => ?_)
  show V d 26 (0, ([some (.inl s)], ([], σ))) Q
  unfold okS at hs
  refine v_iload_n (n := 1) xB_26 dX4_about_0 rfl rfl ?_
  refine v_ldc_i (n := 3) xB_26 dX4_about_1 xO_26 lc_4_25 rfl ?_
  refine v_ixor_e (n := 4) xB_26 dX4_about_3 (z := abt s) (iXabt (by omega) (by omega)) rfl ?_
  refine v_ireturn0 xB_26 dX4_about_4 xK_26 ?_
  exact o1
set_option maxHeartbeats 1000000 in
theorem k_sideOf {d : Nat} {p a k : Int} {m : PM} {dy : List (Nat × Nat)} {L : Nat} {Q : Option PV → PS → Prop} (hd : 1 ≤ d) (hp : pilA p) (ha : 0 ≤ a ∧ a < 12) (hk : k = 0 ∨ k = 1) (hc : okc (m (p + 1))) (o1 : Q (some (.inl (sdF (m (p + 1) a) k))) (m, (none, (dy, L)))) : C d 27 [.inr (.inr p), .inl a, .inl k] (m, (none, (dy, L))) Q := by
  refine C_go (k := 0) hd xL_27 (fun d hd => ?_)
  show V d 27 (0, ([some (.inr (.inr p)), some (.inl a), some (.inl k)], ([], (m, (none, (dy, L)))))) Q
  have hpd : p = 2 ∨ p = 28 ∨ p = 62 ∨ p = 64 := hp
  have q1 := hc a
  unfold okS at q1
  rcases hk with hk | hk
  · subst hk
    refine v_aload_n (n := 1) xB_27 dX4_sideOf_0 rfl rfl ?_
    refine v_gf_s (n := 4) (kz := 0) xB_27 dX4_sideOf_1 xO_27 fl_4_9 fg_4_0 (sh_P hp _ _ _) rfl (st_P hp) rfl ?_
    refine v_iload_n (n := 5) xB_27 dX4_sideOf_4 rfl rfl ?_
    refine v_iaload (n := 6) (lz := 12) xB_27 dX4_sideOf_5 (sh_PA hp _ _ _) rfl (by first | omega | (simp only [sA_same, sA_s, ud_s, Int.reduceEq, if_true, if_false, ite_true, ite_false, ↓reduceIte, and_true, true_and, eq_self, Int.add_zero, Int.reduceAdd]; omega)) rfl ?_
    refine v_iload_n (n := 7) xB_27 dX4_sideOf_6 rfl rfl ?_
    refine v_bipush (n := 9) xB_27 dX4_sideOf_7 ⟨by decide, by decide⟩ rfl ?_
    refine v_imul (n := 10) xB_27 dX4_sideOf_9 (by first | omega | (simp only [sA_same, sA_s, ud_s, Int.reduceEq, if_true, if_false, ite_true, ite_false, ↓reduceIte, and_true, true_and, eq_self, Int.add_zero, Int.reduceAdd]; omega)) rfl ?_
    refine v_ishr (n := 11) xB_27 dX4_sideOf_10 (p := 1) (by decide) ⟨by omega, by omega, by omega⟩ rfl ?_
    refine v_sipush (n := 14) xB_27 dX4_sideOf_11 ⟨by decide, by decide⟩ rfl ?_
    refine v_iand_e (n := 15) xB_27 dX4_sideOf_14 (z := m (p + 1) a % 256) ((congrArg (fun z => iAnd z 255) (Int.ediv_one _)).trans (iA255 (by omega) (by omega))) rfl ?_
    refine v_ireturn0 xB_27 dX4_sideOf_15 xK_27 ?_
    exact o1
  · subst hk
    refine v_aload_n (n := 1) xB_27 dX4_sideOf_0 rfl rfl ?_
    refine v_gf_s (n := 4) (kz := 0) xB_27 dX4_sideOf_1 xO_27 fl_4_9 fg_4_0 (sh_P hp _ _ _) rfl (st_P hp) rfl ?_
    refine v_iload_n (n := 5) xB_27 dX4_sideOf_4 rfl rfl ?_
    refine v_iaload (n := 6) (lz := 12) xB_27 dX4_sideOf_5 (sh_PA hp _ _ _) rfl (by first | omega | (simp only [sA_same, sA_s, ud_s, Int.reduceEq, if_true, if_false, ite_true, ite_false, ↓reduceIte, and_true, true_and, eq_self, Int.add_zero, Int.reduceAdd]; omega)) rfl ?_
    refine v_iload_n (n := 7) xB_27 dX4_sideOf_6 rfl rfl ?_
    refine v_bipush (n := 9) xB_27 dX4_sideOf_7 ⟨by decide, by decide⟩ rfl ?_
    refine v_imul (n := 10) xB_27 dX4_sideOf_9 (by first | omega | (simp only [sA_same, sA_s, ud_s, Int.reduceEq, if_true, if_false, ite_true, ite_false, ↓reduceIte, and_true, true_and, eq_self, Int.add_zero, Int.reduceAdd]; omega)) rfl ?_
    refine v_ishr (n := 11) xB_27 dX4_sideOf_10 (p := 256) (by decide) ⟨by omega, by omega, by omega⟩ rfl ?_
    refine v_sipush (n := 14) xB_27 dX4_sideOf_11 ⟨by decide, by decide⟩ rfl ?_
    refine v_iand_e (n := 15) xB_27 dX4_sideOf_14 (z := m (p + 1) a / 256) ((iA255 (by omega) (by omega)).trans (by omega)) rfl ?_
    refine v_ireturn0 xB_27 dX4_sideOf_15 xK_27 ?_
    exact o1
