/-! The class: a pile of sheets. -/
def okc (f : Int → Int) : Prop := ∀ s, okS (f s)
theorem okc_ud {f : Int → Int} (h : okc f) {z : Int} (hz : okS z) (k : Int) : okc (ud f k z) := by
  intro j; unfold ud; split
  · exact hz
  · exact h j
theorem okc_ivl {f g : Int → Int} (hf : okc f) (hg : okc g) (a b : Int) : okc (ivl f g a b) := by
  intro j; unfold ivl; split
  · exact hf j
  · exact hg j
def sdF (x k : Int) : Int := if k = 0 then x % 256 else x / 256
def ponF (N a k : Int) (c : Int → Int) : Int := if 0 ≤ a ∧ a < N then (if k = 0 then c a % 128 else c a / 256 % 128) else 0
theorem ponF_pgk {N a k : Int} {c : Int → Int} (h : 0 ≤ a ∧ a < N) (hk : k = 0 ∨ k = 1) : ponF N a k c = pgk c (2 * a + k) := by
  unfold ponF pgk; rw [if_pos h]
  rcases hk with rfl | rfl
  · rw [if_pos rfl, if_pos (by omega), show (2 * a + 0) / 2 = a by omega]
  · rw [if_neg (by omega), if_neg (by omega), show (2 * a + 1) / 2 = a by omega]
def mxF (x y : Int) : Int := if x < y then y else x
def mnF (x y : Int) : Int := if y < x then y else x
def mirC (f : Int → Int) (N s : Int) : Int → Int := fun j => if 0 ≤ j ∧ j < N ∧ (j < s ∨ N - s ≤ j) then ovF (f (N - 1 - j)) else f j
theorem mirC_0 (f : Int → Int) (N : Int) : mirC f N 0 = f := by
  funext j; unfold mirC; rw [if_neg (by omega)]
theorem okc_mirC {f : Int → Int} (h : okc f) (N s : Int) : okc (mirC f N s) := by
  intro j; unfold mirC; split
  · exact ovF_ok (h _)
  · exact h _
set_option maxHeartbeats 1000000 in
theorem k_over {d : Nat} {s : Int} {σ : PS} {Q : Option PV → PS → Prop} (hd : 1 ≤ d) (hs : okS s) (o1 : Q (some (.inl (ovF s))) σ) : C d 25 [.inl s] σ Q := by
  refine C_go (k := 0) hd xL_25 (fun d hd => ?_)
  show V d 25 (0, ([some (.inl s)], ([], σ))) Q
  unfold okS at hs
  refine v_iload_n (n := 1) xB_25 dX4_over_0 rfl rfl ?_
  refine v_bipush (n := 3) xB_25 dX4_over_1 ⟨by decide, by decide⟩ rfl ?_
  refine v_ishr (n := 4) (p := 256) xB_25 dX4_over_3 (by decide) (by first | omega | (simp only [sA_same, sA_s, ud_s, Int.reduceEq, if_true, if_false, ite_true, ite_false, ↓reduceIte, and_true, true_and, eq_self, Int.add_zero, Int.reduceAdd]; omega)) rfl ?_
  refine v_iload_n (n := 5) xB_25 dX4_over_4 rfl rfl ?_
  refine v_sipush (n := 8) xB_25 dX4_over_5 ⟨by decide, by decide⟩ rfl ?_
  refine v_iand_e (n := 9) xB_25 dX4_over_8 (z := s % 256) (iA255 (by omega) (by omega)) rfl ?_
  refine v_bipush (n := 11) xB_25 dX4_over_9 ⟨by decide, by decide⟩ rfl ?_
  refine v_ishl (n := 12) (p := 256) xB_25 dX4_over_11 (by decide) (by first | omega | (simp only [sA_same, sA_s, ud_s, Int.reduceEq, if_true, if_false, ite_true, ite_false, ↓reduceIte, and_true, true_and, eq_self, Int.add_zero, Int.reduceAdd]; omega)) rfl ?_
  refine v_ior_e (n := 13) xB_25 dX4_over_12 (z := s / 256 + 256 * (s % 256)) (iOhl (by omega) (by omega) (by omega) (by omega)) rfl ?_
  refine v_ireturn0 xB_25 dX4_over_13 xK_25 ?_
  exact o1
set_option maxHeartbeats 1000000 in
theorem k_about {d : Nat} {s : Int} {σ : PS} {Q : Option PV → PS → Prop} (hd : 1 ≤ d) (hs : okS s) (o1 : Q (some (.inl (abt s))) σ) : C d 26 [.inl s] σ Q := by
  refine C_go (k := 0) hd xL_26 (fun d hd => ?_)
  show V d 26 (0, ([some (.inl s)], ([], σ))) Q
  unfold okS at hs
  refine v_iload_n (n := 1) xB_26 dX4_about_0 rfl rfl ?_
  refine v_ldc_i (n := 3) xB_26 dX4_about_1 xO_26 lc_4_25 rfl ?_
  refine v_ixor_e (n := 4) xB_26 dX4_about_3 (z := abt s) (iXabt (by omega) (by omega)) rfl ?_
  refine v_ireturn0 xB_26 dX4_about_4 xK_26 ?_
  exact o1
set_option maxHeartbeats 1000000 in
theorem k_sideOf {d : Nat} {p a k : Int} {m : PM} {dy : List (Nat × Nat)} {L : Nat} {Q : Option PV → PS → Prop} (hd : 1 ≤ d) (hp : pilA p) (ha : 0 ≤ a ∧ a < 12) (hk : k = 0 ∨ k = 1) (hc : okc (m (p + 1))) (o1 : Q (some (.inl (sdF (m (p + 1) a) k))) (m, (none, (dy, L)))) : C d 27 [.inr (.inr p), .inl a, .inl k] (m, (none, (dy, L))) Q := by
  refine C_go (k := 0) hd xL_27 (fun d hd => ?_)
  show V d 27 (0, ([some (.inr (.inr p)), some (.inl a), some (.inl k)], ([], (m, (none, (dy, L)))))) Q
  have hpd : p = 2 ∨ p = 28 ∨ p = 62 ∨ p = 64 := hp
  have q1 := hc a
  unfold okS at q1
  rcases hk with hk | hk
  · subst hk
    refine v_aload_n (n := 1) xB_27 dX4_sideOf_0 rfl rfl ?_
    refine v_gf_s (n := 4) (kz := 0) xB_27 dX4_sideOf_1 xO_27 fl_4_9 fg_4_0 (sh_P hp _ _ _) rfl (st_P hp) rfl ?_
    refine v_iload_n (n := 5) xB_27 dX4_sideOf_4 rfl rfl ?_
    refine v_iaload (n := 6) (lz := 12) xB_27 dX4_sideOf_5 (sh_PA hp _ _ _) rfl (by first | omega | (simp only [sA_same, sA_s, ud_s, Int.reduceEq, if_true, if_false, ite_true, ite_false, ↓reduceIte, and_true, true_and, eq_self, Int.add_zero, Int.reduceAdd]; omega)) rfl ?_
    refine v_iload_n (n := 7) xB_27 dX4_sideOf_6 rfl rfl ?_
    refine v_bipush (n := 9) xB_27 dX4_sideOf_7 ⟨by decide, by decide⟩ rfl ?_
    refine v_imul (n := 10) xB_27 dX4_sideOf_9 (by first | omega | (simp only [sA_same, sA_s, ud_s, Int.reduceEq, if_true, if_false, ite_true, ite_false, ↓reduceIte, and_true, true_and, eq_self, Int.add_zero, Int.reduceAdd]; omega)) rfl ?_
    refine v_ishr (n := 11) xB_27 dX4_sideOf_10 (p := 1) (by decide) ⟨by omega, by omega, by omega⟩ rfl ?_
    refine v_sipush (n := 14) xB_27 dX4_sideOf_11 ⟨by decide, by decide⟩ rfl ?_
    refine v_iand_e (n := 15) xB_27 dX4_sideOf_14 (z := m (p + 1) a % 256) ((congrArg (fun z => iAnd z 255) (Int.ediv_one _)).trans (iA255 (by omega) (by omega))) rfl ?_
    refine v_ireturn0 xB_27 dX4_sideOf_15 xK_27 ?_
    exact o1
  · subst hk
    refine v_aload_n (n := 1) xB_27 dX4_sideOf_0 rfl rfl ?_
    refine v_gf_s (n := 4) (kz := 0) xB_27 dX4_sideOf_1 xO_27 fl_4_9 fg_4_0 (sh_P hp _ _ _) rfl (st_P hp) rfl ?_
    refine v_iload_n (n := 5) xB_27 dX4_sideOf_4 rfl rfl ?_
    refine v_iaload (n := 6) (lz := 12) xB_27 dX4_sideOf_5 (sh_PA hp _ _ _) rfl (by first | omega | (simp only [sA_same, sA_s, ud_s, Int.reduceEq, if_true, if_false, ite_true, ite_false, ↓reduceIte, and_true, true_and, eq_self, Int.add_zero, Int.reduceAdd]; omega)) rfl ?_
    refine v_iload_n (n := 7) xB_27 dX4_sideOf_6 rfl rfl ?_
    refine v_bipush (n := 9) xB_27 dX4_sideOf_7 ⟨by decide, by decide⟩ rfl ?_
    refine v_imul (n := 10) xB_27 dX4_sideOf_9 (by first | omega | (simp only [sA_same, sA_s, ud_s, Int.reduceEq, if_true, if_false, ite_true, ite_false, ↓reduceIte, and_true, true_and, eq_self, Int.add_zero, Int.reduceAdd]; omega)) rfl ?_
    refine v_ishr (n := 11) xB_27 dX4_sideOf_10 (p := 256) (by decide) ⟨by omega, by omega, by omega⟩ rfl ?_
    refine v_sipush (n := 14) xB_27 dX4_sideOf_11 ⟨by decide, by decide⟩ rfl ?_
    refine v_iand_e (n := 15) xB_27 dX4_sideOf_14 (z := m (p + 1) a / 256) ((iA255 (by omega) (by omega)).trans (by omega)) rfl ?_
    refine v_ireturn0 xB_27 dX4_sideOf_15 xK_27 ?_
    exact o1
set_option maxHeartbeats 1000000 in
theorem k_pageOn {d : Nat} {p a k : Int} {m : PM} {dy : List (Nat × Nat)} {L : Nat} {Q : Option PV → PS → Prop} (hd : 2 ≤ d) (hp : pilA p) (hN : 0 ≤ m p 1 ∧ m p 1 ≤ 12) (hk : k = 0 ∨ k = 1) (hc : okc (m (p + 1))) (o1 : Q (some (.inl (ponF (m p 1) a k (m (p + 1))))) (m, (none, (dy, L)))) : C d 28 [.inr (.inr p), .inl a, .inl k] (m, (none, (dy, L))) Q := by
  refine C_go (k := 1) hd xL_28 (fun d hd => ?_)
  show V d 28 (0, ([some (.inr (.inr p)), some (.inl a), some (.inl k)], ([], (m, (none, (dy, L)))))) Q
  have hpd : p = 2 ∨ p = 28 ∨ p = 62 ∨ p = 64 := hp
  have q1 := hc a
  unfold okS at q1
  have e0 : sdF (m (p + 1) a) 0 = m (p + 1) a % 256 := rfl
  have e1 : sdF (m (p + 1) a) 1 = m (p + 1) a / 256 := rfl
  rcases hk with hk | hk
  · subst hk
    refine v_iload_n (n := 1) xB_28 dX4_pageOn_0 rfl rfl ?_
    refine v_if_lt (t := 12) (n := 4) xB_28 dX4_pageOn_1 (by decide) rfl rfl (fun g1 => ?_) (fun g1 => ?_)
    · refine v_iconst (n := 13) xB_28 dX4_pageOn_12 ⟨by decide, by decide⟩ rfl ?_
      refine v_goto (t := 25) xB_28 dX4_pageOn_13 (by decide) rfl ?_
      refine v_ireturn0 xB_28 dX4_pageOn_25 xK_28 ?_
      unfold ponF at o1
      first | (rw [if_pos (by omega)] at o1; exact o1) | (rw [if_neg (by omega)] at o1; exact o1)
    · refine v_iload_n (n := 5) xB_28 dX4_pageOn_4 rfl rfl ?_
      refine v_aload_n (n := 6) xB_28 dX4_pageOn_5 rfl rfl ?_
      refine v_gf_i (n := 9) (kz := 1) xB_28 dX4_pageOn_6 xO_28 fl_4_21 fg_4_1 rfl (sh_P hp _ _ _) rfl rfl ?_
      refine v_ic_lt (t := 16) (n := 12) xB_28 dX4_pageOn_9 (by decide) rfl rfl (fun g2 => ?_) (fun g2 => ?_)
      · refine v_aload_n (n := 17) xB_28 dX4_pageOn_16 rfl rfl ?_
        refine v_iload_n (n := 18) xB_28 dX4_pageOn_17 rfl rfl ?_
        refine v_iload_n (n := 19) xB_28 dX4_pageOn_18 rfl rfl ?_
        refine v_call_v (n := 22) xB_28 dX4_pageOn_19 xO_28 iv_4_26 rfl (sh_P hp _ _ _) rfl rfl rfl ?_
        refine k_sideOf (by omega) hp (by first | omega | (simp only [sA_same, sA_s, ud_s, Int.reduceEq, if_true, if_false, ite_true, ite_false, ↓reduceIte, and_true, true_and, eq_self, Int.add_zero, Int.reduceAdd]; omega)) (by omega) hc ?_
        refine v_bipush (n := 24) xB_28 dX4_pageOn_22 ⟨by decide, by decide⟩ rfl ?_
        refine v_iand_e (n := 25) xB_28 dX4_pageOn_24 (z := m (p + 1) a % 128) ((iA127 (by omega) (by omega)).trans (by omega)) rfl ?_
        refine v_ireturn0 xB_28 dX4_pageOn_25 xK_28 ?_
        unfold ponF at o1
        first | (rw [if_pos (by omega)] at o1; exact o1) | (rw [if_neg (by omega)] at o1; exact o1)
      · refine v_iconst (n := 13) xB_28 dX4_pageOn_12 ⟨by decide, by decide⟩ rfl ?_
        refine v_goto (t := 25) xB_28 dX4_pageOn_13 (by decide) rfl ?_
        refine v_ireturn0 xB_28 dX4_pageOn_25 xK_28 ?_
        unfold ponF at o1
        first | (rw [if_pos (by omega)] at o1; exact o1) | (rw [if_neg (by omega)] at o1; exact o1)
  · subst hk
    refine v_iload_n (n := 1) xB_28 dX4_pageOn_0 rfl rfl ?_
    refine v_if_lt (t := 12) (n := 4) xB_28 dX4_pageOn_1 (by decide) rfl rfl (fun g1 => ?_) (fun g1 => ?_)
    · refine v_iconst (n := 13) xB_28 dX4_pageOn_12 ⟨by decide, by decide⟩ rfl ?_
      refine v_goto (t := 25) xB_28 dX4_pageOn_13 (by decide) rfl ?_
      refine v_ireturn0 xB_28 dX4_pageOn_25 xK_28 ?_
      unfold ponF at o1
      first | (rw [if_pos (by omega)] at o1; exact o1) | (rw [if_neg (by omega)] at o1; exact o1)
    · refine v_iload_n (n := 5) xB_28 dX4_pageOn_4 rfl rfl ?_
      refine v_aload_n (n := 6) xB_28 dX4_pageOn_5 rfl rfl ?_
      refine v_gf_i (n := 9) (kz := 1) xB_28 dX4_pageOn_6 xO_28 fl_4_21 fg_4_1 rfl (sh_P hp _ _ _) rfl rfl ?_
      refine v_ic_lt (t := 16) (n := 12) xB_28 dX4_pageOn_9 (by decide) rfl rfl (fun g2 => ?_) (fun g2 => ?_)
      · refine v_aload_n (n := 17) xB_28 dX4_pageOn_16 rfl rfl ?_
        refine v_iload_n (n := 18) xB_28 dX4_pageOn_17 rfl rfl ?_
        refine v_iload_n (n := 19) xB_28 dX4_pageOn_18 rfl rfl ?_
        refine v_call_v (n := 22) xB_28 dX4_pageOn_19 xO_28 iv_4_26 rfl (sh_P hp _ _ _) rfl rfl rfl ?_
        refine k_sideOf (by omega) hp (by first | omega | (simp only [sA_same, sA_s, ud_s, Int.reduceEq, if_true, if_false, ite_true, ite_false, ↓reduceIte, and_true, true_and, eq_self, Int.add_zero, Int.reduceAdd]; omega)) (by omega) hc ?_
        refine v_bipush (n := 24) xB_28 dX4_pageOn_22 ⟨by decide, by decide⟩ rfl ?_
        refine v_iand_e (n := 25) xB_28 dX4_pageOn_24 (z := m (p + 1) a / 256 % 128) ((iA127 (by omega) (by omega)).trans (by omega)) rfl ?_
        refine v_ireturn0 xB_28 dX4_pageOn_25 xK_28 ?_
        unfold ponF at o1
        first | (rw [if_pos (by omega)] at o1; exact o1) | (rw [if_neg (by omega)] at o1; exact o1)
      · refine v_iconst (n := 13) xB_28 dX4_pageOn_12 ⟨by decide, by decide⟩ rfl ?_
        refine v_goto (t := 25) xB_28 dX4_pageOn_13 (by decide) rfl ?_
        refine v_ireturn0 xB_28 dX4_pageOn_25 xK_28 ?_
        unfold ponF at o1
        first | (rw [if_pos (by omega)] at o1; exact o1) | (rw [if_neg (by omega)] at o1; exact o1)
set_option maxHeartbeats 1000000 in
theorem k_isDown {d : Nat} {p a k : Int} {m : PM} {dy : List (Nat × Nat)} {L : Nat} {Q : Option PV → PS → Prop} (hd : 2 ≤ d) (hp : pilA p) (ha : 0 ≤ a ∧ a < 12) (hk : k = 0 ∨ k = 1) (hc : okc (m (p + 1))) (o1 : (sdF (m (p + 1) a) k / 128 % 2 = 1) → Q (some (.inl 1)) (m, (none, (dy, L)))) (o2 : (¬ (sdF (m (p + 1) a) k / 128 % 2 = 1)) → Q (some (.inl 0)) (m, (none, (dy, L)))) : C d 29 [.inr (.inr p), .inl a, .inl k] (m, (none, (dy, L))) Q := by
  refine C_go (k := 1) hd xL_29 (fun d hd => ?_)
  show V d 29 (0, ([some (.inr (.inr p)), some (.inl a), some (.inl k)], ([], (m, (none, (dy, L)))))) Q
  have hpd : p = 2 ∨ p = 28 ∨ p = 62 ∨ p = 64 := hp
  have q1 := hc a
  unfold okS at q1
  have q2 : 0 ≤ sdF (m (p + 1) a) k ∧ sdF (m (p + 1) a) k < 256 := by unfold sdF; split <;> omega
  refine v_aload_n (n := 1) xB_29 dX4_isDown_0 rfl rfl ?_
  refine v_iload_n (n := 2) xB_29 dX4_isDown_1 rfl rfl ?_
  refine v_iload_n (n := 3) xB_29 dX4_isDown_2 rfl rfl ?_
  refine v_call_v (n := 6) xB_29 dX4_isDown_3 xO_29 iv_4_26 rfl (sh_P hp _ _ _) rfl rfl rfl ?_
  refine k_sideOf (by omega) hp (by first | omega | (simp only [sA_same, sA_s, ud_s, Int.reduceEq, if_true, if_false, ite_true, ite_false, ↓reduceIte, and_true, true_and, eq_self, Int.add_zero, Int.reduceAdd]; omega)) (by omega) hc ?_
  refine v_sipush (n := 9) xB_29 dX4_isDown_6 ⟨by decide, by decide⟩ rfl ?_
  refine v_iand_e (n := 10) xB_29 dX4_isDown_9 (z := 128 * (sdF (m (p + 1) a) k / 128 % 2)) (iA128 (by omega) (by omega)) rfl ?_
  refine v_if_eq (t := 17) (n := 13) xB_29 dX4_isDown_10 (by decide) rfl rfl (fun g1 => ?_) (fun g1 => ?_)
  · refine v_iconst (n := 18) xB_29 dX4_isDown_17 ⟨by decide, by decide⟩ rfl ?_
    refine v_ireturn1 xB_29 dX4_isDown_18 xK_29 (by decide) ?_
    first | exact o1 (by first | omega | (simp only [sA_same, sA_s, ud_s, Int.reduceEq, if_true, if_false, ite_true, ite_false, ↓reduceIte, and_true, true_and, eq_self, Int.add_zero, Int.reduceAdd]; omega)) | exact o2 (by first | omega | (simp only [sA_same, sA_s, ud_s, Int.reduceEq, if_true, if_false, ite_true, ite_false, ↓reduceIte, and_true, true_and, eq_self, Int.add_zero, Int.reduceAdd]; omega))
  · refine v_iconst (n := 14) xB_29 dX4_isDown_13 ⟨by decide, by decide⟩ rfl ?_
    refine v_goto (t := 18) xB_29 dX4_isDown_14 (by decide) rfl ?_
    refine v_ireturn1 xB_29 dX4_isDown_18 xK_29 (by decide) ?_
    first | exact o1 (by first | omega | (simp only [sA_same, sA_s, ud_s, Int.reduceEq, if_true, if_false, ite_true, ite_false, ↓reduceIte, and_true, true_and, eq_self, Int.add_zero, Int.reduceAdd]; omega)) | exact o2 (by first | omega | (simp only [sA_same, sA_s, ud_s, Int.reduceEq, if_true, if_false, ite_true, ite_false, ↓reduceIte, and_true, true_and, eq_self, Int.add_zero, Int.reduceAdd]; omega))
set_option maxHeartbeats 1000000 in
theorem k_isRight {d : Nat} {p a : Int} {m : PM} {dy : List (Nat × Nat)} {L : Nat} {Q : Option PV → PS → Prop} (hd : 2 ≤ d) (hp : pilA p) (ha : 0 ≤ a ∧ a < 12) (hc : okc (m (p + 1))) (o1 : (m (p + 1) a = 2 * a + 1 + 256 * (2 * a + 2)) → Q (some (.inl 1)) (m, (none, (dy, L)))) (o2 : (¬ (m (p + 1) a = 2 * a + 1 + 256 * (2 * a + 2))) → Q (some (.inl 0)) (m, (none, (dy, L)))) : C d 30 [.inr (.inr p), .inl a] (m, (none, (dy, L))) Q := by
  refine C_go (k := 1) hd xL_30 (fun d hd => ?_)
  show V d 30 (0, ([some (.inr (.inr p)), some (.inl a)], ([], (m, (none, (dy, L)))))) Q
  have hpd : p = 2 ∨ p = 28 ∨ p = 62 ∨ p = 64 := hp
  have q1 := hc a
  unfold okS at q1
  have e0 : sdF (m (p + 1) a) 0 = m (p + 1) a % 256 := rfl
  have e1 : sdF (m (p + 1) a) 1 = m (p + 1) a / 256 := rfl
  refine v_aload_n (n := 1) xB_30 dX4_isRight_0 rfl rfl ?_
  refine v_iload_n (n := 2) xB_30 dX4_isRight_1 rfl rfl ?_
  refine v_iconst (n := 3) xB_30 dX4_isRight_2 ⟨by decide, by decide⟩ rfl ?_
  refine v_call_v (n := 6) xB_30 dX4_isRight_3 xO_30 iv_4_26 rfl (sh_P hp _ _ _) rfl rfl rfl ?_
  refine k_sideOf (by omega) hp (by first | omega | (simp only [sA_same, sA_s, ud_s, Int.reduceEq, if_true, if_false, ite_true, ite_false, ↓reduceIte, and_true, true_and, eq_self, Int.add_zero, Int.reduceAdd]; omega)) (by omega) hc ?_
  refine v_iconst (n := 7) xB_30 dX4_isRight_6 ⟨by decide, by decide⟩ rfl ?_
  refine v_iload_n (n := 8) xB_30 dX4_isRight_7 rfl rfl ?_
  refine v_imul (n := 9) xB_30 dX4_isRight_8 (by first | omega | (simp only [sA_same, sA_s, ud_s, Int.reduceEq, if_true, if_false, ite_true, ite_false, ↓reduceIte, and_true, true_and, eq_self, Int.add_zero, Int.reduceAdd]; omega)) rfl ?_
  refine v_iconst (n := 10) xB_30 dX4_isRight_9 ⟨by decide, by decide⟩ rfl ?_
  refine v_iadd (n := 11) xB_30 dX4_isRight_10 (by first | omega | (simp only [sA_same, sA_s, ud_s, Int.reduceEq, if_true, if_false, ite_true, ite_false, ↓reduceIte, and_true, true_and, eq_self, Int.add_zero, Int.reduceAdd]; omega)) rfl ?_
  refine v_ic_ne (t := 32) (n := 14) xB_30 dX4_isRight_11 (by decide) rfl rfl (fun g1 => ?_) (fun g1 => ?_)
  · refine v_iconst (n := 33) xB_30 dX4_isRight_32 ⟨by decide, by decide⟩ rfl ?_
    refine v_ireturn1 xB_30 dX4_isRight_33 xK_30 (by decide) ?_
    first | exact o1 (by first | omega | (simp only [sA_same, sA_s, ud_s, Int.reduceEq, if_true, if_false, ite_true, ite_false, ↓reduceIte, and_true, true_and, eq_self, Int.add_zero, Int.reduceAdd]; omega)) | exact o2 (by first | omega | (simp only [sA_same, sA_s, ud_s, Int.reduceEq, if_true, if_false, ite_true, ite_false, ↓reduceIte, and_true, true_and, eq_self, Int.add_zero, Int.reduceAdd]; omega))
  · refine v_aload_n (n := 15) xB_30 dX4_isRight_14 rfl rfl ?_
    refine v_iload_n (n := 16) xB_30 dX4_isRight_15 rfl rfl ?_
    refine v_iconst (n := 17) xB_30 dX4_isRight_16 ⟨by decide, by decide⟩ rfl ?_
    refine v_call_v (n := 20) xB_30 dX4_isRight_17 xO_30 iv_4_26 rfl (sh_P hp _ _ _) rfl rfl rfl ?_
    refine k_sideOf (by omega) hp (by first | omega | (simp only [sA_same, sA_s, ud_s, Int.reduceEq, if_true, if_false, ite_true, ite_false, ↓reduceIte, and_true, true_and, eq_self, Int.add_zero, Int.reduceAdd]; omega)) (by omega) hc ?_
    refine v_iconst (n := 21) xB_30 dX4_isRight_20 ⟨by decide, by decide⟩ rfl ?_
    refine v_iload_n (n := 22) xB_30 dX4_isRight_21 rfl rfl ?_
    refine v_imul (n := 23) xB_30 dX4_isRight_22 (by first | omega | (simp only [sA_same, sA_s, ud_s, Int.reduceEq, if_true, if_false, ite_true, ite_false, ↓reduceIte, and_true, true_and, eq_self, Int.add_zero, Int.reduceAdd]; omega)) rfl ?_
    refine v_iconst (n := 24) xB_30 dX4_isRight_23 ⟨by decide, by decide⟩ rfl ?_
    refine v_iadd (n := 25) xB_30 dX4_isRight_24 (by first | omega | (simp only [sA_same, sA_s, ud_s, Int.reduceEq, if_true, if_false, ite_true, ite_false, ↓reduceIte, and_true, true_and, eq_self, Int.add_zero, Int.reduceAdd]; omega)) rfl ?_
    refine v_ic_ne (t := 32) (n := 28) xB_30 dX4_isRight_25 (by decide) rfl rfl (fun g2 => ?_) (fun g2 => ?_)
    · refine v_iconst (n := 33) xB_30 dX4_isRight_32 ⟨by decide, by decide⟩ rfl ?_
      refine v_ireturn1 xB_30 dX4_isRight_33 xK_30 (by decide) ?_
      first | exact o1 (by first | omega | (simp only [sA_same, sA_s, ud_s, Int.reduceEq, if_true, if_false, ite_true, ite_false, ↓reduceIte, and_true, true_and, eq_self, Int.add_zero, Int.reduceAdd]; omega)) | exact o2 (by first | omega | (simp only [sA_same, sA_s, ud_s, Int.reduceEq, if_true, if_false, ite_true, ite_false, ↓reduceIte, and_true, true_and, eq_self, Int.add_zero, Int.reduceAdd]; omega))
    · refine v_iconst (n := 29) xB_30 dX4_isRight_28 ⟨by decide, by decide⟩ rfl ?_
      refine v_goto (t := 33) xB_30 dX4_isRight_29 (by decide) rfl ?_
      refine v_ireturn1 xB_30 dX4_isRight_33 xK_30 (by decide) ?_
      first | exact o1 (by first | omega | (simp only [sA_same, sA_s, ud_s, Int.reduceEq, if_true, if_false, ite_true, ite_false, ↓reduceIte, and_true, true_and, eq_self, Int.add_zero, Int.reduceAdd]; omega)) | exact o2 (by first | omega | (simp only [sA_same, sA_s, ud_s, Int.reduceEq, if_true, if_false, ite_true, ite_false, ↓reduceIte, and_true, true_and, eq_self, Int.add_zero, Int.reduceAdd]; omega))
set_option maxHeartbeats 1000000 in
theorem k_rights {d : Nat} {p : Int} {m : PM} {dy : List (Nat × Nat)} {L : Nat} {Q : Option PV → PS → Prop} (hd : 3 ≤ d) (hp : pilA p) (hN : 0 ≤ m p 1 ∧ m p 1 ≤ 12) (hc : okc (m (p + 1))) (o1 : Q (some (.inl (rtF (m p 1) (m (p + 1))))) (m, (none, (dy, L)))) : C d 31 [.inr (.inr p)] (m, (none, (dy, L))) Q := by
  refine C_go (k := 2) hd xL_31 (fun d hd => ?_)
  show V d 31 (0, ([some (.inr (.inr p)), none, none], ([], (m, (none, (dy, L)))))) Q
  have hpd : p = 2 ∨ p = 28 ∨ p = 62 ∨ p = 64 := hp
  refine v_iconst (n := 1) xB_31 dX4_rights_0 ⟨by decide, by decide⟩ rfl ?_
  refine v_istore_n1 (n := 2) xB_31 dX4_rights_1 rfl rfl ?_
  refine v_iconst (n := 3) xB_31 dX4_rights_2 ⟨by decide, by decide⟩ rfl ?_
  refine v_istore_n2 (n := 4) xB_31 dX4_rights_3 rfl rfl ?_
  refine lp_up (F := fun (k : Int) (m' : PM) => ∀ z : Int, z = sm (fun i => if m (p + 1) i = 2 * i + 1 + 256 * (2 * i + 2) then 1 else 0) (k : Int).toNat → V d 31 (4, ([some (.inr (.inr p)), some (.inl z), some (.inl (k))], ([], (m', (none, (dy, L)))))) Q) (E := fun (k : Int) (m' : PM) => m = m') (a := 0) (b := m p 1) ?_ ?_ (0) (m) (by first | omega | (simp only [sA_same, sA_s, ud_s, Int.reduceEq, if_true, if_false, ite_true, ite_false, ↓reduceIte, and_true, true_and, eq_self, Int.add_zero, Int.reduceAdd]; omega)) (by first | omega | (simp only [sA_same, sA_s, ud_s, Int.reduceEq, if_true, if_false, ite_true, ite_false, ↓reduceIte, and_true, true_and, eq_self, Int.add_zero, Int.reduceAdd]; omega)) ?_ _ rfl
  · intro m' hm  z hz
    show V d 31 (4, ([some (.inr (.inr p)), some (.inl z), some (.inl (m p 1))], ([], (m', (none, (dy, L)))))) Q
    subst hm
    refine v_iload_n (n := 5) xB_31 dX4_rights_4 rfl rfl ?_
    refine v_aload_n (n := 6) xB_31 dX4_rights_5 rfl rfl ?_
    refine v_gf_i (n := 9) (kz := 1) xB_31 dX4_rights_6 xO_31 fl_4_21 fg_4_1 rfl (sh_P hp _ _ _) rfl rfl ?_
    refine v_ic_ge_y (t := 29) xB_31 dX4_rights_9 (by decide) rfl (by first | omega | (simp only [sA_same, sA_s, ud_s, Int.reduceEq, if_true, if_false, ite_true, ite_false, ↓reduceIte, and_true, true_and, eq_self, Int.add_zero, Int.reduceAdd]; omega)) ?_
    refine v_iload_n (n := 30) xB_31 dX4_rights_29 rfl rfl ?_
    refine v_ireturn0 xB_31 dX4_rights_30 xK_31 ?_
    subst hz
    exact o1
  · intro k m' h1 h2 hm ih  z hz
    show V d 31 (4, ([some (.inr (.inr p)), some (.inl z), some (.inl (k))], ([], (m', (none, (dy, L)))))) Q
    subst hm
    have q5 := rt_in (m (p + 1)) k.toNat
    refine v_iload_n (n := 5) xB_31 dX4_rights_4 rfl rfl ?_
    refine v_aload_n (n := 6) xB_31 dX4_rights_5 rfl rfl ?_
    refine v_gf_i (n := 9) (kz := 1) xB_31 dX4_rights_6 xO_31 fl_4_21 fg_4_1 rfl (sh_P hp _ _ _) rfl rfl ?_
    refine v_ic_ge_n (n := 12) xB_31 dX4_rights_9 (by decide) rfl (by first | omega | (simp only [sA_same, sA_s, ud_s, Int.reduceEq, if_true, if_false, ite_true, ite_false, ↓reduceIte, and_true, true_and, eq_self, Int.add_zero, Int.reduceAdd]; omega)) ?_
    refine v_aload_n (n := 13) xB_31 dX4_rights_12 rfl rfl ?_
    refine v_iload_n (n := 14) xB_31 dX4_rights_13 rfl rfl ?_
    refine v_call_v (n := 17) xB_31 dX4_rights_14 xO_31 iv_4_30 rfl (sh_P hp _ _ _) rfl rfl rfl ?_
    refine k_isRight (by omega) hp (by first | omega | (simp only [sA_same, sA_s, ud_s, Int.reduceEq, if_true, if_false, ite_true, ite_false, ↓reduceIte, and_true, true_and, eq_self, Int.add_zero, Int.reduceAdd]; omega)) hc (fun g1 => ?_) (fun g2 => ?_)
    · refine v_if_eq_n (n := 20) xB_31 dX4_rights_17 (by decide) rfl (by decide) ?_
      refine v_iinc1 (n := 23) xB_31 dX4_rights_20 rfl (by first | omega | (simp only [sA_same, sA_s, ud_s, Int.reduceEq, if_true, if_false, ite_true, ite_false, ↓reduceIte, and_true, true_and, eq_self, Int.add_zero, Int.reduceAdd]; omega)) rfl ?_
      refine v_iinc2 (n := 26) xB_31 dX4_rights_23 rfl (by first | omega | (simp only [sA_same, sA_s, ud_s, Int.reduceEq, if_true, if_false, ite_true, ite_false, ↓reduceIte, and_true, true_and, eq_self, Int.add_zero, Int.reduceAdd]; omega)) rfl ?_
      refine v_goto (t := 4) xB_31 dX4_rights_26 (by decide) rfl ?_
      have hz2 := sm_s (f := fun i => if m (p + 1) i = 2 * i + 1 + 256 * (2 * i + 2) then 1 else 0) (k := k) (by omega)
      first | rw [if_pos (by assumption)] at hz2 | rw [if_neg (by assumption)] at hz2
      exact ih _ rfl _ (by omega)
    · refine v_if_eq_y (t := 23) xB_31 dX4_rights_17 (by decide) rfl (by decide) ?_
      refine v_iinc2 (n := 26) xB_31 dX4_rights_23 rfl (by first | omega | (simp only [sA_same, sA_s, ud_s, Int.reduceEq, if_true, if_false, ite_true, ite_false, ↓reduceIte, and_true, true_and, eq_self, Int.add_zero, Int.reduceAdd]; omega)) rfl ?_
      refine v_goto (t := 4) xB_31 dX4_rights_26 (by decide) rfl ?_
      have hz2 := sm_s (f := fun i => if m (p + 1) i = 2 * i + 1 + 256 * (2 * i + 2) then 1 else 0) (k := k) (by omega)
      first | rw [if_pos (by assumption)] at hz2 | rw [if_neg (by assumption)] at hz2
      exact ih _ rfl _ (by omega)
  · rfl
set_option maxHeartbeats 1000000 in
theorem k_sidesWith {d : Nat} {p g : Int} {m : PM} {dy : List (Nat × Nat)} {L : Nat} {Q : Option PV → PS → Prop} (hd : 3 ≤ d) (hp : pilA p) (hN : 0 ≤ m p 1 ∧ m p 1 ≤ 12) (hc : okc (m (p + 1))) (o1 : Q (some (.inl (swF (m p 1) (m (p + 1)) g))) (m, (none, (dy, L)))) : C d 32 [.inr (.inr p), .inl g] (m, (none, (dy, L))) Q := by
  refine C_go (k := 2) hd xL_32 (fun d hd => ?_)
  show V d 32 (0, ([some (.inr (.inr p)), some (.inl g), none, none], ([], (m, (none, (dy, L)))))) Q
  have hpd : p = 2 ∨ p = 28 ∨ p = 62 ∨ p = 64 := hp
  refine v_iconst (n := 1) xB_32 dX4_sidesWith_0 ⟨by decide, by decide⟩ rfl ?_
  refine v_istore_n2 (n := 2) xB_32 dX4_sidesWith_1 rfl rfl ?_
  refine v_iconst (n := 3) xB_32 dX4_sidesWith_2 ⟨by decide, by decide⟩ rfl ?_
  refine v_istore_n3 (n := 4) xB_32 dX4_sidesWith_3 rfl rfl ?_
  refine lp_up (F := fun (k : Int) (m' : PM) => ∀ z : Int, z = sm (fun k => if pgk (m (p + 1)) k = g then 1 else 0) (2 * (k) : Int).toNat → V d 32 (4, ([some (.inr (.inr p)), some (.inl g), some (.inl z), some (.inl (k))], ([], (m', (none, (dy, L)))))) Q) (E := fun (k : Int) (m' : PM) => m = m') (a := 0) (b := m p 1) ?_ ?_ (0) (m) (by first | omega | (simp only [sA_same, sA_s, ud_s, Int.reduceEq, if_true, if_false, ite_true, ite_false, ↓reduceIte, and_true, true_and, eq_self, Int.add_zero, Int.reduceAdd]; omega)) (by first | omega | (simp only [sA_same, sA_s, ud_s, Int.reduceEq, if_true, if_false, ite_true, ite_false, ↓reduceIte, and_true, true_and, eq_self, Int.add_zero, Int.reduceAdd]; omega)) ?_ _ rfl
  · intro m' hm  z hz
    show V d 32 (4, ([some (.inr (.inr p)), some (.inl g), some (.inl z), some (.inl (m p 1))], ([], (m', (none, (dy, L)))))) Q
    subst hm
    refine v_iload_n (n := 5) xB_32 dX4_sidesWith_4 rfl rfl ?_
    refine v_aload_n (n := 6) xB_32 dX4_sidesWith_5 rfl rfl ?_
    refine v_gf_i (n := 9) (kz := 1) xB_32 dX4_sidesWith_6 xO_32 fl_4_21 fg_4_1 rfl (sh_P hp _ _ _) rfl rfl ?_
    refine v_ic_ge_y (t := 54) xB_32 dX4_sidesWith_9 (by decide) rfl (by first | omega | (simp only [sA_same, sA_s, ud_s, Int.reduceEq, if_true, if_false, ite_true, ite_false, ↓reduceIte, and_true, true_and, eq_self, Int.add_zero, Int.reduceAdd]; omega)) ?_
    refine v_iload_n (n := 55) xB_32 dX4_sidesWith_54 rfl rfl ?_
    refine v_ireturn0 xB_32 dX4_sidesWith_55 xK_32 ?_
    subst hz
    exact o1
  · intro k m' h1 h2 hm ih  z hz
    show V d 32 (4, ([some (.inr (.inr p)), some (.inl g), some (.inl z), some (.inl (k))], ([], (m', (none, (dy, L)))))) Q
    subst hm
    have q5 := sw_in (pgk (m (p + 1))) g (2 * k).toNat
    refine v_iload_n (n := 5) xB_32 dX4_sidesWith_4 rfl rfl ?_
    refine v_aload_n (n := 6) xB_32 dX4_sidesWith_5 rfl rfl ?_
    refine v_gf_i (n := 9) (kz := 1) xB_32 dX4_sidesWith_6 xO_32 fl_4_21 fg_4_1 rfl (sh_P hp _ _ _) rfl rfl ?_
    refine v_ic_ge_n (n := 12) xB_32 dX4_sidesWith_9 (by decide) rfl (by first | omega | (simp only [sA_same, sA_s, ud_s, Int.reduceEq, if_true, if_false, ite_true, ite_false, ↓reduceIte, and_true, true_and, eq_self, Int.add_zero, Int.reduceAdd]; omega)) ?_
    refine v_iload_n (n := 13) xB_32 dX4_sidesWith_12 rfl rfl ?_
    refine v_aload_n (n := 14) xB_32 dX4_sidesWith_13 rfl rfl ?_
    refine v_iload_n (n := 15) xB_32 dX4_sidesWith_14 rfl rfl ?_
    refine v_iconst (n := 16) xB_32 dX4_sidesWith_15 ⟨by decide, by decide⟩ rfl ?_
    refine v_call_v (n := 19) xB_32 dX4_sidesWith_16 xO_32 iv_4_34 rfl (sh_P hp _ _ _) rfl rfl rfl ?_
    refine k_pageOn (by omega) hp (by first | omega | (simp only [sA_same, sA_s, ud_s, Int.reduceEq, if_true, if_false, ite_true, ite_false, ↓reduceIte, and_true, true_and, eq_self, Int.add_zero, Int.reduceAdd]; omega)) (by omega) hc ?_
    refine v_iload_n (n := 20) xB_32 dX4_sidesWith_19 rfl rfl ?_
    refine v_ic_ne (t := 27) (n := 23) xB_32 dX4_sidesWith_20 (by decide) rfl rfl (fun g1 => ?_) (fun g1 => ?_)
    · refine v_iconst (n := 28) xB_32 dX4_sidesWith_27 ⟨by decide, by decide⟩ rfl ?_
      refine v_iadd (n := 29) xB_32 dX4_sidesWith_28 (by first | omega | (simp only [sA_same, sA_s, ud_s, Int.reduceEq, if_true, if_false, ite_true, ite_false, ↓reduceIte, and_true, true_and, eq_self, Int.add_zero, Int.reduceAdd]; omega)) rfl ?_
      refine v_istore_n2 (n := 30) xB_32 dX4_sidesWith_29 rfl rfl ?_
      refine v_iload_n (n := 31) xB_32 dX4_sidesWith_30 rfl rfl ?_
      refine v_aload_n (n := 32) xB_32 dX4_sidesWith_31 rfl rfl ?_
      refine v_iload_n (n := 33) xB_32 dX4_sidesWith_32 rfl rfl ?_
      refine v_iconst (n := 34) xB_32 dX4_sidesWith_33 ⟨by decide, by decide⟩ rfl ?_
      refine v_call_v (n := 37) xB_32 dX4_sidesWith_34 xO_32 iv_4_34 rfl (sh_P hp _ _ _) rfl rfl rfl ?_
      refine k_pageOn (by omega) hp (by first | omega | (simp only [sA_same, sA_s, ud_s, Int.reduceEq, if_true, if_false, ite_true, ite_false, ↓reduceIte, and_true, true_and, eq_self, Int.add_zero, Int.reduceAdd]; omega)) (by omega) hc ?_
      refine v_iload_n (n := 38) xB_32 dX4_sidesWith_37 rfl rfl ?_
      refine v_ic_ne (t := 45) (n := 41) xB_32 dX4_sidesWith_38 (by decide) rfl rfl (fun g2 => ?_) (fun g2 => ?_)
      · refine v_iconst (n := 46) xB_32 dX4_sidesWith_45 ⟨by decide, by decide⟩ rfl ?_
        refine v_iadd (n := 47) xB_32 dX4_sidesWith_46 (by first | omega | (simp only [sA_same, sA_s, ud_s, Int.reduceEq, if_true, if_false, ite_true, ite_false, ↓reduceIte, and_true, true_and, eq_self, Int.add_zero, Int.reduceAdd]; omega)) rfl ?_
        refine v_istore_n2 (n := 48) xB_32 dX4_sidesWith_47 rfl rfl ?_
        refine v_iinc3 (n := 51) xB_32 dX4_sidesWith_48 rfl (by first | omega | (simp only [sA_same, sA_s, ud_s, Int.reduceEq, if_true, if_false, ite_true, ite_false, ↓reduceIte, and_true, true_and, eq_self, Int.add_zero, Int.reduceAdd]; omega)) rfl ?_
        refine v_goto (t := 4) xB_32 dX4_sidesWith_51 (by decide) rfl ?_
        have e1 := sm_s (f := fun k => if pgk (m (p + 1)) k = g then 1 else 0) (k := 2 * k) (by omega)
        have e2 := sm_s (f := fun k => if pgk (m (p + 1)) k = g then 1 else 0) (k := 2 * k + 1) (by omega)
        rw [show 2 * k + 1 + 1 = 2 * (k + 1) by omega] at e2
        first | rw [ponF_pgk (by omega) (by omega)] at g1 g2 | rw [ponF_pgk (by omega) (by omega)] at g1 g3
        rw [Int.add_zero] at g1
        first | rw [if_pos (by assumption)] at e1 | rw [if_neg (by assumption)] at e1
        first | rw [if_pos (by assumption)] at e2 | rw [if_neg (by assumption)] at e2
        exact ih _ rfl _ (by omega)
      · refine v_iconst (n := 42) xB_32 dX4_sidesWith_41 ⟨by decide, by decide⟩ rfl ?_
        refine v_goto (t := 46) xB_32 dX4_sidesWith_42 (by decide) rfl ?_
        refine v_iadd (n := 47) xB_32 dX4_sidesWith_46 (by first | omega | (simp only [sA_same, sA_s, ud_s, Int.reduceEq, if_true, if_false, ite_true, ite_false, ↓reduceIte, and_true, true_and, eq_self, Int.add_zero, Int.reduceAdd]; omega)) rfl ?_
        refine v_istore_n2 (n := 48) xB_32 dX4_sidesWith_47 rfl rfl ?_
        refine v_iinc3 (n := 51) xB_32 dX4_sidesWith_48 rfl (by first | omega | (simp only [sA_same, sA_s, ud_s, Int.reduceEq, if_true, if_false, ite_true, ite_false, ↓reduceIte, and_true, true_and, eq_self, Int.add_zero, Int.reduceAdd]; omega)) rfl ?_
        refine v_goto (t := 4) xB_32 dX4_sidesWith_51 (by decide) rfl ?_
        have e1 := sm_s (f := fun k => if pgk (m (p + 1)) k = g then 1 else 0) (k := 2 * k) (by omega)
        have e2 := sm_s (f := fun k => if pgk (m (p + 1)) k = g then 1 else 0) (k := 2 * k + 1) (by omega)
        rw [show 2 * k + 1 + 1 = 2 * (k + 1) by omega] at e2
        first | rw [ponF_pgk (by omega) (by omega)] at g1 g2 | rw [ponF_pgk (by omega) (by omega)] at g1 g3
        rw [Int.add_zero] at g1
        first | rw [if_pos (by assumption)] at e1 | rw [if_neg (by assumption)] at e1
        first | rw [if_pos (by assumption)] at e2 | rw [if_neg (by assumption)] at e2
        exact ih _ rfl _ (by omega)
    · refine v_iconst (n := 24) xB_32 dX4_sidesWith_23 ⟨by decide, by decide⟩ rfl ?_
      refine v_goto (t := 28) xB_32 dX4_sidesWith_24 (by decide) rfl ?_
      refine v_iadd (n := 29) xB_32 dX4_sidesWith_28 (by first | omega | (simp only [sA_same, sA_s, ud_s, Int.reduceEq, if_true, if_false, ite_true, ite_false, ↓reduceIte, and_true, true_and, eq_self, Int.add_zero, Int.reduceAdd]; omega)) rfl ?_
      refine v_istore_n2 (n := 30) xB_32 dX4_sidesWith_29 rfl rfl ?_
      refine v_iload_n (n := 31) xB_32 dX4_sidesWith_30 rfl rfl ?_
      refine v_aload_n (n := 32) xB_32 dX4_sidesWith_31 rfl rfl ?_
      refine v_iload_n (n := 33) xB_32 dX4_sidesWith_32 rfl rfl ?_
      refine v_iconst (n := 34) xB_32 dX4_sidesWith_33 ⟨by decide, by decide⟩ rfl ?_
      refine v_call_v (n := 37) xB_32 dX4_sidesWith_34 xO_32 iv_4_34 rfl (sh_P hp _ _ _) rfl rfl rfl ?_
      refine k_pageOn (by omega) hp (by first | omega | (simp only [sA_same, sA_s, ud_s, Int.reduceEq, if_true, if_false, ite_true, ite_false, ↓reduceIte, and_true, true_and, eq_self, Int.add_zero, Int.reduceAdd]; omega)) (by omega) hc ?_
      refine v_iload_n (n := 38) xB_32 dX4_sidesWith_37 rfl rfl ?_
      refine v_ic_ne (t := 45) (n := 41) xB_32 dX4_sidesWith_38 (by decide) rfl rfl (fun g3 => ?_) (fun g3 => ?_)
      · refine v_iconst (n := 46) xB_32 dX4_sidesWith_45 ⟨by decide, by decide⟩ rfl ?_
        refine v_iadd (n := 47) xB_32 dX4_sidesWith_46 (by first | omega | (simp only [sA_same, sA_s, ud_s, Int.reduceEq, if_true, if_false, ite_true, ite_false, ↓reduceIte, and_true, true_and, eq_self, Int.add_zero, Int.reduceAdd]; omega)) rfl ?_
        refine v_istore_n2 (n := 48) xB_32 dX4_sidesWith_47 rfl rfl ?_
        refine v_iinc3 (n := 51) xB_32 dX4_sidesWith_48 rfl (by first | omega | (simp only [sA_same, sA_s, ud_s, Int.reduceEq, if_true, if_false, ite_true, ite_false, ↓reduceIte, and_true, true_and, eq_self, Int.add_zero, Int.reduceAdd]; omega)) rfl ?_
        refine v_goto (t := 4) xB_32 dX4_sidesWith_51 (by decide) rfl ?_
        have e1 := sm_s (f := fun k => if pgk (m (p + 1)) k = g then 1 else 0) (k := 2 * k) (by omega)
        have e2 := sm_s (f := fun k => if pgk (m (p + 1)) k = g then 1 else 0) (k := 2 * k + 1) (by omega)
        rw [show 2 * k + 1 + 1 = 2 * (k + 1) by omega] at e2
        first | rw [ponF_pgk (by omega) (by omega)] at g1 g2 | rw [ponF_pgk (by omega) (by omega)] at g1 g3
        rw [Int.add_zero] at g1
        first | rw [if_pos (by assumption)] at e1 | rw [if_neg (by assumption)] at e1
        first | rw [if_pos (by assumption)] at e2 | rw [if_neg (by assumption)] at e2
        exact ih _ rfl _ (by omega)
      · refine v_iconst (n := 42) xB_32 dX4_sidesWith_41 ⟨by decide, by decide⟩ rfl ?_
        refine v_goto (t := 46) xB_32 dX4_sidesWith_42 (by decide) rfl ?_
        refine v_iadd (n := 47) xB_32 dX4_sidesWith_46 (by first | omega | (simp only [sA_same, sA_s, ud_s, Int.reduceEq, if_true, if_false, ite_true, ite_false, ↓reduceIte, and_true, true_and, eq_self, Int.add_zero, Int.reduceAdd]; omega)) rfl ?_
        refine v_istore_n2 (n := 48) xB_32 dX4_sidesWith_47 rfl rfl ?_
        refine v_iinc3 (n := 51) xB_32 dX4_sidesWith_48 rfl (by first | omega | (simp only [sA_same, sA_s, ud_s, Int.reduceEq, if_true, if_false, ite_true, ite_false, ↓reduceIte, and_true, true_and, eq_self, Int.add_zero, Int.reduceAdd]; omega)) rfl ?_
        refine v_goto (t := 4) xB_32 dX4_sidesWith_51 (by decide) rfl ?_
        have e1 := sm_s (f := fun k => if pgk (m (p + 1)) k = g then 1 else 0) (k := 2 * k) (by omega)
        have e2 := sm_s (f := fun k => if pgk (m (p + 1)) k = g then 1 else 0) (k := 2 * k + 1) (by omega)
        rw [show 2 * k + 1 + 1 = 2 * (k + 1) by omega] at e2
        first | rw [ponF_pgk (by omega) (by omega)] at g1 g2 | rw [ponF_pgk (by omega) (by omega)] at g1 g3
        rw [Int.add_zero] at g1
        first | rw [if_pos (by assumption)] at e1 | rw [if_neg (by assumption)] at e1
        first | rw [if_pos (by assumption)] at e2 | rw [if_neg (by assumption)] at e2
        exact ih _ rfl _ (by omega)
  · rfl
theorem msF_in (f : Int → Int) (n : Nat) : -2147483648 ≤ msF f n ∧ msF f n < 2147483648 := by
  cases n with
  | zero => unfold msF; omega
  | succ n => unfold msF; exact iO_in _ _
set_option maxHeartbeats 1000000 in
theorem k_missing {d : Nat} {p : Int} {m : PM} {dy : List (Nat × Nat)} {L : Nat} {Q : Option PV → PS → Prop} (hd : 4 ≤ d) (hp : pilA p) (hN : 0 ≤ m p 1 ∧ m p 1 ≤ 12) (hc : okc (m (p + 1))) (o1 : Q (some (.inl (msF (swF (m p 1) (m (p + 1))) 24))) (m, (none, (dy, L)))) : C d 33 [.inr (.inr p)] (m, (none, (dy, L))) Q := by
  refine C_go (k := 3) hd xL_33 (fun d hd => ?_)
  show V d 33 (0, ([some (.inr (.inr p)), none, none], ([], (m, (none, (dy, L)))))) Q
  have hpd : p = 2 ∨ p = 28 ∨ p = 62 ∨ p = 64 := hp
  refine v_iconst (n := 1) xB_33 dX4_missing_0 ⟨by decide, by decide⟩ rfl ?_
  refine v_istore_n1 (n := 2) xB_33 dX4_missing_1 rfl rfl ?_
  refine v_iconst (n := 3) xB_33 dX4_missing_2 ⟨by decide, by decide⟩ rfl ?_
  refine v_istore_n2 (n := 4) xB_33 dX4_missing_3 rfl rfl ?_
  refine lp_up (F := fun (k : Int) (m' : PM) => ∀ z : Int, z = msF (swF (m p 1) (m (p + 1))) ((k : Int) - 1).toNat → V d 33 (4, ([some (.inr (.inr p)), some (.inl z), some (.inl (k))], ([], (m', (none, (dy, L)))))) Q) (E := fun (k : Int) (m' : PM) => m = m') (a := 1) (b := 25) ?_ ?_ (1) (m) (by first | omega | (simp only [sA_same, sA_s, ud_s, Int.reduceEq, if_true, if_false, ite_true, ite_false, ↓reduceIte, and_true, true_and, eq_self, Int.add_zero, Int.reduceAdd]; omega)) (by first | omega | (simp only [sA_same, sA_s, ud_s, Int.reduceEq, if_true, if_false, ite_true, ite_false, ↓reduceIte, and_true, true_and, eq_self, Int.add_zero, Int.reduceAdd]; omega)) ?_ _ rfl
  · intro m' hm  z hz
    show V d 33 (4, ([some (.inr (.inr p)), some (.inl z), some (.inl (25))], ([], (m', (none, (dy, L)))))) Q
    subst hm
    refine v_iload_n (n := 5) xB_33 dX4_missing_4 rfl rfl ?_
    refine v_bipush (n := 7) xB_33 dX4_missing_5 ⟨by decide, by decide⟩ rfl ?_
    refine v_ic_gt_y (t := 32) xB_33 dX4_missing_7 (by decide) rfl (by first | omega | (simp only [sA_same, sA_s, ud_s, Int.reduceEq, if_true, if_false, ite_true, ite_false, ↓reduceIte, and_true, true_and, eq_self, Int.add_zero, Int.reduceAdd]; omega)) ?_
    refine v_iload_n (n := 33) xB_33 dX4_missing_32 rfl rfl ?_
    refine v_ireturn0 xB_33 dX4_missing_33 xK_33 ?_
    subst hz
    exact o1
  · intro k m' h1 h2 hm ih  z hz
    show V d 33 (4, ([some (.inr (.inr p)), some (.inl z), some (.inl (k))], ([], (m', (none, (dy, L)))))) Q
    subst hm
    refine v_iload_n (n := 5) xB_33 dX4_missing_4 rfl rfl ?_
    refine v_bipush (n := 7) xB_33 dX4_missing_5 ⟨by decide, by decide⟩ rfl ?_
    refine v_ic_gt_n (n := 10) xB_33 dX4_missing_7 (by decide) rfl (by first | omega | (simp only [sA_same, sA_s, ud_s, Int.reduceEq, if_true, if_false, ite_true, ite_false, ↓reduceIte, and_true, true_and, eq_self, Int.add_zero, Int.reduceAdd]; omega)) ?_
    refine v_aload_n (n := 11) xB_33 dX4_missing_10 rfl rfl ?_
    refine v_iload_n (n := 12) xB_33 dX4_missing_11 rfl rfl ?_
    refine v_call_v (n := 15) xB_33 dX4_missing_12 xO_33 iv_4_37 rfl (sh_P hp _ _ _) rfl rfl rfl ?_
    refine k_sidesWith (by omega) hp (by first | omega | (simp only [sA_same, sA_s, ud_s, Int.reduceEq, if_true, if_false, ite_true, ite_false, ↓reduceIte, and_true, true_and, eq_self, Int.add_zero, Int.reduceAdd]; omega)) hc ?_
    refine v_if_ne (t := 26) (n := 18) xB_33 dX4_missing_15 (by decide) rfl rfl (fun g1 => ?_) (fun g1 => ?_)
    · refine v_iinc2 (n := 29) xB_33 dX4_missing_26 rfl (by first | omega | (simp only [sA_same, sA_s, ud_s, Int.reduceEq, if_true, if_false, ite_true, ite_false, ↓reduceIte, and_true, true_and, eq_self, Int.add_zero, Int.reduceAdd]; omega)) rfl ?_
      refine v_goto (t := 4) xB_33 dX4_missing_29 (by decide) rfl ?_
      have e1 := msF_s (f := swF (m p 1) (m (p + 1))) (k := k) (by omega)
      first | rw [if_pos (by assumption)] at e1 | rw [if_neg (by assumption), iO0 (msF_in _ _).1 (msF_in _ _).2] at e1
      first | exact ih _ rfl _ (by rw [e1, hz, Int.one_mul]) | exact ih _ rfl _ (by rw [e1, hz])
    · refine v_iload_n (n := 19) xB_33 dX4_missing_18 rfl rfl ?_
      refine v_iconst (n := 20) xB_33 dX4_missing_19 ⟨by decide, by decide⟩ rfl ?_
      refine v_iload_n (n := 21) xB_33 dX4_missing_20 rfl rfl ?_
      refine v_iconst (n := 22) xB_33 dX4_missing_21 ⟨by decide, by decide⟩ rfl ?_
      refine v_isub (n := 23) xB_33 dX4_missing_22 (by first | omega | (simp only [sA_same, sA_s, ud_s, Int.reduceEq, if_true, if_false, ite_true, ite_false, ↓reduceIte, and_true, true_and, eq_self, Int.add_zero, Int.reduceAdd]; omega)) rfl ?_
      refine v_ishl (n := 24) xB_33 dX4_missing_23 rfl ⟨by decide, by omega, by omega, by have := p2_lt (y := k - 1) (by omega); omega⟩ rfl ?_
      refine v_ior (n := 25) xB_33 dX4_missing_24 rfl ?_
      refine v_istore_n1 (n := 26) xB_33 dX4_missing_25 rfl rfl ?_
      refine v_iinc2 (n := 29) xB_33 dX4_missing_26 rfl (by first | omega | (simp only [sA_same, sA_s, ud_s, Int.reduceEq, if_true, if_false, ite_true, ite_false, ↓reduceIte, and_true, true_and, eq_self, Int.add_zero, Int.reduceAdd]; omega)) rfl ?_
      refine v_goto (t := 4) xB_33 dX4_missing_29 (by decide) rfl ?_
      have e1 := msF_s (f := swF (m p 1) (m (p + 1))) (k := k) (by omega)
      first | rw [if_pos (by assumption)] at e1 | rw [if_neg (by assumption), iO0 (msF_in _ _).1 (msF_in _ _).2] at e1
      first | exact ih _ rfl _ (by rw [e1, hz, Int.one_mul]) | exact ih _ rfl _ (by rw [e1, hz])
  · rfl
theorem fs_c {P : Int → Bool} {g : Int → Int} {k : Nat} {i : Int} (h : P i = false) : fs P g (k + 1) i = fs P g k (i + 1) := by rw [fs, h]; rfl
theorem fs_y {P : Int → Bool} {g : Int → Int} {k : Nat} {i : Int} (h : P i = true) : fs P g (k + 1) i = g i := by rw [fs, h]; rfl
def whF (N : Int) (c : Int → Int) (g : Int) : Int := fs (fun k => decide (pgk c k = g)) (fun k => 10 * (k / 2) + k % 2) (2 * N).toNat 0
theorem fs_to {P : Int → Bool} {g : Int → Int} {N k : Int} (h0 : 0 ≤ k) (h : k < N) (hP : P k = false) : fs P g (N - k).toNat k = fs P g (N - (k + 1)).toNat (k + 1) := by
  rw [show (N - k).toNat = (N - (k + 1)).toNat + 1 by omega, fs_c hP]
theorem fs_at {P : Int → Bool} {g : Int → Int} {N k : Int} (h0 : 0 ≤ k) (h : k < N) (hP : P k = true) : fs P g (N - k).toNat k = g k := by
  rw [show (N - k).toNat = (N - (k + 1)).toNat + 1 by omega, fs_y hP]
theorem fs_end {P : Int → Bool} {g : Int → Int} {N k : Int} (h : N ≤ k) : fs P g (N - k).toNat k = -5 := by
  rw [show (N - k).toNat = 0 by omega]; rfl
set_option maxHeartbeats 1000000 in
theorem k_whereIs {d : Nat} {p g : Int} {m : PM} {dy : List (Nat × Nat)} {L : Nat} {Q : Option PV → PS → Prop} (hd : 3 ≤ d) (hp : pilA p) (hN : 0 ≤ m p 1 ∧ m p 1 ≤ 12) (hc : okc (m (p + 1))) (o1 : Q (some (.inl (whF (m p 1) (m (p + 1)) g))) (m, (none, (dy, L)))) : C d 34 [.inr (.inr p), .inl g] (m, (none, (dy, L))) Q := by
  refine C_go (k := 2) hd xL_34 (fun d hd => ?_)
  show V d 34 (0, ([some (.inr (.inr p)), some (.inl g), none, none], ([], (m, (none, (dy, L)))))) Q
  have hpd : p = 2 ∨ p = 28 ∨ p = 62 ∨ p = 64 := hp
  refine v_iconst (n := 1) xB_34 dX4_whereIs_0 ⟨by decide, by decide⟩ rfl ?_
  refine v_istore_n2 (n := 2) xB_34 dX4_whereIs_1 rfl rfl ?_
  refine lp_up (F := fun (k : Int) (m' : PM) => ∀ x3 : Option PV, V d 34 (2, ([some (.inr (.inr p)), some (.inl g), some (.inl (k)), x3], ([], (m', (none, (dy, L)))))) Q) (E := fun (k : Int) (m' : PM) => m = m' ∧ fs (fun k => decide (pgk (m (p + 1)) k = g)) (fun k => 10 * (k / 2) + k % 2) (2 * m p 1 - (2 * (k))).toNat (2 * (k)) = whF (m p 1) (m (p + 1)) g) (a := 0) (b := m p 1) ?_ ?_ (0) (m) (by first | omega | (simp only [sA_same, sA_s, ud_s, Int.reduceEq, if_true, if_false, ite_true, ite_false, ↓reduceIte, and_true, true_and, eq_self, Int.add_zero, Int.reduceAdd]; omega)) (by first | omega | (simp only [sA_same, sA_s, ud_s, Int.reduceEq, if_true, if_false, ite_true, ite_false, ↓reduceIte, and_true, true_and, eq_self, Int.add_zero, Int.reduceAdd]; omega)) ?_ _
  · intro m' hm x3
    show V d 34 (2, ([some (.inr (.inr p)), some (.inl g), some (.inl (m p 1)), x3], ([], (m', (none, (dy, L)))))) Q
    obtain ⟨rfl, hw⟩ := hm
    rw [fs_end (by omega)] at hw
    refine v_iload_n (n := 3) xB_34 dX4_whereIs_2 rfl rfl ?_
    refine v_aload_n (n := 4) xB_34 dX4_whereIs_3 rfl rfl ?_
    refine v_gf_i (n := 7) (kz := 1) xB_34 dX4_whereIs_4 xO_34 fl_4_21 fg_4_1 rfl (sh_P hp _ _ _) rfl rfl ?_
    refine v_ic_ge_y (t := 46) xB_34 dX4_whereIs_7 (by decide) rfl (by first | omega | (simp only [sA_same, sA_s, ud_s, Int.reduceEq, if_true, if_false, ite_true, ite_false, ↓reduceIte, and_true, true_and, eq_self, Int.add_zero, Int.reduceAdd]; omega)) ?_
    refine v_bipush (n := 48) xB_34 dX4_whereIs_46 ⟨by decide, by decide⟩ rfl ?_
    refine v_ireturn0 xB_34 dX4_whereIs_48 xK_34 ?_
    first | rw [ponF_pgk (by omega) (by omega), Int.add_zero] at g1 | skip
    first | rw [ponF_pgk (by omega) (by omega)] at g2 | skip
    (try simp only [Int.reduceAdd] at g2)
    rw [← hw] at o1
    first | exact o1 | (rw [f3 (decide_eq_true (by omega))] at o1; exact o1) | (rw [f1 (decide_eq_false (by omega)), f4 (decide_eq_true (by omega))] at o1; exact o1)
  · intro k m' h1 h2 hm ih x3
    show V d 34 (2, ([some (.inr (.inr p)), some (.inl g), some (.inl (k)), x3], ([], (m', (none, (dy, L)))))) Q
    obtain ⟨rfl, hw⟩ := hm
    have f1 : (decide (pgk (m (p + 1)) (2 * k) = g)) = false → fs (fun k => decide (pgk (m (p + 1)) k = g)) (fun k => 10 * (k / 2) + k % 2) (2 * m p 1 - (2 * k)).toNat (2 * k) = fs (fun k => decide (pgk (m (p + 1)) k = g)) (fun k => 10 * (k / 2) + k % 2) (2 * m p 1 - (2 * k + 1)).toNat (2 * k + 1) := fun h => fs_to (by omega) (by omega) h
    have f2 : (decide (pgk (m (p + 1)) (2 * k + 1) = g)) = false → fs (fun k => decide (pgk (m (p + 1)) k = g)) (fun k => 10 * (k / 2) + k % 2) (2 * m p 1 - (2 * k + 1)).toNat (2 * k + 1) = fs (fun k => decide (pgk (m (p + 1)) k = g)) (fun k => 10 * (k / 2) + k % 2) (2 * m p 1 - (2 * (k + 1))).toNat (2 * (k + 1)) := fun h => by rw [show 2 * (k + 1) = 2 * k + 1 + 1 by omega]; exact fs_to (by omega) (by omega) h
    have f3 : (decide (pgk (m (p + 1)) (2 * k) = g)) = true → fs (fun k => decide (pgk (m (p + 1)) k = g)) (fun k => 10 * (k / 2) + k % 2) (2 * m p 1 - (2 * k)).toNat (2 * k) = 10 * k + 0 := fun h => by rw [fs_at (by omega) (by omega) h]; omega
    have f4 : (decide (pgk (m (p + 1)) (2 * k + 1) = g)) = true → fs (fun k => decide (pgk (m (p + 1)) k = g)) (fun k => 10 * (k / 2) + k % 2) (2 * m p 1 - (2 * k + 1)).toNat (2 * k + 1) = 10 * k + 1 := fun h => by rw [fs_at (by omega) (by omega) h]; omega
    refine v_iload_n (n := 3) xB_34 dX4_whereIs_2 rfl rfl ?_
    refine v_aload_n (n := 4) xB_34 dX4_whereIs_3 rfl rfl ?_
    refine v_gf_i (n := 7) (kz := 1) xB_34 dX4_whereIs_4 xO_34 fl_4_21 fg_4_1 rfl (sh_P hp _ _ _) rfl rfl ?_
    refine v_ic_ge_n (n := 10) xB_34 dX4_whereIs_7 (by decide) rfl (by first | omega | (simp only [sA_same, sA_s, ud_s, Int.reduceEq, if_true, if_false, ite_true, ite_false, ↓reduceIte, and_true, true_and, eq_self, Int.add_zero, Int.reduceAdd]; omega)) ?_
    refine v_iconst (n := 11) xB_34 dX4_whereIs_10 ⟨by decide, by decide⟩ rfl ?_
    refine v_istore_n3 (n := 12) xB_34 dX4_whereIs_11 rfl rfl ?_
    refine v_iload_n (n := 13) xB_34 dX4_whereIs_12 rfl rfl ?_
    refine v_iconst (n := 14) xB_34 dX4_whereIs_13 ⟨by decide, by decide⟩ rfl ?_
    refine v_ic_ge_n (n := 17) xB_34 dX4_whereIs_14 (by decide) rfl (by decide) ?_
    refine v_aload_n (n := 18) xB_34 dX4_whereIs_17 rfl rfl ?_
    refine v_iload_n (n := 19) xB_34 dX4_whereIs_18 rfl rfl ?_
    refine v_iload_n (n := 20) xB_34 dX4_whereIs_19 rfl rfl ?_
    refine v_call_v (n := 23) xB_34 dX4_whereIs_20 xO_34 iv_4_34 rfl (sh_P hp _ _ _) rfl rfl rfl ?_
    refine k_pageOn (by omega) hp (by first | omega | (simp only [sA_same, sA_s, ud_s, Int.reduceEq, if_true, if_false, ite_true, ite_false, ↓reduceIte, and_true, true_and, eq_self, Int.add_zero, Int.reduceAdd]; omega)) (by omega) hc ?_
    refine v_iload_n (n := 24) xB_34 dX4_whereIs_23 rfl rfl ?_
    refine v_ic_ne (t := 34) (n := 27) xB_34 dX4_whereIs_24 (by decide) rfl rfl (fun g1 => ?_) (fun g1 => ?_)
    · refine v_iinc3 (n := 37) xB_34 dX4_whereIs_34 rfl (by first | omega | (simp only [sA_same, sA_s, ud_s, Int.reduceEq, if_true, if_false, ite_true, ite_false, ↓reduceIte, and_true, true_and, eq_self, Int.add_zero, Int.reduceAdd]; omega)) rfl ?_
      refine v_goto (t := 12) xB_34 dX4_whereIs_37 (by decide) rfl ?_
      refine v_iload_n (n := 13) xB_34 dX4_whereIs_12 rfl rfl ?_
      refine v_iconst (n := 14) xB_34 dX4_whereIs_13 ⟨by decide, by decide⟩ rfl ?_
      refine v_ic_ge_n (n := 17) xB_34 dX4_whereIs_14 (by decide) rfl (by decide) ?_
      refine v_aload_n (n := 18) xB_34 dX4_whereIs_17 rfl rfl ?_
      refine v_iload_n (n := 19) xB_34 dX4_whereIs_18 rfl rfl ?_
      refine v_iload_n (n := 20) xB_34 dX4_whereIs_19 rfl rfl ?_
      refine v_call_v (n := 23) xB_34 dX4_whereIs_20 xO_34 iv_4_34 rfl (sh_P hp _ _ _) rfl rfl rfl ?_
      refine k_pageOn (by omega) hp (by first | omega | (simp only [sA_same, sA_s, ud_s, Int.reduceEq, if_true, if_false, ite_true, ite_false, ↓reduceIte, and_true, true_and, eq_self, Int.add_zero, Int.reduceAdd]; omega)) (by omega) hc ?_
      refine v_iload_n (n := 24) xB_34 dX4_whereIs_23 rfl rfl ?_
      refine v_ic_ne (t := 34) (n := 27) xB_34 dX4_whereIs_24 (by decide) rfl rfl (fun g2 => ?_) (fun g2 => ?_)
      · refine v_iinc3 (n := 37) xB_34 dX4_whereIs_34 rfl (by first | omega | (simp only [sA_same, sA_s, ud_s, Int.reduceEq, if_true, if_false, ite_true, ite_false, ↓reduceIte, and_true, true_and, eq_self, Int.add_zero, Int.reduceAdd]; omega)) rfl ?_
        refine v_goto (t := 12) xB_34 dX4_whereIs_37 (by decide) rfl ?_
        refine v_iload_n (n := 13) xB_34 dX4_whereIs_12 rfl rfl ?_
        refine v_iconst (n := 14) xB_34 dX4_whereIs_13 ⟨by decide, by decide⟩ rfl ?_
        refine v_ic_ge_y (t := 40) xB_34 dX4_whereIs_14 (by decide) rfl (by decide) ?_
        refine v_iinc2 (n := 43) xB_34 dX4_whereIs_40 rfl (by first | omega | (simp only [sA_same, sA_s, ud_s, Int.reduceEq, if_true, if_false, ite_true, ite_false, ↓reduceIte, and_true, true_and, eq_self, Int.add_zero, Int.reduceAdd]; omega)) rfl ?_
        refine v_goto (t := 2) xB_34 dX4_whereIs_43 (by decide) rfl ?_
        first | rw [ponF_pgk (by omega) (by omega), Int.add_zero] at g1 | skip
        first | rw [ponF_pgk (by omega) (by omega)] at g2 | skip
        (try simp only [Int.reduceAdd] at g2)
        refine ih _ ⟨rfl, ?_⟩ _
        rw [← f2 (decide_eq_false (by omega)), ← f1 (decide_eq_false (by omega))]
        exact hw
      · refine v_bipush (n := 29) xB_34 dX4_whereIs_27 ⟨by decide, by decide⟩ rfl ?_
        refine v_iload_n (n := 30) xB_34 dX4_whereIs_29 rfl rfl ?_
        refine v_imul (n := 31) xB_34 dX4_whereIs_30 (by first | omega | (simp only [sA_same, sA_s, ud_s, Int.reduceEq, if_true, if_false, ite_true, ite_false, ↓reduceIte, and_true, true_and, eq_self, Int.add_zero, Int.reduceAdd]; omega)) rfl ?_
        refine v_iload_n (n := 32) xB_34 dX4_whereIs_31 rfl rfl ?_
        refine v_iadd (n := 33) xB_34 dX4_whereIs_32 (by first | omega | (simp only [sA_same, sA_s, ud_s, Int.reduceEq, if_true, if_false, ite_true, ite_false, ↓reduceIte, and_true, true_and, eq_self, Int.add_zero, Int.reduceAdd]; omega)) rfl ?_
        refine v_ireturn0 xB_34 dX4_whereIs_33 xK_34 ?_
        first | rw [ponF_pgk (by omega) (by omega), Int.add_zero] at g1 | skip
        first | rw [ponF_pgk (by omega) (by omega)] at g2 | skip
        (try simp only [Int.reduceAdd] at g2)
        rw [← hw] at o1
        first | exact o1 | (rw [f3 (decide_eq_true (by omega))] at o1; exact o1) | (rw [f1 (decide_eq_false (by omega)), f4 (decide_eq_true (by omega))] at o1; exact o1)
    · refine v_bipush (n := 29) xB_34 dX4_whereIs_27 ⟨by decide, by decide⟩ rfl ?_
      refine v_iload_n (n := 30) xB_34 dX4_whereIs_29 rfl rfl ?_
      refine v_imul (n := 31) xB_34 dX4_whereIs_30 (by first | omega | (simp only [sA_same, sA_s, ud_s, Int.reduceEq, if_true, if_false, ite_true, ite_false, ↓reduceIte, and_true, true_and, eq_self, Int.add_zero, Int.reduceAdd]; omega)) rfl ?_
      refine v_iload_n (n := 32) xB_34 dX4_whereIs_31 rfl rfl ?_
      refine v_iadd (n := 33) xB_34 dX4_whereIs_32 (by first | omega | (simp only [sA_same, sA_s, ud_s, Int.reduceEq, if_true, if_false, ite_true, ite_false, ↓reduceIte, and_true, true_and, eq_self, Int.add_zero, Int.reduceAdd]; omega)) rfl ?_
      refine v_ireturn0 xB_34 dX4_whereIs_33 xK_34 ?_
      first | rw [ponF_pgk (by omega) (by omega), Int.add_zero] at g1 | skip
      first | rw [ponF_pgk (by omega) (by omega)] at g2 | skip
      (try simp only [Int.reduceAdd] at g2)
      rw [← hw] at o1
      first | exact o1 | (rw [f3 (decide_eq_true (by omega))] at o1; exact o1) | (rw [f1 (decide_eq_false (by omega)), f4 (decide_eq_true (by omega))] at o1; exact o1)
  · exact ⟨rfl, by unfold whF; rw [show 2 * m p 1 - 2 * 0 = 2 * m p 1 by omega]; rfl⟩
