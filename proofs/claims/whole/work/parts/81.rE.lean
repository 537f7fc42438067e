/-! The reference reads a job: an E. -/
def OneP (d : Nat) (m0 : PM) (c B : Int) (dy : List (Nat × Nat)) (L : Nat) (Q : Option PV → PS → Prop) (k : Nat) : Prop := ∀ (W E : List Int) (m : PM) (a : Int) (x3 : Option PV), St m0 m c a W E → Bd m0 B a W E → opn W = 4 - k → ((oneF (m0 86) (m0 81 6) k a).1 = true → ∀ (m' : PM) (x3 : Option PV), St m0 m' c (oneF (m0 86) (m0 81 6) k a).2.1 (stp W) (E ++ (oneF (m0 86) (m0 81 6) k a).2.2.map trS ++ nts W) → V d 137 (22, ([some (.inr (.inr 81)), some (.inl c), some (.inl 0), x3], ([], (m', (none, (dy, L)))))) Q) → (∀ (m' : PM) (W' E' : List Int), (oneF (m0 86) (m0 81 6) k a).1 = false → St m0 m' c (oneF (m0 86) (m0 81 6) k a).2.1 W' E' → Q (some (.inl 0)) (m', (none, (dy, L)))) → V d 137 (22, ([some (.inr (.inr 81)), some (.inl c), some (.inl 1), x3], ([], (m, (none, (dy, L)))))) Q
def allO : List Int → Prop
  | [] => True
  | w :: _ => w = 40 ∨ w = 124
def anyO : List Int → Prop
  | [] => True
  | w :: _ => w = 40
def ng (P : List Int) : List Int := P.map (fun z => -z)
def AllP (d : Nat) (m0 : PM) (c B : Int) (dy : List (Nat × Nat)) (L : Nat) (Q : Option PV → PS → Prop) (k : Nat) : Prop := ∀ (W E : List Int) (m : PM) (a : Int) (x3 : Option PV), St m0 m c a W E → Bd m0 B a W E → opn W = 4 - k → allO W → ((allF (oneF (m0 86) (m0 81 6) k) (m0 86) (m0 81 6) a).1 = true → ∀ (m' : PM) (x3 : Option PV) (P E' : List Int), (∀ p ∈ P, p = 38) → E' ++ ng P = E ++ (allF (oneF (m0 86) (m0 81 6) k) (m0 86) (m0 81 6) a).2.2.map trS → E.length ≤ E'.length → St m0 m' c (allF (oneF (m0 86) (m0 81 6) k) (m0 86) (m0 81 6) a).2.1 (P ++ W) E' → nxt (m0 86) (m0 81 6) (allF (oneF (m0 86) (m0 81 6) k) (m0 86) (m0 81 6) a).2.1 ≠ 38 → V d 137 (22, ([some (.inr (.inr 81)), some (.inl c), some (.inl 0), x3], ([], (m', (none, (dy, L)))))) Q) → (∀ (m' : PM) (W' E' : List Int), (allF (oneF (m0 86) (m0 81 6) k) (m0 86) (m0 81 6) a).1 = false → St m0 m' c (allF (oneF (m0 86) (m0 81 6) k) (m0 86) (m0 81 6) a).2.1 W' E' → Q (some (.inl 0)) (m', (none, (dy, L)))) → V d 137 (22, ([some (.inr (.inr 81)), some (.inl c), some (.inl 1), x3], ([], (m, (none, (dy, L)))))) Q
def AnyP (d : Nat) (m0 : PM) (c B : Int) (dy : List (Nat × Nat)) (L : Nat) (Q : Option PV → PS → Prop) (k : Nat) : Prop := ∀ (W E : List Int) (m : PM) (a : Int) (x3 : Option PV), St m0 m c a W E → Bd m0 B a W E → opn W = 4 - k → anyO W → ((anyF (oneF (m0 86) (m0 81 6) k) (m0 86) (m0 81 6) a).1 = true → ∀ (m' : PM) (x3 : Option PV) (P E' : List Int), (∀ p ∈ P, p = 38 ∨ p = 124) → E' ++ ng P = E ++ (anyF (oneF (m0 86) (m0 81 6) k) (m0 86) (m0 81 6) a).2.2.map trS → E.length ≤ E'.length → St m0 m' c (anyF (oneF (m0 86) (m0 81 6) k) (m0 86) (m0 81 6) a).2.1 (P ++ W) E' → nxt (m0 86) (m0 81 6) (anyF (oneF (m0 86) (m0 81 6) k) (m0 86) (m0 81 6) a).2.1 ≠ 38 → nxt (m0 86) (m0 81 6) (anyF (oneF (m0 86) (m0 81 6) k) (m0 86) (m0 81 6) a).2.1 ≠ 124 → V d 137 (22, ([some (.inr (.inr 81)), some (.inl c), some (.inl 0), x3], ([], (m', (none, (dy, L)))))) Q) → (∀ (m' : PM) (W' E' : List Int), (anyF (oneF (m0 86) (m0 81 6) k) (m0 86) (m0 81 6) a).1 = false → St m0 m' c (anyF (oneF (m0 86) (m0 81 6) k) (m0 86) (m0 81 6) a).2.1 W' E' → Q (some (.inl 0)) (m', (none, (dy, L)))) → V d 137 (22, ([some (.inr (.inr 81)), some (.inl c), some (.inl 1), x3], ([], (m, (none, (dy, L)))))) Q
theorem stp_no {W : List Int} (h : allO W) : stp W = W ∧ nts W = [] := by
  cases W with
  | nil => exact ⟨rfl, rfl⟩
  | cons w W =>
    have h2 : w = 40 ∨ w = 124 := h
    unfold stp nts
    rw [if_neg (by omega), if_neg (by omega)]
    exact ⟨rfl, rfl⟩
theorem stp_38 (W : List Int) : stp (38 :: W) = 38 :: W ∧ nts (38 :: W) = [] := by
  unfold stp nts
  rw [if_neg (by omega), if_neg (by omega)]
  exact ⟨rfl, rfl⟩
theorem anyO_all {W : List Int} (h : anyO W) : allO W := by
  cases W with
  | nil => trivial
  | cons w W => exact Or.inl h
theorem Bd_len {m0 : PM} {B a a2 : Int} {W W2 E E2 : List Int} (h : Bd m0 B a W E) (h1 : a ≤ a2) (h2 : a2 ≤ m0 81 6) (h3 : (E2.length : Int) + W2.length ≤ E.length + W.length + (a2 - a)) (h4 : (W2.length : Int) ≤ W.length + (a2 - a)) : Bd m0 B a2 W2 E2 := by
  obtain ⟨d1, d2, d3, d4, d5, d6, d7, d8⟩ := h
  exact ⟨d1, d2, d3, d4, by omega, h2, by omega, by omega⟩
theorem ng_len (P : List Int) : (ng P).length = P.length := by unfold ng; rw [List.length_map]
theorem opn_ap {P W : List Int} (h : ∀ p ∈ P, p = 38 ∨ p = 124) : opn (P ++ W) = opn W := by
  induction P with
  | nil => rfl
  | cons p P ih =>
    rw [List.cons_append, opn_c, if_neg (by have := h p List.mem_cons_self; omega), ih (fun q hq => h q (List.mem_cons_of_mem _ hq))]
    omega
theorem trS_not : trS (-1) = -33 := by decide
theorem trS_and : trS (-2) = -38 := by decide
theorem trS_or : trS (-3) = -124 := by decide
theorem sStop_any {W : List Int} (h : anyO W) : sStop 124 W := by
  cases W with
  | nil => trivial
  | cons w W =>
    have h2 : w = 40 := h
    show ¬ sPop 124 w
    unfold sPop; omega
theorem sStop_all {W : List Int} (h : allO W) : sStop 38 W := by
  cases W with
  | nil => trivial
  | cons w W =>
    have h2 : w = 40 ∨ w = 124 := h
    show ¬ sPop 38 w
    unfold sPop; omega
theorem lp_go {f : Int → RR} {T : Int → Int} {n sep op : Int} {k : Nat} {r : RR} (h1 : r.1 = true) (h2 : nxt T n r.2.1 = sep) (h3 : (f (r.2.1 + 1)).1 = true) : lp f T n sep op (k + 1) r = lp f T n sep op k (true, ((f (r.2.1 + 1)).2.1, r.2.2 ++ (f (r.2.1 + 1)).2.2 ++ [op])) := by
  rw [lp, if_pos ⟨h1, h2⟩, if_pos h3]
theorem lp_no {f : Int → RR} {T : Int → Int} {n sep op : Int} {k : Nat} {r : RR} (h1 : r.1 = true) (h2 : nxt T n r.2.1 = sep) (h3 : (f (r.2.1 + 1)).1 = false) : lp f T n sep op (k + 1) r = (false, ((f (r.2.1 + 1)).2.1, r.2.2 ++ (f (r.2.1 + 1)).2.2)) := by
  rw [lp, if_pos ⟨h1, h2⟩, if_neg (by rw [h3]; decide)]
theorem lp_end {f : Int → RR} {T : Int → Int} {n sep op : Int} {k : Nat} {r : RR} (h2 : nxt T n r.2.1 ≠ sep) : lp f T n sep op k r = r := by
  cases k with
  | zero => rfl
  | succ k => rw [lp, if_neg (fun h => h2 h.2)]
set_option maxHeartbeats 1000000 in
theorem vc_not {d : Nat} {m0 : PM} {c B : Int} {dy : List (Nat × Nat)} {L : Nat} {Q : Option PV → PS → Prop} (hd : 5 ≤ d) {W E : List Int} {m : PM} {a : Int} (x3 : Option PV) (hc : 0 ≤ c ∧ c < 60) (hSt : St m0 m c a W E) (hBd : Bd m0 B a W E) (ho : opn W < 4) (hb : nxt (m0 86) (m0 81 6) a = 33) (go : ∀ (m' : PM) (x3 : Option PV), St m0 m' c (a + 1) (33 :: W) E → V d 137 (22, ([some (.inr (.inr 81)), some (.inl c), some (.inl 1), x3], ([], (m', (none, (dy, L)))))) Q) : V d 137 (22, ([some (.inr (.inr 81)), some (.inl c), some (.inl 1), x3], ([], (m, (none, (dy, L)))))) Q := by
  obtain ⟨d1, d2, d3, d4, d5, d6, d7, d8⟩ := hBd
  have h86 : m 86 = m0 86 := hSt.1 86 (by omega) (by omega) (by omega) (by omega)
  have h6 : m 81 6 = m0 81 6 := hSt.2.1 6 (by omega) (by omega) (by omega) (by omega) (by omega)
  have h7 := hSt.2.2.2.1
  have h17 := hSt.2.2.2.2.2.2.1
  have h18 := hSt.2.2.2.2.1
  have h19 := hSt.2.2.2.2.2.1
  have hws := hSt.2.2.2.2.2.2.2.2.2
  have hb2 : nxt (m 86) (m 81 6) (m 81 7) = 33 := by rw [h86, h6, h7]; exact hb
  have hop := opn_in W
  refine v_aload_n (n := 23) xB_137 dX11_takesE_22 rfl rfl ?_
  refine v_call_v (n := 26) xB_137 dX11_takesE_23 xO_137 iv_11_229 rfl (sh_81 _ _ _) rfl rfl rfl ?_
  refine c_next (by omega) (by first | omega | (simp only [sA_same, sA_s, ud_s, Int.reduceEq, if_true, if_false, ite_true, ite_false, ↓reduceIte, and_true, true_and, eq_self, Int.add_zero, Int.reduceAdd]; omega) | (simp (disch := omega) only [sA_same, sA_ne, ud_eq, ud_ne, Int.add_zero, Int.reduceAdd]; omega)) ?_
  refine v_istore_n3 (n := 27) xB_137 dX11_takesE_26 rfl rfl ?_
  refine v_iload_n (n := 28) xB_137 dX11_takesE_27 rfl rfl ?_
  refine v_if_eq_n (n := 31) xB_137 dX11_takesE_28 (by decide) rfl (by decide) ?_
  refine v_iload_n (n := 32) xB_137 dX11_takesE_31 rfl rfl ?_
  refine v_bipush (n := 34) xB_137 dX11_takesE_32 ⟨by decide, by decide⟩ rfl ?_
  refine v_ic_eq_y (t := 43) xB_137 dX11_takesE_34 (by decide) rfl (by first | omega | (simp only [sA_same, sA_s, ud_s, Int.reduceEq, if_true, if_false, ite_true, ite_false, ↓reduceIte, and_true, true_and, eq_self, Int.add_zero, Int.reduceAdd]; omega) | (simp (disch := omega) only [sA_same, sA_ne, ud_eq, ud_ne, Int.add_zero, Int.reduceAdd]; omega)) ?_
  refine v_aload_n (n := 44) xB_137 dX11_takesE_43 rfl rfl ?_
  refine v_gf_i (n := 47) (kz := 19) xB_137 dX11_takesE_44 xO_137 fl_11_68 fg_11_19 rfl (sh_81 _ _ _) rfl rfl ?_
  refine v_iconst (n := 48) xB_137 dX11_takesE_47 ⟨by decide, by decide⟩ rfl ?_
  refine v_ic_ne_y (t := 53) xB_137 dX11_takesE_48 (by decide) rfl (by first | omega | (simp only [sA_same, sA_s, ud_s, Int.reduceEq, if_true, if_false, ite_true, ite_false, ↓reduceIte, and_true, true_and, eq_self, Int.add_zero, Int.reduceAdd]; omega) | (simp (disch := omega) only [sA_same, sA_ne, ud_eq, ud_ne, Int.add_zero, Int.reduceAdd]; omega)) ?_
  refine v_aload_n (n := 54) xB_137 dX11_takesE_53 rfl rfl ?_
  refine v_dup (n := 55) xB_137 dX11_takesE_54 rfl rfl ?_
  refine v_gf_i (n := 58) (kz := 19) xB_137 dX11_takesE_55 xO_137 fl_11_68 fg_11_19 rfl (sh_81 _ _ _) rfl rfl ?_
  refine v_iconst (n := 59) xB_137 dX11_takesE_58 ⟨by decide, by decide⟩ rfl ?_
  refine v_iadd (n := 60) xB_137 dX11_takesE_59 (by first | omega | (simp only [sA_same, sA_s, ud_s, Int.reduceEq, if_true, if_false, ite_true, ite_false, ↓reduceIte, and_true, true_and, eq_self, Int.add_zero, Int.reduceAdd]; omega) | (simp (disch := omega) only [sA_same, sA_ne, ud_eq, ud_ne, Int.add_zero, Int.reduceAdd]; omega)) rfl ?_
  refine v_pf_i (n := 63) (kz := 19) xB_137 dX11_takesE_60 xO_137 fl_11_68 fg_11_19 (Or.inl fn_11_19) (sh_81 _ _ _) (by decide) rfl rfl ?_
  (try simp (disch := omega) only [sA_same, sA_ne, sA_sA, sA_sr, sB_s, ud_eq, ud_ne, ud_ud, ud_sr, uB_s, Int.add_zero, Int.reduceAdd])
  refine v_aload_n (n := 64) xB_137 dX11_takesE_63 rfl rfl ?_
  refine v_gf_s (n := 67) (kz := 16) xB_137 dX11_takesE_64 xO_137 fl_11_59 fg_11_16 (sh_81 _ _ _) rfl st_81_16 rfl ?_
  refine v_aload_n (n := 68) xB_137 dX11_takesE_67 rfl rfl ?_
  refine v_gf_i (n := 71) (kz := 18) xB_137 dX11_takesE_68 xO_137 fl_11_65 fg_11_18 rfl (sh_81 _ _ _) rfl rfl ?_
  refine v_iload_n (n := 72) xB_137 dX11_takesE_71 rfl rfl ?_
  refine v_iastore (n := 73) (lz := 101) xB_137 dX11_takesE_72 (sh_93 _ _ _) (by decide) rfl (by first | omega | (simp only [sA_same, sA_s, ud_s, Int.reduceEq, if_true, if_false, ite_true, ite_false, ↓reduceIte, and_true, true_and, eq_self, Int.add_zero, Int.reduceAdd]; omega) | (simp (disch := omega) only [sA_same, sA_ne, ud_eq, ud_ne, Int.add_zero, Int.reduceAdd]; omega)) rfl ?_
  (try simp (disch := omega) only [sA_same, sA_ne, sA_sA, sA_sr, sB_s, ud_eq, ud_ne, ud_ud, ud_sr, uB_s, Int.add_zero, Int.reduceAdd])
  refine v_aload_n (n := 74) xB_137 dX11_takesE_73 rfl rfl ?_
  refine v_dup (n := 75) xB_137 dX11_takesE_74 rfl rfl ?_
  refine v_gf_i (n := 78) (kz := 18) xB_137 dX11_takesE_75 xO_137 fl_11_65 fg_11_18 rfl (sh_81 _ _ _) rfl rfl ?_
  refine v_iconst (n := 79) xB_137 dX11_takesE_78 ⟨by decide, by decide⟩ rfl ?_
  refine v_iadd (n := 80) xB_137 dX11_takesE_79 (by first | omega | (simp only [sA_same, sA_s, ud_s, Int.reduceEq, if_true, if_false, ite_true, ite_false, ↓reduceIte, and_true, true_and, eq_self, Int.add_zero, Int.reduceAdd]; omega) | (simp (disch := omega) only [sA_same, sA_ne, ud_eq, ud_ne, Int.add_zero, Int.reduceAdd]; omega)) rfl ?_
  refine v_pf_i (n := 83) (kz := 18) xB_137 dX11_takesE_80 xO_137 fl_11_65 fg_11_18 (Or.inl fn_11_18) (sh_81 _ _ _) (by decide) rfl rfl ?_
  (try simp (disch := omega) only [sA_same, sA_ne, sA_sA, sA_sr, sB_s, ud_eq, ud_ne, ud_ud, ud_sr, uB_s, Int.add_zero, Int.reduceAdd])
  refine v_aload_n (n := 84) xB_137 dX11_takesE_83 rfl rfl ?_
  refine v_dup (n := 85) xB_137 dX11_takesE_84 rfl rfl ?_
  refine v_gf_i (n := 88) (kz := 7) xB_137 dX11_takesE_85 xO_137 fl_11_32 fg_11_7 rfl (sh_81 _ _ _) rfl rfl ?_
  refine v_iconst (n := 89) xB_137 dX11_takesE_88 ⟨by decide, by decide⟩ rfl ?_
  refine v_iadd (n := 90) xB_137 dX11_takesE_89 (by first | omega | (simp only [sA_same, sA_s, ud_s, Int.reduceEq, if_true, if_false, ite_true, ite_false, ↓reduceIte, and_true, true_and, eq_self, Int.add_zero, Int.reduceAdd]; omega) | (simp (disch := omega) only [sA_same, sA_ne, ud_eq, ud_ne, Int.add_zero, Int.reduceAdd]; omega)) rfl ?_
  refine v_pf_i (n := 93) (kz := 7) xB_137 dX11_takesE_90 xO_137 fl_11_32 fg_11_7 (Or.inl fn_11_7) (sh_81 _ _ _) (by decide) rfl rfl ?_
  (try simp (disch := omega) only [sA_same, sA_ne, sA_sA, sA_sr, sB_s, ud_eq, ud_ne, ud_ud, ud_sr, uB_s, Int.add_zero, Int.reduceAdd])
  refine v_goto (t := 22) xB_137 dX11_takesE_93 (by decide) rfl ?_
  rw [hb2]
  exact go _ _ (St_push hSt (w := 33) (a2 := a + 1) (fun k p q r s t => by simp (disch := omega) only [ud_ne]) (by simp (disch := omega) only [ud_eq, ud_ne, h7]) (by simp (disch := omega) only [ud_ne]) (by simp (disch := omega) only [ud_eq, ud_ne]) (by simp (disch := omega) only [ud_eq, ud_ne]; rw [h19, opn_c, if_pos (by omega)]; omega) rfl)
set_option maxHeartbeats 1000000 in
theorem vc_par {d : Nat} {m0 : PM} {c B : Int} {dy : List (Nat × Nat)} {L : Nat} {Q : Option PV → PS → Prop} (hd : 5 ≤ d) {W E : List Int} {m : PM} {a : Int} (x3 : Option PV) (hc : 0 ≤ c ∧ c < 60) (hSt : St m0 m c a W E) (hBd : Bd m0 B a W E) (ho : opn W < 4) (hb : nxt (m0 86) (m0 81 6) a = 40) (go : ∀ (m' : PM) (x3 : Option PV), St m0 m' c (a + 1) (40 :: W) E → V d 137 (22, ([some (.inr (.inr 81)), some (.inl c), some (.inl 1), x3], ([], (m', (none, (dy, L)))))) Q) : V d 137 (22, ([some (.inr (.inr 81)), some (.inl c), some (.inl 1), x3], ([], (m, (none, (dy, L)))))) Q := by
  obtain ⟨d1, d2, d3, d4, d5, d6, d7, d8⟩ := hBd
  have h86 : m 86 = m0 86 := hSt.1 86 (by omega) (by omega) (by omega) (by omega)
  have h6 : m 81 6 = m0 81 6 := hSt.2.1 6 (by omega) (by omega) (by omega) (by omega) (by omega)
  have h7 := hSt.2.2.2.1
  have h17 := hSt.2.2.2.2.2.2.1
  have h18 := hSt.2.2.2.2.1
  have h19 := hSt.2.2.2.2.2.1
  have hws := hSt.2.2.2.2.2.2.2.2.2
  have hb2 : nxt (m 86) (m 81 6) (m 81 7) = 40 := by rw [h86, h6, h7]; exact hb
  have hop := opn_in W
  refine v_aload_n (n := 23) xB_137 dX11_takesE_22 rfl rfl ?_
  refine v_call_v (n := 26) xB_137 dX11_takesE_23 xO_137 iv_11_229 rfl (sh_81 _ _ _) rfl rfl rfl ?_
  refine c_next (by omega) (by first | omega | (simp only [sA_same, sA_s, ud_s, Int.reduceEq, if_true, if_false, ite_true, ite_false, ↓reduceIte, and_true, true_and, eq_self, Int.add_zero, Int.reduceAdd]; omega) | (simp (disch := omega) only [sA_same, sA_ne, ud_eq, ud_ne, Int.add_zero, Int.reduceAdd]; omega)) ?_
  refine v_istore_n3 (n := 27) xB_137 dX11_takesE_26 rfl rfl ?_
  refine v_iload_n (n := 28) xB_137 dX11_takesE_27 rfl rfl ?_
  refine v_if_eq_n (n := 31) xB_137 dX11_takesE_28 (by decide) rfl (by decide) ?_
  refine v_iload_n (n := 32) xB_137 dX11_takesE_31 rfl rfl ?_
  refine v_bipush (n := 34) xB_137 dX11_takesE_32 ⟨by decide, by decide⟩ rfl ?_
  refine v_ic_eq_n (n := 37) xB_137 dX11_takesE_34 (by decide) rfl (by first | omega | (simp only [sA_same, sA_s, ud_s, Int.reduceEq, if_true, if_false, ite_true, ite_false, ↓reduceIte, and_true, true_and, eq_self, Int.add_zero, Int.reduceAdd]; omega) | (simp (disch := omega) only [sA_same, sA_ne, ud_eq, ud_ne, Int.add_zero, Int.reduceAdd]; omega)) ?_
  refine v_iload_n (n := 38) xB_137 dX11_takesE_37 rfl rfl ?_
  refine v_bipush (n := 40) xB_137 dX11_takesE_38 ⟨by decide, by decide⟩ rfl ?_
  refine v_ic_ne_n (n := 43) xB_137 dX11_takesE_40 (by decide) rfl (by first | omega | (simp only [sA_same, sA_s, ud_s, Int.reduceEq, if_true, if_false, ite_true, ite_false, ↓reduceIte, and_true, true_and, eq_self, Int.add_zero, Int.reduceAdd]; omega) | (simp (disch := omega) only [sA_same, sA_ne, ud_eq, ud_ne, Int.add_zero, Int.reduceAdd]; omega)) ?_
  refine v_aload_n (n := 44) xB_137 dX11_takesE_43 rfl rfl ?_
  refine v_gf_i (n := 47) (kz := 19) xB_137 dX11_takesE_44 xO_137 fl_11_68 fg_11_19 rfl (sh_81 _ _ _) rfl rfl ?_
  refine v_iconst (n := 48) xB_137 dX11_takesE_47 ⟨by decide, by decide⟩ rfl ?_
  refine v_ic_ne_y (t := 53) xB_137 dX11_takesE_48 (by decide) rfl (by first | omega | (simp only [sA_same, sA_s, ud_s, Int.reduceEq, if_true, if_false, ite_true, ite_false, ↓reduceIte, and_true, true_and, eq_self, Int.add_zero, Int.reduceAdd]; omega) | (simp (disch := omega) only [sA_same, sA_ne, ud_eq, ud_ne, Int.add_zero, Int.reduceAdd]; omega)) ?_
  refine v_aload_n (n := 54) xB_137 dX11_takesE_53 rfl rfl ?_
  refine v_dup (n := 55) xB_137 dX11_takesE_54 rfl rfl ?_
  refine v_gf_i (n := 58) (kz := 19) xB_137 dX11_takesE_55 xO_137 fl_11_68 fg_11_19 rfl (sh_81 _ _ _) rfl rfl ?_
  refine v_iconst (n := 59) xB_137 dX11_takesE_58 ⟨by decide, by decide⟩ rfl ?_
  refine v_iadd (n := 60) xB_137 dX11_takesE_59 (by first | omega | (simp only [sA_same, sA_s, ud_s, Int.reduceEq, if_true, if_false, ite_true, ite_false, ↓reduceIte, and_true, true_and, eq_self, Int.add_zero, Int.reduceAdd]; omega) | (simp (disch := omega) only [sA_same, sA_ne, ud_eq, ud_ne, Int.add_zero, Int.reduceAdd]; omega)) rfl ?_
  refine v_pf_i (n := 63) (kz := 19) xB_137 dX11_takesE_60 xO_137 fl_11_68 fg_11_19 (Or.inl fn_11_19) (sh_81 _ _ _) (by decide) rfl rfl ?_
  (try simp (disch := omega) only [sA_same, sA_ne, sA_sA, sA_sr, sB_s, ud_eq, ud_ne, ud_ud, ud_sr, uB_s, Int.add_zero, Int.reduceAdd])
  refine v_aload_n (n := 64) xB_137 dX11_takesE_63 rfl rfl ?_
  refine v_gf_s (n := 67) (kz := 16) xB_137 dX11_takesE_64 xO_137 fl_11_59 fg_11_16 (sh_81 _ _ _) rfl st_81_16 rfl ?_
  refine v_aload_n (n := 68) xB_137 dX11_takesE_67 rfl rfl ?_
  refine v_gf_i (n := 71) (kz := 18) xB_137 dX11_takesE_68 xO_137 fl_11_65 fg_11_18 rfl (sh_81 _ _ _) rfl rfl ?_
  refine v_iload_n (n := 72) xB_137 dX11_takesE_71 rfl rfl ?_
  refine v_iastore (n := 73) (lz := 101) xB_137 dX11_takesE_72 (sh_93 _ _ _) (by decide) rfl (by first | omega | (simp only [sA_same, sA_s, ud_s, Int.reduceEq, if_true, if_false, ite_true, ite_false, ↓reduceIte, and_true, true_and, eq_self, Int.add_zero, Int.reduceAdd]; omega) | (simp (disch := omega) only [sA_same, sA_ne, ud_eq, ud_ne, Int.add_zero, Int.reduceAdd]; omega)) rfl ?_
  (try simp (disch := omega) only [sA_same, sA_ne, sA_sA, sA_sr, sB_s, ud_eq, ud_ne, ud_ud, ud_sr, uB_s, Int.add_zero, Int.reduceAdd])
  refine v_aload_n (n := 74) xB_137 dX11_takesE_73 rfl rfl ?_
  refine v_dup (n := 75) xB_137 dX11_takesE_74 rfl rfl ?_
  refine v_gf_i (n := 78) (kz := 18) xB_137 dX11_takesE_75 xO_137 fl_11_65 fg_11_18 rfl (sh_81 _ _ _) rfl rfl ?_
  refine v_iconst (n := 79) xB_137 dX11_takesE_78 ⟨by decide, by decide⟩ rfl ?_
  refine v_iadd (n := 80) xB_137 dX11_takesE_79 (by first | omega | (simp only [sA_same, sA_s, ud_s, Int.reduceEq, if_true, if_false, ite_true, ite_false, ↓reduceIte, and_true, true_and, eq_self, Int.add_zero, Int.reduceAdd]; omega) | (simp (disch := omega) only [sA_same, sA_ne, ud_eq, ud_ne, Int.add_zero, Int.reduceAdd]; omega)) rfl ?_
  refine v_pf_i (n := 83) (kz := 18) xB_137 dX11_takesE_80 xO_137 fl_11_65 fg_11_18 (Or.inl fn_11_18) (sh_81 _ _ _) (by decide) rfl rfl ?_
  (try simp (disch := omega) only [sA_same, sA_ne, sA_sA, sA_sr, sB_s, ud_eq, ud_ne, ud_ud, ud_sr, uB_s, Int.add_zero, Int.reduceAdd])
  refine v_aload_n (n := 84) xB_137 dX11_takesE_83 rfl rfl ?_
  refine v_dup (n := 85) xB_137 dX11_takesE_84 rfl rfl ?_
  refine v_gf_i (n := 88) (kz := 7) xB_137 dX11_takesE_85 xO_137 fl_11_32 fg_11_7 rfl (sh_81 _ _ _) rfl rfl ?_
  refine v_iconst (n := 89) xB_137 dX11_takesE_88 ⟨by decide, by decide⟩ rfl ?_
  refine v_iadd (n := 90) xB_137 dX11_takesE_89 (by first | omega | (simp only [sA_same, sA_s, ud_s, Int.reduceEq, if_true, if_false, ite_true, ite_false, ↓reduceIte, and_true, true_and, eq_self, Int.add_zero, Int.reduceAdd]; omega) | (simp (disch := omega) only [sA_same, sA_ne, ud_eq, ud_ne, Int.add_zero, Int.reduceAdd]; omega)) rfl ?_
  refine v_pf_i (n := 93) (kz := 7) xB_137 dX11_takesE_90 xO_137 fl_11_32 fg_11_7 (Or.inl fn_11_7) (sh_81 _ _ _) (by decide) rfl rfl ?_
  (try simp (disch := omega) only [sA_same, sA_ne, sA_sA, sA_sr, sB_s, ud_eq, ud_ne, ud_ud, ud_sr, uB_s, Int.add_zero, Int.reduceAdd])
  refine v_goto (t := 22) xB_137 dX11_takesE_93 (by decide) rfl ?_
  rw [hb2]
  exact go _ _ (St_push hSt (w := 40) (a2 := a + 1) (fun k p q r s t => by simp (disch := omega) only [ud_ne]) (by simp (disch := omega) only [ud_eq, ud_ne, h7]) (by simp (disch := omega) only [ud_ne]) (by simp (disch := omega) only [ud_eq, ud_ne]) (by simp (disch := omega) only [ud_eq, ud_ne]; rw [h19, opn_c, if_pos (by omega)]; omega) rfl)
set_option maxHeartbeats 1000000 in
theorem vc_deep {d : Nat} {m0 : PM} {c B : Int} {dy : List (Nat × Nat)} {L : Nat} {Q : Option PV → PS → Prop} (hd : 5 ≤ d) {W E : List Int} {m : PM} {a : Int} (x3 : Option PV) (hSt : St m0 m c a W E) (hBd : Bd m0 B a W E) (ho : opn W = 4) (hb : nxt (m0 86) (m0 81 6) a = 33 ∨ nxt (m0 86) (m0 81 6) a = 40) (no : Q (some (.inl 0)) (m, (none, (dy, L)))) : V d 137 (22, ([some (.inr (.inr 81)), some (.inl c), some (.inl 1), x3], ([], (m, (none, (dy, L)))))) Q := by
  obtain ⟨d1, d2, d3, d4, d5, d6, d7, d8⟩ := hBd
  have h86 : m 86 = m0 86 := hSt.1 86 (by omega) (by omega) (by omega) (by omega)
  have h6 : m 81 6 = m0 81 6 := hSt.2.1 6 (by omega) (by omega) (by omega) (by omega) (by omega)
  have h7 := hSt.2.2.2.1
  have h17 := hSt.2.2.2.2.2.2.1
  have h18 := hSt.2.2.2.2.1
  have h19 := hSt.2.2.2.2.2.1
  have hws := hSt.2.2.2.2.2.2.2.2.2
  have hb2 : nxt (m 86) (m 81 6) (m 81 7) = 33 ∨ nxt (m 86) (m 81 6) (m 81 7) = 40 := by rw [h86, h6, h7]; exact hb
  rcases hb2 with hb2 | hb2
  · refine v_aload_n (n := 23) xB_137 dX11_takesE_22 rfl rfl ?_
    refine v_call_v (n := 26) xB_137 dX11_takesE_23 xO_137 iv_11_229 rfl (sh_81 _ _ _) rfl rfl rfl ?_
    refine c_next (by omega) (by first | omega | (simp only [sA_same, sA_s, ud_s, Int.reduceEq, if_true, if_false, ite_true, ite_false, ↓reduceIte, and_true, true_and, eq_self, Int.add_zero, Int.reduceAdd]; omega) | (simp (disch := omega) only [sA_same, sA_ne, ud_eq, ud_ne, Int.add_zero, Int.reduceAdd]; omega)) ?_
    refine v_istore_n3 (n := 27) xB_137 dX11_takesE_26 rfl rfl ?_
    refine v_iload_n (n := 28) xB_137 dX11_takesE_27 rfl rfl ?_
    refine v_if_eq_n (n := 31) xB_137 dX11_takesE_28 (by decide) rfl (by decide) ?_
    refine v_iload_n (n := 32) xB_137 dX11_takesE_31 rfl rfl ?_
    refine v_bipush (n := 34) xB_137 dX11_takesE_32 ⟨by decide, by decide⟩ rfl ?_
    refine v_ic_eq_y (t := 43) xB_137 dX11_takesE_34 (by decide) rfl (by first | omega | (simp only [sA_same, sA_s, ud_s, Int.reduceEq, if_true, if_false, ite_true, ite_false, ↓reduceIte, and_true, true_and, eq_self, Int.add_zero, Int.reduceAdd]; omega) | (simp (disch := omega) only [sA_same, sA_ne, ud_eq, ud_ne, Int.add_zero, Int.reduceAdd]; omega)) ?_
    refine v_aload_n (n := 44) xB_137 dX11_takesE_43 rfl rfl ?_
    refine v_gf_i (n := 47) (kz := 19) xB_137 dX11_takesE_44 xO_137 fl_11_68 fg_11_19 rfl (sh_81 _ _ _) rfl rfl ?_
    refine v_iconst (n := 48) xB_137 dX11_takesE_47 ⟨by decide, by decide⟩ rfl ?_
    refine v_ic_ne_n (n := 51) xB_137 dX11_takesE_48 (by decide) rfl (by first | omega | (simp only [sA_same, sA_s, ud_s, Int.reduceEq, if_true, if_false, ite_true, ite_false, ↓reduceIte, and_true, true_and, eq_self, Int.add_zero, Int.reduceAdd]; omega) | (simp (disch := omega) only [sA_same, sA_ne, ud_eq, ud_ne, Int.add_zero, Int.reduceAdd]; omega)) ?_
    refine v_iconst (n := 52) xB_137 dX11_takesE_51 ⟨by decide, by decide⟩ rfl ?_
    refine v_ireturn1 xB_137 dX11_takesE_52 xK_137 (by decide) ?_
    exact no
  · refine v_aload_n (n := 23) xB_137 dX11_takesE_22 rfl rfl ?_
    refine v_call_v (n := 26) xB_137 dX11_takesE_23 xO_137 iv_11_229 rfl (sh_81 _ _ _) rfl rfl rfl ?_
    refine c_next (by omega) (by first | omega | (simp only [sA_same, sA_s, ud_s, Int.reduceEq, if_true, if_false, ite_true, ite_false, ↓reduceIte, and_true, true_and, eq_self, Int.add_zero, Int.reduceAdd]; omega) | (simp (disch := omega) only [sA_same, sA_ne, ud_eq, ud_ne, Int.add_zero, Int.reduceAdd]; omega)) ?_
    refine v_istore_n3 (n := 27) xB_137 dX11_takesE_26 rfl rfl ?_
    refine v_iload_n (n := 28) xB_137 dX11_takesE_27 rfl rfl ?_
    refine v_if_eq_n (n := 31) xB_137 dX11_takesE_28 (by decide) rfl (by decide) ?_
    refine v_iload_n (n := 32) xB_137 dX11_takesE_31 rfl rfl ?_
    refine v_bipush (n := 34) xB_137 dX11_takesE_32 ⟨by decide, by decide⟩ rfl ?_
    refine v_ic_eq_n (n := 37) xB_137 dX11_takesE_34 (by decide) rfl (by first | omega | (simp only [sA_same, sA_s, ud_s, Int.reduceEq, if_true, if_false, ite_true, ite_false, ↓reduceIte, and_true, true_and, eq_self, Int.add_zero, Int.reduceAdd]; omega) | (simp (disch := omega) only [sA_same, sA_ne, ud_eq, ud_ne, Int.add_zero, Int.reduceAdd]; omega)) ?_
    refine v_iload_n (n := 38) xB_137 dX11_takesE_37 rfl rfl ?_
    refine v_bipush (n := 40) xB_137 dX11_takesE_38 ⟨by decide, by decide⟩ rfl ?_
    refine v_ic_ne_n (n := 43) xB_137 dX11_takesE_40 (by decide) rfl (by first | omega | (simp only [sA_same, sA_s, ud_s, Int.reduceEq, if_true, if_false, ite_true, ite_false, ↓reduceIte, and_true, true_and, eq_self, Int.add_zero, Int.reduceAdd]; omega) | (simp (disch := omega) only [sA_same, sA_ne, ud_eq, ud_ne, Int.add_zero, Int.reduceAdd]; omega)) ?_
    refine v_aload_n (n := 44) xB_137 dX11_takesE_43 rfl rfl ?_
    refine v_gf_i (n := 47) (kz := 19) xB_137 dX11_takesE_44 xO_137 fl_11_68 fg_11_19 rfl (sh_81 _ _ _) rfl rfl ?_
    refine v_iconst (n := 48) xB_137 dX11_takesE_47 ⟨by decide, by decide⟩ rfl ?_
    refine v_ic_ne_n (n := 51) xB_137 dX11_takesE_48 (by decide) rfl (by first | omega | (simp only [sA_same, sA_s, ud_s, Int.reduceEq, if_true, if_false, ite_true, ite_false, ↓reduceIte, and_true, true_and, eq_self, Int.add_zero, Int.reduceAdd]; omega) | (simp (disch := omega) only [sA_same, sA_ne, ud_eq, ud_ne, Int.add_zero, Int.reduceAdd]; omega)) ?_
    refine v_iconst (n := 52) xB_137 dX11_takesE_51 ⟨by decide, by decide⟩ rfl ?_
    refine v_ireturn1 xB_137 dX11_takesE_52 xK_137 (by decide) ?_
    exact no
set_option maxHeartbeats 1000000 in
theorem vc_tst {d : Nat} {m0 : PM} {c B : Int} {dy : List (Nat × Nat)} {L : Nat} {Q : Option PV → PS → Prop} (hd : 5 ≤ d) {W E : List Int} {m : PM} {a : Int} (x3 : Option PV) (hSt : St m0 m c a W E) (hBd : Bd m0 B a W E) (hb : ¬ (nxt (m0 86) (m0 81 6) a = 33 ∨ nxt (m0 86) (m0 81 6) a = 40)) (go : (tst (m0 86) (m0 81 6) a).1 = true → ∀ (m' : PM) (x3 : Option PV), St m0 m' c (tst (m0 86) (m0 81 6) a).2.1 (stp W) (E ++ (tst (m0 86) (m0 81 6) a).2.2.map trS ++ nts W) → V d 137 (22, ([some (.inr (.inr 81)), some (.inl c), some (.inl 0), x3], ([], (m', (none, (dy, L)))))) Q) (no : (∀ (m' : PM) (W' E' : List Int), (tst (m0 86) (m0 81 6) a).1 = false → St m0 m' c (tst (m0 86) (m0 81 6) a).2.1 W' E' → Q (some (.inl 0)) (m', (none, (dy, L))))) : V d 137 (22, ([some (.inr (.inr 81)), some (.inl c), some (.inl 1), x3], ([], (m, (none, (dy, L)))))) Q := by
  have hBd0 := hBd
  obtain ⟨d1, d2, d3, d4, d5, d6, d7, d8⟩ := hBd
  have h86 : m 86 = m0 86 := hSt.1 86 (by omega) (by omega) (by omega) (by omega)
  have h6 : m 81 6 = m0 81 6 := hSt.2.1 6 (by omega) (by omega) (by omega) (by omega) (by omega)
  have h7 := hSt.2.2.2.1
  have h17 := hSt.2.2.2.2.2.2.1
  have h18 := hSt.2.2.2.2.1
  have h19 := hSt.2.2.2.2.2.1
  have hws := hSt.2.2.2.2.2.2.2.2.2
  have hb2 : ¬ (nxt (m 86) (m 81 6) (m 81 7) = 33 ∨ nxt (m 86) (m 81 6) (m 81 7) = 40) := by rw [h86, h6, h7]; exact hb
  refine v_aload_n (n := 23) xB_137 dX11_takesE_22 rfl rfl ?_
  refine v_call_v (n := 26) xB_137 dX11_takesE_23 xO_137 iv_11_229 rfl (sh_81 _ _ _) rfl rfl rfl ?_
  refine c_next (by omega) (by first | omega | (simp only [sA_same, sA_s, ud_s, Int.reduceEq, if_true, if_false, ite_true, ite_false, ↓reduceIte, and_true, true_and, eq_self, Int.add_zero, Int.reduceAdd]; omega) | (simp (disch := omega) only [sA_same, sA_ne, ud_eq, ud_ne, Int.add_zero, Int.reduceAdd]; omega)) ?_
  refine v_istore_n3 (n := 27) xB_137 dX11_takesE_26 rfl rfl ?_
  refine v_iload_n (n := 28) xB_137 dX11_takesE_27 rfl rfl ?_
  refine v_if_eq_n (n := 31) xB_137 dX11_takesE_28 (by decide) rfl (by decide) ?_
  refine v_iload_n (n := 32) xB_137 dX11_takesE_31 rfl rfl ?_
  refine v_bipush (n := 34) xB_137 dX11_takesE_32 ⟨by decide, by decide⟩ rfl ?_
  refine v_ic_eq_n (n := 37) xB_137 dX11_takesE_34 (by decide) rfl (by first | omega | (simp only [sA_same, sA_s, ud_s, Int.reduceEq, if_true, if_false, ite_true, ite_false, ↓reduceIte, and_true, true_and, eq_self, Int.add_zero, Int.reduceAdd]; omega) | (simp (disch := omega) only [sA_same, sA_ne, ud_eq, ud_ne, Int.add_zero, Int.reduceAdd]; omega)) ?_
  refine v_iload_n (n := 38) xB_137 dX11_takesE_37 rfl rfl ?_
  refine v_bipush (n := 40) xB_137 dX11_takesE_38 ⟨by decide, by decide⟩ rfl ?_
  refine v_ic_ne_y (t := 96) xB_137 dX11_takesE_40 (by decide) rfl (by first | omega | (simp only [sA_same, sA_s, ud_s, Int.reduceEq, if_true, if_false, ite_true, ite_false, ↓reduceIte, and_true, true_and, eq_self, Int.add_zero, Int.reduceAdd]; omega) | (simp (disch := omega) only [sA_same, sA_ne, ud_eq, ud_ne, Int.add_zero, Int.reduceAdd]; omega)) ?_
  refine v_aload_n (n := 97) xB_137 dX11_takesE_96 rfl rfl ?_
  refine v_call_v (n := 100) xB_137 dX11_takesE_97 xO_137 iv_11_254 rfl (sh_81 _ _ _) rfl rfl rfl ?_
  refine c_takesTest (by omega) h86 h6 h7 hSt hBd0 (fun gT mA hA => ?_) (fun gT mA WA EA hA => ?_)
  · refine v_if_eq_n (n := 103) xB_137 dX11_takesE_100 (by decide) rfl (by decide) ?_
    refine v_iconst (n := 104) xB_137 dX11_takesE_103 ⟨by decide, by decide⟩ rfl ?_
    refine v_istore_n2 (n := 105) xB_137 dX11_takesE_104 rfl rfl ?_
    refine v_goto (t := 22) xB_137 dX11_takesE_105 (by decide) rfl ?_
    exact go gT _ _ hA
  · refine v_if_eq_y (t := 108) xB_137 dX11_takesE_100 (by decide) rfl (by decide) ?_
    refine v_iconst (n := 109) xB_137 dX11_takesE_108 ⟨by decide, by decide⟩ rfl ?_
    refine v_ireturn1 xB_137 dX11_takesE_109 xK_137 (by decide) ?_
    exact no _ _ _ gT hA
set_option maxHeartbeats 1000000 in
theorem vc_and {d : Nat} {m0 : PM} {c B : Int} {dy : List (Nat × Nat)} {L : Nat} {Q : Option PV → PS → Prop} (hd : 5 ≤ d) {P W E : List Int} {m : PM} {a : Int} (x3 : Option PV) (hSt : St m0 m c a (P ++ W) E) (hBd : Bd m0 B a (P ++ W) E) (hb : nxt (m0 86) (m0 81 6) a = 38) (hP : ∀ p ∈ P, p = 38) (hW : allO W) (go : ∀ (m' : PM) (x3 : Option PV), St m0 m' c (a + 1) (38 :: W) (E ++ ng P) → V d 137 (22, ([some (.inr (.inr 81)), some (.inl c), some (.inl 1), x3], ([], (m', (none, (dy, L)))))) Q) : V d 137 (22, ([some (.inr (.inr 81)), some (.inl c), some (.inl 0), x3], ([], (m, (none, (dy, L)))))) Q := by
  obtain ⟨d1, d2, d3, d4, d5, d6, d7, d8⟩ := hBd
  have h86 : m 86 = m0 86 := hSt.1 86 (by omega) (by omega) (by omega) (by omega)
  have h6 : m 81 6 = m0 81 6 := hSt.2.1 6 (by omega) (by omega) (by omega) (by omega) (by omega)
  have h7 := hSt.2.2.2.1
  have h17 := hSt.2.2.2.2.2.2.1
  have h18 := hSt.2.2.2.2.1
  have h19 := hSt.2.2.2.2.2.1
  have hws := hSt.2.2.2.2.2.2.2.2.2
  have hb2 : nxt (m 86) (m 81 6) (m 81 7) = 38 := by rw [h86, h6, h7]; exact hb
  have hpl := List.length_append (as := P) (bs := W)
  refine v_aload_n (n := 23) xB_137 dX11_takesE_22 rfl rfl ?_
  refine v_call_v (n := 26) xB_137 dX11_takesE_23 xO_137 iv_11_229 rfl (sh_81 _ _ _) rfl rfl rfl ?_
  refine c_next (by omega) (by first | omega | (simp only [sA_same, sA_s, ud_s, Int.reduceEq, if_true, if_false, ite_true, ite_false, ↓reduceIte, and_true, true_and, eq_self, Int.add_zero, Int.reduceAdd]; omega) | (simp (disch := omega) only [sA_same, sA_ne, ud_eq, ud_ne, Int.add_zero, Int.reduceAdd]; omega)) ?_
  refine v_istore_n3 (n := 27) xB_137 dX11_takesE_26 rfl rfl ?_
  refine v_iload_n (n := 28) xB_137 dX11_takesE_27 rfl rfl ?_
  refine v_if_eq_y (t := 110) xB_137 dX11_takesE_28 (by decide) rfl (by decide) ?_
  refine v_iload_n (n := 111) xB_137 dX11_takesE_110 rfl rfl ?_
  refine v_bipush (n := 113) xB_137 dX11_takesE_111 ⟨by decide, by decide⟩ rfl ?_
  refine v_ic_eq_y (t := 122) xB_137 dX11_takesE_113 (by decide) rfl (by first | omega | (simp only [sA_same, sA_s, ud_s, Int.reduceEq, if_true, if_false, ite_true, ite_false, ↓reduceIte, and_true, true_and, eq_self, Int.add_zero, Int.reduceAdd]; omega) | (simp (disch := omega) only [sA_same, sA_ne, ud_eq, ud_ne, Int.add_zero, Int.reduceAdd]; omega)) ?_
  refine v_aload_n (n := 123) xB_137 dX11_takesE_122 rfl rfl ?_
  refine v_iload_n (n := 124) xB_137 dX11_takesE_123 rfl rfl ?_
  refine v_call_v (n := 127) xB_137 dX11_takesE_124 xO_137 iv_11_257 rfl (sh_81 _ _ _) rfl rfl rfl ?_
  rw [hb2]
  refine c_settle (P := P) (W := W) (E := E) (by omega) (sStop_all hW) (fun p hp => Or.inl (hP p hp)) hSt d1 (by omega) (by omega) (fun mA hA => ?_)
  have hB2 : Bd m0 B a W (E ++ ng P) := Bd_len ⟨d1, d2, d3, d4, d5, d6, d7, d8⟩ (by omega) (by omega) (by rw [List.length_append, ng_len]; omega) (by omega)
  clear d7 d8 hws h19 h18 h17 h7 h6 h86
  obtain ⟨-, -, -, -, -, -, d7, d8⟩ := hB2
  have h7 := hA.2.2.2.1
  have h18 := hA.2.2.2.2.1
  have h19 := hA.2.2.2.2.2.1
  refine v_aload_n (n := 128) xB_137 dX11_takesE_127 rfl rfl ?_
  refine v_gf_s (n := 131) (kz := 16) xB_137 dX11_takesE_128 xO_137 fl_11_59 fg_11_16 (sh_81 _ _ _) rfl st_81_16 rfl ?_
  refine v_aload_n (n := 132) xB_137 dX11_takesE_131 rfl rfl ?_
  refine v_gf_i (n := 135) (kz := 18) xB_137 dX11_takesE_132 xO_137 fl_11_65 fg_11_18 rfl (sh_81 _ _ _) rfl rfl ?_
  refine v_iload_n (n := 136) xB_137 dX11_takesE_135 rfl rfl ?_
  refine v_iastore (n := 137) (lz := 101) xB_137 dX11_takesE_136 (sh_93 _ _ _) (by decide) rfl (by first | omega | (simp only [sA_same, sA_s, ud_s, Int.reduceEq, if_true, if_false, ite_true, ite_false, ↓reduceIte, and_true, true_and, eq_self, Int.add_zero, Int.reduceAdd]; omega) | (simp (disch := omega) only [sA_same, sA_ne, ud_eq, ud_ne, Int.add_zero, Int.reduceAdd]; omega)) rfl ?_
  (try simp (disch := omega) only [sA_same, sA_ne, sA_sA, sA_sr, sB_s, ud_eq, ud_ne, ud_ud, ud_sr, uB_s, Int.add_zero, Int.reduceAdd])
  refine v_aload_n (n := 138) xB_137 dX11_takesE_137 rfl rfl ?_
  refine v_dup (n := 139) xB_137 dX11_takesE_138 rfl rfl ?_
  refine v_gf_i (n := 142) (kz := 18) xB_137 dX11_takesE_139 xO_137 fl_11_65 fg_11_18 rfl (sh_81 _ _ _) rfl rfl ?_
  refine v_iconst (n := 143) xB_137 dX11_takesE_142 ⟨by decide, by decide⟩ rfl ?_
  refine v_iadd (n := 144) xB_137 dX11_takesE_143 (by first | omega | (simp only [sA_same, sA_s, ud_s, Int.reduceEq, if_true, if_false, ite_true, ite_false, ↓reduceIte, and_true, true_and, eq_self, Int.add_zero, Int.reduceAdd]; omega) | (simp (disch := omega) only [sA_same, sA_ne, ud_eq, ud_ne, Int.add_zero, Int.reduceAdd]; omega)) rfl ?_
  refine v_pf_i (n := 147) (kz := 18) xB_137 dX11_takesE_144 xO_137 fl_11_65 fg_11_18 (Or.inl fn_11_18) (sh_81 _ _ _) (by decide) rfl rfl ?_
  (try simp (disch := omega) only [sA_same, sA_ne, sA_sA, sA_sr, sB_s, ud_eq, ud_ne, ud_ud, ud_sr, uB_s, Int.add_zero, Int.reduceAdd])
  refine v_iconst (n := 148) xB_137 dX11_takesE_147 ⟨by decide, by decide⟩ rfl ?_
  refine v_istore_n2 (n := 149) xB_137 dX11_takesE_148 rfl rfl ?_
  refine v_aload_n (n := 150) xB_137 dX11_takesE_149 rfl rfl ?_
  refine v_dup (n := 151) xB_137 dX11_takesE_150 rfl rfl ?_
  refine v_gf_i (n := 154) (kz := 7) xB_137 dX11_takesE_151 xO_137 fl_11_32 fg_11_7 rfl (sh_81 _ _ _) rfl rfl ?_
  refine v_iconst (n := 155) xB_137 dX11_takesE_154 ⟨by decide, by decide⟩ rfl ?_
  refine v_iadd (n := 156) xB_137 dX11_takesE_155 (by first | omega | (simp only [sA_same, sA_s, ud_s, Int.reduceEq, if_true, if_false, ite_true, ite_false, ↓reduceIte, and_true, true_and, eq_self, Int.add_zero, Int.reduceAdd]; omega) | (simp (disch := omega) only [sA_same, sA_ne, ud_eq, ud_ne, Int.add_zero, Int.reduceAdd]; omega)) rfl ?_
  refine v_pf_i (n := 159) (kz := 7) xB_137 dX11_takesE_156 xO_137 fl_11_32 fg_11_7 (Or.inl fn_11_7) (sh_81 _ _ _) (by decide) rfl rfl ?_
  (try simp (disch := omega) only [sA_same, sA_ne, sA_sA, sA_sr, sB_s, ud_eq, ud_ne, ud_ud, ud_sr, uB_s, Int.add_zero, Int.reduceAdd])
  refine v_goto (t := 22) xB_137 dX11_takesE_159 (by decide) rfl ?_
  exact go _ _ (St_push hA (w := 38) (a2 := a + 1) (fun k p q r s t => by simp (disch := omega) only [ud_ne]) (by simp (disch := omega) only [ud_eq, ud_ne, h7]) (by simp (disch := omega) only [ud_ne]) (by simp (disch := omega) only [ud_eq, ud_ne]) (by simp (disch := omega) only [ud_ne]; rw [h19, opn_c, if_neg (by omega)]; omega) rfl)
set_option maxHeartbeats 1000000 in
theorem vc_or {d : Nat} {m0 : PM} {c B : Int} {dy : List (Nat × Nat)} {L : Nat} {Q : Option PV → PS → Prop} (hd : 5 ≤ d) {P W E : List Int} {m : PM} {a : Int} (x3 : Option PV) (hSt : St m0 m c a (P ++ W) E) (hBd : Bd m0 B a (P ++ W) E) (hb : nxt (m0 86) (m0 81 6) a = 124) (hP : ∀ p ∈ P, p = 38 ∨ p = 124) (hW : anyO W) (go : ∀ (m' : PM) (x3 : Option PV), St m0 m' c (a + 1) (124 :: W) (E ++ ng P) → V d 137 (22, ([some (.inr (.inr 81)), some (.inl c), some (.inl 1), x3], ([], (m', (none, (dy, L)))))) Q) : V d 137 (22, ([some (.inr (.inr 81)), some (.inl c), some (.inl 0), x3], ([], (m, (none, (dy, L)))))) Q := by
  obtain ⟨d1, d2, d3, d4, d5, d6, d7, d8⟩ := hBd
  have h86 : m 86 = m0 86 := hSt.1 86 (by omega) (by omega) (by omega) (by omega)
  have h6 : m 81 6 = m0 81 6 := hSt.2.1 6 (by omega) (by omega) (by omega) (by omega) (by omega)
  have h7 := hSt.2.2.2.1
  have h17 := hSt.2.2.2.2.2.2.1
  have h18 := hSt.2.2.2.2.1
  have h19 := hSt.2.2.2.2.2.1
  have hws := hSt.2.2.2.2.2.2.2.2.2
  have hb2 : nxt (m 86) (m 81 6) (m 81 7) = 124 := by rw [h86, h6, h7]; exact hb
  have hpl := List.length_append (as := P) (bs := W)
  refine v_aload_n (n := 23) xB_137 dX11_takesE_22 rfl rfl ?_
  refine v_call_v (n := 26) xB_137 dX11_takesE_23 xO_137 iv_11_229 rfl (sh_81 _ _ _) rfl rfl rfl ?_
  refine c_next (by omega) (by first | omega | (simp only [sA_same, sA_s, ud_s, Int.reduceEq, if_true, if_false, ite_true, ite_false, ↓reduceIte, and_true, true_and, eq_self, Int.add_zero, Int.reduceAdd]; omega) | (simp (disch := omega) only [sA_same, sA_ne, ud_eq, ud_ne, Int.add_zero, Int.reduceAdd]; omega)) ?_
  refine v_istore_n3 (n := 27) xB_137 dX11_takesE_26 rfl rfl ?_
  refine v_iload_n (n := 28) xB_137 dX11_takesE_27 rfl rfl ?_
  refine v_if_eq_y (t := 110) xB_137 dX11_takesE_28 (by decide) rfl (by decide) ?_
  refine v_iload_n (n := 111) xB_137 dX11_takesE_110 rfl rfl ?_
  refine v_bipush (n := 113) xB_137 dX11_takesE_111 ⟨by decide, by decide⟩ rfl ?_
  refine v_ic_eq_n (n := 116) xB_137 dX11_takesE_113 (by decide) rfl (by first | omega | (simp only [sA_same, sA_s, ud_s, Int.reduceEq, if_true, if_false, ite_true, ite_false, ↓reduceIte, and_true, true_and, eq_self, Int.add_zero, Int.reduceAdd]; omega) | (simp (disch := omega) only [sA_same, sA_ne, ud_eq, ud_ne, Int.add_zero, Int.reduceAdd]; omega)) ?_
  refine v_iload_n (n := 117) xB_137 dX11_takesE_116 rfl rfl ?_
  refine v_bipush (n := 119) xB_137 dX11_takesE_117 ⟨by decide, by decide⟩ rfl ?_
  refine v_ic_ne_n (n := 122) xB_137 dX11_takesE_119 (by decide) rfl (by first | omega | (simp only [sA_same, sA_s, ud_s, Int.reduceEq, if_true, if_false, ite_true, ite_false, ↓reduceIte, and_true, true_and, eq_self, Int.add_zero, Int.reduceAdd]; omega) | (simp (disch := omega) only [sA_same, sA_ne, ud_eq, ud_ne, Int.add_zero, Int.reduceAdd]; omega)) ?_
  refine v_aload_n (n := 123) xB_137 dX11_takesE_122 rfl rfl ?_
  refine v_iload_n (n := 124) xB_137 dX11_takesE_123 rfl rfl ?_
  refine v_call_v (n := 127) xB_137 dX11_takesE_124 xO_137 iv_11_257 rfl (sh_81 _ _ _) rfl rfl rfl ?_
  rw [hb2]
  refine c_settle (P := P) (W := W) (E := E) (by omega) (sStop_any hW) (fun p hp => by have := hP p hp; unfold sPop; omega) hSt d1 (by omega) (by omega) (fun mA hA => ?_)
  have hB2 : Bd m0 B a W (E ++ ng P) := Bd_len ⟨d1, d2, d3, d4, d5, d6, d7, d8⟩ (by omega) (by omega) (by rw [List.length_append, ng_len]; omega) (by omega)
  clear d7 d8 hws h19 h18 h17 h7 h6 h86
  obtain ⟨-, -, -, -, -, -, d7, d8⟩ := hB2
  have h7 := hA.2.2.2.1
  have h18 := hA.2.2.2.2.1
  have h19 := hA.2.2.2.2.2.1
  refine v_aload_n (n := 128) xB_137 dX11_takesE_127 rfl rfl ?_
  refine v_gf_s (n := 131) (kz := 16) xB_137 dX11_takesE_128 xO_137 fl_11_59 fg_11_16 (sh_81 _ _ _) rfl st_81_16 rfl ?_
  refine v_aload_n (n := 132) xB_137 dX11_takesE_131 rfl rfl ?_
  refine v_gf_i (n := 135) (kz := 18) xB_137 dX11_takesE_132 xO_137 fl_11_65 fg_11_18 rfl (sh_81 _ _ _) rfl rfl ?_
  refine v_iload_n (n := 136) xB_137 dX11_takesE_135 rfl rfl ?_
  refine v_iastore (n := 137) (lz := 101) xB_137 dX11_takesE_136 (sh_93 _ _ _) (by decide) rfl (by first | omega | (simp only [sA_same, sA_s, ud_s, Int.reduceEq, if_true, if_false, ite_true, ite_false, ↓reduceIte, and_true, true_and, eq_self, Int.add_zero, Int.reduceAdd]; omega) | (simp (disch := omega) only [sA_same, sA_ne, ud_eq, ud_ne, Int.add_zero, Int.reduceAdd]; omega)) rfl ?_
  (try simp (disch := omega) only [sA_same, sA_ne, sA_sA, sA_sr, sB_s, ud_eq, ud_ne, ud_ud, ud_sr, uB_s, Int.add_zero, Int.reduceAdd])
  refine v_aload_n (n := 138) xB_137 dX11_takesE_137 rfl rfl ?_
  refine v_dup (n := 139) xB_137 dX11_takesE_138 rfl rfl ?_
  refine v_gf_i (n := 142) (kz := 18) xB_137 dX11_takesE_139 xO_137 fl_11_65 fg_11_18 rfl (sh_81 _ _ _) rfl rfl ?_
  refine v_iconst (n := 143) xB_137 dX11_takesE_142 ⟨by decide, by decide⟩ rfl ?_
  refine v_iadd (n := 144) xB_137 dX11_takesE_143 (by first | omega | (simp only [sA_same, sA_s, ud_s, Int.reduceEq, if_true, if_false, ite_true, ite_false, ↓reduceIte, and_true, true_and, eq_self, Int.add_zero, Int.reduceAdd]; omega) | (simp (disch := omega) only [sA_same, sA_ne, ud_eq, ud_ne, Int.add_zero, Int.reduceAdd]; omega)) rfl ?_
  refine v_pf_i (n := 147) (kz := 18) xB_137 dX11_takesE_144 xO_137 fl_11_65 fg_11_18 (Or.inl fn_11_18) (sh_81 _ _ _) (by decide) rfl rfl ?_
  (try simp (disch := omega) only [sA_same, sA_ne, sA_sA, sA_sr, sB_s, ud_eq, ud_ne, ud_ud, ud_sr, uB_s, Int.add_zero, Int.reduceAdd])
  refine v_iconst (n := 148) xB_137 dX11_takesE_147 ⟨by decide, by decide⟩ rfl ?_
  refine v_istore_n2 (n := 149) xB_137 dX11_takesE_148 rfl rfl ?_
  refine v_aload_n (n := 150) xB_137 dX11_takesE_149 rfl rfl ?_
  refine v_dup (n := 151) xB_137 dX11_takesE_150 rfl rfl ?_
  refine v_gf_i (n := 154) (kz := 7) xB_137 dX11_takesE_151 xO_137 fl_11_32 fg_11_7 rfl (sh_81 _ _ _) rfl rfl ?_
  refine v_iconst (n := 155) xB_137 dX11_takesE_154 ⟨by decide, by decide⟩ rfl ?_
  refine v_iadd (n := 156) xB_137 dX11_takesE_155 (by first | omega | (simp only [sA_same, sA_s, ud_s, Int.reduceEq, if_true, if_false, ite_true, ite_false, ↓reduceIte, and_true, true_and, eq_self, Int.add_zero, Int.reduceAdd]; omega) | (simp (disch := omega) only [sA_same, sA_ne, ud_eq, ud_ne, Int.add_zero, Int.reduceAdd]; omega)) rfl ?_
  refine v_pf_i (n := 159) (kz := 7) xB_137 dX11_takesE_156 xO_137 fl_11_32 fg_11_7 (Or.inl fn_11_7) (sh_81 _ _ _) (by decide) rfl rfl ?_
  (try simp (disch := omega) only [sA_same, sA_ne, sA_sA, sA_sr, sB_s, ud_eq, ud_ne, ud_ud, ud_sr, uB_s, Int.add_zero, Int.reduceAdd])
  refine v_goto (t := 22) xB_137 dX11_takesE_159 (by decide) rfl ?_
  exact go _ _ (St_push hA (w := 124) (a2 := a + 1) (fun k p q r s t => by simp (disch := omega) only [ud_ne]) (by simp (disch := omega) only [ud_eq, ud_ne, h7]) (by simp (disch := omega) only [ud_ne]) (by simp (disch := omega) only [ud_eq, ud_ne]) (by simp (disch := omega) only [ud_ne]; rw [h19, opn_c, if_neg (by omega)]; omega) rfl)
theorem cl_par {m0 mA m2 : PM} {c a : Int} {W E : List Int} (hA : St m0 mA c a (40 :: W) E) (hwt : WS (mA 93) W.length W) (h18 : mA 81 18 = W.length + 1) (h19 : mA 81 19 = 1 + opn W) (h7 : mA 81 7 = a) (e : m2 = setA (setA mA 81 (ud (ud (ud (mA 81) 7 (mA 81 7 + 1)) 18 (mA 81 18 - 1)) 19 (mA 81 19 - 1))) 91 (ud (mA 91) c (mA 81 17))) : St m0 m2 c (a + 1) W E := by
  have h1 : St m0 (setA mA 81 (ud (ud (ud (mA 81) 7 (mA 81 7 + 1)) 18 (mA 81 18 - 1)) 19 (mA 81 19 - 1))) c (a + 1) W E := St_81 hA (W2 := W) (a2 := a + 1) (fun k p q r s t => by simp (disch := omega) only [ud_ne]) (by simp (disch := omega) only [ud_eq, ud_ne, h7]) (by simp (disch := omega) only [ud_ne]) (by simp (disch := omega) only [ud_eq, ud_ne]; omega) (by simp (disch := omega) only [ud_eq, ud_ne]; omega) hwt rfl
  exact St_91 h1 (z := mA 81 17) (by rw [e]; simp (disch := omega) only [sA_ne])
set_option maxHeartbeats 1000000 in
theorem vc_close {d : Nat} {m0 : PM} {c B : Int} {dy : List (Nat × Nat)} {L : Nat} {Q : Option PV → PS → Prop} (hd : 5 ≤ d) {P W E : List Int} {m : PM} {a : Int} (x3 : Option PV) (hc : 0 ≤ c ∧ c < 60) (hSt : St m0 m c a (P ++ W) E) (hBd : Bd m0 B a (P ++ W) E) (hb : nxt (m0 86) (m0 81 6) a ≠ 38) (hb3 : nxt (m0 86) (m0 81 6) a ≠ 124) (hP : ∀ p ∈ P, p = 38 ∨ p = 124) (hW : anyO W) (fin : W = [] → ∀ m' : PM, St m0 m' c a [] (E ++ ng P) → m' 91 c = m' 81 17 → Q (some (.inl 1)) (m', (none, (dy, L)))) (go : ∀ W1, W = 40 :: W1 → nxt (m0 86) (m0 81 6) a = 41 → ∀ (m' : PM) (x3 : Option PV), St m0 m' c (a + 1) (stp W1) (E ++ ng P ++ nts W1) → V d 137 (22, ([some (.inr (.inr 81)), some (.inl c), some (.inl 0), x3], ([], (m', (none, (dy, L)))))) Q) (no : ∀ W1, W = 40 :: W1 → nxt (m0 86) (m0 81 6) a ≠ 41 → ∀ m' : PM, St m0 m' c a W (E ++ ng P) → Q (some (.inl 0)) (m', (none, (dy, L)))) : V d 137 (22, ([some (.inr (.inr 81)), some (.inl c), some (.inl 0), x3], ([], (m, (none, (dy, L)))))) Q := by
  obtain ⟨d1, d2, d3, d4, d5, d6, d7, d8⟩ := hBd
  have h86 : m 86 = m0 86 := hSt.1 86 (by omega) (by omega) (by omega) (by omega)
  have h6 : m 81 6 = m0 81 6 := hSt.2.1 6 (by omega) (by omega) (by omega) (by omega) (by omega)
  have h7 := hSt.2.2.2.1
  have h17 := hSt.2.2.2.2.2.2.1
  have h18 := hSt.2.2.2.2.1
  have h19 := hSt.2.2.2.2.2.1
  have hws := hSt.2.2.2.2.2.2.2.2.2
  have hb2 : nxt (m 86) (m 81 6) (m 81 7) = nxt (m0 86) (m0 81 6) a := by rw [h86, h6, h7]
  have hpl := List.length_append (as := P) (bs := W)
  refine v_aload_n (n := 23) xB_137 dX11_takesE_22 rfl rfl ?_
  refine v_call_v (n := 26) xB_137 dX11_takesE_23 xO_137 iv_11_229 rfl (sh_81 _ _ _) rfl rfl rfl ?_
  refine c_next (by omega) (by first | omega | (simp only [sA_same, sA_s, ud_s, Int.reduceEq, if_true, if_false, ite_true, ite_false, ↓reduceIte, and_true, true_and, eq_self, Int.add_zero, Int.reduceAdd]; omega) | (simp (disch := omega) only [sA_same, sA_ne, ud_eq, ud_ne, Int.add_zero, Int.reduceAdd]; omega)) ?_
  refine v_istore_n3 (n := 27) xB_137 dX11_takesE_26 rfl rfl ?_
  refine v_iload_n (n := 28) xB_137 dX11_takesE_27 rfl rfl ?_
  refine v_if_eq_y (t := 110) xB_137 dX11_takesE_28 (by decide) rfl (by decide) ?_
  refine v_iload_n (n := 111) xB_137 dX11_takesE_110 rfl rfl ?_
  refine v_bipush (n := 113) xB_137 dX11_takesE_111 ⟨by decide, by decide⟩ rfl ?_
  refine v_ic_eq_n (n := 116) xB_137 dX11_takesE_113 (by decide) rfl (by first | omega | (simp only [sA_same, sA_s, ud_s, Int.reduceEq, if_true, if_false, ite_true, ite_false, ↓reduceIte, and_true, true_and, eq_self, Int.add_zero, Int.reduceAdd]; omega) | (simp (disch := omega) only [sA_same, sA_ne, ud_eq, ud_ne, Int.add_zero, Int.reduceAdd]; omega)) ?_
  refine v_iload_n (n := 117) xB_137 dX11_takesE_116 rfl rfl ?_
  refine v_bipush (n := 119) xB_137 dX11_takesE_117 ⟨by decide, by decide⟩ rfl ?_
  refine v_ic_ne_y (t := 162) xB_137 dX11_takesE_119 (by decide) rfl (by first | omega | (simp only [sA_same, sA_s, ud_s, Int.reduceEq, if_true, if_false, ite_true, ite_false, ↓reduceIte, and_true, true_and, eq_self, Int.add_zero, Int.reduceAdd]; omega) | (simp (disch := omega) only [sA_same, sA_ne, ud_eq, ud_ne, Int.add_zero, Int.reduceAdd]; omega)) ?_
  refine v_aload_n (n := 163) xB_137 dX11_takesE_162 rfl rfl ?_
  refine v_bipush (n := 165) xB_137 dX11_takesE_163 ⟨by decide, by decide⟩ rfl ?_
  refine v_call_v (n := 168) xB_137 dX11_takesE_165 xO_137 iv_11_257 rfl (sh_81 _ _ _) rfl rfl rfl ?_
  refine c_settle (P := P) (W := W) (E := E) (by omega) (sStop_any hW) (fun p hp => by have := hP p hp; unfold sPop; omega) hSt d1 (by omega) (by omega) (fun mA hA => ?_)
  have hB2 : Bd m0 B a W (E ++ ng P) := Bd_len ⟨d1, d2, d3, d4, d5, d6, d7, d8⟩ (by omega) (by omega) (by rw [List.length_append, ng_len]; omega) (by omega)
  rw [hb2]
  clear d7 d8 hws h19 h18 h17 h7 h6 h86 hb2 hSt
  obtain ⟨-, -, -, -, -, -, d7, d8⟩ := hB2
  have hA2 : St m0 (setA mA 91 (ud (mA 91) c (mA 81 17))) c a W (E ++ ng P) := St_91 hA rfl
  have h7 := hA.2.2.2.1
  have h17 := hA.2.2.2.2.2.2.1
  have h18 := hA.2.2.2.2.1
  have h19 := hA.2.2.2.2.2.1
  have hws := hA.2.2.2.2.2.2.2.2.2
  have hop := opn_in W
  cases W with
  | nil =>
    have w18 : mA 81 18 = 0 := h18
    refine v_aload_n (n := 169) xB_137 dX11_takesE_168 rfl rfl ?_
    refine v_gf_s (n := 172) (kz := 14) xB_137 dX11_takesE_169 xO_137 fl_11_53 fg_11_14 (sh_81 _ _ _) rfl st_81_14 rfl ?_
    refine v_iload_n (n := 173) xB_137 dX11_takesE_172 rfl rfl ?_
    refine v_aload_n (n := 174) xB_137 dX11_takesE_173 rfl rfl ?_
    refine v_gf_i (n := 177) (kz := 17) xB_137 dX11_takesE_174 xO_137 fl_11_62 fg_11_17 rfl (sh_81 _ _ _) rfl rfl ?_
    refine v_iastore (n := 178) (lz := 60) xB_137 dX11_takesE_177 (sh_91 _ _ _) (by decide) rfl (by first | omega | (simp only [sA_same, sA_s, ud_s, Int.reduceEq, if_true, if_false, ite_true, ite_false, ↓reduceIte, and_true, true_and, eq_self, Int.add_zero, Int.reduceAdd]; omega) | (simp (disch := omega) only [sA_same, sA_ne, ud_eq, ud_ne, Int.add_zero, Int.reduceAdd]; omega)) rfl ?_
    (try simp (disch := omega) only [sA_same, sA_ne, sA_sA, sA_sr, sB_s, ud_eq, ud_ne, ud_ud, ud_sr, uB_s, Int.add_zero, Int.reduceAdd])
    refine v_aload_n (n := 179) xB_137 dX11_takesE_178 rfl rfl ?_
    refine v_gf_i (n := 182) (kz := 18) xB_137 dX11_takesE_179 xO_137 fl_11_65 fg_11_18 rfl (sh_81 _ _ _) rfl rfl ?_
    refine v_if_ne_n (n := 185) xB_137 dX11_takesE_182 (by decide) rfl (by first | omega | (simp only [sA_same, sA_s, ud_s, Int.reduceEq, if_true, if_false, ite_true, ite_false, ↓reduceIte, and_true, true_and, eq_self, Int.add_zero, Int.reduceAdd]; omega) | (simp (disch := omega) only [sA_same, sA_ne, ud_eq, ud_ne, Int.add_zero, Int.reduceAdd]; omega)) ?_
    refine v_iconst (n := 186) xB_137 dX11_takesE_185 ⟨by decide, by decide⟩ rfl ?_
    refine v_ireturn1 xB_137 dX11_takesE_186 xK_137 (by decide) ?_
    (try simp (disch := omega) only [sA_same, sA_ne, sA_sA, sA_sr, sB_s, ud_eq, ud_ne, ud_ud, ud_sr, uB_s, Int.add_zero, Int.reduceAdd])
    exact fin rfl _ hA2 (by simp (disch := omega) only [sA_ne, sA_same, ud_eq])
  | cons w W =>
    have hw40 : w = 40 := hW
    subst hw40
    rw [List.length_cons] at h18 hws d7 d8 hop
    have hwt := hws.2
    rw [show ((W.length + 1 : Nat) : Int) - 1 = W.length by omega] at hwt
    rw [opn_c, if_pos (Or.inr rfl)] at h19 hop
    have hop2 := opn_in W
    refine v_aload_n (n := 169) xB_137 dX11_takesE_168 rfl rfl ?_
    refine v_gf_s (n := 172) (kz := 14) xB_137 dX11_takesE_169 xO_137 fl_11_53 fg_11_14 (sh_81 _ _ _) rfl st_81_14 rfl ?_
    refine v_iload_n (n := 173) xB_137 dX11_takesE_172 rfl rfl ?_
    refine v_aload_n (n := 174) xB_137 dX11_takesE_173 rfl rfl ?_
    refine v_gf_i (n := 177) (kz := 17) xB_137 dX11_takesE_174 xO_137 fl_11_62 fg_11_17 rfl (sh_81 _ _ _) rfl rfl ?_
    refine v_iastore (n := 178) (lz := 60) xB_137 dX11_takesE_177 (sh_91 _ _ _) (by decide) rfl (by first | omega | (simp only [sA_same, sA_s, ud_s, Int.reduceEq, if_true, if_false, ite_true, ite_false, ↓reduceIte, and_true, true_and, eq_self, Int.add_zero, Int.reduceAdd]; omega) | (simp (disch := omega) only [sA_same, sA_ne, ud_eq, ud_ne, Int.add_zero, Int.reduceAdd]; omega)) rfl ?_
    (try simp (disch := omega) only [sA_same, sA_ne, sA_sA, sA_sr, sB_s, ud_eq, ud_ne, ud_ud, ud_sr, uB_s, Int.add_zero, Int.reduceAdd])
    refine v_aload_n (n := 179) xB_137 dX11_takesE_178 rfl rfl ?_
    refine v_gf_i (n := 182) (kz := 18) xB_137 dX11_takesE_179 xO_137 fl_11_65 fg_11_18 rfl (sh_81 _ _ _) rfl rfl ?_
    refine v_if_ne_y (t := 187) xB_137 dX11_takesE_182 (by decide) rfl (by first | omega | (simp only [sA_same, sA_s, ud_s, Int.reduceEq, if_true, if_false, ite_true, ite_false, ↓reduceIte, and_true, true_and, eq_self, Int.add_zero, Int.reduceAdd]; omega) | (simp (disch := omega) only [sA_same, sA_ne, ud_eq, ud_ne, Int.add_zero, Int.reduceAdd]; omega)) ?_
    refine v_iload_n (n := 188) xB_137 dX11_takesE_187 rfl rfl ?_
    refine v_bipush (n := 190) xB_137 dX11_takesE_188 ⟨by decide, by decide⟩ rfl ?_
    refine v_ic_eq (t := 195) (n := 193) xB_137 dX11_takesE_190 (by decide) rfl rfl (fun g1 => ?_) (fun g1 => ?_)
    · (try simp (disch := omega) only [sA_same, sA_ne, sA_sA, sA_sr, sB_s, ud_eq, ud_ne, ud_ud, ud_sr, uB_s, Int.add_zero, Int.reduceAdd] at g1)
      refine v_aload_n (n := 196) xB_137 dX11_takesE_195 rfl rfl ?_
      refine v_dup (n := 197) xB_137 dX11_takesE_196 rfl rfl ?_
      refine v_gf_i (n := 200) (kz := 18) xB_137 dX11_takesE_197 xO_137 fl_11_65 fg_11_18 rfl (sh_81 _ _ _) rfl rfl ?_
      refine v_iconst (n := 201) xB_137 dX11_takesE_200 ⟨by decide, by decide⟩ rfl ?_
      refine v_isub (n := 202) xB_137 dX11_takesE_201 (by first | omega | (simp only [sA_same, sA_s, ud_s, Int.reduceEq, if_true, if_false, ite_true, ite_false, ↓reduceIte, and_true, true_and, eq_self, Int.add_zero, Int.reduceAdd]; omega) | (simp (disch := omega) only [sA_same, sA_ne, ud_eq, ud_ne, Int.add_zero, Int.reduceAdd]; omega)) rfl ?_
      refine v_pf_i (n := 205) (kz := 18) xB_137 dX11_takesE_202 xO_137 fl_11_65 fg_11_18 (Or.inl fn_11_18) (sh_81 _ _ _) (by decide) rfl rfl ?_
      (try simp (disch := omega) only [sA_same, sA_ne, sA_sA, sA_sr, sB_s, ud_eq, ud_ne, ud_ud, ud_sr, uB_s, Int.add_zero, Int.reduceAdd])
      refine v_aload_n (n := 206) xB_137 dX11_takesE_205 rfl rfl ?_
      refine v_dup (n := 207) xB_137 dX11_takesE_206 rfl rfl ?_
      refine v_gf_i (n := 210) (kz := 19) xB_137 dX11_takesE_207 xO_137 fl_11_68 fg_11_19 rfl (sh_81 _ _ _) rfl rfl ?_
      refine v_iconst (n := 211) xB_137 dX11_takesE_210 ⟨by decide, by decide⟩ rfl ?_
      refine v_isub (n := 212) xB_137 dX11_takesE_211 (by first | omega | (simp only [sA_same, sA_s, ud_s, Int.reduceEq, if_true, if_false, ite_true, ite_false, ↓reduceIte, and_true, true_and, eq_self, Int.add_zero, Int.reduceAdd]; omega) | (simp (disch := omega) only [sA_same, sA_ne, ud_eq, ud_ne, Int.add_zero, Int.reduceAdd]; omega)) rfl ?_
      refine v_pf_i (n := 215) (kz := 19) xB_137 dX11_takesE_212 xO_137 fl_11_68 fg_11_19 (Or.inl fn_11_19) (sh_81 _ _ _) (by decide) rfl rfl ?_
      (try simp (disch := omega) only [sA_same, sA_ne, sA_sA, sA_sr, sB_s, ud_eq, ud_ne, ud_ud, ud_sr, uB_s, Int.add_zero, Int.reduceAdd])
      refine v_aload_n (n := 216) xB_137 dX11_takesE_215 rfl rfl ?_
      refine v_dup (n := 217) xB_137 dX11_takesE_216 rfl rfl ?_
      refine v_gf_i (n := 220) (kz := 7) xB_137 dX11_takesE_217 xO_137 fl_11_32 fg_11_7 rfl (sh_81 _ _ _) rfl rfl ?_
      refine v_iconst (n := 221) xB_137 dX11_takesE_220 ⟨by decide, by decide⟩ rfl ?_
      refine v_iadd (n := 222) xB_137 dX11_takesE_221 (by first | omega | (simp only [sA_same, sA_s, ud_s, Int.reduceEq, if_true, if_false, ite_true, ite_false, ↓reduceIte, and_true, true_and, eq_self, Int.add_zero, Int.reduceAdd]; omega) | (simp (disch := omega) only [sA_same, sA_ne, ud_eq, ud_ne, Int.add_zero, Int.reduceAdd]; omega)) rfl ?_
      refine v_pf_i (n := 225) (kz := 7) xB_137 dX11_takesE_222 xO_137 fl_11_32 fg_11_7 (Or.inl fn_11_7) (sh_81 _ _ _) (by decide) rfl rfl ?_
      (try simp (disch := omega) only [sA_same, sA_ne, sA_sA, sA_sr, sB_s, ud_eq, ud_ne, ud_ud, ud_sr, uB_s, Int.add_zero, Int.reduceAdd])
      refine v_aload_n (n := 226) xB_137 dX11_takesE_225 rfl rfl ?_
      refine v_call_v (n := 229) xB_137 dX11_takesE_226 xO_137 iv_11_251 rfl (sh_81 _ _ _) rfl rfl rfl ?_
      refine c_whole (W := W) (E := E ++ ng P) (by omega) (cl_par hA hwt (by omega) (by omega) h7 rfl) d1 (by omega) (by omega) (fun mB hB => ?_)
      refine v_goto (t := 22) xB_137 dX11_takesE_229 (by decide) rfl ?_
      exact go W rfl (by omega) _ _ hB
    · (try simp (disch := omega) only [sA_same, sA_ne, sA_sA, sA_sr, sB_s, ud_eq, ud_ne, ud_ud, ud_sr, uB_s, Int.add_zero, Int.reduceAdd] at g1)
      refine v_iconst (n := 194) xB_137 dX11_takesE_193 ⟨by decide, by decide⟩ rfl ?_
      refine v_ireturn1 xB_137 dX11_takesE_194 xK_137 (by decide) ?_
      (try simp (disch := omega) only [sA_same, sA_ne, sA_sA, sA_sr, sB_s, ud_eq, ud_ne, ud_ud, ud_sr, uB_s, Int.add_zero, Int.reduceAdd])
      exact no W rfl (by omega) _ hA2
