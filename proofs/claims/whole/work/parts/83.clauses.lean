/-! Clauses: what they are; the reference reads them. -/
def mt4 (T : Int → Int) (n a l0 l1 l2 l3 : Int) : Int := if nxt T n a = l0 then (if nxt T n (a + 1) = l1 then (if nxt T n (a + 2) = l2 then (if nxt T n (a + 3) = l3 then 4 else 3) else 2) else 1) else 0
def mw (T : Int → Int) (n a w : Int) : Int := if w = 0 then mt4 T n a 102 114 111 109 else if w = 1 then mt4 T n a 116 105 108 108 else if w = 2 then mt4 T n a 115 107 105 112 else mt4 T n a 116 117 114 110
/-- the word at a place, and the place behind it -/
def wst (T : Int → Int) (n a : Int) : Int := if nxt T n a = 102 then 0 else if nxt T n a = 115 then 2 else if nxt T n (a + 1) = 117 then 3 else 1
def wdF (T : Int → Int) (n a : Int) : Int × Int := if mw T n a (wst T n a) = 4 then (wst T n a, a + 4) else (-1, a + mw T n a (wst T n a))
theorem mt4_in (T : Int → Int) (n a l0 l1 l2 l3 : Int) : 0 ≤ mt4 T n a l0 l1 l2 l3 ∧ mt4 T n a l0 l1 l2 l3 ≤ 4 := by
  unfold mt4; (repeat' split) <;> omega
/-- whether a head is read, the place behind it, its word -/
def hdF (T : Int → Int) (n a : Int) : Bool × (Int × Int) := if (wdF T n a).1 < 0 then (false, ((wdF T n a).2, 0)) else if nxt T n (wdF T n a).2 = 32 then (true, ((wdF T n a).2 + 1, (wdF T n a).1)) else (false, ((wdF T n a).2, 0))
abbrev CR : Type := Bool × (Int × (Int × (Int × List Int)))
def EF (T : Int → Int) (n a : Int) : RR := anyF (oneF T n 4) T n a
def clF (T : Int → Int) (n a : Int) : CR :=
  if (hdF T n a).1 = false then (false, ((hdF T n a).2.1, (0, (0, []))))
  else if (hdF T n a).2.2 < 2 then (if (nmv T n (hdF T n a).2.1).1 < 0 then (false, ((hdF T n a).2.1, (0, (0, [])))) else (true, ((nmv T n (hdF T n a).2.1).2, ((hdF T n a).2.2, ((nmv T n (hdF T n a).2.1).1, [])))))
  else ((EF T n (hdF T n a).2.1).1, ((EF T n (hdF T n a).2.1).2.1, ((hdF T n a).2.2, (0, (EF T n (hdF T n a).2.1).2.2))))
abbrev CSR : Type := Bool × (Int × CLs)
def csF (T : Int → Int) (n : Int) : Nat → Int → CLs → CSR
  | 0, a, CL => (false, (a, CL))
  | k + 1, a, CL => if (clF T n a).1 = false then (false, ((clF T n a).2.1, CL)) else if n ≤ (clF T n a).2.1 then (true, ((clF T n a).2.1, CL ++ [(clF T n a).2.2])) else if k = 0 ∨ nxt T n (clF T n a).2.1 ≠ 59 then (false, ((clF T n a).2.1, CL ++ [(clF T n a).2.2])) else csF T n k ((clF T n a).2.1 + 1) (CL ++ [(clF T n a).2.2])
theorem wst_in (T : Int → Int) (n a : Int) : 0 ≤ wst T n a ∧ wst T n a ≤ 3 := by
  unfold wst; (repeat' split) <;> omega
theorem wdF_in (T : Int → Int) {n a : Int} (h : a ≤ n) : a ≤ (wdF T n a).2 ∧ (wdF T n a).2 ≤ n ∧ -1 ≤ (wdF T n a).1 ∧ (wdF T n a).1 ≤ 3 ∧ (0 ≤ (wdF T n a).1 → (wdF T n a).1 = wst T n a ∧ (wdF T n a).2 = a + 4) := by
  have hw := wst_in T n a
  have key : ∀ l0 l1 l2 l3 : Int, 0 ≤ l0 → 0 ≤ l1 → 0 ≤ l2 → 0 ≤ l3 → 0 ≤ mt4 T n a l0 l1 l2 l3 ∧ a + mt4 T n a l0 l1 l2 l3 ≤ n := by
    intro l0 l1 l2 l3 p0 p1 p2 p3
    unfold mt4
    by_cases h0 : nxt T n a = l0
    · have q0 := nxt_in h0 p0
      rw [if_pos h0]
      by_cases h1 : nxt T n (a + 1) = l1
      · have q1 := nxt_in h1 p1
        rw [if_pos h1]
        by_cases h2 : nxt T n (a + 2) = l2
        · have q2 := nxt_in h2 p2
          rw [if_pos h2]
          by_cases h3 : nxt T n (a + 3) = l3
          · have q3 := nxt_in h3 p3
            rw [if_pos h3]; omega
          · rw [if_neg h3]; omega
        · rw [if_neg h2]; omega
      · rw [if_neg h1]; omega
    · rw [if_neg h0]; omega
  have k2 : 0 ≤ mw T n a (wst T n a) ∧ a + mw T n a (wst T n a) ≤ n := by
    unfold mw; (repeat' split) <;> exact key _ _ _ _ (by omega) (by omega) (by omega) (by omega)
  unfold wdF
  by_cases h4 : mw T n a (wst T n a) = 4
  · rw [if_pos h4]; dsimp only; omega
  · rw [if_neg h4]; dsimp only; omega
theorem hdF_in (T : Int → Int) {n a : Int} (h : a ≤ n) : a ≤ (hdF T n a).2.1 ∧ (hdF T n a).2.1 ≤ n ∧ ((hdF T n a).1 = true → a + 5 ≤ (hdF T n a).2.1 ∧ 0 ≤ (hdF T n a).2.2 ∧ (hdF T n a).2.2 ≤ 3 ∧ (hdF T n a).2.2 = wst T n a) := by
  obtain ⟨a1, a2, a3, a4, a5⟩ := wdF_in T h
  unfold hdF
  by_cases h0 : (wdF T n a).1 < 0
  · rw [if_pos h0]; exact ⟨a1, a2, fun q => by cases q⟩
  · rw [if_neg h0]
    by_cases h1 : nxt T n (wdF T n a).2 = 32
    · have q := nxt_in h1 (by omega)
      rw [if_pos h1]
      obtain ⟨b1, b2⟩ := a5 (by omega)
      dsimp only
      exact ⟨by omega, by omega, fun _ => ⟨by omega, by omega, by omega, b1⟩⟩
    · rw [if_neg h1]; exact ⟨a1, a2, fun q => by cases q⟩
theorem EF_ok (T : Int → Int) {n a : Int} (h : a ≤ n) : okR n a (EF T n a) := anyF_ok (fun b _ hb => oneF_ok T n 4 b hb) h
theorem EF_good (T : Int → Int) {n a : Int} (h : a ≤ n) (h1 : (EF T n a).1 = true) : Good 11 (EF T n a).2.2 := anyF_good (j := 9) (fun b hb => ⟨oneF_ok T n 4 b hb, oneF_good T n 4 b hb⟩) a h h1
theorem clF_in (T : Int → Int) {n a : Int} (h : a ≤ n) : a ≤ (clF T n a).2.1 ∧ (clF T n a).2.1 ≤ n ∧ ((clF T n a).1 = true → a + 5 ≤ (clF T n a).2.1 ∧ okC (clF T n a).2.2 ∧ ((clF T n a).2.2.2.2.length : Int) ≤ (clF T n a).2.1 - a - 5) := by
  obtain ⟨a1, a2, a3⟩ := hdF_in T h
  unfold clF
  by_cases h0 : (hdF T n a).1 = false
  · rw [if_pos h0]; exact ⟨a1, a2, fun q => by cases q⟩
  · rw [if_neg h0]
    have h1 : (hdF T n a).1 = true := by cases hx : (hdF T n a).1 with
      | true => rfl
      | false => exact absurd hx h0
    obtain ⟨b1, b2, b3, b4⟩ := a3 h1
    by_cases h2 : (hdF T n a).2.2 < 2
    · rw [if_pos h2]
      have q := nmv_in T (n := n) (a := (hdF T n a).2.1) a2
      by_cases h3 : (nmv T n (hdF T n a).2.1).1 < 0
      · rw [if_pos h3]; exact ⟨a1, a2, fun q => by cases q⟩
      · rw [if_neg h3]
        dsimp only
        refine ⟨by omega, by omega, fun _ => ⟨by omega, ⟨⟨b2, b3⟩, fun _ => by dsimp only; omega, fun q2 => absurd h2 (by dsimp only at q2; omega)⟩, ?_⟩⟩
        rw [List.length_nil]; omega
    · rw [if_neg h2]
      obtain ⟨k1, k2, k3, k4⟩ := EF_ok T (n := n) (a := (hdF T n a).2.1) a2
      dsimp only
      refine ⟨by omega, k2, fun q => ⟨by omega, ⟨⟨b2, b3⟩, fun q2 => absurd q2 (by dsimp only; omega), fun _ => EF_good T a2 q⟩, by omega⟩⟩
def twF (T : Int → Int) (n a l0 l1 l2 l3 : Int) : Bool × Int := if mt4 T n a l0 l1 l2 l3 = 4 then (if nxt T n (a + 4) = 32 then (true, a + 5) else (false, a + 4)) else (false, a + mt4 T n a l0 l1 l2 l3)
def ltr (k : Nat) : Int := [102, 114, 111, 109, 116, 105, 108, 108, 115, 107, 105, 112, 116, 117, 114, 110].getD k 0
set_option maxHeartbeats 1000000 in
theorem c_tw0 {d : Nat}  {m : PM} {dy : List (Nat × Nat)} {L : Nat} {Q : Option PV → PS → Prop} (hd : 3 ≤ d) (hL : ∀ i : Nat, i < 16 → m 94 i = ltr i) (hn : m 81 6 ≤ 100) (ha : 0 ≤ m 81 7 ∧ m 81 7 ≤ m 81 6) (o1 : ((twF (m 86) (m 81 6) (m 81 7) 102 114 111 109).1 = true) → Q (some (.inl 1)) (setA m 81 (ud (m 81) 7 (twF (m 86) (m 81 6) (m 81 7) 102 114 111 109).2), (none, (dy, L)))) (o2 : ((twF (m 86) (m 81 6) (m 81 7) 102 114 111 109).1 = false) → Q (some (.inl 0)) (setA m 81 (ud (m 81) 7 (twF (m 86) (m 81 6) (m 81 7) 102 114 111 109).2), (none, (dy, L)))) : C d 129 [.inr (.inr 81), .inl 0, .inl 4] (m, (none, (dy, L))) Q := by
  refine C_go (k := 2) hd xL_129 (fun d hd => ?_)
  show V d 129 (0, ([some (.inr (.inr 81)), some (.inl 0), some (.inl 4), none], ([], (m, (none, (dy, L)))))) Q
  have u := hL
  have l0 : m 94 0 = 102 := hL 0 (by decide)
  have l1 : m 94 1 = 114 := hL 1 (by decide)
  have l2 : m 94 2 = 111 := hL 2 (by decide)
  have l3 : m 94 3 = 109 := hL 3 (by decide)
  clear u hL
  refine v_iconst (n := 1) xB_129 dX11_takesWord_0 ⟨by decide, by decide⟩ rfl ?_
  refine v_istore_n3 (n := 2) xB_129 dX11_takesWord_1 rfl rfl ?_
  refine v_iload_n (n := 3) xB_129 dX11_takesWord_2 rfl rfl ?_
  refine v_iload_n (n := 4) xB_129 dX11_takesWord_3 rfl rfl ?_
  refine v_ic_ge_n (n := 7) xB_129 dX11_takesWord_4 (by decide) rfl (by decide) ?_
  refine v_aload_n (n := 8) xB_129 dX11_takesWord_7 rfl rfl ?_
  refine v_aload_n (n := 9) xB_129 dX11_takesWord_8 rfl rfl ?_
  refine v_gf_s (n := 12) (kz := 20) xB_129 dX11_takesWord_9 xO_129 fl_11_71 fg_11_20 (sh_81 _ _ _) rfl st_81_20 rfl ?_
  refine v_iload_n (n := 13) xB_129 dX11_takesWord_12 rfl rfl ?_
  refine v_iload_n (n := 14) xB_129 dX11_takesWord_13 rfl rfl ?_
  refine v_iadd (n := 15) xB_129 dX11_takesWord_14 (by first | omega | (simp only [sA_same, sA_s, ud_s, Int.reduceEq, if_true, if_false, ite_true, ite_false, ↓reduceIte, and_true, true_and, eq_self, Int.add_zero, Int.reduceAdd]; omega) | (simp (disch := omega) only [sA_same, sA_ne, ud_eq, ud_ne, Int.add_zero, Int.reduceAdd]; omega)) rfl ?_
  refine v_iaload (n := 16) (lz := 16) xB_129 dX11_takesWord_15 (sh_94 _ _ _) rfl (by first | omega | (simp only [sA_same, sA_s, ud_s, Int.reduceEq, if_true, if_false, ite_true, ite_false, ↓reduceIte, and_true, true_and, eq_self, Int.add_zero, Int.reduceAdd]; omega) | (simp (disch := omega) only [sA_same, sA_ne, ud_eq, ud_ne, Int.add_zero, Int.reduceAdd]; omega)) rfl ?_
  refine v_call_v (n := 19) xB_129 dX11_takesWord_16 xO_129 iv_11_233 rfl (sh_81 _ _ _) rfl rfl rfl ?_
  refine c_takes (by omega) (by first | omega | (simp only [sA_same, sA_s, ud_s, Int.reduceEq, if_true, if_false, ite_true, ite_false, ↓reduceIte, and_true, true_and, eq_self, Int.add_zero, Int.reduceAdd]; omega) | (simp (disch := omega) only [sA_same, sA_ne, ud_eq, ud_ne, Int.add_zero, Int.reduceAdd]; omega)) (fun g1 => ?_) (fun g2 => ?_)
  · (try simp (disch := omega) only [sA_same, sA_ne, sA_sA, sA_sr, sB_s, ud_eq, ud_ne, ud_ud, ud_sr, uB_s, Int.add_zero, Int.reduceAdd, Int.add_assoc] at g1)
    have zg1 := nxt_in g1 (by omega)
    (try simp (disch := omega) only [Int.add_assoc, Int.reduceAdd])
    (try simp (disch := omega) only [sA_same, sA_ne, sA_sA, sA_sr, sB_s, ud_eq, ud_ne, ud_ud, ud_sr, uB_s, Int.add_zero, Int.reduceAdd] at g1)
    (try simp (disch := omega) only [sA_same, sA_ne, sA_sA, sA_sr, sB_s, ud_eq, ud_ne, ud_ud, ud_sr, uB_s, Int.add_zero, Int.reduceAdd])
    refine v_if_ne_y (t := 24) xB_129 dX11_takesWord_19 (by decide) rfl (by decide) ?_
    refine v_iinc3 (n := 27) xB_129 dX11_takesWord_24 rfl (by first | omega | (simp only [sA_same, sA_s, ud_s, Int.reduceEq, if_true, if_false, ite_true, ite_false, ↓reduceIte, and_true, true_and, eq_self, Int.add_zero, Int.reduceAdd]; omega) | (simp (disch := omega) only [sA_same, sA_ne, ud_eq, ud_ne, Int.add_zero, Int.reduceAdd]; omega)) rfl ?_
    refine v_goto (t := 2) xB_129 dX11_takesWord_27 (by decide) rfl ?_
    refine v_iload_n (n := 3) xB_129 dX11_takesWord_2 rfl rfl ?_
    refine v_iload_n (n := 4) xB_129 dX11_takesWord_3 rfl rfl ?_
    refine v_ic_ge_n (n := 7) xB_129 dX11_takesWord_4 (by decide) rfl (by decide) ?_
    refine v_aload_n (n := 8) xB_129 dX11_takesWord_7 rfl rfl ?_
    refine v_aload_n (n := 9) xB_129 dX11_takesWord_8 rfl rfl ?_
    refine v_gf_s (n := 12) (kz := 20) xB_129 dX11_takesWord_9 xO_129 fl_11_71 fg_11_20 (sh_81 _ _ _) rfl st_81_20 rfl ?_
    refine v_iload_n (n := 13) xB_129 dX11_takesWord_12 rfl rfl ?_
    refine v_iload_n (n := 14) xB_129 dX11_takesWord_13 rfl rfl ?_
    refine v_iadd (n := 15) xB_129 dX11_takesWord_14 (by first | omega | (simp only [sA_same, sA_s, ud_s, Int.reduceEq, if_true, if_false, ite_true, ite_false, ↓reduceIte, and_true, true_and, eq_self, Int.add_zero, Int.reduceAdd]; omega) | (simp (disch := omega) only [sA_same, sA_ne, ud_eq, ud_ne, Int.add_zero, Int.reduceAdd]; omega)) rfl ?_
    refine v_iaload (n := 16) (lz := 16) xB_129 dX11_takesWord_15 (sh_94 _ _ _) rfl (by first | omega | (simp only [sA_same, sA_s, ud_s, Int.reduceEq, if_true, if_false, ite_true, ite_false, ↓reduceIte, and_true, true_and, eq_self, Int.add_zero, Int.reduceAdd]; omega) | (simp (disch := omega) only [sA_same, sA_ne, ud_eq, ud_ne, Int.add_zero, Int.reduceAdd]; omega)) rfl ?_
    refine v_call_v (n := 19) xB_129 dX11_takesWord_16 xO_129 iv_11_233 rfl (sh_81 _ _ _) rfl rfl rfl ?_
    refine c_takes (by omega) (by first | omega | (simp only [sA_same, sA_s, ud_s, Int.reduceEq, if_true, if_false, ite_true, ite_false, ↓reduceIte, and_true, true_and, eq_self, Int.add_zero, Int.reduceAdd]; omega) | (simp (disch := omega) only [sA_same, sA_ne, ud_eq, ud_ne, Int.add_zero, Int.reduceAdd]; omega)) (fun g3 => ?_) (fun g4 => ?_)
    · (try simp (disch := omega) only [sA_same, sA_ne, sA_sA, sA_sr, sB_s, ud_eq, ud_ne, ud_ud, ud_sr, uB_s, Int.add_zero, Int.reduceAdd, Int.add_assoc] at g3)
      have zg3 := nxt_in g3 (by omega)
      (try simp (disch := omega) only [Int.add_assoc, Int.reduceAdd])
      (try simp (disch := omega) only [sA_same, sA_ne, sA_sA, sA_sr, sB_s, ud_eq, ud_ne, ud_ud, ud_sr, uB_s, Int.add_zero, Int.reduceAdd] at g3)
      (try simp (disch := omega) only [sA_same, sA_ne, sA_sA, sA_sr, sB_s, ud_eq, ud_ne, ud_ud, ud_sr, uB_s, Int.add_zero, Int.reduceAdd])
      refine v_if_ne_y (t := 24) xB_129 dX11_takesWord_19 (by decide) rfl (by decide) ?_
      refine v_iinc3 (n := 27) xB_129 dX11_takesWord_24 rfl (by first | omega | (simp only [sA_same, sA_s, ud_s, Int.reduceEq, if_true, if_false, ite_true, ite_false, ↓reduceIte, and_true, true_and, eq_self, Int.add_zero, Int.reduceAdd]; omega) | (simp (disch := omega) only [sA_same, sA_ne, ud_eq, ud_ne, Int.add_zero, Int.reduceAdd]; omega)) rfl ?_
      refine v_goto (t := 2) xB_129 dX11_takesWord_27 (by decide) rfl ?_
      refine v_iload_n (n := 3) xB_129 dX11_takesWord_2 rfl rfl ?_
      refine v_iload_n (n := 4) xB_129 dX11_takesWord_3 rfl rfl ?_
      refine v_ic_ge_n (n := 7) xB_129 dX11_takesWord_4 (by decide) rfl (by decide) ?_
      refine v_aload_n (n := 8) xB_129 dX11_takesWord_7 rfl rfl ?_
      refine v_aload_n (n := 9) xB_129 dX11_takesWord_8 rfl rfl ?_
      refine v_gf_s (n := 12) (kz := 20) xB_129 dX11_takesWord_9 xO_129 fl_11_71 fg_11_20 (sh_81 _ _ _) rfl st_81_20 rfl ?_
      refine v_iload_n (n := 13) xB_129 dX11_takesWord_12 rfl rfl ?_
      refine v_iload_n (n := 14) xB_129 dX11_takesWord_13 rfl rfl ?_
      refine v_iadd (n := 15) xB_129 dX11_takesWord_14 (by first | omega | (simp only [sA_same, sA_s, ud_s, Int.reduceEq, if_true, if_false, ite_true, ite_false, ↓reduceIte, and_true, true_and, eq_self, Int.add_zero, Int.reduceAdd]; omega) | (simp (disch := omega) only [sA_same, sA_ne, ud_eq, ud_ne, Int.add_zero, Int.reduceAdd]; omega)) rfl ?_
      refine v_iaload (n := 16) (lz := 16) xB_129 dX11_takesWord_15 (sh_94 _ _ _) rfl (by first | omega | (simp only [sA_same, sA_s, ud_s, Int.reduceEq, if_true, if_false, ite_true, ite_false, ↓reduceIte, and_true, true_and, eq_self, Int.add_zero, Int.reduceAdd]; omega) | (simp (disch := omega) only [sA_same, sA_ne, ud_eq, ud_ne, Int.add_zero, Int.reduceAdd]; omega)) rfl ?_
      refine v_call_v (n := 19) xB_129 dX11_takesWord_16 xO_129 iv_11_233 rfl (sh_81 _ _ _) rfl rfl rfl ?_
      refine c_takes (by omega) (by first | omega | (simp only [sA_same, sA_s, ud_s, Int.reduceEq, if_true, if_false, ite_true, ite_false, ↓reduceIte, and_true, true_and, eq_self, Int.add_zero, Int.reduceAdd]; omega) | (simp (disch := omega) only [sA_same, sA_ne, ud_eq, ud_ne, Int.add_zero, Int.reduceAdd]; omega)) (fun g5 => ?_) (fun g6 => ?_)
      · (try simp (disch := omega) only [sA_same, sA_ne, sA_sA, sA_sr, sB_s, ud_eq, ud_ne, ud_ud, ud_sr, uB_s, Int.add_zero, Int.reduceAdd, Int.add_assoc] at g5)
        have zg5 := nxt_in g5 (by omega)
        (try simp (disch := omega) only [Int.add_assoc, Int.reduceAdd])
        (try simp (disch := omega) only [sA_same, sA_ne, sA_sA, sA_sr, sB_s, ud_eq, ud_ne, ud_ud, ud_sr, uB_s, Int.add_zero, Int.reduceAdd] at g5)
        (try simp (disch := omega) only [sA_same, sA_ne, sA_sA, sA_sr, sB_s, ud_eq, ud_ne, ud_ud, ud_sr, uB_s, Int.add_zero, Int.reduceAdd])
        refine v_if_ne_y (t := 24) xB_129 dX11_takesWord_19 (by decide) rfl (by decide) ?_
        refine v_iinc3 (n := 27) xB_129 dX11_takesWord_24 rfl (by first | omega | (simp only [sA_same, sA_s, ud_s, Int.reduceEq, if_true, if_false, ite_true, ite_false, ↓reduceIte, and_true, true_and, eq_self, Int.add_zero, Int.reduceAdd]; omega) | (simp (disch := omega) only [sA_same, sA_ne, ud_eq, ud_ne, Int.add_zero, Int.reduceAdd]; omega)) rfl ?_
        refine v_goto (t := 2) xB_129 dX11_takesWord_27 (by decide) rfl ?_
        refine v_iload_n (n := 3) xB_129 dX11_takesWord_2 rfl rfl ?_
        refine v_iload_n (n := 4) xB_129 dX11_takesWord_3 rfl rfl ?_
        refine v_ic_ge_n (n := 7) xB_129 dX11_takesWord_4 (by decide) rfl (by decide) ?_
        refine v_aload_n (n := 8) xB_129 dX11_takesWord_7 rfl rfl ?_
        refine v_aload_n (n := 9) xB_129 dX11_takesWord_8 rfl rfl ?_
        refine v_gf_s (n := 12) (kz := 20) xB_129 dX11_takesWord_9 xO_129 fl_11_71 fg_11_20 (sh_81 _ _ _) rfl st_81_20 rfl ?_
        refine v_iload_n (n := 13) xB_129 dX11_takesWord_12 rfl rfl ?_
        refine v_iload_n (n := 14) xB_129 dX11_takesWord_13 rfl rfl ?_
        refine v_iadd (n := 15) xB_129 dX11_takesWord_14 (by first | omega | (simp only [sA_same, sA_s, ud_s, Int.reduceEq, if_true, if_false, ite_true, ite_false, ↓reduceIte, and_true, true_and, eq_self, Int.add_zero, Int.reduceAdd]; omega) | (simp (disch := omega) only [sA_same, sA_ne, ud_eq, ud_ne, Int.add_zero, Int.reduceAdd]; omega)) rfl ?_
        refine v_iaload (n := 16) (lz := 16) xB_129 dX11_takesWord_15 (sh_94 _ _ _) rfl (by first | omega | (simp only [sA_same, sA_s, ud_s, Int.reduceEq, if_true, if_false, ite_true, ite_false, ↓reduceIte, and_true, true_and, eq_self, Int.add_zero, Int.reduceAdd]; omega) | (simp (disch := omega) only [sA_same, sA_ne, ud_eq, ud_ne, Int.add_zero, Int.reduceAdd]; omega)) rfl ?_
        refine v_call_v (n := 19) xB_129 dX11_takesWord_16 xO_129 iv_11_233 rfl (sh_81 _ _ _) rfl rfl rfl ?_
        refine c_takes (by omega) (by first | omega | (simp only [sA_same, sA_s, ud_s, Int.reduceEq, if_true, if_false, ite_true, ite_false, ↓reduceIte, and_true, true_and, eq_self, Int.add_zero, Int.reduceAdd]; omega) | (simp (disch := omega) only [sA_same, sA_ne, ud_eq, ud_ne, Int.add_zero, Int.reduceAdd]; omega)) (fun g7 => ?_) (fun g8 => ?_)
        · (try simp (disch := omega) only [sA_same, sA_ne, sA_sA, sA_sr, sB_s, ud_eq, ud_ne, ud_ud, ud_sr, uB_s, Int.add_zero, Int.reduceAdd, Int.add_assoc] at g7)
          have zg7 := nxt_in g7 (by omega)
          (try simp (disch := omega) only [Int.add_assoc, Int.reduceAdd])
          (try simp (disch := omega) only [sA_same, sA_ne, sA_sA, sA_sr, sB_s, ud_eq, ud_ne, ud_ud, ud_sr, uB_s, Int.add_zero, Int.reduceAdd] at g7)
          (try simp (disch := omega) only [sA_same, sA_ne, sA_sA, sA_sr, sB_s, ud_eq, ud_ne, ud_ud, ud_sr, uB_s, Int.add_zero, Int.reduceAdd])
          refine v_if_ne_y (t := 24) xB_129 dX11_takesWord_19 (by decide) rfl (by decide) ?_
          refine v_iinc3 (n := 27) xB_129 dX11_takesWord_24 rfl (by first | omega | (simp only [sA_same, sA_s, ud_s, Int.reduceEq, if_true, if_false, ite_true, ite_false, ↓reduceIte, and_true, true_and, eq_self, Int.add_zero, Int.reduceAdd]; omega) | (simp (disch := omega) only [sA_same, sA_ne, ud_eq, ud_ne, Int.add_zero, Int.reduceAdd]; omega)) rfl ?_
          refine v_goto (t := 2) xB_129 dX11_takesWord_27 (by decide) rfl ?_
          refine v_iload_n (n := 3) xB_129 dX11_takesWord_2 rfl rfl ?_
          refine v_iload_n (n := 4) xB_129 dX11_takesWord_3 rfl rfl ?_
          refine v_ic_ge_y (t := 30) xB_129 dX11_takesWord_4 (by decide) rfl (by decide) ?_
          refine v_aload_n (n := 31) xB_129 dX11_takesWord_30 rfl rfl ?_
          refine v_bipush (n := 33) xB_129 dX11_takesWord_31 ⟨by decide, by decide⟩ rfl ?_
          refine v_call_v (n := 36) xB_129 dX11_takesWord_33 xO_129 iv_11_233 rfl (sh_81 _ _ _) rfl rfl rfl ?_
          refine c_takes (by omega) (by first | omega | (simp only [sA_same, sA_s, ud_s, Int.reduceEq, if_true, if_false, ite_true, ite_false, ↓reduceIte, and_true, true_and, eq_self, Int.add_zero, Int.reduceAdd]; omega) | (simp (disch := omega) only [sA_same, sA_ne, ud_eq, ud_ne, Int.add_zero, Int.reduceAdd]; omega)) (fun g9 => ?_) (fun g10 => ?_)
          · (try simp (disch := omega) only [sA_same, sA_ne, sA_sA, sA_sr, sB_s, ud_eq, ud_ne, ud_ud, ud_sr, uB_s, Int.add_zero, Int.reduceAdd, Int.add_assoc] at g9)
            have zg9 := nxt_in g9 (by omega)
            (try simp (disch := omega) only [Int.add_assoc, Int.reduceAdd])
            (try simp (disch := omega) only [sA_same, sA_ne, sA_sA, sA_sr, sB_s, ud_eq, ud_ne, ud_ud, ud_sr, uB_s, Int.add_zero, Int.reduceAdd] at g9)
            (try simp (disch := omega) only [sA_same, sA_ne, sA_sA, sA_sr, sB_s, ud_eq, ud_ne, ud_ud, ud_sr, uB_s, Int.add_zero, Int.reduceAdd])
            refine v_ireturn1 xB_129 dX11_takesWord_36 xK_129 (by decide) ?_
            first
            | (have q : twF (m 86) (m 81 6) (m 81 7) 102 114 111 109 = (false, m 81 7) := by unfold twF mt4; rw [if_neg (c := nxt (m 86) (m 81 6) (m 81 7) = _) (by omega), if_neg (by omega), Int.add_zero]
               rw [q] at o2; have o3 := o2 rfl; rw [ud_id, sA_id] at o3; exact o3)
            | (have q : twF (m 86) (m 81 6) (m 81 7) 102 114 111 109 = (false, m 81 7 + 1) := by unfold twF mt4; rw [if_pos (c := nxt (m 86) (m 81 6) (m 81 7) = 102) (by omega), if_neg (c := nxt (m 86) (m 81 6) (m 81 7 + 1) = 114) (by omega), if_neg (by omega)]
               rw [q] at o2; exact o2 rfl)
            | (have q : twF (m 86) (m 81 6) (m 81 7) 102 114 111 109 = (false, m 81 7 + 2) := by unfold twF mt4; rw [if_pos (c := nxt (m 86) (m 81 6) (m 81 7) = 102) (by omega), if_pos (c := nxt (m 86) (m 81 6) (m 81 7 + 1) = 114) (by omega), if_neg (c := nxt (m 86) (m 81 6) (m 81 7 + 2) = 111) (by omega), if_neg (by omega)]
               rw [q] at o2; exact o2 rfl)
            | (have q : twF (m 86) (m 81 6) (m 81 7) 102 114 111 109 = (false, m 81 7 + 3) := by unfold twF mt4; rw [if_pos (c := nxt (m 86) (m 81 6) (m 81 7) = 102) (by omega), if_pos (c := nxt (m 86) (m 81 6) (m 81 7 + 1) = 114) (by omega), if_pos (c := nxt (m 86) (m 81 6) (m 81 7 + 2) = 111) (by omega), if_neg (c := nxt (m 86) (m 81 6) (m 81 7 + 3) = 109) (by omega), if_neg (by omega)]
               rw [q] at o2; exact o2 rfl)
            | (have q : twF (m 86) (m 81 6) (m 81 7) 102 114 111 109 = (false, m 81 7 + 4) := by unfold twF mt4; rw [if_pos (c := nxt (m 86) (m 81 6) (m 81 7) = 102) (by omega), if_pos (c := nxt (m 86) (m 81 6) (m 81 7 + 1) = 114) (by omega), if_pos (c := nxt (m 86) (m 81 6) (m 81 7 + 2) = 111) (by omega), if_pos (c := nxt (m 86) (m 81 6) (m 81 7 + 3) = 109) (by omega), if_pos rfl, if_neg (by omega)]
               rw [q] at o2; exact o2 rfl)
            | (have q : twF (m 86) (m 81 6) (m 81 7) 102 114 111 109 = (true, m 81 7 + 5) := by unfold twF mt4; rw [if_pos (c := nxt (m 86) (m 81 6) (m 81 7) = 102) (by omega), if_pos (c := nxt (m 86) (m 81 6) (m 81 7 + 1) = 114) (by omega), if_pos (c := nxt (m 86) (m 81 6) (m 81 7 + 2) = 111) (by omega), if_pos (c := nxt (m 86) (m 81 6) (m 81 7 + 3) = 109) (by omega), if_pos rfl, if_pos (by omega)]
               rw [q] at o1; rw [show m 81 7 + 4 + 1 = m 81 7 + 5 by omega]; exact o1 rfl)
          · (try simp (disch := omega) only [sA_same, sA_ne, sA_sA, sA_sr, sB_s, ud_eq, ud_ne, ud_ud, ud_sr, uB_s, Int.add_zero, Int.reduceAdd, Int.add_assoc] at g10)
            (try simp (disch := omega) only [Int.add_assoc, Int.reduceAdd])
            (try simp (disch := omega) only [sA_same, sA_ne, sA_sA, sA_sr, sB_s, ud_eq, ud_ne, ud_ud, ud_sr, uB_s, Int.add_zero, Int.reduceAdd] at g10)
            (try simp (disch := omega) only [sA_same, sA_ne, sA_sA, sA_sr, sB_s, ud_eq, ud_ne, ud_ud, ud_sr, uB_s, Int.add_zero, Int.reduceAdd])
            refine v_ireturn1 xB_129 dX11_takesWord_36 xK_129 (by decide) ?_
            first
            | (have q : twF (m 86) (m 81 6) (m 81 7) 102 114 111 109 = (false, m 81 7) := by unfold twF mt4; rw [if_neg (c := nxt (m 86) (m 81 6) (m 81 7) = _) (by omega), if_neg (by omega), Int.add_zero]
               rw [q] at o2; have o3 := o2 rfl; rw [ud_id, sA_id] at o3; exact o3)
            | (have q : twF (m 86) (m 81 6) (m 81 7) 102 114 111 109 = (false, m 81 7 + 1) := by unfold twF mt4; rw [if_pos (c := nxt (m 86) (m 81 6) (m 81 7) = 102) (by omega), if_neg (c := nxt (m 86) (m 81 6) (m 81 7 + 1) = 114) (by omega), if_neg (by omega)]
               rw [q] at o2; exact o2 rfl)
            | (have q : twF (m 86) (m 81 6) (m 81 7) 102 114 111 109 = (false, m 81 7 + 2) := by unfold twF mt4; rw [if_pos (c := nxt (m 86) (m 81 6) (m 81 7) = 102) (by omega), if_pos (c := nxt (m 86) (m 81 6) (m 81 7 + 1) = 114) (by omega), if_neg (c := nxt (m 86) (m 81 6) (m 81 7 + 2) = 111) (by omega), if_neg (by omega)]
               rw [q] at o2; exact o2 rfl)
            | (have q : twF (m 86) (m 81 6) (m 81 7) 102 114 111 109 = (false, m 81 7 + 3) := by unfold twF mt4; rw [if_pos (c := nxt (m 86) (m 81 6) (m 81 7) = 102) (by omega), if_pos (c := nxt (m 86) (m 81 6) (m 81 7 + 1) = 114) (by omega), if_pos (c := nxt (m 86) (m 81 6) (m 81 7 + 2) = 111) (by omega), if_neg (c := nxt (m 86) (m 81 6) (m 81 7 + 3) = 109) (by omega), if_neg (by omega)]
               rw [q] at o2; exact o2 rfl)
            | (have q : twF (m 86) (m 81 6) (m 81 7) 102 114 111 109 = (false, m 81 7 + 4) := by unfold twF mt4; rw [if_pos (c := nxt (m 86) (m 81 6) (m 81 7) = 102) (by omega), if_pos (c := nxt (m 86) (m 81 6) (m 81 7 + 1) = 114) (by omega), if_pos (c := nxt (m 86) (m 81 6) (m 81 7 + 2) = 111) (by omega), if_pos (c := nxt (m 86) (m 81 6) (m 81 7 + 3) = 109) (by omega), if_pos rfl, if_neg (by omega)]
               rw [q] at o2; exact o2 rfl)
            | (have q : twF (m 86) (m 81 6) (m 81 7) 102 114 111 109 = (true, m 81 7 + 5) := by unfold twF mt4; rw [if_pos (c := nxt (m 86) (m 81 6) (m 81 7) = 102) (by omega), if_pos (c := nxt (m 86) (m 81 6) (m 81 7 + 1) = 114) (by omega), if_pos (c := nxt (m 86) (m 81 6) (m 81 7 + 2) = 111) (by omega), if_pos (c := nxt (m 86) (m 81 6) (m 81 7 + 3) = 109) (by omega), if_pos rfl, if_pos (by omega)]
               rw [q] at o1; rw [show m 81 7 + 4 + 1 = m 81 7 + 5 by omega]; exact o1 rfl)
        · (try simp (disch := omega) only [sA_same, sA_ne, sA_sA, sA_sr, sB_s, ud_eq, ud_ne, ud_ud, ud_sr, uB_s, Int.add_zero, Int.reduceAdd, Int.add_assoc] at g8)
          (try simp (disch := omega) only [Int.add_assoc, Int.reduceAdd])
          (try simp (disch := omega) only [sA_same, sA_ne, sA_sA, sA_sr, sB_s, ud_eq, ud_ne, ud_ud, ud_sr, uB_s, Int.add_zero, Int.reduceAdd] at g8)
          (try simp (disch := omega) only [sA_same, sA_ne, sA_sA, sA_sr, sB_s, ud_eq, ud_ne, ud_ud, ud_sr, uB_s, Int.add_zero, Int.reduceAdd])
          refine v_if_ne_n (n := 22) xB_129 dX11_takesWord_19 (by decide) rfl (by decide) ?_
          refine v_iconst (n := 23) xB_129 dX11_takesWord_22 ⟨by decide, by decide⟩ rfl ?_
          refine v_ireturn1 xB_129 dX11_takesWord_23 xK_129 (by decide) ?_
          first
          | (have q : twF (m 86) (m 81 6) (m 81 7) 102 114 111 109 = (false, m 81 7) := by unfold twF mt4; rw [if_neg (c := nxt (m 86) (m 81 6) (m 81 7) = _) (by omega), if_neg (by omega), Int.add_zero]
             rw [q] at o2; have o3 := o2 rfl; rw [ud_id, sA_id] at o3; exact o3)
          | (have q : twF (m 86) (m 81 6) (m 81 7) 102 114 111 109 = (false, m 81 7 + 1) := by unfold twF mt4; rw [if_pos (c := nxt (m 86) (m 81 6) (m 81 7) = 102) (by omega), if_neg (c := nxt (m 86) (m 81 6) (m 81 7 + 1) = 114) (by omega), if_neg (by omega)]
             rw [q] at o2; exact o2 rfl)
          | (have q : twF (m 86) (m 81 6) (m 81 7) 102 114 111 109 = (false, m 81 7 + 2) := by unfold twF mt4; rw [if_pos (c := nxt (m 86) (m 81 6) (m 81 7) = 102) (by omega), if_pos (c := nxt (m 86) (m 81 6) (m 81 7 + 1) = 114) (by omega), if_neg (c := nxt (m 86) (m 81 6) (m 81 7 + 2) = 111) (by omega), if_neg (by omega)]
             rw [q] at o2; exact o2 rfl)
          | (have q : twF (m 86) (m 81 6) (m 81 7) 102 114 111 109 = (false, m 81 7 + 3) := by unfold twF mt4; rw [if_pos (c := nxt (m 86) (m 81 6) (m 81 7) = 102) (by omega), if_pos (c := nxt (m 86) (m 81 6) (m 81 7 + 1) = 114) (by omega), if_pos (c := nxt (m 86) (m 81 6) (m 81 7 + 2) = 111) (by omega), if_neg (c := nxt (m 86) (m 81 6) (m 81 7 + 3) = 109) (by omega), if_neg (by omega)]
             rw [q] at o2; exact o2 rfl)
          | (have q : twF (m 86) (m 81 6) (m 81 7) 102 114 111 109 = (false, m 81 7 + 4) := by unfold twF mt4; rw [if_pos (c := nxt (m 86) (m 81 6) (m 81 7) = 102) (by omega), if_pos (c := nxt (m 86) (m 81 6) (m 81 7 + 1) = 114) (by omega), if_pos (c := nxt (m 86) (m 81 6) (m 81 7 + 2) = 111) (by omega), if_pos (c := nxt (m 86) (m 81 6) (m 81 7 + 3) = 109) (by omega), if_pos rfl, if_neg (by omega)]
             rw [q] at o2; exact o2 rfl)
          | (have q : twF (m 86) (m 81 6) (m 81 7) 102 114 111 109 = (true, m 81 7 + 5) := by unfold twF mt4; rw [if_pos (c := nxt (m 86) (m 81 6) (m 81 7) = 102) (by omega), if_pos (c := nxt (m 86) (m 81 6) (m 81 7 + 1) = 114) (by omega), if_pos (c := nxt (m 86) (m 81 6) (m 81 7 + 2) = 111) (by omega), if_pos (c := nxt (m 86) (m 81 6) (m 81 7 + 3) = 109) (by omega), if_pos rfl, if_pos (by omega)]
             rw [q] at o1; rw [show m 81 7 + 4 + 1 = m 81 7 + 5 by omega]; exact o1 rfl)
      · (try simp (disch := omega) only [sA_same, sA_ne, sA_sA, sA_sr, sB_s, ud_eq, ud_ne, ud_ud, ud_sr, uB_s, Int.add_zero, Int.reduceAdd, Int.add_assoc] at g6)
        (try simp (disch := omega) only [Int.add_assoc, Int.reduceAdd])
        (try simp (disch := omega) only [sA_same, sA_ne, sA_sA, sA_sr, sB_s, ud_eq, ud_ne, ud_ud, ud_sr, uB_s, Int.add_zero, Int.reduceAdd] at g6)
        (try simp (disch := omega) only [sA_same, sA_ne, sA_sA, sA_sr, sB_s, ud_eq, ud_ne, ud_ud, ud_sr, uB_s, Int.add_zero, Int.reduceAdd])
        refine v_if_ne_n (n := 22) xB_129 dX11_takesWord_19 (by decide) rfl (by decide) ?_
        refine v_iconst (n := 23) xB_129 dX11_takesWord_22 ⟨by decide, by decide⟩ rfl ?_
        refine v_ireturn1 xB_129 dX11_takesWord_23 xK_129 (by decide) ?_
        first
        | (have q : twF (m 86) (m 81 6) (m 81 7) 102 114 111 109 = (false, m 81 7) := by unfold twF mt4; rw [if_neg (c := nxt (m 86) (m 81 6) (m 81 7) = _) (by omega), if_neg (by omega), Int.add_zero]
           rw [q] at o2; have o3 := o2 rfl; rw [ud_id, sA_id] at o3; exact o3)
        | (have q : twF (m 86) (m 81 6) (m 81 7) 102 114 111 109 = (false, m 81 7 + 1) := by unfold twF mt4; rw [if_pos (c := nxt (m 86) (m 81 6) (m 81 7) = 102) (by omega), if_neg (c := nxt (m 86) (m 81 6) (m 81 7 + 1) = 114) (by omega), if_neg (by omega)]
           rw [q] at o2; exact o2 rfl)
        | (have q : twF (m 86) (m 81 6) (m 81 7) 102 114 111 109 = (false, m 81 7 + 2) := by unfold twF mt4; rw [if_pos (c := nxt (m 86) (m 81 6) (m 81 7) = 102) (by omega), if_pos (c := nxt (m 86) (m 81 6) (m 81 7 + 1) = 114) (by omega), if_neg (c := nxt (m 86) (m 81 6) (m 81 7 + 2) = 111) (by omega), if_neg (by omega)]
           rw [q] at o2; exact o2 rfl)
        | (have q : twF (m 86) (m 81 6) (m 81 7) 102 114 111 109 = (false, m 81 7 + 3) := by unfold twF mt4; rw [if_pos (c := nxt (m 86) (m 81 6) (m 81 7) = 102) (by omega), if_pos (c := nxt (m 86) (m 81 6) (m 81 7 + 1) = 114) (by omega), if_pos (c := nxt (m 86) (m 81 6) (m 81 7 + 2) = 111) (by omega), if_neg (c := nxt (m 86) (m 81 6) (m 81 7 + 3) = 109) (by omega), if_neg (by omega)]
           rw [q] at o2; exact o2 rfl)
        | (have q : twF (m 86) (m 81 6) (m 81 7) 102 114 111 109 = (false, m 81 7 + 4) := by unfold twF mt4; rw [if_pos (c := nxt (m 86) (m 81 6) (m 81 7) = 102) (by omega), if_pos (c := nxt (m 86) (m 81 6) (m 81 7 + 1) = 114) (by omega), if_pos (c := nxt (m 86) (m 81 6) (m 81 7 + 2) = 111) (by omega), if_pos (c := nxt (m 86) (m 81 6) (m 81 7 + 3) = 109) (by omega), if_pos rfl, if_neg (by omega)]
           rw [q] at o2; exact o2 rfl)
        | (have q : twF (m 86) (m 81 6) (m 81 7) 102 114 111 109 = (true, m 81 7 + 5) := by unfold twF mt4; rw [if_pos (c := nxt (m 86) (m 81 6) (m 81 7) = 102) (by omega), if_pos (c := nxt (m 86) (m 81 6) (m 81 7 + 1) = 114) (by omega), if_pos (c := nxt (m 86) (m 81 6) (m 81 7 + 2) = 111) (by omega), if_pos (c := nxt (m 86) (m 81 6) (m 81 7 + 3) = 109) (by omega), if_pos rfl, if_pos (by omega)]
           rw [q] at o1; rw [show m 81 7 + 4 + 1 = m 81 7 + 5 by omega]; exact o1 rfl)
    · (try simp (disch := omega) only [sA_same, sA_ne, sA_sA, sA_sr, sB_s, ud_eq, ud_ne, ud_ud, ud_sr, uB_s, Int.add_zero, Int.reduceAdd, Int.add_assoc] at g4)
      (try simp (disch := omega) only [Int.add_assoc, Int.reduceAdd])
      (try simp (disch := omega) only [sA_same, sA_ne, sA_sA, sA_sr, sB_s, ud_eq, ud_ne, ud_ud, ud_sr, uB_s, Int.add_zero, Int.reduceAdd] at g4)
      (try simp (disch := omega) only [sA_same, sA_ne, sA_sA, sA_sr, sB_s, ud_eq, ud_ne, ud_ud, ud_sr, uB_s, Int.add_zero, Int.reduceAdd])
      refine v_if_ne_n (n := 22) xB_129 dX11_takesWord_19 (by decide) rfl (by decide) ?_
      refine v_iconst (n := 23) xB_129 dX11_takesWord_22 ⟨by decide, by decide⟩ rfl ?_
      refine v_ireturn1 xB_129 dX11_takesWord_23 xK_129 (by decide) ?_
      first
      | (have q : twF (m 86) (m 81 6) (m 81 7) 102 114 111 109 = (false, m 81 7) := by unfold twF mt4; rw [if_neg (c := nxt (m 86) (m 81 6) (m 81 7) = _) (by omega), if_neg (by omega), Int.add_zero]
         rw [q] at o2; have o3 := o2 rfl; rw [ud_id, sA_id] at o3; exact o3)
      | (have q : twF (m 86) (m 81 6) (m 81 7) 102 114 111 109 = (false, m 81 7 + 1) := by unfold twF mt4; rw [if_pos (c := nxt (m 86) (m 81 6) (m 81 7) = 102) (by omega), if_neg (c := nxt (m 86) (m 81 6) (m 81 7 + 1) = 114) (by omega), if_neg (by omega)]
         rw [q] at o2; exact o2 rfl)
      | (have q : twF (m 86) (m 81 6) (m 81 7) 102 114 111 109 = (false, m 81 7 + 2) := by unfold twF mt4; rw [if_pos (c := nxt (m 86) (m 81 6) (m 81 7) = 102) (by omega), if_pos (c := nxt (m 86) (m 81 6) (m 81 7 + 1) = 114) (by omega), if_neg (c := nxt (m 86) (m 81 6) (m 81 7 + 2) = 111) (by omega), if_neg (by omega)]
         rw [q] at o2; exact o2 rfl)
      | (have q : twF (m 86) (m 81 6) (m 81 7) 102 114 111 109 = (false, m 81 7 + 3) := by unfold twF mt4; rw [if_pos (c := nxt (m 86) (m 81 6) (m 81 7) = 102) (by omega), if_pos (c := nxt (m 86) (m 81 6) (m 81 7 + 1) = 114) (by omega), if_pos (c := nxt (m 86) (m 81 6) (m 81 7 + 2) = 111) (by omega), if_neg (c := nxt (m 86) (m 81 6) (m 81 7 + 3) = 109) (by omega), if_neg (by omega)]
         rw [q] at o2; exact o2 rfl)
      | (have q : twF (m 86) (m 81 6) (m 81 7) 102 114 111 109 = (false, m 81 7 + 4) := by unfold twF mt4; rw [if_pos (c := nxt (m 86) (m 81 6) (m 81 7) = 102) (by omega), if_pos (c := nxt (m 86) (m 81 6) (m 81 7 + 1) = 114) (by omega), if_pos (c := nxt (m 86) (m 81 6) (m 81 7 + 2) = 111) (by omega), if_pos (c := nxt (m 86) (m 81 6) (m 81 7 + 3) = 109) (by omega), if_pos rfl, if_neg (by omega)]
         rw [q] at o2; exact o2 rfl)
      | (have q : twF (m 86) (m 81 6) (m 81 7) 102 114 111 109 = (true, m 81 7 + 5) := by unfold twF mt4; rw [if_pos (c := nxt (m 86) (m 81 6) (m 81 7) = 102) (by omega), if_pos (c := nxt (m 86) (m 81 6) (m 81 7 + 1) = 114) (by omega), if_pos (c := nxt (m 86) (m 81 6) (m 81 7 + 2) = 111) (by omega), if_pos (c := nxt (m 86) (m 81 6) (m 81 7 + 3) = 109) (by omega), if_pos rfl, if_pos (by omega)]
         rw [q] at o1; rw [show m 81 7 + 4 + 1 = m 81 7 + 5 by omega]; exact o1 rfl)
  · (try simp (disch := omega) only [sA_same, sA_ne, sA_sA, sA_sr, sB_s, ud_eq, ud_ne, ud_ud, ud_sr, uB_s, Int.add_zero, Int.reduceAdd, Int.add_assoc] at g2)
    (try simp (disch := omega) only [Int.add_assoc, Int.reduceAdd])
    (try simp (disch := omega) only [sA_same, sA_ne, sA_sA, sA_sr, sB_s, ud_eq, ud_ne, ud_ud, ud_sr, uB_s, Int.add_zero, Int.reduceAdd] at g2)
    (try simp (disch := omega) only [sA_same, sA_ne, sA_sA, sA_sr, sB_s, ud_eq, ud_ne, ud_ud, ud_sr, uB_s, Int.add_zero, Int.reduceAdd])
    refine v_if_ne_n (n := 22) xB_129 dX11_takesWord_19 (by decide) rfl (by decide) ?_
    refine v_iconst (n := 23) xB_129 dX11_takesWord_22 ⟨by decide, by decide⟩ rfl ?_
    refine v_ireturn1 xB_129 dX11_takesWord_23 xK_129 (by decide) ?_
    first
    | (have q : twF (m 86) (m 81 6) (m 81 7) 102 114 111 109 = (false, m 81 7) := by unfold twF mt4; rw [if_neg (c := nxt (m 86) (m 81 6) (m 81 7) = _) (by omega), if_neg (by omega), Int.add_zero]
       rw [q] at o2; have o3 := o2 rfl; rw [ud_id, sA_id] at o3; exact o3)
    | (have q : twF (m 86) (m 81 6) (m 81 7) 102 114 111 109 = (false, m 81 7 + 1) := by unfold twF mt4; rw [if_pos (c := nxt (m 86) (m 81 6) (m 81 7) = 102) (by omega), if_neg (c := nxt (m 86) (m 81 6) (m 81 7 + 1) = 114) (by omega), if_neg (by omega)]
       rw [q] at o2; exact o2 rfl)
    | (have q : twF (m 86) (m 81 6) (m 81 7) 102 114 111 109 = (false, m 81 7 + 2) := by unfold twF mt4; rw [if_pos (c := nxt (m 86) (m 81 6) (m 81 7) = 102) (by omega), if_pos (c := nxt (m 86) (m 81 6) (m 81 7 + 1) = 114) (by omega), if_neg (c := nxt (m 86) (m 81 6) (m 81 7 + 2) = 111) (by omega), if_neg (by omega)]
       rw [q] at o2; exact o2 rfl)
    | (have q : twF (m 86) (m 81 6) (m 81 7) 102 114 111 109 = (false, m 81 7 + 3) := by unfold twF mt4; rw [if_pos (c := nxt (m 86) (m 81 6) (m 81 7) = 102) (by omega), if_pos (c := nxt (m 86) (m 81 6) (m 81 7 + 1) = 114) (by omega), if_pos (c := nxt (m 86) (m 81 6) (m 81 7 + 2) = 111) (by omega), if_neg (c := nxt (m 86) (m 81 6) (m 81 7 + 3) = 109) (by omega), if_neg (by omega)]
       rw [q] at o2; exact o2 rfl)
    | (have q : twF (m 86) (m 81 6) (m 81 7) 102 114 111 109 = (false, m 81 7 + 4) := by unfold twF mt4; rw [if_pos (c := nxt (m 86) (m 81 6) (m 81 7) = 102) (by omega), if_pos (c := nxt (m 86) (m 81 6) (m 81 7 + 1) = 114) (by omega), if_pos (c := nxt (m 86) (m 81 6) (m 81 7 + 2) = 111) (by omega), if_pos (c := nxt (m 86) (m 81 6) (m 81 7 + 3) = 109) (by omega), if_pos rfl, if_neg (by omega)]
       rw [q] at o2; exact o2 rfl)
    | (have q : twF (m 86) (m 81 6) (m 81 7) 102 114 111 109 = (true, m 81 7 + 5) := by unfold twF mt4; rw [if_pos (c := nxt (m 86) (m 81 6) (m 81 7) = 102) (by omega), if_pos (c := nxt (m 86) (m 81 6) (m 81 7 + 1) = 114) (by omega), if_pos (c := nxt (m 86) (m 81 6) (m 81 7 + 2) = 111) (by omega), if_pos (c := nxt (m 86) (m 81 6) (m 81 7 + 3) = 109) (by omega), if_pos rfl, if_pos (by omega)]
       rw [q] at o1; rw [show m 81 7 + 4 + 1 = m 81 7 + 5 by omega]; exact o1 rfl)
set_option maxHeartbeats 1000000 in
theorem c_tw1 {d : Nat}  {m : PM} {dy : List (Nat × Nat)} {L : Nat} {Q : Option PV → PS → Prop} (hd : 3 ≤ d) (hL : ∀ i : Nat, i < 16 → m 94 i = ltr i) (hn : m 81 6 ≤ 100) (ha : 0 ≤ m 81 7 ∧ m 81 7 ≤ m 81 6) (o1 : ((twF (m 86) (m 81 6) (m 81 7) 116 105 108 108).1 = true) → Q (some (.inl 1)) (setA m 81 (ud (m 81) 7 (twF (m 86) (m 81 6) (m 81 7) 116 105 108 108).2), (none, (dy, L)))) (o2 : ((twF (m 86) (m 81 6) (m 81 7) 116 105 108 108).1 = false) → Q (some (.inl 0)) (setA m 81 (ud (m 81) 7 (twF (m 86) (m 81 6) (m 81 7) 116 105 108 108).2), (none, (dy, L)))) : C d 129 [.inr (.inr 81), .inl 4, .inl 4] (m, (none, (dy, L))) Q := by
  refine C_go (k := 2) hd xL_129 (fun d hd => ?_)
  show V d 129 (0, ([some (.inr (.inr 81)), some (.inl 4), some (.inl 4), none], ([], (m, (none, (dy, L)))))) Q
  have u := hL
  have l0 : m 94 4 = 116 := hL 4 (by decide)
  have l1 : m 94 5 = 105 := hL 5 (by decide)
  have l2 : m 94 6 = 108 := hL 6 (by decide)
  have l3 : m 94 7 = 108 := hL 7 (by decide)
  clear u hL
  refine v_iconst (n := 1) xB_129 dX11_takesWord_0 ⟨by decide, by decide⟩ rfl ?_
  refine v_istore_n3 (n := 2) xB_129 dX11_takesWord_1 rfl rfl ?_
  refine v_iload_n (n := 3) xB_129 dX11_takesWord_2 rfl rfl ?_
  refine v_iload_n (n := 4) xB_129 dX11_takesWord_3 rfl rfl ?_
  refine v_ic_ge_n (n := 7) xB_129 dX11_takesWord_4 (by decide) rfl (by decide) ?_
  refine v_aload_n (n := 8) xB_129 dX11_takesWord_7 rfl rfl ?_
  refine v_aload_n (n := 9) xB_129 dX11_takesWord_8 rfl rfl ?_
  refine v_gf_s (n := 12) (kz := 20) xB_129 dX11_takesWord_9 xO_129 fl_11_71 fg_11_20 (sh_81 _ _ _) rfl st_81_20 rfl ?_
  refine v_iload_n (n := 13) xB_129 dX11_takesWord_12 rfl rfl ?_
  refine v_iload_n (n := 14) xB_129 dX11_takesWord_13 rfl rfl ?_
  refine v_iadd (n := 15) xB_129 dX11_takesWord_14 (by first | omega | (simp only [sA_same, sA_s, ud_s, Int.reduceEq, if_true, if_false, ite_true, ite_false, ↓reduceIte, and_true, true_and, eq_self, Int.add_zero, Int.reduceAdd]; omega) | (simp (disch := omega) only [sA_same, sA_ne, ud_eq, ud_ne, Int.add_zero, Int.reduceAdd]; omega)) rfl ?_
  refine v_iaload (n := 16) (lz := 16) xB_129 dX11_takesWord_15 (sh_94 _ _ _) rfl (by first | omega | (simp only [sA_same, sA_s, ud_s, Int.reduceEq, if_true, if_false, ite_true, ite_false, ↓reduceIte, and_true, true_and, eq_self, Int.add_zero, Int.reduceAdd]; omega) | (simp (disch := omega) only [sA_same, sA_ne, ud_eq, ud_ne, Int.add_zero, Int.reduceAdd]; omega)) rfl ?_
  refine v_call_v (n := 19) xB_129 dX11_takesWord_16 xO_129 iv_11_233 rfl (sh_81 _ _ _) rfl rfl rfl ?_
  refine c_takes (by omega) (by first | omega | (simp only [sA_same, sA_s, ud_s, Int.reduceEq, if_true, if_false, ite_true, ite_false, ↓reduceIte, and_true, true_and, eq_self, Int.add_zero, Int.reduceAdd]; omega) | (simp (disch := omega) only [sA_same, sA_ne, ud_eq, ud_ne, Int.add_zero, Int.reduceAdd]; omega)) (fun g1 => ?_) (fun g2 => ?_)
  · (try simp (disch := omega) only [sA_same, sA_ne, sA_sA, sA_sr, sB_s, ud_eq, ud_ne, ud_ud, ud_sr, uB_s, Int.add_zero, Int.reduceAdd, Int.add_assoc] at g1)
    have zg1 := nxt_in g1 (by omega)
    (try simp (disch := omega) only [Int.add_assoc, Int.reduceAdd])
    (try simp (disch := omega) only [sA_same, sA_ne, sA_sA, sA_sr, sB_s, ud_eq, ud_ne, ud_ud, ud_sr, uB_s, Int.add_zero, Int.reduceAdd] at g1)
    (try simp (disch := omega) only [sA_same, sA_ne, sA_sA, sA_sr, sB_s, ud_eq, ud_ne, ud_ud, ud_sr, uB_s, Int.add_zero, Int.reduceAdd])
    refine v_if_ne_y (t := 24) xB_129 dX11_takesWord_19 (by decide) rfl (by decide) ?_
    refine v_iinc3 (n := 27) xB_129 dX11_takesWord_24 rfl (by first | omega | (simp only [sA_same, sA_s, ud_s, Int.reduceEq, if_true, if_false, ite_true, ite_false, ↓reduceIte, and_true, true_and, eq_self, Int.add_zero, Int.reduceAdd]; omega) | (simp (disch := omega) only [sA_same, sA_ne, ud_eq, ud_ne, Int.add_zero, Int.reduceAdd]; omega)) rfl ?_
    refine v_goto (t := 2) xB_129 dX11_takesWord_27 (by decide) rfl ?_
    refine v_iload_n (n := 3) xB_129 dX11_takesWord_2 rfl rfl ?_
    refine v_iload_n (n := 4) xB_129 dX11_takesWord_3 rfl rfl ?_
    refine v_ic_ge_n (n := 7) xB_129 dX11_takesWord_4 (by decide) rfl (by decide) ?_
    refine v_aload_n (n := 8) xB_129 dX11_takesWord_7 rfl rfl ?_
    refine v_aload_n (n := 9) xB_129 dX11_takesWord_8 rfl rfl ?_
    refine v_gf_s (n := 12) (kz := 20) xB_129 dX11_takesWord_9 xO_129 fl_11_71 fg_11_20 (sh_81 _ _ _) rfl st_81_20 rfl ?_
    refine v_iload_n (n := 13) xB_129 dX11_takesWord_12 rfl rfl ?_
    refine v_iload_n (n := 14) xB_129 dX11_takesWord_13 rfl rfl ?_
    refine v_iadd (n := 15) xB_129 dX11_takesWord_14 (by first | omega | (simp only [sA_same, sA_s, ud_s, Int.reduceEq, if_true, if_false, ite_true, ite_false, ↓reduceIte, and_true, true_and, eq_self, Int.add_zero, Int.reduceAdd]; omega) | (simp (disch := omega) only [sA_same, sA_ne, ud_eq, ud_ne, Int.add_zero, Int.reduceAdd]; omega)) rfl ?_
    refine v_iaload (n := 16) (lz := 16) xB_129 dX11_takesWord_15 (sh_94 _ _ _) rfl (by first | omega | (simp only [sA_same, sA_s, ud_s, Int.reduceEq, if_true, if_false, ite_true, ite_false, ↓reduceIte, and_true, true_and, eq_self, Int.add_zero, Int.reduceAdd]; omega) | (simp (disch := omega) only [sA_same, sA_ne, ud_eq, ud_ne, Int.add_zero, Int.reduceAdd]; omega)) rfl ?_
    refine v_call_v (n := 19) xB_129 dX11_takesWord_16 xO_129 iv_11_233 rfl (sh_81 _ _ _) rfl rfl rfl ?_
    refine c_takes (by omega) (by first | omega | (simp only [sA_same, sA_s, ud_s, Int.reduceEq, if_true, if_false, ite_true, ite_false, ↓reduceIte, and_true, true_and, eq_self, Int.add_zero, Int.reduceAdd]; omega) | (simp (disch := omega) only [sA_same, sA_ne, ud_eq, ud_ne, Int.add_zero, Int.reduceAdd]; omega)) (fun g3 => ?_) (fun g4 => ?_)
    · (try simp (disch := omega) only [sA_same, sA_ne, sA_sA, sA_sr, sB_s, ud_eq, ud_ne, ud_ud, ud_sr, uB_s, Int.add_zero, Int.reduceAdd, Int.add_assoc] at g3)
      have zg3 := nxt_in g3 (by omega)
      (try simp (disch := omega) only [Int.add_assoc, Int.reduceAdd])
      (try simp (disch := omega) only [sA_same, sA_ne, sA_sA, sA_sr, sB_s, ud_eq, ud_ne, ud_ud, ud_sr, uB_s, Int.add_zero, Int.reduceAdd] at g3)
      (try simp (disch := omega) only [sA_same, sA_ne, sA_sA, sA_sr, sB_s, ud_eq, ud_ne, ud_ud, ud_sr, uB_s, Int.add_zero, Int.reduceAdd])
      refine v_if_ne_y (t := 24) xB_129 dX11_takesWord_19 (by decide) rfl (by decide) ?_
      refine v_iinc3 (n := 27) xB_129 dX11_takesWord_24 rfl (by first | omega | (simp only [sA_same, sA_s, ud_s, Int.reduceEq, if_true, if_false, ite_true, ite_false, ↓reduceIte, and_true, true_and, eq_self, Int.add_zero, Int.reduceAdd]; omega) | (simp (disch := omega) only [sA_same, sA_ne, ud_eq, ud_ne, Int.add_zero, Int.reduceAdd]; omega)) rfl ?_
      refine v_goto (t := 2) xB_129 dX11_takesWord_27 (by decide) rfl ?_
      refine v_iload_n (n := 3) xB_129 dX11_takesWord_2 rfl rfl ?_
      refine v_iload_n (n := 4) xB_129 dX11_takesWord_3 rfl rfl ?_
      refine v_ic_ge_n (n := 7) xB_129 dX11_takesWord_4 (by decide) rfl (by decide) ?_
      refine v_aload_n (n := 8) xB_129 dX11_takesWord_7 rfl rfl ?_
      refine v_aload_n (n := 9) xB_129 dX11_takesWord_8 rfl rfl ?_
      refine v_gf_s (n := 12) (kz := 20) xB_129 dX11_takesWord_9 xO_129 fl_11_71 fg_11_20 (sh_81 _ _ _) rfl st_81_20 rfl ?_
      refine v_iload_n (n := 13) xB_129 dX11_takesWord_12 rfl rfl ?_
      refine v_iload_n (n := 14) xB_129 dX11_takesWord_13 rfl rfl ?_
      refine v_iadd (n := 15) xB_129 dX11_takesWord_14 (by first | omega | (simp only [sA_same, sA_s, ud_s, Int.reduceEq, if_true, if_false, ite_true, ite_false, ↓reduceIte, and_true, true_and, eq_self, Int.add_zero, Int.reduceAdd]; omega) | (simp (disch := omega) only [sA_same, sA_ne, ud_eq, ud_ne, Int.add_zero, Int.reduceAdd]; omega)) rfl ?_
      refine v_iaload (n := 16) (lz := 16) xB_129 dX11_takesWord_15 (sh_94 _ _ _) rfl (by first | omega | (simp only [sA_same, sA_s, ud_s, Int.reduceEq, if_true, if_false, ite_true, ite_false, ↓reduceIte, and_true, true_and, eq_self, Int.add_zero, Int.reduceAdd]; omega) | (simp (disch := omega) only [sA_same, sA_ne, ud_eq, ud_ne, Int.add_zero, Int.reduceAdd]; omega)) rfl ?_
      refine v_call_v (n := 19) xB_129 dX11_takesWord_16 xO_129 iv_11_233 rfl (sh_81 _ _ _) rfl rfl rfl ?_
      refine c_takes (by omega) (by first | omega | (simp only [sA_same, sA_s, ud_s, Int.reduceEq, if_true, if_false, ite_true, ite_false, ↓reduceIte, and_true, true_and, eq_self, Int.add_zero, Int.reduceAdd]; omega) | (simp (disch := omega) only [sA_same, sA_ne, ud_eq, ud_ne, Int.add_zero, Int.reduceAdd]; omega)) (fun g5 => ?_) (fun g6 => ?_)
      · (try simp (disch := omega) only [sA_same, sA_ne, sA_sA, sA_sr, sB_s, ud_eq, ud_ne, ud_ud, ud_sr, uB_s, Int.add_zero, Int.reduceAdd, Int.add_assoc] at g5)
        have zg5 := nxt_in g5 (by omega)
        (try simp (disch := omega) only [Int.add_assoc, Int.reduceAdd])
        (try simp (disch := omega) only [sA_same, sA_ne, sA_sA, sA_sr, sB_s, ud_eq, ud_ne, ud_ud, ud_sr, uB_s, Int.add_zero, Int.reduceAdd] at g5)
        (try simp (disch := omega) only [sA_same, sA_ne, sA_sA, sA_sr, sB_s, ud_eq, ud_ne, ud_ud, ud_sr, uB_s, Int.add_zero, Int.reduceAdd])
        refine v_if_ne_y (t := 24) xB_129 dX11_takesWord_19 (by decide) rfl (by decide) ?_
        refine v_iinc3 (n := 27) xB_129 dX11_takesWord_24 rfl (by first | omega | (simp only [sA_same, sA_s, ud_s, Int.reduceEq, if_true, if_false, ite_true, ite_false, ↓reduceIte, and_true, true_and, eq_self, Int.add_zero, Int.reduceAdd]; omega) | (simp (disch := omega) only [sA_same, sA_ne, ud_eq, ud_ne, Int.add_zero, Int.reduceAdd]; omega)) rfl ?_
        refine v_goto (t := 2) xB_129 dX11_takesWord_27 (by decide) rfl ?_
        refine v_iload_n (n := 3) xB_129 dX11_takesWord_2 rfl rfl ?_
        refine v_iload_n (n := 4) xB_129 dX11_takesWord_3 rfl rfl ?_
        refine v_ic_ge_n (n := 7) xB_129 dX11_takesWord_4 (by decide) rfl (by decide) ?_
        refine v_aload_n (n := 8) xB_129 dX11_takesWord_7 rfl rfl ?_
        refine v_aload_n (n := 9) xB_129 dX11_takesWord_8 rfl rfl ?_
        refine v_gf_s (n := 12) (kz := 20) xB_129 dX11_takesWord_9 xO_129 fl_11_71 fg_11_20 (sh_81 _ _ _) rfl st_81_20 rfl ?_
        refine v_iload_n (n := 13) xB_129 dX11_takesWord_12 rfl rfl ?_
        refine v_iload_n (n := 14) xB_129 dX11_takesWord_13 rfl rfl ?_
        refine v_iadd (n := 15) xB_129 dX11_takesWord_14 (by first | omega | (simp only [sA_same, sA_s, ud_s, Int.reduceEq, if_true, if_false, ite_true, ite_false, ↓reduceIte, and_true, true_and, eq_self, Int.add_zero, Int.reduceAdd]; omega) | (simp (disch := omega) only [sA_same, sA_ne, ud_eq, ud_ne, Int.add_zero, Int.reduceAdd]; omega)) rfl ?_
        refine v_iaload (n := 16) (lz := 16) xB_129 dX11_takesWord_15 (sh_94 _ _ _) rfl (by first | omega | (simp only [sA_same, sA_s, ud_s, Int.reduceEq, if_true, if_false, ite_true, ite_false, ↓reduceIte, and_true, true_and, eq_self, Int.add_zero, Int.reduceAdd]; omega) | (simp (disch := omega) only [sA_same, sA_ne, ud_eq, ud_ne, Int.add_zero, Int.reduceAdd]; omega)) rfl ?_
        refine v_call_v (n := 19) xB_129 dX11_takesWord_16 xO_129 iv_11_233 rfl (sh_81 _ _ _) rfl rfl rfl ?_
        refine c_takes (by omega) (by first | omega | (simp only [sA_same, sA_s, ud_s, Int.reduceEq, if_true, if_false, ite_true, ite_false, ↓reduceIte, and_true, true_and, eq_self, Int.add_zero, Int.reduceAdd]; omega) | (simp (disch := omega) only [sA_same, sA_ne, ud_eq, ud_ne, Int.add_zero, Int.reduceAdd]; omega)) (fun g7 => ?_) (fun g8 => ?_)
        · (try simp (disch := omega) only [sA_same, sA_ne, sA_sA, sA_sr, sB_s, ud_eq, ud_ne, ud_ud, ud_sr, uB_s, Int.add_zero, Int.reduceAdd, Int.add_assoc] at g7)
          have zg7 := nxt_in g7 (by omega)
          (try simp (disch := omega) only [Int.add_assoc, Int.reduceAdd])
          (try simp (disch := omega) only [sA_same, sA_ne, sA_sA, sA_sr, sB_s, ud_eq, ud_ne, ud_ud, ud_sr, uB_s, Int.add_zero, Int.reduceAdd] at g7)
          (try simp (disch := omega) only [sA_same, sA_ne, sA_sA, sA_sr, sB_s, ud_eq, ud_ne, ud_ud, ud_sr, uB_s, Int.add_zero, Int.reduceAdd])
          refine v_if_ne_y (t := 24) xB_129 dX11_takesWord_19 (by decide) rfl (by decide) ?_
          refine v_iinc3 (n := 27) xB_129 dX11_takesWord_24 rfl (by first | omega | (simp only [sA_same, sA_s, ud_s, Int.reduceEq, if_true, if_false, ite_true, ite_false, ↓reduceIte, and_true, true_and, eq_self, Int.add_zero, Int.reduceAdd]; omega) | (simp (disch := omega) only [sA_same, sA_ne, ud_eq, ud_ne, Int.add_zero, Int.reduceAdd]; omega)) rfl ?_
          refine v_goto (t := 2) xB_129 dX11_takesWord_27 (by decide) rfl ?_
          refine v_iload_n (n := 3) xB_129 dX11_takesWord_2 rfl rfl ?_
          refine v_iload_n (n := 4) xB_129 dX11_takesWord_3 rfl rfl ?_
          refine v_ic_ge_y (t := 30) xB_129 dX11_takesWord_4 (by decide) rfl (by decide) ?_
          refine v_aload_n (n := 31) xB_129 dX11_takesWord_30 rfl rfl ?_
          refine v_bipush (n := 33) xB_129 dX11_takesWord_31 ⟨by decide, by decide⟩ rfl ?_
          refine v_call_v (n := 36) xB_129 dX11_takesWord_33 xO_129 iv_11_233 rfl (sh_81 _ _ _) rfl rfl rfl ?_
          refine c_takes (by omega) (by first | omega | (simp only [sA_same, sA_s, ud_s, Int.reduceEq, if_true, if_false, ite_true, ite_false, ↓reduceIte, and_true, true_and, eq_self, Int.add_zero, Int.reduceAdd]; omega) | (simp (disch := omega) only [sA_same, sA_ne, ud_eq, ud_ne, Int.add_zero, Int.reduceAdd]; omega)) (fun g9 => ?_) (fun g10 => ?_)
          · (try simp (disch := omega) only [sA_same, sA_ne, sA_sA, sA_sr, sB_s, ud_eq, ud_ne, ud_ud, ud_sr, uB_s, Int.add_zero, Int.reduceAdd, Int.add_assoc] at g9)
            have zg9 := nxt_in g9 (by omega)
            (try simp (disch := omega) only [Int.add_assoc, Int.reduceAdd])
            (try simp (disch := omega) only [sA_same, sA_ne, sA_sA, sA_sr, sB_s, ud_eq, ud_ne, ud_ud, ud_sr, uB_s, Int.add_zero, Int.reduceAdd] at g9)
            (try simp (disch := omega) only [sA_same, sA_ne, sA_sA, sA_sr, sB_s, ud_eq, ud_ne, ud_ud, ud_sr, uB_s, Int.add_zero, Int.reduceAdd])
            refine v_ireturn1 xB_129 dX11_takesWord_36 xK_129 (by decide) ?_
            first
            | (have q : twF (m 86) (m 81 6) (m 81 7) 116 105 108 108 = (false, m 81 7) := by unfold twF mt4; rw [if_neg (c := nxt (m 86) (m 81 6) (m 81 7) = _) (by omega), if_neg (by omega), Int.add_zero]
               rw [q] at o2; have o3 := o2 rfl; rw [ud_id, sA_id] at o3; exact o3)
            | (have q : twF (m 86) (m 81 6) (m 81 7) 116 105 108 108 = (false, m 81 7 + 1) := by unfold twF mt4; rw [if_pos (c := nxt (m 86) (m 81 6) (m 81 7) = 116) (by omega), if_neg (c := nxt (m 86) (m 81 6) (m 81 7 + 1) = 105) (by omega), if_neg (by omega)]
               rw [q] at o2; exact o2 rfl)
            | (have q : twF (m 86) (m 81 6) (m 81 7) 116 105 108 108 = (false, m 81 7 + 2) := by unfold twF mt4; rw [if_pos (c := nxt (m 86) (m 81 6) (m 81 7) = 116) (by omega), if_pos (c := nxt (m 86) (m 81 6) (m 81 7 + 1) = 105) (by omega), if_neg (c := nxt (m 86) (m 81 6) (m 81 7 + 2) = 108) (by omega), if_neg (by omega)]
               rw [q] at o2; exact o2 rfl)
            | (have q : twF (m 86) (m 81 6) (m 81 7) 116 105 108 108 = (false, m 81 7 + 3) := by unfold twF mt4; rw [if_pos (c := nxt (m 86) (m 81 6) (m 81 7) = 116) (by omega), if_pos (c := nxt (m 86) (m 81 6) (m 81 7 + 1) = 105) (by omega), if_pos (c := nxt (m 86) (m 81 6) (m 81 7 + 2) = 108) (by omega), if_neg (c := nxt (m 86) (m 81 6) (m 81 7 + 3) = 108) (by omega), if_neg (by omega)]
               rw [q] at o2; exact o2 rfl)
            | (have q : twF (m 86) (m 81 6) (m 81 7) 116 105 108 108 = (false, m 81 7 + 4) := by unfold twF mt4; rw [if_pos (c := nxt (m 86) (m 81 6) (m 81 7) = 116) (by omega), if_pos (c := nxt (m 86) (m 81 6) (m 81 7 + 1) = 105) (by omega), if_pos (c := nxt (m 86) (m 81 6) (m 81 7 + 2) = 108) (by omega), if_pos (c := nxt (m 86) (m 81 6) (m 81 7 + 3) = 108) (by omega), if_pos rfl, if_neg (by omega)]
               rw [q] at o2; exact o2 rfl)
            | (have q : twF (m 86) (m 81 6) (m 81 7) 116 105 108 108 = (true, m 81 7 + 5) := by unfold twF mt4; rw [if_pos (c := nxt (m 86) (m 81 6) (m 81 7) = 116) (by omega), if_pos (c := nxt (m 86) (m 81 6) (m 81 7 + 1) = 105) (by omega), if_pos (c := nxt (m 86) (m 81 6) (m 81 7 + 2) = 108) (by omega), if_pos (c := nxt (m 86) (m 81 6) (m 81 7 + 3) = 108) (by omega), if_pos rfl, if_pos (by omega)]
               rw [q] at o1; rw [show m 81 7 + 4 + 1 = m 81 7 + 5 by omega]; exact o1 rfl)
          · (try simp (disch := omega) only [sA_same, sA_ne, sA_sA, sA_sr, sB_s, ud_eq, ud_ne, ud_ud, ud_sr, uB_s, Int.add_zero, Int.reduceAdd, Int.add_assoc] at g10)
            (try simp (disch := omega) only [Int.add_assoc, Int.reduceAdd])
            (try simp (disch := omega) only [sA_same, sA_ne, sA_sA, sA_sr, sB_s, ud_eq, ud_ne, ud_ud, ud_sr, uB_s, Int.add_zero, Int.reduceAdd] at g10)
            (try simp (disch := omega) only [sA_same, sA_ne, sA_sA, sA_sr, sB_s, ud_eq, ud_ne, ud_ud, ud_sr, uB_s, Int.add_zero, Int.reduceAdd])
            refine v_ireturn1 xB_129 dX11_takesWord_36 xK_129 (by decide) ?_
            first
            | (have q : twF (m 86) (m 81 6) (m 81 7) 116 105 108 108 = (false, m 81 7) := by unfold twF mt4; rw [if_neg (c := nxt (m 86) (m 81 6) (m 81 7) = _) (by omega), if_neg (by omega), Int.add_zero]
               rw [q] at o2; have o3 := o2 rfl; rw [ud_id, sA_id] at o3; exact o3)
            | (have q : twF (m 86) (m 81 6) (m 81 7) 116 105 108 108 = (false, m 81 7 + 1) := by unfold twF mt4; rw [if_pos (c := nxt (m 86) (m 81 6) (m 81 7) = 116) (by omega), if_neg (c := nxt (m 86) (m 81 6) (m 81 7 + 1) = 105) (by omega), if_neg (by omega)]
               rw [q] at o2; exact o2 rfl)
            | (have q : twF (m 86) (m 81 6) (m 81 7) 116 105 108 108 = (false, m 81 7 + 2) := by unfold twF mt4; rw [if_pos (c := nxt (m 86) (m 81 6) (m 81 7) = 116) (by omega), if_pos (c := nxt (m 86) (m 81 6) (m 81 7 + 1) = 105) (by omega), if_neg (c := nxt (m 86) (m 81 6) (m 81 7 + 2) = 108) (by omega), if_neg (by omega)]
               rw [q] at o2; exact o2 rfl)
            | (have q : twF (m 86) (m 81 6) (m 81 7) 116 105 108 108 = (false, m 81 7 + 3) := by unfold twF mt4; rw [if_pos (c := nxt (m 86) (m 81 6) (m 81 7) = 116) (by omega), if_pos (c := nxt (m 86) (m 81 6) (m 81 7 + 1) = 105) (by omega), if_pos (c := nxt (m 86) (m 81 6) (m 81 7 + 2) = 108) (by omega), if_neg (c := nxt (m 86) (m 81 6) (m 81 7 + 3) = 108) (by omega), if_neg (by omega)]
               rw [q] at o2; exact o2 rfl)
            | (have q : twF (m 86) (m 81 6) (m 81 7) 116 105 108 108 = (false, m 81 7 + 4) := by unfold twF mt4; rw [if_pos (c := nxt (m 86) (m 81 6) (m 81 7) = 116) (by omega), if_pos (c := nxt (m 86) (m 81 6) (m 81 7 + 1) = 105) (by omega), if_pos (c := nxt (m 86) (m 81 6) (m 81 7 + 2) = 108) (by omega), if_pos (c := nxt (m 86) (m 81 6) (m 81 7 + 3) = 108) (by omega), if_pos rfl, if_neg (by omega)]
               rw [q] at o2; exact o2 rfl)
            | (have q : twF (m 86) (m 81 6) (m 81 7) 116 105 108 108 = (true, m 81 7 + 5) := by unfold twF mt4; rw [if_pos (c := nxt (m 86) (m 81 6) (m 81 7) = 116) (by omega), if_pos (c := nxt (m 86) (m 81 6) (m 81 7 + 1) = 105) (by omega), if_pos (c := nxt (m 86) (m 81 6) (m 81 7 + 2) = 108) (by omega), if_pos (c := nxt (m 86) (m 81 6) (m 81 7 + 3) = 108) (by omega), if_pos rfl, if_pos (by omega)]
               rw [q] at o1; rw [show m 81 7 + 4 + 1 = m 81 7 + 5 by omega]; exact o1 rfl)
        · (try simp (disch := omega) only [sA_same, sA_ne, sA_sA, sA_sr, sB_s, ud_eq, ud_ne, ud_ud, ud_sr, uB_s, Int.add_zero, Int.reduceAdd, Int.add_assoc] at g8)
          (try simp (disch := omega) only [Int.add_assoc, Int.reduceAdd])
          (try simp (disch := omega) only [sA_same, sA_ne, sA_sA, sA_sr, sB_s, ud_eq, ud_ne, ud_ud, ud_sr, uB_s, Int.add_zero, Int.reduceAdd] at g8)
          (try simp (disch := omega) only [sA_same, sA_ne, sA_sA, sA_sr, sB_s, ud_eq, ud_ne, ud_ud, ud_sr, uB_s, Int.add_zero, Int.reduceAdd])
          refine v_if_ne_n (n := 22) xB_129 dX11_takesWord_19 (by decide) rfl (by decide) ?_
          refine v_iconst (n := 23) xB_129 dX11_takesWord_22 ⟨by decide, by decide⟩ rfl ?_
          refine v_ireturn1 xB_129 dX11_takesWord_23 xK_129 (by decide) ?_
          first
          | (have q : twF (m 86) (m 81 6) (m 81 7) 116 105 108 108 = (false, m 81 7) := by unfold twF mt4; rw [if_neg (c := nxt (m 86) (m 81 6) (m 81 7) = _) (by omega), if_neg (by omega), Int.add_zero]
             rw [q] at o2; have o3 := o2 rfl; rw [ud_id, sA_id] at o3; exact o3)
          | (have q : twF (m 86) (m 81 6) (m 81 7) 116 105 108 108 = (false, m 81 7 + 1) := by unfold twF mt4; rw [if_pos (c := nxt (m 86) (m 81 6) (m 81 7) = 116) (by omega), if_neg (c := nxt (m 86) (m 81 6) (m 81 7 + 1) = 105) (by omega), if_neg (by omega)]
             rw [q] at o2; exact o2 rfl)
          | (have q : twF (m 86) (m 81 6) (m 81 7) 116 105 108 108 = (false, m 81 7 + 2) := by unfold twF mt4; rw [if_pos (c := nxt (m 86) (m 81 6) (m 81 7) = 116) (by omega), if_pos (c := nxt (m 86) (m 81 6) (m 81 7 + 1) = 105) (by omega), if_neg (c := nxt (m 86) (m 81 6) (m 81 7 + 2) = 108) (by omega), if_neg (by omega)]
             rw [q] at o2; exact o2 rfl)
          | (have q : twF (m 86) (m 81 6) (m 81 7) 116 105 108 108 = (false, m 81 7 + 3) := by unfold twF mt4; rw [if_pos (c := nxt (m 86) (m 81 6) (m 81 7) = 116) (by omega), if_pos (c := nxt (m 86) (m 81 6) (m 81 7 + 1) = 105) (by omega), if_pos (c := nxt (m 86) (m 81 6) (m 81 7 + 2) = 108) (by omega), if_neg (c := nxt (m 86) (m 81 6) (m 81 7 + 3) = 108) (by omega), if_neg (by omega)]
             rw [q] at o2; exact o2 rfl)
          | (have q : twF (m 86) (m 81 6) (m 81 7) 116 105 108 108 = (false, m 81 7 + 4) := by unfold twF mt4; rw [if_pos (c := nxt (m 86) (m 81 6) (m 81 7) = 116) (by omega), if_pos (c := nxt (m 86) (m 81 6) (m 81 7 + 1) = 105) (by omega), if_pos (c := nxt (m 86) (m 81 6) (m 81 7 + 2) = 108) (by omega), if_pos (c := nxt (m 86) (m 81 6) (m 81 7 + 3) = 108) (by omega), if_pos rfl, if_neg (by omega)]
             rw [q] at o2; exact o2 rfl)
          | (have q : twF (m 86) (m 81 6) (m 81 7) 116 105 108 108 = (true, m 81 7 + 5) := by unfold twF mt4; rw [if_pos (c := nxt (m 86) (m 81 6) (m 81 7) = 116) (by omega), if_pos (c := nxt (m 86) (m 81 6) (m 81 7 + 1) = 105) (by omega), if_pos (c := nxt (m 86) (m 81 6) (m 81 7 + 2) = 108) (by omega), if_pos (c := nxt (m 86) (m 81 6) (m 81 7 + 3) = 108) (by omega), if_pos rfl, if_pos (by omega)]
             rw [q] at o1; rw [show m 81 7 + 4 + 1 = m 81 7 + 5 by omega]; exact o1 rfl)
      · (try simp (disch := omega) only [sA_same, sA_ne, sA_sA, sA_sr, sB_s, ud_eq, ud_ne, ud_ud, ud_sr, uB_s, Int.add_zero, Int.reduceAdd, Int.add_assoc] at g6)
        (try simp (disch := omega) only [Int.add_assoc, Int.reduceAdd])
        (try simp (disch := omega) only [sA_same, sA_ne, sA_sA, sA_sr, sB_s, ud_eq, ud_ne, ud_ud, ud_sr, uB_s, Int.add_zero, Int.reduceAdd] at g6)
        (try simp (disch := omega) only [sA_same, sA_ne, sA_sA, sA_sr, sB_s, ud_eq, ud_ne, ud_ud, ud_sr, uB_s, Int.add_zero, Int.reduceAdd])
        refine v_if_ne_n (n := 22) xB_129 dX11_takesWord_19 (by decide) rfl (by decide) ?_
        refine v_iconst (n := 23) xB_129 dX11_takesWord_22 ⟨by decide, by decide⟩ rfl ?_
        refine v_ireturn1 xB_129 dX11_takesWord_23 xK_129 (by decide) ?_
        first
        | (have q : twF (m 86) (m 81 6) (m 81 7) 116 105 108 108 = (false, m 81 7) := by unfold twF mt4; rw [if_neg (c := nxt (m 86) (m 81 6) (m 81 7) = _) (by omega), if_neg (by omega), Int.add_zero]
           rw [q] at o2; have o3 := o2 rfl; rw [ud_id, sA_id] at o3; exact o3)
        | (have q : twF (m 86) (m 81 6) (m 81 7) 116 105 108 108 = (false, m 81 7 + 1) := by unfold twF mt4; rw [if_pos (c := nxt (m 86) (m 81 6) (m 81 7) = 116) (by omega), if_neg (c := nxt (m 86) (m 81 6) (m 81 7 + 1) = 105) (by omega), if_neg (by omega)]
           rw [q] at o2; exact o2 rfl)
        | (have q : twF (m 86) (m 81 6) (m 81 7) 116 105 108 108 = (false, m 81 7 + 2) := by unfold twF mt4; rw [if_pos (c := nxt (m 86) (m 81 6) (m 81 7) = 116) (by omega), if_pos (c := nxt (m 86) (m 81 6) (m 81 7 + 1) = 105) (by omega), if_neg (c := nxt (m 86) (m 81 6) (m 81 7 + 2) = 108) (by omega), if_neg (by omega)]
           rw [q] at o2; exact o2 rfl)
        | (have q : twF (m 86) (m 81 6) (m 81 7) 116 105 108 108 = (false, m 81 7 + 3) := by unfold twF mt4; rw [if_pos (c := nxt (m 86) (m 81 6) (m 81 7) = 116) (by omega), if_pos (c := nxt (m 86) (m 81 6) (m 81 7 + 1) = 105) (by omega), if_pos (c := nxt (m 86) (m 81 6) (m 81 7 + 2) = 108) (by omega), if_neg (c := nxt (m 86) (m 81 6) (m 81 7 + 3) = 108) (by omega), if_neg (by omega)]
           rw [q] at o2; exact o2 rfl)
        | (have q : twF (m 86) (m 81 6) (m 81 7) 116 105 108 108 = (false, m 81 7 + 4) := by unfold twF mt4; rw [if_pos (c := nxt (m 86) (m 81 6) (m 81 7) = 116) (by omega), if_pos (c := nxt (m 86) (m 81 6) (m 81 7 + 1) = 105) (by omega), if_pos (c := nxt (m 86) (m 81 6) (m 81 7 + 2) = 108) (by omega), if_pos (c := nxt (m 86) (m 81 6) (m 81 7 + 3) = 108) (by omega), if_pos rfl, if_neg (by omega)]
           rw [q] at o2; exact o2 rfl)
        | (have q : twF (m 86) (m 81 6) (m 81 7) 116 105 108 108 = (true, m 81 7 + 5) := by unfold twF mt4; rw [if_pos (c := nxt (m 86) (m 81 6) (m 81 7) = 116) (by omega), if_pos (c := nxt (m 86) (m 81 6) (m 81 7 + 1) = 105) (by omega), if_pos (c := nxt (m 86) (m 81 6) (m 81 7 + 2) = 108) (by omega), if_pos (c := nxt (m 86) (m 81 6) (m 81 7 + 3) = 108) (by omega), if_pos rfl, if_pos (by omega)]
           rw [q] at o1; rw [show m 81 7 + 4 + 1 = m 81 7 + 5 by omega]; exact o1 rfl)
    · (try simp (disch := omega) only [sA_same, sA_ne, sA_sA, sA_sr, sB_s, ud_eq, ud_ne, ud_ud, ud_sr, uB_s, Int.add_zero, Int.reduceAdd, Int.add_assoc] at g4)
      (try simp (disch := omega) only [Int.add_assoc, Int.reduceAdd])
      (try simp (disch := omega) only [sA_same, sA_ne, sA_sA, sA_sr, sB_s, ud_eq, ud_ne, ud_ud, ud_sr, uB_s, Int.add_zero, Int.reduceAdd] at g4)
      (try simp (disch := omega) only [sA_same, sA_ne, sA_sA, sA_sr, sB_s, ud_eq, ud_ne, ud_ud, ud_sr, uB_s, Int.add_zero, Int.reduceAdd])
      refine v_if_ne_n (n := 22) xB_129 dX11_takesWord_19 (by decide) rfl (by decide) ?_
      refine v_iconst (n := 23) xB_129 dX11_takesWord_22 ⟨by decide, by decide⟩ rfl ?_
      refine v_ireturn1 xB_129 dX11_takesWord_23 xK_129 (by decide) ?_
      first
      | (have q : twF (m 86) (m 81 6) (m 81 7) 116 105 108 108 = (false, m 81 7) := by unfold twF mt4; rw [if_neg (c := nxt (m 86) (m 81 6) (m 81 7) = _) (by omega), if_neg (by omega), Int.add_zero]
         rw [q] at o2; have o3 := o2 rfl; rw [ud_id, sA_id] at o3; exact o3)
      | (have q : twF (m 86) (m 81 6) (m 81 7) 116 105 108 108 = (false, m 81 7 + 1) := by unfold twF mt4; rw [if_pos (c := nxt (m 86) (m 81 6) (m 81 7) = 116) (by omega), if_neg (c := nxt (m 86) (m 81 6) (m 81 7 + 1) = 105) (by omega), if_neg (by omega)]
         rw [q] at o2; exact o2 rfl)
      | (have q : twF (m 86) (m 81 6) (m 81 7) 116 105 108 108 = (false, m 81 7 + 2) := by unfold twF mt4; rw [if_pos (c := nxt (m 86) (m 81 6) (m 81 7) = 116) (by omega), if_pos (c := nxt (m 86) (m 81 6) (m 81 7 + 1) = 105) (by omega), if_neg (c := nxt (m 86) (m 81 6) (m 81 7 + 2) = 108) (by omega), if_neg (by omega)]
         rw [q] at o2; exact o2 rfl)
      | (have q : twF (m 86) (m 81 6) (m 81 7) 116 105 108 108 = (false, m 81 7 + 3) := by unfold twF mt4; rw [if_pos (c := nxt (m 86) (m 81 6) (m 81 7) = 116) (by omega), if_pos (c := nxt (m 86) (m 81 6) (m 81 7 + 1) = 105) (by omega), if_pos (c := nxt (m 86) (m 81 6) (m 81 7 + 2) = 108) (by omega), if_neg (c := nxt (m 86) (m 81 6) (m 81 7 + 3) = 108) (by omega), if_neg (by omega)]
         rw [q] at o2; exact o2 rfl)
      | (have q : twF (m 86) (m 81 6) (m 81 7) 116 105 108 108 = (false, m 81 7 + 4) := by unfold twF mt4; rw [if_pos (c := nxt (m 86) (m 81 6) (m 81 7) = 116) (by omega), if_pos (c := nxt (m 86) (m 81 6) (m 81 7 + 1) = 105) (by omega), if_pos (c := nxt (m 86) (m 81 6) (m 81 7 + 2) = 108) (by omega), if_pos (c := nxt (m 86) (m 81 6) (m 81 7 + 3) = 108) (by omega), if_pos rfl, if_neg (by omega)]
         rw [q] at o2; exact o2 rfl)
      | (have q : twF (m 86) (m 81 6) (m 81 7) 116 105 108 108 = (true, m 81 7 + 5) := by unfold twF mt4; rw [if_pos (c := nxt (m 86) (m 81 6) (m 81 7) = 116) (by omega), if_pos (c := nxt (m 86) (m 81 6) (m 81 7 + 1) = 105) (by omega), if_pos (c := nxt (m 86) (m 81 6) (m 81 7 + 2) = 108) (by omega), if_pos (c := nxt (m 86) (m 81 6) (m 81 7 + 3) = 108) (by omega), if_pos rfl, if_pos (by omega)]
         rw [q] at o1; rw [show m 81 7 + 4 + 1 = m 81 7 + 5 by omega]; exact o1 rfl)
  · (try simp (disch := omega) only [sA_same, sA_ne, sA_sA, sA_sr, sB_s, ud_eq, ud_ne, ud_ud, ud_sr, uB_s, Int.add_zero, Int.reduceAdd, Int.add_assoc] at g2)
    (try simp (disch := omega) only [Int.add_assoc, Int.reduceAdd])
    (try simp (disch := omega) only [sA_same, sA_ne, sA_sA, sA_sr, sB_s, ud_eq, ud_ne, ud_ud, ud_sr, uB_s, Int.add_zero, Int.reduceAdd] at g2)
    (try simp (disch := omega) only [sA_same, sA_ne, sA_sA, sA_sr, sB_s, ud_eq, ud_ne, ud_ud, ud_sr, uB_s, Int.add_zero, Int.reduceAdd])
    refine v_if_ne_n (n := 22) xB_129 dX11_takesWord_19 (by decide) rfl (by decide) ?_
    refine v_iconst (n := 23) xB_129 dX11_takesWord_22 ⟨by decide, by decide⟩ rfl ?_
    refine v_ireturn1 xB_129 dX11_takesWord_23 xK_129 (by decide) ?_
    first
    | (have q : twF (m 86) (m 81 6) (m 81 7) 116 105 108 108 = (false, m 81 7) := by unfold twF mt4; rw [if_neg (c := nxt (m 86) (m 81 6) (m 81 7) = _) (by omega), if_neg (by omega), Int.add_zero]
       rw [q] at o2; have o3 := o2 rfl; rw [ud_id, sA_id] at o3; exact o3)
    | (have q : twF (m 86) (m 81 6) (m 81 7) 116 105 108 108 = (false, m 81 7 + 1) := by unfold twF mt4; rw [if_pos (c := nxt (m 86) (m 81 6) (m 81 7) = 116) (by omega), if_neg (c := nxt (m 86) (m 81 6) (m 81 7 + 1) = 105) (by omega), if_neg (by omega)]
       rw [q] at o2; exact o2 rfl)
    | (have q : twF (m 86) (m 81 6) (m 81 7) 116 105 108 108 = (false, m 81 7 + 2) := by unfold twF mt4; rw [if_pos (c := nxt (m 86) (m 81 6) (m 81 7) = 116) (by omega), if_pos (c := nxt (m 86) (m 81 6) (m 81 7 + 1) = 105) (by omega), if_neg (c := nxt (m 86) (m 81 6) (m 81 7 + 2) = 108) (by omega), if_neg (by omega)]
       rw [q] at o2; exact o2 rfl)
    | (have q : twF (m 86) (m 81 6) (m 81 7) 116 105 108 108 = (false, m 81 7 + 3) := by unfold twF mt4; rw [if_pos (c := nxt (m 86) (m 81 6) (m 81 7) = 116) (by omega), if_pos (c := nxt (m 86) (m 81 6) (m 81 7 + 1) = 105) (by omega), if_pos (c := nxt (m 86) (m 81 6) (m 81 7 + 2) = 108) (by omega), if_neg (c := nxt (m 86) (m 81 6) (m 81 7 + 3) = 108) (by omega), if_neg (by omega)]
       rw [q] at o2; exact o2 rfl)
    | (have q : twF (m 86) (m 81 6) (m 81 7) 116 105 108 108 = (false, m 81 7 + 4) := by unfold twF mt4; rw [if_pos (c := nxt (m 86) (m 81 6) (m 81 7) = 116) (by omega), if_pos (c := nxt (m 86) (m 81 6) (m 81 7 + 1) = 105) (by omega), if_pos (c := nxt (m 86) (m 81 6) (m 81 7 + 2) = 108) (by omega), if_pos (c := nxt (m 86) (m 81 6) (m 81 7 + 3) = 108) (by omega), if_pos rfl, if_neg (by omega)]
       rw [q] at o2; exact o2 rfl)
    | (have q : twF (m 86) (m 81 6) (m 81 7) 116 105 108 108 = (true, m 81 7 + 5) := by unfold twF mt4; rw [if_pos (c := nxt (m 86) (m 81 6) (m 81 7) = 116) (by omega), if_pos (c := nxt (m 86) (m 81 6) (m 81 7 + 1) = 105) (by omega), if_pos (c := nxt (m 86) (m 81 6) (m 81 7 + 2) = 108) (by omega), if_pos (c := nxt (m 86) (m 81 6) (m 81 7 + 3) = 108) (by omega), if_pos rfl, if_pos (by omega)]
       rw [q] at o1; rw [show m 81 7 + 4 + 1 = m 81 7 + 5 by omega]; exact o1 rfl)
set_option maxHeartbeats 1000000 in
theorem c_tw2 {d : Nat}  {m : PM} {dy : List (Nat × Nat)} {L : Nat} {Q : Option PV → PS → Prop} (hd : 3 ≤ d) (hL : ∀ i : Nat, i < 16 → m 94 i = ltr i) (hn : m 81 6 ≤ 100) (ha : 0 ≤ m 81 7 ∧ m 81 7 ≤ m 81 6) (o1 : ((twF (m 86) (m 81 6) (m 81 7) 115 107 105 112).1 = true) → Q (some (.inl 1)) (setA m 81 (ud (m 81) 7 (twF (m 86) (m 81 6) (m 81 7) 115 107 105 112).2), (none, (dy, L)))) (o2 : ((twF (m 86) (m 81 6) (m 81 7) 115 107 105 112).1 = false) → Q (some (.inl 0)) (setA m 81 (ud (m 81) 7 (twF (m 86) (m 81 6) (m 81 7) 115 107 105 112).2), (none, (dy, L)))) : C d 129 [.inr (.inr 81), .inl 8, .inl 4] (m, (none, (dy, L))) Q := by
  refine C_go (k := 2) hd xL_129 (fun d hd => ?_)
  show V d 129 (0, ([some (.inr (.inr 81)), some (.inl 8), some (.inl 4), none], ([], (m, (none, (dy, L)))))) Q
  have u := hL
  have l0 : m 94 8 = 115 := hL 8 (by decide)
  have l1 : m 94 9 = 107 := hL 9 (by decide)
  have l2 : m 94 10 = 105 := hL 10 (by decide)
  have l3 : m 94 11 = 112 := hL 11 (by decide)
  clear u hL
  refine v_iconst (n := 1) xB_129 dX11_takesWord_0 ⟨by decide, by decide⟩ rfl ?_
  refine v_istore_n3 (n := 2) xB_129 dX11_takesWord_1 rfl rfl ?_
  refine v_iload_n (n := 3) xB_129 dX11_takesWord_2 rfl rfl ?_
  refine v_iload_n (n := 4) xB_129 dX11_takesWord_3 rfl rfl ?_
  refine v_ic_ge_n (n := 7) xB_129 dX11_takesWord_4 (by decide) rfl (by decide) ?_
  refine v_aload_n (n := 8) xB_129 dX11_takesWord_7 rfl rfl ?_
  refine v_aload_n (n := 9) xB_129 dX11_takesWord_8 rfl rfl ?_
  refine v_gf_s (n := 12) (kz := 20) xB_129 dX11_takesWord_9 xO_129 fl_11_71 fg_11_20 (sh_81 _ _ _) rfl st_81_20 rfl ?_
  refine v_iload_n (n := 13) xB_129 dX11_takesWord_12 rfl rfl ?_
  refine v_iload_n (n := 14) xB_129 dX11_takesWord_13 rfl rfl ?_
  refine v_iadd (n := 15) xB_129 dX11_takesWord_14 (by first | omega | (simp only [sA_same, sA_s, ud_s, Int.reduceEq, if_true, if_false, ite_true, ite_false, ↓reduceIte, and_true, true_and, eq_self, Int.add_zero, Int.reduceAdd]; omega) | (simp (disch := omega) only [sA_same, sA_ne, ud_eq, ud_ne, Int.add_zero, Int.reduceAdd]; omega)) rfl ?_
  refine v_iaload (n := 16) (lz := 16) xB_129 dX11_takesWord_15 (sh_94 _ _ _) rfl (by first | omega | (simp only [sA_same, sA_s, ud_s, Int.reduceEq, if_true, if_false, ite_true, ite_false, ↓reduceIte, and_true, true_and, eq_self, Int.add_zero, Int.reduceAdd]; omega) | (simp (disch := omega) only [sA_same, sA_ne, ud_eq, ud_ne, Int.add_zero, Int.reduceAdd]; omega)) rfl ?_
  refine v_call_v (n := 19) xB_129 dX11_takesWord_16 xO_129 iv_11_233 rfl (sh_81 _ _ _) rfl rfl rfl ?_
  refine c_takes (by omega) (by first | omega | (simp only [sA_same, sA_s, ud_s, Int.reduceEq, if_true, if_false, ite_true, ite_false, ↓reduceIte, and_true, true_and, eq_self, Int.add_zero, Int.reduceAdd]; omega) | (simp (disch := omega) only [sA_same, sA_ne, ud_eq, ud_ne, Int.add_zero, Int.reduceAdd]; omega)) (fun g1 => ?_) (fun g2 => ?_)
  · (try simp (disch := omega) only [sA_same, sA_ne, sA_sA, sA_sr, sB_s, ud_eq, ud_ne, ud_ud, ud_sr, uB_s, Int.add_zero, Int.reduceAdd, Int.add_assoc] at g1)
    have zg1 := nxt_in g1 (by omega)
    (try simp (disch := omega) only [Int.add_assoc, Int.reduceAdd])
    (try simp (disch := omega) only [sA_same, sA_ne, sA_sA, sA_sr, sB_s, ud_eq, ud_ne, ud_ud, ud_sr, uB_s, Int.add_zero, Int.reduceAdd] at g1)
    (try simp (disch := omega) only [sA_same, sA_ne, sA_sA, sA_sr, sB_s, ud_eq, ud_ne, ud_ud, ud_sr, uB_s, Int.add_zero, Int.reduceAdd])
    refine v_if_ne_y (t := 24) xB_129 dX11_takesWord_19 (by decide) rfl (by decide) ?_
    refine v_iinc3 (n := 27) xB_129 dX11_takesWord_24 rfl (by first | omega | (simp only [sA_same, sA_s, ud_s, Int.reduceEq, if_true, if_false, ite_true, ite_false, ↓reduceIte, and_true, true_and, eq_self, Int.add_zero, Int.reduceAdd]; omega) | (simp (disch := omega) only [sA_same, sA_ne, ud_eq, ud_ne, Int.add_zero, Int.reduceAdd]; omega)) rfl ?_
    refine v_goto (t := 2) xB_129 dX11_takesWord_27 (by decide) rfl ?_
    refine v_iload_n (n := 3) xB_129 dX11_takesWord_2 rfl rfl ?_
    refine v_iload_n (n := 4) xB_129 dX11_takesWord_3 rfl rfl ?_
    refine v_ic_ge_n (n := 7) xB_129 dX11_takesWord_4 (by decide) rfl (by decide) ?_
    refine v_aload_n (n := 8) xB_129 dX11_takesWord_7 rfl rfl ?_
    refine v_aload_n (n := 9) xB_129 dX11_takesWord_8 rfl rfl ?_
    refine v_gf_s (n := 12) (kz := 20) xB_129 dX11_takesWord_9 xO_129 fl_11_71 fg_11_20 (sh_81 _ _ _) rfl st_81_20 rfl ?_
    refine v_iload_n (n := 13) xB_129 dX11_takesWord_12 rfl rfl ?_
    refine v_iload_n (n := 14) xB_129 dX11_takesWord_13 rfl rfl ?_
    refine v_iadd (n := 15) xB_129 dX11_takesWord_14 (by first | omega | (simp only [sA_same, sA_s, ud_s, Int.reduceEq, if_true, if_false, ite_true, ite_false, ↓reduceIte, and_true, true_and, eq_self, Int.add_zero, Int.reduceAdd]; omega) | (simp (disch := omega) only [sA_same, sA_ne, ud_eq, ud_ne, Int.add_zero, Int.reduceAdd]; omega)) rfl ?_
    refine v_iaload (n := 16) (lz := 16) xB_129 dX11_takesWord_15 (sh_94 _ _ _) rfl (by first | omega | (simp only [sA_same, sA_s, ud_s, Int.reduceEq, if_true, if_false, ite_true, ite_false, ↓reduceIte, and_true, true_and, eq_self, Int.add_zero, Int.reduceAdd]; omega) | (simp (disch := omega) only [sA_same, sA_ne, ud_eq, ud_ne, Int.add_zero, Int.reduceAdd]; omega)) rfl ?_
    refine v_call_v (n := 19) xB_129 dX11_takesWord_16 xO_129 iv_11_233 rfl (sh_81 _ _ _) rfl rfl rfl ?_
    refine c_takes (by omega) (by first | omega | (simp only [sA_same, sA_s, ud_s, Int.reduceEq, if_true, if_false, ite_true, ite_false, ↓reduceIte, and_true, true_and, eq_self, Int.add_zero, Int.reduceAdd]; omega) | (simp (disch := omega) only [sA_same, sA_ne, ud_eq, ud_ne, Int.add_zero, Int.reduceAdd]; omega)) (fun g3 => ?_) (fun g4 => ?_)
    · (try simp (disch := omega) only [sA_same, sA_ne, sA_sA, sA_sr, sB_s, ud_eq, ud_ne, ud_ud, ud_sr, uB_s, Int.add_zero, Int.reduceAdd, Int.add_assoc] at g3)
      have zg3 := nxt_in g3 (by omega)
      (try simp (disch := omega) only [Int.add_assoc, Int.reduceAdd])
      (try simp (disch := omega) only [sA_same, sA_ne, sA_sA, sA_sr, sB_s, ud_eq, ud_ne, ud_ud, ud_sr, uB_s, Int.add_zero, Int.reduceAdd] at g3)
      (try simp (disch := omega) only [sA_same, sA_ne, sA_sA, sA_sr, sB_s, ud_eq, ud_ne, ud_ud, ud_sr, uB_s, Int.add_zero, Int.reduceAdd])
      refine v_if_ne_y (t := 24) xB_129 dX11_takesWord_19 (by decide) rfl (by decide) ?_
      refine v_iinc3 (n := 27) xB_129 dX11_takesWord_24 rfl (by first | omega | (simp only [sA_same, sA_s, ud_s, Int.reduceEq, if_true, if_false, ite_true, ite_false, ↓reduceIte, and_true, true_and, eq_self, Int.add_zero, Int.reduceAdd]; omega) | (simp (disch := omega) only [sA_same, sA_ne, ud_eq, ud_ne, Int.add_zero, Int.reduceAdd]; omega)) rfl ?_
      refine v_goto (t := 2) xB_129 dX11_takesWord_27 (by decide) rfl ?_
      refine v_iload_n (n := 3) xB_129 dX11_takesWord_2 rfl rfl ?_
      refine v_iload_n (n := 4) xB_129 dX11_takesWord_3 rfl rfl ?_
      refine v_ic_ge_n (n := 7) xB_129 dX11_takesWord_4 (by decide) rfl (by decide) ?_
      refine v_aload_n (n := 8) xB_129 dX11_takesWord_7 rfl rfl ?_
      refine v_aload_n (n := 9) xB_129 dX11_takesWord_8 rfl rfl ?_
      refine v_gf_s (n := 12) (kz := 20) xB_129 dX11_takesWord_9 xO_129 fl_11_71 fg_11_20 (sh_81 _ _ _) rfl st_81_20 rfl ?_
      refine v_iload_n (n := 13) xB_129 dX11_takesWord_12 rfl rfl ?_
      refine v_iload_n (n := 14) xB_129 dX11_takesWord_13 rfl rfl ?_
      refine v_iadd (n := 15) xB_129 dX11_takesWord_14 (by first | omega | (simp only [sA_same, sA_s, ud_s, Int.reduceEq, if_true, if_false, ite_true, ite_false, ↓reduceIte, and_true, true_and, eq_self, Int.add_zero, Int.reduceAdd]; omega) | (simp (disch := omega) only [sA_same, sA_ne, ud_eq, ud_ne, Int.add_zero, Int.reduceAdd]; omega)) rfl ?_
      refine v_iaload (n := 16) (lz := 16) xB_129 dX11_takesWord_15 (sh_94 _ _ _) rfl (by first | omega | (simp only [sA_same, sA_s, ud_s, Int.reduceEq, if_true, if_false, ite_true, ite_false, ↓reduceIte, and_true, true_and, eq_self, Int.add_zero, Int.reduceAdd]; omega) | (simp (disch := omega) only [sA_same, sA_ne, ud_eq, ud_ne, Int.add_zero, Int.reduceAdd]; omega)) rfl ?_
      refine v_call_v (n := 19) xB_129 dX11_takesWord_16 xO_129 iv_11_233 rfl (sh_81 _ _ _) rfl rfl rfl ?_
      refine c_takes (by omega) (by first | omega | (simp only [sA_same, sA_s, ud_s, Int.reduceEq, if_true, if_false, ite_true, ite_false, ↓reduceIte, and_true, true_and, eq_self, Int.add_zero, Int.reduceAdd]; omega) | (simp (disch := omega) only [sA_same, sA_ne, ud_eq, ud_ne, Int.add_zero, Int.reduceAdd]; omega)) (fun g5 => ?_) (fun g6 => ?_)
      · (try simp (disch := omega) only [sA_same, sA_ne, sA_sA, sA_sr, sB_s, ud_eq, ud_ne, ud_ud, ud_sr, uB_s, Int.add_zero, Int.reduceAdd, Int.add_assoc] at g5)
        have zg5 := nxt_in g5 (by omega)
        (try simp (disch := omega) only [Int.add_assoc, Int.reduceAdd])
        (try simp (disch := omega) only [sA_same, sA_ne, sA_sA, sA_sr, sB_s, ud_eq, ud_ne, ud_ud, ud_sr, uB_s, Int.add_zero, Int.reduceAdd] at g5)
        (try simp (disch := omega) only [sA_same, sA_ne, sA_sA, sA_sr, sB_s, ud_eq, ud_ne, ud_ud, ud_sr, uB_s, Int.add_zero, Int.reduceAdd])
        refine v_if_ne_y (t := 24) xB_129 dX11_takesWord_19 (by decide) rfl (by decide) ?_
        refine v_iinc3 (n := 27) xB_129 dX11_takesWord_24 rfl (by first | omega | (simp only [sA_same, sA_s, ud_s, Int.reduceEq, if_true, if_false, ite_true, ite_false, ↓reduceIte, and_true, true_and, eq_self, Int.add_zero, Int.reduceAdd]; omega) | (simp (disch := omega) only [sA_same, sA_ne, ud_eq, ud_ne, Int.add_zero, Int.reduceAdd]; omega)) rfl ?_
        refine v_goto (t := 2) xB_129 dX11_takesWord_27 (by decide) rfl ?_
        refine v_iload_n (n := 3) xB_129 dX11_takesWord_2 rfl rfl ?_
        refine v_iload_n (n := 4) xB_129 dX11_takesWord_3 rfl rfl ?_
        refine v_ic_ge_n (n := 7) xB_129 dX11_takesWord_4 (by decide) rfl (by decide) ?_
        refine v_aload_n (n := 8) xB_129 dX11_takesWord_7 rfl rfl ?_
        refine v_aload_n (n := 9) xB_129 dX11_takesWord_8 rfl rfl ?_
        refine v_gf_s (n := 12) (kz := 20) xB_129 dX11_takesWord_9 xO_129 fl_11_71 fg_11_20 (sh_81 _ _ _) rfl st_81_20 rfl ?_
        refine v_iload_n (n := 13) xB_129 dX11_takesWord_12 rfl rfl ?_
        refine v_iload_n (n := 14) xB_129 dX11_takesWord_13 rfl rfl ?_
        refine v_iadd (n := 15) xB_129 dX11_takesWord_14 (by first | omega | (simp only [sA_same, sA_s, ud_s, Int.reduceEq, if_true, if_false, ite_true, ite_false, ↓reduceIte, and_true, true_and, eq_self, Int.add_zero, Int.reduceAdd]; omega) | (simp (disch := omega) only [sA_same, sA_ne, ud_eq, ud_ne, Int.add_zero, Int.reduceAdd]; omega)) rfl ?_
        refine v_iaload (n := 16) (lz := 16) xB_129 dX11_takesWord_15 (sh_94 _ _ _) rfl (by first | omega | (simp only [sA_same, sA_s, ud_s, Int.reduceEq, if_true, if_false, ite_true, ite_false, ↓reduceIte, and_true, true_and, eq_self, Int.add_zero, Int.reduceAdd]; omega) | (simp (disch := omega) only [sA_same, sA_ne, ud_eq, ud_ne, Int.add_zero, Int.reduceAdd]; omega)) rfl ?_
        refine v_call_v (n := 19) xB_129 dX11_takesWord_16 xO_129 iv_11_233 rfl (sh_81 _ _ _) rfl rfl rfl ?_
        refine c_takes (by omega) (by first | omega | (simp only [sA_same, sA_s, ud_s, Int.reduceEq, if_true, if_false, ite_true, ite_false, ↓reduceIte, and_true, true_and, eq_self, Int.add_zero, Int.reduceAdd]; omega) | (simp (disch := omega) only [sA_same, sA_ne, ud_eq, ud_ne, Int.add_zero, Int.reduceAdd]; omega)) (fun g7 => ?_) (fun g8 => ?_)
        · (try simp (disch := omega) only [sA_same, sA_ne, sA_sA, sA_sr, sB_s, ud_eq, ud_ne, ud_ud, ud_sr, uB_s, Int.add_zero, Int.reduceAdd, Int.add_assoc] at g7)
          have zg7 := nxt_in g7 (by omega)
          (try simp (disch := omega) only [Int.add_assoc, Int.reduceAdd])
          (try simp (disch := omega) only [sA_same, sA_ne, sA_sA, sA_sr, sB_s, ud_eq, ud_ne, ud_ud, ud_sr, uB_s, Int.add_zero, Int.reduceAdd] at g7)
          (try simp (disch := omega) only [sA_same, sA_ne, sA_sA, sA_sr, sB_s, ud_eq, ud_ne, ud_ud, ud_sr, uB_s, Int.add_zero, Int.reduceAdd])
          refine v_if_ne_y (t := 24) xB_129 dX11_takesWord_19 (by decide) rfl (by decide) ?_
          refine v_iinc3 (n := 27) xB_129 dX11_takesWord_24 rfl (by first | omega | (simp only [sA_same, sA_s, ud_s, Int.reduceEq, if_true, if_false, ite_true, ite_false, ↓reduceIte, and_true, true_and, eq_self, Int.add_zero, Int.reduceAdd]; omega) | (simp (disch := omega) only [sA_same, sA_ne, ud_eq, ud_ne, Int.add_zero, Int.reduceAdd]; omega)) rfl ?_
          refine v_goto (t := 2) xB_129 dX11_takesWord_27 (by decide) rfl ?_
          refine v_iload_n (n := 3) xB_129 dX11_takesWord_2 rfl rfl ?_
          refine v_iload_n (n := 4) xB_129 dX11_takesWord_3 rfl rfl ?_
          refine v_ic_ge_y (t := 30) xB_129 dX11_takesWord_4 (by decide) rfl (by decide) ?_
          refine v_aload_n (n := 31) xB_129 dX11_takesWord_30 rfl rfl ?_
          refine v_bipush (n := 33) xB_129 dX11_takesWord_31 ⟨by decide, by decide⟩ rfl ?_
          refine v_call_v (n := 36) xB_129 dX11_takesWord_33 xO_129 iv_11_233 rfl (sh_81 _ _ _) rfl rfl rfl ?_
          refine c_takes (by omega) (by first | omega | (simp only [sA_same, sA_s, ud_s, Int.reduceEq, if_true, if_false, ite_true, ite_false, ↓reduceIte, and_true, true_and, eq_self, Int.add_zero, Int.reduceAdd]; omega) | (simp (disch := omega) only [sA_same, sA_ne, ud_eq, ud_ne, Int.add_zero, Int.reduceAdd]; omega)) (fun g9 => ?_) (fun g10 => ?_)
          · (try simp (disch := omega) only [sA_same, sA_ne, sA_sA, sA_sr, sB_s, ud_eq, ud_ne, ud_ud, ud_sr, uB_s, Int.add_zero, Int.reduceAdd, Int.add_assoc] at g9)
            have zg9 := nxt_in g9 (by omega)
            (try simp (disch := omega) only [Int.add_assoc, Int.reduceAdd])
            (try simp (disch := omega) only [sA_same, sA_ne, sA_sA, sA_sr, sB_s, ud_eq, ud_ne, ud_ud, ud_sr, uB_s, Int.add_zero, Int.reduceAdd] at g9)
            (try simp (disch := omega) only [sA_same, sA_ne, sA_sA, sA_sr, sB_s, ud_eq, ud_ne, ud_ud, ud_sr, uB_s, Int.add_zero, Int.reduceAdd])
            refine v_ireturn1 xB_129 dX11_takesWord_36 xK_129 (by decide) ?_
            first
            | (have q : twF (m 86) (m 81 6) (m 81 7) 115 107 105 112 = (false, m 81 7) := by unfold twF mt4; rw [if_neg (c := nxt (m 86) (m 81 6) (m 81 7) = _) (by omega), if_neg (by omega), Int.add_zero]
               rw [q] at o2; have o3 := o2 rfl; rw [ud_id, sA_id] at o3; exact o3)
            | (have q : twF (m 86) (m 81 6) (m 81 7) 115 107 105 112 = (false, m 81 7 + 1) := by unfold twF mt4; rw [if_pos (c := nxt (m 86) (m 81 6) (m 81 7) = 115) (by omega), if_neg (c := nxt (m 86) (m 81 6) (m 81 7 + 1) = 107) (by omega), if_neg (by omega)]
               rw [q] at o2; exact o2 rfl)
            | (have q : twF (m 86) (m 81 6) (m 81 7) 115 107 105 112 = (false, m 81 7 + 2) := by unfold twF mt4; rw [if_pos (c := nxt (m 86) (m 81 6) (m 81 7) = 115) (by omega), if_pos (c := nxt (m 86) (m 81 6) (m 81 7 + 1) = 107) (by omega), if_neg (c := nxt (m 86) (m 81 6) (m 81 7 + 2) = 105) (by omega), if_neg (by omega)]
               rw [q] at o2; exact o2 rfl)
            | (have q : twF (m 86) (m 81 6) (m 81 7) 115 107 105 112 = (false, m 81 7 + 3) := by unfold twF mt4; rw [if_pos (c := nxt (m 86) (m 81 6) (m 81 7) = 115) (by omega), if_pos (c := nxt (m 86) (m 81 6) (m 81 7 + 1) = 107) (by omega), if_pos (c := nxt (m 86) (m 81 6) (m 81 7 + 2) = 105) (by omega), if_neg (c := nxt (m 86) (m 81 6) (m 81 7 + 3) = 112) (by omega), if_neg (by omega)]
               rw [q] at o2; exact o2 rfl)
            | (have q : twF (m 86) (m 81 6) (m 81 7) 115 107 105 112 = (false, m 81 7 + 4) := by unfold twF mt4; rw [if_pos (c := nxt (m 86) (m 81 6) (m 81 7) = 115) (by omega), if_pos (c := nxt (m 86) (m 81 6) (m 81 7 + 1) = 107) (by omega), if_pos (c := nxt (m 86) (m 81 6) (m 81 7 + 2) = 105) (by omega), if_pos (c := nxt (m 86) (m 81 6) (m 81 7 + 3) = 112) (by omega), if_pos rfl, if_neg (by omega)]
               rw [q] at o2; exact o2 rfl)
            | (have q : twF (m 86) (m 81 6) (m 81 7) 115 107 105 112 = (true, m 81 7 + 5) := by unfold twF mt4; rw [if_pos (c := nxt (m 86) (m 81 6) (m 81 7) = 115) (by omega), if_pos (c := nxt (m 86) (m 81 6) (m 81 7 + 1) = 107) (by omega), if_pos (c := nxt (m 86) (m 81 6) (m 81 7 + 2) = 105) (by omega), if_pos (c := nxt (m 86) (m 81 6) (m 81 7 + 3) = 112) (by omega), if_pos rfl, if_pos (by omega)]
               rw [q] at o1; rw [show m 81 7 + 4 + 1 = m 81 7 + 5 by omega]; exact o1 rfl)
          · (try simp (disch := omega) only [sA_same, sA_ne, sA_sA, sA_sr, sB_s, ud_eq, ud_ne, ud_ud, ud_sr, uB_s, Int.add_zero, Int.reduceAdd, Int.add_assoc] at g10)
            (try simp (disch := omega) only [Int.add_assoc, Int.reduceAdd])
            (try simp (disch := omega) only [sA_same, sA_ne, sA_sA, sA_sr, sB_s, ud_eq, ud_ne, ud_ud, ud_sr, uB_s, Int.add_zero, Int.reduceAdd] at g10)
            (try simp (disch := omega) only [sA_same, sA_ne, sA_sA, sA_sr, sB_s, ud_eq, ud_ne, ud_ud, ud_sr, uB_s, Int.add_zero, Int.reduceAdd])
            refine v_ireturn1 xB_129 dX11_takesWord_36 xK_129 (by decide) ?_
            first
            | (have q : twF (m 86) (m 81 6) (m 81 7) 115 107 105 112 = (false, m 81 7) := by unfold twF mt4; rw [if_neg (c := nxt (m 86) (m 81 6) (m 81 7) = _) (by omega), if_neg (by omega), Int.add_zero]
               rw [q] at o2; have o3 := o2 rfl; rw [ud_id, sA_id] at o3; exact o3)
            | (have q : twF (m 86) (m 81 6) (m 81 7) 115 107 105 112 = (false, m 81 7 + 1) := by unfold twF mt4; rw [if_pos (c := nxt (m 86) (m 81 6) (m 81 7) = 115) (by omega), if_neg (c := nxt (m 86) (m 81 6) (m 81 7 + 1) = 107) (by omega), if_neg (by omega)]
               rw [q] at o2; exact o2 rfl)
            | (have q : twF (m 86) (m 81 6) (m 81 7) 115 107 105 112 = (false, m 81 7 + 2) := by unfold twF mt4; rw [if_pos (c := nxt (m 86) (m 81 6) (m 81 7) = 115) (by omega), if_pos (c := nxt (m 86) (m 81 6) (m 81 7 + 1) = 107) (by omega), if_neg (c := nxt (m 86) (m 81 6) (m 81 7 + 2) = 105) (by omega), if_neg (by omega)]
               rw [q] at o2; exact o2 rfl)
            | (have q : twF (m 86) (m 81 6) (m 81 7) 115 107 105 112 = (false, m 81 7 + 3) := by unfold twF mt4; rw [if_pos (c := nxt (m 86) (m 81 6) (m 81 7) = 115) (by omega), if_pos (c := nxt (m 86) (m 81 6) (m 81 7 + 1) = 107) (by omega), if_pos (c := nxt (m 86) (m 81 6) (m 81 7 + 2) = 105) (by omega), if_neg (c := nxt (m 86) (m 81 6) (m 81 7 + 3) = 112) (by omega), if_neg (by omega)]
               rw [q] at o2; exact o2 rfl)
            | (have q : twF (m 86) (m 81 6) (m 81 7) 115 107 105 112 = (false, m 81 7 + 4) := by unfold twF mt4; rw [if_pos (c := nxt (m 86) (m 81 6) (m 81 7) = 115) (by omega), if_pos (c := nxt (m 86) (m 81 6) (m 81 7 + 1) = 107) (by omega), if_pos (c := nxt (m 86) (m 81 6) (m 81 7 + 2) = 105) (by omega), if_pos (c := nxt (m 86) (m 81 6) (m 81 7 + 3) = 112) (by omega), if_pos rfl, if_neg (by omega)]
               rw [q] at o2; exact o2 rfl)
            | (have q : twF (m 86) (m 81 6) (m 81 7) 115 107 105 112 = (true, m 81 7 + 5) := by unfold twF mt4; rw [if_pos (c := nxt (m 86) (m 81 6) (m 81 7) = 115) (by omega), if_pos (c := nxt (m 86) (m 81 6) (m 81 7 + 1) = 107) (by omega), if_pos (c := nxt (m 86) (m 81 6) (m 81 7 + 2) = 105) (by omega), if_pos (c := nxt (m 86) (m 81 6) (m 81 7 + 3) = 112) (by omega), if_pos rfl, if_pos (by omega)]
               rw [q] at o1; rw [show m 81 7 + 4 + 1 = m 81 7 + 5 by omega]; exact o1 rfl)
        · (try simp (disch := omega) only [sA_same, sA_ne, sA_sA, sA_sr, sB_s, ud_eq, ud_ne, ud_ud, ud_sr, uB_s, Int.add_zero, Int.reduceAdd, Int.add_assoc] at g8)
          (try simp (disch := omega) only [Int.add_assoc, Int.reduceAdd])
          (try simp (disch := omega) only [sA_same, sA_ne, sA_sA, sA_sr, sB_s, ud_eq, ud_ne, ud_ud, ud_sr, uB_s, Int.add_zero, Int.reduceAdd] at g8)
          (try simp (disch := omega) only [sA_same, sA_ne, sA_sA, sA_sr, sB_s, ud_eq, ud_ne, ud_ud, ud_sr, uB_s, Int.add_zero, Int.reduceAdd])
          refine v_if_ne_n (n := 22) xB_129 dX11_takesWord_19 (by decide) rfl (by decide) ?_
          refine v_iconst (n := 23) xB_129 dX11_takesWord_22 ⟨by decide, by decide⟩ rfl ?_
          refine v_ireturn1 xB_129 dX11_takesWord_23 xK_129 (by decide) ?_
          first
          | (have q : twF (m 86) (m 81 6) (m 81 7) 115 107 105 112 = (false, m 81 7) := by unfold twF mt4; rw [if_neg (c := nxt (m 86) (m 81 6) (m 81 7) = _) (by omega), if_neg (by omega), Int.add_zero]
             rw [q] at o2; have o3 := o2 rfl; rw [ud_id, sA_id] at o3; exact o3)
          | (have q : twF (m 86) (m 81 6) (m 81 7) 115 107 105 112 = (false, m 81 7 + 1) := by unfold twF mt4; rw [if_pos (c := nxt (m 86) (m 81 6) (m 81 7) = 115) (by omega), if_neg (c := nxt (m 86) (m 81 6) (m 81 7 + 1) = 107) (by omega), if_neg (by omega)]
             rw [q] at o2; exact o2 rfl)
          | (have q : twF (m 86) (m 81 6) (m 81 7) 115 107 105 112 = (false, m 81 7 + 2) := by unfold twF mt4; rw [if_pos (c := nxt (m 86) (m 81 6) (m 81 7) = 115) (by omega), if_pos (c := nxt (m 86) (m 81 6) (m 81 7 + 1) = 107) (by omega), if_neg (c := nxt (m 86) (m 81 6) (m 81 7 + 2) = 105) (by omega), if_neg (by omega)]
             rw [q] at o2; exact o2 rfl)
          | (have q : twF (m 86) (m 81 6) (m 81 7) 115 107 105 112 = (false, m 81 7 + 3) := by unfold twF mt4; rw [if_pos (c := nxt (m 86) (m 81 6) (m 81 7) = 115) (by omega), if_pos (c := nxt (m 86) (m 81 6) (m 81 7 + 1) = 107) (by omega), if_pos (c := nxt (m 86) (m 81 6) (m 81 7 + 2) = 105) (by omega), if_neg (c := nxt (m 86) (m 81 6) (m 81 7 + 3) = 112) (by omega), if_neg (by omega)]
             rw [q] at o2; exact o2 rfl)
          | (have q : twF (m 86) (m 81 6) (m 81 7) 115 107 105 112 = (false, m 81 7 + 4) := by unfold twF mt4; rw [if_pos (c := nxt (m 86) (m 81 6) (m 81 7) = 115) (by omega), if_pos (c := nxt (m 86) (m 81 6) (m 81 7 + 1) = 107) (by omega), if_pos (c := nxt (m 86) (m 81 6) (m 81 7 + 2) = 105) (by omega), if_pos (c := nxt (m 86) (m 81 6) (m 81 7 + 3) = 112) (by omega), if_pos rfl, if_neg (by omega)]
             rw [q] at o2; exact o2 rfl)
          | (have q : twF (m 86) (m 81 6) (m 81 7) 115 107 105 112 = (true, m 81 7 + 5) := by unfold twF mt4; rw [if_pos (c := nxt (m 86) (m 81 6) (m 81 7) = 115) (by omega), if_pos (c := nxt (m 86) (m 81 6) (m 81 7 + 1) = 107) (by omega), if_pos (c := nxt (m 86) (m 81 6) (m 81 7 + 2) = 105) (by omega), if_pos (c := nxt (m 86) (m 81 6) (m 81 7 + 3) = 112) (by omega), if_pos rfl, if_pos (by omega)]
             rw [q] at o1; rw [show m 81 7 + 4 + 1 = m 81 7 + 5 by omega]; exact o1 rfl)
      · (try simp (disch := omega) only [sA_same, sA_ne, sA_sA, sA_sr, sB_s, ud_eq, ud_ne, ud_ud, ud_sr, uB_s, Int.add_zero, Int.reduceAdd, Int.add_assoc] at g6)
        (try simp (disch := omega) only [Int.add_assoc, Int.reduceAdd])
        (try simp (disch := omega) only [sA_same, sA_ne, sA_sA, sA_sr, sB_s, ud_eq, ud_ne, ud_ud, ud_sr, uB_s, Int.add_zero, Int.reduceAdd] at g6)
        (try simp (disch := omega) only [sA_same, sA_ne, sA_sA, sA_sr, sB_s, ud_eq, ud_ne, ud_ud, ud_sr, uB_s, Int.add_zero, Int.reduceAdd])
        refine v_if_ne_n (n := 22) xB_129 dX11_takesWord_19 (by decide) rfl (by decide) ?_
        refine v_iconst (n := 23) xB_129 dX11_takesWord_22 ⟨by decide, by decide⟩ rfl ?_
        refine v_ireturn1 xB_129 dX11_takesWord_23 xK_129 (by decide) ?_
        first
        | (have q : twF (m 86) (m 81 6) (m 81 7) 115 107 105 112 = (false, m 81 7) := by unfold twF mt4; rw [if_neg (c := nxt (m 86) (m 81 6) (m 81 7) = _) (by omega), if_neg (by omega), Int.add_zero]
           rw [q] at o2; have o3 := o2 rfl; rw [ud_id, sA_id] at o3; exact o3)
        | (have q : twF (m 86) (m 81 6) (m 81 7) 115 107 105 112 = (false, m 81 7 + 1) := by unfold twF mt4; rw [if_pos (c := nxt (m 86) (m 81 6) (m 81 7) = 115) (by omega), if_neg (c := nxt (m 86) (m 81 6) (m 81 7 + 1) = 107) (by omega), if_neg (by omega)]
           rw [q] at o2; exact o2 rfl)
        | (have q : twF (m 86) (m 81 6) (m 81 7) 115 107 105 112 = (false, m 81 7 + 2) := by unfold twF mt4; rw [if_pos (c := nxt (m 86) (m 81 6) (m 81 7) = 115) (by omega), if_pos (c := nxt (m 86) (m 81 6) (m 81 7 + 1) = 107) (by omega), if_neg (c := nxt (m 86) (m 81 6) (m 81 7 + 2) = 105) (by omega), if_neg (by omega)]
           rw [q] at o2; exact o2 rfl)
        | (have q : twF (m 86) (m 81 6) (m 81 7) 115 107 105 112 = (false, m 81 7 + 3) := by unfold twF mt4; rw [if_pos (c := nxt (m 86) (m 81 6) (m 81 7) = 115) (by omega), if_pos (c := nxt (m 86) (m 81 6) (m 81 7 + 1) = 107) (by omega), if_pos (c := nxt (m 86) (m 81 6) (m 81 7 + 2) = 105) (by omega), if_neg (c := nxt (m 86) (m 81 6) (m 81 7 + 3) = 112) (by omega), if_neg (by omega)]
           rw [q] at o2; exact o2 rfl)
        | (have q : twF (m 86) (m 81 6) (m 81 7) 115 107 105 112 = (false, m 81 7 + 4) := by unfold twF mt4; rw [if_pos (c := nxt (m 86) (m 81 6) (m 81 7) = 115) (by omega), if_pos (c := nxt (m 86) (m 81 6) (m 81 7 + 1) = 107) (by omega), if_pos (c := nxt (m 86) (m 81 6) (m 81 7 + 2) = 105) (by omega), if_pos (c := nxt (m 86) (m 81 6) (m 81 7 + 3) = 112) (by omega), if_pos rfl, if_neg (by omega)]
           rw [q] at o2; exact o2 rfl)
        | (have q : twF (m 86) (m 81 6) (m 81 7) 115 107 105 112 = (true, m 81 7 + 5) := by unfold twF mt4; rw [if_pos (c := nxt (m 86) (m 81 6) (m 81 7) = 115) (by omega), if_pos (c := nxt (m 86) (m 81 6) (m 81 7 + 1) = 107) (by omega), if_pos (c := nxt (m 86) (m 81 6) (m 81 7 + 2) = 105) (by omega), if_pos (c := nxt (m 86) (m 81 6) (m 81 7 + 3) = 112) (by omega), if_pos rfl, if_pos (by omega)]
           rw [q] at o1; rw [show m 81 7 + 4 + 1 = m 81 7 + 5 by omega]; exact o1 rfl)
    · (try simp (disch := omega) only [sA_same, sA_ne, sA_sA, sA_sr, sB_s, ud_eq, ud_ne, ud_ud, ud_sr, uB_s, Int.add_zero, Int.reduceAdd, Int.add_assoc] at g4)
      (try simp (disch := omega) only [Int.add_assoc, Int.reduceAdd])
      (try simp (disch := omega) only [sA_same, sA_ne, sA_sA, sA_sr, sB_s, ud_eq, ud_ne, ud_ud, ud_sr, uB_s, Int.add_zero, Int.reduceAdd] at g4)
      (try simp (disch := omega) only [sA_same, sA_ne, sA_sA, sA_sr, sB_s, ud_eq, ud_ne, ud_ud, ud_sr, uB_s, Int.add_zero, Int.reduceAdd])
      refine v_if_ne_n (n := 22) xB_129 dX11_takesWord_19 (by decide) rfl (by decide) ?_
      refine v_iconst (n := 23) xB_129 dX11_takesWord_22 ⟨by decide, by decide⟩ rfl ?_
      refine v_ireturn1 xB_129 dX11_takesWord_23 xK_129 (by decide) ?_
      first
      | (have q : twF (m 86) (m 81 6) (m 81 7) 115 107 105 112 = (false, m 81 7) := by unfold twF mt4; rw [if_neg (c := nxt (m 86) (m 81 6) (m 81 7) = _) (by omega), if_neg (by omega), Int.add_zero]
         rw [q] at o2; have o3 := o2 rfl; rw [ud_id, sA_id] at o3; exact o3)
      | (have q : twF (m 86) (m 81 6) (m 81 7) 115 107 105 112 = (false, m 81 7 + 1) := by unfold twF mt4; rw [if_pos (c := nxt (m 86) (m 81 6) (m 81 7) = 115) (by omega), if_neg (c := nxt (m 86) (m 81 6) (m 81 7 + 1) = 107) (by omega), if_neg (by omega)]
         rw [q] at o2; exact o2 rfl)
      | (have q : twF (m 86) (m 81 6) (m 81 7) 115 107 105 112 = (false, m 81 7 + 2) := by unfold twF mt4; rw [if_pos (c := nxt (m 86) (m 81 6) (m 81 7) = 115) (by omega), if_pos (c := nxt (m 86) (m 81 6) (m 81 7 + 1) = 107) (by omega), if_neg (c := nxt (m 86) (m 81 6) (m 81 7 + 2) = 105) (by omega), if_neg (by omega)]
         rw [q] at o2; exact o2 rfl)
      | (have q : twF (m 86) (m 81 6) (m 81 7) 115 107 105 112 = (false, m 81 7 + 3) := by unfold twF mt4; rw [if_pos (c := nxt (m 86) (m 81 6) (m 81 7) = 115) (by omega), if_pos (c := nxt (m 86) (m 81 6) (m 81 7 + 1) = 107) (by omega), if_pos (c := nxt (m 86) (m 81 6) (m 81 7 + 2) = 105) (by omega), if_neg (c := nxt (m 86) (m 81 6) (m 81 7 + 3) = 112) (by omega), if_neg (by omega)]
         rw [q] at o2; exact o2 rfl)
      | (have q : twF (m 86) (m 81 6) (m 81 7) 115 107 105 112 = (false, m 81 7 + 4) := by unfold twF mt4; rw [if_pos (c := nxt (m 86) (m 81 6) (m 81 7) = 115) (by omega), if_pos (c := nxt (m 86) (m 81 6) (m 81 7 + 1) = 107) (by omega), if_pos (c := nxt (m 86) (m 81 6) (m 81 7 + 2) = 105) (by omega), if_pos (c := nxt (m 86) (m 81 6) (m 81 7 + 3) = 112) (by omega), if_pos rfl, if_neg (by omega)]
         rw [q] at o2; exact o2 rfl)
      | (have q : twF (m 86) (m 81 6) (m 81 7) 115 107 105 112 = (true, m 81 7 + 5) := by unfold twF mt4; rw [if_pos (c := nxt (m 86) (m 81 6) (m 81 7) = 115) (by omega), if_pos (c := nxt (m 86) (m 81 6) (m 81 7 + 1) = 107) (by omega), if_pos (c := nxt (m 86) (m 81 6) (m 81 7 + 2) = 105) (by omega), if_pos (c := nxt (m 86) (m 81 6) (m 81 7 + 3) = 112) (by omega), if_pos rfl, if_pos (by omega)]
         rw [q] at o1; rw [show m 81 7 + 4 + 1 = m 81 7 + 5 by omega]; exact o1 rfl)
  · (try simp (disch := omega) only [sA_same, sA_ne, sA_sA, sA_sr, sB_s, ud_eq, ud_ne, ud_ud, ud_sr, uB_s, Int.add_zero, Int.reduceAdd, Int.add_assoc] at g2)
    (try simp (disch := omega) only [Int.add_assoc, Int.reduceAdd])
    (try simp (disch := omega) only [sA_same, sA_ne, sA_sA, sA_sr, sB_s, ud_eq, ud_ne, ud_ud, ud_sr, uB_s, Int.add_zero, Int.reduceAdd] at g2)
    (try simp (disch := omega) only [sA_same, sA_ne, sA_sA, sA_sr, sB_s, ud_eq, ud_ne, ud_ud, ud_sr, uB_s, Int.add_zero, Int.reduceAdd])
    refine v_if_ne_n (n := 22) xB_129 dX11_takesWord_19 (by decide) rfl (by decide) ?_
    refine v_iconst (n := 23) xB_129 dX11_takesWord_22 ⟨by decide, by decide⟩ rfl ?_
    refine v_ireturn1 xB_129 dX11_takesWord_23 xK_129 (by decide) ?_
    first
    | (have q : twF (m 86) (m 81 6) (m 81 7) 115 107 105 112 = (false, m 81 7) := by unfold twF mt4; rw [if_neg (c := nxt (m 86) (m 81 6) (m 81 7) = _) (by omega), if_neg (by omega), Int.add_zero]
       rw [q] at o2; have o3 := o2 rfl; rw [ud_id, sA_id] at o3; exact o3)
    | (have q : twF (m 86) (m 81 6) (m 81 7) 115 107 105 112 = (false, m 81 7 + 1) := by unfold twF mt4; rw [if_pos (c := nxt (m 86) (m 81 6) (m 81 7) = 115) (by omega), if_neg (c := nxt (m 86) (m 81 6) (m 81 7 + 1) = 107) (by omega), if_neg (by omega)]
       rw [q] at o2; exact o2 rfl)
    | (have q : twF (m 86) (m 81 6) (m 81 7) 115 107 105 112 = (false, m 81 7 + 2) := by unfold twF mt4; rw [if_pos (c := nxt (m 86) (m 81 6) (m 81 7) = 115) (by omega), if_pos (c := nxt (m 86) (m 81 6) (m 81 7 + 1) = 107) (by omega), if_neg (c := nxt (m 86) (m 81 6) (m 81 7 + 2) = 105) (by omega), if_neg (by omega)]
       rw [q] at o2; exact o2 rfl)
    | (have q : twF (m 86) (m 81 6) (m 81 7) 115 107 105 112 = (false, m 81 7 + 3) := by unfold twF mt4; rw [if_pos (c := nxt (m 86) (m 81 6) (m 81 7) = 115) (by omega), if_pos (c := nxt (m 86) (m 81 6) (m 81 7 + 1) = 107) (by omega), if_pos (c := nxt (m 86) (m 81 6) (m 81 7 + 2) = 105) (by omega), if_neg (c := nxt (m 86) (m 81 6) (m 81 7 + 3) = 112) (by omega), if_neg (by omega)]
       rw [q] at o2; exact o2 rfl)
    | (have q : twF (m 86) (m 81 6) (m 81 7) 115 107 105 112 = (false, m 81 7 + 4) := by unfold twF mt4; rw [if_pos (c := nxt (m 86) (m 81 6) (m 81 7) = 115) (by omega), if_pos (c := nxt (m 86) (m 81 6) (m 81 7 + 1) = 107) (by omega), if_pos (c := nxt (m 86) (m 81 6) (m 81 7 + 2) = 105) (by omega), if_pos (c := nxt (m 86) (m 81 6) (m 81 7 + 3) = 112) (by omega), if_pos rfl, if_neg (by omega)]
       rw [q] at o2; exact o2 rfl)
    | (have q : twF (m 86) (m 81 6) (m 81 7) 115 107 105 112 = (true, m 81 7 + 5) := by unfold twF mt4; rw [if_pos (c := nxt (m 86) (m 81 6) (m 81 7) = 115) (by omega), if_pos (c := nxt (m 86) (m 81 6) (m 81 7 + 1) = 107) (by omega), if_pos (c := nxt (m 86) (m 81 6) (m 81 7 + 2) = 105) (by omega), if_pos (c := nxt (m 86) (m 81 6) (m 81 7 + 3) = 112) (by omega), if_pos rfl, if_pos (by omega)]
       rw [q] at o1; rw [show m 81 7 + 4 + 1 = m 81 7 + 5 by omega]; exact o1 rfl)
set_option maxHeartbeats 1000000 in
theorem c_tw3 {d : Nat}  {m : PM} {dy : List (Nat × Nat)} {L : Nat} {Q : Option PV → PS → Prop} (hd : 3 ≤ d) (hL : ∀ i : Nat, i < 16 → m 94 i = ltr i) (hn : m 81 6 ≤ 100) (ha : 0 ≤ m 81 7 ∧ m 81 7 ≤ m 81 6) (o1 : ((twF (m 86) (m 81 6) (m 81 7) 116 117 114 110).1 = true) → Q (some (.inl 1)) (setA m 81 (ud (m 81) 7 (twF (m 86) (m 81 6) (m 81 7) 116 117 114 110).2), (none, (dy, L)))) (o2 : ((twF (m 86) (m 81 6) (m 81 7) 116 117 114 110).1 = false) → Q (some (.inl 0)) (setA m 81 (ud (m 81) 7 (twF (m 86) (m 81 6) (m 81 7) 116 117 114 110).2), (none, (dy, L)))) : C d 129 [.inr (.inr 81), .inl 12, .inl 4] (m, (none, (dy, L))) Q := by
  refine C_go (k := 2) hd xL_129 (fun d hd => ?_)
  show V d 129 (0, ([some (.inr (.inr 81)), some (.inl 12), some (.inl 4), none], ([], (m, (none, (dy, L)))))) Q
  have u := hL
  have l0 : m 94 12 = 116 := hL 12 (by decide)
  have l1 : m 94 13 = 117 := hL 13 (by decide)
  have l2 : m 94 14 = 114 := hL 14 (by decide)
  have l3 : m 94 15 = 110 := hL 15 (by decide)
  clear u hL
  refine v_iconst (n := 1) xB_129 dX11_takesWord_0 ⟨by decide, by decide⟩ rfl ?_
  refine v_istore_n3 (n := 2) xB_129 dX11_takesWord_1 rfl rfl ?_
  refine v_iload_n (n := 3) xB_129 dX11_takesWord_2 rfl rfl ?_
  refine v_iload_n (n := 4) xB_129 dX11_takesWord_3 rfl rfl ?_
  refine v_ic_ge_n (n := 7) xB_129 dX11_takesWord_4 (by decide) rfl (by decide) ?_
  refine v_aload_n (n := 8) xB_129 dX11_takesWord_7 rfl rfl ?_
  refine v_aload_n (n := 9) xB_129 dX11_takesWord_8 rfl rfl ?_
  refine v_gf_s (n := 12) (kz := 20) xB_129 dX11_takesWord_9 xO_129 fl_11_71 fg_11_20 (sh_81 _ _ _) rfl st_81_20 rfl ?_
  refine v_iload_n (n := 13) xB_129 dX11_takesWord_12 rfl rfl ?_
  refine v_iload_n (n := 14) xB_129 dX11_takesWord_13 rfl rfl ?_
  refine v_iadd (n := 15) xB_129 dX11_takesWord_14 (by first | omega | (simp only [sA_same, sA_s, ud_s, Int.reduceEq, if_true, if_false, ite_true, ite_false, ↓reduceIte, and_true, true_and, eq_self, Int.add_zero, Int.reduceAdd]; omega) | (simp (disch := omega) only [sA_same, sA_ne, ud_eq, ud_ne, Int.add_zero, Int.reduceAdd]; omega)) rfl ?_
  refine v_iaload (n := 16) (lz := 16) xB_129 dX11_takesWord_15 (sh_94 _ _ _) rfl (by first | omega | (simp only [sA_same, sA_s, ud_s, Int.reduceEq, if_true, if_false, ite_true, ite_false, ↓reduceIte, and_true, true_and, eq_self, Int.add_zero, Int.reduceAdd]; omega) | (simp (disch := omega) only [sA_same, sA_ne, ud_eq, ud_ne, Int.add_zero, Int.reduceAdd]; omega)) rfl ?_
  refine v_call_v (n := 19) xB_129 dX11_takesWord_16 xO_129 iv_11_233 rfl (sh_81 _ _ _) rfl rfl rfl ?_
  refine c_takes (by omega) (by first | omega | (simp only [sA_same, sA_s, ud_s, Int.reduceEq, if_true, if_false, ite_true, ite_false, ↓reduceIte, and_true, true_and, eq_self, Int.add_zero, Int.reduceAdd]; omega) | (simp (disch := omega) only [sA_same, sA_ne, ud_eq, ud_ne, Int.add_zero, Int.reduceAdd]; omega)) (fun g1 => ?_) (fun g2 => ?_)
  · (try simp (disch := omega) only [sA_same, sA_ne, sA_sA, sA_sr, sB_s, ud_eq, ud_ne, ud_ud, ud_sr, uB_s, Int.add_zero, Int.reduceAdd, Int.add_assoc] at g1)
    have zg1 := nxt_in g1 (by omega)
    (try simp (disch := omega) only [Int.add_assoc, Int.reduceAdd])
    (try simp (disch := omega) only [sA_same, sA_ne, sA_sA, sA_sr, sB_s, ud_eq, ud_ne, ud_ud, ud_sr, uB_s, Int.add_zero, Int.reduceAdd] at g1)
    (try simp (disch := omega) only [sA_same, sA_ne, sA_sA, sA_sr, sB_s, ud_eq, ud_ne, ud_ud, ud_sr, uB_s, Int.add_zero, Int.reduceAdd])
    refine v_if_ne_y (t := 24) xB_129 dX11_takesWord_19 (by decide) rfl (by decide) ?_
    refine v_iinc3 (n := 27) xB_129 dX11_takesWord_24 rfl (by first | omega | (simp only [sA_same, sA_s, ud_s, Int.reduceEq, if_true, if_false, ite_true, ite_false, ↓reduceIte, and_true, true_and, eq_self, Int.add_zero, Int.reduceAdd]; omega) | (simp (disch := omega) only [sA_same, sA_ne, ud_eq, ud_ne, Int.add_zero, Int.reduceAdd]; omega)) rfl ?_
    refine v_goto (t := 2) xB_129 dX11_takesWord_27 (by decide) rfl ?_
    refine v_iload_n (n := 3) xB_129 dX11_takesWord_2 rfl rfl ?_
    refine v_iload_n (n := 4) xB_129 dX11_takesWord_3 rfl rfl ?_
    refine v_ic_ge_n (n := 7) xB_129 dX11_takesWord_4 (by decide) rfl (by decide) ?_
    refine v_aload_n (n := 8) xB_129 dX11_takesWord_7 rfl rfl ?_
    refine v_aload_n (n := 9) xB_129 dX11_takesWord_8 rfl rfl ?_
    refine v_gf_s (n := 12) (kz := 20) xB_129 dX11_takesWord_9 xO_129 fl_11_71 fg_11_20 (sh_81 _ _ _) rfl st_81_20 rfl ?_
    refine v_iload_n (n := 13) xB_129 dX11_takesWord_12 rfl rfl ?_
    refine v_iload_n (n := 14) xB_129 dX11_takesWord_13 rfl rfl ?_
    refine v_iadd (n := 15) xB_129 dX11_takesWord_14 (by first | omega | (simp only [sA_same, sA_s, ud_s, Int.reduceEq, if_true, if_false, ite_true, ite_false, ↓reduceIte, and_true, true_and, eq_self, Int.add_zero, Int.reduceAdd]; omega) | (simp (disch := omega) only [sA_same, sA_ne, ud_eq, ud_ne, Int.add_zero, Int.reduceAdd]; omega)) rfl ?_
    refine v_iaload (n := 16) (lz := 16) xB_129 dX11_takesWord_15 (sh_94 _ _ _) rfl (by first | omega | (simp only [sA_same, sA_s, ud_s, Int.reduceEq, if_true, if_false, ite_true, ite_false, ↓reduceIte, and_true, true_and, eq_self, Int.add_zero, Int.reduceAdd]; omega) | (simp (disch := omega) only [sA_same, sA_ne, ud_eq, ud_ne, Int.add_zero, Int.reduceAdd]; omega)) rfl ?_
    refine v_call_v (n := 19) xB_129 dX11_takesWord_16 xO_129 iv_11_233 rfl (sh_81 _ _ _) rfl rfl rfl ?_
    refine c_takes (by omega) (by first | omega | (simp only [sA_same, sA_s, ud_s, Int.reduceEq, if_true, if_false, ite_true, ite_false, ↓reduceIte, and_true, true_and, eq_self, Int.add_zero, Int.reduceAdd]; omega) | (simp (disch := omega) only [sA_same, sA_ne, ud_eq, ud_ne, Int.add_zero, Int.reduceAdd]; omega)) (fun g3 => ?_) (fun g4 => ?_)
    · (try simp (disch := omega) only [sA_same, sA_ne, sA_sA, sA_sr, sB_s, ud_eq, ud_ne, ud_ud, ud_sr, uB_s, Int.add_zero, Int.reduceAdd, Int.add_assoc] at g3)
      have zg3 := nxt_in g3 (by omega)
      (try simp (disch := omega) only [Int.add_assoc, Int.reduceAdd])
      (try simp (disch := omega) only [sA_same, sA_ne, sA_sA, sA_sr, sB_s, ud_eq, ud_ne, ud_ud, ud_sr, uB_s, Int.add_zero, Int.reduceAdd] at g3)
      (try simp (disch := omega) only [sA_same, sA_ne, sA_sA, sA_sr, sB_s, ud_eq, ud_ne, ud_ud, ud_sr, uB_s, Int.add_zero, Int.reduceAdd])
      refine v_if_ne_y (t := 24) xB_129 dX11_takesWord_19 (by decide) rfl (by decide) ?_
      refine v_iinc3 (n := 27) xB_129 dX11_takesWord_24 rfl (by first | omega | (simp only [sA_same, sA_s, ud_s, Int.reduceEq, if_true, if_false, ite_true, ite_false, ↓reduceIte, and_true, true_and, eq_self, Int.add_zero, Int.reduceAdd]; omega) | (simp (disch := omega) only [sA_same, sA_ne, ud_eq, ud_ne, Int.add_zero, Int.reduceAdd]; omega)) rfl ?_
      refine v_goto (t := 2) xB_129 dX11_takesWord_27 (by decide) rfl ?_
      refine v_iload_n (n := 3) xB_129 dX11_takesWord_2 rfl rfl ?_
      refine v_iload_n (n := 4) xB_129 dX11_takesWord_3 rfl rfl ?_
      refine v_ic_ge_n (n := 7) xB_129 dX11_takesWord_4 (by decide) rfl (by decide) ?_
      refine v_aload_n (n := 8) xB_129 dX11_takesWord_7 rfl rfl ?_
      refine v_aload_n (n := 9) xB_129 dX11_takesWord_8 rfl rfl ?_
      refine v_gf_s (n := 12) (kz := 20) xB_129 dX11_takesWord_9 xO_129 fl_11_71 fg_11_20 (sh_81 _ _ _) rfl st_81_20 rfl ?_
      refine v_iload_n (n := 13) xB_129 dX11_takesWord_12 rfl rfl ?_
      refine v_iload_n (n := 14) xB_129 dX11_takesWord_13 rfl rfl ?_
      refine v_iadd (n := 15) xB_129 dX11_takesWord_14 (by first | omega | (simp only [sA_same, sA_s, ud_s, Int.reduceEq, if_true, if_false, ite_true, ite_false, ↓reduceIte, and_true, true_and, eq_self, Int.add_zero, Int.reduceAdd]; omega) | (simp (disch := omega) only [sA_same, sA_ne, ud_eq, ud_ne, Int.add_zero, Int.reduceAdd]; omega)) rfl ?_
      refine v_iaload (n := 16) (lz := 16) xB_129 dX11_takesWord_15 (sh_94 _ _ _) rfl (by first | omega | (simp only [sA_same, sA_s, ud_s, Int.reduceEq, if_true, if_false, ite_true, ite_false, ↓reduceIte, and_true, true_and, eq_self, Int.add_zero, Int.reduceAdd]; omega) | (simp (disch := omega) only [sA_same, sA_ne, ud_eq, ud_ne, Int.add_zero, Int.reduceAdd]; omega)) rfl ?_
      refine v_call_v (n := 19) xB_129 dX11_takesWord_16 xO_129 iv_11_233 rfl (sh_81 _ _ _) rfl rfl rfl ?_
      refine c_takes (by omega) (by first | omega | (simp only [sA_same, sA_s, ud_s, Int.reduceEq, if_true, if_false, ite_true, ite_false, ↓reduceIte, and_true, true_and, eq_self, Int.add_zero, Int.reduceAdd]; omega) | (simp (disch := omega) only [sA_same, sA_ne, ud_eq, ud_ne, Int.add_zero, Int.reduceAdd]; omega)) (fun g5 => ?_) (fun g6 => ?_)
      · (try simp (disch := omega) only [sA_same, sA_ne, sA_sA, sA_sr, sB_s, ud_eq, ud_ne, ud_ud, ud_sr, uB_s, Int.add_zero, Int.reduceAdd, Int.add_assoc] at g5)
        have zg5 := nxt_in g5 (by omega)
        (try simp (disch := omega) only [Int.add_assoc, Int.reduceAdd])
        (try simp (disch := omega) only [sA_same, sA_ne, sA_sA, sA_sr, sB_s, ud_eq, ud_ne, ud_ud, ud_sr, uB_s, Int.add_zero, Int.reduceAdd] at g5)
        (try simp (disch := omega) only [sA_same, sA_ne, sA_sA, sA_sr, sB_s, ud_eq, ud_ne, ud_ud, ud_sr, uB_s, Int.add_zero, Int.reduceAdd])
        refine v_if_ne_y (t := 24) xB_129 dX11_takesWord_19 (by decide) rfl (by decide) ?_
        refine v_iinc3 (n := 27) xB_129 dX11_takesWord_24 rfl (by first | omega | (simp only [sA_same, sA_s, ud_s, Int.reduceEq, if_true, if_false, ite_true, ite_false, ↓reduceIte, and_true, true_and, eq_self, Int.add_zero, Int.reduceAdd]; omega) | (simp (disch := omega) only [sA_same, sA_ne, ud_eq, ud_ne, Int.add_zero, Int.reduceAdd]; omega)) rfl ?_
        refine v_goto (t := 2) xB_129 dX11_takesWord_27 (by decide) rfl ?_
        refine v_iload_n (n := 3) xB_129 dX11_takesWord_2 rfl rfl ?_
        refine v_iload_n (n := 4) xB_129 dX11_takesWord_3 rfl rfl ?_
        refine v_ic_ge_n (n := 7) xB_129 dX11_takesWord_4 (by decide) rfl (by decide) ?_
        refine v_aload_n (n := 8) xB_129 dX11_takesWord_7 rfl rfl ?_
        refine v_aload_n (n := 9) xB_129 dX11_takesWord_8 rfl rfl ?_
        refine v_gf_s (n := 12) (kz := 20) xB_129 dX11_takesWord_9 xO_129 fl_11_71 fg_11_20 (sh_81 _ _ _) rfl st_81_20 rfl ?_
        refine v_iload_n (n := 13) xB_129 dX11_takesWord_12 rfl rfl ?_
        refine v_iload_n (n := 14) xB_129 dX11_takesWord_13 rfl rfl ?_
        refine v_iadd (n := 15) xB_129 dX11_takesWord_14 (by first | omega | (simp only [sA_same, sA_s, ud_s, Int.reduceEq, if_true, if_false, ite_true, ite_false, ↓reduceIte, and_true, true_and, eq_self, Int.add_zero, Int.reduceAdd]; omega) | (simp (disch := omega) only [sA_same, sA_ne, ud_eq, ud_ne, Int.add_zero, Int.reduceAdd]; omega)) rfl ?_
        refine v_iaload (n := 16) (lz := 16) xB_129 dX11_takesWord_15 (sh_94 _ _ _) rfl (by first | omega | (simp only [sA_same, sA_s, ud_s, Int.reduceEq, if_true, if_false, ite_true, ite_false, ↓reduceIte, and_true, true_and, eq_self, Int.add_zero, Int.reduceAdd]; omega) | (simp (disch := omega) only [sA_same, sA_ne, ud_eq, ud_ne, Int.add_zero, Int.reduceAdd]; omega)) rfl ?_
        refine v_call_v (n := 19) xB_129 dX11_takesWord_16 xO_129 iv_11_233 rfl (sh_81 _ _ _) rfl rfl rfl ?_
        refine c_takes (by omega) (by first | omega | (simp only [sA_same, sA_s, ud_s, Int.reduceEq, if_true, if_false, ite_true, ite_false, ↓reduceIte, and_true, true_and, eq_self, Int.add_zero, Int.reduceAdd]; omega) | (simp (disch := omega) only [sA_same, sA_ne, ud_eq, ud_ne, Int.add_zero, Int.reduceAdd]; omega)) (fun g7 => ?_) (fun g8 => ?_)
        · (try simp (disch := omega) only [sA_same, sA_ne, sA_sA, sA_sr, sB_s, ud_eq, ud_ne, ud_ud, ud_sr, uB_s, Int.add_zero, Int.reduceAdd, Int.add_assoc] at g7)
          have zg7 := nxt_in g7 (by omega)
          (try simp (disch := omega) only [Int.add_assoc, Int.reduceAdd])
          (try simp (disch := omega) only [sA_same, sA_ne, sA_sA, sA_sr, sB_s, ud_eq, ud_ne, ud_ud, ud_sr, uB_s, Int.add_zero, Int.reduceAdd] at g7)
          (try simp (disch := omega) only [sA_same, sA_ne, sA_sA, sA_sr, sB_s, ud_eq, ud_ne, ud_ud, ud_sr, uB_s, Int.add_zero, Int.reduceAdd])
          refine v_if_ne_y (t := 24) xB_129 dX11_takesWord_19 (by decide) rfl (by decide) ?_
          refine v_iinc3 (n := 27) xB_129 dX11_takesWord_24 rfl (by first | omega | (simp only [sA_same, sA_s, ud_s, Int.reduceEq, if_true, if_false, ite_true, ite_false, ↓reduceIte, and_true, true_and, eq_self, Int.add_zero, Int.reduceAdd]; omega) | (simp (disch := omega) only [sA_same, sA_ne, ud_eq, ud_ne, Int.add_zero, Int.reduceAdd]; omega)) rfl ?_
          refine v_goto (t := 2) xB_129 dX11_takesWord_27 (by decide) rfl ?_
          refine v_iload_n (n := 3) xB_129 dX11_takesWord_2 rfl rfl ?_
          refine v_iload_n (n := 4) xB_129 dX11_takesWord_3 rfl rfl ?_
          refine v_ic_ge_y (t := 30) xB_129 dX11_takesWord_4 (by decide) rfl (by decide) ?_
          refine v_aload_n (n := 31) xB_129 dX11_takesWord_30 rfl rfl ?_
          refine v_bipush (n := 33) xB_129 dX11_takesWord_31 ⟨by decide, by decide⟩ rfl ?_
          refine v_call_v (n := 36) xB_129 dX11_takesWord_33 xO_129 iv_11_233 rfl (sh_81 _ _ _) rfl rfl rfl ?_
          refine c_takes (by omega) (by first | omega | (simp only [sA_same, sA_s, ud_s, Int.reduceEq, if_true, if_false, ite_true, ite_false, ↓reduceIte, and_true, true_and, eq_self, Int.add_zero, Int.reduceAdd]; omega) | (simp (disch := omega) only [sA_same, sA_ne, ud_eq, ud_ne, Int.add_zero, Int.reduceAdd]; omega)) (fun g9 => ?_) (fun g10 => ?_)
          · (try simp (disch := omega) only [sA_same, sA_ne, sA_sA, sA_sr, sB_s, ud_eq, ud_ne, ud_ud, ud_sr, uB_s, Int.add_zero, Int.reduceAdd, Int.add_assoc] at g9)
            have zg9 := nxt_in g9 (by omega)
            (try simp (disch := omega) only [Int.add_assoc, Int.reduceAdd])
            (try simp (disch := omega) only [sA_same, sA_ne, sA_sA, sA_sr, sB_s, ud_eq, ud_ne, ud_ud, ud_sr, uB_s, Int.add_zero, Int.reduceAdd] at g9)
            (try simp (disch := omega) only [sA_same, sA_ne, sA_sA, sA_sr, sB_s, ud_eq, ud_ne, ud_ud, ud_sr, uB_s, Int.add_zero, Int.reduceAdd])
            refine v_ireturn1 xB_129 dX11_takesWord_36 xK_129 (by decide) ?_
            first
            | (have q : twF (m 86) (m 81 6) (m 81 7) 116 117 114 110 = (false, m 81 7) := by unfold twF mt4; rw [if_neg (c := nxt (m 86) (m 81 6) (m 81 7) = _) (by omega), if_neg (by omega), Int.add_zero]
               rw [q] at o2; have o3 := o2 rfl; rw [ud_id, sA_id] at o3; exact o3)
            | (have q : twF (m 86) (m 81 6) (m 81 7) 116 117 114 110 = (false, m 81 7 + 1) := by unfold twF mt4; rw [if_pos (c := nxt (m 86) (m 81 6) (m 81 7) = 116) (by omega), if_neg (c := nxt (m 86) (m 81 6) (m 81 7 + 1) = 117) (by omega), if_neg (by omega)]
               rw [q] at o2; exact o2 rfl)
            | (have q : twF (m 86) (m 81 6) (m 81 7) 116 117 114 110 = (false, m 81 7 + 2) := by unfold twF mt4; rw [if_pos (c := nxt (m 86) (m 81 6) (m 81 7) = 116) (by omega), if_pos (c := nxt (m 86) (m 81 6) (m 81 7 + 1) = 117) (by omega), if_neg (c := nxt (m 86) (m 81 6) (m 81 7 + 2) = 114) (by omega), if_neg (by omega)]
               rw [q] at o2; exact o2 rfl)
            | (have q : twF (m 86) (m 81 6) (m 81 7) 116 117 114 110 = (false, m 81 7 + 3) := by unfold twF mt4; rw [if_pos (c := nxt (m 86) (m 81 6) (m 81 7) = 116) (by omega), if_pos (c := nxt (m 86) (m 81 6) (m 81 7 + 1) = 117) (by omega), if_pos (c := nxt (m 86) (m 81 6) (m 81 7 + 2) = 114) (by omega), if_neg (c := nxt (m 86) (m 81 6) (m 81 7 + 3) = 110) (by omega), if_neg (by omega)]
               rw [q] at o2; exact o2 rfl)
            | (have q : twF (m 86) (m 81 6) (m 81 7) 116 117 114 110 = (false, m 81 7 + 4) := by unfold twF mt4; rw [if_pos (c := nxt (m 86) (m 81 6) (m 81 7) = 116) (by omega), if_pos (c := nxt (m 86) (m 81 6) (m 81 7 + 1) = 117) (by omega), if_pos (c := nxt (m 86) (m 81 6) (m 81 7 + 2) = 114) (by omega), if_pos (c := nxt (m 86) (m 81 6) (m 81 7 + 3) = 110) (by omega), if_pos rfl, if_neg (by omega)]
               rw [q] at o2; exact o2 rfl)
            | (have q : twF (m 86) (m 81 6) (m 81 7) 116 117 114 110 = (true, m 81 7 + 5) := by unfold twF mt4; rw [if_pos (c := nxt (m 86) (m 81 6) (m 81 7) = 116) (by omega), if_pos (c := nxt (m 86) (m 81 6) (m 81 7 + 1) = 117) (by omega), if_pos (c := nxt (m 86) (m 81 6) (m 81 7 + 2) = 114) (by omega), if_pos (c := nxt (m 86) (m 81 6) (m 81 7 + 3) = 110) (by omega), if_pos rfl, if_pos (by omega)]
               rw [q] at o1; rw [show m 81 7 + 4 + 1 = m 81 7 + 5 by omega]; exact o1 rfl)
          · (try simp (disch := omega) only [sA_same, sA_ne, sA_sA, sA_sr, sB_s, ud_eq, ud_ne, ud_ud, ud_sr, uB_s, Int.add_zero, Int.reduceAdd, Int.add_assoc] at g10)
            (try simp (disch := omega) only [Int.add_assoc, Int.reduceAdd])
            (try simp (disch := omega) only [sA_same, sA_ne, sA_sA, sA_sr, sB_s, ud_eq, ud_ne, ud_ud, ud_sr, uB_s, Int.add_zero, Int.reduceAdd] at g10)
            (try simp (disch := omega) only [sA_same, sA_ne, sA_sA, sA_sr, sB_s, ud_eq, ud_ne, ud_ud, ud_sr, uB_s, Int.add_zero, Int.reduceAdd])
            refine v_ireturn1 xB_129 dX11_takesWord_36 xK_129 (by decide) ?_
            first
            | (have q : twF (m 86) (m 81 6) (m 81 7) 116 117 114 110 = (false, m 81 7) := by unfold twF mt4; rw [if_neg (c := nxt (m 86) (m 81 6) (m 81 7) = _) (by omega), if_neg (by omega), Int.add_zero]
               rw [q] at o2; have o3 := o2 rfl; rw [ud_id, sA_id] at o3; exact o3)
            | (have q : twF (m 86) (m 81 6) (m 81 7) 116 117 114 110 = (false, m 81 7 + 1) := by unfold twF mt4; rw [if_pos (c := nxt (m 86) (m 81 6) (m 81 7) = 116) (by omega), if_neg (c := nxt (m 86) (m 81 6) (m 81 7 + 1) = 117) (by omega), if_neg (by omega)]
               rw [q] at o2; exact o2 rfl)
            | (have q : twF (m 86) (m 81 6) (m 81 7) 116 117 114 110 = (false, m 81 7 + 2) := by unfold twF mt4; rw [if_pos (c := nxt (m 86) (m 81 6) (m 81 7) = 116) (by omega), if_pos (c := nxt (m 86) (m 81 6) (m 81 7 + 1) = 117) (by omega), if_neg (c := nxt (m 86) (m 81 6) (m 81 7 + 2) = 114) (by omega), if_neg (by omega)]
               rw [q] at o2; exact o2 rfl)
            | (have q : twF (m 86) (m 81 6) (m 81 7) 116 117 114 110 = (false, m 81 7 + 3) := by unfold twF mt4; rw [if_pos (c := nxt (m 86) (m 81 6) (m 81 7) = 116) (by omega), if_pos (c := nxt (m 86) (m 81 6) (m 81 7 + 1) = 117) (by omega), if_pos (c := nxt (m 86) (m 81 6) (m 81 7 + 2) = 114) (by omega), if_neg (c := nxt (m 86) (m 81 6) (m 81 7 + 3) = 110) (by omega), if_neg (by omega)]
               rw [q] at o2; exact o2 rfl)
            | (have q : twF (m 86) (m 81 6) (m 81 7) 116 117 114 110 = (false, m 81 7 + 4) := by unfold twF mt4; rw [if_pos (c := nxt (m 86) (m 81 6) (m 81 7) = 116) (by omega), if_pos (c := nxt (m 86) (m 81 6) (m 81 7 + 1) = 117) (by omega), if_pos (c := nxt (m 86) (m 81 6) (m 81 7 + 2) = 114) (by omega), if_pos (c := nxt (m 86) (m 81 6) (m 81 7 + 3) = 110) (by omega), if_pos rfl, if_neg (by omega)]
               rw [q] at o2; exact o2 rfl)
            | (have q : twF (m 86) (m 81 6) (m 81 7) 116 117 114 110 = (true, m 81 7 + 5) := by unfold twF mt4; rw [if_pos (c := nxt (m 86) (m 81 6) (m 81 7) = 116) (by omega), if_pos (c := nxt (m 86) (m 81 6) (m 81 7 + 1) = 117) (by omega), if_pos (c := nxt (m 86) (m 81 6) (m 81 7 + 2) = 114) (by omega), if_pos (c := nxt (m 86) (m 81 6) (m 81 7 + 3) = 110) (by omega), if_pos rfl, if_pos (by omega)]
               rw [q] at o1; rw [show m 81 7 + 4 + 1 = m 81 7 + 5 by omega]; exact o1 rfl)
        · (try simp (disch := omega) only [sA_same, sA_ne, sA_sA, sA_sr, sB_s, ud_eq, ud_ne, ud_ud, ud_sr, uB_s, Int.add_zero, Int.reduceAdd, Int.add_assoc] at g8)
          (try simp (disch := omega) only [Int.add_assoc, Int.reduceAdd])
          (try simp (disch := omega) only [sA_same, sA_ne, sA_sA, sA_sr, sB_s, ud_eq, ud_ne, ud_ud, ud_sr, uB_s, Int.add_zero, Int.reduceAdd] at g8)
          (try simp (disch := omega) only [sA_same, sA_ne, sA_sA, sA_sr, sB_s, ud_eq, ud_ne, ud_ud, ud_sr, uB_s, Int.add_zero, Int.reduceAdd])
          refine v_if_ne_n (n := 22) xB_129 dX11_takesWord_19 (by decide) rfl (by decide) ?_
          refine v_iconst (n := 23) xB_129 dX11_takesWord_22 ⟨by decide, by decide⟩ rfl ?_
          refine v_ireturn1 xB_129 dX11_takesWord_23 xK_129 (by decide) ?_
          first
          | (have q : twF (m 86) (m 81 6) (m 81 7) 116 117 114 110 = (false, m 81 7) := by unfold twF mt4; rw [if_neg (c := nxt (m 86) (m 81 6) (m 81 7) = _) (by omega), if_neg (by omega), Int.add_zero]
             rw [q] at o2; have o3 := o2 rfl; rw [ud_id, sA_id] at o3; exact o3)
          | (have q : twF (m 86) (m 81 6) (m 81 7) 116 117 114 110 = (false, m 81 7 + 1) := by unfold twF mt4; rw [if_pos (c := nxt (m 86) (m 81 6) (m 81 7) = 116) (by omega), if_neg (c := nxt (m 86) (m 81 6) (m 81 7 + 1) = 117) (by omega), if_neg (by omega)]
             rw [q] at o2; exact o2 rfl)
          | (have q : twF (m 86) (m 81 6) (m 81 7) 116 117 114 110 = (false, m 81 7 + 2) := by unfold twF mt4; rw [if_pos (c := nxt (m 86) (m 81 6) (m 81 7) = 116) (by omega), if_pos (c := nxt (m 86) (m 81 6) (m 81 7 + 1) = 117) (by omega), if_neg (c := nxt (m 86) (m 81 6) (m 81 7 + 2) = 114) (by omega), if_neg (by omega)]
             rw [q] at o2; exact o2 rfl)
          | (have q : twF (m 86) (m 81 6) (m 81 7) 116 117 114 110 = (false, m 81 7 + 3) := by unfold twF mt4; rw [if_pos (c := nxt (m 86) (m 81 6) (m 81 7) = 116) (by omega), if_pos (c := nxt (m 86) (m 81 6) (m 81 7 + 1) = 117) (by omega), if_pos (c := nxt (m 86) (m 81 6) (m 81 7 + 2) = 114) (by omega), if_neg (c := nxt (m 86) (m 81 6) (m 81 7 + 3) = 110) (by omega), if_neg (by omega)]
             rw [q] at o2; exact o2 rfl)
          | (have q : twF (m 86) (m 81 6) (m 81 7) 116 117 114 110 = (false, m 81 7 + 4) := by unfold twF mt4; rw [if_pos (c := nxt (m 86) (m 81 6) (m 81 7) = 116) (by omega), if_pos (c := nxt (m 86) (m 81 6) (m 81 7 + 1) = 117) (by omega), if_pos (c := nxt (m 86) (m 81 6) (m 81 7 + 2) = 114) (by omega), if_pos (c := nxt (m 86) (m 81 6) (m 81 7 + 3) = 110) (by omega), if_pos rfl, if_neg (by omega)]
             rw [q] at o2; exact o2 rfl)
          | (have q : twF (m 86) (m 81 6) (m 81 7) 116 117 114 110 = (true, m 81 7 + 5) := by unfold twF mt4; rw [if_pos (c := nxt (m 86) (m 81 6) (m 81 7) = 116) (by omega), if_pos (c := nxt (m 86) (m 81 6) (m 81 7 + 1) = 117) (by omega), if_pos (c := nxt (m 86) (m 81 6) (m 81 7 + 2) = 114) (by omega), if_pos (c := nxt (m 86) (m 81 6) (m 81 7 + 3) = 110) (by omega), if_pos rfl, if_pos (by omega)]
             rw [q] at o1; rw [show m 81 7 + 4 + 1 = m 81 7 + 5 by omega]; exact o1 rfl)
      · (try simp (disch := omega) only [sA_same, sA_ne, sA_sA, sA_sr, sB_s, ud_eq, ud_ne, ud_ud, ud_sr, uB_s, Int.add_zero, Int.reduceAdd, Int.add_assoc] at g6)
        (try simp (disch := omega) only [Int.add_assoc, Int.reduceAdd])
        (try simp (disch := omega) only [sA_same, sA_ne, sA_sA, sA_sr, sB_s, ud_eq, ud_ne, ud_ud, ud_sr, uB_s, Int.add_zero, Int.reduceAdd] at g6)
        (try simp (disch := omega) only [sA_same, sA_ne, sA_sA, sA_sr, sB_s, ud_eq, ud_ne, ud_ud, ud_sr, uB_s, Int.add_zero, Int.reduceAdd])
        refine v_if_ne_n (n := 22) xB_129 dX11_takesWord_19 (by decide) rfl (by decide) ?_
        refine v_iconst (n := 23) xB_129 dX11_takesWord_22 ⟨by decide, by decide⟩ rfl ?_
        refine v_ireturn1 xB_129 dX11_takesWord_23 xK_129 (by decide) ?_
        first
        | (have q : twF (m 86) (m 81 6) (m 81 7) 116 117 114 110 = (false, m 81 7) := by unfold twF mt4; rw [if_neg (c := nxt (m 86) (m 81 6) (m 81 7) = _) (by omega), if_neg (by omega), Int.add_zero]
           rw [q] at o2; have o3 := o2 rfl; rw [ud_id, sA_id] at o3; exact o3)
        | (have q : twF (m 86) (m 81 6) (m 81 7) 116 117 114 110 = (false, m 81 7 + 1) := by unfold twF mt4; rw [if_pos (c := nxt (m 86) (m 81 6) (m 81 7) = 116) (by omega), if_neg (c := nxt (m 86) (m 81 6) (m 81 7 + 1) = 117) (by omega), if_neg (by omega)]
           rw [q] at o2; exact o2 rfl)
        | (have q : twF (m 86) (m 81 6) (m 81 7) 116 117 114 110 = (false, m 81 7 + 2) := by unfold twF mt4; rw [if_pos (c := nxt (m 86) (m 81 6) (m 81 7) = 116) (by omega), if_pos (c := nxt (m 86) (m 81 6) (m 81 7 + 1) = 117) (by omega), if_neg (c := nxt (m 86) (m 81 6) (m 81 7 + 2) = 114) (by omega), if_neg (by omega)]
           rw [q] at o2; exact o2 rfl)
        | (have q : twF (m 86) (m 81 6) (m 81 7) 116 117 114 110 = (false, m 81 7 + 3) := by unfold twF mt4; rw [if_pos (c := nxt (m 86) (m 81 6) (m 81 7) = 116) (by omega), if_pos (c := nxt (m 86) (m 81 6) (m 81 7 + 1) = 117) (by omega), if_pos (c := nxt (m 86) (m 81 6) (m 81 7 + 2) = 114) (by omega), if_neg (c := nxt (m 86) (m 81 6) (m 81 7 + 3) = 110) (by omega), if_neg (by omega)]
           rw [q] at o2; exact o2 rfl)
        | (have q : twF (m 86) (m 81 6) (m 81 7) 116 117 114 110 = (false, m 81 7 + 4) := by unfold twF mt4; rw [if_pos (c := nxt (m 86) (m 81 6) (m 81 7) = 116) (by omega), if_pos (c := nxt (m 86) (m 81 6) (m 81 7 + 1) = 117) (by omega), if_pos (c := nxt (m 86) (m 81 6) (m 81 7 + 2) = 114) (by omega), if_pos (c := nxt (m 86) (m 81 6) (m 81 7 + 3) = 110) (by omega), if_pos rfl, if_neg (by omega)]
           rw [q] at o2; exact o2 rfl)
        | (have q : twF (m 86) (m 81 6) (m 81 7) 116 117 114 110 = (true, m 81 7 + 5) := by unfold twF mt4; rw [if_pos (c := nxt (m 86) (m 81 6) (m 81 7) = 116) (by omega), if_pos (c := nxt (m 86) (m 81 6) (m 81 7 + 1) = 117) (by omega), if_pos (c := nxt (m 86) (m 81 6) (m 81 7 + 2) = 114) (by omega), if_pos (c := nxt (m 86) (m 81 6) (m 81 7 + 3) = 110) (by omega), if_pos rfl, if_pos (by omega)]
           rw [q] at o1; rw [show m 81 7 + 4 + 1 = m 81 7 + 5 by omega]; exact o1 rfl)
    · (try simp (disch := omega) only [sA_same, sA_ne, sA_sA, sA_sr, sB_s, ud_eq, ud_ne, ud_ud, ud_sr, uB_s, Int.add_zero, Int.reduceAdd, Int.add_assoc] at g4)
      (try simp (disch := omega) only [Int.add_assoc, Int.reduceAdd])
      (try simp (disch := omega) only [sA_same, sA_ne, sA_sA, sA_sr, sB_s, ud_eq, ud_ne, ud_ud, ud_sr, uB_s, Int.add_zero, Int.reduceAdd] at g4)
      (try simp (disch := omega) only [sA_same, sA_ne, sA_sA, sA_sr, sB_s, ud_eq, ud_ne, ud_ud, ud_sr, uB_s, Int.add_zero, Int.reduceAdd])
      refine v_if_ne_n (n := 22) xB_129 dX11_takesWord_19 (by decide) rfl (by decide) ?_
      refine v_iconst (n := 23) xB_129 dX11_takesWord_22 ⟨by decide, by decide⟩ rfl ?_
      refine v_ireturn1 xB_129 dX11_takesWord_23 xK_129 (by decide) ?_
      first
      | (have q : twF (m 86) (m 81 6) (m 81 7) 116 117 114 110 = (false, m 81 7) := by unfold twF mt4; rw [if_neg (c := nxt (m 86) (m 81 6) (m 81 7) = _) (by omega), if_neg (by omega), Int.add_zero]
         rw [q] at o2; have o3 := o2 rfl; rw [ud_id, sA_id] at o3; exact o3)
      | (have q : twF (m 86) (m 81 6) (m 81 7) 116 117 114 110 = (false, m 81 7 + 1) := by unfold twF mt4; rw [if_pos (c := nxt (m 86) (m 81 6) (m 81 7) = 116) (by omega), if_neg (c := nxt (m 86) (m 81 6) (m 81 7 + 1) = 117) (by omega), if_neg (by omega)]
         rw [q] at o2; exact o2 rfl)
      | (have q : twF (m 86) (m 81 6) (m 81 7) 116 117 114 110 = (false, m 81 7 + 2) := by unfold twF mt4; rw [if_pos (c := nxt (m 86) (m 81 6) (m 81 7) = 116) (by omega), if_pos (c := nxt (m 86) (m 81 6) (m 81 7 + 1) = 117) (by omega), if_neg (c := nxt (m 86) (m 81 6) (m 81 7 + 2) = 114) (by omega), if_neg (by omega)]
         rw [q] at o2; exact o2 rfl)
      | (have q : twF (m 86) (m 81 6) (m 81 7) 116 117 114 110 = (false, m 81 7 + 3) := by unfold twF mt4; rw [if_pos (c := nxt (m 86) (m 81 6) (m 81 7) = 116) (by omega), if_pos (c := nxt (m 86) (m 81 6) (m 81 7 + 1) = 117) (by omega), if_pos (c := nxt (m 86) (m 81 6) (m 81 7 + 2) = 114) (by omega), if_neg (c := nxt (m 86) (m 81 6) (m 81 7 + 3) = 110) (by omega), if_neg (by omega)]
         rw [q] at o2; exact o2 rfl)
      | (have q : twF (m 86) (m 81 6) (m 81 7) 116 117 114 110 = (false, m 81 7 + 4) := by unfold twF mt4; rw [if_pos (c := nxt (m 86) (m 81 6) (m 81 7) = 116) (by omega), if_pos (c := nxt (m 86) (m 81 6) (m 81 7 + 1) = 117) (by omega), if_pos (c := nxt (m 86) (m 81 6) (m 81 7 + 2) = 114) (by omega), if_pos (c := nxt (m 86) (m 81 6) (m 81 7 + 3) = 110) (by omega), if_pos rfl, if_neg (by omega)]
         rw [q] at o2; exact o2 rfl)
      | (have q : twF (m 86) (m 81 6) (m 81 7) 116 117 114 110 = (true, m 81 7 + 5) := by unfold twF mt4; rw [if_pos (c := nxt (m 86) (m 81 6) (m 81 7) = 116) (by omega), if_pos (c := nxt (m 86) (m 81 6) (m 81 7 + 1) = 117) (by omega), if_pos (c := nxt (m 86) (m 81 6) (m 81 7 + 2) = 114) (by omega), if_pos (c := nxt (m 86) (m 81 6) (m 81 7 + 3) = 110) (by omega), if_pos rfl, if_pos (by omega)]
         rw [q] at o1; rw [show m 81 7 + 4 + 1 = m 81 7 + 5 by omega]; exact o1 rfl)
  · (try simp (disch := omega) only [sA_same, sA_ne, sA_sA, sA_sr, sB_s, ud_eq, ud_ne, ud_ud, ud_sr, uB_s, Int.add_zero, Int.reduceAdd, Int.add_assoc] at g2)
    (try simp (disch := omega) only [Int.add_assoc, Int.reduceAdd])
    (try simp (disch := omega) only [sA_same, sA_ne, sA_sA, sA_sr, sB_s, ud_eq, ud_ne, ud_ud, ud_sr, uB_s, Int.add_zero, Int.reduceAdd] at g2)
    (try simp (disch := omega) only [sA_same, sA_ne, sA_sA, sA_sr, sB_s, ud_eq, ud_ne, ud_ud, ud_sr, uB_s, Int.add_zero, Int.reduceAdd])
    refine v_if_ne_n (n := 22) xB_129 dX11_takesWord_19 (by decide) rfl (by decide) ?_
    refine v_iconst (n := 23) xB_129 dX11_takesWord_22 ⟨by decide, by decide⟩ rfl ?_
    refine v_ireturn1 xB_129 dX11_takesWord_23 xK_129 (by decide) ?_
    first
    | (have q : twF (m 86) (m 81 6) (m 81 7) 116 117 114 110 = (false, m 81 7) := by unfold twF mt4; rw [if_neg (c := nxt (m 86) (m 81 6) (m 81 7) = _) (by omega), if_neg (by omega), Int.add_zero]
       rw [q] at o2; have o3 := o2 rfl; rw [ud_id, sA_id] at o3; exact o3)
    | (have q : twF (m 86) (m 81 6) (m 81 7) 116 117 114 110 = (false, m 81 7 + 1) := by unfold twF mt4; rw [if_pos (c := nxt (m 86) (m 81 6) (m 81 7) = 116) (by omega), if_neg (c := nxt (m 86) (m 81 6) (m 81 7 + 1) = 117) (by omega), if_neg (by omega)]
       rw [q] at o2; exact o2 rfl)
    | (have q : twF (m 86) (m 81 6) (m 81 7) 116 117 114 110 = (false, m 81 7 + 2) := by unfold twF mt4; rw [if_pos (c := nxt (m 86) (m 81 6) (m 81 7) = 116) (by omega), if_pos (c := nxt (m 86) (m 81 6) (m 81 7 + 1) = 117) (by omega), if_neg (c := nxt (m 86) (m 81 6) (m 81 7 + 2) = 114) (by omega), if_neg (by omega)]
       rw [q] at o2; exact o2 rfl)
    | (have q : twF (m 86) (m 81 6) (m 81 7) 116 117 114 110 = (false, m 81 7 + 3) := by unfold twF mt4; rw [if_pos (c := nxt (m 86) (m 81 6) (m 81 7) = 116) (by omega), if_pos (c := nxt (m 86) (m 81 6) (m 81 7 + 1) = 117) (by omega), if_pos (c := nxt (m 86) (m 81 6) (m 81 7 + 2) = 114) (by omega), if_neg (c := nxt (m 86) (m 81 6) (m 81 7 + 3) = 110) (by omega), if_neg (by omega)]
       rw [q] at o2; exact o2 rfl)
    | (have q : twF (m 86) (m 81 6) (m 81 7) 116 117 114 110 = (false, m 81 7 + 4) := by unfold twF mt4; rw [if_pos (c := nxt (m 86) (m 81 6) (m 81 7) = 116) (by omega), if_pos (c := nxt (m 86) (m 81 6) (m 81 7 + 1) = 117) (by omega), if_pos (c := nxt (m 86) (m 81 6) (m 81 7 + 2) = 114) (by omega), if_pos (c := nxt (m 86) (m 81 6) (m 81 7 + 3) = 110) (by omega), if_pos rfl, if_neg (by omega)]
       rw [q] at o2; exact o2 rfl)
    | (have q : twF (m 86) (m 81 6) (m 81 7) 116 117 114 110 = (true, m 81 7 + 5) := by unfold twF mt4; rw [if_pos (c := nxt (m 86) (m 81 6) (m 81 7) = 116) (by omega), if_pos (c := nxt (m 86) (m 81 6) (m 81 7 + 1) = 117) (by omega), if_pos (c := nxt (m 86) (m 81 6) (m 81 7 + 2) = 114) (by omega), if_pos (c := nxt (m 86) (m 81 6) (m 81 7 + 3) = 110) (by omega), if_pos rfl, if_pos (by omega)]
       rw [q] at o1; rw [show m 81 7 + 4 + 1 = m 81 7 + 5 by omega]; exact o1 rfl)
