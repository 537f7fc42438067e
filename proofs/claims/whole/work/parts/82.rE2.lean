/-! The reference reads a job: E as a whole. -/
theorem lp_f {f : Int → RR} {T : Int → Int} {n sep op : Int} {k : Nat} {r : RR} (h : r.1 = false) : lp f T n sep op k r = r := by
  cases k with
  | zero => rfl
  | succ k => rw [lp, if_neg (fun q => by rw [h] at q; exact absurd q.1 (by decide))]
theorem one_0 {d : Nat} {m0 : PM} {c B : Int} {dy : List (Nat × Nat)} {L : Nat} {Q : Option PV → PS → Prop} (hd : 5 ≤ d) : OneP d m0 c B dy L Q 0 := by
  intro W E m a x3 hSt hBd ho go no
  by_cases hb : nxt (m0 86) (m0 81 6) a = 33 ∨ nxt (m0 86) (m0 81 6) a = 40
  · have e : oneF (m0 86) (m0 81 6) 0 a = (false, (a, [])) := by unfold oneF; rw [if_pos hb]
    rw [e] at no
    exact vc_deep hd x3 hSt hBd ho hb (no _ _ _ rfl hSt)
  · have e : oneF (m0 86) (m0 81 6) 0 a = tst (m0 86) (m0 81 6) a := by unfold oneF; rw [if_neg hb]
    rw [e] at go no
    exact vc_tst hd x3 hSt hBd hb go no
set_option maxHeartbeats 1000000 in
theorem one_s {d : Nat} {m0 : PM} {c B : Int} {dy : List (Nat × Nat)} {L : Nat} {Q : Option PV → PS → Prop} (hd : 5 ≤ d) (hc : 0 ≤ c ∧ c < 60) {k : Nat} (hk : k < 4) (hO : OneP d m0 c B dy L Q k) (hA : AnyP d m0 c B dy L Q k) : OneP d m0 c B dy L Q (k + 1) := by
  intro W E m a x3 hSt hBd ho go no
  have hB := hBd
  obtain ⟨d1, d2, d3, d4, d5, d6, d7, d8⟩ := hB
  by_cases h33 : nxt (m0 86) (m0 81 6) a = 33
  · have hin := nxt_in h33 (by omega)
    have e : oneF (m0 86) (m0 81 6) (k + 1) a = if (oneF (m0 86) (m0 81 6) k (a + 1)).1 = true then (true, ((oneF (m0 86) (m0 81 6) k (a + 1)).2.1, (oneF (m0 86) (m0 81 6) k (a + 1)).2.2 ++ [-1])) else oneF (m0 86) (m0 81 6) k (a + 1) := by rw [oneF, if_pos h33]
    rw [e] at go no
    refine vc_not hd x3 hc hSt hBd (by omega) h33 (fun m' x3 hS => ?_)
    refine hO (33 :: W) E m' (a + 1) x3 hS (Bd_len hBd (by omega) (by omega) (by rw [List.length_cons]; omega) (by rw [List.length_cons]; omega)) (by rw [opn_c, if_pos (Or.inl rfl)]; omega) (fun h m2 x hm => ?_) (fun m2 W' E' h hm => ?_)
    · rw [if_pos h] at go
      refine go rfl m2 x ?_
      have e1 : stp (33 :: W) = stp W := by rw [stp, if_pos rfl]
      have e2 : nts (33 :: W) = -33 :: nts W := by rw [nts, if_pos rfl]
      rw [e1, e2] at hm
      have e3 : E ++ List.map trS ((oneF (m0 86) (m0 81 6) k (a + 1)).2.2 ++ [-1]) ++ nts W = E ++ List.map trS (oneF (m0 86) (m0 81 6) k (a + 1)).2.2 ++ -33 :: nts W := by
        rw [List.map_append, List.map_cons, List.map_nil, trS_not, List.append_assoc, List.append_assoc, List.append_assoc]; rfl
      show St m0 m2 c _ (stp W) (E ++ List.map trS ((oneF (m0 86) (m0 81 6) k (a + 1)).2.2 ++ [-1]) ++ nts W)
      rw [e3]
      exact hm
    · rw [if_neg (by rw [h]; decide)] at no
      exact no m2 W' E' h hm
  · by_cases h40 : nxt (m0 86) (m0 81 6) a = 40
    · have hin := nxt_in h40 (by omega)
      have e : oneF (m0 86) (m0 81 6) (k + 1) a = if (anyF (oneF (m0 86) (m0 81 6) k) (m0 86) (m0 81 6) (a + 1)).1 = true ∧ nxt (m0 86) (m0 81 6) (anyF (oneF (m0 86) (m0 81 6) k) (m0 86) (m0 81 6) (a + 1)).2.1 = 41 then (true, ((anyF (oneF (m0 86) (m0 81 6) k) (m0 86) (m0 81 6) (a + 1)).2.1 + 1, (anyF (oneF (m0 86) (m0 81 6) k) (m0 86) (m0 81 6) (a + 1)).2.2)) else (false, ((anyF (oneF (m0 86) (m0 81 6) k) (m0 86) (m0 81 6) (a + 1)).2.1, (anyF (oneF (m0 86) (m0 81 6) k) (m0 86) (m0 81 6) (a + 1)).2.2)) := by rw [oneF, if_neg h33, if_pos h40]
      rw [e] at go no
      obtain ⟨k1, k2, k3, k4⟩ := anyF_ok (T := m0 86) (n := m0 81 6) (a := a + 1) (f := oneF (m0 86) (m0 81 6) k) (fun b _ hb => oneF_ok (m0 86) (m0 81 6) k b hb) (by omega)
      refine vc_par hd x3 hc hSt hBd (by omega) h40 (fun m' x3 hS => ?_)
      refine hA (40 :: W) E m' (a + 1) x3 hS (Bd_len hBd (by omega) (by omega) (by rw [List.length_cons]; omega) (by rw [List.length_cons]; omega)) (by rw [opn_c, if_pos (Or.inr rfl)]; omega) rfl (fun h m2 x P E' hP hE hEl hm n1 n2 => ?_) (fun m2 W' E' h hm => ?_)
      · have hln := congrArg List.length hE
        rw [List.length_append, List.length_append, List.length_map, ng_len] at hln
        refine vc_close hd x hc hm (Bd_len hBd (by omega) (by omega) (by rw [List.length_append, List.length_cons]; omega) (by rw [List.length_append, List.length_cons]; omega)) n1 n2 hP rfl (fun q => by cases q) (fun W1 hW1 h41 m3 x hm3 => ?_) (fun W1 hW1 h41 m3 hm3 => ?_)
        · cases hW1
          rw [if_pos ⟨h, h41⟩] at go
          rw [hE] at hm3
          exact go rfl m3 x hm3
        · rw [if_neg (fun q => h41 q.2)] at no
          exact no m3 _ _ rfl hm3
      · rw [if_neg (fun q => by rw [h] at q; exact absurd q.1 (by decide))] at no
        exact no m2 W' E' rfl hm
    · have e : oneF (m0 86) (m0 81 6) (k + 1) a = tst (m0 86) (m0 81 6) a := by rw [oneF, if_neg h33, if_neg h40]
      rw [e] at go no
      exact vc_tst hd x3 hSt hBd (fun q => by rcases q with q | q; exact h33 q; exact h40 q) go no
set_option maxHeartbeats 1000000 in
theorem all_loop {d : Nat} {m0 : PM} {c B : Int} {dy : List (Nat × Nat)} {L : Nat} {Q : Option PV → PS → Prop} (hd : 5 ≤ d) {k : Nat} (hO : OneP d m0 c B dy L Q k) {W E : List Int} (hW : allO W) (ho : opn W = 4 - k) : ∀ (fu : Nat) (r : RR) (P E' : List Int) (m : PM) (x3 : Option PV), r.1 = true → m0 81 6 - r.2.1 < fu → (∀ p ∈ P, p = 38) → E' ++ ng P = E ++ r.2.2.map trS → E.length ≤ E'.length → St m0 m c r.2.1 (P ++ W) E' → Bd m0 B r.2.1 (P ++ W) E' → ((lp (oneF (m0 86) (m0 81 6) k) (m0 86) (m0 81 6) 38 (-2) fu r).1 = true → ∀ (m' : PM) (x3 : Option PV) (P E' : List Int), (∀ p ∈ P, p = 38) → E' ++ ng P = E ++ (lp (oneF (m0 86) (m0 81 6) k) (m0 86) (m0 81 6) 38 (-2) fu r).2.2.map trS → E.length ≤ E'.length → St m0 m' c (lp (oneF (m0 86) (m0 81 6) k) (m0 86) (m0 81 6) 38 (-2) fu r).2.1 (P ++ W) E' → nxt (m0 86) (m0 81 6) (lp (oneF (m0 86) (m0 81 6) k) (m0 86) (m0 81 6) 38 (-2) fu r).2.1 ≠ 38 → V d 137 (22, ([some (.inr (.inr 81)), some (.inl c), some (.inl 0), x3], ([], (m', (none, (dy, L)))))) Q) → (∀ (m' : PM) (W' E' : List Int), (lp (oneF (m0 86) (m0 81 6) k) (m0 86) (m0 81 6) 38 (-2) fu r).1 = false → St m0 m' c (lp (oneF (m0 86) (m0 81 6) k) (m0 86) (m0 81 6) 38 (-2) fu r).2.1 W' E' → Q (some (.inl 0)) (m', (none, (dy, L)))) → V d 137 (22, ([some (.inr (.inr 81)), some (.inl c), some (.inl 0), x3], ([], (m, (none, (dy, L)))))) Q := by
  intro fu
  induction fu with
  | zero =>
    intro r P E' m x3 h1 h2 hP hE hEl hSt hBd go no
    obtain ⟨d1, d2, d3, d4, d5, d6, d7, d8⟩ := hBd
    omega
  | succ fu ih =>
    intro r P E' m x3 h1 h2 hP hE hEl hSt hBd go no
    by_cases hb : nxt (m0 86) (m0 81 6) r.2.1 = 38
    · have hin := nxt_in hb (by omega)
      have hB := hBd
      obtain ⟨d1, d2, d3, d4, d5, d6, d7, d8⟩ := hB
      obtain ⟨k1, k2, k3, k4⟩ := oneF_ok (m0 86) (m0 81 6) k (r.2.1 + 1) (by omega)
      have hpl := List.length_append (as := P) (bs := W)
      refine vc_and hd x3 hSt hBd hb hP hW (fun m' x3 hS => ?_)
      refine hO (38 :: W) (E' ++ ng P) m' (r.2.1 + 1) x3 hS (Bd_len hBd (by omega) (by omega) (by rw [List.length_append, ng_len, List.length_cons]; omega) (by rw [List.length_cons]; omega)) (by rw [opn_c, if_neg (by omega)]; omega) (fun h m2 x hm => ?_) (fun m2 W' E2 h hm => ?_)
      · rw [(stp_38 W).1, (stp_38 W).2, List.append_nil] at hm
        rw [lp_go h1 hb h] at go no
        have hln := congrArg List.length hE
        rw [List.length_append, List.length_append, List.length_map, ng_len] at hln
        refine ih (true, ((oneF (m0 86) (m0 81 6) k (r.2.1 + 1)).2.1, r.2.2 ++ (oneF (m0 86) (m0 81 6) k (r.2.1 + 1)).2.2 ++ [-2])) [38] (E' ++ ng P ++ List.map trS (oneF (m0 86) (m0 81 6) k (r.2.1 + 1)).2.2) m2 x rfl (by dsimp only; omega) (fun p hp => List.mem_singleton.mp hp) ?_ (by rw [List.length_append, List.length_append]; omega) hm (Bd_len hBd (by dsimp only; omega) (by dsimp only; omega) ?_ ?_) go no
        · dsimp only
          rw [hE, List.map_append, List.map_append, List.map_cons, List.map_nil, trS_and, List.append_assoc, List.append_assoc, List.append_assoc]
          rfl
        · dsimp only
          rw [List.length_append, List.length_append, List.length_append, List.length_map, ng_len, List.length_singleton]
          omega
        · dsimp only
          rw [List.length_append, List.length_singleton]
          omega
      · rw [lp_no h1 hb h] at no
        exact no m2 W' E2 rfl hm
    · rw [lp_end hb] at go no
      exact go h1 m x3 P E' hP hE hEl hSt hb
set_option maxHeartbeats 1000000 in
theorem all_k {d : Nat} {m0 : PM} {c B : Int} {dy : List (Nat × Nat)} {L : Nat} {Q : Option PV → PS → Prop} (hd : 5 ≤ d) {k : Nat} (hO : OneP d m0 c B dy L Q k) : AllP d m0 c B dy L Q k := by
  intro W E m a x3 hSt hBd ho hW go no
  have hB := hBd
  obtain ⟨d1, d2, d3, d4, d5, d6, d7, d8⟩ := hB
  obtain ⟨k1, k2, k3, k4⟩ := oneF_ok (m0 86) (m0 81 6) k a d6
  refine hO W E m a x3 hSt hBd ho (fun h m2 x hm => ?_) (fun m2 W' E2 h hm => ?_)
  · rw [(stp_no hW).1, (stp_no hW).2, List.append_nil] at hm
    refine all_loop hd hO hW ho 200 (oneF (m0 86) (m0 81 6) k a) [] (E ++ List.map trS (oneF (m0 86) (m0 81 6) k a).2.2) m2 x h (by omega) (fun p hp => by cases hp) (by show _ ++ [] = _; rw [List.append_nil]) (by rw [List.length_append]; omega) hm (Bd_len hBd k1 k2 ?_ ?_) go no
    · rw [List.length_append, List.length_map, List.nil_append]; omega
    · rw [List.nil_append]; omega
  · have e : allF (oneF (m0 86) (m0 81 6) k) (m0 86) (m0 81 6) a = oneF (m0 86) (m0 81 6) k a := lp_f h
    rw [e] at no
    exact no m2 W' E2 h hm
set_option maxHeartbeats 1000000 in
theorem any_loop {d : Nat} {m0 : PM} {c B : Int} {dy : List (Nat × Nat)} {L : Nat} {Q : Option PV → PS → Prop} (hd : 5 ≤ d) {k : Nat} (hO : AllP d m0 c B dy L Q k) {W E : List Int} (hW : anyO W) (ho : opn W = 4 - k) : ∀ (fu : Nat) (r : RR) (P E' : List Int) (m : PM) (x3 : Option PV), r.1 = true → m0 81 6 - r.2.1 < fu → (∀ p ∈ P, p = 38 ∨ p = 124) → E' ++ ng P = E ++ r.2.2.map trS → E.length ≤ E'.length → St m0 m c r.2.1 (P ++ W) E' → Bd m0 B r.2.1 (P ++ W) E' → nxt (m0 86) (m0 81 6) r.2.1 ≠ 38 → ((lp (allF (oneF (m0 86) (m0 81 6) k) (m0 86) (m0 81 6)) (m0 86) (m0 81 6) 124 (-3) fu r).1 = true → ∀ (m' : PM) (x3 : Option PV) (P E' : List Int), (∀ p ∈ P, p = 38 ∨ p = 124) → E' ++ ng P = E ++ (lp (allF (oneF (m0 86) (m0 81 6) k) (m0 86) (m0 81 6)) (m0 86) (m0 81 6) 124 (-3) fu r).2.2.map trS → E.length ≤ E'.length → St m0 m' c (lp (allF (oneF (m0 86) (m0 81 6) k) (m0 86) (m0 81 6)) (m0 86) (m0 81 6) 124 (-3) fu r).2.1 (P ++ W) E' → nxt (m0 86) (m0 81 6) (lp (allF (oneF (m0 86) (m0 81 6) k) (m0 86) (m0 81 6)) (m0 86) (m0 81 6) 124 (-3) fu r).2.1 ≠ 38 → nxt (m0 86) (m0 81 6) (lp (allF (oneF (m0 86) (m0 81 6) k) (m0 86) (m0 81 6)) (m0 86) (m0 81 6) 124 (-3) fu r).2.1 ≠ 124 → V d 137 (22, ([some (.inr (.inr 81)), some (.inl c), some (.inl 0), x3], ([], (m', (none, (dy, L)))))) Q) → (∀ (m' : PM) (W' E' : List Int), (lp (allF (oneF (m0 86) (m0 81 6) k) (m0 86) (m0 81 6)) (m0 86) (m0 81 6) 124 (-3) fu r).1 = false → St m0 m' c (lp (allF (oneF (m0 86) (m0 81 6) k) (m0 86) (m0 81 6)) (m0 86) (m0 81 6) 124 (-3) fu r).2.1 W' E' → Q (some (.inl 0)) (m', (none, (dy, L)))) → V d 137 (22, ([some (.inr (.inr 81)), some (.inl c), some (.inl 0), x3], ([], (m, (none, (dy, L)))))) Q := by
  intro fu
  induction fu with
  | zero =>
    intro r P E' m x3 h1 h2 hP hE hEl hSt hBd hn go no
    obtain ⟨d1, d2, d3, d4, d5, d6, d7, d8⟩ := hBd
    omega
  | succ fu ih =>
    intro r P E' m x3 h1 h2 hP hE hEl hSt hBd hn go no
    by_cases hb : nxt (m0 86) (m0 81 6) r.2.1 = 124
    · have hin := nxt_in hb (by omega)
      have hB := hBd
      obtain ⟨d1, d2, d3, d4, d5, d6, d7, d8⟩ := hB
      obtain ⟨k1, k2, k3, k4⟩ := allF_ok (T := m0 86) (n := m0 81 6) (a := r.2.1 + 1) (f := oneF (m0 86) (m0 81 6) k) (fun b _ hb => oneF_ok (m0 86) (m0 81 6) k b hb) (by omega)
      have hpl := List.length_append (as := P) (bs := W)
      refine vc_or hd x3 hSt hBd hb hP hW (fun m' x3 hS => ?_)
      refine hO (124 :: W) (E' ++ ng P) m' (r.2.1 + 1) x3 hS (Bd_len hBd (by omega) (by omega) (by rw [List.length_append, ng_len, List.length_cons]; omega) (by rw [List.length_cons]; omega)) (by rw [opn_c, if_neg (by omega)]; omega) (Or.inr rfl) (fun h m2 x P2 E2 hP2 hE2 hEl2 hm hn2 => ?_) (fun m2 W' E2 h hm => ?_)
      · rw [lp_go h1 hb h] at go no
        have hln := congrArg List.length hE
        rw [List.length_append, List.length_append, List.length_map, ng_len] at hln
        have hln2 := congrArg List.length hE2
        rw [List.length_append, List.length_append, List.length_append, List.length_map, ng_len, ng_len] at hln2
        rw [List.length_append, ng_len] at hEl2
        refine ih (true, ((allF (oneF (m0 86) (m0 81 6) k) (m0 86) (m0 81 6) (r.2.1 + 1)).2.1, r.2.2 ++ (allF (oneF (m0 86) (m0 81 6) k) (m0 86) (m0 81 6) (r.2.1 + 1)).2.2 ++ [-3])) (P2 ++ [124]) E2 m2 x rfl (by dsimp only; omega) (fun p hp => ?_) ?_ (by omega) (by rw [List.append_assoc P2 [124] W]; exact hm) (Bd_len hBd (by dsimp only; omega) (by dsimp only; omega) ?_ ?_) hn2 go no
        · rcases List.mem_append.mp hp with q | q
          · exact Or.inl (hP2 p q)
          · exact Or.inr (List.mem_singleton.mp q)
        · dsimp only
          have e1 : ng (P2 ++ [124]) = ng P2 ++ [-124] := by unfold ng; rw [List.map_append]; rfl
          rw [e1, ← List.append_assoc, hE2, hE, List.map_append, List.map_append, List.map_cons, List.map_nil, trS_or, List.append_assoc, List.append_assoc, List.append_assoc]
        · dsimp only
          rw [List.length_append, List.length_append, List.length_append, List.length_singleton]
          omega
        · dsimp only
          rw [List.length_append, List.length_append, List.length_append, List.length_singleton]
          omega
      · rw [lp_no h1 hb h] at no
        exact no m2 W' E2 rfl hm
    · rw [lp_end hb] at go no
      exact go h1 m x3 P E' hP hE hEl hSt hn hb
set_option maxHeartbeats 1000000 in
theorem any_k {d : Nat} {m0 : PM} {c B : Int} {dy : List (Nat × Nat)} {L : Nat} {Q : Option PV → PS → Prop} (hd : 5 ≤ d) {k : Nat} (hO : AllP d m0 c B dy L Q k) : AnyP d m0 c B dy L Q k := by
  intro W E m a x3 hSt hBd ho hW go no
  have hB := hBd
  obtain ⟨d1, d2, d3, d4, d5, d6, d7, d8⟩ := hB
  obtain ⟨k1, k2, k3, k4⟩ := allF_ok (T := m0 86) (n := m0 81 6) (a := a) (f := oneF (m0 86) (m0 81 6) k) (fun b _ hb => oneF_ok (m0 86) (m0 81 6) k b hb) d6
  refine hO W E m a x3 hSt hBd ho (anyO_all hW) (fun h m2 x P E' hP hE hEl hm hn => ?_) (fun m2 W' E2 h hm => ?_)
  · have hln := congrArg List.length hE
    rw [List.length_append, List.length_append, List.length_map, ng_len] at hln
    refine any_loop hd hO hW ho 200 (allF (oneF (m0 86) (m0 81 6) k) (m0 86) (m0 81 6) a) P E' m2 x h (by omega) (fun p hp => Or.inl (hP p hp)) hE hEl hm (Bd_len hBd k1 k2 ?_ ?_) hn go no
    · rw [List.length_append]; omega
    · rw [List.length_append]; omega
  · have e : anyF (oneF (m0 86) (m0 81 6) k) (m0 86) (m0 81 6) a = allF (oneF (m0 86) (m0 81 6) k) (m0 86) (m0 81 6) a := lp_f h
    rw [e] at no
    exact no m2 W' E2 h hm
theorem par_k {d : Nat} {m0 : PM} {c B : Int} {dy : List (Nat × Nat)} {L : Nat} {Q : Option PV → PS → Prop} (hd : 5 ≤ d) (hc : 0 ≤ c ∧ c < 60) : ∀ k : Nat, k ≤ 4 → OneP d m0 c B dy L Q k ∧ AnyP d m0 c B dy L Q k := by
  intro k
  induction k with
  | zero =>
    intro _
    have h := one_0 (m0 := m0) (c := c) (B := B) (dy := dy) (L := L) (Q := Q) hd
    exact ⟨h, any_k hd (all_k hd h)⟩
  | succ k ih =>
    intro hk
    obtain ⟨h1, h2⟩ := ih (by omega)
    have h := one_s hd hc (by omega) h1 h2
    exact ⟨h, any_k hd (all_k hd h)⟩
set_option maxHeartbeats 1000000 in
theorem c_takesE {d : Nat} {c B : Int} {m : PM} {dy : List (Nat × Nat)} {L : Nat} {Q : Option PV → PS → Prop} (hd : 6 ≤ d) (hc : 0 ≤ c ∧ c < 60) (hn : m 81 6 ≤ 100) (ha : 0 ≤ m 81 7 ∧ m 81 7 ≤ m 81 6) (hB : 0 ≤ B ∧ B ≤ 500) (hs : 0 ≤ m 81 17 ∧ m 81 17 ≤ B + m 81 7) (o1 : (anyF (oneF (m 86) (m 81 6) 4) (m 86) (m 81 6) (m 81 7)).1 = true → ∀ m' : PM, St (setA (setA m 81 (ud (ud (m 81) 18 0) 19 0)) 90 (ud (m 90) c (m 81 17))) m' c (anyF (oneF (m 86) (m 81 6) 4) (m 86) (m 81 6) (m 81 7)).2.1 [] ((anyF (oneF (m 86) (m 81 6) 4) (m 86) (m 81 6) (m 81 7)).2.2.map trS) → m' 91 c = m' 81 17 → Q (some (.inl 1)) (m', (none, (dy, L)))) (o2 : (anyF (oneF (m 86) (m 81 6) 4) (m 86) (m 81 6) (m 81 7)).1 = false → ∀ (m' : PM) (W E : List Int), St (setA (setA m 81 (ud (ud (m 81) 18 0) 19 0)) 90 (ud (m 90) c (m 81 17))) m' c (anyF (oneF (m 86) (m 81 6) 4) (m 86) (m 81 6) (m 81 7)).2.1 W E → Q (some (.inl 0)) (m', (none, (dy, L)))) : C d 137 [.inr (.inr 81), .inl c] (m, (none, (dy, L))) Q := by
  refine C_go (k := 5) hd xL_137 (fun d hd => ?_)
  show V d 137 (0, ([some (.inr (.inr 81)), some (.inl c), none, none], ([], (m, (none, (dy, L)))))) Q
  have hs0 : St (setA (setA m 81 (ud (ud (m 81) 18 0) 19 0)) 90 (ud (m 90) c (m 81 17))) (setA (setA m 81 (ud (ud (m 81) 18 0) 19 0)) 90 (ud (m 90) c (m 81 17))) c (m 81 7) [] [] := by
    exact ⟨fun _ _ _ _ _ => rfl, fun _ _ _ _ _ _ => rfl, fun _ _ => rfl, by simp (disch := omega) only [sA_same, sA_ne, sA_sA, sA_sr, sB_s, ud_eq, ud_ne, ud_ud, ud_sr, uB_s, Int.add_zero, Int.reduceAdd], by simp (disch := omega) only [sA_same, sA_ne, sA_sA, sA_sr, sB_s, ud_eq, ud_ne, ud_ud, ud_sr, uB_s, Int.add_zero, Int.reduceAdd]; rfl, by simp (disch := omega) only [sA_same, sA_ne, sA_sA, sA_sr, sB_s, ud_eq, ud_ne, ud_ud, ud_sr, uB_s, Int.add_zero, Int.reduceAdd]; rfl, by simp, fun _ _ => rfl, trivial, rfl⟩
  have hb0 : Bd (setA (setA m 81 (ud (ud (m 81) 18 0) 19 0)) 90 (ud (m 90) c (m 81 17))) B (m 81 7) [] [] := by
    unfold Bd
    simp (disch := omega) only [sA_same, sA_ne, sA_sA, sA_sr, sB_s, ud_eq, ud_ne, ud_ud, ud_sr, uB_s, Int.add_zero, Int.reduceAdd]
    simp only [List.length_nil]
    omega
  have e86 : (setA (setA m 81 (ud (ud (m 81) 18 0) 19 0)) 90 (ud (m 90) c (m 81 17))) 86 = m 86 := by simp (disch := omega) only [sA_same, sA_ne, sA_sA, sA_sr, sB_s, ud_eq, ud_ne, ud_ud, ud_sr, uB_s, Int.add_zero, Int.reduceAdd]
  have e6 : (setA (setA m 81 (ud (ud (m 81) 18 0) 19 0)) 90 (ud (m 90) c (m 81 17))) 81 6 = m 81 6 := by simp (disch := omega) only [sA_same, sA_ne, sA_sA, sA_sr, sB_s, ud_eq, ud_ne, ud_ud, ud_sr, uB_s, Int.add_zero, Int.reduceAdd]
  have ha := (par_k (m0 := (setA (setA m 81 (ud (ud (m 81) 18 0) 19 0)) 90 (ud (m 90) c (m 81 17)))) (c := c) (B := B) (dy := dy) (L := L) (Q := Q) hd hc 4 (Nat.le_refl 4)).2
  unfold AnyP at ha
  rw [e86, e6] at ha
  refine v_aload_n (n := 1) xB_137 dX11_takesE_0 rfl rfl ?_
  refine v_iconst (n := 2) xB_137 dX11_takesE_1 ⟨by decide, by decide⟩ rfl ?_
  refine v_pf_i (n := 5) (kz := 18) xB_137 dX11_takesE_2 xO_137 fl_11_65 fg_11_18 (Or.inl fn_11_18) (sh_81 _ _ _) (by decide) rfl rfl ?_
  (try simp (disch := omega) only [sA_same, sA_ne, sA_sA, sA_sr, sB_s, ud_eq, ud_ne, ud_ud, ud_sr, uB_s, Int.add_zero, Int.reduceAdd])
  refine v_aload_n (n := 6) xB_137 dX11_takesE_5 rfl rfl ?_
  refine v_iconst (n := 7) xB_137 dX11_takesE_6 ⟨by decide, by decide⟩ rfl ?_
  refine v_pf_i (n := 10) (kz := 19) xB_137 dX11_takesE_7 xO_137 fl_11_68 fg_11_19 (Or.inl fn_11_19) (sh_81 _ _ _) (by decide) rfl rfl ?_
  (try simp (disch := omega) only [sA_same, sA_ne, sA_sA, sA_sr, sB_s, ud_eq, ud_ne, ud_ud, ud_sr, uB_s, Int.add_zero, Int.reduceAdd])
  refine v_aload_n (n := 11) xB_137 dX11_takesE_10 rfl rfl ?_
  refine v_gf_s (n := 14) (kz := 13) xB_137 dX11_takesE_11 xO_137 fl_11_50 fg_11_13 (sh_81 _ _ _) rfl st_81_13 rfl ?_
  refine v_iload_n (n := 15) xB_137 dX11_takesE_14 rfl rfl ?_
  refine v_aload_n (n := 16) xB_137 dX11_takesE_15 rfl rfl ?_
  refine v_gf_i (n := 19) (kz := 17) xB_137 dX11_takesE_16 xO_137 fl_11_62 fg_11_17 rfl (sh_81 _ _ _) rfl rfl ?_
  refine v_iastore (n := 20) (lz := 60) xB_137 dX11_takesE_19 (sh_90 _ _ _) (by decide) rfl (by first | omega | (simp only [sA_same, sA_s, ud_s, Int.reduceEq, if_true, if_false, ite_true, ite_false, ↓reduceIte, and_true, true_and, eq_self, Int.add_zero, Int.reduceAdd]; omega) | (simp (disch := omega) only [sA_same, sA_ne, ud_eq, ud_ne, Int.add_zero, Int.reduceAdd]; omega)) rfl ?_
  (try simp (disch := omega) only [sA_same, sA_ne, sA_sA, sA_sr, sB_s, ud_eq, ud_ne, ud_ud, ud_sr, uB_s, Int.add_zero, Int.reduceAdd])
  refine v_iconst (n := 21) xB_137 dX11_takesE_20 ⟨by decide, by decide⟩ rfl ?_
  refine v_istore_n2 (n := 22) xB_137 dX11_takesE_21 rfl rfl ?_
  (try simp (disch := omega) only [sA_same, sA_ne, sA_sA, sA_sr, sB_s, ud_eq, ud_ne, ud_ud, ud_sr, uB_s, Int.add_zero, Int.reduceAdd])
  refine ha [] [] _ (m 81 7) _ hs0 hb0 rfl trivial (fun h m2 x P E' hP hE hEl hm n1 n2 => ?_) (fun m' W' E' h hm => o2 h m' W' E' hm)
  have hln := congrArg List.length hE
  obtain ⟨k1, k2, k3, k4⟩ := anyF_ok (T := m 86) (n := m 81 6) (a := m 81 7) (f := oneF (m 86) (m 81 6) 4) (fun b _ hb => oneF_ok (m 86) (m 81 6) 4 b hb) (by omega)
  rw [List.length_append, List.nil_append, List.length_map, ng_len] at hln
  refine vc_close hd x hc hm (Bd_len hb0 k1 (by rw [e6]; exact k2) ?_ ?_) (by rw [e86, e6]; exact n1) (by rw [e86, e6]; exact n2) hP trivial (fun _ m' hm' h91 => ?_) (fun W1 q => by cases q) (fun W1 q => by cases q)
  · rw [List.length_append, List.length_nil]; omega
  · rw [List.length_append, List.length_nil]; omega
  · rw [hE, List.nil_append] at hm'
    exact o1 h m' hm' h91
