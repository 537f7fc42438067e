/-! The making of the fixed cells. -/
def ob (ci : Nat) : Int → Int := fun k => if 0 ≤ k ∧ ftg ci k.toNat = 2 then -1 else 0
def nf : Int → Int := fun _ => -1
def zf : Int → Int := fun _ => 0
theorem clO_sA (m : PM) (id : Int) (ci : Nat) : clO m id ci = setA m id (ob ci) := by
  funext a k; unfold clO setA ob; rfl
theorem clN_sA (m : PM) (id : Int) : clN m id = setA m id nf := by
  funext a k; unfold clN setA nf; rfl
theorem clr_z {m : PM} {id : Int} (h : m id = zf) : clr m id = m := by
  rw [clr_sA, show (fun _ => 0 : Int → Int) = m id from h.symm, sA_id]
theorem b_new {d μ pc n : Nat} {B : ByteArray} {ls : PL} {st : List PV} {m : PM} {t L : Nat} {Q : Option PV → PS → Prop} {idx ow ci : Nat} (hb : mB μ = B) (hd : ClassFile.decode B pc = .ok (.new idx, 3)) (ho : mO μ = ow) (hi : nwc ow idx = some ci) (hc : Nat.blt ci 12 = true) (ht : Nat.blt t 129 = true) (hs : dSh t = (0, ci)) (hn : pc + 3 = n) (h : V d μ (n, (ls, (.inr (.inr (t : Int)) :: st, (setA m (t : Int) (ob ci), (some (t + 1), ([], L))))) ) Q) : V d μ (pc, (ls, (st, (m, (some t, ([], L)))))) Q := by
  subst hn
  refine V_dec hb hd ?_
  rw [sI_new, SP_gd, ho, hi]
  refine ⟨rfl, ?_⟩
  show SP (gd (ci < 12) _) _ _ _
  rw [SP_gd]
  refine ⟨Nat.le_of_ble_eq_true hc, ?_⟩
  show SP (gd (t < NB ∧ dSh t = (0, ci)) _) _ _ _
  rw [SP_gd]
  refine ⟨⟨Nat.le_of_ble_eq_true ht, hs⟩, ?_⟩
  rw [← clO_sA] at h
  exact h
theorem b_new_int {d μ pc n : Nat} {B : ByteArray} {ls : PL} {st : List PV} {m : PM} {t L : Nat} {Q : Option PV → PS → Prop} {z : Int} (hb : mB μ = B) (hd : ClassFile.decode B pc = .ok (.newarray .int, 2)) (hz : 0 ≤ z ∧ z ≤ 1000) (ht : Nat.blt t 129 = true) (hs : dSh t = (1, z.toNat)) (hf : m (t : Int) = zf) (hn : pc + 2 = n) (h : V d μ (n, (ls, (.inr (.inr (t : Int)) :: st, (m, (some (t + 1), ([], L)))))) Q) : V d μ (pc, (ls, (.inl z :: st, (m, (some t, ([], L)))))) Q := by
  subst hn
  refine V_dec hb hd ?_
  rw [sI_newarray, SP_gd, i1_s, SP_gd]
  refine ⟨rfl, ⟨hz.1, hz.2, by decide⟩, ?_⟩
  show SP (gd (t < NB ∧ dSh t = (1, z.toNat)) _) _ _ _
  rw [SP_gd]
  refine ⟨⟨Nat.le_of_ble_eq_true ht, hs⟩, ?_⟩
  rw [← clr_z hf] at h
  exact h
theorem b_new_boolean {d μ pc n : Nat} {B : ByteArray} {ls : PL} {st : List PV} {m : PM} {t L : Nat} {Q : Option PV → PS → Prop} {z : Int} (hb : mB μ = B) (hd : ClassFile.decode B pc = .ok (.newarray .boolean, 2)) (hz : 0 ≤ z ∧ z ≤ 1000) (ht : Nat.blt t 129 = true) (hs : dSh t = (2, z.toNat)) (hf : m (t : Int) = zf) (hn : pc + 2 = n) (h : V d μ (n, (ls, (.inr (.inr (t : Int)) :: st, (m, (some (t + 1), ([], L)))))) Q) : V d μ (pc, (ls, (.inl z :: st, (m, (some t, ([], L)))))) Q := by
  subst hn
  refine V_dec hb hd ?_
  rw [sI_newarray, SP_gd, i1_s, SP_gd]
  refine ⟨rfl, ⟨hz.1, hz.2, by decide⟩, ?_⟩
  show SP (gd (t < NB ∧ dSh t = (2, z.toNat)) _) _ _ _
  rw [SP_gd]
  refine ⟨⟨Nat.le_of_ble_eq_true ht, hs⟩, ?_⟩
  rw [← clr_z hf] at h
  exact h
theorem b_new_long {d μ pc n : Nat} {B : ByteArray} {ls : PL} {st : List PV} {m : PM} {t L : Nat} {Q : Option PV → PS → Prop} {z : Int} (hb : mB μ = B) (hd : ClassFile.decode B pc = .ok (.newarray .long, 2)) (hz : 0 ≤ z ∧ z ≤ 1000) (ht : Nat.blt t 129 = true) (hs : dSh t = (3, z.toNat)) (hf : m (t : Int) = zf) (hn : pc + 2 = n) (h : V d μ (n, (ls, (.inr (.inr (t : Int)) :: st, (m, (some (t + 1), ([], L)))))) Q) : V d μ (pc, (ls, (.inl z :: st, (m, (some t, ([], L)))))) Q := by
  subst hn
  refine V_dec hb hd ?_
  rw [sI_newarray, SP_gd, i1_s, SP_gd]
  refine ⟨rfl, ⟨hz.1, hz.2, by decide⟩, ?_⟩
  show SP (gd (t < NB ∧ dSh t = (3, z.toNat)) _) _ _ _
  rw [SP_gd]
  refine ⟨⟨Nat.le_of_ble_eq_true ht, hs⟩, ?_⟩
  rw [← clr_z hf] at h
  exact h
theorem b_anew {d μ pc n : Nat} {B : ByteArray} {ls : PL} {st : List PV} {m : PM} {t L : Nat} {Q : Option PV → PS → Prop} {idx ow tt : Nat} {z : Int} (hb : mB μ = B) (hd : ClassFile.decode B pc = .ok (.anewarray idx, 3)) (ho : mO μ = ow) (hi : anc ow idx = some tt) (htt : 4 ≤ tt ∧ tt ≤ 6) (hz : 0 ≤ z ∧ z ≤ 1000) (ht : Nat.blt t 129 = true) (hs : dSh t = (tt, z.toNat)) (hn : pc + 3 = n) (h : V d μ (n, (ls, (.inr (.inr (t : Int)) :: st, (setA m (t : Int) nf, (some (t + 1), ([], L)))))) Q) : V d μ (pc, (ls, (.inl z :: st, (m, (some t, ([], L)))))) Q := by
  subst hn
  refine V_dec hb hd ?_
  rw [sI_anewarray, SP_gd, i1_s, ho, hi]
  refine ⟨rfl, ?_⟩
  show SP (gd (0 ≤ z ∧ z ≤ 1000 ∧ 4 ≤ tt ∧ tt ≤ 6 ∧ (some t : Option Nat) ≠ none) _) _ _ _
  rw [SP_gd]
  refine ⟨⟨hz.1, hz.2, htt.1, htt.2, by intro e; cases e⟩, ?_⟩
  show SP (gd (t < NB ∧ dSh t = (tt, z.toNat)) _) _ _ _
  rw [SP_gd]
  refine ⟨⟨Nat.le_of_ble_eq_true ht, hs⟩, ?_⟩
  rw [← clN_sA] at h
  exact h
theorem b_pf0 {d μ pc n : Nat} {B : ByteArray} {ls : PL} {st : List PV} {m : PM} {t L : Nat} {Q : Option PV → PS → Prop} {idx ow ci k : Nat} {o z kz : Int} (hb : mB μ = B) (hd : ClassFile.decode B pc = .ok (.putfield idx, 3)) (ho : mO μ = ow) (hf : fld ow idx = some (ci, k)) (hg : ftg ci k = 0) (hfin : ffn ci k = false ∨ (mI μ = true ∧ mO μ = ci)) (hs : shp (m, (some t, ([], L))) o = (0, ci)) (h0 : 0 ≤ o) (hk : (k : Int) = kz) (hn : pc + 3 = n) (h : V d μ (n, (ls, (st, (setA m o (ud (m o) kz z), (some t, ([], L)))))) Q) : V d μ (pc, (ls, (.inl z :: .inr (.inr o) :: st, (m, (some t, ([], L)))))) Q := by
  subst hn
  refine V_dec hb hd ?_
  subst hk
  rw [sI_putfield, SP_gd, vr_s, ho, hf]
  refine ⟨rfl, ?_⟩
  show SP (gd (0 ≤ o ∧ shp (m, (some t, ([], L))) o = (0, ci) ∧ (ffn ci k = false ∨ (mI μ = true ∧ ow = ci))) (putv (m, (some t, ([], L))) o k (.inl z) (fun σ' => nx (pc + 3) ls st σ') (ftg ci k))) _ _ _
  rw [SP_gd, hg, put_0]
  rw [ho] at hfin
  rw [← up_ud] at h
  exact ⟨⟨h0, hs, hfin⟩, h⟩
theorem b_pf3 {d μ pc n : Nat} {B : ByteArray} {ls : PL} {st : List PV} {m : PM} {t L : Nat} {Q : Option PV → PS → Prop} {idx ow ci k : Nat} {o z kz : Int} (hb : mB μ = B) (hd : ClassFile.decode B pc = .ok (.putfield idx, 3)) (ho : mO μ = ow) (hf : fld ow idx = some (ci, k)) (hg : ftg ci k = 3) (hfin : ffn ci k = false ∨ (mI μ = true ∧ mO μ = ci)) (hs : shp (m, (some t, ([], L))) o = (0, ci)) (h0 : 0 ≤ o) (hk : (k : Int) = kz) (h01 : z = 0 ∨ z = 1) (hn : pc + 3 = n) (h : V d μ (n, (ls, (st, (setA m o (ud (m o) kz z), (some t, ([], L)))))) Q) : V d μ (pc, (ls, (.inl z :: .inr (.inr o) :: st, (m, (some t, ([], L)))))) Q := by
  subst hn
  refine V_dec hb hd ?_
  subst hk
  rw [sI_putfield, SP_gd, vr_s, ho, hf]
  refine ⟨rfl, ?_⟩
  show SP (gd (0 ≤ o ∧ shp (m, (some t, ([], L))) o = (0, ci) ∧ (ffn ci k = false ∨ (mI μ = true ∧ ow = ci))) (putv (m, (some t, ([], L))) o k (.inl z) (fun σ' => nx (pc + 3) ls st σ') (ftg ci k))) _ _ _
  rw [SP_gd, hg, put_3, SP_gd]
  rw [ho] at hfin
  rw [← up_ud] at h
  exact ⟨⟨h0, hs, hfin⟩, h01, h⟩
theorem b_pf2 {d μ pc n : Nat} {B : ByteArray} {ls : PL} {st : List PV} {m : PM} {t L : Nat} {Q : Option PV → PS → Prop} {idx ow ci k : Nat} {o z kz : Int} (hb : mB μ = B) (hd : ClassFile.decode B pc = .ok (.putfield idx, 3)) (ho : mO μ = ow) (hf : fld ow idx = some (ci, k)) (hg : ftg ci k = 2) (hfin : ffn ci k = false ∨ (mI μ = true ∧ mO μ = ci)) (hs : shp (m, (some t, ([], L))) o = (0, ci)) (h0 : 0 ≤ o) (hk : (k : Int) = kz) (hz0 : -1 ≤ z) (hn : pc + 3 = n) (h : V d μ (n, (ls, (st, (setA m o (ud (m o) kz z), (some t, ([], L)))))) Q) : V d μ (pc, (ls, (.inr (.inr z) :: .inr (.inr o) :: st, (m, (some t, ([], L)))))) Q := by
  subst hn
  refine V_dec hb hd ?_
  subst hk
  rw [sI_putfield, SP_gd, vr_s, ho, hf]
  refine ⟨rfl, ?_⟩
  show SP (gd (0 ≤ o ∧ shp (m, (some t, ([], L))) o = (0, ci) ∧ (ffn ci k = false ∨ (mI μ = true ∧ ow = ci))) (putv (m, (some t, ([], L))) o k (.inr (.inr z)) (fun σ' => nx (pc + 3) ls st σ') (ftg ci k))) _ _ _
  rw [SP_gd, hg, put_2, SP_gd]
  rw [ho] at hfin
  rw [← up_ud] at h
  exact ⟨⟨h0, hs, hfin⟩, ⟨hz0, fun e => by cases e⟩, h⟩
theorem b_gf {d μ pc n : Nat} {B : ByteArray} {ls : PL} {st : List PV} {m : PM} {t L : Nat} {Q : Option PV → PS → Prop} {idx ow ci k : Nat} {o kz : Int} (hb : mB μ = B) (hd : ClassFile.decode B pc = .ok (.getfield idx, 3)) (ho : mO μ = ow) (hf : fld ow idx = some (ci, k)) (hg : ftg ci k = 2) (hs : shp (m, (some t, ([], L))) o = (0, ci)) (hk : (k : Int) = kz) (hn : pc + 3 = n) (h : V d μ (n, (ls, (.inr (.inr (m o kz)) :: st, (m, (some t, ([], L)))))) Q) : V d μ (pc, (ls, (.inr (.inr o) :: st, (m, (some t, ([], L)))))) Q := by
  subst hn
  refine V_dec hb hd ?_
  subst hk
  rw [sI_getfield, SP_gd, r1_s, ho, hf]
  refine ⟨rfl, ?_⟩
  show SP (gd _ _) _ _ _
  rw [SP_gd, fvl_s, if_pos hg]
  exact ⟨hs, h⟩
theorem b_iast {d μ pc n : Nat} {B : ByteArray} {ls : PL} {st : List PV} {m : PM} {t L : Nat} {Q : Option PV → PS → Prop} {len : Nat} {a i z lz : Int} (hb : mB μ = B) (hd : ClassFile.decode B pc = .ok (.iastore, 1)) (hs : shp (m, (some t, ([], L))) a = (1, len)) (h0 : 0 ≤ a) (hL : (len : Int) = lz) (hi : 0 ≤ i ∧ i < lz) (hn : pc + 1 = n) (h : V d μ (n, (ls, (st, (setA m a (ud (m a) i z), (some t, ([], L)))))) Q) : V d μ (pc, (ls, (.inl z :: .inl i :: .inr (.inr a) :: st, (m, (some t, ([], L)))))) Q := by
  subst hn
  refine V_dec hb hd ?_
  subst hL
  rw [sI_iastore, SP_gd, vir_s]
  refine ⟨rfl, ?_⟩
  show SP (gd (0 ≤ a ∧ (shp (m, (some t, ([], L))) a).1 = 1 ∧ 0 ≤ i ∧ i < ((shp (m, (some t, ([], L))) a).2 : Int)) (nx (pc + 1) ls st (up m a i z, (some t, ([], L))))) _ _ _
  rw [SP_gd, hs]
  rw [← up_ud] at h
  exact ⟨⟨h0, rfl, hi⟩, h⟩
theorem b_aast {d μ pc n : Nat} {B : ByteArray} {ls : PL} {st : List PV} {m : PM} {t L : Nat} {Q : Option PV → PS → Prop} {len tt : Nat} {a i z lz : Int} (hb : mB μ = B) (hd : ClassFile.decode B pc = .ok (.aastore, 1)) (hs : shp (m, (some t, ([], L))) a = (tt, len)) (htt : 4 ≤ tt ∧ tt ≤ 6) (h0 : 0 ≤ a) (hL : (len : Int) = lz) (hi : 0 ≤ i ∧ i < lz) (hz : 0 ≤ z) (hsz : shp (m, (some t, ([], L))) z = (0, ecl tt)) (hn : pc + 1 = n) (h : V d μ (n, (ls, (st, (setA m a (ud (m a) i z), (some t, ([], L)))))) Q) : V d μ (pc, (ls, (.inr (.inr z) :: .inl i :: .inr (.inr a) :: st, (m, (some t, ([], L)))))) Q := by
  subst hn
  refine V_dec hb hd ?_
  subst hL
  rw [sI_aastore, SP_gd, vir_s]
  refine ⟨rfl, ?_⟩
  show SP (gd (0 ≤ a ∧ 4 ≤ (shp (m, (some t, ([], L))) a).1 ∧ (shp (m, (some t, ([], L))) a).1 ≤ 6 ∧ 0 ≤ i ∧ i < ((shp (m, (some t, ([], L))) a).2 : Int) ∧ 0 ≤ z ∧ shp (m, (some t, ([], L))) z = (0, ecl (shp (m, (some t, ([], L))) a).1) ∧ ((some t : Option Nat) = none → stat a i = none)) (nx (pc + 1) ls st (up m a i z, (some t, ([], L))))) _ _ _
  rw [SP_gd, hs]
  rw [← up_ud] at h
  exact ⟨⟨h0, htt.1, htt.2, hi.1, hi.2, hz, hsz, fun e => by cases e⟩, h⟩
