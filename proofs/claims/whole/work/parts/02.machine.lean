/-! A PURE MACHINE: values are whole numbers (ints, longs, references by the number of the cell), memory a function; one step, a frame's run, calls by depth. -/
abbrev PV : Type := Int ⊕ (Int ⊕ Int)
abbrev PM : Type := Int → Int → Int
abbrev PS : Type := PM × (Option Nat × (List (Nat × Nat) × Nat))
abbrev PL : Type := List (Option PV)
abbrev Cf : Type := Nat × (PL × (List PV × PS))
abbrev PO : Type := Cf ⊕ (Option PV ⊕ (Nat × (List PV × Cf)))
def wr32 (z : Int) : Int := (z + 2147483648) % 4294967296 - 2147483648
def wr64 (z : Int) : Int := (z + 9223372036854775808) % 18446744073709551616 - 9223372036854775808
def wr8 (z : Int) : Int := (z + 128) % 256 - 128
def wr16 (z : Int) : Int := (z + 32768) % 65536 - 32768
def iAnd (a b : Int) : Int := (Int32.ofInt a &&& Int32.ofInt b).toInt
def iOr (a b : Int) : Int := (Int32.ofInt a ||| Int32.ofInt b).toInt
def iXor (a b : Int) : Int := (Int32.ofInt a ^^^ Int32.ofInt b).toInt
def lAnd (a b : Int) : Int := (Int64.ofInt a &&& Int64.ofInt b).toInt
def lOr (a b : Int) : Int := (Int64.ofInt a ||| Int64.ofInt b).toInt
def lShl (a b : Int) : Int := (Int64.ofInt a <<< ((Int32.ofInt b).toInt64 &&& 63)).toInt
def lCmp (a b : Int) : Int := if a < b then -1 else if a = b then 0 else 1
def up (m : PM) (a k z : Int) : PM := fun a' k' => if a' = a ∧ k' = k then z else m a' k'
def cpy (m : PM) (a sp b dp n : Int) : PM := fun a' k' => if a' = b ∧ dp ≤ k' ∧ k' < dp + n then m a (sp + (k' - dp)) else m a' k'
def setA (m : PM) (a : Int) (f : Int → Int) : PM := fun a' k' => if a' = a then f k' else m a' k'
-- tables
def NB : Nat := 129
def fld (own idx : Nat) : Option (Nat × Nat) := (q_fl.find? (fun e => e.1 == own && e.2.1 == idx)).map (fun e => (e.2.2.1, e.2.2.2.1))
def inv (own idx : Nat) : Option (Nat × (Nat × (Nat × (Nat × Nat)))) := (q_iv.find? (fun e => e.1 == own && e.2.1 == idx)).map (fun e => (e.2.2.1, (e.2.2.2.1, (e.2.2.2.2.1, (e.2.2.2.2.2.1, e.2.2.2.2.2.2.1)))))
def spc (own idx : Nat) : Nat := match q_sp.find? (fun e => e.1 == own && e.2.1 == idx) with | some e => e.2.2.1 | none => 0
def nwc (own idx : Nat) : Option Nat := (q_nw.find? (fun e => e.1 == own && e.2.1 == idx)).map (fun e => e.2.2.1)
def anc (own idx : Nat) : Option Nat := (q_an.find? (fun e => e.1 == own && e.2.1 == idx)).map (fun e => e.2.2.1)
def lct (own idx : Nat) : Option (Nat × Int) := (q_lc.find? (fun e => e.1 == own && e.2.1 == idx)).map (fun e => (e.2.2.1, e.2.2.2.1))
def l2t (own idx : Nat) : Option Int := (q_l2.find? (fun e => e.1 == own && e.2.1 == idx)).map (fun e => e.2.2.1)
def gst (own idx : Nat) : Option Nat := (q_gs.find? (fun e => e.1 == own && e.2.1 == idx)).map (fun e => e.2.2.1)
def sfl (own idx : Nat) : Option Nat := (q_sf.find? (fun e => e.1 == own && e.2.1 == idx)).map (fun e => e.2.2.1)
def dSh (i : Nat) : Nat × Nat := q_bs.getD i (99, 0)
def stat (o k : Int) : Option Int := (q_st.find? (fun e => e.1 == o && e.2.1 == k)).map (fun e => e.2.2)
def ftg (c k : Nat) : Nat := (q_ft.getD c []).getD k 9
def ffn (c k : Nat) : Bool := (q_fn.getD c []).getD k true
def nfT (c : Nat) : Nat := (q_ft.getD c []).length
def cSh (L : Nat) (i : Int) : Nat × Nat := if i = -2 then (1, 7) else if i = -3 then (1, L) else if i = -20 then (7, 16) else if i = -21 then (7, 6) else if i = -22 then (7, 3) else if i = -10 ∨ i = -11 ∨ i = -12 then (8, 0) else (99, 0)
def shp (σ : PS) (i : Int) : Nat × Nat :=
  if i < 0 then cSh σ.2.2.2 i
  else if i < 129 then (match σ.2.1 with
    | none => dSh i.toNat
    | some n => if i < (n : Int) then dSh i.toNat else (99, 0))
  else (match σ.2.1 with
    | none => σ.2.2.1.getD (i.toNat - NB) (99, 0)
    | some _ => (99, 0))
def tot (σ : PS) : Nat := match σ.2.1 with
  | none => NB + σ.2.2.1.length
  | some n => n
def rf (σ : PS) (o k : Int) : Int := match σ.2.1 with
  | none => (stat o k).getD (σ.1 o k)
  | some _ => σ.1 o k
def ptag : PV → Nat
  | .inl _ => 0
  | .inr (.inl _) => 1
  | .inr (.inr _) => 2
def pcat : List PV → Nat
  | [] => 0
  | .inr (.inl _) :: r => 2 + pcat r
  | .inl _ :: r => 1 + pcat r
  | .inr (.inr _) :: r => 1 + pcat r
def eL : List PV → Nat → PL
  | [], n => List.replicate n none
  | .inr (.inl z) :: vs, n => some (.inr (.inl z)) :: none :: eL vs (n - 2)
  | .inl z :: vs, n => some (.inl z) :: eL vs (n - 1)
  | .inr (.inr z) :: vs, n => some (.inr (.inr z)) :: eL vs (n - 1)
def psh : Option PV → List PV → List PV
  | none, st => st
  | some v, st => v :: st
def pop : Nat → List PV → List PV → Option (List PV × List PV)
  | 0, acc, st => some (acc, st)
  | _ + 1, _, [] => none
  | n + 1, acc, v :: st => pop n (v :: acc) st
def gd (c : Prop) [Decidable c] (x : Option PO) : Option PO := if c then x else none
def nx (pc : Nat) (ls : PL) (st : List PV) (σ : PS) : Option PO := some (.inl (pc, (ls, (st, σ))))
def ldx (t : Nat) (o : Option (Option PV)) (f : PV → Option PO) : Option PO := match o with
  | some (some v) => gd (ptag v = t) (f v)
  | _ => none
def pok (ls : PL) : Nat → Bool
  | 0 => true
  | j + 1 => match ls[j]? with
    | some (some (.inr (.inl _))) => false
    | _ => true
def stx (t k len pc : Nat) (ls : PL) (st : List PV) (σ : PS) : Option PO := match st with
  | v :: r => gd (ptag v = t ∧ k < ls.length ∧ pok ls k = true) (nx (pc + len) (ls.set k (some v)) r σ)
  | [] => none
def i1 (st : List PV) (g : List PV → Int → Option PO) : Option PO := match st with
  | .inl x :: r => g r x
  | _ => none
def i2 (st : List PV) (g : List PV → Int → Int → Option PO) : Option PO := match st with
  | .inl y :: .inl x :: r => g r x y
  | _ => none
def l1 (st : List PV) (g : List PV → Int → Option PO) : Option PO := match st with
  | .inr (.inl x) :: r => g r x
  | _ => none
def l2 (st : List PV) (g : List PV → Int → Int → Option PO) : Option PO := match st with
  | .inr (.inl y) :: .inr (.inl x) :: r => g r x y
  | _ => none
def r1 (st : List PV) (g : List PV → Int → Option PO) : Option PO := match st with
  | .inr (.inr x) :: r => g r x
  | _ => none
def vr (st : List PV) (g : List PV → PV → Int → Option PO) : Option PO := match st with
  | v :: .inr (.inr o) :: r => g r v o
  | _ => none
def ir (st : List PV) (g : List PV → Int → Int → Option PO) : Option PO := match st with
  | .inl i :: .inr (.inr a) :: r => g r a i
  | _ => none
def vir (st : List PV) (g : List PV → PV → Int → Int → Option PO) : Option PO := match st with
  | v :: .inl i :: .inr (.inr a) :: r => g r v a i
  | _ => none
def jmp (pc : Nat) (off : Int) (ls : PL) (st : List PV) (σ : PS) : Option PO := gd (0 ≤ (pc : Int) + off) (nx ((pc : Int) + off).toNat ls st σ)
def tsw (x : Int) (f : Int → Option PO) (d : Option PO) : Int → List Int → Option PO
  | _, [] => d
  | lo, o :: os => if x = lo then f o else tsw x f d (lo + 1) os
def lsw (x : Int) (f : Int → Option PO) (d : Option PO) : List (Int × Int) → Option PO
  | [] => d
  | q :: os => if x = q.1 then f q.2 else lsw x f d os
def fvl (σ : PS) (o : Int) (ci k : Nat) : PV := if ftg ci k = 2 then .inr (.inr (rf σ o k)) else .inl (σ.1 o k)
def aTy : ClassFile.ArrayType → Nat
  | .int => 1
  | .boolean => 2
  | .long => 3
  | _ => 0
def clr (m : PM) (id : Int) : PM := fun a k => if a = id then 0 else m a k
def clN (m : PM) (id : Int) : PM := fun a k => if a = id then -1 else m a k
def clO (m : PM) (id : Int) (ci : Nat) : PM := fun a k => if a = id then (if 0 ≤ k ∧ ftg ci k.toNat = 2 then -1 else 0) else m a k
/-- a new cell of a shape: where it comes, if it may -/
def alc (σ : PS) (sh : Nat × Nat) (f : Int → PS → Option PO) (cl : PM → Int → PM) : Option PO := match σ.2.1 with
  | some t => gd (t < NB ∧ dSh t = sh) (f t (cl σ.1 t, (some (t + 1), σ.2.2)))
  | none => f (NB + σ.2.2.1.length : Nat) (cl σ.1 (NB + σ.2.2.1.length : Nat), (none, (σ.2.2.1 ++ [sh], σ.2.2.2)))
def rok : Nat → Int → Bool
  | 0, _ => true
  | 1, z => decide (z = 0 ∨ z = 1)
  | 2, z => decide (-128 ≤ z ∧ z < 128)
  | 3, z => decide (0 ≤ z ∧ z < 65536)
  | _, _ => false
def putv (σ : PS) (o : Int) (k : Nat) (v : PV) (g : PS → Option PO) : Nat → Option PO
  | 0 => match v with
    | .inl z => g (up σ.1 o k z, σ.2)
    | _ => none
  | 3 => match v with
    | .inl z => gd (z = 0 ∨ z = 1) (g (up σ.1 o k z, σ.2))
    | _ => none
  | 2 => match v with
    | .inr (.inr z) => gd (-1 ≤ z ∧ (σ.2.1 = none → stat o k = none)) (g (up σ.1 o k z, σ.2))
    | _ => none
  | _ => none
def ecl : Nat → Nat
  | 4 => 9
  | 5 => 8
  | 6 => 2
  | _ => 99
/-- the call itself -/
def cal (μ' na cls ml pc : Nat) (ls : PL) (st : List PV) (σ : PS) : Nat → Option PO
  | 0 => match pop na [] st with
    | some (as, .inr (.inr o) :: r) => gd ((shp σ o = (0, cls) ∨ ((o = -10 ∨ o = -11 ∨ o = -12) ∧ cls = 12)) ∧ pcat r ≤ 8 ∧ 1 + pcat as ≤ ml) (some (.inr (.inr (μ', (.inr (.inr o) :: as, (pc + 3, (ls, (r, σ))))))))
    | _ => none
  | 1 => match pop na [] st with
    | some (as, r) => gd (pcat r ≤ 8 ∧ pcat as ≤ ml) (some (.inr (.inr (μ', (as, (pc + 3, (ls, (r, σ))))))))
    | _ => none
  | 2 => match pop na [] st with
    | some (as, .inr (.inr o) :: r) => gd (shp σ o = (0, cls) ∧ pcat r ≤ 8 ∧ 1 + pcat as ≤ ml) (some (.inr (.inr (μ', (.inr (.inr o) :: as, (pc + 3, (ls, (r, σ))))))))
    | _ => none
  | 3 => match pop na [] st with
    | some (as, .inr (.inr o) :: r) => gd (shp σ o = (0, cls) ∧ pcat r ≤ 8 ∧ 1 + pcat as ≤ ml) (some (.inr (.inr (μ', (.inr (.inr o) :: as, (pc + 3, (ls, (r, σ))))))))
    | _ => none
  | _ => none
def acp (pc : Nat) (ls : PL) (st : List PV) (σ : PS) : Option PO := match st with
  | .inl n :: .inl dp :: .inr (.inr b) :: .inl sp :: .inr (.inr a) :: r =>
    gd (0 ≤ sp ∧ 0 ≤ dp ∧ 0 ≤ n ∧ 0 ≤ a ∧ 0 ≤ b ∧ ((shp σ a).1 = 1 ∨ (shp σ a).1 = 3) ∧ (shp σ b).1 = (shp σ a).1 ∧ sp + n ≤ (shp σ a).2 ∧ dp + n ≤ (shp σ b).2 ∧ pcat r ≤ 8) (nx (pc + 3) ls r (cpy σ.1 a sp b dp n, σ.2))
  | _ => none
def icc (c : ClassFile.Cond) (x y : Int) : Bool := match c with
  | .eq => decide (x = y)
  | .ne => decide (¬ x = y)
  | .lt => decide (x < y)
  | .ge => decide (y ≤ x)
  | .gt => decide (y < x)
  | .le => decide (x ≤ y)
def stepI (μ : Nat) (i : ClassFile.Instr) (len pc : Nat) (ls : PL) (st : List PV) (σ : PS) : Option PO := match i with
  | .aload_n k => gd (len = 1) (ldx 2 ls[k.val]? (fun v => nx (pc + 1) ls (v :: st) σ))
  | .iload_n k => gd (len = 1) (ldx 0 ls[k.val]? (fun v => nx (pc + 1) ls (v :: st) σ))
  | .lload_n k => gd (len = 1) (ldx 1 ls[k.val]? (fun v => nx (pc + 1) ls (v :: st) σ))
  | .aload k => gd (len = 2) (ldx 2 ls[k]? (fun v => nx (pc + 2) ls (v :: st) σ))
  | .iload k => gd (len = 2) (ldx 0 ls[k]? (fun v => nx (pc + 2) ls (v :: st) σ))
  | .iconst z => gd (len = 1 ∧ -1 ≤ z ∧ z ≤ 5) (nx (pc + 1) ls (.inl z :: st) σ)
  | .lconst z => gd (len = 1) (nx (pc + 1) ls (.inr (.inl z.val) :: st) σ)
  | .bipush z => gd (len = 2 ∧ -128 ≤ z ∧ z < 128) (nx (pc + 2) ls (.inl z :: st) σ)
  | .sipush z => gd (len = 3 ∧ -32768 ≤ z ∧ z < 32768) (nx (pc + 3) ls (.inl z :: st) σ)
  | .ldc idx => gd (len = 2) (match lct (mO μ) idx with
    | some (0, z) => nx (pc + 2) ls (.inl z :: st) σ
    | some (1, z) => nx (pc + 2) ls (.inr (.inr z) :: st) σ
    | _ => none)
  | .ldc2_w idx => gd (len = 3) (match l2t (mO μ) idx with
    | some z => nx (pc + 3) ls (.inr (.inl z) :: st) σ
    | _ => none)
  | .istore_n k => gd (len = 1) (stx 0 k.val 1 pc ls st σ)
  | .astore_n k => gd (len = 1) (stx 2 k.val 1 pc ls st σ)
  | .istore k => gd (len = 2) (stx 0 k 2 pc ls st σ)
  | .astore k => gd (len = 2) (stx 2 k 2 pc ls st σ)
  | .iinc k z => gd (len = 3) (match ls[k]? with
    | some (some (.inl x)) => gd (pok ls k = true) (nx (pc + 3) (ls.set k (some (.inl (wr32 (x + z))))) st σ)
    | _ => none)
  | .iadd => gd (len = 1) (i2 st fun r x y => nx (pc + 1) ls (.inl (wr32 (x + y)) :: r) σ)
  | .isub => gd (len = 1) (i2 st fun r x y => nx (pc + 1) ls (.inl (wr32 (x - y)) :: r) σ)
  | .imul => gd (len = 1) (i2 st fun r x y => nx (pc + 1) ls (.inl (wr32 (x * y)) :: r) σ)
  | .idiv => gd (len = 1) (i2 st fun r x y => gd (0 ≤ x ∧ 0 < y) (nx (pc + 1) ls (.inl (x / y) :: r) σ))
  | .irem => gd (len = 1) (i2 st fun r x y => gd (0 ≤ x ∧ 0 < y) (nx (pc + 1) ls (.inl (x % y) :: r) σ))
  | .ineg => gd (len = 1) (i1 st fun r x => nx (pc + 1) ls (.inl (wr32 (-x)) :: r) σ)
  | .iand => gd (len = 1) (i2 st fun r x y => nx (pc + 1) ls (.inl (iAnd x y) :: r) σ)
  | .ior => gd (len = 1) (i2 st fun r x y => nx (pc + 1) ls (.inl (iOr x y) :: r) σ)
  | .ixor => gd (len = 1) (i2 st fun r x y => nx (pc + 1) ls (.inl (iXor x y) :: r) σ)
  | .ishl => gd (len = 1) (i2 st fun r x y => gd (0 ≤ x ∧ 0 ≤ y ∧ y < 31 ∧ x * 2 ^ y.toNat < 2147483648) (nx (pc + 1) ls (.inl (x * 2 ^ y.toNat) :: r) σ))
  | .ishr => gd (len = 1) (i2 st fun r x y => gd (0 ≤ x ∧ 0 ≤ y ∧ y < 32) (nx (pc + 1) ls (.inl (x / 2 ^ y.toNat) :: r) σ))
  | .i2l => gd (len = 1) (i1 st fun r x => nx (pc + 1) ls (.inr (.inl x) :: r) σ)
  | .l2i => gd (len = 1) (l1 st fun r x => nx (pc + 1) ls (.inl (wr32 x) :: r) σ)
  | .i2b => gd (len = 1) (i1 st fun r x => nx (pc + 1) ls (.inl (wr8 x) :: r) σ)
  | .i2s => gd (len = 1) (i1 st fun r x => nx (pc + 1) ls (.inl (wr16 x) :: r) σ)
  | .i2c => gd (len = 1) (i1 st fun r x => nx (pc + 1) ls (.inl (x % 65536) :: r) σ)
  | .land => gd (len = 1) (l2 st fun r x y => nx (pc + 1) ls (.inr (.inl (lAnd x y)) :: r) σ)
  | .lor => gd (len = 1) (l2 st fun r x y => nx (pc + 1) ls (.inr (.inl (lOr x y)) :: r) σ)
  | .lshl => gd (len = 1) (match st with
    | .inl y :: .inr (.inl x) :: r => nx (pc + 1) ls (.inr (.inl (lShl x y)) :: r) σ
    | _ => none)
  | .lcmp => gd (len = 1) (l2 st fun r x y => nx (pc + 1) ls (.inl (lCmp x y) :: r) σ)
  | .dup => gd (len = 1) (match st with
    | v :: r => gd (ptag v ≠ 1) (nx (pc + 1) ls (v :: v :: r) σ)
    | _ => none)
  | .dup2 => gd (len = 1) (match st with
    | v :: w :: r => gd (ptag v ≠ 1 ∧ ptag w ≠ 1) (nx (pc + 1) ls (v :: w :: v :: w :: r) σ)
    | _ => none)
  | .pop => gd (len = 1) (match st with
    | v :: r => gd (ptag v ≠ 1) (nx (pc + 1) ls r σ)
    | _ => none)
  | .ifCond c off => gd (len = 3 ∧ 0 ≤ (pc : Int) + off) (i1 st fun r x => if icc c x 0 = true then nx ((pc : Int) + off).toNat ls r σ else nx (pc + 3) ls r σ)
  | .if_icmp c off => gd (len = 3 ∧ 0 ≤ (pc : Int) + off) (i2 st fun r x y => if icc c x y = true then nx ((pc : Int) + off).toNat ls r σ else nx (pc + 3) ls r σ)
  | .goto off => gd (len = 3) (jmp pc off ls st σ)
  | .tableswitch dflt lo hi offs => i1 st fun r x => gd (hi = lo + offs.toList.length - 1) (tsw x (fun off => jmp pc off ls r σ) (jmp pc dflt ls r σ) lo offs.toList)
  | .lookupswitch dflt ps => i1 st fun r x => gd ((ps.toList.zip (ps.toList.drop 1)).all (fun (a, next) => a.1 < next.1) = true) (lsw x (fun off => jmp pc off ls r σ) (jmp pc dflt ls r σ) ps.toList)
  | .getfield idx => gd (len = 3) (r1 st fun r o => match fld (mO μ) idx with
    | some (ci, k) => gd (shp σ o = (0, ci)) (nx (pc + 3) ls (fvl σ o ci k :: r) σ)
    | none => match sfl (mO μ) idx with
      | some 0 => gd (o = -10 ∨ o = -11 ∨ o = -12) (nx (pc + 3) ls (.inr (.inr (o - 10)) :: r) σ)
      | some 1 => gd (o = -10 ∨ o = -11 ∨ o = -12) (nx (pc + 3) ls (.inl 0 :: r) σ)
      | _ => none)
  | .putfield idx => gd (len = 3) (vr st fun r v o => match fld (mO μ) idx with
    | some (ci, k) => gd (0 ≤ o ∧ shp σ o = (0, ci) ∧ (ffn ci k = false ∨ (mI μ = true ∧ mO μ = ci))) (putv σ o k v (fun σ' => nx (pc + 3) ls r σ') (ftg ci k))
    | none => none)
  | .getstatic idx => gd (len = 3) (match gst (mO μ) idx with
    | some 0 => nx (pc + 3) ls (.inr (.inr (-2)) :: st) σ
    | some 1 => nx (pc + 3) ls (.inl 1 :: st) σ
    | some 2 => nx (pc + 3) ls (.inr (.inr (-4)) :: st) σ
    | _ => none)
  | .iaload => gd (len = 1) (ir st fun r a i => gd ((shp σ a).1 = 1 ∧ 0 ≤ i ∧ i < (shp σ a).2) (nx (pc + 1) ls (.inl (σ.1 a i) :: r) σ))
  | .baload => gd (len = 1) (ir st fun r a i => gd (((shp σ a).1 = 2 ∨ (shp σ a).1 = 7) ∧ 0 ≤ i ∧ i < (shp σ a).2) (nx (pc + 1) ls (.inl (σ.1 a i) :: r) σ))
  | .laload => gd (len = 1) (ir st fun r a i => gd ((shp σ a).1 = 3 ∧ 0 ≤ i ∧ i < (shp σ a).2) (nx (pc + 1) ls (.inr (.inl (σ.1 a i)) :: r) σ))
  | .aaload => gd (len = 1) (ir st fun r a i => gd (((shp σ a).1 = 4 ∨ (shp σ a).1 = 5 ∨ (shp σ a).1 = 6) ∧ 0 ≤ i ∧ i < (shp σ a).2) (nx (pc + 1) ls (.inr (.inr (rf σ a i)) :: r) σ))
  | .iastore => gd (len = 1) (vir st fun r v a i => match v with
    | .inl z => gd (0 ≤ a ∧ (shp σ a).1 = 1 ∧ 0 ≤ i ∧ i < (shp σ a).2) (nx (pc + 1) ls r (up σ.1 a i z, σ.2))
    | _ => none)
  | .bastore => gd (len = 1) (vir st fun r v a i => match v with
    | .inl z => gd (0 ≤ a ∧ (shp σ a).1 = 2 ∧ 0 ≤ i ∧ i < (shp σ a).2) (nx (pc + 1) ls r (up σ.1 a i (z % 2), σ.2))
    | _ => none)
  | .lastore => gd (len = 1) (vir st fun r v a i => match v with
    | .inr (.inl z) => gd (0 ≤ a ∧ (shp σ a).1 = 3 ∧ 0 ≤ i ∧ i < (shp σ a).2) (nx (pc + 1) ls r (up σ.1 a i z, σ.2))
    | _ => none)
  | .aastore => gd (len = 1) (vir st fun r v a i => match v with
    | .inr (.inr z) => gd (0 ≤ a ∧ 4 ≤ (shp σ a).1 ∧ (shp σ a).1 ≤ 6 ∧ 0 ≤ i ∧ i < (shp σ a).2 ∧ 0 ≤ z ∧ shp σ z = (0, ecl (shp σ a).1) ∧ (σ.2.1 = none → stat a i = none)) (nx (pc + 1) ls r (up σ.1 a i z, σ.2))
    | _ => none)
  | .arraylength => gd (len = 1) (r1 st fun r a => gd (1 ≤ (shp σ a).1 ∧ (shp σ a).1 ≤ 7) (nx (pc + 1) ls (.inl (shp σ a).2 :: r) σ))
  | .newarray ty => gd (len = 2) (i1 st fun r n => gd (0 ≤ n ∧ n ≤ 1000 ∧ 1 ≤ aTy ty) (alc σ (aTy ty, n.toNat) (fun id σ' => nx (pc + 2) ls (.inr (.inr id) :: r) σ') clr))
  | .anewarray idx => gd (len = 3) (i1 st fun r n => match anc (mO μ) idx with
    | some t => gd (0 ≤ n ∧ n ≤ 1000 ∧ 4 ≤ t ∧ t ≤ 6 ∧ σ.2.1 ≠ none) (alc σ (t, n.toNat) (fun id σ' => nx (pc + 3) ls (.inr (.inr id) :: r) σ') clN)
    | none => none)
  | .new idx => gd (len = 3) (match nwc (mO μ) idx with
    | some ci => gd (ci < 12) (alc σ (0, ci) (fun id σ' => nx (pc + 3) ls (.inr (.inr id) :: st) σ') (fun m id => clO m id ci))
    | none => none)
  | .invokevirtual idx => gd (len = 3) (match inv (mO μ) idx with
    | some (kd, μ', na, cls, ml) => gd (kd = 0) (cal μ' na cls ml pc ls st σ 0)
    | none => none)
  | .invokespecial idx => gd (len = 3) (if spc (mO μ) idx = 5 then r1 st fun r o => gd ((shp σ o).1 = 0 ∧ 0 ≤ o ∧ pcat r ≤ 8) (nx (pc + 3) ls r σ) else match inv (mO μ) idx with
    | some (kd, μ', na, cls, ml) => gd (kd = 2 ∨ kd = 3) (cal μ' na cls ml pc ls st σ kd)
    | none => none)
  | .invokestatic idx => gd (len = 3) (if spc (mO μ) idx = 6 then acp pc ls st σ
    else if spc (mO μ) idx = 7 then i2 st fun r x y => gd (pcat r ≤ 8) (nx (pc + 3) ls (.inl (if x < y then y else x) :: r) σ)
    else if spc (mO μ) idx = 8 then i2 st fun r x y => gd (pcat r ≤ 8) (nx (pc + 3) ls (.inl (if y < x then y else x) :: r) σ)
    else match inv (mO μ) idx with
    | some (kd, μ', na, cls, ml) => gd (kd = 1) (cal μ' na cls ml pc ls st σ 1)
    | none => none)
  | .ireturn => gd (len = 1) (match st with
    | [.inl z] => gd (rok (mK μ) z = true) (some (.inr (.inl (some (.inl z)))))
    | _ => none)
  | .lreturn => gd (len = 1) (match st with
    | [.inr (.inl z)] => gd (mK μ = 4) (some (.inr (.inl (some (.inr (.inl z))))))
    | _ => none)
  | .areturn => gd (len = 1) (match st with
    | [.inr (.inr z)] => gd (mK μ = 6 ∧ 0 ≤ z) (some (.inr (.inl (some (.inr (.inr z))))))
    | _ => none)
  | .return_ => gd (len = 1) (match st with
    | [] => gd (mK μ = 5) (some (.inr (.inl none)))
    | _ => none)
  | _ => none
def step (μ : Nat) (c : Cf) : Option PO := match ClassFile.decode (mB μ) c.1 with
  | .ok (i, len) => stepI μ i len c.1 c.2.1 c.2.2.1 c.2.2.2
  | .error _ => none
def run (cl : Nat → List PV → PS → Option (Option PV × PS)) (μ : Nat) : Nat → Cf → Option (Option PV × PS)
  | 0, _ => none
  | n + 1, c => match step μ c with
    | none => none
    | some (.inl c') => run cl μ n c'
    | some (.inr (.inl r)) => some (r, c.2.2.2)
    | some (.inr (.inr q)) => match cl q.1 q.2.1 q.2.2.2.2.2 with
      | some w => run cl μ n (q.2.2.1, (q.2.2.2.1, (psh w.1 q.2.2.2.2.1, w.2)))
      | none => none
def exM (N : Nat) : Nat → Nat → List PV → PS → Option (Option PV × PS)
  | 0 => fun _ _ _ => none
  | d + 1 => fun μ a σ => run (exM N d) μ N (0, (eL a (mL μ), ([], σ)))
def cle (f g : Nat → List PV → PS → Option (Option PV × PS)) : Prop := ∀ μ a σ w, f μ a σ = some w → g μ a σ = some w
theorem run_mono {f g : Nat → List PV → PS → Option (Option PV × PS)} (h : cle f g) (μ : Nat) : ∀ (n k : Nat) (c : Cf) (w : Option PV × PS), n ≤ k → run f μ n c = some w → run g μ k c = some w := by
  intro n
  induction n with
  | zero => intro k c w _ e; simp [run] at e
  | succ n ih =>
    intro k c w hk e
    obtain ⟨k, rfl⟩ : ∃ j, k = j + 1 := ⟨k - 1, by omega⟩
    simp only [run] at e ⊢
    cases hs : step μ c with
    | none => rw [hs] at e; cases e
    | some o =>
      rw [hs] at e
      cases o with
      | inl c' => exact ih k c' w (by omega) e
      | inr o =>
        cases o with
        | inl r => exact e
        | inr q =>
          dsimp only at e ⊢
          cases hc : f q.1 q.2.1 q.2.2.2.2.2 with
          | none => rw [hc] at e; cases e
          | some u =>
            rw [hc] at e
            rw [h _ _ _ _ hc]
            exact ih k _ w (by omega) e
theorem exM_mono : ∀ (d N N' : Nat), N ≤ N' → cle (exM N d) (exM N' d) := by
  intro d
  induction d with
  | zero => intro N N' _ μ a σ w e; simp [exM] at e
  | succ d ih =>
    intro N N' hN μ a σ w e
    exact run_mono (ih N N' hN) μ N N' _ w hN e
theorem exM_deep : ∀ (d d' N : Nat), d ≤ d' → cle (exM N d) (exM N d') := by
  intro d
  induction d with
  | zero => intro d' N _ μ a σ w e; simp [exM] at e
  | succ d ih =>
    intro d' N hd μ a σ w e
    obtain ⟨d', rfl⟩ : ∃ j, d' = j + 1 := ⟨d' - 1, by omega⟩
    exact run_mono (ih d' N (by omega)) μ N N _ w (Nat.le_refl N) e
/-- from here the frame comes to its end with Q -/
def V (d μ : Nat) (c : Cf) (Q : Option PV → PS → Prop) : Prop := ∃ (N : Nat) (r : Option PV) (σ' : PS), run (exM N d) μ N c = some (r, σ') ∧ Q r σ'
/-- a call comes to its end with Q -/
def C (d μ : Nat) (a : List PV) (σ : PS) (Q : Option PV → PS → Prop) : Prop := ∃ (N : Nat) (r : Option PV) (σ' : PS), exM N d μ a σ = some (r, σ') ∧ Q r σ'
theorem C_succ (d μ : Nat) (a : List PV) (σ : PS) (Q : Option PV → PS → Prop) : C (d + 1) μ a σ Q = V d μ (0, (eL a (mL μ), ([], σ))) Q := rfl
theorem C_mono {d μ : Nat} {a : List PV} {σ : PS} {Q Q' : Option PV → PS → Prop} (h : C d μ a σ Q) (hQ : ∀ r σ', Q r σ' → Q' r σ') : C d μ a σ Q' := by
  obtain ⟨N, r, σ', e, q⟩ := h
  exact ⟨N, r, σ', e, hQ _ _ q⟩
theorem V_mono {d μ : Nat} {c : Cf} {Q Q' : Option PV → PS → Prop} (h : V d μ c Q) (hQ : ∀ r σ', Q r σ' → Q' r σ') : V d μ c Q' := by
  obtain ⟨N, r, σ', e, q⟩ := h
  exact ⟨N, r, σ', e, hQ _ _ q⟩
theorem C_deep {d d' μ : Nat} {a : List PV} {σ : PS} {Q : Option PV → PS → Prop} (hd : d ≤ d') (h : C d μ a σ Q) : C d' μ a σ Q := by
  obtain ⟨N, r, σ', e, q⟩ := h
  exact ⟨N, r, σ', exM_deep d d' N hd _ _ _ _ e, q⟩
/-- the answer is one: where it is known for one Q, it is for all -/
theorem C_of {d μ : Nat} {a : List PV} {σ : PS} {r : Option PV} {σ' : PS} (h : ∀ Q : Option PV → PS → Prop, Q r σ' → C d μ a σ Q) (Q : Option PV → PS → Prop) : C d μ a σ Q = Q r σ' := by
  apply propext
  constructor
  · intro hq
    obtain ⟨N, r1, s1, e1, q1⟩ := hq
    obtain ⟨N2, r2, s2, e2, q2, q3⟩ := h (fun x y => x = r ∧ y = σ') ⟨rfl, rfl⟩
    have a1 := exM_mono d N (N + N2) (by omega) _ _ _ _ e1
    have a2 := exM_mono d N2 (N + N2) (by omega) _ _ _ _ e2
    rw [a1] at a2
    cases a2
    subst q2
    subst q3
    exact q1
  · exact h Q
def SP (o : Option PO) (K : Cf → Prop) (R : Option PV → Prop) (G : Nat → List PV → Cf → Prop) : Prop := match o with
  | none => False
  | some (.inl c) => K c
  | some (.inr (.inl r)) => R r
  | some (.inr (.inr q)) => G q.1 q.2.1 q.2.2
theorem SP_nx (pc : Nat) (ls : PL) (st : List PV) (σ : PS) (K : Cf → Prop) (R : Option PV → Prop) (G : Nat → List PV → Cf → Prop) : SP (nx pc ls st σ) K R G = K (pc, (ls, (st, σ))) := rfl
theorem SP_rt (r : Option PV) (K : Cf → Prop) (R : Option PV → Prop) (G : Nat → List PV → Cf → Prop) : SP (some (.inr (.inl r))) K R G = R r := rfl
theorem SP_cl (q : Nat × (List PV × Cf)) (K : Cf → Prop) (R : Option PV → Prop) (G : Nat → List PV → Cf → Prop) : SP (some (.inr (.inr q))) K R G = G q.1 q.2.1 q.2.2 := rfl
theorem SP_no (K : Cf → Prop) (R : Option PV → Prop) (G : Nat → List PV → Cf → Prop) : SP none K R G = False := rfl
theorem SP_gd (c : Prop) [Decidable c] (x : Option PO) (K : Cf → Prop) (R : Option PV → Prop) (G : Nat → List PV → Cf → Prop) : SP (gd c x) K R G = (c ∧ SP x K R G) := by
  by_cases h : c
  · rw [gd, if_pos h]; simp [h]
  · rw [gd, if_neg h]; simp [h, SP]
theorem SP_if (c : Prop) [Decidable c] (x y : Option PO) (K : Cf → Prop) (R : Option PV → Prop) (G : Nat → List PV → Cf → Prop) : SP (if c then x else y) K R G = ((c → SP x K R G) ∧ (¬ c → SP y K R G)) := by
  by_cases h : c
  · rw [if_pos h]; simp [h]
  · rw [if_neg h]; simp [h]
theorem SP_mono {o : Option PO} {K K' : Cf → Prop} {R R' : Option PV → Prop} {G G' : Nat → List PV → Cf → Prop} (h : SP o K R G) (hK : ∀ c, K c → K' c) (hR : ∀ r, R r → R' r) (hG : ∀ a b c, G a b c → G' a b c) : SP o K' R' G' := by
  cases o with
  | none => exact h
  | some o =>
    cases o with
    | inl c => exact hK _ h
    | inr o =>
      cases o with
      | inl r => exact hR _ h
      | inr q => exact hG _ _ _ h
theorem V_step {d μ : Nat} {c : Cf} {Q : Option PV → PS → Prop} (h : SP (step μ c) (fun c' => V d μ c' Q) (fun r => Q r c.2.2.2) (fun μ' a c' => C d μ' a c'.2.2.2 (fun r σ' => V d μ (c'.1, (c'.2.1, (psh r c'.2.2.1, σ'))) Q))) : V d μ c Q := by
  cases hs : step μ c with
  | none => rw [hs] at h; exact h.elim
  | some o =>
    rw [hs] at h
    cases o with
    | inl c' =>
      obtain ⟨N, r, σ', e, q⟩ := (h : V d μ c' Q)
      refine ⟨N + 1, r, σ', ?_, q⟩
      simp only [run, hs]
      exact run_mono (exM_mono d N (N + 1) (by omega)) μ N N c' _ (Nat.le_refl N) e
    | inr o =>
      cases o with
      | inl r => exact ⟨1, r, c.2.2.2, by simp only [run, hs], h⟩
      | inr q =>
        obtain ⟨N, r, σ', e, N2, r2, s2, e2, q2⟩ := (h : C d q.1 q.2.1 q.2.2.2.2.2 (fun r σ' => V d μ (q.2.2.1, (q.2.2.2.1, (psh r q.2.2.2.2.1, σ'))) Q))
        refine ⟨N + N2 + 1, r2, s2, ?_, q2⟩
        simp only [run, hs]
        rw [exM_mono d N (N + N2 + 1) (by omega) _ _ _ _ e]
        exact run_mono (exM_mono d N2 (N + N2 + 1) (by omega)) μ N2 (N + N2) _ _ (by omega) e2
/-- so many steps on, but no farther than to a place of S -/
def wp (d μ : Nat) (S : List Nat) (Q : Option PV → PS → Prop) : Nat → Cf → Prop
  | 0, c => V d μ c Q
  | n + 1, c => SP (step μ c) (fun c' => bif S.elem c'.1 then V d μ c' Q else wp d μ S Q n c') (fun r => Q r c.2.2.2)
      (fun μ' a c' => C d μ' a c'.2.2.2 (fun r σ' => bif S.elem c'.1 then V d μ (c'.1, (c'.2.1, (psh r c'.2.2.1, σ'))) Q else wp d μ S Q n (c'.1, (c'.2.1, (psh r c'.2.2.1, σ')))))
theorem V_wp {d μ : Nat} (n : Nat) (S : List Nat) {c : Cf} {Q : Option PV → PS → Prop} : wp d μ S Q n c → V d μ c Q := by
  induction n generalizing c with
  | zero => exact id
  | succ n ih =>
    intro h
    refine V_step (SP_mono h (fun c' hc => ?_) (fun _ hr => hr) (fun a b c' hc => C_mono hc (fun r σ' hq => ?_)))
    · cases hS : S.elem c'.1
      · rw [hS] at hc; exact ih hc
      · rw [hS] at hc; exact hc
    · cases hS : S.elem c'.1
      · rw [hS] at hq; exact ih hq
      · rw [hS] at hq; exact hq
theorem C_wp {d μ : Nat} (n : Nat) (S : List Nat) {a : List PV} {σ : PS} {Q : Option PV → PS → Prop} (h : wp d μ S Q n (0, (eL a (mL μ), ([], σ)))) : C (d + 1) μ a σ Q := V_wp n S h
