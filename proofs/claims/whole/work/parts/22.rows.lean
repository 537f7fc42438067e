/-! One equation an instruction; what a step asks and gives. -/
theorem sI_aload_n (μ len pc : Nat) (ls : PL) (st : List PV) (σ : PS) (k : Fin 4) : stepI μ (.aload_n k) len pc ls st σ = (gd (len = 1) (ldx 2 ls[k.val]? (fun v => nx (pc + 1) ls (v :: st) σ))) := Eq.trans rfl rfl
theorem sI_iload_n (μ len pc : Nat) (ls : PL) (st : List PV) (σ : PS) (k : Fin 4) : stepI μ (.iload_n k) len pc ls st σ = (gd (len = 1) (ldx 0 ls[k.val]? (fun v => nx (pc + 1) ls (v :: st) σ))) := Eq.trans rfl rfl
theorem sI_lload_n (μ len pc : Nat) (ls : PL) (st : List PV) (σ : PS) (k : Fin 4) : stepI μ (.lload_n k) len pc ls st σ = (gd (len = 1) (ldx 1 ls[k.val]? (fun v => nx (pc + 1) ls (v :: st) σ))) := Eq.trans rfl rfl
theorem sI_aload (μ len pc : Nat) (ls : PL) (st : List PV) (σ : PS) (k : Nat) : stepI μ (.aload k) len pc ls st σ = (gd (len = 2) (ldx 2 ls[k]? (fun v => nx (pc + 2) ls (v :: st) σ))) := Eq.trans rfl rfl
theorem sI_iload (μ len pc : Nat) (ls : PL) (st : List PV) (σ : PS) (k : Nat) : stepI μ (.iload k) len pc ls st σ = (gd (len = 2) (ldx 0 ls[k]? (fun v => nx (pc + 2) ls (v :: st) σ))) := Eq.trans rfl rfl
theorem sI_iconst (μ len pc : Nat) (ls : PL) (st : List PV) (σ : PS) (z : Int) : stepI μ (.iconst z) len pc ls st σ = (gd (len = 1 ∧ -1 ≤ z ∧ z ≤ 5) (nx (pc + 1) ls (.inl z :: st) σ)) := Eq.trans rfl rfl
theorem sI_lconst (μ len pc : Nat) (ls : PL) (st : List PV) (σ : PS) (z : Fin 2) : stepI μ (.lconst z) len pc ls st σ = (gd (len = 1) (nx (pc + 1) ls (.inr (.inl z.val) :: st) σ)) := Eq.trans rfl rfl
theorem sI_bipush (μ len pc : Nat) (ls : PL) (st : List PV) (σ : PS) (z : Int) : stepI μ (.bipush z) len pc ls st σ = (gd (len = 2 ∧ -128 ≤ z ∧ z < 128) (nx (pc + 2) ls (.inl z :: st) σ)) := Eq.trans rfl rfl
theorem sI_sipush (μ len pc : Nat) (ls : PL) (st : List PV) (σ : PS) (z : Int) : stepI μ (.sipush z) len pc ls st σ = (gd (len = 3 ∧ -32768 ≤ z ∧ z < 32768) (nx (pc + 3) ls (.inl z :: st) σ)) := Eq.trans rfl rfl
theorem sI_ldc (μ len pc : Nat) (ls : PL) (st : List PV) (σ : PS) (idx : Nat) : stepI μ (.ldc idx) len pc ls st σ = (gd (len = 2) (match lct (mO μ) idx with
    | some (0, z) => nx (pc + 2) ls (.inl z :: st) σ
    | some (1, z) => nx (pc + 2) ls (.inr (.inr z) :: st) σ
    | _ => none)) := Eq.trans rfl rfl
theorem sI_ldc2_w (μ len pc : Nat) (ls : PL) (st : List PV) (σ : PS) (idx : Nat) : stepI μ (.ldc2_w idx) len pc ls st σ = (gd (len = 3) (match l2t (mO μ) idx with
    | some z => nx (pc + 3) ls (.inr (.inl z) :: st) σ
    | _ => none)) := Eq.trans rfl rfl
theorem sI_istore_n (μ len pc : Nat) (ls : PL) (st : List PV) (σ : PS) (k : Fin 4) : stepI μ (.istore_n k) len pc ls st σ = (gd (len = 1) (stx 0 k.val 1 pc ls st σ)) := Eq.trans rfl rfl
theorem sI_astore_n (μ len pc : Nat) (ls : PL) (st : List PV) (σ : PS) (k : Fin 4) : stepI μ (.astore_n k) len pc ls st σ = (gd (len = 1) (stx 2 k.val 1 pc ls st σ)) := Eq.trans rfl rfl
theorem sI_istore (μ len pc : Nat) (ls : PL) (st : List PV) (σ : PS) (k : Nat) : stepI μ (.istore k) len pc ls st σ = (gd (len = 2) (stx 0 k 2 pc ls st σ)) := Eq.trans rfl rfl
theorem sI_astore (μ len pc : Nat) (ls : PL) (st : List PV) (σ : PS) (k : Nat) : stepI μ (.astore k) len pc ls st σ = (gd (len = 2) (stx 2 k 2 pc ls st σ)) := Eq.trans rfl rfl
theorem sI_iinc (μ len pc : Nat) (ls : PL) (st : List PV) (σ : PS) (k : Nat) (z : Int) : stepI μ (.iinc k z) len pc ls st σ = (gd (len = 3) (match ls[k]? with
    | some (some (.inl x)) => gd (pok ls k = true) (nx (pc + 3) (ls.set k (some (.inl (wr32 (x + z))))) st σ)
    | _ => none)) := Eq.trans rfl rfl
theorem sI_iadd (μ len pc : Nat) (ls : PL) (st : List PV) (σ : PS)  : stepI μ (.iadd) len pc ls st σ = (gd (len = 1) (i2 st fun r x y => nx (pc + 1) ls (.inl (wr32 (x + y)) :: r) σ)) := Eq.trans rfl rfl
theorem sI_isub (μ len pc : Nat) (ls : PL) (st : List PV) (σ : PS)  : stepI μ (.isub) len pc ls st σ = (gd (len = 1) (i2 st fun r x y => nx (pc + 1) ls (.inl (wr32 (x - y)) :: r) σ)) := Eq.trans rfl rfl
theorem sI_imul (μ len pc : Nat) (ls : PL) (st : List PV) (σ : PS)  : stepI μ (.imul) len pc ls st σ = (gd (len = 1) (i2 st fun r x y => nx (pc + 1) ls (.inl (wr32 (x * y)) :: r) σ)) := Eq.trans rfl rfl
theorem sI_idiv (μ len pc : Nat) (ls : PL) (st : List PV) (σ : PS)  : stepI μ (.idiv) len pc ls st σ = (gd (len = 1) (i2 st fun r x y => gd (0 ≤ x ∧ 0 < y) (nx (pc + 1) ls (.inl (x / y) :: r) σ))) := Eq.trans rfl rfl
theorem sI_irem (μ len pc : Nat) (ls : PL) (st : List PV) (σ : PS)  : stepI μ (.irem) len pc ls st σ = (gd (len = 1) (i2 st fun r x y => gd (0 ≤ x ∧ 0 < y) (nx (pc + 1) ls (.inl (x % y) :: r) σ))) := Eq.trans rfl rfl
theorem sI_ineg (μ len pc : Nat) (ls : PL) (st : List PV) (σ : PS)  : stepI μ (.ineg) len pc ls st σ = (gd (len = 1) (i1 st fun r x => nx (pc + 1) ls (.inl (wr32 (-x)) :: r) σ)) := Eq.trans rfl rfl
theorem sI_iand (μ len pc : Nat) (ls : PL) (st : List PV) (σ : PS)  : stepI μ (.iand) len pc ls st σ = (gd (len = 1) (i2 st fun r x y => nx (pc + 1) ls (.inl (iAnd x y) :: r) σ)) := Eq.trans rfl rfl
theorem sI_ior (μ len pc : Nat) (ls : PL) (st : List PV) (σ : PS)  : stepI μ (.ior) len pc ls st σ = (gd (len = 1) (i2 st fun r x y => nx (pc + 1) ls (.inl (iOr x y) :: r) σ)) := Eq.trans rfl rfl
theorem sI_ixor (μ len pc : Nat) (ls : PL) (st : List PV) (σ : PS)  : stepI μ (.ixor) len pc ls st σ = (gd (len = 1) (i2 st fun r x y => nx (pc + 1) ls (.inl (iXor x y) :: r) σ)) := Eq.trans rfl rfl
theorem sI_ishl (μ len pc : Nat) (ls : PL) (st : List PV) (σ : PS)  : stepI μ (.ishl) len pc ls st σ = (gd (len = 1) (i2 st fun r x y => gd (0 ≤ x ∧ 0 ≤ y ∧ y < 31 ∧ x * 2 ^ y.toNat < 2147483648) (nx (pc + 1) ls (.inl (x * 2 ^ y.toNat) :: r) σ))) := Eq.trans rfl rfl
theorem sI_ishr (μ len pc : Nat) (ls : PL) (st : List PV) (σ : PS)  : stepI μ (.ishr) len pc ls st σ = (gd (len = 1) (i2 st fun r x y => gd (0 ≤ x ∧ 0 ≤ y ∧ y < 32) (nx (pc + 1) ls (.inl (x / 2 ^ y.toNat) :: r) σ))) := Eq.trans rfl rfl
theorem sI_i2l (μ len pc : Nat) (ls : PL) (st : List PV) (σ : PS)  : stepI μ (.i2l) len pc ls st σ = (gd (len = 1) (i1 st fun r x => nx (pc + 1) ls (.inr (.inl x) :: r) σ)) := Eq.trans rfl rfl
theorem sI_l2i (μ len pc : Nat) (ls : PL) (st : List PV) (σ : PS)  : stepI μ (.l2i) len pc ls st σ = (gd (len = 1) (l1 st fun r x => nx (pc + 1) ls (.inl (wr32 x) :: r) σ)) := Eq.trans rfl rfl
theorem sI_i2b (μ len pc : Nat) (ls : PL) (st : List PV) (σ : PS)  : stepI μ (.i2b) len pc ls st σ = (gd (len = 1) (i1 st fun r x => nx (pc + 1) ls (.inl (wr8 x) :: r) σ)) := Eq.trans rfl rfl
theorem sI_i2s (μ len pc : Nat) (ls : PL) (st : List PV) (σ : PS)  : stepI μ (.i2s) len pc ls st σ = (gd (len = 1) (i1 st fun r x => nx (pc + 1) ls (.inl (wr16 x) :: r) σ)) := Eq.trans rfl rfl
theorem sI_i2c (μ len pc : Nat) (ls : PL) (st : List PV) (σ : PS)  : stepI μ (.i2c) len pc ls st σ = (gd (len = 1) (i1 st fun r x => nx (pc + 1) ls (.inl (x % 65536) :: r) σ)) := Eq.trans rfl rfl
theorem sI_land (μ len pc : Nat) (ls : PL) (st : List PV) (σ : PS)  : stepI μ (.land) len pc ls st σ = (gd (len = 1) (l2 st fun r x y => nx (pc + 1) ls (.inr (.inl (lAnd x y)) :: r) σ)) := Eq.trans rfl rfl
theorem sI_lor (μ len pc : Nat) (ls : PL) (st : List PV) (σ : PS)  : stepI μ (.lor) len pc ls st σ = (gd (len = 1) (l2 st fun r x y => nx (pc + 1) ls (.inr (.inl (lOr x y)) :: r) σ)) := Eq.trans rfl rfl
theorem sI_lshl (μ len pc : Nat) (ls : PL) (st : List PV) (σ : PS)  : stepI μ (.lshl) len pc ls st σ = (gd (len = 1) (match st with
    | .inl y :: .inr (.inl x) :: r => nx (pc + 1) ls (.inr (.inl (lShl x y)) :: r) σ
    | _ => none)) := Eq.trans rfl rfl
theorem sI_lcmp (μ len pc : Nat) (ls : PL) (st : List PV) (σ : PS)  : stepI μ (.lcmp) len pc ls st σ = (gd (len = 1) (l2 st fun r x y => nx (pc + 1) ls (.inl (lCmp x y) :: r) σ)) := Eq.trans rfl rfl
theorem sI_dup (μ len pc : Nat) (ls : PL) (st : List PV) (σ : PS)  : stepI μ (.dup) len pc ls st σ = (gd (len = 1) (match st with
    | v :: r => gd (ptag v ≠ 1) (nx (pc + 1) ls (v :: v :: r) σ)
    | _ => none)) := Eq.trans rfl rfl
theorem sI_dup2 (μ len pc : Nat) (ls : PL) (st : List PV) (σ : PS)  : stepI μ (.dup2) len pc ls st σ = (gd (len = 1) (match st with
    | v :: w :: r => gd (ptag v ≠ 1 ∧ ptag w ≠ 1) (nx (pc + 1) ls (v :: w :: v :: w :: r) σ)
    | _ => none)) := Eq.trans rfl rfl
theorem sI_pop (μ len pc : Nat) (ls : PL) (st : List PV) (σ : PS)  : stepI μ (.pop) len pc ls st σ = (gd (len = 1) (match st with
    | v :: r => gd (ptag v ≠ 1) (nx (pc + 1) ls r σ)
    | _ => none)) := Eq.trans rfl rfl
theorem sI_ifCond (μ len pc : Nat) (ls : PL) (st : List PV) (σ : PS) (c : ClassFile.Cond) (off : Int) : stepI μ (.ifCond c off) len pc ls st σ = (gd (len = 3 ∧ 0 ≤ (pc : Int) + off) (i1 st fun r x => if icc c x 0 = true then nx ((pc : Int) + off).toNat ls r σ else nx (pc + 3) ls r σ)) := Eq.trans rfl rfl
theorem sI_if_icmp (μ len pc : Nat) (ls : PL) (st : List PV) (σ : PS) (c : ClassFile.Cond) (off : Int) : stepI μ (.if_icmp c off) len pc ls st σ = (gd (len = 3 ∧ 0 ≤ (pc : Int) + off) (i2 st fun r x y => if icc c x y = true then nx ((pc : Int) + off).toNat ls r σ else nx (pc + 3) ls r σ)) := Eq.trans rfl rfl
theorem sI_goto (μ len pc : Nat) (ls : PL) (st : List PV) (σ : PS) (off : Int) : stepI μ (.goto off) len pc ls st σ = (gd (len = 3) (jmp pc off ls st σ)) := Eq.trans rfl rfl
theorem sI_tableswitch (μ len pc : Nat) (ls : PL) (st : List PV) (σ : PS) (dflt : Int) (lo : Int) (hi : Int) (offs : Array Int) : stepI μ (.tableswitch dflt lo hi offs) len pc ls st σ = (i1 st fun r x => gd (hi = lo + offs.toList.length - 1) (tsw x (fun off => jmp pc off ls r σ) (jmp pc dflt ls r σ) lo offs.toList)) := Eq.trans rfl rfl
theorem sI_lookupswitch (μ len pc : Nat) (ls : PL) (st : List PV) (σ : PS) (dflt : Int) (ps : Array (Int × Int)) : stepI μ (.lookupswitch dflt ps) len pc ls st σ = (i1 st fun r x => gd ((ps.toList.zip (ps.toList.drop 1)).all (fun (a, next) => a.1 < next.1) = true) (lsw x (fun off => jmp pc off ls r σ) (jmp pc dflt ls r σ) ps.toList)) := Eq.trans rfl rfl
theorem sI_getfield (μ len pc : Nat) (ls : PL) (st : List PV) (σ : PS) (idx : Nat) : stepI μ (.getfield idx) len pc ls st σ = (gd (len = 3) (r1 st fun r o => match fld (mO μ) idx with
    | some (ci, k) => gd (shp σ o = (0, ci)) (nx (pc + 3) ls (fvl σ o ci k :: r) σ)
    | none => match sfl (mO μ) idx with
      | some 0 => gd (o = -10 ∨ o = -11 ∨ o = -12) (nx (pc + 3) ls (.inr (.inr (o - 10)) :: r) σ)
      | some 1 => gd (o = -10 ∨ o = -11 ∨ o = -12) (nx (pc + 3) ls (.inl 0 :: r) σ)
      | _ => none)) := Eq.trans rfl rfl
theorem sI_putfield (μ len pc : Nat) (ls : PL) (st : List PV) (σ : PS) (idx : Nat) : stepI μ (.putfield idx) len pc ls st σ = (gd (len = 3) (vr st fun r v o => match fld (mO μ) idx with
    | some (ci, k) => gd (0 ≤ o ∧ shp σ o = (0, ci) ∧ (ffn ci k = false ∨ (mI μ = true ∧ mO μ = ci))) (putv σ o k v (fun σ' => nx (pc + 3) ls r σ') (ftg ci k))
    | none => none)) := Eq.trans rfl rfl
theorem sI_getstatic (μ len pc : Nat) (ls : PL) (st : List PV) (σ : PS) (idx : Nat) : stepI μ (.getstatic idx) len pc ls st σ = (gd (len = 3) (match gst (mO μ) idx with
    | some 0 => nx (pc + 3) ls (.inr (.inr (-2)) :: st) σ
    | some 1 => nx (pc + 3) ls (.inl 1 :: st) σ
    | some 2 => nx (pc + 3) ls (.inr (.inr (-4)) :: st) σ
    | _ => none)) := Eq.trans rfl rfl
theorem sI_iaload (μ len pc : Nat) (ls : PL) (st : List PV) (σ : PS)  : stepI μ (.iaload) len pc ls st σ = (gd (len = 1) (ir st fun r a i => gd ((shp σ a).1 = 1 ∧ 0 ≤ i ∧ i < (shp σ a).2) (nx (pc + 1) ls (.inl (σ.1 a i) :: r) σ))) := Eq.trans rfl rfl
theorem sI_baload (μ len pc : Nat) (ls : PL) (st : List PV) (σ : PS)  : stepI μ (.baload) len pc ls st σ = (gd (len = 1) (ir st fun r a i => gd (((shp σ a).1 = 2 ∨ (shp σ a).1 = 7) ∧ 0 ≤ i ∧ i < (shp σ a).2) (nx (pc + 1) ls (.inl (σ.1 a i) :: r) σ))) := Eq.trans rfl rfl
theorem sI_laload (μ len pc : Nat) (ls : PL) (st : List PV) (σ : PS)  : stepI μ (.laload) len pc ls st σ = (gd (len = 1) (ir st fun r a i => gd ((shp σ a).1 = 3 ∧ 0 ≤ i ∧ i < (shp σ a).2) (nx (pc + 1) ls (.inr (.inl (σ.1 a i)) :: r) σ))) := Eq.trans rfl rfl
theorem sI_aaload (μ len pc : Nat) (ls : PL) (st : List PV) (σ : PS)  : stepI μ (.aaload) len pc ls st σ = (gd (len = 1) (ir st fun r a i => gd (((shp σ a).1 = 4 ∨ (shp σ a).1 = 5 ∨ (shp σ a).1 = 6) ∧ 0 ≤ i ∧ i < (shp σ a).2) (nx (pc + 1) ls (.inr (.inr (rf σ a i)) :: r) σ))) := Eq.trans rfl rfl
theorem sI_iastore (μ len pc : Nat) (ls : PL) (st : List PV) (σ : PS)  : stepI μ (.iastore) len pc ls st σ = (gd (len = 1) (vir st fun r v a i => match v with
    | .inl z => gd (0 ≤ a ∧ (shp σ a).1 = 1 ∧ 0 ≤ i ∧ i < (shp σ a).2) (nx (pc + 1) ls r (up σ.1 a i z, σ.2))
    | _ => none)) := Eq.trans rfl rfl
theorem sI_bastore (μ len pc : Nat) (ls : PL) (st : List PV) (σ : PS)  : stepI μ (.bastore) len pc ls st σ = (gd (len = 1) (vir st fun r v a i => match v with
    | .inl z => gd (0 ≤ a ∧ (shp σ a).1 = 2 ∧ 0 ≤ i ∧ i < (shp σ a).2) (nx (pc + 1) ls r (up σ.1 a i (z % 2), σ.2))
    | _ => none)) := Eq.trans rfl rfl
theorem sI_lastore (μ len pc : Nat) (ls : PL) (st : List PV) (σ : PS)  : stepI μ (.lastore) len pc ls st σ = (gd (len = 1) (vir st fun r v a i => match v with
    | .inr (.inl z) => gd (0 ≤ a ∧ (shp σ a).1 = 3 ∧ 0 ≤ i ∧ i < (shp σ a).2) (nx (pc + 1) ls r (up σ.1 a i z, σ.2))
    | _ => none)) := Eq.trans rfl rfl
theorem sI_aastore (μ len pc : Nat) (ls : PL) (st : List PV) (σ : PS)  : stepI μ (.aastore) len pc ls st σ = (gd (len = 1) (vir st fun r v a i => match v with
    | .inr (.inr z) => gd (0 ≤ a ∧ 4 ≤ (shp σ a).1 ∧ (shp σ a).1 ≤ 6 ∧ 0 ≤ i ∧ i < (shp σ a).2 ∧ 0 ≤ z ∧ shp σ z = (0, ecl (shp σ a).1) ∧ (σ.2.1 = none → stat a i = none)) (nx (pc + 1) ls r (up σ.1 a i z, σ.2))
    | _ => none)) := Eq.trans rfl rfl
theorem sI_arraylength (μ len pc : Nat) (ls : PL) (st : List PV) (σ : PS)  : stepI μ (.arraylength) len pc ls st σ = (gd (len = 1) (r1 st fun r a => gd (1 ≤ (shp σ a).1 ∧ (shp σ a).1 ≤ 7) (nx (pc + 1) ls (.inl (shp σ a).2 :: r) σ))) := Eq.trans rfl rfl
theorem sI_newarray (μ len pc : Nat) (ls : PL) (st : List PV) (σ : PS) (ty : ClassFile.ArrayType) : stepI μ (.newarray ty) len pc ls st σ = (gd (len = 2) (i1 st fun r n => gd (0 ≤ n ∧ n ≤ 1000 ∧ 1 ≤ aTy ty) (alc σ (aTy ty, n.toNat) (fun id σ' => nx (pc + 2) ls (.inr (.inr id) :: r) σ') clr))) := Eq.trans rfl rfl
theorem sI_anewarray (μ len pc : Nat) (ls : PL) (st : List PV) (σ : PS) (idx : Nat) : stepI μ (.anewarray idx) len pc ls st σ = (gd (len = 3) (i1 st fun r n => match anc (mO μ) idx with
    | some t => gd (0 ≤ n ∧ n ≤ 1000 ∧ 4 ≤ t ∧ t ≤ 6 ∧ σ.2.1 ≠ none) (alc σ (t, n.toNat) (fun id σ' => nx (pc + 3) ls (.inr (.inr id) :: r) σ') clN)
    | none => none)) := Eq.trans rfl rfl
theorem sI_new (μ len pc : Nat) (ls : PL) (st : List PV) (σ : PS) (idx : Nat) : stepI μ (.new idx) len pc ls st σ = (gd (len = 3) (match nwc (mO μ) idx with
    | some ci => gd (ci < 12) (alc σ (0, ci) (fun id σ' => nx (pc + 3) ls (.inr (.inr id) :: st) σ') (fun m id => clO m id ci))
    | none => none)) := Eq.trans rfl rfl
theorem sI_invokevirtual (μ len pc : Nat) (ls : PL) (st : List PV) (σ : PS) (idx : Nat) : stepI μ (.invokevirtual idx) len pc ls st σ = (gd (len = 3) (match inv (mO μ) idx with
    | some (kd, μ', na, cls, ml) => gd (kd = 0) (cal μ' na cls ml pc ls st σ 0)
    | none => none)) := Eq.trans rfl rfl
theorem sI_invokespecial (μ len pc : Nat) (ls : PL) (st : List PV) (σ : PS) (idx : Nat) : stepI μ (.invokespecial idx) len pc ls st σ = (gd (len = 3) (if spc (mO μ) idx = 5 then r1 st fun r o => gd ((shp σ o).1 = 0 ∧ 0 ≤ o ∧ pcat r ≤ 8) (nx (pc + 3) ls r σ) else match inv (mO μ) idx with
    | some (kd, μ', na, cls, ml) => gd (kd = 2 ∨ kd = 3) (cal μ' na cls ml pc ls st σ kd)
    | none => none)) := Eq.trans rfl rfl
theorem sI_invokestatic (μ len pc : Nat) (ls : PL) (st : List PV) (σ : PS) (idx : Nat) : stepI μ (.invokestatic idx) len pc ls st σ = (gd (len = 3) (if spc (mO μ) idx = 6 then acp pc ls st σ
    else if spc (mO μ) idx = 7 then i2 st fun r x y => gd (pcat r ≤ 8) (nx (pc + 3) ls (.inl (if x < y then y else x) :: r) σ)
    else if spc (mO μ) idx = 8 then i2 st fun r x y => gd (pcat r ≤ 8) (nx (pc + 3) ls (.inl (if y < x then y else x) :: r) σ)
    else match inv (mO μ) idx with
    | some (kd, μ', na, cls, ml) => gd (kd = 1) (cal μ' na cls ml pc ls st σ 1)
    | none => none)) := Eq.trans rfl rfl
theorem sI_ireturn (μ len pc : Nat) (ls : PL) (st : List PV) (σ : PS)  : stepI μ (.ireturn) len pc ls st σ = (gd (len = 1) (match st with
    | [.inl z] => gd (rok (mK μ) z = true) (some (.inr (.inl (some (.inl z)))))
    | _ => none)) := Eq.trans rfl rfl
theorem sI_lreturn (μ len pc : Nat) (ls : PL) (st : List PV) (σ : PS)  : stepI μ (.lreturn) len pc ls st σ = (gd (len = 1) (match st with
    | [.inr (.inl z)] => gd (mK μ = 4) (some (.inr (.inl (some (.inr (.inl z))))))
    | _ => none)) := Eq.trans rfl rfl
theorem sI_areturn (μ len pc : Nat) (ls : PL) (st : List PV) (σ : PS)  : stepI μ (.areturn) len pc ls st σ = (gd (len = 1) (match st with
    | [.inr (.inr z)] => gd (mK μ = 6 ∧ 0 ≤ z) (some (.inr (.inl (some (.inr (.inr z))))))
    | _ => none)) := Eq.trans rfl rfl
theorem sI_return_ (μ len pc : Nat) (ls : PL) (st : List PV) (σ : PS)  : stepI μ (.return_) len pc ls st σ = (gd (len = 1) (match st with
    | [] => gd (mK μ = 5) (some (.inr (.inl none)))
    | _ => none)) := Eq.trans rfl rfl
def wpK (d μ : Nat) (S : List Nat) (Q : Option PV → PS → Prop) (n : Nat) (c : Cf) : Prop := bif S.elem c.1 then V d μ c Q else wp d μ S Q n c
def wpR (Q : Option PV → PS → Prop) (σ : PS) (r : Option PV) : Prop := Q r σ
def wpH (d μ : Nat) (S : List Nat) (Q : Option PV → PS → Prop) (n pc : Nat) (ls : PL) (st : List PV) (r : Option PV) (σ : PS) : Prop := bif S.elem pc then V d μ (pc, (ls, (psh r st, σ))) Q else wp d μ S Q n (pc, (ls, (psh r st, σ)))
def wpG (d μ : Nat) (S : List Nat) (Q : Option PV → PS → Prop) (n : Nat) (μ' : Nat) (a : List PV) (c : Cf) : Prop := C d μ' a c.2.2.2 (wpH d μ S Q n c.1 c.2.1 c.2.2.1)
theorem wp_s (d μ : Nat) (S : List Nat) (Q : Option PV → PS → Prop) (n pc : Nat) (ls : PL) (st : List PV) (σ : PS) : wp d μ S Q (n + 1) (pc, (ls, (st, σ))) = SP (match ClassFile.decode (mB μ) pc with | .ok (i, len) => stepI μ i len pc ls st σ | .error _ => none) (wpK d μ S Q n) (wpR Q σ) (wpG d μ S Q n) := Eq.trans rfl rfl
theorem wpK_s (d μ : Nat) (S : List Nat) (Q : Option PV → PS → Prop) (n pc : Nat) (ls : PL) (st : List PV) (σ : PS) : wpK d μ S Q n (pc, (ls, (st, σ))) = if S.elem pc = true then V d μ (pc, (ls, (st, σ))) Q else wp d μ S Q n (pc, (ls, (st, σ))) := by unfold wpK; cases List.elem pc S <;> rfl
theorem wpR_s (Q : Option PV → PS → Prop) (σ : PS) (r : Option PV) : wpR Q σ r = Q r σ := Eq.trans rfl rfl
theorem wpH_s (d μ : Nat) (S : List Nat) (Q : Option PV → PS → Prop) (n pc : Nat) (ls : PL) (st : List PV) (r : Option PV) (σ : PS) : wpH d μ S Q n pc ls st r σ = if S.elem pc = true then V d μ (pc, (ls, (psh r st, σ))) Q else wp d μ S Q n (pc, (ls, (psh r st, σ))) := by unfold wpH; cases List.elem pc S <;> rfl
theorem wpG_s (d μ : Nat) (S : List Nat) (Q : Option PV → PS → Prop) (n μ' : Nat) (a : List PV) (pc : Nat) (ls : PL) (st : List PV) (σ : PS) : wpG d μ S Q n μ' a (pc, (ls, (st, σ))) = C d μ' a σ (wpH d μ S Q n pc ls st) := Eq.trans rfl rfl
theorem ldx_s (t : Nat) (v : PV) (f : PV → Option PO) : ldx t (some (some v)) f = gd (ptag v = t) (f v) := Eq.trans rfl rfl
theorem stx_s (t k len pc : Nat) (ls : PL) (v : PV) (r : List PV) (σ : PS) : stx t k len pc ls (v :: r) σ = gd (ptag v = t ∧ k < ls.length ∧ pok ls k = true) (nx (pc + len) (ls.set k (some v)) r σ) := Eq.trans rfl rfl
theorem i1_s (x : Int) (r : List PV) (g : List PV → Int → Option PO) : i1 (.inl x :: r) g = g r x := Eq.trans rfl rfl
theorem i2_s (x y : Int) (r : List PV) (g : List PV → Int → Int → Option PO) : i2 (.inl y :: .inl x :: r) g = g r x y := Eq.trans rfl rfl
theorem l1_s (x : Int) (r : List PV) (g : List PV → Int → Option PO) : l1 (.inr (.inl x) :: r) g = g r x := Eq.trans rfl rfl
theorem l2_s (x y : Int) (r : List PV) (g : List PV → Int → Int → Option PO) : l2 (.inr (.inl y) :: .inr (.inl x) :: r) g = g r x y := Eq.trans rfl rfl
theorem r1_s (x : Int) (r : List PV) (g : List PV → Int → Option PO) : r1 (.inr (.inr x) :: r) g = g r x := Eq.trans rfl rfl
theorem vr_s (v : PV) (x : Int) (r : List PV) (g : List PV → PV → Int → Option PO) : vr (v :: .inr (.inr x) :: r) g = g r v x := Eq.trans rfl rfl
theorem ir_s (i x : Int) (r : List PV) (g : List PV → Int → Int → Option PO) : ir (.inl i :: .inr (.inr x) :: r) g = g r x i := Eq.trans rfl rfl
theorem vir_s (v : PV) (i x : Int) (r : List PV) (g : List PV → PV → Int → Int → Option PO) : vir (v :: .inl i :: .inr (.inr x) :: r) g = g r v x i := Eq.trans rfl rfl
theorem rf_s (m : PM) (d : List (Nat × Nat)) (L : Nat) (o k : Int) : rf (m, (none, (d, L))) o k = (stat o k).getD (m o k) := Eq.trans rfl rfl
theorem fvl_s (σ : PS) (o : Int) (ci k : Nat) : fvl σ o ci k = if ftg ci k = 2 then .inr (.inr (rf σ o k)) else .inl (σ.1 o k) := Eq.trans rfl rfl
theorem pt_i (z : Int) : ptag (.inl z) = 0 := Eq.trans rfl rfl
theorem pt_l (z : Int) : ptag (.inr (.inl z)) = 1 := Eq.trans rfl rfl
theorem pt_r (z : Int) : ptag (.inr (.inr z)) = 2 := Eq.trans rfl rfl
theorem psh_n (st : List PV) : psh none st = st := Eq.trans rfl rfl
theorem psh_s (v : PV) (st : List PV) : psh (some v) st = v :: st := Eq.trans rfl rfl
theorem put_0 (σ : PS) (o : Int) (k : Nat) (z : Int) (g : PS → Option PO) : putv σ o k (.inl z) g 0 = g (up σ.1 o k z, σ.2) := Eq.trans rfl rfl
theorem put_3 (σ : PS) (o : Int) (k : Nat) (z : Int) (g : PS → Option PO) : putv σ o k (.inl z) g 3 = gd (z = 0 ∨ z = 1) (g (up σ.1 o k z, σ.2)) := Eq.trans rfl rfl
theorem put_2 (σ : PS) (o : Int) (k : Nat) (z : Int) (g : PS → Option PO) : putv σ o k (.inr (.inr z)) g 2 = gd (-1 ≤ z ∧ (σ.2.1 = none → stat o k = none)) (g (up σ.1 o k z, σ.2)) := Eq.trans rfl rfl
theorem rok_0 (z : Int) : (rok 0 z = true) = True := by simp [rok]
theorem rok_1 (z : Int) : (rok 1 z = true) = (z = 0 ∨ z = 1) := by simp [rok]
theorem rok_2 (z : Int) : (rok 2 z = true) = (-128 ≤ z ∧ z < 128) := by simp [rok]
theorem rok_3 (z : Int) : (rok 3 z = true) = (0 ≤ z ∧ z < 65536) := by simp [rok]
theorem ic_eq (x y : Int) : (icc .eq x y = true) = (x = y) := by simp [icc]
theorem ic_ne (x y : Int) : (icc .ne x y = true) = (¬ x = y) := by simp [icc]
theorem ic_lt (x y : Int) : (icc .lt x y = true) = (x < y) := by simp [icc]
theorem ic_ge (x y : Int) : (icc .ge x y = true) = (y ≤ x) := by simp [icc]
theorem ic_gt (x y : Int) : (icc .gt x y = true) = (y < x) := by simp [icc]
theorem ic_le (x y : Int) : (icc .le x y = true) = (x ≤ y) := by simp [icc]
theorem pok_0 (ls : PL) : pok ls 0 = true := Eq.trans rfl rfl
theorem pok_s (ls : PL) (j : Nat) : pok ls (j + 1) = (match ls[j]? with | some (some (.inr (.inl _))) => false | _ => true) := Eq.trans rfl rfl
theorem up_s (m : PM) (a k z a' k' : Int) : up m a k z a' k' = if a' = a ∧ k' = k then z else m a' k' := Eq.trans rfl rfl
theorem elem_s (a b : Nat) (l : List Nat) : List.elem a (b :: l) = if a = b then true else List.elem a l := by
  by_cases h : a = b
  · subst h
    rw [if_pos rfl, List.elem, beq_self_eq_true]
  · have hb : (a == b) = false := by simpa using h
    rw [if_neg h, List.elem, hb]
theorem elem_n (a : Nat) : List.elem a [] = false := Eq.trans rfl rfl
theorem and_t {P Q : Prop} (h : P) : (P ∧ Q) = Q := by simp [h]
theorem f4_0 : ((0 : Fin 4) : Nat) = 0 := Eq.trans rfl rfl
theorem f4_1 : ((1 : Fin 4) : Nat) = 1 := Eq.trans rfl rfl
theorem f4_2 : ((2 : Fin 4) : Nat) = 2 := Eq.trans rfl rfl
theorem f4_3 : ((3 : Fin 4) : Nat) = 3 := Eq.trans rfl rfl
theorem f2_0 : ((0 : Fin 2) : Nat) = 0 := Eq.trans rfl rfl
theorem f2_1 : ((1 : Fin 2) : Nat) = 1 := Eq.trans rfl rfl
theorem ca_0 : ((0 : Nat) : Int) = 0 := Eq.trans rfl rfl
theorem rok1_i (c : Prop) [Decidable c] : ((if c then (1 : Int) else 0) = 0 ∨ (if c then (1 : Int) else 0) = 1) = True := by by_cases h : c <;> simp [h]
theorem rok1_j (c : Prop) [Decidable c] : ((if c then (0 : Int) else 1) = 0 ∨ (if c then (0 : Int) else 1) = 1) = True := by by_cases h : c <;> simp [h]
theorem xB_0 : mB 0 = cX0_init := Eq.trans mB_0 rfl
theorem xL_0 : mL 0 = 1 := Eq.trans mL_0 rfl
theorem xO_0 : mO 0 = 0 := Eq.trans mO_0 rfl
theorem xK_0 : mK 0 = 5 := Eq.trans mK_0 rfl
theorem xI_0 : mI 0 = true := Eq.trans mI_0 rfl
theorem xB_1 : mB 1 = cX0_clear := Eq.trans mB_1 rfl
theorem xL_1 : mL 1 = 1 := Eq.trans mL_1 rfl
theorem xO_1 : mO 1 = 0 := Eq.trans mO_1 rfl
theorem xK_1 : mK 1 = 5 := Eq.trans mK_1 rfl
theorem xI_1 : mI 1 = false := Eq.trans mI_1 rfl
theorem xB_2 : mB 2 = cX0_doAct := Eq.trans mB_2 rfl
theorem xL_2 : mL 2 = 5 := Eq.trans mL_2 rfl
theorem xO_2 : mO 2 = 0 := Eq.trans mO_2 rfl
theorem xK_2 : mK 2 = 0 := Eq.trans mK_2 rfl
theorem xI_2 : mI 2 = false := Eq.trans mI_2 rfl
theorem xB_3 : mB 3 = cX0_numberAt := Eq.trans mB_3 rfl
theorem xL_3 : mL 3 = 2 := Eq.trans mL_3 rfl
theorem xO_3 : mO 3 = 0 := Eq.trans mO_3 rfl
theorem xK_3 : mK 3 = 0 := Eq.trans mK_3 rfl
theorem xI_3 : mI 3 = false := Eq.trans mI_3 rfl
theorem xB_4 : mB 4 = cX0_begins := Eq.trans mB_4 rfl
theorem xL_4 : mL 4 = 3 := Eq.trans mL_4 rfl
theorem xO_4 : mO 4 = 0 := Eq.trans mO_4 rfl
theorem xK_4 : mK 4 = 1 := Eq.trans mK_4 rfl
theorem xI_4 : mI 4 = false := Eq.trans mI_4 rfl
theorem xB_5 : mB 5 = cX0_feeds := Eq.trans mB_5 rfl
theorem xL_5 : mL 5 = 4 := Eq.trans mL_5 rfl
theorem xO_5 : mO 5 = 0 := Eq.trans mO_5 rfl
theorem xK_5 : mK 5 = 0 := Eq.trans mK_5 rfl
theorem xI_5 : mI 5 = false := Eq.trans mI_5 rfl
theorem xB_6 : mB 6 = cX0_prints := Eq.trans mB_6 rfl
theorem xL_6 : mL 6 = 4 := Eq.trans mL_6 rfl
theorem xO_6 : mO 6 = 0 := Eq.trans mO_6 rfl
theorem xK_6 : mK 6 = 0 := Eq.trans mK_6 rfl
theorem xI_6 : mI 6 = false := Eq.trans mI_6 rfl
theorem xB_7 : mB 7 = cX0_tells := Eq.trans mB_7 rfl
theorem xL_7 : mL 7 = 4 := Eq.trans mL_7 rfl
theorem xO_7 : mO 7 = 0 := Eq.trans mO_7 rfl
theorem xK_7 : mK 7 = 0 := Eq.trans mK_7 rfl
theorem xI_7 : mI 7 = false := Eq.trans mI_7 rfl
theorem xB_8 : mB 8 = cX1_init := Eq.trans mB_8 rfl
theorem xL_8 : mL 8 = 1 := Eq.trans mL_8 rfl
theorem xO_8 : mO 8 = 1 := Eq.trans mO_8 rfl
theorem xK_8 : mK 8 = 5 := Eq.trans mK_8 rfl
theorem xI_8 : mI 8 = true := Eq.trans mI_8 rfl
theorem xB_9 : mB 9 = cX1_copy := Eq.trans mB_9 rfl
theorem xL_9 : mL 9 = 11 := Eq.trans mL_9 rfl
theorem xO_9 : mO 9 = 1 := Eq.trans mO_9 rfl
theorem xK_9 : mK 9 = 5 := Eq.trans mK_9 rfl
theorem xI_9 : mI 9 = false := Eq.trans mI_9 rfl
theorem xB_10 : mB 10 = cX1_isDry := Eq.trans mB_10 rfl
theorem xL_10 : mL 10 = 3 := Eq.trans mL_10 rfl
theorem xO_10 : mO 10 = 1 := Eq.trans mO_10 rfl
theorem xK_10 : mK 10 = 1 := Eq.trans mK_10 rfl
theorem xI_10 : mI 10 = false := Eq.trans mI_10 rfl
theorem xB_11 : mB 11 = cX1_withPage := Eq.trans mB_11 rfl
theorem xL_11 : mL 11 = 4 := Eq.trans mL_11 rfl
theorem xO_11 : mO 11 = 1 := Eq.trans mO_11 rfl
theorem xK_11 : mK 11 = 0 := Eq.trans mK_11 rfl
theorem xI_11 : mI 11 = false := Eq.trans mI_11 rfl
theorem xB_12 : mB 12 = cX1_laidOut := Eq.trans mB_12 rfl
theorem xL_12 : mL 12 = 2 := Eq.trans mL_12 rfl
theorem xO_12 : mO 12 = 1 := Eq.trans mO_12 rfl
theorem xK_12 : mK 12 = 0 := Eq.trans mK_12 rfl
theorem xI_12 : mI 12 = false := Eq.trans mI_12 rfl
theorem xB_13 : mB 13 = cX1_gather := Eq.trans mB_13 rfl
theorem xL_13 : mL 13 = 5 := Eq.trans mL_13 rfl
theorem xO_13 : mO 13 = 1 := Eq.trans mO_13 rfl
theorem xK_13 : mK 13 = 5 := Eq.trans mK_13 rfl
theorem xI_13 : mI 13 = false := Eq.trans mI_13 rfl
theorem xB_14 : mB 14 = cX2_init := Eq.trans mB_14 rfl
theorem xL_14 : mL 14 = 5 := Eq.trans mL_14 rfl
theorem xO_14 : mO 14 = 2 := Eq.trans mO_14 rfl
theorem xK_14 : mK 14 = 5 := Eq.trans mK_14 rfl
theorem xI_14 : mI 14 = true := Eq.trans mI_14 rfl
theorem xB_15 : mB 15 = cX2_pageFrom := Eq.trans mB_15 rfl
theorem xL_15 : mL 15 = 6 := Eq.trans mL_15 rfl
theorem xO_15 : mO 15 = 2 := Eq.trans mO_15 rfl
theorem xK_15 : mK 15 = 0 := Eq.trans mK_15 rfl
theorem xI_15 : mI 15 = false := Eq.trans mI_15 rfl
theorem xB_16 : mB 16 = cX2_holds := Eq.trans mB_16 rfl
theorem xL_16 : mL 16 = 10 := Eq.trans mL_16 rfl
theorem xO_16 : mO 16 = 2 := Eq.trans mO_16 rfl
theorem xK_16 : mK 16 = 1 := Eq.trans mK_16 rfl
theorem xI_16 : mI 16 = false := Eq.trans mI_16 rfl
theorem xB_17 : mB 17 = cX2_value := Eq.trans mB_17 rfl
theorem xL_17 : mL 17 = 5 := Eq.trans mL_17 rfl
theorem xO_17 : mO 17 = 2 := Eq.trans mO_17 rfl
theorem xK_17 : mK 17 = 0 := Eq.trans mK_17 rfl
theorem xI_17 : mI 17 = false := Eq.trans mI_17 rfl
theorem xB_18 : mB 18 = cX2_isSo := Eq.trans mB_18 rfl
theorem xL_18 : mL 18 = 3 := Eq.trans mL_18 rfl
theorem xO_18 : mO 18 = 2 := Eq.trans mO_18 rfl
theorem xK_18 : mK 18 = 1 := Eq.trans mK_18 rfl
theorem xI_18 : mI 18 = false := Eq.trans mI_18 rfl
theorem xB_19 : mB 19 = cX3_init := Eq.trans mB_19 rfl
theorem xL_19 : mL 19 = 2 := Eq.trans mL_19 rfl
theorem xO_19 : mO 19 = 3 := Eq.trans mO_19 rfl
theorem xK_19 : mK 19 = 5 := Eq.trans mK_19 rfl
theorem xI_19 : mI 19 = true := Eq.trans mI_19 rfl
theorem xB_20 : mB 20 = cX3_isFull := Eq.trans mB_20 rfl
theorem xL_20 : mL 20 = 1 := Eq.trans mL_20 rfl
theorem xO_20 : mO 20 = 3 := Eq.trans mO_20 rfl
theorem xK_20 : mK 20 = 1 := Eq.trans mK_20 rfl
theorem xI_20 : mI 20 = false := Eq.trans mI_20 rfl
theorem xB_21 : mB 21 = cX3_add := Eq.trans mB_21 rfl
theorem xL_21 : mL 21 = 4 := Eq.trans mL_21 rfl
theorem xO_21 : mO 21 = 3 := Eq.trans mO_21 rfl
theorem xK_21 : mK 21 = 0 := Eq.trans mK_21 rfl
theorem xI_21 : mI 21 = false := Eq.trans mI_21 rfl
theorem xB_22 : mB 22 = cX3_copyFrom := Eq.trans mB_22 rfl
theorem xL_22 : mL 22 = 3 := Eq.trans mL_22 rfl
theorem xO_22 : mO 22 = 3 := Eq.trans mO_22 rfl
theorem xK_22 : mK 22 = 5 := Eq.trans mK_22 rfl
theorem xI_22 : mI 22 = false := Eq.trans mI_22 rfl
theorem xB_23 : mB 23 = cX4_init := Eq.trans mB_23 rfl
theorem xL_23 : mL 23 = 1 := Eq.trans mL_23 rfl
theorem xO_23 : mO 23 = 4 := Eq.trans mO_23 rfl
theorem xK_23 : mK 23 = 5 := Eq.trans mK_23 rfl
theorem xI_23 : mI 23 = true := Eq.trans mI_23 rfl
theorem xB_24 : mB 24 = cX4_copyFrom := Eq.trans mB_24 rfl
theorem xL_24 : mL 24 = 2 := Eq.trans mL_24 rfl
theorem xO_24 : mO 24 = 4 := Eq.trans mO_24 rfl
theorem xK_24 : mK 24 = 5 := Eq.trans mK_24 rfl
theorem xI_24 : mI 24 = false := Eq.trans mI_24 rfl
theorem xB_25 : mB 25 = cX4_over := Eq.trans mB_25 rfl
theorem xL_25 : mL 25 = 1 := Eq.trans mL_25 rfl
theorem xO_25 : mO 25 = 4 := Eq.trans mO_25 rfl
theorem xK_25 : mK 25 = 0 := Eq.trans mK_25 rfl
theorem xI_25 : mI 25 = false := Eq.trans mI_25 rfl
theorem xB_26 : mB 26 = cX4_about := Eq.trans mB_26 rfl
theorem xL_26 : mL 26 = 1 := Eq.trans mL_26 rfl
theorem xO_26 : mO 26 = 4 := Eq.trans mO_26 rfl
theorem xK_26 : mK 26 = 0 := Eq.trans mK_26 rfl
theorem xI_26 : mI 26 = false := Eq.trans mI_26 rfl
theorem xB_27 : mB 27 = cX4_sideOf := Eq.trans mB_27 rfl
theorem xL_27 : mL 27 = 3 := Eq.trans mL_27 rfl
theorem xO_27 : mO 27 = 4 := Eq.trans mO_27 rfl
theorem xK_27 : mK 27 = 0 := Eq.trans mK_27 rfl
theorem xI_27 : mI 27 = false := Eq.trans mI_27 rfl
theorem xB_28 : mB 28 = cX4_pageOn := Eq.trans mB_28 rfl
theorem xL_28 : mL 28 = 3 := Eq.trans mL_28 rfl
theorem xO_28 : mO 28 = 4 := Eq.trans mO_28 rfl
theorem xK_28 : mK 28 = 0 := Eq.trans mK_28 rfl
theorem xI_28 : mI 28 = false := Eq.trans mI_28 rfl
theorem xB_29 : mB 29 = cX4_isDown := Eq.trans mB_29 rfl
theorem xL_29 : mL 29 = 3 := Eq.trans mL_29 rfl
theorem xO_29 : mO 29 = 4 := Eq.trans mO_29 rfl
theorem xK_29 : mK 29 = 1 := Eq.trans mK_29 rfl
theorem xI_29 : mI 29 = false := Eq.trans mI_29 rfl
theorem xB_30 : mB 30 = cX4_isRight := Eq.trans mB_30 rfl
theorem xL_30 : mL 30 = 2 := Eq.trans mL_30 rfl
theorem xO_30 : mO 30 = 4 := Eq.trans mO_30 rfl
theorem xK_30 : mK 30 = 1 := Eq.trans mK_30 rfl
theorem xI_30 : mI 30 = false := Eq.trans mI_30 rfl
theorem xB_31 : mB 31 = cX4_rights := Eq.trans mB_31 rfl
theorem xL_31 : mL 31 = 3 := Eq.trans mL_31 rfl
theorem xO_31 : mO 31 = 4 := Eq.trans mO_31 rfl
theorem xK_31 : mK 31 = 0 := Eq.trans mK_31 rfl
theorem xI_31 : mI 31 = false := Eq.trans mI_31 rfl
theorem xB_32 : mB 32 = cX4_sidesWith := Eq.trans mB_32 rfl
theorem xL_32 : mL 32 = 4 := Eq.trans mL_32 rfl
theorem xO_32 : mO 32 = 4 := Eq.trans mO_32 rfl
theorem xK_32 : mK 32 = 0 := Eq.trans mK_32 rfl
theorem xI_32 : mI 32 = false := Eq.trans mI_32 rfl
theorem xB_33 : mB 33 = cX4_missing := Eq.trans mB_33 rfl
theorem xL_33 : mL 33 = 3 := Eq.trans mL_33 rfl
theorem xO_33 : mO 33 = 4 := Eq.trans mO_33 rfl
theorem xK_33 : mK 33 = 0 := Eq.trans mK_33 rfl
theorem xI_33 : mI 33 = false := Eq.trans mI_33 rfl
theorem xB_34 : mB 34 = cX4_whereIs := Eq.trans mB_34 rfl
theorem xL_34 : mL 34 = 4 := Eq.trans mL_34 rfl
theorem xO_34 : mO 34 = 4 := Eq.trans mO_34 rfl
theorem xK_34 : mK 34 = 0 := Eq.trans mK_34 rfl
theorem xI_34 : mI 34 = false := Eq.trans mI_34 rfl
theorem xB_35 : mB 35 = cX4_putBlank := Eq.trans mB_35 rfl
theorem xL_35 : mL 35 = 4 := Eq.trans mL_35 rfl
theorem xO_35 : mO 35 = 4 := Eq.trans mO_35 rfl
theorem xK_35 : mK 35 = 5 := Eq.trans mK_35 rfl
theorem xI_35 : mI 35 = false := Eq.trans mI_35 rfl
theorem xB_36 : mB 36 = cX4_doWay := Eq.trans mB_36 rfl
theorem xL_36 : mL 36 = 3 := Eq.trans mL_36 rfl
theorem xO_36 : mO 36 = 4 := Eq.trans mO_36 rfl
theorem xK_36 : mK 36 = 5 := Eq.trans mK_36 rfl
theorem xI_36 : mI 36 = false := Eq.trans mI_36 rfl
theorem xB_37 : mB 37 = cX4_turnWhole := Eq.trans mB_37 rfl
theorem xL_37 : mL 37 = 4 := Eq.trans mL_37 rfl
theorem xO_37 : mO 37 = 4 := Eq.trans mO_37 rfl
theorem xK_37 : mK 37 = 5 := Eq.trans mK_37 rfl
theorem xI_37 : mI 37 = false := Eq.trans mI_37 rfl
theorem xB_38 : mB 38 = cX4_firstOtherwise := Eq.trans mB_38 rfl
theorem xL_38 : mL 38 = 3 := Eq.trans mL_38 rfl
theorem xO_38 : mO 38 = 4 := Eq.trans mO_38 rfl
theorem xK_38 : mK 38 = 0 := Eq.trans mK_38 rfl
theorem xI_38 : mI 38 = false := Eq.trans mI_38 rfl
theorem xB_39 : mB 39 = cX5_init := Eq.trans mB_39 rfl
theorem xL_39 : mL 39 = 1 := Eq.trans mL_39 rfl
theorem xO_39 : mO 39 = 5 := Eq.trans mO_39 rfl
theorem xK_39 : mK 39 = 5 := Eq.trans mK_39 rfl
theorem xI_39 : mI 39 = true := Eq.trans mI_39 rfl
theorem xB_40 : mB 40 = cX5_fault := Eq.trans mB_40 rfl
theorem xL_40 : mL 40 = 1 := Eq.trans mL_40 rfl
theorem xO_40 : mO 40 = 5 := Eq.trans mO_40 rfl
theorem xK_40 : mK 40 = 0 := Eq.trans mK_40 rfl
theorem xI_40 : mI 40 = false := Eq.trans mI_40 rfl
theorem xB_41 : mB 41 = cX5_made := Eq.trans mB_41 rfl
theorem xL_41 : mL 41 = 1 := Eq.trans mL_41 rfl
theorem xO_41 : mO 41 = 5 := Eq.trans mO_41 rfl
theorem xK_41 : mK 41 = 6 := Eq.trans mK_41 rfl
theorem xI_41 : mI 41 = false := Eq.trans mI_41 rfl
theorem xB_42 : mB 42 = cX5_clauses := Eq.trans mB_42 rfl
theorem xL_42 : mL 42 = 2 := Eq.trans mL_42 rfl
theorem xO_42 : mO 42 = 5 := Eq.trans mO_42 rfl
theorem xK_42 : mK 42 = 1 := Eq.trans mK_42 rfl
theorem xI_42 : mI 42 = false := Eq.trans mI_42 rfl
theorem xB_43 : mB 43 = cX5_clause := Eq.trans mB_43 rfl
theorem xL_43 : mL 43 = 3 := Eq.trans mL_43 rfl
theorem xO_43 : mO 43 = 5 := Eq.trans mO_43 rfl
theorem xK_43 : mK 43 = 1 := Eq.trans mK_43 rfl
theorem xI_43 : mI 43 = false := Eq.trans mI_43 rfl
theorem xB_44 : mB 44 = cX5_bound := Eq.trans mB_44 rfl
theorem xL_44 : mL 44 = 3 := Eq.trans mL_44 rfl
theorem xO_44 : mO 44 = 5 := Eq.trans mO_44 rfl
theorem xK_44 : mK 44 = 1 := Eq.trans mK_44 rfl
theorem xI_44 : mI 44 = false := Eq.trans mI_44 rfl
theorem xB_45 : mB 45 = cX5_anyOf := Eq.trans mB_45 rfl
theorem xL_45 : mL 45 = 2 := Eq.trans mL_45 rfl
theorem xO_45 : mO 45 = 5 := Eq.trans mO_45 rfl
theorem xK_45 : mK 45 = 1 := Eq.trans mK_45 rfl
theorem xI_45 : mI 45 = false := Eq.trans mI_45 rfl
theorem xB_46 : mB 46 = cX5_allOf := Eq.trans mB_46 rfl
theorem xL_46 : mL 46 = 2 := Eq.trans mL_46 rfl
theorem xO_46 : mO 46 = 5 := Eq.trans mO_46 rfl
theorem xK_46 : mK 46 = 1 := Eq.trans mK_46 rfl
theorem xI_46 : mI 46 = false := Eq.trans mI_46 rfl
theorem xB_47 : mB 47 = cX5_one := Eq.trans mB_47 rfl
theorem xL_47 : mL 47 = 3 := Eq.trans mL_47 rfl
theorem xO_47 : mO 47 = 5 := Eq.trans mO_47 rfl
theorem xK_47 : mK 47 = 1 := Eq.trans mK_47 rfl
theorem xI_47 : mI 47 = false := Eq.trans mI_47 rfl
theorem xB_48 : mB 48 = cX5_test := Eq.trans mB_48 rfl
theorem xL_48 : mL 48 = 5 := Eq.trans mL_48 rfl
theorem xO_48 : mO 48 = 5 := Eq.trans mO_48 rfl
theorem xK_48 : mK 48 = 1 := Eq.trans mK_48 rfl
theorem xI_48 : mI 48 = false := Eq.trans mI_48 rfl
theorem xB_49 : mB 49 = cX5_word := Eq.trans mB_49 rfl
theorem xL_49 : mL 49 = 4 := Eq.trans mL_49 rfl
theorem xO_49 : mO 49 = 5 := Eq.trans mO_49 rfl
theorem xK_49 : mK 49 = 0 := Eq.trans mK_49 rfl
theorem xI_49 : mI 49 = false := Eq.trans mI_49 rfl
theorem xB_50 : mB 50 = cX5_number := Eq.trans mB_50 rfl
theorem xL_50 : mL 50 = 4 := Eq.trans mL_50 rfl
theorem xO_50 : mO 50 = 5 := Eq.trans mO_50 rfl
theorem xK_50 : mK 50 = 0 := Eq.trans mK_50 rfl
theorem xI_50 : mI 50 = false := Eq.trans mI_50 rfl
theorem xB_51 : mB 51 = cX5_sign := Eq.trans mB_51 rfl
theorem xL_51 : mL 51 = 1 := Eq.trans mL_51 rfl
theorem xO_51 : mO 51 = 5 := Eq.trans mO_51 rfl
theorem xK_51 : mK 51 = 0 := Eq.trans mK_51 rfl
theorem xI_51 : mI 51 = false := Eq.trans mI_51 rfl
theorem xB_52 : mB 52 = cX6_init := Eq.trans mB_52 rfl
theorem xL_52 : mL 52 = 2 := Eq.trans mL_52 rfl
theorem xO_52 : mO 52 = 6 := Eq.trans mO_52 rfl
theorem xK_52 : mK 52 = 5 := Eq.trans mK_52 rfl
theorem xI_52 : mI 52 = true := Eq.trans mI_52 rfl
theorem xB_53 : mB 53 = cX6_copyFrom := Eq.trans mB_53 rfl
theorem xL_53 : mL 53 = 3 := Eq.trans mL_53 rfl
theorem xO_53 : mO 53 = 6 := Eq.trans mO_53 rfl
theorem xK_53 : mK 53 = 5 := Eq.trans mK_53 rfl
theorem xI_53 : mI 53 = false := Eq.trans mI_53 rfl
theorem xB_54 : mB 54 = cX7_init := Eq.trans mB_54 rfl
theorem xL_54 : mL 54 = 1 := Eq.trans mL_54 rfl
theorem xO_54 : mO 54 = 7 := Eq.trans mO_54 rfl
theorem xK_54 : mK 54 = 5 := Eq.trans mK_54 rfl
theorem xI_54 : mI 54 = true := Eq.trans mI_54 rfl
theorem xB_55 : mB 55 = cX7_add := Eq.trans mB_55 rfl
theorem xL_55 : mL 55 = 2 := Eq.trans mL_55 rfl
theorem xO_55 : mO 55 = 7 := Eq.trans mO_55 rfl
theorem xK_55 : mK 55 = 5 := Eq.trans mK_55 rfl
theorem xI_55 : mI 55 = false := Eq.trans mI_55 rfl
theorem xB_56 : mB 56 = cX8_init := Eq.trans mB_56 rfl
theorem xL_56 : mL 56 = 1 := Eq.trans mL_56 rfl
theorem xO_56 : mO 56 = 8 := Eq.trans mO_56 rfl
theorem xK_56 : mK 56 = 5 := Eq.trans mK_56 rfl
theorem xI_56 : mI 56 = true := Eq.trans mI_56 rfl
theorem xB_57 : mB 57 = cX8_isRow := Eq.trans mB_57 rfl
theorem xL_57 : mL 57 = 1 := Eq.trans mL_57 rfl
theorem xO_57 : mO 57 = 8 := Eq.trans mO_57 rfl
theorem xK_57 : mK 57 = 1 := Eq.trans mK_57 rfl
theorem xI_57 : mI 57 = false := Eq.trans mI_57 rfl
theorem xB_58 : mB 58 = cX8_has := Eq.trans mB_58 rfl
theorem xL_58 : mL 58 = 2 := Eq.trans mL_58 rfl
theorem xO_58 : mO 58 = 8 := Eq.trans mO_58 rfl
theorem xK_58 : mK 58 = 1 := Eq.trans mK_58 rfl
theorem xI_58 : mI 58 = false := Eq.trans mI_58 rfl
theorem xB_59 : mB 59 = cX8_begin := Eq.trans mB_59 rfl
theorem xL_59 : mL 59 = 3 := Eq.trans mL_59 rfl
theorem xO_59 : mO 59 = 8 := Eq.trans mO_59 rfl
theorem xK_59 : mK 59 = 5 := Eq.trans mK_59 rfl
theorem xI_59 : mI 59 = false := Eq.trans mI_59 rfl
theorem xB_60 : mB 60 = cX8_asItem := Eq.trans mB_60 rfl
theorem xL_60 : mL 60 = 3 := Eq.trans mL_60 rfl
theorem xO_60 : mO 60 = 8 := Eq.trans mO_60 rfl
theorem xK_60 : mK 60 = 4 := Eq.trans mK_60 rfl
theorem xI_60 : mI 60 = false := Eq.trans mI_60 rfl
theorem xB_61 : mB 61 = cX9_init := Eq.trans mB_61 rfl
theorem xL_61 : mL 61 = 1 := Eq.trans mL_61 rfl
theorem xO_61 : mO 61 = 9 := Eq.trans mO_61 rfl
theorem xK_61 : mK 61 = 5 := Eq.trans mK_61 rfl
theorem xI_61 : mI 61 = true := Eq.trans mI_61 rfl
theorem xB_62 : mB 62 = cX9_begin := Eq.trans mB_62 rfl
theorem xL_62 : mL 62 = 3 := Eq.trans mL_62 rfl
theorem xO_62 : mO 62 = 9 := Eq.trans mO_62 rfl
theorem xK_62 : mK 62 = 5 := Eq.trans mK_62 rfl
theorem xI_62 : mI 62 = false := Eq.trans mI_62 rfl
theorem xB_63 : mB 63 = cX9_copyFrom := Eq.trans mB_63 rfl
theorem xL_63 : mL 63 = 2 := Eq.trans mL_63 rfl
theorem xO_63 : mO 63 = 9 := Eq.trans mO_63 rfl
theorem xK_63 : mK 63 = 5 := Eq.trans mK_63 rfl
theorem xI_63 : mI 63 = false := Eq.trans mI_63 rfl
theorem xB_64 : mB 64 = cX10_init := Eq.trans mB_64 rfl
theorem xL_64 : mL 64 = 2 := Eq.trans mL_64 rfl
theorem xO_64 : mO 64 = 10 := Eq.trans mO_64 rfl
theorem xK_64 : mK 64 = 5 := Eq.trans mK_64 rfl
theorem xI_64 : mI 64 = true := Eq.trans mI_64 rfl
theorem xB_65 : mB 65 = cX10_isWithin := Eq.trans mB_65 rfl
theorem xL_65 : mL 65 = 3 := Eq.trans mL_65 rfl
theorem xO_65 : mO 65 = 10 := Eq.trans mO_65 rfl
theorem xK_65 : mK 65 = 1 := Eq.trans mK_65 rfl
theorem xI_65 : mI 65 = false := Eq.trans mI_65 rfl
theorem xB_66 : mB 66 = cX10_isTray := Eq.trans mB_66 rfl
theorem xL_66 : mL 66 = 2 := Eq.trans mL_66 rfl
theorem xO_66 : mO 66 = 10 := Eq.trans mO_66 rfl
theorem xK_66 : mK 66 = 1 := Eq.trans mK_66 rfl
theorem xI_66 : mI 66 = false := Eq.trans mI_66 rfl
theorem xB_67 : mB 67 = cX10_isJob := Eq.trans mB_67 rfl
theorem xL_67 : mL 67 = 2 := Eq.trans mL_67 rfl
theorem xO_67 : mO 67 = 10 := Eq.trans mO_67 rfl
theorem xK_67 : mK 67 = 1 := Eq.trans mK_67 rfl
theorem xI_67 : mI 67 = false := Eq.trans mI_67 rfl
theorem xB_68 : mB 68 = cX10_isSheet := Eq.trans mB_68 rfl
theorem xL_68 : mL 68 = 2 := Eq.trans mL_68 rfl
theorem xO_68 : mO 68 = 10 := Eq.trans mO_68 rfl
theorem xK_68 : mK 68 = 1 := Eq.trans mK_68 rfl
theorem xI_68 : mI 68 = false := Eq.trans mI_68 rfl
theorem xB_69 : mB 69 = cX10_isTape := Eq.trans mB_69 rfl
theorem xL_69 : mL 69 = 1 := Eq.trans mL_69 rfl
theorem xO_69 : mO 69 = 10 := Eq.trans mO_69 rfl
theorem xK_69 : mK 69 = 1 := Eq.trans mK_69 rfl
theorem xI_69 : mI 69 = false := Eq.trans mI_69 rfl
theorem xB_70 : mB 70 = cX10_isWay := Eq.trans mB_70 rfl
theorem xL_70 : mL 70 = 1 := Eq.trans mL_70 rfl
theorem xO_70 : mO 70 = 10 := Eq.trans mO_70 rfl
theorem xK_70 : mK 70 = 1 := Eq.trans mK_70 rfl
theorem xI_70 : mI 70 = false := Eq.trans mI_70 rfl
theorem xB_71 : mB 71 = cX10_isEither := Eq.trans mB_71 rfl
theorem xL_71 : mL 71 = 1 := Eq.trans mL_71 rfl
theorem xO_71 : mO 71 = 10 := Eq.trans mO_71 rfl
theorem xK_71 : mK 71 = 1 := Eq.trans mK_71 rfl
theorem xI_71 : mI 71 = false := Eq.trans mI_71 rfl
theorem xB_72 : mB 72 = cX10_isSide := Eq.trans mB_72 rfl
theorem xL_72 : mL 72 = 3 := Eq.trans mL_72 rfl
theorem xO_72 : mO 72 = 10 := Eq.trans mO_72 rfl
theorem xK_72 : mK 72 = 1 := Eq.trans mK_72 rfl
theorem xI_72 : mI 72 = false := Eq.trans mI_72 rfl
theorem xB_73 : mB 73 = cX10_tray := Eq.trans mB_73 rfl
theorem xL_73 : mL 73 = 3 := Eq.trans mL_73 rfl
theorem xO_73 : mO 73 = 10 := Eq.trans mO_73 rfl
theorem xK_73 : mK 73 = 0 := Eq.trans mK_73 rfl
theorem xI_73 : mI 73 = false := Eq.trans mI_73 rfl
theorem xB_74 : mB 74 = cX10_of := Eq.trans mB_74 rfl
theorem xL_74 : mL 74 = 3 := Eq.trans mL_74 rfl
theorem xO_74 : mO 74 = 10 := Eq.trans mO_74 rfl
theorem xK_74 : mK 74 = 0 := Eq.trans mK_74 rfl
theorem xI_74 : mI 74 = false := Eq.trans mI_74 rfl
theorem xB_75 : mB 75 = cX10_row := Eq.trans mB_75 rfl
theorem xL_75 : mL 75 = 5 := Eq.trans mL_75 rfl
theorem xO_75 : mO 75 = 10 := Eq.trans mO_75 rfl
theorem xK_75 : mK 75 = 0 := Eq.trans mK_75 rfl
theorem xI_75 : mI 75 = false := Eq.trans mI_75 rfl
theorem xB_76 : mB 76 = cX10_feed := Eq.trans mB_76 rfl
theorem xL_76 : mL 76 = 2 := Eq.trans mL_76 rfl
theorem xO_76 : mO 76 = 10 := Eq.trans mO_76 rfl
theorem xK_76 : mK 76 = 0 := Eq.trans mK_76 rfl
theorem xI_76 : mI 76 = false := Eq.trans mI_76 rfl
theorem xB_77 : mB 77 = cX10_job := Eq.trans mB_77 rfl
theorem xL_77 : mL 77 = 2 := Eq.trans mL_77 rfl
theorem xO_77 : mO 77 = 10 := Eq.trans mO_77 rfl
theorem xK_77 : mK 77 = 0 := Eq.trans mK_77 rfl
theorem xI_77 : mI 77 = false := Eq.trans mI_77 rfl
theorem xB_78 : mB 78 = cX10_load := Eq.trans mB_78 rfl
theorem xL_78 : mL 78 = 2 := Eq.trans mL_78 rfl
theorem xO_78 : mO 78 = 10 := Eq.trans mO_78 rfl
theorem xK_78 : mK 78 = 0 := Eq.trans mK_78 rfl
theorem xI_78 : mI 78 = false := Eq.trans mI_78 rfl
theorem xB_79 : mB 79 = cX10_empty := Eq.trans mB_79 rfl
theorem xL_79 : mL 79 = 2 := Eq.trans mL_79 rfl
theorem xO_79 : mO 79 = 10 := Eq.trans mO_79 rfl
theorem xK_79 : mK 79 = 0 := Eq.trans mK_79 rfl
theorem xI_79 : mI 79 = false := Eq.trans mI_79 rfl
theorem xB_80 : mB 80 = cX10_turn := Eq.trans mB_80 rfl
theorem xL_80 : mL 80 = 2 := Eq.trans mL_80 rfl
theorem xO_80 : mO 80 = 10 := Eq.trans mO_80 rfl
theorem xK_80 : mK 80 = 0 := Eq.trans mK_80 rfl
theorem xI_80 : mI 80 = false := Eq.trans mI_80 rfl
theorem xB_81 : mB 81 = cX10_sheet := Eq.trans mB_81 rfl
theorem xL_81 : mL 81 = 3 := Eq.trans mL_81 rfl
theorem xO_81 : mO 81 = 10 := Eq.trans mO_81 rfl
theorem xK_81 : mK 81 = 0 := Eq.trans mK_81 rfl
theorem xI_81 : mI 81 = false := Eq.trans mI_81 rfl
theorem xB_82 : mB 82 = cX10_told := Eq.trans mB_82 rfl
theorem xL_82 : mL 82 = 2 := Eq.trans mL_82 rfl
theorem xO_82 : mO 82 = 10 := Eq.trans mO_82 rfl
theorem xK_82 : mK 82 = 0 := Eq.trans mK_82 rfl
theorem xI_82 : mI 82 = false := Eq.trans mI_82 rfl
theorem xB_83 : mB 83 = cX10_jobs := Eq.trans mB_83 rfl
theorem xL_83 : mL 83 = 3 := Eq.trans mL_83 rfl
theorem xO_83 : mO 83 = 10 := Eq.trans mO_83 rfl
theorem xK_83 : mK 83 = 0 := Eq.trans mK_83 rfl
theorem xI_83 : mI 83 = false := Eq.trans mI_83 rfl
theorem xB_84 : mB 84 = cX10_run := Eq.trans mB_84 rfl
theorem xL_84 : mL 84 = 4 := Eq.trans mL_84 rfl
theorem xO_84 : mO 84 = 10 := Eq.trans mO_84 rfl
theorem xK_84 : mK 84 = 0 := Eq.trans mK_84 rfl
theorem xI_84 : mI 84 = false := Eq.trans mI_84 rfl
theorem xB_85 : mB 85 = cX10_tryRun := Eq.trans mB_85 rfl
theorem xL_85 : mL 85 = 4 := Eq.trans mL_85 rfl
theorem xO_85 : mO 85 = 10 := Eq.trans mO_85 rfl
theorem xK_85 : mK 85 = 5 := Eq.trans mK_85 rfl
theorem xI_85 : mI 85 = false := Eq.trans mI_85 rfl
theorem xB_86 : mB 86 = cX10_rightsAfter := Eq.trans mB_86 rfl
theorem xL_86 : mL 86 = 3 := Eq.trans mL_86 rfl
theorem xO_86 : mO 86 = 10 := Eq.trans mO_86 rfl
theorem xK_86 : mK 86 = 0 := Eq.trans mK_86 rfl
theorem xI_86 : mI 86 = false := Eq.trans mI_86 rfl
theorem xB_87 : mB 87 = cX10_rightsBehind := Eq.trans mB_87 rfl
theorem xL_87 : mL 87 = 4 := Eq.trans mL_87 rfl
theorem xO_87 : mO 87 = 10 := Eq.trans mO_87 rfl
theorem xK_87 : mK 87 = 0 := Eq.trans mK_87 rfl
theorem xI_87 : mI 87 = false := Eq.trans mI_87 rfl
theorem xB_88 : mB 88 = cX10_after := Eq.trans mB_88 rfl
theorem xL_88 : mL 88 = 4 := Eq.trans mL_88 rfl
theorem xO_88 : mO 88 = 10 := Eq.trans mO_88 rfl
theorem xK_88 : mK 88 = 0 := Eq.trans mK_88 rfl
theorem xI_88 : mI 88 = false := Eq.trans mI_88 rfl
theorem xB_89 : mB 89 = cX10_best := Eq.trans mB_89 rfl
theorem xL_89 : mL 89 = 6 := Eq.trans mL_89 rfl
theorem xO_89 : mO 89 = 10 := Eq.trans mO_89 rfl
theorem xK_89 : mK 89 = 0 := Eq.trans mK_89 rfl
theorem xI_89 : mI 89 = false := Eq.trans mI_89 rfl
theorem xB_90 : mB 90 = cX10_uses := Eq.trans mB_90 rfl
theorem xL_90 : mL 90 = 3 := Eq.trans mL_90 rfl
theorem xO_90 : mO 90 = 10 := Eq.trans mO_90 rfl
theorem xK_90 : mK 90 = 0 := Eq.trans mK_90 rfl
theorem xI_90 : mI 90 = false := Eq.trans mI_90 rfl
theorem xB_91 : mB 91 = cX10_way := Eq.trans mB_91 rfl
theorem xL_91 : mL 91 = 10 := Eq.trans mL_91 rfl
theorem xO_91 : mO 91 = 10 := Eq.trans mO_91 rfl
theorem xK_91 : mK 91 = 0 := Eq.trans mK_91 rfl
theorem xI_91 : mI 91 = false := Eq.trans mI_91 rfl
theorem xB_92 : mB 92 = cX10_twice := Eq.trans mB_92 rfl
theorem xL_92 : mL 92 = 10 := Eq.trans mL_92 rfl
theorem xO_92 : mO 92 = 10 := Eq.trans mO_92 rfl
theorem xK_92 : mK 92 = 0 := Eq.trans mK_92 rfl
theorem xI_92 : mI 92 = false := Eq.trans mI_92 rfl
theorem xB_93 : mB 93 = cX10_find := Eq.trans mB_93 rfl
theorem xL_93 : mL 93 = 2 := Eq.trans mL_93 rfl
theorem xO_93 : mO 93 = 10 := Eq.trans mO_93 rfl
theorem xK_93 : mK 93 = 0 := Eq.trans mK_93 rfl
theorem xI_93 : mI 93 = false := Eq.trans mI_93 rfl
theorem xB_94 : mB 94 = cX10_see := Eq.trans mB_94 rfl
theorem xL_94 : mL 94 = 4 := Eq.trans mL_94 rfl
theorem xO_94 : mO 94 = 10 := Eq.trans mO_94 rfl
theorem xK_94 : mK 94 = 0 := Eq.trans mK_94 rfl
theorem xI_94 : mI 94 = false := Eq.trans mI_94 rfl
theorem xB_95 : mB 95 = cX10_note := Eq.trans mB_95 rfl
theorem xL_95 : mL 95 = 4 := Eq.trans mL_95 rfl
theorem xO_95 : mO 95 = 10 := Eq.trans mO_95 rfl
theorem xK_95 : mK 95 = 0 := Eq.trans mK_95 rfl
theorem xI_95 : mI 95 = false := Eq.trans mI_95 rfl
theorem xB_96 : mB 96 = cX10_isSeenAfter := Eq.trans mB_96 rfl
theorem xL_96 : mL 96 = 4 := Eq.trans mL_96 rfl
theorem xO_96 : mO 96 = 10 := Eq.trans mO_96 rfl
theorem xK_96 : mK 96 = 1 := Eq.trans mK_96 rfl
theorem xI_96 : mI 96 = false := Eq.trans mI_96 rfl
theorem xB_97 : mB 97 = cX10_which := Eq.trans mB_97 rfl
theorem xL_97 : mL 97 = 4 := Eq.trans mL_97 rfl
theorem xO_97 : mO 97 = 10 := Eq.trans mO_97 rfl
theorem xK_97 : mK 97 = 0 := Eq.trans mK_97 rfl
theorem xI_97 : mI 97 = false := Eq.trans mI_97 rfl
theorem xB_98 : mB 98 = cX10_can := Eq.trans mB_98 rfl
theorem xL_98 : mL 98 = 7 := Eq.trans mL_98 rfl
theorem xO_98 : mO 98 = 10 := Eq.trans mO_98 rfl
theorem xK_98 : mK 98 = 0 := Eq.trans mK_98 rfl
theorem xI_98 : mI 98 = false := Eq.trans mI_98 rfl
theorem xB_99 : mB 99 = cX10_odds := Eq.trans mB_99 rfl
theorem xL_99 : mL 99 = 6 := Eq.trans mL_99 rfl
theorem xO_99 : mO 99 = 10 := Eq.trans mO_99 rfl
theorem xK_99 : mK 99 = 4 := Eq.trans mK_99 rfl
theorem xI_99 : mI 99 = false := Eq.trans mI_99 rfl
theorem xB_100 : mB 100 = cX10_mean := Eq.trans mB_100 rfl
theorem xL_100 : mL 100 = 5 := Eq.trans mL_100 rfl
theorem xO_100 : mO 100 = 10 := Eq.trans mO_100 rfl
theorem xK_100 : mK 100 = 4 := Eq.trans mK_100 rfl
theorem xI_100 : mI 100 = false := Eq.trans mI_100 rfl
theorem xB_101 : mB 101 = cX10_partInLowest := Eq.trans mB_101 rfl
theorem xL_101 : mL 101 = 5 := Eq.trans mL_101 rfl
theorem xO_101 : mO 101 = 10 := Eq.trans mO_101 rfl
theorem xK_101 : mK 101 = 4 := Eq.trans mK_101 rfl
theorem xI_101 : mI 101 = false := Eq.trans mI_101 rfl
theorem xB_102 : mB 102 = cX10_plan := Eq.trans mB_102 rfl
theorem xL_102 : mL 102 = 4 := Eq.trans mL_102 rfl
theorem xO_102 : mO 102 = 10 := Eq.trans mO_102 rfl
theorem xK_102 : mK 102 = 0 := Eq.trans mK_102 rfl
theorem xI_102 : mI 102 = false := Eq.trans mI_102 rfl
theorem xB_103 : mB 103 = cX10_done := Eq.trans mB_103 rfl
theorem xL_103 : mL 103 = 3 := Eq.trans mL_103 rfl
theorem xO_103 : mO 103 = 10 := Eq.trans mO_103 rfl
theorem xK_103 : mK 103 = 0 := Eq.trans mK_103 rfl
theorem xI_103 : mI 103 = false := Eq.trans mI_103 rfl
theorem xB_104 : mB 104 = cX10_doPlanned := Eq.trans mB_104 rfl
theorem xL_104 : mL 104 = 4 := Eq.trans mL_104 rfl
theorem xO_104 : mO 104 = 10 := Eq.trans mO_104 rfl
theorem xK_104 : mK 104 = 5 := Eq.trans mK_104 rfl
theorem xI_104 : mI 104 = false := Eq.trans mI_104 rfl
theorem xB_105 : mB 105 = cX10_book := Eq.trans mB_105 rfl
theorem xL_105 : mL 105 = 4 := Eq.trans mL_105 rfl
theorem xO_105 : mO 105 = 10 := Eq.trans mO_105 rfl
theorem xK_105 : mK 105 = 0 := Eq.trans mK_105 rfl
theorem xI_105 : mI 105 = false := Eq.trans mI_105 rfl
theorem xB_106 : mB 106 = cX10_looked := Eq.trans mB_106 rfl
theorem xL_106 : mL 106 = 1 := Eq.trans mL_106 rfl
theorem xO_106 : mO 106 = 10 := Eq.trans mO_106 rfl
theorem xK_106 : mK 106 = 0 := Eq.trans mK_106 rfl
theorem xI_106 : mI 106 = false := Eq.trans mI_106 rfl
theorem xB_107 : mB 107 = cX10_judge := Eq.trans mB_107 rfl
theorem xL_107 : mL 107 = 5 := Eq.trans mL_107 rfl
theorem xO_107 : mO 107 = 10 := Eq.trans mO_107 rfl
theorem xK_107 : mK 107 = 0 := Eq.trans mK_107 rfl
theorem xI_107 : mI 107 = false := Eq.trans mI_107 rfl
theorem xB_108 : mB 108 = cX10_image := Eq.trans mB_108 rfl
theorem xL_108 : mL 108 = 1 := Eq.trans mL_108 rfl
theorem xO_108 : mO 108 = 10 := Eq.trans mO_108 rfl
theorem xK_108 : mK 108 = 0 := Eq.trans mK_108 rfl
theorem xI_108 : mI 108 = false := Eq.trans mI_108 rfl
theorem xB_109 : mB 109 = cX10_undo := Eq.trans mB_109 rfl
theorem xL_109 : mL 109 = 1 := Eq.trans mL_109 rfl
theorem xO_109 : mO 109 = 10 := Eq.trans mO_109 rfl
theorem xK_109 : mK 109 = 0 := Eq.trans mK_109 rfl
theorem xI_109 : mI 109 = false := Eq.trans mI_109 rfl
theorem xB_110 : mB 110 = cX10_act := Eq.trans mB_110 rfl
theorem xL_110 : mL 110 = 4 := Eq.trans mL_110 rfl
theorem xO_110 : mO 110 = 10 := Eq.trans mO_110 rfl
theorem xK_110 : mK 110 = 0 := Eq.trans mK_110 rfl
theorem xI_110 : mI 110 = false := Eq.trans mI_110 rfl
theorem xB_111 : mB 111 = cX10_trace := Eq.trans mB_111 rfl
theorem xL_111 : mL 111 = 2 := Eq.trans mL_111 rfl
theorem xO_111 : mO 111 = 10 := Eq.trans mO_111 rfl
theorem xK_111 : mK 111 = 0 := Eq.trans mK_111 rfl
theorem xI_111 : mI 111 = false := Eq.trans mI_111 rfl
theorem xB_112 : mB 112 = cX10_taken := Eq.trans mB_112 rfl
theorem xL_112 : mL 112 = 4 := Eq.trans mL_112 rfl
theorem xO_112 : mO 112 = 10 := Eq.trans mO_112 rfl
theorem xK_112 : mK 112 = 0 := Eq.trans mK_112 rfl
theorem xI_112 : mI 112 = false := Eq.trans mI_112 rfl
theorem xB_113 : mB 113 = cX10_isKindOrUnder := Eq.trans mB_113 rfl
theorem xL_113 : mL 113 = 4 := Eq.trans mL_113 rfl
theorem xO_113 : mO 113 = 10 := Eq.trans mO_113 rfl
theorem xK_113 : mK 113 = 1 := Eq.trans mK_113 rfl
theorem xI_113 : mI 113 = false := Eq.trans mI_113 rfl
theorem xB_114 : mB 114 = cX10_count := Eq.trans mB_114 rfl
theorem xL_114 : mL 114 = 2 := Eq.trans mL_114 rfl
theorem xO_114 : mO 114 = 10 := Eq.trans mO_114 rfl
theorem xK_114 : mK 114 = 0 := Eq.trans mK_114 rfl
theorem xI_114 : mI 114 = false := Eq.trans mI_114 rfl
theorem xB_115 : mB 115 = cX10_tape := Eq.trans mB_115 rfl
theorem xL_115 : mL 115 = 4 := Eq.trans mL_115 rfl
theorem xO_115 : mO 115 = 10 := Eq.trans mO_115 rfl
theorem xK_115 : mK 115 = 0 := Eq.trans mK_115 rfl
theorem xI_115 : mI 115 = false := Eq.trans mI_115 rfl
theorem xB_116 : mB 116 = cX10_item := Eq.trans mB_116 rfl
theorem xL_116 : mL 116 = 6 := Eq.trans mL_116 rfl
theorem xO_116 : mO 116 = 10 := Eq.trans mO_116 rfl
theorem xK_116 : mK 116 = 0 := Eq.trans mK_116 rfl
theorem xI_116 : mI 116 = false := Eq.trans mI_116 rfl
theorem xB_117 : mB 117 = cX10_read := Eq.trans mB_117 rfl
theorem xL_117 : mL 117 = 3 := Eq.trans mL_117 rfl
theorem xO_117 : mO 117 = 10 := Eq.trans mO_117 rfl
theorem xK_117 : mK 117 = 4 := Eq.trans mK_117 rfl
theorem xI_117 : mI 117 = false := Eq.trans mI_117 rfl
theorem xB_118 : mB 118 = cX10_shift := Eq.trans mB_118 rfl
theorem xL_118 : mL 118 = 8 := Eq.trans mL_118 rfl
theorem xO_118 : mO 118 = 10 := Eq.trans mO_118 rfl
theorem xK_118 : mK 118 = 0 := Eq.trans mK_118 rfl
theorem xI_118 : mI 118 = false := Eq.trans mI_118 rfl
theorem xB_119 : mB 119 = cX11_init := Eq.trans mB_119 rfl
theorem xL_119 : mL 119 = 1 := Eq.trans mL_119 rfl
theorem xO_119 : mO 119 = 11 := Eq.trans mO_119 rfl
theorem xK_119 : mK 119 = 5 := Eq.trans mK_119 rfl
theorem xI_119 : mI 119 = true := Eq.trans mI_119 rfl
theorem xB_120 : mB 120 = cX11_in := Eq.trans mB_120 rfl
theorem xL_120 : mL 120 = 4 := Eq.trans mL_120 rfl
theorem xO_120 : mO 120 = 11 := Eq.trans mO_120 rfl
theorem xK_120 : mK 120 = 1 := Eq.trans mK_120 rfl
theorem xI_120 : mI 120 = false := Eq.trans mI_120 rfl
theorem xB_121 : mB 121 = cX11_isTray := Eq.trans mB_121 rfl
theorem xL_121 : mL 121 = 2 := Eq.trans mL_121 rfl
theorem xO_121 : mO 121 = 11 := Eq.trans mO_121 rfl
theorem xK_121 : mK 121 = 1 := Eq.trans mK_121 rfl
theorem xI_121 : mI 121 = false := Eq.trans mI_121 rfl
theorem xB_122 : mB 122 = cX11_tray := Eq.trans mB_122 rfl
theorem xL_122 : mL 122 = 4 := Eq.trans mL_122 rfl
theorem xO_122 : mO 122 = 11 := Eq.trans mO_122 rfl
theorem xK_122 : mK 122 = 0 := Eq.trans mK_122 rfl
theorem xI_122 : mI 122 = false := Eq.trans mI_122 rfl
theorem xB_123 : mB 123 = cX11_of := Eq.trans mB_123 rfl
theorem xL_123 : mL 123 = 3 := Eq.trans mL_123 rfl
theorem xO_123 : mO 123 = 11 := Eq.trans mO_123 rfl
theorem xK_123 : mK 123 = 0 := Eq.trans mK_123 rfl
theorem xI_123 : mI 123 = false := Eq.trans mI_123 rfl
theorem xB_124 : mB 124 = cX11_row := Eq.trans mB_124 rfl
theorem xL_124 : mL 124 = 5 := Eq.trans mL_124 rfl
theorem xO_124 : mO 124 = 11 := Eq.trans mO_124 rfl
theorem xK_124 : mK 124 = 0 := Eq.trans mK_124 rfl
theorem xI_124 : mI 124 = false := Eq.trans mI_124 rfl
theorem xB_125 : mB 125 = cX11_feed := Eq.trans mB_125 rfl
theorem xL_125 : mL 125 = 2 := Eq.trans mL_125 rfl
theorem xO_125 : mO 125 = 11 := Eq.trans mO_125 rfl
theorem xK_125 : mK 125 = 0 := Eq.trans mK_125 rfl
theorem xI_125 : mI 125 = false := Eq.trans mI_125 rfl
theorem xB_126 : mB 126 = cX11_next := Eq.trans mB_126 rfl
theorem xL_126 : mL 126 = 1 := Eq.trans mL_126 rfl
theorem xO_126 : mO 126 = 11 := Eq.trans mO_126 rfl
theorem xK_126 : mK 126 = 0 := Eq.trans mK_126 rfl
theorem xI_126 : mI 126 = false := Eq.trans mI_126 rfl
theorem xB_127 : mB 127 = cX11_second := Eq.trans mB_127 rfl
theorem xL_127 : mL 127 = 1 := Eq.trans mL_127 rfl
theorem xO_127 : mO 127 = 11 := Eq.trans mO_127 rfl
theorem xK_127 : mK 127 = 0 := Eq.trans mK_127 rfl
theorem xI_127 : mI 127 = false := Eq.trans mI_127 rfl
theorem xB_128 : mB 128 = cX11_takes := Eq.trans mB_128 rfl
theorem xL_128 : mL 128 = 2 := Eq.trans mL_128 rfl
theorem xO_128 : mO 128 = 11 := Eq.trans mO_128 rfl
theorem xK_128 : mK 128 = 1 := Eq.trans mK_128 rfl
theorem xI_128 : mI 128 = false := Eq.trans mI_128 rfl
theorem xB_129 : mB 129 = cX11_takesWord := Eq.trans mB_129 rfl
theorem xL_129 : mL 129 = 4 := Eq.trans mL_129 rfl
theorem xO_129 : mO 129 = 11 := Eq.trans mO_129 rfl
theorem xK_129 : mK 129 = 1 := Eq.trans mK_129 rfl
theorem xI_129 : mI 129 = false := Eq.trans mI_129 rfl
theorem xB_130 : mB 130 = cX11_isDigit := Eq.trans mB_130 rfl
theorem xL_130 : mL 130 = 1 := Eq.trans mL_130 rfl
theorem xO_130 : mO 130 = 11 := Eq.trans mO_130 rfl
theorem xK_130 : mK 130 = 1 := Eq.trans mK_130 rfl
theorem xI_130 : mI 130 = false := Eq.trans mI_130 rfl
theorem xB_131 : mB 131 = cX11_takesNumber := Eq.trans mB_131 rfl
theorem xL_131 : mL 131 = 2 := Eq.trans mL_131 rfl
theorem xO_131 : mO 131 = 11 := Eq.trans mO_131 rfl
theorem xK_131 : mK 131 = 1 := Eq.trans mK_131 rfl
theorem xI_131 : mI 131 = false := Eq.trans mI_131 rfl
theorem xB_132 : mB 132 = cX11_emits := Eq.trans mB_132 rfl
theorem xL_132 : mL 132 = 2 := Eq.trans mL_132 rfl
theorem xO_132 : mO 132 = 11 := Eq.trans mO_132 rfl
theorem xK_132 : mK 132 = 5 := Eq.trans mK_132 rfl
theorem xI_132 : mI 132 = false := Eq.trans mI_132 rfl
theorem xB_133 : mB 133 = cX11_whole := Eq.trans mB_133 rfl
theorem xL_133 : mL 133 = 1 := Eq.trans mL_133 rfl
theorem xO_133 : mO 133 = 11 := Eq.trans mO_133 rfl
theorem xK_133 : mK 133 = 5 := Eq.trans mK_133 rfl
theorem xI_133 : mI 133 = false := Eq.trans mI_133 rfl
theorem xB_134 : mB 134 = cX11_settle := Eq.trans mB_134 rfl
theorem xL_134 : mL 134 = 2 := Eq.trans mL_134 rfl
theorem xO_134 : mO 134 = 11 := Eq.trans mO_134 rfl
theorem xK_134 : mK 134 = 5 := Eq.trans mK_134 rfl
theorem xI_134 : mI 134 = false := Eq.trans mI_134 rfl
theorem xB_135 : mB 135 = cX11_place := Eq.trans mB_135 rfl
theorem xL_135 : mL 135 = 2 := Eq.trans mL_135 rfl
theorem xO_135 : mO 135 = 11 := Eq.trans mO_135 rfl
theorem xK_135 : mK 135 = 0 := Eq.trans mK_135 rfl
theorem xI_135 : mI 135 = false := Eq.trans mI_135 rfl
theorem xB_136 : mB 136 = cX11_takesTest := Eq.trans mB_136 rfl
theorem xL_136 : mL 136 = 3 := Eq.trans mL_136 rfl
theorem xO_136 : mO 136 = 11 := Eq.trans mO_136 rfl
theorem xK_136 : mK 136 = 1 := Eq.trans mK_136 rfl
theorem xI_136 : mI 136 = false := Eq.trans mI_136 rfl
theorem xB_137 : mB 137 = cX11_takesE := Eq.trans mB_137 rfl
theorem xL_137 : mL 137 = 4 := Eq.trans mL_137 rfl
theorem xO_137 : mO 137 = 11 := Eq.trans mO_137 rfl
theorem xK_137 : mK 137 = 1 := Eq.trans mK_137 rfl
theorem xI_137 : mI 137 = false := Eq.trans mI_137 rfl
theorem xB_138 : mB 138 = cX11_takesHead := Eq.trans mB_138 rfl
theorem xL_138 : mL 138 = 2 := Eq.trans mL_138 rfl
theorem xO_138 : mO 138 = 11 := Eq.trans mO_138 rfl
theorem xK_138 : mK 138 = 1 := Eq.trans mK_138 rfl
theorem xI_138 : mI 138 = false := Eq.trans mI_138 rfl
theorem xB_139 : mB 139 = cX11_takesClause := Eq.trans mB_139 rfl
theorem xL_139 : mL 139 = 2 := Eq.trans mL_139 rfl
theorem xO_139 : mO 139 = 11 := Eq.trans mO_139 rfl
theorem xK_139 : mK 139 = 1 := Eq.trans mK_139 rfl
theorem xI_139 : mI 139 = false := Eq.trans mI_139 rfl
theorem xB_140 : mB 140 = cX11_goesText := Eq.trans mB_140 rfl
theorem xL_140 : mL 140 = 3 := Eq.trans mL_140 rfl
theorem xO_140 : mO 140 = 11 := Eq.trans mO_140 rfl
theorem xK_140 : mK 140 = 1 := Eq.trans mK_140 rfl
theorem xI_140 : mI 140 = false := Eq.trans mI_140 rfl
theorem xB_141 : mB 141 = cX11_job := Eq.trans mB_141 rfl
theorem xL_141 : mL 141 = 2 := Eq.trans mL_141 rfl
theorem xO_141 : mO 141 = 11 := Eq.trans mO_141 rfl
theorem xK_141 : mK 141 = 0 := Eq.trans mK_141 rfl
theorem xI_141 : mI 141 = false := Eq.trans mI_141 rfl
theorem xB_142 : mB 142 = cX11_isJob := Eq.trans mB_142 rfl
theorem xL_142 : mL 142 = 2 := Eq.trans mL_142 rfl
theorem xO_142 : mO 142 = 11 := Eq.trans mO_142 rfl
theorem xK_142 : mK 142 = 1 := Eq.trans mK_142 rfl
theorem xI_142 : mI 142 = false := Eq.trans mI_142 rfl
theorem xB_143 : mB 143 = cX11_lastOf := Eq.trans mB_143 rfl
theorem xL_143 : mL 143 = 6 := Eq.trans mL_143 rfl
theorem xO_143 : mO 143 = 11 := Eq.trans mO_143 rfl
theorem xK_143 : mK 143 = 0 := Eq.trans mK_143 rfl
theorem xI_143 : mI 143 = false := Eq.trans mI_143 rfl
theorem xB_144 : mB 144 = cX11_first := Eq.trans mB_144 rfl
theorem xL_144 : mL 144 = 3 := Eq.trans mL_144 rfl
theorem xO_144 : mO 144 = 11 := Eq.trans mO_144 rfl
theorem xK_144 : mK 144 = 0 := Eq.trans mK_144 rfl
theorem xI_144 : mI 144 = false := Eq.trans mI_144 rfl
theorem xB_145 : mB 145 = cX11_last := Eq.trans mB_145 rfl
theorem xL_145 : mL 145 = 3 := Eq.trans mL_145 rfl
theorem xO_145 : mO 145 = 11 := Eq.trans mO_145 rfl
theorem xK_145 : mK 145 = 0 := Eq.trans mK_145 rfl
theorem xI_145 : mI 145 = false := Eq.trans mI_145 rfl
theorem xB_146 : mB 146 = cX11_jobs := Eq.trans mB_146 rfl
theorem xL_146 : mL 146 = 3 := Eq.trans mL_146 rfl
theorem xO_146 : mO 146 = 11 := Eq.trans mO_146 rfl
theorem xK_146 : mK 146 = 0 := Eq.trans mK_146 rfl
theorem xI_146 : mI 146 = false := Eq.trans mI_146 rfl
theorem xB_147 : mB 147 = cX11_factOf := Eq.trans mB_147 rfl
theorem xL_147 : mL 147 = 5 := Eq.trans mL_147 rfl
theorem xO_147 : mO 147 = 11 := Eq.trans mO_147 rfl
theorem xK_147 : mK 147 = 0 := Eq.trans mK_147 rfl
theorem xI_147 : mI 147 = false := Eq.trans mI_147 rfl
theorem xB_148 : mB 148 = cX11_holds := Eq.trans mB_148 rfl
theorem xL_148 : mL 148 = 10 := Eq.trans mL_148 rfl
theorem xO_148 : mO 148 = 11 := Eq.trans mO_148 rfl
theorem xK_148 : mK 148 = 1 := Eq.trans mK_148 rfl
theorem xI_148 : mI 148 = false := Eq.trans mI_148 rfl
theorem xB_149 : mB 149 = cX11_anyHolds := Eq.trans mB_149 rfl
theorem xL_149 : mL 149 = 7 := Eq.trans mL_149 rfl
theorem xO_149 : mO 149 = 11 := Eq.trans mO_149 rfl
theorem xK_149 : mK 149 = 1 := Eq.trans mK_149 rfl
theorem xI_149 : mI 149 = false := Eq.trans mI_149 rfl
theorem xB_150 : mB 150 = cX11_over := Eq.trans mB_150 rfl
theorem xL_150 : mL 150 = 4 := Eq.trans mL_150 rfl
theorem xO_150 : mO 150 = 11 := Eq.trans mO_150 rfl
theorem xK_150 : mK 150 = 5 := Eq.trans mK_150 rfl
theorem xI_150 : mI 150 = false := Eq.trans mI_150 rfl
theorem xB_151 : mB 151 = cX11_about := Eq.trans mB_151 rfl
theorem xL_151 : mL 151 = 2 := Eq.trans mL_151 rfl
theorem xO_151 : mO 151 = 11 := Eq.trans mO_151 rfl
theorem xK_151 : mK 151 = 5 := Eq.trans mK_151 rfl
theorem xI_151 : mI 151 = false := Eq.trans mI_151 rfl
theorem xB_152 : mB 152 = cX11_loads := Eq.trans mB_152 rfl
theorem xL_152 : mL 152 = 3 := Eq.trans mL_152 rfl
theorem xO_152 : mO 152 = 11 := Eq.trans mO_152 rfl
theorem xK_152 : mK 152 = 5 := Eq.trans mK_152 rfl
theorem xI_152 : mI 152 = false := Eq.trans mI_152 rfl
theorem xB_153 : mB 153 = cX11_load := Eq.trans mB_153 rfl
theorem xL_153 : mL 153 = 2 := Eq.trans mL_153 rfl
theorem xO_153 : mO 153 = 11 := Eq.trans mO_153 rfl
theorem xK_153 : mK 153 = 0 := Eq.trans mK_153 rfl
theorem xI_153 : mI 153 = false := Eq.trans mI_153 rfl
theorem xB_154 : mB 154 = cX11_empty := Eq.trans mB_154 rfl
theorem xL_154 : mL 154 = 2 := Eq.trans mL_154 rfl
theorem xO_154 : mO 154 = 11 := Eq.trans mO_154 rfl
theorem xK_154 : mK 154 = 0 := Eq.trans mK_154 rfl
theorem xI_154 : mI 154 = false := Eq.trans mI_154 rfl
theorem xB_155 : mB 155 = cX11_turnsOver := Eq.trans mB_155 rfl
theorem xL_155 : mL 155 = 6 := Eq.trans mL_155 rfl
theorem xO_155 : mO 155 = 11 := Eq.trans mO_155 rfl
theorem xK_155 : mK 155 = 5 := Eq.trans mK_155 rfl
theorem xI_155 : mI 155 = false := Eq.trans mI_155 rfl
theorem xB_156 : mB 156 = cX11_goWay := Eq.trans mB_156 rfl
theorem xL_156 : mL 156 = 3 := Eq.trans mL_156 rfl
theorem xO_156 : mO 156 = 11 := Eq.trans mO_156 rfl
theorem xK_156 : mK 156 = 5 := Eq.trans mK_156 rfl
theorem xI_156 : mI 156 = false := Eq.trans mI_156 rfl
theorem xB_157 : mB 157 = cX11_isRight := Eq.trans mB_157 rfl
theorem xL_157 : mL 157 = 2 := Eq.trans mL_157 rfl
theorem xO_157 : mO 157 = 11 := Eq.trans mO_157 rfl
theorem xK_157 : mK 157 = 1 := Eq.trans mK_157 rfl
theorem xI_157 : mI 157 = false := Eq.trans mI_157 rfl
theorem xB_158 : mB 158 = cX11_right := Eq.trans mB_158 rfl
theorem xL_158 : mL 158 = 3 := Eq.trans mL_158 rfl
theorem xO_158 : mO 158 = 11 := Eq.trans mO_158 rfl
theorem xK_158 : mK 158 = 0 := Eq.trans mK_158 rfl
theorem xI_158 : mI 158 = false := Eq.trans mI_158 rfl
theorem xB_159 : mB 159 = cX11_sidesWith := Eq.trans mB_159 rfl
theorem xL_159 : mL 159 = 4 := Eq.trans mL_159 rfl
theorem xO_159 : mO 159 = 11 := Eq.trans mO_159 rfl
theorem xK_159 : mK 159 = 0 := Eq.trans mK_159 rfl
theorem xI_159 : mI 159 = false := Eq.trans mI_159 rfl
theorem xB_160 : mB 160 = cX11_turn := Eq.trans mB_160 rfl
theorem xL_160 : mL 160 = 2 := Eq.trans mL_160 rfl
theorem xO_160 : mO 160 = 11 := Eq.trans mO_160 rfl
theorem xK_160 : mK 160 = 0 := Eq.trans mK_160 rfl
theorem xI_160 : mI 160 = false := Eq.trans mI_160 rfl
theorem xB_161 : mB 161 = cX11_sheet := Eq.trans mB_161 rfl
theorem xL_161 : mL 161 = 3 := Eq.trans mL_161 rfl
theorem xO_161 : mO 161 = 11 := Eq.trans mO_161 rfl
theorem xK_161 : mK 161 = 0 := Eq.trans mK_161 rfl
theorem xI_161 : mI 161 = false := Eq.trans mI_161 rfl
theorem xB_162 : mB 162 = cX11_missing := Eq.trans mB_162 rfl
theorem xL_162 : mL 162 = 3 := Eq.trans mL_162 rfl
theorem xO_162 : mO 162 = 11 := Eq.trans mO_162 rfl
theorem xK_162 : mK 162 = 0 := Eq.trans mK_162 rfl
theorem xI_162 : mI 162 = false := Eq.trans mI_162 rfl
theorem xB_163 : mB 163 = cX11_told := Eq.trans mB_163 rfl
theorem xL_163 : mL 163 = 2 := Eq.trans mL_163 rfl
theorem xO_163 : mO 163 = 11 := Eq.trans mO_163 rfl
theorem xK_163 : mK 163 = 0 := Eq.trans mK_163 rfl
theorem xI_163 : mI 163 = false := Eq.trans mI_163 rfl
theorem xB_164 : mB 164 = cX11_prints := Eq.trans mB_164 rfl
theorem xL_164 : mL 164 = 5 := Eq.trans mL_164 rfl
theorem xO_164 : mO 164 = 11 := Eq.trans mO_164 rfl
theorem xK_164 : mK 164 = 5 := Eq.trans mK_164 rfl
theorem xI_164 : mI 164 = false := Eq.trans mI_164 rfl
theorem xB_165 : mB 165 = cX11_putsOut := Eq.trans mB_165 rfl
theorem xL_165 : mL 165 = 4 := Eq.trans mL_165 rfl
theorem xO_165 : mO 165 = 11 := Eq.trans mO_165 rfl
theorem xK_165 : mK 165 = 5 := Eq.trans mK_165 rfl
theorem xI_165 : mI 165 = false := Eq.trans mI_165 rfl
theorem xB_166 : mB 166 = cX11_goesOn := Eq.trans mB_166 rfl
theorem xL_166 : mL 166 = 5 := Eq.trans mL_166 rfl
theorem xO_166 : mO 166 = 11 := Eq.trans mO_166 rfl
theorem xK_166 : mK 166 = 0 := Eq.trans mK_166 rfl
theorem xI_166 : mI 166 = false := Eq.trans mI_166 rfl
theorem xB_167 : mB 167 = cX11_told1 := Eq.trans mB_167 rfl
theorem xL_167 : mL 167 = 4 := Eq.trans mL_167 rfl
theorem xO_167 : mO 167 = 11 := Eq.trans mO_167 rfl
theorem xK_167 : mK 167 = 0 := Eq.trans mK_167 rfl
theorem xI_167 : mI 167 = false := Eq.trans mI_167 rfl
theorem xB_168 : mB 168 = cX11_goRun := Eq.trans mB_168 rfl
theorem xL_168 : mL 168 = 9 := Eq.trans mL_168 rfl
theorem xO_168 : mO 168 = 11 := Eq.trans mO_168 rfl
theorem xK_168 : mK 168 = 5 := Eq.trans mK_168 rfl
theorem xI_168 : mI 168 = false := Eq.trans mI_168 rfl
theorem xB_169 : mB 169 = cX11_run := Eq.trans mB_169 rfl
theorem xL_169 : mL 169 = 3 := Eq.trans mL_169 rfl
theorem xO_169 : mO 169 = 11 := Eq.trans mO_169 rfl
theorem xK_169 : mK 169 = 0 := Eq.trans mK_169 rfl
theorem xI_169 : mI 169 = false := Eq.trans mI_169 rfl
theorem xB_170 : mB 170 = cX11_save := Eq.trans mB_170 rfl
theorem xL_170 : mL 170 = 2 := Eq.trans mL_170 rfl
theorem xO_170 : mO 170 = 11 := Eq.trans mO_170 rfl
theorem xK_170 : mK 170 = 5 := Eq.trans mK_170 rfl
theorem xI_170 : mI 170 = false := Eq.trans mI_170 rfl
theorem xB_171 : mB 171 = cX11_putBack := Eq.trans mB_171 rfl
theorem xL_171 : mL 171 = 2 := Eq.trans mL_171 rfl
theorem xO_171 : mO 171 = 11 := Eq.trans mO_171 rfl
theorem xK_171 : mK 171 = 5 := Eq.trans mK_171 rfl
theorem xI_171 : mI 171 = false := Eq.trans mI_171 rfl
theorem xB_172 : mB 172 = cX11_after := Eq.trans mB_172 rfl
theorem xL_172 : mL 172 = 5 := Eq.trans mL_172 rfl
theorem xO_172 : mO 172 = 11 := Eq.trans mO_172 rfl
theorem xK_172 : mK 172 = 0 := Eq.trans mK_172 rfl
theorem xI_172 : mI 172 = false := Eq.trans mI_172 rfl
theorem xB_173 : mB 173 = cX11_rightAfter := Eq.trans mB_173 rfl
theorem xL_173 : mL 173 = 3 := Eq.trans mL_173 rfl
theorem xO_173 : mO 173 = 11 := Eq.trans mO_173 rfl
theorem xK_173 : mK 173 = 0 := Eq.trans mK_173 rfl
theorem xI_173 : mI 173 = false := Eq.trans mI_173 rfl
theorem xB_174 : mB 174 = cX11_best := Eq.trans mB_174 rfl
theorem xL_174 : mL 174 = 6 := Eq.trans mL_174 rfl
theorem xO_174 : mO 174 = 11 := Eq.trans mO_174 rfl
theorem xK_174 : mK 174 = 0 := Eq.trans mK_174 rfl
theorem xI_174 : mI 174 = false := Eq.trans mI_174 rfl
theorem xB_175 : mB 175 = cX11_uses := Eq.trans mB_175 rfl
theorem xL_175 : mL 175 = 4 := Eq.trans mL_175 rfl
theorem xO_175 : mO 175 = 11 := Eq.trans mO_175 rfl
theorem xK_175 : mK 175 = 0 := Eq.trans mK_175 rfl
theorem xI_175 : mI 175 = false := Eq.trans mI_175 rfl
theorem xB_176 : mB 176 = cX11_rightTwice := Eq.trans mB_176 rfl
theorem xL_176 : mL 176 = 7 := Eq.trans mL_176 rfl
theorem xO_176 : mO 176 = 11 := Eq.trans mO_176 rfl
theorem xK_176 : mK 176 = 0 := Eq.trans mK_176 rfl
theorem xI_176 : mI 176 = false := Eq.trans mI_176 rfl
theorem xB_177 : mB 177 = cX11_way := Eq.trans mB_177 rfl
theorem xL_177 : mL 177 = 10 := Eq.trans mL_177 rfl
theorem xO_177 : mO 177 = 11 := Eq.trans mO_177 rfl
theorem xK_177 : mK 177 = 0 := Eq.trans mK_177 rfl
theorem xI_177 : mI 177 = false := Eq.trans mI_177 rfl
theorem xB_178 : mB 178 = cX11_twice := Eq.trans mB_178 rfl
theorem xL_178 : mL 178 = 10 := Eq.trans mL_178 rfl
theorem xO_178 : mO 178 = 11 := Eq.trans mO_178 rfl
theorem xK_178 : mK 178 = 0 := Eq.trans mK_178 rfl
theorem xI_178 : mI 178 = false := Eq.trans mI_178 rfl
theorem xB_179 : mB 179 = cX11_find := Eq.trans mB_179 rfl
theorem xL_179 : mL 179 = 3 := Eq.trans mL_179 rfl
theorem xO_179 : mO 179 = 11 := Eq.trans mO_179 rfl
theorem xK_179 : mK 179 = 0 := Eq.trans mK_179 rfl
theorem xI_179 : mI 179 = false := Eq.trans mI_179 rfl
theorem xB_180 : mB 180 = cX11_isOn := Eq.trans mB_180 rfl
theorem xL_180 : mL 180 = 4 := Eq.trans mL_180 rfl
theorem xO_180 : mO 180 = 11 := Eq.trans mO_180 rfl
theorem xK_180 : mK 180 = 1 := Eq.trans mK_180 rfl
theorem xI_180 : mI 180 = false := Eq.trans mI_180 rfl
theorem xB_181 : mB 181 = cX11_see := Eq.trans mB_181 rfl
theorem xL_181 : mL 181 = 4 := Eq.trans mL_181 rfl
theorem xO_181 : mO 181 = 11 := Eq.trans mO_181 rfl
theorem xK_181 : mK 181 = 0 := Eq.trans mK_181 rfl
theorem xI_181 : mI 181 = false := Eq.trans mI_181 rfl
theorem xB_182 : mB 182 = cX11_on := Eq.trans mB_182 rfl
theorem xL_182 : mL 182 = 2 := Eq.trans mL_182 rfl
theorem xO_182 : mO 182 = 11 := Eq.trans mO_182 rfl
theorem xK_182 : mK 182 = 0 := Eq.trans mK_182 rfl
theorem xI_182 : mI 182 = false := Eq.trans mI_182 rfl
theorem xB_183 : mB 183 = cX11_isSeenAfter := Eq.trans mB_183 rfl
theorem xL_183 : mL 183 = 5 := Eq.trans mL_183 rfl
theorem xO_183 : mO 183 = 11 := Eq.trans mO_183 rfl
theorem xK_183 : mK 183 = 1 := Eq.trans mK_183 rfl
theorem xI_183 : mI 183 = false := Eq.trans mI_183 rfl
theorem xB_184 : mB 184 = cX11_which := Eq.trans mB_184 rfl
theorem xL_184 : mL 184 = 4 := Eq.trans mL_184 rfl
theorem xO_184 : mO 184 = 11 := Eq.trans mO_184 rfl
theorem xK_184 : mK 184 = 0 := Eq.trans mK_184 rfl
theorem xI_184 : mI 184 = false := Eq.trans mI_184 rfl
theorem xB_185 : mB 185 = cX11_can := Eq.trans mB_185 rfl
theorem xL_185 : mL 185 = 8 := Eq.trans mL_185 rfl
theorem xO_185 : mO 185 = 11 := Eq.trans mO_185 rfl
theorem xK_185 : mK 185 = 0 := Eq.trans mK_185 rfl
theorem xI_185 : mI 185 = false := Eq.trans mI_185 rfl
theorem xB_186 : mB 186 = cX11_divisor := Eq.trans mB_186 rfl
theorem xL_186 : mL 186 = 6 := Eq.trans mL_186 rfl
theorem xO_186 : mO 186 = 11 := Eq.trans mO_186 rfl
theorem xK_186 : mK 186 = 0 := Eq.trans mK_186 rfl
theorem xI_186 : mI 186 = false := Eq.trans mI_186 rfl
theorem xB_187 : mB 187 = cX11_lowest := Eq.trans mB_187 rfl
theorem xL_187 : mL 187 = 5 := Eq.trans mL_187 rfl
theorem xO_187 : mO 187 = 11 := Eq.trans mO_187 rfl
theorem xK_187 : mK 187 = 4 := Eq.trans mK_187 rfl
theorem xI_187 : mI 187 = false := Eq.trans mI_187 rfl
theorem xB_188 : mB 188 = cX11_odds := Eq.trans mB_188 rfl
theorem xL_188 : mL 188 = 6 := Eq.trans mL_188 rfl
theorem xO_188 : mO 188 = 11 := Eq.trans mO_188 rfl
theorem xK_188 : mK 188 = 4 := Eq.trans mK_188 rfl
theorem xI_188 : mI 188 = false := Eq.trans mI_188 rfl
theorem xB_189 : mB 189 = cX11_mean := Eq.trans mB_189 rfl
theorem xL_189 : mL 189 = 5 := Eq.trans mL_189 rfl
theorem xO_189 : mO 189 = 11 := Eq.trans mO_189 rfl
theorem xK_189 : mK 189 = 4 := Eq.trans mK_189 rfl
theorem xI_189 : mI 189 = false := Eq.trans mI_189 rfl
theorem xB_190 : mB 190 = cX11_plan := Eq.trans mB_190 rfl
theorem xL_190 : mL 190 = 4 := Eq.trans mL_190 rfl
theorem xO_190 : mO 190 = 11 := Eq.trans mO_190 rfl
theorem xK_190 : mK 190 = 0 := Eq.trans mK_190 rfl
theorem xI_190 : mI 190 = false := Eq.trans mI_190 rfl
theorem xB_191 : mB 191 = cX11_goPlan := Eq.trans mB_191 rfl
theorem xL_191 : mL 191 = 2 := Eq.trans mL_191 rfl
theorem xO_191 : mO 191 = 11 := Eq.trans mO_191 rfl
theorem xK_191 : mK 191 = 5 := Eq.trans mK_191 rfl
theorem xI_191 : mI 191 = false := Eq.trans mI_191 rfl
theorem xB_192 : mB 192 = cX11_done := Eq.trans mB_192 rfl
theorem xL_192 : mL 192 = 3 := Eq.trans mL_192 rfl
theorem xO_192 : mO 192 = 11 := Eq.trans mO_192 rfl
theorem xK_192 : mK 192 = 0 := Eq.trans mK_192 rfl
theorem xI_192 : mI 192 = false := Eq.trans mI_192 rfl
theorem xB_193 : mB 193 = cX11_book := Eq.trans mB_193 rfl
theorem xL_193 : mL 193 = 4 := Eq.trans mL_193 rfl
theorem xO_193 : mO 193 = 11 := Eq.trans mO_193 rfl
theorem xK_193 : mK 193 = 0 := Eq.trans mK_193 rfl
theorem xI_193 : mI 193 = false := Eq.trans mI_193 rfl
theorem xB_194 : mB 194 = cX11_looked := Eq.trans mB_194 rfl
theorem xL_194 : mL 194 = 2 := Eq.trans mL_194 rfl
theorem xO_194 : mO 194 = 11 := Eq.trans mO_194 rfl
theorem xK_194 : mK 194 = 0 := Eq.trans mK_194 rfl
theorem xI_194 : mI 194 = false := Eq.trans mI_194 rfl
theorem xB_195 : mB 195 = cX11_judge := Eq.trans mB_195 rfl
theorem xL_195 : mL 195 = 4 := Eq.trans mL_195 rfl
theorem xO_195 : mO 195 = 11 := Eq.trans mO_195 rfl
theorem xK_195 : mK 195 = 0 := Eq.trans mK_195 rfl
theorem xI_195 : mI 195 = false := Eq.trans mI_195 rfl
theorem xB_196 : mB 196 = cX11_image := Eq.trans mB_196 rfl
theorem xL_196 : mL 196 = 2 := Eq.trans mL_196 rfl
theorem xO_196 : mO 196 = 11 := Eq.trans mO_196 rfl
theorem xK_196 : mK 196 = 0 := Eq.trans mK_196 rfl
theorem xI_196 : mI 196 = false := Eq.trans mI_196 rfl
theorem xB_197 : mB 197 = cX11_undo := Eq.trans mB_197 rfl
theorem xL_197 : mL 197 = 2 := Eq.trans mL_197 rfl
theorem xO_197 : mO 197 = 11 := Eq.trans mO_197 rfl
theorem xK_197 : mK 197 = 0 := Eq.trans mK_197 rfl
theorem xI_197 : mI 197 = false := Eq.trans mI_197 rfl
theorem xB_198 : mB 198 = cX11_body := Eq.trans mB_198 rfl
theorem xL_198 : mL 198 = 2 := Eq.trans mL_198 rfl
theorem xO_198 : mO 198 = 11 := Eq.trans mO_198 rfl
theorem xK_198 : mK 198 = 5 := Eq.trans mK_198 rfl
theorem xI_198 : mI 198 = false := Eq.trans mI_198 rfl
theorem xB_199 : mB 199 = cX11_trayFeeds := Eq.trans mB_199 rfl
theorem xL_199 : mL 199 = 3 := Eq.trans mL_199 rfl
theorem xO_199 : mO 199 = 11 := Eq.trans mO_199 rfl
theorem xK_199 : mK 199 = 0 := Eq.trans mK_199 rfl
theorem xI_199 : mI 199 = false := Eq.trans mI_199 rfl
theorem xB_200 : mB 200 = cX11_feedsAct := Eq.trans mB_200 rfl
theorem xL_200 : mL 200 = 3 := Eq.trans mL_200 rfl
theorem xO_200 : mO 200 = 11 := Eq.trans mO_200 rfl
theorem xK_200 : mK 200 = 0 := Eq.trans mK_200 rfl
theorem xI_200 : mI 200 = false := Eq.trans mI_200 rfl
theorem xB_201 : mB 201 = cX11_trayPrints := Eq.trans mB_201 rfl
theorem xL_201 : mL 201 = 3 := Eq.trans mL_201 rfl
theorem xO_201 : mO 201 = 11 := Eq.trans mO_201 rfl
theorem xK_201 : mK 201 = 0 := Eq.trans mK_201 rfl
theorem xI_201 : mI 201 = false := Eq.trans mI_201 rfl
theorem xB_202 : mB 202 = cX11_flippingPrints := Eq.trans mB_202 rfl
theorem xL_202 : mL 202 = 3 := Eq.trans mL_202 rfl
theorem xO_202 : mO 202 = 11 := Eq.trans mO_202 rfl
theorem xK_202 : mK 202 = 0 := Eq.trans mK_202 rfl
theorem xI_202 : mI 202 = false := Eq.trans mI_202 rfl
theorem xB_203 : mB 203 = cX11_printsAct := Eq.trans mB_203 rfl
theorem xL_203 : mL 203 = 4 := Eq.trans mL_203 rfl
theorem xO_203 : mO 203 = 11 := Eq.trans mO_203 rfl
theorem xK_203 : mK 203 = 0 := Eq.trans mK_203 rfl
theorem xI_203 : mI 203 = false := Eq.trans mI_203 rfl
theorem xB_204 : mB 204 = cX11_trayTells := Eq.trans mB_204 rfl
theorem xL_204 : mL 204 = 3 := Eq.trans mL_204 rfl
theorem xO_204 : mO 204 = 11 := Eq.trans mO_204 rfl
theorem xK_204 : mK 204 = 0 := Eq.trans mK_204 rfl
theorem xI_204 : mI 204 = false := Eq.trans mI_204 rfl
theorem xB_205 : mB 205 = cX11_tellsAct := Eq.trans mB_205 rfl
theorem xL_205 : mL 205 = 4 := Eq.trans mL_205 rfl
theorem xO_205 : mO 205 = 11 := Eq.trans mO_205 rfl
theorem xK_205 : mK 205 = 0 := Eq.trans mK_205 rfl
theorem xI_205 : mI 205 = false := Eq.trans mI_205 rfl
theorem xB_206 : mB 206 = cX11_act := Eq.trans mB_206 rfl
theorem xL_206 : mL 206 = 4 := Eq.trans mL_206 rfl
theorem xO_206 : mO 206 = 11 := Eq.trans mO_206 rfl
theorem xK_206 : mK 206 = 0 := Eq.trans mK_206 rfl
theorem xI_206 : mI 206 = false := Eq.trans mI_206 rfl
theorem xB_207 : mB 207 = cX11_trace := Eq.trans mB_207 rfl
theorem xL_207 : mL 207 = 2 := Eq.trans mL_207 rfl
theorem xO_207 : mO 207 = 11 := Eq.trans mO_207 rfl
theorem xK_207 : mK 207 = 0 := Eq.trans mK_207 rfl
theorem xI_207 : mI 207 = false := Eq.trans mI_207 rfl
theorem xB_208 : mB 208 = cX11_taken := Eq.trans mB_208 rfl
theorem xL_208 : mL 208 = 4 := Eq.trans mL_208 rfl
theorem xO_208 : mO 208 = 11 := Eq.trans mO_208 rfl
theorem xK_208 : mK 208 = 0 := Eq.trans mK_208 rfl
theorem xI_208 : mI 208 = false := Eq.trans mI_208 rfl
theorem xB_209 : mB 209 = cX11_count := Eq.trans mB_209 rfl
theorem xL_209 : mL 209 = 2 := Eq.trans mL_209 rfl
theorem xO_209 : mO 209 = 11 := Eq.trans mO_209 rfl
theorem xK_209 : mK 209 = 0 := Eq.trans mK_209 rfl
theorem xI_209 : mI 209 = false := Eq.trans mI_209 rfl
theorem xB_210 : mB 210 = cX11_isTape := Eq.trans mB_210 rfl
theorem xL_210 : mL 210 = 2 := Eq.trans mL_210 rfl
theorem xO_210 : mO 210 = 11 := Eq.trans mO_210 rfl
theorem xK_210 : mK 210 = 1 := Eq.trans mK_210 rfl
theorem xI_210 : mI 210 = false := Eq.trans mI_210 rfl
theorem xB_211 : mB 211 = cX11_tape := Eq.trans mB_211 rfl
theorem xL_211 : mL 211 = 5 := Eq.trans mL_211 rfl
theorem xO_211 : mO 211 = 11 := Eq.trans mO_211 rfl
theorem xK_211 : mK 211 = 0 := Eq.trans mK_211 rfl
theorem xI_211 : mI 211 = false := Eq.trans mI_211 rfl
theorem xB_212 : mB 212 = cX11_narrow := Eq.trans mB_212 rfl
theorem xL_212 : mL 212 = 4 := Eq.trans mL_212 rfl
theorem xO_212 : mO 212 = 11 := Eq.trans mO_212 rfl
theorem xK_212 : mK 212 = 4 := Eq.trans mK_212 rfl
theorem xI_212 : mI 212 = false := Eq.trans mI_212 rfl
theorem xB_213 : mB 213 = cX11_item := Eq.trans mB_213 rfl
theorem xL_213 : mL 213 = 5 := Eq.trans mL_213 rfl
theorem xO_213 : mO 213 = 11 := Eq.trans mO_213 rfl
theorem xK_213 : mK 213 = 0 := Eq.trans mK_213 rfl
theorem xI_213 : mI 213 = false := Eq.trans mI_213 rfl
theorem xB_214 : mB 214 = cX11_read := Eq.trans mB_214 rfl
theorem xL_214 : mL 214 = 3 := Eq.trans mL_214 rfl
theorem xO_214 : mO 214 = 11 := Eq.trans mO_214 rfl
theorem xK_214 : mK 214 = 4 := Eq.trans mK_214 rfl
theorem xI_214 : mI 214 = false := Eq.trans mI_214 rfl
theorem xB_215 : mB 215 = cX11_shift := Eq.trans mB_215 rfl
theorem xL_215 : mL 215 = 7 := Eq.trans mL_215 rfl
theorem xO_215 : mO 215 = 11 := Eq.trans mO_215 rfl
theorem xK_215 : mK 215 = 0 := Eq.trans mK_215 rfl
theorem xI_215 : mI 215 = false := Eq.trans mI_215 rfl
theorem xB_216 : mB 216 = cJ0_charAt_5068e := Eq.trans mB_216 rfl
theorem xL_216 : mL 216 = 2 := Eq.trans mL_216 rfl
theorem xO_216 : mO 216 = 12 := Eq.trans mO_216 rfl
theorem xK_216 : mK 216 = 3 := Eq.trans mK_216 rfl
theorem xI_216 : mI 216 = false := Eq.trans mI_216 rfl
theorem xB_217 : mB 217 = cJ0_indexOf_0f7a4 := Eq.trans mB_217 rfl
theorem xL_217 : mL 217 = 2 := Eq.trans mL_217 rfl
theorem xO_217 : mO 217 = 12 := Eq.trans mO_217 rfl
theorem xK_217 : mK 217 = 0 := Eq.trans mK_217 rfl
theorem xI_217 : mI 217 = false := Eq.trans mI_217 rfl
theorem xB_218 : mB 218 = cJ0_indexOf_7cf53 := Eq.trans mB_218 rfl
theorem xL_218 : mL 218 = 3 := Eq.trans mL_218 rfl
theorem xO_218 : mO 218 = 12 := Eq.trans mO_218 rfl
theorem xK_218 : mK 218 = 0 := Eq.trans mK_218 rfl
theorem xI_218 : mI 218 = false := Eq.trans mI_218 rfl
theorem xB_219 : mB 219 = cJ0_length_8abf5 := Eq.trans mB_219 rfl
theorem xL_219 : mL 219 = 1 := Eq.trans mL_219 rfl
theorem xO_219 : mO 219 = 12 := Eq.trans mO_219 rfl
theorem xK_219 : mK 219 = 0 := Eq.trans mK_219 rfl
theorem xI_219 : mI 219 = false := Eq.trans mI_219 rfl
theorem xB_220 : mB 220 = cJ0_coder_7d493 := Eq.trans mB_220 rfl
theorem xL_220 : mL 220 = 1 := Eq.trans mL_220 rfl
theorem xO_220 : mO 220 = 12 := Eq.trans mO_220 rfl
theorem xK_220 : mK 220 = 2 := Eq.trans mK_220 rfl
theorem xI_220 : mI 220 = false := Eq.trans mI_220 rfl
theorem xB_221 : mB 221 = cJ0_isLatin1_aae02 := Eq.trans mB_221 rfl
theorem xL_221 : mL 221 = 1 := Eq.trans mL_221 rfl
theorem xO_221 : mO 221 = 12 := Eq.trans mO_221 rfl
theorem xK_221 : mK 221 = 1 := Eq.trans mK_221 rfl
theorem xI_221 : mI 221 = false := Eq.trans mI_221 rfl
theorem xB_222 : mB 222 = cJ0_checkIndex_df160 := Eq.trans mB_222 rfl
theorem xL_222 : mL 222 = 2 := Eq.trans mL_222 rfl
theorem xO_222 : mO 222 = 12 := Eq.trans mO_222 rfl
theorem xK_222 : mK 222 = 5 := Eq.trans mK_222 rfl
theorem xI_222 : mI 222 = false := Eq.trans mI_222 rfl
theorem xB_223 : mB 223 = cJ1_charAt_3b067 := Eq.trans mB_223 rfl
theorem xL_223 : mL 223 = 2 := Eq.trans mL_223 rfl
theorem xO_223 : mO 223 = 13 := Eq.trans mO_223 rfl
theorem xK_223 : mK 223 = 3 := Eq.trans mK_223 rfl
theorem xI_223 : mI 223 = false := Eq.trans mI_223 rfl
theorem xB_224 : mB 224 = cJ1_canEncode_9a6ad := Eq.trans mB_224 rfl
theorem xL_224 : mL 224 = 1 := Eq.trans mL_224 rfl
theorem xO_224 : mO 224 = 13 := Eq.trans mO_224 rfl
theorem xK_224 : mK 224 = 1 := Eq.trans mK_224 rfl
theorem xI_224 : mI 224 = false := Eq.trans mI_224 rfl
theorem xB_225 : mB 225 = cJ1_indexOf_4cfef := Eq.trans mB_225 rfl
theorem xL_225 : mL 225 = 4 := Eq.trans mL_225 rfl
theorem xO_225 : mO 225 = 13 := Eq.trans mO_225 rfl
theorem xK_225 : mK 225 = 0 := Eq.trans mK_225 rfl
theorem xI_225 : mI 225 = false := Eq.trans mI_225 rfl
theorem xB_226 : mB 226 = cJ1_indexOfChar_4cfef := Eq.trans mB_226 rfl
theorem xL_226 : mL 226 = 6 := Eq.trans mL_226 rfl
theorem xO_226 : mO 226 = 13 := Eq.trans mO_226 rfl
theorem xK_226 : mK 226 = 0 := Eq.trans mK_226 rfl
theorem xI_226 : mI 226 = false := Eq.trans mI_226 rfl
theorem xB_227 : mB 227 = cJ7_fill_53178 := Eq.trans mB_227 rfl
theorem xL_227 : mL 227 = 4 := Eq.trans mL_227 rfl
theorem xO_227 : mO 227 = 15 := Eq.trans mO_227 rfl
theorem xK_227 : mK 227 = 5 := Eq.trans mK_227 rfl
theorem xI_227 : mI 227 = false := Eq.trans mI_227 rfl
theorem xB_228 : mB 228 = cJ7_fill_d0a16 := Eq.trans mB_228 rfl
theorem xL_228 : mL 228 = 5 := Eq.trans mL_228 rfl
theorem xO_228 : mO 228 = 15 := Eq.trans mO_228 rfl
theorem xK_228 : mK 228 = 5 := Eq.trans mK_228 rfl
theorem xI_228 : mI 228 = false := Eq.trans mI_228 rfl
theorem xB_229 : mB 229 = cJ7_copyOf_59c91 := Eq.trans mB_229 rfl
theorem xL_229 : mL 229 = 3 := Eq.trans mL_229 rfl
theorem xO_229 : mO 229 = 15 := Eq.trans mO_229 rfl
theorem xK_229 : mK 229 = 6 := Eq.trans mK_229 rfl
theorem xI_229 : mI 229 = false := Eq.trans mI_229 rfl
theorem xB_230 : mB 230 = cJ3_checkIndex_8e157 := Eq.trans mB_230 rfl
theorem xL_230 : mL 230 = 3 := Eq.trans mL_230 rfl
theorem xO_230 : mO 230 = 16 := Eq.trans mO_230 rfl
theorem xK_230 : mK 230 = 0 := Eq.trans mK_230 rfl
theorem xI_230 : mI 230 = false := Eq.trans mI_230 rfl
theorem xB_231 : mB 231 = object_method_1_code := Eq.trans mB_231 rfl
theorem xL_231 : mL 231 = 1 := Eq.trans mL_231 rfl
theorem xO_231 : mO 231 = 18 := Eq.trans mO_231 rfl
theorem xK_231 : mK 231 = 5 := Eq.trans mK_231 rfl
theorem xI_231 : mI 231 = true := Eq.trans mI_231 rfl
theorem xB_232 : mB 232 = cL_law := Eq.trans mB_232 rfl
theorem xL_232 : mL 232 = 4 := Eq.trans mL_232 rfl
theorem xO_232 : mO 232 = 17 := Eq.trans mO_232 rfl
theorem xK_232 : mK 232 = 1 := Eq.trans mK_232 rfl
theorem xI_232 : mI 232 = false := Eq.trans mI_232 rfl
