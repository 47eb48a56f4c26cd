/-! THE ABSTRACT MACHINE: ids for addresses (0 none, 1 the script, 2 the one text constant, 3 .. the cells that the run makes), a heap of numbers -/
/-- how many ids; how many slots; shapes (1, class), (2, n) ints, (3, n) booleans, (4, n) the script; numbers; references -/
abbrev aH : Type := Nat × Nat × (Nat → Nat × Nat) × (Nat → Nat → Int32) × (Nat → Nat → Nat)
def hN (h : aH) : Nat := h.1
def hZ (h : aH) : Nat := h.2.1
def hS (h : aH) : Nat → Nat × Nat := h.2.2.1
def hI (h : aH) : Nat → Nat → Int32 := h.2.2.2.1
def hR (h : aH) : Nat → Nat → Nat := h.2.2.2.2
def up2 {α : Type} (f : Nat → Nat → α) (a k : Nat) (v : α) : Nat → Nat → α := fun b j => if b = a ∧ j = k then v else f b j
def sI (h : aH) (a k : Nat) (v : Int32) : aH := (hN h, hZ h, hS h, up2 (hI h) a k v, hR h)
def sR (h : aH) (a k : Nat) (v : Nat) : aH := (hN h, hZ h, hS h, hI h, up2 (hR h) a k v)
def nw (h : aH) (z : Nat) (s : Nat × Nat) : aH := (hN h + 1, hZ h + z, (fun a => if a = hN h then s else hS h a), (fun a k => if a = hN h then 0 else hI h a k), (fun a k => if a = hN h then 0 else hR h a k))
def cpI (h : aH) (a sp b dp n : Nat) : aH := (hN h, hZ h, hS h, (fun c j => if c = b ∧ dp ≤ j ∧ j < dp + n then hI h a (sp + (j - dp)) else hI h c j), hR h)
theorem hN_sI (h : aH) (a k : Nat) (v : Int32) : hN (sI h a k v) = hN h := rfl
theorem hZ_sI (h : aH) (a k : Nat) (v : Int32) : hZ (sI h a k v) = hZ h := rfl
theorem hS_sI (h : aH) (a k : Nat) (v : Int32) : hS (sI h a k v) = hS h := rfl
theorem hR_sI (h : aH) (a k : Nat) (v : Int32) : hR (sI h a k v) = hR h := rfl
theorem hI_sI (h : aH) (a k : Nat) (v : Int32) (b j : Nat) : hI (sI h a k v) b j = if b = a ∧ j = k then v else hI h b j := rfl
theorem hN_sR (h : aH) (a k v : Nat) : hN (sR h a k v) = hN h := rfl
theorem hZ_sR (h : aH) (a k v : Nat) : hZ (sR h a k v) = hZ h := rfl
theorem hS_sR (h : aH) (a k v : Nat) : hS (sR h a k v) = hS h := rfl
theorem hI_sR (h : aH) (a k v : Nat) : hI (sR h a k v) = hI h := rfl
theorem hR_sR (h : aH) (a k v : Nat) (b j : Nat) : hR (sR h a k v) b j = if b = a ∧ j = k then v else hR h b j := rfl
theorem hN_cpI (h : aH) (a sp b dp n : Nat) : hN (cpI h a sp b dp n) = hN h := rfl
theorem hZ_cpI (h : aH) (a sp b dp n : Nat) : hZ (cpI h a sp b dp n) = hZ h := rfl
theorem hS_cpI (h : aH) (a sp b dp n : Nat) : hS (cpI h a sp b dp n) = hS h := rfl
theorem hR_cpI (h : aH) (a sp b dp n : Nat) : hR (cpI h a sp b dp n) = hR h := rfl
theorem hI_cpI (h : aH) (a sp b dp n : Nat) (c j : Nat) : hI (cpI h a sp b dp n) c j = if c = b ∧ dp ≤ j ∧ j < dp + n then hI h a (sp + (j - dp)) else hI h c j := rfl
abbrev aQ : Type := Nat × Nat × List Value × List Value × aH
abbrev aR : Type := Option Value × aH
abbrev aA : Type := Option (aR ⊕ (aQ ⊕ (aQ × (aR → aQ))))
def aN (m pc : Nat) (L st : List Value) (h : aH) : aA := some (.inr (.inl (m, pc, L, st, h)))
def aT (r : Option Value) (h : aH) : aA := some (.inl (r, h))
def aC (q : aQ) (k : aR → aQ) : aA := some (.inr (.inr (q, k)))
def pv (r : Option Value) (st : List Value) : List Value := match r with
  | some v => v :: st
  | none => st
theorem pv_some (v : Value) (st : List Value) : pv (some v) st = v :: st := rfl
theorem pv_none (st : List Value) : pv none st = st := rfl
/-- a jump's goal -/
def jp (pc : Nat) (off : Int) (f : Nat → aA) : aA := if 0 ≤ (pc : Int) + off then f ((pc : Int) + off).toNat else none
def cmpI (c : ClassFile.Cond) (x y : Int32) : Bool := match c with
  | .eq => decide (x = y)
  | .ne => decide (¬ x = y)
  | .lt => decide (x < y)
  | .ge => decide (y ≤ x)
  | .gt => decide (y < x)
  | .le => decide (x ≤ y)
/-- no long stands ahead of a local's place -/
def nl (L : List Value) (i : Nat) : Bool := match i with
  | 0 => true
  | j + 1 => match L[j]? with
    | some v => v.category == 1
    | none => false
/-- kinds of field: 0 int, 1 a reference, 2 boolean -/
def kdT (t : FieldType) : Nat := match t with
  | .int => 0
  | .boolean => 2
  | .object _ => 1
  | .array _ => 1
  | _ => 9
def fK (ci k : Nat) : Nat := kdT (tyC ci k)
/-- arguments are ints or references -/
def arg1 (v : Value) : Bool := match v with
  | .int _ => true
  | .ref _ => true
  | _ => false
def b2 (st : List Value) (f : Int32 → Int32 → List Value → aA) : aA := match st with
  | .int y :: .int x :: st => f x y st
  | _ => none
def l2 (st : List Value) (f : Int64 → Int64 → List Value → aA) : aA := match st with
  | .long y :: .long x :: st => f x y st
  | _ => none
def b1 (st : List Value) (f : Int32 → List Value → aA) : aA := match st with
  | .int x :: st => f x st
  | _ => none
def r1 (st : List Value) (f : Nat → List Value → aA) : aA := match st with
  | .ref a :: st => f a st
  | _ => none
def ldI (L : List Value) (i : Nat) (f : Int32 → aA) : aA := match L[i]? with
  | some (.int x) => f x
  | _ => none
def ldR (L : List Value) (i : Nat) (f : Nat → aA) : aA := match L[i]? with
  | some (.ref x) => f x
  | _ => none
def ldL (L : List Value) (i : Nat) (f : Int64 → aA) : aA := match L[i]? with
  | some (.long x) => f x
  | _ => none
def gd (p : Prop) [Decidable p] (a : aA) : aA := if p then a else none
/-- a call's entry: the locals of the callee -/
def eL (m : Nat) (as : List Value) : List Value := as ++ List.replicate (mL m - as.length) .null
/-- a call of method k, by its arguments -/
def cl1 (m pc : Nat) (L rest : List Value) (h : aH) (k : Nat) (as : List Value) : aA :=
  gd (k < nMt ∧ as.all arg1 = true ∧ rest.length ≤ 4 ∧ as.length ≤ mL k ∧ mFr k + 1 ≤ mFr m ∧ 8 + (mL k + 11) + mLo k ≤ mLo m) (aC (k, 0, eL k as, [], h) (fun r => (m, pc + 3, L, pv r.1 rest, r.2)))
/-- the one text constant -/
def txtB : List Int32 := [110,54,59,103,48,44,49,50,44,51,44,57,44,48,59,103,49,44,56,44,55,44,54,44,49,59,103,50,44,49,48,44,48,44,49,52,44,51,59,103,51,44,54,44,49,48,44,53,44,52,59,119,51,59,99,56,59,114,55,59]
def actV (m pc cp : Nat) (L st : List Value) (h : aH) : aA := match cR m cp with
  | some (1001, _) => r1 st (fun a st => gd (a = 2 ∧ st.length ≤ 4 ∧ 2 ≤ mFr m ∧ 60 ≤ mLo m) (aN m (pc + 3) L (.int 60 :: st) h))
  | some (1002, _) => b1 st (fun i st => r1 st (fun a st => gd (a = 2 ∧ 0 ≤ i ∧ i < 60 ∧ st.length ≤ 4 ∧ 4 ≤ mFr m ∧ 90 ≤ mLo m) (aN m (pc + 3) L (.int (txtB.getD i.toNatClampNeg 0) :: st) h)))
  | some (k, n) => r1 (st.drop n) (fun b rest => gd (n ≤ st.length ∧ mKd k = 0 ∧ hS h b = (1, mK k)) (cl1 m pc L rest h k (.ref b :: (st.take n).reverse)))
  | none => none
def actS (m pc cp : Nat) (L st : List Value) (h : aH) : aA := match cR m cp with
  | some (1000, _) => match st with
    | .int n :: .int dp :: .ref b :: .int sp :: .ref a :: st => gd ((hS h a).1 = 2 ∧ (hS h b).1 = 2 ∧ 0 ≤ sp ∧ 0 ≤ dp ∧ 0 ≤ n ∧ sp.toNatClampNeg + n.toNatClampNeg ≤ (hS h a).2 ∧ dp.toNatClampNeg + n.toNatClampNeg ≤ (hS h b).2 ∧ st.length ≤ 4 ∧ 1 ≤ mFr m ∧ 40 ≤ mLo m) (aN m (pc + 3) L st (cpI h a sp.toNatClampNeg b dp.toNatClampNeg n.toNatClampNeg))
    | _ => none
  | some (1004, _) => b2 st (fun x y st => gd (st.length ≤ 4 ∧ 1 ≤ mFr m ∧ 21 ≤ mLo m) (aN m (pc + 3) L (.int (if x < y then y else x) :: st) h))
  | some (1005, _) => b2 st (fun x y st => gd (st.length ≤ 4 ∧ 1 ≤ mFr m ∧ 21 ≤ mLo m) (aN m (pc + 3) L (.int (if y < x then y else x) :: st) h))
  | some (1006, _) => b1 st (fun x st => gd (st.length ≤ 4 ∧ 1 ≤ mFr m ∧ 21 ≤ mLo m) (aN m (pc + 3) L (.int (if 0 ≤ x then x else 0 - x) :: st) h))
  | some (k, n) => gd (n ≤ st.length ∧ mKd k = 1) (cl1 m pc L (st.drop n) h k (st.take n).reverse)
  | none => none
def actP (m pc cp : Nat) (L st : List Value) (h : aH) : aA := match cR m cp with
  | some (1003, _) => r1 st (fun _ st => gd (st.length ≤ 4 ∧ 1 ≤ mFr m ∧ 20 ≤ mLo m) (aN m (pc + 3) L st h))
  | some (k, n) => r1 (st.drop n) (fun b rest => gd (n ≤ st.length ∧ mKd k = 2) (cl1 m pc L rest h k (.ref b :: (st.take n).reverse)))
  | none => none
def actG (m pc cp : Nat) (L st : List Value) (h : aH) : aA := match fR m cp with
  | some (ci, k) => r1 st (fun a st => gd (hS h a = (1, ci)) (if fK ci k = 1 then gd (hR h a k ≠ 0) (aN m (pc + 3) L (.ref (hR h a k) :: st) h) else aN m (pc + 3) L (.int (hI h a k) :: st) h))
  | none => none
/-- a final field is written in its own class's constructors alone -/
def finOk (m ci k : Nat) : Bool := !((clT ci).2.1 k).2.2.2 || ((mY m).name == "<init>" && ((clT ci).2.1 k).1 == RK (mK m))
def actU (m pc cp : Nat) (L st : List Value) (h : aH) : aA := match fR m cp with
  | some (ci, k) => match st with
    | .int v :: .ref a :: st => gd (finOk m ci k = true ∧ hS h a = (1, ci) ∧ (fK ci k = 0 ∨ fK ci k = 2 ∧ (v = 0 ∨ v = 1))) (aN m (pc + 3) L st (sI h a k v))
    | .ref v :: .ref a :: st => gd (finOk m ci k = true ∧ hS h a = (1, ci) ∧ fK ci k = 1 ∧ v ≠ 0) (aN m (pc + 3) L st (sR h a k v))
    | _ => none
  | none => none
def actI (i : Instr) (len m pc : Nat) (L st : List Value) (h : aH) : aA := match i, len with
  | .iconst n, 1 => aN m (pc + 1) L (.int (Int32.ofInt n) :: st) h
  | .bipush n, 2 => aN m (pc + 2) L (.int (Int8.ofInt n).toInt32 :: st) h
  | .sipush n, 3 => aN m (pc + 3) L (.int (Int16.ofInt n).toInt32 :: st) h
  | .lconst n, 1 => aN m (pc + 1) L (.long (Int64.ofNat n.val) :: st) h
  | .ldc cp, 2 => gd (mK m = 7 ∧ cp = 72) (aN m (pc + 2) L (.ref 2 :: st) h)
  | .ldc_w cp, 3 => match kR m cp with
    | some v => aN m (pc + 3) L (.int v :: st) h
    | none => none
  | .ldc2_w cp, 3 => match lR m cp with
    | some v => aN m (pc + 3) L (.long v :: st) h
    | none => none
  | .iload_n k, 1 => ldI L k.val (fun x => aN m (pc + 1) L (.int x :: st) h)
  | .iload k, 2 => ldI L k (fun x => aN m (pc + 2) L (.int x :: st) h)
  | .aload_n k, 1 => ldR L k.val (fun x => aN m (pc + 1) L (.ref x :: st) h)
  | .aload k, 2 => ldR L k (fun x => aN m (pc + 2) L (.ref x :: st) h)
  | .lload_n k, 1 => ldL L k.val (fun x => aN m (pc + 1) L (.long x :: st) h)
  | .lload k, 2 => ldL L k (fun x => aN m (pc + 2) L (.long x :: st) h)
  | .istore_n k, 1 => b1 st (fun x st => gd (k.val < L.length ∧ nl L k.val = true) (aN m (pc + 1) (L.set k.val (.int x)) st h))
  | .istore k, 2 => b1 st (fun x st => gd (k < L.length ∧ nl L k = true) (aN m (pc + 2) (L.set k (.int x)) st h))
  | .astore_n k, 1 => r1 st (fun x st => gd (k.val < L.length ∧ nl L k.val = true) (aN m (pc + 1) (L.set k.val (.ref x)) st h))
  | .lstore_n k, 1 => match st with
    | .long x :: st => gd (k.val + 1 < L.length ∧ nl L k.val = true) (aN m (pc + 1) ((L.set k.val (.long x)).set (k.val + 1) .null) st h)
    | _ => none
  | .lstore k, 2 => match st with
    | .long x :: st => gd (k + 1 < L.length ∧ nl L k = true) (aN m (pc + 2) ((L.set k (.long x)).set (k + 1) .null) st h)
    | _ => none
  | .iinc k n, 3 => ldI L k (fun x => gd (nl L k = true) (aN m (pc + 3) (L.set k (.int (x + Int32.ofInt n))) st h))
  | .dup, 1 => match st with
    | v :: st => gd (v.category = 1) (aN m (pc + 1) L (v :: v :: st) h)
    | _ => none
  | .dup2, 1 => match st with
    | v :: w :: st => gd (v.category = 1 ∧ w.category = 1) (aN m (pc + 1) L (v :: w :: v :: w :: st) h)
    | _ => none
  | .pop, 1 => match st with
    | v :: st => gd (v.category = 1) (aN m (pc + 1) L st h)
    | _ => none
  | .iadd, 1 => b2 st (fun x y st => aN m (pc + 1) L (.int (x + y) :: st) h)
  | .isub, 1 => b2 st (fun x y st => aN m (pc + 1) L (.int (x - y) :: st) h)
  | .imul, 1 => b2 st (fun x y st => aN m (pc + 1) L (.int (x * y) :: st) h)
  | .idiv, 1 => b2 st (fun x y st => gd (¬ y = 0) (aN m (pc + 1) L (.int (x / y) :: st) h))
  | .irem, 1 => b2 st (fun x y st => gd (¬ y = 0) (aN m (pc + 1) L (.int (x - x / y * y) :: st) h))
  | .iand, 1 => b2 st (fun x y st => aN m (pc + 1) L (.int (x &&& y) :: st) h)
  | .ior, 1 => b2 st (fun x y st => aN m (pc + 1) L (.int (x ||| y) :: st) h)
  | .ixor, 1 => b2 st (fun x y st => aN m (pc + 1) L (.int (x ^^^ y) :: st) h)
  | .ishl, 1 => b2 st (fun x y st => aN m (pc + 1) L (.int (x <<< (y &&& 31)) :: st) h)
  | .ishr, 1 => b2 st (fun x y st => aN m (pc + 1) L (.int (x >>> (y &&& 31)) :: st) h)
  | .iushr, 1 => b2 st (fun x y st => aN m (pc + 1) L (.int (x.toUInt32 >>> (y.toUInt32 &&& Int32.toUInt32 31)).toInt32 :: st) h)
  | .ineg, 1 => b1 st (fun x st => aN m (pc + 1) L (.int (-x) :: st) h)
  | .i2l, 1 => b1 st (fun x st => aN m (pc + 1) L (.long x.toInt64 :: st) h)
  | .l2i, 1 => match st with
    | .long x :: st => aN m (pc + 1) L (.int x.toInt32 :: st) h
    | _ => none
  | .ladd, 1 => l2 st (fun x y st => aN m (pc + 1) L (.long (x + y) :: st) h)
  | .lmul, 1 => l2 st (fun x y st => aN m (pc + 1) L (.long (x * y) :: st) h)
  | .ldiv, 1 => l2 st (fun x y st => gd (¬ y = 0) (aN m (pc + 1) L (.long (x / y) :: st) h))
  | .lrem, 1 => l2 st (fun x y st => gd (¬ y = 0) (aN m (pc + 1) L (.long (x - x / y * y) :: st) h))
  | .ifCond c off, 3 => b1 st (fun x st => jp pc off (fun t => if cmpI c x 0 then aN m t L st h else aN m (pc + 3) L st h))
  | .if_icmp c off, 3 => b2 st (fun x y st => jp pc off (fun t => if cmpI c x y then aN m t L st h else aN m (pc + 3) L st h))
  | .goto off, 3 => jp pc off (fun t => aN m t L st h)
  | .tableswitch d lo hi offs, _ => b1 st (fun x st => if x.toInt < lo ∨ hi < x.toInt then jp pc d (fun t => aN m t L st h) else match offs[(x.toInt - lo).toNat]? with
    | some off => jp pc off (fun t => aN m t L st h)
    | none => none)
  | .lookupswitch d ps, _ => b1 st (fun x st => gd ((ps.toList.zip (ps.toList.drop 1)).all (fun (a, next) => a.1 < next.1) = true) (jp pc (Op.lookupswitch.offset ps.toList d x.toInt) (fun t => aN m t L st h)))
  | .getfield cp, 3 => actG m pc cp L st h
  | .putfield cp, 3 => actU m pc cp L st h
  | .iaload, 1 => match st with
    | .int j :: .ref a :: st => gd (((hS h a).1 = 2 ∨ (hS h a).1 = 4) ∧ ¬ (j < 0 ∨ (hS h a).2 ≤ j.toNatClampNeg)) (aN m (pc + 1) L (.int (hI h a j.toNatClampNeg) :: st) h)
    | _ => none
  | .baload, 1 => match st with
    | .int j :: .ref a :: st => gd ((hS h a).1 = 3 ∧ ¬ (j < 0 ∨ (hS h a).2 ≤ j.toNatClampNeg)) (aN m (pc + 1) L (.int (hI h a j.toNatClampNeg) :: st) h)
    | _ => none
  | .iastore, 1 => match st with
    | .int x :: .int j :: .ref a :: st => gd ((hS h a).1 = 2 ∧ ¬ (j < 0 ∨ (hS h a).2 ≤ j.toNatClampNeg)) (aN m (pc + 1) L st (sI h a j.toNatClampNeg x))
    | _ => none
  | .bastore, 1 => match st with
    | .int x :: .int j :: .ref a :: st => gd ((hS h a).1 = 3 ∧ (x = 0 ∨ x = 1) ∧ ¬ (j < 0 ∨ (hS h a).2 ≤ j.toNatClampNeg)) (aN m (pc + 1) L st (sI h a j.toNatClampNeg x))
    | _ => none
  | .arraylength, 1 => r1 st (fun a st => gd ((hS h a).1 = 2 ∨ (hS h a).1 = 3 ∨ (hS h a).1 = 4) (aN m (pc + 1) L (.int (Int32.ofNat (hS h a).2) :: st) h))
  | .new cp, 3 => match nR m cp with
    | some ci => aN m (pc + 3) L (.ref (hN h) :: st) (nw h (clT ci).2.2 (1, ci))
    | none => none
  | .newarray .int, 2 => b1 st (fun n st => gd (¬ n < 0 ∧ n < 100000) (aN m (pc + 2) L (.ref (hN h) :: st) (nw h n.toNatClampNeg (2, n.toNatClampNeg))))
  | .newarray .boolean, 2 => b1 st (fun n st => gd (¬ n < 0 ∧ n < 100000) (aN m (pc + 2) L (.ref (hN h) :: st) (nw h n.toNatClampNeg (3, n.toNatClampNeg))))
  | .invokevirtual cp, 3 => actV m pc cp L st h
  | .invokestatic cp, 3 => actS m pc cp L st h
  | .invokespecial cp, 3 => actP m pc cp L st h
  | .ireturn, 1 => match st with
    | [.int v] => gd (mRt m = some .int ∨ mRt m = some .boolean ∧ (v = 0 ∨ v = 1)) (aT (some (.int v)) h)
    | _ => none
  | .return_, 1 => match st with
    | [] => gd (mRt m = none) (aT none h)
    | _ => none
  | _, _ => none
def act (q : aQ) : aA := match decode (mC q.1) q.2.1 with
  | .ok (i, len) => actI i len q.1 q.2.1 q.2.2.1 q.2.2.2.1 q.2.2.2.2
  | .error _ => none
def exec : Nat → aQ → Option aR
  | 0, _ => none
  | n + 1, q => match act q with
    | none => none
    | some (.inl r) => some r
    | some (.inr (.inl q')) => exec n q'
    | some (.inr (.inr (q', k))) => match exec n q' with
      | none => none
      | some r => exec n (k r)
theorem exec_up : ∀ (n : Nat) (q : aQ) (r : aR), exec n q = some r → exec (n + 1) q = some r := by
  intro n
  induction n with
  | zero => intro q r h; simp [exec] at h
  | succ n ih =>
    intro q r h
    rw [exec] at h ⊢
    split at h
    · cases h
    · exact h
    · exact ih _ _ h
    · split at h
      · cases h
      · rename_i q' k _ r' hr
        rw [ih _ _ hr]
        exact ih _ _ h
theorem exec_le {n k : Nat} (hnk : n ≤ k) {q : aQ} {r : aR} (h : exec n q = some r) : exec k q = some r := by
  induction hnk with
  | refl => exact h
  | step _ ih => exact exec_up _ _ _ ih
theorem exec_det {n k : Nat} {q : aQ} {r r' : aR} (h : exec n q = some r) (h' : exec k q = some r') : r = r' := by
  have h1 := exec_le (Nat.le_max_left n k) h
  have h2 := exec_le (Nat.le_max_right n k) h'
  exact Option.some.inj (h1.symm.trans h2)
/-- the machine comes from there to an answer and a heap with Q -/
def X (m pc : Nat) (L st : List Value) (h : aH) (Q : Option Value → aH → Prop) : Prop := ∃ (n : Nat) (r : aR), exec n (m, pc, L, st, h) = some r ∧ Q r.1 r.2
def Xq (q : aQ) (Q : Option Value → aH → Prop) : Prop := ∃ (n : Nat) (r : aR), exec n q = some r ∧ Q r.1 r.2
theorem X_eq (m pc : Nat) (L st : List Value) (h : aH) (Q : Option Value → aH → Prop) : X m pc L st h Q = Xq (m, pc, L, st, h) Q := rfl
theorem Xq_n {q q' : aQ} {Q : Option Value → aH → Prop} (e : act q = some (.inr (.inl q'))) : Xq q Q ↔ Xq q' Q := by
  constructor
  · rintro ⟨n, r, h1, h2⟩
    cases n with
    | zero => simp [exec] at h1
    | succ n => rw [exec, e] at h1; exact ⟨n, r, h1, h2⟩
  · rintro ⟨n, r, h1, h2⟩
    exact ⟨n + 1, r, by rw [exec, e]; exact h1, h2⟩
theorem Xq_t {q : aQ} {r : aR} {Q : Option Value → aH → Prop} (e : act q = some (.inl r)) : Xq q Q ↔ Q r.1 r.2 := by
  constructor
  · rintro ⟨n, r', h1, h2⟩
    cases n with
    | zero => simp [exec] at h1
    | succ n => rw [exec, e] at h1; cases h1; exact h2
  · intro h
    exact ⟨1, r, by rw [exec, e], h⟩
theorem Xq_c {q q' : aQ} {k : aR → aQ} {Q : Option Value → aH → Prop} (e : act q = some (.inr (.inr (q', k)))) : Xq q Q ↔ Xq q' (fun r h => Xq (k (r, h)) Q) := by
  constructor
  · rintro ⟨n, r, h1, h2⟩
    cases n with
    | zero => simp [exec] at h1
    | succ n =>
      rw [exec, e] at h1
      dsimp only at h1
      split at h1
      · cases h1
      · rename_i r' hr
        exact ⟨n, r', hr, n, r, h1, h2⟩
  · rintro ⟨n, r', h1, n', r, h2, h3⟩
    refine ⟨max n n' + 1, r, ?_, h3⟩
    rw [exec, e]
    dsimp only
    rw [exec_le (Nat.le_max_left n n') h1]
    exact exec_le (Nat.le_max_right n n') h2
/-- a run, once known, is the only one -/
theorem X_iff {m pc : Nat} {L st : List Value} {h : aH} {r : Option Value} {h' : aH} (e : X m pc L st h (fun a b => a = r ∧ b = h')) (Q : Option Value → aH → Prop) : X m pc L st h Q ↔ Q r h' := by
  obtain ⟨n, ⟨a, b⟩, h1, rfl, rfl⟩ := e
  constructor
  · rintro ⟨k, r', h2, h3⟩
    cases exec_det h1 h2
    exact h3
  · intro h
    exact ⟨n, _, h1, h⟩
theorem X_mono {m pc : Nat} {L st : List Value} {h : aH} {Q Q' : Option Value → aH → Prop} (e : X m pc L st h Q) (hq : ∀ r h', Q r h' → Q' r h') : X m pc L st h Q' := by
  obtain ⟨n, r, h1, h2⟩ := e
  exact ⟨n, r, h1, hq _ _ h2⟩
