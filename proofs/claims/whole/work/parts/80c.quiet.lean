/-! A RUN OF A METHOD THAT IS NO MAKER LEAVES COUNT AND SLOTS AS THEY WERE -/
section QUIET
variable {h h' h1 h2 : aH} {m pc a k z t cp : Nat} {L st : List Value} {v : Int32} {A : aA}
theorem rd_err {α β : Type} {r : Jvm.ClassFile.Reader Jvm.ClassFile.DecodeError α} {f : α → Jvm.ClassFile.Reader Jvm.ClassFile.DecodeError β} {C : ByteArray} {pc : Nat} {e : Jvm.ClassFile.DecodeError} (q : r C pc = .error e) : (r >>= f) C pc = .error e := by
  show (r C pc).bind (fun x => f x.1 C x.2) = _
  rw [q]
  rfl
theorem u1_err {C : ByteArray} {pc : Nat} (c : ¬ pc < C.size) : (Jvm.ClassFile.Reader.u1 : Jvm.ClassFile.Reader Jvm.ClassFile.DecodeError Nat) C pc = .error (Jvm.ClassFile.DecodeError.truncated pc) := by
  unfold Jvm.ClassFile.Reader.u1
  show (if h : pc < C.size then _ else _ : Jvm.ClassFile.Reader Jvm.ClassFile.DecodeError Nat) C pc = _
  rw [dif_neg c]
  rfl
theorem decode_in {C : ByteArray} {pc : Nat} {x : Instr × Nat} (q : decode C pc = .ok x) : pc < C.size := by
  by_cases c : pc < C.size
  · exact c
  · exfalso
    have e : (Jvm.ClassFile.Decoder.instr pc) C pc = .error (Jvm.ClassFile.DecodeError.truncated pc) := by
      unfold Jvm.ClassFile.Decoder.instr
      exact rd_err (u1_err c)
    have e2 : decode C pc = ((Jvm.ClassFile.Decoder.instr pc) C pc).bind (fun x => pure (x.1, x.2 - pc)) := rfl
    rw [e2, e] at q
    cases q
theorem okI_at (hm : m < 181) (ha : alM m = false) {i : Instr} {len : Nat} (q : decode (mC m) pc = .ok (i, len)) : okI m i = true := by
  have e := (allB_iff _ _).mp (naM_all m hm ha) pc (decode_in q)
  unfold okP at e
  rw [q] at e
  exact e
def OKS (h : aH) (A : aA) : Prop := match A with
  | none => True
  | some (.inl r) => hN r.2 = hN h ∧ hZ r.2 = hZ h
  | some (.inr (.inl q)) => hN q.2.2.2.2 = hN h ∧ hZ q.2.2.2.2 = hZ h
  | some (.inr (.inr (q, _))) => q.1 < 181 ∧ alM q.1 = false
theorem OKS_N (x : hN h' = hN h ∧ hZ h' = hZ h) : OKS h (aN m pc L st h') := x
theorem OKS_n : OKS h (aN m pc L st h) := ⟨rfl, rfl⟩
theorem OKS_T {r : Option Value} : OKS h (aT r h) := ⟨rfl, rfl⟩
theorem OKS_gd {p : Prop} [Decidable p] (x : p → OKS h A) : OKS h (gd p A) := by
  unfold gd
  split
  · rename_i q; exact x q
  · exact trivial
theorem OKS_ite {p : Prop} [Decidable p] {B : aA} (x : OKS h A) (y : OKS h B) : OKS h (if p then A else B) := by
  split
  · exact x
  · exact y
theorem OKS_b2 {f : Int32 → Int32 → List Value → aA} (x : ∀ a b s, OKS h (f a b s)) : OKS h (b2 st f) := by
  unfold b2
  split
  · exact x _ _ _
  · exact trivial
theorem OKS_l2 {f : Int64 → Int64 → List Value → aA} (x : ∀ a b s, OKS h (f a b s)) : OKS h (l2 st f) := by
  unfold l2
  split
  · exact x _ _ _
  · exact trivial
theorem OKS_b1 {f : Int32 → List Value → aA} (x : ∀ a s, OKS h (f a s)) : OKS h (b1 st f) := by
  unfold b1
  split
  · exact x _ _
  · exact trivial
theorem OKS_r1 {f : Nat → List Value → aA} (x : ∀ a s, OKS h (f a s)) : OKS h (r1 st f) := by
  unfold r1
  split
  · exact x _ _
  · exact trivial
theorem OKS_ldI {f : Int32 → aA} (x : ∀ a, OKS h (f a)) : OKS h (ldI L k f) := by
  unfold ldI
  split
  · exact x _
  · exact trivial
theorem OKS_ldR {f : Nat → aA} (x : ∀ a, OKS h (f a)) : OKS h (ldR L k f) := by
  unfold ldR
  split
  · exact x _
  · exact trivial
theorem OKS_ldL {f : Int64 → aA} (x : ∀ a, OKS h (f a)) : OKS h (ldL L k f) := by
  unfold ldL
  split
  · exact x _
  · exact trivial
theorem OKS_jp {off : Int} {f : Nat → aA} (x : ∀ a, OKS h (f a)) : OKS h (jp pc off f) := by
  unfold jp
  split
  · exact x _
  · exact trivial
theorem OKS_cl1 {rest as : List Value} (q : alM k = false) : OKS h (cl1 m pc L rest h k as) := by
  unfold cl1
  exact OKS_gd (fun c => ⟨c.1, q⟩)
def okQ (m cp : Nat) : Bool := match cR m cp with
  | some (k, _) => !alM k
  | none => true
theorem okQ_k {n : Nat} (q : okQ m cp = true) (c : cR m cp = some (k, n)) : alM k = false := by
  unfold okQ at q
  rw [c] at q
  simpa using q
theorem OKS_actV (q : okQ m cp = true) : OKS h (actV m pc cp L st h) := by
  unfold actV
  split
  · exact OKS_r1 (fun _ _ => OKS_gd (fun _ => OKS_n))
  · exact OKS_b1 (fun _ _ => OKS_r1 (fun _ _ => OKS_gd (fun _ => OKS_n)))
  · rename_i c; exact OKS_r1 (fun _ _ => OKS_gd (fun _ => OKS_cl1 (okQ_k q c)))
  · exact trivial
theorem OKS_actS (q : okQ m cp = true) : OKS h (actS m pc cp L st h) := by
  unfold actS
  split
  · split
    · exact OKS_gd (fun hc => OKS_N ⟨rfl, rfl⟩)
    · exact trivial
  · exact OKS_b2 (fun _ _ _ => OKS_gd (fun _ => OKS_n))
  · exact OKS_b2 (fun _ _ _ => OKS_gd (fun _ => OKS_n))
  · exact OKS_b1 (fun _ _ => OKS_gd (fun _ => OKS_n))
  · rename_i c; exact OKS_gd (fun _ => OKS_cl1 (okQ_k q c))
  · exact trivial
theorem OKS_actP (q : okQ m cp = true) : OKS h (actP m pc cp L st h) := by
  unfold actP
  split
  · exact OKS_r1 (fun _ _ => OKS_gd (fun _ => OKS_n))
  · rename_i c; exact OKS_r1 (fun _ _ => OKS_gd (fun _ => OKS_cl1 (okQ_k q c)))
  · exact trivial
theorem OKS_actG : OKS h (actG m pc cp L st h) := by
  unfold actG
  split
  · exact OKS_r1 (fun _ _ => OKS_gd (fun _ => OKS_ite (OKS_gd (fun _ => OKS_n)) OKS_n))
  · exact trivial
theorem OKS_actU : OKS h (actU m pc cp L st h) := by
  unfold actU
  split
  · split
    · exact OKS_gd (fun hc => OKS_N ⟨rfl, rfl⟩)
    · exact OKS_gd (fun hc => OKS_N ⟨rfl, rfl⟩)
    · exact trivial
  · exact trivial
theorem OKS_new {q : okI m (.new cp) = true} : OKS h (match nR m cp with
    | some ci => aN m (pc + 3) L (.ref (hN h) :: st) (nw h (clT ci).2.2 (1, ci))
    | none => none) := by
  have e : (nR m cp).isNone = true := q
  rw [Option.isNone_iff_eq_none] at e
  rw [e]
  exact trivial
theorem OKS_actI (i : Instr) (len : Nat) (q : okI m i = true) : OKS h (actI i len m pc L st h) := by
  unfold actI
  split <;> first
    | exact trivial
    | exact OKS_n
    | exact OKS_actV q
    | exact OKS_actS q
    | exact OKS_actP q
    | exact OKS_actG
    | exact OKS_actU
    | exact OKS_new (q := q)
    | exact (Bool.false_ne_true q).elim
    | exact OKS_gd (fun _ => OKS_n)
    | exact OKS_ldI (fun _ => OKS_n)
    | exact OKS_ldR (fun _ => OKS_n)
    | exact OKS_ldL (fun _ => OKS_n)
    | exact OKS_ldI (fun _ => OKS_gd (fun _ => OKS_n))
    | exact OKS_b1 (fun _ _ => OKS_n)
    | exact OKS_b2 (fun _ _ _ => OKS_n)
    | exact OKS_l2 (fun _ _ _ => OKS_n)
    | exact OKS_b1 (fun _ _ => OKS_gd (fun _ => OKS_n))
    | exact OKS_r1 (fun _ _ => OKS_gd (fun _ => OKS_n))
    | exact OKS_b2 (fun _ _ _ => OKS_gd (fun _ => OKS_n))
    | exact OKS_l2 (fun _ _ _ => OKS_gd (fun _ => OKS_n))
    | exact OKS_b1 (fun _ _ => OKS_jp (fun _ => OKS_ite OKS_n OKS_n))
    | exact OKS_b2 (fun _ _ _ => OKS_jp (fun _ => OKS_ite OKS_n OKS_n))
    | exact OKS_jp (fun _ => OKS_n)
    | exact OKS_b1 (fun _ _ => OKS_gd (fun _ => OKS_jp (fun _ => OKS_n)))
    | (refine OKS_b1 (fun _ _ => OKS_ite (OKS_jp (fun _ => OKS_n)) ?_); split <;> first | exact trivial | exact OKS_jp (fun _ => OKS_n))
    | (split <;> first
        | exact trivial
        | exact OKS_n
        | exact OKS_gd (fun _ => OKS_n)
        | exact OKS_gd (fun _ => OKS_T)
        | exact OKS_gd (fun _ => OKS_N ⟨rfl, rfl⟩))
theorem exec_st : ∀ n q r, exec n q = some r → q.1 < 181 → alM q.1 = false → hN r.2 = hN q.2.2.2.2 ∧ hZ r.2 = hZ q.2.2.2.2 := by
  intro n
  induction n with
  | zero => intro q r e; cases e
  | succ n ih =>
    intro q r e hm ha
    have o : OKS q.2.2.2.2 (act q) := by
      unfold act
      split
      · rename_i hd
        exact OKS_actI _ _ (okI_at hm ha hd)
      · exact trivial
    have am : aM q.1 q.2.2.2.2 (act q) := by
      unfold act
      split
      · exact actI_mono _ _ _ _ _ _ _
      · exact trivial
    rw [exec] at e
    cases hq0 : act q with
    | none => rw [hq0] at e; cases e
    | some x =>
      rw [hq0] at e o am
      rcases x with r' | q' | ⟨q', k⟩
      · cases e; exact o
      · have i1 := ih _ _ e (by rw [am.1]; exact hm) (by rw [am.1]; exact ha)
        exact ⟨i1.1.trans o.1, i1.2.trans o.2⟩
      · have e' : (match exec n q' with | none => none | some r => exec n (k r)) = some r := e
        cases hq : exec n q' with
        | none => rw [hq] at e'; cases e'
        | some r' =>
          rw [hq] at e'
          have am2 := am.2 r'
          have i1 := ih _ _ hq o.1 o.2
          have i2 := ih _ _ e' (by rw [am2.2]; exact hm) (by rw [am2.2]; exact ha)
          rw [am.1] at i1
          rw [am2.1] at i2
          exact ⟨i2.1.trans i1.1, i2.2.trans i1.2⟩
theorem X_st {r : Option Value} (k1 : ∀ Q : Option Value → aH → Prop, X m pc L st h Q ↔ Q r h1) (hm : m < 181) (ha : alM m = false) : hN h1 = hN h ∧ hZ h1 = hZ h := by
  obtain ⟨n, r', e, q1, q2⟩ := (k1 (fun a b => a = r ∧ b = h1)).mpr ⟨rfl, rfl⟩
  have := exec_st n _ _ e hm ha
  rw [q2] at this
  exact this
end QUIET
