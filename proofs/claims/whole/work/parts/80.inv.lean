/-! NO STEP CHANGES A SHAPE THAT STANDS, NOR THE SCRIPT -/
section INV
variable {h h' h1 h2 : aH} {m pc a k z t : Nat} {L st : List Value} {v : Int32} {A : aA}
/-- the slots of a cell, by its shape; the slots of the cells below n -/
def szS (s : Nat × Nat) : Nat := match s with
  | (1, c) => (clT c).2.2
  | (2, n) => n
  | (3, n) => n
  | _ => 0
def sumZ (f : Nat → Nat × Nat) : Nat → Nat
  | 0 => 0
  | n + 1 => sumZ f n + szS (f n)
theorem sumZ_congr {f f' : Nat → Nat × Nat} : ∀ n, (∀ a, a < n → szS (f a) = szS (f' a)) → sumZ f n = sumZ f' n := by
  intro n
  induction n with
  | zero => intro _; rfl
  | succ n ih =>
    intro q
    show sumZ f n + szS (f n) = sumZ f' n + szS (f' n)
    rw [ih (fun a ha => q a (by omega)), q n (by omega)]
def Zs (h : aH) : Prop := hZ h = sumZ (hS h) (hN h)
def Ivh (h h' : aH) : Prop := hN h ≤ hN h' ∧ (∀ a, a < hN h → hS h' a = hS h a) ∧ (∀ a, a < hN h → (hS h a).1 = 4 → ∀ j, hI h' a j = hI h a j) ∧ (Zs h → Zs h')
theorem Ivh.refl (h : aH) : Ivh h h := ⟨Nat.le_refl _, fun _ _ => rfl, fun _ _ _ _ => rfl, fun z => z⟩
theorem Ivh.trans (x : Ivh h h1) (y : Ivh h1 h2) : Ivh h h2 := ⟨Nat.le_trans x.1 y.1, fun a ha => (y.2.1 a (Nat.lt_of_lt_of_le ha x.1)).trans (x.2.1 a ha), fun a ha q j => (y.2.2.1 a (Nat.lt_of_lt_of_le ha x.1) (by rw [x.2.1 a ha]; exact q) j).trans (x.2.2.1 a ha q j), fun z => y.2.2.2 (x.2.2.2 z)⟩
theorem Ivh.sI (q : (hS h a).1 ≠ 4) : Ivh h (sI h a k v) := by
  refine ⟨Nat.le_refl _, fun _ _ => rfl, fun b _ q2 j => ?_, fun z => z⟩
  rw [hI_sI, if_neg]
  rintro ⟨rfl, _⟩
  exact q q2
theorem Ivh.sR {w : Nat} : Ivh h (sR h a k w) := ⟨Nat.le_refl _, fun _ _ => rfl, fun _ _ _ _ => rfl, fun z => z⟩
theorem Ivh.nw {s : Nat × Nat} (e : szS s = z) : Ivh h (nw h z s) := by
  refine ⟨Nat.le_succ _, fun a ha => ?_, fun a ha _ j => ?_, fun y => ?_⟩
  · show (if a = hN h then s else hS h a) = _
    rw [if_neg (by omega)]
  · show (if a = hN h then 0 else hI h a j) = _
    rw [if_neg (by omega)]
  · show hZ h + z = sumZ (fun a => if a = hN h then s else hS h a) (hN h) + szS (if hN h = hN h then s else hS h (hN h))
    rw [if_pos rfl, e, sumZ_congr (f' := hS h) (hN h) (fun a ha => by rw [if_neg (by omega)])]
    have y' : hZ h = sumZ (hS h) (hN h) := y
    omega
theorem Ivh.cpI {b sp dp n : Nat} (q : (hS h b).1 ≠ 4) : Ivh h (cpI h a sp b dp n) := by
  refine ⟨Nat.le_refl _, fun _ _ => rfl, fun c _ q2 j => ?_, fun z => z⟩
  rw [hI_cpI, if_neg]
  rintro ⟨rfl, _⟩
  exact q q2
def OKA (h : aH) (A : aA) : Prop := match A with
  | none => True
  | some (.inl r) => Ivh h r.2
  | some (.inr (.inl q)) => Ivh h q.2.2.2.2
  | some (.inr (.inr (q, k))) => q.2.2.2.2 = h ∧ ∀ r, (k r).2.2.2.2 = r.2
theorem OKA_N (x : Ivh h h') : OKA h (aN m pc L st h') := x
theorem OKA_T {r : Option Value} (x : Ivh h h') : OKA h (aT r h') := x
theorem OKA_gd {p : Prop} [Decidable p] (x : p → OKA h A) : OKA h (gd p A) := by
  unfold gd
  split
  · rename_i q; exact x q
  · exact trivial
theorem OKA_ite {p : Prop} [Decidable p] {B : aA} (x : OKA h A) (y : OKA h B) : OKA h (if p then A else B) := by
  split
  · exact x
  · exact y
theorem OKA_b2 {f : Int32 → Int32 → List Value → aA} (x : ∀ a b s, OKA h (f a b s)) : OKA h (b2 st f) := by
  unfold b2
  split
  · exact x _ _ _
  · exact trivial
theorem OKA_l2 {f : Int64 → Int64 → List Value → aA} (x : ∀ a b s, OKA h (f a b s)) : OKA h (l2 st f) := by
  unfold l2
  split
  · exact x _ _ _
  · exact trivial
theorem OKA_b1 {f : Int32 → List Value → aA} (x : ∀ a s, OKA h (f a s)) : OKA h (b1 st f) := by
  unfold b1
  split
  · exact x _ _
  · exact trivial
theorem OKA_r1 {f : Nat → List Value → aA} (x : ∀ a s, OKA h (f a s)) : OKA h (r1 st f) := by
  unfold r1
  split
  · exact x _ _
  · exact trivial
theorem OKA_ldI {f : Int32 → aA} (x : ∀ a, OKA h (f a)) : OKA h (ldI L k f) := by
  unfold ldI
  split
  · exact x _
  · exact trivial
theorem OKA_ldR {f : Nat → aA} (x : ∀ a, OKA h (f a)) : OKA h (ldR L k f) := by
  unfold ldR
  split
  · exact x _
  · exact trivial
theorem OKA_ldL {f : Int64 → aA} (x : ∀ a, OKA h (f a)) : OKA h (ldL L k f) := by
  unfold ldL
  split
  · exact x _
  · exact trivial
theorem OKA_jp {off : Int} {f : Nat → aA} (x : ∀ a, OKA h (f a)) : OKA h (jp pc off f) := by
  unfold jp
  split
  · exact x _
  · exact trivial
theorem OKA_cl1 {rest as : List Value} : OKA h (cl1 m pc L rest h k as) := by
  unfold cl1
  exact OKA_gd (fun _ => ⟨rfl, fun _ => rfl⟩)
theorem OKA_actV {cp : Nat} : OKA h (actV m pc cp L st h) := by
  unfold actV
  split
  · exact OKA_r1 (fun _ _ => OKA_gd (fun _ => OKA_N (Ivh.refl _)))
  · exact OKA_b1 (fun _ _ => OKA_r1 (fun _ _ => OKA_gd (fun _ => OKA_N (Ivh.refl _))))
  · exact OKA_r1 (fun _ _ => OKA_gd (fun _ => OKA_cl1))
  · exact trivial
theorem OKA_actS {cp : Nat} : OKA h (actS m pc cp L st h) := by
  unfold actS
  split
  · split
    · exact OKA_gd (fun hc => OKA_N (Ivh.cpI (by rw [hc.2.1]; decide)))
    · exact trivial
  · exact OKA_b2 (fun _ _ _ => OKA_gd (fun _ => OKA_N (Ivh.refl _)))
  · exact OKA_b2 (fun _ _ _ => OKA_gd (fun _ => OKA_N (Ivh.refl _)))
  · exact OKA_b1 (fun _ _ => OKA_gd (fun _ => OKA_N (Ivh.refl _)))
  · exact OKA_gd (fun _ => OKA_cl1)
  · exact trivial
theorem OKA_actP {cp : Nat} : OKA h (actP m pc cp L st h) := by
  unfold actP
  split
  · exact OKA_r1 (fun _ _ => OKA_gd (fun _ => OKA_N (Ivh.refl _)))
  · exact OKA_r1 (fun _ _ => OKA_gd (fun _ => OKA_cl1))
  · exact trivial
theorem OKA_actG {cp : Nat} : OKA h (actG m pc cp L st h) := by
  unfold actG
  split
  · exact OKA_r1 (fun _ _ => OKA_gd (fun _ => OKA_ite (OKA_gd (fun _ => OKA_N (Ivh.refl _))) (OKA_N (Ivh.refl _))))
  · exact trivial
theorem OKA_actU {cp : Nat} : OKA h (actU m pc cp L st h) := by
  unfold actU
  split
  · split
    · exact OKA_gd (fun hc => OKA_N (Ivh.sI (by rw [hc.2.1]; show (1 : Nat) ≠ 4; decide)))
    · exact OKA_gd (fun hc => OKA_N Ivh.sR)
    · exact trivial
  · exact trivial
theorem OKA_actI (i : Instr) (len : Nat) : OKA h (actI i len m pc L st h) := by
  unfold actI
  split <;> first
    | exact trivial
    | exact OKA_N (Ivh.refl _)
    | exact OKA_actV
    | exact OKA_actS
    | exact OKA_actP
    | exact OKA_actG
    | exact OKA_actU
    | exact OKA_gd (fun _ => OKA_N (Ivh.refl _))
    | exact OKA_ldI (fun _ => OKA_N (Ivh.refl _))
    | exact OKA_ldR (fun _ => OKA_N (Ivh.refl _))
    | exact OKA_ldL (fun _ => OKA_N (Ivh.refl _))
    | exact OKA_ldI (fun _ => OKA_gd (fun _ => OKA_N (Ivh.refl _)))
    | exact OKA_b1 (fun _ _ => OKA_N (Ivh.refl _))
    | exact OKA_b2 (fun _ _ _ => OKA_N (Ivh.refl _))
    | exact OKA_l2 (fun _ _ _ => OKA_N (Ivh.refl _))
    | exact OKA_b1 (fun _ _ => OKA_gd (fun _ => OKA_N (Ivh.refl _)))
    | exact OKA_r1 (fun _ _ => OKA_gd (fun _ => OKA_N (Ivh.refl _)))
    | exact OKA_b2 (fun _ _ _ => OKA_gd (fun _ => OKA_N (Ivh.refl _)))
    | exact OKA_l2 (fun _ _ _ => OKA_gd (fun _ => OKA_N (Ivh.refl _)))
    | exact OKA_b1 (fun _ _ => OKA_jp (fun _ => OKA_ite (OKA_N (Ivh.refl _)) (OKA_N (Ivh.refl _))))
    | exact OKA_b2 (fun _ _ _ => OKA_jp (fun _ => OKA_ite (OKA_N (Ivh.refl _)) (OKA_N (Ivh.refl _))))
    | exact OKA_jp (fun _ => OKA_N (Ivh.refl _))
    | exact OKA_b1 (fun _ _ => OKA_gd (fun _ => OKA_jp (fun _ => OKA_N (Ivh.refl _))))
    | exact OKA_b1 (fun _ _ => OKA_gd (fun _ => OKA_N (Ivh.nw rfl)))
    | (refine OKA_b1 (fun _ _ => OKA_ite (OKA_jp (fun _ => OKA_N (Ivh.refl _))) ?_); split <;> first | exact trivial | exact OKA_jp (fun _ => OKA_N (Ivh.refl _)))
    | (split <;> first
        | exact trivial
        | exact OKA_N (Ivh.refl _)
        | exact OKA_N (Ivh.nw rfl)
        | exact OKA_gd (fun _ => OKA_N (Ivh.refl _))
        | exact OKA_gd (fun _ => OKA_T (Ivh.refl _))
        | exact OKA_gd (fun hc => OKA_N (Ivh.sI (by rw [hc.1]; decide))))
theorem exec_inv : ∀ n q r, exec n q = some r → Ivh q.2.2.2.2 r.2 := by
  intro n
  induction n with
  | zero => intro q r e; cases e
  | succ n ih =>
    intro q r e
    have o : OKA q.2.2.2.2 (act q) := by
      unfold act
      split
      · exact OKA_actI _ _
      · exact trivial
    rw [exec] at e
    cases ha : act q with
    | none => rw [ha] at e; cases e
    | some x =>
      rw [ha] at e o
      rcases x with r' | q' | ⟨q', k⟩
      · cases e; exact o
      · exact Ivh.trans o (ih _ _ e)
      · have e' : (match exec n q' with | none => none | some r => exec n (k r)) = some r := e
        cases hq : exec n q' with
        | none => rw [hq] at e'; cases e'
        | some r' =>
          rw [hq] at e'
          have i1 := ih _ _ hq
          have i2 := ih _ _ e'
          obtain ⟨o1, o2⟩ := o
          rw [o1] at i1
          rw [o2] at i2
          exact i1.trans i2
theorem X_inv {r : Option Value} (k1 : ∀ Q : Option Value → aH → Prop, X m pc L st h Q ↔ Q r h1) : Ivh h h1 := by
  obtain ⟨n, r', e, q1, q2⟩ := (k1 (fun a b => a = r ∧ b = h1)).mpr ⟨rfl, rfl⟩
  have := exec_inv n _ _ e
  rw [q2] at this
  exact this
end INV
