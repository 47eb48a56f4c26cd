/-! THE ABSTRACT MACHINE'S RUNS ARE THE JVM'S -/
/-- heaps only grow -/
def aM (m : Nat) (h : aH) (a : aA) : Prop := match a with
  | none => True
  | some (.inl r) => r.2 = h
  | some (.inr (.inl q)) => q.1 = m ∧ hN h ≤ hN q.2.2.2.2 ∧ hZ h ≤ hZ q.2.2.2.2
  | some (.inr (.inr (q, k))) => q.2.2.2.2 = h ∧ ∀ r : aR, (k r).2.2.2.2 = r.2 ∧ (k r).1 = m
theorem aM_N {m pc : Nat} {L st : List Value} {h h' : aH} (h1 : hN h ≤ hN h') (h2 : hZ h ≤ hZ h') : aM m h (aN m pc L st h') := ⟨rfl, h1, h2⟩
theorem aM_n {m pc : Nat} {L st : List Value} {h : aH} : aM m h (aN m pc L st h) := ⟨rfl, Nat.le_refl _, Nat.le_refl _⟩
theorem aM_o {m : Nat} {h : aH} : aM m h none := trivial
theorem aM_gd {m : Nat} {h : aH} {q : Prop} [Decidable q] {a : aA} (k : aM m h a) : aM m h (gd q a) := by
  unfold gd
  split
  · exact k
  · exact trivial
theorem aM_if {m : Nat} {h : aH} {q : Prop} [Decidable q] {a b : aA} (k : aM m h a) (k2 : aM m h b) : aM m h (if q then a else b) := by
  split
  · exact k
  · exact k2
theorem aM_jp {m : Nat} {h : aH} {pc : Nat} {off : Int} {f : Nat → aA} (k : ∀ t, aM m h (f t)) : aM m h (jp pc off f) := by
  unfold jp
  split
  · exact k _
  · exact trivial
theorem aM_b2 {m : Nat} {h : aH} {st : List Value} {f : Int32 → Int32 → List Value → aA} (k : ∀ x y t, aM m h (f x y t)) : aM m h (b2 st f) := by
  unfold b2
  split
  · exact k _ _ _
  · exact trivial
theorem aM_l2 {m : Nat} {h : aH} {st : List Value} {f : Int64 → Int64 → List Value → aA} (k : ∀ x y t, aM m h (f x y t)) : aM m h (l2 st f) := by
  unfold l2
  split
  · exact k _ _ _
  · exact trivial
theorem aM_b1 {m : Nat} {h : aH} {st : List Value} {f : Int32 → List Value → aA} (k : ∀ x t, aM m h (f x t)) : aM m h (b1 st f) := by
  unfold b1
  split
  · exact k _ _
  · exact trivial
theorem aM_r1 {m : Nat} {h : aH} {st : List Value} {f : Nat → List Value → aA} (k : ∀ x t, aM m h (f x t)) : aM m h (r1 st f) := by
  unfold r1
  split
  · exact k _ _
  · exact trivial
theorem aM_ldI {m : Nat} {h : aH} {L : List Value} {i : Nat} {f : Int32 → aA} (k : ∀ x, aM m h (f x)) : aM m h (ldI L i f) := by
  unfold ldI
  split
  · exact k _
  · exact trivial
theorem aM_ldR {m : Nat} {h : aH} {L : List Value} {i : Nat} {f : Nat → aA} (k : ∀ x, aM m h (f x)) : aM m h (ldR L i f) := by
  unfold ldR
  split
  · exact k _
  · exact trivial
theorem aM_ldL {m : Nat} {h : aH} {L : List Value} {i : Nat} {f : Int64 → aA} (k : ∀ x, aM m h (f x)) : aM m h (ldL L i f) := by
  unfold ldL
  split
  · exact k _
  · exact trivial
theorem aM_cl1 {m pc : Nat} {L rest : List Value} {h : aH} {k : Nat} {as : List Value} : aM m h (cl1 m pc L rest h k as) := aM_gd ⟨rfl, fun _ => ⟨rfl, rfl⟩⟩
set_option maxHeartbeats 4000000 in
theorem actI_mono (i : Instr) (len m pc : Nat) (L st : List Value) (h : aH) : aM m h (actI i len m pc L st h) := by
  unfold actI
  split <;> (try unfold actG) <;> (try unfold actU) <;> (try unfold actV) <;> (try unfold actS) <;> (try unfold actP) <;> repeat (first
    | exact aM_o | exact aM_n | exact aM_cl1 | exact rfl | exact trivial
    | exact aM_N (Nat.le_refl _) (Nat.le_refl _) | exact aM_N (Nat.le_succ _) (Nat.le_add_right _ _)
    | refine aM_gd ?_ | refine aM_jp (fun _ => ?_) | refine aM_b2 (fun _ _ _ => ?_) | refine aM_l2 (fun _ _ _ => ?_) | refine aM_b1 (fun _ _ => ?_) | refine aM_r1 (fun _ _ => ?_) | refine aM_ldI (fun _ => ?_) | refine aM_ldR (fun _ => ?_) | refine aM_ldL (fun _ => ?_) | refine aM_if ?_ ?_
    | split)
theorem exec_mono : ∀ (n : Nat) (q : aQ) (r : aR), exec n q = some r → hN q.2.2.2.2 ≤ hN r.2 ∧ hZ q.2.2.2.2 ≤ hZ r.2 := by
  intro n
  induction n with
  | zero => intro q r h; simp [exec] at h
  | succ n ih =>
    intro q r h
    have hm : aM q.1 q.2.2.2.2 (act q) := by
      unfold act
      split
      · exact actI_mono _ _ _ _ _ _ _
      · exact trivial
    rw [exec] at h
    split at h
    · cases h
    · rename_i r' hr
      cases h
      rw [hr] at hm
      rw [show r.2 = q.2.2.2.2 from hm]
      exact ⟨Nat.le_refl _, Nat.le_refl _⟩
    · rename_i q' hq
      rw [hq] at hm
      have := ih _ _ h
      exact ⟨Nat.le_trans hm.2.1 this.1, Nat.le_trans hm.2.2 this.2⟩
    · rename_i q' k hq
      rw [hq] at hm
      split at h
      · cases h
      · rename_i r' hr
        have h1 := ih _ _ hr
        have h2 := ih _ _ h
        rw [hm.1] at h1
        rw [(hm.2 r').1] at h2
        exact ⟨Nat.le_trans h1.1 h2.1, Nat.le_trans h1.2 h2.2⟩
section SIM
variable {p : Program} {l : Launch} {e : Env} {R : Room} {s : State} {mi : MethodId} {args : Array Value} {below : List Frame} {meth : Method} {c : Code} {H : Heap} {locs : List Loc} {cells slots : Nat} {Q : State → Prop} {g : aG} {m pc n kc kz len : Nat} {L st : List Value} {h : aH} {ls : Array Slot}
theorem st_virtual (P : Pt p l R s mi args meth c H locs cells slots g m n kc kz L h ls) {cp : Nat} (hd : decode (mC m) pc = .ok (.invokevirtual cp, 3)) (hk : okA p l e R s mi args below meth c Q g m pc n kc kz (actV m pc cp L st h)) : W p l e R s mi args below meth c H locs cells slots Q (F0 mi pc ls (st.map (cv g))) := by
  unfold actV at hk
  split at hk
  · rename_i hc; exact lt_slen P hc hd hk
  · rename_i hc; exact lt_schr P hc hd hk
  · rename_i hc; exact lt_virtual P hc hd hk
  · exact hk.elim
theorem st_static (P : Pt p l R s mi args meth c H locs cells slots g m n kc kz L h ls) {cp : Nat} (hd : decode (mC m) pc = .ok (.invokestatic cp, 3)) (hk : okA p l e R s mi args below meth c Q g m pc n kc kz (actS m pc cp L st h)) : W p l e R s mi args below meth c H locs cells slots Q (F0 mi pc ls (st.map (cv g))) := by
  unfold actS at hk
  split at hk
  · rename_i hc; exact lt_copy P hc hd hk
  · rename_i hc; exact lt_max P hc hd hk
  · rename_i hc; exact lt_min P hc hd hk
  · rename_i hc; exact lt_abs P hc hd hk
  · rename_i hc; exact lt_static P hc hd hk
  · exact hk.elim
theorem st_special (P : Pt p l R s mi args meth c H locs cells slots g m n kc kz L h ls) {cp : Nat} (hd : decode (mC m) pc = .ok (.invokespecial cp, 3)) (hk : okA p l e R s mi args below meth c Q g m pc n kc kz (actP m pc cp L st h)) : W p l e R s mi args below meth c H locs cells slots Q (F0 mi pc ls (st.map (cv g))) := by
  unfold actP at hk
  split at hk
  · rename_i hc; exact lt_objinit P hc hd hk
  · rename_i hc; exact lt_special P hc hd hk
  · exact hk.elim
set_option maxHeartbeats 8000000 in
theorem step_ok (P : Pt p l R s mi args meth c H locs cells slots g m n kc kz L h ls) {i : Instr} (hd : decode (mC m) pc = .ok (i, len)) (hk : okA p l e R s mi args below meth c Q g m pc n kc kz (actI i len m pc L st h)) : W p l e R s mi args below meth c H locs cells slots Q (F0 mi pc ls (st.map (cv g))) := by
  unfold actI at hk
  split at hk
  · exact lt_iconst P hd hk
  · exact lt_bipush P hd hk
  · exact lt_sipush P hd hk
  · exact lt_lconst P hd hk
  · exact lt_ldc P hd hk
  · exact lt_ldcw P hd hk
  · exact lt_ldc2 P hd hk
  · exact lt_iload_n P hd hk
  · exact lt_iload P hd hk
  · exact lt_aload_n P hd hk
  · exact lt_aload P hd hk
  · exact lt_lload_n P hd hk
  · exact lt_lload P hd hk
  · exact lt_istore_n P hd hk
  · exact lt_istore P hd hk
  · exact lt_astore_n P hd hk
  · exact lt_lstore_n P hd hk
  · exact lt_lstore P hd hk
  · exact lt_iinc P hd hk
  · exact lt_dup P hd hk
  · exact lt_dup2 P hd hk
  · exact lt_pop P hd hk
  · exact lt_iadd P hd hk
  · exact lt_isub P hd hk
  · exact lt_imul P hd hk
  · exact lt_idiv P hd hk
  · exact lt_irem P hd hk
  · exact lt_iand P hd hk
  · exact lt_ior P hd hk
  · exact lt_ixor P hd hk
  · exact lt_ishl P hd hk
  · exact lt_ishr P hd hk
  · exact lt_iushr P hd hk
  · exact lt_ineg P hd hk
  · exact lt_i2l P hd hk
  · exact lt_l2i P hd hk
  · exact lt_ladd P hd hk
  · exact lt_lmul P hd hk
  · exact lt_ldiv P hd hk
  · exact lt_lrem P hd hk
  · exact lt_ifCond P hd hk
  · exact lt_if_icmp P hd hk
  · exact lt_goto P hd hk
  · exact lt_table P hd hk
  · exact lt_lookup P hd hk
  · exact lt_getfield P hd hk
  · exact lt_putfield P hd hk
  · exact lt_iaload P hd hk
  · exact lt_baload P hd hk
  · exact lt_iastore P hd hk
  · exact lt_bastore P hd hk
  · exact lt_alen P hd hk
  · exact lt_new P hd hk
  · exact lt_newI P hd hk
  · exact lt_newZ P hd hk
  · exact st_virtual P hd hk
  · exact st_static P hd hk
  · exact st_special P hd hk
  · exact lt_ireturn P hd hk
  · exact lt_return P hd hk
  · exact hk.elim
end SIM
/-- a run from a point of a method, by its length; what the method does with its answer is the caller's -/
def SimW (l : Launch) (g : aG) (n : Nat) : Prop := ∀ (q : aQ) (r : aR), exec n q = some r → ∀ {p : Program} {e : Env} {R : Room} {s : State} {mi : MethodId} {args : Array Value} {below : List Frame} {meth : Method} {c : Code} {H : Heap} {locs : List Loc} {cells slots : Nat} {Q : State → Prop} {kc kz : Nat} {ls : Array Slot},
  Cx g q.1 p R s mi args meth c → HR g q.2.2.2.2 H → LO g locs → LR g ls (mL q.1) q.2.2.1 → cells + kc = hN q.2.2.2.2 → slots + kz = hZ q.2.2.2.2 → hN r.2 ≤ R.cells + kc → hZ r.2 ≤ R.slots + kz →
  (∀ (pc : Nat) (H : Heap) (locs : List Loc) (ls : Array Slot) (cells slots : Nat), HR g r.2 H → LO g locs → cells + kc = hN r.2 → slots + kz = hZ r.2 → rOk q.1 r.1 → rDec q.1 pc r.1 → W p l e R s mi args below meth c H locs cells slots Q (F0 mi pc ls (r.1.toList.map (cv g)))) →
  W p l e R s mi args below meth c H locs cells slots Q (F0 mi q.2.1 ls (q.2.2.2.1.map (cv g)))
theorem kRK : ∀ k, k < nMt → RK (mK k) = (mY k).cls := by decide +kernel
theorem IM_of {l : Launch} {g : aG} {n : Nat} (hS : SimW l g n) : IM l g n := by
  intro k as h r hex hlt ha hal
  have hmono := exec_mono n _ _ hex
  refine ⟨hmono, ?_⟩
  have hok := okM_at hlt
  refine Met.ofW (cc := mC k) (maxL := mL k) (ret := mRt k) hok.2.2.1.1 rfl ?_
  intro p e s m args below meth c s₁ B hml hv
  obtain ⟨rfl, hHR, hKS⟩ := hv
  have hts := atoms_spec (ws := wsM k) B.pre
  have hown : s.vm.findClass (RK (mK k)) = some m.cls := by
    rw [kRK k hlt]
    exact findClass_of_methodNamed B.named
  rw [lg_entry_eq]
  have hC : Cx g k p (headSpec (wsM k) (rmM k h r.2)).room s m (as.map (cv g)).toArray meth c := ⟨B.exec, B.bytes, hml, B.notSynchronized, hown, fun w hw => hts w (List.mem_cons_of_mem _ hw), hKS, (name_of_methodNamed B.named B.method).1, Nat.le_refl _, Nat.le_refl _⟩
  have hlocks := B.notSynchronized
  refine hS (k, 0, eL k as, [], h) r hex (kc := hN h) (kz := hZ h) hC hHR (fun q hq => by cases hq) (LR.entry g ha hal) (by show 0 + hN h = hN h; omega) (by show 0 + hZ h = hZ h; omega) (by show hN r.2 ≤ (hN r.2 - hN h) + hN h; omega) (by show hZ r.2 ≤ (hZ r.2 - hZ h) + hZ h; omega) ?_
  intro pc H locs ls cells slots hr hlo hc hz hrok hdec
  have hc' : cells = hN r.2 - hN h := by omega
  have hz' : slots = hZ r.2 - hZ h := by omega
  subst hc'
  subst hz'
  obtain ⟨rv0, rh⟩ := r
  cases rv0 with
  | none =>
    exact W.vret B.exec B.bytes (by rw [B.returns]; exact hrok) (fun t ht hW => ⟨rfl, by rw [ht]; exact hr⟩) hlo hdec
  | some v =>
    cases v with
    | int x =>
      rcases hrok with q | ⟨q, q2⟩
      · exact W.iret B.exec B.bytes (by rw [B.returns]; exact q) (fun t ht hW => ⟨rfl, by rw [ht]; exact hr⟩) hlo hdec
      · exact W.zret (ty := .boolean) B.exec B.bytes (by rw [B.returns]; exact q) (by rcases q2 with rfl | rfl <;> decide) (fun t ht hW => ⟨rfl, by rw [ht]; exact hr⟩) hlo hdec
    | _ => exact hrok.elim
theorem simW (l : Launch) (g : aG) : ∀ n, SimW l g n := by
  intro n
  induction n with
  | zero => intro q r h; simp [exec] at h
  | succ n ih =>
    intro q r hex p e R s mi args below meth c H locs cells slots Q kc kz ls hC hHR hlo hl hc hz b1 b2 kret
    obtain ⟨m, pc, L, st, h⟩ := q
    have P : Pt p l R s mi args meth c H locs cells slots g m n kc kz L h ls := ⟨hC, IM_of ih, hHR, hlo, hl, hc, hz⟩
    rw [exec] at hex
    cases hdc : decode (mC m) pc with
    | error x =>
      have : act (m, pc, L, st, h) = none := by simp [act, hdc]
      rw [this] at hex
      cases hex
    | ok x =>
      obtain ⟨i, len⟩ := x
      have hact : act (m, pc, L, st, h) = actI i len m pc L st h := by simp [act, hdc]
      rw [hact] at hex
      refine step_ok P hdc ?_
      show okA p l e R s mi args below meth c Q g m pc n kc kz (actI i len m pc L st h)
      have hmn := actI_mono i len m pc L st h
      split at hex
      · cases hex
      · rename_i r' ha
        cases hex
        rw [ha]
        intro H locs ls cells slots r1 r2 r3 r4 r5 r6
        exact kret pc H locs ls cells slots r1 r2 r3 r4 r5 r6
      · rename_i q' ha
        rw [ha] at hmn ⊢
        have hm2 := exec_mono n _ _ hex
        obtain ⟨m', pc', L', st', h'⟩ := q'
        have hmm : m' = m := hmn.1
        subst hmm
        exact ⟨rfl, Nat.le_trans hm2.1 b1, Nat.le_trans hm2.2 b2, fun H locs ls cells slots r1 r2 r3 r4 r5 => ih _ _ hex hC r1 r2 r3 r4 r5 b1 b2 kret⟩
      · rename_i q' k ha
        rw [ha] at hmn ⊢
        split at hex
        · cases hex
        · rename_i r' hr
          have hm2 := exec_mono n _ _ hex
          have hm3 := hmn.2 r'
          rw [hm3.1] at hm2
          refine ⟨r', hr, Nat.le_trans hm2.1 b1, Nat.le_trans hm2.2 b2, ?_⟩
          generalize k r' = q2 at hex hm3
          obtain ⟨m', pc', L', st', h'⟩ := q2
          have hmm : m' = m := hm3.2
          have hhh : h' = r'.2 := hm3.1
          subst hmm
          subst hhh
          exact ⟨rfl, Nat.le_trans hm2.1 b1, Nat.le_trans hm2.2 b2, fun H locs ls cells slots r1 r2 r3 r4 r5 => ih _ _ hex hC r1 r2 r3 r4 r5 b1 b2 kret⟩
