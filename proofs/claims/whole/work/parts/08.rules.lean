/-! THE MACHINE'S STEPS AS REWRITE RULES (unconditional: what a step asks for stands beside it) -/
theorem Xq_o {q : aQ} {Q : Option Value → aH → Prop} (e : act q = none) : Xq q Q ↔ False := by
  constructor
  · rintro ⟨n, r, h1, -⟩
    cases n with
    | zero => simp [exec] at h1
    | succ n => rw [exec, e] at h1; cases h1
  · exact False.elim
section RULES
variable {m pc t cp k n ci ml ck : Nat} {cc : ByteArray} {L st rest : List Value} {h : aH} {Q : Option Value → aH → Prop}
theorem act_of {i : Instr} {len : Nat} (hm : mC m = cc) (hd : decode cc pc = .ok (i, len)) : act (m, pc, L, st, h) = actI i len m pc L st h := by
  subst hm
  simp [act, hd]
/-- a step that asks for nothing -/
theorem X_n {i : Instr} {len pc' : Nat} {L' st' : List Value} {h' : aH} (hm : mC m = cc) (hd : decode cc pc = .ok (i, len)) (e : actI i len m pc L st h = aN m pc' L' st' h') : X m pc L st h Q ↔ X m pc' L' st' h' Q := Xq_n ((act_of hm hd).trans e)
/-- a step with a question -/
theorem X_gd {i : Instr} {len pc' : Nat} {L' st' : List Value} {h' : aH} {q : Prop} [Decidable q] (hm : mC m = cc) (hd : decode cc pc = .ok (i, len)) (e : actI i len m pc L st h = gd q (aN m pc' L' st' h')) : X m pc L st h Q ↔ q ∧ X m pc' L' st' h' Q := by
  by_cases hq : q
  · have := X_n (Q := Q) hm hd (e.trans (if_pos hq))
    rw [this]
    exact ⟨fun z => ⟨hq, z⟩, fun z => z.2⟩
  · have e2 : act (m, pc, L, st, h) = none := (act_of hm hd).trans (e.trans (if_neg hq))
    exact ⟨fun z => ((Xq_o e2).mp z).elim, fun z => absurd z.1 hq⟩
theorem jp_eq {off : Int} {f : Nat → aA} (ht : (pc : Int) + off = (t : Int)) : jp pc off f = f t := by
  unfold jp
  rw [ht, if_pos (by omega)]
  rfl
theorem X_goto {off : Int} (hm : mC m = cc) (hd : decode cc pc = .ok (.goto off, 3)) (ht : (pc : Int) + off = (t : Int)) : X m pc L st h Q ↔ X m t L st h Q := X_n hm hd (show jp pc off (fun t => aN m t L st h) = _ from jp_eq ht)
theorem X_if {i : Instr} {len : Nat} {b : Bool} {t1 t2 : Nat} {L' st' : List Value} {h' : aH} (hm : mC m = cc) (hd : decode cc pc = .ok (i, len)) (e : actI i len m pc L st h = if b then aN m t1 L' st' h' else aN m t2 L' st' h') : X m pc L st h Q ↔ if b = true then X m t1 L' st' h' Q else X m t2 L' st' h' Q := by
  cases b
  · exact X_n hm hd e
  · exact X_n hm hd e
theorem X_ieq {off : Int} {x y : Int32} (hm : mC m = cc) (hd : decode cc pc = .ok (.if_icmp .eq off, 3)) (ht : (pc : Int) + off = (t : Int)) : X m pc L (.int y :: .int x :: st) h Q ↔ if x = y then X m t L st h Q else X m (pc + 3) L st h Q := by
  rw [X_if (L := L) (st := .int y :: .int x :: st) (h := h) (b := cmpI .eq x y) (L' := L) (st' := st) (h' := h) (t1 := t) (t2 := pc + 3) hm hd (show jp pc off (fun t => if cmpI .eq x y then aN m t L st h else aN m (pc + 3) L st h) = _ from jp_eq ht)]
  simp only [cmpI, decide_eq_true_eq]
theorem X_ine {off : Int} {x y : Int32} (hm : mC m = cc) (hd : decode cc pc = .ok (.if_icmp .ne off, 3)) (ht : (pc : Int) + off = (t : Int)) : X m pc L (.int y :: .int x :: st) h Q ↔ if x = y then X m (pc + 3) L st h Q else X m t L st h Q := by
  rw [X_if (L := L) (st := .int y :: .int x :: st) (h := h) (b := cmpI .ne x y) (L' := L) (st' := st) (h' := h) (t1 := t) (t2 := pc + 3) hm hd (show jp pc off (fun t => if cmpI .ne x y then aN m t L st h else aN m (pc + 3) L st h) = _ from jp_eq ht)]
  by_cases hq : x = y <;> simp [cmpI, hq]
theorem X_ilt {off : Int} {x y : Int32} (hm : mC m = cc) (hd : decode cc pc = .ok (.if_icmp .lt off, 3)) (ht : (pc : Int) + off = (t : Int)) : X m pc L (.int y :: .int x :: st) h Q ↔ if x < y then X m t L st h Q else X m (pc + 3) L st h Q := by
  rw [X_if (L := L) (st := .int y :: .int x :: st) (h := h) (b := cmpI .lt x y) (L' := L) (st' := st) (h' := h) (t1 := t) (t2 := pc + 3) hm hd (show jp pc off (fun t => if cmpI .lt x y then aN m t L st h else aN m (pc + 3) L st h) = _ from jp_eq ht)]
  simp only [cmpI, decide_eq_true_eq]
theorem X_ige {off : Int} {x y : Int32} (hm : mC m = cc) (hd : decode cc pc = .ok (.if_icmp .ge off, 3)) (ht : (pc : Int) + off = (t : Int)) : X m pc L (.int y :: .int x :: st) h Q ↔ if x < y then X m (pc + 3) L st h Q else X m t L st h Q := by
  rw [X_if (L := L) (st := .int y :: .int x :: st) (h := h) (b := cmpI .ge x y) (L' := L) (st' := st) (h' := h) (t1 := t) (t2 := pc + 3) hm hd (show jp pc off (fun t => if cmpI .ge x y then aN m t L st h else aN m (pc + 3) L st h) = _ from jp_eq ht)]
  by_cases hq : x < y
  · have : ¬ y ≤ x := Int32.not_le.mpr hq
    simp [cmpI, hq, this]
  · have : y ≤ x := Int32.not_lt.mp hq
    simp [cmpI, hq, this]
theorem X_igt {off : Int} {x y : Int32} (hm : mC m = cc) (hd : decode cc pc = .ok (.if_icmp .gt off, 3)) (ht : (pc : Int) + off = (t : Int)) : X m pc L (.int y :: .int x :: st) h Q ↔ if y < x then X m t L st h Q else X m (pc + 3) L st h Q := by
  rw [X_if (L := L) (st := .int y :: .int x :: st) (h := h) (b := cmpI .gt x y) (L' := L) (st' := st) (h' := h) (t1 := t) (t2 := pc + 3) hm hd (show jp pc off (fun t => if cmpI .gt x y then aN m t L st h else aN m (pc + 3) L st h) = _ from jp_eq ht)]
  simp only [cmpI, decide_eq_true_eq]
theorem X_ile {off : Int} {x y : Int32} (hm : mC m = cc) (hd : decode cc pc = .ok (.if_icmp .le off, 3)) (ht : (pc : Int) + off = (t : Int)) : X m pc L (.int y :: .int x :: st) h Q ↔ if y < x then X m (pc + 3) L st h Q else X m t L st h Q := by
  rw [X_if (L := L) (st := .int y :: .int x :: st) (h := h) (b := cmpI .le x y) (L' := L) (st' := st) (h' := h) (t1 := t) (t2 := pc + 3) hm hd (show jp pc off (fun t => if cmpI .le x y then aN m t L st h else aN m (pc + 3) L st h) = _ from jp_eq ht)]
  by_cases hq : y < x
  · have : ¬ x ≤ y := Int32.not_le.mpr hq
    simp [cmpI, hq, this]
  · have : x ≤ y := Int32.not_lt.mp hq
    simp [cmpI, hq, this]
theorem X_zeq {off : Int} {x : Int32} (hm : mC m = cc) (hd : decode cc pc = .ok (.ifCond .eq off, 3)) (ht : (pc : Int) + off = (t : Int)) : X m pc L (.int x :: st) h Q ↔ if x = 0 then X m t L st h Q else X m (pc + 3) L st h Q := by
  rw [X_if (L := L) (st := .int x :: st) (h := h) (b := cmpI .eq x 0) (L' := L) (st' := st) (h' := h) (t1 := t) (t2 := pc + 3) hm hd (show jp pc off (fun t => if cmpI .eq x 0 then aN m t L st h else aN m (pc + 3) L st h) = _ from jp_eq ht)]
  simp only [cmpI, decide_eq_true_eq]
theorem X_zne {off : Int} {x : Int32} (hm : mC m = cc) (hd : decode cc pc = .ok (.ifCond .ne off, 3)) (ht : (pc : Int) + off = (t : Int)) : X m pc L (.int x :: st) h Q ↔ if x = 0 then X m (pc + 3) L st h Q else X m t L st h Q := by
  rw [X_if (L := L) (st := .int x :: st) (h := h) (b := cmpI .ne x 0) (L' := L) (st' := st) (h' := h) (t1 := t) (t2 := pc + 3) hm hd (show jp pc off (fun t => if cmpI .ne x 0 then aN m t L st h else aN m (pc + 3) L st h) = _ from jp_eq ht)]
  by_cases hq : x = 0 <;> simp [cmpI, hq]
theorem X_zlt {off : Int} {x : Int32} (hm : mC m = cc) (hd : decode cc pc = .ok (.ifCond .lt off, 3)) (ht : (pc : Int) + off = (t : Int)) : X m pc L (.int x :: st) h Q ↔ if x < 0 then X m t L st h Q else X m (pc + 3) L st h Q := by
  rw [X_if (L := L) (st := .int x :: st) (h := h) (b := cmpI .lt x 0) (L' := L) (st' := st) (h' := h) (t1 := t) (t2 := pc + 3) hm hd (show jp pc off (fun t => if cmpI .lt x 0 then aN m t L st h else aN m (pc + 3) L st h) = _ from jp_eq ht)]
  simp only [cmpI, decide_eq_true_eq]
theorem X_zge {off : Int} {x : Int32} (hm : mC m = cc) (hd : decode cc pc = .ok (.ifCond .ge off, 3)) (ht : (pc : Int) + off = (t : Int)) : X m pc L (.int x :: st) h Q ↔ if x < 0 then X m (pc + 3) L st h Q else X m t L st h Q := by
  rw [X_if (L := L) (st := .int x :: st) (h := h) (b := cmpI .ge x 0) (L' := L) (st' := st) (h' := h) (t1 := t) (t2 := pc + 3) hm hd (show jp pc off (fun t => if cmpI .ge x 0 then aN m t L st h else aN m (pc + 3) L st h) = _ from jp_eq ht)]
  by_cases hq : x < 0
  · have : ¬ 0 ≤ x := Int32.not_le.mpr hq
    simp [cmpI, hq, this]
  · have : 0 ≤ x := Int32.not_lt.mp hq
    simp [cmpI, hq, this]
theorem X_zgt {off : Int} {x : Int32} (hm : mC m = cc) (hd : decode cc pc = .ok (.ifCond .gt off, 3)) (ht : (pc : Int) + off = (t : Int)) : X m pc L (.int x :: st) h Q ↔ if 0 < x then X m t L st h Q else X m (pc + 3) L st h Q := by
  rw [X_if (L := L) (st := .int x :: st) (h := h) (b := cmpI .gt x 0) (L' := L) (st' := st) (h' := h) (t1 := t) (t2 := pc + 3) hm hd (show jp pc off (fun t => if cmpI .gt x 0 then aN m t L st h else aN m (pc + 3) L st h) = _ from jp_eq ht)]
  simp only [cmpI, decide_eq_true_eq]
theorem X_zle {off : Int} {x : Int32} (hm : mC m = cc) (hd : decode cc pc = .ok (.ifCond .le off, 3)) (ht : (pc : Int) + off = (t : Int)) : X m pc L (.int x :: st) h Q ↔ if 0 < x then X m (pc + 3) L st h Q else X m t L st h Q := by
  rw [X_if (L := L) (st := .int x :: st) (h := h) (b := cmpI .le x 0) (L' := L) (st' := st) (h' := h) (t1 := t) (t2 := pc + 3) hm hd (show jp pc off (fun t => if cmpI .le x 0 then aN m t L st h else aN m (pc + 3) L st h) = _ from jp_eq ht)]
  by_cases hq : 0 < x
  · have : ¬ x ≤ 0 := Int32.not_le.mpr hq
    simp [cmpI, hq, this]
  · have : x ≤ 0 := Int32.not_lt.mp hq
    simp [cmpI, hq, this]
theorem X_getI {a : Nat} (hm : mC m = cc) (hd : decode cc pc = .ok (.getfield cp, 3)) (hf : fR m cp = some (ci, k) ∧ fK ci k ≠ 1) : X m pc L (.ref a :: st) h Q ↔ hS h a = (1, ci) ∧ X m (pc + 3) L (.int (hI h a k) :: st) h Q := by
  refine X_gd hm hd ?_
  show actG m pc cp L (.ref a :: st) h = _
  unfold actG
  rw [hf.1]
  show gd _ (if fK ci k = 1 then _ else _) = _
  rw [if_neg hf.2]
theorem X_getR {a : Nat} (hm : mC m = cc) (hd : decode cc pc = .ok (.getfield cp, 3)) (hf : fR m cp = some (ci, k) ∧ fK ci k = 1) : X m pc L (.ref a :: st) h Q ↔ (hS h a = (1, ci) ∧ hR h a k ≠ 0) ∧ X m (pc + 3) L (.ref (hR h a k) :: st) h Q := by
  refine X_gd hm hd ?_
  show actG m pc cp L (.ref a :: st) h = _
  unfold actG
  rw [hf.1]
  show gd _ (if fK ci k = 1 then _ else _) = _
  rw [if_pos hf.2]
  unfold gd
  by_cases h1 : hS h a = (1, ci) <;> by_cases h2 : hR h a k ≠ 0 <;> simp [h1, h2]
theorem X_putI {a : Nat} {v : Int32} (hm : mC m = cc) (hd : decode cc pc = .ok (.putfield cp, 3)) (hf : fR m cp = some (ci, k) ∧ fK ci k = 0 ∧ finOk m ci k = true) : X m pc L (.int v :: .ref a :: st) h Q ↔ hS h a = (1, ci) ∧ X m (pc + 3) L st (sI h a k v) Q := by
  rw [X_gd (L := L) (st := .int v :: .ref a :: st) (h := h) (L' := L) (st' := st) (h' := sI h a k v) (pc' := pc + 3) (q := finOk m ci k = true ∧ hS h a = (1, ci) ∧ (fK ci k = 0 ∨ fK ci k = 2 ∧ (v = 0 ∨ v = 1))) hm hd (show actU m pc cp L (.int v :: .ref a :: st) h = _ by unfold actU; rw [hf.1])]
  simp only [hf.2.1, hf.2.2, true_and, true_or, and_true]
theorem X_putZ {a : Nat} {v : Int32} (hm : mC m = cc) (hd : decode cc pc = .ok (.putfield cp, 3)) (hf : fR m cp = some (ci, k) ∧ fK ci k = 2 ∧ finOk m ci k = true) : X m pc L (.int v :: .ref a :: st) h Q ↔ (hS h a = (1, ci) ∧ (v = 0 ∨ v = 1)) ∧ X m (pc + 3) L st (sI h a k v) Q := by
  rw [X_gd (L := L) (st := .int v :: .ref a :: st) (h := h) (L' := L) (st' := st) (h' := sI h a k v) (pc' := pc + 3) (q := finOk m ci k = true ∧ hS h a = (1, ci) ∧ (fK ci k = 0 ∨ fK ci k = 2 ∧ (v = 0 ∨ v = 1))) hm hd (show actU m pc cp L (.int v :: .ref a :: st) h = _ by unfold actU; rw [hf.1])]
  simp [hf.2.1, hf.2.2]
theorem X_putR {a v : Nat} (hm : mC m = cc) (hd : decode cc pc = .ok (.putfield cp, 3)) (hf : fR m cp = some (ci, k) ∧ fK ci k = 1 ∧ finOk m ci k = true) : X m pc L (.ref v :: .ref a :: st) h Q ↔ (hS h a = (1, ci) ∧ v ≠ 0) ∧ X m (pc + 3) L st (sR h a k v) Q := by
  rw [X_gd (L := L) (st := .ref v :: .ref a :: st) (h := h) (L' := L) (st' := st) (h' := sR h a k v) (pc' := pc + 3) (q := finOk m ci k = true ∧ hS h a = (1, ci) ∧ fK ci k = 1 ∧ v ≠ 0) hm hd (show actU m pc cp L (.ref v :: .ref a :: st) h = _ by unfold actU; rw [hf.1])]
  simp [hf.2.1, hf.2.2]
/-- an index in a row of ints (or of the script) -/
def ib (j : Int32) (s : Nat × Nat) : Prop := (s.1 = 2 ∨ s.1 = 4) ∧ ¬ (j < 0 ∨ s.2 ≤ j.toNatClampNeg)
theorem X_iald {j : Int32} {a : Nat} (hm : mC m = cc) (hd : decode cc pc = .ok (.iaload, 1)) : X m pc L (.int j :: .ref a :: st) h Q ↔ ib j (hS h a) ∧ X m (pc + 1) L (.int (hI h a j.toNatClampNeg) :: st) h Q := by
  show _ ↔ (((hS h a).1 = 2 ∨ (hS h a).1 = 4) ∧ ¬ (j < 0 ∨ (hS h a).2 ≤ j.toNatClampNeg)) ∧ _
  exact X_gd hm hd rfl
def ibw (j : Int32) (s : Nat × Nat) : Prop := s.1 = 2 ∧ ¬ (j < 0 ∨ s.2 ≤ j.toNatClampNeg)
theorem X_iast {j x : Int32} {a : Nat} (hm : mC m = cc) (hd : decode cc pc = .ok (.iastore, 1)) : X m pc L (.int x :: .int j :: .ref a :: st) h Q ↔ ibw j (hS h a) ∧ X m (pc + 1) L st (sI h a j.toNatClampNeg x) Q := by
  show _ ↔ ((hS h a).1 = 2 ∧ ¬ (j < 0 ∨ (hS h a).2 ≤ j.toNatClampNeg)) ∧ _
  exact X_gd hm hd rfl
def ibz (j : Int32) (s : Nat × Nat) : Prop := s.1 = 3 ∧ ¬ (j < 0 ∨ s.2 ≤ j.toNatClampNeg)
theorem X_bald {j : Int32} {a : Nat} (hm : mC m = cc) (hd : decode cc pc = .ok (.baload, 1)) : X m pc L (.int j :: .ref a :: st) h Q ↔ ibz j (hS h a) ∧ X m (pc + 1) L (.int (hI h a j.toNatClampNeg) :: st) h Q := by
  show _ ↔ ((hS h a).1 = 3 ∧ ¬ (j < 0 ∨ (hS h a).2 ≤ j.toNatClampNeg)) ∧ _
  exact X_gd hm hd rfl
theorem X_bast {j x : Int32} {a : Nat} (hm : mC m = cc) (hd : decode cc pc = .ok (.bastore, 1)) : X m pc L (.int x :: .int j :: .ref a :: st) h Q ↔ (ibz j (hS h a) ∧ (x = 0 ∨ x = 1)) ∧ X m (pc + 1) L st (sI h a j.toNatClampNeg x) Q := by
  rw [X_gd (q := (hS h a).1 = 3 ∧ (x = 0 ∨ x = 1) ∧ ¬ (j < 0 ∨ (hS h a).2 ≤ j.toNatClampNeg)) hm hd rfl]
  unfold ibz
  constructor
  · rintro ⟨⟨h1, h2, h3⟩, h4⟩; exact ⟨⟨⟨h1, h3⟩, h2⟩, h4⟩
  · rintro ⟨⟨⟨h1, h3⟩, h2⟩, h4⟩; exact ⟨⟨h1, h2, h3⟩, h4⟩
theorem X_alen {a : Nat} (hm : mC m = cc) (hd : decode cc pc = .ok (.arraylength, 1)) : X m pc L (.ref a :: st) h Q ↔ ((hS h a).1 = 2 ∨ (hS h a).1 = 3 ∨ (hS h a).1 = 4) ∧ X m (pc + 1) L (.int (Int32.ofNat (hS h a).2) :: st) h Q := X_gd hm hd rfl
theorem X_new (hm : mC m = cc) (hd : decode cc pc = .ok (.new cp, 3)) (hf : nR m cp = some ci ∧ (clT ci).2.2 = n) : X m pc L st h Q ↔ X m (pc + 3) L (.ref (hN h) :: st) (nw h n (1, ci)) Q := by
  refine X_n hm hd ?_
  show (match nR m cp with | some ci => aN m (pc + 3) L (.ref (hN h) :: st) (nw h (clT ci).2.2 (1, ci)) | none => none) = _
  rw [hf.1]
  dsimp only
  rw [hf.2]
theorem X_newI {x : Int32} (hm : mC m = cc) (hd : decode cc pc = .ok (.newarray .int, 2)) : X m pc L (.int x :: st) h Q ↔ (¬ x < 0 ∧ x < 100000) ∧ X m (pc + 2) L (.ref (hN h) :: st) (nw h x.toNatClampNeg (2, x.toNatClampNeg)) Q := X_gd hm hd rfl
theorem X_newZ {x : Int32} (hm : mC m = cc) (hd : decode cc pc = .ok (.newarray .boolean, 2)) : X m pc L (.int x :: st) h Q ↔ (¬ x < 0 ∧ x < 100000) ∧ X m (pc + 2) L (.ref (hN h) :: st) (nw h x.toNatClampNeg (3, x.toNatClampNeg)) Q := X_gd hm hd rfl
theorem X_ret {v : Int32} (hm : mC m = cc) (hd : decode cc pc = .ok (.ireturn, 1)) (hr : mRt m = some .int) : X m pc L [.int v] h Q ↔ Q (some (.int v)) h := by
  refine Xq_t (r := (some (.int v), h)) ((act_of hm hd).trans ?_)
  show gd _ _ = _
  exact if_pos (Or.inl hr)
theorem X_retZ {v : Int32} (hm : mC m = cc) (hd : decode cc pc = .ok (.ireturn, 1)) (hr : mRt m = some .boolean) : X m pc L [.int v] h Q ↔ (v = 0 ∨ v = 1) ∧ Q (some (.int v)) h := by
  by_cases hq : v = 0 ∨ v = 1
  · have e : Xq (m, pc, L, [.int v], h) Q ↔ Q (some (.int v)) h := by
      refine Xq_t (r := (some (.int v), h)) ((act_of hm hd).trans ?_)
      show gd _ _ = _
      exact if_pos (Or.inr ⟨hr, hq⟩)
    exact ⟨fun z => ⟨hq, e.mp z⟩, fun z => e.mpr z.2⟩
  · have e2 : act (m, pc, L, [.int v], h) = none := by
      refine (act_of hm hd).trans ?_
      show gd _ _ = _
      refine if_neg (fun z => ?_)
      rcases z with z | z
      · rw [hr] at z; cases z
      · exact hq z.2
    exact ⟨fun z => ((Xq_o e2).mp z).elim, fun z => absurd z.1 hq⟩
theorem X_retV (hm : mC m = cc) (hd : decode cc pc = .ok (.return_, 1)) (hr : mRt m = none) : X m pc L [] h Q ↔ Q none h := by
  refine Xq_t (r := (none, h)) ((act_of hm hd).trans ?_)
  show gd _ _ = _
  exact if_pos hr
theorem gd_gd {q1 q2 : Prop} [Decidable q1] [Decidable q2] {a : aA} (h : q2) : gd q1 (gd q2 a) = gd q1 a := by
  unfold gd
  rw [if_pos h]
theorem X_cgd {i : Instr} {len : Nat} {q' : aQ} {f : aR → aQ} {q : Prop} [Decidable q] (hm : mC m = cc) (hd : decode cc pc = .ok (i, len)) (e : actI i len m pc L st h = gd q (aC q' f)) : X m pc L st h Q ↔ q ∧ Xq q' (fun r h' => Xq (f (r, h')) Q) := by
  by_cases hq : q
  · have := Xq_c (Q := Q) ((act_of hm hd).trans (e.trans (if_pos hq)))
    exact ⟨fun z => ⟨hq, this.mp z⟩, fun z => this.mpr z.2⟩
  · have e2 : act (m, pc, L, st, h) = none := (act_of hm hd).trans (e.trans (if_neg hq))
    exact ⟨fun z => ((Xq_o e2).mp z).elim, fun z => absurd z.1 hq⟩
/-- what is told of a callee ahead: its kind, locals, class, that it may be called from here -/
def cOk (m cp k n kd ml ck : Nat) : Prop := cR m cp = some (k, n) ∧ k < nMt ∧ mKd k = kd ∧ mL k = ml ∧ mK k = ck ∧ mFr k + 1 ≤ mFr m ∧ 8 + (mL k + 11) + mLo k ≤ mLo m
theorem X_virt {b : Nat} {as : List Value} (hm : mC m = cc) (hd : decode cc pc = .ok (.invokevirtual cp, 3)) (hc : cOk m cp k n 0 ml ck) (ha : as.all arg1 = true ∧ as.length = n ∧ n + 1 ≤ ml ∧ rest.length ≤ 4) : X m pc L (as.reverse ++ .ref b :: rest) h Q ↔ hS h b = (1, ck) ∧ X k 0 (.ref b :: as ++ List.replicate (ml - (n + 1)) .null) [] h (fun r h' => X m (pc + 3) L (pv r rest) h' Q) := by
  obtain ⟨h1, h2, h3, h4, h5, h6, h7⟩ := hc
  obtain ⟨a1, a2, a3, a4⟩ := ha
  have hdr : (as.reverse ++ .ref b :: rest).drop n = .ref b :: rest := by rw [List.drop_append_of_le_length (by simp; omega), List.drop_eq_nil_of_le (by simp; omega)]; rfl
  have htk : (as.reverse ++ .ref b :: rest).take n = as.reverse := by rw [List.take_append_of_le_length (by simp; omega), List.take_of_length_le (by simp; omega)]
  have e : actI (.invokevirtual cp) 3 m pc L (as.reverse ++ .ref b :: rest) h = gd (hS h b = (1, ck)) (aC (k, 0, eL k (.ref b :: as), [], h) (fun r => (m, pc + 3, L, pv r.1 rest, r.2))) := by
    show actV m pc cp L (as.reverse ++ .ref b :: rest) h = _
    unfold actV
    rw [h1]
    have : k ≠ 1001 ∧ k ≠ 1002 := by have : nMt < 1000 := by decide
                                     omega
    split
    · rename_i hh; cases hh; omega
    · rename_i hh; cases hh; omega
    · rename_i k' n' _ _ hh
      cases hh
      rw [hdr, htk, List.reverse_reverse]
      show gd _ (cl1 m pc L rest h k (.ref b :: as)) = _
      unfold cl1
      rw [gd_gd ⟨h2, by simp [arg1, a1], a4, by simp; omega, h6, h7⟩]
      unfold gd
      by_cases hs : hS h b = (1, ck)
      · rw [if_pos hs, if_pos ⟨by simp; omega, h3, by rw [h5]; exact hs⟩]
      · rw [if_neg hs, if_neg (fun z => hs (by rw [← h5]; exact z.2.2))]
    · rename_i hh; cases hh
  rw [X_cgd hm hd e, show eL k (.ref b :: as) = .ref b :: as ++ List.replicate (ml - (n + 1)) .null by unfold eL; rw [h4, List.length_cons, a2]]
  rfl
theorem X_stat {as : List Value} (hm : mC m = cc) (hd : decode cc pc = .ok (.invokestatic cp, 3)) (hc : cOk m cp k n 1 ml ck) (ha : as.all arg1 = true ∧ as.length = n ∧ n ≤ ml ∧ rest.length ≤ 4) : X m pc L (as.reverse ++ rest) h Q ↔ X k 0 (as ++ List.replicate (ml - n) .null) [] h (fun r h' => X m (pc + 3) L (pv r rest) h' Q) := by
  obtain ⟨h1, h2, h3, h4, h5, h6, h7⟩ := hc
  obtain ⟨a1, a2, a3, a4⟩ := ha
  have hdr : (as.reverse ++ rest).drop n = rest := by rw [List.drop_append_of_le_length (by simp; omega), List.drop_eq_nil_of_le (by simp; omega)]; rfl
  have htk : (as.reverse ++ rest).take n = as.reverse := by rw [List.take_append_of_le_length (by simp; omega), List.take_of_length_le (by simp; omega)]
  have e : actI (.invokestatic cp) 3 m pc L (as.reverse ++ rest) h = gd True (aC (k, 0, eL k as, [], h) (fun r => (m, pc + 3, L, pv r.1 rest, r.2))) := by
    show actS m pc cp L (as.reverse ++ rest) h = _
    unfold actS
    rw [h1]
    have : k ≠ 1000 ∧ k ≠ 1004 ∧ k ≠ 1005 ∧ k ≠ 1006 := by have : nMt < 1000 := by decide
                                                           omega
    split
    · rename_i hh; cases hh; omega
    · rename_i hh; cases hh; omega
    · rename_i hh; cases hh; omega
    · rename_i hh; cases hh; omega
    · rename_i hh
      cases hh
      rw [hdr, htk, List.reverse_reverse]
      unfold cl1
      rw [gd_gd ⟨h2, a1, a4, by omega, h6, h7⟩]
      unfold gd
      rw [if_pos trivial, if_pos ⟨by simp; omega, h3⟩]
    · rename_i hh; cases hh
  rw [X_cgd hm hd e, show eL k as = as ++ List.replicate (ml - n) .null by unfold eL; rw [h4, a2]]
  exact ⟨fun z => z.2, fun z => ⟨trivial, z⟩⟩
theorem X_spec {b : Nat} {as : List Value} (hm : mC m = cc) (hd : decode cc pc = .ok (.invokespecial cp, 3)) (hc : cOk m cp k n 2 ml ck) (ha : as.all arg1 = true ∧ as.length = n ∧ n + 1 ≤ ml ∧ rest.length ≤ 4) : X m pc L (as.reverse ++ .ref b :: rest) h Q ↔ X k 0 (.ref b :: as ++ List.replicate (ml - (n + 1)) .null) [] h (fun r h' => X m (pc + 3) L (pv r rest) h' Q) := by
  obtain ⟨h1, h2, h3, h4, h5, h6, h7⟩ := hc
  obtain ⟨a1, a2, a3, a4⟩ := ha
  have hdr : (as.reverse ++ .ref b :: rest).drop n = .ref b :: rest := by rw [List.drop_append_of_le_length (by simp; omega), List.drop_eq_nil_of_le (by simp; omega)]; rfl
  have htk : (as.reverse ++ .ref b :: rest).take n = as.reverse := by rw [List.take_append_of_le_length (by simp; omega), List.take_of_length_le (by simp; omega)]
  have e : actI (.invokespecial cp) 3 m pc L (as.reverse ++ .ref b :: rest) h = gd True (aC (k, 0, eL k (.ref b :: as), [], h) (fun r => (m, pc + 3, L, pv r.1 rest, r.2))) := by
    show actP m pc cp L (as.reverse ++ .ref b :: rest) h = _
    unfold actP
    rw [h1]
    have : k ≠ 1003 := by have : nMt < 1000 := by decide
                          omega
    split
    · rename_i hh; cases hh; omega
    · rename_i hh
      cases hh
      rw [hdr, htk, List.reverse_reverse]
      show gd _ (cl1 m pc L rest h k (.ref b :: as)) = _
      unfold cl1
      rw [gd_gd ⟨h2, by simp [arg1, a1], a4, by simp; omega, h6, h7⟩]
      unfold gd
      rw [if_pos trivial, if_pos ⟨by simp; omega, h3⟩]
    · rename_i hh; cases hh
  rw [X_cgd hm hd e, show eL k (.ref b :: as) = .ref b :: as ++ List.replicate (ml - (n + 1)) .null by unfold eL; rw [h4, List.length_cons, a2]]
  exact ⟨fun z => z.2, fun z => ⟨trivial, z⟩⟩
/-- the room of a frame, told ahead -/
def rOm (m cp k a b : Nat) : Prop := (∃ n, cR m cp = some (k, n)) ∧ a ≤ mFr m ∧ b ≤ mLo m
theorem X_obj {a : Nat} (hm : mC m = cc) (hd : decode cc pc = .ok (.invokespecial cp, 3)) (hc : cR m cp = some (1003, n) ∧ 1 ≤ mFr m ∧ 20 ≤ mLo m) (hr : st.length ≤ 4) : X m pc L (.ref a :: st) h Q ↔ X m (pc + 3) L st h Q := by
  refine X_n hm hd ?_
  show actP m pc cp L (.ref a :: st) h = _
  unfold actP
  rw [hc.1]
  exact if_pos ⟨hr, hc.2⟩
theorem X_max {x y : Int32} (hm : mC m = cc) (hd : decode cc pc = .ok (.invokestatic cp, 3)) (hc : cR m cp = some (1004, n) ∧ 1 ≤ mFr m ∧ 21 ≤ mLo m) (hr : st.length ≤ 4) : X m pc L (.int y :: .int x :: st) h Q ↔ X m (pc + 3) L (.int (if x < y then y else x) :: st) h Q := by
  refine X_n hm hd ?_
  show actS m pc cp L (.int y :: .int x :: st) h = _
  unfold actS
  rw [hc.1]
  exact if_pos ⟨hr, hc.2⟩
theorem X_min {x y : Int32} (hm : mC m = cc) (hd : decode cc pc = .ok (.invokestatic cp, 3)) (hc : cR m cp = some (1005, n) ∧ 1 ≤ mFr m ∧ 21 ≤ mLo m) (hr : st.length ≤ 4) : X m pc L (.int y :: .int x :: st) h Q ↔ X m (pc + 3) L (.int (if y < x then y else x) :: st) h Q := by
  refine X_n hm hd ?_
  show actS m pc cp L (.int y :: .int x :: st) h = _
  unfold actS
  rw [hc.1]
  exact if_pos ⟨hr, hc.2⟩
theorem X_abs {x : Int32} (hm : mC m = cc) (hd : decode cc pc = .ok (.invokestatic cp, 3)) (hc : cR m cp = some (1006, n) ∧ 1 ≤ mFr m ∧ 21 ≤ mLo m) (hr : st.length ≤ 4) : X m pc L (.int x :: st) h Q ↔ X m (pc + 3) L (.int (if 0 ≤ x then x else 0 - x) :: st) h Q := by
  refine X_n hm hd ?_
  show actS m pc cp L (.int x :: st) h = _
  unfold actS
  rw [hc.1]
  exact if_pos ⟨hr, hc.2⟩
/-- a copy from row to row -/
def cpOk (sa sb : Nat × Nat) (sp dp x : Int32) : Prop := sa.1 = 2 ∧ sb.1 = 2 ∧ 0 ≤ sp ∧ 0 ≤ dp ∧ 0 ≤ x ∧ sp.toNatClampNeg + x.toNatClampNeg ≤ sa.2 ∧ dp.toNatClampNeg + x.toNatClampNeg ≤ sb.2
theorem X_cpy {x sp dp : Int32} {a b : Nat} (hm : mC m = cc) (hd : decode cc pc = .ok (.invokestatic cp, 3)) (hc : cR m cp = some (1000, n) ∧ 1 ≤ mFr m ∧ 40 ≤ mLo m) (hr : st.length ≤ 4) : X m pc L (.int x :: .int dp :: .ref b :: .int sp :: .ref a :: st) h Q ↔ cpOk (hS h a) (hS h b) sp dp x ∧ X m (pc + 3) L st (cpI h a sp.toNatClampNeg b dp.toNatClampNeg x.toNatClampNeg) Q := by
  rw [X_gd (L := L) (st := .int x :: .int dp :: .ref b :: .int sp :: .ref a :: st) (h := h) (L' := L) (st' := st) (h' := cpI h a sp.toNatClampNeg b dp.toNatClampNeg x.toNatClampNeg) (pc' := pc + 3) (q := (hS h a).1 = 2 ∧ (hS h b).1 = 2 ∧ 0 ≤ sp ∧ 0 ≤ dp ∧ 0 ≤ x ∧ sp.toNatClampNeg + x.toNatClampNeg ≤ (hS h a).2 ∧ dp.toNatClampNeg + x.toNatClampNeg ≤ (hS h b).2 ∧ st.length ≤ 4 ∧ 1 ≤ mFr m ∧ 40 ≤ mLo m) hm hd (show actS m pc cp L (.int x :: .int dp :: .ref b :: .int sp :: .ref a :: st) h = _ by unfold actS; rw [hc.1]; rfl)]
  unfold cpOk
  simp only [hr, hc.2.1, hc.2.2, and_true]
theorem X_slen {a : Nat} (hm : mC m = cc) (hd : decode cc pc = .ok (.invokevirtual cp, 3)) (hc : cR m cp = some (1001, n) ∧ 2 ≤ mFr m ∧ 60 ≤ mLo m) (hr : st.length ≤ 4) : X m pc L (.ref a :: st) h Q ↔ a = 2 ∧ X m (pc + 3) L (.int 60 :: st) h Q := by
  rw [X_gd (L := L) (st := .ref a :: st) (h := h) (L' := L) (st' := .int 60 :: st) (h' := h) (pc' := pc + 3) (q := a = 2 ∧ st.length ≤ 4 ∧ 2 ≤ mFr m ∧ 60 ≤ mLo m) hm hd (show actV m pc cp L (.ref a :: st) h = _ by unfold actV; rw [hc.1]; rfl)]
  simp only [hr, hc.2.1, hc.2.2, and_true]
theorem X_schr {a : Nat} {i : Int32} (hm : mC m = cc) (hd : decode cc pc = .ok (.invokevirtual cp, 3)) (hc : cR m cp = some (1002, n) ∧ 4 ≤ mFr m ∧ 90 ≤ mLo m) (hr : st.length ≤ 4) : X m pc L (.int i :: .ref a :: st) h Q ↔ (a = 2 ∧ 0 ≤ i ∧ i < 60) ∧ X m (pc + 3) L (.int (txtB.getD i.toNatClampNeg 0) :: st) h Q := by
  rw [X_gd (L := L) (st := .int i :: .ref a :: st) (h := h) (L' := L) (st' := .int (txtB.getD i.toNatClampNeg 0) :: st) (h' := h) (pc' := pc + 3) (q := a = 2 ∧ 0 ≤ i ∧ i < 60 ∧ st.length ≤ 4 ∧ 4 ≤ mFr m ∧ 90 ≤ mLo m) hm hd (show actV m pc cp L (.int i :: .ref a :: st) h = _ by unfold actV; rw [hc.1]; rfl)]
  simp only [hr, hc.2.1, hc.2.2, and_true]
theorem X_ldcw {v : Int32} (hm : mC m = cc) (hd : decode cc pc = .ok (.ldc_w cp, 3)) (hc : kR m cp = some v) : X m pc L st h Q ↔ X m (pc + 3) L (.int v :: st) h Q := by
  refine X_n hm hd ?_
  show (match kR m cp with | some v => aN m (pc + 3) L (.int v :: st) h | none => none) = _
  rw [hc]
theorem X_ldc2 {v : Int64} (hm : mC m = cc) (hd : decode cc pc = .ok (.ldc2_w cp, 3)) (hc : lR m cp = some v) : X m pc L st h Q ↔ X m (pc + 3) L (.long v :: st) h Q := by
  refine X_n hm hd ?_
  show (match lR m cp with | some v => aN m (pc + 3) L (.long v :: st) h | none => none) = _
  rw [hc]
theorem X_ldcS (hm : mC m = cc) (hd : decode cc pc = .ok (.ldc 72, 2)) (hc : mK m = 7) : X m pc L st h Q ↔ X m (pc + 2) L (.ref 2 :: st) h Q := by
  refine X_n hm hd ?_
  exact if_pos ⟨hc, rfl⟩
/-- conditions that end a switch -/
theorem X_tabIn {d lo hi off : Int} {offs : Array Int} {len : Nat} {x : Int32} (hm : mC m = cc) (hd : decode cc pc = .ok (.tableswitch d lo hi offs, len)) (hx : ¬ (x.toInt < lo ∨ hi < x.toInt) ∧ offs[(x.toInt - lo).toNat]? = some off) (ht : (pc : Int) + off = (t : Int)) : X m pc L (.int x :: st) h Q ↔ X m t L st h Q := by
  refine X_n hm hd ?_
  show (if x.toInt < lo ∨ hi < x.toInt then jp pc d (fun t => aN m t L st h) else match offs[(x.toInt - lo).toNat]? with | some off => jp pc off (fun t => aN m t L st h) | none => none) = _
  rw [if_neg hx.1, hx.2]
  exact jp_eq ht
theorem X_tabOut {d lo hi : Int} {offs : Array Int} {len : Nat} {x : Int32} (hm : mC m = cc) (hd : decode cc pc = .ok (.tableswitch d lo hi offs, len)) (hx : x.toInt < lo ∨ hi < x.toInt) (ht : (pc : Int) + d = (t : Int)) : X m pc L (.int x :: st) h Q ↔ X m t L st h Q := by
  refine X_n hm hd ?_
  show (if x.toInt < lo ∨ hi < x.toInt then jp pc d (fun t => aN m t L st h) else match offs[(x.toInt - lo).toNat]? with | some off => jp pc off (fun t => aN m t L st h) | none => none) = _
  rw [if_pos hx]
  exact jp_eq ht
theorem X_look {d off : Int} {ps : Array (Int × Int)} {len : Nat} {x : Int32} (hm : mC m = cc) (hd : decode cc pc = .ok (.lookupswitch d ps, len)) (hp : (ps.toList.zip (ps.toList.drop 1)).all (fun (a, next) => a.1 < next.1) = true) (ho : Op.lookupswitch.offset ps.toList d x.toInt = off) (ht : (pc : Int) + off = (t : Int)) : X m pc L (.int x :: st) h Q ↔ X m t L st h Q := by
  refine X_n hm hd ?_
  show gd _ (jp pc (Op.lookupswitch.offset ps.toList d x.toInt) _) = _
  rw [ho]
  exact (if_pos hp).trans (jp_eq ht)
/-- a value of one slot -/
def c1 (v : Value) : Bool := v.category == 1
theorem c1_int (x : Int32) : c1 (.int x) = true := rfl
theorem c1_ref (x : Nat) : c1 (.ref x) = true := rfl
theorem c1_null : c1 .null = true := rfl
theorem X_sto {i : Instr} {len pc' kk : Nat} {v w : Value} (hm : mC m = cc) (hd : decode cc pc = .ok (i, len)) (e : actI i len m pc L (w :: st) h = gd (kk < L.length ∧ nl L kk = true) (aN m pc' (L.set kk w) st h)) (hL : kk < L.length) (hn : nl L kk = c1 v) : X m pc L (w :: st) h Q ↔ c1 v = true ∧ X m pc' (L.set kk w) st h Q := by
  rw [X_gd hm hd e, hn]
  simp only [hL, true_and]
theorem X_sto2 {i : Instr} {len pc' kk : Nat} {v : Value} {x : Int64} (hm : mC m = cc) (hd : decode cc pc = .ok (i, len)) (e : actI i len m pc L (.long x :: st) h = gd (kk + 1 < L.length ∧ nl L kk = true) (aN m pc' ((L.set kk (.long x)).set (kk + 1) .null) st h)) (hL : kk + 1 < L.length) (hn : nl L kk = c1 v) : X m pc L (.long x :: st) h Q ↔ c1 v = true ∧ X m pc' ((L.set kk (.long x)).set (kk + 1) .null) st h Q := by
  rw [X_gd hm hd e, hn]
  simp only [hL, true_and]
theorem X_inc {pc' kk : Nat} {v : Value} {x : Int32} {z : Int} (hm : mC m = cc) (hd : decode cc pc = .ok (.iinc kk z, 3)) (hx : L[kk]? = some (.int x)) (hn : nl L kk = c1 v) (hp : pc + 3 = pc') : X m pc L st h Q ↔ c1 v = true ∧ X m pc' (L.set kk (.int (x + Int32.ofInt z))) st h Q := by
  subst hp
  rw [← hn]
  refine X_gd hm hd ?_
  show ldI L kk _ = _
  unfold ldI
  rw [hx]
theorem X_inc0 {pc' : Nat} {x : Int32} {z : Int} (hm : mC m = cc) (hd : decode cc pc = .ok (.iinc 0 z, 3)) (hx : L[0]? = some (.int x)) (hp : pc + 3 = pc') : X m pc L st h Q ↔ X m pc' (L.set 0 (.int (x + Int32.ofInt z))) st h Q := by
  subst hp
  refine X_n hm hd ?_
  show ldI L 0 _ = _
  unfold ldI
  rw [hx]
  rfl
theorem toInt_ne {x v : Int32} (h : ¬ x = v) : x.toInt ≠ v.toInt := fun q => h (Int32.toInt_inj.mp q)
end RULES
