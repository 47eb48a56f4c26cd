/-! THE HEAPS: what a write, a new cell, a copy do to the relation -/
theorem HR.sh {g : aG} {h : aH} {H : Heap} (hr : HR g h H) {a : Nat} (hs : (hS h a).1 = 1 ∨ (hS h a).1 = 2 ∨ (hS h a).1 = 3) : 3 ≤ a ∧ a < hN h := by
  obtain ⟨-, h3, -, -, ⟨h0, h1, h2⟩, -, -, -, ho⟩ := hr
  refine ⟨?_, ?_⟩
  · rcases Nat.lt_or_ge a 3 with q | q
    · exfalso
      rcases (show a = 0 ∨ a = 1 ∨ a = 2 by omega) with rfl | rfl | rfl
      · rw [h0] at hs; simp at hs
      · rw [h1] at hs; simp at hs
      · rw [h2] at hs; simp at hs
    · exact q
  · rcases Nat.lt_or_ge a (hN h) with q | q
    · exact q
    · rw [ho a q] at hs; simp at hs
theorem cAt.kept {g : aG} {h h' : aH} {a : Nat} {H H1 : Heap} (hc : cAt g h a H) (hs : hS h' a = hS h a) (hi : ∀ j, hI h' a j = hI h a j) (hr : ∀ j, hR h' a j = hR h a j) (hq : H1[rho g a]? = H[rho g a]?) : cAt g h' a H1 := by
  unfold cAt at hc ⊢
  rw [hs]
  split at hc
  · refine ⟨hc.1, (hc.2.kept hq).to (fun k _ => ?_)⟩
    unfold fV
    rw [hi, hr]
  · rw [hq, hc]
    congr 2
    funext j
    rw [hi]
  · rw [hq, hc]
    congr 2
    funext j
    rw [hi]
  · exact hc
theorem rho_ne {g : aG} {a c : Nat} (ha : 3 ≤ a) (hc : 3 ≤ c) (hn : c ≠ a) : rho g c ≠ rho g a := by
  rw [rho_ge g ha, rho_ge g hc]
  omega
theorem HR.put {g : aG} {h h' : aH} {H H1 : Heap} {a : Nat} (hr : HR g h H) (ha : 3 ≤ a) (hz : H1.size = H.size) (ho : ∀ q : Nat, q ≠ rho g a → H1[q]? = H[q]?) (hn : hN h' = hN h) (hs : hS h' = hS h) (hi : ∀ c j, c ≠ a → hI h' c j = hI h c j) (hrr : ∀ c j, c ≠ a → hR h' c j = hR h c j) (hc : cAt g h' a H1) : HR g h' H1 := by
  obtain ⟨r1, r2, r3, r4, r5, r6, r7, r8, r9⟩ := hr
  refine ⟨by rw [hz, hn]; exact r1, by rw [hn]; exact r2, r3, fun q hq => ?_, by rw [hs]; exact r5, fun j hj => by rw [hi 1 j (by omega)]; exact r6 j hj, r7, fun c h3 hlt => ?_, fun c hc => by rw [hs]; exact r9 c (by rw [← hn]; exact hc)⟩
  · rw [ho q (by rw [rho_ge g ha]; omega)]
    exact r4 q hq
  · by_cases hca : c = a
    · subst hca; exact hc
    · exact (r8 c h3 (by rw [← hn]; exact hlt)).kept (by rw [hs]) (fun j => hi c j hca) (fun j => hrr c j hca) (ho _ (rho_ne ha h3 hca))
theorem HR.new {g : aG} {h : aH} {H H1 : Heap} {z : Nat} {sp : Nat × Nat} (hr : HR g h H) (hz : H1.size = H.size + 1) (ho : ∀ q : Nat, q < H.size → H1[q]? = H[q]?) (hc : cAt g (nw h z sp) (hN h) H1) : HR g (nw h z sp) H1 := by
  obtain ⟨r1, r2, r3, r4, ⟨r50, r51, r52⟩, r6, r7, r8, r9⟩ := hr
  have hsn : ∀ a, a ≠ hN h → hS (nw h z sp) a = hS h a := fun a ha => if_neg ha
  have hin : ∀ a j, a ≠ hN h → hI (nw h z sp) a j = hI h a j := fun a j ha => if_neg ha
  have hrn : ∀ a j, a ≠ hN h → hR (nw h z sp) a j = hR h a j := fun a j ha => if_neg ha
  have hnn : hN (nw h z sp) = hN h + 1 := rfl
  refine ⟨by rw [hz, hnn]; omega, by rw [hnn]; omega, r3, fun q hq => ?_, ⟨by rw [hsn 0 (by omega)]; exact r50, by rw [hsn 1 (by omega)]; exact r51, by rw [hsn 2 (by omega)]; exact r52⟩, fun j hj => by rw [hin 1 j (by omega)]; exact r6 j hj, r7, fun c h3 hlt => ?_, fun c hc => ?_⟩
  · rw [ho q (by omega)]
    exact r4 q hq
  · by_cases hcn : c = hN h
    · rw [hcn]; exact hc
    · have hlt' : c < hN h := by rw [hnn] at hlt; omega
      exact (r8 c h3 hlt').kept (hsn c hcn) (fun j => hin c j hcn) (fun j => hrn c j hcn) (ho _ (by rw [rho_ge g h3]; omega))
  · rw [hnn] at hc
    rw [hsn c (by omega)]
    exact r9 c (by omega)
theorem HR.top {g : aG} {h : aH} {H : Heap} (hr : HR g h H) : rho g (hN h) = H.size := by
  rw [rho_ge g hr.2.1]
  have := hr.1
  have := hr.2.1
  omega
theorem HR.obj {g : aG} {h : aH} {H : Heap} (hr : HR g h H) {a ci : Nat} (hs : hS h a = (1, ci)) : ci < 9 ∧ t_OB (rho g a) ((gD g).1 ci) (clT ci).2.2 ((gD g).2 ci) H (fV g h ci a) := by
  obtain ⟨h1, h2⟩ := hr.sh (a := a) (by rw [hs]; exact Or.inl rfl)
  have hc := hr.2.2.2.2.2.2.2.1 a h1 h2
  unfold cAt at hc
  rw [hs] at hc
  exact hc
theorem HR.arr {g : aG} {h : aH} {H : Heap} (hr : HR g h H) {a : Nat} (hs : (hS h a).1 = 2) : H[rho g a]? = some (arrV (gI g) (hS h a).2 (fun j => .int (hI h a j))) := by
  obtain ⟨h1, h2⟩ := hr.sh (a := a) (Or.inr (Or.inl hs))
  have hc := hr.2.2.2.2.2.2.2.1 a h1 h2
  unfold cAt at hc
  rw [hs] at hc
  exact hc
theorem HR.boo {g : aG} {h : aH} {H : Heap} (hr : HR g h H) {a : Nat} (hs : (hS h a).1 = 3) : H[rho g a]? = some (arrV (gZ g) (hS h a).2 (fun j => .int (hI h a j))) := by
  obtain ⟨h1, h2⟩ := hr.sh (a := a) (Or.inr (Or.inr hs))
  have hc := hr.2.2.2.2.2.2.2.1 a h1 h2
  unfold cAt at hc
  rw [hs] at hc
  exact hc
theorem HR.scr {g : aG} {h : aH} {H : Heap} (hr : HR g h H) {a : Nat} (hs : (hS h a).1 = 4) : a = 1 ∧ (hS h a).2 = gL g := by
  obtain ⟨-, h3, -, -, ⟨h0, h1, h2⟩, -, -, h8, ho⟩ := hr
  have ha : a = 1 := by
    rcases Nat.lt_or_ge a 3 with q | q
    · rcases (show a = 0 ∨ a = 1 ∨ a = 2 by omega) with rfl | rfl | rfl
      · rw [h0] at hs; simp at hs
      · rfl
      · rw [h2] at hs; simp at hs
    · exfalso
      rcases Nat.lt_or_ge a (hN h) with q2 | q2
      · have hc := h8 a q q2
        unfold cAt at hc
        rw [hs] at hc
        exact hc
      · rw [ho a q2] at hs; simp at hs
  subst ha
  exact ⟨rfl, by rw [h1]⟩
/-- a field written -/
theorem HR.setI {g : aG} {h : aH} {H H1 : Heap} {a ci k : Nat} {v : Int32} (hr : HR g h H) (hs : hS h a = (1, ci)) (hf : fK ci k ≠ 1) (hz : H1.size = H.size) (ho : ∀ q : Nat, q ≠ rho g a → H1[q]? = H[q]?) (hc : t_OB (rho g a) ((gD g).1 ci) (clT ci).2.2 ((gD g).2 ci) H1 (updV (fV g h ci a) k (.int v))) : HR g (sI h a k v) H1 := by
  have h1 := hr.sh (a := a) (by rw [hs]; exact Or.inl rfl)
  refine hr.put h1.1 hz ho rfl rfl (fun c j hca => if_neg (fun q => hca q.1)) (fun c j _ => rfl) ?_
  unfold cAt
  rw [hS_sI, hs]
  refine ⟨(hr.obj hs).1, hc.to (fun j _ => ?_)⟩
  unfold updV fV
  rw [hI_sI, hR_sI]
  by_cases hjk : j = k
  · subst hjk
    rw [if_pos rfl, if_neg hf, if_pos ⟨rfl, rfl⟩]
  · have hn : ¬ (a = a ∧ j = k) := fun q => hjk q.2
    rw [if_neg hjk, if_neg hn]
theorem HR.setR {g : aG} {h : aH} {H H1 : Heap} {a ci k v : Nat} (hr : HR g h H) (hs : hS h a = (1, ci)) (hf : fK ci k = 1) (hv : v ≠ 0) (hz : H1.size = H.size) (ho : ∀ q : Nat, q ≠ rho g a → H1[q]? = H[q]?) (hc : t_OB (rho g a) ((gD g).1 ci) (clT ci).2.2 ((gD g).2 ci) H1 (updV (fV g h ci a) k (.ref (rho g v)))) : HR g (sR h a k v) H1 := by
  have h1 := hr.sh (a := a) (by rw [hs]; exact Or.inl rfl)
  refine hr.put h1.1 hz ho rfl rfl (fun c j _ => rfl) (fun c j hca => if_neg (fun q => hca q.1)) ?_
  unfold cAt
  rw [hS_sR, hs]
  refine ⟨(hr.obj hs).1, hc.to (fun j _ => ?_)⟩
  unfold updV fV
  rw [hI_sR, hR_sR]
  by_cases hjk : j = k
  · subst hjk
    rw [if_pos rfl, if_pos hf, if_pos ⟨rfl, rfl⟩, rv, if_neg hv]
  · have hn : ¬ (a = a ∧ j = k) := fun q => hjk q.2
    rw [if_neg hjk, if_neg hn]
theorem HR.setA {g : aG} {h : aH} {H H1 : Heap} {a k : Nat} {v : Int32} (hr : HR g h H) (hs : (hS h a).1 = 2) (hz : H1.size = H.size) (ho : ∀ q : Nat, q ≠ rho g a → H1[q]? = H[q]?) (hc : H1[rho g a]? = some ((arrV (gI g) (hS h a).2 (fun j => .int (hI h a j))).setSlot k (.int v))) : HR g (sI h a k v) H1 := by
  have h1 := hr.sh (a := a) (Or.inr (Or.inl hs))
  refine hr.put h1.1 hz ho rfl rfl (fun c j hca => if_neg (fun q => hca q.1)) (fun c j _ => rfl) ?_
  unfold cAt
  rw [hS_sI, hs]
  show H1[rho g a]? = _
  rw [hc, arrV_store]
  congr 2
  funext j
  unfold updV
  rw [hI_sI]
  by_cases hjk : j = k
  · rw [if_pos hjk, if_pos ⟨rfl, hjk⟩]
  · rw [if_neg hjk, if_neg (fun q => hjk q.2)]
theorem HR.setB {g : aG} {h : aH} {H H1 : Heap} {a k : Nat} {v : Int32} (hr : HR g h H) (hs : (hS h a).1 = 3) (hz : H1.size = H.size) (ho : ∀ q : Nat, q ≠ rho g a → H1[q]? = H[q]?) (hc : H1[rho g a]? = some ((arrV (gZ g) (hS h a).2 (fun j => .int (hI h a j))).setSlot k (.int v))) : HR g (sI h a k v) H1 := by
  have h1 := hr.sh (a := a) (Or.inr (Or.inr hs))
  refine hr.put h1.1 hz ho rfl rfl (fun c j hca => if_neg (fun q => hca q.1)) (fun c j _ => rfl) ?_
  unfold cAt
  rw [hS_sI, hs]
  show H1[rho g a]? = _
  rw [hc, arrV_store]
  congr 2
  funext j
  unfold updV
  rw [hI_sI]
  by_cases hjk : j = k
  · rw [if_pos hjk, if_pos ⟨rfl, hjk⟩]
  · rw [if_neg hjk, if_neg (fun q => hjk q.2)]
theorem HR.cpy {g : aG} {h : aH} {H H1 : Heap} {a b sp dp n : Nat} (hr : HR g h H) (hs : (hS h b).1 = 2) (hz : H1.size = H.size) (ho : ∀ q : Nat, q ≠ rho g b → H1[q]? = H[q]?) (hc : H1[rho g b]? = some (arrV (gI g) (hS h b).2 (fun j => .int (va_cpy (hI h a) (hI h b) sp dp n j)))) : HR g (cpI h a sp b dp n) H1 := by
  have h1 := hr.sh (a := b) (Or.inr (Or.inl hs))
  refine hr.put h1.1 hz ho rfl rfl (fun c j hca => if_neg (fun q => hca q.1)) (fun c j _ => rfl) ?_
  unfold cAt
  rw [hS_cpI, hs]
  show H1[rho g b]? = _
  rw [hc]
  congr 2
  funext j
  rw [hI_cpI]
  unfold va_cpy
  by_cases hj : dp ≤ j ∧ j < dp + n
  · rw [if_pos hj, if_pos ⟨rfl, hj⟩]
  · rw [if_neg hj, if_neg (fun q => hj q.2)]
theorem lk_at {α β : Type} [BEq α] [LawfulBEq α] : ∀ (l : List (α × β)) (a : α) (b : β), l.lookup a = some b → ∃ i : Nat, l[i]? = some (a, b) := by
  intro l
  induction l with
  | nil => intro a b h; simp at h
  | cons q l ih =>
    intro a b h
    obtain ⟨x, y⟩ := q
    rw [List.lookup_cons] at h
    by_cases hx : a == x
    · rw [hx] at h
      simp only [Option.some.injEq] at h
      have := eq_of_beq hx
      subst this
      subst h
      exact ⟨0, rfl⟩
    · rw [Bool.not_eq_true] at hx
      rw [hx] at h
      obtain ⟨i, hi⟩ := ih a b h
      exact ⟨i + 1, hi⟩
