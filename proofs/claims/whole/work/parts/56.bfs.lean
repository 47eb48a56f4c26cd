/-! HOW FAR EVERYTHING IS FROM ONE NODE: by balls, by a queue, by rounds -/
section BFS
variable {E : Nat → Nat → Prop} {s0 k m r d d' v u w T a b : Nat}
def Bl (E : Nat → Nat → Prop) (s0 : Nat) : Nat → Nat → Prop
  | 0, v => v = s0
  | k + 1, v => Bl E s0 k v ∨ ∃ u, Bl E s0 k u ∧ E u v
def Ly (E : Nat → Nat → Prop) (s0 : Nat) : Nat → Nat → Prop
  | 0, v => v = s0
  | k + 1, v => Bl E s0 (k + 1) v ∧ ¬ Bl E s0 k v
theorem Bl_mono (h : k ≤ m) (b : Bl E s0 k v) : Bl E s0 m v := by
  induction m with
  | zero =>
    have : k = 0 := by omega
    subst this
    exact b
  | succ m ih =>
    by_cases c : k = m + 1
    · subst c; exact b
    · exact Or.inl (ih (by omega))
theorem Ly_Bl (h : Ly E s0 k v) : Bl E s0 k v := by
  cases k with
  | zero => exact h
  | succ k => exact h.1
theorem Bl_Ly : ∀ {k v}, Bl E s0 k v → ∃ d, d ≤ k ∧ Ly E s0 d v := by
  intro k
  induction k with
  | zero => intro v h; exact ⟨0, Nat.le_refl 0, h⟩
  | succ k ih =>
    intro v h
    by_cases c : Bl E s0 k v
    · obtain ⟨d, hd, hl⟩ := ih c
      exact ⟨d, by omega, hl⟩
    · exact ⟨k + 1, Nat.le_refl _, h, c⟩
theorem Ly_no (h : Ly E s0 d v) (hm : m < d) : ¬ Bl E s0 m v := by
  cases d with
  | zero => omega
  | succ d => exact fun q => h.2 (Bl_mono (by omega) q)
theorem Ly_uniq (h : Ly E s0 d v) (h' : Ly E s0 d' v) : d = d' := by
  by_cases c : d < d'
  · exact absurd (Ly_Bl h) (Ly_no h' c)
  · by_cases c2 : d' < d
    · exact absurd (Ly_Bl h') (Ly_no h c2)
    · omega
theorem Ly_succ : Ly E s0 (r + 1) v ↔ ¬ Bl E s0 r v ∧ ∃ u, Ly E s0 r u ∧ E u v := by
  constructor
  · rintro ⟨h1, h2⟩
    refine ⟨h2, ?_⟩
    rcases h1 with h1 | ⟨u, hu, he⟩
    · exact absurd h1 h2
    · obtain ⟨d, hd, hl⟩ := Bl_Ly hu
      by_cases c : d = r
      · subst c; exact ⟨u, hl, he⟩
      · exact absurd (Bl_mono (show d + 1 ≤ r by omega) (Or.inr ⟨u, Ly_Bl hl, he⟩ : Bl E s0 (d + 1) v)) h2
  · rintro ⟨h1, u, hu, he⟩
    exact ⟨Or.inr ⟨u, Ly_Bl hu, he⟩, h1⟩
theorem Bl_stop (h : ∀ v, ¬ Ly E s0 (r + 1) v) : ∀ m v, Bl E s0 m v → Bl E s0 r v := by
  intro m
  induction m with
  | zero => intro v hv; exact Bl_mono (Nat.zero_le r) hv
  | succ m ih =>
    rintro v (hv | ⟨u, hu, he⟩)
    · exact ih v hv
    · by_cases c : Bl E s0 r v
      · exact c
      · exact absurd ⟨Or.inr ⟨u, ih u hu, he⟩, c⟩ (h v)
/-- what is known: how far, and the queue -/
abbrev St : Type := (Nat → Option Nat) × List Nat
def Ext (d : Nat) (A : Nat → Prop) (s s' : St) : Prop := (∀ v, (∀ e, s.1 v = some e → s'.1 v = some e) ∧ (s.1 v = none → A v → s'.1 v = some d) ∧ (s.1 v = none → ¬ A v → s'.1 v = none)) ∧ ∃ l, s'.2 = s.2 ++ l ∧ ∀ v, v ∈ l ↔ s.1 v = none ∧ A v
theorem Ext.none {A : Nat → Prop} (h : ∀ v, ¬ A v) (s : St) : Ext d A s s := ⟨fun v => ⟨fun _ e => e, fun _ a => absurd a (h v), fun e _ => e⟩, [], by simp, fun v => ⟨fun q => absurd q List.not_mem_nil, fun q => absurd q.2 (h v)⟩⟩
theorem Ext.trans {A B : Nat → Prop} {s s1 s2 : St} (x : Ext d A s s1) (y : Ext d B s1 s2) : Ext d (fun v => A v ∨ B v) s s2 := by
  obtain ⟨x1, l1, x2, x3⟩ := x
  obtain ⟨y1, l2, y2, y3⟩ := y
  refine ⟨fun v => ⟨fun e q => (y1 v).1 e ((x1 v).1 e q), fun q ab => ?_, fun q nab => ?_⟩, l1 ++ l2, ?_, fun v => ?_⟩
  · by_cases c : A v
    · exact (y1 v).1 d ((x1 v).2.1 q c)
    · exact (y1 v).2.1 ((x1 v).2.2 q c) (ab.resolve_left c)
  · exact (y1 v).2.2 ((x1 v).2.2 q (fun a => nab (Or.inl a))) (fun b => nab (Or.inr b))
  · rw [y2, x2, List.append_assoc]
  · rw [List.mem_append, x3, y3]
    constructor
    · rintro (⟨q, a⟩ | ⟨q, b⟩)
      · exact ⟨q, Or.inl a⟩
      · have : s.1 v = Option.none := by
          cases e : s.1 v with
          | none => rfl
          | some e' => rw [(x1 v).1 e' e] at q; cases q
        exact ⟨this, Or.inr b⟩
    · rintro ⟨q, ab⟩
      by_cases c : A v
      · exact Or.inl ⟨q, c⟩
      · exact Or.inr ⟨(x1 v).2.2 q c, ab.resolve_left c⟩
theorem Ext.congr {A B : Nat → Prop} {s s1 : St} (x : Ext d A s s1) (h : ∀ v, A v ↔ B v) : Ext d B s s1 := by
  have : A = B := funext (fun v => propext (h v))
  rw [← this]; exact x
def rchS (w d : Nat) (s : St) : St := if s.1 w = none then (fun v => if v = w then some d else s.1 v, s.2 ++ [w]) else s
theorem rch_Ext (s : St) : Ext d (fun v => v = w) s (rchS w d s) := by
  unfold rchS
  by_cases c : s.1 w = none
  · rw [if_pos c]
    refine ⟨fun v => ⟨fun e q => ?_, fun _ a => if_pos a, fun q na => ?_⟩, [w], rfl, fun v => ?_⟩
    · by_cases e2 : v = w
      · subst e2; rw [c] at q; cases q
      · show (if v = w then some d else s.1 v) = some e
        rw [if_neg e2]; exact q
    · show (if v = w then some d else s.1 v) = none
      rw [if_neg na]; exact q
    · rw [List.mem_singleton]
      exact ⟨fun q => ⟨by rw [q]; exact c, q⟩, fun q => q.2⟩
  · rw [if_neg c]
    refine ⟨fun v => ⟨fun _ q => q, fun q a => ?_, fun q _ => q⟩, [], by simp, fun v => ⟨fun q => absurd q List.not_mem_nil, fun q => ?_⟩⟩
    · exact absurd (a ▸ q) c
    · exact absurd (q.2 ▸ q.1) c
def cntB (p : Nat → Bool) (T : Nat) : Nat := foldN (fun k s => if p k = true then s + 1 else s) 0 T
theorem cntB_le (p : Nat → Bool) : ∀ T, cntB p T ≤ T := by
  intro T
  induction T with
  | zero => exact Nat.le_refl 0
  | succ T ih => unfold cntB at ih ⊢; rw [foldN]; split <;> omega
theorem cntB_lt {p : Nat → Bool} (hw : p w = false) : ∀ T, w < T → cntB p T < T := by
  intro T
  induction T with
  | zero => intro h; omega
  | succ T ih =>
    intro h
    by_cases c : w = T
    · subst c
      have := cntB_le p w
      unfold cntB at this ⊢
      rw [foldN, hw]
      simp only [Bool.false_eq_true, if_false]
      omega
    · have := ih (by omega)
      unfold cntB at this ⊢
      rw [foldN]
      split <;> omega
theorem cntB_up {p p' : Nat → Bool} (hw : p w = false) (hw' : p' w = true) (ho : ∀ v, v ≠ w → p' v = p v) : ∀ T, cntB p' T = cntB p T + (if w < T then 1 else 0) := by
  intro T
  induction T with
  | zero => rfl
  | succ T ih =>
    have e1 : cntB p' (T + 1) = if p' T = true then cntB p' T + 1 else cntB p' T := rfl
    have e2 : cntB p (T + 1) = if p T = true then cntB p T + 1 else cntB p T := rfl
    rw [e1, e2, ih]
    by_cases c : T = w
    · subst c
      simp [hw, hw']
    · rw [ho T c]
      by_cases c2 : w < T
      · have c3 : w < T + 1 := by omega
        simp only [c2, c3, if_true]
        split <;> omega
      · have c3 : ¬ w < T + 1 := by omega
        simp only [c2, c3, if_false, Nat.add_zero]
/-- a state of T nodes -/
def WfS (T : Nat) (s : St) : Prop := (∀ v, s.1 v ≠ none → v < T) ∧ (∀ v, v ∈ s.2 → v < T) ∧ s.2.length = cntB (fun v => (s.1 v).isSome) T
theorem WfS.rch {s : St} (h : WfS T s) (hw : w < T) : WfS T (rchS w d s) := by
  unfold rchS
  by_cases c : s.1 w = none
  · rw [if_pos c]
    refine ⟨fun v q => ?_, fun v q => ?_, ?_⟩
    · by_cases e : v = w
      · rw [e]; exact hw
      · exact h.1 v (by simpa [e] using q)
    · rw [List.mem_append, List.mem_singleton] at q
      rcases q with q | q
      · exact h.2.1 v q
      · rw [q]; exact hw
    · have := cntB_up (w := w) (p := fun v => (s.1 v).isSome) (p' := fun v => (if v = w then some d else s.1 v).isSome) (by simp [c]) (by simp) (fun v e => by simp [e]) T
      rw [if_pos hw] at this
      show (s.2 ++ [w]).length = cntB (fun v => (if v = w then some d else s.1 v).isSome) T
      rw [List.length_append, h.2.2, this]
      rfl
  · rw [if_neg c]; exact h
theorem WfS.lt {s : St} (h : WfS T s) (hw : w < T) (hn : s.1 w = none) : s.2.length < T := by
  rw [h.2.2]
  exact cntB_lt (w := w) (by simp [hn]) T hw
theorem WfS.le {s : St} (h : WfS T s) : s.2.length ≤ T := by
  rw [h.2.2]
  exact cntB_le _ T
/-- who is reached from what stands at a .. k-1 in the queue -/
def PR (E : Nat → Nat → Prop) (q : List Nat) (a k v : Nat) : Prop := ∃ j, a ≤ j ∧ j < k ∧ ∃ u, q[j]? = some u ∧ E u v
/-- k of the queue have been gone on from -/
def BIr (E : Nat → Nat → Prop) (s0 k : Nat) (s : St) (r a b : Nat) : Prop := a ≤ k ∧ k ≤ b ∧ b ≤ s.2.length ∧ (∀ v, (∃ j, a ≤ j ∧ j < b ∧ s.2[j]? = some v) ↔ Ly E s0 r v) ∧ (∀ v, Bl E s0 r v → ∃ d, d ≤ r ∧ s.1 v = some d ∧ Ly E s0 d v) ∧ (∀ v, ¬ Bl E s0 r v → PR E s.2 a k v → s.1 v = some (r + 1)) ∧ (∀ v, ¬ Bl E s0 r v → ¬ PR E s.2 a k v → s.1 v = none) ∧ (∀ v, (∃ j, b ≤ j ∧ j < s.2.length ∧ s.2[j]? = some v) ↔ ¬ Bl E s0 r v ∧ PR E s.2 a k v)
def BI (E : Nat → Nat → Prop) (s0 k : Nat) (s : St) : Prop := ∃ r a b, BIr E s0 k s r a b
theorem BI_start (s : St) (hs : Ext 0 (fun v => v = s0) (fun _ => none, []) s) : BI E s0 0 s := by
  obtain ⟨x1, l, x2, x3⟩ := hs
  have hl : ∀ v, v ∈ s.2 ↔ v = s0 := fun v => by
    rw [x2, List.nil_append, x3]
    exact ⟨fun q => q.2, fun q => ⟨rfl, q⟩⟩
  have nPR : ∀ v, ¬ PR E s.2 0 0 v := fun v ⟨j, _, q, _⟩ => by omega
  refine ⟨0, 0, s.2.length, Nat.le_refl 0, Nat.zero_le _, Nat.le_refl _, fun v => ?_, fun v hv => ?_, fun v _ q => absurd q (nPR v), fun v hv _ => ?_, fun v => ?_⟩
  · rw [show Ly E s0 0 v ↔ v = s0 from Iff.rfl, ← hl v, List.mem_iff_getElem?]
    constructor
    · rintro ⟨j, _, _, e⟩; exact ⟨j, e⟩
    · rintro ⟨j, e⟩
      exact ⟨j, Nat.zero_le _, (List.getElem?_eq_some_iff.mp e).1, e⟩
  · exact ⟨0, Nat.le_refl 0, (x1 v).2.1 rfl hv, hv⟩
  · exact (x1 v).2.2 rfl hv
  · exact ⟨fun ⟨j, h1, h2, _⟩ => by omega, fun q => absurd q.2 (nPR v)⟩
theorem BI_norm {s : St} (h : BI E s0 k s) (hk : k < s.2.length) : ∃ r a b, BIr E s0 k s r a b ∧ k < b := by
  obtain ⟨r, a, b, h1, h2, h3, h4, h5, h6, h7, h8⟩ := h
  by_cases c : k < b
  · exact ⟨r, a, b, ⟨h1, h2, h3, h4, h5, h6, h7, h8⟩, c⟩
  · have kb : k = b := by omega
    subst kb
    have key : ∀ v, (¬ Bl E s0 r v ∧ PR E s.2 a k v) ↔ Ly E s0 (r + 1) v := by
      intro v
      rw [Ly_succ]
      constructor
      · rintro ⟨q, j, j1, j2, u, e, he⟩
        exact ⟨q, u, (h4 u).mp ⟨j, j1, j2, e⟩, he⟩
      · rintro ⟨q, u, hu, he⟩
        obtain ⟨j, j1, j2, e⟩ := (h4 u).mpr hu
        exact ⟨q, j, j1, j2, u, e, he⟩
    have nPR : ∀ v, ¬ PR E s.2 k k v := fun v ⟨j, q1, q2, _⟩ => by omega
    refine ⟨r + 1, k, s.2.length, ⟨Nat.le_refl k, by omega, Nat.le_refl _, fun v => ?_, fun v hv => ?_, fun v _ q => absurd q (nPR v), fun v hv _ => ?_, fun v => ?_⟩, hk⟩
    · rw [← key v]; exact h8 v
    · by_cases c2 : Bl E s0 r v
      · obtain ⟨d, d1, d2, d3⟩ := h5 v c2
        exact ⟨d, by omega, d2, d3⟩
      · have hl : Ly E s0 (r + 1) v := ⟨hv, c2⟩
        exact ⟨r + 1, Nat.le_refl _, h6 v c2 ((key v).mpr hl).2, hl⟩
    · have c2 : ¬ Bl E s0 r v := fun q => hv (Or.inl q)
      refine h7 v c2 (fun q => hv (Ly_Bl ((key v).mp ⟨c2, q⟩)))
    · exact ⟨fun ⟨j, q1, q2, _⟩ => by omega, fun q => absurd q.2 (nPR v)⟩
theorem BI_dist {s : St} (h : BI E s0 k s) (hu : s.2[k]? = some u) : ∃ d, s.1 u = some d := by
  have hk : k < s.2.length := (List.getElem?_eq_some_iff.mp hu).1
  obtain ⟨r, a, b, ⟨h1, h2, h3, h4, h5, h6, h7, h8⟩, hb⟩ := BI_norm h hk
  have hl := (h4 u).mp ⟨k, h1, hb, hu⟩
  obtain ⟨d, d1, d2, d3⟩ := h5 u (Ly_Bl hl)
  exact ⟨d, d2⟩
theorem PR_app {q l : List Nat} (hk : k ≤ q.length) : PR E (q ++ l) a k v ↔ PR E q a k v := by
  constructor
  · rintro ⟨j, j1, j2, u, e, he⟩
    rw [List.getElem?_append_left (by omega)] at e
    exact ⟨j, j1, j2, u, e, he⟩
  · rintro ⟨j, j1, j2, u, e, he⟩
    refine ⟨j, j1, j2, u, ?_, he⟩
    rw [List.getElem?_append_left (by omega)]
    exact e
theorem PR_succ {q : List Nat} (ha : a ≤ k) (hu : q[k]? = some u) : PR E q a (k + 1) v ↔ PR E q a k v ∨ E u v := by
  constructor
  · rintro ⟨j, j1, j2, u', e, he⟩
    by_cases c : j = k
    · subst c
      rw [hu] at e
      cases e
      exact Or.inr he
    · exact Or.inl ⟨j, j1, by omega, u', e, he⟩
  · rintro (⟨j, j1, j2, u', e, he⟩ | he)
    · exact ⟨j, j1, by omega, u', e, he⟩
    · exact ⟨k, ha, by omega, u, hu, he⟩
theorem BI_next {s s' : St} (h : BI E s0 k s) (hu : s.2[k]? = some u) (hd : s.1 u = some d) (x : Ext (d + 1) (E u) s s') : BI E s0 (k + 1) s' := by
  have hk : k < s.2.length := (List.getElem?_eq_some_iff.mp hu).1
  obtain ⟨r, a, b, ⟨h1, h2, h3, h4, h5, h6, h7, h8⟩, hb⟩ := BI_norm h hk
  obtain ⟨x1, l, x2, x3⟩ := x
  have hl := (h4 u).mp ⟨k, h1, hb, hu⟩
  have dr : d = r := by
    obtain ⟨e, e1, e2, e3⟩ := h5 u (Ly_Bl hl)
    rw [hd] at e2
    cases e2
    exact Ly_uniq e3 hl
  subst dr
  have hu' : s'.2[k]? = some u := by rw [x2, List.getElem?_append_left hk]; exact hu
  have pr : ∀ v, PR E s'.2 a (k + 1) v ↔ PR E s.2 a k v ∨ E u v := fun v => by
    rw [PR_succ h1 hu', x2, PR_app (by omega)]
  refine ⟨d, a, b, by omega, by omega, by rw [x2, List.length_append]; omega, fun v => ?_, fun v hv => ?_, fun v hv q => ?_, fun v hv q => ?_, fun v => ?_⟩
  · rw [← h4 v]
    constructor
    · rintro ⟨j, j1, j2, e⟩
      rw [x2, List.getElem?_append_left (by omega)] at e
      exact ⟨j, j1, j2, e⟩
    · rintro ⟨j, j1, j2, e⟩
      refine ⟨j, j1, j2, ?_⟩
      rw [x2, List.getElem?_append_left (by omega)]
      exact e
  · obtain ⟨e, e1, e2, e3⟩ := h5 v hv
    exact ⟨e, e1, (x1 v).1 e e2, e3⟩
  · rw [pr] at q
    by_cases c : PR E s.2 a k v
    · exact (x1 v).1 _ (h6 v hv c)
    · exact (x1 v).2.1 (h7 v hv c) (q.resolve_left c)
  · rw [pr] at q
    exact (x1 v).2.2 (h7 v hv (fun z => q (Or.inl z))) (fun z => q (Or.inr z))
  · rw [pr]
    constructor
    · rintro ⟨j, j1, j2, e⟩
      by_cases c : j < s.2.length
      · rw [x2, List.getElem?_append_left c] at e
        have := (h8 v).mp ⟨j, j1, c, e⟩
        exact ⟨this.1, Or.inl this.2⟩
      · rw [x2, List.getElem?_append_right (by omega)] at e
        have := (x3 v).mp (List.mem_iff_getElem?.mpr ⟨_, e⟩)
        refine ⟨fun q => ?_, Or.inr this.2⟩
        obtain ⟨e', _, e2, _⟩ := h5 v q
        rw [this.1] at e2
        cases e2
    · rintro ⟨hv, q⟩
      by_cases c : PR E s.2 a k v
      · obtain ⟨j, j1, j2, e⟩ := (h8 v).mpr ⟨hv, c⟩
        refine ⟨j, j1, by rw [x2, List.length_append]; omega, ?_⟩
        rw [x2, List.getElem?_append_left j2]
        exact e
      · have := (x3 v).mpr ⟨h7 v hv c, q.resolve_left c⟩
        obtain ⟨j, e⟩ := List.mem_iff_getElem?.mp this
        have jl := (List.getElem?_eq_some_iff.mp e).1
        refine ⟨s.2.length + j, by omega, by rw [x2, List.length_append]; omega, ?_⟩
        rw [x2, List.getElem?_append_right (by omega), show s.2.length + j - s.2.length = j by omega]
        exact e
theorem BI_end1 {s : St} (h : BI E s0 k s) {g : Nat} (hg : s.1 g = some d) : Ly E s0 d g ∧ ∀ v e, e < d → (s.1 v = some e ↔ Ly E s0 e v) := by
  obtain ⟨r, a, b, h1, h2, h3, h4, h5, h6, h7, h8⟩ := h
  have val : ∀ v e, s.1 v = some e → Ly E s0 e v ∧ e ≤ r + 1 := by
    intro v e he
    by_cases c : Bl E s0 r v
    · obtain ⟨e', e1, e2, e3⟩ := h5 v c
      rw [he] at e2
      cases e2
      exact ⟨e3, by omega⟩
    · by_cases c2 : PR E s.2 a k v
      · have := h6 v c c2
        rw [he] at this
        cases this
        refine ⟨?_, Nat.le_refl _⟩
        obtain ⟨j, j1, j2, u, e, he⟩ := c2
        exact Ly_succ.mpr ⟨c, u, (h4 u).mp ⟨j, j1, by omega, e⟩, he⟩
      · have := h7 v c c2
        rw [he] at this
        cases this
  refine ⟨(val g d hg).1, fun v e he => ⟨fun q => (val v e q).1, fun q => ?_⟩⟩
  have := (val g d hg).2
  obtain ⟨e', e1, e2, e3⟩ := h5 v (Bl_mono (show e ≤ r by omega) (Ly_Bl q))
  rw [e2, Ly_uniq q e3]
theorem BI_end2 {s : St} (h : BI E s0 s.2.length s) {g : Nat} (hg : s.1 g = none) : ∀ m, ¬ Bl E s0 m g := by
  obtain ⟨r, a, b, h1, h2, h3, h4, h5, h6, h7, h8⟩ := h
  have bl : b = s.2.length := by omega
  have st : ∀ v, ¬ Ly E s0 (r + 1) v := by
    intro v hv
    obtain ⟨q, u, hu, he⟩ := Ly_succ.mp hv
    obtain ⟨j, j1, j2, e⟩ := (h4 u).mpr hu
    obtain ⟨j', j1', j2', _⟩ := (h8 v).mpr ⟨q, j, j1, by omega, u, e, he⟩
    omega
  intro m hm
  obtain ⟨e, _, e2, _⟩ := h5 g (Bl_stop st m g hm)
  rw [hg] at e2
  cases e2
end BFS
