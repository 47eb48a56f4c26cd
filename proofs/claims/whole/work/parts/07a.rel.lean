/-! HOW THE ABSTRACT MACHINE LIES IN THE JVM -/
def tbG : List Cond := lw_tbl.filter goodWord
theorem tbG_of {w : Cond} (h : w ∈ lw_tbl) (hg : goodWord w = true) : w ∈ tbG := List.mem_filter.mpr ⟨h, hg⟩
theorem tbG_in {w : Cond} (h : w ∈ tbG) : w ∈ lw_tbl := (List.mem_filter.mp h).1
theorem tbG_good {w : Cond} (h : w ∈ tbG) : goodWord w = true := (List.mem_filter.mp h).2
/-- the run's constants: the classes' numbers, int[] and boolean[], where the new cells begin, the script's cell, the text's, the script's length, its ints, the heap at the start -/
abbrev aG : Type := va_G × ClassId × ClassId × Nat × Nat × Nat × Nat × (Nat → Int32) × Heap
def gD (g : aG) : va_G := g.1
def gI (g : aG) : ClassId := g.2.1
def gZ (g : aG) : ClassId := g.2.2.1
def gS (g : aG) : Nat := g.2.2.2.1
def gB (g : aG) : Nat := g.2.2.2.2.1
def gA (g : aG) : Nat := g.2.2.2.2.2.1
def gL (g : aG) : Nat := g.2.2.2.2.2.2.1
def gX (g : aG) : Nat → Int32 := g.2.2.2.2.2.2.2.1
def gH (g : aG) : Heap := g.2.2.2.2.2.2.2.2
def rho (g : aG) (a : Nat) : Nat := if a = 1 then gB g else if a = 2 then gA g else gS g + (a - 3)
def cv (g : aG) (v : Value) : Value := match v with
  | .ref a => .ref (rho g a)
  | v => v
theorem cv_int (g : aG) (x : Int32) : cv g (.int x) = .int x := rfl
theorem cv_long (g : aG) (x : Int64) : cv g (.long x) = .long x := rfl
theorem cv_ref (g : aG) (a : Nat) : cv g (.ref a) = .ref (rho g a) := rfl
theorem cv_null (g : aG) : cv g .null = .null := rfl
theorem cv_cat (g : aG) (v : Value) : (cv g v).category = v.category := by cases v <;> rfl
theorem rho_ge (g : aG) {a : Nat} (h : 3 ≤ a) : rho g a = gS g + (a - 3) := by
  unfold rho
  rw [if_neg (by omega), if_neg (by omega)]
def rv (g : aG) (a : Nat) : Value := if a = 0 then .null else .ref (rho g a)
def fV (g : aG) (h : aH) (ci a k : Nat) : Value := if fK ci k = 1 then rv g (hR h a k) else .int (hI h a k)
def cAt (g : aG) (h : aH) (a : Nat) (H : Heap) : Prop := match (hS h a).1 with
  | 1 => (hS h a).2 < 9 ∧ t_OB (rho g a) ((gD g).1 (hS h a).2) (clT (hS h a).2).2.2 ((gD g).2 (hS h a).2) H (fV g h (hS h a).2 a)
  | 2 => H[rho g a]? = some (arrV (gI g) (hS h a).2 (fun j => .int (hI h a j)))
  | 3 => H[rho g a]? = some (arrV (gZ g) (hS h a).2 (fun j => .int (hI h a j)))
  | _ => False
def HR (g : aG) (h : aH) (H : Heap) : Prop := H.size + 3 = gS g + hN h ∧ 3 ≤ hN h ∧ (gH g).size = gS g ∧ (∀ q : Nat, q < gS g → H[q]? = (gH g)[q]?) ∧ (hS h 0 = (0, 0) ∧ hS h 1 = (4, gL g) ∧ hS h 2 = (0, 0)) ∧ (∀ j, j < gL g → hI h 1 j = gX g j) ∧ gB g < gS g ∧ (∀ a, 3 ≤ a → a < hN h → cAt g h a H) ∧ ∀ a, hN h ≤ a → hS h a = (0, 0)
/-- what the tables and the start's heap say, at any state of the run -/
def KS (g : aG) (U : State) : Prop := va_K (gD g) vwCl [(gI g, .int), (gZ g, .boolean)] U ∧ va_X (gB g) (gL g) (gX g) U (gH g) ∧ (∀ (o : String) (k : Nat) (y : MethodName), Cond.methodLinkNest o k y "BedsBySnore" ∈ lw_tbl → va_Nw (.methodLinkNest o k y "BedsBySnore") U) ∧ vk_R "BedsBySnore" 72 "n6;g0,12,3,9,0;g1,8,7,6,1;g2,10,0,14,3;g3,6,10,5,4;w3;c8;r7;" (gA g) U ∧ (∃ adV : Nat → Nat, vk_S 1 [60] [txtB] (fun _ => gA g) adV (fun q => gS g ≤ q) U (gH g)) ∧ va_Z "java/lang/String" "COMPACT_STRINGS" "Z" (.int 1) (fun q => gS g ≤ q) U (gH g) ∧ va_Zq "jdk/internal/util/Preconditions" "SIOOBE_FORMATTER" "Ljava/util/function/BiFunction;" (fun q => gS g ≤ q) U (gH g)
theorem KS.warm {g : aG} {s U : State} (hW : s.WarmedH U.vm) (h : KS g s) : KS g U := by
  obtain ⟨h1, h2, h3, h4, ⟨adV, h5⟩, h6, h7⟩ := h
  exact ⟨va_K.moved hW.alike h1, h2.moved hW.alike, fun o k y hm => va_Nw.warmM hW (h3 o k y hm), vk_R.warm hW h4, ⟨adV, vk_S.moved hW.alike h5⟩, va_Z.moved hW.alike h6, va_Zq.moved hW.alike h7⟩
theorem KS.same {g : aG} {s U : State} (hv : U.vm = s.vm) (h : KS g s) : KS g U := by
  obtain ⟨h1, h2, h3, h4, ⟨adV, h5⟩, h6, h7⟩ := h
  have hal : s.vm.Alike U.vm := by rw [hv]; exact Vm.Alike.refl _
  exact ⟨va_K.moved hal h1, h2.moved hal, fun o k y hm => va_Nw.same rfl hv.symm (h3 o k y hm), vk_R.same hv h4, ⟨adV, vk_S.moved hal h5⟩, va_Z.moved hal h6, va_Zq.moved hal h7⟩
/-- the classes -/
theorem clT_at : ∀ ci, ci < 9 → vwCl[ci]? = some (clT ci) := by
  intro ci h
  rw [clT, List.getD_eq_getElem?_getD, List.getElem?_eq_getElem (show ci < vwCl.length from h)]
  rfl
theorem clT_in : ∀ ci, ci < 9 → ∀ w ∈ u_ws (clT ci).1 (clT ci).2.1 (clT ci).2.2, w ∈ tbG := by decide +kernel
theorem clT_ty : ∀ ci, ci < 9 → ∀ k, k < (clT ci).2.2 → parseFieldDescriptor ((clT ci).2.1 k).2.2.1 = some (tyC ci k) := by decide +kernel
theorem clT_nm : ∀ ci, ci < 9 → ∀ a, a < (clT ci).2.2 → ∀ b, b < (clT ci).2.2 → a ≠ b → ((clT ci).2.1 a).2.1 ≠ ((clT ci).2.1 b).2.1 := by decide +kernel
theorem clT_own : ∀ ci, ci < 9 → ∀ k, k < (clT ci).2.2 → ((clT ci).2.1 k).1 = (clT ci).1 := by decide +kernel
theorem clT_kd : ∀ ci, ci < 9 → ∀ k, k < (clT ci).2.2 → kdT (tyC ci k) ≤ 2 := by decide +kernel
/-- the locals -/
def LR (g : aG) (ls : Array Slot) (n : Nat) (L : List Value) : Prop := ls.size = n ∧ lv_wf ls ∧ L.length = n ∧ ∀ (i : Nat) (v : Value), L[i]? = some v → v ≠ .null → ls[i]? = some (.val (cv g v))
def enumL (g : aG) (L : List Value) : List (Nat × Value) := (List.range L.length).filterMap (fun (i : Nat) => match L[i]? with
  | some (Value.null) => none
  | some v => some (i, cv g v)
  | none => none)
theorem enumL_mem {g : aG} {L : List Value} {q : Nat × Value} : q ∈ enumL g L ↔ ∃ v : Value, L[q.1]? = some v ∧ v ≠ .null ∧ q.2 = cv g v := by
  unfold enumL
  rw [List.mem_filterMap]
  constructor
  · rintro ⟨i, -, h⟩
    cases hv : L[i]? with
    | none => rw [hv] at h; cases h
    | some v =>
      rw [hv] at h
      cases v <;> simp at h <;> (subst h; exact ⟨_, hv, by simp, rfl⟩)
  · rintro ⟨v, h1, h2, h3⟩
    refine ⟨q.1, List.mem_range.mpr (List.getElem?_eq_some_iff.mp h1).1, ?_⟩
    rw [h1]
    obtain ⟨a, b⟩ := q
    subst h3
    cases v <;> first | rfl | exact absurd rfl h2
theorem LR.has {g : aG} {ls : Array Slot} {n : Nat} {L : List Value} (h : LR g ls n L) : lv_has ls n (enumL g L) := by
  refine ⟨h.1, h.2.1, fun q hq => ?_⟩
  obtain ⟨v, h1, h2, h3⟩ := enumL_mem.mp hq
  rw [h3]
  exact h.2.2.2 _ _ h1 h2
theorem LR.at {g : aG} {ls : Array Slot} {n : Nat} {L : List Value} (h : LR g ls n L) {i : Nat} {v : Value} (hv : L[i]? = some v) (hn : v ≠ .null) : ls[i]? = some (.val (cv g v)) := h.2.2.2 i v hv hn
theorem nl_spec {L : List Value} {i j : Nat} {v : Value} (h : nl L i = true) (hj : j + 1 = i) (hv : L[j]? = some v) : v.category = 1 := by
  subst hj
  simp only [nl, hv] at h
  simpa using h
theorem LR.store {g : aG} {ls : Array Slot} {n i : Nat} {L : List Value} {v : Value} {ls' : Array Slot} (h : LR g ls n L) (hi : i < L.length) (hn : nl L i = true) (hc : v.category = 1) (h' : lv_has ls' n ((i, cv g v) :: (enumL g L).filter (fun q => !(q.1 == i) && !(q.1 + 1 == i && q.2.category == 2)))) : LR g ls' n (L.set i v) := by
  refine ⟨h'.1, h'.2.1, by rw [List.length_set]; exact h.2.2.1, fun j w hj hw => ?_⟩
  by_cases hij : j = i
  · subst hij
    rw [List.getElem?_set_self hi] at hj
    cases hj
    exact h'.2.2 (j, cv g v) List.mem_cons_self
  · rw [List.getElem?_set_ne (Ne.symm hij)] at hj
    refine h'.2.2 (j, cv g w) (List.mem_cons_of_mem _ (List.mem_filter.mpr ⟨enumL_mem.mpr ⟨w, hj, hw, rfl⟩, ?_⟩))
    simp only [Bool.and_eq_true, Bool.not_eq_true', beq_eq_false_iff_ne, ne_eq, Bool.and_eq_false_iff]
    refine ⟨hij, ?_⟩
    by_cases h1 : j + 1 = i
    · refine Or.inr ?_
      rw [cv_cat, nl_spec hn h1 hj]
      decide
    · exact Or.inl h1
theorem LR.store2 {g : aG} {ls : Array Slot} {n i : Nat} {L : List Value} {x : Int64} {ls' : Array Slot} (h : LR g ls n L) (hi : i + 1 < L.length) (hn : nl L i = true) (h' : lv_has ls' n ((i, Value.long x) :: (enumL g L).filter (fun q => !(q.1 == i) && (!(q.1 == i + 1) && !(q.1 + 1 == i && q.2.category == 2))))) : LR g ls' n ((L.set i (.long x)).set (i + 1) .null) := by
  refine ⟨h'.1, h'.2.1, by rw [List.length_set, List.length_set]; exact h.2.2.1, fun j w hj hw => ?_⟩
  by_cases hij1 : j = i + 1
  · subst hij1
    rw [List.getElem?_set_self (by rw [List.length_set]; exact hi)] at hj
    cases hj
    exact absurd rfl hw
  · rw [List.getElem?_set_ne (Ne.symm hij1)] at hj
    by_cases hij : j = i
    · subst hij
      rw [List.getElem?_set_self (by omega)] at hj
      cases hj
      exact h'.2.2 (j, Value.long x) List.mem_cons_self
    · rw [List.getElem?_set_ne (Ne.symm hij)] at hj
      refine h'.2.2 (j, cv g w) (List.mem_cons_of_mem _ (List.mem_filter.mpr ⟨enumL_mem.mpr ⟨w, hj, hw, rfl⟩, ?_⟩))
      simp only [Bool.and_eq_true, Bool.not_eq_true', beq_eq_false_iff_ne, ne_eq, Bool.and_eq_false_iff]
      refine ⟨hij, hij1, ?_⟩
      by_cases h1 : j + 1 = i
      · refine Or.inr ?_
        rw [cv_cat, nl_spec hn h1 hj]
        decide
      · exact Or.inl h1
/-- a call's locals at its entry -/
theorem lv_args_cat1 (g : aG) : ∀ (as : List Value) (k : Nat), as.all arg1 = true → ∀ (i : Nat) (v : Value), as[i]? = some v → (k + i, cv g v) ∈ lv_args k (as.map (cv g)) := by
  intro as
  induction as with
  | nil => intro k _ i v h; simp at h
  | cons a as ih =>
    intro k ha i v hv
    simp only [List.all_cons, Bool.and_eq_true] at ha
    have hc : (cv g a).category = 1 := by
      rw [cv_cat]
      cases a <;> first | rfl | simp [arg1] at ha
    rw [List.map_cons]
    cases i with
    | zero =>
      simp only [List.getElem?_cons_zero, Option.some.injEq] at hv
      subst hv
      simp [lv_args]
    | succ i =>
      simp only [List.getElem?_cons_succ] at hv
      have := ih (k + 1) ha.2 i v hv
      rw [lv_args, if_neg (by omega)]
      refine List.mem_cons_of_mem _ ?_
      rw [show k + (i + 1) = k + 1 + i by omega]
      exact this
theorem lg_sl_len (g : aG) : ∀ (as : List Value), as.all arg1 = true → (lg_sl (as.map (cv g))).length = as.length := by
  intro as
  induction as with
  | nil => intro _; rfl
  | cons a as ih =>
    intro ha
    simp only [List.all_cons, Bool.and_eq_true] at ha
    have := ih ha.2
    have hc : (cv g a).category = 1 := by
      rw [cv_cat]
      cases a <;> first | rfl | simp [arg1] at ha
    rw [List.map_cons]
    unfold lg_sl at this ⊢
    rw [List.flatMap_cons, List.length_append, this, if_neg (by omega), List.length_cons, List.length_cons, List.length_nil]
    omega
theorem LR.entry (g : aG) {k : Nat} {as : List Value} (ha : as.all arg1 = true) (hl : as.length ≤ mL k) : LR g ((lg_sl (as.map (cv g)) ++ List.replicate (mL k - (lg_sl (as.map (cv g))).length) Slot.unset).toArray) (mL k) (eL k as) := by
  have hlen := lg_sl_len g as ha
  obtain ⟨h1, h2, h3⟩ := lv_entry (as.map (cv g)) (n := mL k) (by rw [hlen]; exact hl)
  refine ⟨h1, h2, by simp [eL]; omega, fun i v hv hn => ?_⟩
  unfold eL at hv
  by_cases hi : i < as.length
  · rw [List.getElem?_append_left hi] at hv
    have := lv_args_cat1 g as 0 ha i v hv
    rw [Nat.zero_add] at this
    exact h3 _ this
  · rw [List.getElem?_append_right (by omega)] at hv
    rw [List.getElem?_replicate] at hv
    split at hv
    · cases hv; exact absurd rfl hn
    · cases hv
