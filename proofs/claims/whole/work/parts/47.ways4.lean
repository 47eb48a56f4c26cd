/-! NUMBERS AND CODES OF WAYS: what follows -/
section WAYS4
variable {n G T w w' i j k c : Nat} {L L' : Nat → Nat}
def BG (n G : Nat) : Prop := 1 ≤ G ∧ G < n ∧ n ≤ 6
theorem BG.cases (b : BG n G) : (n = 2 ∧ G = 1) ∨ (n = 3 ∧ G = 1) ∨ (n = 3 ∧ G = 2) ∨ (n = 4 ∧ G = 1) ∨ (n = 4 ∧ G = 2) ∨ (n = 4 ∧ G = 3) ∨ (n = 5 ∧ G = 1) ∨ (n = 5 ∧ G = 2) ∨ (n = 5 ∧ G = 3) ∨ (n = 5 ∧ G = 4) ∨ (n = 6 ∧ G = 1) ∨ (n = 6 ∧ G = 2) ∨ (n = 6 ∧ G = 3) ∨ (n = 6 ∧ G = 4) ∨ (n = 6 ∧ G = 5) := by
  obtain ⟨h1, h2, h3⟩ := b
  omega
theorem falN_vals : falN 2 1 = 2 ∧ falN 3 1 = 3 ∧ falN 3 2 = 6 ∧ falN 4 1 = 4 ∧ falN 4 2 = 12 ∧ falN 4 3 = 24 ∧ falN 5 1 = 5 ∧ falN 5 2 = 20 ∧ falN 5 3 = 60 ∧ falN 5 4 = 120 ∧ falN 6 1 = 6 ∧ falN 6 2 = 30 ∧ falN 6 3 = 120 ∧ falN 6 4 = 360 ∧ falN 6 5 = 720 := by decide
theorem way_A (b : BG n G) (hw : w < falN n G) : chkA n G (falN n G) w = true := by
  obtain ⟨f1, f2, f3, f4, f5, f6, f7, f8, f9, f10, f11, f12, f13, f14, f15⟩ := falN_vals
  rcases b.cases with ⟨rfl, rfl⟩ | ⟨rfl, rfl⟩ | ⟨rfl, rfl⟩ | ⟨rfl, rfl⟩ | ⟨rfl, rfl⟩ | ⟨rfl, rfl⟩ | ⟨rfl, rfl⟩ | ⟨rfl, rfl⟩ | ⟨rfl, rfl⟩ | ⟨rfl, rfl⟩ | ⟨rfl, rfl⟩ | ⟨rfl, rfl⟩ | ⟨rfl, rfl⟩ | ⟨rfl, rfl⟩ | ⟨rfl, rfl⟩
  · rw [f1] at *; exact (allB_iff _ _).mp chkA_21 w hw
  · rw [f2] at *; exact (allB_iff _ _).mp chkA_31 w hw
  · rw [f3] at *; exact (allB_iff _ _).mp chkA_32 w hw
  · rw [f4] at *; exact (allB_iff _ _).mp chkA_41 w hw
  · rw [f5] at *; exact (allB_iff _ _).mp chkA_42 w hw
  · rw [f6] at *; exact (allB_iff _ _).mp chkA_43 w hw
  · rw [f7] at *; exact (allB_iff _ _).mp chkA_51 w hw
  · rw [f8] at *; exact (allB_iff _ _).mp chkA_52 w hw
  · rw [f9] at *; exact (allB_iff _ _).mp chkA_53 w hw
  · rw [f10] at *; exact (allB_iff _ _).mp chkA_54 w hw
  · rw [f11] at *; exact (allB_iff _ _).mp chkA_61 w hw
  · rw [f12] at *; exact (allB_iff _ _).mp chkA_62 w hw
  · rw [f13] at *; exact (allB_iff _ _).mp chkA_63 w hw
  · rw [f14] at *; exact (allB_iff _ _).mp chkA_64 w hw
  · rw [f15] at *; exact (allB_iff _ _).mp chkA_65 w hw
theorem two_lv {p : Nat → Bool} {m : Nat} (e : allB (fun a => allB (fun b => p (6 * a + b)) 6) m = true) (hc : c < m * 6) : p c = true := by
  have h1 := (allB_iff _ _).mp e (c / 6) (by omega)
  have h2 := (allB_iff _ _).mp h1 (c % 6) (by omega)
  rw [show 6 * (c / 6) + c % 6 = c by omega] at h2
  exact h2
theorem way_B (b : BG n G) (hc : c < 6 ^ G) : chkB n G (falN n G) c = true := by
  obtain ⟨f1, f2, f3, f4, f5, f6, f7, f8, f9, f10, f11, f12, f13, f14, f15⟩ := falN_vals
  rcases b.cases with ⟨rfl, rfl⟩ | ⟨rfl, rfl⟩ | ⟨rfl, rfl⟩ | ⟨rfl, rfl⟩ | ⟨rfl, rfl⟩ | ⟨rfl, rfl⟩ | ⟨rfl, rfl⟩ | ⟨rfl, rfl⟩ | ⟨rfl, rfl⟩ | ⟨rfl, rfl⟩ | ⟨rfl, rfl⟩ | ⟨rfl, rfl⟩ | ⟨rfl, rfl⟩ | ⟨rfl, rfl⟩ | ⟨rfl, rfl⟩
  · rw [f1]; exact two_lv (p := chkB 2 1 2) chkB_21 hc
  · rw [f2]; exact two_lv (p := chkB 3 1 3) chkB_31 hc
  · rw [f3]; exact two_lv (p := chkB 3 2 6) chkB_32 hc
  · rw [f4]; exact two_lv (p := chkB 4 1 4) chkB_41 hc
  · rw [f5]; exact two_lv (p := chkB 4 2 12) chkB_42 hc
  · rw [f6]; exact two_lv (p := chkB 4 3 24) chkB_43 hc
  · rw [f7]; exact two_lv (p := chkB 5 1 5) chkB_51 hc
  · rw [f8]; exact two_lv (p := chkB 5 2 20) chkB_52 hc
  · rw [f9]; exact two_lv (p := chkB 5 3 60) chkB_53 hc
  · rw [f10]; exact two_lv (p := chkB 5 4 120) chkB_54 hc
  · rw [f11]; exact two_lv (p := chkB 6 1 6) chkB_61 hc
  · rw [f12]; exact two_lv (p := chkB 6 2 30) chkB_62 hc
  · rw [f13]; exact two_lv (p := chkB 6 3 120) chkB_63 hc
  · rw [f14]; exact two_lv (p := chkB 6 4 360) chkB_64 hc
  · rw [f15]; exact two_lv (p := chkB 6 5 720) chkB_65 hc
/-- a way: beds that there are, none twice -/
def VL (n G : Nat) (L : Nat → Nat) : Prop := (∀ i, i < G → L i < n) ∧ ∀ i j, i < G → j < G → L i = L j → i = j
theorem disC_iff : disC n G L = true ↔ VL n G L := by
  unfold disC
  rw [allB_iff]
  refine ⟨fun q => ⟨fun i hi => ?_, ?_⟩, fun q i hi => ?_⟩
  · have := q i hi
    simp only [Bool.and_eq_true, decide_eq_true_eq] at this
    exact this.1
  · have key : ∀ i j, j < i → i < G → L i ≠ L j := by
      intro i j hj hi e
      have := q i hi
      simp only [Bool.and_eq_true, decide_eq_true_eq, allB_iff] at this
      have := this.2 j hj
      simp [e] at this
    intro i j hi hj e
    by_cases c1 : j < i
    · exact absurd e (key i j c1 hi)
    · by_cases c2 : i < j
      · exact absurd e.symm (key j i c2 hj)
      · omega
  · simp only [Bool.and_eq_true, decide_eq_true_eq, allB_iff]
    refine ⟨q.1 i hi, fun j hj => ?_⟩
    have : L i ≠ L j := fun e => by
      have := q.2 i j hi (by omega) e
      omega
    simp [this]
theorem VL.congr (v : VL n G L) (e : ∀ i, i < G → L i = L' i) : VL n G L' := ⟨fun i hi => by rw [← e i hi]; exact v.1 i hi, fun i j hi hj q => v.2 i j hi hj (by rw [e i hi, e j hj]; exact q)⟩
theorem way_V (b : BG n G) (hw : w < falN n G) : VL n G (wlN n (falN n G) w) ∧ numN (wlN n (falN n G) w) n G = w ∧ (∀ i, i < G → okS n (falN n G) w i = true) ∧ (∀ i, i < G → cntL (wlN n (falN n G) w) i ≤ wlN n (falN n G) w i) ∧ (w + 1 < falN n G → codeN (wlN n (falN n G) w) G < codeN (wlN n (falN n G) (w + 1)) G) := by
  have h := way_A b hw
  unfold chkA at h
  simp only [Bool.and_eq_true, decide_eq_true_eq, allB_iff] at h
  obtain ⟨⟨⟨h1, h2⟩, h3⟩, h4⟩ := h
  exact ⟨disC_iff.mp h3, h2, fun i hi => (h1 i hi).1, fun i hi => (h1 i hi).2, fun q => h4.resolve_right (by omega)⟩
abbrev cwN (n G w : Nat) : Nat := codeN (wlN n (falN n G) w) G
theorem cw_mono (b : BG n G) : ∀ d, w + d + 1 < falN n G → cwN n G w < cwN n G (w + d + 1) := by
  intro d
  induction d with
  | zero => intro h; exact (way_V b (by omega)).2.2.2.2 h
  | succ d ih => intro h; exact Nat.lt_trans (ih (by omega)) ((way_V b (show w + d + 1 < falN n G by omega)).2.2.2.2 h)
theorem cw_lt (b : BG n G) (h1 : w < w') (h2 : w' < falN n G) : cwN n G w < cwN n G w' := by
  have := cw_mono b (w := w) (w' - w - 1) (by omega)
  rwa [show w + (w' - w - 1) + 1 = w' by omega] at this
theorem codeN_congr (e : ∀ i, i < G → L i = L' i) : codeN L G = codeN L' G := by
  unfold codeN
  exact foldN_congr (fun k hk s => by rw [e k hk])
theorem cdN_code : ∀ G, (∀ i, i < G → L i < 6) → ∀ i, i < G → cdN G (codeN L G) i = L i := by
  intro G
  induction G with
  | zero => intro _ i hi; omega
  | succ G ih =>
    intro hL i hi
    have e : codeN L (G + 1) = 6 * codeN L G + L G := rfl
    have hG := hL G (by omega)
    have ed : codeN L (G + 1) / 6 = codeN L G := by omega
    by_cases c1 : i = G
    · subst c1
      unfold cdN
      rw [show i + 1 - 1 - i = 0 by omega, Nat.pow_zero, Nat.div_one]
      omega
    · have := ih (fun i hi => hL i (by omega)) i (by omega)
      unfold cdN at *
      rw [show G + 1 - 1 - i = (G - 1 - i) + 1 by omega, Nat.pow_succ, Nat.mul_comm, ← Nat.div_div_eq_div_mul, ed]
      exact this
theorem code_cd : ∀ G c, c < 6 ^ G → codeN (cdN G c) G = c := by
  intro G
  induction G with
  | zero => intro c hc; exact (Nat.lt_one_iff.mp hc).symm
  | succ G ih =>
    intro c hc
    show 6 * codeN (cdN (G + 1) c) G + cdN (G + 1) c G = c
    have e : codeN (cdN (G + 1) c) G = codeN (cdN G (c / 6)) G := by
      refine codeN_congr (fun i hi => ?_)
      unfold cdN
      rw [show G + 1 - 1 - i = (G - 1 - i) + 1 by omega, Nat.pow_succ, Nat.mul_comm, ← Nat.div_div_eq_div_mul]
    rw [e, ih (c / 6) (by rw [Nat.pow_succ] at hc; omega)]
    unfold cdN
    rw [show G + 1 - 1 - G = 0 by omega, Nat.pow_zero, Nat.div_one]
    omega
theorem cntL_congr (e : ∀ j, j ≤ i → L j = L' j) : cntL L i = cntL L' i := by
  unfold cntL
  exact foldN_congr (fun k hk s => by rw [e k (by omega), e i (Nat.le_refl i)])
theorem numN_congr (e : ∀ i, i < G → L i = L' i) : numN L n G = numN L' n G := by
  unfold numN
  exact foldN_congr (fun k hk s => by rw [e k hk, cntL_congr (fun j hj => e j (by omega))])
/-- each way has a number -/
theorem num_V (b : BG n G) (v : VL n G L) : numN L n G < falN n G ∧ (∀ i, i < G → wlN n (falN n G) (numN L n G) i = L i) ∧ (∀ i, i < G → cntL L i ≤ L i) ∧ cwN n G (numN L n G) = codeN L G := by
  have l6 : ∀ i, i < G → L i < 6 := fun i hi => Nat.lt_of_lt_of_le (v.1 i hi) b.2.2
  have hc := codeN_lt l6
  have h := way_B b hc
  have e := cdN_code G l6
  have d : disC n G (cdN G (codeN L G)) = true := disC_iff.mpr (v.congr (fun i hi => (e i hi).symm))
  unfold chkB at h
  rw [d, numN_congr e] at h
  simp only [Bool.and_eq_true, beq_iff_eq, Bool.or_eq_true, Bool.not_eq_true', decide_eq_true_eq] at h
  obtain ⟨h1, h2⟩ := h
  rw [h1] at h2
  obtain ⟨h3, h4⟩ := h2.resolve_left (by decide)
  have V := way_V b h3
  have e2 : ∀ i, i < G → wlN n (falN n G) (numN L n G) i = L i := by
    intro i hi
    rw [← e i hi, ← h4]
    exact (cdN_code G (fun i hi => Nat.lt_of_lt_of_le (V.1.1 i hi) b.2.2) i hi).symm
  refine ⟨h3, e2, fun i hi => ?_, h4⟩
  have := V.2.2.2.1 i hi
  rw [e2 i hi, cntL_congr (L' := L) (fun j hj => e2 j (by omega))] at this
  exact this
theorem okW_iff (b : BG n G) (hc : c < 6 ^ G) : okW n G c = true ↔ VL n G (cdN G c) := by
  have h := way_B b hc
  unfold chkB at h
  simp only [Bool.and_eq_true, beq_iff_eq] at h
  rw [h.1]
  exact disC_iff
theorem okW_w (b : BG n G) (hc : c < 6 ^ G) : okW n G c = true ↔ ∃ w, w < falN n G ∧ cwN n G w = c := by
  rw [okW_iff b hc]
  refine ⟨fun v => ?_, fun ⟨w, hw, e⟩ => ?_⟩
  · have := num_V b v
    rw [code_cd G c hc] at this
    exact ⟨_, this.1, this.2.2.2⟩
  · have V := (way_V b hw).1
    rw [← e]
    exact V.congr (fun i hi => (cdN_code G (fun i hi => Nat.lt_of_lt_of_le (V.1 i hi) b.2.2) i hi).symm)
theorem fold_codes {α : Type} (b : BG n G) (f : Nat → α → α) (z : α) : foldN (fun c s => if okW n G c = true then f c s else s) z (6 ^ G) = foldN (fun w s => f (cwN n G w) s) z (falN n G) := by
  have key : ∀ m, m ≤ 6 ^ G → ∃ k, k ≤ falN n G ∧ (∀ w, w < falN n G → (cwN n G w < m ↔ w < k)) ∧ foldN (fun c s => if okW n G c = true then f c s else s) z m = foldN (fun w s => f (cwN n G w) s) z k := by
    intro m
    induction m with
    | zero => intro _; exact ⟨0, Nat.zero_le _, fun w _ => by omega, rfl⟩
    | succ m ih =>
      intro hm
      obtain ⟨k, hk, h1, h2⟩ := ih (by omega)
      by_cases c1 : okW n G m = true
      · obtain ⟨w, hw, e⟩ := (okW_w b (show m < 6 ^ G by omega)).mp c1
        have wk : w = k := by
          have a1 : ¬ w < k := fun q => by have := (h1 w hw).mpr q; omega
          have a2 : ¬ k < w := fun q => by
            have := cw_lt b q hw
            have := (h1 k (by omega)).mp (by omega)
            omega
          omega
        subst wk
        refine ⟨w + 1, by omega, fun w' hw' => ?_, ?_⟩
        · refine ⟨fun q => ?_, fun q => ?_⟩
          · by_cases c2 : w < w'
            · have := cw_lt b c2 hw'
              omega
            · omega
          · by_cases c2 : w' = w
            · subst c2; omega
            · have := (h1 w' hw').mpr (by omega)
              omega
        · rw [foldN, foldN, h2, if_pos c1, e]
      · refine ⟨k, hk, fun w' hw' => ?_, ?_⟩
        · rw [← h1 w' hw']
          refine ⟨fun q => ?_, fun q => by omega⟩
          by_cases c2 : cwN n G w' = m
          · exact absurd ((okW_w b (show m < 6 ^ G by omega)).mpr ⟨w', hw', c2⟩) c1
          · omega
        · rw [foldN, if_neg c1, h2]
  obtain ⟨k, hk, h1, h2⟩ := key (6 ^ G) (Nat.le_refl _)
  have : k = falN n G := by
    by_cases c1 : k < falN n G
    · have V := (way_V b c1).1
      have := (h1 k c1).mp (codeN_lt (fun i hi => Nat.lt_of_lt_of_le (V.1 i hi) b.2.2))
      omega
    · omega
  rw [h2, this]
end WAYS4
