section XS
variable {L st : List Value} {h : aH} {Q : Option Value → aH → Prop}
theorem mC_181 : mC 181 = cL_law := rfl
theorem x181_0 : X 181 0 L st h Q ↔ X 181 3 L (.ref (hN h) :: st) (nw h 11 (1, 7)) Q := X_new mC_181 dL_law_0 (by decide +kernel)
theorem x181_3 {x : Nat} : X 181 3 L (.ref x :: st) h Q ↔ X 181 4 L (.ref x :: .ref x :: st) h Q := X_n mC_181 dL_law_3 rfl
theorem x181_4 {b : Nat} {w0 : Value} : X 181 4 L [.ref b, w0] h Q ↔ X 80 0 [.ref b, .null] [] h (fun r h' => X 181 7 L (pv r [w0]) h' Q) := X_spec (as := []) (n := 0) (ml := 2) (ck := 7) mC_181 dL_law_4 (by unfold cOk; decide +kernel) ⟨rfl, rfl, by decide, Nat.le_of_ble_eq_true rfl⟩
theorem x181_7 {l0 l1 l2 l3 : Value} {x : Nat} : X 181 7 [l0, l1, l2, l3] (.ref x :: st) h Q ↔ c1 l0 = true ∧ X 181 8 [l0, .ref x, l2, l3] st h Q := X_sto (kk := 1) (pc' := 8) (w := .ref x) mC_181 dL_law_7 rfl (Nat.le_of_ble_eq_true rfl) rfl
theorem x181_8 : X 181 8 L st h Q ↔ X 181 11 L (.ref (hN h) :: st) (nw h 19 (1, 8)) Q := X_new mC_181 dL_law_8 (by decide +kernel)
theorem x181_11 {x : Nat} : X 181 11 L (.ref x :: st) h Q ↔ X 181 12 L (.ref x :: .ref x :: st) h Q := X_n mC_181 dL_law_11 rfl
theorem x181_12 {b : Nat} {w0 : Value} : X 181 12 L [.ref b, w0] h Q ↔ X 119 0 [.ref b] [] h (fun r h' => X 181 15 L (pv r [w0]) h' Q) := X_spec (as := []) (n := 0) (ml := 1) (ck := 8) mC_181 dL_law_12 (by unfold cOk; decide +kernel) ⟨rfl, rfl, by decide, Nat.le_of_ble_eq_true rfl⟩
theorem x181_15 {l0 l1 l2 l3 : Value} {x : Nat} : X 181 15 [l0, l1, l2, l3] (.ref x :: st) h Q ↔ c1 l1 = true ∧ X 181 16 [l0, l1, .ref x, l3] st h Q := X_sto (kk := 2) (pc' := 16) (w := .ref x) mC_181 dL_law_15 rfl (Nat.le_of_ble_eq_true rfl) rfl
theorem x181_16 : X 181 16 L st h Q ↔ X 181 17 L (.int 0 :: st) h Q := X_n mC_181 dL_law_16 rfl
theorem x181_17 {l0 l1 l2 l3 : Value} {x : Int32} : X 181 17 [l0, l1, l2, l3] (.int x :: st) h Q ↔ c1 l2 = true ∧ X 181 18 [l0, l1, l2, .int x] st h Q := X_sto (kk := 3) (pc' := 18) (w := .int x) mC_181 dL_law_17 rfl (Nat.le_of_ble_eq_true rfl) rfl
theorem x181_18 {l0 l1 l2 : Value} {x : Int32} : X 181 18 [l0, l1, l2, .int x] st h Q ↔ X 181 19 [l0, l1, l2, .int x] (.int x :: st) h Q := X_n mC_181 dL_law_18 rfl
theorem x181_19 {l1 l2 l3 : Value} {x : Nat} : X 181 19 [.ref x, l1, l2, l3] st h Q ↔ X 181 20 [.ref x, l1, l2, l3] (.ref x :: st) h Q := X_n mC_181 dL_law_19 rfl
theorem x181_20 {a : Nat} : X 181 20 L (.ref a :: st) h Q ↔ ((hS h a).1 = 2 ∨ (hS h a).1 = 3 ∨ (hS h a).1 = 4) ∧ X 181 21 L (.int (Int32.ofNat (hS h a).2) :: st) h Q := X_alen mC_181 dL_law_20
theorem x181_21 : X 181 21 L st h Q ↔ X 181 22 L (.int 4 :: st) h Q := X_n mC_181 dL_law_21 rfl
theorem x181_22 {x y : Int32} : X 181 22 L (.int y :: .int x :: st) h Q ↔ X 181 23 L (.int (x - y) :: st) h Q := X_n mC_181 dL_law_22 rfl
theorem x181_23 {x y : Int32} : X 181 23 L (.int y :: .int x :: st) h Q ↔ if y < x then X 181 793 L st h Q else X 181 26 L st h Q := X_igt mC_181 dL_law_23 (by decide)
theorem x181_26 {l1 l2 l3 : Value} {x : Nat} : X 181 26 [.ref x, l1, l2, l3] st h Q ↔ X 181 27 [.ref x, l1, l2, l3] (.ref x :: st) h Q := X_n mC_181 dL_law_26 rfl
theorem x181_27 {l0 l1 l2 : Value} {x : Int32} : X 181 27 [l0, l1, l2, .int x] st h Q ↔ X 181 28 [l0, l1, l2, .int x] (.int x :: st) h Q := X_n mC_181 dL_law_27 rfl
theorem x181_28 {j : Int32} {a : Nat} : X 181 28 L (.int j :: .ref a :: st) h Q ↔ ib j (hS h a) ∧ X 181 29 L (.int (hI h a j.toNatClampNeg) :: st) h Q := X_iald mC_181 dL_law_28
theorem x181_29 : X 181 29 L st h Q ↔ X 181 31 L (.int 31 :: st) h Q := X_n mC_181 dL_law_29 rfl
theorem x181_31 {x y : Int32} : X 181 31 L (.int y :: .int x :: st) h Q ↔ X 181 32 L (.int (x &&& y) :: st) h Q := X_n mC_181 dL_law_31 rfl
theorem x181_32 {x : Int32} : X 181 32 L (.int x :: st) h Q ↔ if x = 0 then X 181 156 L st h Q else if x = 1 then X 181 179 L st h Q else if x = 2 then X 181 192 L st h Q else if x = 3 then X 181 205 L st h Q else if x = 4 then X 181 218 L st h Q else if x = 5 then X 181 251 L st h Q else if x = 6 then X 181 274 L st h Q else if x = 7 then X 181 297 L st h Q else if x = 8 then X 181 330 L st h Q else if x = 9 then X 181 353 L st h Q else if x = 10 then X 181 366 L st h Q else if x = 11 then X 181 379 L st h Q else if x = 12 then X 181 402 L st h Q else if x = 13 then X 181 425 L st h Q else if x = 14 then X 181 458 L st h Q else if x = 15 then X 181 481 L st h Q else if x = 16 then X 181 514 L st h Q else if x = 17 then X 181 537 L st h Q else if x = 18 then X 181 580 L st h Q else if x = 19 then X 181 593 L st h Q else if x = 20 then X 181 606 L st h Q else if x = 21 then X 181 629 L st h Q else if x = 22 then X 181 672 L st h Q else if x = 23 then X 181 695 L st h Q else if x = 24 then X 181 738 L st h Q else if x = 25 then X 181 751 L st h Q else if x = 26 then X 181 764 L st h Q else X 181 787 L st h Q := by
  by_cases h0 : x = 0
  · subst h0; simp only [if_true]; exact X_tabIn (off := 124) mC_181 dL_law_32 ⟨by decide, by decide⟩ (by decide)
  rw [if_neg h0]
  by_cases h1 : x = 1
  · subst h1; simp only [if_true]; exact X_tabIn (off := 147) mC_181 dL_law_32 ⟨by decide, by decide⟩ (by decide)
  rw [if_neg h1]
  by_cases h2 : x = 2
  · subst h2; simp only [if_true]; exact X_tabIn (off := 160) mC_181 dL_law_32 ⟨by decide, by decide⟩ (by decide)
  rw [if_neg h2]
  by_cases h3 : x = 3
  · subst h3; simp only [if_true]; exact X_tabIn (off := 173) mC_181 dL_law_32 ⟨by decide, by decide⟩ (by decide)
  rw [if_neg h3]
  by_cases h4 : x = 4
  · subst h4; simp only [if_true]; exact X_tabIn (off := 186) mC_181 dL_law_32 ⟨by decide, by decide⟩ (by decide)
  rw [if_neg h4]
  by_cases h5 : x = 5
  · subst h5; simp only [if_true]; exact X_tabIn (off := 219) mC_181 dL_law_32 ⟨by decide, by decide⟩ (by decide)
  rw [if_neg h5]
  by_cases h6 : x = 6
  · subst h6; simp only [if_true]; exact X_tabIn (off := 242) mC_181 dL_law_32 ⟨by decide, by decide⟩ (by decide)
  rw [if_neg h6]
  by_cases h7 : x = 7
  · subst h7; simp only [if_true]; exact X_tabIn (off := 265) mC_181 dL_law_32 ⟨by decide, by decide⟩ (by decide)
  rw [if_neg h7]
  by_cases h8 : x = 8
  · subst h8; simp only [if_true]; exact X_tabIn (off := 298) mC_181 dL_law_32 ⟨by decide, by decide⟩ (by decide)
  rw [if_neg h8]
  by_cases h9 : x = 9
  · subst h9; simp only [if_true]; exact X_tabIn (off := 321) mC_181 dL_law_32 ⟨by decide, by decide⟩ (by decide)
  rw [if_neg h9]
  by_cases h10 : x = 10
  · subst h10; simp only [if_true]; exact X_tabIn (off := 334) mC_181 dL_law_32 ⟨by decide, by decide⟩ (by decide)
  rw [if_neg h10]
  by_cases h11 : x = 11
  · subst h11; simp only [if_true]; exact X_tabIn (off := 347) mC_181 dL_law_32 ⟨by decide, by decide⟩ (by decide)
  rw [if_neg h11]
  by_cases h12 : x = 12
  · subst h12; simp only [if_true]; exact X_tabIn (off := 370) mC_181 dL_law_32 ⟨by decide, by decide⟩ (by decide)
  rw [if_neg h12]
  by_cases h13 : x = 13
  · subst h13; simp only [if_true]; exact X_tabIn (off := 393) mC_181 dL_law_32 ⟨by decide, by decide⟩ (by decide)
  rw [if_neg h13]
  by_cases h14 : x = 14
  · subst h14; simp only [if_true]; exact X_tabIn (off := 426) mC_181 dL_law_32 ⟨by decide, by decide⟩ (by decide)
  rw [if_neg h14]
  by_cases h15 : x = 15
  · subst h15; simp only [if_true]; exact X_tabIn (off := 449) mC_181 dL_law_32 ⟨by decide, by decide⟩ (by decide)
  rw [if_neg h15]
  by_cases h16 : x = 16
  · subst h16; simp only [if_true]; exact X_tabIn (off := 482) mC_181 dL_law_32 ⟨by decide, by decide⟩ (by decide)
  rw [if_neg h16]
  by_cases h17 : x = 17
  · subst h17; simp only [if_true]; exact X_tabIn (off := 505) mC_181 dL_law_32 ⟨by decide, by decide⟩ (by decide)
  rw [if_neg h17]
  by_cases h18 : x = 18
  · subst h18; simp only [if_true]; exact X_tabIn (off := 548) mC_181 dL_law_32 ⟨by decide, by decide⟩ (by decide)
  rw [if_neg h18]
  by_cases h19 : x = 19
  · subst h19; simp only [if_true]; exact X_tabIn (off := 561) mC_181 dL_law_32 ⟨by decide, by decide⟩ (by decide)
  rw [if_neg h19]
  by_cases h20 : x = 20
  · subst h20; simp only [if_true]; exact X_tabIn (off := 574) mC_181 dL_law_32 ⟨by decide, by decide⟩ (by decide)
  rw [if_neg h20]
  by_cases h21 : x = 21
  · subst h21; simp only [if_true]; exact X_tabIn (off := 597) mC_181 dL_law_32 ⟨by decide, by decide⟩ (by decide)
  rw [if_neg h21]
  by_cases h22 : x = 22
  · subst h22; simp only [if_true]; exact X_tabIn (off := 640) mC_181 dL_law_32 ⟨by decide, by decide⟩ (by decide)
  rw [if_neg h22]
  by_cases h23 : x = 23
  · subst h23; simp only [if_true]; exact X_tabIn (off := 663) mC_181 dL_law_32 ⟨by decide, by decide⟩ (by decide)
  rw [if_neg h23]
  by_cases h24 : x = 24
  · subst h24; simp only [if_true]; exact X_tabIn (off := 706) mC_181 dL_law_32 ⟨by decide, by decide⟩ (by decide)
  rw [if_neg h24]
  by_cases h25 : x = 25
  · subst h25; simp only [if_true]; exact X_tabIn (off := 719) mC_181 dL_law_32 ⟨by decide, by decide⟩ (by decide)
  rw [if_neg h25]
  by_cases h26 : x = 26
  · subst h26; simp only [if_true]; exact X_tabIn (off := 732) mC_181 dL_law_32 ⟨by decide, by decide⟩ (by decide)
  rw [if_neg h26]
  have q0 := toInt_ne h0
  rw [show (0 : Int32).toInt = 0 by decide] at q0
  have q1 := toInt_ne h1
  rw [show (1 : Int32).toInt = 1 by decide] at q1
  have q2 := toInt_ne h2
  rw [show (2 : Int32).toInt = 2 by decide] at q2
  have q3 := toInt_ne h3
  rw [show (3 : Int32).toInt = 3 by decide] at q3
  have q4 := toInt_ne h4
  rw [show (4 : Int32).toInt = 4 by decide] at q4
  have q5 := toInt_ne h5
  rw [show (5 : Int32).toInt = 5 by decide] at q5
  have q6 := toInt_ne h6
  rw [show (6 : Int32).toInt = 6 by decide] at q6
  have q7 := toInt_ne h7
  rw [show (7 : Int32).toInt = 7 by decide] at q7
  have q8 := toInt_ne h8
  rw [show (8 : Int32).toInt = 8 by decide] at q8
  have q9 := toInt_ne h9
  rw [show (9 : Int32).toInt = 9 by decide] at q9
  have q10 := toInt_ne h10
  rw [show (10 : Int32).toInt = 10 by decide] at q10
  have q11 := toInt_ne h11
  rw [show (11 : Int32).toInt = 11 by decide] at q11
  have q12 := toInt_ne h12
  rw [show (12 : Int32).toInt = 12 by decide] at q12
  have q13 := toInt_ne h13
  rw [show (13 : Int32).toInt = 13 by decide] at q13
  have q14 := toInt_ne h14
  rw [show (14 : Int32).toInt = 14 by decide] at q14
  have q15 := toInt_ne h15
  rw [show (15 : Int32).toInt = 15 by decide] at q15
  have q16 := toInt_ne h16
  rw [show (16 : Int32).toInt = 16 by decide] at q16
  have q17 := toInt_ne h17
  rw [show (17 : Int32).toInt = 17 by decide] at q17
  have q18 := toInt_ne h18
  rw [show (18 : Int32).toInt = 18 by decide] at q18
  have q19 := toInt_ne h19
  rw [show (19 : Int32).toInt = 19 by decide] at q19
  have q20 := toInt_ne h20
  rw [show (20 : Int32).toInt = 20 by decide] at q20
  have q21 := toInt_ne h21
  rw [show (21 : Int32).toInt = 21 by decide] at q21
  have q22 := toInt_ne h22
  rw [show (22 : Int32).toInt = 22 by decide] at q22
  have q23 := toInt_ne h23
  rw [show (23 : Int32).toInt = 23 by decide] at q23
  have q24 := toInt_ne h24
  rw [show (24 : Int32).toInt = 24 by decide] at q24
  have q25 := toInt_ne h25
  rw [show (25 : Int32).toInt = 25 by decide] at q25
  have q26 := toInt_ne h26
  rw [show (26 : Int32).toInt = 26 by decide] at q26
  exact X_tabOut mC_181 dL_law_32 (by omega) (by decide)
theorem x181_156 {l0 l2 l3 : Value} {x : Nat} : X 181 156 [l0, .ref x, l2, l3] st h Q ↔ X 181 157 [l0, .ref x, l2, l3] (.ref x :: st) h Q := X_n mC_181 dL_law_156 rfl
theorem x181_157 {l1 l2 l3 : Value} {x : Nat} : X 181 157 [.ref x, l1, l2, l3] st h Q ↔ X 181 158 [.ref x, l1, l2, l3] (.ref x :: st) h Q := X_n mC_181 dL_law_157 rfl
theorem x181_158 {l0 l1 l2 : Value} {x : Int32} : X 181 158 [l0, l1, l2, .int x] st h Q ↔ X 181 159 [l0, l1, l2, .int x] (.int x :: st) h Q := X_n mC_181 dL_law_158 rfl
theorem x181_159 : X 181 159 L st h Q ↔ X 181 160 L (.int 1 :: st) h Q := X_n mC_181 dL_law_159 rfl
theorem x181_160 {x y : Int32} : X 181 160 L (.int y :: .int x :: st) h Q ↔ X 181 161 L (.int (x + y) :: st) h Q := X_n mC_181 dL_law_160 rfl
theorem x181_161 {j : Int32} {a : Nat} : X 181 161 L (.int j :: .ref a :: st) h Q ↔ ib j (hS h a) ∧ X 181 162 L (.int (hI h a j.toNatClampNeg) :: st) h Q := X_iald mC_181 dL_law_161
theorem x181_162 {b : Nat} {a0 : Int32} : X 181 162 L [.int a0, .ref b] h Q ↔ hS h b = (1, 7) ∧ X 81 0 [.ref b, .int a0] [] h (fun r h' => X 181 165 L (pv r []) h' Q) := X_virt (as := [.int a0]) (n := 1) (ml := 2) (ck := 7) mC_181 dL_law_162 (by unfold cOk; decide +kernel) ⟨rfl, rfl, by decide, Nat.le_of_ble_eq_true rfl⟩
theorem x181_165 {l0 l1 l3 : Value} {x : Nat} : X 181 165 [l0, l1, .ref x, l3] st h Q ↔ X 181 166 [l0, l1, .ref x, l3] (.ref x :: st) h Q := X_n mC_181 dL_law_165 rfl
theorem x181_166 {l1 l2 l3 : Value} {x : Nat} : X 181 166 [.ref x, l1, l2, l3] st h Q ↔ X 181 167 [.ref x, l1, l2, l3] (.ref x :: st) h Q := X_n mC_181 dL_law_166 rfl
theorem x181_167 {l0 l1 l2 : Value} {x : Int32} : X 181 167 [l0, l1, l2, .int x] st h Q ↔ X 181 168 [l0, l1, l2, .int x] (.int x :: st) h Q := X_n mC_181 dL_law_167 rfl
theorem x181_168 : X 181 168 L st h Q ↔ X 181 169 L (.int 1 :: st) h Q := X_n mC_181 dL_law_168 rfl
theorem x181_169 {x y : Int32} : X 181 169 L (.int y :: .int x :: st) h Q ↔ X 181 170 L (.int (x + y) :: st) h Q := X_n mC_181 dL_law_169 rfl
theorem x181_170 {j : Int32} {a : Nat} : X 181 170 L (.int j :: .ref a :: st) h Q ↔ ib j (hS h a) ∧ X 181 171 L (.int (hI h a j.toNatClampNeg) :: st) h Q := X_iald mC_181 dL_law_170
theorem x181_171 {b : Nat} {a0 : Int32} {w0 : Value} : X 181 171 L [.int a0, .ref b, w0] h Q ↔ hS h b = (1, 8) ∧ X 125 0 [.ref b, .int a0] [] h (fun r h' => X 181 174 L (pv r [w0]) h' Q) := X_virt (as := [.int a0]) (n := 1) (ml := 2) (ck := 8) mC_181 dL_law_171 (by unfold cOk; decide +kernel) ⟨rfl, rfl, by decide, Nat.le_of_ble_eq_true rfl⟩
theorem x181_174 {x y : Int32} : X 181 174 L (.int y :: .int x :: st) h Q ↔ if x = y then X 181 787 L st h Q else X 181 177 L st h Q := X_ieq mC_181 dL_law_174 (by decide)
theorem x181_177 : X 181 177 L st h Q ↔ X 181 178 L (.int 0 :: st) h Q := X_n mC_181 dL_law_177 rfl
theorem x181_178 {v : Int32} : X 181 178 L [.int v] h Q ↔ (v = 0 ∨ v = 1) ∧ Q (some (.int v)) h := X_retZ mC_181 dL_law_178 (by decide +kernel)
theorem x181_179 {l0 l2 l3 : Value} {x : Nat} : X 181 179 [l0, .ref x, l2, l3] st h Q ↔ X 181 180 [l0, .ref x, l2, l3] (.ref x :: st) h Q := X_n mC_181 dL_law_179 rfl
theorem x181_180 {b : Nat} : X 181 180 L [.ref b] h Q ↔ hS h b = (1, 7) ∧ X 82 0 [.ref b, .null] [] h (fun r h' => X 181 183 L (pv r []) h' Q) := X_virt (as := []) (n := 0) (ml := 2) (ck := 7) mC_181 dL_law_180 (by unfold cOk; decide +kernel) ⟨rfl, rfl, by decide, Nat.le_of_ble_eq_true rfl⟩
theorem x181_183 {l0 l1 l3 : Value} {x : Nat} : X 181 183 [l0, l1, .ref x, l3] st h Q ↔ X 181 184 [l0, l1, .ref x, l3] (.ref x :: st) h Q := X_n mC_181 dL_law_183 rfl
theorem x181_184 {b : Nat} {w0 : Value} : X 181 184 L [.ref b, w0] h Q ↔ hS h b = (1, 8) ∧ X 126 0 [.ref b, .null] [] h (fun r h' => X 181 187 L (pv r [w0]) h' Q) := X_virt (as := []) (n := 0) (ml := 2) (ck := 8) mC_181 dL_law_184 (by unfold cOk; decide +kernel) ⟨rfl, rfl, by decide, Nat.le_of_ble_eq_true rfl⟩
theorem x181_187 {x y : Int32} : X 181 187 L (.int y :: .int x :: st) h Q ↔ if x = y then X 181 787 L st h Q else X 181 190 L st h Q := X_ieq mC_181 dL_law_187 (by decide)
theorem x181_190 : X 181 190 L st h Q ↔ X 181 191 L (.int 0 :: st) h Q := X_n mC_181 dL_law_190 rfl
theorem x181_191 {v : Int32} : X 181 191 L [.int v] h Q ↔ (v = 0 ∨ v = 1) ∧ Q (some (.int v)) h := X_retZ mC_181 dL_law_191 (by decide +kernel)
theorem x181_192 {l0 l2 l3 : Value} {x : Nat} : X 181 192 [l0, .ref x, l2, l3] st h Q ↔ X 181 193 [l0, .ref x, l2, l3] (.ref x :: st) h Q := X_n mC_181 dL_law_192 rfl
theorem x181_193 {b : Nat} : X 181 193 L [.ref b] h Q ↔ hS h b = (1, 7) ∧ X 83 0 [.ref b] [] h (fun r h' => X 181 196 L (pv r []) h' Q) := X_virt (as := []) (n := 0) (ml := 1) (ck := 7) mC_181 dL_law_193 (by unfold cOk; decide +kernel) ⟨rfl, rfl, by decide, Nat.le_of_ble_eq_true rfl⟩
theorem x181_196 {l0 l1 l3 : Value} {x : Nat} : X 181 196 [l0, l1, .ref x, l3] st h Q ↔ X 181 197 [l0, l1, .ref x, l3] (.ref x :: st) h Q := X_n mC_181 dL_law_196 rfl
theorem x181_197 {b : Nat} {w0 : Value} : X 181 197 L [.ref b, w0] h Q ↔ hS h b = (1, 8) ∧ X 135 0 [.ref b] [] h (fun r h' => X 181 200 L (pv r [w0]) h' Q) := X_virt (as := []) (n := 0) (ml := 1) (ck := 8) mC_181 dL_law_197 (by unfold cOk; decide +kernel) ⟨rfl, rfl, by decide, Nat.le_of_ble_eq_true rfl⟩
theorem x181_200 {x y : Int32} : X 181 200 L (.int y :: .int x :: st) h Q ↔ if x = y then X 181 787 L st h Q else X 181 203 L st h Q := X_ieq mC_181 dL_law_200 (by decide)
theorem x181_203 : X 181 203 L st h Q ↔ X 181 204 L (.int 0 :: st) h Q := X_n mC_181 dL_law_203 rfl
theorem x181_204 {v : Int32} : X 181 204 L [.int v] h Q ↔ (v = 0 ∨ v = 1) ∧ Q (some (.int v)) h := X_retZ mC_181 dL_law_204 (by decide +kernel)
theorem x181_205 {l0 l2 l3 : Value} {x : Nat} : X 181 205 [l0, .ref x, l2, l3] st h Q ↔ X 181 206 [l0, .ref x, l2, l3] (.ref x :: st) h Q := X_n mC_181 dL_law_205 rfl
theorem x181_206 {b : Nat} : X 181 206 L [.ref b] h Q ↔ hS h b = (1, 7) ∧ X 84 0 [.ref b] [] h (fun r h' => X 181 209 L (pv r []) h' Q) := X_virt (as := []) (n := 0) (ml := 1) (ck := 7) mC_181 dL_law_206 (by unfold cOk; decide +kernel) ⟨rfl, rfl, by decide, Nat.le_of_ble_eq_true rfl⟩
theorem x181_209 {l0 l1 l3 : Value} {x : Nat} : X 181 209 [l0, l1, .ref x, l3] st h Q ↔ X 181 210 [l0, l1, .ref x, l3] (.ref x :: st) h Q := X_n mC_181 dL_law_209 rfl
theorem x181_210 {b : Nat} {w0 : Value} : X 181 210 L [.ref b, w0] h Q ↔ hS h b = (1, 8) ∧ X 137 0 [.ref b] [] h (fun r h' => X 181 213 L (pv r [w0]) h' Q) := X_virt (as := []) (n := 0) (ml := 1) (ck := 8) mC_181 dL_law_210 (by unfold cOk; decide +kernel) ⟨rfl, rfl, by decide, Nat.le_of_ble_eq_true rfl⟩
theorem x181_213 {x y : Int32} : X 181 213 L (.int y :: .int x :: st) h Q ↔ if x = y then X 181 787 L st h Q else X 181 216 L st h Q := X_ieq mC_181 dL_law_213 (by decide)
theorem x181_216 : X 181 216 L st h Q ↔ X 181 217 L (.int 0 :: st) h Q := X_n mC_181 dL_law_216 rfl
theorem x181_217 {v : Int32} : X 181 217 L [.int v] h Q ↔ (v = 0 ∨ v = 1) ∧ Q (some (.int v)) h := X_retZ mC_181 dL_law_217 (by decide +kernel)
theorem x181_218 {l0 l2 l3 : Value} {x : Nat} : X 181 218 [l0, .ref x, l2, l3] st h Q ↔ X 181 219 [l0, .ref x, l2, l3] (.ref x :: st) h Q := X_n mC_181 dL_law_218 rfl
theorem x181_219 {l1 l2 l3 : Value} {x : Nat} : X 181 219 [.ref x, l1, l2, l3] st h Q ↔ X 181 220 [.ref x, l1, l2, l3] (.ref x :: st) h Q := X_n mC_181 dL_law_219 rfl
theorem x181_220 {l0 l1 l2 : Value} {x : Int32} : X 181 220 [l0, l1, l2, .int x] st h Q ↔ X 181 221 [l0, l1, l2, .int x] (.int x :: st) h Q := X_n mC_181 dL_law_220 rfl
theorem x181_221 : X 181 221 L st h Q ↔ X 181 222 L (.int 1 :: st) h Q := X_n mC_181 dL_law_221 rfl
theorem x181_222 {x y : Int32} : X 181 222 L (.int y :: .int x :: st) h Q ↔ X 181 223 L (.int (x + y) :: st) h Q := X_n mC_181 dL_law_222 rfl
theorem x181_223 {j : Int32} {a : Nat} : X 181 223 L (.int j :: .ref a :: st) h Q ↔ ib j (hS h a) ∧ X 181 224 L (.int (hI h a j.toNatClampNeg) :: st) h Q := X_iald mC_181 dL_law_223
theorem x181_224 {l1 l2 l3 : Value} {x : Nat} : X 181 224 [.ref x, l1, l2, l3] st h Q ↔ X 181 225 [.ref x, l1, l2, l3] (.ref x :: st) h Q := X_n mC_181 dL_law_224 rfl
theorem x181_225 {l0 l1 l2 : Value} {x : Int32} : X 181 225 [l0, l1, l2, .int x] st h Q ↔ X 181 226 [l0, l1, l2, .int x] (.int x :: st) h Q := X_n mC_181 dL_law_225 rfl
theorem x181_226 : X 181 226 L st h Q ↔ X 181 227 L (.int 2 :: st) h Q := X_n mC_181 dL_law_226 rfl
theorem x181_227 {x y : Int32} : X 181 227 L (.int y :: .int x :: st) h Q ↔ X 181 228 L (.int (x + y) :: st) h Q := X_n mC_181 dL_law_227 rfl
theorem x181_228 {j : Int32} {a : Nat} : X 181 228 L (.int j :: .ref a :: st) h Q ↔ ib j (hS h a) ∧ X 181 229 L (.int (hI h a j.toNatClampNeg) :: st) h Q := X_iald mC_181 dL_law_228
theorem x181_229 {b : Nat} {a0 : Int32} {a1 : Int32} : X 181 229 L [.int a1, .int a0, .ref b] h Q ↔ hS h b = (1, 7) ∧ X 85 0 [.ref b, .int a0, .int a1] [] h (fun r h' => X 181 232 L (pv r []) h' Q) := X_virt (as := [.int a0, .int a1]) (n := 2) (ml := 3) (ck := 7) mC_181 dL_law_229 (by unfold cOk; decide +kernel) ⟨rfl, rfl, by decide, Nat.le_of_ble_eq_true rfl⟩
theorem x181_232 {l0 l1 l3 : Value} {x : Nat} : X 181 232 [l0, l1, .ref x, l3] st h Q ↔ X 181 233 [l0, l1, .ref x, l3] (.ref x :: st) h Q := X_n mC_181 dL_law_232 rfl
theorem x181_233 {l1 l2 l3 : Value} {x : Nat} : X 181 233 [.ref x, l1, l2, l3] st h Q ↔ X 181 234 [.ref x, l1, l2, l3] (.ref x :: st) h Q := X_n mC_181 dL_law_233 rfl
theorem x181_234 {l0 l1 l2 : Value} {x : Int32} : X 181 234 [l0, l1, l2, .int x] st h Q ↔ X 181 235 [l0, l1, l2, .int x] (.int x :: st) h Q := X_n mC_181 dL_law_234 rfl
theorem x181_235 : X 181 235 L st h Q ↔ X 181 236 L (.int 1 :: st) h Q := X_n mC_181 dL_law_235 rfl
theorem x181_236 {x y : Int32} : X 181 236 L (.int y :: .int x :: st) h Q ↔ X 181 237 L (.int (x + y) :: st) h Q := X_n mC_181 dL_law_236 rfl
theorem x181_237 {j : Int32} {a : Nat} : X 181 237 L (.int j :: .ref a :: st) h Q ↔ ib j (hS h a) ∧ X 181 238 L (.int (hI h a j.toNatClampNeg) :: st) h Q := X_iald mC_181 dL_law_237
theorem x181_238 {l1 l2 l3 : Value} {x : Nat} : X 181 238 [.ref x, l1, l2, l3] st h Q ↔ X 181 239 [.ref x, l1, l2, l3] (.ref x :: st) h Q := X_n mC_181 dL_law_238 rfl
theorem x181_239 {l0 l1 l2 : Value} {x : Int32} : X 181 239 [l0, l1, l2, .int x] st h Q ↔ X 181 240 [l0, l1, l2, .int x] (.int x :: st) h Q := X_n mC_181 dL_law_239 rfl
theorem x181_240 : X 181 240 L st h Q ↔ X 181 241 L (.int 2 :: st) h Q := X_n mC_181 dL_law_240 rfl
theorem x181_241 {x y : Int32} : X 181 241 L (.int y :: .int x :: st) h Q ↔ X 181 242 L (.int (x + y) :: st) h Q := X_n mC_181 dL_law_241 rfl
theorem x181_242 {j : Int32} {a : Nat} : X 181 242 L (.int j :: .ref a :: st) h Q ↔ ib j (hS h a) ∧ X 181 243 L (.int (hI h a j.toNatClampNeg) :: st) h Q := X_iald mC_181 dL_law_242
theorem x181_243 {b : Nat} {a0 : Int32} {a1 : Int32} {w0 : Value} : X 181 243 L [.int a1, .int a0, .ref b, w0] h Q ↔ hS h b = (1, 8) ∧ X 144 0 [.ref b, .int a0, .int a1] [] h (fun r h' => X 181 246 L (pv r [w0]) h' Q) := X_virt (as := [.int a0, .int a1]) (n := 2) (ml := 3) (ck := 8) mC_181 dL_law_243 (by unfold cOk; decide +kernel) ⟨rfl, rfl, by decide, Nat.le_of_ble_eq_true rfl⟩
theorem x181_246 {x y : Int32} : X 181 246 L (.int y :: .int x :: st) h Q ↔ if x = y then X 181 787 L st h Q else X 181 249 L st h Q := X_ieq mC_181 dL_law_246 (by decide)
theorem x181_249 : X 181 249 L st h Q ↔ X 181 250 L (.int 0 :: st) h Q := X_n mC_181 dL_law_249 rfl
theorem x181_250 {v : Int32} : X 181 250 L [.int v] h Q ↔ (v = 0 ∨ v = 1) ∧ Q (some (.int v)) h := X_retZ mC_181 dL_law_250 (by decide +kernel)
theorem x181_251 {l0 l2 l3 : Value} {x : Nat} : X 181 251 [l0, .ref x, l2, l3] st h Q ↔ X 181 252 [l0, .ref x, l2, l3] (.ref x :: st) h Q := X_n mC_181 dL_law_251 rfl
theorem x181_252 {l1 l2 l3 : Value} {x : Nat} : X 181 252 [.ref x, l1, l2, l3] st h Q ↔ X 181 253 [.ref x, l1, l2, l3] (.ref x :: st) h Q := X_n mC_181 dL_law_252 rfl
theorem x181_253 {l0 l1 l2 : Value} {x : Int32} : X 181 253 [l0, l1, l2, .int x] st h Q ↔ X 181 254 [l0, l1, l2, .int x] (.int x :: st) h Q := X_n mC_181 dL_law_253 rfl
theorem x181_254 : X 181 254 L st h Q ↔ X 181 255 L (.int 1 :: st) h Q := X_n mC_181 dL_law_254 rfl
theorem x181_255 {x y : Int32} : X 181 255 L (.int y :: .int x :: st) h Q ↔ X 181 256 L (.int (x + y) :: st) h Q := X_n mC_181 dL_law_255 rfl
theorem x181_256 {j : Int32} {a : Nat} : X 181 256 L (.int j :: .ref a :: st) h Q ↔ ib j (hS h a) ∧ X 181 257 L (.int (hI h a j.toNatClampNeg) :: st) h Q := X_iald mC_181 dL_law_256
theorem x181_257 {b : Nat} {a0 : Int32} : X 181 257 L [.int a0, .ref b] h Q ↔ hS h b = (1, 7) ∧ X 86 0 [.ref b, .int a0] [] h (fun r h' => X 181 260 L (pv r []) h' Q) := X_virt (as := [.int a0]) (n := 1) (ml := 2) (ck := 7) mC_181 dL_law_257 (by unfold cOk; decide +kernel) ⟨rfl, rfl, by decide, Nat.le_of_ble_eq_true rfl⟩
theorem x181_260 {l0 l1 l3 : Value} {x : Nat} : X 181 260 [l0, l1, .ref x, l3] st h Q ↔ X 181 261 [l0, l1, .ref x, l3] (.ref x :: st) h Q := X_n mC_181 dL_law_260 rfl
theorem x181_261 {l1 l2 l3 : Value} {x : Nat} : X 181 261 [.ref x, l1, l2, l3] st h Q ↔ X 181 262 [.ref x, l1, l2, l3] (.ref x :: st) h Q := X_n mC_181 dL_law_261 rfl
theorem x181_262 {l0 l1 l2 : Value} {x : Int32} : X 181 262 [l0, l1, l2, .int x] st h Q ↔ X 181 263 [l0, l1, l2, .int x] (.int x :: st) h Q := X_n mC_181 dL_law_262 rfl
theorem x181_263 : X 181 263 L st h Q ↔ X 181 264 L (.int 1 :: st) h Q := X_n mC_181 dL_law_263 rfl
theorem x181_264 {x y : Int32} : X 181 264 L (.int y :: .int x :: st) h Q ↔ X 181 265 L (.int (x + y) :: st) h Q := X_n mC_181 dL_law_264 rfl
theorem x181_265 {j : Int32} {a : Nat} : X 181 265 L (.int j :: .ref a :: st) h Q ↔ ib j (hS h a) ∧ X 181 266 L (.int (hI h a j.toNatClampNeg) :: st) h Q := X_iald mC_181 dL_law_265
theorem x181_266 {b : Nat} {a0 : Int32} {w0 : Value} : X 181 266 L [.int a0, .ref b, w0] h Q ↔ hS h b = (1, 8) ∧ X 146 0 [.ref b, .int a0] [] h (fun r h' => X 181 269 L (pv r [w0]) h' Q) := X_virt (as := [.int a0]) (n := 1) (ml := 2) (ck := 8) mC_181 dL_law_266 (by unfold cOk; decide +kernel) ⟨rfl, rfl, by decide, Nat.le_of_ble_eq_true rfl⟩
theorem x181_269 {x y : Int32} : X 181 269 L (.int y :: .int x :: st) h Q ↔ if x = y then X 181 787 L st h Q else X 181 272 L st h Q := X_ieq mC_181 dL_law_269 (by decide)
theorem x181_272 : X 181 272 L st h Q ↔ X 181 273 L (.int 0 :: st) h Q := X_n mC_181 dL_law_272 rfl
theorem x181_273 {v : Int32} : X 181 273 L [.int v] h Q ↔ (v = 0 ∨ v = 1) ∧ Q (some (.int v)) h := X_retZ mC_181 dL_law_273 (by decide +kernel)
theorem x181_274 {l0 l2 l3 : Value} {x : Nat} : X 181 274 [l0, .ref x, l2, l3] st h Q ↔ X 181 275 [l0, .ref x, l2, l3] (.ref x :: st) h Q := X_n mC_181 dL_law_274 rfl
theorem x181_275 {l1 l2 l3 : Value} {x : Nat} : X 181 275 [.ref x, l1, l2, l3] st h Q ↔ X 181 276 [.ref x, l1, l2, l3] (.ref x :: st) h Q := X_n mC_181 dL_law_275 rfl
theorem x181_276 {l0 l1 l2 : Value} {x : Int32} : X 181 276 [l0, l1, l2, .int x] st h Q ↔ X 181 277 [l0, l1, l2, .int x] (.int x :: st) h Q := X_n mC_181 dL_law_276 rfl
theorem x181_277 : X 181 277 L st h Q ↔ X 181 278 L (.int 1 :: st) h Q := X_n mC_181 dL_law_277 rfl
theorem x181_278 {x y : Int32} : X 181 278 L (.int y :: .int x :: st) h Q ↔ X 181 279 L (.int (x + y) :: st) h Q := X_n mC_181 dL_law_278 rfl
theorem x181_279 {j : Int32} {a : Nat} : X 181 279 L (.int j :: .ref a :: st) h Q ↔ ib j (hS h a) ∧ X 181 280 L (.int (hI h a j.toNatClampNeg) :: st) h Q := X_iald mC_181 dL_law_279
theorem x181_280 {b : Nat} {a0 : Int32} : X 181 280 L [.int a0, .ref b] h Q ↔ hS h b = (1, 7) ∧ X 87 0 [.ref b, .int a0] [] h (fun r h' => X 181 283 L (pv r []) h' Q) := X_virt (as := [.int a0]) (n := 1) (ml := 2) (ck := 7) mC_181 dL_law_280 (by unfold cOk; decide +kernel) ⟨rfl, rfl, by decide, Nat.le_of_ble_eq_true rfl⟩
theorem x181_283 {l0 l1 l3 : Value} {x : Nat} : X 181 283 [l0, l1, .ref x, l3] st h Q ↔ X 181 284 [l0, l1, .ref x, l3] (.ref x :: st) h Q := X_n mC_181 dL_law_283 rfl
theorem x181_284 {l1 l2 l3 : Value} {x : Nat} : X 181 284 [.ref x, l1, l2, l3] st h Q ↔ X 181 285 [.ref x, l1, l2, l3] (.ref x :: st) h Q := X_n mC_181 dL_law_284 rfl
theorem x181_285 {l0 l1 l2 : Value} {x : Int32} : X 181 285 [l0, l1, l2, .int x] st h Q ↔ X 181 286 [l0, l1, l2, .int x] (.int x :: st) h Q := X_n mC_181 dL_law_285 rfl
theorem x181_286 : X 181 286 L st h Q ↔ X 181 287 L (.int 1 :: st) h Q := X_n mC_181 dL_law_286 rfl
theorem x181_287 {x y : Int32} : X 181 287 L (.int y :: .int x :: st) h Q ↔ X 181 288 L (.int (x + y) :: st) h Q := X_n mC_181 dL_law_287 rfl
theorem x181_288 {j : Int32} {a : Nat} : X 181 288 L (.int j :: .ref a :: st) h Q ↔ ib j (hS h a) ∧ X 181 289 L (.int (hI h a j.toNatClampNeg) :: st) h Q := X_iald mC_181 dL_law_288
theorem x181_289 {b : Nat} {a0 : Int32} {w0 : Value} : X 181 289 L [.int a0, .ref b, w0] h Q ↔ hS h b = (1, 8) ∧ X 147 0 [.ref b, .int a0] [] h (fun r h' => X 181 292 L (pv r [w0]) h' Q) := X_virt (as := [.int a0]) (n := 1) (ml := 2) (ck := 8) mC_181 dL_law_289 (by unfold cOk; decide +kernel) ⟨rfl, rfl, by decide, Nat.le_of_ble_eq_true rfl⟩
theorem x181_292 {x y : Int32} : X 181 292 L (.int y :: .int x :: st) h Q ↔ if x = y then X 181 787 L st h Q else X 181 295 L st h Q := X_ieq mC_181 dL_law_292 (by decide)
theorem x181_295 : X 181 295 L st h Q ↔ X 181 296 L (.int 0 :: st) h Q := X_n mC_181 dL_law_295 rfl
theorem x181_296 {v : Int32} : X 181 296 L [.int v] h Q ↔ (v = 0 ∨ v = 1) ∧ Q (some (.int v)) h := X_retZ mC_181 dL_law_296 (by decide +kernel)
theorem x181_297 {l0 l2 l3 : Value} {x : Nat} : X 181 297 [l0, .ref x, l2, l3] st h Q ↔ X 181 298 [l0, .ref x, l2, l3] (.ref x :: st) h Q := X_n mC_181 dL_law_297 rfl
theorem x181_298 {l1 l2 l3 : Value} {x : Nat} : X 181 298 [.ref x, l1, l2, l3] st h Q ↔ X 181 299 [.ref x, l1, l2, l3] (.ref x :: st) h Q := X_n mC_181 dL_law_298 rfl
theorem x181_299 {l0 l1 l2 : Value} {x : Int32} : X 181 299 [l0, l1, l2, .int x] st h Q ↔ X 181 300 [l0, l1, l2, .int x] (.int x :: st) h Q := X_n mC_181 dL_law_299 rfl
theorem x181_300 : X 181 300 L st h Q ↔ X 181 301 L (.int 1 :: st) h Q := X_n mC_181 dL_law_300 rfl
theorem x181_301 {x y : Int32} : X 181 301 L (.int y :: .int x :: st) h Q ↔ X 181 302 L (.int (x + y) :: st) h Q := X_n mC_181 dL_law_301 rfl
theorem x181_302 {j : Int32} {a : Nat} : X 181 302 L (.int j :: .ref a :: st) h Q ↔ ib j (hS h a) ∧ X 181 303 L (.int (hI h a j.toNatClampNeg) :: st) h Q := X_iald mC_181 dL_law_302
theorem x181_303 {l1 l2 l3 : Value} {x : Nat} : X 181 303 [.ref x, l1, l2, l3] st h Q ↔ X 181 304 [.ref x, l1, l2, l3] (.ref x :: st) h Q := X_n mC_181 dL_law_303 rfl
theorem x181_304 {l0 l1 l2 : Value} {x : Int32} : X 181 304 [l0, l1, l2, .int x] st h Q ↔ X 181 305 [l0, l1, l2, .int x] (.int x :: st) h Q := X_n mC_181 dL_law_304 rfl
theorem x181_305 : X 181 305 L st h Q ↔ X 181 306 L (.int 2 :: st) h Q := X_n mC_181 dL_law_305 rfl
theorem x181_306 {x y : Int32} : X 181 306 L (.int y :: .int x :: st) h Q ↔ X 181 307 L (.int (x + y) :: st) h Q := X_n mC_181 dL_law_306 rfl
theorem x181_307 {j : Int32} {a : Nat} : X 181 307 L (.int j :: .ref a :: st) h Q ↔ ib j (hS h a) ∧ X 181 308 L (.int (hI h a j.toNatClampNeg) :: st) h Q := X_iald mC_181 dL_law_307
theorem x181_308 {b : Nat} {a0 : Int32} {a1 : Int32} : X 181 308 L [.int a1, .int a0, .ref b] h Q ↔ hS h b = (1, 7) ∧ X 88 0 [.ref b, .int a0, .int a1] [] h (fun r h' => X 181 311 L (pv r []) h' Q) := X_virt (as := [.int a0, .int a1]) (n := 2) (ml := 3) (ck := 7) mC_181 dL_law_308 (by unfold cOk; decide +kernel) ⟨rfl, rfl, by decide, Nat.le_of_ble_eq_true rfl⟩
theorem x181_311 {l0 l1 l3 : Value} {x : Nat} : X 181 311 [l0, l1, .ref x, l3] st h Q ↔ X 181 312 [l0, l1, .ref x, l3] (.ref x :: st) h Q := X_n mC_181 dL_law_311 rfl
theorem x181_312 {l1 l2 l3 : Value} {x : Nat} : X 181 312 [.ref x, l1, l2, l3] st h Q ↔ X 181 313 [.ref x, l1, l2, l3] (.ref x :: st) h Q := X_n mC_181 dL_law_312 rfl
theorem x181_313 {l0 l1 l2 : Value} {x : Int32} : X 181 313 [l0, l1, l2, .int x] st h Q ↔ X 181 314 [l0, l1, l2, .int x] (.int x :: st) h Q := X_n mC_181 dL_law_313 rfl
theorem x181_314 : X 181 314 L st h Q ↔ X 181 315 L (.int 1 :: st) h Q := X_n mC_181 dL_law_314 rfl
theorem x181_315 {x y : Int32} : X 181 315 L (.int y :: .int x :: st) h Q ↔ X 181 316 L (.int (x + y) :: st) h Q := X_n mC_181 dL_law_315 rfl
theorem x181_316 {j : Int32} {a : Nat} : X 181 316 L (.int j :: .ref a :: st) h Q ↔ ib j (hS h a) ∧ X 181 317 L (.int (hI h a j.toNatClampNeg) :: st) h Q := X_iald mC_181 dL_law_316
theorem x181_317 {l1 l2 l3 : Value} {x : Nat} : X 181 317 [.ref x, l1, l2, l3] st h Q ↔ X 181 318 [.ref x, l1, l2, l3] (.ref x :: st) h Q := X_n mC_181 dL_law_317 rfl
theorem x181_318 {l0 l1 l2 : Value} {x : Int32} : X 181 318 [l0, l1, l2, .int x] st h Q ↔ X 181 319 [l0, l1, l2, .int x] (.int x :: st) h Q := X_n mC_181 dL_law_318 rfl
theorem x181_319 : X 181 319 L st h Q ↔ X 181 320 L (.int 2 :: st) h Q := X_n mC_181 dL_law_319 rfl
theorem x181_320 {x y : Int32} : X 181 320 L (.int y :: .int x :: st) h Q ↔ X 181 321 L (.int (x + y) :: st) h Q := X_n mC_181 dL_law_320 rfl
theorem x181_321 {j : Int32} {a : Nat} : X 181 321 L (.int j :: .ref a :: st) h Q ↔ ib j (hS h a) ∧ X 181 322 L (.int (hI h a j.toNatClampNeg) :: st) h Q := X_iald mC_181 dL_law_321
theorem x181_322 {b : Nat} {a0 : Int32} {a1 : Int32} {w0 : Value} : X 181 322 L [.int a1, .int a0, .ref b, w0] h Q ↔ hS h b = (1, 8) ∧ X 151 0 [.ref b, .int a0, .int a1] [] h (fun r h' => X 181 325 L (pv r [w0]) h' Q) := X_virt (as := [.int a0, .int a1]) (n := 2) (ml := 3) (ck := 8) mC_181 dL_law_322 (by unfold cOk; decide +kernel) ⟨rfl, rfl, by decide, Nat.le_of_ble_eq_true rfl⟩
theorem x181_325 {x y : Int32} : X 181 325 L (.int y :: .int x :: st) h Q ↔ if x = y then X 181 787 L st h Q else X 181 328 L st h Q := X_ieq mC_181 dL_law_325 (by decide)
theorem x181_328 : X 181 328 L st h Q ↔ X 181 329 L (.int 0 :: st) h Q := X_n mC_181 dL_law_328 rfl
theorem x181_329 {v : Int32} : X 181 329 L [.int v] h Q ↔ (v = 0 ∨ v = 1) ∧ Q (some (.int v)) h := X_retZ mC_181 dL_law_329 (by decide +kernel)
theorem x181_330 {l0 l2 l3 : Value} {x : Nat} : X 181 330 [l0, .ref x, l2, l3] st h Q ↔ X 181 331 [l0, .ref x, l2, l3] (.ref x :: st) h Q := X_n mC_181 dL_law_330 rfl
theorem x181_331 {l1 l2 l3 : Value} {x : Nat} : X 181 331 [.ref x, l1, l2, l3] st h Q ↔ X 181 332 [.ref x, l1, l2, l3] (.ref x :: st) h Q := X_n mC_181 dL_law_331 rfl
theorem x181_332 {l0 l1 l2 : Value} {x : Int32} : X 181 332 [l0, l1, l2, .int x] st h Q ↔ X 181 333 [l0, l1, l2, .int x] (.int x :: st) h Q := X_n mC_181 dL_law_332 rfl
theorem x181_333 : X 181 333 L st h Q ↔ X 181 334 L (.int 1 :: st) h Q := X_n mC_181 dL_law_333 rfl
theorem x181_334 {x y : Int32} : X 181 334 L (.int y :: .int x :: st) h Q ↔ X 181 335 L (.int (x + y) :: st) h Q := X_n mC_181 dL_law_334 rfl
theorem x181_335 {j : Int32} {a : Nat} : X 181 335 L (.int j :: .ref a :: st) h Q ↔ ib j (hS h a) ∧ X 181 336 L (.int (hI h a j.toNatClampNeg) :: st) h Q := X_iald mC_181 dL_law_335
theorem x181_336 {b : Nat} {a0 : Int32} : X 181 336 L [.int a0, .ref b] h Q ↔ hS h b = (1, 7) ∧ X 89 0 [.ref b, .int a0] [] h (fun r h' => X 181 339 L (pv r []) h' Q) := X_virt (as := [.int a0]) (n := 1) (ml := 2) (ck := 7) mC_181 dL_law_336 (by unfold cOk; decide +kernel) ⟨rfl, rfl, by decide, Nat.le_of_ble_eq_true rfl⟩
theorem x181_339 {l0 l1 l3 : Value} {x : Nat} : X 181 339 [l0, l1, .ref x, l3] st h Q ↔ X 181 340 [l0, l1, .ref x, l3] (.ref x :: st) h Q := X_n mC_181 dL_law_339 rfl
theorem x181_340 {l1 l2 l3 : Value} {x : Nat} : X 181 340 [.ref x, l1, l2, l3] st h Q ↔ X 181 341 [.ref x, l1, l2, l3] (.ref x :: st) h Q := X_n mC_181 dL_law_340 rfl
theorem x181_341 {l0 l1 l2 : Value} {x : Int32} : X 181 341 [l0, l1, l2, .int x] st h Q ↔ X 181 342 [l0, l1, l2, .int x] (.int x :: st) h Q := X_n mC_181 dL_law_341 rfl
theorem x181_342 : X 181 342 L st h Q ↔ X 181 343 L (.int 1 :: st) h Q := X_n mC_181 dL_law_342 rfl
theorem x181_343 {x y : Int32} : X 181 343 L (.int y :: .int x :: st) h Q ↔ X 181 344 L (.int (x + y) :: st) h Q := X_n mC_181 dL_law_343 rfl
theorem x181_344 {j : Int32} {a : Nat} : X 181 344 L (.int j :: .ref a :: st) h Q ↔ ib j (hS h a) ∧ X 181 345 L (.int (hI h a j.toNatClampNeg) :: st) h Q := X_iald mC_181 dL_law_344
theorem x181_345 {b : Nat} {a0 : Int32} {w0 : Value} : X 181 345 L [.int a0, .ref b, w0] h Q ↔ hS h b = (1, 8) ∧ X 152 0 [.ref b, .int a0] [] h (fun r h' => X 181 348 L (pv r [w0]) h' Q) := X_virt (as := [.int a0]) (n := 1) (ml := 2) (ck := 8) mC_181 dL_law_345 (by unfold cOk; decide +kernel) ⟨rfl, rfl, by decide, Nat.le_of_ble_eq_true rfl⟩
theorem x181_348 {x y : Int32} : X 181 348 L (.int y :: .int x :: st) h Q ↔ if x = y then X 181 787 L st h Q else X 181 351 L st h Q := X_ieq mC_181 dL_law_348 (by decide)
theorem x181_351 : X 181 351 L st h Q ↔ X 181 352 L (.int 0 :: st) h Q := X_n mC_181 dL_law_351 rfl
theorem x181_352 {v : Int32} : X 181 352 L [.int v] h Q ↔ (v = 0 ∨ v = 1) ∧ Q (some (.int v)) h := X_retZ mC_181 dL_law_352 (by decide +kernel)
theorem x181_353 {l0 l2 l3 : Value} {x : Nat} : X 181 353 [l0, .ref x, l2, l3] st h Q ↔ X 181 354 [l0, .ref x, l2, l3] (.ref x :: st) h Q := X_n mC_181 dL_law_353 rfl
theorem x181_354 {b : Nat} : X 181 354 L [.ref b] h Q ↔ hS h b = (1, 7) ∧ X 90 0 [.ref b] [] h (fun r h' => X 181 357 L (pv r []) h' Q) := X_virt (as := []) (n := 0) (ml := 1) (ck := 7) mC_181 dL_law_354 (by unfold cOk; decide +kernel) ⟨rfl, rfl, by decide, Nat.le_of_ble_eq_true rfl⟩
theorem x181_357 {l0 l1 l3 : Value} {x : Nat} : X 181 357 [l0, l1, .ref x, l3] st h Q ↔ X 181 358 [l0, l1, .ref x, l3] (.ref x :: st) h Q := X_n mC_181 dL_law_357 rfl
theorem x181_358 {b : Nat} {w0 : Value} : X 181 358 L [.ref b, w0] h Q ↔ hS h b = (1, 8) ∧ X 154 0 [.ref b] [] h (fun r h' => X 181 361 L (pv r [w0]) h' Q) := X_virt (as := []) (n := 0) (ml := 1) (ck := 8) mC_181 dL_law_358 (by unfold cOk; decide +kernel) ⟨rfl, rfl, by decide, Nat.le_of_ble_eq_true rfl⟩
theorem x181_361 {x y : Int32} : X 181 361 L (.int y :: .int x :: st) h Q ↔ if x = y then X 181 787 L st h Q else X 181 364 L st h Q := X_ieq mC_181 dL_law_361 (by decide)
theorem x181_364 : X 181 364 L st h Q ↔ X 181 365 L (.int 0 :: st) h Q := X_n mC_181 dL_law_364 rfl
theorem x181_365 {v : Int32} : X 181 365 L [.int v] h Q ↔ (v = 0 ∨ v = 1) ∧ Q (some (.int v)) h := X_retZ mC_181 dL_law_365 (by decide +kernel)
theorem x181_366 {l0 l2 l3 : Value} {x : Nat} : X 181 366 [l0, .ref x, l2, l3] st h Q ↔ X 181 367 [l0, .ref x, l2, l3] (.ref x :: st) h Q := X_n mC_181 dL_law_366 rfl
theorem x181_367 {b : Nat} : X 181 367 L [.ref b] h Q ↔ hS h b = (1, 7) ∧ X 91 0 [.ref b] [] h (fun r h' => X 181 370 L (pv r []) h' Q) := X_virt (as := []) (n := 0) (ml := 1) (ck := 7) mC_181 dL_law_367 (by unfold cOk; decide +kernel) ⟨rfl, rfl, by decide, Nat.le_of_ble_eq_true rfl⟩
theorem x181_370 {l0 l1 l3 : Value} {x : Nat} : X 181 370 [l0, l1, .ref x, l3] st h Q ↔ X 181 371 [l0, l1, .ref x, l3] (.ref x :: st) h Q := X_n mC_181 dL_law_370 rfl
theorem x181_371 {b : Nat} {w0 : Value} : X 181 371 L [.ref b, w0] h Q ↔ hS h b = (1, 8) ∧ X 155 0 [.ref b, .null] [] h (fun r h' => X 181 374 L (pv r [w0]) h' Q) := X_virt (as := []) (n := 0) (ml := 2) (ck := 8) mC_181 dL_law_371 (by unfold cOk; decide +kernel) ⟨rfl, rfl, by decide, Nat.le_of_ble_eq_true rfl⟩
theorem x181_374 {x y : Int32} : X 181 374 L (.int y :: .int x :: st) h Q ↔ if x = y then X 181 787 L st h Q else X 181 377 L st h Q := X_ieq mC_181 dL_law_374 (by decide)
theorem x181_377 : X 181 377 L st h Q ↔ X 181 378 L (.int 0 :: st) h Q := X_n mC_181 dL_law_377 rfl
theorem x181_378 {v : Int32} : X 181 378 L [.int v] h Q ↔ (v = 0 ∨ v = 1) ∧ Q (some (.int v)) h := X_retZ mC_181 dL_law_378 (by decide +kernel)
theorem x181_379 {l0 l2 l3 : Value} {x : Nat} : X 181 379 [l0, .ref x, l2, l3] st h Q ↔ X 181 380 [l0, .ref x, l2, l3] (.ref x :: st) h Q := X_n mC_181 dL_law_379 rfl
theorem x181_380 {l1 l2 l3 : Value} {x : Nat} : X 181 380 [.ref x, l1, l2, l3] st h Q ↔ X 181 381 [.ref x, l1, l2, l3] (.ref x :: st) h Q := X_n mC_181 dL_law_380 rfl
theorem x181_381 {l0 l1 l2 : Value} {x : Int32} : X 181 381 [l0, l1, l2, .int x] st h Q ↔ X 181 382 [l0, l1, l2, .int x] (.int x :: st) h Q := X_n mC_181 dL_law_381 rfl
theorem x181_382 : X 181 382 L st h Q ↔ X 181 383 L (.int 1 :: st) h Q := X_n mC_181 dL_law_382 rfl
theorem x181_383 {x y : Int32} : X 181 383 L (.int y :: .int x :: st) h Q ↔ X 181 384 L (.int (x + y) :: st) h Q := X_n mC_181 dL_law_383 rfl
theorem x181_384 {j : Int32} {a : Nat} : X 181 384 L (.int j :: .ref a :: st) h Q ↔ ib j (hS h a) ∧ X 181 385 L (.int (hI h a j.toNatClampNeg) :: st) h Q := X_iald mC_181 dL_law_384
theorem x181_385 {b : Nat} {a0 : Int32} : X 181 385 L [.int a0, .ref b] h Q ↔ hS h b = (1, 7) ∧ X 92 0 [.ref b, .int a0] [] h (fun r h' => X 181 388 L (pv r []) h' Q) := X_virt (as := [.int a0]) (n := 1) (ml := 2) (ck := 7) mC_181 dL_law_385 (by unfold cOk; decide +kernel) ⟨rfl, rfl, by decide, Nat.le_of_ble_eq_true rfl⟩
theorem x181_388 {l0 l1 l3 : Value} {x : Nat} : X 181 388 [l0, l1, .ref x, l3] st h Q ↔ X 181 389 [l0, l1, .ref x, l3] (.ref x :: st) h Q := X_n mC_181 dL_law_388 rfl
theorem x181_389 {l1 l2 l3 : Value} {x : Nat} : X 181 389 [.ref x, l1, l2, l3] st h Q ↔ X 181 390 [.ref x, l1, l2, l3] (.ref x :: st) h Q := X_n mC_181 dL_law_389 rfl
theorem x181_390 {l0 l1 l2 : Value} {x : Int32} : X 181 390 [l0, l1, l2, .int x] st h Q ↔ X 181 391 [l0, l1, l2, .int x] (.int x :: st) h Q := X_n mC_181 dL_law_390 rfl
theorem x181_391 : X 181 391 L st h Q ↔ X 181 392 L (.int 1 :: st) h Q := X_n mC_181 dL_law_391 rfl
theorem x181_392 {x y : Int32} : X 181 392 L (.int y :: .int x :: st) h Q ↔ X 181 393 L (.int (x + y) :: st) h Q := X_n mC_181 dL_law_392 rfl
theorem x181_393 {j : Int32} {a : Nat} : X 181 393 L (.int j :: .ref a :: st) h Q ↔ ib j (hS h a) ∧ X 181 394 L (.int (hI h a j.toNatClampNeg) :: st) h Q := X_iald mC_181 dL_law_393
theorem x181_394 {b : Nat} {a0 : Int32} {w0 : Value} : X 181 394 L [.int a0, .ref b, w0] h Q ↔ hS h b = (1, 8) ∧ X 157 0 [.ref b, .int a0, .null, .null] [] h (fun r h' => X 181 397 L (pv r [w0]) h' Q) := X_virt (as := [.int a0]) (n := 1) (ml := 4) (ck := 8) mC_181 dL_law_394 (by unfold cOk; decide +kernel) ⟨rfl, rfl, by decide, Nat.le_of_ble_eq_true rfl⟩
theorem x181_397 {x y : Int32} : X 181 397 L (.int y :: .int x :: st) h Q ↔ if x = y then X 181 787 L st h Q else X 181 400 L st h Q := X_ieq mC_181 dL_law_397 (by decide)
theorem x181_400 : X 181 400 L st h Q ↔ X 181 401 L (.int 0 :: st) h Q := X_n mC_181 dL_law_400 rfl
theorem x181_401 {v : Int32} : X 181 401 L [.int v] h Q ↔ (v = 0 ∨ v = 1) ∧ Q (some (.int v)) h := X_retZ mC_181 dL_law_401 (by decide +kernel)
theorem x181_402 {l0 l2 l3 : Value} {x : Nat} : X 181 402 [l0, .ref x, l2, l3] st h Q ↔ X 181 403 [l0, .ref x, l2, l3] (.ref x :: st) h Q := X_n mC_181 dL_law_402 rfl
theorem x181_403 {l1 l2 l3 : Value} {x : Nat} : X 181 403 [.ref x, l1, l2, l3] st h Q ↔ X 181 404 [.ref x, l1, l2, l3] (.ref x :: st) h Q := X_n mC_181 dL_law_403 rfl
theorem x181_404 {l0 l1 l2 : Value} {x : Int32} : X 181 404 [l0, l1, l2, .int x] st h Q ↔ X 181 405 [l0, l1, l2, .int x] (.int x :: st) h Q := X_n mC_181 dL_law_404 rfl
theorem x181_405 : X 181 405 L st h Q ↔ X 181 406 L (.int 1 :: st) h Q := X_n mC_181 dL_law_405 rfl
theorem x181_406 {x y : Int32} : X 181 406 L (.int y :: .int x :: st) h Q ↔ X 181 407 L (.int (x + y) :: st) h Q := X_n mC_181 dL_law_406 rfl
theorem x181_407 {j : Int32} {a : Nat} : X 181 407 L (.int j :: .ref a :: st) h Q ↔ ib j (hS h a) ∧ X 181 408 L (.int (hI h a j.toNatClampNeg) :: st) h Q := X_iald mC_181 dL_law_407
theorem x181_408 {b : Nat} {a0 : Int32} : X 181 408 L [.int a0, .ref b] h Q ↔ hS h b = (1, 7) ∧ X 93 0 [.ref b, .int a0, .null] [] h (fun r h' => X 181 411 L (pv r []) h' Q) := X_virt (as := [.int a0]) (n := 1) (ml := 3) (ck := 7) mC_181 dL_law_408 (by unfold cOk; decide +kernel) ⟨rfl, rfl, by decide, Nat.le_of_ble_eq_true rfl⟩
theorem x181_411 {l0 l1 l3 : Value} {x : Nat} : X 181 411 [l0, l1, .ref x, l3] st h Q ↔ X 181 412 [l0, l1, .ref x, l3] (.ref x :: st) h Q := X_n mC_181 dL_law_411 rfl
theorem x181_412 {l1 l2 l3 : Value} {x : Nat} : X 181 412 [.ref x, l1, l2, l3] st h Q ↔ X 181 413 [.ref x, l1, l2, l3] (.ref x :: st) h Q := X_n mC_181 dL_law_412 rfl
theorem x181_413 {l0 l1 l2 : Value} {x : Int32} : X 181 413 [l0, l1, l2, .int x] st h Q ↔ X 181 414 [l0, l1, l2, .int x] (.int x :: st) h Q := X_n mC_181 dL_law_413 rfl
theorem x181_414 : X 181 414 L st h Q ↔ X 181 415 L (.int 1 :: st) h Q := X_n mC_181 dL_law_414 rfl
theorem x181_415 {x y : Int32} : X 181 415 L (.int y :: .int x :: st) h Q ↔ X 181 416 L (.int (x + y) :: st) h Q := X_n mC_181 dL_law_415 rfl
theorem x181_416 {j : Int32} {a : Nat} : X 181 416 L (.int j :: .ref a :: st) h Q ↔ ib j (hS h a) ∧ X 181 417 L (.int (hI h a j.toNatClampNeg) :: st) h Q := X_iald mC_181 dL_law_416
theorem x181_417 {b : Nat} {a0 : Int32} {w0 : Value} : X 181 417 L [.int a0, .ref b, w0] h Q ↔ hS h b = (1, 8) ∧ X 163 0 [.ref b, .int a0, .null, .null, .null, .null] [] h (fun r h' => X 181 420 L (pv r [w0]) h' Q) := X_virt (as := [.int a0]) (n := 1) (ml := 6) (ck := 8) mC_181 dL_law_417 (by unfold cOk; decide +kernel) ⟨rfl, rfl, by decide, Nat.le_of_ble_eq_true rfl⟩
theorem x181_420 {x y : Int32} : X 181 420 L (.int y :: .int x :: st) h Q ↔ if x = y then X 181 787 L st h Q else X 181 423 L st h Q := X_ieq mC_181 dL_law_420 (by decide)
theorem x181_423 : X 181 423 L st h Q ↔ X 181 424 L (.int 0 :: st) h Q := X_n mC_181 dL_law_423 rfl
theorem x181_424 {v : Int32} : X 181 424 L [.int v] h Q ↔ (v = 0 ∨ v = 1) ∧ Q (some (.int v)) h := X_retZ mC_181 dL_law_424 (by decide +kernel)
theorem x181_425 {l0 l2 l3 : Value} {x : Nat} : X 181 425 [l0, .ref x, l2, l3] st h Q ↔ X 181 426 [l0, .ref x, l2, l3] (.ref x :: st) h Q := X_n mC_181 dL_law_425 rfl
theorem x181_426 {l1 l2 l3 : Value} {x : Nat} : X 181 426 [.ref x, l1, l2, l3] st h Q ↔ X 181 427 [.ref x, l1, l2, l3] (.ref x :: st) h Q := X_n mC_181 dL_law_426 rfl
theorem x181_427 {l0 l1 l2 : Value} {x : Int32} : X 181 427 [l0, l1, l2, .int x] st h Q ↔ X 181 428 [l0, l1, l2, .int x] (.int x :: st) h Q := X_n mC_181 dL_law_427 rfl
theorem x181_428 : X 181 428 L st h Q ↔ X 181 429 L (.int 1 :: st) h Q := X_n mC_181 dL_law_428 rfl
theorem x181_429 {x y : Int32} : X 181 429 L (.int y :: .int x :: st) h Q ↔ X 181 430 L (.int (x + y) :: st) h Q := X_n mC_181 dL_law_429 rfl
theorem x181_430 {j : Int32} {a : Nat} : X 181 430 L (.int j :: .ref a :: st) h Q ↔ ib j (hS h a) ∧ X 181 431 L (.int (hI h a j.toNatClampNeg) :: st) h Q := X_iald mC_181 dL_law_430
theorem x181_431 {l1 l2 l3 : Value} {x : Nat} : X 181 431 [.ref x, l1, l2, l3] st h Q ↔ X 181 432 [.ref x, l1, l2, l3] (.ref x :: st) h Q := X_n mC_181 dL_law_431 rfl
theorem x181_432 {l0 l1 l2 : Value} {x : Int32} : X 181 432 [l0, l1, l2, .int x] st h Q ↔ X 181 433 [l0, l1, l2, .int x] (.int x :: st) h Q := X_n mC_181 dL_law_432 rfl
theorem x181_433 : X 181 433 L st h Q ↔ X 181 434 L (.int 2 :: st) h Q := X_n mC_181 dL_law_433 rfl
theorem x181_434 {x y : Int32} : X 181 434 L (.int y :: .int x :: st) h Q ↔ X 181 435 L (.int (x + y) :: st) h Q := X_n mC_181 dL_law_434 rfl
theorem x181_435 {j : Int32} {a : Nat} : X 181 435 L (.int j :: .ref a :: st) h Q ↔ ib j (hS h a) ∧ X 181 436 L (.int (hI h a j.toNatClampNeg) :: st) h Q := X_iald mC_181 dL_law_435
theorem x181_436 {b : Nat} {a0 : Int32} {a1 : Int32} : X 181 436 L [.int a1, .int a0, .ref b] h Q ↔ hS h b = (1, 7) ∧ X 94 0 [.ref b, .int a0, .int a1, .null, .null, .null, .null] [] h (fun r h' => X 181 439 L (pv r []) h' Q) := X_virt (as := [.int a0, .int a1]) (n := 2) (ml := 7) (ck := 7) mC_181 dL_law_436 (by unfold cOk; decide +kernel) ⟨rfl, rfl, by decide, Nat.le_of_ble_eq_true rfl⟩
theorem x181_439 {l0 l1 l3 : Value} {x : Nat} : X 181 439 [l0, l1, .ref x, l3] st h Q ↔ X 181 440 [l0, l1, .ref x, l3] (.ref x :: st) h Q := X_n mC_181 dL_law_439 rfl
theorem x181_440 {l1 l2 l3 : Value} {x : Nat} : X 181 440 [.ref x, l1, l2, l3] st h Q ↔ X 181 441 [.ref x, l1, l2, l3] (.ref x :: st) h Q := X_n mC_181 dL_law_440 rfl
theorem x181_441 {l0 l1 l2 : Value} {x : Int32} : X 181 441 [l0, l1, l2, .int x] st h Q ↔ X 181 442 [l0, l1, l2, .int x] (.int x :: st) h Q := X_n mC_181 dL_law_441 rfl
theorem x181_442 : X 181 442 L st h Q ↔ X 181 443 L (.int 1 :: st) h Q := X_n mC_181 dL_law_442 rfl
theorem x181_443 {x y : Int32} : X 181 443 L (.int y :: .int x :: st) h Q ↔ X 181 444 L (.int (x + y) :: st) h Q := X_n mC_181 dL_law_443 rfl
theorem x181_444 {j : Int32} {a : Nat} : X 181 444 L (.int j :: .ref a :: st) h Q ↔ ib j (hS h a) ∧ X 181 445 L (.int (hI h a j.toNatClampNeg) :: st) h Q := X_iald mC_181 dL_law_444
theorem x181_445 {l1 l2 l3 : Value} {x : Nat} : X 181 445 [.ref x, l1, l2, l3] st h Q ↔ X 181 446 [.ref x, l1, l2, l3] (.ref x :: st) h Q := X_n mC_181 dL_law_445 rfl
theorem x181_446 {l0 l1 l2 : Value} {x : Int32} : X 181 446 [l0, l1, l2, .int x] st h Q ↔ X 181 447 [l0, l1, l2, .int x] (.int x :: st) h Q := X_n mC_181 dL_law_446 rfl
theorem x181_447 : X 181 447 L st h Q ↔ X 181 448 L (.int 2 :: st) h Q := X_n mC_181 dL_law_447 rfl
theorem x181_448 {x y : Int32} : X 181 448 L (.int y :: .int x :: st) h Q ↔ X 181 449 L (.int (x + y) :: st) h Q := X_n mC_181 dL_law_448 rfl
theorem x181_449 {j : Int32} {a : Nat} : X 181 449 L (.int j :: .ref a :: st) h Q ↔ ib j (hS h a) ∧ X 181 450 L (.int (hI h a j.toNatClampNeg) :: st) h Q := X_iald mC_181 dL_law_449
theorem x181_450 {b : Nat} {a0 : Int32} {a1 : Int32} {w0 : Value} : X 181 450 L [.int a1, .int a0, .ref b, w0] h Q ↔ hS h b = (1, 8) ∧ X 164 0 [.ref b, .int a0, .int a1, .null, .null, .null, .null, .null, .null] [] h (fun r h' => X 181 453 L (pv r [w0]) h' Q) := X_virt (as := [.int a0, .int a1]) (n := 2) (ml := 9) (ck := 8) mC_181 dL_law_450 (by unfold cOk; decide +kernel) ⟨rfl, rfl, by decide, Nat.le_of_ble_eq_true rfl⟩
theorem x181_453 {x y : Int32} : X 181 453 L (.int y :: .int x :: st) h Q ↔ if x = y then X 181 787 L st h Q else X 181 456 L st h Q := X_ieq mC_181 dL_law_453 (by decide)
theorem x181_456 : X 181 456 L st h Q ↔ X 181 457 L (.int 0 :: st) h Q := X_n mC_181 dL_law_456 rfl
theorem x181_457 {v : Int32} : X 181 457 L [.int v] h Q ↔ (v = 0 ∨ v = 1) ∧ Q (some (.int v)) h := X_retZ mC_181 dL_law_457 (by decide +kernel)
theorem x181_458 {l0 l2 l3 : Value} {x : Nat} : X 181 458 [l0, .ref x, l2, l3] st h Q ↔ X 181 459 [l0, .ref x, l2, l3] (.ref x :: st) h Q := X_n mC_181 dL_law_458 rfl
theorem x181_459 {l1 l2 l3 : Value} {x : Nat} : X 181 459 [.ref x, l1, l2, l3] st h Q ↔ X 181 460 [.ref x, l1, l2, l3] (.ref x :: st) h Q := X_n mC_181 dL_law_459 rfl
theorem x181_460 {l0 l1 l2 : Value} {x : Int32} : X 181 460 [l0, l1, l2, .int x] st h Q ↔ X 181 461 [l0, l1, l2, .int x] (.int x :: st) h Q := X_n mC_181 dL_law_460 rfl
theorem x181_461 : X 181 461 L st h Q ↔ X 181 462 L (.int 1 :: st) h Q := X_n mC_181 dL_law_461 rfl
theorem x181_462 {x y : Int32} : X 181 462 L (.int y :: .int x :: st) h Q ↔ X 181 463 L (.int (x + y) :: st) h Q := X_n mC_181 dL_law_462 rfl
theorem x181_463 {j : Int32} {a : Nat} : X 181 463 L (.int j :: .ref a :: st) h Q ↔ ib j (hS h a) ∧ X 181 464 L (.int (hI h a j.toNatClampNeg) :: st) h Q := X_iald mC_181 dL_law_463
theorem x181_464 {b : Nat} {a0 : Int32} : X 181 464 L [.int a0, .ref b] h Q ↔ hS h b = (1, 7) ∧ X 95 0 [.ref b, .int a0, .null, .null, .null, .null] [] h (fun r h' => X 181 467 L (pv r []) h' Q) := X_virt (as := [.int a0]) (n := 1) (ml := 6) (ck := 7) mC_181 dL_law_464 (by unfold cOk; decide +kernel) ⟨rfl, rfl, by decide, Nat.le_of_ble_eq_true rfl⟩
theorem x181_467 {l0 l1 l3 : Value} {x : Nat} : X 181 467 [l0, l1, .ref x, l3] st h Q ↔ X 181 468 [l0, l1, .ref x, l3] (.ref x :: st) h Q := X_n mC_181 dL_law_467 rfl
theorem x181_468 {l1 l2 l3 : Value} {x : Nat} : X 181 468 [.ref x, l1, l2, l3] st h Q ↔ X 181 469 [.ref x, l1, l2, l3] (.ref x :: st) h Q := X_n mC_181 dL_law_468 rfl
theorem x181_469 {l0 l1 l2 : Value} {x : Int32} : X 181 469 [l0, l1, l2, .int x] st h Q ↔ X 181 470 [l0, l1, l2, .int x] (.int x :: st) h Q := X_n mC_181 dL_law_469 rfl
theorem x181_470 : X 181 470 L st h Q ↔ X 181 471 L (.int 1 :: st) h Q := X_n mC_181 dL_law_470 rfl
theorem x181_471 {x y : Int32} : X 181 471 L (.int y :: .int x :: st) h Q ↔ X 181 472 L (.int (x + y) :: st) h Q := X_n mC_181 dL_law_471 rfl
theorem x181_472 {j : Int32} {a : Nat} : X 181 472 L (.int j :: .ref a :: st) h Q ↔ ib j (hS h a) ∧ X 181 473 L (.int (hI h a j.toNatClampNeg) :: st) h Q := X_iald mC_181 dL_law_472
theorem x181_473 {b : Nat} {a0 : Int32} {w0 : Value} : X 181 473 L [.int a0, .ref b, w0] h Q ↔ hS h b = (1, 8) ∧ X 166 0 [.ref b, .int a0, .null, .null, .null, .null, .null] [] h (fun r h' => X 181 476 L (pv r [w0]) h' Q) := X_virt (as := [.int a0]) (n := 1) (ml := 7) (ck := 8) mC_181 dL_law_473 (by unfold cOk; decide +kernel) ⟨rfl, rfl, by decide, Nat.le_of_ble_eq_true rfl⟩
theorem x181_476 {x y : Int32} : X 181 476 L (.int y :: .int x :: st) h Q ↔ if x = y then X 181 787 L st h Q else X 181 479 L st h Q := X_ieq mC_181 dL_law_476 (by decide)
theorem x181_479 : X 181 479 L st h Q ↔ X 181 480 L (.int 0 :: st) h Q := X_n mC_181 dL_law_479 rfl
theorem x181_480 {v : Int32} : X 181 480 L [.int v] h Q ↔ (v = 0 ∨ v = 1) ∧ Q (some (.int v)) h := X_retZ mC_181 dL_law_480 (by decide +kernel)
theorem x181_481 {l0 l2 l3 : Value} {x : Nat} : X 181 481 [l0, .ref x, l2, l3] st h Q ↔ X 181 482 [l0, .ref x, l2, l3] (.ref x :: st) h Q := X_n mC_181 dL_law_481 rfl
theorem x181_482 {l1 l2 l3 : Value} {x : Nat} : X 181 482 [.ref x, l1, l2, l3] st h Q ↔ X 181 483 [.ref x, l1, l2, l3] (.ref x :: st) h Q := X_n mC_181 dL_law_482 rfl
theorem x181_483 {l0 l1 l2 : Value} {x : Int32} : X 181 483 [l0, l1, l2, .int x] st h Q ↔ X 181 484 [l0, l1, l2, .int x] (.int x :: st) h Q := X_n mC_181 dL_law_483 rfl
theorem x181_484 : X 181 484 L st h Q ↔ X 181 485 L (.int 1 :: st) h Q := X_n mC_181 dL_law_484 rfl
theorem x181_485 {x y : Int32} : X 181 485 L (.int y :: .int x :: st) h Q ↔ X 181 486 L (.int (x + y) :: st) h Q := X_n mC_181 dL_law_485 rfl
theorem x181_486 {j : Int32} {a : Nat} : X 181 486 L (.int j :: .ref a :: st) h Q ↔ ib j (hS h a) ∧ X 181 487 L (.int (hI h a j.toNatClampNeg) :: st) h Q := X_iald mC_181 dL_law_486
theorem x181_487 {l1 l2 l3 : Value} {x : Nat} : X 181 487 [.ref x, l1, l2, l3] st h Q ↔ X 181 488 [.ref x, l1, l2, l3] (.ref x :: st) h Q := X_n mC_181 dL_law_487 rfl
theorem x181_488 {l0 l1 l2 : Value} {x : Int32} : X 181 488 [l0, l1, l2, .int x] st h Q ↔ X 181 489 [l0, l1, l2, .int x] (.int x :: st) h Q := X_n mC_181 dL_law_488 rfl
theorem x181_489 : X 181 489 L st h Q ↔ X 181 490 L (.int 2 :: st) h Q := X_n mC_181 dL_law_489 rfl
theorem x181_490 {x y : Int32} : X 181 490 L (.int y :: .int x :: st) h Q ↔ X 181 491 L (.int (x + y) :: st) h Q := X_n mC_181 dL_law_490 rfl
theorem x181_491 {j : Int32} {a : Nat} : X 181 491 L (.int j :: .ref a :: st) h Q ↔ ib j (hS h a) ∧ X 181 492 L (.int (hI h a j.toNatClampNeg) :: st) h Q := X_iald mC_181 dL_law_491
theorem x181_492 {b : Nat} {a0 : Int32} {a1 : Int32} : X 181 492 L [.int a1, .int a0, .ref b] h Q ↔ hS h b = (1, 7) ∧ X 96 0 [.ref b, .int a0, .int a1, .null, .null, .null] [] h (fun r h' => X 181 495 L (pv r []) h' Q) := X_virt (as := [.int a0, .int a1]) (n := 2) (ml := 6) (ck := 7) mC_181 dL_law_492 (by unfold cOk; decide +kernel) ⟨rfl, rfl, by decide, Nat.le_of_ble_eq_true rfl⟩
theorem x181_495 {l0 l1 l3 : Value} {x : Nat} : X 181 495 [l0, l1, .ref x, l3] st h Q ↔ X 181 496 [l0, l1, .ref x, l3] (.ref x :: st) h Q := X_n mC_181 dL_law_495 rfl
theorem x181_496 {l1 l2 l3 : Value} {x : Nat} : X 181 496 [.ref x, l1, l2, l3] st h Q ↔ X 181 497 [.ref x, l1, l2, l3] (.ref x :: st) h Q := X_n mC_181 dL_law_496 rfl
theorem x181_497 {l0 l1 l2 : Value} {x : Int32} : X 181 497 [l0, l1, l2, .int x] st h Q ↔ X 181 498 [l0, l1, l2, .int x] (.int x :: st) h Q := X_n mC_181 dL_law_497 rfl
theorem x181_498 : X 181 498 L st h Q ↔ X 181 499 L (.int 1 :: st) h Q := X_n mC_181 dL_law_498 rfl
theorem x181_499 {x y : Int32} : X 181 499 L (.int y :: .int x :: st) h Q ↔ X 181 500 L (.int (x + y) :: st) h Q := X_n mC_181 dL_law_499 rfl
theorem x181_500 {j : Int32} {a : Nat} : X 181 500 L (.int j :: .ref a :: st) h Q ↔ ib j (hS h a) ∧ X 181 501 L (.int (hI h a j.toNatClampNeg) :: st) h Q := X_iald mC_181 dL_law_500
theorem x181_501 {l1 l2 l3 : Value} {x : Nat} : X 181 501 [.ref x, l1, l2, l3] st h Q ↔ X 181 502 [.ref x, l1, l2, l3] (.ref x :: st) h Q := X_n mC_181 dL_law_501 rfl
theorem x181_502 {l0 l1 l2 : Value} {x : Int32} : X 181 502 [l0, l1, l2, .int x] st h Q ↔ X 181 503 [l0, l1, l2, .int x] (.int x :: st) h Q := X_n mC_181 dL_law_502 rfl
theorem x181_503 : X 181 503 L st h Q ↔ X 181 504 L (.int 2 :: st) h Q := X_n mC_181 dL_law_503 rfl
theorem x181_504 {x y : Int32} : X 181 504 L (.int y :: .int x :: st) h Q ↔ X 181 505 L (.int (x + y) :: st) h Q := X_n mC_181 dL_law_504 rfl
theorem x181_505 {j : Int32} {a : Nat} : X 181 505 L (.int j :: .ref a :: st) h Q ↔ ib j (hS h a) ∧ X 181 506 L (.int (hI h a j.toNatClampNeg) :: st) h Q := X_iald mC_181 dL_law_505
theorem x181_506 {b : Nat} {a0 : Int32} {a1 : Int32} {w0 : Value} : X 181 506 L [.int a1, .int a0, .ref b, w0] h Q ↔ hS h b = (1, 8) ∧ X 167 0 [.ref b, .int a0, .int a1, .null, .null, .null, .null, .null, .null, .null] [] h (fun r h' => X 181 509 L (pv r [w0]) h' Q) := X_virt (as := [.int a0, .int a1]) (n := 2) (ml := 10) (ck := 8) mC_181 dL_law_506 (by unfold cOk; decide +kernel) ⟨rfl, rfl, by decide, Nat.le_of_ble_eq_true rfl⟩
theorem x181_509 {x y : Int32} : X 181 509 L (.int y :: .int x :: st) h Q ↔ if x = y then X 181 787 L st h Q else X 181 512 L st h Q := X_ieq mC_181 dL_law_509 (by decide)
theorem x181_512 : X 181 512 L st h Q ↔ X 181 513 L (.int 0 :: st) h Q := X_n mC_181 dL_law_512 rfl
theorem x181_513 {v : Int32} : X 181 513 L [.int v] h Q ↔ (v = 0 ∨ v = 1) ∧ Q (some (.int v)) h := X_retZ mC_181 dL_law_513 (by decide +kernel)
theorem x181_514 {l0 l2 l3 : Value} {x : Nat} : X 181 514 [l0, .ref x, l2, l3] st h Q ↔ X 181 515 [l0, .ref x, l2, l3] (.ref x :: st) h Q := X_n mC_181 dL_law_514 rfl
theorem x181_515 {l1 l2 l3 : Value} {x : Nat} : X 181 515 [.ref x, l1, l2, l3] st h Q ↔ X 181 516 [.ref x, l1, l2, l3] (.ref x :: st) h Q := X_n mC_181 dL_law_515 rfl
theorem x181_516 {l0 l1 l2 : Value} {x : Int32} : X 181 516 [l0, l1, l2, .int x] st h Q ↔ X 181 517 [l0, l1, l2, .int x] (.int x :: st) h Q := X_n mC_181 dL_law_516 rfl
theorem x181_517 : X 181 517 L st h Q ↔ X 181 518 L (.int 1 :: st) h Q := X_n mC_181 dL_law_517 rfl
theorem x181_518 {x y : Int32} : X 181 518 L (.int y :: .int x :: st) h Q ↔ X 181 519 L (.int (x + y) :: st) h Q := X_n mC_181 dL_law_518 rfl
theorem x181_519 {j : Int32} {a : Nat} : X 181 519 L (.int j :: .ref a :: st) h Q ↔ ib j (hS h a) ∧ X 181 520 L (.int (hI h a j.toNatClampNeg) :: st) h Q := X_iald mC_181 dL_law_519
theorem x181_520 {b : Nat} {a0 : Int32} : X 181 520 L [.int a0, .ref b] h Q ↔ hS h b = (1, 7) ∧ X 97 0 [.ref b, .int a0] [] h (fun r h' => X 181 523 L (pv r []) h' Q) := X_virt (as := [.int a0]) (n := 1) (ml := 2) (ck := 7) mC_181 dL_law_520 (by unfold cOk; decide +kernel) ⟨rfl, rfl, by decide, Nat.le_of_ble_eq_true rfl⟩
theorem x181_523 {l0 l1 l3 : Value} {x : Nat} : X 181 523 [l0, l1, .ref x, l3] st h Q ↔ X 181 524 [l0, l1, .ref x, l3] (.ref x :: st) h Q := X_n mC_181 dL_law_523 rfl
theorem x181_524 {l1 l2 l3 : Value} {x : Nat} : X 181 524 [.ref x, l1, l2, l3] st h Q ↔ X 181 525 [.ref x, l1, l2, l3] (.ref x :: st) h Q := X_n mC_181 dL_law_524 rfl
theorem x181_525 {l0 l1 l2 : Value} {x : Int32} : X 181 525 [l0, l1, l2, .int x] st h Q ↔ X 181 526 [l0, l1, l2, .int x] (.int x :: st) h Q := X_n mC_181 dL_law_525 rfl
theorem x181_526 : X 181 526 L st h Q ↔ X 181 527 L (.int 1 :: st) h Q := X_n mC_181 dL_law_526 rfl
theorem x181_527 {x y : Int32} : X 181 527 L (.int y :: .int x :: st) h Q ↔ X 181 528 L (.int (x + y) :: st) h Q := X_n mC_181 dL_law_527 rfl
theorem x181_528 {j : Int32} {a : Nat} : X 181 528 L (.int j :: .ref a :: st) h Q ↔ ib j (hS h a) ∧ X 181 529 L (.int (hI h a j.toNatClampNeg) :: st) h Q := X_iald mC_181 dL_law_528
theorem x181_529 {b : Nat} {a0 : Int32} {w0 : Value} : X 181 529 L [.int a0, .ref b, w0] h Q ↔ hS h b = (1, 8) ∧ X 168 0 [.ref b, .int a0] [] h (fun r h' => X 181 532 L (pv r [w0]) h' Q) := X_virt (as := [.int a0]) (n := 1) (ml := 2) (ck := 8) mC_181 dL_law_529 (by unfold cOk; decide +kernel) ⟨rfl, rfl, by decide, Nat.le_of_ble_eq_true rfl⟩
theorem x181_532 {x y : Int32} : X 181 532 L (.int y :: .int x :: st) h Q ↔ if x = y then X 181 787 L st h Q else X 181 535 L st h Q := X_ieq mC_181 dL_law_532 (by decide)
theorem x181_535 : X 181 535 L st h Q ↔ X 181 536 L (.int 0 :: st) h Q := X_n mC_181 dL_law_535 rfl
theorem x181_536 {v : Int32} : X 181 536 L [.int v] h Q ↔ (v = 0 ∨ v = 1) ∧ Q (some (.int v)) h := X_retZ mC_181 dL_law_536 (by decide +kernel)
theorem x181_537 {l0 l2 l3 : Value} {x : Nat} : X 181 537 [l0, .ref x, l2, l3] st h Q ↔ X 181 538 [l0, .ref x, l2, l3] (.ref x :: st) h Q := X_n mC_181 dL_law_537 rfl
theorem x181_538 {l1 l2 l3 : Value} {x : Nat} : X 181 538 [.ref x, l1, l2, l3] st h Q ↔ X 181 539 [.ref x, l1, l2, l3] (.ref x :: st) h Q := X_n mC_181 dL_law_538 rfl
theorem x181_539 {l0 l1 l2 : Value} {x : Int32} : X 181 539 [l0, l1, l2, .int x] st h Q ↔ X 181 540 [l0, l1, l2, .int x] (.int x :: st) h Q := X_n mC_181 dL_law_539 rfl
theorem x181_540 : X 181 540 L st h Q ↔ X 181 541 L (.int 1 :: st) h Q := X_n mC_181 dL_law_540 rfl
theorem x181_541 {x y : Int32} : X 181 541 L (.int y :: .int x :: st) h Q ↔ X 181 542 L (.int (x + y) :: st) h Q := X_n mC_181 dL_law_541 rfl
theorem x181_542 {j : Int32} {a : Nat} : X 181 542 L (.int j :: .ref a :: st) h Q ↔ ib j (hS h a) ∧ X 181 543 L (.int (hI h a j.toNatClampNeg) :: st) h Q := X_iald mC_181 dL_law_542
theorem x181_543 {l1 l2 l3 : Value} {x : Nat} : X 181 543 [.ref x, l1, l2, l3] st h Q ↔ X 181 544 [.ref x, l1, l2, l3] (.ref x :: st) h Q := X_n mC_181 dL_law_543 rfl
theorem x181_544 {l0 l1 l2 : Value} {x : Int32} : X 181 544 [l0, l1, l2, .int x] st h Q ↔ X 181 545 [l0, l1, l2, .int x] (.int x :: st) h Q := X_n mC_181 dL_law_544 rfl
theorem x181_545 : X 181 545 L st h Q ↔ X 181 546 L (.int 2 :: st) h Q := X_n mC_181 dL_law_545 rfl
theorem x181_546 {x y : Int32} : X 181 546 L (.int y :: .int x :: st) h Q ↔ X 181 547 L (.int (x + y) :: st) h Q := X_n mC_181 dL_law_546 rfl
theorem x181_547 {j : Int32} {a : Nat} : X 181 547 L (.int j :: .ref a :: st) h Q ↔ ib j (hS h a) ∧ X 181 548 L (.int (hI h a j.toNatClampNeg) :: st) h Q := X_iald mC_181 dL_law_547
theorem x181_548 {l1 l2 l3 : Value} {x : Nat} : X 181 548 [.ref x, l1, l2, l3] st h Q ↔ X 181 549 [.ref x, l1, l2, l3] (.ref x :: st) h Q := X_n mC_181 dL_law_548 rfl
theorem x181_549 {l0 l1 l2 : Value} {x : Int32} : X 181 549 [l0, l1, l2, .int x] st h Q ↔ X 181 550 [l0, l1, l2, .int x] (.int x :: st) h Q := X_n mC_181 dL_law_549 rfl
theorem x181_550 : X 181 550 L st h Q ↔ X 181 551 L (.int 3 :: st) h Q := X_n mC_181 dL_law_550 rfl
theorem x181_551 {x y : Int32} : X 181 551 L (.int y :: .int x :: st) h Q ↔ X 181 552 L (.int (x + y) :: st) h Q := X_n mC_181 dL_law_551 rfl
theorem x181_552 {j : Int32} {a : Nat} : X 181 552 L (.int j :: .ref a :: st) h Q ↔ ib j (hS h a) ∧ X 181 553 L (.int (hI h a j.toNatClampNeg) :: st) h Q := X_iald mC_181 dL_law_552
theorem x181_553 {b : Nat} {a0 : Int32} {a1 : Int32} {a2 : Int32} : X 181 553 L [.int a2, .int a1, .int a0, .ref b] h Q ↔ hS h b = (1, 7) ∧ X 98 0 [.ref b, .int a0, .int a1, .int a2] [] h (fun r h' => X 181 556 L (pv r []) h' Q) := X_virt (as := [.int a0, .int a1, .int a2]) (n := 3) (ml := 4) (ck := 7) mC_181 dL_law_553 (by unfold cOk; decide +kernel) ⟨rfl, rfl, by decide, Nat.le_of_ble_eq_true rfl⟩
theorem x181_556 {l0 l1 l3 : Value} {x : Nat} : X 181 556 [l0, l1, .ref x, l3] st h Q ↔ X 181 557 [l0, l1, .ref x, l3] (.ref x :: st) h Q := X_n mC_181 dL_law_556 rfl
theorem x181_557 {l1 l2 l3 : Value} {x : Nat} : X 181 557 [.ref x, l1, l2, l3] st h Q ↔ X 181 558 [.ref x, l1, l2, l3] (.ref x :: st) h Q := X_n mC_181 dL_law_557 rfl
theorem x181_558 {l0 l1 l2 : Value} {x : Int32} : X 181 558 [l0, l1, l2, .int x] st h Q ↔ X 181 559 [l0, l1, l2, .int x] (.int x :: st) h Q := X_n mC_181 dL_law_558 rfl
theorem x181_559 : X 181 559 L st h Q ↔ X 181 560 L (.int 1 :: st) h Q := X_n mC_181 dL_law_559 rfl
theorem x181_560 {x y : Int32} : X 181 560 L (.int y :: .int x :: st) h Q ↔ X 181 561 L (.int (x + y) :: st) h Q := X_n mC_181 dL_law_560 rfl
theorem x181_561 {j : Int32} {a : Nat} : X 181 561 L (.int j :: .ref a :: st) h Q ↔ ib j (hS h a) ∧ X 181 562 L (.int (hI h a j.toNatClampNeg) :: st) h Q := X_iald mC_181 dL_law_561
theorem x181_562 {l1 l2 l3 : Value} {x : Nat} : X 181 562 [.ref x, l1, l2, l3] st h Q ↔ X 181 563 [.ref x, l1, l2, l3] (.ref x :: st) h Q := X_n mC_181 dL_law_562 rfl
theorem x181_563 {l0 l1 l2 : Value} {x : Int32} : X 181 563 [l0, l1, l2, .int x] st h Q ↔ X 181 564 [l0, l1, l2, .int x] (.int x :: st) h Q := X_n mC_181 dL_law_563 rfl
theorem x181_564 : X 181 564 L st h Q ↔ X 181 565 L (.int 2 :: st) h Q := X_n mC_181 dL_law_564 rfl
theorem x181_565 {x y : Int32} : X 181 565 L (.int y :: .int x :: st) h Q ↔ X 181 566 L (.int (x + y) :: st) h Q := X_n mC_181 dL_law_565 rfl
theorem x181_566 {j : Int32} {a : Nat} : X 181 566 L (.int j :: .ref a :: st) h Q ↔ ib j (hS h a) ∧ X 181 567 L (.int (hI h a j.toNatClampNeg) :: st) h Q := X_iald mC_181 dL_law_566
theorem x181_567 {l1 l2 l3 : Value} {x : Nat} : X 181 567 [.ref x, l1, l2, l3] st h Q ↔ X 181 568 [.ref x, l1, l2, l3] (.ref x :: st) h Q := X_n mC_181 dL_law_567 rfl
theorem x181_568 {l0 l1 l2 : Value} {x : Int32} : X 181 568 [l0, l1, l2, .int x] st h Q ↔ X 181 569 [l0, l1, l2, .int x] (.int x :: st) h Q := X_n mC_181 dL_law_568 rfl
theorem x181_569 : X 181 569 L st h Q ↔ X 181 570 L (.int 3 :: st) h Q := X_n mC_181 dL_law_569 rfl
theorem x181_570 {x y : Int32} : X 181 570 L (.int y :: .int x :: st) h Q ↔ X 181 571 L (.int (x + y) :: st) h Q := X_n mC_181 dL_law_570 rfl
theorem x181_571 {j : Int32} {a : Nat} : X 181 571 L (.int j :: .ref a :: st) h Q ↔ ib j (hS h a) ∧ X 181 572 L (.int (hI h a j.toNatClampNeg) :: st) h Q := X_iald mC_181 dL_law_571
theorem x181_572 {b : Nat} {a0 : Int32} {a1 : Int32} {a2 : Int32} {w0 : Value} : X 181 572 L [.int a2, .int a1, .int a0, .ref b, w0] h Q ↔ hS h b = (1, 8) ∧ X 169 0 [.ref b, .int a0, .int a1, .int a2] [] h (fun r h' => X 181 575 L (pv r [w0]) h' Q) := X_virt (as := [.int a0, .int a1, .int a2]) (n := 3) (ml := 4) (ck := 8) mC_181 dL_law_572 (by unfold cOk; decide +kernel) ⟨rfl, rfl, by decide, Nat.le_of_ble_eq_true rfl⟩
theorem x181_575 {x y : Int32} : X 181 575 L (.int y :: .int x :: st) h Q ↔ if x = y then X 181 787 L st h Q else X 181 578 L st h Q := X_ieq mC_181 dL_law_575 (by decide)
theorem x181_578 : X 181 578 L st h Q ↔ X 181 579 L (.int 0 :: st) h Q := X_n mC_181 dL_law_578 rfl
theorem x181_579 {v : Int32} : X 181 579 L [.int v] h Q ↔ (v = 0 ∨ v = 1) ∧ Q (some (.int v)) h := X_retZ mC_181 dL_law_579 (by decide +kernel)
theorem x181_580 {l0 l2 l3 : Value} {x : Nat} : X 181 580 [l0, .ref x, l2, l3] st h Q ↔ X 181 581 [l0, .ref x, l2, l3] (.ref x :: st) h Q := X_n mC_181 dL_law_580 rfl
theorem x181_581 {b : Nat} : X 181 581 L [.ref b] h Q ↔ hS h b = (1, 7) ∧ X 99 0 [.ref b, .null] [] h (fun r h' => X 181 584 L (pv r []) h' Q) := X_virt (as := []) (n := 0) (ml := 2) (ck := 7) mC_181 dL_law_581 (by unfold cOk; decide +kernel) ⟨rfl, rfl, by decide, Nat.le_of_ble_eq_true rfl⟩
theorem x181_584 {l0 l1 l3 : Value} {x : Nat} : X 181 584 [l0, l1, .ref x, l3] st h Q ↔ X 181 585 [l0, l1, .ref x, l3] (.ref x :: st) h Q := X_n mC_181 dL_law_584 rfl
theorem x181_585 {b : Nat} {w0 : Value} : X 181 585 L [.ref b, w0] h Q ↔ hS h b = (1, 8) ∧ X 170 0 [.ref b, .null] [] h (fun r h' => X 181 588 L (pv r [w0]) h' Q) := X_virt (as := []) (n := 0) (ml := 2) (ck := 8) mC_181 dL_law_585 (by unfold cOk; decide +kernel) ⟨rfl, rfl, by decide, Nat.le_of_ble_eq_true rfl⟩
theorem x181_588 {x y : Int32} : X 181 588 L (.int y :: .int x :: st) h Q ↔ if x = y then X 181 787 L st h Q else X 181 591 L st h Q := X_ieq mC_181 dL_law_588 (by decide)
theorem x181_591 : X 181 591 L st h Q ↔ X 181 592 L (.int 0 :: st) h Q := X_n mC_181 dL_law_591 rfl
theorem x181_592 {v : Int32} : X 181 592 L [.int v] h Q ↔ (v = 0 ∨ v = 1) ∧ Q (some (.int v)) h := X_retZ mC_181 dL_law_592 (by decide +kernel)
theorem x181_593 {l0 l2 l3 : Value} {x : Nat} : X 181 593 [l0, .ref x, l2, l3] st h Q ↔ X 181 594 [l0, .ref x, l2, l3] (.ref x :: st) h Q := X_n mC_181 dL_law_593 rfl
theorem x181_594 {b : Nat} : X 181 594 L [.ref b] h Q ↔ hS h b = (1, 7) ∧ X 100 0 [.ref b, .null, .null] [] h (fun r h' => X 181 597 L (pv r []) h' Q) := X_virt (as := []) (n := 0) (ml := 3) (ck := 7) mC_181 dL_law_594 (by unfold cOk; decide +kernel) ⟨rfl, rfl, by decide, Nat.le_of_ble_eq_true rfl⟩
theorem x181_597 {l0 l1 l3 : Value} {x : Nat} : X 181 597 [l0, l1, .ref x, l3] st h Q ↔ X 181 598 [l0, l1, .ref x, l3] (.ref x :: st) h Q := X_n mC_181 dL_law_597 rfl
theorem x181_598 {b : Nat} {w0 : Value} : X 181 598 L [.ref b, w0] h Q ↔ hS h b = (1, 8) ∧ X 171 0 [.ref b, .null, .null, .null, .null] [] h (fun r h' => X 181 601 L (pv r [w0]) h' Q) := X_virt (as := []) (n := 0) (ml := 5) (ck := 8) mC_181 dL_law_598 (by unfold cOk; decide +kernel) ⟨rfl, rfl, by decide, Nat.le_of_ble_eq_true rfl⟩
theorem x181_601 {x y : Int32} : X 181 601 L (.int y :: .int x :: st) h Q ↔ if x = y then X 181 787 L st h Q else X 181 604 L st h Q := X_ieq mC_181 dL_law_601 (by decide)
theorem x181_604 : X 181 604 L st h Q ↔ X 181 605 L (.int 0 :: st) h Q := X_n mC_181 dL_law_604 rfl
theorem x181_605 {v : Int32} : X 181 605 L [.int v] h Q ↔ (v = 0 ∨ v = 1) ∧ Q (some (.int v)) h := X_retZ mC_181 dL_law_605 (by decide +kernel)
theorem x181_606 {l0 l2 l3 : Value} {x : Nat} : X 181 606 [l0, .ref x, l2, l3] st h Q ↔ X 181 607 [l0, .ref x, l2, l3] (.ref x :: st) h Q := X_n mC_181 dL_law_606 rfl
theorem x181_607 {l1 l2 l3 : Value} {x : Nat} : X 181 607 [.ref x, l1, l2, l3] st h Q ↔ X 181 608 [.ref x, l1, l2, l3] (.ref x :: st) h Q := X_n mC_181 dL_law_607 rfl
theorem x181_608 {l0 l1 l2 : Value} {x : Int32} : X 181 608 [l0, l1, l2, .int x] st h Q ↔ X 181 609 [l0, l1, l2, .int x] (.int x :: st) h Q := X_n mC_181 dL_law_608 rfl
theorem x181_609 : X 181 609 L st h Q ↔ X 181 610 L (.int 1 :: st) h Q := X_n mC_181 dL_law_609 rfl
theorem x181_610 {x y : Int32} : X 181 610 L (.int y :: .int x :: st) h Q ↔ X 181 611 L (.int (x + y) :: st) h Q := X_n mC_181 dL_law_610 rfl
theorem x181_611 {j : Int32} {a : Nat} : X 181 611 L (.int j :: .ref a :: st) h Q ↔ ib j (hS h a) ∧ X 181 612 L (.int (hI h a j.toNatClampNeg) :: st) h Q := X_iald mC_181 dL_law_611
theorem x181_612 {b : Nat} {a0 : Int32} : X 181 612 L [.int a0, .ref b] h Q ↔ hS h b = (1, 7) ∧ X 101 0 [.ref b, .int a0] [] h (fun r h' => X 181 615 L (pv r []) h' Q) := X_virt (as := [.int a0]) (n := 1) (ml := 2) (ck := 7) mC_181 dL_law_612 (by unfold cOk; decide +kernel) ⟨rfl, rfl, by decide, Nat.le_of_ble_eq_true rfl⟩
theorem x181_615 {l0 l1 l3 : Value} {x : Nat} : X 181 615 [l0, l1, .ref x, l3] st h Q ↔ X 181 616 [l0, l1, .ref x, l3] (.ref x :: st) h Q := X_n mC_181 dL_law_615 rfl
theorem x181_616 {l1 l2 l3 : Value} {x : Nat} : X 181 616 [.ref x, l1, l2, l3] st h Q ↔ X 181 617 [.ref x, l1, l2, l3] (.ref x :: st) h Q := X_n mC_181 dL_law_616 rfl
theorem x181_617 {l0 l1 l2 : Value} {x : Int32} : X 181 617 [l0, l1, l2, .int x] st h Q ↔ X 181 618 [l0, l1, l2, .int x] (.int x :: st) h Q := X_n mC_181 dL_law_617 rfl
theorem x181_618 : X 181 618 L st h Q ↔ X 181 619 L (.int 1 :: st) h Q := X_n mC_181 dL_law_618 rfl
theorem x181_619 {x y : Int32} : X 181 619 L (.int y :: .int x :: st) h Q ↔ X 181 620 L (.int (x + y) :: st) h Q := X_n mC_181 dL_law_619 rfl
theorem x181_620 {j : Int32} {a : Nat} : X 181 620 L (.int j :: .ref a :: st) h Q ↔ ib j (hS h a) ∧ X 181 621 L (.int (hI h a j.toNatClampNeg) :: st) h Q := X_iald mC_181 dL_law_620
theorem x181_621 {b : Nat} {a0 : Int32} {w0 : Value} : X 181 621 L [.int a0, .ref b, w0] h Q ↔ hS h b = (1, 8) ∧ X 172 0 [.ref b, .int a0, .null, .null] [] h (fun r h' => X 181 624 L (pv r [w0]) h' Q) := X_virt (as := [.int a0]) (n := 1) (ml := 4) (ck := 8) mC_181 dL_law_621 (by unfold cOk; decide +kernel) ⟨rfl, rfl, by decide, Nat.le_of_ble_eq_true rfl⟩
theorem x181_624 {x y : Int32} : X 181 624 L (.int y :: .int x :: st) h Q ↔ if x = y then X 181 787 L st h Q else X 181 627 L st h Q := X_ieq mC_181 dL_law_624 (by decide)
theorem x181_627 : X 181 627 L st h Q ↔ X 181 628 L (.int 0 :: st) h Q := X_n mC_181 dL_law_627 rfl
theorem x181_628 {v : Int32} : X 181 628 L [.int v] h Q ↔ (v = 0 ∨ v = 1) ∧ Q (some (.int v)) h := X_retZ mC_181 dL_law_628 (by decide +kernel)
theorem x181_629 {l0 l2 l3 : Value} {x : Nat} : X 181 629 [l0, .ref x, l2, l3] st h Q ↔ X 181 630 [l0, .ref x, l2, l3] (.ref x :: st) h Q := X_n mC_181 dL_law_629 rfl
theorem x181_630 {l1 l2 l3 : Value} {x : Nat} : X 181 630 [.ref x, l1, l2, l3] st h Q ↔ X 181 631 [.ref x, l1, l2, l3] (.ref x :: st) h Q := X_n mC_181 dL_law_630 rfl
theorem x181_631 {l0 l1 l2 : Value} {x : Int32} : X 181 631 [l0, l1, l2, .int x] st h Q ↔ X 181 632 [l0, l1, l2, .int x] (.int x :: st) h Q := X_n mC_181 dL_law_631 rfl
theorem x181_632 : X 181 632 L st h Q ↔ X 181 633 L (.int 1 :: st) h Q := X_n mC_181 dL_law_632 rfl
theorem x181_633 {x y : Int32} : X 181 633 L (.int y :: .int x :: st) h Q ↔ X 181 634 L (.int (x + y) :: st) h Q := X_n mC_181 dL_law_633 rfl
theorem x181_634 {j : Int32} {a : Nat} : X 181 634 L (.int j :: .ref a :: st) h Q ↔ ib j (hS h a) ∧ X 181 635 L (.int (hI h a j.toNatClampNeg) :: st) h Q := X_iald mC_181 dL_law_634
theorem x181_635 {l1 l2 l3 : Value} {x : Nat} : X 181 635 [.ref x, l1, l2, l3] st h Q ↔ X 181 636 [.ref x, l1, l2, l3] (.ref x :: st) h Q := X_n mC_181 dL_law_635 rfl
theorem x181_636 {l0 l1 l2 : Value} {x : Int32} : X 181 636 [l0, l1, l2, .int x] st h Q ↔ X 181 637 [l0, l1, l2, .int x] (.int x :: st) h Q := X_n mC_181 dL_law_636 rfl
theorem x181_637 : X 181 637 L st h Q ↔ X 181 638 L (.int 2 :: st) h Q := X_n mC_181 dL_law_637 rfl
theorem x181_638 {x y : Int32} : X 181 638 L (.int y :: .int x :: st) h Q ↔ X 181 639 L (.int (x + y) :: st) h Q := X_n mC_181 dL_law_638 rfl
theorem x181_639 {j : Int32} {a : Nat} : X 181 639 L (.int j :: .ref a :: st) h Q ↔ ib j (hS h a) ∧ X 181 640 L (.int (hI h a j.toNatClampNeg) :: st) h Q := X_iald mC_181 dL_law_639
theorem x181_640 {l1 l2 l3 : Value} {x : Nat} : X 181 640 [.ref x, l1, l2, l3] st h Q ↔ X 181 641 [.ref x, l1, l2, l3] (.ref x :: st) h Q := X_n mC_181 dL_law_640 rfl
theorem x181_641 {l0 l1 l2 : Value} {x : Int32} : X 181 641 [l0, l1, l2, .int x] st h Q ↔ X 181 642 [l0, l1, l2, .int x] (.int x :: st) h Q := X_n mC_181 dL_law_641 rfl
theorem x181_642 : X 181 642 L st h Q ↔ X 181 643 L (.int 3 :: st) h Q := X_n mC_181 dL_law_642 rfl
theorem x181_643 {x y : Int32} : X 181 643 L (.int y :: .int x :: st) h Q ↔ X 181 644 L (.int (x + y) :: st) h Q := X_n mC_181 dL_law_643 rfl
theorem x181_644 {j : Int32} {a : Nat} : X 181 644 L (.int j :: .ref a :: st) h Q ↔ ib j (hS h a) ∧ X 181 645 L (.int (hI h a j.toNatClampNeg) :: st) h Q := X_iald mC_181 dL_law_644
theorem x181_645 {b : Nat} {a0 : Int32} {a1 : Int32} {a2 : Int32} : X 181 645 L [.int a2, .int a1, .int a0, .ref b] h Q ↔ hS h b = (1, 7) ∧ X 102 0 [.ref b, .int a0, .int a1, .int a2] [] h (fun r h' => X 181 648 L (pv r []) h' Q) := X_virt (as := [.int a0, .int a1, .int a2]) (n := 3) (ml := 4) (ck := 7) mC_181 dL_law_645 (by unfold cOk; decide +kernel) ⟨rfl, rfl, by decide, Nat.le_of_ble_eq_true rfl⟩
theorem x181_648 {l0 l1 l3 : Value} {x : Nat} : X 181 648 [l0, l1, .ref x, l3] st h Q ↔ X 181 649 [l0, l1, .ref x, l3] (.ref x :: st) h Q := X_n mC_181 dL_law_648 rfl
theorem x181_649 {l1 l2 l3 : Value} {x : Nat} : X 181 649 [.ref x, l1, l2, l3] st h Q ↔ X 181 650 [.ref x, l1, l2, l3] (.ref x :: st) h Q := X_n mC_181 dL_law_649 rfl
theorem x181_650 {l0 l1 l2 : Value} {x : Int32} : X 181 650 [l0, l1, l2, .int x] st h Q ↔ X 181 651 [l0, l1, l2, .int x] (.int x :: st) h Q := X_n mC_181 dL_law_650 rfl
theorem x181_651 : X 181 651 L st h Q ↔ X 181 652 L (.int 1 :: st) h Q := X_n mC_181 dL_law_651 rfl
theorem x181_652 {x y : Int32} : X 181 652 L (.int y :: .int x :: st) h Q ↔ X 181 653 L (.int (x + y) :: st) h Q := X_n mC_181 dL_law_652 rfl
theorem x181_653 {j : Int32} {a : Nat} : X 181 653 L (.int j :: .ref a :: st) h Q ↔ ib j (hS h a) ∧ X 181 654 L (.int (hI h a j.toNatClampNeg) :: st) h Q := X_iald mC_181 dL_law_653
theorem x181_654 {l1 l2 l3 : Value} {x : Nat} : X 181 654 [.ref x, l1, l2, l3] st h Q ↔ X 181 655 [.ref x, l1, l2, l3] (.ref x :: st) h Q := X_n mC_181 dL_law_654 rfl
theorem x181_655 {l0 l1 l2 : Value} {x : Int32} : X 181 655 [l0, l1, l2, .int x] st h Q ↔ X 181 656 [l0, l1, l2, .int x] (.int x :: st) h Q := X_n mC_181 dL_law_655 rfl
theorem x181_656 : X 181 656 L st h Q ↔ X 181 657 L (.int 2 :: st) h Q := X_n mC_181 dL_law_656 rfl
theorem x181_657 {x y : Int32} : X 181 657 L (.int y :: .int x :: st) h Q ↔ X 181 658 L (.int (x + y) :: st) h Q := X_n mC_181 dL_law_657 rfl
theorem x181_658 {j : Int32} {a : Nat} : X 181 658 L (.int j :: .ref a :: st) h Q ↔ ib j (hS h a) ∧ X 181 659 L (.int (hI h a j.toNatClampNeg) :: st) h Q := X_iald mC_181 dL_law_658
theorem x181_659 {l1 l2 l3 : Value} {x : Nat} : X 181 659 [.ref x, l1, l2, l3] st h Q ↔ X 181 660 [.ref x, l1, l2, l3] (.ref x :: st) h Q := X_n mC_181 dL_law_659 rfl
theorem x181_660 {l0 l1 l2 : Value} {x : Int32} : X 181 660 [l0, l1, l2, .int x] st h Q ↔ X 181 661 [l0, l1, l2, .int x] (.int x :: st) h Q := X_n mC_181 dL_law_660 rfl
theorem x181_661 : X 181 661 L st h Q ↔ X 181 662 L (.int 3 :: st) h Q := X_n mC_181 dL_law_661 rfl
theorem x181_662 {x y : Int32} : X 181 662 L (.int y :: .int x :: st) h Q ↔ X 181 663 L (.int (x + y) :: st) h Q := X_n mC_181 dL_law_662 rfl
theorem x181_663 {j : Int32} {a : Nat} : X 181 663 L (.int j :: .ref a :: st) h Q ↔ ib j (hS h a) ∧ X 181 664 L (.int (hI h a j.toNatClampNeg) :: st) h Q := X_iald mC_181 dL_law_663
theorem x181_664 {b : Nat} {a0 : Int32} {a1 : Int32} {a2 : Int32} {w0 : Value} : X 181 664 L [.int a2, .int a1, .int a0, .ref b, w0] h Q ↔ hS h b = (1, 8) ∧ X 173 0 [.ref b, .int a0, .int a1, .int a2, .null, .null, .null, .null, .null] [] h (fun r h' => X 181 667 L (pv r [w0]) h' Q) := X_virt (as := [.int a0, .int a1, .int a2]) (n := 3) (ml := 9) (ck := 8) mC_181 dL_law_664 (by unfold cOk; decide +kernel) ⟨rfl, rfl, by decide, Nat.le_of_ble_eq_true rfl⟩
theorem x181_667 {x y : Int32} : X 181 667 L (.int y :: .int x :: st) h Q ↔ if x = y then X 181 787 L st h Q else X 181 670 L st h Q := X_ieq mC_181 dL_law_667 (by decide)
theorem x181_670 : X 181 670 L st h Q ↔ X 181 671 L (.int 0 :: st) h Q := X_n mC_181 dL_law_670 rfl
theorem x181_671 {v : Int32} : X 181 671 L [.int v] h Q ↔ (v = 0 ∨ v = 1) ∧ Q (some (.int v)) h := X_retZ mC_181 dL_law_671 (by decide +kernel)
theorem x181_672 {l0 l2 l3 : Value} {x : Nat} : X 181 672 [l0, .ref x, l2, l3] st h Q ↔ X 181 673 [l0, .ref x, l2, l3] (.ref x :: st) h Q := X_n mC_181 dL_law_672 rfl
theorem x181_673 {l1 l2 l3 : Value} {x : Nat} : X 181 673 [.ref x, l1, l2, l3] st h Q ↔ X 181 674 [.ref x, l1, l2, l3] (.ref x :: st) h Q := X_n mC_181 dL_law_673 rfl
theorem x181_674 {l0 l1 l2 : Value} {x : Int32} : X 181 674 [l0, l1, l2, .int x] st h Q ↔ X 181 675 [l0, l1, l2, .int x] (.int x :: st) h Q := X_n mC_181 dL_law_674 rfl
theorem x181_675 : X 181 675 L st h Q ↔ X 181 676 L (.int 1 :: st) h Q := X_n mC_181 dL_law_675 rfl
theorem x181_676 {x y : Int32} : X 181 676 L (.int y :: .int x :: st) h Q ↔ X 181 677 L (.int (x + y) :: st) h Q := X_n mC_181 dL_law_676 rfl
theorem x181_677 {j : Int32} {a : Nat} : X 181 677 L (.int j :: .ref a :: st) h Q ↔ ib j (hS h a) ∧ X 181 678 L (.int (hI h a j.toNatClampNeg) :: st) h Q := X_iald mC_181 dL_law_677
theorem x181_678 {b : Nat} {a0 : Int32} : X 181 678 L [.int a0, .ref b] h Q ↔ hS h b = (1, 7) ∧ X 103 0 [.ref b, .int a0] [] h (fun r h' => X 181 681 L (pv r []) h' Q) := X_virt (as := [.int a0]) (n := 1) (ml := 2) (ck := 7) mC_181 dL_law_678 (by unfold cOk; decide +kernel) ⟨rfl, rfl, by decide, Nat.le_of_ble_eq_true rfl⟩
theorem x181_681 {l0 l1 l3 : Value} {x : Nat} : X 181 681 [l0, l1, .ref x, l3] st h Q ↔ X 181 682 [l0, l1, .ref x, l3] (.ref x :: st) h Q := X_n mC_181 dL_law_681 rfl
theorem x181_682 {l1 l2 l3 : Value} {x : Nat} : X 181 682 [.ref x, l1, l2, l3] st h Q ↔ X 181 683 [.ref x, l1, l2, l3] (.ref x :: st) h Q := X_n mC_181 dL_law_682 rfl
theorem x181_683 {l0 l1 l2 : Value} {x : Int32} : X 181 683 [l0, l1, l2, .int x] st h Q ↔ X 181 684 [l0, l1, l2, .int x] (.int x :: st) h Q := X_n mC_181 dL_law_683 rfl
theorem x181_684 : X 181 684 L st h Q ↔ X 181 685 L (.int 1 :: st) h Q := X_n mC_181 dL_law_684 rfl
theorem x181_685 {x y : Int32} : X 181 685 L (.int y :: .int x :: st) h Q ↔ X 181 686 L (.int (x + y) :: st) h Q := X_n mC_181 dL_law_685 rfl
theorem x181_686 {j : Int32} {a : Nat} : X 181 686 L (.int j :: .ref a :: st) h Q ↔ ib j (hS h a) ∧ X 181 687 L (.int (hI h a j.toNatClampNeg) :: st) h Q := X_iald mC_181 dL_law_686
theorem x181_687 {b : Nat} {a0 : Int32} {w0 : Value} : X 181 687 L [.int a0, .ref b, w0] h Q ↔ hS h b = (1, 8) ∧ X 174 0 [.ref b, .int a0] [] h (fun r h' => X 181 690 L (pv r [w0]) h' Q) := X_virt (as := [.int a0]) (n := 1) (ml := 2) (ck := 8) mC_181 dL_law_687 (by unfold cOk; decide +kernel) ⟨rfl, rfl, by decide, Nat.le_of_ble_eq_true rfl⟩
theorem x181_690 {x y : Int32} : X 181 690 L (.int y :: .int x :: st) h Q ↔ if x = y then X 181 787 L st h Q else X 181 693 L st h Q := X_ieq mC_181 dL_law_690 (by decide)
theorem x181_693 : X 181 693 L st h Q ↔ X 181 694 L (.int 0 :: st) h Q := X_n mC_181 dL_law_693 rfl
theorem x181_694 {v : Int32} : X 181 694 L [.int v] h Q ↔ (v = 0 ∨ v = 1) ∧ Q (some (.int v)) h := X_retZ mC_181 dL_law_694 (by decide +kernel)
theorem x181_695 {l0 l2 l3 : Value} {x : Nat} : X 181 695 [l0, .ref x, l2, l3] st h Q ↔ X 181 696 [l0, .ref x, l2, l3] (.ref x :: st) h Q := X_n mC_181 dL_law_695 rfl
theorem x181_696 {l1 l2 l3 : Value} {x : Nat} : X 181 696 [.ref x, l1, l2, l3] st h Q ↔ X 181 697 [.ref x, l1, l2, l3] (.ref x :: st) h Q := X_n mC_181 dL_law_696 rfl
theorem x181_697 {l0 l1 l2 : Value} {x : Int32} : X 181 697 [l0, l1, l2, .int x] st h Q ↔ X 181 698 [l0, l1, l2, .int x] (.int x :: st) h Q := X_n mC_181 dL_law_697 rfl
theorem x181_698 : X 181 698 L st h Q ↔ X 181 699 L (.int 1 :: st) h Q := X_n mC_181 dL_law_698 rfl
theorem x181_699 {x y : Int32} : X 181 699 L (.int y :: .int x :: st) h Q ↔ X 181 700 L (.int (x + y) :: st) h Q := X_n mC_181 dL_law_699 rfl
theorem x181_700 {j : Int32} {a : Nat} : X 181 700 L (.int j :: .ref a :: st) h Q ↔ ib j (hS h a) ∧ X 181 701 L (.int (hI h a j.toNatClampNeg) :: st) h Q := X_iald mC_181 dL_law_700
theorem x181_701 {l1 l2 l3 : Value} {x : Nat} : X 181 701 [.ref x, l1, l2, l3] st h Q ↔ X 181 702 [.ref x, l1, l2, l3] (.ref x :: st) h Q := X_n mC_181 dL_law_701 rfl
theorem x181_702 {l0 l1 l2 : Value} {x : Int32} : X 181 702 [l0, l1, l2, .int x] st h Q ↔ X 181 703 [l0, l1, l2, .int x] (.int x :: st) h Q := X_n mC_181 dL_law_702 rfl
theorem x181_703 : X 181 703 L st h Q ↔ X 181 704 L (.int 2 :: st) h Q := X_n mC_181 dL_law_703 rfl
theorem x181_704 {x y : Int32} : X 181 704 L (.int y :: .int x :: st) h Q ↔ X 181 705 L (.int (x + y) :: st) h Q := X_n mC_181 dL_law_704 rfl
theorem x181_705 {j : Int32} {a : Nat} : X 181 705 L (.int j :: .ref a :: st) h Q ↔ ib j (hS h a) ∧ X 181 706 L (.int (hI h a j.toNatClampNeg) :: st) h Q := X_iald mC_181 dL_law_705
theorem x181_706 {l1 l2 l3 : Value} {x : Nat} : X 181 706 [.ref x, l1, l2, l3] st h Q ↔ X 181 707 [.ref x, l1, l2, l3] (.ref x :: st) h Q := X_n mC_181 dL_law_706 rfl
theorem x181_707 {l0 l1 l2 : Value} {x : Int32} : X 181 707 [l0, l1, l2, .int x] st h Q ↔ X 181 708 [l0, l1, l2, .int x] (.int x :: st) h Q := X_n mC_181 dL_law_707 rfl
theorem x181_708 : X 181 708 L st h Q ↔ X 181 709 L (.int 3 :: st) h Q := X_n mC_181 dL_law_708 rfl
theorem x181_709 {x y : Int32} : X 181 709 L (.int y :: .int x :: st) h Q ↔ X 181 710 L (.int (x + y) :: st) h Q := X_n mC_181 dL_law_709 rfl
theorem x181_710 {j : Int32} {a : Nat} : X 181 710 L (.int j :: .ref a :: st) h Q ↔ ib j (hS h a) ∧ X 181 711 L (.int (hI h a j.toNatClampNeg) :: st) h Q := X_iald mC_181 dL_law_710
theorem x181_711 {b : Nat} {a0 : Int32} {a1 : Int32} {a2 : Int32} : X 181 711 L [.int a2, .int a1, .int a0, .ref b] h Q ↔ hS h b = (1, 7) ∧ X 104 0 [.ref b, .int a0, .int a1, .int a2, .null] [] h (fun r h' => X 181 714 L (pv r []) h' Q) := X_virt (as := [.int a0, .int a1, .int a2]) (n := 3) (ml := 5) (ck := 7) mC_181 dL_law_711 (by unfold cOk; decide +kernel) ⟨rfl, rfl, by decide, Nat.le_of_ble_eq_true rfl⟩
theorem x181_714 {l0 l1 l3 : Value} {x : Nat} : X 181 714 [l0, l1, .ref x, l3] st h Q ↔ X 181 715 [l0, l1, .ref x, l3] (.ref x :: st) h Q := X_n mC_181 dL_law_714 rfl
theorem x181_715 {l1 l2 l3 : Value} {x : Nat} : X 181 715 [.ref x, l1, l2, l3] st h Q ↔ X 181 716 [.ref x, l1, l2, l3] (.ref x :: st) h Q := X_n mC_181 dL_law_715 rfl
theorem x181_716 {l0 l1 l2 : Value} {x : Int32} : X 181 716 [l0, l1, l2, .int x] st h Q ↔ X 181 717 [l0, l1, l2, .int x] (.int x :: st) h Q := X_n mC_181 dL_law_716 rfl
theorem x181_717 : X 181 717 L st h Q ↔ X 181 718 L (.int 1 :: st) h Q := X_n mC_181 dL_law_717 rfl
theorem x181_718 {x y : Int32} : X 181 718 L (.int y :: .int x :: st) h Q ↔ X 181 719 L (.int (x + y) :: st) h Q := X_n mC_181 dL_law_718 rfl
theorem x181_719 {j : Int32} {a : Nat} : X 181 719 L (.int j :: .ref a :: st) h Q ↔ ib j (hS h a) ∧ X 181 720 L (.int (hI h a j.toNatClampNeg) :: st) h Q := X_iald mC_181 dL_law_719
theorem x181_720 {l1 l2 l3 : Value} {x : Nat} : X 181 720 [.ref x, l1, l2, l3] st h Q ↔ X 181 721 [.ref x, l1, l2, l3] (.ref x :: st) h Q := X_n mC_181 dL_law_720 rfl
theorem x181_721 {l0 l1 l2 : Value} {x : Int32} : X 181 721 [l0, l1, l2, .int x] st h Q ↔ X 181 722 [l0, l1, l2, .int x] (.int x :: st) h Q := X_n mC_181 dL_law_721 rfl
theorem x181_722 : X 181 722 L st h Q ↔ X 181 723 L (.int 2 :: st) h Q := X_n mC_181 dL_law_722 rfl
theorem x181_723 {x y : Int32} : X 181 723 L (.int y :: .int x :: st) h Q ↔ X 181 724 L (.int (x + y) :: st) h Q := X_n mC_181 dL_law_723 rfl
theorem x181_724 {j : Int32} {a : Nat} : X 181 724 L (.int j :: .ref a :: st) h Q ↔ ib j (hS h a) ∧ X 181 725 L (.int (hI h a j.toNatClampNeg) :: st) h Q := X_iald mC_181 dL_law_724
theorem x181_725 {l1 l2 l3 : Value} {x : Nat} : X 181 725 [.ref x, l1, l2, l3] st h Q ↔ X 181 726 [.ref x, l1, l2, l3] (.ref x :: st) h Q := X_n mC_181 dL_law_725 rfl
theorem x181_726 {l0 l1 l2 : Value} {x : Int32} : X 181 726 [l0, l1, l2, .int x] st h Q ↔ X 181 727 [l0, l1, l2, .int x] (.int x :: st) h Q := X_n mC_181 dL_law_726 rfl
theorem x181_727 : X 181 727 L st h Q ↔ X 181 728 L (.int 3 :: st) h Q := X_n mC_181 dL_law_727 rfl
theorem x181_728 {x y : Int32} : X 181 728 L (.int y :: .int x :: st) h Q ↔ X 181 729 L (.int (x + y) :: st) h Q := X_n mC_181 dL_law_728 rfl
theorem x181_729 {j : Int32} {a : Nat} : X 181 729 L (.int j :: .ref a :: st) h Q ↔ ib j (hS h a) ∧ X 181 730 L (.int (hI h a j.toNatClampNeg) :: st) h Q := X_iald mC_181 dL_law_729
theorem x181_730 {b : Nat} {a0 : Int32} {a1 : Int32} {a2 : Int32} {w0 : Value} : X 181 730 L [.int a2, .int a1, .int a0, .ref b, w0] h Q ↔ hS h b = (1, 8) ∧ X 175 0 [.ref b, .int a0, .int a1, .int a2, .null, .null, .null, .null, .null] [] h (fun r h' => X 181 733 L (pv r [w0]) h' Q) := X_virt (as := [.int a0, .int a1, .int a2]) (n := 3) (ml := 9) (ck := 8) mC_181 dL_law_730 (by unfold cOk; decide +kernel) ⟨rfl, rfl, by decide, Nat.le_of_ble_eq_true rfl⟩
theorem x181_733 {x y : Int32} : X 181 733 L (.int y :: .int x :: st) h Q ↔ if x = y then X 181 787 L st h Q else X 181 736 L st h Q := X_ieq mC_181 dL_law_733 (by decide)
theorem x181_736 : X 181 736 L st h Q ↔ X 181 737 L (.int 0 :: st) h Q := X_n mC_181 dL_law_736 rfl
theorem x181_737 {v : Int32} : X 181 737 L [.int v] h Q ↔ (v = 0 ∨ v = 1) ∧ Q (some (.int v)) h := X_retZ mC_181 dL_law_737 (by decide +kernel)
theorem x181_738 {l0 l2 l3 : Value} {x : Nat} : X 181 738 [l0, .ref x, l2, l3] st h Q ↔ X 181 739 [l0, .ref x, l2, l3] (.ref x :: st) h Q := X_n mC_181 dL_law_738 rfl
theorem x181_739 {b : Nat} : X 181 739 L [.ref b] h Q ↔ hS h b = (1, 7) ∧ X 105 0 [.ref b] [] h (fun r h' => X 181 742 L (pv r []) h' Q) := X_virt (as := []) (n := 0) (ml := 1) (ck := 7) mC_181 dL_law_739 (by unfold cOk; decide +kernel) ⟨rfl, rfl, by decide, Nat.le_of_ble_eq_true rfl⟩
theorem x181_742 {l0 l1 l3 : Value} {x : Nat} : X 181 742 [l0, l1, .ref x, l3] st h Q ↔ X 181 743 [l0, l1, .ref x, l3] (.ref x :: st) h Q := X_n mC_181 dL_law_742 rfl
theorem x181_743 {b : Nat} {w0 : Value} : X 181 743 L [.ref b, w0] h Q ↔ hS h b = (1, 8) ∧ X 176 0 [.ref b, .null] [] h (fun r h' => X 181 746 L (pv r [w0]) h' Q) := X_virt (as := []) (n := 0) (ml := 2) (ck := 8) mC_181 dL_law_743 (by unfold cOk; decide +kernel) ⟨rfl, rfl, by decide, Nat.le_of_ble_eq_true rfl⟩
theorem x181_746 {x y : Int32} : X 181 746 L (.int y :: .int x :: st) h Q ↔ if x = y then X 181 787 L st h Q else X 181 749 L st h Q := X_ieq mC_181 dL_law_746 (by decide)
theorem x181_749 : X 181 749 L st h Q ↔ X 181 750 L (.int 0 :: st) h Q := X_n mC_181 dL_law_749 rfl
theorem x181_750 {v : Int32} : X 181 750 L [.int v] h Q ↔ (v = 0 ∨ v = 1) ∧ Q (some (.int v)) h := X_retZ mC_181 dL_law_750 (by decide +kernel)
theorem x181_751 {l0 l2 l3 : Value} {x : Nat} : X 181 751 [l0, .ref x, l2, l3] st h Q ↔ X 181 752 [l0, .ref x, l2, l3] (.ref x :: st) h Q := X_n mC_181 dL_law_751 rfl
theorem x181_752 {b : Nat} : X 181 752 L [.ref b] h Q ↔ hS h b = (1, 7) ∧ X 106 0 [.ref b] [] h (fun r h' => X 181 755 L (pv r []) h' Q) := X_virt (as := []) (n := 0) (ml := 1) (ck := 7) mC_181 dL_law_752 (by unfold cOk; decide +kernel) ⟨rfl, rfl, by decide, Nat.le_of_ble_eq_true rfl⟩
theorem x181_755 {l0 l1 l3 : Value} {x : Nat} : X 181 755 [l0, l1, .ref x, l3] st h Q ↔ X 181 756 [l0, l1, .ref x, l3] (.ref x :: st) h Q := X_n mC_181 dL_law_755 rfl
theorem x181_756 {b : Nat} {w0 : Value} : X 181 756 L [.ref b, w0] h Q ↔ hS h b = (1, 8) ∧ X 177 0 [.ref b, .null] [] h (fun r h' => X 181 759 L (pv r [w0]) h' Q) := X_virt (as := []) (n := 0) (ml := 2) (ck := 8) mC_181 dL_law_756 (by unfold cOk; decide +kernel) ⟨rfl, rfl, by decide, Nat.le_of_ble_eq_true rfl⟩
theorem x181_759 {x y : Int32} : X 181 759 L (.int y :: .int x :: st) h Q ↔ if x = y then X 181 787 L st h Q else X 181 762 L st h Q := X_ieq mC_181 dL_law_759 (by decide)
theorem x181_762 : X 181 762 L st h Q ↔ X 181 763 L (.int 0 :: st) h Q := X_n mC_181 dL_law_762 rfl
theorem x181_763 {v : Int32} : X 181 763 L [.int v] h Q ↔ (v = 0 ∨ v = 1) ∧ Q (some (.int v)) h := X_retZ mC_181 dL_law_763 (by decide +kernel)
theorem x181_764 {l0 l2 l3 : Value} {x : Nat} : X 181 764 [l0, .ref x, l2, l3] st h Q ↔ X 181 765 [l0, .ref x, l2, l3] (.ref x :: st) h Q := X_n mC_181 dL_law_764 rfl
theorem x181_765 {l1 l2 l3 : Value} {x : Nat} : X 181 765 [.ref x, l1, l2, l3] st h Q ↔ X 181 766 [.ref x, l1, l2, l3] (.ref x :: st) h Q := X_n mC_181 dL_law_765 rfl
theorem x181_766 {l0 l1 l2 : Value} {x : Int32} : X 181 766 [l0, l1, l2, .int x] st h Q ↔ X 181 767 [l0, l1, l2, .int x] (.int x :: st) h Q := X_n mC_181 dL_law_766 rfl
theorem x181_767 : X 181 767 L st h Q ↔ X 181 768 L (.int 1 :: st) h Q := X_n mC_181 dL_law_767 rfl
theorem x181_768 {x y : Int32} : X 181 768 L (.int y :: .int x :: st) h Q ↔ X 181 769 L (.int (x + y) :: st) h Q := X_n mC_181 dL_law_768 rfl
theorem x181_769 {j : Int32} {a : Nat} : X 181 769 L (.int j :: .ref a :: st) h Q ↔ ib j (hS h a) ∧ X 181 770 L (.int (hI h a j.toNatClampNeg) :: st) h Q := X_iald mC_181 dL_law_769
theorem x181_770 {b : Nat} {a0 : Int32} : X 181 770 L [.int a0, .ref b] h Q ↔ hS h b = (1, 7) ∧ X 107 0 [.ref b, .int a0] [] h (fun r h' => X 181 773 L (pv r []) h' Q) := X_virt (as := [.int a0]) (n := 1) (ml := 2) (ck := 7) mC_181 dL_law_770 (by unfold cOk; decide +kernel) ⟨rfl, rfl, by decide, Nat.le_of_ble_eq_true rfl⟩
theorem x181_773 {l0 l1 l3 : Value} {x : Nat} : X 181 773 [l0, l1, .ref x, l3] st h Q ↔ X 181 774 [l0, l1, .ref x, l3] (.ref x :: st) h Q := X_n mC_181 dL_law_773 rfl
theorem x181_774 {l1 l2 l3 : Value} {x : Nat} : X 181 774 [.ref x, l1, l2, l3] st h Q ↔ X 181 775 [.ref x, l1, l2, l3] (.ref x :: st) h Q := X_n mC_181 dL_law_774 rfl
theorem x181_775 {l0 l1 l2 : Value} {x : Int32} : X 181 775 [l0, l1, l2, .int x] st h Q ↔ X 181 776 [l0, l1, l2, .int x] (.int x :: st) h Q := X_n mC_181 dL_law_775 rfl
theorem x181_776 : X 181 776 L st h Q ↔ X 181 777 L (.int 1 :: st) h Q := X_n mC_181 dL_law_776 rfl
theorem x181_777 {x y : Int32} : X 181 777 L (.int y :: .int x :: st) h Q ↔ X 181 778 L (.int (x + y) :: st) h Q := X_n mC_181 dL_law_777 rfl
theorem x181_778 {j : Int32} {a : Nat} : X 181 778 L (.int j :: .ref a :: st) h Q ↔ ib j (hS h a) ∧ X 181 779 L (.int (hI h a j.toNatClampNeg) :: st) h Q := X_iald mC_181 dL_law_778
theorem x181_779 {b : Nat} {a0 : Int32} {w0 : Value} : X 181 779 L [.int a0, .ref b, w0] h Q ↔ hS h b = (1, 8) ∧ X 178 0 [.ref b, .int a0] [] h (fun r h' => X 181 782 L (pv r [w0]) h' Q) := X_virt (as := [.int a0]) (n := 1) (ml := 2) (ck := 8) mC_181 dL_law_779 (by unfold cOk; decide +kernel) ⟨rfl, rfl, by decide, Nat.le_of_ble_eq_true rfl⟩
theorem x181_782 {x y : Int32} : X 181 782 L (.int y :: .int x :: st) h Q ↔ if x = y then X 181 787 L st h Q else X 181 785 L st h Q := X_ieq mC_181 dL_law_782 (by decide)
theorem x181_785 : X 181 785 L st h Q ↔ X 181 786 L (.int 0 :: st) h Q := X_n mC_181 dL_law_785 rfl
theorem x181_786 {v : Int32} : X 181 786 L [.int v] h Q ↔ (v = 0 ∨ v = 1) ∧ Q (some (.int v)) h := X_retZ mC_181 dL_law_786 (by decide +kernel)
theorem x181_787 {l0 l1 l2 : Value} {x : Int32} : X 181 787 [l0, l1, l2, .int x] st h Q ↔ c1 l2 = true ∧ X 181 790 [l0, l1, l2, .int (x + 4)] st h Q := X_inc (pc' := 790) (x := x) mC_181 dL_law_787 rfl rfl rfl
theorem x181_790 : X 181 790 L st h Q ↔ X 181 18 L st h Q := X_goto mC_181 dL_law_790 (by decide)
theorem x181_793 : X 181 793 L st h Q ↔ X 181 794 L (.int 1 :: st) h Q := X_n mC_181 dL_law_793 rfl
theorem x181_794 {v : Int32} : X 181 794 L [.int v] h Q ↔ (v = 0 ∨ v = 1) ∧ Q (some (.int v)) h := X_retZ mC_181 dL_law_794 (by decide +kernel)
end XS
