/-! STEPS THAT READ OR WRITE THE HEAP, MAKE CELLS, RETURN -/
section STEPH
variable {p : Program} {l : Launch} {e : Env} {R : Room} {s : State} {mi : MethodId} {args : Array Value} {below : List Frame} {meth : Method} {c : Code} {H : Heap} {locs : List Loc} {cells slots : Nat} {Q : State → Prop} {g : aG} {m pc n kc kz len : Nat} {L st : List Value} {h : aH} {ls : Array Slot}
/-- the same with another heap of as many cells -/
theorem nxH (P : Pt p l R s mi args meth c H locs cells slots g m n kc kz L h ls) {pc' : Nat} {st' : List Value} {h' : aH} {H' : Heap} {locs' : List Loc} (hk : okA p l e R s mi args below meth c Q g m pc n kc kz (aN m pc' L st' h')) (hn : hN h' = hN h) (hz : hZ h' = hZ h) (hr : HR g h' H') (hlo : LO g locs') : W p l e R s mi args below meth c H' locs' cells slots Q (F0 mi pc' ls (st'.map (cv g))) :=
  hk.2.2.2 H' locs' ls cells slots hr hlo P.2.2.2.2.1 (by show cells + kc = hN h'; rw [hn]; exact P.2.2.2.2.2.1) (by show slots + kz = hZ h'; rw [hz]; exact P.2.2.2.2.2.2)
theorem LO.snoc {g : aG} {locs : List Loc} (h : LO g locs) {a i : Nat} (ha : gS g ≤ a) : LO g (locs ++ [⟨a, i⟩]) := by
  intro q hq
  rcases List.mem_append.mp hq with h1 | h1
  · exact h q h1
  · rw [List.mem_singleton] at h1
    subst h1
    exact ha
theorem rho_lo {g : aG} {a : Nat} (h : 3 ≤ a) : gS g ≤ rho g a := by rw [rho_ge g h]; omega
/-- a field's link, class and place -/
theorem fR_ok {m cp ci k : Nat} (h : fR m cp = some (ci, k)) : ci < 9 ∧ k < (clT ci).2.2 ∧ Cond.fieldLink (RK (mK m)) cp (clT ci).1 ((clT ci).2.1 k).2.1 ((clT ci).2.1 k).2.2.1 ∈ tbG := by
  obtain ⟨i, hi⟩ := lk_at _ _ _ h
  obtain ⟨h1, h2, h3⟩ := okFs i _ hi
  exact ⟨h2, h3, tbG_of h1 rfl⟩
theorem lt_getfield (P : Pt p l R s mi args meth c H locs cells slots g m n kc kz L h ls) {cp : Nat} (hd : decode (mC m) pc = .ok (.getfield cp, 3)) (hk : okA p l e R s mi args below meth c Q g m pc n kc kz (actG m pc cp L st h)) : W p l e R s mi args below meth c H locs cells slots Q (F0 mi pc ls (st.map (cv g))) := by
  unfold actG at hk
  split at hk
  · rename_i ci k hf
    obtain ⟨a, st', rfl, hq⟩ := r1_ok hk
    clear hk
    obtain ⟨hs, hq⟩ := gd_ok hq
    obtain ⟨hci, hkN, hl⟩ := fR_ok hf
    obtain ⟨hx, hb, -, -, hown, hts, hK, -⟩ := P.1
    obtain ⟨-, cell, q1, q2, q3, q4⟩ := P.2.2.1.obj hs
    obtain ⟨hSl, hfc, kC, hkC, hkind⟩ := hK.1.1 ci _ (clT_at ci hci)
    obtain ⟨cf, kf, fi, f, hi, hsl⟩ := hSl k hkN
    have hi2 : s.fieldFound? (clT ci).1 ((clT ci).2.1 k).2.1 ((clT ci).2.1 k).2.2.1 = some (cf, kf, fi, f) := by
      have := hi
      rw [clT_own ci hci k hkN] at this
      exact this
    refine W.getf hx hb hown (hts _ hl) hi2 (u_facts hfc hkC (u_lays hts (clT_in ci hci) hkN) hi).1 q1 (by rw [q3]; exact fun h => by cases h) (v := fV g h ci a k) (by rw [hsl]; exact q4 k hkN) rfl rfl hd ?_
    unfold fV
    by_cases hk1 : fK ci k = 1
    · rw [if_pos hk1] at hq ⊢
      obtain ⟨hne, hq⟩ := gd_ok hq
      rw [rv, if_neg hne]
      exact nx P hq
    · rw [if_neg hk1] at hq ⊢
      exact nx P hq
  · exact hk.elim
theorem kd_int {t : FieldType} (h : kdT t = 0) : t = .int := by
  unfold kdT at h
  split at h <;> first | rfl | omega
theorem kd_boo {t : FieldType} (h : kdT t = 2) : t = .boolean := by
  unfold kdT at h
  split at h <;> first | rfl | omega
theorem kd_ref {t : FieldType} (h : kdT t = 1) : (∃ n, t = .object n) ∨ ∃ u, t = .array u := by
  unfold kdT at h
  split at h <;> first | omega | exact Or.inl ⟨_, rfl⟩ | exact Or.inr ⟨_, rfl⟩
/-- a field's write at the JVM: v is what the field may hold -/
theorem put_field (P : Pt p l R s mi args meth c H locs cells slots g m n kc kz L h ls) {cp ci k a : Nat} {v : Value} {st' : List Value} (hf : fR m cp = some (ci, k)) (hfin : finOk m ci k = true) (hs : hS h a = (1, ci)) (hn : narrow (tyC ci k) v = v) (hfit : fits (tyC ci k) v = true) (hd : decode (mC m) pc = .ok (.putfield cp, 3))
    (kk : ∀ (H' : Heap) (i : Nat), H'.size = H.size → (∀ q : Nat, q ≠ rho g a → H'[q]? = H[q]?) → t_OB (rho g a) ((gD g).1 ci) (clT ci).2.2 ((gD g).2 ci) H' (updV (fV g h ci a) k v) → W p l e R s mi args below meth c H' (locs ++ [⟨rho g a, i⟩]) cells slots Q (F0 mi (pc + 3) ls (st'.map (cv g)))) : W p l e R s mi args below meth c H locs cells slots Q (F0 mi pc ls (v :: .ref (rho g a) :: st'.map (cv g))) := by
  obtain ⟨hci, hkN, hl⟩ := fR_ok hf
  obtain ⟨hx, hb, -, -, hown, hts, hK, hnm, -⟩ := P.1
  obtain ⟨-, cell, q1, q2, q3, q4⟩ := P.2.2.1.obj hs
  have hap := va_apart (own := RK (mK m)) hts (clT_in ci hci) (tyC ci) (clT_ty ci hci) (clT_nm ci hci) hK.1 (clT_at ci hci)
  obtain ⟨hSl, hfc, kC, hkC, hkind⟩ := hK.1.1 ci _ (clT_at ci hci)
  obtain ⟨cf, kf, fi, f, hi, hsl⟩ := hSl k hkN
  have hi2 : s.fieldFound? (clT ci).1 ((clT ci).2.1 k).2.1 ((clT ci).2.1 k).2.2.1 = some (cf, kf, fi, f) := by
    have := hi
    rw [clT_own ci hci k hkN] at this
    exact this
  have hlay := hts _ (clT_in ci hci _ (u_in_lay hkN))
  have hst := (u_facts hfc hkC (u_lays hts (clT_in ci hci) hkN) hi).1
  unfold u_lay at hlay
  by_cases hfb : ((clT ci).2.1 k).2.2.2 = true
  · rw [if_pos hfb] at hlay
    unfold finOk at hfin
    rw [hfb] at hfin
    simp only [Bool.not_true, Bool.false_or, Bool.and_eq_true, beq_iff_eq] at hfin
    have hcf : mi.cls = cf := by
      obtain ⟨_, _, c', _, _, _, -, -, hf', -, -, -, hown2, -⟩ := Cond.laysFinal_spec hlay
      have e1 : c' = cf := by have := hi.symm.trans hf'; simp at this; exact this.1.symm
      rw [hfin.2] at hown2
      rw [← e1]; exact Option.some.inj (hown.symm.trans hown2)
    have h6 := u_fits hfc hkC hkind (Or.inr hlay) hi (clT_ty ci hci k hkN) hn hfit
    refine W.putFinK hx hb hown (hts _ hl) hi2 hst hcf (hnm.trans hfin.1) (by rw [q2]; exact h6) q1 q3 (by rw [hsl]; exact k2_hasslot (q4 k hkN)) rfl rfl hd fun H' e1 e2 e3 => ?_
    rw [hsl] at e1
    exact kk H' _ e2 e3 ⟨_, e1, q2, q3, t_set q4 hap hkN v⟩
  · rw [if_neg hfb] at hlay
    have h6 := u_store hfc hkC hkind hlay hi (clT_ty ci hci k hkN) hn hfit
    refine W.putK hx hb (f := f) ⟨hown, hts _ hl, ⟨_, _, _, hi2⟩, hst⟩ (by rw [q2]; exact h6) q1 q3 (by rw [hsl]; exact k2_hasslot (q4 k hkN)) rfl rfl hd fun H' e1 e2 e3 => ?_
    rw [hsl] at e1
    exact kk H' _ e2 e3 ⟨_, e1, q2, q3, t_set q4 hap hkN v⟩
theorem lt_putfield (P : Pt p l R s mi args meth c H locs cells slots g m n kc kz L h ls) {cp : Nat} (hd : decode (mC m) pc = .ok (.putfield cp, 3)) (hk : okA p l e R s mi args below meth c Q g m pc n kc kz (actU m pc cp L st h)) : W p l e R s mi args below meth c H locs cells slots Q (F0 mi pc ls (st.map (cv g))) := by
  unfold actU at hk
  split at hk
  · rename_i ci k hf
    split at hk
    · rename_i v a st'
      obtain ⟨⟨hfin, hs, hkd⟩, hq⟩ := gd_ok hk
      clear hk
      have h1 := P.2.2.1.sh (a := a) (by rw [hs]; exact Or.inl rfl)
      have hne : fK ci k ≠ 1 := by rcases hkd with q | q <;> omega
      refine put_field P (v := .int v) hf hfin hs ?_ ?_ hd (fun H' i hz ho ht => nxH P hq rfl rfl (P.2.2.1.setI hs hne hz ho ht) (P.2.2.2.1.snoc (rho_lo h1.1)))
      · rcases hkd with q | ⟨q, q2⟩
        · rw [kd_int q]; rfl
        · rw [kd_boo q]; rcases q2 with rfl | rfl <;> decide
      · rcases hkd with q | ⟨q, q2⟩
        · rw [kd_int q]; rfl
        · rw [kd_boo q]; rcases q2 with rfl | rfl <;> decide
    · rename_i v a st'
      obtain ⟨⟨hfin, hs, hkd, hv⟩, hq⟩ := gd_ok hk
      clear hk
      have h1 := P.2.2.1.sh (a := a) (by rw [hs]; exact Or.inl rfl)
      refine put_field P (v := .ref (rho g v)) hf hfin hs ?_ ?_ hd (fun H' i hz ho ht => nxH P hq rfl rfl (P.2.2.1.setR hs hkd hv hz ho ht) (P.2.2.2.1.snoc (rho_lo h1.1)))
      · rcases kd_ref hkd with ⟨q, e⟩ | ⟨q, e⟩ <;> rw [e] <;> rfl
      · rcases kd_ref hkd with ⟨q, e⟩ | ⟨q, e⟩ <;> rw [e] <;> rfl
    · exact hk.elim
  · exact hk.elim
theorem lt_iaload (P : Pt p l R s mi args meth c H locs cells slots g m n kc kz L h ls) (hd : decode (mC m) pc = .ok (.iaload, 1)) (hk : okA p l e R s mi args below meth c Q g m pc n kc kz (match st with | .int j :: .ref a :: st => gd (((hS h a).1 = 2 ∨ (hS h a).1 = 4) ∧ ¬ (j < 0 ∨ (hS h a).2 ≤ j.toNatClampNeg)) (aN m (pc + 1) L (.int (hI h a j.toNatClampNeg) :: st) h) | _ => none)) : W p l e R s mi args below meth c H locs cells slots Q (F0 mi pc ls (st.map (cv g))) := by
  split at hk
  · rename_i j a st'
    obtain ⟨⟨hs, hin⟩, hq⟩ := gd_ok hk
    clear hk
    have hlt : j.toNatClampNeg < (hS h a).2 := Nat.not_le.mp fun q => hin (Or.inr q)
    rcases hs with hs | hs
    · exact W.iald (v := .int (hI h a j.toNatClampNeg)) P.1.1 P.1.2.1 (P.2.2.1.arr hs) ((P.1.2.2.2.2.2.2.1.1.2 0 _ rfl).1 _ _) (fun q => by cases q) (by rw [arrV_size]; exact hin) (by rw [arrV_read _ _ hlt]) rfl rfl hd (nx P hq)
    · obtain ⟨rfl, he⟩ := P.2.2.1.scr hs
      obtain ⟨scr, h1, h2, h3, h4, h5⟩ := P.1.2.2.2.2.2.2.1.2.1
      obtain ⟨-, -, -, r4, -, r6, r7, -⟩ := P.2.2.1
      refine W.iald (a := gB g) (v := .int (hI h 1 j.toNatClampNeg)) P.1.1 P.1.2.1 (by rw [r4 _ r7]; exact h1) h2 h3 (by rw [h4, ← he]; exact hin) ?_ rfl rfl hd (nx P hq)
      rw [h5 _ (by rw [← he]; exact hlt), r6 _ (by rw [← he]; exact hlt)]
  · exact hk.elim
theorem lt_baload (P : Pt p l R s mi args meth c H locs cells slots g m n kc kz L h ls) (hd : decode (mC m) pc = .ok (.baload, 1)) (hk : okA p l e R s mi args below meth c Q g m pc n kc kz (match st with | .int j :: .ref a :: st => gd ((hS h a).1 = 3 ∧ ¬ (j < 0 ∨ (hS h a).2 ≤ j.toNatClampNeg)) (aN m (pc + 1) L (.int (hI h a j.toNatClampNeg) :: st) h) | _ => none)) : W p l e R s mi args below meth c H locs cells slots Q (F0 mi pc ls (st.map (cv g))) := by
  split at hk
  · rename_i j a st'
    obtain ⟨⟨hs, hin⟩, hq⟩ := gd_ok hk
    clear hk
    have hlt : j.toNatClampNeg < (hS h a).2 := Nat.not_le.mp fun q => hin (Or.inr q)
    exact W.zald (v := .int (hI h a j.toNatClampNeg)) P.1.1 P.1.2.1 (P.2.2.1.boo hs) ((P.1.2.2.2.2.2.2.1.1.2 1 _ rfl).1 _ _) (fun q => by cases q) (by rw [arrV_size]; exact hin) (by rw [arrV_read _ _ hlt]) rfl rfl hd (nx P hq)
  · exact hk.elim
theorem lt_iastore (P : Pt p l R s mi args meth c H locs cells slots g m n kc kz L h ls) (hd : decode (mC m) pc = .ok (.iastore, 1)) (hk : okA p l e R s mi args below meth c Q g m pc n kc kz (match st with | .int x :: .int j :: .ref a :: st => gd ((hS h a).1 = 2 ∧ ¬ (j < 0 ∨ (hS h a).2 ≤ j.toNatClampNeg)) (aN m (pc + 1) L st (sI h a j.toNatClampNeg x)) | _ => none)) : W p l e R s mi args below meth c H locs cells slots Q (F0 mi pc ls (st.map (cv g))) := by
  split at hk
  · rename_i x j a st'
    obtain ⟨⟨hs, hin⟩, hq⟩ := gd_ok hk
    clear hk
    have h1 := P.2.2.1.sh (a := a) (Or.inr (Or.inl hs))
    exact W.iast P.1.1 P.1.2.1 (P.2.2.1.arr hs) ((P.1.2.2.2.2.2.2.1.1.2 0 _ rfl).1 _ _) (fun q => by cases q) (by rw [arrV_size]; exact hin) rfl rfl hd (fun H' e1 e2 e3 => nxH P hq rfl rfl (P.2.2.1.setA hs e2 e3 e1) (P.2.2.2.1.snoc (rho_lo h1.1)))
  · exact hk.elim
theorem lt_bastore (P : Pt p l R s mi args meth c H locs cells slots g m n kc kz L h ls) (hd : decode (mC m) pc = .ok (.bastore, 1)) (hk : okA p l e R s mi args below meth c Q g m pc n kc kz (match st with | .int x :: .int j :: .ref a :: st => gd ((hS h a).1 = 3 ∧ (x = 0 ∨ x = 1) ∧ ¬ (j < 0 ∨ (hS h a).2 ≤ j.toNatClampNeg)) (aN m (pc + 1) L st (sI h a j.toNatClampNeg x)) | _ => none)) : W p l e R s mi args below meth c H locs cells slots Q (F0 mi pc ls (st.map (cv g))) := by
  split at hk
  · rename_i x j a st'
    obtain ⟨⟨hs, hx01, hin⟩, hq⟩ := gd_ok hk
    clear hk
    have h1 := P.2.2.1.sh (a := a) (Or.inr (Or.inr hs))
    have hn : narrow .boolean (.int x) = .int x := by rcases hx01 with rfl | rfl <;> decide
    exact W.zast P.1.1 P.1.2.1 (P.2.2.1.boo hs) ((P.1.2.2.2.2.2.2.1.1.2 1 _ rfl).1 _ _) (fun q => by cases q) (by rw [arrV_size]; exact hin) rfl rfl hd (fun H' e1 e2 e3 => nxH P hq rfl rfl (P.2.2.1.setB hs e2 e3 (by rw [hn] at e1; exact e1)) (P.2.2.2.1.snoc (rho_lo h1.1)))
  · exact hk.elim
theorem lt_alen (P : Pt p l R s mi args meth c H locs cells slots g m n kc kz L h ls) (hd : decode (mC m) pc = .ok (.arraylength, 1)) (hk : okA p l e R s mi args below meth c Q g m pc n kc kz (r1 st (fun a st => gd ((hS h a).1 = 2 ∨ (hS h a).1 = 3 ∨ (hS h a).1 = 4) (aN m (pc + 1) L (.int (Int32.ofNat (hS h a).2) :: st) h)))) : W p l e R s mi args below meth c H locs cells slots Q (F0 mi pc ls (st.map (cv g))) := by
  obtain ⟨a, st', rfl, hq⟩ := r1_ok hk
  clear hk
  obtain ⟨hs, hq⟩ := gd_ok hq
  rcases hs with hs | hs | hs
  · exact W.alen (n := Int32.ofNat (hS h a).2) P.1.1 P.1.2.1 (P.2.2.1.arr hs) ((P.1.2.2.2.2.2.2.1.1.2 0 _ rfl).1 _ _) (by rw [arrV_size]) rfl rfl hd (nx P hq)
  · exact W.alen (n := Int32.ofNat (hS h a).2) P.1.1 P.1.2.1 (P.2.2.1.boo hs) ((P.1.2.2.2.2.2.2.1.1.2 1 _ rfl).1 _ _) (by rw [arrV_size]) rfl rfl hd (nx P hq)
  · obtain ⟨rfl, he⟩ := P.2.2.1.scr hs
    obtain ⟨scr, h1, h2, h3, h4, h5⟩ := P.1.2.2.2.2.2.2.1.2.1
    obtain ⟨-, -, -, r4, -, r6, r7, -⟩ := P.2.2.1
    exact W.alen (a := gB g) (n := Int32.ofNat (hS h 1).2) P.1.1 P.1.2.1 (by rw [r4 _ r7]; exact h1) h2 (by rw [h4, he]) rfl rfl hd (nx P hq)
theorem lt_new (P : Pt p l R s mi args meth c H locs cells slots g m n kc kz L h ls) {cp : Nat} (hd : decode (mC m) pc = .ok (.new cp, 3)) (hk : okA p l e R s mi args below meth c Q g m pc n kc kz (match nR m cp with | some ci => aN m (pc + 3) L (.ref (hN h) :: st) (nw h (clT ci).2.2 (1, ci)) | none => none)) : W p l e R s mi args below meth c H locs cells slots Q (F0 mi pc ls (st.map (cv g))) := by
  split at hk
  · rename_i ci hci0
    obtain ⟨i, hi⟩ := lk_at _ _ _ hci0
    obtain ⟨w1, w2, w3, hci⟩ := okNs i _ hi
    dsimp only at w1 w2 w3 hci
    obtain ⟨hx, hb, -, -, hown, hts, hK, -⟩ := P.1
    have hKn := hK.1.1 ci _ (clT_at ci hci)
    have b1 : hN h + 1 ≤ R.cells + kc := hk.2.1
    have b2 : hZ h + (clT ci).2.2 ≤ R.slots + kz := hk.2.2.1
    have c1 := P.2.2.2.2.2.1
    have c2 := P.2.2.2.2.2.2
    have htop := P.2.2.1.top
    refine W.newcK hx hb hown (hts _ (tbG_of w1 rfl)) (hts _ (tbG_of w2 rfl)) (hts _ (tbG_of w3 rfl)) rfl hd (by omega) (by omega) hKn.2.1 rfl fun H1 kC hkC e1 z1 o1 => ?_
    have hob := u_born (tyC ci) hts (clT_in ci hci) hKn hkC e1 (clT_ty ci hci)
    have hr : HR g (nw h (clT ci).2.2 (1, ci)) H1 := by
      refine P.2.2.1.new z1 o1 ?_
      unfold cAt
      rw [show hS (nw h (clT ci).2.2 (1, ci)) (hN h) = (1, ci) from if_pos rfl]
      refine ⟨hci, ?_⟩
      rw [htop]
      refine hob.to (fun k hkN => ?_)
      unfold fV
      rw [show hR (nw h (clT ci).2.2 (1, ci)) (hN h) k = 0 from if_pos rfl, show hI (nw h (clT ci).2.2 (1, ci)) (hN h) k = 0 from if_pos rfl]
      have hkd := clT_kd ci hci k hkN
      by_cases h1 : fK ci k = 1
      · rw [if_pos h1]
        rcases kd_ref h1 with ⟨q, e⟩ | ⟨q, e⟩ <;> rw [e] <;> rfl
      · rw [if_neg h1]
        rcases (show kdT (tyC ci k) = 0 ∨ kdT (tyC ci k) = 2 by have : kdT (tyC ci k) ≠ 1 := h1; omega) with q | q
        · rw [kd_int q]; rfl
        · rw [kd_boo q]; rfl
    have hw := hk.2.2.2 H1 locs ls (cells + 1) (slots + (clT ci).2.2) hr P.2.2.2.1 P.2.2.2.2.1 (by show cells + 1 + kc = hN h + 1; omega) (by show slots + (clT ci).2.2 + kz = hZ h + (clT ci).2.2; omega)
    rw [List.map_cons, cv_ref, htop] at hw
    exact hw
  · exact hk.elim
theorem lt_newarray (P : Pt p l R s mi args meth c H locs cells slots g m n kc kz L h ls) {at0 : ArrayType} {ty : FieldType} {cA0 : ClassId} {code : Nat} (hty : newarray.typeOf at0 = ty) (hdef : defaultValue ty = .int 0) (hbytes : componentBytes ty ≤ 4) (harr : Cond.arrayClass ty ∈ tbG) (hra : ∀ cA, s.vm.findClass ("[" ++ ty.toString) = some cA → cA = cA0) (hcode : ∀ (N : Nat) (H1 : Heap), H1[H.size]? = some (arrV cA0 N (fun _ => .int 0)) → cAt g (nw h N (code, N)) (hN h) H1) (hd : decode (mC m) pc = .ok (.newarray at0, 2)) (hk : okA p l e R s mi args below meth c Q g m pc n kc kz (b1 st (fun n st => gd (¬ n < 0 ∧ n < 100000) (aN m (pc + 2) L (.ref (hN h) :: st) (nw h n.toNatClampNeg (code, n.toNatClampNeg)))))) : W p l e R s mi args below meth c H locs cells slots Q (F0 mi pc ls (st.map (cv g))) := by
  obtain ⟨x, st', rfl, hq⟩ := b1_ok hk
  clear hk
  obtain ⟨⟨h1, h2⟩, hq⟩ := gd_ok hq
  subst hty
  have b1 : hN h + 1 ≤ R.cells + kc := hq.2.1
  have b2 : hZ h + x.toNatClampNeg ≤ R.slots + kz := hq.2.2.1
  have c1 := P.2.2.2.2.2.1
  have c2 := P.2.2.2.2.2.2
  have htop := P.2.2.1.top
  have hsmall : x.toNatClampNeg < 100000 := by
    have := Int32.lt_iff_toInt_lt.mp h2
    have e : (100000 : Int32).toInt = 100000 := by decide
    rw [e] at this
    show x.toInt.toNat < 100000
    omega
  refine va_newaK P.1.1 P.1.2.1 (P.1.2.2.2.2.2.1 _ harr) rfl hd rfl h1 rfl (by have := Nat.mul_le_mul (Nat.le_of_lt hsmall) hbytes; omega) (by omega) (by omega) rfl fun H1 cA e1 z1 o1 hAr hNm => ?_
  have he := hra cA hNm
  subst he
  rw [hdef] at e1
  have hr : HR g (nw h x.toNatClampNeg (code, x.toNatClampNeg)) H1 := P.2.2.1.new z1 o1 (hcode _ _ e1)
  have hw := hq.2.2.2 H1 locs ls (cells + 1) (slots + x.toNatClampNeg) hr P.2.2.2.1 P.2.2.2.2.1 (by show cells + 1 + kc = hN h + 1; omega) (by show slots + x.toNatClampNeg + kz = hZ h + x.toNatClampNeg; omega)
  rw [List.map_cons, cv_ref, htop] at hw
  exact hw
theorem arrI_in : Cond.arrayClass .int ∈ tbG := by decide +kernel
theorem arrZ_in : Cond.arrayClass .boolean ∈ tbG := by decide +kernel
theorem lt_newI (P : Pt p l R s mi args meth c H locs cells slots g m n kc kz L h ls) (hd : decode (mC m) pc = .ok (.newarray .int, 2)) (hk : okA p l e R s mi args below meth c Q g m pc n kc kz (b1 st (fun n st => gd (¬ n < 0 ∧ n < 100000) (aN m (pc + 2) L (.ref (hN h) :: st) (nw h n.toNatClampNeg (2, n.toNatClampNeg)))))) : W p l e R s mi args below meth c H locs cells slots Q (F0 mi pc ls (st.map (cv g))) := by
  refine lt_newarray P (ty := .int) (cA0 := gI g) rfl rfl (by decide) arrI_in (fun cA hA => ?_) (fun N H1 hH => ?_) hd hk
  · have h1 : s.vm.findClass ("[" ++ FieldType.int.toString) = some (gI g) := (P.1.2.2.2.2.2.2.1.1.2 0 _ rfl).2
    exact Option.some.inj (hA.symm.trans h1)
  · unfold cAt
    rw [show hS (nw h N (2, N)) (hN h) = (2, N) from if_pos rfl]
    show H1[rho g (hN h)]? = _
    rw [P.2.2.1.top, hH]
    congr 2
    funext j
    rw [show hI (nw h N (2, N)) (hN h) j = 0 from if_pos rfl]
theorem lt_newZ (P : Pt p l R s mi args meth c H locs cells slots g m n kc kz L h ls) (hd : decode (mC m) pc = .ok (.newarray .boolean, 2)) (hk : okA p l e R s mi args below meth c Q g m pc n kc kz (b1 st (fun n st => gd (¬ n < 0 ∧ n < 100000) (aN m (pc + 2) L (.ref (hN h) :: st) (nw h n.toNatClampNeg (3, n.toNatClampNeg)))))) : W p l e R s mi args below meth c H locs cells slots Q (F0 mi pc ls (st.map (cv g))) := by
  refine lt_newarray P (ty := .boolean) (cA0 := gZ g) rfl rfl (by decide) arrZ_in (fun cA hA => ?_) (fun N H1 hH => ?_) hd hk
  · have h1 : s.vm.findClass ("[" ++ FieldType.boolean.toString) = some (gZ g) := (P.1.2.2.2.2.2.2.1.1.2 1 _ rfl).2
    exact Option.some.inj (hA.symm.trans h1)
  · unfold cAt
    rw [show hS (nw h N (3, N)) (hN h) = (3, N) from if_pos rfl]
    show H1[rho g (hN h)]? = _
    rw [P.2.2.1.top, hH]
    congr 2
    funext j
    rw [show hI (nw h N (3, N)) (hN h) j = 0 from if_pos rfl]
theorem lt_ireturn (P : Pt p l R s mi args meth c H locs cells slots g m n kc kz L h ls) (hd : decode (mC m) pc = .ok (.ireturn, 1)) (hk : okA p l e R s mi args below meth c Q g m pc n kc kz (match st with | [.int v] => gd (mRt m = some .int ∨ mRt m = some .boolean ∧ (v = 0 ∨ v = 1)) (aT (some (.int v)) h) | _ => none)) : W p l e R s mi args below meth c H locs cells slots Q (F0 mi pc ls (st.map (cv g))) := by
  split at hk
  · obtain ⟨h1, hq⟩ := gd_ok hk
    exact hq H locs ls cells slots P.2.2.1 P.2.2.2.1 P.2.2.2.2.2.1 P.2.2.2.2.2.2 h1 hd
  · exact hk.elim
theorem lt_return (P : Pt p l R s mi args meth c H locs cells slots g m n kc kz L h ls) (hd : decode (mC m) pc = .ok (.return_, 1)) (hk : okA p l e R s mi args below meth c Q g m pc n kc kz (match st with | [] => gd (mRt m = none) (aT none h) | _ => none)) : W p l e R s mi args below meth c H locs cells slots Q (F0 mi pc ls (st.map (cv g))) := by
  split at hk
  · obtain ⟨h1, hq⟩ := gd_ok hk
    exact hq H locs ls cells slots P.2.2.1 P.2.2.2.1 P.2.2.2.2.2.1 P.2.2.2.2.2.2 h1 hd
  · exact hk.elim
end STEPH
