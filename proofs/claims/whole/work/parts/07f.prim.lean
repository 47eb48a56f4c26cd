/-! THE JDK'S OWN MEMBERS -/
section STEPP
variable {p : Program} {l : Launch} {e : Env} {R : Room} {s : State} {mi : MethodId} {args : Array Value} {below : List Frame} {meth : Method} {c : Code} {H : Heap} {locs : List Loc} {cells slots : Nat} {Q : State → Prop} {g : aG} {m pc n kc kz len : Nat} {L st : List Value} {h : aH} {ls : Array Slot}
theorem oi1 : Cond.instanceMethod objectInit ∈ tbG := by decide +kernel
theorem oi2 : Cond.code objectInit ⟨#[0xb1]⟩ 1 none ∈ tbG := by decide +kernel
theorem ac1 : Cond.native arraycopyName ∈ tbG := by decide +kernel
theorem ac2 : Cond.static arraycopyName ∈ tbG := by decide +kernel
theorem ac3 : Cond.initialized "java/lang/System" ∈ tbG := by decide +kernel
theorem ma0 : Cond.initialized "java/lang/Math" ∈ tbG := by decide +kernel
theorem ma1 : Cond.static Lib.Math.max.name ∈ tbG := by decide +kernel
theorem ma2 : Cond.static Lib.Math.min.name ∈ tbG := by decide +kernel
theorem ma3 : Cond.static Lib.Math.abs.name ∈ tbG := by decide +kernel
theorem ma4 : Cond.code Lib.Math.max.name Lib.Math.max.code 2 (some .int) ∈ tbG := by decide +kernel
theorem ma5 : Cond.code Lib.Math.min.name Lib.Math.min.code 2 (some .int) ∈ tbG := by decide +kernel
theorem ma6 : Cond.code Lib.Math.abs.name Lib.Math.abs.code 1 (some .int) ∈ tbG := by decide +kernel
theorem mKd_big : mKd 1000 = 9 ∧ mKd 1001 = 9 ∧ mKd 1002 = 9 ∧ mKd 1003 = 9 ∧ mKd 1004 = 9 ∧ mKd 1005 = 9 ∧ mKd 1006 = 9 := by decide +kernel
theorem lt_objinit (P : Pt p l R s mi args meth c H locs cells slots g m n kc kz L h ls) {cp nn : Nat} (hc : cR m cp = some (1003, nn)) (hd : decode (mC m) pc = .ok (.invokespecial cp, 3)) (hk : okA p l e R s mi args below meth c Q g m pc n kc kz (r1 st (fun _ st => gd (st.length ≤ 4 ∧ 1 ≤ mFr m ∧ 20 ≤ mLo m) (aN m (pc + 3) L st h)))) : W p l e R s mi args below meth c H locs cells slots Q (F0 mi pc ls (st.map (cv g))) := by
  obtain ⟨a, st', rfl, hq⟩ := r1_ok hk
  clear hk
  obtain ⟨⟨h1, h2, h3⟩, hq⟩ := gd_ok hq
  obtain ⟨hl, -⟩ := cR_ok hc
  dsimp only at hl
  have hl2 : Cond.methodLink (RK (mK m)) cp objectInit ∈ tbG := by
    rcases hl with q | ⟨-, q⟩
    · exact tbG_of q rfl
    · have := mKd_big; omega
  have hts := P.1.2.2.2.2.2.1
  have hlo := P.1.2.2.2.2.2.2.2.2.2
  have hfr := P.1.2.2.2.2.2.2.2.2.1
  have hcs := catsum g st'
  exact W.objInit P.1.1 P.1.2.1 P.1.2.2.2.2.1 (hts _ hl2) (hts _ oi1) (hts _ oi2) rfl (by rw [P.1.2.2.1]; exact P.2.2.2.2.1.1) rfl hd (by omega) (by show 2 * 0 + _ + 12 ≤ _; omega) (nx P hq)
theorem lk_prim {cp k nn : Nat} (hc : cR m cp = some (k, nn)) (hk : mKd k ≠ 2) : Cond.methodLink (RK (mK m)) cp (cyN k) ∈ tbG := by
  obtain ⟨hl, -⟩ := cR_ok hc
  dsimp only at hl
  rcases hl with q | ⟨-, q⟩
  · exact tbG_of q rfl
  · exact absurd q hk
theorem lt_max (P : Pt p l R s mi args meth c H locs cells slots g m n kc kz L h ls) {cp nn : Nat} (hc : cR m cp = some (1004, nn)) (hd : decode (mC m) pc = .ok (.invokestatic cp, 3)) (hk : okA p l e R s mi args below meth c Q g m pc n kc kz (b2 st (fun x y st => gd (st.length ≤ 4 ∧ 1 ≤ mFr m ∧ 21 ≤ mLo m) (aN m (pc + 3) L (.int (if x < y then y else x) :: st) h)))) : W p l e R s mi args below meth c H locs cells slots Q (F0 mi pc ls (st.map (cv g))) := by
  obtain ⟨x, y, st', rfl, hq⟩ := b2_ok hk
  clear hk
  obtain ⟨⟨h1, h2, h3⟩, hq⟩ := gd_ok hq
  have hts := P.1.2.2.2.2.2.1
  have hlo := P.1.2.2.2.2.2.2.2.2.2
  have hfr := P.1.2.2.2.2.2.2.2.2.1
  have hcs := catsum g st'
  have b1 : hN h ≤ R.cells + kc := hq.2.1
  have b2 : hZ h ≤ R.slots + kz := hq.2.2.1
  have c1 := P.2.2.2.2.2.1
  have c2 := P.2.2.2.2.2.2
  exact va_mmax P.1.1 P.1.2.1 (by rw [P.1.2.2.1]; exact P.2.2.2.2.1.1.symm) P.1.2.2.2.2.1 (hts _ (lk_prim hc (by decide +kernel))) (hts _ ma1) (hts _ ma0) (hts _ ma4) (by omega) (by omega) (by omega) (by omega) hd (nx P hq)
theorem lt_min (P : Pt p l R s mi args meth c H locs cells slots g m n kc kz L h ls) {cp nn : Nat} (hc : cR m cp = some (1005, nn)) (hd : decode (mC m) pc = .ok (.invokestatic cp, 3)) (hk : okA p l e R s mi args below meth c Q g m pc n kc kz (b2 st (fun x y st => gd (st.length ≤ 4 ∧ 1 ≤ mFr m ∧ 21 ≤ mLo m) (aN m (pc + 3) L (.int (if y < x then y else x) :: st) h)))) : W p l e R s mi args below meth c H locs cells slots Q (F0 mi pc ls (st.map (cv g))) := by
  obtain ⟨x, y, st', rfl, hq⟩ := b2_ok hk
  clear hk
  obtain ⟨⟨h1, h2, h3⟩, hq⟩ := gd_ok hq
  have hts := P.1.2.2.2.2.2.1
  have hlo := P.1.2.2.2.2.2.2.2.2.2
  have hfr := P.1.2.2.2.2.2.2.2.2.1
  have hcs := catsum g st'
  have b1 : hN h ≤ R.cells + kc := hq.2.1
  have b2 : hZ h ≤ R.slots + kz := hq.2.2.1
  have c1 := P.2.2.2.2.2.1
  have c2 := P.2.2.2.2.2.2
  exact va_mmin P.1.1 P.1.2.1 (by rw [P.1.2.2.1]; exact P.2.2.2.2.1.1.symm) P.1.2.2.2.2.1 (hts _ (lk_prim hc (by decide +kernel))) (hts _ ma2) (hts _ ma0) (hts _ ma5) (by omega) (by omega) (by omega) (by omega) hd (nx P hq)
theorem lt_abs (P : Pt p l R s mi args meth c H locs cells slots g m n kc kz L h ls) {cp nn : Nat} (hc : cR m cp = some (1006, nn)) (hd : decode (mC m) pc = .ok (.invokestatic cp, 3)) (hk : okA p l e R s mi args below meth c Q g m pc n kc kz (b1 st (fun x st => gd (st.length ≤ 4 ∧ 1 ≤ mFr m ∧ 21 ≤ mLo m) (aN m (pc + 3) L (.int (if 0 ≤ x then x else 0 - x) :: st) h)))) : W p l e R s mi args below meth c H locs cells slots Q (F0 mi pc ls (st.map (cv g))) := by
  obtain ⟨x, st', rfl, hq⟩ := b1_ok hk
  clear hk
  obtain ⟨⟨h1, h2, h3⟩, hq⟩ := gd_ok hq
  have hts := P.1.2.2.2.2.2.1
  have hlo := P.1.2.2.2.2.2.2.2.2.2
  have hfr := P.1.2.2.2.2.2.2.2.2.1
  have hcs := catsum g st'
  have b1 : hN h ≤ R.cells + kc := hq.2.1
  have b2 : hZ h ≤ R.slots + kz := hq.2.2.1
  have c1 := P.2.2.2.2.2.1
  have c2 := P.2.2.2.2.2.2
  exact va_mabs P.1.1 P.1.2.1 (by rw [P.1.2.2.1]; exact P.2.2.2.2.1.1.symm) P.1.2.2.2.2.1 (hts _ (lk_prim hc (by decide +kernel))) (hts _ ma3) (hts _ ma0) (hts _ ma6) (by omega) (by omega) (by omega) (by omega) hd (nx P hq)
theorem nfw : nativeFrameWords "java/lang/System" "arraycopy" 5 + 11 ≤ 32 := by decide +kernel
theorem lt_copy (P : Pt p l R s mi args meth c H locs cells slots g m n kc kz L h ls) {cp nn : Nat} (hc : cR m cp = some (1000, nn)) (hd : decode (mC m) pc = .ok (.invokestatic cp, 3)) (hk : okA p l e R s mi args below meth c Q g m pc n kc kz (match st with | .int n :: .int dp :: .ref b :: .int sp :: .ref a :: st => gd ((hS h a).1 = 2 ∧ (hS h b).1 = 2 ∧ 0 ≤ sp ∧ 0 ≤ dp ∧ 0 ≤ n ∧ sp.toNatClampNeg + n.toNatClampNeg ≤ (hS h a).2 ∧ dp.toNatClampNeg + n.toNatClampNeg ≤ (hS h b).2 ∧ st.length ≤ 4 ∧ 1 ≤ mFr m ∧ 40 ≤ mLo m) (aN m (pc + 3) L st (cpI h a sp.toNatClampNeg b dp.toNatClampNeg n.toNatClampNeg)) | _ => none)) : W p l e R s mi args below meth c H locs cells slots Q (F0 mi pc ls (st.map (cv g))) := by
  split at hk
  · rename_i nx0 dp b sp a st'
    obtain ⟨⟨hsa, hsb, g1, g2, g3, h4, h5, hst, hfm, hlm⟩, hq⟩ := gd_ok hk
    clear hk
    have h1 : ¬ sp < 0 := Int32.not_lt.mpr g1
    have h2 : ¬ dp < 0 := Int32.not_lt.mpr g2
    have h3 : ¬ nx0 < 0 := Int32.not_lt.mpr g3
    have hts := P.1.2.2.2.2.2.1
    have hlo := P.1.2.2.2.2.2.2.2.2.2
    have hfr := P.1.2.2.2.2.2.2.2.2.1
    have hcs := catsum g st'
    have hnf := nfw
    have hb3 := P.2.2.1.sh (a := b) (Or.inr (Or.inl hsb))
    have hc0 := P.2.2.1.arr hsa
    have hc1 := P.2.2.1.arr hsb
    have nn : ∀ z : Int32, ¬ z < 0 → z.toInt = (z.toNatClampNeg : Int) := by
      intro z hz
      have hz0 : (0 : Int) ≤ z.toInt := by
        have := Int32.not_lt.mp hz
        simpa using Int32.le_iff_toInt_le.mp this
      show z.toInt = ((z.toInt.toNat : Nat) : Int)
      omega
    intro T hT X
    obtain ⟨-, k0, hk0, cm0, hkk0⟩ := (P.1.2.2.2.2.2.2.1.1.2 0 _ rfl).1 (hS h a).2 (fun j => .int (hI h a j))
    obtain ⟨-, k1, hk1, cm1, hkk1⟩ := (P.1.2.2.2.2.2.2.1.1.2 0 _ rfl).1 (hS h b).2 (fun j => .int (hI h b j))
    obtain ⟨vm', X', step⟩ := X.arraycopy P.1.1 P.1.2.2.2.2.1 (hts _ (lk_prim hc (by decide +kernel))) (hts _ ac1) (hts _ ac2) (hts _ ac3) (src := rho g a) (dst := rho g b) (cs := arrV (gI g) (hS h a).2 (fun j => .int (hI h a j))) (cd := arrV (gI g) (hS h b).2 (fun j => .int (hI h b j))) (srcPos := sp) (destPos := dp) (n := nx0) (by rw [hT]; exact hc0) (by rw [hT]; exact hc1)
      (fun _ h => by cases h) (fun _ h => by cases h) (fun h => by cases h) (fun h => by cases h) hk0 hk1 hkk0 hkk1 (by simp [refKind]) h1 h2 h3
      (by rw [nn sp h1, nn nx0 h3, arrV_size]; omega)
      (by rw [nn dp h2, nn nx0 h3, arrV_size]; omega)
      (fun vm₁ _ i hi => by
        have e : (arrV (gI g) (hS h a).2 (fun j => .int (hI h a j))).slots.getD (sp.toNatClampNeg + i) .null = .int (hI h a (sp.toNatClampNeg + i)) := by
          rw [Array.getD_eq_getD_getElem?, arrV_read _ _ (by omega)]
          rfl
        refine ⟨?_, ?_⟩
        · rw [e]
          rfl
        · rw [e]
          exact trivial)
      (g := F0 mi pc ls (.int nx0 :: .int dp :: .ref (rho g b) :: .int sp :: .ref (rho g a) :: st'.map (cv g))) rfl (by rw [P.1.2.2.1]; exact P.2.2.2.2.1.1) (rest := st'.map (cv g)) rfl (by rw [P.1.2.1]; exact hd) (by omega) (by show 2 * 0 + _ + _ ≤ _; omega)
    have e1 : copied (arrV (gI g) (hS h a).2 (fun j => .int (hI h a j))) (arrV (gI g) (hS h b).2 (fun j => .int (hI h b j))) sp dp nx0 = arrV (gI g) (hS h b).2 (fun j => .int (va_cpy (hI h a) (hI h b) sp.toNatClampNeg dp.toNatClampNeg nx0.toNatClampNeg j)) := va_copied (fun z => .int z) (gI g) (gI g) (hI h a) (hI h b) h4
    rw [e1] at X' step
    have hl : rho g b < H.size := (Array.getElem?_eq_some_iff.mp hc1).1
    have hheap : ((T.setVm vm').setCell (rho g b) (arrV (gI g) (hS h b).2 (fun j => .int (va_cpy (hI h a) (hI h b) sp.toNatClampNeg dp.toNatClampNeg nx0.toNatClampNeg j)))).heap = H.setIfInBounds (rho g b) (arrV (gI g) (hS h b).2 (fun j => .int (va_cpy (hI h a) (hI h b) sp.toNatClampNeg dp.toNatClampNeg nx0.toNatClampNeg j))) := by rw [← hT]; rfl
    have oq : ∀ q : Nat, q ≠ rho g b → (H.setIfInBounds (rho g b) (arrV (gI g) (hS h b).2 (fun j => .int (va_cpy (hI h a) (hI h b) sp.toNatClampNeg dp.toNatClampNeg nx0.toNatClampNeg j))))[q]? = H[q]? := fun q hq => by simp [Array.getElem?_setIfInBounds, Ne.symm hq]
    obtain ⟨t, a1, b1⟩ := nxH P hq rfl rfl (P.2.2.1.cpy hsb (by simp) oq (by simp [Array.getElem?_setIfInBounds, hl])) (fun q hq => by
        rcases List.mem_append.mp hq with h | h
        · exact P.2.2.2.1 q h
        · obtain ⟨z, -, hz⟩ := List.mem_map.mp h
          rw [← hz]
          exact rho_lo hb3.1) _ hheap X'
    exact ⟨t, step t a1, b1⟩
  · exact hk.elim
theorem rho_2 (g : aG) : rho g 2 = gA g := by
  unfold rho
  rw [if_neg (by decide), if_pos rfl]
theorem lt_slen (P : Pt p l R s mi args meth c H locs cells slots g m n kc kz L h ls) {cp nn : Nat} (hc : cR m cp = some (1001, nn)) (hd : decode (mC m) pc = .ok (.invokevirtual cp, 3)) (hk : okA p l e R s mi args below meth c Q g m pc n kc kz (r1 st (fun a st => gd (a = 2 ∧ st.length ≤ 4 ∧ 2 ≤ mFr m ∧ 60 ≤ mLo m) (aN m (pc + 3) L (.int 60 :: st) h)))) : W p l e R s mi args below meth c H locs cells slots Q (F0 mi pc ls (st.map (cv g))) := by
  obtain ⟨a, st', rfl, hq⟩ := r1_ok hk
  clear hk
  obtain ⟨⟨rfl, h1, h2, h3⟩, hq2⟩ := gd_ok hq
  have hts := P.1.2.2.2.2.2.1
  have hlo := P.1.2.2.2.2.2.2.2.2.2
  have hfr := P.1.2.2.2.2.2.2.2.2.1
  have hcs := catsum g st'
  have b1 : hN h ≤ R.cells + kc := hq2.2.1
  have b2 : hZ h ≤ R.slots + kz := hq2.2.2.1
  have c1 := P.2.2.2.2.2.1
  have c2 := P.2.2.2.2.2.2
  obtain ⟨v, K⟩ := P.1.2.2.2.2.2.2.1.kj
  obtain ⟨cell, q1, q2, q3, -⟩ := (K.at P.2.2.1).1
  have hl : (Cond.methodLink (RK (mK m)) cp yJ0_length_8abf5).before args s = true := hts _ (lk_prim hc (by decide +kernel))
  refine J_on P.2.2.2.1 (va_runV (As := []) (rest := st'.map (cv g)) (C := "java/lang/String") (b := gA g) (n := 0) (Ts := tbG) ⟨P.1.1, P.1.2.1, P.1.2.2.1, P.1.2.2.2.2.1, hts⟩ (j_length (l := l) (v := v) (h := h)) ⟨callB_of 0 hts (wsJ_good jw_c3) rfl rfl rfl (hts _ jw_iS) hl ⟨by decide, by decide, by decide +kernel⟩ ⟨by show 1 + 1 ≤ _; omega, by show 8 + (1 + 11) + 20 ≤ _; omega⟩, hts _ jw_m3, hts _ jw_s3⟩ ⟨blindJ _ _, ⟨cell, q1, q2, q3⟩, preJ P.2.2.1 K⟩ rfl rfl P.2.2.2.2.1.1 (by show _ :: _ = _; rw [cv_ref, rho_2]; rfl) (lv_room (Nat.le_trans hcs (by omega))) hd ⟨by omega, by omega⟩) ?_
  intro H' locs' hH' hlo'
  exact hq2.2.2.2 H' locs' ls cells slots hH' hlo' P.2.2.2.2.1 c1 c2
theorem lt_schr (P : Pt p l R s mi args meth c H locs cells slots g m n kc kz L h ls) {cp nn : Nat} (hc : cR m cp = some (1002, nn)) (hd : decode (mC m) pc = .ok (.invokevirtual cp, 3)) (hk : okA p l e R s mi args below meth c Q g m pc n kc kz (b1 st (fun i st => r1 st (fun a st => gd (a = 2 ∧ 0 ≤ i ∧ i < 60 ∧ st.length ≤ 4 ∧ 4 ≤ mFr m ∧ 90 ≤ mLo m) (aN m (pc + 3) L (.int (txtB.getD i.toNatClampNeg 0) :: st) h))))) : W p l e R s mi args below meth c H locs cells slots Q (F0 mi pc ls (st.map (cv g))) := by
  obtain ⟨i, st1, rfl, hq⟩ := b1_ok hk
  clear hk
  obtain ⟨a, st', rfl, hq⟩ := r1_ok hq
  obtain ⟨⟨rfl, i0, i1, h1, h2, h3⟩, hq2⟩ := gd_ok hq
  have hts := P.1.2.2.2.2.2.1
  have hlo := P.1.2.2.2.2.2.2.2.2.2
  have hfr := P.1.2.2.2.2.2.2.2.2.1
  have hcs := catsum g st'
  have b1 : hN h ≤ R.cells + kc := hq2.2.1
  have b2 : hZ h ≤ R.slots + kz := hq2.2.2.1
  have c1 := P.2.2.2.2.2.1
  have c2 := P.2.2.2.2.2.2
  obtain ⟨v, K⟩ := P.1.2.2.2.2.2.2.1.kj
  obtain ⟨cell, q1, q2, q3, -⟩ := (K.at P.2.2.1).1
  have hl : (Cond.methodLink (RK (mK m)) cp yJ0_charAt_5068e).before args s = true := hts _ (lk_prim hc (by decide +kernel))
  refine J_on P.2.2.2.1 (va_runV (As := [.int i]) (rest := st'.map (cv g)) (C := "java/lang/String") (b := gA g) (n := 1) (Ts := tbG) ⟨P.1.1, P.1.2.1, P.1.2.2.1, P.1.2.2.2.2.1, hts⟩ (j_charAt (l := l) (v := v) (h := h) i0 i1) ⟨callB_of 1 hts (wsJ_good jw_c4) rfl rfl rfl (hts _ jw_iS) hl ⟨by decide, by decide, by decide +kernel⟩ ⟨by show 3 + 1 ≤ _; omega, by show 8 + (2 + 11) + 64 ≤ _; omega⟩, hts _ jw_m4, hts _ jw_s4⟩ ⟨blindJ _ _, ⟨cell, q1, q2, q3⟩, preJ P.2.2.1 K⟩ rfl rfl P.2.2.2.2.1.1 (by show _ :: _ :: _ = _; rw [cv_ref, rho_2]; rfl) (lv_room (Nat.le_trans hcs (by omega))) hd ⟨by omega, by omega⟩) ?_
  intro H' locs' hH' hlo'
  exact hq2.2.2.2 H' locs' ls cells slots hH' hlo' P.2.2.2.2.1 c1 c2
end STEPP
