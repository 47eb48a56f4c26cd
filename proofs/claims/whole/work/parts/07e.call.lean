/-! CALLS -/
section STEPC
variable {p : Program} {l : Launch} {e : Env} {R : Room} {s : State} {mi : MethodId} {args : Array Value} {below : List Frame} {meth : Method} {c : Code} {H : Heap} {locs : List Loc} {cells slots : Nat} {Q : State → Prop} {g : aG} {m pc n kc kz len : Nat} {L st : List Value} {h : aH} {ls : Array Slot}
theorem catsum (g : aG) : ∀ (rest : List Value), ((rest.map (cv g)).map fun v => v.category).sum ≤ 2 * rest.length := by
  intro rest
  induction rest with
  | nil => simp
  | cons v t ih =>
    simp only [List.map_cons, List.sum_cons, List.length_cons]
    have : (cv g v).category ≤ 2 := by rcases lv_cat (cv g v) with q | q <;> omega
    omega
theorem mE_at {k : Nat} (h : k < nMt) : mTab[k]? = some (mE k) := by
  have hl : k < mTab.length := Nat.lt_of_lt_of_le h (by decide +kernel)
  rw [mE, List.getD_eq_getElem?_getD, List.getElem?_eq_getElem hl]
  rfl
theorem okM_at {k : Nat} (h : k < nMt) : okM (mE k) := okMs k _ (mE_at h) h
theorem wsM_good {k : Nat} (h : k < nMt) : GoodIn tbG (wsM k) := by
  intro w hw
  have hm : w ∈ tbG := by
    rcases List.mem_cons.mp hw with q | q
    · rw [q]; exact tbG_of (okM_at h).1 rfl
    · exact q
  exact ⟨hm, good_of_word (tbG_good hm)⟩
theorem blindM (as : List Value) (h : aH) : FrameBlind (PcM g as h) := by
  intro a U f mk hp
  exact ⟨hp.1, hp.2.1, hp.2.2.same rfl⟩
theorem preM (hr : HR g h H) (hK : KS g s) {as : List Value} : ∀ U : State, U.heap = H → s.WarmedH U.vm → PcM g as h (as.map (cv g)).toArray U := fun U hU hW => ⟨rfl, by show HR g h U.heap; rw [hU]; exact hr, hK.warm hW⟩
theorem pv_map (r : Option Value) (st : List Value) : (r.map (cv g)).toList ++ st.map (cv g) = (pv r st).map (cv g) := by cases r <;> rfl
theorem clRK : ∀ ci, ci < 9 → RK ci = (clT ci).1 := by decide +kernel
theorem initRet : ∀ k, k < nMt → mKd k = 2 → mRt k = none := by decide +kernel
/-- behind a call -/
theorem call_on (P : Pt p l R s mi args meth c H locs cells slots g m n kc kz L h ls) {rest : List Value} {st0 : List Value} {r : aR} {a : Array Value} (hmono : hN h ≤ hN r.2 ∧ hZ h ≤ hZ r.2) (hrun : va_Run p l e R s mi args below meth c H locs cells slots (hN r.2 - hN h) (hZ r.2 - hZ h) (F0 mi pc ls st0) (rest.map (cv g)) (QcM g r a) (fun q => gS g ≤ q)) (hk : nxt p l e R s mi args below meth c Q g m kc kz (m, pc + 3, L, pv r.1 rest, r.2)) : W p l e R s mi args below meth c H locs cells slots Q (F0 mi pc ls st0) := by
  intro T hT X
  obtain ⟨v, st₀, t, T', L1, h0, X', hL, e1, e2, ⟨hv, hr⟩, stp⟩ := hrun T hT X
  cases hv
  have c1 := P.2.2.2.2.2.1
  have c2 := P.2.2.2.2.2.2
  obtain ⟨t2, a1, b1⟩ := hk.2.2.2 T'.heap (locs ++ L1) ls (cells + (hN r.2 - hN h)) (slots + (hZ r.2 - hZ h)) (by rw [e1]; exact hr) (fun q hq => (List.mem_append.mp hq).elim (P.2.2.2.1 q) (hL q)) P.2.2.2.2.1 (by show _ = hN r.2; omega) (by show _ = hZ r.2; omega) T' rfl X'
  refine ⟨t2, stp t2 ?_, b1⟩
  have e3 : ((r.1.map (cv g)).toList ++ rest.map (cv g)) = (pv r.1 rest).map (cv g) := pv_map _ _
  rw [e3]
  exact a1
theorem cR_ok {m cp k n : Nat} (h : cR m cp = some (k, n)) : okC ((mK m, cp), (k, n)) := by
  obtain ⟨i, hi⟩ := lk_at _ _ _ h
  exact okCs i _ hi
theorem cyN_lt {k : Nat} (h : k < nMt) : cyN k = mY k := by
  unfold cyN
  split <;> first | rfl | (exfalso; revert h; decide)
theorem mRoom {k : Nat} {h' : aH} (h1 : mFr k + 1 ≤ mFr m) (h2 : 8 + (mL k + 11) + mLo k ≤ mLo m) (hf : mFr m ≤ R.frames) (hl : mLo m ≤ R.locals) : (rmM k h h').frames + 1 ≤ R.frames ∧ 8 + (mL k + 11) + (rmM k h h').locals ≤ R.locals := by
  show mFr k + 1 ≤ R.frames ∧ 8 + (mL k + 11) + mLo k ≤ R.locals
  omega
/-- a call of one of the machine's own methods: what all three kinds have -/
theorem cl1_ok {k : Nat} {as rest : List Value} (hk : okA p l e R s mi args below meth c Q g m pc n kc kz (cl1 m pc L rest h k as)) : (k < nMt ∧ as.all arg1 = true ∧ rest.length ≤ 4 ∧ as.length ≤ mL k ∧ mFr k + 1 ≤ mFr m ∧ 8 + (mL k + 11) + mLo k ≤ mLo m) ∧ ∃ r, exec n (k, 0, eL k as, [], h) = some r ∧ hN r.2 ≤ R.cells + kc ∧ hZ r.2 ≤ R.slots + kz ∧ nxt p l e R s mi args below meth c Q g m kc kz (m, pc + 3, L, pv r.1 rest, r.2) := by
  obtain ⟨h1, hq⟩ := gd_ok hk
  exact ⟨h1, hq⟩
theorem callB_m (P : Pt p l R s mi args meth c H locs cells slots g m n kc kz L h ls) {cp k nn : Nat} {r : aR} (hc : cR m cp = some (k, nn)) (hlt : k < nMt) (hl : (Cond.methodLink (RK (mK m)) cp (mY k)).before args s = true) (h1 : mFr k + 1 ≤ mFr m) (h2 : 8 + (mL k + 11) + mLo k ≤ mLo m) : CallB R s args (RK (mK m)) cp (mY k) (mC k) (mL k) (mRt k) (wsM k) (rmM k h r.2) (hN r.2 - hN h) (hZ r.2 - hZ h) nn := by
  have hok := okM_at hlt
  obtain ⟨-, hd, -⟩ := cR_ok hc
  dsimp only at hd
  rw [cyN_lt hlt] at hd
  exact callB_of nn P.1.2.2.2.2.2.1 (wsM_good hlt) rfl rfl rfl (P.1.2.2.2.2.2.1 _ (tbG_of hok.2.1 rfl)) hl ⟨hok.2.2.1.2.1, hok.2.2.1.2.2, hd⟩ (mRoom h1 h2 P.1.2.2.2.2.2.2.2.2.1 P.1.2.2.2.2.2.2.2.2.2)
theorem link_m {cp k nn : Nat} (C : Cx g m p R s mi args meth c) (hc : cR m cp = some (k, nn)) (hlt : k < nMt) : (Cond.methodLink (RK (mK m)) cp (mY k)).before args s = true ∨ va_Nw (.methodLinkNest (RK (mK m)) cp (mY k) "BedsBySnore") s ∧ mKd k = 2 := by
  obtain ⟨hl, -⟩ := cR_ok hc
  dsimp only at hl
  rw [cyN_lt hlt] at hl
  rcases hl with q | ⟨q, q2⟩
  · exact Or.inl (C.2.2.2.2.2.1 _ (tbG_of q rfl))
  · exact Or.inr ⟨C.2.2.2.2.2.2.1.2.2.1 _ _ _ q, q2⟩
theorem take_rev {st : List Value} {n : Nat} {x : Value} {rest : List Value} (h : st.drop n = x :: rest) : st.map (cv g) = (((st.take n).reverse).map (cv g)).reverse ++ cv g x :: rest.map (cv g) := by
  rw [List.map_reverse, List.reverse_reverse, ← List.map_cons, ← h, ← List.map_append, List.take_append_drop]
theorem take_rev0 {st : List Value} {n : Nat} : st.map (cv g) = (((st.take n).reverse).map (cv g)).reverse ++ (st.drop n).map (cv g) := by
  rw [List.map_reverse, List.reverse_reverse, ← List.map_append, List.take_append_drop]
theorem lt_virtual (P : Pt p l R s mi args meth c H locs cells slots g m n kc kz L h ls) {cp k nn : Nat} (hc : cR m cp = some (k, nn)) (hd : decode (mC m) pc = .ok (.invokevirtual cp, 3)) (hk : okA p l e R s mi args below meth c Q g m pc n kc kz (r1 (st.drop nn) (fun b rest => gd (nn ≤ st.length ∧ mKd k = 0 ∧ hS h b = (1, mK k)) (cl1 m pc L rest h k (.ref b :: (st.take nn).reverse))))) : W p l e R s mi args below meth c H locs cells slots Q (F0 mi pc ls (st.map (cv g))) := by
  obtain ⟨b, rest, hst, hq⟩ := r1_ok hk
  clear hk
  obtain ⟨⟨hnn, hkd, hs⟩, hq⟩ := gd_ok hq
  obtain ⟨⟨hlt, ha, hrl, hal, hf, hlo⟩, r, hex, b1, b2, hnx⟩ := cl1_ok hq
  obtain ⟨hmono, hM⟩ := P.2.1 k _ h r hex hlt ha hal
  have c1 := P.2.2.2.2.2.1
  have c2 := P.2.2.2.2.2.2
  have hok := okM_at hlt
  have hv := hok.2.2.2.2.1 hkd
  have hcls : RK (mK k) = (mY k).cls := hok.2.2.2.1
  rcases link_m P.1 hc hlt with hl | ⟨-, h2⟩
  · have cb := callB_m P (r := r) hc hlt hl hf hlo
    obtain ⟨hci, cell, q1, q2, q3, -⟩ := P.2.2.1.obj hs
    have hrecv : ∃ cellB : Cell, H[rho g b]? = some cellB ∧ cellB.vm.isStatics = false ∧ s.vm.findClass (mY k).cls = some cellB.cls := by
      refine ⟨cell, q1, by rw [q3]; rfl, ?_⟩
      have := (P.1.2.2.2.2.2.2.1.1.1 (mK k) _ (clT_at _ hci)).2.1
      rw [q2, ← hcls, ← this, clRK _ hci]
    refine call_on P hmono (va_runV (As := ((st.take nn).reverse).map (cv g)) (rest := rest.map (cv g)) (C := (mY k).cls) (b := rho g b) (Ts := tbG) ⟨P.1.1, P.1.2.1, P.1.2.2.1, P.1.2.2.2.2.1, P.1.2.2.2.2.2.1⟩ hM ⟨cb, P.1.2.2.2.2.2.1 _ (tbG_of hv.1 rfl), P.1.2.2.2.2.2.1 _ (tbG_of hv.2.1 rfl)⟩ ⟨blindM _ _, hrecv, preM P.2.2.1 P.1.2.2.2.2.2.2.1⟩ rfl (by simp; omega) P.2.2.2.2.1.1 (take_rev hst) (lv_room (Nat.le_trans (catsum g rest) (by omega))) hd ⟨by omega, by omega⟩) hnx
  · omega
theorem lt_static (P : Pt p l R s mi args meth c H locs cells slots g m n kc kz L h ls) {cp k nn : Nat} (hc : cR m cp = some (k, nn)) (hd : decode (mC m) pc = .ok (.invokestatic cp, 3)) (hk : okA p l e R s mi args below meth c Q g m pc n kc kz (gd (nn ≤ st.length ∧ mKd k = 1) (cl1 m pc L (st.drop nn) h k (st.take nn).reverse))) : W p l e R s mi args below meth c H locs cells slots Q (F0 mi pc ls (st.map (cv g))) := by
  obtain ⟨⟨hnn, hkd⟩, hq⟩ := gd_ok hk
  obtain ⟨⟨hlt, ha, hrl, hal, hf, hlo⟩, r, hex, b1, b2, hnx⟩ := cl1_ok hq
  obtain ⟨hmono, hM⟩ := P.2.1 k _ h r hex hlt ha hal
  have c1 := P.2.2.2.2.2.1
  have c2 := P.2.2.2.2.2.2
  have hok := okM_at hlt
  have hv := hok.2.2.2.2.2.1 hkd
  rcases link_m P.1 hc hlt with hl | ⟨-, h2⟩
  · have cb := callB_m P (r := r) hc hlt hl hf hlo
    refine call_on P hmono (va_runS (As := ((st.take nn).reverse).map (cv g)) (rest := (st.drop nn).map (cv g)) (Ts := tbG) ⟨P.1.1, P.1.2.1, P.1.2.2.1, P.1.2.2.2.2.1, P.1.2.2.2.2.2.1⟩ hM ⟨cb, P.1.2.2.2.2.2.1 _ (tbG_of hv rfl)⟩ ⟨blindM _ _, preM P.2.2.1 P.1.2.2.2.2.2.2.1⟩ rfl (by simp; omega) P.2.2.2.2.1.1 take_rev0 (lv_room (Nat.le_trans (catsum g _) (by omega))) hd ⟨by omega, by omega⟩) hnx
  · omega
theorem lt_special (P : Pt p l R s mi args meth c H locs cells slots g m n kc kz L h ls) {cp k nn : Nat} (hc : cR m cp = some (k, nn)) (hd : decode (mC m) pc = .ok (.invokespecial cp, 3)) (hk : okA p l e R s mi args below meth c Q g m pc n kc kz (r1 (st.drop nn) (fun b rest => gd (nn ≤ st.length ∧ mKd k = 2) (cl1 m pc L rest h k (.ref b :: (st.take nn).reverse))))) : W p l e R s mi args below meth c H locs cells slots Q (F0 mi pc ls (st.map (cv g))) := by
  obtain ⟨b, rest, hst, hq⟩ := r1_ok hk
  clear hk
  obtain ⟨⟨hnn, hkd⟩, hq⟩ := gd_ok hq
  obtain ⟨⟨hlt, ha, hrl, hal, hf, hlo⟩, r, hex, b1, b2, hnx⟩ := cl1_ok hq
  obtain ⟨hmono, hM⟩ := P.2.1 k _ h r hex hlt ha hal
  have c1 := P.2.2.2.2.2.1
  have c2 := P.2.2.2.2.2.2
  have hok := okM_at hlt
  have hv := hok.2.2.2.2.2.2 hkd
  have hrt : mRt k = none := initRet k hlt hkd
  have hin := P.1.2.2.2.2.2.1 _ (tbG_of hv.1 rfl)
  rcases link_m P.1 hc hlt with hl | ⟨hl, -⟩
  · have cb := callB_m P (r := r) hc hlt hl hf hlo
    rw [hrt] at cb
    refine call_on P hmono (va_runI (As := ((st.take nn).reverse).map (cv g)) (rest := rest.map (cv g)) (b := rho g b) (Ts := tbG) ⟨P.1.1, P.1.2.1, P.1.2.2.1, P.1.2.2.2.2.1, P.1.2.2.2.2.2.1⟩ hM ⟨cb, hv.2, hin⟩ ⟨blindM _ _, preM P.2.2.1 P.1.2.2.2.2.2.2.1⟩ rfl (by simp; omega) P.2.2.2.2.1.1 (take_rev hst) (lv_room (Nat.le_trans (catsum g rest) (by omega))) hd ⟨by omega, by omega⟩) hnx
  · obtain ⟨-, hdc, -⟩ := cR_ok hc
    dsimp only at hdc
    rw [cyN_lt hlt] at hdc
    have cb := va_cnB (R := R) (rm := rmM k h r.2) (mc := hN r.2 - hN h) (ms := hZ r.2 - hZ h) (ws := wsM k) (bytes := mC k) (maxL := mL k) (ret := mRt k) nn P.1.2.2.2.2.2.1 (wsM_good hlt) rfl rfl rfl hl (P.1.2.2.2.2.2.1 _ (tbG_of hok.2.1 rfl)) ⟨hok.2.2.1.2.1, hok.2.2.1.2.2, hdc⟩ (mRoom hf hlo P.1.2.2.2.2.2.2.2.2.1 P.1.2.2.2.2.2.2.2.2.2)
    rw [hrt] at cb
    refine call_on P hmono (va_runIN (As := ((st.take nn).reverse).map (cv g)) (rest := rest.map (cv g)) (b := rho g b) (Ts := tbG) ⟨P.1.1, P.1.2.1, P.1.2.2.1, P.1.2.2.2.2.1, P.1.2.2.2.2.2.1⟩ hM ⟨cb, hv.2, hin⟩ ⟨blindM _ _, preM P.2.2.1 P.1.2.2.2.2.2.2.1⟩ rfl (by simp; omega) P.2.2.2.2.1.1 (take_rev hst) (lv_room (Nat.le_trans (catsum g rest) (by omega))) hd ⟨by omega, by omega⟩) hnx
end STEPC
