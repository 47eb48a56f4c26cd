/-! ONE STEP OF THE ABSTRACT MACHINE IS ONE OF THE JVM -/
/-- a method's words -/
def wsM (k : Nat) : List Cond := Cond.code (mY k) (mC k) (mL k) (mRt k) :: tbG
/-- what holds of the frame that runs method m -/
def Cx (g : aG) (m : Nat) (p : Program) (R : Room) (s : State) (mi : MethodId) (args : Array Value) (meth : Method) (c : Code) : Prop :=
  p.tables.exec = Jvm.exec ∧ c.code = mC m ∧ c.maxLocals = mL m ∧ meth.locks = false ∧ s.vm.findClass (RK (mK m)) = some mi.cls ∧ (∀ w ∈ tbG, w.before args s = true) ∧ KS g s ∧ meth.name = (mY m).name ∧ mFr m ≤ R.frames ∧ mLo m ≤ R.locals
def LO (g : aG) (locs : List Loc) : Prop := ∀ q ∈ locs, gS g ≤ q.base
def PcM (g : aG) (as : List Value) (h : aH) : Array Value → State → Prop := va_Pc (as.map (cv g)) (fun U => HR g h U.heap ∧ KS g U)
def QcM (g : aG) (r : aR) : Array Value → State → Outcome → State → Prop := fun _ _ oc t => oc = .returned (r.1.map (cv g)) ∧ HR g r.2 t.heap
def rmM (k : Nat) (h h' : aH) : Room := { frames := mFr k, cells := hN h' - hN h, slots := hZ h' - hZ h, locals := mLo k }
/-- the contracts of runs of n steps -/
def IM (l : Launch) (g : aG) (n : Nat) : Prop := ∀ (k : Nat) (as : List Value) (h : aH) (r : aR), exec n (k, 0, eL k as, [], h) = some r → k < nMt → as.all arg1 = true → as.length ≤ mL k →
  (hN h ≤ hN r.2 ∧ hZ h ≤ hZ r.2) ∧ Met l (mY k) (wsM k) (rmM k h r.2) (PcM g as h) (QcM g r) (hN r.2 - hN h) (hZ r.2 - hZ h) (fun q => gS g ≤ q)
def rOk (m : Nat) (r : Option Value) : Prop := match r with
  | some (.int v) => mRt m = some .int ∨ mRt m = some .boolean ∧ (v = 0 ∨ v = 1)
  | none => mRt m = none
  | _ => False
def rDec (m pc : Nat) (r : Option Value) : Prop := match r with
  | some _ => decode (mC m) pc = .ok (.ireturn, 1)
  | none => decode (mC m) pc = .ok (.return_, 1)
section STEP
variable {p : Program} {l : Launch} {e : Env} {R : Room} {s : State} {mi : MethodId} {args : Array Value} {below : List Frame} {meth : Method} {c : Code} {H : Heap} {locs : List Loc} {cells slots : Nat} {Q : State → Prop} {g : aG} {m pc n kc kz len : Nat} {L st : List Value} {h : aH} {ls : Array Slot}
/-- the machine can go on from there -/
def nxt (p : Program) (l : Launch) (e : Env) (R : Room) (s : State) (mi : MethodId) (args : Array Value) (below : List Frame) (meth : Method) (c : Code) (Q : State → Prop) (g : aG) (m kc kz : Nat) (q : aQ) : Prop :=
  q.1 = m ∧ hN q.2.2.2.2 ≤ R.cells + kc ∧ hZ q.2.2.2.2 ≤ R.slots + kz ∧ ∀ (H : Heap) (locs : List Loc) (ls : Array Slot) (cells slots : Nat), HR g q.2.2.2.2 H → LO g locs → LR g ls (mL m) q.2.2.1 → cells + kc = hN q.2.2.2.2 → slots + kz = hZ q.2.2.2.2 → W p l e R s mi args below meth c H locs cells slots Q (F0 mi q.2.1 ls (q.2.2.2.1.map (cv g)))
def okA (p : Program) (l : Launch) (e : Env) (R : Room) (s : State) (mi : MethodId) (args : Array Value) (below : List Frame) (meth : Method) (c : Code) (Q : State → Prop) (g : aG) (m pc n kc kz : Nat) (a : aA) : Prop := match a with
  | none => False
  | some (.inl r) => ∀ (H : Heap) (locs : List Loc) (ls : Array Slot) (cells slots : Nat), HR g r.2 H → LO g locs → cells + kc = hN r.2 → slots + kz = hZ r.2 → rOk m r.1 → rDec m pc r.1 → W p l e R s mi args below meth c H locs cells slots Q (F0 mi pc ls (r.1.toList.map (cv g)))
  | some (.inr (.inl q)) => nxt p l e R s mi args below meth c Q g m kc kz q
  | some (.inr (.inr (q, k))) => ∃ r, exec n q = some r ∧ hN r.2 ≤ R.cells + kc ∧ hZ r.2 ≤ R.slots + kz ∧ nxt p l e R s mi args below meth c Q g m kc kz (k r)
/-- a point of a run -/
def Pt (p : Program) (l : Launch) (R : Room) (s : State) (mi : MethodId) (args : Array Value) (meth : Method) (c : Code) (H : Heap) (locs : List Loc) (cells slots : Nat) (g : aG) (m n kc kz : Nat) (L : List Value) (h : aH) (ls : Array Slot) : Prop :=
  Cx g m p R s mi args meth c ∧ IM l g n ∧ HR g h H ∧ LO g locs ∧ LR g ls (mL m) L ∧ cells + kc = hN h ∧ slots + kz = hZ h
theorem nx (P : Pt p l R s mi args meth c H locs cells slots g m n kc kz L h ls) {pc' : Nat} {st' : List Value} (hk : okA p l e R s mi args below meth c Q g m pc n kc kz (aN m pc' L st' h)) : W p l e R s mi args below meth c H locs cells slots Q (F0 mi pc' ls (st'.map (cv g))) := hk.2.2.2 H locs ls cells slots P.2.2.1 P.2.2.2.1 P.2.2.2.2.1 P.2.2.2.2.2.1 P.2.2.2.2.2.2
theorem b2_ok {f : Int32 → Int32 → List Value → aA} (hk : okA p l e R s mi args below meth c Q g m pc n kc kz (b2 st f)) : ∃ x y st', st = .int y :: .int x :: st' ∧ okA p l e R s mi args below meth c Q g m pc n kc kz (f x y st') := by
  unfold b2 at hk
  split at hk
  · exact ⟨_, _, _, rfl, hk⟩
  · exact hk.elim
theorem l2_ok {f : Int64 → Int64 → List Value → aA} (hk : okA p l e R s mi args below meth c Q g m pc n kc kz (l2 st f)) : ∃ x y st', st = .long y :: .long x :: st' ∧ okA p l e R s mi args below meth c Q g m pc n kc kz (f x y st') := by
  unfold l2 at hk
  split at hk
  · exact ⟨_, _, _, rfl, hk⟩
  · exact hk.elim
theorem b1_ok {f : Int32 → List Value → aA} (hk : okA p l e R s mi args below meth c Q g m pc n kc kz (b1 st f)) : ∃ x st', st = .int x :: st' ∧ okA p l e R s mi args below meth c Q g m pc n kc kz (f x st') := by
  unfold b1 at hk
  split at hk
  · exact ⟨_, _, rfl, hk⟩
  · exact hk.elim
theorem r1_ok {f : Nat → List Value → aA} (hk : okA p l e R s mi args below meth c Q g m pc n kc kz (r1 st f)) : ∃ a st', st = .ref a :: st' ∧ okA p l e R s mi args below meth c Q g m pc n kc kz (f a st') := by
  unfold r1 at hk
  split at hk
  · exact ⟨_, _, rfl, hk⟩
  · exact hk.elim
theorem gd_ok {q : Prop} [Decidable q] {a : aA} (hk : okA p l e R s mi args below meth c Q g m pc n kc kz (gd q a)) : q ∧ okA p l e R s mi args below meth c Q g m pc n kc kz a := by
  unfold gd at hk
  split at hk
  · exact ⟨by assumption, hk⟩
  · exact hk.elim
theorem ldI_ok {i : Nat} {f : Int32 → aA} (hk : okA p l e R s mi args below meth c Q g m pc n kc kz (ldI L i f)) : ∃ x, L[i]? = some (.int x) ∧ okA p l e R s mi args below meth c Q g m pc n kc kz (f x) := by
  unfold ldI at hk
  split at hk
  · exact ⟨_, by assumption, hk⟩
  · exact hk.elim
theorem ldR_ok {i : Nat} {f : Nat → aA} (hk : okA p l e R s mi args below meth c Q g m pc n kc kz (ldR L i f)) : ∃ x, L[i]? = some (.ref x) ∧ okA p l e R s mi args below meth c Q g m pc n kc kz (f x) := by
  unfold ldR at hk
  split at hk
  · exact ⟨_, by assumption, hk⟩
  · exact hk.elim
theorem ldL_ok {i : Nat} {f : Int64 → aA} (hk : okA p l e R s mi args below meth c Q g m pc n kc kz (ldL L i f)) : ∃ x, L[i]? = some (.long x) ∧ okA p l e R s mi args below meth c Q g m pc n kc kz (f x) := by
  unfold ldL at hk
  split at hk
  · exact ⟨_, by assumption, hk⟩
  · exact hk.elim
theorem jp_ok {off : Int} {f : Nat → aA} (hk : okA p l e R s mi args below meth c Q g m pc n kc kz (jp pc off f)) : ∃ t : Nat, (pc : Int) + off = (t : Int) ∧ okA p l e R s mi args below meth c Q g m pc n kc kz (f t) := by
  unfold jp at hk
  split at hk
  · exact ⟨_, by omega, hk⟩
  · exact hk.elim
theorem lt_iconst (P : Pt p l R s mi args meth c H locs cells slots g m n kc kz L h ls) {v : Int} (hd : decode (mC m) pc = .ok (.iconst v, 1)) (hk : okA p l e R s mi args below meth c Q g m pc n kc kz (aN m (pc + 1) L (.int (Int32.ofInt v) :: st) h)) : W p l e R s mi args below meth c H locs cells slots Q (F0 mi pc ls (st.map (cv g))) := lv_iconst P.1.1 P.1.2.1 hd rfl (nx P hk)
theorem lt_bipush (P : Pt p l R s mi args meth c H locs cells slots g m n kc kz L h ls) {v : Int} (hd : decode (mC m) pc = .ok (.bipush v, 2)) (hk : okA p l e R s mi args below meth c Q g m pc n kc kz (aN m (pc + 2) L (.int (Int8.ofInt v).toInt32 :: st) h)) : W p l e R s mi args below meth c H locs cells slots Q (F0 mi pc ls (st.map (cv g))) := lv_bipush P.1.1 P.1.2.1 hd rfl (nx P hk)
theorem lt_sipush (P : Pt p l R s mi args meth c H locs cells slots g m n kc kz L h ls) {v : Int} (hd : decode (mC m) pc = .ok (.sipush v, 3)) (hk : okA p l e R s mi args below meth c Q g m pc n kc kz (aN m (pc + 3) L (.int (Int16.ofInt v).toInt32 :: st) h)) : W p l e R s mi args below meth c H locs cells slots Q (F0 mi pc ls (st.map (cv g))) := lv_sipush P.1.1 P.1.2.1 hd rfl (nx P hk)
theorem lt_lconst (P : Pt p l R s mi args meth c H locs cells slots g m n kc kz L h ls) {v : Fin 2} (hd : decode (mC m) pc = .ok (.lconst v, 1)) (hk : okA p l e R s mi args below meth c Q g m pc n kc kz (aN m (pc + 1) L (.long (Int64.ofNat v.val) :: st) h)) : W p l e R s mi args below meth c H locs cells slots Q (F0 mi pc ls (st.map (cv g))) := lv_lconst P.1.1 P.1.2.1 hd rfl (nx P hk)
theorem lt_ldc (P : Pt p l R s mi args meth c H locs cells slots g m n kc kz L h ls) {cp : Nat} (hd : decode (mC m) pc = .ok (.ldc cp, 2)) (hk : okA p l e R s mi args below meth c Q g m pc n kc kz (gd (mK m = 7 ∧ cp = 72) (aN m (pc + 2) L (.ref 2 :: st) h))) : W p l e R s mi args below meth c H locs cells slots Q (F0 mi pc ls (st.map (cv g))) := by
  obtain ⟨⟨h7, rfl⟩, hq⟩ := gd_ok hk
  have hown := P.1.2.2.2.2.1
  rw [h7] at hown
  have hw := nx P hq
  rw [List.map_cons, cv_ref, show rho g 2 = gA g from rfl] at hw
  exact va_ldcS (own := "BedsBySnore") P.1.1 P.1.2.1 hown P.1.2.2.2.2.2.2.1.2.2.2.1 hd hw
theorem lt_ldcw (P : Pt p l R s mi args meth c H locs cells slots g m n kc kz L h ls) {cp : Nat} (hd : decode (mC m) pc = .ok (.ldc_w cp, 3)) (hk : okA p l e R s mi args below meth c Q g m pc n kc kz (match kR m cp with | some v => aN m (pc + 3) L (.int v :: st) h | none => none)) : W p l e R s mi args below meth c H locs cells slots Q (F0 mi pc ls (st.map (cv g))) := by
  split at hk
  · rename_i v hv
    obtain ⟨i, hi⟩ := lk_at _ _ _ hv
    have hw := okKs _ (List.mem_of_getElem? hi)
    exact lv_ldcw P.1.1 P.1.2.1 P.1.2.2.2.2.1 (P.1.2.2.2.2.2.1 _ (tbG_of hw rfl)) hd (nx P hk)
  · exact hk.elim
theorem lt_ldc2 (P : Pt p l R s mi args meth c H locs cells slots g m n kc kz L h ls) {cp : Nat} (hd : decode (mC m) pc = .ok (.ldc2_w cp, 3)) (hk : okA p l e R s mi args below meth c Q g m pc n kc kz (match lR m cp with | some v => aN m (pc + 3) L (.long v :: st) h | none => none)) : W p l e R s mi args below meth c H locs cells slots Q (F0 mi pc ls (st.map (cv g))) := by
  split at hk
  · rename_i v hv
    obtain ⟨i, hi⟩ := lk_at _ _ _ hv
    have hw := okLs _ (List.mem_of_getElem? hi)
    exact lv_ldc2 P.1.1 P.1.2.1 P.1.2.2.2.2.1 (P.1.2.2.2.2.2.1 _ (tbG_of hw rfl)) hd (nx P hk)
  · exact hk.elim
theorem lt_iload_n (P : Pt p l R s mi args meth c H locs cells slots g m n kc kz L h ls) {k : Fin 4} (hd : decode (mC m) pc = .ok (.iload_n k, 1)) (hk : okA p l e R s mi args below meth c Q g m pc n kc kz (ldI L k.val (fun x => aN m (pc + 1) L (.int x :: st) h))) : W p l e R s mi args below meth c H locs cells slots Q (F0 mi pc ls (st.map (cv g))) := by
  obtain ⟨x, hx, hk⟩ := ldI_ok hk
  exact lv_iload_n P.1.1 P.1.2.1 hd rfl (P.2.2.2.2.1.at hx (by simp)) (nx P hk)
theorem lt_iload (P : Pt p l R s mi args meth c H locs cells slots g m n kc kz L h ls) {k : Nat} (hd : decode (mC m) pc = .ok (.iload k, 2)) (hk : okA p l e R s mi args below meth c Q g m pc n kc kz (ldI L k (fun x => aN m (pc + 2) L (.int x :: st) h))) : W p l e R s mi args below meth c H locs cells slots Q (F0 mi pc ls (st.map (cv g))) := by
  obtain ⟨x, hx, hk⟩ := ldI_ok hk
  exact lv_iload P.1.1 P.1.2.1 hd (P.2.2.2.2.1.at hx (by simp)) (nx P hk)
theorem lt_aload_n (P : Pt p l R s mi args meth c H locs cells slots g m n kc kz L h ls) {k : Fin 4} (hd : decode (mC m) pc = .ok (.aload_n k, 1)) (hk : okA p l e R s mi args below meth c Q g m pc n kc kz (ldR L k.val (fun x => aN m (pc + 1) L (.ref x :: st) h))) : W p l e R s mi args below meth c H locs cells slots Q (F0 mi pc ls (st.map (cv g))) := by
  obtain ⟨x, hx, hk⟩ := ldR_ok hk
  exact lv_aload_n P.1.1 P.1.2.1 hd rfl (P.2.2.2.2.1.at hx (by simp)) (nx P hk)
theorem lt_aload (P : Pt p l R s mi args meth c H locs cells slots g m n kc kz L h ls) {k : Nat} (hd : decode (mC m) pc = .ok (.aload k, 2)) (hk : okA p l e R s mi args below meth c Q g m pc n kc kz (ldR L k (fun x => aN m (pc + 2) L (.ref x :: st) h))) : W p l e R s mi args below meth c H locs cells slots Q (F0 mi pc ls (st.map (cv g))) := by
  obtain ⟨x, hx, hk⟩ := ldR_ok hk
  exact lv_aload P.1.1 P.1.2.1 hd (P.2.2.2.2.1.at hx (by simp)) (nx P hk)
theorem lt_lload_n (P : Pt p l R s mi args meth c H locs cells slots g m n kc kz L h ls) {k : Fin 4} (hd : decode (mC m) pc = .ok (.lload_n k, 1)) (hk : okA p l e R s mi args below meth c Q g m pc n kc kz (ldL L k.val (fun x => aN m (pc + 1) L (.long x :: st) h))) : W p l e R s mi args below meth c H locs cells slots Q (F0 mi pc ls (st.map (cv g))) := by
  obtain ⟨x, hx, hk⟩ := ldL_ok hk
  exact lv_lload_n P.1.1 P.1.2.1 hd rfl (P.2.2.2.2.1.at hx (by simp)) (nx P hk)
theorem lt_lload (P : Pt p l R s mi args meth c H locs cells slots g m n kc kz L h ls) {k : Nat} (hd : decode (mC m) pc = .ok (.lload k, 2)) (hk : okA p l e R s mi args below meth c Q g m pc n kc kz (ldL L k (fun x => aN m (pc + 2) L (.long x :: st) h))) : W p l e R s mi args below meth c H locs cells slots Q (F0 mi pc ls (st.map (cv g))) := by
  obtain ⟨x, hx, hk⟩ := ldL_ok hk
  exact lv_lload P.1.1 P.1.2.1 hd (P.2.2.2.2.1.at hx (by simp)) (nx P hk)
/-- the same with other locals -/
theorem nxL (P : Pt p l R s mi args meth c H locs cells slots g m n kc kz L h ls) {pc' : Nat} {L' st' : List Value} {ls' : Array Slot} (hk : okA p l e R s mi args below meth c Q g m pc n kc kz (aN m pc' L' st' h)) (hl : LR g ls' (mL m) L') : W p l e R s mi args below meth c H locs cells slots Q (F0 mi pc' ls' (st'.map (cv g))) := hk.2.2.2 H locs ls' cells slots P.2.2.1 P.2.2.2.1 hl P.2.2.2.2.2.1 P.2.2.2.2.2.2
theorem lt_istore_n (P : Pt p l R s mi args meth c H locs cells slots g m n kc kz L h ls) {k : Fin 4} (hd : decode (mC m) pc = .ok (.istore_n k, 1)) (hk : okA p l e R s mi args below meth c Q g m pc n kc kz (b1 st (fun x st => gd (k.val < L.length ∧ nl L k.val = true) (aN m (pc + 1) (L.set k.val (.int x)) st h)))) : W p l e R s mi args below meth c H locs cells slots Q (F0 mi pc ls (st.map (cv g))) := by
  obtain ⟨x, st', rfl, hk⟩ := b1_ok hk
  obtain ⟨⟨h1, h2⟩, hk⟩ := gd_ok hk
  have hl := P.2.2.2.2.1
  exact lv_istore_n P.1.1 P.1.2.1 hd rfl hl.has (by rw [← hl.2.2.1]; exact h1) rfl (fun ls' hl' => nxL P hk (hl.store h1 h2 rfl hl'))
theorem lt_istore (P : Pt p l R s mi args meth c H locs cells slots g m n kc kz L h ls) {k : Nat} (hd : decode (mC m) pc = .ok (.istore k, 2)) (hk : okA p l e R s mi args below meth c Q g m pc n kc kz (b1 st (fun x st => gd (k < L.length ∧ nl L k = true) (aN m (pc + 2) (L.set k (.int x)) st h)))) : W p l e R s mi args below meth c H locs cells slots Q (F0 mi pc ls (st.map (cv g))) := by
  obtain ⟨x, st', rfl, hk⟩ := b1_ok hk
  obtain ⟨⟨h1, h2⟩, hk⟩ := gd_ok hk
  have hl := P.2.2.2.2.1
  exact lv_istore P.1.1 P.1.2.1 hd hl.has (by rw [← hl.2.2.1]; exact h1) rfl (fun ls' hl' => nxL P hk (hl.store h1 h2 rfl hl'))
theorem lt_astore_n (P : Pt p l R s mi args meth c H locs cells slots g m n kc kz L h ls) {k : Fin 4} (hd : decode (mC m) pc = .ok (.astore_n k, 1)) (hk : okA p l e R s mi args below meth c Q g m pc n kc kz (r1 st (fun x st => gd (k.val < L.length ∧ nl L k.val = true) (aN m (pc + 1) (L.set k.val (.ref x)) st h)))) : W p l e R s mi args below meth c H locs cells slots Q (F0 mi pc ls (st.map (cv g))) := by
  obtain ⟨x, st', rfl, hk⟩ := r1_ok hk
  obtain ⟨⟨h1, h2⟩, hk⟩ := gd_ok hk
  have hl := P.2.2.2.2.1
  exact lv_astore_n P.1.1 P.1.2.1 hd rfl hl.has (by rw [← hl.2.2.1]; exact h1) rfl (fun ls' hl' => nxL P hk (hl.store (v := .ref x) h1 h2 rfl hl'))
theorem lt_lstore_n (P : Pt p l R s mi args meth c H locs cells slots g m n kc kz L h ls) {k : Fin 4} (hd : decode (mC m) pc = .ok (.lstore_n k, 1)) (hk : okA p l e R s mi args below meth c Q g m pc n kc kz (match st with | .long x :: st => gd (k.val + 1 < L.length ∧ nl L k.val = true) (aN m (pc + 1) ((L.set k.val (.long x)).set (k.val + 1) .null) st h) | _ => none)) : W p l e R s mi args below meth c H locs cells slots Q (F0 mi pc ls (st.map (cv g))) := by
  split at hk
  · obtain ⟨⟨h1, h2⟩, hk⟩ := gd_ok hk
    have hl := P.2.2.2.2.1
    exact lv_lstore_n P.1.1 P.1.2.1 hd rfl hl.has (by rw [← hl.2.2.1]; exact h1) rfl (fun ls' hl' => nxL P hk (hl.store2 h1 h2 hl'))
  · exact hk.elim
theorem lt_lstore (P : Pt p l R s mi args meth c H locs cells slots g m n kc kz L h ls) {k : Nat} (hd : decode (mC m) pc = .ok (.lstore k, 2)) (hk : okA p l e R s mi args below meth c Q g m pc n kc kz (match st with | .long x :: st => gd (k + 1 < L.length ∧ nl L k = true) (aN m (pc + 2) ((L.set k (.long x)).set (k + 1) .null) st h) | _ => none)) : W p l e R s mi args below meth c H locs cells slots Q (F0 mi pc ls (st.map (cv g))) := by
  split at hk
  · obtain ⟨⟨h1, h2⟩, hk⟩ := gd_ok hk
    have hl := P.2.2.2.2.1
    exact lv_lstore P.1.1 P.1.2.1 hd hl.has (by rw [← hl.2.2.1]; exact h1) rfl (fun ls' hl' => nxL P hk (hl.store2 h1 h2 hl'))
  · exact hk.elim
theorem lt_iinc (P : Pt p l R s mi args meth c H locs cells slots g m n kc kz L h ls) {k : Nat} {v : Int} (hd : decode (mC m) pc = .ok (.iinc k v, 3)) (hk : okA p l e R s mi args below meth c Q g m pc n kc kz (ldI L k (fun x => gd (nl L k = true) (aN m (pc + 3) (L.set k (.int (x + Int32.ofInt v))) st h)))) : W p l e R s mi args below meth c H locs cells slots Q (F0 mi pc ls (st.map (cv g))) := by
  obtain ⟨x, hx, hk⟩ := ldI_ok hk
  obtain ⟨h2, hk⟩ := gd_ok hk
  have hl := P.2.2.2.2.1
  have h1 : k < L.length := (List.getElem?_eq_some_iff.mp hx).1
  obtain ⟨j, hj⟩ := List.getElem?_of_mem (enumL_mem (g := g) (L := L) (q := (k, .int x)) |>.mpr ⟨_, hx, by simp, rfl⟩)
  exact lv_iinc P.1.1 P.1.2.1 hd hl.has hj rfl (by rw [← hl.2.2.1]; exact h1) rfl (fun ls' hl' => nxL P hk (hl.store h1 h2 rfl hl'))
theorem lt_dup (P : Pt p l R s mi args meth c H locs cells slots g m n kc kz L h ls) (hd : decode (mC m) pc = .ok (.dup, 1)) (hk : okA p l e R s mi args below meth c Q g m pc n kc kz (match st with | v :: st => gd (v.category = 1) (aN m (pc + 1) L (v :: v :: st) h) | _ => none)) : W p l e R s mi args below meth c H locs cells slots Q (F0 mi pc ls (st.map (cv g))) := by
  split at hk
  · obtain ⟨h1, hk⟩ := gd_ok hk
    exact lv_dup P.1.1 P.1.2.1 hd (by rw [cv_cat]; exact h1) (nx P hk)
  · exact hk.elim
theorem lt_dup2 (P : Pt p l R s mi args meth c H locs cells slots g m n kc kz L h ls) (hd : decode (mC m) pc = .ok (.dup2, 1)) (hk : okA p l e R s mi args below meth c Q g m pc n kc kz (match st with | v :: w :: st => gd (v.category = 1 ∧ w.category = 1) (aN m (pc + 1) L (v :: w :: v :: w :: st) h) | _ => none)) : W p l e R s mi args below meth c H locs cells slots Q (F0 mi pc ls (st.map (cv g))) := by
  split at hk
  · obtain ⟨⟨h1, h2⟩, hk⟩ := gd_ok hk
    exact lv_dup2_11 P.1.1 P.1.2.1 hd (by rw [cv_cat]; exact h1) (by rw [cv_cat]; exact h2) (nx P hk)
  · exact hk.elim
theorem lt_pop (P : Pt p l R s mi args meth c H locs cells slots g m n kc kz L h ls) (hd : decode (mC m) pc = .ok (.pop, 1)) (hk : okA p l e R s mi args below meth c Q g m pc n kc kz (match st with | v :: st => gd (v.category = 1) (aN m (pc + 1) L st h) | _ => none)) : W p l e R s mi args below meth c H locs cells slots Q (F0 mi pc ls (st.map (cv g))) := by
  split at hk
  · obtain ⟨h1, hk⟩ := gd_ok hk
    exact lv_pop P.1.1 P.1.2.1 hd (by rw [cv_cat]; exact h1) (nx P hk)
  · exact hk.elim
theorem lt_iadd (P : Pt p l R s mi args meth c H locs cells slots g m n kc kz L h ls) (hd : decode (mC m) pc = .ok (.iadd, 1)) (hk : okA p l e R s mi args below meth c Q g m pc n kc kz (b2 st (fun x y st => aN m (pc + 1) L (.int (x + y) :: st) h))) : W p l e R s mi args below meth c H locs cells slots Q (F0 mi pc ls (st.map (cv g))) := by
  obtain ⟨x, y, st', rfl, hk⟩ := b2_ok hk
  exact lv_iadd P.1.1 P.1.2.1 hd (nx P hk)
theorem lt_isub (P : Pt p l R s mi args meth c H locs cells slots g m n kc kz L h ls) (hd : decode (mC m) pc = .ok (.isub, 1)) (hk : okA p l e R s mi args below meth c Q g m pc n kc kz (b2 st (fun x y st => aN m (pc + 1) L (.int (x - y) :: st) h))) : W p l e R s mi args below meth c H locs cells slots Q (F0 mi pc ls (st.map (cv g))) := by
  obtain ⟨x, y, st', rfl, hk⟩ := b2_ok hk
  exact lv_isub P.1.1 P.1.2.1 hd (nx P hk)
theorem lt_imul (P : Pt p l R s mi args meth c H locs cells slots g m n kc kz L h ls) (hd : decode (mC m) pc = .ok (.imul, 1)) (hk : okA p l e R s mi args below meth c Q g m pc n kc kz (b2 st (fun x y st => aN m (pc + 1) L (.int (x * y) :: st) h))) : W p l e R s mi args below meth c H locs cells slots Q (F0 mi pc ls (st.map (cv g))) := by
  obtain ⟨x, y, st', rfl, hk⟩ := b2_ok hk
  exact lv_imul P.1.1 P.1.2.1 hd (nx P hk)
theorem lt_iand (P : Pt p l R s mi args meth c H locs cells slots g m n kc kz L h ls) (hd : decode (mC m) pc = .ok (.iand, 1)) (hk : okA p l e R s mi args below meth c Q g m pc n kc kz (b2 st (fun x y st => aN m (pc + 1) L (.int (x &&& y) :: st) h))) : W p l e R s mi args below meth c H locs cells slots Q (F0 mi pc ls (st.map (cv g))) := by
  obtain ⟨x, y, st', rfl, hk⟩ := b2_ok hk
  exact lv_iand P.1.1 P.1.2.1 hd (nx P hk)
theorem lt_ior (P : Pt p l R s mi args meth c H locs cells slots g m n kc kz L h ls) (hd : decode (mC m) pc = .ok (.ior, 1)) (hk : okA p l e R s mi args below meth c Q g m pc n kc kz (b2 st (fun x y st => aN m (pc + 1) L (.int (x ||| y) :: st) h))) : W p l e R s mi args below meth c H locs cells slots Q (F0 mi pc ls (st.map (cv g))) := by
  obtain ⟨x, y, st', rfl, hk⟩ := b2_ok hk
  exact lv_ior P.1.1 P.1.2.1 hd (nx P hk)
theorem lt_ixor (P : Pt p l R s mi args meth c H locs cells slots g m n kc kz L h ls) (hd : decode (mC m) pc = .ok (.ixor, 1)) (hk : okA p l e R s mi args below meth c Q g m pc n kc kz (b2 st (fun x y st => aN m (pc + 1) L (.int (x ^^^ y) :: st) h))) : W p l e R s mi args below meth c H locs cells slots Q (F0 mi pc ls (st.map (cv g))) := by
  obtain ⟨x, y, st', rfl, hk⟩ := b2_ok hk
  exact lv_ixor P.1.1 P.1.2.1 hd (nx P hk)
theorem lt_ishl (P : Pt p l R s mi args meth c H locs cells slots g m n kc kz L h ls) (hd : decode (mC m) pc = .ok (.ishl, 1)) (hk : okA p l e R s mi args below meth c Q g m pc n kc kz (b2 st (fun x y st => aN m (pc + 1) L (.int (x <<< (y &&& 31)) :: st) h))) : W p l e R s mi args below meth c H locs cells slots Q (F0 mi pc ls (st.map (cv g))) := by
  obtain ⟨x, y, st', rfl, hk⟩ := b2_ok hk
  exact lv_ishl P.1.1 P.1.2.1 hd (nx P hk)
theorem lt_ishr (P : Pt p l R s mi args meth c H locs cells slots g m n kc kz L h ls) (hd : decode (mC m) pc = .ok (.ishr, 1)) (hk : okA p l e R s mi args below meth c Q g m pc n kc kz (b2 st (fun x y st => aN m (pc + 1) L (.int (x >>> (y &&& 31)) :: st) h))) : W p l e R s mi args below meth c H locs cells slots Q (F0 mi pc ls (st.map (cv g))) := by
  obtain ⟨x, y, st', rfl, hk⟩ := b2_ok hk
  exact lv_ishr P.1.1 P.1.2.1 hd (nx P hk)
theorem lt_iushr (P : Pt p l R s mi args meth c H locs cells slots g m n kc kz L h ls) (hd : decode (mC m) pc = .ok (.iushr, 1)) (hk : okA p l e R s mi args below meth c Q g m pc n kc kz (b2 st (fun x y st => aN m (pc + 1) L (.int (x.toUInt32 >>> (y.toUInt32 &&& Int32.toUInt32 31)).toInt32 :: st) h))) : W p l e R s mi args below meth c H locs cells slots Q (F0 mi pc ls (st.map (cv g))) := by
  obtain ⟨x, y, st', rfl, hk⟩ := b2_ok hk
  exact lv_iushr P.1.1 P.1.2.1 hd rfl (nx P hk)
theorem lt_idiv (P : Pt p l R s mi args meth c H locs cells slots g m n kc kz L h ls) (hd : decode (mC m) pc = .ok (.idiv, 1)) (hk : okA p l e R s mi args below meth c Q g m pc n kc kz (b2 st (fun x y st => gd (¬ y = 0) (aN m (pc + 1) L (.int (x / y) :: st) h)))) : W p l e R s mi args below meth c H locs cells slots Q (F0 mi pc ls (st.map (cv g))) := by
  obtain ⟨x, y, st', rfl, hk⟩ := b2_ok hk
  obtain ⟨h1, hk⟩ := gd_ok hk
  exact lv_idiv P.1.1 P.1.2.1 hd h1 (nx P hk)
theorem lt_irem (P : Pt p l R s mi args meth c H locs cells slots g m n kc kz L h ls) (hd : decode (mC m) pc = .ok (.irem, 1)) (hk : okA p l e R s mi args below meth c Q g m pc n kc kz (b2 st (fun x y st => gd (¬ y = 0) (aN m (pc + 1) L (.int (x - x / y * y) :: st) h)))) : W p l e R s mi args below meth c H locs cells slots Q (F0 mi pc ls (st.map (cv g))) := by
  obtain ⟨x, y, st', rfl, hk⟩ := b2_ok hk
  obtain ⟨h1, hk⟩ := gd_ok hk
  exact lv_irem P.1.1 P.1.2.1 hd h1 (nx P hk)
theorem lt_ladd (P : Pt p l R s mi args meth c H locs cells slots g m n kc kz L h ls) (hd : decode (mC m) pc = .ok (.ladd, 1)) (hk : okA p l e R s mi args below meth c Q g m pc n kc kz (l2 st (fun x y st => aN m (pc + 1) L (.long (x + y) :: st) h))) : W p l e R s mi args below meth c H locs cells slots Q (F0 mi pc ls (st.map (cv g))) := by
  obtain ⟨x, y, st', rfl, hk⟩ := l2_ok hk
  exact lv_ladd P.1.1 P.1.2.1 hd (nx P hk)
theorem lt_lmul (P : Pt p l R s mi args meth c H locs cells slots g m n kc kz L h ls) (hd : decode (mC m) pc = .ok (.lmul, 1)) (hk : okA p l e R s mi args below meth c Q g m pc n kc kz (l2 st (fun x y st => aN m (pc + 1) L (.long (x * y) :: st) h))) : W p l e R s mi args below meth c H locs cells slots Q (F0 mi pc ls (st.map (cv g))) := by
  obtain ⟨x, y, st', rfl, hk⟩ := l2_ok hk
  exact lv_lmul P.1.1 P.1.2.1 hd (nx P hk)
theorem lt_ldiv (P : Pt p l R s mi args meth c H locs cells slots g m n kc kz L h ls) (hd : decode (mC m) pc = .ok (.ldiv, 1)) (hk : okA p l e R s mi args below meth c Q g m pc n kc kz (l2 st (fun x y st => gd (¬ y = 0) (aN m (pc + 1) L (.long (x / y) :: st) h)))) : W p l e R s mi args below meth c H locs cells slots Q (F0 mi pc ls (st.map (cv g))) := by
  obtain ⟨x, y, st', rfl, hk⟩ := l2_ok hk
  obtain ⟨h1, hk⟩ := gd_ok hk
  exact lv_ldiv P.1.1 P.1.2.1 hd h1 (nx P hk)
theorem lt_lrem (P : Pt p l R s mi args meth c H locs cells slots g m n kc kz L h ls) (hd : decode (mC m) pc = .ok (.lrem, 1)) (hk : okA p l e R s mi args below meth c Q g m pc n kc kz (l2 st (fun x y st => gd (¬ y = 0) (aN m (pc + 1) L (.long (x - x / y * y) :: st) h)))) : W p l e R s mi args below meth c H locs cells slots Q (F0 mi pc ls (st.map (cv g))) := by
  obtain ⟨x, y, st', rfl, hk⟩ := l2_ok hk
  obtain ⟨h1, hk⟩ := gd_ok hk
  exact lv_lrem P.1.1 P.1.2.1 hd h1 (nx P hk)
theorem lt_ineg (P : Pt p l R s mi args meth c H locs cells slots g m n kc kz L h ls) (hd : decode (mC m) pc = .ok (.ineg, 1)) (hk : okA p l e R s mi args below meth c Q g m pc n kc kz (b1 st (fun x st => aN m (pc + 1) L (.int (-x) :: st) h))) : W p l e R s mi args below meth c H locs cells slots Q (F0 mi pc ls (st.map (cv g))) := by
  obtain ⟨x, st', rfl, hk⟩ := b1_ok hk
  exact lv_ineg P.1.1 P.1.2.1 hd (nx P hk)
theorem lt_i2l (P : Pt p l R s mi args meth c H locs cells slots g m n kc kz L h ls) (hd : decode (mC m) pc = .ok (.i2l, 1)) (hk : okA p l e R s mi args below meth c Q g m pc n kc kz (b1 st (fun x st => aN m (pc + 1) L (.long x.toInt64 :: st) h))) : W p l e R s mi args below meth c H locs cells slots Q (F0 mi pc ls (st.map (cv g))) := by
  obtain ⟨x, st', rfl, hk⟩ := b1_ok hk
  exact lv_i2l P.1.1 P.1.2.1 hd rfl (nx P hk)
theorem lt_l2i (P : Pt p l R s mi args meth c H locs cells slots g m n kc kz L h ls) (hd : decode (mC m) pc = .ok (.l2i, 1)) (hk : okA p l e R s mi args below meth c Q g m pc n kc kz (match st with | .long x :: st => aN m (pc + 1) L (.int x.toInt32 :: st) h | _ => none)) : W p l e R s mi args below meth c H locs cells slots Q (F0 mi pc ls (st.map (cv g))) := by
  split at hk
  · exact lv_l2i P.1.1 P.1.2.1 hd rfl (nx P hk)
  · exact hk.elim
theorem lt_goto (P : Pt p l R s mi args meth c H locs cells slots g m n kc kz L h ls) {off : Int} (hd : decode (mC m) pc = .ok (.goto off, 3)) (hk : okA p l e R s mi args below meth c Q g m pc n kc kz (jp pc off (fun t => aN m t L st h))) : W p l e R s mi args below meth c H locs cells slots Q (F0 mi pc ls (st.map (cv g))) := by
  obtain ⟨t, ht, hk⟩ := jp_ok hk
  exact lv_goto P.1.1 P.1.2.1 hd ht (nx P hk)
theorem lt_ifCond (P : Pt p l R s mi args meth c H locs cells slots g m n kc kz L h ls) {c0 : ClassFile.Cond} {off : Int} (hd : decode (mC m) pc = .ok (.ifCond c0 off, 3)) (hk : okA p l e R s mi args below meth c Q g m pc n kc kz (b1 st (fun x st => jp pc off (fun t => if cmpI c0 x 0 then aN m t L st h else aN m (pc + 3) L st h)))) : W p l e R s mi args below meth c H locs cells slots Q (F0 mi pc ls (st.map (cv g))) := by
  obtain ⟨x, st', rfl, hq⟩ := b1_ok hk
  clear hk
  obtain ⟨t, ht, hq⟩ := jp_ok hq
  cases c0
  · refine lv_if_eq P.1.1 P.1.2.1 hd ht (fun q => ?_) (fun q => ?_)
    · rw [if_pos (by simpa [cmpI] using q)] at hq; exact nx P hq
    · rw [if_neg (by simpa [cmpI] using q)] at hq; exact nx P hq
  · refine lv_if_ne P.1.1 P.1.2.1 hd ht (fun q => ?_) (fun q => ?_)
    · rw [if_pos (by simpa [cmpI] using q)] at hq; exact nx P hq
    · rw [if_neg (by simpa [cmpI] using q)] at hq; exact nx P hq
  · refine lv_if_lt P.1.1 P.1.2.1 hd ht (fun q => ?_) (fun q => ?_)
    · rw [if_pos (by simpa [cmpI] using q)] at hq; exact nx P hq
    · rw [if_neg (by simpa [cmpI] using q)] at hq; exact nx P hq
  · refine lv_if_ge P.1.1 P.1.2.1 hd ht (fun q => ?_) (fun q => ?_)
    · rw [if_pos (by simpa [cmpI] using q)] at hq; exact nx P hq
    · rw [if_neg (by simpa [cmpI] using q)] at hq; exact nx P hq
  · refine lv_if_gt P.1.1 P.1.2.1 hd ht (fun q => ?_) (fun q => ?_)
    · rw [if_pos (by simpa [cmpI] using q)] at hq; exact nx P hq
    · rw [if_neg (by simpa [cmpI] using q)] at hq; exact nx P hq
  · refine lv_if_le P.1.1 P.1.2.1 hd ht (fun q => ?_) (fun q => ?_)
    · rw [if_pos (by simpa [cmpI] using q)] at hq; exact nx P hq
    · rw [if_neg (by simpa [cmpI] using q)] at hq; exact nx P hq
theorem lt_if_icmp (P : Pt p l R s mi args meth c H locs cells slots g m n kc kz L h ls) {c0 : ClassFile.Cond} {off : Int} (hd : decode (mC m) pc = .ok (.if_icmp c0 off, 3)) (hk : okA p l e R s mi args below meth c Q g m pc n kc kz (b2 st (fun x y st => jp pc off (fun t => if cmpI c0 x y then aN m t L st h else aN m (pc + 3) L st h)))) : W p l e R s mi args below meth c H locs cells slots Q (F0 mi pc ls (st.map (cv g))) := by
  obtain ⟨x, y, st', rfl, hq⟩ := b2_ok hk
  clear hk
  obtain ⟨t, ht, hq⟩ := jp_ok hq
  cases c0
  · refine lv_icmp_eq P.1.1 P.1.2.1 hd ht (fun q => ?_) (fun q => ?_)
    · rw [if_pos (by simpa [cmpI] using q)] at hq; exact nx P hq
    · rw [if_neg (by simpa [cmpI] using q)] at hq; exact nx P hq
  · refine lv_icmp_ne P.1.1 P.1.2.1 hd ht (fun q => ?_) (fun q => ?_)
    · rw [if_pos (by simpa [cmpI] using q)] at hq; exact nx P hq
    · rw [if_neg (by simpa [cmpI] using q)] at hq; exact nx P hq
  · refine lv_icmp_lt P.1.1 P.1.2.1 hd ht (fun q => ?_) (fun q => ?_)
    · rw [if_pos (by simpa [cmpI] using q)] at hq; exact nx P hq
    · rw [if_neg (by simpa [cmpI] using q)] at hq; exact nx P hq
  · refine lv_icmp_ge P.1.1 P.1.2.1 hd ht (fun q => ?_) (fun q => ?_)
    · rw [if_pos (by simpa [cmpI] using q)] at hq; exact nx P hq
    · rw [if_neg (by simpa [cmpI] using q)] at hq; exact nx P hq
  · refine lv_icmp_gt P.1.1 P.1.2.1 hd ht (fun q => ?_) (fun q => ?_)
    · rw [if_pos (by simpa [cmpI] using q)] at hq; exact nx P hq
    · rw [if_neg (by simpa [cmpI] using q)] at hq; exact nx P hq
  · refine lv_icmp_le P.1.1 P.1.2.1 hd ht (fun q => ?_) (fun q => ?_)
    · rw [if_pos (by simpa [cmpI] using q)] at hq; exact nx P hq
    · rw [if_neg (by simpa [cmpI] using q)] at hq; exact nx P hq
theorem lt_table (P : Pt p l R s mi args meth c H locs cells slots g m n kc kz L h ls) {d lo hi : Int} {offs : Array Int} (hd : decode (mC m) pc = .ok (.tableswitch d lo hi offs, len)) (hk : okA p l e R s mi args below meth c Q g m pc n kc kz (b1 st (fun x st => if x.toInt < lo ∨ hi < x.toInt then jp pc d (fun t => aN m t L st h) else match offs[(x.toInt - lo).toNat]? with | some off => jp pc off (fun t => aN m t L st h) | none => none))) : W p l e R s mi args below meth c H locs cells slots Q (F0 mi pc ls (st.map (cv g))) := by
  obtain ⟨x, st', rfl, hq⟩ := b1_ok hk
  clear hk
  by_cases h1 : x.toInt < lo ∨ hi < x.toInt
  · rw [if_pos h1] at hq
    obtain ⟨t, ht, hq⟩ := jp_ok hq
    exact lv_tableOut P.1.1 P.1.2.1 hd h1 ht (nx P hq)
  · rw [if_neg h1] at hq
    split at hq
    · rename_i off ho
      obtain ⟨t, ht, hq⟩ := jp_ok hq
      exact lv_tableIn P.1.1 P.1.2.1 hd (fun q => h1 (Or.inl q)) (fun q => h1 (Or.inr q)) ho ht (nx P hq)
    · exact hq.elim
theorem lt_lookup (P : Pt p l R s mi args meth c H locs cells slots g m n kc kz L h ls) {d : Int} {ps : Array (Int × Int)} (hd : decode (mC m) pc = .ok (.lookupswitch d ps, len)) (hk : okA p l e R s mi args below meth c Q g m pc n kc kz (b1 st (fun x st => gd ((ps.toList.zip (ps.toList.drop 1)).all (fun (a, next) => a.1 < next.1) = true) (jp pc (Op.lookupswitch.offset ps.toList d x.toInt) (fun t => aN m t L st h))))) : W p l e R s mi args below meth c H locs cells slots Q (F0 mi pc ls (st.map (cv g))) := by
  obtain ⟨x, st', rfl, hq⟩ := b1_ok hk
  clear hk
  obtain ⟨h1, hq⟩ := gd_ok hq
  obtain ⟨t, ht, hq⟩ := jp_ok hq
  exact lv_lookup P.1.1 P.1.2.1 hd h1 rfl ht (nx P hq)
end STEP
