/-! THE CLAIM OUT OF ONE WALK OF THE LAW'S BODY. Your part is whole_start (and what it stands on); all else here is the same for every law, but numbers. -/
def R_law : String := "BedsBySnoreLaw"
def lw_P (b : Addr) (xs : List Int32) (args : Array Value) (s : State) : Prop := args = #[.ref b] ∧ s.IntsAt b xs ∧ xs.length ≤ 256 ∧ (Jvm.Cond.and given_1 narrow_1).before args s = true
def lw_Q (_ : Array Value) (s : State) (o : Outcome) (t : State) : Prop := o = .returned (some (.int 1)) ∧ Framed s o t [] 600000 7302250
def lw_Z (below : List Frame) (a : Array Value) (s : State) : State → Prop := fun t => ∃ o, t.status = .running ∧ Ended t below o ∧ lw_Q a s o t
/-- the law's own end, with 1 on the stack, nothing written that was there before, its room as the claim has it -/
theorem lw_ret {p : Program} {l : Launch} {e : Env} {s : State} {m : MethodId} {below : List Frame} {meth : Method} {c : Code} {b : Nat} (hx : p.tables.exec = Jvm.exec) (hb : c.code = code) (hr : meth.sig.returnType = ret) (hlocks : meth.locks = false) {pc : Nat} {H : Heap} {ls : Array Slot} (hdg : decode code pc = .ok (.ireturn, 1)) : W p l e room_1 s m #[Value.ref b] below meth c H [] 600000 7302250 (lw_Z below #[Value.ref b] s) (F0 m pc ls [.int 1]) := by
  intro T hT X
  obtain ⟨fs, hret, hrun, hended, hW, hframe⟩ := X.leave (v := some (.int 1)) (hlocks := hlocks) (fun h => by rw [hr] at h; cases h)
  have hmeth' : T.vm.method? m = some meth := X.method'
  refine ⟨T.setFrames fs, ?_, .returned (some (.int 1)), hrun, hended, rfl, ⟨_, rfl⟩, hW, hframe⟩
  jvm_step X.here [X.here.top, hx, hb, hdg, hmeth', hr, ret, narrow_b1]
  (try refine ⟨rfl, ?_⟩); (try refine ⟨rfl, ?_⟩)
  first | (intro acts; rw [hret _ acts rfl rfl rfl]) | rw [hret _ _ rfl rfl rfl]
  exact Steps.refl _
/-- what holds at the law's entry: the machine, the code, the tables' words (any of lw_tbl by 'hts w (by decide +kernel)'), the script of L ints xs at the cell b, what the Statement gives of the start (any of its parts by flat_of_before) -/
def lw_At (p : Program) (s : State) (m : MethodId) (meth : Method) (c : Code) (b L : Nat) (xs : Nat → Int32) : Prop :=
  p.tables.exec = Jvm.exec ∧ c.code = code ∧ meth.sig.returnType = ret ∧ c.maxLocals = 4 ∧ s.vm.findClass R_law = some m.cls ∧ (∀ w ∈ lw_tbl, w.before #[Value.ref b] s = true) ∧ va_X b L xs s s.heap ∧ b < s.heap.size ∧ meth.locks = false ∧ (Jvm.Cond.and given_1 narrow_1).before #[Value.ref b] s = true ∧ meth.name = "law"
/-- the heap at the start: the script, and nothing else that the run knows of -/
def h00 (L : Nat) (xs : Nat → Int32) : aH := (3, 0, (fun a => if a = 1 then (4, L) else (0, 0)), (fun _ j => xs j), (fun _ _ => 0))
def g00 (ad : Nat → ClassId × (Nat → Nat)) (cI cZ : ClassId) (H : Heap) (b a L : Nat) (xs : Nat → Int32) : aG := ((fun k => (ad k).1, fun k => (ad k).2), cI, cZ, H.size, b, a, L, xs, H)
theorem cl_inst : ∀ ci, ci < 9 → Cond.instantiable (clT ci).1 (clT ci).2.2 ∈ tbG := by decide +kernel
theorem w_aI : Cond.arrayClass .int ∈ tbG := by decide +kernel
theorem w_aZ : Cond.arrayClass .boolean ∈ tbG := by decide +kernel
theorem w_str : Cond.stringRef "BedsBySnore" 72 "n6;g0,12,3,9,0;g1,8,7,6,1;g2,10,0,14,3;g3,6,10,5,4;w3;c8;r7;" ∈ lw_tbl := by decide +kernel
theorem w_lsC : Cond.laysStatic "java/lang/String" "COMPACT_STRINGS" "Z" ∈ lw_tbl := by decide +kernel
theorem w_lsP : Cond.laysStatic "jdk/internal/util/Preconditions" "SIOOBE_FORMATTER" "Ljava/util/function/BiFunction;" ∈ lw_tbl := by decide +kernel
theorem gv_ex : Cond.exactly (.string "BedsBySnore" 72) "java/lang/String" ∈ flatC (Jvm.Cond.and given_1 narrow_1) := by decide +kernel
theorem gv_co : Cond.eq (.field (.string "BedsBySnore" 72) "java/lang/String" "coder" "B") (.int 0) ∈ flatC (Jvm.Cond.and given_1 narrow_1) := by decide +kernel
theorem gv_ar : Cond.arrayOf (.field (.string "BedsBySnore" 72) "java/lang/String" "value" "[B") .byte ∈ flatC (Jvm.Cond.and given_1 narrow_1) := by decide +kernel
theorem gv_le : Cond.eq (.length (.field (.string "BedsBySnore" 72) "java/lang/String" "value" "[B")) (.int (Int32.ofNat 60)) ∈ flatC (Jvm.Cond.and given_1 narrow_1) := by decide +kernel
theorem gv_el : ∀ j, j < 60 → Cond.eq (.elem (.field (.string "BedsBySnore" 72) "java/lang/String" "value" "[B") (.int (Int32.ofNat j))) (.int (txtB.getD j 0)) ∈ flatC (Jvm.Cond.and given_1 narrow_1) := by decide +kernel
theorem gv_cs : Cond.eq (.static "java/lang/String" "COMPACT_STRINGS" "Z") (.int 1) ∈ flatC (Jvm.Cond.and given_1 narrow_1) := by decide +kernel
theorem gv_sf : Cond.isRef (.static "jdk/internal/util/Preconditions" "SIOOBE_FORMATTER" "Ljava/util/function/BiFunction;") ∈ flatC (Jvm.Cond.and given_1 narrow_1) := by decide +kernel
/-- what the tables and the start say -/
theorem start_KS {s : State} {b L : Nat} {xs : Nat → Int32} (hts : ∀ w ∈ lw_tbl, w.before #[Value.ref b] s = true) (hX : va_X b L xs s s.heap) (hgv : (Jvm.Cond.and given_1 narrow_1).before #[Value.ref b] s = true) : ∃ (ad : Nat → ClassId × (Nat → Nat)) (cI cZ : ClassId) (a : Nat), KS (g00 ad cI cZ s.heap b a L xs) s := by
  have htg : ∀ w ∈ tbG, w.before #[Value.ref b] s = true := fun w hw => hts w (tbG_in hw)
  have hs := flat_of_before _ hgv
  have hA : ∀ a : Nat, a < s.heap.size → ¬ s.heap.size ≤ a := fun a h => by omega
  have kn : ∀ ci : Nat, ∃ q : ClassId × (Nat → Nat), ci < 9 → u_Kn s (clT ci).1 (clT ci).2.1 (clT ci).2.2 q.1 q.2 := by
    intro ci
    by_cases h : ci < 9
    · obtain ⟨cC, iS, k⟩ := u_known (n := (clT ci).2.2) htg (clT_in ci h) (htg _ (cl_inst ci h))
      exact ⟨(cC, iS), fun _ => k⟩
    · exact ⟨(0, fun _ => 0), fun q => absurd q h⟩
  obtain ⟨ad, had⟩ := Classical.axiomOfChoice kn
  obtain ⟨cI, kI, coI, fI, k1, k2⟩ := Cond.arrayClass_spec (htg _ w_aI)
  obtain ⟨cZ, kZ, coZ, fZ, k3, k4⟩ := Cond.arrayClass_spec (htg _ w_aZ)
  obtain ⟨adK, adV, hSt, hev⟩ := vk_Sof (args := #[Value.ref b]) (s := s) (N := 1) (tm := fun _ => .string "BedsBySnore" 72) (len := [60]) (byt := [txtB]) (A := fun q => s.heap.size ≤ q)
    (fun i hi => by have : i = 0 := by omega
                    subst this; decide)
    (fun i _ => hs _ gv_ex) (fun i _ => hs _ gv_co) (fun i _ => hs _ gv_ar)
    (fun i hi => by have : i = 0 := by omega
                    subst this; exact hs _ gv_le)
    (fun i hi j hj => by have : i = 0 := by omega
                         subst this; exact hs _ (gv_el j hj))
    (fun i j hi hj q => absurd (show i = j by omega) q) hA
  refine ⟨ad, cI, cZ, adK 0, ⟨fun c q hq => ?_, fun k q hq => ?_⟩, hX, fun o k y hm => va_Nw.of rfl (hts _ hm), vk_R.of (hts _ w_str) (hev 0 (by decide)), ⟨adV, fun i hi => ?_, fun i j hi hj _ => by omega⟩, va_Zof (hts _ w_lsC) (htg _ jw_iS) (va_eqt (hs _ gv_cs)) hA, va_Zqof (hts _ w_lsP) (htg _ jw_iP) (hs _ gv_sf) hA⟩
  · have hc : c < 9 := (List.getElem?_eq_some_iff.mp hq).1
    have e := clT_at c hc
    rw [hq] at e
    cases e
    exact had c hc
  · match k, hq with
    | 0, hq =>
      cases hq
      exact ⟨fun n z => ⟨fun k h => (by cases h), kI, k1, coI, k2⟩, fI⟩
    | 1, hq =>
      cases hq
      exact ⟨fun n z => ⟨fun k h => (by cases h), kZ, k3, coZ, k4⟩, fZ⟩
    | k + 2, hq => simp at hq
  · have : i = 0 := by omega
    subst this
    exact hSt.1 0 hi
theorem start_HR (ad : Nat → ClassId × (Nat → Nat)) (cI cZ : ClassId) {H : Heap} {b a L : Nat} {xs : Nat → Int32} (hb : b < H.size) : HR (g00 ad cI cZ H b a L xs) (h00 L xs) H := by
  refine ⟨rfl, Nat.le_refl 3, rfl, fun _ _ => rfl, ⟨rfl, rfl, rfl⟩, fun _ _ => rfl, hb, fun a h3 hlt => ?_, fun a ha => ?_⟩
  · have : a < 3 := hlt
    omega
  · have : 3 ≤ a := ha
    show (if a = 1 then (4, L) else (0, 0)) = _
    rw [if_neg (by omega)]
/-- from the entry, for every script of at most 256 ints, the law comes to its end with true -/
theorem whole_start {p : Program} {e : Env} {s : State} {m : MethodId} {below : List Frame} {meth : Method} {c : Code} (l : Launch) {b L : Nat} {xs : Nat → Int32} (hL : L ≤ 256) (C0 : lw_At p s m meth c b L xs) : W p l e room_1 s m #[Value.ref b] below meth c s.heap [] 0 0 (lw_Z below #[Value.ref b] s) (entryFrame m ([Value.ref b] : List Value).toArray 4) := by
  obtain ⟨hx, hb, hr, hml, hown, hts, hX, hbl, hlocks, hgv, hnm⟩ := C0
  obtain ⟨ad, cI, cZ, a, hKS⟩ := start_KS hts hX hgv
  obtain ⟨n, r, hex, h1, h2, h3⟩ := law_runs (h := h00 L xs) (N := L) rfl rfl rfl rfl rfl hL
  rw [lg_entry_eq]
  have hC : Cx (g00 ad cI cZ s.heap b a L xs) 181 p room_1 s m #[Value.ref b] meth c := ⟨hx, hb.trans mC_181.symm, hml, hlocks, hown, fun w hw => hts w (tbG_in hw), hKS, hnm, by decide +kernel, by decide +kernel⟩
  refine simW l (g00 ad cI cZ s.heap b a L xs) n (181, 0, [.ref 1, .null, .null, .null], [], h00 L xs) r hex (kc := 3) (kz := 0) hC (start_HR ad cI cZ hbl) LO_nil (LR.entry (g00 ad cI cZ s.heap b a L xs) (k := 181) (as := [.ref 1]) rfl (by decide +kernel)) rfl rfl (Nat.le_trans h2 (by decide)) h3 ?_
  intro pc H locs ls cells slots r1 r2 r3 r4 r5 r6
  obtain ⟨rv, rh⟩ := r
  cases h1
  refine va_forget (fun q hq => r2 q hq) ?_
  refine W.widen (k := 600000) (n := 7302250) (by have : hN rh ≤ 600000 := h2
                                                  have : cells + 3 = hN rh := r3
                                                  omega) (by have : hZ rh ≤ 7302250 := h3
                                                             have : slots + 0 = hZ rh := r4
                                                             omega) ?_
  have hd : decode (mC 181) pc = .ok (.ireturn, 1) := r6
  rw [mC_181] at hd
  exact lw_ret hx hb hr hlocks hd
