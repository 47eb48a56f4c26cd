/-! THE JDK's String: length and charAt of the one text constant, as contracts -/
section JDK
/-- the text constant, its bytes at v; the statics that its methods read -/
def KJ (g : aG) (v : Nat) (U : State) (H : Heap) : Prop := va_O "java/lang/String" (gA g) (fun q => gS g ≤ q) U H ∧ va_OF "java/lang/String" "coder" "B" (.int 0) (gA g) (fun q => gS g ≤ q) U H ∧ va_OF "java/lang/String" "value" "[B" (.ref v) (gA g) (fun q => gS g ≤ q) U H ∧ va_T .byte v 60 (fun j => .int (txtB.getD j 0)) (fun q => gS g ≤ q) U H ∧ va_Z "java/lang/String" "COMPACT_STRINGS" "Z" (.int 1) (fun q => gS g ≤ q) U H ∧ va_Zq "jdk/internal/util/Preconditions" "SIOOBE_FORMATTER" "Ljava/util/function/BiFunction;" (fun q => gS g ≤ q) U H
theorem KS.kj {g : aG} {U : State} (k : KS g U) : ∃ v, KJ g v U (gH g) := by
  obtain ⟨-, -, -, -, ⟨adV, h5⟩, h6, h7⟩ := k
  have q := h5.1 0 (by decide)
  exact ⟨adV 0, q.1, q.2.1, q.2.2.1, q.2.2.2, h6, h7⟩
theorem KJ.moved {g : aG} {v : Nat} {s U : State} {H : Heap} (hal : s.vm.Alike U.vm) (k : KJ g v s H) : KJ g v U H := ⟨va_O.moved hal k.1, va_OF.moved hal k.2.1, va_OF.moved hal k.2.2.1, va_T.moved hal k.2.2.2.1, va_Z.moved hal k.2.2.2.2.1, va_Zq.moved hal k.2.2.2.2.2⟩
theorem va_Zq_kept {C n d : String} {A : Nat → Prop} {U : State} {H H1 : Heap} (h : va_Zq C n d A U H) (hq : ∀ a : Nat, a < H.size → ¬ A a → H1[a]? = H[a]?) : va_Zq C n d A U H1 := by
  rcases h with h | ⟨t, h⟩
  · exact Or.inl (h.kept hq)
  · exact Or.inr ⟨t, h.kept hq⟩
theorem KJ.at {g : aG} {v : Nat} {U : State} {h : aH} {H : Heap} (k : KJ g v U (gH g)) (hr : HR g h H) : KJ g v U H := by
  have hq : ∀ a : Nat, a < (gH g).size → ¬ gS g ≤ a → H[a]? = (gH g)[a]? := fun a _ hA => hr.2.2.2.1 a (by omega)
  exact ⟨k.1.kept hq, k.2.1.kept hq, k.2.2.1.kept hq, k.2.2.2.1.kept hq, k.2.2.2.2.1.kept hq, va_Zq_kept k.2.2.2.2.2 hq⟩
theorem HR.keeps {g : aG} {h : aH} {H H' : Heap} {locs : List Loc} (a : HR g h H) (b : HR g h H') (lo : LO g locs) : va_S (fun q => gS g ≤ q) H H' locs := by
  refine ⟨?_, fun q _ hA => ?_, lo⟩
  · have := a.1
    have := b.1
    omega
  · rw [b.2.2.2.1 q (by omega), a.2.2.2.1 q (by omega)]
def wsJ (y : MethodName) (cc : ByteArray) (n : Nat) (ret : Option FieldType) : List Cond := Cond.code y cc n ret :: tbG
theorem wsJ_good {y : MethodName} {cc : ByteArray} {n : Nat} {ret : Option FieldType} (hc : Cond.code y cc n ret ∈ tbG) : GoodIn tbG (wsJ y cc n ret) := by
  intro w hw
  have hm : w ∈ tbG := by
    rcases List.mem_cons.mp hw with q | q
    · rw [q]; exact hc
    · exact q
  exact ⟨hm, good_of_word (tbG_good hm)⟩
def rmJ (f lo : Nat) : Room := { frames := f, cells := 0, slots := 0, locals := lo }
def PcJ (g : aG) (v : Nat) (as : List Value) (h : aH) : Array Value → State → Prop := va_Pc as (fun U => HR g h U.heap ∧ KJ g v U (gH g))
def QcJ (g : aG) (r : Option Value) (h : aH) : Array Value → State → Outcome → State → Prop := fun _ _ oc t => oc = .returned r ∧ HR g h t.heap
abbrev MJ (l : Launch) (g : aG) (v : Nat) (h : aH) (y : MethodName) (cc : ByteArray) (n : Nat) (ret : Option FieldType) (f lo : Nat) (as : List Value) (r : Option Value) : Prop := Met l y (wsJ y cc n ret) (rmJ f lo) (PcJ g v as h) (QcJ g r h) 0 0 (fun q => gS g ≤ q)
theorem blindJ {g : aG} {v : Nat} (as : List Value) (h : aH) : FrameBlind (PcJ g v as h) := by
  intro a U f mk hp
  exact ⟨hp.1, hp.2.1, hp.2.2.moved (Vm.Alike.refl _)⟩
theorem preJ {g : aG} {v : Nat} {s : State} {h : aH} {H : Heap} (hr : HR g h H) (k : KJ g v s (gH g)) {as : List Value} : ∀ U : State, U.heap = H → s.WarmedH U.vm → PcJ g v as h as.toArray U := fun U hU hW => ⟨rfl, by show HR g h U.heap; rw [hU]; exact hr, k.moved hW.alike⟩
section
variable {p : Program} {l : Launch} {e : Env} {R : Room} {s : State} {mi : MethodId} {args : Array Value} {below : List Frame} {meth : Method} {c : Code} {H : Heap} {locs : List Loc} {cells slots : Nat} {Q : State → Prop} {g : aG} {m pc n kc kz len v : Nat} {L st : List Value} {h : aH} {ls : Array Slot}
theorem J_on {st0 rest : List Value} {r : Option Value} {a : Array Value} (hlo : LO g locs) (hrun : va_Run p l e R s mi args below meth c H locs cells slots 0 0 (F0 mi pc ls st0) rest (QcJ g r h a) (fun q => gS g ≤ q)) (k : ∀ (H' : Heap) (locs' : List Loc), HR g h H' → LO g locs' → W p l e R s mi args below meth c H' locs' cells slots Q (F0 mi (pc + 3) ls (r.toList ++ rest))) : W p l e R s mi args below meth c H locs cells slots Q (F0 mi pc ls st0) := by
  intro T hT X
  obtain ⟨v, st₀, t, T', L1, h0, X', hL, e1, e2, ⟨hv, hr⟩, stp⟩ := hrun T hT X
  cases hv
  obtain ⟨t2, a1, b1⟩ := k T'.heap (locs ++ L1) (by rw [e1]; exact hr) (fun q hq => (List.mem_append.mp hq).elim (hlo q) (hL q)) T' rfl X'
  exact ⟨t2, stp t2 a1, b1⟩
end
variable {l : Launch} {g : aG} {v : Nat} {h : aH}
theorem J_start {y : MethodName} {cc : ByteArray} {n : Nat} {ret : Option FieldType} {f lo : Nat} {as : List Value} {r : Option Value} {own : String} (hy : plainName y.cls = true) (ho : y.cls = own) (hlen : (lg_sl as).length = n)
    (walk : ∀ (p : Program) (e : Env) (s : State) (m : MethodId) (below : List Frame) (meth : Method) (c : Code) (ls : Array Slot), p.tables.exec = Jvm.exec → c.code = cc → c.maxLocals = n → meth.sig.returnType = ret → meth.locks = false → s.vm.findClass own = some m.cls → (∀ w ∈ tbG, w.before as.toArray s = true) → HR g h s.heap → KJ g v s (gH g) → lv_has ls n (lv_args 0 as) →
      W p l e (rmJ f lo) s m as.toArray below meth c s.heap [] 0 0 (MQ below (QcJ g r h) as.toArray s 0 0 (fun q => gS g ≤ q)) (F0 m 0 ls [])) : MJ l g v h y cc n ret f lo as r := by
  refine Met.ofW (cc := cc) (maxL := n) (ret := ret) hy rfl ?_
  intro p e s m args below meth c s₁ B hml hv
  obtain ⟨rfl, hHR, hKJ⟩ := hv
  have hts := atoms_spec (ws := wsJ y cc n ret) B.pre
  have hown : s.vm.findClass own = some m.cls := by
    rw [← ho]
    exact findClass_of_methodNamed B.named
  rw [lg_entry_eq]
  exact walk p e s m below meth c _ B.exec B.bytes hml B.returns B.notSynchronized hown (fun w hw => hts w (List.mem_cons_of_mem _ hw)) hHR hKJ (lv_entry as (Nat.le_of_eq hlen))
theorem LO_nil : LO g [] := fun _ hq => by cases hq
theorem jw_fl38 : Cond.fieldLink "java/lang/String" 38 "java/lang/String" "COMPACT_STRINGS" "Z" ∈ tbG := by decide +kernel
theorem jw_fl15 : Cond.fieldLink "java/lang/String" 15 "java/lang/String" "coder" "B" ∈ tbG := by decide +kernel
theorem jw_fl9 : Cond.fieldLink "java/lang/String" 9 "java/lang/String" "value" "[B" ∈ tbG := by decide +kernel
theorem jw_fl1053 : Cond.fieldLink "java/lang/String" 1053 "jdk/internal/util/Preconditions" "SIOOBE_FORMATTER" "Ljava/util/function/BiFunction;" ∈ tbG := by decide +kernel
theorem jw_iS : Cond.initialized "java/lang/String" ∈ tbG := by decide +kernel
theorem jw_iL : Cond.initialized "java/lang/StringLatin1" ∈ tbG := by decide +kernel
theorem jw_iP : Cond.initialized "jdk/internal/util/Preconditions" ∈ tbG := by decide +kernel
theorem jw_c1 : Cond.code yJ0_coder_7d493 cJ0_coder_7d493 1 (some .byte) ∈ tbG := by decide +kernel
theorem jw_c2 : Cond.code yJ0_isLatin1_aae02 cJ0_isLatin1_aae02 1 (some .boolean) ∈ tbG := by decide +kernel
theorem jw_c3 : Cond.code yJ0_length_8abf5 cJ0_length_8abf5 1 (some .int) ∈ tbG := by decide +kernel
theorem jw_c4 : Cond.code yJ0_charAt_5068e cJ0_charAt_5068e 2 (some .char) ∈ tbG := by decide +kernel
theorem jw_c5 : Cond.code yJ1_charAt_3b067 cJ1_charAt_3b067 2 (some .char) ∈ tbG := by decide +kernel
theorem jw_c6 : Cond.code yJ0_checkIndex_df160 cJ0_checkIndex_df160 2 none ∈ tbG := by decide +kernel
theorem jw_c7 : Cond.code yJ3_checkIndex_8e157 cJ3_checkIndex_8e157 3 (some .int) ∈ tbG := by decide +kernel
theorem jw_l335 : Cond.methodLink "java/lang/String" 335 yJ0_coder_7d493 ∈ tbG := by decide +kernel
theorem jw_l492 : Cond.methodLink "java/lang/String" 492 yJ0_isLatin1_aae02 ∈ tbG := by decide +kernel
theorem jw_l495 : Cond.methodLink "java/lang/String" 495 yJ1_charAt_3b067 ∈ tbG := by decide +kernel
theorem jw_l9 : Cond.methodLink "java/lang/StringLatin1" 9 yJ0_checkIndex_df160 ∈ tbG := by decide +kernel
theorem jw_l1059 : Cond.methodLink "java/lang/String" 1059 yJ3_checkIndex_8e157 ∈ tbG := by decide +kernel
theorem jw_m1 : Cond.instanceMethod yJ0_coder_7d493 ∈ tbG := by decide +kernel
theorem jw_m2 : Cond.instanceMethod yJ0_isLatin1_aae02 ∈ tbG := by decide +kernel
theorem jw_m3 : Cond.instanceMethod yJ0_length_8abf5 ∈ tbG := by decide +kernel
theorem jw_m4 : Cond.instanceMethod yJ0_charAt_5068e ∈ tbG := by decide +kernel
theorem jw_s1 : Cond.selects "java/lang/String" yJ0_coder_7d493 yJ0_coder_7d493 ∈ tbG := by decide +kernel
theorem jw_s2 : Cond.selects "java/lang/String" yJ0_isLatin1_aae02 yJ0_isLatin1_aae02 ∈ tbG := by decide +kernel
theorem jw_s3 : Cond.selects "java/lang/String" yJ0_length_8abf5 yJ0_length_8abf5 ∈ tbG := by decide +kernel
theorem jw_s4 : Cond.selects "java/lang/String" yJ0_charAt_5068e yJ0_charAt_5068e ∈ tbG := by decide +kernel
theorem jw_t5 : Cond.static yJ1_charAt_3b067 ∈ tbG := by decide +kernel
theorem jw_t6 : Cond.static yJ0_checkIndex_df160 ∈ tbG := by decide +kernel
theorem jw_t7 : Cond.static yJ3_checkIndex_8e157 ∈ tbG := by decide +kernel
theorem dJ3_0 : decode cJ3_checkIndex_8e157 0 = .ok (.iload_n 0, 1) := by decide +kernel
theorem dJ3_1 : decode cJ3_checkIndex_8e157 1 = .ok (.ifCond .lt 8, 3) := by decide +kernel
theorem dJ3_4 : decode cJ3_checkIndex_8e157 4 = .ok (.iload_n 0, 1) := by decide +kernel
theorem dJ3_5 : decode cJ3_checkIndex_8e157 5 = .ok (.iload_n 1, 1) := by decide +kernel
theorem dJ3_6 : decode cJ3_checkIndex_8e157 6 = .ok (.if_icmp .lt 10, 3) := by decide +kernel
theorem dJ3_16 : decode cJ3_checkIndex_8e157 16 = .ok (.iload_n 0, 1) := by decide +kernel
theorem dJ3_17 : decode cJ3_checkIndex_8e157 17 = .ok (.ireturn, 1) := by decide +kernel
theorem j_coder : MJ l g v h yJ0_coder_7d493 cJ0_coder_7d493 1 (some .byte) 0 0 [.ref (gA g)] (some (.int 0)) := by
  refine J_start (own := "java/lang/String") (by decide +kernel) rfl rfl ?_
  intro p e s m below meth c ls hx hb hml hr hlk hown hts hH K0 hl
  have K := K0.at hH
  have hS := hH.keeps hH LO_nil
  refine va_gets hx hb K.2.2.2.2.1 hS hown (hts _ jw_fl38) (fun _ z => z) dJ0_coder_7d493_0 ?_
  refine lv_if_eq hx hb (tgt := 13) dJ0_coder_7d493_3 rfl (fun z => absurd z (by decide)) (fun _ => ?_)
  refine lv_aload_n hx hb dJ0_coder_7d493_6 rfl (lv_at hl 0 rfl) ?_
  refine vk_getf hx hb K.2.1 hS hown (hts _ jw_fl15) (fun _ z => z) dJ0_coder_7d493_7 ?_
  refine lv_goto hx hb (tgt := 14) dJ0_coder_7d493_10 rfl ?_
  exact W.zret (ty := .byte) hx hb hr (by decide) (fun t ht hW => ⟨rfl, by rw [ht]; exact hH⟩) LO_nil dJ0_coder_7d493_14
theorem j_isLatin1 : MJ l g v h yJ0_isLatin1_aae02 cJ0_isLatin1_aae02 1 (some .boolean) 0 0 [.ref (gA g)] (some (.int 1)) := by
  refine J_start (own := "java/lang/String") (by decide +kernel) rfl rfl ?_
  intro p e s m below meth c ls hx hb hml hr hlk hown hts hH K0 hl
  have K := K0.at hH
  have hS := hH.keeps hH LO_nil
  refine va_gets hx hb K.2.2.2.2.1 hS hown (hts _ jw_fl38) (fun _ z => z) dJ0_isLatin1_aae02_0 ?_
  refine lv_if_eq hx hb (tgt := 17) dJ0_isLatin1_aae02_3 rfl (fun z => absurd z (by decide)) (fun _ => ?_)
  refine lv_aload_n hx hb dJ0_isLatin1_aae02_6 rfl (lv_at hl 0 rfl) ?_
  refine vk_getf hx hb K.2.1 hS hown (hts _ jw_fl15) (fun _ z => z) dJ0_isLatin1_aae02_7 ?_
  refine lv_if_ne hx hb (tgt := 17) dJ0_isLatin1_aae02_10 rfl (fun z => absurd rfl z) (fun _ => ?_)
  refine lv_iconst hx hb dJ0_isLatin1_aae02_13 rfl ?_
  refine lv_goto hx hb (tgt := 18) dJ0_isLatin1_aae02_14 rfl ?_
  exact W.zret (ty := .boolean) hx hb hr (by decide) (fun t ht hW => ⟨rfl, by rw [ht]; exact hH⟩) LO_nil dJ0_isLatin1_aae02_18
theorem j_length : MJ l g v h yJ0_length_8abf5 cJ0_length_8abf5 1 (some .int) 1 20 [.ref (gA g)] (some (.int 60)) := by
  refine J_start (own := "java/lang/String") (by decide +kernel) rfl rfl ?_
  intro p e s m below meth c ls hx hb hml hr hlk hown hts hH K0 hl
  have K := K0.at hH
  have hS := hH.keeps hH LO_nil
  refine lv_aload_n hx hb dJ0_length_8abf5_0 rfl (lv_at hl 0 rfl) ?_
  refine vk_getf hx hb K.2.2.1 hS hown (hts _ jw_fl9) (fun _ z => z) dJ0_length_8abf5_1 ?_
  refine va_tlen hx hb K.2.2.2.1 hS (v := 60) rfl dJ0_length_8abf5_4 ?_
  refine lv_aload_n hx hb dJ0_length_8abf5_5 rfl (lv_at hl 0 rfl) ?_
  obtain ⟨cell, q1, q2, q3, -⟩ := K.1
  refine J_on LO_nil (va_runV (As := []) (rest := [.int 60]) (C := "java/lang/String") (b := gA g) (n := 0) (Ts := tbG) ⟨hx, hb, hml, hown, hts⟩ (j_coder (l := l) (v := v) (h := h)) ⟨callB_of 0 hts (wsJ_good jw_c1) rfl rfl rfl (hts _ jw_iS) (hts _ jw_l335) ⟨by decide, by decide, by decide +kernel⟩ ⟨by decide, by decide⟩, hts _ jw_m1, hts _ jw_s1⟩ ⟨blindJ _ _, ⟨cell, q1, q2, q3⟩, preJ hH K0⟩ rfl rfl hl.1 rfl (lv_room (by decide)) dJ0_length_8abf5_6 ⟨Nat.le_refl 0, Nat.le_refl 0⟩) ?_
  intro H' locs' hH' hlo'
  refine lv_ishr hx hb dJ0_length_8abf5_9 ?_
  exact W.iret hx hb hr (fun t ht hW => ⟨rfl, by rw [ht]; exact hH'⟩) hlo' dJ0_length_8abf5_10
theorem j_pre {i : Int32} {w : Value} (h0 : 0 ≤ i) (h1 : i < 60) (hw : w.category = 1) : MJ l g v h yJ3_checkIndex_8e157 cJ3_checkIndex_8e157 3 (some .int) 0 0 [.int i, .int 60, w] (some (.int i)) := by
  refine J_start (own := "jdk/internal/util/Preconditions") (by decide +kernel) rfl (by cases w <;> first | rfl | (simp [Value.category] at hw)) ?_
  intro p e s m below meth c ls hx hb hml hr hlk hown hts hH K0 hl
  refine lv_iload_n hx hb dJ3_0 rfl (lv_at hl 0 rfl) ?_
  refine lv_if_lt hx hb (tgt := 9) dJ3_1 rfl (fun z => absurd z (Int32.not_lt.mpr h0)) (fun _ => ?_)
  refine lv_iload_n hx hb dJ3_4 rfl (lv_at hl 0 rfl) ?_
  refine lv_iload_n hx hb dJ3_5 rfl (lv_at hl 1 rfl) ?_
  refine lv_icmp_lt hx hb (tgt := 16) dJ3_6 rfl (fun _ => ?_) (fun z => absurd h1 z)
  refine lv_iload_n hx hb dJ3_16 rfl (lv_at hl 0 rfl) ?_
  exact W.iret hx hb hr (fun t ht hW => ⟨rfl, by rw [ht]; exact hH⟩) LO_nil dJ3_17
theorem j_check {i : Int32} (h0 : 0 ≤ i) (h1 : i < 60) : MJ l g v h yJ0_checkIndex_df160 cJ0_checkIndex_df160 2 none 1 22 [.int i, .int 60] none := by
  refine J_start (own := "java/lang/String") (by decide +kernel) rfl rfl ?_
  intro p e s m below meth c ls hx hb hml hr hlk hown hts hH K0 hl
  have K := K0.at hH
  have hS := hH.keeps hH LO_nil
  refine lv_iload_n hx hb dJ0_checkIndex_df160_0 rfl (lv_at hl 0 rfl) ?_
  refine lv_iload_n hx hb dJ0_checkIndex_df160_1 rfl (lv_at hl 1 rfl) ?_
  have rest : ∀ w : Value, w.category = 1 → va_Z "jdk/internal/util/Preconditions" "SIOOBE_FORMATTER" "Ljava/util/function/BiFunction;" w (fun q => gS g ≤ q) s s.heap → W p l e (rmJ 1 22) s m [Value.int i, Value.int 60].toArray below meth c s.heap [] 0 0 (MQ below (QcJ g none h) [Value.int i, Value.int 60].toArray s 0 0 (fun q => gS g ≤ q)) (F0 m 2 ls [.int 60, .int i]) := by
    intro w hw hz
    refine va_gets hx hb hz hS hown (hts _ jw_fl1053) (fun _ z => z) dJ0_checkIndex_df160_2 ?_
    refine J_on LO_nil (va_runS (As := [.int i, .int 60, w]) (rest := []) (n := 3) (Ts := tbG) ⟨hx, hb, hml, hown, hts⟩ (j_pre (l := l) (v := v) (h := h) h0 h1 hw) ⟨callB_of 3 hts (wsJ_good jw_c7) rfl rfl rfl (hts _ jw_iP) (hts _ jw_l1059) ⟨by decide, by decide, by decide +kernel⟩ ⟨by decide, by decide⟩, hts _ jw_t7⟩ ⟨blindJ _ _, preJ hH K0⟩ rfl rfl hl.1 rfl (lv_room (by decide)) dJ0_checkIndex_df160_5 ⟨Nat.le_refl 0, Nat.le_refl 0⟩) ?_
    intro H' locs' hH' hlo'
    refine lv_pop hx hb (va := .int i) dJ0_checkIndex_df160_8 rfl ?_
    exact W.vret hx hb hr (fun t ht hW => ⟨rfl, by rw [ht]; exact hH'⟩) hlo' dJ0_checkIndex_df160_9
  rcases K.2.2.2.2.2 with q | ⟨t, q⟩
  · exact rest .null rfl q
  · exact rest (.ref t) rfl q
theorem txt_c : ∀ k, k < 60 → narrow .char (.int (txtB.getD k 0)) = .int (txtB.getD k 0) := by decide +kernel
theorem txt_b : ∀ k, k < 60 → ((txtB.getD k 0 &&& 255).toUInt32 % 65536).toInt32 = txtB.getD k 0 := by decide +kernel
theorem ix60 {i : Int32} (h0 : 0 ≤ i) (h1 : i < 60) : i.toNatClampNeg < 60 := by
  have a := Int32.le_iff_toInt_le.mp h0
  have b := Int32.lt_iff_toInt_lt.mp h1
  have e0 : (0 : Int32).toInt = 0 := by decide
  have e6 : (60 : Int32).toInt = 60 := by decide
  rw [e0] at a
  rw [e6] at b
  show i.toInt.toNat < 60
  omega
theorem j_lat {i : Int32} (h0 : 0 ≤ i) (h1 : i < 60) : MJ l g v h yJ1_charAt_3b067 cJ1_charAt_3b067 2 (some .char) 2 43 [.ref v, .int i] (some (.int (txtB.getD i.toNatClampNeg 0))) := by
  refine J_start (own := "java/lang/StringLatin1") (by decide +kernel) rfl rfl ?_
  intro p e s m below meth c ls hx hb hml hr hlk hown hts hH K0 hl
  have K := K0.at hH
  have hS := hH.keeps hH LO_nil
  have hi := ix60 h0 h1
  refine lv_iload_n hx hb dJ1_charAt_3b067_0 rfl (lv_at hl 1 rfl) ?_
  refine lv_aload_n hx hb dJ1_charAt_3b067_1 rfl (lv_at hl 0 rfl) ?_
  refine va_tlen hx hb K.2.2.2.1 hS (v := 60) rfl dJ1_charAt_3b067_2 ?_
  refine J_on LO_nil (va_runS (As := [.int i, .int 60]) (rest := []) (n := 2) (Ts := tbG) ⟨hx, hb, hml, hown, hts⟩ (j_check (l := l) (v := v) (h := h) h0 h1) ⟨callB_of 2 hts (wsJ_good jw_c6) rfl rfl rfl (hts _ jw_iS) (hts _ jw_l9) ⟨by decide, by decide, by decide +kernel⟩ ⟨by decide, by decide⟩, hts _ jw_t6⟩ ⟨blindJ _ _, preJ hH K0⟩ rfl rfl hl.1 rfl (lv_room (by decide)) dJ1_charAt_3b067_3 ⟨Nat.le_refl 0, Nat.le_refl 0⟩) ?_
  intro H' locs' hH' hlo'
  have hS' := hH.keeps hH' hlo'
  refine lv_aload_n hx hb dJ1_charAt_3b067_6 rfl (lv_at hl 0 rfl) ?_
  refine lv_iload_n hx hb dJ1_charAt_3b067_7 rfl (lv_at hl 1 rfl) ?_
  refine va_tb hx hb K.2.2.2.1 hS' (i := i) (fun q => q.elim (fun z => absurd z (Int32.not_lt.mpr h0)) (fun z => by omega)) rfl dJ1_charAt_3b067_8 ?_
  refine lv_sipush hx hb dJ1_charAt_3b067_9 (v := 255) rfl ?_
  refine lv_iand hx hb dJ1_charAt_3b067_12 ?_
  refine lv_i2c hx hb dJ1_charAt_3b067_13 (txt_b _ hi) ?_
  exact W.zret (ty := .char) hx hb hr (txt_c _ hi) (fun t ht hW => ⟨rfl, by rw [ht]; exact hH'⟩) hlo' dJ1_charAt_3b067_14
theorem j_charAt {i : Int32} (h0 : 0 ≤ i) (h1 : i < 60) : MJ l g v h yJ0_charAt_5068e cJ0_charAt_5068e 2 (some .char) 3 64 [.ref (gA g), .int i] (some (.int (txtB.getD i.toNatClampNeg 0))) := by
  refine J_start (own := "java/lang/String") (by decide +kernel) rfl rfl ?_
  intro p e s m below meth c ls hx hb hml hr hlk hown hts hH K0 hl
  have K := K0.at hH
  have hi := ix60 h0 h1
  refine lv_aload_n hx hb dJ0_charAt_5068e_0 rfl (lv_at hl 0 rfl) ?_
  obtain ⟨cell, q1, q2, q3, -⟩ := K.1
  refine J_on LO_nil (va_runV (As := []) (rest := []) (C := "java/lang/String") (b := gA g) (n := 0) (Ts := tbG) ⟨hx, hb, hml, hown, hts⟩ (j_isLatin1 (l := l) (v := v) (h := h)) ⟨callB_of 0 hts (wsJ_good jw_c2) rfl rfl rfl (hts _ jw_iS) (hts _ jw_l492) ⟨by decide, by decide, by decide +kernel⟩ ⟨by decide, by decide⟩, hts _ jw_m2, hts _ jw_s2⟩ ⟨blindJ _ _, ⟨cell, q1, q2, q3⟩, preJ hH K0⟩ rfl rfl hl.1 rfl (lv_room (by decide)) dJ0_charAt_5068e_1 ⟨Nat.le_refl 0, Nat.le_refl 0⟩) ?_
  intro H' locs' hH' hlo'
  have hS' := hH.keeps hH' hlo'
  refine lv_if_eq hx hb (tgt := 16) (x := 1) dJ0_charAt_5068e_4 rfl (fun z => absurd z (by decide)) (fun _ => ?_)
  refine lv_aload_n hx hb dJ0_charAt_5068e_7 rfl (lv_at hl 0 rfl) ?_
  refine vk_getf hx hb K.2.2.1 hS' hown (hts _ jw_fl9) (fun _ z => z) dJ0_charAt_5068e_8 ?_
  refine lv_iload_n hx hb dJ0_charAt_5068e_11 rfl (lv_at hl 1 rfl) ?_
  refine J_on hlo' (va_runS (As := [.ref v, .int i]) (rest := []) (n := 2) (Ts := tbG) ⟨hx, hb, hml, hown, hts⟩ (j_lat (l := l) (v := v) (h := h) h0 h1) ⟨callB_of 2 hts (wsJ_good jw_c5) rfl rfl rfl (hts _ jw_iL) (hts _ jw_l495) ⟨by decide, by decide, by decide +kernel⟩ ⟨by decide, by decide⟩, hts _ jw_t5⟩ ⟨blindJ _ _, preJ hH' K0⟩ rfl rfl hl.1 rfl (lv_room (by decide)) dJ0_charAt_5068e_12 ⟨Nat.le_refl 0, Nat.le_refl 0⟩) ?_
  intro H'' locs'' hH'' hlo''
  exact W.zret (ty := .char) hx hb hr (txt_c _ hi) (fun t ht hW => ⟨rfl, by rw [ht]; exact hH''⟩) hlo'' dJ0_charAt_5068e_15
end JDK
