/-! methods that throw: what the start says of Throwable, as it stays -/

def xz (n d : String) (A : Nat → Prop) (U : State) (H : Heap) : Prop := ∃ (c : ClassId) (k : Class) (i : Nat) (f : Field) (a : Nat) (cell : Cell) (v : Value), U.vm.findClass Bundle.tN = some c ∧ U.fieldFound? Bundle.tN n d = some (c, k, i, f) ∧ f.isStatic = true ∧ k.statics = some a ∧ H[a]? = some cell ∧ cell.vm.isStatics = true ∧ cell.cls = c ∧ f.slot < cell.slots.size ∧ k.staticTypes[f.slot]? = some f.type ∧ cell.slots[f.slot]? = some v ∧ (v = .null ∨ ∃ q, v = .ref q) ∧ ¬ A a
theorem xz.use {n d : String} {A B : Nat → Prop} {s U : State} {H : Heap} {locs : List Loc} (h : xz n d A s s.heap) (hS : va_S A s.heap H locs) (hAB : ∀ q, B q → A q) (hU : U.heap = H) (hv : s.vm.Alike U.vm) : xz n d B U U.heap := by
  obtain ⟨c, k, i, f, a, cell, v, h1, h2, h3, h4, h5, h6, h7, h8, h9, h10, h11, h12⟩ := h
  obtain ⟨k', hi', he⟩ := State.fieldFound?_setVm hv h2
  refine ⟨c, k', i, f, a, cell, v, by rw [hv.findClass]; exact h1, hi', h3, by rw [he]; exact h4, ?_, h6, h7, h8, by rw [he]; exact h9, h10, h11, fun z => h12 (hAB a z)⟩
  rw [hU, hS.2.1 a (Array.getElem?_eq_some_iff.mp h5).1 h12]
  exact h5
theorem xz.lays {n d : String} {A : Nat → Prop} {s : State} (h : xz n d A s s.heap) (args : Array Value) : (Cond.laysStatic Bundle.tN n d).before args s = true := by
  obtain ⟨c, k, i, f, a, cell, v, h1, h2, h3, h4, h5, h6, h7, h8, h9, -⟩ := h
  simp [Cond.before, Cond.holds, Cond.value, h1, h2, h3, h4, h5, h6, h7, h8, h9]
theorem xz.ref {n d : String} {A : Nat → Prop} {s : State} (h : xz n d A s s.heap) (args : Array Value) : (Cond.isRef (.static Bundle.tN n d)).before args s = true := by
  obtain ⟨c, k, i, f, a, cell, v, h1, h2, h3, h4, h5, h6, h7, h8, h9, h10, h11, -⟩ := h
  have he : (Term.static Bundle.tN n d).eval args s none [] s = some v := by
    simp [Term.eval, State.fieldNamed?, h2, h3, h4, h5, h6, h10]
  simp only [Cond.before, Cond.holds, Cond.value, he]
  rcases h11 with rfl | ⟨q, rfl⟩ <;> rfl
theorem xz.of {n d : String} {A : Nat → Prop} {args : Array Value} {s : State} (hl : (Cond.laysStatic Bundle.tN n d).before args s = true) (h : (Cond.isRef (.static Bundle.tN n d)).before args s = true) (hA : ∀ a : Nat, a < s.heap.size → ¬ A a) : xz n d A s s.heap := by
  obtain ⟨c, k, i, f, a, cell, h1, h2, h3, h4, h5, h6, h7, h8, h9⟩ := Cond.laysStatic_spec hl
  obtain ⟨v, hv⟩ : ∃ v, cell.slots[f.slot]? = some v := ⟨_, Array.getElem?_eq_getElem h8⟩
  have he : (Term.static Bundle.tN n d).eval args s none [] s = some v := by
    simp [Term.eval, State.fieldNamed?, h2, h3, h4, h5, h6, hv]
  refine ⟨c, k, i, f, a, cell, v, h1, h2, h3, h4, h5, h6, h7, h8, h9, hv, ?_, hA a (Array.getElem?_eq_some_iff.mp h5).1⟩
  simp only [Cond.before, Cond.holds, Cond.value, he] at h
  cases v <;> simp_all
def isE : String := "java/lang/IllegalStateException"
def iaE : String := "java/lang/IllegalArgumentException"
def ioE : String := "java/lang/IndexOutOfBoundsException"
def upE : List String := ["java/lang/RuntimeException", "java/lang/Exception"]
def dcW : List Cond := [.declares (Bundle.initS "java/lang/RuntimeException"), .declares (Bundle.initS "java/lang/Exception"), .declares (Bundle.initS Bundle.tN), .castable isE isE, .castable iaE iaE, .castable ioE ioE]
def sgW : List (Nat × String) := [(54, "the output is closed or has no room for the line"), (62, "the output is closed or has no room for its end"), (89, "the output has not so many bytes"), (105, "no dot of a line")]
/-- what the throws want of a state, beside the words of the tables -/
def tw (A : Nat → Prop) (U : State) : Prop := (∀ w ∈ dcW, w.before #[] U = true) ∧ xz "UNASSIGNED_STACK" Bundle.steD A U U.heap ∧ xz "SUPPRESSED_SENTINEL" Bundle.listD A U U.heap ∧ ∀ q ∈ sgW, ∃ sa, vk_R "DotLines" q.1 q.2 sa U
theorem tw.use {A B : Nat → Prop} {s U : State} {H : Heap} {locs : List Loc} (h : tw A s) (hS : va_S A s.heap H locs) (hAB : ∀ q, B q → A q) (hU : U.heap = H) (hW : s.WarmedH U.vm) : tw B U := by
  obtain ⟨h1, h2, h3, h4⟩ := h
  refine ⟨fun w hw => ?_, h2.use hS hAB hU hW.alike, h3.use hS hAB hU hW.alike, fun q hq => ?_⟩
  · have hw' := h1 w hw
    unfold dcW at hw
    simp only [List.mem_cons, List.not_mem_nil, or_false] at hw
    rcases hw with rfl | rfl | rfl | rfl | rfl | rfl
    · exact va_tabs rfl (rfl : (s.setVm U.vm).vm = U.vm) (by rw [Cond.declares_setVm hW.alike]; exact hw')
    · exact va_tabs rfl (rfl : (s.setVm U.vm).vm = U.vm) (by rw [Cond.declares_setVm hW.alike]; exact hw')
    · exact va_tabs rfl (rfl : (s.setVm U.vm).vm = U.vm) (by rw [Cond.declares_setVm hW.alike]; exact hw')
    · exact va_tabs rfl (rfl : (s.setVm U.vm).vm = U.vm) (by rw [Cond.castable_setVm hW.alike]; exact hw')
    · exact va_tabs rfl (rfl : (s.setVm U.vm).vm = U.vm) (by rw [Cond.castable_setVm hW.alike]; exact hw')
    · exact va_tabs rfl (rfl : (s.setVm U.vm).vm = U.vm) (by rw [Cond.castable_setVm hW.alike]; exact hw')
  · obtain ⟨sa, hz⟩ := h4 q hq
    exact ⟨sa, vk_R.warm hW hz⟩
theorem tw_calling {A : Nat → Prop} {U : State} {g : JFrame} {mk : MethodId} {a : Array Value} (h : tw A U) : tw A (U.calling g mk a) := h.use (H := U.heap) (locs := []) va_S.rf (fun _ h => h) rfl (State.WarmedH.refl U)
/-! a contract with two ends: an int comes back, or an object of the class E is thrown; the state is given in both -/
def tx_Q {S : Type} (E : String) (post : Option Int32 → S → Prop) (B : S → State → Prop) (A : Nat → Prop) (mc ms : Nat) (free : Addr → Prop) : Array Value → State → Outcome → State → Prop := fun _ st o t =>
  ∃ (u : S) (L : List Loc), B u t ∧ va_F A st t ∧ st.WarmedH t.vm ∧ st.sameButNew ({ t with vm := st.vm } : State) L mc ms ∧ (∀ q ∈ L, free q.base) ∧
    ((∃ r : Int32, o = .returned (some (.int r)) ∧ post (some r) u) ∨ ∃ (q : Addr) (ce : Cell), o = .threw q ∧ post none u ∧ t.heap[q]? = some ce ∧ ce.vm.isStatics = false ∧ st.vm.findClass E = some ce.cls)
def tx_Met (l : Launch) (y : MethodName) (ws : List Cond) (rm : Room) (Pc : Array Value → State → Prop) (Q : Array Value → State → Outcome → State → Prop) : Prop := MetFree l y (headSpec ws rm) Pc (fun _ _ _ _ _ => True) Q
def tx_Z (below : List Frame) (Q : Array Value → State → Outcome → State → Prop) (a : Array Value) (s : State) : State → Prop := fun t => ∃ o, t.status = .running ∧ Ended t below o ∧ Q a s o t
section TXA
variable {p : Program} {l : Launch} {e : Env} {R : Room} {s : State} {m : MethodId} {args : Array Value} {below : List Frame} {meth : Method} {c : Code} {H : Heap} {locs : List Loc} {cells slots : Nat}
theorem W.up {Q Q2 : State → Prop} {g : JFrame} (h : ∀ t, Q t → Q2 t) (k : W p l e R s m args below meth c H locs cells slots Q g) : W p l e R s m args below meth c H locs cells slots Q2 g := by
  intro T hT X
  obtain ⟨t, a1, b1⟩ := k T hT X
  exact ⟨t, a1, h t b1⟩
theorem tx_ofW {y : MethodName} {ws ws' : List Cond} {rm : Room} {Pc : Array Value → State → Prop} {Q : Array Value → State → Outcome → State → Prop} {cc : ByteArray} {maxL : Nat} {ret : Option FieldType}
    (hy : plainName y.cls = true) (hw : ws = Cond.code y cc maxL ret :: ws')
    (body : ∀ p e s m args below meth c s₁, BodyLoose p l y (headSpec ws rm) cc maxL ret e s m args below meth c s₁ → c.maxLocals = maxL → c.exceptionTable.isEmpty = true → Pc args s →
      W p l e (headSpec ws rm).room s m args below meth c s.heap [] 0 0 (tx_Z below Q args s) (entryFrame m args maxL)) : tx_Met l y ws rm Pc Q := by
  refine MetFree.of_bodyS (code := cc) (maxLocals := maxL) (ret := ret) hy ?_ ?_
  · intro args s m h hn
    obtain ⟨meth, c, h1, h2, h3, h4, h5, h6, -, -⟩ := Cond.code_spec hn (atoms_spec (ws := ws) h _ (by rw [hw]; exact List.mem_cons_self))
    exact ⟨meth, c, h1, h2, h3, h4, h5, h6⟩
  · intro p e s m args below meth c s₁ B hml hP _
    have hh0 : s₁.heap = s.heap := by rw [B.state]; rfl
    have hcode : (Cond.code y cc maxL ret).before args s = true := atoms_spec (ws := ws) B.pre _ (by rw [hw]; exact List.mem_cons_self)
    obtain ⟨t, a1, o, b1, b2, b3⟩ := body p e s m args below meth c s₁ B hml (B.noHandlers hcode) hP s₁ hh0 (Stand.of_body B)
    exact ⟨t, o, a1, b1, b2, b3⟩
/-- the int end, by the rows that there are -/
theorem tx_ret {S : Type} {E : String} {post : Option Int32 → S → Prop} {B : S → State → Prop} {A : Nat → Prop} {k n mc ms : Nat} {free : Addr → Prop} (hc : k ≤ mc) (hs : n ≤ ms) (t : State) (h : MQ below (va_Qi (fun r u => post (some r) u) B A) args s k n free t) : tx_Z below (tx_Q E post B A mc ms free) args s t := by
  obtain ⟨o, h1, h2, ⟨⟨r, u, ho, hp, hb⟩, hF⟩, L, ⟨-, hW, hsm⟩, hL⟩ := h
  exact ⟨o, h1, h2, u, L, hb, hF, hW, hsm.mono hc hs, hL, Or.inl ⟨r, ho, hp⟩⟩
/-- the method's frame seen from here, as if it were called in this heap -/
theorem tx_base {T : State} (X : Stand p l e R s m args below meth c T locs cells slots) {rc rs : Nat} (hc : cells + rc ≤ R.cells) (hs : slots + rs ≤ R.slots) :
    Stand p l e { frames := R.frames, cells := rc, slots := rs, locals := R.locals } ((T.setVm s.vm).setFrames (.invoking m args :: below)) m args below meth c T [] 0 0 := by
  have htop : (T.setVm s.vm).topJava?.isSome := X.here.top
  have hfr : ((T.setVm s.vm).setFrames (.invoking m args :: below)).frames = .invoking m args :: below := State.frames_setFrames _ (State.cur_lt_of_top htop)
  obtain ⟨g0, hg0⟩ := Option.isSome_iff_exists.mp htop
  obtain ⟨r, hr⟩ := State.topJava?_eq_some.mp hg0
  have hlim : e.platform.stackLimits (T.setVm s.vm).me = e.platform.stackLimits s.me := X.limits
  have hbyt : (T.setVm s.vm).me.stackBytes = s.me.stackBytes := X.bytes
  have hin : ((T.setVm s.vm).setFrames (.invoking m args :: below)).localsInUse = s.localsInUse := by
    rw [State.localsInUse_invoking hfr (meth := meth) (c := c) X.method X.code, State.localsInUse_invoking X.frames X.method X.code]
  have hroom : ((T.setVm s.vm).setFrames (.invoking m args :: below)).hasRoom e.platform { frames := R.frames, cells := rc, slots := rs, locals := R.locals } = true := by
    have h := X.room
    simp only [State.hasRoom, Bool.and_eq_true, decide_eq_true_eq] at h ⊢
    obtain ⟨⟨⟨⟨h1, h2, h3, h4, h5, h6⟩, h7⟩, h8⟩, h9⟩ := h
    rw [X.frames, List.length_cons] at h2 h3
    have q1 := X.heapSize
    have q2 := X.used
    simp only [hfr, hin, List.length_cons, State.stackLimits_setFrames, State.stackBytes_setFrames, hlim, hbyt]
    exact ⟨⟨⟨⟨h1, h2, h3, h4, h5, h6⟩, show T.heap.size + rc ≤ e.platform.maxCells by omega⟩, show T.slotsUsed + rs ≤ e.platform.maxSlots by omega⟩, X.book⟩
  have hnone : ((T.heap.toList.drop T.heap.size).map (·.slots.size)).sum = 0 := by
    rw [List.drop_eq_nil_of_le (Nat.le_of_eq Array.length_toList)]; rfl
  refine ⟨X.admits, X.cas, X.clock, hfr, hroom, X.hears, X.method, X.code, X.here, X.tail, X.warmed, by rw [State.stackLimits_setFrames]; rfl, by rw [State.stackBytes_setFrames]; rfl, ?_, Nat.le_refl _, Nat.le_refl _, ?_, ?_, fun a c9 h9 => ⟨c9, h9, rfl, rfl, fun _ _ => rfl⟩⟩
  · obtain ⟨t, ht, -⟩ := State.frames_cons hr
    show T.setVm s.vm = { ((T.setVm s.vm).setFrames (.invoking m args :: below)).setFrames (T.setVm s.vm).frames with heap := T.heap, slotsUsed := T.slotsUsed }
    rw [State.setFrames_setFrames, State.setFrames_self ht]
    rfl
  · show T.slotsUsed = T.slotsUsed + ((T.heap.toList.drop T.heap.size).map (·.slots.size)).sum
    rw [hnone]; rfl
  · show ((T.heap.toList.drop T.heap.size).map (·.slots.size)).sum ≤ 0
    rw [hnone]
    exact Nat.le_refl _
end TXA
/-! throw new E("text") -/
def otW (ic : Nat) (cls : String) : Bool := (Bundle.ownAtoms "DotLines" ic cls upE).all fun w => goodWord w || (decide (w ∈ dcW) || (decide (w = .laysStatic Bundle.tN "UNASSIGNED_STACK" Bundle.steD) || (decide (w = .laysStatic Bundle.tN "SUPPRESSED_SENTINEL" Bundle.listD) || (decide (w = .isRef (.static Bundle.tN "UNASSIGNED_STACK" Bundle.steD)) || decide (w = .isRef (.static Bundle.tN "SUPPRESSED_SENTINEL" Bundle.listD))))))
section TXB
variable {p : Program} {l : Launch} {e : Env} {R : Room} {s : State} {m : MethodId} {args : Array Value} {below : List Frame} {meth : Method} {c : Code} {H : Heap} {locs : List Loc} {cells slots : Nat}
theorem tx_same {s s' : State} (hvm : s'.vm = s.vm) : s.WarmedH s'.vm := by rw [hvm]; exact State.WarmedH.refl s
theorem tx_throw {S : Type} {post : Option Int32 → S → Prop} {B : S → State → Prop} {free : Addr → Prop} {u : S} {cc : ByteArray} {pc : Nat} {ls : Array Slot} {rest : List Value} {cls text : String} {ik is ic sa mc ms : Nat} {A : Nat → Prop} (hexec : p.tables.exec = Jvm.exec) (hb : c.code = cc) (hl : l.stackTraces = false)
    (hown : s.vm.findClass "DotLines" = some m.cls) (hcls : Bundle.fit cls = true) (hot : otW ic cls = true)
    (hk : (Cond.classLink "DotLines" ik cls).before args s = true) (hini : (Cond.initialized cls).before args s = true) (hat : ∀ w ∈ Bundle.ownAtoms "DotLines" ic cls upE, goodWord w = true → w.before args s = true)
    (htw : tw A s) (hstr : vk_R "DotLines" is text sa s) (hS : va_S A s.heap H locs) (hsize : ls.size = c.maxLocals)
    (d0 : decode cc pc = .ok (.new ik, 3)) (d3 : decode cc (pc + 3) = .ok (.dup, 1)) (d4 : decode cc (pc + 4) = .ok (.ldc is, 2)) (d6 : decode cc (pc + 6) = .ok (.invokespecial ic, 3)) (d9 : decode cc (pc + 9) = .ok (.athrow, 1))
    (hno : c.exceptionTable.isEmpty = true) (hRf : 5 < R.frames) (hRl : (rest.map fun v => v.category).sum + 82 ≤ R.locals) (hRc : cells + 1 ≤ R.cells) (hRs : slots + 6 ≤ R.slots) (hlocks : meth.locks = false)
    (hp : post none u) (hB : ∀ t : State, s.vm.Alike t.vm → H.size ≤ t.heap.size → (∀ q : Nat, q < H.size → t.heap[q]? = H[q]?) → B u t) (hf : ∀ z ∈ locs, free z.base) (hc : cells + 1 ≤ mc) (hs : slots + 6 ≤ ms) :
    W p l e R s m args below meth c H locs cells slots (tx_Z below (tx_Q cls post B A mc ms free) args s) (F0 m pc ls rest) := by
  intro T hT X
  have htr : e.platform.stackTraces = false := (show e.platform.stackTraces = l.stackTraces by rw [X.admits.platform]).trans hl
  have Y := tx_base X (rc := 1) (rs := 6) hRc hRs
  obtain ⟨s', hs'⟩ : ∃ z, z = (T.setVm s.vm).setFrames (.invoking m args :: below) := ⟨_, rfl⟩
  rw [← hs'] at Y
  have hvm : s'.vm = s.vm := by rw [hs']; rfl
  have hhp : s'.heap = H := by rw [hs']; exact hT
  have hW0 := tx_same hvm
  have htw' : tw A s' := htw.use hS (fun _ h => h) hhp hW0
  have hstr' : vk_R "DotLines" is text sa s' := vk_R.warm hW0 hstr
  have hall : ∀ w ∈ Bundle.ownAtoms "DotLines" ic cls upE, w.before args s' = true := by
    intro w hw
    have h9 := List.all_eq_true.mp hot w hw
    simp only [Bool.or_eq_true, decide_eq_true_eq] at h9
    rcases h9 with h | h | rfl | rfl | rfl | rfl
    · exact word_at hW0 (good_of_word h) (hat w hw h)
    · have h8 := htw'.1 w h
      have hon : w.onTables = true := by
        unfold dcW at h
        simp only [List.mem_cons, List.not_mem_nil, or_false] at h
        rcases h with rfl | rfl | rfl | rfl | rfl | rfl <;> rfl
      exact va_tabs hon rfl h8
    · exact htw'.2.1.lays args
    · exact htw'.2.2.1.lays args
    · exact htw'.2.1.ref args
    · exact htw'.2.2.1.ref args
  have hk' : (Cond.classLink "DotLines" ik cls).before args s' = true := va_tabs rfl hvm.symm hk
  have hini' : (Cond.initialized cls).before args s' = true := va_tabs rfl hvm.symm hini
  have hown' : s'.vm.findClass "DotLines" = some m.cls := by rw [hvm]; exact hown
  have hins : (Cond.instantiable cls 6).before args s' = true := hall _ (by simp [Bundle.ownAtoms])
  obtain ⟨vm₁, cX, kX, hfX, hkX, -, -, X₁, st1⟩ := Y.newCold hexec (own := "DotLines") (C := cls) (index := ik) (n := 6) hown' hk' hins hini' (g := F0 m pc ls rest) rfl (by rw [hb]; exact d0) (Nat.le_refl _) (Nat.le_refl _)
  generalize hT1 : (T.setVm vm₁).pushCell { cls := cX, slots := kX.instanceTypes.map defaultValue, vm := .none } = T1 at X₁ st1
  have hcellA : T1.heap[T.heap.size]? = some (freshCell cX kX) := by rw [← hT1]; exact State.heap_pushCell_size _ _
  have d3' : decode c.code (pc + 3) = .ok (.dup, 1) := by rw [hb]; exact d3
  have hcat : (Value.ref T.heap.size).category = 1 := rfl
  obtain ⟨U, hsteps, hrun, hend, hW, hsame, ce, hce, hO⟩ := X₁.ctorThrowS hexec htr (own := "DotLines") (cls := cls) (names := upE) (ic := ic) hown' hcls (by decide +kernel) hall (fun x hx => nomatch hx) hfX hkX hcellA (by rw [hhp, hT]; exact Nat.le_refl _) (msg := .ref sa) rfl
    (g := F0 m (pc + 6) ls (.ref sa :: .ref T.heap.size :: .ref T.heap.size :: rest)) rfl hsize rfl rfl (rest := rest) rfl (by rw [hb]; exact d6) (by rw [hb]; exact d9) (covers_of_empty hno _) (by simpa [upE] using hRf) (by simp only [List.map_cons, List.sum_cons, hcat, upE, List.length_cons, List.length_nil]; omega) hlocks
  have hWs : s.WarmedH U.vm := State.WarmedH.trans hW0 hW
  have hcl : s.vm.findClass cls = some ce.cls := by
    have h9 := hO.cls
    rw [hvm] at h9
    exact h9
  obtain ⟨e1, e2, e3, e4, e5, e6⟩ := hsame
  have hgrow : H.size ≤ U.heap.size := by rw [← hhp]; exact e2
  have hkeep : ∀ q : Nat, q < H.size → U.heap[q]? = H[q]? := by
    intro q hq
    obtain ⟨c0, hc0⟩ : ∃ c0, H[q]? = some c0 := ⟨_, Array.getElem?_eq_getElem hq⟩
    obtain ⟨c1, k1, k2, k3, k4⟩ := e6 q c0 (by rw [hhp]; exact hc0)
    have hsl : c1.slots = c0.slots := by
      apply Array.ext_getElem?
      intro i
      exact k4 i (fun h => nomatch h)
    rw [hsl] at k2
    have hcc : c1 = c0 := k2
    have hU : U.heap[q]? = some c1 := k1
    rw [hU, hc0, hcc]
  have hfull : s.sameButNew ({ U with vm := s.vm } : State) locs mc ms := by
    subst hs'
    rw [State.setFrames_setFrames] at e1
    have h2 : (T.setVm s.vm).sameButNew ({ U with vm := s.vm } : State) [] (0 + 1) (0 + 6) := ⟨e1, e2, e3, e4, e5, e6⟩
    have h3 := X.same.trans h2
    rw [List.append_nil] at h3
    exact h3.mono hc hs
  refine ⟨U, ?_, .threw T.heap.size, hrun, hend, u, locs, hB U hWs.alike hgrow hkeep, ⟨Nat.le_trans hS.1 hgrow, fun q h1 h2 => by rw [hkeep q (Nat.lt_of_lt_of_le h1 hS.1)]; exact hS.2.1 q h1 h2⟩, hWs, hfull, hf, Or.inr ⟨T.heap.size, ce, rfl, hp, hce, by rw [hO.vm]; rfl, hcl⟩⟩
  refine st1 _ ?_
  show Steps p.tables e below (T1.setTop (F0 m (pc + 3) ls (.ref T.heap.size :: rest))) _
  jvm_step X₁.here [X₁.here.top, hexec, d3', Value.category]
  exact X₁.ldcString hexec (own := "DotLines") (text := text) (index := is) (a := sa) hown' hstr'.1 hstr'.2 (g := F0 m (pc + 4) ls (.ref T.heap.size :: .ref T.heap.size :: rest)) rfl (by rw [hb]; exact d4) _ hsteps
end TXB
/-! a call of a method that may throw, from inside a catching range; and a call of a method that has a table -/
section TXC
variable {p : Program} {l : Launch} {e : Env} {R : Room} {s : State} {m : MethodId} {args : Array Value} {below : List Frame} {meth : Method} {c : Code} {H : Heap} {locs : List Loc} {cells slots : Nat} {Q : State → Prop}
variable {y : MethodName} {bytes cc : ByteArray} {maxL nL mc ms n index : Nat} {ret : Option FieldType} {ws : List Cond} {rm : Room} {Pc : Array Value → State → Prop} {free : Addr → Prop} {Ts : List Cond} {own C : String} {b : Addr} {As rest : List Value} {A0 A1 : Nat → Prop} {H0 : Heap} {pc : Nat} {ls : Array Slot} {st0 : List Value}
theorem tx_S {t T' : State} {L : List Loc} {st : State} (h0 : st.heap = H) (e1 : T'.heap = t.heap) (hS : va_S A0 H0 H locs) (hA : ∀ q, q < H.size → A1 q → A0 q) (hf : ∀ q, free q → A0 q) (hL : ∀ q ∈ L, free q.base) (hF : va_F A1 st t) :
    H.size ≤ T'.heap.size ∧ (∀ q : Nat, q < H.size → ¬ A1 q → T'.heap[q]? = H[q]?) ∧ va_S A0 H0 T'.heap (locs ++ L) := by
  obtain ⟨hz, hk⟩ := hF
  rw [h0, ← e1] at hz
  rw [h0, ← e1] at hk
  refine ⟨hz, hk, Nat.le_trans hS.1 hz, fun q h1 h2 => ?_, fun q hq => ?_⟩
  · rw [hk q (Nat.lt_of_lt_of_le h1 hS.1) (fun z => h2 (hA q (Nat.lt_of_lt_of_le h1 hS.1) z))]
    exact hS.2.1 q h1 h2
  · rcases List.mem_append.mp hq with h | h
    · exact hS.2.2 q h
    · exact hf _ (hL q h)
theorem tx_callV {S : Type} {E : String} {post : Option Int32 → S → Prop} {B : S → State → Prop} (F : CallFix p m c cc nL s args Ts own) (hM : tx_Met l y ws rm Pc (tx_Q E post B A1 mc ms free)) (cw : CallW R s args own C index y bytes maxL ret ws rm mc ms n) (hp : PreV s H C b Pc As)
    (hn : As.length = n) (hsize : ls.size = nL) (hstack : st0 = As.reverse ++ .ref b :: rest) (hW : (rest.map fun v => v.category).sum ≤ 8) (hdg : decode cc pc = .ok (.invokevirtual index, 3)) (hf : cells + mc ≤ R.cells ∧ slots + ms ≤ R.slots)
    (hS : va_S A0 H0 H locs) (hA : ∀ q, q < H.size → A1 q → A0 q) (hfr : ∀ q, free q → A0 q)
    {x : ExceptionTableEntry} {sx : List ExceptionTableEntry} (hsp : c.exceptionTable.toList = x :: sx) (hcov : covers x pc = true) (hx0 : x.catchType ≠ 0) (hxl : (Cond.classLink own x.catchType E).before args s = true) (hcast : (Cond.castable E E).before args s = true)
    (kk : ∀ (r : Int32) (u : S) (t : State) (H1 : Heap) (locs1 : List Loc), t.heap = H1 → s.WarmedH t.vm → post (some r) u → B u t → H.size ≤ H1.size → (∀ q : Nat, q < H.size → ¬ A1 q → H1[q]? = H[q]?) → va_S A0 H0 H1 locs1 → W p l e R s m args below meth c H1 locs1 (cells + mc) (slots + ms) Q (F0 m (pc + 3) ls (.int r :: rest)))
    (kx : ∀ (q9 : Addr) (u : S) (t : State) (H1 : Heap) (locs1 : List Loc), t.heap = H1 → s.WarmedH t.vm → post none u → B u t → H.size ≤ H1.size → (∀ q : Nat, q < H.size → ¬ A1 q → H1[q]? = H[q]?) → va_S A0 H0 H1 locs1 → W p l e R s m args below meth c H1 locs1 (cells + mc) (slots + ms) Q (F0 m x.handlerPc ls [.ref q9])) :
    W p l e R s m args below meth c H locs cells slots Q (F0 m pc ls st0) := by
  obtain ⟨⟨hrc, hrs, hRf, hRl, hws, hcw, hcode, hini, hy, hlen, hl⟩, hin, hse⟩ := cw
  obtain ⟨hex, hb, hml, ho, -⟩ := F
  obtain ⟨hbl, ⟨cellB, hcB, hoB, hclB⟩, hPc⟩ := hp
  intro T hT X
  obtain ⟨mk, methM, hnamed, hmethM, hstM, habM⟩ := Cond.instanceMethod_spec hin
  obtain ⟨methM', cM, hmethM', hcM, -, hlM, -, -, -, hsigM⟩ := Cond.code_spec hnamed hcode
  cases hmethM.symm.trans hmethM'
  obtain ⟨c2, r2, m2, q1, q2, q3, q4, kP, hkP, hkPi⟩ := Cond.selects_spec hse
  cases hclB.symm.trans q1
  cases (State.methodFound?_of_named hnamed hy).symm.trans q2
  cases hnamed.symm.trans q3
  have hselP : selectMethod e.platform s.vm cellB.cls mk = .method mk := by rw [Launch.admits_selectMethod X.admits]; exact q4
  obtain ⟨vm₁, X₁, hstep₁⟩ := X.invokevirtual hex ho hl hnamed hmethM hstM hkP hkPi hy (a := b) (cell := cellB) (by rw [hT]; exact hcB)
    (fun z h => by rw [h] at hoB; cases hoB) hselP hmethM habM hkP hkPi (g := F0 m pc ls st0) rfl (argsL := As) (rest := rest) (hn.trans (hlen _ hsigM)) hstack (by rw [hb]; exact hdg)
  obtain ⟨a, ha⟩ : ∃ a, a = (Value.ref b :: As).toArray := ⟨_, rfl⟩
  obtain ⟨g, hg⟩ : ∃ g, g = F0 m pc ls rest := ⟨_, rfl⟩
  obtain ⟨U, hU⟩ : ∃ U, U = T.setVm vm₁ := ⟨_, rfl⟩
  have hgm : g.method = m := by rw [hg]
  have hst1 : ∀ target, Steps p.tables e below (doInvoke e (U.setTop g) [] mk a).1 target → Steps p.tables e below (T.setTop (F0 m pc ls st0)) target := fun target h => hstep₁ _ fun acts => by
    rw [doInvoke_state]
    rw [hU, hg, ha] at h
    exact h
  rw [← hU] at X₁
  have hdg' : decode c.code g.pc = .ok (.invokevirtual index, 3) := by rw [hg, hb]; exact hdg
  have hat : At U g.method c below := by rw [hgm]; exact X₁.here
  have hnU : U.methodNamed? y = some mk := X₁.named hnamed
  have hwsU : (headSpec ws rm).pre.before a U = true := atoms_intro fun w hw => hws w hw _ _ X₁.warmed
  obtain ⟨methY, cY, hmY, hcY, -, hlY, -, -, -, -⟩ := Cond.code_spec hnU (hws _ hcw a U X₁.warmed)
  obtain ⟨kY, hkY, -⟩ := className_of_methodNamed hnU
  have hiniU : (Cond.initialized y.cls).before a U = true := word_at X₁.warmed (Or.inl (by first | rfl | simp [Cond.onTables, Cond.keeps, Cond.steady])) hini
  have hinitY : kY.init = .initialized := Cond.initialized_spec (findClass_of_methodNamed hnU) hkY hiniU
  have happ : (headSpec ws rm).appliesLoose y e.platform (U.calling g mk a) = true :=
    Spec.appliesLoose_calling (g := g) hat hdg' hnU hkY hinitY
      (X₁.room_calling (g := g) (R' := (headSpec ws rm).room) (by rw [hg]; exact hsize.trans hml.symm) hmY hcY hRf (by rw [hlY]; have h9 : 2 * g.monitorRoom + (g.stack.map fun v => v.category).sum ≤ 8 := (by rw [hg]; simpa [JFrame.monitorRoom] using hW); have h8 : 8 + (maxL + 11) + (headSpec ws rm).room.locals ≤ R.locals := hRl; omega) (by rw [show (headSpec ws rm).room.cells = mc from hrc]; exact hf.1) (by rw [show (headSpec ws rm).room.slots = ms from hrs]; exact hf.2)) hwsU
  obtain ⟨mid, hmid⟩ := hat.above
  have hfrs : (U.setTop g).frames = (.java g :: mid) ++ below := by rw [State.frames_setTop' g hat.top, hmid]; rfl
  have hPcU : Pc a (U.calling g mk a) := hbl _ _ _ _ (by rw [ha]; exact hPc U (by rw [hU]; exact hT) X₁.warmed)
  obtain ⟨o, s₂, hsteps, -, hend, hq⟩ := Steps.callFree hM p X.admits X.cas X.clock (acts := []) hfrs happ hPcU trivial
  have hend' : Ended s₂ (.java g :: below) o := by
    rw [State.frames_setTop' g hat.top, X₁.tail] at hend
    exact hend
  have hq' : tx_Q E post B A1 mc ms free a (U.calling g mk a) o s₂ := hq
  obtain ⟨u, L, hB, hF, hW2, hsm, hL, hor⟩ := hq'
  have hst0 : (U.calling g mk a).heap = H := by rw [hU]; exact hT
  rcases hor with ⟨r, rfl, hpo⟩ | ⟨q9, ce, rfl, hpo, hce, hcv, hcl⟩
  · obtain ⟨T', X', hW3, -, rfl⟩ := X₁.outOf hgm hdg' (mk := mk) (a := a) (L := L) (k := mc) (n := ms) hend' hW2 hsm
    have e1 : T'.heap = (T'.setTop { g with pc := g.pc + 3, stack := (some (Value.int r)).toList ++ g.stack }).heap := by simp [State.setTop, State.modifyTopJava, State.setFrames]
    obtain ⟨k1, k2, k3⟩ := tx_S hst0 e1 hS hA hfr hL hF
    obtain ⟨t2, a1, b1⟩ := kk r u _ T'.heap (locs ++ L) e1.symm (State.WarmedH.trans X₁.warmed hW2) hpo hB k1 k2 k3 T' rfl X'
    refine ⟨t2, hst1 t2 (hsteps.trans ?_), b1⟩
    rw [hg]
    exact a1
  · obtain ⟨T', X', hW3, -, rfl⟩ := X₁.outOfThrown hgm (mk := mk) (a := a) (L := L) (k := mc) (n := ms) hend' hW2 hsm
    have e1 : T'.heap = ((T'.setTop g).pushFrame (.throwing q9)).heap := (Stand.throwing_heap T' g q9).symm
    obtain ⟨k1, k2, k3⟩ := tx_S hst0 e1 hS hA hfr hL hF
    have hclS : s.vm.findClass E = some ce.cls := by
      have h9 : U.vm.findClass E = some ce.cls := hcl
      rw [X₁.warmed.alike.findClass] at h9
      exact h9
    obtain ⟨c3, c4, hc3, hc4, hasg⟩ := Cond.castable_spec hcast
    cases Option.some.inj (hc3.symm.trans hclS)
    cases Option.some.inj (hc4.symm.trans hclS)
    obtain ⟨hcat, hk0⟩ := X'.catches_of_link ho hx0 hxl hclS hasg
    obtain ⟨vm', X2, hst2⟩ := X'.thenCaughtThrough q9 (g := g) hgm (Steps.refl _) (by rw [e1]; exact hce) hcv hk0 [] x sx hsp (fun z hz => nomatch hz) (by rw [hg]; exact hcov) hcat
    obtain ⟨t2, a1, b1⟩ := kx q9 u _ T'.heap (locs ++ L) e1.symm (State.WarmedH.trans X₁.warmed hW2) hpo hB k1 k2 k3 (T'.setVm vm') rfl X2
    refine ⟨t2, hst1 t2 (hsteps.trans (hst2.trans ?_)), b1⟩
    rw [hg]
    exact a1
end TXC
section TXD
variable {p : Program} {l : Launch} {e : Env} {R : Room} {s : State} {m : MethodId} {args : Array Value} {below : List Frame} {meth : Method} {c : Code} {H : Heap} {locs : List Loc} {cells slots : Nat} {Q : State → Prop}
variable {y : MethodName} {bytes cc : ByteArray} {maxL nL mc ms n index : Nat} {ret : Option FieldType} {ws ws' : List Cond} {rm : Room} {Pc : Array Value → State → Prop} {Qc : Array Value → State → Outcome → State → Prop} {free : Addr → Prop} {Ts : List Cond} {own : String} {As rest : List Value} {g : JFrame} {hh : List (Nat × Nat × Nat × Nat)}
/-- the contract of a method with a table; the body gets the table -/
theorem tx_MetW (hy : plainName y.cls = true) (hw : ws = Cond.codeWith y cc maxL ret hh :: ws')
    (body : ∀ p e s m args below meth c s₁, BodyLoose p l y (headSpec ws rm) cc maxL ret e s m args below meth c s₁ → c.maxLocals = maxL → c.exceptionTable.toList = tableOf hh → Pc args s →
      W p l e (headSpec ws rm).room s m args below meth c s.heap [] 0 0 (MQ below Qc args s mc ms free) (entryFrame m args maxL)) : Met l y ws rm Pc Qc mc ms free := by
  refine Jvm.Free.Fmt.of_bodyTbl (code := cc) (maxLocals := maxL) (ret := ret) (handlers := hh) hy ?_ ?_
  · intro args s h
    exact atoms_spec (ws := ws) h _ (by rw [hw]; exact List.mem_cons_self)
  · intro p e s m args below meth c s₁ B hml htb hP _
    have hh0 : s₁.heap = s.heap := by rw [B.state]; rfl
    obtain ⟨t, a1, o, b1, b2, b3⟩ := body p e s m args below meth c s₁ B hml htb hP s₁ hh0 (Stand.of_body B)
    exact ⟨t, o, a1, b1, b2, ⟨b3.1, b3.2⟩⟩
/-- a static method with a table is called -/
theorem tx_runSW (F : CallFix p m c cc nL s args Ts own) (hM : Met l y ws rm Pc Qc mc ms free) (hGw : GoodIn Ts (va_wsS own index y ws)) (hwc : ws = Cond.codeWith y bytes maxL ret hh :: ws') (hrc : rm.cells = mc) (hrs : rm.slots = ms) (hRf : rm.frames + 1 ≤ R.frames) (hRl : 8 + (maxL + 11) + rm.locals ≤ R.locals)
    (hd : y.cls ≠ "java/lang/invoke/MethodHandle" ∧ y.cls ≠ "java/lang/invoke/VarHandle" ∧ (parseMethodDescriptor y.desc).map (fun d => d.parameters.length) = some n) (hp : PreS s H Pc As)
    (hg : g.method = m) (hn : As.length = n) (hsize : g.locals.size = nL) (hstack : g.stack = As.reverse ++ rest) (hW : 2 * g.monitorRoom + (rest.map fun v => v.category).sum ≤ 8) (hdg : decode cc g.pc = .ok (.invokestatic index, 3)) (hf : cells + mc ≤ R.cells ∧ slots + ms ≤ R.slots) :
    va_Run p l e R s m args below meth c H locs cells slots mc ms g rest (Qc As.toArray) free := by
  obtain ⟨hex, hb, hml, ho, hts⟩ := F
  have ok : ∀ w ∈ va_wsS own index y ws, w.before args s = true := fun w h => hts w (hGw w h).1
  have hl : (Cond.methodLink own index y).before args s = true := ok _ (by simp [va_wsS])
  have hstt : (Cond.static y).before args s = true := ok _ (by simp [va_wsS])
  have hini : (Cond.initialized y.cls).before args s = true := ok _ (by simp [va_wsS])
  have hcw : Cond.codeWith y bytes maxL ret hh ∈ ws := by rw [hwc]; exact List.mem_cons_self
  have hcode : (Cond.codeWith y bytes maxL ret hh).before args s = true := ok _ (by unfold va_wsS; exact List.mem_append_right _ hcw)
  have hGws : ∀ w ∈ ws, ∀ (a' : Array Value) (U : State), s.WarmedH U.vm → w.before a' U = true := pay_in hts (fun w h => hGw w (by unfold va_wsS; exact List.mem_append_right _ h))
  have hK : Back l R p e below s args y 3 8 (PreOf R mc ms Pc) (PostOf Qc mc ms free) :=
    va_backW (bytes := bytes) (maxL := maxL) (ret := ret) (hh := hh) hM hp.1 hrc hrs hRf hRl hGws hcw (fun a' U hW => word_at hW (Or.inl (by first | rfl | simp [Cond.onTables, Cond.keeps, Cond.steady])) hini)
  obtain ⟨mk, methM, cM, hnamed, hmethM, hcM, -, -, -, -, -, hsigM⟩ := Cond.codeWith_spec hcode
  have hstatic : methM.isStatic = true := Cond.static_spec hnamed hmethM hstt
  obtain ⟨kP, hkP, -⟩ := className_of_methodNamed hnamed
  have hinitP : kP.init = .initialized := Cond.initialized_spec (findClass_of_methodNamed hnamed) hkP hini
  have hlen : ∀ sig, parseMethodDescriptor y.desc = some sig → n = sig.parameters.length := fun sig h => by
    have h2 := hd.2.2
    rw [h] at h2
    exact (Option.some.inj h2).symm
  intro T hT X
  obtain ⟨vm₁, X₁, hstep₁⟩ := X.invokestatic hex ho hl hnamed hmethM hstatic hkP hinitP ⟨hd.1, hd.2.1⟩ (g := g) hg (argsL := As) (rest := rest) (hn.trans (hlen _ hsigM)) hstack (by rw [hb]; exact hdg)
  obtain ⟨v, ⟨U', l2, c2, s2⟩, X', ⟨g', mk', t, L, e1, e2, hq, h1, hL, h2, h3⟩, hsteps⟩ := hK m meth c ⟨T.setVm vm₁, locs, cells, slots⟩ { g with stack := rest } (.invokestatic index) mk As.toArray X₁ hg (hsize.trans hml.symm) (by rw [hb]; exact hdg) hW (X₁.named hnamed) ⟨hf.1, hf.2, hp.2 (T.setVm vm₁) hT X₁.warmed⟩
  dsimp only [Pt.U, Pt.locs, Pt.cells, Pt.slots] at X' e1 e2 h1 h2 h3 hsteps
  subst h1; subst h2; subst h3
  exact ⟨v, (T.setVm vm₁).calling g' mk' As.toArray, t, U', L, hT, X', hL, e1, e2, hq, fun target h => hstep₁ _ fun acts => by rw [doInvoke_state]; exact hsteps.trans h⟩
end TXD
