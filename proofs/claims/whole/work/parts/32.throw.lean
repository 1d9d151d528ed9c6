/-! methods that throw, callers that catch -/
/-- a static reference of Throwable: laid, and held -/
def zS1 (nm d : String) (U : State) (H : Heap) : Prop := ∃ (c : ClassId) (k : Class) (i : Nat) (f : Field) (a : Nat) (cell : Cell) (v : Value), U.vm.findClass Bundle.tN = some c ∧ U.fieldFound? Bundle.tN nm d = some (c, k, i, f) ∧ f.isStatic = true ∧ k.statics = some a ∧ H[a]? = some cell ∧ cell.vm.isStatics = true ∧ cell.cls = c ∧ f.slot < cell.slots.size ∧ k.staticTypes[f.slot]? = some f.type ∧ cell.slots[f.slot]? = some v ∧ (v = .null ∨ ∃ t, v = .ref t)
theorem zS1.moved {nm d : String} {u U : State} {H : Heap} (hvm : u.vm.Alike U.vm) (h : zS1 nm d u H) : zS1 nm d U H := by
  obtain ⟨c, k, i, f, a, cell, v, h0, h1, h2, h3, h4, h5, h6, h7, h8, h9⟩ := h
  obtain ⟨k', hi', he⟩ := State.fieldFound?_setVm hvm h1
  exact ⟨c, k', i, f, a, cell, v, by rw [hvm.findClass]; exact h0, hi', h2, by rw [he]; exact h3, h4, h5, h6, h7, by rw [he]; exact h8, h9⟩
theorem zS1.kept {nm d : String} {U : State} {H H1 : Heap} (h : zS1 nm d U H) (hq : ∀ q : Nat, q < H.size → H1[q]? = H[q]?) : zS1 nm d U H1 := by
  obtain ⟨c, k, i, f, a, cell, v, h0, h1, h2, h3, h4, h5⟩ := h
  exact ⟨c, k, i, f, a, cell, v, h0, h1, h2, h3, by rw [hq a (Array.getElem?_eq_some_iff.mp h4).1]; exact h4, h5⟩
theorem zS1.of {args : Array Value} {s : State} {nm d : String} (hl : (Cond.laysStatic Bundle.tN nm d).before args s = true) (h : (Cond.isRef (.static Bundle.tN nm d)).before args s = true) : zS1 nm d s s.heap := by
  obtain ⟨c, k, i, f, a, cell, hc, hi, hst, ha, hcell, hs, hcls, hlt, hty⟩ := Cond.laysStatic_spec hl
  cases hv : (Term.static Bundle.tN nm d).eval args s none [] s with
  | none => simp [Cond.before, Cond.holds, Cond.value, hv] at h
  | some w =>
    obtain ⟨-, a', cell', ha', hcell', -, hslot⟩ := Term.static_spec hi hv
    cases ha.symm.trans ha'
    cases hcell.symm.trans hcell'
    refine ⟨c, k, i, f, a, cell, w, hc, hi, hst, ha, hcell, hs, hcls, hlt, hty, hslot, ?_⟩
    simp only [Cond.before, Cond.holds, Cond.value, hv] at h
    cases w with
    | null => exact Or.inl rfl
    | ref t => exact Or.inr ⟨t, rfl⟩
    | _ => simp at h
theorem zS1.lays {nm d : String} {s : State} (h : zS1 nm d s s.heap) (args : Array Value) : (Cond.laysStatic Bundle.tN nm d).before args s = true := by
  obtain ⟨c, k, i, f, a, cell, v, hc, hi, hst, ha, hcell, hs, hcls, hlt, hty, hslot, hv⟩ := h
  exact Cond.laysStatic_of hc hi hst ha hcell hs hcls hlt hty
theorem zS1.ref {nm d : String} {s : State} (h : zS1 nm d s s.heap) (args : Array Value) : (Cond.isRef (.static Bundle.tN nm d)).before args s = true := by
  obtain ⟨c, k, i, f, a, cell, v, hc, hi, hst, ha, hcell, hs, hcls, hlt, hty, hslot, hv⟩ := h
  have he : (Term.static Bundle.tN nm d).eval args s none [] s = some v := Term.static_eval hi hst ha hcell hs hslot
  rcases hv with rfl | ⟨t, rfl⟩ <;> simp [Cond.before, Cond.holds, Cond.value, he]
/-- what throwing asks of the tables, and no reader of steady words carries -/
def zIAE : String := "java/lang/IllegalArgumentException"
def zISE : String := "java/lang/IllegalStateException"
def zAE : String := "java/lang/ArithmeticException"
def zCp : List Cond := [.declares (Bundle.init0 "java/lang/RuntimeException"), .declares (Bundle.init0 "java/lang/Exception"), .declares (Bundle.init0 "java/lang/Throwable"), .castable zIAE zIAE, .castable zISE zISE, .castable zAE zAE]
def zC (U : State) : Prop := (∀ w ∈ zCp, w.before #[] U = true) ∧ va_Nc zISE zIAE U ∧ va_Nc zAE zIAE U ∧ va_Nc zAE zISE U
theorem zC.moved {u U : State} (hvm : u.vm.Alike U.vm) (h : zC u) : zC U := by
  refine ⟨?_, h.2.1.moved hvm, h.2.2.1.moved hvm, h.2.2.2.moved hvm⟩
  have tr : ∀ {c : Cond}, c.onTables = true → c.before #[] (u.setVm U.vm) = true → c.before #[] U = true := by
    intro c hc h
    have e := Cond.onTables_vm (A := #[]) (A' := #[]) (U := u) (U' := U) U.vm c hc
    have hU : U.setVm U.vm = U := rfl
    rw [hU] at e
    rw [← e]
    exact h
  have h0 := h.1
  intro w hw
  have hb := h0 w hw
  simp only [zCp, List.mem_cons, List.not_mem_nil, or_false] at hw
  rcases hw with rfl | rfl | rfl | rfl | rfl | rfl
  · exact tr rfl (by rw [Cond.declares_setVm hvm]; exact hb)
  · exact tr rfl (by rw [Cond.declares_setVm hvm]; exact hb)
  · exact tr rfl (by rw [Cond.declares_setVm hvm]; exact hb)
  · exact tr rfl (by rw [Cond.castable_setVm hvm]; exact hb)
  · exact tr rfl (by rw [Cond.castable_setVm hvm]; exact hb)
  · exact tr rfl (by rw [Cond.castable_setVm hvm]; exact hb)
theorem zCp_any {U : State} (h : zC U) (args : Array Value) : ∀ w ∈ zCp, w.before args U = true := by
  intro w hw
  have hb := h.1 w hw
  simp only [zCp, List.mem_cons, List.not_mem_nil, or_false] at hw
  rcases hw with rfl | rfl | rfl | rfl | rfl | rfl <;> exact va_any rfl hb
/-- what throwing asks of the state -/
def zS (U : State) (H : Heap) : Prop := (zS1 "UNASSIGNED_STACK" Bundle.steD U H ∧ zS1 "SUPPRESSED_SENTINEL" Bundle.listD U H) ∧ zC U
theorem zS.moved {u U : State} {H : Heap} (hvm : u.vm.Alike U.vm) (h : zS u H) : zS U H := ⟨⟨h.1.1.moved hvm, h.1.2.moved hvm⟩, h.2.moved hvm⟩
theorem zS.kept {U : State} {H H1 : Heap} (h : zS U H) (hq : ∀ q : Nat, q < H.size → H1[q]? = H[q]?) : zS U H1 := ⟨⟨h.1.1.kept hq, h.1.2.kept hq⟩, h.2⟩
def zSq : List Cond := [.laysStatic Bundle.tN "UNASSIGNED_STACK" Bundle.steD, .laysStatic Bundle.tN "SUPPRESSED_SENTINEL" Bundle.listD, .isRef (.static Bundle.tN "UNASSIGNED_STACK" Bundle.steD), .isRef (.static Bundle.tN "SUPPRESSED_SENTINEL" Bundle.listD)]
def zSp : List Cond := zSq ++ zCp
theorem zSp_ok {s : State} (h : zS s s.heap) (args : Array Value) : ∀ w ∈ zSp, w.before args s = true := by
  intro w hw
  rcases List.mem_append.mp hw with hw | hw
  · rcases List.mem_cons.mp hw with rfl | hw
    · exact h.1.1.lays args
    · rcases List.mem_cons.mp hw with rfl | hw
      · exact h.1.2.lays args
      · rcases List.mem_cons.mp hw with rfl | hw
        · exact h.1.1.ref args
        · rcases List.mem_cons.mp hw with rfl | hw
          · exact h.1.2.ref args
          · cases hw
  · exact zCp_any h.2 args w hw
/-- the words that throwing a new X asks -/
def zXw (own : String) (ic : Nat) (X : String) (names : List String) : Bool := (Bundle.ownAtoms0 own ic X names).all (fun w => (decide (w ∈ lw_tbl) && goodWord w) || decide (w ∈ zSp))
theorem zXw_ok {own : String} {ic : Nat} {X : String} {names : List String} (hx : zXw own ic X names = true) {s : State} {args : Array Value} (hts : ∀ w ∈ zT, w.before args s = true) (hS : zS s s.heap) : ∀ w ∈ Bundle.ownAtoms0 own ic X names, w.before args s = true := by
  intro w hw
  have h1 := List.all_eq_true.mp hx w hw
  rw [Bool.or_eq_true] at h1
  rcases h1 with h1 | h1
  · rw [Bool.and_eq_true] at h1
    exact hts w (zin (of_decide_eq_true h1.1) h1.2)
  · exact zSp_ok hS args w (of_decide_eq_true h1)
/-- the end of a throwing method: a new X, nothing old changed -/
def zTE (X : String) (a : Array Value) (st : State) (o : Outcome) (t : State) : Prop := ∃ (x : Addr) (ce : Cell), o = .threw x ∧ st.heap.size ≤ x ∧ t.heap[x]? = some ce ∧ st.vm.findClass X = some ce.cls ∧ ce.vm = .none ∧ st.WarmedH t.vm ∧ st.sameButNew ({ t with vm := st.vm } : State) [] 1 6
def MetT (l : Launch) (y : MethodName) (ws : List Cond) (rm : Room) (Pc : Array Value → State → Prop) (X : String) : Prop := MetFree l y (headSpec ws rm) Pc (fun _ _ _ _ _ => True) (zTE X)
def MQT (below : List Frame) (X : String) (a : Array Value) (s : State) : State → Prop := fun t => ∃ o, t.status = .running ∧ Ended t below o ∧ zTE X a s o t
/-- a method whose own walk ends in a new X thrown -/
theorem z_metT {l : Launch} {y : MethodName} {rm : Room} {Pc : Array Value → State → Prop} {X : String} {cc : ByteArray} {maxL : Nat} {ret : Option FieldType} (hy : plainName y.cls = true)
    (walk : ∀ p e s m args below meth c s₁, BodyLoose p l y (headSpec (zW y cc maxL ret) rm) cc maxL ret e s m args below meth c s₁ → c.maxLocals = maxL → Pc args s →
      W p l e (headSpec (zW y cc maxL ret) rm).room s m args below meth c s.heap [] 0 0 (MQT below X args s) (entryFrame m args maxL)) : MetT l y (zW y cc maxL ret) rm Pc X :=
  MetFree.of_bodyS hy
    (fun _ _ _ hpre hn =>
      have ⟨meth, c, w1, w2, w3, w4, w5, w6, _⟩ := Cond.code_spec hn (atoms_spec (ws := zW y cc maxL ret) hpre _ List.mem_cons_self)
      ⟨meth, c, w1, w2, w3, w4, w5, w6⟩)
    (fun _ _ _ _ _ _ _ _ _ B hml hP _ =>
      have ⟨t, steps, o, w⟩ := walk _ _ _ _ _ _ _ _ _ B hml hP _ (by rw [B.state]; rfl) (Stand.of_body B)
      ⟨t, o, steps, w⟩)
section ZTH
variable {p : Program} {l : Launch} {e : Env} {R : Room} {s : State} {m : MethodId} {args : Array Value} {below : List Frame} {meth : Method} {c : Code} {H : Heap} {locs : List Loc} {cells slots : Nat} {Q : State → Prop}
variable {cc : ByteArray} {pc nL : Nat} {ls : Array Slot} {own : String}
/-- new X; dup; X(); athrow -/
theorem z_throw (F : CallFix p m c cc nL s args zT own) (hl9 : l.stackTraces = false) (hS : zS s s.heap) (hlocks : meth.locks = false) (hne : c.exceptionTable.isEmpty = true) {icl ic : Nat} {X : String} {names : List String} (hx : zXw own ic X names = true) (hfX : Bundle.fit X = true) (hfn : ∀ n ∈ names, Bundle.fit n = true) (hcl : Cond.classLink own icl X ∈ zT) (hit : Cond.instantiable X 6 ∈ zT) (hini : Cond.initialized X ∈ zT) (hsize : ls.size = nL)
    (d1 : decode cc pc = .ok (.new icl, 3)) (d2 : decode cc (pc + 3) = .ok (.dup, 1)) (d3 : decode cc (pc + 4) = .ok (.invokespecial ic, 3)) (d4 : decode cc (pc + 7) = .ok (.athrow, 1)) (hc1 : 1 ≤ R.cells) (hc2 : 6 ≤ R.slots) (hR1 : names.length + 3 < R.frames) (hR2 : 1 + (13 * (names.length + 1) + 41) ≤ R.locals) :
    W p l e R s m args below meth c s.heap [] 0 0 (MQT below X args s) (F0 m pc ls []) := by
  refine W.newc F.1 F.2.1 F.2.2.2.1 (F.2.2.2.2 _ hcl) (F.2.2.2.2 _ hit) (F.2.2.2.2 _ hini) rfl d1 (by omega) (by omega) (fun cC kC h1 h2 h3 h4 => ?_)
  refine lv_dup (ls := ls) (rest := []) (pc := pc + 3) (va := .ref s.heap.size) F.1 F.2.1 d2 rfl ?_
  intro T hT Y
  have htr : e.platform.stackTraces = false := by rw [Y.admits.platform]; exact hl9
  have hcell : T.heap[s.heap.size]? = some (freshCell cC kC) := by rw [hT]; simp
  have hb := F.2.1
  obtain ⟨U, hst, hrun, hend, hW, hsame, ce, hce, hoc⟩ := Y.ctorThrow0 F.1 htr F.2.2.2.1 hfX hfn (zXw_ok hx F.2.2.2.2 hS) (fun x hx => by cases hx) h1 h2 hcell (Nat.le_refl _)
    (g := F0 m (pc + 3 + 1) ls [.ref s.heap.size, .ref s.heap.size]) rfl (by rw [F.2.2.1]; exact hsize) rfl rfl (rest := []) rfl (by rw [hb]; exact d3) (by rw [hb]; exact d4)
    (fun x hx => by
      have h0 : c.exceptionTable.toList = [] := List.eq_nil_of_length_eq_zero (by simpa [Array.isEmpty] using hne)
      rw [h0] at hx
      cases hx) hR1 (by show 2 * 0 + (1 + 0) + _ ≤ _; omega) hlocks
  exact ⟨U, hst, _, hrun, hend, s.heap.size, ce, rfl, Nat.le_refl _, hce, hoc.cls, hoc.vm, hW, hsame⟩
end ZTH
