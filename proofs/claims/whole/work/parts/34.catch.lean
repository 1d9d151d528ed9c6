/-! a call that throws, and its catch -/
/-- what the table's rows do with an object of the class k thrown at pc: the first whose class takes it goes to h -/
def zSeeks (pl : Platform) (s₀ : State) (d : ClassId) (pc : Nat) (k : ClassId) (h : Nat) : List ExceptionTableEntry → Prop
  | [] => False
  | x :: t => (covers x pc = true ∧ x.catchType ≠ 0) ∧ ∃ q : ClassId, s₀.vm.ClassLinks pl d x.catchType q ∧ ((s₀.vm.assignable k q = true ∧ x.handlerPc = h) ∨ (s₀.vm.assignable k q = false ∧ zSeeks pl s₀ d pc k h t))
section ZSK
variable {e : Env} {f : JFrame} {a : Addr}
/-- a row's class resolved ahead of the search: the search is the same -/
theorem z_ahead {S : State} {x : ExceptionTableEntry} {t : List ExceptionTableEntry} {q : ClassId} {Q : Handler → Pre} {E : CtlPost} {d : Bool} {acts : List Action}
    (hx : covers x f.pc = true) (h0 : x.catchType ≠ 0) (hl : S.vm.ClassLinks e.platform f.method.cls x.catchType q) :
    wp (findHandler.go f a (x :: t)) Q E e d acts S ↔ wp (findHandler.go f a (x :: t)) Q E e d acts (S.setVm (S.vm.noted f.method.cls x.catchType (.cls q))) := by
  have first := (resolveClass_links e.toSetting hl).op (op := VmOp.resolveClass f.method.cls x.catchType) rfl
  obtain ⟨dk, h1, h2⟩ := hl.ready
  have again := resolveClass_memo e h1 h2
  unfold covers at hx
  simp [findHandler.go, hx, h0, first.1, first.2, again.1, again.2, State.setVm_setVm, VmOp.dirties, VmOp.acts]
theorem z_search {s₀ : State} {cell : Cell} {h : Nat} (hobj : ∀ k, cell.vm ≠ .statics k) (hk : ∃ k, s₀.vm.classes[cell.cls]? = some k) (tbl : List ExceptionTableEntry) :
    ∀ S : State, s₀.WarmedH S.vm → S.heap[a]? = some cell → zSeeks e.platform s₀ f.method.cls f.pc cell.cls h tbl →
      ∃ vm', s₀.WarmedH vm' ∧ ∀ (Q : Handler → Pre) (E : CtlPost) (d : Bool) (acts : List Action), wp (findHandler.go f a tbl) Q E e d acts S ↔ Q (.found h) d acts (S.setVm vm') := by
  induction tbl with
  | nil => exact fun _ _ _ hz => hz.elim
  | cons x t ih =>
    intro S hW hcell hz
    obtain ⟨⟨hx, h0⟩, q, hl, hz⟩ := hz
    obtain ⟨dk, -, -, kq, hd, -, -, -, -, hq, -, hopen⟩ := hl.here
    have hlS := hW.classLinks hl
    have hW1 : s₀.WarmedH (S.setVm (S.vm.noted f.method.cls x.catchType (.cls q))).vm := hW.noted hd hopen (State.rightAt_cls hl)
    have inTable : ∀ {z : ClassId}, (∃ k, s₀.vm.classes[z]? = some k) → ∃ k, (S.setVm (S.vm.noted f.method.cls x.catchType (.cls q))).vm.classes[z]? = some k := fun ⟨k, hk⟩ => (hW1.alike.2.2 _ _ hk).imp fun _ w => w.1
    have one : ∀ (Q : Handler → Pre) (E : CtlPost) (d : Bool) (acts : List Action), wp (findHandler.go f a (x :: t)) Q E e d acts S ↔ if s₀.vm.assignable cell.cls q = true then Q (.found x.handlerPc) d acts (S.setVm (S.vm.noted f.method.cls x.catchType (.cls q))) else wp (findHandler.go f a t) Q E e d acts (S.setVm (S.vm.noted f.method.cls x.catchType (.cls q))) := fun Q E d acts => by
      have w := W.findHandler_go_class (Q := Q) (E := E) (e := e) (d := d) (acts := acts) (s := S.setVm (S.vm.noted f.method.cls x.catchType (.cls q))) (f := f) (a := a) (t := t) hx h0 hlS.ready hcell hobj (inTable hk) (inTable ⟨kq, hq⟩)
      rw [hW1.alike.assignable] at w
      exact (z_ahead hx h0 hlS).trans w
    rcases hz with ⟨hfit, rfl⟩ | ⟨hno, hz⟩
    · exact ⟨_, hW1, fun Q E d acts => by rw [one, if_pos hfit]; exact Iff.rfl⟩
    · obtain ⟨vm', hW', w⟩ := ih _ hW1 hcell hz
      exact ⟨vm', hW', fun Q E d acts => by rw [one, if_neg (by rw [hno]; decide)]; exact w Q E d acts⟩
end ZSK
section ZTK
variable {p : Program} {l : Launch} {e : Env} {R : Room} {s : State} {m : MethodId} {args : Array Value} {below : List Frame} {meth : Method} {c : Code} {U : State} {locs : List Loc} {cells slots : Nat}
theorem z_over {V : State} {g0 : JFrame} {F : List Frame} (hV : V.frames = .java g0 :: F) (g : JFrame) (x : Frame) : (V.setTop g).pushFrame x = V.setFrames (x :: .java g :: F) := by
  rw [State.pushFrame, State.frames_setTop g hV, State.setTop_of_frames g hV, State.setFrames_setFrames]
/-- the walk goes on where its frames stand over warmer tables and over a heap that has only grown -/
theorem z_grown (X : Stand p l e R s m args below meth c U locs cells slots) {V : State} {k n : Nat} (hW : U.WarmedH V.vm) (hf : V.frames = U.frames) (hs : U.sameButNew (V.setVm U.vm) [] k n) :
    Stand p l e R s m args below meth c V locs (cells + k) (slots + n) := by
  obtain ⟨g0, hU⟩ := X.frames_eq
  obtain ⟨th, hth, -⟩ := State.frames_cons hU
  have hV : V = ({ U with heap := V.heap, slotsUsed := V.slotsUsed } : State).setVm V.vm := by
    have h2 := hs.1
    rw [show (V.setVm U.vm).frames = U.frames from hf, State.setFrames_self hth] at h2
    have h4 := congrArg (fun z : State => z.setVm V.vm) h2
    exact h4
  have h3 := X.moved (T₂ := V) (by rw [hV]; exact (X.here.setHeapUsed _ _).setVm hW.alike) (by rw [hf]; exact X.tail) (by rw [hV]; rfl) (by rw [hV]; rfl) hW hs
  rwa [List.append_nil] at h3
/-- a search that ends at h: the next step lays the frame there -/
theorem z_takes (X : Stand p l e R s m args below meth c U locs cells slots) {g : JFrame} (hg : g.method = m) {a : Addr} {h : Nat} {vm' : Vm}
    (hw : ∀ (Q : Handler → Pre) (E : CtlPost) (d : Bool) (acts : List Action), wp (findHandler g a) Q E e d acts ((U.setTop g).pushFrame (.throwing a)) ↔ Q (.found h) d acts (((U.setTop g).pushFrame (.throwing a)).setVm vm')) {target : State}
    (go : Steps p.tables e below ((U.setVm vm').setTop { g with pc := h, stack := [.ref a] }) target) : Steps p.tables e below ((U.setTop g).pushFrame (.throwing a)) target := by
  have hat : At U g.method c below := by rw [hg]; exact X.here
  obtain ⟨g0, hU⟩ := X.frames_eq
  have step : (stepThread p.tables e ((U.setTop g).pushFrame (.throwing a))).1 = (U.setVm vm').setTop { g with pc := h, stack := [.ref a] } := by
    rw [stepThread_throwing (frames_entered hat.top _), hU, State.setTop_of_frames _ (show (U.setVm vm').frames = _ from hU)]
    show (searchFrame e ((U.setTop g).pushFrame (.throwing a)) [] a g g below).1 = _
    unfold searchFrame vmDo
    generalize hr : Sem.go _ e false [] ((U.setTop g).pushFrame (.throwing a)) = r
    obtain ⟨as, rfl, -⟩ := Sem.eq_ok_of hr (a := Handler.found h) (s' := ((U.setTop g).pushFrame (.throwing a)).setVm vm') (acts' := []) (by simp [hw])
    show (((U.setTop g).pushFrame (.throwing a)).setVm vm').setFrames _ = _
    rw [z_over hU]
    exact State.setFrames_setFrames (U.setVm vm') _ _
  exact Steps.head (hat.throwing a).1 (hat.throwing a).2 (by rw [step]; exact go)
/-- behind a callee that throws a new Y: what its caller has -/
theorem z_threw {y : MethodName} {ws : List Cond} {rm : Room} {Pc : Array Value → State → Prop} {Y : String} {bytes : ByteArray} {maxL : Nat} {ret : Option FieldType} {K len : Nat}
    (hM : MetT l y ws rm Pc Y) (hbl : FrameBlind Pc) (hrm : rm.cells = 1 ∧ rm.slots = 6) (hR : rm.frames + 1 ≤ R.frames ∧ K + (maxL + 11) + rm.locals ≤ R.locals)
    (hws : ∀ w ∈ ws, ∀ (a' : Array Value) (U : State), s.WarmedH U.vm → w.before a' U = true) (hcode : Cond.code y bytes maxL ret ∈ ws) (hinit : (Cond.initialized y.cls).before args U = true)
    (X : Stand p l e R s m args below meth c U locs cells slots) {g : JFrame} (hg : g.method = m) (hsize : g.locals.size = c.maxLocals) {i : Instr} (hd : decode c.code g.pc = .ok (i, len)) (hK : 2 * g.monitorRoom + (g.stack.map fun v => v.category).sum ≤ K)
    {mk : MethodId} {a : Array Value} (hn : U.methodNamed? y = some mk) (hf : cells + 1 ≤ R.cells ∧ slots + 6 ≤ R.slots) (hP : Pc a U) :
    ∃ (x : Addr) (V : State) (ce : Cell), Stand p l e R s m args below meth c V locs (cells + 1) (slots + 6) ∧ V.heap[x]? = some ce ∧ s.vm.findClass Y = some ce.cls ∧ ce.vm = .none ∧ U.heap.size ≤ V.heap.size ∧ (∀ q : Nat, q < U.heap.size → V.heap[q]? = U.heap[q]?) ∧
      Steps p.tables e below (doInvoke e (U.setTop g) [] mk a).1 ((V.setTop g).pushFrame (.throwing x)) := by
  obtain ⟨g0, hU⟩ := X.frames_eq
  obtain ⟨th, hth, -⟩ := State.frames_cons hU
  have hat : At U g.method c below := by rw [hg]; exact X.here
  obtain ⟨mY, cY, hmY, hcY, -, hlY, -⟩ := Cond.code_spec hn (hws _ hcode a U X.warmed)
  obtain ⟨kY, hkY, -⟩ := className_of_methodNamed hn
  have hap := Spec.appliesLoose_calling (S := headSpec ws rm) (args := a) hat hd hn hkY (Cond.initialized_spec (findClass_of_methodNamed hn) hkY hinit)
    (X.room_calling (R' := rm) hsize hmY hcY hR.1 (by rw [hlY]; omega) (by rw [hrm.1]; exact hf.1) (by rw [hrm.2]; exact hf.2)) (atoms_intro fun w hw => hws w hw a U X.warmed)
  obtain ⟨o, t, run, -, hend, x, ce, rfl, -, hce, hY, hvm, hW, hs⟩ := Steps.callFree hM p X.admits X.cas X.clock (acts := []) (mid := [.java g]) (below := below) (State.frames_setTop g hU) hap (hbl _ _ g mk hP) trivial
  have ht : t.frames = .throwing x :: .java g :: below := by
    have h1 : t.frames = .throwing x :: (U.setTop g).frames := hend
    rw [h1, State.frames_setTop g hU]
  obtain ⟨tt, htt, -⟩ := State.frames_cons ht
  have hVf : (t.setFrames U.frames).frames = U.frames := State.frames_setFrames _ (State.cur_lt_of_frames ht)
  have hs1 : (U.setFrames (.invoking mk a :: .java g :: below)).sameButNew ({ t with vm := U.vm } : State) [] 1 6 := by
    rw [← z_over hU]
    exact hs
  have hs2 : U.sameButNew ((t.setFrames U.frames).setVm U.vm) [] 1 6 :=
    (((State.sameButNew.refl U hth).setFrames (.invoking mk a :: .java g :: below) (State.cur_lt_of_frames hU)).trans hs1).setFrames U.frames (State.cur_lt_of_frames hU)
  refine ⟨x, t.setFrames U.frames, ce, z_grown X hW hVf hs2, hce, ?_, hvm, hs2.2.1, fun q hq => ?_, ?_⟩
  · rw [← X.warmed.alike.findClass]
    exact hY
  · rw [Array.getElem?_eq_getElem hq]
    exact hs2.old_cell (Array.getElem?_eq_getElem hq)
  · rw [z_over (hVf.trans hU), State.setFrames_setFrames, ← ht, State.setFrames_self htt]
    exact run
end ZTK
/-- a row of the table, in the words' form -/
def zRow (h : ExceptionTableEntry) : Nat × Nat × Nat × Nat := (h.startPc, h.endPc, h.handlerPc, h.catchType)
section ZCT
variable {p : Program} {l : Launch} {e : Env} {R : Room} {s : State} {m : MethodId} {args : Array Value} {below : List Frame} {meth : Method} {c : Code} {H : Heap} {locs : List Loc} {cells slots : Nat} {Q : State → Prop}
variable {cc : ByteArray} {pc nL : Nat} {ls : Array Slot} {own : String}
variable {y : MethodName} {b : ByteArray} {mx n idx : Nat} {r : Option FieldType} {rm : Room} {Pc : Array Value → State → Prop} {st : List Value}
theorem z_ncl {X nm : String} {cX : ClassId} (hX : s.vm.findClass X = some cX) (h : va_Nc X nm s) : ∀ c : ClassId, s.vm.findClass nm = some c → s.vm.assignable cX c = false := by
  intro c hc
  obtain ⟨c1, t1, h1, h2, h3⟩ := h
  cases hX.symm.trans h1
  cases hc.symm.trans h2
  exact h3
theorem z_ccl {X nm : String} {cX : ClassId} {A : Array Value} (hX : s.vm.findClass X = some cX) (h : (Cond.castable X nm).before A s = true) : ∀ c : ClassId, s.vm.findClass nm = some c → s.vm.assignable cX c = true := by
  intro c hc
  obtain ⟨c1, t1, h1, h2, h3⟩ := Cond.castable_spec h
  cases hX.symm.trans h1
  cases hc.symm.trans h2
  exact h3
/-- the rows out of the words: those of pre are passed, x takes it -/
theorem z_rows {pl : Platform} {d : ClassId} (hpl : pl.magicAccessors = ({} : Platform).magicAccessors) (hown : s.vm.findClass own = some d) (hts : ∀ w ∈ zT, w.before args s = true) {X : String} {cX : ClassId} (hX : s.vm.findClass X = some cX)
    {x : Nat × Nat × Nat × Nat} {nx : String} {post : List (Nat × Nat × Nat × Nat)} (hx : (x.1 ≤ pc ∧ pc < x.2.1 ∧ x.2.2.2 ≠ 0) ∧ Cond.classLink own x.2.2.2 nx ∈ zT ∧ (Cond.castable X nx).before #[] s = true) (pre : List ((Nat × Nat × Nat × Nat) × String)) :
    ∀ tb : List ExceptionTableEntry, tb.map zRow = pre.map Prod.fst ++ x :: post → (∀ q ∈ pre, (q.1.1 ≤ pc ∧ pc < q.1.2.1 ∧ q.1.2.2.2 ≠ 0) ∧ Cond.classLink own q.1.2.2.2 q.2 ∈ zT ∧ va_Nc X q.2 s) → zSeeks pl s d pc cX x.2.2.1 tb := by
  have cov : ∀ z : ExceptionTableEntry, z.startPc ≤ pc → pc < z.endPc → covers z pc = true := fun z h1 h2 => by simp [covers, h1, h2]
  induction pre with
  | nil =>
    intro tb ht _
    cases tb with
    | nil => cases ht
    | cons z tb =>
      obtain rfl : zRow z = x := (List.cons.inj ht).1
      obtain ⟨k, hk, hl⟩ := Cond.classLink_spec hown (hts _ hx.2.1) pl hpl
      exact ⟨⟨cov z hx.1.1 hx.1.2.1, hx.1.2.2⟩, k, hl, Or.inl ⟨z_ccl hX hx.2.2 k hk, rfl⟩⟩
  | cons q pre ih =>
    intro tb ht hp
    cases tb with
    | nil => cases ht
    | cons z tb =>
      obtain ⟨h1, h2⟩ := List.cons.inj ht
      have h3 := hp q List.mem_cons_self
      have h4 : zRow z = q.1 := h1
      rw [← h4] at h3
      obtain ⟨k, hk, hl⟩ := Cond.classLink_spec hown (hts _ h3.2.1) pl hpl
      exact ⟨⟨cov z h3.1.1 h3.1.2.1, h3.1.2.2⟩, k, hl, Or.inr ⟨z_ncl hX h3.2.2 k hk, ih tb h2 (fun w hw => hp w (List.mem_cons_of_mem _ hw))⟩⟩
/-- a call of a method that throws X; the table's rows of pre are passed, the row x takes it -/
theorem z_catch (As rest : List Value) {a : Nat} {X : String} (F : CallFix p m c cc nL s args zT own) (hM : MetT l y (zW y b mx r) rm Pc X) (hk : zkV y b mx r n) (hl : Cond.methodLink own idx y ∈ zT) (hrc : rm.cells = 1) (hrs : rm.slots = 6) (hR : rm.frames + 1 ≤ R.frames ∧ 8 + (mx + 11) + rm.locals ≤ R.locals) (hp : PreV s H y.cls a Pc As) (hn : As.length = n) (hsize : ls.size = nL) (hst : st = As.reverse ++ .ref a :: rest) (hW : (rest.map fun v => v.category).sum ≤ 8) (hdg : decode cc pc = .ok (.invokevirtual idx, 3)) (hf : cells + 1 ≤ R.cells ∧ slots + 6 ≤ R.slots)
    {hh : List (Nat × Nat × Nat × Nat)} (htab : c.exceptionTable.toList.map zRow = hh) (pre : List ((Nat × Nat × Nat × Nat) × String)) (x : Nat × Nat × Nat × Nat) (nx : String) (post : List (Nat × Nat × Nat × Nat)) (hsp : hh = pre.map Prod.fst ++ x :: post)
    (hpass : ∀ q ∈ pre, (q.1.1 ≤ pc ∧ pc < q.1.2.1 ∧ q.1.2.2.2 ≠ 0) ∧ Cond.classLink own q.1.2.2.2 q.2 ∈ zT ∧ va_Nc X q.2 s) (hx : (x.1 ≤ pc ∧ pc < x.2.1 ∧ x.2.2.2 ≠ 0) ∧ Cond.classLink own x.2.2.2 nx ∈ zT ∧ (Cond.castable X nx).before #[] s = true)
    (k : ∀ (H1 : Heap) (xa : Nat), H.size ≤ H1.size → (∀ q : Nat, q < H.size → H1[q]? = H[q]?) → W p l e R s m args below meth c H1 locs (cells + 1) (slots + 6) Q (F0 m x.2.2.1 ls [.ref xa])) :
    W p l e R s m args below meth c H locs cells slots Q (F0 m pc ls st) := by
  intro T hT Y
  obtain ⟨hex, hcc, hnL, hown, hts⟩ := F
  obtain ⟨⟨⟨-, -, -, -, hws, hcw, hcode, hini, hy, hlen, hlk⟩, hin, hse⟩⟩ : PLift (CallW R s args own y.cls idx y b mx r (zW y b mx r) rm 1 6 n) := ⟨cwV n hts (zgV hk hl) rfl hrc hrs ⟨rfl, hk.2.2.2⟩ hR⟩
  obtain ⟨hblind, ⟨ca, hca, hobj, hcls⟩, hPc⟩ := hp
  obtain ⟨mk, mM, hnamed, hmM, hstM, habM⟩ := Cond.instanceMethod_spec hin
  obtain ⟨mM', -, hmM', -, -, -, -, -, -, hsig⟩ := Cond.code_spec hnamed hcode
  cases hmM.symm.trans hmM'
  obtain ⟨c2, r2, m2, hc2, hr2, hm2, hsel, kP, hkP, hface⟩ := Cond.selects_spec hse
  cases hcls.symm.trans hc2
  cases (State.methodFound?_of_named hnamed hy).symm.trans hr2
  cases hnamed.symm.trans hm2
  have hd : decode c.code (F0 m pc ls st).pc = .ok (.invokevirtual idx, 3) := by rw [hcc]; exact hdg
  obtain ⟨vm₁, X₁, into⟩ := Y.invokevirtual hex hown hlk hnamed hmM hstM hkP hface hy (a := a) (cell := ca) (by rw [hT]; exact hca) (fun z h => by rw [h] at hobj; cases hobj)
    ((Launch.admits_selectMethod Y.admits ..).trans hsel) hmM habM hkP hface (g := F0 m pc ls st) rfl (argsL := As) (rest := rest) (hn.trans (hlen _ hsig)) hst hd
  obtain ⟨xa, V, ce, X', hce, hX, hvm, hsz, hold, back⟩ := z_threw (K := 8) (bytes := b) (maxL := mx) (ret := r) hM hblind ⟨hrc, hrs⟩ hR hws hcw (word_at X₁.warmed (Or.inl (by first | rfl | simp [Cond.onTables, Cond.keeps, Cond.steady])) hini) X₁ (g := F0 m pc ls rest) (a := (Value.ref a :: As).toArray) rfl (hsize.trans hnL.symm) hd (lv_room hW) (X₁.named hnamed) hf (hPc (T.setVm vm₁) hT X₁.warmed)
  obtain ⟨vm', hW', found⟩ := z_search (e := e) (f := F0 m pc ls rest) (a := xa) (VmData.ne_statics_of (by rw [hvm]; rfl)) (Vm.classAt_of_findClass hX) c.exceptionTable.toList ((V.setTop (F0 m pc ls rest)).pushFrame (.throwing xa)) X'.warmed hce
    (z_rows (by rw [Y.admits.platform]) hown hts hX hx pre c.exceptionTable.toList (htab.trans hsp) hpass)
  obtain ⟨t, a1, b1⟩ := k V.heap xa (by rw [← hT]; exact hsz) (fun q hq => by rw [← hT] at hq ⊢; exact hold q hq) (V.setVm vm') rfl (X'.noted hW')
  refine ⟨t, into _ fun acts => ?_, b1⟩
  rw [doInvoke_state]
  exact back.trans (z_takes X' rfl (fun Q E d acts => (W.findHandler_eq (s := (V.setTop (F0 m pc ls rest)).pushFrame (.throwing xa)) (f := F0 m pc ls rest) (meth := meth) (code := c) X'.method' X'.code).trans (found Q E d acts)) a1)
end ZCT
