/-! a call that throws, and its catch -/
def zFinds (e : Env) (s : State) (f : JFrame) (a : Addr) (h : Handler) (vm' : Vm) : Prop :=
  ∀ (Q : Handler → Pre) (E : CtlPost) (d : Bool) (acts : List Action), wp (findHandler f a) Q E e d acts s ↔ Q h d acts (s.setVm vm')
theorem zStepThrowing {e : Env} {s : State} {a : Addr} {f : JFrame} {r : List Frame} {pc : Nat} {vm' : Vm} (hfind : zFinds e s f a (.found pc) vm') :
    (stepThrowing e s a (.java f :: r)).Is ((s.setVm vm').setFrames (.java { f with pc := pc, stack := [.ref a] } :: r)) [] := by
  simp only [stepThrowing, searchFrame, vmDo]
  generalize hr : Sem.go _ e false [] s = res
  obtain ⟨as, rfl, ha⟩ := Sem.eq_ok_of hr (a := Handler.found pc) (s' := s.setVm vm') (acts' := []) (by simp [hfind _ _ _ _])
  exact ⟨rfl, ha⟩
theorem zsfv (u : State) (vm' : Vm) (F G : List Frame) : ((u.setFrames F).setVm vm').setFrames G = (u.setVm vm').setFrames G := by
  have h1 : (u.setFrames F).setVm vm' = (u.setVm vm').setFrames F := rfl
  rw [h1, State.setFrames_setFrames]
theorem zCaught {tb : Tables} {e : Env} {s target : State} {g : JFrame} {c : Code} {below : List Frame} {a : Addr} (h : At s g.method c below) {pc : Nat} {vm' : Vm}
    (hfind : zFinds e ((s.setTop g).pushFrame (.throwing a)) g a (.found pc) vm') (hrest : Steps tb e below ((s.setVm vm').setTop { g with pc := pc, stack := [.ref a] }) target) :
    Steps tb e below ((s.setTop g).pushFrame (.throwing a)) target := by
  obtain ⟨hgo, hw⟩ := h.throwing a
  refine Steps.head hgo hw ?_
  rw [stepThread_throwing (frames_entered h.top _), (zStepThrowing (s := (s.setTop g).pushFrame (.throwing a)) hfind).1]
  obtain ⟨g₀, hg⟩ := Option.isSome_iff_exists.mp h.top
  obtain ⟨r, hr⟩ := State.topJava?_eq_some.mp hg
  have hr' : (s.setVm vm').frames = .java g₀ :: r := hr
  rw [State.setTop_of_frames _ hr'] at hrest
  rw [hr, List.tail_cons, State.pushFrame, zsfv, State.setTop_of_frames _ hr, zsfv]
  exact hrest
/-- a row of the table that is passed; one that takes it -/
def zPass (pl : Platform) (s₀ : State) (d : ClassId) (pc : Nat) (thrown : ClassId) (b : Bool) (y : ExceptionTableEntry) : Prop :=
  covers y pc = true ∧ y.catchType ≠ 0 ∧ ∃ c, s₀.vm.ClassLinks pl d y.catchType c ∧ s₀.vm.assignable thrown c = b
theorem zGoThrough {e : Env} {s₀ : State} {f : JFrame} {a : Addr} {cell : Cell} (hobj : ∀ k, cell.vm ≠ .statics k) (hk0 : ∃ k, s₀.vm.classes[cell.cls]? = some k)
    (x : ExceptionTableEntry) (rest : List ExceptionTableEntry) (hend : zPass e.platform s₀ f.method.cls f.pc cell.cls true x) :
    ∀ (pre : List ExceptionTableEntry) (S : State), s₀.WarmedH S.vm → S.heap[a]? = some cell → (∀ y ∈ pre, zPass e.platform s₀ f.method.cls f.pc cell.cls false y) →
      ∃ vm', s₀.WarmedH vm' ∧ ∀ (Q : Handler → Pre) (E : CtlPost) (d : Bool) (acts : List Action), wp (findHandler.go f a (pre ++ x :: rest)) Q E e d acts S ↔ Q (.found x.handlerPc) d acts (S.setVm vm') := by
  obtain ⟨k0, hk0⟩ := hk0
  intro pre
  induction pre with
  | nil =>
    intro S hW hcell _
    obtain ⟨k0', hk0', -⟩ := hW.alike.2.2 _ _ hk0
    obtain ⟨hx, h0, c, hl, hfit⟩ := hend
    obtain ⟨dk, _, _, kt, hd, _, _, _, _, hkt, _, hopen⟩ := hl.here
    obtain ⟨kt', hkt', -⟩ := hW.alike.2.2 _ _ hkt
    exact ⟨_, hW.noted hd hopen (State.rightAt_cls hl), fun Q E d acts => by
      rw [List.nil_append]
      exact zGo_hit hx h0 (hW.classLinks hl) hcell hobj ⟨k0', hk0'⟩ ⟨kt', hkt'⟩ (by rw [hW.alike.assignable]; exact hfit) Q E d acts⟩
  | cons y ys ih =>
    intro S hW hcell hpass
    obtain ⟨k0', hk0', -⟩ := hW.alike.2.2 _ _ hk0
    have hrest : ∀ z ∈ ys, zPass e.platform s₀ f.method.cls f.pc cell.cls false z := fun z hz => hpass z (List.mem_cons_of_mem _ hz)
    obtain ⟨hcov, h0, c, hl, hno⟩ := hpass y (List.mem_cons_self ..)
    obtain ⟨dk, _, _, kt, hd, _, _, _, _, hkt, _, hopen⟩ := hl.here
    obtain ⟨kt', hkt', -⟩ := hW.alike.2.2 _ _ hkt
    obtain ⟨vm', hW', hq⟩ := ih (S.setVm (S.vm.noted f.method.cls y.catchType (.cls c))) (hW.noted hd hopen (State.rightAt_cls hl)) hcell hrest
    exact ⟨vm', hW', fun Q E d acts => by
      rw [List.cons_append, zGo_miss hcov h0 (hW.classLinks hl) hcell hobj ⟨k0', hk0'⟩ ⟨kt', hkt'⟩ (by rw [hW.alike.assignable]; exact hno)]
      exact hq Q E d acts⟩
theorem zCatches {p : Program} {l : Launch} {e : Env} {R : Room} {s : State} {m₀ : MethodId} {args : Array Value} {below : List Frame} {meth : Method} {c : Code} {T : State} {locs : List Loc} {cells slots : Nat}
    (X : Stand p l e R s m₀ args below meth c T locs cells slots) (a : Addr) {g : JFrame} (hg : g.method = m₀) {cell : Cell} (hcell : T.heap[a]? = some cell) (hobj : cell.vm.isStatics = false)
    (hk0 : ∃ k, s.vm.classes[cell.cls]? = some k)
    (pre : List ExceptionTableEntry) (x : ExceptionTableEntry) (rest : List ExceptionTableEntry) (hsplit : c.exceptionTable.toList = pre ++ x :: rest)
    (hpass : ∀ y ∈ pre, zPass e.platform s m₀.cls g.pc cell.cls false y) (hend : zPass e.platform s m₀.cls g.pc cell.cls true x) :
    ∃ vm', Stand p l e R s m₀ args below meth c (T.setVm vm') locs cells slots ∧
      ∀ target, Steps p.tables e below ((T.setVm vm').setTop { g with pc := x.handlerPc, stack := [.ref a] }) target → Steps p.tables e below ((T.setTop g).pushFrame (.throwing a)) target := by
  subst hg
  obtain ⟨vm', hW', hq⟩ := zGoThrough (e := e) (f := g) (a := a) (VmData.ne_statics_of hobj) hk0 x rest hend pre ((T.setTop g).pushFrame (.throwing a)) X.warmed hcell hpass
  refine ⟨vm', X.noted hW', fun target hrest => ?_⟩
  exact zCaught X.here (fun Q E d acts => by rw [W.findHandler_eq (s := (T.setTop g).pushFrame (.throwing a)) (meth := meth) (code := c) X.method' X.code, hsplit]; exact hq Q E d acts) hrest
/-- a callee that throws a new X -/
theorem zBackT {p : Program} {l : Launch} {e : Env} {R : Room} {s : State} {m : MethodId} {sargs : Array Value} {below : List Frame} {meth : Method} {c : Code} {U : State} {Ls : List Loc} {c0 s0 : Nat}
    {y : MethodName} {ws : List Cond} {rm : Room} {Pc : Array Value → State → Prop} {X0 : String} {bytes : ByteArray} {maxL : Nat} {ret : Option FieldType} {W len : Nat}
    (hM : MetT l y ws rm Pc X0) (hbl : FrameBlind Pc) (hrc : rm.cells = 1) (hrs : rm.slots = 6) (hframes : rm.frames + 1 ≤ R.frames) (hlocals : W + (maxL + 11) + rm.locals ≤ R.locals)
    (hws : ∀ w ∈ ws, ∀ (a' : Array Value) (U : State), s.WarmedH U.vm → w.before a' U = true) (hcode : Cond.code y bytes maxL ret ∈ ws) (hinit : ∀ (a' : Array Value) (U : State), s.WarmedH U.vm → (Cond.initialized y.cls).before a' U = true)
    (X : Stand p l e R s m sargs below meth c U Ls c0 s0) {g : JFrame} {ig : Instr} {mk : MethodId} {a : Array Value} (hg : g.method = m) (hsize : g.locals.size = c.maxLocals) (hdg : decode c.code g.pc = .ok (ig, len))
    (hW : 2 * g.monitorRoom + (g.stack.map fun v => v.category).sum ≤ W) (hn : U.methodNamed? y = some mk) (hf : c0 + 1 ≤ R.cells ∧ s0 + 6 ≤ R.slots) (hP : Pc a U) :
    ∃ (x : Addr) (U' : State) (ce : Cell), Stand p l e R s m sargs below meth c U' Ls (c0 + 1) (s0 + 6) ∧ U.heap.size ≤ x ∧ U'.heap[x]? = some ce ∧ s.vm.findClass X0 = some ce.cls ∧ ce.vm = .none ∧ U.heap.size ≤ U'.heap.size ∧ (∀ q : Nat, q < U.heap.size → U'.heap[q]? = U.heap[q]?) ∧
      Steps p.tables e below (doInvoke e (U.setTop g) [] mk a).1 ((U'.setTop g).pushFrame (.throwing x)) := by
  have h2 := hws _ hcode a U X.warmed
  have h3 := hinit a U X.warmed
  have h1 : (headSpec ws rm).pre.before a U = true := by
    exact atoms_intro fun w hw => hws w hw a U X.warmed
  obtain ⟨methY, cY, hmY, hcY, -, hlY, -, -, -, -⟩ := Cond.code_spec hn h2
  obtain ⟨kY, hkY, -⟩ := className_of_methodNamed hn
  have hinitY : kY.init = .initialized := Cond.initialized_spec (findClass_of_methodNamed hn) hkY h3
  have h : At U g.method c below := by rw [hg]; exact X.here
  have happ : (headSpec ws rm).appliesLoose y e.platform (U.calling g mk a) = true :=
    Spec.appliesLoose_calling (g := g) h hdg hn hkY hinitY
      (X.room_calling (g := g) (R' := (headSpec ws rm).room) hsize hmY hcY hframes (by rw [hlY]; show _ + rm.locals ≤ _; omega) (by show _ + rm.cells ≤ _; omega) (by show _ + rm.slots ≤ _; omega)) h1
  obtain ⟨mid, hmid⟩ := h.above
  have hfr : (U.setTop g).frames = (.java g :: mid) ++ below := by rw [State.frames_setTop' g h.top, hmid]; rfl
  obtain ⟨o, s₂, hsteps, -, hend, hq⟩ := Steps.callFree hM p X.admits X.cas X.clock (acts := []) hfr happ (hbl _ _ g mk hP) trivial
  have hq' : zTE X0 a (U.calling g mk a) o s₂ := hq
  rw [State.frames_setTop' g h.top] at hend
  obtain ⟨v, ce, rfl, hv1, hv2, hv3, hv4, hW₂, hsb⟩ := hq'
  obtain ⟨e2, q2, q3, q4, q5, q6⟩ := id hsb
  have e3 : s₂ = ({ (U.calling g mk a).setFrames s₂.frames with heap := s₂.heap, slotsUsed := s₂.slotsUsed } : State).setVm s₂.vm := by
    have : s₂ = ({ s₂ with vm := (U.calling g mk a).vm } : State).setVm s₂.vm := rfl
    rw [e2] at this
    exact this
  have hf₂ : s₂.frames = .throwing v :: .java g :: U.frames.tail := hend
  have hW' : U.WarmedH s₂.vm := hW₂
  obtain ⟨g₀, hg0⟩ := Option.isSome_iff_exists.mp h.top
  obtain ⟨r, hr⟩ := State.topJava?_eq_some.mp hg0
  have hs₂ : s₂ = ((({ U with heap := s₂.heap, slotsUsed := s₂.slotsUsed } : State).setVm s₂.vm).setTop g).pushFrame (.throwing v) := by
    have hr' : (({ U with heap := s₂.heap, slotsUsed := s₂.slotsUsed } : State).setVm s₂.vm).frames = .java g₀ :: r := hr
    refine e3.trans ?_
    rw [hf₂, State.calling_eq h.top, State.setFrames_setFrames, State.pushFrame, State.frames_setTop _ hr', State.setTop_of_frames _ hr', State.setFrames_setFrames, hr]
    rfl
  have hsame : U.sameButNew ({ U with heap := s₂.heap, slotsUsed := s₂.slotsUsed } : State) [] 1 6 := by
    refine ⟨?_, q2, q3, q4, q5, q6⟩
    obtain ⟨t, ht, -⟩ := State.frames_cons hr
    show ({ U with heap := s₂.heap, slotsUsed := s₂.slotsUsed } : State) = { U.setFrames U.frames with heap := s₂.heap, slotsUsed := s₂.slotsUsed }
    rw [State.setFrames_self ht]
  subst hg
  refine ⟨v, (({ U with heap := s₂.heap, slotsUsed := s₂.slotsUsed } : State).setVm s₂.vm), ce,
    ⟨X.admits, X.cas, X.clock, X.frames, X.room, X.hears, X.method, X.code, (X.here.setHeapUsed s₂.heap s₂.slotsUsed).setVm hW'.alike, X.tail, State.WarmedH.trans X.warmed hW', X.limits, X.bytes, by have := X.same.trans (hsame.setVm s.vm); rwa [List.append_nil] at this⟩, hv1, hv2, ?_, hv4, ?_, fun q hq => same_old hsame q hq, ?_⟩
  · have h9 : U.vm.findClass X0 = some ce.cls := hv3
    rw [X.warmed.alike.findClass] at h9
    exact h9
  · exact q2
  · show Steps p.tables e below _ (((({ U with heap := s₂.heap, slotsUsed := s₂.slotsUsed } : State).setVm s₂.vm).setTop g).pushFrame (.throwing v))
    rw [← hs₂]
    exact hsteps
/-- a row of the table, in the words' form -/
def zRow (h : ExceptionTableEntry) : Nat × Nat × Nat × Nat := (h.startPc, h.endPc, h.handlerPc, h.catchType)
section ZCT
variable {p : Program} {l : Launch} {e : Env} {R : Room} {s : State} {m : MethodId} {args : Array Value} {below : List Frame} {meth : Method} {c : Code} {H : Heap} {locs : List Loc} {cells slots : Nat} {Q : State → Prop}
variable {cc : ByteArray} {pc nL : Nat} {ls : Array Slot} {own : String}
variable {y : MethodName} {b : ByteArray} {mx n idx : Nat} {r : Option FieldType} {rm : Room} {Pc : Array Value → State → Prop} {st : List Value}
theorem z_pass {d : ClassId} {pl : Platform} (hpl : pl.magicAccessors = ({} : Platform).magicAccessors) (hown : s.vm.findClass own = some d) (hts : ∀ w ∈ zT, w.before args s = true) {X nm : String} {cX : ClassId} (hX : s.vm.findClass X = some cX) {y : ExceptionTableEntry} {q : Nat × Nat × Nat × Nat} (hy : zRow y = q) (h1 : q.1 ≤ pc ∧ pc < q.2.1 ∧ q.2.2.2 ≠ 0) (hl : Cond.classLink own q.2.2.2 nm ∈ zT) {bb : Bool} (hb : ∀ c : ClassId, s.vm.findClass nm = some c → s.vm.assignable cX c = bb) : zPass pl s d pc cX bb y := by
  subst hy
  obtain ⟨c', hc', hcl⟩ := Cond.classLink_spec hown (hts _ hl) pl hpl
  refine ⟨?_, h1.2.2, c', hcl, hb c' hc'⟩
  have a1 : y.startPc ≤ pc := h1.1
  have a2 : pc < y.endPc := h1.2.1
  simp [covers, a1, a2]
theorem z_ncl {X nm : String} {cX : ClassId} (hX : s.vm.findClass X = some cX) (h : va_Nc X nm s) : ∀ c : ClassId, s.vm.findClass nm = some c → s.vm.assignable cX c = false := by
  intro c hc
  obtain ⟨c1, t1, h1, h2, h3⟩ := h
  cases hX.symm.trans h1
  cases hc.symm.trans h2
  exact h3
theorem z_ccl {X nm : String} {cX : ClassId} {A : Array Value} (hX : s.vm.findClass X = some cX) (h : (Cond.castable X nm).before A s = true) : ∀ c : ClassId, s.vm.findClass nm = some c → s.vm.assignable cX c = true := by
  intro c hc
  obtain ⟨c1, t1, h1, h2, h3⟩ := Cond.castable_spec h
  cases hX.symm.trans h1
  cases hc.symm.trans h2
  exact h3
/-- a call of a method that throws X; the table's rows hp0 are passed, the row x takes it -/
theorem z_catch (As rest : List Value) {a : Nat} {X : String} (F : CallFix p m c cc nL s args zT own) (hM : MetT l y (zW y b mx r) rm Pc X) (hk : zkV y b mx r n) (hl : Cond.methodLink own idx y ∈ zT) (hrc : rm.cells = 1) (hrs : rm.slots = 6) (hR : rm.frames + 1 ≤ R.frames ∧ 8 + (mx + 11) + rm.locals ≤ R.locals) (hp : PreV s H y.cls a Pc As) (hn : As.length = n) (hsize : ls.size = nL) (hst : st = As.reverse ++ .ref a :: rest) (hW : (rest.map fun v => v.category).sum ≤ 8) (hdg : decode cc pc = .ok (.invokevirtual idx, 3)) (hf : cells + 1 ≤ R.cells ∧ slots + 6 ≤ R.slots)
    {hh : List (Nat × Nat × Nat × Nat)} (htab : c.exceptionTable.toList.map zRow = hh) (pre : List ((Nat × Nat × Nat × Nat) × String)) (x : Nat × Nat × Nat × Nat) (nx : String) (post : List (Nat × Nat × Nat × Nat)) (hsp : hh = pre.map Prod.fst ++ x :: post)
    (hpass : ∀ q ∈ pre, (q.1.1 ≤ pc ∧ pc < q.1.2.1 ∧ q.1.2.2.2 ≠ 0) ∧ Cond.classLink own q.1.2.2.2 q.2 ∈ zT ∧ va_Nc X q.2 s) (hx : (x.1 ≤ pc ∧ pc < x.2.1 ∧ x.2.2.2 ≠ 0) ∧ Cond.classLink own x.2.2.2 nx ∈ zT ∧ (Cond.castable X nx).before #[] s = true)
    (k : ∀ (H1 : Heap) (xa : Nat), H.size ≤ H1.size → (∀ q : Nat, q < H.size → H1[q]? = H[q]?) → W p l e R s m args below meth c H1 locs (cells + 1) (slots + 6) Q (F0 m x.2.2.1 ls [.ref xa])) :
    W p l e R s m args below meth c H locs cells slots Q (F0 m pc ls st) := by
  intro T hT Y
  obtain ⟨⟨⟨hrc', hrs', hfr, hlo, hws, hcw, hcode, hini, hy, hlen, hlk⟩, hin, hse⟩⟩ : PLift (CallW R s args own y.cls idx y b mx r (zW y b mx r) rm 1 6 n) := ⟨cwV n F.2.2.2.2 (zgV hk hl) rfl hrc hrs ⟨rfl, hk.2.2.2⟩ hR⟩
  obtain ⟨hblind, ⟨cellB, hcB, hoB, hclB⟩, hPc⟩ := hp
  obtain ⟨mk, methM, hnamed, hmethM, hstM, habM⟩ := Cond.instanceMethod_spec hin
  obtain ⟨methM', cM, hmethM', -, -, -, -, -, -, hsigM⟩ := Cond.code_spec hnamed hcode
  cases hmethM.symm.trans hmethM'
  obtain ⟨c2, r2, m2, q1, q2, q3, q4, kP, hkP, hkPi⟩ := Cond.selects_spec hse
  cases hclB.symm.trans q1
  cases (State.methodFound?_of_named hnamed hy).symm.trans q2
  cases hnamed.symm.trans q3
  have hselP : selectMethod e.platform s.vm cellB.cls mk = .method mk := by rw [Launch.admits_selectMethod Y.admits]; exact q4
  have hdg' : decode c.code (F0 m pc ls st).pc = .ok (.invokevirtual idx, 3) := by rw [F.2.1]; exact hdg
  obtain ⟨vm₁, X₁, hstep₁⟩ := Y.invokevirtual F.1 F.2.2.2.1 hlk hnamed hmethM hstM hkP hkPi hy (a := a) (cell := cellB) (by rw [hT]; exact hcB)
    (fun z h => by rw [h] at hoB; cases hoB) hselP hmethM habM hkP hkPi (g := F0 m pc ls st) rfl (argsL := As) (rest := rest) (hn.trans (hlen _ hsigM)) hst hdg'
  obtain ⟨xa, U', ce, X', hz, hce, hcl, hvm, hsz, hold, hsteps⟩ := zBackT (W := 8) (bytes := b) (maxL := mx) (ret := r) hM hblind hrc hrs hfr hlo hws hcw (fun a' U hW => word_at hW (Or.inl (by first | rfl | simp [Cond.onTables, Cond.keeps, Cond.steady])) hini) X₁ (g := F0 m pc ls rest) (a := (Value.ref a :: As).toArray) rfl (hsize.trans F.2.2.1.symm) hdg' (lv_room hW) (X₁.named hnamed) hf (hPc (T.setVm vm₁) hT X₁.warmed)
  have hpl : e.platform.magicAccessors = ({} : Platform).magicAccessors := by rw [Y.admits.platform]
  rw [hsp] at htab
  obtain ⟨l1, l2, he1, he2, he3⟩ := List.map_eq_append_iff.mp htab
  obtain ⟨x1, l3, rfl, hx1, hx2⟩ := List.map_eq_cons_iff.mp he3
  have hk0 : ∃ k, s.vm.classes[ce.cls]? = some k := by
    obtain ⟨c', hc', hcl'⟩ := Cond.classLink_spec F.2.2.2.1 (F.2.2.2.2 _ hx.2.1) e.platform hpl
    obtain ⟨dk, _, _, kt, hd, _, _, _, _, hkt, _, hopen⟩ := hcl'.here
    exact Vm.classAt_of_assignable (z_ccl hcl hx.2.2 c' hc') ⟨kt, hkt⟩
  obtain ⟨vm', X2, go⟩ := zCatches X' xa (g := F0 m pc ls rest) rfl hce (by rw [hvm]; rfl) hk0 l1 x1 l3 he1 (fun y0 hy0 => by
      obtain ⟨q, hq, hq1⟩ : ∃ q ∈ pre, q.1 = zRow y0 := by
        have : zRow y0 ∈ pre.map Prod.fst := by rw [← he2]; exact List.mem_map_of_mem hy0
        obtain ⟨q, h1, h2⟩ := List.mem_map.mp this
        exact ⟨q, h1, h2⟩
      obtain ⟨b1, b2, b3⟩ := hpass q hq
      exact z_pass hpl F.2.2.2.1 F.2.2.2.2 hcl hq1.symm b1 b2 (z_ncl hcl b3)) (z_pass hpl F.2.2.2.1 F.2.2.2.2 hcl hx1 hx.1 hx.2.1 (z_ccl hcl hx.2.2))
  have hh1 : x1.handlerPc = x.2.2.1 := by rw [← hx1]; rfl
  obtain ⟨t, a1, b1⟩ := k U'.heap xa (by rw [← hT]; exact hsz) (fun q hq => by rw [← hT] at hq ⊢; exact hold q hq) (U'.setVm vm') rfl X2
  refine ⟨t, hstep₁ _ fun acts => ?_, b1⟩
  rw [doInvoke_state]
  refine hsteps.trans (go t ?_)
  rw [hh1]
  exact a1
end ZCT
