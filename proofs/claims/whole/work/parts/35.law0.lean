/-! the law's own methods that catch: their words, their calls; calls that have a part of the world -/
def zWW (y : MethodName) (b : ByteArray) (n : Nat) (r : Option FieldType) (hh : List (Nat × Nat × Nat × Nat)) : List Cond := .codeWith y b n r hh :: zT
def zkSW (y : MethodName) (b : ByteArray) (mx : Nat) (r : Option FieldType) (hh : List (Nat × Nat × Nat × Nat)) (n : Nat) : Prop := Cond.static y ∈ zT ∧ Cond.initialized y.cls ∈ zT ∧ Cond.codeWith y b mx r hh ∈ zT ∧ y.cls ≠ "java/lang/invoke/MethodHandle" ∧ y.cls ≠ "java/lang/invoke/VarHandle" ∧ (parseMethodDescriptor y.desc).map (fun d => d.parameters.length) = some n
theorem z_table {p : Program} {l : Launch} {y : MethodName} {rm : Room} {cc : ByteArray} {mx : Nat} {r : Option FieldType} {hh : List (Nat × Nat × Nat × Nat)} {e : Env} {s : State} {m : MethodId} {args : Array Value} {below : List Frame} {meth : Method} {c : Code} {s₁ : State} (B : BodyLoose p l y (headSpec (zWW y cc mx r hh) rm) cc mx r e s m args below meth c s₁) : c.exceptionTable.toList.map zRow = hh := by
  obtain ⟨m9, meth9, c9, hn9, h1, h2, -, -, h3, -⟩ := Cond.codeWith_spec (atoms_spec (ws := zWW y cc mx r hh) B.pre _ List.mem_cons_self)
  cases B.named.symm.trans hn9
  cases B.method.symm.trans h1
  cases (Stand.of_body B).code.symm.trans h2
  exact h3
section ZLW
variable {p : Program} {l : Launch} {e : Env} {R : Room} {s : State} {m : MethodId} {args : Array Value} {below : List Frame} {meth : Method} {c : Code} {H : Heap} {locs : List Loc} {cells slots : Nat} {Q : State → Prop}
variable {cc : ByteArray} {pc nL : Nat} {ls : Array Slot} {own : String}
variable {y : MethodName} {b : ByteArray} {mx n idx mc ms : Nat} {r : Option FieldType} {hh : List (Nat × Nat × Nat × Nat)} {rm : Room} {Pc : Array Value → State → Prop} {Qc : Array Value → State → Outcome → State → Prop} {free : Addr → Prop} {st : List Value}
theorem z_runSW (As rest : List Value) (F : CallFix p m c cc nL s args zT own) (hM : Met l y (zWW y b mx r hh) rm Pc Qc mc ms free) (hk : zkSW y b mx r hh n) (hl : Cond.methodLink own idx y ∈ zT) (hrc : rm.cells = mc) (hrs : rm.slots = ms) (hR : rm.frames + 1 ≤ R.frames ∧ 8 + (mx + 11) + rm.locals ≤ R.locals) (hp : PreS s H Pc As) (hn : As.length = n) (hsize : ls.size = nL) (hst : st = As.reverse ++ rest) (hW : (rest.map fun v => v.category).sum ≤ 8) (hdg : decode cc pc = .ok (.invokestatic idx, 3)) (hf : cells + mc ≤ R.cells ∧ slots + ms ≤ R.slots) :
    va_Run p l e R s m args below meth c H locs cells slots mc ms (F0 m pc ls st) rest (Qc As.toArray) free := by
  obtain ⟨hex, hcc, hnL, hown, hts⟩ := F
  obtain ⟨hstat, hcls, hcw, hy1, hy2, hlen⟩ := hk
  have hini : (Cond.initialized y.cls).before args s = true := hts _ hcls
  have hK : Back l R p e below s args y 3 8 (PreOf R mc ms Pc) (PostOf Qc mc ms free) := va_backW (hh := hh) (bytes := b) (maxL := mx) (ret := r) hM hp.1 hrc hrs hR.1 hR.2 (pay_in hts (zg_of (fun w hw => (List.mem_cons.mp hw).elim (fun e => e ▸ hcw) id))) List.mem_cons_self (fun a' U hW => word_at hW (Or.inl (by first | rfl | simp [Cond.onTables, Cond.keeps, Cond.steady])) hini)
  intro T hT X
  obtain ⟨mk, mM, cM, hnamed, hmM, -, -, -, -, -, -, hsig⟩ := Cond.codeWith_spec (hts _ hcw)
  obtain ⟨v, vm₁, B, hW₁, X', ⟨g', mk', t, L, e1, e2, hq, h1, hL, h2, h3⟩, goes⟩ := X.staticBack hex hown (hts _ hl) (hts _ hstat) hini hnamed hmM hsig ⟨hy1, hy2⟩ hK (g := F0 m pc ls st) rfl (hsize.trans hnL.symm) (Steps.refl _) (argsL := As) (rest := rest)
    (fun sig h => by rw [h] at hlen; exact hn.trans (Option.some.inj hlen).symm) hst (lv_room hW) (by rw [hcc]; exact hdg) (fun vm₁ hW₁ => ⟨hf.1, hf.2, hp.2 (T.setVm vm₁) hT hW₁⟩)
  rw [h1, h2, h3] at X'
  exact ⟨v, (T.setVm vm₁).calling g' mk' As.toArray, t, B.U, L, hT, X', hL, e1, e2, hq, fun target h => goes.trans h⟩
end ZLW
section ZLP
variable {p : Program} {l : Launch} {e : Env} {R : Room} {s : State} {m : MethodId} {args : Array Value} {below : List Frame} {meth : Method} {c : Code} {H : Heap} {locs : List Loc} {cells slots : Nat} {Q : State → Prop}
variable {cc : ByteArray} {pc nL : Nat} {ls : Array Slot} {rest : List Value} {own : String}
variable {D : va_G} {cl : List vw_C} {A : Nat → Prop} {tys : List (ClassId × FieldType)} {H0 : Heap}
theorem z_left {w1 w2 : va_W} (h : va_P D cl (w1 ++ w2) H) : va_P D cl w1 H := fun k q hk => h k q (by rw [List.getElem?_append_left (List.getElem?_eq_some_iff.mp hk).1]; exact hk)
theorem z_right {w1 w2 : va_W} (h : va_P D cl (w1 ++ w2) H) : va_P D cl w2 H := fun k q hk => h (w1.length + k) q (by rw [List.getElem?_append_right (Nat.le_add_right _ _), Nat.add_sub_cancel_left]; exact hk)
theorem z_leftD {w1 w2 : va_W} (h : va_D A (w1 ++ w2)) : va_D A w1 := by
  have e : ∀ (k : Nat) (q : Nat × va_E), w1[k]? = some q → (w1 ++ w2)[k]? = some q := fun k q hk => by rw [List.getElem?_append_left (List.getElem?_eq_some_iff.mp hk).1]; exact hk
  exact ⟨fun i j p q hi hj he => h.1 i j p q (e i p hi) (e j q hj) he, fun k q hk => h.2 k q (e k q hk)⟩
theorem z_rightD {w1 w2 : va_W} (h : va_D A (w1 ++ w2)) : va_D A w2 := by
  have e : ∀ (k : Nat) (q : Nat × va_E), w2[k]? = some q → (w1 ++ w2)[w1.length + k]? = some q := fun k q hk => by rw [List.getElem?_append_right (Nat.le_add_right _ _), Nat.add_sub_cancel_left]; exact hk
  exact ⟨fun i j p q hi hj he => by have := h.1 _ _ p q (e i p hi) (e j q hj) he; omega, fun k q hk => h.2 _ q (e k q hk)⟩
theorem z_apart {w1 w2 : va_W} (h : va_D A (w1 ++ w2)) : ∀ (i j : Nat) (p q : Nat × va_E), w1[i]? = some p → w2[j]? = some q → p.1 ≠ q.1 := by
  intro i j p q hi hj he
  have hl := (List.getElem?_eq_some_iff.mp hi).1
  have := h.1 i (w1.length + j) p q (by rw [List.getElem?_append_left hl]; exact hi) (by rw [List.getElem?_append_right (Nat.le_add_right _ _), Nat.add_sub_cancel_left]; exact hj) he
  omega
/-- a world's cells are in the heap -/
theorem z_inheap {ws : va_W} (h : va_P D cl ws H) {k : Nat} {q : Nat × va_E} (hk : ws[k]? = some q) : q.1 < H.size := by
  exact (h k q hk).lt
/-- behind a call that had the middle of the world -/
theorem z_callME {S : Type} {st : List Value} {av : Array Value} {r : Option Value} {wf : S → va_W} {wa wc wb : va_W} {mc ms : Nat} (hr : va_Run p l e R s m args below meth c H locs cells slots mc ms (F0 m pc ls st) rest (z_QE D cl tys r wf (va_A wc H.size) av) (va_A wc H.size)) (hP : va_P D cl (wa ++ (wc ++ wb)) H) (hD : va_D A (wa ++ (wc ++ wb))) (hS : va_S A H0 H locs) (hA : ∀ q, H0.size ≤ q → A q)
    (k : ∀ (u : S) (H1 : Heap) (locs1 : List Loc), va_P D cl (wa ++ (wf u ++ wb)) H1 → va_D A (wa ++ (wf u ++ wb)) → va_S A H0 H1 locs1 → W p l e R s m args below meth c H1 locs1 (cells + mc) (slots + ms) Q (F0 m (pc + 3) ls (r.toList ++ rest))) : W p l e R s m args below meth c H locs cells slots Q (F0 m pc ls st) := by
  intro T hT X
  obtain ⟨v, st₀, t, T', L, h0, X', hL, e1, e2, ⟨u, hv, hp, hk, hd, hz, hkp⟩, go⟩ := hr T hT X
  cases hv
  rw [h0] at hz hkp
  have hDr := z_rightD hD
  have hin : ∀ q, va_A wc H.size q → A q := by
    intro q h
    rcases h with ⟨k, e, h⟩ | h
    · exact (z_leftD hDr).2 k _ h
    · exact hA q (Nat.le_trans hS.1 h)
  -- the other cells stay
  have same : ∀ q : Nat, q < H.size → (∀ (k : Nat) (e : va_E), wc[k]? ≠ some (q, e)) → t.heap[q]? = H[q]? := fun q h1 h2 => hkp q h1 (fun z => by
    rcases z with ⟨k, e, h⟩ | h
    · exact h2 k e h
    · omega)
  have hPa := z_left hP
  have hPb := z_right (z_right hP)
  have ha : va_P D cl wa t.heap := hPa.kept (fun k q hk => same q.1 (z_inheap hPa hk) (fun k2 e h => z_apart hD k k2 q (q.1, e) hk (by rw [List.getElem?_append_left (List.getElem?_eq_some_iff.mp h).1]; exact h) rfl))
  have hb : va_P D cl wb t.heap := hPb.kept (fun k q hk => same q.1 (z_inheap hPb hk) (fun k2 e h => z_apart hDr k2 k (q.1, e) q h hk rfl))
  have ap : ∀ (x : Nat × va_E) (j : Nat) (q : Nat × va_E), x.1 < H.size → (∀ (k : Nat) (e : va_E), wc[k]? ≠ some (x.1, e)) → (wf u)[j]? = some q → x.1 ≠ q.1 := by
    intro x j q h1 h2 h3 he
    rcases hd.2 j q h3 with ⟨k, e, h⟩ | h
    · exact h2 k e (he ▸ h)
    · omega
  have hP1 : va_P D cl (wa ++ (wf u ++ wb)) t.heap := ha.app (hp.app hb)
  have hDm : va_D A (wf u) := hd.weaken (fun _ q _ h => hin q.1 h)
  have hD1 : va_D A (wa ++ (wf u ++ wb)) := by
    refine (z_leftD hD).app (hDm.app (z_rightD hDr) ?_) ?_
    · intro i j x q hx hq he
      exact ap q i x (z_inheap hPb hq) (fun k2 e h => z_apart hDr k2 j (q.1, e) q h hq rfl) hx he.symm
    · intro i j x q hx hq
      rcases List.mem_append.mp (List.mem_of_getElem? hq) with h | h
      · obtain ⟨j2, h2⟩ := List.getElem?_of_mem h
        exact ap x j2 q (z_inheap hPa hx) (fun k2 e h => z_apart hD i k2 x (x.1, e) hx (by rw [List.getElem?_append_left (List.getElem?_eq_some_iff.mp h).1]; exact h) rfl) h2
      · obtain ⟨j2, h2⟩ := List.getElem?_of_mem h
        exact z_apart hD i (wc.length + j2) x q hx (by rw [List.getElem?_append_right (Nat.le_add_right _ _), Nat.add_sub_cancel_left]; exact h2)
  obtain ⟨t2, a1, b1⟩ := k u T'.heap (locs ++ L) (by rw [e1]; exact hP1) hD1
    ⟨Nat.le_trans hS.1 (by rw [e1]; exact hz), fun q h1 h2 => by rw [e1, hkp q (Nat.lt_of_lt_of_le h1 hS.1) (fun z => h2 (hin q z))]; exact hS.2.1 q h1 h2, fun q hq => by
      rcases List.mem_append.mp hq with h | h
      · exact hS.2.2 q h
      · exact hin _ (hL q h)⟩ T' rfl X'
  exact ⟨t2, go t2 a1, b1⟩
theorem z_callM {st : List Value} {av : Array Value} {r : Option Value} {wa wc wb wd : va_W} {mc ms : Nat} (hr : va_Run p l e R s m args below meth c H locs cells slots mc ms (F0 m pc ls st) rest (z_Q D cl tys r wd (va_A wc H.size) av) (va_A wc H.size)) (hP : va_P D cl (wa ++ (wc ++ wb)) H) (hD : va_D A (wa ++ (wc ++ wb))) (hS : va_S A H0 H locs) (hA : ∀ q, H0.size ≤ q → A q)
    (k : ∀ (H1 : Heap) (locs1 : List Loc), va_P D cl (wa ++ (wd ++ wb)) H1 → va_D A (wa ++ (wd ++ wb)) → va_S A H0 H1 locs1 → W p l e R s m args below meth c H1 locs1 (cells + mc) (slots + ms) Q (F0 m (pc + 3) ls (r.toList ++ rest))) : W p l e R s m args below meth c H locs cells slots Q (F0 m pc ls st) := by
  refine z_callME (S := Unit) (tys := tys) (wf := fun _ => wd) (av := av) ?_ hP hD hS hA (fun _ => k)
  intro T hT X
  obtain ⟨v, st₀, t, T', L, h0, X', hL, e1, e2, hq, go⟩ := hr T hT X
  exact ⟨v, st₀, t, T', L, h0, X', hL, e1, e2, ⟨(), hq⟩, go⟩
/-- what a call finds that has the middle of the world -/
theorem z_preMP {As : List Value} {b q0 ci : Nat} {q : vw_C} {fs : List Value} {wa wc wb : va_W} (hP : va_P D cl (wa ++ (wc ++ wb)) H) (hK : va_K D cl tys s) (hD : va_D A (wa ++ (wc ++ wb))) (hc : cl[ci]? = some q) (he : wc[q0]? = some (b, .inr (ci, fs))) : PreV s H q.1 b (va_Pc (.ref b :: As) (z_P D cl tys H.size wc)) As := z_preVP (z_left (z_right hP)) hK (z_leftD (z_rightD hD)) hc he
theorem z_preMR {As : List Value} {b q0 ci : Nat} {q : vw_C} {fs : List Value} {wa wc wb : va_W} (hP : va_P D cl (wa ++ (wc ++ wb)) H) (hK : va_K D cl tys s) (hc : cl[ci]? = some q) (he : wc[q0]? = some (b, .inr (ci, fs))) : PreV s H q.1 b (va_Pc (.ref b :: As) (z_R D cl tys wc)) As := z_preVR (z_left (z_right hP)) hK hc he
theorem z_preMT {As : List Value} {b q0 ci : Nat} {q : vw_C} {fs : List Value} {wa wc wb : va_W} (hP : va_P D cl (wa ++ (wc ++ wb)) H) (hK : va_K D cl tys s) (hc : cl[ci]? = some q) (he : wc[q0]? = some (b, .inr (ci, fs))) (hz : zS s H) : PreV s H q.1 b (va_Pc (.ref b :: As) (fun U => z_R D cl tys wc U ∧ zS U U.heap)) As :=
  ⟨fun a U g mk h => ⟨h.1, ⟨h.2.1.1, va_K.moved (u := U) (U := U.calling g mk a) (Vm.Alike.refl U.vm) h.2.1.2⟩, zS.moved (u := U) (U := U.calling g mk a) (Vm.Alike.refl U.vm) h.2.2⟩, va_recv hK (z_left (z_right hP)) hc he, fun U hU hW => ⟨rfl, ⟨by rw [hU]; exact z_left (z_right hP), va_K.moved hW.alike hK⟩, by rw [hU]; exact zS.moved hW.alike hz⟩⟩
/-- what the law's own methods find: the world, and what throwing asks -/
def z_PS (D : va_G) (cl : List vw_C) (tys : List (ClassId × FieldType)) (sz : Nat) (ws : va_W) (U : State) : Prop := z_P D cl tys sz ws U ∧ zS U U.heap
theorem z_preSM {As : List Value} {wa wc wb : va_W} (hP : va_P D cl (wa ++ (wc ++ wb)) H) (hK : va_K D cl tys s) (hD : va_D A (wa ++ (wc ++ wb))) (hz : zS s H) : PreS s H (va_Pc As (z_PS D cl tys H.size wc)) As :=
  ⟨fun a U g mk h => ⟨h.1, ⟨h.2.1.1, h.2.1.2.1, va_K.moved (u := U) (U := U.calling g mk a) (Vm.Alike.refl U.vm) h.2.1.2.2.1, h.2.1.2.2.2⟩, zS.moved (u := U) (U := U.calling g mk a) (Vm.Alike.refl U.vm) h.2.2⟩, fun U hU hW => ⟨rfl, ⟨by rw [hU], by rw [hU]; exact z_left (z_right hP), va_K.moved hW.alike hK, (z_leftD (z_rightD hD)).weaken (fun _ _ _ _ => trivial)⟩, by rw [hU]; exact zS.moved hW.alike hz⟩⟩
end ZLP
/-- the counters may be taken higher -/
theorem z_more {p : Program} {l : Launch} {e : Env} {R : Room} {s : State} {m : MethodId} {args : Array Value} {below : List Frame} {meth : Method} {c : Code} {H : Heap} {locs : List Loc} {cells slots : Nat} {Q : State → Prop} {g : JFrame} (c2 s2 : Nat) (h1 : cells ≤ c2) (h2 : slots ≤ s2) (k : W p l e R s m args below meth c H locs c2 s2 Q g) : W p l e R s m args below meth c H locs cells slots Q g :=
  fun T hT X => k T hT ⟨X.admits, X.cas, X.clock, X.frames, X.room, X.hears, X.method, X.code, X.here, X.tail, X.warmed, X.limits, X.bytes, X.same.weaken (fun _ hx _ => hx) h1 h2⟩
/-- one more cell that nobody sees: the world stays -/
theorem z_kept {D : va_G} {cl : List vw_C} {A : Nat → Prop} {ws : va_W} {H0 H H1 : Heap} {locs : List Loc} (hP : va_P D cl ws H) (hS : va_S A H0 H locs) (h1 : H.size ≤ H1.size) (h2 : ∀ q : Nat, q < H.size → H1[q]? = H[q]?) : va_P D cl ws H1 ∧ va_S A H0 H1 locs :=
  ⟨hP.kept (fun k q hk => h2 q.1 (z_inheap hP hk)), Nat.le_trans hS.1 h1, fun q hq hA => by rw [h2 q (Nat.lt_of_lt_of_le hq hS.1)]; exact hS.2.1 q hq hA, hS.2.2⟩
