-- ===== PART A: goes FIRST, ahead of the names: the tables' words, and 'selects' of the private methods out of them =====
/-- a private method of a class that the tables say can be made, by its rows of tables_1 -/
def lw_okq (q : MethodName × Nat) : Prop := (q.1.cls ≠ "java/lang/invoke/MethodHandle" ∧ q.1.cls ≠ "java/lang/invoke/VarHandle") ∧ Cond.instantiable q.1.cls q.2 ∈ tables_1 ∧ Cond.privateMethod q.1 ∈ tables_1 ∧ Cond.instanceMethod q.1 ∈ tables_1
theorem lw_p0 : lw_okq (⟨"ProofMill$Circuit", "rowSum", "(II[I)I"⟩, 2) := ⟨⟨by decide +kernel, by decide +kernel⟩, List.mem_of_getElem? (i := 23) (by decide +kernel), List.mem_of_getElem? (i := 163) (by decide +kernel), List.mem_of_getElem? (i := 164) (by decide +kernel)⟩
theorem lw_p1 : lw_okq (⟨"java/lang/Throwable", "fillInStackTrace", "(I)Ljava/lang/Throwable;"⟩, 6) := ⟨⟨by decide +kernel, by decide +kernel⟩, List.mem_of_getElem? (i := 294) (by decide +kernel), List.mem_of_getElem? (i := 292) (by decide +kernel), List.mem_of_getElem? (i := 293) (by decide +kernel)⟩
theorem lw_p2 : lw_okq (⟨"ProofMill", "makeElements", "(II)V"⟩, 11) := ⟨⟨by decide +kernel, by decide +kernel⟩, List.mem_of_getElem? (i := 15) (by decide +kernel), List.mem_of_getElem? (i := 443) (by decide +kernel), List.mem_of_getElem? (i := 444) (by decide +kernel)⟩
theorem lw_p3 : lw_okq (⟨"ProofMill$Key", "atTau", "([I)I"⟩, 9) := ⟨⟨by decide +kernel, by decide +kernel⟩, List.mem_of_getElem? (i := 71) (by decide +kernel), List.mem_of_getElem? (i := 455) (by decide +kernel), List.mem_of_getElem? (i := 456) (by decide +kernel)⟩
theorem lw_p4 : lw_okq (⟨"ProofMillModel", "firstOpen", "()I"⟩, 19) := ⟨⟨by decide +kernel, by decide +kernel⟩, List.mem_of_getElem? (i := 516) (by decide +kernel), List.mem_of_getElem? (i := 609) (by decide +kernel), List.mem_of_getElem? (i := 610) (by decide +kernel)⟩
theorem lw_p5 : lw_okq (⟨"ProofMillModel", "sumOf", "(II)J"⟩, 19) := ⟨⟨by decide +kernel, by decide +kernel⟩, List.mem_of_getElem? (i := 516) (by decide +kernel), List.mem_of_getElem? (i := 613) (by decide +kernel), List.mem_of_getElem? (i := 614) (by decide +kernel)⟩
theorem lw_p6 : lw_okq (⟨"ProofMillModel", "size", "()I"⟩, 19) := ⟨⟨by decide +kernel, by decide +kernel⟩, List.mem_of_getElem? (i := 516) (by decide +kernel), List.mem_of_getElem? (i := 621) (by decide +kernel), List.mem_of_getElem? (i := 622) (by decide +kernel)⟩
theorem lw_p7 : lw_okq (⟨"ProofMillModel", "coefficient", "(III)J"⟩, 19) := ⟨⟨by decide +kernel, by decide +kernel⟩, List.mem_of_getElem? (i := 516) (by decide +kernel), List.mem_of_getElem? (i := 625) (by decide +kernel), List.mem_of_getElem? (i := 626) (by decide +kernel)⟩
theorem lw_p8 : lw_okq (⟨"ProofMillModel", "atTau", "(II)J"⟩, 19) := ⟨⟨by decide +kernel, by decide +kernel⟩, List.mem_of_getElem? (i := 516) (by decide +kernel), List.mem_of_getElem? (i := 645) (by decide +kernel), List.mem_of_getElem? (i := 646) (by decide +kernel)⟩
theorem lw_p9 : lw_okq (⟨"ProofMillModel", "sum", "(I)V"⟩, 19) := ⟨⟨by decide +kernel, by decide +kernel⟩, List.mem_of_getElem? (i := 516) (by decide +kernel), List.mem_of_getElem? (i := 653) (by decide +kernel), List.mem_of_getElem? (i := 654) (by decide +kernel)⟩
theorem lw_p10 : lw_okq (⟨"ProofMillModel", "divide", "()V"⟩, 19) := ⟨⟨by decide +kernel, by decide +kernel⟩, List.mem_of_getElem? (i := 516) (by decide +kernel), List.mem_of_getElem? (i := 657) (by decide +kernel), List.mem_of_getElem? (i := 658) (by decide +kernel)⟩
theorem lw_p11 : lw_okq (⟨"ProofMillModel", "sumAtTau", "(I)J"⟩, 19) := ⟨⟨by decide +kernel, by decide +kernel⟩, List.mem_of_getElem? (i := 516) (by decide +kernel), List.mem_of_getElem? (i := 661) (by decide +kernel), List.mem_of_getElem? (i := 662) (by decide +kernel)⟩
def lw_privs_1 : List (MethodName × Nat) := [(⟨"ProofMill$Circuit", "rowSum", "(II[I)I"⟩, 2), (⟨"java/lang/Throwable", "fillInStackTrace", "(I)Ljava/lang/Throwable;"⟩, 6), (⟨"ProofMill", "makeElements", "(II)V"⟩, 11), (⟨"ProofMill$Key", "atTau", "([I)I"⟩, 9), (⟨"ProofMillModel", "firstOpen", "()I"⟩, 19), (⟨"ProofMillModel", "sumOf", "(II)J"⟩, 19), (⟨"ProofMillModel", "size", "()I"⟩, 19), (⟨"ProofMillModel", "coefficient", "(III)J"⟩, 19), (⟨"ProofMillModel", "atTau", "(II)J"⟩, 19), (⟨"ProofMillModel", "sum", "(I)V"⟩, 19), (⟨"ProofMillModel", "divide", "()V"⟩, 19), (⟨"ProofMillModel", "sumAtTau", "(I)J"⟩, 19)]
theorem lw_r1 : ∀ q ∈ lw_privs_1, lw_okq q := List.forall_mem_cons.mpr ⟨lw_p0, List.forall_mem_cons.mpr ⟨lw_p1, List.forall_mem_cons.mpr ⟨lw_p2, List.forall_mem_cons.mpr ⟨lw_p3, List.forall_mem_cons.mpr ⟨lw_p4, List.forall_mem_cons.mpr ⟨lw_p5, List.forall_mem_cons.mpr ⟨lw_p6, List.forall_mem_cons.mpr ⟨lw_p7, List.forall_mem_cons.mpr ⟨lw_p8, List.forall_mem_cons.mpr ⟨lw_p9, List.forall_mem_cons.mpr ⟨lw_p10, List.forall_mem_cons.mpr ⟨lw_p11, fun _ h => absurd h List.not_mem_nil⟩⟩⟩⟩⟩⟩⟩⟩⟩⟩⟩⟩
def lw_privs : List (MethodName × Nat) := lw_privs_1
def lw_tbl : List Cond := k2_sels lw_privs ++ tables_1
theorem lw_privs_ok : ∀ q ∈ lw_privs, lw_okq q := lw_r1
/-- the words that every call hands on -/
def zT : List Cond := lw_tbl.filter goodWord
theorem zin {w : Cond} (h : w ∈ lw_tbl) (g : goodWord w = true) : w ∈ zT := List.mem_filter.mpr ⟨h, g⟩
theorem zT_in : ∀ w ∈ zT, w ∈ lw_tbl := fun w h => (List.mem_filter.mp h).1
theorem zg_of {ws : List Cond} (h : ∀ w ∈ ws, w ∈ zT) : GoodIn zT ws := fun w hw => ⟨h w hw, good_of_word (List.mem_filter.mp (h w hw)).2⟩
/-- the words of a method here: its own code, and those -/
def zW (y : MethodName) (b : ByteArray) (n : Nat) (r : Option FieldType) : List Cond := .code y b n r :: zT
/-- what is known of a static callee, of a virtual one, of a constructor -/
def zkS (y : MethodName) (b : ByteArray) (mx : Nat) (r : Option FieldType) (n : Nat) : Prop := Cond.static y ∈ zT ∧ Cond.initialized y.cls ∈ zT ∧ Cond.code y b mx r ∈ zT ∧ y.cls ≠ "java/lang/invoke/MethodHandle" ∧ y.cls ≠ "java/lang/invoke/VarHandle" ∧ (parseMethodDescriptor y.desc).map (fun d => d.parameters.length) = some n
def zkV (y : MethodName) (b : ByteArray) (mx : Nat) (r : Option FieldType) (n : Nat) : Prop := (Cond.instanceMethod y ∈ zT ∧ Cond.selects y.cls y y ∈ zT) ∧ Cond.initialized y.cls ∈ zT ∧ Cond.code y b mx r ∈ zT ∧ y.cls ≠ "java/lang/invoke/MethodHandle" ∧ y.cls ≠ "java/lang/invoke/VarHandle" ∧ (parseMethodDescriptor y.desc).map (fun d => d.parameters.length) = some n
def zkI (y : MethodName) (b : ByteArray) (mx : Nat) (n : Nat) : Prop := (Cond.instanceMethod y ∈ zT ∧ y.name = "<init>") ∧ Cond.initialized y.cls ∈ zT ∧ Cond.code y b mx none ∈ zT ∧ y.cls ≠ "java/lang/invoke/MethodHandle" ∧ y.cls ≠ "java/lang/invoke/VarHandle" ∧ (parseMethodDescriptor y.desc).map (fun d => d.parameters.length) = some n
theorem zg_W {y : MethodName} {b : ByteArray} {n : Nat} {r : Option FieldType} (h : Cond.code y b n r ∈ zT) : ∀ w ∈ zW y b n r, w ∈ zT := fun w hw => (List.mem_cons.mp hw).elim (fun e => e ▸ h) id
theorem zgS {own : String} {idx : Nat} {y : MethodName} {b : ByteArray} {n k : Nat} {r : Option FieldType} (h : zkS y b n r k) (hl : Cond.methodLink own idx y ∈ zT) : GoodIn zT (va_wsS own idx y (zW y b n r)) := zg_of (fun w hw => by
  unfold va_wsS at hw
  rcases List.mem_append.mp hw with hw | hw
  · rcases List.mem_cons.mp hw with rfl | hw
    · exact hl
    · rcases List.mem_cons.mp hw with rfl | hw
      · exact h.1
      · rcases List.mem_cons.mp hw with rfl | hw
        · exact h.2.1
        · cases hw
  · exact zg_W h.2.2.1 w hw)
theorem zgV {own : String} {idx : Nat} {y : MethodName} {b : ByteArray} {n k : Nat} {r : Option FieldType} (h : zkV y b n r k) (hl : Cond.methodLink own idx y ∈ zT) : GoodIn zT (wsV own idx y.cls y (zW y b n r)) := zg_of (fun w hw => by
  unfold wsV at hw
  rcases List.mem_append.mp hw with hw | hw
  · rcases List.mem_cons.mp hw with rfl | hw
    · exact hl
    · rcases List.mem_cons.mp hw with rfl | hw
      · exact h.1.1
      · rcases List.mem_cons.mp hw with rfl | hw
        · exact h.1.2
        · rcases List.mem_cons.mp hw with rfl | hw
          · exact h.2.1
          · cases hw
  · exact zg_W h.2.2.1 w hw)
section ZR
variable {p : Program} {l : Launch} {e : Env} {R : Room} {s : State} {m : MethodId} {args : Array Value} {below : List Frame} {meth : Method} {c : Code} {H : Heap} {locs : List Loc} {cells slots : Nat}
variable {cc : ByteArray} {pc nL : Nat} {ls : Array Slot} {own : String}
variable {y : MethodName} {b : ByteArray} {mx n idx mc ms : Nat} {r : Option FieldType} {rm : Room} {Pc : Array Value → State → Prop} {Qc : Array Value → State → Outcome → State → Prop} {free : Addr → Prop} {st : List Value}
theorem z_runS (As rest : List Value) (F : CallFix p m c cc nL s args zT own) (hM : Met l y (zW y b mx r) rm Pc Qc mc ms free) (hk : zkS y b mx r n) (hl : Cond.methodLink own idx y ∈ zT) (hrc : rm.cells = mc) (hrs : rm.slots = ms) (hR : rm.frames + 1 ≤ R.frames ∧ 8 + (mx + 11) + rm.locals ≤ R.locals) (hp : PreS s H Pc As) (hn : As.length = n) (hsize : ls.size = nL) (hst : st = As.reverse ++ rest) (hW : (rest.map fun v => v.category).sum ≤ 8) (hdg : decode cc pc = .ok (.invokestatic idx, 3)) (hf : cells + mc ≤ R.cells ∧ slots + ms ≤ R.slots) :
    va_Run p l e R s m args below meth c H locs cells slots mc ms (F0 m pc ls st) rest (Qc As.toArray) free :=
  va_runS F hM (va_cwS n F.2.2.2.2 (zgS hk hl) rfl hrc hrs hk.2.2.2 hR) hp rfl hn hsize hst (lv_room hW) hdg hf
theorem z_runV (As rest : List Value) {a : Nat} (F : CallFix p m c cc nL s args zT own) (hM : Met l y (zW y b mx r) rm Pc Qc mc ms free) (hk : zkV y b mx r n) (hl : Cond.methodLink own idx y ∈ zT) (hrc : rm.cells = mc) (hrs : rm.slots = ms) (hR : rm.frames + 1 ≤ R.frames ∧ 8 + (mx + 11) + rm.locals ≤ R.locals) (hp : PreV s H y.cls a Pc As) (hn : As.length = n) (hsize : ls.size = nL) (hst : st = As.reverse ++ .ref a :: rest) (hW : (rest.map fun v => v.category).sum ≤ 8) (hdg : decode cc pc = .ok (.invokevirtual idx, 3)) (hf : cells + mc ≤ R.cells ∧ slots + ms ≤ R.slots) :
    va_Run p l e R s m args below meth c H locs cells slots mc ms (F0 m pc ls st) rest (Qc (Value.ref a :: As).toArray) free :=
  va_runV F hM (cwV n F.2.2.2.2 (zgV hk hl) rfl hrc hrs ⟨rfl, hk.2.2.2⟩ hR) hp rfl hn hsize hst (lv_room hW) hdg hf
theorem z_runI (As rest : List Value) {a : Nat} (F : CallFix p m c cc nL s args zT own) (hM : Met l y (zW y b mx none) rm Pc Qc mc ms free) (hk : zkI y b mx n) (hl : Cond.methodLink own idx y ∈ zT) (hrc : rm.cells = mc) (hrs : rm.slots = ms) (hR : rm.frames + 1 ≤ R.frames ∧ 8 + (mx + 11) + rm.locals ≤ R.locals) (hp : PreS s H Pc (.ref a :: As)) (hn : As.length = n) (hsize : ls.size = nL) (hst : st = As.reverse ++ .ref a :: rest) (hW : (rest.map fun v => v.category).sum ≤ 8) (hdg : decode cc pc = .ok (.invokespecial idx, 3)) (hf : cells + mc ≤ R.cells ∧ slots + ms ≤ R.slots) :
    va_Run p l e R s m args below meth c H locs cells slots mc ms (F0 m pc ls st) rest (Qc (Value.ref a :: As).toArray) free :=
  va_runI F hM (cwI n F.2.2.2.2 (zg_of (zg_W hk.2.2.1)) rfl hrc hrs (F.2.2.2.2 _ hk.2.1) (F.2.2.2.2 _ hl) (F.2.2.2.2 _ hk.1.1) hk.1.2 hk.2.2.2 hR) hp rfl hn hsize hst (lv_room hW) hdg hf
end ZR
