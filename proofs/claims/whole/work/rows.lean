section
-- ===== PART A: goes FIRST, ahead of the names: the tables' words, and 'selects' of the private methods out of them =====
/-- a private method of a class that the tables say can be made, by its rows of tables_1 -/
def lw_okq (q : MethodName × Nat) : Prop := (q.1.cls ≠ "java/lang/invoke/MethodHandle" ∧ q.1.cls ≠ "java/lang/invoke/VarHandle") ∧ Cond.instantiable q.1.cls q.2 ∈ tables_1 ∧ Cond.privateMethod q.1 ∈ tables_1 ∧ Cond.instanceMethod q.1 ∈ tables_1
theorem lw_p0 : lw_okq (⟨"ProofMill$Circuit", "rowSum", "(II[I)I"⟩, 2) := ⟨⟨by decide +kernel, by decide +kernel⟩, List.mem_of_getElem? (i := 23) (by decide +kernel), List.mem_of_getElem? (i := 163) (by decide +kernel), List.mem_of_getElem? (i := 164) (by decide +kernel)⟩
theorem lw_p1 : lw_okq (⟨"java/lang/Throwable", "fillInStackTrace", "(I)Ljava/lang/Throwable;"⟩, 6) := ⟨⟨by decide +kernel, by decide +kernel⟩, List.mem_of_getElem? (i := 294) (by decide +kernel), List.mem_of_getElem? (i := 292) (by decide +kernel), List.mem_of_getElem? (i := 293) (by decide +kernel)⟩
theorem lw_p2 : lw_okq (⟨"ProofMill", "makeElements", "(II)V"⟩, 11) := ⟨⟨by decide +kernel, by decide +kernel⟩, List.mem_of_getElem? (i := 15) (by decide +kernel), List.mem_of_getElem? (i := 443) (by decide +kernel), List.mem_of_getElem? (i := 444) (by decide +kernel)⟩
theorem lw_p3 : lw_okq (⟨"ProofMill$Key", "atTau", "([I)I"⟩, 9) := ⟨⟨by decide +kernel, by decide +kernel⟩, List.mem_of_getElem? (i := 71) (by decide +kernel), List.mem_of_getElem? (i := 455) (by decide +kernel), List.mem_of_getElem? (i := 456) (by decide +kernel)⟩
theorem lw_p4 : lw_okq (⟨"ProofMillModel", "firstOpen", "()I"⟩, 19) := ⟨⟨by decide +kernel, by decide +kernel⟩, List.mem_of_getElem? (i := 516) (by decide +kernel), List.mem_of_getElem? (i := 609) (by decide +kernel), List.mem_of_getElem? (i := 610) (by decide +kernel)⟩
theorem lw_p5 : lw_okq (⟨"ProofMillModel", "sumOf", "(II)J"⟩, 19) := ⟨⟨by decide +kernel, by decide +kernel⟩, List.mem_of_getElem? (i := 516) (by decide +kernel), List.mem_of_getElem? (i := 613) (by decide +kernel), List.mem_of_getElem? (i := 614) (by decide +kernel)⟩
theorem lw_p6 : lw_okq (⟨"ProofMillModel", "size", "()I"⟩, 19) := ⟨⟨by decide +kernel, by decide +kernel⟩, List.mem_of_getElem? (i := 516) (by decide +kernel), List.mem_of_getElem? (i := 621) (by decide +kernel), List.mem_of_getElem? (i := 622) (by decide +kernel)⟩
theorem lw_p7 : lw_okq (⟨"ProofMillModel", "coefficient", "(III)J"⟩, 19) := ⟨⟨by decide +kernel, by decide +kernel⟩, List.mem_of_getElem? (i := 516) (by decide +kernel), List.mem_of_getElem? (i := 625) (by decide +kernel), List.mem_of_getElem? (i := 626) (by decide +kernel)⟩
theorem lw_p8 : lw_okq (⟨"ProofMillModel", "atTau", "(II)J"⟩, 19) := ⟨⟨by decide +kernel, by decide +kernel⟩, List.mem_of_getElem? (i := 516) (by decide +kernel), List.mem_of_getElem? (i := 645) (by decide +kernel), List.mem_of_getElem? (i := 646) (by decide +kernel)⟩
theorem lw_p9 : lw_okq (⟨"ProofMillModel", "sum", "(I)V"⟩, 19) := ⟨⟨by decide +kernel, by decide +kernel⟩, List.mem_of_getElem? (i := 516) (by decide +kernel), List.mem_of_getElem? (i := 653) (by decide +kernel), List.mem_of_getElem? (i := 654) (by decide +kernel)⟩
theorem lw_p10 : lw_okq (⟨"ProofMillModel", "divide", "()V"⟩, 19) := ⟨⟨by decide +kernel, by decide +kernel⟩, List.mem_of_getElem? (i := 516) (by decide +kernel), List.mem_of_getElem? (i := 657) (by decide +kernel), List.mem_of_getElem? (i := 658) (by decide +kernel)⟩
theorem lw_p11 : lw_okq (⟨"ProofMillModel", "sumAtTau", "(I)J"⟩, 19) := ⟨⟨by decide +kernel, by decide +kernel⟩, List.mem_of_getElem? (i := 516) (by decide +kernel), List.mem_of_getElem? (i := 661) (by decide +kernel), List.mem_of_getElem? (i := 662) (by decide +kernel)⟩
def lw_privs_1 : List (MethodName × Nat) := [(⟨"ProofMill$Circuit", "rowSum", "(II[I)I"⟩, 2), (⟨"java/lang/Throwable", "fillInStackTrace", "(I)Ljava/lang/Throwable;"⟩, 6), (⟨"ProofMill", "makeElements", "(II)V"⟩, 11), (⟨"ProofMill$Key", "atTau", "([I)I"⟩, 9), (⟨"ProofMillModel", "firstOpen", "()I"⟩, 19), (⟨"ProofMillModel", "sumOf", "(II)J"⟩, 19), (⟨"ProofMillModel", "size", "()I"⟩, 19), (⟨"ProofMillModel", "coefficient", "(III)J"⟩, 19), (⟨"ProofMillModel", "atTau", "(II)J"⟩, 19), (⟨"ProofMillModel", "sum", "(I)V"⟩, 19), (⟨"ProofMillModel", "divide", "()V"⟩, 19), (⟨"ProofMillModel", "sumAtTau", "(I)J"⟩, 19)]
theorem lw_r1 : ∀ q ∈ lw_privs_1, lw_okq q := List.forall_mem_cons.mpr ⟨lw_p0, List.forall_mem_cons.mpr ⟨lw_p1, List.forall_mem_cons.mpr ⟨lw_p2, List.forall_mem_cons.mpr ⟨lw_p3, List.forall_mem_cons.mpr ⟨lw_p4, List.forall_mem_cons.mpr ⟨lw_p5, List.forall_mem_cons.mpr ⟨lw_p6, List.forall_mem_cons.mpr ⟨lw_p7, List.forall_mem_cons.mpr ⟨lw_p8, List.forall_mem_cons.mpr ⟨lw_p9, List.forall_mem_cons.mpr ⟨lw_p10, List.forall_mem_cons.mpr ⟨lw_p11, fun _ h => absurd h List.not_mem_nil⟩⟩⟩⟩⟩⟩⟩⟩⟩⟩⟩⟩
def lw_privs : List (MethodName × Nat) := lw_privs_1
def lw_tbl : List Cond := k2_sels lw_privs ++ tables_1
theorem lw_privs_ok : ∀ q ∈ lw_privs, lw_okq q := lw_r1
/-- the words that every call hands on -/
def zT : List Cond := lw_tbl.filter goodWord
theorem zin {w : Cond} (h : w ∈ lw_tbl) (g : goodWord w = true) : w ∈ zT := List.mem_filter.mpr ⟨h, g⟩
theorem zT_in : ∀ w ∈ zT, w ∈ lw_tbl := fun w h => (List.mem_filter.mp h).1
theorem zg_of {ws : List Cond} (h : ∀ w ∈ ws, w ∈ zT) : GoodIn zT ws := fun w hw => ⟨h w hw, good_of_word (List.mem_filter.mp (h w hw)).2⟩
/-- the words of a method here: its own code, and those -/
def zW (y : MethodName) (b : ByteArray) (n : Nat) (r : Option FieldType) : List Cond := .code y b n r :: zT
/-- what is known of a static callee, of a virtual one, of a constructor -/
def zkS (y : MethodName) (b : ByteArray) (mx : Nat) (r : Option FieldType) (n : Nat) : Prop := Cond.static y ∈ zT ∧ Cond.initialized y.cls ∈ zT ∧ Cond.code y b mx r ∈ zT ∧ y.cls ≠ "java/lang/invoke/MethodHandle" ∧ y.cls ≠ "java/lang/invoke/VarHandle" ∧ (parseMethodDescriptor y.desc).map (fun d => d.parameters.length) = some n
def zkV (y : MethodName) (b : ByteArray) (mx : Nat) (r : Option FieldType) (n : Nat) : Prop := (Cond.instanceMethod y ∈ zT ∧ Cond.selects y.cls y y ∈ zT) ∧ Cond.initialized y.cls ∈ zT ∧ Cond.code y b mx r ∈ zT ∧ y.cls ≠ "java/lang/invoke/MethodHandle" ∧ y.cls ≠ "java/lang/invoke/VarHandle" ∧ (parseMethodDescriptor y.desc).map (fun d => d.parameters.length) = some n
def zkI (y : MethodName) (b : ByteArray) (mx : Nat) (n : Nat) : Prop := (Cond.instanceMethod y ∈ zT ∧ y.name = "<init>") ∧ Cond.initialized y.cls ∈ zT ∧ Cond.code y b mx none ∈ zT ∧ y.cls ≠ "java/lang/invoke/MethodHandle" ∧ y.cls ≠ "java/lang/invoke/VarHandle" ∧ (parseMethodDescriptor y.desc).map (fun d => d.parameters.length) = some n
theorem zg_W {y : MethodName} {b : ByteArray} {n : Nat} {r : Option FieldType} (h : Cond.code y b n r ∈ zT) : ∀ w ∈ zW y b n r, w ∈ zT := fun w hw => (List.mem_cons.mp hw).elim (fun e => e ▸ h) id
theorem zgS {own : String} {idx : Nat} {y : MethodName} {b : ByteArray} {n k : Nat} {r : Option FieldType} (h : zkS y b n r k) (hl : Cond.methodLink own idx y ∈ zT) : GoodIn zT (va_wsS own idx y (zW y b n r)) := zg_of (fun w hw => by
  unfold va_wsS at hw
  rcases List.mem_append.mp hw with hw | hw
  · rcases List.mem_cons.mp hw with rfl | hw
    · exact hl
    · rcases List.mem_cons.mp hw with rfl | hw
      · exact h.1
      · rcases List.mem_cons.mp hw with rfl | hw
        · exact h.2.1
        · cases hw
  · exact zg_W h.2.2.1 w hw)
theorem zgV {own : String} {idx : Nat} {y : MethodName} {b : ByteArray} {n k : Nat} {r : Option FieldType} (h : zkV y b n r k) (hl : Cond.methodLink own idx y ∈ zT) : GoodIn zT (wsV own idx y.cls y (zW y b n r)) := zg_of (fun w hw => by
  unfold wsV at hw
  rcases List.mem_append.mp hw with hw | hw
  · rcases List.mem_cons.mp hw with rfl | hw
    · exact hl
    · rcases List.mem_cons.mp hw with rfl | hw
      · exact h.1.1
      · rcases List.mem_cons.mp hw with rfl | hw
        · exact h.1.2
        · rcases List.mem_cons.mp hw with rfl | hw
          · exact h.2.1
          · cases hw
  · exact zg_W h.2.2.1 w hw)
section ZR
variable {p : Program} {l : Launch} {e : Env} {R : Room} {s : State} {m : MethodId} {args : Array Value} {below : List Frame} {meth : Method} {c : Code} {H : Heap} {locs : List Loc} {cells slots : Nat}
variable {cc : ByteArray} {pc nL : Nat} {ls : Array Slot} {own : String}
variable {y : MethodName} {b : ByteArray} {mx n idx mc ms : Nat} {r : Option FieldType} {rm : Room} {Pc : Array Value → State → Prop} {Qc : Array Value → State → Outcome → State → Prop} {free : Addr → Prop} {st : List Value}
theorem z_runS (As rest : List Value) (F : CallFix p m c cc nL s args zT own) (hM : Met l y (zW y b mx r) rm Pc Qc mc ms free) (hk : zkS y b mx r n) (hl : Cond.methodLink own idx y ∈ zT) (hrc : rm.cells = mc) (hrs : rm.slots = ms) (hR : rm.frames + 1 ≤ R.frames ∧ 8 + (mx + 11) + rm.locals ≤ R.locals) (hp : PreS s H Pc As) (hn : As.length = n) (hsize : ls.size = nL) (hst : st = As.reverse ++ rest) (hW : (rest.map fun v => v.category).sum ≤ 8) (hdg : decode cc pc = .ok (.invokestatic idx, 3)) (hf : cells + mc ≤ R.cells ∧ slots + ms ≤ R.slots) :
    va_Run p l e R s m args below meth c H locs cells slots mc ms (F0 m pc ls st) rest (Qc As.toArray) free :=
  va_runS F hM (va_cwS n F.2.2.2.2 (zgS hk hl) rfl hrc hrs hk.2.2.2 hR) hp rfl hn hsize hst (lv_room hW) hdg hf
theorem z_runV (As rest : List Value) {a : Nat} (F : CallFix p m c cc nL s args zT own) (hM : Met l y (zW y b mx r) rm Pc Qc mc ms free) (hk : zkV y b mx r n) (hl : Cond.methodLink own idx y ∈ zT) (hrc : rm.cells = mc) (hrs : rm.slots = ms) (hR : rm.frames + 1 ≤ R.frames ∧ 8 + (mx + 11) + rm.locals ≤ R.locals) (hp : PreV s H y.cls a Pc As) (hn : As.length = n) (hsize : ls.size = nL) (hst : st = As.reverse ++ .ref a :: rest) (hW : (rest.map fun v => v.category).sum ≤ 8) (hdg : decode cc pc = .ok (.invokevirtual idx, 3)) (hf : cells + mc ≤ R.cells ∧ slots + ms ≤ R.slots) :
    va_Run p l e R s m args below meth c H locs cells slots mc ms (F0 m pc ls st) rest (Qc (Value.ref a :: As).toArray) free :=
  va_runV F hM (cwV n F.2.2.2.2 (zgV hk hl) rfl hrc hrs ⟨rfl, hk.2.2.2⟩ hR) hp rfl hn hsize hst (lv_room hW) hdg hf
theorem z_runI (As rest : List Value) {a : Nat} (F : CallFix p m c cc nL s args zT own) (hM : Met l y (zW y b mx none) rm Pc Qc mc ms free) (hk : zkI y b mx n) (hl : Cond.methodLink own idx y ∈ zT) (hrc : rm.cells = mc) (hrs : rm.slots = ms) (hR : rm.frames + 1 ≤ R.frames ∧ 8 + (mx + 11) + rm.locals ≤ R.locals) (hp : PreS s H Pc (.ref a :: As)) (hn : As.length = n) (hsize : ls.size = nL) (hst : st = As.reverse ++ .ref a :: rest) (hW : (rest.map fun v => v.category).sum ≤ 8) (hdg : decode cc pc = .ok (.invokespecial idx, 3)) (hf : cells + mc ≤ R.cells ∧ slots + ms ≤ R.slots) :
    va_Run p l e R s m args below meth c H locs cells slots mc ms (F0 m pc ls st) rest (Qc (Value.ref a :: As).toArray) free :=
  va_runI F hM (cwI n F.2.2.2.2 (zg_of (zg_W hk.2.2.1)) rfl hrc hrs (F.2.2.2.2 _ hk.2.1) (F.2.2.2.2 _ hl) (F.2.2.2.2 _ hk.1.1) hk.1.2 hk.2.2.2 hR) hp rfl hn hsize hst (lv_room hW) hdg hf
end ZR
end
section
def RC : String := "ProofMill$Circuit"
def RD : String := "ProofMill$Domain"
def RF : String := "ProofMill$Field"
def RK : String := "ProofMill$Key"
def RQ : String := "ProofMill$Proof"
def RM : String := "ProofMill"
def RT : String := "ProofMillModel"
def RL : String := "ProofMillLaw"
def TC : u_T := fun k => match k with
  | 0 => ("ProofMill$Circuit", "coefficients", "[I", true)
  | _ => ("ProofMill$Circuit", "count", "I", false)
def tyC : Nat → FieldType := fun k => match k with
  | 0 => .array .int
  | _ => .int
theorem nmC : ∀ a, a < 2 → ∀ b, b < 2 → a ≠ b → (TC a).2.1 ≠ (TC b).2.1 := by decide +kernel
theorem tyC_ok : ∀ k, k < 2 → parseFieldDescriptor (TC k).2.2.1 = some (tyC k) := by decide +kernel
theorem hinC : ∀ w ∈ u_ws RC TC 2, w ∈ zT := fun w h => zin ((by decide +kernel : ∀ w ∈ u_ws RC TC 2, w ∈ lw_tbl) w h) ((by decide +kernel : ∀ w ∈ u_ws RC TC 2, goodWord w = true) w h)
def TD : u_T := fun k => match k with
  | 0 => ("ProofMill$Domain", "backRoots", "[I", true)
  | 1 => ("ProofMill$Domain", "size", "I", false)
  | _ => ("ProofMill$Domain", "oneOverSize", "I", false)
def tyD : Nat → FieldType := fun k => match k with
  | 0 => .array .int
  | 1 => .int
  | _ => .int
theorem nmD : ∀ a, a < 3 → ∀ b, b < 3 → a ≠ b → (TD a).2.1 ≠ (TD b).2.1 := by decide +kernel
theorem tyD_ok : ∀ k, k < 3 → parseFieldDescriptor (TD k).2.2.1 = some (tyD k) := by decide +kernel
theorem hinD : ∀ w ∈ u_ws RD TD 3, w ∈ zT := fun w h => zin ((by decide +kernel : ∀ w ∈ u_ws RD TD 3, w ∈ lw_tbl) w h) ((by decide +kernel : ∀ w ∈ u_ws RD TD 3, goodWord w = true) w h)
def TK : u_T := fun k => match k with
  | 0 => ("ProofMill$Key", "weights", "[I", true)
  | 1 => ("ProofMill$Key", "mixes", "[I", true)
  | 2 => ("ProofMill$Key", "made", "Z", false)
  | 3 => ("ProofMill$Key", "tau", "I", false)
  | 4 => ("ProofMill$Key", "alpha", "I", false)
  | 5 => ("ProofMill$Key", "beta", "I", false)
  | 6 => ("ProofMill$Key", "gamma", "I", false)
  | 7 => ("ProofMill$Key", "delta", "I", false)
  | _ => ("ProofMill$Key", "vanishing", "I", false)
def tyK : Nat → FieldType := fun k => match k with
  | 0 => .array .int
  | 1 => .array .int
  | 2 => .boolean
  | 3 => .int
  | 4 => .int
  | 5 => .int
  | 6 => .int
  | 7 => .int
  | _ => .int
theorem nmK : ∀ a, a < 9 → ∀ b, b < 9 → a ≠ b → (TK a).2.1 ≠ (TK b).2.1 := by decide +kernel
theorem tyK_ok : ∀ k, k < 9 → parseFieldDescriptor (TK k).2.2.1 = some (tyK k) := by decide +kernel
theorem hinK : ∀ w ∈ u_ws RK TK 9, w ∈ zT := fun w h => zin ((by decide +kernel : ∀ w ∈ u_ws RK TK 9, w ∈ lw_tbl) w h) ((by decide +kernel : ∀ w ∈ u_ws RK TK 9, goodWord w = true) w h)
def TQ : u_T := fun k => match k with
  | 0 => ("ProofMill$Proof", "elements", "[I", true)
  | 1 => ("ProofMill$Proof", "quotient", "[I", true)
  | _ => ("ProofMill$Proof", "made", "Z", false)
def tyQ : Nat → FieldType := fun k => match k with
  | 0 => .array .int
  | 1 => .array .int
  | _ => .boolean
theorem nmQ : ∀ a, a < 3 → ∀ b, b < 3 → a ≠ b → (TQ a).2.1 ≠ (TQ b).2.1 := by decide +kernel
theorem tyQ_ok : ∀ k, k < 3 → parseFieldDescriptor (TQ k).2.2.1 = some (tyQ k) := by decide +kernel
theorem hinQ : ∀ w ∈ u_ws RQ TQ 3, w ∈ zT := fun w h => zin ((by decide +kernel : ∀ w ∈ u_ws RQ TQ 3, w ∈ lw_tbl) w h) ((by decide +kernel : ∀ w ∈ u_ws RQ TQ 3, goodWord w = true) w h)
def TM : u_T := fun k => match k with
  | 0 => ("ProofMill", "circuit", "LProofMill$Circuit;", true)
  | 1 => ("ProofMill", "domain", "LProofMill$Domain;", true)
  | 2 => ("ProofMill", "currentKey", "LProofMill$Key;", true)
  | 3 => ("ProofMill", "lastProof", "LProofMill$Proof;", true)
  | 4 => ("ProofMill", "values", "[I", true)
  | 5 => ("ProofMill", "inputs", "[I", true)
  | 6 => ("ProofMill", "publicCount", "I", false)
  | 7 => ("ProofMill", "leftPoints", "[I", true)
  | 8 => ("ProofMill", "rightPoints", "[I", true)
  | 9 => ("ProofMill", "leftCoefficients", "[I", true)
  | _ => ("ProofMill", "rightCoefficients", "[I", true)
def tyM : Nat → FieldType := fun k => match k with
  | 0 => .object "ProofMill$Circuit"
  | 1 => .object "ProofMill$Domain"
  | 2 => .object "ProofMill$Key"
  | 3 => .object "ProofMill$Proof"
  | 4 => .array .int
  | 5 => .array .int
  | 6 => .int
  | 7 => .array .int
  | 8 => .array .int
  | 9 => .array .int
  | _ => .array .int
theorem nmM : ∀ a, a < 11 → ∀ b, b < 11 → a ≠ b → (TM a).2.1 ≠ (TM b).2.1 := by decide +kernel
theorem tyM_ok : ∀ k, k < 11 → parseFieldDescriptor (TM k).2.2.1 = some (tyM k) := by decide +kernel
theorem hinM : ∀ w ∈ u_ws RM TM 11, w ∈ zT := fun w h => zin ((by decide +kernel : ∀ w ∈ u_ws RM TM 11, w ∈ lw_tbl) w h) ((by decide +kernel : ∀ w ∈ u_ws RM TM 11, goodWord w = true) w h)
def TT : u_T := fun k => match k with
  | 0 => ("ProofMillModel", "threw", "I", false)
  | 1 => ("ProofMillModel", "rows", "[J", true)
  | 2 => ("ProofMillModel", "many", "I", false)
  | 3 => ("ProofMillModel", "publics", "I", false)
  | 4 => ("ProofMillModel", "values", "[J", true)
  | 5 => ("ProofMillModel", "inputs", "[J", true)
  | 6 => ("ProofMillModel", "keyed", "Z", false)
  | 7 => ("ProofMillModel", "tau", "J", false)
  | 8 => ("ProofMillModel", "alpha", "J", false)
  | 9 => ("ProofMillModel", "beta", "J", false)
  | 10 => ("ProofMillModel", "gamma", "J", false)
  | 11 => ("ProofMillModel", "delta", "J", false)
  | 12 => ("ProofMillModel", "zero", "J", false)
  | 13 => ("ProofMillModel", "mix", "[J", true)
  | 14 => ("ProofMillModel", "proved", "Z", false)
  | 15 => ("ProofMillModel", "proof", "[J", true)
  | 16 => ("ProofMillModel", "quotient", "[J", true)
  | 17 => ("ProofMillModel", "sums", "[J", true)
  | _ => ("ProofMillModel", "product", "[J", true)
def tyT : Nat → FieldType := fun k => match k with
  | 0 => .int
  | 1 => .array .long
  | 2 => .int
  | 3 => .int
  | 4 => .array .long
  | 5 => .array .long
  | 6 => .boolean
  | 7 => .long
  | 8 => .long
  | 9 => .long
  | 10 => .long
  | 11 => .long
  | 12 => .long
  | 13 => .array .long
  | 14 => .boolean
  | 15 => .array .long
  | 16 => .array .long
  | 17 => .array .long
  | _ => .array .long
theorem nmT : ∀ a, a < 19 → ∀ b, b < 19 → a ≠ b → (TT a).2.1 ≠ (TT b).2.1 := by decide +kernel
theorem tyT_ok : ∀ k, k < 19 → parseFieldDescriptor (TT k).2.2.1 = some (tyT k) := by decide +kernel
theorem hinT : ∀ w ∈ u_ws RT TT 19, w ∈ zT := fun w h => zin ((by decide +kernel : ∀ w ∈ u_ws RT TT 19, w ∈ lw_tbl) w h) ((by decide +kernel : ∀ w ∈ u_ws RT TT 19, goodWord w = true) w h)
abbrev vwCl : List vw_C := [(RC, TC, 2), (RD, TD, 3), (RK, TK, 9), (RQ, TQ, 3), (RM, TM, 11), (RT, TT, 19)]
abbrev cM_init : ByteArray := prog_1_method_1_code
def yM_init : MethodName := ⟨RM, "<init>", "()V"⟩
abbrev cM_about : ByteArray := prog_1_method_17_code
def yM_about : MethodName := ⟨RM, "about", "(I)I"⟩
abbrev cM_alter : ByteArray := prog_1_method_10_code
def yM_alter : MethodName := ⟨RM, "alter", "(II)Z"⟩
abbrev cM_constraint : ByteArray := prog_1_method_3_code
def yM_constraint : MethodName := ⟨RM, "constraint", "()I"⟩
abbrev cM_input : ByteArray := prog_1_method_11_code
def yM_input : MethodName := ⟨RM, "input", "(II)Z"⟩
abbrev cM_isBelow : ByteArray := prog_1_method_18_code
def yM_isBelow : MethodName := ⟨RM, "isBelow", "(II)Z"⟩
abbrev cM_isUnit : ByteArray := prog_1_method_19_code
def yM_isUnit : MethodName := ⟨RM, "isUnit", "(I)Z"⟩
abbrev cM_key : ByteArray := prog_1_method_16_code
def yM_key : MethodName := ⟨RM, "key", "(II)I"⟩
abbrev cM_makeElements : ByteArray := prog_1_method_9_code
def yM_makeElements : MethodName := ⟨RM, "makeElements", "(II)V"⟩
abbrev cM_open : ByteArray := prog_1_method_6_code
def yM_open : MethodName := ⟨RM, "open", "()I"⟩
abbrev cM_polynomial : ByteArray := prog_1_method_15_code
def yM_polynomial : MethodName := ⟨RM, "polynomial", "(III)I"⟩
abbrev cM_proof : ByteArray := prog_1_method_13_code
def yM_proof : MethodName := ⟨RM, "proof", "(I)I"⟩
abbrev cM_prove : ByteArray := prog_1_method_8_code
def yM_prove : MethodName := ⟨RM, "prove", "(II)Z"⟩
abbrev cM_publics : ByteArray := prog_1_method_4_code
def yM_publics : MethodName := ⟨RM, "publics", "(I)Z"⟩
abbrev cM_quotient : ByteArray := prog_1_method_14_code
def yM_quotient : MethodName := ⟨RM, "quotient", "(I)I"⟩
abbrev cM_setup : ByteArray := prog_1_method_7_code
def yM_setup : MethodName := ⟨RM, "setup", "(IIIII)I"⟩
abbrev cM_term : ByteArray := prog_1_method_2_code
def yM_term : MethodName := ⟨RM, "term", "(III)I"⟩
abbrev cM_value : ByteArray := prog_1_method_5_code
def yM_value : MethodName := ⟨RM, "value", "(II)Z"⟩
abbrev cM_verify : ByteArray := prog_1_method_12_code
def yM_verify : MethodName := ⟨RM, "verify", "()Z"⟩
abbrev cC_init : ByteArray := prog_2_method_1_code
def yC_init : MethodName := ⟨RC, "<init>", "()V"⟩
abbrev cC_closeDraft : ByteArray := prog_2_method_4_code
def yC_closeDraft : MethodName := ⟨RC, "closeDraft", "()I"⟩
abbrev cC_column : ByteArray := prog_2_method_7_code
def yC_column : MethodName := ⟨RC, "column", "(II[I)V"⟩
abbrev cC_columnAt : ByteArray := prog_2_method_8_code
def yC_columnAt : MethodName := ⟨RC, "columnAt", "(II[I)I"⟩
abbrev cC_count : ByteArray := prog_2_method_2_code
def yC_count : MethodName := ⟨RC, "count", "()I"⟩
abbrev cC_firstOpen : ByteArray := prog_2_method_5_code
def yC_firstOpen : MethodName := ⟨RC, "firstOpen", "([I)I"⟩
abbrev cC_growDraft : ByteArray := prog_2_method_3_code
def yC_growDraft : MethodName := ⟨RC, "growDraft", "(III)I"⟩
abbrev cC_rowSum : ByteArray := prog_2_method_9_code
def yC_rowSum : MethodName := ⟨RC, "rowSum", "(II[I)I"⟩
abbrev cC_rowSums : ByteArray := prog_2_method_6_code
def yC_rowSums : MethodName := ⟨RC, "rowSums", "(I[I[I)V"⟩
abbrev cC_start : ByteArray := prog_2_method_10_code
def yC_start : MethodName := ⟨RC, "start", "(II)I"⟩
abbrev cD_init : ByteArray := prog_3_method_1_code
def yD_init : MethodName := ⟨RD, "<init>", "()V"⟩
abbrev cD_coefficient : ByteArray := prog_3_method_5_code
def yD_coefficient : MethodName := ⟨RD, "coefficient", "([II)I"⟩
abbrev cD_fit : ByteArray := prog_3_method_3_code
def yD_fit : MethodName := ⟨RD, "fit", "(I)V"⟩
abbrev cD_interpolate : ByteArray := prog_3_method_6_code
def yD_interpolate : MethodName := ⟨RD, "interpolate", "([I[I)V"⟩
abbrev cD_size : ByteArray := prog_3_method_2_code
def yD_size : MethodName := ⟨RD, "size", "()I"⟩
abbrev cD_vanishingAt : ByteArray := prog_3_method_4_code
def yD_vanishingAt : MethodName := ⟨RD, "vanishingAt", "(I)I"⟩
abbrev cD_weight : ByteArray := prog_3_method_7_code
def yD_weight : MethodName := ⟨RD, "weight", "(II)I"⟩
abbrev cF_difference : ByteArray := prog_4_method_3_code
def yF_difference : MethodName := ⟨RF, "difference", "(II)I"⟩
abbrev cF_power : ByteArray := prog_4_method_5_code
def yF_power : MethodName := ⟨RF, "power", "(II)I"⟩
abbrev cF_product : ByteArray := prog_4_method_4_code
def yF_product : MethodName := ⟨RF, "product", "(II)I"⟩
abbrev cF_ratio : ByteArray := prog_4_method_6_code
def yF_ratio : MethodName := ⟨RF, "ratio", "(II)I"⟩
abbrev cF_sum : ByteArray := prog_4_method_2_code
def yF_sum : MethodName := ⟨RF, "sum", "(II)I"⟩
abbrev cK_init : ByteArray := prog_5_method_1_code
def yK_init : MethodName := ⟨RK, "<init>", "()V"⟩
abbrev cK_alpha : ByteArray := prog_5_method_5_code
def yK_alpha : MethodName := ⟨RK, "alpha", "()I"⟩
abbrev cK_atTau : ByteArray := prog_5_method_16_code
def yK_atTau : MethodName := ⟨RK, "atTau", "([I)I"⟩
abbrev cK_beta : ByteArray := prog_5_method_6_code
def yK_beta : MethodName := ⟨RK, "beta", "()I"⟩
abbrev cK_delta : ByteArray := prog_5_method_7_code
def yK_delta : MethodName := ⟨RK, "delta", "()I"⟩
abbrev cK_drop : ByteArray := prog_5_method_3_code
def yK_drop : MethodName := ⟨RK, "drop", "()V"⟩
abbrev cK_firstElement : ByteArray := prog_5_method_11_code
def yK_firstElement : MethodName := ⟨RK, "firstElement", "([I)I"⟩
abbrev cK_isMade : ByteArray := prog_5_method_2_code
def yK_isMade : MethodName := ⟨RK, "isMade", "()Z"⟩
abbrev cK_mixAll : ByteArray := prog_5_method_10_code
def yK_mixAll : MethodName := ⟨RK, "mixAll", "(LProofMill$Circuit;LProofMill$Domain;)V"⟩
abbrev cK_mixSum : ByteArray := prog_5_method_13_code
def yK_mixSum : MethodName := ⟨RK, "mixSum", "([III)I"⟩
abbrev cK_secondElement : ByteArray := prog_5_method_12_code
def yK_secondElement : MethodName := ⟨RK, "secondElement", "([I)I"⟩
abbrev cK_sharedMix : ByteArray := prog_5_method_14_code
def yK_sharedMix : MethodName := ⟨RK, "sharedMix", "(II)I"⟩
abbrev cK_take : ByteArray := prog_5_method_9_code
def yK_take : MethodName := ⟨RK, "take", "(IIIII)V"⟩
abbrev cK_tau : ByteArray := prog_5_method_4_code
def yK_tau : MethodName := ⟨RK, "tau", "()I"⟩
abbrev cK_vanishing : ByteArray := prog_5_method_8_code
def yK_vanishing : MethodName := ⟨RK, "vanishing", "()I"⟩
abbrev cK_vanishingStep : ByteArray := prog_5_method_15_code
def yK_vanishingStep : MethodName := ⟨RK, "vanishingStep", "(I)I"⟩
abbrev cQ_init : ByteArray := prog_6_method_1_code
def yQ_init : MethodName := ⟨RQ, "<init>", "()V"⟩
abbrev cQ_divide : ByteArray := prog_6_method_7_code
def yQ_divide : MethodName := ⟨RQ, "divide", "([I[II)V"⟩
abbrev cQ_element : ByteArray := prog_6_method_3_code
def yQ_element : MethodName := ⟨RQ, "element", "(I)I"⟩
abbrev cQ_isMade : ByteArray := prog_6_method_2_code
def yQ_isMade : MethodName := ⟨RQ, "isMade", "()Z"⟩
abbrev cQ_keep : ByteArray := prog_6_method_5_code
def yQ_keep : MethodName := ⟨RQ, "keep", "(III)V"⟩
abbrev cQ_quotientAt : ByteArray := prog_6_method_8_code
def yQ_quotientAt : MethodName := ⟨RQ, "quotientAt", "(I)I"⟩
abbrev cQ_quotientCoefficient : ByteArray := prog_6_method_6_code
def yQ_quotientCoefficient : MethodName := ⟨RQ, "quotientCoefficient", "(I)I"⟩
abbrev cQ_setElement : ByteArray := prog_6_method_4_code
def yQ_setElement : MethodName := ⟨RQ, "setElement", "(II)V"⟩
abbrev cL_alter : ByteArray := method_9_code
def yL_alter : MethodName := ⟨RL, "alter", "(LProofMill;II[J)I"⟩
abbrev cL_constraint : ByteArray := method_4_code
def yL_constraint : MethodName := ⟨RL, "constraint", "(LProofMill;[J)I"⟩
abbrev cL_input : ByteArray := method_10_code
def yL_input : MethodName := ⟨RL, "input", "(LProofMill;II[J)I"⟩
abbrev cL_law : ByteArray := code
def yL_law : MethodName := ⟨RL, "law", "([I)Z"⟩
abbrev cL_prove : ByteArray := method_8_code
def yL_prove : MethodName := ⟨RL, "prove", "(LProofMill;II[J)I"⟩
abbrev cL_publics : ByteArray := method_5_code
def yL_publics : MethodName := ⟨RL, "publics", "(LProofMill;I[J)I"⟩
abbrev cL_setup : ByteArray := method_7_code
def yL_setup : MethodName := ⟨RL, "setup", "(LProofMill;IIIII[J)I"⟩
abbrev cL_term : ByteArray := method_3_code
def yL_term : MethodName := ⟨RL, "term", "(LProofMill;III[J)I"⟩
abbrev cL_value : ByteArray := method_6_code
def yL_value : MethodName := ⟨RL, "value", "(LProofMill;II[J)I"⟩
abbrev cL_verify : ByteArray := method_11_code
def yL_verify : MethodName := ⟨RL, "verify", "(LProofMill;[J)I"⟩
abbrev cT_init : ByteArray := prog_8_method_1_code
def yT_init : MethodName := ⟨RT, "<init>", "()V"⟩
abbrev cT_about : ByteArray := prog_8_method_29_code
def yT_about : MethodName := ⟨RT, "about", "(I)I"⟩
abbrev cT_alter : ByteArray := prog_8_method_23_code
def yT_alter : MethodName := ⟨RT, "alter", "(II)Z"⟩
abbrev cT_atTau : ByteArray := prog_8_method_17_code
def yT_atTau : MethodName := ⟨RT, "atTau", "(II)J"⟩
abbrev cT_coefficient : ByteArray := prog_8_method_15_code
def yT_coefficient : MethodName := ⟨RT, "coefficient", "(III)J"⟩
abbrev cT_constraint : ByteArray := prog_8_method_9_code
def yT_constraint : MethodName := ⟨RT, "constraint", "()I"⟩
abbrev cT_divide : ByteArray := prog_8_method_21_code
def yT_divide : MethodName := ⟨RT, "divide", "()V"⟩
abbrev cT_firstOpen : ByteArray := prog_8_method_13_code
def yT_firstOpen : MethodName := ⟨RT, "firstOpen", "()I"⟩
abbrev cT_input : ByteArray := prog_8_method_24_code
def yT_input : MethodName := ⟨RT, "input", "(II)Z"⟩
abbrev cT_inverse : ByteArray := prog_8_method_5_code
def yT_inverse : MethodName := ⟨RT, "inverse", "(J)J"⟩
abbrev cT_isNumber : ByteArray := prog_8_method_3_code
def yT_isNumber : MethodName := ⟨RT, "isNumber", "(I)Z"⟩
abbrev cT_key : ByteArray := prog_8_method_28_code
def yT_key : MethodName := ⟨RT, "key", "(II)I"⟩
abbrev cT_less : ByteArray := prog_8_method_6_code
def yT_less : MethodName := ⟨RT, "less", "(JJ)J"⟩
abbrev cT_open : ByteArray := prog_8_method_14_code
def yT_open : MethodName := ⟨RT, "open", "()I"⟩
abbrev cT_polynomial : ByteArray := prog_8_method_16_code
def yT_polynomial : MethodName := ⟨RT, "polynomial", "(III)I"⟩
abbrev cT_power : ByteArray := prog_8_method_4_code
def yT_power : MethodName := ⟨RT, "power", "(JJ)J"⟩
abbrev cT_proof : ByteArray := prog_8_method_26_code
def yT_proof : MethodName := ⟨RT, "proof", "(I)I"⟩
abbrev cT_prove : ByteArray := prog_8_method_22_code
def yT_prove : MethodName := ⟨RT, "prove", "(II)Z"⟩
abbrev cT_publics : ByteArray := prog_8_method_10_code
def yT_publics : MethodName := ⟨RT, "publics", "(I)Z"⟩
abbrev cT_quotient : ByteArray := prog_8_method_27_code
def yT_quotient : MethodName := ⟨RT, "quotient", "(I)I"⟩
abbrev cT_setup : ByteArray := prog_8_method_20_code
def yT_setup : MethodName := ⟨RT, "setup", "(IIIII)I"⟩
abbrev cT_size : ByteArray := prog_8_method_7_code
def yT_size : MethodName := ⟨RT, "size", "()I"⟩
abbrev cT_sum : ByteArray := prog_8_method_18_code
def yT_sum : MethodName := ⟨RT, "sum", "(I)V"⟩
abbrev cT_sumAtTau : ByteArray := prog_8_method_19_code
def yT_sumAtTau : MethodName := ⟨RT, "sumAtTau", "(I)J"⟩
abbrev cT_sumOf : ByteArray := prog_8_method_12_code
def yT_sumOf : MethodName := ⟨RT, "sumOf", "(II)J"⟩
abbrev cT_term : ByteArray := prog_8_method_8_code
def yT_term : MethodName := ⟨RT, "term", "(III)I"⟩
abbrev cT_thrown : ByteArray := prog_8_method_2_code
def yT_thrown : MethodName := ⟨RT, "thrown", "()I"⟩
abbrev cT_value : ByteArray := prog_8_method_11_code
def yT_value : MethodName := ⟨RT, "value", "(II)Z"⟩
abbrev cT_verify : ByteArray := prog_8_method_25_code
def yT_verify : MethodName := ⟨RT, "verify", "()Z"⟩
end
section
theorem wc_M_init : Cond.code yM_init cM_init 1 none ∈ zT := zin (List.mem_of_getElem? (i := 30) (by decide +kernel)) rfl
theorem wc_C_init : Cond.code yC_init cC_init 1 none ∈ zT := zin (List.mem_of_getElem? (i := 38) (by decide +kernel)) rfl
theorem wc_D_init : Cond.code yD_init cD_init 1 none ∈ zT := zin (List.mem_of_getElem? (i := 52) (by decide +kernel)) rfl
theorem wc_D_fit : Cond.code yD_fit cD_fit 5 none ∈ zT := zin (List.mem_of_getElem? (i := 57) (by decide +kernel)) rfl
theorem wc_F_ratio : Cond.code yF_ratio cF_ratio 2 (.some .int) ∈ zT := zin (List.mem_of_getElem? (i := 61) (by decide +kernel)) rfl
theorem wc_F_power : Cond.code yF_power cF_power 5 (.some .int) ∈ zT := zin (List.mem_of_getElem? (i := 65) (by decide +kernel)) rfl
theorem wc_F_product : Cond.code yF_product cF_product 2 (.some .int) ∈ zT := zin (List.mem_of_getElem? (i := 68) (by decide +kernel)) rfl
theorem wc_K_init : Cond.code yK_init cK_init 1 none ∈ zT := zin (List.mem_of_getElem? (i := 86) (by decide +kernel)) rfl
theorem wc_Q_init : Cond.code yQ_init cQ_init 1 none ∈ zT := zin (List.mem_of_getElem? (i := 120) (by decide +kernel)) rfl
theorem wc_M_open : Cond.code yM_open cM_open 1 (.some .int) ∈ zT := zin (List.mem_of_getElem? (i := 169) (by decide +kernel)) rfl
theorem wc_C_firstOpen : Cond.code yC_firstOpen cC_firstOpen 4 (.some .int) ∈ zT := zin (List.mem_of_getElem? (i := 173) (by decide +kernel)) rfl
theorem wc_C_rowSum : Cond.code yC_rowSum cC_rowSum 7 (.some .int) ∈ zT := zin (List.mem_of_getElem? (i := 177) (by decide +kernel)) rfl
theorem wc_C_start : Cond.code yC_start cC_start 2 (.some .int) ∈ zT := zin (List.mem_of_getElem? (i := 180) (by decide +kernel)) rfl
theorem wc_F_sum : Cond.code yF_sum cF_sum 3 (.some .int) ∈ zT := zin (List.mem_of_getElem? (i := 184) (by decide +kernel)) rfl
theorem wc_M_proof : Cond.code yM_proof cM_proof 2 (.some .int) ∈ zT := zin (List.mem_of_getElem? (i := 189) (by decide +kernel)) rfl
theorem wc_Q_isMade : Cond.code yQ_isMade cQ_isMade 1 (.some .boolean) ∈ zT := zin (List.mem_of_getElem? (i := 193) (by decide +kernel)) rfl
theorem wc_M_isBelow : Cond.code yM_isBelow cM_isBelow 2 (.some .boolean) ∈ zT := zin (List.mem_of_getElem? (i := 196) (by decide +kernel)) rfl
theorem wc_Q_element : Cond.code yQ_element cQ_element 2 (.some .int) ∈ zT := zin (List.mem_of_getElem? (i := 200) (by decide +kernel)) rfl
theorem wc_M_quotient : Cond.code yM_quotient cM_quotient 2 (.some .int) ∈ zT := zin (List.mem_of_getElem? (i := 204) (by decide +kernel)) rfl
theorem wc_Q_quotientCoefficient : Cond.code yQ_quotientCoefficient cQ_quotientCoefficient 2 (.some .int) ∈ zT := zin (List.mem_of_getElem? (i := 208) (by decide +kernel)) rfl
theorem wc_M_polynomial : Cond.code yM_polynomial cM_polynomial 4 (.some .int) ∈ zT := zin (List.mem_of_getElem? (i := 212) (by decide +kernel)) rfl
theorem wc_D_size : Cond.code yD_size cD_size 1 (.some .int) ∈ zT := zin (List.mem_of_getElem? (i := 216) (by decide +kernel)) rfl
theorem wc_C_column : Cond.code yC_column cC_column 5 none ∈ zT := zin (List.mem_of_getElem? (i := 220) (by decide +kernel)) rfl
theorem wc_D_coefficient : Cond.code yD_coefficient cD_coefficient 5 (.some .int) ∈ zT := zin (List.mem_of_getElem? (i := 224) (by decide +kernel)) rfl
theorem wc_M_key : Cond.code yM_key cM_key 3 (.some .int) ∈ zT := zin (List.mem_of_getElem? (i := 229) (by decide +kernel)) rfl
theorem wc_K_isMade : Cond.code yK_isMade cK_isMade 1 (.some .boolean) ∈ zT := zin (List.mem_of_getElem? (i := 233) (by decide +kernel)) rfl
theorem wc_K_tau : Cond.code yK_tau cK_tau 1 (.some .int) ∈ zT := zin (List.mem_of_getElem? (i := 237) (by decide +kernel)) rfl
theorem wc_K_sharedMix : Cond.code yK_sharedMix cK_sharedMix 3 (.some .int) ∈ zT := zin (List.mem_of_getElem? (i := 242) (by decide +kernel)) rfl
theorem wc_K_vanishingStep : Cond.code yK_vanishingStep cK_vanishingStep 2 (.some .int) ∈ zT := zin (List.mem_of_getElem? (i := 247) (by decide +kernel)) rfl
theorem wc_M_about : Cond.code yM_about cM_about 2 (.some .int) ∈ zT := zin (List.mem_of_getElem? (i := 253) (by decide +kernel)) rfl
theorem wc_C_count : Cond.code yC_count cC_count 1 (.some .int) ∈ zT := zin (List.mem_of_getElem? (i := 257) (by decide +kernel)) rfl
theorem wc_M_term : Cond.code yM_term cM_term 4 (.some .int) ∈ zT := zin (List.mem_of_getElem? (i := 265) (by decide +kernel)) rfl
theorem wc_C_growDraft : Cond.code yC_growDraft cC_growDraft 5 (.some .int) ∈ zT := zin (List.mem_of_getElem? (i := 333) (by decide +kernel)) rfl
theorem wc_M_constraint : Cond.code yM_constraint cM_constraint 2 (.some .int) ∈ zT := zin (List.mem_of_getElem? (i := 341) (by decide +kernel)) rfl
theorem wc_C_closeDraft : Cond.code yC_closeDraft cC_closeDraft 2 (.some .int) ∈ zT := zin (List.mem_of_getElem? (i := 360) (by decide +kernel)) rfl
theorem wc_K_drop : Cond.code yK_drop cK_drop 1 none ∈ zT := zin (List.mem_of_getElem? (i := 365) (by decide +kernel)) rfl
theorem wc_M_publics : Cond.code yM_publics cM_publics 2 (.some .boolean) ∈ zT := zin (List.mem_of_getElem? (i := 372) (by decide +kernel)) rfl
theorem wc_M_value : Cond.code yM_value cM_value 3 (.some .boolean) ∈ zT := zin (List.mem_of_getElem? (i := 379) (by decide +kernel)) rfl
theorem wc_M_setup : Cond.code yM_setup cM_setup 6 (.some .int) ∈ zT := zin (List.mem_of_getElem? (i := 387) (by decide +kernel)) rfl
theorem wc_M_isUnit : Cond.code yM_isUnit cM_isUnit 1 (.some .boolean) ∈ zT := zin (List.mem_of_getElem? (i := 390) (by decide +kernel)) rfl
theorem wc_D_vanishingAt : Cond.code yD_vanishingAt cD_vanishingAt 2 (.some .int) ∈ zT := zin (List.mem_of_getElem? (i := 394) (by decide +kernel)) rfl
theorem wc_F_difference : Cond.code yF_difference cF_difference 2 (.some .int) ∈ zT := zin (List.mem_of_getElem? (i := 397) (by decide +kernel)) rfl
theorem wc_K_take : Cond.code yK_take cK_take 6 none ∈ zT := zin (List.mem_of_getElem? (i := 416) (by decide +kernel)) rfl
theorem wc_K_mixAll : Cond.code yK_mixAll cK_mixAll 6 none ∈ zT := zin (List.mem_of_getElem? (i := 420) (by decide +kernel)) rfl
theorem wc_D_weight : Cond.code yD_weight cD_weight 6 (.some .int) ∈ zT := zin (List.mem_of_getElem? (i := 426) (by decide +kernel)) rfl
theorem wc_C_columnAt : Cond.code yC_columnAt cC_columnAt 6 (.some .int) ∈ zT := zin (List.mem_of_getElem? (i := 430) (by decide +kernel)) rfl
theorem wc_M_prove : Cond.code yM_prove cM_prove 3 (.some .boolean) ∈ zT := zin (List.mem_of_getElem? (i := 438) (by decide +kernel)) rfl
theorem wc_C_rowSums : Cond.code yC_rowSums cC_rowSums 5 none ∈ zT := zin (List.mem_of_getElem? (i := 442) (by decide +kernel)) rfl
theorem wc_D_interpolate : Cond.code yD_interpolate cD_interpolate 4 none ∈ zT := zin (List.mem_of_getElem? (i := 446) (by decide +kernel)) rfl
theorem wc_Q_divide : Cond.code yQ_divide cQ_divide 7 none ∈ zT := zin (List.mem_of_getElem? (i := 451) (by decide +kernel)) rfl
theorem wc_M_makeElements : Cond.code yM_makeElements cM_makeElements 8 none ∈ zT := zin (List.mem_of_getElem? (i := 457) (by decide +kernel)) rfl
theorem wc_K_delta : Cond.code yK_delta cK_delta 1 (.some .int) ∈ zT := zin (List.mem_of_getElem? (i := 461) (by decide +kernel)) rfl
theorem wc_K_firstElement : Cond.code yK_firstElement cK_firstElement 2 (.some .int) ∈ zT := zin (List.mem_of_getElem? (i := 465) (by decide +kernel)) rfl
theorem wc_K_atTau : Cond.code yK_atTau cK_atTau 4 (.some .int) ∈ zT := zin (List.mem_of_getElem? (i := 469) (by decide +kernel)) rfl
theorem wc_K_secondElement : Cond.code yK_secondElement cK_secondElement 2 (.some .int) ∈ zT := zin (List.mem_of_getElem? (i := 475) (by decide +kernel)) rfl
theorem wc_K_mixSum : Cond.code yK_mixSum cK_mixSum 6 (.some .int) ∈ zT := zin (List.mem_of_getElem? (i := 479) (by decide +kernel)) rfl
theorem wc_Q_quotientAt : Cond.code yQ_quotientAt cQ_quotientAt 4 (.some .int) ∈ zT := zin (List.mem_of_getElem? (i := 483) (by decide +kernel)) rfl
theorem wc_K_vanishing : Cond.code yK_vanishing cK_vanishing 1 (.some .int) ∈ zT := zin (List.mem_of_getElem? (i := 487) (by decide +kernel)) rfl
theorem wc_Q_keep : Cond.code yQ_keep cQ_keep 4 none ∈ zT := zin (List.mem_of_getElem? (i := 493) (by decide +kernel)) rfl
theorem wc_M_alter : Cond.code yM_alter cM_alter 3 (.some .boolean) ∈ zT := zin (List.mem_of_getElem? (i := 500) (by decide +kernel)) rfl
theorem wc_Q_setElement : Cond.code yQ_setElement cQ_setElement 3 none ∈ zT := zin (List.mem_of_getElem? (i := 504) (by decide +kernel)) rfl
theorem wc_M_input : Cond.code yM_input cM_input 3 (.some .boolean) ∈ zT := zin (List.mem_of_getElem? (i := 511) (by decide +kernel)) rfl
theorem wc_M_verify : Cond.code yM_verify cM_verify 3 (.some .boolean) ∈ zT := zin (List.mem_of_getElem? (i := 518) (by decide +kernel)) rfl
theorem wc_K_alpha : Cond.code yK_alpha cK_alpha 1 (.some .int) ∈ zT := zin (List.mem_of_getElem? (i := 522) (by decide +kernel)) rfl
theorem wc_K_beta : Cond.code yK_beta cK_beta 1 (.some .int) ∈ zT := zin (List.mem_of_getElem? (i := 526) (by decide +kernel)) rfl
theorem wc_T_init : Cond.code yT_init cT_init 1 none ∈ zT := zin (List.mem_of_getElem? (i := 531) (by decide +kernel)) rfl
theorem wc_T_thrown : Cond.code yT_thrown cT_thrown 1 (.some .int) ∈ zT := zin (List.mem_of_getElem? (i := 595) (by decide +kernel)) rfl
theorem wc_T_term : Cond.code yT_term cT_term 5 (.some .int) ∈ zT := zin (List.mem_of_getElem? (i := 599) (by decide +kernel)) rfl
theorem wc_T_isNumber : Cond.code yT_isNumber cT_isNumber 1 (.some .boolean) ∈ zT := zin (List.mem_of_getElem? (i := 602) (by decide +kernel)) rfl
theorem wc_T_constraint : Cond.code yT_constraint cT_constraint 2 (.some .int) ∈ zT := zin (List.mem_of_getElem? (i := 607) (by decide +kernel)) rfl
theorem wc_T_publics : Cond.code yT_publics cT_publics 2 (.some .boolean) ∈ zT := zin (List.mem_of_getElem? (i := 611) (by decide +kernel)) rfl
theorem wc_T_value : Cond.code yT_value cT_value 3 (.some .boolean) ∈ zT := zin (List.mem_of_getElem? (i := 615) (by decide +kernel)) rfl
theorem wc_T_open : Cond.code yT_open cT_open 1 (.some .int) ∈ zT := zin (List.mem_of_getElem? (i := 619) (by decide +kernel)) rfl
theorem wc_T_firstOpen : Cond.code yT_firstOpen cT_firstOpen 4 (.some .int) ∈ zT := zin (List.mem_of_getElem? (i := 623) (by decide +kernel)) rfl
theorem wc_T_sumOf : Cond.code yT_sumOf cT_sumOf 6 (.some .long) ∈ zT := zin (List.mem_of_getElem? (i := 627) (by decide +kernel)) rfl
theorem wc_T_polynomial : Cond.code yT_polynomial cT_polynomial 4 (.some .int) ∈ zT := zin (List.mem_of_getElem? (i := 631) (by decide +kernel)) rfl
theorem wc_T_size : Cond.code yT_size cT_size 1 (.some .int) ∈ zT := zin (List.mem_of_getElem? (i := 635) (by decide +kernel)) rfl
theorem wc_T_coefficient : Cond.code yT_coefficient cT_coefficient 14 (.some .long) ∈ zT := zin (List.mem_of_getElem? (i := 639) (by decide +kernel)) rfl
theorem wc_T_power : Cond.code yT_power cT_power 9 (.some .long) ∈ zT := zin (List.mem_of_getElem? (i := 644) (by decide +kernel)) rfl
theorem wc_T_inverse : Cond.code yT_inverse cT_inverse 2 (.some .long) ∈ zT := zin (List.mem_of_getElem? (i := 647) (by decide +kernel)) rfl
theorem wc_T_setup : Cond.code yT_setup cT_setup 14 (.some .int) ∈ zT := zin (List.mem_of_getElem? (i := 652) (by decide +kernel)) rfl
theorem wc_T_less : Cond.code yT_less cT_less 4 (.some .long) ∈ zT := zin (List.mem_of_getElem? (i := 655) (by decide +kernel)) rfl
theorem wc_T_atTau : Cond.code yT_atTau cT_atTau 6 (.some .long) ∈ zT := zin (List.mem_of_getElem? (i := 659) (by decide +kernel)) rfl
theorem wc_T_prove : Cond.code yT_prove cT_prove 12 (.some .boolean) ∈ zT := zin (List.mem_of_getElem? (i := 663) (by decide +kernel)) rfl
theorem wc_T_sum : Cond.code yT_sum cT_sum 6 none ∈ zT := zin (List.mem_of_getElem? (i := 667) (by decide +kernel)) rfl
theorem wc_T_divide : Cond.code yT_divide cT_divide 5 none ∈ zT := zin (List.mem_of_getElem? (i := 671) (by decide +kernel)) rfl
theorem wc_T_sumAtTau : Cond.code yT_sumAtTau cT_sumAtTau 5 (.some .long) ∈ zT := zin (List.mem_of_getElem? (i := 675) (by decide +kernel)) rfl
theorem wc_T_alter : Cond.code yT_alter cT_alter 3 (.some .boolean) ∈ zT := zin (List.mem_of_getElem? (i := 679) (by decide +kernel)) rfl
theorem wc_T_input : Cond.code yT_input cT_input 3 (.some .boolean) ∈ zT := zin (List.mem_of_getElem? (i := 683) (by decide +kernel)) rfl
theorem wc_T_verify : Cond.code yT_verify cT_verify 4 (.some .boolean) ∈ zT := zin (List.mem_of_getElem? (i := 687) (by decide +kernel)) rfl
theorem wc_T_proof : Cond.code yT_proof cT_proof 2 (.some .int) ∈ zT := zin (List.mem_of_getElem? (i := 691) (by decide +kernel)) rfl
theorem wc_T_quotient : Cond.code yT_quotient cT_quotient 2 (.some .int) ∈ zT := zin (List.mem_of_getElem? (i := 695) (by decide +kernel)) rfl
theorem wc_T_key : Cond.code yT_key cT_key 3 (.some .int) ∈ zT := zin (List.mem_of_getElem? (i := 699) (by decide +kernel)) rfl
theorem wc_T_about : Cond.code yT_about cT_about 2 (.some .int) ∈ zT := zin (List.mem_of_getElem? (i := 703) (by decide +kernel)) rfl
theorem wn_L : Cond.initialized RL ∈ zT := zin (List.mem_of_getElem? (i := 12) (by decide +kernel)) rfl
theorem wn_M : Cond.initialized RM ∈ zT := zin (List.mem_of_getElem? (i := 13) (by decide +kernel)) rfl
theorem wn_C : Cond.initialized RC ∈ zT := zin (List.mem_of_getElem? (i := 14) (by decide +kernel)) rfl
theorem wn_D : Cond.initialized RD ∈ zT := zin (List.mem_of_getElem? (i := 15) (by decide +kernel)) rfl
theorem wn_F : Cond.initialized RF ∈ zT := zin (List.mem_of_getElem? (i := 16) (by decide +kernel)) rfl
theorem wn_K : Cond.initialized RK ∈ zT := zin (List.mem_of_getElem? (i := 17) (by decide +kernel)) rfl
theorem wn_Q : Cond.initialized RQ ∈ zT := zin (List.mem_of_getElem? (i := 18) (by decide +kernel)) rfl
theorem wn_T : Cond.initialized RT ∈ zT := zin (List.mem_of_getElem? (i := 19) (by decide +kernel)) rfl
theorem wx_L_8 : Cond.classLink RL 8 RM ∈ zT := zin (List.mem_of_getElem? (i := 26) (by decide +kernel)) rfl
theorem wt_M : Cond.instantiable RM 11 ∈ zT := zin (List.mem_of_getElem? (i := 27) (by decide +kernel)) rfl
theorem wl_L_48 : Cond.methodLink RL 48 yM_init ∈ zT := zin (List.mem_of_getElem? (i := 28) (by decide +kernel)) rfl
theorem wi_M_init : Cond.instanceMethod yM_init ∈ zT := zin (List.mem_of_getElem? (i := 29) (by decide +kernel)) rfl
theorem wl_M_1 : Cond.methodLink RM 1 objectInit ∈ zT := zin (List.mem_of_getElem? (i := 31) (by decide +kernel)) rfl
theorem wx_M_7 : Cond.classLink RM 7 RC ∈ zT := zin (List.mem_of_getElem? (i := 34) (by decide +kernel)) rfl
theorem wt_C : Cond.instantiable RC 2 ∈ zT := zin (List.mem_of_getElem? (i := 35) (by decide +kernel)) rfl
theorem wl_M_9 : Cond.methodLink RM 9 yC_init ∈ zT := zin (List.mem_of_getElem? (i := 36) (by decide +kernel)) rfl
theorem wi_C_init : Cond.instanceMethod yC_init ∈ zT := zin (List.mem_of_getElem? (i := 37) (by decide +kernel)) rfl
theorem wl_C_3 : Cond.methodLink RC 3 objectInit ∈ zT := zin (List.mem_of_getElem? (i := 39) (by decide +kernel)) rfl
theorem wf_C_9 : Cond.fieldLink RC 9 RC (TC 0).2.1 (TC 0).2.2.1 ∈ zT := zin (List.mem_of_getElem? (i := 40) (by decide +kernel)) rfl
theorem wf_C_15 : Cond.fieldLink RC 15 RC (TC 1).2.1 (TC 1).2.2.1 ∈ zT := zin (List.mem_of_getElem? (i := 41) (by decide +kernel)) rfl
theorem wa_int : Cond.arrayClass .int ∈ zT := zin (List.mem_of_getElem? (i := 47) (by decide +kernel)) rfl
theorem wx_M_16 : Cond.classLink RM 16 RD ∈ zT := zin (List.mem_of_getElem? (i := 48) (by decide +kernel)) rfl
theorem wt_D : Cond.instantiable RD 3 ∈ zT := zin (List.mem_of_getElem? (i := 49) (by decide +kernel)) rfl
theorem wl_M_18 : Cond.methodLink RM 18 yD_init ∈ zT := zin (List.mem_of_getElem? (i := 50) (by decide +kernel)) rfl
theorem wi_D_init : Cond.instanceMethod yD_init ∈ zT := zin (List.mem_of_getElem? (i := 51) (by decide +kernel)) rfl
theorem wl_D_3 : Cond.methodLink RD 3 objectInit ∈ zT := zin (List.mem_of_getElem? (i := 53) (by decide +kernel)) rfl
theorem wl_D_15 : Cond.methodLink RD 15 yD_fit ∈ zT := zin (List.mem_of_getElem? (i := 54) (by decide +kernel)) rfl
theorem wi_D_fit : Cond.instanceMethod yD_fit ∈ zT := zin (List.mem_of_getElem? (i := 55) (by decide +kernel)) rfl
theorem we_D_fit : Cond.selects RD yD_fit yD_fit ∈ zT := zin (List.mem_of_getElem? (i := 56) (by decide +kernel)) rfl
theorem wk_D_23 : Cond.constant RD 23 (499122176) ∈ zT := zin (List.mem_of_getElem? (i := 58) (by decide +kernel)) rfl
theorem wl_D_24 : Cond.methodLink RD 24 yF_ratio ∈ zT := zin (List.mem_of_getElem? (i := 59) (by decide +kernel)) rfl
theorem ws_F_ratio : Cond.static yF_ratio ∈ zT := zin (List.mem_of_getElem? (i := 60) (by decide +kernel)) rfl
theorem wk_F_18 : Cond.constant RF 18 (998244351) ∈ zT := zin (List.mem_of_getElem? (i := 62) (by decide +kernel)) rfl
theorem wl_F_19 : Cond.methodLink RF 19 yF_power ∈ zT := zin (List.mem_of_getElem? (i := 63) (by decide +kernel)) rfl
theorem ws_F_power : Cond.static yF_power ∈ zT := zin (List.mem_of_getElem? (i := 64) (by decide +kernel)) rfl
theorem wl_F_12 : Cond.methodLink RF 12 yF_product ∈ zT := zin (List.mem_of_getElem? (i := 66) (by decide +kernel)) rfl
theorem ws_F_product : Cond.static yF_product ∈ zT := zin (List.mem_of_getElem? (i := 67) (by decide +kernel)) rfl
theorem wk_F_10 : Cond.constantLong RF 10 (998244353) ∈ zT := zin (List.mem_of_getElem? (i := 69) (by decide +kernel)) rfl
theorem wl_D_33 : Cond.methodLink RD 33 yF_power ∈ zT := zin (List.mem_of_getElem? (i := 70) (by decide +kernel)) rfl
theorem wl_D_36 : Cond.methodLink RD 36 yF_product ∈ zT := zin (List.mem_of_getElem? (i := 71) (by decide +kernel)) rfl
theorem wf_D_9 : Cond.fieldLink RD 9 RD (TD 0).2.1 (TD 0).2.2.1 ∈ zT := zin (List.mem_of_getElem? (i := 72) (by decide +kernel)) rfl
theorem wf_D_19 : Cond.fieldLink RD 19 RD (TD 1).2.1 (TD 1).2.2.1 ∈ zT := zin (List.mem_of_getElem? (i := 73) (by decide +kernel)) rfl
theorem wf_D_30 : Cond.fieldLink RD 30 RD (TD 2).2.1 (TD 2).2.2.1 ∈ zT := zin (List.mem_of_getElem? (i := 74) (by decide +kernel)) rfl
theorem wx_M_23 : Cond.classLink RM 23 RK ∈ zT := zin (List.mem_of_getElem? (i := 82) (by decide +kernel)) rfl
theorem wt_K : Cond.instantiable RK 9 ∈ zT := zin (List.mem_of_getElem? (i := 83) (by decide +kernel)) rfl
theorem wl_M_25 : Cond.methodLink RM 25 yK_init ∈ zT := zin (List.mem_of_getElem? (i := 84) (by decide +kernel)) rfl
theorem wi_K_init : Cond.instanceMethod yK_init ∈ zT := zin (List.mem_of_getElem? (i := 85) (by decide +kernel)) rfl
theorem wl_K_3 : Cond.methodLink RK 3 objectInit ∈ zT := zin (List.mem_of_getElem? (i := 87) (by decide +kernel)) rfl
theorem wf_K_9 : Cond.fieldLink RK 9 RK (TK 0).2.1 (TK 0).2.2.1 ∈ zT := zin (List.mem_of_getElem? (i := 88) (by decide +kernel)) rfl
theorem wf_K_15 : Cond.fieldLink RK 15 RK (TK 1).2.1 (TK 1).2.2.1 ∈ zT := zin (List.mem_of_getElem? (i := 89) (by decide +kernel)) rfl
theorem wf_K_18 : Cond.fieldLink RK 18 RK (TK 2).2.1 (TK 2).2.2.1 ∈ zT := zin (List.mem_of_getElem? (i := 90) (by decide +kernel)) rfl
theorem wf_K_22 : Cond.fieldLink RK 22 RK (TK 3).2.1 (TK 3).2.2.1 ∈ zT := zin (List.mem_of_getElem? (i := 91) (by decide +kernel)) rfl
theorem wf_K_26 : Cond.fieldLink RK 26 RK (TK 4).2.1 (TK 4).2.2.1 ∈ zT := zin (List.mem_of_getElem? (i := 92) (by decide +kernel)) rfl
theorem wf_K_29 : Cond.fieldLink RK 29 RK (TK 5).2.1 (TK 5).2.2.1 ∈ zT := zin (List.mem_of_getElem? (i := 93) (by decide +kernel)) rfl
theorem wf_K_38 : Cond.fieldLink RK 38 RK (TK 6).2.1 (TK 6).2.2.1 ∈ zT := zin (List.mem_of_getElem? (i := 94) (by decide +kernel)) rfl
theorem wf_K_32 : Cond.fieldLink RK 32 RK (TK 7).2.1 (TK 7).2.2.1 ∈ zT := zin (List.mem_of_getElem? (i := 95) (by decide +kernel)) rfl
theorem wf_K_35 : Cond.fieldLink RK 35 RK (TK 8).2.1 (TK 8).2.2.1 ∈ zT := zin (List.mem_of_getElem? (i := 96) (by decide +kernel)) rfl
theorem wx_M_30 : Cond.classLink RM 30 RQ ∈ zT := zin (List.mem_of_getElem? (i := 116) (by decide +kernel)) rfl
theorem wt_Q : Cond.instantiable RQ 3 ∈ zT := zin (List.mem_of_getElem? (i := 117) (by decide +kernel)) rfl
theorem wl_M_32 : Cond.methodLink RM 32 yQ_init ∈ zT := zin (List.mem_of_getElem? (i := 118) (by decide +kernel)) rfl
theorem wi_Q_init : Cond.instanceMethod yQ_init ∈ zT := zin (List.mem_of_getElem? (i := 119) (by decide +kernel)) rfl
theorem wl_Q_3 : Cond.methodLink RQ 3 objectInit ∈ zT := zin (List.mem_of_getElem? (i := 121) (by decide +kernel)) rfl
theorem wf_Q_9 : Cond.fieldLink RQ 9 RQ (TQ 0).2.1 (TQ 0).2.2.1 ∈ zT := zin (List.mem_of_getElem? (i := 122) (by decide +kernel)) rfl
theorem wf_Q_15 : Cond.fieldLink RQ 15 RQ (TQ 1).2.1 (TQ 1).2.2.1 ∈ zT := zin (List.mem_of_getElem? (i := 123) (by decide +kernel)) rfl
theorem wf_Q_18 : Cond.fieldLink RQ 18 RQ (TQ 2).2.1 (TQ 2).2.2.1 ∈ zT := zin (List.mem_of_getElem? (i := 124) (by decide +kernel)) rfl
theorem wf_M_10 : Cond.fieldLink RM 10 RM (TM 0).2.1 (TM 0).2.2.1 ∈ zT := zin (List.mem_of_getElem? (i := 132) (by decide +kernel)) rfl
theorem wf_M_19 : Cond.fieldLink RM 19 RM (TM 1).2.1 (TM 1).2.2.1 ∈ zT := zin (List.mem_of_getElem? (i := 133) (by decide +kernel)) rfl
theorem wf_M_26 : Cond.fieldLink RM 26 RM (TM 2).2.1 (TM 2).2.2.1 ∈ zT := zin (List.mem_of_getElem? (i := 134) (by decide +kernel)) rfl
theorem wf_M_33 : Cond.fieldLink RM 33 RM (TM 3).2.1 (TM 3).2.2.1 ∈ zT := zin (List.mem_of_getElem? (i := 135) (by decide +kernel)) rfl
theorem wf_M_37 : Cond.fieldLink RM 37 RM (TM 4).2.1 (TM 4).2.2.1 ∈ zT := zin (List.mem_of_getElem? (i := 136) (by decide +kernel)) rfl
theorem wf_M_41 : Cond.fieldLink RM 41 RM (TM 5).2.1 (TM 5).2.2.1 ∈ zT := zin (List.mem_of_getElem? (i := 137) (by decide +kernel)) rfl
theorem wf_M_85 : Cond.fieldLink RM 85 RM (TM 6).2.1 (TM 6).2.2.1 ∈ zT := zin (List.mem_of_getElem? (i := 138) (by decide +kernel)) rfl
theorem wf_M_44 : Cond.fieldLink RM 44 RM (TM 7).2.1 (TM 7).2.2.1 ∈ zT := zin (List.mem_of_getElem? (i := 139) (by decide +kernel)) rfl
theorem wf_M_47 : Cond.fieldLink RM 47 RM (TM 8).2.1 (TM 8).2.2.1 ∈ zT := zin (List.mem_of_getElem? (i := 140) (by decide +kernel)) rfl
theorem wf_M_50 : Cond.fieldLink RM 50 RM (TM 9).2.1 (TM 9).2.2.1 ∈ zT := zin (List.mem_of_getElem? (i := 141) (by decide +kernel)) rfl
theorem wf_M_53 : Cond.fieldLink RM 53 RM (TM 10).2.1 (TM 10).2.2.1 ∈ zT := zin (List.mem_of_getElem? (i := 142) (by decide +kernel)) rfl
theorem wl_L_73 : Cond.methodLink RL 73 yM_open ∈ zT := zin (List.mem_of_getElem? (i := 166) (by decide +kernel)) rfl
theorem wi_M_open : Cond.instanceMethod yM_open ∈ zT := zin (List.mem_of_getElem? (i := 167) (by decide +kernel)) rfl
theorem we_M_open : Cond.selects RM yM_open yM_open ∈ zT := zin (List.mem_of_getElem? (i := 168) (by decide +kernel)) rfl
theorem wl_M_89 : Cond.methodLink RM 89 yC_firstOpen ∈ zT := zin (List.mem_of_getElem? (i := 170) (by decide +kernel)) rfl
theorem wi_C_firstOpen : Cond.instanceMethod yC_firstOpen ∈ zT := zin (List.mem_of_getElem? (i := 171) (by decide +kernel)) rfl
theorem we_C_firstOpen : Cond.selects RC yC_firstOpen yC_firstOpen ∈ zT := zin (List.mem_of_getElem? (i := 172) (by decide +kernel)) rfl
theorem wl_C_28 : Cond.methodLink RC 28 yC_rowSum ∈ zT := zin (List.mem_of_getElem? (i := 174) (by decide +kernel)) rfl
theorem wi_C_rowSum : Cond.instanceMethod yC_rowSum ∈ zT := zin (List.mem_of_getElem? (i := 176) (by decide +kernel)) rfl
theorem wl_C_19 : Cond.methodLink RC 19 yC_start ∈ zT := zin (List.mem_of_getElem? (i := 178) (by decide +kernel)) rfl
theorem ws_C_start : Cond.static yC_start ∈ zT := zin (List.mem_of_getElem? (i := 179) (by decide +kernel)) rfl
theorem wl_C_32 : Cond.methodLink RC 32 yF_product ∈ zT := zin (List.mem_of_getElem? (i := 181) (by decide +kernel)) rfl
theorem wl_C_23 : Cond.methodLink RC 23 yF_sum ∈ zT := zin (List.mem_of_getElem? (i := 182) (by decide +kernel)) rfl
theorem ws_F_sum : Cond.static yF_sum ∈ zT := zin (List.mem_of_getElem? (i := 183) (by decide +kernel)) rfl
theorem wk_F_9 : Cond.constant RF 9 (998244353) ∈ zT := zin (List.mem_of_getElem? (i := 185) (by decide +kernel)) rfl
theorem wl_L_93 : Cond.methodLink RL 93 yM_proof ∈ zT := zin (List.mem_of_getElem? (i := 186) (by decide +kernel)) rfl
theorem wi_M_proof : Cond.instanceMethod yM_proof ∈ zT := zin (List.mem_of_getElem? (i := 187) (by decide +kernel)) rfl
theorem we_M_proof : Cond.selects RM yM_proof yM_proof ∈ zT := zin (List.mem_of_getElem? (i := 188) (by decide +kernel)) rfl
theorem wl_M_176 : Cond.methodLink RM 176 yQ_isMade ∈ zT := zin (List.mem_of_getElem? (i := 190) (by decide +kernel)) rfl
theorem wi_Q_isMade : Cond.instanceMethod yQ_isMade ∈ zT := zin (List.mem_of_getElem? (i := 191) (by decide +kernel)) rfl
theorem we_Q_isMade : Cond.selects RQ yQ_isMade yQ_isMade ∈ zT := zin (List.mem_of_getElem? (i := 192) (by decide +kernel)) rfl
theorem wl_M_56 : Cond.methodLink RM 56 yM_isBelow ∈ zT := zin (List.mem_of_getElem? (i := 194) (by decide +kernel)) rfl
theorem ws_M_isBelow : Cond.static yM_isBelow ∈ zT := zin (List.mem_of_getElem? (i := 195) (by decide +kernel)) rfl
theorem wl_M_180 : Cond.methodLink RM 180 yQ_element ∈ zT := zin (List.mem_of_getElem? (i := 197) (by decide +kernel)) rfl
theorem wi_Q_element : Cond.instanceMethod yQ_element ∈ zT := zin (List.mem_of_getElem? (i := 198) (by decide +kernel)) rfl
theorem we_Q_element : Cond.selects RQ yQ_element yQ_element ∈ zT := zin (List.mem_of_getElem? (i := 199) (by decide +kernel)) rfl
theorem wl_L_98 : Cond.methodLink RL 98 yM_quotient ∈ zT := zin (List.mem_of_getElem? (i := 201) (by decide +kernel)) rfl
theorem wi_M_quotient : Cond.instanceMethod yM_quotient ∈ zT := zin (List.mem_of_getElem? (i := 202) (by decide +kernel)) rfl
theorem we_M_quotient : Cond.selects RM yM_quotient yM_quotient ∈ zT := zin (List.mem_of_getElem? (i := 203) (by decide +kernel)) rfl
theorem wl_M_189 : Cond.methodLink RM 189 yQ_quotientCoefficient ∈ zT := zin (List.mem_of_getElem? (i := 205) (by decide +kernel)) rfl
theorem wi_Q_quotientCoefficient : Cond.instanceMethod yQ_quotientCoefficient ∈ zT := zin (List.mem_of_getElem? (i := 206) (by decide +kernel)) rfl
theorem we_Q_quotientCoefficient : Cond.selects RQ yQ_quotientCoefficient yQ_quotientCoefficient ∈ zT := zin (List.mem_of_getElem? (i := 207) (by decide +kernel)) rfl
theorem wl_L_102 : Cond.methodLink RL 102 yM_polynomial ∈ zT := zin (List.mem_of_getElem? (i := 209) (by decide +kernel)) rfl
theorem wi_M_polynomial : Cond.instanceMethod yM_polynomial ∈ zT := zin (List.mem_of_getElem? (i := 210) (by decide +kernel)) rfl
theorem we_M_polynomial : Cond.selects RM yM_polynomial yM_polynomial ∈ zT := zin (List.mem_of_getElem? (i := 211) (by decide +kernel)) rfl
theorem wl_M_112 : Cond.methodLink RM 112 yD_size ∈ zT := zin (List.mem_of_getElem? (i := 213) (by decide +kernel)) rfl
theorem wi_D_size : Cond.instanceMethod yD_size ∈ zT := zin (List.mem_of_getElem? (i := 214) (by decide +kernel)) rfl
theorem we_D_size : Cond.selects RD yD_size yD_size ∈ zT := zin (List.mem_of_getElem? (i := 215) (by decide +kernel)) rfl
theorem wl_M_192 : Cond.methodLink RM 192 yC_column ∈ zT := zin (List.mem_of_getElem? (i := 217) (by decide +kernel)) rfl
theorem wi_C_column : Cond.instanceMethod yC_column ∈ zT := zin (List.mem_of_getElem? (i := 218) (by decide +kernel)) rfl
theorem we_C_column : Cond.selects RC yC_column yC_column ∈ zT := zin (List.mem_of_getElem? (i := 219) (by decide +kernel)) rfl
theorem wl_M_196 : Cond.methodLink RM 196 yD_coefficient ∈ zT := zin (List.mem_of_getElem? (i := 221) (by decide +kernel)) rfl
theorem wi_D_coefficient : Cond.instanceMethod yD_coefficient ∈ zT := zin (List.mem_of_getElem? (i := 222) (by decide +kernel)) rfl
theorem we_D_coefficient : Cond.selects RD yD_coefficient yD_coefficient ∈ zT := zin (List.mem_of_getElem? (i := 223) (by decide +kernel)) rfl
theorem wl_D_42 : Cond.methodLink RD 42 yF_sum ∈ zT := zin (List.mem_of_getElem? (i := 225) (by decide +kernel)) rfl
theorem wl_L_106 : Cond.methodLink RL 106 yM_key ∈ zT := zin (List.mem_of_getElem? (i := 226) (by decide +kernel)) rfl
theorem wi_M_key : Cond.instanceMethod yM_key ∈ zT := zin (List.mem_of_getElem? (i := 227) (by decide +kernel)) rfl
theorem we_M_key : Cond.selects RM yM_key yM_key ∈ zT := zin (List.mem_of_getElem? (i := 228) (by decide +kernel)) rfl
theorem wl_M_115 : Cond.methodLink RM 115 yK_isMade ∈ zT := zin (List.mem_of_getElem? (i := 230) (by decide +kernel)) rfl
theorem wi_K_isMade : Cond.instanceMethod yK_isMade ∈ zT := zin (List.mem_of_getElem? (i := 231) (by decide +kernel)) rfl
theorem we_K_isMade : Cond.selects RK yK_isMade yK_isMade ∈ zT := zin (List.mem_of_getElem? (i := 232) (by decide +kernel)) rfl
theorem wl_M_157 : Cond.methodLink RM 157 yK_tau ∈ zT := zin (List.mem_of_getElem? (i := 234) (by decide +kernel)) rfl
theorem wi_K_tau : Cond.instanceMethod yK_tau ∈ zT := zin (List.mem_of_getElem? (i := 235) (by decide +kernel)) rfl
theorem we_K_tau : Cond.selects RK yK_tau yK_tau ∈ zT := zin (List.mem_of_getElem? (i := 236) (by decide +kernel)) rfl
theorem wl_M_200 : Cond.methodLink RM 200 yF_power ∈ zT := zin (List.mem_of_getElem? (i := 238) (by decide +kernel)) rfl
theorem wl_M_203 : Cond.methodLink RM 203 yK_sharedMix ∈ zT := zin (List.mem_of_getElem? (i := 239) (by decide +kernel)) rfl
theorem wi_K_sharedMix : Cond.instanceMethod yK_sharedMix ∈ zT := zin (List.mem_of_getElem? (i := 240) (by decide +kernel)) rfl
theorem we_K_sharedMix : Cond.selects RK yK_sharedMix yK_sharedMix ∈ zT := zin (List.mem_of_getElem? (i := 241) (by decide +kernel)) rfl
theorem wl_K_73 : Cond.methodLink RK 73 yF_ratio ∈ zT := zin (List.mem_of_getElem? (i := 243) (by decide +kernel)) rfl
theorem wl_M_206 : Cond.methodLink RM 206 yK_vanishingStep ∈ zT := zin (List.mem_of_getElem? (i := 244) (by decide +kernel)) rfl
theorem wi_K_vanishingStep : Cond.instanceMethod yK_vanishingStep ∈ zT := zin (List.mem_of_getElem? (i := 245) (by decide +kernel)) rfl
theorem we_K_vanishingStep : Cond.selects RK yK_vanishingStep yK_vanishingStep ∈ zT := zin (List.mem_of_getElem? (i := 246) (by decide +kernel)) rfl
theorem wl_K_76 : Cond.methodLink RK 76 yF_power ∈ zT := zin (List.mem_of_getElem? (i := 248) (by decide +kernel)) rfl
theorem wl_K_61 : Cond.methodLink RK 61 yF_product ∈ zT := zin (List.mem_of_getElem? (i := 249) (by decide +kernel)) rfl
theorem wl_L_111 : Cond.methodLink RL 111 yM_about ∈ zT := zin (List.mem_of_getElem? (i := 250) (by decide +kernel)) rfl
theorem wi_M_about : Cond.instanceMethod yM_about ∈ zT := zin (List.mem_of_getElem? (i := 251) (by decide +kernel)) rfl
theorem we_M_about : Cond.selects RM yM_about yM_about ∈ zT := zin (List.mem_of_getElem? (i := 252) (by decide +kernel)) rfl
theorem wl_M_68 : Cond.methodLink RM 68 yC_count ∈ zT := zin (List.mem_of_getElem? (i := 254) (by decide +kernel)) rfl
theorem wi_C_count : Cond.instanceMethod yC_count ∈ zT := zin (List.mem_of_getElem? (i := 255) (by decide +kernel)) rfl
theorem we_C_count : Cond.selects RC yC_count yC_count ∈ zT := zin (List.mem_of_getElem? (i := 256) (by decide +kernel)) rfl
theorem wl_L_52 : Cond.methodLink RL 52 yL_term ∈ zT := zin (List.mem_of_getElem? (i := 258) (by decide +kernel)) rfl
theorem ws_L_term : Cond.static yL_term ∈ zT := zin (List.mem_of_getElem? (i := 259) (by decide +kernel)) rfl
theorem wx_L_13 : Cond.classLink RL 13 "java/lang/IllegalArgumentException" ∈ zT := zin (List.mem_of_getElem? (i := 261) (by decide +kernel)) rfl
theorem wl_L_7 : Cond.methodLink RL 7 yM_term ∈ zT := zin (List.mem_of_getElem? (i := 262) (by decide +kernel)) rfl
theorem wi_M_term : Cond.instanceMethod yM_term ∈ zT := zin (List.mem_of_getElem? (i := 263) (by decide +kernel)) rfl
theorem we_M_term : Cond.selects RM yM_term yM_term ∈ zT := zin (List.mem_of_getElem? (i := 264) (by decide +kernel)) rfl
theorem wk_M_60 : Cond.constant RM 60 (998244353) ∈ zT := zin (List.mem_of_getElem? (i := 266) (by decide +kernel)) rfl
theorem wx_M_61 : Cond.classLink RM 61 "java/lang/IllegalArgumentException" ∈ zT := zin (List.mem_of_getElem? (i := 267) (by decide +kernel)) rfl
theorem wl_M_63 : Cond.methodLink RM 63 ⟨"java/lang/IllegalArgumentException", "<init>", "()V"⟩ ∈ zT := zin (List.mem_of_getElem? (i := 308) (by decide +kernel)) rfl
theorem wl_M_64 : Cond.methodLink RM 64 yC_growDraft ∈ zT := zin (List.mem_of_getElem? (i := 330) (by decide +kernel)) rfl
theorem wi_C_growDraft : Cond.instanceMethod yC_growDraft ∈ zT := zin (List.mem_of_getElem? (i := 331) (by decide +kernel)) rfl
theorem we_C_growDraft : Cond.selects RC yC_growDraft yC_growDraft ∈ zT := zin (List.mem_of_getElem? (i := 332) (by decide +kernel)) rfl
theorem wl_L_61 : Cond.methodLink RL 61 yL_constraint ∈ zT := zin (List.mem_of_getElem? (i := 334) (by decide +kernel)) rfl
theorem ws_L_constraint : Cond.static yL_constraint ∈ zT := zin (List.mem_of_getElem? (i := 335) (by decide +kernel)) rfl
theorem wx_L_19 : Cond.classLink RL 19 "java/lang/IllegalStateException" ∈ zT := zin (List.mem_of_getElem? (i := 337) (by decide +kernel)) rfl
theorem wl_L_15 : Cond.methodLink RL 15 yM_constraint ∈ zT := zin (List.mem_of_getElem? (i := 338) (by decide +kernel)) rfl
theorem wi_M_constraint : Cond.instanceMethod yM_constraint ∈ zT := zin (List.mem_of_getElem? (i := 339) (by decide +kernel)) rfl
theorem we_M_constraint : Cond.selects RM yM_constraint yM_constraint ∈ zT := zin (List.mem_of_getElem? (i := 340) (by decide +kernel)) rfl
theorem wx_M_72 : Cond.classLink RM 72 "java/lang/IllegalStateException" ∈ zT := zin (List.mem_of_getElem? (i := 342) (by decide +kernel)) rfl
theorem wl_M_74 : Cond.methodLink RM 74 ⟨"java/lang/IllegalStateException", "<init>", "()V"⟩ ∈ zT := zin (List.mem_of_getElem? (i := 351) (by decide +kernel)) rfl
theorem wl_M_75 : Cond.methodLink RM 75 yC_closeDraft ∈ zT := zin (List.mem_of_getElem? (i := 357) (by decide +kernel)) rfl
theorem wi_C_closeDraft : Cond.instanceMethod yC_closeDraft ∈ zT := zin (List.mem_of_getElem? (i := 358) (by decide +kernel)) rfl
theorem we_C_closeDraft : Cond.selects RC yC_closeDraft yC_closeDraft ∈ zT := zin (List.mem_of_getElem? (i := 359) (by decide +kernel)) rfl
theorem wl_M_78 : Cond.methodLink RM 78 yD_fit ∈ zT := zin (List.mem_of_getElem? (i := 361) (by decide +kernel)) rfl
theorem wl_M_82 : Cond.methodLink RM 82 yK_drop ∈ zT := zin (List.mem_of_getElem? (i := 362) (by decide +kernel)) rfl
theorem wi_K_drop : Cond.instanceMethod yK_drop ∈ zT := zin (List.mem_of_getElem? (i := 363) (by decide +kernel)) rfl
theorem we_K_drop : Cond.selects RK yK_drop yK_drop ∈ zT := zin (List.mem_of_getElem? (i := 364) (by decide +kernel)) rfl
theorem wl_L_65 : Cond.methodLink RL 65 yL_publics ∈ zT := zin (List.mem_of_getElem? (i := 366) (by decide +kernel)) rfl
theorem ws_L_publics : Cond.static yL_publics ∈ zT := zin (List.mem_of_getElem? (i := 367) (by decide +kernel)) rfl
theorem wl_L_21 : Cond.methodLink RL 21 yM_publics ∈ zT := zin (List.mem_of_getElem? (i := 369) (by decide +kernel)) rfl
theorem wi_M_publics : Cond.instanceMethod yM_publics ∈ zT := zin (List.mem_of_getElem? (i := 370) (by decide +kernel)) rfl
theorem we_M_publics : Cond.selects RM yM_publics yM_publics ∈ zT := zin (List.mem_of_getElem? (i := 371) (by decide +kernel)) rfl
theorem wl_L_69 : Cond.methodLink RL 69 yL_value ∈ zT := zin (List.mem_of_getElem? (i := 373) (by decide +kernel)) rfl
theorem ws_L_value : Cond.static yL_value ∈ zT := zin (List.mem_of_getElem? (i := 374) (by decide +kernel)) rfl
theorem wl_L_25 : Cond.methodLink RL 25 yM_value ∈ zT := zin (List.mem_of_getElem? (i := 376) (by decide +kernel)) rfl
theorem wi_M_value : Cond.instanceMethod yM_value ∈ zT := zin (List.mem_of_getElem? (i := 377) (by decide +kernel)) rfl
theorem we_M_value : Cond.selects RM yM_value yM_value ∈ zT := zin (List.mem_of_getElem? (i := 378) (by decide +kernel)) rfl
theorem wl_L_77 : Cond.methodLink RL 77 yL_setup ∈ zT := zin (List.mem_of_getElem? (i := 380) (by decide +kernel)) rfl
theorem ws_L_setup : Cond.static yL_setup ∈ zT := zin (List.mem_of_getElem? (i := 381) (by decide +kernel)) rfl
theorem wx_L_33 : Cond.classLink RL 33 "java/lang/ArithmeticException" ∈ zT := zin (List.mem_of_getElem? (i := 383) (by decide +kernel)) rfl
theorem wl_L_29 : Cond.methodLink RL 29 yM_setup ∈ zT := zin (List.mem_of_getElem? (i := 384) (by decide +kernel)) rfl
theorem wi_M_setup : Cond.instanceMethod yM_setup ∈ zT := zin (List.mem_of_getElem? (i := 385) (by decide +kernel)) rfl
theorem we_M_setup : Cond.selects RM yM_setup yM_setup ∈ zT := zin (List.mem_of_getElem? (i := 386) (by decide +kernel)) rfl
theorem wl_M_93 : Cond.methodLink RM 93 yM_isUnit ∈ zT := zin (List.mem_of_getElem? (i := 388) (by decide +kernel)) rfl
theorem ws_M_isUnit : Cond.static yM_isUnit ∈ zT := zin (List.mem_of_getElem? (i := 389) (by decide +kernel)) rfl
theorem wl_M_97 : Cond.methodLink RM 97 yD_vanishingAt ∈ zT := zin (List.mem_of_getElem? (i := 391) (by decide +kernel)) rfl
theorem wi_D_vanishingAt : Cond.instanceMethod yD_vanishingAt ∈ zT := zin (List.mem_of_getElem? (i := 392) (by decide +kernel)) rfl
theorem we_D_vanishingAt : Cond.selects RD yD_vanishingAt yD_vanishingAt ∈ zT := zin (List.mem_of_getElem? (i := 393) (by decide +kernel)) rfl
theorem wl_D_39 : Cond.methodLink RD 39 yF_difference ∈ zT := zin (List.mem_of_getElem? (i := 395) (by decide +kernel)) rfl
theorem ws_F_difference : Cond.static yF_difference ∈ zT := zin (List.mem_of_getElem? (i := 396) (by decide +kernel)) rfl
theorem wx_M_101 : Cond.classLink RM 101 "java/lang/ArithmeticException" ∈ zT := zin (List.mem_of_getElem? (i := 398) (by decide +kernel)) rfl
theorem wl_M_103 : Cond.methodLink RM 103 ⟨"java/lang/ArithmeticException", "<init>", "()V"⟩ ∈ zT := zin (List.mem_of_getElem? (i := 407) (by decide +kernel)) rfl
theorem wl_M_104 : Cond.methodLink RM 104 yK_take ∈ zT := zin (List.mem_of_getElem? (i := 413) (by decide +kernel)) rfl
theorem wi_K_take : Cond.instanceMethod yK_take ∈ zT := zin (List.mem_of_getElem? (i := 414) (by decide +kernel)) rfl
theorem we_K_take : Cond.selects RK yK_take yK_take ∈ zT := zin (List.mem_of_getElem? (i := 415) (by decide +kernel)) rfl
theorem wl_M_108 : Cond.methodLink RM 108 yK_mixAll ∈ zT := zin (List.mem_of_getElem? (i := 417) (by decide +kernel)) rfl
theorem wi_K_mixAll : Cond.instanceMethod yK_mixAll ∈ zT := zin (List.mem_of_getElem? (i := 418) (by decide +kernel)) rfl
theorem we_K_mixAll : Cond.selects RK yK_mixAll yK_mixAll ∈ zT := zin (List.mem_of_getElem? (i := 419) (by decide +kernel)) rfl
theorem wl_K_41 : Cond.methodLink RK 41 yD_vanishingAt ∈ zT := zin (List.mem_of_getElem? (i := 421) (by decide +kernel)) rfl
theorem wl_K_47 : Cond.methodLink RK 47 yD_size ∈ zT := zin (List.mem_of_getElem? (i := 422) (by decide +kernel)) rfl
theorem wl_K_51 : Cond.methodLink RK 51 yD_weight ∈ zT := zin (List.mem_of_getElem? (i := 423) (by decide +kernel)) rfl
theorem wi_D_weight : Cond.instanceMethod yD_weight ∈ zT := zin (List.mem_of_getElem? (i := 424) (by decide +kernel)) rfl
theorem we_D_weight : Cond.selects RD yD_weight yD_weight ∈ zT := zin (List.mem_of_getElem? (i := 425) (by decide +kernel)) rfl
theorem wl_K_55 : Cond.methodLink RK 55 yC_columnAt ∈ zT := zin (List.mem_of_getElem? (i := 427) (by decide +kernel)) rfl
theorem wi_C_columnAt : Cond.instanceMethod yC_columnAt ∈ zT := zin (List.mem_of_getElem? (i := 428) (by decide +kernel)) rfl
theorem we_C_columnAt : Cond.selects RC yC_columnAt yC_columnAt ∈ zT := zin (List.mem_of_getElem? (i := 429) (by decide +kernel)) rfl
theorem wl_K_66 : Cond.methodLink RK 66 yF_sum ∈ zT := zin (List.mem_of_getElem? (i := 431) (by decide +kernel)) rfl
theorem wl_L_81 : Cond.methodLink RL 81 yL_prove ∈ zT := zin (List.mem_of_getElem? (i := 432) (by decide +kernel)) rfl
theorem ws_L_prove : Cond.static yL_prove ∈ zT := zin (List.mem_of_getElem? (i := 433) (by decide +kernel)) rfl
theorem wl_L_35 : Cond.methodLink RL 35 yM_prove ∈ zT := zin (List.mem_of_getElem? (i := 435) (by decide +kernel)) rfl
theorem wi_M_prove : Cond.instanceMethod yM_prove ∈ zT := zin (List.mem_of_getElem? (i := 436) (by decide +kernel)) rfl
theorem we_M_prove : Cond.selects RM yM_prove yM_prove ∈ zT := zin (List.mem_of_getElem? (i := 437) (by decide +kernel)) rfl
theorem wl_M_119 : Cond.methodLink RM 119 yC_rowSums ∈ zT := zin (List.mem_of_getElem? (i := 439) (by decide +kernel)) rfl
theorem wi_C_rowSums : Cond.instanceMethod yC_rowSums ∈ zT := zin (List.mem_of_getElem? (i := 440) (by decide +kernel)) rfl
theorem we_C_rowSums : Cond.selects RC yC_rowSums yC_rowSums ∈ zT := zin (List.mem_of_getElem? (i := 441) (by decide +kernel)) rfl
theorem wl_M_123 : Cond.methodLink RM 123 yD_interpolate ∈ zT := zin (List.mem_of_getElem? (i := 443) (by decide +kernel)) rfl
theorem wi_D_interpolate : Cond.instanceMethod yD_interpolate ∈ zT := zin (List.mem_of_getElem? (i := 444) (by decide +kernel)) rfl
theorem we_D_interpolate : Cond.selects RD yD_interpolate yD_interpolate ∈ zT := zin (List.mem_of_getElem? (i := 445) (by decide +kernel)) rfl
theorem wl_D_45 : Cond.methodLink RD 45 yD_coefficient ∈ zT := zin (List.mem_of_getElem? (i := 447) (by decide +kernel)) rfl
theorem wl_M_127 : Cond.methodLink RM 127 yQ_divide ∈ zT := zin (List.mem_of_getElem? (i := 448) (by decide +kernel)) rfl
theorem wi_Q_divide : Cond.instanceMethod yQ_divide ∈ zT := zin (List.mem_of_getElem? (i := 449) (by decide +kernel)) rfl
theorem we_Q_divide : Cond.selects RQ yQ_divide yQ_divide ∈ zT := zin (List.mem_of_getElem? (i := 450) (by decide +kernel)) rfl
theorem wl_Q_22 : Cond.methodLink RQ 22 yF_product ∈ zT := zin (List.mem_of_getElem? (i := 452) (by decide +kernel)) rfl
theorem wl_Q_28 : Cond.methodLink RQ 28 yF_sum ∈ zT := zin (List.mem_of_getElem? (i := 453) (by decide +kernel)) rfl
theorem wl_M_131 : Cond.methodLink RM 131 yM_makeElements ∈ zT := zin (List.mem_of_getElem? (i := 454) (by decide +kernel)) rfl
theorem wi_M_makeElements : Cond.instanceMethod yM_makeElements ∈ zT := zin (List.mem_of_getElem? (i := 456) (by decide +kernel)) rfl
theorem wl_M_135 : Cond.methodLink RM 135 yK_delta ∈ zT := zin (List.mem_of_getElem? (i := 458) (by decide +kernel)) rfl
theorem wi_K_delta : Cond.instanceMethod yK_delta ∈ zT := zin (List.mem_of_getElem? (i := 459) (by decide +kernel)) rfl
theorem we_K_delta : Cond.selects RK yK_delta yK_delta ∈ zT := zin (List.mem_of_getElem? (i := 460) (by decide +kernel)) rfl
theorem wl_M_138 : Cond.methodLink RM 138 yK_firstElement ∈ zT := zin (List.mem_of_getElem? (i := 462) (by decide +kernel)) rfl
theorem wi_K_firstElement : Cond.instanceMethod yK_firstElement ∈ zT := zin (List.mem_of_getElem? (i := 463) (by decide +kernel)) rfl
theorem we_K_firstElement : Cond.selects RK yK_firstElement yK_firstElement ∈ zT := zin (List.mem_of_getElem? (i := 464) (by decide +kernel)) rfl
theorem wl_K_69 : Cond.methodLink RK 69 yK_atTau ∈ zT := zin (List.mem_of_getElem? (i := 466) (by decide +kernel)) rfl
theorem wi_K_atTau : Cond.instanceMethod yK_atTau ∈ zT := zin (List.mem_of_getElem? (i := 468) (by decide +kernel)) rfl
theorem wl_M_141 : Cond.methodLink RM 141 yF_product ∈ zT := zin (List.mem_of_getElem? (i := 470) (by decide +kernel)) rfl
theorem wl_M_147 : Cond.methodLink RM 147 yF_sum ∈ zT := zin (List.mem_of_getElem? (i := 471) (by decide +kernel)) rfl
theorem wl_M_150 : Cond.methodLink RM 150 yK_secondElement ∈ zT := zin (List.mem_of_getElem? (i := 472) (by decide +kernel)) rfl
theorem wi_K_secondElement : Cond.instanceMethod yK_secondElement ∈ zT := zin (List.mem_of_getElem? (i := 473) (by decide +kernel)) rfl
theorem we_K_secondElement : Cond.selects RK yK_secondElement yK_secondElement ∈ zT := zin (List.mem_of_getElem? (i := 474) (by decide +kernel)) rfl
theorem wl_M_153 : Cond.methodLink RM 153 yK_mixSum ∈ zT := zin (List.mem_of_getElem? (i := 476) (by decide +kernel)) rfl
theorem wi_K_mixSum : Cond.instanceMethod yK_mixSum ∈ zT := zin (List.mem_of_getElem? (i := 477) (by decide +kernel)) rfl
theorem we_K_mixSum : Cond.selects RK yK_mixSum yK_mixSum ∈ zT := zin (List.mem_of_getElem? (i := 478) (by decide +kernel)) rfl
theorem wl_M_160 : Cond.methodLink RM 160 yQ_quotientAt ∈ zT := zin (List.mem_of_getElem? (i := 480) (by decide +kernel)) rfl
theorem wi_Q_quotientAt : Cond.instanceMethod yQ_quotientAt ∈ zT := zin (List.mem_of_getElem? (i := 481) (by decide +kernel)) rfl
theorem we_Q_quotientAt : Cond.selects RQ yQ_quotientAt yQ_quotientAt ∈ zT := zin (List.mem_of_getElem? (i := 482) (by decide +kernel)) rfl
theorem wl_M_163 : Cond.methodLink RM 163 yK_vanishing ∈ zT := zin (List.mem_of_getElem? (i := 484) (by decide +kernel)) rfl
theorem wi_K_vanishing : Cond.instanceMethod yK_vanishing ∈ zT := zin (List.mem_of_getElem? (i := 485) (by decide +kernel)) rfl
theorem we_K_vanishing : Cond.selects RK yK_vanishing yK_vanishing ∈ zT := zin (List.mem_of_getElem? (i := 486) (by decide +kernel)) rfl
theorem wl_M_166 : Cond.methodLink RM 166 yF_ratio ∈ zT := zin (List.mem_of_getElem? (i := 488) (by decide +kernel)) rfl
theorem wl_M_169 : Cond.methodLink RM 169 yF_difference ∈ zT := zin (List.mem_of_getElem? (i := 489) (by decide +kernel)) rfl
theorem wl_M_172 : Cond.methodLink RM 172 yQ_keep ∈ zT := zin (List.mem_of_getElem? (i := 490) (by decide +kernel)) rfl
theorem wi_Q_keep : Cond.instanceMethod yQ_keep ∈ zT := zin (List.mem_of_getElem? (i := 491) (by decide +kernel)) rfl
theorem we_Q_keep : Cond.selects RQ yQ_keep yQ_keep ∈ zT := zin (List.mem_of_getElem? (i := 492) (by decide +kernel)) rfl
theorem wl_L_84 : Cond.methodLink RL 84 yL_alter ∈ zT := zin (List.mem_of_getElem? (i := 494) (by decide +kernel)) rfl
theorem ws_L_alter : Cond.static yL_alter ∈ zT := zin (List.mem_of_getElem? (i := 495) (by decide +kernel)) rfl
theorem wl_L_38 : Cond.methodLink RL 38 yM_alter ∈ zT := zin (List.mem_of_getElem? (i := 497) (by decide +kernel)) rfl
theorem wi_M_alter : Cond.instanceMethod yM_alter ∈ zT := zin (List.mem_of_getElem? (i := 498) (by decide +kernel)) rfl
theorem we_M_alter : Cond.selects RM yM_alter yM_alter ∈ zT := zin (List.mem_of_getElem? (i := 499) (by decide +kernel)) rfl
theorem wl_M_177 : Cond.methodLink RM 177 yQ_setElement ∈ zT := zin (List.mem_of_getElem? (i := 501) (by decide +kernel)) rfl
theorem wi_Q_setElement : Cond.instanceMethod yQ_setElement ∈ zT := zin (List.mem_of_getElem? (i := 502) (by decide +kernel)) rfl
theorem we_Q_setElement : Cond.selects RQ yQ_setElement yQ_setElement ∈ zT := zin (List.mem_of_getElem? (i := 503) (by decide +kernel)) rfl
theorem wl_L_87 : Cond.methodLink RL 87 yL_input ∈ zT := zin (List.mem_of_getElem? (i := 505) (by decide +kernel)) rfl
theorem ws_L_input : Cond.static yL_input ∈ zT := zin (List.mem_of_getElem? (i := 506) (by decide +kernel)) rfl
theorem wl_L_41 : Cond.methodLink RL 41 yM_input ∈ zT := zin (List.mem_of_getElem? (i := 508) (by decide +kernel)) rfl
theorem wi_M_input : Cond.instanceMethod yM_input ∈ zT := zin (List.mem_of_getElem? (i := 509) (by decide +kernel)) rfl
theorem we_M_input : Cond.selects RM yM_input yM_input ∈ zT := zin (List.mem_of_getElem? (i := 510) (by decide +kernel)) rfl
theorem wl_L_90 : Cond.methodLink RL 90 yL_verify ∈ zT := zin (List.mem_of_getElem? (i := 512) (by decide +kernel)) rfl
theorem ws_L_verify : Cond.static yL_verify ∈ zT := zin (List.mem_of_getElem? (i := 513) (by decide +kernel)) rfl
theorem wl_L_44 : Cond.methodLink RL 44 yM_verify ∈ zT := zin (List.mem_of_getElem? (i := 515) (by decide +kernel)) rfl
theorem wi_M_verify : Cond.instanceMethod yM_verify ∈ zT := zin (List.mem_of_getElem? (i := 516) (by decide +kernel)) rfl
theorem we_M_verify : Cond.selects RM yM_verify yM_verify ∈ zT := zin (List.mem_of_getElem? (i := 517) (by decide +kernel)) rfl
theorem wl_M_183 : Cond.methodLink RM 183 yK_alpha ∈ zT := zin (List.mem_of_getElem? (i := 519) (by decide +kernel)) rfl
theorem wi_K_alpha : Cond.instanceMethod yK_alpha ∈ zT := zin (List.mem_of_getElem? (i := 520) (by decide +kernel)) rfl
theorem we_K_alpha : Cond.selects RK yK_alpha yK_alpha ∈ zT := zin (List.mem_of_getElem? (i := 521) (by decide +kernel)) rfl
theorem wl_M_186 : Cond.methodLink RM 186 yK_beta ∈ zT := zin (List.mem_of_getElem? (i := 523) (by decide +kernel)) rfl
theorem wi_K_beta : Cond.instanceMethod yK_beta ∈ zT := zin (List.mem_of_getElem? (i := 524) (by decide +kernel)) rfl
theorem we_K_beta : Cond.selects RK yK_beta yK_beta ∈ zT := zin (List.mem_of_getElem? (i := 525) (by decide +kernel)) rfl
theorem wx_L_49 : Cond.classLink RL 49 RT ∈ zT := zin (List.mem_of_getElem? (i := 527) (by decide +kernel)) rfl
theorem wt_T : Cond.instantiable RT 19 ∈ zT := zin (List.mem_of_getElem? (i := 528) (by decide +kernel)) rfl
theorem wl_L_51 : Cond.methodLink RL 51 yT_init ∈ zT := zin (List.mem_of_getElem? (i := 529) (by decide +kernel)) rfl
theorem wi_T_init : Cond.instanceMethod yT_init ∈ zT := zin (List.mem_of_getElem? (i := 530) (by decide +kernel)) rfl
theorem wl_T_1 : Cond.methodLink RT 1 objectInit ∈ zT := zin (List.mem_of_getElem? (i := 532) (by decide +kernel)) rfl
theorem wf_T_34 : Cond.fieldLink RT 34 RT (TT 0).2.1 (TT 0).2.2.1 ∈ zT := zin (List.mem_of_getElem? (i := 533) (by decide +kernel)) rfl
theorem wf_T_7 : Cond.fieldLink RT 7 RT (TT 1).2.1 (TT 1).2.2.1 ∈ zT := zin (List.mem_of_getElem? (i := 534) (by decide +kernel)) rfl
theorem wf_T_46 : Cond.fieldLink RT 46 RT (TT 2).2.1 (TT 2).2.2.1 ∈ zT := zin (List.mem_of_getElem? (i := 535) (by decide +kernel)) rfl
theorem wf_T_57 : Cond.fieldLink RT 57 RT (TT 3).2.1 (TT 3).2.2.1 ∈ zT := zin (List.mem_of_getElem? (i := 536) (by decide +kernel)) rfl
theorem wf_T_13 : Cond.fieldLink RT 13 RT (TT 4).2.1 (TT 4).2.2.1 ∈ zT := zin (List.mem_of_getElem? (i := 537) (by decide +kernel)) rfl
theorem wf_T_16 : Cond.fieldLink RT 16 RT (TT 5).2.1 (TT 5).2.2.1 ∈ zT := zin (List.mem_of_getElem? (i := 538) (by decide +kernel)) rfl
theorem wf_T_53 : Cond.fieldLink RT 53 RT (TT 6).2.1 (TT 6).2.2.1 ∈ zT := zin (List.mem_of_getElem? (i := 539) (by decide +kernel)) rfl
theorem wf_T_83 : Cond.fieldLink RT 83 RT (TT 7).2.1 (TT 7).2.2.1 ∈ zT := zin (List.mem_of_getElem? (i := 540) (by decide +kernel)) rfl
theorem wf_T_90 : Cond.fieldLink RT 90 RT (TT 8).2.1 (TT 8).2.2.1 ∈ zT := zin (List.mem_of_getElem? (i := 541) (by decide +kernel)) rfl
theorem wf_T_93 : Cond.fieldLink RT 93 RT (TT 9).2.1 (TT 9).2.2.1 ∈ zT := zin (List.mem_of_getElem? (i := 542) (by decide +kernel)) rfl
theorem wf_T_96 : Cond.fieldLink RT 96 RT (TT 10).2.1 (TT 10).2.2.1 ∈ zT := zin (List.mem_of_getElem? (i := 543) (by decide +kernel)) rfl
theorem wf_T_99 : Cond.fieldLink RT 99 RT (TT 11).2.1 (TT 11).2.2.1 ∈ zT := zin (List.mem_of_getElem? (i := 544) (by decide +kernel)) rfl
theorem wf_T_102 : Cond.fieldLink RT 102 RT (TT 12).2.1 (TT 12).2.2.1 ∈ zT := zin (List.mem_of_getElem? (i := 545) (by decide +kernel)) rfl
theorem wf_T_19 : Cond.fieldLink RT 19 RT (TT 13).2.1 (TT 13).2.2.1 ∈ zT := zin (List.mem_of_getElem? (i := 546) (by decide +kernel)) rfl
theorem wf_T_119 : Cond.fieldLink RT 119 RT (TT 14).2.1 (TT 14).2.2.1 ∈ zT := zin (List.mem_of_getElem? (i := 547) (by decide +kernel)) rfl
theorem wf_T_22 : Cond.fieldLink RT 22 RT (TT 15).2.1 (TT 15).2.2.1 ∈ zT := zin (List.mem_of_getElem? (i := 548) (by decide +kernel)) rfl
theorem wf_T_25 : Cond.fieldLink RT 25 RT (TT 16).2.1 (TT 16).2.2.1 ∈ zT := zin (List.mem_of_getElem? (i := 549) (by decide +kernel)) rfl
theorem wf_T_28 : Cond.fieldLink RT 28 RT (TT 17).2.1 (TT 17).2.2.1 ∈ zT := zin (List.mem_of_getElem? (i := 550) (by decide +kernel)) rfl
theorem wf_T_31 : Cond.fieldLink RT 31 RT (TT 18).2.1 (TT 18).2.2.1 ∈ zT := zin (List.mem_of_getElem? (i := 551) (by decide +kernel)) rfl
theorem wa_long : Cond.arrayClass .long ∈ zT := zin (List.mem_of_getElem? (i := 591) (by decide +kernel)) rfl
theorem wl_L_58 : Cond.methodLink RL 58 yT_thrown ∈ zT := zin (List.mem_of_getElem? (i := 592) (by decide +kernel)) rfl
theorem wi_T_thrown : Cond.instanceMethod yT_thrown ∈ zT := zin (List.mem_of_getElem? (i := 593) (by decide +kernel)) rfl
theorem we_T_thrown : Cond.selects RT yT_thrown yT_thrown ∈ zT := zin (List.mem_of_getElem? (i := 594) (by decide +kernel)) rfl
theorem wl_L_57 : Cond.methodLink RL 57 yT_term ∈ zT := zin (List.mem_of_getElem? (i := 596) (by decide +kernel)) rfl
theorem wi_T_term : Cond.instanceMethod yT_term ∈ zT := zin (List.mem_of_getElem? (i := 597) (by decide +kernel)) rfl
theorem we_T_term : Cond.selects RT yT_term yT_term ∈ zT := zin (List.mem_of_getElem? (i := 598) (by decide +kernel)) rfl
theorem wl_T_49 : Cond.methodLink RT 49 yT_isNumber ∈ zT := zin (List.mem_of_getElem? (i := 600) (by decide +kernel)) rfl
theorem ws_T_isNumber : Cond.static yT_isNumber ∈ zT := zin (List.mem_of_getElem? (i := 601) (by decide +kernel)) rfl
theorem wk_T_38 : Cond.constantLong RT 38 (998244353) ∈ zT := zin (List.mem_of_getElem? (i := 603) (by decide +kernel)) rfl
theorem wl_L_64 : Cond.methodLink RL 64 yT_constraint ∈ zT := zin (List.mem_of_getElem? (i := 604) (by decide +kernel)) rfl
theorem wi_T_constraint : Cond.instanceMethod yT_constraint ∈ zT := zin (List.mem_of_getElem? (i := 605) (by decide +kernel)) rfl
theorem we_T_constraint : Cond.selects RT yT_constraint yT_constraint ∈ zT := zin (List.mem_of_getElem? (i := 606) (by decide +kernel)) rfl
theorem wl_L_68 : Cond.methodLink RL 68 yT_publics ∈ zT := zin (List.mem_of_getElem? (i := 608) (by decide +kernel)) rfl
theorem wi_T_publics : Cond.instanceMethod yT_publics ∈ zT := zin (List.mem_of_getElem? (i := 609) (by decide +kernel)) rfl
theorem we_T_publics : Cond.selects RT yT_publics yT_publics ∈ zT := zin (List.mem_of_getElem? (i := 610) (by decide +kernel)) rfl
theorem wl_L_72 : Cond.methodLink RL 72 yT_value ∈ zT := zin (List.mem_of_getElem? (i := 612) (by decide +kernel)) rfl
theorem wi_T_value : Cond.instanceMethod yT_value ∈ zT := zin (List.mem_of_getElem? (i := 613) (by decide +kernel)) rfl
theorem we_T_value : Cond.selects RT yT_value yT_value ∈ zT := zin (List.mem_of_getElem? (i := 614) (by decide +kernel)) rfl
theorem wl_L_76 : Cond.methodLink RL 76 yT_open ∈ zT := zin (List.mem_of_getElem? (i := 616) (by decide +kernel)) rfl
theorem wi_T_open : Cond.instanceMethod yT_open ∈ zT := zin (List.mem_of_getElem? (i := 617) (by decide +kernel)) rfl
theorem we_T_open : Cond.selects RT yT_open yT_open ∈ zT := zin (List.mem_of_getElem? (i := 618) (by decide +kernel)) rfl
theorem wl_T_64 : Cond.methodLink RT 64 yT_firstOpen ∈ zT := zin (List.mem_of_getElem? (i := 620) (by decide +kernel)) rfl
theorem wi_T_firstOpen : Cond.instanceMethod yT_firstOpen ∈ zT := zin (List.mem_of_getElem? (i := 622) (by decide +kernel)) rfl
theorem wl_T_60 : Cond.methodLink RT 60 yT_sumOf ∈ zT := zin (List.mem_of_getElem? (i := 624) (by decide +kernel)) rfl
theorem wi_T_sumOf : Cond.instanceMethod yT_sumOf ∈ zT := zin (List.mem_of_getElem? (i := 626) (by decide +kernel)) rfl
theorem wl_L_105 : Cond.methodLink RL 105 yT_polynomial ∈ zT := zin (List.mem_of_getElem? (i := 628) (by decide +kernel)) rfl
theorem wi_T_polynomial : Cond.instanceMethod yT_polynomial ∈ zT := zin (List.mem_of_getElem? (i := 629) (by decide +kernel)) rfl
theorem we_T_polynomial : Cond.selects RT yT_polynomial yT_polynomial ∈ zT := zin (List.mem_of_getElem? (i := 630) (by decide +kernel)) rfl
theorem wl_T_68 : Cond.methodLink RT 68 yT_size ∈ zT := zin (List.mem_of_getElem? (i := 632) (by decide +kernel)) rfl
theorem wi_T_size : Cond.instanceMethod yT_size ∈ zT := zin (List.mem_of_getElem? (i := 634) (by decide +kernel)) rfl
theorem wl_T_79 : Cond.methodLink RT 79 yT_coefficient ∈ zT := zin (List.mem_of_getElem? (i := 636) (by decide +kernel)) rfl
theorem wi_T_coefficient : Cond.instanceMethod yT_coefficient ∈ zT := zin (List.mem_of_getElem? (i := 638) (by decide +kernel)) rfl
theorem wk_T_71 : Cond.constantLong RT 71 (3) ∈ zT := zin (List.mem_of_getElem? (i := 640) (by decide +kernel)) rfl
theorem wk_T_73 : Cond.constantLong RT 73 (998244352) ∈ zT := zin (List.mem_of_getElem? (i := 641) (by decide +kernel)) rfl
theorem wl_T_42 : Cond.methodLink RT 42 yT_power ∈ zT := zin (List.mem_of_getElem? (i := 642) (by decide +kernel)) rfl
theorem ws_T_power : Cond.static yT_power ∈ zT := zin (List.mem_of_getElem? (i := 643) (by decide +kernel)) rfl
theorem wl_T_75 : Cond.methodLink RT 75 yT_inverse ∈ zT := zin (List.mem_of_getElem? (i := 645) (by decide +kernel)) rfl
theorem ws_T_inverse : Cond.static yT_inverse ∈ zT := zin (List.mem_of_getElem? (i := 646) (by decide +kernel)) rfl
theorem wk_T_40 : Cond.constantLong RT 40 (998244351) ∈ zT := zin (List.mem_of_getElem? (i := 648) (by decide +kernel)) rfl
theorem wl_L_80 : Cond.methodLink RL 80 yT_setup ∈ zT := zin (List.mem_of_getElem? (i := 649) (by decide +kernel)) rfl
theorem wi_T_setup : Cond.instanceMethod yT_setup ∈ zT := zin (List.mem_of_getElem? (i := 650) (by decide +kernel)) rfl
theorem we_T_setup : Cond.selects RT yT_setup yT_setup ∈ zT := zin (List.mem_of_getElem? (i := 651) (by decide +kernel)) rfl
theorem wl_T_87 : Cond.methodLink RT 87 yT_less ∈ zT := zin (List.mem_of_getElem? (i := 653) (by decide +kernel)) rfl
theorem ws_T_less : Cond.static yT_less ∈ zT := zin (List.mem_of_getElem? (i := 654) (by decide +kernel)) rfl
theorem wl_T_105 : Cond.methodLink RT 105 yT_atTau ∈ zT := zin (List.mem_of_getElem? (i := 656) (by decide +kernel)) rfl
theorem wi_T_atTau : Cond.instanceMethod yT_atTau ∈ zT := zin (List.mem_of_getElem? (i := 658) (by decide +kernel)) rfl
theorem wl_L_83 : Cond.methodLink RL 83 yT_prove ∈ zT := zin (List.mem_of_getElem? (i := 660) (by decide +kernel)) rfl
theorem wi_T_prove : Cond.instanceMethod yT_prove ∈ zT := zin (List.mem_of_getElem? (i := 661) (by decide +kernel)) rfl
theorem we_T_prove : Cond.selects RT yT_prove yT_prove ∈ zT := zin (List.mem_of_getElem? (i := 662) (by decide +kernel)) rfl
theorem wl_T_108 : Cond.methodLink RT 108 yT_sum ∈ zT := zin (List.mem_of_getElem? (i := 664) (by decide +kernel)) rfl
theorem wi_T_sum : Cond.instanceMethod yT_sum ∈ zT := zin (List.mem_of_getElem? (i := 666) (by decide +kernel)) rfl
theorem wl_T_112 : Cond.methodLink RT 112 yT_divide ∈ zT := zin (List.mem_of_getElem? (i := 668) (by decide +kernel)) rfl
theorem wi_T_divide : Cond.instanceMethod yT_divide ∈ zT := zin (List.mem_of_getElem? (i := 670) (by decide +kernel)) rfl
theorem wl_T_115 : Cond.methodLink RT 115 yT_sumAtTau ∈ zT := zin (List.mem_of_getElem? (i := 672) (by decide +kernel)) rfl
theorem wi_T_sumAtTau : Cond.instanceMethod yT_sumAtTau ∈ zT := zin (List.mem_of_getElem? (i := 674) (by decide +kernel)) rfl
theorem wl_L_86 : Cond.methodLink RL 86 yT_alter ∈ zT := zin (List.mem_of_getElem? (i := 676) (by decide +kernel)) rfl
theorem wi_T_alter : Cond.instanceMethod yT_alter ∈ zT := zin (List.mem_of_getElem? (i := 677) (by decide +kernel)) rfl
theorem we_T_alter : Cond.selects RT yT_alter yT_alter ∈ zT := zin (List.mem_of_getElem? (i := 678) (by decide +kernel)) rfl
theorem wl_L_89 : Cond.methodLink RL 89 yT_input ∈ zT := zin (List.mem_of_getElem? (i := 680) (by decide +kernel)) rfl
theorem wi_T_input : Cond.instanceMethod yT_input ∈ zT := zin (List.mem_of_getElem? (i := 681) (by decide +kernel)) rfl
theorem we_T_input : Cond.selects RT yT_input yT_input ∈ zT := zin (List.mem_of_getElem? (i := 682) (by decide +kernel)) rfl
theorem wl_L_92 : Cond.methodLink RL 92 yT_verify ∈ zT := zin (List.mem_of_getElem? (i := 684) (by decide +kernel)) rfl
theorem wi_T_verify : Cond.instanceMethod yT_verify ∈ zT := zin (List.mem_of_getElem? (i := 685) (by decide +kernel)) rfl
theorem we_T_verify : Cond.selects RT yT_verify yT_verify ∈ zT := zin (List.mem_of_getElem? (i := 686) (by decide +kernel)) rfl
theorem wl_L_97 : Cond.methodLink RL 97 yT_proof ∈ zT := zin (List.mem_of_getElem? (i := 688) (by decide +kernel)) rfl
theorem wi_T_proof : Cond.instanceMethod yT_proof ∈ zT := zin (List.mem_of_getElem? (i := 689) (by decide +kernel)) rfl
theorem we_T_proof : Cond.selects RT yT_proof yT_proof ∈ zT := zin (List.mem_of_getElem? (i := 690) (by decide +kernel)) rfl
theorem wl_L_101 : Cond.methodLink RL 101 yT_quotient ∈ zT := zin (List.mem_of_getElem? (i := 692) (by decide +kernel)) rfl
theorem wi_T_quotient : Cond.instanceMethod yT_quotient ∈ zT := zin (List.mem_of_getElem? (i := 693) (by decide +kernel)) rfl
theorem we_T_quotient : Cond.selects RT yT_quotient yT_quotient ∈ zT := zin (List.mem_of_getElem? (i := 694) (by decide +kernel)) rfl
theorem wl_L_110 : Cond.methodLink RL 110 yT_key ∈ zT := zin (List.mem_of_getElem? (i := 696) (by decide +kernel)) rfl
theorem wi_T_key : Cond.instanceMethod yT_key ∈ zT := zin (List.mem_of_getElem? (i := 697) (by decide +kernel)) rfl
theorem we_T_key : Cond.selects RT yT_key yT_key ∈ zT := zin (List.mem_of_getElem? (i := 698) (by decide +kernel)) rfl
theorem wl_L_114 : Cond.methodLink RL 114 yT_about ∈ zT := zin (List.mem_of_getElem? (i := 700) (by decide +kernel)) rfl
theorem wi_T_about : Cond.instanceMethod yT_about ∈ zT := zin (List.mem_of_getElem? (i := 701) (by decide +kernel)) rfl
theorem we_T_about : Cond.selects RT yT_about yT_about ∈ zT := zin (List.mem_of_getElem? (i := 702) (by decide +kernel)) rfl
theorem we_C_rowSum : Cond.selects RC yC_rowSum yC_rowSum ∈ zT := zin (List.mem_of_getElem? (i := 0) (by decide +kernel)) rfl
theorem we_M_makeElements : Cond.selects RM yM_makeElements yM_makeElements ∈ zT := zin (List.mem_of_getElem? (i := 2) (by decide +kernel)) rfl
theorem we_K_atTau : Cond.selects RK yK_atTau yK_atTau ∈ zT := zin (List.mem_of_getElem? (i := 3) (by decide +kernel)) rfl
theorem we_T_firstOpen : Cond.selects RT yT_firstOpen yT_firstOpen ∈ zT := zin (List.mem_of_getElem? (i := 4) (by decide +kernel)) rfl
theorem we_T_sumOf : Cond.selects RT yT_sumOf yT_sumOf ∈ zT := zin (List.mem_of_getElem? (i := 5) (by decide +kernel)) rfl
theorem we_T_size : Cond.selects RT yT_size yT_size ∈ zT := zin (List.mem_of_getElem? (i := 6) (by decide +kernel)) rfl
theorem we_T_coefficient : Cond.selects RT yT_coefficient yT_coefficient ∈ zT := zin (List.mem_of_getElem? (i := 7) (by decide +kernel)) rfl
theorem we_T_atTau : Cond.selects RT yT_atTau yT_atTau ∈ zT := zin (List.mem_of_getElem? (i := 8) (by decide +kernel)) rfl
theorem we_T_sum : Cond.selects RT yT_sum yT_sum ∈ zT := zin (List.mem_of_getElem? (i := 9) (by decide +kernel)) rfl
theorem we_T_divide : Cond.selects RT yT_divide yT_divide ∈ zT := zin (List.mem_of_getElem? (i := 10) (by decide +kernel)) rfl
theorem we_T_sumAtTau : Cond.selects RT yT_sumAtTau yT_sumAtTau ∈ zT := zin (List.mem_of_getElem? (i := 11) (by decide +kernel)) rfl
theorem wi_obj : Cond.instanceMethod objectInit ∈ zT := zin (List.mem_of_getElem? (i := 32) (by decide +kernel)) rfl
theorem wc_obj : Cond.code objectInit ⟨#[0xb1]⟩ 1 none ∈ zT := zin (List.mem_of_getElem? (i := 33) (by decide +kernel)) rfl
theorem kk_M_init : zkI yM_init cM_init 1 0 := ⟨⟨wi_M_init, rfl⟩, wn_M, wc_M_init, by decide +kernel⟩
theorem kk_C_init : zkI yC_init cC_init 1 0 := ⟨⟨wi_C_init, rfl⟩, wn_C, wc_C_init, by decide +kernel⟩
theorem kk_D_init : zkI yD_init cD_init 1 0 := ⟨⟨wi_D_init, rfl⟩, wn_D, wc_D_init, by decide +kernel⟩
theorem kk_D_fit : zkV yD_fit cD_fit 5 none 1 := ⟨⟨wi_D_fit, we_D_fit⟩, wn_D, wc_D_fit, by decide +kernel⟩
theorem kk_F_ratio : zkS yF_ratio cF_ratio 2 (.some .int) 2 := ⟨ws_F_ratio, wn_F, wc_F_ratio, by decide +kernel⟩
theorem kk_F_power : zkS yF_power cF_power 5 (.some .int) 2 := ⟨ws_F_power, wn_F, wc_F_power, by decide +kernel⟩
theorem kk_F_product : zkS yF_product cF_product 2 (.some .int) 2 := ⟨ws_F_product, wn_F, wc_F_product, by decide +kernel⟩
theorem kk_K_init : zkI yK_init cK_init 1 0 := ⟨⟨wi_K_init, rfl⟩, wn_K, wc_K_init, by decide +kernel⟩
theorem kk_Q_init : zkI yQ_init cQ_init 1 0 := ⟨⟨wi_Q_init, rfl⟩, wn_Q, wc_Q_init, by decide +kernel⟩
theorem kk_M_open : zkV yM_open cM_open 1 (.some .int) 0 := ⟨⟨wi_M_open, we_M_open⟩, wn_M, wc_M_open, by decide +kernel⟩
theorem kk_C_firstOpen : zkV yC_firstOpen cC_firstOpen 4 (.some .int) 1 := ⟨⟨wi_C_firstOpen, we_C_firstOpen⟩, wn_C, wc_C_firstOpen, by decide +kernel⟩
theorem kk_C_rowSum : zkV yC_rowSum cC_rowSum 7 (.some .int) 3 := ⟨⟨wi_C_rowSum, we_C_rowSum⟩, wn_C, wc_C_rowSum, by decide +kernel⟩
theorem kk_C_start : zkS yC_start cC_start 2 (.some .int) 2 := ⟨ws_C_start, wn_C, wc_C_start, by decide +kernel⟩
theorem kk_F_sum : zkS yF_sum cF_sum 3 (.some .int) 2 := ⟨ws_F_sum, wn_F, wc_F_sum, by decide +kernel⟩
theorem kk_M_proof : zkV yM_proof cM_proof 2 (.some .int) 1 := ⟨⟨wi_M_proof, we_M_proof⟩, wn_M, wc_M_proof, by decide +kernel⟩
theorem kk_Q_isMade : zkV yQ_isMade cQ_isMade 1 (.some .boolean) 0 := ⟨⟨wi_Q_isMade, we_Q_isMade⟩, wn_Q, wc_Q_isMade, by decide +kernel⟩
theorem kk_M_isBelow : zkS yM_isBelow cM_isBelow 2 (.some .boolean) 2 := ⟨ws_M_isBelow, wn_M, wc_M_isBelow, by decide +kernel⟩
theorem kk_Q_element : zkV yQ_element cQ_element 2 (.some .int) 1 := ⟨⟨wi_Q_element, we_Q_element⟩, wn_Q, wc_Q_element, by decide +kernel⟩
theorem kk_M_quotient : zkV yM_quotient cM_quotient 2 (.some .int) 1 := ⟨⟨wi_M_quotient, we_M_quotient⟩, wn_M, wc_M_quotient, by decide +kernel⟩
theorem kk_Q_quotientCoefficient : zkV yQ_quotientCoefficient cQ_quotientCoefficient 2 (.some .int) 1 := ⟨⟨wi_Q_quotientCoefficient, we_Q_quotientCoefficient⟩, wn_Q, wc_Q_quotientCoefficient, by decide +kernel⟩
theorem kk_M_polynomial : zkV yM_polynomial cM_polynomial 4 (.some .int) 3 := ⟨⟨wi_M_polynomial, we_M_polynomial⟩, wn_M, wc_M_polynomial, by decide +kernel⟩
theorem kk_D_size : zkV yD_size cD_size 1 (.some .int) 0 := ⟨⟨wi_D_size, we_D_size⟩, wn_D, wc_D_size, by decide +kernel⟩
theorem kk_C_column : zkV yC_column cC_column 5 none 3 := ⟨⟨wi_C_column, we_C_column⟩, wn_C, wc_C_column, by decide +kernel⟩
theorem kk_D_coefficient : zkV yD_coefficient cD_coefficient 5 (.some .int) 2 := ⟨⟨wi_D_coefficient, we_D_coefficient⟩, wn_D, wc_D_coefficient, by decide +kernel⟩
theorem kk_M_key : zkV yM_key cM_key 3 (.some .int) 2 := ⟨⟨wi_M_key, we_M_key⟩, wn_M, wc_M_key, by decide +kernel⟩
theorem kk_K_isMade : zkV yK_isMade cK_isMade 1 (.some .boolean) 0 := ⟨⟨wi_K_isMade, we_K_isMade⟩, wn_K, wc_K_isMade, by decide +kernel⟩
theorem kk_K_tau : zkV yK_tau cK_tau 1 (.some .int) 0 := ⟨⟨wi_K_tau, we_K_tau⟩, wn_K, wc_K_tau, by decide +kernel⟩
theorem kk_K_sharedMix : zkV yK_sharedMix cK_sharedMix 3 (.some .int) 2 := ⟨⟨wi_K_sharedMix, we_K_sharedMix⟩, wn_K, wc_K_sharedMix, by decide +kernel⟩
theorem kk_K_vanishingStep : zkV yK_vanishingStep cK_vanishingStep 2 (.some .int) 1 := ⟨⟨wi_K_vanishingStep, we_K_vanishingStep⟩, wn_K, wc_K_vanishingStep, by decide +kernel⟩
theorem kk_M_about : zkV yM_about cM_about 2 (.some .int) 1 := ⟨⟨wi_M_about, we_M_about⟩, wn_M, wc_M_about, by decide +kernel⟩
theorem kk_C_count : zkV yC_count cC_count 1 (.some .int) 0 := ⟨⟨wi_C_count, we_C_count⟩, wn_C, wc_C_count, by decide +kernel⟩
theorem kk_M_term : zkV yM_term cM_term 4 (.some .int) 3 := ⟨⟨wi_M_term, we_M_term⟩, wn_M, wc_M_term, by decide +kernel⟩
theorem kk_C_growDraft : zkV yC_growDraft cC_growDraft 5 (.some .int) 3 := ⟨⟨wi_C_growDraft, we_C_growDraft⟩, wn_C, wc_C_growDraft, by decide +kernel⟩
theorem kk_M_constraint : zkV yM_constraint cM_constraint 2 (.some .int) 0 := ⟨⟨wi_M_constraint, we_M_constraint⟩, wn_M, wc_M_constraint, by decide +kernel⟩
theorem kk_C_closeDraft : zkV yC_closeDraft cC_closeDraft 2 (.some .int) 0 := ⟨⟨wi_C_closeDraft, we_C_closeDraft⟩, wn_C, wc_C_closeDraft, by decide +kernel⟩
theorem kk_K_drop : zkV yK_drop cK_drop 1 none 0 := ⟨⟨wi_K_drop, we_K_drop⟩, wn_K, wc_K_drop, by decide +kernel⟩
theorem kk_M_publics : zkV yM_publics cM_publics 2 (.some .boolean) 1 := ⟨⟨wi_M_publics, we_M_publics⟩, wn_M, wc_M_publics, by decide +kernel⟩
theorem kk_M_value : zkV yM_value cM_value 3 (.some .boolean) 2 := ⟨⟨wi_M_value, we_M_value⟩, wn_M, wc_M_value, by decide +kernel⟩
theorem kk_M_setup : zkV yM_setup cM_setup 6 (.some .int) 5 := ⟨⟨wi_M_setup, we_M_setup⟩, wn_M, wc_M_setup, by decide +kernel⟩
theorem kk_M_isUnit : zkS yM_isUnit cM_isUnit 1 (.some .boolean) 1 := ⟨ws_M_isUnit, wn_M, wc_M_isUnit, by decide +kernel⟩
theorem kk_D_vanishingAt : zkV yD_vanishingAt cD_vanishingAt 2 (.some .int) 1 := ⟨⟨wi_D_vanishingAt, we_D_vanishingAt⟩, wn_D, wc_D_vanishingAt, by decide +kernel⟩
theorem kk_F_difference : zkS yF_difference cF_difference 2 (.some .int) 2 := ⟨ws_F_difference, wn_F, wc_F_difference, by decide +kernel⟩
theorem kk_K_take : zkV yK_take cK_take 6 none 5 := ⟨⟨wi_K_take, we_K_take⟩, wn_K, wc_K_take, by decide +kernel⟩
theorem kk_K_mixAll : zkV yK_mixAll cK_mixAll 6 none 2 := ⟨⟨wi_K_mixAll, we_K_mixAll⟩, wn_K, wc_K_mixAll, by decide +kernel⟩
theorem kk_D_weight : zkV yD_weight cD_weight 6 (.some .int) 2 := ⟨⟨wi_D_weight, we_D_weight⟩, wn_D, wc_D_weight, by decide +kernel⟩
theorem kk_C_columnAt : zkV yC_columnAt cC_columnAt 6 (.some .int) 3 := ⟨⟨wi_C_columnAt, we_C_columnAt⟩, wn_C, wc_C_columnAt, by decide +kernel⟩
theorem kk_M_prove : zkV yM_prove cM_prove 3 (.some .boolean) 2 := ⟨⟨wi_M_prove, we_M_prove⟩, wn_M, wc_M_prove, by decide +kernel⟩
theorem kk_C_rowSums : zkV yC_rowSums cC_rowSums 5 none 3 := ⟨⟨wi_C_rowSums, we_C_rowSums⟩, wn_C, wc_C_rowSums, by decide +kernel⟩
theorem kk_D_interpolate : zkV yD_interpolate cD_interpolate 4 none 2 := ⟨⟨wi_D_interpolate, we_D_interpolate⟩, wn_D, wc_D_interpolate, by decide +kernel⟩
theorem kk_Q_divide : zkV yQ_divide cQ_divide 7 none 3 := ⟨⟨wi_Q_divide, we_Q_divide⟩, wn_Q, wc_Q_divide, by decide +kernel⟩
theorem kk_M_makeElements : zkV yM_makeElements cM_makeElements 8 none 2 := ⟨⟨wi_M_makeElements, we_M_makeElements⟩, wn_M, wc_M_makeElements, by decide +kernel⟩
theorem kk_K_delta : zkV yK_delta cK_delta 1 (.some .int) 0 := ⟨⟨wi_K_delta, we_K_delta⟩, wn_K, wc_K_delta, by decide +kernel⟩
theorem kk_K_firstElement : zkV yK_firstElement cK_firstElement 2 (.some .int) 1 := ⟨⟨wi_K_firstElement, we_K_firstElement⟩, wn_K, wc_K_firstElement, by decide +kernel⟩
theorem kk_K_atTau : zkV yK_atTau cK_atTau 4 (.some .int) 1 := ⟨⟨wi_K_atTau, we_K_atTau⟩, wn_K, wc_K_atTau, by decide +kernel⟩
theorem kk_K_secondElement : zkV yK_secondElement cK_secondElement 2 (.some .int) 1 := ⟨⟨wi_K_secondElement, we_K_secondElement⟩, wn_K, wc_K_secondElement, by decide +kernel⟩
theorem kk_K_mixSum : zkV yK_mixSum cK_mixSum 6 (.some .int) 3 := ⟨⟨wi_K_mixSum, we_K_mixSum⟩, wn_K, wc_K_mixSum, by decide +kernel⟩
theorem kk_Q_quotientAt : zkV yQ_quotientAt cQ_quotientAt 4 (.some .int) 1 := ⟨⟨wi_Q_quotientAt, we_Q_quotientAt⟩, wn_Q, wc_Q_quotientAt, by decide +kernel⟩
theorem kk_K_vanishing : zkV yK_vanishing cK_vanishing 1 (.some .int) 0 := ⟨⟨wi_K_vanishing, we_K_vanishing⟩, wn_K, wc_K_vanishing, by decide +kernel⟩
theorem kk_Q_keep : zkV yQ_keep cQ_keep 4 none 3 := ⟨⟨wi_Q_keep, we_Q_keep⟩, wn_Q, wc_Q_keep, by decide +kernel⟩
theorem kk_M_alter : zkV yM_alter cM_alter 3 (.some .boolean) 2 := ⟨⟨wi_M_alter, we_M_alter⟩, wn_M, wc_M_alter, by decide +kernel⟩
theorem kk_Q_setElement : zkV yQ_setElement cQ_setElement 3 none 2 := ⟨⟨wi_Q_setElement, we_Q_setElement⟩, wn_Q, wc_Q_setElement, by decide +kernel⟩
theorem kk_M_input : zkV yM_input cM_input 3 (.some .boolean) 2 := ⟨⟨wi_M_input, we_M_input⟩, wn_M, wc_M_input, by decide +kernel⟩
theorem kk_M_verify : zkV yM_verify cM_verify 3 (.some .boolean) 0 := ⟨⟨wi_M_verify, we_M_verify⟩, wn_M, wc_M_verify, by decide +kernel⟩
theorem kk_K_alpha : zkV yK_alpha cK_alpha 1 (.some .int) 0 := ⟨⟨wi_K_alpha, we_K_alpha⟩, wn_K, wc_K_alpha, by decide +kernel⟩
theorem kk_K_beta : zkV yK_beta cK_beta 1 (.some .int) 0 := ⟨⟨wi_K_beta, we_K_beta⟩, wn_K, wc_K_beta, by decide +kernel⟩
theorem kk_T_init : zkI yT_init cT_init 1 0 := ⟨⟨wi_T_init, rfl⟩, wn_T, wc_T_init, by decide +kernel⟩
theorem kk_T_thrown : zkV yT_thrown cT_thrown 1 (.some .int) 0 := ⟨⟨wi_T_thrown, we_T_thrown⟩, wn_T, wc_T_thrown, by decide +kernel⟩
theorem kk_T_term : zkV yT_term cT_term 5 (.some .int) 3 := ⟨⟨wi_T_term, we_T_term⟩, wn_T, wc_T_term, by decide +kernel⟩
theorem kk_T_isNumber : zkS yT_isNumber cT_isNumber 1 (.some .boolean) 1 := ⟨ws_T_isNumber, wn_T, wc_T_isNumber, by decide +kernel⟩
theorem kk_T_constraint : zkV yT_constraint cT_constraint 2 (.some .int) 0 := ⟨⟨wi_T_constraint, we_T_constraint⟩, wn_T, wc_T_constraint, by decide +kernel⟩
theorem kk_T_publics : zkV yT_publics cT_publics 2 (.some .boolean) 1 := ⟨⟨wi_T_publics, we_T_publics⟩, wn_T, wc_T_publics, by decide +kernel⟩
theorem kk_T_value : zkV yT_value cT_value 3 (.some .boolean) 2 := ⟨⟨wi_T_value, we_T_value⟩, wn_T, wc_T_value, by decide +kernel⟩
theorem kk_T_open : zkV yT_open cT_open 1 (.some .int) 0 := ⟨⟨wi_T_open, we_T_open⟩, wn_T, wc_T_open, by decide +kernel⟩
theorem kk_T_firstOpen : zkV yT_firstOpen cT_firstOpen 4 (.some .int) 0 := ⟨⟨wi_T_firstOpen, we_T_firstOpen⟩, wn_T, wc_T_firstOpen, by decide +kernel⟩
theorem kk_T_sumOf : zkV yT_sumOf cT_sumOf 6 (.some .long) 2 := ⟨⟨wi_T_sumOf, we_T_sumOf⟩, wn_T, wc_T_sumOf, by decide +kernel⟩
theorem kk_T_polynomial : zkV yT_polynomial cT_polynomial 4 (.some .int) 3 := ⟨⟨wi_T_polynomial, we_T_polynomial⟩, wn_T, wc_T_polynomial, by decide +kernel⟩
theorem kk_T_size : zkV yT_size cT_size 1 (.some .int) 0 := ⟨⟨wi_T_size, we_T_size⟩, wn_T, wc_T_size, by decide +kernel⟩
theorem kk_T_coefficient : zkV yT_coefficient cT_coefficient 14 (.some .long) 3 := ⟨⟨wi_T_coefficient, we_T_coefficient⟩, wn_T, wc_T_coefficient, by decide +kernel⟩
theorem kk_T_power : zkS yT_power cT_power 9 (.some .long) 2 := ⟨ws_T_power, wn_T, wc_T_power, by decide +kernel⟩
theorem kk_T_inverse : zkS yT_inverse cT_inverse 2 (.some .long) 1 := ⟨ws_T_inverse, wn_T, wc_T_inverse, by decide +kernel⟩
theorem kk_T_setup : zkV yT_setup cT_setup 14 (.some .int) 5 := ⟨⟨wi_T_setup, we_T_setup⟩, wn_T, wc_T_setup, by decide +kernel⟩
theorem kk_T_less : zkS yT_less cT_less 4 (.some .long) 2 := ⟨ws_T_less, wn_T, wc_T_less, by decide +kernel⟩
theorem kk_T_atTau : zkV yT_atTau cT_atTau 6 (.some .long) 2 := ⟨⟨wi_T_atTau, we_T_atTau⟩, wn_T, wc_T_atTau, by decide +kernel⟩
theorem kk_T_prove : zkV yT_prove cT_prove 12 (.some .boolean) 2 := ⟨⟨wi_T_prove, we_T_prove⟩, wn_T, wc_T_prove, by decide +kernel⟩
theorem kk_T_sum : zkV yT_sum cT_sum 6 none 1 := ⟨⟨wi_T_sum, we_T_sum⟩, wn_T, wc_T_sum, by decide +kernel⟩
theorem kk_T_divide : zkV yT_divide cT_divide 5 none 0 := ⟨⟨wi_T_divide, we_T_divide⟩, wn_T, wc_T_divide, by decide +kernel⟩
theorem kk_T_sumAtTau : zkV yT_sumAtTau cT_sumAtTau 5 (.some .long) 1 := ⟨⟨wi_T_sumAtTau, we_T_sumAtTau⟩, wn_T, wc_T_sumAtTau, by decide +kernel⟩
theorem kk_T_alter : zkV yT_alter cT_alter 3 (.some .boolean) 2 := ⟨⟨wi_T_alter, we_T_alter⟩, wn_T, wc_T_alter, by decide +kernel⟩
theorem kk_T_input : zkV yT_input cT_input 3 (.some .boolean) 2 := ⟨⟨wi_T_input, we_T_input⟩, wn_T, wc_T_input, by decide +kernel⟩
theorem kk_T_verify : zkV yT_verify cT_verify 4 (.some .boolean) 0 := ⟨⟨wi_T_verify, we_T_verify⟩, wn_T, wc_T_verify, by decide +kernel⟩
theorem kk_T_proof : zkV yT_proof cT_proof 2 (.some .int) 1 := ⟨⟨wi_T_proof, we_T_proof⟩, wn_T, wc_T_proof, by decide +kernel⟩
theorem kk_T_quotient : zkV yT_quotient cT_quotient 2 (.some .int) 1 := ⟨⟨wi_T_quotient, we_T_quotient⟩, wn_T, wc_T_quotient, by decide +kernel⟩
theorem kk_T_key : zkV yT_key cT_key 3 (.some .int) 2 := ⟨⟨wi_T_key, we_T_key⟩, wn_T, wc_T_key, by decide +kernel⟩
theorem kk_T_about : zkV yT_about cT_about 2 (.some .int) 1 := ⟨⟨wi_T_about, we_T_about⟩, wn_T, wc_T_about, by decide +kernel⟩
end
section
theorem dC_init_0 : decode cC_init 0 = .ok (.aload_n 0, 1) := by decide +kernel
theorem dC_init_1 : decode cC_init 1 = .ok (.invokespecial 3, 3) := by decide +kernel
theorem dC_init_4 : decode cC_init 4 = .ok (.aload_n 0, 1) := by decide +kernel
theorem dC_init_5 : decode cC_init 5 = .ok (.sipush 816, 3) := by decide +kernel
theorem dC_init_8 : decode cC_init 8 = .ok (.newarray .int, 2) := by decide +kernel
theorem dC_init_10 : decode cC_init 10 = .ok (.putfield 9, 3) := by decide +kernel
theorem dC_init_13 : decode cC_init 13 = .ok (.aload_n 0, 1) := by decide +kernel
theorem dC_init_14 : decode cC_init 14 = .ok (.iconst 0, 1) := by decide +kernel
theorem dC_init_15 : decode cC_init 15 = .ok (.putfield 15, 3) := by decide +kernel
theorem dC_init_18 : decode cC_init 18 = .ok (.return_, 1) := by decide +kernel
theorem dC_closeDraft_0 : decode cC_closeDraft 0 = .ok (.aload_n 0, 1) := by decide +kernel
theorem dC_closeDraft_1 : decode cC_closeDraft 1 = .ok (.getfield 15, 3) := by decide +kernel
theorem dC_closeDraft_4 : decode cC_closeDraft 4 = .ok (.istore_n 1, 1) := by decide +kernel
theorem dC_closeDraft_5 : decode cC_closeDraft 5 = .ok (.aload_n 0, 1) := by decide +kernel
theorem dC_closeDraft_6 : decode cC_closeDraft 6 = .ok (.iload_n 1, 1) := by decide +kernel
theorem dC_closeDraft_7 : decode cC_closeDraft 7 = .ok (.iconst 1, 1) := by decide +kernel
theorem dC_closeDraft_8 : decode cC_closeDraft 8 = .ok (.iadd, 1) := by decide +kernel
theorem dC_closeDraft_9 : decode cC_closeDraft 9 = .ok (.putfield 15, 3) := by decide +kernel
theorem dC_closeDraft_12 : decode cC_closeDraft 12 = .ok (.iload_n 1, 1) := by decide +kernel
theorem dC_closeDraft_13 : decode cC_closeDraft 13 = .ok (.ireturn, 1) := by decide +kernel
theorem dC_column_0 : decode cC_column 0 = .ok (.iconst 0, 1) := by decide +kernel
theorem dC_column_1 : decode cC_column 1 = .ok (.istore 4, 2) := by decide +kernel
theorem dC_column_3 : decode cC_column 3 = .ok (.iload 4, 2) := by decide +kernel
theorem dC_column_5 : decode cC_column 5 = .ok (.bipush 16, 2) := by decide +kernel
theorem dC_column_7 : decode cC_column 7 = .ok (.if_icmp .ge 39, 3) := by decide +kernel
theorem dC_column_10 : decode cC_column 10 = .ok (.aload_n 3, 1) := by decide +kernel
theorem dC_column_11 : decode cC_column 11 = .ok (.iload 4, 2) := by decide +kernel
theorem dC_column_13 : decode cC_column 13 = .ok (.iload 4, 2) := by decide +kernel
theorem dC_column_15 : decode cC_column 15 = .ok (.aload_n 0, 1) := by decide +kernel
theorem dC_column_16 : decode cC_column 16 = .ok (.getfield 15, 3) := by decide +kernel
theorem dC_column_19 : decode cC_column 19 = .ok (.if_icmp .ge 19, 3) := by decide +kernel
theorem dC_column_22 : decode cC_column 22 = .ok (.aload_n 0, 1) := by decide +kernel
theorem dC_column_23 : decode cC_column 23 = .ok (.getfield 9, 3) := by decide +kernel
theorem dC_column_26 : decode cC_column 26 = .ok (.iload 4, 2) := by decide +kernel
theorem dC_column_28 : decode cC_column 28 = .ok (.iload_n 1, 1) := by decide +kernel
theorem dC_column_29 : decode cC_column 29 = .ok (.invokestatic 19, 3) := by decide +kernel
theorem dC_column_32 : decode cC_column 32 = .ok (.iload_n 2, 1) := by decide +kernel
theorem dC_column_33 : decode cC_column 33 = .ok (.iadd, 1) := by decide +kernel
theorem dC_column_34 : decode cC_column 34 = .ok (.iaload, 1) := by decide +kernel
theorem dC_column_35 : decode cC_column 35 = .ok (.goto 4, 3) := by decide +kernel
theorem dC_column_38 : decode cC_column 38 = .ok (.iconst 0, 1) := by decide +kernel
theorem dC_column_39 : decode cC_column 39 = .ok (.iastore, 1) := by decide +kernel
theorem dC_column_40 : decode cC_column 40 = .ok (.iinc 4 1, 3) := by decide +kernel
theorem dC_column_43 : decode cC_column 43 = .ok (.goto (-40), 3) := by decide +kernel
theorem dC_column_46 : decode cC_column 46 = .ok (.return_, 1) := by decide +kernel
theorem dC_columnAt_0 : decode cC_columnAt 0 = .ok (.iconst 0, 1) := by decide +kernel
theorem dC_columnAt_1 : decode cC_columnAt 1 = .ok (.istore 4, 2) := by decide +kernel
theorem dC_columnAt_3 : decode cC_columnAt 3 = .ok (.iconst 0, 1) := by decide +kernel
theorem dC_columnAt_4 : decode cC_columnAt 4 = .ok (.istore 5, 2) := by decide +kernel
theorem dC_columnAt_6 : decode cC_columnAt 6 = .ok (.iload 5, 2) := by decide +kernel
theorem dC_columnAt_8 : decode cC_columnAt 8 = .ok (.aload_n 0, 1) := by decide +kernel
theorem dC_columnAt_9 : decode cC_columnAt 9 = .ok (.getfield 15, 3) := by decide +kernel
theorem dC_columnAt_12 : decode cC_columnAt 12 = .ok (.if_icmp .ge 36, 3) := by decide +kernel
theorem dC_columnAt_15 : decode cC_columnAt 15 = .ok (.iload 4, 2) := by decide +kernel
theorem dC_columnAt_17 : decode cC_columnAt 17 = .ok (.aload_n 0, 1) := by decide +kernel
theorem dC_columnAt_18 : decode cC_columnAt 18 = .ok (.getfield 9, 3) := by decide +kernel
theorem dC_columnAt_21 : decode cC_columnAt 21 = .ok (.iload 5, 2) := by decide +kernel
theorem dC_columnAt_23 : decode cC_columnAt 23 = .ok (.iload_n 1, 1) := by decide +kernel
theorem dC_columnAt_24 : decode cC_columnAt 24 = .ok (.invokestatic 19, 3) := by decide +kernel
theorem dC_columnAt_27 : decode cC_columnAt 27 = .ok (.iload_n 2, 1) := by decide +kernel
theorem dC_columnAt_28 : decode cC_columnAt 28 = .ok (.iadd, 1) := by decide +kernel
theorem dC_columnAt_29 : decode cC_columnAt 29 = .ok (.iaload, 1) := by decide +kernel
theorem dC_columnAt_30 : decode cC_columnAt 30 = .ok (.aload_n 3, 1) := by decide +kernel
theorem dC_columnAt_31 : decode cC_columnAt 31 = .ok (.iload 5, 2) := by decide +kernel
theorem dC_columnAt_33 : decode cC_columnAt 33 = .ok (.iaload, 1) := by decide +kernel
theorem dC_columnAt_34 : decode cC_columnAt 34 = .ok (.invokestatic 32, 3) := by decide +kernel
theorem dC_columnAt_37 : decode cC_columnAt 37 = .ok (.invokestatic 23, 3) := by decide +kernel
theorem dC_columnAt_40 : decode cC_columnAt 40 = .ok (.istore 4, 2) := by decide +kernel
theorem dC_columnAt_42 : decode cC_columnAt 42 = .ok (.iinc 5 1, 3) := by decide +kernel
theorem dC_columnAt_45 : decode cC_columnAt 45 = .ok (.goto (-39), 3) := by decide +kernel
theorem dC_columnAt_48 : decode cC_columnAt 48 = .ok (.iload 4, 2) := by decide +kernel
theorem dC_columnAt_50 : decode cC_columnAt 50 = .ok (.ireturn, 1) := by decide +kernel
theorem dC_count_0 : decode cC_count 0 = .ok (.aload_n 0, 1) := by decide +kernel
theorem dC_count_1 : decode cC_count 1 = .ok (.getfield 15, 3) := by decide +kernel
theorem dC_count_4 : decode cC_count 4 = .ok (.ireturn, 1) := by decide +kernel
theorem dC_firstOpen_0 : decode cC_firstOpen 0 = .ok (.iconst 0, 1) := by decide +kernel
theorem dC_firstOpen_1 : decode cC_firstOpen 1 = .ok (.istore_n 2, 1) := by decide +kernel
theorem dC_firstOpen_2 : decode cC_firstOpen 2 = .ok (.iload_n 2, 1) := by decide +kernel
theorem dC_firstOpen_3 : decode cC_firstOpen 3 = .ok (.aload_n 0, 1) := by decide +kernel
theorem dC_firstOpen_4 : decode cC_firstOpen 4 = .ok (.getfield 15, 3) := by decide +kernel
theorem dC_firstOpen_7 : decode cC_firstOpen 7 = .ok (.if_icmp .ge 40, 3) := by decide +kernel
theorem dC_firstOpen_10 : decode cC_firstOpen 10 = .ok (.aload_n 0, 1) := by decide +kernel
theorem dC_firstOpen_11 : decode cC_firstOpen 11 = .ok (.iload_n 2, 1) := by decide +kernel
theorem dC_firstOpen_12 : decode cC_firstOpen 12 = .ok (.iconst 0, 1) := by decide +kernel
theorem dC_firstOpen_13 : decode cC_firstOpen 13 = .ok (.aload_n 1, 1) := by decide +kernel
theorem dC_firstOpen_14 : decode cC_firstOpen 14 = .ok (.invokevirtual 28, 3) := by decide +kernel
theorem dC_firstOpen_17 : decode cC_firstOpen 17 = .ok (.aload_n 0, 1) := by decide +kernel
theorem dC_firstOpen_18 : decode cC_firstOpen 18 = .ok (.iload_n 2, 1) := by decide +kernel
theorem dC_firstOpen_19 : decode cC_firstOpen 19 = .ok (.iconst 1, 1) := by decide +kernel
theorem dC_firstOpen_20 : decode cC_firstOpen 20 = .ok (.aload_n 1, 1) := by decide +kernel
theorem dC_firstOpen_21 : decode cC_firstOpen 21 = .ok (.invokevirtual 28, 3) := by decide +kernel
theorem dC_firstOpen_24 : decode cC_firstOpen 24 = .ok (.invokestatic 32, 3) := by decide +kernel
theorem dC_firstOpen_27 : decode cC_firstOpen 27 = .ok (.istore_n 3, 1) := by decide +kernel
theorem dC_firstOpen_28 : decode cC_firstOpen 28 = .ok (.iload_n 3, 1) := by decide +kernel
theorem dC_firstOpen_29 : decode cC_firstOpen 29 = .ok (.aload_n 0, 1) := by decide +kernel
theorem dC_firstOpen_30 : decode cC_firstOpen 30 = .ok (.iload_n 2, 1) := by decide +kernel
theorem dC_firstOpen_31 : decode cC_firstOpen 31 = .ok (.iconst 2, 1) := by decide +kernel
theorem dC_firstOpen_32 : decode cC_firstOpen 32 = .ok (.aload_n 1, 1) := by decide +kernel
theorem dC_firstOpen_33 : decode cC_firstOpen 33 = .ok (.invokevirtual 28, 3) := by decide +kernel
theorem dC_firstOpen_36 : decode cC_firstOpen 36 = .ok (.if_icmp .eq 5, 3) := by decide +kernel
theorem dC_firstOpen_39 : decode cC_firstOpen 39 = .ok (.iload_n 2, 1) := by decide +kernel
theorem dC_firstOpen_40 : decode cC_firstOpen 40 = .ok (.ireturn, 1) := by decide +kernel
theorem dC_firstOpen_41 : decode cC_firstOpen 41 = .ok (.iinc 2 1, 3) := by decide +kernel
theorem dC_firstOpen_44 : decode cC_firstOpen 44 = .ok (.goto (-42), 3) := by decide +kernel
theorem dC_firstOpen_47 : decode cC_firstOpen 47 = .ok (.iconst (-1), 1) := by decide +kernel
theorem dC_firstOpen_48 : decode cC_firstOpen 48 = .ok (.ireturn, 1) := by decide +kernel
theorem dC_growDraft_0 : decode cC_growDraft 0 = .ok (.aload_n 0, 1) := by decide +kernel
theorem dC_growDraft_1 : decode cC_growDraft 1 = .ok (.getfield 15, 3) := by decide +kernel
theorem dC_growDraft_4 : decode cC_growDraft 4 = .ok (.iload_n 1, 1) := by decide +kernel
theorem dC_growDraft_5 : decode cC_growDraft 5 = .ok (.invokestatic 19, 3) := by decide +kernel
theorem dC_growDraft_8 : decode cC_growDraft 8 = .ok (.iload_n 2, 1) := by decide +kernel
theorem dC_growDraft_9 : decode cC_growDraft 9 = .ok (.iadd, 1) := by decide +kernel
theorem dC_growDraft_10 : decode cC_growDraft 10 = .ok (.istore 4, 2) := by decide +kernel
theorem dC_growDraft_12 : decode cC_growDraft 12 = .ok (.aload_n 0, 1) := by decide +kernel
theorem dC_growDraft_13 : decode cC_growDraft 13 = .ok (.getfield 9, 3) := by decide +kernel
theorem dC_growDraft_16 : decode cC_growDraft 16 = .ok (.iload 4, 2) := by decide +kernel
theorem dC_growDraft_18 : decode cC_growDraft 18 = .ok (.aload_n 0, 1) := by decide +kernel
theorem dC_growDraft_19 : decode cC_growDraft 19 = .ok (.getfield 9, 3) := by decide +kernel
theorem dC_growDraft_22 : decode cC_growDraft 22 = .ok (.iload 4, 2) := by decide +kernel
theorem dC_growDraft_24 : decode cC_growDraft 24 = .ok (.iaload, 1) := by decide +kernel
theorem dC_growDraft_25 : decode cC_growDraft 25 = .ok (.iload_n 3, 1) := by decide +kernel
theorem dC_growDraft_26 : decode cC_growDraft 26 = .ok (.invokestatic 23, 3) := by decide +kernel
theorem dC_growDraft_29 : decode cC_growDraft 29 = .ok (.iastore, 1) := by decide +kernel
theorem dC_growDraft_30 : decode cC_growDraft 30 = .ok (.aload_n 0, 1) := by decide +kernel
theorem dC_growDraft_31 : decode cC_growDraft 31 = .ok (.getfield 9, 3) := by decide +kernel
theorem dC_growDraft_34 : decode cC_growDraft 34 = .ok (.iload 4, 2) := by decide +kernel
theorem dC_growDraft_36 : decode cC_growDraft 36 = .ok (.iaload, 1) := by decide +kernel
theorem dC_growDraft_37 : decode cC_growDraft 37 = .ok (.ireturn, 1) := by decide +kernel
theorem dC_rowSum_0 : decode cC_rowSum 0 = .ok (.iload_n 1, 1) := by decide +kernel
theorem dC_rowSum_1 : decode cC_rowSum 1 = .ok (.iload_n 2, 1) := by decide +kernel
theorem dC_rowSum_2 : decode cC_rowSum 2 = .ok (.invokestatic 19, 3) := by decide +kernel
theorem dC_rowSum_5 : decode cC_rowSum 5 = .ok (.istore 4, 2) := by decide +kernel
theorem dC_rowSum_7 : decode cC_rowSum 7 = .ok (.iconst 0, 1) := by decide +kernel
theorem dC_rowSum_8 : decode cC_rowSum 8 = .ok (.istore 5, 2) := by decide +kernel
theorem dC_rowSum_10 : decode cC_rowSum 10 = .ok (.iconst 0, 1) := by decide +kernel
theorem dC_rowSum_11 : decode cC_rowSum 11 = .ok (.istore 6, 2) := by decide +kernel
theorem dC_rowSum_13 : decode cC_rowSum 13 = .ok (.iload 6, 2) := by decide +kernel
theorem dC_rowSum_15 : decode cC_rowSum 15 = .ok (.bipush 16, 2) := by decide +kernel
theorem dC_rowSum_17 : decode cC_rowSum 17 = .ok (.if_icmp .ge 33, 3) := by decide +kernel
theorem dC_rowSum_20 : decode cC_rowSum 20 = .ok (.iload 5, 2) := by decide +kernel
theorem dC_rowSum_22 : decode cC_rowSum 22 = .ok (.aload_n 0, 1) := by decide +kernel
theorem dC_rowSum_23 : decode cC_rowSum 23 = .ok (.getfield 9, 3) := by decide +kernel
theorem dC_rowSum_26 : decode cC_rowSum 26 = .ok (.iload 4, 2) := by decide +kernel
theorem dC_rowSum_28 : decode cC_rowSum 28 = .ok (.iload 6, 2) := by decide +kernel
theorem dC_rowSum_30 : decode cC_rowSum 30 = .ok (.iadd, 1) := by decide +kernel
theorem dC_rowSum_31 : decode cC_rowSum 31 = .ok (.iaload, 1) := by decide +kernel
theorem dC_rowSum_32 : decode cC_rowSum 32 = .ok (.aload_n 3, 1) := by decide +kernel
theorem dC_rowSum_33 : decode cC_rowSum 33 = .ok (.iload 6, 2) := by decide +kernel
theorem dC_rowSum_35 : decode cC_rowSum 35 = .ok (.iaload, 1) := by decide +kernel
theorem dC_rowSum_36 : decode cC_rowSum 36 = .ok (.invokestatic 32, 3) := by decide +kernel
theorem dC_rowSum_39 : decode cC_rowSum 39 = .ok (.invokestatic 23, 3) := by decide +kernel
theorem dC_rowSum_42 : decode cC_rowSum 42 = .ok (.istore 5, 2) := by decide +kernel
theorem dC_rowSum_44 : decode cC_rowSum 44 = .ok (.iinc 6 1, 3) := by decide +kernel
theorem dC_rowSum_47 : decode cC_rowSum 47 = .ok (.goto (-34), 3) := by decide +kernel
theorem dC_rowSum_50 : decode cC_rowSum 50 = .ok (.iload 5, 2) := by decide +kernel
theorem dC_rowSum_52 : decode cC_rowSum 52 = .ok (.ireturn, 1) := by decide +kernel
theorem dC_rowSums_0 : decode cC_rowSums 0 = .ok (.iconst 0, 1) := by decide +kernel
theorem dC_rowSums_1 : decode cC_rowSums 1 = .ok (.istore 4, 2) := by decide +kernel
theorem dC_rowSums_3 : decode cC_rowSums 3 = .ok (.iload 4, 2) := by decide +kernel
theorem dC_rowSums_5 : decode cC_rowSums 5 = .ok (.bipush 16, 2) := by decide +kernel
theorem dC_rowSums_7 : decode cC_rowSums 7 = .ok (.if_icmp .ge 34, 3) := by decide +kernel
theorem dC_rowSums_10 : decode cC_rowSums 10 = .ok (.aload_n 3, 1) := by decide +kernel
theorem dC_rowSums_11 : decode cC_rowSums 11 = .ok (.iload 4, 2) := by decide +kernel
theorem dC_rowSums_13 : decode cC_rowSums 13 = .ok (.iload 4, 2) := by decide +kernel
theorem dC_rowSums_15 : decode cC_rowSums 15 = .ok (.aload_n 0, 1) := by decide +kernel
theorem dC_rowSums_16 : decode cC_rowSums 16 = .ok (.getfield 15, 3) := by decide +kernel
theorem dC_rowSums_19 : decode cC_rowSums 19 = .ok (.if_icmp .ge 14, 3) := by decide +kernel
theorem dC_rowSums_22 : decode cC_rowSums 22 = .ok (.aload_n 0, 1) := by decide +kernel
theorem dC_rowSums_23 : decode cC_rowSums 23 = .ok (.iload 4, 2) := by decide +kernel
theorem dC_rowSums_25 : decode cC_rowSums 25 = .ok (.iload_n 1, 1) := by decide +kernel
theorem dC_rowSums_26 : decode cC_rowSums 26 = .ok (.aload_n 2, 1) := by decide +kernel
theorem dC_rowSums_27 : decode cC_rowSums 27 = .ok (.invokevirtual 28, 3) := by decide +kernel
theorem dC_rowSums_30 : decode cC_rowSums 30 = .ok (.goto 4, 3) := by decide +kernel
theorem dC_rowSums_33 : decode cC_rowSums 33 = .ok (.iconst 0, 1) := by decide +kernel
theorem dC_rowSums_34 : decode cC_rowSums 34 = .ok (.iastore, 1) := by decide +kernel
theorem dC_rowSums_35 : decode cC_rowSums 35 = .ok (.iinc 4 1, 3) := by decide +kernel
theorem dC_rowSums_38 : decode cC_rowSums 38 = .ok (.goto (-35), 3) := by decide +kernel
theorem dC_rowSums_41 : decode cC_rowSums 41 = .ok (.return_, 1) := by decide +kernel
theorem dC_start_0 : decode cC_start 0 = .ok (.iload_n 0, 1) := by decide +kernel
theorem dC_start_1 : decode cC_start 1 = .ok (.iconst 3, 1) := by decide +kernel
theorem dC_start_2 : decode cC_start 2 = .ok (.imul, 1) := by decide +kernel
theorem dC_start_3 : decode cC_start 3 = .ok (.iload_n 1, 1) := by decide +kernel
theorem dC_start_4 : decode cC_start 4 = .ok (.iadd, 1) := by decide +kernel
theorem dC_start_5 : decode cC_start 5 = .ok (.bipush 16, 2) := by decide +kernel
theorem dC_start_7 : decode cC_start 7 = .ok (.imul, 1) := by decide +kernel
theorem dC_start_8 : decode cC_start 8 = .ok (.ireturn, 1) := by decide +kernel
theorem dD_init_0 : decode cD_init 0 = .ok (.aload_n 0, 1) := by decide +kernel
theorem dD_init_1 : decode cD_init 1 = .ok (.invokespecial 3, 3) := by decide +kernel
theorem dD_init_4 : decode cD_init 4 = .ok (.aload_n 0, 1) := by decide +kernel
theorem dD_init_5 : decode cD_init 5 = .ok (.bipush 16, 2) := by decide +kernel
theorem dD_init_7 : decode cD_init 7 = .ok (.newarray .int, 2) := by decide +kernel
theorem dD_init_9 : decode cD_init 9 = .ok (.putfield 9, 3) := by decide +kernel
theorem dD_init_12 : decode cD_init 12 = .ok (.aload_n 0, 1) := by decide +kernel
theorem dD_init_13 : decode cD_init 13 = .ok (.iconst 0, 1) := by decide +kernel
theorem dD_init_14 : decode cD_init 14 = .ok (.invokevirtual 15, 3) := by decide +kernel
theorem dD_init_17 : decode cD_init 17 = .ok (.return_, 1) := by decide +kernel
theorem dD_coefficient_0 : decode cD_coefficient 0 = .ok (.iconst 0, 1) := by decide +kernel
theorem dD_coefficient_1 : decode cD_coefficient 1 = .ok (.istore_n 3, 1) := by decide +kernel
theorem dD_coefficient_2 : decode cD_coefficient 2 = .ok (.iconst 0, 1) := by decide +kernel
theorem dD_coefficient_3 : decode cD_coefficient 3 = .ok (.istore 4, 2) := by decide +kernel
theorem dD_coefficient_5 : decode cD_coefficient 5 = .ok (.iload 4, 2) := by decide +kernel
theorem dD_coefficient_7 : decode cD_coefficient 7 = .ok (.aload_n 0, 1) := by decide +kernel
theorem dD_coefficient_8 : decode cD_coefficient 8 = .ok (.getfield 19, 3) := by decide +kernel
theorem dD_coefficient_11 : decode cD_coefficient 11 = .ok (.if_icmp .ge 37, 3) := by decide +kernel
theorem dD_coefficient_14 : decode cD_coefficient 14 = .ok (.iload_n 3, 1) := by decide +kernel
theorem dD_coefficient_15 : decode cD_coefficient 15 = .ok (.aload_n 1, 1) := by decide +kernel
theorem dD_coefficient_16 : decode cD_coefficient 16 = .ok (.iload 4, 2) := by decide +kernel
theorem dD_coefficient_18 : decode cD_coefficient 18 = .ok (.iaload, 1) := by decide +kernel
theorem dD_coefficient_19 : decode cD_coefficient 19 = .ok (.aload_n 0, 1) := by decide +kernel
theorem dD_coefficient_20 : decode cD_coefficient 20 = .ok (.getfield 9, 3) := by decide +kernel
theorem dD_coefficient_23 : decode cD_coefficient 23 = .ok (.iload 4, 2) := by decide +kernel
theorem dD_coefficient_25 : decode cD_coefficient 25 = .ok (.iload_n 2, 1) := by decide +kernel
theorem dD_coefficient_26 : decode cD_coefficient 26 = .ok (.imul, 1) := by decide +kernel
theorem dD_coefficient_27 : decode cD_coefficient 27 = .ok (.aload_n 0, 1) := by decide +kernel
theorem dD_coefficient_28 : decode cD_coefficient 28 = .ok (.getfield 19, 3) := by decide +kernel
theorem dD_coefficient_31 : decode cD_coefficient 31 = .ok (.iconst 1, 1) := by decide +kernel
theorem dD_coefficient_32 : decode cD_coefficient 32 = .ok (.isub, 1) := by decide +kernel
theorem dD_coefficient_33 : decode cD_coefficient 33 = .ok (.iand, 1) := by decide +kernel
theorem dD_coefficient_34 : decode cD_coefficient 34 = .ok (.iaload, 1) := by decide +kernel
theorem dD_coefficient_35 : decode cD_coefficient 35 = .ok (.invokestatic 36, 3) := by decide +kernel
theorem dD_coefficient_38 : decode cD_coefficient 38 = .ok (.invokestatic 42, 3) := by decide +kernel
theorem dD_coefficient_41 : decode cD_coefficient 41 = .ok (.istore_n 3, 1) := by decide +kernel
theorem dD_coefficient_42 : decode cD_coefficient 42 = .ok (.iinc 4 1, 3) := by decide +kernel
theorem dD_coefficient_45 : decode cD_coefficient 45 = .ok (.goto (-40), 3) := by decide +kernel
theorem dD_coefficient_48 : decode cD_coefficient 48 = .ok (.iload_n 3, 1) := by decide +kernel
theorem dD_coefficient_49 : decode cD_coefficient 49 = .ok (.aload_n 0, 1) := by decide +kernel
theorem dD_coefficient_50 : decode cD_coefficient 50 = .ok (.getfield 30, 3) := by decide +kernel
theorem dD_coefficient_53 : decode cD_coefficient 53 = .ok (.invokestatic 36, 3) := by decide +kernel
theorem dD_coefficient_56 : decode cD_coefficient 56 = .ok (.ireturn, 1) := by decide +kernel
theorem dD_fit_0 : decode cD_fit 0 = .ok (.aload_n 0, 1) := by decide +kernel
theorem dD_fit_1 : decode cD_fit 1 = .ok (.iconst 2, 1) := by decide +kernel
theorem dD_fit_2 : decode cD_fit 2 = .ok (.putfield 19, 3) := by decide +kernel
theorem dD_fit_5 : decode cD_fit 5 = .ok (.ldc 23, 2) := by decide +kernel
theorem dD_fit_7 : decode cD_fit 7 = .ok (.istore_n 2, 1) := by decide +kernel
theorem dD_fit_8 : decode cD_fit 8 = .ok (.aload_n 0, 1) := by decide +kernel
theorem dD_fit_9 : decode cD_fit 9 = .ok (.getfield 19, 3) := by decide +kernel
theorem dD_fit_12 : decode cD_fit 12 = .ok (.iload_n 1, 1) := by decide +kernel
theorem dD_fit_13 : decode cD_fit 13 = .ok (.if_icmp .ge 29, 3) := by decide +kernel
theorem dD_fit_16 : decode cD_fit 16 = .ok (.aload_n 0, 1) := by decide +kernel
theorem dD_fit_17 : decode cD_fit 17 = .ok (.getfield 19, 3) := by decide +kernel
theorem dD_fit_20 : decode cD_fit 20 = .ok (.bipush 16, 2) := by decide +kernel
theorem dD_fit_22 : decode cD_fit 22 = .ok (.if_icmp .ge 20, 3) := by decide +kernel
theorem dD_fit_25 : decode cD_fit 25 = .ok (.aload_n 0, 1) := by decide +kernel
theorem dD_fit_26 : decode cD_fit 26 = .ok (.dup, 1) := by decide +kernel
theorem dD_fit_27 : decode cD_fit 27 = .ok (.getfield 19, 3) := by decide +kernel
theorem dD_fit_30 : decode cD_fit 30 = .ok (.iconst 2, 1) := by decide +kernel
theorem dD_fit_31 : decode cD_fit 31 = .ok (.imul, 1) := by decide +kernel
theorem dD_fit_32 : decode cD_fit 32 = .ok (.putfield 19, 3) := by decide +kernel
theorem dD_fit_35 : decode cD_fit 35 = .ok (.iload_n 2, 1) := by decide +kernel
theorem dD_fit_36 : decode cD_fit 36 = .ok (.iconst 2, 1) := by decide +kernel
theorem dD_fit_37 : decode cD_fit 37 = .ok (.idiv, 1) := by decide +kernel
theorem dD_fit_38 : decode cD_fit 38 = .ok (.istore_n 2, 1) := by decide +kernel
theorem dD_fit_39 : decode cD_fit 39 = .ok (.goto (-31), 3) := by decide +kernel
theorem dD_fit_42 : decode cD_fit 42 = .ok (.aload_n 0, 1) := by decide +kernel
theorem dD_fit_43 : decode cD_fit 43 = .ok (.iconst 1, 1) := by decide +kernel
theorem dD_fit_44 : decode cD_fit 44 = .ok (.aload_n 0, 1) := by decide +kernel
theorem dD_fit_45 : decode cD_fit 45 = .ok (.getfield 19, 3) := by decide +kernel
theorem dD_fit_48 : decode cD_fit 48 = .ok (.invokestatic 24, 3) := by decide +kernel
theorem dD_fit_51 : decode cD_fit 51 = .ok (.putfield 30, 3) := by decide +kernel
theorem dD_fit_54 : decode cD_fit 54 = .ok (.iconst 1, 1) := by decide +kernel
theorem dD_fit_55 : decode cD_fit 55 = .ok (.iconst 3, 1) := by decide +kernel
theorem dD_fit_56 : decode cD_fit 56 = .ok (.iload_n 2, 1) := by decide +kernel
theorem dD_fit_57 : decode cD_fit 57 = .ok (.invokestatic 33, 3) := by decide +kernel
theorem dD_fit_60 : decode cD_fit 60 = .ok (.invokestatic 24, 3) := by decide +kernel
theorem dD_fit_63 : decode cD_fit 63 = .ok (.istore_n 3, 1) := by decide +kernel
theorem dD_fit_64 : decode cD_fit 64 = .ok (.aload_n 0, 1) := by decide +kernel
theorem dD_fit_65 : decode cD_fit 65 = .ok (.getfield 9, 3) := by decide +kernel
theorem dD_fit_68 : decode cD_fit 68 = .ok (.iconst 0, 1) := by decide +kernel
theorem dD_fit_69 : decode cD_fit 69 = .ok (.iconst 1, 1) := by decide +kernel
theorem dD_fit_70 : decode cD_fit 70 = .ok (.iastore, 1) := by decide +kernel
theorem dD_fit_71 : decode cD_fit 71 = .ok (.iconst 1, 1) := by decide +kernel
theorem dD_fit_72 : decode cD_fit 72 = .ok (.istore 4, 2) := by decide +kernel
theorem dD_fit_74 : decode cD_fit 74 = .ok (.iload 4, 2) := by decide +kernel
theorem dD_fit_76 : decode cD_fit 76 = .ok (.aload_n 0, 1) := by decide +kernel
theorem dD_fit_77 : decode cD_fit 77 = .ok (.getfield 19, 3) := by decide +kernel
theorem dD_fit_80 : decode cD_fit 80 = .ok (.if_icmp .ge 29, 3) := by decide +kernel
theorem dD_fit_83 : decode cD_fit 83 = .ok (.aload_n 0, 1) := by decide +kernel
theorem dD_fit_84 : decode cD_fit 84 = .ok (.getfield 9, 3) := by decide +kernel
theorem dD_fit_87 : decode cD_fit 87 = .ok (.iload 4, 2) := by decide +kernel
theorem dD_fit_89 : decode cD_fit 89 = .ok (.aload_n 0, 1) := by decide +kernel
theorem dD_fit_90 : decode cD_fit 90 = .ok (.getfield 9, 3) := by decide +kernel
theorem dD_fit_93 : decode cD_fit 93 = .ok (.iload 4, 2) := by decide +kernel
theorem dD_fit_95 : decode cD_fit 95 = .ok (.iconst 1, 1) := by decide +kernel
theorem dD_fit_96 : decode cD_fit 96 = .ok (.isub, 1) := by decide +kernel
theorem dD_fit_97 : decode cD_fit 97 = .ok (.iaload, 1) := by decide +kernel
theorem dD_fit_98 : decode cD_fit 98 = .ok (.iload_n 3, 1) := by decide +kernel
theorem dD_fit_99 : decode cD_fit 99 = .ok (.invokestatic 36, 3) := by decide +kernel
theorem dD_fit_102 : decode cD_fit 102 = .ok (.iastore, 1) := by decide +kernel
theorem dD_fit_103 : decode cD_fit 103 = .ok (.iinc 4 1, 3) := by decide +kernel
theorem dD_fit_106 : decode cD_fit 106 = .ok (.goto (-32), 3) := by decide +kernel
theorem dD_fit_109 : decode cD_fit 109 = .ok (.return_, 1) := by decide +kernel
theorem dD_interpolate_0 : decode cD_interpolate 0 = .ok (.iconst 0, 1) := by decide +kernel
theorem dD_interpolate_1 : decode cD_interpolate 1 = .ok (.istore_n 3, 1) := by decide +kernel
theorem dD_interpolate_2 : decode cD_interpolate 2 = .ok (.iload_n 3, 1) := by decide +kernel
theorem dD_interpolate_3 : decode cD_interpolate 3 = .ok (.aload_n 0, 1) := by decide +kernel
theorem dD_interpolate_4 : decode cD_interpolate 4 = .ok (.getfield 19, 3) := by decide +kernel
theorem dD_interpolate_7 : decode cD_interpolate 7 = .ok (.if_icmp .ge 18, 3) := by decide +kernel
theorem dD_interpolate_10 : decode cD_interpolate 10 = .ok (.aload_n 2, 1) := by decide +kernel
theorem dD_interpolate_11 : decode cD_interpolate 11 = .ok (.iload_n 3, 1) := by decide +kernel
theorem dD_interpolate_12 : decode cD_interpolate 12 = .ok (.aload_n 0, 1) := by decide +kernel
theorem dD_interpolate_13 : decode cD_interpolate 13 = .ok (.aload_n 1, 1) := by decide +kernel
theorem dD_interpolate_14 : decode cD_interpolate 14 = .ok (.iload_n 3, 1) := by decide +kernel
theorem dD_interpolate_15 : decode cD_interpolate 15 = .ok (.invokevirtual 45, 3) := by decide +kernel
theorem dD_interpolate_18 : decode cD_interpolate 18 = .ok (.iastore, 1) := by decide +kernel
theorem dD_interpolate_19 : decode cD_interpolate 19 = .ok (.iinc 3 1, 3) := by decide +kernel
theorem dD_interpolate_22 : decode cD_interpolate 22 = .ok (.goto (-20), 3) := by decide +kernel
theorem dD_interpolate_25 : decode cD_interpolate 25 = .ok (.return_, 1) := by decide +kernel
theorem dD_size_0 : decode cD_size 0 = .ok (.aload_n 0, 1) := by decide +kernel
theorem dD_size_1 : decode cD_size 1 = .ok (.getfield 19, 3) := by decide +kernel
theorem dD_size_4 : decode cD_size 4 = .ok (.ireturn, 1) := by decide +kernel
theorem dD_vanishingAt_0 : decode cD_vanishingAt 0 = .ok (.iload_n 1, 1) := by decide +kernel
theorem dD_vanishingAt_1 : decode cD_vanishingAt 1 = .ok (.aload_n 0, 1) := by decide +kernel
theorem dD_vanishingAt_2 : decode cD_vanishingAt 2 = .ok (.getfield 19, 3) := by decide +kernel
theorem dD_vanishingAt_5 : decode cD_vanishingAt 5 = .ok (.invokestatic 33, 3) := by decide +kernel
theorem dD_vanishingAt_8 : decode cD_vanishingAt 8 = .ok (.iconst 1, 1) := by decide +kernel
theorem dD_vanishingAt_9 : decode cD_vanishingAt 9 = .ok (.invokestatic 39, 3) := by decide +kernel
theorem dD_vanishingAt_12 : decode cD_vanishingAt 12 = .ok (.ireturn, 1) := by decide +kernel
theorem dD_weight_0 : decode cD_weight 0 = .ok (.iload_n 2, 1) := by decide +kernel
theorem dD_weight_1 : decode cD_weight 1 = .ok (.aload_n 0, 1) := by decide +kernel
theorem dD_weight_2 : decode cD_weight 2 = .ok (.getfield 9, 3) := by decide +kernel
theorem dD_weight_5 : decode cD_weight 5 = .ok (.iload_n 1, 1) := by decide +kernel
theorem dD_weight_6 : decode cD_weight 6 = .ok (.iaload, 1) := by decide +kernel
theorem dD_weight_7 : decode cD_weight 7 = .ok (.invokestatic 36, 3) := by decide +kernel
theorem dD_weight_10 : decode cD_weight 10 = .ok (.istore_n 3, 1) := by decide +kernel
theorem dD_weight_11 : decode cD_weight 11 = .ok (.iconst 0, 1) := by decide +kernel
theorem dD_weight_12 : decode cD_weight 12 = .ok (.istore 4, 2) := by decide +kernel
theorem dD_weight_14 : decode cD_weight 14 = .ok (.iconst 0, 1) := by decide +kernel
theorem dD_weight_15 : decode cD_weight 15 = .ok (.istore 5, 2) := by decide +kernel
theorem dD_weight_17 : decode cD_weight 17 = .ok (.iload 5, 2) := by decide +kernel
theorem dD_weight_19 : decode cD_weight 19 = .ok (.aload_n 0, 1) := by decide +kernel
theorem dD_weight_20 : decode cD_weight 20 = .ok (.getfield 19, 3) := by decide +kernel
theorem dD_weight_23 : decode cD_weight 23 = .ok (.if_icmp .ge 21, 3) := by decide +kernel
theorem dD_weight_26 : decode cD_weight 26 = .ok (.iload 4, 2) := by decide +kernel
theorem dD_weight_28 : decode cD_weight 28 = .ok (.iload_n 3, 1) := by decide +kernel
theorem dD_weight_29 : decode cD_weight 29 = .ok (.invokestatic 36, 3) := by decide +kernel
theorem dD_weight_32 : decode cD_weight 32 = .ok (.iconst 1, 1) := by decide +kernel
theorem dD_weight_33 : decode cD_weight 33 = .ok (.invokestatic 42, 3) := by decide +kernel
theorem dD_weight_36 : decode cD_weight 36 = .ok (.istore 4, 2) := by decide +kernel
theorem dD_weight_38 : decode cD_weight 38 = .ok (.iinc 5 1, 3) := by decide +kernel
theorem dD_weight_41 : decode cD_weight 41 = .ok (.goto (-24), 3) := by decide +kernel
theorem dD_weight_44 : decode cD_weight 44 = .ok (.iload 4, 2) := by decide +kernel
theorem dD_weight_46 : decode cD_weight 46 = .ok (.aload_n 0, 1) := by decide +kernel
theorem dD_weight_47 : decode cD_weight 47 = .ok (.getfield 30, 3) := by decide +kernel
theorem dD_weight_50 : decode cD_weight 50 = .ok (.invokestatic 36, 3) := by decide +kernel
theorem dD_weight_53 : decode cD_weight 53 = .ok (.ireturn, 1) := by decide +kernel
theorem dF_difference_0 : decode cF_difference 0 = .ok (.iload_n 0, 1) := by decide +kernel
theorem dF_difference_1 : decode cF_difference 1 = .ok (.iload_n 1, 1) := by decide +kernel
theorem dF_difference_2 : decode cF_difference 2 = .ok (.if_icmp .lt 9, 3) := by decide +kernel
theorem dF_difference_5 : decode cF_difference 5 = .ok (.iload_n 0, 1) := by decide +kernel
theorem dF_difference_6 : decode cF_difference 6 = .ok (.iload_n 1, 1) := by decide +kernel
theorem dF_difference_7 : decode cF_difference 7 = .ok (.isub, 1) := by decide +kernel
theorem dF_difference_8 : decode cF_difference 8 = .ok (.goto 9, 3) := by decide +kernel
theorem dF_difference_11 : decode cF_difference 11 = .ok (.iload_n 0, 1) := by decide +kernel
theorem dF_difference_12 : decode cF_difference 12 = .ok (.iload_n 1, 1) := by decide +kernel
theorem dF_difference_13 : decode cF_difference 13 = .ok (.isub, 1) := by decide +kernel
theorem dF_difference_14 : decode cF_difference 14 = .ok (.ldc 9, 2) := by decide +kernel
theorem dF_difference_16 : decode cF_difference 16 = .ok (.iadd, 1) := by decide +kernel
theorem dF_difference_17 : decode cF_difference 17 = .ok (.ireturn, 1) := by decide +kernel
theorem dF_power_0 : decode cF_power 0 = .ok (.iconst 1, 1) := by decide +kernel
theorem dF_power_1 : decode cF_power 1 = .ok (.istore_n 2, 1) := by decide +kernel
theorem dF_power_2 : decode cF_power 2 = .ok (.iload_n 0, 1) := by decide +kernel
theorem dF_power_3 : decode cF_power 3 = .ok (.istore_n 3, 1) := by decide +kernel
theorem dF_power_4 : decode cF_power 4 = .ok (.iload_n 1, 1) := by decide +kernel
theorem dF_power_5 : decode cF_power 5 = .ok (.istore 4, 2) := by decide +kernel
theorem dF_power_7 : decode cF_power 7 = .ok (.iload 4, 2) := by decide +kernel
theorem dF_power_9 : decode cF_power 9 = .ok (.ifCond .le 32, 3) := by decide +kernel
theorem dF_power_12 : decode cF_power 12 = .ok (.iload 4, 2) := by decide +kernel
theorem dF_power_14 : decode cF_power 14 = .ok (.iconst 2, 1) := by decide +kernel
theorem dF_power_15 : decode cF_power 15 = .ok (.irem, 1) := by decide +kernel
theorem dF_power_16 : decode cF_power 16 = .ok (.iconst 1, 1) := by decide +kernel
theorem dF_power_17 : decode cF_power 17 = .ok (.if_icmp .ne 9, 3) := by decide +kernel
theorem dF_power_20 : decode cF_power 20 = .ok (.iload_n 2, 1) := by decide +kernel
theorem dF_power_21 : decode cF_power 21 = .ok (.iload_n 3, 1) := by decide +kernel
theorem dF_power_22 : decode cF_power 22 = .ok (.invokestatic 12, 3) := by decide +kernel
theorem dF_power_25 : decode cF_power 25 = .ok (.istore_n 2, 1) := by decide +kernel
theorem dF_power_26 : decode cF_power 26 = .ok (.iload_n 3, 1) := by decide +kernel
theorem dF_power_27 : decode cF_power 27 = .ok (.iload_n 3, 1) := by decide +kernel
theorem dF_power_28 : decode cF_power 28 = .ok (.invokestatic 12, 3) := by decide +kernel
theorem dF_power_31 : decode cF_power 31 = .ok (.istore_n 3, 1) := by decide +kernel
theorem dF_power_32 : decode cF_power 32 = .ok (.iload 4, 2) := by decide +kernel
theorem dF_power_34 : decode cF_power 34 = .ok (.iconst 2, 1) := by decide +kernel
theorem dF_power_35 : decode cF_power 35 = .ok (.idiv, 1) := by decide +kernel
theorem dF_power_36 : decode cF_power 36 = .ok (.istore 4, 2) := by decide +kernel
theorem dF_power_38 : decode cF_power 38 = .ok (.goto (-31), 3) := by decide +kernel
theorem dF_power_41 : decode cF_power 41 = .ok (.iload_n 2, 1) := by decide +kernel
theorem dF_power_42 : decode cF_power 42 = .ok (.ireturn, 1) := by decide +kernel
theorem dF_product_0 : decode cF_product 0 = .ok (.iload_n 0, 1) := by decide +kernel
theorem dF_product_1 : decode cF_product 1 = .ok (.i2l, 1) := by decide +kernel
theorem dF_product_2 : decode cF_product 2 = .ok (.iload_n 1, 1) := by decide +kernel
theorem dF_product_3 : decode cF_product 3 = .ok (.i2l, 1) := by decide +kernel
theorem dF_product_4 : decode cF_product 4 = .ok (.lmul, 1) := by decide +kernel
theorem dF_product_5 : decode cF_product 5 = .ok (.ldc2_w 10, 3) := by decide +kernel
theorem dF_product_8 : decode cF_product 8 = .ok (.lrem, 1) := by decide +kernel
theorem dF_product_9 : decode cF_product 9 = .ok (.l2i, 1) := by decide +kernel
theorem dF_product_10 : decode cF_product 10 = .ok (.ireturn, 1) := by decide +kernel
theorem dF_ratio_0 : decode cF_ratio 0 = .ok (.iload_n 0, 1) := by decide +kernel
theorem dF_ratio_1 : decode cF_ratio 1 = .ok (.iload_n 1, 1) := by decide +kernel
theorem dF_ratio_2 : decode cF_ratio 2 = .ok (.ldc 18, 2) := by decide +kernel
theorem dF_ratio_4 : decode cF_ratio 4 = .ok (.invokestatic 19, 3) := by decide +kernel
theorem dF_ratio_7 : decode cF_ratio 7 = .ok (.invokestatic 12, 3) := by decide +kernel
theorem dF_ratio_10 : decode cF_ratio 10 = .ok (.ireturn, 1) := by decide +kernel
theorem dF_sum_0 : decode cF_sum 0 = .ok (.iload_n 0, 1) := by decide +kernel
theorem dF_sum_1 : decode cF_sum 1 = .ok (.iload_n 1, 1) := by decide +kernel
theorem dF_sum_2 : decode cF_sum 2 = .ok (.iadd, 1) := by decide +kernel
theorem dF_sum_3 : decode cF_sum 3 = .ok (.istore_n 2, 1) := by decide +kernel
theorem dF_sum_4 : decode cF_sum 4 = .ok (.iload_n 2, 1) := by decide +kernel
theorem dF_sum_5 : decode cF_sum 5 = .ok (.ldc 9, 2) := by decide +kernel
theorem dF_sum_7 : decode cF_sum 7 = .ok (.if_icmp .lt 10, 3) := by decide +kernel
theorem dF_sum_10 : decode cF_sum 10 = .ok (.iload_n 2, 1) := by decide +kernel
theorem dF_sum_11 : decode cF_sum 11 = .ok (.ldc 9, 2) := by decide +kernel
theorem dF_sum_13 : decode cF_sum 13 = .ok (.isub, 1) := by decide +kernel
theorem dF_sum_14 : decode cF_sum 14 = .ok (.goto 4, 3) := by decide +kernel
theorem dF_sum_17 : decode cF_sum 17 = .ok (.iload_n 2, 1) := by decide +kernel
theorem dF_sum_18 : decode cF_sum 18 = .ok (.ireturn, 1) := by decide +kernel
theorem dK_init_0 : decode cK_init 0 = .ok (.aload_n 0, 1) := by decide +kernel
theorem dK_init_1 : decode cK_init 1 = .ok (.invokespecial 3, 3) := by decide +kernel
theorem dK_init_4 : decode cK_init 4 = .ok (.aload_n 0, 1) := by decide +kernel
theorem dK_init_5 : decode cK_init 5 = .ok (.bipush 16, 2) := by decide +kernel
theorem dK_init_7 : decode cK_init 7 = .ok (.newarray .int, 2) := by decide +kernel
theorem dK_init_9 : decode cK_init 9 = .ok (.putfield 9, 3) := by decide +kernel
theorem dK_init_12 : decode cK_init 12 = .ok (.aload_n 0, 1) := by decide +kernel
theorem dK_init_13 : decode cK_init 13 = .ok (.bipush 16, 2) := by decide +kernel
theorem dK_init_15 : decode cK_init 15 = .ok (.newarray .int, 2) := by decide +kernel
theorem dK_init_17 : decode cK_init 17 = .ok (.putfield 15, 3) := by decide +kernel
theorem dK_init_20 : decode cK_init 20 = .ok (.aload_n 0, 1) := by decide +kernel
theorem dK_init_21 : decode cK_init 21 = .ok (.iconst 0, 1) := by decide +kernel
theorem dK_init_22 : decode cK_init 22 = .ok (.putfield 18, 3) := by decide +kernel
theorem dK_init_25 : decode cK_init 25 = .ok (.return_, 1) := by decide +kernel
theorem dK_alpha_0 : decode cK_alpha 0 = .ok (.aload_n 0, 1) := by decide +kernel
theorem dK_alpha_1 : decode cK_alpha 1 = .ok (.getfield 26, 3) := by decide +kernel
theorem dK_alpha_4 : decode cK_alpha 4 = .ok (.ireturn, 1) := by decide +kernel
theorem dK_atTau_0 : decode cK_atTau 0 = .ok (.iconst 0, 1) := by decide +kernel
theorem dK_atTau_1 : decode cK_atTau 1 = .ok (.istore_n 2, 1) := by decide +kernel
theorem dK_atTau_2 : decode cK_atTau 2 = .ok (.iconst 0, 1) := by decide +kernel
theorem dK_atTau_3 : decode cK_atTau 3 = .ok (.istore_n 3, 1) := by decide +kernel
theorem dK_atTau_4 : decode cK_atTau 4 = .ok (.iload_n 3, 1) := by decide +kernel
theorem dK_atTau_5 : decode cK_atTau 5 = .ok (.bipush 16, 2) := by decide +kernel
theorem dK_atTau_7 : decode cK_atTau 7 = .ok (.if_icmp .ge 26, 3) := by decide +kernel
theorem dK_atTau_10 : decode cK_atTau 10 = .ok (.iload_n 2, 1) := by decide +kernel
theorem dK_atTau_11 : decode cK_atTau 11 = .ok (.aload_n 1, 1) := by decide +kernel
theorem dK_atTau_12 : decode cK_atTau 12 = .ok (.iload_n 3, 1) := by decide +kernel
theorem dK_atTau_13 : decode cK_atTau 13 = .ok (.iaload, 1) := by decide +kernel
theorem dK_atTau_14 : decode cK_atTau 14 = .ok (.aload_n 0, 1) := by decide +kernel
theorem dK_atTau_15 : decode cK_atTau 15 = .ok (.getfield 9, 3) := by decide +kernel
theorem dK_atTau_18 : decode cK_atTau 18 = .ok (.iload_n 3, 1) := by decide +kernel
theorem dK_atTau_19 : decode cK_atTau 19 = .ok (.iaload, 1) := by decide +kernel
theorem dK_atTau_20 : decode cK_atTau 20 = .ok (.invokestatic 61, 3) := by decide +kernel
theorem dK_atTau_23 : decode cK_atTau 23 = .ok (.invokestatic 66, 3) := by decide +kernel
theorem dK_atTau_26 : decode cK_atTau 26 = .ok (.istore_n 2, 1) := by decide +kernel
theorem dK_atTau_27 : decode cK_atTau 27 = .ok (.iinc 3 1, 3) := by decide +kernel
theorem dK_atTau_30 : decode cK_atTau 30 = .ok (.goto (-26), 3) := by decide +kernel
theorem dK_atTau_33 : decode cK_atTau 33 = .ok (.iload_n 2, 1) := by decide +kernel
theorem dK_atTau_34 : decode cK_atTau 34 = .ok (.ireturn, 1) := by decide +kernel
theorem dK_beta_0 : decode cK_beta 0 = .ok (.aload_n 0, 1) := by decide +kernel
theorem dK_beta_1 : decode cK_beta 1 = .ok (.getfield 29, 3) := by decide +kernel
theorem dK_beta_4 : decode cK_beta 4 = .ok (.ireturn, 1) := by decide +kernel
theorem dK_delta_0 : decode cK_delta 0 = .ok (.aload_n 0, 1) := by decide +kernel
theorem dK_delta_1 : decode cK_delta 1 = .ok (.getfield 32, 3) := by decide +kernel
theorem dK_delta_4 : decode cK_delta 4 = .ok (.ireturn, 1) := by decide +kernel
theorem dK_drop_0 : decode cK_drop 0 = .ok (.aload_n 0, 1) := by decide +kernel
theorem dK_drop_1 : decode cK_drop 1 = .ok (.iconst 0, 1) := by decide +kernel
theorem dK_drop_2 : decode cK_drop 2 = .ok (.putfield 18, 3) := by decide +kernel
theorem dK_drop_5 : decode cK_drop 5 = .ok (.return_, 1) := by decide +kernel
theorem dK_firstElement_0 : decode cK_firstElement 0 = .ok (.aload_n 0, 1) := by decide +kernel
theorem dK_firstElement_1 : decode cK_firstElement 1 = .ok (.getfield 26, 3) := by decide +kernel
theorem dK_firstElement_4 : decode cK_firstElement 4 = .ok (.aload_n 0, 1) := by decide +kernel
theorem dK_firstElement_5 : decode cK_firstElement 5 = .ok (.aload_n 1, 1) := by decide +kernel
theorem dK_firstElement_6 : decode cK_firstElement 6 = .ok (.invokevirtual 69, 3) := by decide +kernel
theorem dK_firstElement_9 : decode cK_firstElement 9 = .ok (.invokestatic 66, 3) := by decide +kernel
theorem dK_firstElement_12 : decode cK_firstElement 12 = .ok (.ireturn, 1) := by decide +kernel
theorem dK_isMade_0 : decode cK_isMade 0 = .ok (.aload_n 0, 1) := by decide +kernel
theorem dK_isMade_1 : decode cK_isMade 1 = .ok (.getfield 18, 3) := by decide +kernel
theorem dK_isMade_4 : decode cK_isMade 4 = .ok (.ireturn, 1) := by decide +kernel
theorem dK_mixAll_0 : decode cK_mixAll 0 = .ok (.aload_n 0, 1) := by decide +kernel
theorem dK_mixAll_1 : decode cK_mixAll 1 = .ok (.aload_n 2, 1) := by decide +kernel
theorem dK_mixAll_2 : decode cK_mixAll 2 = .ok (.aload_n 0, 1) := by decide +kernel
theorem dK_mixAll_3 : decode cK_mixAll 3 = .ok (.getfield 22, 3) := by decide +kernel
theorem dK_mixAll_6 : decode cK_mixAll 6 = .ok (.invokevirtual 41, 3) := by decide +kernel
theorem dK_mixAll_9 : decode cK_mixAll 9 = .ok (.putfield 35, 3) := by decide +kernel
theorem dK_mixAll_12 : decode cK_mixAll 12 = .ok (.iconst 0, 1) := by decide +kernel
theorem dK_mixAll_13 : decode cK_mixAll 13 = .ok (.istore_n 3, 1) := by decide +kernel
theorem dK_mixAll_14 : decode cK_mixAll 14 = .ok (.iload_n 3, 1) := by decide +kernel
theorem dK_mixAll_15 : decode cK_mixAll 15 = .ok (.bipush 16, 2) := by decide +kernel
theorem dK_mixAll_17 : decode cK_mixAll 17 = .ok (.if_icmp .ge 36, 3) := by decide +kernel
theorem dK_mixAll_20 : decode cK_mixAll 20 = .ok (.aload_n 0, 1) := by decide +kernel
theorem dK_mixAll_21 : decode cK_mixAll 21 = .ok (.getfield 9, 3) := by decide +kernel
theorem dK_mixAll_24 : decode cK_mixAll 24 = .ok (.iload_n 3, 1) := by decide +kernel
theorem dK_mixAll_25 : decode cK_mixAll 25 = .ok (.iload_n 3, 1) := by decide +kernel
theorem dK_mixAll_26 : decode cK_mixAll 26 = .ok (.aload_n 2, 1) := by decide +kernel
theorem dK_mixAll_27 : decode cK_mixAll 27 = .ok (.invokevirtual 47, 3) := by decide +kernel
theorem dK_mixAll_30 : decode cK_mixAll 30 = .ok (.if_icmp .ge 15, 3) := by decide +kernel
theorem dK_mixAll_33 : decode cK_mixAll 33 = .ok (.aload_n 2, 1) := by decide +kernel
theorem dK_mixAll_34 : decode cK_mixAll 34 = .ok (.iload_n 3, 1) := by decide +kernel
theorem dK_mixAll_35 : decode cK_mixAll 35 = .ok (.aload_n 0, 1) := by decide +kernel
theorem dK_mixAll_36 : decode cK_mixAll 36 = .ok (.getfield 22, 3) := by decide +kernel
theorem dK_mixAll_39 : decode cK_mixAll 39 = .ok (.invokevirtual 51, 3) := by decide +kernel
theorem dK_mixAll_42 : decode cK_mixAll 42 = .ok (.goto 4, 3) := by decide +kernel
theorem dK_mixAll_45 : decode cK_mixAll 45 = .ok (.iconst 0, 1) := by decide +kernel
theorem dK_mixAll_46 : decode cK_mixAll 46 = .ok (.iastore, 1) := by decide +kernel
theorem dK_mixAll_47 : decode cK_mixAll 47 = .ok (.iinc 3 1, 3) := by decide +kernel
theorem dK_mixAll_50 : decode cK_mixAll 50 = .ok (.goto (-36), 3) := by decide +kernel
theorem dK_mixAll_53 : decode cK_mixAll 53 = .ok (.iconst 0, 1) := by decide +kernel
theorem dK_mixAll_54 : decode cK_mixAll 54 = .ok (.istore_n 3, 1) := by decide +kernel
theorem dK_mixAll_55 : decode cK_mixAll 55 = .ok (.iload_n 3, 1) := by decide +kernel
theorem dK_mixAll_56 : decode cK_mixAll 56 = .ok (.bipush 16, 2) := by decide +kernel
theorem dK_mixAll_58 : decode cK_mixAll 58 = .ok (.if_icmp .ge 73, 3) := by decide +kernel
theorem dK_mixAll_61 : decode cK_mixAll 61 = .ok (.aload_n 0, 1) := by decide +kernel
theorem dK_mixAll_62 : decode cK_mixAll 62 = .ok (.getfield 29, 3) := by decide +kernel
theorem dK_mixAll_65 : decode cK_mixAll 65 = .ok (.aload_n 1, 1) := by decide +kernel
theorem dK_mixAll_66 : decode cK_mixAll 66 = .ok (.iconst 0, 1) := by decide +kernel
theorem dK_mixAll_67 : decode cK_mixAll 67 = .ok (.iload_n 3, 1) := by decide +kernel
theorem dK_mixAll_68 : decode cK_mixAll 68 = .ok (.aload_n 0, 1) := by decide +kernel
theorem dK_mixAll_69 : decode cK_mixAll 69 = .ok (.getfield 9, 3) := by decide +kernel
theorem dK_mixAll_72 : decode cK_mixAll 72 = .ok (.invokevirtual 55, 3) := by decide +kernel
theorem dK_mixAll_75 : decode cK_mixAll 75 = .ok (.invokestatic 61, 3) := by decide +kernel
theorem dK_mixAll_78 : decode cK_mixAll 78 = .ok (.istore 4, 2) := by decide +kernel
theorem dK_mixAll_80 : decode cK_mixAll 80 = .ok (.aload_n 0, 1) := by decide +kernel
theorem dK_mixAll_81 : decode cK_mixAll 81 = .ok (.getfield 26, 3) := by decide +kernel
theorem dK_mixAll_84 : decode cK_mixAll 84 = .ok (.aload_n 1, 1) := by decide +kernel
theorem dK_mixAll_85 : decode cK_mixAll 85 = .ok (.iconst 1, 1) := by decide +kernel
theorem dK_mixAll_86 : decode cK_mixAll 86 = .ok (.iload_n 3, 1) := by decide +kernel
theorem dK_mixAll_87 : decode cK_mixAll 87 = .ok (.aload_n 0, 1) := by decide +kernel
theorem dK_mixAll_88 : decode cK_mixAll 88 = .ok (.getfield 9, 3) := by decide +kernel
theorem dK_mixAll_91 : decode cK_mixAll 91 = .ok (.invokevirtual 55, 3) := by decide +kernel
theorem dK_mixAll_94 : decode cK_mixAll 94 = .ok (.invokestatic 61, 3) := by decide +kernel
theorem dK_mixAll_97 : decode cK_mixAll 97 = .ok (.istore 5, 2) := by decide +kernel
theorem dK_mixAll_99 : decode cK_mixAll 99 = .ok (.aload_n 0, 1) := by decide +kernel
theorem dK_mixAll_100 : decode cK_mixAll 100 = .ok (.getfield 15, 3) := by decide +kernel
theorem dK_mixAll_103 : decode cK_mixAll 103 = .ok (.iload_n 3, 1) := by decide +kernel
theorem dK_mixAll_104 : decode cK_mixAll 104 = .ok (.iload 4, 2) := by decide +kernel
theorem dK_mixAll_106 : decode cK_mixAll 106 = .ok (.iload 5, 2) := by decide +kernel
theorem dK_mixAll_108 : decode cK_mixAll 108 = .ok (.invokestatic 66, 3) := by decide +kernel
theorem dK_mixAll_111 : decode cK_mixAll 111 = .ok (.aload_n 1, 1) := by decide +kernel
theorem dK_mixAll_112 : decode cK_mixAll 112 = .ok (.iconst 2, 1) := by decide +kernel
theorem dK_mixAll_113 : decode cK_mixAll 113 = .ok (.iload_n 3, 1) := by decide +kernel
theorem dK_mixAll_114 : decode cK_mixAll 114 = .ok (.aload_n 0, 1) := by decide +kernel
theorem dK_mixAll_115 : decode cK_mixAll 115 = .ok (.getfield 9, 3) := by decide +kernel
theorem dK_mixAll_118 : decode cK_mixAll 118 = .ok (.invokevirtual 55, 3) := by decide +kernel
theorem dK_mixAll_121 : decode cK_mixAll 121 = .ok (.invokestatic 66, 3) := by decide +kernel
theorem dK_mixAll_124 : decode cK_mixAll 124 = .ok (.iastore, 1) := by decide +kernel
theorem dK_mixAll_125 : decode cK_mixAll 125 = .ok (.iinc 3 1, 3) := by decide +kernel
theorem dK_mixAll_128 : decode cK_mixAll 128 = .ok (.goto (-73), 3) := by decide +kernel
theorem dK_mixAll_131 : decode cK_mixAll 131 = .ok (.aload_n 0, 1) := by decide +kernel
theorem dK_mixAll_132 : decode cK_mixAll 132 = .ok (.iconst 1, 1) := by decide +kernel
theorem dK_mixAll_133 : decode cK_mixAll 133 = .ok (.putfield 18, 3) := by decide +kernel
theorem dK_mixAll_136 : decode cK_mixAll 136 = .ok (.return_, 1) := by decide +kernel
theorem dK_mixSum_0 : decode cK_mixSum 0 = .ok (.iconst 0, 1) := by decide +kernel
theorem dK_mixSum_1 : decode cK_mixSum 1 = .ok (.istore 4, 2) := by decide +kernel
theorem dK_mixSum_3 : decode cK_mixSum 3 = .ok (.iload_n 2, 1) := by decide +kernel
theorem dK_mixSum_4 : decode cK_mixSum 4 = .ok (.istore 5, 2) := by decide +kernel
theorem dK_mixSum_6 : decode cK_mixSum 6 = .ok (.iload 5, 2) := by decide +kernel
theorem dK_mixSum_8 : decode cK_mixSum 8 = .ok (.iload_n 3, 1) := by decide +kernel
theorem dK_mixSum_9 : decode cK_mixSum 9 = .ok (.if_icmp .gt 30, 3) := by decide +kernel
theorem dK_mixSum_12 : decode cK_mixSum 12 = .ok (.iload 4, 2) := by decide +kernel
theorem dK_mixSum_14 : decode cK_mixSum 14 = .ok (.aload_n 1, 1) := by decide +kernel
theorem dK_mixSum_15 : decode cK_mixSum 15 = .ok (.iload 5, 2) := by decide +kernel
theorem dK_mixSum_17 : decode cK_mixSum 17 = .ok (.iaload, 1) := by decide +kernel
theorem dK_mixSum_18 : decode cK_mixSum 18 = .ok (.aload_n 0, 1) := by decide +kernel
theorem dK_mixSum_19 : decode cK_mixSum 19 = .ok (.getfield 15, 3) := by decide +kernel
theorem dK_mixSum_22 : decode cK_mixSum 22 = .ok (.iload 5, 2) := by decide +kernel
theorem dK_mixSum_24 : decode cK_mixSum 24 = .ok (.iaload, 1) := by decide +kernel
theorem dK_mixSum_25 : decode cK_mixSum 25 = .ok (.invokestatic 61, 3) := by decide +kernel
theorem dK_mixSum_28 : decode cK_mixSum 28 = .ok (.invokestatic 66, 3) := by decide +kernel
theorem dK_mixSum_31 : decode cK_mixSum 31 = .ok (.istore 4, 2) := by decide +kernel
theorem dK_mixSum_33 : decode cK_mixSum 33 = .ok (.iinc 5 1, 3) := by decide +kernel
theorem dK_mixSum_36 : decode cK_mixSum 36 = .ok (.goto (-30), 3) := by decide +kernel
theorem dK_mixSum_39 : decode cK_mixSum 39 = .ok (.iload 4, 2) := by decide +kernel
theorem dK_mixSum_41 : decode cK_mixSum 41 = .ok (.ireturn, 1) := by decide +kernel
theorem dK_secondElement_0 : decode cK_secondElement 0 = .ok (.aload_n 0, 1) := by decide +kernel
theorem dK_secondElement_1 : decode cK_secondElement 1 = .ok (.getfield 29, 3) := by decide +kernel
theorem dK_secondElement_4 : decode cK_secondElement 4 = .ok (.aload_n 0, 1) := by decide +kernel
theorem dK_secondElement_5 : decode cK_secondElement 5 = .ok (.aload_n 1, 1) := by decide +kernel
theorem dK_secondElement_6 : decode cK_secondElement 6 = .ok (.invokevirtual 69, 3) := by decide +kernel
theorem dK_secondElement_9 : decode cK_secondElement 9 = .ok (.invokestatic 66, 3) := by decide +kernel
theorem dK_secondElement_12 : decode cK_secondElement 12 = .ok (.ireturn, 1) := by decide +kernel
theorem dK_sharedMix_0 : decode cK_sharedMix 0 = .ok (.aload_n 0, 1) := by decide +kernel
theorem dK_sharedMix_1 : decode cK_sharedMix 1 = .ok (.getfield 15, 3) := by decide +kernel
theorem dK_sharedMix_4 : decode cK_sharedMix 4 = .ok (.iload_n 1, 1) := by decide +kernel
theorem dK_sharedMix_5 : decode cK_sharedMix 5 = .ok (.iaload, 1) := by decide +kernel
theorem dK_sharedMix_6 : decode cK_sharedMix 6 = .ok (.iload_n 1, 1) := by decide +kernel
theorem dK_sharedMix_7 : decode cK_sharedMix 7 = .ok (.iload_n 2, 1) := by decide +kernel
theorem dK_sharedMix_8 : decode cK_sharedMix 8 = .ok (.if_icmp .gt 10, 3) := by decide +kernel
theorem dK_sharedMix_11 : decode cK_sharedMix 11 = .ok (.aload_n 0, 1) := by decide +kernel
theorem dK_sharedMix_12 : decode cK_sharedMix 12 = .ok (.getfield 38, 3) := by decide +kernel
theorem dK_sharedMix_15 : decode cK_sharedMix 15 = .ok (.goto 7, 3) := by decide +kernel
theorem dK_sharedMix_18 : decode cK_sharedMix 18 = .ok (.aload_n 0, 1) := by decide +kernel
theorem dK_sharedMix_19 : decode cK_sharedMix 19 = .ok (.getfield 32, 3) := by decide +kernel
theorem dK_sharedMix_22 : decode cK_sharedMix 22 = .ok (.invokestatic 73, 3) := by decide +kernel
theorem dK_sharedMix_25 : decode cK_sharedMix 25 = .ok (.ireturn, 1) := by decide +kernel
theorem dK_take_0 : decode cK_take 0 = .ok (.aload_n 0, 1) := by decide +kernel
theorem dK_take_1 : decode cK_take 1 = .ok (.iload_n 1, 1) := by decide +kernel
theorem dK_take_2 : decode cK_take 2 = .ok (.putfield 22, 3) := by decide +kernel
theorem dK_take_5 : decode cK_take 5 = .ok (.aload_n 0, 1) := by decide +kernel
theorem dK_take_6 : decode cK_take 6 = .ok (.iload_n 2, 1) := by decide +kernel
theorem dK_take_7 : decode cK_take 7 = .ok (.putfield 26, 3) := by decide +kernel
theorem dK_take_10 : decode cK_take 10 = .ok (.aload_n 0, 1) := by decide +kernel
theorem dK_take_11 : decode cK_take 11 = .ok (.iload_n 3, 1) := by decide +kernel
theorem dK_take_12 : decode cK_take 12 = .ok (.putfield 29, 3) := by decide +kernel
theorem dK_take_15 : decode cK_take 15 = .ok (.aload_n 0, 1) := by decide +kernel
theorem dK_take_16 : decode cK_take 16 = .ok (.iload 4, 2) := by decide +kernel
theorem dK_take_18 : decode cK_take 18 = .ok (.putfield 38, 3) := by decide +kernel
theorem dK_take_21 : decode cK_take 21 = .ok (.aload_n 0, 1) := by decide +kernel
theorem dK_take_22 : decode cK_take 22 = .ok (.iload 5, 2) := by decide +kernel
theorem dK_take_24 : decode cK_take 24 = .ok (.putfield 32, 3) := by decide +kernel
theorem dK_take_27 : decode cK_take 27 = .ok (.return_, 1) := by decide +kernel
theorem dK_tau_0 : decode cK_tau 0 = .ok (.aload_n 0, 1) := by decide +kernel
theorem dK_tau_1 : decode cK_tau 1 = .ok (.getfield 22, 3) := by decide +kernel
theorem dK_tau_4 : decode cK_tau 4 = .ok (.ireturn, 1) := by decide +kernel
theorem dK_vanishing_0 : decode cK_vanishing 0 = .ok (.aload_n 0, 1) := by decide +kernel
theorem dK_vanishing_1 : decode cK_vanishing 1 = .ok (.getfield 35, 3) := by decide +kernel
theorem dK_vanishing_4 : decode cK_vanishing 4 = .ok (.ireturn, 1) := by decide +kernel
theorem dK_vanishingStep_0 : decode cK_vanishingStep 0 = .ok (.aload_n 0, 1) := by decide +kernel
theorem dK_vanishingStep_1 : decode cK_vanishingStep 1 = .ok (.getfield 22, 3) := by decide +kernel
theorem dK_vanishingStep_4 : decode cK_vanishingStep 4 = .ok (.iload_n 1, 1) := by decide +kernel
theorem dK_vanishingStep_5 : decode cK_vanishingStep 5 = .ok (.invokestatic 76, 3) := by decide +kernel
theorem dK_vanishingStep_8 : decode cK_vanishingStep 8 = .ok (.aload_n 0, 1) := by decide +kernel
theorem dK_vanishingStep_9 : decode cK_vanishingStep 9 = .ok (.getfield 35, 3) := by decide +kernel
theorem dK_vanishingStep_12 : decode cK_vanishingStep 12 = .ok (.invokestatic 61, 3) := by decide +kernel
theorem dK_vanishingStep_15 : decode cK_vanishingStep 15 = .ok (.aload_n 0, 1) := by decide +kernel
theorem dK_vanishingStep_16 : decode cK_vanishingStep 16 = .ok (.getfield 32, 3) := by decide +kernel
theorem dK_vanishingStep_19 : decode cK_vanishingStep 19 = .ok (.invokestatic 73, 3) := by decide +kernel
theorem dK_vanishingStep_22 : decode cK_vanishingStep 22 = .ok (.ireturn, 1) := by decide +kernel
theorem dQ_init_0 : decode cQ_init 0 = .ok (.aload_n 0, 1) := by decide +kernel
theorem dQ_init_1 : decode cQ_init 1 = .ok (.invokespecial 3, 3) := by decide +kernel
theorem dQ_init_4 : decode cQ_init 4 = .ok (.aload_n 0, 1) := by decide +kernel
theorem dQ_init_5 : decode cQ_init 5 = .ok (.iconst 3, 1) := by decide +kernel
theorem dQ_init_6 : decode cQ_init 6 = .ok (.newarray .int, 2) := by decide +kernel
theorem dQ_init_8 : decode cQ_init 8 = .ok (.putfield 9, 3) := by decide +kernel
theorem dQ_init_11 : decode cQ_init 11 = .ok (.aload_n 0, 1) := by decide +kernel
theorem dQ_init_12 : decode cQ_init 12 = .ok (.bipush 16, 2) := by decide +kernel
theorem dQ_init_14 : decode cQ_init 14 = .ok (.newarray .int, 2) := by decide +kernel
theorem dQ_init_16 : decode cQ_init 16 = .ok (.putfield 15, 3) := by decide +kernel
theorem dQ_init_19 : decode cQ_init 19 = .ok (.aload_n 0, 1) := by decide +kernel
theorem dQ_init_20 : decode cQ_init 20 = .ok (.iconst 0, 1) := by decide +kernel
theorem dQ_init_21 : decode cQ_init 21 = .ok (.putfield 18, 3) := by decide +kernel
theorem dQ_init_24 : decode cQ_init 24 = .ok (.return_, 1) := by decide +kernel
theorem dQ_divide_0 : decode cQ_divide 0 = .ok (.iconst 0, 1) := by decide +kernel
theorem dQ_divide_1 : decode cQ_divide 1 = .ok (.istore 4, 2) := by decide +kernel
theorem dQ_divide_3 : decode cQ_divide 3 = .ok (.iload 4, 2) := by decide +kernel
theorem dQ_divide_5 : decode cQ_divide 5 = .ok (.bipush 16, 2) := by decide +kernel
theorem dQ_divide_7 : decode cQ_divide 7 = .ok (.if_icmp .ge 62, 3) := by decide +kernel
theorem dQ_divide_10 : decode cQ_divide 10 = .ok (.iconst 0, 1) := by decide +kernel
theorem dQ_divide_11 : decode cQ_divide 11 = .ok (.istore 5, 2) := by decide +kernel
theorem dQ_divide_13 : decode cQ_divide 13 = .ok (.iload 4, 2) := by decide +kernel
theorem dQ_divide_15 : decode cQ_divide 15 = .ok (.iconst 1, 1) := by decide +kernel
theorem dQ_divide_16 : decode cQ_divide 16 = .ok (.iadd, 1) := by decide +kernel
theorem dQ_divide_17 : decode cQ_divide 17 = .ok (.istore 6, 2) := by decide +kernel
theorem dQ_divide_19 : decode cQ_divide 19 = .ok (.iload 6, 2) := by decide +kernel
theorem dQ_divide_21 : decode cQ_divide 21 = .ok (.iload_n 3, 1) := by decide +kernel
theorem dQ_divide_22 : decode cQ_divide 22 = .ok (.if_icmp .ge 32, 3) := by decide +kernel
theorem dQ_divide_25 : decode cQ_divide 25 = .ok (.iload 5, 2) := by decide +kernel
theorem dQ_divide_27 : decode cQ_divide 27 = .ok (.aload_n 1, 1) := by decide +kernel
theorem dQ_divide_28 : decode cQ_divide 28 = .ok (.iload 6, 2) := by decide +kernel
theorem dQ_divide_30 : decode cQ_divide 30 = .ok (.iaload, 1) := by decide +kernel
theorem dQ_divide_31 : decode cQ_divide 31 = .ok (.aload_n 2, 1) := by decide +kernel
theorem dQ_divide_32 : decode cQ_divide 32 = .ok (.iload 4, 2) := by decide +kernel
theorem dQ_divide_34 : decode cQ_divide 34 = .ok (.iload_n 3, 1) := by decide +kernel
theorem dQ_divide_35 : decode cQ_divide 35 = .ok (.iadd, 1) := by decide +kernel
theorem dQ_divide_36 : decode cQ_divide 36 = .ok (.iload 6, 2) := by decide +kernel
theorem dQ_divide_38 : decode cQ_divide 38 = .ok (.isub, 1) := by decide +kernel
theorem dQ_divide_39 : decode cQ_divide 39 = .ok (.iaload, 1) := by decide +kernel
theorem dQ_divide_40 : decode cQ_divide 40 = .ok (.invokestatic 22, 3) := by decide +kernel
theorem dQ_divide_43 : decode cQ_divide 43 = .ok (.invokestatic 28, 3) := by decide +kernel
theorem dQ_divide_46 : decode cQ_divide 46 = .ok (.istore 5, 2) := by decide +kernel
theorem dQ_divide_48 : decode cQ_divide 48 = .ok (.iinc 6 1, 3) := by decide +kernel
theorem dQ_divide_51 : decode cQ_divide 51 = .ok (.goto (-32), 3) := by decide +kernel
theorem dQ_divide_54 : decode cQ_divide 54 = .ok (.aload_n 0, 1) := by decide +kernel
theorem dQ_divide_55 : decode cQ_divide 55 = .ok (.getfield 15, 3) := by decide +kernel
theorem dQ_divide_58 : decode cQ_divide 58 = .ok (.iload 4, 2) := by decide +kernel
theorem dQ_divide_60 : decode cQ_divide 60 = .ok (.iload 5, 2) := by decide +kernel
theorem dQ_divide_62 : decode cQ_divide 62 = .ok (.iastore, 1) := by decide +kernel
theorem dQ_divide_63 : decode cQ_divide 63 = .ok (.iinc 4 1, 3) := by decide +kernel
theorem dQ_divide_66 : decode cQ_divide 66 = .ok (.goto (-63), 3) := by decide +kernel
theorem dQ_divide_69 : decode cQ_divide 69 = .ok (.return_, 1) := by decide +kernel
theorem dQ_element_0 : decode cQ_element 0 = .ok (.aload_n 0, 1) := by decide +kernel
theorem dQ_element_1 : decode cQ_element 1 = .ok (.getfield 9, 3) := by decide +kernel
theorem dQ_element_4 : decode cQ_element 4 = .ok (.iload_n 1, 1) := by decide +kernel
theorem dQ_element_5 : decode cQ_element 5 = .ok (.iaload, 1) := by decide +kernel
theorem dQ_element_6 : decode cQ_element 6 = .ok (.ireturn, 1) := by decide +kernel
theorem dQ_isMade_0 : decode cQ_isMade 0 = .ok (.aload_n 0, 1) := by decide +kernel
theorem dQ_isMade_1 : decode cQ_isMade 1 = .ok (.getfield 18, 3) := by decide +kernel
theorem dQ_isMade_4 : decode cQ_isMade 4 = .ok (.ireturn, 1) := by decide +kernel
theorem dQ_keep_0 : decode cQ_keep 0 = .ok (.aload_n 0, 1) := by decide +kernel
theorem dQ_keep_1 : decode cQ_keep 1 = .ok (.getfield 9, 3) := by decide +kernel
theorem dQ_keep_4 : decode cQ_keep 4 = .ok (.iconst 0, 1) := by decide +kernel
theorem dQ_keep_5 : decode cQ_keep 5 = .ok (.iload_n 1, 1) := by decide +kernel
theorem dQ_keep_6 : decode cQ_keep 6 = .ok (.iastore, 1) := by decide +kernel
theorem dQ_keep_7 : decode cQ_keep 7 = .ok (.aload_n 0, 1) := by decide +kernel
theorem dQ_keep_8 : decode cQ_keep 8 = .ok (.getfield 9, 3) := by decide +kernel
theorem dQ_keep_11 : decode cQ_keep 11 = .ok (.iconst 1, 1) := by decide +kernel
theorem dQ_keep_12 : decode cQ_keep 12 = .ok (.iload_n 2, 1) := by decide +kernel
theorem dQ_keep_13 : decode cQ_keep 13 = .ok (.iastore, 1) := by decide +kernel
theorem dQ_keep_14 : decode cQ_keep 14 = .ok (.aload_n 0, 1) := by decide +kernel
theorem dQ_keep_15 : decode cQ_keep 15 = .ok (.getfield 9, 3) := by decide +kernel
theorem dQ_keep_18 : decode cQ_keep 18 = .ok (.iconst 2, 1) := by decide +kernel
theorem dQ_keep_19 : decode cQ_keep 19 = .ok (.iload_n 3, 1) := by decide +kernel
theorem dQ_keep_20 : decode cQ_keep 20 = .ok (.iastore, 1) := by decide +kernel
theorem dQ_keep_21 : decode cQ_keep 21 = .ok (.aload_n 0, 1) := by decide +kernel
theorem dQ_keep_22 : decode cQ_keep 22 = .ok (.iconst 1, 1) := by decide +kernel
theorem dQ_keep_23 : decode cQ_keep 23 = .ok (.putfield 18, 3) := by decide +kernel
theorem dQ_keep_26 : decode cQ_keep 26 = .ok (.return_, 1) := by decide +kernel
theorem dQ_quotientAt_0 : decode cQ_quotientAt 0 = .ok (.iconst 0, 1) := by decide +kernel
theorem dQ_quotientAt_1 : decode cQ_quotientAt 1 = .ok (.istore_n 2, 1) := by decide +kernel
theorem dQ_quotientAt_2 : decode cQ_quotientAt 2 = .ok (.bipush 15, 2) := by decide +kernel
theorem dQ_quotientAt_4 : decode cQ_quotientAt 4 = .ok (.istore_n 3, 1) := by decide +kernel
theorem dQ_quotientAt_5 : decode cQ_quotientAt 5 = .ok (.iload_n 3, 1) := by decide +kernel
theorem dQ_quotientAt_6 : decode cQ_quotientAt 6 = .ok (.ifCond .lt 24, 3) := by decide +kernel
theorem dQ_quotientAt_9 : decode cQ_quotientAt 9 = .ok (.iload_n 2, 1) := by decide +kernel
theorem dQ_quotientAt_10 : decode cQ_quotientAt 10 = .ok (.iload_n 1, 1) := by decide +kernel
theorem dQ_quotientAt_11 : decode cQ_quotientAt 11 = .ok (.invokestatic 22, 3) := by decide +kernel
theorem dQ_quotientAt_14 : decode cQ_quotientAt 14 = .ok (.aload_n 0, 1) := by decide +kernel
theorem dQ_quotientAt_15 : decode cQ_quotientAt 15 = .ok (.getfield 15, 3) := by decide +kernel
theorem dQ_quotientAt_18 : decode cQ_quotientAt 18 = .ok (.iload_n 3, 1) := by decide +kernel
theorem dQ_quotientAt_19 : decode cQ_quotientAt 19 = .ok (.iaload, 1) := by decide +kernel
theorem dQ_quotientAt_20 : decode cQ_quotientAt 20 = .ok (.invokestatic 28, 3) := by decide +kernel
theorem dQ_quotientAt_23 : decode cQ_quotientAt 23 = .ok (.istore_n 2, 1) := by decide +kernel
theorem dQ_quotientAt_24 : decode cQ_quotientAt 24 = .ok (.iinc 3 (-1), 3) := by decide +kernel
theorem dQ_quotientAt_27 : decode cQ_quotientAt 27 = .ok (.goto (-22), 3) := by decide +kernel
theorem dQ_quotientAt_30 : decode cQ_quotientAt 30 = .ok (.iload_n 2, 1) := by decide +kernel
theorem dQ_quotientAt_31 : decode cQ_quotientAt 31 = .ok (.ireturn, 1) := by decide +kernel
theorem dQ_quotientCoefficient_0 : decode cQ_quotientCoefficient 0 = .ok (.aload_n 0, 1) := by decide +kernel
theorem dQ_quotientCoefficient_1 : decode cQ_quotientCoefficient 1 = .ok (.getfield 15, 3) := by decide +kernel
theorem dQ_quotientCoefficient_4 : decode cQ_quotientCoefficient 4 = .ok (.iload_n 1, 1) := by decide +kernel
theorem dQ_quotientCoefficient_5 : decode cQ_quotientCoefficient 5 = .ok (.iaload, 1) := by decide +kernel
theorem dQ_quotientCoefficient_6 : decode cQ_quotientCoefficient 6 = .ok (.ireturn, 1) := by decide +kernel
theorem dQ_setElement_0 : decode cQ_setElement 0 = .ok (.aload_n 0, 1) := by decide +kernel
theorem dQ_setElement_1 : decode cQ_setElement 1 = .ok (.getfield 9, 3) := by decide +kernel
theorem dQ_setElement_4 : decode cQ_setElement 4 = .ok (.iload_n 1, 1) := by decide +kernel
theorem dQ_setElement_5 : decode cQ_setElement 5 = .ok (.iload_n 2, 1) := by decide +kernel
theorem dQ_setElement_6 : decode cQ_setElement 6 = .ok (.iastore, 1) := by decide +kernel
theorem dQ_setElement_7 : decode cQ_setElement 7 = .ok (.return_, 1) := by decide +kernel
end
section
theorem dM_init_0 : decode cM_init 0 = .ok (.aload_n 0, 1) := by decide +kernel
theorem dM_init_1 : decode cM_init 1 = .ok (.invokespecial 1, 3) := by decide +kernel
theorem dM_init_4 : decode cM_init 4 = .ok (.aload_n 0, 1) := by decide +kernel
theorem dM_init_5 : decode cM_init 5 = .ok (.new 7, 3) := by decide +kernel
theorem dM_init_8 : decode cM_init 8 = .ok (.dup, 1) := by decide +kernel
theorem dM_init_9 : decode cM_init 9 = .ok (.invokespecial 9, 3) := by decide +kernel
theorem dM_init_12 : decode cM_init 12 = .ok (.putfield 10, 3) := by decide +kernel
theorem dM_init_15 : decode cM_init 15 = .ok (.aload_n 0, 1) := by decide +kernel
theorem dM_init_16 : decode cM_init 16 = .ok (.new 16, 3) := by decide +kernel
theorem dM_init_19 : decode cM_init 19 = .ok (.dup, 1) := by decide +kernel
theorem dM_init_20 : decode cM_init 20 = .ok (.invokespecial 18, 3) := by decide +kernel
theorem dM_init_23 : decode cM_init 23 = .ok (.putfield 19, 3) := by decide +kernel
theorem dM_init_26 : decode cM_init 26 = .ok (.aload_n 0, 1) := by decide +kernel
theorem dM_init_27 : decode cM_init 27 = .ok (.new 23, 3) := by decide +kernel
theorem dM_init_30 : decode cM_init 30 = .ok (.dup, 1) := by decide +kernel
theorem dM_init_31 : decode cM_init 31 = .ok (.invokespecial 25, 3) := by decide +kernel
theorem dM_init_34 : decode cM_init 34 = .ok (.putfield 26, 3) := by decide +kernel
theorem dM_init_37 : decode cM_init 37 = .ok (.aload_n 0, 1) := by decide +kernel
theorem dM_init_38 : decode cM_init 38 = .ok (.new 30, 3) := by decide +kernel
theorem dM_init_41 : decode cM_init 41 = .ok (.dup, 1) := by decide +kernel
theorem dM_init_42 : decode cM_init 42 = .ok (.invokespecial 32, 3) := by decide +kernel
theorem dM_init_45 : decode cM_init 45 = .ok (.putfield 33, 3) := by decide +kernel
theorem dM_init_48 : decode cM_init 48 = .ok (.aload_n 0, 1) := by decide +kernel
theorem dM_init_49 : decode cM_init 49 = .ok (.bipush 16, 2) := by decide +kernel
theorem dM_init_51 : decode cM_init 51 = .ok (.newarray .int, 2) := by decide +kernel
theorem dM_init_53 : decode cM_init 53 = .ok (.putfield 37, 3) := by decide +kernel
theorem dM_init_56 : decode cM_init 56 = .ok (.aload_n 0, 1) := by decide +kernel
theorem dM_init_57 : decode cM_init 57 = .ok (.getfield 37, 3) := by decide +kernel
theorem dM_init_60 : decode cM_init 60 = .ok (.iconst 0, 1) := by decide +kernel
theorem dM_init_61 : decode cM_init 61 = .ok (.iconst 1, 1) := by decide +kernel
theorem dM_init_62 : decode cM_init 62 = .ok (.iastore, 1) := by decide +kernel
theorem dM_init_63 : decode cM_init 63 = .ok (.aload_n 0, 1) := by decide +kernel
theorem dM_init_64 : decode cM_init 64 = .ok (.bipush 7, 2) := by decide +kernel
theorem dM_init_66 : decode cM_init 66 = .ok (.newarray .int, 2) := by decide +kernel
theorem dM_init_68 : decode cM_init 68 = .ok (.putfield 41, 3) := by decide +kernel
theorem dM_init_71 : decode cM_init 71 = .ok (.aload_n 0, 1) := by decide +kernel
theorem dM_init_72 : decode cM_init 72 = .ok (.getfield 41, 3) := by decide +kernel
theorem dM_init_75 : decode cM_init 75 = .ok (.iconst 0, 1) := by decide +kernel
theorem dM_init_76 : decode cM_init 76 = .ok (.iconst 1, 1) := by decide +kernel
theorem dM_init_77 : decode cM_init 77 = .ok (.iastore, 1) := by decide +kernel
theorem dM_init_78 : decode cM_init 78 = .ok (.aload_n 0, 1) := by decide +kernel
theorem dM_init_79 : decode cM_init 79 = .ok (.bipush 16, 2) := by decide +kernel
theorem dM_init_81 : decode cM_init 81 = .ok (.newarray .int, 2) := by decide +kernel
theorem dM_init_83 : decode cM_init 83 = .ok (.putfield 44, 3) := by decide +kernel
theorem dM_init_86 : decode cM_init 86 = .ok (.aload_n 0, 1) := by decide +kernel
theorem dM_init_87 : decode cM_init 87 = .ok (.bipush 16, 2) := by decide +kernel
theorem dM_init_89 : decode cM_init 89 = .ok (.newarray .int, 2) := by decide +kernel
theorem dM_init_91 : decode cM_init 91 = .ok (.putfield 47, 3) := by decide +kernel
theorem dM_init_94 : decode cM_init 94 = .ok (.aload_n 0, 1) := by decide +kernel
theorem dM_init_95 : decode cM_init 95 = .ok (.bipush 16, 2) := by decide +kernel
theorem dM_init_97 : decode cM_init 97 = .ok (.newarray .int, 2) := by decide +kernel
theorem dM_init_99 : decode cM_init 99 = .ok (.putfield 50, 3) := by decide +kernel
theorem dM_init_102 : decode cM_init 102 = .ok (.aload_n 0, 1) := by decide +kernel
theorem dM_init_103 : decode cM_init 103 = .ok (.bipush 16, 2) := by decide +kernel
theorem dM_init_105 : decode cM_init 105 = .ok (.newarray .int, 2) := by decide +kernel
theorem dM_init_107 : decode cM_init 107 = .ok (.putfield 53, 3) := by decide +kernel
theorem dM_init_110 : decode cM_init 110 = .ok (.return_, 1) := by decide +kernel
theorem dM_about_0 : decode cM_about 0 = .ok (.iload_n 1, 1) := by decide +kernel
theorem dM_about_1 : decode cM_about 1 = .ok (.tableswitch 88 0 4 #[35, 43, 51, 56, 72], 35) := by decide +kernel
theorem dM_about_36 : decode cM_about 36 = .ok (.aload_n 0, 1) := by decide +kernel
theorem dM_about_37 : decode cM_about 37 = .ok (.getfield 10, 3) := by decide +kernel
theorem dM_about_40 : decode cM_about 40 = .ok (.invokevirtual 68, 3) := by decide +kernel
theorem dM_about_43 : decode cM_about 43 = .ok (.ireturn, 1) := by decide +kernel
theorem dM_about_44 : decode cM_about 44 = .ok (.aload_n 0, 1) := by decide +kernel
theorem dM_about_45 : decode cM_about 45 = .ok (.getfield 19, 3) := by decide +kernel
theorem dM_about_48 : decode cM_about 48 = .ok (.invokevirtual 112, 3) := by decide +kernel
theorem dM_about_51 : decode cM_about 51 = .ok (.ireturn, 1) := by decide +kernel
theorem dM_about_52 : decode cM_about 52 = .ok (.aload_n 0, 1) := by decide +kernel
theorem dM_about_53 : decode cM_about 53 = .ok (.getfield 85, 3) := by decide +kernel
theorem dM_about_56 : decode cM_about 56 = .ok (.ireturn, 1) := by decide +kernel
theorem dM_about_57 : decode cM_about 57 = .ok (.aload_n 0, 1) := by decide +kernel
theorem dM_about_58 : decode cM_about 58 = .ok (.getfield 26, 3) := by decide +kernel
theorem dM_about_61 : decode cM_about 61 = .ok (.invokevirtual 115, 3) := by decide +kernel
theorem dM_about_64 : decode cM_about 64 = .ok (.ifCond .eq 7, 3) := by decide +kernel
theorem dM_about_67 : decode cM_about 67 = .ok (.iconst 1, 1) := by decide +kernel
theorem dM_about_68 : decode cM_about 68 = .ok (.goto 4, 3) := by decide +kernel
theorem dM_about_71 : decode cM_about 71 = .ok (.iconst 0, 1) := by decide +kernel
theorem dM_about_72 : decode cM_about 72 = .ok (.ireturn, 1) := by decide +kernel
theorem dM_about_73 : decode cM_about 73 = .ok (.aload_n 0, 1) := by decide +kernel
theorem dM_about_74 : decode cM_about 74 = .ok (.getfield 33, 3) := by decide +kernel
theorem dM_about_77 : decode cM_about 77 = .ok (.invokevirtual 176, 3) := by decide +kernel
theorem dM_about_80 : decode cM_about 80 = .ok (.ifCond .eq 7, 3) := by decide +kernel
theorem dM_about_83 : decode cM_about 83 = .ok (.iconst 1, 1) := by decide +kernel
theorem dM_about_84 : decode cM_about 84 = .ok (.goto 4, 3) := by decide +kernel
theorem dM_about_87 : decode cM_about 87 = .ok (.iconst 0, 1) := by decide +kernel
theorem dM_about_88 : decode cM_about 88 = .ok (.ireturn, 1) := by decide +kernel
theorem dM_about_89 : decode cM_about 89 = .ok (.iconst (-1), 1) := by decide +kernel
theorem dM_about_90 : decode cM_about 90 = .ok (.ireturn, 1) := by decide +kernel
theorem dM_alter_0 : decode cM_alter 0 = .ok (.iload_n 1, 1) := by decide +kernel
theorem dM_alter_1 : decode cM_alter 1 = .ok (.iconst 3, 1) := by decide +kernel
theorem dM_alter_2 : decode cM_alter 2 = .ok (.invokestatic 56, 3) := by decide +kernel
theorem dM_alter_5 : decode cM_alter 5 = .ok (.ifCond .eq 12, 3) := by decide +kernel
theorem dM_alter_8 : decode cM_alter 8 = .ok (.iload_n 2, 1) := by decide +kernel
theorem dM_alter_9 : decode cM_alter 9 = .ok (.ldc 60, 2) := by decide +kernel
theorem dM_alter_11 : decode cM_alter 11 = .ok (.invokestatic 56, 3) := by decide +kernel
theorem dM_alter_14 : decode cM_alter 14 = .ok (.ifCond .ne 11, 3) := by decide +kernel
theorem dM_alter_17 : decode cM_alter 17 = .ok (.new 61, 3) := by decide +kernel
theorem dM_alter_20 : decode cM_alter 20 = .ok (.dup, 1) := by decide +kernel
theorem dM_alter_21 : decode cM_alter 21 = .ok (.invokespecial 63, 3) := by decide +kernel
theorem dM_alter_24 : decode cM_alter 24 = .ok (.athrow, 1) := by decide +kernel
theorem dM_alter_25 : decode cM_alter 25 = .ok (.aload_n 0, 1) := by decide +kernel
theorem dM_alter_26 : decode cM_alter 26 = .ok (.getfield 33, 3) := by decide +kernel
theorem dM_alter_29 : decode cM_alter 29 = .ok (.invokevirtual 176, 3) := by decide +kernel
theorem dM_alter_32 : decode cM_alter 32 = .ok (.ifCond .ne 11, 3) := by decide +kernel
theorem dM_alter_35 : decode cM_alter 35 = .ok (.new 72, 3) := by decide +kernel
theorem dM_alter_38 : decode cM_alter 38 = .ok (.dup, 1) := by decide +kernel
theorem dM_alter_39 : decode cM_alter 39 = .ok (.invokespecial 74, 3) := by decide +kernel
theorem dM_alter_42 : decode cM_alter 42 = .ok (.athrow, 1) := by decide +kernel
theorem dM_alter_43 : decode cM_alter 43 = .ok (.aload_n 0, 1) := by decide +kernel
theorem dM_alter_44 : decode cM_alter 44 = .ok (.getfield 33, 3) := by decide +kernel
theorem dM_alter_47 : decode cM_alter 47 = .ok (.iload_n 1, 1) := by decide +kernel
theorem dM_alter_48 : decode cM_alter 48 = .ok (.iload_n 2, 1) := by decide +kernel
theorem dM_alter_49 : decode cM_alter 49 = .ok (.invokevirtual 177, 3) := by decide +kernel
theorem dM_alter_52 : decode cM_alter 52 = .ok (.iconst 1, 1) := by decide +kernel
theorem dM_alter_53 : decode cM_alter 53 = .ok (.ireturn, 1) := by decide +kernel
theorem dM_constraint_0 : decode cM_constraint 0 = .ok (.aload_n 0, 1) := by decide +kernel
theorem dM_constraint_1 : decode cM_constraint 1 = .ok (.getfield 10, 3) := by decide +kernel
theorem dM_constraint_4 : decode cM_constraint 4 = .ok (.invokevirtual 68, 3) := by decide +kernel
theorem dM_constraint_7 : decode cM_constraint 7 = .ok (.bipush 16, 2) := by decide +kernel
theorem dM_constraint_9 : decode cM_constraint 9 = .ok (.if_icmp .lt 11, 3) := by decide +kernel
theorem dM_constraint_12 : decode cM_constraint 12 = .ok (.new 72, 3) := by decide +kernel
theorem dM_constraint_15 : decode cM_constraint 15 = .ok (.dup, 1) := by decide +kernel
theorem dM_constraint_16 : decode cM_constraint 16 = .ok (.invokespecial 74, 3) := by decide +kernel
theorem dM_constraint_19 : decode cM_constraint 19 = .ok (.athrow, 1) := by decide +kernel
theorem dM_constraint_20 : decode cM_constraint 20 = .ok (.aload_n 0, 1) := by decide +kernel
theorem dM_constraint_21 : decode cM_constraint 21 = .ok (.getfield 10, 3) := by decide +kernel
theorem dM_constraint_24 : decode cM_constraint 24 = .ok (.invokevirtual 75, 3) := by decide +kernel
theorem dM_constraint_27 : decode cM_constraint 27 = .ok (.istore_n 1, 1) := by decide +kernel
theorem dM_constraint_28 : decode cM_constraint 28 = .ok (.aload_n 0, 1) := by decide +kernel
theorem dM_constraint_29 : decode cM_constraint 29 = .ok (.getfield 19, 3) := by decide +kernel
theorem dM_constraint_32 : decode cM_constraint 32 = .ok (.aload_n 0, 1) := by decide +kernel
theorem dM_constraint_33 : decode cM_constraint 33 = .ok (.getfield 10, 3) := by decide +kernel
theorem dM_constraint_36 : decode cM_constraint 36 = .ok (.invokevirtual 68, 3) := by decide +kernel
theorem dM_constraint_39 : decode cM_constraint 39 = .ok (.invokevirtual 78, 3) := by decide +kernel
theorem dM_constraint_42 : decode cM_constraint 42 = .ok (.aload_n 0, 1) := by decide +kernel
theorem dM_constraint_43 : decode cM_constraint 43 = .ok (.getfield 26, 3) := by decide +kernel
theorem dM_constraint_46 : decode cM_constraint 46 = .ok (.invokevirtual 82, 3) := by decide +kernel
theorem dM_constraint_49 : decode cM_constraint 49 = .ok (.iload_n 1, 1) := by decide +kernel
theorem dM_constraint_50 : decode cM_constraint 50 = .ok (.ireturn, 1) := by decide +kernel
theorem dM_input_0 : decode cM_input 0 = .ok (.iload_n 1, 1) := by decide +kernel
theorem dM_input_1 : decode cM_input 1 = .ok (.ifCond .eq 21, 3) := by decide +kernel
theorem dM_input_4 : decode cM_input 4 = .ok (.iload_n 1, 1) := by decide +kernel
theorem dM_input_5 : decode cM_input 5 = .ok (.bipush 7, 2) := by decide +kernel
theorem dM_input_7 : decode cM_input 7 = .ok (.invokestatic 56, 3) := by decide +kernel
theorem dM_input_10 : decode cM_input 10 = .ok (.ifCond .eq 12, 3) := by decide +kernel
theorem dM_input_13 : decode cM_input 13 = .ok (.iload_n 2, 1) := by decide +kernel
theorem dM_input_14 : decode cM_input 14 = .ok (.ldc 60, 2) := by decide +kernel
theorem dM_input_16 : decode cM_input 16 = .ok (.invokestatic 56, 3) := by decide +kernel
theorem dM_input_19 : decode cM_input 19 = .ok (.ifCond .ne 11, 3) := by decide +kernel
theorem dM_input_22 : decode cM_input 22 = .ok (.new 61, 3) := by decide +kernel
theorem dM_input_25 : decode cM_input 25 = .ok (.dup, 1) := by decide +kernel
theorem dM_input_26 : decode cM_input 26 = .ok (.invokespecial 63, 3) := by decide +kernel
theorem dM_input_29 : decode cM_input 29 = .ok (.athrow, 1) := by decide +kernel
theorem dM_input_30 : decode cM_input 30 = .ok (.aload_n 0, 1) := by decide +kernel
theorem dM_input_31 : decode cM_input 31 = .ok (.getfield 41, 3) := by decide +kernel
theorem dM_input_34 : decode cM_input 34 = .ok (.iload_n 1, 1) := by decide +kernel
theorem dM_input_35 : decode cM_input 35 = .ok (.iload_n 2, 1) := by decide +kernel
theorem dM_input_36 : decode cM_input 36 = .ok (.iastore, 1) := by decide +kernel
theorem dM_input_37 : decode cM_input 37 = .ok (.iconst 1, 1) := by decide +kernel
theorem dM_input_38 : decode cM_input 38 = .ok (.ireturn, 1) := by decide +kernel
theorem dM_isBelow_0 : decode cM_isBelow 0 = .ok (.iload_n 0, 1) := by decide +kernel
theorem dM_isBelow_1 : decode cM_isBelow 1 = .ok (.ifCond .lt 12, 3) := by decide +kernel
theorem dM_isBelow_4 : decode cM_isBelow 4 = .ok (.iload_n 0, 1) := by decide +kernel
theorem dM_isBelow_5 : decode cM_isBelow 5 = .ok (.iload_n 1, 1) := by decide +kernel
theorem dM_isBelow_6 : decode cM_isBelow 6 = .ok (.if_icmp .ge 7, 3) := by decide +kernel
theorem dM_isBelow_9 : decode cM_isBelow 9 = .ok (.iconst 1, 1) := by decide +kernel
theorem dM_isBelow_10 : decode cM_isBelow 10 = .ok (.goto 4, 3) := by decide +kernel
theorem dM_isBelow_13 : decode cM_isBelow 13 = .ok (.iconst 0, 1) := by decide +kernel
theorem dM_isBelow_14 : decode cM_isBelow 14 = .ok (.ireturn, 1) := by decide +kernel
theorem dM_isUnit_0 : decode cM_isUnit 0 = .ok (.iload_n 0, 1) := by decide +kernel
theorem dM_isUnit_1 : decode cM_isUnit 1 = .ok (.ifCond .le 13, 3) := by decide +kernel
theorem dM_isUnit_4 : decode cM_isUnit 4 = .ok (.iload_n 0, 1) := by decide +kernel
theorem dM_isUnit_5 : decode cM_isUnit 5 = .ok (.ldc 60, 2) := by decide +kernel
theorem dM_isUnit_7 : decode cM_isUnit 7 = .ok (.if_icmp .ge 7, 3) := by decide +kernel
theorem dM_isUnit_10 : decode cM_isUnit 10 = .ok (.iconst 1, 1) := by decide +kernel
theorem dM_isUnit_11 : decode cM_isUnit 11 = .ok (.goto 4, 3) := by decide +kernel
theorem dM_isUnit_14 : decode cM_isUnit 14 = .ok (.iconst 0, 1) := by decide +kernel
theorem dM_isUnit_15 : decode cM_isUnit 15 = .ok (.ireturn, 1) := by decide +kernel
theorem dM_key_0 : decode cM_key 0 = .ok (.aload_n 0, 1) := by decide +kernel
theorem dM_key_1 : decode cM_key 1 = .ok (.getfield 26, 3) := by decide +kernel
theorem dM_key_4 : decode cM_key 4 = .ok (.invokevirtual 115, 3) := by decide +kernel
theorem dM_key_7 : decode cM_key 7 = .ok (.ifCond .ne 5, 3) := by decide +kernel
theorem dM_key_10 : decode cM_key 10 = .ok (.iconst (-1), 1) := by decide +kernel
theorem dM_key_11 : decode cM_key 11 = .ok (.ireturn, 1) := by decide +kernel
theorem dM_key_12 : decode cM_key 12 = .ok (.iload_n 1, 1) := by decide +kernel
theorem dM_key_13 : decode cM_key 13 = .ok (.tableswitch 112 0 2 #[27, 57, 83], 27) := by decide +kernel
theorem dM_key_40 : decode cM_key 40 = .ok (.iload_n 2, 1) := by decide +kernel
theorem dM_key_41 : decode cM_key 41 = .ok (.aload_n 0, 1) := by decide +kernel
theorem dM_key_42 : decode cM_key 42 = .ok (.getfield 19, 3) := by decide +kernel
theorem dM_key_45 : decode cM_key 45 = .ok (.invokevirtual 112, 3) := by decide +kernel
theorem dM_key_48 : decode cM_key 48 = .ok (.invokestatic 56, 3) := by decide +kernel
theorem dM_key_51 : decode cM_key 51 = .ok (.ifCond .eq 17, 3) := by decide +kernel
theorem dM_key_54 : decode cM_key 54 = .ok (.aload_n 0, 1) := by decide +kernel
theorem dM_key_55 : decode cM_key 55 = .ok (.getfield 26, 3) := by decide +kernel
theorem dM_key_58 : decode cM_key 58 = .ok (.invokevirtual 157, 3) := by decide +kernel
theorem dM_key_61 : decode cM_key 61 = .ok (.iload_n 2, 1) := by decide +kernel
theorem dM_key_62 : decode cM_key 62 = .ok (.invokestatic 200, 3) := by decide +kernel
theorem dM_key_65 : decode cM_key 65 = .ok (.goto 4, 3) := by decide +kernel
theorem dM_key_68 : decode cM_key 68 = .ok (.iconst (-1), 1) := by decide +kernel
theorem dM_key_69 : decode cM_key 69 = .ok (.ireturn, 1) := by decide +kernel
theorem dM_key_70 : decode cM_key 70 = .ok (.iload_n 2, 1) := by decide +kernel
theorem dM_key_71 : decode cM_key 71 = .ok (.bipush 16, 2) := by decide +kernel
theorem dM_key_73 : decode cM_key 73 = .ok (.invokestatic 56, 3) := by decide +kernel
theorem dM_key_76 : decode cM_key 76 = .ok (.ifCond .eq 18, 3) := by decide +kernel
theorem dM_key_79 : decode cM_key 79 = .ok (.aload_n 0, 1) := by decide +kernel
theorem dM_key_80 : decode cM_key 80 = .ok (.getfield 26, 3) := by decide +kernel
theorem dM_key_83 : decode cM_key 83 = .ok (.iload_n 2, 1) := by decide +kernel
theorem dM_key_84 : decode cM_key 84 = .ok (.aload_n 0, 1) := by decide +kernel
theorem dM_key_85 : decode cM_key 85 = .ok (.getfield 85, 3) := by decide +kernel
theorem dM_key_88 : decode cM_key 88 = .ok (.invokevirtual 203, 3) := by decide +kernel
theorem dM_key_91 : decode cM_key 91 = .ok (.goto 4, 3) := by decide +kernel
theorem dM_key_94 : decode cM_key 94 = .ok (.iconst (-1), 1) := by decide +kernel
theorem dM_key_95 : decode cM_key 95 = .ok (.ireturn, 1) := by decide +kernel
theorem dM_key_96 : decode cM_key 96 = .ok (.iload_n 2, 1) := by decide +kernel
theorem dM_key_97 : decode cM_key 97 = .ok (.aload_n 0, 1) := by decide +kernel
theorem dM_key_98 : decode cM_key 98 = .ok (.getfield 19, 3) := by decide +kernel
theorem dM_key_101 : decode cM_key 101 = .ok (.invokevirtual 112, 3) := by decide +kernel
theorem dM_key_104 : decode cM_key 104 = .ok (.iconst 1, 1) := by decide +kernel
theorem dM_key_105 : decode cM_key 105 = .ok (.isub, 1) := by decide +kernel
theorem dM_key_106 : decode cM_key 106 = .ok (.invokestatic 56, 3) := by decide +kernel
theorem dM_key_109 : decode cM_key 109 = .ok (.ifCond .eq 14, 3) := by decide +kernel
theorem dM_key_112 : decode cM_key 112 = .ok (.aload_n 0, 1) := by decide +kernel
theorem dM_key_113 : decode cM_key 113 = .ok (.getfield 26, 3) := by decide +kernel
theorem dM_key_116 : decode cM_key 116 = .ok (.iload_n 2, 1) := by decide +kernel
theorem dM_key_117 : decode cM_key 117 = .ok (.invokevirtual 206, 3) := by decide +kernel
theorem dM_key_120 : decode cM_key 120 = .ok (.goto 4, 3) := by decide +kernel
theorem dM_key_123 : decode cM_key 123 = .ok (.iconst (-1), 1) := by decide +kernel
theorem dM_key_124 : decode cM_key 124 = .ok (.ireturn, 1) := by decide +kernel
theorem dM_key_125 : decode cM_key 125 = .ok (.iconst (-1), 1) := by decide +kernel
theorem dM_key_126 : decode cM_key 126 = .ok (.ireturn, 1) := by decide +kernel
theorem dM_makeElements_0 : decode cM_makeElements 0 = .ok (.aload_n 0, 1) := by decide +kernel
theorem dM_makeElements_1 : decode cM_makeElements 1 = .ok (.getfield 26, 3) := by decide +kernel
theorem dM_makeElements_4 : decode cM_makeElements 4 = .ok (.invokevirtual 135, 3) := by decide +kernel
theorem dM_makeElements_7 : decode cM_makeElements 7 = .ok (.istore_n 3, 1) := by decide +kernel
theorem dM_makeElements_8 : decode cM_makeElements 8 = .ok (.aload_n 0, 1) := by decide +kernel
theorem dM_makeElements_9 : decode cM_makeElements 9 = .ok (.getfield 26, 3) := by decide +kernel
theorem dM_makeElements_12 : decode cM_makeElements 12 = .ok (.aload_n 0, 1) := by decide +kernel
theorem dM_makeElements_13 : decode cM_makeElements 13 = .ok (.getfield 44, 3) := by decide +kernel
theorem dM_makeElements_16 : decode cM_makeElements 16 = .ok (.invokevirtual 138, 3) := by decide +kernel
theorem dM_makeElements_19 : decode cM_makeElements 19 = .ok (.iload_n 1, 1) := by decide +kernel
theorem dM_makeElements_20 : decode cM_makeElements 20 = .ok (.iload_n 3, 1) := by decide +kernel
theorem dM_makeElements_21 : decode cM_makeElements 21 = .ok (.invokestatic 141, 3) := by decide +kernel
theorem dM_makeElements_24 : decode cM_makeElements 24 = .ok (.invokestatic 147, 3) := by decide +kernel
theorem dM_makeElements_27 : decode cM_makeElements 27 = .ok (.istore 4, 2) := by decide +kernel
theorem dM_makeElements_29 : decode cM_makeElements 29 = .ok (.aload_n 0, 1) := by decide +kernel
theorem dM_makeElements_30 : decode cM_makeElements 30 = .ok (.getfield 26, 3) := by decide +kernel
theorem dM_makeElements_33 : decode cM_makeElements 33 = .ok (.aload_n 0, 1) := by decide +kernel
theorem dM_makeElements_34 : decode cM_makeElements 34 = .ok (.getfield 47, 3) := by decide +kernel
theorem dM_makeElements_37 : decode cM_makeElements 37 = .ok (.invokevirtual 150, 3) := by decide +kernel
theorem dM_makeElements_40 : decode cM_makeElements 40 = .ok (.iload_n 2, 1) := by decide +kernel
theorem dM_makeElements_41 : decode cM_makeElements 41 = .ok (.iload_n 3, 1) := by decide +kernel
theorem dM_makeElements_42 : decode cM_makeElements 42 = .ok (.invokestatic 141, 3) := by decide +kernel
theorem dM_makeElements_45 : decode cM_makeElements 45 = .ok (.invokestatic 147, 3) := by decide +kernel
theorem dM_makeElements_48 : decode cM_makeElements 48 = .ok (.istore 5, 2) := by decide +kernel
theorem dM_makeElements_50 : decode cM_makeElements 50 = .ok (.aload_n 0, 1) := by decide +kernel
theorem dM_makeElements_51 : decode cM_makeElements 51 = .ok (.getfield 26, 3) := by decide +kernel
theorem dM_makeElements_54 : decode cM_makeElements 54 = .ok (.aload_n 0, 1) := by decide +kernel
theorem dM_makeElements_55 : decode cM_makeElements 55 = .ok (.getfield 37, 3) := by decide +kernel
theorem dM_makeElements_58 : decode cM_makeElements 58 = .ok (.aload_n 0, 1) := by decide +kernel
theorem dM_makeElements_59 : decode cM_makeElements 59 = .ok (.getfield 85, 3) := by decide +kernel
theorem dM_makeElements_62 : decode cM_makeElements 62 = .ok (.iconst 1, 1) := by decide +kernel
theorem dM_makeElements_63 : decode cM_makeElements 63 = .ok (.iadd, 1) := by decide +kernel
theorem dM_makeElements_64 : decode cM_makeElements 64 = .ok (.bipush 15, 2) := by decide +kernel
theorem dM_makeElements_66 : decode cM_makeElements 66 = .ok (.invokevirtual 153, 3) := by decide +kernel
theorem dM_makeElements_69 : decode cM_makeElements 69 = .ok (.aload_n 0, 1) := by decide +kernel
theorem dM_makeElements_70 : decode cM_makeElements 70 = .ok (.getfield 33, 3) := by decide +kernel
theorem dM_makeElements_73 : decode cM_makeElements 73 = .ok (.aload_n 0, 1) := by decide +kernel
theorem dM_makeElements_74 : decode cM_makeElements 74 = .ok (.getfield 26, 3) := by decide +kernel
theorem dM_makeElements_77 : decode cM_makeElements 77 = .ok (.invokevirtual 157, 3) := by decide +kernel
theorem dM_makeElements_80 : decode cM_makeElements 80 = .ok (.invokevirtual 160, 3) := by decide +kernel
theorem dM_makeElements_83 : decode cM_makeElements 83 = .ok (.aload_n 0, 1) := by decide +kernel
theorem dM_makeElements_84 : decode cM_makeElements 84 = .ok (.getfield 26, 3) := by decide +kernel
theorem dM_makeElements_87 : decode cM_makeElements 87 = .ok (.invokevirtual 163, 3) := by decide +kernel
theorem dM_makeElements_90 : decode cM_makeElements 90 = .ok (.invokestatic 141, 3) := by decide +kernel
theorem dM_makeElements_93 : decode cM_makeElements 93 = .ok (.invokestatic 147, 3) := by decide +kernel
theorem dM_makeElements_96 : decode cM_makeElements 96 = .ok (.istore 6, 2) := by decide +kernel
theorem dM_makeElements_98 : decode cM_makeElements 98 = .ok (.iload 6, 2) := by decide +kernel
theorem dM_makeElements_100 : decode cM_makeElements 100 = .ok (.iload_n 3, 1) := by decide +kernel
theorem dM_makeElements_101 : decode cM_makeElements 101 = .ok (.invokestatic 166, 3) := by decide +kernel
theorem dM_makeElements_104 : decode cM_makeElements 104 = .ok (.istore 7, 2) := by decide +kernel
theorem dM_makeElements_106 : decode cM_makeElements 106 = .ok (.iload 7, 2) := by decide +kernel
theorem dM_makeElements_108 : decode cM_makeElements 108 = .ok (.iload 4, 2) := by decide +kernel
theorem dM_makeElements_110 : decode cM_makeElements 110 = .ok (.iload_n 2, 1) := by decide +kernel
theorem dM_makeElements_111 : decode cM_makeElements 111 = .ok (.invokestatic 141, 3) := by decide +kernel
theorem dM_makeElements_114 : decode cM_makeElements 114 = .ok (.invokestatic 147, 3) := by decide +kernel
theorem dM_makeElements_117 : decode cM_makeElements 117 = .ok (.istore 7, 2) := by decide +kernel
theorem dM_makeElements_119 : decode cM_makeElements 119 = .ok (.iload 7, 2) := by decide +kernel
theorem dM_makeElements_121 : decode cM_makeElements 121 = .ok (.iload 5, 2) := by decide +kernel
theorem dM_makeElements_123 : decode cM_makeElements 123 = .ok (.iload_n 1, 1) := by decide +kernel
theorem dM_makeElements_124 : decode cM_makeElements 124 = .ok (.invokestatic 141, 3) := by decide +kernel
theorem dM_makeElements_127 : decode cM_makeElements 127 = .ok (.invokestatic 147, 3) := by decide +kernel
theorem dM_makeElements_130 : decode cM_makeElements 130 = .ok (.istore 7, 2) := by decide +kernel
theorem dM_makeElements_132 : decode cM_makeElements 132 = .ok (.iload 7, 2) := by decide +kernel
theorem dM_makeElements_134 : decode cM_makeElements 134 = .ok (.iload_n 1, 1) := by decide +kernel
theorem dM_makeElements_135 : decode cM_makeElements 135 = .ok (.iload_n 2, 1) := by decide +kernel
theorem dM_makeElements_136 : decode cM_makeElements 136 = .ok (.invokestatic 141, 3) := by decide +kernel
theorem dM_makeElements_139 : decode cM_makeElements 139 = .ok (.iload_n 3, 1) := by decide +kernel
theorem dM_makeElements_140 : decode cM_makeElements 140 = .ok (.invokestatic 141, 3) := by decide +kernel
theorem dM_makeElements_143 : decode cM_makeElements 143 = .ok (.invokestatic 169, 3) := by decide +kernel
theorem dM_makeElements_146 : decode cM_makeElements 146 = .ok (.istore 7, 2) := by decide +kernel
theorem dM_makeElements_148 : decode cM_makeElements 148 = .ok (.aload_n 0, 1) := by decide +kernel
theorem dM_makeElements_149 : decode cM_makeElements 149 = .ok (.getfield 33, 3) := by decide +kernel
theorem dM_makeElements_152 : decode cM_makeElements 152 = .ok (.iload 4, 2) := by decide +kernel
theorem dM_makeElements_154 : decode cM_makeElements 154 = .ok (.iload 5, 2) := by decide +kernel
theorem dM_makeElements_156 : decode cM_makeElements 156 = .ok (.iload 7, 2) := by decide +kernel
theorem dM_makeElements_158 : decode cM_makeElements 158 = .ok (.invokevirtual 172, 3) := by decide +kernel
theorem dM_makeElements_161 : decode cM_makeElements 161 = .ok (.return_, 1) := by decide +kernel
theorem dM_open_0 : decode cM_open 0 = .ok (.aload_n 0, 1) := by decide +kernel
theorem dM_open_1 : decode cM_open 1 = .ok (.getfield 10, 3) := by decide +kernel
theorem dM_open_4 : decode cM_open 4 = .ok (.aload_n 0, 1) := by decide +kernel
theorem dM_open_5 : decode cM_open 5 = .ok (.getfield 37, 3) := by decide +kernel
theorem dM_open_8 : decode cM_open 8 = .ok (.invokevirtual 89, 3) := by decide +kernel
theorem dM_open_11 : decode cM_open 11 = .ok (.ireturn, 1) := by decide +kernel
theorem dM_polynomial_0 : decode cM_polynomial 0 = .ok (.iload_n 1, 1) := by decide +kernel
theorem dM_polynomial_1 : decode cM_polynomial 1 = .ok (.iconst 3, 1) := by decide +kernel
theorem dM_polynomial_2 : decode cM_polynomial 2 = .ok (.invokestatic 56, 3) := by decide +kernel
theorem dM_polynomial_5 : decode cM_polynomial 5 = .ok (.ifCond .eq 26, 3) := by decide +kernel
theorem dM_polynomial_8 : decode cM_polynomial 8 = .ok (.iload_n 2, 1) := by decide +kernel
theorem dM_polynomial_9 : decode cM_polynomial 9 = .ok (.bipush 16, 2) := by decide +kernel
theorem dM_polynomial_11 : decode cM_polynomial 11 = .ok (.invokestatic 56, 3) := by decide +kernel
theorem dM_polynomial_14 : decode cM_polynomial 14 = .ok (.ifCond .eq 17, 3) := by decide +kernel
theorem dM_polynomial_17 : decode cM_polynomial 17 = .ok (.iload_n 3, 1) := by decide +kernel
theorem dM_polynomial_18 : decode cM_polynomial 18 = .ok (.aload_n 0, 1) := by decide +kernel
theorem dM_polynomial_19 : decode cM_polynomial 19 = .ok (.getfield 19, 3) := by decide +kernel
theorem dM_polynomial_22 : decode cM_polynomial 22 = .ok (.invokevirtual 112, 3) := by decide +kernel
theorem dM_polynomial_25 : decode cM_polynomial 25 = .ok (.invokestatic 56, 3) := by decide +kernel
theorem dM_polynomial_28 : decode cM_polynomial 28 = .ok (.ifCond .ne 5, 3) := by decide +kernel
theorem dM_polynomial_31 : decode cM_polynomial 31 = .ok (.iconst (-1), 1) := by decide +kernel
theorem dM_polynomial_32 : decode cM_polynomial 32 = .ok (.ireturn, 1) := by decide +kernel
theorem dM_polynomial_33 : decode cM_polynomial 33 = .ok (.aload_n 0, 1) := by decide +kernel
theorem dM_polynomial_34 : decode cM_polynomial 34 = .ok (.getfield 10, 3) := by decide +kernel
theorem dM_polynomial_37 : decode cM_polynomial 37 = .ok (.iload_n 1, 1) := by decide +kernel
theorem dM_polynomial_38 : decode cM_polynomial 38 = .ok (.iload_n 2, 1) := by decide +kernel
theorem dM_polynomial_39 : decode cM_polynomial 39 = .ok (.aload_n 0, 1) := by decide +kernel
theorem dM_polynomial_40 : decode cM_polynomial 40 = .ok (.getfield 44, 3) := by decide +kernel
theorem dM_polynomial_43 : decode cM_polynomial 43 = .ok (.invokevirtual 192, 3) := by decide +kernel
theorem dM_polynomial_46 : decode cM_polynomial 46 = .ok (.aload_n 0, 1) := by decide +kernel
theorem dM_polynomial_47 : decode cM_polynomial 47 = .ok (.getfield 19, 3) := by decide +kernel
theorem dM_polynomial_50 : decode cM_polynomial 50 = .ok (.aload_n 0, 1) := by decide +kernel
theorem dM_polynomial_51 : decode cM_polynomial 51 = .ok (.getfield 44, 3) := by decide +kernel
theorem dM_polynomial_54 : decode cM_polynomial 54 = .ok (.iload_n 3, 1) := by decide +kernel
theorem dM_polynomial_55 : decode cM_polynomial 55 = .ok (.invokevirtual 196, 3) := by decide +kernel
theorem dM_polynomial_58 : decode cM_polynomial 58 = .ok (.ireturn, 1) := by decide +kernel
theorem dM_proof_0 : decode cM_proof 0 = .ok (.aload_n 0, 1) := by decide +kernel
theorem dM_proof_1 : decode cM_proof 1 = .ok (.getfield 33, 3) := by decide +kernel
theorem dM_proof_4 : decode cM_proof 4 = .ok (.invokevirtual 176, 3) := by decide +kernel
theorem dM_proof_7 : decode cM_proof 7 = .ok (.ifCond .eq 22, 3) := by decide +kernel
theorem dM_proof_10 : decode cM_proof 10 = .ok (.iload_n 1, 1) := by decide +kernel
theorem dM_proof_11 : decode cM_proof 11 = .ok (.iconst 3, 1) := by decide +kernel
theorem dM_proof_12 : decode cM_proof 12 = .ok (.invokestatic 56, 3) := by decide +kernel
theorem dM_proof_15 : decode cM_proof 15 = .ok (.ifCond .eq 14, 3) := by decide +kernel
theorem dM_proof_18 : decode cM_proof 18 = .ok (.aload_n 0, 1) := by decide +kernel
theorem dM_proof_19 : decode cM_proof 19 = .ok (.getfield 33, 3) := by decide +kernel
theorem dM_proof_22 : decode cM_proof 22 = .ok (.iload_n 1, 1) := by decide +kernel
theorem dM_proof_23 : decode cM_proof 23 = .ok (.invokevirtual 180, 3) := by decide +kernel
theorem dM_proof_26 : decode cM_proof 26 = .ok (.goto 4, 3) := by decide +kernel
theorem dM_proof_29 : decode cM_proof 29 = .ok (.iconst (-1), 1) := by decide +kernel
theorem dM_proof_30 : decode cM_proof 30 = .ok (.ireturn, 1) := by decide +kernel
theorem dM_prove_0 : decode cM_prove 0 = .ok (.iload_n 1, 1) := by decide +kernel
theorem dM_prove_1 : decode cM_prove 1 = .ok (.ldc 60, 2) := by decide +kernel
theorem dM_prove_3 : decode cM_prove 3 = .ok (.invokestatic 56, 3) := by decide +kernel
theorem dM_prove_6 : decode cM_prove 6 = .ok (.ifCond .eq 12, 3) := by decide +kernel
theorem dM_prove_9 : decode cM_prove 9 = .ok (.iload_n 2, 1) := by decide +kernel
theorem dM_prove_10 : decode cM_prove 10 = .ok (.ldc 60, 2) := by decide +kernel
theorem dM_prove_12 : decode cM_prove 12 = .ok (.invokestatic 56, 3) := by decide +kernel
theorem dM_prove_15 : decode cM_prove 15 = .ok (.ifCond .ne 11, 3) := by decide +kernel
theorem dM_prove_18 : decode cM_prove 18 = .ok (.new 61, 3) := by decide +kernel
theorem dM_prove_21 : decode cM_prove 21 = .ok (.dup, 1) := by decide +kernel
theorem dM_prove_22 : decode cM_prove 22 = .ok (.invokespecial 63, 3) := by decide +kernel
theorem dM_prove_25 : decode cM_prove 25 = .ok (.athrow, 1) := by decide +kernel
theorem dM_prove_26 : decode cM_prove 26 = .ok (.aload_n 0, 1) := by decide +kernel
theorem dM_prove_27 : decode cM_prove 27 = .ok (.getfield 26, 3) := by decide +kernel
theorem dM_prove_30 : decode cM_prove 30 = .ok (.invokevirtual 115, 3) := by decide +kernel
theorem dM_prove_33 : decode cM_prove 33 = .ok (.ifCond .ne 11, 3) := by decide +kernel
theorem dM_prove_36 : decode cM_prove 36 = .ok (.new 72, 3) := by decide +kernel
theorem dM_prove_39 : decode cM_prove 39 = .ok (.dup, 1) := by decide +kernel
theorem dM_prove_40 : decode cM_prove 40 = .ok (.invokespecial 74, 3) := by decide +kernel
theorem dM_prove_43 : decode cM_prove 43 = .ok (.athrow, 1) := by decide +kernel
theorem dM_prove_44 : decode cM_prove 44 = .ok (.aload_n 0, 1) := by decide +kernel
theorem dM_prove_45 : decode cM_prove 45 = .ok (.getfield 10, 3) := by decide +kernel
theorem dM_prove_48 : decode cM_prove 48 = .ok (.aload_n 0, 1) := by decide +kernel
theorem dM_prove_49 : decode cM_prove 49 = .ok (.getfield 37, 3) := by decide +kernel
theorem dM_prove_52 : decode cM_prove 52 = .ok (.invokevirtual 89, 3) := by decide +kernel
theorem dM_prove_55 : decode cM_prove 55 = .ok (.iconst (-1), 1) := by decide +kernel
theorem dM_prove_56 : decode cM_prove 56 = .ok (.if_icmp .eq 11, 3) := by decide +kernel
theorem dM_prove_59 : decode cM_prove 59 = .ok (.new 101, 3) := by decide +kernel
theorem dM_prove_62 : decode cM_prove 62 = .ok (.dup, 1) := by decide +kernel
theorem dM_prove_63 : decode cM_prove 63 = .ok (.invokespecial 103, 3) := by decide +kernel
theorem dM_prove_66 : decode cM_prove 66 = .ok (.athrow, 1) := by decide +kernel
theorem dM_prove_67 : decode cM_prove 67 = .ok (.aload_n 0, 1) := by decide +kernel
theorem dM_prove_68 : decode cM_prove 68 = .ok (.getfield 10, 3) := by decide +kernel
theorem dM_prove_71 : decode cM_prove 71 = .ok (.iconst 0, 1) := by decide +kernel
theorem dM_prove_72 : decode cM_prove 72 = .ok (.aload_n 0, 1) := by decide +kernel
theorem dM_prove_73 : decode cM_prove 73 = .ok (.getfield 37, 3) := by decide +kernel
theorem dM_prove_76 : decode cM_prove 76 = .ok (.aload_n 0, 1) := by decide +kernel
theorem dM_prove_77 : decode cM_prove 77 = .ok (.getfield 44, 3) := by decide +kernel
theorem dM_prove_80 : decode cM_prove 80 = .ok (.invokevirtual 119, 3) := by decide +kernel
theorem dM_prove_83 : decode cM_prove 83 = .ok (.aload_n 0, 1) := by decide +kernel
theorem dM_prove_84 : decode cM_prove 84 = .ok (.getfield 10, 3) := by decide +kernel
theorem dM_prove_87 : decode cM_prove 87 = .ok (.iconst 1, 1) := by decide +kernel
theorem dM_prove_88 : decode cM_prove 88 = .ok (.aload_n 0, 1) := by decide +kernel
theorem dM_prove_89 : decode cM_prove 89 = .ok (.getfield 37, 3) := by decide +kernel
theorem dM_prove_92 : decode cM_prove 92 = .ok (.aload_n 0, 1) := by decide +kernel
theorem dM_prove_93 : decode cM_prove 93 = .ok (.getfield 47, 3) := by decide +kernel
theorem dM_prove_96 : decode cM_prove 96 = .ok (.invokevirtual 119, 3) := by decide +kernel
theorem dM_prove_99 : decode cM_prove 99 = .ok (.aload_n 0, 1) := by decide +kernel
theorem dM_prove_100 : decode cM_prove 100 = .ok (.getfield 19, 3) := by decide +kernel
theorem dM_prove_103 : decode cM_prove 103 = .ok (.aload_n 0, 1) := by decide +kernel
theorem dM_prove_104 : decode cM_prove 104 = .ok (.getfield 44, 3) := by decide +kernel
theorem dM_prove_107 : decode cM_prove 107 = .ok (.aload_n 0, 1) := by decide +kernel
theorem dM_prove_108 : decode cM_prove 108 = .ok (.getfield 50, 3) := by decide +kernel
theorem dM_prove_111 : decode cM_prove 111 = .ok (.invokevirtual 123, 3) := by decide +kernel
theorem dM_prove_114 : decode cM_prove 114 = .ok (.aload_n 0, 1) := by decide +kernel
theorem dM_prove_115 : decode cM_prove 115 = .ok (.getfield 19, 3) := by decide +kernel
theorem dM_prove_118 : decode cM_prove 118 = .ok (.aload_n 0, 1) := by decide +kernel
theorem dM_prove_119 : decode cM_prove 119 = .ok (.getfield 47, 3) := by decide +kernel
theorem dM_prove_122 : decode cM_prove 122 = .ok (.aload_n 0, 1) := by decide +kernel
theorem dM_prove_123 : decode cM_prove 123 = .ok (.getfield 53, 3) := by decide +kernel
theorem dM_prove_126 : decode cM_prove 126 = .ok (.invokevirtual 123, 3) := by decide +kernel
theorem dM_prove_129 : decode cM_prove 129 = .ok (.aload_n 0, 1) := by decide +kernel
theorem dM_prove_130 : decode cM_prove 130 = .ok (.getfield 33, 3) := by decide +kernel
theorem dM_prove_133 : decode cM_prove 133 = .ok (.aload_n 0, 1) := by decide +kernel
theorem dM_prove_134 : decode cM_prove 134 = .ok (.getfield 50, 3) := by decide +kernel
theorem dM_prove_137 : decode cM_prove 137 = .ok (.aload_n 0, 1) := by decide +kernel
theorem dM_prove_138 : decode cM_prove 138 = .ok (.getfield 53, 3) := by decide +kernel
theorem dM_prove_141 : decode cM_prove 141 = .ok (.aload_n 0, 1) := by decide +kernel
theorem dM_prove_142 : decode cM_prove 142 = .ok (.getfield 19, 3) := by decide +kernel
theorem dM_prove_145 : decode cM_prove 145 = .ok (.invokevirtual 112, 3) := by decide +kernel
theorem dM_prove_148 : decode cM_prove 148 = .ok (.invokevirtual 127, 3) := by decide +kernel
theorem dM_prove_151 : decode cM_prove 151 = .ok (.aload_n 0, 1) := by decide +kernel
theorem dM_prove_152 : decode cM_prove 152 = .ok (.iload_n 1, 1) := by decide +kernel
theorem dM_prove_153 : decode cM_prove 153 = .ok (.iload_n 2, 1) := by decide +kernel
theorem dM_prove_154 : decode cM_prove 154 = .ok (.invokevirtual 131, 3) := by decide +kernel
theorem dM_prove_157 : decode cM_prove 157 = .ok (.iconst 1, 1) := by decide +kernel
theorem dM_prove_158 : decode cM_prove 158 = .ok (.ireturn, 1) := by decide +kernel
theorem dM_publics_0 : decode cM_publics 0 = .ok (.iload_n 1, 1) := by decide +kernel
theorem dM_publics_1 : decode cM_publics 1 = .ok (.bipush 7, 2) := by decide +kernel
theorem dM_publics_3 : decode cM_publics 3 = .ok (.invokestatic 56, 3) := by decide +kernel
theorem dM_publics_6 : decode cM_publics 6 = .ok (.ifCond .ne 11, 3) := by decide +kernel
theorem dM_publics_9 : decode cM_publics 9 = .ok (.new 61, 3) := by decide +kernel
theorem dM_publics_12 : decode cM_publics 12 = .ok (.dup, 1) := by decide +kernel
theorem dM_publics_13 : decode cM_publics 13 = .ok (.invokespecial 63, 3) := by decide +kernel
theorem dM_publics_16 : decode cM_publics 16 = .ok (.athrow, 1) := by decide +kernel
theorem dM_publics_17 : decode cM_publics 17 = .ok (.aload_n 0, 1) := by decide +kernel
theorem dM_publics_18 : decode cM_publics 18 = .ok (.iload_n 1, 1) := by decide +kernel
theorem dM_publics_19 : decode cM_publics 19 = .ok (.putfield 85, 3) := by decide +kernel
theorem dM_publics_22 : decode cM_publics 22 = .ok (.aload_n 0, 1) := by decide +kernel
theorem dM_publics_23 : decode cM_publics 23 = .ok (.getfield 26, 3) := by decide +kernel
theorem dM_publics_26 : decode cM_publics 26 = .ok (.invokevirtual 82, 3) := by decide +kernel
theorem dM_publics_29 : decode cM_publics 29 = .ok (.iconst 1, 1) := by decide +kernel
theorem dM_publics_30 : decode cM_publics 30 = .ok (.ireturn, 1) := by decide +kernel
theorem dM_quotient_0 : decode cM_quotient 0 = .ok (.aload_n 0, 1) := by decide +kernel
theorem dM_quotient_1 : decode cM_quotient 1 = .ok (.getfield 33, 3) := by decide +kernel
theorem dM_quotient_4 : decode cM_quotient 4 = .ok (.invokevirtual 176, 3) := by decide +kernel
theorem dM_quotient_7 : decode cM_quotient 7 = .ok (.ifCond .eq 23, 3) := by decide +kernel
theorem dM_quotient_10 : decode cM_quotient 10 = .ok (.iload_n 1, 1) := by decide +kernel
theorem dM_quotient_11 : decode cM_quotient 11 = .ok (.bipush 16, 2) := by decide +kernel
theorem dM_quotient_13 : decode cM_quotient 13 = .ok (.invokestatic 56, 3) := by decide +kernel
theorem dM_quotient_16 : decode cM_quotient 16 = .ok (.ifCond .eq 14, 3) := by decide +kernel
theorem dM_quotient_19 : decode cM_quotient 19 = .ok (.aload_n 0, 1) := by decide +kernel
theorem dM_quotient_20 : decode cM_quotient 20 = .ok (.getfield 33, 3) := by decide +kernel
theorem dM_quotient_23 : decode cM_quotient 23 = .ok (.iload_n 1, 1) := by decide +kernel
theorem dM_quotient_24 : decode cM_quotient 24 = .ok (.invokevirtual 189, 3) := by decide +kernel
theorem dM_quotient_27 : decode cM_quotient 27 = .ok (.goto 4, 3) := by decide +kernel
theorem dM_quotient_30 : decode cM_quotient 30 = .ok (.iconst (-1), 1) := by decide +kernel
theorem dM_quotient_31 : decode cM_quotient 31 = .ok (.ireturn, 1) := by decide +kernel
theorem dM_setup_0 : decode cM_setup 0 = .ok (.iload_n 1, 1) := by decide +kernel
theorem dM_setup_1 : decode cM_setup 1 = .ok (.invokestatic 93, 3) := by decide +kernel
theorem dM_setup_4 : decode cM_setup 4 = .ok (.ifCond .eq 33, 3) := by decide +kernel
theorem dM_setup_7 : decode cM_setup 7 = .ok (.iload_n 2, 1) := by decide +kernel
theorem dM_setup_8 : decode cM_setup 8 = .ok (.invokestatic 93, 3) := by decide +kernel
theorem dM_setup_11 : decode cM_setup 11 = .ok (.ifCond .eq 26, 3) := by decide +kernel
theorem dM_setup_14 : decode cM_setup 14 = .ok (.iload_n 3, 1) := by decide +kernel
theorem dM_setup_15 : decode cM_setup 15 = .ok (.invokestatic 93, 3) := by decide +kernel
theorem dM_setup_18 : decode cM_setup 18 = .ok (.ifCond .eq 19, 3) := by decide +kernel
theorem dM_setup_21 : decode cM_setup 21 = .ok (.iload 4, 2) := by decide +kernel
theorem dM_setup_23 : decode cM_setup 23 = .ok (.invokestatic 93, 3) := by decide +kernel
theorem dM_setup_26 : decode cM_setup 26 = .ok (.ifCond .eq 11, 3) := by decide +kernel
theorem dM_setup_29 : decode cM_setup 29 = .ok (.iload 5, 2) := by decide +kernel
theorem dM_setup_31 : decode cM_setup 31 = .ok (.invokestatic 93, 3) := by decide +kernel
theorem dM_setup_34 : decode cM_setup 34 = .ok (.ifCond .ne 11, 3) := by decide +kernel
theorem dM_setup_37 : decode cM_setup 37 = .ok (.new 61, 3) := by decide +kernel
theorem dM_setup_40 : decode cM_setup 40 = .ok (.dup, 1) := by decide +kernel
theorem dM_setup_41 : decode cM_setup 41 = .ok (.invokespecial 63, 3) := by decide +kernel
theorem dM_setup_44 : decode cM_setup 44 = .ok (.athrow, 1) := by decide +kernel
theorem dM_setup_45 : decode cM_setup 45 = .ok (.aload_n 0, 1) := by decide +kernel
theorem dM_setup_46 : decode cM_setup 46 = .ok (.getfield 19, 3) := by decide +kernel
theorem dM_setup_49 : decode cM_setup 49 = .ok (.iload_n 1, 1) := by decide +kernel
theorem dM_setup_50 : decode cM_setup 50 = .ok (.invokevirtual 97, 3) := by decide +kernel
theorem dM_setup_53 : decode cM_setup 53 = .ok (.ifCond .ne 11, 3) := by decide +kernel
theorem dM_setup_56 : decode cM_setup 56 = .ok (.new 101, 3) := by decide +kernel
theorem dM_setup_59 : decode cM_setup 59 = .ok (.dup, 1) := by decide +kernel
theorem dM_setup_60 : decode cM_setup 60 = .ok (.invokespecial 103, 3) := by decide +kernel
theorem dM_setup_63 : decode cM_setup 63 = .ok (.athrow, 1) := by decide +kernel
theorem dM_setup_64 : decode cM_setup 64 = .ok (.aload_n 0, 1) := by decide +kernel
theorem dM_setup_65 : decode cM_setup 65 = .ok (.getfield 26, 3) := by decide +kernel
theorem dM_setup_68 : decode cM_setup 68 = .ok (.iload_n 1, 1) := by decide +kernel
theorem dM_setup_69 : decode cM_setup 69 = .ok (.iload_n 2, 1) := by decide +kernel
theorem dM_setup_70 : decode cM_setup 70 = .ok (.iload_n 3, 1) := by decide +kernel
theorem dM_setup_71 : decode cM_setup 71 = .ok (.iload 4, 2) := by decide +kernel
theorem dM_setup_73 : decode cM_setup 73 = .ok (.iload 5, 2) := by decide +kernel
theorem dM_setup_75 : decode cM_setup 75 = .ok (.invokevirtual 104, 3) := by decide +kernel
theorem dM_setup_78 : decode cM_setup 78 = .ok (.aload_n 0, 1) := by decide +kernel
theorem dM_setup_79 : decode cM_setup 79 = .ok (.getfield 26, 3) := by decide +kernel
theorem dM_setup_82 : decode cM_setup 82 = .ok (.aload_n 0, 1) := by decide +kernel
theorem dM_setup_83 : decode cM_setup 83 = .ok (.getfield 10, 3) := by decide +kernel
theorem dM_setup_86 : decode cM_setup 86 = .ok (.aload_n 0, 1) := by decide +kernel
theorem dM_setup_87 : decode cM_setup 87 = .ok (.getfield 19, 3) := by decide +kernel
theorem dM_setup_90 : decode cM_setup 90 = .ok (.invokevirtual 108, 3) := by decide +kernel
theorem dM_setup_93 : decode cM_setup 93 = .ok (.aload_n 0, 1) := by decide +kernel
theorem dM_setup_94 : decode cM_setup 94 = .ok (.getfield 19, 3) := by decide +kernel
theorem dM_setup_97 : decode cM_setup 97 = .ok (.invokevirtual 112, 3) := by decide +kernel
theorem dM_setup_100 : decode cM_setup 100 = .ok (.ireturn, 1) := by decide +kernel
theorem dM_term_0 : decode cM_term 0 = .ok (.iload_n 1, 1) := by decide +kernel
theorem dM_term_1 : decode cM_term 1 = .ok (.iconst 3, 1) := by decide +kernel
theorem dM_term_2 : decode cM_term 2 = .ok (.invokestatic 56, 3) := by decide +kernel
theorem dM_term_5 : decode cM_term 5 = .ok (.ifCond .eq 21, 3) := by decide +kernel
theorem dM_term_8 : decode cM_term 8 = .ok (.iload_n 2, 1) := by decide +kernel
theorem dM_term_9 : decode cM_term 9 = .ok (.bipush 16, 2) := by decide +kernel
theorem dM_term_11 : decode cM_term 11 = .ok (.invokestatic 56, 3) := by decide +kernel
theorem dM_term_14 : decode cM_term 14 = .ok (.ifCond .eq 12, 3) := by decide +kernel
theorem dM_term_17 : decode cM_term 17 = .ok (.iload_n 3, 1) := by decide +kernel
theorem dM_term_18 : decode cM_term 18 = .ok (.ldc 60, 2) := by decide +kernel
theorem dM_term_20 : decode cM_term 20 = .ok (.invokestatic 56, 3) := by decide +kernel
theorem dM_term_23 : decode cM_term 23 = .ok (.ifCond .ne 11, 3) := by decide +kernel
theorem dM_term_26 : decode cM_term 26 = .ok (.new 61, 3) := by decide +kernel
theorem dM_term_29 : decode cM_term 29 = .ok (.dup, 1) := by decide +kernel
theorem dM_term_30 : decode cM_term 30 = .ok (.invokespecial 63, 3) := by decide +kernel
theorem dM_term_33 : decode cM_term 33 = .ok (.athrow, 1) := by decide +kernel
theorem dM_term_34 : decode cM_term 34 = .ok (.aload_n 0, 1) := by decide +kernel
theorem dM_term_35 : decode cM_term 35 = .ok (.getfield 10, 3) := by decide +kernel
theorem dM_term_38 : decode cM_term 38 = .ok (.iload_n 1, 1) := by decide +kernel
theorem dM_term_39 : decode cM_term 39 = .ok (.iload_n 2, 1) := by decide +kernel
theorem dM_term_40 : decode cM_term 40 = .ok (.iload_n 3, 1) := by decide +kernel
theorem dM_term_41 : decode cM_term 41 = .ok (.invokevirtual 64, 3) := by decide +kernel
theorem dM_term_44 : decode cM_term 44 = .ok (.ireturn, 1) := by decide +kernel
theorem dM_value_0 : decode cM_value 0 = .ok (.iload_n 1, 1) := by decide +kernel
theorem dM_value_1 : decode cM_value 1 = .ok (.ifCond .eq 21, 3) := by decide +kernel
theorem dM_value_4 : decode cM_value 4 = .ok (.iload_n 1, 1) := by decide +kernel
theorem dM_value_5 : decode cM_value 5 = .ok (.bipush 16, 2) := by decide +kernel
theorem dM_value_7 : decode cM_value 7 = .ok (.invokestatic 56, 3) := by decide +kernel
theorem dM_value_10 : decode cM_value 10 = .ok (.ifCond .eq 12, 3) := by decide +kernel
theorem dM_value_13 : decode cM_value 13 = .ok (.iload_n 2, 1) := by decide +kernel
theorem dM_value_14 : decode cM_value 14 = .ok (.ldc 60, 2) := by decide +kernel
theorem dM_value_16 : decode cM_value 16 = .ok (.invokestatic 56, 3) := by decide +kernel
theorem dM_value_19 : decode cM_value 19 = .ok (.ifCond .ne 11, 3) := by decide +kernel
theorem dM_value_22 : decode cM_value 22 = .ok (.new 61, 3) := by decide +kernel
theorem dM_value_25 : decode cM_value 25 = .ok (.dup, 1) := by decide +kernel
theorem dM_value_26 : decode cM_value 26 = .ok (.invokespecial 63, 3) := by decide +kernel
theorem dM_value_29 : decode cM_value 29 = .ok (.athrow, 1) := by decide +kernel
theorem dM_value_30 : decode cM_value 30 = .ok (.aload_n 0, 1) := by decide +kernel
theorem dM_value_31 : decode cM_value 31 = .ok (.getfield 37, 3) := by decide +kernel
theorem dM_value_34 : decode cM_value 34 = .ok (.iload_n 1, 1) := by decide +kernel
theorem dM_value_35 : decode cM_value 35 = .ok (.iload_n 2, 1) := by decide +kernel
theorem dM_value_36 : decode cM_value 36 = .ok (.iastore, 1) := by decide +kernel
theorem dM_value_37 : decode cM_value 37 = .ok (.iconst 1, 1) := by decide +kernel
theorem dM_value_38 : decode cM_value 38 = .ok (.ireturn, 1) := by decide +kernel
theorem dM_verify_0 : decode cM_verify 0 = .ok (.aload_n 0, 1) := by decide +kernel
theorem dM_verify_1 : decode cM_verify 1 = .ok (.getfield 26, 3) := by decide +kernel
theorem dM_verify_4 : decode cM_verify 4 = .ok (.invokevirtual 115, 3) := by decide +kernel
theorem dM_verify_7 : decode cM_verify 7 = .ok (.ifCond .eq 13, 3) := by decide +kernel
theorem dM_verify_10 : decode cM_verify 10 = .ok (.aload_n 0, 1) := by decide +kernel
theorem dM_verify_11 : decode cM_verify 11 = .ok (.getfield 33, 3) := by decide +kernel
theorem dM_verify_14 : decode cM_verify 14 = .ok (.invokevirtual 176, 3) := by decide +kernel
theorem dM_verify_17 : decode cM_verify 17 = .ok (.ifCond .ne 11, 3) := by decide +kernel
theorem dM_verify_20 : decode cM_verify 20 = .ok (.new 72, 3) := by decide +kernel
theorem dM_verify_23 : decode cM_verify 23 = .ok (.dup, 1) := by decide +kernel
theorem dM_verify_24 : decode cM_verify 24 = .ok (.invokespecial 74, 3) := by decide +kernel
theorem dM_verify_27 : decode cM_verify 27 = .ok (.athrow, 1) := by decide +kernel
theorem dM_verify_28 : decode cM_verify 28 = .ok (.aload_n 0, 1) := by decide +kernel
theorem dM_verify_29 : decode cM_verify 29 = .ok (.getfield 33, 3) := by decide +kernel
theorem dM_verify_32 : decode cM_verify 32 = .ok (.iconst 0, 1) := by decide +kernel
theorem dM_verify_33 : decode cM_verify 33 = .ok (.invokevirtual 180, 3) := by decide +kernel
theorem dM_verify_36 : decode cM_verify 36 = .ok (.aload_n 0, 1) := by decide +kernel
theorem dM_verify_37 : decode cM_verify 37 = .ok (.getfield 33, 3) := by decide +kernel
theorem dM_verify_40 : decode cM_verify 40 = .ok (.iconst 1, 1) := by decide +kernel
theorem dM_verify_41 : decode cM_verify 41 = .ok (.invokevirtual 180, 3) := by decide +kernel
theorem dM_verify_44 : decode cM_verify 44 = .ok (.invokestatic 141, 3) := by decide +kernel
theorem dM_verify_47 : decode cM_verify 47 = .ok (.istore_n 1, 1) := by decide +kernel
theorem dM_verify_48 : decode cM_verify 48 = .ok (.aload_n 0, 1) := by decide +kernel
theorem dM_verify_49 : decode cM_verify 49 = .ok (.getfield 26, 3) := by decide +kernel
theorem dM_verify_52 : decode cM_verify 52 = .ok (.invokevirtual 183, 3) := by decide +kernel
theorem dM_verify_55 : decode cM_verify 55 = .ok (.aload_n 0, 1) := by decide +kernel
theorem dM_verify_56 : decode cM_verify 56 = .ok (.getfield 26, 3) := by decide +kernel
theorem dM_verify_59 : decode cM_verify 59 = .ok (.invokevirtual 186, 3) := by decide +kernel
theorem dM_verify_62 : decode cM_verify 62 = .ok (.invokestatic 141, 3) := by decide +kernel
theorem dM_verify_65 : decode cM_verify 65 = .ok (.aload_n 0, 1) := by decide +kernel
theorem dM_verify_66 : decode cM_verify 66 = .ok (.getfield 26, 3) := by decide +kernel
theorem dM_verify_69 : decode cM_verify 69 = .ok (.aload_n 0, 1) := by decide +kernel
theorem dM_verify_70 : decode cM_verify 70 = .ok (.getfield 41, 3) := by decide +kernel
theorem dM_verify_73 : decode cM_verify 73 = .ok (.iconst 0, 1) := by decide +kernel
theorem dM_verify_74 : decode cM_verify 74 = .ok (.aload_n 0, 1) := by decide +kernel
theorem dM_verify_75 : decode cM_verify 75 = .ok (.getfield 85, 3) := by decide +kernel
theorem dM_verify_78 : decode cM_verify 78 = .ok (.invokevirtual 153, 3) := by decide +kernel
theorem dM_verify_81 : decode cM_verify 81 = .ok (.invokestatic 147, 3) := by decide +kernel
theorem dM_verify_84 : decode cM_verify 84 = .ok (.istore_n 2, 1) := by decide +kernel
theorem dM_verify_85 : decode cM_verify 85 = .ok (.iload_n 1, 1) := by decide +kernel
theorem dM_verify_86 : decode cM_verify 86 = .ok (.iload_n 2, 1) := by decide +kernel
theorem dM_verify_87 : decode cM_verify 87 = .ok (.aload_n 0, 1) := by decide +kernel
theorem dM_verify_88 : decode cM_verify 88 = .ok (.getfield 33, 3) := by decide +kernel
theorem dM_verify_91 : decode cM_verify 91 = .ok (.iconst 2, 1) := by decide +kernel
theorem dM_verify_92 : decode cM_verify 92 = .ok (.invokevirtual 180, 3) := by decide +kernel
theorem dM_verify_95 : decode cM_verify 95 = .ok (.aload_n 0, 1) := by decide +kernel
theorem dM_verify_96 : decode cM_verify 96 = .ok (.getfield 26, 3) := by decide +kernel
theorem dM_verify_99 : decode cM_verify 99 = .ok (.invokevirtual 135, 3) := by decide +kernel
theorem dM_verify_102 : decode cM_verify 102 = .ok (.invokestatic 141, 3) := by decide +kernel
theorem dM_verify_105 : decode cM_verify 105 = .ok (.invokestatic 147, 3) := by decide +kernel
theorem dM_verify_108 : decode cM_verify 108 = .ok (.if_icmp .ne 7, 3) := by decide +kernel
theorem dM_verify_111 : decode cM_verify 111 = .ok (.iconst 1, 1) := by decide +kernel
theorem dM_verify_112 : decode cM_verify 112 = .ok (.goto 4, 3) := by decide +kernel
theorem dM_verify_115 : decode cM_verify 115 = .ok (.iconst 0, 1) := by decide +kernel
theorem dM_verify_116 : decode cM_verify 116 = .ok (.ireturn, 1) := by decide +kernel
end
section
theorem dT_init_0 : decode cT_init 0 = .ok (.aload_n 0, 1) := by decide +kernel
theorem dT_init_1 : decode cT_init 1 = .ok (.invokespecial 1, 3) := by decide +kernel
theorem dT_init_4 : decode cT_init 4 = .ok (.aload_n 0, 1) := by decide +kernel
theorem dT_init_5 : decode cT_init 5 = .ok (.sipush 816, 3) := by decide +kernel
theorem dT_init_8 : decode cT_init 8 = .ok (.newarray .long, 2) := by decide +kernel
theorem dT_init_10 : decode cT_init 10 = .ok (.putfield 7, 3) := by decide +kernel
theorem dT_init_13 : decode cT_init 13 = .ok (.aload_n 0, 1) := by decide +kernel
theorem dT_init_14 : decode cT_init 14 = .ok (.bipush 16, 2) := by decide +kernel
theorem dT_init_16 : decode cT_init 16 = .ok (.newarray .long, 2) := by decide +kernel
theorem dT_init_18 : decode cT_init 18 = .ok (.putfield 13, 3) := by decide +kernel
theorem dT_init_21 : decode cT_init 21 = .ok (.aload_n 0, 1) := by decide +kernel
theorem dT_init_22 : decode cT_init 22 = .ok (.bipush 16, 2) := by decide +kernel
theorem dT_init_24 : decode cT_init 24 = .ok (.newarray .long, 2) := by decide +kernel
theorem dT_init_26 : decode cT_init 26 = .ok (.putfield 16, 3) := by decide +kernel
theorem dT_init_29 : decode cT_init 29 = .ok (.aload_n 0, 1) := by decide +kernel
theorem dT_init_30 : decode cT_init 30 = .ok (.bipush 16, 2) := by decide +kernel
theorem dT_init_32 : decode cT_init 32 = .ok (.newarray .long, 2) := by decide +kernel
theorem dT_init_34 : decode cT_init 34 = .ok (.putfield 19, 3) := by decide +kernel
theorem dT_init_37 : decode cT_init 37 = .ok (.aload_n 0, 1) := by decide +kernel
theorem dT_init_38 : decode cT_init 38 = .ok (.iconst 3, 1) := by decide +kernel
theorem dT_init_39 : decode cT_init 39 = .ok (.newarray .long, 2) := by decide +kernel
theorem dT_init_41 : decode cT_init 41 = .ok (.putfield 22, 3) := by decide +kernel
theorem dT_init_44 : decode cT_init 44 = .ok (.aload_n 0, 1) := by decide +kernel
theorem dT_init_45 : decode cT_init 45 = .ok (.bipush 32, 2) := by decide +kernel
theorem dT_init_47 : decode cT_init 47 = .ok (.newarray .long, 2) := by decide +kernel
theorem dT_init_49 : decode cT_init 49 = .ok (.putfield 25, 3) := by decide +kernel
theorem dT_init_52 : decode cT_init 52 = .ok (.aload_n 0, 1) := by decide +kernel
theorem dT_init_53 : decode cT_init 53 = .ok (.bipush 48, 2) := by decide +kernel
theorem dT_init_55 : decode cT_init 55 = .ok (.newarray .long, 2) := by decide +kernel
theorem dT_init_57 : decode cT_init 57 = .ok (.putfield 28, 3) := by decide +kernel
theorem dT_init_60 : decode cT_init 60 = .ok (.aload_n 0, 1) := by decide +kernel
theorem dT_init_61 : decode cT_init 61 = .ok (.bipush 32, 2) := by decide +kernel
theorem dT_init_63 : decode cT_init 63 = .ok (.newarray .long, 2) := by decide +kernel
theorem dT_init_65 : decode cT_init 65 = .ok (.putfield 31, 3) := by decide +kernel
theorem dT_init_68 : decode cT_init 68 = .ok (.aload_n 0, 1) := by decide +kernel
theorem dT_init_69 : decode cT_init 69 = .ok (.getfield 13, 3) := by decide +kernel
theorem dT_init_72 : decode cT_init 72 = .ok (.iconst 0, 1) := by decide +kernel
theorem dT_init_73 : decode cT_init 73 = .ok (.lconst 1, 1) := by decide +kernel
theorem dT_init_74 : decode cT_init 74 = .ok (.lastore, 1) := by decide +kernel
theorem dT_init_75 : decode cT_init 75 = .ok (.aload_n 0, 1) := by decide +kernel
theorem dT_init_76 : decode cT_init 76 = .ok (.getfield 16, 3) := by decide +kernel
theorem dT_init_79 : decode cT_init 79 = .ok (.iconst 0, 1) := by decide +kernel
theorem dT_init_80 : decode cT_init 80 = .ok (.lconst 1, 1) := by decide +kernel
theorem dT_init_81 : decode cT_init 81 = .ok (.lastore, 1) := by decide +kernel
theorem dT_init_82 : decode cT_init 82 = .ok (.return_, 1) := by decide +kernel
theorem dT_about_0 : decode cT_about 0 = .ok (.aload_n 0, 1) := by decide +kernel
theorem dT_about_1 : decode cT_about 1 = .ok (.iconst 0, 1) := by decide +kernel
theorem dT_about_2 : decode cT_about 2 = .ok (.putfield 34, 3) := by decide +kernel
theorem dT_about_5 : decode cT_about 5 = .ok (.iload_n 1, 1) := by decide +kernel
theorem dT_about_6 : decode cT_about 6 = .ok (.tableswitch 75 0 4 #[34, 39, 44, 49, 62], 34) := by decide +kernel
theorem dT_about_40 : decode cT_about 40 = .ok (.aload_n 0, 1) := by decide +kernel
theorem dT_about_41 : decode cT_about 41 = .ok (.getfield 46, 3) := by decide +kernel
theorem dT_about_44 : decode cT_about 44 = .ok (.ireturn, 1) := by decide +kernel
theorem dT_about_45 : decode cT_about 45 = .ok (.aload_n 0, 1) := by decide +kernel
theorem dT_about_46 : decode cT_about 46 = .ok (.invokevirtual 68, 3) := by decide +kernel
theorem dT_about_49 : decode cT_about 49 = .ok (.ireturn, 1) := by decide +kernel
theorem dT_about_50 : decode cT_about 50 = .ok (.aload_n 0, 1) := by decide +kernel
theorem dT_about_51 : decode cT_about 51 = .ok (.getfield 57, 3) := by decide +kernel
theorem dT_about_54 : decode cT_about 54 = .ok (.ireturn, 1) := by decide +kernel
theorem dT_about_55 : decode cT_about 55 = .ok (.aload_n 0, 1) := by decide +kernel
theorem dT_about_56 : decode cT_about 56 = .ok (.getfield 53, 3) := by decide +kernel
theorem dT_about_59 : decode cT_about 59 = .ok (.ifCond .eq 7, 3) := by decide +kernel
theorem dT_about_62 : decode cT_about 62 = .ok (.iconst 1, 1) := by decide +kernel
theorem dT_about_63 : decode cT_about 63 = .ok (.goto 4, 3) := by decide +kernel
theorem dT_about_66 : decode cT_about 66 = .ok (.iconst 0, 1) := by decide +kernel
theorem dT_about_67 : decode cT_about 67 = .ok (.ireturn, 1) := by decide +kernel
theorem dT_about_68 : decode cT_about 68 = .ok (.aload_n 0, 1) := by decide +kernel
theorem dT_about_69 : decode cT_about 69 = .ok (.getfield 119, 3) := by decide +kernel
theorem dT_about_72 : decode cT_about 72 = .ok (.ifCond .eq 7, 3) := by decide +kernel
theorem dT_about_75 : decode cT_about 75 = .ok (.iconst 1, 1) := by decide +kernel
theorem dT_about_76 : decode cT_about 76 = .ok (.goto 4, 3) := by decide +kernel
theorem dT_about_79 : decode cT_about 79 = .ok (.iconst 0, 1) := by decide +kernel
theorem dT_about_80 : decode cT_about 80 = .ok (.ireturn, 1) := by decide +kernel
theorem dT_about_81 : decode cT_about 81 = .ok (.iconst (-1), 1) := by decide +kernel
theorem dT_about_82 : decode cT_about 82 = .ok (.ireturn, 1) := by decide +kernel
theorem dT_alter_0 : decode cT_alter 0 = .ok (.aload_n 0, 1) := by decide +kernel
theorem dT_alter_1 : decode cT_alter 1 = .ok (.iload_n 1, 1) := by decide +kernel
theorem dT_alter_2 : decode cT_alter 2 = .ok (.ifCond .lt 15, 3) := by decide +kernel
theorem dT_alter_5 : decode cT_alter 5 = .ok (.iload_n 1, 1) := by decide +kernel
theorem dT_alter_6 : decode cT_alter 6 = .ok (.iconst 2, 1) := by decide +kernel
theorem dT_alter_7 : decode cT_alter 7 = .ok (.if_icmp .gt 10, 3) := by decide +kernel
theorem dT_alter_10 : decode cT_alter 10 = .ok (.iload_n 2, 1) := by decide +kernel
theorem dT_alter_11 : decode cT_alter 11 = .ok (.invokestatic 49, 3) := by decide +kernel
theorem dT_alter_14 : decode cT_alter 14 = .ok (.ifCond .ne 7, 3) := by decide +kernel
theorem dT_alter_17 : decode cT_alter 17 = .ok (.iconst 1, 1) := by decide +kernel
theorem dT_alter_18 : decode cT_alter 18 = .ok (.goto 15, 3) := by decide +kernel
theorem dT_alter_21 : decode cT_alter 21 = .ok (.aload_n 0, 1) := by decide +kernel
theorem dT_alter_22 : decode cT_alter 22 = .ok (.getfield 119, 3) := by decide +kernel
theorem dT_alter_25 : decode cT_alter 25 = .ok (.ifCond .ne 7, 3) := by decide +kernel
theorem dT_alter_28 : decode cT_alter 28 = .ok (.iconst 2, 1) := by decide +kernel
theorem dT_alter_29 : decode cT_alter 29 = .ok (.goto 4, 3) := by decide +kernel
theorem dT_alter_32 : decode cT_alter 32 = .ok (.iconst 0, 1) := by decide +kernel
theorem dT_alter_33 : decode cT_alter 33 = .ok (.putfield 34, 3) := by decide +kernel
theorem dT_alter_36 : decode cT_alter 36 = .ok (.aload_n 0, 1) := by decide +kernel
theorem dT_alter_37 : decode cT_alter 37 = .ok (.getfield 34, 3) := by decide +kernel
theorem dT_alter_40 : decode cT_alter 40 = .ok (.ifCond .le 5, 3) := by decide +kernel
theorem dT_alter_43 : decode cT_alter 43 = .ok (.iconst 0, 1) := by decide +kernel
theorem dT_alter_44 : decode cT_alter 44 = .ok (.ireturn, 1) := by decide +kernel
theorem dT_alter_45 : decode cT_alter 45 = .ok (.aload_n 0, 1) := by decide +kernel
theorem dT_alter_46 : decode cT_alter 46 = .ok (.getfield 22, 3) := by decide +kernel
theorem dT_alter_49 : decode cT_alter 49 = .ok (.iload_n 1, 1) := by decide +kernel
theorem dT_alter_50 : decode cT_alter 50 = .ok (.iload_n 2, 1) := by decide +kernel
theorem dT_alter_51 : decode cT_alter 51 = .ok (.i2l, 1) := by decide +kernel
theorem dT_alter_52 : decode cT_alter 52 = .ok (.lastore, 1) := by decide +kernel
theorem dT_alter_53 : decode cT_alter 53 = .ok (.iconst 1, 1) := by decide +kernel
theorem dT_alter_54 : decode cT_alter 54 = .ok (.ireturn, 1) := by decide +kernel
theorem dT_atTau_0 : decode cT_atTau 0 = .ok (.lconst 0, 1) := by decide +kernel
theorem dT_atTau_1 : decode cT_atTau 1 = .ok (.lstore_n 3, 1) := by decide +kernel
theorem dT_atTau_2 : decode cT_atTau 2 = .ok (.iconst 0, 1) := by decide +kernel
theorem dT_atTau_3 : decode cT_atTau 3 = .ok (.istore 5, 2) := by decide +kernel
theorem dT_atTau_5 : decode cT_atTau 5 = .ok (.iload 5, 2) := by decide +kernel
theorem dT_atTau_7 : decode cT_atTau 7 = .ok (.aload_n 0, 1) := by decide +kernel
theorem dT_atTau_8 : decode cT_atTau 8 = .ok (.invokevirtual 68, 3) := by decide +kernel
theorem dT_atTau_11 : decode cT_atTau 11 = .ok (.if_icmp .ge 35, 3) := by decide +kernel
theorem dT_atTau_14 : decode cT_atTau 14 = .ok (.lload_n 3, 1) := by decide +kernel
theorem dT_atTau_15 : decode cT_atTau 15 = .ok (.aload_n 0, 1) := by decide +kernel
theorem dT_atTau_16 : decode cT_atTau 16 = .ok (.iload_n 1, 1) := by decide +kernel
theorem dT_atTau_17 : decode cT_atTau 17 = .ok (.iload_n 2, 1) := by decide +kernel
theorem dT_atTau_18 : decode cT_atTau 18 = .ok (.iload 5, 2) := by decide +kernel
theorem dT_atTau_20 : decode cT_atTau 20 = .ok (.invokevirtual 79, 3) := by decide +kernel
theorem dT_atTau_23 : decode cT_atTau 23 = .ok (.aload_n 0, 1) := by decide +kernel
theorem dT_atTau_24 : decode cT_atTau 24 = .ok (.getfield 83, 3) := by decide +kernel
theorem dT_atTau_27 : decode cT_atTau 27 = .ok (.iload 5, 2) := by decide +kernel
theorem dT_atTau_29 : decode cT_atTau 29 = .ok (.i2l, 1) := by decide +kernel
theorem dT_atTau_30 : decode cT_atTau 30 = .ok (.invokestatic 42, 3) := by decide +kernel
theorem dT_atTau_33 : decode cT_atTau 33 = .ok (.lmul, 1) := by decide +kernel
theorem dT_atTau_34 : decode cT_atTau 34 = .ok (.ladd, 1) := by decide +kernel
theorem dT_atTau_35 : decode cT_atTau 35 = .ok (.ldc2_w 38, 3) := by decide +kernel
theorem dT_atTau_38 : decode cT_atTau 38 = .ok (.lrem, 1) := by decide +kernel
theorem dT_atTau_39 : decode cT_atTau 39 = .ok (.lstore_n 3, 1) := by decide +kernel
theorem dT_atTau_40 : decode cT_atTau 40 = .ok (.iinc 5 1, 3) := by decide +kernel
theorem dT_atTau_43 : decode cT_atTau 43 = .ok (.goto (-38), 3) := by decide +kernel
theorem dT_atTau_46 : decode cT_atTau 46 = .ok (.lload_n 3, 1) := by decide +kernel
theorem dT_atTau_47 : decode cT_atTau 47 = .ok (.lreturn, 1) := by decide +kernel
theorem dT_coefficient_0 : decode cT_coefficient 0 = .ok (.aload_n 0, 1) := by decide +kernel
theorem dT_coefficient_1 : decode cT_coefficient 1 = .ok (.invokevirtual 68, 3) := by decide +kernel
theorem dT_coefficient_4 : decode cT_coefficient 4 = .ok (.istore 4, 2) := by decide +kernel
theorem dT_coefficient_6 : decode cT_coefficient 6 = .ok (.ldc2_w 71, 3) := by decide +kernel
theorem dT_coefficient_9 : decode cT_coefficient 9 = .ok (.ldc2_w 73, 3) := by decide +kernel
theorem dT_coefficient_12 : decode cT_coefficient 12 = .ok (.iload 4, 2) := by decide +kernel
theorem dT_coefficient_14 : decode cT_coefficient 14 = .ok (.i2l, 1) := by decide +kernel
theorem dT_coefficient_15 : decode cT_coefficient 15 = .ok (.ldiv, 1) := by decide +kernel
theorem dT_coefficient_16 : decode cT_coefficient 16 = .ok (.invokestatic 42, 3) := by decide +kernel
theorem dT_coefficient_19 : decode cT_coefficient 19 = .ok (.lstore 5, 2) := by decide +kernel
theorem dT_coefficient_21 : decode cT_coefficient 21 = .ok (.lload 5, 2) := by decide +kernel
theorem dT_coefficient_23 : decode cT_coefficient 23 = .ok (.invokestatic 75, 3) := by decide +kernel
theorem dT_coefficient_26 : decode cT_coefficient 26 = .ok (.iload_n 3, 1) := by decide +kernel
theorem dT_coefficient_27 : decode cT_coefficient 27 = .ok (.i2l, 1) := by decide +kernel
theorem dT_coefficient_28 : decode cT_coefficient 28 = .ok (.invokestatic 42, 3) := by decide +kernel
theorem dT_coefficient_31 : decode cT_coefficient 31 = .ok (.lstore 7, 2) := by decide +kernel
theorem dT_coefficient_33 : decode cT_coefficient 33 = .ok (.lconst 1, 1) := by decide +kernel
theorem dT_coefficient_34 : decode cT_coefficient 34 = .ok (.lstore 9, 2) := by decide +kernel
theorem dT_coefficient_36 : decode cT_coefficient 36 = .ok (.lconst 0, 1) := by decide +kernel
theorem dT_coefficient_37 : decode cT_coefficient 37 = .ok (.lstore 11, 2) := by decide +kernel
theorem dT_coefficient_39 : decode cT_coefficient 39 = .ok (.iconst 0, 1) := by decide +kernel
theorem dT_coefficient_40 : decode cT_coefficient 40 = .ok (.istore 13, 2) := by decide +kernel
theorem dT_coefficient_42 : decode cT_coefficient 42 = .ok (.iload 13, 2) := by decide +kernel
theorem dT_coefficient_44 : decode cT_coefficient 44 = .ok (.aload_n 0, 1) := by decide +kernel
theorem dT_coefficient_45 : decode cT_coefficient 45 = .ok (.getfield 46, 3) := by decide +kernel
theorem dT_coefficient_48 : decode cT_coefficient 48 = .ok (.if_icmp .ge 49, 3) := by decide +kernel
theorem dT_coefficient_51 : decode cT_coefficient 51 = .ok (.lload 11, 2) := by decide +kernel
theorem dT_coefficient_53 : decode cT_coefficient 53 = .ok (.aload_n 0, 1) := by decide +kernel
theorem dT_coefficient_54 : decode cT_coefficient 54 = .ok (.getfield 7, 3) := by decide +kernel
theorem dT_coefficient_57 : decode cT_coefficient 57 = .ok (.bipush 48, 2) := by decide +kernel
theorem dT_coefficient_59 : decode cT_coefficient 59 = .ok (.iload 13, 2) := by decide +kernel
theorem dT_coefficient_61 : decode cT_coefficient 61 = .ok (.imul, 1) := by decide +kernel
theorem dT_coefficient_62 : decode cT_coefficient 62 = .ok (.bipush 16, 2) := by decide +kernel
theorem dT_coefficient_64 : decode cT_coefficient 64 = .ok (.iload_n 1, 1) := by decide +kernel
theorem dT_coefficient_65 : decode cT_coefficient 65 = .ok (.imul, 1) := by decide +kernel
theorem dT_coefficient_66 : decode cT_coefficient 66 = .ok (.iadd, 1) := by decide +kernel
theorem dT_coefficient_67 : decode cT_coefficient 67 = .ok (.iload_n 2, 1) := by decide +kernel
theorem dT_coefficient_68 : decode cT_coefficient 68 = .ok (.iadd, 1) := by decide +kernel
theorem dT_coefficient_69 : decode cT_coefficient 69 = .ok (.laload, 1) := by decide +kernel
theorem dT_coefficient_70 : decode cT_coefficient 70 = .ok (.lload 9, 2) := by decide +kernel
theorem dT_coefficient_72 : decode cT_coefficient 72 = .ok (.lmul, 1) := by decide +kernel
theorem dT_coefficient_73 : decode cT_coefficient 73 = .ok (.ladd, 1) := by decide +kernel
theorem dT_coefficient_74 : decode cT_coefficient 74 = .ok (.ldc2_w 38, 3) := by decide +kernel
theorem dT_coefficient_77 : decode cT_coefficient 77 = .ok (.lrem, 1) := by decide +kernel
theorem dT_coefficient_78 : decode cT_coefficient 78 = .ok (.lstore 11, 2) := by decide +kernel
theorem dT_coefficient_80 : decode cT_coefficient 80 = .ok (.lload 9, 2) := by decide +kernel
theorem dT_coefficient_82 : decode cT_coefficient 82 = .ok (.lload 7, 2) := by decide +kernel
theorem dT_coefficient_84 : decode cT_coefficient 84 = .ok (.lmul, 1) := by decide +kernel
theorem dT_coefficient_85 : decode cT_coefficient 85 = .ok (.ldc2_w 38, 3) := by decide +kernel
theorem dT_coefficient_88 : decode cT_coefficient 88 = .ok (.lrem, 1) := by decide +kernel
theorem dT_coefficient_89 : decode cT_coefficient 89 = .ok (.lstore 9, 2) := by decide +kernel
theorem dT_coefficient_91 : decode cT_coefficient 91 = .ok (.iinc 13 1, 3) := by decide +kernel
theorem dT_coefficient_94 : decode cT_coefficient 94 = .ok (.goto (-52), 3) := by decide +kernel
theorem dT_coefficient_97 : decode cT_coefficient 97 = .ok (.lload 11, 2) := by decide +kernel
theorem dT_coefficient_99 : decode cT_coefficient 99 = .ok (.iload 4, 2) := by decide +kernel
theorem dT_coefficient_101 : decode cT_coefficient 101 = .ok (.i2l, 1) := by decide +kernel
theorem dT_coefficient_102 : decode cT_coefficient 102 = .ok (.invokestatic 75, 3) := by decide +kernel
theorem dT_coefficient_105 : decode cT_coefficient 105 = .ok (.lmul, 1) := by decide +kernel
theorem dT_coefficient_106 : decode cT_coefficient 106 = .ok (.ldc2_w 38, 3) := by decide +kernel
theorem dT_coefficient_109 : decode cT_coefficient 109 = .ok (.lrem, 1) := by decide +kernel
theorem dT_coefficient_110 : decode cT_coefficient 110 = .ok (.lreturn, 1) := by decide +kernel
theorem dT_constraint_0 : decode cT_constraint 0 = .ok (.aload_n 0, 1) := by decide +kernel
theorem dT_constraint_1 : decode cT_constraint 1 = .ok (.aload_n 0, 1) := by decide +kernel
theorem dT_constraint_2 : decode cT_constraint 2 = .ok (.getfield 46, 3) := by decide +kernel
theorem dT_constraint_5 : decode cT_constraint 5 = .ok (.bipush 16, 2) := by decide +kernel
theorem dT_constraint_7 : decode cT_constraint 7 = .ok (.if_icmp .ne 7, 3) := by decide +kernel
theorem dT_constraint_10 : decode cT_constraint 10 = .ok (.iconst 1, 1) := by decide +kernel
theorem dT_constraint_11 : decode cT_constraint 11 = .ok (.goto 4, 3) := by decide +kernel
theorem dT_constraint_14 : decode cT_constraint 14 = .ok (.iconst 0, 1) := by decide +kernel
theorem dT_constraint_15 : decode cT_constraint 15 = .ok (.putfield 34, 3) := by decide +kernel
theorem dT_constraint_18 : decode cT_constraint 18 = .ok (.aload_n 0, 1) := by decide +kernel
theorem dT_constraint_19 : decode cT_constraint 19 = .ok (.getfield 34, 3) := by decide +kernel
theorem dT_constraint_22 : decode cT_constraint 22 = .ok (.ifCond .le 5, 3) := by decide +kernel
theorem dT_constraint_25 : decode cT_constraint 25 = .ok (.iconst 0, 1) := by decide +kernel
theorem dT_constraint_26 : decode cT_constraint 26 = .ok (.ireturn, 1) := by decide +kernel
theorem dT_constraint_27 : decode cT_constraint 27 = .ok (.aload_n 0, 1) := by decide +kernel
theorem dT_constraint_28 : decode cT_constraint 28 = .ok (.dup, 1) := by decide +kernel
theorem dT_constraint_29 : decode cT_constraint 29 = .ok (.getfield 46, 3) := by decide +kernel
theorem dT_constraint_32 : decode cT_constraint 32 = .ok (.iconst 1, 1) := by decide +kernel
theorem dT_constraint_33 : decode cT_constraint 33 = .ok (.iadd, 1) := by decide +kernel
theorem dT_constraint_34 : decode cT_constraint 34 = .ok (.putfield 46, 3) := by decide +kernel
theorem dT_constraint_37 : decode cT_constraint 37 = .ok (.bipush 48, 2) := by decide +kernel
theorem dT_constraint_39 : decode cT_constraint 39 = .ok (.aload_n 0, 1) := by decide +kernel
theorem dT_constraint_40 : decode cT_constraint 40 = .ok (.getfield 46, 3) := by decide +kernel
theorem dT_constraint_43 : decode cT_constraint 43 = .ok (.imul, 1) := by decide +kernel
theorem dT_constraint_44 : decode cT_constraint 44 = .ok (.istore_n 1, 1) := by decide +kernel
theorem dT_constraint_45 : decode cT_constraint 45 = .ok (.iload_n 1, 1) := by decide +kernel
theorem dT_constraint_46 : decode cT_constraint 46 = .ok (.bipush 48, 2) := by decide +kernel
theorem dT_constraint_48 : decode cT_constraint 48 = .ok (.aload_n 0, 1) := by decide +kernel
theorem dT_constraint_49 : decode cT_constraint 49 = .ok (.getfield 46, 3) := by decide +kernel
theorem dT_constraint_52 : decode cT_constraint 52 = .ok (.imul, 1) := by decide +kernel
theorem dT_constraint_53 : decode cT_constraint 53 = .ok (.bipush 48, 2) := by decide +kernel
theorem dT_constraint_55 : decode cT_constraint 55 = .ok (.iadd, 1) := by decide +kernel
theorem dT_constraint_56 : decode cT_constraint 56 = .ok (.if_icmp .ge 16, 3) := by decide +kernel
theorem dT_constraint_59 : decode cT_constraint 59 = .ok (.aload_n 0, 1) := by decide +kernel
theorem dT_constraint_60 : decode cT_constraint 60 = .ok (.getfield 7, 3) := by decide +kernel
theorem dT_constraint_63 : decode cT_constraint 63 = .ok (.iload_n 1, 1) := by decide +kernel
theorem dT_constraint_64 : decode cT_constraint 64 = .ok (.lconst 0, 1) := by decide +kernel
theorem dT_constraint_65 : decode cT_constraint 65 = .ok (.lastore, 1) := by decide +kernel
theorem dT_constraint_66 : decode cT_constraint 66 = .ok (.iinc 1 1, 3) := by decide +kernel
theorem dT_constraint_69 : decode cT_constraint 69 = .ok (.goto (-24), 3) := by decide +kernel
theorem dT_constraint_72 : decode cT_constraint 72 = .ok (.aload_n 0, 1) := by decide +kernel
theorem dT_constraint_73 : decode cT_constraint 73 = .ok (.iconst 0, 1) := by decide +kernel
theorem dT_constraint_74 : decode cT_constraint 74 = .ok (.putfield 53, 3) := by decide +kernel
theorem dT_constraint_77 : decode cT_constraint 77 = .ok (.aload_n 0, 1) := by decide +kernel
theorem dT_constraint_78 : decode cT_constraint 78 = .ok (.getfield 46, 3) := by decide +kernel
theorem dT_constraint_81 : decode cT_constraint 81 = .ok (.iconst 1, 1) := by decide +kernel
theorem dT_constraint_82 : decode cT_constraint 82 = .ok (.isub, 1) := by decide +kernel
theorem dT_constraint_83 : decode cT_constraint 83 = .ok (.ireturn, 1) := by decide +kernel
theorem dT_divide_0 : decode cT_divide 0 = .ok (.aload_n 0, 1) := by decide +kernel
theorem dT_divide_1 : decode cT_divide 1 = .ok (.invokevirtual 68, 3) := by decide +kernel
theorem dT_divide_4 : decode cT_divide 4 = .ok (.istore_n 1, 1) := by decide +kernel
theorem dT_divide_5 : decode cT_divide 5 = .ok (.iconst 0, 1) := by decide +kernel
theorem dT_divide_6 : decode cT_divide 6 = .ok (.istore_n 2, 1) := by decide +kernel
theorem dT_divide_7 : decode cT_divide 7 = .ok (.iload_n 2, 1) := by decide +kernel
theorem dT_divide_8 : decode cT_divide 8 = .ok (.bipush 32, 2) := by decide +kernel
theorem dT_divide_10 : decode cT_divide 10 = .ok (.if_icmp .ge 23, 3) := by decide +kernel
theorem dT_divide_13 : decode cT_divide 13 = .ok (.aload_n 0, 1) := by decide +kernel
theorem dT_divide_14 : decode cT_divide 14 = .ok (.getfield 31, 3) := by decide +kernel
theorem dT_divide_17 : decode cT_divide 17 = .ok (.iload_n 2, 1) := by decide +kernel
theorem dT_divide_18 : decode cT_divide 18 = .ok (.lconst 0, 1) := by decide +kernel
theorem dT_divide_19 : decode cT_divide 19 = .ok (.lastore, 1) := by decide +kernel
theorem dT_divide_20 : decode cT_divide 20 = .ok (.aload_n 0, 1) := by decide +kernel
theorem dT_divide_21 : decode cT_divide 21 = .ok (.getfield 25, 3) := by decide +kernel
theorem dT_divide_24 : decode cT_divide 24 = .ok (.iload_n 2, 1) := by decide +kernel
theorem dT_divide_25 : decode cT_divide 25 = .ok (.lconst 0, 1) := by decide +kernel
theorem dT_divide_26 : decode cT_divide 26 = .ok (.lastore, 1) := by decide +kernel
theorem dT_divide_27 : decode cT_divide 27 = .ok (.iinc 2 1, 3) := by decide +kernel
theorem dT_divide_30 : decode cT_divide 30 = .ok (.goto (-23), 3) := by decide +kernel
theorem dT_divide_33 : decode cT_divide 33 = .ok (.iconst 0, 1) := by decide +kernel
theorem dT_divide_34 : decode cT_divide 34 = .ok (.istore_n 2, 1) := by decide +kernel
theorem dT_divide_35 : decode cT_divide 35 = .ok (.iload_n 2, 1) := by decide +kernel
theorem dT_divide_36 : decode cT_divide 36 = .ok (.iload_n 1, 1) := by decide +kernel
theorem dT_divide_37 : decode cT_divide 37 = .ok (.if_icmp .ge 59, 3) := by decide +kernel
theorem dT_divide_40 : decode cT_divide 40 = .ok (.iconst 0, 1) := by decide +kernel
theorem dT_divide_41 : decode cT_divide 41 = .ok (.istore_n 3, 1) := by decide +kernel
theorem dT_divide_42 : decode cT_divide 42 = .ok (.iload_n 3, 1) := by decide +kernel
theorem dT_divide_43 : decode cT_divide 43 = .ok (.iload_n 1, 1) := by decide +kernel
theorem dT_divide_44 : decode cT_divide 44 = .ok (.if_icmp .ge 46, 3) := by decide +kernel
theorem dT_divide_47 : decode cT_divide 47 = .ok (.aload_n 0, 1) := by decide +kernel
theorem dT_divide_48 : decode cT_divide 48 = .ok (.getfield 31, 3) := by decide +kernel
theorem dT_divide_51 : decode cT_divide 51 = .ok (.iload_n 2, 1) := by decide +kernel
theorem dT_divide_52 : decode cT_divide 52 = .ok (.iload_n 3, 1) := by decide +kernel
theorem dT_divide_53 : decode cT_divide 53 = .ok (.iadd, 1) := by decide +kernel
theorem dT_divide_54 : decode cT_divide 54 = .ok (.aload_n 0, 1) := by decide +kernel
theorem dT_divide_55 : decode cT_divide 55 = .ok (.getfield 31, 3) := by decide +kernel
theorem dT_divide_58 : decode cT_divide 58 = .ok (.iload_n 2, 1) := by decide +kernel
theorem dT_divide_59 : decode cT_divide 59 = .ok (.iload_n 3, 1) := by decide +kernel
theorem dT_divide_60 : decode cT_divide 60 = .ok (.iadd, 1) := by decide +kernel
theorem dT_divide_61 : decode cT_divide 61 = .ok (.laload, 1) := by decide +kernel
theorem dT_divide_62 : decode cT_divide 62 = .ok (.aload_n 0, 1) := by decide +kernel
theorem dT_divide_63 : decode cT_divide 63 = .ok (.getfield 28, 3) := by decide +kernel
theorem dT_divide_66 : decode cT_divide 66 = .ok (.iload_n 2, 1) := by decide +kernel
theorem dT_divide_67 : decode cT_divide 67 = .ok (.laload, 1) := by decide +kernel
theorem dT_divide_68 : decode cT_divide 68 = .ok (.aload_n 0, 1) := by decide +kernel
theorem dT_divide_69 : decode cT_divide 69 = .ok (.getfield 28, 3) := by decide +kernel
theorem dT_divide_72 : decode cT_divide 72 = .ok (.bipush 16, 2) := by decide +kernel
theorem dT_divide_74 : decode cT_divide 74 = .ok (.iload_n 3, 1) := by decide +kernel
theorem dT_divide_75 : decode cT_divide 75 = .ok (.iadd, 1) := by decide +kernel
theorem dT_divide_76 : decode cT_divide 76 = .ok (.laload, 1) := by decide +kernel
theorem dT_divide_77 : decode cT_divide 77 = .ok (.lmul, 1) := by decide +kernel
theorem dT_divide_78 : decode cT_divide 78 = .ok (.ladd, 1) := by decide +kernel
theorem dT_divide_79 : decode cT_divide 79 = .ok (.ldc2_w 38, 3) := by decide +kernel
theorem dT_divide_82 : decode cT_divide 82 = .ok (.lrem, 1) := by decide +kernel
theorem dT_divide_83 : decode cT_divide 83 = .ok (.lastore, 1) := by decide +kernel
theorem dT_divide_84 : decode cT_divide 84 = .ok (.iinc 3 1, 3) := by decide +kernel
theorem dT_divide_87 : decode cT_divide 87 = .ok (.goto (-45), 3) := by decide +kernel
theorem dT_divide_90 : decode cT_divide 90 = .ok (.iinc 2 1, 3) := by decide +kernel
theorem dT_divide_93 : decode cT_divide 93 = .ok (.goto (-58), 3) := by decide +kernel
theorem dT_divide_96 : decode cT_divide 96 = .ok (.iconst 0, 1) := by decide +kernel
theorem dT_divide_97 : decode cT_divide 97 = .ok (.istore_n 2, 1) := by decide +kernel
theorem dT_divide_98 : decode cT_divide 98 = .ok (.iload_n 2, 1) := by decide +kernel
theorem dT_divide_99 : decode cT_divide 99 = .ok (.iload_n 1, 1) := by decide +kernel
theorem dT_divide_100 : decode cT_divide 100 = .ok (.if_icmp .ge 33, 3) := by decide +kernel
theorem dT_divide_103 : decode cT_divide 103 = .ok (.aload_n 0, 1) := by decide +kernel
theorem dT_divide_104 : decode cT_divide 104 = .ok (.getfield 31, 3) := by decide +kernel
theorem dT_divide_107 : decode cT_divide 107 = .ok (.iload_n 2, 1) := by decide +kernel
theorem dT_divide_108 : decode cT_divide 108 = .ok (.aload_n 0, 1) := by decide +kernel
theorem dT_divide_109 : decode cT_divide 109 = .ok (.getfield 31, 3) := by decide +kernel
theorem dT_divide_112 : decode cT_divide 112 = .ok (.iload_n 2, 1) := by decide +kernel
theorem dT_divide_113 : decode cT_divide 113 = .ok (.laload, 1) := by decide +kernel
theorem dT_divide_114 : decode cT_divide 114 = .ok (.aload_n 0, 1) := by decide +kernel
theorem dT_divide_115 : decode cT_divide 115 = .ok (.getfield 28, 3) := by decide +kernel
theorem dT_divide_118 : decode cT_divide 118 = .ok (.bipush 32, 2) := by decide +kernel
theorem dT_divide_120 : decode cT_divide 120 = .ok (.iload_n 2, 1) := by decide +kernel
theorem dT_divide_121 : decode cT_divide 121 = .ok (.iadd, 1) := by decide +kernel
theorem dT_divide_122 : decode cT_divide 122 = .ok (.laload, 1) := by decide +kernel
theorem dT_divide_123 : decode cT_divide 123 = .ok (.invokestatic 87, 3) := by decide +kernel
theorem dT_divide_126 : decode cT_divide 126 = .ok (.lastore, 1) := by decide +kernel
theorem dT_divide_127 : decode cT_divide 127 = .ok (.iinc 2 1, 3) := by decide +kernel
theorem dT_divide_130 : decode cT_divide 130 = .ok (.goto (-32), 3) := by decide +kernel
theorem dT_divide_133 : decode cT_divide 133 = .ok (.iconst 2, 1) := by decide +kernel
theorem dT_divide_134 : decode cT_divide 134 = .ok (.iload_n 1, 1) := by decide +kernel
theorem dT_divide_135 : decode cT_divide 135 = .ok (.imul, 1) := by decide +kernel
theorem dT_divide_136 : decode cT_divide 136 = .ok (.iconst 1, 1) := by decide +kernel
theorem dT_divide_137 : decode cT_divide 137 = .ok (.isub, 1) := by decide +kernel
theorem dT_divide_138 : decode cT_divide 138 = .ok (.istore_n 2, 1) := by decide +kernel
theorem dT_divide_139 : decode cT_divide 139 = .ok (.iload_n 2, 1) := by decide +kernel
theorem dT_divide_140 : decode cT_divide 140 = .ok (.iload_n 1, 1) := by decide +kernel
theorem dT_divide_141 : decode cT_divide 141 = .ok (.if_icmp .lt 54, 3) := by decide +kernel
theorem dT_divide_144 : decode cT_divide 144 = .ok (.aload_n 0, 1) := by decide +kernel
theorem dT_divide_145 : decode cT_divide 145 = .ok (.getfield 31, 3) := by decide +kernel
theorem dT_divide_148 : decode cT_divide 148 = .ok (.iload_n 2, 1) := by decide +kernel
theorem dT_divide_149 : decode cT_divide 149 = .ok (.laload, 1) := by decide +kernel
theorem dT_divide_150 : decode cT_divide 150 = .ok (.lstore_n 3, 1) := by decide +kernel
theorem dT_divide_151 : decode cT_divide 151 = .ok (.aload_n 0, 1) := by decide +kernel
theorem dT_divide_152 : decode cT_divide 152 = .ok (.getfield 25, 3) := by decide +kernel
theorem dT_divide_155 : decode cT_divide 155 = .ok (.iload_n 2, 1) := by decide +kernel
theorem dT_divide_156 : decode cT_divide 156 = .ok (.iload_n 1, 1) := by decide +kernel
theorem dT_divide_157 : decode cT_divide 157 = .ok (.isub, 1) := by decide +kernel
theorem dT_divide_158 : decode cT_divide 158 = .ok (.lload_n 3, 1) := by decide +kernel
theorem dT_divide_159 : decode cT_divide 159 = .ok (.lastore, 1) := by decide +kernel
theorem dT_divide_160 : decode cT_divide 160 = .ok (.aload_n 0, 1) := by decide +kernel
theorem dT_divide_161 : decode cT_divide 161 = .ok (.getfield 31, 3) := by decide +kernel
theorem dT_divide_164 : decode cT_divide 164 = .ok (.iload_n 2, 1) := by decide +kernel
theorem dT_divide_165 : decode cT_divide 165 = .ok (.lconst 0, 1) := by decide +kernel
theorem dT_divide_166 : decode cT_divide 166 = .ok (.lastore, 1) := by decide +kernel
theorem dT_divide_167 : decode cT_divide 167 = .ok (.aload_n 0, 1) := by decide +kernel
theorem dT_divide_168 : decode cT_divide 168 = .ok (.getfield 31, 3) := by decide +kernel
theorem dT_divide_171 : decode cT_divide 171 = .ok (.iload_n 2, 1) := by decide +kernel
theorem dT_divide_172 : decode cT_divide 172 = .ok (.iload_n 1, 1) := by decide +kernel
theorem dT_divide_173 : decode cT_divide 173 = .ok (.isub, 1) := by decide +kernel
theorem dT_divide_174 : decode cT_divide 174 = .ok (.aload_n 0, 1) := by decide +kernel
theorem dT_divide_175 : decode cT_divide 175 = .ok (.getfield 31, 3) := by decide +kernel
theorem dT_divide_178 : decode cT_divide 178 = .ok (.iload_n 2, 1) := by decide +kernel
theorem dT_divide_179 : decode cT_divide 179 = .ok (.iload_n 1, 1) := by decide +kernel
theorem dT_divide_180 : decode cT_divide 180 = .ok (.isub, 1) := by decide +kernel
theorem dT_divide_181 : decode cT_divide 181 = .ok (.laload, 1) := by decide +kernel
theorem dT_divide_182 : decode cT_divide 182 = .ok (.lload_n 3, 1) := by decide +kernel
theorem dT_divide_183 : decode cT_divide 183 = .ok (.ladd, 1) := by decide +kernel
theorem dT_divide_184 : decode cT_divide 184 = .ok (.ldc2_w 38, 3) := by decide +kernel
theorem dT_divide_187 : decode cT_divide 187 = .ok (.lrem, 1) := by decide +kernel
theorem dT_divide_188 : decode cT_divide 188 = .ok (.lastore, 1) := by decide +kernel
theorem dT_divide_189 : decode cT_divide 189 = .ok (.iinc 2 (-1), 3) := by decide +kernel
theorem dT_divide_192 : decode cT_divide 192 = .ok (.goto (-53), 3) := by decide +kernel
theorem dT_divide_195 : decode cT_divide 195 = .ok (.return_, 1) := by decide +kernel
theorem dT_firstOpen_0 : decode cT_firstOpen 0 = .ok (.iconst 0, 1) := by decide +kernel
theorem dT_firstOpen_1 : decode cT_firstOpen 1 = .ok (.istore_n 1, 1) := by decide +kernel
theorem dT_firstOpen_2 : decode cT_firstOpen 2 = .ok (.iload_n 1, 1) := by decide +kernel
theorem dT_firstOpen_3 : decode cT_firstOpen 3 = .ok (.aload_n 0, 1) := by decide +kernel
theorem dT_firstOpen_4 : decode cT_firstOpen 4 = .ok (.getfield 46, 3) := by decide +kernel
theorem dT_firstOpen_7 : decode cT_firstOpen 7 = .ok (.if_icmp .ge 40, 3) := by decide +kernel
theorem dT_firstOpen_10 : decode cT_firstOpen 10 = .ok (.aload_n 0, 1) := by decide +kernel
theorem dT_firstOpen_11 : decode cT_firstOpen 11 = .ok (.iload_n 1, 1) := by decide +kernel
theorem dT_firstOpen_12 : decode cT_firstOpen 12 = .ok (.iconst 0, 1) := by decide +kernel
theorem dT_firstOpen_13 : decode cT_firstOpen 13 = .ok (.invokevirtual 60, 3) := by decide +kernel
theorem dT_firstOpen_16 : decode cT_firstOpen 16 = .ok (.aload_n 0, 1) := by decide +kernel
theorem dT_firstOpen_17 : decode cT_firstOpen 17 = .ok (.iload_n 1, 1) := by decide +kernel
theorem dT_firstOpen_18 : decode cT_firstOpen 18 = .ok (.iconst 1, 1) := by decide +kernel
theorem dT_firstOpen_19 : decode cT_firstOpen 19 = .ok (.invokevirtual 60, 3) := by decide +kernel
theorem dT_firstOpen_22 : decode cT_firstOpen 22 = .ok (.lmul, 1) := by decide +kernel
theorem dT_firstOpen_23 : decode cT_firstOpen 23 = .ok (.ldc2_w 38, 3) := by decide +kernel
theorem dT_firstOpen_26 : decode cT_firstOpen 26 = .ok (.lrem, 1) := by decide +kernel
theorem dT_firstOpen_27 : decode cT_firstOpen 27 = .ok (.lstore_n 2, 1) := by decide +kernel
theorem dT_firstOpen_28 : decode cT_firstOpen 28 = .ok (.lload_n 2, 1) := by decide +kernel
theorem dT_firstOpen_29 : decode cT_firstOpen 29 = .ok (.aload_n 0, 1) := by decide +kernel
theorem dT_firstOpen_30 : decode cT_firstOpen 30 = .ok (.iload_n 1, 1) := by decide +kernel
theorem dT_firstOpen_31 : decode cT_firstOpen 31 = .ok (.iconst 2, 1) := by decide +kernel
theorem dT_firstOpen_32 : decode cT_firstOpen 32 = .ok (.invokevirtual 60, 3) := by decide +kernel
theorem dT_firstOpen_35 : decode cT_firstOpen 35 = .ok (.lcmp, 1) := by decide +kernel
theorem dT_firstOpen_36 : decode cT_firstOpen 36 = .ok (.ifCond .eq 5, 3) := by decide +kernel
theorem dT_firstOpen_39 : decode cT_firstOpen 39 = .ok (.iload_n 1, 1) := by decide +kernel
theorem dT_firstOpen_40 : decode cT_firstOpen 40 = .ok (.ireturn, 1) := by decide +kernel
theorem dT_firstOpen_41 : decode cT_firstOpen 41 = .ok (.iinc 1 1, 3) := by decide +kernel
theorem dT_firstOpen_44 : decode cT_firstOpen 44 = .ok (.goto (-42), 3) := by decide +kernel
theorem dT_firstOpen_47 : decode cT_firstOpen 47 = .ok (.iconst (-1), 1) := by decide +kernel
theorem dT_firstOpen_48 : decode cT_firstOpen 48 = .ok (.ireturn, 1) := by decide +kernel
theorem dT_input_0 : decode cT_input 0 = .ok (.aload_n 0, 1) := by decide +kernel
theorem dT_input_1 : decode cT_input 1 = .ok (.iload_n 1, 1) := by decide +kernel
theorem dT_input_2 : decode cT_input 2 = .ok (.iconst 1, 1) := by decide +kernel
theorem dT_input_3 : decode cT_input 3 = .ok (.if_icmp .lt 16, 3) := by decide +kernel
theorem dT_input_6 : decode cT_input 6 = .ok (.iload_n 1, 1) := by decide +kernel
theorem dT_input_7 : decode cT_input 7 = .ok (.bipush 6, 2) := by decide +kernel
theorem dT_input_9 : decode cT_input 9 = .ok (.if_icmp .gt 10, 3) := by decide +kernel
theorem dT_input_12 : decode cT_input 12 = .ok (.iload_n 2, 1) := by decide +kernel
theorem dT_input_13 : decode cT_input 13 = .ok (.invokestatic 49, 3) := by decide +kernel
theorem dT_input_16 : decode cT_input 16 = .ok (.ifCond .ne 7, 3) := by decide +kernel
theorem dT_input_19 : decode cT_input 19 = .ok (.iconst 1, 1) := by decide +kernel
theorem dT_input_20 : decode cT_input 20 = .ok (.goto 4, 3) := by decide +kernel
theorem dT_input_23 : decode cT_input 23 = .ok (.iconst 0, 1) := by decide +kernel
theorem dT_input_24 : decode cT_input 24 = .ok (.putfield 34, 3) := by decide +kernel
theorem dT_input_27 : decode cT_input 27 = .ok (.aload_n 0, 1) := by decide +kernel
theorem dT_input_28 : decode cT_input 28 = .ok (.getfield 34, 3) := by decide +kernel
theorem dT_input_31 : decode cT_input 31 = .ok (.ifCond .le 5, 3) := by decide +kernel
theorem dT_input_34 : decode cT_input 34 = .ok (.iconst 0, 1) := by decide +kernel
theorem dT_input_35 : decode cT_input 35 = .ok (.ireturn, 1) := by decide +kernel
theorem dT_input_36 : decode cT_input 36 = .ok (.aload_n 0, 1) := by decide +kernel
theorem dT_input_37 : decode cT_input 37 = .ok (.getfield 16, 3) := by decide +kernel
theorem dT_input_40 : decode cT_input 40 = .ok (.iload_n 1, 1) := by decide +kernel
theorem dT_input_41 : decode cT_input 41 = .ok (.iload_n 2, 1) := by decide +kernel
theorem dT_input_42 : decode cT_input 42 = .ok (.i2l, 1) := by decide +kernel
theorem dT_input_43 : decode cT_input 43 = .ok (.lastore, 1) := by decide +kernel
theorem dT_input_44 : decode cT_input 44 = .ok (.iconst 1, 1) := by decide +kernel
theorem dT_input_45 : decode cT_input 45 = .ok (.ireturn, 1) := by decide +kernel
theorem dT_inverse_0 : decode cT_inverse 0 = .ok (.lload_n 0, 1) := by decide +kernel
theorem dT_inverse_1 : decode cT_inverse 1 = .ok (.ldc2_w 40, 3) := by decide +kernel
theorem dT_inverse_4 : decode cT_inverse 4 = .ok (.invokestatic 42, 3) := by decide +kernel
theorem dT_inverse_7 : decode cT_inverse 7 = .ok (.lreturn, 1) := by decide +kernel
theorem dT_isNumber_0 : decode cT_isNumber 0 = .ok (.iload_n 0, 1) := by decide +kernel
theorem dT_isNumber_1 : decode cT_isNumber 1 = .ok (.ifCond .lt 16, 3) := by decide +kernel
theorem dT_isNumber_4 : decode cT_isNumber 4 = .ok (.iload_n 0, 1) := by decide +kernel
theorem dT_isNumber_5 : decode cT_isNumber 5 = .ok (.i2l, 1) := by decide +kernel
theorem dT_isNumber_6 : decode cT_isNumber 6 = .ok (.ldc2_w 38, 3) := by decide +kernel
theorem dT_isNumber_9 : decode cT_isNumber 9 = .ok (.lcmp, 1) := by decide +kernel
theorem dT_isNumber_10 : decode cT_isNumber 10 = .ok (.ifCond .ge 7, 3) := by decide +kernel
theorem dT_isNumber_13 : decode cT_isNumber 13 = .ok (.iconst 1, 1) := by decide +kernel
theorem dT_isNumber_14 : decode cT_isNumber 14 = .ok (.goto 4, 3) := by decide +kernel
theorem dT_isNumber_17 : decode cT_isNumber 17 = .ok (.iconst 0, 1) := by decide +kernel
theorem dT_isNumber_18 : decode cT_isNumber 18 = .ok (.ireturn, 1) := by decide +kernel
theorem dT_key_0 : decode cT_key 0 = .ok (.aload_n 0, 1) := by decide +kernel
theorem dT_key_1 : decode cT_key 1 = .ok (.iconst 0, 1) := by decide +kernel
theorem dT_key_2 : decode cT_key 2 = .ok (.putfield 34, 3) := by decide +kernel
theorem dT_key_5 : decode cT_key 5 = .ok (.aload_n 0, 1) := by decide +kernel
theorem dT_key_6 : decode cT_key 6 = .ok (.getfield 53, 3) := by decide +kernel
theorem dT_key_9 : decode cT_key 9 = .ok (.ifCond .eq 7, 3) := by decide +kernel
theorem dT_key_12 : decode cT_key 12 = .ok (.iload_n 2, 1) := by decide +kernel
theorem dT_key_13 : decode cT_key 13 = .ok (.ifCond .ge 5, 3) := by decide +kernel
theorem dT_key_16 : decode cT_key 16 = .ok (.iconst (-1), 1) := by decide +kernel
theorem dT_key_17 : decode cT_key 17 = .ok (.ireturn, 1) := by decide +kernel
theorem dT_key_18 : decode cT_key 18 = .ok (.iload_n 1, 1) := by decide +kernel
theorem dT_key_19 : decode cT_key 19 = .ok (.tableswitch 139 0 2 #[25, 48, 93], 25) := by decide +kernel
theorem dT_key_44 : decode cT_key 44 = .ok (.iload_n 2, 1) := by decide +kernel
theorem dT_key_45 : decode cT_key 45 = .ok (.aload_n 0, 1) := by decide +kernel
theorem dT_key_46 : decode cT_key 46 = .ok (.invokevirtual 68, 3) := by decide +kernel
theorem dT_key_49 : decode cT_key 49 = .ok (.if_icmp .lt 7, 3) := by decide +kernel
theorem dT_key_52 : decode cT_key 52 = .ok (.iconst (-1), 1) := by decide +kernel
theorem dT_key_53 : decode cT_key 53 = .ok (.goto 13, 3) := by decide +kernel
theorem dT_key_56 : decode cT_key 56 = .ok (.aload_n 0, 1) := by decide +kernel
theorem dT_key_57 : decode cT_key 57 = .ok (.getfield 83, 3) := by decide +kernel
theorem dT_key_60 : decode cT_key 60 = .ok (.iload_n 2, 1) := by decide +kernel
theorem dT_key_61 : decode cT_key 61 = .ok (.i2l, 1) := by decide +kernel
theorem dT_key_62 : decode cT_key 62 = .ok (.invokestatic 42, 3) := by decide +kernel
theorem dT_key_65 : decode cT_key 65 = .ok (.l2i, 1) := by decide +kernel
theorem dT_key_66 : decode cT_key 66 = .ok (.ireturn, 1) := by decide +kernel
theorem dT_key_67 : decode cT_key 67 = .ok (.iload_n 2, 1) := by decide +kernel
theorem dT_key_68 : decode cT_key 68 = .ok (.bipush 15, 2) := by decide +kernel
theorem dT_key_70 : decode cT_key 70 = .ok (.if_icmp .le 7, 3) := by decide +kernel
theorem dT_key_73 : decode cT_key 73 = .ok (.iconst (-1), 1) := by decide +kernel
theorem dT_key_74 : decode cT_key 74 = .ok (.goto 37, 3) := by decide +kernel
theorem dT_key_77 : decode cT_key 77 = .ok (.aload_n 0, 1) := by decide +kernel
theorem dT_key_78 : decode cT_key 78 = .ok (.getfield 19, 3) := by decide +kernel
theorem dT_key_81 : decode cT_key 81 = .ok (.iload_n 2, 1) := by decide +kernel
theorem dT_key_82 : decode cT_key 82 = .ok (.laload, 1) := by decide +kernel
theorem dT_key_83 : decode cT_key 83 = .ok (.iload_n 2, 1) := by decide +kernel
theorem dT_key_84 : decode cT_key 84 = .ok (.aload_n 0, 1) := by decide +kernel
theorem dT_key_85 : decode cT_key 85 = .ok (.getfield 57, 3) := by decide +kernel
theorem dT_key_88 : decode cT_key 88 = .ok (.if_icmp .gt 10, 3) := by decide +kernel
theorem dT_key_91 : decode cT_key 91 = .ok (.aload_n 0, 1) := by decide +kernel
theorem dT_key_92 : decode cT_key 92 = .ok (.getfield 96, 3) := by decide +kernel
theorem dT_key_95 : decode cT_key 95 = .ok (.goto 7, 3) := by decide +kernel
theorem dT_key_98 : decode cT_key 98 = .ok (.aload_n 0, 1) := by decide +kernel
theorem dT_key_99 : decode cT_key 99 = .ok (.getfield 99, 3) := by decide +kernel
theorem dT_key_102 : decode cT_key 102 = .ok (.invokestatic 75, 3) := by decide +kernel
theorem dT_key_105 : decode cT_key 105 = .ok (.lmul, 1) := by decide +kernel
theorem dT_key_106 : decode cT_key 106 = .ok (.ldc2_w 38, 3) := by decide +kernel
theorem dT_key_109 : decode cT_key 109 = .ok (.lrem, 1) := by decide +kernel
theorem dT_key_110 : decode cT_key 110 = .ok (.l2i, 1) := by decide +kernel
theorem dT_key_111 : decode cT_key 111 = .ok (.ireturn, 1) := by decide +kernel
theorem dT_key_112 : decode cT_key 112 = .ok (.iload_n 2, 1) := by decide +kernel
theorem dT_key_113 : decode cT_key 113 = .ok (.aload_n 0, 1) := by decide +kernel
theorem dT_key_114 : decode cT_key 114 = .ok (.invokevirtual 68, 3) := by decide +kernel
theorem dT_key_117 : decode cT_key 117 = .ok (.iconst 2, 1) := by decide +kernel
theorem dT_key_118 : decode cT_key 118 = .ok (.isub, 1) := by decide +kernel
theorem dT_key_119 : decode cT_key 119 = .ok (.if_icmp .le 7, 3) := by decide +kernel
theorem dT_key_122 : decode cT_key 122 = .ok (.iconst (-1), 1) := by decide +kernel
theorem dT_key_123 : decode cT_key 123 = .ok (.goto 34, 3) := by decide +kernel
theorem dT_key_126 : decode cT_key 126 = .ok (.aload_n 0, 1) := by decide +kernel
theorem dT_key_127 : decode cT_key 127 = .ok (.getfield 83, 3) := by decide +kernel
theorem dT_key_130 : decode cT_key 130 = .ok (.iload_n 2, 1) := by decide +kernel
theorem dT_key_131 : decode cT_key 131 = .ok (.i2l, 1) := by decide +kernel
theorem dT_key_132 : decode cT_key 132 = .ok (.invokestatic 42, 3) := by decide +kernel
theorem dT_key_135 : decode cT_key 135 = .ok (.aload_n 0, 1) := by decide +kernel
theorem dT_key_136 : decode cT_key 136 = .ok (.getfield 102, 3) := by decide +kernel
theorem dT_key_139 : decode cT_key 139 = .ok (.lmul, 1) := by decide +kernel
theorem dT_key_140 : decode cT_key 140 = .ok (.ldc2_w 38, 3) := by decide +kernel
theorem dT_key_143 : decode cT_key 143 = .ok (.lrem, 1) := by decide +kernel
theorem dT_key_144 : decode cT_key 144 = .ok (.aload_n 0, 1) := by decide +kernel
theorem dT_key_145 : decode cT_key 145 = .ok (.getfield 99, 3) := by decide +kernel
theorem dT_key_148 : decode cT_key 148 = .ok (.invokestatic 75, 3) := by decide +kernel
theorem dT_key_151 : decode cT_key 151 = .ok (.lmul, 1) := by decide +kernel
theorem dT_key_152 : decode cT_key 152 = .ok (.ldc2_w 38, 3) := by decide +kernel
theorem dT_key_155 : decode cT_key 155 = .ok (.lrem, 1) := by decide +kernel
theorem dT_key_156 : decode cT_key 156 = .ok (.l2i, 1) := by decide +kernel
theorem dT_key_157 : decode cT_key 157 = .ok (.ireturn, 1) := by decide +kernel
theorem dT_key_158 : decode cT_key 158 = .ok (.iconst (-1), 1) := by decide +kernel
theorem dT_key_159 : decode cT_key 159 = .ok (.ireturn, 1) := by decide +kernel
theorem dT_less_0 : decode cT_less 0 = .ok (.lload_n 0, 1) := by decide +kernel
theorem dT_less_1 : decode cT_less 1 = .ok (.lload_n 2, 1) := by decide +kernel
theorem dT_less_2 : decode cT_less 2 = .ok (.lsub, 1) := by decide +kernel
theorem dT_less_3 : decode cT_less 3 = .ok (.ldc2_w 38, 3) := by decide +kernel
theorem dT_less_6 : decode cT_less 6 = .ok (.ladd, 1) := by decide +kernel
theorem dT_less_7 : decode cT_less 7 = .ok (.ldc2_w 38, 3) := by decide +kernel
theorem dT_less_10 : decode cT_less 10 = .ok (.lrem, 1) := by decide +kernel
theorem dT_less_11 : decode cT_less 11 = .ok (.lreturn, 1) := by decide +kernel
theorem dT_open_0 : decode cT_open 0 = .ok (.aload_n 0, 1) := by decide +kernel
theorem dT_open_1 : decode cT_open 1 = .ok (.iconst 0, 1) := by decide +kernel
theorem dT_open_2 : decode cT_open 2 = .ok (.putfield 34, 3) := by decide +kernel
theorem dT_open_5 : decode cT_open 5 = .ok (.aload_n 0, 1) := by decide +kernel
theorem dT_open_6 : decode cT_open 6 = .ok (.invokevirtual 64, 3) := by decide +kernel
theorem dT_open_9 : decode cT_open 9 = .ok (.ireturn, 1) := by decide +kernel
theorem dT_polynomial_0 : decode cT_polynomial 0 = .ok (.aload_n 0, 1) := by decide +kernel
theorem dT_polynomial_1 : decode cT_polynomial 1 = .ok (.iconst 0, 1) := by decide +kernel
theorem dT_polynomial_2 : decode cT_polynomial 2 = .ok (.putfield 34, 3) := by decide +kernel
theorem dT_polynomial_5 : decode cT_polynomial 5 = .ok (.iload_n 1, 1) := by decide +kernel
theorem dT_polynomial_6 : decode cT_polynomial 6 = .ok (.ifCond .lt 30, 3) := by decide +kernel
theorem dT_polynomial_9 : decode cT_polynomial 9 = .ok (.iload_n 1, 1) := by decide +kernel
theorem dT_polynomial_10 : decode cT_polynomial 10 = .ok (.iconst 2, 1) := by decide +kernel
theorem dT_polynomial_11 : decode cT_polynomial 11 = .ok (.if_icmp .gt 25, 3) := by decide +kernel
theorem dT_polynomial_14 : decode cT_polynomial 14 = .ok (.iload_n 2, 1) := by decide +kernel
theorem dT_polynomial_15 : decode cT_polynomial 15 = .ok (.ifCond .lt 21, 3) := by decide +kernel
theorem dT_polynomial_18 : decode cT_polynomial 18 = .ok (.iload_n 2, 1) := by decide +kernel
theorem dT_polynomial_19 : decode cT_polynomial 19 = .ok (.bipush 15, 2) := by decide +kernel
theorem dT_polynomial_21 : decode cT_polynomial 21 = .ok (.if_icmp .gt 15, 3) := by decide +kernel
theorem dT_polynomial_24 : decode cT_polynomial 24 = .ok (.iload_n 3, 1) := by decide +kernel
theorem dT_polynomial_25 : decode cT_polynomial 25 = .ok (.ifCond .lt 11, 3) := by decide +kernel
theorem dT_polynomial_28 : decode cT_polynomial 28 = .ok (.iload_n 3, 1) := by decide +kernel
theorem dT_polynomial_29 : decode cT_polynomial 29 = .ok (.aload_n 0, 1) := by decide +kernel
theorem dT_polynomial_30 : decode cT_polynomial 30 = .ok (.invokevirtual 68, 3) := by decide +kernel
theorem dT_polynomial_33 : decode cT_polynomial 33 = .ok (.if_icmp .lt 7, 3) := by decide +kernel
theorem dT_polynomial_36 : decode cT_polynomial 36 = .ok (.iconst (-1), 1) := by decide +kernel
theorem dT_polynomial_37 : decode cT_polynomial 37 = .ok (.goto 11, 3) := by decide +kernel
theorem dT_polynomial_40 : decode cT_polynomial 40 = .ok (.aload_n 0, 1) := by decide +kernel
theorem dT_polynomial_41 : decode cT_polynomial 41 = .ok (.iload_n 1, 1) := by decide +kernel
theorem dT_polynomial_42 : decode cT_polynomial 42 = .ok (.iload_n 2, 1) := by decide +kernel
theorem dT_polynomial_43 : decode cT_polynomial 43 = .ok (.iload_n 3, 1) := by decide +kernel
theorem dT_polynomial_44 : decode cT_polynomial 44 = .ok (.invokevirtual 79, 3) := by decide +kernel
theorem dT_polynomial_47 : decode cT_polynomial 47 = .ok (.l2i, 1) := by decide +kernel
theorem dT_polynomial_48 : decode cT_polynomial 48 = .ok (.ireturn, 1) := by decide +kernel
theorem dT_power_0 : decode cT_power 0 = .ok (.lconst 1, 1) := by decide +kernel
theorem dT_power_1 : decode cT_power 1 = .ok (.lstore 4, 2) := by decide +kernel
theorem dT_power_3 : decode cT_power 3 = .ok (.lload_n 0, 1) := by decide +kernel
theorem dT_power_4 : decode cT_power 4 = .ok (.lstore 6, 2) := by decide +kernel
theorem dT_power_6 : decode cT_power 6 = .ok (.iconst 0, 1) := by decide +kernel
theorem dT_power_7 : decode cT_power 7 = .ok (.istore 8, 2) := by decide +kernel
theorem dT_power_9 : decode cT_power 9 = .ok (.iload 8, 2) := by decide +kernel
theorem dT_power_11 : decode cT_power 11 = .ok (.bipush 30, 2) := by decide +kernel
theorem dT_power_13 : decode cT_power 13 = .ok (.if_icmp .ge 47, 3) := by decide +kernel
theorem dT_power_16 : decode cT_power 16 = .ok (.lload_n 2, 1) := by decide +kernel
theorem dT_power_17 : decode cT_power 17 = .ok (.iload 8, 2) := by decide +kernel
theorem dT_power_19 : decode cT_power 19 = .ok (.lshr, 1) := by decide +kernel
theorem dT_power_20 : decode cT_power 20 = .ok (.lconst 1, 1) := by decide +kernel
theorem dT_power_21 : decode cT_power 21 = .ok (.land, 1) := by decide +kernel
theorem dT_power_22 : decode cT_power 22 = .ok (.lconst 1, 1) := by decide +kernel
theorem dT_power_23 : decode cT_power 23 = .ok (.lcmp, 1) := by decide +kernel
theorem dT_power_24 : decode cT_power 24 = .ok (.ifCond .ne 15, 3) := by decide +kernel
theorem dT_power_27 : decode cT_power 27 = .ok (.lload 4, 2) := by decide +kernel
theorem dT_power_29 : decode cT_power 29 = .ok (.lload 6, 2) := by decide +kernel
theorem dT_power_31 : decode cT_power 31 = .ok (.lmul, 1) := by decide +kernel
theorem dT_power_32 : decode cT_power 32 = .ok (.ldc2_w 38, 3) := by decide +kernel
theorem dT_power_35 : decode cT_power 35 = .ok (.lrem, 1) := by decide +kernel
theorem dT_power_36 : decode cT_power 36 = .ok (.goto 5, 3) := by decide +kernel
theorem dT_power_39 : decode cT_power 39 = .ok (.lload 4, 2) := by decide +kernel
theorem dT_power_41 : decode cT_power 41 = .ok (.lstore 4, 2) := by decide +kernel
theorem dT_power_43 : decode cT_power 43 = .ok (.lload 6, 2) := by decide +kernel
theorem dT_power_45 : decode cT_power 45 = .ok (.lload 6, 2) := by decide +kernel
theorem dT_power_47 : decode cT_power 47 = .ok (.lmul, 1) := by decide +kernel
theorem dT_power_48 : decode cT_power 48 = .ok (.ldc2_w 38, 3) := by decide +kernel
theorem dT_power_51 : decode cT_power 51 = .ok (.lrem, 1) := by decide +kernel
theorem dT_power_52 : decode cT_power 52 = .ok (.lstore 6, 2) := by decide +kernel
theorem dT_power_54 : decode cT_power 54 = .ok (.iinc 8 1, 3) := by decide +kernel
theorem dT_power_57 : decode cT_power 57 = .ok (.goto (-48), 3) := by decide +kernel
theorem dT_power_60 : decode cT_power 60 = .ok (.lload 4, 2) := by decide +kernel
theorem dT_power_62 : decode cT_power 62 = .ok (.lreturn, 1) := by decide +kernel
theorem dT_proof_0 : decode cT_proof 0 = .ok (.aload_n 0, 1) := by decide +kernel
theorem dT_proof_1 : decode cT_proof 1 = .ok (.iconst 0, 1) := by decide +kernel
theorem dT_proof_2 : decode cT_proof 2 = .ok (.putfield 34, 3) := by decide +kernel
theorem dT_proof_5 : decode cT_proof 5 = .ok (.aload_n 0, 1) := by decide +kernel
theorem dT_proof_6 : decode cT_proof 6 = .ok (.getfield 119, 3) := by decide +kernel
theorem dT_proof_9 : decode cT_proof 9 = .ok (.ifCond .eq 12, 3) := by decide +kernel
theorem dT_proof_12 : decode cT_proof 12 = .ok (.iload_n 1, 1) := by decide +kernel
theorem dT_proof_13 : decode cT_proof 13 = .ok (.ifCond .lt 8, 3) := by decide +kernel
theorem dT_proof_16 : decode cT_proof 16 = .ok (.iload_n 1, 1) := by decide +kernel
theorem dT_proof_17 : decode cT_proof 17 = .ok (.iconst 2, 1) := by decide +kernel
theorem dT_proof_18 : decode cT_proof 18 = .ok (.if_icmp .le 7, 3) := by decide +kernel
theorem dT_proof_21 : decode cT_proof 21 = .ok (.iconst (-1), 1) := by decide +kernel
theorem dT_proof_22 : decode cT_proof 22 = .ok (.goto 10, 3) := by decide +kernel
theorem dT_proof_25 : decode cT_proof 25 = .ok (.aload_n 0, 1) := by decide +kernel
theorem dT_proof_26 : decode cT_proof 26 = .ok (.getfield 22, 3) := by decide +kernel
theorem dT_proof_29 : decode cT_proof 29 = .ok (.iload_n 1, 1) := by decide +kernel
theorem dT_proof_30 : decode cT_proof 30 = .ok (.laload, 1) := by decide +kernel
theorem dT_proof_31 : decode cT_proof 31 = .ok (.l2i, 1) := by decide +kernel
theorem dT_proof_32 : decode cT_proof 32 = .ok (.ireturn, 1) := by decide +kernel
theorem dT_prove_0 : decode cT_prove 0 = .ok (.aload_n 0, 1) := by decide +kernel
theorem dT_prove_1 : decode cT_prove 1 = .ok (.iload_n 1, 1) := by decide +kernel
theorem dT_prove_2 : decode cT_prove 2 = .ok (.invokestatic 49, 3) := by decide +kernel
theorem dT_prove_5 : decode cT_prove 5 = .ok (.ifCond .eq 10, 3) := by decide +kernel
theorem dT_prove_8 : decode cT_prove 8 = .ok (.iload_n 2, 1) := by decide +kernel
theorem dT_prove_9 : decode cT_prove 9 = .ok (.invokestatic 49, 3) := by decide +kernel
theorem dT_prove_12 : decode cT_prove 12 = .ok (.ifCond .ne 7, 3) := by decide +kernel
theorem dT_prove_15 : decode cT_prove 15 = .ok (.iconst 1, 1) := by decide +kernel
theorem dT_prove_16 : decode cT_prove 16 = .ok (.goto 27, 3) := by decide +kernel
theorem dT_prove_19 : decode cT_prove 19 = .ok (.aload_n 0, 1) := by decide +kernel
theorem dT_prove_20 : decode cT_prove 20 = .ok (.getfield 53, 3) := by decide +kernel
theorem dT_prove_23 : decode cT_prove 23 = .ok (.ifCond .ne 7, 3) := by decide +kernel
theorem dT_prove_26 : decode cT_prove 26 = .ok (.iconst 2, 1) := by decide +kernel
theorem dT_prove_27 : decode cT_prove 27 = .ok (.goto 16, 3) := by decide +kernel
theorem dT_prove_30 : decode cT_prove 30 = .ok (.aload_n 0, 1) := by decide +kernel
theorem dT_prove_31 : decode cT_prove 31 = .ok (.invokevirtual 64, 3) := by decide +kernel
theorem dT_prove_34 : decode cT_prove 34 = .ok (.iconst (-1), 1) := by decide +kernel
theorem dT_prove_35 : decode cT_prove 35 = .ok (.if_icmp .eq 7, 3) := by decide +kernel
theorem dT_prove_38 : decode cT_prove 38 = .ok (.iconst 3, 1) := by decide +kernel
theorem dT_prove_39 : decode cT_prove 39 = .ok (.goto 4, 3) := by decide +kernel
theorem dT_prove_42 : decode cT_prove 42 = .ok (.iconst 0, 1) := by decide +kernel
theorem dT_prove_43 : decode cT_prove 43 = .ok (.putfield 34, 3) := by decide +kernel
theorem dT_prove_46 : decode cT_prove 46 = .ok (.aload_n 0, 1) := by decide +kernel
theorem dT_prove_47 : decode cT_prove 47 = .ok (.getfield 34, 3) := by decide +kernel
end
section
theorem dT_prove_50 : decode cT_prove 50 = .ok (.ifCond .le 5, 3) := by decide +kernel
theorem dT_prove_53 : decode cT_prove 53 = .ok (.iconst 0, 1) := by decide +kernel
theorem dT_prove_54 : decode cT_prove 54 = .ok (.ireturn, 1) := by decide +kernel
theorem dT_prove_55 : decode cT_prove 55 = .ok (.aload_n 0, 1) := by decide +kernel
theorem dT_prove_56 : decode cT_prove 56 = .ok (.iconst 0, 1) := by decide +kernel
theorem dT_prove_57 : decode cT_prove 57 = .ok (.invokevirtual 108, 3) := by decide +kernel
theorem dT_prove_60 : decode cT_prove 60 = .ok (.aload_n 0, 1) := by decide +kernel
theorem dT_prove_61 : decode cT_prove 61 = .ok (.iconst 1, 1) := by decide +kernel
theorem dT_prove_62 : decode cT_prove 62 = .ok (.invokevirtual 108, 3) := by decide +kernel
theorem dT_prove_65 : decode cT_prove 65 = .ok (.aload_n 0, 1) := by decide +kernel
theorem dT_prove_66 : decode cT_prove 66 = .ok (.iconst 2, 1) := by decide +kernel
theorem dT_prove_67 : decode cT_prove 67 = .ok (.invokevirtual 108, 3) := by decide +kernel
theorem dT_prove_70 : decode cT_prove 70 = .ok (.aload_n 0, 1) := by decide +kernel
theorem dT_prove_71 : decode cT_prove 71 = .ok (.invokevirtual 112, 3) := by decide +kernel
theorem dT_prove_74 : decode cT_prove 74 = .ok (.lconst 0, 1) := by decide +kernel
theorem dT_prove_75 : decode cT_prove 75 = .ok (.lstore_n 3, 1) := by decide +kernel
theorem dT_prove_76 : decode cT_prove 76 = .ok (.iconst 0, 1) := by decide +kernel
theorem dT_prove_77 : decode cT_prove 77 = .ok (.istore 5, 2) := by decide +kernel
theorem dT_prove_79 : decode cT_prove 79 = .ok (.iload 5, 2) := by decide +kernel
theorem dT_prove_81 : decode cT_prove 81 = .ok (.bipush 16, 2) := by decide +kernel
theorem dT_prove_83 : decode cT_prove 83 = .ok (.if_icmp .ge 34, 3) := by decide +kernel
theorem dT_prove_86 : decode cT_prove 86 = .ok (.lload_n 3, 1) := by decide +kernel
theorem dT_prove_87 : decode cT_prove 87 = .ok (.aload_n 0, 1) := by decide +kernel
theorem dT_prove_88 : decode cT_prove 88 = .ok (.getfield 25, 3) := by decide +kernel
theorem dT_prove_91 : decode cT_prove 91 = .ok (.iload 5, 2) := by decide +kernel
theorem dT_prove_93 : decode cT_prove 93 = .ok (.laload, 1) := by decide +kernel
theorem dT_prove_94 : decode cT_prove 94 = .ok (.aload_n 0, 1) := by decide +kernel
theorem dT_prove_95 : decode cT_prove 95 = .ok (.getfield 83, 3) := by decide +kernel
theorem dT_prove_98 : decode cT_prove 98 = .ok (.iload 5, 2) := by decide +kernel
theorem dT_prove_100 : decode cT_prove 100 = .ok (.i2l, 1) := by decide +kernel
theorem dT_prove_101 : decode cT_prove 101 = .ok (.invokestatic 42, 3) := by decide +kernel
theorem dT_prove_104 : decode cT_prove 104 = .ok (.lmul, 1) := by decide +kernel
theorem dT_prove_105 : decode cT_prove 105 = .ok (.ladd, 1) := by decide +kernel
theorem dT_prove_106 : decode cT_prove 106 = .ok (.ldc2_w 38, 3) := by decide +kernel
theorem dT_prove_109 : decode cT_prove 109 = .ok (.lrem, 1) := by decide +kernel
theorem dT_prove_110 : decode cT_prove 110 = .ok (.lstore_n 3, 1) := by decide +kernel
theorem dT_prove_111 : decode cT_prove 111 = .ok (.iinc 5 1, 3) := by decide +kernel
theorem dT_prove_114 : decode cT_prove 114 = .ok (.goto (-35), 3) := by decide +kernel
theorem dT_prove_117 : decode cT_prove 117 = .ok (.aload_n 0, 1) := by decide +kernel
theorem dT_prove_118 : decode cT_prove 118 = .ok (.getfield 90, 3) := by decide +kernel
theorem dT_prove_121 : decode cT_prove 121 = .ok (.aload_n 0, 1) := by decide +kernel
theorem dT_prove_122 : decode cT_prove 122 = .ok (.iconst 0, 1) := by decide +kernel
theorem dT_prove_123 : decode cT_prove 123 = .ok (.invokevirtual 115, 3) := by decide +kernel
theorem dT_prove_126 : decode cT_prove 126 = .ok (.ladd, 1) := by decide +kernel
theorem dT_prove_127 : decode cT_prove 127 = .ok (.iload_n 1, 1) := by decide +kernel
theorem dT_prove_128 : decode cT_prove 128 = .ok (.i2l, 1) := by decide +kernel
theorem dT_prove_129 : decode cT_prove 129 = .ok (.aload_n 0, 1) := by decide +kernel
theorem dT_prove_130 : decode cT_prove 130 = .ok (.getfield 99, 3) := by decide +kernel
theorem dT_prove_133 : decode cT_prove 133 = .ok (.lmul, 1) := by decide +kernel
theorem dT_prove_134 : decode cT_prove 134 = .ok (.ladd, 1) := by decide +kernel
theorem dT_prove_135 : decode cT_prove 135 = .ok (.ldc2_w 38, 3) := by decide +kernel
theorem dT_prove_138 : decode cT_prove 138 = .ok (.lrem, 1) := by decide +kernel
theorem dT_prove_139 : decode cT_prove 139 = .ok (.lstore 5, 2) := by decide +kernel
theorem dT_prove_141 : decode cT_prove 141 = .ok (.aload_n 0, 1) := by decide +kernel
theorem dT_prove_142 : decode cT_prove 142 = .ok (.getfield 93, 3) := by decide +kernel
theorem dT_prove_145 : decode cT_prove 145 = .ok (.aload_n 0, 1) := by decide +kernel
theorem dT_prove_146 : decode cT_prove 146 = .ok (.iconst 1, 1) := by decide +kernel
theorem dT_prove_147 : decode cT_prove 147 = .ok (.invokevirtual 115, 3) := by decide +kernel
theorem dT_prove_150 : decode cT_prove 150 = .ok (.ladd, 1) := by decide +kernel
theorem dT_prove_151 : decode cT_prove 151 = .ok (.iload_n 2, 1) := by decide +kernel
theorem dT_prove_152 : decode cT_prove 152 = .ok (.i2l, 1) := by decide +kernel
theorem dT_prove_153 : decode cT_prove 153 = .ok (.aload_n 0, 1) := by decide +kernel
theorem dT_prove_154 : decode cT_prove 154 = .ok (.getfield 99, 3) := by decide +kernel
theorem dT_prove_157 : decode cT_prove 157 = .ok (.lmul, 1) := by decide +kernel
theorem dT_prove_158 : decode cT_prove 158 = .ok (.ladd, 1) := by decide +kernel
theorem dT_prove_159 : decode cT_prove 159 = .ok (.ldc2_w 38, 3) := by decide +kernel
theorem dT_prove_162 : decode cT_prove 162 = .ok (.lrem, 1) := by decide +kernel
theorem dT_prove_163 : decode cT_prove 163 = .ok (.lstore 7, 2) := by decide +kernel
theorem dT_prove_165 : decode cT_prove 165 = .ok (.lload_n 3, 1) := by decide +kernel
theorem dT_prove_166 : decode cT_prove 166 = .ok (.aload_n 0, 1) := by decide +kernel
theorem dT_prove_167 : decode cT_prove 167 = .ok (.getfield 102, 3) := by decide +kernel
theorem dT_prove_170 : decode cT_prove 170 = .ok (.lmul, 1) := by decide +kernel
theorem dT_prove_171 : decode cT_prove 171 = .ok (.ldc2_w 38, 3) := by decide +kernel
theorem dT_prove_174 : decode cT_prove 174 = .ok (.lrem, 1) := by decide +kernel
theorem dT_prove_175 : decode cT_prove 175 = .ok (.lstore 9, 2) := by decide +kernel
theorem dT_prove_177 : decode cT_prove 177 = .ok (.aload_n 0, 1) := by decide +kernel
theorem dT_prove_178 : decode cT_prove 178 = .ok (.getfield 57, 3) := by decide +kernel
theorem dT_prove_181 : decode cT_prove 181 = .ok (.iconst 1, 1) := by decide +kernel
theorem dT_prove_182 : decode cT_prove 182 = .ok (.iadd, 1) := by decide +kernel
theorem dT_prove_183 : decode cT_prove 183 = .ok (.istore 11, 2) := by decide +kernel
theorem dT_prove_185 : decode cT_prove 185 = .ok (.iload 11, 2) := by decide +kernel
theorem dT_prove_187 : decode cT_prove 187 = .ok (.bipush 16, 2) := by decide +kernel
theorem dT_prove_189 : decode cT_prove 189 = .ok (.if_icmp .ge 33, 3) := by decide +kernel
theorem dT_prove_192 : decode cT_prove 192 = .ok (.lload 9, 2) := by decide +kernel
theorem dT_prove_194 : decode cT_prove 194 = .ok (.aload_n 0, 1) := by decide +kernel
theorem dT_prove_195 : decode cT_prove 195 = .ok (.getfield 13, 3) := by decide +kernel
theorem dT_prove_198 : decode cT_prove 198 = .ok (.iload 11, 2) := by decide +kernel
theorem dT_prove_200 : decode cT_prove 200 = .ok (.laload, 1) := by decide +kernel
theorem dT_prove_201 : decode cT_prove 201 = .ok (.aload_n 0, 1) := by decide +kernel
theorem dT_prove_202 : decode cT_prove 202 = .ok (.getfield 19, 3) := by decide +kernel
theorem dT_prove_205 : decode cT_prove 205 = .ok (.iload 11, 2) := by decide +kernel
theorem dT_prove_207 : decode cT_prove 207 = .ok (.laload, 1) := by decide +kernel
theorem dT_prove_208 : decode cT_prove 208 = .ok (.lmul, 1) := by decide +kernel
theorem dT_prove_209 : decode cT_prove 209 = .ok (.ladd, 1) := by decide +kernel
theorem dT_prove_210 : decode cT_prove 210 = .ok (.ldc2_w 38, 3) := by decide +kernel
theorem dT_prove_213 : decode cT_prove 213 = .ok (.lrem, 1) := by decide +kernel
theorem dT_prove_214 : decode cT_prove 214 = .ok (.lstore 9, 2) := by decide +kernel
theorem dT_prove_216 : decode cT_prove 216 = .ok (.iinc 11 1, 3) := by decide +kernel
theorem dT_prove_219 : decode cT_prove 219 = .ok (.goto (-34), 3) := by decide +kernel
theorem dT_prove_222 : decode cT_prove 222 = .ok (.lload 9, 2) := by decide +kernel
theorem dT_prove_224 : decode cT_prove 224 = .ok (.aload_n 0, 1) := by decide +kernel
theorem dT_prove_225 : decode cT_prove 225 = .ok (.getfield 99, 3) := by decide +kernel
theorem dT_prove_228 : decode cT_prove 228 = .ok (.invokestatic 75, 3) := by decide +kernel
theorem dT_prove_231 : decode cT_prove 231 = .ok (.lmul, 1) := by decide +kernel
theorem dT_prove_232 : decode cT_prove 232 = .ok (.ldc2_w 38, 3) := by decide +kernel
theorem dT_prove_235 : decode cT_prove 235 = .ok (.lrem, 1) := by decide +kernel
theorem dT_prove_236 : decode cT_prove 236 = .ok (.lstore 9, 2) := by decide +kernel
theorem dT_prove_238 : decode cT_prove 238 = .ok (.lload 9, 2) := by decide +kernel
theorem dT_prove_240 : decode cT_prove 240 = .ok (.lload 5, 2) := by decide +kernel
theorem dT_prove_242 : decode cT_prove 242 = .ok (.iload_n 2, 1) := by decide +kernel
theorem dT_prove_243 : decode cT_prove 243 = .ok (.i2l, 1) := by decide +kernel
theorem dT_prove_244 : decode cT_prove 244 = .ok (.lmul, 1) := by decide +kernel
theorem dT_prove_245 : decode cT_prove 245 = .ok (.ldc2_w 38, 3) := by decide +kernel
theorem dT_prove_248 : decode cT_prove 248 = .ok (.lrem, 1) := by decide +kernel
theorem dT_prove_249 : decode cT_prove 249 = .ok (.ladd, 1) := by decide +kernel
theorem dT_prove_250 : decode cT_prove 250 = .ok (.lload 7, 2) := by decide +kernel
theorem dT_prove_252 : decode cT_prove 252 = .ok (.iload_n 1, 1) := by decide +kernel
theorem dT_prove_253 : decode cT_prove 253 = .ok (.i2l, 1) := by decide +kernel
theorem dT_prove_254 : decode cT_prove 254 = .ok (.lmul, 1) := by decide +kernel
theorem dT_prove_255 : decode cT_prove 255 = .ok (.ldc2_w 38, 3) := by decide +kernel
theorem dT_prove_258 : decode cT_prove 258 = .ok (.lrem, 1) := by decide +kernel
theorem dT_prove_259 : decode cT_prove 259 = .ok (.ladd, 1) := by decide +kernel
theorem dT_prove_260 : decode cT_prove 260 = .ok (.ldc2_w 38, 3) := by decide +kernel
theorem dT_prove_263 : decode cT_prove 263 = .ok (.lrem, 1) := by decide +kernel
theorem dT_prove_264 : decode cT_prove 264 = .ok (.lstore 9, 2) := by decide +kernel
theorem dT_prove_266 : decode cT_prove 266 = .ok (.lload 9, 2) := by decide +kernel
theorem dT_prove_268 : decode cT_prove 268 = .ok (.iload_n 1, 1) := by decide +kernel
theorem dT_prove_269 : decode cT_prove 269 = .ok (.i2l, 1) := by decide +kernel
theorem dT_prove_270 : decode cT_prove 270 = .ok (.iload_n 2, 1) := by decide +kernel
theorem dT_prove_271 : decode cT_prove 271 = .ok (.i2l, 1) := by decide +kernel
theorem dT_prove_272 : decode cT_prove 272 = .ok (.lmul, 1) := by decide +kernel
theorem dT_prove_273 : decode cT_prove 273 = .ok (.ldc2_w 38, 3) := by decide +kernel
theorem dT_prove_276 : decode cT_prove 276 = .ok (.lrem, 1) := by decide +kernel
theorem dT_prove_277 : decode cT_prove 277 = .ok (.aload_n 0, 1) := by decide +kernel
theorem dT_prove_278 : decode cT_prove 278 = .ok (.getfield 99, 3) := by decide +kernel
theorem dT_prove_281 : decode cT_prove 281 = .ok (.lmul, 1) := by decide +kernel
theorem dT_prove_282 : decode cT_prove 282 = .ok (.ldc2_w 38, 3) := by decide +kernel
theorem dT_prove_285 : decode cT_prove 285 = .ok (.lrem, 1) := by decide +kernel
theorem dT_prove_286 : decode cT_prove 286 = .ok (.invokestatic 87, 3) := by decide +kernel
theorem dT_prove_289 : decode cT_prove 289 = .ok (.lstore 9, 2) := by decide +kernel
theorem dT_prove_291 : decode cT_prove 291 = .ok (.aload_n 0, 1) := by decide +kernel
theorem dT_prove_292 : decode cT_prove 292 = .ok (.getfield 22, 3) := by decide +kernel
theorem dT_prove_295 : decode cT_prove 295 = .ok (.iconst 0, 1) := by decide +kernel
theorem dT_prove_296 : decode cT_prove 296 = .ok (.lload 5, 2) := by decide +kernel
theorem dT_prove_298 : decode cT_prove 298 = .ok (.lastore, 1) := by decide +kernel
theorem dT_prove_299 : decode cT_prove 299 = .ok (.aload_n 0, 1) := by decide +kernel
theorem dT_prove_300 : decode cT_prove 300 = .ok (.getfield 22, 3) := by decide +kernel
theorem dT_prove_303 : decode cT_prove 303 = .ok (.iconst 1, 1) := by decide +kernel
theorem dT_prove_304 : decode cT_prove 304 = .ok (.lload 7, 2) := by decide +kernel
theorem dT_prove_306 : decode cT_prove 306 = .ok (.lastore, 1) := by decide +kernel
theorem dT_prove_307 : decode cT_prove 307 = .ok (.aload_n 0, 1) := by decide +kernel
theorem dT_prove_308 : decode cT_prove 308 = .ok (.getfield 22, 3) := by decide +kernel
theorem dT_prove_311 : decode cT_prove 311 = .ok (.iconst 2, 1) := by decide +kernel
theorem dT_prove_312 : decode cT_prove 312 = .ok (.lload 9, 2) := by decide +kernel
theorem dT_prove_314 : decode cT_prove 314 = .ok (.lastore, 1) := by decide +kernel
theorem dT_prove_315 : decode cT_prove 315 = .ok (.aload_n 0, 1) := by decide +kernel
theorem dT_prove_316 : decode cT_prove 316 = .ok (.iconst 1, 1) := by decide +kernel
theorem dT_prove_317 : decode cT_prove 317 = .ok (.putfield 119, 3) := by decide +kernel
theorem dT_prove_320 : decode cT_prove 320 = .ok (.iconst 1, 1) := by decide +kernel
theorem dT_prove_321 : decode cT_prove 321 = .ok (.ireturn, 1) := by decide +kernel
theorem dT_publics_0 : decode cT_publics 0 = .ok (.aload_n 0, 1) := by decide +kernel
theorem dT_publics_1 : decode cT_publics 1 = .ok (.iload_n 1, 1) := by decide +kernel
theorem dT_publics_2 : decode cT_publics 2 = .ok (.ifCond .lt 9, 3) := by decide +kernel
theorem dT_publics_5 : decode cT_publics 5 = .ok (.iload_n 1, 1) := by decide +kernel
theorem dT_publics_6 : decode cT_publics 6 = .ok (.bipush 6, 2) := by decide +kernel
theorem dT_publics_8 : decode cT_publics 8 = .ok (.if_icmp .le 7, 3) := by decide +kernel
theorem dT_publics_11 : decode cT_publics 11 = .ok (.iconst 1, 1) := by decide +kernel
theorem dT_publics_12 : decode cT_publics 12 = .ok (.goto 4, 3) := by decide +kernel
theorem dT_publics_15 : decode cT_publics 15 = .ok (.iconst 0, 1) := by decide +kernel
theorem dT_publics_16 : decode cT_publics 16 = .ok (.putfield 34, 3) := by decide +kernel
theorem dT_publics_19 : decode cT_publics 19 = .ok (.aload_n 0, 1) := by decide +kernel
theorem dT_publics_20 : decode cT_publics 20 = .ok (.getfield 34, 3) := by decide +kernel
theorem dT_publics_23 : decode cT_publics 23 = .ok (.ifCond .le 5, 3) := by decide +kernel
theorem dT_publics_26 : decode cT_publics 26 = .ok (.iconst 0, 1) := by decide +kernel
theorem dT_publics_27 : decode cT_publics 27 = .ok (.ireturn, 1) := by decide +kernel
theorem dT_publics_28 : decode cT_publics 28 = .ok (.aload_n 0, 1) := by decide +kernel
theorem dT_publics_29 : decode cT_publics 29 = .ok (.iload_n 1, 1) := by decide +kernel
theorem dT_publics_30 : decode cT_publics 30 = .ok (.putfield 57, 3) := by decide +kernel
theorem dT_publics_33 : decode cT_publics 33 = .ok (.aload_n 0, 1) := by decide +kernel
theorem dT_publics_34 : decode cT_publics 34 = .ok (.iconst 0, 1) := by decide +kernel
theorem dT_publics_35 : decode cT_publics 35 = .ok (.putfield 53, 3) := by decide +kernel
theorem dT_publics_38 : decode cT_publics 38 = .ok (.iconst 1, 1) := by decide +kernel
theorem dT_publics_39 : decode cT_publics 39 = .ok (.ireturn, 1) := by decide +kernel
theorem dT_quotient_0 : decode cT_quotient 0 = .ok (.aload_n 0, 1) := by decide +kernel
theorem dT_quotient_1 : decode cT_quotient 1 = .ok (.iconst 0, 1) := by decide +kernel
theorem dT_quotient_2 : decode cT_quotient 2 = .ok (.putfield 34, 3) := by decide +kernel
theorem dT_quotient_5 : decode cT_quotient 5 = .ok (.aload_n 0, 1) := by decide +kernel
theorem dT_quotient_6 : decode cT_quotient 6 = .ok (.getfield 119, 3) := by decide +kernel
theorem dT_quotient_9 : decode cT_quotient 9 = .ok (.ifCond .eq 13, 3) := by decide +kernel
theorem dT_quotient_12 : decode cT_quotient 12 = .ok (.iload_n 1, 1) := by decide +kernel
theorem dT_quotient_13 : decode cT_quotient 13 = .ok (.ifCond .lt 9, 3) := by decide +kernel
theorem dT_quotient_16 : decode cT_quotient 16 = .ok (.iload_n 1, 1) := by decide +kernel
theorem dT_quotient_17 : decode cT_quotient 17 = .ok (.bipush 15, 2) := by decide +kernel
theorem dT_quotient_19 : decode cT_quotient 19 = .ok (.if_icmp .le 7, 3) := by decide +kernel
theorem dT_quotient_22 : decode cT_quotient 22 = .ok (.iconst (-1), 1) := by decide +kernel
theorem dT_quotient_23 : decode cT_quotient 23 = .ok (.goto 10, 3) := by decide +kernel
theorem dT_quotient_26 : decode cT_quotient 26 = .ok (.aload_n 0, 1) := by decide +kernel
theorem dT_quotient_27 : decode cT_quotient 27 = .ok (.getfield 25, 3) := by decide +kernel
theorem dT_quotient_30 : decode cT_quotient 30 = .ok (.iload_n 1, 1) := by decide +kernel
theorem dT_quotient_31 : decode cT_quotient 31 = .ok (.laload, 1) := by decide +kernel
theorem dT_quotient_32 : decode cT_quotient 32 = .ok (.l2i, 1) := by decide +kernel
theorem dT_quotient_33 : decode cT_quotient 33 = .ok (.ireturn, 1) := by decide +kernel
theorem dT_setup_0 : decode cT_setup 0 = .ok (.iload_n 1, 1) := by decide +kernel
theorem dT_setup_1 : decode cT_setup 1 = .ok (.invokestatic 49, 3) := by decide +kernel
theorem dT_setup_4 : decode cT_setup 4 = .ok (.ifCond .eq 59, 3) := by decide +kernel
theorem dT_setup_7 : decode cT_setup 7 = .ok (.iload_n 2, 1) := by decide +kernel
theorem dT_setup_8 : decode cT_setup 8 = .ok (.invokestatic 49, 3) := by decide +kernel
theorem dT_setup_11 : decode cT_setup 11 = .ok (.ifCond .eq 52, 3) := by decide +kernel
theorem dT_setup_14 : decode cT_setup 14 = .ok (.iload_n 3, 1) := by decide +kernel
theorem dT_setup_15 : decode cT_setup 15 = .ok (.invokestatic 49, 3) := by decide +kernel
theorem dT_setup_18 : decode cT_setup 18 = .ok (.ifCond .eq 45, 3) := by decide +kernel
theorem dT_setup_21 : decode cT_setup 21 = .ok (.iload 4, 2) := by decide +kernel
theorem dT_setup_23 : decode cT_setup 23 = .ok (.invokestatic 49, 3) := by decide +kernel
theorem dT_setup_26 : decode cT_setup 26 = .ok (.ifCond .eq 37, 3) := by decide +kernel
theorem dT_setup_29 : decode cT_setup 29 = .ok (.iload 5, 2) := by decide +kernel
theorem dT_setup_31 : decode cT_setup 31 = .ok (.invokestatic 49, 3) := by decide +kernel
theorem dT_setup_34 : decode cT_setup 34 = .ok (.ifCond .eq 29, 3) := by decide +kernel
theorem dT_setup_37 : decode cT_setup 37 = .ok (.iload_n 1, 1) := by decide +kernel
theorem dT_setup_38 : decode cT_setup 38 = .ok (.ifCond .le 25, 3) := by decide +kernel
theorem dT_setup_41 : decode cT_setup 41 = .ok (.iload_n 2, 1) := by decide +kernel
theorem dT_setup_42 : decode cT_setup 42 = .ok (.ifCond .le 21, 3) := by decide +kernel
theorem dT_setup_45 : decode cT_setup 45 = .ok (.iload_n 3, 1) := by decide +kernel
theorem dT_setup_46 : decode cT_setup 46 = .ok (.ifCond .le 17, 3) := by decide +kernel
theorem dT_setup_49 : decode cT_setup 49 = .ok (.iload 4, 2) := by decide +kernel
theorem dT_setup_51 : decode cT_setup 51 = .ok (.ifCond .le 12, 3) := by decide +kernel
theorem dT_setup_54 : decode cT_setup 54 = .ok (.iload 5, 2) := by decide +kernel
theorem dT_setup_56 : decode cT_setup 56 = .ok (.ifCond .le 7, 3) := by decide +kernel
theorem dT_setup_59 : decode cT_setup 59 = .ok (.iconst 1, 1) := by decide +kernel
theorem dT_setup_60 : decode cT_setup 60 = .ok (.goto 4, 3) := by decide +kernel
theorem dT_setup_63 : decode cT_setup 63 = .ok (.iconst 0, 1) := by decide +kernel
theorem dT_setup_64 : decode cT_setup 64 = .ok (.istore 6, 2) := by decide +kernel
theorem dT_setup_66 : decode cT_setup 66 = .ok (.iload 6, 2) := by decide +kernel
theorem dT_setup_68 : decode cT_setup 68 = .ok (.ifCond .eq 20, 3) := by decide +kernel
theorem dT_setup_71 : decode cT_setup 71 = .ok (.iload_n 1, 1) := by decide +kernel
theorem dT_setup_72 : decode cT_setup 72 = .ok (.i2l, 1) := by decide +kernel
theorem dT_setup_73 : decode cT_setup 73 = .ok (.aload_n 0, 1) := by decide +kernel
theorem dT_setup_74 : decode cT_setup 74 = .ok (.invokevirtual 68, 3) := by decide +kernel
theorem dT_setup_77 : decode cT_setup 77 = .ok (.i2l, 1) := by decide +kernel
theorem dT_setup_78 : decode cT_setup 78 = .ok (.invokestatic 42, 3) := by decide +kernel
theorem dT_setup_81 : decode cT_setup 81 = .ok (.lconst 1, 1) := by decide +kernel
theorem dT_setup_82 : decode cT_setup 82 = .ok (.invokestatic 87, 3) := by decide +kernel
theorem dT_setup_85 : decode cT_setup 85 = .ok (.goto 4, 3) := by decide +kernel
theorem dT_setup_88 : decode cT_setup 88 = .ok (.lconst 0, 1) := by decide +kernel
theorem dT_setup_89 : decode cT_setup 89 = .ok (.lstore 7, 2) := by decide +kernel
theorem dT_setup_91 : decode cT_setup 91 = .ok (.aload_n 0, 1) := by decide +kernel
theorem dT_setup_92 : decode cT_setup 92 = .ok (.iload 6, 2) := by decide +kernel
theorem dT_setup_94 : decode cT_setup 94 = .ok (.ifCond .ne 7, 3) := by decide +kernel
theorem dT_setup_97 : decode cT_setup 97 = .ok (.iconst 1, 1) := by decide +kernel
theorem dT_setup_98 : decode cT_setup 98 = .ok (.goto 15, 3) := by decide +kernel
theorem dT_setup_101 : decode cT_setup 101 = .ok (.lload 7, 2) := by decide +kernel
theorem dT_setup_103 : decode cT_setup 103 = .ok (.lconst 0, 1) := by decide +kernel
theorem dT_setup_104 : decode cT_setup 104 = .ok (.lcmp, 1) := by decide +kernel
theorem dT_setup_105 : decode cT_setup 105 = .ok (.ifCond .ne 7, 3) := by decide +kernel
theorem dT_setup_108 : decode cT_setup 108 = .ok (.iconst 2, 1) := by decide +kernel
theorem dT_setup_109 : decode cT_setup 109 = .ok (.goto 4, 3) := by decide +kernel
theorem dT_setup_112 : decode cT_setup 112 = .ok (.iconst 0, 1) := by decide +kernel
theorem dT_setup_113 : decode cT_setup 113 = .ok (.putfield 34, 3) := by decide +kernel
theorem dT_setup_116 : decode cT_setup 116 = .ok (.aload_n 0, 1) := by decide +kernel
theorem dT_setup_117 : decode cT_setup 117 = .ok (.getfield 34, 3) := by decide +kernel
theorem dT_setup_120 : decode cT_setup 120 = .ok (.ifCond .le 5, 3) := by decide +kernel
theorem dT_setup_123 : decode cT_setup 123 = .ok (.iconst 0, 1) := by decide +kernel
theorem dT_setup_124 : decode cT_setup 124 = .ok (.ireturn, 1) := by decide +kernel
theorem dT_setup_125 : decode cT_setup 125 = .ok (.aload_n 0, 1) := by decide +kernel
theorem dT_setup_126 : decode cT_setup 126 = .ok (.iconst 1, 1) := by decide +kernel
theorem dT_setup_127 : decode cT_setup 127 = .ok (.putfield 53, 3) := by decide +kernel
theorem dT_setup_130 : decode cT_setup 130 = .ok (.aload_n 0, 1) := by decide +kernel
theorem dT_setup_131 : decode cT_setup 131 = .ok (.iload_n 1, 1) := by decide +kernel
theorem dT_setup_132 : decode cT_setup 132 = .ok (.i2l, 1) := by decide +kernel
theorem dT_setup_133 : decode cT_setup 133 = .ok (.putfield 83, 3) := by decide +kernel
theorem dT_setup_136 : decode cT_setup 136 = .ok (.aload_n 0, 1) := by decide +kernel
theorem dT_setup_137 : decode cT_setup 137 = .ok (.iload_n 2, 1) := by decide +kernel
theorem dT_setup_138 : decode cT_setup 138 = .ok (.i2l, 1) := by decide +kernel
theorem dT_setup_139 : decode cT_setup 139 = .ok (.putfield 90, 3) := by decide +kernel
theorem dT_setup_142 : decode cT_setup 142 = .ok (.aload_n 0, 1) := by decide +kernel
theorem dT_setup_143 : decode cT_setup 143 = .ok (.iload_n 3, 1) := by decide +kernel
theorem dT_setup_144 : decode cT_setup 144 = .ok (.i2l, 1) := by decide +kernel
theorem dT_setup_145 : decode cT_setup 145 = .ok (.putfield 93, 3) := by decide +kernel
theorem dT_setup_148 : decode cT_setup 148 = .ok (.aload_n 0, 1) := by decide +kernel
theorem dT_setup_149 : decode cT_setup 149 = .ok (.iload 4, 2) := by decide +kernel
theorem dT_setup_151 : decode cT_setup 151 = .ok (.i2l, 1) := by decide +kernel
theorem dT_setup_152 : decode cT_setup 152 = .ok (.putfield 96, 3) := by decide +kernel
theorem dT_setup_155 : decode cT_setup 155 = .ok (.aload_n 0, 1) := by decide +kernel
theorem dT_setup_156 : decode cT_setup 156 = .ok (.iload 5, 2) := by decide +kernel
theorem dT_setup_158 : decode cT_setup 158 = .ok (.i2l, 1) := by decide +kernel
theorem dT_setup_159 : decode cT_setup 159 = .ok (.putfield 99, 3) := by decide +kernel
theorem dT_setup_162 : decode cT_setup 162 = .ok (.aload_n 0, 1) := by decide +kernel
theorem dT_setup_163 : decode cT_setup 163 = .ok (.lload 7, 2) := by decide +kernel
theorem dT_setup_165 : decode cT_setup 165 = .ok (.putfield 102, 3) := by decide +kernel
theorem dT_setup_168 : decode cT_setup 168 = .ok (.iconst 0, 1) := by decide +kernel
theorem dT_setup_169 : decode cT_setup 169 = .ok (.istore 9, 2) := by decide +kernel
theorem dT_setup_171 : decode cT_setup 171 = .ok (.iload 9, 2) := by decide +kernel
theorem dT_setup_173 : decode cT_setup 173 = .ok (.bipush 16, 2) := by decide +kernel
theorem dT_setup_175 : decode cT_setup 175 = .ok (.if_icmp .ge 69, 3) := by decide +kernel
theorem dT_setup_178 : decode cT_setup 178 = .ok (.aload_n 0, 1) := by decide +kernel
theorem dT_setup_179 : decode cT_setup 179 = .ok (.getfield 93, 3) := by decide +kernel
theorem dT_setup_182 : decode cT_setup 182 = .ok (.aload_n 0, 1) := by decide +kernel
theorem dT_setup_183 : decode cT_setup 183 = .ok (.iconst 0, 1) := by decide +kernel
theorem dT_setup_184 : decode cT_setup 184 = .ok (.iload 9, 2) := by decide +kernel
theorem dT_setup_186 : decode cT_setup 186 = .ok (.invokevirtual 105, 3) := by decide +kernel
theorem dT_setup_189 : decode cT_setup 189 = .ok (.lmul, 1) := by decide +kernel
theorem dT_setup_190 : decode cT_setup 190 = .ok (.ldc2_w 38, 3) := by decide +kernel
theorem dT_setup_193 : decode cT_setup 193 = .ok (.lrem, 1) := by decide +kernel
theorem dT_setup_194 : decode cT_setup 194 = .ok (.lstore 10, 2) := by decide +kernel
theorem dT_setup_196 : decode cT_setup 196 = .ok (.aload_n 0, 1) := by decide +kernel
theorem dT_setup_197 : decode cT_setup 197 = .ok (.getfield 90, 3) := by decide +kernel
theorem dT_setup_200 : decode cT_setup 200 = .ok (.aload_n 0, 1) := by decide +kernel
theorem dT_setup_201 : decode cT_setup 201 = .ok (.iconst 1, 1) := by decide +kernel
theorem dT_setup_202 : decode cT_setup 202 = .ok (.iload 9, 2) := by decide +kernel
theorem dT_setup_204 : decode cT_setup 204 = .ok (.invokevirtual 105, 3) := by decide +kernel
theorem dT_setup_207 : decode cT_setup 207 = .ok (.lmul, 1) := by decide +kernel
theorem dT_setup_208 : decode cT_setup 208 = .ok (.ldc2_w 38, 3) := by decide +kernel
theorem dT_setup_211 : decode cT_setup 211 = .ok (.lrem, 1) := by decide +kernel
theorem dT_setup_212 : decode cT_setup 212 = .ok (.lstore 12, 2) := by decide +kernel
theorem dT_setup_214 : decode cT_setup 214 = .ok (.aload_n 0, 1) := by decide +kernel
theorem dT_setup_215 : decode cT_setup 215 = .ok (.getfield 19, 3) := by decide +kernel
theorem dT_setup_218 : decode cT_setup 218 = .ok (.iload 9, 2) := by decide +kernel
theorem dT_setup_220 : decode cT_setup 220 = .ok (.lload 10, 2) := by decide +kernel
theorem dT_setup_222 : decode cT_setup 222 = .ok (.lload 12, 2) := by decide +kernel
theorem dT_setup_224 : decode cT_setup 224 = .ok (.ladd, 1) := by decide +kernel
theorem dT_setup_225 : decode cT_setup 225 = .ok (.aload_n 0, 1) := by decide +kernel
theorem dT_setup_226 : decode cT_setup 226 = .ok (.iconst 2, 1) := by decide +kernel
theorem dT_setup_227 : decode cT_setup 227 = .ok (.iload 9, 2) := by decide +kernel
theorem dT_setup_229 : decode cT_setup 229 = .ok (.invokevirtual 105, 3) := by decide +kernel
theorem dT_setup_232 : decode cT_setup 232 = .ok (.ladd, 1) := by decide +kernel
theorem dT_setup_233 : decode cT_setup 233 = .ok (.ldc2_w 38, 3) := by decide +kernel
theorem dT_setup_236 : decode cT_setup 236 = .ok (.lrem, 1) := by decide +kernel
theorem dT_setup_237 : decode cT_setup 237 = .ok (.lastore, 1) := by decide +kernel
theorem dT_setup_238 : decode cT_setup 238 = .ok (.iinc 9 1, 3) := by decide +kernel
theorem dT_setup_241 : decode cT_setup 241 = .ok (.goto (-70), 3) := by decide +kernel
theorem dT_setup_244 : decode cT_setup 244 = .ok (.aload_n 0, 1) := by decide +kernel
theorem dT_setup_245 : decode cT_setup 245 = .ok (.invokevirtual 68, 3) := by decide +kernel
theorem dT_setup_248 : decode cT_setup 248 = .ok (.ireturn, 1) := by decide +kernel
theorem dT_size_0 : decode cT_size 0 = .ok (.aload_n 0, 1) := by decide +kernel
theorem dT_size_1 : decode cT_size 1 = .ok (.getfield 46, 3) := by decide +kernel
theorem dT_size_4 : decode cT_size 4 = .ok (.iconst 2, 1) := by decide +kernel
theorem dT_size_5 : decode cT_size 5 = .ok (.if_icmp .gt 7, 3) := by decide +kernel
theorem dT_size_8 : decode cT_size 8 = .ok (.iconst 2, 1) := by decide +kernel
theorem dT_size_9 : decode cT_size 9 = .ok (.goto 31, 3) := by decide +kernel
theorem dT_size_12 : decode cT_size 12 = .ok (.aload_n 0, 1) := by decide +kernel
theorem dT_size_13 : decode cT_size 13 = .ok (.getfield 46, 3) := by decide +kernel
theorem dT_size_16 : decode cT_size 16 = .ok (.iconst 4, 1) := by decide +kernel
theorem dT_size_17 : decode cT_size 17 = .ok (.if_icmp .gt 7, 3) := by decide +kernel
theorem dT_size_20 : decode cT_size 20 = .ok (.iconst 4, 1) := by decide +kernel
theorem dT_size_21 : decode cT_size 21 = .ok (.goto 19, 3) := by decide +kernel
theorem dT_size_24 : decode cT_size 24 = .ok (.aload_n 0, 1) := by decide +kernel
theorem dT_size_25 : decode cT_size 25 = .ok (.getfield 46, 3) := by decide +kernel
theorem dT_size_28 : decode cT_size 28 = .ok (.bipush 8, 2) := by decide +kernel
theorem dT_size_30 : decode cT_size 30 = .ok (.if_icmp .gt 8, 3) := by decide +kernel
theorem dT_size_33 : decode cT_size 33 = .ok (.bipush 8, 2) := by decide +kernel
theorem dT_size_35 : decode cT_size 35 = .ok (.goto 5, 3) := by decide +kernel
theorem dT_size_38 : decode cT_size 38 = .ok (.bipush 16, 2) := by decide +kernel
theorem dT_size_40 : decode cT_size 40 = .ok (.ireturn, 1) := by decide +kernel
theorem dT_sum_0 : decode cT_sum 0 = .ok (.iconst 0, 1) := by decide +kernel
theorem dT_sum_1 : decode cT_sum 1 = .ok (.istore_n 2, 1) := by decide +kernel
theorem dT_sum_2 : decode cT_sum 2 = .ok (.iload_n 2, 1) := by decide +kernel
theorem dT_sum_3 : decode cT_sum 3 = .ok (.bipush 16, 2) := by decide +kernel
theorem dT_sum_5 : decode cT_sum 5 = .ok (.if_icmp .ge 70, 3) := by decide +kernel
theorem dT_sum_8 : decode cT_sum 8 = .ok (.lconst 0, 1) := by decide +kernel
theorem dT_sum_9 : decode cT_sum 9 = .ok (.lstore_n 3, 1) := by decide +kernel
theorem dT_sum_10 : decode cT_sum 10 = .ok (.iconst 0, 1) := by decide +kernel
theorem dT_sum_11 : decode cT_sum 11 = .ok (.istore 5, 2) := by decide +kernel
theorem dT_sum_13 : decode cT_sum 13 = .ok (.iload 5, 2) := by decide +kernel
theorem dT_sum_15 : decode cT_sum 15 = .ok (.bipush 16, 2) := by decide +kernel
theorem dT_sum_17 : decode cT_sum 17 = .ok (.if_icmp .ge 40, 3) := by decide +kernel
theorem dT_sum_20 : decode cT_sum 20 = .ok (.iload_n 2, 1) := by decide +kernel
theorem dT_sum_21 : decode cT_sum 21 = .ok (.aload_n 0, 1) := by decide +kernel
theorem dT_sum_22 : decode cT_sum 22 = .ok (.invokevirtual 68, 3) := by decide +kernel
theorem dT_sum_25 : decode cT_sum 25 = .ok (.if_icmp .ge 32, 3) := by decide +kernel
theorem dT_sum_28 : decode cT_sum 28 = .ok (.lload_n 3, 1) := by decide +kernel
theorem dT_sum_29 : decode cT_sum 29 = .ok (.aload_n 0, 1) := by decide +kernel
theorem dT_sum_30 : decode cT_sum 30 = .ok (.getfield 13, 3) := by decide +kernel
theorem dT_sum_33 : decode cT_sum 33 = .ok (.iload 5, 2) := by decide +kernel
theorem dT_sum_35 : decode cT_sum 35 = .ok (.laload, 1) := by decide +kernel
theorem dT_sum_36 : decode cT_sum 36 = .ok (.aload_n 0, 1) := by decide +kernel
theorem dT_sum_37 : decode cT_sum 37 = .ok (.iload_n 1, 1) := by decide +kernel
theorem dT_sum_38 : decode cT_sum 38 = .ok (.iload 5, 2) := by decide +kernel
theorem dT_sum_40 : decode cT_sum 40 = .ok (.iload_n 2, 1) := by decide +kernel
theorem dT_sum_41 : decode cT_sum 41 = .ok (.invokevirtual 79, 3) := by decide +kernel
theorem dT_sum_44 : decode cT_sum 44 = .ok (.lmul, 1) := by decide +kernel
theorem dT_sum_45 : decode cT_sum 45 = .ok (.ladd, 1) := by decide +kernel
theorem dT_sum_46 : decode cT_sum 46 = .ok (.ldc2_w 38, 3) := by decide +kernel
theorem dT_sum_49 : decode cT_sum 49 = .ok (.lrem, 1) := by decide +kernel
theorem dT_sum_50 : decode cT_sum 50 = .ok (.lstore_n 3, 1) := by decide +kernel
theorem dT_sum_51 : decode cT_sum 51 = .ok (.iinc 5 1, 3) := by decide +kernel
theorem dT_sum_54 : decode cT_sum 54 = .ok (.goto (-41), 3) := by decide +kernel
theorem dT_sum_57 : decode cT_sum 57 = .ok (.aload_n 0, 1) := by decide +kernel
theorem dT_sum_58 : decode cT_sum 58 = .ok (.getfield 28, 3) := by decide +kernel
theorem dT_sum_61 : decode cT_sum 61 = .ok (.bipush 16, 2) := by decide +kernel
theorem dT_sum_63 : decode cT_sum 63 = .ok (.iload_n 1, 1) := by decide +kernel
theorem dT_sum_64 : decode cT_sum 64 = .ok (.imul, 1) := by decide +kernel
theorem dT_sum_65 : decode cT_sum 65 = .ok (.iload_n 2, 1) := by decide +kernel
theorem dT_sum_66 : decode cT_sum 66 = .ok (.iadd, 1) := by decide +kernel
theorem dT_sum_67 : decode cT_sum 67 = .ok (.lload_n 3, 1) := by decide +kernel
theorem dT_sum_68 : decode cT_sum 68 = .ok (.lastore, 1) := by decide +kernel
theorem dT_sum_69 : decode cT_sum 69 = .ok (.iinc 2 1, 3) := by decide +kernel
theorem dT_sum_72 : decode cT_sum 72 = .ok (.goto (-70), 3) := by decide +kernel
theorem dT_sum_75 : decode cT_sum 75 = .ok (.return_, 1) := by decide +kernel
theorem dT_sumAtTau_0 : decode cT_sumAtTau 0 = .ok (.lconst 0, 1) := by decide +kernel
theorem dT_sumAtTau_1 : decode cT_sumAtTau 1 = .ok (.lstore_n 2, 1) := by decide +kernel
theorem dT_sumAtTau_2 : decode cT_sumAtTau 2 = .ok (.iconst 0, 1) := by decide +kernel
theorem dT_sumAtTau_3 : decode cT_sumAtTau 3 = .ok (.istore 4, 2) := by decide +kernel
theorem dT_sumAtTau_5 : decode cT_sumAtTau 5 = .ok (.iload 4, 2) := by decide +kernel
theorem dT_sumAtTau_7 : decode cT_sumAtTau 7 = .ok (.aload_n 0, 1) := by decide +kernel
theorem dT_sumAtTau_8 : decode cT_sumAtTau 8 = .ok (.invokevirtual 68, 3) := by decide +kernel
theorem dT_sumAtTau_11 : decode cT_sumAtTau 11 = .ok (.if_icmp .ge 39, 3) := by decide +kernel
theorem dT_sumAtTau_14 : decode cT_sumAtTau 14 = .ok (.lload_n 2, 1) := by decide +kernel
theorem dT_sumAtTau_15 : decode cT_sumAtTau 15 = .ok (.aload_n 0, 1) := by decide +kernel
theorem dT_sumAtTau_16 : decode cT_sumAtTau 16 = .ok (.getfield 28, 3) := by decide +kernel
theorem dT_sumAtTau_19 : decode cT_sumAtTau 19 = .ok (.bipush 16, 2) := by decide +kernel
theorem dT_sumAtTau_21 : decode cT_sumAtTau 21 = .ok (.iload_n 1, 1) := by decide +kernel
theorem dT_sumAtTau_22 : decode cT_sumAtTau 22 = .ok (.imul, 1) := by decide +kernel
theorem dT_sumAtTau_23 : decode cT_sumAtTau 23 = .ok (.iload 4, 2) := by decide +kernel
theorem dT_sumAtTau_25 : decode cT_sumAtTau 25 = .ok (.iadd, 1) := by decide +kernel
theorem dT_sumAtTau_26 : decode cT_sumAtTau 26 = .ok (.laload, 1) := by decide +kernel
theorem dT_sumAtTau_27 : decode cT_sumAtTau 27 = .ok (.aload_n 0, 1) := by decide +kernel
theorem dT_sumAtTau_28 : decode cT_sumAtTau 28 = .ok (.getfield 83, 3) := by decide +kernel
theorem dT_sumAtTau_31 : decode cT_sumAtTau 31 = .ok (.iload 4, 2) := by decide +kernel
theorem dT_sumAtTau_33 : decode cT_sumAtTau 33 = .ok (.i2l, 1) := by decide +kernel
theorem dT_sumAtTau_34 : decode cT_sumAtTau 34 = .ok (.invokestatic 42, 3) := by decide +kernel
theorem dT_sumAtTau_37 : decode cT_sumAtTau 37 = .ok (.lmul, 1) := by decide +kernel
theorem dT_sumAtTau_38 : decode cT_sumAtTau 38 = .ok (.ladd, 1) := by decide +kernel
theorem dT_sumAtTau_39 : decode cT_sumAtTau 39 = .ok (.ldc2_w 38, 3) := by decide +kernel
theorem dT_sumAtTau_42 : decode cT_sumAtTau 42 = .ok (.lrem, 1) := by decide +kernel
theorem dT_sumAtTau_43 : decode cT_sumAtTau 43 = .ok (.lstore_n 2, 1) := by decide +kernel
theorem dT_sumAtTau_44 : decode cT_sumAtTau 44 = .ok (.iinc 4 1, 3) := by decide +kernel
theorem dT_sumAtTau_47 : decode cT_sumAtTau 47 = .ok (.goto (-42), 3) := by decide +kernel
theorem dT_sumAtTau_50 : decode cT_sumAtTau 50 = .ok (.lload_n 2, 1) := by decide +kernel
theorem dT_sumAtTau_51 : decode cT_sumAtTau 51 = .ok (.lreturn, 1) := by decide +kernel
theorem dT_sumOf_0 : decode cT_sumOf 0 = .ok (.lconst 0, 1) := by decide +kernel
theorem dT_sumOf_1 : decode cT_sumOf 1 = .ok (.lstore_n 3, 1) := by decide +kernel
theorem dT_sumOf_2 : decode cT_sumOf 2 = .ok (.iconst 0, 1) := by decide +kernel
theorem dT_sumOf_3 : decode cT_sumOf 3 = .ok (.istore 5, 2) := by decide +kernel
theorem dT_sumOf_5 : decode cT_sumOf 5 = .ok (.iload 5, 2) := by decide +kernel
theorem dT_sumOf_7 : decode cT_sumOf 7 = .ok (.bipush 16, 2) := by decide +kernel
theorem dT_sumOf_9 : decode cT_sumOf 9 = .ok (.if_icmp .ge 41, 3) := by decide +kernel
theorem dT_sumOf_12 : decode cT_sumOf 12 = .ok (.lload_n 3, 1) := by decide +kernel
theorem dT_sumOf_13 : decode cT_sumOf 13 = .ok (.aload_n 0, 1) := by decide +kernel
theorem dT_sumOf_14 : decode cT_sumOf 14 = .ok (.getfield 7, 3) := by decide +kernel
theorem dT_sumOf_17 : decode cT_sumOf 17 = .ok (.bipush 48, 2) := by decide +kernel
theorem dT_sumOf_19 : decode cT_sumOf 19 = .ok (.iload_n 1, 1) := by decide +kernel
theorem dT_sumOf_20 : decode cT_sumOf 20 = .ok (.imul, 1) := by decide +kernel
theorem dT_sumOf_21 : decode cT_sumOf 21 = .ok (.bipush 16, 2) := by decide +kernel
theorem dT_sumOf_23 : decode cT_sumOf 23 = .ok (.iload_n 2, 1) := by decide +kernel
theorem dT_sumOf_24 : decode cT_sumOf 24 = .ok (.imul, 1) := by decide +kernel
theorem dT_sumOf_25 : decode cT_sumOf 25 = .ok (.iadd, 1) := by decide +kernel
theorem dT_sumOf_26 : decode cT_sumOf 26 = .ok (.iload 5, 2) := by decide +kernel
theorem dT_sumOf_28 : decode cT_sumOf 28 = .ok (.iadd, 1) := by decide +kernel
theorem dT_sumOf_29 : decode cT_sumOf 29 = .ok (.laload, 1) := by decide +kernel
theorem dT_sumOf_30 : decode cT_sumOf 30 = .ok (.aload_n 0, 1) := by decide +kernel
theorem dT_sumOf_31 : decode cT_sumOf 31 = .ok (.getfield 13, 3) := by decide +kernel
theorem dT_sumOf_34 : decode cT_sumOf 34 = .ok (.iload 5, 2) := by decide +kernel
theorem dT_sumOf_36 : decode cT_sumOf 36 = .ok (.laload, 1) := by decide +kernel
theorem dT_sumOf_37 : decode cT_sumOf 37 = .ok (.lmul, 1) := by decide +kernel
theorem dT_sumOf_38 : decode cT_sumOf 38 = .ok (.ladd, 1) := by decide +kernel
theorem dT_sumOf_39 : decode cT_sumOf 39 = .ok (.ldc2_w 38, 3) := by decide +kernel
theorem dT_sumOf_42 : decode cT_sumOf 42 = .ok (.lrem, 1) := by decide +kernel
theorem dT_sumOf_43 : decode cT_sumOf 43 = .ok (.lstore_n 3, 1) := by decide +kernel
theorem dT_sumOf_44 : decode cT_sumOf 44 = .ok (.iinc 5 1, 3) := by decide +kernel
theorem dT_sumOf_47 : decode cT_sumOf 47 = .ok (.goto (-42), 3) := by decide +kernel
theorem dT_sumOf_50 : decode cT_sumOf 50 = .ok (.lload_n 3, 1) := by decide +kernel
theorem dT_sumOf_51 : decode cT_sumOf 51 = .ok (.lreturn, 1) := by decide +kernel
theorem dT_term_0 : decode cT_term 0 = .ok (.aload_n 0, 1) := by decide +kernel
theorem dT_term_1 : decode cT_term 1 = .ok (.iload_n 1, 1) := by decide +kernel
theorem dT_term_2 : decode cT_term 2 = .ok (.ifCond .lt 25, 3) := by decide +kernel
theorem dT_term_5 : decode cT_term 5 = .ok (.iload_n 1, 1) := by decide +kernel
theorem dT_term_6 : decode cT_term 6 = .ok (.iconst 2, 1) := by decide +kernel
theorem dT_term_7 : decode cT_term 7 = .ok (.if_icmp .gt 20, 3) := by decide +kernel
theorem dT_term_10 : decode cT_term 10 = .ok (.iload_n 2, 1) := by decide +kernel
theorem dT_term_11 : decode cT_term 11 = .ok (.ifCond .lt 16, 3) := by decide +kernel
theorem dT_term_14 : decode cT_term 14 = .ok (.iload_n 2, 1) := by decide +kernel
theorem dT_term_15 : decode cT_term 15 = .ok (.bipush 15, 2) := by decide +kernel
theorem dT_term_17 : decode cT_term 17 = .ok (.if_icmp .gt 10, 3) := by decide +kernel
theorem dT_term_20 : decode cT_term 20 = .ok (.iload_n 3, 1) := by decide +kernel
theorem dT_term_21 : decode cT_term 21 = .ok (.invokestatic 49, 3) := by decide +kernel
theorem dT_term_24 : decode cT_term 24 = .ok (.ifCond .ne 7, 3) := by decide +kernel
theorem dT_term_27 : decode cT_term 27 = .ok (.iconst 1, 1) := by decide +kernel
theorem dT_term_28 : decode cT_term 28 = .ok (.goto 4, 3) := by decide +kernel
theorem dT_term_31 : decode cT_term 31 = .ok (.iconst 0, 1) := by decide +kernel
theorem dT_term_32 : decode cT_term 32 = .ok (.putfield 34, 3) := by decide +kernel
theorem dT_term_35 : decode cT_term 35 = .ok (.aload_n 0, 1) := by decide +kernel
theorem dT_term_36 : decode cT_term 36 = .ok (.getfield 34, 3) := by decide +kernel
theorem dT_term_39 : decode cT_term 39 = .ok (.ifCond .le 5, 3) := by decide +kernel
theorem dT_term_42 : decode cT_term 42 = .ok (.iconst 0, 1) := by decide +kernel
theorem dT_term_43 : decode cT_term 43 = .ok (.ireturn, 1) := by decide +kernel
theorem dT_term_44 : decode cT_term 44 = .ok (.bipush 48, 2) := by decide +kernel
theorem dT_term_46 : decode cT_term 46 = .ok (.aload_n 0, 1) := by decide +kernel
theorem dT_term_47 : decode cT_term 47 = .ok (.getfield 46, 3) := by decide +kernel
theorem dT_term_50 : decode cT_term 50 = .ok (.imul, 1) := by decide +kernel
theorem dT_term_51 : decode cT_term 51 = .ok (.bipush 16, 2) := by decide +kernel
theorem dT_term_53 : decode cT_term 53 = .ok (.iload_n 1, 1) := by decide +kernel
theorem dT_term_54 : decode cT_term 54 = .ok (.imul, 1) := by decide +kernel
theorem dT_term_55 : decode cT_term 55 = .ok (.iadd, 1) := by decide +kernel
theorem dT_term_56 : decode cT_term 56 = .ok (.iload_n 2, 1) := by decide +kernel
theorem dT_term_57 : decode cT_term 57 = .ok (.iadd, 1) := by decide +kernel
theorem dT_term_58 : decode cT_term 58 = .ok (.istore 4, 2) := by decide +kernel
theorem dT_term_60 : decode cT_term 60 = .ok (.aload_n 0, 1) := by decide +kernel
theorem dT_term_61 : decode cT_term 61 = .ok (.getfield 7, 3) := by decide +kernel
theorem dT_term_64 : decode cT_term 64 = .ok (.iload 4, 2) := by decide +kernel
theorem dT_term_66 : decode cT_term 66 = .ok (.aload_n 0, 1) := by decide +kernel
theorem dT_term_67 : decode cT_term 67 = .ok (.getfield 7, 3) := by decide +kernel
theorem dT_term_70 : decode cT_term 70 = .ok (.iload 4, 2) := by decide +kernel
theorem dT_term_72 : decode cT_term 72 = .ok (.laload, 1) := by decide +kernel
theorem dT_term_73 : decode cT_term 73 = .ok (.iload_n 3, 1) := by decide +kernel
theorem dT_term_74 : decode cT_term 74 = .ok (.i2l, 1) := by decide +kernel
theorem dT_term_75 : decode cT_term 75 = .ok (.ladd, 1) := by decide +kernel
theorem dT_term_76 : decode cT_term 76 = .ok (.ldc2_w 38, 3) := by decide +kernel
theorem dT_term_79 : decode cT_term 79 = .ok (.lrem, 1) := by decide +kernel
theorem dT_term_80 : decode cT_term 80 = .ok (.lastore, 1) := by decide +kernel
theorem dT_term_81 : decode cT_term 81 = .ok (.aload_n 0, 1) := by decide +kernel
theorem dT_term_82 : decode cT_term 82 = .ok (.getfield 7, 3) := by decide +kernel
theorem dT_term_85 : decode cT_term 85 = .ok (.iload 4, 2) := by decide +kernel
theorem dT_term_87 : decode cT_term 87 = .ok (.laload, 1) := by decide +kernel
theorem dT_term_88 : decode cT_term 88 = .ok (.l2i, 1) := by decide +kernel
theorem dT_term_89 : decode cT_term 89 = .ok (.ireturn, 1) := by decide +kernel
theorem dT_thrown_0 : decode cT_thrown 0 = .ok (.aload_n 0, 1) := by decide +kernel
theorem dT_thrown_1 : decode cT_thrown 1 = .ok (.getfield 34, 3) := by decide +kernel
theorem dT_thrown_4 : decode cT_thrown 4 = .ok (.ireturn, 1) := by decide +kernel
theorem dT_value_0 : decode cT_value 0 = .ok (.aload_n 0, 1) := by decide +kernel
theorem dT_value_1 : decode cT_value 1 = .ok (.iload_n 1, 1) := by decide +kernel
theorem dT_value_2 : decode cT_value 2 = .ok (.iconst 1, 1) := by decide +kernel
theorem dT_value_3 : decode cT_value 3 = .ok (.if_icmp .lt 16, 3) := by decide +kernel
theorem dT_value_6 : decode cT_value 6 = .ok (.iload_n 1, 1) := by decide +kernel
theorem dT_value_7 : decode cT_value 7 = .ok (.bipush 15, 2) := by decide +kernel
theorem dT_value_9 : decode cT_value 9 = .ok (.if_icmp .gt 10, 3) := by decide +kernel
theorem dT_value_12 : decode cT_value 12 = .ok (.iload_n 2, 1) := by decide +kernel
theorem dT_value_13 : decode cT_value 13 = .ok (.invokestatic 49, 3) := by decide +kernel
theorem dT_value_16 : decode cT_value 16 = .ok (.ifCond .ne 7, 3) := by decide +kernel
theorem dT_value_19 : decode cT_value 19 = .ok (.iconst 1, 1) := by decide +kernel
theorem dT_value_20 : decode cT_value 20 = .ok (.goto 4, 3) := by decide +kernel
theorem dT_value_23 : decode cT_value 23 = .ok (.iconst 0, 1) := by decide +kernel
theorem dT_value_24 : decode cT_value 24 = .ok (.putfield 34, 3) := by decide +kernel
theorem dT_value_27 : decode cT_value 27 = .ok (.aload_n 0, 1) := by decide +kernel
theorem dT_value_28 : decode cT_value 28 = .ok (.getfield 34, 3) := by decide +kernel
theorem dT_value_31 : decode cT_value 31 = .ok (.ifCond .le 5, 3) := by decide +kernel
theorem dT_value_34 : decode cT_value 34 = .ok (.iconst 0, 1) := by decide +kernel
theorem dT_value_35 : decode cT_value 35 = .ok (.ireturn, 1) := by decide +kernel
theorem dT_value_36 : decode cT_value 36 = .ok (.aload_n 0, 1) := by decide +kernel
theorem dT_value_37 : decode cT_value 37 = .ok (.getfield 13, 3) := by decide +kernel
theorem dT_value_40 : decode cT_value 40 = .ok (.iload_n 1, 1) := by decide +kernel
theorem dT_value_41 : decode cT_value 41 = .ok (.iload_n 2, 1) := by decide +kernel
theorem dT_value_42 : decode cT_value 42 = .ok (.i2l, 1) := by decide +kernel
theorem dT_value_43 : decode cT_value 43 = .ok (.lastore, 1) := by decide +kernel
theorem dT_value_44 : decode cT_value 44 = .ok (.iconst 1, 1) := by decide +kernel
theorem dT_value_45 : decode cT_value 45 = .ok (.ireturn, 1) := by decide +kernel
theorem dT_verify_0 : decode cT_verify 0 = .ok (.aload_n 0, 1) := by decide +kernel
theorem dT_verify_1 : decode cT_verify 1 = .ok (.aload_n 0, 1) := by decide +kernel
theorem dT_verify_2 : decode cT_verify 2 = .ok (.getfield 53, 3) := by decide +kernel
theorem dT_verify_5 : decode cT_verify 5 = .ok (.ifCond .eq 10, 3) := by decide +kernel
theorem dT_verify_8 : decode cT_verify 8 = .ok (.aload_n 0, 1) := by decide +kernel
theorem dT_verify_9 : decode cT_verify 9 = .ok (.getfield 119, 3) := by decide +kernel
theorem dT_verify_12 : decode cT_verify 12 = .ok (.ifCond .ne 7, 3) := by decide +kernel
theorem dT_verify_15 : decode cT_verify 15 = .ok (.iconst 1, 1) := by decide +kernel
theorem dT_verify_16 : decode cT_verify 16 = .ok (.goto 4, 3) := by decide +kernel
theorem dT_verify_19 : decode cT_verify 19 = .ok (.iconst 0, 1) := by decide +kernel
theorem dT_verify_20 : decode cT_verify 20 = .ok (.putfield 34, 3) := by decide +kernel
theorem dT_verify_23 : decode cT_verify 23 = .ok (.aload_n 0, 1) := by decide +kernel
theorem dT_verify_24 : decode cT_verify 24 = .ok (.getfield 34, 3) := by decide +kernel
theorem dT_verify_27 : decode cT_verify 27 = .ok (.ifCond .le 5, 3) := by decide +kernel
theorem dT_verify_30 : decode cT_verify 30 = .ok (.iconst 0, 1) := by decide +kernel
theorem dT_verify_31 : decode cT_verify 31 = .ok (.ireturn, 1) := by decide +kernel
theorem dT_verify_32 : decode cT_verify 32 = .ok (.aload_n 0, 1) := by decide +kernel
theorem dT_verify_33 : decode cT_verify 33 = .ok (.getfield 90, 3) := by decide +kernel
theorem dT_verify_36 : decode cT_verify 36 = .ok (.aload_n 0, 1) := by decide +kernel
theorem dT_verify_37 : decode cT_verify 37 = .ok (.getfield 93, 3) := by decide +kernel
theorem dT_verify_40 : decode cT_verify 40 = .ok (.lmul, 1) := by decide +kernel
theorem dT_verify_41 : decode cT_verify 41 = .ok (.ldc2_w 38, 3) := by decide +kernel
theorem dT_verify_44 : decode cT_verify 44 = .ok (.lrem, 1) := by decide +kernel
theorem dT_verify_45 : decode cT_verify 45 = .ok (.lstore_n 1, 1) := by decide +kernel
theorem dT_verify_46 : decode cT_verify 46 = .ok (.iconst 0, 1) := by decide +kernel
theorem dT_verify_47 : decode cT_verify 47 = .ok (.istore_n 3, 1) := by decide +kernel
theorem dT_verify_48 : decode cT_verify 48 = .ok (.iload_n 3, 1) := by decide +kernel
theorem dT_verify_49 : decode cT_verify 49 = .ok (.aload_n 0, 1) := by decide +kernel
theorem dT_verify_50 : decode cT_verify 50 = .ok (.getfield 57, 3) := by decide +kernel
theorem dT_verify_53 : decode cT_verify 53 = .ok (.if_icmp .gt 29, 3) := by decide +kernel
theorem dT_verify_56 : decode cT_verify 56 = .ok (.lload_n 1, 1) := by decide +kernel
theorem dT_verify_57 : decode cT_verify 57 = .ok (.aload_n 0, 1) := by decide +kernel
theorem dT_verify_58 : decode cT_verify 58 = .ok (.getfield 16, 3) := by decide +kernel
theorem dT_verify_61 : decode cT_verify 61 = .ok (.iload_n 3, 1) := by decide +kernel
theorem dT_verify_62 : decode cT_verify 62 = .ok (.laload, 1) := by decide +kernel
theorem dT_verify_63 : decode cT_verify 63 = .ok (.aload_n 0, 1) := by decide +kernel
theorem dT_verify_64 : decode cT_verify 64 = .ok (.getfield 19, 3) := by decide +kernel
theorem dT_verify_67 : decode cT_verify 67 = .ok (.iload_n 3, 1) := by decide +kernel
theorem dT_verify_68 : decode cT_verify 68 = .ok (.laload, 1) := by decide +kernel
theorem dT_verify_69 : decode cT_verify 69 = .ok (.lmul, 1) := by decide +kernel
theorem dT_verify_70 : decode cT_verify 70 = .ok (.ladd, 1) := by decide +kernel
theorem dT_verify_71 : decode cT_verify 71 = .ok (.ldc2_w 38, 3) := by decide +kernel
theorem dT_verify_74 : decode cT_verify 74 = .ok (.lrem, 1) := by decide +kernel
theorem dT_verify_75 : decode cT_verify 75 = .ok (.lstore_n 1, 1) := by decide +kernel
theorem dT_verify_76 : decode cT_verify 76 = .ok (.iinc 3 1, 3) := by decide +kernel
theorem dT_verify_79 : decode cT_verify 79 = .ok (.goto (-31), 3) := by decide +kernel
theorem dT_verify_82 : decode cT_verify 82 = .ok (.lload_n 1, 1) := by decide +kernel
theorem dT_verify_83 : decode cT_verify 83 = .ok (.aload_n 0, 1) := by decide +kernel
theorem dT_verify_84 : decode cT_verify 84 = .ok (.getfield 22, 3) := by decide +kernel
theorem dT_verify_87 : decode cT_verify 87 = .ok (.iconst 2, 1) := by decide +kernel
theorem dT_verify_88 : decode cT_verify 88 = .ok (.laload, 1) := by decide +kernel
theorem dT_verify_89 : decode cT_verify 89 = .ok (.aload_n 0, 1) := by decide +kernel
theorem dT_verify_90 : decode cT_verify 90 = .ok (.getfield 99, 3) := by decide +kernel
theorem dT_verify_93 : decode cT_verify 93 = .ok (.lmul, 1) := by decide +kernel
theorem dT_verify_94 : decode cT_verify 94 = .ok (.ladd, 1) := by decide +kernel
theorem dT_verify_95 : decode cT_verify 95 = .ok (.ldc2_w 38, 3) := by decide +kernel
theorem dT_verify_98 : decode cT_verify 98 = .ok (.lrem, 1) := by decide +kernel
theorem dT_verify_99 : decode cT_verify 99 = .ok (.lstore_n 1, 1) := by decide +kernel
theorem dT_verify_100 : decode cT_verify 100 = .ok (.aload_n 0, 1) := by decide +kernel
theorem dT_verify_101 : decode cT_verify 101 = .ok (.getfield 22, 3) := by decide +kernel
theorem dT_verify_104 : decode cT_verify 104 = .ok (.iconst 0, 1) := by decide +kernel
theorem dT_verify_105 : decode cT_verify 105 = .ok (.laload, 1) := by decide +kernel
theorem dT_verify_106 : decode cT_verify 106 = .ok (.aload_n 0, 1) := by decide +kernel
theorem dT_verify_107 : decode cT_verify 107 = .ok (.getfield 22, 3) := by decide +kernel
theorem dT_verify_110 : decode cT_verify 110 = .ok (.iconst 1, 1) := by decide +kernel
theorem dT_verify_111 : decode cT_verify 111 = .ok (.laload, 1) := by decide +kernel
theorem dT_verify_112 : decode cT_verify 112 = .ok (.lmul, 1) := by decide +kernel
theorem dT_verify_113 : decode cT_verify 113 = .ok (.ldc2_w 38, 3) := by decide +kernel
theorem dT_verify_116 : decode cT_verify 116 = .ok (.lrem, 1) := by decide +kernel
theorem dT_verify_117 : decode cT_verify 117 = .ok (.lload_n 1, 1) := by decide +kernel
theorem dT_verify_118 : decode cT_verify 118 = .ok (.lcmp, 1) := by decide +kernel
theorem dT_verify_119 : decode cT_verify 119 = .ok (.ifCond .ne 7, 3) := by decide +kernel
theorem dT_verify_122 : decode cT_verify 122 = .ok (.iconst 1, 1) := by decide +kernel
theorem dT_verify_123 : decode cT_verify 123 = .ok (.goto 4, 3) := by decide +kernel
theorem dT_verify_126 : decode cT_verify 126 = .ok (.iconst 0, 1) := by decide +kernel
theorem dT_verify_127 : decode cT_verify 127 = .ok (.ireturn, 1) := by decide +kernel
end
section
theorem dL_alter_0 : decode cL_alter 0 = .ok (.aload_n 3, 1) := by decide +kernel
theorem dL_alter_1 : decode cL_alter 1 = .ok (.iconst 0, 1) := by decide +kernel
theorem dL_alter_2 : decode cL_alter 2 = .ok (.aload_n 0, 1) := by decide +kernel
theorem dL_alter_3 : decode cL_alter 3 = .ok (.iload_n 1, 1) := by decide +kernel
theorem dL_alter_4 : decode cL_alter 4 = .ok (.iload_n 2, 1) := by decide +kernel
theorem dL_alter_5 : decode cL_alter 5 = .ok (.invokevirtual 38, 3) := by decide +kernel
theorem dL_alter_8 : decode cL_alter 8 = .ok (.ifCond .eq 7, 3) := by decide +kernel
theorem dL_alter_11 : decode cL_alter 11 = .ok (.lconst 1, 1) := by decide +kernel
theorem dL_alter_12 : decode cL_alter 12 = .ok (.goto 4, 3) := by decide +kernel
theorem dL_alter_15 : decode cL_alter 15 = .ok (.lconst 0, 1) := by decide +kernel
theorem dL_alter_16 : decode cL_alter 16 = .ok (.lastore, 1) := by decide +kernel
theorem dL_alter_17 : decode cL_alter 17 = .ok (.goto 11, 3) := by decide +kernel
theorem dL_alter_20 : decode cL_alter 20 = .ok (.astore 4, 2) := by decide +kernel
theorem dL_alter_22 : decode cL_alter 22 = .ok (.iconst 1, 1) := by decide +kernel
theorem dL_alter_23 : decode cL_alter 23 = .ok (.ireturn, 1) := by decide +kernel
theorem dL_alter_24 : decode cL_alter 24 = .ok (.astore 4, 2) := by decide +kernel
theorem dL_alter_26 : decode cL_alter 26 = .ok (.iconst 2, 1) := by decide +kernel
theorem dL_alter_27 : decode cL_alter 27 = .ok (.ireturn, 1) := by decide +kernel
theorem dL_alter_28 : decode cL_alter 28 = .ok (.iconst 0, 1) := by decide +kernel
theorem dL_alter_29 : decode cL_alter 29 = .ok (.ireturn, 1) := by decide +kernel
theorem dL_constraint_0 : decode cL_constraint 0 = .ok (.aload_n 1, 1) := by decide +kernel
theorem dL_constraint_1 : decode cL_constraint 1 = .ok (.iconst 0, 1) := by decide +kernel
theorem dL_constraint_2 : decode cL_constraint 2 = .ok (.aload_n 0, 1) := by decide +kernel
theorem dL_constraint_3 : decode cL_constraint 3 = .ok (.invokevirtual 15, 3) := by decide +kernel
theorem dL_constraint_6 : decode cL_constraint 6 = .ok (.i2l, 1) := by decide +kernel
theorem dL_constraint_7 : decode cL_constraint 7 = .ok (.lastore, 1) := by decide +kernel
theorem dL_constraint_8 : decode cL_constraint 8 = .ok (.goto 6, 3) := by decide +kernel
theorem dL_constraint_11 : decode cL_constraint 11 = .ok (.astore_n 2, 1) := by decide +kernel
theorem dL_constraint_12 : decode cL_constraint 12 = .ok (.iconst 1, 1) := by decide +kernel
theorem dL_constraint_13 : decode cL_constraint 13 = .ok (.ireturn, 1) := by decide +kernel
theorem dL_constraint_14 : decode cL_constraint 14 = .ok (.iconst 0, 1) := by decide +kernel
theorem dL_constraint_15 : decode cL_constraint 15 = .ok (.ireturn, 1) := by decide +kernel
theorem dL_input_0 : decode cL_input 0 = .ok (.aload_n 3, 1) := by decide +kernel
theorem dL_input_1 : decode cL_input 1 = .ok (.iconst 0, 1) := by decide +kernel
theorem dL_input_2 : decode cL_input 2 = .ok (.aload_n 0, 1) := by decide +kernel
theorem dL_input_3 : decode cL_input 3 = .ok (.iload_n 1, 1) := by decide +kernel
theorem dL_input_4 : decode cL_input 4 = .ok (.iload_n 2, 1) := by decide +kernel
theorem dL_input_5 : decode cL_input 5 = .ok (.invokevirtual 41, 3) := by decide +kernel
theorem dL_input_8 : decode cL_input 8 = .ok (.ifCond .eq 7, 3) := by decide +kernel
theorem dL_input_11 : decode cL_input 11 = .ok (.lconst 1, 1) := by decide +kernel
theorem dL_input_12 : decode cL_input 12 = .ok (.goto 4, 3) := by decide +kernel
theorem dL_input_15 : decode cL_input 15 = .ok (.lconst 0, 1) := by decide +kernel
theorem dL_input_16 : decode cL_input 16 = .ok (.lastore, 1) := by decide +kernel
theorem dL_input_17 : decode cL_input 17 = .ok (.goto 7, 3) := by decide +kernel
theorem dL_input_20 : decode cL_input 20 = .ok (.astore 4, 2) := by decide +kernel
theorem dL_input_22 : decode cL_input 22 = .ok (.iconst 1, 1) := by decide +kernel
theorem dL_input_23 : decode cL_input 23 = .ok (.ireturn, 1) := by decide +kernel
theorem dL_input_24 : decode cL_input 24 = .ok (.iconst 0, 1) := by decide +kernel
theorem dL_input_25 : decode cL_input 25 = .ok (.ireturn, 1) := by decide +kernel
theorem dL_law_0 : decode cL_law 0 = .ok (.new 8, 3) := by decide +kernel
theorem dL_law_3 : decode cL_law 3 = .ok (.dup, 1) := by decide +kernel
theorem dL_law_4 : decode cL_law 4 = .ok (.invokespecial 48, 3) := by decide +kernel
theorem dL_law_7 : decode cL_law 7 = .ok (.astore_n 1, 1) := by decide +kernel
theorem dL_law_8 : decode cL_law 8 = .ok (.new 49, 3) := by decide +kernel
theorem dL_law_11 : decode cL_law 11 = .ok (.dup, 1) := by decide +kernel
theorem dL_law_12 : decode cL_law 12 = .ok (.invokespecial 51, 3) := by decide +kernel
theorem dL_law_15 : decode cL_law 15 = .ok (.astore_n 2, 1) := by decide +kernel
theorem dL_law_16 : decode cL_law 16 = .ok (.iconst 1, 1) := by decide +kernel
theorem dL_law_17 : decode cL_law 17 = .ok (.newarray .long, 2) := by decide +kernel
theorem dL_law_19 : decode cL_law 19 = .ok (.astore_n 3, 1) := by decide +kernel
theorem dL_law_20 : decode cL_law 20 = .ok (.iconst 0, 1) := by decide +kernel
theorem dL_law_21 : decode cL_law 21 = .ok (.istore 4, 2) := by decide +kernel
theorem dL_law_23 : decode cL_law 23 = .ok (.iload 4, 2) := by decide +kernel
theorem dL_law_25 : decode cL_law 25 = .ok (.aload_n 0, 1) := by decide +kernel
theorem dL_law_26 : decode cL_law 26 = .ok (.arraylength, 1) := by decide +kernel
theorem dL_law_27 : decode cL_law 27 = .ok (.bipush 6, 2) := by decide +kernel
theorem dL_law_29 : decode cL_law 29 = .ok (.isub, 1) := by decide +kernel
theorem dL_law_30 : decode cL_law 30 = .ok (.if_icmp .gt 908, 3) := by decide +kernel
theorem dL_law_33 : decode cL_law 33 = .ok (.aload_n 0, 1) := by decide +kernel
theorem dL_law_34 : decode cL_law 34 = .ok (.iload 4, 2) := by decide +kernel
theorem dL_law_36 : decode cL_law 36 = .ok (.iaload, 1) := by decide +kernel
theorem dL_law_37 : decode cL_law 37 = .ok (.bipush 15, 2) := by decide +kernel
theorem dL_law_39 : decode cL_law 39 = .ok (.iand, 1) := by decide +kernel
theorem dL_law_40 : decode cL_law 40 = .ok (.tableswitch 892 0 14 #[76, 156, 200, 263, 338, 351, 455, 530, 605, 680, 731, 756, 781, 830, 867], 76) := by decide +kernel
theorem dL_law_116 : decode cL_law 116 = .ok (.aload_n 1, 1) := by decide +kernel
theorem dL_law_117 : decode cL_law 117 = .ok (.aload_n 0, 1) := by decide +kernel
theorem dL_law_118 : decode cL_law 118 = .ok (.iload 4, 2) := by decide +kernel
theorem dL_law_120 : decode cL_law 120 = .ok (.iconst 1, 1) := by decide +kernel
theorem dL_law_121 : decode cL_law 121 = .ok (.iadd, 1) := by decide +kernel
theorem dL_law_122 : decode cL_law 122 = .ok (.iaload, 1) := by decide +kernel
theorem dL_law_123 : decode cL_law 123 = .ok (.aload_n 0, 1) := by decide +kernel
theorem dL_law_124 : decode cL_law 124 = .ok (.iload 4, 2) := by decide +kernel
theorem dL_law_126 : decode cL_law 126 = .ok (.iconst 2, 1) := by decide +kernel
theorem dL_law_127 : decode cL_law 127 = .ok (.iadd, 1) := by decide +kernel
theorem dL_law_128 : decode cL_law 128 = .ok (.iaload, 1) := by decide +kernel
theorem dL_law_129 : decode cL_law 129 = .ok (.aload_n 0, 1) := by decide +kernel
theorem dL_law_130 : decode cL_law 130 = .ok (.iload 4, 2) := by decide +kernel
theorem dL_law_132 : decode cL_law 132 = .ok (.iconst 3, 1) := by decide +kernel
theorem dL_law_133 : decode cL_law 133 = .ok (.iadd, 1) := by decide +kernel
theorem dL_law_134 : decode cL_law 134 = .ok (.iaload, 1) := by decide +kernel
theorem dL_law_135 : decode cL_law 135 = .ok (.aload_n 3, 1) := by decide +kernel
theorem dL_law_136 : decode cL_law 136 = .ok (.invokestatic 52, 3) := by decide +kernel
theorem dL_law_139 : decode cL_law 139 = .ok (.istore 5, 2) := by decide +kernel
theorem dL_law_141 : decode cL_law 141 = .ok (.aload_n 2, 1) := by decide +kernel
theorem dL_law_142 : decode cL_law 142 = .ok (.aload_n 0, 1) := by decide +kernel
theorem dL_law_143 : decode cL_law 143 = .ok (.iload 4, 2) := by decide +kernel
theorem dL_law_145 : decode cL_law 145 = .ok (.iconst 1, 1) := by decide +kernel
theorem dL_law_146 : decode cL_law 146 = .ok (.iadd, 1) := by decide +kernel
theorem dL_law_147 : decode cL_law 147 = .ok (.iaload, 1) := by decide +kernel
theorem dL_law_148 : decode cL_law 148 = .ok (.aload_n 0, 1) := by decide +kernel
theorem dL_law_149 : decode cL_law 149 = .ok (.iload 4, 2) := by decide +kernel
theorem dL_law_151 : decode cL_law 151 = .ok (.iconst 2, 1) := by decide +kernel
theorem dL_law_152 : decode cL_law 152 = .ok (.iadd, 1) := by decide +kernel
theorem dL_law_153 : decode cL_law 153 = .ok (.iaload, 1) := by decide +kernel
theorem dL_law_154 : decode cL_law 154 = .ok (.aload_n 0, 1) := by decide +kernel
theorem dL_law_155 : decode cL_law 155 = .ok (.iload 4, 2) := by decide +kernel
theorem dL_law_157 : decode cL_law 157 = .ok (.iconst 3, 1) := by decide +kernel
theorem dL_law_158 : decode cL_law 158 = .ok (.iadd, 1) := by decide +kernel
theorem dL_law_159 : decode cL_law 159 = .ok (.iaload, 1) := by decide +kernel
theorem dL_law_160 : decode cL_law 160 = .ok (.invokevirtual 57, 3) := by decide +kernel
theorem dL_law_163 : decode cL_law 163 = .ok (.istore 6, 2) := by decide +kernel
theorem dL_law_165 : decode cL_law 165 = .ok (.aload_n 2, 1) := by decide +kernel
theorem dL_law_166 : decode cL_law 166 = .ok (.invokevirtual 58, 3) := by decide +kernel
theorem dL_law_169 : decode cL_law 169 = .ok (.iload 5, 2) := by decide +kernel
theorem dL_law_171 : decode cL_law 171 = .ok (.if_icmp .eq 5, 3) := by decide +kernel
theorem dL_law_174 : decode cL_law 174 = .ok (.iconst 0, 1) := by decide +kernel
theorem dL_law_175 : decode cL_law 175 = .ok (.ireturn, 1) := by decide +kernel
theorem dL_law_176 : decode cL_law 176 = .ok (.iload 5, 2) := by decide +kernel
theorem dL_law_178 : decode cL_law 178 = .ok (.ifCond .ne 15, 3) := by decide +kernel
theorem dL_law_181 : decode cL_law 181 = .ok (.aload_n 3, 1) := by decide +kernel
theorem dL_law_182 : decode cL_law 182 = .ok (.iconst 0, 1) := by decide +kernel
theorem dL_law_183 : decode cL_law 183 = .ok (.laload, 1) := by decide +kernel
theorem dL_law_184 : decode cL_law 184 = .ok (.iload 6, 2) := by decide +kernel
theorem dL_law_186 : decode cL_law 186 = .ok (.i2l, 1) := by decide +kernel
theorem dL_law_187 : decode cL_law 187 = .ok (.lcmp, 1) := by decide +kernel
theorem dL_law_188 : decode cL_law 188 = .ok (.ifCond .eq 5, 3) := by decide +kernel
theorem dL_law_191 : decode cL_law 191 = .ok (.iconst 0, 1) := by decide +kernel
theorem dL_law_192 : decode cL_law 192 = .ok (.ireturn, 1) := by decide +kernel
theorem dL_law_193 : decode cL_law 193 = .ok (.goto 739, 3) := by decide +kernel
theorem dL_law_196 : decode cL_law 196 = .ok (.aload_n 1, 1) := by decide +kernel
theorem dL_law_197 : decode cL_law 197 = .ok (.aload_n 3, 1) := by decide +kernel
theorem dL_law_198 : decode cL_law 198 = .ok (.invokestatic 61, 3) := by decide +kernel
theorem dL_law_201 : decode cL_law 201 = .ok (.istore 5, 2) := by decide +kernel
theorem dL_law_203 : decode cL_law 203 = .ok (.aload_n 2, 1) := by decide +kernel
theorem dL_law_204 : decode cL_law 204 = .ok (.invokevirtual 64, 3) := by decide +kernel
theorem dL_law_207 : decode cL_law 207 = .ok (.istore 6, 2) := by decide +kernel
theorem dL_law_209 : decode cL_law 209 = .ok (.aload_n 2, 1) := by decide +kernel
theorem dL_law_210 : decode cL_law 210 = .ok (.invokevirtual 58, 3) := by decide +kernel
theorem dL_law_213 : decode cL_law 213 = .ok (.iload 5, 2) := by decide +kernel
theorem dL_law_215 : decode cL_law 215 = .ok (.if_icmp .eq 5, 3) := by decide +kernel
theorem dL_law_218 : decode cL_law 218 = .ok (.iconst 0, 1) := by decide +kernel
theorem dL_law_219 : decode cL_law 219 = .ok (.ireturn, 1) := by decide +kernel
theorem dL_law_220 : decode cL_law 220 = .ok (.iload 5, 2) := by decide +kernel
theorem dL_law_222 : decode cL_law 222 = .ok (.ifCond .ne 15, 3) := by decide +kernel
theorem dL_law_225 : decode cL_law 225 = .ok (.aload_n 3, 1) := by decide +kernel
theorem dL_law_226 : decode cL_law 226 = .ok (.iconst 0, 1) := by decide +kernel
theorem dL_law_227 : decode cL_law 227 = .ok (.laload, 1) := by decide +kernel
theorem dL_law_228 : decode cL_law 228 = .ok (.iload 6, 2) := by decide +kernel
theorem dL_law_230 : decode cL_law 230 = .ok (.i2l, 1) := by decide +kernel
theorem dL_law_231 : decode cL_law 231 = .ok (.lcmp, 1) := by decide +kernel
theorem dL_law_232 : decode cL_law 232 = .ok (.ifCond .eq 5, 3) := by decide +kernel
theorem dL_law_235 : decode cL_law 235 = .ok (.iconst 0, 1) := by decide +kernel
theorem dL_law_236 : decode cL_law 236 = .ok (.ireturn, 1) := by decide +kernel
theorem dL_law_237 : decode cL_law 237 = .ok (.goto 695, 3) := by decide +kernel
theorem dL_law_240 : decode cL_law 240 = .ok (.aload_n 1, 1) := by decide +kernel
theorem dL_law_241 : decode cL_law 241 = .ok (.aload_n 0, 1) := by decide +kernel
theorem dL_law_242 : decode cL_law 242 = .ok (.iload 4, 2) := by decide +kernel
theorem dL_law_244 : decode cL_law 244 = .ok (.iconst 1, 1) := by decide +kernel
theorem dL_law_245 : decode cL_law 245 = .ok (.iadd, 1) := by decide +kernel
theorem dL_law_246 : decode cL_law 246 = .ok (.iaload, 1) := by decide +kernel
theorem dL_law_247 : decode cL_law 247 = .ok (.aload_n 3, 1) := by decide +kernel
theorem dL_law_248 : decode cL_law 248 = .ok (.invokestatic 65, 3) := by decide +kernel
theorem dL_law_251 : decode cL_law 251 = .ok (.istore 5, 2) := by decide +kernel
theorem dL_law_253 : decode cL_law 253 = .ok (.aload_n 2, 1) := by decide +kernel
theorem dL_law_254 : decode cL_law 254 = .ok (.aload_n 0, 1) := by decide +kernel
theorem dL_law_255 : decode cL_law 255 = .ok (.iload 4, 2) := by decide +kernel
theorem dL_law_257 : decode cL_law 257 = .ok (.iconst 1, 1) := by decide +kernel
theorem dL_law_258 : decode cL_law 258 = .ok (.iadd, 1) := by decide +kernel
theorem dL_law_259 : decode cL_law 259 = .ok (.iaload, 1) := by decide +kernel
theorem dL_law_260 : decode cL_law 260 = .ok (.invokevirtual 68, 3) := by decide +kernel
theorem dL_law_263 : decode cL_law 263 = .ok (.istore 6, 2) := by decide +kernel
theorem dL_law_265 : decode cL_law 265 = .ok (.aload_n 2, 1) := by decide +kernel
theorem dL_law_266 : decode cL_law 266 = .ok (.invokevirtual 58, 3) := by decide +kernel
theorem dL_law_269 : decode cL_law 269 = .ok (.iload 5, 2) := by decide +kernel
theorem dL_law_271 : decode cL_law 271 = .ok (.if_icmp .eq 5, 3) := by decide +kernel
theorem dL_law_274 : decode cL_law 274 = .ok (.iconst 0, 1) := by decide +kernel
theorem dL_law_275 : decode cL_law 275 = .ok (.ireturn, 1) := by decide +kernel
theorem dL_law_276 : decode cL_law 276 = .ok (.iload 5, 2) := by decide +kernel
theorem dL_law_278 : decode cL_law 278 = .ok (.ifCond .ne 22, 3) := by decide +kernel
theorem dL_law_281 : decode cL_law 281 = .ok (.aload_n 3, 1) := by decide +kernel
theorem dL_law_282 : decode cL_law 282 = .ok (.iconst 0, 1) := by decide +kernel
theorem dL_law_283 : decode cL_law 283 = .ok (.laload, 1) := by decide +kernel
theorem dL_law_284 : decode cL_law 284 = .ok (.iload 6, 2) := by decide +kernel
theorem dL_law_286 : decode cL_law 286 = .ok (.ifCond .eq 7, 3) := by decide +kernel
theorem dL_law_289 : decode cL_law 289 = .ok (.lconst 1, 1) := by decide +kernel
theorem dL_law_290 : decode cL_law 290 = .ok (.goto 4, 3) := by decide +kernel
theorem dL_law_293 : decode cL_law 293 = .ok (.lconst 0, 1) := by decide +kernel
theorem dL_law_294 : decode cL_law 294 = .ok (.lcmp, 1) := by decide +kernel
theorem dL_law_295 : decode cL_law 295 = .ok (.ifCond .eq 5, 3) := by decide +kernel
theorem dL_law_298 : decode cL_law 298 = .ok (.iconst 0, 1) := by decide +kernel
theorem dL_law_299 : decode cL_law 299 = .ok (.ireturn, 1) := by decide +kernel
theorem dL_law_300 : decode cL_law 300 = .ok (.goto 632, 3) := by decide +kernel
theorem dL_law_303 : decode cL_law 303 = .ok (.aload_n 1, 1) := by decide +kernel
theorem dL_law_304 : decode cL_law 304 = .ok (.aload_n 0, 1) := by decide +kernel
theorem dL_law_305 : decode cL_law 305 = .ok (.iload 4, 2) := by decide +kernel
theorem dL_law_307 : decode cL_law 307 = .ok (.iconst 1, 1) := by decide +kernel
theorem dL_law_308 : decode cL_law 308 = .ok (.iadd, 1) := by decide +kernel
theorem dL_law_309 : decode cL_law 309 = .ok (.iaload, 1) := by decide +kernel
theorem dL_law_310 : decode cL_law 310 = .ok (.aload_n 0, 1) := by decide +kernel
theorem dL_law_311 : decode cL_law 311 = .ok (.iload 4, 2) := by decide +kernel
theorem dL_law_313 : decode cL_law 313 = .ok (.iconst 2, 1) := by decide +kernel
theorem dL_law_314 : decode cL_law 314 = .ok (.iadd, 1) := by decide +kernel
theorem dL_law_315 : decode cL_law 315 = .ok (.iaload, 1) := by decide +kernel
theorem dL_law_316 : decode cL_law 316 = .ok (.aload_n 3, 1) := by decide +kernel
theorem dL_law_317 : decode cL_law 317 = .ok (.invokestatic 69, 3) := by decide +kernel
theorem dL_law_320 : decode cL_law 320 = .ok (.istore 5, 2) := by decide +kernel
theorem dL_law_322 : decode cL_law 322 = .ok (.aload_n 2, 1) := by decide +kernel
theorem dL_law_323 : decode cL_law 323 = .ok (.aload_n 0, 1) := by decide +kernel
theorem dL_law_324 : decode cL_law 324 = .ok (.iload 4, 2) := by decide +kernel
theorem dL_law_326 : decode cL_law 326 = .ok (.iconst 1, 1) := by decide +kernel
theorem dL_law_327 : decode cL_law 327 = .ok (.iadd, 1) := by decide +kernel
theorem dL_law_328 : decode cL_law 328 = .ok (.iaload, 1) := by decide +kernel
theorem dL_law_329 : decode cL_law 329 = .ok (.aload_n 0, 1) := by decide +kernel
theorem dL_law_330 : decode cL_law 330 = .ok (.iload 4, 2) := by decide +kernel
theorem dL_law_332 : decode cL_law 332 = .ok (.iconst 2, 1) := by decide +kernel
theorem dL_law_333 : decode cL_law 333 = .ok (.iadd, 1) := by decide +kernel
theorem dL_law_334 : decode cL_law 334 = .ok (.iaload, 1) := by decide +kernel
theorem dL_law_335 : decode cL_law 335 = .ok (.invokevirtual 72, 3) := by decide +kernel
theorem dL_law_338 : decode cL_law 338 = .ok (.istore 6, 2) := by decide +kernel
theorem dL_law_340 : decode cL_law 340 = .ok (.aload_n 2, 1) := by decide +kernel
theorem dL_law_341 : decode cL_law 341 = .ok (.invokevirtual 58, 3) := by decide +kernel
theorem dL_law_344 : decode cL_law 344 = .ok (.iload 5, 2) := by decide +kernel
theorem dL_law_346 : decode cL_law 346 = .ok (.if_icmp .eq 5, 3) := by decide +kernel
theorem dL_law_349 : decode cL_law 349 = .ok (.iconst 0, 1) := by decide +kernel
theorem dL_law_350 : decode cL_law 350 = .ok (.ireturn, 1) := by decide +kernel
theorem dL_law_351 : decode cL_law 351 = .ok (.iload 5, 2) := by decide +kernel
theorem dL_law_353 : decode cL_law 353 = .ok (.ifCond .ne 22, 3) := by decide +kernel
theorem dL_law_356 : decode cL_law 356 = .ok (.aload_n 3, 1) := by decide +kernel
theorem dL_law_357 : decode cL_law 357 = .ok (.iconst 0, 1) := by decide +kernel
theorem dL_law_358 : decode cL_law 358 = .ok (.laload, 1) := by decide +kernel
theorem dL_law_359 : decode cL_law 359 = .ok (.iload 6, 2) := by decide +kernel
theorem dL_law_361 : decode cL_law 361 = .ok (.ifCond .eq 7, 3) := by decide +kernel
theorem dL_law_364 : decode cL_law 364 = .ok (.lconst 1, 1) := by decide +kernel
theorem dL_law_365 : decode cL_law 365 = .ok (.goto 4, 3) := by decide +kernel
theorem dL_law_368 : decode cL_law 368 = .ok (.lconst 0, 1) := by decide +kernel
theorem dL_law_369 : decode cL_law 369 = .ok (.lcmp, 1) := by decide +kernel
theorem dL_law_370 : decode cL_law 370 = .ok (.ifCond .eq 5, 3) := by decide +kernel
theorem dL_law_373 : decode cL_law 373 = .ok (.iconst 0, 1) := by decide +kernel
theorem dL_law_374 : decode cL_law 374 = .ok (.ireturn, 1) := by decide +kernel
theorem dL_law_375 : decode cL_law 375 = .ok (.goto 557, 3) := by decide +kernel
theorem dL_law_378 : decode cL_law 378 = .ok (.aload_n 1, 1) := by decide +kernel
theorem dL_law_379 : decode cL_law 379 = .ok (.invokevirtual 73, 3) := by decide +kernel
theorem dL_law_382 : decode cL_law 382 = .ok (.aload_n 2, 1) := by decide +kernel
theorem dL_law_383 : decode cL_law 383 = .ok (.invokevirtual 76, 3) := by decide +kernel
theorem dL_law_386 : decode cL_law 386 = .ok (.if_icmp .eq 546, 3) := by decide +kernel
theorem dL_law_389 : decode cL_law 389 = .ok (.iconst 0, 1) := by decide +kernel
theorem dL_law_390 : decode cL_law 390 = .ok (.ireturn, 1) := by decide +kernel
theorem dL_law_391 : decode cL_law 391 = .ok (.aload_n 1, 1) := by decide +kernel
theorem dL_law_392 : decode cL_law 392 = .ok (.aload_n 0, 1) := by decide +kernel
theorem dL_law_393 : decode cL_law 393 = .ok (.iload 4, 2) := by decide +kernel
theorem dL_law_395 : decode cL_law 395 = .ok (.iconst 1, 1) := by decide +kernel
theorem dL_law_396 : decode cL_law 396 = .ok (.iadd, 1) := by decide +kernel
theorem dL_law_397 : decode cL_law 397 = .ok (.iaload, 1) := by decide +kernel
theorem dL_law_398 : decode cL_law 398 = .ok (.aload_n 0, 1) := by decide +kernel
theorem dL_law_399 : decode cL_law 399 = .ok (.iload 4, 2) := by decide +kernel
theorem dL_law_401 : decode cL_law 401 = .ok (.iconst 2, 1) := by decide +kernel
theorem dL_law_402 : decode cL_law 402 = .ok (.iadd, 1) := by decide +kernel
theorem dL_law_403 : decode cL_law 403 = .ok (.iaload, 1) := by decide +kernel
theorem dL_law_404 : decode cL_law 404 = .ok (.aload_n 0, 1) := by decide +kernel
theorem dL_law_405 : decode cL_law 405 = .ok (.iload 4, 2) := by decide +kernel
theorem dL_law_407 : decode cL_law 407 = .ok (.iconst 3, 1) := by decide +kernel
theorem dL_law_408 : decode cL_law 408 = .ok (.iadd, 1) := by decide +kernel
theorem dL_law_409 : decode cL_law 409 = .ok (.iaload, 1) := by decide +kernel
theorem dL_law_410 : decode cL_law 410 = .ok (.aload_n 0, 1) := by decide +kernel
theorem dL_law_411 : decode cL_law 411 = .ok (.iload 4, 2) := by decide +kernel
theorem dL_law_413 : decode cL_law 413 = .ok (.iconst 4, 1) := by decide +kernel
theorem dL_law_414 : decode cL_law 414 = .ok (.iadd, 1) := by decide +kernel
theorem dL_law_415 : decode cL_law 415 = .ok (.iaload, 1) := by decide +kernel
theorem dL_law_416 : decode cL_law 416 = .ok (.aload_n 0, 1) := by decide +kernel
theorem dL_law_417 : decode cL_law 417 = .ok (.iload 4, 2) := by decide +kernel
theorem dL_law_419 : decode cL_law 419 = .ok (.iconst 5, 1) := by decide +kernel
theorem dL_law_420 : decode cL_law 420 = .ok (.iadd, 1) := by decide +kernel
theorem dL_law_421 : decode cL_law 421 = .ok (.iaload, 1) := by decide +kernel
theorem dL_law_422 : decode cL_law 422 = .ok (.aload_n 3, 1) := by decide +kernel
theorem dL_law_423 : decode cL_law 423 = .ok (.invokestatic 77, 3) := by decide +kernel
theorem dL_law_426 : decode cL_law 426 = .ok (.istore 5, 2) := by decide +kernel
theorem dL_law_428 : decode cL_law 428 = .ok (.aload_n 2, 1) := by decide +kernel
theorem dL_law_429 : decode cL_law 429 = .ok (.aload_n 0, 1) := by decide +kernel
theorem dL_law_430 : decode cL_law 430 = .ok (.iload 4, 2) := by decide +kernel
theorem dL_law_432 : decode cL_law 432 = .ok (.iconst 1, 1) := by decide +kernel
theorem dL_law_433 : decode cL_law 433 = .ok (.iadd, 1) := by decide +kernel
theorem dL_law_434 : decode cL_law 434 = .ok (.iaload, 1) := by decide +kernel
theorem dL_law_435 : decode cL_law 435 = .ok (.aload_n 0, 1) := by decide +kernel
theorem dL_law_436 : decode cL_law 436 = .ok (.iload 4, 2) := by decide +kernel
theorem dL_law_438 : decode cL_law 438 = .ok (.iconst 2, 1) := by decide +kernel
theorem dL_law_439 : decode cL_law 439 = .ok (.iadd, 1) := by decide +kernel
theorem dL_law_440 : decode cL_law 440 = .ok (.iaload, 1) := by decide +kernel
theorem dL_law_441 : decode cL_law 441 = .ok (.aload_n 0, 1) := by decide +kernel
theorem dL_law_442 : decode cL_law 442 = .ok (.iload 4, 2) := by decide +kernel
theorem dL_law_444 : decode cL_law 444 = .ok (.iconst 3, 1) := by decide +kernel
theorem dL_law_445 : decode cL_law 445 = .ok (.iadd, 1) := by decide +kernel
theorem dL_law_446 : decode cL_law 446 = .ok (.iaload, 1) := by decide +kernel
theorem dL_law_447 : decode cL_law 447 = .ok (.aload_n 0, 1) := by decide +kernel
theorem dL_law_448 : decode cL_law 448 = .ok (.iload 4, 2) := by decide +kernel
theorem dL_law_450 : decode cL_law 450 = .ok (.iconst 4, 1) := by decide +kernel
theorem dL_law_451 : decode cL_law 451 = .ok (.iadd, 1) := by decide +kernel
theorem dL_law_452 : decode cL_law 452 = .ok (.iaload, 1) := by decide +kernel
theorem dL_law_453 : decode cL_law 453 = .ok (.aload_n 0, 1) := by decide +kernel
theorem dL_law_454 : decode cL_law 454 = .ok (.iload 4, 2) := by decide +kernel
theorem dL_law_456 : decode cL_law 456 = .ok (.iconst 5, 1) := by decide +kernel
theorem dL_law_457 : decode cL_law 457 = .ok (.iadd, 1) := by decide +kernel
theorem dL_law_458 : decode cL_law 458 = .ok (.iaload, 1) := by decide +kernel
theorem dL_law_459 : decode cL_law 459 = .ok (.invokevirtual 80, 3) := by decide +kernel
theorem dL_law_462 : decode cL_law 462 = .ok (.istore 6, 2) := by decide +kernel
theorem dL_law_464 : decode cL_law 464 = .ok (.aload_n 2, 1) := by decide +kernel
theorem dL_law_465 : decode cL_law 465 = .ok (.invokevirtual 58, 3) := by decide +kernel
theorem dL_law_468 : decode cL_law 468 = .ok (.iload 5, 2) := by decide +kernel
theorem dL_law_470 : decode cL_law 470 = .ok (.if_icmp .eq 5, 3) := by decide +kernel
theorem dL_law_473 : decode cL_law 473 = .ok (.iconst 0, 1) := by decide +kernel
theorem dL_law_474 : decode cL_law 474 = .ok (.ireturn, 1) := by decide +kernel
theorem dL_law_475 : decode cL_law 475 = .ok (.iload 5, 2) := by decide +kernel
theorem dL_law_477 : decode cL_law 477 = .ok (.ifCond .ne 15, 3) := by decide +kernel
theorem dL_law_480 : decode cL_law 480 = .ok (.aload_n 3, 1) := by decide +kernel
theorem dL_law_481 : decode cL_law 481 = .ok (.iconst 0, 1) := by decide +kernel
theorem dL_law_482 : decode cL_law 482 = .ok (.laload, 1) := by decide +kernel
theorem dL_law_483 : decode cL_law 483 = .ok (.iload 6, 2) := by decide +kernel
theorem dL_law_485 : decode cL_law 485 = .ok (.i2l, 1) := by decide +kernel
theorem dL_law_486 : decode cL_law 486 = .ok (.lcmp, 1) := by decide +kernel
theorem dL_law_487 : decode cL_law 487 = .ok (.ifCond .eq 5, 3) := by decide +kernel
theorem dL_law_490 : decode cL_law 490 = .ok (.iconst 0, 1) := by decide +kernel
theorem dL_law_491 : decode cL_law 491 = .ok (.ireturn, 1) := by decide +kernel
theorem dL_law_492 : decode cL_law 492 = .ok (.goto 440, 3) := by decide +kernel
theorem dL_law_495 : decode cL_law 495 = .ok (.aload_n 1, 1) := by decide +kernel
theorem dL_law_496 : decode cL_law 496 = .ok (.aload_n 0, 1) := by decide +kernel
theorem dL_law_497 : decode cL_law 497 = .ok (.iload 4, 2) := by decide +kernel
theorem dL_law_499 : decode cL_law 499 = .ok (.iconst 1, 1) := by decide +kernel
theorem dL_law_500 : decode cL_law 500 = .ok (.iadd, 1) := by decide +kernel
theorem dL_law_501 : decode cL_law 501 = .ok (.iaload, 1) := by decide +kernel
theorem dL_law_502 : decode cL_law 502 = .ok (.aload_n 0, 1) := by decide +kernel
theorem dL_law_503 : decode cL_law 503 = .ok (.iload 4, 2) := by decide +kernel
theorem dL_law_505 : decode cL_law 505 = .ok (.iconst 2, 1) := by decide +kernel
theorem dL_law_506 : decode cL_law 506 = .ok (.iadd, 1) := by decide +kernel
theorem dL_law_507 : decode cL_law 507 = .ok (.iaload, 1) := by decide +kernel
theorem dL_law_508 : decode cL_law 508 = .ok (.aload_n 3, 1) := by decide +kernel
theorem dL_law_509 : decode cL_law 509 = .ok (.invokestatic 81, 3) := by decide +kernel
theorem dL_law_512 : decode cL_law 512 = .ok (.istore 5, 2) := by decide +kernel
theorem dL_law_514 : decode cL_law 514 = .ok (.aload_n 2, 1) := by decide +kernel
theorem dL_law_515 : decode cL_law 515 = .ok (.aload_n 0, 1) := by decide +kernel
theorem dL_law_516 : decode cL_law 516 = .ok (.iload 4, 2) := by decide +kernel
theorem dL_law_518 : decode cL_law 518 = .ok (.iconst 1, 1) := by decide +kernel
theorem dL_law_519 : decode cL_law 519 = .ok (.iadd, 1) := by decide +kernel
theorem dL_law_520 : decode cL_law 520 = .ok (.iaload, 1) := by decide +kernel
theorem dL_law_521 : decode cL_law 521 = .ok (.aload_n 0, 1) := by decide +kernel
theorem dL_law_522 : decode cL_law 522 = .ok (.iload 4, 2) := by decide +kernel
theorem dL_law_524 : decode cL_law 524 = .ok (.iconst 2, 1) := by decide +kernel
theorem dL_law_525 : decode cL_law 525 = .ok (.iadd, 1) := by decide +kernel
theorem dL_law_526 : decode cL_law 526 = .ok (.iaload, 1) := by decide +kernel
theorem dL_law_527 : decode cL_law 527 = .ok (.invokevirtual 83, 3) := by decide +kernel
theorem dL_law_530 : decode cL_law 530 = .ok (.istore 6, 2) := by decide +kernel
theorem dL_law_532 : decode cL_law 532 = .ok (.aload_n 2, 1) := by decide +kernel
theorem dL_law_533 : decode cL_law 533 = .ok (.invokevirtual 58, 3) := by decide +kernel
theorem dL_law_536 : decode cL_law 536 = .ok (.iload 5, 2) := by decide +kernel
theorem dL_law_538 : decode cL_law 538 = .ok (.if_icmp .eq 5, 3) := by decide +kernel
theorem dL_law_541 : decode cL_law 541 = .ok (.iconst 0, 1) := by decide +kernel
theorem dL_law_542 : decode cL_law 542 = .ok (.ireturn, 1) := by decide +kernel
theorem dL_law_543 : decode cL_law 543 = .ok (.iload 5, 2) := by decide +kernel
theorem dL_law_545 : decode cL_law 545 = .ok (.ifCond .ne 22, 3) := by decide +kernel
theorem dL_law_548 : decode cL_law 548 = .ok (.aload_n 3, 1) := by decide +kernel
theorem dL_law_549 : decode cL_law 549 = .ok (.iconst 0, 1) := by decide +kernel
theorem dL_law_550 : decode cL_law 550 = .ok (.laload, 1) := by decide +kernel
end
section
theorem dL_law_551 : decode cL_law 551 = .ok (.iload 6, 2) := by decide +kernel
theorem dL_law_553 : decode cL_law 553 = .ok (.ifCond .eq 7, 3) := by decide +kernel
theorem dL_law_556 : decode cL_law 556 = .ok (.lconst 1, 1) := by decide +kernel
theorem dL_law_557 : decode cL_law 557 = .ok (.goto 4, 3) := by decide +kernel
theorem dL_law_560 : decode cL_law 560 = .ok (.lconst 0, 1) := by decide +kernel
theorem dL_law_561 : decode cL_law 561 = .ok (.lcmp, 1) := by decide +kernel
theorem dL_law_562 : decode cL_law 562 = .ok (.ifCond .eq 5, 3) := by decide +kernel
theorem dL_law_565 : decode cL_law 565 = .ok (.iconst 0, 1) := by decide +kernel
theorem dL_law_566 : decode cL_law 566 = .ok (.ireturn, 1) := by decide +kernel
theorem dL_law_567 : decode cL_law 567 = .ok (.goto 365, 3) := by decide +kernel
theorem dL_law_570 : decode cL_law 570 = .ok (.aload_n 1, 1) := by decide +kernel
theorem dL_law_571 : decode cL_law 571 = .ok (.aload_n 0, 1) := by decide +kernel
theorem dL_law_572 : decode cL_law 572 = .ok (.iload 4, 2) := by decide +kernel
theorem dL_law_574 : decode cL_law 574 = .ok (.iconst 1, 1) := by decide +kernel
theorem dL_law_575 : decode cL_law 575 = .ok (.iadd, 1) := by decide +kernel
theorem dL_law_576 : decode cL_law 576 = .ok (.iaload, 1) := by decide +kernel
theorem dL_law_577 : decode cL_law 577 = .ok (.aload_n 0, 1) := by decide +kernel
theorem dL_law_578 : decode cL_law 578 = .ok (.iload 4, 2) := by decide +kernel
theorem dL_law_580 : decode cL_law 580 = .ok (.iconst 2, 1) := by decide +kernel
theorem dL_law_581 : decode cL_law 581 = .ok (.iadd, 1) := by decide +kernel
theorem dL_law_582 : decode cL_law 582 = .ok (.iaload, 1) := by decide +kernel
theorem dL_law_583 : decode cL_law 583 = .ok (.aload_n 3, 1) := by decide +kernel
theorem dL_law_584 : decode cL_law 584 = .ok (.invokestatic 84, 3) := by decide +kernel
theorem dL_law_587 : decode cL_law 587 = .ok (.istore 5, 2) := by decide +kernel
theorem dL_law_589 : decode cL_law 589 = .ok (.aload_n 2, 1) := by decide +kernel
theorem dL_law_590 : decode cL_law 590 = .ok (.aload_n 0, 1) := by decide +kernel
theorem dL_law_591 : decode cL_law 591 = .ok (.iload 4, 2) := by decide +kernel
theorem dL_law_593 : decode cL_law 593 = .ok (.iconst 1, 1) := by decide +kernel
theorem dL_law_594 : decode cL_law 594 = .ok (.iadd, 1) := by decide +kernel
theorem dL_law_595 : decode cL_law 595 = .ok (.iaload, 1) := by decide +kernel
theorem dL_law_596 : decode cL_law 596 = .ok (.aload_n 0, 1) := by decide +kernel
theorem dL_law_597 : decode cL_law 597 = .ok (.iload 4, 2) := by decide +kernel
theorem dL_law_599 : decode cL_law 599 = .ok (.iconst 2, 1) := by decide +kernel
theorem dL_law_600 : decode cL_law 600 = .ok (.iadd, 1) := by decide +kernel
theorem dL_law_601 : decode cL_law 601 = .ok (.iaload, 1) := by decide +kernel
theorem dL_law_602 : decode cL_law 602 = .ok (.invokevirtual 86, 3) := by decide +kernel
theorem dL_law_605 : decode cL_law 605 = .ok (.istore 6, 2) := by decide +kernel
theorem dL_law_607 : decode cL_law 607 = .ok (.aload_n 2, 1) := by decide +kernel
theorem dL_law_608 : decode cL_law 608 = .ok (.invokevirtual 58, 3) := by decide +kernel
theorem dL_law_611 : decode cL_law 611 = .ok (.iload 5, 2) := by decide +kernel
theorem dL_law_613 : decode cL_law 613 = .ok (.if_icmp .eq 5, 3) := by decide +kernel
theorem dL_law_616 : decode cL_law 616 = .ok (.iconst 0, 1) := by decide +kernel
theorem dL_law_617 : decode cL_law 617 = .ok (.ireturn, 1) := by decide +kernel
theorem dL_law_618 : decode cL_law 618 = .ok (.iload 5, 2) := by decide +kernel
theorem dL_law_620 : decode cL_law 620 = .ok (.ifCond .ne 22, 3) := by decide +kernel
theorem dL_law_623 : decode cL_law 623 = .ok (.aload_n 3, 1) := by decide +kernel
theorem dL_law_624 : decode cL_law 624 = .ok (.iconst 0, 1) := by decide +kernel
theorem dL_law_625 : decode cL_law 625 = .ok (.laload, 1) := by decide +kernel
theorem dL_law_626 : decode cL_law 626 = .ok (.iload 6, 2) := by decide +kernel
theorem dL_law_628 : decode cL_law 628 = .ok (.ifCond .eq 7, 3) := by decide +kernel
theorem dL_law_631 : decode cL_law 631 = .ok (.lconst 1, 1) := by decide +kernel
theorem dL_law_632 : decode cL_law 632 = .ok (.goto 4, 3) := by decide +kernel
theorem dL_law_635 : decode cL_law 635 = .ok (.lconst 0, 1) := by decide +kernel
theorem dL_law_636 : decode cL_law 636 = .ok (.lcmp, 1) := by decide +kernel
theorem dL_law_637 : decode cL_law 637 = .ok (.ifCond .eq 5, 3) := by decide +kernel
theorem dL_law_640 : decode cL_law 640 = .ok (.iconst 0, 1) := by decide +kernel
theorem dL_law_641 : decode cL_law 641 = .ok (.ireturn, 1) := by decide +kernel
theorem dL_law_642 : decode cL_law 642 = .ok (.goto 290, 3) := by decide +kernel
theorem dL_law_645 : decode cL_law 645 = .ok (.aload_n 1, 1) := by decide +kernel
theorem dL_law_646 : decode cL_law 646 = .ok (.aload_n 0, 1) := by decide +kernel
theorem dL_law_647 : decode cL_law 647 = .ok (.iload 4, 2) := by decide +kernel
theorem dL_law_649 : decode cL_law 649 = .ok (.iconst 1, 1) := by decide +kernel
theorem dL_law_650 : decode cL_law 650 = .ok (.iadd, 1) := by decide +kernel
theorem dL_law_651 : decode cL_law 651 = .ok (.iaload, 1) := by decide +kernel
theorem dL_law_652 : decode cL_law 652 = .ok (.aload_n 0, 1) := by decide +kernel
theorem dL_law_653 : decode cL_law 653 = .ok (.iload 4, 2) := by decide +kernel
theorem dL_law_655 : decode cL_law 655 = .ok (.iconst 2, 1) := by decide +kernel
theorem dL_law_656 : decode cL_law 656 = .ok (.iadd, 1) := by decide +kernel
theorem dL_law_657 : decode cL_law 657 = .ok (.iaload, 1) := by decide +kernel
theorem dL_law_658 : decode cL_law 658 = .ok (.aload_n 3, 1) := by decide +kernel
theorem dL_law_659 : decode cL_law 659 = .ok (.invokestatic 87, 3) := by decide +kernel
theorem dL_law_662 : decode cL_law 662 = .ok (.istore 5, 2) := by decide +kernel
theorem dL_law_664 : decode cL_law 664 = .ok (.aload_n 2, 1) := by decide +kernel
theorem dL_law_665 : decode cL_law 665 = .ok (.aload_n 0, 1) := by decide +kernel
theorem dL_law_666 : decode cL_law 666 = .ok (.iload 4, 2) := by decide +kernel
theorem dL_law_668 : decode cL_law 668 = .ok (.iconst 1, 1) := by decide +kernel
theorem dL_law_669 : decode cL_law 669 = .ok (.iadd, 1) := by decide +kernel
theorem dL_law_670 : decode cL_law 670 = .ok (.iaload, 1) := by decide +kernel
theorem dL_law_671 : decode cL_law 671 = .ok (.aload_n 0, 1) := by decide +kernel
theorem dL_law_672 : decode cL_law 672 = .ok (.iload 4, 2) := by decide +kernel
theorem dL_law_674 : decode cL_law 674 = .ok (.iconst 2, 1) := by decide +kernel
theorem dL_law_675 : decode cL_law 675 = .ok (.iadd, 1) := by decide +kernel
theorem dL_law_676 : decode cL_law 676 = .ok (.iaload, 1) := by decide +kernel
theorem dL_law_677 : decode cL_law 677 = .ok (.invokevirtual 89, 3) := by decide +kernel
theorem dL_law_680 : decode cL_law 680 = .ok (.istore 6, 2) := by decide +kernel
theorem dL_law_682 : decode cL_law 682 = .ok (.aload_n 2, 1) := by decide +kernel
theorem dL_law_683 : decode cL_law 683 = .ok (.invokevirtual 58, 3) := by decide +kernel
theorem dL_law_686 : decode cL_law 686 = .ok (.iload 5, 2) := by decide +kernel
theorem dL_law_688 : decode cL_law 688 = .ok (.if_icmp .eq 5, 3) := by decide +kernel
theorem dL_law_691 : decode cL_law 691 = .ok (.iconst 0, 1) := by decide +kernel
theorem dL_law_692 : decode cL_law 692 = .ok (.ireturn, 1) := by decide +kernel
theorem dL_law_693 : decode cL_law 693 = .ok (.iload 5, 2) := by decide +kernel
theorem dL_law_695 : decode cL_law 695 = .ok (.ifCond .ne 22, 3) := by decide +kernel
theorem dL_law_698 : decode cL_law 698 = .ok (.aload_n 3, 1) := by decide +kernel
theorem dL_law_699 : decode cL_law 699 = .ok (.iconst 0, 1) := by decide +kernel
theorem dL_law_700 : decode cL_law 700 = .ok (.laload, 1) := by decide +kernel
theorem dL_law_701 : decode cL_law 701 = .ok (.iload 6, 2) := by decide +kernel
theorem dL_law_703 : decode cL_law 703 = .ok (.ifCond .eq 7, 3) := by decide +kernel
theorem dL_law_706 : decode cL_law 706 = .ok (.lconst 1, 1) := by decide +kernel
theorem dL_law_707 : decode cL_law 707 = .ok (.goto 4, 3) := by decide +kernel
theorem dL_law_710 : decode cL_law 710 = .ok (.lconst 0, 1) := by decide +kernel
theorem dL_law_711 : decode cL_law 711 = .ok (.lcmp, 1) := by decide +kernel
theorem dL_law_712 : decode cL_law 712 = .ok (.ifCond .eq 5, 3) := by decide +kernel
theorem dL_law_715 : decode cL_law 715 = .ok (.iconst 0, 1) := by decide +kernel
theorem dL_law_716 : decode cL_law 716 = .ok (.ireturn, 1) := by decide +kernel
theorem dL_law_717 : decode cL_law 717 = .ok (.goto 215, 3) := by decide +kernel
theorem dL_law_720 : decode cL_law 720 = .ok (.aload_n 1, 1) := by decide +kernel
theorem dL_law_721 : decode cL_law 721 = .ok (.aload_n 3, 1) := by decide +kernel
theorem dL_law_722 : decode cL_law 722 = .ok (.invokestatic 90, 3) := by decide +kernel
theorem dL_law_725 : decode cL_law 725 = .ok (.istore 5, 2) := by decide +kernel
theorem dL_law_727 : decode cL_law 727 = .ok (.aload_n 2, 1) := by decide +kernel
theorem dL_law_728 : decode cL_law 728 = .ok (.invokevirtual 92, 3) := by decide +kernel
theorem dL_law_731 : decode cL_law 731 = .ok (.istore 6, 2) := by decide +kernel
theorem dL_law_733 : decode cL_law 733 = .ok (.aload_n 2, 1) := by decide +kernel
theorem dL_law_734 : decode cL_law 734 = .ok (.invokevirtual 58, 3) := by decide +kernel
theorem dL_law_737 : decode cL_law 737 = .ok (.iload 5, 2) := by decide +kernel
theorem dL_law_739 : decode cL_law 739 = .ok (.if_icmp .eq 5, 3) := by decide +kernel
theorem dL_law_742 : decode cL_law 742 = .ok (.iconst 0, 1) := by decide +kernel
theorem dL_law_743 : decode cL_law 743 = .ok (.ireturn, 1) := by decide +kernel
theorem dL_law_744 : decode cL_law 744 = .ok (.iload 5, 2) := by decide +kernel
theorem dL_law_746 : decode cL_law 746 = .ok (.ifCond .ne 22, 3) := by decide +kernel
theorem dL_law_749 : decode cL_law 749 = .ok (.aload_n 3, 1) := by decide +kernel
theorem dL_law_750 : decode cL_law 750 = .ok (.iconst 0, 1) := by decide +kernel
theorem dL_law_751 : decode cL_law 751 = .ok (.laload, 1) := by decide +kernel
theorem dL_law_752 : decode cL_law 752 = .ok (.iload 6, 2) := by decide +kernel
theorem dL_law_754 : decode cL_law 754 = .ok (.ifCond .eq 7, 3) := by decide +kernel
theorem dL_law_757 : decode cL_law 757 = .ok (.lconst 1, 1) := by decide +kernel
theorem dL_law_758 : decode cL_law 758 = .ok (.goto 4, 3) := by decide +kernel
theorem dL_law_761 : decode cL_law 761 = .ok (.lconst 0, 1) := by decide +kernel
theorem dL_law_762 : decode cL_law 762 = .ok (.lcmp, 1) := by decide +kernel
theorem dL_law_763 : decode cL_law 763 = .ok (.ifCond .eq 5, 3) := by decide +kernel
theorem dL_law_766 : decode cL_law 766 = .ok (.iconst 0, 1) := by decide +kernel
theorem dL_law_767 : decode cL_law 767 = .ok (.ireturn, 1) := by decide +kernel
theorem dL_law_768 : decode cL_law 768 = .ok (.goto 164, 3) := by decide +kernel
theorem dL_law_771 : decode cL_law 771 = .ok (.aload_n 1, 1) := by decide +kernel
theorem dL_law_772 : decode cL_law 772 = .ok (.aload_n 0, 1) := by decide +kernel
theorem dL_law_773 : decode cL_law 773 = .ok (.iload 4, 2) := by decide +kernel
theorem dL_law_775 : decode cL_law 775 = .ok (.iconst 1, 1) := by decide +kernel
theorem dL_law_776 : decode cL_law 776 = .ok (.iadd, 1) := by decide +kernel
theorem dL_law_777 : decode cL_law 777 = .ok (.iaload, 1) := by decide +kernel
theorem dL_law_778 : decode cL_law 778 = .ok (.invokevirtual 93, 3) := by decide +kernel
theorem dL_law_781 : decode cL_law 781 = .ok (.aload_n 2, 1) := by decide +kernel
theorem dL_law_782 : decode cL_law 782 = .ok (.aload_n 0, 1) := by decide +kernel
theorem dL_law_783 : decode cL_law 783 = .ok (.iload 4, 2) := by decide +kernel
theorem dL_law_785 : decode cL_law 785 = .ok (.iconst 1, 1) := by decide +kernel
theorem dL_law_786 : decode cL_law 786 = .ok (.iadd, 1) := by decide +kernel
theorem dL_law_787 : decode cL_law 787 = .ok (.iaload, 1) := by decide +kernel
theorem dL_law_788 : decode cL_law 788 = .ok (.invokevirtual 97, 3) := by decide +kernel
theorem dL_law_791 : decode cL_law 791 = .ok (.if_icmp .eq 141, 3) := by decide +kernel
theorem dL_law_794 : decode cL_law 794 = .ok (.iconst 0, 1) := by decide +kernel
theorem dL_law_795 : decode cL_law 795 = .ok (.ireturn, 1) := by decide +kernel
theorem dL_law_796 : decode cL_law 796 = .ok (.aload_n 1, 1) := by decide +kernel
theorem dL_law_797 : decode cL_law 797 = .ok (.aload_n 0, 1) := by decide +kernel
theorem dL_law_798 : decode cL_law 798 = .ok (.iload 4, 2) := by decide +kernel
theorem dL_law_800 : decode cL_law 800 = .ok (.iconst 1, 1) := by decide +kernel
theorem dL_law_801 : decode cL_law 801 = .ok (.iadd, 1) := by decide +kernel
theorem dL_law_802 : decode cL_law 802 = .ok (.iaload, 1) := by decide +kernel
theorem dL_law_803 : decode cL_law 803 = .ok (.invokevirtual 98, 3) := by decide +kernel
theorem dL_law_806 : decode cL_law 806 = .ok (.aload_n 2, 1) := by decide +kernel
theorem dL_law_807 : decode cL_law 807 = .ok (.aload_n 0, 1) := by decide +kernel
theorem dL_law_808 : decode cL_law 808 = .ok (.iload 4, 2) := by decide +kernel
theorem dL_law_810 : decode cL_law 810 = .ok (.iconst 1, 1) := by decide +kernel
theorem dL_law_811 : decode cL_law 811 = .ok (.iadd, 1) := by decide +kernel
theorem dL_law_812 : decode cL_law 812 = .ok (.iaload, 1) := by decide +kernel
theorem dL_law_813 : decode cL_law 813 = .ok (.invokevirtual 101, 3) := by decide +kernel
theorem dL_law_816 : decode cL_law 816 = .ok (.if_icmp .eq 116, 3) := by decide +kernel
theorem dL_law_819 : decode cL_law 819 = .ok (.iconst 0, 1) := by decide +kernel
theorem dL_law_820 : decode cL_law 820 = .ok (.ireturn, 1) := by decide +kernel
theorem dL_law_821 : decode cL_law 821 = .ok (.aload_n 1, 1) := by decide +kernel
theorem dL_law_822 : decode cL_law 822 = .ok (.aload_n 0, 1) := by decide +kernel
theorem dL_law_823 : decode cL_law 823 = .ok (.iload 4, 2) := by decide +kernel
theorem dL_law_825 : decode cL_law 825 = .ok (.iconst 1, 1) := by decide +kernel
theorem dL_law_826 : decode cL_law 826 = .ok (.iadd, 1) := by decide +kernel
theorem dL_law_827 : decode cL_law 827 = .ok (.iaload, 1) := by decide +kernel
theorem dL_law_828 : decode cL_law 828 = .ok (.aload_n 0, 1) := by decide +kernel
theorem dL_law_829 : decode cL_law 829 = .ok (.iload 4, 2) := by decide +kernel
theorem dL_law_831 : decode cL_law 831 = .ok (.iconst 2, 1) := by decide +kernel
theorem dL_law_832 : decode cL_law 832 = .ok (.iadd, 1) := by decide +kernel
theorem dL_law_833 : decode cL_law 833 = .ok (.iaload, 1) := by decide +kernel
theorem dL_law_834 : decode cL_law 834 = .ok (.aload_n 0, 1) := by decide +kernel
theorem dL_law_835 : decode cL_law 835 = .ok (.iload 4, 2) := by decide +kernel
theorem dL_law_837 : decode cL_law 837 = .ok (.iconst 3, 1) := by decide +kernel
theorem dL_law_838 : decode cL_law 838 = .ok (.iadd, 1) := by decide +kernel
theorem dL_law_839 : decode cL_law 839 = .ok (.iaload, 1) := by decide +kernel
theorem dL_law_840 : decode cL_law 840 = .ok (.invokevirtual 102, 3) := by decide +kernel
theorem dL_law_843 : decode cL_law 843 = .ok (.aload_n 2, 1) := by decide +kernel
theorem dL_law_844 : decode cL_law 844 = .ok (.aload_n 0, 1) := by decide +kernel
theorem dL_law_845 : decode cL_law 845 = .ok (.iload 4, 2) := by decide +kernel
theorem dL_law_847 : decode cL_law 847 = .ok (.iconst 1, 1) := by decide +kernel
theorem dL_law_848 : decode cL_law 848 = .ok (.iadd, 1) := by decide +kernel
theorem dL_law_849 : decode cL_law 849 = .ok (.iaload, 1) := by decide +kernel
theorem dL_law_850 : decode cL_law 850 = .ok (.aload_n 0, 1) := by decide +kernel
theorem dL_law_851 : decode cL_law 851 = .ok (.iload 4, 2) := by decide +kernel
theorem dL_law_853 : decode cL_law 853 = .ok (.iconst 2, 1) := by decide +kernel
theorem dL_law_854 : decode cL_law 854 = .ok (.iadd, 1) := by decide +kernel
theorem dL_law_855 : decode cL_law 855 = .ok (.iaload, 1) := by decide +kernel
theorem dL_law_856 : decode cL_law 856 = .ok (.aload_n 0, 1) := by decide +kernel
theorem dL_law_857 : decode cL_law 857 = .ok (.iload 4, 2) := by decide +kernel
theorem dL_law_859 : decode cL_law 859 = .ok (.iconst 3, 1) := by decide +kernel
theorem dL_law_860 : decode cL_law 860 = .ok (.iadd, 1) := by decide +kernel
theorem dL_law_861 : decode cL_law 861 = .ok (.iaload, 1) := by decide +kernel
theorem dL_law_862 : decode cL_law 862 = .ok (.invokevirtual 105, 3) := by decide +kernel
theorem dL_law_865 : decode cL_law 865 = .ok (.if_icmp .eq 67, 3) := by decide +kernel
theorem dL_law_868 : decode cL_law 868 = .ok (.iconst 0, 1) := by decide +kernel
theorem dL_law_869 : decode cL_law 869 = .ok (.ireturn, 1) := by decide +kernel
theorem dL_law_870 : decode cL_law 870 = .ok (.aload_n 1, 1) := by decide +kernel
theorem dL_law_871 : decode cL_law 871 = .ok (.aload_n 0, 1) := by decide +kernel
theorem dL_law_872 : decode cL_law 872 = .ok (.iload 4, 2) := by decide +kernel
theorem dL_law_874 : decode cL_law 874 = .ok (.iconst 1, 1) := by decide +kernel
theorem dL_law_875 : decode cL_law 875 = .ok (.iadd, 1) := by decide +kernel
theorem dL_law_876 : decode cL_law 876 = .ok (.iaload, 1) := by decide +kernel
theorem dL_law_877 : decode cL_law 877 = .ok (.aload_n 0, 1) := by decide +kernel
theorem dL_law_878 : decode cL_law 878 = .ok (.iload 4, 2) := by decide +kernel
theorem dL_law_880 : decode cL_law 880 = .ok (.iconst 2, 1) := by decide +kernel
theorem dL_law_881 : decode cL_law 881 = .ok (.iadd, 1) := by decide +kernel
theorem dL_law_882 : decode cL_law 882 = .ok (.iaload, 1) := by decide +kernel
theorem dL_law_883 : decode cL_law 883 = .ok (.invokevirtual 106, 3) := by decide +kernel
theorem dL_law_886 : decode cL_law 886 = .ok (.aload_n 2, 1) := by decide +kernel
theorem dL_law_887 : decode cL_law 887 = .ok (.aload_n 0, 1) := by decide +kernel
theorem dL_law_888 : decode cL_law 888 = .ok (.iload 4, 2) := by decide +kernel
theorem dL_law_890 : decode cL_law 890 = .ok (.iconst 1, 1) := by decide +kernel
theorem dL_law_891 : decode cL_law 891 = .ok (.iadd, 1) := by decide +kernel
theorem dL_law_892 : decode cL_law 892 = .ok (.iaload, 1) := by decide +kernel
theorem dL_law_893 : decode cL_law 893 = .ok (.aload_n 0, 1) := by decide +kernel
theorem dL_law_894 : decode cL_law 894 = .ok (.iload 4, 2) := by decide +kernel
theorem dL_law_896 : decode cL_law 896 = .ok (.iconst 2, 1) := by decide +kernel
theorem dL_law_897 : decode cL_law 897 = .ok (.iadd, 1) := by decide +kernel
theorem dL_law_898 : decode cL_law 898 = .ok (.iaload, 1) := by decide +kernel
theorem dL_law_899 : decode cL_law 899 = .ok (.invokevirtual 110, 3) := by decide +kernel
theorem dL_law_902 : decode cL_law 902 = .ok (.if_icmp .eq 30, 3) := by decide +kernel
theorem dL_law_905 : decode cL_law 905 = .ok (.iconst 0, 1) := by decide +kernel
theorem dL_law_906 : decode cL_law 906 = .ok (.ireturn, 1) := by decide +kernel
theorem dL_law_907 : decode cL_law 907 = .ok (.aload_n 1, 1) := by decide +kernel
theorem dL_law_908 : decode cL_law 908 = .ok (.aload_n 0, 1) := by decide +kernel
theorem dL_law_909 : decode cL_law 909 = .ok (.iload 4, 2) := by decide +kernel
theorem dL_law_911 : decode cL_law 911 = .ok (.iconst 1, 1) := by decide +kernel
theorem dL_law_912 : decode cL_law 912 = .ok (.iadd, 1) := by decide +kernel
theorem dL_law_913 : decode cL_law 913 = .ok (.iaload, 1) := by decide +kernel
theorem dL_law_914 : decode cL_law 914 = .ok (.invokevirtual 111, 3) := by decide +kernel
theorem dL_law_917 : decode cL_law 917 = .ok (.aload_n 2, 1) := by decide +kernel
theorem dL_law_918 : decode cL_law 918 = .ok (.aload_n 0, 1) := by decide +kernel
theorem dL_law_919 : decode cL_law 919 = .ok (.iload 4, 2) := by decide +kernel
theorem dL_law_921 : decode cL_law 921 = .ok (.iconst 1, 1) := by decide +kernel
theorem dL_law_922 : decode cL_law 922 = .ok (.iadd, 1) := by decide +kernel
theorem dL_law_923 : decode cL_law 923 = .ok (.iaload, 1) := by decide +kernel
theorem dL_law_924 : decode cL_law 924 = .ok (.invokevirtual 114, 3) := by decide +kernel
theorem dL_law_927 : decode cL_law 927 = .ok (.if_icmp .eq 5, 3) := by decide +kernel
theorem dL_law_930 : decode cL_law 930 = .ok (.iconst 0, 1) := by decide +kernel
theorem dL_law_931 : decode cL_law 931 = .ok (.ireturn, 1) := by decide +kernel
theorem dL_law_932 : decode cL_law 932 = .ok (.iinc 4 6, 3) := by decide +kernel
theorem dL_law_935 : decode cL_law 935 = .ok (.goto (-912), 3) := by decide +kernel
theorem dL_law_938 : decode cL_law 938 = .ok (.iconst 1, 1) := by decide +kernel
theorem dL_law_939 : decode cL_law 939 = .ok (.ireturn, 1) := by decide +kernel
theorem dL_prove_0 : decode cL_prove 0 = .ok (.aload_n 3, 1) := by decide +kernel
theorem dL_prove_1 : decode cL_prove 1 = .ok (.iconst 0, 1) := by decide +kernel
theorem dL_prove_2 : decode cL_prove 2 = .ok (.aload_n 0, 1) := by decide +kernel
theorem dL_prove_3 : decode cL_prove 3 = .ok (.iload_n 1, 1) := by decide +kernel
theorem dL_prove_4 : decode cL_prove 4 = .ok (.iload_n 2, 1) := by decide +kernel
theorem dL_prove_5 : decode cL_prove 5 = .ok (.invokevirtual 35, 3) := by decide +kernel
theorem dL_prove_8 : decode cL_prove 8 = .ok (.ifCond .eq 7, 3) := by decide +kernel
theorem dL_prove_11 : decode cL_prove 11 = .ok (.lconst 1, 1) := by decide +kernel
theorem dL_prove_12 : decode cL_prove 12 = .ok (.goto 4, 3) := by decide +kernel
theorem dL_prove_15 : decode cL_prove 15 = .ok (.lconst 0, 1) := by decide +kernel
theorem dL_prove_16 : decode cL_prove 16 = .ok (.lastore, 1) := by decide +kernel
theorem dL_prove_17 : decode cL_prove 17 = .ok (.goto 15, 3) := by decide +kernel
theorem dL_prove_20 : decode cL_prove 20 = .ok (.astore 4, 2) := by decide +kernel
theorem dL_prove_22 : decode cL_prove 22 = .ok (.iconst 1, 1) := by decide +kernel
theorem dL_prove_23 : decode cL_prove 23 = .ok (.ireturn, 1) := by decide +kernel
theorem dL_prove_24 : decode cL_prove 24 = .ok (.astore 4, 2) := by decide +kernel
theorem dL_prove_26 : decode cL_prove 26 = .ok (.iconst 2, 1) := by decide +kernel
theorem dL_prove_27 : decode cL_prove 27 = .ok (.ireturn, 1) := by decide +kernel
theorem dL_prove_28 : decode cL_prove 28 = .ok (.astore 4, 2) := by decide +kernel
theorem dL_prove_30 : decode cL_prove 30 = .ok (.iconst 3, 1) := by decide +kernel
theorem dL_prove_31 : decode cL_prove 31 = .ok (.ireturn, 1) := by decide +kernel
theorem dL_prove_32 : decode cL_prove 32 = .ok (.iconst 0, 1) := by decide +kernel
theorem dL_prove_33 : decode cL_prove 33 = .ok (.ireturn, 1) := by decide +kernel
theorem dL_publics_0 : decode cL_publics 0 = .ok (.aload_n 2, 1) := by decide +kernel
theorem dL_publics_1 : decode cL_publics 1 = .ok (.iconst 0, 1) := by decide +kernel
theorem dL_publics_2 : decode cL_publics 2 = .ok (.aload_n 0, 1) := by decide +kernel
theorem dL_publics_3 : decode cL_publics 3 = .ok (.iload_n 1, 1) := by decide +kernel
theorem dL_publics_4 : decode cL_publics 4 = .ok (.invokevirtual 21, 3) := by decide +kernel
theorem dL_publics_7 : decode cL_publics 7 = .ok (.ifCond .eq 7, 3) := by decide +kernel
theorem dL_publics_10 : decode cL_publics 10 = .ok (.lconst 1, 1) := by decide +kernel
theorem dL_publics_11 : decode cL_publics 11 = .ok (.goto 4, 3) := by decide +kernel
theorem dL_publics_14 : decode cL_publics 14 = .ok (.lconst 0, 1) := by decide +kernel
theorem dL_publics_15 : decode cL_publics 15 = .ok (.lastore, 1) := by decide +kernel
theorem dL_publics_16 : decode cL_publics 16 = .ok (.goto 6, 3) := by decide +kernel
theorem dL_publics_19 : decode cL_publics 19 = .ok (.astore_n 3, 1) := by decide +kernel
theorem dL_publics_20 : decode cL_publics 20 = .ok (.iconst 1, 1) := by decide +kernel
theorem dL_publics_21 : decode cL_publics 21 = .ok (.ireturn, 1) := by decide +kernel
theorem dL_publics_22 : decode cL_publics 22 = .ok (.iconst 0, 1) := by decide +kernel
theorem dL_publics_23 : decode cL_publics 23 = .ok (.ireturn, 1) := by decide +kernel
theorem dL_setup_0 : decode cL_setup 0 = .ok (.aload 6, 2) := by decide +kernel
theorem dL_setup_2 : decode cL_setup 2 = .ok (.iconst 0, 1) := by decide +kernel
theorem dL_setup_3 : decode cL_setup 3 = .ok (.aload_n 0, 1) := by decide +kernel
theorem dL_setup_4 : decode cL_setup 4 = .ok (.iload_n 1, 1) := by decide +kernel
theorem dL_setup_5 : decode cL_setup 5 = .ok (.iload_n 2, 1) := by decide +kernel
theorem dL_setup_6 : decode cL_setup 6 = .ok (.iload_n 3, 1) := by decide +kernel
theorem dL_setup_7 : decode cL_setup 7 = .ok (.iload 4, 2) := by decide +kernel
theorem dL_setup_9 : decode cL_setup 9 = .ok (.iload 5, 2) := by decide +kernel
theorem dL_setup_11 : decode cL_setup 11 = .ok (.invokevirtual 29, 3) := by decide +kernel
theorem dL_setup_14 : decode cL_setup 14 = .ok (.i2l, 1) := by decide +kernel
theorem dL_setup_15 : decode cL_setup 15 = .ok (.lastore, 1) := by decide +kernel
theorem dL_setup_16 : decode cL_setup 16 = .ok (.goto 11, 3) := by decide +kernel
theorem dL_setup_19 : decode cL_setup 19 = .ok (.astore 7, 2) := by decide +kernel
theorem dL_setup_21 : decode cL_setup 21 = .ok (.iconst 1, 1) := by decide +kernel
theorem dL_setup_22 : decode cL_setup 22 = .ok (.ireturn, 1) := by decide +kernel
theorem dL_setup_23 : decode cL_setup 23 = .ok (.astore 7, 2) := by decide +kernel
theorem dL_setup_25 : decode cL_setup 25 = .ok (.iconst 2, 1) := by decide +kernel
theorem dL_setup_26 : decode cL_setup 26 = .ok (.ireturn, 1) := by decide +kernel
theorem dL_setup_27 : decode cL_setup 27 = .ok (.iconst 0, 1) := by decide +kernel
theorem dL_setup_28 : decode cL_setup 28 = .ok (.ireturn, 1) := by decide +kernel
theorem dL_term_0 : decode cL_term 0 = .ok (.aload 4, 2) := by decide +kernel
theorem dL_term_2 : decode cL_term 2 = .ok (.iconst 0, 1) := by decide +kernel
theorem dL_term_3 : decode cL_term 3 = .ok (.aload_n 0, 1) := by decide +kernel
theorem dL_term_4 : decode cL_term 4 = .ok (.iload_n 1, 1) := by decide +kernel
theorem dL_term_5 : decode cL_term 5 = .ok (.iload_n 2, 1) := by decide +kernel
theorem dL_term_6 : decode cL_term 6 = .ok (.iload_n 3, 1) := by decide +kernel
theorem dL_term_7 : decode cL_term 7 = .ok (.invokevirtual 7, 3) := by decide +kernel
theorem dL_term_10 : decode cL_term 10 = .ok (.i2l, 1) := by decide +kernel
theorem dL_term_11 : decode cL_term 11 = .ok (.lastore, 1) := by decide +kernel
theorem dL_term_12 : decode cL_term 12 = .ok (.goto 7, 3) := by decide +kernel
theorem dL_term_15 : decode cL_term 15 = .ok (.astore 5, 2) := by decide +kernel
theorem dL_term_17 : decode cL_term 17 = .ok (.iconst 1, 1) := by decide +kernel
theorem dL_term_18 : decode cL_term 18 = .ok (.ireturn, 1) := by decide +kernel
theorem dL_term_19 : decode cL_term 19 = .ok (.iconst 0, 1) := by decide +kernel
theorem dL_term_20 : decode cL_term 20 = .ok (.ireturn, 1) := by decide +kernel
theorem dL_value_0 : decode cL_value 0 = .ok (.aload_n 3, 1) := by decide +kernel
theorem dL_value_1 : decode cL_value 1 = .ok (.iconst 0, 1) := by decide +kernel
theorem dL_value_2 : decode cL_value 2 = .ok (.aload_n 0, 1) := by decide +kernel
theorem dL_value_3 : decode cL_value 3 = .ok (.iload_n 1, 1) := by decide +kernel
theorem dL_value_4 : decode cL_value 4 = .ok (.iload_n 2, 1) := by decide +kernel
theorem dL_value_5 : decode cL_value 5 = .ok (.invokevirtual 25, 3) := by decide +kernel
theorem dL_value_8 : decode cL_value 8 = .ok (.ifCond .eq 7, 3) := by decide +kernel
theorem dL_value_11 : decode cL_value 11 = .ok (.lconst 1, 1) := by decide +kernel
theorem dL_value_12 : decode cL_value 12 = .ok (.goto 4, 3) := by decide +kernel
theorem dL_value_15 : decode cL_value 15 = .ok (.lconst 0, 1) := by decide +kernel
theorem dL_value_16 : decode cL_value 16 = .ok (.lastore, 1) := by decide +kernel
theorem dL_value_17 : decode cL_value 17 = .ok (.goto 7, 3) := by decide +kernel
theorem dL_value_20 : decode cL_value 20 = .ok (.astore 4, 2) := by decide +kernel
theorem dL_value_22 : decode cL_value 22 = .ok (.iconst 1, 1) := by decide +kernel
theorem dL_value_23 : decode cL_value 23 = .ok (.ireturn, 1) := by decide +kernel
theorem dL_value_24 : decode cL_value 24 = .ok (.iconst 0, 1) := by decide +kernel
theorem dL_value_25 : decode cL_value 25 = .ok (.ireturn, 1) := by decide +kernel
theorem dL_verify_0 : decode cL_verify 0 = .ok (.aload_n 1, 1) := by decide +kernel
theorem dL_verify_1 : decode cL_verify 1 = .ok (.iconst 0, 1) := by decide +kernel
theorem dL_verify_2 : decode cL_verify 2 = .ok (.aload_n 0, 1) := by decide +kernel
theorem dL_verify_3 : decode cL_verify 3 = .ok (.invokevirtual 44, 3) := by decide +kernel
theorem dL_verify_6 : decode cL_verify 6 = .ok (.ifCond .eq 7, 3) := by decide +kernel
theorem dL_verify_9 : decode cL_verify 9 = .ok (.lconst 1, 1) := by decide +kernel
theorem dL_verify_10 : decode cL_verify 10 = .ok (.goto 4, 3) := by decide +kernel
theorem dL_verify_13 : decode cL_verify 13 = .ok (.lconst 0, 1) := by decide +kernel
theorem dL_verify_14 : decode cL_verify 14 = .ok (.lastore, 1) := by decide +kernel
theorem dL_verify_15 : decode cL_verify 15 = .ok (.goto 6, 3) := by decide +kernel
theorem dL_verify_18 : decode cL_verify 18 = .ok (.astore_n 2, 1) := by decide +kernel
theorem dL_verify_19 : decode cL_verify 19 = .ok (.iconst 1, 1) := by decide +kernel
theorem dL_verify_20 : decode cL_verify 20 = .ok (.ireturn, 1) := by decide +kernel
theorem dL_verify_21 : decode cL_verify 21 = .ok (.iconst 0, 1) := by decide +kernel
theorem dL_verify_22 : decode cL_verify 22 = .ok (.ireturn, 1) := by decide +kernel
end
section
/-! numbers modulo P = 998244353, sums, powers -/
def sg : Nat → (Nat → Nat) → Nat
  | 0, _ => 0
  | n + 1, f => sg n f + f n
theorem sg_0 (f : Nat → Nat) : sg 0 f = 0 := rfl
theorem sg_s (n : Nat) (f : Nat → Nat) : sg (n + 1) f = sg n f + f n := rfl
theorem sg_congr {n : Nat} {f g : Nat → Nat} (h : ∀ i, i < n → f i = g i) : sg n f = sg n g := by
  induction n with
  | zero => rfl
  | succ n ih => rw [sg_s, sg_s, ih (fun i hi => h i (by omega)), h n (by omega)]
theorem sg_zero (n : Nat) : sg n (fun _ => 0) = 0 := by
  induction n with
  | zero => rfl
  | succ n ih => rw [sg_s, ih]
theorem sg_add (n : Nat) (f g : Nat → Nat) : sg n (fun i => f i + g i) = sg n f + sg n g := by
  induction n with
  | zero => rfl
  | succ n ih => rw [sg_s, sg_s, sg_s, ih]; omega
theorem sg_mul (n a : Nat) (f : Nat → Nat) : sg n (fun i => a * f i) = a * sg n f := by
  induction n with
  | zero => rfl
  | succ n ih => rw [sg_s, sg_s, ih, Nat.mul_add]
theorem sg_mulr (n a : Nat) (f : Nat → Nat) : sg n (fun i => f i * a) = sg n f * a := by
  induction n with
  | zero => rw [sg_0, sg_0, Nat.zero_mul]
  | succ n ih => rw [sg_s, sg_s, ih, Nat.add_mul]
theorem sg_swap (n m : Nat) (f : Nat → Nat → Nat) : sg n (fun i => sg m (fun j => f i j)) = sg m (fun j => sg n (fun i => f i j)) := by
  induction n with
  | zero => exact (sg_zero m).symm
  | succ n ih => rw [sg_s, ih]; exact (sg_add m _ _).symm
/-- a sum whose later terms are nothing -/
theorem sg_ext {m n : Nat} {f : Nat → Nat} (h : m ≤ n) (h0 : ∀ i, m ≤ i → i < n → f i = 0) : sg n f = sg m f := by
  induction n with
  | zero => rw [show m = 0 by omega]
  | succ n ih =>
    by_cases hm : m = n + 1
    · rw [hm]
    · rw [sg_s, ih (by omega) (fun i h1 h2 => h0 i h1 (by omega)), h0 n (by omega) (by omega), Nat.add_zero]
/-- a sum whose first terms are nothing -/
theorem sg_shift (k n : Nat) (f : Nat → Nat) : sg n (fun a => if k < a then f a else 0) = sg (n - 1 - k) (fun t => f (k + 1 + t)) := by
  induction n with
  | zero => simp [sg]
  | succ n ih =>
    rw [sg_s, ih]
    by_cases h : k < n
    · rw [if_pos h, show n + 1 - 1 - k = (n - 1 - k) + 1 by omega, sg_s, show k + 1 + (n - 1 - k) = n by omega]
    · rw [if_neg h, show n + 1 - 1 - k = 0 by omega, show n - 1 - k = 0 by omega, Nat.add_zero]
/-- the same residue -/
def cg (a b : Nat) : Prop := a % 998244353 = b % 998244353
theorem cg.rf (a : Nat) : cg a a := rfl
theorem cg.of {a b : Nat} (h : a = b) : cg a b := h ▸ rfl
theorem cg.sy {a b : Nat} (h : cg a b) : cg b a := Eq.symm h
theorem cg.tr {a b c : Nat} (h : cg a b) (g : cg b c) : cg a c := Eq.trans h g
theorem cg.add {a b c d : Nat} (h : cg a b) (g : cg c d) : cg (a + c) (b + d) := by
  unfold cg at *
  rw [Nat.add_mod, h, g, ← Nat.add_mod]
theorem cg.mul {a b c d : Nat} (h : cg a b) (g : cg c d) : cg (a * c) (b * d) := by
  unfold cg at *
  rw [Nat.mul_mod, h, g, ← Nat.mul_mod]
theorem cg.md (a : Nat) : cg (a % 998244353) a := Nat.mod_mod _ _
theorem cg.sum {n : Nat} {f g : Nat → Nat} (h : ∀ i, i < n → cg (f i) (g i)) : cg (sg n f) (sg n g) := by
  induction n with
  | zero => exact cg.rf 0
  | succ n ih => exact (ih (fun i hi => h i (by omega))).add (h n (by omega))
theorem cg.pow {a b : Nat} (h : cg a b) (n : Nat) : cg (a ^ n) (b ^ n) := by
  induction n with
  | zero => exact cg.rf _
  | succ n ih => rw [Nat.pow_succ, Nat.pow_succ]; exact ih.mul h
theorem cg.eq {a b : Nat} (h : cg a b) (ha : a < 998244353) (hb : b < 998244353) : a = b := by
  unfold cg at h
  rwa [Nat.mod_eq_of_lt ha, Nat.mod_eq_of_lt hb] at h
theorem cg.ml {a b : Nat} (c : Nat) (h : cg a b) : cg (a * c) (b * c) := h.mul (cg.rf c)
theorem cg.mr {a b : Nat} (c : Nat) (h : cg a b) : cg (c * a) (c * b) := (cg.rf c).mul h
theorem ltP (a : Nat) : a % 998244353 < 998244353 := Nat.mod_lt _ (by decide)
/-- a power -/
def pw (b e : Nat) : Nat := b ^ e % 998244353
theorem pw_lt (b e : Nat) : pw b e < 998244353 := ltP _
theorem pw_cg (b e : Nat) : cg (pw b e) (b ^ e) := cg.md _
theorem pw_0 (b : Nat) : pw b 0 = 1 := by
  unfold pw
  rw [Nat.pow_zero]
/-- one turn of the power's loop -/
theorem pw_even (r q e : Nat) (h : e % 2 = 0) : cg (r * q ^ e) (r * (q * q % 998244353) ^ (e / 2)) := by
  have h1 : q ^ e = (q * q) ^ (e / 2) := by
    rw [Nat.mul_pow, ← Nat.pow_add, show e / 2 + e / 2 = e by omega]
  rw [h1]
  exact cg.mr r ((cg.md (q * q)).sy.pow _)
theorem pw_odd (r q e : Nat) (h : e % 2 = 1) : cg (r * q ^ e) (r * q % 998244353 * (q * q % 998244353) ^ (e / 2)) := by
  have h1 : q ^ e = q * (q * q) ^ (e / 2) := by
    rw [Nat.mul_pow, ← Nat.pow_add, show e / 2 + e / 2 = e - 1 by omega]
    have h2 : e = (e - 1) + 1 := by omega
    rw [show q ^ e = q ^ ((e - 1) + 1) by rw [← h2], Nat.pow_succ, Nat.mul_comm]
  rw [h1, ← Nat.mul_assoc]
  exact (cg.md (r * q)).sy.mul ((cg.md (q * q)).sy.pow _)
/-- the power, reckoned: for numbers that are to be known -/
def mp : Nat → Nat → Nat → Nat → Nat
  | 0, r, _, _ => r
  | k + 1, r, q, e => mp k (if e % 2 = 1 then r * q % 998244353 else r) (q * q % 998244353) (e / 2)
theorem mp_cg : ∀ (k r q e : Nat), e < 2 ^ k → cg (mp k r q e) (r * q ^ e)
  | 0, r, q, e, h => by
    have : e = 0 := by simpa using h
    subst this
    show cg r (r * q ^ 0)
    rw [Nat.pow_zero, Nat.mul_one]
    exact cg.rf r
  | k + 1, r, q, e, h => by
    have h2 : e / 2 < 2 ^ k := by
      rw [Nat.pow_succ] at h
      omega
    refine (mp_cg k _ _ _ h2).tr ?_
    by_cases he : e % 2 = 1
    · rw [if_pos he]
      exact (pw_odd r q e he).sy
    · rw [if_neg he]
      exact (pw_even r q e (by omega)).sy
theorem pw_is (b e v : Nat) (he : e < 2 ^ 30) (h : mp 30 1 b e % 998244353 = v) : pw b e = v := by
  have h1 := mp_cg 30 1 b e he
  rw [Nat.one_mul] at h1
  exact h1.symm.trans h
/-- what the number of constraints makes of N -/
def szN (m : Nat) : Nat := if m ≤ 2 then 2 else if m ≤ 4 then 4 else if m ≤ 8 then 8 else 16
theorem szN_of {m : Nat} : szN m = 2 ∨ szN m = 4 ∨ szN m = 8 ∨ szN m = 16 := by
  unfold szN
  split
  · exact Or.inl rfl
  · split
    · exact Or.inr (Or.inl rfl)
    · split
      · exact Or.inr (Or.inr (Or.inl rfl))
      · exact Or.inr (Or.inr (Or.inr rfl))
theorem szN_ge {m : Nat} (h : m ≤ 16) : m ≤ szN m := by
  unfold szN
  split
  · assumption
  · split
    · assumption
    · split
      · assumption
      · assumption
theorem szN_lo (m : Nat) : 2 ≤ szN m := by
  rcases szN_of (m := m) with h | h | h | h <;> rw [h] <;> decide
theorem szN_hi (m : Nat) : szN m ≤ 16 := by
  rcases szN_of (m := m) with h | h | h | h <;> rw [h] <;> decide
/-- 1 / v -/
def iv (v : Nat) : Nat := pw v 998244351
theorem iv_lt (v : Nat) : iv v < 998244353 := pw_lt _ _
/-- the root of one, backwards -/
def bk (n : Nat) : Nat := iv (pw 3 (998244352 / n))
theorem bk_lt (n : Nat) : bk n < 998244353 := iv_lt _
theorem bk_2 : bk 2 = 998244352 := by
  have h : pw 3 (998244352 / 2) = 998244352 := pw_is _ _ _ (by decide) (by decide +kernel)
  unfold bk iv
  rw [h]
  exact pw_is _ _ _ (by decide) (by decide +kernel)
theorem bk_4 : bk 4 = 86583718 := by
  have h : pw 3 (998244352 / 4) = 911660635 := pw_is _ _ _ (by decide) (by decide +kernel)
  unfold bk iv
  rw [h]
  exact pw_is _ _ _ (by decide) (by decide +kernel)
theorem bk_8 : bk 8 = 509520358 := by
  have h : pw 3 (998244352 / 8) = 372528824 := pw_is _ _ _ (by decide) (by decide +kernel)
  unfold bk iv
  rw [h]
  exact pw_is _ _ _ (by decide) (by decide +kernel)
theorem bk_16 : bk 16 = 337190230 := by
  have h : pw 3 (998244352 / 16) = 929031873 := pw_is _ _ _ (by decide) (by decide +kernel)
  unfold bk iv
  rw [h]
  exact pw_is _ _ _ (by decide) (by decide +kernel)
theorem bk_one (m : Nat) : cg (bk (szN m) ^ szN m) 1 := by
  rcases szN_of (m := m) with h | h | h | h <;> rw [h]
  · rw [bk_2]; unfold cg; decide +kernel
  · rw [bk_4]; unfold cg; decide +kernel
  · rw [bk_8]; unfold cg; decide +kernel
  · rw [bk_16]; unfold cg; decide +kernel
theorem bk_mod (m a : Nat) : cg (bk (szN m) ^ (a % szN m)) (bk (szN m) ^ a) := by
  have h : bk (szN m) ^ a = (bk (szN m) ^ szN m) ^ (a / szN m) * bk (szN m) ^ (a % szN m) := by
    rw [← Nat.pow_mul, ← Nat.pow_add, Nat.div_add_mod]
  rw [h]
  have h2 : cg ((bk (szN m) ^ szN m) ^ (a / szN m)) 1 := by
    have := (bk_one m).pow (a / szN m)
    rwa [Nat.one_pow] at this
  have h3 := cg.ml (bk (szN m) ^ (a % szN m)) h2
  rw [Nat.one_mul] at h3
  exact h3.sy
/-- coefficient k of the polynomial that has the values p j at the first m points, 0 at the others -/
def cf (m n : Nat) (p : Nat → Nat) (k : Nat) : Nat := sg m (fun j => p j * bk n ^ (j * k)) * iv n % 998244353
theorem cf_lt (m n : Nat) (p : Nat → Nat) (k : Nat) : cf m n p k < 998244353 := ltP _
theorem cf_cg (m n : Nat) (p : Nat → Nat) (k : Nat) : cg (cf m n p k) (sg m (fun j => p j * bk n ^ (j * k)) * iv n) := cg.md _
/-- what the value at point j counts at x -/
def wt (n x j : Nat) : Nat := sg n (fun k => (x * bk n ^ j) ^ k) * iv n % 998244353
theorem wt_lt (n x j : Nat) : wt n x j < 998244353 := ltP _
theorem wt_cg (n x j : Nat) : cg (wt n x j) (sg n (fun k => (x * bk n ^ j) ^ k) * iv n) := cg.md _
/-- the polynomial's value at x, by its coefficients or by the points' weights -/
theorem cf_at (m n x : Nat) (p : Nat → Nat) : cg (sg n (fun k => cf m n p k * x ^ k)) (sg m (fun j => p j * wt n x j)) := by
  have h1 : cg (sg n (fun k => cf m n p k * x ^ k)) (sg n (fun k => sg m (fun j => p j * bk n ^ (j * k)) * iv n * x ^ k)) := cg.sum (fun k _ => cg.ml _ (cf_cg m n p k))
  have h2 : sg n (fun k => sg m (fun j => p j * bk n ^ (j * k)) * iv n * x ^ k) = sg n (fun k => sg m (fun j => p j * bk n ^ (j * k) * (iv n * x ^ k))) :=
    sg_congr (fun k _ => by rw [sg_mulr, Nat.mul_assoc])
  have h3 : ∀ j, sg n (fun k => p j * bk n ^ (j * k) * (iv n * x ^ k)) = p j * (sg n (fun k => (x * bk n ^ j) ^ k) * iv n) := by
    intro j
    rw [← sg_mulr, ← sg_mul]
    refine sg_congr (fun k _ => ?_)
    rw [Nat.mul_pow, ← Nat.pow_mul]
    rw [Nat.mul_assoc, Nat.mul_assoc (x ^ k), Nat.mul_comm (x ^ k), Nat.mul_assoc (bk n ^ (j * k))]
  refine h1.tr ?_
  rw [h2, sg_swap, sg_congr (fun j _ => h3 j)]
  exact cg.sum (fun j _ => cg.mr _ (wt_cg n x j).sy)
/-- the coefficients of a sum of polynomials -/
theorem cf_lin (m n k : Nat) (v : Nat → Nat) (p : Nat → Nat → Nat) : cg (sg 16 (fun i => v i * cf m n (p i) k)) (cf m n (fun j => sg 16 (fun i => p i j * v i)) k) := by
  have h1 : cg (sg 16 (fun i => v i * cf m n (p i) k)) (sg 16 (fun i => v i * (sg m (fun j => p i j * bk n ^ (j * k)) * iv n))) := cg.sum (fun i _ => cg.mr _ (cf_cg m n (p i) k))
  refine h1.tr ((cg.of ?_).tr (cf_cg m n _ k).sy)
  have h2 : sg 16 (fun i => v i * (sg m (fun j => p i j * bk n ^ (j * k)) * iv n)) = sg 16 (fun i => sg m (fun j => p i j * v i * bk n ^ (j * k))) * iv n := by
    rw [← sg_mulr]
    refine sg_congr (fun i _ => ?_)
    rw [← Nat.mul_assoc, ← sg_mul]
    refine congrArg (· * iv n) (sg_congr (fun j _ => ?_))
    rw [← Nat.mul_assoc, Nat.mul_comm (v i)]
  rw [h2, sg_swap]
  refine congrArg (· * iv n) (sg_congr (fun j _ => ?_))
  rw [← sg_mulr]
/-- coefficients of points that agree modulo P -/
theorem cf_congr {m n k : Nat} {p q : Nat → Nat} (h : ∀ j, j < m → cg (p j) (q j)) : cf m n p k = cf m n q k := by
  have h1 : cg (sg m (fun j => p j * bk n ^ (j * k)) * iv n) (sg m (fun j => q j * bk n ^ (j * k)) * iv n) := cg.ml _ (cg.sum (fun j hj => cg.ml _ (h j hj)))
  exact h1
/-- one turn of a loop that sums products -/
theorem sm1 (i : Nat) (f : Nat → Nat) : (sg i f % 998244353 + f i % 998244353) % 998244353 = sg (i + 1) f % 998244353 := by
  rw [sg_s, ← Nat.add_mod]
theorem sm2 (i : Nat) (f : Nat → Nat) : (sg i f % 998244353 + f i) % 998244353 = sg (i + 1) f % 998244353 := by
  rw [sg_s, Nat.mod_add_mod]
theorem sg_front (n : Nat) (f : Nat → Nat) : sg (n + 1) f = f 0 + sg n (fun i => f (i + 1)) := by
  induction n with
  | zero => rw [sg_s, sg_0, sg_0]; omega
  | succ n ih => rw [sg_s, ih, sg_s]; omega
theorem sg_geo (k t : Nat) : sg (k + 1) (fun i => t ^ i) = sg k (fun i => t ^ i) * t + 1 := by
  rw [sg_front, Nat.pow_zero, ← sg_mulr, Nat.add_comm]
  refine congrArg (· + 1) (sg_congr (fun i _ => ?_))
  rw [Nat.pow_succ]
/-- Horner's rule from the last of n numbers down -/
theorem sg_horner (n t x : Nat) (q : Nat → Nat) (h : t < n) : sg (t + 1) (fun i => q (n - (t + 1) + i) * x ^ i) = sg t (fun i => q (n - t + i) * x ^ i) * x + q (n - (t + 1)) := by
  rw [sg_front, Nat.pow_zero, Nat.mul_one, Nat.add_zero, ← sg_mulr, Nat.add_comm]
  refine congrArg (· + q (n - (t + 1))) (sg_congr (fun i _ => ?_))
  rw [Nat.pow_succ, Nat.mul_assoc, show n - (t + 1) + (i + 1) = n - t + i by omega]
/-- the coefficients as the points' values, the exponent taken modulo N, give them -/
theorem cf_by (m k : Nat) (p d : Nat → Nat) (hm : m ≤ 16) (h0 : ∀ j, m ≤ j → d j = 0) (h1 : ∀ j, j < m → d j = p j) (r : Nat → Nat) (hr : ∀ j, j < szN m → r j = bk (szN m) ^ j % 998244353) :
    sg (szN m) (fun j => d j * r (j * k % szN m)) % 998244353 * iv (szN m) % 998244353 = cf m (szN m) p k := by
  have hlo := szN_lo m
  have e1 : sg (szN m) (fun j => d j * r (j * k % szN m)) = sg m (fun j => d j * r (j * k % szN m)) :=
    sg_ext (szN_ge hm) (fun j h _ => by rw [h0 j h, Nat.zero_mul])
  have e2 : cg (sg m (fun j => d j * r (j * k % szN m))) (sg m (fun j => p j * bk (szN m) ^ (j * k))) := by
    refine cg.sum (fun j hj => ?_)
    rw [h1 j hj, hr _ (Nat.mod_lt _ (by omega))]
    exact cg.mr _ ((cg.md _).tr (bk_mod m (j * k)))
  rw [e1]
  exact ((cg.md _).tr e2).ml _
end
section
/-! one instruction a row, the numbers as naturals -/
theorem z_shr {e k : Nat} (he : e < 2 ^ 63) (hk : k < 63) : lN e >>> ((nI k).toInt64 &&& 63) = lN (e / 2 ^ k) := by
  have h1 : (nI k).toInt64 = lN k := nI_l (by omega)
  rw [h1]
  apply Int64.toBitVec_inj.mp
  apply BitVec.eq_of_toInt_eq
  show ((lN e).toBitVec.sshiftRight ((lN k &&& 63).toBitVec.smod 64).toNat).toInt = (lN (e / 2 ^ k)).toInt
  have h2 : ((lN k &&& 63).toBitVec.smod 64).toNat = k := by
    have : ∀ k, k < 63 → ((lN k &&& 63).toBitVec.smod 64).toNat = k := by decide +kernel
    exact this k hk
  have h3 : e / 2 ^ k ≤ e := Nat.div_le_self _ _
  rw [h2, BitVec.toInt_sshiftRight]
  show (lN e).toInt >>> k = _
  rw [pk_lT he, pk_lT (by omega), Int.shiftRight_eq_div_pow]
  rfl
theorem z_and1 (a : Nat) (h : a < 2 ^ 63) : lN a &&& lN 1 = lN (a % 2) := by
  apply Int64.toBitVec_inj.mp
  apply BitVec.eq_of_toNat_eq
  rw [Int64.toBitVec_and, BitVec.toNat_and]
  show (a % 2 ^ 64) &&& (1 % 2 ^ 64) = (a % 2) % 2 ^ 64
  rw [Nat.mod_eq_of_lt (show a < 2 ^ 64 by omega), Nat.mod_eq_of_lt (show 1 < 2 ^ 64 by omega), Nat.and_one_is_mod, Nat.mod_eq_of_lt (show a % 2 < 2 ^ 64 by omega)]
/-- a loop that counts up to E -/
theorem z_up {E : Nat} {P : Nat → Prop} (h : ∀ i, i ≤ E → (i < E → P (i + 1)) → P i) : ∀ i, i ≤ E → P i := by
  have key : ∀ n i, E - i = n → i ≤ E → P i := by
    intro n
    induction n with
    | zero => exact fun i hn hi => h i hi (fun hl => by omega)
    | succ n ih => exact fun i hn hi => h i hi (fun hl => ih (i + 1) (by omega) (by omega))
  exact fun i hi => key _ i rfl hi
/-- a loop that counts down -/
theorem z_down {P : Nat → Prop} (h : ∀ i, (∀ j, j + 1 = i → P j) → P i) : ∀ i, P i := by
  intro i
  induction i with
  | zero => exact h 0 (fun j hj => by omega)
  | succ i ih => exact h (i + 1) (fun j hj => by rw [show j = i by omega]; exact ih)
/-- a loop whose measure falls -/
theorem z_fall {P : Nat → Prop} (h : ∀ i, (∀ j, j < i → P j) → P i) : ∀ i, P i := fun i => Nat.strongRecOn i h
theorem z_mb {a b : Nat} (ha : a < 2 ^ 31) (hb : b < 2 ^ 31) : a * b < 2 ^ 62 := by
  have h1 : a * b ≤ (2 ^ 31 - 1) * (2 ^ 31 - 1) := Nat.mul_le_mul (by omega) (by omega)
  omega
theorem z_upd (f : Nat → Nat) (k v : Nat) : upd (fun j => nI (f j)) k (nI v) = fun j => nI (va_up f k v j) := by
  funext j
  unfold upd va_up
  split <;> rfl
theorem z_updL (f : Nat → Nat) (k v : Nat) : vp_updL (fun j => lN (f j)) k (lN v) = fun j => lN (va_up f k v j) := by
  funext j
  unfold vp_updL va_up
  split <;> rfl
section ZS
variable {p : Program} {l : Launch} {e : Env} {R : Room} {s : State} {m : MethodId} {args : Array Value} {below : List Frame} {meth : Method} {c : Code} {H : Heap} {locs : List Loc} {cells slots : Nat} {Q : State → Prop}
variable {cc : ByteArray} {pc nL : Nat} {ls : Array Slot} {rest : List Value} {Ts : List Cond} {own : String}
theorem z_iconst (F : CallFix p m c cc nL s args Ts own) {n : Int} {v : Nat} (hv : Int32.ofInt n = nI v) (hdg : decode cc pc = .ok (.iconst n, 1))
    (k : W p l e R s m args below meth c H locs cells slots Q (F0 m (pc + 1) ls (.int (nI v) :: rest))) : W p l e R s m args below meth c H locs cells slots Q (F0 m pc ls (rest)) := lv_iconst F.1 F.2.1 hdg hv k
theorem z_bipush (F : CallFix p m c cc nL s args Ts own) {n : Int} {v : Nat} (hv : (Int8.ofInt n).toInt32 = nI v) (hdg : decode cc pc = .ok (.bipush n, 2))
    (k : W p l e R s m args below meth c H locs cells slots Q (F0 m (pc + 2) ls (.int (nI v) :: rest))) : W p l e R s m args below meth c H locs cells slots Q (F0 m pc ls (rest)) := lv_bipush F.1 F.2.1 hdg hv k
theorem z_sipush (F : CallFix p m c cc nL s args Ts own) {n : Int} {v : Nat} (hv : (Int16.ofInt n).toInt32 = nI v) (hdg : decode cc pc = .ok (.sipush n, 3))
    (k : W p l e R s m args below meth c H locs cells slots Q (F0 m (pc + 3) ls (.int (nI v) :: rest))) : W p l e R s m args below meth c H locs cells slots Q (F0 m pc ls (rest)) := lv_sipush F.1 F.2.1 hdg hv k
theorem z_ldc (F : CallFix p m c cc nL s args Ts own) {index : Nat} (v : Nat) {v0 : Int32} (hc : Cond.constant own index v0 ∈ Ts) (hv : v0 = nI v) (hdg : decode cc pc = .ok (.ldc index, 2))
    (k : W p l e R s m args below meth c H locs cells slots Q (F0 m (pc + 2) ls (.int (nI v) :: rest))) : W p l e R s m args below meth c H locs cells slots Q (F0 m pc ls (rest)) := lv_ldc F.1 F.2.1 F.2.2.2.1 (F.2.2.2.2 _ hc) hdg (hv ▸ k)
theorem z_ldcw (F : CallFix p m c cc nL s args Ts own) {index : Nat} (v : Nat) {v0 : Int32} (hc : Cond.constant own index v0 ∈ Ts) (hv : v0 = nI v) (hdg : decode cc pc = .ok (.ldc_w index, 3))
    (k : W p l e R s m args below meth c H locs cells slots Q (F0 m (pc + 3) ls (.int (nI v) :: rest))) : W p l e R s m args below meth c H locs cells slots Q (F0 m pc ls (rest)) := lv_ldcw F.1 F.2.1 F.2.2.2.1 (F.2.2.2.2 _ hc) hdg (hv ▸ k)
theorem z_ldc2 (F : CallFix p m c cc nL s args Ts own) {index : Nat} (v : Nat) {v0 : Int64} (hc : Cond.constantLong own index v0 ∈ Ts) (hv : v0 = lN v) (hdg : decode cc pc = .ok (.ldc2_w index, 3))
    (k : W p l e R s m args below meth c H locs cells slots Q (F0 m (pc + 3) ls (.long (lN v) :: rest))) : W p l e R s m args below meth c H locs cells slots Q (F0 m pc ls (rest)) := lv_ldc2 F.1 F.2.1 F.2.2.2.1 (F.2.2.2.2 _ hc) hdg (hv ▸ k)
theorem z_lconst (F : CallFix p m c cc nL s args Ts own) {n : Fin 2} {v : Nat} (hv : Int64.ofNat (n : Nat) = lN v) (hdg : decode cc pc = .ok (.lconst n, 1))
    (k : W p l e R s m args below meth c H locs cells slots Q (F0 m (pc + 1) ls (.long (lN v) :: rest))) : W p l e R s m args below meth c H locs cells slots Q (F0 m pc ls (rest)) := lv_lconst F.1 F.2.1 hdg hv k
theorem z_iadd (F : CallFix p m c cc nL s args Ts own) {a b : Nat}  (hdg : decode cc pc = .ok (.iadd, 1))
    (k : W p l e R s m args below meth c H locs cells slots Q (F0 m (pc + 1) ls (.int (nI (a + b)) :: rest))) : W p l e R s m args below meth c H locs cells slots Q (F0 m pc ls (.int (nI b) :: .int (nI a) :: rest)) := lv_iadd F.1 F.2.1 hdg (by rw [nI_add]; exact k)
theorem z_isub (F : CallFix p m c cc nL s args Ts own) {a b : Nat} (h : b ≤ a) (hdg : decode cc pc = .ok (.isub, 1))
    (k : W p l e R s m args below meth c H locs cells slots Q (F0 m (pc + 1) ls (.int (nI (a - b)) :: rest))) : W p l e R s m args below meth c H locs cells slots Q (F0 m pc ls (.int (nI b) :: .int (nI a) :: rest)) := lv_isub F.1 F.2.1 hdg (by rw [pk_sub h]; exact k)
theorem z_imul (F : CallFix p m c cc nL s args Ts own) {a b : Nat}  (hdg : decode cc pc = .ok (.imul, 1))
    (k : W p l e R s m args below meth c H locs cells slots Q (F0 m (pc + 1) ls (.int (nI (a * b)) :: rest))) : W p l e R s m args below meth c H locs cells slots Q (F0 m pc ls (.int (nI b) :: .int (nI a) :: rest)) := lv_imul F.1 F.2.1 hdg (by rw [pk_mul]; exact k)
theorem z_idiv (F : CallFix p m c cc nL s args Ts own) {a b : Nat} (ha : a < 2 ^ 31) (h0 : 0 < b) (h1 : b < 2 ^ 31) (hdg : decode cc pc = .ok (.idiv, 1))
    (k : W p l e R s m args below meth c H locs cells slots Q (F0 m (pc + 1) ls (.int (nI (a / b)) :: rest))) : W p l e R s m args below meth c H locs cells slots Q (F0 m pc ls (.int (nI b) :: .int (nI a) :: rest)) := lv_idiv F.1 F.2.1 hdg (nI_ne0 h0 h1) (by rw [pk_div ha h0 h1]; exact k)
theorem z_irem (F : CallFix p m c cc nL s args Ts own) {a b : Nat} (ha : a < 2 ^ 31) (h0 : 0 < b) (h1 : b < 2 ^ 31) (hdg : decode cc pc = .ok (.irem, 1))
    (k : W p l e R s m args below meth c H locs cells slots Q (F0 m (pc + 1) ls (.int (nI (a % b)) :: rest))) : W p l e R s m args below meth c H locs cells slots Q (F0 m pc ls (.int (nI b) :: .int (nI a) :: rest)) := lv_irem F.1 F.2.1 hdg (nI_ne0 h0 h1) (by rw [pk_rem ha h0 h1]; exact k)
theorem z_iand (F : CallFix p m c cc nL s args Ts own) {a b : Nat} (kk : Nat) (ha : a < 2 ^ 31) (hm : (nI b).toBitVec.toNat = 2 ^ kk - 1) (hdg : decode cc pc = .ok (.iand, 1))
    (k : W p l e R s m args below meth c H locs cells slots Q (F0 m (pc + 1) ls (.int (nI (a % 2 ^ kk)) :: rest))) : W p l e R s m args below meth c H locs cells slots Q (F0 m pc ls (.int (nI b) :: .int (nI a) :: rest)) := lv_iand F.1 F.2.1 hdg (by rw [pk_andN (by omega) kk hm]; exact k)
theorem z_ladd (F : CallFix p m c cc nL s args Ts own) {a b : Nat}  (hdg : decode cc pc = .ok (.ladd, 1))
    (k : W p l e R s m args below meth c H locs cells slots Q (F0 m (pc + 1) ls (.long (lN (a + b)) :: rest))) : W p l e R s m args below meth c H locs cells slots Q (F0 m pc ls (.long (lN b) :: .long (lN a) :: rest)) := lv_ladd F.1 F.2.1 hdg (by rw [lN_add]; exact k)
theorem z_lsub (F : CallFix p m c cc nL s args Ts own) {a b : Nat} (h : b ≤ a) (hdg : decode cc pc = .ok (.lsub, 1))
    (k : W p l e R s m args below meth c H locs cells slots Q (F0 m (pc + 1) ls (.long (lN (a - b)) :: rest))) : W p l e R s m args below meth c H locs cells slots Q (F0 m pc ls (.long (lN b) :: .long (lN a) :: rest)) := lv_lsub F.1 F.2.1 hdg (by rw [lN_sub h]; exact k)
theorem z_lmul (F : CallFix p m c cc nL s args Ts own) {a b : Nat}  (hdg : decode cc pc = .ok (.lmul, 1))
    (k : W p l e R s m args below meth c H locs cells slots Q (F0 m (pc + 1) ls (.long (lN (a * b)) :: rest))) : W p l e R s m args below meth c H locs cells slots Q (F0 m pc ls (.long (lN b) :: .long (lN a) :: rest)) := lv_lmul F.1 F.2.1 hdg (by rw [lN_mul]; exact k)
theorem z_lne {b : Nat} (h0 : 0 < b) (h1 : b < 2 ^ 63) : ¬ lN b = 0 := fun q => by
  have a := pk_lT h1
  rw [q, show (0 : Int64).toInt = 0 from by decide] at a
  omega
theorem z_ldiv (F : CallFix p m c cc nL s args Ts own) {a b : Nat} (ha : a < 2 ^ 63) (h0 : 0 < b) (h1 : b < 2 ^ 63) (hdg : decode cc pc = .ok (.ldiv, 1))
    (k : W p l e R s m args below meth c H locs cells slots Q (F0 m (pc + 1) ls (.long (lN (a / b)) :: rest))) : W p l e R s m args below meth c H locs cells slots Q (F0 m pc ls (.long (lN b) :: .long (lN a) :: rest)) := lv_ldiv F.1 F.2.1 hdg (z_lne h0 h1) (by rw [pk_lDiv ha h0 h1]; exact k)
theorem z_lrem (F : CallFix p m c cc nL s args Ts own) {a b : Nat} (ha : a < 2 ^ 63) (h0 : 0 < b) (h1 : b < 2 ^ 63) (hdg : decode cc pc = .ok (.lrem, 1))
    (k : W p l e R s m args below meth c H locs cells slots Q (F0 m (pc + 1) ls (.long (lN (a % b)) :: rest))) : W p l e R s m args below meth c H locs cells slots Q (F0 m pc ls (.long (lN b) :: .long (lN a) :: rest)) := lv_lrem F.1 F.2.1 hdg (z_lne h0 h1) (by rw [pk_lRem ha h0 h1]; exact k)
theorem z_lshr (F : CallFix p m c cc nL s args Ts own) {a b : Nat} (ha : a < 2 ^ 63) (h1 : b < 63) (hdg : decode cc pc = .ok (.lshr, 1))
    (k : W p l e R s m args below meth c H locs cells slots Q (F0 m (pc + 1) ls (.long (lN (a / 2 ^ b)) :: rest))) : W p l e R s m args below meth c H locs cells slots Q (F0 m pc ls (.int (nI b) :: .long (lN a) :: rest)) := lv_lshr F.1 F.2.1 hdg (z_shr ha h1) k
theorem z_land1 (F : CallFix p m c cc nL s args Ts own) {a : Nat} (ha : a < 2 ^ 63) (hdg : decode cc pc = .ok (.land, 1))
    (k : W p l e R s m args below meth c H locs cells slots Q (F0 m (pc + 1) ls (.long (lN (a % 2)) :: rest))) : W p l e R s m args below meth c H locs cells slots Q (F0 m pc ls (.long (lN 1) :: .long (lN a) :: rest)) := lv_land F.1 F.2.1 hdg (by rw [z_and1 a ha]; exact k)
theorem z_i2l (F : CallFix p m c cc nL s args Ts own) {a : Nat} (ha : a < 2 ^ 31) (hdg : decode cc pc = .ok (.i2l, 1))
    (k : W p l e R s m args below meth c H locs cells slots Q (F0 m (pc + 1) ls (.long (lN a) :: rest))) : W p l e R s m args below meth c H locs cells slots Q (F0 m pc ls (.int (nI a) :: rest)) := lv_i2l F.1 F.2.1 hdg (nI_l ha) k
theorem z_l2i (F : CallFix p m c cc nL s args Ts own) {a : Nat} (hdg : decode cc pc = .ok (.l2i, 1))
    (k : W p l e R s m args below meth c H locs cells slots Q (F0 m (pc + 1) ls (.int (nI a) :: rest))) : W p l e R s m args below meth c H locs cells slots Q (F0 m pc ls (.long (lN a) :: rest)) := lv_l2i F.1 F.2.1 hdg (lN_i a) k
theorem z_top {a : Nat} (b : Nat) (h : a = b) (k : W p l e R s m args below meth c H locs cells slots Q (F0 m pc ls (.int (nI b) :: rest))) : W p l e R s m args below meth c H locs cells slots Q (F0 m pc ls (.int (nI a) :: rest)) := h ▸ k
theorem z_topL {a : Nat} (b : Nat) (h : a = b) (k : W p l e R s m args below meth c H locs cells slots Q (F0 m pc ls (.long (lN b) :: rest))) : W p l e R s m args below meth c H locs cells slots Q (F0 m pc ls (.long (lN a) :: rest)) := h ▸ k
theorem z_subadd {a b c : Nat} (h : b ≤ a + c) : nI a - nI b + nI c = nI (a + c - b) := by
  have h1 : nI (a + c - b) + nI b = nI a + nI c := by rw [nI_add, nI_add, Nat.sub_add_cancel h]
  have h2 : nI a - nI b + nI c = (nI a + nI c) - nI b := by rw [Int32.sub_eq_add_neg, Int32.sub_eq_add_neg, Int32.add_assoc, Int32.add_comm (-nI b), ← Int32.add_assoc]
  rw [h2, ← h1, Int32.add_sub_cancel]
theorem z_topI {x : Int32} (b : Nat) (h : x = nI b) (k : W p l e R s m args below meth c H locs cells slots Q (F0 m pc ls (.int (nI b) :: rest))) : W p l e R s m args below meth c H locs cells slots Q (F0 m pc ls (.int x :: rest)) := h ▸ k
theorem z_topV {x : Int32} (y : Int32) (h : x = y) (k : W p l e R s m args below meth c H locs cells slots Q (F0 m pc ls (.int y :: rest))) : W p l e R s m args below meth c H locs cells slots Q (F0 m pc ls (.int x :: rest)) := h ▸ k
theorem z_icmp_eq (F : CallFix p m c cc nL s args Ts own) {a b : Nat} (ha : a < 2 ^ 31) (h1 : b < 2 ^ 31) {off : Int} {tgt : Nat} (hdg : decode cc pc = .ok (.if_icmp .eq off, 3)) (ht : (pc : Int) + off = (tgt : Int))
    (kt : a = b → W p l e R s m args below meth c H locs cells slots Q (F0 m tgt ls rest)) (kf : a ≠ b → W p l e R s m args below meth c H locs cells slots Q (F0 m (pc + 3) ls rest)) : W p l e R s m args below meth c H locs cells slots Q (F0 m pc ls (.int (nI b) :: .int (nI a) :: rest)) := lv_icmp_eq F.1 F.2.1 hdg ht (fun h => kt ((nI_eq ha h1).mp h)) (fun h => kf (fun q => h ((nI_eq ha h1).mpr q)))
theorem z_icmp_ne (F : CallFix p m c cc nL s args Ts own) {a b : Nat} (ha : a < 2 ^ 31) (h1 : b < 2 ^ 31) {off : Int} {tgt : Nat} (hdg : decode cc pc = .ok (.if_icmp .ne off, 3)) (ht : (pc : Int) + off = (tgt : Int))
    (kt : a ≠ b → W p l e R s m args below meth c H locs cells slots Q (F0 m tgt ls rest)) (kf : a = b → W p l e R s m args below meth c H locs cells slots Q (F0 m (pc + 3) ls rest)) : W p l e R s m args below meth c H locs cells slots Q (F0 m pc ls (.int (nI b) :: .int (nI a) :: rest)) := lv_icmp_ne F.1 F.2.1 hdg ht (fun h => kt (fun q => h ((nI_eq ha h1).mpr q))) (fun h => kf ((nI_eq ha h1).mp h))
theorem z_icmp_lt (F : CallFix p m c cc nL s args Ts own) {a b : Nat} (ha : a < 2 ^ 31) (h1 : b < 2 ^ 31) {off : Int} {tgt : Nat} (hdg : decode cc pc = .ok (.if_icmp .lt off, 3)) (ht : (pc : Int) + off = (tgt : Int))
    (kt : a < b → W p l e R s m args below meth c H locs cells slots Q (F0 m tgt ls rest)) (kf : b ≤ a → W p l e R s m args below meth c H locs cells slots Q (F0 m (pc + 3) ls rest)) : W p l e R s m args below meth c H locs cells slots Q (F0 m pc ls (.int (nI b) :: .int (nI a) :: rest)) := lv_icmp_lt F.1 F.2.1 hdg ht (fun h => kt ((nI_ltI ha h1).mp h)) (fun h => kf (Nat.not_lt.mp fun q => h ((nI_ltI ha h1).mpr q)))
theorem z_icmp_ge (F : CallFix p m c cc nL s args Ts own) {a b : Nat} (ha : a < 2 ^ 31) (h1 : b < 2 ^ 31) {off : Int} {tgt : Nat} (hdg : decode cc pc = .ok (.if_icmp .ge off, 3)) (ht : (pc : Int) + off = (tgt : Int))
    (kt : b ≤ a → W p l e R s m args below meth c H locs cells slots Q (F0 m tgt ls rest)) (kf : a < b → W p l e R s m args below meth c H locs cells slots Q (F0 m (pc + 3) ls rest)) : W p l e R s m args below meth c H locs cells slots Q (F0 m pc ls (.int (nI b) :: .int (nI a) :: rest)) := lv_icmp_ge F.1 F.2.1 hdg ht (fun h => kt ((nI_leI h1 ha).mp h)) (fun h => kf (Nat.not_le.mp fun q => h ((nI_leI h1 ha).mpr q)))
theorem z_icmp_gt (F : CallFix p m c cc nL s args Ts own) {a b : Nat} (ha : a < 2 ^ 31) (h1 : b < 2 ^ 31) {off : Int} {tgt : Nat} (hdg : decode cc pc = .ok (.if_icmp .gt off, 3)) (ht : (pc : Int) + off = (tgt : Int))
    (kt : b < a → W p l e R s m args below meth c H locs cells slots Q (F0 m tgt ls rest)) (kf : a ≤ b → W p l e R s m args below meth c H locs cells slots Q (F0 m (pc + 3) ls rest)) : W p l e R s m args below meth c H locs cells slots Q (F0 m pc ls (.int (nI b) :: .int (nI a) :: rest)) := lv_icmp_gt F.1 F.2.1 hdg ht (fun h => kt ((nI_ltI h1 ha).mp h)) (fun h => kf (Nat.not_lt.mp fun q => h ((nI_ltI h1 ha).mpr q)))
theorem z_icmp_le (F : CallFix p m c cc nL s args Ts own) {a b : Nat} (ha : a < 2 ^ 31) (h1 : b < 2 ^ 31) {off : Int} {tgt : Nat} (hdg : decode cc pc = .ok (.if_icmp .le off, 3)) (ht : (pc : Int) + off = (tgt : Int))
    (kt : a ≤ b → W p l e R s m args below meth c H locs cells slots Q (F0 m tgt ls rest)) (kf : b < a → W p l e R s m args below meth c H locs cells slots Q (F0 m (pc + 3) ls rest)) : W p l e R s m args below meth c H locs cells slots Q (F0 m pc ls (.int (nI b) :: .int (nI a) :: rest)) := lv_icmp_le F.1 F.2.1 hdg ht (fun h => kt ((nI_leI ha h1).mp h)) (fun h => kf (Nat.not_le.mp fun q => h ((nI_leI ha h1).mpr q)))
theorem z_eq0 {a : Nat} (ha : a < 2 ^ 31) : nI a = 0 ↔ a = 0 := nI_eq (b := 0) ha (by decide)
theorem z_lt0 {a : Nat} (ha : a < 2 ^ 31) : 0 < nI a ↔ 0 < a := nI_ltI (a := 0) (by decide) ha
theorem z_le0 {a : Nat} (ha : a < 2 ^ 31) : nI a ≤ 0 ↔ a ≤ 0 := nI_leI (b := 0) ha (by decide)
theorem z_if_eq (F : CallFix p m c cc nL s args Ts own) {a : Nat} (ha : a < 2 ^ 31) {off : Int} {tgt : Nat} (hdg : decode cc pc = .ok (.ifCond .eq off, 3)) (ht : (pc : Int) + off = (tgt : Int))
    (kt : a = 0 → W p l e R s m args below meth c H locs cells slots Q (F0 m tgt ls rest)) (kf : a ≠ 0 → W p l e R s m args below meth c H locs cells slots Q (F0 m (pc + 3) ls rest)) : W p l e R s m args below meth c H locs cells slots Q (F0 m pc ls (.int (nI a) :: rest)) := lv_if_eq F.1 F.2.1 hdg ht (fun h => kt ((z_eq0 ha).mp h)) (fun h => kf (fun q => h ((z_eq0 ha).mpr q)))
theorem z_if_ne (F : CallFix p m c cc nL s args Ts own) {a : Nat} (ha : a < 2 ^ 31) {off : Int} {tgt : Nat} (hdg : decode cc pc = .ok (.ifCond .ne off, 3)) (ht : (pc : Int) + off = (tgt : Int))
    (kt : a ≠ 0 → W p l e R s m args below meth c H locs cells slots Q (F0 m tgt ls rest)) (kf : a = 0 → W p l e R s m args below meth c H locs cells slots Q (F0 m (pc + 3) ls rest)) : W p l e R s m args below meth c H locs cells slots Q (F0 m pc ls (.int (nI a) :: rest)) := lv_if_ne F.1 F.2.1 hdg ht (fun h => kt (fun q => h ((z_eq0 ha).mpr q))) (fun h => kf ((z_eq0 ha).mp h))
theorem z_if_gt (F : CallFix p m c cc nL s args Ts own) {a : Nat} (ha : a < 2 ^ 31) {off : Int} {tgt : Nat} (hdg : decode cc pc = .ok (.ifCond .gt off, 3)) (ht : (pc : Int) + off = (tgt : Int))
    (kt : 0 < a → W p l e R s m args below meth c H locs cells slots Q (F0 m tgt ls rest)) (kf : a = 0 → W p l e R s m args below meth c H locs cells slots Q (F0 m (pc + 3) ls rest)) : W p l e R s m args below meth c H locs cells slots Q (F0 m pc ls (.int (nI a) :: rest)) := lv_if_gt F.1 F.2.1 hdg ht (fun h => kt ((z_lt0 ha).mp h)) (fun h => kf (Nat.eq_zero_of_not_pos fun q => h ((z_lt0 ha).mpr q)))
theorem z_if_le (F : CallFix p m c cc nL s args Ts own) {a : Nat} (ha : a < 2 ^ 31) {off : Int} {tgt : Nat} (hdg : decode cc pc = .ok (.ifCond .le off, 3)) (ht : (pc : Int) + off = (tgt : Int))
    (kt : a = 0 → W p l e R s m args below meth c H locs cells slots Q (F0 m tgt ls rest)) (kf : 0 < a → W p l e R s m args below meth c H locs cells slots Q (F0 m (pc + 3) ls rest)) : W p l e R s m args below meth c H locs cells slots Q (F0 m pc ls (.int (nI a) :: rest)) := lv_if_le F.1 F.2.1 hdg ht (fun h => kt (Nat.eq_zero_of_le_zero ((z_le0 ha).mp h))) (fun h => kf (Nat.pos_of_ne_zero fun q => h ((z_le0 ha).mpr (Nat.le_of_eq q))))
def z_b (b : Bool) : Int32 := if b then 1 else 0
theorem z_b_eq (b : Bool) : z_b b = 0 ↔ b = false := by cases b <;> decide
theorem z_ifb_eq (F : CallFix p m c cc nL s args Ts own) {b : Bool} {off : Int} {tgt : Nat} (hdg : decode cc pc = .ok (.ifCond .eq off, 3)) (ht : (pc : Int) + off = (tgt : Int))
    (kt : b = false → W p l e R s m args below meth c H locs cells slots Q (F0 m tgt ls rest)) (kf : b = true → W p l e R s m args below meth c H locs cells slots Q (F0 m (pc + 3) ls rest)) : W p l e R s m args below meth c H locs cells slots Q (F0 m pc ls (.int (z_b b) :: rest)) := lv_if_eq F.1 F.2.1 hdg ht (fun h => kt ((z_b_eq b).mp h)) (fun h => kf (by cases b with | false => exact absurd rfl h | true => rfl))
theorem z_ifb_ne (F : CallFix p m c cc nL s args Ts own) {b : Bool} {off : Int} {tgt : Nat} (hdg : decode cc pc = .ok (.ifCond .ne off, 3)) (ht : (pc : Int) + off = (tgt : Int))
    (kt : b = true → W p l e R s m args below meth c H locs cells slots Q (F0 m tgt ls rest)) (kf : b = false → W p l e R s m args below meth c H locs cells slots Q (F0 m (pc + 3) ls rest)) : W p l e R s m args below meth c H locs cells slots Q (F0 m pc ls (.int (z_b b) :: rest)) := lv_if_ne F.1 F.2.1 hdg ht (fun h => kt (by cases b with | false => exact absurd rfl h | true => rfl)) (fun h => kf ((z_b_eq b).mp h))
theorem z_lcmp (F : CallFix p m c cc nL s args Ts own) {a b : Nat} (hdg : decode cc pc = .ok (.lcmp, 1))
    (k : W p l e R s m args below meth c H locs cells slots Q (F0 m (pc + 1) ls (.int (lg_cmp (lN a) (lN b)) :: rest))) : W p l e R s m args below meth c H locs cells slots Q (F0 m pc ls (.long (lN b) :: .long (lN a) :: rest)) := W.lcmp F.1 F.2.1 hdg k
theorem z_ifl_eq (F : CallFix p m c cc nL s args Ts own) {a b : Nat} (ha : a < 2 ^ 63) (h1 : b < 2 ^ 63) {off : Int} {tgt : Nat} (hdg : decode cc pc = .ok (.ifCond .eq off, 3)) (ht : (pc : Int) + off = (tgt : Int))
    (kt : a = b → W p l e R s m args below meth c H locs cells slots Q (F0 m tgt ls rest)) (kf : a ≠ b → W p l e R s m args below meth c H locs cells slots Q (F0 m (pc + 3) ls rest)) : W p l e R s m args below meth c H locs cells slots Q (F0 m pc ls (.int (lg_cmp (lN a) (lN b)) :: rest)) := lv_if_eq F.1 F.2.1 hdg ht (fun h => kt ((pk_lEQ ha h1).mp ((lg_cmp_eq _ _).mp h))) (fun h => kf (fun q => h ((lg_cmp_eq _ _).mpr ((pk_lEQ ha h1).mpr q))))
theorem z_ifl_ne (F : CallFix p m c cc nL s args Ts own) {a b : Nat} (ha : a < 2 ^ 63) (h1 : b < 2 ^ 63) {off : Int} {tgt : Nat} (hdg : decode cc pc = .ok (.ifCond .ne off, 3)) (ht : (pc : Int) + off = (tgt : Int))
    (kt : a ≠ b → W p l e R s m args below meth c H locs cells slots Q (F0 m tgt ls rest)) (kf : a = b → W p l e R s m args below meth c H locs cells slots Q (F0 m (pc + 3) ls rest)) : W p l e R s m args below meth c H locs cells slots Q (F0 m pc ls (.int (lg_cmp (lN a) (lN b)) :: rest)) := lv_if_ne F.1 F.2.1 hdg ht (fun h => kt (fun q => h ((lg_cmp_eq _ _).mpr ((pk_lEQ ha h1).mpr q)))) (fun h => kf ((pk_lEQ ha h1).mp ((lg_cmp_eq _ _).mp h)))
theorem z_ifl_lt (F : CallFix p m c cc nL s args Ts own) {a b : Nat} (ha : a < 2 ^ 63) (h1 : b < 2 ^ 63) {off : Int} {tgt : Nat} (hdg : decode cc pc = .ok (.ifCond .lt off, 3)) (ht : (pc : Int) + off = (tgt : Int))
    (kt : a < b → W p l e R s m args below meth c H locs cells slots Q (F0 m tgt ls rest)) (kf : b ≤ a → W p l e R s m args below meth c H locs cells slots Q (F0 m (pc + 3) ls rest)) : W p l e R s m args below meth c H locs cells slots Q (F0 m pc ls (.int (lg_cmp (lN a) (lN b)) :: rest)) := lv_if_lt F.1 F.2.1 hdg ht (fun h => kt ((pk_lLT ha h1).mp ((lg_cmp_lt _ _).mp h))) (fun h => kf (Nat.not_lt.mp fun q => h ((lg_cmp_lt _ _).mpr ((pk_lLT ha h1).mpr q))))
theorem z_ifl_ge (F : CallFix p m c cc nL s args Ts own) {a b : Nat} (ha : a < 2 ^ 63) (h1 : b < 2 ^ 63) {off : Int} {tgt : Nat} (hdg : decode cc pc = .ok (.ifCond .ge off, 3)) (ht : (pc : Int) + off = (tgt : Int))
    (kt : b ≤ a → W p l e R s m args below meth c H locs cells slots Q (F0 m tgt ls rest)) (kf : a < b → W p l e R s m args below meth c H locs cells slots Q (F0 m (pc + 3) ls rest)) : W p l e R s m args below meth c H locs cells slots Q (F0 m pc ls (.int (lg_cmp (lN a) (lN b)) :: rest)) := lv_if_ge F.1 F.2.1 hdg ht (fun h => kt ((pk_lLE h1 ha).mp ((lg_cmp_ge _ _).mp h))) (fun h => kf (Nat.not_le.mp fun q => h ((lg_cmp_ge _ _).mpr ((pk_lLE h1 ha).mpr q))))
variable {D : va_G} {cl : List vw_C} {A : Nat → Prop} {a : Nat} {tys : List (ClassId × FieldType)} {ws : va_W} {H0 : Heap}
theorem z_iald (F : CallFix p m c cc nL s args Ts own) (hK : va_K D cl tys s) (hP : va_P D cl ws H) (q0 t0 : Nat) {cA : ClassId} {n : Nat} {f : Nat → Nat} (ha : ws[q0]? = some (a, .inl (cA, n, .inl (fun j => nI (f j))))) (ht : tys[t0]? = some (cA, .int)) {i : Nat} (hi : i < n) (hn : n < 2 ^ 31) (hdg : decode cc pc = .ok (.iaload, 1))
    (k : W p l e R s m args below meth c H locs cells slots Q (F0 m (pc + 1) ls (.int (nI (f i)) :: rest))) : W p l e R s m args below meth c H locs cells slots Q (F0 m pc ls (.int (nI i) :: .ref a :: rest)) :=
  va_iald F.1 F.2.1 hK hP q0 t0 ha ht (vp_in_nI hi hn) hdg (by rw [nI_clamp (by omega)]; exact k)
theorem z_lald (F : CallFix p m c cc nL s args Ts own) (hK : va_K D cl tys s) (hP : va_P D cl ws H) (q0 t0 : Nat) {cA : ClassId} {n : Nat} {f : Nat → Nat} (ha : ws[q0]? = some (a, .inl (cA, n, .inr (.inl (fun j => lN (f j)))))) (ht : tys[t0]? = some (cA, .long)) {i : Nat} (hi : i < n) (hn : n < 2 ^ 31) (hdg : decode cc pc = .ok (.laload, 1))
    (k : W p l e R s m args below meth c H locs cells slots Q (F0 m (pc + 1) ls (.long (lN (f i)) :: rest))) : W p l e R s m args below meth c H locs cells slots Q (F0 m pc ls (.int (nI i) :: .ref a :: rest)) :=
  va_lald F.1 F.2.1 hK hP q0 t0 ha ht (vp_in_nI hi hn) hdg (by rw [nI_clamp (by omega)]; exact k)
theorem z_iast (F : CallFix p m c cc nL s args Ts own) (hK : va_K D cl tys s) (hP : va_P D cl ws H) (hD : va_D A ws) (hS : va_S A H0 H locs) (q0 t0 : Nat) {cA : ClassId} {n : Nat} {f : Nat → Nat} (ha : ws[q0]? = some (a, .inl (cA, n, .inl (fun j => nI (f j))))) (ht : tys[t0]? = some (cA, .int)) {i x : Nat} (hi : i < n) (hn : n < 2 ^ 31) (hdg : decode cc pc = .ok (.iastore, 1))
    (k : ∀ (H1 : Heap) (locs1 : List Loc), va_P D cl (ws.set q0 (a, .inl (cA, n, .inl (fun j => nI (va_up f i x j))))) H1 → va_D A (ws.set q0 (a, .inl (cA, n, .inl (fun j => nI (va_up f i x j))))) → va_S A H0 H1 locs1 → W p l e R s m args below meth c H1 locs1 cells slots Q (F0 m (pc + 1) ls rest)) : W p l e R s m args below meth c H locs cells slots Q (F0 m pc ls (.int (nI x) :: .int (nI i) :: .ref a :: rest)) :=
  va_iast F.1 F.2.1 hK hP hD hS q0 t0 ha ht (vp_in_nI hi hn) hdg (by rw [nI_clamp (by omega), z_upd]; exact k)
theorem z_last (F : CallFix p m c cc nL s args Ts own) (hK : va_K D cl tys s) (hP : va_P D cl ws H) (hD : va_D A ws) (hS : va_S A H0 H locs) (q0 t0 : Nat) {cA : ClassId} {n : Nat} {f : Nat → Nat} (ha : ws[q0]? = some (a, .inl (cA, n, .inr (.inl (fun j => lN (f j)))))) (ht : tys[t0]? = some (cA, .long)) {i x : Nat} (hi : i < n) (hn : n < 2 ^ 31) (hdg : decode cc pc = .ok (.lastore, 1))
    (k : ∀ (H1 : Heap) (locs1 : List Loc), va_P D cl (ws.set q0 (a, .inl (cA, n, .inr (.inl (fun j => lN (va_up f i x j)))))) H1 → va_D A (ws.set q0 (a, .inl (cA, n, .inr (.inl (fun j => lN (va_up f i x j)))))) → va_S A H0 H1 locs1 → W p l e R s m args below meth c H1 locs1 cells slots Q (F0 m (pc + 1) ls rest)) : W p l e R s m args below meth c H locs cells slots Q (F0 m pc ls (.long (lN x) :: .int (nI i) :: .ref a :: rest)) :=
  va_last F.1 F.2.1 hK hP hD hS q0 t0 ha ht (vp_in_nI hi hn) hdg (by rw [nI_clamp (by omega), z_updL]; exact k)
theorem z_get (F : CallFix p m c cc nL s args Ts own) (hK : va_K D cl tys s) (hP : va_P D cl ws H) {C : String} {T : u_T} {N ci index : Nat} (hin : ∀ w ∈ u_ws C T N, w ∈ Ts) (q0 : Nat) {fs : List Value} (he : ws[q0]? = some (a, .inr (ci, fs))) (hc : cl[ci]? = some (C, T, N)) (kf : Nat) (hk : kf < N) (hT : (T kf).1 = C) (hlink : Cond.fieldLink own index C (T kf).2.1 (T kf).2.2.1 ∈ Ts) {v : Value} (hv : fs[kf]? = some v) (hdg : decode cc pc = .ok (.getfield index, 3))
    (k : W p l e R s m args below meth c H locs cells slots Q (F0 m (pc + 3) ls (v :: rest))) : W p l e R s m args below meth c H locs cells slots Q (F0 m pc ls (.ref a :: rest)) :=
  va_get F.1 F.2.1 F.2.2.2.2 hin F.2.2.2.1 hK hP q0 he hc kf hk (F.2.2.2.2 _ hlink) (by rw [hT]; exact fun _ h => h) hv hdg k
theorem z_put (F : CallFix p m c cc nL s args Ts own) (hK : va_K D cl tys s) (hP : va_P D cl ws H) (hD : va_D A ws) (hS : va_S A H0 H locs) {C : String} {T : u_T} {N ci index : Nat} (hin : ∀ w ∈ u_ws C T N, w ∈ Ts) (ty0 : Nat → FieldType) (hty : ∀ k, k < N → parseFieldDescriptor (T k).2.2.1 = some (ty0 k)) (hnm : ∀ a, a < N → ∀ b, b < N → a ≠ b → (T a).2.1 ≠ (T b).2.1) (q0 : Nat) {fs : List Value} (he : ws[q0]? = some (a, .inr (ci, fs))) (hc : cl[ci]? = some (C, T, N)) (kf : Nat) (hk : kf < N) (hT : (T kf).1 = C) (hfin : (T kf).2.2.2 = false) (hlink : Cond.fieldLink own index C (T kf).2.1 (T kf).2.2.1 ∈ Ts) {v : Value} (hn : narrow (ty0 kf) v = v) (hfit : fits (ty0 kf) v = true) (hl : kf < fs.length) (hdg : decode cc pc = .ok (.putfield index, 3))
    (k : ∀ (H1 : Heap) (locs1 : List Loc), va_P D cl (ws.set q0 (a, .inr (ci, fs.set kf v))) H1 → va_D A (ws.set q0 (a, .inr (ci, fs.set kf v))) → va_S A H0 H1 locs1 → W p l e R s m args below meth c H1 locs1 cells slots Q (F0 m (pc + 3) ls rest)) : W p l e R s m args below meth c H locs cells slots Q (F0 m pc ls (v :: .ref a :: rest)) :=
  va_put F.1 F.2.1 F.2.2.2.2 hin ty0 hty hnm F.2.2.2.1 hK hP hD hS q0 he hc kf hk (F.2.2.2.2 _ hlink) (by rw [hT]; exact fun _ h => h) hfin (hty kf hk) hn hfit hl hdg k
/-- behind a call that reads alone -/
theorem z_call {st : List Value} {av : Array Value} {r : Value} (hr : va_Run p l e R s m args below meth c H locs cells slots 0 0 (F0 m pc ls st) rest (k2_QcV r av) (fun _ => False))
    (k : W p l e R s m args below meth c H locs cells slots Q (F0 m (pc + 3) ls (r :: rest))) : W p l e R s m args below meth c H locs cells slots Q (F0 m pc ls st) := W.callV hr.run k
/-- a method's end that leaves the world ws', with the answer r -/
def z_Q (D : va_G) (cl : List vw_C) (tys : List (ClassId × FieldType)) (r : Option Value) (ws' : va_W) (A : Nat → Prop) : Array Value → State → Outcome → State → Prop := fun _ st oc t => oc = .returned r ∧ va_P D cl ws' t.heap ∧ va_K D cl tys t ∧ va_D A ws' ∧ va_F A st t
/-- a method's start: the world ws -/
def z_P (D : va_G) (cl : List vw_C) (tys : List (ClassId × FieldType)) (sz : Nat) (ws : va_W) (U : State) : Prop := U.heap.size = sz ∧ va_P D cl ws U.heap ∧ va_K D cl tys U ∧ va_D (fun _ => True) ws
/-- .. of a method that reads alone -/
def z_R (D : va_G) (cl : List vw_C) (tys : List (ClassId × FieldType)) (ws : va_W) (U : State) : Prop := va_P D cl ws U.heap ∧ va_K D cl tys U
theorem z_preN {As : List Value} : PreS s H (va_Pc As (fun _ => True)) As := ⟨fun _ _ _ _ q => q, fun _ _ _ => ⟨rfl, trivial⟩⟩
theorem z_blR {av : List Value} : FrameBlind (va_Pc av (z_R D cl tys ws)) := fun a U g mk q => ⟨q.1, q.2.1, va_K.moved (u := U) (U := U.calling g mk a) (Vm.Alike.refl U.vm) q.2.2⟩
theorem z_blP {av : List Value} {sz : Nat} : FrameBlind (va_Pc av (z_P D cl tys sz ws)) := fun a U g mk q => ⟨q.1, q.2.1, q.2.2.1, va_K.moved (u := U) (U := U.calling g mk a) (Vm.Alike.refl U.vm) q.2.2.2.1, q.2.2.2.2⟩
theorem z_preR {As : List Value} (hP : va_P D cl ws H) (hK : va_K D cl tys s) : PreS s H (va_Pc As (z_R D cl tys ws)) As := ⟨z_blR, fun U hU hW => ⟨rfl, by rw [hU]; exact hP, va_K.moved hW.alike hK⟩⟩
theorem z_preP {As : List Value} (hP : va_P D cl ws H) (hK : va_K D cl tys s) (hD : va_D A ws) : PreS s H (va_Pc As (z_P D cl tys H.size ws)) As := ⟨z_blP, fun U hU hW => ⟨rfl, by rw [hU], by rw [hU]; exact hP, va_K.moved hW.alike hK, hD.weaken (fun _ _ _ _ => trivial)⟩⟩
/-- .. on an object: its cell is in the world -/
theorem z_preVN {As : List Value} {b q0 ci : Nat} {q : vw_C} {fs : List Value} (hP : va_P D cl ws H) (hK : va_K D cl tys s) (hc : cl[ci]? = some q) (he : ws[q0]? = some (b, .inr (ci, fs))) : PreV s H q.1 b (va_Pc (.ref b :: As) (fun _ => True)) As := ⟨fun _ _ _ _ q => q, va_recv hK hP hc he, fun _ _ _ => ⟨rfl, trivial⟩⟩
theorem z_preVR {As : List Value} {b q0 ci : Nat} {q : vw_C} {fs : List Value} (hP : va_P D cl ws H) (hK : va_K D cl tys s) (hc : cl[ci]? = some q) (he : ws[q0]? = some (b, .inr (ci, fs))) : PreV s H q.1 b (va_Pc (.ref b :: As) (z_R D cl tys ws)) As := ⟨z_blR, va_recv hK hP hc he, fun U hU hW => ⟨rfl, by rw [hU]; exact hP, va_K.moved hW.alike hK⟩⟩
theorem z_preVP {As : List Value} {b q0 ci : Nat} {q : vw_C} {fs : List Value} (hP : va_P D cl ws H) (hK : va_K D cl tys s) (hD : va_D A ws) (hc : cl[ci]? = some q) (he : ws[q0]? = some (b, .inr (ci, fs))) : PreV s H q.1 b (va_Pc (.ref b :: As) (z_P D cl tys H.size ws)) As := ⟨z_blP, va_recv hK hP hc he, fun U hU hW => ⟨rfl, by rw [hU], by rw [hU]; exact hP, va_K.moved hW.alike hK, hD.weaken (fun _ _ _ _ => trivial)⟩⟩
theorem z_in (hD : va_D A ws) (hS : va_S A H0 H locs) (hA : ∀ q, H0.size ≤ q → A q) : ∀ q, va_A ws H.size q → A q := by
  intro q h
  rcases h with ⟨k, e, h⟩ | h
  · exact hD.2 k (q, e) h
  · exact hA q (Nat.le_trans hS.1 h)
/-- behind a call that changes the world -/
theorem z_callW {st : List Value} {av : Array Value} {r : Option Value} {ws' : va_W} {mc ms : Nat} (hr : va_Run p l e R s m args below meth c H locs cells slots mc ms (F0 m pc ls st) rest (z_Q D cl tys r ws' (va_A ws H.size) av) (va_A ws H.size)) (hD : va_D A ws) (hS : va_S A H0 H locs) (hA : ∀ q, H0.size ≤ q → A q)
    (k : ∀ (H1 : Heap) (locs1 : List Loc), va_P D cl ws' H1 → va_D A ws' → va_S A H0 H1 locs1 → W p l e R s m args below meth c H1 locs1 (cells + mc) (slots + ms) Q (F0 m (pc + 3) ls (r.toList ++ rest))) : W p l e R s m args below meth c H locs cells slots Q (F0 m pc ls st) := by
  intro T hT X
  obtain ⟨v, st₀, t, T', L, h0, X', hL, e1, e2, ⟨hv, hp, hk, hd, hz, hkp⟩, go⟩ := hr T hT X
  cases hv
  rw [h0] at hz hkp
  have hin := z_in hD hS hA
  obtain ⟨t2, a1, b1⟩ := k T'.heap (locs ++ L) (by rw [e1]; exact hp) (hd.weaken (fun _ q _ h => hin q.1 h))
    ⟨Nat.le_trans hS.1 (by rw [e1]; exact hz), fun q h1 h2 => by rw [e1, hkp q (Nat.lt_of_lt_of_le h1 hS.1) (fun z => h2 (hin q z))]; exact hS.2.1 q h1 h2, fun q hq => by
      rcases List.mem_append.mp hq with h | h
      · exact hS.2.2 q h
      · exact hin _ (hL q h)⟩ T' rfl X'
  exact ⟨t2, go t2 a1, b1⟩
end ZS
end
section
/-! cells whose contents are said by another function that agrees below the length -/
theorem z_arrI (cA : ClassId) (n : Nat) {f g : Nat → Nat} (h : ∀ j, j < n → f j = g j) : vp_cell cA (n, .inl (fun j => nI (f j))) = vp_cell cA (n, .inl (fun j => nI (g j))) := by
  rw [vp_cell_i, vp_cell_i]
  unfold arrV
  congr 1
  apply Array.ext
  · simp
  · intro i h1 h2
    have hi : i < n := by simpa using h1
    simp [h i hi]
theorem z_arrL (cA : ClassId) (n : Nat) {f g : Nat → Nat} (h : ∀ j, j < n → f j = g j) : vp_cell cA (n, .inr (.inl (fun j => lN (f j)))) = vp_cell cA (n, .inr (.inl (fun j => lN (g j)))) := by
  rw [vp_cell_l, vp_cell_l]
  unfold arrV
  congr 1
  apply Array.ext
  · simp
  · intro i h1 h2
    have hi : i < n := by simpa using h1
    simp [h i hi]
theorem z_sw {D : va_G} {cl : List vw_C} {ws : va_W} {H : Heap} {k a : Nat} {e e' : va_E} (hP : va_P D cl ws H) (he : ws[k]? = some (a, e)) (h : va_at D cl (a, e) H → va_at D cl (a, e') H) : va_P D cl (ws.set k (a, e')) H := by
  have hl := (List.getElem?_eq_some_iff.mp he).1
  intro i q hi
  by_cases hik : i = k
  · subst hik
    rw [List.getElem?_set_self hl] at hi
    cases hi
    exact h (hP _ _ he)
  · rw [List.getElem?_set_ne (Ne.symm hik)] at hi
    exact hP i q hi
theorem z_fI {D : va_G} {cl : List vw_C} {ws : va_W} {H : Heap} {k a n : Nat} {cA : ClassId} {f : Nat → Nat} (g : Nat → Nat) (hP : va_P D cl ws H) (he : ws[k]? = some (a, .inl (cA, n, .inl (fun j => nI (f j))))) (h : ∀ j, j < n → f j = g j) : va_P D cl (ws.set k (a, .inl (cA, n, .inl (fun j => nI (g j))))) H :=
  z_sw hP he (fun x => by
    show H[a]? = some (vp_cell cA (n, .inl (fun j => nI (g j))))
    rw [← z_arrI cA n h]
    exact x)
theorem z_fL {D : va_G} {cl : List vw_C} {ws : va_W} {H : Heap} {k a n : Nat} {cA : ClassId} {f : Nat → Nat} (g : Nat → Nat) (hP : va_P D cl ws H) (he : ws[k]? = some (a, .inl (cA, n, .inr (.inl (fun j => lN (f j)))))) (h : ∀ j, j < n → f j = g j) : va_P D cl (ws.set k (a, .inl (cA, n, .inr (.inl (fun j => lN (g j)))))) H :=
  z_sw hP he (fun x => by
    show H[a]? = some (vp_cell cA (n, .inr (.inl (fun j => lN (g j)))))
    rw [← z_arrL cA n h]
    exact x)
theorem up_at (f : Nat → Nat) (k v : Nat) : va_up f k v k = v := if_pos rfl
theorem up_ne (f : Nat → Nat) {k j : Nat} (v : Nat) (h : j ≠ k) : va_up f k v j = f j := if_neg h
theorem up_lt {f : Nat → Nat} {k v M : Nat} (hf : ∀ j, f j < M) (hv : v < M) : ∀ j, va_up f k v j < M := fun j => by
  unfold va_up
  split
  · exact hv
  · exact hf j
end
section
/-! new cells, and calls that make some -/
section ZM
variable {p : Program} {l : Launch} {e : Env} {R : Room} {s : State} {m : MethodId} {args : Array Value} {below : List Frame} {meth : Method} {c : Code} {H : Heap} {locs : List Loc} {cells slots : Nat} {Q : State → Prop}
variable {cc : ByteArray} {pc nL : Nat} {ls : Array Slot} {rest : List Value} {Ts : List Cond} {own : String}
variable {D : va_G} {cl : List vw_C} {A : Nat → Prop} {a : Nat} {tys : List (ClassId × FieldType)} {ws : va_W} {H0 : Heap}
theorem z_newI (F : CallFix p m c cc nL s args Ts own) (hK : va_K D cl tys s) (hP : va_P D cl ws H) (hD : va_D A ws) (hS : va_S A H0 H locs) (hA : ∀ q, H0.size ≤ q → A q) (t0 : Nat) {cA : ClassId} (ht : tys[t0]? = some (cA, .int)) {n : Nat} (hn : n < 2 ^ 20) (hw : Cond.arrayClass .int ∈ Ts) (hcells : cells + 1 ≤ R.cells) (hslots : slots + n ≤ R.slots) (hdg : decode cc pc = .ok (.newarray .int, 2))
    (k : ∀ (q : Nat) (H1 : Heap), va_P D cl (ws ++ [(q, .inl (cA, n, .inl (fun x9 => nI ((fun _ => 0) x9))))]) H1 → va_D A (ws ++ [(q, .inl (cA, n, .inl (fun x9 => nI ((fun _ => 0) x9))))]) → va_S A H0 H1 locs → W p l e R s m args below meth c H1 locs (cells + 1) (slots + n) Q (F0 m (pc + 2) ls (.ref q :: rest))) : W p l e R s m args below meth c H locs cells slots Q (F0 m pc ls (.int (nI n) :: rest)) := by
  refine va_newa (atype := .int) F.1 F.2.1 (F.2.2.2.2 _ hw) (ty := .int) rfl hK hP hD hS hA (a0 := (n, .inl (fun x9 => nI ((fun _ => 0) x9)))) (fun _ => rfl) (nI_pos (by omega)) (nI_clamp (by omega)) (by show n * 4 ≤ _; omega) hcells hslots hdg (fun q cA' H1 hK' hP' hD' hS' => ?_)
  have h1 : va_RA s cA' .int := (hK'.2 tys.length (cA', .int) (by simp)).2
  have h2 : va_RA s cA .int := (hK.2 t0 _ ht).2
  have h3 : cA' = cA := Option.some.inj (Eq.trans (Eq.symm h1) h2)
  subst h3
  exact k q H1 hP' hD' hS'
theorem z_newL (F : CallFix p m c cc nL s args Ts own) (hK : va_K D cl tys s) (hP : va_P D cl ws H) (hD : va_D A ws) (hS : va_S A H0 H locs) (hA : ∀ q, H0.size ≤ q → A q) (t0 : Nat) {cA : ClassId} (ht : tys[t0]? = some (cA, .long)) {n : Nat} (hn : n < 2 ^ 20) (hw : Cond.arrayClass .long ∈ Ts) (hcells : cells + 1 ≤ R.cells) (hslots : slots + n ≤ R.slots) (hdg : decode cc pc = .ok (.newarray .long, 2))
    (k : ∀ (q : Nat) (H1 : Heap), va_P D cl (ws ++ [(q, .inl (cA, n, .inr (.inl (fun x9 => lN ((fun _ => 0) x9)))))]) H1 → va_D A (ws ++ [(q, .inl (cA, n, .inr (.inl (fun x9 => lN ((fun _ => 0) x9)))))]) → va_S A H0 H1 locs → W p l e R s m args below meth c H1 locs (cells + 1) (slots + n) Q (F0 m (pc + 2) ls (.ref q :: rest))) : W p l e R s m args below meth c H locs cells slots Q (F0 m pc ls (.int (nI n) :: rest)) := by
  refine va_newa (atype := .long) F.1 F.2.1 (F.2.2.2.2 _ hw) (ty := .long) rfl hK hP hD hS hA (a0 := (n, .inr (.inl (fun x9 => lN ((fun _ => 0) x9))))) (fun _ => rfl) (nI_pos (by omega)) (nI_clamp (by omega)) (by show n * 8 ≤ _; omega) hcells hslots hdg (fun q cA' H1 hK' hP' hD' hS' => ?_)
  have h1 : va_RA s cA' .long := (hK'.2 tys.length (cA', .long) (by simp)).2
  have h2 : va_RA s cA .long := (hK.2 t0 _ ht).2
  have h3 : cA' = cA := Option.some.inj (Eq.trans (Eq.symm h1) h2)
  subst h3
  exact k q H1 hP' hD' hS'
theorem z_putF (F : CallFix p m c cc nL s args Ts own) (hi : meth.name = "<init>") (hK : va_K D cl tys s) (hP : va_P D cl ws H) (hD : va_D A ws) (hS : va_S A H0 H locs) {C : String} {T : u_T} {N ci index : Nat} (hin : ∀ w ∈ u_ws C T N, w ∈ Ts) (ty0 : Nat → FieldType) (hty : ∀ k, k < N → parseFieldDescriptor (T k).2.2.1 = some (ty0 k)) (hnm : ∀ a, a < N → ∀ b, b < N → a ≠ b → (T a).2.1 ≠ (T b).2.1) (q0 : Nat) {fs : List Value} (he : ws[q0]? = some (a, .inr (ci, fs))) (hc : cl[ci]? = some (C, T, N)) (kf : Nat) (hk : kf < N) (hT : (T kf).1 = C) (hO : C = own) (hfin : (T kf).2.2.2 = true) (hlink : Cond.fieldLink own index C (T kf).2.1 (T kf).2.2.1 ∈ Ts) {v : Value} (hn : narrow (ty0 kf) v = v) (hfit : fits (ty0 kf) v = true) (hl : kf < fs.length) (hdg : decode cc pc = .ok (.putfield index, 3))
    (k : ∀ (H1 : Heap) (locs1 : List Loc), va_P D cl (ws.set q0 (a, .inr (ci, fs.set kf v))) H1 → va_D A (ws.set q0 (a, .inr (ci, fs.set kf v))) → va_S A H0 H1 locs1 → W p l e R s m args below meth c H1 locs1 cells slots Q (F0 m (pc + 3) ls rest)) : W p l e R s m args below meth c H locs cells slots Q (F0 m pc ls (v :: .ref a :: rest)) :=
  va_putF F.1 F.2.1 F.2.2.2.2 hin ty0 hty hnm F.2.2.2.1 hK hP hD hS q0 he hc kf hk (F.2.2.2.2 _ hlink) (by rw [hT]; exact fun _ h => h) hfin hi (hT.trans hO) (hty kf hk) hn hfit hl hdg k
/-- a method's end that leaves the world wf u, for some u -/
def z_QE (D : va_G) (cl : List vw_C) (tys : List (ClassId × FieldType)) {S : Type} (r : Option Value) (wf : S → va_W) (A : Nat → Prop) : Array Value → State → Outcome → State → Prop := fun _ st oc t => ∃ u : S, oc = .returned r ∧ va_P D cl (wf u) t.heap ∧ va_K D cl tys t ∧ va_D A (wf u) ∧ va_F A st t
/-- behind a call that had a part of the world -/
theorem z_callE {S : Type} {st : List Value} {av : Array Value} {r : Option Value} {wf : S → va_W} {wc wr : va_W} {mc ms : Nat} (hr : va_Run p l e R s m args below meth c H locs cells slots mc ms (F0 m pc ls st) rest (z_QE D cl tys r wf (va_A wc H.size) av) (va_A wc H.size)) (hP : va_P D cl ws H) (hD : va_D A ws) (hS : va_S A H0 H locs) (hA : ∀ q, H0.size ≤ q → A q)
    (isC isR : List Nat) (hC : isC.map (fun i => ws[i]?) = wc.map some) (hR : isR.map (fun i => ws[i]?) = wr.map some) (hn : va_nd isR = true) (hdis : ∀ i ∈ isR, i ∉ isC)
    (k : ∀ (u : S) (H1 : Heap) (locs1 : List Loc), va_P D cl (wr ++ wf u) H1 → va_D A (wr ++ wf u) → va_S A H0 H1 locs1 → W p l e R s m args below meth c H1 locs1 (cells + mc) (slots + ms) Q (F0 m (pc + 3) ls (r.toList ++ rest))) : W p l e R s m args below meth c H locs cells slots Q (F0 m pc ls st) := by
  intro T hT X
  obtain ⟨v, st₀, t, T', L, h0, X', hL, e1, e2, ⟨u, hv, hp, hk, hd, hz, hkp⟩, go⟩ := hr T hT X
  cases hv
  rw [h0] at hz hkp
  have hin := va_free hD hS hA isC hC
  obtain ⟨hP1, hD1⟩ := va_join hP hD isC isR hC hR hn hdis (H1 := t.heap) (fun q h1 h2 => hkp q h1 h2) hin hp hd
  obtain ⟨t2, a1, b1⟩ := k u T'.heap (locs ++ L) (by rw [e1]; exact hP1) hD1
    ⟨Nat.le_trans hS.1 (by rw [e1]; exact hz), fun q h1 h2 => by rw [e1, hkp q (Nat.lt_of_lt_of_le h1 hS.1) (fun z => h2 (hin q z))]; exact hS.2.1 q h1 h2, fun q hq => by
      rcases List.mem_append.mp hq with h | h
      · exact hS.2.2 q h
      · exact hin _ (hL q h)⟩ T' rfl X'
  exact ⟨t2, go t2 a1, b1⟩
theorem z_objInit (F : CallFix p m c cc nL s args Ts own) {idx : Nat} (hl : Cond.methodLink own idx objectInit ∈ Ts) (hi : Cond.instanceMethod objectInit ∈ Ts) (hc : Cond.code objectInit ⟨#[0xb1]⟩ 1 none ∈ Ts) (hsize : ls.size = nL) (hd : decode cc pc = .ok (.invokespecial idx, 3)) (hfr : 1 ≤ R.frames) (hlo : (rest.map fun v => v.category).sum + 12 ≤ R.locals)
    (k : W p l e R s m args below meth c H locs cells slots Q (F0 m (pc + 3) ls rest)) : W p l e R s m args below meth c H locs cells slots Q (F0 m pc ls (.ref a :: rest)) :=
  W.objInit F.1 F.2.1 F.2.2.2.1 (F.2.2.2.2 _ hl) (F.2.2.2.2 _ hi) (F.2.2.2.2 _ hc) rfl (by rw [F.2.2.1]; exact hsize) rfl hd hfr (by show 2 * 0 + _ + 12 ≤ _; omega) k
end ZM
end
section
set_option maxHeartbeats 4000000 in
set_option maxRecDepth 100000 in
theorem c_sum (l : Launch) (a b : Nat) (ha : a < 998244353) (hb : b < 998244353) : Met l yF_sum (zW yF_sum cF_sum 3 (.some .int)) ({ frames := 0, cells := 0, slots := 0, locals := 0 }) (va_Pc [.int (nI a), .int (nI b)] (fun _ => True)) (k2_QcV (.int (nI ((a + b) % 998244353)))) 0 0 (fun _ => False) := by
  refine Met.ofW (cc := cF_sum) (maxL := 3) (ret := (.some .int)) (by decide) rfl ?_
  intro p e s m args below meth c s₁ B hml hv
  obtain ⟨rfl, -⟩ := hv
  have F : CallFix p m c cF_sum 3 s _ zT RF := ⟨B.exec, B.bytes, hml, findClass_of_methodNamed B.named, fun w h => atoms_spec (ws := (zW yF_sum cF_sum 3 (.some .int))) B.pre w (List.mem_cons_of_mem _ h)⟩
  have hr := B.returns
  have hlocks := B.notSynchronized
  have hl := lv_entry ([.int (nI a), .int (nI b)]) (n := 3) (Nat.le_of_ble_eq_true rfl)
  rw [lg_entry_eq]
  generalize (lg_sl ([.int (nI a), .int (nI b)]) ++ List.replicate (3 - (lg_sl ([.int (nI a), .int (nI b)])).length) Slot.unset).toArray = ls at hl ⊢
  have hl : lv_has ls 3 [(0, .int (nI a)), (1, .int (nI b))] := hl
  refine lv_iload_n F.1 F.2.1 dF_sum_0 rfl (lv_at hl 0 rfl) ?_
  refine lv_iload_n F.1 F.2.1 dF_sum_1 rfl (lv_at hl 1 rfl) ?_
  refine z_iadd F dF_sum_2 ?_
  refine lv_istore_n F.1 F.2.1 (lv' := [(2, .int (nI (a + b))), (0, .int (nI a)), (1, .int (nI b))]) dF_sum_3 rfl hl (by decide) rfl (fun ls hl => ?_)
  refine lv_iload_n F.1 F.2.1 dF_sum_4 rfl (lv_at hl 0 rfl) ?_
  refine z_ldc F 998244353 (v0 := 998244353) wk_F_9 rfl dF_sum_5 ?_
  refine z_icmp_lt F (by omega) (by omega) (tgt := 17) dF_sum_7 rfl (fun h => ?_) (fun h => ?_)
  · refine lv_iload_n F.1 F.2.1 dF_sum_17 rfl (lv_at hl 0 rfl) ?_
    refine z_top ((a + b) % 998244353) (by omega) ?_
    exact W.iret F.1 F.2.1 hr (fun t ht hW => ⟨rfl, ht⟩) (fun _ h => by cases h) dF_sum_18
  · refine lv_iload_n F.1 F.2.1 dF_sum_10 rfl (lv_at hl 0 rfl) ?_
    refine z_ldc F 998244353 (v0 := 998244353) wk_F_9 rfl dF_sum_11 ?_
    refine z_isub F (by omega) dF_sum_13 ?_
    refine lv_goto F.1 F.2.1 (tgt := 18) dF_sum_14 rfl ?_
    refine z_top ((a + b) % 998244353) (by omega) ?_
    exact W.iret F.1 F.2.1 hr (fun t ht hW => ⟨rfl, ht⟩) (fun _ h => by cases h) dF_sum_18
set_option maxHeartbeats 4000000 in
set_option maxRecDepth 100000 in
theorem c_difference (l : Launch) (a b : Nat) (ha : a < 998244353) (hb : b < 998244353) : Met l yF_difference (zW yF_difference cF_difference 2 (.some .int)) ({ frames := 0, cells := 0, slots := 0, locals := 0 }) (va_Pc [.int (nI a), .int (nI b)] (fun _ => True)) (k2_QcV (.int (nI ((a + 998244353 - b) % 998244353)))) 0 0 (fun _ => False) := by
  refine Met.ofW (cc := cF_difference) (maxL := 2) (ret := (.some .int)) (by decide) rfl ?_
  intro p e s m args below meth c s₁ B hml hv
  obtain ⟨rfl, -⟩ := hv
  have F : CallFix p m c cF_difference 2 s _ zT RF := ⟨B.exec, B.bytes, hml, findClass_of_methodNamed B.named, fun w h => atoms_spec (ws := (zW yF_difference cF_difference 2 (.some .int))) B.pre w (List.mem_cons_of_mem _ h)⟩
  have hr := B.returns
  have hlocks := B.notSynchronized
  have hl := lv_entry ([.int (nI a), .int (nI b)]) (n := 2) (Nat.le_of_ble_eq_true rfl)
  rw [lg_entry_eq]
  generalize (lg_sl ([.int (nI a), .int (nI b)]) ++ List.replicate (2 - (lg_sl ([.int (nI a), .int (nI b)])).length) Slot.unset).toArray = ls at hl ⊢
  have hl : lv_has ls 2 [(0, .int (nI a)), (1, .int (nI b))] := hl
  refine lv_iload_n F.1 F.2.1 dF_difference_0 rfl (lv_at hl 0 rfl) ?_
  refine lv_iload_n F.1 F.2.1 dF_difference_1 rfl (lv_at hl 1 rfl) ?_
  refine z_icmp_lt F (by omega) (by omega) (tgt := 11) dF_difference_2 rfl (fun h => ?_) (fun h => ?_)
  · refine lv_iload_n F.1 F.2.1 dF_difference_11 rfl (lv_at hl 0 rfl) ?_
    refine lv_iload_n F.1 F.2.1 dF_difference_12 rfl (lv_at hl 1 rfl) ?_
    refine lv_isub F.1 F.2.1 dF_difference_13 ?_
    refine z_ldc F 998244353 (v0 := 998244353) wk_F_9 rfl dF_difference_14 ?_
    refine lv_iadd F.1 F.2.1 dF_difference_16 ?_
    refine z_topI ((a + 998244353 - b) % 998244353) (by rw [z_subadd (by omega)]; exact congrArg nI (by omega)) ?_
    exact W.iret F.1 F.2.1 hr (fun t ht hW => ⟨rfl, ht⟩) (fun _ h => by cases h) dF_difference_17
  · refine lv_iload_n F.1 F.2.1 dF_difference_5 rfl (lv_at hl 0 rfl) ?_
    refine lv_iload_n F.1 F.2.1 dF_difference_6 rfl (lv_at hl 1 rfl) ?_
    refine z_isub F (by omega) dF_difference_7 ?_
    refine lv_goto F.1 F.2.1 (tgt := 17) dF_difference_8 rfl ?_
    refine z_top ((a + 998244353 - b) % 998244353) (by omega) ?_
    exact W.iret F.1 F.2.1 hr (fun t ht hW => ⟨rfl, ht⟩) (fun _ h => by cases h) dF_difference_17
set_option maxHeartbeats 4000000 in
set_option maxRecDepth 100000 in
theorem c_product (l : Launch) (a b : Nat) (ha : a < 2 ^ 31) (hb : b < 2 ^ 31) : Met l yF_product (zW yF_product cF_product 2 (.some .int)) ({ frames := 0, cells := 0, slots := 0, locals := 0 }) (va_Pc [.int (nI a), .int (nI b)] (fun _ => True)) (k2_QcV (.int (nI (a * b % 998244353)))) 0 0 (fun _ => False) := by
  refine Met.ofW (cc := cF_product) (maxL := 2) (ret := (.some .int)) (by decide) rfl ?_
  intro p e s m args below meth c s₁ B hml hv
  obtain ⟨rfl, -⟩ := hv
  have F : CallFix p m c cF_product 2 s _ zT RF := ⟨B.exec, B.bytes, hml, findClass_of_methodNamed B.named, fun w h => atoms_spec (ws := (zW yF_product cF_product 2 (.some .int))) B.pre w (List.mem_cons_of_mem _ h)⟩
  have hr := B.returns
  have hlocks := B.notSynchronized
  have hl := lv_entry ([.int (nI a), .int (nI b)]) (n := 2) (Nat.le_of_ble_eq_true rfl)
  rw [lg_entry_eq]
  generalize (lg_sl ([.int (nI a), .int (nI b)]) ++ List.replicate (2 - (lg_sl ([.int (nI a), .int (nI b)])).length) Slot.unset).toArray = ls at hl ⊢
  have hl : lv_has ls 2 [(0, .int (nI a)), (1, .int (nI b))] := hl
  have hm := z_mb ha hb
  refine lv_iload_n F.1 F.2.1 dF_product_0 rfl (lv_at hl 0 rfl) ?_
  refine z_i2l F (by omega) dF_product_1 ?_
  refine lv_iload_n F.1 F.2.1 dF_product_2 rfl (lv_at hl 1 rfl) ?_
  refine z_i2l F (by omega) dF_product_3 ?_
  refine z_lmul F dF_product_4 ?_
  refine z_ldc2 F 998244353 (v0 := 998244353) wk_F_10 rfl dF_product_5 ?_
  refine z_lrem F (by omega) (by omega) (by omega) dF_product_8 ?_
  refine z_l2i F dF_product_9 ?_
  exact W.iret F.1 F.2.1 hr (fun t ht hW => ⟨rfl, ht⟩) (fun _ h => by cases h) dF_product_10
set_option maxHeartbeats 4000000 in
set_option maxRecDepth 100000 in
theorem c_power (l : Launch) (b x : Nat) (hb : b < 2 ^ 31) (he : x < 2 ^ 31) : Met l yF_power (zW yF_power cF_power 5 (.some .int)) ({ frames := 1, cells := 0, slots := 0, locals := 21 }) (va_Pc [.int (nI b), .int (nI x)] (fun _ => True)) (k2_QcV (.int (nI (pw b x)))) 0 0 (fun _ => False) := by
  refine Met.ofW (cc := cF_power) (maxL := 5) (ret := (.some .int)) (by decide) rfl ?_
  intro p e s m args below meth c s₁ B hml hv
  obtain ⟨rfl, -⟩ := hv
  have F : CallFix p m c cF_power 5 s _ zT RF := ⟨B.exec, B.bytes, hml, findClass_of_methodNamed B.named, fun w h => atoms_spec (ws := (zW yF_power cF_power 5 (.some .int))) B.pre w (List.mem_cons_of_mem _ h)⟩
  have hr := B.returns
  have hlocks := B.notSynchronized
  have hl := lv_entry ([.int (nI b), .int (nI x)]) (n := 5) (Nat.le_of_ble_eq_true rfl)
  rw [lg_entry_eq]
  generalize (lg_sl ([.int (nI b), .int (nI x)]) ++ List.replicate (5 - (lg_sl ([.int (nI b), .int (nI x)])).length) Slot.unset).toArray = ls at hl ⊢
  have hl : lv_has ls 5 [(0, .int (nI b)), (1, .int (nI x))] := hl
  refine z_iconst (v := 1) F (by decide) dF_power_0 ?_
  refine lv_istore_n F.1 F.2.1 (lv' := [(2, .int (nI 1)), (0, .int (nI b)), (1, .int (nI x))]) dF_power_1 rfl hl (by decide) rfl (fun ls hl => ?_)
  refine lv_iload_n F.1 F.2.1 dF_power_2 rfl (lv_at hl 1 rfl) ?_
  refine lv_istore_n F.1 F.2.1 (lv' := [(3, .int (nI b)), (2, .int (nI 1)), (0, .int (nI b)), (1, .int (nI x))]) dF_power_3 rfl hl (by decide) rfl (fun ls hl => ?_)
  refine lv_iload_n F.1 F.2.1 dF_power_4 rfl (lv_at hl 3 rfl) ?_
  refine lv_istore F.1 F.2.1 (lv' := [(4, .int (nI x)), (3, .int (nI b)), (2, .int (nI 1)), (0, .int (nI b)), (1, .int (nI x))]) dF_power_5 hl (by decide) rfl (fun ls hl => ?_)
  have hl : lv_has ls 5 [(4, .int (nI x)), (3, .int (nI b)), (2, .int (nI 1)), (0, .int (nI b)), (1, .int (nI x))] := lv_sub hl [0, 1, 2, 3, 4] rfl
  refine z_fall (P := fun w => ∀ (q y : Nat) (ls : Array Slot), q < 2 ^ 31 → y < 998244353 → w < 2 ^ 31 → cg (y * q ^ w) (b ^ x) → lv_has ls 5 [(4, .int (nI w)), (3, .int (nI q)), (2, .int (nI y)), (0, .int (nI b)), (1, .int (nI x))] → W p l e _ s m _ below meth c s.heap [] _ _ _ (F0 m 7 ls [])) ?_ x b 1 ls (hb) (by decide) (he) (by rw [Nat.one_mul]; exact cg.rf _) hl
  intro w ih q y ls hq hy hw hc hl
  refine lv_iload F.1 F.2.1 dF_power_7 (lv_at hl 0 rfl) ?_
  refine z_if_le F (by omega) (tgt := 41) dF_power_9 rfl (fun h0 => ?_) (fun h0 => ?_)
  · refine lv_iload_n F.1 F.2.1 dF_power_41 rfl (lv_at hl 2 rfl) ?_
    refine z_top (pw b x) (by rw [h0, Nat.pow_zero, Nat.mul_one] at hc; exact (Nat.mod_eq_of_lt hy).symm.trans hc) ?_
    exact W.iret F.1 F.2.1 hr (fun t ht hW => ⟨rfl, ht⟩) (fun _ h => by cases h) dF_power_42
  · refine lv_iload F.1 F.2.1 dF_power_12 (lv_at hl 0 rfl) ?_
    refine z_iconst (v := 2) F (by decide) dF_power_14 ?_
    refine z_irem F (by omega) (by omega) (by omega) dF_power_15 ?_
    refine z_iconst (v := 1) F (by decide) dF_power_16 ?_
    refine z_icmp_ne F (by omega) (by omega) (tgt := 26) dF_power_17 rfl (fun h1 => ?_) (fun h1 => ?_)
    · refine lv_iload_n F.1 F.2.1 dF_power_26 rfl (lv_at hl 1 rfl) ?_
      refine lv_iload_n F.1 F.2.1 dF_power_27 rfl (lv_at hl 1 rfl) ?_
      refine z_call (z_runS [.int (nI q), .int (nI q)] [] F (c_product l q q hq hq) kk_F_product wl_F_12 rfl rfl ⟨Nat.le_of_ble_eq_true rfl, Nat.le_of_ble_eq_true rfl⟩ z_preN rfl hl.1 rfl (Nat.le_of_ble_eq_true rfl) dF_power_28 ⟨Nat.zero_le _, Nat.zero_le _⟩) ?_
      refine lv_istore_n F.1 F.2.1 (lv' := [(3, .int (nI (q * q % 998244353))), (4, .int (nI w)), (2, .int (nI y)), (0, .int (nI b)), (1, .int (nI x))]) dF_power_31 rfl hl (by decide) rfl (fun ls hl => ?_)
      refine lv_iload F.1 F.2.1 dF_power_32 (lv_at hl 1 rfl) ?_
      refine z_iconst (v := 2) F (by decide) dF_power_34 ?_
      refine z_idiv F (by omega) (by omega) (by omega) dF_power_35 ?_
      refine lv_istore F.1 F.2.1 (lv' := [(4, .int (nI (w / 2))), (3, .int (nI (q * q % 998244353))), (2, .int (nI y)), (0, .int (nI b)), (1, .int (nI x))]) dF_power_36 hl (by decide) rfl (fun ls hl => ?_)
      refine lv_goto F.1 F.2.1 (tgt := 7) dF_power_38 rfl ?_
      have hl : lv_has ls 5 [(4, .int (nI ((w / 2)))), (3, .int (nI ((q * q % 998244353)))), (2, .int (nI y)), (0, .int (nI b)), (1, .int (nI x))] := lv_sub hl [0, 1, 2, 3, 4] rfl
      exact ih (w / 2) (by omega) (q * q % 998244353) y ls (Nat.lt_trans (ltP _) (by decide)) (hy) (by omega) ((pw_even y q w (by omega)).sy.tr hc) hl
    · refine lv_iload_n F.1 F.2.1 dF_power_20 rfl (lv_at hl 2 rfl) ?_
      refine lv_iload_n F.1 F.2.1 dF_power_21 rfl (lv_at hl 1 rfl) ?_
      refine z_call (z_runS [.int (nI y), .int (nI q)] [] F (c_product l y q (by omega) hq) kk_F_product wl_F_12 rfl rfl ⟨Nat.le_of_ble_eq_true rfl, Nat.le_of_ble_eq_true rfl⟩ z_preN rfl hl.1 rfl (Nat.le_of_ble_eq_true rfl) dF_power_22 ⟨Nat.zero_le _, Nat.zero_le _⟩) ?_
      refine lv_istore_n F.1 F.2.1 (lv' := [(2, .int (nI (y * q % 998244353))), (4, .int (nI w)), (3, .int (nI q)), (0, .int (nI b)), (1, .int (nI x))]) dF_power_25 rfl hl (by decide) rfl (fun ls hl => ?_)
      refine lv_iload_n F.1 F.2.1 dF_power_26 rfl (lv_at hl 2 rfl) ?_
      refine lv_iload_n F.1 F.2.1 dF_power_27 rfl (lv_at hl 2 rfl) ?_
      refine z_call (z_runS [.int (nI q), .int (nI q)] [] F (c_product l q q hq hq) kk_F_product wl_F_12 rfl rfl ⟨Nat.le_of_ble_eq_true rfl, Nat.le_of_ble_eq_true rfl⟩ z_preN rfl hl.1 rfl (Nat.le_of_ble_eq_true rfl) dF_power_28 ⟨Nat.zero_le _, Nat.zero_le _⟩) ?_
      refine lv_istore_n F.1 F.2.1 (lv' := [(3, .int (nI (q * q % 998244353))), (2, .int (nI (y * q % 998244353))), (4, .int (nI w)), (0, .int (nI b)), (1, .int (nI x))]) dF_power_31 rfl hl (by decide) rfl (fun ls hl => ?_)
      refine lv_iload F.1 F.2.1 dF_power_32 (lv_at hl 2 rfl) ?_
      refine z_iconst (v := 2) F (by decide) dF_power_34 ?_
      refine z_idiv F (by omega) (by omega) (by omega) dF_power_35 ?_
      refine lv_istore F.1 F.2.1 (lv' := [(4, .int (nI (w / 2))), (3, .int (nI (q * q % 998244353))), (2, .int (nI (y * q % 998244353))), (0, .int (nI b)), (1, .int (nI x))]) dF_power_36 hl (by decide) rfl (fun ls hl => ?_)
      refine lv_goto F.1 F.2.1 (tgt := 7) dF_power_38 rfl ?_
      have hl : lv_has ls 5 [(4, .int (nI ((w / 2)))), (3, .int (nI ((q * q % 998244353)))), (2, .int (nI ((y * q % 998244353)))), (0, .int (nI b)), (1, .int (nI x))] := lv_sub hl [0, 1, 2, 3, 4] rfl
      exact ih (w / 2) (by omega) (q * q % 998244353) (y * q % 998244353) ls (Nat.lt_trans (ltP _) (by decide)) (ltP _) (by omega) ((pw_odd y q w (by omega)).sy.tr hc) hl
set_option maxHeartbeats 4000000 in
set_option maxRecDepth 100000 in
theorem c_ratio (l : Launch) (a b : Nat) (ha : a < 2 ^ 31) (hb : b < 2 ^ 31) : Met l yF_ratio (zW yF_ratio cF_ratio 2 (.some .int)) ({ frames := 2, cells := 0, slots := 0, locals := 45 }) (va_Pc [.int (nI a), .int (nI b)] (fun _ => True)) (k2_QcV (.int (nI (a * iv b % 998244353)))) 0 0 (fun _ => False) := by
  refine Met.ofW (cc := cF_ratio) (maxL := 2) (ret := (.some .int)) (by decide) rfl ?_
  intro p e s m args below meth c s₁ B hml hv
  obtain ⟨rfl, -⟩ := hv
  have F : CallFix p m c cF_ratio 2 s _ zT RF := ⟨B.exec, B.bytes, hml, findClass_of_methodNamed B.named, fun w h => atoms_spec (ws := (zW yF_ratio cF_ratio 2 (.some .int))) B.pre w (List.mem_cons_of_mem _ h)⟩
  have hr := B.returns
  have hlocks := B.notSynchronized
  have hl := lv_entry ([.int (nI a), .int (nI b)]) (n := 2) (Nat.le_of_ble_eq_true rfl)
  rw [lg_entry_eq]
  generalize (lg_sl ([.int (nI a), .int (nI b)]) ++ List.replicate (2 - (lg_sl ([.int (nI a), .int (nI b)])).length) Slot.unset).toArray = ls at hl ⊢
  have hl : lv_has ls 2 [(0, .int (nI a)), (1, .int (nI b))] := hl
  refine lv_iload_n F.1 F.2.1 dF_ratio_0 rfl (lv_at hl 0 rfl) ?_
  refine lv_iload_n F.1 F.2.1 dF_ratio_1 rfl (lv_at hl 1 rfl) ?_
  refine z_ldc F 998244351 (v0 := 998244351) wk_F_18 rfl dF_ratio_2 ?_
  refine z_call (z_runS [.int (nI b), .int (nI 998244351)] [.int (nI a)] F (c_power l b 998244351 hb (by decide)) kk_F_power wl_F_19 rfl rfl ⟨Nat.le_of_ble_eq_true rfl, Nat.le_of_ble_eq_true rfl⟩ z_preN rfl hl.1 rfl (Nat.le_of_ble_eq_true rfl) dF_ratio_4 ⟨Nat.zero_le _, Nat.zero_le _⟩) ?_
  refine z_call (z_runS [.int (nI a), .int (nI (pw b 998244351))] [] F (c_product l a (pw b 998244351) ha (Nat.lt_trans (pw_lt _ _) (by decide))) kk_F_product wl_F_12 rfl rfl ⟨Nat.le_of_ble_eq_true rfl, Nat.le_of_ble_eq_true rfl⟩ z_preN rfl hl.1 rfl (Nat.le_of_ble_eq_true rfl) dF_ratio_7 ⟨Nat.zero_le _, Nat.zero_le _⟩) ?_
  exact W.iret F.1 F.2.1 hr (fun t ht hW => ⟨rfl, ht⟩) (fun _ h => by cases h) dF_ratio_10
end
section
set_option maxHeartbeats 4000000 in
set_option maxRecDepth 100000 in
theorem c_start (l : Launch) (j row : Nat)  : Met l yC_start (zW yC_start cC_start 2 (.some .int)) ({ frames := 0, cells := 0, slots := 0, locals := 0 }) (va_Pc [.int (nI j), .int (nI row)] (fun _ => True)) (k2_QcV (.int (nI ((j * 3 + row) * 16)))) 0 0 (fun _ => False) := by
  refine Met.ofW (cc := cC_start) (maxL := 2) (ret := (.some .int)) (by decide) rfl ?_
  intro p e s m args below meth c s₁ B hml hv
  obtain ⟨rfl, -⟩ := hv
  have F : CallFix p m c cC_start 2 s _ zT RC := ⟨B.exec, B.bytes, hml, findClass_of_methodNamed B.named, fun w h => atoms_spec (ws := (zW yC_start cC_start 2 (.some .int))) B.pre w (List.mem_cons_of_mem _ h)⟩
  have hr := B.returns
  have hlocks := B.notSynchronized
  have hl := lv_entry ([.int (nI j), .int (nI row)]) (n := 2) (Nat.le_of_ble_eq_true rfl)
  rw [lg_entry_eq]
  generalize (lg_sl ([.int (nI j), .int (nI row)]) ++ List.replicate (2 - (lg_sl ([.int (nI j), .int (nI row)])).length) Slot.unset).toArray = ls at hl ⊢
  have hl : lv_has ls 2 [(0, .int (nI j)), (1, .int (nI row))] := hl
  refine lv_iload_n F.1 F.2.1 dC_start_0 rfl (lv_at hl 0 rfl) ?_
  refine z_iconst (v := 3) F (by decide) dC_start_1 ?_
  refine z_imul F dC_start_2 ?_
  refine lv_iload_n F.1 F.2.1 dC_start_3 rfl (lv_at hl 1 rfl) ?_
  refine z_iadd F dC_start_4 ?_
  refine z_bipush (v := 16) F (by decide) dC_start_5 ?_
  refine z_imul F dC_start_7 ?_
  exact W.iret F.1 F.2.1 hr (fun t ht hW => ⟨rfl, ht⟩) (fun _ h => by cases h) dC_start_8
set_option maxHeartbeats 4000000 in
set_option maxRecDepth 100000 in
theorem c_count (l : Launch) (dC : Nat → ClassId) (dI : Nat → Nat → Nat) (cI cL : ClassId) (ws : va_W) (q1 : Nat) (h0 hA cn : Nat) (e1 : ws[q1]? = some (h0, .inr (0, [.ref hA, .int (nI cn)])))  : Met l yC_count (zW yC_count cC_count 1 (.some .int)) ({ frames := 0, cells := 0, slots := 0, locals := 0 }) (va_Pc [.ref h0] (z_R (dC, dI) vwCl [(cI, .int), (cL, .long)] ws)) (k2_QcV (.int (nI cn))) 0 0 (fun _ => False) := by
  refine Met.ofW (cc := cC_count) (maxL := 1) (ret := (.some .int)) (by decide) rfl ?_
  intro p e s m args below meth c s₁ B hml hv
  obtain ⟨rfl, hP, hK⟩ := hv
  have F : CallFix p m c cC_count 1 s _ zT RC := ⟨B.exec, B.bytes, hml, findClass_of_methodNamed B.named, fun w h => atoms_spec (ws := (zW yC_count cC_count 1 (.some .int))) B.pre w (List.mem_cons_of_mem _ h)⟩
  have hr := B.returns
  have hlocks := B.notSynchronized
  have hl := lv_entry ([.ref h0]) (n := 1) (Nat.le_of_ble_eq_true rfl)
  rw [lg_entry_eq]
  generalize (lg_sl ([.ref h0]) ++ List.replicate (1 - (lg_sl ([.ref h0])).length) Slot.unset).toArray = ls at hl ⊢
  have hl : lv_has ls 1 [(0, .ref h0)] := hl
  refine lv_aload_n F.1 F.2.1 dC_count_0 rfl (lv_at hl 0 rfl) ?_
  refine z_get F hK hP hinC q1 e1 rfl 1 (by decide) rfl wf_C_15 rfl dC_count_1 ?_
  exact W.iret F.1 F.2.1 hr (fun t ht hW => ⟨rfl, ht⟩) (fun _ h => by cases h) dC_count_4
set_option maxHeartbeats 4000000 in
set_option maxRecDepth 100000 in
theorem c_rowSum (l : Launch) (dC : Nat → ClassId) (dI : Nat → Nat → Nat) (cI cL : ClassId) (ws : va_W) (q1 q2 q3 : Nat) (h0 hA hV cn : Nat) (f v : Nat → Nat) (j row : Nat) (e1 : ws[q1]? = some (h0, .inr (0, [.ref hA, .int (nI cn)]))) (e2 : ws[q2]? = some (hA, .inl (cI, 816, .inl (fun j => nI (f j))))) (e3 : ws[q3]? = some (hV, .inl (cI, 16, .inl (fun j => nI (v j))))) (hf : ∀ j, f j < 998244353) (hv : ∀ j, v j < 998244353) (hj : j < 16) (hw : row < 3) : Met l yC_rowSum (zW yC_rowSum cC_rowSum 7 (.some .int)) ({ frames := 1, cells := 0, slots := 0, locals := 22 }) (va_Pc [.ref h0, .int (nI j), .int (nI row), .ref hV] (z_R (dC, dI) vwCl [(cI, .int), (cL, .long)] ws)) (k2_QcV (.int (nI (sg 16 (fun t => f ((j * 3 + row) * 16 + t) * v t) % 998244353)))) 0 0 (fun _ => False) := by
  refine Met.ofW (cc := cC_rowSum) (maxL := 7) (ret := (.some .int)) (by decide) rfl ?_
  intro p e s m args below meth c s₁ B hml hv
  obtain ⟨rfl, hP, hK⟩ := hv
  have F : CallFix p m c cC_rowSum 7 s _ zT RC := ⟨B.exec, B.bytes, hml, findClass_of_methodNamed B.named, fun w h => atoms_spec (ws := (zW yC_rowSum cC_rowSum 7 (.some .int))) B.pre w (List.mem_cons_of_mem _ h)⟩
  have hr := B.returns
  have hlocks := B.notSynchronized
  have hl := lv_entry ([.ref h0, .int (nI j), .int (nI row), .ref hV]) (n := 7) (Nat.le_of_ble_eq_true rfl)
  rw [lg_entry_eq]
  generalize (lg_sl ([.ref h0, .int (nI j), .int (nI row), .ref hV]) ++ List.replicate (7 - (lg_sl ([.ref h0, .int (nI j), .int (nI row), .ref hV])).length) Slot.unset).toArray = ls at hl ⊢
  have hl : lv_has ls 7 [(0, .ref h0), (1, .int (nI j)), (2, .int (nI row)), (3, .ref hV)] := hl
  refine lv_iload_n F.1 F.2.1 dC_rowSum_0 rfl (lv_at hl 1 rfl) ?_
  refine lv_iload_n F.1 F.2.1 dC_rowSum_1 rfl (lv_at hl 2 rfl) ?_
  refine z_call (z_runS [.int (nI j), .int (nI row)] [] F (c_start l j row) kk_C_start wl_C_19 rfl rfl ⟨Nat.le_of_ble_eq_true rfl, Nat.le_of_ble_eq_true rfl⟩ z_preN rfl hl.1 rfl (Nat.le_of_ble_eq_true rfl) dC_rowSum_2 ⟨Nat.zero_le _, Nat.zero_le _⟩) ?_
  refine lv_istore F.1 F.2.1 (lv' := [(4, .int (nI ((j * 3 + row) * 16))), (0, .ref h0), (1, .int (nI j)), (2, .int (nI row)), (3, .ref hV)]) dC_rowSum_5 hl (by decide) rfl (fun ls hl => ?_)
  refine z_iconst (v := 0) F (by decide) dC_rowSum_7 ?_
  refine lv_istore F.1 F.2.1 (lv' := [(5, .int (nI 0)), (4, .int (nI ((j * 3 + row) * 16))), (0, .ref h0), (1, .int (nI j)), (2, .int (nI row)), (3, .ref hV)]) dC_rowSum_8 hl (by decide) rfl (fun ls hl => ?_)
  refine z_iconst (v := 0) F (by decide) dC_rowSum_10 ?_
  refine lv_istore F.1 F.2.1 (lv' := [(6, .int (nI 0)), (5, .int (nI 0)), (4, .int (nI ((j * 3 + row) * 16))), (0, .ref h0), (1, .int (nI j)), (2, .int (nI row)), (3, .ref hV)]) dC_rowSum_11 hl (by decide) rfl (fun ls hl => ?_)
  have hl : lv_has ls 7 [(6, .int (nI 0)), (5, .int (nI (sg 0 (fun t => f ((j * 3 + row) * 16 + t) * v t) % 998244353))), (0, .ref h0), (1, .int (nI j)), (2, .int (nI row)), (3, .ref hV), (4, .int (nI ((j * 3 + row) * 16)))] := lv_sub hl [0, 1, 3, 4, 5, 6, 2] rfl
  refine z_up (E := 16) (P := fun i => ∀  (ls : Array Slot), lv_has ls 7 [(6, .int (nI i)), (5, .int (nI (sg i (fun t => f ((j * 3 + row) * 16 + t) * v t) % 998244353))), (0, .ref h0), (1, .int (nI j)), (2, .int (nI row)), (3, .ref hV), (4, .int (nI ((j * 3 + row) * 16)))] → W p l e _ s m _ below meth c s.heap [] _ _ _ (F0 m 13 ls [])) ?_ 0 (Nat.zero_le _)  ls  hl
  intro i hi ih  ls  hl
  refine lv_iload F.1 F.2.1 dC_rowSum_13 (lv_at hl 0 rfl) ?_
  refine z_bipush (v := 16) F (by decide) dC_rowSum_15 ?_
  refine z_icmp_ge F (by omega) (by omega) (tgt := 50) dC_rowSum_17 rfl (fun h1 => ?_) (fun h1 => ?_)
  · refine lv_iload F.1 F.2.1 dC_rowSum_50 (lv_at hl 1 rfl) ?_
    refine z_top (sg 16 (fun t => f ((j * 3 + row) * 16 + t) * v t) % 998244353) (by rw [show i = 16 by omega]) ?_
    exact W.iret F.1 F.2.1 hr (fun t ht hW => ⟨rfl, ht⟩) (fun _ h => by cases h) dC_rowSum_52
  · refine lv_iload F.1 F.2.1 dC_rowSum_20 (lv_at hl 1 rfl) ?_
    refine lv_aload_n F.1 F.2.1 dC_rowSum_22 rfl (lv_at hl 2 rfl) ?_
    refine z_get F hK hP hinC q1 e1 rfl 0 (by decide) rfl wf_C_9 rfl dC_rowSum_23 ?_
    refine lv_iload F.1 F.2.1 dC_rowSum_26 (lv_at hl 6 rfl) ?_
    refine lv_iload F.1 F.2.1 dC_rowSum_28 (lv_at hl 0 rfl) ?_
    refine z_iadd F dC_rowSum_30 ?_
    refine z_iald F hK hP q2 0 e2 rfl (by omega) (by decide) dC_rowSum_31 ?_
    refine lv_aload_n F.1 F.2.1 dC_rowSum_32 rfl (lv_at hl 5 rfl) ?_
    refine lv_iload F.1 F.2.1 dC_rowSum_33 (lv_at hl 0 rfl) ?_
    refine z_iald F hK hP q3 0 e3 rfl (by omega) (by decide) dC_rowSum_35 ?_
    refine z_call (z_runS [.int (nI (f (((j * 3 + row) * 16) + i))), .int (nI (v i))] [.int (nI (sg i (fun t => f ((j * 3 + row) * 16 + t) * v t) % 998244353))] F (c_product l (f ((j * 3 + row) * 16 + i)) (v i) (Nat.lt_trans (hf _) (by decide)) (Nat.lt_trans (hv _) (by decide))) kk_F_product wl_C_32 rfl rfl ⟨Nat.le_of_ble_eq_true rfl, Nat.le_of_ble_eq_true rfl⟩ z_preN rfl hl.1 rfl (Nat.le_of_ble_eq_true rfl) dC_rowSum_36 ⟨Nat.zero_le _, Nat.zero_le _⟩) ?_
    refine z_call (z_runS [.int (nI (sg i (fun t => f ((j * 3 + row) * 16 + t) * v t) % 998244353)), .int (nI ((f ((j * 3 + row) * 16 + i)) * (v i) % 998244353))] [] F (c_sum l (sg i (fun t => f ((j * 3 + row) * 16 + t) * v t) % 998244353) ((f ((j * 3 + row) * 16 + i)) * (v i) % 998244353) (ltP _) (ltP _)) kk_F_sum wl_C_23 rfl rfl ⟨Nat.le_of_ble_eq_true rfl, Nat.le_of_ble_eq_true rfl⟩ z_preN rfl hl.1 rfl (Nat.le_of_ble_eq_true rfl) dC_rowSum_39 ⟨Nat.zero_le _, Nat.zero_le _⟩) ?_
    refine z_top (sg (i + 1) (fun t => f ((j * 3 + row) * 16 + t) * v t) % 998244353) (sm1 i (fun t => f ((j * 3 + row) * 16 + t) * v t)) ?_
    refine lv_istore F.1 F.2.1 (lv' := [(5, .int (nI (sg (i + 1) (fun t => f ((j * 3 + row) * 16 + t) * v t) % 998244353))), (6, .int (nI i)), (0, .ref h0), (1, .int (nI j)), (2, .int (nI row)), (3, .ref hV), (4, .int (nI ((j * 3 + row) * 16)))]) dC_rowSum_42 hl (by decide) rfl (fun ls hl => ?_)
    refine lv_iinc F.1 F.2.1 (k := 1) (v := nI (i + 1)) (lv' := [(6, .int (nI (i + 1))), (5, .int (nI (sg (i + 1) (fun t => f ((j * 3 + row) * 16 + t) * v t) % 998244353))), (0, .ref h0), (1, .int (nI j)), (2, .int (nI row)), (3, .ref hV), (4, .int (nI ((j * 3 + row) * 16)))]) dC_rowSum_44 hl rfl (nI_1 i) (by decide) rfl (fun ls hl => ?_)
    refine lv_goto F.1 F.2.1 (tgt := 13) dC_rowSum_47 rfl ?_
    have hl : lv_has ls 7 [(6, .int (nI ((i + 1)))), (5, .int (nI (sg (i + 1) (fun t => f ((j * 3 + row) * 16 + t) * v t) % 998244353))), (0, .ref h0), (1, .int (nI j)), (2, .int (nI row)), (3, .ref hV), (4, .int (nI ((j * 3 + row) * 16)))] := lv_sub hl [0, 1, 2, 3, 4, 5, 6] rfl
    exact ih (by omega)  ls  hl
/-- is the product of the first two sums of constraint j another than the third -/
def bad (f v : Nat → Nat) (j : Nat) : Bool := decide (sg 16 (fun t => f ((j * 3 + 0) * 16 + t) * v t) % 998244353 * (sg 16 (fun t => f ((j * 3 + 1) * 16 + t) * v t) % 998244353) % 998244353 ≠ sg 16 (fun t => f ((j * 3 + 2) * 16 + t) * v t) % 998244353)
theorem bad_no {f v : Nat → Nat} {j : Nat} (h : sg 16 (fun t => f ((j * 3 + 0) * 16 + t) * v t) % 998244353 * (sg 16 (fun t => f ((j * 3 + 1) * 16 + t) * v t) % 998244353) % 998244353 = sg 16 (fun t => f ((j * 3 + 2) * 16 + t) * v t) % 998244353) : ¬ bad f v j = true := fun q => of_decide_eq_true q h
theorem bad_yes {f v : Nat → Nat} {j : Nat} (h : sg 16 (fun t => f ((j * 3 + 0) * 16 + t) * v t) % 998244353 * (sg 16 (fun t => f ((j * 3 + 1) * 16 + t) * v t) % 998244353) % 998244353 ≠ sg 16 (fun t => f ((j * 3 + 2) * 16 + t) * v t) % 998244353) : bad f v j = true := decide_eq_true h
/-- the first of n numbers from i on that is so, as an int; else -1 -/
def fo (g : Nat → Bool) : Nat → Nat → Int32
  | _, 0 => -1
  | i, n + 1 => if g i = true then nI i else fo g (i + 1) n
theorem fo_s (g : Nat → Bool) (i n : Nat) : fo g i (n + 1) = if g i = true then nI i else fo g (i + 1) n := rfl
set_option maxHeartbeats 4000000 in
set_option maxRecDepth 100000 in
theorem c_firstOpen (l : Launch) (dC : Nat → ClassId) (dI : Nat → Nat → Nat) (cI cL : ClassId) (ws : va_W) (q1 q2 q3 : Nat) (h0 hA hV cn : Nat) (f v : Nat → Nat) (e1 : ws[q1]? = some (h0, .inr (0, [.ref hA, .int (nI cn)]))) (e2 : ws[q2]? = some (hA, .inl (cI, 816, .inl (fun j => nI (f j))))) (e3 : ws[q3]? = some (hV, .inl (cI, 16, .inl (fun j => nI (v j))))) (hf : ∀ j, f j < 998244353) (hv : ∀ j, v j < 998244353) (hn : cn ≤ 16) : Met l yC_firstOpen (zW yC_firstOpen cC_firstOpen 4 (.some .int)) ({ frames := 2, cells := 0, slots := 0, locals := 48 }) (va_Pc [.ref h0, .ref hV] (z_R (dC, dI) vwCl [(cI, .int), (cL, .long)] ws)) (k2_QcV (.int (fo (bad f v) 0 cn))) 0 0 (fun _ => False) := by
  refine Met.ofW (cc := cC_firstOpen) (maxL := 4) (ret := (.some .int)) (by decide) rfl ?_
  intro p e s m args below meth c s₁ B hml hv
  obtain ⟨rfl, hP, hK⟩ := hv
  have F : CallFix p m c cC_firstOpen 4 s _ zT RC := ⟨B.exec, B.bytes, hml, findClass_of_methodNamed B.named, fun w h => atoms_spec (ws := (zW yC_firstOpen cC_firstOpen 4 (.some .int))) B.pre w (List.mem_cons_of_mem _ h)⟩
  have hr := B.returns
  have hlocks := B.notSynchronized
  have hl := lv_entry ([.ref h0, .ref hV]) (n := 4) (Nat.le_of_ble_eq_true rfl)
  rw [lg_entry_eq]
  generalize (lg_sl ([.ref h0, .ref hV]) ++ List.replicate (4 - (lg_sl ([.ref h0, .ref hV])).length) Slot.unset).toArray = ls at hl ⊢
  have hl : lv_has ls 4 [(0, .ref h0), (1, .ref hV)] := hl
  refine z_iconst (v := 0) F (by decide) dC_firstOpen_0 ?_
  refine lv_istore_n F.1 F.2.1 (lv' := [(2, .int (nI 0)), (0, .ref h0), (1, .ref hV)]) dC_firstOpen_1 rfl hl (by decide) rfl (fun ls hl => ?_)
  have hl : lv_has ls 4 [(2, .int (nI 0)), (0, .ref h0), (1, .ref hV)] := lv_sub hl [0, 1, 2] rfl
  refine z_up (E := cn) (P := fun i => ∀  (ls : Array Slot), fo (bad f v) i (cn - i) = fo (bad f v) 0 cn → lv_has ls 4 [(2, .int (nI i)), (0, .ref h0), (1, .ref hV)] → W p l e _ s m _ below meth c s.heap [] _ _ _ (F0 m 2 ls [])) ?_ 0 (Nat.zero_le _)  ls (rfl) hl
  intro i hi ih  ls hb hl
  refine lv_iload_n F.1 F.2.1 dC_firstOpen_2 rfl (lv_at hl 0 rfl) ?_
  refine lv_aload_n F.1 F.2.1 dC_firstOpen_3 rfl (lv_at hl 1 rfl) ?_
  refine z_get F hK hP hinC q1 e1 rfl 1 (by decide) rfl wf_C_15 rfl dC_firstOpen_4 ?_
  refine z_icmp_ge F (by omega) (by omega) (tgt := 47) dC_firstOpen_7 rfl (fun h1 => ?_) (fun h1 => ?_)
  · refine lv_iconst (v := -1) F.1 F.2.1 dC_firstOpen_47 (by decide) ?_
    refine z_topV (fo (bad f v) 0 cn) (by rw [← hb, show cn - i = 0 by omega]; rfl) ?_
    exact W.iret F.1 F.2.1 hr (fun t ht hW => ⟨rfl, ht⟩) (fun _ h => by cases h) dC_firstOpen_48
  · refine lv_aload_n F.1 F.2.1 dC_firstOpen_10 rfl (lv_at hl 1 rfl) ?_
    refine lv_iload_n F.1 F.2.1 dC_firstOpen_11 rfl (lv_at hl 0 rfl) ?_
    refine z_iconst (v := 0) F (by decide) dC_firstOpen_12 ?_
    refine lv_aload_n F.1 F.2.1 dC_firstOpen_13 rfl (lv_at hl 2 rfl) ?_
    refine z_call (z_runV [.int (nI i), .int (nI 0), .ref hV] [] F (c_rowSum l dC dI cI cL ws q1 q2 q3 h0 hA hV cn f v i 0 e1 e2 e3 hf hv (by omega) (by omega)) kk_C_rowSum wl_C_28 rfl rfl ⟨Nat.le_of_ble_eq_true rfl, Nat.le_of_ble_eq_true rfl⟩ (z_preVR (q := (RC, TC, 2)) hP hK rfl e1) rfl hl.1 rfl (Nat.le_of_ble_eq_true rfl) dC_firstOpen_14 ⟨Nat.zero_le _, Nat.zero_le _⟩) ?_
    refine lv_aload_n F.1 F.2.1 dC_firstOpen_17 rfl (lv_at hl 1 rfl) ?_
    refine lv_iload_n F.1 F.2.1 dC_firstOpen_18 rfl (lv_at hl 0 rfl) ?_
    refine z_iconst (v := 1) F (by decide) dC_firstOpen_19 ?_
    refine lv_aload_n F.1 F.2.1 dC_firstOpen_20 rfl (lv_at hl 2 rfl) ?_
    refine z_call (z_runV [.int (nI i), .int (nI 1), .ref hV] [.int (nI (sg 16 (fun t => f ((i * 3 + 0) * 16 + t) * v t) % 998244353))] F (c_rowSum l dC dI cI cL ws q1 q2 q3 h0 hA hV cn f v i 1 e1 e2 e3 hf hv (by omega) (by omega)) kk_C_rowSum wl_C_28 rfl rfl ⟨Nat.le_of_ble_eq_true rfl, Nat.le_of_ble_eq_true rfl⟩ (z_preVR (q := (RC, TC, 2)) hP hK rfl e1) rfl hl.1 rfl (Nat.le_of_ble_eq_true rfl) dC_firstOpen_21 ⟨Nat.zero_le _, Nat.zero_le _⟩) ?_
    refine z_call (z_runS [.int (nI (sg 16 (fun t => f ((i * 3 + 0) * 16 + t) * v t) % 998244353)), .int (nI (sg 16 (fun t => f ((i * 3 + 1) * 16 + t) * v t) % 998244353))] [] F (c_product l (sg 16 (fun t => f ((i * 3 + 0) * 16 + t) * v t) % 998244353) (sg 16 (fun t => f ((i * 3 + 1) * 16 + t) * v t) % 998244353) (Nat.lt_trans (ltP _) (by decide)) (Nat.lt_trans (ltP _) (by decide))) kk_F_product wl_C_32 rfl rfl ⟨Nat.le_of_ble_eq_true rfl, Nat.le_of_ble_eq_true rfl⟩ z_preN rfl hl.1 rfl (Nat.le_of_ble_eq_true rfl) dC_firstOpen_24 ⟨Nat.zero_le _, Nat.zero_le _⟩) ?_
    refine lv_istore_n F.1 F.2.1 (lv' := [(3, .int (nI ((sg 16 (fun t => f ((i * 3 + 0) * 16 + t) * v t) % 998244353) * (sg 16 (fun t => f ((i * 3 + 1) * 16 + t) * v t) % 998244353) % 998244353))), (2, .int (nI i)), (0, .ref h0), (1, .ref hV)]) dC_firstOpen_27 rfl hl (by decide) rfl (fun ls hl => ?_)
    refine lv_iload_n F.1 F.2.1 dC_firstOpen_28 rfl (lv_at hl 0 rfl) ?_
    refine lv_aload_n F.1 F.2.1 dC_firstOpen_29 rfl (lv_at hl 2 rfl) ?_
    refine lv_iload_n F.1 F.2.1 dC_firstOpen_30 rfl (lv_at hl 1 rfl) ?_
    refine z_iconst (v := 2) F (by decide) dC_firstOpen_31 ?_
    refine lv_aload_n F.1 F.2.1 dC_firstOpen_32 rfl (lv_at hl 3 rfl) ?_
    refine z_call (z_runV [.int (nI i), .int (nI 2), .ref hV] [.int (nI ((sg 16 (fun t => f ((i * 3 + 0) * 16 + t) * v t) % 998244353) * (sg 16 (fun t => f ((i * 3 + 1) * 16 + t) * v t) % 998244353) % 998244353))] F (c_rowSum l dC dI cI cL ws q1 q2 q3 h0 hA hV cn f v i 2 e1 e2 e3 hf hv (by omega) (by omega)) kk_C_rowSum wl_C_28 rfl rfl ⟨Nat.le_of_ble_eq_true rfl, Nat.le_of_ble_eq_true rfl⟩ (z_preVR (q := (RC, TC, 2)) hP hK rfl e1) rfl hl.1 rfl (Nat.le_of_ble_eq_true rfl) dC_firstOpen_33 ⟨Nat.zero_le _, Nat.zero_le _⟩) ?_
    refine z_icmp_eq F (by omega) (by omega) (tgt := 41) dC_firstOpen_36 rfl (fun h2 => ?_) (fun h2 => ?_)
    · refine lv_iinc F.1 F.2.1 (k := 1) (v := nI (i + 1)) (lv' := [(2, .int (nI (i + 1))), (3, .int (nI ((sg 16 (fun t => f ((i * 3 + 0) * 16 + t) * v t) % 998244353) * (sg 16 (fun t => f ((i * 3 + 1) * 16 + t) * v t) % 998244353) % 998244353))), (0, .ref h0), (1, .ref hV)]) dC_firstOpen_41 hl rfl (nI_1 i) (by decide) rfl (fun ls hl => ?_)
      refine lv_goto F.1 F.2.1 (tgt := 2) dC_firstOpen_44 rfl ?_
      have hl : lv_has ls 4 [(2, .int (nI ((i + 1)))), (0, .ref h0), (1, .ref hV)] := lv_sub hl [0, 2, 3] rfl
      exact ih (by omega)  ls (by rw [← hb, show cn - i = (cn - (i + 1)) + 1 by omega, fo_s, if_neg (bad_no h2)]) hl
    · refine lv_iload_n F.1 F.2.1 dC_firstOpen_39 rfl (lv_at hl 1 rfl) ?_
      refine z_topV (fo (bad f v) 0 cn) (by rw [← hb, show cn - i = (cn - (i + 1)) + 1 by omega, fo_s, if_pos (bad_yes h2)]) ?_
      exact W.iret F.1 F.2.1 hr (fun t ht hW => ⟨rfl, ht⟩) (fun _ h => by cases h) dC_firstOpen_40
set_option maxHeartbeats 4000000 in
set_option maxRecDepth 100000 in
theorem c_columnAt (l : Launch) (dC : Nat → ClassId) (dI : Nat → Nat → Nat) (cI cL : ClassId) (ws : va_W) (q1 q2 q3 : Nat) (h0 hA hV cn : Nat) (f v : Nat → Nat) (row i : Nat) (e1 : ws[q1]? = some (h0, .inr (0, [.ref hA, .int (nI cn)]))) (e2 : ws[q2]? = some (hA, .inl (cI, 816, .inl (fun j => nI (f j))))) (e3 : ws[q3]? = some (hV, .inl (cI, 16, .inl (fun j => nI (v j))))) (hf : ∀ j, f j < 998244353) (hv : ∀ j, v j < 998244353) (hi : i < 16) (hw : row < 3) (hn : cn ≤ 16) : Met l yC_columnAt (zW yC_columnAt cC_columnAt 6 (.some .int)) ({ frames := 1, cells := 0, slots := 0, locals := 22 }) (va_Pc [.ref h0, .int (nI row), .int (nI i), .ref hV] (z_R (dC, dI) vwCl [(cI, .int), (cL, .long)] ws)) (k2_QcV (.int (nI (sg cn (fun t => f ((t * 3 + row) * 16 + i) * v t) % 998244353)))) 0 0 (fun _ => False) := by
  refine Met.ofW (cc := cC_columnAt) (maxL := 6) (ret := (.some .int)) (by decide) rfl ?_
  intro p e s m args below meth c s₁ B hml hv
  obtain ⟨rfl, hP, hK⟩ := hv
  have F : CallFix p m c cC_columnAt 6 s _ zT RC := ⟨B.exec, B.bytes, hml, findClass_of_methodNamed B.named, fun w h => atoms_spec (ws := (zW yC_columnAt cC_columnAt 6 (.some .int))) B.pre w (List.mem_cons_of_mem _ h)⟩
  have hr := B.returns
  have hlocks := B.notSynchronized
  have hl := lv_entry ([.ref h0, .int (nI row), .int (nI i), .ref hV]) (n := 6) (Nat.le_of_ble_eq_true rfl)
  rw [lg_entry_eq]
  generalize (lg_sl ([.ref h0, .int (nI row), .int (nI i), .ref hV]) ++ List.replicate (6 - (lg_sl ([.ref h0, .int (nI row), .int (nI i), .ref hV])).length) Slot.unset).toArray = ls at hl ⊢
  have hl : lv_has ls 6 [(0, .ref h0), (1, .int (nI row)), (2, .int (nI i)), (3, .ref hV)] := hl
  refine z_iconst (v := 0) F (by decide) dC_columnAt_0 ?_
  refine lv_istore F.1 F.2.1 (lv' := [(4, .int (nI 0)), (0, .ref h0), (1, .int (nI row)), (2, .int (nI i)), (3, .ref hV)]) dC_columnAt_1 hl (by decide) rfl (fun ls hl => ?_)
  refine z_iconst (v := 0) F (by decide) dC_columnAt_3 ?_
  refine lv_istore F.1 F.2.1 (lv' := [(5, .int (nI 0)), (4, .int (nI 0)), (0, .ref h0), (1, .int (nI row)), (2, .int (nI i)), (3, .ref hV)]) dC_columnAt_4 hl (by decide) rfl (fun ls hl => ?_)
  have hl : lv_has ls 6 [(5, .int (nI 0)), (4, .int (nI (sg 0 (fun t => f ((t * 3 + row) * 16 + i) * v t) % 998244353))), (0, .ref h0), (1, .int (nI row)), (2, .int (nI i)), (3, .ref hV)] := lv_sub hl [0, 1, 2, 3, 4, 5] rfl
  refine z_up (E := cn) (P := fun j => ∀  (ls : Array Slot), lv_has ls 6 [(5, .int (nI j)), (4, .int (nI (sg j (fun t => f ((t * 3 + row) * 16 + i) * v t) % 998244353))), (0, .ref h0), (1, .int (nI row)), (2, .int (nI i)), (3, .ref hV)] → W p l e _ s m _ below meth c s.heap [] _ _ _ (F0 m 6 ls [])) ?_ 0 (Nat.zero_le _)  ls  hl
  intro j hj ih  ls  hl
  refine lv_iload F.1 F.2.1 dC_columnAt_6 (lv_at hl 0 rfl) ?_
  refine lv_aload_n F.1 F.2.1 dC_columnAt_8 rfl (lv_at hl 2 rfl) ?_
  refine z_get F hK hP hinC q1 e1 rfl 1 (by decide) rfl wf_C_15 rfl dC_columnAt_9 ?_
  refine z_icmp_ge F (by omega) (by omega) (tgt := 48) dC_columnAt_12 rfl (fun h1 => ?_) (fun h1 => ?_)
  · refine lv_iload F.1 F.2.1 dC_columnAt_48 (lv_at hl 1 rfl) ?_
    refine z_top (sg cn (fun t => f ((t * 3 + row) * 16 + i) * v t) % 998244353) (by rw [show j = cn by omega]) ?_
    exact W.iret F.1 F.2.1 hr (fun t ht hW => ⟨rfl, ht⟩) (fun _ h => by cases h) dC_columnAt_50
  · refine lv_iload F.1 F.2.1 dC_columnAt_15 (lv_at hl 1 rfl) ?_
    refine lv_aload_n F.1 F.2.1 dC_columnAt_17 rfl (lv_at hl 2 rfl) ?_
    refine z_get F hK hP hinC q1 e1 rfl 0 (by decide) rfl wf_C_9 rfl dC_columnAt_18 ?_
    refine lv_iload F.1 F.2.1 dC_columnAt_21 (lv_at hl 0 rfl) ?_
    refine lv_iload_n F.1 F.2.1 dC_columnAt_23 rfl (lv_at hl 3 rfl) ?_
    refine z_call (z_runS [.int (nI j), .int (nI row)] [.ref hA, .int (nI (sg j (fun t => f ((t * 3 + row) * 16 + i) * v t) % 998244353))] F (c_start l j row) kk_C_start wl_C_19 rfl rfl ⟨Nat.le_of_ble_eq_true rfl, Nat.le_of_ble_eq_true rfl⟩ z_preN rfl hl.1 rfl (Nat.le_of_ble_eq_true rfl) dC_columnAt_24 ⟨Nat.zero_le _, Nat.zero_le _⟩) ?_
    refine lv_iload_n F.1 F.2.1 dC_columnAt_27 rfl (lv_at hl 4 rfl) ?_
    refine z_iadd F dC_columnAt_28 ?_
    refine z_iald F hK hP q2 0 e2 rfl (by omega) (by decide) dC_columnAt_29 ?_
    refine lv_aload_n F.1 F.2.1 dC_columnAt_30 rfl (lv_at hl 5 rfl) ?_
    refine lv_iload F.1 F.2.1 dC_columnAt_31 (lv_at hl 0 rfl) ?_
    refine z_iald F hK hP q3 0 e3 rfl (by omega) (by decide) dC_columnAt_33 ?_
    refine z_call (z_runS [.int (nI (f (((j * 3 + row) * 16) + i))), .int (nI (v j))] [.int (nI (sg j (fun t => f ((t * 3 + row) * 16 + i) * v t) % 998244353))] F (c_product l (f ((j * 3 + row) * 16 + i)) (v j) (Nat.lt_trans (hf _) (by decide)) (Nat.lt_trans (hv _) (by decide))) kk_F_product wl_C_32 rfl rfl ⟨Nat.le_of_ble_eq_true rfl, Nat.le_of_ble_eq_true rfl⟩ z_preN rfl hl.1 rfl (Nat.le_of_ble_eq_true rfl) dC_columnAt_34 ⟨Nat.zero_le _, Nat.zero_le _⟩) ?_
    refine z_call (z_runS [.int (nI (sg j (fun t => f ((t * 3 + row) * 16 + i) * v t) % 998244353)), .int (nI ((f ((j * 3 + row) * 16 + i)) * (v j) % 998244353))] [] F (c_sum l (sg j (fun t => f ((t * 3 + row) * 16 + i) * v t) % 998244353) ((f ((j * 3 + row) * 16 + i)) * (v j) % 998244353) (ltP _) (ltP _)) kk_F_sum wl_C_23 rfl rfl ⟨Nat.le_of_ble_eq_true rfl, Nat.le_of_ble_eq_true rfl⟩ z_preN rfl hl.1 rfl (Nat.le_of_ble_eq_true rfl) dC_columnAt_37 ⟨Nat.zero_le _, Nat.zero_le _⟩) ?_
    refine z_top (sg (j + 1) (fun t => f ((t * 3 + row) * 16 + i) * v t) % 998244353) (sm1 j (fun t => f ((t * 3 + row) * 16 + i) * v t)) ?_
    refine lv_istore F.1 F.2.1 (lv' := [(4, .int (nI (sg (j + 1) (fun t => f ((t * 3 + row) * 16 + i) * v t) % 998244353))), (5, .int (nI j)), (0, .ref h0), (1, .int (nI row)), (2, .int (nI i)), (3, .ref hV)]) dC_columnAt_40 hl (by decide) rfl (fun ls hl => ?_)
    refine lv_iinc F.1 F.2.1 (k := 1) (v := nI (j + 1)) (lv' := [(5, .int (nI (j + 1))), (4, .int (nI (sg (j + 1) (fun t => f ((t * 3 + row) * 16 + i) * v t) % 998244353))), (0, .ref h0), (1, .int (nI row)), (2, .int (nI i)), (3, .ref hV)]) dC_columnAt_42 hl rfl (nI_1 j) (by decide) rfl (fun ls hl => ?_)
    refine lv_goto F.1 F.2.1 (tgt := 6) dC_columnAt_45 rfl ?_
    have hl : lv_has ls 6 [(5, .int (nI ((j + 1)))), (4, .int (nI (sg (j + 1) (fun t => f ((t * 3 + row) * 16 + i) * v t) % 998244353))), (0, .ref h0), (1, .int (nI row)), (2, .int (nI i)), (3, .ref hV)] := lv_sub hl [0, 1, 2, 3, 4, 5] rfl
    exact ih (by omega)  ls  hl
end
section
theorem z_jk {j k : Nat} (hj : j < 16) (hk : k < 16) : j * k < 2 ^ 31 := by
  have := Nat.mul_le_mul (show j ≤ 16 by omega) (show k ≤ 16 by omega)
  omega
theorem z_mask {kk : Nat} (h : kk ≤ 4) : (nI (2 ^ kk - 1)).toBitVec.toNat = 2 ^ kk - 1 := pk_tn (by
  have := Nat.pow_le_pow_right (show 0 < 2 by decide) h
  omega)
theorem geo1 (i t : Nat) : (sg i (fun k => t ^ k) % 998244353 * t % 998244353 + 1) % 998244353 = sg (i + 1) (fun k => t ^ k) % 998244353 := by
  rw [sg_geo]
  exact ((cg.md _).tr (cg.ml t (cg.md _))).add (cg.rf 1)
set_option maxHeartbeats 4000000 in
set_option maxRecDepth 100000 in
theorem c_size (l : Launch) (dC : Nat → ClassId) (dI : Nat → Nat → Nat) (cI cL : ClassId) (ws : va_W) (q1 : Nat) (h0 hB sz ov : Nat) (e1 : ws[q1]? = some (h0, .inr (1, [.ref hB, .int (nI sz), .int (nI ov)])))  : Met l yD_size (zW yD_size cD_size 1 (.some .int)) ({ frames := 0, cells := 0, slots := 0, locals := 0 }) (va_Pc [.ref h0] (z_R (dC, dI) vwCl [(cI, .int), (cL, .long)] ws)) (k2_QcV (.int (nI sz))) 0 0 (fun _ => False) := by
  refine Met.ofW (cc := cD_size) (maxL := 1) (ret := (.some .int)) (by decide) rfl ?_
  intro p e s m args below meth c s₁ B hml hv
  obtain ⟨rfl, hP, hK⟩ := hv
  have F : CallFix p m c cD_size 1 s _ zT RD := ⟨B.exec, B.bytes, hml, findClass_of_methodNamed B.named, fun w h => atoms_spec (ws := (zW yD_size cD_size 1 (.some .int))) B.pre w (List.mem_cons_of_mem _ h)⟩
  have hr := B.returns
  have hlocks := B.notSynchronized
  have hl := lv_entry ([.ref h0]) (n := 1) (Nat.le_of_ble_eq_true rfl)
  rw [lg_entry_eq]
  generalize (lg_sl ([.ref h0]) ++ List.replicate (1 - (lg_sl ([.ref h0])).length) Slot.unset).toArray = ls at hl ⊢
  have hl : lv_has ls 1 [(0, .ref h0)] := hl
  refine lv_aload_n F.1 F.2.1 dD_size_0 rfl (lv_at hl 0 rfl) ?_
  refine z_get F hK hP hinD q1 e1 rfl 1 (by decide) rfl wf_D_19 rfl dD_size_1 ?_
  exact W.iret F.1 F.2.1 hr (fun t ht hW => ⟨rfl, ht⟩) (fun _ h => by cases h) dD_size_4
set_option maxHeartbeats 4000000 in
set_option maxRecDepth 100000 in
theorem c_vanishingAt (l : Launch) (dC : Nat → ClassId) (dI : Nat → Nat → Nat) (cI cL : ClassId) (ws : va_W) (q1 : Nat) (h0 hB sz ov x : Nat) (e1 : ws[q1]? = some (h0, .inr (1, [.ref hB, .int (nI sz), .int (nI ov)]))) (hz : sz < 2 ^ 31) (hx : x < 2 ^ 31) : Met l yD_vanishingAt (zW yD_vanishingAt cD_vanishingAt 2 (.some .int)) ({ frames := 2, cells := 0, slots := 0, locals := 45 }) (va_Pc [.ref h0, .int (nI x)] (z_R (dC, dI) vwCl [(cI, .int), (cL, .long)] ws)) (k2_QcV (.int (nI ((pw x sz + 998244353 - 1) % 998244353)))) 0 0 (fun _ => False) := by
  refine Met.ofW (cc := cD_vanishingAt) (maxL := 2) (ret := (.some .int)) (by decide) rfl ?_
  intro p e s m args below meth c s₁ B hml hv
  obtain ⟨rfl, hP, hK⟩ := hv
  have F : CallFix p m c cD_vanishingAt 2 s _ zT RD := ⟨B.exec, B.bytes, hml, findClass_of_methodNamed B.named, fun w h => atoms_spec (ws := (zW yD_vanishingAt cD_vanishingAt 2 (.some .int))) B.pre w (List.mem_cons_of_mem _ h)⟩
  have hr := B.returns
  have hlocks := B.notSynchronized
  have hl := lv_entry ([.ref h0, .int (nI x)]) (n := 2) (Nat.le_of_ble_eq_true rfl)
  rw [lg_entry_eq]
  generalize (lg_sl ([.ref h0, .int (nI x)]) ++ List.replicate (2 - (lg_sl ([.ref h0, .int (nI x)])).length) Slot.unset).toArray = ls at hl ⊢
  have hl : lv_has ls 2 [(0, .ref h0), (1, .int (nI x))] := hl
  refine lv_iload_n F.1 F.2.1 dD_vanishingAt_0 rfl (lv_at hl 1 rfl) ?_
  refine lv_aload_n F.1 F.2.1 dD_vanishingAt_1 rfl (lv_at hl 0 rfl) ?_
  refine z_get F hK hP hinD q1 e1 rfl 1 (by decide) rfl wf_D_19 rfl dD_vanishingAt_2 ?_
  refine z_call (z_runS [.int (nI x), .int (nI sz)] [] F (c_power l x sz hx hz) kk_F_power wl_D_33 rfl rfl ⟨Nat.le_of_ble_eq_true rfl, Nat.le_of_ble_eq_true rfl⟩ z_preN rfl hl.1 rfl (Nat.le_of_ble_eq_true rfl) dD_vanishingAt_5 ⟨Nat.zero_le _, Nat.zero_le _⟩) ?_
  refine z_iconst (v := 1) F (by decide) dD_vanishingAt_8 ?_
  refine z_call (z_runS [.int (nI (pw x sz)), .int (nI 1)] [] F (c_difference l (pw x sz) 1 (pw_lt _ _) (by decide)) kk_F_difference wl_D_39 rfl rfl ⟨Nat.le_of_ble_eq_true rfl, Nat.le_of_ble_eq_true rfl⟩ z_preN rfl hl.1 rfl (Nat.le_of_ble_eq_true rfl) dD_vanishingAt_9 ⟨Nat.zero_le _, Nat.zero_le _⟩) ?_
  exact W.iret F.1 F.2.1 hr (fun t ht hW => ⟨rfl, ht⟩) (fun _ h => by cases h) dD_vanishingAt_12
set_option maxHeartbeats 4000000 in
set_option maxRecDepth 100000 in
theorem c_coefficient (l : Launch) (dC : Nat → ClassId) (dI : Nat → Nat → Nat) (cI cL : ClassId) (ws : va_W) (q1 q2 q3 : Nat) (h0 hB hV sz ov : Nat) (b d : Nat → Nat) (k : Nat) (e1 : ws[q1]? = some (h0, .inr (1, [.ref hB, .int (nI sz), .int (nI ov)]))) (e2 : ws[q2]? = some (hB, .inl (cI, 16, .inl (fun j => nI (b j))))) (e3 : ws[q3]? = some (hV, .inl (cI, 16, .inl (fun j => nI (d j))))) (hd : ∀ j, d j < 998244353) (hb : ∀ j, b j < 998244353) (ho : ov < 998244353) (hk : k < 16) (kk : Nat) (h4 : kk ≤ 4) (hz : sz = 2 ^ kk) : Met l yD_coefficient (zW yD_coefficient cD_coefficient 5 (.some .int)) ({ frames := 1, cells := 0, slots := 0, locals := 22 }) (va_Pc [.ref h0, .ref hV, .int (nI k)] (z_R (dC, dI) vwCl [(cI, .int), (cL, .long)] ws)) (k2_QcV (.int (nI (sg sz (fun t => d t * b (t * k % sz)) % 998244353 * ov % 998244353)))) 0 0 (fun _ => False) := by
  refine Met.ofW (cc := cD_coefficient) (maxL := 5) (ret := (.some .int)) (by decide) rfl ?_
  intro p e s m args below meth c s₁ B hml hv
  obtain ⟨rfl, hP, hK⟩ := hv
  have F : CallFix p m c cD_coefficient 5 s _ zT RD := ⟨B.exec, B.bytes, hml, findClass_of_methodNamed B.named, fun w h => atoms_spec (ws := (zW yD_coefficient cD_coefficient 5 (.some .int))) B.pre w (List.mem_cons_of_mem _ h)⟩
  have hr := B.returns
  have hlocks := B.notSynchronized
  have hl := lv_entry ([.ref h0, .ref hV, .int (nI k)]) (n := 5) (Nat.le_of_ble_eq_true rfl)
  rw [lg_entry_eq]
  generalize (lg_sl ([.ref h0, .ref hV, .int (nI k)]) ++ List.replicate (5 - (lg_sl ([.ref h0, .ref hV, .int (nI k)])).length) Slot.unset).toArray = ls at hl ⊢
  have hl : lv_has ls 5 [(0, .ref h0), (1, .ref hV), (2, .int (nI k))] := hl
  have hs : sz ≤ 16 := by rw [hz]; exact Nat.pow_le_pow_right (by decide) h4
  have hp : 0 < sz := by rw [hz]; exact Nat.two_pow_pos kk
  refine z_iconst (v := 0) F (by decide) dD_coefficient_0 ?_
  refine lv_istore_n F.1 F.2.1 (lv' := [(3, .int (nI 0)), (0, .ref h0), (1, .ref hV), (2, .int (nI k))]) dD_coefficient_1 rfl hl (by decide) rfl (fun ls hl => ?_)
  refine z_iconst (v := 0) F (by decide) dD_coefficient_2 ?_
  refine lv_istore F.1 F.2.1 (lv' := [(4, .int (nI 0)), (3, .int (nI 0)), (0, .ref h0), (1, .ref hV), (2, .int (nI k))]) dD_coefficient_3 hl (by decide) rfl (fun ls hl => ?_)
  have hl : lv_has ls 5 [(4, .int (nI 0)), (3, .int (nI (sg 0 (fun t => d t * b (t * k % sz)) % 998244353))), (0, .ref h0), (1, .ref hV), (2, .int (nI k))] := lv_sub hl [0, 1, 2, 3, 4] rfl
  refine z_up (E := sz) (P := fun j => ∀  (ls : Array Slot), lv_has ls 5 [(4, .int (nI j)), (3, .int (nI (sg j (fun t => d t * b (t * k % sz)) % 998244353))), (0, .ref h0), (1, .ref hV), (2, .int (nI k))] → W p l e _ s m _ below meth c s.heap [] _ _ _ (F0 m 5 ls [])) ?_ 0 (Nat.zero_le _)  ls  hl
  intro j hj ih  ls  hl
  refine lv_iload F.1 F.2.1 dD_coefficient_5 (lv_at hl 0 rfl) ?_
  refine lv_aload_n F.1 F.2.1 dD_coefficient_7 rfl (lv_at hl 2 rfl) ?_
  refine z_get F hK hP hinD q1 e1 rfl 1 (by decide) rfl wf_D_19 rfl dD_coefficient_8 ?_
  refine z_icmp_ge F (by omega) (by omega) (tgt := 48) dD_coefficient_11 rfl (fun h1 => ?_) (fun h1 => ?_)
  · refine lv_iload_n F.1 F.2.1 dD_coefficient_48 rfl (lv_at hl 1 rfl) ?_
    refine lv_aload_n F.1 F.2.1 dD_coefficient_49 rfl (lv_at hl 2 rfl) ?_
    refine z_get F hK hP hinD q1 e1 rfl 2 (by decide) rfl wf_D_30 rfl dD_coefficient_50 ?_
    refine z_call (z_runS [.int (nI (sg j (fun t => d t * b (t * k % sz)) % 998244353)), .int (nI ov)] [] F (c_product l (sg j (fun t => d t * b (t * k % sz)) % 998244353) ov (Nat.lt_trans (ltP _) (by decide)) (Nat.lt_trans (ho) (by decide))) kk_F_product wl_D_36 rfl rfl ⟨Nat.le_of_ble_eq_true rfl, Nat.le_of_ble_eq_true rfl⟩ z_preN rfl hl.1 rfl (Nat.le_of_ble_eq_true rfl) dD_coefficient_53 ⟨Nat.zero_le _, Nat.zero_le _⟩) ?_
    refine z_top (sg sz (fun t => d t * b (t * k % sz)) % 998244353 * ov % 998244353) (by rw [show j = sz by omega]) ?_
    exact W.iret F.1 F.2.1 hr (fun t ht hW => ⟨rfl, ht⟩) (fun _ h => by cases h) dD_coefficient_56
  · have hjk := z_jk (j := j) (k := k) (by omega) hk
    refine lv_iload_n F.1 F.2.1 dD_coefficient_14 rfl (lv_at hl 1 rfl) ?_
    refine lv_aload_n F.1 F.2.1 dD_coefficient_15 rfl (lv_at hl 3 rfl) ?_
    refine lv_iload F.1 F.2.1 dD_coefficient_16 (lv_at hl 0 rfl) ?_
    refine z_iald F hK hP q3 0 e3 rfl (by omega) (by decide) dD_coefficient_18 ?_
    refine lv_aload_n F.1 F.2.1 dD_coefficient_19 rfl (lv_at hl 2 rfl) ?_
    refine z_get F hK hP hinD q1 e1 rfl 0 (by decide) rfl wf_D_9 rfl dD_coefficient_20 ?_
    refine lv_iload F.1 F.2.1 dD_coefficient_23 (lv_at hl 0 rfl) ?_
    refine lv_iload_n F.1 F.2.1 dD_coefficient_25 rfl (lv_at hl 4 rfl) ?_
    refine z_imul F dD_coefficient_26 ?_
    refine lv_aload_n F.1 F.2.1 dD_coefficient_27 rfl (lv_at hl 2 rfl) ?_
    refine z_get F hK hP hinD q1 e1 rfl 1 (by decide) rfl wf_D_19 rfl dD_coefficient_28 ?_
    refine z_iconst (v := 1) F (by decide) dD_coefficient_31 ?_
    refine z_isub F (by omega) dD_coefficient_32 ?_
    refine z_iand F kk (by omega) (by rw [hz]; exact z_mask h4) dD_coefficient_33 ?_
    refine z_top (j * k % sz) (by rw [hz]) ?_
    have hlt : j * k % sz < sz := Nat.mod_lt _ hp
    refine z_iald F hK hP q2 0 e2 rfl (by omega) (by decide) dD_coefficient_34 ?_
    refine z_call (z_runS [.int (nI (d j)), .int (nI (b (j * k % sz)))] [.int (nI (sg j (fun t => d t * b (t * k % sz)) % 998244353))] F (c_product l (d j) (b (j * k % sz)) (Nat.lt_trans (hd _) (by decide)) (Nat.lt_trans (hb _) (by decide))) kk_F_product wl_D_36 rfl rfl ⟨Nat.le_of_ble_eq_true rfl, Nat.le_of_ble_eq_true rfl⟩ z_preN rfl hl.1 rfl (Nat.le_of_ble_eq_true rfl) dD_coefficient_35 ⟨Nat.zero_le _, Nat.zero_le _⟩) ?_
    refine z_call (z_runS [.int (nI (sg j (fun t => d t * b (t * k % sz)) % 998244353)), .int (nI ((d j) * (b (j * k % sz)) % 998244353))] [] F (c_sum l (sg j (fun t => d t * b (t * k % sz)) % 998244353) ((d j) * (b (j * k % sz)) % 998244353) (ltP _) (ltP _)) kk_F_sum wl_D_42 rfl rfl ⟨Nat.le_of_ble_eq_true rfl, Nat.le_of_ble_eq_true rfl⟩ z_preN rfl hl.1 rfl (Nat.le_of_ble_eq_true rfl) dD_coefficient_38 ⟨Nat.zero_le _, Nat.zero_le _⟩) ?_
    refine z_top (sg (j + 1) (fun t => d t * b (t * k % sz)) % 998244353) (sm1 j (fun t => d t * b (t * k % sz))) ?_
    refine lv_istore_n F.1 F.2.1 (lv' := [(3, .int (nI (sg (j + 1) (fun t => d t * b (t * k % sz)) % 998244353))), (4, .int (nI j)), (0, .ref h0), (1, .ref hV), (2, .int (nI k))]) dD_coefficient_41 rfl hl (by decide) rfl (fun ls hl => ?_)
    refine lv_iinc F.1 F.2.1 (k := 1) (v := nI (j + 1)) (lv' := [(4, .int (nI (j + 1))), (3, .int (nI (sg (j + 1) (fun t => d t * b (t * k % sz)) % 998244353))), (0, .ref h0), (1, .ref hV), (2, .int (nI k))]) dD_coefficient_42 hl rfl (nI_1 j) (by decide) rfl (fun ls hl => ?_)
    refine lv_goto F.1 F.2.1 (tgt := 5) dD_coefficient_45 rfl ?_
    have hl : lv_has ls 5 [(4, .int (nI ((j + 1)))), (3, .int (nI (sg (j + 1) (fun t => d t * b (t * k % sz)) % 998244353))), (0, .ref h0), (1, .ref hV), (2, .int (nI k))] := lv_sub hl [0, 1, 2, 3, 4] rfl
    exact ih (by omega)  ls  hl
set_option maxHeartbeats 4000000 in
set_option maxRecDepth 100000 in
theorem c_weight (l : Launch) (dC : Nat → ClassId) (dI : Nat → Nat → Nat) (cI cL : ClassId) (ws : va_W) (q1 q2 : Nat) (h0 hB sz ov : Nat) (b : Nat → Nat) (j x : Nat) (e1 : ws[q1]? = some (h0, .inr (1, [.ref hB, .int (nI sz), .int (nI ov)]))) (e2 : ws[q2]? = some (hB, .inl (cI, 16, .inl (fun j => nI (b j))))) (hb : ∀ j, b j < 998244353) (ho : ov < 998244353) (hj : j < 16) (hx : x < 998244353) (hz : sz ≤ 16) : Met l yD_weight (zW yD_weight cD_weight 6 (.some .int)) ({ frames := 1, cells := 0, slots := 0, locals := 22 }) (va_Pc [.ref h0, .int (nI j), .int (nI x)] (z_R (dC, dI) vwCl [(cI, .int), (cL, .long)] ws)) (k2_QcV (.int (nI (sg sz (fun k => (x * b j % 998244353) ^ k) % 998244353 * ov % 998244353)))) 0 0 (fun _ => False) := by
  refine Met.ofW (cc := cD_weight) (maxL := 6) (ret := (.some .int)) (by decide) rfl ?_
  intro p e s m args below meth c s₁ B hml hv
  obtain ⟨rfl, hP, hK⟩ := hv
  have F : CallFix p m c cD_weight 6 s _ zT RD := ⟨B.exec, B.bytes, hml, findClass_of_methodNamed B.named, fun w h => atoms_spec (ws := (zW yD_weight cD_weight 6 (.some .int))) B.pre w (List.mem_cons_of_mem _ h)⟩
  have hr := B.returns
  have hlocks := B.notSynchronized
  have hl := lv_entry ([.ref h0, .int (nI j), .int (nI x)]) (n := 6) (Nat.le_of_ble_eq_true rfl)
  rw [lg_entry_eq]
  generalize (lg_sl ([.ref h0, .int (nI j), .int (nI x)]) ++ List.replicate (6 - (lg_sl ([.ref h0, .int (nI j), .int (nI x)])).length) Slot.unset).toArray = ls at hl ⊢
  have hl : lv_has ls 6 [(0, .ref h0), (1, .int (nI j)), (2, .int (nI x))] := hl
  refine lv_iload_n F.1 F.2.1 dD_weight_0 rfl (lv_at hl 2 rfl) ?_
  refine lv_aload_n F.1 F.2.1 dD_weight_1 rfl (lv_at hl 0 rfl) ?_
  refine z_get F hK hP hinD q1 e1 rfl 0 (by decide) rfl wf_D_9 rfl dD_weight_2 ?_
  refine lv_iload_n F.1 F.2.1 dD_weight_5 rfl (lv_at hl 1 rfl) ?_
  refine z_iald F hK hP q2 0 e2 rfl (by omega) (by decide) dD_weight_6 ?_
  refine z_call (z_runS [.int (nI x), .int (nI (b j))] [] F (c_product l x (b j) (Nat.lt_trans (hx) (by decide)) (Nat.lt_trans (hb _) (by decide))) kk_F_product wl_D_36 rfl rfl ⟨Nat.le_of_ble_eq_true rfl, Nat.le_of_ble_eq_true rfl⟩ z_preN rfl hl.1 rfl (Nat.le_of_ble_eq_true rfl) dD_weight_7 ⟨Nat.zero_le _, Nat.zero_le _⟩) ?_
  refine lv_istore_n F.1 F.2.1 (lv' := [(3, .int (nI (x * b j % 998244353))), (0, .ref h0), (1, .int (nI j)), (2, .int (nI x))]) dD_weight_10 rfl hl (by decide) rfl (fun ls hl => ?_)
  refine z_iconst (v := 0) F (by decide) dD_weight_11 ?_
  refine lv_istore F.1 F.2.1 (lv' := [(4, .int (nI 0)), (3, .int (nI (x * b j % 998244353))), (0, .ref h0), (1, .int (nI j)), (2, .int (nI x))]) dD_weight_12 hl (by decide) rfl (fun ls hl => ?_)
  refine z_iconst (v := 0) F (by decide) dD_weight_14 ?_
  refine lv_istore F.1 F.2.1 (lv' := [(5, .int (nI 0)), (4, .int (nI 0)), (3, .int (nI (x * b j % 998244353))), (0, .ref h0), (1, .int (nI j)), (2, .int (nI x))]) dD_weight_15 hl (by decide) rfl (fun ls hl => ?_)
  have hl : lv_has ls 6 [(5, .int (nI 0)), (4, .int (nI (sg 0 (fun k => (x * b j % 998244353) ^ k) % 998244353))), (0, .ref h0), (1, .int (nI j)), (2, .int (nI x)), (3, .int (nI (x * b j % 998244353)))] := lv_sub hl [0, 1, 3, 4, 5, 2] rfl
  refine z_up (E := sz) (P := fun i => ∀  (ls : Array Slot), lv_has ls 6 [(5, .int (nI i)), (4, .int (nI (sg i (fun k => (x * b j % 998244353) ^ k) % 998244353))), (0, .ref h0), (1, .int (nI j)), (2, .int (nI x)), (3, .int (nI (x * b j % 998244353)))] → W p l e _ s m _ below meth c s.heap [] _ _ _ (F0 m 17 ls [])) ?_ 0 (Nat.zero_le _)  ls  hl
  intro i hi ih  ls  hl
  refine lv_iload F.1 F.2.1 dD_weight_17 (lv_at hl 0 rfl) ?_
  refine lv_aload_n F.1 F.2.1 dD_weight_19 rfl (lv_at hl 2 rfl) ?_
  refine z_get F hK hP hinD q1 e1 rfl 1 (by decide) rfl wf_D_19 rfl dD_weight_20 ?_
  refine z_icmp_ge F (by omega) (by omega) (tgt := 44) dD_weight_23 rfl (fun h1 => ?_) (fun h1 => ?_)
  · refine lv_iload F.1 F.2.1 dD_weight_44 (lv_at hl 1 rfl) ?_
    refine lv_aload_n F.1 F.2.1 dD_weight_46 rfl (lv_at hl 2 rfl) ?_
    refine z_get F hK hP hinD q1 e1 rfl 2 (by decide) rfl wf_D_30 rfl dD_weight_47 ?_
    refine z_call (z_runS [.int (nI (sg i (fun k => (x * b j % 998244353) ^ k) % 998244353)), .int (nI ov)] [] F (c_product l (sg i (fun k => (x * b j % 998244353) ^ k) % 998244353) ov (Nat.lt_trans (ltP _) (by decide)) (Nat.lt_trans (ho) (by decide))) kk_F_product wl_D_36 rfl rfl ⟨Nat.le_of_ble_eq_true rfl, Nat.le_of_ble_eq_true rfl⟩ z_preN rfl hl.1 rfl (Nat.le_of_ble_eq_true rfl) dD_weight_50 ⟨Nat.zero_le _, Nat.zero_le _⟩) ?_
    refine z_top (sg sz (fun k => (x * b j % 998244353) ^ k) % 998244353 * ov % 998244353) (by rw [show i = sz by omega]) ?_
    exact W.iret F.1 F.2.1 hr (fun t ht hW => ⟨rfl, ht⟩) (fun _ h => by cases h) dD_weight_53
  · refine lv_iload F.1 F.2.1 dD_weight_26 (lv_at hl 1 rfl) ?_
    refine lv_iload_n F.1 F.2.1 dD_weight_28 rfl (lv_at hl 5 rfl) ?_
    refine z_call (z_runS [.int (nI (sg i (fun k => (x * b j % 998244353) ^ k) % 998244353)), .int (nI (x * b j % 998244353))] [] F (c_product l (sg i (fun k => (x * b j % 998244353) ^ k) % 998244353) (x * b j % 998244353) (Nat.lt_trans (ltP _) (by decide)) (Nat.lt_trans (ltP _) (by decide))) kk_F_product wl_D_36 rfl rfl ⟨Nat.le_of_ble_eq_true rfl, Nat.le_of_ble_eq_true rfl⟩ z_preN rfl hl.1 rfl (Nat.le_of_ble_eq_true rfl) dD_weight_29 ⟨Nat.zero_le _, Nat.zero_le _⟩) ?_
    refine z_iconst (v := 1) F (by decide) dD_weight_32 ?_
    refine z_call (z_runS [.int (nI ((sg i (fun k => (x * b j % 998244353) ^ k) % 998244353) * (x * b j % 998244353) % 998244353)), .int (nI 1)] [] F (c_sum l ((sg i (fun k => (x * b j % 998244353) ^ k) % 998244353) * (x * b j % 998244353) % 998244353) 1 (ltP _) (by decide)) kk_F_sum wl_D_42 rfl rfl ⟨Nat.le_of_ble_eq_true rfl, Nat.le_of_ble_eq_true rfl⟩ z_preN rfl hl.1 rfl (Nat.le_of_ble_eq_true rfl) dD_weight_33 ⟨Nat.zero_le _, Nat.zero_le _⟩) ?_
    refine z_top (sg (i + 1) (fun k => (x * b j % 998244353) ^ k) % 998244353) (geo1 i (x * b j % 998244353)) ?_
    refine lv_istore F.1 F.2.1 (lv' := [(4, .int (nI (sg (i + 1) (fun k => (x * b j % 998244353) ^ k) % 998244353))), (5, .int (nI i)), (0, .ref h0), (1, .int (nI j)), (2, .int (nI x)), (3, .int (nI (x * b j % 998244353)))]) dD_weight_36 hl (by decide) rfl (fun ls hl => ?_)
    refine lv_iinc F.1 F.2.1 (k := 1) (v := nI (i + 1)) (lv' := [(5, .int (nI (i + 1))), (4, .int (nI (sg (i + 1) (fun k => (x * b j % 998244353) ^ k) % 998244353))), (0, .ref h0), (1, .int (nI j)), (2, .int (nI x)), (3, .int (nI (x * b j % 998244353)))]) dD_weight_38 hl rfl (nI_1 i) (by decide) rfl (fun ls hl => ?_)
    refine lv_goto F.1 F.2.1 (tgt := 17) dD_weight_41 rfl ?_
    have hl : lv_has ls 6 [(5, .int (nI ((i + 1)))), (4, .int (nI (sg (i + 1) (fun k => (x * b j % 998244353) ^ k) % 998244353))), (0, .ref h0), (1, .int (nI j)), (2, .int (nI x)), (3, .int (nI (x * b j % 998244353)))] := lv_sub hl [0, 1, 2, 3, 4, 5] rfl
    exact ih (by omega)  ls  hl
end
section
set_option maxHeartbeats 4000000 in
set_option maxRecDepth 100000 in
theorem ck_isMade (l : Launch) (dC : Nat → ClassId) (dI : Nat → Nat → Nat) (cI cL : ClassId) (ws : va_W) (q1 : Nat) (h0 hW hX ta al be ga de va : Nat) (md : Bool) (e1 : ws[q1]? = some (h0, .inr (2, [.ref hW, .ref hX, .int (z_b md), .int (nI ta), .int (nI al), .int (nI be), .int (nI ga), .int (nI de), .int (nI va)])))  : Met l yK_isMade (zW yK_isMade cK_isMade 1 (.some .boolean)) ({ frames := 0, cells := 0, slots := 0, locals := 0 }) (va_Pc [.ref h0] (z_R (dC, dI) vwCl [(cI, .int), (cL, .long)] ws)) (k2_QcV (.int (z_b md))) 0 0 (fun _ => False) := by
  refine Met.ofW (cc := cK_isMade) (maxL := 1) (ret := (.some .boolean)) (by decide) rfl ?_
  intro p e s m args below meth c s₁ B hml hv
  obtain ⟨rfl, hP, hK⟩ := hv
  have F : CallFix p m c cK_isMade 1 s _ zT RK := ⟨B.exec, B.bytes, hml, findClass_of_methodNamed B.named, fun w h => atoms_spec (ws := (zW yK_isMade cK_isMade 1 (.some .boolean))) B.pre w (List.mem_cons_of_mem _ h)⟩
  have hr := B.returns
  have hlocks := B.notSynchronized
  have hl := lv_entry ([.ref h0]) (n := 1) (Nat.le_of_ble_eq_true rfl)
  rw [lg_entry_eq]
  generalize (lg_sl ([.ref h0]) ++ List.replicate (1 - (lg_sl ([.ref h0])).length) Slot.unset).toArray = ls at hl ⊢
  have hl : lv_has ls 1 [(0, .ref h0)] := hl
  refine lv_aload_n F.1 F.2.1 dK_isMade_0 rfl (lv_at hl 0 rfl) ?_
  refine z_get F hK hP hinK q1 e1 rfl 2 (by decide) rfl wf_K_18 rfl dK_isMade_1 ?_
  exact W.zret F.1 F.2.1 hr (by cases md <;> rfl) (fun t ht hW => ⟨rfl, ht⟩) (fun _ h => by cases h) dK_isMade_4
set_option maxHeartbeats 4000000 in
set_option maxRecDepth 100000 in
theorem ck_tau (l : Launch) (dC : Nat → ClassId) (dI : Nat → Nat → Nat) (cI cL : ClassId) (ws : va_W) (q1 : Nat) (h0 hW hX ta al be ga de va : Nat) (md : Bool) (e1 : ws[q1]? = some (h0, .inr (2, [.ref hW, .ref hX, .int (z_b md), .int (nI ta), .int (nI al), .int (nI be), .int (nI ga), .int (nI de), .int (nI va)])))  : Met l yK_tau (zW yK_tau cK_tau 1 (.some .int)) ({ frames := 0, cells := 0, slots := 0, locals := 0 }) (va_Pc [.ref h0] (z_R (dC, dI) vwCl [(cI, .int), (cL, .long)] ws)) (k2_QcV (.int (nI ta))) 0 0 (fun _ => False) := by
  refine Met.ofW (cc := cK_tau) (maxL := 1) (ret := (.some .int)) (by decide) rfl ?_
  intro p e s m args below meth c s₁ B hml hv
  obtain ⟨rfl, hP, hK⟩ := hv
  have F : CallFix p m c cK_tau 1 s _ zT RK := ⟨B.exec, B.bytes, hml, findClass_of_methodNamed B.named, fun w h => atoms_spec (ws := (zW yK_tau cK_tau 1 (.some .int))) B.pre w (List.mem_cons_of_mem _ h)⟩
  have hr := B.returns
  have hlocks := B.notSynchronized
  have hl := lv_entry ([.ref h0]) (n := 1) (Nat.le_of_ble_eq_true rfl)
  rw [lg_entry_eq]
  generalize (lg_sl ([.ref h0]) ++ List.replicate (1 - (lg_sl ([.ref h0])).length) Slot.unset).toArray = ls at hl ⊢
  have hl : lv_has ls 1 [(0, .ref h0)] := hl
  refine lv_aload_n F.1 F.2.1 dK_tau_0 rfl (lv_at hl 0 rfl) ?_
  refine z_get F hK hP hinK q1 e1 rfl 3 (by decide) rfl wf_K_22 rfl dK_tau_1 ?_
  exact W.iret F.1 F.2.1 hr (fun t ht hW => ⟨rfl, ht⟩) (fun _ h => by cases h) dK_tau_4
set_option maxHeartbeats 4000000 in
set_option maxRecDepth 100000 in
theorem ck_alpha (l : Launch) (dC : Nat → ClassId) (dI : Nat → Nat → Nat) (cI cL : ClassId) (ws : va_W) (q1 : Nat) (h0 hW hX ta al be ga de va : Nat) (md : Bool) (e1 : ws[q1]? = some (h0, .inr (2, [.ref hW, .ref hX, .int (z_b md), .int (nI ta), .int (nI al), .int (nI be), .int (nI ga), .int (nI de), .int (nI va)])))  : Met l yK_alpha (zW yK_alpha cK_alpha 1 (.some .int)) ({ frames := 0, cells := 0, slots := 0, locals := 0 }) (va_Pc [.ref h0] (z_R (dC, dI) vwCl [(cI, .int), (cL, .long)] ws)) (k2_QcV (.int (nI al))) 0 0 (fun _ => False) := by
  refine Met.ofW (cc := cK_alpha) (maxL := 1) (ret := (.some .int)) (by decide) rfl ?_
  intro p e s m args below meth c s₁ B hml hv
  obtain ⟨rfl, hP, hK⟩ := hv
  have F : CallFix p m c cK_alpha 1 s _ zT RK := ⟨B.exec, B.bytes, hml, findClass_of_methodNamed B.named, fun w h => atoms_spec (ws := (zW yK_alpha cK_alpha 1 (.some .int))) B.pre w (List.mem_cons_of_mem _ h)⟩
  have hr := B.returns
  have hlocks := B.notSynchronized
  have hl := lv_entry ([.ref h0]) (n := 1) (Nat.le_of_ble_eq_true rfl)
  rw [lg_entry_eq]
  generalize (lg_sl ([.ref h0]) ++ List.replicate (1 - (lg_sl ([.ref h0])).length) Slot.unset).toArray = ls at hl ⊢
  have hl : lv_has ls 1 [(0, .ref h0)] := hl
  refine lv_aload_n F.1 F.2.1 dK_alpha_0 rfl (lv_at hl 0 rfl) ?_
  refine z_get F hK hP hinK q1 e1 rfl 4 (by decide) rfl wf_K_26 rfl dK_alpha_1 ?_
  exact W.iret F.1 F.2.1 hr (fun t ht hW => ⟨rfl, ht⟩) (fun _ h => by cases h) dK_alpha_4
set_option maxHeartbeats 4000000 in
set_option maxRecDepth 100000 in
theorem ck_beta (l : Launch) (dC : Nat → ClassId) (dI : Nat → Nat → Nat) (cI cL : ClassId) (ws : va_W) (q1 : Nat) (h0 hW hX ta al be ga de va : Nat) (md : Bool) (e1 : ws[q1]? = some (h0, .inr (2, [.ref hW, .ref hX, .int (z_b md), .int (nI ta), .int (nI al), .int (nI be), .int (nI ga), .int (nI de), .int (nI va)])))  : Met l yK_beta (zW yK_beta cK_beta 1 (.some .int)) ({ frames := 0, cells := 0, slots := 0, locals := 0 }) (va_Pc [.ref h0] (z_R (dC, dI) vwCl [(cI, .int), (cL, .long)] ws)) (k2_QcV (.int (nI be))) 0 0 (fun _ => False) := by
  refine Met.ofW (cc := cK_beta) (maxL := 1) (ret := (.some .int)) (by decide) rfl ?_
  intro p e s m args below meth c s₁ B hml hv
  obtain ⟨rfl, hP, hK⟩ := hv
  have F : CallFix p m c cK_beta 1 s _ zT RK := ⟨B.exec, B.bytes, hml, findClass_of_methodNamed B.named, fun w h => atoms_spec (ws := (zW yK_beta cK_beta 1 (.some .int))) B.pre w (List.mem_cons_of_mem _ h)⟩
  have hr := B.returns
  have hlocks := B.notSynchronized
  have hl := lv_entry ([.ref h0]) (n := 1) (Nat.le_of_ble_eq_true rfl)
  rw [lg_entry_eq]
  generalize (lg_sl ([.ref h0]) ++ List.replicate (1 - (lg_sl ([.ref h0])).length) Slot.unset).toArray = ls at hl ⊢
  have hl : lv_has ls 1 [(0, .ref h0)] := hl
  refine lv_aload_n F.1 F.2.1 dK_beta_0 rfl (lv_at hl 0 rfl) ?_
  refine z_get F hK hP hinK q1 e1 rfl 5 (by decide) rfl wf_K_29 rfl dK_beta_1 ?_
  exact W.iret F.1 F.2.1 hr (fun t ht hW => ⟨rfl, ht⟩) (fun _ h => by cases h) dK_beta_4
set_option maxHeartbeats 4000000 in
set_option maxRecDepth 100000 in
theorem ck_delta (l : Launch) (dC : Nat → ClassId) (dI : Nat → Nat → Nat) (cI cL : ClassId) (ws : va_W) (q1 : Nat) (h0 hW hX ta al be ga de va : Nat) (md : Bool) (e1 : ws[q1]? = some (h0, .inr (2, [.ref hW, .ref hX, .int (z_b md), .int (nI ta), .int (nI al), .int (nI be), .int (nI ga), .int (nI de), .int (nI va)])))  : Met l yK_delta (zW yK_delta cK_delta 1 (.some .int)) ({ frames := 0, cells := 0, slots := 0, locals := 0 }) (va_Pc [.ref h0] (z_R (dC, dI) vwCl [(cI, .int), (cL, .long)] ws)) (k2_QcV (.int (nI de))) 0 0 (fun _ => False) := by
  refine Met.ofW (cc := cK_delta) (maxL := 1) (ret := (.some .int)) (by decide) rfl ?_
  intro p e s m args below meth c s₁ B hml hv
  obtain ⟨rfl, hP, hK⟩ := hv
  have F : CallFix p m c cK_delta 1 s _ zT RK := ⟨B.exec, B.bytes, hml, findClass_of_methodNamed B.named, fun w h => atoms_spec (ws := (zW yK_delta cK_delta 1 (.some .int))) B.pre w (List.mem_cons_of_mem _ h)⟩
  have hr := B.returns
  have hlocks := B.notSynchronized
  have hl := lv_entry ([.ref h0]) (n := 1) (Nat.le_of_ble_eq_true rfl)
  rw [lg_entry_eq]
  generalize (lg_sl ([.ref h0]) ++ List.replicate (1 - (lg_sl ([.ref h0])).length) Slot.unset).toArray = ls at hl ⊢
  have hl : lv_has ls 1 [(0, .ref h0)] := hl
  refine lv_aload_n F.1 F.2.1 dK_delta_0 rfl (lv_at hl 0 rfl) ?_
  refine z_get F hK hP hinK q1 e1 rfl 7 (by decide) rfl wf_K_32 rfl dK_delta_1 ?_
  exact W.iret F.1 F.2.1 hr (fun t ht hW => ⟨rfl, ht⟩) (fun _ h => by cases h) dK_delta_4
set_option maxHeartbeats 4000000 in
set_option maxRecDepth 100000 in
theorem ck_vanishing (l : Launch) (dC : Nat → ClassId) (dI : Nat → Nat → Nat) (cI cL : ClassId) (ws : va_W) (q1 : Nat) (h0 hW hX ta al be ga de va : Nat) (md : Bool) (e1 : ws[q1]? = some (h0, .inr (2, [.ref hW, .ref hX, .int (z_b md), .int (nI ta), .int (nI al), .int (nI be), .int (nI ga), .int (nI de), .int (nI va)])))  : Met l yK_vanishing (zW yK_vanishing cK_vanishing 1 (.some .int)) ({ frames := 0, cells := 0, slots := 0, locals := 0 }) (va_Pc [.ref h0] (z_R (dC, dI) vwCl [(cI, .int), (cL, .long)] ws)) (k2_QcV (.int (nI va))) 0 0 (fun _ => False) := by
  refine Met.ofW (cc := cK_vanishing) (maxL := 1) (ret := (.some .int)) (by decide) rfl ?_
  intro p e s m args below meth c s₁ B hml hv
  obtain ⟨rfl, hP, hK⟩ := hv
  have F : CallFix p m c cK_vanishing 1 s _ zT RK := ⟨B.exec, B.bytes, hml, findClass_of_methodNamed B.named, fun w h => atoms_spec (ws := (zW yK_vanishing cK_vanishing 1 (.some .int))) B.pre w (List.mem_cons_of_mem _ h)⟩
  have hr := B.returns
  have hlocks := B.notSynchronized
  have hl := lv_entry ([.ref h0]) (n := 1) (Nat.le_of_ble_eq_true rfl)
  rw [lg_entry_eq]
  generalize (lg_sl ([.ref h0]) ++ List.replicate (1 - (lg_sl ([.ref h0])).length) Slot.unset).toArray = ls at hl ⊢
  have hl : lv_has ls 1 [(0, .ref h0)] := hl
  refine lv_aload_n F.1 F.2.1 dK_vanishing_0 rfl (lv_at hl 0 rfl) ?_
  refine z_get F hK hP hinK q1 e1 rfl 8 (by decide) rfl wf_K_35 rfl dK_vanishing_1 ?_
  exact W.iret F.1 F.2.1 hr (fun t ht hW => ⟨rfl, ht⟩) (fun _ h => by cases h) dK_vanishing_4
set_option maxHeartbeats 4000000 in
set_option maxRecDepth 100000 in
theorem ck_atTau (l : Launch) (dC : Nat → ClassId) (dI : Nat → Nat → Nat) (cI cL : ClassId) (ws : va_W) (q1 q2 q3 : Nat) (h0 hW hX ta al be ga de va : Nat) (md : Bool) (hV : Nat) (w d : Nat → Nat) (e1 : ws[q1]? = some (h0, .inr (2, [.ref hW, .ref hX, .int (z_b md), .int (nI ta), .int (nI al), .int (nI be), .int (nI ga), .int (nI de), .int (nI va)]))) (e2 : ws[q2]? = some (hW, .inl (cI, 16, .inl (fun j => nI (w j))))) (e3 : ws[q3]? = some (hV, .inl (cI, 16, .inl (fun j => nI (d j))))) (hd : ∀ j, d j < 998244353) (hw : ∀ j, w j < 998244353) : Met l yK_atTau (zW yK_atTau cK_atTau 4 (.some .int)) ({ frames := 1, cells := 0, slots := 0, locals := 22 }) (va_Pc [.ref h0, .ref hV] (z_R (dC, dI) vwCl [(cI, .int), (cL, .long)] ws)) (k2_QcV (.int (nI (sg 16 (fun t => d t * w t) % 998244353)))) 0 0 (fun _ => False) := by
  refine Met.ofW (cc := cK_atTau) (maxL := 4) (ret := (.some .int)) (by decide) rfl ?_
  intro p e s m args below meth c s₁ B hml hv
  obtain ⟨rfl, hP, hK⟩ := hv
  have F : CallFix p m c cK_atTau 4 s _ zT RK := ⟨B.exec, B.bytes, hml, findClass_of_methodNamed B.named, fun w h => atoms_spec (ws := (zW yK_atTau cK_atTau 4 (.some .int))) B.pre w (List.mem_cons_of_mem _ h)⟩
  have hr := B.returns
  have hlocks := B.notSynchronized
  have hl := lv_entry ([.ref h0, .ref hV]) (n := 4) (Nat.le_of_ble_eq_true rfl)
  rw [lg_entry_eq]
  generalize (lg_sl ([.ref h0, .ref hV]) ++ List.replicate (4 - (lg_sl ([.ref h0, .ref hV])).length) Slot.unset).toArray = ls at hl ⊢
  have hl : lv_has ls 4 [(0, .ref h0), (1, .ref hV)] := hl
  refine z_iconst (v := 0) F (by decide) dK_atTau_0 ?_
  refine lv_istore_n F.1 F.2.1 (lv' := [(2, .int (nI 0)), (0, .ref h0), (1, .ref hV)]) dK_atTau_1 rfl hl (by decide) rfl (fun ls hl => ?_)
  refine z_iconst (v := 0) F (by decide) dK_atTau_2 ?_
  refine lv_istore_n F.1 F.2.1 (lv' := [(3, .int (nI 0)), (2, .int (nI 0)), (0, .ref h0), (1, .ref hV)]) dK_atTau_3 rfl hl (by decide) rfl (fun ls hl => ?_)
  have hl : lv_has ls 4 [(3, .int (nI 0)), (2, .int (nI (sg 0 (fun t => d t * w t) % 998244353))), (0, .ref h0), (1, .ref hV)] := lv_sub hl [0, 1, 2, 3] rfl
  refine z_up (E := 16) (P := fun j => ∀  (ls : Array Slot), lv_has ls 4 [(3, .int (nI j)), (2, .int (nI (sg j (fun t => d t * w t) % 998244353))), (0, .ref h0), (1, .ref hV)] → W p l e _ s m _ below meth c s.heap [] _ _ _ (F0 m 4 ls [])) ?_ 0 (Nat.zero_le _)  ls  hl
  intro j hj ih  ls  hl
  refine lv_iload_n F.1 F.2.1 dK_atTau_4 rfl (lv_at hl 0 rfl) ?_
  refine z_bipush (v := 16) F (by decide) dK_atTau_5 ?_
  refine z_icmp_ge F (by omega) (by omega) (tgt := 33) dK_atTau_7 rfl (fun h1 => ?_) (fun h1 => ?_)
  · refine lv_iload_n F.1 F.2.1 dK_atTau_33 rfl (lv_at hl 1 rfl) ?_
    refine z_top (sg 16 (fun t => d t * w t) % 998244353) (by rw [show j = 16 by omega]) ?_
    exact W.iret F.1 F.2.1 hr (fun t ht hW => ⟨rfl, ht⟩) (fun _ h => by cases h) dK_atTau_34
  · refine lv_iload_n F.1 F.2.1 dK_atTau_10 rfl (lv_at hl 1 rfl) ?_
    refine lv_aload_n F.1 F.2.1 dK_atTau_11 rfl (lv_at hl 3 rfl) ?_
    refine lv_iload_n F.1 F.2.1 dK_atTau_12 rfl (lv_at hl 0 rfl) ?_
    refine z_iald F hK hP q3 0 e3 rfl (by omega) (by decide) dK_atTau_13 ?_
    refine lv_aload_n F.1 F.2.1 dK_atTau_14 rfl (lv_at hl 2 rfl) ?_
    refine z_get F hK hP hinK q1 e1 rfl 0 (by decide) rfl wf_K_9 rfl dK_atTau_15 ?_
    refine lv_iload_n F.1 F.2.1 dK_atTau_18 rfl (lv_at hl 0 rfl) ?_
    refine z_iald F hK hP q2 0 e2 rfl (by omega) (by decide) dK_atTau_19 ?_
    refine z_call (z_runS [.int (nI (d j)), .int (nI (w j))] [.int (nI (sg j (fun t => d t * w t) % 998244353))] F (c_product l (d j) (w j) (Nat.lt_trans (hd _) (by decide)) (Nat.lt_trans (hw _) (by decide))) kk_F_product wl_K_61 rfl rfl ⟨Nat.le_of_ble_eq_true rfl, Nat.le_of_ble_eq_true rfl⟩ z_preN rfl hl.1 rfl (Nat.le_of_ble_eq_true rfl) dK_atTau_20 ⟨Nat.zero_le _, Nat.zero_le _⟩) ?_
    refine z_call (z_runS [.int (nI (sg j (fun t => d t * w t) % 998244353)), .int (nI ((d j) * (w j) % 998244353))] [] F (c_sum l (sg j (fun t => d t * w t) % 998244353) ((d j) * (w j) % 998244353) (ltP _) (ltP _)) kk_F_sum wl_K_66 rfl rfl ⟨Nat.le_of_ble_eq_true rfl, Nat.le_of_ble_eq_true rfl⟩ z_preN rfl hl.1 rfl (Nat.le_of_ble_eq_true rfl) dK_atTau_23 ⟨Nat.zero_le _, Nat.zero_le _⟩) ?_
    refine z_top (sg (j + 1) (fun t => d t * w t) % 998244353) (sm1 j (fun t => d t * w t)) ?_
    refine lv_istore_n F.1 F.2.1 (lv' := [(2, .int (nI (sg (j + 1) (fun t => d t * w t) % 998244353))), (3, .int (nI j)), (0, .ref h0), (1, .ref hV)]) dK_atTau_26 rfl hl (by decide) rfl (fun ls hl => ?_)
    refine lv_iinc F.1 F.2.1 (k := 1) (v := nI (j + 1)) (lv' := [(3, .int (nI (j + 1))), (2, .int (nI (sg (j + 1) (fun t => d t * w t) % 998244353))), (0, .ref h0), (1, .ref hV)]) dK_atTau_27 hl rfl (nI_1 j) (by decide) rfl (fun ls hl => ?_)
    refine lv_goto F.1 F.2.1 (tgt := 4) dK_atTau_30 rfl ?_
    have hl : lv_has ls 4 [(3, .int (nI ((j + 1)))), (2, .int (nI (sg (j + 1) (fun t => d t * w t) % 998244353))), (0, .ref h0), (1, .ref hV)] := lv_sub hl [0, 1, 2, 3] rfl
    exact ih (by omega)  ls  hl
set_option maxHeartbeats 4000000 in
set_option maxRecDepth 100000 in
theorem ck_firstElement (l : Launch) (dC : Nat → ClassId) (dI : Nat → Nat → Nat) (cI cL : ClassId) (ws : va_W) (q1 q2 q3 : Nat) (h0 hW hX ta al be ga de va : Nat) (md : Bool) (hV : Nat) (w d : Nat → Nat) (e1 : ws[q1]? = some (h0, .inr (2, [.ref hW, .ref hX, .int (z_b md), .int (nI ta), .int (nI al), .int (nI be), .int (nI ga), .int (nI de), .int (nI va)]))) (e2 : ws[q2]? = some (hW, .inl (cI, 16, .inl (fun j => nI (w j))))) (e3 : ws[q3]? = some (hV, .inl (cI, 16, .inl (fun j => nI (d j))))) (hd : ∀ j, d j < 998244353) (hw : ∀ j, w j < 998244353) (ha : al < 998244353) : Met l yK_firstElement (zW yK_firstElement cK_firstElement 2 (.some .int)) ({ frames := 2, cells := 0, slots := 0, locals := 45 }) (va_Pc [.ref h0, .ref hV] (z_R (dC, dI) vwCl [(cI, .int), (cL, .long)] ws)) (k2_QcV (.int (nI ((al + sg 16 (fun t => d t * w t) % 998244353) % 998244353)))) 0 0 (fun _ => False) := by
  refine Met.ofW (cc := cK_firstElement) (maxL := 2) (ret := (.some .int)) (by decide) rfl ?_
  intro p e s m args below meth c s₁ B hml hv
  obtain ⟨rfl, hP, hK⟩ := hv
  have F : CallFix p m c cK_firstElement 2 s _ zT RK := ⟨B.exec, B.bytes, hml, findClass_of_methodNamed B.named, fun w h => atoms_spec (ws := (zW yK_firstElement cK_firstElement 2 (.some .int))) B.pre w (List.mem_cons_of_mem _ h)⟩
  have hr := B.returns
  have hlocks := B.notSynchronized
  have hl := lv_entry ([.ref h0, .ref hV]) (n := 2) (Nat.le_of_ble_eq_true rfl)
  rw [lg_entry_eq]
  generalize (lg_sl ([.ref h0, .ref hV]) ++ List.replicate (2 - (lg_sl ([.ref h0, .ref hV])).length) Slot.unset).toArray = ls at hl ⊢
  have hl : lv_has ls 2 [(0, .ref h0), (1, .ref hV)] := hl
  refine lv_aload_n F.1 F.2.1 dK_firstElement_0 rfl (lv_at hl 0 rfl) ?_
  refine z_get F hK hP hinK q1 e1 rfl 4 (by decide) rfl wf_K_26 rfl dK_firstElement_1 ?_
  refine lv_aload_n F.1 F.2.1 dK_firstElement_4 rfl (lv_at hl 0 rfl) ?_
  refine lv_aload_n F.1 F.2.1 dK_firstElement_5 rfl (lv_at hl 1 rfl) ?_
  refine z_call (z_runV [.ref hV] [.int (nI al)] F (ck_atTau l dC dI cI cL ws q1 q2 q3 h0 hW hX ta al be ga de va md hV w d e1 e2 e3 hd hw) kk_K_atTau wl_K_69 rfl rfl ⟨Nat.le_of_ble_eq_true rfl, Nat.le_of_ble_eq_true rfl⟩ (z_preVR (q := (RK, TK, 9)) hP hK rfl e1) rfl hl.1 rfl (Nat.le_of_ble_eq_true rfl) dK_firstElement_6 ⟨Nat.zero_le _, Nat.zero_le _⟩) ?_
  refine z_call (z_runS [.int (nI al), .int (nI (sg 16 (fun t => d t * w t) % 998244353))] [] F (c_sum l al (sg 16 (fun t => d t * w t) % 998244353) ha (ltP _)) kk_F_sum wl_K_66 rfl rfl ⟨Nat.le_of_ble_eq_true rfl, Nat.le_of_ble_eq_true rfl⟩ z_preN rfl hl.1 rfl (Nat.le_of_ble_eq_true rfl) dK_firstElement_9 ⟨Nat.zero_le _, Nat.zero_le _⟩) ?_
  exact W.iret F.1 F.2.1 hr (fun t ht hW => ⟨rfl, ht⟩) (fun _ h => by cases h) dK_firstElement_12
set_option maxHeartbeats 4000000 in
set_option maxRecDepth 100000 in
theorem ck_secondElement (l : Launch) (dC : Nat → ClassId) (dI : Nat → Nat → Nat) (cI cL : ClassId) (ws : va_W) (q1 q2 q3 : Nat) (h0 hW hX ta al be ga de va : Nat) (md : Bool) (hV : Nat) (w d : Nat → Nat) (e1 : ws[q1]? = some (h0, .inr (2, [.ref hW, .ref hX, .int (z_b md), .int (nI ta), .int (nI al), .int (nI be), .int (nI ga), .int (nI de), .int (nI va)]))) (e2 : ws[q2]? = some (hW, .inl (cI, 16, .inl (fun j => nI (w j))))) (e3 : ws[q3]? = some (hV, .inl (cI, 16, .inl (fun j => nI (d j))))) (hd : ∀ j, d j < 998244353) (hw : ∀ j, w j < 998244353) (hb : be < 998244353) : Met l yK_secondElement (zW yK_secondElement cK_secondElement 2 (.some .int)) ({ frames := 2, cells := 0, slots := 0, locals := 45 }) (va_Pc [.ref h0, .ref hV] (z_R (dC, dI) vwCl [(cI, .int), (cL, .long)] ws)) (k2_QcV (.int (nI ((be + sg 16 (fun t => d t * w t) % 998244353) % 998244353)))) 0 0 (fun _ => False) := by
  refine Met.ofW (cc := cK_secondElement) (maxL := 2) (ret := (.some .int)) (by decide) rfl ?_
  intro p e s m args below meth c s₁ B hml hv
  obtain ⟨rfl, hP, hK⟩ := hv
  have F : CallFix p m c cK_secondElement 2 s _ zT RK := ⟨B.exec, B.bytes, hml, findClass_of_methodNamed B.named, fun w h => atoms_spec (ws := (zW yK_secondElement cK_secondElement 2 (.some .int))) B.pre w (List.mem_cons_of_mem _ h)⟩
  have hr := B.returns
  have hlocks := B.notSynchronized
  have hl := lv_entry ([.ref h0, .ref hV]) (n := 2) (Nat.le_of_ble_eq_true rfl)
  rw [lg_entry_eq]
  generalize (lg_sl ([.ref h0, .ref hV]) ++ List.replicate (2 - (lg_sl ([.ref h0, .ref hV])).length) Slot.unset).toArray = ls at hl ⊢
  have hl : lv_has ls 2 [(0, .ref h0), (1, .ref hV)] := hl
  refine lv_aload_n F.1 F.2.1 dK_secondElement_0 rfl (lv_at hl 0 rfl) ?_
  refine z_get F hK hP hinK q1 e1 rfl 5 (by decide) rfl wf_K_29 rfl dK_secondElement_1 ?_
  refine lv_aload_n F.1 F.2.1 dK_secondElement_4 rfl (lv_at hl 0 rfl) ?_
  refine lv_aload_n F.1 F.2.1 dK_secondElement_5 rfl (lv_at hl 1 rfl) ?_
  refine z_call (z_runV [.ref hV] [.int (nI be)] F (ck_atTau l dC dI cI cL ws q1 q2 q3 h0 hW hX ta al be ga de va md hV w d e1 e2 e3 hd hw) kk_K_atTau wl_K_69 rfl rfl ⟨Nat.le_of_ble_eq_true rfl, Nat.le_of_ble_eq_true rfl⟩ (z_preVR (q := (RK, TK, 9)) hP hK rfl e1) rfl hl.1 rfl (Nat.le_of_ble_eq_true rfl) dK_secondElement_6 ⟨Nat.zero_le _, Nat.zero_le _⟩) ?_
  refine z_call (z_runS [.int (nI be), .int (nI (sg 16 (fun t => d t * w t) % 998244353))] [] F (c_sum l be (sg 16 (fun t => d t * w t) % 998244353) hb (ltP _)) kk_F_sum wl_K_66 rfl rfl ⟨Nat.le_of_ble_eq_true rfl, Nat.le_of_ble_eq_true rfl⟩ z_preN rfl hl.1 rfl (Nat.le_of_ble_eq_true rfl) dK_secondElement_9 ⟨Nat.zero_le _, Nat.zero_le _⟩) ?_
  exact W.iret F.1 F.2.1 hr (fun t ht hW => ⟨rfl, ht⟩) (fun _ h => by cases h) dK_secondElement_12
set_option maxHeartbeats 4000000 in
set_option maxRecDepth 100000 in
theorem ck_mixSum (l : Launch) (dC : Nat → ClassId) (dI : Nat → Nat → Nat) (cI cL : ClassId) (ws : va_W) (q1 q2 q3 : Nat) (h0 hW hX ta al be ga de va : Nat) (md : Bool) (hV nn : Nat) (w d : Nat → Nat) (a z : Nat) (e1 : ws[q1]? = some (h0, .inr (2, [.ref hW, .ref hX, .int (z_b md), .int (nI ta), .int (nI al), .int (nI be), .int (nI ga), .int (nI de), .int (nI va)]))) (e2 : ws[q2]? = some (hX, .inl (cI, 16, .inl (fun j => nI (w j))))) (e3 : ws[q3]? = some (hV, .inl (cI, nn, .inl (fun j => nI (d j))))) (hd : ∀ j, d j < 998244353) (hw : ∀ j, w j < 998244353) (hn : z < nn) (h16 : z < 16) (ha : a ≤ z + 1) (hnn : nn < 2 ^ 31) : Met l yK_mixSum (zW yK_mixSum cK_mixSum 6 (.some .int)) ({ frames := 1, cells := 0, slots := 0, locals := 22 }) (va_Pc [.ref h0, .ref hV, .int (nI a), .int (nI z)] (z_R (dC, dI) vwCl [(cI, .int), (cL, .long)] ws)) (k2_QcV (.int (nI (sg (z + 1 - a) (fun t => d (a + t) * w (a + t)) % 998244353)))) 0 0 (fun _ => False) := by
  refine Met.ofW (cc := cK_mixSum) (maxL := 6) (ret := (.some .int)) (by decide) rfl ?_
  intro p e s m args below meth c s₁ B hml hv
  obtain ⟨rfl, hP, hK⟩ := hv
  have F : CallFix p m c cK_mixSum 6 s _ zT RK := ⟨B.exec, B.bytes, hml, findClass_of_methodNamed B.named, fun w h => atoms_spec (ws := (zW yK_mixSum cK_mixSum 6 (.some .int))) B.pre w (List.mem_cons_of_mem _ h)⟩
  have hr := B.returns
  have hlocks := B.notSynchronized
  have hl := lv_entry ([.ref h0, .ref hV, .int (nI a), .int (nI z)]) (n := 6) (Nat.le_of_ble_eq_true rfl)
  rw [lg_entry_eq]
  generalize (lg_sl ([.ref h0, .ref hV, .int (nI a), .int (nI z)]) ++ List.replicate (6 - (lg_sl ([.ref h0, .ref hV, .int (nI a), .int (nI z)])).length) Slot.unset).toArray = ls at hl ⊢
  have hl : lv_has ls 6 [(0, .ref h0), (1, .ref hV), (2, .int (nI a)), (3, .int (nI z))] := hl
  refine z_iconst (v := 0) F (by decide) dK_mixSum_0 ?_
  refine lv_istore F.1 F.2.1 (lv' := [(4, .int (nI 0)), (0, .ref h0), (1, .ref hV), (2, .int (nI a)), (3, .int (nI z))]) dK_mixSum_1 hl (by decide) rfl (fun ls hl => ?_)
  refine lv_iload_n F.1 F.2.1 dK_mixSum_3 rfl (lv_at hl 3 rfl) ?_
  refine lv_istore F.1 F.2.1 (lv' := [(5, .int (nI a)), (4, .int (nI 0)), (0, .ref h0), (1, .ref hV), (2, .int (nI a)), (3, .int (nI z))]) dK_mixSum_4 hl (by decide) rfl (fun ls hl => ?_)
  have hl : lv_has ls 6 [(5, .int (nI (a + 0))), (4, .int (nI (sg 0 (fun t => d (a + t) * w (a + t)) % 998244353))), (0, .ref h0), (1, .ref hV), (2, .int (nI a)), (3, .int (nI z))] := lv_sub hl [0, 1, 2, 3, 4, 5] rfl
  refine z_up (E := z + 1 - a) (P := fun u => ∀  (ls : Array Slot), lv_has ls 6 [(5, .int (nI (a + u))), (4, .int (nI (sg u (fun t => d (a + t) * w (a + t)) % 998244353))), (0, .ref h0), (1, .ref hV), (2, .int (nI a)), (3, .int (nI z))] → W p l e _ s m _ below meth c s.heap [] _ _ _ (F0 m 6 ls [])) ?_ 0 (Nat.zero_le _)  ls  hl
  intro u hu ih  ls  hl
  refine lv_iload F.1 F.2.1 dK_mixSum_6 (lv_at hl 0 rfl) ?_
  refine lv_iload_n F.1 F.2.1 dK_mixSum_8 rfl (lv_at hl 5 rfl) ?_
  refine z_icmp_gt F (by omega) (by omega) (tgt := 39) dK_mixSum_9 rfl (fun h1 => ?_) (fun h1 => ?_)
  · refine lv_iload F.1 F.2.1 dK_mixSum_39 (lv_at hl 1 rfl) ?_
    refine z_top (sg (z + 1 - a) (fun t => d (a + t) * w (a + t)) % 998244353) (by rw [show u = z + 1 - a by omega]) ?_
    exact W.iret F.1 F.2.1 hr (fun t ht hW => ⟨rfl, ht⟩) (fun _ h => by cases h) dK_mixSum_41
  · refine lv_iload F.1 F.2.1 dK_mixSum_12 (lv_at hl 1 rfl) ?_
    refine lv_aload_n F.1 F.2.1 dK_mixSum_14 rfl (lv_at hl 3 rfl) ?_
    refine lv_iload F.1 F.2.1 dK_mixSum_15 (lv_at hl 0 rfl) ?_
    refine z_iald F hK hP q3 0 e3 rfl (by omega) (hnn) dK_mixSum_17 ?_
    refine lv_aload_n F.1 F.2.1 dK_mixSum_18 rfl (lv_at hl 2 rfl) ?_
    refine z_get F hK hP hinK q1 e1 rfl 1 (by decide) rfl wf_K_15 rfl dK_mixSum_19 ?_
    refine lv_iload F.1 F.2.1 dK_mixSum_22 (lv_at hl 0 rfl) ?_
    refine z_iald F hK hP q2 0 e2 rfl (by omega) (by decide) dK_mixSum_24 ?_
    refine z_call (z_runS [.int (nI (d (a + u))), .int (nI (w (a + u)))] [.int (nI (sg u (fun t => d (a + t) * w (a + t)) % 998244353))] F (c_product l (d (a + u)) (w (a + u)) (Nat.lt_trans (hd _) (by decide)) (Nat.lt_trans (hw _) (by decide))) kk_F_product wl_K_61 rfl rfl ⟨Nat.le_of_ble_eq_true rfl, Nat.le_of_ble_eq_true rfl⟩ z_preN rfl hl.1 rfl (Nat.le_of_ble_eq_true rfl) dK_mixSum_25 ⟨Nat.zero_le _, Nat.zero_le _⟩) ?_
    refine z_call (z_runS [.int (nI (sg u (fun t => d (a + t) * w (a + t)) % 998244353)), .int (nI ((d (a + u)) * (w (a + u)) % 998244353))] [] F (c_sum l (sg u (fun t => d (a + t) * w (a + t)) % 998244353) ((d (a + u)) * (w (a + u)) % 998244353) (ltP _) (ltP _)) kk_F_sum wl_K_66 rfl rfl ⟨Nat.le_of_ble_eq_true rfl, Nat.le_of_ble_eq_true rfl⟩ z_preN rfl hl.1 rfl (Nat.le_of_ble_eq_true rfl) dK_mixSum_28 ⟨Nat.zero_le _, Nat.zero_le _⟩) ?_
    refine z_top (sg (u + 1) (fun t => d (a + t) * w (a + t)) % 998244353) (sm1 u (fun t => d (a + t) * w (a + t))) ?_
    refine lv_istore F.1 F.2.1 (lv' := [(4, .int (nI (sg (u + 1) (fun t => d (a + t) * w (a + t)) % 998244353))), (5, .int (nI (a + u))), (0, .ref h0), (1, .ref hV), (2, .int (nI a)), (3, .int (nI z))]) dK_mixSum_31 hl (by decide) rfl (fun ls hl => ?_)
    refine lv_iinc F.1 F.2.1 (k := 1) (v := nI (a + u + 1)) (lv' := [(5, .int (nI (a + u + 1))), (4, .int (nI (sg (u + 1) (fun t => d (a + t) * w (a + t)) % 998244353))), (0, .ref h0), (1, .ref hV), (2, .int (nI a)), (3, .int (nI z))]) dK_mixSum_33 hl rfl (nI_1 (a + u)) (by decide) rfl (fun ls hl => ?_)
    refine lv_goto F.1 F.2.1 (tgt := 6) dK_mixSum_36 rfl ?_
    have hl : lv_has ls 6 [(5, .int (nI (a + (u + 1)))), (4, .int (nI (sg (u + 1) (fun t => d (a + t) * w (a + t)) % 998244353))), (0, .ref h0), (1, .ref hV), (2, .int (nI a)), (3, .int (nI z))] := lv_sub hl [0, 1, 2, 3, 4, 5] rfl
    exact ih (by omega)  ls  hl
set_option maxHeartbeats 4000000 in
set_option maxRecDepth 100000 in
theorem ck_sharedMix (l : Launch) (dC : Nat → ClassId) (dI : Nat → Nat → Nat) (cI cL : ClassId) (ws : va_W) (q1 q2 : Nat) (h0 hW hX ta al be ga de va : Nat) (md : Bool) (w : Nat → Nat) (i pc : Nat) (e1 : ws[q1]? = some (h0, .inr (2, [.ref hW, .ref hX, .int (z_b md), .int (nI ta), .int (nI al), .int (nI be), .int (nI ga), .int (nI de), .int (nI va)]))) (e2 : ws[q2]? = some (hX, .inl (cI, 16, .inl (fun j => nI (w j))))) (hw : ∀ j, w j < 998244353) (hi : i < 16) (hp : pc < 2 ^ 31) (hg : ga < 998244353) (hd : de < 998244353) : Met l yK_sharedMix (zW yK_sharedMix cK_sharedMix 3 (.some .int)) ({ frames := 3, cells := 0, slots := 0, locals := 66 }) (va_Pc [.ref h0, .int (nI i), .int (nI pc)] (z_R (dC, dI) vwCl [(cI, .int), (cL, .long)] ws)) (k2_QcV (.int (nI (w i * iv (if i ≤ pc then ga else de) % 998244353)))) 0 0 (fun _ => False) := by
  refine Met.ofW (cc := cK_sharedMix) (maxL := 3) (ret := (.some .int)) (by decide) rfl ?_
  intro p e s m args below meth c s₁ B hml hv
  obtain ⟨rfl, hP, hK⟩ := hv
  have F : CallFix p m c cK_sharedMix 3 s _ zT RK := ⟨B.exec, B.bytes, hml, findClass_of_methodNamed B.named, fun w h => atoms_spec (ws := (zW yK_sharedMix cK_sharedMix 3 (.some .int))) B.pre w (List.mem_cons_of_mem _ h)⟩
  have hr := B.returns
  have hlocks := B.notSynchronized
  have hl := lv_entry ([.ref h0, .int (nI i), .int (nI pc)]) (n := 3) (Nat.le_of_ble_eq_true rfl)
  rw [lg_entry_eq]
  generalize (lg_sl ([.ref h0, .int (nI i), .int (nI pc)]) ++ List.replicate (3 - (lg_sl ([.ref h0, .int (nI i), .int (nI pc)])).length) Slot.unset).toArray = ls at hl ⊢
  have hl : lv_has ls 3 [(0, .ref h0), (1, .int (nI i)), (2, .int (nI pc))] := hl
  refine lv_aload_n F.1 F.2.1 dK_sharedMix_0 rfl (lv_at hl 0 rfl) ?_
  refine z_get F hK hP hinK q1 e1 rfl 1 (by decide) rfl wf_K_15 rfl dK_sharedMix_1 ?_
  refine lv_iload_n F.1 F.2.1 dK_sharedMix_4 rfl (lv_at hl 1 rfl) ?_
  refine z_iald F hK hP q2 0 e2 rfl (by omega) (by decide) dK_sharedMix_5 ?_
  refine lv_iload_n F.1 F.2.1 dK_sharedMix_6 rfl (lv_at hl 1 rfl) ?_
  refine lv_iload_n F.1 F.2.1 dK_sharedMix_7 rfl (lv_at hl 2 rfl) ?_
  refine z_icmp_gt F (by omega) (by omega) (tgt := 18) dK_sharedMix_8 rfl (fun h1 => ?_) (fun h1 => ?_)
  · refine lv_aload_n F.1 F.2.1 dK_sharedMix_18 rfl (lv_at hl 0 rfl) ?_
    refine z_get F hK hP hinK q1 e1 rfl 7 (by decide) rfl wf_K_32 rfl dK_sharedMix_19 ?_
    refine z_call (z_runS [.int (nI (w i)), .int (nI de)] [] F (c_ratio l (w i) de (Nat.lt_trans (hw _) (by decide)) (Nat.lt_trans (hd) (by decide))) kk_F_ratio wl_K_73 rfl rfl ⟨Nat.le_of_ble_eq_true rfl, Nat.le_of_ble_eq_true rfl⟩ z_preN rfl hl.1 rfl (Nat.le_of_ble_eq_true rfl) dK_sharedMix_22 ⟨Nat.zero_le _, Nat.zero_le _⟩) ?_
    refine z_top (w i * iv (if i ≤ pc then ga else de) % 998244353) (by rw [if_neg (by omega)]) ?_
    exact W.iret F.1 F.2.1 hr (fun t ht hW => ⟨rfl, ht⟩) (fun _ h => by cases h) dK_sharedMix_25
  · refine lv_aload_n F.1 F.2.1 dK_sharedMix_11 rfl (lv_at hl 0 rfl) ?_
    refine z_get F hK hP hinK q1 e1 rfl 6 (by decide) rfl wf_K_38 rfl dK_sharedMix_12 ?_
    refine lv_goto F.1 F.2.1 (tgt := 22) dK_sharedMix_15 rfl ?_
    refine z_call (z_runS [.int (nI (w i)), .int (nI ga)] [] F (c_ratio l (w i) ga (Nat.lt_trans (hw _) (by decide)) (Nat.lt_trans (hg) (by decide))) kk_F_ratio wl_K_73 rfl rfl ⟨Nat.le_of_ble_eq_true rfl, Nat.le_of_ble_eq_true rfl⟩ z_preN rfl hl.1 rfl (Nat.le_of_ble_eq_true rfl) dK_sharedMix_22 ⟨Nat.zero_le _, Nat.zero_le _⟩) ?_
    refine z_top (w i * iv (if i ≤ pc then ga else de) % 998244353) (by rw [if_pos (by omega)]) ?_
    exact W.iret F.1 F.2.1 hr (fun t ht hW => ⟨rfl, ht⟩) (fun _ h => by cases h) dK_sharedMix_25
set_option maxHeartbeats 4000000 in
set_option maxRecDepth 100000 in
theorem ck_vanishingStep (l : Launch) (dC : Nat → ClassId) (dI : Nat → Nat → Nat) (cI cL : ClassId) (ws : va_W) (q1 : Nat) (h0 hW hX ta al be ga de va : Nat) (md : Bool) (i : Nat) (e1 : ws[q1]? = some (h0, .inr (2, [.ref hW, .ref hX, .int (z_b md), .int (nI ta), .int (nI al), .int (nI be), .int (nI ga), .int (nI de), .int (nI va)]))) (hi : i < 16) (ht : ta < 998244353) (hv : va < 998244353) (hd : de < 998244353) : Met l yK_vanishingStep (zW yK_vanishingStep cK_vanishingStep 2 (.some .int)) ({ frames := 3, cells := 0, slots := 0, locals := 66 }) (va_Pc [.ref h0, .int (nI i)] (z_R (dC, dI) vwCl [(cI, .int), (cL, .long)] ws)) (k2_QcV (.int (nI (pw ta i * va % 998244353 * iv de % 998244353)))) 0 0 (fun _ => False) := by
  refine Met.ofW (cc := cK_vanishingStep) (maxL := 2) (ret := (.some .int)) (by decide) rfl ?_
  intro p e s m args below meth c s₁ B hml hv
  obtain ⟨rfl, hP, hK⟩ := hv
  have F : CallFix p m c cK_vanishingStep 2 s _ zT RK := ⟨B.exec, B.bytes, hml, findClass_of_methodNamed B.named, fun w h => atoms_spec (ws := (zW yK_vanishingStep cK_vanishingStep 2 (.some .int))) B.pre w (List.mem_cons_of_mem _ h)⟩
  have hr := B.returns
  have hlocks := B.notSynchronized
  have hl := lv_entry ([.ref h0, .int (nI i)]) (n := 2) (Nat.le_of_ble_eq_true rfl)
  rw [lg_entry_eq]
  generalize (lg_sl ([.ref h0, .int (nI i)]) ++ List.replicate (2 - (lg_sl ([.ref h0, .int (nI i)])).length) Slot.unset).toArray = ls at hl ⊢
  have hl : lv_has ls 2 [(0, .ref h0), (1, .int (nI i))] := hl
  refine lv_aload_n F.1 F.2.1 dK_vanishingStep_0 rfl (lv_at hl 0 rfl) ?_
  refine z_get F hK hP hinK q1 e1 rfl 3 (by decide) rfl wf_K_22 rfl dK_vanishingStep_1 ?_
  refine lv_iload_n F.1 F.2.1 dK_vanishingStep_4 rfl (lv_at hl 1 rfl) ?_
  refine z_call (z_runS [.int (nI ta), .int (nI i)] [] F (c_power l ta i (Nat.lt_trans (ht) (by decide)) (by omega)) kk_F_power wl_K_76 rfl rfl ⟨Nat.le_of_ble_eq_true rfl, Nat.le_of_ble_eq_true rfl⟩ z_preN rfl hl.1 rfl (Nat.le_of_ble_eq_true rfl) dK_vanishingStep_5 ⟨Nat.zero_le _, Nat.zero_le _⟩) ?_
  refine lv_aload_n F.1 F.2.1 dK_vanishingStep_8 rfl (lv_at hl 0 rfl) ?_
  refine z_get F hK hP hinK q1 e1 rfl 8 (by decide) rfl wf_K_35 rfl dK_vanishingStep_9 ?_
  refine z_call (z_runS [.int (nI (pw ta i)), .int (nI va)] [] F (c_product l (pw ta i) va (Nat.lt_trans (pw_lt _ _) (by decide)) (Nat.lt_trans (hv) (by decide))) kk_F_product wl_K_61 rfl rfl ⟨Nat.le_of_ble_eq_true rfl, Nat.le_of_ble_eq_true rfl⟩ z_preN rfl hl.1 rfl (Nat.le_of_ble_eq_true rfl) dK_vanishingStep_12 ⟨Nat.zero_le _, Nat.zero_le _⟩) ?_
  refine lv_aload_n F.1 F.2.1 dK_vanishingStep_15 rfl (lv_at hl 0 rfl) ?_
  refine z_get F hK hP hinK q1 e1 rfl 7 (by decide) rfl wf_K_32 rfl dK_vanishingStep_16 ?_
  refine z_call (z_runS [.int (nI (pw ta i * va % 998244353)), .int (nI de)] [] F (c_ratio l (pw ta i * va % 998244353) de (Nat.lt_trans (ltP _) (by decide)) (Nat.lt_trans (hd) (by decide))) kk_F_ratio wl_K_73 rfl rfl ⟨Nat.le_of_ble_eq_true rfl, Nat.le_of_ble_eq_true rfl⟩ z_preN rfl hl.1 rfl (Nat.le_of_ble_eq_true rfl) dK_vanishingStep_19 ⟨Nat.zero_le _, Nat.zero_le _⟩) ?_
  exact W.iret F.1 F.2.1 hr (fun t ht hW => ⟨rfl, ht⟩) (fun _ h => by cases h) dK_vanishingStep_22
end
section
set_option maxHeartbeats 4000000 in
set_option maxRecDepth 100000 in
theorem cq_isMade (l : Launch) (dC : Nat → ClassId) (dI : Nat → Nat → Nat) (cI cL : ClassId) (ws : va_W) (q1 : Nat) (h0 hE hQ : Nat) (md : Bool) (e1 : ws[q1]? = some (h0, .inr (3, [.ref hE, .ref hQ, .int (z_b md)])))  : Met l yQ_isMade (zW yQ_isMade cQ_isMade 1 (.some .boolean)) ({ frames := 0, cells := 0, slots := 0, locals := 0 }) (va_Pc [.ref h0] (z_R (dC, dI) vwCl [(cI, .int), (cL, .long)] ws)) (k2_QcV (.int (z_b md))) 0 0 (fun _ => False) := by
  refine Met.ofW (cc := cQ_isMade) (maxL := 1) (ret := (.some .boolean)) (by decide) rfl ?_
  intro p e s m args below meth c s₁ B hml hv
  obtain ⟨rfl, hP, hK⟩ := hv
  have F : CallFix p m c cQ_isMade 1 s _ zT RQ := ⟨B.exec, B.bytes, hml, findClass_of_methodNamed B.named, fun w h => atoms_spec (ws := (zW yQ_isMade cQ_isMade 1 (.some .boolean))) B.pre w (List.mem_cons_of_mem _ h)⟩
  have hr := B.returns
  have hlocks := B.notSynchronized
  have hl := lv_entry ([.ref h0]) (n := 1) (Nat.le_of_ble_eq_true rfl)
  rw [lg_entry_eq]
  generalize (lg_sl ([.ref h0]) ++ List.replicate (1 - (lg_sl ([.ref h0])).length) Slot.unset).toArray = ls at hl ⊢
  have hl : lv_has ls 1 [(0, .ref h0)] := hl
  refine lv_aload_n F.1 F.2.1 dQ_isMade_0 rfl (lv_at hl 0 rfl) ?_
  refine z_get F hK hP hinQ q1 e1 rfl 2 (by decide) rfl wf_Q_18 rfl dQ_isMade_1 ?_
  exact W.zret F.1 F.2.1 hr (by cases md <;> rfl) (fun t ht hW => ⟨rfl, ht⟩) (fun _ h => by cases h) dQ_isMade_4
set_option maxHeartbeats 4000000 in
set_option maxRecDepth 100000 in
theorem cq_element (l : Launch) (dC : Nat → ClassId) (dI : Nat → Nat → Nat) (cI cL : ClassId) (ws : va_W) (q1 q2 : Nat) (h0 hE hQ : Nat) (md : Bool) (w : Nat → Nat) (k : Nat) (e1 : ws[q1]? = some (h0, .inr (3, [.ref hE, .ref hQ, .int (z_b md)]))) (e2 : ws[q2]? = some (hE, .inl (cI, 3, .inl (fun j => nI (w j))))) (hk : k < 3) : Met l yQ_element (zW yQ_element cQ_element 2 (.some .int)) ({ frames := 0, cells := 0, slots := 0, locals := 0 }) (va_Pc [.ref h0, .int (nI k)] (z_R (dC, dI) vwCl [(cI, .int), (cL, .long)] ws)) (k2_QcV (.int (nI (w k)))) 0 0 (fun _ => False) := by
  refine Met.ofW (cc := cQ_element) (maxL := 2) (ret := (.some .int)) (by decide) rfl ?_
  intro p e s m args below meth c s₁ B hml hv
  obtain ⟨rfl, hP, hK⟩ := hv
  have F : CallFix p m c cQ_element 2 s _ zT RQ := ⟨B.exec, B.bytes, hml, findClass_of_methodNamed B.named, fun w h => atoms_spec (ws := (zW yQ_element cQ_element 2 (.some .int))) B.pre w (List.mem_cons_of_mem _ h)⟩
  have hr := B.returns
  have hlocks := B.notSynchronized
  have hl := lv_entry ([.ref h0, .int (nI k)]) (n := 2) (Nat.le_of_ble_eq_true rfl)
  rw [lg_entry_eq]
  generalize (lg_sl ([.ref h0, .int (nI k)]) ++ List.replicate (2 - (lg_sl ([.ref h0, .int (nI k)])).length) Slot.unset).toArray = ls at hl ⊢
  have hl : lv_has ls 2 [(0, .ref h0), (1, .int (nI k))] := hl
  refine lv_aload_n F.1 F.2.1 dQ_element_0 rfl (lv_at hl 0 rfl) ?_
  refine z_get F hK hP hinQ q1 e1 rfl 0 (by decide) rfl wf_Q_9 rfl dQ_element_1 ?_
  refine lv_iload_n F.1 F.2.1 dQ_element_4 rfl (lv_at hl 1 rfl) ?_
  refine z_iald F hK hP q2 0 e2 rfl (by omega) (by decide) dQ_element_5 ?_
  exact W.iret F.1 F.2.1 hr (fun t ht hW => ⟨rfl, ht⟩) (fun _ h => by cases h) dQ_element_6
set_option maxHeartbeats 4000000 in
set_option maxRecDepth 100000 in
theorem cq_quotientCoefficient (l : Launch) (dC : Nat → ClassId) (dI : Nat → Nat → Nat) (cI cL : ClassId) (ws : va_W) (q1 q2 : Nat) (h0 hE hQ : Nat) (md : Bool) (w : Nat → Nat) (k : Nat) (e1 : ws[q1]? = some (h0, .inr (3, [.ref hE, .ref hQ, .int (z_b md)]))) (e2 : ws[q2]? = some (hQ, .inl (cI, 16, .inl (fun j => nI (w j))))) (hk : k < 16) : Met l yQ_quotientCoefficient (zW yQ_quotientCoefficient cQ_quotientCoefficient 2 (.some .int)) ({ frames := 0, cells := 0, slots := 0, locals := 0 }) (va_Pc [.ref h0, .int (nI k)] (z_R (dC, dI) vwCl [(cI, .int), (cL, .long)] ws)) (k2_QcV (.int (nI (w k)))) 0 0 (fun _ => False) := by
  refine Met.ofW (cc := cQ_quotientCoefficient) (maxL := 2) (ret := (.some .int)) (by decide) rfl ?_
  intro p e s m args below meth c s₁ B hml hv
  obtain ⟨rfl, hP, hK⟩ := hv
  have F : CallFix p m c cQ_quotientCoefficient 2 s _ zT RQ := ⟨B.exec, B.bytes, hml, findClass_of_methodNamed B.named, fun w h => atoms_spec (ws := (zW yQ_quotientCoefficient cQ_quotientCoefficient 2 (.some .int))) B.pre w (List.mem_cons_of_mem _ h)⟩
  have hr := B.returns
  have hlocks := B.notSynchronized
  have hl := lv_entry ([.ref h0, .int (nI k)]) (n := 2) (Nat.le_of_ble_eq_true rfl)
  rw [lg_entry_eq]
  generalize (lg_sl ([.ref h0, .int (nI k)]) ++ List.replicate (2 - (lg_sl ([.ref h0, .int (nI k)])).length) Slot.unset).toArray = ls at hl ⊢
  have hl : lv_has ls 2 [(0, .ref h0), (1, .int (nI k))] := hl
  refine lv_aload_n F.1 F.2.1 dQ_quotientCoefficient_0 rfl (lv_at hl 0 rfl) ?_
  refine z_get F hK hP hinQ q1 e1 rfl 1 (by decide) rfl wf_Q_15 rfl dQ_quotientCoefficient_1 ?_
  refine lv_iload_n F.1 F.2.1 dQ_quotientCoefficient_4 rfl (lv_at hl 1 rfl) ?_
  refine z_iald F hK hP q2 0 e2 rfl (by omega) (by decide) dQ_quotientCoefficient_5 ?_
  exact W.iret F.1 F.2.1 hr (fun t ht hW => ⟨rfl, ht⟩) (fun _ h => by cases h) dQ_quotientCoefficient_6
theorem hor1 (t x : Nat) (w : Nat → Nat) (h : t < 16) : (sg t (fun i => w (16 - t + i) * x ^ i) % 998244353 * x % 998244353 + w (15 - t)) % 998244353 = sg (t + 1) (fun i => w (16 - (t + 1) + i) * x ^ i) % 998244353 := by
  rw [sg_horner 16 t x w h, show 16 - (t + 1) = 15 - t by omega]
  exact ((cg.md _).tr (cg.ml x (cg.md _))).add (cg.rf _)
set_option maxHeartbeats 4000000 in
set_option maxRecDepth 100000 in
theorem cq_quotientAt (l : Launch) (dC : Nat → ClassId) (dI : Nat → Nat → Nat) (cI cL : ClassId) (ws : va_W) (q1 q2 : Nat) (h0 hE hQ : Nat) (md : Bool) (w : Nat → Nat) (x : Nat) (e1 : ws[q1]? = some (h0, .inr (3, [.ref hE, .ref hQ, .int (z_b md)]))) (e2 : ws[q2]? = some (hQ, .inl (cI, 16, .inl (fun j => nI (w j))))) (hw : ∀ j, w j < 998244353) (hx : x < 998244353) : Met l yQ_quotientAt (zW yQ_quotientAt cQ_quotientAt 4 (.some .int)) ({ frames := 1, cells := 0, slots := 0, locals := 22 }) (va_Pc [.ref h0, .int (nI x)] (z_R (dC, dI) vwCl [(cI, .int), (cL, .long)] ws)) (k2_QcV (.int (nI (sg 16 (fun i => w i * x ^ i) % 998244353)))) 0 0 (fun _ => False) := by
  refine Met.ofW (cc := cQ_quotientAt) (maxL := 4) (ret := (.some .int)) (by decide) rfl ?_
  intro p e s m args below meth c s₁ B hml hv
  obtain ⟨rfl, hP, hK⟩ := hv
  have F : CallFix p m c cQ_quotientAt 4 s _ zT RQ := ⟨B.exec, B.bytes, hml, findClass_of_methodNamed B.named, fun w h => atoms_spec (ws := (zW yQ_quotientAt cQ_quotientAt 4 (.some .int))) B.pre w (List.mem_cons_of_mem _ h)⟩
  have hr := B.returns
  have hlocks := B.notSynchronized
  have hl := lv_entry ([.ref h0, .int (nI x)]) (n := 4) (Nat.le_of_ble_eq_true rfl)
  rw [lg_entry_eq]
  generalize (lg_sl ([.ref h0, .int (nI x)]) ++ List.replicate (4 - (lg_sl ([.ref h0, .int (nI x)])).length) Slot.unset).toArray = ls at hl ⊢
  have hl : lv_has ls 4 [(0, .ref h0), (1, .int (nI x))] := hl
  refine z_iconst (v := 0) F (by decide) dQ_quotientAt_0 ?_
  refine lv_istore_n F.1 F.2.1 (lv' := [(2, .int (nI 0)), (0, .ref h0), (1, .int (nI x))]) dQ_quotientAt_1 rfl hl (by decide) rfl (fun ls hl => ?_)
  refine z_bipush (v := 15) F (by decide) dQ_quotientAt_2 ?_
  refine lv_istore_n F.1 F.2.1 (lv' := [(3, .int (nI 15)), (2, .int (nI 0)), (0, .ref h0), (1, .int (nI x))]) dQ_quotientAt_4 rfl hl (by decide) rfl (fun ls hl => ?_)
  have hl : lv_has ls 4 [(3, .int (nI (15 - 0 + 1) + (-1))), (2, .int (nI 0)), (0, .ref h0), (1, .int (nI x))] := hl
  have hl : lv_has ls 4 [(3, .int (nI (16 - 0) + (-1))), (2, .int (nI (sg 0 (fun i => w (16 - 0 + i) * x ^ i) % 998244353))), (0, .ref h0), (1, .int (nI x))] := lv_sub hl [0, 1, 2, 3] rfl
  refine z_up (E := 16) (P := fun t => ∀  (ls : Array Slot), lv_has ls 4 [(3, .int (nI (16 - t) + (-1))), (2, .int (nI (sg t (fun i => w (16 - t + i) * x ^ i) % 998244353))), (0, .ref h0), (1, .int (nI x))] → W p l e _ s m _ below meth c s.heap [] _ _ _ (F0 m 5 ls [])) ?_ 0 (Nat.zero_le _)  ls  hl
  intro t ht ih  ls  hl
  by_cases h16 : t = 16
  · subst h16
    refine lv_iload_n F.1 F.2.1 dQ_quotientAt_5 rfl (lv_at hl 0 rfl) ?_
    refine lv_if_lt F.1 F.2.1 (tgt := 30) dQ_quotientAt_6 rfl (fun h => ?_) (fun h => absurd (by decide) h)
    refine lv_iload_n F.1 F.2.1 dQ_quotientAt_30 rfl (lv_at hl 1 rfl) ?_
    refine z_top (sg 16 (fun i => w i * x ^ i) % 998244353) (by rw [sg_congr (fun i _ => by rw [show 16 - 16 + i = i by omega])]) ?_
    exact W.iret F.1 F.2.1 hr (fun t ht hW => ⟨rfl, ht⟩) (fun _ h => by cases h) dQ_quotientAt_31
  · have hl : lv_has ls 4 [(3, .int (nI (15 - t))), (2, .int (nI (sg t (fun i => w (16 - t + i) * x ^ i) % 998244353))), (0, .ref h0), (1, .int (nI x))] := by rw [show nI (16 - t) + (-1) = nI (15 - t) by rw [show 16 - t = (15 - t) + 1 by omega, pk_m1]] at hl; exact hl
    refine lv_iload_n F.1 F.2.1 dQ_quotientAt_5 rfl (lv_at hl 0 rfl) ?_
    refine lv_if_lt F.1 F.2.1 (tgt := 30) dQ_quotientAt_6 rfl (fun h => absurd h (nI_pos (by omega))) (fun h => ?_)
    refine lv_iload_n F.1 F.2.1 dQ_quotientAt_9 rfl (lv_at hl 1 rfl) ?_
    refine lv_iload_n F.1 F.2.1 dQ_quotientAt_10 rfl (lv_at hl 3 rfl) ?_
    refine z_call (z_runS [.int (nI (sg t (fun i => w (16 - t + i) * x ^ i) % 998244353)), .int (nI x)] [] F (c_product l (sg t (fun i => w (16 - t + i) * x ^ i) % 998244353) x (Nat.lt_trans (ltP _) (by decide)) (Nat.lt_trans (hx) (by decide))) kk_F_product wl_Q_22 rfl rfl ⟨Nat.le_of_ble_eq_true rfl, Nat.le_of_ble_eq_true rfl⟩ z_preN rfl hl.1 rfl (Nat.le_of_ble_eq_true rfl) dQ_quotientAt_11 ⟨Nat.zero_le _, Nat.zero_le _⟩) ?_
    refine lv_aload_n F.1 F.2.1 dQ_quotientAt_14 rfl (lv_at hl 2 rfl) ?_
    refine z_get F hK hP hinQ q1 e1 rfl 1 (by decide) rfl wf_Q_15 rfl dQ_quotientAt_15 ?_
    refine lv_iload_n F.1 F.2.1 dQ_quotientAt_18 rfl (lv_at hl 0 rfl) ?_
    refine z_iald F hK hP q2 0 e2 rfl (by omega) (by decide) dQ_quotientAt_19 ?_
    refine z_call (z_runS [.int (nI ((sg t (fun i => w (16 - t + i) * x ^ i) % 998244353) * x % 998244353)), .int (nI (w (15 - t)))] [] F (c_sum l ((sg t (fun i => w (16 - t + i) * x ^ i) % 998244353) * x % 998244353) (w (15 - t)) (ltP _) (hw _)) kk_F_sum wl_Q_28 rfl rfl ⟨Nat.le_of_ble_eq_true rfl, Nat.le_of_ble_eq_true rfl⟩ z_preN rfl hl.1 rfl (Nat.le_of_ble_eq_true rfl) dQ_quotientAt_20 ⟨Nat.zero_le _, Nat.zero_le _⟩) ?_
    refine z_top (sg (t + 1) (fun i => w (16 - (t + 1) + i) * x ^ i) % 998244353) (hor1 t x w (by omega)) ?_
    refine lv_istore_n F.1 F.2.1 (lv' := [(2, .int (nI (sg (t + 1) (fun i => w (16 - (t + 1) + i) * x ^ i) % 998244353))), (3, .int (nI (15 - t))), (0, .ref h0), (1, .int (nI x))]) dQ_quotientAt_23 rfl hl (by decide) rfl (fun ls hl => ?_)
    refine lv_iinc F.1 F.2.1 (k := 1) (v := nI (15 - t) + (-1)) (lv' := [(3, .int (nI (15 - t) + (-1))), (2, .int (nI (sg (t + 1) (fun i => w (16 - (t + 1) + i) * x ^ i) % 998244353))), (0, .ref h0), (1, .int (nI x))]) dQ_quotientAt_24 hl rfl rfl (by decide) rfl (fun ls hl => ?_)
    have hl : lv_has ls 4 [(3, .int (nI (16 - (t + 1)) + (-1))), (2, .int (nI (sg (t + 1) (fun i => w (16 - (t + 1) + i) * x ^ i) % 998244353))), (0, .ref h0), (1, .int (nI x))] := by rw [show nI (15 - t) + (-1) = nI (16 - (t + 1)) + (-1) by rw [show 16 - (t + 1) = 15 - t by omega]] at hl; exact hl
    refine lv_goto F.1 F.2.1 (tgt := 5) dQ_quotientAt_27 rfl ?_
    have hl : lv_has ls 4 [(3, .int (nI (16 - (t + 1)) + (-1))), (2, .int (nI (sg (t + 1) (fun i => w (16 - (t + 1) + i) * x ^ i) % 998244353))), (0, .ref h0), (1, .int (nI x))] := lv_sub hl [0, 1, 2, 3] rfl
    exact ih (by omega)  ls  hl
end
section
set_option maxHeartbeats 4000000 in
set_option maxRecDepth 100000 in
theorem c_closeDraft (l : Launch) (dC : Nat → ClassId) (dI : Nat → Nat → Nat) (cI cL : ClassId) (wr : va_W) (zz : Nat) (h0 hA cn : Nat)  : Met l yC_closeDraft (zW yC_closeDraft cC_closeDraft 2 (.some .int)) ({ frames := 0, cells := 0, slots := 0, locals := 0 }) (va_Pc [.ref h0] (z_P (dC, dI) vwCl [(cI, .int), (cL, .long)] zz ((h0, .inr (0, [.ref hA, .int (nI cn)])) :: wr))) (z_Q (dC, dI) vwCl [(cI, .int), (cL, .long)] (some (.int (nI cn))) ((h0, .inr (0, [.ref hA, .int (nI (cn + 1))])) :: wr) (va_A ((h0, .inr (0, [.ref hA, .int (nI cn)])) :: wr) zz)) 0 0 (va_A ((h0, .inr (0, [.ref hA, .int (nI cn)])) :: wr) zz) := by
  refine Met.ofW (cc := cC_closeDraft) (maxL := 2) (ret := (.some .int)) (by decide) rfl ?_
  intro p e s m args below meth c s₁ B hml hv
  obtain ⟨rfl, hsz, hP, hK, hD0⟩ := hv
  have F : CallFix p m c cC_closeDraft 2 s _ zT RC := ⟨B.exec, B.bytes, hml, findClass_of_methodNamed B.named, fun w h => atoms_spec (ws := (zW yC_closeDraft cC_closeDraft 2 (.some .int))) B.pre w (List.mem_cons_of_mem _ h)⟩
  have hr := B.returns
  have hlocks := B.notSynchronized
  subst hsz
  have hD := hD0.self (sz := s.heap.size)
  generalize hAe : va_A ((h0, .inr (0, [.ref hA, .int (nI cn)])) :: wr) s.heap.size = A at hD ⊢
  have hAA : ∀ q : Nat, s.heap.size ≤ q → A q := fun q h => by rw [← hAe]; exact Or.inr h
  have hS : va_S A s.heap s.heap [] := va_S.rf
  have hl := lv_entry ([.ref h0]) (n := 2) (Nat.le_of_ble_eq_true rfl)
  rw [lg_entry_eq]
  generalize (lg_sl ([.ref h0]) ++ List.replicate (2 - (lg_sl ([.ref h0])).length) Slot.unset).toArray = ls at hl ⊢
  have hl : lv_has ls 2 [(0, .ref h0)] := hl
  refine lv_aload_n F.1 F.2.1 dC_closeDraft_0 rfl (lv_at hl 0 rfl) ?_
  refine z_get F hK hP hinC 0 rfl rfl 1 (by decide) rfl wf_C_15 rfl dC_closeDraft_1 ?_
  refine lv_istore_n F.1 F.2.1 (lv' := [(1, .int (nI cn)), (0, .ref h0)]) dC_closeDraft_4 rfl hl (by decide) rfl (fun ls hl => ?_)
  refine lv_aload_n F.1 F.2.1 dC_closeDraft_5 rfl (lv_at hl 1 rfl) ?_
  refine lv_iload_n F.1 F.2.1 dC_closeDraft_6 rfl (lv_at hl 0 rfl) ?_
  refine z_iconst (v := 1) F (by decide) dC_closeDraft_7 ?_
  refine z_iadd F dC_closeDraft_8 ?_
  refine z_put F hK hP hD hS hinC tyC tyC_ok nmC 0 rfl rfl 1 (by decide) rfl rfl wf_C_15 (rfl) (rfl) (Nat.le_of_ble_eq_true rfl) dC_closeDraft_9 (fun H locs hP hD hS => ?_)
  have hP : va_P (dC, dI) vwCl ((h0, .inr (0, [.ref hA, .int (nI (cn + 1))])) :: wr) H := hP
  have hD : va_D A ((h0, .inr (0, [.ref hA, .int (nI (cn + 1))])) :: wr) := hD
  refine lv_iload_n F.1 F.2.1 dC_closeDraft_12 rfl (lv_at hl 0 rfl) ?_
  exact W.iret F.1 F.2.1 hr (fun t ht hW => ⟨rfl, by rw [ht]; exact hP, va_K.moved hW.alike hK, hD, hS.F ht⟩) hS.2.2 dC_closeDraft_13
set_option maxHeartbeats 4000000 in
set_option maxRecDepth 100000 in
theorem c_growDraft (l : Launch) (dC : Nat → ClassId) (dI : Nat → Nat → Nat) (cI cL : ClassId) (wr : va_W) (zz : Nat) (h0 hA cn : Nat) (f : Nat → Nat) (row i x : Nat) (hf : ∀ j, f j < 998244353) (hx : x < 998244353) (hw : row < 3) (hi : i < 16) (hn : cn ≤ 16) : Met l yC_growDraft (zW yC_growDraft cC_growDraft 5 (.some .int)) ({ frames := 1, cells := 0, slots := 0, locals := 22 }) (va_Pc [.ref h0, .int (nI row), .int (nI i), .int (nI x)] (z_P (dC, dI) vwCl [(cI, .int), (cL, .long)] zz ((h0, .inr (0, [.ref hA, .int (nI cn)])) :: (hA, .inl (cI, 816, .inl (fun x9 => nI (f x9)))) :: wr))) (z_Q (dC, dI) vwCl [(cI, .int), (cL, .long)] (some (.int (nI ((f ((cn * 3 + row) * 16 + i) + x) % 998244353)))) ((h0, .inr (0, [.ref hA, .int (nI cn)])) :: (hA, .inl (cI, 816, .inl (fun x9 => nI ((va_up f ((cn * 3 + row) * 16 + i) ((f ((cn * 3 + row) * 16 + i) + x) % 998244353)) x9)))) :: wr) (va_A ((h0, .inr (0, [.ref hA, .int (nI cn)])) :: (hA, .inl (cI, 816, .inl (fun x9 => nI (f x9)))) :: wr) zz)) 0 0 (va_A ((h0, .inr (0, [.ref hA, .int (nI cn)])) :: (hA, .inl (cI, 816, .inl (fun x9 => nI (f x9)))) :: wr) zz) := by
  refine Met.ofW (cc := cC_growDraft) (maxL := 5) (ret := (.some .int)) (by decide) rfl ?_
  intro p e s m args below meth c s₁ B hml hv
  obtain ⟨rfl, hsz, hP, hK, hD0⟩ := hv
  have F : CallFix p m c cC_growDraft 5 s _ zT RC := ⟨B.exec, B.bytes, hml, findClass_of_methodNamed B.named, fun w h => atoms_spec (ws := (zW yC_growDraft cC_growDraft 5 (.some .int))) B.pre w (List.mem_cons_of_mem _ h)⟩
  have hr := B.returns
  have hlocks := B.notSynchronized
  subst hsz
  have hD := hD0.self (sz := s.heap.size)
  generalize hAe : va_A ((h0, .inr (0, [.ref hA, .int (nI cn)])) :: (hA, .inl (cI, 816, .inl (fun x9 => nI (f x9)))) :: wr) s.heap.size = A at hD ⊢
  have hAA : ∀ q : Nat, s.heap.size ≤ q → A q := fun q h => by rw [← hAe]; exact Or.inr h
  have hS : va_S A s.heap s.heap [] := va_S.rf
  have hl := lv_entry ([.ref h0, .int (nI row), .int (nI i), .int (nI x)]) (n := 5) (Nat.le_of_ble_eq_true rfl)
  rw [lg_entry_eq]
  generalize (lg_sl ([.ref h0, .int (nI row), .int (nI i), .int (nI x)]) ++ List.replicate (5 - (lg_sl ([.ref h0, .int (nI row), .int (nI i), .int (nI x)])).length) Slot.unset).toArray = ls at hl ⊢
  have hl : lv_has ls 5 [(0, .ref h0), (1, .int (nI row)), (2, .int (nI i)), (3, .int (nI x))] := hl
  refine lv_aload_n F.1 F.2.1 dC_growDraft_0 rfl (lv_at hl 0 rfl) ?_
  refine z_get F hK hP hinC 0 rfl rfl 1 (by decide) rfl wf_C_15 rfl dC_growDraft_1 ?_
  refine lv_iload_n F.1 F.2.1 dC_growDraft_4 rfl (lv_at hl 1 rfl) ?_
  refine z_call (z_runS [.int (nI cn), .int (nI row)] [] F (c_start l cn row) kk_C_start wl_C_19 rfl rfl ⟨Nat.le_of_ble_eq_true rfl, Nat.le_of_ble_eq_true rfl⟩ z_preN rfl hl.1 rfl (Nat.le_of_ble_eq_true rfl) dC_growDraft_5 ⟨Nat.zero_le _, Nat.zero_le _⟩) ?_
  refine lv_iload_n F.1 F.2.1 dC_growDraft_8 rfl (lv_at hl 2 rfl) ?_
  refine z_iadd F dC_growDraft_9 ?_
  refine lv_istore F.1 F.2.1 (lv' := [(4, .int (nI (((cn * 3 + row) * 16) + i))), (0, .ref h0), (1, .int (nI row)), (2, .int (nI i)), (3, .int (nI x))]) dC_growDraft_10 hl (by decide) rfl (fun ls hl => ?_)
  refine lv_aload_n F.1 F.2.1 dC_growDraft_12 rfl (lv_at hl 1 rfl) ?_
  refine z_get F hK hP hinC 0 rfl rfl 0 (by decide) rfl wf_C_9 rfl dC_growDraft_13 ?_
  refine lv_iload F.1 F.2.1 dC_growDraft_16 (lv_at hl 0 rfl) ?_
  refine lv_aload_n F.1 F.2.1 dC_growDraft_18 rfl (lv_at hl 1 rfl) ?_
  refine z_get F hK hP hinC 0 rfl rfl 0 (by decide) rfl wf_C_9 rfl dC_growDraft_19 ?_
  refine lv_iload F.1 F.2.1 dC_growDraft_22 (lv_at hl 0 rfl) ?_
  refine z_iald F hK hP 1 0 rfl rfl (by omega) (by decide) dC_growDraft_24 ?_
  refine lv_iload_n F.1 F.2.1 dC_growDraft_25 rfl (lv_at hl 4 rfl) ?_
  refine z_call (z_runS [.int (nI (f (((cn * 3 + row) * 16) + i))), .int (nI x)] [.int (nI (((cn * 3 + row) * 16) + i)), .ref hA] F (c_sum l (f ((cn * 3 + row) * 16 + i)) x (hf _) hx) kk_F_sum wl_C_23 rfl rfl ⟨Nat.le_of_ble_eq_true rfl, Nat.le_of_ble_eq_true rfl⟩ z_preN rfl hl.1 rfl (Nat.le_of_ble_eq_true rfl) dC_growDraft_26 ⟨Nat.zero_le _, Nat.zero_le _⟩) ?_
  refine z_iast F hK hP hD hS 1 0 rfl rfl (by omega) (by decide) dC_growDraft_29 (fun H locs hP hD hS => ?_)
  have hP : va_P (dC, dI) vwCl ((h0, .inr (0, [.ref hA, .int (nI cn)])) :: (hA, .inl (cI, 816, .inl (fun x9 => nI ((va_up f (((cn * 3 + row) * 16) + i) ((f ((cn * 3 + row) * 16 + i) + x) % 998244353)) x9)))) :: wr) H := hP
  have hD : va_D A ((h0, .inr (0, [.ref hA, .int (nI cn)])) :: (hA, .inl (cI, 816, .inl (fun x9 => nI ((va_up f (((cn * 3 + row) * 16) + i) ((f ((cn * 3 + row) * 16 + i) + x) % 998244353)) x9)))) :: wr) := hD
  refine lv_aload_n F.1 F.2.1 dC_growDraft_30 rfl (lv_at hl 1 rfl) ?_
  refine z_get F hK hP hinC 0 rfl rfl 0 (by decide) rfl wf_C_9 rfl dC_growDraft_31 ?_
  refine lv_iload F.1 F.2.1 dC_growDraft_34 (lv_at hl 0 rfl) ?_
  refine z_iald F hK hP 1 0 rfl rfl (by omega) (by decide) dC_growDraft_36 ?_
  refine z_top ((f ((cn * 3 + row) * 16 + i) + x) % 998244353) (up_at _ _ _) ?_
  exact W.iret F.1 F.2.1 hr (fun t ht hW => ⟨rfl, by rw [ht]; exact hP, va_K.moved hW.alike hK, hD, hS.F ht⟩) hS.2.2 dC_growDraft_37
set_option maxHeartbeats 4000000 in
set_option maxRecDepth 100000 in
theorem c_rowSums (l : Launch) (dC : Nat → ClassId) (dI : Nat → Nat → Nat) (cI cL : ClassId) (wr : va_W) (zz : Nat) (h0 hA hV hO cn : Nat) (f v o : Nat → Nat) (row : Nat) (hf : ∀ j, f j < 998244353) (hv : ∀ j, v j < 998244353) (hw : row < 3) (hn : cn ≤ 16) : Met l yC_rowSums (zW yC_rowSums cC_rowSums 5 none) ({ frames := 2, cells := 0, slots := 0, locals := 48 }) (va_Pc [.ref h0, .int (nI row), .ref hV, .ref hO] (z_P (dC, dI) vwCl [(cI, .int), (cL, .long)] zz ((h0, .inr (0, [.ref hA, .int (nI cn)])) :: (hA, .inl (cI, 816, .inl (fun x9 => nI (f x9)))) :: (hV, .inl (cI, 16, .inl (fun x9 => nI (v x9)))) :: (hO, .inl (cI, 16, .inl (fun x9 => nI (o x9)))) :: wr))) (z_Q (dC, dI) vwCl [(cI, .int), (cL, .long)] none ((h0, .inr (0, [.ref hA, .int (nI cn)])) :: (hA, .inl (cI, 816, .inl (fun x9 => nI (f x9)))) :: (hV, .inl (cI, 16, .inl (fun x9 => nI (v x9)))) :: (hO, .inl (cI, 16, .inl (fun x9 => nI (((fun j => if j < cn then sg 16 (fun t => f ((j * 3 + row) * 16 + t) * v t) % 998244353 else 0)) x9)))) :: wr) (va_A ((h0, .inr (0, [.ref hA, .int (nI cn)])) :: (hA, .inl (cI, 816, .inl (fun x9 => nI (f x9)))) :: (hV, .inl (cI, 16, .inl (fun x9 => nI (v x9)))) :: (hO, .inl (cI, 16, .inl (fun x9 => nI (o x9)))) :: wr) zz)) 0 0 (va_A ((h0, .inr (0, [.ref hA, .int (nI cn)])) :: (hA, .inl (cI, 816, .inl (fun x9 => nI (f x9)))) :: (hV, .inl (cI, 16, .inl (fun x9 => nI (v x9)))) :: (hO, .inl (cI, 16, .inl (fun x9 => nI (o x9)))) :: wr) zz) := by
  refine Met.ofW (cc := cC_rowSums) (maxL := 5) (ret := none) (by decide) rfl ?_
  intro p e s m args below meth c s₁ B hml hv
  obtain ⟨rfl, hsz, hP, hK, hD0⟩ := hv
  have F : CallFix p m c cC_rowSums 5 s _ zT RC := ⟨B.exec, B.bytes, hml, findClass_of_methodNamed B.named, fun w h => atoms_spec (ws := (zW yC_rowSums cC_rowSums 5 none)) B.pre w (List.mem_cons_of_mem _ h)⟩
  have hr := B.returns
  have hlocks := B.notSynchronized
  subst hsz
  have hD := hD0.self (sz := s.heap.size)
  generalize hAe : va_A ((h0, .inr (0, [.ref hA, .int (nI cn)])) :: (hA, .inl (cI, 816, .inl (fun x9 => nI (f x9)))) :: (hV, .inl (cI, 16, .inl (fun x9 => nI (v x9)))) :: (hO, .inl (cI, 16, .inl (fun x9 => nI (o x9)))) :: wr) s.heap.size = A at hD ⊢
  have hAA : ∀ q : Nat, s.heap.size ≤ q → A q := fun q h => by rw [← hAe]; exact Or.inr h
  have hS : va_S A s.heap s.heap [] := va_S.rf
  have hl := lv_entry ([.ref h0, .int (nI row), .ref hV, .ref hO]) (n := 5) (Nat.le_of_ble_eq_true rfl)
  rw [lg_entry_eq]
  generalize (lg_sl ([.ref h0, .int (nI row), .ref hV, .ref hO]) ++ List.replicate (5 - (lg_sl ([.ref h0, .int (nI row), .ref hV, .ref hO])).length) Slot.unset).toArray = ls at hl ⊢
  have hl : lv_has ls 5 [(0, .ref h0), (1, .int (nI row)), (2, .ref hV), (3, .ref hO)] := hl
  refine z_iconst (v := 0) F (by decide) dC_rowSums_0 ?_
  refine lv_istore F.1 F.2.1 (lv' := [(4, .int (nI 0)), (0, .ref h0), (1, .int (nI row)), (2, .ref hV), (3, .ref hO)]) dC_rowSums_1 hl (by decide) rfl (fun ls hl => ?_)
  have hl : lv_has ls 5 [(4, .int (nI 0)), (0, .ref h0), (1, .int (nI row)), (2, .ref hV), (3, .ref hO)] := lv_sub hl [0, 1, 2, 3, 4] rfl
  refine z_up (E := 16) (P := fun j => ∀ (o : Nat → Nat) (ls : Array Slot) (H : Heap) (locs : List Loc), (∀ t, t < j → o t = (fun j => if j < cn then sg 16 (fun t => f ((j * 3 + row) * 16 + t) * v t) % 998244353 else 0) t) → va_P (dC, dI) vwCl ((h0, .inr (0, [.ref hA, .int (nI cn)])) :: (hA, .inl (cI, 816, .inl (fun x9 => nI (f x9)))) :: (hV, .inl (cI, 16, .inl (fun x9 => nI (v x9)))) :: (hO, .inl (cI, 16, .inl (fun x9 => nI (o x9)))) :: wr) H → va_D A ((h0, .inr (0, [.ref hA, .int (nI cn)])) :: (hA, .inl (cI, 816, .inl (fun x9 => nI (f x9)))) :: (hV, .inl (cI, 16, .inl (fun x9 => nI (v x9)))) :: (hO, .inl (cI, 16, .inl (fun x9 => nI (o x9)))) :: wr) → va_S A s.heap H locs → lv_has ls 5 [(4, .int (nI j)), (0, .ref h0), (1, .int (nI row)), (2, .ref hV), (3, .ref hO)] → W p l e _ s m _ below meth c H locs _ _ _ (F0 m 3 ls [])) ?_ 0 (Nat.zero_le _) o ls s.heap [] (fun t h => absurd h (Nat.not_lt_zero t)) hP hD hS hl
  intro j hj ih o ls H locs ho hP hD hS hl
  refine lv_iload F.1 F.2.1 dC_rowSums_3 (lv_at hl 0 rfl) ?_
  refine z_bipush (v := 16) F (by decide) dC_rowSums_5 ?_
  refine z_icmp_ge F (by omega) (by omega) (tgt := 41) dC_rowSums_7 rfl (fun h1 => ?_) (fun h1 => ?_)
  · have hP := z_fI (k := 3) (fun j => if j < cn then sg 16 (fun t => f ((j * 3 + row) * 16 + t) * v t) % 998244353 else 0) hP rfl (fun t ht => ho t (by omega))
    have hD := hD.set (p := 3) (e := .inl (cI, 16, .inl (fun x9 => nI ((fun j => if j < cn then sg 16 (fun t => f ((j * 3 + row) * 16 + t) * v t) % 998244353 else 0) x9)))) rfl
    exact W.vret F.1 F.2.1 hr (fun t ht hW => ⟨rfl, by rw [ht]; exact hP, va_K.moved hW.alike hK, hD, hS.F ht⟩) hS.2.2 dC_rowSums_41
  · refine lv_aload_n F.1 F.2.1 dC_rowSums_10 rfl (lv_at hl 4 rfl) ?_
    refine lv_iload F.1 F.2.1 dC_rowSums_11 (lv_at hl 0 rfl) ?_
    refine lv_iload F.1 F.2.1 dC_rowSums_13 (lv_at hl 0 rfl) ?_
    refine lv_aload_n F.1 F.2.1 dC_rowSums_15 rfl (lv_at hl 1 rfl) ?_
    refine z_get F hK hP hinC 0 rfl rfl 1 (by decide) rfl wf_C_15 rfl dC_rowSums_16 ?_
    refine z_icmp_ge F (by omega) (by omega) (tgt := 33) dC_rowSums_19 rfl (fun h2 => ?_) (fun h2 => ?_)
    · refine z_iconst (v := 0) F (by decide) dC_rowSums_33 ?_
      refine z_iast F hK hP hD hS 3 0 rfl rfl (by omega) (by decide) dC_rowSums_34 (fun H locs hP hD hS => ?_)
      have hP : va_P (dC, dI) vwCl ((h0, .inr (0, [.ref hA, .int (nI cn)])) :: (hA, .inl (cI, 816, .inl (fun x9 => nI (f x9)))) :: (hV, .inl (cI, 16, .inl (fun x9 => nI (v x9)))) :: (hO, .inl (cI, 16, .inl (fun x9 => nI ((va_up o j 0) x9)))) :: wr) H := hP
      have hD : va_D A ((h0, .inr (0, [.ref hA, .int (nI cn)])) :: (hA, .inl (cI, 816, .inl (fun x9 => nI (f x9)))) :: (hV, .inl (cI, 16, .inl (fun x9 => nI (v x9)))) :: (hO, .inl (cI, 16, .inl (fun x9 => nI ((va_up o j 0) x9)))) :: wr) := hD
      refine lv_iinc F.1 F.2.1 (k := 0) (v := nI (j + 1)) (lv' := [(4, .int (nI (j + 1))), (0, .ref h0), (1, .int (nI row)), (2, .ref hV), (3, .ref hO)]) dC_rowSums_35 hl rfl (nI_1 j) (by decide) rfl (fun ls hl => ?_)
      refine lv_goto F.1 F.2.1 (tgt := 3) dC_rowSums_38 rfl ?_
      have hl : lv_has ls 5 [(4, .int (nI ((j + 1)))), (0, .ref h0), (1, .int (nI row)), (2, .ref hV), (3, .ref hO)] := lv_sub hl [0, 1, 2, 3, 4] rfl
      exact ih (by omega) (va_up o j (0)) ls H locs (fun t ht => by by_cases e9 : t = j; (rw [e9, up_at]; exact (if_neg (by omega)).symm); (rw [up_ne _ _ e9]; exact ho t (by omega))) hP hD hS hl
    · refine lv_aload_n F.1 F.2.1 dC_rowSums_22 rfl (lv_at hl 1 rfl) ?_
      refine lv_iload F.1 F.2.1 dC_rowSums_23 (lv_at hl 0 rfl) ?_
      refine lv_iload_n F.1 F.2.1 dC_rowSums_25 rfl (lv_at hl 2 rfl) ?_
      refine lv_aload_n F.1 F.2.1 dC_rowSums_26 rfl (lv_at hl 3 rfl) ?_
      refine z_call (z_runV [.int (nI j), .int (nI row), .ref hV] [.int (nI j), .ref hO] F (c_rowSum l dC dI cI cL _ 0 1 2 h0 hA hV cn f v j row rfl rfl rfl hf hv (by omega) hw) kk_C_rowSum wl_C_28 rfl rfl ⟨Nat.le_of_ble_eq_true rfl, Nat.le_of_ble_eq_true rfl⟩ (z_preVR (q := (RC, TC, 2)) hP hK rfl (q0 := 0) rfl) rfl hl.1 rfl (Nat.le_of_ble_eq_true rfl) dC_rowSums_27 ⟨Nat.zero_le _, Nat.zero_le _⟩) ?_
      refine lv_goto F.1 F.2.1 (tgt := 34) dC_rowSums_30 rfl ?_
      refine z_iast F hK hP hD hS 3 0 rfl rfl (by omega) (by decide) dC_rowSums_34 (fun H locs hP hD hS => ?_)
      have hP : va_P (dC, dI) vwCl ((h0, .inr (0, [.ref hA, .int (nI cn)])) :: (hA, .inl (cI, 816, .inl (fun x9 => nI (f x9)))) :: (hV, .inl (cI, 16, .inl (fun x9 => nI (v x9)))) :: (hO, .inl (cI, 16, .inl (fun x9 => nI ((va_up o j (sg 16 (fun t => f ((j * 3 + row) * 16 + t) * v t) % 998244353)) x9)))) :: wr) H := hP
      have hD : va_D A ((h0, .inr (0, [.ref hA, .int (nI cn)])) :: (hA, .inl (cI, 816, .inl (fun x9 => nI (f x9)))) :: (hV, .inl (cI, 16, .inl (fun x9 => nI (v x9)))) :: (hO, .inl (cI, 16, .inl (fun x9 => nI ((va_up o j (sg 16 (fun t => f ((j * 3 + row) * 16 + t) * v t) % 998244353)) x9)))) :: wr) := hD
      refine lv_iinc F.1 F.2.1 (k := 0) (v := nI (j + 1)) (lv' := [(4, .int (nI (j + 1))), (0, .ref h0), (1, .int (nI row)), (2, .ref hV), (3, .ref hO)]) dC_rowSums_35 hl rfl (nI_1 j) (by decide) rfl (fun ls hl => ?_)
      refine lv_goto F.1 F.2.1 (tgt := 3) dC_rowSums_38 rfl ?_
      have hl : lv_has ls 5 [(4, .int (nI ((j + 1)))), (0, .ref h0), (1, .int (nI row)), (2, .ref hV), (3, .ref hO)] := lv_sub hl [0, 1, 2, 3, 4] rfl
      exact ih (by omega) (va_up o j (sg 16 (fun t => f ((j * 3 + row) * 16 + t) * v t) % 998244353)) ls H locs (fun t ht => by by_cases e9 : t = j; (rw [e9, up_at]; exact (if_pos (by omega)).symm); (rw [up_ne _ _ e9]; exact ho t (by omega))) hP hD hS hl
set_option maxHeartbeats 4000000 in
set_option maxRecDepth 100000 in
theorem c_column (l : Launch) (dC : Nat → ClassId) (dI : Nat → Nat → Nat) (cI cL : ClassId) (wr : va_W) (zz : Nat) (h0 hA hO cn : Nat) (f o : Nat → Nat) (row i : Nat) (hw : row < 3) (hi : i < 16) (hn : cn ≤ 16) : Met l yC_column (zW yC_column cC_column 5 none) ({ frames := 1, cells := 0, slots := 0, locals := 21 }) (va_Pc [.ref h0, .int (nI row), .int (nI i), .ref hO] (z_P (dC, dI) vwCl [(cI, .int), (cL, .long)] zz ((h0, .inr (0, [.ref hA, .int (nI cn)])) :: (hA, .inl (cI, 816, .inl (fun x9 => nI (f x9)))) :: (hO, .inl (cI, 16, .inl (fun x9 => nI (o x9)))) :: wr))) (z_Q (dC, dI) vwCl [(cI, .int), (cL, .long)] none ((h0, .inr (0, [.ref hA, .int (nI cn)])) :: (hA, .inl (cI, 816, .inl (fun x9 => nI (f x9)))) :: (hO, .inl (cI, 16, .inl (fun x9 => nI (((fun j => if j < cn then f ((j * 3 + row) * 16 + i) else 0)) x9)))) :: wr) (va_A ((h0, .inr (0, [.ref hA, .int (nI cn)])) :: (hA, .inl (cI, 816, .inl (fun x9 => nI (f x9)))) :: (hO, .inl (cI, 16, .inl (fun x9 => nI (o x9)))) :: wr) zz)) 0 0 (va_A ((h0, .inr (0, [.ref hA, .int (nI cn)])) :: (hA, .inl (cI, 816, .inl (fun x9 => nI (f x9)))) :: (hO, .inl (cI, 16, .inl (fun x9 => nI (o x9)))) :: wr) zz) := by
  refine Met.ofW (cc := cC_column) (maxL := 5) (ret := none) (by decide) rfl ?_
  intro p e s m args below meth c s₁ B hml hv
  obtain ⟨rfl, hsz, hP, hK, hD0⟩ := hv
  have F : CallFix p m c cC_column 5 s _ zT RC := ⟨B.exec, B.bytes, hml, findClass_of_methodNamed B.named, fun w h => atoms_spec (ws := (zW yC_column cC_column 5 none)) B.pre w (List.mem_cons_of_mem _ h)⟩
  have hr := B.returns
  have hlocks := B.notSynchronized
  subst hsz
  have hD := hD0.self (sz := s.heap.size)
  generalize hAe : va_A ((h0, .inr (0, [.ref hA, .int (nI cn)])) :: (hA, .inl (cI, 816, .inl (fun x9 => nI (f x9)))) :: (hO, .inl (cI, 16, .inl (fun x9 => nI (o x9)))) :: wr) s.heap.size = A at hD ⊢
  have hAA : ∀ q : Nat, s.heap.size ≤ q → A q := fun q h => by rw [← hAe]; exact Or.inr h
  have hS : va_S A s.heap s.heap [] := va_S.rf
  have hl := lv_entry ([.ref h0, .int (nI row), .int (nI i), .ref hO]) (n := 5) (Nat.le_of_ble_eq_true rfl)
  rw [lg_entry_eq]
  generalize (lg_sl ([.ref h0, .int (nI row), .int (nI i), .ref hO]) ++ List.replicate (5 - (lg_sl ([.ref h0, .int (nI row), .int (nI i), .ref hO])).length) Slot.unset).toArray = ls at hl ⊢
  have hl : lv_has ls 5 [(0, .ref h0), (1, .int (nI row)), (2, .int (nI i)), (3, .ref hO)] := hl
  refine z_iconst (v := 0) F (by decide) dC_column_0 ?_
  refine lv_istore F.1 F.2.1 (lv' := [(4, .int (nI 0)), (0, .ref h0), (1, .int (nI row)), (2, .int (nI i)), (3, .ref hO)]) dC_column_1 hl (by decide) rfl (fun ls hl => ?_)
  have hl : lv_has ls 5 [(4, .int (nI 0)), (0, .ref h0), (1, .int (nI row)), (2, .int (nI i)), (3, .ref hO)] := lv_sub hl [0, 1, 2, 3, 4] rfl
  refine z_up (E := 16) (P := fun j => ∀ (o : Nat → Nat) (ls : Array Slot) (H : Heap) (locs : List Loc), (∀ t, t < j → o t = (fun j => if j < cn then f ((j * 3 + row) * 16 + i) else 0) t) → va_P (dC, dI) vwCl ((h0, .inr (0, [.ref hA, .int (nI cn)])) :: (hA, .inl (cI, 816, .inl (fun x9 => nI (f x9)))) :: (hO, .inl (cI, 16, .inl (fun x9 => nI (o x9)))) :: wr) H → va_D A ((h0, .inr (0, [.ref hA, .int (nI cn)])) :: (hA, .inl (cI, 816, .inl (fun x9 => nI (f x9)))) :: (hO, .inl (cI, 16, .inl (fun x9 => nI (o x9)))) :: wr) → va_S A s.heap H locs → lv_has ls 5 [(4, .int (nI j)), (0, .ref h0), (1, .int (nI row)), (2, .int (nI i)), (3, .ref hO)] → W p l e _ s m _ below meth c H locs _ _ _ (F0 m 3 ls [])) ?_ 0 (Nat.zero_le _) o ls s.heap [] (fun t h => absurd h (Nat.not_lt_zero t)) hP hD hS hl
  intro j hj ih o ls H locs ho hP hD hS hl
  refine lv_iload F.1 F.2.1 dC_column_3 (lv_at hl 0 rfl) ?_
  refine z_bipush (v := 16) F (by decide) dC_column_5 ?_
  refine z_icmp_ge F (by omega) (by omega) (tgt := 46) dC_column_7 rfl (fun h1 => ?_) (fun h1 => ?_)
  · have hP := z_fI (k := 2) (fun j => if j < cn then f ((j * 3 + row) * 16 + i) else 0) hP rfl (fun t ht => ho t (by omega))
    have hD := hD.set (p := 2) (e := .inl (cI, 16, .inl (fun x9 => nI ((fun j => if j < cn then f ((j * 3 + row) * 16 + i) else 0) x9)))) rfl
    exact W.vret F.1 F.2.1 hr (fun t ht hW => ⟨rfl, by rw [ht]; exact hP, va_K.moved hW.alike hK, hD, hS.F ht⟩) hS.2.2 dC_column_46
  · refine lv_aload_n F.1 F.2.1 dC_column_10 rfl (lv_at hl 4 rfl) ?_
    refine lv_iload F.1 F.2.1 dC_column_11 (lv_at hl 0 rfl) ?_
    refine lv_iload F.1 F.2.1 dC_column_13 (lv_at hl 0 rfl) ?_
    refine lv_aload_n F.1 F.2.1 dC_column_15 rfl (lv_at hl 1 rfl) ?_
    refine z_get F hK hP hinC 0 rfl rfl 1 (by decide) rfl wf_C_15 rfl dC_column_16 ?_
    refine z_icmp_ge F (by omega) (by omega) (tgt := 38) dC_column_19 rfl (fun h2 => ?_) (fun h2 => ?_)
    · refine z_iconst (v := 0) F (by decide) dC_column_38 ?_
      refine z_iast F hK hP hD hS 2 0 rfl rfl (by omega) (by decide) dC_column_39 (fun H locs hP hD hS => ?_)
      have hP : va_P (dC, dI) vwCl ((h0, .inr (0, [.ref hA, .int (nI cn)])) :: (hA, .inl (cI, 816, .inl (fun x9 => nI (f x9)))) :: (hO, .inl (cI, 16, .inl (fun x9 => nI ((va_up o j 0) x9)))) :: wr) H := hP
      have hD : va_D A ((h0, .inr (0, [.ref hA, .int (nI cn)])) :: (hA, .inl (cI, 816, .inl (fun x9 => nI (f x9)))) :: (hO, .inl (cI, 16, .inl (fun x9 => nI ((va_up o j 0) x9)))) :: wr) := hD
      refine lv_iinc F.1 F.2.1 (k := 0) (v := nI (j + 1)) (lv' := [(4, .int (nI (j + 1))), (0, .ref h0), (1, .int (nI row)), (2, .int (nI i)), (3, .ref hO)]) dC_column_40 hl rfl (nI_1 j) (by decide) rfl (fun ls hl => ?_)
      refine lv_goto F.1 F.2.1 (tgt := 3) dC_column_43 rfl ?_
      have hl : lv_has ls 5 [(4, .int (nI ((j + 1)))), (0, .ref h0), (1, .int (nI row)), (2, .int (nI i)), (3, .ref hO)] := lv_sub hl [0, 1, 2, 3, 4] rfl
      exact ih (by omega) (va_up o j (0)) ls H locs (fun t ht => by by_cases e9 : t = j; (rw [e9, up_at]; exact (if_neg (by omega)).symm); (rw [up_ne _ _ e9]; exact ho t (by omega))) hP hD hS hl
    · refine lv_aload_n F.1 F.2.1 dC_column_22 rfl (lv_at hl 1 rfl) ?_
      refine z_get F hK hP hinC 0 rfl rfl 0 (by decide) rfl wf_C_9 rfl dC_column_23 ?_
      refine lv_iload F.1 F.2.1 dC_column_26 (lv_at hl 0 rfl) ?_
      refine lv_iload_n F.1 F.2.1 dC_column_28 rfl (lv_at hl 2 rfl) ?_
      refine z_call (z_runS [.int (nI j), .int (nI row)] [.ref hA, .int (nI j), .ref hO] F (c_start l j row) kk_C_start wl_C_19 rfl rfl ⟨Nat.le_of_ble_eq_true rfl, Nat.le_of_ble_eq_true rfl⟩ z_preN rfl hl.1 rfl (Nat.le_of_ble_eq_true rfl) dC_column_29 ⟨Nat.zero_le _, Nat.zero_le _⟩) ?_
      refine lv_iload_n F.1 F.2.1 dC_column_32 rfl (lv_at hl 3 rfl) ?_
      refine z_iadd F dC_column_33 ?_
      refine z_iald F hK hP 1 0 rfl rfl (by omega) (by decide) dC_column_34 ?_
      refine lv_goto F.1 F.2.1 (tgt := 39) dC_column_35 rfl ?_
      refine z_iast F hK hP hD hS 2 0 rfl rfl (by omega) (by decide) dC_column_39 (fun H locs hP hD hS => ?_)
      have hP : va_P (dC, dI) vwCl ((h0, .inr (0, [.ref hA, .int (nI cn)])) :: (hA, .inl (cI, 816, .inl (fun x9 => nI (f x9)))) :: (hO, .inl (cI, 16, .inl (fun x9 => nI ((va_up o j (f (((j * 3 + row) * 16) + i))) x9)))) :: wr) H := hP
      have hD : va_D A ((h0, .inr (0, [.ref hA, .int (nI cn)])) :: (hA, .inl (cI, 816, .inl (fun x9 => nI (f x9)))) :: (hO, .inl (cI, 16, .inl (fun x9 => nI ((va_up o j (f (((j * 3 + row) * 16) + i))) x9)))) :: wr) := hD
      refine lv_iinc F.1 F.2.1 (k := 0) (v := nI (j + 1)) (lv' := [(4, .int (nI (j + 1))), (0, .ref h0), (1, .int (nI row)), (2, .int (nI i)), (3, .ref hO)]) dC_column_40 hl rfl (nI_1 j) (by decide) rfl (fun ls hl => ?_)
      refine lv_goto F.1 F.2.1 (tgt := 3) dC_column_43 rfl ?_
      have hl : lv_has ls 5 [(4, .int (nI ((j + 1)))), (0, .ref h0), (1, .int (nI row)), (2, .int (nI i)), (3, .ref hO)] := lv_sub hl [0, 1, 2, 3, 4] rfl
      exact ih (by omega) (va_up o j (f ((j * 3 + row) * 16 + i))) ls H locs (fun t ht => by by_cases e9 : t = j; (rw [e9, up_at]; exact (if_pos (by omega)).symm); (rw [up_ne _ _ e9]; exact ho t (by omega))) hP hD hS hl
end
section
set_option maxHeartbeats 4000000 in
set_option maxRecDepth 100000 in
theorem c_interpolate (l : Launch) (dC : Nat → ClassId) (dI : Nat → Nat → Nat) (cI cL : ClassId) (wr : va_W) (zz : Nat) (h0 hB hV hO sz ov : Nat) (b d o : Nat → Nat) (hd : ∀ j, d j < 998244353) (hb : ∀ j, b j < 998244353) (ho : ov < 998244353) (kk : Nat) (h4 : kk ≤ 4) (hz : sz = 2 ^ kk) : Met l yD_interpolate (zW yD_interpolate cD_interpolate 4 none) ({ frames := 2, cells := 0, slots := 0, locals := 46 }) (va_Pc [.ref h0, .ref hV, .ref hO] (z_P (dC, dI) vwCl [(cI, .int), (cL, .long)] zz ((h0, .inr (1, [.ref hB, .int (nI sz), .int (nI ov)])) :: (hB, .inl (cI, 16, .inl (fun x9 => nI (b x9)))) :: (hV, .inl (cI, 16, .inl (fun x9 => nI (d x9)))) :: (hO, .inl (cI, 16, .inl (fun x9 => nI (o x9)))) :: wr))) (z_Q (dC, dI) vwCl [(cI, .int), (cL, .long)] none ((h0, .inr (1, [.ref hB, .int (nI sz), .int (nI ov)])) :: (hB, .inl (cI, 16, .inl (fun x9 => nI (b x9)))) :: (hV, .inl (cI, 16, .inl (fun x9 => nI (d x9)))) :: (hO, .inl (cI, 16, .inl (fun x9 => nI (((fun k => if k < sz then (sg sz (fun u => d u * b (u * k % sz)) % 998244353 * ov % 998244353) else o k)) x9)))) :: wr) (va_A ((h0, .inr (1, [.ref hB, .int (nI sz), .int (nI ov)])) :: (hB, .inl (cI, 16, .inl (fun x9 => nI (b x9)))) :: (hV, .inl (cI, 16, .inl (fun x9 => nI (d x9)))) :: (hO, .inl (cI, 16, .inl (fun x9 => nI (o x9)))) :: wr) zz)) 0 0 (va_A ((h0, .inr (1, [.ref hB, .int (nI sz), .int (nI ov)])) :: (hB, .inl (cI, 16, .inl (fun x9 => nI (b x9)))) :: (hV, .inl (cI, 16, .inl (fun x9 => nI (d x9)))) :: (hO, .inl (cI, 16, .inl (fun x9 => nI (o x9)))) :: wr) zz) := by
  refine Met.ofW (cc := cD_interpolate) (maxL := 4) (ret := none) (by decide) rfl ?_
  intro p e s m args below meth c s₁ B hml hv
  obtain ⟨rfl, hsz, hP, hK, hD0⟩ := hv
  have F : CallFix p m c cD_interpolate 4 s _ zT RD := ⟨B.exec, B.bytes, hml, findClass_of_methodNamed B.named, fun w h => atoms_spec (ws := (zW yD_interpolate cD_interpolate 4 none)) B.pre w (List.mem_cons_of_mem _ h)⟩
  have hr := B.returns
  have hlocks := B.notSynchronized
  subst hsz
  have hD := hD0.self (sz := s.heap.size)
  generalize hAe : va_A ((h0, .inr (1, [.ref hB, .int (nI sz), .int (nI ov)])) :: (hB, .inl (cI, 16, .inl (fun x9 => nI (b x9)))) :: (hV, .inl (cI, 16, .inl (fun x9 => nI (d x9)))) :: (hO, .inl (cI, 16, .inl (fun x9 => nI (o x9)))) :: wr) s.heap.size = A at hD ⊢
  have hAA : ∀ q : Nat, s.heap.size ≤ q → A q := fun q h => by rw [← hAe]; exact Or.inr h
  have hS : va_S A s.heap s.heap [] := va_S.rf
  have hl := lv_entry ([.ref h0, .ref hV, .ref hO]) (n := 4) (Nat.le_of_ble_eq_true rfl)
  rw [lg_entry_eq]
  generalize (lg_sl ([.ref h0, .ref hV, .ref hO]) ++ List.replicate (4 - (lg_sl ([.ref h0, .ref hV, .ref hO])).length) Slot.unset).toArray = ls at hl ⊢
  have hl : lv_has ls 4 [(0, .ref h0), (1, .ref hV), (2, .ref hO)] := hl
  have hs : sz ≤ 16 := by rw [hz]; exact Nat.pow_le_pow_right (by decide) h4
  refine z_iconst (v := 0) F (by decide) dD_interpolate_0 ?_
  refine lv_istore_n F.1 F.2.1 (lv' := [(3, .int (nI 0)), (0, .ref h0), (1, .ref hV), (2, .ref hO)]) dD_interpolate_1 rfl hl (by decide) rfl (fun ls hl => ?_)
  have hl : lv_has ls 4 [(3, .int (nI 0)), (0, .ref h0), (1, .ref hV), (2, .ref hO)] := lv_sub hl [0, 1, 2, 3] rfl
  refine z_up (E := sz) (P := fun j => ∀ (o2 : Nat → Nat) (ls : Array Slot) (H : Heap) (locs : List Loc), (∀ t, t < j → o2 t = (sg sz (fun u => d u * b (u * t % sz)) % 998244353 * ov % 998244353)) → (∀ t, j ≤ t → o2 t = o t) → va_P (dC, dI) vwCl ((h0, .inr (1, [.ref hB, .int (nI sz), .int (nI ov)])) :: (hB, .inl (cI, 16, .inl (fun x9 => nI (b x9)))) :: (hV, .inl (cI, 16, .inl (fun x9 => nI (d x9)))) :: (hO, .inl (cI, 16, .inl (fun x9 => nI (o2 x9)))) :: wr) H → va_D A ((h0, .inr (1, [.ref hB, .int (nI sz), .int (nI ov)])) :: (hB, .inl (cI, 16, .inl (fun x9 => nI (b x9)))) :: (hV, .inl (cI, 16, .inl (fun x9 => nI (d x9)))) :: (hO, .inl (cI, 16, .inl (fun x9 => nI (o2 x9)))) :: wr) → va_S A s.heap H locs → lv_has ls 4 [(3, .int (nI j)), (0, .ref h0), (1, .ref hV), (2, .ref hO)] → W p l e _ s m _ below meth c H locs _ _ _ (F0 m 2 ls [])) ?_ 0 (Nat.zero_le _) o ls s.heap [] (fun t h => absurd h (Nat.not_lt_zero t)) (fun _ _ => rfl) hP hD hS hl
  intro j hj ih o2 ls H locs h2 h3 hP hD hS hl
  refine lv_iload_n F.1 F.2.1 dD_interpolate_2 rfl (lv_at hl 0 rfl) ?_
  refine lv_aload_n F.1 F.2.1 dD_interpolate_3 rfl (lv_at hl 1 rfl) ?_
  refine z_get F hK hP hinD 0 rfl rfl 1 (by decide) rfl wf_D_19 rfl dD_interpolate_4 ?_
  refine z_icmp_ge F (by omega) (by omega) (tgt := 25) dD_interpolate_7 rfl (fun h1 => ?_) (fun h1 => ?_)
  · have hP := z_fI (k := 3) (fun k => if k < sz then (sg sz (fun u => d u * b (u * k % sz)) % 998244353 * ov % 998244353) else o k) hP rfl (fun t ht => by by_cases e9 : t < sz; (rw [h2 t (by omega)]; exact (if_pos e9).symm); (rw [h3 t (by omega)]; exact (if_neg e9).symm))
    have hD := hD.set (p := 3) (e := .inl (cI, 16, .inl (fun x9 => nI ((fun k => if k < sz then (sg sz (fun u => d u * b (u * k % sz)) % 998244353 * ov % 998244353) else o k) x9)))) rfl
    exact W.vret F.1 F.2.1 hr (fun t ht hW => ⟨rfl, by rw [ht]; exact hP, va_K.moved hW.alike hK, hD, hS.F ht⟩) hS.2.2 dD_interpolate_25
  · refine lv_aload_n F.1 F.2.1 dD_interpolate_10 rfl (lv_at hl 3 rfl) ?_
    refine lv_iload_n F.1 F.2.1 dD_interpolate_11 rfl (lv_at hl 0 rfl) ?_
    refine lv_aload_n F.1 F.2.1 dD_interpolate_12 rfl (lv_at hl 1 rfl) ?_
    refine lv_aload_n F.1 F.2.1 dD_interpolate_13 rfl (lv_at hl 2 rfl) ?_
    refine lv_iload_n F.1 F.2.1 dD_interpolate_14 rfl (lv_at hl 0 rfl) ?_
    refine z_call (z_runV [.ref hV, .int (nI j)] [.int (nI j), .ref hO] F (c_coefficient l dC dI cI cL _ 0 1 2 h0 hB hV sz ov b d j rfl rfl rfl hd hb ho (by omega) kk h4 hz) kk_D_coefficient wl_D_45 rfl rfl ⟨Nat.le_of_ble_eq_true rfl, Nat.le_of_ble_eq_true rfl⟩ (z_preVR (q := (RD, TD, 3)) hP hK rfl (q0 := 0) rfl) rfl hl.1 rfl (Nat.le_of_ble_eq_true rfl) dD_interpolate_15 ⟨Nat.zero_le _, Nat.zero_le _⟩) ?_
    refine z_iast F hK hP hD hS 3 0 rfl rfl (by omega) (by decide) dD_interpolate_18 (fun H locs hP hD hS => ?_)
    have hP : va_P (dC, dI) vwCl ((h0, .inr (1, [.ref hB, .int (nI sz), .int (nI ov)])) :: (hB, .inl (cI, 16, .inl (fun x9 => nI (b x9)))) :: (hV, .inl (cI, 16, .inl (fun x9 => nI (d x9)))) :: (hO, .inl (cI, 16, .inl (fun x9 => nI ((va_up o2 j (sg sz (fun u => d u * b (u * j % sz)) % 998244353 * ov % 998244353)) x9)))) :: wr) H := hP
    have hD : va_D A ((h0, .inr (1, [.ref hB, .int (nI sz), .int (nI ov)])) :: (hB, .inl (cI, 16, .inl (fun x9 => nI (b x9)))) :: (hV, .inl (cI, 16, .inl (fun x9 => nI (d x9)))) :: (hO, .inl (cI, 16, .inl (fun x9 => nI ((va_up o2 j (sg sz (fun u => d u * b (u * j % sz)) % 998244353 * ov % 998244353)) x9)))) :: wr) := hD
    refine lv_iinc F.1 F.2.1 (k := 0) (v := nI (j + 1)) (lv' := [(3, .int (nI (j + 1))), (0, .ref h0), (1, .ref hV), (2, .ref hO)]) dD_interpolate_19 hl rfl (nI_1 j) (by decide) rfl (fun ls hl => ?_)
    refine lv_goto F.1 F.2.1 (tgt := 2) dD_interpolate_22 rfl ?_
    have hl : lv_has ls 4 [(3, .int (nI ((j + 1)))), (0, .ref h0), (1, .ref hV), (2, .ref hO)] := lv_sub hl [0, 1, 2, 3] rfl
    exact ih (by omega) (va_up o2 j (sg sz (fun u => d u * b (u * j % sz)) % 998244353 * ov % 998244353)) ls H locs (fun t ht => by by_cases e9 : t = j; (rw [e9, up_at]); (rw [up_ne _ _ e9]; exact h2 t (by omega))) (fun t ht => by rw [up_ne _ _ (by omega)]; exact h3 t (by omega)) hP hD hS hl
set_option maxHeartbeats 4000000 in
set_option maxRecDepth 100000 in
theorem c_fit (l : Launch) (dC : Nat → ClassId) (dI : Nat → Nat → Nat) (cI cL : ClassId) (wr : va_W) (zz : Nat) (h0 hB sz0 ov0 mm : Nat) (b : Nat → Nat) (hm : mm ≤ 16) : Met l yD_fit (zW yD_fit cD_fit 5 none) ({ frames := 3, cells := 0, slots := 0, locals := 66 }) (va_Pc [.ref h0, .int (nI mm)] (z_P (dC, dI) vwCl [(cI, .int), (cL, .long)] zz ((h0, .inr (1, [.ref hB, .int (nI sz0), .int (nI ov0)])) :: (hB, .inl (cI, 16, .inl (fun x9 => nI (b x9)))) :: wr))) (z_Q (dC, dI) vwCl [(cI, .int), (cL, .long)] none ((h0, .inr (1, [.ref hB, .int (nI (szN mm)), .int (nI (iv (szN mm)))])) :: (hB, .inl (cI, 16, .inl (fun x9 => nI (((fun j => if j < szN mm then bk (szN mm) ^ j % 998244353 else b j)) x9)))) :: wr) (va_A ((h0, .inr (1, [.ref hB, .int (nI sz0), .int (nI ov0)])) :: (hB, .inl (cI, 16, .inl (fun x9 => nI (b x9)))) :: wr) zz)) 0 0 (va_A ((h0, .inr (1, [.ref hB, .int (nI sz0), .int (nI ov0)])) :: (hB, .inl (cI, 16, .inl (fun x9 => nI (b x9)))) :: wr) zz) := by
  refine Met.ofW (cc := cD_fit) (maxL := 5) (ret := none) (by decide) rfl ?_
  intro p e s m args below meth c s₁ B hml hv
  obtain ⟨rfl, hsz, hP, hK, hD0⟩ := hv
  have F : CallFix p m c cD_fit 5 s _ zT RD := ⟨B.exec, B.bytes, hml, findClass_of_methodNamed B.named, fun w h => atoms_spec (ws := (zW yD_fit cD_fit 5 none)) B.pre w (List.mem_cons_of_mem _ h)⟩
  have hr := B.returns
  have hlocks := B.notSynchronized
  subst hsz
  have hD := hD0.self (sz := s.heap.size)
  generalize hAe : va_A ((h0, .inr (1, [.ref hB, .int (nI sz0), .int (nI ov0)])) :: (hB, .inl (cI, 16, .inl (fun x9 => nI (b x9)))) :: wr) s.heap.size = A at hD ⊢
  have hAA : ∀ q : Nat, s.heap.size ≤ q → A q := fun q h => by rw [← hAe]; exact Or.inr h
  have hS : va_S A s.heap s.heap [] := va_S.rf
  have hl := lv_entry ([.ref h0, .int (nI mm)]) (n := 5) (Nat.le_of_ble_eq_true rfl)
  rw [lg_entry_eq]
  generalize (lg_sl ([.ref h0, .int (nI mm)]) ++ List.replicate (5 - (lg_sl ([.ref h0, .int (nI mm)])).length) Slot.unset).toArray = ls at hl ⊢
  have hl : lv_has ls 5 [(0, .ref h0), (1, .int (nI mm))] := hl
  refine lv_aload_n F.1 F.2.1 dD_fit_0 rfl (lv_at hl 0 rfl) ?_
  refine z_iconst (v := 2) F (by decide) dD_fit_1 ?_
  refine z_put F hK hP hD hS hinD tyD tyD_ok nmD 0 rfl rfl 1 (by decide) rfl rfl wf_D_19 (rfl) (rfl) (Nat.le_of_ble_eq_true rfl) dD_fit_2 (fun H locs hP hD hS => ?_)
  have hP : va_P (dC, dI) vwCl ((h0, .inr (1, [.ref hB, .int (nI 2), .int (nI ov0)])) :: (hB, .inl (cI, 16, .inl (fun x9 => nI (b x9)))) :: wr) H := hP
  have hD : va_D A ((h0, .inr (1, [.ref hB, .int (nI 2), .int (nI ov0)])) :: (hB, .inl (cI, 16, .inl (fun x9 => nI (b x9)))) :: wr) := hD
  refine z_ldc F 499122176 (v0 := 499122176) wk_D_23 rfl dD_fit_5 ?_
  refine lv_istore_n F.1 F.2.1 (lv' := [(2, .int (nI 499122176)), (0, .ref h0), (1, .int (nI mm))]) dD_fit_7 rfl hl (by decide) rfl (fun ls hl => ?_)
  have hl : lv_has ls 5 [(2, .int (nI 499122176)), (0, .ref h0), (1, .int (nI mm))] := lv_sub hl [0, 1, 2] rfl
  refine z_fall (P := fun w => ∀ (z ex : Nat) (ls : Array Slot) (H : Heap) (locs : List Loc), (w = 16 - z) → ((z = 2 ∧ ex = 499122176) ∨ (z = 4 ∧ ex = 249561088 ∧ 2 < mm) ∨ (z = 8 ∧ ex = 124780544 ∧ 4 < mm) ∨ (z = 16 ∧ ex = 62390272 ∧ 8 < mm)) → va_P (dC, dI) vwCl ((h0, .inr (1, [.ref hB, .int (nI z), .int (nI ov0)])) :: (hB, .inl (cI, 16, .inl (fun x9 => nI (b x9)))) :: wr) H → va_D A ((h0, .inr (1, [.ref hB, .int (nI z), .int (nI ov0)])) :: (hB, .inl (cI, 16, .inl (fun x9 => nI (b x9)))) :: wr) → va_S A s.heap H locs → lv_has ls 5 [(2, .int (nI ex)), (0, .ref h0), (1, .int (nI mm))] → W p l e _ s m _ below meth c H locs _ _ _ (F0 m 8 ls [])) ?_ 14 2 499122176 ls H locs (rfl) (Or.inl ⟨rfl, rfl⟩) hP hD hS hl
  intro w ih z ex ls H locs hw hs hP hD hS hl
  refine lv_aload_n F.1 F.2.1 dD_fit_8 rfl (lv_at hl 1 rfl) ?_
  refine z_get F hK hP hinD 0 rfl rfl 1 (by decide) rfl wf_D_19 rfl dD_fit_9 ?_
  refine lv_iload_n F.1 F.2.1 dD_fit_12 rfl (lv_at hl 2 rfl) ?_
  refine z_icmp_ge F (by omega) (by omega) (tgt := 42) dD_fit_13 rfl (fun h1 => ?_) (fun h1 => ?_)
  · have hz : szN mm = z := by unfold szN; (repeat' split) <;> omega
    have hx : 998244352 / szN mm = ex := by rw [hz]; rcases hs with ⟨rfl, rfl⟩ | ⟨rfl, rfl, -⟩ | ⟨rfl, rfl, -⟩ | ⟨rfl, rfl, -⟩ <;> rfl
    have hb : 1 * iv (pw 3 ex) % 998244353 = bk (szN mm) := by unfold bk; rw [hx, Nat.one_mul, Nat.mod_eq_of_lt (iv_lt _)]
    refine lv_aload_n F.1 F.2.1 dD_fit_42 rfl (lv_at hl 1 rfl) ?_
    refine z_iconst (v := 1) F (by decide) dD_fit_43 ?_
    refine lv_aload_n F.1 F.2.1 dD_fit_44 rfl (lv_at hl 1 rfl) ?_
    refine z_get F hK hP hinD 0 rfl rfl 1 (by decide) rfl wf_D_19 rfl dD_fit_45 ?_
    refine z_call (z_runS [.int (nI 1), .int (nI z)] [.ref h0] F (c_ratio l 1 z (by decide) (by omega)) kk_F_ratio wl_D_24 rfl rfl ⟨Nat.le_of_ble_eq_true rfl, Nat.le_of_ble_eq_true rfl⟩ z_preN rfl hl.1 rfl (Nat.le_of_ble_eq_true rfl) dD_fit_48 ⟨Nat.zero_le _, Nat.zero_le _⟩) ?_
    refine z_top (iv (szN mm)) (by rw [hz, Nat.one_mul, Nat.mod_eq_of_lt (iv_lt _)]) ?_
    refine z_put F hK hP hD hS hinD tyD tyD_ok nmD 0 rfl rfl 2 (by decide) rfl rfl wf_D_30 (rfl) (rfl) (Nat.le_of_ble_eq_true rfl) dD_fit_51 (fun H locs hP hD hS => ?_)
    have hP : va_P (dC, dI) vwCl ((h0, .inr (1, [.ref hB, .int (nI z), .int (nI (iv (szN mm)))])) :: (hB, .inl (cI, 16, .inl (fun x9 => nI (b x9)))) :: wr) H := hP
    have hD : va_D A ((h0, .inr (1, [.ref hB, .int (nI z), .int (nI (iv (szN mm)))])) :: (hB, .inl (cI, 16, .inl (fun x9 => nI (b x9)))) :: wr) := hD
    refine z_iconst (v := 1) F (by decide) dD_fit_54 ?_
    refine z_iconst (v := 3) F (by decide) dD_fit_55 ?_
    refine lv_iload_n F.1 F.2.1 dD_fit_56 rfl (lv_at hl 0 rfl) ?_
    refine z_call (z_runS [.int (nI 3), .int (nI ex)] [.int (nI 1)] F (c_power l 3 ex (by decide) (by omega)) kk_F_power wl_D_33 rfl rfl ⟨Nat.le_of_ble_eq_true rfl, Nat.le_of_ble_eq_true rfl⟩ z_preN rfl hl.1 rfl (Nat.le_of_ble_eq_true rfl) dD_fit_57 ⟨Nat.zero_le _, Nat.zero_le _⟩) ?_
    refine z_call (z_runS [.int (nI 1), .int (nI (pw 3 ex))] [] F (c_ratio l 1 (pw 3 ex) (by decide) (Nat.lt_trans (pw_lt _ _) (by decide))) kk_F_ratio wl_D_24 rfl rfl ⟨Nat.le_of_ble_eq_true rfl, Nat.le_of_ble_eq_true rfl⟩ z_preN rfl hl.1 rfl (Nat.le_of_ble_eq_true rfl) dD_fit_60 ⟨Nat.zero_le _, Nat.zero_le _⟩) ?_
    refine z_top (bk (szN mm)) (hb) ?_
    refine lv_istore_n F.1 F.2.1 (lv' := [(3, .int (nI (bk (szN mm)))), (2, .int (nI ex)), (0, .ref h0), (1, .int (nI mm))]) dD_fit_63 rfl hl (by decide) rfl (fun ls hl => ?_)
    refine lv_aload_n F.1 F.2.1 dD_fit_64 rfl (lv_at hl 2 rfl) ?_
    refine z_get F hK hP hinD 0 rfl rfl 0 (by decide) rfl wf_D_9 rfl dD_fit_65 ?_
    refine z_iconst (v := 0) F (by decide) dD_fit_68 ?_
    refine z_iconst (v := 1) F (by decide) dD_fit_69 ?_
    refine z_iast F hK hP hD hS 1 0 rfl rfl (by omega) (by decide) dD_fit_70 (fun H locs hP hD hS => ?_)
    have hP : va_P (dC, dI) vwCl ((h0, .inr (1, [.ref hB, .int (nI z), .int (nI (iv (szN mm)))])) :: (hB, .inl (cI, 16, .inl (fun x9 => nI ((va_up b 0 1) x9)))) :: wr) H := hP
    have hD : va_D A ((h0, .inr (1, [.ref hB, .int (nI z), .int (nI (iv (szN mm)))])) :: (hB, .inl (cI, 16, .inl (fun x9 => nI ((va_up b 0 1) x9)))) :: wr) := hD
    refine z_iconst (v := 1) F (by decide) dD_fit_71 ?_
    refine lv_istore F.1 F.2.1 (lv' := [(4, .int (nI 1)), (3, .int (nI (bk (szN mm)))), (2, .int (nI ex)), (0, .ref h0), (1, .int (nI mm))]) dD_fit_72 hl (by decide) rfl (fun ls hl => ?_)
    have hl : lv_has ls 5 [(4, .int (nI (1 + 0))), (3, .int (nI (bk (szN mm)))), (0, .ref h0), (1, .int (nI mm)), (2, .int (nI ex))] := lv_sub hl [0, 1, 3, 4, 2] rfl
    refine z_up (E := szN mm - 1) (P := fun j => ∀ (o : Nat → Nat) (ls : Array Slot) (H : Heap) (locs : List Loc), (∀ t, t < 1 + j → o t = bk (szN mm) ^ t % 998244353) → (∀ t, 1 + j ≤ t → o t = b t) → va_P (dC, dI) vwCl ((h0, .inr (1, [.ref hB, .int (nI z), .int (nI (iv (szN mm)))])) :: (hB, .inl (cI, 16, .inl (fun x9 => nI (o x9)))) :: wr) H → va_D A ((h0, .inr (1, [.ref hB, .int (nI z), .int (nI (iv (szN mm)))])) :: (hB, .inl (cI, 16, .inl (fun x9 => nI (o x9)))) :: wr) → va_S A s.heap H locs → lv_has ls 5 [(4, .int (nI (1 + j))), (3, .int (nI (bk (szN mm)))), (0, .ref h0), (1, .int (nI mm)), (2, .int (nI ex))] → W p l e _ s m _ below meth c H locs _ _ _ (F0 m 74 ls [])) ?_ 0 (Nat.zero_le _) (va_up b 0 1) ls H locs (fun t h => by rw [show t = 0 by omega, up_at, Nat.pow_zero]) (fun t h => by rw [up_ne _ _ (by omega)]) hP hD hS hl
    intro j hj ih2 o ls H locs h2 h3 hP hD hS hl
    have hlo := szN_lo mm
    have hhi := szN_hi mm
    refine lv_iload F.1 F.2.1 dD_fit_74 (lv_at hl 0 rfl) ?_
    refine lv_aload_n F.1 F.2.1 dD_fit_76 rfl (lv_at hl 2 rfl) ?_
    refine z_get F hK hP hinD 0 rfl rfl 1 (by decide) rfl wf_D_19 rfl dD_fit_77 ?_
    refine z_icmp_ge F (by omega) (by omega) (tgt := 109) dD_fit_80 rfl (fun h5 => ?_) (fun h5 => ?_)
    · have hP := z_fI (k := 1) (fun j => if j < szN mm then bk (szN mm) ^ j % 998244353 else b j) hP rfl (fun t ht => by by_cases e9 : t < szN mm; (rw [h2 t (by omega)]; exact (if_pos e9).symm); (rw [h3 t (by omega)]; exact (if_neg e9).symm))
      have hD := hD.set (p := 1) (e := .inl (cI, 16, .inl (fun x9 => nI ((fun j => if j < szN mm then bk (szN mm) ^ j % 998244353 else b j) x9)))) rfl
      rw [← hz] at hP hD
      exact W.vret F.1 F.2.1 hr (fun t ht hW => ⟨rfl, by rw [ht]; exact hP, va_K.moved hW.alike hK, hD, hS.F ht⟩) hS.2.2 dD_fit_109
    · refine lv_aload_n F.1 F.2.1 dD_fit_83 rfl (lv_at hl 2 rfl) ?_
      refine z_get F hK hP hinD 0 rfl rfl 0 (by decide) rfl wf_D_9 rfl dD_fit_84 ?_
      refine lv_iload F.1 F.2.1 dD_fit_87 (lv_at hl 0 rfl) ?_
      refine lv_aload_n F.1 F.2.1 dD_fit_89 rfl (lv_at hl 2 rfl) ?_
      refine z_get F hK hP hinD 0 rfl rfl 0 (by decide) rfl wf_D_9 rfl dD_fit_90 ?_
      refine lv_iload F.1 F.2.1 dD_fit_93 (lv_at hl 0 rfl) ?_
      refine z_iconst (v := 1) F (by decide) dD_fit_95 ?_
      refine z_isub F (by omega) dD_fit_96 ?_
      refine z_iald F hK hP 1 0 rfl rfl (by omega) (by decide) dD_fit_97 ?_
      refine z_top (bk (szN mm) ^ j % 998244353) (by rw [show 1 + j - 1 = j by omega]; exact h2 j (by omega)) ?_
      refine lv_iload_n F.1 F.2.1 dD_fit_98 rfl (lv_at hl 1 rfl) ?_
      refine z_call (z_runS [.int (nI (bk (szN mm) ^ j % 998244353)), .int (nI (bk (szN mm)))] [.int (nI (1 + j)), .ref hB] F (c_product l (bk (szN mm) ^ j % 998244353) (bk (szN mm)) (Nat.lt_trans (ltP _) (by decide)) (Nat.lt_trans (bk_lt _) (by decide))) kk_F_product wl_D_36 rfl rfl ⟨Nat.le_of_ble_eq_true rfl, Nat.le_of_ble_eq_true rfl⟩ z_preN rfl hl.1 rfl (Nat.le_of_ble_eq_true rfl) dD_fit_99 ⟨Nat.zero_le _, Nat.zero_le _⟩) ?_
      refine z_top (bk (szN mm) ^ (1 + j) % 998244353) (by rw [Nat.add_comm 1 j, Nat.pow_succ, Nat.mod_mul_mod]) ?_
      refine z_iast F hK hP hD hS 1 0 rfl rfl (by omega) (by decide) dD_fit_102 (fun H locs hP hD hS => ?_)
      have hP : va_P (dC, dI) vwCl ((h0, .inr (1, [.ref hB, .int (nI z), .int (nI (iv (szN mm)))])) :: (hB, .inl (cI, 16, .inl (fun x9 => nI ((va_up o (1 + j) (bk (szN mm) ^ (1 + j) % 998244353)) x9)))) :: wr) H := hP
      have hD : va_D A ((h0, .inr (1, [.ref hB, .int (nI z), .int (nI (iv (szN mm)))])) :: (hB, .inl (cI, 16, .inl (fun x9 => nI ((va_up o (1 + j) (bk (szN mm) ^ (1 + j) % 998244353)) x9)))) :: wr) := hD
      refine lv_iinc F.1 F.2.1 (k := 0) (v := nI (1 + j + 1)) (lv' := [(4, .int (nI (1 + j + 1))), (3, .int (nI (bk (szN mm)))), (0, .ref h0), (1, .int (nI mm)), (2, .int (nI ex))]) dD_fit_103 hl rfl (nI_1 (1 + j)) (by decide) rfl (fun ls hl => ?_)
      have hl : lv_has ls 5 [(4, .int (nI (1 + (j + 1)))), (3, .int (nI (bk (szN mm)))), (0, .ref h0), (1, .int (nI mm)), (2, .int (nI ex))] := hl
      refine lv_goto F.1 F.2.1 (tgt := 74) dD_fit_106 rfl ?_
      have hl : lv_has ls 5 [(4, .int (nI (1 + (j + 1)))), (3, .int (nI (bk (szN mm)))), (0, .ref h0), (1, .int (nI mm)), (2, .int (nI ex))] := lv_sub hl [0, 1, 2, 3, 4] rfl
      exact ih2 (by omega) (va_up o (1 + j) (bk (szN mm) ^ (1 + j) % 998244353)) ls H locs (fun t ht => by by_cases e9 : t = 1 + j; (rw [e9, up_at]); (rw [up_ne _ _ e9]; exact h2 t (by omega))) (fun t ht => by rw [up_ne _ _ (by omega)]; exact h3 t (by omega)) hP hD hS hl
  · refine lv_aload_n F.1 F.2.1 dD_fit_16 rfl (lv_at hl 1 rfl) ?_
    refine z_get F hK hP hinD 0 rfl rfl 1 (by decide) rfl wf_D_19 rfl dD_fit_17 ?_
    refine z_bipush (v := 16) F (by decide) dD_fit_20 ?_
    refine z_icmp_ge F (by omega) (by omega) (tgt := 42) dD_fit_22 rfl (fun h6 => ?_) (fun h6 => ?_)
    · have hz : szN mm = z := by unfold szN; (repeat' split) <;> omega
      have hx : 998244352 / szN mm = ex := by rw [hz]; rcases hs with ⟨rfl, rfl⟩ | ⟨rfl, rfl, -⟩ | ⟨rfl, rfl, -⟩ | ⟨rfl, rfl, -⟩ <;> rfl
      have hb : 1 * iv (pw 3 ex) % 998244353 = bk (szN mm) := by unfold bk; rw [hx, Nat.one_mul, Nat.mod_eq_of_lt (iv_lt _)]
      refine lv_aload_n F.1 F.2.1 dD_fit_42 rfl (lv_at hl 1 rfl) ?_
      refine z_iconst (v := 1) F (by decide) dD_fit_43 ?_
      refine lv_aload_n F.1 F.2.1 dD_fit_44 rfl (lv_at hl 1 rfl) ?_
      refine z_get F hK hP hinD 0 rfl rfl 1 (by decide) rfl wf_D_19 rfl dD_fit_45 ?_
      refine z_call (z_runS [.int (nI 1), .int (nI z)] [.ref h0] F (c_ratio l 1 z (by decide) (by omega)) kk_F_ratio wl_D_24 rfl rfl ⟨Nat.le_of_ble_eq_true rfl, Nat.le_of_ble_eq_true rfl⟩ z_preN rfl hl.1 rfl (Nat.le_of_ble_eq_true rfl) dD_fit_48 ⟨Nat.zero_le _, Nat.zero_le _⟩) ?_
      refine z_top (iv (szN mm)) (by rw [hz, Nat.one_mul, Nat.mod_eq_of_lt (iv_lt _)]) ?_
      refine z_put F hK hP hD hS hinD tyD tyD_ok nmD 0 rfl rfl 2 (by decide) rfl rfl wf_D_30 (rfl) (rfl) (Nat.le_of_ble_eq_true rfl) dD_fit_51 (fun H locs hP hD hS => ?_)
      have hP : va_P (dC, dI) vwCl ((h0, .inr (1, [.ref hB, .int (nI z), .int (nI (iv (szN mm)))])) :: (hB, .inl (cI, 16, .inl (fun x9 => nI (b x9)))) :: wr) H := hP
      have hD : va_D A ((h0, .inr (1, [.ref hB, .int (nI z), .int (nI (iv (szN mm)))])) :: (hB, .inl (cI, 16, .inl (fun x9 => nI (b x9)))) :: wr) := hD
      refine z_iconst (v := 1) F (by decide) dD_fit_54 ?_
      refine z_iconst (v := 3) F (by decide) dD_fit_55 ?_
      refine lv_iload_n F.1 F.2.1 dD_fit_56 rfl (lv_at hl 0 rfl) ?_
      refine z_call (z_runS [.int (nI 3), .int (nI ex)] [.int (nI 1)] F (c_power l 3 ex (by decide) (by omega)) kk_F_power wl_D_33 rfl rfl ⟨Nat.le_of_ble_eq_true rfl, Nat.le_of_ble_eq_true rfl⟩ z_preN rfl hl.1 rfl (Nat.le_of_ble_eq_true rfl) dD_fit_57 ⟨Nat.zero_le _, Nat.zero_le _⟩) ?_
      refine z_call (z_runS [.int (nI 1), .int (nI (pw 3 ex))] [] F (c_ratio l 1 (pw 3 ex) (by decide) (Nat.lt_trans (pw_lt _ _) (by decide))) kk_F_ratio wl_D_24 rfl rfl ⟨Nat.le_of_ble_eq_true rfl, Nat.le_of_ble_eq_true rfl⟩ z_preN rfl hl.1 rfl (Nat.le_of_ble_eq_true rfl) dD_fit_60 ⟨Nat.zero_le _, Nat.zero_le _⟩) ?_
      refine z_top (bk (szN mm)) (hb) ?_
      refine lv_istore_n F.1 F.2.1 (lv' := [(3, .int (nI (bk (szN mm)))), (2, .int (nI ex)), (0, .ref h0), (1, .int (nI mm))]) dD_fit_63 rfl hl (by decide) rfl (fun ls hl => ?_)
      refine lv_aload_n F.1 F.2.1 dD_fit_64 rfl (lv_at hl 2 rfl) ?_
      refine z_get F hK hP hinD 0 rfl rfl 0 (by decide) rfl wf_D_9 rfl dD_fit_65 ?_
      refine z_iconst (v := 0) F (by decide) dD_fit_68 ?_
      refine z_iconst (v := 1) F (by decide) dD_fit_69 ?_
      refine z_iast F hK hP hD hS 1 0 rfl rfl (by omega) (by decide) dD_fit_70 (fun H locs hP hD hS => ?_)
      have hP : va_P (dC, dI) vwCl ((h0, .inr (1, [.ref hB, .int (nI z), .int (nI (iv (szN mm)))])) :: (hB, .inl (cI, 16, .inl (fun x9 => nI ((va_up b 0 1) x9)))) :: wr) H := hP
      have hD : va_D A ((h0, .inr (1, [.ref hB, .int (nI z), .int (nI (iv (szN mm)))])) :: (hB, .inl (cI, 16, .inl (fun x9 => nI ((va_up b 0 1) x9)))) :: wr) := hD
      refine z_iconst (v := 1) F (by decide) dD_fit_71 ?_
      refine lv_istore F.1 F.2.1 (lv' := [(4, .int (nI 1)), (3, .int (nI (bk (szN mm)))), (2, .int (nI ex)), (0, .ref h0), (1, .int (nI mm))]) dD_fit_72 hl (by decide) rfl (fun ls hl => ?_)
      have hl : lv_has ls 5 [(4, .int (nI (1 + 0))), (3, .int (nI (bk (szN mm)))), (0, .ref h0), (1, .int (nI mm)), (2, .int (nI ex))] := lv_sub hl [0, 1, 3, 4, 2] rfl
      refine z_up (E := szN mm - 1) (P := fun j => ∀ (o : Nat → Nat) (ls : Array Slot) (H : Heap) (locs : List Loc), (∀ t, t < 1 + j → o t = bk (szN mm) ^ t % 998244353) → (∀ t, 1 + j ≤ t → o t = b t) → va_P (dC, dI) vwCl ((h0, .inr (1, [.ref hB, .int (nI z), .int (nI (iv (szN mm)))])) :: (hB, .inl (cI, 16, .inl (fun x9 => nI (o x9)))) :: wr) H → va_D A ((h0, .inr (1, [.ref hB, .int (nI z), .int (nI (iv (szN mm)))])) :: (hB, .inl (cI, 16, .inl (fun x9 => nI (o x9)))) :: wr) → va_S A s.heap H locs → lv_has ls 5 [(4, .int (nI (1 + j))), (3, .int (nI (bk (szN mm)))), (0, .ref h0), (1, .int (nI mm)), (2, .int (nI ex))] → W p l e _ s m _ below meth c H locs _ _ _ (F0 m 74 ls [])) ?_ 0 (Nat.zero_le _) (va_up b 0 1) ls H locs (fun t h => by rw [show t = 0 by omega, up_at, Nat.pow_zero]) (fun t h => by rw [up_ne _ _ (by omega)]) hP hD hS hl
      intro j hj ih2 o ls H locs h2 h3 hP hD hS hl
      have hlo := szN_lo mm
      have hhi := szN_hi mm
      refine lv_iload F.1 F.2.1 dD_fit_74 (lv_at hl 0 rfl) ?_
      refine lv_aload_n F.1 F.2.1 dD_fit_76 rfl (lv_at hl 2 rfl) ?_
      refine z_get F hK hP hinD 0 rfl rfl 1 (by decide) rfl wf_D_19 rfl dD_fit_77 ?_
      refine z_icmp_ge F (by omega) (by omega) (tgt := 109) dD_fit_80 rfl (fun h5 => ?_) (fun h5 => ?_)
      · have hP := z_fI (k := 1) (fun j => if j < szN mm then bk (szN mm) ^ j % 998244353 else b j) hP rfl (fun t ht => by by_cases e9 : t < szN mm; (rw [h2 t (by omega)]; exact (if_pos e9).symm); (rw [h3 t (by omega)]; exact (if_neg e9).symm))
        have hD := hD.set (p := 1) (e := .inl (cI, 16, .inl (fun x9 => nI ((fun j => if j < szN mm then bk (szN mm) ^ j % 998244353 else b j) x9)))) rfl
        rw [← hz] at hP hD
        exact W.vret F.1 F.2.1 hr (fun t ht hW => ⟨rfl, by rw [ht]; exact hP, va_K.moved hW.alike hK, hD, hS.F ht⟩) hS.2.2 dD_fit_109
      · refine lv_aload_n F.1 F.2.1 dD_fit_83 rfl (lv_at hl 2 rfl) ?_
        refine z_get F hK hP hinD 0 rfl rfl 0 (by decide) rfl wf_D_9 rfl dD_fit_84 ?_
        refine lv_iload F.1 F.2.1 dD_fit_87 (lv_at hl 0 rfl) ?_
        refine lv_aload_n F.1 F.2.1 dD_fit_89 rfl (lv_at hl 2 rfl) ?_
        refine z_get F hK hP hinD 0 rfl rfl 0 (by decide) rfl wf_D_9 rfl dD_fit_90 ?_
        refine lv_iload F.1 F.2.1 dD_fit_93 (lv_at hl 0 rfl) ?_
        refine z_iconst (v := 1) F (by decide) dD_fit_95 ?_
        refine z_isub F (by omega) dD_fit_96 ?_
        refine z_iald F hK hP 1 0 rfl rfl (by omega) (by decide) dD_fit_97 ?_
        refine z_top (bk (szN mm) ^ j % 998244353) (by rw [show 1 + j - 1 = j by omega]; exact h2 j (by omega)) ?_
        refine lv_iload_n F.1 F.2.1 dD_fit_98 rfl (lv_at hl 1 rfl) ?_
        refine z_call (z_runS [.int (nI (bk (szN mm) ^ j % 998244353)), .int (nI (bk (szN mm)))] [.int (nI (1 + j)), .ref hB] F (c_product l (bk (szN mm) ^ j % 998244353) (bk (szN mm)) (Nat.lt_trans (ltP _) (by decide)) (Nat.lt_trans (bk_lt _) (by decide))) kk_F_product wl_D_36 rfl rfl ⟨Nat.le_of_ble_eq_true rfl, Nat.le_of_ble_eq_true rfl⟩ z_preN rfl hl.1 rfl (Nat.le_of_ble_eq_true rfl) dD_fit_99 ⟨Nat.zero_le _, Nat.zero_le _⟩) ?_
        refine z_top (bk (szN mm) ^ (1 + j) % 998244353) (by rw [Nat.add_comm 1 j, Nat.pow_succ, Nat.mod_mul_mod]) ?_
        refine z_iast F hK hP hD hS 1 0 rfl rfl (by omega) (by decide) dD_fit_102 (fun H locs hP hD hS => ?_)
        have hP : va_P (dC, dI) vwCl ((h0, .inr (1, [.ref hB, .int (nI z), .int (nI (iv (szN mm)))])) :: (hB, .inl (cI, 16, .inl (fun x9 => nI ((va_up o (1 + j) (bk (szN mm) ^ (1 + j) % 998244353)) x9)))) :: wr) H := hP
        have hD : va_D A ((h0, .inr (1, [.ref hB, .int (nI z), .int (nI (iv (szN mm)))])) :: (hB, .inl (cI, 16, .inl (fun x9 => nI ((va_up o (1 + j) (bk (szN mm) ^ (1 + j) % 998244353)) x9)))) :: wr) := hD
        refine lv_iinc F.1 F.2.1 (k := 0) (v := nI (1 + j + 1)) (lv' := [(4, .int (nI (1 + j + 1))), (3, .int (nI (bk (szN mm)))), (0, .ref h0), (1, .int (nI mm)), (2, .int (nI ex))]) dD_fit_103 hl rfl (nI_1 (1 + j)) (by decide) rfl (fun ls hl => ?_)
        have hl : lv_has ls 5 [(4, .int (nI (1 + (j + 1)))), (3, .int (nI (bk (szN mm)))), (0, .ref h0), (1, .int (nI mm)), (2, .int (nI ex))] := hl
        refine lv_goto F.1 F.2.1 (tgt := 74) dD_fit_106 rfl ?_
        have hl : lv_has ls 5 [(4, .int (nI (1 + (j + 1)))), (3, .int (nI (bk (szN mm)))), (0, .ref h0), (1, .int (nI mm)), (2, .int (nI ex))] := lv_sub hl [0, 1, 2, 3, 4] rfl
        exact ih2 (by omega) (va_up o (1 + j) (bk (szN mm) ^ (1 + j) % 998244353)) ls H locs (fun t ht => by by_cases e9 : t = 1 + j; (rw [e9, up_at]); (rw [up_ne _ _ e9]; exact h2 t (by omega))) (fun t ht => by rw [up_ne _ _ (by omega)]; exact h3 t (by omega)) hP hD hS hl
    · refine lv_aload_n F.1 F.2.1 dD_fit_25 rfl (lv_at hl 1 rfl) ?_
      refine lv_dup F.1 F.2.1 dD_fit_26 rfl ?_
      refine z_get F hK hP hinD 0 rfl rfl 1 (by decide) rfl wf_D_19 rfl dD_fit_27 ?_
      refine z_iconst (v := 2) F (by decide) dD_fit_30 ?_
      refine z_imul F dD_fit_31 ?_
      refine z_put F hK hP hD hS hinD tyD tyD_ok nmD 0 rfl rfl 1 (by decide) rfl rfl wf_D_19 (rfl) (rfl) (Nat.le_of_ble_eq_true rfl) dD_fit_32 (fun H locs hP hD hS => ?_)
      have hP : va_P (dC, dI) vwCl ((h0, .inr (1, [.ref hB, .int (nI (z * 2)), .int (nI ov0)])) :: (hB, .inl (cI, 16, .inl (fun x9 => nI (b x9)))) :: wr) H := hP
      have hD : va_D A ((h0, .inr (1, [.ref hB, .int (nI (z * 2)), .int (nI ov0)])) :: (hB, .inl (cI, 16, .inl (fun x9 => nI (b x9)))) :: wr) := hD
      refine lv_iload_n F.1 F.2.1 dD_fit_35 rfl (lv_at hl 0 rfl) ?_
      refine z_iconst (v := 2) F (by decide) dD_fit_36 ?_
      refine z_idiv F (by omega) (by omega) (by omega) dD_fit_37 ?_
      refine lv_istore_n F.1 F.2.1 (lv' := [(2, .int (nI (ex / 2))), (0, .ref h0), (1, .int (nI mm))]) dD_fit_38 rfl hl (by decide) rfl (fun ls hl => ?_)
      refine lv_goto F.1 F.2.1 (tgt := 8) dD_fit_39 rfl ?_
      have hl : lv_has ls 5 [(2, .int (nI (ex / 2))), (0, .ref h0), (1, .int (nI mm))] := lv_sub hl [0, 1, 2] rfl
      exact ih (16 - z * 2) (by omega) (z * 2) (ex / 2) ls H locs (rfl) (by omega) hP hD hS hl
end
section
set_option maxHeartbeats 4000000 in
set_option maxRecDepth 100000 in
theorem ck_drop (l : Launch) (dC : Nat → ClassId) (dI : Nat → Nat → Nat) (cI cL : ClassId) (wr : va_W) (zz : Nat) (h0 hW hX ta al be ga de va : Nat) (md : Bool)  : Met l yK_drop (zW yK_drop cK_drop 1 none) ({ frames := 0, cells := 0, slots := 0, locals := 0 }) (va_Pc [.ref h0] (z_P (dC, dI) vwCl [(cI, .int), (cL, .long)] zz ((h0, .inr (2, [.ref hW, .ref hX, .int (z_b md), .int (nI ta), .int (nI al), .int (nI be), .int (nI ga), .int (nI de), .int (nI va)])) :: wr))) (z_Q (dC, dI) vwCl [(cI, .int), (cL, .long)] none ((h0, .inr (2, [.ref hW, .ref hX, .int (z_b false), .int (nI ta), .int (nI al), .int (nI be), .int (nI ga), .int (nI de), .int (nI va)])) :: wr) (va_A ((h0, .inr (2, [.ref hW, .ref hX, .int (z_b md), .int (nI ta), .int (nI al), .int (nI be), .int (nI ga), .int (nI de), .int (nI va)])) :: wr) zz)) 0 0 (va_A ((h0, .inr (2, [.ref hW, .ref hX, .int (z_b md), .int (nI ta), .int (nI al), .int (nI be), .int (nI ga), .int (nI de), .int (nI va)])) :: wr) zz) := by
  refine Met.ofW (cc := cK_drop) (maxL := 1) (ret := none) (by decide) rfl ?_
  intro p e s m args below meth c s₁ B hml hv
  obtain ⟨rfl, hsz, hP, hK, hD0⟩ := hv
  have F : CallFix p m c cK_drop 1 s _ zT RK := ⟨B.exec, B.bytes, hml, findClass_of_methodNamed B.named, fun w h => atoms_spec (ws := (zW yK_drop cK_drop 1 none)) B.pre w (List.mem_cons_of_mem _ h)⟩
  have hr := B.returns
  have hlocks := B.notSynchronized
  subst hsz
  have hD := hD0.self (sz := s.heap.size)
  generalize hAe : va_A ((h0, .inr (2, [.ref hW, .ref hX, .int (z_b md), .int (nI ta), .int (nI al), .int (nI be), .int (nI ga), .int (nI de), .int (nI va)])) :: wr) s.heap.size = A at hD ⊢
  have hAA : ∀ q : Nat, s.heap.size ≤ q → A q := fun q h => by rw [← hAe]; exact Or.inr h
  have hS : va_S A s.heap s.heap [] := va_S.rf
  have hl := lv_entry ([.ref h0]) (n := 1) (Nat.le_of_ble_eq_true rfl)
  rw [lg_entry_eq]
  generalize (lg_sl ([.ref h0]) ++ List.replicate (1 - (lg_sl ([.ref h0])).length) Slot.unset).toArray = ls at hl ⊢
  have hl : lv_has ls 1 [(0, .ref h0)] := hl
  refine lv_aload_n F.1 F.2.1 dK_drop_0 rfl (lv_at hl 0 rfl) ?_
  refine z_iconst (v := 0) F (by decide) dK_drop_1 ?_
  refine z_topV (z_b false) (by decide) ?_
  refine z_put F hK hP hD hS hinK tyK tyK_ok nmK 0 rfl rfl 2 (by decide) rfl rfl wf_K_18 (rfl) (rfl) (Nat.le_of_ble_eq_true rfl) dK_drop_2 (fun H locs hP hD hS => ?_)
  have hP : va_P (dC, dI) vwCl ((h0, .inr (2, [.ref hW, .ref hX, .int (z_b false), .int (nI ta), .int (nI al), .int (nI be), .int (nI ga), .int (nI de), .int (nI va)])) :: wr) H := hP
  have hD : va_D A ((h0, .inr (2, [.ref hW, .ref hX, .int (z_b false), .int (nI ta), .int (nI al), .int (nI be), .int (nI ga), .int (nI de), .int (nI va)])) :: wr) := hD
  exact W.vret F.1 F.2.1 hr (fun t ht hW => ⟨rfl, by rw [ht]; exact hP, va_K.moved hW.alike hK, hD, hS.F ht⟩) hS.2.2 dK_drop_5
set_option maxHeartbeats 4000000 in
set_option maxRecDepth 100000 in
theorem ck_take (l : Launch) (dC : Nat → ClassId) (dI : Nat → Nat → Nat) (cI cL : ClassId) (wr : va_W) (zz : Nat) (h0 hW hX ta al be ga de va : Nat) (md : Bool) (t2 a2 b2 g2 d2 : Nat)  : Met l yK_take (zW yK_take cK_take 6 none) ({ frames := 0, cells := 0, slots := 0, locals := 0 }) (va_Pc [.ref h0, .int (nI t2), .int (nI a2), .int (nI b2), .int (nI g2), .int (nI d2)] (z_P (dC, dI) vwCl [(cI, .int), (cL, .long)] zz ((h0, .inr (2, [.ref hW, .ref hX, .int (z_b md), .int (nI ta), .int (nI al), .int (nI be), .int (nI ga), .int (nI de), .int (nI va)])) :: wr))) (z_Q (dC, dI) vwCl [(cI, .int), (cL, .long)] none ((h0, .inr (2, [.ref hW, .ref hX, .int (z_b md), .int (nI t2), .int (nI a2), .int (nI b2), .int (nI g2), .int (nI d2), .int (nI va)])) :: wr) (va_A ((h0, .inr (2, [.ref hW, .ref hX, .int (z_b md), .int (nI ta), .int (nI al), .int (nI be), .int (nI ga), .int (nI de), .int (nI va)])) :: wr) zz)) 0 0 (va_A ((h0, .inr (2, [.ref hW, .ref hX, .int (z_b md), .int (nI ta), .int (nI al), .int (nI be), .int (nI ga), .int (nI de), .int (nI va)])) :: wr) zz) := by
  refine Met.ofW (cc := cK_take) (maxL := 6) (ret := none) (by decide) rfl ?_
  intro p e s m args below meth c s₁ B hml hv
  obtain ⟨rfl, hsz, hP, hK, hD0⟩ := hv
  have F : CallFix p m c cK_take 6 s _ zT RK := ⟨B.exec, B.bytes, hml, findClass_of_methodNamed B.named, fun w h => atoms_spec (ws := (zW yK_take cK_take 6 none)) B.pre w (List.mem_cons_of_mem _ h)⟩
  have hr := B.returns
  have hlocks := B.notSynchronized
  subst hsz
  have hD := hD0.self (sz := s.heap.size)
  generalize hAe : va_A ((h0, .inr (2, [.ref hW, .ref hX, .int (z_b md), .int (nI ta), .int (nI al), .int (nI be), .int (nI ga), .int (nI de), .int (nI va)])) :: wr) s.heap.size = A at hD ⊢
  have hAA : ∀ q : Nat, s.heap.size ≤ q → A q := fun q h => by rw [← hAe]; exact Or.inr h
  have hS : va_S A s.heap s.heap [] := va_S.rf
  have hl := lv_entry ([.ref h0, .int (nI t2), .int (nI a2), .int (nI b2), .int (nI g2), .int (nI d2)]) (n := 6) (Nat.le_of_ble_eq_true rfl)
  rw [lg_entry_eq]
  generalize (lg_sl ([.ref h0, .int (nI t2), .int (nI a2), .int (nI b2), .int (nI g2), .int (nI d2)]) ++ List.replicate (6 - (lg_sl ([.ref h0, .int (nI t2), .int (nI a2), .int (nI b2), .int (nI g2), .int (nI d2)])).length) Slot.unset).toArray = ls at hl ⊢
  have hl : lv_has ls 6 [(0, .ref h0), (1, .int (nI t2)), (2, .int (nI a2)), (3, .int (nI b2)), (4, .int (nI g2)), (5, .int (nI d2))] := hl
  refine lv_aload_n F.1 F.2.1 dK_take_0 rfl (lv_at hl 0 rfl) ?_
  refine lv_iload_n F.1 F.2.1 dK_take_1 rfl (lv_at hl 1 rfl) ?_
  refine z_put F hK hP hD hS hinK tyK tyK_ok nmK 0 rfl rfl 3 (by decide) rfl rfl wf_K_22 (rfl) (rfl) (Nat.le_of_ble_eq_true rfl) dK_take_2 (fun H locs hP hD hS => ?_)
  have hP : va_P (dC, dI) vwCl ((h0, .inr (2, [.ref hW, .ref hX, .int (z_b md), .int (nI t2), .int (nI al), .int (nI be), .int (nI ga), .int (nI de), .int (nI va)])) :: wr) H := hP
  have hD : va_D A ((h0, .inr (2, [.ref hW, .ref hX, .int (z_b md), .int (nI t2), .int (nI al), .int (nI be), .int (nI ga), .int (nI de), .int (nI va)])) :: wr) := hD
  refine lv_aload_n F.1 F.2.1 dK_take_5 rfl (lv_at hl 0 rfl) ?_
  refine lv_iload_n F.1 F.2.1 dK_take_6 rfl (lv_at hl 2 rfl) ?_
  refine z_put F hK hP hD hS hinK tyK tyK_ok nmK 0 rfl rfl 4 (by decide) rfl rfl wf_K_26 (rfl) (rfl) (Nat.le_of_ble_eq_true rfl) dK_take_7 (fun H locs hP hD hS => ?_)
  have hP : va_P (dC, dI) vwCl ((h0, .inr (2, [.ref hW, .ref hX, .int (z_b md), .int (nI t2), .int (nI a2), .int (nI be), .int (nI ga), .int (nI de), .int (nI va)])) :: wr) H := hP
  have hD : va_D A ((h0, .inr (2, [.ref hW, .ref hX, .int (z_b md), .int (nI t2), .int (nI a2), .int (nI be), .int (nI ga), .int (nI de), .int (nI va)])) :: wr) := hD
  refine lv_aload_n F.1 F.2.1 dK_take_10 rfl (lv_at hl 0 rfl) ?_
  refine lv_iload_n F.1 F.2.1 dK_take_11 rfl (lv_at hl 3 rfl) ?_
  refine z_put F hK hP hD hS hinK tyK tyK_ok nmK 0 rfl rfl 5 (by decide) rfl rfl wf_K_29 (rfl) (rfl) (Nat.le_of_ble_eq_true rfl) dK_take_12 (fun H locs hP hD hS => ?_)
  have hP : va_P (dC, dI) vwCl ((h0, .inr (2, [.ref hW, .ref hX, .int (z_b md), .int (nI t2), .int (nI a2), .int (nI b2), .int (nI ga), .int (nI de), .int (nI va)])) :: wr) H := hP
  have hD : va_D A ((h0, .inr (2, [.ref hW, .ref hX, .int (z_b md), .int (nI t2), .int (nI a2), .int (nI b2), .int (nI ga), .int (nI de), .int (nI va)])) :: wr) := hD
  refine lv_aload_n F.1 F.2.1 dK_take_15 rfl (lv_at hl 0 rfl) ?_
  refine lv_iload F.1 F.2.1 dK_take_16 (lv_at hl 4 rfl) ?_
  refine z_put F hK hP hD hS hinK tyK tyK_ok nmK 0 rfl rfl 6 (by decide) rfl rfl wf_K_38 (rfl) (rfl) (Nat.le_of_ble_eq_true rfl) dK_take_18 (fun H locs hP hD hS => ?_)
  have hP : va_P (dC, dI) vwCl ((h0, .inr (2, [.ref hW, .ref hX, .int (z_b md), .int (nI t2), .int (nI a2), .int (nI b2), .int (nI g2), .int (nI de), .int (nI va)])) :: wr) H := hP
  have hD : va_D A ((h0, .inr (2, [.ref hW, .ref hX, .int (z_b md), .int (nI t2), .int (nI a2), .int (nI b2), .int (nI g2), .int (nI de), .int (nI va)])) :: wr) := hD
  refine lv_aload_n F.1 F.2.1 dK_take_21 rfl (lv_at hl 0 rfl) ?_
  refine lv_iload F.1 F.2.1 dK_take_22 (lv_at hl 5 rfl) ?_
  refine z_put F hK hP hD hS hinK tyK tyK_ok nmK 0 rfl rfl 7 (by decide) rfl rfl wf_K_32 (rfl) (rfl) (Nat.le_of_ble_eq_true rfl) dK_take_24 (fun H locs hP hD hS => ?_)
  have hP : va_P (dC, dI) vwCl ((h0, .inr (2, [.ref hW, .ref hX, .int (z_b md), .int (nI t2), .int (nI a2), .int (nI b2), .int (nI g2), .int (nI d2), .int (nI va)])) :: wr) H := hP
  have hD : va_D A ((h0, .inr (2, [.ref hW, .ref hX, .int (z_b md), .int (nI t2), .int (nI a2), .int (nI b2), .int (nI g2), .int (nI d2), .int (nI va)])) :: wr) := hD
  exact W.vret F.1 F.2.1 hr (fun t ht hW => ⟨rfl, by rw [ht]; exact hP, va_K.moved hW.alike hK, hD, hS.F ht⟩) hS.2.2 dK_take_27
set_option maxHeartbeats 4000000 in
set_option maxRecDepth 100000 in
theorem ck_mixAll (l : Launch) (dC : Nat → ClassId) (dI : Nat → Nat → Nat) (cI cL : ClassId) (wr : va_W) (zz : Nat) (h0 hW hX ta al be ga de va : Nat) (md : Bool) (hC hA cn hD_ hB sz ov : Nat) (w x f bb : Nat → Nat) (hf : ∀ j, f j < 998244353) (hbb : ∀ j, bb j < 998244353) (ho : ov < 998244353) (hz : sz ≤ 16) (hn : cn ≤ 16) (ht : ta < 998244353) (hal : al < 998244353) (hbe : be < 998244353) : Met l yK_mixAll (zW yK_mixAll cK_mixAll 6 none) ({ frames := 3, cells := 0, slots := 0, locals := 66 }) (va_Pc [.ref h0, .ref hC, .ref hD_] (z_P (dC, dI) vwCl [(cI, .int), (cL, .long)] zz ((h0, .inr (2, [.ref hW, .ref hX, .int (z_b md), .int (nI ta), .int (nI al), .int (nI be), .int (nI ga), .int (nI de), .int (nI va)])) :: (hW, .inl (cI, 16, .inl (fun x9 => nI (w x9)))) :: (hX, .inl (cI, 16, .inl (fun x9 => nI (x x9)))) :: (hC, .inr (0, [.ref hA, .int (nI cn)])) :: (hA, .inl (cI, 816, .inl (fun x9 => nI (f x9)))) :: (hD_, .inr (1, [.ref hB, .int (nI sz), .int (nI ov)])) :: (hB, .inl (cI, 16, .inl (fun x9 => nI (bb x9)))) :: wr))) (z_Q (dC, dI) vwCl [(cI, .int), (cL, .long)] none ((h0, .inr (2, [.ref hW, .ref hX, .int (z_b true), .int (nI ta), .int (nI al), .int (nI be), .int (nI ga), .int (nI de), .int (nI ((pw ta sz + 998244353 - 1) % 998244353))])) :: (hW, .inl (cI, 16, .inl (fun x9 => nI (((fun j => (if j < sz then sg sz (fun u => (ta * bb j % 998244353) ^ u) % 998244353 * ov % 998244353 else 0))) x9)))) :: (hX, .inl (cI, 16, .inl (fun x9 => nI (((fun i => ((be * (sg cn (fun t => f ((t * 3 + 0) * 16 + i) * (fun j => (if j < sz then sg sz (fun u => (ta * bb j % 998244353) ^ u) % 998244353 * ov % 998244353 else 0)) t) % 998244353) % 998244353 + al * (sg cn (fun t => f ((t * 3 + 1) * 16 + i) * (fun j => (if j < sz then sg sz (fun u => (ta * bb j % 998244353) ^ u) % 998244353 * ov % 998244353 else 0)) t) % 998244353) % 998244353) % 998244353 + sg cn (fun t => f ((t * 3 + 2) * 16 + i) * (fun j => (if j < sz then sg sz (fun u => (ta * bb j % 998244353) ^ u) % 998244353 * ov % 998244353 else 0)) t) % 998244353) % 998244353)) x9)))) :: (hC, .inr (0, [.ref hA, .int (nI cn)])) :: (hA, .inl (cI, 816, .inl (fun x9 => nI (f x9)))) :: (hD_, .inr (1, [.ref hB, .int (nI sz), .int (nI ov)])) :: (hB, .inl (cI, 16, .inl (fun x9 => nI (bb x9)))) :: wr) (va_A ((h0, .inr (2, [.ref hW, .ref hX, .int (z_b md), .int (nI ta), .int (nI al), .int (nI be), .int (nI ga), .int (nI de), .int (nI va)])) :: (hW, .inl (cI, 16, .inl (fun x9 => nI (w x9)))) :: (hX, .inl (cI, 16, .inl (fun x9 => nI (x x9)))) :: (hC, .inr (0, [.ref hA, .int (nI cn)])) :: (hA, .inl (cI, 816, .inl (fun x9 => nI (f x9)))) :: (hD_, .inr (1, [.ref hB, .int (nI sz), .int (nI ov)])) :: (hB, .inl (cI, 16, .inl (fun x9 => nI (bb x9)))) :: wr) zz)) 0 0 (va_A ((h0, .inr (2, [.ref hW, .ref hX, .int (z_b md), .int (nI ta), .int (nI al), .int (nI be), .int (nI ga), .int (nI de), .int (nI va)])) :: (hW, .inl (cI, 16, .inl (fun x9 => nI (w x9)))) :: (hX, .inl (cI, 16, .inl (fun x9 => nI (x x9)))) :: (hC, .inr (0, [.ref hA, .int (nI cn)])) :: (hA, .inl (cI, 816, .inl (fun x9 => nI (f x9)))) :: (hD_, .inr (1, [.ref hB, .int (nI sz), .int (nI ov)])) :: (hB, .inl (cI, 16, .inl (fun x9 => nI (bb x9)))) :: wr) zz) := by
  refine Met.ofW (cc := cK_mixAll) (maxL := 6) (ret := none) (by decide) rfl ?_
  intro p e s m args below meth c s₁ B hml hv
  obtain ⟨rfl, hsz, hP, hK, hD0⟩ := hv
  have F : CallFix p m c cK_mixAll 6 s _ zT RK := ⟨B.exec, B.bytes, hml, findClass_of_methodNamed B.named, fun w h => atoms_spec (ws := (zW yK_mixAll cK_mixAll 6 none)) B.pre w (List.mem_cons_of_mem _ h)⟩
  have hr := B.returns
  have hlocks := B.notSynchronized
  subst hsz
  have hD := hD0.self (sz := s.heap.size)
  generalize hAe : va_A ((h0, .inr (2, [.ref hW, .ref hX, .int (z_b md), .int (nI ta), .int (nI al), .int (nI be), .int (nI ga), .int (nI de), .int (nI va)])) :: (hW, .inl (cI, 16, .inl (fun x9 => nI (w x9)))) :: (hX, .inl (cI, 16, .inl (fun x9 => nI (x x9)))) :: (hC, .inr (0, [.ref hA, .int (nI cn)])) :: (hA, .inl (cI, 816, .inl (fun x9 => nI (f x9)))) :: (hD_, .inr (1, [.ref hB, .int (nI sz), .int (nI ov)])) :: (hB, .inl (cI, 16, .inl (fun x9 => nI (bb x9)))) :: wr) s.heap.size = A at hD ⊢
  have hAA : ∀ q : Nat, s.heap.size ≤ q → A q := fun q h => by rw [← hAe]; exact Or.inr h
  have hS : va_S A s.heap s.heap [] := va_S.rf
  have hl := lv_entry ([.ref h0, .ref hC, .ref hD_]) (n := 6) (Nat.le_of_ble_eq_true rfl)
  rw [lg_entry_eq]
  generalize (lg_sl ([.ref h0, .ref hC, .ref hD_]) ++ List.replicate (6 - (lg_sl ([.ref h0, .ref hC, .ref hD_])).length) Slot.unset).toArray = ls at hl ⊢
  have hl : lv_has ls 6 [(0, .ref h0), (1, .ref hC), (2, .ref hD_)] := hl
  refine lv_aload_n F.1 F.2.1 dK_mixAll_0 rfl (lv_at hl 0 rfl) ?_
  refine lv_aload_n F.1 F.2.1 dK_mixAll_1 rfl (lv_at hl 2 rfl) ?_
  refine lv_aload_n F.1 F.2.1 dK_mixAll_2 rfl (lv_at hl 0 rfl) ?_
  refine z_get F hK hP hinK 0 rfl rfl 3 (by decide) rfl wf_K_22 rfl dK_mixAll_3 ?_
  refine z_call (z_runV [.int (nI ta)] [.ref h0] F (c_vanishingAt l dC dI cI cL _ 5 hD_ hB sz ov ta rfl (by omega) (Nat.lt_trans (ht) (by decide))) kk_D_vanishingAt wl_K_41 rfl rfl ⟨Nat.le_of_ble_eq_true rfl, Nat.le_of_ble_eq_true rfl⟩ (z_preVR (q := (RD, TD, 3)) hP hK rfl (q0 := 5) rfl) rfl hl.1 rfl (Nat.le_of_ble_eq_true rfl) dK_mixAll_6 ⟨Nat.zero_le _, Nat.zero_le _⟩) ?_
  refine z_put F hK hP hD hS hinK tyK tyK_ok nmK 0 rfl rfl 8 (by decide) rfl rfl wf_K_35 (rfl) (rfl) (Nat.le_of_ble_eq_true rfl) dK_mixAll_9 (fun H locs hP hD hS => ?_)
  have hP : va_P (dC, dI) vwCl ((h0, .inr (2, [.ref hW, .ref hX, .int (z_b md), .int (nI ta), .int (nI al), .int (nI be), .int (nI ga), .int (nI de), .int (nI ((pw ta sz + 998244353 - 1) % 998244353))])) :: (hW, .inl (cI, 16, .inl (fun x9 => nI (w x9)))) :: (hX, .inl (cI, 16, .inl (fun x9 => nI (x x9)))) :: (hC, .inr (0, [.ref hA, .int (nI cn)])) :: (hA, .inl (cI, 816, .inl (fun x9 => nI (f x9)))) :: (hD_, .inr (1, [.ref hB, .int (nI sz), .int (nI ov)])) :: (hB, .inl (cI, 16, .inl (fun x9 => nI (bb x9)))) :: wr) H := hP
  have hD : va_D A ((h0, .inr (2, [.ref hW, .ref hX, .int (z_b md), .int (nI ta), .int (nI al), .int (nI be), .int (nI ga), .int (nI de), .int (nI ((pw ta sz + 998244353 - 1) % 998244353))])) :: (hW, .inl (cI, 16, .inl (fun x9 => nI (w x9)))) :: (hX, .inl (cI, 16, .inl (fun x9 => nI (x x9)))) :: (hC, .inr (0, [.ref hA, .int (nI cn)])) :: (hA, .inl (cI, 816, .inl (fun x9 => nI (f x9)))) :: (hD_, .inr (1, [.ref hB, .int (nI sz), .int (nI ov)])) :: (hB, .inl (cI, 16, .inl (fun x9 => nI (bb x9)))) :: wr) := hD
  refine z_iconst (v := 0) F (by decide) dK_mixAll_12 ?_
  refine lv_istore_n F.1 F.2.1 (lv' := [(3, .int (nI 0)), (0, .ref h0), (1, .ref hC), (2, .ref hD_)]) dK_mixAll_13 rfl hl (by decide) rfl (fun ls hl => ?_)
  have hl : lv_has ls 6 [(3, .int (nI 0)), (0, .ref h0), (1, .ref hC), (2, .ref hD_)] := lv_sub hl [0, 1, 2, 3] rfl
  refine z_up (E := 16) (P := fun j => ∀ (o : Nat → Nat) (ls : Array Slot) (H : Heap) (locs : List Loc), (∀ t, t < j → o t = (if t < sz then sg sz (fun u => (ta * bb t % 998244353) ^ u) % 998244353 * ov % 998244353 else 0)) → va_P (dC, dI) vwCl ((h0, .inr (2, [.ref hW, .ref hX, .int (z_b md), .int (nI ta), .int (nI al), .int (nI be), .int (nI ga), .int (nI de), .int (nI ((pw ta sz + 998244353 - 1) % 998244353))])) :: (hW, .inl (cI, 16, .inl (fun x9 => nI (o x9)))) :: (hX, .inl (cI, 16, .inl (fun x9 => nI (x x9)))) :: (hC, .inr (0, [.ref hA, .int (nI cn)])) :: (hA, .inl (cI, 816, .inl (fun x9 => nI (f x9)))) :: (hD_, .inr (1, [.ref hB, .int (nI sz), .int (nI ov)])) :: (hB, .inl (cI, 16, .inl (fun x9 => nI (bb x9)))) :: wr) H → va_D A ((h0, .inr (2, [.ref hW, .ref hX, .int (z_b md), .int (nI ta), .int (nI al), .int (nI be), .int (nI ga), .int (nI de), .int (nI ((pw ta sz + 998244353 - 1) % 998244353))])) :: (hW, .inl (cI, 16, .inl (fun x9 => nI (o x9)))) :: (hX, .inl (cI, 16, .inl (fun x9 => nI (x x9)))) :: (hC, .inr (0, [.ref hA, .int (nI cn)])) :: (hA, .inl (cI, 816, .inl (fun x9 => nI (f x9)))) :: (hD_, .inr (1, [.ref hB, .int (nI sz), .int (nI ov)])) :: (hB, .inl (cI, 16, .inl (fun x9 => nI (bb x9)))) :: wr) → va_S A s.heap H locs → lv_has ls 6 [(3, .int (nI j)), (0, .ref h0), (1, .ref hC), (2, .ref hD_)] → W p l e _ s m _ below meth c H locs _ _ _ (F0 m 14 ls [])) ?_ 0 (Nat.zero_le _) w ls H locs (fun t h => absurd h (Nat.not_lt_zero t)) hP hD hS hl
  intro j hj ih o ls H locs h2 hP hD hS hl
  refine lv_iload_n F.1 F.2.1 dK_mixAll_14 rfl (lv_at hl 0 rfl) ?_
  refine z_bipush (v := 16) F (by decide) dK_mixAll_15 ?_
  refine z_icmp_ge F (by omega) (by omega) (tgt := 53) dK_mixAll_17 rfl (fun h1 => ?_) (fun h1 => ?_)
  · have hP := z_fI (k := 1) (fun j => (if j < sz then sg sz (fun u => (ta * bb j % 998244353) ^ u) % 998244353 * ov % 998244353 else 0)) hP rfl (fun t ht => h2 t (by omega))
    have hD := hD.set (p := 1) (e := .inl (cI, 16, .inl (fun x9 => nI ((fun j => (if j < sz then sg sz (fun u => (ta * bb j % 998244353) ^ u) % 998244353 * ov % 998244353 else 0)) x9)))) rfl
    have hP : va_P (dC, dI) vwCl ((h0, .inr (2, [.ref hW, .ref hX, .int (z_b md), .int (nI ta), .int (nI al), .int (nI be), .int (nI ga), .int (nI de), .int (nI ((pw ta sz + 998244353 - 1) % 998244353))])) :: (hW, .inl (cI, 16, .inl (fun x9 => nI (((fun j => (if j < sz then sg sz (fun u => (ta * bb j % 998244353) ^ u) % 998244353 * ov % 998244353 else 0))) x9)))) :: (hX, .inl (cI, 16, .inl (fun x9 => nI (x x9)))) :: (hC, .inr (0, [.ref hA, .int (nI cn)])) :: (hA, .inl (cI, 816, .inl (fun x9 => nI (f x9)))) :: (hD_, .inr (1, [.ref hB, .int (nI sz), .int (nI ov)])) :: (hB, .inl (cI, 16, .inl (fun x9 => nI (bb x9)))) :: wr) H := hP
    have hD : va_D A ((h0, .inr (2, [.ref hW, .ref hX, .int (z_b md), .int (nI ta), .int (nI al), .int (nI be), .int (nI ga), .int (nI de), .int (nI ((pw ta sz + 998244353 - 1) % 998244353))])) :: (hW, .inl (cI, 16, .inl (fun x9 => nI (((fun j => (if j < sz then sg sz (fun u => (ta * bb j % 998244353) ^ u) % 998244353 * ov % 998244353 else 0))) x9)))) :: (hX, .inl (cI, 16, .inl (fun x9 => nI (x x9)))) :: (hC, .inr (0, [.ref hA, .int (nI cn)])) :: (hA, .inl (cI, 816, .inl (fun x9 => nI (f x9)))) :: (hD_, .inr (1, [.ref hB, .int (nI sz), .int (nI ov)])) :: (hB, .inl (cI, 16, .inl (fun x9 => nI (bb x9)))) :: wr) := hD
    have hwl : ∀ j, (fun j => (if j < sz then sg sz (fun u => (ta * bb j % 998244353) ^ u) % 998244353 * ov % 998244353 else 0)) j < 998244353 := fun j => by show (if j < sz then _ else 0) < _; split; (exact ltP _); (exact by decide)
    have hl : lv_has ls 6 [(0, .ref h0), (1, .ref hC), (2, .ref hD_)] := lv_sub hl [1, 2, 3] rfl
    refine z_iconst (v := 0) F (by decide) dK_mixAll_53 ?_
    refine lv_istore_n F.1 F.2.1 (lv' := [(3, .int (nI 0)), (0, .ref h0), (1, .ref hC), (2, .ref hD_)]) dK_mixAll_54 rfl hl (by decide) rfl (fun ls hl => ?_)
    have hl : lv_has ls 6 [(3, .int (nI 0)), (0, .ref h0), (1, .ref hC), (2, .ref hD_)] := lv_sub hl [0, 1, 2, 3] rfl
    refine z_up (E := 16) (P := fun i => ∀ (o : Nat → Nat) (ls : Array Slot) (H : Heap) (locs : List Loc), (∀ t, t < i → o t = (fun i => ((be * (sg cn (fun t => f ((t * 3 + 0) * 16 + i) * (fun j => (if j < sz then sg sz (fun u => (ta * bb j % 998244353) ^ u) % 998244353 * ov % 998244353 else 0)) t) % 998244353) % 998244353 + al * (sg cn (fun t => f ((t * 3 + 1) * 16 + i) * (fun j => (if j < sz then sg sz (fun u => (ta * bb j % 998244353) ^ u) % 998244353 * ov % 998244353 else 0)) t) % 998244353) % 998244353) % 998244353 + sg cn (fun t => f ((t * 3 + 2) * 16 + i) * (fun j => (if j < sz then sg sz (fun u => (ta * bb j % 998244353) ^ u) % 998244353 * ov % 998244353 else 0)) t) % 998244353) % 998244353) t) → va_P (dC, dI) vwCl ((h0, .inr (2, [.ref hW, .ref hX, .int (z_b md), .int (nI ta), .int (nI al), .int (nI be), .int (nI ga), .int (nI de), .int (nI ((pw ta sz + 998244353 - 1) % 998244353))])) :: (hW, .inl (cI, 16, .inl (fun x9 => nI (((fun j => (if j < sz then sg sz (fun u => (ta * bb j % 998244353) ^ u) % 998244353 * ov % 998244353 else 0))) x9)))) :: (hX, .inl (cI, 16, .inl (fun x9 => nI (o x9)))) :: (hC, .inr (0, [.ref hA, .int (nI cn)])) :: (hA, .inl (cI, 816, .inl (fun x9 => nI (f x9)))) :: (hD_, .inr (1, [.ref hB, .int (nI sz), .int (nI ov)])) :: (hB, .inl (cI, 16, .inl (fun x9 => nI (bb x9)))) :: wr) H → va_D A ((h0, .inr (2, [.ref hW, .ref hX, .int (z_b md), .int (nI ta), .int (nI al), .int (nI be), .int (nI ga), .int (nI de), .int (nI ((pw ta sz + 998244353 - 1) % 998244353))])) :: (hW, .inl (cI, 16, .inl (fun x9 => nI (((fun j => (if j < sz then sg sz (fun u => (ta * bb j % 998244353) ^ u) % 998244353 * ov % 998244353 else 0))) x9)))) :: (hX, .inl (cI, 16, .inl (fun x9 => nI (o x9)))) :: (hC, .inr (0, [.ref hA, .int (nI cn)])) :: (hA, .inl (cI, 816, .inl (fun x9 => nI (f x9)))) :: (hD_, .inr (1, [.ref hB, .int (nI sz), .int (nI ov)])) :: (hB, .inl (cI, 16, .inl (fun x9 => nI (bb x9)))) :: wr) → va_S A s.heap H locs → lv_has ls 6 [(3, .int (nI i)), (0, .ref h0), (1, .ref hC), (2, .ref hD_)] → W p l e _ s m _ below meth c H locs _ _ _ (F0 m 55 ls [])) ?_ 0 (Nat.zero_le _) x ls H locs (fun t h => absurd h (Nat.not_lt_zero t)) hP hD hS hl
    intro i hi ih2 o ls H locs h3 hP hD hS hl
    refine lv_iload_n F.1 F.2.1 dK_mixAll_55 rfl (lv_at hl 0 rfl) ?_
    refine z_bipush (v := 16) F (by decide) dK_mixAll_56 ?_
    refine z_icmp_ge F (by omega) (by omega) (tgt := 131) dK_mixAll_58 rfl (fun h5 => ?_) (fun h5 => ?_)
    · refine lv_aload_n F.1 F.2.1 dK_mixAll_131 rfl (lv_at hl 1 rfl) ?_
      refine z_iconst (v := 1) F (by decide) dK_mixAll_132 ?_
      refine z_topV (z_b true) (by decide) ?_
      refine z_put F hK hP hD hS hinK tyK tyK_ok nmK 0 rfl rfl 2 (by decide) rfl rfl wf_K_18 (rfl) (rfl) (Nat.le_of_ble_eq_true rfl) dK_mixAll_133 (fun H locs hP hD hS => ?_)
      have hP : va_P (dC, dI) vwCl ((h0, .inr (2, [.ref hW, .ref hX, .int (z_b true), .int (nI ta), .int (nI al), .int (nI be), .int (nI ga), .int (nI de), .int (nI ((pw ta sz + 998244353 - 1) % 998244353))])) :: (hW, .inl (cI, 16, .inl (fun x9 => nI (((fun j => (if j < sz then sg sz (fun u => (ta * bb j % 998244353) ^ u) % 998244353 * ov % 998244353 else 0))) x9)))) :: (hX, .inl (cI, 16, .inl (fun x9 => nI (o x9)))) :: (hC, .inr (0, [.ref hA, .int (nI cn)])) :: (hA, .inl (cI, 816, .inl (fun x9 => nI (f x9)))) :: (hD_, .inr (1, [.ref hB, .int (nI sz), .int (nI ov)])) :: (hB, .inl (cI, 16, .inl (fun x9 => nI (bb x9)))) :: wr) H := hP
      have hD : va_D A ((h0, .inr (2, [.ref hW, .ref hX, .int (z_b true), .int (nI ta), .int (nI al), .int (nI be), .int (nI ga), .int (nI de), .int (nI ((pw ta sz + 998244353 - 1) % 998244353))])) :: (hW, .inl (cI, 16, .inl (fun x9 => nI (((fun j => (if j < sz then sg sz (fun u => (ta * bb j % 998244353) ^ u) % 998244353 * ov % 998244353 else 0))) x9)))) :: (hX, .inl (cI, 16, .inl (fun x9 => nI (o x9)))) :: (hC, .inr (0, [.ref hA, .int (nI cn)])) :: (hA, .inl (cI, 816, .inl (fun x9 => nI (f x9)))) :: (hD_, .inr (1, [.ref hB, .int (nI sz), .int (nI ov)])) :: (hB, .inl (cI, 16, .inl (fun x9 => nI (bb x9)))) :: wr) := hD
      have hP := z_fI (k := 2) (fun i => ((be * (sg cn (fun t => f ((t * 3 + 0) * 16 + i) * (fun j => (if j < sz then sg sz (fun u => (ta * bb j % 998244353) ^ u) % 998244353 * ov % 998244353 else 0)) t) % 998244353) % 998244353 + al * (sg cn (fun t => f ((t * 3 + 1) * 16 + i) * (fun j => (if j < sz then sg sz (fun u => (ta * bb j % 998244353) ^ u) % 998244353 * ov % 998244353 else 0)) t) % 998244353) % 998244353) % 998244353 + sg cn (fun t => f ((t * 3 + 2) * 16 + i) * (fun j => (if j < sz then sg sz (fun u => (ta * bb j % 998244353) ^ u) % 998244353 * ov % 998244353 else 0)) t) % 998244353) % 998244353) hP rfl (fun t ht => h3 t (by omega))
      have hD := hD.set (p := 2) (e := .inl (cI, 16, .inl (fun x9 => nI ((fun i => ((be * (sg cn (fun t => f ((t * 3 + 0) * 16 + i) * (fun j => (if j < sz then sg sz (fun u => (ta * bb j % 998244353) ^ u) % 998244353 * ov % 998244353 else 0)) t) % 998244353) % 998244353 + al * (sg cn (fun t => f ((t * 3 + 1) * 16 + i) * (fun j => (if j < sz then sg sz (fun u => (ta * bb j % 998244353) ^ u) % 998244353 * ov % 998244353 else 0)) t) % 998244353) % 998244353) % 998244353 + sg cn (fun t => f ((t * 3 + 2) * 16 + i) * (fun j => (if j < sz then sg sz (fun u => (ta * bb j % 998244353) ^ u) % 998244353 * ov % 998244353 else 0)) t) % 998244353) % 998244353) x9)))) rfl
      exact W.vret F.1 F.2.1 hr (fun t ht hW => ⟨rfl, by rw [ht]; exact hP, va_K.moved hW.alike hK, hD, hS.F ht⟩) hS.2.2 dK_mixAll_136
    · refine lv_aload_n F.1 F.2.1 dK_mixAll_61 rfl (lv_at hl 1 rfl) ?_
      refine z_get F hK hP hinK 0 rfl rfl 5 (by decide) rfl wf_K_29 rfl dK_mixAll_62 ?_
      refine lv_aload_n F.1 F.2.1 dK_mixAll_65 rfl (lv_at hl 2 rfl) ?_
      refine z_iconst (v := 0) F (by decide) dK_mixAll_66 ?_
      refine lv_iload_n F.1 F.2.1 dK_mixAll_67 rfl (lv_at hl 0 rfl) ?_
      refine lv_aload_n F.1 F.2.1 dK_mixAll_68 rfl (lv_at hl 1 rfl) ?_
      refine z_get F hK hP hinK 0 rfl rfl 0 (by decide) rfl wf_K_9 rfl dK_mixAll_69 ?_
      refine z_call (z_runV [.int (nI 0), .int (nI i), .ref hW] [.int (nI be)] F (c_columnAt l dC dI cI cL _ 3 4 1 hC hA hW cn f (fun j => (if j < sz then sg sz (fun u => (ta * bb j % 998244353) ^ u) % 998244353 * ov % 998244353 else 0)) 0 i rfl rfl rfl hf hwl (by omega) (by omega) hn) kk_C_columnAt wl_K_55 rfl rfl ⟨Nat.le_of_ble_eq_true rfl, Nat.le_of_ble_eq_true rfl⟩ (z_preVR (q := (RC, TC, 2)) hP hK rfl (q0 := 3) rfl) rfl hl.1 rfl (Nat.le_of_ble_eq_true rfl) dK_mixAll_72 ⟨Nat.zero_le _, Nat.zero_le _⟩) ?_
      refine z_call (z_runS [.int (nI be), .int (nI (sg cn (fun t => f ((t * 3 + 0) * 16 + i) * (fun j => (if j < sz then sg sz (fun u => (ta * bb j % 998244353) ^ u) % 998244353 * ov % 998244353 else 0)) t) % 998244353))] [] F (c_product l be (sg cn (fun t => f ((t * 3 + 0) * 16 + i) * (fun j => (if j < sz then sg sz (fun u => (ta * bb j % 998244353) ^ u) % 998244353 * ov % 998244353 else 0)) t) % 998244353) (Nat.lt_trans (hbe) (by decide)) (Nat.lt_trans (ltP _) (by decide))) kk_F_product wl_K_61 rfl rfl ⟨Nat.le_of_ble_eq_true rfl, Nat.le_of_ble_eq_true rfl⟩ z_preN rfl hl.1 rfl (Nat.le_of_ble_eq_true rfl) dK_mixAll_75 ⟨Nat.zero_le _, Nat.zero_le _⟩) ?_
      refine lv_istore F.1 F.2.1 (lv' := [(4, .int (nI (be * (sg cn (fun t => f ((t * 3 + 0) * 16 + i) * (fun j => (if j < sz then sg sz (fun u => (ta * bb j % 998244353) ^ u) % 998244353 * ov % 998244353 else 0)) t) % 998244353) % 998244353))), (3, .int (nI i)), (0, .ref h0), (1, .ref hC), (2, .ref hD_)]) dK_mixAll_78 hl (by decide) rfl (fun ls hl => ?_)
      refine lv_aload_n F.1 F.2.1 dK_mixAll_80 rfl (lv_at hl 2 rfl) ?_
      refine z_get F hK hP hinK 0 rfl rfl 4 (by decide) rfl wf_K_26 rfl dK_mixAll_81 ?_
      refine lv_aload_n F.1 F.2.1 dK_mixAll_84 rfl (lv_at hl 3 rfl) ?_
      refine z_iconst (v := 1) F (by decide) dK_mixAll_85 ?_
      refine lv_iload_n F.1 F.2.1 dK_mixAll_86 rfl (lv_at hl 1 rfl) ?_
      refine lv_aload_n F.1 F.2.1 dK_mixAll_87 rfl (lv_at hl 2 rfl) ?_
      refine z_get F hK hP hinK 0 rfl rfl 0 (by decide) rfl wf_K_9 rfl dK_mixAll_88 ?_
      refine z_call (z_runV [.int (nI 1), .int (nI i), .ref hW] [.int (nI al)] F (c_columnAt l dC dI cI cL _ 3 4 1 hC hA hW cn f (fun j => (if j < sz then sg sz (fun u => (ta * bb j % 998244353) ^ u) % 998244353 * ov % 998244353 else 0)) 1 i rfl rfl rfl hf hwl (by omega) (by omega) hn) kk_C_columnAt wl_K_55 rfl rfl ⟨Nat.le_of_ble_eq_true rfl, Nat.le_of_ble_eq_true rfl⟩ (z_preVR (q := (RC, TC, 2)) hP hK rfl (q0 := 3) rfl) rfl hl.1 rfl (Nat.le_of_ble_eq_true rfl) dK_mixAll_91 ⟨Nat.zero_le _, Nat.zero_le _⟩) ?_
      refine z_call (z_runS [.int (nI al), .int (nI (sg cn (fun t => f ((t * 3 + 1) * 16 + i) * (fun j => (if j < sz then sg sz (fun u => (ta * bb j % 998244353) ^ u) % 998244353 * ov % 998244353 else 0)) t) % 998244353))] [] F (c_product l al (sg cn (fun t => f ((t * 3 + 1) * 16 + i) * (fun j => (if j < sz then sg sz (fun u => (ta * bb j % 998244353) ^ u) % 998244353 * ov % 998244353 else 0)) t) % 998244353) (Nat.lt_trans (hal) (by decide)) (Nat.lt_trans (ltP _) (by decide))) kk_F_product wl_K_61 rfl rfl ⟨Nat.le_of_ble_eq_true rfl, Nat.le_of_ble_eq_true rfl⟩ z_preN rfl hl.1 rfl (Nat.le_of_ble_eq_true rfl) dK_mixAll_94 ⟨Nat.zero_le _, Nat.zero_le _⟩) ?_
      refine lv_istore F.1 F.2.1 (lv' := [(5, .int (nI (al * (sg cn (fun t => f ((t * 3 + 1) * 16 + i) * (fun j => (if j < sz then sg sz (fun u => (ta * bb j % 998244353) ^ u) % 998244353 * ov % 998244353 else 0)) t) % 998244353) % 998244353))), (4, .int (nI (be * (sg cn (fun t => f ((t * 3 + 0) * 16 + i) * (fun j => (if j < sz then sg sz (fun u => (ta * bb j % 998244353) ^ u) % 998244353 * ov % 998244353 else 0)) t) % 998244353) % 998244353))), (3, .int (nI i)), (0, .ref h0), (1, .ref hC), (2, .ref hD_)]) dK_mixAll_97 hl (by decide) rfl (fun ls hl => ?_)
      refine lv_aload_n F.1 F.2.1 dK_mixAll_99 rfl (lv_at hl 3 rfl) ?_
      refine z_get F hK hP hinK 0 rfl rfl 1 (by decide) rfl wf_K_15 rfl dK_mixAll_100 ?_
      refine lv_iload_n F.1 F.2.1 dK_mixAll_103 rfl (lv_at hl 2 rfl) ?_
      refine lv_iload F.1 F.2.1 dK_mixAll_104 (lv_at hl 1 rfl) ?_
      refine lv_iload F.1 F.2.1 dK_mixAll_106 (lv_at hl 0 rfl) ?_
      refine z_call (z_runS [.int (nI (be * (sg cn (fun t => f ((t * 3 + 0) * 16 + i) * (fun j => (if j < sz then sg sz (fun u => (ta * bb j % 998244353) ^ u) % 998244353 * ov % 998244353 else 0)) t) % 998244353) % 998244353)), .int (nI (al * (sg cn (fun t => f ((t * 3 + 1) * 16 + i) * (fun j => (if j < sz then sg sz (fun u => (ta * bb j % 998244353) ^ u) % 998244353 * ov % 998244353 else 0)) t) % 998244353) % 998244353))] [.int (nI i), .ref hX] F (c_sum l (be * (sg cn (fun t => f ((t * 3 + 0) * 16 + i) * (fun j => (if j < sz then sg sz (fun u => (ta * bb j % 998244353) ^ u) % 998244353 * ov % 998244353 else 0)) t) % 998244353) % 998244353) (al * (sg cn (fun t => f ((t * 3 + 1) * 16 + i) * (fun j => (if j < sz then sg sz (fun u => (ta * bb j % 998244353) ^ u) % 998244353 * ov % 998244353 else 0)) t) % 998244353) % 998244353) (ltP _) (ltP _)) kk_F_sum wl_K_66 rfl rfl ⟨Nat.le_of_ble_eq_true rfl, Nat.le_of_ble_eq_true rfl⟩ z_preN rfl hl.1 rfl (Nat.le_of_ble_eq_true rfl) dK_mixAll_108 ⟨Nat.zero_le _, Nat.zero_le _⟩) ?_
      refine lv_aload_n F.1 F.2.1 dK_mixAll_111 rfl (lv_at hl 4 rfl) ?_
      refine z_iconst (v := 2) F (by decide) dK_mixAll_112 ?_
      refine lv_iload_n F.1 F.2.1 dK_mixAll_113 rfl (lv_at hl 2 rfl) ?_
      refine lv_aload_n F.1 F.2.1 dK_mixAll_114 rfl (lv_at hl 3 rfl) ?_
      refine z_get F hK hP hinK 0 rfl rfl 0 (by decide) rfl wf_K_9 rfl dK_mixAll_115 ?_
      refine z_call (z_runV [.int (nI 2), .int (nI i), .ref hW] [.int (nI ((be * (sg cn (fun t => f ((t * 3 + 0) * 16 + i) * (fun j => (if j < sz then sg sz (fun u => (ta * bb j % 998244353) ^ u) % 998244353 * ov % 998244353 else 0)) t) % 998244353) % 998244353 + al * (sg cn (fun t => f ((t * 3 + 1) * 16 + i) * (fun j => (if j < sz then sg sz (fun u => (ta * bb j % 998244353) ^ u) % 998244353 * ov % 998244353 else 0)) t) % 998244353) % 998244353) % 998244353)), .int (nI i), .ref hX] F (c_columnAt l dC dI cI cL _ 3 4 1 hC hA hW cn f (fun j => (if j < sz then sg sz (fun u => (ta * bb j % 998244353) ^ u) % 998244353 * ov % 998244353 else 0)) 2 i rfl rfl rfl hf hwl (by omega) (by omega) hn) kk_C_columnAt wl_K_55 rfl rfl ⟨Nat.le_of_ble_eq_true rfl, Nat.le_of_ble_eq_true rfl⟩ (z_preVR (q := (RC, TC, 2)) hP hK rfl (q0 := 3) rfl) rfl hl.1 rfl (Nat.le_of_ble_eq_true rfl) dK_mixAll_118 ⟨Nat.zero_le _, Nat.zero_le _⟩) ?_
      refine z_call (z_runS [.int (nI ((be * (sg cn (fun t => f ((t * 3 + 0) * 16 + i) * (fun j => (if j < sz then sg sz (fun u => (ta * bb j % 998244353) ^ u) % 998244353 * ov % 998244353 else 0)) t) % 998244353) % 998244353 + al * (sg cn (fun t => f ((t * 3 + 1) * 16 + i) * (fun j => (if j < sz then sg sz (fun u => (ta * bb j % 998244353) ^ u) % 998244353 * ov % 998244353 else 0)) t) % 998244353) % 998244353) % 998244353)), .int (nI (sg cn (fun t => f ((t * 3 + 2) * 16 + i) * (fun j => (if j < sz then sg sz (fun u => (ta * bb j % 998244353) ^ u) % 998244353 * ov % 998244353 else 0)) t) % 998244353))] [.int (nI i), .ref hX] F (c_sum l ((be * (sg cn (fun t => f ((t * 3 + 0) * 16 + i) * (fun j => (if j < sz then sg sz (fun u => (ta * bb j % 998244353) ^ u) % 998244353 * ov % 998244353 else 0)) t) % 998244353) % 998244353 + al * (sg cn (fun t => f ((t * 3 + 1) * 16 + i) * (fun j => (if j < sz then sg sz (fun u => (ta * bb j % 998244353) ^ u) % 998244353 * ov % 998244353 else 0)) t) % 998244353) % 998244353) % 998244353) (sg cn (fun t => f ((t * 3 + 2) * 16 + i) * (fun j => (if j < sz then sg sz (fun u => (ta * bb j % 998244353) ^ u) % 998244353 * ov % 998244353 else 0)) t) % 998244353) (ltP _) (ltP _)) kk_F_sum wl_K_66 rfl rfl ⟨Nat.le_of_ble_eq_true rfl, Nat.le_of_ble_eq_true rfl⟩ z_preN rfl hl.1 rfl (Nat.le_of_ble_eq_true rfl) dK_mixAll_121 ⟨Nat.zero_le _, Nat.zero_le _⟩) ?_
      refine z_iast F hK hP hD hS 2 0 rfl rfl (by omega) (by decide) dK_mixAll_124 (fun H locs hP hD hS => ?_)
      have hP : va_P (dC, dI) vwCl ((h0, .inr (2, [.ref hW, .ref hX, .int (z_b md), .int (nI ta), .int (nI al), .int (nI be), .int (nI ga), .int (nI de), .int (nI ((pw ta sz + 998244353 - 1) % 998244353))])) :: (hW, .inl (cI, 16, .inl (fun x9 => nI (((fun j => (if j < sz then sg sz (fun u => (ta * bb j % 998244353) ^ u) % 998244353 * ov % 998244353 else 0))) x9)))) :: (hX, .inl (cI, 16, .inl (fun x9 => nI ((va_up o i (((be * (sg cn (fun t => f ((t * 3 + 0) * 16 + i) * (fun j => (if j < sz then sg sz (fun u => (ta * bb j % 998244353) ^ u) % 998244353 * ov % 998244353 else 0)) t) % 998244353) % 998244353 + al * (sg cn (fun t => f ((t * 3 + 1) * 16 + i) * (fun j => (if j < sz then sg sz (fun u => (ta * bb j % 998244353) ^ u) % 998244353 * ov % 998244353 else 0)) t) % 998244353) % 998244353) % 998244353 + sg cn (fun t => f ((t * 3 + 2) * 16 + i) * (fun j => (if j < sz then sg sz (fun u => (ta * bb j % 998244353) ^ u) % 998244353 * ov % 998244353 else 0)) t) % 998244353) % 998244353)) x9)))) :: (hC, .inr (0, [.ref hA, .int (nI cn)])) :: (hA, .inl (cI, 816, .inl (fun x9 => nI (f x9)))) :: (hD_, .inr (1, [.ref hB, .int (nI sz), .int (nI ov)])) :: (hB, .inl (cI, 16, .inl (fun x9 => nI (bb x9)))) :: wr) H := hP
      have hD : va_D A ((h0, .inr (2, [.ref hW, .ref hX, .int (z_b md), .int (nI ta), .int (nI al), .int (nI be), .int (nI ga), .int (nI de), .int (nI ((pw ta sz + 998244353 - 1) % 998244353))])) :: (hW, .inl (cI, 16, .inl (fun x9 => nI (((fun j => (if j < sz then sg sz (fun u => (ta * bb j % 998244353) ^ u) % 998244353 * ov % 998244353 else 0))) x9)))) :: (hX, .inl (cI, 16, .inl (fun x9 => nI ((va_up o i (((be * (sg cn (fun t => f ((t * 3 + 0) * 16 + i) * (fun j => (if j < sz then sg sz (fun u => (ta * bb j % 998244353) ^ u) % 998244353 * ov % 998244353 else 0)) t) % 998244353) % 998244353 + al * (sg cn (fun t => f ((t * 3 + 1) * 16 + i) * (fun j => (if j < sz then sg sz (fun u => (ta * bb j % 998244353) ^ u) % 998244353 * ov % 998244353 else 0)) t) % 998244353) % 998244353) % 998244353 + sg cn (fun t => f ((t * 3 + 2) * 16 + i) * (fun j => (if j < sz then sg sz (fun u => (ta * bb j % 998244353) ^ u) % 998244353 * ov % 998244353 else 0)) t) % 998244353) % 998244353)) x9)))) :: (hC, .inr (0, [.ref hA, .int (nI cn)])) :: (hA, .inl (cI, 816, .inl (fun x9 => nI (f x9)))) :: (hD_, .inr (1, [.ref hB, .int (nI sz), .int (nI ov)])) :: (hB, .inl (cI, 16, .inl (fun x9 => nI (bb x9)))) :: wr) := hD
      refine lv_iinc F.1 F.2.1 (k := 2) (v := nI (i + 1)) (lv' := [(3, .int (nI (i + 1))), (5, .int (nI (al * (sg cn (fun t => f ((t * 3 + 1) * 16 + i) * (fun j => (if j < sz then sg sz (fun u => (ta * bb j % 998244353) ^ u) % 998244353 * ov % 998244353 else 0)) t) % 998244353) % 998244353))), (4, .int (nI (be * (sg cn (fun t => f ((t * 3 + 0) * 16 + i) * (fun j => (if j < sz then sg sz (fun u => (ta * bb j % 998244353) ^ u) % 998244353 * ov % 998244353 else 0)) t) % 998244353) % 998244353))), (0, .ref h0), (1, .ref hC), (2, .ref hD_)]) dK_mixAll_125 hl rfl (nI_1 i) (by decide) rfl (fun ls hl => ?_)
      refine lv_goto F.1 F.2.1 (tgt := 55) dK_mixAll_128 rfl ?_
      have hl : lv_has ls 6 [(3, .int (nI ((i + 1)))), (0, .ref h0), (1, .ref hC), (2, .ref hD_)] := lv_sub hl [0, 3, 4, 5] rfl
      exact ih2 (by omega) (va_up o i (((be * (sg cn (fun t => f ((t * 3 + 0) * 16 + i) * (fun j => (if j < sz then sg sz (fun u => (ta * bb j % 998244353) ^ u) % 998244353 * ov % 998244353 else 0)) t) % 998244353) % 998244353 + al * (sg cn (fun t => f ((t * 3 + 1) * 16 + i) * (fun j => (if j < sz then sg sz (fun u => (ta * bb j % 998244353) ^ u) % 998244353 * ov % 998244353 else 0)) t) % 998244353) % 998244353) % 998244353 + sg cn (fun t => f ((t * 3 + 2) * 16 + i) * (fun j => (if j < sz then sg sz (fun u => (ta * bb j % 998244353) ^ u) % 998244353 * ov % 998244353 else 0)) t) % 998244353) % 998244353)) ls H locs (fun t ht => by by_cases e9 : t = i; (rw [e9, up_at]); (rw [up_ne _ _ e9]; exact h3 t (by omega))) hP hD hS hl
  · refine lv_aload_n F.1 F.2.1 dK_mixAll_20 rfl (lv_at hl 1 rfl) ?_
    refine z_get F hK hP hinK 0 rfl rfl 0 (by decide) rfl wf_K_9 rfl dK_mixAll_21 ?_
    refine lv_iload_n F.1 F.2.1 dK_mixAll_24 rfl (lv_at hl 0 rfl) ?_
    refine lv_iload_n F.1 F.2.1 dK_mixAll_25 rfl (lv_at hl 0 rfl) ?_
    refine lv_aload_n F.1 F.2.1 dK_mixAll_26 rfl (lv_at hl 3 rfl) ?_
    refine z_call (z_runV [] [.int (nI j), .int (nI j), .ref hW] F (c_size l dC dI cI cL _ 5 hD_ hB sz ov rfl) kk_D_size wl_K_47 rfl rfl ⟨Nat.le_of_ble_eq_true rfl, Nat.le_of_ble_eq_true rfl⟩ (z_preVR (q := (RD, TD, 3)) hP hK rfl (q0 := 5) rfl) rfl hl.1 rfl (Nat.le_of_ble_eq_true rfl) dK_mixAll_27 ⟨Nat.zero_le _, Nat.zero_le _⟩) ?_
    refine z_icmp_ge F (by omega) (by omega) (tgt := 45) dK_mixAll_30 rfl (fun h6 => ?_) (fun h6 => ?_)
    · refine z_iconst (v := 0) F (by decide) dK_mixAll_45 ?_
      refine z_iast F hK hP hD hS 1 0 rfl rfl (by omega) (by decide) dK_mixAll_46 (fun H locs hP hD hS => ?_)
      have hP : va_P (dC, dI) vwCl ((h0, .inr (2, [.ref hW, .ref hX, .int (z_b md), .int (nI ta), .int (nI al), .int (nI be), .int (nI ga), .int (nI de), .int (nI ((pw ta sz + 998244353 - 1) % 998244353))])) :: (hW, .inl (cI, 16, .inl (fun x9 => nI ((va_up o j 0) x9)))) :: (hX, .inl (cI, 16, .inl (fun x9 => nI (x x9)))) :: (hC, .inr (0, [.ref hA, .int (nI cn)])) :: (hA, .inl (cI, 816, .inl (fun x9 => nI (f x9)))) :: (hD_, .inr (1, [.ref hB, .int (nI sz), .int (nI ov)])) :: (hB, .inl (cI, 16, .inl (fun x9 => nI (bb x9)))) :: wr) H := hP
      have hD : va_D A ((h0, .inr (2, [.ref hW, .ref hX, .int (z_b md), .int (nI ta), .int (nI al), .int (nI be), .int (nI ga), .int (nI de), .int (nI ((pw ta sz + 998244353 - 1) % 998244353))])) :: (hW, .inl (cI, 16, .inl (fun x9 => nI ((va_up o j 0) x9)))) :: (hX, .inl (cI, 16, .inl (fun x9 => nI (x x9)))) :: (hC, .inr (0, [.ref hA, .int (nI cn)])) :: (hA, .inl (cI, 816, .inl (fun x9 => nI (f x9)))) :: (hD_, .inr (1, [.ref hB, .int (nI sz), .int (nI ov)])) :: (hB, .inl (cI, 16, .inl (fun x9 => nI (bb x9)))) :: wr) := hD
      refine lv_iinc F.1 F.2.1 (k := 0) (v := nI (j + 1)) (lv' := [(3, .int (nI (j + 1))), (0, .ref h0), (1, .ref hC), (2, .ref hD_)]) dK_mixAll_47 hl rfl (nI_1 j) (by decide) rfl (fun ls hl => ?_)
      refine lv_goto F.1 F.2.1 (tgt := 14) dK_mixAll_50 rfl ?_
      have hl : lv_has ls 6 [(3, .int (nI ((j + 1)))), (0, .ref h0), (1, .ref hC), (2, .ref hD_)] := lv_sub hl [0, 1, 2, 3] rfl
      exact ih (by omega) (va_up o j (0)) ls H locs (fun t ht => by by_cases e9 : t = j; (rw [e9, up_at]; exact (if_neg (by omega)).symm); (rw [up_ne _ _ e9]; exact h2 t (by omega))) hP hD hS hl
    · refine lv_aload_n F.1 F.2.1 dK_mixAll_33 rfl (lv_at hl 3 rfl) ?_
      refine lv_iload_n F.1 F.2.1 dK_mixAll_34 rfl (lv_at hl 0 rfl) ?_
      refine lv_aload_n F.1 F.2.1 dK_mixAll_35 rfl (lv_at hl 1 rfl) ?_
      refine z_get F hK hP hinK 0 rfl rfl 3 (by decide) rfl wf_K_22 rfl dK_mixAll_36 ?_
      refine z_call (z_runV [.int (nI j), .int (nI ta)] [.int (nI j), .ref hW] F (c_weight l dC dI cI cL _ 5 6 hD_ hB sz ov bb j ta rfl rfl hbb ho (by omega) ht hz) kk_D_weight wl_K_51 rfl rfl ⟨Nat.le_of_ble_eq_true rfl, Nat.le_of_ble_eq_true rfl⟩ (z_preVR (q := (RD, TD, 3)) hP hK rfl (q0 := 5) rfl) rfl hl.1 rfl (Nat.le_of_ble_eq_true rfl) dK_mixAll_39 ⟨Nat.zero_le _, Nat.zero_le _⟩) ?_
      refine lv_goto F.1 F.2.1 (tgt := 46) dK_mixAll_42 rfl ?_
      refine z_iast F hK hP hD hS 1 0 rfl rfl (by omega) (by decide) dK_mixAll_46 (fun H locs hP hD hS => ?_)
      have hP : va_P (dC, dI) vwCl ((h0, .inr (2, [.ref hW, .ref hX, .int (z_b md), .int (nI ta), .int (nI al), .int (nI be), .int (nI ga), .int (nI de), .int (nI ((pw ta sz + 998244353 - 1) % 998244353))])) :: (hW, .inl (cI, 16, .inl (fun x9 => nI ((va_up o j (sg sz (fun u => (ta * bb j % 998244353) ^ u) % 998244353 * ov % 998244353)) x9)))) :: (hX, .inl (cI, 16, .inl (fun x9 => nI (x x9)))) :: (hC, .inr (0, [.ref hA, .int (nI cn)])) :: (hA, .inl (cI, 816, .inl (fun x9 => nI (f x9)))) :: (hD_, .inr (1, [.ref hB, .int (nI sz), .int (nI ov)])) :: (hB, .inl (cI, 16, .inl (fun x9 => nI (bb x9)))) :: wr) H := hP
      have hD : va_D A ((h0, .inr (2, [.ref hW, .ref hX, .int (z_b md), .int (nI ta), .int (nI al), .int (nI be), .int (nI ga), .int (nI de), .int (nI ((pw ta sz + 998244353 - 1) % 998244353))])) :: (hW, .inl (cI, 16, .inl (fun x9 => nI ((va_up o j (sg sz (fun u => (ta * bb j % 998244353) ^ u) % 998244353 * ov % 998244353)) x9)))) :: (hX, .inl (cI, 16, .inl (fun x9 => nI (x x9)))) :: (hC, .inr (0, [.ref hA, .int (nI cn)])) :: (hA, .inl (cI, 816, .inl (fun x9 => nI (f x9)))) :: (hD_, .inr (1, [.ref hB, .int (nI sz), .int (nI ov)])) :: (hB, .inl (cI, 16, .inl (fun x9 => nI (bb x9)))) :: wr) := hD
      refine lv_iinc F.1 F.2.1 (k := 0) (v := nI (j + 1)) (lv' := [(3, .int (nI (j + 1))), (0, .ref h0), (1, .ref hC), (2, .ref hD_)]) dK_mixAll_47 hl rfl (nI_1 j) (by decide) rfl (fun ls hl => ?_)
      refine lv_goto F.1 F.2.1 (tgt := 14) dK_mixAll_50 rfl ?_
      have hl : lv_has ls 6 [(3, .int (nI ((j + 1)))), (0, .ref h0), (1, .ref hC), (2, .ref hD_)] := lv_sub hl [0, 1, 2, 3] rfl
      exact ih (by omega) (va_up o j (sg sz (fun u => (ta * bb j % 998244353) ^ u) % 998244353 * ov % 998244353)) ls H locs (fun t ht => by by_cases e9 : t = j; (rw [e9, up_at]; exact (if_pos (by omega)).symm); (rw [up_ne _ _ e9]; exact h2 t (by omega))) hP hD hS hl
end
section
set_option maxHeartbeats 4000000 in
set_option maxRecDepth 100000 in
theorem cq_setElement (l : Launch) (dC : Nat → ClassId) (dI : Nat → Nat → Nat) (cI cL : ClassId) (wr : va_W) (zz : Nat) (h0 hE hQ : Nat) (md : Bool) (w : Nat → Nat) (k v : Nat) (hk : k < 3) : Met l yQ_setElement (zW yQ_setElement cQ_setElement 3 none) ({ frames := 0, cells := 0, slots := 0, locals := 0 }) (va_Pc [.ref h0, .int (nI k), .int (nI v)] (z_P (dC, dI) vwCl [(cI, .int), (cL, .long)] zz ((h0, .inr (3, [.ref hE, .ref hQ, .int (z_b md)])) :: (hE, .inl (cI, 3, .inl (fun x9 => nI (w x9)))) :: wr))) (z_Q (dC, dI) vwCl [(cI, .int), (cL, .long)] none ((h0, .inr (3, [.ref hE, .ref hQ, .int (z_b md)])) :: (hE, .inl (cI, 3, .inl (fun x9 => nI ((va_up w k v) x9)))) :: wr) (va_A ((h0, .inr (3, [.ref hE, .ref hQ, .int (z_b md)])) :: (hE, .inl (cI, 3, .inl (fun x9 => nI (w x9)))) :: wr) zz)) 0 0 (va_A ((h0, .inr (3, [.ref hE, .ref hQ, .int (z_b md)])) :: (hE, .inl (cI, 3, .inl (fun x9 => nI (w x9)))) :: wr) zz) := by
  refine Met.ofW (cc := cQ_setElement) (maxL := 3) (ret := none) (by decide) rfl ?_
  intro p e s m args below meth c s₁ B hml hv
  obtain ⟨rfl, hsz, hP, hK, hD0⟩ := hv
  have F : CallFix p m c cQ_setElement 3 s _ zT RQ := ⟨B.exec, B.bytes, hml, findClass_of_methodNamed B.named, fun w h => atoms_spec (ws := (zW yQ_setElement cQ_setElement 3 none)) B.pre w (List.mem_cons_of_mem _ h)⟩
  have hr := B.returns
  have hlocks := B.notSynchronized
  subst hsz
  have hD := hD0.self (sz := s.heap.size)
  generalize hAe : va_A ((h0, .inr (3, [.ref hE, .ref hQ, .int (z_b md)])) :: (hE, .inl (cI, 3, .inl (fun x9 => nI (w x9)))) :: wr) s.heap.size = A at hD ⊢
  have hAA : ∀ q : Nat, s.heap.size ≤ q → A q := fun q h => by rw [← hAe]; exact Or.inr h
  have hS : va_S A s.heap s.heap [] := va_S.rf
  have hl := lv_entry ([.ref h0, .int (nI k), .int (nI v)]) (n := 3) (Nat.le_of_ble_eq_true rfl)
  rw [lg_entry_eq]
  generalize (lg_sl ([.ref h0, .int (nI k), .int (nI v)]) ++ List.replicate (3 - (lg_sl ([.ref h0, .int (nI k), .int (nI v)])).length) Slot.unset).toArray = ls at hl ⊢
  have hl : lv_has ls 3 [(0, .ref h0), (1, .int (nI k)), (2, .int (nI v))] := hl
  refine lv_aload_n F.1 F.2.1 dQ_setElement_0 rfl (lv_at hl 0 rfl) ?_
  refine z_get F hK hP hinQ 0 rfl rfl 0 (by decide) rfl wf_Q_9 rfl dQ_setElement_1 ?_
  refine lv_iload_n F.1 F.2.1 dQ_setElement_4 rfl (lv_at hl 1 rfl) ?_
  refine lv_iload_n F.1 F.2.1 dQ_setElement_5 rfl (lv_at hl 2 rfl) ?_
  refine z_iast F hK hP hD hS 1 0 rfl rfl (by omega) (by decide) dQ_setElement_6 (fun H locs hP hD hS => ?_)
  have hP : va_P (dC, dI) vwCl ((h0, .inr (3, [.ref hE, .ref hQ, .int (z_b md)])) :: (hE, .inl (cI, 3, .inl (fun x9 => nI ((va_up w k v) x9)))) :: wr) H := hP
  have hD : va_D A ((h0, .inr (3, [.ref hE, .ref hQ, .int (z_b md)])) :: (hE, .inl (cI, 3, .inl (fun x9 => nI ((va_up w k v) x9)))) :: wr) := hD
  exact W.vret F.1 F.2.1 hr (fun t ht hW => ⟨rfl, by rw [ht]; exact hP, va_K.moved hW.alike hK, hD, hS.F ht⟩) hS.2.2 dQ_setElement_7
set_option maxHeartbeats 4000000 in
set_option maxRecDepth 100000 in
theorem cq_keep (l : Launch) (dC : Nat → ClassId) (dI : Nat → Nat → Nat) (cI cL : ClassId) (wr : va_W) (zz : Nat) (h0 hE hQ : Nat) (md : Bool) (w : Nat → Nat) (a b c2 : Nat)  : Met l yQ_keep (zW yQ_keep cQ_keep 4 none) ({ frames := 0, cells := 0, slots := 0, locals := 0 }) (va_Pc [.ref h0, .int (nI a), .int (nI b), .int (nI c2)] (z_P (dC, dI) vwCl [(cI, .int), (cL, .long)] zz ((h0, .inr (3, [.ref hE, .ref hQ, .int (z_b md)])) :: (hE, .inl (cI, 3, .inl (fun x9 => nI (w x9)))) :: wr))) (z_Q (dC, dI) vwCl [(cI, .int), (cL, .long)] none ((h0, .inr (3, [.ref hE, .ref hQ, .int (z_b true)])) :: (hE, .inl (cI, 3, .inl (fun x9 => nI ((va_up (va_up (va_up w 0 a) 1 b) 2 c2) x9)))) :: wr) (va_A ((h0, .inr (3, [.ref hE, .ref hQ, .int (z_b md)])) :: (hE, .inl (cI, 3, .inl (fun x9 => nI (w x9)))) :: wr) zz)) 0 0 (va_A ((h0, .inr (3, [.ref hE, .ref hQ, .int (z_b md)])) :: (hE, .inl (cI, 3, .inl (fun x9 => nI (w x9)))) :: wr) zz) := by
  refine Met.ofW (cc := cQ_keep) (maxL := 4) (ret := none) (by decide) rfl ?_
  intro p e s m args below meth c s₁ B hml hv
  obtain ⟨rfl, hsz, hP, hK, hD0⟩ := hv
  have F : CallFix p m c cQ_keep 4 s _ zT RQ := ⟨B.exec, B.bytes, hml, findClass_of_methodNamed B.named, fun w h => atoms_spec (ws := (zW yQ_keep cQ_keep 4 none)) B.pre w (List.mem_cons_of_mem _ h)⟩
  have hr := B.returns
  have hlocks := B.notSynchronized
  subst hsz
  have hD := hD0.self (sz := s.heap.size)
  generalize hAe : va_A ((h0, .inr (3, [.ref hE, .ref hQ, .int (z_b md)])) :: (hE, .inl (cI, 3, .inl (fun x9 => nI (w x9)))) :: wr) s.heap.size = A at hD ⊢
  have hAA : ∀ q : Nat, s.heap.size ≤ q → A q := fun q h => by rw [← hAe]; exact Or.inr h
  have hS : va_S A s.heap s.heap [] := va_S.rf
  have hl := lv_entry ([.ref h0, .int (nI a), .int (nI b), .int (nI c2)]) (n := 4) (Nat.le_of_ble_eq_true rfl)
  rw [lg_entry_eq]
  generalize (lg_sl ([.ref h0, .int (nI a), .int (nI b), .int (nI c2)]) ++ List.replicate (4 - (lg_sl ([.ref h0, .int (nI a), .int (nI b), .int (nI c2)])).length) Slot.unset).toArray = ls at hl ⊢
  have hl : lv_has ls 4 [(0, .ref h0), (1, .int (nI a)), (2, .int (nI b)), (3, .int (nI c2))] := hl
  refine lv_aload_n F.1 F.2.1 dQ_keep_0 rfl (lv_at hl 0 rfl) ?_
  refine z_get F hK hP hinQ 0 rfl rfl 0 (by decide) rfl wf_Q_9 rfl dQ_keep_1 ?_
  refine z_iconst (v := 0) F (by decide) dQ_keep_4 ?_
  refine lv_iload_n F.1 F.2.1 dQ_keep_5 rfl (lv_at hl 1 rfl) ?_
  refine z_iast F hK hP hD hS 1 0 rfl rfl (by omega) (by decide) dQ_keep_6 (fun H locs hP hD hS => ?_)
  have hP : va_P (dC, dI) vwCl ((h0, .inr (3, [.ref hE, .ref hQ, .int (z_b md)])) :: (hE, .inl (cI, 3, .inl (fun x9 => nI ((va_up w 0 a) x9)))) :: wr) H := hP
  have hD : va_D A ((h0, .inr (3, [.ref hE, .ref hQ, .int (z_b md)])) :: (hE, .inl (cI, 3, .inl (fun x9 => nI ((va_up w 0 a) x9)))) :: wr) := hD
  refine lv_aload_n F.1 F.2.1 dQ_keep_7 rfl (lv_at hl 0 rfl) ?_
  refine z_get F hK hP hinQ 0 rfl rfl 0 (by decide) rfl wf_Q_9 rfl dQ_keep_8 ?_
  refine z_iconst (v := 1) F (by decide) dQ_keep_11 ?_
  refine lv_iload_n F.1 F.2.1 dQ_keep_12 rfl (lv_at hl 2 rfl) ?_
  refine z_iast F hK hP hD hS 1 0 rfl rfl (by omega) (by decide) dQ_keep_13 (fun H locs hP hD hS => ?_)
  have hP : va_P (dC, dI) vwCl ((h0, .inr (3, [.ref hE, .ref hQ, .int (z_b md)])) :: (hE, .inl (cI, 3, .inl (fun x9 => nI ((va_up (va_up w 0 a) 1 b) x9)))) :: wr) H := hP
  have hD : va_D A ((h0, .inr (3, [.ref hE, .ref hQ, .int (z_b md)])) :: (hE, .inl (cI, 3, .inl (fun x9 => nI ((va_up (va_up w 0 a) 1 b) x9)))) :: wr) := hD
  refine lv_aload_n F.1 F.2.1 dQ_keep_14 rfl (lv_at hl 0 rfl) ?_
  refine z_get F hK hP hinQ 0 rfl rfl 0 (by decide) rfl wf_Q_9 rfl dQ_keep_15 ?_
  refine z_iconst (v := 2) F (by decide) dQ_keep_18 ?_
  refine lv_iload_n F.1 F.2.1 dQ_keep_19 rfl (lv_at hl 3 rfl) ?_
  refine z_iast F hK hP hD hS 1 0 rfl rfl (by omega) (by decide) dQ_keep_20 (fun H locs hP hD hS => ?_)
  have hP : va_P (dC, dI) vwCl ((h0, .inr (3, [.ref hE, .ref hQ, .int (z_b md)])) :: (hE, .inl (cI, 3, .inl (fun x9 => nI ((va_up (va_up (va_up w 0 a) 1 b) 2 c2) x9)))) :: wr) H := hP
  have hD : va_D A ((h0, .inr (3, [.ref hE, .ref hQ, .int (z_b md)])) :: (hE, .inl (cI, 3, .inl (fun x9 => nI ((va_up (va_up (va_up w 0 a) 1 b) 2 c2) x9)))) :: wr) := hD
  refine lv_aload_n F.1 F.2.1 dQ_keep_21 rfl (lv_at hl 0 rfl) ?_
  refine z_iconst (v := 1) F (by decide) dQ_keep_22 ?_
  refine z_topV (z_b true) (by decide) ?_
  refine z_put F hK hP hD hS hinQ tyQ tyQ_ok nmQ 0 rfl rfl 2 (by decide) rfl rfl wf_Q_18 (rfl) (rfl) (Nat.le_of_ble_eq_true rfl) dQ_keep_23 (fun H locs hP hD hS => ?_)
  have hP : va_P (dC, dI) vwCl ((h0, .inr (3, [.ref hE, .ref hQ, .int (z_b true)])) :: (hE, .inl (cI, 3, .inl (fun x9 => nI ((va_up (va_up (va_up w 0 a) 1 b) 2 c2) x9)))) :: wr) H := hP
  have hD : va_D A ((h0, .inr (3, [.ref hE, .ref hQ, .int (z_b true)])) :: (hE, .inl (cI, 3, .inl (fun x9 => nI ((va_up (va_up (va_up w 0 a) 1 b) 2 c2) x9)))) :: wr) := hD
  exact W.vret F.1 F.2.1 hr (fun t ht hW => ⟨rfl, by rw [ht]; exact hP, va_K.moved hW.alike hK, hD, hS.F ht⟩) hS.2.2 dQ_keep_26
set_option maxHeartbeats 4000000 in
set_option maxRecDepth 100000 in
theorem cq_divide (l : Launch) (dC : Nat → ClassId) (dI : Nat → Nat → Nat) (cI cL : ClassId) (wr : va_W) (zz : Nat) (h0 hE hQ hL hR sz : Nat) (md : Bool) (q lf rt : Nat → Nat) (hlf : ∀ j, lf j < 998244353) (hrt : ∀ j, rt j < 998244353) (hz : sz ≤ 16) : Met l yQ_divide (zW yQ_divide cQ_divide 7 none) ({ frames := 1, cells := 0, slots := 0, locals := 22 }) (va_Pc [.ref h0, .ref hL, .ref hR, .int (nI sz)] (z_P (dC, dI) vwCl [(cI, .int), (cL, .long)] zz ((h0, .inr (3, [.ref hE, .ref hQ, .int (z_b md)])) :: (hQ, .inl (cI, 16, .inl (fun x9 => nI (q x9)))) :: (hL, .inl (cI, 16, .inl (fun x9 => nI (lf x9)))) :: (hR, .inl (cI, 16, .inl (fun x9 => nI (rt x9)))) :: wr))) (z_Q (dC, dI) vwCl [(cI, .int), (cL, .long)] none ((h0, .inr (3, [.ref hE, .ref hQ, .int (z_b md)])) :: (hQ, .inl (cI, 16, .inl (fun x9 => nI (((fun k => sg (sz - (k + 1)) (fun t => lf (k + 1 + t) * rt (k + sz - (k + 1 + t))) % 998244353)) x9)))) :: (hL, .inl (cI, 16, .inl (fun x9 => nI (lf x9)))) :: (hR, .inl (cI, 16, .inl (fun x9 => nI (rt x9)))) :: wr) (va_A ((h0, .inr (3, [.ref hE, .ref hQ, .int (z_b md)])) :: (hQ, .inl (cI, 16, .inl (fun x9 => nI (q x9)))) :: (hL, .inl (cI, 16, .inl (fun x9 => nI (lf x9)))) :: (hR, .inl (cI, 16, .inl (fun x9 => nI (rt x9)))) :: wr) zz)) 0 0 (va_A ((h0, .inr (3, [.ref hE, .ref hQ, .int (z_b md)])) :: (hQ, .inl (cI, 16, .inl (fun x9 => nI (q x9)))) :: (hL, .inl (cI, 16, .inl (fun x9 => nI (lf x9)))) :: (hR, .inl (cI, 16, .inl (fun x9 => nI (rt x9)))) :: wr) zz) := by
  refine Met.ofW (cc := cQ_divide) (maxL := 7) (ret := none) (by decide) rfl ?_
  intro p e s m args below meth c s₁ B hml hv
  obtain ⟨rfl, hsz, hP, hK, hD0⟩ := hv
  have F : CallFix p m c cQ_divide 7 s _ zT RQ := ⟨B.exec, B.bytes, hml, findClass_of_methodNamed B.named, fun w h => atoms_spec (ws := (zW yQ_divide cQ_divide 7 none)) B.pre w (List.mem_cons_of_mem _ h)⟩
  have hr := B.returns
  have hlocks := B.notSynchronized
  subst hsz
  have hD := hD0.self (sz := s.heap.size)
  generalize hAe : va_A ((h0, .inr (3, [.ref hE, .ref hQ, .int (z_b md)])) :: (hQ, .inl (cI, 16, .inl (fun x9 => nI (q x9)))) :: (hL, .inl (cI, 16, .inl (fun x9 => nI (lf x9)))) :: (hR, .inl (cI, 16, .inl (fun x9 => nI (rt x9)))) :: wr) s.heap.size = A at hD ⊢
  have hAA : ∀ q : Nat, s.heap.size ≤ q → A q := fun q h => by rw [← hAe]; exact Or.inr h
  have hS : va_S A s.heap s.heap [] := va_S.rf
  have hl := lv_entry ([.ref h0, .ref hL, .ref hR, .int (nI sz)]) (n := 7) (Nat.le_of_ble_eq_true rfl)
  rw [lg_entry_eq]
  generalize (lg_sl ([.ref h0, .ref hL, .ref hR, .int (nI sz)]) ++ List.replicate (7 - (lg_sl ([.ref h0, .ref hL, .ref hR, .int (nI sz)])).length) Slot.unset).toArray = ls at hl ⊢
  have hl : lv_has ls 7 [(0, .ref h0), (1, .ref hL), (2, .ref hR), (3, .int (nI sz))] := hl
  refine z_iconst (v := 0) F (by decide) dQ_divide_0 ?_
  refine lv_istore F.1 F.2.1 (lv' := [(4, .int (nI 0)), (0, .ref h0), (1, .ref hL), (2, .ref hR), (3, .int (nI sz))]) dQ_divide_1 hl (by decide) rfl (fun ls hl => ?_)
  have hl : lv_has ls 7 [(4, .int (nI 0)), (0, .ref h0), (1, .ref hL), (2, .ref hR), (3, .int (nI sz))] := lv_sub hl [0, 1, 2, 3, 4] rfl
  refine z_up (E := 16) (P := fun k => ∀ (o : Nat → Nat) (ls : Array Slot) (H : Heap) (locs : List Loc), (∀ t, t < k → o t = (fun k => sg (sz - (k + 1)) (fun t => lf (k + 1 + t) * rt (k + sz - (k + 1 + t))) % 998244353) t) → va_P (dC, dI) vwCl ((h0, .inr (3, [.ref hE, .ref hQ, .int (z_b md)])) :: (hQ, .inl (cI, 16, .inl (fun x9 => nI (o x9)))) :: (hL, .inl (cI, 16, .inl (fun x9 => nI (lf x9)))) :: (hR, .inl (cI, 16, .inl (fun x9 => nI (rt x9)))) :: wr) H → va_D A ((h0, .inr (3, [.ref hE, .ref hQ, .int (z_b md)])) :: (hQ, .inl (cI, 16, .inl (fun x9 => nI (o x9)))) :: (hL, .inl (cI, 16, .inl (fun x9 => nI (lf x9)))) :: (hR, .inl (cI, 16, .inl (fun x9 => nI (rt x9)))) :: wr) → va_S A s.heap H locs → lv_has ls 7 [(4, .int (nI k)), (0, .ref h0), (1, .ref hL), (2, .ref hR), (3, .int (nI sz))] → W p l e _ s m _ below meth c H locs _ _ _ (F0 m 3 ls [])) ?_ 0 (Nat.zero_le _) q ls s.heap [] (fun t h => absurd h (Nat.not_lt_zero t)) hP hD hS hl
  intro k hk ih o ls H locs h2 hP hD hS hl
  refine lv_iload F.1 F.2.1 dQ_divide_3 (lv_at hl 0 rfl) ?_
  refine z_bipush (v := 16) F (by decide) dQ_divide_5 ?_
  refine z_icmp_ge F (by omega) (by omega) (tgt := 69) dQ_divide_7 rfl (fun h1 => ?_) (fun h1 => ?_)
  · have hP := z_fI (k := 1) (fun k => sg (sz - (k + 1)) (fun t => lf (k + 1 + t) * rt (k + sz - (k + 1 + t))) % 998244353) hP rfl (fun t ht => h2 t (by omega))
    have hD := hD.set (p := 1) (e := .inl (cI, 16, .inl (fun x9 => nI ((fun k => sg (sz - (k + 1)) (fun t => lf (k + 1 + t) * rt (k + sz - (k + 1 + t))) % 998244353) x9)))) rfl
    exact W.vret F.1 F.2.1 hr (fun t ht hW => ⟨rfl, by rw [ht]; exact hP, va_K.moved hW.alike hK, hD, hS.F ht⟩) hS.2.2 dQ_divide_69
  · refine z_iconst (v := 0) F (by decide) dQ_divide_10 ?_
    refine lv_istore F.1 F.2.1 (lv' := [(5, .int (nI 0)), (4, .int (nI k)), (0, .ref h0), (1, .ref hL), (2, .ref hR), (3, .int (nI sz))]) dQ_divide_11 hl (by decide) rfl (fun ls hl => ?_)
    refine lv_iload F.1 F.2.1 dQ_divide_13 (lv_at hl 1 rfl) ?_
    refine z_iconst (v := 1) F (by decide) dQ_divide_15 ?_
    refine z_iadd F dQ_divide_16 ?_
    refine lv_istore F.1 F.2.1 (lv' := [(6, .int (nI (k + 1))), (5, .int (nI 0)), (4, .int (nI k)), (0, .ref h0), (1, .ref hL), (2, .ref hR), (3, .int (nI sz))]) dQ_divide_17 hl (by decide) rfl (fun ls hl => ?_)
    have hl : lv_has ls 7 [(6, .int (nI (k + 1 + 0))), (5, .int (nI (sg 0 (fun t => lf (k + 1 + t) * rt (k + sz - (k + 1 + t))) % 998244353))), (4, .int (nI k)), (0, .ref h0), (1, .ref hL), (2, .ref hR), (3, .int (nI sz))] := lv_sub hl [0, 1, 2, 3, 4, 5, 6] rfl
    refine z_up (E := sz - (k + 1)) (P := fun u => ∀  (ls : Array Slot), lv_has ls 7 [(6, .int (nI (k + 1 + u))), (5, .int (nI (sg u (fun t => lf (k + 1 + t) * rt (k + sz - (k + 1 + t))) % 998244353))), (4, .int (nI k)), (0, .ref h0), (1, .ref hL), (2, .ref hR), (3, .int (nI sz))] → W p l e _ s m _ below meth c H locs _ _ _ (F0 m 19 ls [])) ?_ 0 (Nat.zero_le _)  ls  hl
    intro u hu ih2  ls  hl
    refine lv_iload F.1 F.2.1 dQ_divide_19 (lv_at hl 0 rfl) ?_
    refine lv_iload_n F.1 F.2.1 dQ_divide_21 rfl (lv_at hl 6 rfl) ?_
    refine z_icmp_ge F (by omega) (by omega) (tgt := 54) dQ_divide_22 rfl (fun h5 => ?_) (fun h5 => ?_)
    · refine lv_aload_n F.1 F.2.1 dQ_divide_54 rfl (lv_at hl 3 rfl) ?_
      refine z_get F hK hP hinQ 0 rfl rfl 1 (by decide) rfl wf_Q_15 rfl dQ_divide_55 ?_
      refine lv_iload F.1 F.2.1 dQ_divide_58 (lv_at hl 2 rfl) ?_
      refine lv_iload F.1 F.2.1 dQ_divide_60 (lv_at hl 1 rfl) ?_
      refine z_top (sg (sz - (k + 1)) (fun t => lf (k + 1 + t) * rt (k + sz - (k + 1 + t))) % 998244353) (by rw [show u = sz - (k + 1) by omega]) ?_
      refine z_iast F hK hP hD hS 1 0 rfl rfl (by omega) (by decide) dQ_divide_62 (fun H locs hP hD hS => ?_)
      have hP : va_P (dC, dI) vwCl ((h0, .inr (3, [.ref hE, .ref hQ, .int (z_b md)])) :: (hQ, .inl (cI, 16, .inl (fun x9 => nI ((va_up o k (sg (sz - (k + 1)) (fun t => lf (k + 1 + t) * rt (k + sz - (k + 1 + t))) % 998244353)) x9)))) :: (hL, .inl (cI, 16, .inl (fun x9 => nI (lf x9)))) :: (hR, .inl (cI, 16, .inl (fun x9 => nI (rt x9)))) :: wr) H := hP
      have hD : va_D A ((h0, .inr (3, [.ref hE, .ref hQ, .int (z_b md)])) :: (hQ, .inl (cI, 16, .inl (fun x9 => nI ((va_up o k (sg (sz - (k + 1)) (fun t => lf (k + 1 + t) * rt (k + sz - (k + 1 + t))) % 998244353)) x9)))) :: (hL, .inl (cI, 16, .inl (fun x9 => nI (lf x9)))) :: (hR, .inl (cI, 16, .inl (fun x9 => nI (rt x9)))) :: wr) := hD
      refine lv_iinc F.1 F.2.1 (k := 2) (v := nI (k + 1)) (lv' := [(4, .int (nI (k + 1))), (6, .int (nI (k + 1 + u))), (5, .int (nI (sg u (fun t => lf (k + 1 + t) * rt (k + sz - (k + 1 + t))) % 998244353))), (0, .ref h0), (1, .ref hL), (2, .ref hR), (3, .int (nI sz))]) dQ_divide_63 hl rfl (nI_1 k) (by decide) rfl (fun ls hl => ?_)
      refine lv_goto F.1 F.2.1 (tgt := 3) dQ_divide_66 rfl ?_
      have hl : lv_has ls 7 [(4, .int (nI ((k + 1)))), (0, .ref h0), (1, .ref hL), (2, .ref hR), (3, .int (nI sz))] := lv_sub hl [0, 3, 4, 5, 6] rfl
      exact ih (by omega) (va_up o k (sg (sz - (k + 1)) (fun t => lf (k + 1 + t) * rt (k + sz - (k + 1 + t))) % 998244353)) ls H locs (fun t ht => by by_cases e9 : t = k; (rw [e9, up_at]); (rw [up_ne _ _ e9]; exact h2 t (by omega))) hP hD hS hl
    · refine lv_iload F.1 F.2.1 dQ_divide_25 (lv_at hl 1 rfl) ?_
      refine lv_aload_n F.1 F.2.1 dQ_divide_27 rfl (lv_at hl 4 rfl) ?_
      refine lv_iload F.1 F.2.1 dQ_divide_28 (lv_at hl 0 rfl) ?_
      refine z_iald F hK hP 2 0 rfl rfl (by omega) (by decide) dQ_divide_30 ?_
      refine lv_aload_n F.1 F.2.1 dQ_divide_31 rfl (lv_at hl 5 rfl) ?_
      refine lv_iload F.1 F.2.1 dQ_divide_32 (lv_at hl 2 rfl) ?_
      refine lv_iload_n F.1 F.2.1 dQ_divide_34 rfl (lv_at hl 6 rfl) ?_
      refine z_iadd F dQ_divide_35 ?_
      refine lv_iload F.1 F.2.1 dQ_divide_36 (lv_at hl 0 rfl) ?_
      refine z_isub F (by omega) dQ_divide_38 ?_
      refine z_iald F hK hP 3 0 rfl rfl (by omega) (by decide) dQ_divide_39 ?_
      refine z_call (z_runS [.int (nI (lf (k + 1 + u))), .int (nI (rt ((k + sz) - (k + 1 + u))))] [.int (nI (sg u (fun t => lf (k + 1 + t) * rt (k + sz - (k + 1 + t))) % 998244353))] F (c_product l (lf (k + 1 + u)) (rt (k + sz - (k + 1 + u))) (Nat.lt_trans (hlf _) (by decide)) (Nat.lt_trans (hrt _) (by decide))) kk_F_product wl_Q_22 rfl rfl ⟨Nat.le_of_ble_eq_true rfl, Nat.le_of_ble_eq_true rfl⟩ z_preN rfl hl.1 rfl (Nat.le_of_ble_eq_true rfl) dQ_divide_40 ⟨Nat.zero_le _, Nat.zero_le _⟩) ?_
      refine z_call (z_runS [.int (nI (sg u (fun t => lf (k + 1 + t) * rt (k + sz - (k + 1 + t))) % 998244353)), .int (nI ((lf (k + 1 + u)) * (rt (k + sz - (k + 1 + u))) % 998244353))] [] F (c_sum l (sg u (fun t => lf (k + 1 + t) * rt (k + sz - (k + 1 + t))) % 998244353) ((lf (k + 1 + u)) * (rt (k + sz - (k + 1 + u))) % 998244353) (ltP _) (ltP _)) kk_F_sum wl_Q_28 rfl rfl ⟨Nat.le_of_ble_eq_true rfl, Nat.le_of_ble_eq_true rfl⟩ z_preN rfl hl.1 rfl (Nat.le_of_ble_eq_true rfl) dQ_divide_43 ⟨Nat.zero_le _, Nat.zero_le _⟩) ?_
      refine z_top (sg (u + 1) (fun t => lf (k + 1 + t) * rt (k + sz - (k + 1 + t))) % 998244353) (sm1 u (fun t => lf (k + 1 + t) * rt (k + sz - (k + 1 + t)))) ?_
      refine lv_istore F.1 F.2.1 (lv' := [(5, .int (nI (sg (u + 1) (fun t => lf (k + 1 + t) * rt (k + sz - (k + 1 + t))) % 998244353))), (6, .int (nI (k + 1 + u))), (4, .int (nI k)), (0, .ref h0), (1, .ref hL), (2, .ref hR), (3, .int (nI sz))]) dQ_divide_46 hl (by decide) rfl (fun ls hl => ?_)
      refine lv_iinc F.1 F.2.1 (k := 1) (v := nI (k + 1 + u + 1)) (lv' := [(6, .int (nI (k + 1 + u + 1))), (5, .int (nI (sg (u + 1) (fun t => lf (k + 1 + t) * rt (k + sz - (k + 1 + t))) % 998244353))), (4, .int (nI k)), (0, .ref h0), (1, .ref hL), (2, .ref hR), (3, .int (nI sz))]) dQ_divide_48 hl rfl (nI_1 (k + 1 + u)) (by decide) rfl (fun ls hl => ?_)
      refine lv_goto F.1 F.2.1 (tgt := 19) dQ_divide_51 rfl ?_
      have hl : lv_has ls 7 [(6, .int (nI (k + 1 + (u + 1)))), (5, .int (nI (sg (u + 1) (fun t => lf (k + 1 + t) * rt (k + sz - (k + 1 + t))) % 998244353))), (4, .int (nI k)), (0, .ref h0), (1, .ref hL), (2, .ref hR), (3, .int (nI sz))] := lv_sub hl [0, 1, 2, 3, 4, 5, 6] rfl
      exact ih2 (by omega)  ls  hl
end
section
set_option maxHeartbeats 4000000 in
set_option maxRecDepth 100000 in
theorem c_Cinit (l : Launch) (dC : Nat → ClassId) (dI : Nat → Nat → Nat) (cI cL : ClassId) (zz h0 : Nat) : Met l yC_init (zW yC_init cC_init 1 none) ({ frames := 1, cells := 1, slots := 816, locals := 16 }) (va_Pc [.ref h0] (z_P (dC, dI) vwCl [(cI, .int), (cL, .long)] zz [(h0, .inr (0, [.null, .int (nI 0)]))])) (z_QE (dC, dI) vwCl [(cI, .int), (cL, .long)] none (fun hA : Nat => [(h0, .inr (0, [.ref hA, .int (nI 0)])), (hA, .inl (cI, 816, .inl (fun x9 => nI (((fun _ => 0)) x9))))]) (va_A [(h0, .inr (0, [.null, .int (nI 0)]))] zz)) 1 816 (va_A [(h0, .inr (0, [.null, .int (nI 0)]))] zz) := by
  refine Met.ofW (cc := cC_init) (maxL := 1) (ret := none) (by decide) rfl ?_
  intro p e s m args below meth c s₁ B hml hv
  obtain ⟨rfl, hsz, hP, hK, hD0⟩ := hv
  have F : CallFix p m c cC_init 1 s _ zT RC := ⟨B.exec, B.bytes, hml, findClass_of_methodNamed B.named, fun w h => atoms_spec (ws := (zW yC_init cC_init 1 none)) B.pre w (List.mem_cons_of_mem _ h)⟩
  have hr := B.returns
  have hlocks := B.notSynchronized
  subst hsz
  have hD := hD0.self (sz := s.heap.size)
  generalize hAe : va_A ([(h0, .inr (0, [.null, .int (nI 0)]))]) s.heap.size = A at hD ⊢
  have hAA : ∀ q : Nat, s.heap.size ≤ q → A q := fun q h => by rw [← hAe]; exact Or.inr h
  have hS : va_S A s.heap s.heap [] := va_S.rf
  have hl := lv_entry ([.ref h0]) (n := 1) (Nat.le_of_ble_eq_true rfl)
  rw [lg_entry_eq]
  generalize (lg_sl ([.ref h0]) ++ List.replicate (1 - (lg_sl ([.ref h0])).length) Slot.unset).toArray = ls at hl ⊢
  have hl : lv_has ls 1 [(0, .ref h0)] := hl
  have hin : meth.name = "<init>" := (name_of_methodNamed B.named B.method).1
  refine lv_aload_n F.1 F.2.1 dC_init_0 rfl (lv_at hl 0 rfl) ?_
  refine z_objInit F wl_C_3 wi_obj wc_obj hl.1 dC_init_1 (Nat.le_of_ble_eq_true rfl) (Nat.le_of_ble_eq_true rfl) ?_
  refine lv_aload_n F.1 F.2.1 dC_init_4 rfl (lv_at hl 0 rfl) ?_
  refine z_sipush (v := 816) F (by decide) dC_init_5 ?_
  refine z_newI F hK hP hD hS hAA 0 rfl (by decide) wa_int (Nat.le_of_ble_eq_true rfl) (Nat.le_of_ble_eq_true rfl) dC_init_8 (fun hA H hP hD hS => ?_)
  have hP : va_P (dC, dI) vwCl ([(h0, .inr (0, [.null, .int (nI 0)])), (hA, .inl (cI, 816, .inl (fun x9 => nI (((fun _ => 0)) x9))))]) H := hP
  have hD : va_D A ([(h0, .inr (0, [.null, .int (nI 0)])), (hA, .inl (cI, 816, .inl (fun x9 => nI (((fun _ => 0)) x9))))]) := hD
  refine z_putF F hin hK hP hD hS hinC tyC tyC_ok nmC 0 rfl rfl 0 (by decide) rfl rfl rfl wf_C_9 rfl rfl (Nat.le_of_ble_eq_true rfl) dC_init_10 (fun H locs hP hD hS => ?_)
  have hP : va_P (dC, dI) vwCl ([(h0, .inr (0, [.ref hA, .int (nI 0)])), (hA, .inl (cI, 816, .inl (fun x9 => nI (((fun _ => 0)) x9))))]) H := hP
  have hD : va_D A ([(h0, .inr (0, [.ref hA, .int (nI 0)])), (hA, .inl (cI, 816, .inl (fun x9 => nI (((fun _ => 0)) x9))))]) := hD
  refine lv_aload_n F.1 F.2.1 dC_init_13 rfl (lv_at hl 0 rfl) ?_
  refine z_iconst (v := 0) F (by decide) dC_init_14 ?_
  refine z_put F hK hP hD hS hinC tyC tyC_ok nmC 0 rfl rfl 1 (by decide) rfl rfl wf_C_15 (rfl) (rfl) (Nat.le_of_ble_eq_true rfl) dC_init_15 (fun H locs hP hD hS => ?_)
  have hP : va_P (dC, dI) vwCl ([(h0, .inr (0, [.ref hA, .int (nI 0)])), (hA, .inl (cI, 816, .inl (fun x9 => nI (((fun _ => 0)) x9))))]) H := hP
  have hD : va_D A ([(h0, .inr (0, [.ref hA, .int (nI 0)])), (hA, .inl (cI, 816, .inl (fun x9 => nI (((fun _ => 0)) x9))))]) := hD
  exact W.vret F.1 F.2.1 hr (fun t ht hWm => ⟨hA, rfl, by rw [ht]; exact hP, va_K.moved hWm.alike hK, hD, hS.F ht⟩) hS.2.2 dC_init_18
set_option maxHeartbeats 4000000 in
set_option maxRecDepth 100000 in
theorem c_Kinit (l : Launch) (dC : Nat → ClassId) (dI : Nat → Nat → Nat) (cI cL : ClassId) (zz h0 : Nat) : Met l yK_init (zW yK_init cK_init 1 none) ({ frames := 1, cells := 2, slots := 32, locals := 16 }) (va_Pc [.ref h0] (z_P (dC, dI) vwCl [(cI, .int), (cL, .long)] zz [(h0, .inr (2, [.null, .null, .int (z_b false), .int (nI 0), .int (nI 0), .int (nI 0), .int (nI 0), .int (nI 0), .int (nI 0)]))])) (z_QE (dC, dI) vwCl [(cI, .int), (cL, .long)] none (fun u : Nat × Nat => match u with | (hW, hX) => [(h0, .inr (2, [.ref hW, .ref hX, .int (z_b false), .int (nI 0), .int (nI 0), .int (nI 0), .int (nI 0), .int (nI 0), .int (nI 0)])), (hW, .inl (cI, 16, .inl (fun x9 => nI (((fun _ => 0)) x9)))), (hX, .inl (cI, 16, .inl (fun x9 => nI (((fun _ => 0)) x9))))]) (va_A [(h0, .inr (2, [.null, .null, .int (z_b false), .int (nI 0), .int (nI 0), .int (nI 0), .int (nI 0), .int (nI 0), .int (nI 0)]))] zz)) 2 32 (va_A [(h0, .inr (2, [.null, .null, .int (z_b false), .int (nI 0), .int (nI 0), .int (nI 0), .int (nI 0), .int (nI 0), .int (nI 0)]))] zz) := by
  refine Met.ofW (cc := cK_init) (maxL := 1) (ret := none) (by decide) rfl ?_
  intro p e s m args below meth c s₁ B hml hv
  obtain ⟨rfl, hsz, hP, hK, hD0⟩ := hv
  have F : CallFix p m c cK_init 1 s _ zT RK := ⟨B.exec, B.bytes, hml, findClass_of_methodNamed B.named, fun w h => atoms_spec (ws := (zW yK_init cK_init 1 none)) B.pre w (List.mem_cons_of_mem _ h)⟩
  have hr := B.returns
  have hlocks := B.notSynchronized
  subst hsz
  have hD := hD0.self (sz := s.heap.size)
  generalize hAe : va_A ([(h0, .inr (2, [.null, .null, .int (z_b false), .int (nI 0), .int (nI 0), .int (nI 0), .int (nI 0), .int (nI 0), .int (nI 0)]))]) s.heap.size = A at hD ⊢
  have hAA : ∀ q : Nat, s.heap.size ≤ q → A q := fun q h => by rw [← hAe]; exact Or.inr h
  have hS : va_S A s.heap s.heap [] := va_S.rf
  have hl := lv_entry ([.ref h0]) (n := 1) (Nat.le_of_ble_eq_true rfl)
  rw [lg_entry_eq]
  generalize (lg_sl ([.ref h0]) ++ List.replicate (1 - (lg_sl ([.ref h0])).length) Slot.unset).toArray = ls at hl ⊢
  have hl : lv_has ls 1 [(0, .ref h0)] := hl
  have hin : meth.name = "<init>" := (name_of_methodNamed B.named B.method).1
  refine lv_aload_n F.1 F.2.1 dK_init_0 rfl (lv_at hl 0 rfl) ?_
  refine z_objInit F wl_K_3 wi_obj wc_obj hl.1 dK_init_1 (Nat.le_of_ble_eq_true rfl) (Nat.le_of_ble_eq_true rfl) ?_
  refine lv_aload_n F.1 F.2.1 dK_init_4 rfl (lv_at hl 0 rfl) ?_
  refine z_bipush (v := 16) F (by decide) dK_init_5 ?_
  refine z_newI F hK hP hD hS hAA 0 rfl (by decide) wa_int (Nat.le_of_ble_eq_true rfl) (Nat.le_of_ble_eq_true rfl) dK_init_7 (fun hW H hP hD hS => ?_)
  have hP : va_P (dC, dI) vwCl ([(h0, .inr (2, [.null, .null, .int (z_b false), .int (nI 0), .int (nI 0), .int (nI 0), .int (nI 0), .int (nI 0), .int (nI 0)])), (hW, .inl (cI, 16, .inl (fun x9 => nI (((fun _ => 0)) x9))))]) H := hP
  have hD : va_D A ([(h0, .inr (2, [.null, .null, .int (z_b false), .int (nI 0), .int (nI 0), .int (nI 0), .int (nI 0), .int (nI 0), .int (nI 0)])), (hW, .inl (cI, 16, .inl (fun x9 => nI (((fun _ => 0)) x9))))]) := hD
  refine z_putF F hin hK hP hD hS hinK tyK tyK_ok nmK 0 rfl rfl 0 (by decide) rfl rfl rfl wf_K_9 rfl rfl (Nat.le_of_ble_eq_true rfl) dK_init_9 (fun H locs hP hD hS => ?_)
  have hP : va_P (dC, dI) vwCl ([(h0, .inr (2, [.ref hW, .null, .int (z_b false), .int (nI 0), .int (nI 0), .int (nI 0), .int (nI 0), .int (nI 0), .int (nI 0)])), (hW, .inl (cI, 16, .inl (fun x9 => nI (((fun _ => 0)) x9))))]) H := hP
  have hD : va_D A ([(h0, .inr (2, [.ref hW, .null, .int (z_b false), .int (nI 0), .int (nI 0), .int (nI 0), .int (nI 0), .int (nI 0), .int (nI 0)])), (hW, .inl (cI, 16, .inl (fun x9 => nI (((fun _ => 0)) x9))))]) := hD
  refine lv_aload_n F.1 F.2.1 dK_init_12 rfl (lv_at hl 0 rfl) ?_
  refine z_bipush (v := 16) F (by decide) dK_init_13 ?_
  refine z_newI F hK hP hD hS hAA 0 rfl (by decide) wa_int (Nat.le_of_ble_eq_true rfl) (Nat.le_of_ble_eq_true rfl) dK_init_15 (fun hX H hP hD hS => ?_)
  have hP : va_P (dC, dI) vwCl ([(h0, .inr (2, [.ref hW, .null, .int (z_b false), .int (nI 0), .int (nI 0), .int (nI 0), .int (nI 0), .int (nI 0), .int (nI 0)])), (hW, .inl (cI, 16, .inl (fun x9 => nI (((fun _ => 0)) x9)))), (hX, .inl (cI, 16, .inl (fun x9 => nI (((fun _ => 0)) x9))))]) H := hP
  have hD : va_D A ([(h0, .inr (2, [.ref hW, .null, .int (z_b false), .int (nI 0), .int (nI 0), .int (nI 0), .int (nI 0), .int (nI 0), .int (nI 0)])), (hW, .inl (cI, 16, .inl (fun x9 => nI (((fun _ => 0)) x9)))), (hX, .inl (cI, 16, .inl (fun x9 => nI (((fun _ => 0)) x9))))]) := hD
  refine z_putF F hin hK hP hD hS hinK tyK tyK_ok nmK 0 rfl rfl 1 (by decide) rfl rfl rfl wf_K_15 rfl rfl (Nat.le_of_ble_eq_true rfl) dK_init_17 (fun H locs hP hD hS => ?_)
  have hP : va_P (dC, dI) vwCl ([(h0, .inr (2, [.ref hW, .ref hX, .int (z_b false), .int (nI 0), .int (nI 0), .int (nI 0), .int (nI 0), .int (nI 0), .int (nI 0)])), (hW, .inl (cI, 16, .inl (fun x9 => nI (((fun _ => 0)) x9)))), (hX, .inl (cI, 16, .inl (fun x9 => nI (((fun _ => 0)) x9))))]) H := hP
  have hD : va_D A ([(h0, .inr (2, [.ref hW, .ref hX, .int (z_b false), .int (nI 0), .int (nI 0), .int (nI 0), .int (nI 0), .int (nI 0), .int (nI 0)])), (hW, .inl (cI, 16, .inl (fun x9 => nI (((fun _ => 0)) x9)))), (hX, .inl (cI, 16, .inl (fun x9 => nI (((fun _ => 0)) x9))))]) := hD
  refine lv_aload_n F.1 F.2.1 dK_init_20 rfl (lv_at hl 0 rfl) ?_
  refine z_iconst (v := 0) F (by decide) dK_init_21 ?_
  refine z_topV (z_b false) (by decide) ?_
  refine z_put F hK hP hD hS hinK tyK tyK_ok nmK 0 rfl rfl 2 (by decide) rfl rfl wf_K_18 (rfl) (rfl) (Nat.le_of_ble_eq_true rfl) dK_init_22 (fun H locs hP hD hS => ?_)
  have hP : va_P (dC, dI) vwCl ([(h0, .inr (2, [.ref hW, .ref hX, .int (z_b false), .int (nI 0), .int (nI 0), .int (nI 0), .int (nI 0), .int (nI 0), .int (nI 0)])), (hW, .inl (cI, 16, .inl (fun x9 => nI (((fun _ => 0)) x9)))), (hX, .inl (cI, 16, .inl (fun x9 => nI (((fun _ => 0)) x9))))]) H := hP
  have hD : va_D A ([(h0, .inr (2, [.ref hW, .ref hX, .int (z_b false), .int (nI 0), .int (nI 0), .int (nI 0), .int (nI 0), .int (nI 0), .int (nI 0)])), (hW, .inl (cI, 16, .inl (fun x9 => nI (((fun _ => 0)) x9)))), (hX, .inl (cI, 16, .inl (fun x9 => nI (((fun _ => 0)) x9))))]) := hD
  exact W.vret F.1 F.2.1 hr (fun t ht hWm => ⟨(hW, hX), rfl, by rw [ht]; exact hP, va_K.moved hWm.alike hK, hD, hS.F ht⟩) hS.2.2 dK_init_25
set_option maxHeartbeats 4000000 in
set_option maxRecDepth 100000 in
theorem c_Qinit (l : Launch) (dC : Nat → ClassId) (dI : Nat → Nat → Nat) (cI cL : ClassId) (zz h0 : Nat) : Met l yQ_init (zW yQ_init cQ_init 1 none) ({ frames := 1, cells := 2, slots := 19, locals := 16 }) (va_Pc [.ref h0] (z_P (dC, dI) vwCl [(cI, .int), (cL, .long)] zz [(h0, .inr (3, [.null, .null, .int (z_b false)]))])) (z_QE (dC, dI) vwCl [(cI, .int), (cL, .long)] none (fun u : Nat × Nat => match u with | (hE, hQ) => [(h0, .inr (3, [.ref hE, .ref hQ, .int (z_b false)])), (hE, .inl (cI, 3, .inl (fun x9 => nI (((fun _ => 0)) x9)))), (hQ, .inl (cI, 16, .inl (fun x9 => nI (((fun _ => 0)) x9))))]) (va_A [(h0, .inr (3, [.null, .null, .int (z_b false)]))] zz)) 2 19 (va_A [(h0, .inr (3, [.null, .null, .int (z_b false)]))] zz) := by
  refine Met.ofW (cc := cQ_init) (maxL := 1) (ret := none) (by decide) rfl ?_
  intro p e s m args below meth c s₁ B hml hv
  obtain ⟨rfl, hsz, hP, hK, hD0⟩ := hv
  have F : CallFix p m c cQ_init 1 s _ zT RQ := ⟨B.exec, B.bytes, hml, findClass_of_methodNamed B.named, fun w h => atoms_spec (ws := (zW yQ_init cQ_init 1 none)) B.pre w (List.mem_cons_of_mem _ h)⟩
  have hr := B.returns
  have hlocks := B.notSynchronized
  subst hsz
  have hD := hD0.self (sz := s.heap.size)
  generalize hAe : va_A ([(h0, .inr (3, [.null, .null, .int (z_b false)]))]) s.heap.size = A at hD ⊢
  have hAA : ∀ q : Nat, s.heap.size ≤ q → A q := fun q h => by rw [← hAe]; exact Or.inr h
  have hS : va_S A s.heap s.heap [] := va_S.rf
  have hl := lv_entry ([.ref h0]) (n := 1) (Nat.le_of_ble_eq_true rfl)
  rw [lg_entry_eq]
  generalize (lg_sl ([.ref h0]) ++ List.replicate (1 - (lg_sl ([.ref h0])).length) Slot.unset).toArray = ls at hl ⊢
  have hl : lv_has ls 1 [(0, .ref h0)] := hl
  have hin : meth.name = "<init>" := (name_of_methodNamed B.named B.method).1
  refine lv_aload_n F.1 F.2.1 dQ_init_0 rfl (lv_at hl 0 rfl) ?_
  refine z_objInit F wl_Q_3 wi_obj wc_obj hl.1 dQ_init_1 (Nat.le_of_ble_eq_true rfl) (Nat.le_of_ble_eq_true rfl) ?_
  refine lv_aload_n F.1 F.2.1 dQ_init_4 rfl (lv_at hl 0 rfl) ?_
  refine z_iconst (v := 3) F (by decide) dQ_init_5 ?_
  refine z_newI F hK hP hD hS hAA 0 rfl (by decide) wa_int (Nat.le_of_ble_eq_true rfl) (Nat.le_of_ble_eq_true rfl) dQ_init_6 (fun hE H hP hD hS => ?_)
  have hP : va_P (dC, dI) vwCl ([(h0, .inr (3, [.null, .null, .int (z_b false)])), (hE, .inl (cI, 3, .inl (fun x9 => nI (((fun _ => 0)) x9))))]) H := hP
  have hD : va_D A ([(h0, .inr (3, [.null, .null, .int (z_b false)])), (hE, .inl (cI, 3, .inl (fun x9 => nI (((fun _ => 0)) x9))))]) := hD
  refine z_putF F hin hK hP hD hS hinQ tyQ tyQ_ok nmQ 0 rfl rfl 0 (by decide) rfl rfl rfl wf_Q_9 rfl rfl (Nat.le_of_ble_eq_true rfl) dQ_init_8 (fun H locs hP hD hS => ?_)
  have hP : va_P (dC, dI) vwCl ([(h0, .inr (3, [.ref hE, .null, .int (z_b false)])), (hE, .inl (cI, 3, .inl (fun x9 => nI (((fun _ => 0)) x9))))]) H := hP
  have hD : va_D A ([(h0, .inr (3, [.ref hE, .null, .int (z_b false)])), (hE, .inl (cI, 3, .inl (fun x9 => nI (((fun _ => 0)) x9))))]) := hD
  refine lv_aload_n F.1 F.2.1 dQ_init_11 rfl (lv_at hl 0 rfl) ?_
  refine z_bipush (v := 16) F (by decide) dQ_init_12 ?_
  refine z_newI F hK hP hD hS hAA 0 rfl (by decide) wa_int (Nat.le_of_ble_eq_true rfl) (Nat.le_of_ble_eq_true rfl) dQ_init_14 (fun hQ H hP hD hS => ?_)
  have hP : va_P (dC, dI) vwCl ([(h0, .inr (3, [.ref hE, .null, .int (z_b false)])), (hE, .inl (cI, 3, .inl (fun x9 => nI (((fun _ => 0)) x9)))), (hQ, .inl (cI, 16, .inl (fun x9 => nI (((fun _ => 0)) x9))))]) H := hP
  have hD : va_D A ([(h0, .inr (3, [.ref hE, .null, .int (z_b false)])), (hE, .inl (cI, 3, .inl (fun x9 => nI (((fun _ => 0)) x9)))), (hQ, .inl (cI, 16, .inl (fun x9 => nI (((fun _ => 0)) x9))))]) := hD
  refine z_putF F hin hK hP hD hS hinQ tyQ tyQ_ok nmQ 0 rfl rfl 1 (by decide) rfl rfl rfl wf_Q_15 rfl rfl (Nat.le_of_ble_eq_true rfl) dQ_init_16 (fun H locs hP hD hS => ?_)
  have hP : va_P (dC, dI) vwCl ([(h0, .inr (3, [.ref hE, .ref hQ, .int (z_b false)])), (hE, .inl (cI, 3, .inl (fun x9 => nI (((fun _ => 0)) x9)))), (hQ, .inl (cI, 16, .inl (fun x9 => nI (((fun _ => 0)) x9))))]) H := hP
  have hD : va_D A ([(h0, .inr (3, [.ref hE, .ref hQ, .int (z_b false)])), (hE, .inl (cI, 3, .inl (fun x9 => nI (((fun _ => 0)) x9)))), (hQ, .inl (cI, 16, .inl (fun x9 => nI (((fun _ => 0)) x9))))]) := hD
  refine lv_aload_n F.1 F.2.1 dQ_init_19 rfl (lv_at hl 0 rfl) ?_
  refine z_iconst (v := 0) F (by decide) dQ_init_20 ?_
  refine z_topV (z_b false) (by decide) ?_
  refine z_put F hK hP hD hS hinQ tyQ tyQ_ok nmQ 0 rfl rfl 2 (by decide) rfl rfl wf_Q_18 (rfl) (rfl) (Nat.le_of_ble_eq_true rfl) dQ_init_21 (fun H locs hP hD hS => ?_)
  have hP : va_P (dC, dI) vwCl ([(h0, .inr (3, [.ref hE, .ref hQ, .int (z_b false)])), (hE, .inl (cI, 3, .inl (fun x9 => nI (((fun _ => 0)) x9)))), (hQ, .inl (cI, 16, .inl (fun x9 => nI (((fun _ => 0)) x9))))]) H := hP
  have hD : va_D A ([(h0, .inr (3, [.ref hE, .ref hQ, .int (z_b false)])), (hE, .inl (cI, 3, .inl (fun x9 => nI (((fun _ => 0)) x9)))), (hQ, .inl (cI, 16, .inl (fun x9 => nI (((fun _ => 0)) x9))))]) := hD
  exact W.vret F.1 F.2.1 hr (fun t ht hWm => ⟨(hE, hQ), rfl, by rw [ht]; exact hP, va_K.moved hWm.alike hK, hD, hS.F ht⟩) hS.2.2 dQ_init_24
set_option maxHeartbeats 4000000 in
set_option maxRecDepth 100000 in
theorem c_Dinit (l : Launch) (dC : Nat → ClassId) (dI : Nat → Nat → Nat) (cI cL : ClassId) (zz h0 : Nat) : Met l yD_init (zW yD_init cD_init 1 none) ({ frames := 4, cells := 1, slots := 16, locals := 90 }) (va_Pc [.ref h0] (z_P (dC, dI) vwCl [(cI, .int), (cL, .long)] zz [(h0, .inr (1, [.null, .int (nI 0), .int (nI 0)]))])) (z_QE (dC, dI) vwCl [(cI, .int), (cL, .long)] none (fun hB : Nat => [(h0, .inr (1, [.ref hB, .int (nI (szN 0)), .int (nI (iv (szN 0)))])), (hB, .inl (cI, 16, .inl (fun x9 => nI (((fun j => if j < szN 0 then bk (szN 0) ^ j % 998244353 else (fun _ => 0) j)) x9))))]) (va_A [(h0, .inr (1, [.null, .int (nI 0), .int (nI 0)]))] zz)) 1 16 (va_A [(h0, .inr (1, [.null, .int (nI 0), .int (nI 0)]))] zz) := by
  refine Met.ofW (cc := cD_init) (maxL := 1) (ret := none) (by decide) rfl ?_
  intro p e s m args below meth c s₁ B hml hv
  obtain ⟨rfl, hsz, hP, hK, hD0⟩ := hv
  have F : CallFix p m c cD_init 1 s _ zT RD := ⟨B.exec, B.bytes, hml, findClass_of_methodNamed B.named, fun w h => atoms_spec (ws := (zW yD_init cD_init 1 none)) B.pre w (List.mem_cons_of_mem _ h)⟩
  have hr := B.returns
  have hlocks := B.notSynchronized
  subst hsz
  have hD := hD0.self (sz := s.heap.size)
  generalize hAe : va_A ([(h0, .inr (1, [.null, .int (nI 0), .int (nI 0)]))]) s.heap.size = A at hD ⊢
  have hAA : ∀ q : Nat, s.heap.size ≤ q → A q := fun q h => by rw [← hAe]; exact Or.inr h
  have hS : va_S A s.heap s.heap [] := va_S.rf
  have hl := lv_entry ([.ref h0]) (n := 1) (Nat.le_of_ble_eq_true rfl)
  rw [lg_entry_eq]
  generalize (lg_sl ([.ref h0]) ++ List.replicate (1 - (lg_sl ([.ref h0])).length) Slot.unset).toArray = ls at hl ⊢
  have hl : lv_has ls 1 [(0, .ref h0)] := hl
  have hin : meth.name = "<init>" := (name_of_methodNamed B.named B.method).1
  refine lv_aload_n F.1 F.2.1 dD_init_0 rfl (lv_at hl 0 rfl) ?_
  refine z_objInit F wl_D_3 wi_obj wc_obj hl.1 dD_init_1 (Nat.le_of_ble_eq_true rfl) (Nat.le_of_ble_eq_true rfl) ?_
  refine lv_aload_n F.1 F.2.1 dD_init_4 rfl (lv_at hl 0 rfl) ?_
  refine z_bipush (v := 16) F (by decide) dD_init_5 ?_
  refine z_newI F hK hP hD hS hAA 0 rfl (by decide) wa_int (Nat.le_of_ble_eq_true rfl) (Nat.le_of_ble_eq_true rfl) dD_init_7 (fun hB H hP hD hS => ?_)
  have hP : va_P (dC, dI) vwCl ([(h0, .inr (1, [.null, .int (nI 0), .int (nI 0)])), (hB, .inl (cI, 16, .inl (fun x9 => nI (((fun _ => 0)) x9))))]) H := hP
  have hD : va_D A ([(h0, .inr (1, [.null, .int (nI 0), .int (nI 0)])), (hB, .inl (cI, 16, .inl (fun x9 => nI (((fun _ => 0)) x9))))]) := hD
  refine z_putF F hin hK hP hD hS hinD tyD tyD_ok nmD 0 rfl rfl 0 (by decide) rfl rfl rfl wf_D_9 rfl rfl (Nat.le_of_ble_eq_true rfl) dD_init_9 (fun H locs hP hD hS => ?_)
  have hP : va_P (dC, dI) vwCl ([(h0, .inr (1, [.ref hB, .int (nI 0), .int (nI 0)])), (hB, .inl (cI, 16, .inl (fun x9 => nI (((fun _ => 0)) x9))))]) H := hP
  have hD : va_D A ([(h0, .inr (1, [.ref hB, .int (nI 0), .int (nI 0)])), (hB, .inl (cI, 16, .inl (fun x9 => nI (((fun _ => 0)) x9))))]) := hD
  refine lv_aload_n F.1 F.2.1 dD_init_12 rfl (lv_at hl 0 rfl) ?_
  refine z_iconst (v := 0) F (by decide) dD_init_13 ?_
  refine z_callW (z_runV [.int (nI 0)] [] F (c_fit l dC dI cI cL [] H.size h0 hB 0 0 0 (fun _ => 0) (by decide)) kk_D_fit wl_D_15 rfl rfl ⟨Nat.le_of_ble_eq_true rfl, Nat.le_of_ble_eq_true rfl⟩ (z_preVP (q := (RD, TD, 3)) hP hK hD rfl (q0 := 0) rfl) rfl hl.1 rfl (Nat.le_of_ble_eq_true rfl) dD_init_14 ⟨Nat.le_of_ble_eq_true rfl, Nat.le_of_ble_eq_true rfl⟩) hD hS hAA (fun H locs hP hD hS => ?_)
  exact W.vret F.1 F.2.1 hr (fun t ht hWm => ⟨hB, rfl, by rw [ht]; exact hP, va_K.moved hWm.alike hK, hD, hS.F ht⟩) hS.2.2 dD_init_17
end
section
/-- is x a number below n -/
def bl (x : Int32) (n : Nat) : Bool := decide (0 ≤ x.toInt) && decide (x.toInt < (n : Int))
theorem bl_neg {x : Int32} {n : Nat} (h : x < 0) : bl x n = false := by
  rw [Int32.lt_iff_toInt_lt, Int32.toInt_zero] at h
  unfold bl
  rw [decide_eq_false (by omega), Bool.false_and]
theorem bl_nI {j : Nat} (n : Nat) (h : j < 2 ^ 31) : bl (nI j) n = decide (j < n) := by
  unfold bl
  rw [nI_toInt h, decide_eq_true (by omega), Bool.true_and]
  by_cases hj : j < n
  · rw [decide_eq_true hj, decide_eq_true (by omega)]
  · rw [decide_eq_false hj, decide_eq_false (by omega)]
theorem bl_t {j n : Nat} (h : j < n) (hn : n < 2 ^ 31) : bl (nI j) n = true := by rw [bl_nI n (by omega), decide_eq_true h]
theorem bl_of {x : Int32} {n : Nat} (h : bl x n = true) (hn : n < 2 ^ 31) : ∃ j, j < n ∧ x = nI j := by
  by_cases hx : x < 0
  · rw [bl_neg hx] at h; cases h
  · obtain ⟨j, hj, rfl⟩ := nI_of hx
    rw [bl_nI n hj] at h
    exact ⟨j, of_decide_eq_true h, rfl⟩
/-- is x a number from 1 to P - 1 -/
def un (x : Int32) : Bool := bl x 998244353 && !decide (x = 0)
theorem un_of {x : Int32} (h : un x = true) : ∃ j, 0 < j ∧ j < 998244353 ∧ x = nI j := by
  unfold un at h
  rw [Bool.and_eq_true] at h
  obtain ⟨j, hj, rfl⟩ := bl_of h.1 (by decide)
  refine ⟨j, Nat.pos_of_ne_zero (fun q => ?_), hj, rfl⟩
  subst q
  exact absurd h.2 (by decide)
theorem un_t {j : Nat} (h0 : 0 < j) (h : j < 998244353) : un (nI j) = true := by
  unfold un
  rw [bl_t h (by decide), decide_eq_false (nI_ne0 h0 (by omega))]
  rfl
set_option maxHeartbeats 4000000 in
set_option maxRecDepth 100000 in
theorem c_isBelow (l : Launch) (x : Int32) (k : Nat) (hk : k < 2 ^ 31) : Met l yM_isBelow (zW yM_isBelow cM_isBelow 2 (.some .boolean)) ({ frames := 0, cells := 0, slots := 0, locals := 0 }) (va_Pc [.int x, .int (nI k)] (fun _ => True)) (k2_QcV (.int (z_b (bl x k)))) 0 0 (fun _ => False) := by
  refine Met.ofW (cc := cM_isBelow) (maxL := 2) (ret := (.some .boolean)) (by decide) rfl ?_
  intro p e s m args below meth c s₁ B hml hv
  obtain ⟨rfl, -⟩ := hv
  have F : CallFix p m c cM_isBelow 2 s _ zT RM := ⟨B.exec, B.bytes, hml, findClass_of_methodNamed B.named, fun w h => atoms_spec (ws := (zW yM_isBelow cM_isBelow 2 (.some .boolean))) B.pre w (List.mem_cons_of_mem _ h)⟩
  have hr := B.returns
  have hlocks := B.notSynchronized
  have hl := lv_entry ([.int x, .int (nI k)]) (n := 2) (Nat.le_of_ble_eq_true rfl)
  rw [lg_entry_eq]
  generalize (lg_sl ([.int x, .int (nI k)]) ++ List.replicate (2 - (lg_sl ([.int x, .int (nI k)])).length) Slot.unset).toArray = ls at hl ⊢
  have hl : lv_has ls 2 [(0, .int x), (1, .int (nI k))] := hl
  refine lv_iload_n F.1 F.2.1 dM_isBelow_0 rfl (lv_at hl 0 rfl) ?_
  refine lv_if_lt F.1 F.2.1 (tgt := 13) dM_isBelow_1 rfl (fun h1 => ?_) (fun h1 => ?_)
  · refine z_iconst (v := 0) F (by decide) dM_isBelow_13 ?_
    refine z_topV (z_b (bl x k)) (by rw [bl_neg h1]; decide) ?_
    exact W.zret F.1 F.2.1 hr (by cases bl x k <;> rfl) (fun t ht hW => ⟨rfl, ht⟩) (fun _ h => by cases h) dM_isBelow_14
  · obtain ⟨j, hj, rfl⟩ := nI_of h1
    have hl : lv_has ls 2 [(0, .int (nI j)), (1, .int (nI k))] := hl
    refine lv_iload_n F.1 F.2.1 dM_isBelow_4 rfl (lv_at hl 0 rfl) ?_
    refine lv_iload_n F.1 F.2.1 dM_isBelow_5 rfl (lv_at hl 1 rfl) ?_
    refine z_icmp_ge F (by omega) (by omega) (tgt := 13) dM_isBelow_6 rfl (fun h2 => ?_) (fun h2 => ?_)
    · refine z_iconst (v := 0) F (by decide) dM_isBelow_13 ?_
      refine z_topV (z_b (bl (nI j) k)) (by rw [bl_nI k hj, decide_eq_false (by omega)]; decide) ?_
      exact W.zret F.1 F.2.1 hr (by cases bl (nI j) k <;> rfl) (fun t ht hW => ⟨rfl, ht⟩) (fun _ h => by cases h) dM_isBelow_14
    · refine z_iconst (v := 1) F (by decide) dM_isBelow_9 ?_
      refine lv_goto F.1 F.2.1 (tgt := 14) dM_isBelow_10 rfl ?_
      refine z_topV (z_b (bl (nI j) k)) (by rw [bl_nI k hj, decide_eq_true (by omega)]; decide) ?_
      exact W.zret F.1 F.2.1 hr (by cases bl (nI j) k <;> rfl) (fun t ht hW => ⟨rfl, ht⟩) (fun _ h => by cases h) dM_isBelow_14
theorem un_le {x : Int32} (h : x ≤ 0) : un x = false := by
  by_cases hx : x < 0
  · unfold un; rw [bl_neg hx, Bool.false_and]
  · have : x = 0 := by
      rw [Int32.le_iff_toInt_le, Int32.toInt_zero] at h
      rw [Int32.lt_iff_toInt_lt, Int32.toInt_zero] at hx
      exact Int32.toInt_inj.mp (by rw [Int32.toInt_zero]; omega)
    subst this
    decide
theorem un_gt {x : Int32} (h : ¬ x ≤ 0) : ∃ j, 0 < j ∧ j < 2 ^ 31 ∧ x = nI j := by
  rw [Int32.le_iff_toInt_le, Int32.toInt_zero] at h
  obtain ⟨j, hj, rfl⟩ := nI_of (x := x) (by rw [Int32.lt_iff_toInt_lt, Int32.toInt_zero]; omega)
  rw [nI_toInt hj] at h
  exact ⟨j, by omega, hj, rfl⟩
theorem un_no {j : Nat} (h : j < 2 ^ 31) (h2 : 998244353 ≤ j) : un (nI j) = false := by
  unfold un
  rw [bl_nI _ h, decide_eq_false (by omega), Bool.false_and]
set_option maxHeartbeats 4000000 in
set_option maxRecDepth 100000 in
theorem c_isUnit (l : Launch) (x : Int32)  : Met l yM_isUnit (zW yM_isUnit cM_isUnit 1 (.some .boolean)) ({ frames := 0, cells := 0, slots := 0, locals := 0 }) (va_Pc [.int x] (fun _ => True)) (k2_QcV (.int (z_b (un x)))) 0 0 (fun _ => False) := by
  refine Met.ofW (cc := cM_isUnit) (maxL := 1) (ret := (.some .boolean)) (by decide) rfl ?_
  intro p e s m args below meth c s₁ B hml hv
  obtain ⟨rfl, -⟩ := hv
  have F : CallFix p m c cM_isUnit 1 s _ zT RM := ⟨B.exec, B.bytes, hml, findClass_of_methodNamed B.named, fun w h => atoms_spec (ws := (zW yM_isUnit cM_isUnit 1 (.some .boolean))) B.pre w (List.mem_cons_of_mem _ h)⟩
  have hr := B.returns
  have hlocks := B.notSynchronized
  have hl := lv_entry ([.int x]) (n := 1) (Nat.le_of_ble_eq_true rfl)
  rw [lg_entry_eq]
  generalize (lg_sl ([.int x]) ++ List.replicate (1 - (lg_sl ([.int x])).length) Slot.unset).toArray = ls at hl ⊢
  have hl : lv_has ls 1 [(0, .int x)] := hl
  refine lv_iload_n F.1 F.2.1 dM_isUnit_0 rfl (lv_at hl 0 rfl) ?_
  refine lv_if_le F.1 F.2.1 (tgt := 14) dM_isUnit_1 rfl (fun h1 => ?_) (fun h1 => ?_)
  · refine z_iconst (v := 0) F (by decide) dM_isUnit_14 ?_
    refine z_topV (z_b (un x)) (by rw [un_le h1]; decide) ?_
    exact W.zret F.1 F.2.1 hr (by cases un x <;> rfl) (fun t ht hW => ⟨rfl, ht⟩) (fun _ h => by cases h) dM_isUnit_15
  · obtain ⟨j, h0, hj, rfl⟩ := un_gt h1
    have hl : lv_has ls 1 [(0, .int (nI j))] := hl
    refine lv_iload_n F.1 F.2.1 dM_isUnit_4 rfl (lv_at hl 0 rfl) ?_
    refine z_ldc F 998244353 (v0 := 998244353) wk_M_60 rfl dM_isUnit_5 ?_
    refine z_icmp_ge F (by omega) (by omega) (tgt := 14) dM_isUnit_7 rfl (fun h2 => ?_) (fun h2 => ?_)
    · refine z_iconst (v := 0) F (by decide) dM_isUnit_14 ?_
      refine z_topV (z_b (un (nI j))) (by rw [un_no hj h2]; decide) ?_
      exact W.zret F.1 F.2.1 hr (by cases un (nI j) <;> rfl) (fun t ht hW => ⟨rfl, ht⟩) (fun _ h => by cases h) dM_isUnit_15
    · refine z_iconst (v := 1) F (by decide) dM_isUnit_10 ?_
      refine lv_goto F.1 F.2.1 (tgt := 15) dM_isUnit_11 rfl ?_
      refine z_topV (z_b (un (nI j))) (by rw [un_t h0 h2]; decide) ?_
      exact W.zret F.1 F.2.1 hr (by cases un (nI j) <;> rfl) (fun t ht hW => ⟨rfl, ht⟩) (fun _ h => by cases h) dM_isUnit_15
theorem c_isBelow_t (l : Launch) (a k : Nat) (h : a < k) (hk : k < 2 ^ 31) : Met l yM_isBelow (zW yM_isBelow cM_isBelow 2 (.some .boolean)) ({ frames := 0, cells := 0, slots := 0, locals := 0 }) (va_Pc [.int (nI a), .int (nI k)] (fun _ => True)) (k2_QcV (.int (nI 1))) 0 0 (fun _ => False) := by
  have := c_isBelow l (nI a) k hk
  rw [bl_t h hk] at this
  exact this
theorem c_isUnit_t (l : Launch) (a : Nat) (h0 : 0 < a) (h : a < 998244353) : Met l yM_isUnit (zW yM_isUnit cM_isUnit 1 (.some .boolean)) ({ frames := 0, cells := 0, slots := 0, locals := 0 }) (va_Pc [.int (nI a)] (fun _ => True)) (k2_QcV (.int (nI 1))) 0 0 (fun _ => False) := by
  have := c_isUnit l (nI a)
  rw [un_t h0 h] at this
  exact this
set_option maxHeartbeats 4000000 in
set_option maxRecDepth 100000 in
theorem cm_open (l : Launch) (dC : Nat → ClassId) (dI : Nat → Nat → Nat) (cI cL : ClassId) (x0 xC xD xK xQ xV xI xL xR xS xT xA xB xW xX xE xF : Nat) (pb cn ta al be ga de va : Nat) (md pd : Bool) (v inp sL sR sS sT f bb w mx el qt : Nat → Nat) (hf : ∀ j, f j < 998244353) (hv : ∀ j, v j < 998244353) (hn : cn ≤ 16) : Met l yM_open (zW yM_open cM_open 1 (.some .int)) ({ frames := 3, cells := 0, slots := 0, locals := 71 }) (va_Pc [.ref x0] (z_R (dC, dI) vwCl [(cI, .int), (cL, .long)] [(x0, .inr (4, [.ref xC, .ref xD, .ref xK, .ref xQ, .ref xV, .ref xI, .int (nI pb), .ref xL, .ref xR, .ref xS, .ref xT])), (xC, .inr (0, [.ref xA, .int (nI cn)])), (xD, .inr (1, [.ref xB, .int (nI (szN cn)), .int (nI (iv (szN cn)))])), (xK, .inr (2, [.ref xW, .ref xX, .int (z_b md), .int (nI ta), .int (nI al), .int (nI be), .int (nI ga), .int (nI de), .int (nI va)])), (xQ, .inr (3, [.ref xE, .ref xF, .int (z_b pd)])), (xV, .inl (cI, 16, .inl (fun x9 => nI (v x9)))), (xI, .inl (cI, 7, .inl (fun x9 => nI (inp x9)))), (xL, .inl (cI, 16, .inl (fun x9 => nI (sL x9)))), (xR, .inl (cI, 16, .inl (fun x9 => nI (sR x9)))), (xS, .inl (cI, 16, .inl (fun x9 => nI (sS x9)))), (xT, .inl (cI, 16, .inl (fun x9 => nI (sT x9)))), (xA, .inl (cI, 816, .inl (fun x9 => nI (f x9)))), (xB, .inl (cI, 16, .inl (fun x9 => nI (bb x9)))), (xW, .inl (cI, 16, .inl (fun x9 => nI (w x9)))), (xX, .inl (cI, 16, .inl (fun x9 => nI (mx x9)))), (xE, .inl (cI, 3, .inl (fun x9 => nI (el x9)))), (xF, .inl (cI, 16, .inl (fun x9 => nI (qt x9))))])) (k2_QcV (.int (fo (bad f v) 0 cn))) 0 0 (fun _ => False) := by
  refine Met.ofW (cc := cM_open) (maxL := 1) (ret := (.some .int)) (by decide) rfl ?_
  intro p e s m args below meth c s₁ B hml hv
  obtain ⟨rfl, hP, hK⟩ := hv
  have F : CallFix p m c cM_open 1 s _ zT RM := ⟨B.exec, B.bytes, hml, findClass_of_methodNamed B.named, fun w h => atoms_spec (ws := (zW yM_open cM_open 1 (.some .int))) B.pre w (List.mem_cons_of_mem _ h)⟩
  have hr := B.returns
  have hlocks := B.notSynchronized
  have hl := lv_entry ([.ref x0]) (n := 1) (Nat.le_of_ble_eq_true rfl)
  rw [lg_entry_eq]
  generalize (lg_sl ([.ref x0]) ++ List.replicate (1 - (lg_sl ([.ref x0])).length) Slot.unset).toArray = ls at hl ⊢
  have hl : lv_has ls 1 [(0, .ref x0)] := hl
  refine lv_aload_n F.1 F.2.1 dM_open_0 rfl (lv_at hl 0 rfl) ?_
  refine z_get F hK hP hinM 0 rfl rfl 0 (by decide) rfl wf_M_10 rfl dM_open_1 ?_
  refine lv_aload_n F.1 F.2.1 dM_open_4 rfl (lv_at hl 0 rfl) ?_
  refine z_get F hK hP hinM 0 rfl rfl 4 (by decide) rfl wf_M_37 rfl dM_open_5 ?_
  refine z_call (z_runV [.ref xV] [] F (c_firstOpen l dC dI cI cL _ 1 11 5 xC xA xV cn f v rfl rfl rfl hf hv hn) kk_C_firstOpen wl_M_89 rfl rfl ⟨Nat.le_of_ble_eq_true rfl, Nat.le_of_ble_eq_true rfl⟩ (z_preVR (q := (RC, TC, 2)) hP hK rfl (q0 := 1) rfl) rfl hl.1 rfl (Nat.le_of_ble_eq_true rfl) dM_open_8 ⟨Nat.zero_le _, Nat.zero_le _⟩) ?_
  exact W.iret F.1 F.2.1 hr (fun t ht hW => ⟨rfl, ht⟩) (fun _ h => by cases h) dM_open_11
set_option maxHeartbeats 4000000 in
set_option maxRecDepth 100000 in
theorem cm_proof (l : Launch) (dC : Nat → ClassId) (dI : Nat → Nat → Nat) (cI cL : ClassId) (x0 xC xD xK xQ xV xI xL xR xS xT xA xB xW xX xE xF : Nat) (pb cn ta al be ga de va : Nat) (md pd : Bool) (v inp sL sR sS sT f bb w mx el qt : Nat → Nat) (x : Int32)  : Met l yM_proof (zW yM_proof cM_proof 2 (.some .int)) ({ frames := 1, cells := 0, slots := 0, locals := 21 }) (va_Pc [.ref x0, .int x] (z_R (dC, dI) vwCl [(cI, .int), (cL, .long)] [(x0, .inr (4, [.ref xC, .ref xD, .ref xK, .ref xQ, .ref xV, .ref xI, .int (nI pb), .ref xL, .ref xR, .ref xS, .ref xT])), (xC, .inr (0, [.ref xA, .int (nI cn)])), (xD, .inr (1, [.ref xB, .int (nI (szN cn)), .int (nI (iv (szN cn)))])), (xK, .inr (2, [.ref xW, .ref xX, .int (z_b md), .int (nI ta), .int (nI al), .int (nI be), .int (nI ga), .int (nI de), .int (nI va)])), (xQ, .inr (3, [.ref xE, .ref xF, .int (z_b pd)])), (xV, .inl (cI, 16, .inl (fun x9 => nI (v x9)))), (xI, .inl (cI, 7, .inl (fun x9 => nI (inp x9)))), (xL, .inl (cI, 16, .inl (fun x9 => nI (sL x9)))), (xR, .inl (cI, 16, .inl (fun x9 => nI (sR x9)))), (xS, .inl (cI, 16, .inl (fun x9 => nI (sS x9)))), (xT, .inl (cI, 16, .inl (fun x9 => nI (sT x9)))), (xA, .inl (cI, 816, .inl (fun x9 => nI (f x9)))), (xB, .inl (cI, 16, .inl (fun x9 => nI (bb x9)))), (xW, .inl (cI, 16, .inl (fun x9 => nI (w x9)))), (xX, .inl (cI, 16, .inl (fun x9 => nI (mx x9)))), (xE, .inl (cI, 3, .inl (fun x9 => nI (el x9)))), (xF, .inl (cI, 16, .inl (fun x9 => nI (qt x9))))])) (k2_QcV (.int (if (pd && bl x 3) = true then nI (el x.toNatClampNeg) else -1))) 0 0 (fun _ => False) := by
  refine Met.ofW (cc := cM_proof) (maxL := 2) (ret := (.some .int)) (by decide) rfl ?_
  intro p e s m args below meth c s₁ B hml hv
  obtain ⟨rfl, hP, hK⟩ := hv
  have F : CallFix p m c cM_proof 2 s _ zT RM := ⟨B.exec, B.bytes, hml, findClass_of_methodNamed B.named, fun w h => atoms_spec (ws := (zW yM_proof cM_proof 2 (.some .int))) B.pre w (List.mem_cons_of_mem _ h)⟩
  have hr := B.returns
  have hlocks := B.notSynchronized
  have hl := lv_entry ([.ref x0, .int x]) (n := 2) (Nat.le_of_ble_eq_true rfl)
  rw [lg_entry_eq]
  generalize (lg_sl ([.ref x0, .int x]) ++ List.replicate (2 - (lg_sl ([.ref x0, .int x])).length) Slot.unset).toArray = ls at hl ⊢
  have hl : lv_has ls 2 [(0, .ref x0), (1, .int x)] := hl
  generalize hR : (if (pd && bl x 3) = true then nI (el x.toNatClampNeg) else -1) = rr
  refine lv_aload_n F.1 F.2.1 dM_proof_0 rfl (lv_at hl 0 rfl) ?_
  refine z_get F hK hP hinM 0 rfl rfl 3 (by decide) rfl wf_M_33 rfl dM_proof_1 ?_
  refine z_call (z_runV [] [] F (cq_isMade l dC dI cI cL _ 4 xQ xE xF pd rfl) kk_Q_isMade wl_M_176 rfl rfl ⟨Nat.le_of_ble_eq_true rfl, Nat.le_of_ble_eq_true rfl⟩ (z_preVR (q := (RQ, TQ, 3)) hP hK rfl (q0 := 4) rfl) rfl hl.1 rfl (Nat.le_of_ble_eq_true rfl) dM_proof_4 ⟨Nat.zero_le _, Nat.zero_le _⟩) ?_
  refine z_ifb_eq F (tgt := 29) dM_proof_7 rfl (fun h1 => ?_) (fun h1 => ?_)
  · refine lv_iconst (v := -1) F.1 F.2.1 dM_proof_29 (by decide) ?_
    refine z_topV rr (by rw [← hR, h1]; rfl) ?_
    exact W.iret F.1 F.2.1 hr (fun t ht hW => ⟨rfl, ht⟩) (fun _ h => by cases h) dM_proof_30
  · refine lv_iload_n F.1 F.2.1 dM_proof_10 rfl (lv_at hl 1 rfl) ?_
    refine z_iconst (v := 3) F (by decide) dM_proof_11 ?_
    refine z_call (z_runS [.int x, .int (nI 3)] [] F (c_isBelow l x 3 (by decide)) kk_M_isBelow wl_M_56 rfl rfl ⟨Nat.le_of_ble_eq_true rfl, Nat.le_of_ble_eq_true rfl⟩ z_preN rfl hl.1 rfl (Nat.le_of_ble_eq_true rfl) dM_proof_12 ⟨Nat.zero_le _, Nat.zero_le _⟩) ?_
    refine z_ifb_eq F (tgt := 29) dM_proof_15 rfl (fun h2 => ?_) (fun h2 => ?_)
    · refine lv_iconst (v := -1) F.1 F.2.1 dM_proof_29 (by decide) ?_
      refine z_topV rr (by rw [← hR, h1, h2]; rfl) ?_
      exact W.iret F.1 F.2.1 hr (fun t ht hW => ⟨rfl, ht⟩) (fun _ h => by cases h) dM_proof_30
    · obtain ⟨j, hj, rfl⟩ := bl_of h2 (by decide)
      have hl : lv_has ls 2 [(0, .ref x0), (1, .int (nI j))] := hl
      refine lv_aload_n F.1 F.2.1 dM_proof_18 rfl (lv_at hl 0 rfl) ?_
      refine z_get F hK hP hinM 0 rfl rfl 3 (by decide) rfl wf_M_33 rfl dM_proof_19 ?_
      refine lv_iload_n F.1 F.2.1 dM_proof_22 rfl (lv_at hl 1 rfl) ?_
      refine z_call (z_runV [.int (nI j)] [] F (cq_element l dC dI cI cL _ 4 15 xQ xE xF pd el j rfl rfl hj) kk_Q_element wl_M_180 rfl rfl ⟨Nat.le_of_ble_eq_true rfl, Nat.le_of_ble_eq_true rfl⟩ (z_preVR (q := (RQ, TQ, 3)) hP hK rfl (q0 := 4) rfl) rfl hl.1 rfl (Nat.le_of_ble_eq_true rfl) dM_proof_23 ⟨Nat.zero_le _, Nat.zero_le _⟩) ?_
      refine lv_goto F.1 F.2.1 (tgt := 30) dM_proof_26 rfl ?_
      refine z_topV rr (by rw [← hR, h1, h2, nI_clamp (by omega)]; rfl) ?_
      exact W.iret F.1 F.2.1 hr (fun t ht hW => ⟨rfl, ht⟩) (fun _ h => by cases h) dM_proof_30
set_option maxHeartbeats 4000000 in
set_option maxRecDepth 100000 in
theorem cm_quotient (l : Launch) (dC : Nat → ClassId) (dI : Nat → Nat → Nat) (cI cL : ClassId) (x0 xC xD xK xQ xV xI xL xR xS xT xA xB xW xX xE xF : Nat) (pb cn ta al be ga de va : Nat) (md pd : Bool) (v inp sL sR sS sT f bb w mx el qt : Nat → Nat) (x : Int32)  : Met l yM_quotient (zW yM_quotient cM_quotient 2 (.some .int)) ({ frames := 1, cells := 0, slots := 0, locals := 21 }) (va_Pc [.ref x0, .int x] (z_R (dC, dI) vwCl [(cI, .int), (cL, .long)] [(x0, .inr (4, [.ref xC, .ref xD, .ref xK, .ref xQ, .ref xV, .ref xI, .int (nI pb), .ref xL, .ref xR, .ref xS, .ref xT])), (xC, .inr (0, [.ref xA, .int (nI cn)])), (xD, .inr (1, [.ref xB, .int (nI (szN cn)), .int (nI (iv (szN cn)))])), (xK, .inr (2, [.ref xW, .ref xX, .int (z_b md), .int (nI ta), .int (nI al), .int (nI be), .int (nI ga), .int (nI de), .int (nI va)])), (xQ, .inr (3, [.ref xE, .ref xF, .int (z_b pd)])), (xV, .inl (cI, 16, .inl (fun x9 => nI (v x9)))), (xI, .inl (cI, 7, .inl (fun x9 => nI (inp x9)))), (xL, .inl (cI, 16, .inl (fun x9 => nI (sL x9)))), (xR, .inl (cI, 16, .inl (fun x9 => nI (sR x9)))), (xS, .inl (cI, 16, .inl (fun x9 => nI (sS x9)))), (xT, .inl (cI, 16, .inl (fun x9 => nI (sT x9)))), (xA, .inl (cI, 816, .inl (fun x9 => nI (f x9)))), (xB, .inl (cI, 16, .inl (fun x9 => nI (bb x9)))), (xW, .inl (cI, 16, .inl (fun x9 => nI (w x9)))), (xX, .inl (cI, 16, .inl (fun x9 => nI (mx x9)))), (xE, .inl (cI, 3, .inl (fun x9 => nI (el x9)))), (xF, .inl (cI, 16, .inl (fun x9 => nI (qt x9))))])) (k2_QcV (.int (if (pd && bl x 16) = true then nI (qt x.toNatClampNeg) else -1))) 0 0 (fun _ => False) := by
  refine Met.ofW (cc := cM_quotient) (maxL := 2) (ret := (.some .int)) (by decide) rfl ?_
  intro p e s m args below meth c s₁ B hml hv
  obtain ⟨rfl, hP, hK⟩ := hv
  have F : CallFix p m c cM_quotient 2 s _ zT RM := ⟨B.exec, B.bytes, hml, findClass_of_methodNamed B.named, fun w h => atoms_spec (ws := (zW yM_quotient cM_quotient 2 (.some .int))) B.pre w (List.mem_cons_of_mem _ h)⟩
  have hr := B.returns
  have hlocks := B.notSynchronized
  have hl := lv_entry ([.ref x0, .int x]) (n := 2) (Nat.le_of_ble_eq_true rfl)
  rw [lg_entry_eq]
  generalize (lg_sl ([.ref x0, .int x]) ++ List.replicate (2 - (lg_sl ([.ref x0, .int x])).length) Slot.unset).toArray = ls at hl ⊢
  have hl : lv_has ls 2 [(0, .ref x0), (1, .int x)] := hl
  generalize hR : (if (pd && bl x 16) = true then nI (qt x.toNatClampNeg) else -1) = rr
  refine lv_aload_n F.1 F.2.1 dM_quotient_0 rfl (lv_at hl 0 rfl) ?_
  refine z_get F hK hP hinM 0 rfl rfl 3 (by decide) rfl wf_M_33 rfl dM_quotient_1 ?_
  refine z_call (z_runV [] [] F (cq_isMade l dC dI cI cL _ 4 xQ xE xF pd rfl) kk_Q_isMade wl_M_176 rfl rfl ⟨Nat.le_of_ble_eq_true rfl, Nat.le_of_ble_eq_true rfl⟩ (z_preVR (q := (RQ, TQ, 3)) hP hK rfl (q0 := 4) rfl) rfl hl.1 rfl (Nat.le_of_ble_eq_true rfl) dM_quotient_4 ⟨Nat.zero_le _, Nat.zero_le _⟩) ?_
  refine z_ifb_eq F (tgt := 30) dM_quotient_7 rfl (fun h1 => ?_) (fun h1 => ?_)
  · refine lv_iconst (v := -1) F.1 F.2.1 dM_quotient_30 (by decide) ?_
    refine z_topV rr (by rw [← hR, h1]; rfl) ?_
    exact W.iret F.1 F.2.1 hr (fun t ht hW => ⟨rfl, ht⟩) (fun _ h => by cases h) dM_quotient_31
  · refine lv_iload_n F.1 F.2.1 dM_quotient_10 rfl (lv_at hl 1 rfl) ?_
    refine z_bipush (v := 16) F (by decide) dM_quotient_11 ?_
    refine z_call (z_runS [.int x, .int (nI 16)] [] F (c_isBelow l x 16 (by decide)) kk_M_isBelow wl_M_56 rfl rfl ⟨Nat.le_of_ble_eq_true rfl, Nat.le_of_ble_eq_true rfl⟩ z_preN rfl hl.1 rfl (Nat.le_of_ble_eq_true rfl) dM_quotient_13 ⟨Nat.zero_le _, Nat.zero_le _⟩) ?_
    refine z_ifb_eq F (tgt := 30) dM_quotient_16 rfl (fun h2 => ?_) (fun h2 => ?_)
    · refine lv_iconst (v := -1) F.1 F.2.1 dM_quotient_30 (by decide) ?_
      refine z_topV rr (by rw [← hR, h1, h2]; rfl) ?_
      exact W.iret F.1 F.2.1 hr (fun t ht hW => ⟨rfl, ht⟩) (fun _ h => by cases h) dM_quotient_31
    · obtain ⟨j, hj, rfl⟩ := bl_of h2 (by decide)
      have hl : lv_has ls 2 [(0, .ref x0), (1, .int (nI j))] := hl
      refine lv_aload_n F.1 F.2.1 dM_quotient_19 rfl (lv_at hl 0 rfl) ?_
      refine z_get F hK hP hinM 0 rfl rfl 3 (by decide) rfl wf_M_33 rfl dM_quotient_20 ?_
      refine lv_iload_n F.1 F.2.1 dM_quotient_23 rfl (lv_at hl 1 rfl) ?_
      refine z_call (z_runV [.int (nI j)] [] F (cq_quotientCoefficient l dC dI cI cL _ 4 16 xQ xE xF pd qt j rfl rfl hj) kk_Q_quotientCoefficient wl_M_189 rfl rfl ⟨Nat.le_of_ble_eq_true rfl, Nat.le_of_ble_eq_true rfl⟩ (z_preVR (q := (RQ, TQ, 3)) hP hK rfl (q0 := 4) rfl) rfl hl.1 rfl (Nat.le_of_ble_eq_true rfl) dM_quotient_24 ⟨Nat.zero_le _, Nat.zero_le _⟩) ?_
      refine lv_goto F.1 F.2.1 (tgt := 31) dM_quotient_27 rfl ?_
      refine z_topV rr (by rw [← hR, h1, h2, nI_clamp (by omega)]; rfl) ?_
      exact W.iret F.1 F.2.1 hr (fun t ht hW => ⟨rfl, ht⟩) (fun _ h => by cases h) dM_quotient_31
end
section
theorem bl_out {x : Int32} {n : Nat} (h : bl x n = false) (hn : n < 2 ^ 31) : x.toInt < 0 ∨ (n : Int) - 1 < x.toInt := by
  by_cases hx : x < 0
  · left
    rwa [Int32.lt_iff_toInt_lt, Int32.toInt_zero] at hx
  · obtain ⟨j, hj, rfl⟩ := nI_of hx
    rw [bl_nI n hj] at h
    have := of_decide_eq_false h
    right
    rw [nI_toInt hj]
    omega
theorem bl_ne {x : Int32} {n j : Nat} (h : bl x n = false) (hj : j < n) (hn : n < 2 ^ 31) : ¬ x = nI j := fun q => by
  rw [q, bl_t hj hn] at h
  cases h
/-- what about answers -/
def abv (cn pb : Nat) (md pd : Bool) (x : Int32) : Int32 := if x = nI 0 then nI cn else if x = nI 1 then nI (szN cn) else if x = nI 2 then nI pb else if x = nI 3 then z_b md else if x = nI 4 then z_b pd else -1
/-- what key answers -/
def kyv (md : Bool) (sz pb ta ga de va : Nat) (mx : Nat → Nat) (x y : Int32) : Int32 := if md = true then (if x = nI 0 then (if bl y sz = true then nI (pw ta y.toNatClampNeg) else -1) else if x = nI 1 then (if bl y 16 = true then nI (mx y.toNatClampNeg * iv (if y.toNatClampNeg ≤ pb then ga else de) % 998244353) else -1) else if x = nI 2 then (if bl y (sz - 1) = true then nI (pw ta y.toNatClampNeg * va % 998244353 * iv de % 998244353) else -1) else -1) else -1
theorem kyv_1 {sz pb ta ga de va : Nat} {mx : Nat → Nat} {y : Nat} (h : bl (nI y) 16 = true) (hy : y < 2 ^ 31) : kyv true sz pb ta ga de va mx (nI 1) (nI y) = nI (mx y * iv (if y ≤ pb then ga else de) % 998244353) := by
  unfold kyv
  rw [if_pos rfl, if_neg (by decide), if_pos rfl, if_pos h, nI_clamp hy]
set_option maxHeartbeats 4000000 in
set_option maxRecDepth 100000 in
theorem cm_about (l : Launch) (dC : Nat → ClassId) (dI : Nat → Nat → Nat) (cI cL : ClassId) (x0 xC xD xK xQ xV xI xL xR xS xT xA xB xW xX xE xF : Nat) (pb cn ta al be ga de va : Nat) (md pd : Bool) (v inp sL sR sS sT f bb w mx el qt : Nat → Nat) (x : Int32)  : Met l yM_about (zW yM_about cM_about 2 (.some .int)) ({ frames := 1, cells := 0, slots := 0, locals := 20 }) (va_Pc [.ref x0, .int x] (z_R (dC, dI) vwCl [(cI, .int), (cL, .long)] [(x0, .inr (4, [.ref xC, .ref xD, .ref xK, .ref xQ, .ref xV, .ref xI, .int (nI pb), .ref xL, .ref xR, .ref xS, .ref xT])), (xC, .inr (0, [.ref xA, .int (nI cn)])), (xD, .inr (1, [.ref xB, .int (nI (szN cn)), .int (nI (iv (szN cn)))])), (xK, .inr (2, [.ref xW, .ref xX, .int (z_b md), .int (nI ta), .int (nI al), .int (nI be), .int (nI ga), .int (nI de), .int (nI va)])), (xQ, .inr (3, [.ref xE, .ref xF, .int (z_b pd)])), (xV, .inl (cI, 16, .inl (fun x9 => nI (v x9)))), (xI, .inl (cI, 7, .inl (fun x9 => nI (inp x9)))), (xL, .inl (cI, 16, .inl (fun x9 => nI (sL x9)))), (xR, .inl (cI, 16, .inl (fun x9 => nI (sR x9)))), (xS, .inl (cI, 16, .inl (fun x9 => nI (sS x9)))), (xT, .inl (cI, 16, .inl (fun x9 => nI (sT x9)))), (xA, .inl (cI, 816, .inl (fun x9 => nI (f x9)))), (xB, .inl (cI, 16, .inl (fun x9 => nI (bb x9)))), (xW, .inl (cI, 16, .inl (fun x9 => nI (w x9)))), (xX, .inl (cI, 16, .inl (fun x9 => nI (mx x9)))), (xE, .inl (cI, 3, .inl (fun x9 => nI (el x9)))), (xF, .inl (cI, 16, .inl (fun x9 => nI (qt x9))))])) (k2_QcV (.int (abv cn pb md pd x))) 0 0 (fun _ => False) := by
  refine Met.ofW (cc := cM_about) (maxL := 2) (ret := (.some .int)) (by decide) rfl ?_
  intro p e s m args below meth c s₁ B hml hv
  obtain ⟨rfl, hP, hK⟩ := hv
  have F : CallFix p m c cM_about 2 s _ zT RM := ⟨B.exec, B.bytes, hml, findClass_of_methodNamed B.named, fun w h => atoms_spec (ws := (zW yM_about cM_about 2 (.some .int))) B.pre w (List.mem_cons_of_mem _ h)⟩
  have hr := B.returns
  have hlocks := B.notSynchronized
  have hl := lv_entry ([.ref x0, .int x]) (n := 2) (Nat.le_of_ble_eq_true rfl)
  rw [lg_entry_eq]
  generalize (lg_sl ([.ref x0, .int x]) ++ List.replicate (2 - (lg_sl ([.ref x0, .int x])).length) Slot.unset).toArray = ls at hl ⊢
  have hl : lv_has ls 2 [(0, .ref x0), (1, .int x)] := hl
  generalize hR : abv cn pb md pd x = rr
  cases hb : bl x 5 with
  | false =>
    refine lv_iload_n F.1 F.2.1 dM_about_0 rfl (lv_at hl 1 rfl) ?_
    refine lv_tableOut F.1 F.2.1 (tgt := 89) dM_about_1 (bl_out hb (by decide)) rfl ?_
    refine lv_iconst (v := -1) F.1 F.2.1 dM_about_89 (by decide) ?_
    refine z_topV rr (by rw [← hR]; unfold abv; rw [if_neg (bl_ne hb (by decide) (by decide)), if_neg (bl_ne hb (by decide) (by decide)), if_neg (bl_ne hb (by decide) (by decide)), if_neg (bl_ne hb (by decide) (by decide)), if_neg (bl_ne hb (by decide) (by decide))]) ?_
    exact W.iret F.1 F.2.1 hr (fun t ht hW => ⟨rfl, ht⟩) (fun _ h => by cases h) dM_about_90
  | true =>
    obtain ⟨j, hj, rfl⟩ := bl_of hb (by decide)
    have hl : lv_has ls 2 [(0, .ref x0), (1, .int (nI j))] := hl
    rcases (show j = 0 ∨ j = 1 ∨ j = 2 ∨ j = 3 ∨ j = 4 by omega) with rfl | rfl | rfl | rfl | rfl
    · refine lv_iload_n F.1 F.2.1 dM_about_0 rfl (lv_at hl 1 rfl) ?_
      refine lv_tableIn F.1 F.2.1 (off := 35) (tgt := 36) dM_about_1 (by decide) (by decide) (by decide) rfl ?_
      refine lv_aload_n F.1 F.2.1 dM_about_36 rfl (lv_at hl 0 rfl) ?_
      refine z_get F hK hP hinM 0 rfl rfl 0 (by decide) rfl wf_M_10 rfl dM_about_37 ?_
      refine z_call (z_runV [] [] F (c_count l dC dI cI cL _ 1 xC xA cn rfl) kk_C_count wl_M_68 rfl rfl ⟨Nat.le_of_ble_eq_true rfl, Nat.le_of_ble_eq_true rfl⟩ (z_preVR (q := (RC, TC, 2)) hP hK rfl (q0 := 1) rfl) rfl hl.1 rfl (Nat.le_of_ble_eq_true rfl) dM_about_40 ⟨Nat.zero_le _, Nat.zero_le _⟩) ?_
      refine z_topV rr (by rw [← hR]; unfold abv; rw [if_pos rfl]) ?_
      exact W.iret F.1 F.2.1 hr (fun t ht hW => ⟨rfl, ht⟩) (fun _ h => by cases h) dM_about_43
    · refine lv_iload_n F.1 F.2.1 dM_about_0 rfl (lv_at hl 1 rfl) ?_
      refine lv_tableIn F.1 F.2.1 (off := 43) (tgt := 44) dM_about_1 (by decide) (by decide) (by decide) rfl ?_
      refine lv_aload_n F.1 F.2.1 dM_about_44 rfl (lv_at hl 0 rfl) ?_
      refine z_get F hK hP hinM 0 rfl rfl 1 (by decide) rfl wf_M_19 rfl dM_about_45 ?_
      refine z_call (z_runV [] [] F (c_size l dC dI cI cL _ 2 xD xB (szN cn) (iv (szN cn)) rfl) kk_D_size wl_M_112 rfl rfl ⟨Nat.le_of_ble_eq_true rfl, Nat.le_of_ble_eq_true rfl⟩ (z_preVR (q := (RD, TD, 3)) hP hK rfl (q0 := 2) rfl) rfl hl.1 rfl (Nat.le_of_ble_eq_true rfl) dM_about_48 ⟨Nat.zero_le _, Nat.zero_le _⟩) ?_
      refine z_topV rr (by rw [← hR]; unfold abv; rw [if_neg (by decide), if_pos rfl]) ?_
      exact W.iret F.1 F.2.1 hr (fun t ht hW => ⟨rfl, ht⟩) (fun _ h => by cases h) dM_about_51
    · refine lv_iload_n F.1 F.2.1 dM_about_0 rfl (lv_at hl 1 rfl) ?_
      refine lv_tableIn F.1 F.2.1 (off := 51) (tgt := 52) dM_about_1 (by decide) (by decide) (by decide) rfl ?_
      refine lv_aload_n F.1 F.2.1 dM_about_52 rfl (lv_at hl 0 rfl) ?_
      refine z_get F hK hP hinM 0 rfl rfl 6 (by decide) rfl wf_M_85 rfl dM_about_53 ?_
      refine z_topV rr (by rw [← hR]; unfold abv; rw [if_neg (by decide), if_neg (by decide), if_pos rfl]) ?_
      exact W.iret F.1 F.2.1 hr (fun t ht hW => ⟨rfl, ht⟩) (fun _ h => by cases h) dM_about_56
    · refine lv_iload_n F.1 F.2.1 dM_about_0 rfl (lv_at hl 1 rfl) ?_
      refine lv_tableIn F.1 F.2.1 (off := 56) (tgt := 57) dM_about_1 (by decide) (by decide) (by decide) rfl ?_
      refine lv_aload_n F.1 F.2.1 dM_about_57 rfl (lv_at hl 0 rfl) ?_
      refine z_get F hK hP hinM 0 rfl rfl 2 (by decide) rfl wf_M_26 rfl dM_about_58 ?_
      refine z_call (z_runV [] [] F (ck_isMade l dC dI cI cL _ 3 xK xW xX ta al be ga de va md rfl) kk_K_isMade wl_M_115 rfl rfl ⟨Nat.le_of_ble_eq_true rfl, Nat.le_of_ble_eq_true rfl⟩ (z_preVR (q := (RK, TK, 9)) hP hK rfl (q0 := 3) rfl) rfl hl.1 rfl (Nat.le_of_ble_eq_true rfl) dM_about_61 ⟨Nat.zero_le _, Nat.zero_le _⟩) ?_
      refine z_ifb_eq F (tgt := 71) dM_about_64 rfl (fun h1 => ?_) (fun h1 => ?_)
      · refine z_iconst (v := 0) F (by decide) dM_about_71 ?_
        refine z_topV rr (by rw [← hR]; unfold abv; rw [if_neg (by decide), if_neg (by decide), if_neg (by decide), if_pos rfl, h1]; decide) ?_
        exact W.iret F.1 F.2.1 hr (fun t ht hW => ⟨rfl, ht⟩) (fun _ h => by cases h) dM_about_72
      · refine z_iconst (v := 1) F (by decide) dM_about_67 ?_
        refine lv_goto F.1 F.2.1 (tgt := 72) dM_about_68 rfl ?_
        refine z_topV rr (by rw [← hR]; unfold abv; rw [if_neg (by decide), if_neg (by decide), if_neg (by decide), if_pos rfl, h1]; decide) ?_
        exact W.iret F.1 F.2.1 hr (fun t ht hW => ⟨rfl, ht⟩) (fun _ h => by cases h) dM_about_72
    · refine lv_iload_n F.1 F.2.1 dM_about_0 rfl (lv_at hl 1 rfl) ?_
      refine lv_tableIn F.1 F.2.1 (off := 72) (tgt := 73) dM_about_1 (by decide) (by decide) (by decide) rfl ?_
      refine lv_aload_n F.1 F.2.1 dM_about_73 rfl (lv_at hl 0 rfl) ?_
      refine z_get F hK hP hinM 0 rfl rfl 3 (by decide) rfl wf_M_33 rfl dM_about_74 ?_
      refine z_call (z_runV [] [] F (cq_isMade l dC dI cI cL _ 4 xQ xE xF pd rfl) kk_Q_isMade wl_M_176 rfl rfl ⟨Nat.le_of_ble_eq_true rfl, Nat.le_of_ble_eq_true rfl⟩ (z_preVR (q := (RQ, TQ, 3)) hP hK rfl (q0 := 4) rfl) rfl hl.1 rfl (Nat.le_of_ble_eq_true rfl) dM_about_77 ⟨Nat.zero_le _, Nat.zero_le _⟩) ?_
      refine z_ifb_eq F (tgt := 87) dM_about_80 rfl (fun h1 => ?_) (fun h1 => ?_)
      · refine z_iconst (v := 0) F (by decide) dM_about_87 ?_
        refine z_topV rr (by rw [← hR]; unfold abv; rw [if_neg (by decide), if_neg (by decide), if_neg (by decide), if_neg (by decide), if_pos rfl, h1]; decide) ?_
        exact W.iret F.1 F.2.1 hr (fun t ht hW => ⟨rfl, ht⟩) (fun _ h => by cases h) dM_about_88
      · refine z_iconst (v := 1) F (by decide) dM_about_83 ?_
        refine lv_goto F.1 F.2.1 (tgt := 88) dM_about_84 rfl ?_
        refine z_topV rr (by rw [← hR]; unfold abv; rw [if_neg (by decide), if_neg (by decide), if_neg (by decide), if_neg (by decide), if_pos rfl, h1]; decide) ?_
        exact W.iret F.1 F.2.1 hr (fun t ht hW => ⟨rfl, ht⟩) (fun _ h => by cases h) dM_about_88
set_option maxHeartbeats 4000000 in
set_option maxRecDepth 100000 in
theorem cm_key (l : Launch) (dC : Nat → ClassId) (dI : Nat → Nat → Nat) (cI cL : ClassId) (x0 xC xD xK xQ xV xI xL xR xS xT xA xB xW xX xE xF : Nat) (pb cn ta al be ga de va : Nat) (md pd : Bool) (v inp sL sR sS sT f bb w mx el qt : Nat → Nat) (x y : Int32) (hw : ∀ j, mx j < 998244353) (ht : ta < 998244353) (hva : va < 998244353) (hg : ga < 998244353) (hd : de < 998244353) (hp : pb ≤ 6) : Met l yM_key (zW yM_key cM_key 3 (.some .int)) ({ frames := 4, cells := 0, slots := 0, locals := 88 }) (va_Pc [.ref x0, .int x, .int y] (z_R (dC, dI) vwCl [(cI, .int), (cL, .long)] [(x0, .inr (4, [.ref xC, .ref xD, .ref xK, .ref xQ, .ref xV, .ref xI, .int (nI pb), .ref xL, .ref xR, .ref xS, .ref xT])), (xC, .inr (0, [.ref xA, .int (nI cn)])), (xD, .inr (1, [.ref xB, .int (nI (szN cn)), .int (nI (iv (szN cn)))])), (xK, .inr (2, [.ref xW, .ref xX, .int (z_b md), .int (nI ta), .int (nI al), .int (nI be), .int (nI ga), .int (nI de), .int (nI va)])), (xQ, .inr (3, [.ref xE, .ref xF, .int (z_b pd)])), (xV, .inl (cI, 16, .inl (fun x9 => nI (v x9)))), (xI, .inl (cI, 7, .inl (fun x9 => nI (inp x9)))), (xL, .inl (cI, 16, .inl (fun x9 => nI (sL x9)))), (xR, .inl (cI, 16, .inl (fun x9 => nI (sR x9)))), (xS, .inl (cI, 16, .inl (fun x9 => nI (sS x9)))), (xT, .inl (cI, 16, .inl (fun x9 => nI (sT x9)))), (xA, .inl (cI, 816, .inl (fun x9 => nI (f x9)))), (xB, .inl (cI, 16, .inl (fun x9 => nI (bb x9)))), (xW, .inl (cI, 16, .inl (fun x9 => nI (w x9)))), (xX, .inl (cI, 16, .inl (fun x9 => nI (mx x9)))), (xE, .inl (cI, 3, .inl (fun x9 => nI (el x9)))), (xF, .inl (cI, 16, .inl (fun x9 => nI (qt x9))))])) (k2_QcV (.int (kyv md (szN cn) pb ta ga de va mx x y))) 0 0 (fun _ => False) := by
  refine Met.ofW (cc := cM_key) (maxL := 3) (ret := (.some .int)) (by decide) rfl ?_
  intro p e s m args below meth c s₁ B hml hv
  obtain ⟨rfl, hP, hK⟩ := hv
  have F : CallFix p m c cM_key 3 s _ zT RM := ⟨B.exec, B.bytes, hml, findClass_of_methodNamed B.named, fun w h => atoms_spec (ws := (zW yM_key cM_key 3 (.some .int))) B.pre w (List.mem_cons_of_mem _ h)⟩
  have hr := B.returns
  have hlocks := B.notSynchronized
  have hl := lv_entry ([.ref x0, .int x, .int y]) (n := 3) (Nat.le_of_ble_eq_true rfl)
  rw [lg_entry_eq]
  generalize (lg_sl ([.ref x0, .int x, .int y]) ++ List.replicate (3 - (lg_sl ([.ref x0, .int x, .int y])).length) Slot.unset).toArray = ls at hl ⊢
  have hl : lv_has ls 3 [(0, .ref x0), (1, .int x), (2, .int y)] := hl
  generalize hR : kyv md (szN cn) pb ta ga de va mx x y = rr
  have hlo := szN_lo cn
  have hhi := szN_hi cn
  refine lv_aload_n F.1 F.2.1 dM_key_0 rfl (lv_at hl 0 rfl) ?_
  refine z_get F hK hP hinM 0 rfl rfl 2 (by decide) rfl wf_M_26 rfl dM_key_1 ?_
  refine z_call (z_runV [] [] F (ck_isMade l dC dI cI cL _ 3 xK xW xX ta al be ga de va md rfl) kk_K_isMade wl_M_115 rfl rfl ⟨Nat.le_of_ble_eq_true rfl, Nat.le_of_ble_eq_true rfl⟩ (z_preVR (q := (RK, TK, 9)) hP hK rfl (q0 := 3) rfl) rfl hl.1 rfl (Nat.le_of_ble_eq_true rfl) dM_key_4 ⟨Nat.zero_le _, Nat.zero_le _⟩) ?_
  refine z_ifb_ne F (tgt := 12) dM_key_7 rfl (fun h1 => ?_) (fun h1 => ?_)
  · cases hb : bl x 3 with
    | false =>
      refine lv_iload_n F.1 F.2.1 dM_key_12 rfl (lv_at hl 1 rfl) ?_
      refine lv_tableOut F.1 F.2.1 (tgt := 125) dM_key_13 (bl_out hb (by decide)) rfl ?_
      refine lv_iconst (v := -1) F.1 F.2.1 dM_key_125 (by decide) ?_
      refine z_topV rr (by rw [← hR, h1]; unfold kyv; rw [if_pos rfl, if_neg (bl_ne hb (by decide) (by decide)), if_neg (bl_ne hb (by decide) (by decide)), if_neg (bl_ne hb (by decide) (by decide))]) ?_
      exact W.iret F.1 F.2.1 hr (fun t ht hW => ⟨rfl, ht⟩) (fun _ h => by cases h) dM_key_126
    | true =>
      obtain ⟨j, hj, rfl⟩ := bl_of hb (by decide)
      have hl : lv_has ls 3 [(0, .ref x0), (1, .int (nI j)), (2, .int y)] := hl
      rcases (show j = 0 ∨ j = 1 ∨ j = 2 by omega) with rfl | rfl | rfl
      · refine lv_iload_n F.1 F.2.1 dM_key_12 rfl (lv_at hl 1 rfl) ?_
        refine lv_tableIn F.1 F.2.1 (off := 27) (tgt := 40) dM_key_13 (by decide) (by decide) (by decide) rfl ?_
        refine lv_iload_n F.1 F.2.1 dM_key_40 rfl (lv_at hl 2 rfl) ?_
        refine lv_aload_n F.1 F.2.1 dM_key_41 rfl (lv_at hl 0 rfl) ?_
        refine z_get F hK hP hinM 0 rfl rfl 1 (by decide) rfl wf_M_19 rfl dM_key_42 ?_
        refine z_call (z_runV [] [.int y] F (c_size l dC dI cI cL _ 2 xD xB (szN cn) (iv (szN cn)) rfl) kk_D_size wl_M_112 rfl rfl ⟨Nat.le_of_ble_eq_true rfl, Nat.le_of_ble_eq_true rfl⟩ (z_preVR (q := (RD, TD, 3)) hP hK rfl (q0 := 2) rfl) rfl hl.1 rfl (Nat.le_of_ble_eq_true rfl) dM_key_45 ⟨Nat.zero_le _, Nat.zero_le _⟩) ?_
        refine z_call (z_runS [.int y, .int (nI (szN cn))] [] F (c_isBelow l y (szN cn) (by omega)) kk_M_isBelow wl_M_56 rfl rfl ⟨Nat.le_of_ble_eq_true rfl, Nat.le_of_ble_eq_true rfl⟩ z_preN rfl hl.1 rfl (Nat.le_of_ble_eq_true rfl) dM_key_48 ⟨Nat.zero_le _, Nat.zero_le _⟩) ?_
        refine z_ifb_eq F (tgt := 68) dM_key_51 rfl (fun h2 => ?_) (fun h2 => ?_)
        · refine lv_iconst (v := -1) F.1 F.2.1 dM_key_68 (by decide) ?_
          refine z_topV rr (by rw [← hR, h1]; unfold kyv; rw [if_pos rfl, if_pos rfl, h2]; rfl) ?_
          exact W.iret F.1 F.2.1 hr (fun t ht hW => ⟨rfl, ht⟩) (fun _ h => by cases h) dM_key_69
        · obtain ⟨y, hy, rfl⟩ := bl_of h2 (by omega)
          have hl : lv_has ls 3 [(0, .ref x0), (1, .int (nI 0)), (2, .int (nI y))] := hl
          refine lv_aload_n F.1 F.2.1 dM_key_54 rfl (lv_at hl 0 rfl) ?_
          refine z_get F hK hP hinM 0 rfl rfl 2 (by decide) rfl wf_M_26 rfl dM_key_55 ?_
          refine z_call (z_runV [] [] F (ck_tau l dC dI cI cL _ 3 xK xW xX ta al be ga de va md rfl) kk_K_tau wl_M_157 rfl rfl ⟨Nat.le_of_ble_eq_true rfl, Nat.le_of_ble_eq_true rfl⟩ (z_preVR (q := (RK, TK, 9)) hP hK rfl (q0 := 3) rfl) rfl hl.1 rfl (Nat.le_of_ble_eq_true rfl) dM_key_58 ⟨Nat.zero_le _, Nat.zero_le _⟩) ?_
          refine lv_iload_n F.1 F.2.1 dM_key_61 rfl (lv_at hl 2 rfl) ?_
          refine z_call (z_runS [.int (nI ta), .int (nI y)] [] F (c_power l ta y (Nat.lt_trans (ht) (by decide)) (by omega)) kk_F_power wl_M_200 rfl rfl ⟨Nat.le_of_ble_eq_true rfl, Nat.le_of_ble_eq_true rfl⟩ z_preN rfl hl.1 rfl (Nat.le_of_ble_eq_true rfl) dM_key_62 ⟨Nat.zero_le _, Nat.zero_le _⟩) ?_
          refine lv_goto F.1 F.2.1 (tgt := 69) dM_key_65 rfl ?_
          refine z_topV rr (by rw [← hR, h1]; unfold kyv; rw [if_pos rfl, if_pos rfl, h2, if_pos rfl, nI_clamp (by omega)]) ?_
          exact W.iret F.1 F.2.1 hr (fun t ht hW => ⟨rfl, ht⟩) (fun _ h => by cases h) dM_key_69
      · refine lv_iload_n F.1 F.2.1 dM_key_12 rfl (lv_at hl 1 rfl) ?_
        refine lv_tableIn F.1 F.2.1 (off := 57) (tgt := 70) dM_key_13 (by decide) (by decide) (by decide) rfl ?_
        refine lv_iload_n F.1 F.2.1 dM_key_70 rfl (lv_at hl 2 rfl) ?_
        refine z_bipush (v := 16) F (by decide) dM_key_71 ?_
        refine z_call (z_runS [.int y, .int (nI 16)] [] F (c_isBelow l y (16) (by omega)) kk_M_isBelow wl_M_56 rfl rfl ⟨Nat.le_of_ble_eq_true rfl, Nat.le_of_ble_eq_true rfl⟩ z_preN rfl hl.1 rfl (Nat.le_of_ble_eq_true rfl) dM_key_73 ⟨Nat.zero_le _, Nat.zero_le _⟩) ?_
        refine z_ifb_eq F (tgt := 94) dM_key_76 rfl (fun h2 => ?_) (fun h2 => ?_)
        · refine lv_iconst (v := -1) F.1 F.2.1 dM_key_94 (by decide) ?_
          refine z_topV rr (by rw [← hR, h1]; unfold kyv; rw [if_pos rfl, if_neg (by decide), if_pos rfl, h2]; rfl) ?_
          exact W.iret F.1 F.2.1 hr (fun t ht hW => ⟨rfl, ht⟩) (fun _ h => by cases h) dM_key_95
        · obtain ⟨y, hy, rfl⟩ := bl_of h2 (by omega)
          have hl : lv_has ls 3 [(0, .ref x0), (1, .int (nI 1)), (2, .int (nI y))] := hl
          refine lv_aload_n F.1 F.2.1 dM_key_79 rfl (lv_at hl 0 rfl) ?_
          refine z_get F hK hP hinM 0 rfl rfl 2 (by decide) rfl wf_M_26 rfl dM_key_80 ?_
          refine lv_iload_n F.1 F.2.1 dM_key_83 rfl (lv_at hl 2 rfl) ?_
          refine lv_aload_n F.1 F.2.1 dM_key_84 rfl (lv_at hl 0 rfl) ?_
          refine z_get F hK hP hinM 0 rfl rfl 6 (by decide) rfl wf_M_85 rfl dM_key_85 ?_
          refine z_call (z_runV [.int (nI y), .int (nI pb)] [] F (ck_sharedMix l dC dI cI cL _ 3 14 xK xW xX ta al be ga de va md mx y pb rfl rfl hw (by omega) (by omega) hg hd) kk_K_sharedMix wl_M_203 rfl rfl ⟨Nat.le_of_ble_eq_true rfl, Nat.le_of_ble_eq_true rfl⟩ (z_preVR (q := (RK, TK, 9)) hP hK rfl (q0 := 3) rfl) rfl hl.1 rfl (Nat.le_of_ble_eq_true rfl) dM_key_88 ⟨Nat.zero_le _, Nat.zero_le _⟩) ?_
          refine lv_goto F.1 F.2.1 (tgt := 95) dM_key_91 rfl ?_
          refine z_topV rr (by rw [← hR, h1]; exact (kyv_1 h2 (by omega)).symm) ?_
          exact W.iret F.1 F.2.1 hr (fun t ht hW => ⟨rfl, ht⟩) (fun _ h => by cases h) dM_key_95
      · refine lv_iload_n F.1 F.2.1 dM_key_12 rfl (lv_at hl 1 rfl) ?_
        refine lv_tableIn F.1 F.2.1 (off := 83) (tgt := 96) dM_key_13 (by decide) (by decide) (by decide) rfl ?_
        refine lv_iload_n F.1 F.2.1 dM_key_96 rfl (lv_at hl 2 rfl) ?_
        refine lv_aload_n F.1 F.2.1 dM_key_97 rfl (lv_at hl 0 rfl) ?_
        refine z_get F hK hP hinM 0 rfl rfl 1 (by decide) rfl wf_M_19 rfl dM_key_98 ?_
        refine z_call (z_runV [] [.int y] F (c_size l dC dI cI cL _ 2 xD xB (szN cn) (iv (szN cn)) rfl) kk_D_size wl_M_112 rfl rfl ⟨Nat.le_of_ble_eq_true rfl, Nat.le_of_ble_eq_true rfl⟩ (z_preVR (q := (RD, TD, 3)) hP hK rfl (q0 := 2) rfl) rfl hl.1 rfl (Nat.le_of_ble_eq_true rfl) dM_key_101 ⟨Nat.zero_le _, Nat.zero_le _⟩) ?_
        refine z_iconst (v := 1) F (by decide) dM_key_104 ?_
        refine z_isub F (by omega) dM_key_105 ?_
        refine z_call (z_runS [.int y, .int (nI ((szN cn) - 1))] [] F (c_isBelow l y (szN cn - 1) (by omega)) kk_M_isBelow wl_M_56 rfl rfl ⟨Nat.le_of_ble_eq_true rfl, Nat.le_of_ble_eq_true rfl⟩ z_preN rfl hl.1 rfl (Nat.le_of_ble_eq_true rfl) dM_key_106 ⟨Nat.zero_le _, Nat.zero_le _⟩) ?_
        refine z_ifb_eq F (tgt := 123) dM_key_109 rfl (fun h2 => ?_) (fun h2 => ?_)
        · refine lv_iconst (v := -1) F.1 F.2.1 dM_key_123 (by decide) ?_
          refine z_topV rr (by rw [← hR, h1]; unfold kyv; rw [if_pos rfl, if_neg (by decide), if_neg (by decide), if_pos rfl, h2]; rfl) ?_
          exact W.iret F.1 F.2.1 hr (fun t ht hW => ⟨rfl, ht⟩) (fun _ h => by cases h) dM_key_124
        · obtain ⟨y, hy, rfl⟩ := bl_of h2 (by omega)
          have hl : lv_has ls 3 [(0, .ref x0), (1, .int (nI 2)), (2, .int (nI y))] := hl
          refine lv_aload_n F.1 F.2.1 dM_key_112 rfl (lv_at hl 0 rfl) ?_
          refine z_get F hK hP hinM 0 rfl rfl 2 (by decide) rfl wf_M_26 rfl dM_key_113 ?_
          refine lv_iload_n F.1 F.2.1 dM_key_116 rfl (lv_at hl 2 rfl) ?_
          refine z_call (z_runV [.int (nI y)] [] F (ck_vanishingStep l dC dI cI cL _ 3 xK xW xX ta al be ga de va md y rfl (by omega) ht hva hd) kk_K_vanishingStep wl_M_206 rfl rfl ⟨Nat.le_of_ble_eq_true rfl, Nat.le_of_ble_eq_true rfl⟩ (z_preVR (q := (RK, TK, 9)) hP hK rfl (q0 := 3) rfl) rfl hl.1 rfl (Nat.le_of_ble_eq_true rfl) dM_key_117 ⟨Nat.zero_le _, Nat.zero_le _⟩) ?_
          refine lv_goto F.1 F.2.1 (tgt := 124) dM_key_120 rfl ?_
          refine z_topV rr (by rw [← hR, h1]; unfold kyv; rw [if_pos rfl, if_neg (by decide), if_neg (by decide), if_pos rfl, h2, if_pos rfl, nI_clamp (by omega)]) ?_
          exact W.iret F.1 F.2.1 hr (fun t ht hW => ⟨rfl, ht⟩) (fun _ h => by cases h) dM_key_124
  · refine lv_iconst (v := -1) F.1 F.2.1 dM_key_10 (by decide) ?_
    refine z_topV rr (by rw [← hR, h1]; rfl) ?_
    exact W.iret F.1 F.2.1 hr (fun t ht hW => ⟨rfl, ht⟩) (fun _ h => by cases h) dM_key_11
end
section
set_option maxHeartbeats 4000000 in
set_option maxRecDepth 100000 in
theorem cm_polynomial_no (l : Launch) (dC : Nat → ClassId) (dI : Nat → Nat → Nat) (cI cL : ClassId) (x0 xC xD xK xQ xV xI xL xR xS xT xA xB xW xX xE xF : Nat) (pb cn ta al be ga de va : Nat) (md pd : Bool) (v inp sL sR sS sT f bb w mx el qt : Nat → Nat) (x y z : Int32) (h : (bl x 3 && (bl y 16 && bl z (szN cn))) = false) : Met l yM_polynomial (zW yM_polynomial cM_polynomial 4 (.some .int)) ({ frames := 1, cells := 0, slots := 0, locals := 21 }) (va_Pc [.ref x0, .int x, .int y, .int z] (z_R (dC, dI) vwCl [(cI, .int), (cL, .long)] [(x0, .inr (4, [.ref xC, .ref xD, .ref xK, .ref xQ, .ref xV, .ref xI, .int (nI pb), .ref xL, .ref xR, .ref xS, .ref xT])), (xC, .inr (0, [.ref xA, .int (nI cn)])), (xD, .inr (1, [.ref xB, .int (nI (szN cn)), .int (nI (iv (szN cn)))])), (xK, .inr (2, [.ref xW, .ref xX, .int (z_b md), .int (nI ta), .int (nI al), .int (nI be), .int (nI ga), .int (nI de), .int (nI va)])), (xQ, .inr (3, [.ref xE, .ref xF, .int (z_b pd)])), (xV, .inl (cI, 16, .inl (fun x9 => nI (v x9)))), (xI, .inl (cI, 7, .inl (fun x9 => nI (inp x9)))), (xL, .inl (cI, 16, .inl (fun x9 => nI (sL x9)))), (xR, .inl (cI, 16, .inl (fun x9 => nI (sR x9)))), (xS, .inl (cI, 16, .inl (fun x9 => nI (sS x9)))), (xT, .inl (cI, 16, .inl (fun x9 => nI (sT x9)))), (xA, .inl (cI, 816, .inl (fun x9 => nI (f x9)))), (xB, .inl (cI, 16, .inl (fun x9 => nI (bb x9)))), (xW, .inl (cI, 16, .inl (fun x9 => nI (w x9)))), (xX, .inl (cI, 16, .inl (fun x9 => nI (mx x9)))), (xE, .inl (cI, 3, .inl (fun x9 => nI (el x9)))), (xF, .inl (cI, 16, .inl (fun x9 => nI (qt x9))))])) (k2_QcV (.int ((-1)))) 0 0 (fun _ => False) := by
  refine Met.ofW (cc := cM_polynomial) (maxL := 4) (ret := (.some .int)) (by decide) rfl ?_
  intro p e s m args below meth c s₁ B hml hv
  obtain ⟨rfl, hP, hK⟩ := hv
  have F : CallFix p m c cM_polynomial 4 s _ zT RM := ⟨B.exec, B.bytes, hml, findClass_of_methodNamed B.named, fun w h => atoms_spec (ws := (zW yM_polynomial cM_polynomial 4 (.some .int))) B.pre w (List.mem_cons_of_mem _ h)⟩
  have hr := B.returns
  have hlocks := B.notSynchronized
  have hl := lv_entry ([.ref x0, .int x, .int y, .int z]) (n := 4) (Nat.le_of_ble_eq_true rfl)
  rw [lg_entry_eq]
  generalize (lg_sl ([.ref x0, .int x, .int y, .int z]) ++ List.replicate (4 - (lg_sl ([.ref x0, .int x, .int y, .int z])).length) Slot.unset).toArray = ls at hl ⊢
  have hl : lv_has ls 4 [(0, .ref x0), (1, .int x), (2, .int y), (3, .int z)] := hl
  have hlo := szN_lo cn
  have hhi := szN_hi cn
  refine lv_iload_n F.1 F.2.1 dM_polynomial_0 rfl (lv_at hl 1 rfl) ?_
  refine z_iconst (v := 3) F (by decide) dM_polynomial_1 ?_
  refine z_call (z_runS [.int x, .int (nI 3)] [] F (c_isBelow l x (3) (by omega)) kk_M_isBelow wl_M_56 rfl rfl ⟨Nat.le_of_ble_eq_true rfl, Nat.le_of_ble_eq_true rfl⟩ z_preN rfl hl.1 rfl (Nat.le_of_ble_eq_true rfl) dM_polynomial_2 ⟨Nat.zero_le _, Nat.zero_le _⟩) ?_
  refine z_ifb_eq F (tgt := 31) dM_polynomial_5 rfl (fun h1 => ?_) (fun h1 => ?_)
  · refine lv_iconst (v := -1) F.1 F.2.1 dM_polynomial_31 (by decide) ?_
    exact W.iret F.1 F.2.1 hr (fun t ht hW => ⟨rfl, ht⟩) (fun _ h => by cases h) dM_polynomial_32
  · refine lv_iload_n F.1 F.2.1 dM_polynomial_8 rfl (lv_at hl 2 rfl) ?_
    refine z_bipush (v := 16) F (by decide) dM_polynomial_9 ?_
    refine z_call (z_runS [.int y, .int (nI 16)] [] F (c_isBelow l y (16) (by omega)) kk_M_isBelow wl_M_56 rfl rfl ⟨Nat.le_of_ble_eq_true rfl, Nat.le_of_ble_eq_true rfl⟩ z_preN rfl hl.1 rfl (Nat.le_of_ble_eq_true rfl) dM_polynomial_11 ⟨Nat.zero_le _, Nat.zero_le _⟩) ?_
    refine z_ifb_eq F (tgt := 31) dM_polynomial_14 rfl (fun h2 => ?_) (fun h2 => ?_)
    · refine lv_iconst (v := -1) F.1 F.2.1 dM_polynomial_31 (by decide) ?_
      exact W.iret F.1 F.2.1 hr (fun t ht hW => ⟨rfl, ht⟩) (fun _ h => by cases h) dM_polynomial_32
    · refine lv_iload_n F.1 F.2.1 dM_polynomial_17 rfl (lv_at hl 3 rfl) ?_
      refine lv_aload_n F.1 F.2.1 dM_polynomial_18 rfl (lv_at hl 0 rfl) ?_
      refine z_get F hK hP hinM 0 rfl rfl 1 (by decide) rfl wf_M_19 rfl dM_polynomial_19 ?_
      refine z_call (z_runV [] [.int z] F (c_size l dC dI cI cL _ 2 xD xB (szN cn) (iv (szN cn)) rfl) kk_D_size wl_M_112 rfl rfl ⟨Nat.le_of_ble_eq_true rfl, Nat.le_of_ble_eq_true rfl⟩ (z_preVR (q := (RD, TD, 3)) hP hK rfl (q0 := 2) rfl) rfl hl.1 rfl (Nat.le_of_ble_eq_true rfl) dM_polynomial_22 ⟨Nat.zero_le _, Nat.zero_le _⟩) ?_
      refine z_call (z_runS [.int z, .int (nI (szN cn))] [] F (c_isBelow l z (szN cn) (by omega)) kk_M_isBelow wl_M_56 rfl rfl ⟨Nat.le_of_ble_eq_true rfl, Nat.le_of_ble_eq_true rfl⟩ z_preN rfl hl.1 rfl (Nat.le_of_ble_eq_true rfl) dM_polynomial_25 ⟨Nat.zero_le _, Nat.zero_le _⟩) ?_
      refine z_ifb_ne F (tgt := 33) dM_polynomial_28 rfl (fun h3 => ?_) (fun h3 => ?_)
      · rw [h1, h2, h3] at h
        cases h
      · refine lv_iconst (v := -1) F.1 F.2.1 dM_polynomial_31 (by decide) ?_
        exact W.iret F.1 F.2.1 hr (fun t ht hW => ⟨rfl, ht⟩) (fun _ h => by cases h) dM_polynomial_32
theorem szN_pow (m : Nat) : ∃ kk, kk ≤ 4 ∧ szN m = 2 ^ kk := by
  rcases szN_of (m := m) with h | h | h | h
  · exact ⟨1, by decide, h⟩
  · exact ⟨2, by decide, h⟩
  · exact ⟨3, by decide, h⟩
  · exact ⟨4, by decide, h⟩
set_option maxHeartbeats 4000000 in
set_option maxRecDepth 100000 in
theorem cm_polynomial (l : Launch) (dC : Nat → ClassId) (dI : Nat → Nat → Nat) (cI cL : ClassId) (zz : Nat) (x0 xC xD xK xQ xV xI xL xR xS xT xA xB xW xX xE xF : Nat) (pb cn ta al be ga de va : Nat) (md pd : Bool) (v inp sL sR sS sT f bb w mx el qt : Nat → Nat) (row i k : Nat) (hf : ∀ j, f j < 998244353) (hbb : ∀ j, bb j < 998244353) (hn : cn ≤ 16) (hrow : row < 3) (hi : i < 16) (hk : k < szN cn) : Met l yM_polynomial (zW yM_polynomial cM_polynomial 4 (.some .int)) ({ frames := 2, cells := 0, slots := 0, locals := 46 }) (va_Pc [.ref x0, .int (nI row), .int (nI i), .int (nI k)] (z_P (dC, dI) vwCl [(cI, .int), (cL, .long)] zz ([(x0, .inr (4, [.ref xC, .ref xD, .ref xK, .ref xQ, .ref xV, .ref xI, .int (nI pb), .ref xL, .ref xR, .ref xS, .ref xT])), (xC, .inr (0, [.ref xA, .int (nI cn)])), (xD, .inr (1, [.ref xB, .int (nI (szN cn)), .int (nI (iv (szN cn)))])), (xK, .inr (2, [.ref xW, .ref xX, .int (z_b md), .int (nI ta), .int (nI al), .int (nI be), .int (nI ga), .int (nI de), .int (nI va)])), (xQ, .inr (3, [.ref xE, .ref xF, .int (z_b pd)])), (xV, .inl (cI, 16, .inl (fun x9 => nI (v x9)))), (xI, .inl (cI, 7, .inl (fun x9 => nI (inp x9)))), (xL, .inl (cI, 16, .inl (fun x9 => nI (sL x9)))), (xR, .inl (cI, 16, .inl (fun x9 => nI (sR x9)))), (xS, .inl (cI, 16, .inl (fun x9 => nI (sS x9)))), (xT, .inl (cI, 16, .inl (fun x9 => nI (sT x9)))), (xA, .inl (cI, 816, .inl (fun x9 => nI (f x9)))), (xB, .inl (cI, 16, .inl (fun x9 => nI (bb x9)))), (xW, .inl (cI, 16, .inl (fun x9 => nI (w x9)))), (xX, .inl (cI, 16, .inl (fun x9 => nI (mx x9)))), (xE, .inl (cI, 3, .inl (fun x9 => nI (el x9)))), (xF, .inl (cI, 16, .inl (fun x9 => nI (qt x9))))]))) (z_Q (dC, dI) vwCl [(cI, .int), (cL, .long)] (some (.int (nI (sg (szN cn) (fun t => (fun j => if j < cn then f ((j * 3 + row) * 16 + i) else 0) t * bb (t * k % szN cn)) % 998244353 * iv (szN cn) % 998244353)))) ([(x0, .inr (4, [.ref xC, .ref xD, .ref xK, .ref xQ, .ref xV, .ref xI, .int (nI pb), .ref xL, .ref xR, .ref xS, .ref xT])), (xC, .inr (0, [.ref xA, .int (nI cn)])), (xD, .inr (1, [.ref xB, .int (nI (szN cn)), .int (nI (iv (szN cn)))])), (xK, .inr (2, [.ref xW, .ref xX, .int (z_b md), .int (nI ta), .int (nI al), .int (nI be), .int (nI ga), .int (nI de), .int (nI va)])), (xQ, .inr (3, [.ref xE, .ref xF, .int (z_b pd)])), (xV, .inl (cI, 16, .inl (fun x9 => nI (v x9)))), (xI, .inl (cI, 7, .inl (fun x9 => nI (inp x9)))), (xL, .inl (cI, 16, .inl (fun x9 => nI (((fun j => if j < cn then f ((j * 3 + row) * 16 + i) else 0)) x9)))), (xR, .inl (cI, 16, .inl (fun x9 => nI (sR x9)))), (xS, .inl (cI, 16, .inl (fun x9 => nI (sS x9)))), (xT, .inl (cI, 16, .inl (fun x9 => nI (sT x9)))), (xA, .inl (cI, 816, .inl (fun x9 => nI (f x9)))), (xB, .inl (cI, 16, .inl (fun x9 => nI (bb x9)))), (xW, .inl (cI, 16, .inl (fun x9 => nI (w x9)))), (xX, .inl (cI, 16, .inl (fun x9 => nI (mx x9)))), (xE, .inl (cI, 3, .inl (fun x9 => nI (el x9)))), (xF, .inl (cI, 16, .inl (fun x9 => nI (qt x9))))]) (va_A ([(x0, .inr (4, [.ref xC, .ref xD, .ref xK, .ref xQ, .ref xV, .ref xI, .int (nI pb), .ref xL, .ref xR, .ref xS, .ref xT])), (xC, .inr (0, [.ref xA, .int (nI cn)])), (xD, .inr (1, [.ref xB, .int (nI (szN cn)), .int (nI (iv (szN cn)))])), (xK, .inr (2, [.ref xW, .ref xX, .int (z_b md), .int (nI ta), .int (nI al), .int (nI be), .int (nI ga), .int (nI de), .int (nI va)])), (xQ, .inr (3, [.ref xE, .ref xF, .int (z_b pd)])), (xV, .inl (cI, 16, .inl (fun x9 => nI (v x9)))), (xI, .inl (cI, 7, .inl (fun x9 => nI (inp x9)))), (xL, .inl (cI, 16, .inl (fun x9 => nI (sL x9)))), (xR, .inl (cI, 16, .inl (fun x9 => nI (sR x9)))), (xS, .inl (cI, 16, .inl (fun x9 => nI (sS x9)))), (xT, .inl (cI, 16, .inl (fun x9 => nI (sT x9)))), (xA, .inl (cI, 816, .inl (fun x9 => nI (f x9)))), (xB, .inl (cI, 16, .inl (fun x9 => nI (bb x9)))), (xW, .inl (cI, 16, .inl (fun x9 => nI (w x9)))), (xX, .inl (cI, 16, .inl (fun x9 => nI (mx x9)))), (xE, .inl (cI, 3, .inl (fun x9 => nI (el x9)))), (xF, .inl (cI, 16, .inl (fun x9 => nI (qt x9))))]) zz)) 0 0 (va_A ([(x0, .inr (4, [.ref xC, .ref xD, .ref xK, .ref xQ, .ref xV, .ref xI, .int (nI pb), .ref xL, .ref xR, .ref xS, .ref xT])), (xC, .inr (0, [.ref xA, .int (nI cn)])), (xD, .inr (1, [.ref xB, .int (nI (szN cn)), .int (nI (iv (szN cn)))])), (xK, .inr (2, [.ref xW, .ref xX, .int (z_b md), .int (nI ta), .int (nI al), .int (nI be), .int (nI ga), .int (nI de), .int (nI va)])), (xQ, .inr (3, [.ref xE, .ref xF, .int (z_b pd)])), (xV, .inl (cI, 16, .inl (fun x9 => nI (v x9)))), (xI, .inl (cI, 7, .inl (fun x9 => nI (inp x9)))), (xL, .inl (cI, 16, .inl (fun x9 => nI (sL x9)))), (xR, .inl (cI, 16, .inl (fun x9 => nI (sR x9)))), (xS, .inl (cI, 16, .inl (fun x9 => nI (sS x9)))), (xT, .inl (cI, 16, .inl (fun x9 => nI (sT x9)))), (xA, .inl (cI, 816, .inl (fun x9 => nI (f x9)))), (xB, .inl (cI, 16, .inl (fun x9 => nI (bb x9)))), (xW, .inl (cI, 16, .inl (fun x9 => nI (w x9)))), (xX, .inl (cI, 16, .inl (fun x9 => nI (mx x9)))), (xE, .inl (cI, 3, .inl (fun x9 => nI (el x9)))), (xF, .inl (cI, 16, .inl (fun x9 => nI (qt x9))))]) zz) := by
  refine Met.ofW (cc := cM_polynomial) (maxL := 4) (ret := (.some .int)) (by decide) rfl ?_
  intro p e s m args below meth c s₁ B hml hv
  obtain ⟨rfl, hsz, hP, hK, hD0⟩ := hv
  have F : CallFix p m c cM_polynomial 4 s _ zT RM := ⟨B.exec, B.bytes, hml, findClass_of_methodNamed B.named, fun w h => atoms_spec (ws := (zW yM_polynomial cM_polynomial 4 (.some .int))) B.pre w (List.mem_cons_of_mem _ h)⟩
  have hr := B.returns
  have hlocks := B.notSynchronized
  subst hsz
  have hD := hD0.self (sz := s.heap.size)
  generalize hAe : va_A ([(x0, .inr (4, [.ref xC, .ref xD, .ref xK, .ref xQ, .ref xV, .ref xI, .int (nI pb), .ref xL, .ref xR, .ref xS, .ref xT])), (xC, .inr (0, [.ref xA, .int (nI cn)])), (xD, .inr (1, [.ref xB, .int (nI (szN cn)), .int (nI (iv (szN cn)))])), (xK, .inr (2, [.ref xW, .ref xX, .int (z_b md), .int (nI ta), .int (nI al), .int (nI be), .int (nI ga), .int (nI de), .int (nI va)])), (xQ, .inr (3, [.ref xE, .ref xF, .int (z_b pd)])), (xV, .inl (cI, 16, .inl (fun x9 => nI (v x9)))), (xI, .inl (cI, 7, .inl (fun x9 => nI (inp x9)))), (xL, .inl (cI, 16, .inl (fun x9 => nI (sL x9)))), (xR, .inl (cI, 16, .inl (fun x9 => nI (sR x9)))), (xS, .inl (cI, 16, .inl (fun x9 => nI (sS x9)))), (xT, .inl (cI, 16, .inl (fun x9 => nI (sT x9)))), (xA, .inl (cI, 816, .inl (fun x9 => nI (f x9)))), (xB, .inl (cI, 16, .inl (fun x9 => nI (bb x9)))), (xW, .inl (cI, 16, .inl (fun x9 => nI (w x9)))), (xX, .inl (cI, 16, .inl (fun x9 => nI (mx x9)))), (xE, .inl (cI, 3, .inl (fun x9 => nI (el x9)))), (xF, .inl (cI, 16, .inl (fun x9 => nI (qt x9))))]) s.heap.size = A at hD ⊢
  have hAA : ∀ q : Nat, s.heap.size ≤ q → A q := fun q h => by rw [← hAe]; exact Or.inr h
  have hS : va_S A s.heap s.heap [] := va_S.rf
  have hl := lv_entry ([.ref x0, .int (nI row), .int (nI i), .int (nI k)]) (n := 4) (Nat.le_of_ble_eq_true rfl)
  rw [lg_entry_eq]
  generalize (lg_sl ([.ref x0, .int (nI row), .int (nI i), .int (nI k)]) ++ List.replicate (4 - (lg_sl ([.ref x0, .int (nI row), .int (nI i), .int (nI k)])).length) Slot.unset).toArray = ls at hl ⊢
  have hl : lv_has ls 4 [(0, .ref x0), (1, .int (nI row)), (2, .int (nI i)), (3, .int (nI k))] := hl
  have hlo := szN_lo cn
  have hhi := szN_hi cn
  refine lv_iload_n F.1 F.2.1 dM_polynomial_0 rfl (lv_at hl 1 rfl) ?_
  refine z_iconst (v := 3) F (by decide) dM_polynomial_1 ?_
  refine z_call (z_runS [.int (nI row), .int (nI 3)] [] F (c_isBelow_t l (row) 3 (by omega) (by decide)) kk_M_isBelow wl_M_56 rfl rfl ⟨Nat.le_of_ble_eq_true rfl, Nat.le_of_ble_eq_true rfl⟩ z_preN rfl hl.1 rfl (Nat.le_of_ble_eq_true rfl) dM_polynomial_2 ⟨Nat.zero_le _, Nat.zero_le _⟩) ?_
  refine z_if_eq F (by omega) (tgt := 31) dM_polynomial_5 rfl (fun h => absurd h (by decide)) (fun h => ?_)
  refine lv_iload_n F.1 F.2.1 dM_polynomial_8 rfl (lv_at hl 2 rfl) ?_
  refine z_bipush (v := 16) F (by decide) dM_polynomial_9 ?_
  refine z_call (z_runS [.int (nI i), .int (nI 16)] [] F (c_isBelow_t l (i) 16 (by omega) (by decide)) kk_M_isBelow wl_M_56 rfl rfl ⟨Nat.le_of_ble_eq_true rfl, Nat.le_of_ble_eq_true rfl⟩ z_preN rfl hl.1 rfl (Nat.le_of_ble_eq_true rfl) dM_polynomial_11 ⟨Nat.zero_le _, Nat.zero_le _⟩) ?_
  refine z_if_eq F (by omega) (tgt := 31) dM_polynomial_14 rfl (fun h => absurd h (by decide)) (fun h => ?_)
  refine lv_iload_n F.1 F.2.1 dM_polynomial_17 rfl (lv_at hl 3 rfl) ?_
  refine lv_aload_n F.1 F.2.1 dM_polynomial_18 rfl (lv_at hl 0 rfl) ?_
  refine z_get F hK hP hinM 0 rfl rfl 1 (by decide) rfl wf_M_19 rfl dM_polynomial_19 ?_
  refine z_call (z_runV [] [.int (nI k)] F (c_size l dC dI cI cL _ 2 xD xB (szN cn) (iv (szN cn)) rfl) kk_D_size wl_M_112 rfl rfl ⟨Nat.le_of_ble_eq_true rfl, Nat.le_of_ble_eq_true rfl⟩ (z_preVR (q := (RD, TD, 3)) hP hK rfl (q0 := 2) rfl) rfl hl.1 rfl (Nat.le_of_ble_eq_true rfl) dM_polynomial_22 ⟨Nat.zero_le _, Nat.zero_le _⟩) ?_
  refine z_call (z_runS [.int (nI k), .int (nI (szN cn))] [] F (c_isBelow_t l k (szN cn) hk (by omega)) kk_M_isBelow wl_M_56 rfl rfl ⟨Nat.le_of_ble_eq_true rfl, Nat.le_of_ble_eq_true rfl⟩ z_preN rfl hl.1 rfl (Nat.le_of_ble_eq_true rfl) dM_polynomial_25 ⟨Nat.zero_le _, Nat.zero_le _⟩) ?_
  refine z_if_ne F (by omega) (tgt := 33) dM_polynomial_28 rfl (fun h => ?_) (fun h => absurd h (by decide))
  refine lv_aload_n F.1 F.2.1 dM_polynomial_33 rfl (lv_at hl 0 rfl) ?_
  refine z_get F hK hP hinM 0 rfl rfl 0 (by decide) rfl wf_M_10 rfl dM_polynomial_34 ?_
  refine lv_iload_n F.1 F.2.1 dM_polynomial_37 rfl (lv_at hl 1 rfl) ?_
  refine lv_iload_n F.1 F.2.1 dM_polynomial_38 rfl (lv_at hl 2 rfl) ?_
  refine lv_aload_n F.1 F.2.1 dM_polynomial_39 rfl (lv_at hl 0 rfl) ?_
  refine z_get F hK hP hinM 0 rfl rfl 7 (by decide) rfl wf_M_44 rfl dM_polynomial_40 ?_
  have hPc := hP.sub (ws' := [(xC, .inr (0, [.ref xA, .int (nI cn)])), (xA, .inl (cI, 816, .inl (fun x9 => nI (f x9)))), (xL, .inl (cI, 16, .inl (fun x9 => nI (sL x9)))), (x0, .inr (4, [.ref xC, .ref xD, .ref xK, .ref xQ, .ref xV, .ref xI, .int (nI pb), .ref xL, .ref xR, .ref xS, .ref xT])), (xD, .inr (1, [.ref xB, .int (nI (szN cn)), .int (nI (iv (szN cn)))])), (xK, .inr (2, [.ref xW, .ref xX, .int (z_b md), .int (nI ta), .int (nI al), .int (nI be), .int (nI ga), .int (nI de), .int (nI va)])), (xQ, .inr (3, [.ref xE, .ref xF, .int (z_b pd)])), (xV, .inl (cI, 16, .inl (fun x9 => nI (v x9)))), (xI, .inl (cI, 7, .inl (fun x9 => nI (inp x9)))), (xR, .inl (cI, 16, .inl (fun x9 => nI (sR x9)))), (xS, .inl (cI, 16, .inl (fun x9 => nI (sS x9)))), (xT, .inl (cI, 16, .inl (fun x9 => nI (sT x9)))), (xB, .inl (cI, 16, .inl (fun x9 => nI (bb x9)))), (xW, .inl (cI, 16, .inl (fun x9 => nI (w x9)))), (xX, .inl (cI, 16, .inl (fun x9 => nI (mx x9)))), (xE, .inl (cI, 3, .inl (fun x9 => nI (el x9)))), (xF, .inl (cI, 16, .inl (fun x9 => nI (qt x9))))]) [1, 11, 7, 0, 2, 3, 4, 5, 6, 8, 9, 10, 12, 13, 14, 15, 16] rfl
  have hDc := hD.sub (ws' := [(xC, .inr (0, [.ref xA, .int (nI cn)])), (xA, .inl (cI, 816, .inl (fun x9 => nI (f x9)))), (xL, .inl (cI, 16, .inl (fun x9 => nI (sL x9)))), (x0, .inr (4, [.ref xC, .ref xD, .ref xK, .ref xQ, .ref xV, .ref xI, .int (nI pb), .ref xL, .ref xR, .ref xS, .ref xT])), (xD, .inr (1, [.ref xB, .int (nI (szN cn)), .int (nI (iv (szN cn)))])), (xK, .inr (2, [.ref xW, .ref xX, .int (z_b md), .int (nI ta), .int (nI al), .int (nI be), .int (nI ga), .int (nI de), .int (nI va)])), (xQ, .inr (3, [.ref xE, .ref xF, .int (z_b pd)])), (xV, .inl (cI, 16, .inl (fun x9 => nI (v x9)))), (xI, .inl (cI, 7, .inl (fun x9 => nI (inp x9)))), (xR, .inl (cI, 16, .inl (fun x9 => nI (sR x9)))), (xS, .inl (cI, 16, .inl (fun x9 => nI (sS x9)))), (xT, .inl (cI, 16, .inl (fun x9 => nI (sT x9)))), (xB, .inl (cI, 16, .inl (fun x9 => nI (bb x9)))), (xW, .inl (cI, 16, .inl (fun x9 => nI (w x9)))), (xX, .inl (cI, 16, .inl (fun x9 => nI (mx x9)))), (xE, .inl (cI, 3, .inl (fun x9 => nI (el x9)))), (xF, .inl (cI, 16, .inl (fun x9 => nI (qt x9))))]) [1, 11, 7, 0, 2, 3, 4, 5, 6, 8, 9, 10, 12, 13, 14, 15, 16] (by decide) rfl
  refine z_callW (z_runV [.int (nI row), .int (nI i), .ref xL] [] F (c_column l dC dI cI cL [(x0, .inr (4, [.ref xC, .ref xD, .ref xK, .ref xQ, .ref xV, .ref xI, .int (nI pb), .ref xL, .ref xR, .ref xS, .ref xT])), (xD, .inr (1, [.ref xB, .int (nI (szN cn)), .int (nI (iv (szN cn)))])), (xK, .inr (2, [.ref xW, .ref xX, .int (z_b md), .int (nI ta), .int (nI al), .int (nI be), .int (nI ga), .int (nI de), .int (nI va)])), (xQ, .inr (3, [.ref xE, .ref xF, .int (z_b pd)])), (xV, .inl (cI, 16, .inl (fun x9 => nI (v x9)))), (xI, .inl (cI, 7, .inl (fun x9 => nI (inp x9)))), (xR, .inl (cI, 16, .inl (fun x9 => nI (sR x9)))), (xS, .inl (cI, 16, .inl (fun x9 => nI (sS x9)))), (xT, .inl (cI, 16, .inl (fun x9 => nI (sT x9)))), (xB, .inl (cI, 16, .inl (fun x9 => nI (bb x9)))), (xW, .inl (cI, 16, .inl (fun x9 => nI (w x9)))), (xX, .inl (cI, 16, .inl (fun x9 => nI (mx x9)))), (xE, .inl (cI, 3, .inl (fun x9 => nI (el x9)))), (xF, .inl (cI, 16, .inl (fun x9 => nI (qt x9))))] s.heap.size xC xA xL cn f sL row i hrow hi hn) kk_C_column wl_M_192 rfl rfl ⟨Nat.le_of_ble_eq_true rfl, Nat.le_of_ble_eq_true rfl⟩ (z_preVP (q := (RC, TC, 2)) hPc hK hDc rfl (q0 := 0) rfl) rfl hl.1 rfl (Nat.le_of_ble_eq_true rfl) dM_polynomial_43 ⟨Nat.zero_le _, Nat.zero_le _⟩) hDc hS hAA (fun H locs hP hD hS => ?_)
  have hP : va_P (dC, dI) vwCl [(x0, .inr (4, [.ref xC, .ref xD, .ref xK, .ref xQ, .ref xV, .ref xI, .int (nI pb), .ref xL, .ref xR, .ref xS, .ref xT])), (xC, .inr (0, [.ref xA, .int (nI cn)])), (xD, .inr (1, [.ref xB, .int (nI (szN cn)), .int (nI (iv (szN cn)))])), (xK, .inr (2, [.ref xW, .ref xX, .int (z_b md), .int (nI ta), .int (nI al), .int (nI be), .int (nI ga), .int (nI de), .int (nI va)])), (xQ, .inr (3, [.ref xE, .ref xF, .int (z_b pd)])), (xV, .inl (cI, 16, .inl (fun x9 => nI (v x9)))), (xI, .inl (cI, 7, .inl (fun x9 => nI (inp x9)))), (xL, .inl (cI, 16, .inl (fun x9 => nI (((fun j => if j < cn then f ((j * 3 + row) * 16 + i) else 0)) x9)))), (xR, .inl (cI, 16, .inl (fun x9 => nI (sR x9)))), (xS, .inl (cI, 16, .inl (fun x9 => nI (sS x9)))), (xT, .inl (cI, 16, .inl (fun x9 => nI (sT x9)))), (xA, .inl (cI, 816, .inl (fun x9 => nI (f x9)))), (xB, .inl (cI, 16, .inl (fun x9 => nI (bb x9)))), (xW, .inl (cI, 16, .inl (fun x9 => nI (w x9)))), (xX, .inl (cI, 16, .inl (fun x9 => nI (mx x9)))), (xE, .inl (cI, 3, .inl (fun x9 => nI (el x9)))), (xF, .inl (cI, 16, .inl (fun x9 => nI (qt x9))))] H := hP.sub [3, 0, 4, 5, 6, 7, 8, 2, 9, 10, 11, 1, 12, 13, 14, 15, 16] rfl
  have hD : va_D A [(x0, .inr (4, [.ref xC, .ref xD, .ref xK, .ref xQ, .ref xV, .ref xI, .int (nI pb), .ref xL, .ref xR, .ref xS, .ref xT])), (xC, .inr (0, [.ref xA, .int (nI cn)])), (xD, .inr (1, [.ref xB, .int (nI (szN cn)), .int (nI (iv (szN cn)))])), (xK, .inr (2, [.ref xW, .ref xX, .int (z_b md), .int (nI ta), .int (nI al), .int (nI be), .int (nI ga), .int (nI de), .int (nI va)])), (xQ, .inr (3, [.ref xE, .ref xF, .int (z_b pd)])), (xV, .inl (cI, 16, .inl (fun x9 => nI (v x9)))), (xI, .inl (cI, 7, .inl (fun x9 => nI (inp x9)))), (xL, .inl (cI, 16, .inl (fun x9 => nI (((fun j => if j < cn then f ((j * 3 + row) * 16 + i) else 0)) x9)))), (xR, .inl (cI, 16, .inl (fun x9 => nI (sR x9)))), (xS, .inl (cI, 16, .inl (fun x9 => nI (sS x9)))), (xT, .inl (cI, 16, .inl (fun x9 => nI (sT x9)))), (xA, .inl (cI, 816, .inl (fun x9 => nI (f x9)))), (xB, .inl (cI, 16, .inl (fun x9 => nI (bb x9)))), (xW, .inl (cI, 16, .inl (fun x9 => nI (w x9)))), (xX, .inl (cI, 16, .inl (fun x9 => nI (mx x9)))), (xE, .inl (cI, 3, .inl (fun x9 => nI (el x9)))), (xF, .inl (cI, 16, .inl (fun x9 => nI (qt x9))))] := hD.sub [3, 0, 4, 5, 6, 7, 8, 2, 9, 10, 11, 1, 12, 13, 14, 15, 16] (by decide) rfl
  have hcf : ∀ j, (fun j => if j < cn then f ((j * 3 + row) * 16 + i) else 0) j < 998244353 := fun j => by show (if j < cn then _ else 0) < _; split; (exact hf _); (exact by decide)
  obtain ⟨kk, h4, hz⟩ : ∃ kk, kk ≤ 4 ∧ szN cn = 2 ^ kk := szN_pow cn
  refine lv_aload_n F.1 F.2.1 dM_polynomial_46 rfl (lv_at hl 0 rfl) ?_
  refine z_get F hK hP hinM 0 rfl rfl 1 (by decide) rfl wf_M_19 rfl dM_polynomial_47 ?_
  refine lv_aload_n F.1 F.2.1 dM_polynomial_50 rfl (lv_at hl 0 rfl) ?_
  refine z_get F hK hP hinM 0 rfl rfl 7 (by decide) rfl wf_M_44 rfl dM_polynomial_51 ?_
  refine lv_iload_n F.1 F.2.1 dM_polynomial_54 rfl (lv_at hl 3 rfl) ?_
  refine z_call (z_runV [.ref xL, .int (nI k)] [] F (c_coefficient l dC dI cI cL _ 2 12 7 xD xB xL (szN cn) (iv (szN cn)) bb (fun j => if j < cn then f ((j * 3 + row) * 16 + i) else 0) k rfl rfl rfl hcf hbb (iv_lt _) (by omega) kk h4 hz) kk_D_coefficient wl_M_196 rfl rfl ⟨Nat.le_of_ble_eq_true rfl, Nat.le_of_ble_eq_true rfl⟩ (z_preVR (q := (RD, TD, 3)) hP hK rfl (q0 := 2) rfl) rfl hl.1 rfl (Nat.le_of_ble_eq_true rfl) dM_polynomial_55 ⟨Nat.zero_le _, Nat.zero_le _⟩) ?_
  exact W.iret F.1 F.2.1 hr (fun t ht hW => ⟨rfl, by rw [ht]; exact hP, va_K.moved hW.alike hK, hD, hS.F ht⟩) hS.2.2 dM_polynomial_58
set_option maxHeartbeats 4000000 in
set_option maxRecDepth 100000 in
theorem cm_term (l : Launch) (dC : Nat → ClassId) (dI : Nat → Nat → Nat) (cI cL : ClassId) (zz : Nat) (x0 xC xD xK xQ xV xI xL xR xS xT xA xB xW xX xE xF : Nat) (pb cn ta al be ga de va : Nat) (md pd : Bool) (v inp sL sR sS sT f bb w mx el qt : Nat → Nat) (row i x : Nat) (hf : ∀ j, f j < 998244353) (hx : x < 998244353) (hrow : row < 3) (hi : i < 16) (hn : cn ≤ 16) : Met l yM_term (zW yM_term cM_term 4 (.some .int)) ({ frames := 2, cells := 0, slots := 0, locals := 46 }) (va_Pc [.ref x0, .int (nI row), .int (nI i), .int (nI x)] (z_P (dC, dI) vwCl [(cI, .int), (cL, .long)] zz ([(x0, .inr (4, [.ref xC, .ref xD, .ref xK, .ref xQ, .ref xV, .ref xI, .int (nI pb), .ref xL, .ref xR, .ref xS, .ref xT])), (xC, .inr (0, [.ref xA, .int (nI cn)])), (xD, .inr (1, [.ref xB, .int (nI (szN cn)), .int (nI (iv (szN cn)))])), (xK, .inr (2, [.ref xW, .ref xX, .int (z_b md), .int (nI ta), .int (nI al), .int (nI be), .int (nI ga), .int (nI de), .int (nI va)])), (xQ, .inr (3, [.ref xE, .ref xF, .int (z_b pd)])), (xV, .inl (cI, 16, .inl (fun x9 => nI (v x9)))), (xI, .inl (cI, 7, .inl (fun x9 => nI (inp x9)))), (xL, .inl (cI, 16, .inl (fun x9 => nI (sL x9)))), (xR, .inl (cI, 16, .inl (fun x9 => nI (sR x9)))), (xS, .inl (cI, 16, .inl (fun x9 => nI (sS x9)))), (xT, .inl (cI, 16, .inl (fun x9 => nI (sT x9)))), (xA, .inl (cI, 816, .inl (fun x9 => nI (f x9)))), (xB, .inl (cI, 16, .inl (fun x9 => nI (bb x9)))), (xW, .inl (cI, 16, .inl (fun x9 => nI (w x9)))), (xX, .inl (cI, 16, .inl (fun x9 => nI (mx x9)))), (xE, .inl (cI, 3, .inl (fun x9 => nI (el x9)))), (xF, .inl (cI, 16, .inl (fun x9 => nI (qt x9))))]))) (z_Q (dC, dI) vwCl [(cI, .int), (cL, .long)] (some (.int (nI ((f ((cn * 3 + row) * 16 + i) + x) % 998244353)))) ([(x0, .inr (4, [.ref xC, .ref xD, .ref xK, .ref xQ, .ref xV, .ref xI, .int (nI pb), .ref xL, .ref xR, .ref xS, .ref xT])), (xC, .inr (0, [.ref xA, .int (nI cn)])), (xD, .inr (1, [.ref xB, .int (nI (szN cn)), .int (nI (iv (szN cn)))])), (xK, .inr (2, [.ref xW, .ref xX, .int (z_b md), .int (nI ta), .int (nI al), .int (nI be), .int (nI ga), .int (nI de), .int (nI va)])), (xQ, .inr (3, [.ref xE, .ref xF, .int (z_b pd)])), (xV, .inl (cI, 16, .inl (fun x9 => nI (v x9)))), (xI, .inl (cI, 7, .inl (fun x9 => nI (inp x9)))), (xL, .inl (cI, 16, .inl (fun x9 => nI (sL x9)))), (xR, .inl (cI, 16, .inl (fun x9 => nI (sR x9)))), (xS, .inl (cI, 16, .inl (fun x9 => nI (sS x9)))), (xT, .inl (cI, 16, .inl (fun x9 => nI (sT x9)))), (xA, .inl (cI, 816, .inl (fun x9 => nI ((va_up f ((cn * 3 + row) * 16 + i) ((f ((cn * 3 + row) * 16 + i) + x) % 998244353)) x9)))), (xB, .inl (cI, 16, .inl (fun x9 => nI (bb x9)))), (xW, .inl (cI, 16, .inl (fun x9 => nI (w x9)))), (xX, .inl (cI, 16, .inl (fun x9 => nI (mx x9)))), (xE, .inl (cI, 3, .inl (fun x9 => nI (el x9)))), (xF, .inl (cI, 16, .inl (fun x9 => nI (qt x9))))]) (va_A ([(x0, .inr (4, [.ref xC, .ref xD, .ref xK, .ref xQ, .ref xV, .ref xI, .int (nI pb), .ref xL, .ref xR, .ref xS, .ref xT])), (xC, .inr (0, [.ref xA, .int (nI cn)])), (xD, .inr (1, [.ref xB, .int (nI (szN cn)), .int (nI (iv (szN cn)))])), (xK, .inr (2, [.ref xW, .ref xX, .int (z_b md), .int (nI ta), .int (nI al), .int (nI be), .int (nI ga), .int (nI de), .int (nI va)])), (xQ, .inr (3, [.ref xE, .ref xF, .int (z_b pd)])), (xV, .inl (cI, 16, .inl (fun x9 => nI (v x9)))), (xI, .inl (cI, 7, .inl (fun x9 => nI (inp x9)))), (xL, .inl (cI, 16, .inl (fun x9 => nI (sL x9)))), (xR, .inl (cI, 16, .inl (fun x9 => nI (sR x9)))), (xS, .inl (cI, 16, .inl (fun x9 => nI (sS x9)))), (xT, .inl (cI, 16, .inl (fun x9 => nI (sT x9)))), (xA, .inl (cI, 816, .inl (fun x9 => nI (f x9)))), (xB, .inl (cI, 16, .inl (fun x9 => nI (bb x9)))), (xW, .inl (cI, 16, .inl (fun x9 => nI (w x9)))), (xX, .inl (cI, 16, .inl (fun x9 => nI (mx x9)))), (xE, .inl (cI, 3, .inl (fun x9 => nI (el x9)))), (xF, .inl (cI, 16, .inl (fun x9 => nI (qt x9))))]) zz)) 0 0 (va_A ([(x0, .inr (4, [.ref xC, .ref xD, .ref xK, .ref xQ, .ref xV, .ref xI, .int (nI pb), .ref xL, .ref xR, .ref xS, .ref xT])), (xC, .inr (0, [.ref xA, .int (nI cn)])), (xD, .inr (1, [.ref xB, .int (nI (szN cn)), .int (nI (iv (szN cn)))])), (xK, .inr (2, [.ref xW, .ref xX, .int (z_b md), .int (nI ta), .int (nI al), .int (nI be), .int (nI ga), .int (nI de), .int (nI va)])), (xQ, .inr (3, [.ref xE, .ref xF, .int (z_b pd)])), (xV, .inl (cI, 16, .inl (fun x9 => nI (v x9)))), (xI, .inl (cI, 7, .inl (fun x9 => nI (inp x9)))), (xL, .inl (cI, 16, .inl (fun x9 => nI (sL x9)))), (xR, .inl (cI, 16, .inl (fun x9 => nI (sR x9)))), (xS, .inl (cI, 16, .inl (fun x9 => nI (sS x9)))), (xT, .inl (cI, 16, .inl (fun x9 => nI (sT x9)))), (xA, .inl (cI, 816, .inl (fun x9 => nI (f x9)))), (xB, .inl (cI, 16, .inl (fun x9 => nI (bb x9)))), (xW, .inl (cI, 16, .inl (fun x9 => nI (w x9)))), (xX, .inl (cI, 16, .inl (fun x9 => nI (mx x9)))), (xE, .inl (cI, 3, .inl (fun x9 => nI (el x9)))), (xF, .inl (cI, 16, .inl (fun x9 => nI (qt x9))))]) zz) := by
  refine Met.ofW (cc := cM_term) (maxL := 4) (ret := (.some .int)) (by decide) rfl ?_
  intro p e s m args below meth c s₁ B hml hv
  obtain ⟨rfl, hsz, hP, hK, hD0⟩ := hv
  have F : CallFix p m c cM_term 4 s _ zT RM := ⟨B.exec, B.bytes, hml, findClass_of_methodNamed B.named, fun w h => atoms_spec (ws := (zW yM_term cM_term 4 (.some .int))) B.pre w (List.mem_cons_of_mem _ h)⟩
  have hr := B.returns
  have hlocks := B.notSynchronized
  subst hsz
  have hD := hD0.self (sz := s.heap.size)
  generalize hAe : va_A ([(x0, .inr (4, [.ref xC, .ref xD, .ref xK, .ref xQ, .ref xV, .ref xI, .int (nI pb), .ref xL, .ref xR, .ref xS, .ref xT])), (xC, .inr (0, [.ref xA, .int (nI cn)])), (xD, .inr (1, [.ref xB, .int (nI (szN cn)), .int (nI (iv (szN cn)))])), (xK, .inr (2, [.ref xW, .ref xX, .int (z_b md), .int (nI ta), .int (nI al), .int (nI be), .int (nI ga), .int (nI de), .int (nI va)])), (xQ, .inr (3, [.ref xE, .ref xF, .int (z_b pd)])), (xV, .inl (cI, 16, .inl (fun x9 => nI (v x9)))), (xI, .inl (cI, 7, .inl (fun x9 => nI (inp x9)))), (xL, .inl (cI, 16, .inl (fun x9 => nI (sL x9)))), (xR, .inl (cI, 16, .inl (fun x9 => nI (sR x9)))), (xS, .inl (cI, 16, .inl (fun x9 => nI (sS x9)))), (xT, .inl (cI, 16, .inl (fun x9 => nI (sT x9)))), (xA, .inl (cI, 816, .inl (fun x9 => nI (f x9)))), (xB, .inl (cI, 16, .inl (fun x9 => nI (bb x9)))), (xW, .inl (cI, 16, .inl (fun x9 => nI (w x9)))), (xX, .inl (cI, 16, .inl (fun x9 => nI (mx x9)))), (xE, .inl (cI, 3, .inl (fun x9 => nI (el x9)))), (xF, .inl (cI, 16, .inl (fun x9 => nI (qt x9))))]) s.heap.size = A at hD ⊢
  have hAA : ∀ q : Nat, s.heap.size ≤ q → A q := fun q h => by rw [← hAe]; exact Or.inr h
  have hS : va_S A s.heap s.heap [] := va_S.rf
  have hl := lv_entry ([.ref x0, .int (nI row), .int (nI i), .int (nI x)]) (n := 4) (Nat.le_of_ble_eq_true rfl)
  rw [lg_entry_eq]
  generalize (lg_sl ([.ref x0, .int (nI row), .int (nI i), .int (nI x)]) ++ List.replicate (4 - (lg_sl ([.ref x0, .int (nI row), .int (nI i), .int (nI x)])).length) Slot.unset).toArray = ls at hl ⊢
  have hl : lv_has ls 4 [(0, .ref x0), (1, .int (nI row)), (2, .int (nI i)), (3, .int (nI x))] := hl
  refine lv_iload_n F.1 F.2.1 dM_term_0 rfl (lv_at hl 1 rfl) ?_
  refine z_iconst (v := 3) F (by decide) dM_term_1 ?_
  refine z_call (z_runS [.int (nI row), .int (nI 3)] [] F (c_isBelow_t l (row) 3 (by omega) (by decide)) kk_M_isBelow wl_M_56 rfl rfl ⟨Nat.le_of_ble_eq_true rfl, Nat.le_of_ble_eq_true rfl⟩ z_preN rfl hl.1 rfl (Nat.le_of_ble_eq_true rfl) dM_term_2 ⟨Nat.zero_le _, Nat.zero_le _⟩) ?_
  refine z_if_eq F (by omega) (tgt := 26) dM_term_5 rfl (fun h => absurd h (by decide)) (fun h => ?_)
  refine lv_iload_n F.1 F.2.1 dM_term_8 rfl (lv_at hl 2 rfl) ?_
  refine z_bipush (v := 16) F (by decide) dM_term_9 ?_
  refine z_call (z_runS [.int (nI i), .int (nI 16)] [] F (c_isBelow_t l (i) 16 (by omega) (by decide)) kk_M_isBelow wl_M_56 rfl rfl ⟨Nat.le_of_ble_eq_true rfl, Nat.le_of_ble_eq_true rfl⟩ z_preN rfl hl.1 rfl (Nat.le_of_ble_eq_true rfl) dM_term_11 ⟨Nat.zero_le _, Nat.zero_le _⟩) ?_
  refine z_if_eq F (by omega) (tgt := 26) dM_term_14 rfl (fun h => absurd h (by decide)) (fun h => ?_)
  refine lv_iload_n F.1 F.2.1 dM_term_17 rfl (lv_at hl 3 rfl) ?_
  refine z_ldc F 998244353 (v0 := 998244353) wk_M_60 rfl dM_term_18 ?_
  refine z_call (z_runS [.int (nI x), .int (nI 998244353)] [] F (c_isBelow_t l (x) 998244353 (by omega) (by decide)) kk_M_isBelow wl_M_56 rfl rfl ⟨Nat.le_of_ble_eq_true rfl, Nat.le_of_ble_eq_true rfl⟩ z_preN rfl hl.1 rfl (Nat.le_of_ble_eq_true rfl) dM_term_20 ⟨Nat.zero_le _, Nat.zero_le _⟩) ?_
  refine z_if_ne F (by omega) (tgt := 34) dM_term_23 rfl (fun h => ?_) (fun h => absurd h (by decide))
  refine lv_aload_n F.1 F.2.1 dM_term_34 rfl (lv_at hl 0 rfl) ?_
  refine z_get F hK hP hinM 0 rfl rfl 0 (by decide) rfl wf_M_10 rfl dM_term_35 ?_
  refine lv_iload_n F.1 F.2.1 dM_term_38 rfl (lv_at hl 1 rfl) ?_
  refine lv_iload_n F.1 F.2.1 dM_term_39 rfl (lv_at hl 2 rfl) ?_
  refine lv_iload_n F.1 F.2.1 dM_term_40 rfl (lv_at hl 3 rfl) ?_
  have hPc := hP.sub (ws' := [(xC, .inr (0, [.ref xA, .int (nI cn)])), (xA, .inl (cI, 816, .inl (fun x9 => nI (f x9)))), (x0, .inr (4, [.ref xC, .ref xD, .ref xK, .ref xQ, .ref xV, .ref xI, .int (nI pb), .ref xL, .ref xR, .ref xS, .ref xT])), (xD, .inr (1, [.ref xB, .int (nI (szN cn)), .int (nI (iv (szN cn)))])), (xK, .inr (2, [.ref xW, .ref xX, .int (z_b md), .int (nI ta), .int (nI al), .int (nI be), .int (nI ga), .int (nI de), .int (nI va)])), (xQ, .inr (3, [.ref xE, .ref xF, .int (z_b pd)])), (xV, .inl (cI, 16, .inl (fun x9 => nI (v x9)))), (xI, .inl (cI, 7, .inl (fun x9 => nI (inp x9)))), (xL, .inl (cI, 16, .inl (fun x9 => nI (sL x9)))), (xR, .inl (cI, 16, .inl (fun x9 => nI (sR x9)))), (xS, .inl (cI, 16, .inl (fun x9 => nI (sS x9)))), (xT, .inl (cI, 16, .inl (fun x9 => nI (sT x9)))), (xB, .inl (cI, 16, .inl (fun x9 => nI (bb x9)))), (xW, .inl (cI, 16, .inl (fun x9 => nI (w x9)))), (xX, .inl (cI, 16, .inl (fun x9 => nI (mx x9)))), (xE, .inl (cI, 3, .inl (fun x9 => nI (el x9)))), (xF, .inl (cI, 16, .inl (fun x9 => nI (qt x9))))]) [1, 11, 0, 2, 3, 4, 5, 6, 7, 8, 9, 10, 12, 13, 14, 15, 16] rfl
  have hDc := hD.sub (ws' := [(xC, .inr (0, [.ref xA, .int (nI cn)])), (xA, .inl (cI, 816, .inl (fun x9 => nI (f x9)))), (x0, .inr (4, [.ref xC, .ref xD, .ref xK, .ref xQ, .ref xV, .ref xI, .int (nI pb), .ref xL, .ref xR, .ref xS, .ref xT])), (xD, .inr (1, [.ref xB, .int (nI (szN cn)), .int (nI (iv (szN cn)))])), (xK, .inr (2, [.ref xW, .ref xX, .int (z_b md), .int (nI ta), .int (nI al), .int (nI be), .int (nI ga), .int (nI de), .int (nI va)])), (xQ, .inr (3, [.ref xE, .ref xF, .int (z_b pd)])), (xV, .inl (cI, 16, .inl (fun x9 => nI (v x9)))), (xI, .inl (cI, 7, .inl (fun x9 => nI (inp x9)))), (xL, .inl (cI, 16, .inl (fun x9 => nI (sL x9)))), (xR, .inl (cI, 16, .inl (fun x9 => nI (sR x9)))), (xS, .inl (cI, 16, .inl (fun x9 => nI (sS x9)))), (xT, .inl (cI, 16, .inl (fun x9 => nI (sT x9)))), (xB, .inl (cI, 16, .inl (fun x9 => nI (bb x9)))), (xW, .inl (cI, 16, .inl (fun x9 => nI (w x9)))), (xX, .inl (cI, 16, .inl (fun x9 => nI (mx x9)))), (xE, .inl (cI, 3, .inl (fun x9 => nI (el x9)))), (xF, .inl (cI, 16, .inl (fun x9 => nI (qt x9))))]) [1, 11, 0, 2, 3, 4, 5, 6, 7, 8, 9, 10, 12, 13, 14, 15, 16] (by decide) rfl
  refine z_callW (z_runV [.int (nI row), .int (nI i), .int (nI x)] [] F (c_growDraft l dC dI cI cL [(x0, .inr (4, [.ref xC, .ref xD, .ref xK, .ref xQ, .ref xV, .ref xI, .int (nI pb), .ref xL, .ref xR, .ref xS, .ref xT])), (xD, .inr (1, [.ref xB, .int (nI (szN cn)), .int (nI (iv (szN cn)))])), (xK, .inr (2, [.ref xW, .ref xX, .int (z_b md), .int (nI ta), .int (nI al), .int (nI be), .int (nI ga), .int (nI de), .int (nI va)])), (xQ, .inr (3, [.ref xE, .ref xF, .int (z_b pd)])), (xV, .inl (cI, 16, .inl (fun x9 => nI (v x9)))), (xI, .inl (cI, 7, .inl (fun x9 => nI (inp x9)))), (xL, .inl (cI, 16, .inl (fun x9 => nI (sL x9)))), (xR, .inl (cI, 16, .inl (fun x9 => nI (sR x9)))), (xS, .inl (cI, 16, .inl (fun x9 => nI (sS x9)))), (xT, .inl (cI, 16, .inl (fun x9 => nI (sT x9)))), (xB, .inl (cI, 16, .inl (fun x9 => nI (bb x9)))), (xW, .inl (cI, 16, .inl (fun x9 => nI (w x9)))), (xX, .inl (cI, 16, .inl (fun x9 => nI (mx x9)))), (xE, .inl (cI, 3, .inl (fun x9 => nI (el x9)))), (xF, .inl (cI, 16, .inl (fun x9 => nI (qt x9))))] s.heap.size xC xA cn f row i x hf hx hrow hi hn) kk_C_growDraft wl_M_64 rfl rfl ⟨Nat.le_of_ble_eq_true rfl, Nat.le_of_ble_eq_true rfl⟩ (z_preVP (q := (RC, TC, 2)) hPc hK hDc rfl (q0 := 0) rfl) rfl hl.1 rfl (Nat.le_of_ble_eq_true rfl) dM_term_41 ⟨Nat.zero_le _, Nat.zero_le _⟩) hDc hS hAA (fun H locs hP hD hS => ?_)
  have hP : va_P (dC, dI) vwCl [(x0, .inr (4, [.ref xC, .ref xD, .ref xK, .ref xQ, .ref xV, .ref xI, .int (nI pb), .ref xL, .ref xR, .ref xS, .ref xT])), (xC, .inr (0, [.ref xA, .int (nI cn)])), (xD, .inr (1, [.ref xB, .int (nI (szN cn)), .int (nI (iv (szN cn)))])), (xK, .inr (2, [.ref xW, .ref xX, .int (z_b md), .int (nI ta), .int (nI al), .int (nI be), .int (nI ga), .int (nI de), .int (nI va)])), (xQ, .inr (3, [.ref xE, .ref xF, .int (z_b pd)])), (xV, .inl (cI, 16, .inl (fun x9 => nI (v x9)))), (xI, .inl (cI, 7, .inl (fun x9 => nI (inp x9)))), (xL, .inl (cI, 16, .inl (fun x9 => nI (sL x9)))), (xR, .inl (cI, 16, .inl (fun x9 => nI (sR x9)))), (xS, .inl (cI, 16, .inl (fun x9 => nI (sS x9)))), (xT, .inl (cI, 16, .inl (fun x9 => nI (sT x9)))), (xA, .inl (cI, 816, .inl (fun x9 => nI ((va_up f ((cn * 3 + row) * 16 + i) ((f ((cn * 3 + row) * 16 + i) + x) % 998244353)) x9)))), (xB, .inl (cI, 16, .inl (fun x9 => nI (bb x9)))), (xW, .inl (cI, 16, .inl (fun x9 => nI (w x9)))), (xX, .inl (cI, 16, .inl (fun x9 => nI (mx x9)))), (xE, .inl (cI, 3, .inl (fun x9 => nI (el x9)))), (xF, .inl (cI, 16, .inl (fun x9 => nI (qt x9))))] H := hP.sub [2, 0, 3, 4, 5, 6, 7, 8, 9, 10, 11, 1, 12, 13, 14, 15, 16] rfl
  have hD : va_D A [(x0, .inr (4, [.ref xC, .ref xD, .ref xK, .ref xQ, .ref xV, .ref xI, .int (nI pb), .ref xL, .ref xR, .ref xS, .ref xT])), (xC, .inr (0, [.ref xA, .int (nI cn)])), (xD, .inr (1, [.ref xB, .int (nI (szN cn)), .int (nI (iv (szN cn)))])), (xK, .inr (2, [.ref xW, .ref xX, .int (z_b md), .int (nI ta), .int (nI al), .int (nI be), .int (nI ga), .int (nI de), .int (nI va)])), (xQ, .inr (3, [.ref xE, .ref xF, .int (z_b pd)])), (xV, .inl (cI, 16, .inl (fun x9 => nI (v x9)))), (xI, .inl (cI, 7, .inl (fun x9 => nI (inp x9)))), (xL, .inl (cI, 16, .inl (fun x9 => nI (sL x9)))), (xR, .inl (cI, 16, .inl (fun x9 => nI (sR x9)))), (xS, .inl (cI, 16, .inl (fun x9 => nI (sS x9)))), (xT, .inl (cI, 16, .inl (fun x9 => nI (sT x9)))), (xA, .inl (cI, 816, .inl (fun x9 => nI ((va_up f ((cn * 3 + row) * 16 + i) ((f ((cn * 3 + row) * 16 + i) + x) % 998244353)) x9)))), (xB, .inl (cI, 16, .inl (fun x9 => nI (bb x9)))), (xW, .inl (cI, 16, .inl (fun x9 => nI (w x9)))), (xX, .inl (cI, 16, .inl (fun x9 => nI (mx x9)))), (xE, .inl (cI, 3, .inl (fun x9 => nI (el x9)))), (xF, .inl (cI, 16, .inl (fun x9 => nI (qt x9))))] := hD.sub [2, 0, 3, 4, 5, 6, 7, 8, 9, 10, 11, 1, 12, 13, 14, 15, 16] (by decide) rfl
  exact W.iret F.1 F.2.1 hr (fun t ht hW => ⟨rfl, by rw [ht]; exact hP, va_K.moved hW.alike hK, hD, hS.F ht⟩) hS.2.2 dM_term_44
set_option maxHeartbeats 4000000 in
set_option maxRecDepth 100000 in
theorem cm_constraint (l : Launch) (dC : Nat → ClassId) (dI : Nat → Nat → Nat) (cI cL : ClassId) (zz : Nat) (x0 xC xD xK xQ xV xI xL xR xS xT xA xB xW xX xE xF : Nat) (pb cn ta al be ga de va : Nat) (md pd : Bool) (v inp sL sR sS sT f bb w mx el qt : Nat → Nat) (hn : cn < 16) : Met l yM_constraint (zW yM_constraint cM_constraint 2 (.some .int)) ({ frames := 4, cells := 0, slots := 0, locals := 90 }) (va_Pc [.ref x0] (z_P (dC, dI) vwCl [(cI, .int), (cL, .long)] zz ([(x0, .inr (4, [.ref xC, .ref xD, .ref xK, .ref xQ, .ref xV, .ref xI, .int (nI pb), .ref xL, .ref xR, .ref xS, .ref xT])), (xC, .inr (0, [.ref xA, .int (nI cn)])), (xD, .inr (1, [.ref xB, .int (nI (szN cn)), .int (nI (iv (szN cn)))])), (xK, .inr (2, [.ref xW, .ref xX, .int (z_b md), .int (nI ta), .int (nI al), .int (nI be), .int (nI ga), .int (nI de), .int (nI va)])), (xQ, .inr (3, [.ref xE, .ref xF, .int (z_b pd)])), (xV, .inl (cI, 16, .inl (fun x9 => nI (v x9)))), (xI, .inl (cI, 7, .inl (fun x9 => nI (inp x9)))), (xL, .inl (cI, 16, .inl (fun x9 => nI (sL x9)))), (xR, .inl (cI, 16, .inl (fun x9 => nI (sR x9)))), (xS, .inl (cI, 16, .inl (fun x9 => nI (sS x9)))), (xT, .inl (cI, 16, .inl (fun x9 => nI (sT x9)))), (xA, .inl (cI, 816, .inl (fun x9 => nI (f x9)))), (xB, .inl (cI, 16, .inl (fun x9 => nI (bb x9)))), (xW, .inl (cI, 16, .inl (fun x9 => nI (w x9)))), (xX, .inl (cI, 16, .inl (fun x9 => nI (mx x9)))), (xE, .inl (cI, 3, .inl (fun x9 => nI (el x9)))), (xF, .inl (cI, 16, .inl (fun x9 => nI (qt x9))))]))) (z_Q (dC, dI) vwCl [(cI, .int), (cL, .long)] (some (.int (nI cn))) ([(x0, .inr (4, [.ref xC, .ref xD, .ref xK, .ref xQ, .ref xV, .ref xI, .int (nI pb), .ref xL, .ref xR, .ref xS, .ref xT])), (xC, .inr (0, [.ref xA, .int (nI (cn + 1))])), (xD, .inr (1, [.ref xB, .int (nI (szN (cn + 1))), .int (nI (iv (szN (cn + 1))))])), (xK, .inr (2, [.ref xW, .ref xX, .int (z_b false), .int (nI ta), .int (nI al), .int (nI be), .int (nI ga), .int (nI de), .int (nI va)])), (xQ, .inr (3, [.ref xE, .ref xF, .int (z_b pd)])), (xV, .inl (cI, 16, .inl (fun x9 => nI (v x9)))), (xI, .inl (cI, 7, .inl (fun x9 => nI (inp x9)))), (xL, .inl (cI, 16, .inl (fun x9 => nI (sL x9)))), (xR, .inl (cI, 16, .inl (fun x9 => nI (sR x9)))), (xS, .inl (cI, 16, .inl (fun x9 => nI (sS x9)))), (xT, .inl (cI, 16, .inl (fun x9 => nI (sT x9)))), (xA, .inl (cI, 816, .inl (fun x9 => nI (f x9)))), (xB, .inl (cI, 16, .inl (fun x9 => nI (((fun j => if j < szN (cn + 1) then bk (szN (cn + 1)) ^ j % 998244353 else bb j)) x9)))), (xW, .inl (cI, 16, .inl (fun x9 => nI (w x9)))), (xX, .inl (cI, 16, .inl (fun x9 => nI (mx x9)))), (xE, .inl (cI, 3, .inl (fun x9 => nI (el x9)))), (xF, .inl (cI, 16, .inl (fun x9 => nI (qt x9))))]) (va_A ([(x0, .inr (4, [.ref xC, .ref xD, .ref xK, .ref xQ, .ref xV, .ref xI, .int (nI pb), .ref xL, .ref xR, .ref xS, .ref xT])), (xC, .inr (0, [.ref xA, .int (nI cn)])), (xD, .inr (1, [.ref xB, .int (nI (szN cn)), .int (nI (iv (szN cn)))])), (xK, .inr (2, [.ref xW, .ref xX, .int (z_b md), .int (nI ta), .int (nI al), .int (nI be), .int (nI ga), .int (nI de), .int (nI va)])), (xQ, .inr (3, [.ref xE, .ref xF, .int (z_b pd)])), (xV, .inl (cI, 16, .inl (fun x9 => nI (v x9)))), (xI, .inl (cI, 7, .inl (fun x9 => nI (inp x9)))), (xL, .inl (cI, 16, .inl (fun x9 => nI (sL x9)))), (xR, .inl (cI, 16, .inl (fun x9 => nI (sR x9)))), (xS, .inl (cI, 16, .inl (fun x9 => nI (sS x9)))), (xT, .inl (cI, 16, .inl (fun x9 => nI (sT x9)))), (xA, .inl (cI, 816, .inl (fun x9 => nI (f x9)))), (xB, .inl (cI, 16, .inl (fun x9 => nI (bb x9)))), (xW, .inl (cI, 16, .inl (fun x9 => nI (w x9)))), (xX, .inl (cI, 16, .inl (fun x9 => nI (mx x9)))), (xE, .inl (cI, 3, .inl (fun x9 => nI (el x9)))), (xF, .inl (cI, 16, .inl (fun x9 => nI (qt x9))))]) zz)) 0 0 (va_A ([(x0, .inr (4, [.ref xC, .ref xD, .ref xK, .ref xQ, .ref xV, .ref xI, .int (nI pb), .ref xL, .ref xR, .ref xS, .ref xT])), (xC, .inr (0, [.ref xA, .int (nI cn)])), (xD, .inr (1, [.ref xB, .int (nI (szN cn)), .int (nI (iv (szN cn)))])), (xK, .inr (2, [.ref xW, .ref xX, .int (z_b md), .int (nI ta), .int (nI al), .int (nI be), .int (nI ga), .int (nI de), .int (nI va)])), (xQ, .inr (3, [.ref xE, .ref xF, .int (z_b pd)])), (xV, .inl (cI, 16, .inl (fun x9 => nI (v x9)))), (xI, .inl (cI, 7, .inl (fun x9 => nI (inp x9)))), (xL, .inl (cI, 16, .inl (fun x9 => nI (sL x9)))), (xR, .inl (cI, 16, .inl (fun x9 => nI (sR x9)))), (xS, .inl (cI, 16, .inl (fun x9 => nI (sS x9)))), (xT, .inl (cI, 16, .inl (fun x9 => nI (sT x9)))), (xA, .inl (cI, 816, .inl (fun x9 => nI (f x9)))), (xB, .inl (cI, 16, .inl (fun x9 => nI (bb x9)))), (xW, .inl (cI, 16, .inl (fun x9 => nI (w x9)))), (xX, .inl (cI, 16, .inl (fun x9 => nI (mx x9)))), (xE, .inl (cI, 3, .inl (fun x9 => nI (el x9)))), (xF, .inl (cI, 16, .inl (fun x9 => nI (qt x9))))]) zz) := by
  refine Met.ofW (cc := cM_constraint) (maxL := 2) (ret := (.some .int)) (by decide) rfl ?_
  intro p e s m args below meth c s₁ B hml hv
  obtain ⟨rfl, hsz, hP, hK, hD0⟩ := hv
  have F : CallFix p m c cM_constraint 2 s _ zT RM := ⟨B.exec, B.bytes, hml, findClass_of_methodNamed B.named, fun w h => atoms_spec (ws := (zW yM_constraint cM_constraint 2 (.some .int))) B.pre w (List.mem_cons_of_mem _ h)⟩
  have hr := B.returns
  have hlocks := B.notSynchronized
  subst hsz
  have hD := hD0.self (sz := s.heap.size)
  generalize hAe : va_A ([(x0, .inr (4, [.ref xC, .ref xD, .ref xK, .ref xQ, .ref xV, .ref xI, .int (nI pb), .ref xL, .ref xR, .ref xS, .ref xT])), (xC, .inr (0, [.ref xA, .int (nI cn)])), (xD, .inr (1, [.ref xB, .int (nI (szN cn)), .int (nI (iv (szN cn)))])), (xK, .inr (2, [.ref xW, .ref xX, .int (z_b md), .int (nI ta), .int (nI al), .int (nI be), .int (nI ga), .int (nI de), .int (nI va)])), (xQ, .inr (3, [.ref xE, .ref xF, .int (z_b pd)])), (xV, .inl (cI, 16, .inl (fun x9 => nI (v x9)))), (xI, .inl (cI, 7, .inl (fun x9 => nI (inp x9)))), (xL, .inl (cI, 16, .inl (fun x9 => nI (sL x9)))), (xR, .inl (cI, 16, .inl (fun x9 => nI (sR x9)))), (xS, .inl (cI, 16, .inl (fun x9 => nI (sS x9)))), (xT, .inl (cI, 16, .inl (fun x9 => nI (sT x9)))), (xA, .inl (cI, 816, .inl (fun x9 => nI (f x9)))), (xB, .inl (cI, 16, .inl (fun x9 => nI (bb x9)))), (xW, .inl (cI, 16, .inl (fun x9 => nI (w x9)))), (xX, .inl (cI, 16, .inl (fun x9 => nI (mx x9)))), (xE, .inl (cI, 3, .inl (fun x9 => nI (el x9)))), (xF, .inl (cI, 16, .inl (fun x9 => nI (qt x9))))]) s.heap.size = A at hD ⊢
  have hAA : ∀ q : Nat, s.heap.size ≤ q → A q := fun q h => by rw [← hAe]; exact Or.inr h
  have hS : va_S A s.heap s.heap [] := va_S.rf
  have hl := lv_entry ([.ref x0]) (n := 2) (Nat.le_of_ble_eq_true rfl)
  rw [lg_entry_eq]
  generalize (lg_sl ([.ref x0]) ++ List.replicate (2 - (lg_sl ([.ref x0])).length) Slot.unset).toArray = ls at hl ⊢
  have hl : lv_has ls 2 [(0, .ref x0)] := hl
  refine lv_aload_n F.1 F.2.1 dM_constraint_0 rfl (lv_at hl 0 rfl) ?_
  refine z_get F hK hP hinM 0 rfl rfl 0 (by decide) rfl wf_M_10 rfl dM_constraint_1 ?_
  refine z_call (z_runV [] [] F (c_count l dC dI cI cL _ 1 xC xA cn rfl) kk_C_count wl_M_68 rfl rfl ⟨Nat.le_of_ble_eq_true rfl, Nat.le_of_ble_eq_true rfl⟩ (z_preVR (q := (RC, TC, 2)) hP hK rfl (q0 := 1) rfl) rfl hl.1 rfl (Nat.le_of_ble_eq_true rfl) dM_constraint_4 ⟨Nat.zero_le _, Nat.zero_le _⟩) ?_
  refine z_bipush (v := 16) F (by decide) dM_constraint_7 ?_
  refine z_icmp_lt F (by omega) (by omega) (tgt := 20) dM_constraint_9 rfl (fun h => ?_) (fun h => absurd h (by omega))
  refine lv_aload_n F.1 F.2.1 dM_constraint_20 rfl (lv_at hl 0 rfl) ?_
  refine z_get F hK hP hinM 0 rfl rfl 0 (by decide) rfl wf_M_10 rfl dM_constraint_21 ?_
  have hPc := hP.sub (ws' := [(xC, .inr (0, [.ref xA, .int (nI cn)])), (x0, .inr (4, [.ref xC, .ref xD, .ref xK, .ref xQ, .ref xV, .ref xI, .int (nI pb), .ref xL, .ref xR, .ref xS, .ref xT])), (xD, .inr (1, [.ref xB, .int (nI (szN cn)), .int (nI (iv (szN cn)))])), (xK, .inr (2, [.ref xW, .ref xX, .int (z_b md), .int (nI ta), .int (nI al), .int (nI be), .int (nI ga), .int (nI de), .int (nI va)])), (xQ, .inr (3, [.ref xE, .ref xF, .int (z_b pd)])), (xV, .inl (cI, 16, .inl (fun x9 => nI (v x9)))), (xI, .inl (cI, 7, .inl (fun x9 => nI (inp x9)))), (xL, .inl (cI, 16, .inl (fun x9 => nI (sL x9)))), (xR, .inl (cI, 16, .inl (fun x9 => nI (sR x9)))), (xS, .inl (cI, 16, .inl (fun x9 => nI (sS x9)))), (xT, .inl (cI, 16, .inl (fun x9 => nI (sT x9)))), (xA, .inl (cI, 816, .inl (fun x9 => nI (f x9)))), (xB, .inl (cI, 16, .inl (fun x9 => nI (bb x9)))), (xW, .inl (cI, 16, .inl (fun x9 => nI (w x9)))), (xX, .inl (cI, 16, .inl (fun x9 => nI (mx x9)))), (xE, .inl (cI, 3, .inl (fun x9 => nI (el x9)))), (xF, .inl (cI, 16, .inl (fun x9 => nI (qt x9))))]) [1, 0, 2, 3, 4, 5, 6, 7, 8, 9, 10, 11, 12, 13, 14, 15, 16] rfl
  have hDc := hD.sub (ws' := [(xC, .inr (0, [.ref xA, .int (nI cn)])), (x0, .inr (4, [.ref xC, .ref xD, .ref xK, .ref xQ, .ref xV, .ref xI, .int (nI pb), .ref xL, .ref xR, .ref xS, .ref xT])), (xD, .inr (1, [.ref xB, .int (nI (szN cn)), .int (nI (iv (szN cn)))])), (xK, .inr (2, [.ref xW, .ref xX, .int (z_b md), .int (nI ta), .int (nI al), .int (nI be), .int (nI ga), .int (nI de), .int (nI va)])), (xQ, .inr (3, [.ref xE, .ref xF, .int (z_b pd)])), (xV, .inl (cI, 16, .inl (fun x9 => nI (v x9)))), (xI, .inl (cI, 7, .inl (fun x9 => nI (inp x9)))), (xL, .inl (cI, 16, .inl (fun x9 => nI (sL x9)))), (xR, .inl (cI, 16, .inl (fun x9 => nI (sR x9)))), (xS, .inl (cI, 16, .inl (fun x9 => nI (sS x9)))), (xT, .inl (cI, 16, .inl (fun x9 => nI (sT x9)))), (xA, .inl (cI, 816, .inl (fun x9 => nI (f x9)))), (xB, .inl (cI, 16, .inl (fun x9 => nI (bb x9)))), (xW, .inl (cI, 16, .inl (fun x9 => nI (w x9)))), (xX, .inl (cI, 16, .inl (fun x9 => nI (mx x9)))), (xE, .inl (cI, 3, .inl (fun x9 => nI (el x9)))), (xF, .inl (cI, 16, .inl (fun x9 => nI (qt x9))))]) [1, 0, 2, 3, 4, 5, 6, 7, 8, 9, 10, 11, 12, 13, 14, 15, 16] (by decide) rfl
  refine z_callW (z_runV [] [] F (c_closeDraft l dC dI cI cL [(x0, .inr (4, [.ref xC, .ref xD, .ref xK, .ref xQ, .ref xV, .ref xI, .int (nI pb), .ref xL, .ref xR, .ref xS, .ref xT])), (xD, .inr (1, [.ref xB, .int (nI (szN cn)), .int (nI (iv (szN cn)))])), (xK, .inr (2, [.ref xW, .ref xX, .int (z_b md), .int (nI ta), .int (nI al), .int (nI be), .int (nI ga), .int (nI de), .int (nI va)])), (xQ, .inr (3, [.ref xE, .ref xF, .int (z_b pd)])), (xV, .inl (cI, 16, .inl (fun x9 => nI (v x9)))), (xI, .inl (cI, 7, .inl (fun x9 => nI (inp x9)))), (xL, .inl (cI, 16, .inl (fun x9 => nI (sL x9)))), (xR, .inl (cI, 16, .inl (fun x9 => nI (sR x9)))), (xS, .inl (cI, 16, .inl (fun x9 => nI (sS x9)))), (xT, .inl (cI, 16, .inl (fun x9 => nI (sT x9)))), (xA, .inl (cI, 816, .inl (fun x9 => nI (f x9)))), (xB, .inl (cI, 16, .inl (fun x9 => nI (bb x9)))), (xW, .inl (cI, 16, .inl (fun x9 => nI (w x9)))), (xX, .inl (cI, 16, .inl (fun x9 => nI (mx x9)))), (xE, .inl (cI, 3, .inl (fun x9 => nI (el x9)))), (xF, .inl (cI, 16, .inl (fun x9 => nI (qt x9))))] s.heap.size xC xA cn) kk_C_closeDraft wl_M_75 rfl rfl ⟨Nat.le_of_ble_eq_true rfl, Nat.le_of_ble_eq_true rfl⟩ (z_preVP (q := (RC, TC, 2)) hPc hK hDc rfl (q0 := 0) rfl) rfl hl.1 rfl (Nat.le_of_ble_eq_true rfl) dM_constraint_24 ⟨Nat.zero_le _, Nat.zero_le _⟩) hDc hS hAA (fun H locs hP hD hS => ?_)
  have hP : va_P (dC, dI) vwCl [(x0, .inr (4, [.ref xC, .ref xD, .ref xK, .ref xQ, .ref xV, .ref xI, .int (nI pb), .ref xL, .ref xR, .ref xS, .ref xT])), (xC, .inr (0, [.ref xA, .int (nI (cn + 1))])), (xD, .inr (1, [.ref xB, .int (nI (szN cn)), .int (nI (iv (szN cn)))])), (xK, .inr (2, [.ref xW, .ref xX, .int (z_b md), .int (nI ta), .int (nI al), .int (nI be), .int (nI ga), .int (nI de), .int (nI va)])), (xQ, .inr (3, [.ref xE, .ref xF, .int (z_b pd)])), (xV, .inl (cI, 16, .inl (fun x9 => nI (v x9)))), (xI, .inl (cI, 7, .inl (fun x9 => nI (inp x9)))), (xL, .inl (cI, 16, .inl (fun x9 => nI (sL x9)))), (xR, .inl (cI, 16, .inl (fun x9 => nI (sR x9)))), (xS, .inl (cI, 16, .inl (fun x9 => nI (sS x9)))), (xT, .inl (cI, 16, .inl (fun x9 => nI (sT x9)))), (xA, .inl (cI, 816, .inl (fun x9 => nI (f x9)))), (xB, .inl (cI, 16, .inl (fun x9 => nI (bb x9)))), (xW, .inl (cI, 16, .inl (fun x9 => nI (w x9)))), (xX, .inl (cI, 16, .inl (fun x9 => nI (mx x9)))), (xE, .inl (cI, 3, .inl (fun x9 => nI (el x9)))), (xF, .inl (cI, 16, .inl (fun x9 => nI (qt x9))))] H := hP.sub [1, 0, 2, 3, 4, 5, 6, 7, 8, 9, 10, 11, 12, 13, 14, 15, 16] rfl
  have hD : va_D A [(x0, .inr (4, [.ref xC, .ref xD, .ref xK, .ref xQ, .ref xV, .ref xI, .int (nI pb), .ref xL, .ref xR, .ref xS, .ref xT])), (xC, .inr (0, [.ref xA, .int (nI (cn + 1))])), (xD, .inr (1, [.ref xB, .int (nI (szN cn)), .int (nI (iv (szN cn)))])), (xK, .inr (2, [.ref xW, .ref xX, .int (z_b md), .int (nI ta), .int (nI al), .int (nI be), .int (nI ga), .int (nI de), .int (nI va)])), (xQ, .inr (3, [.ref xE, .ref xF, .int (z_b pd)])), (xV, .inl (cI, 16, .inl (fun x9 => nI (v x9)))), (xI, .inl (cI, 7, .inl (fun x9 => nI (inp x9)))), (xL, .inl (cI, 16, .inl (fun x9 => nI (sL x9)))), (xR, .inl (cI, 16, .inl (fun x9 => nI (sR x9)))), (xS, .inl (cI, 16, .inl (fun x9 => nI (sS x9)))), (xT, .inl (cI, 16, .inl (fun x9 => nI (sT x9)))), (xA, .inl (cI, 816, .inl (fun x9 => nI (f x9)))), (xB, .inl (cI, 16, .inl (fun x9 => nI (bb x9)))), (xW, .inl (cI, 16, .inl (fun x9 => nI (w x9)))), (xX, .inl (cI, 16, .inl (fun x9 => nI (mx x9)))), (xE, .inl (cI, 3, .inl (fun x9 => nI (el x9)))), (xF, .inl (cI, 16, .inl (fun x9 => nI (qt x9))))] := hD.sub [1, 0, 2, 3, 4, 5, 6, 7, 8, 9, 10, 11, 12, 13, 14, 15, 16] (by decide) rfl
  refine lv_istore_n F.1 F.2.1 (lv' := [(1, .int (nI cn)), (0, .ref x0)]) dM_constraint_27 rfl hl (by decide) rfl (fun ls hl => ?_)
  refine lv_aload_n F.1 F.2.1 dM_constraint_28 rfl (lv_at hl 1 rfl) ?_
  refine z_get F hK hP hinM 0 rfl rfl 1 (by decide) rfl wf_M_19 rfl dM_constraint_29 ?_
  refine lv_aload_n F.1 F.2.1 dM_constraint_32 rfl (lv_at hl 1 rfl) ?_
  refine z_get F hK hP hinM 0 rfl rfl 0 (by decide) rfl wf_M_10 rfl dM_constraint_33 ?_
  refine z_call (z_runV [] [.ref xD] F (c_count l dC dI cI cL _ 1 xC xA (cn + 1) rfl) kk_C_count wl_M_68 rfl rfl ⟨Nat.le_of_ble_eq_true rfl, Nat.le_of_ble_eq_true rfl⟩ (z_preVR (q := (RC, TC, 2)) hP hK rfl (q0 := 1) rfl) rfl hl.1 rfl (Nat.le_of_ble_eq_true rfl) dM_constraint_36 ⟨Nat.zero_le _, Nat.zero_le _⟩) ?_
  have hPc := hP.sub (ws' := [(xD, .inr (1, [.ref xB, .int (nI (szN cn)), .int (nI (iv (szN cn)))])), (xB, .inl (cI, 16, .inl (fun x9 => nI (bb x9)))), (x0, .inr (4, [.ref xC, .ref xD, .ref xK, .ref xQ, .ref xV, .ref xI, .int (nI pb), .ref xL, .ref xR, .ref xS, .ref xT])), (xC, .inr (0, [.ref xA, .int (nI (cn + 1))])), (xK, .inr (2, [.ref xW, .ref xX, .int (z_b md), .int (nI ta), .int (nI al), .int (nI be), .int (nI ga), .int (nI de), .int (nI va)])), (xQ, .inr (3, [.ref xE, .ref xF, .int (z_b pd)])), (xV, .inl (cI, 16, .inl (fun x9 => nI (v x9)))), (xI, .inl (cI, 7, .inl (fun x9 => nI (inp x9)))), (xL, .inl (cI, 16, .inl (fun x9 => nI (sL x9)))), (xR, .inl (cI, 16, .inl (fun x9 => nI (sR x9)))), (xS, .inl (cI, 16, .inl (fun x9 => nI (sS x9)))), (xT, .inl (cI, 16, .inl (fun x9 => nI (sT x9)))), (xA, .inl (cI, 816, .inl (fun x9 => nI (f x9)))), (xW, .inl (cI, 16, .inl (fun x9 => nI (w x9)))), (xX, .inl (cI, 16, .inl (fun x9 => nI (mx x9)))), (xE, .inl (cI, 3, .inl (fun x9 => nI (el x9)))), (xF, .inl (cI, 16, .inl (fun x9 => nI (qt x9))))]) [2, 12, 0, 1, 3, 4, 5, 6, 7, 8, 9, 10, 11, 13, 14, 15, 16] rfl
  have hDc := hD.sub (ws' := [(xD, .inr (1, [.ref xB, .int (nI (szN cn)), .int (nI (iv (szN cn)))])), (xB, .inl (cI, 16, .inl (fun x9 => nI (bb x9)))), (x0, .inr (4, [.ref xC, .ref xD, .ref xK, .ref xQ, .ref xV, .ref xI, .int (nI pb), .ref xL, .ref xR, .ref xS, .ref xT])), (xC, .inr (0, [.ref xA, .int (nI (cn + 1))])), (xK, .inr (2, [.ref xW, .ref xX, .int (z_b md), .int (nI ta), .int (nI al), .int (nI be), .int (nI ga), .int (nI de), .int (nI va)])), (xQ, .inr (3, [.ref xE, .ref xF, .int (z_b pd)])), (xV, .inl (cI, 16, .inl (fun x9 => nI (v x9)))), (xI, .inl (cI, 7, .inl (fun x9 => nI (inp x9)))), (xL, .inl (cI, 16, .inl (fun x9 => nI (sL x9)))), (xR, .inl (cI, 16, .inl (fun x9 => nI (sR x9)))), (xS, .inl (cI, 16, .inl (fun x9 => nI (sS x9)))), (xT, .inl (cI, 16, .inl (fun x9 => nI (sT x9)))), (xA, .inl (cI, 816, .inl (fun x9 => nI (f x9)))), (xW, .inl (cI, 16, .inl (fun x9 => nI (w x9)))), (xX, .inl (cI, 16, .inl (fun x9 => nI (mx x9)))), (xE, .inl (cI, 3, .inl (fun x9 => nI (el x9)))), (xF, .inl (cI, 16, .inl (fun x9 => nI (qt x9))))]) [2, 12, 0, 1, 3, 4, 5, 6, 7, 8, 9, 10, 11, 13, 14, 15, 16] (by decide) rfl
  refine z_callW (z_runV [.int (nI (cn + 1))] [] F (c_fit l dC dI cI cL [(x0, .inr (4, [.ref xC, .ref xD, .ref xK, .ref xQ, .ref xV, .ref xI, .int (nI pb), .ref xL, .ref xR, .ref xS, .ref xT])), (xC, .inr (0, [.ref xA, .int (nI (cn + 1))])), (xK, .inr (2, [.ref xW, .ref xX, .int (z_b md), .int (nI ta), .int (nI al), .int (nI be), .int (nI ga), .int (nI de), .int (nI va)])), (xQ, .inr (3, [.ref xE, .ref xF, .int (z_b pd)])), (xV, .inl (cI, 16, .inl (fun x9 => nI (v x9)))), (xI, .inl (cI, 7, .inl (fun x9 => nI (inp x9)))), (xL, .inl (cI, 16, .inl (fun x9 => nI (sL x9)))), (xR, .inl (cI, 16, .inl (fun x9 => nI (sR x9)))), (xS, .inl (cI, 16, .inl (fun x9 => nI (sS x9)))), (xT, .inl (cI, 16, .inl (fun x9 => nI (sT x9)))), (xA, .inl (cI, 816, .inl (fun x9 => nI (f x9)))), (xW, .inl (cI, 16, .inl (fun x9 => nI (w x9)))), (xX, .inl (cI, 16, .inl (fun x9 => nI (mx x9)))), (xE, .inl (cI, 3, .inl (fun x9 => nI (el x9)))), (xF, .inl (cI, 16, .inl (fun x9 => nI (qt x9))))] H.size xD xB (szN cn) (iv (szN cn)) (cn + 1) bb (by omega)) kk_D_fit wl_M_78 rfl rfl ⟨Nat.le_of_ble_eq_true rfl, Nat.le_of_ble_eq_true rfl⟩ (z_preVP (q := (RD, TD, 3)) hPc hK hDc rfl (q0 := 0) rfl) rfl hl.1 rfl (Nat.le_of_ble_eq_true rfl) dM_constraint_39 ⟨Nat.zero_le _, Nat.zero_le _⟩) hDc hS hAA (fun H locs hP hD hS => ?_)
  have hP : va_P (dC, dI) vwCl [(x0, .inr (4, [.ref xC, .ref xD, .ref xK, .ref xQ, .ref xV, .ref xI, .int (nI pb), .ref xL, .ref xR, .ref xS, .ref xT])), (xC, .inr (0, [.ref xA, .int (nI (cn + 1))])), (xD, .inr (1, [.ref xB, .int (nI (szN (cn + 1))), .int (nI (iv (szN (cn + 1))))])), (xK, .inr (2, [.ref xW, .ref xX, .int (z_b md), .int (nI ta), .int (nI al), .int (nI be), .int (nI ga), .int (nI de), .int (nI va)])), (xQ, .inr (3, [.ref xE, .ref xF, .int (z_b pd)])), (xV, .inl (cI, 16, .inl (fun x9 => nI (v x9)))), (xI, .inl (cI, 7, .inl (fun x9 => nI (inp x9)))), (xL, .inl (cI, 16, .inl (fun x9 => nI (sL x9)))), (xR, .inl (cI, 16, .inl (fun x9 => nI (sR x9)))), (xS, .inl (cI, 16, .inl (fun x9 => nI (sS x9)))), (xT, .inl (cI, 16, .inl (fun x9 => nI (sT x9)))), (xA, .inl (cI, 816, .inl (fun x9 => nI (f x9)))), (xB, .inl (cI, 16, .inl (fun x9 => nI (((fun j => if j < szN (cn + 1) then bk (szN (cn + 1)) ^ j % 998244353 else bb j)) x9)))), (xW, .inl (cI, 16, .inl (fun x9 => nI (w x9)))), (xX, .inl (cI, 16, .inl (fun x9 => nI (mx x9)))), (xE, .inl (cI, 3, .inl (fun x9 => nI (el x9)))), (xF, .inl (cI, 16, .inl (fun x9 => nI (qt x9))))] H := hP.sub [2, 3, 0, 4, 5, 6, 7, 8, 9, 10, 11, 12, 1, 13, 14, 15, 16] rfl
  have hD : va_D A [(x0, .inr (4, [.ref xC, .ref xD, .ref xK, .ref xQ, .ref xV, .ref xI, .int (nI pb), .ref xL, .ref xR, .ref xS, .ref xT])), (xC, .inr (0, [.ref xA, .int (nI (cn + 1))])), (xD, .inr (1, [.ref xB, .int (nI (szN (cn + 1))), .int (nI (iv (szN (cn + 1))))])), (xK, .inr (2, [.ref xW, .ref xX, .int (z_b md), .int (nI ta), .int (nI al), .int (nI be), .int (nI ga), .int (nI de), .int (nI va)])), (xQ, .inr (3, [.ref xE, .ref xF, .int (z_b pd)])), (xV, .inl (cI, 16, .inl (fun x9 => nI (v x9)))), (xI, .inl (cI, 7, .inl (fun x9 => nI (inp x9)))), (xL, .inl (cI, 16, .inl (fun x9 => nI (sL x9)))), (xR, .inl (cI, 16, .inl (fun x9 => nI (sR x9)))), (xS, .inl (cI, 16, .inl (fun x9 => nI (sS x9)))), (xT, .inl (cI, 16, .inl (fun x9 => nI (sT x9)))), (xA, .inl (cI, 816, .inl (fun x9 => nI (f x9)))), (xB, .inl (cI, 16, .inl (fun x9 => nI (((fun j => if j < szN (cn + 1) then bk (szN (cn + 1)) ^ j % 998244353 else bb j)) x9)))), (xW, .inl (cI, 16, .inl (fun x9 => nI (w x9)))), (xX, .inl (cI, 16, .inl (fun x9 => nI (mx x9)))), (xE, .inl (cI, 3, .inl (fun x9 => nI (el x9)))), (xF, .inl (cI, 16, .inl (fun x9 => nI (qt x9))))] := hD.sub [2, 3, 0, 4, 5, 6, 7, 8, 9, 10, 11, 12, 1, 13, 14, 15, 16] (by decide) rfl
  refine lv_aload_n F.1 F.2.1 dM_constraint_42 rfl (lv_at hl 1 rfl) ?_
  refine z_get F hK hP hinM 0 rfl rfl 2 (by decide) rfl wf_M_26 rfl dM_constraint_43 ?_
  have hPc := hP.sub (ws' := [(xK, .inr (2, [.ref xW, .ref xX, .int (z_b md), .int (nI ta), .int (nI al), .int (nI be), .int (nI ga), .int (nI de), .int (nI va)])), (x0, .inr (4, [.ref xC, .ref xD, .ref xK, .ref xQ, .ref xV, .ref xI, .int (nI pb), .ref xL, .ref xR, .ref xS, .ref xT])), (xC, .inr (0, [.ref xA, .int (nI (cn + 1))])), (xD, .inr (1, [.ref xB, .int (nI (szN (cn + 1))), .int (nI (iv (szN (cn + 1))))])), (xQ, .inr (3, [.ref xE, .ref xF, .int (z_b pd)])), (xV, .inl (cI, 16, .inl (fun x9 => nI (v x9)))), (xI, .inl (cI, 7, .inl (fun x9 => nI (inp x9)))), (xL, .inl (cI, 16, .inl (fun x9 => nI (sL x9)))), (xR, .inl (cI, 16, .inl (fun x9 => nI (sR x9)))), (xS, .inl (cI, 16, .inl (fun x9 => nI (sS x9)))), (xT, .inl (cI, 16, .inl (fun x9 => nI (sT x9)))), (xA, .inl (cI, 816, .inl (fun x9 => nI (f x9)))), (xB, .inl (cI, 16, .inl (fun x9 => nI (((fun j => if j < szN (cn + 1) then bk (szN (cn + 1)) ^ j % 998244353 else bb j)) x9)))), (xW, .inl (cI, 16, .inl (fun x9 => nI (w x9)))), (xX, .inl (cI, 16, .inl (fun x9 => nI (mx x9)))), (xE, .inl (cI, 3, .inl (fun x9 => nI (el x9)))), (xF, .inl (cI, 16, .inl (fun x9 => nI (qt x9))))]) [3, 0, 1, 2, 4, 5, 6, 7, 8, 9, 10, 11, 12, 13, 14, 15, 16] rfl
  have hDc := hD.sub (ws' := [(xK, .inr (2, [.ref xW, .ref xX, .int (z_b md), .int (nI ta), .int (nI al), .int (nI be), .int (nI ga), .int (nI de), .int (nI va)])), (x0, .inr (4, [.ref xC, .ref xD, .ref xK, .ref xQ, .ref xV, .ref xI, .int (nI pb), .ref xL, .ref xR, .ref xS, .ref xT])), (xC, .inr (0, [.ref xA, .int (nI (cn + 1))])), (xD, .inr (1, [.ref xB, .int (nI (szN (cn + 1))), .int (nI (iv (szN (cn + 1))))])), (xQ, .inr (3, [.ref xE, .ref xF, .int (z_b pd)])), (xV, .inl (cI, 16, .inl (fun x9 => nI (v x9)))), (xI, .inl (cI, 7, .inl (fun x9 => nI (inp x9)))), (xL, .inl (cI, 16, .inl (fun x9 => nI (sL x9)))), (xR, .inl (cI, 16, .inl (fun x9 => nI (sR x9)))), (xS, .inl (cI, 16, .inl (fun x9 => nI (sS x9)))), (xT, .inl (cI, 16, .inl (fun x9 => nI (sT x9)))), (xA, .inl (cI, 816, .inl (fun x9 => nI (f x9)))), (xB, .inl (cI, 16, .inl (fun x9 => nI (((fun j => if j < szN (cn + 1) then bk (szN (cn + 1)) ^ j % 998244353 else bb j)) x9)))), (xW, .inl (cI, 16, .inl (fun x9 => nI (w x9)))), (xX, .inl (cI, 16, .inl (fun x9 => nI (mx x9)))), (xE, .inl (cI, 3, .inl (fun x9 => nI (el x9)))), (xF, .inl (cI, 16, .inl (fun x9 => nI (qt x9))))]) [3, 0, 1, 2, 4, 5, 6, 7, 8, 9, 10, 11, 12, 13, 14, 15, 16] (by decide) rfl
  refine z_callW (z_runV [] [] F (ck_drop l dC dI cI cL [(x0, .inr (4, [.ref xC, .ref xD, .ref xK, .ref xQ, .ref xV, .ref xI, .int (nI pb), .ref xL, .ref xR, .ref xS, .ref xT])), (xC, .inr (0, [.ref xA, .int (nI (cn + 1))])), (xD, .inr (1, [.ref xB, .int (nI (szN (cn + 1))), .int (nI (iv (szN (cn + 1))))])), (xQ, .inr (3, [.ref xE, .ref xF, .int (z_b pd)])), (xV, .inl (cI, 16, .inl (fun x9 => nI (v x9)))), (xI, .inl (cI, 7, .inl (fun x9 => nI (inp x9)))), (xL, .inl (cI, 16, .inl (fun x9 => nI (sL x9)))), (xR, .inl (cI, 16, .inl (fun x9 => nI (sR x9)))), (xS, .inl (cI, 16, .inl (fun x9 => nI (sS x9)))), (xT, .inl (cI, 16, .inl (fun x9 => nI (sT x9)))), (xA, .inl (cI, 816, .inl (fun x9 => nI (f x9)))), (xB, .inl (cI, 16, .inl (fun x9 => nI (((fun j => if j < szN (cn + 1) then bk (szN (cn + 1)) ^ j % 998244353 else bb j)) x9)))), (xW, .inl (cI, 16, .inl (fun x9 => nI (w x9)))), (xX, .inl (cI, 16, .inl (fun x9 => nI (mx x9)))), (xE, .inl (cI, 3, .inl (fun x9 => nI (el x9)))), (xF, .inl (cI, 16, .inl (fun x9 => nI (qt x9))))] H.size xK xW xX ta al be ga de va md) kk_K_drop wl_M_82 rfl rfl ⟨Nat.le_of_ble_eq_true rfl, Nat.le_of_ble_eq_true rfl⟩ (z_preVP (q := (RK, TK, 9)) hPc hK hDc rfl (q0 := 0) rfl) rfl hl.1 rfl (Nat.le_of_ble_eq_true rfl) dM_constraint_46 ⟨Nat.zero_le _, Nat.zero_le _⟩) hDc hS hAA (fun H locs hP hD hS => ?_)
  have hP : va_P (dC, dI) vwCl [(x0, .inr (4, [.ref xC, .ref xD, .ref xK, .ref xQ, .ref xV, .ref xI, .int (nI pb), .ref xL, .ref xR, .ref xS, .ref xT])), (xC, .inr (0, [.ref xA, .int (nI (cn + 1))])), (xD, .inr (1, [.ref xB, .int (nI (szN (cn + 1))), .int (nI (iv (szN (cn + 1))))])), (xK, .inr (2, [.ref xW, .ref xX, .int (z_b false), .int (nI ta), .int (nI al), .int (nI be), .int (nI ga), .int (nI de), .int (nI va)])), (xQ, .inr (3, [.ref xE, .ref xF, .int (z_b pd)])), (xV, .inl (cI, 16, .inl (fun x9 => nI (v x9)))), (xI, .inl (cI, 7, .inl (fun x9 => nI (inp x9)))), (xL, .inl (cI, 16, .inl (fun x9 => nI (sL x9)))), (xR, .inl (cI, 16, .inl (fun x9 => nI (sR x9)))), (xS, .inl (cI, 16, .inl (fun x9 => nI (sS x9)))), (xT, .inl (cI, 16, .inl (fun x9 => nI (sT x9)))), (xA, .inl (cI, 816, .inl (fun x9 => nI (f x9)))), (xB, .inl (cI, 16, .inl (fun x9 => nI (((fun j => if j < szN (cn + 1) then bk (szN (cn + 1)) ^ j % 998244353 else bb j)) x9)))), (xW, .inl (cI, 16, .inl (fun x9 => nI (w x9)))), (xX, .inl (cI, 16, .inl (fun x9 => nI (mx x9)))), (xE, .inl (cI, 3, .inl (fun x9 => nI (el x9)))), (xF, .inl (cI, 16, .inl (fun x9 => nI (qt x9))))] H := hP.sub [1, 2, 3, 0, 4, 5, 6, 7, 8, 9, 10, 11, 12, 13, 14, 15, 16] rfl
  have hD : va_D A [(x0, .inr (4, [.ref xC, .ref xD, .ref xK, .ref xQ, .ref xV, .ref xI, .int (nI pb), .ref xL, .ref xR, .ref xS, .ref xT])), (xC, .inr (0, [.ref xA, .int (nI (cn + 1))])), (xD, .inr (1, [.ref xB, .int (nI (szN (cn + 1))), .int (nI (iv (szN (cn + 1))))])), (xK, .inr (2, [.ref xW, .ref xX, .int (z_b false), .int (nI ta), .int (nI al), .int (nI be), .int (nI ga), .int (nI de), .int (nI va)])), (xQ, .inr (3, [.ref xE, .ref xF, .int (z_b pd)])), (xV, .inl (cI, 16, .inl (fun x9 => nI (v x9)))), (xI, .inl (cI, 7, .inl (fun x9 => nI (inp x9)))), (xL, .inl (cI, 16, .inl (fun x9 => nI (sL x9)))), (xR, .inl (cI, 16, .inl (fun x9 => nI (sR x9)))), (xS, .inl (cI, 16, .inl (fun x9 => nI (sS x9)))), (xT, .inl (cI, 16, .inl (fun x9 => nI (sT x9)))), (xA, .inl (cI, 816, .inl (fun x9 => nI (f x9)))), (xB, .inl (cI, 16, .inl (fun x9 => nI (((fun j => if j < szN (cn + 1) then bk (szN (cn + 1)) ^ j % 998244353 else bb j)) x9)))), (xW, .inl (cI, 16, .inl (fun x9 => nI (w x9)))), (xX, .inl (cI, 16, .inl (fun x9 => nI (mx x9)))), (xE, .inl (cI, 3, .inl (fun x9 => nI (el x9)))), (xF, .inl (cI, 16, .inl (fun x9 => nI (qt x9))))] := hD.sub [1, 2, 3, 0, 4, 5, 6, 7, 8, 9, 10, 11, 12, 13, 14, 15, 16] (by decide) rfl
  refine lv_iload_n F.1 F.2.1 dM_constraint_49 rfl (lv_at hl 0 rfl) ?_
  exact W.iret F.1 F.2.1 hr (fun t ht hW => ⟨rfl, by rw [ht]; exact hP, va_K.moved hW.alike hK, hD, hS.F ht⟩) hS.2.2 dM_constraint_50
set_option maxHeartbeats 4000000 in
set_option maxRecDepth 100000 in
theorem cm_publics (l : Launch) (dC : Nat → ClassId) (dI : Nat → Nat → Nat) (cI cL : ClassId) (zz : Nat) (x0 xC xD xK xQ xV xI xL xR xS xT xA xB xW xX xE xF : Nat) (pb cn ta al be ga de va : Nat) (md pd : Bool) (v inp sL sR sS sT f bb w mx el qt : Nat → Nat) (k : Nat) (hk : k < 7) : Met l yM_publics (zW yM_publics cM_publics 2 (.some .boolean)) ({ frames := 1, cells := 0, slots := 0, locals := 21 }) (va_Pc [.ref x0, .int (nI k)] (z_P (dC, dI) vwCl [(cI, .int), (cL, .long)] zz ([(x0, .inr (4, [.ref xC, .ref xD, .ref xK, .ref xQ, .ref xV, .ref xI, .int (nI pb), .ref xL, .ref xR, .ref xS, .ref xT])), (xC, .inr (0, [.ref xA, .int (nI cn)])), (xD, .inr (1, [.ref xB, .int (nI (szN cn)), .int (nI (iv (szN cn)))])), (xK, .inr (2, [.ref xW, .ref xX, .int (z_b md), .int (nI ta), .int (nI al), .int (nI be), .int (nI ga), .int (nI de), .int (nI va)])), (xQ, .inr (3, [.ref xE, .ref xF, .int (z_b pd)])), (xV, .inl (cI, 16, .inl (fun x9 => nI (v x9)))), (xI, .inl (cI, 7, .inl (fun x9 => nI (inp x9)))), (xL, .inl (cI, 16, .inl (fun x9 => nI (sL x9)))), (xR, .inl (cI, 16, .inl (fun x9 => nI (sR x9)))), (xS, .inl (cI, 16, .inl (fun x9 => nI (sS x9)))), (xT, .inl (cI, 16, .inl (fun x9 => nI (sT x9)))), (xA, .inl (cI, 816, .inl (fun x9 => nI (f x9)))), (xB, .inl (cI, 16, .inl (fun x9 => nI (bb x9)))), (xW, .inl (cI, 16, .inl (fun x9 => nI (w x9)))), (xX, .inl (cI, 16, .inl (fun x9 => nI (mx x9)))), (xE, .inl (cI, 3, .inl (fun x9 => nI (el x9)))), (xF, .inl (cI, 16, .inl (fun x9 => nI (qt x9))))]))) (z_Q (dC, dI) vwCl [(cI, .int), (cL, .long)] (some (.int (z_b true))) ([(x0, .inr (4, [.ref xC, .ref xD, .ref xK, .ref xQ, .ref xV, .ref xI, .int (nI k), .ref xL, .ref xR, .ref xS, .ref xT])), (xC, .inr (0, [.ref xA, .int (nI cn)])), (xD, .inr (1, [.ref xB, .int (nI (szN cn)), .int (nI (iv (szN cn)))])), (xK, .inr (2, [.ref xW, .ref xX, .int (z_b false), .int (nI ta), .int (nI al), .int (nI be), .int (nI ga), .int (nI de), .int (nI va)])), (xQ, .inr (3, [.ref xE, .ref xF, .int (z_b pd)])), (xV, .inl (cI, 16, .inl (fun x9 => nI (v x9)))), (xI, .inl (cI, 7, .inl (fun x9 => nI (inp x9)))), (xL, .inl (cI, 16, .inl (fun x9 => nI (sL x9)))), (xR, .inl (cI, 16, .inl (fun x9 => nI (sR x9)))), (xS, .inl (cI, 16, .inl (fun x9 => nI (sS x9)))), (xT, .inl (cI, 16, .inl (fun x9 => nI (sT x9)))), (xA, .inl (cI, 816, .inl (fun x9 => nI (f x9)))), (xB, .inl (cI, 16, .inl (fun x9 => nI (bb x9)))), (xW, .inl (cI, 16, .inl (fun x9 => nI (w x9)))), (xX, .inl (cI, 16, .inl (fun x9 => nI (mx x9)))), (xE, .inl (cI, 3, .inl (fun x9 => nI (el x9)))), (xF, .inl (cI, 16, .inl (fun x9 => nI (qt x9))))]) (va_A ([(x0, .inr (4, [.ref xC, .ref xD, .ref xK, .ref xQ, .ref xV, .ref xI, .int (nI pb), .ref xL, .ref xR, .ref xS, .ref xT])), (xC, .inr (0, [.ref xA, .int (nI cn)])), (xD, .inr (1, [.ref xB, .int (nI (szN cn)), .int (nI (iv (szN cn)))])), (xK, .inr (2, [.ref xW, .ref xX, .int (z_b md), .int (nI ta), .int (nI al), .int (nI be), .int (nI ga), .int (nI de), .int (nI va)])), (xQ, .inr (3, [.ref xE, .ref xF, .int (z_b pd)])), (xV, .inl (cI, 16, .inl (fun x9 => nI (v x9)))), (xI, .inl (cI, 7, .inl (fun x9 => nI (inp x9)))), (xL, .inl (cI, 16, .inl (fun x9 => nI (sL x9)))), (xR, .inl (cI, 16, .inl (fun x9 => nI (sR x9)))), (xS, .inl (cI, 16, .inl (fun x9 => nI (sS x9)))), (xT, .inl (cI, 16, .inl (fun x9 => nI (sT x9)))), (xA, .inl (cI, 816, .inl (fun x9 => nI (f x9)))), (xB, .inl (cI, 16, .inl (fun x9 => nI (bb x9)))), (xW, .inl (cI, 16, .inl (fun x9 => nI (w x9)))), (xX, .inl (cI, 16, .inl (fun x9 => nI (mx x9)))), (xE, .inl (cI, 3, .inl (fun x9 => nI (el x9)))), (xF, .inl (cI, 16, .inl (fun x9 => nI (qt x9))))]) zz)) 0 0 (va_A ([(x0, .inr (4, [.ref xC, .ref xD, .ref xK, .ref xQ, .ref xV, .ref xI, .int (nI pb), .ref xL, .ref xR, .ref xS, .ref xT])), (xC, .inr (0, [.ref xA, .int (nI cn)])), (xD, .inr (1, [.ref xB, .int (nI (szN cn)), .int (nI (iv (szN cn)))])), (xK, .inr (2, [.ref xW, .ref xX, .int (z_b md), .int (nI ta), .int (nI al), .int (nI be), .int (nI ga), .int (nI de), .int (nI va)])), (xQ, .inr (3, [.ref xE, .ref xF, .int (z_b pd)])), (xV, .inl (cI, 16, .inl (fun x9 => nI (v x9)))), (xI, .inl (cI, 7, .inl (fun x9 => nI (inp x9)))), (xL, .inl (cI, 16, .inl (fun x9 => nI (sL x9)))), (xR, .inl (cI, 16, .inl (fun x9 => nI (sR x9)))), (xS, .inl (cI, 16, .inl (fun x9 => nI (sS x9)))), (xT, .inl (cI, 16, .inl (fun x9 => nI (sT x9)))), (xA, .inl (cI, 816, .inl (fun x9 => nI (f x9)))), (xB, .inl (cI, 16, .inl (fun x9 => nI (bb x9)))), (xW, .inl (cI, 16, .inl (fun x9 => nI (w x9)))), (xX, .inl (cI, 16, .inl (fun x9 => nI (mx x9)))), (xE, .inl (cI, 3, .inl (fun x9 => nI (el x9)))), (xF, .inl (cI, 16, .inl (fun x9 => nI (qt x9))))]) zz) := by
  refine Met.ofW (cc := cM_publics) (maxL := 2) (ret := (.some .boolean)) (by decide) rfl ?_
  intro p e s m args below meth c s₁ B hml hv
  obtain ⟨rfl, hsz, hP, hK, hD0⟩ := hv
  have F : CallFix p m c cM_publics 2 s _ zT RM := ⟨B.exec, B.bytes, hml, findClass_of_methodNamed B.named, fun w h => atoms_spec (ws := (zW yM_publics cM_publics 2 (.some .boolean))) B.pre w (List.mem_cons_of_mem _ h)⟩
  have hr := B.returns
  have hlocks := B.notSynchronized
  subst hsz
  have hD := hD0.self (sz := s.heap.size)
  generalize hAe : va_A ([(x0, .inr (4, [.ref xC, .ref xD, .ref xK, .ref xQ, .ref xV, .ref xI, .int (nI pb), .ref xL, .ref xR, .ref xS, .ref xT])), (xC, .inr (0, [.ref xA, .int (nI cn)])), (xD, .inr (1, [.ref xB, .int (nI (szN cn)), .int (nI (iv (szN cn)))])), (xK, .inr (2, [.ref xW, .ref xX, .int (z_b md), .int (nI ta), .int (nI al), .int (nI be), .int (nI ga), .int (nI de), .int (nI va)])), (xQ, .inr (3, [.ref xE, .ref xF, .int (z_b pd)])), (xV, .inl (cI, 16, .inl (fun x9 => nI (v x9)))), (xI, .inl (cI, 7, .inl (fun x9 => nI (inp x9)))), (xL, .inl (cI, 16, .inl (fun x9 => nI (sL x9)))), (xR, .inl (cI, 16, .inl (fun x9 => nI (sR x9)))), (xS, .inl (cI, 16, .inl (fun x9 => nI (sS x9)))), (xT, .inl (cI, 16, .inl (fun x9 => nI (sT x9)))), (xA, .inl (cI, 816, .inl (fun x9 => nI (f x9)))), (xB, .inl (cI, 16, .inl (fun x9 => nI (bb x9)))), (xW, .inl (cI, 16, .inl (fun x9 => nI (w x9)))), (xX, .inl (cI, 16, .inl (fun x9 => nI (mx x9)))), (xE, .inl (cI, 3, .inl (fun x9 => nI (el x9)))), (xF, .inl (cI, 16, .inl (fun x9 => nI (qt x9))))]) s.heap.size = A at hD ⊢
  have hAA : ∀ q : Nat, s.heap.size ≤ q → A q := fun q h => by rw [← hAe]; exact Or.inr h
  have hS : va_S A s.heap s.heap [] := va_S.rf
  have hl := lv_entry ([.ref x0, .int (nI k)]) (n := 2) (Nat.le_of_ble_eq_true rfl)
  rw [lg_entry_eq]
  generalize (lg_sl ([.ref x0, .int (nI k)]) ++ List.replicate (2 - (lg_sl ([.ref x0, .int (nI k)])).length) Slot.unset).toArray = ls at hl ⊢
  have hl : lv_has ls 2 [(0, .ref x0), (1, .int (nI k))] := hl
  refine lv_iload_n F.1 F.2.1 dM_publics_0 rfl (lv_at hl 1 rfl) ?_
  refine z_bipush (v := 7) F (by decide) dM_publics_1 ?_
  refine z_call (z_runS [.int (nI k), .int (nI 7)] [] F (c_isBelow_t l (k) 7 (by omega) (by decide)) kk_M_isBelow wl_M_56 rfl rfl ⟨Nat.le_of_ble_eq_true rfl, Nat.le_of_ble_eq_true rfl⟩ z_preN rfl hl.1 rfl (Nat.le_of_ble_eq_true rfl) dM_publics_3 ⟨Nat.zero_le _, Nat.zero_le _⟩) ?_
  refine z_if_ne F (by omega) (tgt := 17) dM_publics_6 rfl (fun h => ?_) (fun h => absurd h (by decide))
  refine lv_aload_n F.1 F.2.1 dM_publics_17 rfl (lv_at hl 0 rfl) ?_
  refine lv_iload_n F.1 F.2.1 dM_publics_18 rfl (lv_at hl 1 rfl) ?_
  refine z_put F hK hP hD hS hinM tyM tyM_ok nmM 0 rfl rfl 6 (by decide) rfl rfl wf_M_85 (rfl) (rfl) (Nat.le_of_ble_eq_true rfl) dM_publics_19 (fun H locs hP hD hS => ?_)
  have hP : va_P (dC, dI) vwCl ([(x0, .inr (4, [.ref xC, .ref xD, .ref xK, .ref xQ, .ref xV, .ref xI, .int (nI k), .ref xL, .ref xR, .ref xS, .ref xT])), (xC, .inr (0, [.ref xA, .int (nI cn)])), (xD, .inr (1, [.ref xB, .int (nI (szN cn)), .int (nI (iv (szN cn)))])), (xK, .inr (2, [.ref xW, .ref xX, .int (z_b md), .int (nI ta), .int (nI al), .int (nI be), .int (nI ga), .int (nI de), .int (nI va)])), (xQ, .inr (3, [.ref xE, .ref xF, .int (z_b pd)])), (xV, .inl (cI, 16, .inl (fun x9 => nI (v x9)))), (xI, .inl (cI, 7, .inl (fun x9 => nI (inp x9)))), (xL, .inl (cI, 16, .inl (fun x9 => nI (sL x9)))), (xR, .inl (cI, 16, .inl (fun x9 => nI (sR x9)))), (xS, .inl (cI, 16, .inl (fun x9 => nI (sS x9)))), (xT, .inl (cI, 16, .inl (fun x9 => nI (sT x9)))), (xA, .inl (cI, 816, .inl (fun x9 => nI (f x9)))), (xB, .inl (cI, 16, .inl (fun x9 => nI (bb x9)))), (xW, .inl (cI, 16, .inl (fun x9 => nI (w x9)))), (xX, .inl (cI, 16, .inl (fun x9 => nI (mx x9)))), (xE, .inl (cI, 3, .inl (fun x9 => nI (el x9)))), (xF, .inl (cI, 16, .inl (fun x9 => nI (qt x9))))]) H := hP
  have hD : va_D A ([(x0, .inr (4, [.ref xC, .ref xD, .ref xK, .ref xQ, .ref xV, .ref xI, .int (nI k), .ref xL, .ref xR, .ref xS, .ref xT])), (xC, .inr (0, [.ref xA, .int (nI cn)])), (xD, .inr (1, [.ref xB, .int (nI (szN cn)), .int (nI (iv (szN cn)))])), (xK, .inr (2, [.ref xW, .ref xX, .int (z_b md), .int (nI ta), .int (nI al), .int (nI be), .int (nI ga), .int (nI de), .int (nI va)])), (xQ, .inr (3, [.ref xE, .ref xF, .int (z_b pd)])), (xV, .inl (cI, 16, .inl (fun x9 => nI (v x9)))), (xI, .inl (cI, 7, .inl (fun x9 => nI (inp x9)))), (xL, .inl (cI, 16, .inl (fun x9 => nI (sL x9)))), (xR, .inl (cI, 16, .inl (fun x9 => nI (sR x9)))), (xS, .inl (cI, 16, .inl (fun x9 => nI (sS x9)))), (xT, .inl (cI, 16, .inl (fun x9 => nI (sT x9)))), (xA, .inl (cI, 816, .inl (fun x9 => nI (f x9)))), (xB, .inl (cI, 16, .inl (fun x9 => nI (bb x9)))), (xW, .inl (cI, 16, .inl (fun x9 => nI (w x9)))), (xX, .inl (cI, 16, .inl (fun x9 => nI (mx x9)))), (xE, .inl (cI, 3, .inl (fun x9 => nI (el x9)))), (xF, .inl (cI, 16, .inl (fun x9 => nI (qt x9))))]) := hD
  refine lv_aload_n F.1 F.2.1 dM_publics_22 rfl (lv_at hl 0 rfl) ?_
  refine z_get F hK hP hinM 0 rfl rfl 2 (by decide) rfl wf_M_26 rfl dM_publics_23 ?_
  have hPc := hP.sub (ws' := [(xK, .inr (2, [.ref xW, .ref xX, .int (z_b md), .int (nI ta), .int (nI al), .int (nI be), .int (nI ga), .int (nI de), .int (nI va)])), (x0, .inr (4, [.ref xC, .ref xD, .ref xK, .ref xQ, .ref xV, .ref xI, .int (nI k), .ref xL, .ref xR, .ref xS, .ref xT])), (xC, .inr (0, [.ref xA, .int (nI cn)])), (xD, .inr (1, [.ref xB, .int (nI (szN cn)), .int (nI (iv (szN cn)))])), (xQ, .inr (3, [.ref xE, .ref xF, .int (z_b pd)])), (xV, .inl (cI, 16, .inl (fun x9 => nI (v x9)))), (xI, .inl (cI, 7, .inl (fun x9 => nI (inp x9)))), (xL, .inl (cI, 16, .inl (fun x9 => nI (sL x9)))), (xR, .inl (cI, 16, .inl (fun x9 => nI (sR x9)))), (xS, .inl (cI, 16, .inl (fun x9 => nI (sS x9)))), (xT, .inl (cI, 16, .inl (fun x9 => nI (sT x9)))), (xA, .inl (cI, 816, .inl (fun x9 => nI (f x9)))), (xB, .inl (cI, 16, .inl (fun x9 => nI (bb x9)))), (xW, .inl (cI, 16, .inl (fun x9 => nI (w x9)))), (xX, .inl (cI, 16, .inl (fun x9 => nI (mx x9)))), (xE, .inl (cI, 3, .inl (fun x9 => nI (el x9)))), (xF, .inl (cI, 16, .inl (fun x9 => nI (qt x9))))]) [3, 0, 1, 2, 4, 5, 6, 7, 8, 9, 10, 11, 12, 13, 14, 15, 16] rfl
  have hDc := hD.sub (ws' := [(xK, .inr (2, [.ref xW, .ref xX, .int (z_b md), .int (nI ta), .int (nI al), .int (nI be), .int (nI ga), .int (nI de), .int (nI va)])), (x0, .inr (4, [.ref xC, .ref xD, .ref xK, .ref xQ, .ref xV, .ref xI, .int (nI k), .ref xL, .ref xR, .ref xS, .ref xT])), (xC, .inr (0, [.ref xA, .int (nI cn)])), (xD, .inr (1, [.ref xB, .int (nI (szN cn)), .int (nI (iv (szN cn)))])), (xQ, .inr (3, [.ref xE, .ref xF, .int (z_b pd)])), (xV, .inl (cI, 16, .inl (fun x9 => nI (v x9)))), (xI, .inl (cI, 7, .inl (fun x9 => nI (inp x9)))), (xL, .inl (cI, 16, .inl (fun x9 => nI (sL x9)))), (xR, .inl (cI, 16, .inl (fun x9 => nI (sR x9)))), (xS, .inl (cI, 16, .inl (fun x9 => nI (sS x9)))), (xT, .inl (cI, 16, .inl (fun x9 => nI (sT x9)))), (xA, .inl (cI, 816, .inl (fun x9 => nI (f x9)))), (xB, .inl (cI, 16, .inl (fun x9 => nI (bb x9)))), (xW, .inl (cI, 16, .inl (fun x9 => nI (w x9)))), (xX, .inl (cI, 16, .inl (fun x9 => nI (mx x9)))), (xE, .inl (cI, 3, .inl (fun x9 => nI (el x9)))), (xF, .inl (cI, 16, .inl (fun x9 => nI (qt x9))))]) [3, 0, 1, 2, 4, 5, 6, 7, 8, 9, 10, 11, 12, 13, 14, 15, 16] (by decide) rfl
  refine z_callW (z_runV [] [] F (ck_drop l dC dI cI cL [(x0, .inr (4, [.ref xC, .ref xD, .ref xK, .ref xQ, .ref xV, .ref xI, .int (nI k), .ref xL, .ref xR, .ref xS, .ref xT])), (xC, .inr (0, [.ref xA, .int (nI cn)])), (xD, .inr (1, [.ref xB, .int (nI (szN cn)), .int (nI (iv (szN cn)))])), (xQ, .inr (3, [.ref xE, .ref xF, .int (z_b pd)])), (xV, .inl (cI, 16, .inl (fun x9 => nI (v x9)))), (xI, .inl (cI, 7, .inl (fun x9 => nI (inp x9)))), (xL, .inl (cI, 16, .inl (fun x9 => nI (sL x9)))), (xR, .inl (cI, 16, .inl (fun x9 => nI (sR x9)))), (xS, .inl (cI, 16, .inl (fun x9 => nI (sS x9)))), (xT, .inl (cI, 16, .inl (fun x9 => nI (sT x9)))), (xA, .inl (cI, 816, .inl (fun x9 => nI (f x9)))), (xB, .inl (cI, 16, .inl (fun x9 => nI (bb x9)))), (xW, .inl (cI, 16, .inl (fun x9 => nI (w x9)))), (xX, .inl (cI, 16, .inl (fun x9 => nI (mx x9)))), (xE, .inl (cI, 3, .inl (fun x9 => nI (el x9)))), (xF, .inl (cI, 16, .inl (fun x9 => nI (qt x9))))] H.size xK xW xX ta al be ga de va md) kk_K_drop wl_M_82 rfl rfl ⟨Nat.le_of_ble_eq_true rfl, Nat.le_of_ble_eq_true rfl⟩ (z_preVP (q := (RK, TK, 9)) hPc hK hDc rfl (q0 := 0) rfl) rfl hl.1 rfl (Nat.le_of_ble_eq_true rfl) dM_publics_26 ⟨Nat.zero_le _, Nat.zero_le _⟩) hDc hS hAA (fun H locs hP hD hS => ?_)
  have hP : va_P (dC, dI) vwCl [(x0, .inr (4, [.ref xC, .ref xD, .ref xK, .ref xQ, .ref xV, .ref xI, .int (nI k), .ref xL, .ref xR, .ref xS, .ref xT])), (xC, .inr (0, [.ref xA, .int (nI cn)])), (xD, .inr (1, [.ref xB, .int (nI (szN cn)), .int (nI (iv (szN cn)))])), (xK, .inr (2, [.ref xW, .ref xX, .int (z_b false), .int (nI ta), .int (nI al), .int (nI be), .int (nI ga), .int (nI de), .int (nI va)])), (xQ, .inr (3, [.ref xE, .ref xF, .int (z_b pd)])), (xV, .inl (cI, 16, .inl (fun x9 => nI (v x9)))), (xI, .inl (cI, 7, .inl (fun x9 => nI (inp x9)))), (xL, .inl (cI, 16, .inl (fun x9 => nI (sL x9)))), (xR, .inl (cI, 16, .inl (fun x9 => nI (sR x9)))), (xS, .inl (cI, 16, .inl (fun x9 => nI (sS x9)))), (xT, .inl (cI, 16, .inl (fun x9 => nI (sT x9)))), (xA, .inl (cI, 816, .inl (fun x9 => nI (f x9)))), (xB, .inl (cI, 16, .inl (fun x9 => nI (bb x9)))), (xW, .inl (cI, 16, .inl (fun x9 => nI (w x9)))), (xX, .inl (cI, 16, .inl (fun x9 => nI (mx x9)))), (xE, .inl (cI, 3, .inl (fun x9 => nI (el x9)))), (xF, .inl (cI, 16, .inl (fun x9 => nI (qt x9))))] H := hP.sub [1, 2, 3, 0, 4, 5, 6, 7, 8, 9, 10, 11, 12, 13, 14, 15, 16] rfl
  have hD : va_D A [(x0, .inr (4, [.ref xC, .ref xD, .ref xK, .ref xQ, .ref xV, .ref xI, .int (nI k), .ref xL, .ref xR, .ref xS, .ref xT])), (xC, .inr (0, [.ref xA, .int (nI cn)])), (xD, .inr (1, [.ref xB, .int (nI (szN cn)), .int (nI (iv (szN cn)))])), (xK, .inr (2, [.ref xW, .ref xX, .int (z_b false), .int (nI ta), .int (nI al), .int (nI be), .int (nI ga), .int (nI de), .int (nI va)])), (xQ, .inr (3, [.ref xE, .ref xF, .int (z_b pd)])), (xV, .inl (cI, 16, .inl (fun x9 => nI (v x9)))), (xI, .inl (cI, 7, .inl (fun x9 => nI (inp x9)))), (xL, .inl (cI, 16, .inl (fun x9 => nI (sL x9)))), (xR, .inl (cI, 16, .inl (fun x9 => nI (sR x9)))), (xS, .inl (cI, 16, .inl (fun x9 => nI (sS x9)))), (xT, .inl (cI, 16, .inl (fun x9 => nI (sT x9)))), (xA, .inl (cI, 816, .inl (fun x9 => nI (f x9)))), (xB, .inl (cI, 16, .inl (fun x9 => nI (bb x9)))), (xW, .inl (cI, 16, .inl (fun x9 => nI (w x9)))), (xX, .inl (cI, 16, .inl (fun x9 => nI (mx x9)))), (xE, .inl (cI, 3, .inl (fun x9 => nI (el x9)))), (xF, .inl (cI, 16, .inl (fun x9 => nI (qt x9))))] := hD.sub [1, 2, 3, 0, 4, 5, 6, 7, 8, 9, 10, 11, 12, 13, 14, 15, 16] (by decide) rfl
  refine z_iconst (v := 1) F (by decide) dM_publics_29 ?_
  refine z_topV (z_b true) (by decide) ?_
  exact W.zret F.1 F.2.1 hr rfl (fun t ht hW => ⟨rfl, by rw [ht]; exact hP, va_K.moved hW.alike hK, hD, hS.F ht⟩) hS.2.2 dM_publics_30
set_option maxHeartbeats 4000000 in
set_option maxRecDepth 100000 in
theorem cm_value (l : Launch) (dC : Nat → ClassId) (dI : Nat → Nat → Nat) (cI cL : ClassId) (zz : Nat) (x0 xC xD xK xQ xV xI xL xR xS xT xA xB xW xX xE xF : Nat) (pb cn ta al be ga de va : Nat) (md pd : Bool) (v inp sL sR sS sT f bb w mx el qt : Nat → Nat) (k y : Nat) (h0 : 0 < k) (hk : k < 16) (hy : y < 998244353) : Met l yM_value (zW yM_value cM_value 3 (.some .boolean)) ({ frames := 1, cells := 0, slots := 0, locals := 21 }) (va_Pc [.ref x0, .int (nI k), .int (nI y)] (z_P (dC, dI) vwCl [(cI, .int), (cL, .long)] zz ([(x0, .inr (4, [.ref xC, .ref xD, .ref xK, .ref xQ, .ref xV, .ref xI, .int (nI pb), .ref xL, .ref xR, .ref xS, .ref xT])), (xC, .inr (0, [.ref xA, .int (nI cn)])), (xD, .inr (1, [.ref xB, .int (nI (szN cn)), .int (nI (iv (szN cn)))])), (xK, .inr (2, [.ref xW, .ref xX, .int (z_b md), .int (nI ta), .int (nI al), .int (nI be), .int (nI ga), .int (nI de), .int (nI va)])), (xQ, .inr (3, [.ref xE, .ref xF, .int (z_b pd)])), (xV, .inl (cI, 16, .inl (fun x9 => nI (v x9)))), (xI, .inl (cI, 7, .inl (fun x9 => nI (inp x9)))), (xL, .inl (cI, 16, .inl (fun x9 => nI (sL x9)))), (xR, .inl (cI, 16, .inl (fun x9 => nI (sR x9)))), (xS, .inl (cI, 16, .inl (fun x9 => nI (sS x9)))), (xT, .inl (cI, 16, .inl (fun x9 => nI (sT x9)))), (xA, .inl (cI, 816, .inl (fun x9 => nI (f x9)))), (xB, .inl (cI, 16, .inl (fun x9 => nI (bb x9)))), (xW, .inl (cI, 16, .inl (fun x9 => nI (w x9)))), (xX, .inl (cI, 16, .inl (fun x9 => nI (mx x9)))), (xE, .inl (cI, 3, .inl (fun x9 => nI (el x9)))), (xF, .inl (cI, 16, .inl (fun x9 => nI (qt x9))))]))) (z_Q (dC, dI) vwCl [(cI, .int), (cL, .long)] (some (.int (z_b true))) ([(x0, .inr (4, [.ref xC, .ref xD, .ref xK, .ref xQ, .ref xV, .ref xI, .int (nI pb), .ref xL, .ref xR, .ref xS, .ref xT])), (xC, .inr (0, [.ref xA, .int (nI cn)])), (xD, .inr (1, [.ref xB, .int (nI (szN cn)), .int (nI (iv (szN cn)))])), (xK, .inr (2, [.ref xW, .ref xX, .int (z_b md), .int (nI ta), .int (nI al), .int (nI be), .int (nI ga), .int (nI de), .int (nI va)])), (xQ, .inr (3, [.ref xE, .ref xF, .int (z_b pd)])), (xV, .inl (cI, 16, .inl (fun x9 => nI ((va_up v k y) x9)))), (xI, .inl (cI, 7, .inl (fun x9 => nI (inp x9)))), (xL, .inl (cI, 16, .inl (fun x9 => nI (sL x9)))), (xR, .inl (cI, 16, .inl (fun x9 => nI (sR x9)))), (xS, .inl (cI, 16, .inl (fun x9 => nI (sS x9)))), (xT, .inl (cI, 16, .inl (fun x9 => nI (sT x9)))), (xA, .inl (cI, 816, .inl (fun x9 => nI (f x9)))), (xB, .inl (cI, 16, .inl (fun x9 => nI (bb x9)))), (xW, .inl (cI, 16, .inl (fun x9 => nI (w x9)))), (xX, .inl (cI, 16, .inl (fun x9 => nI (mx x9)))), (xE, .inl (cI, 3, .inl (fun x9 => nI (el x9)))), (xF, .inl (cI, 16, .inl (fun x9 => nI (qt x9))))]) (va_A ([(x0, .inr (4, [.ref xC, .ref xD, .ref xK, .ref xQ, .ref xV, .ref xI, .int (nI pb), .ref xL, .ref xR, .ref xS, .ref xT])), (xC, .inr (0, [.ref xA, .int (nI cn)])), (xD, .inr (1, [.ref xB, .int (nI (szN cn)), .int (nI (iv (szN cn)))])), (xK, .inr (2, [.ref xW, .ref xX, .int (z_b md), .int (nI ta), .int (nI al), .int (nI be), .int (nI ga), .int (nI de), .int (nI va)])), (xQ, .inr (3, [.ref xE, .ref xF, .int (z_b pd)])), (xV, .inl (cI, 16, .inl (fun x9 => nI (v x9)))), (xI, .inl (cI, 7, .inl (fun x9 => nI (inp x9)))), (xL, .inl (cI, 16, .inl (fun x9 => nI (sL x9)))), (xR, .inl (cI, 16, .inl (fun x9 => nI (sR x9)))), (xS, .inl (cI, 16, .inl (fun x9 => nI (sS x9)))), (xT, .inl (cI, 16, .inl (fun x9 => nI (sT x9)))), (xA, .inl (cI, 816, .inl (fun x9 => nI (f x9)))), (xB, .inl (cI, 16, .inl (fun x9 => nI (bb x9)))), (xW, .inl (cI, 16, .inl (fun x9 => nI (w x9)))), (xX, .inl (cI, 16, .inl (fun x9 => nI (mx x9)))), (xE, .inl (cI, 3, .inl (fun x9 => nI (el x9)))), (xF, .inl (cI, 16, .inl (fun x9 => nI (qt x9))))]) zz)) 0 0 (va_A ([(x0, .inr (4, [.ref xC, .ref xD, .ref xK, .ref xQ, .ref xV, .ref xI, .int (nI pb), .ref xL, .ref xR, .ref xS, .ref xT])), (xC, .inr (0, [.ref xA, .int (nI cn)])), (xD, .inr (1, [.ref xB, .int (nI (szN cn)), .int (nI (iv (szN cn)))])), (xK, .inr (2, [.ref xW, .ref xX, .int (z_b md), .int (nI ta), .int (nI al), .int (nI be), .int (nI ga), .int (nI de), .int (nI va)])), (xQ, .inr (3, [.ref xE, .ref xF, .int (z_b pd)])), (xV, .inl (cI, 16, .inl (fun x9 => nI (v x9)))), (xI, .inl (cI, 7, .inl (fun x9 => nI (inp x9)))), (xL, .inl (cI, 16, .inl (fun x9 => nI (sL x9)))), (xR, .inl (cI, 16, .inl (fun x9 => nI (sR x9)))), (xS, .inl (cI, 16, .inl (fun x9 => nI (sS x9)))), (xT, .inl (cI, 16, .inl (fun x9 => nI (sT x9)))), (xA, .inl (cI, 816, .inl (fun x9 => nI (f x9)))), (xB, .inl (cI, 16, .inl (fun x9 => nI (bb x9)))), (xW, .inl (cI, 16, .inl (fun x9 => nI (w x9)))), (xX, .inl (cI, 16, .inl (fun x9 => nI (mx x9)))), (xE, .inl (cI, 3, .inl (fun x9 => nI (el x9)))), (xF, .inl (cI, 16, .inl (fun x9 => nI (qt x9))))]) zz) := by
  refine Met.ofW (cc := cM_value) (maxL := 3) (ret := (.some .boolean)) (by decide) rfl ?_
  intro p e s m args below meth c s₁ B hml hv
  obtain ⟨rfl, hsz, hP, hK, hD0⟩ := hv
  have F : CallFix p m c cM_value 3 s _ zT RM := ⟨B.exec, B.bytes, hml, findClass_of_methodNamed B.named, fun w h => atoms_spec (ws := (zW yM_value cM_value 3 (.some .boolean))) B.pre w (List.mem_cons_of_mem _ h)⟩
  have hr := B.returns
  have hlocks := B.notSynchronized
  subst hsz
  have hD := hD0.self (sz := s.heap.size)
  generalize hAe : va_A ([(x0, .inr (4, [.ref xC, .ref xD, .ref xK, .ref xQ, .ref xV, .ref xI, .int (nI pb), .ref xL, .ref xR, .ref xS, .ref xT])), (xC, .inr (0, [.ref xA, .int (nI cn)])), (xD, .inr (1, [.ref xB, .int (nI (szN cn)), .int (nI (iv (szN cn)))])), (xK, .inr (2, [.ref xW, .ref xX, .int (z_b md), .int (nI ta), .int (nI al), .int (nI be), .int (nI ga), .int (nI de), .int (nI va)])), (xQ, .inr (3, [.ref xE, .ref xF, .int (z_b pd)])), (xV, .inl (cI, 16, .inl (fun x9 => nI (v x9)))), (xI, .inl (cI, 7, .inl (fun x9 => nI (inp x9)))), (xL, .inl (cI, 16, .inl (fun x9 => nI (sL x9)))), (xR, .inl (cI, 16, .inl (fun x9 => nI (sR x9)))), (xS, .inl (cI, 16, .inl (fun x9 => nI (sS x9)))), (xT, .inl (cI, 16, .inl (fun x9 => nI (sT x9)))), (xA, .inl (cI, 816, .inl (fun x9 => nI (f x9)))), (xB, .inl (cI, 16, .inl (fun x9 => nI (bb x9)))), (xW, .inl (cI, 16, .inl (fun x9 => nI (w x9)))), (xX, .inl (cI, 16, .inl (fun x9 => nI (mx x9)))), (xE, .inl (cI, 3, .inl (fun x9 => nI (el x9)))), (xF, .inl (cI, 16, .inl (fun x9 => nI (qt x9))))]) s.heap.size = A at hD ⊢
  have hAA : ∀ q : Nat, s.heap.size ≤ q → A q := fun q h => by rw [← hAe]; exact Or.inr h
  have hS : va_S A s.heap s.heap [] := va_S.rf
  have hl := lv_entry ([.ref x0, .int (nI k), .int (nI y)]) (n := 3) (Nat.le_of_ble_eq_true rfl)
  rw [lg_entry_eq]
  generalize (lg_sl ([.ref x0, .int (nI k), .int (nI y)]) ++ List.replicate (3 - (lg_sl ([.ref x0, .int (nI k), .int (nI y)])).length) Slot.unset).toArray = ls at hl ⊢
  have hl : lv_has ls 3 [(0, .ref x0), (1, .int (nI k)), (2, .int (nI y))] := hl
  refine lv_iload_n F.1 F.2.1 dM_value_0 rfl (lv_at hl 1 rfl) ?_
  refine z_if_eq F (by omega) (tgt := 22) dM_value_1 rfl (fun h => absurd h (by omega)) (fun h => ?_)
  refine lv_iload_n F.1 F.2.1 dM_value_4 rfl (lv_at hl 1 rfl) ?_
  refine z_bipush (v := 16) F (by decide) dM_value_5 ?_
  refine z_call (z_runS [.int (nI k), .int (nI 16)] [] F (c_isBelow_t l (k) 16 (by omega) (by decide)) kk_M_isBelow wl_M_56 rfl rfl ⟨Nat.le_of_ble_eq_true rfl, Nat.le_of_ble_eq_true rfl⟩ z_preN rfl hl.1 rfl (Nat.le_of_ble_eq_true rfl) dM_value_7 ⟨Nat.zero_le _, Nat.zero_le _⟩) ?_
  refine z_if_eq F (by omega) (tgt := 22) dM_value_10 rfl (fun h => absurd h (by decide)) (fun h => ?_)
  refine lv_iload_n F.1 F.2.1 dM_value_13 rfl (lv_at hl 2 rfl) ?_
  refine z_ldc F 998244353 (v0 := 998244353) wk_M_60 rfl dM_value_14 ?_
  refine z_call (z_runS [.int (nI y), .int (nI 998244353)] [] F (c_isBelow_t l (y) 998244353 (by omega) (by decide)) kk_M_isBelow wl_M_56 rfl rfl ⟨Nat.le_of_ble_eq_true rfl, Nat.le_of_ble_eq_true rfl⟩ z_preN rfl hl.1 rfl (Nat.le_of_ble_eq_true rfl) dM_value_16 ⟨Nat.zero_le _, Nat.zero_le _⟩) ?_
  refine z_if_ne F (by omega) (tgt := 30) dM_value_19 rfl (fun h => ?_) (fun h => absurd h (by decide))
  refine lv_aload_n F.1 F.2.1 dM_value_30 rfl (lv_at hl 0 rfl) ?_
  refine z_get F hK hP hinM 0 rfl rfl 4 (by decide) rfl wf_M_37 rfl dM_value_31 ?_
  refine lv_iload_n F.1 F.2.1 dM_value_34 rfl (lv_at hl 1 rfl) ?_
  refine lv_iload_n F.1 F.2.1 dM_value_35 rfl (lv_at hl 2 rfl) ?_
  refine z_iast F hK hP hD hS 5 0 rfl rfl (by omega) (by decide) dM_value_36 (fun H locs hP hD hS => ?_)
  have hP : va_P (dC, dI) vwCl ([(x0, .inr (4, [.ref xC, .ref xD, .ref xK, .ref xQ, .ref xV, .ref xI, .int (nI pb), .ref xL, .ref xR, .ref xS, .ref xT])), (xC, .inr (0, [.ref xA, .int (nI cn)])), (xD, .inr (1, [.ref xB, .int (nI (szN cn)), .int (nI (iv (szN cn)))])), (xK, .inr (2, [.ref xW, .ref xX, .int (z_b md), .int (nI ta), .int (nI al), .int (nI be), .int (nI ga), .int (nI de), .int (nI va)])), (xQ, .inr (3, [.ref xE, .ref xF, .int (z_b pd)])), (xV, .inl (cI, 16, .inl (fun x9 => nI ((va_up v k y) x9)))), (xI, .inl (cI, 7, .inl (fun x9 => nI (inp x9)))), (xL, .inl (cI, 16, .inl (fun x9 => nI (sL x9)))), (xR, .inl (cI, 16, .inl (fun x9 => nI (sR x9)))), (xS, .inl (cI, 16, .inl (fun x9 => nI (sS x9)))), (xT, .inl (cI, 16, .inl (fun x9 => nI (sT x9)))), (xA, .inl (cI, 816, .inl (fun x9 => nI (f x9)))), (xB, .inl (cI, 16, .inl (fun x9 => nI (bb x9)))), (xW, .inl (cI, 16, .inl (fun x9 => nI (w x9)))), (xX, .inl (cI, 16, .inl (fun x9 => nI (mx x9)))), (xE, .inl (cI, 3, .inl (fun x9 => nI (el x9)))), (xF, .inl (cI, 16, .inl (fun x9 => nI (qt x9))))]) H := hP
  have hD : va_D A ([(x0, .inr (4, [.ref xC, .ref xD, .ref xK, .ref xQ, .ref xV, .ref xI, .int (nI pb), .ref xL, .ref xR, .ref xS, .ref xT])), (xC, .inr (0, [.ref xA, .int (nI cn)])), (xD, .inr (1, [.ref xB, .int (nI (szN cn)), .int (nI (iv (szN cn)))])), (xK, .inr (2, [.ref xW, .ref xX, .int (z_b md), .int (nI ta), .int (nI al), .int (nI be), .int (nI ga), .int (nI de), .int (nI va)])), (xQ, .inr (3, [.ref xE, .ref xF, .int (z_b pd)])), (xV, .inl (cI, 16, .inl (fun x9 => nI ((va_up v k y) x9)))), (xI, .inl (cI, 7, .inl (fun x9 => nI (inp x9)))), (xL, .inl (cI, 16, .inl (fun x9 => nI (sL x9)))), (xR, .inl (cI, 16, .inl (fun x9 => nI (sR x9)))), (xS, .inl (cI, 16, .inl (fun x9 => nI (sS x9)))), (xT, .inl (cI, 16, .inl (fun x9 => nI (sT x9)))), (xA, .inl (cI, 816, .inl (fun x9 => nI (f x9)))), (xB, .inl (cI, 16, .inl (fun x9 => nI (bb x9)))), (xW, .inl (cI, 16, .inl (fun x9 => nI (w x9)))), (xX, .inl (cI, 16, .inl (fun x9 => nI (mx x9)))), (xE, .inl (cI, 3, .inl (fun x9 => nI (el x9)))), (xF, .inl (cI, 16, .inl (fun x9 => nI (qt x9))))]) := hD
  refine z_iconst (v := 1) F (by decide) dM_value_37 ?_
  refine z_topV (z_b true) (by decide) ?_
  exact W.zret F.1 F.2.1 hr rfl (fun t ht hW => ⟨rfl, by rw [ht]; exact hP, va_K.moved hW.alike hK, hD, hS.F ht⟩) hS.2.2 dM_value_38
set_option maxHeartbeats 4000000 in
set_option maxRecDepth 100000 in
theorem cm_input (l : Launch) (dC : Nat → ClassId) (dI : Nat → Nat → Nat) (cI cL : ClassId) (zz : Nat) (x0 xC xD xK xQ xV xI xL xR xS xT xA xB xW xX xE xF : Nat) (pb cn ta al be ga de va : Nat) (md pd : Bool) (v inp sL sR sS sT f bb w mx el qt : Nat → Nat) (k y : Nat) (h0 : 0 < k) (hk : k < 7) (hy : y < 998244353) : Met l yM_input (zW yM_input cM_input 3 (.some .boolean)) ({ frames := 1, cells := 0, slots := 0, locals := 21 }) (va_Pc [.ref x0, .int (nI k), .int (nI y)] (z_P (dC, dI) vwCl [(cI, .int), (cL, .long)] zz ([(x0, .inr (4, [.ref xC, .ref xD, .ref xK, .ref xQ, .ref xV, .ref xI, .int (nI pb), .ref xL, .ref xR, .ref xS, .ref xT])), (xC, .inr (0, [.ref xA, .int (nI cn)])), (xD, .inr (1, [.ref xB, .int (nI (szN cn)), .int (nI (iv (szN cn)))])), (xK, .inr (2, [.ref xW, .ref xX, .int (z_b md), .int (nI ta), .int (nI al), .int (nI be), .int (nI ga), .int (nI de), .int (nI va)])), (xQ, .inr (3, [.ref xE, .ref xF, .int (z_b pd)])), (xV, .inl (cI, 16, .inl (fun x9 => nI (v x9)))), (xI, .inl (cI, 7, .inl (fun x9 => nI (inp x9)))), (xL, .inl (cI, 16, .inl (fun x9 => nI (sL x9)))), (xR, .inl (cI, 16, .inl (fun x9 => nI (sR x9)))), (xS, .inl (cI, 16, .inl (fun x9 => nI (sS x9)))), (xT, .inl (cI, 16, .inl (fun x9 => nI (sT x9)))), (xA, .inl (cI, 816, .inl (fun x9 => nI (f x9)))), (xB, .inl (cI, 16, .inl (fun x9 => nI (bb x9)))), (xW, .inl (cI, 16, .inl (fun x9 => nI (w x9)))), (xX, .inl (cI, 16, .inl (fun x9 => nI (mx x9)))), (xE, .inl (cI, 3, .inl (fun x9 => nI (el x9)))), (xF, .inl (cI, 16, .inl (fun x9 => nI (qt x9))))]))) (z_Q (dC, dI) vwCl [(cI, .int), (cL, .long)] (some (.int (z_b true))) ([(x0, .inr (4, [.ref xC, .ref xD, .ref xK, .ref xQ, .ref xV, .ref xI, .int (nI pb), .ref xL, .ref xR, .ref xS, .ref xT])), (xC, .inr (0, [.ref xA, .int (nI cn)])), (xD, .inr (1, [.ref xB, .int (nI (szN cn)), .int (nI (iv (szN cn)))])), (xK, .inr (2, [.ref xW, .ref xX, .int (z_b md), .int (nI ta), .int (nI al), .int (nI be), .int (nI ga), .int (nI de), .int (nI va)])), (xQ, .inr (3, [.ref xE, .ref xF, .int (z_b pd)])), (xV, .inl (cI, 16, .inl (fun x9 => nI (v x9)))), (xI, .inl (cI, 7, .inl (fun x9 => nI ((va_up inp k y) x9)))), (xL, .inl (cI, 16, .inl (fun x9 => nI (sL x9)))), (xR, .inl (cI, 16, .inl (fun x9 => nI (sR x9)))), (xS, .inl (cI, 16, .inl (fun x9 => nI (sS x9)))), (xT, .inl (cI, 16, .inl (fun x9 => nI (sT x9)))), (xA, .inl (cI, 816, .inl (fun x9 => nI (f x9)))), (xB, .inl (cI, 16, .inl (fun x9 => nI (bb x9)))), (xW, .inl (cI, 16, .inl (fun x9 => nI (w x9)))), (xX, .inl (cI, 16, .inl (fun x9 => nI (mx x9)))), (xE, .inl (cI, 3, .inl (fun x9 => nI (el x9)))), (xF, .inl (cI, 16, .inl (fun x9 => nI (qt x9))))]) (va_A ([(x0, .inr (4, [.ref xC, .ref xD, .ref xK, .ref xQ, .ref xV, .ref xI, .int (nI pb), .ref xL, .ref xR, .ref xS, .ref xT])), (xC, .inr (0, [.ref xA, .int (nI cn)])), (xD, .inr (1, [.ref xB, .int (nI (szN cn)), .int (nI (iv (szN cn)))])), (xK, .inr (2, [.ref xW, .ref xX, .int (z_b md), .int (nI ta), .int (nI al), .int (nI be), .int (nI ga), .int (nI de), .int (nI va)])), (xQ, .inr (3, [.ref xE, .ref xF, .int (z_b pd)])), (xV, .inl (cI, 16, .inl (fun x9 => nI (v x9)))), (xI, .inl (cI, 7, .inl (fun x9 => nI (inp x9)))), (xL, .inl (cI, 16, .inl (fun x9 => nI (sL x9)))), (xR, .inl (cI, 16, .inl (fun x9 => nI (sR x9)))), (xS, .inl (cI, 16, .inl (fun x9 => nI (sS x9)))), (xT, .inl (cI, 16, .inl (fun x9 => nI (sT x9)))), (xA, .inl (cI, 816, .inl (fun x9 => nI (f x9)))), (xB, .inl (cI, 16, .inl (fun x9 => nI (bb x9)))), (xW, .inl (cI, 16, .inl (fun x9 => nI (w x9)))), (xX, .inl (cI, 16, .inl (fun x9 => nI (mx x9)))), (xE, .inl (cI, 3, .inl (fun x9 => nI (el x9)))), (xF, .inl (cI, 16, .inl (fun x9 => nI (qt x9))))]) zz)) 0 0 (va_A ([(x0, .inr (4, [.ref xC, .ref xD, .ref xK, .ref xQ, .ref xV, .ref xI, .int (nI pb), .ref xL, .ref xR, .ref xS, .ref xT])), (xC, .inr (0, [.ref xA, .int (nI cn)])), (xD, .inr (1, [.ref xB, .int (nI (szN cn)), .int (nI (iv (szN cn)))])), (xK, .inr (2, [.ref xW, .ref xX, .int (z_b md), .int (nI ta), .int (nI al), .int (nI be), .int (nI ga), .int (nI de), .int (nI va)])), (xQ, .inr (3, [.ref xE, .ref xF, .int (z_b pd)])), (xV, .inl (cI, 16, .inl (fun x9 => nI (v x9)))), (xI, .inl (cI, 7, .inl (fun x9 => nI (inp x9)))), (xL, .inl (cI, 16, .inl (fun x9 => nI (sL x9)))), (xR, .inl (cI, 16, .inl (fun x9 => nI (sR x9)))), (xS, .inl (cI, 16, .inl (fun x9 => nI (sS x9)))), (xT, .inl (cI, 16, .inl (fun x9 => nI (sT x9)))), (xA, .inl (cI, 816, .inl (fun x9 => nI (f x9)))), (xB, .inl (cI, 16, .inl (fun x9 => nI (bb x9)))), (xW, .inl (cI, 16, .inl (fun x9 => nI (w x9)))), (xX, .inl (cI, 16, .inl (fun x9 => nI (mx x9)))), (xE, .inl (cI, 3, .inl (fun x9 => nI (el x9)))), (xF, .inl (cI, 16, .inl (fun x9 => nI (qt x9))))]) zz) := by
  refine Met.ofW (cc := cM_input) (maxL := 3) (ret := (.some .boolean)) (by decide) rfl ?_
  intro p e s m args below meth c s₁ B hml hv
  obtain ⟨rfl, hsz, hP, hK, hD0⟩ := hv
  have F : CallFix p m c cM_input 3 s _ zT RM := ⟨B.exec, B.bytes, hml, findClass_of_methodNamed B.named, fun w h => atoms_spec (ws := (zW yM_input cM_input 3 (.some .boolean))) B.pre w (List.mem_cons_of_mem _ h)⟩
  have hr := B.returns
  have hlocks := B.notSynchronized
  subst hsz
  have hD := hD0.self (sz := s.heap.size)
  generalize hAe : va_A ([(x0, .inr (4, [.ref xC, .ref xD, .ref xK, .ref xQ, .ref xV, .ref xI, .int (nI pb), .ref xL, .ref xR, .ref xS, .ref xT])), (xC, .inr (0, [.ref xA, .int (nI cn)])), (xD, .inr (1, [.ref xB, .int (nI (szN cn)), .int (nI (iv (szN cn)))])), (xK, .inr (2, [.ref xW, .ref xX, .int (z_b md), .int (nI ta), .int (nI al), .int (nI be), .int (nI ga), .int (nI de), .int (nI va)])), (xQ, .inr (3, [.ref xE, .ref xF, .int (z_b pd)])), (xV, .inl (cI, 16, .inl (fun x9 => nI (v x9)))), (xI, .inl (cI, 7, .inl (fun x9 => nI (inp x9)))), (xL, .inl (cI, 16, .inl (fun x9 => nI (sL x9)))), (xR, .inl (cI, 16, .inl (fun x9 => nI (sR x9)))), (xS, .inl (cI, 16, .inl (fun x9 => nI (sS x9)))), (xT, .inl (cI, 16, .inl (fun x9 => nI (sT x9)))), (xA, .inl (cI, 816, .inl (fun x9 => nI (f x9)))), (xB, .inl (cI, 16, .inl (fun x9 => nI (bb x9)))), (xW, .inl (cI, 16, .inl (fun x9 => nI (w x9)))), (xX, .inl (cI, 16, .inl (fun x9 => nI (mx x9)))), (xE, .inl (cI, 3, .inl (fun x9 => nI (el x9)))), (xF, .inl (cI, 16, .inl (fun x9 => nI (qt x9))))]) s.heap.size = A at hD ⊢
  have hAA : ∀ q : Nat, s.heap.size ≤ q → A q := fun q h => by rw [← hAe]; exact Or.inr h
  have hS : va_S A s.heap s.heap [] := va_S.rf
  have hl := lv_entry ([.ref x0, .int (nI k), .int (nI y)]) (n := 3) (Nat.le_of_ble_eq_true rfl)
  rw [lg_entry_eq]
  generalize (lg_sl ([.ref x0, .int (nI k), .int (nI y)]) ++ List.replicate (3 - (lg_sl ([.ref x0, .int (nI k), .int (nI y)])).length) Slot.unset).toArray = ls at hl ⊢
  have hl : lv_has ls 3 [(0, .ref x0), (1, .int (nI k)), (2, .int (nI y))] := hl
  refine lv_iload_n F.1 F.2.1 dM_input_0 rfl (lv_at hl 1 rfl) ?_
  refine z_if_eq F (by omega) (tgt := 22) dM_input_1 rfl (fun h => absurd h (by omega)) (fun h => ?_)
  refine lv_iload_n F.1 F.2.1 dM_input_4 rfl (lv_at hl 1 rfl) ?_
  refine z_bipush (v := 7) F (by decide) dM_input_5 ?_
  refine z_call (z_runS [.int (nI k), .int (nI 7)] [] F (c_isBelow_t l (k) 7 (by omega) (by decide)) kk_M_isBelow wl_M_56 rfl rfl ⟨Nat.le_of_ble_eq_true rfl, Nat.le_of_ble_eq_true rfl⟩ z_preN rfl hl.1 rfl (Nat.le_of_ble_eq_true rfl) dM_input_7 ⟨Nat.zero_le _, Nat.zero_le _⟩) ?_
  refine z_if_eq F (by omega) (tgt := 22) dM_input_10 rfl (fun h => absurd h (by decide)) (fun h => ?_)
  refine lv_iload_n F.1 F.2.1 dM_input_13 rfl (lv_at hl 2 rfl) ?_
  refine z_ldc F 998244353 (v0 := 998244353) wk_M_60 rfl dM_input_14 ?_
  refine z_call (z_runS [.int (nI y), .int (nI 998244353)] [] F (c_isBelow_t l (y) 998244353 (by omega) (by decide)) kk_M_isBelow wl_M_56 rfl rfl ⟨Nat.le_of_ble_eq_true rfl, Nat.le_of_ble_eq_true rfl⟩ z_preN rfl hl.1 rfl (Nat.le_of_ble_eq_true rfl) dM_input_16 ⟨Nat.zero_le _, Nat.zero_le _⟩) ?_
  refine z_if_ne F (by omega) (tgt := 30) dM_input_19 rfl (fun h => ?_) (fun h => absurd h (by decide))
  refine lv_aload_n F.1 F.2.1 dM_input_30 rfl (lv_at hl 0 rfl) ?_
  refine z_get F hK hP hinM 0 rfl rfl 5 (by decide) rfl wf_M_41 rfl dM_input_31 ?_
  refine lv_iload_n F.1 F.2.1 dM_input_34 rfl (lv_at hl 1 rfl) ?_
  refine lv_iload_n F.1 F.2.1 dM_input_35 rfl (lv_at hl 2 rfl) ?_
  refine z_iast F hK hP hD hS 6 0 rfl rfl (by omega) (by decide) dM_input_36 (fun H locs hP hD hS => ?_)
  have hP : va_P (dC, dI) vwCl ([(x0, .inr (4, [.ref xC, .ref xD, .ref xK, .ref xQ, .ref xV, .ref xI, .int (nI pb), .ref xL, .ref xR, .ref xS, .ref xT])), (xC, .inr (0, [.ref xA, .int (nI cn)])), (xD, .inr (1, [.ref xB, .int (nI (szN cn)), .int (nI (iv (szN cn)))])), (xK, .inr (2, [.ref xW, .ref xX, .int (z_b md), .int (nI ta), .int (nI al), .int (nI be), .int (nI ga), .int (nI de), .int (nI va)])), (xQ, .inr (3, [.ref xE, .ref xF, .int (z_b pd)])), (xV, .inl (cI, 16, .inl (fun x9 => nI (v x9)))), (xI, .inl (cI, 7, .inl (fun x9 => nI ((va_up inp k y) x9)))), (xL, .inl (cI, 16, .inl (fun x9 => nI (sL x9)))), (xR, .inl (cI, 16, .inl (fun x9 => nI (sR x9)))), (xS, .inl (cI, 16, .inl (fun x9 => nI (sS x9)))), (xT, .inl (cI, 16, .inl (fun x9 => nI (sT x9)))), (xA, .inl (cI, 816, .inl (fun x9 => nI (f x9)))), (xB, .inl (cI, 16, .inl (fun x9 => nI (bb x9)))), (xW, .inl (cI, 16, .inl (fun x9 => nI (w x9)))), (xX, .inl (cI, 16, .inl (fun x9 => nI (mx x9)))), (xE, .inl (cI, 3, .inl (fun x9 => nI (el x9)))), (xF, .inl (cI, 16, .inl (fun x9 => nI (qt x9))))]) H := hP
  have hD : va_D A ([(x0, .inr (4, [.ref xC, .ref xD, .ref xK, .ref xQ, .ref xV, .ref xI, .int (nI pb), .ref xL, .ref xR, .ref xS, .ref xT])), (xC, .inr (0, [.ref xA, .int (nI cn)])), (xD, .inr (1, [.ref xB, .int (nI (szN cn)), .int (nI (iv (szN cn)))])), (xK, .inr (2, [.ref xW, .ref xX, .int (z_b md), .int (nI ta), .int (nI al), .int (nI be), .int (nI ga), .int (nI de), .int (nI va)])), (xQ, .inr (3, [.ref xE, .ref xF, .int (z_b pd)])), (xV, .inl (cI, 16, .inl (fun x9 => nI (v x9)))), (xI, .inl (cI, 7, .inl (fun x9 => nI ((va_up inp k y) x9)))), (xL, .inl (cI, 16, .inl (fun x9 => nI (sL x9)))), (xR, .inl (cI, 16, .inl (fun x9 => nI (sR x9)))), (xS, .inl (cI, 16, .inl (fun x9 => nI (sS x9)))), (xT, .inl (cI, 16, .inl (fun x9 => nI (sT x9)))), (xA, .inl (cI, 816, .inl (fun x9 => nI (f x9)))), (xB, .inl (cI, 16, .inl (fun x9 => nI (bb x9)))), (xW, .inl (cI, 16, .inl (fun x9 => nI (w x9)))), (xX, .inl (cI, 16, .inl (fun x9 => nI (mx x9)))), (xE, .inl (cI, 3, .inl (fun x9 => nI (el x9)))), (xF, .inl (cI, 16, .inl (fun x9 => nI (qt x9))))]) := hD
  refine z_iconst (v := 1) F (by decide) dM_input_37 ?_
  refine z_topV (z_b true) (by decide) ?_
  exact W.zret F.1 F.2.1 hr rfl (fun t ht hW => ⟨rfl, by rw [ht]; exact hP, va_K.moved hW.alike hK, hD, hS.F ht⟩) hS.2.2 dM_input_38
set_option maxHeartbeats 4000000 in
set_option maxRecDepth 100000 in
theorem cm_alter (l : Launch) (dC : Nat → ClassId) (dI : Nat → Nat → Nat) (cI cL : ClassId) (zz : Nat) (x0 xC xD xK xQ xV xI xL xR xS xT xA xB xW xX xE xF : Nat) (pb cn ta al be ga de va : Nat) (md pd : Bool) (v inp sL sR sS sT f bb w mx el qt : Nat → Nat) (k y : Nat) (hk : k < 3) (hy : y < 998244353) (hp : pd = true) : Met l yM_alter (zW yM_alter cM_alter 3 (.some .boolean)) ({ frames := 1, cells := 0, slots := 0, locals := 22 }) (va_Pc [.ref x0, .int (nI k), .int (nI y)] (z_P (dC, dI) vwCl [(cI, .int), (cL, .long)] zz ([(x0, .inr (4, [.ref xC, .ref xD, .ref xK, .ref xQ, .ref xV, .ref xI, .int (nI pb), .ref xL, .ref xR, .ref xS, .ref xT])), (xC, .inr (0, [.ref xA, .int (nI cn)])), (xD, .inr (1, [.ref xB, .int (nI (szN cn)), .int (nI (iv (szN cn)))])), (xK, .inr (2, [.ref xW, .ref xX, .int (z_b md), .int (nI ta), .int (nI al), .int (nI be), .int (nI ga), .int (nI de), .int (nI va)])), (xQ, .inr (3, [.ref xE, .ref xF, .int (z_b pd)])), (xV, .inl (cI, 16, .inl (fun x9 => nI (v x9)))), (xI, .inl (cI, 7, .inl (fun x9 => nI (inp x9)))), (xL, .inl (cI, 16, .inl (fun x9 => nI (sL x9)))), (xR, .inl (cI, 16, .inl (fun x9 => nI (sR x9)))), (xS, .inl (cI, 16, .inl (fun x9 => nI (sS x9)))), (xT, .inl (cI, 16, .inl (fun x9 => nI (sT x9)))), (xA, .inl (cI, 816, .inl (fun x9 => nI (f x9)))), (xB, .inl (cI, 16, .inl (fun x9 => nI (bb x9)))), (xW, .inl (cI, 16, .inl (fun x9 => nI (w x9)))), (xX, .inl (cI, 16, .inl (fun x9 => nI (mx x9)))), (xE, .inl (cI, 3, .inl (fun x9 => nI (el x9)))), (xF, .inl (cI, 16, .inl (fun x9 => nI (qt x9))))]))) (z_Q (dC, dI) vwCl [(cI, .int), (cL, .long)] (some (.int (z_b true))) ([(x0, .inr (4, [.ref xC, .ref xD, .ref xK, .ref xQ, .ref xV, .ref xI, .int (nI pb), .ref xL, .ref xR, .ref xS, .ref xT])), (xC, .inr (0, [.ref xA, .int (nI cn)])), (xD, .inr (1, [.ref xB, .int (nI (szN cn)), .int (nI (iv (szN cn)))])), (xK, .inr (2, [.ref xW, .ref xX, .int (z_b md), .int (nI ta), .int (nI al), .int (nI be), .int (nI ga), .int (nI de), .int (nI va)])), (xQ, .inr (3, [.ref xE, .ref xF, .int (z_b pd)])), (xV, .inl (cI, 16, .inl (fun x9 => nI (v x9)))), (xI, .inl (cI, 7, .inl (fun x9 => nI (inp x9)))), (xL, .inl (cI, 16, .inl (fun x9 => nI (sL x9)))), (xR, .inl (cI, 16, .inl (fun x9 => nI (sR x9)))), (xS, .inl (cI, 16, .inl (fun x9 => nI (sS x9)))), (xT, .inl (cI, 16, .inl (fun x9 => nI (sT x9)))), (xA, .inl (cI, 816, .inl (fun x9 => nI (f x9)))), (xB, .inl (cI, 16, .inl (fun x9 => nI (bb x9)))), (xW, .inl (cI, 16, .inl (fun x9 => nI (w x9)))), (xX, .inl (cI, 16, .inl (fun x9 => nI (mx x9)))), (xE, .inl (cI, 3, .inl (fun x9 => nI ((va_up el k y) x9)))), (xF, .inl (cI, 16, .inl (fun x9 => nI (qt x9))))]) (va_A ([(x0, .inr (4, [.ref xC, .ref xD, .ref xK, .ref xQ, .ref xV, .ref xI, .int (nI pb), .ref xL, .ref xR, .ref xS, .ref xT])), (xC, .inr (0, [.ref xA, .int (nI cn)])), (xD, .inr (1, [.ref xB, .int (nI (szN cn)), .int (nI (iv (szN cn)))])), (xK, .inr (2, [.ref xW, .ref xX, .int (z_b md), .int (nI ta), .int (nI al), .int (nI be), .int (nI ga), .int (nI de), .int (nI va)])), (xQ, .inr (3, [.ref xE, .ref xF, .int (z_b pd)])), (xV, .inl (cI, 16, .inl (fun x9 => nI (v x9)))), (xI, .inl (cI, 7, .inl (fun x9 => nI (inp x9)))), (xL, .inl (cI, 16, .inl (fun x9 => nI (sL x9)))), (xR, .inl (cI, 16, .inl (fun x9 => nI (sR x9)))), (xS, .inl (cI, 16, .inl (fun x9 => nI (sS x9)))), (xT, .inl (cI, 16, .inl (fun x9 => nI (sT x9)))), (xA, .inl (cI, 816, .inl (fun x9 => nI (f x9)))), (xB, .inl (cI, 16, .inl (fun x9 => nI (bb x9)))), (xW, .inl (cI, 16, .inl (fun x9 => nI (w x9)))), (xX, .inl (cI, 16, .inl (fun x9 => nI (mx x9)))), (xE, .inl (cI, 3, .inl (fun x9 => nI (el x9)))), (xF, .inl (cI, 16, .inl (fun x9 => nI (qt x9))))]) zz)) 0 0 (va_A ([(x0, .inr (4, [.ref xC, .ref xD, .ref xK, .ref xQ, .ref xV, .ref xI, .int (nI pb), .ref xL, .ref xR, .ref xS, .ref xT])), (xC, .inr (0, [.ref xA, .int (nI cn)])), (xD, .inr (1, [.ref xB, .int (nI (szN cn)), .int (nI (iv (szN cn)))])), (xK, .inr (2, [.ref xW, .ref xX, .int (z_b md), .int (nI ta), .int (nI al), .int (nI be), .int (nI ga), .int (nI de), .int (nI va)])), (xQ, .inr (3, [.ref xE, .ref xF, .int (z_b pd)])), (xV, .inl (cI, 16, .inl (fun x9 => nI (v x9)))), (xI, .inl (cI, 7, .inl (fun x9 => nI (inp x9)))), (xL, .inl (cI, 16, .inl (fun x9 => nI (sL x9)))), (xR, .inl (cI, 16, .inl (fun x9 => nI (sR x9)))), (xS, .inl (cI, 16, .inl (fun x9 => nI (sS x9)))), (xT, .inl (cI, 16, .inl (fun x9 => nI (sT x9)))), (xA, .inl (cI, 816, .inl (fun x9 => nI (f x9)))), (xB, .inl (cI, 16, .inl (fun x9 => nI (bb x9)))), (xW, .inl (cI, 16, .inl (fun x9 => nI (w x9)))), (xX, .inl (cI, 16, .inl (fun x9 => nI (mx x9)))), (xE, .inl (cI, 3, .inl (fun x9 => nI (el x9)))), (xF, .inl (cI, 16, .inl (fun x9 => nI (qt x9))))]) zz) := by
  refine Met.ofW (cc := cM_alter) (maxL := 3) (ret := (.some .boolean)) (by decide) rfl ?_
  intro p e s m args below meth c s₁ B hml hv
  obtain ⟨rfl, hsz, hP, hK, hD0⟩ := hv
  have F : CallFix p m c cM_alter 3 s _ zT RM := ⟨B.exec, B.bytes, hml, findClass_of_methodNamed B.named, fun w h => atoms_spec (ws := (zW yM_alter cM_alter 3 (.some .boolean))) B.pre w (List.mem_cons_of_mem _ h)⟩
  have hr := B.returns
  have hlocks := B.notSynchronized
  subst hsz
  have hD := hD0.self (sz := s.heap.size)
  generalize hAe : va_A ([(x0, .inr (4, [.ref xC, .ref xD, .ref xK, .ref xQ, .ref xV, .ref xI, .int (nI pb), .ref xL, .ref xR, .ref xS, .ref xT])), (xC, .inr (0, [.ref xA, .int (nI cn)])), (xD, .inr (1, [.ref xB, .int (nI (szN cn)), .int (nI (iv (szN cn)))])), (xK, .inr (2, [.ref xW, .ref xX, .int (z_b md), .int (nI ta), .int (nI al), .int (nI be), .int (nI ga), .int (nI de), .int (nI va)])), (xQ, .inr (3, [.ref xE, .ref xF, .int (z_b pd)])), (xV, .inl (cI, 16, .inl (fun x9 => nI (v x9)))), (xI, .inl (cI, 7, .inl (fun x9 => nI (inp x9)))), (xL, .inl (cI, 16, .inl (fun x9 => nI (sL x9)))), (xR, .inl (cI, 16, .inl (fun x9 => nI (sR x9)))), (xS, .inl (cI, 16, .inl (fun x9 => nI (sS x9)))), (xT, .inl (cI, 16, .inl (fun x9 => nI (sT x9)))), (xA, .inl (cI, 816, .inl (fun x9 => nI (f x9)))), (xB, .inl (cI, 16, .inl (fun x9 => nI (bb x9)))), (xW, .inl (cI, 16, .inl (fun x9 => nI (w x9)))), (xX, .inl (cI, 16, .inl (fun x9 => nI (mx x9)))), (xE, .inl (cI, 3, .inl (fun x9 => nI (el x9)))), (xF, .inl (cI, 16, .inl (fun x9 => nI (qt x9))))]) s.heap.size = A at hD ⊢
  have hAA : ∀ q : Nat, s.heap.size ≤ q → A q := fun q h => by rw [← hAe]; exact Or.inr h
  have hS : va_S A s.heap s.heap [] := va_S.rf
  have hl := lv_entry ([.ref x0, .int (nI k), .int (nI y)]) (n := 3) (Nat.le_of_ble_eq_true rfl)
  rw [lg_entry_eq]
  generalize (lg_sl ([.ref x0, .int (nI k), .int (nI y)]) ++ List.replicate (3 - (lg_sl ([.ref x0, .int (nI k), .int (nI y)])).length) Slot.unset).toArray = ls at hl ⊢
  have hl : lv_has ls 3 [(0, .ref x0), (1, .int (nI k)), (2, .int (nI y))] := hl
  refine lv_iload_n F.1 F.2.1 dM_alter_0 rfl (lv_at hl 1 rfl) ?_
  refine z_iconst (v := 3) F (by decide) dM_alter_1 ?_
  refine z_call (z_runS [.int (nI k), .int (nI 3)] [] F (c_isBelow_t l (k) 3 (by omega) (by decide)) kk_M_isBelow wl_M_56 rfl rfl ⟨Nat.le_of_ble_eq_true rfl, Nat.le_of_ble_eq_true rfl⟩ z_preN rfl hl.1 rfl (Nat.le_of_ble_eq_true rfl) dM_alter_2 ⟨Nat.zero_le _, Nat.zero_le _⟩) ?_
  refine z_if_eq F (by omega) (tgt := 17) dM_alter_5 rfl (fun h => absurd h (by decide)) (fun h => ?_)
  refine lv_iload_n F.1 F.2.1 dM_alter_8 rfl (lv_at hl 2 rfl) ?_
  refine z_ldc F 998244353 (v0 := 998244353) wk_M_60 rfl dM_alter_9 ?_
  refine z_call (z_runS [.int (nI y), .int (nI 998244353)] [] F (c_isBelow_t l (y) 998244353 (by omega) (by decide)) kk_M_isBelow wl_M_56 rfl rfl ⟨Nat.le_of_ble_eq_true rfl, Nat.le_of_ble_eq_true rfl⟩ z_preN rfl hl.1 rfl (Nat.le_of_ble_eq_true rfl) dM_alter_11 ⟨Nat.zero_le _, Nat.zero_le _⟩) ?_
  refine z_if_ne F (by omega) (tgt := 25) dM_alter_14 rfl (fun h => ?_) (fun h => absurd h (by decide))
  refine lv_aload_n F.1 F.2.1 dM_alter_25 rfl (lv_at hl 0 rfl) ?_
  refine z_get F hK hP hinM 0 rfl rfl 3 (by decide) rfl wf_M_33 rfl dM_alter_26 ?_
  refine z_call (z_runV [] [] F (cq_isMade l dC dI cI cL _ 4 xQ xE xF pd rfl) kk_Q_isMade wl_M_176 rfl rfl ⟨Nat.le_of_ble_eq_true rfl, Nat.le_of_ble_eq_true rfl⟩ (z_preVR (q := (RQ, TQ, 3)) hP hK rfl (q0 := 4) rfl) rfl hl.1 rfl (Nat.le_of_ble_eq_true rfl) dM_alter_29 ⟨Nat.zero_le _, Nat.zero_le _⟩) ?_
  refine z_ifb_ne F (tgt := 43) dM_alter_32 rfl (fun h => ?_) (fun h => by rw [hp] at h; cases h)
  refine lv_aload_n F.1 F.2.1 dM_alter_43 rfl (lv_at hl 0 rfl) ?_
  refine z_get F hK hP hinM 0 rfl rfl 3 (by decide) rfl wf_M_33 rfl dM_alter_44 ?_
  refine lv_iload_n F.1 F.2.1 dM_alter_47 rfl (lv_at hl 1 rfl) ?_
  refine lv_iload_n F.1 F.2.1 dM_alter_48 rfl (lv_at hl 2 rfl) ?_
  have hPc := hP.sub (ws' := [(xQ, .inr (3, [.ref xE, .ref xF, .int (z_b pd)])), (xE, .inl (cI, 3, .inl (fun x9 => nI (el x9)))), (x0, .inr (4, [.ref xC, .ref xD, .ref xK, .ref xQ, .ref xV, .ref xI, .int (nI pb), .ref xL, .ref xR, .ref xS, .ref xT])), (xC, .inr (0, [.ref xA, .int (nI cn)])), (xD, .inr (1, [.ref xB, .int (nI (szN cn)), .int (nI (iv (szN cn)))])), (xK, .inr (2, [.ref xW, .ref xX, .int (z_b md), .int (nI ta), .int (nI al), .int (nI be), .int (nI ga), .int (nI de), .int (nI va)])), (xV, .inl (cI, 16, .inl (fun x9 => nI (v x9)))), (xI, .inl (cI, 7, .inl (fun x9 => nI (inp x9)))), (xL, .inl (cI, 16, .inl (fun x9 => nI (sL x9)))), (xR, .inl (cI, 16, .inl (fun x9 => nI (sR x9)))), (xS, .inl (cI, 16, .inl (fun x9 => nI (sS x9)))), (xT, .inl (cI, 16, .inl (fun x9 => nI (sT x9)))), (xA, .inl (cI, 816, .inl (fun x9 => nI (f x9)))), (xB, .inl (cI, 16, .inl (fun x9 => nI (bb x9)))), (xW, .inl (cI, 16, .inl (fun x9 => nI (w x9)))), (xX, .inl (cI, 16, .inl (fun x9 => nI (mx x9)))), (xF, .inl (cI, 16, .inl (fun x9 => nI (qt x9))))]) [4, 15, 0, 1, 2, 3, 5, 6, 7, 8, 9, 10, 11, 12, 13, 14, 16] rfl
  have hDc := hD.sub (ws' := [(xQ, .inr (3, [.ref xE, .ref xF, .int (z_b pd)])), (xE, .inl (cI, 3, .inl (fun x9 => nI (el x9)))), (x0, .inr (4, [.ref xC, .ref xD, .ref xK, .ref xQ, .ref xV, .ref xI, .int (nI pb), .ref xL, .ref xR, .ref xS, .ref xT])), (xC, .inr (0, [.ref xA, .int (nI cn)])), (xD, .inr (1, [.ref xB, .int (nI (szN cn)), .int (nI (iv (szN cn)))])), (xK, .inr (2, [.ref xW, .ref xX, .int (z_b md), .int (nI ta), .int (nI al), .int (nI be), .int (nI ga), .int (nI de), .int (nI va)])), (xV, .inl (cI, 16, .inl (fun x9 => nI (v x9)))), (xI, .inl (cI, 7, .inl (fun x9 => nI (inp x9)))), (xL, .inl (cI, 16, .inl (fun x9 => nI (sL x9)))), (xR, .inl (cI, 16, .inl (fun x9 => nI (sR x9)))), (xS, .inl (cI, 16, .inl (fun x9 => nI (sS x9)))), (xT, .inl (cI, 16, .inl (fun x9 => nI (sT x9)))), (xA, .inl (cI, 816, .inl (fun x9 => nI (f x9)))), (xB, .inl (cI, 16, .inl (fun x9 => nI (bb x9)))), (xW, .inl (cI, 16, .inl (fun x9 => nI (w x9)))), (xX, .inl (cI, 16, .inl (fun x9 => nI (mx x9)))), (xF, .inl (cI, 16, .inl (fun x9 => nI (qt x9))))]) [4, 15, 0, 1, 2, 3, 5, 6, 7, 8, 9, 10, 11, 12, 13, 14, 16] (by decide) rfl
  refine z_callW (z_runV [.int (nI k), .int (nI y)] [] F (cq_setElement l dC dI cI cL [(x0, .inr (4, [.ref xC, .ref xD, .ref xK, .ref xQ, .ref xV, .ref xI, .int (nI pb), .ref xL, .ref xR, .ref xS, .ref xT])), (xC, .inr (0, [.ref xA, .int (nI cn)])), (xD, .inr (1, [.ref xB, .int (nI (szN cn)), .int (nI (iv (szN cn)))])), (xK, .inr (2, [.ref xW, .ref xX, .int (z_b md), .int (nI ta), .int (nI al), .int (nI be), .int (nI ga), .int (nI de), .int (nI va)])), (xV, .inl (cI, 16, .inl (fun x9 => nI (v x9)))), (xI, .inl (cI, 7, .inl (fun x9 => nI (inp x9)))), (xL, .inl (cI, 16, .inl (fun x9 => nI (sL x9)))), (xR, .inl (cI, 16, .inl (fun x9 => nI (sR x9)))), (xS, .inl (cI, 16, .inl (fun x9 => nI (sS x9)))), (xT, .inl (cI, 16, .inl (fun x9 => nI (sT x9)))), (xA, .inl (cI, 816, .inl (fun x9 => nI (f x9)))), (xB, .inl (cI, 16, .inl (fun x9 => nI (bb x9)))), (xW, .inl (cI, 16, .inl (fun x9 => nI (w x9)))), (xX, .inl (cI, 16, .inl (fun x9 => nI (mx x9)))), (xF, .inl (cI, 16, .inl (fun x9 => nI (qt x9))))] s.heap.size xQ xE xF pd el k y hk) kk_Q_setElement wl_M_177 rfl rfl ⟨Nat.le_of_ble_eq_true rfl, Nat.le_of_ble_eq_true rfl⟩ (z_preVP (q := (RQ, TQ, 3)) hPc hK hDc rfl (q0 := 0) rfl) rfl hl.1 rfl (Nat.le_of_ble_eq_true rfl) dM_alter_49 ⟨Nat.zero_le _, Nat.zero_le _⟩) hDc hS hAA (fun H locs hP hD hS => ?_)
  have hP : va_P (dC, dI) vwCl [(x0, .inr (4, [.ref xC, .ref xD, .ref xK, .ref xQ, .ref xV, .ref xI, .int (nI pb), .ref xL, .ref xR, .ref xS, .ref xT])), (xC, .inr (0, [.ref xA, .int (nI cn)])), (xD, .inr (1, [.ref xB, .int (nI (szN cn)), .int (nI (iv (szN cn)))])), (xK, .inr (2, [.ref xW, .ref xX, .int (z_b md), .int (nI ta), .int (nI al), .int (nI be), .int (nI ga), .int (nI de), .int (nI va)])), (xQ, .inr (3, [.ref xE, .ref xF, .int (z_b pd)])), (xV, .inl (cI, 16, .inl (fun x9 => nI (v x9)))), (xI, .inl (cI, 7, .inl (fun x9 => nI (inp x9)))), (xL, .inl (cI, 16, .inl (fun x9 => nI (sL x9)))), (xR, .inl (cI, 16, .inl (fun x9 => nI (sR x9)))), (xS, .inl (cI, 16, .inl (fun x9 => nI (sS x9)))), (xT, .inl (cI, 16, .inl (fun x9 => nI (sT x9)))), (xA, .inl (cI, 816, .inl (fun x9 => nI (f x9)))), (xB, .inl (cI, 16, .inl (fun x9 => nI (bb x9)))), (xW, .inl (cI, 16, .inl (fun x9 => nI (w x9)))), (xX, .inl (cI, 16, .inl (fun x9 => nI (mx x9)))), (xE, .inl (cI, 3, .inl (fun x9 => nI ((va_up el k y) x9)))), (xF, .inl (cI, 16, .inl (fun x9 => nI (qt x9))))] H := hP.sub [2, 3, 4, 5, 0, 6, 7, 8, 9, 10, 11, 12, 13, 14, 15, 1, 16] rfl
  have hD : va_D A [(x0, .inr (4, [.ref xC, .ref xD, .ref xK, .ref xQ, .ref xV, .ref xI, .int (nI pb), .ref xL, .ref xR, .ref xS, .ref xT])), (xC, .inr (0, [.ref xA, .int (nI cn)])), (xD, .inr (1, [.ref xB, .int (nI (szN cn)), .int (nI (iv (szN cn)))])), (xK, .inr (2, [.ref xW, .ref xX, .int (z_b md), .int (nI ta), .int (nI al), .int (nI be), .int (nI ga), .int (nI de), .int (nI va)])), (xQ, .inr (3, [.ref xE, .ref xF, .int (z_b pd)])), (xV, .inl (cI, 16, .inl (fun x9 => nI (v x9)))), (xI, .inl (cI, 7, .inl (fun x9 => nI (inp x9)))), (xL, .inl (cI, 16, .inl (fun x9 => nI (sL x9)))), (xR, .inl (cI, 16, .inl (fun x9 => nI (sR x9)))), (xS, .inl (cI, 16, .inl (fun x9 => nI (sS x9)))), (xT, .inl (cI, 16, .inl (fun x9 => nI (sT x9)))), (xA, .inl (cI, 816, .inl (fun x9 => nI (f x9)))), (xB, .inl (cI, 16, .inl (fun x9 => nI (bb x9)))), (xW, .inl (cI, 16, .inl (fun x9 => nI (w x9)))), (xX, .inl (cI, 16, .inl (fun x9 => nI (mx x9)))), (xE, .inl (cI, 3, .inl (fun x9 => nI ((va_up el k y) x9)))), (xF, .inl (cI, 16, .inl (fun x9 => nI (qt x9))))] := hD.sub [2, 3, 4, 5, 0, 6, 7, 8, 9, 10, 11, 12, 13, 14, 15, 1, 16] (by decide) rfl
  refine z_iconst (v := 1) F (by decide) dM_alter_52 ?_
  refine z_topV (z_b true) (by decide) ?_
  exact W.zret F.1 F.2.1 hr rfl (fun t ht hW => ⟨rfl, by rw [ht]; exact hP, va_K.moved hW.alike hK, hD, hS.F ht⟩) hS.2.2 dM_alter_53
end
section
/-- the sums of a row, as points -/
def pts (cn : Nat) (f v : Nat → Nat) (row j : Nat) : Nat := if j < cn then sg 16 (fun t => f ((j * 3 + row) * 16 + t) * v t) % 998244353 else 0
/-- the coefficients that points d give -/
def itp (sz ov : Nat) (b d o : Nat → Nat) (k : Nat) : Nat := if k < sz then sg sz (fun u => d u * b (u * k % sz)) % 998244353 * ov % 998244353 else o k
/-- the upper half of a product -/
def dvd (sz : Nat) (lf rt : Nat → Nat) (k : Nat) : Nat := sg (sz - (k + 1)) (fun t => lf (k + 1 + t) * rt (k + sz - (k + 1 + t))) % 998244353
/-- the points' weights -/
def wts (sz ov ta : Nat) (bb : Nat → Nat) (j : Nat) : Nat := if j < sz then sg sz (fun u => (ta * bb j % 998244353) ^ u) % 998244353 * ov % 998244353 else 0
/-- the mixes -/
def mxs (cn al be : Nat) (f w : Nat → Nat) (i : Nat) : Nat := ((be * (sg cn (fun t => f ((t * 3 + 0) * 16 + i) * w t) % 998244353) % 998244353 + al * (sg cn (fun t => f ((t * 3 + 1) * 16 + i) * w t) % 998244353) % 998244353) % 998244353 + sg cn (fun t => f ((t * 3 + 2) * 16 + i) * w t) % 998244353) % 998244353
/-- T -/
def van (ta sz : Nat) : Nat := (pw ta sz + 998244353 - 1) % 998244353
/-- A, B -/
def mkA (al de x : Nat) (d w : Nat → Nat) : Nat := ((al + sg 16 (fun t => d t * w t) % 998244353) % 998244353 + x * de % 998244353) % 998244353
/-- what is hidden in the third element -/
def mkH (pb ta va : Nat) (v mx qt : Nat → Nat) : Nat := (sg (15 + 1 - (pb + 1)) (fun t => v (pb + 1 + t) * mx (pb + 1 + t)) % 998244353 + (sg 16 (fun i => qt i * ta ^ i) % 998244353) * va % 998244353) % 998244353
/-- C -/
def mkC (h de a b x y : Nat) : Nat := (((h * iv de % 998244353 + a * y % 998244353) % 998244353 + b * x % 998244353) % 998244353 + 998244353 - x * y % 998244353 * de % 998244353) % 998244353
theorem pts_lt {cn : Nat} {f v : Nat → Nat} {row : Nat} : ∀ j, pts cn f v row j < 998244353 := fun j => by
  unfold pts
  split
  · exact ltP _
  · decide
theorem itp_lt {sz ov : Nat} {b d o : Nat → Nat} (ho : ∀ j, o j < 998244353) : ∀ j, itp sz ov b d o j < 998244353 := fun j => by
  unfold itp
  split
  · exact ltP _
  · exact ho j
theorem dvd_lt {sz : Nat} {lf rt : Nat → Nat} : ∀ j, dvd sz lf rt j < 998244353 := fun _ => ltP _
theorem wts_lt {sz ov ta : Nat} {bb : Nat → Nat} : ∀ j, wts sz ov ta bb j < 998244353 := fun j => by
  unfold wts
  split
  · exact ltP _
  · decide
theorem mxs_lt {cn al be : Nat} {f w : Nat → Nat} : ∀ j, mxs cn al be f w j < 998244353 := fun _ => ltP _
theorem van_lt (ta sz : Nat) : van ta sz < 998244353 := ltP _
theorem mkA_lt (al de x : Nat) (d w : Nat → Nat) : mkA al de x d w < 998244353 := ltP _
theorem mkH_lt (pb ta va : Nat) (v mx qt : Nat → Nat) : mkH pb ta va v mx qt < 998244353 := ltP _
theorem mkC_lt (h de a b x y : Nat) : mkC h de a b x y < 998244353 := ltP _
set_option maxHeartbeats 4000000 in
set_option maxRecDepth 100000 in
theorem cm_setup (l : Launch) (dC : Nat → ClassId) (dI : Nat → Nat → Nat) (cI cL : ClassId) (zz : Nat) (x0 xC xD xK xQ xV xI xL xR xS xT xA xB xW xX xE xF : Nat) (pb cn ta al be ga de va : Nat) (md pd : Bool) (v inp sL sR sS sT f bb w mx el qt : Nat → Nat) (t2 a2 b2 g2 d2 : Nat) (hf : ∀ j, f j < 998244353) (hbb : ∀ j, bb j < 998244353) (hn : cn ≤ 16) (pt2 : 0 < t2) (ht2 : t2 < 998244353) (pa2 : 0 < a2) (ha2 : a2 < 998244353) (pb2 : 0 < b2) (hb2 : b2 < 998244353) (pg2 : 0 < g2) (hg2 : g2 < 998244353) (pd2 : 0 < d2) (hd2 : d2 < 998244353) (hv : van t2 (szN cn) ≠ 0) : Met l yM_setup (zW yM_setup cM_setup 6 (.some .int)) ({ frames := 4, cells := 0, slots := 0, locals := 91 }) (va_Pc [.ref x0, .int (nI t2), .int (nI a2), .int (nI b2), .int (nI g2), .int (nI d2)] (z_P (dC, dI) vwCl [(cI, .int), (cL, .long)] zz ([(x0, .inr (4, [.ref xC, .ref xD, .ref xK, .ref xQ, .ref xV, .ref xI, .int (nI pb), .ref xL, .ref xR, .ref xS, .ref xT])), (xC, .inr (0, [.ref xA, .int (nI cn)])), (xD, .inr (1, [.ref xB, .int (nI (szN cn)), .int (nI (iv (szN cn)))])), (xK, .inr (2, [.ref xW, .ref xX, .int (z_b md), .int (nI ta), .int (nI al), .int (nI be), .int (nI ga), .int (nI de), .int (nI va)])), (xQ, .inr (3, [.ref xE, .ref xF, .int (z_b pd)])), (xV, .inl (cI, 16, .inl (fun x9 => nI (v x9)))), (xI, .inl (cI, 7, .inl (fun x9 => nI (inp x9)))), (xL, .inl (cI, 16, .inl (fun x9 => nI (sL x9)))), (xR, .inl (cI, 16, .inl (fun x9 => nI (sR x9)))), (xS, .inl (cI, 16, .inl (fun x9 => nI (sS x9)))), (xT, .inl (cI, 16, .inl (fun x9 => nI (sT x9)))), (xA, .inl (cI, 816, .inl (fun x9 => nI (f x9)))), (xB, .inl (cI, 16, .inl (fun x9 => nI (bb x9)))), (xW, .inl (cI, 16, .inl (fun x9 => nI (w x9)))), (xX, .inl (cI, 16, .inl (fun x9 => nI (mx x9)))), (xE, .inl (cI, 3, .inl (fun x9 => nI (el x9)))), (xF, .inl (cI, 16, .inl (fun x9 => nI (qt x9))))]))) (z_Q (dC, dI) vwCl [(cI, .int), (cL, .long)] (some (.int (nI (szN cn)))) ([(x0, .inr (4, [.ref xC, .ref xD, .ref xK, .ref xQ, .ref xV, .ref xI, .int (nI pb), .ref xL, .ref xR, .ref xS, .ref xT])), (xC, .inr (0, [.ref xA, .int (nI cn)])), (xD, .inr (1, [.ref xB, .int (nI (szN cn)), .int (nI (iv (szN cn)))])), (xK, .inr (2, [.ref xW, .ref xX, .int (z_b true), .int (nI t2), .int (nI a2), .int (nI b2), .int (nI g2), .int (nI d2), .int (nI (van t2 (szN cn)))])), (xQ, .inr (3, [.ref xE, .ref xF, .int (z_b pd)])), (xV, .inl (cI, 16, .inl (fun x9 => nI (v x9)))), (xI, .inl (cI, 7, .inl (fun x9 => nI (inp x9)))), (xL, .inl (cI, 16, .inl (fun x9 => nI (sL x9)))), (xR, .inl (cI, 16, .inl (fun x9 => nI (sR x9)))), (xS, .inl (cI, 16, .inl (fun x9 => nI (sS x9)))), (xT, .inl (cI, 16, .inl (fun x9 => nI (sT x9)))), (xA, .inl (cI, 816, .inl (fun x9 => nI (f x9)))), (xB, .inl (cI, 16, .inl (fun x9 => nI (bb x9)))), (xW, .inl (cI, 16, .inl (fun x9 => nI ((wts (szN cn) (iv (szN cn)) t2 bb) x9)))), (xX, .inl (cI, 16, .inl (fun x9 => nI ((mxs cn a2 b2 f (wts (szN cn) (iv (szN cn)) t2 bb)) x9)))), (xE, .inl (cI, 3, .inl (fun x9 => nI (el x9)))), (xF, .inl (cI, 16, .inl (fun x9 => nI (qt x9))))]) (va_A ([(x0, .inr (4, [.ref xC, .ref xD, .ref xK, .ref xQ, .ref xV, .ref xI, .int (nI pb), .ref xL, .ref xR, .ref xS, .ref xT])), (xC, .inr (0, [.ref xA, .int (nI cn)])), (xD, .inr (1, [.ref xB, .int (nI (szN cn)), .int (nI (iv (szN cn)))])), (xK, .inr (2, [.ref xW, .ref xX, .int (z_b md), .int (nI ta), .int (nI al), .int (nI be), .int (nI ga), .int (nI de), .int (nI va)])), (xQ, .inr (3, [.ref xE, .ref xF, .int (z_b pd)])), (xV, .inl (cI, 16, .inl (fun x9 => nI (v x9)))), (xI, .inl (cI, 7, .inl (fun x9 => nI (inp x9)))), (xL, .inl (cI, 16, .inl (fun x9 => nI (sL x9)))), (xR, .inl (cI, 16, .inl (fun x9 => nI (sR x9)))), (xS, .inl (cI, 16, .inl (fun x9 => nI (sS x9)))), (xT, .inl (cI, 16, .inl (fun x9 => nI (sT x9)))), (xA, .inl (cI, 816, .inl (fun x9 => nI (f x9)))), (xB, .inl (cI, 16, .inl (fun x9 => nI (bb x9)))), (xW, .inl (cI, 16, .inl (fun x9 => nI (w x9)))), (xX, .inl (cI, 16, .inl (fun x9 => nI (mx x9)))), (xE, .inl (cI, 3, .inl (fun x9 => nI (el x9)))), (xF, .inl (cI, 16, .inl (fun x9 => nI (qt x9))))]) zz)) 0 0 (va_A ([(x0, .inr (4, [.ref xC, .ref xD, .ref xK, .ref xQ, .ref xV, .ref xI, .int (nI pb), .ref xL, .ref xR, .ref xS, .ref xT])), (xC, .inr (0, [.ref xA, .int (nI cn)])), (xD, .inr (1, [.ref xB, .int (nI (szN cn)), .int (nI (iv (szN cn)))])), (xK, .inr (2, [.ref xW, .ref xX, .int (z_b md), .int (nI ta), .int (nI al), .int (nI be), .int (nI ga), .int (nI de), .int (nI va)])), (xQ, .inr (3, [.ref xE, .ref xF, .int (z_b pd)])), (xV, .inl (cI, 16, .inl (fun x9 => nI (v x9)))), (xI, .inl (cI, 7, .inl (fun x9 => nI (inp x9)))), (xL, .inl (cI, 16, .inl (fun x9 => nI (sL x9)))), (xR, .inl (cI, 16, .inl (fun x9 => nI (sR x9)))), (xS, .inl (cI, 16, .inl (fun x9 => nI (sS x9)))), (xT, .inl (cI, 16, .inl (fun x9 => nI (sT x9)))), (xA, .inl (cI, 816, .inl (fun x9 => nI (f x9)))), (xB, .inl (cI, 16, .inl (fun x9 => nI (bb x9)))), (xW, .inl (cI, 16, .inl (fun x9 => nI (w x9)))), (xX, .inl (cI, 16, .inl (fun x9 => nI (mx x9)))), (xE, .inl (cI, 3, .inl (fun x9 => nI (el x9)))), (xF, .inl (cI, 16, .inl (fun x9 => nI (qt x9))))]) zz) := by
  refine Met.ofW (cc := cM_setup) (maxL := 6) (ret := (.some .int)) (by decide) rfl ?_
  intro p e s m args below meth c s₁ B hml hv
  obtain ⟨rfl, hsz, hP, hK, hD0⟩ := hv
  have F : CallFix p m c cM_setup 6 s _ zT RM := ⟨B.exec, B.bytes, hml, findClass_of_methodNamed B.named, fun w h => atoms_spec (ws := (zW yM_setup cM_setup 6 (.some .int))) B.pre w (List.mem_cons_of_mem _ h)⟩
  have hr := B.returns
  have hlocks := B.notSynchronized
  subst hsz
  have hD := hD0.self (sz := s.heap.size)
  generalize hAe : va_A ([(x0, .inr (4, [.ref xC, .ref xD, .ref xK, .ref xQ, .ref xV, .ref xI, .int (nI pb), .ref xL, .ref xR, .ref xS, .ref xT])), (xC, .inr (0, [.ref xA, .int (nI cn)])), (xD, .inr (1, [.ref xB, .int (nI (szN cn)), .int (nI (iv (szN cn)))])), (xK, .inr (2, [.ref xW, .ref xX, .int (z_b md), .int (nI ta), .int (nI al), .int (nI be), .int (nI ga), .int (nI de), .int (nI va)])), (xQ, .inr (3, [.ref xE, .ref xF, .int (z_b pd)])), (xV, .inl (cI, 16, .inl (fun x9 => nI (v x9)))), (xI, .inl (cI, 7, .inl (fun x9 => nI (inp x9)))), (xL, .inl (cI, 16, .inl (fun x9 => nI (sL x9)))), (xR, .inl (cI, 16, .inl (fun x9 => nI (sR x9)))), (xS, .inl (cI, 16, .inl (fun x9 => nI (sS x9)))), (xT, .inl (cI, 16, .inl (fun x9 => nI (sT x9)))), (xA, .inl (cI, 816, .inl (fun x9 => nI (f x9)))), (xB, .inl (cI, 16, .inl (fun x9 => nI (bb x9)))), (xW, .inl (cI, 16, .inl (fun x9 => nI (w x9)))), (xX, .inl (cI, 16, .inl (fun x9 => nI (mx x9)))), (xE, .inl (cI, 3, .inl (fun x9 => nI (el x9)))), (xF, .inl (cI, 16, .inl (fun x9 => nI (qt x9))))]) s.heap.size = A at hD ⊢
  have hAA : ∀ q : Nat, s.heap.size ≤ q → A q := fun q h => by rw [← hAe]; exact Or.inr h
  have hS : va_S A s.heap s.heap [] := va_S.rf
  have hl := lv_entry ([.ref x0, .int (nI t2), .int (nI a2), .int (nI b2), .int (nI g2), .int (nI d2)]) (n := 6) (Nat.le_of_ble_eq_true rfl)
  rw [lg_entry_eq]
  generalize (lg_sl ([.ref x0, .int (nI t2), .int (nI a2), .int (nI b2), .int (nI g2), .int (nI d2)]) ++ List.replicate (6 - (lg_sl ([.ref x0, .int (nI t2), .int (nI a2), .int (nI b2), .int (nI g2), .int (nI d2)])).length) Slot.unset).toArray = ls at hl ⊢
  have hl : lv_has ls 6 [(0, .ref x0), (1, .int (nI t2)), (2, .int (nI a2)), (3, .int (nI b2)), (4, .int (nI g2)), (5, .int (nI d2))] := hl
  have hlo := szN_lo cn
  have hhi := szN_hi cn
  refine lv_iload_n F.1 F.2.1 dM_setup_0 rfl (lv_at hl 1 rfl) ?_
  refine z_call (z_runS [.int (nI t2)] [] F (c_isUnit_t l t2 pt2 ht2) kk_M_isUnit wl_M_93 rfl rfl ⟨Nat.le_of_ble_eq_true rfl, Nat.le_of_ble_eq_true rfl⟩ z_preN rfl hl.1 rfl (Nat.le_of_ble_eq_true rfl) dM_setup_1 ⟨Nat.zero_le _, Nat.zero_le _⟩) ?_
  refine z_if_eq F (by omega) (tgt := 37) dM_setup_4 rfl (fun h => absurd h (by decide)) (fun h => ?_)
  refine lv_iload_n F.1 F.2.1 dM_setup_7 rfl (lv_at hl 2 rfl) ?_
  refine z_call (z_runS [.int (nI a2)] [] F (c_isUnit_t l a2 pa2 ha2) kk_M_isUnit wl_M_93 rfl rfl ⟨Nat.le_of_ble_eq_true rfl, Nat.le_of_ble_eq_true rfl⟩ z_preN rfl hl.1 rfl (Nat.le_of_ble_eq_true rfl) dM_setup_8 ⟨Nat.zero_le _, Nat.zero_le _⟩) ?_
  refine z_if_eq F (by omega) (tgt := 37) dM_setup_11 rfl (fun h => absurd h (by decide)) (fun h => ?_)
  refine lv_iload_n F.1 F.2.1 dM_setup_14 rfl (lv_at hl 3 rfl) ?_
  refine z_call (z_runS [.int (nI b2)] [] F (c_isUnit_t l b2 pb2 hb2) kk_M_isUnit wl_M_93 rfl rfl ⟨Nat.le_of_ble_eq_true rfl, Nat.le_of_ble_eq_true rfl⟩ z_preN rfl hl.1 rfl (Nat.le_of_ble_eq_true rfl) dM_setup_15 ⟨Nat.zero_le _, Nat.zero_le _⟩) ?_
  refine z_if_eq F (by omega) (tgt := 37) dM_setup_18 rfl (fun h => absurd h (by decide)) (fun h => ?_)
  refine lv_iload F.1 F.2.1 dM_setup_21 (lv_at hl 4 rfl) ?_
  refine z_call (z_runS [.int (nI g2)] [] F (c_isUnit_t l g2 pg2 hg2) kk_M_isUnit wl_M_93 rfl rfl ⟨Nat.le_of_ble_eq_true rfl, Nat.le_of_ble_eq_true rfl⟩ z_preN rfl hl.1 rfl (Nat.le_of_ble_eq_true rfl) dM_setup_23 ⟨Nat.zero_le _, Nat.zero_le _⟩) ?_
  refine z_if_eq F (by omega) (tgt := 37) dM_setup_26 rfl (fun h => absurd h (by decide)) (fun h => ?_)
  refine lv_iload F.1 F.2.1 dM_setup_29 (lv_at hl 5 rfl) ?_
  refine z_call (z_runS [.int (nI d2)] [] F (c_isUnit_t l d2 pd2 hd2) kk_M_isUnit wl_M_93 rfl rfl ⟨Nat.le_of_ble_eq_true rfl, Nat.le_of_ble_eq_true rfl⟩ z_preN rfl hl.1 rfl (Nat.le_of_ble_eq_true rfl) dM_setup_31 ⟨Nat.zero_le _, Nat.zero_le _⟩) ?_
  refine z_if_ne F (by omega) (tgt := 45) dM_setup_34 rfl (fun h => ?_) (fun h => absurd h (by decide))
  refine lv_aload_n F.1 F.2.1 dM_setup_45 rfl (lv_at hl 0 rfl) ?_
  refine z_get F hK hP hinM 0 rfl rfl 1 (by decide) rfl wf_M_19 rfl dM_setup_46 ?_
  refine lv_iload_n F.1 F.2.1 dM_setup_49 rfl (lv_at hl 1 rfl) ?_
  refine z_call (z_runV [.int (nI t2)] [] F (c_vanishingAt l dC dI cI cL _ 2 xD xB (szN cn) (iv (szN cn)) t2 rfl (by omega) (Nat.lt_trans (ht2) (by decide))) kk_D_vanishingAt wl_M_97 rfl rfl ⟨Nat.le_of_ble_eq_true rfl, Nat.le_of_ble_eq_true rfl⟩ (z_preVR (q := (RD, TD, 3)) hP hK rfl (q0 := 2) rfl) rfl hl.1 rfl (Nat.le_of_ble_eq_true rfl) dM_setup_50 ⟨Nat.zero_le _, Nat.zero_le _⟩) ?_
  refine z_if_ne F (Nat.lt_trans (van_lt _ _) (by decide)) (tgt := 64) dM_setup_53 rfl (fun h => ?_) (fun h => absurd h hv)
  refine lv_aload_n F.1 F.2.1 dM_setup_64 rfl (lv_at hl 0 rfl) ?_
  refine z_get F hK hP hinM 0 rfl rfl 2 (by decide) rfl wf_M_26 rfl dM_setup_65 ?_
  refine lv_iload_n F.1 F.2.1 dM_setup_68 rfl (lv_at hl 1 rfl) ?_
  refine lv_iload_n F.1 F.2.1 dM_setup_69 rfl (lv_at hl 2 rfl) ?_
  refine lv_iload_n F.1 F.2.1 dM_setup_70 rfl (lv_at hl 3 rfl) ?_
  refine lv_iload F.1 F.2.1 dM_setup_71 (lv_at hl 4 rfl) ?_
  refine lv_iload F.1 F.2.1 dM_setup_73 (lv_at hl 5 rfl) ?_
  have hPc := hP.sub (ws' := [(xK, .inr (2, [.ref xW, .ref xX, .int (z_b md), .int (nI ta), .int (nI al), .int (nI be), .int (nI ga), .int (nI de), .int (nI va)])), (x0, .inr (4, [.ref xC, .ref xD, .ref xK, .ref xQ, .ref xV, .ref xI, .int (nI pb), .ref xL, .ref xR, .ref xS, .ref xT])), (xC, .inr (0, [.ref xA, .int (nI cn)])), (xD, .inr (1, [.ref xB, .int (nI (szN cn)), .int (nI (iv (szN cn)))])), (xQ, .inr (3, [.ref xE, .ref xF, .int (z_b pd)])), (xV, .inl (cI, 16, .inl (fun x9 => nI (v x9)))), (xI, .inl (cI, 7, .inl (fun x9 => nI (inp x9)))), (xL, .inl (cI, 16, .inl (fun x9 => nI (sL x9)))), (xR, .inl (cI, 16, .inl (fun x9 => nI (sR x9)))), (xS, .inl (cI, 16, .inl (fun x9 => nI (sS x9)))), (xT, .inl (cI, 16, .inl (fun x9 => nI (sT x9)))), (xA, .inl (cI, 816, .inl (fun x9 => nI (f x9)))), (xB, .inl (cI, 16, .inl (fun x9 => nI (bb x9)))), (xW, .inl (cI, 16, .inl (fun x9 => nI (w x9)))), (xX, .inl (cI, 16, .inl (fun x9 => nI (mx x9)))), (xE, .inl (cI, 3, .inl (fun x9 => nI (el x9)))), (xF, .inl (cI, 16, .inl (fun x9 => nI (qt x9))))]) [3, 0, 1, 2, 4, 5, 6, 7, 8, 9, 10, 11, 12, 13, 14, 15, 16] rfl
  have hDc := hD.sub (ws' := [(xK, .inr (2, [.ref xW, .ref xX, .int (z_b md), .int (nI ta), .int (nI al), .int (nI be), .int (nI ga), .int (nI de), .int (nI va)])), (x0, .inr (4, [.ref xC, .ref xD, .ref xK, .ref xQ, .ref xV, .ref xI, .int (nI pb), .ref xL, .ref xR, .ref xS, .ref xT])), (xC, .inr (0, [.ref xA, .int (nI cn)])), (xD, .inr (1, [.ref xB, .int (nI (szN cn)), .int (nI (iv (szN cn)))])), (xQ, .inr (3, [.ref xE, .ref xF, .int (z_b pd)])), (xV, .inl (cI, 16, .inl (fun x9 => nI (v x9)))), (xI, .inl (cI, 7, .inl (fun x9 => nI (inp x9)))), (xL, .inl (cI, 16, .inl (fun x9 => nI (sL x9)))), (xR, .inl (cI, 16, .inl (fun x9 => nI (sR x9)))), (xS, .inl (cI, 16, .inl (fun x9 => nI (sS x9)))), (xT, .inl (cI, 16, .inl (fun x9 => nI (sT x9)))), (xA, .inl (cI, 816, .inl (fun x9 => nI (f x9)))), (xB, .inl (cI, 16, .inl (fun x9 => nI (bb x9)))), (xW, .inl (cI, 16, .inl (fun x9 => nI (w x9)))), (xX, .inl (cI, 16, .inl (fun x9 => nI (mx x9)))), (xE, .inl (cI, 3, .inl (fun x9 => nI (el x9)))), (xF, .inl (cI, 16, .inl (fun x9 => nI (qt x9))))]) [3, 0, 1, 2, 4, 5, 6, 7, 8, 9, 10, 11, 12, 13, 14, 15, 16] (by decide) rfl
  refine z_callW (z_runV [.int (nI t2), .int (nI a2), .int (nI b2), .int (nI g2), .int (nI d2)] [] F (ck_take l dC dI cI cL [(x0, .inr (4, [.ref xC, .ref xD, .ref xK, .ref xQ, .ref xV, .ref xI, .int (nI pb), .ref xL, .ref xR, .ref xS, .ref xT])), (xC, .inr (0, [.ref xA, .int (nI cn)])), (xD, .inr (1, [.ref xB, .int (nI (szN cn)), .int (nI (iv (szN cn)))])), (xQ, .inr (3, [.ref xE, .ref xF, .int (z_b pd)])), (xV, .inl (cI, 16, .inl (fun x9 => nI (v x9)))), (xI, .inl (cI, 7, .inl (fun x9 => nI (inp x9)))), (xL, .inl (cI, 16, .inl (fun x9 => nI (sL x9)))), (xR, .inl (cI, 16, .inl (fun x9 => nI (sR x9)))), (xS, .inl (cI, 16, .inl (fun x9 => nI (sS x9)))), (xT, .inl (cI, 16, .inl (fun x9 => nI (sT x9)))), (xA, .inl (cI, 816, .inl (fun x9 => nI (f x9)))), (xB, .inl (cI, 16, .inl (fun x9 => nI (bb x9)))), (xW, .inl (cI, 16, .inl (fun x9 => nI (w x9)))), (xX, .inl (cI, 16, .inl (fun x9 => nI (mx x9)))), (xE, .inl (cI, 3, .inl (fun x9 => nI (el x9)))), (xF, .inl (cI, 16, .inl (fun x9 => nI (qt x9))))] s.heap.size xK xW xX ta al be ga de va md t2 a2 b2 g2 d2) kk_K_take wl_M_104 rfl rfl ⟨Nat.le_of_ble_eq_true rfl, Nat.le_of_ble_eq_true rfl⟩ (z_preVP (q := (RK, TK, 9)) hPc hK hDc rfl (q0 := 0) rfl) rfl hl.1 rfl (Nat.le_of_ble_eq_true rfl) dM_setup_75 ⟨Nat.zero_le _, Nat.zero_le _⟩) hDc hS hAA (fun H locs hP hD hS => ?_)
  have hP : va_P (dC, dI) vwCl [(x0, .inr (4, [.ref xC, .ref xD, .ref xK, .ref xQ, .ref xV, .ref xI, .int (nI pb), .ref xL, .ref xR, .ref xS, .ref xT])), (xC, .inr (0, [.ref xA, .int (nI cn)])), (xD, .inr (1, [.ref xB, .int (nI (szN cn)), .int (nI (iv (szN cn)))])), (xK, .inr (2, [.ref xW, .ref xX, .int (z_b md), .int (nI t2), .int (nI a2), .int (nI b2), .int (nI g2), .int (nI d2), .int (nI va)])), (xQ, .inr (3, [.ref xE, .ref xF, .int (z_b pd)])), (xV, .inl (cI, 16, .inl (fun x9 => nI (v x9)))), (xI, .inl (cI, 7, .inl (fun x9 => nI (inp x9)))), (xL, .inl (cI, 16, .inl (fun x9 => nI (sL x9)))), (xR, .inl (cI, 16, .inl (fun x9 => nI (sR x9)))), (xS, .inl (cI, 16, .inl (fun x9 => nI (sS x9)))), (xT, .inl (cI, 16, .inl (fun x9 => nI (sT x9)))), (xA, .inl (cI, 816, .inl (fun x9 => nI (f x9)))), (xB, .inl (cI, 16, .inl (fun x9 => nI (bb x9)))), (xW, .inl (cI, 16, .inl (fun x9 => nI (w x9)))), (xX, .inl (cI, 16, .inl (fun x9 => nI (mx x9)))), (xE, .inl (cI, 3, .inl (fun x9 => nI (el x9)))), (xF, .inl (cI, 16, .inl (fun x9 => nI (qt x9))))] H := hP.sub [1, 2, 3, 0, 4, 5, 6, 7, 8, 9, 10, 11, 12, 13, 14, 15, 16] rfl
  have hD : va_D A [(x0, .inr (4, [.ref xC, .ref xD, .ref xK, .ref xQ, .ref xV, .ref xI, .int (nI pb), .ref xL, .ref xR, .ref xS, .ref xT])), (xC, .inr (0, [.ref xA, .int (nI cn)])), (xD, .inr (1, [.ref xB, .int (nI (szN cn)), .int (nI (iv (szN cn)))])), (xK, .inr (2, [.ref xW, .ref xX, .int (z_b md), .int (nI t2), .int (nI a2), .int (nI b2), .int (nI g2), .int (nI d2), .int (nI va)])), (xQ, .inr (3, [.ref xE, .ref xF, .int (z_b pd)])), (xV, .inl (cI, 16, .inl (fun x9 => nI (v x9)))), (xI, .inl (cI, 7, .inl (fun x9 => nI (inp x9)))), (xL, .inl (cI, 16, .inl (fun x9 => nI (sL x9)))), (xR, .inl (cI, 16, .inl (fun x9 => nI (sR x9)))), (xS, .inl (cI, 16, .inl (fun x9 => nI (sS x9)))), (xT, .inl (cI, 16, .inl (fun x9 => nI (sT x9)))), (xA, .inl (cI, 816, .inl (fun x9 => nI (f x9)))), (xB, .inl (cI, 16, .inl (fun x9 => nI (bb x9)))), (xW, .inl (cI, 16, .inl (fun x9 => nI (w x9)))), (xX, .inl (cI, 16, .inl (fun x9 => nI (mx x9)))), (xE, .inl (cI, 3, .inl (fun x9 => nI (el x9)))), (xF, .inl (cI, 16, .inl (fun x9 => nI (qt x9))))] := hD.sub [1, 2, 3, 0, 4, 5, 6, 7, 8, 9, 10, 11, 12, 13, 14, 15, 16] (by decide) rfl
  refine lv_aload_n F.1 F.2.1 dM_setup_78 rfl (lv_at hl 0 rfl) ?_
  refine z_get F hK hP hinM 0 rfl rfl 2 (by decide) rfl wf_M_26 rfl dM_setup_79 ?_
  refine lv_aload_n F.1 F.2.1 dM_setup_82 rfl (lv_at hl 0 rfl) ?_
  refine z_get F hK hP hinM 0 rfl rfl 0 (by decide) rfl wf_M_10 rfl dM_setup_83 ?_
  refine lv_aload_n F.1 F.2.1 dM_setup_86 rfl (lv_at hl 0 rfl) ?_
  refine z_get F hK hP hinM 0 rfl rfl 1 (by decide) rfl wf_M_19 rfl dM_setup_87 ?_
  have hPc := hP.sub (ws' := [(xK, .inr (2, [.ref xW, .ref xX, .int (z_b md), .int (nI t2), .int (nI a2), .int (nI b2), .int (nI g2), .int (nI d2), .int (nI va)])), (xW, .inl (cI, 16, .inl (fun x9 => nI (w x9)))), (xX, .inl (cI, 16, .inl (fun x9 => nI (mx x9)))), (xC, .inr (0, [.ref xA, .int (nI cn)])), (xA, .inl (cI, 816, .inl (fun x9 => nI (f x9)))), (xD, .inr (1, [.ref xB, .int (nI (szN cn)), .int (nI (iv (szN cn)))])), (xB, .inl (cI, 16, .inl (fun x9 => nI (bb x9)))), (x0, .inr (4, [.ref xC, .ref xD, .ref xK, .ref xQ, .ref xV, .ref xI, .int (nI pb), .ref xL, .ref xR, .ref xS, .ref xT])), (xQ, .inr (3, [.ref xE, .ref xF, .int (z_b pd)])), (xV, .inl (cI, 16, .inl (fun x9 => nI (v x9)))), (xI, .inl (cI, 7, .inl (fun x9 => nI (inp x9)))), (xL, .inl (cI, 16, .inl (fun x9 => nI (sL x9)))), (xR, .inl (cI, 16, .inl (fun x9 => nI (sR x9)))), (xS, .inl (cI, 16, .inl (fun x9 => nI (sS x9)))), (xT, .inl (cI, 16, .inl (fun x9 => nI (sT x9)))), (xE, .inl (cI, 3, .inl (fun x9 => nI (el x9)))), (xF, .inl (cI, 16, .inl (fun x9 => nI (qt x9))))]) [3, 13, 14, 1, 11, 2, 12, 0, 4, 5, 6, 7, 8, 9, 10, 15, 16] rfl
  have hDc := hD.sub (ws' := [(xK, .inr (2, [.ref xW, .ref xX, .int (z_b md), .int (nI t2), .int (nI a2), .int (nI b2), .int (nI g2), .int (nI d2), .int (nI va)])), (xW, .inl (cI, 16, .inl (fun x9 => nI (w x9)))), (xX, .inl (cI, 16, .inl (fun x9 => nI (mx x9)))), (xC, .inr (0, [.ref xA, .int (nI cn)])), (xA, .inl (cI, 816, .inl (fun x9 => nI (f x9)))), (xD, .inr (1, [.ref xB, .int (nI (szN cn)), .int (nI (iv (szN cn)))])), (xB, .inl (cI, 16, .inl (fun x9 => nI (bb x9)))), (x0, .inr (4, [.ref xC, .ref xD, .ref xK, .ref xQ, .ref xV, .ref xI, .int (nI pb), .ref xL, .ref xR, .ref xS, .ref xT])), (xQ, .inr (3, [.ref xE, .ref xF, .int (z_b pd)])), (xV, .inl (cI, 16, .inl (fun x9 => nI (v x9)))), (xI, .inl (cI, 7, .inl (fun x9 => nI (inp x9)))), (xL, .inl (cI, 16, .inl (fun x9 => nI (sL x9)))), (xR, .inl (cI, 16, .inl (fun x9 => nI (sR x9)))), (xS, .inl (cI, 16, .inl (fun x9 => nI (sS x9)))), (xT, .inl (cI, 16, .inl (fun x9 => nI (sT x9)))), (xE, .inl (cI, 3, .inl (fun x9 => nI (el x9)))), (xF, .inl (cI, 16, .inl (fun x9 => nI (qt x9))))]) [3, 13, 14, 1, 11, 2, 12, 0, 4, 5, 6, 7, 8, 9, 10, 15, 16] (by decide) rfl
  refine z_callW (z_runV [.ref xC, .ref xD] [] F (ck_mixAll l dC dI cI cL [(x0, .inr (4, [.ref xC, .ref xD, .ref xK, .ref xQ, .ref xV, .ref xI, .int (nI pb), .ref xL, .ref xR, .ref xS, .ref xT])), (xQ, .inr (3, [.ref xE, .ref xF, .int (z_b pd)])), (xV, .inl (cI, 16, .inl (fun x9 => nI (v x9)))), (xI, .inl (cI, 7, .inl (fun x9 => nI (inp x9)))), (xL, .inl (cI, 16, .inl (fun x9 => nI (sL x9)))), (xR, .inl (cI, 16, .inl (fun x9 => nI (sR x9)))), (xS, .inl (cI, 16, .inl (fun x9 => nI (sS x9)))), (xT, .inl (cI, 16, .inl (fun x9 => nI (sT x9)))), (xE, .inl (cI, 3, .inl (fun x9 => nI (el x9)))), (xF, .inl (cI, 16, .inl (fun x9 => nI (qt x9))))] H.size xK xW xX t2 a2 b2 g2 d2 va md xC xA cn xD xB (szN cn) (iv (szN cn)) w mx f bb hf hbb (iv_lt _) hhi hn ht2 ha2 hb2) kk_K_mixAll wl_M_108 rfl rfl ⟨Nat.le_of_ble_eq_true rfl, Nat.le_of_ble_eq_true rfl⟩ (z_preVP (q := (RK, TK, 9)) hPc hK hDc rfl (q0 := 0) rfl) rfl hl.1 rfl (Nat.le_of_ble_eq_true rfl) dM_setup_90 ⟨Nat.zero_le _, Nat.zero_le _⟩) hDc hS hAA (fun H locs hP hD hS => ?_)
  have hP : va_P (dC, dI) vwCl [(x0, .inr (4, [.ref xC, .ref xD, .ref xK, .ref xQ, .ref xV, .ref xI, .int (nI pb), .ref xL, .ref xR, .ref xS, .ref xT])), (xC, .inr (0, [.ref xA, .int (nI cn)])), (xD, .inr (1, [.ref xB, .int (nI (szN cn)), .int (nI (iv (szN cn)))])), (xK, .inr (2, [.ref xW, .ref xX, .int (z_b true), .int (nI t2), .int (nI a2), .int (nI b2), .int (nI g2), .int (nI d2), .int (nI (van t2 (szN cn)))])), (xQ, .inr (3, [.ref xE, .ref xF, .int (z_b pd)])), (xV, .inl (cI, 16, .inl (fun x9 => nI (v x9)))), (xI, .inl (cI, 7, .inl (fun x9 => nI (inp x9)))), (xL, .inl (cI, 16, .inl (fun x9 => nI (sL x9)))), (xR, .inl (cI, 16, .inl (fun x9 => nI (sR x9)))), (xS, .inl (cI, 16, .inl (fun x9 => nI (sS x9)))), (xT, .inl (cI, 16, .inl (fun x9 => nI (sT x9)))), (xA, .inl (cI, 816, .inl (fun x9 => nI (f x9)))), (xB, .inl (cI, 16, .inl (fun x9 => nI (bb x9)))), (xW, .inl (cI, 16, .inl (fun x9 => nI ((wts (szN cn) (iv (szN cn)) t2 bb) x9)))), (xX, .inl (cI, 16, .inl (fun x9 => nI ((mxs cn a2 b2 f (wts (szN cn) (iv (szN cn)) t2 bb)) x9)))), (xE, .inl (cI, 3, .inl (fun x9 => nI (el x9)))), (xF, .inl (cI, 16, .inl (fun x9 => nI (qt x9))))] H := hP.sub [7, 3, 5, 0, 8, 9, 10, 11, 12, 13, 14, 4, 6, 1, 2, 15, 16] rfl
  have hD : va_D A [(x0, .inr (4, [.ref xC, .ref xD, .ref xK, .ref xQ, .ref xV, .ref xI, .int (nI pb), .ref xL, .ref xR, .ref xS, .ref xT])), (xC, .inr (0, [.ref xA, .int (nI cn)])), (xD, .inr (1, [.ref xB, .int (nI (szN cn)), .int (nI (iv (szN cn)))])), (xK, .inr (2, [.ref xW, .ref xX, .int (z_b true), .int (nI t2), .int (nI a2), .int (nI b2), .int (nI g2), .int (nI d2), .int (nI (van t2 (szN cn)))])), (xQ, .inr (3, [.ref xE, .ref xF, .int (z_b pd)])), (xV, .inl (cI, 16, .inl (fun x9 => nI (v x9)))), (xI, .inl (cI, 7, .inl (fun x9 => nI (inp x9)))), (xL, .inl (cI, 16, .inl (fun x9 => nI (sL x9)))), (xR, .inl (cI, 16, .inl (fun x9 => nI (sR x9)))), (xS, .inl (cI, 16, .inl (fun x9 => nI (sS x9)))), (xT, .inl (cI, 16, .inl (fun x9 => nI (sT x9)))), (xA, .inl (cI, 816, .inl (fun x9 => nI (f x9)))), (xB, .inl (cI, 16, .inl (fun x9 => nI (bb x9)))), (xW, .inl (cI, 16, .inl (fun x9 => nI ((wts (szN cn) (iv (szN cn)) t2 bb) x9)))), (xX, .inl (cI, 16, .inl (fun x9 => nI ((mxs cn a2 b2 f (wts (szN cn) (iv (szN cn)) t2 bb)) x9)))), (xE, .inl (cI, 3, .inl (fun x9 => nI (el x9)))), (xF, .inl (cI, 16, .inl (fun x9 => nI (qt x9))))] := hD.sub [7, 3, 5, 0, 8, 9, 10, 11, 12, 13, 14, 4, 6, 1, 2, 15, 16] (by decide) rfl
  refine lv_aload_n F.1 F.2.1 dM_setup_93 rfl (lv_at hl 0 rfl) ?_
  refine z_get F hK hP hinM 0 rfl rfl 1 (by decide) rfl wf_M_19 rfl dM_setup_94 ?_
  refine z_call (z_runV [] [] F (c_size l dC dI cI cL _ 2 xD xB (szN cn) (iv (szN cn)) rfl) kk_D_size wl_M_112 rfl rfl ⟨Nat.le_of_ble_eq_true rfl, Nat.le_of_ble_eq_true rfl⟩ (z_preVR (q := (RD, TD, 3)) hP hK rfl (q0 := 2) rfl) rfl hl.1 rfl (Nat.le_of_ble_eq_true rfl) dM_setup_97 ⟨Nat.zero_le _, Nat.zero_le _⟩) ?_
  exact W.iret F.1 F.2.1 hr (fun t ht hW => ⟨rfl, by rw [ht]; exact hP, va_K.moved hW.alike hK, hD, hS.F ht⟩) hS.2.2 dM_setup_100
set_option maxHeartbeats 4000000 in
set_option maxRecDepth 100000 in
theorem cm_makeElements (l : Launch) (dC : Nat → ClassId) (dI : Nat → Nat → Nat) (cI cL : ClassId) (zz : Nat) (x0 xC xD xK xQ xV xI xL xR xS xT xA xB xW xX xE xF : Nat) (pb cn ta al be ga de va : Nat) (md pd : Bool) (v inp sL sR sS sT f bb w mx el qt : Nat → Nat) (x y : Nat) (hsL : ∀ j, sL j < 998244353) (hsR : ∀ j, sR j < 998244353) (hv : ∀ j, v j < 998244353) (hw : ∀ j, w j < 998244353) (hmx : ∀ j, mx j < 998244353) (hqt : ∀ j, qt j < 998244353) (hx : x < 998244353) (hy : y < 998244353) (hal : al < 998244353) (hbe : be < 998244353) (hde : de < 998244353) (hta : ta < 998244353) (hva : va < 998244353) (hpb : pb ≤ 6) : Met l yM_makeElements (zW yM_makeElements cM_makeElements 8 none) ({ frames := 3, cells := 0, slots := 0, locals := 66 }) (va_Pc [.ref x0, .int (nI x), .int (nI y)] (z_P (dC, dI) vwCl [(cI, .int), (cL, .long)] zz ([(x0, .inr (4, [.ref xC, .ref xD, .ref xK, .ref xQ, .ref xV, .ref xI, .int (nI pb), .ref xL, .ref xR, .ref xS, .ref xT])), (xC, .inr (0, [.ref xA, .int (nI cn)])), (xD, .inr (1, [.ref xB, .int (nI (szN cn)), .int (nI (iv (szN cn)))])), (xK, .inr (2, [.ref xW, .ref xX, .int (z_b md), .int (nI ta), .int (nI al), .int (nI be), .int (nI ga), .int (nI de), .int (nI va)])), (xQ, .inr (3, [.ref xE, .ref xF, .int (z_b pd)])), (xV, .inl (cI, 16, .inl (fun x9 => nI (v x9)))), (xI, .inl (cI, 7, .inl (fun x9 => nI (inp x9)))), (xL, .inl (cI, 16, .inl (fun x9 => nI (sL x9)))), (xR, .inl (cI, 16, .inl (fun x9 => nI (sR x9)))), (xS, .inl (cI, 16, .inl (fun x9 => nI (sS x9)))), (xT, .inl (cI, 16, .inl (fun x9 => nI (sT x9)))), (xA, .inl (cI, 816, .inl (fun x9 => nI (f x9)))), (xB, .inl (cI, 16, .inl (fun x9 => nI (bb x9)))), (xW, .inl (cI, 16, .inl (fun x9 => nI (w x9)))), (xX, .inl (cI, 16, .inl (fun x9 => nI (mx x9)))), (xE, .inl (cI, 3, .inl (fun x9 => nI (el x9)))), (xF, .inl (cI, 16, .inl (fun x9 => nI (qt x9))))]))) (z_Q (dC, dI) vwCl [(cI, .int), (cL, .long)] none ([(x0, .inr (4, [.ref xC, .ref xD, .ref xK, .ref xQ, .ref xV, .ref xI, .int (nI pb), .ref xL, .ref xR, .ref xS, .ref xT])), (xC, .inr (0, [.ref xA, .int (nI cn)])), (xD, .inr (1, [.ref xB, .int (nI (szN cn)), .int (nI (iv (szN cn)))])), (xK, .inr (2, [.ref xW, .ref xX, .int (z_b md), .int (nI ta), .int (nI al), .int (nI be), .int (nI ga), .int (nI de), .int (nI va)])), (xQ, .inr (3, [.ref xE, .ref xF, .int (z_b true)])), (xV, .inl (cI, 16, .inl (fun x9 => nI (v x9)))), (xI, .inl (cI, 7, .inl (fun x9 => nI (inp x9)))), (xL, .inl (cI, 16, .inl (fun x9 => nI (sL x9)))), (xR, .inl (cI, 16, .inl (fun x9 => nI (sR x9)))), (xS, .inl (cI, 16, .inl (fun x9 => nI (sS x9)))), (xT, .inl (cI, 16, .inl (fun x9 => nI (sT x9)))), (xA, .inl (cI, 816, .inl (fun x9 => nI (f x9)))), (xB, .inl (cI, 16, .inl (fun x9 => nI (bb x9)))), (xW, .inl (cI, 16, .inl (fun x9 => nI (w x9)))), (xX, .inl (cI, 16, .inl (fun x9 => nI (mx x9)))), (xE, .inl (cI, 3, .inl (fun x9 => nI ((va_up (va_up (va_up el 0 (mkA al de x sL w)) 1 (mkA be de y sR w)) 2 (mkC (mkH pb ta va v mx qt) de (mkA al de x sL w) (mkA be de y sR w) x y)) x9)))), (xF, .inl (cI, 16, .inl (fun x9 => nI (qt x9))))]) (va_A ([(x0, .inr (4, [.ref xC, .ref xD, .ref xK, .ref xQ, .ref xV, .ref xI, .int (nI pb), .ref xL, .ref xR, .ref xS, .ref xT])), (xC, .inr (0, [.ref xA, .int (nI cn)])), (xD, .inr (1, [.ref xB, .int (nI (szN cn)), .int (nI (iv (szN cn)))])), (xK, .inr (2, [.ref xW, .ref xX, .int (z_b md), .int (nI ta), .int (nI al), .int (nI be), .int (nI ga), .int (nI de), .int (nI va)])), (xQ, .inr (3, [.ref xE, .ref xF, .int (z_b pd)])), (xV, .inl (cI, 16, .inl (fun x9 => nI (v x9)))), (xI, .inl (cI, 7, .inl (fun x9 => nI (inp x9)))), (xL, .inl (cI, 16, .inl (fun x9 => nI (sL x9)))), (xR, .inl (cI, 16, .inl (fun x9 => nI (sR x9)))), (xS, .inl (cI, 16, .inl (fun x9 => nI (sS x9)))), (xT, .inl (cI, 16, .inl (fun x9 => nI (sT x9)))), (xA, .inl (cI, 816, .inl (fun x9 => nI (f x9)))), (xB, .inl (cI, 16, .inl (fun x9 => nI (bb x9)))), (xW, .inl (cI, 16, .inl (fun x9 => nI (w x9)))), (xX, .inl (cI, 16, .inl (fun x9 => nI (mx x9)))), (xE, .inl (cI, 3, .inl (fun x9 => nI (el x9)))), (xF, .inl (cI, 16, .inl (fun x9 => nI (qt x9))))]) zz)) 0 0 (va_A ([(x0, .inr (4, [.ref xC, .ref xD, .ref xK, .ref xQ, .ref xV, .ref xI, .int (nI pb), .ref xL, .ref xR, .ref xS, .ref xT])), (xC, .inr (0, [.ref xA, .int (nI cn)])), (xD, .inr (1, [.ref xB, .int (nI (szN cn)), .int (nI (iv (szN cn)))])), (xK, .inr (2, [.ref xW, .ref xX, .int (z_b md), .int (nI ta), .int (nI al), .int (nI be), .int (nI ga), .int (nI de), .int (nI va)])), (xQ, .inr (3, [.ref xE, .ref xF, .int (z_b pd)])), (xV, .inl (cI, 16, .inl (fun x9 => nI (v x9)))), (xI, .inl (cI, 7, .inl (fun x9 => nI (inp x9)))), (xL, .inl (cI, 16, .inl (fun x9 => nI (sL x9)))), (xR, .inl (cI, 16, .inl (fun x9 => nI (sR x9)))), (xS, .inl (cI, 16, .inl (fun x9 => nI (sS x9)))), (xT, .inl (cI, 16, .inl (fun x9 => nI (sT x9)))), (xA, .inl (cI, 816, .inl (fun x9 => nI (f x9)))), (xB, .inl (cI, 16, .inl (fun x9 => nI (bb x9)))), (xW, .inl (cI, 16, .inl (fun x9 => nI (w x9)))), (xX, .inl (cI, 16, .inl (fun x9 => nI (mx x9)))), (xE, .inl (cI, 3, .inl (fun x9 => nI (el x9)))), (xF, .inl (cI, 16, .inl (fun x9 => nI (qt x9))))]) zz) := by
  refine Met.ofW (cc := cM_makeElements) (maxL := 8) (ret := none) (by decide) rfl ?_
  intro p e s m args below meth c s₁ B hml hv
  obtain ⟨rfl, hsz, hP, hK, hD0⟩ := hv
  have F : CallFix p m c cM_makeElements 8 s _ zT RM := ⟨B.exec, B.bytes, hml, findClass_of_methodNamed B.named, fun w h => atoms_spec (ws := (zW yM_makeElements cM_makeElements 8 none)) B.pre w (List.mem_cons_of_mem _ h)⟩
  have hr := B.returns
  have hlocks := B.notSynchronized
  subst hsz
  have hD := hD0.self (sz := s.heap.size)
  generalize hAe : va_A ([(x0, .inr (4, [.ref xC, .ref xD, .ref xK, .ref xQ, .ref xV, .ref xI, .int (nI pb), .ref xL, .ref xR, .ref xS, .ref xT])), (xC, .inr (0, [.ref xA, .int (nI cn)])), (xD, .inr (1, [.ref xB, .int (nI (szN cn)), .int (nI (iv (szN cn)))])), (xK, .inr (2, [.ref xW, .ref xX, .int (z_b md), .int (nI ta), .int (nI al), .int (nI be), .int (nI ga), .int (nI de), .int (nI va)])), (xQ, .inr (3, [.ref xE, .ref xF, .int (z_b pd)])), (xV, .inl (cI, 16, .inl (fun x9 => nI (v x9)))), (xI, .inl (cI, 7, .inl (fun x9 => nI (inp x9)))), (xL, .inl (cI, 16, .inl (fun x9 => nI (sL x9)))), (xR, .inl (cI, 16, .inl (fun x9 => nI (sR x9)))), (xS, .inl (cI, 16, .inl (fun x9 => nI (sS x9)))), (xT, .inl (cI, 16, .inl (fun x9 => nI (sT x9)))), (xA, .inl (cI, 816, .inl (fun x9 => nI (f x9)))), (xB, .inl (cI, 16, .inl (fun x9 => nI (bb x9)))), (xW, .inl (cI, 16, .inl (fun x9 => nI (w x9)))), (xX, .inl (cI, 16, .inl (fun x9 => nI (mx x9)))), (xE, .inl (cI, 3, .inl (fun x9 => nI (el x9)))), (xF, .inl (cI, 16, .inl (fun x9 => nI (qt x9))))]) s.heap.size = A at hD ⊢
  have hAA : ∀ q : Nat, s.heap.size ≤ q → A q := fun q h => by rw [← hAe]; exact Or.inr h
  have hS : va_S A s.heap s.heap [] := va_S.rf
  have hl := lv_entry ([.ref x0, .int (nI x), .int (nI y)]) (n := 8) (Nat.le_of_ble_eq_true rfl)
  rw [lg_entry_eq]
  generalize (lg_sl ([.ref x0, .int (nI x), .int (nI y)]) ++ List.replicate (8 - (lg_sl ([.ref x0, .int (nI x), .int (nI y)])).length) Slot.unset).toArray = ls at hl ⊢
  have hl : lv_has ls 8 [(0, .ref x0), (1, .int (nI x)), (2, .int (nI y))] := hl
  refine lv_aload_n F.1 F.2.1 dM_makeElements_0 rfl (lv_at hl 0 rfl) ?_
  refine z_get F hK hP hinM 0 rfl rfl 2 (by decide) rfl wf_M_26 rfl dM_makeElements_1 ?_
  refine z_call (z_runV [] [] F (ck_delta l dC dI cI cL _ 3 xK xW xX ta al be ga de va md rfl) kk_K_delta wl_M_135 rfl rfl ⟨Nat.le_of_ble_eq_true rfl, Nat.le_of_ble_eq_true rfl⟩ (z_preVR (q := (RK, TK, 9)) hP hK rfl (q0 := 3) rfl) rfl hl.1 rfl (Nat.le_of_ble_eq_true rfl) dM_makeElements_4 ⟨Nat.zero_le _, Nat.zero_le _⟩) ?_
  refine lv_istore_n F.1 F.2.1 (lv' := [(3, .int (nI de)), (0, .ref x0), (1, .int (nI x)), (2, .int (nI y))]) dM_makeElements_7 rfl hl (by decide) rfl (fun ls hl => ?_)
  refine lv_aload_n F.1 F.2.1 dM_makeElements_8 rfl (lv_at hl 1 rfl) ?_
  refine z_get F hK hP hinM 0 rfl rfl 2 (by decide) rfl wf_M_26 rfl dM_makeElements_9 ?_
  refine lv_aload_n F.1 F.2.1 dM_makeElements_12 rfl (lv_at hl 1 rfl) ?_
  refine z_get F hK hP hinM 0 rfl rfl 7 (by decide) rfl wf_M_44 rfl dM_makeElements_13 ?_
  refine z_call (z_runV [.ref xL] [] F (ck_firstElement l dC dI cI cL _ 3 13 7 xK xW xX ta al be ga de va md xL w sL rfl rfl rfl hsL hw hal) kk_K_firstElement wl_M_138 rfl rfl ⟨Nat.le_of_ble_eq_true rfl, Nat.le_of_ble_eq_true rfl⟩ (z_preVR (q := (RK, TK, 9)) hP hK rfl (q0 := 3) rfl) rfl hl.1 rfl (Nat.le_of_ble_eq_true rfl) dM_makeElements_16 ⟨Nat.zero_le _, Nat.zero_le _⟩) ?_
  refine lv_iload_n F.1 F.2.1 dM_makeElements_19 rfl (lv_at hl 2 rfl) ?_
  refine lv_iload_n F.1 F.2.1 dM_makeElements_20 rfl (lv_at hl 0 rfl) ?_
  refine z_call (z_runS [.int (nI x), .int (nI de)] [.int (nI ((al + sg 16 (fun t => sL t * w t) % 998244353) % 998244353))] F (c_product l (x) (de) (Nat.lt_trans (hx) (by decide)) (Nat.lt_trans (hde) (by decide))) kk_F_product wl_M_141 rfl rfl ⟨Nat.le_of_ble_eq_true rfl, Nat.le_of_ble_eq_true rfl⟩ z_preN rfl hl.1 rfl (Nat.le_of_ble_eq_true rfl) dM_makeElements_21 ⟨Nat.zero_le _, Nat.zero_le _⟩) ?_
  refine z_call (z_runS [.int (nI ((al + sg 16 (fun t => sL t * w t) % 998244353) % 998244353)), .int (nI (x * de % 998244353))] [] F (c_sum l ((al + sg 16 (fun t => sL t * w t) % 998244353) % 998244353) (x * de % 998244353) (ltP _) (ltP _)) kk_F_sum wl_M_147 rfl rfl ⟨Nat.le_of_ble_eq_true rfl, Nat.le_of_ble_eq_true rfl⟩ z_preN rfl hl.1 rfl (Nat.le_of_ble_eq_true rfl) dM_makeElements_24 ⟨Nat.zero_le _, Nat.zero_le _⟩) ?_
  refine z_top (mkA al de x sL w) (rfl) ?_
  refine lv_istore F.1 F.2.1 (lv' := [(4, .int (nI (mkA al de x sL w))), (3, .int (nI de)), (0, .ref x0), (1, .int (nI x)), (2, .int (nI y))]) dM_makeElements_27 hl (by decide) rfl (fun ls hl => ?_)
  refine lv_aload_n F.1 F.2.1 dM_makeElements_29 rfl (lv_at hl 2 rfl) ?_
  refine z_get F hK hP hinM 0 rfl rfl 2 (by decide) rfl wf_M_26 rfl dM_makeElements_30 ?_
  refine lv_aload_n F.1 F.2.1 dM_makeElements_33 rfl (lv_at hl 2 rfl) ?_
  refine z_get F hK hP hinM 0 rfl rfl 8 (by decide) rfl wf_M_47 rfl dM_makeElements_34 ?_
  refine z_call (z_runV [.ref xR] [] F (ck_secondElement l dC dI cI cL _ 3 13 8 xK xW xX ta al be ga de va md xR w sR rfl rfl rfl hsR hw hbe) kk_K_secondElement wl_M_150 rfl rfl ⟨Nat.le_of_ble_eq_true rfl, Nat.le_of_ble_eq_true rfl⟩ (z_preVR (q := (RK, TK, 9)) hP hK rfl (q0 := 3) rfl) rfl hl.1 rfl (Nat.le_of_ble_eq_true rfl) dM_makeElements_37 ⟨Nat.zero_le _, Nat.zero_le _⟩) ?_
  refine lv_iload_n F.1 F.2.1 dM_makeElements_40 rfl (lv_at hl 4 rfl) ?_
  refine lv_iload_n F.1 F.2.1 dM_makeElements_41 rfl (lv_at hl 1 rfl) ?_
  refine z_call (z_runS [.int (nI y), .int (nI de)] [.int (nI ((be + sg 16 (fun t => sR t * w t) % 998244353) % 998244353))] F (c_product l (y) (de) (Nat.lt_trans (hy) (by decide)) (Nat.lt_trans (hde) (by decide))) kk_F_product wl_M_141 rfl rfl ⟨Nat.le_of_ble_eq_true rfl, Nat.le_of_ble_eq_true rfl⟩ z_preN rfl hl.1 rfl (Nat.le_of_ble_eq_true rfl) dM_makeElements_42 ⟨Nat.zero_le _, Nat.zero_le _⟩) ?_
  refine z_call (z_runS [.int (nI ((be + sg 16 (fun t => sR t * w t) % 998244353) % 998244353)), .int (nI (y * de % 998244353))] [] F (c_sum l ((be + sg 16 (fun t => sR t * w t) % 998244353) % 998244353) (y * de % 998244353) (ltP _) (ltP _)) kk_F_sum wl_M_147 rfl rfl ⟨Nat.le_of_ble_eq_true rfl, Nat.le_of_ble_eq_true rfl⟩ z_preN rfl hl.1 rfl (Nat.le_of_ble_eq_true rfl) dM_makeElements_45 ⟨Nat.zero_le _, Nat.zero_le _⟩) ?_
  refine z_top (mkA be de y sR w) (rfl) ?_
  refine lv_istore F.1 F.2.1 (lv' := [(5, .int (nI (mkA be de y sR w))), (4, .int (nI (mkA al de x sL w))), (3, .int (nI de)), (0, .ref x0), (1, .int (nI x)), (2, .int (nI y))]) dM_makeElements_48 hl (by decide) rfl (fun ls hl => ?_)
  refine lv_aload_n F.1 F.2.1 dM_makeElements_50 rfl (lv_at hl 3 rfl) ?_
  refine z_get F hK hP hinM 0 rfl rfl 2 (by decide) rfl wf_M_26 rfl dM_makeElements_51 ?_
  refine lv_aload_n F.1 F.2.1 dM_makeElements_54 rfl (lv_at hl 3 rfl) ?_
  refine z_get F hK hP hinM 0 rfl rfl 4 (by decide) rfl wf_M_37 rfl dM_makeElements_55 ?_
  refine lv_aload_n F.1 F.2.1 dM_makeElements_58 rfl (lv_at hl 3 rfl) ?_
  refine z_get F hK hP hinM 0 rfl rfl 6 (by decide) rfl wf_M_85 rfl dM_makeElements_59 ?_
  refine z_iconst (v := 1) F (by decide) dM_makeElements_62 ?_
  refine z_iadd F dM_makeElements_63 ?_
  refine z_bipush (v := 15) F (by decide) dM_makeElements_64 ?_
  refine z_call (z_runV [.ref xV, .int (nI (pb + 1)), .int (nI 15)] [] F (ck_mixSum l dC dI cI cL _ 3 14 5 xK xW xX ta al be ga de va md xV 16 mx v (pb + 1) 15 rfl rfl rfl hv hmx (by decide) (by decide) (by omega) (by decide)) kk_K_mixSum wl_M_153 rfl rfl ⟨Nat.le_of_ble_eq_true rfl, Nat.le_of_ble_eq_true rfl⟩ (z_preVR (q := (RK, TK, 9)) hP hK rfl (q0 := 3) rfl) rfl hl.1 rfl (Nat.le_of_ble_eq_true rfl) dM_makeElements_66 ⟨Nat.zero_le _, Nat.zero_le _⟩) ?_
  refine lv_aload_n F.1 F.2.1 dM_makeElements_69 rfl (lv_at hl 3 rfl) ?_
  refine z_get F hK hP hinM 0 rfl rfl 3 (by decide) rfl wf_M_33 rfl dM_makeElements_70 ?_
  refine lv_aload_n F.1 F.2.1 dM_makeElements_73 rfl (lv_at hl 3 rfl) ?_
  refine z_get F hK hP hinM 0 rfl rfl 2 (by decide) rfl wf_M_26 rfl dM_makeElements_74 ?_
  refine z_call (z_runV [] [.ref xQ, .int (nI (sg (15 + 1 - (pb + 1)) (fun t => v (pb + 1 + t) * mx (pb + 1 + t)) % 998244353))] F (ck_tau l dC dI cI cL _ 3 xK xW xX ta al be ga de va md rfl) kk_K_tau wl_M_157 rfl rfl ⟨Nat.le_of_ble_eq_true rfl, Nat.le_of_ble_eq_true rfl⟩ (z_preVR (q := (RK, TK, 9)) hP hK rfl (q0 := 3) rfl) rfl hl.1 rfl (Nat.le_of_ble_eq_true rfl) dM_makeElements_77 ⟨Nat.zero_le _, Nat.zero_le _⟩) ?_
  refine z_call (z_runV [.int (nI ta)] [.int (nI (sg (15 + 1 - (pb + 1)) (fun t => v (pb + 1 + t) * mx (pb + 1 + t)) % 998244353))] F (cq_quotientAt l dC dI cI cL _ 4 16 xQ xE xF pd qt ta rfl rfl hqt hta) kk_Q_quotientAt wl_M_160 rfl rfl ⟨Nat.le_of_ble_eq_true rfl, Nat.le_of_ble_eq_true rfl⟩ (z_preVR (q := (RQ, TQ, 3)) hP hK rfl (q0 := 4) rfl) rfl hl.1 rfl (Nat.le_of_ble_eq_true rfl) dM_makeElements_80 ⟨Nat.zero_le _, Nat.zero_le _⟩) ?_
  refine lv_aload_n F.1 F.2.1 dM_makeElements_83 rfl (lv_at hl 3 rfl) ?_
  refine z_get F hK hP hinM 0 rfl rfl 2 (by decide) rfl wf_M_26 rfl dM_makeElements_84 ?_
  refine z_call (z_runV [] [.int (nI (sg 16 (fun i => qt i * ta ^ i) % 998244353)), .int (nI (sg (15 + 1 - (pb + 1)) (fun t => v (pb + 1 + t) * mx (pb + 1 + t)) % 998244353))] F (ck_vanishing l dC dI cI cL _ 3 xK xW xX ta al be ga de va md rfl) kk_K_vanishing wl_M_163 rfl rfl ⟨Nat.le_of_ble_eq_true rfl, Nat.le_of_ble_eq_true rfl⟩ (z_preVR (q := (RK, TK, 9)) hP hK rfl (q0 := 3) rfl) rfl hl.1 rfl (Nat.le_of_ble_eq_true rfl) dM_makeElements_87 ⟨Nat.zero_le _, Nat.zero_le _⟩) ?_
  refine z_call (z_runS [.int (nI (sg 16 (fun i => qt i * ta ^ i) % 998244353)), .int (nI va)] [.int (nI (sg (15 + 1 - (pb + 1)) (fun t => v (pb + 1 + t) * mx (pb + 1 + t)) % 998244353))] F (c_product l (sg 16 (fun i => qt i * ta ^ i) % 998244353) (va) (Nat.lt_trans (ltP _) (by decide)) (Nat.lt_trans (hva) (by decide))) kk_F_product wl_M_141 rfl rfl ⟨Nat.le_of_ble_eq_true rfl, Nat.le_of_ble_eq_true rfl⟩ z_preN rfl hl.1 rfl (Nat.le_of_ble_eq_true rfl) dM_makeElements_90 ⟨Nat.zero_le _, Nat.zero_le _⟩) ?_
  refine z_call (z_runS [.int (nI (sg (15 + 1 - (pb + 1)) (fun t => v (pb + 1 + t) * mx (pb + 1 + t)) % 998244353)), .int (nI ((sg 16 (fun i => qt i * ta ^ i) % 998244353) * va % 998244353))] [] F (c_sum l (sg (15 + 1 - (pb + 1)) (fun t => v (pb + 1 + t) * mx (pb + 1 + t)) % 998244353) ((sg 16 (fun i => qt i * ta ^ i) % 998244353) * va % 998244353) (ltP _) (ltP _)) kk_F_sum wl_M_147 rfl rfl ⟨Nat.le_of_ble_eq_true rfl, Nat.le_of_ble_eq_true rfl⟩ z_preN rfl hl.1 rfl (Nat.le_of_ble_eq_true rfl) dM_makeElements_93 ⟨Nat.zero_le _, Nat.zero_le _⟩) ?_
  refine z_top (mkH pb ta va v mx qt) (rfl) ?_
  refine lv_istore F.1 F.2.1 (lv' := [(6, .int (nI (mkH pb ta va v mx qt))), (5, .int (nI (mkA be de y sR w))), (4, .int (nI (mkA al de x sL w))), (3, .int (nI de)), (0, .ref x0), (1, .int (nI x)), (2, .int (nI y))]) dM_makeElements_96 hl (by decide) rfl (fun ls hl => ?_)
  refine lv_iload F.1 F.2.1 dM_makeElements_98 (lv_at hl 0 rfl) ?_
  refine lv_iload_n F.1 F.2.1 dM_makeElements_100 rfl (lv_at hl 3 rfl) ?_
  refine z_call (z_runS [.int (nI (mkH pb ta va v mx qt)), .int (nI de)] [] F (c_ratio l (mkH pb ta va v mx qt) de (Nat.lt_trans (mkH_lt _ _ _ _ _ _) (by decide)) (Nat.lt_trans (hde) (by decide))) kk_F_ratio wl_M_166 rfl rfl ⟨Nat.le_of_ble_eq_true rfl, Nat.le_of_ble_eq_true rfl⟩ z_preN rfl hl.1 rfl (Nat.le_of_ble_eq_true rfl) dM_makeElements_101 ⟨Nat.zero_le _, Nat.zero_le _⟩) ?_
  refine lv_istore F.1 F.2.1 (lv' := [(7, .int (nI ((mkH pb ta va v mx qt) * iv de % 998244353))), (6, .int (nI (mkH pb ta va v mx qt))), (5, .int (nI (mkA be de y sR w))), (4, .int (nI (mkA al de x sL w))), (3, .int (nI de)), (0, .ref x0), (1, .int (nI x)), (2, .int (nI y))]) dM_makeElements_104 hl (by decide) rfl (fun ls hl => ?_)
  refine lv_iload F.1 F.2.1 dM_makeElements_106 (lv_at hl 0 rfl) ?_
  refine lv_iload F.1 F.2.1 dM_makeElements_108 (lv_at hl 3 rfl) ?_
  refine lv_iload_n F.1 F.2.1 dM_makeElements_110 rfl (lv_at hl 7 rfl) ?_
  refine z_call (z_runS [.int (nI (mkA al de x sL w)), .int (nI y)] [.int (nI ((mkH pb ta va v mx qt) * iv de % 998244353))] F (c_product l (mkA al de x sL w) (y) (Nat.lt_trans (mkA_lt _ _ _ _ _) (by decide)) (Nat.lt_trans (hy) (by decide))) kk_F_product wl_M_141 rfl rfl ⟨Nat.le_of_ble_eq_true rfl, Nat.le_of_ble_eq_true rfl⟩ z_preN rfl hl.1 rfl (Nat.le_of_ble_eq_true rfl) dM_makeElements_111 ⟨Nat.zero_le _, Nat.zero_le _⟩) ?_
  refine z_call (z_runS [.int (nI ((mkH pb ta va v mx qt) * iv de % 998244353)), .int (nI ((mkA al de x sL w) * y % 998244353))] [] F (c_sum l ((mkH pb ta va v mx qt) * iv de % 998244353) ((mkA al de x sL w) * y % 998244353) (ltP _) (ltP _)) kk_F_sum wl_M_147 rfl rfl ⟨Nat.le_of_ble_eq_true rfl, Nat.le_of_ble_eq_true rfl⟩ z_preN rfl hl.1 rfl (Nat.le_of_ble_eq_true rfl) dM_makeElements_114 ⟨Nat.zero_le _, Nat.zero_le _⟩) ?_
  refine lv_istore F.1 F.2.1 (lv' := [(7, .int (nI ((((mkH pb ta va v mx qt) * iv de % 998244353) + ((mkA al de x sL w) * y % 998244353)) % 998244353))), (6, .int (nI (mkH pb ta va v mx qt))), (5, .int (nI (mkA be de y sR w))), (4, .int (nI (mkA al de x sL w))), (3, .int (nI de)), (0, .ref x0), (1, .int (nI x)), (2, .int (nI y))]) dM_makeElements_117 hl (by decide) rfl (fun ls hl => ?_)
  refine lv_iload F.1 F.2.1 dM_makeElements_119 (lv_at hl 0 rfl) ?_
  refine lv_iload F.1 F.2.1 dM_makeElements_121 (lv_at hl 2 rfl) ?_
  refine lv_iload_n F.1 F.2.1 dM_makeElements_123 rfl (lv_at hl 6 rfl) ?_
  refine z_call (z_runS [.int (nI (mkA be de y sR w)), .int (nI x)] [.int (nI ((((mkH pb ta va v mx qt) * iv de % 998244353) + ((mkA al de x sL w) * y % 998244353)) % 998244353))] F (c_product l (mkA be de y sR w) (x) (Nat.lt_trans (mkA_lt _ _ _ _ _) (by decide)) (Nat.lt_trans (hx) (by decide))) kk_F_product wl_M_141 rfl rfl ⟨Nat.le_of_ble_eq_true rfl, Nat.le_of_ble_eq_true rfl⟩ z_preN rfl hl.1 rfl (Nat.le_of_ble_eq_true rfl) dM_makeElements_124 ⟨Nat.zero_le _, Nat.zero_le _⟩) ?_
  refine z_call (z_runS [.int (nI ((((mkH pb ta va v mx qt) * iv de % 998244353) + ((mkA al de x sL w) * y % 998244353)) % 998244353)), .int (nI ((mkA be de y sR w) * x % 998244353))] [] F (c_sum l ((((mkH pb ta va v mx qt) * iv de % 998244353) + ((mkA al de x sL w) * y % 998244353)) % 998244353) ((mkA be de y sR w) * x % 998244353) (ltP _) (ltP _)) kk_F_sum wl_M_147 rfl rfl ⟨Nat.le_of_ble_eq_true rfl, Nat.le_of_ble_eq_true rfl⟩ z_preN rfl hl.1 rfl (Nat.le_of_ble_eq_true rfl) dM_makeElements_127 ⟨Nat.zero_le _, Nat.zero_le _⟩) ?_
  refine lv_istore F.1 F.2.1 (lv' := [(7, .int (nI ((((((mkH pb ta va v mx qt) * iv de % 998244353) + ((mkA al de x sL w) * y % 998244353)) % 998244353) + ((mkA be de y sR w) * x % 998244353)) % 998244353))), (6, .int (nI (mkH pb ta va v mx qt))), (5, .int (nI (mkA be de y sR w))), (4, .int (nI (mkA al de x sL w))), (3, .int (nI de)), (0, .ref x0), (1, .int (nI x)), (2, .int (nI y))]) dM_makeElements_130 hl (by decide) rfl (fun ls hl => ?_)
  refine lv_iload F.1 F.2.1 dM_makeElements_132 (lv_at hl 0 rfl) ?_
  refine lv_iload_n F.1 F.2.1 dM_makeElements_134 rfl (lv_at hl 6 rfl) ?_
  refine lv_iload_n F.1 F.2.1 dM_makeElements_135 rfl (lv_at hl 7 rfl) ?_
  refine z_call (z_runS [.int (nI x), .int (nI y)] [.int (nI ((((((mkH pb ta va v mx qt) * iv de % 998244353) + ((mkA al de x sL w) * y % 998244353)) % 998244353) + ((mkA be de y sR w) * x % 998244353)) % 998244353))] F (c_product l (x) (y) (Nat.lt_trans (hx) (by decide)) (Nat.lt_trans (hy) (by decide))) kk_F_product wl_M_141 rfl rfl ⟨Nat.le_of_ble_eq_true rfl, Nat.le_of_ble_eq_true rfl⟩ z_preN rfl hl.1 rfl (Nat.le_of_ble_eq_true rfl) dM_makeElements_136 ⟨Nat.zero_le _, Nat.zero_le _⟩) ?_
  refine lv_iload_n F.1 F.2.1 dM_makeElements_139 rfl (lv_at hl 4 rfl) ?_
  refine z_call (z_runS [.int (nI (x * y % 998244353)), .int (nI de)] [.int (nI ((((((mkH pb ta va v mx qt) * iv de % 998244353) + ((mkA al de x sL w) * y % 998244353)) % 998244353) + ((mkA be de y sR w) * x % 998244353)) % 998244353))] F (c_product l (x * y % 998244353) (de) (Nat.lt_trans (ltP _) (by decide)) (Nat.lt_trans (hde) (by decide))) kk_F_product wl_M_141 rfl rfl ⟨Nat.le_of_ble_eq_true rfl, Nat.le_of_ble_eq_true rfl⟩ z_preN rfl hl.1 rfl (Nat.le_of_ble_eq_true rfl) dM_makeElements_140 ⟨Nat.zero_le _, Nat.zero_le _⟩) ?_
  refine z_call (z_runS [.int (nI ((((((mkH pb ta va v mx qt) * iv de % 998244353) + ((mkA al de x sL w) * y % 998244353)) % 998244353) + ((mkA be de y sR w) * x % 998244353)) % 998244353)), .int (nI ((x * y % 998244353) * de % 998244353))] [] F (c_difference l ((((((mkH pb ta va v mx qt) * iv de % 998244353) + ((mkA al de x sL w) * y % 998244353)) % 998244353) + ((mkA be de y sR w) * x % 998244353)) % 998244353) ((x * y % 998244353) * de % 998244353) (ltP _) (ltP _)) kk_F_difference wl_M_169 rfl rfl ⟨Nat.le_of_ble_eq_true rfl, Nat.le_of_ble_eq_true rfl⟩ z_preN rfl hl.1 rfl (Nat.le_of_ble_eq_true rfl) dM_makeElements_143 ⟨Nat.zero_le _, Nat.zero_le _⟩) ?_
  refine z_top (mkC (mkH pb ta va v mx qt) de (mkA al de x sL w) (mkA be de y sR w) x y) (rfl) ?_
  refine lv_istore F.1 F.2.1 (lv' := [(7, .int (nI (mkC (mkH pb ta va v mx qt) de (mkA al de x sL w) (mkA be de y sR w) x y))), (6, .int (nI (mkH pb ta va v mx qt))), (5, .int (nI (mkA be de y sR w))), (4, .int (nI (mkA al de x sL w))), (3, .int (nI de)), (0, .ref x0), (1, .int (nI x)), (2, .int (nI y))]) dM_makeElements_146 hl (by decide) rfl (fun ls hl => ?_)
  refine lv_aload_n F.1 F.2.1 dM_makeElements_148 rfl (lv_at hl 5 rfl) ?_
  refine z_get F hK hP hinM 0 rfl rfl 3 (by decide) rfl wf_M_33 rfl dM_makeElements_149 ?_
  refine lv_iload F.1 F.2.1 dM_makeElements_152 (lv_at hl 3 rfl) ?_
  refine lv_iload F.1 F.2.1 dM_makeElements_154 (lv_at hl 2 rfl) ?_
  refine lv_iload F.1 F.2.1 dM_makeElements_156 (lv_at hl 0 rfl) ?_
  have hPc := hP.sub (ws' := [(xQ, .inr (3, [.ref xE, .ref xF, .int (z_b pd)])), (xE, .inl (cI, 3, .inl (fun x9 => nI (el x9)))), (x0, .inr (4, [.ref xC, .ref xD, .ref xK, .ref xQ, .ref xV, .ref xI, .int (nI pb), .ref xL, .ref xR, .ref xS, .ref xT])), (xC, .inr (0, [.ref xA, .int (nI cn)])), (xD, .inr (1, [.ref xB, .int (nI (szN cn)), .int (nI (iv (szN cn)))])), (xK, .inr (2, [.ref xW, .ref xX, .int (z_b md), .int (nI ta), .int (nI al), .int (nI be), .int (nI ga), .int (nI de), .int (nI va)])), (xV, .inl (cI, 16, .inl (fun x9 => nI (v x9)))), (xI, .inl (cI, 7, .inl (fun x9 => nI (inp x9)))), (xL, .inl (cI, 16, .inl (fun x9 => nI (sL x9)))), (xR, .inl (cI, 16, .inl (fun x9 => nI (sR x9)))), (xS, .inl (cI, 16, .inl (fun x9 => nI (sS x9)))), (xT, .inl (cI, 16, .inl (fun x9 => nI (sT x9)))), (xA, .inl (cI, 816, .inl (fun x9 => nI (f x9)))), (xB, .inl (cI, 16, .inl (fun x9 => nI (bb x9)))), (xW, .inl (cI, 16, .inl (fun x9 => nI (w x9)))), (xX, .inl (cI, 16, .inl (fun x9 => nI (mx x9)))), (xF, .inl (cI, 16, .inl (fun x9 => nI (qt x9))))]) [4, 15, 0, 1, 2, 3, 5, 6, 7, 8, 9, 10, 11, 12, 13, 14, 16] rfl
  have hDc := hD.sub (ws' := [(xQ, .inr (3, [.ref xE, .ref xF, .int (z_b pd)])), (xE, .inl (cI, 3, .inl (fun x9 => nI (el x9)))), (x0, .inr (4, [.ref xC, .ref xD, .ref xK, .ref xQ, .ref xV, .ref xI, .int (nI pb), .ref xL, .ref xR, .ref xS, .ref xT])), (xC, .inr (0, [.ref xA, .int (nI cn)])), (xD, .inr (1, [.ref xB, .int (nI (szN cn)), .int (nI (iv (szN cn)))])), (xK, .inr (2, [.ref xW, .ref xX, .int (z_b md), .int (nI ta), .int (nI al), .int (nI be), .int (nI ga), .int (nI de), .int (nI va)])), (xV, .inl (cI, 16, .inl (fun x9 => nI (v x9)))), (xI, .inl (cI, 7, .inl (fun x9 => nI (inp x9)))), (xL, .inl (cI, 16, .inl (fun x9 => nI (sL x9)))), (xR, .inl (cI, 16, .inl (fun x9 => nI (sR x9)))), (xS, .inl (cI, 16, .inl (fun x9 => nI (sS x9)))), (xT, .inl (cI, 16, .inl (fun x9 => nI (sT x9)))), (xA, .inl (cI, 816, .inl (fun x9 => nI (f x9)))), (xB, .inl (cI, 16, .inl (fun x9 => nI (bb x9)))), (xW, .inl (cI, 16, .inl (fun x9 => nI (w x9)))), (xX, .inl (cI, 16, .inl (fun x9 => nI (mx x9)))), (xF, .inl (cI, 16, .inl (fun x9 => nI (qt x9))))]) [4, 15, 0, 1, 2, 3, 5, 6, 7, 8, 9, 10, 11, 12, 13, 14, 16] (by decide) rfl
  refine z_callW (z_runV [.int (nI (mkA al de x sL w)), .int (nI (mkA be de y sR w)), .int (nI (mkC (mkH pb ta va v mx qt) de (mkA al de x sL w) (mkA be de y sR w) x y))] [] F (cq_keep l dC dI cI cL [(x0, .inr (4, [.ref xC, .ref xD, .ref xK, .ref xQ, .ref xV, .ref xI, .int (nI pb), .ref xL, .ref xR, .ref xS, .ref xT])), (xC, .inr (0, [.ref xA, .int (nI cn)])), (xD, .inr (1, [.ref xB, .int (nI (szN cn)), .int (nI (iv (szN cn)))])), (xK, .inr (2, [.ref xW, .ref xX, .int (z_b md), .int (nI ta), .int (nI al), .int (nI be), .int (nI ga), .int (nI de), .int (nI va)])), (xV, .inl (cI, 16, .inl (fun x9 => nI (v x9)))), (xI, .inl (cI, 7, .inl (fun x9 => nI (inp x9)))), (xL, .inl (cI, 16, .inl (fun x9 => nI (sL x9)))), (xR, .inl (cI, 16, .inl (fun x9 => nI (sR x9)))), (xS, .inl (cI, 16, .inl (fun x9 => nI (sS x9)))), (xT, .inl (cI, 16, .inl (fun x9 => nI (sT x9)))), (xA, .inl (cI, 816, .inl (fun x9 => nI (f x9)))), (xB, .inl (cI, 16, .inl (fun x9 => nI (bb x9)))), (xW, .inl (cI, 16, .inl (fun x9 => nI (w x9)))), (xX, .inl (cI, 16, .inl (fun x9 => nI (mx x9)))), (xF, .inl (cI, 16, .inl (fun x9 => nI (qt x9))))] s.heap.size xQ xE xF pd el (mkA al de x sL w) (mkA be de y sR w) (mkC (mkH pb ta va v mx qt) de (mkA al de x sL w) (mkA be de y sR w) x y)) kk_Q_keep wl_M_172 rfl rfl ⟨Nat.le_of_ble_eq_true rfl, Nat.le_of_ble_eq_true rfl⟩ (z_preVP (q := (RQ, TQ, 3)) hPc hK hDc rfl (q0 := 0) rfl) rfl hl.1 rfl (Nat.le_of_ble_eq_true rfl) dM_makeElements_158 ⟨Nat.zero_le _, Nat.zero_le _⟩) hDc hS hAA (fun H locs hP hD hS => ?_)
  have hP : va_P (dC, dI) vwCl [(x0, .inr (4, [.ref xC, .ref xD, .ref xK, .ref xQ, .ref xV, .ref xI, .int (nI pb), .ref xL, .ref xR, .ref xS, .ref xT])), (xC, .inr (0, [.ref xA, .int (nI cn)])), (xD, .inr (1, [.ref xB, .int (nI (szN cn)), .int (nI (iv (szN cn)))])), (xK, .inr (2, [.ref xW, .ref xX, .int (z_b md), .int (nI ta), .int (nI al), .int (nI be), .int (nI ga), .int (nI de), .int (nI va)])), (xQ, .inr (3, [.ref xE, .ref xF, .int (z_b true)])), (xV, .inl (cI, 16, .inl (fun x9 => nI (v x9)))), (xI, .inl (cI, 7, .inl (fun x9 => nI (inp x9)))), (xL, .inl (cI, 16, .inl (fun x9 => nI (sL x9)))), (xR, .inl (cI, 16, .inl (fun x9 => nI (sR x9)))), (xS, .inl (cI, 16, .inl (fun x9 => nI (sS x9)))), (xT, .inl (cI, 16, .inl (fun x9 => nI (sT x9)))), (xA, .inl (cI, 816, .inl (fun x9 => nI (f x9)))), (xB, .inl (cI, 16, .inl (fun x9 => nI (bb x9)))), (xW, .inl (cI, 16, .inl (fun x9 => nI (w x9)))), (xX, .inl (cI, 16, .inl (fun x9 => nI (mx x9)))), (xE, .inl (cI, 3, .inl (fun x9 => nI ((va_up (va_up (va_up el 0 (mkA al de x sL w)) 1 (mkA be de y sR w)) 2 (mkC (mkH pb ta va v mx qt) de (mkA al de x sL w) (mkA be de y sR w) x y)) x9)))), (xF, .inl (cI, 16, .inl (fun x9 => nI (qt x9))))] H := hP.sub [2, 3, 4, 5, 0, 6, 7, 8, 9, 10, 11, 12, 13, 14, 15, 1, 16] rfl
  have hD : va_D A [(x0, .inr (4, [.ref xC, .ref xD, .ref xK, .ref xQ, .ref xV, .ref xI, .int (nI pb), .ref xL, .ref xR, .ref xS, .ref xT])), (xC, .inr (0, [.ref xA, .int (nI cn)])), (xD, .inr (1, [.ref xB, .int (nI (szN cn)), .int (nI (iv (szN cn)))])), (xK, .inr (2, [.ref xW, .ref xX, .int (z_b md), .int (nI ta), .int (nI al), .int (nI be), .int (nI ga), .int (nI de), .int (nI va)])), (xQ, .inr (3, [.ref xE, .ref xF, .int (z_b true)])), (xV, .inl (cI, 16, .inl (fun x9 => nI (v x9)))), (xI, .inl (cI, 7, .inl (fun x9 => nI (inp x9)))), (xL, .inl (cI, 16, .inl (fun x9 => nI (sL x9)))), (xR, .inl (cI, 16, .inl (fun x9 => nI (sR x9)))), (xS, .inl (cI, 16, .inl (fun x9 => nI (sS x9)))), (xT, .inl (cI, 16, .inl (fun x9 => nI (sT x9)))), (xA, .inl (cI, 816, .inl (fun x9 => nI (f x9)))), (xB, .inl (cI, 16, .inl (fun x9 => nI (bb x9)))), (xW, .inl (cI, 16, .inl (fun x9 => nI (w x9)))), (xX, .inl (cI, 16, .inl (fun x9 => nI (mx x9)))), (xE, .inl (cI, 3, .inl (fun x9 => nI ((va_up (va_up (va_up el 0 (mkA al de x sL w)) 1 (mkA be de y sR w)) 2 (mkC (mkH pb ta va v mx qt) de (mkA al de x sL w) (mkA be de y sR w) x y)) x9)))), (xF, .inl (cI, 16, .inl (fun x9 => nI (qt x9))))] := hD.sub [2, 3, 4, 5, 0, 6, 7, 8, 9, 10, 11, 12, 13, 14, 15, 1, 16] (by decide) rfl
  exact W.vret F.1 F.2.1 hr (fun t ht hW => ⟨rfl, by rw [ht]; exact hP, va_K.moved hW.alike hK, hD, hS.F ht⟩) hS.2.2 dM_makeElements_161
set_option maxHeartbeats 4000000 in
set_option maxRecDepth 100000 in
theorem cm_prove (l : Launch) (dC : Nat → ClassId) (dI : Nat → Nat → Nat) (cI cL : ClassId) (zz : Nat) (x0 xC xD xK xQ xV xI xL xR xS xT xA xB xW xX xE xF : Nat) (pb cn ta al be ga de va : Nat) (md pd : Bool) (v inp sL sR sS sT f bb w mx el qt : Nat → Nat) (x y : Nat) (hmd : md = true) (hop : fo (bad f v) 0 cn = -1) (hn : cn ≤ 16) (hf : ∀ j, f j < 998244353) (hbb : ∀ j, bb j < 998244353) (hsS : ∀ j, sS j < 998244353) (hsT : ∀ j, sT j < 998244353) (hv : ∀ j, v j < 998244353) (hw : ∀ j, w j < 998244353) (hmx : ∀ j, mx j < 998244353) (hx : x < 998244353) (hy : y < 998244353) (hal : al < 998244353) (hbe : be < 998244353) (hde : de < 998244353) (hta : ta < 998244353) (hva : va < 998244353) (hpb : pb ≤ 6) : Met l yM_prove (zW yM_prove cM_prove 3 (.some .boolean)) ({ frames := 4, cells := 0, slots := 0, locals := 93 }) (va_Pc [.ref x0, .int (nI x), .int (nI y)] (z_P (dC, dI) vwCl [(cI, .int), (cL, .long)] zz ([(x0, .inr (4, [.ref xC, .ref xD, .ref xK, .ref xQ, .ref xV, .ref xI, .int (nI pb), .ref xL, .ref xR, .ref xS, .ref xT])), (xC, .inr (0, [.ref xA, .int (nI cn)])), (xD, .inr (1, [.ref xB, .int (nI (szN cn)), .int (nI (iv (szN cn)))])), (xK, .inr (2, [.ref xW, .ref xX, .int (z_b md), .int (nI ta), .int (nI al), .int (nI be), .int (nI ga), .int (nI de), .int (nI va)])), (xQ, .inr (3, [.ref xE, .ref xF, .int (z_b pd)])), (xV, .inl (cI, 16, .inl (fun x9 => nI (v x9)))), (xI, .inl (cI, 7, .inl (fun x9 => nI (inp x9)))), (xL, .inl (cI, 16, .inl (fun x9 => nI (sL x9)))), (xR, .inl (cI, 16, .inl (fun x9 => nI (sR x9)))), (xS, .inl (cI, 16, .inl (fun x9 => nI (sS x9)))), (xT, .inl (cI, 16, .inl (fun x9 => nI (sT x9)))), (xA, .inl (cI, 816, .inl (fun x9 => nI (f x9)))), (xB, .inl (cI, 16, .inl (fun x9 => nI (bb x9)))), (xW, .inl (cI, 16, .inl (fun x9 => nI (w x9)))), (xX, .inl (cI, 16, .inl (fun x9 => nI (mx x9)))), (xE, .inl (cI, 3, .inl (fun x9 => nI (el x9)))), (xF, .inl (cI, 16, .inl (fun x9 => nI (qt x9))))]))) (z_Q (dC, dI) vwCl [(cI, .int), (cL, .long)] (some (.int (z_b true))) ([(x0, .inr (4, [.ref xC, .ref xD, .ref xK, .ref xQ, .ref xV, .ref xI, .int (nI pb), .ref xL, .ref xR, .ref xS, .ref xT])), (xC, .inr (0, [.ref xA, .int (nI cn)])), (xD, .inr (1, [.ref xB, .int (nI (szN cn)), .int (nI (iv (szN cn)))])), (xK, .inr (2, [.ref xW, .ref xX, .int (z_b md), .int (nI ta), .int (nI al), .int (nI be), .int (nI ga), .int (nI de), .int (nI va)])), (xQ, .inr (3, [.ref xE, .ref xF, .int (z_b true)])), (xV, .inl (cI, 16, .inl (fun x9 => nI (v x9)))), (xI, .inl (cI, 7, .inl (fun x9 => nI (inp x9)))), (xL, .inl (cI, 16, .inl (fun x9 => nI ((pts cn f v 0) x9)))), (xR, .inl (cI, 16, .inl (fun x9 => nI ((pts cn f v 1) x9)))), (xS, .inl (cI, 16, .inl (fun x9 => nI ((itp (szN cn) (iv (szN cn)) bb (pts cn f v 0) sS) x9)))), (xT, .inl (cI, 16, .inl (fun x9 => nI ((itp (szN cn) (iv (szN cn)) bb (pts cn f v 1) sT) x9)))), (xA, .inl (cI, 816, .inl (fun x9 => nI (f x9)))), (xB, .inl (cI, 16, .inl (fun x9 => nI (bb x9)))), (xW, .inl (cI, 16, .inl (fun x9 => nI (w x9)))), (xX, .inl (cI, 16, .inl (fun x9 => nI (mx x9)))), (xE, .inl (cI, 3, .inl (fun x9 => nI ((va_up (va_up (va_up el 0 (mkA al de x (pts cn f v 0) w)) 1 (mkA be de y (pts cn f v 1) w)) 2 (mkC (mkH pb ta va v mx (dvd (szN cn) (itp (szN cn) (iv (szN cn)) bb (pts cn f v 0) sS) (itp (szN cn) (iv (szN cn)) bb (pts cn f v 1) sT))) de (mkA al de x (pts cn f v 0) w) (mkA be de y (pts cn f v 1) w) x y)) x9)))), (xF, .inl (cI, 16, .inl (fun x9 => nI ((dvd (szN cn) (itp (szN cn) (iv (szN cn)) bb (pts cn f v 0) sS) (itp (szN cn) (iv (szN cn)) bb (pts cn f v 1) sT)) x9))))]) (va_A ([(x0, .inr (4, [.ref xC, .ref xD, .ref xK, .ref xQ, .ref xV, .ref xI, .int (nI pb), .ref xL, .ref xR, .ref xS, .ref xT])), (xC, .inr (0, [.ref xA, .int (nI cn)])), (xD, .inr (1, [.ref xB, .int (nI (szN cn)), .int (nI (iv (szN cn)))])), (xK, .inr (2, [.ref xW, .ref xX, .int (z_b md), .int (nI ta), .int (nI al), .int (nI be), .int (nI ga), .int (nI de), .int (nI va)])), (xQ, .inr (3, [.ref xE, .ref xF, .int (z_b pd)])), (xV, .inl (cI, 16, .inl (fun x9 => nI (v x9)))), (xI, .inl (cI, 7, .inl (fun x9 => nI (inp x9)))), (xL, .inl (cI, 16, .inl (fun x9 => nI (sL x9)))), (xR, .inl (cI, 16, .inl (fun x9 => nI (sR x9)))), (xS, .inl (cI, 16, .inl (fun x9 => nI (sS x9)))), (xT, .inl (cI, 16, .inl (fun x9 => nI (sT x9)))), (xA, .inl (cI, 816, .inl (fun x9 => nI (f x9)))), (xB, .inl (cI, 16, .inl (fun x9 => nI (bb x9)))), (xW, .inl (cI, 16, .inl (fun x9 => nI (w x9)))), (xX, .inl (cI, 16, .inl (fun x9 => nI (mx x9)))), (xE, .inl (cI, 3, .inl (fun x9 => nI (el x9)))), (xF, .inl (cI, 16, .inl (fun x9 => nI (qt x9))))]) zz)) 0 0 (va_A ([(x0, .inr (4, [.ref xC, .ref xD, .ref xK, .ref xQ, .ref xV, .ref xI, .int (nI pb), .ref xL, .ref xR, .ref xS, .ref xT])), (xC, .inr (0, [.ref xA, .int (nI cn)])), (xD, .inr (1, [.ref xB, .int (nI (szN cn)), .int (nI (iv (szN cn)))])), (xK, .inr (2, [.ref xW, .ref xX, .int (z_b md), .int (nI ta), .int (nI al), .int (nI be), .int (nI ga), .int (nI de), .int (nI va)])), (xQ, .inr (3, [.ref xE, .ref xF, .int (z_b pd)])), (xV, .inl (cI, 16, .inl (fun x9 => nI (v x9)))), (xI, .inl (cI, 7, .inl (fun x9 => nI (inp x9)))), (xL, .inl (cI, 16, .inl (fun x9 => nI (sL x9)))), (xR, .inl (cI, 16, .inl (fun x9 => nI (sR x9)))), (xS, .inl (cI, 16, .inl (fun x9 => nI (sS x9)))), (xT, .inl (cI, 16, .inl (fun x9 => nI (sT x9)))), (xA, .inl (cI, 816, .inl (fun x9 => nI (f x9)))), (xB, .inl (cI, 16, .inl (fun x9 => nI (bb x9)))), (xW, .inl (cI, 16, .inl (fun x9 => nI (w x9)))), (xX, .inl (cI, 16, .inl (fun x9 => nI (mx x9)))), (xE, .inl (cI, 3, .inl (fun x9 => nI (el x9)))), (xF, .inl (cI, 16, .inl (fun x9 => nI (qt x9))))]) zz) := by
  refine Met.ofW (cc := cM_prove) (maxL := 3) (ret := (.some .boolean)) (by decide) rfl ?_
  intro p e s m args below meth c s₁ B hml hv
  obtain ⟨rfl, hsz, hP, hK, hD0⟩ := hv
  have F : CallFix p m c cM_prove 3 s _ zT RM := ⟨B.exec, B.bytes, hml, findClass_of_methodNamed B.named, fun w h => atoms_spec (ws := (zW yM_prove cM_prove 3 (.some .boolean))) B.pre w (List.mem_cons_of_mem _ h)⟩
  have hr := B.returns
  have hlocks := B.notSynchronized
  subst hsz
  have hD := hD0.self (sz := s.heap.size)
  generalize hAe : va_A ([(x0, .inr (4, [.ref xC, .ref xD, .ref xK, .ref xQ, .ref xV, .ref xI, .int (nI pb), .ref xL, .ref xR, .ref xS, .ref xT])), (xC, .inr (0, [.ref xA, .int (nI cn)])), (xD, .inr (1, [.ref xB, .int (nI (szN cn)), .int (nI (iv (szN cn)))])), (xK, .inr (2, [.ref xW, .ref xX, .int (z_b md), .int (nI ta), .int (nI al), .int (nI be), .int (nI ga), .int (nI de), .int (nI va)])), (xQ, .inr (3, [.ref xE, .ref xF, .int (z_b pd)])), (xV, .inl (cI, 16, .inl (fun x9 => nI (v x9)))), (xI, .inl (cI, 7, .inl (fun x9 => nI (inp x9)))), (xL, .inl (cI, 16, .inl (fun x9 => nI (sL x9)))), (xR, .inl (cI, 16, .inl (fun x9 => nI (sR x9)))), (xS, .inl (cI, 16, .inl (fun x9 => nI (sS x9)))), (xT, .inl (cI, 16, .inl (fun x9 => nI (sT x9)))), (xA, .inl (cI, 816, .inl (fun x9 => nI (f x9)))), (xB, .inl (cI, 16, .inl (fun x9 => nI (bb x9)))), (xW, .inl (cI, 16, .inl (fun x9 => nI (w x9)))), (xX, .inl (cI, 16, .inl (fun x9 => nI (mx x9)))), (xE, .inl (cI, 3, .inl (fun x9 => nI (el x9)))), (xF, .inl (cI, 16, .inl (fun x9 => nI (qt x9))))]) s.heap.size = A at hD ⊢
  have hAA : ∀ q : Nat, s.heap.size ≤ q → A q := fun q h => by rw [← hAe]; exact Or.inr h
  have hS : va_S A s.heap s.heap [] := va_S.rf
  have hl := lv_entry ([.ref x0, .int (nI x), .int (nI y)]) (n := 3) (Nat.le_of_ble_eq_true rfl)
  rw [lg_entry_eq]
  generalize (lg_sl ([.ref x0, .int (nI x), .int (nI y)]) ++ List.replicate (3 - (lg_sl ([.ref x0, .int (nI x), .int (nI y)])).length) Slot.unset).toArray = ls at hl ⊢
  have hl : lv_has ls 3 [(0, .ref x0), (1, .int (nI x)), (2, .int (nI y))] := hl
  have hlo := szN_lo cn
  have hhi := szN_hi cn
  obtain ⟨kk, h4, hz⟩ : ∃ kk, kk ≤ 4 ∧ szN cn = 2 ^ kk := szN_pow cn
  refine lv_iload_n F.1 F.2.1 dM_prove_0 rfl (lv_at hl 1 rfl) ?_
  refine z_ldc F 998244353 (v0 := 998244353) wk_M_60 rfl dM_prove_1 ?_
  refine z_call (z_runS [.int (nI x), .int (nI 998244353)] [] F (c_isBelow_t l (x) 998244353 (by omega) (by decide)) kk_M_isBelow wl_M_56 rfl rfl ⟨Nat.le_of_ble_eq_true rfl, Nat.le_of_ble_eq_true rfl⟩ z_preN rfl hl.1 rfl (Nat.le_of_ble_eq_true rfl) dM_prove_3 ⟨Nat.zero_le _, Nat.zero_le _⟩) ?_
  refine z_if_eq F (by omega) (tgt := 18) dM_prove_6 rfl (fun h => absurd h (by decide)) (fun h => ?_)
  refine lv_iload_n F.1 F.2.1 dM_prove_9 rfl (lv_at hl 2 rfl) ?_
  refine z_ldc F 998244353 (v0 := 998244353) wk_M_60 rfl dM_prove_10 ?_
  refine z_call (z_runS [.int (nI y), .int (nI 998244353)] [] F (c_isBelow_t l (y) 998244353 (by omega) (by decide)) kk_M_isBelow wl_M_56 rfl rfl ⟨Nat.le_of_ble_eq_true rfl, Nat.le_of_ble_eq_true rfl⟩ z_preN rfl hl.1 rfl (Nat.le_of_ble_eq_true rfl) dM_prove_12 ⟨Nat.zero_le _, Nat.zero_le _⟩) ?_
  refine z_if_ne F (by omega) (tgt := 26) dM_prove_15 rfl (fun h => ?_) (fun h => absurd h (by decide))
  refine lv_aload_n F.1 F.2.1 dM_prove_26 rfl (lv_at hl 0 rfl) ?_
  refine z_get F hK hP hinM 0 rfl rfl 2 (by decide) rfl wf_M_26 rfl dM_prove_27 ?_
  refine z_call (z_runV [] [] F (ck_isMade l dC dI cI cL _ 3 xK xW xX ta al be ga de va md rfl) kk_K_isMade wl_M_115 rfl rfl ⟨Nat.le_of_ble_eq_true rfl, Nat.le_of_ble_eq_true rfl⟩ (z_preVR (q := (RK, TK, 9)) hP hK rfl (q0 := 3) rfl) rfl hl.1 rfl (Nat.le_of_ble_eq_true rfl) dM_prove_30 ⟨Nat.zero_le _, Nat.zero_le _⟩) ?_
  refine z_ifb_ne F (tgt := 44) dM_prove_33 rfl (fun h => ?_) (fun h => by rw [hmd] at h; cases h)
  refine lv_aload_n F.1 F.2.1 dM_prove_44 rfl (lv_at hl 0 rfl) ?_
  refine z_get F hK hP hinM 0 rfl rfl 0 (by decide) rfl wf_M_10 rfl dM_prove_45 ?_
  refine lv_aload_n F.1 F.2.1 dM_prove_48 rfl (lv_at hl 0 rfl) ?_
  refine z_get F hK hP hinM 0 rfl rfl 4 (by decide) rfl wf_M_37 rfl dM_prove_49 ?_
  refine z_call (z_runV [.ref xV] [] F (c_firstOpen l dC dI cI cL _ 1 11 5 xC xA xV cn f v rfl rfl rfl hf hv hn) kk_C_firstOpen wl_M_89 rfl rfl ⟨Nat.le_of_ble_eq_true rfl, Nat.le_of_ble_eq_true rfl⟩ (z_preVR (q := (RC, TC, 2)) hP hK rfl (q0 := 1) rfl) rfl hl.1 rfl (Nat.le_of_ble_eq_true rfl) dM_prove_52 ⟨Nat.zero_le _, Nat.zero_le _⟩) ?_
  refine lv_iconst (v := -1) F.1 F.2.1 dM_prove_55 (by decide) ?_
  refine lv_icmp_eq F.1 F.2.1 (tgt := 67) dM_prove_56 rfl (fun h => ?_) (fun h => absurd hop h)
  refine lv_aload_n F.1 F.2.1 dM_prove_67 rfl (lv_at hl 0 rfl) ?_
  refine z_get F hK hP hinM 0 rfl rfl 0 (by decide) rfl wf_M_10 rfl dM_prove_68 ?_
  refine z_iconst (v := 0) F (by decide) dM_prove_71 ?_
  refine lv_aload_n F.1 F.2.1 dM_prove_72 rfl (lv_at hl 0 rfl) ?_
  refine z_get F hK hP hinM 0 rfl rfl 4 (by decide) rfl wf_M_37 rfl dM_prove_73 ?_
  refine lv_aload_n F.1 F.2.1 dM_prove_76 rfl (lv_at hl 0 rfl) ?_
  refine z_get F hK hP hinM 0 rfl rfl 7 (by decide) rfl wf_M_44 rfl dM_prove_77 ?_
  have hPc := hP.sub (ws' := [(xC, .inr (0, [.ref xA, .int (nI cn)])), (xA, .inl (cI, 816, .inl (fun x9 => nI (f x9)))), (xV, .inl (cI, 16, .inl (fun x9 => nI (v x9)))), (xL, .inl (cI, 16, .inl (fun x9 => nI (sL x9)))), (x0, .inr (4, [.ref xC, .ref xD, .ref xK, .ref xQ, .ref xV, .ref xI, .int (nI pb), .ref xL, .ref xR, .ref xS, .ref xT])), (xD, .inr (1, [.ref xB, .int (nI (szN cn)), .int (nI (iv (szN cn)))])), (xK, .inr (2, [.ref xW, .ref xX, .int (z_b md), .int (nI ta), .int (nI al), .int (nI be), .int (nI ga), .int (nI de), .int (nI va)])), (xQ, .inr (3, [.ref xE, .ref xF, .int (z_b pd)])), (xI, .inl (cI, 7, .inl (fun x9 => nI (inp x9)))), (xR, .inl (cI, 16, .inl (fun x9 => nI (sR x9)))), (xS, .inl (cI, 16, .inl (fun x9 => nI (sS x9)))), (xT, .inl (cI, 16, .inl (fun x9 => nI (sT x9)))), (xB, .inl (cI, 16, .inl (fun x9 => nI (bb x9)))), (xW, .inl (cI, 16, .inl (fun x9 => nI (w x9)))), (xX, .inl (cI, 16, .inl (fun x9 => nI (mx x9)))), (xE, .inl (cI, 3, .inl (fun x9 => nI (el x9)))), (xF, .inl (cI, 16, .inl (fun x9 => nI (qt x9))))]) [1, 11, 5, 7, 0, 2, 3, 4, 6, 8, 9, 10, 12, 13, 14, 15, 16] rfl
  have hDc := hD.sub (ws' := [(xC, .inr (0, [.ref xA, .int (nI cn)])), (xA, .inl (cI, 816, .inl (fun x9 => nI (f x9)))), (xV, .inl (cI, 16, .inl (fun x9 => nI (v x9)))), (xL, .inl (cI, 16, .inl (fun x9 => nI (sL x9)))), (x0, .inr (4, [.ref xC, .ref xD, .ref xK, .ref xQ, .ref xV, .ref xI, .int (nI pb), .ref xL, .ref xR, .ref xS, .ref xT])), (xD, .inr (1, [.ref xB, .int (nI (szN cn)), .int (nI (iv (szN cn)))])), (xK, .inr (2, [.ref xW, .ref xX, .int (z_b md), .int (nI ta), .int (nI al), .int (nI be), .int (nI ga), .int (nI de), .int (nI va)])), (xQ, .inr (3, [.ref xE, .ref xF, .int (z_b pd)])), (xI, .inl (cI, 7, .inl (fun x9 => nI (inp x9)))), (xR, .inl (cI, 16, .inl (fun x9 => nI (sR x9)))), (xS, .inl (cI, 16, .inl (fun x9 => nI (sS x9)))), (xT, .inl (cI, 16, .inl (fun x9 => nI (sT x9)))), (xB, .inl (cI, 16, .inl (fun x9 => nI (bb x9)))), (xW, .inl (cI, 16, .inl (fun x9 => nI (w x9)))), (xX, .inl (cI, 16, .inl (fun x9 => nI (mx x9)))), (xE, .inl (cI, 3, .inl (fun x9 => nI (el x9)))), (xF, .inl (cI, 16, .inl (fun x9 => nI (qt x9))))]) [1, 11, 5, 7, 0, 2, 3, 4, 6, 8, 9, 10, 12, 13, 14, 15, 16] (by decide) rfl
  refine z_callW (z_runV [.int (nI 0), .ref xV, .ref xL] [] F (c_rowSums l dC dI cI cL [(x0, .inr (4, [.ref xC, .ref xD, .ref xK, .ref xQ, .ref xV, .ref xI, .int (nI pb), .ref xL, .ref xR, .ref xS, .ref xT])), (xD, .inr (1, [.ref xB, .int (nI (szN cn)), .int (nI (iv (szN cn)))])), (xK, .inr (2, [.ref xW, .ref xX, .int (z_b md), .int (nI ta), .int (nI al), .int (nI be), .int (nI ga), .int (nI de), .int (nI va)])), (xQ, .inr (3, [.ref xE, .ref xF, .int (z_b pd)])), (xI, .inl (cI, 7, .inl (fun x9 => nI (inp x9)))), (xR, .inl (cI, 16, .inl (fun x9 => nI (sR x9)))), (xS, .inl (cI, 16, .inl (fun x9 => nI (sS x9)))), (xT, .inl (cI, 16, .inl (fun x9 => nI (sT x9)))), (xB, .inl (cI, 16, .inl (fun x9 => nI (bb x9)))), (xW, .inl (cI, 16, .inl (fun x9 => nI (w x9)))), (xX, .inl (cI, 16, .inl (fun x9 => nI (mx x9)))), (xE, .inl (cI, 3, .inl (fun x9 => nI (el x9)))), (xF, .inl (cI, 16, .inl (fun x9 => nI (qt x9))))] s.heap.size xC xA xV xL cn f v sL 0 hf hv (by decide) hn) kk_C_rowSums wl_M_119 rfl rfl ⟨Nat.le_of_ble_eq_true rfl, Nat.le_of_ble_eq_true rfl⟩ (z_preVP (q := (RC, TC, 2)) hPc hK hDc rfl (q0 := 0) rfl) rfl hl.1 rfl (Nat.le_of_ble_eq_true rfl) dM_prove_80 ⟨Nat.zero_le _, Nat.zero_le _⟩) hDc hS hAA (fun H locs hP hD hS => ?_)
  have hP : va_P (dC, dI) vwCl [(x0, .inr (4, [.ref xC, .ref xD, .ref xK, .ref xQ, .ref xV, .ref xI, .int (nI pb), .ref xL, .ref xR, .ref xS, .ref xT])), (xC, .inr (0, [.ref xA, .int (nI cn)])), (xD, .inr (1, [.ref xB, .int (nI (szN cn)), .int (nI (iv (szN cn)))])), (xK, .inr (2, [.ref xW, .ref xX, .int (z_b md), .int (nI ta), .int (nI al), .int (nI be), .int (nI ga), .int (nI de), .int (nI va)])), (xQ, .inr (3, [.ref xE, .ref xF, .int (z_b pd)])), (xV, .inl (cI, 16, .inl (fun x9 => nI (v x9)))), (xI, .inl (cI, 7, .inl (fun x9 => nI (inp x9)))), (xL, .inl (cI, 16, .inl (fun x9 => nI ((pts cn f v 0) x9)))), (xR, .inl (cI, 16, .inl (fun x9 => nI (sR x9)))), (xS, .inl (cI, 16, .inl (fun x9 => nI (sS x9)))), (xT, .inl (cI, 16, .inl (fun x9 => nI (sT x9)))), (xA, .inl (cI, 816, .inl (fun x9 => nI (f x9)))), (xB, .inl (cI, 16, .inl (fun x9 => nI (bb x9)))), (xW, .inl (cI, 16, .inl (fun x9 => nI (w x9)))), (xX, .inl (cI, 16, .inl (fun x9 => nI (mx x9)))), (xE, .inl (cI, 3, .inl (fun x9 => nI (el x9)))), (xF, .inl (cI, 16, .inl (fun x9 => nI (qt x9))))] H := hP.sub [4, 0, 5, 6, 7, 2, 8, 3, 9, 10, 11, 1, 12, 13, 14, 15, 16] rfl
  have hD : va_D A [(x0, .inr (4, [.ref xC, .ref xD, .ref xK, .ref xQ, .ref xV, .ref xI, .int (nI pb), .ref xL, .ref xR, .ref xS, .ref xT])), (xC, .inr (0, [.ref xA, .int (nI cn)])), (xD, .inr (1, [.ref xB, .int (nI (szN cn)), .int (nI (iv (szN cn)))])), (xK, .inr (2, [.ref xW, .ref xX, .int (z_b md), .int (nI ta), .int (nI al), .int (nI be), .int (nI ga), .int (nI de), .int (nI va)])), (xQ, .inr (3, [.ref xE, .ref xF, .int (z_b pd)])), (xV, .inl (cI, 16, .inl (fun x9 => nI (v x9)))), (xI, .inl (cI, 7, .inl (fun x9 => nI (inp x9)))), (xL, .inl (cI, 16, .inl (fun x9 => nI ((pts cn f v 0) x9)))), (xR, .inl (cI, 16, .inl (fun x9 => nI (sR x9)))), (xS, .inl (cI, 16, .inl (fun x9 => nI (sS x9)))), (xT, .inl (cI, 16, .inl (fun x9 => nI (sT x9)))), (xA, .inl (cI, 816, .inl (fun x9 => nI (f x9)))), (xB, .inl (cI, 16, .inl (fun x9 => nI (bb x9)))), (xW, .inl (cI, 16, .inl (fun x9 => nI (w x9)))), (xX, .inl (cI, 16, .inl (fun x9 => nI (mx x9)))), (xE, .inl (cI, 3, .inl (fun x9 => nI (el x9)))), (xF, .inl (cI, 16, .inl (fun x9 => nI (qt x9))))] := hD.sub [4, 0, 5, 6, 7, 2, 8, 3, 9, 10, 11, 1, 12, 13, 14, 15, 16] (by decide) rfl
  refine lv_aload_n F.1 F.2.1 dM_prove_83 rfl (lv_at hl 0 rfl) ?_
  refine z_get F hK hP hinM 0 rfl rfl 0 (by decide) rfl wf_M_10 rfl dM_prove_84 ?_
  refine z_iconst (v := 1) F (by decide) dM_prove_87 ?_
  refine lv_aload_n F.1 F.2.1 dM_prove_88 rfl (lv_at hl 0 rfl) ?_
  refine z_get F hK hP hinM 0 rfl rfl 4 (by decide) rfl wf_M_37 rfl dM_prove_89 ?_
  refine lv_aload_n F.1 F.2.1 dM_prove_92 rfl (lv_at hl 0 rfl) ?_
  refine z_get F hK hP hinM 0 rfl rfl 8 (by decide) rfl wf_M_47 rfl dM_prove_93 ?_
  have hPc := hP.sub (ws' := [(xC, .inr (0, [.ref xA, .int (nI cn)])), (xA, .inl (cI, 816, .inl (fun x9 => nI (f x9)))), (xV, .inl (cI, 16, .inl (fun x9 => nI (v x9)))), (xR, .inl (cI, 16, .inl (fun x9 => nI (sR x9)))), (x0, .inr (4, [.ref xC, .ref xD, .ref xK, .ref xQ, .ref xV, .ref xI, .int (nI pb), .ref xL, .ref xR, .ref xS, .ref xT])), (xD, .inr (1, [.ref xB, .int (nI (szN cn)), .int (nI (iv (szN cn)))])), (xK, .inr (2, [.ref xW, .ref xX, .int (z_b md), .int (nI ta), .int (nI al), .int (nI be), .int (nI ga), .int (nI de), .int (nI va)])), (xQ, .inr (3, [.ref xE, .ref xF, .int (z_b pd)])), (xI, .inl (cI, 7, .inl (fun x9 => nI (inp x9)))), (xL, .inl (cI, 16, .inl (fun x9 => nI ((pts cn f v 0) x9)))), (xS, .inl (cI, 16, .inl (fun x9 => nI (sS x9)))), (xT, .inl (cI, 16, .inl (fun x9 => nI (sT x9)))), (xB, .inl (cI, 16, .inl (fun x9 => nI (bb x9)))), (xW, .inl (cI, 16, .inl (fun x9 => nI (w x9)))), (xX, .inl (cI, 16, .inl (fun x9 => nI (mx x9)))), (xE, .inl (cI, 3, .inl (fun x9 => nI (el x9)))), (xF, .inl (cI, 16, .inl (fun x9 => nI (qt x9))))]) [1, 11, 5, 8, 0, 2, 3, 4, 6, 7, 9, 10, 12, 13, 14, 15, 16] rfl
  have hDc := hD.sub (ws' := [(xC, .inr (0, [.ref xA, .int (nI cn)])), (xA, .inl (cI, 816, .inl (fun x9 => nI (f x9)))), (xV, .inl (cI, 16, .inl (fun x9 => nI (v x9)))), (xR, .inl (cI, 16, .inl (fun x9 => nI (sR x9)))), (x0, .inr (4, [.ref xC, .ref xD, .ref xK, .ref xQ, .ref xV, .ref xI, .int (nI pb), .ref xL, .ref xR, .ref xS, .ref xT])), (xD, .inr (1, [.ref xB, .int (nI (szN cn)), .int (nI (iv (szN cn)))])), (xK, .inr (2, [.ref xW, .ref xX, .int (z_b md), .int (nI ta), .int (nI al), .int (nI be), .int (nI ga), .int (nI de), .int (nI va)])), (xQ, .inr (3, [.ref xE, .ref xF, .int (z_b pd)])), (xI, .inl (cI, 7, .inl (fun x9 => nI (inp x9)))), (xL, .inl (cI, 16, .inl (fun x9 => nI ((pts cn f v 0) x9)))), (xS, .inl (cI, 16, .inl (fun x9 => nI (sS x9)))), (xT, .inl (cI, 16, .inl (fun x9 => nI (sT x9)))), (xB, .inl (cI, 16, .inl (fun x9 => nI (bb x9)))), (xW, .inl (cI, 16, .inl (fun x9 => nI (w x9)))), (xX, .inl (cI, 16, .inl (fun x9 => nI (mx x9)))), (xE, .inl (cI, 3, .inl (fun x9 => nI (el x9)))), (xF, .inl (cI, 16, .inl (fun x9 => nI (qt x9))))]) [1, 11, 5, 8, 0, 2, 3, 4, 6, 7, 9, 10, 12, 13, 14, 15, 16] (by decide) rfl
  refine z_callW (z_runV [.int (nI 1), .ref xV, .ref xR] [] F (c_rowSums l dC dI cI cL [(x0, .inr (4, [.ref xC, .ref xD, .ref xK, .ref xQ, .ref xV, .ref xI, .int (nI pb), .ref xL, .ref xR, .ref xS, .ref xT])), (xD, .inr (1, [.ref xB, .int (nI (szN cn)), .int (nI (iv (szN cn)))])), (xK, .inr (2, [.ref xW, .ref xX, .int (z_b md), .int (nI ta), .int (nI al), .int (nI be), .int (nI ga), .int (nI de), .int (nI va)])), (xQ, .inr (3, [.ref xE, .ref xF, .int (z_b pd)])), (xI, .inl (cI, 7, .inl (fun x9 => nI (inp x9)))), (xL, .inl (cI, 16, .inl (fun x9 => nI ((pts cn f v 0) x9)))), (xS, .inl (cI, 16, .inl (fun x9 => nI (sS x9)))), (xT, .inl (cI, 16, .inl (fun x9 => nI (sT x9)))), (xB, .inl (cI, 16, .inl (fun x9 => nI (bb x9)))), (xW, .inl (cI, 16, .inl (fun x9 => nI (w x9)))), (xX, .inl (cI, 16, .inl (fun x9 => nI (mx x9)))), (xE, .inl (cI, 3, .inl (fun x9 => nI (el x9)))), (xF, .inl (cI, 16, .inl (fun x9 => nI (qt x9))))] H.size xC xA xV xR cn f v sR 1 hf hv (by decide) hn) kk_C_rowSums wl_M_119 rfl rfl ⟨Nat.le_of_ble_eq_true rfl, Nat.le_of_ble_eq_true rfl⟩ (z_preVP (q := (RC, TC, 2)) hPc hK hDc rfl (q0 := 0) rfl) rfl hl.1 rfl (Nat.le_of_ble_eq_true rfl) dM_prove_96 ⟨Nat.zero_le _, Nat.zero_le _⟩) hDc hS hAA (fun H locs hP hD hS => ?_)
  have hP : va_P (dC, dI) vwCl [(x0, .inr (4, [.ref xC, .ref xD, .ref xK, .ref xQ, .ref xV, .ref xI, .int (nI pb), .ref xL, .ref xR, .ref xS, .ref xT])), (xC, .inr (0, [.ref xA, .int (nI cn)])), (xD, .inr (1, [.ref xB, .int (nI (szN cn)), .int (nI (iv (szN cn)))])), (xK, .inr (2, [.ref xW, .ref xX, .int (z_b md), .int (nI ta), .int (nI al), .int (nI be), .int (nI ga), .int (nI de), .int (nI va)])), (xQ, .inr (3, [.ref xE, .ref xF, .int (z_b pd)])), (xV, .inl (cI, 16, .inl (fun x9 => nI (v x9)))), (xI, .inl (cI, 7, .inl (fun x9 => nI (inp x9)))), (xL, .inl (cI, 16, .inl (fun x9 => nI ((pts cn f v 0) x9)))), (xR, .inl (cI, 16, .inl (fun x9 => nI ((pts cn f v 1) x9)))), (xS, .inl (cI, 16, .inl (fun x9 => nI (sS x9)))), (xT, .inl (cI, 16, .inl (fun x9 => nI (sT x9)))), (xA, .inl (cI, 816, .inl (fun x9 => nI (f x9)))), (xB, .inl (cI, 16, .inl (fun x9 => nI (bb x9)))), (xW, .inl (cI, 16, .inl (fun x9 => nI (w x9)))), (xX, .inl (cI, 16, .inl (fun x9 => nI (mx x9)))), (xE, .inl (cI, 3, .inl (fun x9 => nI (el x9)))), (xF, .inl (cI, 16, .inl (fun x9 => nI (qt x9))))] H := hP.sub [4, 0, 5, 6, 7, 2, 8, 9, 3, 10, 11, 1, 12, 13, 14, 15, 16] rfl
  have hD : va_D A [(x0, .inr (4, [.ref xC, .ref xD, .ref xK, .ref xQ, .ref xV, .ref xI, .int (nI pb), .ref xL, .ref xR, .ref xS, .ref xT])), (xC, .inr (0, [.ref xA, .int (nI cn)])), (xD, .inr (1, [.ref xB, .int (nI (szN cn)), .int (nI (iv (szN cn)))])), (xK, .inr (2, [.ref xW, .ref xX, .int (z_b md), .int (nI ta), .int (nI al), .int (nI be), .int (nI ga), .int (nI de), .int (nI va)])), (xQ, .inr (3, [.ref xE, .ref xF, .int (z_b pd)])), (xV, .inl (cI, 16, .inl (fun x9 => nI (v x9)))), (xI, .inl (cI, 7, .inl (fun x9 => nI (inp x9)))), (xL, .inl (cI, 16, .inl (fun x9 => nI ((pts cn f v 0) x9)))), (xR, .inl (cI, 16, .inl (fun x9 => nI ((pts cn f v 1) x9)))), (xS, .inl (cI, 16, .inl (fun x9 => nI (sS x9)))), (xT, .inl (cI, 16, .inl (fun x9 => nI (sT x9)))), (xA, .inl (cI, 816, .inl (fun x9 => nI (f x9)))), (xB, .inl (cI, 16, .inl (fun x9 => nI (bb x9)))), (xW, .inl (cI, 16, .inl (fun x9 => nI (w x9)))), (xX, .inl (cI, 16, .inl (fun x9 => nI (mx x9)))), (xE, .inl (cI, 3, .inl (fun x9 => nI (el x9)))), (xF, .inl (cI, 16, .inl (fun x9 => nI (qt x9))))] := hD.sub [4, 0, 5, 6, 7, 2, 8, 9, 3, 10, 11, 1, 12, 13, 14, 15, 16] (by decide) rfl
  refine lv_aload_n F.1 F.2.1 dM_prove_99 rfl (lv_at hl 0 rfl) ?_
  refine z_get F hK hP hinM 0 rfl rfl 1 (by decide) rfl wf_M_19 rfl dM_prove_100 ?_
  refine lv_aload_n F.1 F.2.1 dM_prove_103 rfl (lv_at hl 0 rfl) ?_
  refine z_get F hK hP hinM 0 rfl rfl 7 (by decide) rfl wf_M_44 rfl dM_prove_104 ?_
  refine lv_aload_n F.1 F.2.1 dM_prove_107 rfl (lv_at hl 0 rfl) ?_
  refine z_get F hK hP hinM 0 rfl rfl 9 (by decide) rfl wf_M_50 rfl dM_prove_108 ?_
  have hPc := hP.sub (ws' := [(xD, .inr (1, [.ref xB, .int (nI (szN cn)), .int (nI (iv (szN cn)))])), (xB, .inl (cI, 16, .inl (fun x9 => nI (bb x9)))), (xL, .inl (cI, 16, .inl (fun x9 => nI ((pts cn f v 0) x9)))), (xS, .inl (cI, 16, .inl (fun x9 => nI (sS x9)))), (x0, .inr (4, [.ref xC, .ref xD, .ref xK, .ref xQ, .ref xV, .ref xI, .int (nI pb), .ref xL, .ref xR, .ref xS, .ref xT])), (xC, .inr (0, [.ref xA, .int (nI cn)])), (xK, .inr (2, [.ref xW, .ref xX, .int (z_b md), .int (nI ta), .int (nI al), .int (nI be), .int (nI ga), .int (nI de), .int (nI va)])), (xQ, .inr (3, [.ref xE, .ref xF, .int (z_b pd)])), (xV, .inl (cI, 16, .inl (fun x9 => nI (v x9)))), (xI, .inl (cI, 7, .inl (fun x9 => nI (inp x9)))), (xR, .inl (cI, 16, .inl (fun x9 => nI ((pts cn f v 1) x9)))), (xT, .inl (cI, 16, .inl (fun x9 => nI (sT x9)))), (xA, .inl (cI, 816, .inl (fun x9 => nI (f x9)))), (xW, .inl (cI, 16, .inl (fun x9 => nI (w x9)))), (xX, .inl (cI, 16, .inl (fun x9 => nI (mx x9)))), (xE, .inl (cI, 3, .inl (fun x9 => nI (el x9)))), (xF, .inl (cI, 16, .inl (fun x9 => nI (qt x9))))]) [2, 12, 7, 9, 0, 1, 3, 4, 5, 6, 8, 10, 11, 13, 14, 15, 16] rfl
  have hDc := hD.sub (ws' := [(xD, .inr (1, [.ref xB, .int (nI (szN cn)), .int (nI (iv (szN cn)))])), (xB, .inl (cI, 16, .inl (fun x9 => nI (bb x9)))), (xL, .inl (cI, 16, .inl (fun x9 => nI ((pts cn f v 0) x9)))), (xS, .inl (cI, 16, .inl (fun x9 => nI (sS x9)))), (x0, .inr (4, [.ref xC, .ref xD, .ref xK, .ref xQ, .ref xV, .ref xI, .int (nI pb), .ref xL, .ref xR, .ref xS, .ref xT])), (xC, .inr (0, [.ref xA, .int (nI cn)])), (xK, .inr (2, [.ref xW, .ref xX, .int (z_b md), .int (nI ta), .int (nI al), .int (nI be), .int (nI ga), .int (nI de), .int (nI va)])), (xQ, .inr (3, [.ref xE, .ref xF, .int (z_b pd)])), (xV, .inl (cI, 16, .inl (fun x9 => nI (v x9)))), (xI, .inl (cI, 7, .inl (fun x9 => nI (inp x9)))), (xR, .inl (cI, 16, .inl (fun x9 => nI ((pts cn f v 1) x9)))), (xT, .inl (cI, 16, .inl (fun x9 => nI (sT x9)))), (xA, .inl (cI, 816, .inl (fun x9 => nI (f x9)))), (xW, .inl (cI, 16, .inl (fun x9 => nI (w x9)))), (xX, .inl (cI, 16, .inl (fun x9 => nI (mx x9)))), (xE, .inl (cI, 3, .inl (fun x9 => nI (el x9)))), (xF, .inl (cI, 16, .inl (fun x9 => nI (qt x9))))]) [2, 12, 7, 9, 0, 1, 3, 4, 5, 6, 8, 10, 11, 13, 14, 15, 16] (by decide) rfl
  refine z_callW (z_runV [.ref xL, .ref xS] [] F (c_interpolate l dC dI cI cL [(x0, .inr (4, [.ref xC, .ref xD, .ref xK, .ref xQ, .ref xV, .ref xI, .int (nI pb), .ref xL, .ref xR, .ref xS, .ref xT])), (xC, .inr (0, [.ref xA, .int (nI cn)])), (xK, .inr (2, [.ref xW, .ref xX, .int (z_b md), .int (nI ta), .int (nI al), .int (nI be), .int (nI ga), .int (nI de), .int (nI va)])), (xQ, .inr (3, [.ref xE, .ref xF, .int (z_b pd)])), (xV, .inl (cI, 16, .inl (fun x9 => nI (v x9)))), (xI, .inl (cI, 7, .inl (fun x9 => nI (inp x9)))), (xR, .inl (cI, 16, .inl (fun x9 => nI ((pts cn f v 1) x9)))), (xT, .inl (cI, 16, .inl (fun x9 => nI (sT x9)))), (xA, .inl (cI, 816, .inl (fun x9 => nI (f x9)))), (xW, .inl (cI, 16, .inl (fun x9 => nI (w x9)))), (xX, .inl (cI, 16, .inl (fun x9 => nI (mx x9)))), (xE, .inl (cI, 3, .inl (fun x9 => nI (el x9)))), (xF, .inl (cI, 16, .inl (fun x9 => nI (qt x9))))] H.size xD xB xL xS (szN cn) (iv (szN cn)) bb (pts cn f v 0) sS pts_lt hbb (iv_lt _) kk h4 hz) kk_D_interpolate wl_M_123 rfl rfl ⟨Nat.le_of_ble_eq_true rfl, Nat.le_of_ble_eq_true rfl⟩ (z_preVP (q := (RD, TD, 3)) hPc hK hDc rfl (q0 := 0) rfl) rfl hl.1 rfl (Nat.le_of_ble_eq_true rfl) dM_prove_111 ⟨Nat.zero_le _, Nat.zero_le _⟩) hDc hS hAA (fun H locs hP hD hS => ?_)
  have hP : va_P (dC, dI) vwCl [(x0, .inr (4, [.ref xC, .ref xD, .ref xK, .ref xQ, .ref xV, .ref xI, .int (nI pb), .ref xL, .ref xR, .ref xS, .ref xT])), (xC, .inr (0, [.ref xA, .int (nI cn)])), (xD, .inr (1, [.ref xB, .int (nI (szN cn)), .int (nI (iv (szN cn)))])), (xK, .inr (2, [.ref xW, .ref xX, .int (z_b md), .int (nI ta), .int (nI al), .int (nI be), .int (nI ga), .int (nI de), .int (nI va)])), (xQ, .inr (3, [.ref xE, .ref xF, .int (z_b pd)])), (xV, .inl (cI, 16, .inl (fun x9 => nI (v x9)))), (xI, .inl (cI, 7, .inl (fun x9 => nI (inp x9)))), (xL, .inl (cI, 16, .inl (fun x9 => nI ((pts cn f v 0) x9)))), (xR, .inl (cI, 16, .inl (fun x9 => nI ((pts cn f v 1) x9)))), (xS, .inl (cI, 16, .inl (fun x9 => nI ((itp (szN cn) (iv (szN cn)) bb (pts cn f v 0) sS) x9)))), (xT, .inl (cI, 16, .inl (fun x9 => nI (sT x9)))), (xA, .inl (cI, 816, .inl (fun x9 => nI (f x9)))), (xB, .inl (cI, 16, .inl (fun x9 => nI (bb x9)))), (xW, .inl (cI, 16, .inl (fun x9 => nI (w x9)))), (xX, .inl (cI, 16, .inl (fun x9 => nI (mx x9)))), (xE, .inl (cI, 3, .inl (fun x9 => nI (el x9)))), (xF, .inl (cI, 16, .inl (fun x9 => nI (qt x9))))] H := hP.sub [4, 5, 0, 6, 7, 8, 9, 2, 10, 3, 11, 12, 1, 13, 14, 15, 16] rfl
  have hD : va_D A [(x0, .inr (4, [.ref xC, .ref xD, .ref xK, .ref xQ, .ref xV, .ref xI, .int (nI pb), .ref xL, .ref xR, .ref xS, .ref xT])), (xC, .inr (0, [.ref xA, .int (nI cn)])), (xD, .inr (1, [.ref xB, .int (nI (szN cn)), .int (nI (iv (szN cn)))])), (xK, .inr (2, [.ref xW, .ref xX, .int (z_b md), .int (nI ta), .int (nI al), .int (nI be), .int (nI ga), .int (nI de), .int (nI va)])), (xQ, .inr (3, [.ref xE, .ref xF, .int (z_b pd)])), (xV, .inl (cI, 16, .inl (fun x9 => nI (v x9)))), (xI, .inl (cI, 7, .inl (fun x9 => nI (inp x9)))), (xL, .inl (cI, 16, .inl (fun x9 => nI ((pts cn f v 0) x9)))), (xR, .inl (cI, 16, .inl (fun x9 => nI ((pts cn f v 1) x9)))), (xS, .inl (cI, 16, .inl (fun x9 => nI ((itp (szN cn) (iv (szN cn)) bb (pts cn f v 0) sS) x9)))), (xT, .inl (cI, 16, .inl (fun x9 => nI (sT x9)))), (xA, .inl (cI, 816, .inl (fun x9 => nI (f x9)))), (xB, .inl (cI, 16, .inl (fun x9 => nI (bb x9)))), (xW, .inl (cI, 16, .inl (fun x9 => nI (w x9)))), (xX, .inl (cI, 16, .inl (fun x9 => nI (mx x9)))), (xE, .inl (cI, 3, .inl (fun x9 => nI (el x9)))), (xF, .inl (cI, 16, .inl (fun x9 => nI (qt x9))))] := hD.sub [4, 5, 0, 6, 7, 8, 9, 2, 10, 3, 11, 12, 1, 13, 14, 15, 16] (by decide) rfl
  refine lv_aload_n F.1 F.2.1 dM_prove_114 rfl (lv_at hl 0 rfl) ?_
  refine z_get F hK hP hinM 0 rfl rfl 1 (by decide) rfl wf_M_19 rfl dM_prove_115 ?_
  refine lv_aload_n F.1 F.2.1 dM_prove_118 rfl (lv_at hl 0 rfl) ?_
  refine z_get F hK hP hinM 0 rfl rfl 8 (by decide) rfl wf_M_47 rfl dM_prove_119 ?_
  refine lv_aload_n F.1 F.2.1 dM_prove_122 rfl (lv_at hl 0 rfl) ?_
  refine z_get F hK hP hinM 0 rfl rfl 10 (by decide) rfl wf_M_53 rfl dM_prove_123 ?_
  have hPc := hP.sub (ws' := [(xD, .inr (1, [.ref xB, .int (nI (szN cn)), .int (nI (iv (szN cn)))])), (xB, .inl (cI, 16, .inl (fun x9 => nI (bb x9)))), (xR, .inl (cI, 16, .inl (fun x9 => nI ((pts cn f v 1) x9)))), (xT, .inl (cI, 16, .inl (fun x9 => nI (sT x9)))), (x0, .inr (4, [.ref xC, .ref xD, .ref xK, .ref xQ, .ref xV, .ref xI, .int (nI pb), .ref xL, .ref xR, .ref xS, .ref xT])), (xC, .inr (0, [.ref xA, .int (nI cn)])), (xK, .inr (2, [.ref xW, .ref xX, .int (z_b md), .int (nI ta), .int (nI al), .int (nI be), .int (nI ga), .int (nI de), .int (nI va)])), (xQ, .inr (3, [.ref xE, .ref xF, .int (z_b pd)])), (xV, .inl (cI, 16, .inl (fun x9 => nI (v x9)))), (xI, .inl (cI, 7, .inl (fun x9 => nI (inp x9)))), (xL, .inl (cI, 16, .inl (fun x9 => nI ((pts cn f v 0) x9)))), (xS, .inl (cI, 16, .inl (fun x9 => nI ((itp (szN cn) (iv (szN cn)) bb (pts cn f v 0) sS) x9)))), (xA, .inl (cI, 816, .inl (fun x9 => nI (f x9)))), (xW, .inl (cI, 16, .inl (fun x9 => nI (w x9)))), (xX, .inl (cI, 16, .inl (fun x9 => nI (mx x9)))), (xE, .inl (cI, 3, .inl (fun x9 => nI (el x9)))), (xF, .inl (cI, 16, .inl (fun x9 => nI (qt x9))))]) [2, 12, 8, 10, 0, 1, 3, 4, 5, 6, 7, 9, 11, 13, 14, 15, 16] rfl
  have hDc := hD.sub (ws' := [(xD, .inr (1, [.ref xB, .int (nI (szN cn)), .int (nI (iv (szN cn)))])), (xB, .inl (cI, 16, .inl (fun x9 => nI (bb x9)))), (xR, .inl (cI, 16, .inl (fun x9 => nI ((pts cn f v 1) x9)))), (xT, .inl (cI, 16, .inl (fun x9 => nI (sT x9)))), (x0, .inr (4, [.ref xC, .ref xD, .ref xK, .ref xQ, .ref xV, .ref xI, .int (nI pb), .ref xL, .ref xR, .ref xS, .ref xT])), (xC, .inr (0, [.ref xA, .int (nI cn)])), (xK, .inr (2, [.ref xW, .ref xX, .int (z_b md), .int (nI ta), .int (nI al), .int (nI be), .int (nI ga), .int (nI de), .int (nI va)])), (xQ, .inr (3, [.ref xE, .ref xF, .int (z_b pd)])), (xV, .inl (cI, 16, .inl (fun x9 => nI (v x9)))), (xI, .inl (cI, 7, .inl (fun x9 => nI (inp x9)))), (xL, .inl (cI, 16, .inl (fun x9 => nI ((pts cn f v 0) x9)))), (xS, .inl (cI, 16, .inl (fun x9 => nI ((itp (szN cn) (iv (szN cn)) bb (pts cn f v 0) sS) x9)))), (xA, .inl (cI, 816, .inl (fun x9 => nI (f x9)))), (xW, .inl (cI, 16, .inl (fun x9 => nI (w x9)))), (xX, .inl (cI, 16, .inl (fun x9 => nI (mx x9)))), (xE, .inl (cI, 3, .inl (fun x9 => nI (el x9)))), (xF, .inl (cI, 16, .inl (fun x9 => nI (qt x9))))]) [2, 12, 8, 10, 0, 1, 3, 4, 5, 6, 7, 9, 11, 13, 14, 15, 16] (by decide) rfl
  refine z_callW (z_runV [.ref xR, .ref xT] [] F (c_interpolate l dC dI cI cL [(x0, .inr (4, [.ref xC, .ref xD, .ref xK, .ref xQ, .ref xV, .ref xI, .int (nI pb), .ref xL, .ref xR, .ref xS, .ref xT])), (xC, .inr (0, [.ref xA, .int (nI cn)])), (xK, .inr (2, [.ref xW, .ref xX, .int (z_b md), .int (nI ta), .int (nI al), .int (nI be), .int (nI ga), .int (nI de), .int (nI va)])), (xQ, .inr (3, [.ref xE, .ref xF, .int (z_b pd)])), (xV, .inl (cI, 16, .inl (fun x9 => nI (v x9)))), (xI, .inl (cI, 7, .inl (fun x9 => nI (inp x9)))), (xL, .inl (cI, 16, .inl (fun x9 => nI ((pts cn f v 0) x9)))), (xS, .inl (cI, 16, .inl (fun x9 => nI ((itp (szN cn) (iv (szN cn)) bb (pts cn f v 0) sS) x9)))), (xA, .inl (cI, 816, .inl (fun x9 => nI (f x9)))), (xW, .inl (cI, 16, .inl (fun x9 => nI (w x9)))), (xX, .inl (cI, 16, .inl (fun x9 => nI (mx x9)))), (xE, .inl (cI, 3, .inl (fun x9 => nI (el x9)))), (xF, .inl (cI, 16, .inl (fun x9 => nI (qt x9))))] H.size xD xB xR xT (szN cn) (iv (szN cn)) bb (pts cn f v 1) sT pts_lt hbb (iv_lt _) kk h4 hz) kk_D_interpolate wl_M_123 rfl rfl ⟨Nat.le_of_ble_eq_true rfl, Nat.le_of_ble_eq_true rfl⟩ (z_preVP (q := (RD, TD, 3)) hPc hK hDc rfl (q0 := 0) rfl) rfl hl.1 rfl (Nat.le_of_ble_eq_true rfl) dM_prove_126 ⟨Nat.zero_le _, Nat.zero_le _⟩) hDc hS hAA (fun H locs hP hD hS => ?_)
  have hP : va_P (dC, dI) vwCl [(x0, .inr (4, [.ref xC, .ref xD, .ref xK, .ref xQ, .ref xV, .ref xI, .int (nI pb), .ref xL, .ref xR, .ref xS, .ref xT])), (xC, .inr (0, [.ref xA, .int (nI cn)])), (xD, .inr (1, [.ref xB, .int (nI (szN cn)), .int (nI (iv (szN cn)))])), (xK, .inr (2, [.ref xW, .ref xX, .int (z_b md), .int (nI ta), .int (nI al), .int (nI be), .int (nI ga), .int (nI de), .int (nI va)])), (xQ, .inr (3, [.ref xE, .ref xF, .int (z_b pd)])), (xV, .inl (cI, 16, .inl (fun x9 => nI (v x9)))), (xI, .inl (cI, 7, .inl (fun x9 => nI (inp x9)))), (xL, .inl (cI, 16, .inl (fun x9 => nI ((pts cn f v 0) x9)))), (xR, .inl (cI, 16, .inl (fun x9 => nI ((pts cn f v 1) x9)))), (xS, .inl (cI, 16, .inl (fun x9 => nI ((itp (szN cn) (iv (szN cn)) bb (pts cn f v 0) sS) x9)))), (xT, .inl (cI, 16, .inl (fun x9 => nI ((itp (szN cn) (iv (szN cn)) bb (pts cn f v 1) sT) x9)))), (xA, .inl (cI, 816, .inl (fun x9 => nI (f x9)))), (xB, .inl (cI, 16, .inl (fun x9 => nI (bb x9)))), (xW, .inl (cI, 16, .inl (fun x9 => nI (w x9)))), (xX, .inl (cI, 16, .inl (fun x9 => nI (mx x9)))), (xE, .inl (cI, 3, .inl (fun x9 => nI (el x9)))), (xF, .inl (cI, 16, .inl (fun x9 => nI (qt x9))))] H := hP.sub [4, 5, 0, 6, 7, 8, 9, 10, 2, 11, 3, 12, 1, 13, 14, 15, 16] rfl
  have hD : va_D A [(x0, .inr (4, [.ref xC, .ref xD, .ref xK, .ref xQ, .ref xV, .ref xI, .int (nI pb), .ref xL, .ref xR, .ref xS, .ref xT])), (xC, .inr (0, [.ref xA, .int (nI cn)])), (xD, .inr (1, [.ref xB, .int (nI (szN cn)), .int (nI (iv (szN cn)))])), (xK, .inr (2, [.ref xW, .ref xX, .int (z_b md), .int (nI ta), .int (nI al), .int (nI be), .int (nI ga), .int (nI de), .int (nI va)])), (xQ, .inr (3, [.ref xE, .ref xF, .int (z_b pd)])), (xV, .inl (cI, 16, .inl (fun x9 => nI (v x9)))), (xI, .inl (cI, 7, .inl (fun x9 => nI (inp x9)))), (xL, .inl (cI, 16, .inl (fun x9 => nI ((pts cn f v 0) x9)))), (xR, .inl (cI, 16, .inl (fun x9 => nI ((pts cn f v 1) x9)))), (xS, .inl (cI, 16, .inl (fun x9 => nI ((itp (szN cn) (iv (szN cn)) bb (pts cn f v 0) sS) x9)))), (xT, .inl (cI, 16, .inl (fun x9 => nI ((itp (szN cn) (iv (szN cn)) bb (pts cn f v 1) sT) x9)))), (xA, .inl (cI, 816, .inl (fun x9 => nI (f x9)))), (xB, .inl (cI, 16, .inl (fun x9 => nI (bb x9)))), (xW, .inl (cI, 16, .inl (fun x9 => nI (w x9)))), (xX, .inl (cI, 16, .inl (fun x9 => nI (mx x9)))), (xE, .inl (cI, 3, .inl (fun x9 => nI (el x9)))), (xF, .inl (cI, 16, .inl (fun x9 => nI (qt x9))))] := hD.sub [4, 5, 0, 6, 7, 8, 9, 10, 2, 11, 3, 12, 1, 13, 14, 15, 16] (by decide) rfl
  refine lv_aload_n F.1 F.2.1 dM_prove_129 rfl (lv_at hl 0 rfl) ?_
  refine z_get F hK hP hinM 0 rfl rfl 3 (by decide) rfl wf_M_33 rfl dM_prove_130 ?_
  refine lv_aload_n F.1 F.2.1 dM_prove_133 rfl (lv_at hl 0 rfl) ?_
  refine z_get F hK hP hinM 0 rfl rfl 9 (by decide) rfl wf_M_50 rfl dM_prove_134 ?_
  refine lv_aload_n F.1 F.2.1 dM_prove_137 rfl (lv_at hl 0 rfl) ?_
  refine z_get F hK hP hinM 0 rfl rfl 10 (by decide) rfl wf_M_53 rfl dM_prove_138 ?_
  refine lv_aload_n F.1 F.2.1 dM_prove_141 rfl (lv_at hl 0 rfl) ?_
  refine z_get F hK hP hinM 0 rfl rfl 1 (by decide) rfl wf_M_19 rfl dM_prove_142 ?_
  refine z_call (z_runV [] [.ref xT, .ref xS, .ref xQ] F (c_size l dC dI cI cL _ 2 xD xB (szN cn) (iv (szN cn)) rfl) kk_D_size wl_M_112 rfl rfl ⟨Nat.le_of_ble_eq_true rfl, Nat.le_of_ble_eq_true rfl⟩ (z_preVR (q := (RD, TD, 3)) hP hK rfl (q0 := 2) rfl) rfl hl.1 rfl (Nat.le_of_ble_eq_true rfl) dM_prove_145 ⟨Nat.zero_le _, Nat.zero_le _⟩) ?_
  have hPc := hP.sub (ws' := [(xQ, .inr (3, [.ref xE, .ref xF, .int (z_b pd)])), (xF, .inl (cI, 16, .inl (fun x9 => nI (qt x9)))), (xS, .inl (cI, 16, .inl (fun x9 => nI ((itp (szN cn) (iv (szN cn)) bb (pts cn f v 0) sS) x9)))), (xT, .inl (cI, 16, .inl (fun x9 => nI ((itp (szN cn) (iv (szN cn)) bb (pts cn f v 1) sT) x9)))), (x0, .inr (4, [.ref xC, .ref xD, .ref xK, .ref xQ, .ref xV, .ref xI, .int (nI pb), .ref xL, .ref xR, .ref xS, .ref xT])), (xC, .inr (0, [.ref xA, .int (nI cn)])), (xD, .inr (1, [.ref xB, .int (nI (szN cn)), .int (nI (iv (szN cn)))])), (xK, .inr (2, [.ref xW, .ref xX, .int (z_b md), .int (nI ta), .int (nI al), .int (nI be), .int (nI ga), .int (nI de), .int (nI va)])), (xV, .inl (cI, 16, .inl (fun x9 => nI (v x9)))), (xI, .inl (cI, 7, .inl (fun x9 => nI (inp x9)))), (xL, .inl (cI, 16, .inl (fun x9 => nI ((pts cn f v 0) x9)))), (xR, .inl (cI, 16, .inl (fun x9 => nI ((pts cn f v 1) x9)))), (xA, .inl (cI, 816, .inl (fun x9 => nI (f x9)))), (xB, .inl (cI, 16, .inl (fun x9 => nI (bb x9)))), (xW, .inl (cI, 16, .inl (fun x9 => nI (w x9)))), (xX, .inl (cI, 16, .inl (fun x9 => nI (mx x9)))), (xE, .inl (cI, 3, .inl (fun x9 => nI (el x9))))]) [4, 16, 9, 10, 0, 1, 2, 3, 5, 6, 7, 8, 11, 12, 13, 14, 15] rfl
  have hDc := hD.sub (ws' := [(xQ, .inr (3, [.ref xE, .ref xF, .int (z_b pd)])), (xF, .inl (cI, 16, .inl (fun x9 => nI (qt x9)))), (xS, .inl (cI, 16, .inl (fun x9 => nI ((itp (szN cn) (iv (szN cn)) bb (pts cn f v 0) sS) x9)))), (xT, .inl (cI, 16, .inl (fun x9 => nI ((itp (szN cn) (iv (szN cn)) bb (pts cn f v 1) sT) x9)))), (x0, .inr (4, [.ref xC, .ref xD, .ref xK, .ref xQ, .ref xV, .ref xI, .int (nI pb), .ref xL, .ref xR, .ref xS, .ref xT])), (xC, .inr (0, [.ref xA, .int (nI cn)])), (xD, .inr (1, [.ref xB, .int (nI (szN cn)), .int (nI (iv (szN cn)))])), (xK, .inr (2, [.ref xW, .ref xX, .int (z_b md), .int (nI ta), .int (nI al), .int (nI be), .int (nI ga), .int (nI de), .int (nI va)])), (xV, .inl (cI, 16, .inl (fun x9 => nI (v x9)))), (xI, .inl (cI, 7, .inl (fun x9 => nI (inp x9)))), (xL, .inl (cI, 16, .inl (fun x9 => nI ((pts cn f v 0) x9)))), (xR, .inl (cI, 16, .inl (fun x9 => nI ((pts cn f v 1) x9)))), (xA, .inl (cI, 816, .inl (fun x9 => nI (f x9)))), (xB, .inl (cI, 16, .inl (fun x9 => nI (bb x9)))), (xW, .inl (cI, 16, .inl (fun x9 => nI (w x9)))), (xX, .inl (cI, 16, .inl (fun x9 => nI (mx x9)))), (xE, .inl (cI, 3, .inl (fun x9 => nI (el x9))))]) [4, 16, 9, 10, 0, 1, 2, 3, 5, 6, 7, 8, 11, 12, 13, 14, 15] (by decide) rfl
  refine z_callW (z_runV [.ref xS, .ref xT, .int (nI (szN cn))] [] F (cq_divide l dC dI cI cL [(x0, .inr (4, [.ref xC, .ref xD, .ref xK, .ref xQ, .ref xV, .ref xI, .int (nI pb), .ref xL, .ref xR, .ref xS, .ref xT])), (xC, .inr (0, [.ref xA, .int (nI cn)])), (xD, .inr (1, [.ref xB, .int (nI (szN cn)), .int (nI (iv (szN cn)))])), (xK, .inr (2, [.ref xW, .ref xX, .int (z_b md), .int (nI ta), .int (nI al), .int (nI be), .int (nI ga), .int (nI de), .int (nI va)])), (xV, .inl (cI, 16, .inl (fun x9 => nI (v x9)))), (xI, .inl (cI, 7, .inl (fun x9 => nI (inp x9)))), (xL, .inl (cI, 16, .inl (fun x9 => nI ((pts cn f v 0) x9)))), (xR, .inl (cI, 16, .inl (fun x9 => nI ((pts cn f v 1) x9)))), (xA, .inl (cI, 816, .inl (fun x9 => nI (f x9)))), (xB, .inl (cI, 16, .inl (fun x9 => nI (bb x9)))), (xW, .inl (cI, 16, .inl (fun x9 => nI (w x9)))), (xX, .inl (cI, 16, .inl (fun x9 => nI (mx x9)))), (xE, .inl (cI, 3, .inl (fun x9 => nI (el x9))))] H.size xQ xE xF xS xT (szN cn) pd qt (itp (szN cn) (iv (szN cn)) bb (pts cn f v 0) sS) (itp (szN cn) (iv (szN cn)) bb (pts cn f v 1) sT) (itp_lt hsS) (itp_lt hsT) hhi) kk_Q_divide wl_M_127 rfl rfl ⟨Nat.le_of_ble_eq_true rfl, Nat.le_of_ble_eq_true rfl⟩ (z_preVP (q := (RQ, TQ, 3)) hPc hK hDc rfl (q0 := 0) rfl) rfl hl.1 rfl (Nat.le_of_ble_eq_true rfl) dM_prove_148 ⟨Nat.zero_le _, Nat.zero_le _⟩) hDc hS hAA (fun H locs hP hD hS => ?_)
  have hP : va_P (dC, dI) vwCl [(x0, .inr (4, [.ref xC, .ref xD, .ref xK, .ref xQ, .ref xV, .ref xI, .int (nI pb), .ref xL, .ref xR, .ref xS, .ref xT])), (xC, .inr (0, [.ref xA, .int (nI cn)])), (xD, .inr (1, [.ref xB, .int (nI (szN cn)), .int (nI (iv (szN cn)))])), (xK, .inr (2, [.ref xW, .ref xX, .int (z_b md), .int (nI ta), .int (nI al), .int (nI be), .int (nI ga), .int (nI de), .int (nI va)])), (xQ, .inr (3, [.ref xE, .ref xF, .int (z_b pd)])), (xV, .inl (cI, 16, .inl (fun x9 => nI (v x9)))), (xI, .inl (cI, 7, .inl (fun x9 => nI (inp x9)))), (xL, .inl (cI, 16, .inl (fun x9 => nI ((pts cn f v 0) x9)))), (xR, .inl (cI, 16, .inl (fun x9 => nI ((pts cn f v 1) x9)))), (xS, .inl (cI, 16, .inl (fun x9 => nI ((itp (szN cn) (iv (szN cn)) bb (pts cn f v 0) sS) x9)))), (xT, .inl (cI, 16, .inl (fun x9 => nI ((itp (szN cn) (iv (szN cn)) bb (pts cn f v 1) sT) x9)))), (xA, .inl (cI, 816, .inl (fun x9 => nI (f x9)))), (xB, .inl (cI, 16, .inl (fun x9 => nI (bb x9)))), (xW, .inl (cI, 16, .inl (fun x9 => nI (w x9)))), (xX, .inl (cI, 16, .inl (fun x9 => nI (mx x9)))), (xE, .inl (cI, 3, .inl (fun x9 => nI (el x9)))), (xF, .inl (cI, 16, .inl (fun x9 => nI ((dvd (szN cn) (itp (szN cn) (iv (szN cn)) bb (pts cn f v 0) sS) (itp (szN cn) (iv (szN cn)) bb (pts cn f v 1) sT)) x9))))] H := hP.sub [4, 5, 6, 7, 0, 8, 9, 10, 11, 2, 3, 12, 13, 14, 15, 16, 1] rfl
  have hD : va_D A [(x0, .inr (4, [.ref xC, .ref xD, .ref xK, .ref xQ, .ref xV, .ref xI, .int (nI pb), .ref xL, .ref xR, .ref xS, .ref xT])), (xC, .inr (0, [.ref xA, .int (nI cn)])), (xD, .inr (1, [.ref xB, .int (nI (szN cn)), .int (nI (iv (szN cn)))])), (xK, .inr (2, [.ref xW, .ref xX, .int (z_b md), .int (nI ta), .int (nI al), .int (nI be), .int (nI ga), .int (nI de), .int (nI va)])), (xQ, .inr (3, [.ref xE, .ref xF, .int (z_b pd)])), (xV, .inl (cI, 16, .inl (fun x9 => nI (v x9)))), (xI, .inl (cI, 7, .inl (fun x9 => nI (inp x9)))), (xL, .inl (cI, 16, .inl (fun x9 => nI ((pts cn f v 0) x9)))), (xR, .inl (cI, 16, .inl (fun x9 => nI ((pts cn f v 1) x9)))), (xS, .inl (cI, 16, .inl (fun x9 => nI ((itp (szN cn) (iv (szN cn)) bb (pts cn f v 0) sS) x9)))), (xT, .inl (cI, 16, .inl (fun x9 => nI ((itp (szN cn) (iv (szN cn)) bb (pts cn f v 1) sT) x9)))), (xA, .inl (cI, 816, .inl (fun x9 => nI (f x9)))), (xB, .inl (cI, 16, .inl (fun x9 => nI (bb x9)))), (xW, .inl (cI, 16, .inl (fun x9 => nI (w x9)))), (xX, .inl (cI, 16, .inl (fun x9 => nI (mx x9)))), (xE, .inl (cI, 3, .inl (fun x9 => nI (el x9)))), (xF, .inl (cI, 16, .inl (fun x9 => nI ((dvd (szN cn) (itp (szN cn) (iv (szN cn)) bb (pts cn f v 0) sS) (itp (szN cn) (iv (szN cn)) bb (pts cn f v 1) sT)) x9))))] := hD.sub [4, 5, 6, 7, 0, 8, 9, 10, 11, 2, 3, 12, 13, 14, 15, 16, 1] (by decide) rfl
  refine lv_aload_n F.1 F.2.1 dM_prove_151 rfl (lv_at hl 0 rfl) ?_
  refine lv_iload_n F.1 F.2.1 dM_prove_152 rfl (lv_at hl 1 rfl) ?_
  refine lv_iload_n F.1 F.2.1 dM_prove_153 rfl (lv_at hl 2 rfl) ?_
  refine z_callW (z_runV [.int (nI x), .int (nI y)] [] F (cm_makeElements l dC dI cI cL H.size x0 xC xD xK xQ xV xI xL xR xS xT xA xB xW xX xE xF pb cn ta al be ga de va md pd v inp (pts cn f v 0) (pts cn f v 1) (itp (szN cn) (iv (szN cn)) bb (pts cn f v 0) sS) (itp (szN cn) (iv (szN cn)) bb (pts cn f v 1) sT) f bb w mx el (dvd (szN cn) (itp (szN cn) (iv (szN cn)) bb (pts cn f v 0) sS) (itp (szN cn) (iv (szN cn)) bb (pts cn f v 1) sT)) x y pts_lt pts_lt hv hw hmx dvd_lt hx hy hal hbe hde hta hva hpb) kk_M_makeElements wl_M_131 rfl rfl ⟨Nat.le_of_ble_eq_true rfl, Nat.le_of_ble_eq_true rfl⟩ (z_preVP (q := (RM, TM, 11)) hP hK hD rfl (q0 := 0) rfl) rfl hl.1 rfl (Nat.le_of_ble_eq_true rfl) dM_prove_154 ⟨Nat.zero_le _, Nat.zero_le _⟩) hD hS hAA (fun H locs hP hD hS => ?_)
  have hP : va_P (dC, dI) vwCl ([(x0, .inr (4, [.ref xC, .ref xD, .ref xK, .ref xQ, .ref xV, .ref xI, .int (nI pb), .ref xL, .ref xR, .ref xS, .ref xT])), (xC, .inr (0, [.ref xA, .int (nI cn)])), (xD, .inr (1, [.ref xB, .int (nI (szN cn)), .int (nI (iv (szN cn)))])), (xK, .inr (2, [.ref xW, .ref xX, .int (z_b md), .int (nI ta), .int (nI al), .int (nI be), .int (nI ga), .int (nI de), .int (nI va)])), (xQ, .inr (3, [.ref xE, .ref xF, .int (z_b true)])), (xV, .inl (cI, 16, .inl (fun x9 => nI (v x9)))), (xI, .inl (cI, 7, .inl (fun x9 => nI (inp x9)))), (xL, .inl (cI, 16, .inl (fun x9 => nI ((pts cn f v 0) x9)))), (xR, .inl (cI, 16, .inl (fun x9 => nI ((pts cn f v 1) x9)))), (xS, .inl (cI, 16, .inl (fun x9 => nI ((itp (szN cn) (iv (szN cn)) bb (pts cn f v 0) sS) x9)))), (xT, .inl (cI, 16, .inl (fun x9 => nI ((itp (szN cn) (iv (szN cn)) bb (pts cn f v 1) sT) x9)))), (xA, .inl (cI, 816, .inl (fun x9 => nI (f x9)))), (xB, .inl (cI, 16, .inl (fun x9 => nI (bb x9)))), (xW, .inl (cI, 16, .inl (fun x9 => nI (w x9)))), (xX, .inl (cI, 16, .inl (fun x9 => nI (mx x9)))), (xE, .inl (cI, 3, .inl (fun x9 => nI ((va_up (va_up (va_up el 0 (mkA al de x (pts cn f v 0) w)) 1 (mkA be de y (pts cn f v 1) w)) 2 (mkC (mkH pb ta va v mx (dvd (szN cn) (itp (szN cn) (iv (szN cn)) bb (pts cn f v 0) sS) (itp (szN cn) (iv (szN cn)) bb (pts cn f v 1) sT))) de (mkA al de x (pts cn f v 0) w) (mkA be de y (pts cn f v 1) w) x y)) x9)))), (xF, .inl (cI, 16, .inl (fun x9 => nI ((dvd (szN cn) (itp (szN cn) (iv (szN cn)) bb (pts cn f v 0) sS) (itp (szN cn) (iv (szN cn)) bb (pts cn f v 1) sT)) x9))))]) H := hP
  have hD : va_D A ([(x0, .inr (4, [.ref xC, .ref xD, .ref xK, .ref xQ, .ref xV, .ref xI, .int (nI pb), .ref xL, .ref xR, .ref xS, .ref xT])), (xC, .inr (0, [.ref xA, .int (nI cn)])), (xD, .inr (1, [.ref xB, .int (nI (szN cn)), .int (nI (iv (szN cn)))])), (xK, .inr (2, [.ref xW, .ref xX, .int (z_b md), .int (nI ta), .int (nI al), .int (nI be), .int (nI ga), .int (nI de), .int (nI va)])), (xQ, .inr (3, [.ref xE, .ref xF, .int (z_b true)])), (xV, .inl (cI, 16, .inl (fun x9 => nI (v x9)))), (xI, .inl (cI, 7, .inl (fun x9 => nI (inp x9)))), (xL, .inl (cI, 16, .inl (fun x9 => nI ((pts cn f v 0) x9)))), (xR, .inl (cI, 16, .inl (fun x9 => nI ((pts cn f v 1) x9)))), (xS, .inl (cI, 16, .inl (fun x9 => nI ((itp (szN cn) (iv (szN cn)) bb (pts cn f v 0) sS) x9)))), (xT, .inl (cI, 16, .inl (fun x9 => nI ((itp (szN cn) (iv (szN cn)) bb (pts cn f v 1) sT) x9)))), (xA, .inl (cI, 816, .inl (fun x9 => nI (f x9)))), (xB, .inl (cI, 16, .inl (fun x9 => nI (bb x9)))), (xW, .inl (cI, 16, .inl (fun x9 => nI (w x9)))), (xX, .inl (cI, 16, .inl (fun x9 => nI (mx x9)))), (xE, .inl (cI, 3, .inl (fun x9 => nI ((va_up (va_up (va_up el 0 (mkA al de x (pts cn f v 0) w)) 1 (mkA be de y (pts cn f v 1) w)) 2 (mkC (mkH pb ta va v mx (dvd (szN cn) (itp (szN cn) (iv (szN cn)) bb (pts cn f v 0) sS) (itp (szN cn) (iv (szN cn)) bb (pts cn f v 1) sT))) de (mkA al de x (pts cn f v 0) w) (mkA be de y (pts cn f v 1) w) x y)) x9)))), (xF, .inl (cI, 16, .inl (fun x9 => nI ((dvd (szN cn) (itp (szN cn) (iv (szN cn)) bb (pts cn f v 0) sS) (itp (szN cn) (iv (szN cn)) bb (pts cn f v 1) sT)) x9))))]) := hD
  refine z_iconst (v := 1) F (by decide) dM_prove_157 ?_
  refine z_topV (z_b true) (by decide) ?_
  exact W.zret F.1 F.2.1 hr rfl (fun t ht hW => ⟨rfl, by rw [ht]; exact hP, va_K.moved hW.alike hK, hD, hS.F ht⟩) hS.2.2 dM_prove_158
set_option maxHeartbeats 4000000 in
set_option maxRecDepth 100000 in
theorem cm_verify (l : Launch) (dC : Nat → ClassId) (dI : Nat → Nat → Nat) (cI cL : ClassId) (x0 xC xD xK xQ xV xI xL xR xS xT xA xB xW xX xE xF : Nat) (pb cn ta al be ga de va : Nat) (md pd : Bool) (v inp sL sR sS sT f bb w mx el qt : Nat → Nat) (hmd : md = true) (hpd : pd = true) (hel : ∀ j, el j < 998244353) (hin : ∀ j, inp j < 998244353) (hmx : ∀ j, mx j < 998244353) (hal : al < 998244353) (hbe : be < 998244353) (hde : de < 998244353) (hpb : pb ≤ 6) : Met l yM_verify (zW yM_verify cM_verify 3 (.some .boolean)) ({ frames := 2, cells := 0, slots := 0, locals := 47 }) (va_Pc [.ref x0] (z_R (dC, dI) vwCl [(cI, .int), (cL, .long)] [(x0, .inr (4, [.ref xC, .ref xD, .ref xK, .ref xQ, .ref xV, .ref xI, .int (nI pb), .ref xL, .ref xR, .ref xS, .ref xT])), (xC, .inr (0, [.ref xA, .int (nI cn)])), (xD, .inr (1, [.ref xB, .int (nI (szN cn)), .int (nI (iv (szN cn)))])), (xK, .inr (2, [.ref xW, .ref xX, .int (z_b md), .int (nI ta), .int (nI al), .int (nI be), .int (nI ga), .int (nI de), .int (nI va)])), (xQ, .inr (3, [.ref xE, .ref xF, .int (z_b pd)])), (xV, .inl (cI, 16, .inl (fun x9 => nI (v x9)))), (xI, .inl (cI, 7, .inl (fun x9 => nI (inp x9)))), (xL, .inl (cI, 16, .inl (fun x9 => nI (sL x9)))), (xR, .inl (cI, 16, .inl (fun x9 => nI (sR x9)))), (xS, .inl (cI, 16, .inl (fun x9 => nI (sS x9)))), (xT, .inl (cI, 16, .inl (fun x9 => nI (sT x9)))), (xA, .inl (cI, 816, .inl (fun x9 => nI (f x9)))), (xB, .inl (cI, 16, .inl (fun x9 => nI (bb x9)))), (xW, .inl (cI, 16, .inl (fun x9 => nI (w x9)))), (xX, .inl (cI, 16, .inl (fun x9 => nI (mx x9)))), (xE, .inl (cI, 3, .inl (fun x9 => nI (el x9)))), (xF, .inl (cI, 16, .inl (fun x9 => nI (qt x9))))])) (k2_QcV (.int (z_b (decide (el 0 * el 1 % 998244353 = ((al * be % 998244353 + sg (pb + 1 - 0) (fun t => inp (0 + t) * mx (0 + t)) % 998244353) % 998244353 + el 2 * de % 998244353) % 998244353))))) 0 0 (fun _ => False) := by
  refine Met.ofW (cc := cM_verify) (maxL := 3) (ret := (.some .boolean)) (by decide) rfl ?_
  intro p e s m args below meth c s₁ B hml hv
  obtain ⟨rfl, hP, hK⟩ := hv
  have F : CallFix p m c cM_verify 3 s _ zT RM := ⟨B.exec, B.bytes, hml, findClass_of_methodNamed B.named, fun w h => atoms_spec (ws := (zW yM_verify cM_verify 3 (.some .boolean))) B.pre w (List.mem_cons_of_mem _ h)⟩
  have hr := B.returns
  have hlocks := B.notSynchronized
  have hl := lv_entry ([.ref x0]) (n := 3) (Nat.le_of_ble_eq_true rfl)
  rw [lg_entry_eq]
  generalize (lg_sl ([.ref x0]) ++ List.replicate (3 - (lg_sl ([.ref x0])).length) Slot.unset).toArray = ls at hl ⊢
  have hl : lv_has ls 3 [(0, .ref x0)] := hl
  refine lv_aload_n F.1 F.2.1 dM_verify_0 rfl (lv_at hl 0 rfl) ?_
  refine z_get F hK hP hinM 0 rfl rfl 2 (by decide) rfl wf_M_26 rfl dM_verify_1 ?_
  refine z_call (z_runV [] [] F (ck_isMade l dC dI cI cL _ 3 xK xW xX ta al be ga de va md rfl) kk_K_isMade wl_M_115 rfl rfl ⟨Nat.le_of_ble_eq_true rfl, Nat.le_of_ble_eq_true rfl⟩ (z_preVR (q := (RK, TK, 9)) hP hK rfl (q0 := 3) rfl) rfl hl.1 rfl (Nat.le_of_ble_eq_true rfl) dM_verify_4 ⟨Nat.zero_le _, Nat.zero_le _⟩) ?_
  refine z_ifb_eq F (tgt := 20) dM_verify_7 rfl (fun h => by rw [hmd] at h; cases h) (fun h => ?_)
  refine lv_aload_n F.1 F.2.1 dM_verify_10 rfl (lv_at hl 0 rfl) ?_
  refine z_get F hK hP hinM 0 rfl rfl 3 (by decide) rfl wf_M_33 rfl dM_verify_11 ?_
  refine z_call (z_runV [] [] F (cq_isMade l dC dI cI cL _ 4 xQ xE xF pd rfl) kk_Q_isMade wl_M_176 rfl rfl ⟨Nat.le_of_ble_eq_true rfl, Nat.le_of_ble_eq_true rfl⟩ (z_preVR (q := (RQ, TQ, 3)) hP hK rfl (q0 := 4) rfl) rfl hl.1 rfl (Nat.le_of_ble_eq_true rfl) dM_verify_14 ⟨Nat.zero_le _, Nat.zero_le _⟩) ?_
  refine z_ifb_ne F (tgt := 28) dM_verify_17 rfl (fun h => ?_) (fun h => by rw [hpd] at h; cases h)
  refine lv_aload_n F.1 F.2.1 dM_verify_28 rfl (lv_at hl 0 rfl) ?_
  refine z_get F hK hP hinM 0 rfl rfl 3 (by decide) rfl wf_M_33 rfl dM_verify_29 ?_
  refine z_iconst (v := 0) F (by decide) dM_verify_32 ?_
  refine z_call (z_runV [.int (nI 0)] [] F (cq_element l dC dI cI cL _ 4 15 xQ xE xF pd el 0 rfl rfl (by decide)) kk_Q_element wl_M_180 rfl rfl ⟨Nat.le_of_ble_eq_true rfl, Nat.le_of_ble_eq_true rfl⟩ (z_preVR (q := (RQ, TQ, 3)) hP hK rfl (q0 := 4) rfl) rfl hl.1 rfl (Nat.le_of_ble_eq_true rfl) dM_verify_33 ⟨Nat.zero_le _, Nat.zero_le _⟩) ?_
  refine lv_aload_n F.1 F.2.1 dM_verify_36 rfl (lv_at hl 0 rfl) ?_
  refine z_get F hK hP hinM 0 rfl rfl 3 (by decide) rfl wf_M_33 rfl dM_verify_37 ?_
  refine z_iconst (v := 1) F (by decide) dM_verify_40 ?_
  refine z_call (z_runV [.int (nI 1)] [.int (nI (el 0))] F (cq_element l dC dI cI cL _ 4 15 xQ xE xF pd el 1 rfl rfl (by decide)) kk_Q_element wl_M_180 rfl rfl ⟨Nat.le_of_ble_eq_true rfl, Nat.le_of_ble_eq_true rfl⟩ (z_preVR (q := (RQ, TQ, 3)) hP hK rfl (q0 := 4) rfl) rfl hl.1 rfl (Nat.le_of_ble_eq_true rfl) dM_verify_41 ⟨Nat.zero_le _, Nat.zero_le _⟩) ?_
  refine z_call (z_runS [.int (nI (el 0)), .int (nI (el 1))] [] F (c_product l (el 0) (el 1) (Nat.lt_trans (hel _) (by decide)) (Nat.lt_trans (hel _) (by decide))) kk_F_product wl_M_141 rfl rfl ⟨Nat.le_of_ble_eq_true rfl, Nat.le_of_ble_eq_true rfl⟩ z_preN rfl hl.1 rfl (Nat.le_of_ble_eq_true rfl) dM_verify_44 ⟨Nat.zero_le _, Nat.zero_le _⟩) ?_
  refine lv_istore_n F.1 F.2.1 (lv' := [(1, .int (nI ((el 0) * (el 1) % 998244353))), (0, .ref x0)]) dM_verify_47 rfl hl (by decide) rfl (fun ls hl => ?_)
  refine lv_aload_n F.1 F.2.1 dM_verify_48 rfl (lv_at hl 1 rfl) ?_
  refine z_get F hK hP hinM 0 rfl rfl 2 (by decide) rfl wf_M_26 rfl dM_verify_49 ?_
  refine z_call (z_runV [] [] F (ck_alpha l dC dI cI cL _ 3 xK xW xX ta al be ga de va md rfl) kk_K_alpha wl_M_183 rfl rfl ⟨Nat.le_of_ble_eq_true rfl, Nat.le_of_ble_eq_true rfl⟩ (z_preVR (q := (RK, TK, 9)) hP hK rfl (q0 := 3) rfl) rfl hl.1 rfl (Nat.le_of_ble_eq_true rfl) dM_verify_52 ⟨Nat.zero_le _, Nat.zero_le _⟩) ?_
  refine lv_aload_n F.1 F.2.1 dM_verify_55 rfl (lv_at hl 1 rfl) ?_
  refine z_get F hK hP hinM 0 rfl rfl 2 (by decide) rfl wf_M_26 rfl dM_verify_56 ?_
  refine z_call (z_runV [] [.int (nI al)] F (ck_beta l dC dI cI cL _ 3 xK xW xX ta al be ga de va md rfl) kk_K_beta wl_M_186 rfl rfl ⟨Nat.le_of_ble_eq_true rfl, Nat.le_of_ble_eq_true rfl⟩ (z_preVR (q := (RK, TK, 9)) hP hK rfl (q0 := 3) rfl) rfl hl.1 rfl (Nat.le_of_ble_eq_true rfl) dM_verify_59 ⟨Nat.zero_le _, Nat.zero_le _⟩) ?_
  refine z_call (z_runS [.int (nI al), .int (nI be)] [] F (c_product l (al) (be) (Nat.lt_trans (hal) (by decide)) (Nat.lt_trans (hbe) (by decide))) kk_F_product wl_M_141 rfl rfl ⟨Nat.le_of_ble_eq_true rfl, Nat.le_of_ble_eq_true rfl⟩ z_preN rfl hl.1 rfl (Nat.le_of_ble_eq_true rfl) dM_verify_62 ⟨Nat.zero_le _, Nat.zero_le _⟩) ?_
  refine lv_aload_n F.1 F.2.1 dM_verify_65 rfl (lv_at hl 1 rfl) ?_
  refine z_get F hK hP hinM 0 rfl rfl 2 (by decide) rfl wf_M_26 rfl dM_verify_66 ?_
  refine lv_aload_n F.1 F.2.1 dM_verify_69 rfl (lv_at hl 1 rfl) ?_
  refine z_get F hK hP hinM 0 rfl rfl 5 (by decide) rfl wf_M_41 rfl dM_verify_70 ?_
  refine z_iconst (v := 0) F (by decide) dM_verify_73 ?_
  refine lv_aload_n F.1 F.2.1 dM_verify_74 rfl (lv_at hl 1 rfl) ?_
  refine z_get F hK hP hinM 0 rfl rfl 6 (by decide) rfl wf_M_85 rfl dM_verify_75 ?_
  refine z_call (z_runV [.ref xI, .int (nI 0), .int (nI pb)] [.int (nI (al * be % 998244353))] F (ck_mixSum l dC dI cI cL _ 3 14 6 xK xW xX ta al be ga de va md xI 7 mx inp 0 pb rfl rfl rfl hin hmx (by omega) (by omega) (by omega) (by decide)) kk_K_mixSum wl_M_153 rfl rfl ⟨Nat.le_of_ble_eq_true rfl, Nat.le_of_ble_eq_true rfl⟩ (z_preVR (q := (RK, TK, 9)) hP hK rfl (q0 := 3) rfl) rfl hl.1 rfl (Nat.le_of_ble_eq_true rfl) dM_verify_78 ⟨Nat.zero_le _, Nat.zero_le _⟩) ?_
  refine z_call (z_runS [.int (nI (al * be % 998244353)), .int (nI (sg (pb + 1 - 0) (fun t => inp (0 + t) * mx (0 + t)) % 998244353))] [] F (c_sum l (al * be % 998244353) (sg (pb + 1 - 0) (fun t => inp (0 + t) * mx (0 + t)) % 998244353) (ltP _) (ltP _)) kk_F_sum wl_M_147 rfl rfl ⟨Nat.le_of_ble_eq_true rfl, Nat.le_of_ble_eq_true rfl⟩ z_preN rfl hl.1 rfl (Nat.le_of_ble_eq_true rfl) dM_verify_81 ⟨Nat.zero_le _, Nat.zero_le _⟩) ?_
  refine lv_istore_n F.1 F.2.1 (lv' := [(2, .int (nI (((al * be % 998244353) + (sg (pb + 1 - 0) (fun t => inp (0 + t) * mx (0 + t)) % 998244353)) % 998244353))), (1, .int (nI ((el 0) * (el 1) % 998244353))), (0, .ref x0)]) dM_verify_84 rfl hl (by decide) rfl (fun ls hl => ?_)
  refine lv_iload_n F.1 F.2.1 dM_verify_85 rfl (lv_at hl 1 rfl) ?_
  refine lv_iload_n F.1 F.2.1 dM_verify_86 rfl (lv_at hl 0 rfl) ?_
  refine lv_aload_n F.1 F.2.1 dM_verify_87 rfl (lv_at hl 2 rfl) ?_
  refine z_get F hK hP hinM 0 rfl rfl 3 (by decide) rfl wf_M_33 rfl dM_verify_88 ?_
  refine z_iconst (v := 2) F (by decide) dM_verify_91 ?_
  refine z_call (z_runV [.int (nI 2)] [.int (nI (((al * be % 998244353) + (sg (pb + 1 - 0) (fun t => inp (0 + t) * mx (0 + t)) % 998244353)) % 998244353)), .int (nI ((el 0) * (el 1) % 998244353))] F (cq_element l dC dI cI cL _ 4 15 xQ xE xF pd el 2 rfl rfl (by decide)) kk_Q_element wl_M_180 rfl rfl ⟨Nat.le_of_ble_eq_true rfl, Nat.le_of_ble_eq_true rfl⟩ (z_preVR (q := (RQ, TQ, 3)) hP hK rfl (q0 := 4) rfl) rfl hl.1 rfl (Nat.le_of_ble_eq_true rfl) dM_verify_92 ⟨Nat.zero_le _, Nat.zero_le _⟩) ?_
  refine lv_aload_n F.1 F.2.1 dM_verify_95 rfl (lv_at hl 2 rfl) ?_
  refine z_get F hK hP hinM 0 rfl rfl 2 (by decide) rfl wf_M_26 rfl dM_verify_96 ?_
  refine z_call (z_runV [] [.int (nI (el 2)), .int (nI (((al * be % 998244353) + (sg (pb + 1 - 0) (fun t => inp (0 + t) * mx (0 + t)) % 998244353)) % 998244353)), .int (nI ((el 0) * (el 1) % 998244353))] F (ck_delta l dC dI cI cL _ 3 xK xW xX ta al be ga de va md rfl) kk_K_delta wl_M_135 rfl rfl ⟨Nat.le_of_ble_eq_true rfl, Nat.le_of_ble_eq_true rfl⟩ (z_preVR (q := (RK, TK, 9)) hP hK rfl (q0 := 3) rfl) rfl hl.1 rfl (Nat.le_of_ble_eq_true rfl) dM_verify_99 ⟨Nat.zero_le _, Nat.zero_le _⟩) ?_
  refine z_call (z_runS [.int (nI (el 2)), .int (nI de)] [.int (nI (((al * be % 998244353) + (sg (pb + 1 - 0) (fun t => inp (0 + t) * mx (0 + t)) % 998244353)) % 998244353)), .int (nI ((el 0) * (el 1) % 998244353))] F (c_product l (el 2) (de) (Nat.lt_trans (hel _) (by decide)) (Nat.lt_trans (hde) (by decide))) kk_F_product wl_M_141 rfl rfl ⟨Nat.le_of_ble_eq_true rfl, Nat.le_of_ble_eq_true rfl⟩ z_preN rfl hl.1 rfl (Nat.le_of_ble_eq_true rfl) dM_verify_102 ⟨Nat.zero_le _, Nat.zero_le _⟩) ?_
  refine z_call (z_runS [.int (nI (((al * be % 998244353) + (sg (pb + 1 - 0) (fun t => inp (0 + t) * mx (0 + t)) % 998244353)) % 998244353)), .int (nI ((el 2) * de % 998244353))] [.int (nI ((el 0) * (el 1) % 998244353))] F (c_sum l (((al * be % 998244353) + (sg (pb + 1 - 0) (fun t => inp (0 + t) * mx (0 + t)) % 998244353)) % 998244353) ((el 2) * de % 998244353) (ltP _) (ltP _)) kk_F_sum wl_M_147 rfl rfl ⟨Nat.le_of_ble_eq_true rfl, Nat.le_of_ble_eq_true rfl⟩ z_preN rfl hl.1 rfl (Nat.le_of_ble_eq_true rfl) dM_verify_105 ⟨Nat.zero_le _, Nat.zero_le _⟩) ?_
  refine z_icmp_ne F (Nat.lt_trans (ltP _) (by decide)) (Nat.lt_trans (ltP _) (by decide)) (tgt := 115) dM_verify_108 rfl (fun h1 => ?_) (fun h1 => ?_)
  · refine z_iconst (v := 0) F (by decide) dM_verify_115 ?_
    refine z_topV (z_b (decide (el 0 * el 1 % 998244353 = ((al * be % 998244353 + sg (pb + 1 - 0) (fun t => inp (0 + t) * mx (0 + t)) % 998244353) % 998244353 + el 2 * de % 998244353) % 998244353))) (by rw [decide_eq_false h1]; decide) ?_
    exact W.zret F.1 F.2.1 hr (by cases decide (el 0 * el 1 % 998244353 = ((al * be % 998244353 + sg (pb + 1 - 0) (fun t => inp (0 + t) * mx (0 + t)) % 998244353) % 998244353 + el 2 * de % 998244353) % 998244353) <;> rfl) (fun t ht hW => ⟨rfl, ht⟩) (fun _ h => by cases h) dM_verify_116
  · refine z_iconst (v := 1) F (by decide) dM_verify_111 ?_
    refine lv_goto F.1 F.2.1 (tgt := 116) dM_verify_112 rfl ?_
    refine z_topV (z_b (decide (el 0 * el 1 % 998244353 = ((al * be % 998244353 + sg (pb + 1 - 0) (fun t => inp (0 + t) * mx (0 + t)) % 998244353) % 998244353 + el 2 * de % 998244353) % 998244353))) (by rw [decide_eq_true h1]; decide) ?_
    exact W.zret F.1 F.2.1 hr (by cases decide (el 0 * el 1 % 998244353 = ((al * be % 998244353 + sg (pb + 1 - 0) (fun t => inp (0 + t) * mx (0 + t)) % 998244353) % 998244353 + el 2 * de % 998244353) % 998244353) <;> rfl) (fun t ht hW => ⟨rfl, ht⟩) (fun _ h => by cases h) dM_verify_116
end
