set_option maxHeartbeats 4000000 in
set_option maxRecDepth 100000 in
theorem c_Cinit (l : Launch) (dC : Nat → ClassId) (dI : Nat → Nat → Nat) (cI cL : ClassId) (zz h0 : Nat) : Met l yC_init (zW yC_init cC_init 1 none) ({ frames := 1, cells := 1, slots := 816, locals := 16 }) (va_Pc [.ref h0] (z_P (dC, dI) vwCl [(cI, .int), (cL, .long)] zz [(h0, .inr (0, [.null, .int (nI 0)]))])) (z_QE (dC, dI) vwCl [(cI, .int), (cL, .long)] none (fun hA : Nat => [(h0, .inr (0, [.ref hA, .int (nI 0)])), (hA, .inl (cI, 816, .inl (fun x9 => nI (((fun _ => 0)) x9))))]) (va_A [(h0, .inr (0, [.null, .int (nI 0)]))] zz)) 1 816 (va_A [(h0, .inr (0, [.null, .int (nI 0)]))] zz) := by
  refine Met.ofW (cc := cC_init) (maxL := 1) (ret := none) (by decide) rfl ?_
  intro p e s m args below meth c s₁ B hml hv
  obtain ⟨rfl, hsz, hP, hK, hD0⟩ := hv
  have F : CallFix p m c cC_init 1 s _ zT RC := ⟨B.exec, B.bytes, hml, findClass_of_methodNamed B.named, fun w h => atoms_spec (ws := (zW yC_init cC_init 1 none)) B.pre w (List.mem_cons_of_mem _ h)⟩
  have hr := B.returns
  have hlocks := B.notSynchronized
  subst hsz
  have hD := hD0.self (sz := s.heap.size)
  generalize hAe : va_A ([(h0, .inr (0, [.null, .int (nI 0)]))]) s.heap.size = A at hD ⊢
  have hAA : ∀ q : Nat, s.heap.size ≤ q → A q := fun q h => by rw [← hAe]; exact Or.inr h
  have hS : va_S A s.heap s.heap [] := va_S.rf
  have hl := lv_entry ([.ref h0]) (n := 1) (Nat.le_of_ble_eq_true rfl)
  rw [lg_entry_eq]
  generalize (lg_sl ([.ref h0]) ++ List.replicate (1 - (lg_sl ([.ref h0])).length) Slot.unset).toArray = ls at hl ⊢
  have hl : lv_has ls 1 [(0, .ref h0)] := hl
  have hin : meth.name = "<init>" := (name_of_methodNamed B.named B.method).1
  refine lv_aload_n F.1 F.2.1 dC_init_0 rfl (lv_at hl 0 rfl) ?_
  refine z_objInit F wl_C_3 wi_obj wc_obj hl.1 dC_init_1 (Nat.le_of_ble_eq_true rfl) (Nat.le_of_ble_eq_true rfl) ?_
  refine lv_aload_n F.1 F.2.1 dC_init_4 rfl (lv_at hl 0 rfl) ?_
  refine z_sipush (v := 816) F (by decide) dC_init_5 ?_
  refine z_newI F hK hP hD hS hAA 0 rfl (by decide) wa_int (Nat.le_of_ble_eq_true rfl) (Nat.le_of_ble_eq_true rfl) dC_init_8 (fun hA H hP hD hS => ?_)
  have hP : va_P (dC, dI) vwCl ([(h0, .inr (0, [.null, .int (nI 0)])), (hA, .inl (cI, 816, .inl (fun x9 => nI (((fun _ => 0)) x9))))]) H := hP
  have hD : va_D A ([(h0, .inr (0, [.null, .int (nI 0)])), (hA, .inl (cI, 816, .inl (fun x9 => nI (((fun _ => 0)) x9))))]) := hD
  refine z_putF F hin hK hP hD hS hinC tyC tyC_ok nmC 0 rfl rfl 0 (by decide) rfl rfl rfl wf_C_9 rfl rfl (Nat.le_of_ble_eq_true rfl) dC_init_10 (fun H locs hP hD hS => ?_)
  have hP : va_P (dC, dI) vwCl ([(h0, .inr (0, [.ref hA, .int (nI 0)])), (hA, .inl (cI, 816, .inl (fun x9 => nI (((fun _ => 0)) x9))))]) H := hP
  have hD : va_D A ([(h0, .inr (0, [.ref hA, .int (nI 0)])), (hA, .inl (cI, 816, .inl (fun x9 => nI (((fun _ => 0)) x9))))]) := hD
  refine lv_aload_n F.1 F.2.1 dC_init_13 rfl (lv_at hl 0 rfl) ?_
  refine z_iconst (v := 0) F (by decide) dC_init_14 ?_
  refine z_put F hK hP hD hS hinC tyC tyC_ok nmC 0 rfl rfl 1 (by decide) rfl rfl wf_C_15 (rfl) (rfl) (Nat.le_of_ble_eq_true rfl) dC_init_15 (fun H locs hP hD hS => ?_)
  have hP : va_P (dC, dI) vwCl ([(h0, .inr (0, [.ref hA, .int (nI 0)])), (hA, .inl (cI, 816, .inl (fun x9 => nI (((fun _ => 0)) x9))))]) H := hP
  have hD : va_D A ([(h0, .inr (0, [.ref hA, .int (nI 0)])), (hA, .inl (cI, 816, .inl (fun x9 => nI (((fun _ => 0)) x9))))]) := hD
  exact W.vret F.1 F.2.1 hr (fun t ht hWm => ⟨hA, rfl, by rw [ht]; exact hP, va_K.moved hWm.alike hK, hD, hS.F ht⟩) hS.2.2 dC_init_18
set_option maxHeartbeats 4000000 in
set_option maxRecDepth 100000 in
theorem c_Kinit (l : Launch) (dC : Nat → ClassId) (dI : Nat → Nat → Nat) (cI cL : ClassId) (zz h0 : Nat) : Met l yK_init (zW yK_init cK_init 1 none) ({ frames := 1, cells := 2, slots := 32, locals := 16 }) (va_Pc [.ref h0] (z_P (dC, dI) vwCl [(cI, .int), (cL, .long)] zz [(h0, .inr (2, [.null, .null, .int (z_b false), .int (nI 0), .int (nI 0), .int (nI 0), .int (nI 0), .int (nI 0), .int (nI 0)]))])) (z_QE (dC, dI) vwCl [(cI, .int), (cL, .long)] none (fun u : Nat × Nat => match u with | (hW, hX) => [(h0, .inr (2, [.ref hW, .ref hX, .int (z_b false), .int (nI 0), .int (nI 0), .int (nI 0), .int (nI 0), .int (nI 0), .int (nI 0)])), (hW, .inl (cI, 16, .inl (fun x9 => nI (((fun _ => 0)) x9)))), (hX, .inl (cI, 16, .inl (fun x9 => nI (((fun _ => 0)) x9))))]) (va_A [(h0, .inr (2, [.null, .null, .int (z_b false), .int (nI 0), .int (nI 0), .int (nI 0), .int (nI 0), .int (nI 0), .int (nI 0)]))] zz)) 2 32 (va_A [(h0, .inr (2, [.null, .null, .int (z_b false), .int (nI 0), .int (nI 0), .int (nI 0), .int (nI 0), .int (nI 0), .int (nI 0)]))] zz) := by
  refine Met.ofW (cc := cK_init) (maxL := 1) (ret := none) (by decide) rfl ?_
  intro p e s m args below meth c s₁ B hml hv
  obtain ⟨rfl, hsz, hP, hK, hD0⟩ := hv
  have F : CallFix p m c cK_init 1 s _ zT RK := ⟨B.exec, B.bytes, hml, findClass_of_methodNamed B.named, fun w h => atoms_spec (ws := (zW yK_init cK_init 1 none)) B.pre w (List.mem_cons_of_mem _ h)⟩
  have hr := B.returns
  have hlocks := B.notSynchronized
  subst hsz
  have hD := hD0.self (sz := s.heap.size)
  generalize hAe : va_A ([(h0, .inr (2, [.null, .null, .int (z_b false), .int (nI 0), .int (nI 0), .int (nI 0), .int (nI 0), .int (nI 0), .int (nI 0)]))]) s.heap.size = A at hD ⊢
  have hAA : ∀ q : Nat, s.heap.size ≤ q → A q := fun q h => by rw [← hAe]; exact Or.inr h
  have hS : va_S A s.heap s.heap [] := va_S.rf
  have hl := lv_entry ([.ref h0]) (n := 1) (Nat.le_of_ble_eq_true rfl)
  rw [lg_entry_eq]
  generalize (lg_sl ([.ref h0]) ++ List.replicate (1 - (lg_sl ([.ref h0])).length) Slot.unset).toArray = ls at hl ⊢
  have hl : lv_has ls 1 [(0, .ref h0)] := hl
  have hin : meth.name = "<init>" := (name_of_methodNamed B.named B.method).1
  refine lv_aload_n F.1 F.2.1 dK_init_0 rfl (lv_at hl 0 rfl) ?_
  refine z_objInit F wl_K_3 wi_obj wc_obj hl.1 dK_init_1 (Nat.le_of_ble_eq_true rfl) (Nat.le_of_ble_eq_true rfl) ?_
  refine lv_aload_n F.1 F.2.1 dK_init_4 rfl (lv_at hl 0 rfl) ?_
  refine z_bipush (v := 16) F (by decide) dK_init_5 ?_
  refine z_newI F hK hP hD hS hAA 0 rfl (by decide) wa_int (Nat.le_of_ble_eq_true rfl) (Nat.le_of_ble_eq_true rfl) dK_init_7 (fun hW H hP hD hS => ?_)
  have hP : va_P (dC, dI) vwCl ([(h0, .inr (2, [.null, .null, .int (z_b false), .int (nI 0), .int (nI 0), .int (nI 0), .int (nI 0), .int (nI 0), .int (nI 0)])), (hW, .inl (cI, 16, .inl (fun x9 => nI (((fun _ => 0)) x9))))]) H := hP
  have hD : va_D A ([(h0, .inr (2, [.null, .null, .int (z_b false), .int (nI 0), .int (nI 0), .int (nI 0), .int (nI 0), .int (nI 0), .int (nI 0)])), (hW, .inl (cI, 16, .inl (fun x9 => nI (((fun _ => 0)) x9))))]) := hD
  refine z_putF F hin hK hP hD hS hinK tyK tyK_ok nmK 0 rfl rfl 0 (by decide) rfl rfl rfl wf_K_9 rfl rfl (Nat.le_of_ble_eq_true rfl) dK_init_9 (fun H locs hP hD hS => ?_)
  have hP : va_P (dC, dI) vwCl ([(h0, .inr (2, [.ref hW, .null, .int (z_b false), .int (nI 0), .int (nI 0), .int (nI 0), .int (nI 0), .int (nI 0), .int (nI 0)])), (hW, .inl (cI, 16, .inl (fun x9 => nI (((fun _ => 0)) x9))))]) H := hP
  have hD : va_D A ([(h0, .inr (2, [.ref hW, .null, .int (z_b false), .int (nI 0), .int (nI 0), .int (nI 0), .int (nI 0), .int (nI 0), .int (nI 0)])), (hW, .inl (cI, 16, .inl (fun x9 => nI (((fun _ => 0)) x9))))]) := hD
  refine lv_aload_n F.1 F.2.1 dK_init_12 rfl (lv_at hl 0 rfl) ?_
  refine z_bipush (v := 16) F (by decide) dK_init_13 ?_
  refine z_newI F hK hP hD hS hAA 0 rfl (by decide) wa_int (Nat.le_of_ble_eq_true rfl) (Nat.le_of_ble_eq_true rfl) dK_init_15 (fun hX H hP hD hS => ?_)
  have hP : va_P (dC, dI) vwCl ([(h0, .inr (2, [.ref hW, .null, .int (z_b false), .int (nI 0), .int (nI 0), .int (nI 0), .int (nI 0), .int (nI 0), .int (nI 0)])), (hW, .inl (cI, 16, .inl (fun x9 => nI (((fun _ => 0)) x9)))), (hX, .inl (cI, 16, .inl (fun x9 => nI (((fun _ => 0)) x9))))]) H := hP
  have hD : va_D A ([(h0, .inr (2, [.ref hW, .null, .int (z_b false), .int (nI 0), .int (nI 0), .int (nI 0), .int (nI 0), .int (nI 0), .int (nI 0)])), (hW, .inl (cI, 16, .inl (fun x9 => nI (((fun _ => 0)) x9)))), (hX, .inl (cI, 16, .inl (fun x9 => nI (((fun _ => 0)) x9))))]) := hD
  refine z_putF F hin hK hP hD hS hinK tyK tyK_ok nmK 0 rfl rfl 1 (by decide) rfl rfl rfl wf_K_15 rfl rfl (Nat.le_of_ble_eq_true rfl) dK_init_17 (fun H locs hP hD hS => ?_)
  have hP : va_P (dC, dI) vwCl ([(h0, .inr (2, [.ref hW, .ref hX, .int (z_b false), .int (nI 0), .int (nI 0), .int (nI 0), .int (nI 0), .int (nI 0), .int (nI 0)])), (hW, .inl (cI, 16, .inl (fun x9 => nI (((fun _ => 0)) x9)))), (hX, .inl (cI, 16, .inl (fun x9 => nI (((fun _ => 0)) x9))))]) H := hP
  have hD : va_D A ([(h0, .inr (2, [.ref hW, .ref hX, .int (z_b false), .int (nI 0), .int (nI 0), .int (nI 0), .int (nI 0), .int (nI 0), .int (nI 0)])), (hW, .inl (cI, 16, .inl (fun x9 => nI (((fun _ => 0)) x9)))), (hX, .inl (cI, 16, .inl (fun x9 => nI (((fun _ => 0)) x9))))]) := hD
  refine lv_aload_n F.1 F.2.1 dK_init_20 rfl (lv_at hl 0 rfl) ?_
  refine z_iconst (v := 0) F (by decide) dK_init_21 ?_
  refine z_topV (z_b false) (by decide) ?_
  refine z_put F hK hP hD hS hinK tyK tyK_ok nmK 0 rfl rfl 2 (by decide) rfl rfl wf_K_18 (rfl) (rfl) (Nat.le_of_ble_eq_true rfl) dK_init_22 (fun H locs hP hD hS => ?_)
  have hP : va_P (dC, dI) vwCl ([(h0, .inr (2, [.ref hW, .ref hX, .int (z_b false), .int (nI 0), .int (nI 0), .int (nI 0), .int (nI 0), .int (nI 0), .int (nI 0)])), (hW, .inl (cI, 16, .inl (fun x9 => nI (((fun _ => 0)) x9)))), (hX, .inl (cI, 16, .inl (fun x9 => nI (((fun _ => 0)) x9))))]) H := hP
  have hD : va_D A ([(h0, .inr (2, [.ref hW, .ref hX, .int (z_b false), .int (nI 0), .int (nI 0), .int (nI 0), .int (nI 0), .int (nI 0), .int (nI 0)])), (hW, .inl (cI, 16, .inl (fun x9 => nI (((fun _ => 0)) x9)))), (hX, .inl (cI, 16, .inl (fun x9 => nI (((fun _ => 0)) x9))))]) := hD
  exact W.vret F.1 F.2.1 hr (fun t ht hWm => ⟨(hW, hX), rfl, by rw [ht]; exact hP, va_K.moved hWm.alike hK, hD, hS.F ht⟩) hS.2.2 dK_init_25
set_option maxHeartbeats 4000000 in
set_option maxRecDepth 100000 in
theorem c_Qinit (l : Launch) (dC : Nat → ClassId) (dI : Nat → Nat → Nat) (cI cL : ClassId) (zz h0 : Nat) : Met l yQ_init (zW yQ_init cQ_init 1 none) ({ frames := 1, cells := 2, slots := 19, locals := 16 }) (va_Pc [.ref h0] (z_P (dC, dI) vwCl [(cI, .int), (cL, .long)] zz [(h0, .inr (3, [.null, .null, .int (z_b false)]))])) (z_QE (dC, dI) vwCl [(cI, .int), (cL, .long)] none (fun u : Nat × Nat => match u with | (hE, hQ) => [(h0, .inr (3, [.ref hE, .ref hQ, .int (z_b false)])), (hE, .inl (cI, 3, .inl (fun x9 => nI (((fun _ => 0)) x9)))), (hQ, .inl (cI, 16, .inl (fun x9 => nI (((fun _ => 0)) x9))))]) (va_A [(h0, .inr (3, [.null, .null, .int (z_b false)]))] zz)) 2 19 (va_A [(h0, .inr (3, [.null, .null, .int (z_b false)]))] zz) := by
  refine Met.ofW (cc := cQ_init) (maxL := 1) (ret := none) (by decide) rfl ?_
  intro p e s m args below meth c s₁ B hml hv
  obtain ⟨rfl, hsz, hP, hK, hD0⟩ := hv
  have F : CallFix p m c cQ_init 1 s _ zT RQ := ⟨B.exec, B.bytes, hml, findClass_of_methodNamed B.named, fun w h => atoms_spec (ws := (zW yQ_init cQ_init 1 none)) B.pre w (List.mem_cons_of_mem _ h)⟩
  have hr := B.returns
  have hlocks := B.notSynchronized
  subst hsz
  have hD := hD0.self (sz := s.heap.size)
  generalize hAe : va_A ([(h0, .inr (3, [.null, .null, .int (z_b false)]))]) s.heap.size = A at hD ⊢
  have hAA : ∀ q : Nat, s.heap.size ≤ q → A q := fun q h => by rw [← hAe]; exact Or.inr h
  have hS : va_S A s.heap s.heap [] := va_S.rf
  have hl := lv_entry ([.ref h0]) (n := 1) (Nat.le_of_ble_eq_true rfl)
  rw [lg_entry_eq]
  generalize (lg_sl ([.ref h0]) ++ List.replicate (1 - (lg_sl ([.ref h0])).length) Slot.unset).toArray = ls at hl ⊢
  have hl : lv_has ls 1 [(0, .ref h0)] := hl
  have hin : meth.name = "<init>" := (name_of_methodNamed B.named B.method).1
  refine lv_aload_n F.1 F.2.1 dQ_init_0 rfl (lv_at hl 0 rfl) ?_
  refine z_objInit F wl_Q_3 wi_obj wc_obj hl.1 dQ_init_1 (Nat.le_of_ble_eq_true rfl) (Nat.le_of_ble_eq_true rfl) ?_
  refine lv_aload_n F.1 F.2.1 dQ_init_4 rfl (lv_at hl 0 rfl) ?_
  refine z_iconst (v := 3) F (by decide) dQ_init_5 ?_
  refine z_newI F hK hP hD hS hAA 0 rfl (by decide) wa_int (Nat.le_of_ble_eq_true rfl) (Nat.le_of_ble_eq_true rfl) dQ_init_6 (fun hE H hP hD hS => ?_)
  have hP : va_P (dC, dI) vwCl ([(h0, .inr (3, [.null, .null, .int (z_b false)])), (hE, .inl (cI, 3, .inl (fun x9 => nI (((fun _ => 0)) x9))))]) H := hP
  have hD : va_D A ([(h0, .inr (3, [.null, .null, .int (z_b false)])), (hE, .inl (cI, 3, .inl (fun x9 => nI (((fun _ => 0)) x9))))]) := hD
  refine z_putF F hin hK hP hD hS hinQ tyQ tyQ_ok nmQ 0 rfl rfl 0 (by decide) rfl rfl rfl wf_Q_9 rfl rfl (Nat.le_of_ble_eq_true rfl) dQ_init_8 (fun H locs hP hD hS => ?_)
  have hP : va_P (dC, dI) vwCl ([(h0, .inr (3, [.ref hE, .null, .int (z_b false)])), (hE, .inl (cI, 3, .inl (fun x9 => nI (((fun _ => 0)) x9))))]) H := hP
  have hD : va_D A ([(h0, .inr (3, [.ref hE, .null, .int (z_b false)])), (hE, .inl (cI, 3, .inl (fun x9 => nI (((fun _ => 0)) x9))))]) := hD
  refine lv_aload_n F.1 F.2.1 dQ_init_11 rfl (lv_at hl 0 rfl) ?_
  refine z_bipush (v := 16) F (by decide) dQ_init_12 ?_
  refine z_newI F hK hP hD hS hAA 0 rfl (by decide) wa_int (Nat.le_of_ble_eq_true rfl) (Nat.le_of_ble_eq_true rfl) dQ_init_14 (fun hQ H hP hD hS => ?_)
  have hP : va_P (dC, dI) vwCl ([(h0, .inr (3, [.ref hE, .null, .int (z_b false)])), (hE, .inl (cI, 3, .inl (fun x9 => nI (((fun _ => 0)) x9)))), (hQ, .inl (cI, 16, .inl (fun x9 => nI (((fun _ => 0)) x9))))]) H := hP
  have hD : va_D A ([(h0, .inr (3, [.ref hE, .null, .int (z_b false)])), (hE, .inl (cI, 3, .inl (fun x9 => nI (((fun _ => 0)) x9)))), (hQ, .inl (cI, 16, .inl (fun x9 => nI (((fun _ => 0)) x9))))]) := hD
  refine z_putF F hin hK hP hD hS hinQ tyQ tyQ_ok nmQ 0 rfl rfl 1 (by decide) rfl rfl rfl wf_Q_15 rfl rfl (Nat.le_of_ble_eq_true rfl) dQ_init_16 (fun H locs hP hD hS => ?_)
  have hP : va_P (dC, dI) vwCl ([(h0, .inr (3, [.ref hE, .ref hQ, .int (z_b false)])), (hE, .inl (cI, 3, .inl (fun x9 => nI (((fun _ => 0)) x9)))), (hQ, .inl (cI, 16, .inl (fun x9 => nI (((fun _ => 0)) x9))))]) H := hP
  have hD : va_D A ([(h0, .inr (3, [.ref hE, .ref hQ, .int (z_b false)])), (hE, .inl (cI, 3, .inl (fun x9 => nI (((fun _ => 0)) x9)))), (hQ, .inl (cI, 16, .inl (fun x9 => nI (((fun _ => 0)) x9))))]) := hD
  refine lv_aload_n F.1 F.2.1 dQ_init_19 rfl (lv_at hl 0 rfl) ?_
  refine z_iconst (v := 0) F (by decide) dQ_init_20 ?_
  refine z_topV (z_b false) (by decide) ?_
  refine z_put F hK hP hD hS hinQ tyQ tyQ_ok nmQ 0 rfl rfl 2 (by decide) rfl rfl wf_Q_18 (rfl) (rfl) (Nat.le_of_ble_eq_true rfl) dQ_init_21 (fun H locs hP hD hS => ?_)
  have hP : va_P (dC, dI) vwCl ([(h0, .inr (3, [.ref hE, .ref hQ, .int (z_b false)])), (hE, .inl (cI, 3, .inl (fun x9 => nI (((fun _ => 0)) x9)))), (hQ, .inl (cI, 16, .inl (fun x9 => nI (((fun _ => 0)) x9))))]) H := hP
  have hD : va_D A ([(h0, .inr (3, [.ref hE, .ref hQ, .int (z_b false)])), (hE, .inl (cI, 3, .inl (fun x9 => nI (((fun _ => 0)) x9)))), (hQ, .inl (cI, 16, .inl (fun x9 => nI (((fun _ => 0)) x9))))]) := hD
  exact W.vret F.1 F.2.1 hr (fun t ht hWm => ⟨(hE, hQ), rfl, by rw [ht]; exact hP, va_K.moved hWm.alike hK, hD, hS.F ht⟩) hS.2.2 dQ_init_24
set_option maxHeartbeats 4000000 in
set_option maxRecDepth 100000 in
theorem c_Dinit (l : Launch) (dC : Nat → ClassId) (dI : Nat → Nat → Nat) (cI cL : ClassId) (zz h0 : Nat) : Met l yD_init (zW yD_init cD_init 1 none) ({ frames := 4, cells := 1, slots := 16, locals := 90 }) (va_Pc [.ref h0] (z_P (dC, dI) vwCl [(cI, .int), (cL, .long)] zz [(h0, .inr (1, [.null, .int (nI 0), .int (nI 0)]))])) (z_QE (dC, dI) vwCl [(cI, .int), (cL, .long)] none (fun hB : Nat => [(h0, .inr (1, [.ref hB, .int (nI (szN 0)), .int (nI (iv (szN 0)))])), (hB, .inl (cI, 16, .inl (fun x9 => nI (((fun j => if j < szN 0 then bk (szN 0) ^ j % 998244353 else (fun _ => 0) j)) x9))))]) (va_A [(h0, .inr (1, [.null, .int (nI 0), .int (nI 0)]))] zz)) 1 16 (va_A [(h0, .inr (1, [.null, .int (nI 0), .int (nI 0)]))] zz) := by
  refine Met.ofW (cc := cD_init) (maxL := 1) (ret := none) (by decide) rfl ?_
  intro p e s m args below meth c s₁ B hml hv
  obtain ⟨rfl, hsz, hP, hK, hD0⟩ := hv
  have F : CallFix p m c cD_init 1 s _ zT RD := ⟨B.exec, B.bytes, hml, findClass_of_methodNamed B.named, fun w h => atoms_spec (ws := (zW yD_init cD_init 1 none)) B.pre w (List.mem_cons_of_mem _ h)⟩
  have hr := B.returns
  have hlocks := B.notSynchronized
  subst hsz
  have hD := hD0.self (sz := s.heap.size)
  generalize hAe : va_A ([(h0, .inr (1, [.null, .int (nI 0), .int (nI 0)]))]) s.heap.size = A at hD ⊢
  have hAA : ∀ q : Nat, s.heap.size ≤ q → A q := fun q h => by rw [← hAe]; exact Or.inr h
  have hS : va_S A s.heap s.heap [] := va_S.rf
  have hl := lv_entry ([.ref h0]) (n := 1) (Nat.le_of_ble_eq_true rfl)
  rw [lg_entry_eq]
  generalize (lg_sl ([.ref h0]) ++ List.replicate (1 - (lg_sl ([.ref h0])).length) Slot.unset).toArray = ls at hl ⊢
  have hl : lv_has ls 1 [(0, .ref h0)] := hl
  have hin : meth.name = "<init>" := (name_of_methodNamed B.named B.method).1
  refine lv_aload_n F.1 F.2.1 dD_init_0 rfl (lv_at hl 0 rfl) ?_
  refine z_objInit F wl_D_3 wi_obj wc_obj hl.1 dD_init_1 (Nat.le_of_ble_eq_true rfl) (Nat.le_of_ble_eq_true rfl) ?_
  refine lv_aload_n F.1 F.2.1 dD_init_4 rfl (lv_at hl 0 rfl) ?_
  refine z_bipush (v := 16) F (by decide) dD_init_5 ?_
  refine z_newI F hK hP hD hS hAA 0 rfl (by decide) wa_int (Nat.le_of_ble_eq_true rfl) (Nat.le_of_ble_eq_true rfl) dD_init_7 (fun hB H hP hD hS => ?_)
  have hP : va_P (dC, dI) vwCl ([(h0, .inr (1, [.null, .int (nI 0), .int (nI 0)])), (hB, .inl (cI, 16, .inl (fun x9 => nI (((fun _ => 0)) x9))))]) H := hP
  have hD : va_D A ([(h0, .inr (1, [.null, .int (nI 0), .int (nI 0)])), (hB, .inl (cI, 16, .inl (fun x9 => nI (((fun _ => 0)) x9))))]) := hD
  refine z_putF F hin hK hP hD hS hinD tyD tyD_ok nmD 0 rfl rfl 0 (by decide) rfl rfl rfl wf_D_9 rfl rfl (Nat.le_of_ble_eq_true rfl) dD_init_9 (fun H locs hP hD hS => ?_)
  have hP : va_P (dC, dI) vwCl ([(h0, .inr (1, [.ref hB, .int (nI 0), .int (nI 0)])), (hB, .inl (cI, 16, .inl (fun x9 => nI (((fun _ => 0)) x9))))]) H := hP
  have hD : va_D A ([(h0, .inr (1, [.ref hB, .int (nI 0), .int (nI 0)])), (hB, .inl (cI, 16, .inl (fun x9 => nI (((fun _ => 0)) x9))))]) := hD
  refine lv_aload_n F.1 F.2.1 dD_init_12 rfl (lv_at hl 0 rfl) ?_
  refine z_iconst (v := 0) F (by decide) dD_init_13 ?_
  refine z_callW (z_runV [.int (nI 0)] [] F (c_fit l dC dI cI cL [] H.size h0 hB 0 0 0 (fun _ => 0) (by decide)) kk_D_fit wl_D_15 rfl rfl ⟨Nat.le_of_ble_eq_true rfl, Nat.le_of_ble_eq_true rfl⟩ (z_preVP (q := (RD, TD, 3)) hP hK hD rfl (q0 := 0) rfl) rfl hl.1 rfl (Nat.le_of_ble_eq_true rfl) dD_init_14 ⟨Nat.le_of_ble_eq_true rfl, Nat.le_of_ble_eq_true rfl⟩) hD hS hAA (fun H locs hP hD hS => ?_)
  exact W.vret F.1 F.2.1 hr (fun t ht hWm => ⟨hB, rfl, by rw [ht]; exact hP, va_K.moved hWm.alike hK, hD, hS.F ht⟩) hS.2.2 dD_init_17
