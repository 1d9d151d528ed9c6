theorem zx_IAE : zXw RM 63 "java/lang/IllegalArgumentException" ["java/lang/RuntimeException", "java/lang/Exception"] = true := by decide +kernel
theorem zt_IAE : Cond.instantiable "java/lang/IllegalArgumentException" 6 ∈ zT := zin (by decide +kernel) rfl
theorem zn_IAE : Cond.initialized "java/lang/IllegalArgumentException" ∈ zT := zin (by decide +kernel) rfl
theorem zx_ISE : zXw RM 74 "java/lang/IllegalStateException" ["java/lang/RuntimeException", "java/lang/Exception"] = true := by decide +kernel
theorem zt_ISE : Cond.instantiable "java/lang/IllegalStateException" 6 ∈ zT := zin (by decide +kernel) rfl
theorem zn_ISE : Cond.initialized "java/lang/IllegalStateException" ∈ zT := zin (by decide +kernel) rfl
theorem zx_AE : zXw RM 103 "java/lang/ArithmeticException" ["java/lang/RuntimeException", "java/lang/Exception"] = true := by decide +kernel
theorem zt_AE : Cond.instantiable "java/lang/ArithmeticException" 6 ∈ zT := zin (by decide +kernel) rfl
theorem zn_AE : Cond.initialized "java/lang/ArithmeticException" ∈ zT := zin (by decide +kernel) rfl
set_option maxHeartbeats 4000000 in
set_option maxRecDepth 100000 in
theorem cx_term (l : Launch) (hl9 : l.stackTraces = false) (dC : Nat → ClassId) (dI : Nat → Nat → Nat) (cI cL : ClassId) (x0 xC xD xK xQ xV xI xL xR xS xT xA xB xW xX xE xF : Nat) (pb cn ta al be ga de va : Nat) (md pd : Bool) (v inp sL sR sS sT f bb w mx el qt : Nat → Nat) (x y z : Int32) (hq : (bl x 3 && (bl y 16 && bl z 998244353)) = false) : MetT l yM_term (zW yM_term cM_term 4 (.some .int)) ({ frames := 6, cells := 1, slots := 6, locals := 81 }) (va_Pc [.ref x0, .int x, .int y, .int z] (fun U => z_R (dC, dI) vwCl [(cI, .int), (cL, .long)] [(x0, .inr (4, [.ref xC, .ref xD, .ref xK, .ref xQ, .ref xV, .ref xI, .int (nI pb), .ref xL, .ref xR, .ref xS, .ref xT])), (xC, .inr (0, [.ref xA, .int (nI cn)])), (xD, .inr (1, [.ref xB, .int (nI (szN cn)), .int (nI (iv (szN cn)))])), (xK, .inr (2, [.ref xW, .ref xX, .int (z_b md), .int (nI ta), .int (nI al), .int (nI be), .int (nI ga), .int (nI de), .int (nI va)])), (xQ, .inr (3, [.ref xE, .ref xF, .int (z_b pd)])), (xV, .inl (cI, 16, .inl (fun x9 => nI (v x9)))), (xI, .inl (cI, 7, .inl (fun x9 => nI (inp x9)))), (xL, .inl (cI, 16, .inl (fun x9 => nI (sL x9)))), (xR, .inl (cI, 16, .inl (fun x9 => nI (sR x9)))), (xS, .inl (cI, 16, .inl (fun x9 => nI (sS x9)))), (xT, .inl (cI, 16, .inl (fun x9 => nI (sT x9)))), (xA, .inl (cI, 816, .inl (fun x9 => nI (f x9)))), (xB, .inl (cI, 16, .inl (fun x9 => nI (bb x9)))), (xW, .inl (cI, 16, .inl (fun x9 => nI (w x9)))), (xX, .inl (cI, 16, .inl (fun x9 => nI (mx x9)))), (xE, .inl (cI, 3, .inl (fun x9 => nI (el x9)))), (xF, .inl (cI, 16, .inl (fun x9 => nI (qt x9))))] U ∧ zS U U.heap)) "java/lang/IllegalArgumentException" := by
  refine z_metT (cc := cM_term) (maxL := 4) (ret := (.some .int)) (by decide) ?_
  intro p e s m args below meth c s₁ B hml hv
  obtain ⟨rfl, ⟨hP, hK⟩, hS⟩ := hv
  have F : CallFix p m c cM_term 4 s _ zT RM := ⟨B.exec, B.bytes, hml, findClass_of_methodNamed B.named, fun w h => atoms_spec (ws := (zW yM_term cM_term 4 (.some .int))) B.pre w (List.mem_cons_of_mem _ h)⟩
  have hlocks := B.notSynchronized
  have hne := B.noHandlers (atoms_spec (ws := (zW yM_term cM_term 4 (.some .int))) B.pre _ List.mem_cons_self)
  have hl := lv_entry ([.ref x0, .int x, .int y, .int z]) (n := 4) (Nat.le_of_ble_eq_true rfl)
  rw [lg_entry_eq]
  generalize (lg_sl ([.ref x0, .int x, .int y, .int z]) ++ List.replicate (4 - (lg_sl ([.ref x0, .int x, .int y, .int z])).length) Slot.unset).toArray = ls at hl ⊢
  have hl : lv_has ls 4 [(0, .ref x0), (1, .int x), (2, .int y), (3, .int z)] := hl
  refine lv_iload_n F.1 F.2.1 dM_term_0 rfl (lv_at hl 1 rfl) ?_
  refine z_iconst (v := 3) F (by decide) dM_term_1 ?_
  refine z_call (z_runS [.int x, .int (nI 3)] [] F (c_isBelow l x 3 (by decide)) kk_M_isBelow wl_M_56 rfl rfl ⟨Nat.le_of_ble_eq_true rfl, Nat.le_of_ble_eq_true rfl⟩ z_preN rfl hl.1 rfl (Nat.le_of_ble_eq_true rfl) dM_term_2 ⟨Nat.zero_le _, Nat.zero_le _⟩) ?_
  refine z_ifb_eq F (tgt := 26) dM_term_5 rfl (fun h1 => ?_) (fun h1 => ?_)
  · exact z_throw F hl9 hS hlocks hne zx_IAE (by decide +kernel) (by decide +kernel) wx_M_61 zt_IAE zn_IAE hl.1 dM_term_26 dM_term_29 dM_term_30 dM_term_33 (Nat.le_of_ble_eq_true rfl) (Nat.le_of_ble_eq_true rfl) (Nat.le_of_ble_eq_true rfl) (Nat.le_of_ble_eq_true rfl)
  · refine lv_iload_n F.1 F.2.1 dM_term_8 rfl (lv_at hl 2 rfl) ?_
    refine z_bipush (v := 16) F (by decide) dM_term_9 ?_
    refine z_call (z_runS [.int y, .int (nI 16)] [] F (c_isBelow l y 16 (by decide)) kk_M_isBelow wl_M_56 rfl rfl ⟨Nat.le_of_ble_eq_true rfl, Nat.le_of_ble_eq_true rfl⟩ z_preN rfl hl.1 rfl (Nat.le_of_ble_eq_true rfl) dM_term_11 ⟨Nat.zero_le _, Nat.zero_le _⟩) ?_
    refine z_ifb_eq F (tgt := 26) dM_term_14 rfl (fun h2 => ?_) (fun h2 => ?_)
    · exact z_throw F hl9 hS hlocks hne zx_IAE (by decide +kernel) (by decide +kernel) wx_M_61 zt_IAE zn_IAE hl.1 dM_term_26 dM_term_29 dM_term_30 dM_term_33 (Nat.le_of_ble_eq_true rfl) (Nat.le_of_ble_eq_true rfl) (Nat.le_of_ble_eq_true rfl) (Nat.le_of_ble_eq_true rfl)
    · refine lv_iload_n F.1 F.2.1 dM_term_17 rfl (lv_at hl 3 rfl) ?_
      refine z_ldc F 998244353 (v0 := 998244353) wk_M_60 rfl dM_term_18 ?_
      refine z_call (z_runS [.int z, .int (nI 998244353)] [] F (c_isBelow l z 998244353 (by decide)) kk_M_isBelow wl_M_56 rfl rfl ⟨Nat.le_of_ble_eq_true rfl, Nat.le_of_ble_eq_true rfl⟩ z_preN rfl hl.1 rfl (Nat.le_of_ble_eq_true rfl) dM_term_20 ⟨Nat.zero_le _, Nat.zero_le _⟩) ?_
      refine z_ifb_ne F (tgt := 34) dM_term_23 rfl (fun h3 => ?_) (fun h3 => ?_)
      · rw [h1, h2, h3] at hq
        cases hq
      · exact z_throw F hl9 hS hlocks hne zx_IAE (by decide +kernel) (by decide +kernel) wx_M_61 zt_IAE zn_IAE hl.1 dM_term_26 dM_term_29 dM_term_30 dM_term_33 (Nat.le_of_ble_eq_true rfl) (Nat.le_of_ble_eq_true rfl) (Nat.le_of_ble_eq_true rfl) (Nat.le_of_ble_eq_true rfl)
set_option maxHeartbeats 4000000 in
set_option maxRecDepth 100000 in
theorem cx_constraint (l : Launch) (hl9 : l.stackTraces = false) (dC : Nat → ClassId) (dI : Nat → Nat → Nat) (cI cL : ClassId) (x0 xC xD xK xQ xV xI xL xR xS xT xA xB xW xX xE xF : Nat) (pb cn ta al be ga de va : Nat) (md pd : Bool) (v inp sL sR sS sT f bb w mx el qt : Nat → Nat) (hn : cn = 16) : MetT l yM_constraint (zW yM_constraint cM_constraint 2 (.some .int)) ({ frames := 6, cells := 1, slots := 6, locals := 81 }) (va_Pc [.ref x0] (fun U => z_R (dC, dI) vwCl [(cI, .int), (cL, .long)] [(x0, .inr (4, [.ref xC, .ref xD, .ref xK, .ref xQ, .ref xV, .ref xI, .int (nI pb), .ref xL, .ref xR, .ref xS, .ref xT])), (xC, .inr (0, [.ref xA, .int (nI cn)])), (xD, .inr (1, [.ref xB, .int (nI (szN cn)), .int (nI (iv (szN cn)))])), (xK, .inr (2, [.ref xW, .ref xX, .int (z_b md), .int (nI ta), .int (nI al), .int (nI be), .int (nI ga), .int (nI de), .int (nI va)])), (xQ, .inr (3, [.ref xE, .ref xF, .int (z_b pd)])), (xV, .inl (cI, 16, .inl (fun x9 => nI (v x9)))), (xI, .inl (cI, 7, .inl (fun x9 => nI (inp x9)))), (xL, .inl (cI, 16, .inl (fun x9 => nI (sL x9)))), (xR, .inl (cI, 16, .inl (fun x9 => nI (sR x9)))), (xS, .inl (cI, 16, .inl (fun x9 => nI (sS x9)))), (xT, .inl (cI, 16, .inl (fun x9 => nI (sT x9)))), (xA, .inl (cI, 816, .inl (fun x9 => nI (f x9)))), (xB, .inl (cI, 16, .inl (fun x9 => nI (bb x9)))), (xW, .inl (cI, 16, .inl (fun x9 => nI (w x9)))), (xX, .inl (cI, 16, .inl (fun x9 => nI (mx x9)))), (xE, .inl (cI, 3, .inl (fun x9 => nI (el x9)))), (xF, .inl (cI, 16, .inl (fun x9 => nI (qt x9))))] U ∧ zS U U.heap)) "java/lang/IllegalStateException" := by
  refine z_metT (cc := cM_constraint) (maxL := 2) (ret := (.some .int)) (by decide) ?_
  intro p e s m args below meth c s₁ B hml hv
  obtain ⟨rfl, ⟨hP, hK⟩, hS⟩ := hv
  have F : CallFix p m c cM_constraint 2 s _ zT RM := ⟨B.exec, B.bytes, hml, findClass_of_methodNamed B.named, fun w h => atoms_spec (ws := (zW yM_constraint cM_constraint 2 (.some .int))) B.pre w (List.mem_cons_of_mem _ h)⟩
  have hlocks := B.notSynchronized
  have hne := B.noHandlers (atoms_spec (ws := (zW yM_constraint cM_constraint 2 (.some .int))) B.pre _ List.mem_cons_self)
  have hl := lv_entry ([.ref x0]) (n := 2) (Nat.le_of_ble_eq_true rfl)
  rw [lg_entry_eq]
  generalize (lg_sl ([.ref x0]) ++ List.replicate (2 - (lg_sl ([.ref x0])).length) Slot.unset).toArray = ls at hl ⊢
  have hl : lv_has ls 2 [(0, .ref x0)] := hl
  refine lv_aload_n F.1 F.2.1 dM_constraint_0 rfl (lv_at hl 0 rfl) ?_
  refine z_get F hK hP hinM 0 rfl rfl 0 (by decide) rfl wf_M_10 rfl dM_constraint_1 ?_
  refine z_call (z_runV [] [] F (c_count l dC dI cI cL _ 1 xC xA cn rfl) kk_C_count wl_M_68 rfl rfl ⟨Nat.le_of_ble_eq_true rfl, Nat.le_of_ble_eq_true rfl⟩ (z_preVR (q := (RC, TC, 2)) hP hK rfl (q0 := 1) rfl) rfl hl.1 rfl (Nat.le_of_ble_eq_true rfl) dM_constraint_4 ⟨Nat.zero_le _, Nat.zero_le _⟩) ?_
  refine z_bipush (v := 16) F (by decide) dM_constraint_7 ?_
  refine z_icmp_lt F (by omega) (by omega) (tgt := 20) dM_constraint_9 rfl (fun h => absurd h (by omega)) (fun h => ?_)
  exact z_throw F hl9 hS hlocks hne zx_ISE (by decide +kernel) (by decide +kernel) wx_M_72 zt_ISE zn_ISE hl.1 dM_constraint_12 dM_constraint_15 dM_constraint_16 dM_constraint_19 (Nat.le_of_ble_eq_true rfl) (Nat.le_of_ble_eq_true rfl) (Nat.le_of_ble_eq_true rfl) (Nat.le_of_ble_eq_true rfl)
set_option maxHeartbeats 4000000 in
set_option maxRecDepth 100000 in
theorem cx_publics (l : Launch) (hl9 : l.stackTraces = false) (dC : Nat → ClassId) (dI : Nat → Nat → Nat) (cI cL : ClassId) (x0 xC xD xK xQ xV xI xL xR xS xT xA xB xW xX xE xF : Nat) (pb cn ta al be ga de va : Nat) (md pd : Bool) (v inp sL sR sS sT f bb w mx el qt : Nat → Nat) (x : Int32) (hq : bl x 7 = false) : MetT l yM_publics (zW yM_publics cM_publics 2 (.some .boolean)) ({ frames := 6, cells := 1, slots := 6, locals := 81 }) (va_Pc [.ref x0, .int x] (fun U => z_R (dC, dI) vwCl [(cI, .int), (cL, .long)] [(x0, .inr (4, [.ref xC, .ref xD, .ref xK, .ref xQ, .ref xV, .ref xI, .int (nI pb), .ref xL, .ref xR, .ref xS, .ref xT])), (xC, .inr (0, [.ref xA, .int (nI cn)])), (xD, .inr (1, [.ref xB, .int (nI (szN cn)), .int (nI (iv (szN cn)))])), (xK, .inr (2, [.ref xW, .ref xX, .int (z_b md), .int (nI ta), .int (nI al), .int (nI be), .int (nI ga), .int (nI de), .int (nI va)])), (xQ, .inr (3, [.ref xE, .ref xF, .int (z_b pd)])), (xV, .inl (cI, 16, .inl (fun x9 => nI (v x9)))), (xI, .inl (cI, 7, .inl (fun x9 => nI (inp x9)))), (xL, .inl (cI, 16, .inl (fun x9 => nI (sL x9)))), (xR, .inl (cI, 16, .inl (fun x9 => nI (sR x9)))), (xS, .inl (cI, 16, .inl (fun x9 => nI (sS x9)))), (xT, .inl (cI, 16, .inl (fun x9 => nI (sT x9)))), (xA, .inl (cI, 816, .inl (fun x9 => nI (f x9)))), (xB, .inl (cI, 16, .inl (fun x9 => nI (bb x9)))), (xW, .inl (cI, 16, .inl (fun x9 => nI (w x9)))), (xX, .inl (cI, 16, .inl (fun x9 => nI (mx x9)))), (xE, .inl (cI, 3, .inl (fun x9 => nI (el x9)))), (xF, .inl (cI, 16, .inl (fun x9 => nI (qt x9))))] U ∧ zS U U.heap)) "java/lang/IllegalArgumentException" := by
  refine z_metT (cc := cM_publics) (maxL := 2) (ret := (.some .boolean)) (by decide) ?_
  intro p e s m args below meth c s₁ B hml hv
  obtain ⟨rfl, ⟨hP, hK⟩, hS⟩ := hv
  have F : CallFix p m c cM_publics 2 s _ zT RM := ⟨B.exec, B.bytes, hml, findClass_of_methodNamed B.named, fun w h => atoms_spec (ws := (zW yM_publics cM_publics 2 (.some .boolean))) B.pre w (List.mem_cons_of_mem _ h)⟩
  have hlocks := B.notSynchronized
  have hne := B.noHandlers (atoms_spec (ws := (zW yM_publics cM_publics 2 (.some .boolean))) B.pre _ List.mem_cons_self)
  have hl := lv_entry ([.ref x0, .int x]) (n := 2) (Nat.le_of_ble_eq_true rfl)
  rw [lg_entry_eq]
  generalize (lg_sl ([.ref x0, .int x]) ++ List.replicate (2 - (lg_sl ([.ref x0, .int x])).length) Slot.unset).toArray = ls at hl ⊢
  have hl : lv_has ls 2 [(0, .ref x0), (1, .int x)] := hl
  refine lv_iload_n F.1 F.2.1 dM_publics_0 rfl (lv_at hl 1 rfl) ?_
  refine z_bipush (v := 7) F (by decide) dM_publics_1 ?_
  refine z_call (z_runS [.int x, .int (nI 7)] [] F (c_isBelow l x 7 (by decide)) kk_M_isBelow wl_M_56 rfl rfl ⟨Nat.le_of_ble_eq_true rfl, Nat.le_of_ble_eq_true rfl⟩ z_preN rfl hl.1 rfl (Nat.le_of_ble_eq_true rfl) dM_publics_3 ⟨Nat.zero_le _, Nat.zero_le _⟩) ?_
  refine z_ifb_ne F (tgt := 17) dM_publics_6 rfl (fun h1 => ?_) (fun h1 => ?_)
  · rw [h1] at hq
    cases hq
  · exact z_throw F hl9 hS hlocks hne zx_IAE (by decide +kernel) (by decide +kernel) wx_M_61 zt_IAE zn_IAE hl.1 dM_publics_9 dM_publics_12 dM_publics_13 dM_publics_16 (Nat.le_of_ble_eq_true rfl) (Nat.le_of_ble_eq_true rfl) (Nat.le_of_ble_eq_true rfl) (Nat.le_of_ble_eq_true rfl)
set_option maxHeartbeats 4000000 in
set_option maxRecDepth 100000 in
theorem cx_value (l : Launch) (hl9 : l.stackTraces = false) (dC : Nat → ClassId) (dI : Nat → Nat → Nat) (cI cL : ClassId) (x0 xC xD xK xQ xV xI xL xR xS xT xA xB xW xX xE xF : Nat) (pb cn ta al be ga de va : Nat) (md pd : Bool) (v inp sL sR sS sT f bb w mx el qt : Nat → Nat) (x y : Int32) (hq : (b1 x 16 && bl y 998244353) = false) : MetT l yM_value (zW yM_value cM_value 3 (.some .boolean)) ({ frames := 6, cells := 1, slots := 6, locals := 81 }) (va_Pc [.ref x0, .int x, .int y] (fun U => z_R (dC, dI) vwCl [(cI, .int), (cL, .long)] [(x0, .inr (4, [.ref xC, .ref xD, .ref xK, .ref xQ, .ref xV, .ref xI, .int (nI pb), .ref xL, .ref xR, .ref xS, .ref xT])), (xC, .inr (0, [.ref xA, .int (nI cn)])), (xD, .inr (1, [.ref xB, .int (nI (szN cn)), .int (nI (iv (szN cn)))])), (xK, .inr (2, [.ref xW, .ref xX, .int (z_b md), .int (nI ta), .int (nI al), .int (nI be), .int (nI ga), .int (nI de), .int (nI va)])), (xQ, .inr (3, [.ref xE, .ref xF, .int (z_b pd)])), (xV, .inl (cI, 16, .inl (fun x9 => nI (v x9)))), (xI, .inl (cI, 7, .inl (fun x9 => nI (inp x9)))), (xL, .inl (cI, 16, .inl (fun x9 => nI (sL x9)))), (xR, .inl (cI, 16, .inl (fun x9 => nI (sR x9)))), (xS, .inl (cI, 16, .inl (fun x9 => nI (sS x9)))), (xT, .inl (cI, 16, .inl (fun x9 => nI (sT x9)))), (xA, .inl (cI, 816, .inl (fun x9 => nI (f x9)))), (xB, .inl (cI, 16, .inl (fun x9 => nI (bb x9)))), (xW, .inl (cI, 16, .inl (fun x9 => nI (w x9)))), (xX, .inl (cI, 16, .inl (fun x9 => nI (mx x9)))), (xE, .inl (cI, 3, .inl (fun x9 => nI (el x9)))), (xF, .inl (cI, 16, .inl (fun x9 => nI (qt x9))))] U ∧ zS U U.heap)) "java/lang/IllegalArgumentException" := by
  refine z_metT (cc := cM_value) (maxL := 3) (ret := (.some .boolean)) (by decide) ?_
  intro p e s m args below meth c s₁ B hml hv
  obtain ⟨rfl, ⟨hP, hK⟩, hS⟩ := hv
  have F : CallFix p m c cM_value 3 s _ zT RM := ⟨B.exec, B.bytes, hml, findClass_of_methodNamed B.named, fun w h => atoms_spec (ws := (zW yM_value cM_value 3 (.some .boolean))) B.pre w (List.mem_cons_of_mem _ h)⟩
  have hlocks := B.notSynchronized
  have hne := B.noHandlers (atoms_spec (ws := (zW yM_value cM_value 3 (.some .boolean))) B.pre _ List.mem_cons_self)
  have hl := lv_entry ([.ref x0, .int x, .int y]) (n := 3) (Nat.le_of_ble_eq_true rfl)
  rw [lg_entry_eq]
  generalize (lg_sl ([.ref x0, .int x, .int y]) ++ List.replicate (3 - (lg_sl ([.ref x0, .int x, .int y])).length) Slot.unset).toArray = ls at hl ⊢
  have hl : lv_has ls 3 [(0, .ref x0), (1, .int x), (2, .int y)] := hl
  refine lv_iload_n F.1 F.2.1 dM_value_0 rfl (lv_at hl 1 rfl) ?_
  refine lv_if_eq F.1 F.2.1 (tgt := 22) dM_value_1 rfl (fun h0 => ?_) (fun h0 => ?_)
  · exact z_throw F hl9 hS hlocks hne zx_IAE (by decide +kernel) (by decide +kernel) wx_M_61 zt_IAE zn_IAE hl.1 dM_value_22 dM_value_25 dM_value_26 dM_value_29 (Nat.le_of_ble_eq_true rfl) (Nat.le_of_ble_eq_true rfl) (Nat.le_of_ble_eq_true rfl) (Nat.le_of_ble_eq_true rfl)
  · refine lv_iload_n F.1 F.2.1 dM_value_4 rfl (lv_at hl 1 rfl) ?_
    refine z_bipush (v := 16) F (by decide) dM_value_5 ?_
    refine z_call (z_runS [.int x, .int (nI 16)] [] F (c_isBelow l x 16 (by decide)) kk_M_isBelow wl_M_56 rfl rfl ⟨Nat.le_of_ble_eq_true rfl, Nat.le_of_ble_eq_true rfl⟩ z_preN rfl hl.1 rfl (Nat.le_of_ble_eq_true rfl) dM_value_7 ⟨Nat.zero_le _, Nat.zero_le _⟩) ?_
    refine z_ifb_eq F (tgt := 22) dM_value_10 rfl (fun h1 => ?_) (fun h1 => ?_)
    · exact z_throw F hl9 hS hlocks hne zx_IAE (by decide +kernel) (by decide +kernel) wx_M_61 zt_IAE zn_IAE hl.1 dM_value_22 dM_value_25 dM_value_26 dM_value_29 (Nat.le_of_ble_eq_true rfl) (Nat.le_of_ble_eq_true rfl) (Nat.le_of_ble_eq_true rfl) (Nat.le_of_ble_eq_true rfl)
    · refine lv_iload_n F.1 F.2.1 dM_value_13 rfl (lv_at hl 2 rfl) ?_
      refine z_ldc F 998244353 (v0 := 998244353) wk_M_60 rfl dM_value_14 ?_
      refine z_call (z_runS [.int y, .int (nI 998244353)] [] F (c_isBelow l y 998244353 (by decide)) kk_M_isBelow wl_M_56 rfl rfl ⟨Nat.le_of_ble_eq_true rfl, Nat.le_of_ble_eq_true rfl⟩ z_preN rfl hl.1 rfl (Nat.le_of_ble_eq_true rfl) dM_value_16 ⟨Nat.zero_le _, Nat.zero_le _⟩) ?_
      refine z_ifb_ne F (tgt := 30) dM_value_19 rfl (fun h2 => ?_) (fun h2 => ?_)
      · rw [h2, Bool.and_true] at hq
        unfold b1 at hq
        rw [h1, decide_eq_false h0] at hq
        cases hq
      · exact z_throw F hl9 hS hlocks hne zx_IAE (by decide +kernel) (by decide +kernel) wx_M_61 zt_IAE zn_IAE hl.1 dM_value_22 dM_value_25 dM_value_26 dM_value_29 (Nat.le_of_ble_eq_true rfl) (Nat.le_of_ble_eq_true rfl) (Nat.le_of_ble_eq_true rfl) (Nat.le_of_ble_eq_true rfl)
set_option maxHeartbeats 4000000 in
set_option maxRecDepth 100000 in
theorem cx_input (l : Launch) (hl9 : l.stackTraces = false) (dC : Nat → ClassId) (dI : Nat → Nat → Nat) (cI cL : ClassId) (x0 xC xD xK xQ xV xI xL xR xS xT xA xB xW xX xE xF : Nat) (pb cn ta al be ga de va : Nat) (md pd : Bool) (v inp sL sR sS sT f bb w mx el qt : Nat → Nat) (x y : Int32) (hq : (b1 x 7 && bl y 998244353) = false) : MetT l yM_input (zW yM_input cM_input 3 (.some .boolean)) ({ frames := 6, cells := 1, slots := 6, locals := 81 }) (va_Pc [.ref x0, .int x, .int y] (fun U => z_R (dC, dI) vwCl [(cI, .int), (cL, .long)] [(x0, .inr (4, [.ref xC, .ref xD, .ref xK, .ref xQ, .ref xV, .ref xI, .int (nI pb), .ref xL, .ref xR, .ref xS, .ref xT])), (xC, .inr (0, [.ref xA, .int (nI cn)])), (xD, .inr (1, [.ref xB, .int (nI (szN cn)), .int (nI (iv (szN cn)))])), (xK, .inr (2, [.ref xW, .ref xX, .int (z_b md), .int (nI ta), .int (nI al), .int (nI be), .int (nI ga), .int (nI de), .int (nI va)])), (xQ, .inr (3, [.ref xE, .ref xF, .int (z_b pd)])), (xV, .inl (cI, 16, .inl (fun x9 => nI (v x9)))), (xI, .inl (cI, 7, .inl (fun x9 => nI (inp x9)))), (xL, .inl (cI, 16, .inl (fun x9 => nI (sL x9)))), (xR, .inl (cI, 16, .inl (fun x9 => nI (sR x9)))), (xS, .inl (cI, 16, .inl (fun x9 => nI (sS x9)))), (xT, .inl (cI, 16, .inl (fun x9 => nI (sT x9)))), (xA, .inl (cI, 816, .inl (fun x9 => nI (f x9)))), (xB, .inl (cI, 16, .inl (fun x9 => nI (bb x9)))), (xW, .inl (cI, 16, .inl (fun x9 => nI (w x9)))), (xX, .inl (cI, 16, .inl (fun x9 => nI (mx x9)))), (xE, .inl (cI, 3, .inl (fun x9 => nI (el x9)))), (xF, .inl (cI, 16, .inl (fun x9 => nI (qt x9))))] U ∧ zS U U.heap)) "java/lang/IllegalArgumentException" := by
  refine z_metT (cc := cM_input) (maxL := 3) (ret := (.some .boolean)) (by decide) ?_
  intro p e s m args below meth c s₁ B hml hv
  obtain ⟨rfl, ⟨hP, hK⟩, hS⟩ := hv
  have F : CallFix p m c cM_input 3 s _ zT RM := ⟨B.exec, B.bytes, hml, findClass_of_methodNamed B.named, fun w h => atoms_spec (ws := (zW yM_input cM_input 3 (.some .boolean))) B.pre w (List.mem_cons_of_mem _ h)⟩
  have hlocks := B.notSynchronized
  have hne := B.noHandlers (atoms_spec (ws := (zW yM_input cM_input 3 (.some .boolean))) B.pre _ List.mem_cons_self)
  have hl := lv_entry ([.ref x0, .int x, .int y]) (n := 3) (Nat.le_of_ble_eq_true rfl)
  rw [lg_entry_eq]
  generalize (lg_sl ([.ref x0, .int x, .int y]) ++ List.replicate (3 - (lg_sl ([.ref x0, .int x, .int y])).length) Slot.unset).toArray = ls at hl ⊢
  have hl : lv_has ls 3 [(0, .ref x0), (1, .int x), (2, .int y)] := hl
  refine lv_iload_n F.1 F.2.1 dM_input_0 rfl (lv_at hl 1 rfl) ?_
  refine lv_if_eq F.1 F.2.1 (tgt := 22) dM_input_1 rfl (fun h0 => ?_) (fun h0 => ?_)
  · exact z_throw F hl9 hS hlocks hne zx_IAE (by decide +kernel) (by decide +kernel) wx_M_61 zt_IAE zn_IAE hl.1 dM_input_22 dM_input_25 dM_input_26 dM_input_29 (Nat.le_of_ble_eq_true rfl) (Nat.le_of_ble_eq_true rfl) (Nat.le_of_ble_eq_true rfl) (Nat.le_of_ble_eq_true rfl)
  · refine lv_iload_n F.1 F.2.1 dM_input_4 rfl (lv_at hl 1 rfl) ?_
    refine z_bipush (v := 7) F (by decide) dM_input_5 ?_
    refine z_call (z_runS [.int x, .int (nI 7)] [] F (c_isBelow l x 7 (by decide)) kk_M_isBelow wl_M_56 rfl rfl ⟨Nat.le_of_ble_eq_true rfl, Nat.le_of_ble_eq_true rfl⟩ z_preN rfl hl.1 rfl (Nat.le_of_ble_eq_true rfl) dM_input_7 ⟨Nat.zero_le _, Nat.zero_le _⟩) ?_
    refine z_ifb_eq F (tgt := 22) dM_input_10 rfl (fun h1 => ?_) (fun h1 => ?_)
    · exact z_throw F hl9 hS hlocks hne zx_IAE (by decide +kernel) (by decide +kernel) wx_M_61 zt_IAE zn_IAE hl.1 dM_input_22 dM_input_25 dM_input_26 dM_input_29 (Nat.le_of_ble_eq_true rfl) (Nat.le_of_ble_eq_true rfl) (Nat.le_of_ble_eq_true rfl) (Nat.le_of_ble_eq_true rfl)
    · refine lv_iload_n F.1 F.2.1 dM_input_13 rfl (lv_at hl 2 rfl) ?_
      refine z_ldc F 998244353 (v0 := 998244353) wk_M_60 rfl dM_input_14 ?_
      refine z_call (z_runS [.int y, .int (nI 998244353)] [] F (c_isBelow l y 998244353 (by decide)) kk_M_isBelow wl_M_56 rfl rfl ⟨Nat.le_of_ble_eq_true rfl, Nat.le_of_ble_eq_true rfl⟩ z_preN rfl hl.1 rfl (Nat.le_of_ble_eq_true rfl) dM_input_16 ⟨Nat.zero_le _, Nat.zero_le _⟩) ?_
      refine z_ifb_ne F (tgt := 30) dM_input_19 rfl (fun h2 => ?_) (fun h2 => ?_)
      · rw [h2, Bool.and_true] at hq
        unfold b1 at hq
        rw [h1, decide_eq_false h0] at hq
        cases hq
      · exact z_throw F hl9 hS hlocks hne zx_IAE (by decide +kernel) (by decide +kernel) wx_M_61 zt_IAE zn_IAE hl.1 dM_input_22 dM_input_25 dM_input_26 dM_input_29 (Nat.le_of_ble_eq_true rfl) (Nat.le_of_ble_eq_true rfl) (Nat.le_of_ble_eq_true rfl) (Nat.le_of_ble_eq_true rfl)
set_option maxHeartbeats 4000000 in
set_option maxRecDepth 100000 in
theorem cx_alter (l : Launch) (hl9 : l.stackTraces = false) (dC : Nat → ClassId) (dI : Nat → Nat → Nat) (cI cL : ClassId) (x0 xC xD xK xQ xV xI xL xR xS xT xA xB xW xX xE xF : Nat) (pb cn ta al be ga de va : Nat) (md pd : Bool) (v inp sL sR sS sT f bb w mx el qt : Nat → Nat) (x y : Int32) (hq : (bl x 3 && bl y 998244353) = false) : MetT l yM_alter (zW yM_alter cM_alter 3 (.some .boolean)) ({ frames := 6, cells := 1, slots := 6, locals := 81 }) (va_Pc [.ref x0, .int x, .int y] (fun U => z_R (dC, dI) vwCl [(cI, .int), (cL, .long)] [(x0, .inr (4, [.ref xC, .ref xD, .ref xK, .ref xQ, .ref xV, .ref xI, .int (nI pb), .ref xL, .ref xR, .ref xS, .ref xT])), (xC, .inr (0, [.ref xA, .int (nI cn)])), (xD, .inr (1, [.ref xB, .int (nI (szN cn)), .int (nI (iv (szN cn)))])), (xK, .inr (2, [.ref xW, .ref xX, .int (z_b md), .int (nI ta), .int (nI al), .int (nI be), .int (nI ga), .int (nI de), .int (nI va)])), (xQ, .inr (3, [.ref xE, .ref xF, .int (z_b pd)])), (xV, .inl (cI, 16, .inl (fun x9 => nI (v x9)))), (xI, .inl (cI, 7, .inl (fun x9 => nI (inp x9)))), (xL, .inl (cI, 16, .inl (fun x9 => nI (sL x9)))), (xR, .inl (cI, 16, .inl (fun x9 => nI (sR x9)))), (xS, .inl (cI, 16, .inl (fun x9 => nI (sS x9)))), (xT, .inl (cI, 16, .inl (fun x9 => nI (sT x9)))), (xA, .inl (cI, 816, .inl (fun x9 => nI (f x9)))), (xB, .inl (cI, 16, .inl (fun x9 => nI (bb x9)))), (xW, .inl (cI, 16, .inl (fun x9 => nI (w x9)))), (xX, .inl (cI, 16, .inl (fun x9 => nI (mx x9)))), (xE, .inl (cI, 3, .inl (fun x9 => nI (el x9)))), (xF, .inl (cI, 16, .inl (fun x9 => nI (qt x9))))] U ∧ zS U U.heap)) "java/lang/IllegalArgumentException" := by
  refine z_metT (cc := cM_alter) (maxL := 3) (ret := (.some .boolean)) (by decide) ?_
  intro p e s m args below meth c s₁ B hml hv
  obtain ⟨rfl, ⟨hP, hK⟩, hS⟩ := hv
  have F : CallFix p m c cM_alter 3 s _ zT RM := ⟨B.exec, B.bytes, hml, findClass_of_methodNamed B.named, fun w h => atoms_spec (ws := (zW yM_alter cM_alter 3 (.some .boolean))) B.pre w (List.mem_cons_of_mem _ h)⟩
  have hlocks := B.notSynchronized
  have hne := B.noHandlers (atoms_spec (ws := (zW yM_alter cM_alter 3 (.some .boolean))) B.pre _ List.mem_cons_self)
  have hl := lv_entry ([.ref x0, .int x, .int y]) (n := 3) (Nat.le_of_ble_eq_true rfl)
  rw [lg_entry_eq]
  generalize (lg_sl ([.ref x0, .int x, .int y]) ++ List.replicate (3 - (lg_sl ([.ref x0, .int x, .int y])).length) Slot.unset).toArray = ls at hl ⊢
  have hl : lv_has ls 3 [(0, .ref x0), (1, .int x), (2, .int y)] := hl
  refine lv_iload_n F.1 F.2.1 dM_alter_0 rfl (lv_at hl 1 rfl) ?_
  refine z_iconst (v := 3) F (by decide) dM_alter_1 ?_
  refine z_call (z_runS [.int x, .int (nI 3)] [] F (c_isBelow l x 3 (by decide)) kk_M_isBelow wl_M_56 rfl rfl ⟨Nat.le_of_ble_eq_true rfl, Nat.le_of_ble_eq_true rfl⟩ z_preN rfl hl.1 rfl (Nat.le_of_ble_eq_true rfl) dM_alter_2 ⟨Nat.zero_le _, Nat.zero_le _⟩) ?_
  refine z_ifb_eq F (tgt := 17) dM_alter_5 rfl (fun h1 => ?_) (fun h1 => ?_)
  · exact z_throw F hl9 hS hlocks hne zx_IAE (by decide +kernel) (by decide +kernel) wx_M_61 zt_IAE zn_IAE hl.1 dM_alter_17 dM_alter_20 dM_alter_21 dM_alter_24 (Nat.le_of_ble_eq_true rfl) (Nat.le_of_ble_eq_true rfl) (Nat.le_of_ble_eq_true rfl) (Nat.le_of_ble_eq_true rfl)
  · refine lv_iload_n F.1 F.2.1 dM_alter_8 rfl (lv_at hl 2 rfl) ?_
    refine z_ldc F 998244353 (v0 := 998244353) wk_M_60 rfl dM_alter_9 ?_
    refine z_call (z_runS [.int y, .int (nI 998244353)] [] F (c_isBelow l y 998244353 (by decide)) kk_M_isBelow wl_M_56 rfl rfl ⟨Nat.le_of_ble_eq_true rfl, Nat.le_of_ble_eq_true rfl⟩ z_preN rfl hl.1 rfl (Nat.le_of_ble_eq_true rfl) dM_alter_11 ⟨Nat.zero_le _, Nat.zero_le _⟩) ?_
    refine z_ifb_ne F (tgt := 25) dM_alter_14 rfl (fun h2 => ?_) (fun h2 => ?_)
    · rw [h1, h2] at hq
      cases hq
    · exact z_throw F hl9 hS hlocks hne zx_IAE (by decide +kernel) (by decide +kernel) wx_M_61 zt_IAE zn_IAE hl.1 dM_alter_17 dM_alter_20 dM_alter_21 dM_alter_24 (Nat.le_of_ble_eq_true rfl) (Nat.le_of_ble_eq_true rfl) (Nat.le_of_ble_eq_true rfl) (Nat.le_of_ble_eq_true rfl)
set_option maxHeartbeats 4000000 in
set_option maxRecDepth 100000 in
theorem cx_alter_np (l : Launch) (hl9 : l.stackTraces = false) (dC : Nat → ClassId) (dI : Nat → Nat → Nat) (cI cL : ClassId) (x0 xC xD xK xQ xV xI xL xR xS xT xA xB xW xX xE xF : Nat) (pb cn ta al be ga de va : Nat) (md pd : Bool) (v inp sL sR sS sT f bb w mx el qt : Nat → Nat) (k y : Nat) (hk : k < 3) (hy : y < 998244353) (hp : pd = false) : MetT l yM_alter (zW yM_alter cM_alter 3 (.some .boolean)) ({ frames := 6, cells := 1, slots := 6, locals := 81 }) (va_Pc [.ref x0, .int (nI k), .int (nI y)] (fun U => z_R (dC, dI) vwCl [(cI, .int), (cL, .long)] [(x0, .inr (4, [.ref xC, .ref xD, .ref xK, .ref xQ, .ref xV, .ref xI, .int (nI pb), .ref xL, .ref xR, .ref xS, .ref xT])), (xC, .inr (0, [.ref xA, .int (nI cn)])), (xD, .inr (1, [.ref xB, .int (nI (szN cn)), .int (nI (iv (szN cn)))])), (xK, .inr (2, [.ref xW, .ref xX, .int (z_b md), .int (nI ta), .int (nI al), .int (nI be), .int (nI ga), .int (nI de), .int (nI va)])), (xQ, .inr (3, [.ref xE, .ref xF, .int (z_b pd)])), (xV, .inl (cI, 16, .inl (fun x9 => nI (v x9)))), (xI, .inl (cI, 7, .inl (fun x9 => nI (inp x9)))), (xL, .inl (cI, 16, .inl (fun x9 => nI (sL x9)))), (xR, .inl (cI, 16, .inl (fun x9 => nI (sR x9)))), (xS, .inl (cI, 16, .inl (fun x9 => nI (sS x9)))), (xT, .inl (cI, 16, .inl (fun x9 => nI (sT x9)))), (xA, .inl (cI, 816, .inl (fun x9 => nI (f x9)))), (xB, .inl (cI, 16, .inl (fun x9 => nI (bb x9)))), (xW, .inl (cI, 16, .inl (fun x9 => nI (w x9)))), (xX, .inl (cI, 16, .inl (fun x9 => nI (mx x9)))), (xE, .inl (cI, 3, .inl (fun x9 => nI (el x9)))), (xF, .inl (cI, 16, .inl (fun x9 => nI (qt x9))))] U ∧ zS U U.heap)) "java/lang/IllegalStateException" := by
  refine z_metT (cc := cM_alter) (maxL := 3) (ret := (.some .boolean)) (by decide) ?_
  intro p e s m args below meth c s₁ B hml hv
  obtain ⟨rfl, ⟨hP, hK⟩, hS⟩ := hv
  have F : CallFix p m c cM_alter 3 s _ zT RM := ⟨B.exec, B.bytes, hml, findClass_of_methodNamed B.named, fun w h => atoms_spec (ws := (zW yM_alter cM_alter 3 (.some .boolean))) B.pre w (List.mem_cons_of_mem _ h)⟩
  have hlocks := B.notSynchronized
  have hne := B.noHandlers (atoms_spec (ws := (zW yM_alter cM_alter 3 (.some .boolean))) B.pre _ List.mem_cons_self)
  have hl := lv_entry ([.ref x0, .int (nI k), .int (nI y)]) (n := 3) (Nat.le_of_ble_eq_true rfl)
  rw [lg_entry_eq]
  generalize (lg_sl ([.ref x0, .int (nI k), .int (nI y)]) ++ List.replicate (3 - (lg_sl ([.ref x0, .int (nI k), .int (nI y)])).length) Slot.unset).toArray = ls at hl ⊢
  have hl : lv_has ls 3 [(0, .ref x0), (1, .int (nI k)), (2, .int (nI y))] := hl
  refine lv_iload_n F.1 F.2.1 dM_alter_0 rfl (lv_at hl 1 rfl) ?_
  refine z_iconst (v := 3) F (by decide) dM_alter_1 ?_
  refine z_call (z_runS [.int (nI k), .int (nI 3)] [] F (c_isBelow_t l (k) 3 (by omega) (by decide)) kk_M_isBelow wl_M_56 rfl rfl ⟨Nat.le_of_ble_eq_true rfl, Nat.le_of_ble_eq_true rfl⟩ z_preN rfl hl.1 rfl (Nat.le_of_ble_eq_true rfl) dM_alter_2 ⟨Nat.zero_le _, Nat.zero_le _⟩) ?_
  refine z_if_eq F (by omega) (tgt := 17) dM_alter_5 rfl (fun h => absurd h (by decide)) (fun h => ?_)
  refine lv_iload_n F.1 F.2.1 dM_alter_8 rfl (lv_at hl 2 rfl) ?_
  refine z_ldc F 998244353 (v0 := 998244353) wk_M_60 rfl dM_alter_9 ?_
  refine z_call (z_runS [.int (nI y), .int (nI 998244353)] [] F (c_isBelow_t l (y) 998244353 (by omega) (by decide)) kk_M_isBelow wl_M_56 rfl rfl ⟨Nat.le_of_ble_eq_true rfl, Nat.le_of_ble_eq_true rfl⟩ z_preN rfl hl.1 rfl (Nat.le_of_ble_eq_true rfl) dM_alter_11 ⟨Nat.zero_le _, Nat.zero_le _⟩) ?_
  refine z_if_ne F (by omega) (tgt := 25) dM_alter_14 rfl (fun h => ?_) (fun h => absurd h (by decide))
  refine lv_aload_n F.1 F.2.1 dM_alter_25 rfl (lv_at hl 0 rfl) ?_
  refine z_get F hK hP hinM 0 rfl rfl 3 (by decide) rfl wf_M_33 rfl dM_alter_26 ?_
  refine z_call (z_runV [] [] F (cq_isMade l dC dI cI cL _ 4 xQ xE xF pd rfl) kk_Q_isMade wl_M_176 rfl rfl ⟨Nat.le_of_ble_eq_true rfl, Nat.le_of_ble_eq_true rfl⟩ (z_preVR (q := (RQ, TQ, 3)) hP hK rfl (q0 := 4) rfl) rfl hl.1 rfl (Nat.le_of_ble_eq_true rfl) dM_alter_29 ⟨Nat.zero_le _, Nat.zero_le _⟩) ?_
  refine z_ifb_ne F (tgt := 43) dM_alter_32 rfl (fun h => by rw [hp] at h; cases h) (fun h => ?_)
  exact z_throw F hl9 hS hlocks hne zx_ISE (by decide +kernel) (by decide +kernel) wx_M_72 zt_ISE zn_ISE hl.1 dM_alter_35 dM_alter_38 dM_alter_39 dM_alter_42 (Nat.le_of_ble_eq_true rfl) (Nat.le_of_ble_eq_true rfl) (Nat.le_of_ble_eq_true rfl) (Nat.le_of_ble_eq_true rfl)
set_option maxHeartbeats 4000000 in
set_option maxRecDepth 100000 in
theorem cx_verify (l : Launch) (hl9 : l.stackTraces = false) (dC : Nat → ClassId) (dI : Nat → Nat → Nat) (cI cL : ClassId) (x0 xC xD xK xQ xV xI xL xR xS xT xA xB xW xX xE xF : Nat) (pb cn ta al be ga de va : Nat) (md pd : Bool) (v inp sL sR sS sT f bb w mx el qt : Nat → Nat) (hq : (md && pd) = false) : MetT l yM_verify (zW yM_verify cM_verify 3 (.some .boolean)) ({ frames := 6, cells := 1, slots := 6, locals := 81 }) (va_Pc [.ref x0] (fun U => z_R (dC, dI) vwCl [(cI, .int), (cL, .long)] [(x0, .inr (4, [.ref xC, .ref xD, .ref xK, .ref xQ, .ref xV, .ref xI, .int (nI pb), .ref xL, .ref xR, .ref xS, .ref xT])), (xC, .inr (0, [.ref xA, .int (nI cn)])), (xD, .inr (1, [.ref xB, .int (nI (szN cn)), .int (nI (iv (szN cn)))])), (xK, .inr (2, [.ref xW, .ref xX, .int (z_b md), .int (nI ta), .int (nI al), .int (nI be), .int (nI ga), .int (nI de), .int (nI va)])), (xQ, .inr (3, [.ref xE, .ref xF, .int (z_b pd)])), (xV, .inl (cI, 16, .inl (fun x9 => nI (v x9)))), (xI, .inl (cI, 7, .inl (fun x9 => nI (inp x9)))), (xL, .inl (cI, 16, .inl (fun x9 => nI (sL x9)))), (xR, .inl (cI, 16, .inl (fun x9 => nI (sR x9)))), (xS, .inl (cI, 16, .inl (fun x9 => nI (sS x9)))), (xT, .inl (cI, 16, .inl (fun x9 => nI (sT x9)))), (xA, .inl (cI, 816, .inl (fun x9 => nI (f x9)))), (xB, .inl (cI, 16, .inl (fun x9 => nI (bb x9)))), (xW, .inl (cI, 16, .inl (fun x9 => nI (w x9)))), (xX, .inl (cI, 16, .inl (fun x9 => nI (mx x9)))), (xE, .inl (cI, 3, .inl (fun x9 => nI (el x9)))), (xF, .inl (cI, 16, .inl (fun x9 => nI (qt x9))))] U ∧ zS U U.heap)) "java/lang/IllegalStateException" := by
  refine z_metT (cc := cM_verify) (maxL := 3) (ret := (.some .boolean)) (by decide) ?_
  intro p e s m args below meth c s₁ B hml hv
  obtain ⟨rfl, ⟨hP, hK⟩, hS⟩ := hv
  have F : CallFix p m c cM_verify 3 s _ zT RM := ⟨B.exec, B.bytes, hml, findClass_of_methodNamed B.named, fun w h => atoms_spec (ws := (zW yM_verify cM_verify 3 (.some .boolean))) B.pre w (List.mem_cons_of_mem _ h)⟩
  have hlocks := B.notSynchronized
  have hne := B.noHandlers (atoms_spec (ws := (zW yM_verify cM_verify 3 (.some .boolean))) B.pre _ List.mem_cons_self)
  have hl := lv_entry ([.ref x0]) (n := 3) (Nat.le_of_ble_eq_true rfl)
  rw [lg_entry_eq]
  generalize (lg_sl ([.ref x0]) ++ List.replicate (3 - (lg_sl ([.ref x0])).length) Slot.unset).toArray = ls at hl ⊢
  have hl : lv_has ls 3 [(0, .ref x0)] := hl
  refine lv_aload_n F.1 F.2.1 dM_verify_0 rfl (lv_at hl 0 rfl) ?_
  refine z_get F hK hP hinM 0 rfl rfl 2 (by decide) rfl wf_M_26 rfl dM_verify_1 ?_
  refine z_call (z_runV [] [] F (ck_isMade l dC dI cI cL _ 3 xK xW xX ta al be ga de va md rfl) kk_K_isMade wl_M_115 rfl rfl ⟨Nat.le_of_ble_eq_true rfl, Nat.le_of_ble_eq_true rfl⟩ (z_preVR (q := (RK, TK, 9)) hP hK rfl (q0 := 3) rfl) rfl hl.1 rfl (Nat.le_of_ble_eq_true rfl) dM_verify_4 ⟨Nat.zero_le _, Nat.zero_le _⟩) ?_
  refine z_ifb_eq F (tgt := 20) dM_verify_7 rfl (fun h1 => ?_) (fun h1 => ?_)
  · exact z_throw F hl9 hS hlocks hne zx_ISE (by decide +kernel) (by decide +kernel) wx_M_72 zt_ISE zn_ISE hl.1 dM_verify_20 dM_verify_23 dM_verify_24 dM_verify_27 (Nat.le_of_ble_eq_true rfl) (Nat.le_of_ble_eq_true rfl) (Nat.le_of_ble_eq_true rfl) (Nat.le_of_ble_eq_true rfl)
  · rw [h1, Bool.true_and] at hq
    refine lv_aload_n F.1 F.2.1 dM_verify_10 rfl (lv_at hl 0 rfl) ?_
    refine z_get F hK hP hinM 0 rfl rfl 3 (by decide) rfl wf_M_33 rfl dM_verify_11 ?_
    refine z_call (z_runV [] [] F (cq_isMade l dC dI cI cL _ 4 xQ xE xF pd rfl) kk_Q_isMade wl_M_176 rfl rfl ⟨Nat.le_of_ble_eq_true rfl, Nat.le_of_ble_eq_true rfl⟩ (z_preVR (q := (RQ, TQ, 3)) hP hK rfl (q0 := 4) rfl) rfl hl.1 rfl (Nat.le_of_ble_eq_true rfl) dM_verify_14 ⟨Nat.zero_le _, Nat.zero_le _⟩) ?_
    refine z_ifb_ne F (tgt := 28) dM_verify_17 rfl (fun h => by rw [hq] at h; cases h) (fun h => ?_)
    exact z_throw F hl9 hS hlocks hne zx_ISE (by decide +kernel) (by decide +kernel) wx_M_72 zt_ISE zn_ISE hl.1 dM_verify_20 dM_verify_23 dM_verify_24 dM_verify_27 (Nat.le_of_ble_eq_true rfl) (Nat.le_of_ble_eq_true rfl) (Nat.le_of_ble_eq_true rfl) (Nat.le_of_ble_eq_true rfl)
set_option maxHeartbeats 4000000 in
set_option maxRecDepth 100000 in
theorem cx_prove (l : Launch) (hl9 : l.stackTraces = false) (dC : Nat → ClassId) (dI : Nat → Nat → Nat) (cI cL : ClassId) (x0 xC xD xK xQ xV xI xL xR xS xT xA xB xW xX xE xF : Nat) (pb cn ta al be ga de va : Nat) (md pd : Bool) (v inp sL sR sS sT f bb w mx el qt : Nat → Nat) (x y : Int32) (hq : (bl x 998244353 && bl y 998244353) = false) : MetT l yM_prove (zW yM_prove cM_prove 3 (.some .boolean)) ({ frames := 6, cells := 1, slots := 6, locals := 81 }) (va_Pc [.ref x0, .int x, .int y] (fun U => z_R (dC, dI) vwCl [(cI, .int), (cL, .long)] [(x0, .inr (4, [.ref xC, .ref xD, .ref xK, .ref xQ, .ref xV, .ref xI, .int (nI pb), .ref xL, .ref xR, .ref xS, .ref xT])), (xC, .inr (0, [.ref xA, .int (nI cn)])), (xD, .inr (1, [.ref xB, .int (nI (szN cn)), .int (nI (iv (szN cn)))])), (xK, .inr (2, [.ref xW, .ref xX, .int (z_b md), .int (nI ta), .int (nI al), .int (nI be), .int (nI ga), .int (nI de), .int (nI va)])), (xQ, .inr (3, [.ref xE, .ref xF, .int (z_b pd)])), (xV, .inl (cI, 16, .inl (fun x9 => nI (v x9)))), (xI, .inl (cI, 7, .inl (fun x9 => nI (inp x9)))), (xL, .inl (cI, 16, .inl (fun x9 => nI (sL x9)))), (xR, .inl (cI, 16, .inl (fun x9 => nI (sR x9)))), (xS, .inl (cI, 16, .inl (fun x9 => nI (sS x9)))), (xT, .inl (cI, 16, .inl (fun x9 => nI (sT x9)))), (xA, .inl (cI, 816, .inl (fun x9 => nI (f x9)))), (xB, .inl (cI, 16, .inl (fun x9 => nI (bb x9)))), (xW, .inl (cI, 16, .inl (fun x9 => nI (w x9)))), (xX, .inl (cI, 16, .inl (fun x9 => nI (mx x9)))), (xE, .inl (cI, 3, .inl (fun x9 => nI (el x9)))), (xF, .inl (cI, 16, .inl (fun x9 => nI (qt x9))))] U ∧ zS U U.heap)) "java/lang/IllegalArgumentException" := by
  refine z_metT (cc := cM_prove) (maxL := 3) (ret := (.some .boolean)) (by decide) ?_
  intro p e s m args below meth c s₁ B hml hv
  obtain ⟨rfl, ⟨hP, hK⟩, hS⟩ := hv
  have F : CallFix p m c cM_prove 3 s _ zT RM := ⟨B.exec, B.bytes, hml, findClass_of_methodNamed B.named, fun w h => atoms_spec (ws := (zW yM_prove cM_prove 3 (.some .boolean))) B.pre w (List.mem_cons_of_mem _ h)⟩
  have hlocks := B.notSynchronized
  have hne := B.noHandlers (atoms_spec (ws := (zW yM_prove cM_prove 3 (.some .boolean))) B.pre _ List.mem_cons_self)
  have hl := lv_entry ([.ref x0, .int x, .int y]) (n := 3) (Nat.le_of_ble_eq_true rfl)
  rw [lg_entry_eq]
  generalize (lg_sl ([.ref x0, .int x, .int y]) ++ List.replicate (3 - (lg_sl ([.ref x0, .int x, .int y])).length) Slot.unset).toArray = ls at hl ⊢
  have hl : lv_has ls 3 [(0, .ref x0), (1, .int x), (2, .int y)] := hl
  refine lv_iload_n F.1 F.2.1 dM_prove_0 rfl (lv_at hl 1 rfl) ?_
  refine z_ldc F 998244353 (v0 := 998244353) wk_M_60 rfl dM_prove_1 ?_
  refine z_call (z_runS [.int x, .int (nI 998244353)] [] F (c_isBelow l x 998244353 (by decide)) kk_M_isBelow wl_M_56 rfl rfl ⟨Nat.le_of_ble_eq_true rfl, Nat.le_of_ble_eq_true rfl⟩ z_preN rfl hl.1 rfl (Nat.le_of_ble_eq_true rfl) dM_prove_3 ⟨Nat.zero_le _, Nat.zero_le _⟩) ?_
  refine z_ifb_eq F (tgt := 18) dM_prove_6 rfl (fun h1 => ?_) (fun h1 => ?_)
  · exact z_throw F hl9 hS hlocks hne zx_IAE (by decide +kernel) (by decide +kernel) wx_M_61 zt_IAE zn_IAE hl.1 dM_prove_18 dM_prove_21 dM_prove_22 dM_prove_25 (Nat.le_of_ble_eq_true rfl) (Nat.le_of_ble_eq_true rfl) (Nat.le_of_ble_eq_true rfl) (Nat.le_of_ble_eq_true rfl)
  · refine lv_iload_n F.1 F.2.1 dM_prove_9 rfl (lv_at hl 2 rfl) ?_
    refine z_ldc F 998244353 (v0 := 998244353) wk_M_60 rfl dM_prove_10 ?_
    refine z_call (z_runS [.int y, .int (nI 998244353)] [] F (c_isBelow l y 998244353 (by decide)) kk_M_isBelow wl_M_56 rfl rfl ⟨Nat.le_of_ble_eq_true rfl, Nat.le_of_ble_eq_true rfl⟩ z_preN rfl hl.1 rfl (Nat.le_of_ble_eq_true rfl) dM_prove_12 ⟨Nat.zero_le _, Nat.zero_le _⟩) ?_
    refine z_ifb_ne F (tgt := 26) dM_prove_15 rfl (fun h2 => ?_) (fun h2 => ?_)
    · rw [h1, h2] at hq
      cases hq
    · exact z_throw F hl9 hS hlocks hne zx_IAE (by decide +kernel) (by decide +kernel) wx_M_61 zt_IAE zn_IAE hl.1 dM_prove_18 dM_prove_21 dM_prove_22 dM_prove_25 (Nat.le_of_ble_eq_true rfl) (Nat.le_of_ble_eq_true rfl) (Nat.le_of_ble_eq_true rfl) (Nat.le_of_ble_eq_true rfl)
set_option maxHeartbeats 4000000 in
set_option maxRecDepth 100000 in
theorem cx_prove_nk (l : Launch) (hl9 : l.stackTraces = false) (dC : Nat → ClassId) (dI : Nat → Nat → Nat) (cI cL : ClassId) (x0 xC xD xK xQ xV xI xL xR xS xT xA xB xW xX xE xF : Nat) (pb cn ta al be ga de va : Nat) (md pd : Bool) (v inp sL sR sS sT f bb w mx el qt : Nat → Nat) (x y : Nat) (hx : x < 998244353) (hy : y < 998244353) (hmd : md = false) : MetT l yM_prove (zW yM_prove cM_prove 3 (.some .boolean)) ({ frames := 6, cells := 1, slots := 6, locals := 81 }) (va_Pc [.ref x0, .int (nI x), .int (nI y)] (fun U => z_R (dC, dI) vwCl [(cI, .int), (cL, .long)] [(x0, .inr (4, [.ref xC, .ref xD, .ref xK, .ref xQ, .ref xV, .ref xI, .int (nI pb), .ref xL, .ref xR, .ref xS, .ref xT])), (xC, .inr (0, [.ref xA, .int (nI cn)])), (xD, .inr (1, [.ref xB, .int (nI (szN cn)), .int (nI (iv (szN cn)))])), (xK, .inr (2, [.ref xW, .ref xX, .int (z_b md), .int (nI ta), .int (nI al), .int (nI be), .int (nI ga), .int (nI de), .int (nI va)])), (xQ, .inr (3, [.ref xE, .ref xF, .int (z_b pd)])), (xV, .inl (cI, 16, .inl (fun x9 => nI (v x9)))), (xI, .inl (cI, 7, .inl (fun x9 => nI (inp x9)))), (xL, .inl (cI, 16, .inl (fun x9 => nI (sL x9)))), (xR, .inl (cI, 16, .inl (fun x9 => nI (sR x9)))), (xS, .inl (cI, 16, .inl (fun x9 => nI (sS x9)))), (xT, .inl (cI, 16, .inl (fun x9 => nI (sT x9)))), (xA, .inl (cI, 816, .inl (fun x9 => nI (f x9)))), (xB, .inl (cI, 16, .inl (fun x9 => nI (bb x9)))), (xW, .inl (cI, 16, .inl (fun x9 => nI (w x9)))), (xX, .inl (cI, 16, .inl (fun x9 => nI (mx x9)))), (xE, .inl (cI, 3, .inl (fun x9 => nI (el x9)))), (xF, .inl (cI, 16, .inl (fun x9 => nI (qt x9))))] U ∧ zS U U.heap)) "java/lang/IllegalStateException" := by
  refine z_metT (cc := cM_prove) (maxL := 3) (ret := (.some .boolean)) (by decide) ?_
  intro p e s m args below meth c s₁ B hml hv
  obtain ⟨rfl, ⟨hP, hK⟩, hS⟩ := hv
  have F : CallFix p m c cM_prove 3 s _ zT RM := ⟨B.exec, B.bytes, hml, findClass_of_methodNamed B.named, fun w h => atoms_spec (ws := (zW yM_prove cM_prove 3 (.some .boolean))) B.pre w (List.mem_cons_of_mem _ h)⟩
  have hlocks := B.notSynchronized
  have hne := B.noHandlers (atoms_spec (ws := (zW yM_prove cM_prove 3 (.some .boolean))) B.pre _ List.mem_cons_self)
  have hl := lv_entry ([.ref x0, .int (nI x), .int (nI y)]) (n := 3) (Nat.le_of_ble_eq_true rfl)
  rw [lg_entry_eq]
  generalize (lg_sl ([.ref x0, .int (nI x), .int (nI y)]) ++ List.replicate (3 - (lg_sl ([.ref x0, .int (nI x), .int (nI y)])).length) Slot.unset).toArray = ls at hl ⊢
  have hl : lv_has ls 3 [(0, .ref x0), (1, .int (nI x)), (2, .int (nI y))] := hl
  refine lv_iload_n F.1 F.2.1 dM_prove_0 rfl (lv_at hl 1 rfl) ?_
  refine z_ldc F 998244353 (v0 := 998244353) wk_M_60 rfl dM_prove_1 ?_
  refine z_call (z_runS [.int (nI x), .int (nI 998244353)] [] F (c_isBelow_t l (x) 998244353 (by omega) (by decide)) kk_M_isBelow wl_M_56 rfl rfl ⟨Nat.le_of_ble_eq_true rfl, Nat.le_of_ble_eq_true rfl⟩ z_preN rfl hl.1 rfl (Nat.le_of_ble_eq_true rfl) dM_prove_3 ⟨Nat.zero_le _, Nat.zero_le _⟩) ?_
  refine z_if_eq F (by omega) (tgt := 18) dM_prove_6 rfl (fun h => absurd h (by decide)) (fun h => ?_)
  refine lv_iload_n F.1 F.2.1 dM_prove_9 rfl (lv_at hl 2 rfl) ?_
  refine z_ldc F 998244353 (v0 := 998244353) wk_M_60 rfl dM_prove_10 ?_
  refine z_call (z_runS [.int (nI y), .int (nI 998244353)] [] F (c_isBelow_t l (y) 998244353 (by omega) (by decide)) kk_M_isBelow wl_M_56 rfl rfl ⟨Nat.le_of_ble_eq_true rfl, Nat.le_of_ble_eq_true rfl⟩ z_preN rfl hl.1 rfl (Nat.le_of_ble_eq_true rfl) dM_prove_12 ⟨Nat.zero_le _, Nat.zero_le _⟩) ?_
  refine z_if_ne F (by omega) (tgt := 26) dM_prove_15 rfl (fun h => ?_) (fun h => absurd h (by decide))
  refine lv_aload_n F.1 F.2.1 dM_prove_26 rfl (lv_at hl 0 rfl) ?_
  refine z_get F hK hP hinM 0 rfl rfl 2 (by decide) rfl wf_M_26 rfl dM_prove_27 ?_
  refine z_call (z_runV [] [] F (ck_isMade l dC dI cI cL _ 3 xK xW xX ta al be ga de va md rfl) kk_K_isMade wl_M_115 rfl rfl ⟨Nat.le_of_ble_eq_true rfl, Nat.le_of_ble_eq_true rfl⟩ (z_preVR (q := (RK, TK, 9)) hP hK rfl (q0 := 3) rfl) rfl hl.1 rfl (Nat.le_of_ble_eq_true rfl) dM_prove_30 ⟨Nat.zero_le _, Nat.zero_le _⟩) ?_
  refine z_ifb_ne F (tgt := 44) dM_prove_33 rfl (fun h => by rw [hmd] at h; cases h) (fun h => ?_)
  exact z_throw F hl9 hS hlocks hne zx_ISE (by decide +kernel) (by decide +kernel) wx_M_72 zt_ISE zn_ISE hl.1 dM_prove_36 dM_prove_39 dM_prove_40 dM_prove_43 (Nat.le_of_ble_eq_true rfl) (Nat.le_of_ble_eq_true rfl) (Nat.le_of_ble_eq_true rfl) (Nat.le_of_ble_eq_true rfl)
set_option maxHeartbeats 4000000 in
set_option maxRecDepth 100000 in
theorem cx_prove_np (l : Launch) (hl9 : l.stackTraces = false) (dC : Nat → ClassId) (dI : Nat → Nat → Nat) (cI cL : ClassId) (x0 xC xD xK xQ xV xI xL xR xS xT xA xB xW xX xE xF : Nat) (pb cn ta al be ga de va : Nat) (md pd : Bool) (v inp sL sR sS sT f bb w mx el qt : Nat → Nat) (x y : Nat) (hx : x < 998244353) (hy : y < 998244353) (hmd : md = true) (hop : ¬ fo (bad f v) 0 cn = -1) (hn : cn ≤ 16) (hf : ∀ j, f j < 998244353) (hv : ∀ j, v j < 998244353) : MetT l yM_prove (zW yM_prove cM_prove 3 (.some .boolean)) ({ frames := 6, cells := 1, slots := 6, locals := 81 }) (va_Pc [.ref x0, .int (nI x), .int (nI y)] (fun U => z_R (dC, dI) vwCl [(cI, .int), (cL, .long)] [(x0, .inr (4, [.ref xC, .ref xD, .ref xK, .ref xQ, .ref xV, .ref xI, .int (nI pb), .ref xL, .ref xR, .ref xS, .ref xT])), (xC, .inr (0, [.ref xA, .int (nI cn)])), (xD, .inr (1, [.ref xB, .int (nI (szN cn)), .int (nI (iv (szN cn)))])), (xK, .inr (2, [.ref xW, .ref xX, .int (z_b md), .int (nI ta), .int (nI al), .int (nI be), .int (nI ga), .int (nI de), .int (nI va)])), (xQ, .inr (3, [.ref xE, .ref xF, .int (z_b pd)])), (xV, .inl (cI, 16, .inl (fun x9 => nI (v x9)))), (xI, .inl (cI, 7, .inl (fun x9 => nI (inp x9)))), (xL, .inl (cI, 16, .inl (fun x9 => nI (sL x9)))), (xR, .inl (cI, 16, .inl (fun x9 => nI (sR x9)))), (xS, .inl (cI, 16, .inl (fun x9 => nI (sS x9)))), (xT, .inl (cI, 16, .inl (fun x9 => nI (sT x9)))), (xA, .inl (cI, 816, .inl (fun x9 => nI (f x9)))), (xB, .inl (cI, 16, .inl (fun x9 => nI (bb x9)))), (xW, .inl (cI, 16, .inl (fun x9 => nI (w x9)))), (xX, .inl (cI, 16, .inl (fun x9 => nI (mx x9)))), (xE, .inl (cI, 3, .inl (fun x9 => nI (el x9)))), (xF, .inl (cI, 16, .inl (fun x9 => nI (qt x9))))] U ∧ zS U U.heap)) "java/lang/ArithmeticException" := by
  refine z_metT (cc := cM_prove) (maxL := 3) (ret := (.some .boolean)) (by decide) ?_
  intro p e s m args below meth c s₁ B hml hv
  obtain ⟨rfl, ⟨hP, hK⟩, hS⟩ := hv
  have F : CallFix p m c cM_prove 3 s _ zT RM := ⟨B.exec, B.bytes, hml, findClass_of_methodNamed B.named, fun w h => atoms_spec (ws := (zW yM_prove cM_prove 3 (.some .boolean))) B.pre w (List.mem_cons_of_mem _ h)⟩
  have hlocks := B.notSynchronized
  have hne := B.noHandlers (atoms_spec (ws := (zW yM_prove cM_prove 3 (.some .boolean))) B.pre _ List.mem_cons_self)
  have hl := lv_entry ([.ref x0, .int (nI x), .int (nI y)]) (n := 3) (Nat.le_of_ble_eq_true rfl)
  rw [lg_entry_eq]
  generalize (lg_sl ([.ref x0, .int (nI x), .int (nI y)]) ++ List.replicate (3 - (lg_sl ([.ref x0, .int (nI x), .int (nI y)])).length) Slot.unset).toArray = ls at hl ⊢
  have hl : lv_has ls 3 [(0, .ref x0), (1, .int (nI x)), (2, .int (nI y))] := hl
  refine lv_iload_n F.1 F.2.1 dM_prove_0 rfl (lv_at hl 1 rfl) ?_
  refine z_ldc F 998244353 (v0 := 998244353) wk_M_60 rfl dM_prove_1 ?_
  refine z_call (z_runS [.int (nI x), .int (nI 998244353)] [] F (c_isBelow_t l (x) 998244353 (by omega) (by decide)) kk_M_isBelow wl_M_56 rfl rfl ⟨Nat.le_of_ble_eq_true rfl, Nat.le_of_ble_eq_true rfl⟩ z_preN rfl hl.1 rfl (Nat.le_of_ble_eq_true rfl) dM_prove_3 ⟨Nat.zero_le _, Nat.zero_le _⟩) ?_
  refine z_if_eq F (by omega) (tgt := 18) dM_prove_6 rfl (fun h => absurd h (by decide)) (fun h => ?_)
  refine lv_iload_n F.1 F.2.1 dM_prove_9 rfl (lv_at hl 2 rfl) ?_
  refine z_ldc F 998244353 (v0 := 998244353) wk_M_60 rfl dM_prove_10 ?_
  refine z_call (z_runS [.int (nI y), .int (nI 998244353)] [] F (c_isBelow_t l (y) 998244353 (by omega) (by decide)) kk_M_isBelow wl_M_56 rfl rfl ⟨Nat.le_of_ble_eq_true rfl, Nat.le_of_ble_eq_true rfl⟩ z_preN rfl hl.1 rfl (Nat.le_of_ble_eq_true rfl) dM_prove_12 ⟨Nat.zero_le _, Nat.zero_le _⟩) ?_
  refine z_if_ne F (by omega) (tgt := 26) dM_prove_15 rfl (fun h => ?_) (fun h => absurd h (by decide))
  refine lv_aload_n F.1 F.2.1 dM_prove_26 rfl (lv_at hl 0 rfl) ?_
  refine z_get F hK hP hinM 0 rfl rfl 2 (by decide) rfl wf_M_26 rfl dM_prove_27 ?_
  refine z_call (z_runV [] [] F (ck_isMade l dC dI cI cL _ 3 xK xW xX ta al be ga de va md rfl) kk_K_isMade wl_M_115 rfl rfl ⟨Nat.le_of_ble_eq_true rfl, Nat.le_of_ble_eq_true rfl⟩ (z_preVR (q := (RK, TK, 9)) hP hK rfl (q0 := 3) rfl) rfl hl.1 rfl (Nat.le_of_ble_eq_true rfl) dM_prove_30 ⟨Nat.zero_le _, Nat.zero_le _⟩) ?_
  refine z_ifb_ne F (tgt := 44) dM_prove_33 rfl (fun h => ?_) (fun h => by rw [hmd] at h; cases h)
  refine lv_aload_n F.1 F.2.1 dM_prove_44 rfl (lv_at hl 0 rfl) ?_
  refine z_get F hK hP hinM 0 rfl rfl 0 (by decide) rfl wf_M_10 rfl dM_prove_45 ?_
  refine lv_aload_n F.1 F.2.1 dM_prove_48 rfl (lv_at hl 0 rfl) ?_
  refine z_get F hK hP hinM 0 rfl rfl 4 (by decide) rfl wf_M_37 rfl dM_prove_49 ?_
  refine z_call (z_runV [.ref xV] [] F (c_firstOpen l dC dI cI cL _ 1 11 5 xC xA xV cn f v rfl rfl rfl hf hv hn) kk_C_firstOpen wl_M_89 rfl rfl ⟨Nat.le_of_ble_eq_true rfl, Nat.le_of_ble_eq_true rfl⟩ (z_preVR (q := (RC, TC, 2)) hP hK rfl (q0 := 1) rfl) rfl hl.1 rfl (Nat.le_of_ble_eq_true rfl) dM_prove_52 ⟨Nat.zero_le _, Nat.zero_le _⟩) ?_
  refine lv_iconst (v := -1) F.1 F.2.1 dM_prove_55 (by decide) ?_
  refine lv_icmp_eq F.1 F.2.1 (tgt := 67) dM_prove_56 rfl (fun h => absurd h hop) (fun h => ?_)
  exact z_throw F hl9 hS hlocks hne zx_AE (by decide +kernel) (by decide +kernel) wx_M_101 zt_AE zn_AE hl.1 dM_prove_59 dM_prove_62 dM_prove_63 dM_prove_66 (Nat.le_of_ble_eq_true rfl) (Nat.le_of_ble_eq_true rfl) (Nat.le_of_ble_eq_true rfl) (Nat.le_of_ble_eq_true rfl)
set_option maxHeartbeats 4000000 in
set_option maxRecDepth 100000 in
theorem cx_setup (l : Launch) (hl9 : l.stackTraces = false) (dC : Nat → ClassId) (dI : Nat → Nat → Nat) (cI cL : ClassId) (x0 xC xD xK xQ xV xI xL xR xS xT xA xB xW xX xE xF : Nat) (pb cn ta al be ga de va : Nat) (md pd : Bool) (v inp sL sR sS sT f bb w mx el qt : Nat → Nat) (x1 x2 x3 x4 x5 : Int32) (hq : (un x1 && (un x2 && (un x3 && (un x4 && un x5)))) = false) : MetT l yM_setup (zW yM_setup cM_setup 6 (.some .int)) ({ frames := 6, cells := 1, slots := 6, locals := 81 }) (va_Pc [.ref x0, .int x1, .int x2, .int x3, .int x4, .int x5] (fun U => z_R (dC, dI) vwCl [(cI, .int), (cL, .long)] [(x0, .inr (4, [.ref xC, .ref xD, .ref xK, .ref xQ, .ref xV, .ref xI, .int (nI pb), .ref xL, .ref xR, .ref xS, .ref xT])), (xC, .inr (0, [.ref xA, .int (nI cn)])), (xD, .inr (1, [.ref xB, .int (nI (szN cn)), .int (nI (iv (szN cn)))])), (xK, .inr (2, [.ref xW, .ref xX, .int (z_b md), .int (nI ta), .int (nI al), .int (nI be), .int (nI ga), .int (nI de), .int (nI va)])), (xQ, .inr (3, [.ref xE, .ref xF, .int (z_b pd)])), (xV, .inl (cI, 16, .inl (fun x9 => nI (v x9)))), (xI, .inl (cI, 7, .inl (fun x9 => nI (inp x9)))), (xL, .inl (cI, 16, .inl (fun x9 => nI (sL x9)))), (xR, .inl (cI, 16, .inl (fun x9 => nI (sR x9)))), (xS, .inl (cI, 16, .inl (fun x9 => nI (sS x9)))), (xT, .inl (cI, 16, .inl (fun x9 => nI (sT x9)))), (xA, .inl (cI, 816, .inl (fun x9 => nI (f x9)))), (xB, .inl (cI, 16, .inl (fun x9 => nI (bb x9)))), (xW, .inl (cI, 16, .inl (fun x9 => nI (w x9)))), (xX, .inl (cI, 16, .inl (fun x9 => nI (mx x9)))), (xE, .inl (cI, 3, .inl (fun x9 => nI (el x9)))), (xF, .inl (cI, 16, .inl (fun x9 => nI (qt x9))))] U ∧ zS U U.heap)) "java/lang/IllegalArgumentException" := by
  refine z_metT (cc := cM_setup) (maxL := 6) (ret := (.some .int)) (by decide) ?_
  intro p e s m args below meth c s₁ B hml hv
  obtain ⟨rfl, ⟨hP, hK⟩, hS⟩ := hv
  have F : CallFix p m c cM_setup 6 s _ zT RM := ⟨B.exec, B.bytes, hml, findClass_of_methodNamed B.named, fun w h => atoms_spec (ws := (zW yM_setup cM_setup 6 (.some .int))) B.pre w (List.mem_cons_of_mem _ h)⟩
  have hlocks := B.notSynchronized
  have hne := B.noHandlers (atoms_spec (ws := (zW yM_setup cM_setup 6 (.some .int))) B.pre _ List.mem_cons_self)
  have hl := lv_entry ([.ref x0, .int x1, .int x2, .int x3, .int x4, .int x5]) (n := 6) (Nat.le_of_ble_eq_true rfl)
  rw [lg_entry_eq]
  generalize (lg_sl ([.ref x0, .int x1, .int x2, .int x3, .int x4, .int x5]) ++ List.replicate (6 - (lg_sl ([.ref x0, .int x1, .int x2, .int x3, .int x4, .int x5])).length) Slot.unset).toArray = ls at hl ⊢
  have hl : lv_has ls 6 [(0, .ref x0), (1, .int x1), (2, .int x2), (3, .int x3), (4, .int x4), (5, .int x5)] := hl
  refine lv_iload_n F.1 F.2.1 dM_setup_0 rfl (lv_at hl 1 rfl) ?_
  refine z_call (z_runS [.int x1] [] F (c_isUnit l x1) kk_M_isUnit wl_M_93 rfl rfl ⟨Nat.le_of_ble_eq_true rfl, Nat.le_of_ble_eq_true rfl⟩ z_preN rfl hl.1 rfl (Nat.le_of_ble_eq_true rfl) dM_setup_1 ⟨Nat.zero_le _, Nat.zero_le _⟩) ?_
  refine z_ifb_eq F (tgt := 37) dM_setup_4 rfl (fun h1 => ?_) (fun h1 => ?_)
  · exact z_throw F hl9 hS hlocks hne zx_IAE (by decide +kernel) (by decide +kernel) wx_M_61 zt_IAE zn_IAE hl.1 dM_setup_37 dM_setup_40 dM_setup_41 dM_setup_44 (Nat.le_of_ble_eq_true rfl) (Nat.le_of_ble_eq_true rfl) (Nat.le_of_ble_eq_true rfl) (Nat.le_of_ble_eq_true rfl)
  · refine lv_iload_n F.1 F.2.1 dM_setup_7 rfl (lv_at hl 2 rfl) ?_
    refine z_call (z_runS [.int x2] [] F (c_isUnit l x2) kk_M_isUnit wl_M_93 rfl rfl ⟨Nat.le_of_ble_eq_true rfl, Nat.le_of_ble_eq_true rfl⟩ z_preN rfl hl.1 rfl (Nat.le_of_ble_eq_true rfl) dM_setup_8 ⟨Nat.zero_le _, Nat.zero_le _⟩) ?_
    refine z_ifb_eq F (tgt := 37) dM_setup_11 rfl (fun h2 => ?_) (fun h2 => ?_)
    · exact z_throw F hl9 hS hlocks hne zx_IAE (by decide +kernel) (by decide +kernel) wx_M_61 zt_IAE zn_IAE hl.1 dM_setup_37 dM_setup_40 dM_setup_41 dM_setup_44 (Nat.le_of_ble_eq_true rfl) (Nat.le_of_ble_eq_true rfl) (Nat.le_of_ble_eq_true rfl) (Nat.le_of_ble_eq_true rfl)
    · refine lv_iload_n F.1 F.2.1 dM_setup_14 rfl (lv_at hl 3 rfl) ?_
      refine z_call (z_runS [.int x3] [] F (c_isUnit l x3) kk_M_isUnit wl_M_93 rfl rfl ⟨Nat.le_of_ble_eq_true rfl, Nat.le_of_ble_eq_true rfl⟩ z_preN rfl hl.1 rfl (Nat.le_of_ble_eq_true rfl) dM_setup_15 ⟨Nat.zero_le _, Nat.zero_le _⟩) ?_
      refine z_ifb_eq F (tgt := 37) dM_setup_18 rfl (fun h3 => ?_) (fun h3 => ?_)
      · exact z_throw F hl9 hS hlocks hne zx_IAE (by decide +kernel) (by decide +kernel) wx_M_61 zt_IAE zn_IAE hl.1 dM_setup_37 dM_setup_40 dM_setup_41 dM_setup_44 (Nat.le_of_ble_eq_true rfl) (Nat.le_of_ble_eq_true rfl) (Nat.le_of_ble_eq_true rfl) (Nat.le_of_ble_eq_true rfl)
      · refine lv_iload F.1 F.2.1 dM_setup_21 (lv_at hl 4 rfl) ?_
        refine z_call (z_runS [.int x4] [] F (c_isUnit l x4) kk_M_isUnit wl_M_93 rfl rfl ⟨Nat.le_of_ble_eq_true rfl, Nat.le_of_ble_eq_true rfl⟩ z_preN rfl hl.1 rfl (Nat.le_of_ble_eq_true rfl) dM_setup_23 ⟨Nat.zero_le _, Nat.zero_le _⟩) ?_
        refine z_ifb_eq F (tgt := 37) dM_setup_26 rfl (fun h4 => ?_) (fun h4 => ?_)
        · exact z_throw F hl9 hS hlocks hne zx_IAE (by decide +kernel) (by decide +kernel) wx_M_61 zt_IAE zn_IAE hl.1 dM_setup_37 dM_setup_40 dM_setup_41 dM_setup_44 (Nat.le_of_ble_eq_true rfl) (Nat.le_of_ble_eq_true rfl) (Nat.le_of_ble_eq_true rfl) (Nat.le_of_ble_eq_true rfl)
        · refine lv_iload F.1 F.2.1 dM_setup_29 (lv_at hl 5 rfl) ?_
          refine z_call (z_runS [.int x5] [] F (c_isUnit l x5) kk_M_isUnit wl_M_93 rfl rfl ⟨Nat.le_of_ble_eq_true rfl, Nat.le_of_ble_eq_true rfl⟩ z_preN rfl hl.1 rfl (Nat.le_of_ble_eq_true rfl) dM_setup_31 ⟨Nat.zero_le _, Nat.zero_le _⟩) ?_
          refine z_ifb_ne F (tgt := 45) dM_setup_34 rfl (fun h5 => ?_) (fun h5 => ?_)
          · rw [h1, h2, h3, h4, h5] at hq
            cases hq
          · exact z_throw F hl9 hS hlocks hne zx_IAE (by decide +kernel) (by decide +kernel) wx_M_61 zt_IAE zn_IAE hl.1 dM_setup_37 dM_setup_40 dM_setup_41 dM_setup_44 (Nat.le_of_ble_eq_true rfl) (Nat.le_of_ble_eq_true rfl) (Nat.le_of_ble_eq_true rfl) (Nat.le_of_ble_eq_true rfl)
set_option maxHeartbeats 4000000 in
set_option maxRecDepth 100000 in
theorem cx_setup_nv (l : Launch) (hl9 : l.stackTraces = false) (dC : Nat → ClassId) (dI : Nat → Nat → Nat) (cI cL : ClassId) (x0 xC xD xK xQ xV xI xL xR xS xT xA xB xW xX xE xF : Nat) (pb cn ta al be ga de va : Nat) (md pd : Bool) (v inp sL sR sS sT f bb w mx el qt : Nat → Nat) (t2 a2 b2 g2 d2 : Nat) (pt2 : 0 < t2) (ht2 : t2 < 998244353) (pa2 : 0 < a2) (ha2 : a2 < 998244353) (pb2 : 0 < b2) (hb2 : b2 < 998244353) (pg2 : 0 < g2) (hg2 : g2 < 998244353) (pd2 : 0 < d2) (hd2 : d2 < 998244353) (hv : van t2 (szN cn) = 0) : MetT l yM_setup (zW yM_setup cM_setup 6 (.some .int)) ({ frames := 6, cells := 1, slots := 6, locals := 81 }) (va_Pc [.ref x0, .int (nI t2), .int (nI a2), .int (nI b2), .int (nI g2), .int (nI d2)] (fun U => z_R (dC, dI) vwCl [(cI, .int), (cL, .long)] [(x0, .inr (4, [.ref xC, .ref xD, .ref xK, .ref xQ, .ref xV, .ref xI, .int (nI pb), .ref xL, .ref xR, .ref xS, .ref xT])), (xC, .inr (0, [.ref xA, .int (nI cn)])), (xD, .inr (1, [.ref xB, .int (nI (szN cn)), .int (nI (iv (szN cn)))])), (xK, .inr (2, [.ref xW, .ref xX, .int (z_b md), .int (nI ta), .int (nI al), .int (nI be), .int (nI ga), .int (nI de), .int (nI va)])), (xQ, .inr (3, [.ref xE, .ref xF, .int (z_b pd)])), (xV, .inl (cI, 16, .inl (fun x9 => nI (v x9)))), (xI, .inl (cI, 7, .inl (fun x9 => nI (inp x9)))), (xL, .inl (cI, 16, .inl (fun x9 => nI (sL x9)))), (xR, .inl (cI, 16, .inl (fun x9 => nI (sR x9)))), (xS, .inl (cI, 16, .inl (fun x9 => nI (sS x9)))), (xT, .inl (cI, 16, .inl (fun x9 => nI (sT x9)))), (xA, .inl (cI, 816, .inl (fun x9 => nI (f x9)))), (xB, .inl (cI, 16, .inl (fun x9 => nI (bb x9)))), (xW, .inl (cI, 16, .inl (fun x9 => nI (w x9)))), (xX, .inl (cI, 16, .inl (fun x9 => nI (mx x9)))), (xE, .inl (cI, 3, .inl (fun x9 => nI (el x9)))), (xF, .inl (cI, 16, .inl (fun x9 => nI (qt x9))))] U ∧ zS U U.heap)) "java/lang/ArithmeticException" := by
  refine z_metT (cc := cM_setup) (maxL := 6) (ret := (.some .int)) (by decide) ?_
  intro p e s m args below meth c s₁ B hml hv
  obtain ⟨rfl, ⟨hP, hK⟩, hS⟩ := hv
  have F : CallFix p m c cM_setup 6 s _ zT RM := ⟨B.exec, B.bytes, hml, findClass_of_methodNamed B.named, fun w h => atoms_spec (ws := (zW yM_setup cM_setup 6 (.some .int))) B.pre w (List.mem_cons_of_mem _ h)⟩
  have hlocks := B.notSynchronized
  have hne := B.noHandlers (atoms_spec (ws := (zW yM_setup cM_setup 6 (.some .int))) B.pre _ List.mem_cons_self)
  have hl := lv_entry ([.ref x0, .int (nI t2), .int (nI a2), .int (nI b2), .int (nI g2), .int (nI d2)]) (n := 6) (Nat.le_of_ble_eq_true rfl)
  rw [lg_entry_eq]
  generalize (lg_sl ([.ref x0, .int (nI t2), .int (nI a2), .int (nI b2), .int (nI g2), .int (nI d2)]) ++ List.replicate (6 - (lg_sl ([.ref x0, .int (nI t2), .int (nI a2), .int (nI b2), .int (nI g2), .int (nI d2)])).length) Slot.unset).toArray = ls at hl ⊢
  have hl : lv_has ls 6 [(0, .ref x0), (1, .int (nI t2)), (2, .int (nI a2)), (3, .int (nI b2)), (4, .int (nI g2)), (5, .int (nI d2))] := hl
  have hlo := szN_lo cn
  have hhi := szN_hi cn
  refine lv_iload_n F.1 F.2.1 dM_setup_0 rfl (lv_at hl 1 rfl) ?_
  refine z_call (z_runS [.int (nI t2)] [] F (c_isUnit_t l t2 pt2 ht2) kk_M_isUnit wl_M_93 rfl rfl ⟨Nat.le_of_ble_eq_true rfl, Nat.le_of_ble_eq_true rfl⟩ z_preN rfl hl.1 rfl (Nat.le_of_ble_eq_true rfl) dM_setup_1 ⟨Nat.zero_le _, Nat.zero_le _⟩) ?_
  refine z_if_eq F (by omega) (tgt := 37) dM_setup_4 rfl (fun h => absurd h (by decide)) (fun h => ?_)
  refine lv_iload_n F.1 F.2.1 dM_setup_7 rfl (lv_at hl 2 rfl) ?_
  refine z_call (z_runS [.int (nI a2)] [] F (c_isUnit_t l a2 pa2 ha2) kk_M_isUnit wl_M_93 rfl rfl ⟨Nat.le_of_ble_eq_true rfl, Nat.le_of_ble_eq_true rfl⟩ z_preN rfl hl.1 rfl (Nat.le_of_ble_eq_true rfl) dM_setup_8 ⟨Nat.zero_le _, Nat.zero_le _⟩) ?_
  refine z_if_eq F (by omega) (tgt := 37) dM_setup_11 rfl (fun h => absurd h (by decide)) (fun h => ?_)
  refine lv_iload_n F.1 F.2.1 dM_setup_14 rfl (lv_at hl 3 rfl) ?_
  refine z_call (z_runS [.int (nI b2)] [] F (c_isUnit_t l b2 pb2 hb2) kk_M_isUnit wl_M_93 rfl rfl ⟨Nat.le_of_ble_eq_true rfl, Nat.le_of_ble_eq_true rfl⟩ z_preN rfl hl.1 rfl (Nat.le_of_ble_eq_true rfl) dM_setup_15 ⟨Nat.zero_le _, Nat.zero_le _⟩) ?_
  refine z_if_eq F (by omega) (tgt := 37) dM_setup_18 rfl (fun h => absurd h (by decide)) (fun h => ?_)
  refine lv_iload F.1 F.2.1 dM_setup_21 (lv_at hl 4 rfl) ?_
  refine z_call (z_runS [.int (nI g2)] [] F (c_isUnit_t l g2 pg2 hg2) kk_M_isUnit wl_M_93 rfl rfl ⟨Nat.le_of_ble_eq_true rfl, Nat.le_of_ble_eq_true rfl⟩ z_preN rfl hl.1 rfl (Nat.le_of_ble_eq_true rfl) dM_setup_23 ⟨Nat.zero_le _, Nat.zero_le _⟩) ?_
  refine z_if_eq F (by omega) (tgt := 37) dM_setup_26 rfl (fun h => absurd h (by decide)) (fun h => ?_)
  refine lv_iload F.1 F.2.1 dM_setup_29 (lv_at hl 5 rfl) ?_
  refine z_call (z_runS [.int (nI d2)] [] F (c_isUnit_t l d2 pd2 hd2) kk_M_isUnit wl_M_93 rfl rfl ⟨Nat.le_of_ble_eq_true rfl, Nat.le_of_ble_eq_true rfl⟩ z_preN rfl hl.1 rfl (Nat.le_of_ble_eq_true rfl) dM_setup_31 ⟨Nat.zero_le _, Nat.zero_le _⟩) ?_
  refine z_if_ne F (by omega) (tgt := 45) dM_setup_34 rfl (fun h => ?_) (fun h => absurd h (by decide))
  refine lv_aload_n F.1 F.2.1 dM_setup_45 rfl (lv_at hl 0 rfl) ?_
  refine z_get F hK hP hinM 0 rfl rfl 1 (by decide) rfl wf_M_19 rfl dM_setup_46 ?_
  refine lv_iload_n F.1 F.2.1 dM_setup_49 rfl (lv_at hl 1 rfl) ?_
  refine z_call (z_runV [.int (nI t2)] [] F (c_vanishingAt l dC dI cI cL _ 2 xD xB (szN cn) (iv (szN cn)) t2 rfl (by omega) (Nat.lt_trans (ht2) (by decide))) kk_D_vanishingAt wl_M_97 rfl rfl ⟨Nat.le_of_ble_eq_true rfl, Nat.le_of_ble_eq_true rfl⟩ (z_preVR (q := (RD, TD, 3)) hP hK rfl (q0 := 2) rfl) rfl hl.1 rfl (Nat.le_of_ble_eq_true rfl) dM_setup_50 ⟨Nat.zero_le _, Nat.zero_le _⟩) ?_
  refine z_if_ne F (Nat.lt_trans (van_lt _ _) (by decide)) (tgt := 64) dM_setup_53 rfl (fun h => absurd hv h) (fun h => ?_)
  exact z_throw F hl9 hS hlocks hne zx_AE (by decide +kernel) (by decide +kernel) wx_M_101 zt_AE zn_AE hl.1 dM_setup_56 dM_setup_59 dM_setup_60 dM_setup_63 (Nat.le_of_ble_eq_true rfl) (Nat.le_of_ble_eq_true rfl) (Nat.le_of_ble_eq_true rfl) (Nat.le_of_ble_eq_true rfl)
