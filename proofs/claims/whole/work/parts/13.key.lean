set_option maxHeartbeats 4000000 in
set_option maxRecDepth 100000 in
theorem ck_isMade (l : Launch) (dC : Nat → ClassId) (dI : Nat → Nat → Nat) (cI cL : ClassId) (ws : va_W) (q1 : Nat) (h0 hW hX ta al be ga de va : Nat) (md : Bool) (e1 : ws[q1]? = some (h0, .inr (2, [.ref hW, .ref hX, .int (z_b md), .int (nI ta), .int (nI al), .int (nI be), .int (nI ga), .int (nI de), .int (nI va)])))  : Met l yK_isMade (zW yK_isMade cK_isMade 1 (.some .boolean)) ({ frames := 0, cells := 0, slots := 0, locals := 0 }) (va_Pc [.ref h0] (z_R (dC, dI) vwCl [(cI, .int), (cL, .long)] ws)) (k2_QcV (.int (z_b md))) 0 0 (fun _ => False) := by
  refine Met.ofW (cc := cK_isMade) (maxL := 1) (ret := (.some .boolean)) (by decide) rfl ?_
  intro p e s m args below meth c s₁ B hml hv
  obtain ⟨rfl, hP, hK⟩ := hv
  have F : CallFix p m c cK_isMade 1 s _ zT RK := ⟨B.exec, B.bytes, hml, findClass_of_methodNamed B.named, fun w h => atoms_spec (ws := (zW yK_isMade cK_isMade 1 (.some .boolean))) B.pre w (List.mem_cons_of_mem _ h)⟩
  have hr := B.returns
  have hlocks := B.notSynchronized
  have hl := lv_entry ([.ref h0]) (n := 1) (Nat.le_of_ble_eq_true rfl)
  rw [lg_entry_eq]
  generalize (lg_sl ([.ref h0]) ++ List.replicate (1 - (lg_sl ([.ref h0])).length) Slot.unset).toArray = ls at hl ⊢
  have hl : lv_has ls 1 [(0, .ref h0)] := hl
  refine lv_aload_n F.1 F.2.1 dK_isMade_0 rfl (lv_at hl 0 rfl) ?_
  refine z_get F hK hP hinK q1 e1 rfl 2 (by decide) rfl wf_K_18 rfl dK_isMade_1 ?_
  exact W.zret F.1 F.2.1 hr (by cases md <;> rfl) (fun t ht hW => ⟨rfl, ht⟩) (fun _ h => by cases h) dK_isMade_4
set_option maxHeartbeats 4000000 in
set_option maxRecDepth 100000 in
theorem ck_tau (l : Launch) (dC : Nat → ClassId) (dI : Nat → Nat → Nat) (cI cL : ClassId) (ws : va_W) (q1 : Nat) (h0 hW hX ta al be ga de va : Nat) (md : Bool) (e1 : ws[q1]? = some (h0, .inr (2, [.ref hW, .ref hX, .int (z_b md), .int (nI ta), .int (nI al), .int (nI be), .int (nI ga), .int (nI de), .int (nI va)])))  : Met l yK_tau (zW yK_tau cK_tau 1 (.some .int)) ({ frames := 0, cells := 0, slots := 0, locals := 0 }) (va_Pc [.ref h0] (z_R (dC, dI) vwCl [(cI, .int), (cL, .long)] ws)) (k2_QcV (.int (nI ta))) 0 0 (fun _ => False) := by
  refine Met.ofW (cc := cK_tau) (maxL := 1) (ret := (.some .int)) (by decide) rfl ?_
  intro p e s m args below meth c s₁ B hml hv
  obtain ⟨rfl, hP, hK⟩ := hv
  have F : CallFix p m c cK_tau 1 s _ zT RK := ⟨B.exec, B.bytes, hml, findClass_of_methodNamed B.named, fun w h => atoms_spec (ws := (zW yK_tau cK_tau 1 (.some .int))) B.pre w (List.mem_cons_of_mem _ h)⟩
  have hr := B.returns
  have hlocks := B.notSynchronized
  have hl := lv_entry ([.ref h0]) (n := 1) (Nat.le_of_ble_eq_true rfl)
  rw [lg_entry_eq]
  generalize (lg_sl ([.ref h0]) ++ List.replicate (1 - (lg_sl ([.ref h0])).length) Slot.unset).toArray = ls at hl ⊢
  have hl : lv_has ls 1 [(0, .ref h0)] := hl
  refine lv_aload_n F.1 F.2.1 dK_tau_0 rfl (lv_at hl 0 rfl) ?_
  refine z_get F hK hP hinK q1 e1 rfl 3 (by decide) rfl wf_K_22 rfl dK_tau_1 ?_
  exact W.iret F.1 F.2.1 hr (fun t ht hW => ⟨rfl, ht⟩) (fun _ h => by cases h) dK_tau_4
set_option maxHeartbeats 4000000 in
set_option maxRecDepth 100000 in
theorem ck_alpha (l : Launch) (dC : Nat → ClassId) (dI : Nat → Nat → Nat) (cI cL : ClassId) (ws : va_W) (q1 : Nat) (h0 hW hX ta al be ga de va : Nat) (md : Bool) (e1 : ws[q1]? = some (h0, .inr (2, [.ref hW, .ref hX, .int (z_b md), .int (nI ta), .int (nI al), .int (nI be), .int (nI ga), .int (nI de), .int (nI va)])))  : Met l yK_alpha (zW yK_alpha cK_alpha 1 (.some .int)) ({ frames := 0, cells := 0, slots := 0, locals := 0 }) (va_Pc [.ref h0] (z_R (dC, dI) vwCl [(cI, .int), (cL, .long)] ws)) (k2_QcV (.int (nI al))) 0 0 (fun _ => False) := by
  refine Met.ofW (cc := cK_alpha) (maxL := 1) (ret := (.some .int)) (by decide) rfl ?_
  intro p e s m args below meth c s₁ B hml hv
  obtain ⟨rfl, hP, hK⟩ := hv
  have F : CallFix p m c cK_alpha 1 s _ zT RK := ⟨B.exec, B.bytes, hml, findClass_of_methodNamed B.named, fun w h => atoms_spec (ws := (zW yK_alpha cK_alpha 1 (.some .int))) B.pre w (List.mem_cons_of_mem _ h)⟩
  have hr := B.returns
  have hlocks := B.notSynchronized
  have hl := lv_entry ([.ref h0]) (n := 1) (Nat.le_of_ble_eq_true rfl)
  rw [lg_entry_eq]
  generalize (lg_sl ([.ref h0]) ++ List.replicate (1 - (lg_sl ([.ref h0])).length) Slot.unset).toArray = ls at hl ⊢
  have hl : lv_has ls 1 [(0, .ref h0)] := hl
  refine lv_aload_n F.1 F.2.1 dK_alpha_0 rfl (lv_at hl 0 rfl) ?_
  refine z_get F hK hP hinK q1 e1 rfl 4 (by decide) rfl wf_K_26 rfl dK_alpha_1 ?_
  exact W.iret F.1 F.2.1 hr (fun t ht hW => ⟨rfl, ht⟩) (fun _ h => by cases h) dK_alpha_4
set_option maxHeartbeats 4000000 in
set_option maxRecDepth 100000 in
theorem ck_beta (l : Launch) (dC : Nat → ClassId) (dI : Nat → Nat → Nat) (cI cL : ClassId) (ws : va_W) (q1 : Nat) (h0 hW hX ta al be ga de va : Nat) (md : Bool) (e1 : ws[q1]? = some (h0, .inr (2, [.ref hW, .ref hX, .int (z_b md), .int (nI ta), .int (nI al), .int (nI be), .int (nI ga), .int (nI de), .int (nI va)])))  : Met l yK_beta (zW yK_beta cK_beta 1 (.some .int)) ({ frames := 0, cells := 0, slots := 0, locals := 0 }) (va_Pc [.ref h0] (z_R (dC, dI) vwCl [(cI, .int), (cL, .long)] ws)) (k2_QcV (.int (nI be))) 0 0 (fun _ => False) := by
  refine Met.ofW (cc := cK_beta) (maxL := 1) (ret := (.some .int)) (by decide) rfl ?_
  intro p e s m args below meth c s₁ B hml hv
  obtain ⟨rfl, hP, hK⟩ := hv
  have F : CallFix p m c cK_beta 1 s _ zT RK := ⟨B.exec, B.bytes, hml, findClass_of_methodNamed B.named, fun w h => atoms_spec (ws := (zW yK_beta cK_beta 1 (.some .int))) B.pre w (List.mem_cons_of_mem _ h)⟩
  have hr := B.returns
  have hlocks := B.notSynchronized
  have hl := lv_entry ([.ref h0]) (n := 1) (Nat.le_of_ble_eq_true rfl)
  rw [lg_entry_eq]
  generalize (lg_sl ([.ref h0]) ++ List.replicate (1 - (lg_sl ([.ref h0])).length) Slot.unset).toArray = ls at hl ⊢
  have hl : lv_has ls 1 [(0, .ref h0)] := hl
  refine lv_aload_n F.1 F.2.1 dK_beta_0 rfl (lv_at hl 0 rfl) ?_
  refine z_get F hK hP hinK q1 e1 rfl 5 (by decide) rfl wf_K_29 rfl dK_beta_1 ?_
  exact W.iret F.1 F.2.1 hr (fun t ht hW => ⟨rfl, ht⟩) (fun _ h => by cases h) dK_beta_4
set_option maxHeartbeats 4000000 in
set_option maxRecDepth 100000 in
theorem ck_delta (l : Launch) (dC : Nat → ClassId) (dI : Nat → Nat → Nat) (cI cL : ClassId) (ws : va_W) (q1 : Nat) (h0 hW hX ta al be ga de va : Nat) (md : Bool) (e1 : ws[q1]? = some (h0, .inr (2, [.ref hW, .ref hX, .int (z_b md), .int (nI ta), .int (nI al), .int (nI be), .int (nI ga), .int (nI de), .int (nI va)])))  : Met l yK_delta (zW yK_delta cK_delta 1 (.some .int)) ({ frames := 0, cells := 0, slots := 0, locals := 0 }) (va_Pc [.ref h0] (z_R (dC, dI) vwCl [(cI, .int), (cL, .long)] ws)) (k2_QcV (.int (nI de))) 0 0 (fun _ => False) := by
  refine Met.ofW (cc := cK_delta) (maxL := 1) (ret := (.some .int)) (by decide) rfl ?_
  intro p e s m args below meth c s₁ B hml hv
  obtain ⟨rfl, hP, hK⟩ := hv
  have F : CallFix p m c cK_delta 1 s _ zT RK := ⟨B.exec, B.bytes, hml, findClass_of_methodNamed B.named, fun w h => atoms_spec (ws := (zW yK_delta cK_delta 1 (.some .int))) B.pre w (List.mem_cons_of_mem _ h)⟩
  have hr := B.returns
  have hlocks := B.notSynchronized
  have hl := lv_entry ([.ref h0]) (n := 1) (Nat.le_of_ble_eq_true rfl)
  rw [lg_entry_eq]
  generalize (lg_sl ([.ref h0]) ++ List.replicate (1 - (lg_sl ([.ref h0])).length) Slot.unset).toArray = ls at hl ⊢
  have hl : lv_has ls 1 [(0, .ref h0)] := hl
  refine lv_aload_n F.1 F.2.1 dK_delta_0 rfl (lv_at hl 0 rfl) ?_
  refine z_get F hK hP hinK q1 e1 rfl 7 (by decide) rfl wf_K_32 rfl dK_delta_1 ?_
  exact W.iret F.1 F.2.1 hr (fun t ht hW => ⟨rfl, ht⟩) (fun _ h => by cases h) dK_delta_4
set_option maxHeartbeats 4000000 in
set_option maxRecDepth 100000 in
theorem ck_vanishing (l : Launch) (dC : Nat → ClassId) (dI : Nat → Nat → Nat) (cI cL : ClassId) (ws : va_W) (q1 : Nat) (h0 hW hX ta al be ga de va : Nat) (md : Bool) (e1 : ws[q1]? = some (h0, .inr (2, [.ref hW, .ref hX, .int (z_b md), .int (nI ta), .int (nI al), .int (nI be), .int (nI ga), .int (nI de), .int (nI va)])))  : Met l yK_vanishing (zW yK_vanishing cK_vanishing 1 (.some .int)) ({ frames := 0, cells := 0, slots := 0, locals := 0 }) (va_Pc [.ref h0] (z_R (dC, dI) vwCl [(cI, .int), (cL, .long)] ws)) (k2_QcV (.int (nI va))) 0 0 (fun _ => False) := by
  refine Met.ofW (cc := cK_vanishing) (maxL := 1) (ret := (.some .int)) (by decide) rfl ?_
  intro p e s m args below meth c s₁ B hml hv
  obtain ⟨rfl, hP, hK⟩ := hv
  have F : CallFix p m c cK_vanishing 1 s _ zT RK := ⟨B.exec, B.bytes, hml, findClass_of_methodNamed B.named, fun w h => atoms_spec (ws := (zW yK_vanishing cK_vanishing 1 (.some .int))) B.pre w (List.mem_cons_of_mem _ h)⟩
  have hr := B.returns
  have hlocks := B.notSynchronized
  have hl := lv_entry ([.ref h0]) (n := 1) (Nat.le_of_ble_eq_true rfl)
  rw [lg_entry_eq]
  generalize (lg_sl ([.ref h0]) ++ List.replicate (1 - (lg_sl ([.ref h0])).length) Slot.unset).toArray = ls at hl ⊢
  have hl : lv_has ls 1 [(0, .ref h0)] := hl
  refine lv_aload_n F.1 F.2.1 dK_vanishing_0 rfl (lv_at hl 0 rfl) ?_
  refine z_get F hK hP hinK q1 e1 rfl 8 (by decide) rfl wf_K_35 rfl dK_vanishing_1 ?_
  exact W.iret F.1 F.2.1 hr (fun t ht hW => ⟨rfl, ht⟩) (fun _ h => by cases h) dK_vanishing_4
set_option maxHeartbeats 4000000 in
set_option maxRecDepth 100000 in
theorem ck_atTau (l : Launch) (dC : Nat → ClassId) (dI : Nat → Nat → Nat) (cI cL : ClassId) (ws : va_W) (q1 q2 q3 : Nat) (h0 hW hX ta al be ga de va : Nat) (md : Bool) (hV : Nat) (w d : Nat → Nat) (e1 : ws[q1]? = some (h0, .inr (2, [.ref hW, .ref hX, .int (z_b md), .int (nI ta), .int (nI al), .int (nI be), .int (nI ga), .int (nI de), .int (nI va)]))) (e2 : ws[q2]? = some (hW, .inl (cI, 16, .inl (fun j => nI (w j))))) (e3 : ws[q3]? = some (hV, .inl (cI, 16, .inl (fun j => nI (d j))))) (hd : ∀ j, d j < 998244353) (hw : ∀ j, w j < 998244353) : Met l yK_atTau (zW yK_atTau cK_atTau 4 (.some .int)) ({ frames := 1, cells := 0, slots := 0, locals := 22 }) (va_Pc [.ref h0, .ref hV] (z_R (dC, dI) vwCl [(cI, .int), (cL, .long)] ws)) (k2_QcV (.int (nI (sg 16 (fun t => d t * w t) % 998244353)))) 0 0 (fun _ => False) := by
  refine Met.ofW (cc := cK_atTau) (maxL := 4) (ret := (.some .int)) (by decide) rfl ?_
  intro p e s m args below meth c s₁ B hml hv
  obtain ⟨rfl, hP, hK⟩ := hv
  have F : CallFix p m c cK_atTau 4 s _ zT RK := ⟨B.exec, B.bytes, hml, findClass_of_methodNamed B.named, fun w h => atoms_spec (ws := (zW yK_atTau cK_atTau 4 (.some .int))) B.pre w (List.mem_cons_of_mem _ h)⟩
  have hr := B.returns
  have hlocks := B.notSynchronized
  have hl := lv_entry ([.ref h0, .ref hV]) (n := 4) (Nat.le_of_ble_eq_true rfl)
  rw [lg_entry_eq]
  generalize (lg_sl ([.ref h0, .ref hV]) ++ List.replicate (4 - (lg_sl ([.ref h0, .ref hV])).length) Slot.unset).toArray = ls at hl ⊢
  have hl : lv_has ls 4 [(0, .ref h0), (1, .ref hV)] := hl
  refine z_iconst (v := 0) F (by decide) dK_atTau_0 ?_
  refine lv_istore_n F.1 F.2.1 (lv' := [(2, .int (nI 0)), (0, .ref h0), (1, .ref hV)]) dK_atTau_1 rfl hl (by decide) rfl (fun ls hl => ?_)
  refine z_iconst (v := 0) F (by decide) dK_atTau_2 ?_
  refine lv_istore_n F.1 F.2.1 (lv' := [(3, .int (nI 0)), (2, .int (nI 0)), (0, .ref h0), (1, .ref hV)]) dK_atTau_3 rfl hl (by decide) rfl (fun ls hl => ?_)
  have hl : lv_has ls 4 [(3, .int (nI 0)), (2, .int (nI (sg 0 (fun t => d t * w t) % 998244353))), (0, .ref h0), (1, .ref hV)] := lv_sub hl [0, 1, 2, 3] rfl
  refine z_up (E := 16) (P := fun j => ∀  (ls : Array Slot), lv_has ls 4 [(3, .int (nI j)), (2, .int (nI (sg j (fun t => d t * w t) % 998244353))), (0, .ref h0), (1, .ref hV)] → W p l e _ s m _ below meth c s.heap [] _ _ _ (F0 m 4 ls [])) ?_ 0 (Nat.zero_le _)  ls  hl
  intro j hj ih  ls  hl
  refine lv_iload_n F.1 F.2.1 dK_atTau_4 rfl (lv_at hl 0 rfl) ?_
  refine z_bipush (v := 16) F (by decide) dK_atTau_5 ?_
  refine z_icmp_ge F (by omega) (by omega) (tgt := 33) dK_atTau_7 rfl (fun h1 => ?_) (fun h1 => ?_)
  · refine lv_iload_n F.1 F.2.1 dK_atTau_33 rfl (lv_at hl 1 rfl) ?_
    refine z_top (sg 16 (fun t => d t * w t) % 998244353) (by rw [show j = 16 by omega]) ?_
    exact W.iret F.1 F.2.1 hr (fun t ht hW => ⟨rfl, ht⟩) (fun _ h => by cases h) dK_atTau_34
  · refine lv_iload_n F.1 F.2.1 dK_atTau_10 rfl (lv_at hl 1 rfl) ?_
    refine lv_aload_n F.1 F.2.1 dK_atTau_11 rfl (lv_at hl 3 rfl) ?_
    refine lv_iload_n F.1 F.2.1 dK_atTau_12 rfl (lv_at hl 0 rfl) ?_
    refine z_iald F hK hP q3 0 e3 rfl (by omega) (by decide) dK_atTau_13 ?_
    refine lv_aload_n F.1 F.2.1 dK_atTau_14 rfl (lv_at hl 2 rfl) ?_
    refine z_get F hK hP hinK q1 e1 rfl 0 (by decide) rfl wf_K_9 rfl dK_atTau_15 ?_
    refine lv_iload_n F.1 F.2.1 dK_atTau_18 rfl (lv_at hl 0 rfl) ?_
    refine z_iald F hK hP q2 0 e2 rfl (by omega) (by decide) dK_atTau_19 ?_
    refine z_call (z_runS [.int (nI (d j)), .int (nI (w j))] [.int (nI (sg j (fun t => d t * w t) % 998244353))] F (c_product l (d j) (w j) (Nat.lt_trans (hd _) (by decide)) (Nat.lt_trans (hw _) (by decide))) kk_F_product wl_K_61 rfl rfl ⟨Nat.le_of_ble_eq_true rfl, Nat.le_of_ble_eq_true rfl⟩ z_preN rfl hl.1 rfl (Nat.le_of_ble_eq_true rfl) dK_atTau_20 ⟨Nat.zero_le _, Nat.zero_le _⟩) ?_
    refine z_call (z_runS [.int (nI (sg j (fun t => d t * w t) % 998244353)), .int (nI ((d j) * (w j) % 998244353))] [] F (c_sum l (sg j (fun t => d t * w t) % 998244353) ((d j) * (w j) % 998244353) (ltP _) (ltP _)) kk_F_sum wl_K_66 rfl rfl ⟨Nat.le_of_ble_eq_true rfl, Nat.le_of_ble_eq_true rfl⟩ z_preN rfl hl.1 rfl (Nat.le_of_ble_eq_true rfl) dK_atTau_23 ⟨Nat.zero_le _, Nat.zero_le _⟩) ?_
    refine z_top (sg (j + 1) (fun t => d t * w t) % 998244353) (sm1 j (fun t => d t * w t)) ?_
    refine lv_istore_n F.1 F.2.1 (lv' := [(2, .int (nI (sg (j + 1) (fun t => d t * w t) % 998244353))), (3, .int (nI j)), (0, .ref h0), (1, .ref hV)]) dK_atTau_26 rfl hl (by decide) rfl (fun ls hl => ?_)
    refine lv_iinc F.1 F.2.1 (k := 1) (v := nI (j + 1)) (lv' := [(3, .int (nI (j + 1))), (2, .int (nI (sg (j + 1) (fun t => d t * w t) % 998244353))), (0, .ref h0), (1, .ref hV)]) dK_atTau_27 hl rfl (nI_1 j) (by decide) rfl (fun ls hl => ?_)
    refine lv_goto F.1 F.2.1 (tgt := 4) dK_atTau_30 rfl ?_
    have hl : lv_has ls 4 [(3, .int (nI ((j + 1)))), (2, .int (nI (sg (j + 1) (fun t => d t * w t) % 998244353))), (0, .ref h0), (1, .ref hV)] := lv_sub hl [0, 1, 2, 3] rfl
    exact ih (by omega)  ls  hl
set_option maxHeartbeats 4000000 in
set_option maxRecDepth 100000 in
theorem ck_firstElement (l : Launch) (dC : Nat → ClassId) (dI : Nat → Nat → Nat) (cI cL : ClassId) (ws : va_W) (q1 q2 q3 : Nat) (h0 hW hX ta al be ga de va : Nat) (md : Bool) (hV : Nat) (w d : Nat → Nat) (e1 : ws[q1]? = some (h0, .inr (2, [.ref hW, .ref hX, .int (z_b md), .int (nI ta), .int (nI al), .int (nI be), .int (nI ga), .int (nI de), .int (nI va)]))) (e2 : ws[q2]? = some (hW, .inl (cI, 16, .inl (fun j => nI (w j))))) (e3 : ws[q3]? = some (hV, .inl (cI, 16, .inl (fun j => nI (d j))))) (hd : ∀ j, d j < 998244353) (hw : ∀ j, w j < 998244353) (ha : al < 998244353) : Met l yK_firstElement (zW yK_firstElement cK_firstElement 2 (.some .int)) ({ frames := 2, cells := 0, slots := 0, locals := 45 }) (va_Pc [.ref h0, .ref hV] (z_R (dC, dI) vwCl [(cI, .int), (cL, .long)] ws)) (k2_QcV (.int (nI ((al + sg 16 (fun t => d t * w t) % 998244353) % 998244353)))) 0 0 (fun _ => False) := by
  refine Met.ofW (cc := cK_firstElement) (maxL := 2) (ret := (.some .int)) (by decide) rfl ?_
  intro p e s m args below meth c s₁ B hml hv
  obtain ⟨rfl, hP, hK⟩ := hv
  have F : CallFix p m c cK_firstElement 2 s _ zT RK := ⟨B.exec, B.bytes, hml, findClass_of_methodNamed B.named, fun w h => atoms_spec (ws := (zW yK_firstElement cK_firstElement 2 (.some .int))) B.pre w (List.mem_cons_of_mem _ h)⟩
  have hr := B.returns
  have hlocks := B.notSynchronized
  have hl := lv_entry ([.ref h0, .ref hV]) (n := 2) (Nat.le_of_ble_eq_true rfl)
  rw [lg_entry_eq]
  generalize (lg_sl ([.ref h0, .ref hV]) ++ List.replicate (2 - (lg_sl ([.ref h0, .ref hV])).length) Slot.unset).toArray = ls at hl ⊢
  have hl : lv_has ls 2 [(0, .ref h0), (1, .ref hV)] := hl
  refine lv_aload_n F.1 F.2.1 dK_firstElement_0 rfl (lv_at hl 0 rfl) ?_
  refine z_get F hK hP hinK q1 e1 rfl 4 (by decide) rfl wf_K_26 rfl dK_firstElement_1 ?_
  refine lv_aload_n F.1 F.2.1 dK_firstElement_4 rfl (lv_at hl 0 rfl) ?_
  refine lv_aload_n F.1 F.2.1 dK_firstElement_5 rfl (lv_at hl 1 rfl) ?_
  refine z_call (z_runV [.ref hV] [.int (nI al)] F (ck_atTau l dC dI cI cL ws q1 q2 q3 h0 hW hX ta al be ga de va md hV w d e1 e2 e3 hd hw) kk_K_atTau wl_K_69 rfl rfl ⟨Nat.le_of_ble_eq_true rfl, Nat.le_of_ble_eq_true rfl⟩ (z_preVR (q := (RK, TK, 9)) hP hK rfl e1) rfl hl.1 rfl (Nat.le_of_ble_eq_true rfl) dK_firstElement_6 ⟨Nat.zero_le _, Nat.zero_le _⟩) ?_
  refine z_call (z_runS [.int (nI al), .int (nI (sg 16 (fun t => d t * w t) % 998244353))] [] F (c_sum l al (sg 16 (fun t => d t * w t) % 998244353) ha (ltP _)) kk_F_sum wl_K_66 rfl rfl ⟨Nat.le_of_ble_eq_true rfl, Nat.le_of_ble_eq_true rfl⟩ z_preN rfl hl.1 rfl (Nat.le_of_ble_eq_true rfl) dK_firstElement_9 ⟨Nat.zero_le _, Nat.zero_le _⟩) ?_
  exact W.iret F.1 F.2.1 hr (fun t ht hW => ⟨rfl, ht⟩) (fun _ h => by cases h) dK_firstElement_12
set_option maxHeartbeats 4000000 in
set_option maxRecDepth 100000 in
theorem ck_secondElement (l : Launch) (dC : Nat → ClassId) (dI : Nat → Nat → Nat) (cI cL : ClassId) (ws : va_W) (q1 q2 q3 : Nat) (h0 hW hX ta al be ga de va : Nat) (md : Bool) (hV : Nat) (w d : Nat → Nat) (e1 : ws[q1]? = some (h0, .inr (2, [.ref hW, .ref hX, .int (z_b md), .int (nI ta), .int (nI al), .int (nI be), .int (nI ga), .int (nI de), .int (nI va)]))) (e2 : ws[q2]? = some (hW, .inl (cI, 16, .inl (fun j => nI (w j))))) (e3 : ws[q3]? = some (hV, .inl (cI, 16, .inl (fun j => nI (d j))))) (hd : ∀ j, d j < 998244353) (hw : ∀ j, w j < 998244353) (hb : be < 998244353) : Met l yK_secondElement (zW yK_secondElement cK_secondElement 2 (.some .int)) ({ frames := 2, cells := 0, slots := 0, locals := 45 }) (va_Pc [.ref h0, .ref hV] (z_R (dC, dI) vwCl [(cI, .int), (cL, .long)] ws)) (k2_QcV (.int (nI ((be + sg 16 (fun t => d t * w t) % 998244353) % 998244353)))) 0 0 (fun _ => False) := by
  refine Met.ofW (cc := cK_secondElement) (maxL := 2) (ret := (.some .int)) (by decide) rfl ?_
  intro p e s m args below meth c s₁ B hml hv
  obtain ⟨rfl, hP, hK⟩ := hv
  have F : CallFix p m c cK_secondElement 2 s _ zT RK := ⟨B.exec, B.bytes, hml, findClass_of_methodNamed B.named, fun w h => atoms_spec (ws := (zW yK_secondElement cK_secondElement 2 (.some .int))) B.pre w (List.mem_cons_of_mem _ h)⟩
  have hr := B.returns
  have hlocks := B.notSynchronized
  have hl := lv_entry ([.ref h0, .ref hV]) (n := 2) (Nat.le_of_ble_eq_true rfl)
  rw [lg_entry_eq]
  generalize (lg_sl ([.ref h0, .ref hV]) ++ List.replicate (2 - (lg_sl ([.ref h0, .ref hV])).length) Slot.unset).toArray = ls at hl ⊢
  have hl : lv_has ls 2 [(0, .ref h0), (1, .ref hV)] := hl
  refine lv_aload_n F.1 F.2.1 dK_secondElement_0 rfl (lv_at hl 0 rfl) ?_
  refine z_get F hK hP hinK q1 e1 rfl 5 (by decide) rfl wf_K_29 rfl dK_secondElement_1 ?_
  refine lv_aload_n F.1 F.2.1 dK_secondElement_4 rfl (lv_at hl 0 rfl) ?_
  refine lv_aload_n F.1 F.2.1 dK_secondElement_5 rfl (lv_at hl 1 rfl) ?_
  refine z_call (z_runV [.ref hV] [.int (nI be)] F (ck_atTau l dC dI cI cL ws q1 q2 q3 h0 hW hX ta al be ga de va md hV w d e1 e2 e3 hd hw) kk_K_atTau wl_K_69 rfl rfl ⟨Nat.le_of_ble_eq_true rfl, Nat.le_of_ble_eq_true rfl⟩ (z_preVR (q := (RK, TK, 9)) hP hK rfl e1) rfl hl.1 rfl (Nat.le_of_ble_eq_true rfl) dK_secondElement_6 ⟨Nat.zero_le _, Nat.zero_le _⟩) ?_
  refine z_call (z_runS [.int (nI be), .int (nI (sg 16 (fun t => d t * w t) % 998244353))] [] F (c_sum l be (sg 16 (fun t => d t * w t) % 998244353) hb (ltP _)) kk_F_sum wl_K_66 rfl rfl ⟨Nat.le_of_ble_eq_true rfl, Nat.le_of_ble_eq_true rfl⟩ z_preN rfl hl.1 rfl (Nat.le_of_ble_eq_true rfl) dK_secondElement_9 ⟨Nat.zero_le _, Nat.zero_le _⟩) ?_
  exact W.iret F.1 F.2.1 hr (fun t ht hW => ⟨rfl, ht⟩) (fun _ h => by cases h) dK_secondElement_12
set_option maxHeartbeats 4000000 in
set_option maxRecDepth 100000 in
theorem ck_mixSum (l : Launch) (dC : Nat → ClassId) (dI : Nat → Nat → Nat) (cI cL : ClassId) (ws : va_W) (q1 q2 q3 : Nat) (h0 hW hX ta al be ga de va : Nat) (md : Bool) (hV nn : Nat) (w d : Nat → Nat) (a z : Nat) (e1 : ws[q1]? = some (h0, .inr (2, [.ref hW, .ref hX, .int (z_b md), .int (nI ta), .int (nI al), .int (nI be), .int (nI ga), .int (nI de), .int (nI va)]))) (e2 : ws[q2]? = some (hX, .inl (cI, 16, .inl (fun j => nI (w j))))) (e3 : ws[q3]? = some (hV, .inl (cI, nn, .inl (fun j => nI (d j))))) (hd : ∀ j, d j < 998244353) (hw : ∀ j, w j < 998244353) (hn : z < nn) (h16 : z < 16) (ha : a ≤ z + 1) (hnn : nn < 2 ^ 31) : Met l yK_mixSum (zW yK_mixSum cK_mixSum 6 (.some .int)) ({ frames := 1, cells := 0, slots := 0, locals := 22 }) (va_Pc [.ref h0, .ref hV, .int (nI a), .int (nI z)] (z_R (dC, dI) vwCl [(cI, .int), (cL, .long)] ws)) (k2_QcV (.int (nI (sg (z + 1 - a) (fun t => d (a + t) * w (a + t)) % 998244353)))) 0 0 (fun _ => False) := by
  refine Met.ofW (cc := cK_mixSum) (maxL := 6) (ret := (.some .int)) (by decide) rfl ?_
  intro p e s m args below meth c s₁ B hml hv
  obtain ⟨rfl, hP, hK⟩ := hv
  have F : CallFix p m c cK_mixSum 6 s _ zT RK := ⟨B.exec, B.bytes, hml, findClass_of_methodNamed B.named, fun w h => atoms_spec (ws := (zW yK_mixSum cK_mixSum 6 (.some .int))) B.pre w (List.mem_cons_of_mem _ h)⟩
  have hr := B.returns
  have hlocks := B.notSynchronized
  have hl := lv_entry ([.ref h0, .ref hV, .int (nI a), .int (nI z)]) (n := 6) (Nat.le_of_ble_eq_true rfl)
  rw [lg_entry_eq]
  generalize (lg_sl ([.ref h0, .ref hV, .int (nI a), .int (nI z)]) ++ List.replicate (6 - (lg_sl ([.ref h0, .ref hV, .int (nI a), .int (nI z)])).length) Slot.unset).toArray = ls at hl ⊢
  have hl : lv_has ls 6 [(0, .ref h0), (1, .ref hV), (2, .int (nI a)), (3, .int (nI z))] := hl
  refine z_iconst (v := 0) F (by decide) dK_mixSum_0 ?_
  refine lv_istore F.1 F.2.1 (lv' := [(4, .int (nI 0)), (0, .ref h0), (1, .ref hV), (2, .int (nI a)), (3, .int (nI z))]) dK_mixSum_1 hl (by decide) rfl (fun ls hl => ?_)
  refine lv_iload_n F.1 F.2.1 dK_mixSum_3 rfl (lv_at hl 3 rfl) ?_
  refine lv_istore F.1 F.2.1 (lv' := [(5, .int (nI a)), (4, .int (nI 0)), (0, .ref h0), (1, .ref hV), (2, .int (nI a)), (3, .int (nI z))]) dK_mixSum_4 hl (by decide) rfl (fun ls hl => ?_)
  have hl : lv_has ls 6 [(5, .int (nI (a + 0))), (4, .int (nI (sg 0 (fun t => d (a + t) * w (a + t)) % 998244353))), (0, .ref h0), (1, .ref hV), (2, .int (nI a)), (3, .int (nI z))] := lv_sub hl [0, 1, 2, 3, 4, 5] rfl
  refine z_up (E := z + 1 - a) (P := fun u => ∀  (ls : Array Slot), lv_has ls 6 [(5, .int (nI (a + u))), (4, .int (nI (sg u (fun t => d (a + t) * w (a + t)) % 998244353))), (0, .ref h0), (1, .ref hV), (2, .int (nI a)), (3, .int (nI z))] → W p l e _ s m _ below meth c s.heap [] _ _ _ (F0 m 6 ls [])) ?_ 0 (Nat.zero_le _)  ls  hl
  intro u hu ih  ls  hl
  refine lv_iload F.1 F.2.1 dK_mixSum_6 (lv_at hl 0 rfl) ?_
  refine lv_iload_n F.1 F.2.1 dK_mixSum_8 rfl (lv_at hl 5 rfl) ?_
  refine z_icmp_gt F (by omega) (by omega) (tgt := 39) dK_mixSum_9 rfl (fun h1 => ?_) (fun h1 => ?_)
  · refine lv_iload F.1 F.2.1 dK_mixSum_39 (lv_at hl 1 rfl) ?_
    refine z_top (sg (z + 1 - a) (fun t => d (a + t) * w (a + t)) % 998244353) (by rw [show u = z + 1 - a by omega]) ?_
    exact W.iret F.1 F.2.1 hr (fun t ht hW => ⟨rfl, ht⟩) (fun _ h => by cases h) dK_mixSum_41
  · refine lv_iload F.1 F.2.1 dK_mixSum_12 (lv_at hl 1 rfl) ?_
    refine lv_aload_n F.1 F.2.1 dK_mixSum_14 rfl (lv_at hl 3 rfl) ?_
    refine lv_iload F.1 F.2.1 dK_mixSum_15 (lv_at hl 0 rfl) ?_
    refine z_iald F hK hP q3 0 e3 rfl (by omega) (hnn) dK_mixSum_17 ?_
    refine lv_aload_n F.1 F.2.1 dK_mixSum_18 rfl (lv_at hl 2 rfl) ?_
    refine z_get F hK hP hinK q1 e1 rfl 1 (by decide) rfl wf_K_15 rfl dK_mixSum_19 ?_
    refine lv_iload F.1 F.2.1 dK_mixSum_22 (lv_at hl 0 rfl) ?_
    refine z_iald F hK hP q2 0 e2 rfl (by omega) (by decide) dK_mixSum_24 ?_
    refine z_call (z_runS [.int (nI (d (a + u))), .int (nI (w (a + u)))] [.int (nI (sg u (fun t => d (a + t) * w (a + t)) % 998244353))] F (c_product l (d (a + u)) (w (a + u)) (Nat.lt_trans (hd _) (by decide)) (Nat.lt_trans (hw _) (by decide))) kk_F_product wl_K_61 rfl rfl ⟨Nat.le_of_ble_eq_true rfl, Nat.le_of_ble_eq_true rfl⟩ z_preN rfl hl.1 rfl (Nat.le_of_ble_eq_true rfl) dK_mixSum_25 ⟨Nat.zero_le _, Nat.zero_le _⟩) ?_
    refine z_call (z_runS [.int (nI (sg u (fun t => d (a + t) * w (a + t)) % 998244353)), .int (nI ((d (a + u)) * (w (a + u)) % 998244353))] [] F (c_sum l (sg u (fun t => d (a + t) * w (a + t)) % 998244353) ((d (a + u)) * (w (a + u)) % 998244353) (ltP _) (ltP _)) kk_F_sum wl_K_66 rfl rfl ⟨Nat.le_of_ble_eq_true rfl, Nat.le_of_ble_eq_true rfl⟩ z_preN rfl hl.1 rfl (Nat.le_of_ble_eq_true rfl) dK_mixSum_28 ⟨Nat.zero_le _, Nat.zero_le _⟩) ?_
    refine z_top (sg (u + 1) (fun t => d (a + t) * w (a + t)) % 998244353) (sm1 u (fun t => d (a + t) * w (a + t))) ?_
    refine lv_istore F.1 F.2.1 (lv' := [(4, .int (nI (sg (u + 1) (fun t => d (a + t) * w (a + t)) % 998244353))), (5, .int (nI (a + u))), (0, .ref h0), (1, .ref hV), (2, .int (nI a)), (3, .int (nI z))]) dK_mixSum_31 hl (by decide) rfl (fun ls hl => ?_)
    refine lv_iinc F.1 F.2.1 (k := 1) (v := nI (a + u + 1)) (lv' := [(5, .int (nI (a + u + 1))), (4, .int (nI (sg (u + 1) (fun t => d (a + t) * w (a + t)) % 998244353))), (0, .ref h0), (1, .ref hV), (2, .int (nI a)), (3, .int (nI z))]) dK_mixSum_33 hl rfl (nI_1 (a + u)) (by decide) rfl (fun ls hl => ?_)
    refine lv_goto F.1 F.2.1 (tgt := 6) dK_mixSum_36 rfl ?_
    have hl : lv_has ls 6 [(5, .int (nI (a + (u + 1)))), (4, .int (nI (sg (u + 1) (fun t => d (a + t) * w (a + t)) % 998244353))), (0, .ref h0), (1, .ref hV), (2, .int (nI a)), (3, .int (nI z))] := lv_sub hl [0, 1, 2, 3, 4, 5] rfl
    exact ih (by omega)  ls  hl
set_option maxHeartbeats 4000000 in
set_option maxRecDepth 100000 in
theorem ck_sharedMix (l : Launch) (dC : Nat → ClassId) (dI : Nat → Nat → Nat) (cI cL : ClassId) (ws : va_W) (q1 q2 : Nat) (h0 hW hX ta al be ga de va : Nat) (md : Bool) (w : Nat → Nat) (i pc : Nat) (e1 : ws[q1]? = some (h0, .inr (2, [.ref hW, .ref hX, .int (z_b md), .int (nI ta), .int (nI al), .int (nI be), .int (nI ga), .int (nI de), .int (nI va)]))) (e2 : ws[q2]? = some (hX, .inl (cI, 16, .inl (fun j => nI (w j))))) (hw : ∀ j, w j < 998244353) (hi : i < 16) (hp : pc < 2 ^ 31) (hg : ga < 998244353) (hd : de < 998244353) : Met l yK_sharedMix (zW yK_sharedMix cK_sharedMix 3 (.some .int)) ({ frames := 3, cells := 0, slots := 0, locals := 66 }) (va_Pc [.ref h0, .int (nI i), .int (nI pc)] (z_R (dC, dI) vwCl [(cI, .int), (cL, .long)] ws)) (k2_QcV (.int (nI (w i * iv (if i ≤ pc then ga else de) % 998244353)))) 0 0 (fun _ => False) := by
  refine Met.ofW (cc := cK_sharedMix) (maxL := 3) (ret := (.some .int)) (by decide) rfl ?_
  intro p e s m args below meth c s₁ B hml hv
  obtain ⟨rfl, hP, hK⟩ := hv
  have F : CallFix p m c cK_sharedMix 3 s _ zT RK := ⟨B.exec, B.bytes, hml, findClass_of_methodNamed B.named, fun w h => atoms_spec (ws := (zW yK_sharedMix cK_sharedMix 3 (.some .int))) B.pre w (List.mem_cons_of_mem _ h)⟩
  have hr := B.returns
  have hlocks := B.notSynchronized
  have hl := lv_entry ([.ref h0, .int (nI i), .int (nI pc)]) (n := 3) (Nat.le_of_ble_eq_true rfl)
  rw [lg_entry_eq]
  generalize (lg_sl ([.ref h0, .int (nI i), .int (nI pc)]) ++ List.replicate (3 - (lg_sl ([.ref h0, .int (nI i), .int (nI pc)])).length) Slot.unset).toArray = ls at hl ⊢
  have hl : lv_has ls 3 [(0, .ref h0), (1, .int (nI i)), (2, .int (nI pc))] := hl
  refine lv_aload_n F.1 F.2.1 dK_sharedMix_0 rfl (lv_at hl 0 rfl) ?_
  refine z_get F hK hP hinK q1 e1 rfl 1 (by decide) rfl wf_K_15 rfl dK_sharedMix_1 ?_
  refine lv_iload_n F.1 F.2.1 dK_sharedMix_4 rfl (lv_at hl 1 rfl) ?_
  refine z_iald F hK hP q2 0 e2 rfl (by omega) (by decide) dK_sharedMix_5 ?_
  refine lv_iload_n F.1 F.2.1 dK_sharedMix_6 rfl (lv_at hl 1 rfl) ?_
  refine lv_iload_n F.1 F.2.1 dK_sharedMix_7 rfl (lv_at hl 2 rfl) ?_
  refine z_icmp_gt F (by omega) (by omega) (tgt := 18) dK_sharedMix_8 rfl (fun h1 => ?_) (fun h1 => ?_)
  · refine lv_aload_n F.1 F.2.1 dK_sharedMix_18 rfl (lv_at hl 0 rfl) ?_
    refine z_get F hK hP hinK q1 e1 rfl 7 (by decide) rfl wf_K_32 rfl dK_sharedMix_19 ?_
    refine z_call (z_runS [.int (nI (w i)), .int (nI de)] [] F (c_ratio l (w i) de (Nat.lt_trans (hw _) (by decide)) (Nat.lt_trans (hd) (by decide))) kk_F_ratio wl_K_73 rfl rfl ⟨Nat.le_of_ble_eq_true rfl, Nat.le_of_ble_eq_true rfl⟩ z_preN rfl hl.1 rfl (Nat.le_of_ble_eq_true rfl) dK_sharedMix_22 ⟨Nat.zero_le _, Nat.zero_le _⟩) ?_
    refine z_top (w i * iv (if i ≤ pc then ga else de) % 998244353) (by rw [if_neg (by omega)]) ?_
    exact W.iret F.1 F.2.1 hr (fun t ht hW => ⟨rfl, ht⟩) (fun _ h => by cases h) dK_sharedMix_25
  · refine lv_aload_n F.1 F.2.1 dK_sharedMix_11 rfl (lv_at hl 0 rfl) ?_
    refine z_get F hK hP hinK q1 e1 rfl 6 (by decide) rfl wf_K_38 rfl dK_sharedMix_12 ?_
    refine lv_goto F.1 F.2.1 (tgt := 22) dK_sharedMix_15 rfl ?_
    refine z_call (z_runS [.int (nI (w i)), .int (nI ga)] [] F (c_ratio l (w i) ga (Nat.lt_trans (hw _) (by decide)) (Nat.lt_trans (hg) (by decide))) kk_F_ratio wl_K_73 rfl rfl ⟨Nat.le_of_ble_eq_true rfl, Nat.le_of_ble_eq_true rfl⟩ z_preN rfl hl.1 rfl (Nat.le_of_ble_eq_true rfl) dK_sharedMix_22 ⟨Nat.zero_le _, Nat.zero_le _⟩) ?_
    refine z_top (w i * iv (if i ≤ pc then ga else de) % 998244353) (by rw [if_pos (by omega)]) ?_
    exact W.iret F.1 F.2.1 hr (fun t ht hW => ⟨rfl, ht⟩) (fun _ h => by cases h) dK_sharedMix_25
set_option maxHeartbeats 4000000 in
set_option maxRecDepth 100000 in
theorem ck_vanishingStep (l : Launch) (dC : Nat → ClassId) (dI : Nat → Nat → Nat) (cI cL : ClassId) (ws : va_W) (q1 : Nat) (h0 hW hX ta al be ga de va : Nat) (md : Bool) (i : Nat) (e1 : ws[q1]? = some (h0, .inr (2, [.ref hW, .ref hX, .int (z_b md), .int (nI ta), .int (nI al), .int (nI be), .int (nI ga), .int (nI de), .int (nI va)]))) (hi : i < 16) (ht : ta < 998244353) (hv : va < 998244353) (hd : de < 998244353) : Met l yK_vanishingStep (zW yK_vanishingStep cK_vanishingStep 2 (.some .int)) ({ frames := 3, cells := 0, slots := 0, locals := 66 }) (va_Pc [.ref h0, .int (nI i)] (z_R (dC, dI) vwCl [(cI, .int), (cL, .long)] ws)) (k2_QcV (.int (nI (pw ta i * va % 998244353 * iv de % 998244353)))) 0 0 (fun _ => False) := by
  refine Met.ofW (cc := cK_vanishingStep) (maxL := 2) (ret := (.some .int)) (by decide) rfl ?_
  intro p e s m args below meth c s₁ B hml hv
  obtain ⟨rfl, hP, hK⟩ := hv
  have F : CallFix p m c cK_vanishingStep 2 s _ zT RK := ⟨B.exec, B.bytes, hml, findClass_of_methodNamed B.named, fun w h => atoms_spec (ws := (zW yK_vanishingStep cK_vanishingStep 2 (.some .int))) B.pre w (List.mem_cons_of_mem _ h)⟩
  have hr := B.returns
  have hlocks := B.notSynchronized
  have hl := lv_entry ([.ref h0, .int (nI i)]) (n := 2) (Nat.le_of_ble_eq_true rfl)
  rw [lg_entry_eq]
  generalize (lg_sl ([.ref h0, .int (nI i)]) ++ List.replicate (2 - (lg_sl ([.ref h0, .int (nI i)])).length) Slot.unset).toArray = ls at hl ⊢
  have hl : lv_has ls 2 [(0, .ref h0), (1, .int (nI i))] := hl
  refine lv_aload_n F.1 F.2.1 dK_vanishingStep_0 rfl (lv_at hl 0 rfl) ?_
  refine z_get F hK hP hinK q1 e1 rfl 3 (by decide) rfl wf_K_22 rfl dK_vanishingStep_1 ?_
  refine lv_iload_n F.1 F.2.1 dK_vanishingStep_4 rfl (lv_at hl 1 rfl) ?_
  refine z_call (z_runS [.int (nI ta), .int (nI i)] [] F (c_power l ta i (Nat.lt_trans (ht) (by decide)) (by omega)) kk_F_power wl_K_76 rfl rfl ⟨Nat.le_of_ble_eq_true rfl, Nat.le_of_ble_eq_true rfl⟩ z_preN rfl hl.1 rfl (Nat.le_of_ble_eq_true rfl) dK_vanishingStep_5 ⟨Nat.zero_le _, Nat.zero_le _⟩) ?_
  refine lv_aload_n F.1 F.2.1 dK_vanishingStep_8 rfl (lv_at hl 0 rfl) ?_
  refine z_get F hK hP hinK q1 e1 rfl 8 (by decide) rfl wf_K_35 rfl dK_vanishingStep_9 ?_
  refine z_call (z_runS [.int (nI (pw ta i)), .int (nI va)] [] F (c_product l (pw ta i) va (Nat.lt_trans (pw_lt _ _) (by decide)) (Nat.lt_trans (hv) (by decide))) kk_F_product wl_K_61 rfl rfl ⟨Nat.le_of_ble_eq_true rfl, Nat.le_of_ble_eq_true rfl⟩ z_preN rfl hl.1 rfl (Nat.le_of_ble_eq_true rfl) dK_vanishingStep_12 ⟨Nat.zero_le _, Nat.zero_le _⟩) ?_
  refine lv_aload_n F.1 F.2.1 dK_vanishingStep_15 rfl (lv_at hl 0 rfl) ?_
  refine z_get F hK hP hinK q1 e1 rfl 7 (by decide) rfl wf_K_32 rfl dK_vanishingStep_16 ?_
  refine z_call (z_runS [.int (nI (pw ta i * va % 998244353)), .int (nI de)] [] F (c_ratio l (pw ta i * va % 998244353) de (Nat.lt_trans (ltP _) (by decide)) (Nat.lt_trans (hd) (by decide))) kk_F_ratio wl_K_73 rfl rfl ⟨Nat.le_of_ble_eq_true rfl, Nat.le_of_ble_eq_true rfl⟩ z_preN rfl hl.1 rfl (Nat.le_of_ble_eq_true rfl) dK_vanishingStep_19 ⟨Nat.zero_le _, Nat.zero_le _⟩) ?_
  exact W.iret F.1 F.2.1 hr (fun t ht hW => ⟨rfl, ht⟩) (fun _ h => by cases h) dK_vanishingStep_22
