set_option maxHeartbeats 4000000 in
set_option maxRecDepth 100000 in
theorem cq_isMade (l : Launch) (dC : Nat → ClassId) (dI : Nat → Nat → Nat) (cI cL : ClassId) (ws : va_W) (q1 : Nat) (h0 hE hQ : Nat) (md : Bool) (e1 : ws[q1]? = some (h0, .inr (3, [.ref hE, .ref hQ, .int (z_b md)])))  : Met l yQ_isMade (zW yQ_isMade cQ_isMade 1 (.some .boolean)) ({ frames := 0, cells := 0, slots := 0, locals := 0 }) (va_Pc [.ref h0] (z_R (dC, dI) vwCl [(cI, .int), (cL, .long)] ws)) (k2_QcV (.int (z_b md))) 0 0 (fun _ => False) := by
  refine Met.ofW (cc := cQ_isMade) (maxL := 1) (ret := (.some .boolean)) (by decide) rfl ?_
  intro p e s m args below meth c s₁ B hml hv
  obtain ⟨rfl, hP, hK⟩ := hv
  have F : CallFix p m c cQ_isMade 1 s _ zT RQ := ⟨B.exec, B.bytes, hml, findClass_of_methodNamed B.named, fun w h => atoms_spec (ws := (zW yQ_isMade cQ_isMade 1 (.some .boolean))) B.pre w (List.mem_cons_of_mem _ h)⟩
  have hr := B.returns
  have hlocks := B.notSynchronized
  have hl := lv_entry ([.ref h0]) (n := 1) (Nat.le_of_ble_eq_true rfl)
  rw [lg_entry_eq]
  generalize (lg_sl ([.ref h0]) ++ List.replicate (1 - (lg_sl ([.ref h0])).length) Slot.unset).toArray = ls at hl ⊢
  have hl : lv_has ls 1 [(0, .ref h0)] := hl
  refine lv_aload_n F.1 F.2.1 dQ_isMade_0 rfl (lv_at hl 0 rfl) ?_
  refine z_get F hK hP hinQ q1 e1 rfl 2 (by decide) rfl wf_Q_18 rfl dQ_isMade_1 ?_
  exact W.zret F.1 F.2.1 hr (by cases md <;> rfl) (fun t ht hW => ⟨rfl, ht⟩) (fun _ h => by cases h) dQ_isMade_4
set_option maxHeartbeats 4000000 in
set_option maxRecDepth 100000 in
theorem cq_element (l : Launch) (dC : Nat → ClassId) (dI : Nat → Nat → Nat) (cI cL : ClassId) (ws : va_W) (q1 q2 : Nat) (h0 hE hQ : Nat) (md : Bool) (w : Nat → Nat) (k : Nat) (e1 : ws[q1]? = some (h0, .inr (3, [.ref hE, .ref hQ, .int (z_b md)]))) (e2 : ws[q2]? = some (hE, .inl (cI, 3, .inl (fun j => nI (w j))))) (hk : k < 3) : Met l yQ_element (zW yQ_element cQ_element 2 (.some .int)) ({ frames := 0, cells := 0, slots := 0, locals := 0 }) (va_Pc [.ref h0, .int (nI k)] (z_R (dC, dI) vwCl [(cI, .int), (cL, .long)] ws)) (k2_QcV (.int (nI (w k)))) 0 0 (fun _ => False) := by
  refine Met.ofW (cc := cQ_element) (maxL := 2) (ret := (.some .int)) (by decide) rfl ?_
  intro p e s m args below meth c s₁ B hml hv
  obtain ⟨rfl, hP, hK⟩ := hv
  have F : CallFix p m c cQ_element 2 s _ zT RQ := ⟨B.exec, B.bytes, hml, findClass_of_methodNamed B.named, fun w h => atoms_spec (ws := (zW yQ_element cQ_element 2 (.some .int))) B.pre w (List.mem_cons_of_mem _ h)⟩
  have hr := B.returns
  have hlocks := B.notSynchronized
  have hl := lv_entry ([.ref h0, .int (nI k)]) (n := 2) (Nat.le_of_ble_eq_true rfl)
  rw [lg_entry_eq]
  generalize (lg_sl ([.ref h0, .int (nI k)]) ++ List.replicate (2 - (lg_sl ([.ref h0, .int (nI k)])).length) Slot.unset).toArray = ls at hl ⊢
  have hl : lv_has ls 2 [(0, .ref h0), (1, .int (nI k))] := hl
  refine lv_aload_n F.1 F.2.1 dQ_element_0 rfl (lv_at hl 0 rfl) ?_
  refine z_get F hK hP hinQ q1 e1 rfl 0 (by decide) rfl wf_Q_9 rfl dQ_element_1 ?_
  refine lv_iload_n F.1 F.2.1 dQ_element_4 rfl (lv_at hl 1 rfl) ?_
  refine z_iald F hK hP q2 0 e2 rfl (by omega) (by decide) dQ_element_5 ?_
  exact W.iret F.1 F.2.1 hr (fun t ht hW => ⟨rfl, ht⟩) (fun _ h => by cases h) dQ_element_6
set_option maxHeartbeats 4000000 in
set_option maxRecDepth 100000 in
theorem cq_quotientCoefficient (l : Launch) (dC : Nat → ClassId) (dI : Nat → Nat → Nat) (cI cL : ClassId) (ws : va_W) (q1 q2 : Nat) (h0 hE hQ : Nat) (md : Bool) (w : Nat → Nat) (k : Nat) (e1 : ws[q1]? = some (h0, .inr (3, [.ref hE, .ref hQ, .int (z_b md)]))) (e2 : ws[q2]? = some (hQ, .inl (cI, 16, .inl (fun j => nI (w j))))) (hk : k < 16) : Met l yQ_quotientCoefficient (zW yQ_quotientCoefficient cQ_quotientCoefficient 2 (.some .int)) ({ frames := 0, cells := 0, slots := 0, locals := 0 }) (va_Pc [.ref h0, .int (nI k)] (z_R (dC, dI) vwCl [(cI, .int), (cL, .long)] ws)) (k2_QcV (.int (nI (w k)))) 0 0 (fun _ => False) := by
  refine Met.ofW (cc := cQ_quotientCoefficient) (maxL := 2) (ret := (.some .int)) (by decide) rfl ?_
  intro p e s m args below meth c s₁ B hml hv
  obtain ⟨rfl, hP, hK⟩ := hv
  have F : CallFix p m c cQ_quotientCoefficient 2 s _ zT RQ := ⟨B.exec, B.bytes, hml, findClass_of_methodNamed B.named, fun w h => atoms_spec (ws := (zW yQ_quotientCoefficient cQ_quotientCoefficient 2 (.some .int))) B.pre w (List.mem_cons_of_mem _ h)⟩
  have hr := B.returns
  have hlocks := B.notSynchronized
  have hl := lv_entry ([.ref h0, .int (nI k)]) (n := 2) (Nat.le_of_ble_eq_true rfl)
  rw [lg_entry_eq]
  generalize (lg_sl ([.ref h0, .int (nI k)]) ++ List.replicate (2 - (lg_sl ([.ref h0, .int (nI k)])).length) Slot.unset).toArray = ls at hl ⊢
  have hl : lv_has ls 2 [(0, .ref h0), (1, .int (nI k))] := hl
  refine lv_aload_n F.1 F.2.1 dQ_quotientCoefficient_0 rfl (lv_at hl 0 rfl) ?_
  refine z_get F hK hP hinQ q1 e1 rfl 1 (by decide) rfl wf_Q_15 rfl dQ_quotientCoefficient_1 ?_
  refine lv_iload_n F.1 F.2.1 dQ_quotientCoefficient_4 rfl (lv_at hl 1 rfl) ?_
  refine z_iald F hK hP q2 0 e2 rfl (by omega) (by decide) dQ_quotientCoefficient_5 ?_
  exact W.iret F.1 F.2.1 hr (fun t ht hW => ⟨rfl, ht⟩) (fun _ h => by cases h) dQ_quotientCoefficient_6
theorem hor1 (t x : Nat) (w : Nat → Nat) (h : t < 16) : (sg t (fun i => w (16 - t + i) * x ^ i) % 998244353 * x % 998244353 + w (15 - t)) % 998244353 = sg (t + 1) (fun i => w (16 - (t + 1) + i) * x ^ i) % 998244353 := by
  rw [sg_horner 16 t x w h, show 16 - (t + 1) = 15 - t by omega]
  exact ((cg.md _).tr (cg.ml x (cg.md _))).add (cg.rf _)
set_option maxHeartbeats 4000000 in
set_option maxRecDepth 100000 in
theorem cq_quotientAt (l : Launch) (dC : Nat → ClassId) (dI : Nat → Nat → Nat) (cI cL : ClassId) (ws : va_W) (q1 q2 : Nat) (h0 hE hQ : Nat) (md : Bool) (w : Nat → Nat) (x : Nat) (e1 : ws[q1]? = some (h0, .inr (3, [.ref hE, .ref hQ, .int (z_b md)]))) (e2 : ws[q2]? = some (hQ, .inl (cI, 16, .inl (fun j => nI (w j))))) (hw : ∀ j, w j < 998244353) (hx : x < 998244353) : Met l yQ_quotientAt (zW yQ_quotientAt cQ_quotientAt 4 (.some .int)) ({ frames := 1, cells := 0, slots := 0, locals := 22 }) (va_Pc [.ref h0, .int (nI x)] (z_R (dC, dI) vwCl [(cI, .int), (cL, .long)] ws)) (k2_QcV (.int (nI (sg 16 (fun i => w i * x ^ i) % 998244353)))) 0 0 (fun _ => False) := by
  refine Met.ofW (cc := cQ_quotientAt) (maxL := 4) (ret := (.some .int)) (by decide) rfl ?_
  intro p e s m args below meth c s₁ B hml hv
  obtain ⟨rfl, hP, hK⟩ := hv
  have F : CallFix p m c cQ_quotientAt 4 s _ zT RQ := ⟨B.exec, B.bytes, hml, findClass_of_methodNamed B.named, fun w h => atoms_spec (ws := (zW yQ_quotientAt cQ_quotientAt 4 (.some .int))) B.pre w (List.mem_cons_of_mem _ h)⟩
  have hr := B.returns
  have hlocks := B.notSynchronized
  have hl := lv_entry ([.ref h0, .int (nI x)]) (n := 4) (Nat.le_of_ble_eq_true rfl)
  rw [lg_entry_eq]
  generalize (lg_sl ([.ref h0, .int (nI x)]) ++ List.replicate (4 - (lg_sl ([.ref h0, .int (nI x)])).length) Slot.unset).toArray = ls at hl ⊢
  have hl : lv_has ls 4 [(0, .ref h0), (1, .int (nI x))] := hl
  refine z_iconst (v := 0) F (by decide) dQ_quotientAt_0 ?_
  refine lv_istore_n F.1 F.2.1 (lv' := [(2, .int (nI 0)), (0, .ref h0), (1, .int (nI x))]) dQ_quotientAt_1 rfl hl (by decide) rfl (fun ls hl => ?_)
  refine z_bipush (v := 15) F (by decide) dQ_quotientAt_2 ?_
  refine lv_istore_n F.1 F.2.1 (lv' := [(3, .int (nI 15)), (2, .int (nI 0)), (0, .ref h0), (1, .int (nI x))]) dQ_quotientAt_4 rfl hl (by decide) rfl (fun ls hl => ?_)
  have hl : lv_has ls 4 [(3, .int (nI (15 - 0 + 1) + (-1))), (2, .int (nI 0)), (0, .ref h0), (1, .int (nI x))] := hl
  have hl : lv_has ls 4 [(3, .int (nI (16 - 0) + (-1))), (2, .int (nI (sg 0 (fun i => w (16 - 0 + i) * x ^ i) % 998244353))), (0, .ref h0), (1, .int (nI x))] := lv_sub hl [0, 1, 2, 3] rfl
  refine z_up (E := 16) (P := fun t => ∀  (ls : Array Slot), lv_has ls 4 [(3, .int (nI (16 - t) + (-1))), (2, .int (nI (sg t (fun i => w (16 - t + i) * x ^ i) % 998244353))), (0, .ref h0), (1, .int (nI x))] → W p l e _ s m _ below meth c s.heap [] _ _ _ (F0 m 5 ls [])) ?_ 0 (Nat.zero_le _)  ls  hl
  intro t ht ih  ls  hl
  by_cases h16 : t = 16
  · subst h16
    refine lv_iload_n F.1 F.2.1 dQ_quotientAt_5 rfl (lv_at hl 0 rfl) ?_
    refine lv_if_lt F.1 F.2.1 (tgt := 30) dQ_quotientAt_6 rfl (fun h => ?_) (fun h => absurd (by decide) h)
    refine lv_iload_n F.1 F.2.1 dQ_quotientAt_30 rfl (lv_at hl 1 rfl) ?_
    refine z_top (sg 16 (fun i => w i * x ^ i) % 998244353) (by rw [sg_congr (fun i _ => by rw [show 16 - 16 + i = i by omega])]) ?_
    exact W.iret F.1 F.2.1 hr (fun t ht hW => ⟨rfl, ht⟩) (fun _ h => by cases h) dQ_quotientAt_31
  · have hl : lv_has ls 4 [(3, .int (nI (15 - t))), (2, .int (nI (sg t (fun i => w (16 - t + i) * x ^ i) % 998244353))), (0, .ref h0), (1, .int (nI x))] := by rw [show nI (16 - t) + (-1) = nI (15 - t) by rw [show 16 - t = (15 - t) + 1 by omega, pk_m1]] at hl; exact hl
    refine lv_iload_n F.1 F.2.1 dQ_quotientAt_5 rfl (lv_at hl 0 rfl) ?_
    refine lv_if_lt F.1 F.2.1 (tgt := 30) dQ_quotientAt_6 rfl (fun h => absurd h (nI_pos (by omega))) (fun h => ?_)
    refine lv_iload_n F.1 F.2.1 dQ_quotientAt_9 rfl (lv_at hl 1 rfl) ?_
    refine lv_iload_n F.1 F.2.1 dQ_quotientAt_10 rfl (lv_at hl 3 rfl) ?_
    refine z_call (z_runS [.int (nI (sg t (fun i => w (16 - t + i) * x ^ i) % 998244353)), .int (nI x)] [] F (c_product l (sg t (fun i => w (16 - t + i) * x ^ i) % 998244353) x (Nat.lt_trans (ltP _) (by decide)) (Nat.lt_trans (hx) (by decide))) kk_F_product wl_Q_22 rfl rfl ⟨Nat.le_of_ble_eq_true rfl, Nat.le_of_ble_eq_true rfl⟩ z_preN rfl hl.1 rfl (Nat.le_of_ble_eq_true rfl) dQ_quotientAt_11 ⟨Nat.zero_le _, Nat.zero_le _⟩) ?_
    refine lv_aload_n F.1 F.2.1 dQ_quotientAt_14 rfl (lv_at hl 2 rfl) ?_
    refine z_get F hK hP hinQ q1 e1 rfl 1 (by decide) rfl wf_Q_15 rfl dQ_quotientAt_15 ?_
    refine lv_iload_n F.1 F.2.1 dQ_quotientAt_18 rfl (lv_at hl 0 rfl) ?_
    refine z_iald F hK hP q2 0 e2 rfl (by omega) (by decide) dQ_quotientAt_19 ?_
    refine z_call (z_runS [.int (nI ((sg t (fun i => w (16 - t + i) * x ^ i) % 998244353) * x % 998244353)), .int (nI (w (15 - t)))] [] F (c_sum l ((sg t (fun i => w (16 - t + i) * x ^ i) % 998244353) * x % 998244353) (w (15 - t)) (ltP _) (hw _)) kk_F_sum wl_Q_28 rfl rfl ⟨Nat.le_of_ble_eq_true rfl, Nat.le_of_ble_eq_true rfl⟩ z_preN rfl hl.1 rfl (Nat.le_of_ble_eq_true rfl) dQ_quotientAt_20 ⟨Nat.zero_le _, Nat.zero_le _⟩) ?_
    refine z_top (sg (t + 1) (fun i => w (16 - (t + 1) + i) * x ^ i) % 998244353) (hor1 t x w (by omega)) ?_
    refine lv_istore_n F.1 F.2.1 (lv' := [(2, .int (nI (sg (t + 1) (fun i => w (16 - (t + 1) + i) * x ^ i) % 998244353))), (3, .int (nI (15 - t))), (0, .ref h0), (1, .int (nI x))]) dQ_quotientAt_23 rfl hl (by decide) rfl (fun ls hl => ?_)
    refine lv_iinc F.1 F.2.1 (k := 1) (v := nI (15 - t) + (-1)) (lv' := [(3, .int (nI (15 - t) + (-1))), (2, .int (nI (sg (t + 1) (fun i => w (16 - (t + 1) + i) * x ^ i) % 998244353))), (0, .ref h0), (1, .int (nI x))]) dQ_quotientAt_24 hl rfl rfl (by decide) rfl (fun ls hl => ?_)
    have hl : lv_has ls 4 [(3, .int (nI (16 - (t + 1)) + (-1))), (2, .int (nI (sg (t + 1) (fun i => w (16 - (t + 1) + i) * x ^ i) % 998244353))), (0, .ref h0), (1, .int (nI x))] := by rw [show nI (15 - t) + (-1) = nI (16 - (t + 1)) + (-1) by rw [show 16 - (t + 1) = 15 - t by omega]] at hl; exact hl
    refine lv_goto F.1 F.2.1 (tgt := 5) dQ_quotientAt_27 rfl ?_
    have hl : lv_has ls 4 [(3, .int (nI (16 - (t + 1)) + (-1))), (2, .int (nI (sg (t + 1) (fun i => w (16 - (t + 1) + i) * x ^ i) % 998244353))), (0, .ref h0), (1, .int (nI x))] := lv_sub hl [0, 1, 2, 3] rfl
    exact ih (by omega)  ls  hl
