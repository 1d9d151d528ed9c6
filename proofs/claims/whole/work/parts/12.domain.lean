theorem z_jk {j k : Nat} (hj : j < 16) (hk : k < 16) : j * k < 2 ^ 31 := by
  have := Nat.mul_le_mul (show j ≤ 16 by omega) (show k ≤ 16 by omega)
  omega
theorem z_mask {kk : Nat} (h : kk ≤ 4) : (nI (2 ^ kk - 1)).toBitVec.toNat = 2 ^ kk - 1 := pk_tn (by
  have := Nat.pow_le_pow_right (show 0 < 2 by decide) h
  omega)
theorem geo1 (i t : Nat) : (sg i (fun k => t ^ k) % 998244353 * t % 998244353 + 1) % 998244353 = sg (i + 1) (fun k => t ^ k) % 998244353 := by
  rw [sg_geo]
  exact ((cg.md _).tr (cg.ml t (cg.md _))).add (cg.rf 1)
set_option maxHeartbeats 4000000 in
set_option maxRecDepth 100000 in
theorem c_size (l : Launch) (dC : Nat → ClassId) (dI : Nat → Nat → Nat) (cI cL : ClassId) (ws : va_W) (q1 : Nat) (h0 hB sz ov : Nat) (e1 : ws[q1]? = some (h0, .inr (1, [.ref hB, .int (nI sz), .int (nI ov)])))  : Met l yD_size (zW yD_size cD_size 1 (.some .int)) ({ frames := 0, cells := 0, slots := 0, locals := 0 }) (va_Pc [.ref h0] (z_R (dC, dI) vwCl [(cI, .int), (cL, .long)] ws)) (k2_QcV (.int (nI sz))) 0 0 (fun _ => False) := by
  refine Met.ofW (cc := cD_size) (maxL := 1) (ret := (.some .int)) (by decide) rfl ?_
  intro p e s m args below meth c s₁ B hml hv
  obtain ⟨rfl, hP, hK⟩ := hv
  have F : CallFix p m c cD_size 1 s _ zT RD := ⟨B.exec, B.bytes, hml, findClass_of_methodNamed B.named, fun w h => atoms_spec (ws := (zW yD_size cD_size 1 (.some .int))) B.pre w (List.mem_cons_of_mem _ h)⟩
  have hr := B.returns
  have hlocks := B.notSynchronized
  have hl := lv_entry ([.ref h0]) (n := 1) (Nat.le_of_ble_eq_true rfl)
  rw [lg_entry_eq]
  generalize (lg_sl ([.ref h0]) ++ List.replicate (1 - (lg_sl ([.ref h0])).length) Slot.unset).toArray = ls at hl ⊢
  have hl : lv_has ls 1 [(0, .ref h0)] := hl
  refine lv_aload_n F.1 F.2.1 dD_size_0 rfl (lv_at hl 0 rfl) ?_
  refine z_get F hK hP hinD q1 e1 rfl 1 (by decide) rfl wf_D_19 rfl dD_size_1 ?_
  exact W.iret F.1 F.2.1 hr (fun t ht hW => ⟨rfl, ht⟩) (fun _ h => by cases h) dD_size_4
set_option maxHeartbeats 4000000 in
set_option maxRecDepth 100000 in
theorem c_vanishingAt (l : Launch) (dC : Nat → ClassId) (dI : Nat → Nat → Nat) (cI cL : ClassId) (ws : va_W) (q1 : Nat) (h0 hB sz ov x : Nat) (e1 : ws[q1]? = some (h0, .inr (1, [.ref hB, .int (nI sz), .int (nI ov)]))) (hz : sz < 2 ^ 31) (hx : x < 2 ^ 31) : Met l yD_vanishingAt (zW yD_vanishingAt cD_vanishingAt 2 (.some .int)) ({ frames := 2, cells := 0, slots := 0, locals := 45 }) (va_Pc [.ref h0, .int (nI x)] (z_R (dC, dI) vwCl [(cI, .int), (cL, .long)] ws)) (k2_QcV (.int (nI ((pw x sz + 998244353 - 1) % 998244353)))) 0 0 (fun _ => False) := by
  refine Met.ofW (cc := cD_vanishingAt) (maxL := 2) (ret := (.some .int)) (by decide) rfl ?_
  intro p e s m args below meth c s₁ B hml hv
  obtain ⟨rfl, hP, hK⟩ := hv
  have F : CallFix p m c cD_vanishingAt 2 s _ zT RD := ⟨B.exec, B.bytes, hml, findClass_of_methodNamed B.named, fun w h => atoms_spec (ws := (zW yD_vanishingAt cD_vanishingAt 2 (.some .int))) B.pre w (List.mem_cons_of_mem _ h)⟩
  have hr := B.returns
  have hlocks := B.notSynchronized
  have hl := lv_entry ([.ref h0, .int (nI x)]) (n := 2) (Nat.le_of_ble_eq_true rfl)
  rw [lg_entry_eq]
  generalize (lg_sl ([.ref h0, .int (nI x)]) ++ List.replicate (2 - (lg_sl ([.ref h0, .int (nI x)])).length) Slot.unset).toArray = ls at hl ⊢
  have hl : lv_has ls 2 [(0, .ref h0), (1, .int (nI x))] := hl
  refine lv_iload_n F.1 F.2.1 dD_vanishingAt_0 rfl (lv_at hl 1 rfl) ?_
  refine lv_aload_n F.1 F.2.1 dD_vanishingAt_1 rfl (lv_at hl 0 rfl) ?_
  refine z_get F hK hP hinD q1 e1 rfl 1 (by decide) rfl wf_D_19 rfl dD_vanishingAt_2 ?_
  refine z_call (z_runS [.int (nI x), .int (nI sz)] [] F (c_power l x sz hx hz) kk_F_power wl_D_33 rfl rfl ⟨Nat.le_of_ble_eq_true rfl, Nat.le_of_ble_eq_true rfl⟩ z_preN rfl hl.1 rfl (Nat.le_of_ble_eq_true rfl) dD_vanishingAt_5 ⟨Nat.zero_le _, Nat.zero_le _⟩) ?_
  refine z_iconst (v := 1) F (by decide) dD_vanishingAt_8 ?_
  refine z_call (z_runS [.int (nI (pw x sz)), .int (nI 1)] [] F (c_difference l (pw x sz) 1 (pw_lt _ _) (by decide)) kk_F_difference wl_D_39 rfl rfl ⟨Nat.le_of_ble_eq_true rfl, Nat.le_of_ble_eq_true rfl⟩ z_preN rfl hl.1 rfl (Nat.le_of_ble_eq_true rfl) dD_vanishingAt_9 ⟨Nat.zero_le _, Nat.zero_le _⟩) ?_
  exact W.iret F.1 F.2.1 hr (fun t ht hW => ⟨rfl, ht⟩) (fun _ h => by cases h) dD_vanishingAt_12
set_option maxHeartbeats 4000000 in
set_option maxRecDepth 100000 in
theorem c_coefficient (l : Launch) (dC : Nat → ClassId) (dI : Nat → Nat → Nat) (cI cL : ClassId) (ws : va_W) (q1 q2 q3 : Nat) (h0 hB hV sz ov : Nat) (b d : Nat → Nat) (k : Nat) (e1 : ws[q1]? = some (h0, .inr (1, [.ref hB, .int (nI sz), .int (nI ov)]))) (e2 : ws[q2]? = some (hB, .inl (cI, 16, .inl (fun j => nI (b j))))) (e3 : ws[q3]? = some (hV, .inl (cI, 16, .inl (fun j => nI (d j))))) (hd : ∀ j, d j < 998244353) (hb : ∀ j, b j < 998244353) (ho : ov < 998244353) (hk : k < 16) (kk : Nat) (h4 : kk ≤ 4) (hz : sz = 2 ^ kk) : Met l yD_coefficient (zW yD_coefficient cD_coefficient 5 (.some .int)) ({ frames := 1, cells := 0, slots := 0, locals := 22 }) (va_Pc [.ref h0, .ref hV, .int (nI k)] (z_R (dC, dI) vwCl [(cI, .int), (cL, .long)] ws)) (k2_QcV (.int (nI (sg sz (fun t => d t * b (t * k % sz)) % 998244353 * ov % 998244353)))) 0 0 (fun _ => False) := by
  refine Met.ofW (cc := cD_coefficient) (maxL := 5) (ret := (.some .int)) (by decide) rfl ?_
  intro p e s m args below meth c s₁ B hml hv
  obtain ⟨rfl, hP, hK⟩ := hv
  have F : CallFix p m c cD_coefficient 5 s _ zT RD := ⟨B.exec, B.bytes, hml, findClass_of_methodNamed B.named, fun w h => atoms_spec (ws := (zW yD_coefficient cD_coefficient 5 (.some .int))) B.pre w (List.mem_cons_of_mem _ h)⟩
  have hr := B.returns
  have hlocks := B.notSynchronized
  have hl := lv_entry ([.ref h0, .ref hV, .int (nI k)]) (n := 5) (Nat.le_of_ble_eq_true rfl)
  rw [lg_entry_eq]
  generalize (lg_sl ([.ref h0, .ref hV, .int (nI k)]) ++ List.replicate (5 - (lg_sl ([.ref h0, .ref hV, .int (nI k)])).length) Slot.unset).toArray = ls at hl ⊢
  have hl : lv_has ls 5 [(0, .ref h0), (1, .ref hV), (2, .int (nI k))] := hl
  have hs : sz ≤ 16 := by rw [hz]; exact Nat.pow_le_pow_right (by decide) h4
  have hp : 0 < sz := by rw [hz]; exact Nat.two_pow_pos kk
  refine z_iconst (v := 0) F (by decide) dD_coefficient_0 ?_
  refine lv_istore_n F.1 F.2.1 (lv' := [(3, .int (nI 0)), (0, .ref h0), (1, .ref hV), (2, .int (nI k))]) dD_coefficient_1 rfl hl (by decide) rfl (fun ls hl => ?_)
  refine z_iconst (v := 0) F (by decide) dD_coefficient_2 ?_
  refine lv_istore F.1 F.2.1 (lv' := [(4, .int (nI 0)), (3, .int (nI 0)), (0, .ref h0), (1, .ref hV), (2, .int (nI k))]) dD_coefficient_3 hl (by decide) rfl (fun ls hl => ?_)
  have hl : lv_has ls 5 [(4, .int (nI 0)), (3, .int (nI (sg 0 (fun t => d t * b (t * k % sz)) % 998244353))), (0, .ref h0), (1, .ref hV), (2, .int (nI k))] := lv_sub hl [0, 1, 2, 3, 4] rfl
  refine z_up (E := sz) (P := fun j => ∀  (ls : Array Slot), lv_has ls 5 [(4, .int (nI j)), (3, .int (nI (sg j (fun t => d t * b (t * k % sz)) % 998244353))), (0, .ref h0), (1, .ref hV), (2, .int (nI k))] → W p l e _ s m _ below meth c s.heap [] _ _ _ (F0 m 5 ls [])) ?_ 0 (Nat.zero_le _)  ls  hl
  intro j hj ih  ls  hl
  refine lv_iload F.1 F.2.1 dD_coefficient_5 (lv_at hl 0 rfl) ?_
  refine lv_aload_n F.1 F.2.1 dD_coefficient_7 rfl (lv_at hl 2 rfl) ?_
  refine z_get F hK hP hinD q1 e1 rfl 1 (by decide) rfl wf_D_19 rfl dD_coefficient_8 ?_
  refine z_icmp_ge F (by omega) (by omega) (tgt := 48) dD_coefficient_11 rfl (fun h1 => ?_) (fun h1 => ?_)
  · refine lv_iload_n F.1 F.2.1 dD_coefficient_48 rfl (lv_at hl 1 rfl) ?_
    refine lv_aload_n F.1 F.2.1 dD_coefficient_49 rfl (lv_at hl 2 rfl) ?_
    refine z_get F hK hP hinD q1 e1 rfl 2 (by decide) rfl wf_D_30 rfl dD_coefficient_50 ?_
    refine z_call (z_runS [.int (nI (sg j (fun t => d t * b (t * k % sz)) % 998244353)), .int (nI ov)] [] F (c_product l (sg j (fun t => d t * b (t * k % sz)) % 998244353) ov (Nat.lt_trans (ltP _) (by decide)) (Nat.lt_trans (ho) (by decide))) kk_F_product wl_D_36 rfl rfl ⟨Nat.le_of_ble_eq_true rfl, Nat.le_of_ble_eq_true rfl⟩ z_preN rfl hl.1 rfl (Nat.le_of_ble_eq_true rfl) dD_coefficient_53 ⟨Nat.zero_le _, Nat.zero_le _⟩) ?_
    refine z_top (sg sz (fun t => d t * b (t * k % sz)) % 998244353 * ov % 998244353) (by rw [show j = sz by omega]) ?_
    exact W.iret F.1 F.2.1 hr (fun t ht hW => ⟨rfl, ht⟩) (fun _ h => by cases h) dD_coefficient_56
  · have hjk := z_jk (j := j) (k := k) (by omega) hk
    refine lv_iload_n F.1 F.2.1 dD_coefficient_14 rfl (lv_at hl 1 rfl) ?_
    refine lv_aload_n F.1 F.2.1 dD_coefficient_15 rfl (lv_at hl 3 rfl) ?_
    refine lv_iload F.1 F.2.1 dD_coefficient_16 (lv_at hl 0 rfl) ?_
    refine z_iald F hK hP q3 0 e3 rfl (by omega) (by decide) dD_coefficient_18 ?_
    refine lv_aload_n F.1 F.2.1 dD_coefficient_19 rfl (lv_at hl 2 rfl) ?_
    refine z_get F hK hP hinD q1 e1 rfl 0 (by decide) rfl wf_D_9 rfl dD_coefficient_20 ?_
    refine lv_iload F.1 F.2.1 dD_coefficient_23 (lv_at hl 0 rfl) ?_
    refine lv_iload_n F.1 F.2.1 dD_coefficient_25 rfl (lv_at hl 4 rfl) ?_
    refine z_imul F dD_coefficient_26 ?_
    refine lv_aload_n F.1 F.2.1 dD_coefficient_27 rfl (lv_at hl 2 rfl) ?_
    refine z_get F hK hP hinD q1 e1 rfl 1 (by decide) rfl wf_D_19 rfl dD_coefficient_28 ?_
    refine z_iconst (v := 1) F (by decide) dD_coefficient_31 ?_
    refine z_isub F (by omega) dD_coefficient_32 ?_
    refine z_iand F kk (by omega) (by rw [hz]; exact z_mask h4) dD_coefficient_33 ?_
    refine z_top (j * k % sz) (by rw [hz]) ?_
    have hlt : j * k % sz < sz := Nat.mod_lt _ hp
    refine z_iald F hK hP q2 0 e2 rfl (by omega) (by decide) dD_coefficient_34 ?_
    refine z_call (z_runS [.int (nI (d j)), .int (nI (b (j * k % sz)))] [.int (nI (sg j (fun t => d t * b (t * k % sz)) % 998244353))] F (c_product l (d j) (b (j * k % sz)) (Nat.lt_trans (hd _) (by decide)) (Nat.lt_trans (hb _) (by decide))) kk_F_product wl_D_36 rfl rfl ⟨Nat.le_of_ble_eq_true rfl, Nat.le_of_ble_eq_true rfl⟩ z_preN rfl hl.1 rfl (Nat.le_of_ble_eq_true rfl) dD_coefficient_35 ⟨Nat.zero_le _, Nat.zero_le _⟩) ?_
    refine z_call (z_runS [.int (nI (sg j (fun t => d t * b (t * k % sz)) % 998244353)), .int (nI ((d j) * (b (j * k % sz)) % 998244353))] [] F (c_sum l (sg j (fun t => d t * b (t * k % sz)) % 998244353) ((d j) * (b (j * k % sz)) % 998244353) (ltP _) (ltP _)) kk_F_sum wl_D_42 rfl rfl ⟨Nat.le_of_ble_eq_true rfl, Nat.le_of_ble_eq_true rfl⟩ z_preN rfl hl.1 rfl (Nat.le_of_ble_eq_true rfl) dD_coefficient_38 ⟨Nat.zero_le _, Nat.zero_le _⟩) ?_
    refine z_top (sg (j + 1) (fun t => d t * b (t * k % sz)) % 998244353) (sm1 j (fun t => d t * b (t * k % sz))) ?_
    refine lv_istore_n F.1 F.2.1 (lv' := [(3, .int (nI (sg (j + 1) (fun t => d t * b (t * k % sz)) % 998244353))), (4, .int (nI j)), (0, .ref h0), (1, .ref hV), (2, .int (nI k))]) dD_coefficient_41 rfl hl (by decide) rfl (fun ls hl => ?_)
    refine lv_iinc F.1 F.2.1 (k := 1) (v := nI (j + 1)) (lv' := [(4, .int (nI (j + 1))), (3, .int (nI (sg (j + 1) (fun t => d t * b (t * k % sz)) % 998244353))), (0, .ref h0), (1, .ref hV), (2, .int (nI k))]) dD_coefficient_42 hl rfl (nI_1 j) (by decide) rfl (fun ls hl => ?_)
    refine lv_goto F.1 F.2.1 (tgt := 5) dD_coefficient_45 rfl ?_
    have hl : lv_has ls 5 [(4, .int (nI ((j + 1)))), (3, .int (nI (sg (j + 1) (fun t => d t * b (t * k % sz)) % 998244353))), (0, .ref h0), (1, .ref hV), (2, .int (nI k))] := lv_sub hl [0, 1, 2, 3, 4] rfl
    exact ih (by omega)  ls  hl
set_option maxHeartbeats 4000000 in
set_option maxRecDepth 100000 in
theorem c_weight (l : Launch) (dC : Nat → ClassId) (dI : Nat → Nat → Nat) (cI cL : ClassId) (ws : va_W) (q1 q2 : Nat) (h0 hB sz ov : Nat) (b : Nat → Nat) (j x : Nat) (e1 : ws[q1]? = some (h0, .inr (1, [.ref hB, .int (nI sz), .int (nI ov)]))) (e2 : ws[q2]? = some (hB, .inl (cI, 16, .inl (fun j => nI (b j))))) (hb : ∀ j, b j < 998244353) (ho : ov < 998244353) (hj : j < 16) (hx : x < 998244353) (hz : sz ≤ 16) : Met l yD_weight (zW yD_weight cD_weight 6 (.some .int)) ({ frames := 1, cells := 0, slots := 0, locals := 22 }) (va_Pc [.ref h0, .int (nI j), .int (nI x)] (z_R (dC, dI) vwCl [(cI, .int), (cL, .long)] ws)) (k2_QcV (.int (nI (sg sz (fun k => (x * b j % 998244353) ^ k) % 998244353 * ov % 998244353)))) 0 0 (fun _ => False) := by
  refine Met.ofW (cc := cD_weight) (maxL := 6) (ret := (.some .int)) (by decide) rfl ?_
  intro p e s m args below meth c s₁ B hml hv
  obtain ⟨rfl, hP, hK⟩ := hv
  have F : CallFix p m c cD_weight 6 s _ zT RD := ⟨B.exec, B.bytes, hml, findClass_of_methodNamed B.named, fun w h => atoms_spec (ws := (zW yD_weight cD_weight 6 (.some .int))) B.pre w (List.mem_cons_of_mem _ h)⟩
  have hr := B.returns
  have hlocks := B.notSynchronized
  have hl := lv_entry ([.ref h0, .int (nI j), .int (nI x)]) (n := 6) (Nat.le_of_ble_eq_true rfl)
  rw [lg_entry_eq]
  generalize (lg_sl ([.ref h0, .int (nI j), .int (nI x)]) ++ List.replicate (6 - (lg_sl ([.ref h0, .int (nI j), .int (nI x)])).length) Slot.unset).toArray = ls at hl ⊢
  have hl : lv_has ls 6 [(0, .ref h0), (1, .int (nI j)), (2, .int (nI x))] := hl
  refine lv_iload_n F.1 F.2.1 dD_weight_0 rfl (lv_at hl 2 rfl) ?_
  refine lv_aload_n F.1 F.2.1 dD_weight_1 rfl (lv_at hl 0 rfl) ?_
  refine z_get F hK hP hinD q1 e1 rfl 0 (by decide) rfl wf_D_9 rfl dD_weight_2 ?_
  refine lv_iload_n F.1 F.2.1 dD_weight_5 rfl (lv_at hl 1 rfl) ?_
  refine z_iald F hK hP q2 0 e2 rfl (by omega) (by decide) dD_weight_6 ?_
  refine z_call (z_runS [.int (nI x), .int (nI (b j))] [] F (c_product l x (b j) (Nat.lt_trans (hx) (by decide)) (Nat.lt_trans (hb _) (by decide))) kk_F_product wl_D_36 rfl rfl ⟨Nat.le_of_ble_eq_true rfl, Nat.le_of_ble_eq_true rfl⟩ z_preN rfl hl.1 rfl (Nat.le_of_ble_eq_true rfl) dD_weight_7 ⟨Nat.zero_le _, Nat.zero_le _⟩) ?_
  refine lv_istore_n F.1 F.2.1 (lv' := [(3, .int (nI (x * b j % 998244353))), (0, .ref h0), (1, .int (nI j)), (2, .int (nI x))]) dD_weight_10 rfl hl (by decide) rfl (fun ls hl => ?_)
  refine z_iconst (v := 0) F (by decide) dD_weight_11 ?_
  refine lv_istore F.1 F.2.1 (lv' := [(4, .int (nI 0)), (3, .int (nI (x * b j % 998244353))), (0, .ref h0), (1, .int (nI j)), (2, .int (nI x))]) dD_weight_12 hl (by decide) rfl (fun ls hl => ?_)
  refine z_iconst (v := 0) F (by decide) dD_weight_14 ?_
  refine lv_istore F.1 F.2.1 (lv' := [(5, .int (nI 0)), (4, .int (nI 0)), (3, .int (nI (x * b j % 998244353))), (0, .ref h0), (1, .int (nI j)), (2, .int (nI x))]) dD_weight_15 hl (by decide) rfl (fun ls hl => ?_)
  have hl : lv_has ls 6 [(5, .int (nI 0)), (4, .int (nI (sg 0 (fun k => (x * b j % 998244353) ^ k) % 998244353))), (0, .ref h0), (1, .int (nI j)), (2, .int (nI x)), (3, .int (nI (x * b j % 998244353)))] := lv_sub hl [0, 1, 3, 4, 5, 2] rfl
  refine z_up (E := sz) (P := fun i => ∀  (ls : Array Slot), lv_has ls 6 [(5, .int (nI i)), (4, .int (nI (sg i (fun k => (x * b j % 998244353) ^ k) % 998244353))), (0, .ref h0), (1, .int (nI j)), (2, .int (nI x)), (3, .int (nI (x * b j % 998244353)))] → W p l e _ s m _ below meth c s.heap [] _ _ _ (F0 m 17 ls [])) ?_ 0 (Nat.zero_le _)  ls  hl
  intro i hi ih  ls  hl
  refine lv_iload F.1 F.2.1 dD_weight_17 (lv_at hl 0 rfl) ?_
  refine lv_aload_n F.1 F.2.1 dD_weight_19 rfl (lv_at hl 2 rfl) ?_
  refine z_get F hK hP hinD q1 e1 rfl 1 (by decide) rfl wf_D_19 rfl dD_weight_20 ?_
  refine z_icmp_ge F (by omega) (by omega) (tgt := 44) dD_weight_23 rfl (fun h1 => ?_) (fun h1 => ?_)
  · refine lv_iload F.1 F.2.1 dD_weight_44 (lv_at hl 1 rfl) ?_
    refine lv_aload_n F.1 F.2.1 dD_weight_46 rfl (lv_at hl 2 rfl) ?_
    refine z_get F hK hP hinD q1 e1 rfl 2 (by decide) rfl wf_D_30 rfl dD_weight_47 ?_
    refine z_call (z_runS [.int (nI (sg i (fun k => (x * b j % 998244353) ^ k) % 998244353)), .int (nI ov)] [] F (c_product l (sg i (fun k => (x * b j % 998244353) ^ k) % 998244353) ov (Nat.lt_trans (ltP _) (by decide)) (Nat.lt_trans (ho) (by decide))) kk_F_product wl_D_36 rfl rfl ⟨Nat.le_of_ble_eq_true rfl, Nat.le_of_ble_eq_true rfl⟩ z_preN rfl hl.1 rfl (Nat.le_of_ble_eq_true rfl) dD_weight_50 ⟨Nat.zero_le _, Nat.zero_le _⟩) ?_
    refine z_top (sg sz (fun k => (x * b j % 998244353) ^ k) % 998244353 * ov % 998244353) (by rw [show i = sz by omega]) ?_
    exact W.iret F.1 F.2.1 hr (fun t ht hW => ⟨rfl, ht⟩) (fun _ h => by cases h) dD_weight_53
  · refine lv_iload F.1 F.2.1 dD_weight_26 (lv_at hl 1 rfl) ?_
    refine lv_iload_n F.1 F.2.1 dD_weight_28 rfl (lv_at hl 5 rfl) ?_
    refine z_call (z_runS [.int (nI (sg i (fun k => (x * b j % 998244353) ^ k) % 998244353)), .int (nI (x * b j % 998244353))] [] F (c_product l (sg i (fun k => (x * b j % 998244353) ^ k) % 998244353) (x * b j % 998244353) (Nat.lt_trans (ltP _) (by decide)) (Nat.lt_trans (ltP _) (by decide))) kk_F_product wl_D_36 rfl rfl ⟨Nat.le_of_ble_eq_true rfl, Nat.le_of_ble_eq_true rfl⟩ z_preN rfl hl.1 rfl (Nat.le_of_ble_eq_true rfl) dD_weight_29 ⟨Nat.zero_le _, Nat.zero_le _⟩) ?_
    refine z_iconst (v := 1) F (by decide) dD_weight_32 ?_
    refine z_call (z_runS [.int (nI ((sg i (fun k => (x * b j % 998244353) ^ k) % 998244353) * (x * b j % 998244353) % 998244353)), .int (nI 1)] [] F (c_sum l ((sg i (fun k => (x * b j % 998244353) ^ k) % 998244353) * (x * b j % 998244353) % 998244353) 1 (ltP _) (by decide)) kk_F_sum wl_D_42 rfl rfl ⟨Nat.le_of_ble_eq_true rfl, Nat.le_of_ble_eq_true rfl⟩ z_preN rfl hl.1 rfl (Nat.le_of_ble_eq_true rfl) dD_weight_33 ⟨Nat.zero_le _, Nat.zero_le _⟩) ?_
    refine z_top (sg (i + 1) (fun k => (x * b j % 998244353) ^ k) % 998244353) (geo1 i (x * b j % 998244353)) ?_
    refine lv_istore F.1 F.2.1 (lv' := [(4, .int (nI (sg (i + 1) (fun k => (x * b j % 998244353) ^ k) % 998244353))), (5, .int (nI i)), (0, .ref h0), (1, .int (nI j)), (2, .int (nI x)), (3, .int (nI (x * b j % 998244353)))]) dD_weight_36 hl (by decide) rfl (fun ls hl => ?_)
    refine lv_iinc F.1 F.2.1 (k := 1) (v := nI (i + 1)) (lv' := [(5, .int (nI (i + 1))), (4, .int (nI (sg (i + 1) (fun k => (x * b j % 998244353) ^ k) % 998244353))), (0, .ref h0), (1, .int (nI j)), (2, .int (nI x)), (3, .int (nI (x * b j % 998244353)))]) dD_weight_38 hl rfl (nI_1 i) (by decide) rfl (fun ls hl => ?_)
    refine lv_goto F.1 F.2.1 (tgt := 17) dD_weight_41 rfl ?_
    have hl : lv_has ls 6 [(5, .int (nI ((i + 1)))), (4, .int (nI (sg (i + 1) (fun k => (x * b j % 998244353) ^ k) % 998244353))), (0, .ref h0), (1, .int (nI j)), (2, .int (nI x)), (3, .int (nI (x * b j % 998244353)))] := lv_sub hl [0, 1, 2, 3, 4, 5] rfl
    exact ih (by omega)  ls  hl
