set_option maxHeartbeats 4000000 in
set_option maxRecDepth 100000 in
theorem c_sum (l : Launch) (a b : Nat) (ha : a < 998244353) (hb : b < 998244353) : Met l yF_sum (zW yF_sum cF_sum 3 (.some .int)) ({ frames := 0, cells := 0, slots := 0, locals := 0 }) (va_Pc [.int (nI a), .int (nI b)] (fun _ => True)) (k2_QcV (.int (nI ((a + b) % 998244353)))) 0 0 (fun _ => False) := by
  refine Met.ofW (cc := cF_sum) (maxL := 3) (ret := (.some .int)) (by decide) rfl ?_
  intro p e s m args below meth c s₁ B hml hv
  obtain ⟨rfl, -⟩ := hv
  have F : CallFix p m c cF_sum 3 s _ zT RF := ⟨B.exec, B.bytes, hml, findClass_of_methodNamed B.named, fun w h => atoms_spec (ws := (zW yF_sum cF_sum 3 (.some .int))) B.pre w (List.mem_cons_of_mem _ h)⟩
  have hr := B.returns
  have hlocks := B.notSynchronized
  have hl := lv_entry ([.int (nI a), .int (nI b)]) (n := 3) (Nat.le_of_ble_eq_true rfl)
  rw [lg_entry_eq]
  generalize (lg_sl ([.int (nI a), .int (nI b)]) ++ List.replicate (3 - (lg_sl ([.int (nI a), .int (nI b)])).length) Slot.unset).toArray = ls at hl ⊢
  have hl : lv_has ls 3 [(0, .int (nI a)), (1, .int (nI b))] := hl
  refine lv_iload_n F.1 F.2.1 dF_sum_0 rfl (lv_at hl 0 rfl) ?_
  refine lv_iload_n F.1 F.2.1 dF_sum_1 rfl (lv_at hl 1 rfl) ?_
  refine z_iadd F dF_sum_2 ?_
  refine lv_istore_n F.1 F.2.1 (lv' := [(2, .int (nI (a + b))), (0, .int (nI a)), (1, .int (nI b))]) dF_sum_3 rfl hl (by decide) rfl (fun ls hl => ?_)
  refine lv_iload_n F.1 F.2.1 dF_sum_4 rfl (lv_at hl 0 rfl) ?_
  refine z_ldc F 998244353 (v0 := 998244353) wk_F_9 rfl dF_sum_5 ?_
  refine z_icmp_lt F (by omega) (by omega) (tgt := 17) dF_sum_7 rfl (fun h => ?_) (fun h => ?_)
  · refine lv_iload_n F.1 F.2.1 dF_sum_17 rfl (lv_at hl 0 rfl) ?_
    refine z_top ((a + b) % 998244353) (by omega) ?_
    exact W.iret F.1 F.2.1 hr (fun t ht hW => ⟨rfl, ht⟩) (fun _ h => by cases h) dF_sum_18
  · refine lv_iload_n F.1 F.2.1 dF_sum_10 rfl (lv_at hl 0 rfl) ?_
    refine z_ldc F 998244353 (v0 := 998244353) wk_F_9 rfl dF_sum_11 ?_
    refine z_isub F (by omega) dF_sum_13 ?_
    refine lv_goto F.1 F.2.1 (tgt := 18) dF_sum_14 rfl ?_
    refine z_top ((a + b) % 998244353) (by omega) ?_
    exact W.iret F.1 F.2.1 hr (fun t ht hW => ⟨rfl, ht⟩) (fun _ h => by cases h) dF_sum_18
set_option maxHeartbeats 4000000 in
set_option maxRecDepth 100000 in
theorem c_difference (l : Launch) (a b : Nat) (ha : a < 998244353) (hb : b < 998244353) : Met l yF_difference (zW yF_difference cF_difference 2 (.some .int)) ({ frames := 0, cells := 0, slots := 0, locals := 0 }) (va_Pc [.int (nI a), .int (nI b)] (fun _ => True)) (k2_QcV (.int (nI ((a + 998244353 - b) % 998244353)))) 0 0 (fun _ => False) := by
  refine Met.ofW (cc := cF_difference) (maxL := 2) (ret := (.some .int)) (by decide) rfl ?_
  intro p e s m args below meth c s₁ B hml hv
  obtain ⟨rfl, -⟩ := hv
  have F : CallFix p m c cF_difference 2 s _ zT RF := ⟨B.exec, B.bytes, hml, findClass_of_methodNamed B.named, fun w h => atoms_spec (ws := (zW yF_difference cF_difference 2 (.some .int))) B.pre w (List.mem_cons_of_mem _ h)⟩
  have hr := B.returns
  have hlocks := B.notSynchronized
  have hl := lv_entry ([.int (nI a), .int (nI b)]) (n := 2) (Nat.le_of_ble_eq_true rfl)
  rw [lg_entry_eq]
  generalize (lg_sl ([.int (nI a), .int (nI b)]) ++ List.replicate (2 - (lg_sl ([.int (nI a), .int (nI b)])).length) Slot.unset).toArray = ls at hl ⊢
  have hl : lv_has ls 2 [(0, .int (nI a)), (1, .int (nI b))] := hl
  refine lv_iload_n F.1 F.2.1 dF_difference_0 rfl (lv_at hl 0 rfl) ?_
  refine lv_iload_n F.1 F.2.1 dF_difference_1 rfl (lv_at hl 1 rfl) ?_
  refine z_icmp_lt F (by omega) (by omega) (tgt := 11) dF_difference_2 rfl (fun h => ?_) (fun h => ?_)
  · refine lv_iload_n F.1 F.2.1 dF_difference_11 rfl (lv_at hl 0 rfl) ?_
    refine lv_iload_n F.1 F.2.1 dF_difference_12 rfl (lv_at hl 1 rfl) ?_
    refine lv_isub F.1 F.2.1 dF_difference_13 ?_
    refine z_ldc F 998244353 (v0 := 998244353) wk_F_9 rfl dF_difference_14 ?_
    refine lv_iadd F.1 F.2.1 dF_difference_16 ?_
    refine z_topI ((a + 998244353 - b) % 998244353) (by rw [z_subadd (by omega)]; exact congrArg nI (by omega)) ?_
    exact W.iret F.1 F.2.1 hr (fun t ht hW => ⟨rfl, ht⟩) (fun _ h => by cases h) dF_difference_17
  · refine lv_iload_n F.1 F.2.1 dF_difference_5 rfl (lv_at hl 0 rfl) ?_
    refine lv_iload_n F.1 F.2.1 dF_difference_6 rfl (lv_at hl 1 rfl) ?_
    refine z_isub F (by omega) dF_difference_7 ?_
    refine lv_goto F.1 F.2.1 (tgt := 17) dF_difference_8 rfl ?_
    refine z_top ((a + 998244353 - b) % 998244353) (by omega) ?_
    exact W.iret F.1 F.2.1 hr (fun t ht hW => ⟨rfl, ht⟩) (fun _ h => by cases h) dF_difference_17
set_option maxHeartbeats 4000000 in
set_option maxRecDepth 100000 in
theorem c_product (l : Launch) (a b : Nat) (ha : a < 2 ^ 31) (hb : b < 2 ^ 31) : Met l yF_product (zW yF_product cF_product 2 (.some .int)) ({ frames := 0, cells := 0, slots := 0, locals := 0 }) (va_Pc [.int (nI a), .int (nI b)] (fun _ => True)) (k2_QcV (.int (nI (a * b % 998244353)))) 0 0 (fun _ => False) := by
  refine Met.ofW (cc := cF_product) (maxL := 2) (ret := (.some .int)) (by decide) rfl ?_
  intro p e s m args below meth c s₁ B hml hv
  obtain ⟨rfl, -⟩ := hv
  have F : CallFix p m c cF_product 2 s _ zT RF := ⟨B.exec, B.bytes, hml, findClass_of_methodNamed B.named, fun w h => atoms_spec (ws := (zW yF_product cF_product 2 (.some .int))) B.pre w (List.mem_cons_of_mem _ h)⟩
  have hr := B.returns
  have hlocks := B.notSynchronized
  have hl := lv_entry ([.int (nI a), .int (nI b)]) (n := 2) (Nat.le_of_ble_eq_true rfl)
  rw [lg_entry_eq]
  generalize (lg_sl ([.int (nI a), .int (nI b)]) ++ List.replicate (2 - (lg_sl ([.int (nI a), .int (nI b)])).length) Slot.unset).toArray = ls at hl ⊢
  have hl : lv_has ls 2 [(0, .int (nI a)), (1, .int (nI b))] := hl
  have hm := z_mb ha hb
  refine lv_iload_n F.1 F.2.1 dF_product_0 rfl (lv_at hl 0 rfl) ?_
  refine z_i2l F (by omega) dF_product_1 ?_
  refine lv_iload_n F.1 F.2.1 dF_product_2 rfl (lv_at hl 1 rfl) ?_
  refine z_i2l F (by omega) dF_product_3 ?_
  refine z_lmul F dF_product_4 ?_
  refine z_ldc2 F 998244353 (v0 := 998244353) wk_F_10 rfl dF_product_5 ?_
  refine z_lrem F (by omega) (by omega) (by omega) dF_product_8 ?_
  refine z_l2i F dF_product_9 ?_
  exact W.iret F.1 F.2.1 hr (fun t ht hW => ⟨rfl, ht⟩) (fun _ h => by cases h) dF_product_10
set_option maxHeartbeats 4000000 in
set_option maxRecDepth 100000 in
theorem c_power (l : Launch) (b x : Nat) (hb : b < 2 ^ 31) (he : x < 2 ^ 31) : Met l yF_power (zW yF_power cF_power 5 (.some .int)) ({ frames := 1, cells := 0, slots := 0, locals := 21 }) (va_Pc [.int (nI b), .int (nI x)] (fun _ => True)) (k2_QcV (.int (nI (pw b x)))) 0 0 (fun _ => False) := by
  refine Met.ofW (cc := cF_power) (maxL := 5) (ret := (.some .int)) (by decide) rfl ?_
  intro p e s m args below meth c s₁ B hml hv
  obtain ⟨rfl, -⟩ := hv
  have F : CallFix p m c cF_power 5 s _ zT RF := ⟨B.exec, B.bytes, hml, findClass_of_methodNamed B.named, fun w h => atoms_spec (ws := (zW yF_power cF_power 5 (.some .int))) B.pre w (List.mem_cons_of_mem _ h)⟩
  have hr := B.returns
  have hlocks := B.notSynchronized
  have hl := lv_entry ([.int (nI b), .int (nI x)]) (n := 5) (Nat.le_of_ble_eq_true rfl)
  rw [lg_entry_eq]
  generalize (lg_sl ([.int (nI b), .int (nI x)]) ++ List.replicate (5 - (lg_sl ([.int (nI b), .int (nI x)])).length) Slot.unset).toArray = ls at hl ⊢
  have hl : lv_has ls 5 [(0, .int (nI b)), (1, .int (nI x))] := hl
  refine z_iconst (v := 1) F (by decide) dF_power_0 ?_
  refine lv_istore_n F.1 F.2.1 (lv' := [(2, .int (nI 1)), (0, .int (nI b)), (1, .int (nI x))]) dF_power_1 rfl hl (by decide) rfl (fun ls hl => ?_)
  refine lv_iload_n F.1 F.2.1 dF_power_2 rfl (lv_at hl 1 rfl) ?_
  refine lv_istore_n F.1 F.2.1 (lv' := [(3, .int (nI b)), (2, .int (nI 1)), (0, .int (nI b)), (1, .int (nI x))]) dF_power_3 rfl hl (by decide) rfl (fun ls hl => ?_)
  refine lv_iload_n F.1 F.2.1 dF_power_4 rfl (lv_at hl 3 rfl) ?_
  refine lv_istore F.1 F.2.1 (lv' := [(4, .int (nI x)), (3, .int (nI b)), (2, .int (nI 1)), (0, .int (nI b)), (1, .int (nI x))]) dF_power_5 hl (by decide) rfl (fun ls hl => ?_)
  have hl : lv_has ls 5 [(4, .int (nI x)), (3, .int (nI b)), (2, .int (nI 1)), (0, .int (nI b)), (1, .int (nI x))] := lv_sub hl [0, 1, 2, 3, 4] rfl
  refine z_fall (P := fun w => ∀ (q y : Nat) (ls : Array Slot), q < 2 ^ 31 → y < 998244353 → w < 2 ^ 31 → cg (y * q ^ w) (b ^ x) → lv_has ls 5 [(4, .int (nI w)), (3, .int (nI q)), (2, .int (nI y)), (0, .int (nI b)), (1, .int (nI x))] → W p l e _ s m _ below meth c s.heap [] _ _ _ (F0 m 7 ls [])) ?_ x b 1 ls (hb) (by decide) (he) (by rw [Nat.one_mul]; exact cg.rf _) hl
  intro w ih q y ls hq hy hw hc hl
  refine lv_iload F.1 F.2.1 dF_power_7 (lv_at hl 0 rfl) ?_
  refine z_if_le F (by omega) (tgt := 41) dF_power_9 rfl (fun h0 => ?_) (fun h0 => ?_)
  · refine lv_iload_n F.1 F.2.1 dF_power_41 rfl (lv_at hl 2 rfl) ?_
    refine z_top (pw b x) (by rw [h0, Nat.pow_zero, Nat.mul_one] at hc; exact (Nat.mod_eq_of_lt hy).symm.trans hc) ?_
    exact W.iret F.1 F.2.1 hr (fun t ht hW => ⟨rfl, ht⟩) (fun _ h => by cases h) dF_power_42
  · refine lv_iload F.1 F.2.1 dF_power_12 (lv_at hl 0 rfl) ?_
    refine z_iconst (v := 2) F (by decide) dF_power_14 ?_
    refine z_irem F (by omega) (by omega) (by omega) dF_power_15 ?_
    refine z_iconst (v := 1) F (by decide) dF_power_16 ?_
    refine z_icmp_ne F (by omega) (by omega) (tgt := 26) dF_power_17 rfl (fun h1 => ?_) (fun h1 => ?_)
    · refine lv_iload_n F.1 F.2.1 dF_power_26 rfl (lv_at hl 1 rfl) ?_
      refine lv_iload_n F.1 F.2.1 dF_power_27 rfl (lv_at hl 1 rfl) ?_
      refine z_call (z_runS [.int (nI q), .int (nI q)] [] F (c_product l q q hq hq) kk_F_product wl_F_12 rfl rfl ⟨Nat.le_of_ble_eq_true rfl, Nat.le_of_ble_eq_true rfl⟩ z_preN rfl hl.1 rfl (Nat.le_of_ble_eq_true rfl) dF_power_28 ⟨Nat.zero_le _, Nat.zero_le _⟩) ?_
      refine lv_istore_n F.1 F.2.1 (lv' := [(3, .int (nI (q * q % 998244353))), (4, .int (nI w)), (2, .int (nI y)), (0, .int (nI b)), (1, .int (nI x))]) dF_power_31 rfl hl (by decide) rfl (fun ls hl => ?_)
      refine lv_iload F.1 F.2.1 dF_power_32 (lv_at hl 1 rfl) ?_
      refine z_iconst (v := 2) F (by decide) dF_power_34 ?_
      refine z_idiv F (by omega) (by omega) (by omega) dF_power_35 ?_
      refine lv_istore F.1 F.2.1 (lv' := [(4, .int (nI (w / 2))), (3, .int (nI (q * q % 998244353))), (2, .int (nI y)), (0, .int (nI b)), (1, .int (nI x))]) dF_power_36 hl (by decide) rfl (fun ls hl => ?_)
      refine lv_goto F.1 F.2.1 (tgt := 7) dF_power_38 rfl ?_
      have hl : lv_has ls 5 [(4, .int (nI ((w / 2)))), (3, .int (nI ((q * q % 998244353)))), (2, .int (nI y)), (0, .int (nI b)), (1, .int (nI x))] := lv_sub hl [0, 1, 2, 3, 4] rfl
      exact ih (w / 2) (by omega) (q * q % 998244353) y ls (Nat.lt_trans (ltP _) (by decide)) (hy) (by omega) ((pw_even y q w (by omega)).sy.tr hc) hl
    · refine lv_iload_n F.1 F.2.1 dF_power_20 rfl (lv_at hl 2 rfl) ?_
      refine lv_iload_n F.1 F.2.1 dF_power_21 rfl (lv_at hl 1 rfl) ?_
      refine z_call (z_runS [.int (nI y), .int (nI q)] [] F (c_product l y q (by omega) hq) kk_F_product wl_F_12 rfl rfl ⟨Nat.le_of_ble_eq_true rfl, Nat.le_of_ble_eq_true rfl⟩ z_preN rfl hl.1 rfl (Nat.le_of_ble_eq_true rfl) dF_power_22 ⟨Nat.zero_le _, Nat.zero_le _⟩) ?_
      refine lv_istore_n F.1 F.2.1 (lv' := [(2, .int (nI (y * q % 998244353))), (4, .int (nI w)), (3, .int (nI q)), (0, .int (nI b)), (1, .int (nI x))]) dF_power_25 rfl hl (by decide) rfl (fun ls hl => ?_)
      refine lv_iload_n F.1 F.2.1 dF_power_26 rfl (lv_at hl 2 rfl) ?_
      refine lv_iload_n F.1 F.2.1 dF_power_27 rfl (lv_at hl 2 rfl) ?_
      refine z_call (z_runS [.int (nI q), .int (nI q)] [] F (c_product l q q hq hq) kk_F_product wl_F_12 rfl rfl ⟨Nat.le_of_ble_eq_true rfl, Nat.le_of_ble_eq_true rfl⟩ z_preN rfl hl.1 rfl (Nat.le_of_ble_eq_true rfl) dF_power_28 ⟨Nat.zero_le _, Nat.zero_le _⟩) ?_
      refine lv_istore_n F.1 F.2.1 (lv' := [(3, .int (nI (q * q % 998244353))), (2, .int (nI (y * q % 998244353))), (4, .int (nI w)), (0, .int (nI b)), (1, .int (nI x))]) dF_power_31 rfl hl (by decide) rfl (fun ls hl => ?_)
      refine lv_iload F.1 F.2.1 dF_power_32 (lv_at hl 2 rfl) ?_
      refine z_iconst (v := 2) F (by decide) dF_power_34 ?_
      refine z_idiv F (by omega) (by omega) (by omega) dF_power_35 ?_
      refine lv_istore F.1 F.2.1 (lv' := [(4, .int (nI (w / 2))), (3, .int (nI (q * q % 998244353))), (2, .int (nI (y * q % 998244353))), (0, .int (nI b)), (1, .int (nI x))]) dF_power_36 hl (by decide) rfl (fun ls hl => ?_)
      refine lv_goto F.1 F.2.1 (tgt := 7) dF_power_38 rfl ?_
      have hl : lv_has ls 5 [(4, .int (nI ((w / 2)))), (3, .int (nI ((q * q % 998244353)))), (2, .int (nI ((y * q % 998244353)))), (0, .int (nI b)), (1, .int (nI x))] := lv_sub hl [0, 1, 2, 3, 4] rfl
      exact ih (w / 2) (by omega) (q * q % 998244353) (y * q % 998244353) ls (Nat.lt_trans (ltP _) (by decide)) (ltP _) (by omega) ((pw_odd y q w (by omega)).sy.tr hc) hl
set_option maxHeartbeats 4000000 in
set_option maxRecDepth 100000 in
theorem c_ratio (l : Launch) (a b : Nat) (ha : a < 2 ^ 31) (hb : b < 2 ^ 31) : Met l yF_ratio (zW yF_ratio cF_ratio 2 (.some .int)) ({ frames := 2, cells := 0, slots := 0, locals := 45 }) (va_Pc [.int (nI a), .int (nI b)] (fun _ => True)) (k2_QcV (.int (nI (a * iv b % 998244353)))) 0 0 (fun _ => False) := by
  refine Met.ofW (cc := cF_ratio) (maxL := 2) (ret := (.some .int)) (by decide) rfl ?_
  intro p e s m args below meth c s₁ B hml hv
  obtain ⟨rfl, -⟩ := hv
  have F : CallFix p m c cF_ratio 2 s _ zT RF := ⟨B.exec, B.bytes, hml, findClass_of_methodNamed B.named, fun w h => atoms_spec (ws := (zW yF_ratio cF_ratio 2 (.some .int))) B.pre w (List.mem_cons_of_mem _ h)⟩
  have hr := B.returns
  have hlocks := B.notSynchronized
  have hl := lv_entry ([.int (nI a), .int (nI b)]) (n := 2) (Nat.le_of_ble_eq_true rfl)
  rw [lg_entry_eq]
  generalize (lg_sl ([.int (nI a), .int (nI b)]) ++ List.replicate (2 - (lg_sl ([.int (nI a), .int (nI b)])).length) Slot.unset).toArray = ls at hl ⊢
  have hl : lv_has ls 2 [(0, .int (nI a)), (1, .int (nI b))] := hl
  refine lv_iload_n F.1 F.2.1 dF_ratio_0 rfl (lv_at hl 0 rfl) ?_
  refine lv_iload_n F.1 F.2.1 dF_ratio_1 rfl (lv_at hl 1 rfl) ?_
  refine z_ldc F 998244351 (v0 := 998244351) wk_F_18 rfl dF_ratio_2 ?_
  refine z_call (z_runS [.int (nI b), .int (nI 998244351)] [.int (nI a)] F (c_power l b 998244351 hb (by decide)) kk_F_power wl_F_19 rfl rfl ⟨Nat.le_of_ble_eq_true rfl, Nat.le_of_ble_eq_true rfl⟩ z_preN rfl hl.1 rfl (Nat.le_of_ble_eq_true rfl) dF_ratio_4 ⟨Nat.zero_le _, Nat.zero_le _⟩) ?_
  refine z_call (z_runS [.int (nI a), .int (nI (pw b 998244351))] [] F (c_product l a (pw b 998244351) ha (Nat.lt_trans (pw_lt _ _) (by decide))) kk_F_product wl_F_12 rfl rfl ⟨Nat.le_of_ble_eq_true rfl, Nat.le_of_ble_eq_true rfl⟩ z_preN rfl hl.1 rfl (Nat.le_of_ble_eq_true rfl) dF_ratio_7 ⟨Nat.zero_le _, Nat.zero_le _⟩) ?_
  exact W.iret F.1 F.2.1 hr (fun t ht hW => ⟨rfl, ht⟩) (fun _ h => by cases h) dF_ratio_10
