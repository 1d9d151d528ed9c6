theorem z_subaddL {a b c : Nat} (h : b ≤ a + c) : lN a - lN b + lN c = lN (a + c - b) := by
  have h1 : lN (a + c - b) + lN b = lN a + lN c := by rw [lN_add, lN_add, Nat.sub_add_cancel h]
  have h2 : lN a - lN b + lN c = (lN a + lN c) - lN b := by rw [Int64.sub_eq_add_neg, Int64.sub_eq_add_neg, Int64.add_assoc, Int64.add_comm (-lN b), ← Int64.add_assoc]
  rw [h2, ← h1, Int64.add_sub_cancel]
theorem pw_bit1 {b x k v q : Nat} (hv : v = pw b (x % 2 ^ k)) (hq : cg q (b ^ 2 ^ k)) (h : x / 2 ^ k % 2 = 1) : v * q % 998244353 = pw b (x % 2 ^ (k + 1)) := by
  rw [Nat.mod_pow_succ, h, Nat.mul_one, hv]
  unfold pw
  rw [Nat.pow_add]
  exact (cg.md _).mul hq
theorem pw_bit0 {b x k v : Nat} (hv : v = pw b (x % 2 ^ k)) (h : ¬ x / 2 ^ k % 2 = 1) : v = pw b (x % 2 ^ (k + 1)) := by
  rw [Nat.mod_pow_succ, show x / 2 ^ k % 2 = 0 by omega, Nat.mul_zero, Nat.add_zero]
  exact hv
theorem pw_sq {b k q : Nat} (hq : cg q (b ^ 2 ^ k)) : cg (q * q % 998244353) (b ^ 2 ^ (k + 1)) := by
  rw [Nat.pow_succ, Nat.mul_two, Nat.pow_add]
  exact (cg.md _).tr (hq.mul hq)
set_option maxHeartbeats 4000000 in
set_option maxRecDepth 100000 in
theorem ct_isNumber (l : Launch) (x : Int32)  : Met l yT_isNumber (zW yT_isNumber cT_isNumber 1 (.some .boolean)) ({ frames := 0, cells := 0, slots := 0, locals := 0 }) (va_Pc [.int x] (fun _ => True)) (k2_QcV (.int (z_b (bl x 998244353)))) 0 0 (fun _ => False) := by
  refine Met.ofW (cc := cT_isNumber) (maxL := 1) (ret := (.some .boolean)) (by decide) rfl ?_
  intro p e s m args below meth c s₁ B hml hv
  obtain ⟨rfl, -⟩ := hv
  have F : CallFix p m c cT_isNumber 1 s _ zT RT := ⟨B.exec, B.bytes, hml, findClass_of_methodNamed B.named, fun w h => atoms_spec (ws := (zW yT_isNumber cT_isNumber 1 (.some .boolean))) B.pre w (List.mem_cons_of_mem _ h)⟩
  have hr := B.returns
  have hlocks := B.notSynchronized
  have hl := lv_entry ([.int x]) (n := 1) (Nat.le_of_ble_eq_true rfl)
  rw [lg_entry_eq]
  generalize (lg_sl ([.int x]) ++ List.replicate (1 - (lg_sl ([.int x])).length) Slot.unset).toArray = ls at hl ⊢
  have hl : lv_has ls 1 [(0, .int x)] := hl
  refine lv_iload_n F.1 F.2.1 dT_isNumber_0 rfl (lv_at hl 0 rfl) ?_
  refine lv_if_lt F.1 F.2.1 (tgt := 17) dT_isNumber_1 rfl (fun h1 => ?_) (fun h1 => ?_)
  · refine z_iconst (v := 0) F (by decide) dT_isNumber_17 ?_
    refine z_topV (z_b (bl x 998244353)) (by rw [bl_neg h1]; decide) ?_
    exact W.zret F.1 F.2.1 hr (by cases bl x 998244353 <;> rfl) (fun t ht hW => ⟨rfl, ht⟩) (fun _ h => by cases h) dT_isNumber_18
  · obtain ⟨j, hj, rfl⟩ := nI_of h1
    have hl : lv_has ls 1 [(0, .int (nI j))] := hl
    refine lv_iload_n F.1 F.2.1 dT_isNumber_4 rfl (lv_at hl 0 rfl) ?_
    refine z_i2l F (by omega) dT_isNumber_5 ?_
    refine z_ldc2 F 998244353 (v0 := 998244353) wk_T_38 rfl dT_isNumber_6 ?_
    refine z_lcmp F dT_isNumber_9 ?_
    refine z_ifl_ge F (by omega) (by omega) (tgt := 17) dT_isNumber_10 rfl (fun h2 => ?_) (fun h2 => ?_)
    · refine z_iconst (v := 0) F (by decide) dT_isNumber_17 ?_
      refine z_topV (z_b (bl (nI j) 998244353)) (by rw [bl_nI _ hj, decide_eq_false (by omega)]; decide) ?_
      exact W.zret F.1 F.2.1 hr (by cases bl (nI j) 998244353 <;> rfl) (fun t ht hW => ⟨rfl, ht⟩) (fun _ h => by cases h) dT_isNumber_18
    · refine z_iconst (v := 1) F (by decide) dT_isNumber_13 ?_
      refine lv_goto F.1 F.2.1 (tgt := 18) dT_isNumber_14 rfl ?_
      refine z_topV (z_b (bl (nI j) 998244353)) (by rw [bl_nI _ hj, decide_eq_true (by omega)]; decide) ?_
      exact W.zret F.1 F.2.1 hr (by cases bl (nI j) 998244353 <;> rfl) (fun t ht hW => ⟨rfl, ht⟩) (fun _ h => by cases h) dT_isNumber_18
set_option maxHeartbeats 4000000 in
set_option maxRecDepth 100000 in
theorem ct_power (l : Launch) (b x : Nat) (hb : b < 2 ^ 31) (hx : x < 2 ^ 30) : Met l yT_power (zW yT_power cT_power 9 (.some .long)) ({ frames := 0, cells := 0, slots := 0, locals := 0 }) (va_Pc [.long (lN b), .long (lN x)] (fun _ => True)) (k2_QcV (.long (lN (pw b x)))) 0 0 (fun _ => False) := by
  refine Met.ofW (cc := cT_power) (maxL := 9) (ret := (.some .long)) (by decide) rfl ?_
  intro p e s m args below meth c s₁ B hml hv
  obtain ⟨rfl, -⟩ := hv
  have F : CallFix p m c cT_power 9 s _ zT RT := ⟨B.exec, B.bytes, hml, findClass_of_methodNamed B.named, fun w h => atoms_spec (ws := (zW yT_power cT_power 9 (.some .long))) B.pre w (List.mem_cons_of_mem _ h)⟩
  have hr := B.returns
  have hlocks := B.notSynchronized
  have hl := lv_entry ([.long (lN b), .long (lN x)]) (n := 9) (Nat.le_of_ble_eq_true rfl)
  rw [lg_entry_eq]
  generalize (lg_sl ([.long (lN b), .long (lN x)]) ++ List.replicate (9 - (lg_sl ([.long (lN b), .long (lN x)])).length) Slot.unset).toArray = ls at hl ⊢
  have hl : lv_has ls 9 [(0, .long (lN b)), (2, .long (lN x))] := hl
  refine z_lconst (v := 1) F (by decide) dT_power_0 ?_
  refine lv_lstore F.1 F.2.1 (lv' := [(4, .long (lN 1)), (0, .long (lN b)), (2, .long (lN x))]) dT_power_1 hl (by decide) rfl (fun ls hl => ?_)
  refine lv_lload_n F.1 F.2.1 dT_power_3 rfl (lv_at hl 1 rfl) ?_
  refine lv_lstore F.1 F.2.1 (lv' := [(6, .long (lN b)), (4, .long (lN 1)), (0, .long (lN b)), (2, .long (lN x))]) dT_power_4 hl (by decide) rfl (fun ls hl => ?_)
  refine z_iconst (v := 0) F (by decide) dT_power_6 ?_
  refine lv_istore F.1 F.2.1 (lv' := [(8, .int (nI 0)), (6, .long (lN b)), (4, .long (lN 1)), (0, .long (lN b)), (2, .long (lN x))]) dT_power_7 hl (by decide) rfl (fun ls hl => ?_)
  have hl : lv_has ls 9 [(8, .int (nI 0)), (6, .long (lN b)), (4, .long (lN 1)), (0, .long (lN b)), (2, .long (lN x))] := lv_sub hl [0, 1, 2, 3, 4] rfl
  refine z_up (E := 30) (P := fun k => ∀ (q v : Nat) (ls : Array Slot), (q < 2 ^ 31) → (v = pw b (x % 2 ^ k)) → (cg q (b ^ 2 ^ k)) → lv_has ls 9 [(8, .int (nI k)), (6, .long (lN q)), (4, .long (lN v)), (0, .long (lN b)), (2, .long (lN x))] → W p l e _ s m _ below meth c s.heap [] _ _ _ (F0 m 9 ls [])) ?_ 0 (Nat.zero_le _) b 1 ls (hb) (by rw [Nat.pow_zero, Nat.mod_one, pw_0]) (by rw [Nat.pow_zero, Nat.pow_one]; exact cg.rf b) hl
  intro k hk ih q v ls hq hv hc hl
  have hvl : v < 998244353 := by rw [hv]; exact pw_lt _ _
  have hm1 := z_mb (a := v) (b := q) (by omega) hq
  have hm2 := z_mb hq hq
  refine lv_iload F.1 F.2.1 dT_power_9 (lv_at hl 0 rfl) ?_
  refine z_bipush (v := 30) F (by decide) dT_power_11 ?_
  refine z_icmp_ge F (by omega) (by omega) (tgt := 60) dT_power_13 rfl (fun h1 => ?_) (fun h1 => ?_)
  · refine lv_lload F.1 F.2.1 dT_power_60 (lv_at hl 2 rfl) ?_
    refine z_topL (pw b x) (by rw [hv, show k = 30 by omega, Nat.mod_eq_of_lt hx]) ?_
    exact W.lret F.1 F.2.1 hr (fun t ht hW => ⟨rfl, ht⟩) (fun _ h => by cases h) dT_power_62
  · refine lv_lload_n F.1 F.2.1 dT_power_16 rfl (lv_at hl 4 rfl) ?_
    refine lv_iload F.1 F.2.1 dT_power_17 (lv_at hl 0 rfl) ?_
    refine z_lshr F (by omega) (by omega) dT_power_19 ?_
    refine z_lconst (v := 1) F (by decide) dT_power_20 ?_
    refine z_land1 F (Nat.lt_of_le_of_lt (Nat.div_le_self _ _) (by omega)) dT_power_21 ?_
    refine z_lconst (v := 1) F (by decide) dT_power_22 ?_
    refine z_lcmp F dT_power_23 ?_
    refine z_ifl_ne F (by omega) (by decide) (tgt := 39) dT_power_24 rfl (fun h2 => ?_) (fun h2 => ?_)
    · refine lv_lload F.1 F.2.1 dT_power_39 (lv_at hl 2 rfl) ?_
      refine lv_lstore F.1 F.2.1 (lv' := [(4, .long (lN v)), (8, .int (nI k)), (6, .long (lN q)), (0, .long (lN b)), (2, .long (lN x))]) dT_power_41 hl (by decide) rfl (fun ls hl => ?_)
      refine lv_lload F.1 F.2.1 dT_power_43 (lv_at hl 2 rfl) ?_
      refine lv_lload F.1 F.2.1 dT_power_45 (lv_at hl 2 rfl) ?_
      refine z_lmul F dT_power_47 ?_
      refine z_ldc2 F 998244353 (v0 := 998244353) wk_T_38 rfl dT_power_48 ?_
      refine z_lrem F (by omega) (by omega) (by omega) dT_power_51 ?_
      refine lv_lstore F.1 F.2.1 (lv' := [(6, .long (lN ((q * q) % 998244353))), (4, .long (lN v)), (8, .int (nI k)), (0, .long (lN b)), (2, .long (lN x))]) dT_power_52 hl (by decide) rfl (fun ls hl => ?_)
      refine lv_iinc F.1 F.2.1 (k := 2) (v := nI (k + 1)) (lv' := [(8, .int (nI (k + 1))), (6, .long (lN ((q * q) % 998244353))), (4, .long (lN v)), (0, .long (lN b)), (2, .long (lN x))]) dT_power_54 hl rfl (nI_1 k) (by decide) rfl (fun ls hl => ?_)
      refine lv_goto F.1 F.2.1 (tgt := 9) dT_power_57 rfl ?_
      have hl : lv_has ls 9 [(8, .int (nI ((k + 1)))), (6, .long (lN ((q * q % 998244353)))), (4, .long (lN ((v)))), (0, .long (lN b)), (2, .long (lN x))] := lv_sub hl [0, 1, 2, 3, 4] rfl
      exact ih (by omega) (q * q % 998244353) (v) ls (Nat.lt_trans (ltP _) (by decide)) (pw_bit0 hv h2) (pw_sq hc) hl
    · refine lv_lload F.1 F.2.1 dT_power_27 (lv_at hl 2 rfl) ?_
      refine lv_lload F.1 F.2.1 dT_power_29 (lv_at hl 1 rfl) ?_
      refine z_lmul F dT_power_31 ?_
      refine z_ldc2 F 998244353 (v0 := 998244353) wk_T_38 rfl dT_power_32 ?_
      refine z_lrem F (by omega) (by omega) (by omega) dT_power_35 ?_
      refine lv_goto F.1 F.2.1 (tgt := 41) dT_power_36 rfl ?_
      refine lv_lstore F.1 F.2.1 (lv' := [(4, .long (lN ((v * q) % 998244353))), (8, .int (nI k)), (6, .long (lN q)), (0, .long (lN b)), (2, .long (lN x))]) dT_power_41 hl (by decide) rfl (fun ls hl => ?_)
      refine lv_lload F.1 F.2.1 dT_power_43 (lv_at hl 2 rfl) ?_
      refine lv_lload F.1 F.2.1 dT_power_45 (lv_at hl 2 rfl) ?_
      refine z_lmul F dT_power_47 ?_
      refine z_ldc2 F 998244353 (v0 := 998244353) wk_T_38 rfl dT_power_48 ?_
      refine z_lrem F (by omega) (by omega) (by omega) dT_power_51 ?_
      refine lv_lstore F.1 F.2.1 (lv' := [(6, .long (lN ((q * q) % 998244353))), (4, .long (lN ((v * q) % 998244353))), (8, .int (nI k)), (0, .long (lN b)), (2, .long (lN x))]) dT_power_52 hl (by decide) rfl (fun ls hl => ?_)
      refine lv_iinc F.1 F.2.1 (k := 2) (v := nI (k + 1)) (lv' := [(8, .int (nI (k + 1))), (6, .long (lN ((q * q) % 998244353))), (4, .long (lN ((v * q) % 998244353))), (0, .long (lN b)), (2, .long (lN x))]) dT_power_54 hl rfl (nI_1 k) (by decide) rfl (fun ls hl => ?_)
      refine lv_goto F.1 F.2.1 (tgt := 9) dT_power_57 rfl ?_
      have hl : lv_has ls 9 [(8, .int (nI ((k + 1)))), (6, .long (lN ((q * q % 998244353)))), (4, .long (lN ((v * q % 998244353)))), (0, .long (lN b)), (2, .long (lN x))] := lv_sub hl [0, 1, 2, 3, 4] rfl
      exact ih (by omega) (q * q % 998244353) (v * q % 998244353) ls (Nat.lt_trans (ltP _) (by decide)) (pw_bit1 hv hc h2) (pw_sq hc) hl
set_option maxHeartbeats 4000000 in
set_option maxRecDepth 100000 in
theorem ct_inverse (l : Launch) (b : Nat) (hb : b < 2 ^ 31) : Met l yT_inverse (zW yT_inverse cT_inverse 2 (.some .long)) ({ frames := 1, cells := 0, slots := 0, locals := 28 }) (va_Pc [.long (lN b)] (fun _ => True)) (k2_QcV (.long (lN (iv b)))) 0 0 (fun _ => False) := by
  refine Met.ofW (cc := cT_inverse) (maxL := 2) (ret := (.some .long)) (by decide) rfl ?_
  intro p e s m args below meth c s₁ B hml hv
  obtain ⟨rfl, -⟩ := hv
  have F : CallFix p m c cT_inverse 2 s _ zT RT := ⟨B.exec, B.bytes, hml, findClass_of_methodNamed B.named, fun w h => atoms_spec (ws := (zW yT_inverse cT_inverse 2 (.some .long))) B.pre w (List.mem_cons_of_mem _ h)⟩
  have hr := B.returns
  have hlocks := B.notSynchronized
  have hl := lv_entry ([.long (lN b)]) (n := 2) (Nat.le_of_ble_eq_true rfl)
  rw [lg_entry_eq]
  generalize (lg_sl ([.long (lN b)]) ++ List.replicate (2 - (lg_sl ([.long (lN b)])).length) Slot.unset).toArray = ls at hl ⊢
  have hl : lv_has ls 2 [(0, .long (lN b))] := hl
  refine lv_lload_n F.1 F.2.1 dT_inverse_0 rfl (lv_at hl 0 rfl) ?_
  refine z_ldc2 F 998244351 (v0 := 998244351) wk_T_40 rfl dT_inverse_1 ?_
  refine z_call (z_runS [.long (lN b), .long (lN 998244351)] [] F (ct_power l b 998244351 hb (by decide)) kk_T_power wl_T_42 rfl rfl ⟨Nat.le_of_ble_eq_true rfl, Nat.le_of_ble_eq_true rfl⟩ z_preN rfl hl.1 rfl (Nat.le_of_ble_eq_true rfl) dT_inverse_4 ⟨Nat.zero_le _, Nat.zero_le _⟩) ?_
  exact W.lret F.1 F.2.1 hr (fun t ht hW => ⟨rfl, ht⟩) (fun _ h => by cases h) dT_inverse_7
theorem z_topLV {p : Program} {l : Launch} {e : Env} {R : Room} {s : State} {m : MethodId} {args : Array Value} {below : List Frame} {meth : Method} {c : Code} {H : Heap} {locs : List Loc} {cells slots : Nat} {Q : State → Prop} {pc : Nat} {ls : Array Slot} {rest : List Value} {x : Int64} (y : Int64) (h : x = y) (k : W p l e R s m args below meth c H locs cells slots Q (F0 m pc ls (.long y :: rest))) : W p l e R s m args below meth c H locs cells slots Q (F0 m pc ls (.long x :: rest)) := h ▸ k
set_option maxHeartbeats 4000000 in
set_option maxRecDepth 100000 in
theorem ct_less (l : Launch) (a b : Nat) (ha : a < 998244353) (hb : b < 998244353) : Met l yT_less (zW yT_less cT_less 4 (.some .long)) ({ frames := 0, cells := 0, slots := 0, locals := 0 }) (va_Pc [.long (lN a), .long (lN b)] (fun _ => True)) (k2_QcV (.long (lN ((a + 998244353 - b) % 998244353)))) 0 0 (fun _ => False) := by
  refine Met.ofW (cc := cT_less) (maxL := 4) (ret := (.some .long)) (by decide) rfl ?_
  intro p e s m args below meth c s₁ B hml hv
  obtain ⟨rfl, -⟩ := hv
  have F : CallFix p m c cT_less 4 s _ zT RT := ⟨B.exec, B.bytes, hml, findClass_of_methodNamed B.named, fun w h => atoms_spec (ws := (zW yT_less cT_less 4 (.some .long))) B.pre w (List.mem_cons_of_mem _ h)⟩
  have hr := B.returns
  have hlocks := B.notSynchronized
  have hl := lv_entry ([.long (lN a), .long (lN b)]) (n := 4) (Nat.le_of_ble_eq_true rfl)
  rw [lg_entry_eq]
  generalize (lg_sl ([.long (lN a), .long (lN b)]) ++ List.replicate (4 - (lg_sl ([.long (lN a), .long (lN b)])).length) Slot.unset).toArray = ls at hl ⊢
  have hl : lv_has ls 4 [(0, .long (lN a)), (2, .long (lN b))] := hl
  refine lv_lload_n F.1 F.2.1 dT_less_0 rfl (lv_at hl 0 rfl) ?_
  refine lv_lload_n F.1 F.2.1 dT_less_1 rfl (lv_at hl 1 rfl) ?_
  refine lv_lsub F.1 F.2.1 dT_less_2 ?_
  refine z_ldc2 F 998244353 (v0 := 998244353) wk_T_38 rfl dT_less_3 ?_
  refine lv_ladd F.1 F.2.1 dT_less_6 ?_
  refine z_topLV (lN (a + 998244353 - b)) (z_subaddL (by omega)) ?_
  refine z_ldc2 F 998244353 (v0 := 998244353) wk_T_38 rfl dT_less_7 ?_
  refine z_lrem F (by omega) (by omega) (by omega) dT_less_10 ?_
  exact W.lret F.1 F.2.1 hr (fun t ht hW => ⟨rfl, ht⟩) (fun _ h => by cases h) dT_less_11
set_option maxHeartbeats 4000000 in
set_option maxRecDepth 100000 in
theorem ct_size (l : Launch) (dC : Nat → ClassId) (dI : Nat → Nat → Nat) (cI cL : ClassId) (ws : va_W) (q1 : Nat) (y0 yR yV yI yX yP yQ yS yD : Nat) (th cn pb ta al be ga de va : Nat) (md pd : Bool) (e1 : ws[q1]? = some (y0, .inr (5, [.int (nI th), .ref yR, .int (nI cn), .int (nI pb), .ref yV, .ref yI, .int (z_b md), .long (lN ta), .long (lN al), .long (lN be), .long (lN ga), .long (lN de), .long (lN va), .ref yX, .int (z_b pd), .ref yP, .ref yQ, .ref yS, .ref yD]))) (hn : cn ≤ 16) : Met l yT_size (zW yT_size cT_size 1 (.some .int)) ({ frames := 0, cells := 0, slots := 0, locals := 0 }) (va_Pc [.ref y0] (z_R (dC, dI) vwCl [(cI, .int), (cL, .long)] ws)) (k2_QcV (.int (nI (szN cn)))) 0 0 (fun _ => False) := by
  refine Met.ofW (cc := cT_size) (maxL := 1) (ret := (.some .int)) (by decide) rfl ?_
  intro p e s m args below meth c s₁ B hml hv
  obtain ⟨rfl, hP, hK⟩ := hv
  have F : CallFix p m c cT_size 1 s _ zT RT := ⟨B.exec, B.bytes, hml, findClass_of_methodNamed B.named, fun w h => atoms_spec (ws := (zW yT_size cT_size 1 (.some .int))) B.pre w (List.mem_cons_of_mem _ h)⟩
  have hr := B.returns
  have hlocks := B.notSynchronized
  have hl := lv_entry ([.ref y0]) (n := 1) (Nat.le_of_ble_eq_true rfl)
  rw [lg_entry_eq]
  generalize (lg_sl ([.ref y0]) ++ List.replicate (1 - (lg_sl ([.ref y0])).length) Slot.unset).toArray = ls at hl ⊢
  have hl : lv_has ls 1 [(0, .ref y0)] := hl
  refine lv_aload_n F.1 F.2.1 dT_size_0 rfl (lv_at hl 0 rfl) ?_
  refine z_get F hK hP hinT q1 e1 rfl 2 (by decide) rfl wf_T_46 rfl dT_size_1 ?_
  refine z_iconst (v := 2) F (by decide) dT_size_4 ?_
  refine z_icmp_gt F (by omega) (by omega) (tgt := 12) dT_size_5 rfl (fun h1 => ?_) (fun h1 => ?_)
  · refine lv_aload_n F.1 F.2.1 dT_size_12 rfl (lv_at hl 0 rfl) ?_
    refine z_get F hK hP hinT q1 e1 rfl 2 (by decide) rfl wf_T_46 rfl dT_size_13 ?_
    refine z_iconst (v := 4) F (by decide) dT_size_16 ?_
    refine z_icmp_gt F (by omega) (by omega) (tgt := 24) dT_size_17 rfl (fun h2 => ?_) (fun h2 => ?_)
    · refine lv_aload_n F.1 F.2.1 dT_size_24 rfl (lv_at hl 0 rfl) ?_
      refine z_get F hK hP hinT q1 e1 rfl 2 (by decide) rfl wf_T_46 rfl dT_size_25 ?_
      refine z_bipush (v := 8) F (by decide) dT_size_28 ?_
      refine z_icmp_gt F (by omega) (by omega) (tgt := 38) dT_size_30 rfl (fun h3 => ?_) (fun h3 => ?_)
      · refine z_bipush (v := 16) F (by decide) dT_size_38 ?_
        refine z_top (szN cn) (by unfold szN; rw [if_neg (by omega), if_neg (by omega), if_neg (by omega)]) ?_
        exact W.iret F.1 F.2.1 hr (fun t ht hW => ⟨rfl, ht⟩) (fun _ h => by cases h) dT_size_40
      · refine z_bipush (v := 8) F (by decide) dT_size_33 ?_
        refine lv_goto F.1 F.2.1 (tgt := 40) dT_size_35 rfl ?_
        refine z_top (szN cn) (by unfold szN; rw [if_neg (by omega), if_neg (by omega), if_pos (by omega)]) ?_
        exact W.iret F.1 F.2.1 hr (fun t ht hW => ⟨rfl, ht⟩) (fun _ h => by cases h) dT_size_40
    · refine z_iconst (v := 4) F (by decide) dT_size_20 ?_
      refine lv_goto F.1 F.2.1 (tgt := 40) dT_size_21 rfl ?_
      refine z_top (szN cn) (by unfold szN; rw [if_neg (by omega), if_pos (by omega)]) ?_
      exact W.iret F.1 F.2.1 hr (fun t ht hW => ⟨rfl, ht⟩) (fun _ h => by cases h) dT_size_40
  · refine z_iconst (v := 2) F (by decide) dT_size_8 ?_
    refine lv_goto F.1 F.2.1 (tgt := 40) dT_size_9 rfl ?_
    refine z_top (szN cn) (by unfold szN; rw [if_pos (by omega)]) ?_
    exact W.iret F.1 F.2.1 hr (fun t ht hW => ⟨rfl, ht⟩) (fun _ h => by cases h) dT_size_40
set_option maxHeartbeats 4000000 in
set_option maxRecDepth 100000 in
theorem ct_sumOf (l : Launch) (dC : Nat → ClassId) (dI : Nat → Nat → Nat) (cI cL : ClassId) (ws : va_W) (q1 q2 q3 : Nat) (y0 yR yV yI yX yP yQ yS yD : Nat) (th cn pb ta al be ga de va : Nat) (md pd : Bool) (f v : Nat → Nat) (j row : Nat) (e1 : ws[q1]? = some (y0, .inr (5, [.int (nI th), .ref yR, .int (nI cn), .int (nI pb), .ref yV, .ref yI, .int (z_b md), .long (lN ta), .long (lN al), .long (lN be), .long (lN ga), .long (lN de), .long (lN va), .ref yX, .int (z_b pd), .ref yP, .ref yQ, .ref yS, .ref yD]))) (e2 : ws[q2]? = some (yR, .inl (cL, 816, .inr (.inl (fun x9 => lN (f x9)))))) (e3 : ws[q3]? = some (yV, .inl (cL, 16, .inr (.inl (fun x9 => lN (v x9)))))) (hf : ∀ j, f j < 998244353) (hv : ∀ j, v j < 998244353) (hj : j < 16) (hw : row < 3) : Met l yT_sumOf (zW yT_sumOf cT_sumOf 6 (.some .long)) ({ frames := 0, cells := 0, slots := 0, locals := 0 }) (va_Pc [.ref y0, .int (nI j), .int (nI row)] (z_R (dC, dI) vwCl [(cI, .int), (cL, .long)] ws)) (k2_QcV (.long (lN (sg 16 (fun t => f ((j * 3 + row) * 16 + t) * v t) % 998244353)))) 0 0 (fun _ => False) := by
  refine Met.ofW (cc := cT_sumOf) (maxL := 6) (ret := (.some .long)) (by decide) rfl ?_
  intro p e s m args below meth c s₁ B hml hv
  obtain ⟨rfl, hP, hK⟩ := hv
  have F : CallFix p m c cT_sumOf 6 s _ zT RT := ⟨B.exec, B.bytes, hml, findClass_of_methodNamed B.named, fun w h => atoms_spec (ws := (zW yT_sumOf cT_sumOf 6 (.some .long))) B.pre w (List.mem_cons_of_mem _ h)⟩
  have hr := B.returns
  have hlocks := B.notSynchronized
  have hl := lv_entry ([.ref y0, .int (nI j), .int (nI row)]) (n := 6) (Nat.le_of_ble_eq_true rfl)
  rw [lg_entry_eq]
  generalize (lg_sl ([.ref y0, .int (nI j), .int (nI row)]) ++ List.replicate (6 - (lg_sl ([.ref y0, .int (nI j), .int (nI row)])).length) Slot.unset).toArray = ls at hl ⊢
  have hl : lv_has ls 6 [(0, .ref y0), (1, .int (nI j)), (2, .int (nI row))] := hl
  refine z_lconst (v := 0) F (by decide) dT_sumOf_0 ?_
  refine lv_lstore_n F.1 F.2.1 (lv' := [(3, .long (lN 0)), (0, .ref y0), (1, .int (nI j)), (2, .int (nI row))]) dT_sumOf_1 rfl hl (by decide) rfl (fun ls hl => ?_)
  refine z_iconst (v := 0) F (by decide) dT_sumOf_2 ?_
  refine lv_istore F.1 F.2.1 (lv' := [(5, .int (nI 0)), (3, .long (lN 0)), (0, .ref y0), (1, .int (nI j)), (2, .int (nI row))]) dT_sumOf_3 hl (by decide) rfl (fun ls hl => ?_)
  have hl : lv_has ls 6 [(5, .int (nI 0)), (3, .long (lN (sg 0 (fun t => f ((j * 3 + row) * 16 + t) * v t) % 998244353))), (0, .ref y0), (1, .int (nI j)), (2, .int (nI row))] := lv_sub hl [0, 1, 2, 3, 4] rfl
  refine z_up (E := 16) (P := fun i => ∀  (ls : Array Slot), lv_has ls 6 [(5, .int (nI i)), (3, .long (lN (sg i (fun t => f ((j * 3 + row) * 16 + t) * v t) % 998244353))), (0, .ref y0), (1, .int (nI j)), (2, .int (nI row))] → W p l e _ s m _ below meth c s.heap [] _ _ _ (F0 m 5 ls [])) ?_ 0 (Nat.zero_le _)  ls  hl
  intro i hi ih  ls  hl
  refine lv_iload F.1 F.2.1 dT_sumOf_5 (lv_at hl 0 rfl) ?_
  refine z_bipush (v := 16) F (by decide) dT_sumOf_7 ?_
  refine z_icmp_ge F (by omega) (by omega) (tgt := 50) dT_sumOf_9 rfl (fun h1 => ?_) (fun h1 => ?_)
  · refine lv_lload_n F.1 F.2.1 dT_sumOf_50 rfl (lv_at hl 1 rfl) ?_
    refine z_topL (sg 16 (fun t => f ((j * 3 + row) * 16 + t) * v t) % 998244353) (by rw [show i = 16 by omega]) ?_
    exact W.lret F.1 F.2.1 hr (fun t ht hW => ⟨rfl, ht⟩) (fun _ h => by cases h) dT_sumOf_51
  · refine lv_lload_n F.1 F.2.1 dT_sumOf_12 rfl (lv_at hl 1 rfl) ?_
    refine lv_aload_n F.1 F.2.1 dT_sumOf_13 rfl (lv_at hl 2 rfl) ?_
    refine z_get F hK hP hinT q1 e1 rfl 1 (by decide) rfl wf_T_7 rfl dT_sumOf_14 ?_
    refine z_bipush (v := 48) F (by decide) dT_sumOf_17 ?_
    refine lv_iload_n F.1 F.2.1 dT_sumOf_19 rfl (lv_at hl 3 rfl) ?_
    refine z_imul F dT_sumOf_20 ?_
    refine z_bipush (v := 16) F (by decide) dT_sumOf_21 ?_
    refine lv_iload_n F.1 F.2.1 dT_sumOf_23 rfl (lv_at hl 4 rfl) ?_
    refine z_imul F dT_sumOf_24 ?_
    refine z_iadd F dT_sumOf_25 ?_
    refine lv_iload F.1 F.2.1 dT_sumOf_26 (lv_at hl 0 rfl) ?_
    refine z_iadd F dT_sumOf_28 ?_
    refine z_top ((j * 3 + row) * 16 + i) (by omega) ?_
    refine z_lald F hK hP q2 1 e2 rfl (by omega) (by decide) dT_sumOf_29 ?_
    have hm := z_mb (a := f ((j * 3 + row) * 16 + i)) (b := v i) (Nat.lt_trans (hf _) (by decide)) (Nat.lt_trans (hv _) (by decide))
    refine lv_aload_n F.1 F.2.1 dT_sumOf_30 rfl (lv_at hl 2 rfl) ?_
    refine z_get F hK hP hinT q1 e1 rfl 4 (by decide) rfl wf_T_13 rfl dT_sumOf_31 ?_
    refine lv_iload F.1 F.2.1 dT_sumOf_34 (lv_at hl 0 rfl) ?_
    refine z_lald F hK hP q3 1 e3 rfl (by omega) (by decide) dT_sumOf_36 ?_
    refine z_lmul F dT_sumOf_37 ?_
    refine z_ladd F dT_sumOf_38 ?_
    refine z_ldc2 F 998244353 (v0 := 998244353) wk_T_38 rfl dT_sumOf_39 ?_
    refine z_lrem F (by omega) (by omega) (by omega) dT_sumOf_42 ?_
    refine z_topL (sg (i + 1) (fun t => f ((j * 3 + row) * 16 + t) * v t) % 998244353) (sm2 i (fun t => f ((j * 3 + row) * 16 + t) * v t)) ?_
    refine lv_lstore_n F.1 F.2.1 (lv' := [(3, .long (lN (sg (i + 1) (fun t => f ((j * 3 + row) * 16 + t) * v t) % 998244353))), (5, .int (nI i)), (0, .ref y0), (1, .int (nI j)), (2, .int (nI row))]) dT_sumOf_43 rfl hl (by decide) rfl (fun ls hl => ?_)
    refine lv_iinc F.1 F.2.1 (k := 1) (v := nI (i + 1)) (lv' := [(5, .int (nI (i + 1))), (3, .long (lN (sg (i + 1) (fun t => f ((j * 3 + row) * 16 + t) * v t) % 998244353))), (0, .ref y0), (1, .int (nI j)), (2, .int (nI row))]) dT_sumOf_44 hl rfl (nI_1 i) (by decide) rfl (fun ls hl => ?_)
    refine lv_goto F.1 F.2.1 (tgt := 5) dT_sumOf_47 rfl ?_
    have hl : lv_has ls 6 [(5, .int (nI ((i + 1)))), (3, .long (lN (sg (i + 1) (fun t => f ((j * 3 + row) * 16 + t) * v t) % 998244353))), (0, .ref y0), (1, .int (nI j)), (2, .int (nI row))] := lv_sub hl [0, 1, 2, 3, 4] rfl
    exact ih (by omega)  ls  hl
set_option maxHeartbeats 4000000 in
set_option maxRecDepth 100000 in
theorem ct_firstOpen (l : Launch) (dC : Nat → ClassId) (dI : Nat → Nat → Nat) (cI cL : ClassId) (ws : va_W) (q1 q2 q3 : Nat) (y0 yR yV yI yX yP yQ yS yD : Nat) (th cn pb ta al be ga de va : Nat) (md pd : Bool) (f v : Nat → Nat) (e1 : ws[q1]? = some (y0, .inr (5, [.int (nI th), .ref yR, .int (nI cn), .int (nI pb), .ref yV, .ref yI, .int (z_b md), .long (lN ta), .long (lN al), .long (lN be), .long (lN ga), .long (lN de), .long (lN va), .ref yX, .int (z_b pd), .ref yP, .ref yQ, .ref yS, .ref yD]))) (e2 : ws[q2]? = some (yR, .inl (cL, 816, .inr (.inl (fun x9 => lN (f x9)))))) (e3 : ws[q3]? = some (yV, .inl (cL, 16, .inr (.inl (fun x9 => lN (v x9)))))) (hf : ∀ j, f j < 998244353) (hv : ∀ j, v j < 998244353) (hn : cn ≤ 16) : Met l yT_firstOpen (zW yT_firstOpen cT_firstOpen 4 (.some .int)) ({ frames := 1, cells := 0, slots := 0, locals := 25 }) (va_Pc [.ref y0] (z_R (dC, dI) vwCl [(cI, .int), (cL, .long)] ws)) (k2_QcV (.int (fo (bad f v) 0 cn))) 0 0 (fun _ => False) := by
  refine Met.ofW (cc := cT_firstOpen) (maxL := 4) (ret := (.some .int)) (by decide) rfl ?_
  intro p e s m args below meth c s₁ B hml hv
  obtain ⟨rfl, hP, hK⟩ := hv
  have F : CallFix p m c cT_firstOpen 4 s _ zT RT := ⟨B.exec, B.bytes, hml, findClass_of_methodNamed B.named, fun w h => atoms_spec (ws := (zW yT_firstOpen cT_firstOpen 4 (.some .int))) B.pre w (List.mem_cons_of_mem _ h)⟩
  have hr := B.returns
  have hlocks := B.notSynchronized
  have hl := lv_entry ([.ref y0]) (n := 4) (Nat.le_of_ble_eq_true rfl)
  rw [lg_entry_eq]
  generalize (lg_sl ([.ref y0]) ++ List.replicate (4 - (lg_sl ([.ref y0])).length) Slot.unset).toArray = ls at hl ⊢
  have hl : lv_has ls 4 [(0, .ref y0)] := hl
  refine z_iconst (v := 0) F (by decide) dT_firstOpen_0 ?_
  refine lv_istore_n F.1 F.2.1 (lv' := [(1, .int (nI 0)), (0, .ref y0)]) dT_firstOpen_1 rfl hl (by decide) rfl (fun ls hl => ?_)
  have hl : lv_has ls 4 [(1, .int (nI 0)), (0, .ref y0)] := lv_sub hl [0, 1] rfl
  refine z_up (E := cn) (P := fun i => ∀  (ls : Array Slot), (fo (bad f v) i (cn - i) = fo (bad f v) 0 cn) → lv_has ls 4 [(1, .int (nI i)), (0, .ref y0)] → W p l e _ s m _ below meth c s.heap [] _ _ _ (F0 m 2 ls [])) ?_ 0 (Nat.zero_le _)  ls (rfl) hl
  intro i hi ih  ls hb hl
  refine lv_iload_n F.1 F.2.1 dT_firstOpen_2 rfl (lv_at hl 0 rfl) ?_
  refine lv_aload_n F.1 F.2.1 dT_firstOpen_3 rfl (lv_at hl 1 rfl) ?_
  refine z_get F hK hP hinT q1 e1 rfl 2 (by decide) rfl wf_T_46 rfl dT_firstOpen_4 ?_
  refine z_icmp_ge F (by omega) (by omega) (tgt := 47) dT_firstOpen_7 rfl (fun h1 => ?_) (fun h1 => ?_)
  · refine lv_iconst (v := -1) F.1 F.2.1 dT_firstOpen_47 (by decide) ?_
    refine z_topV (fo (bad f v) 0 cn) (by rw [← hb, show cn - i = 0 by omega]; rfl) ?_
    exact W.iret F.1 F.2.1 hr (fun t ht hW => ⟨rfl, ht⟩) (fun _ h => by cases h) dT_firstOpen_48
  · refine lv_aload_n F.1 F.2.1 dT_firstOpen_10 rfl (lv_at hl 1 rfl) ?_
    refine lv_iload_n F.1 F.2.1 dT_firstOpen_11 rfl (lv_at hl 0 rfl) ?_
    refine z_iconst (v := 0) F (by decide) dT_firstOpen_12 ?_
    refine z_call (z_runV [.int (nI i), .int (nI 0)] [] F (ct_sumOf l dC dI cI cL ws q1 q2 q3 y0 yR yV yI yX yP yQ yS yD th cn pb ta al be ga de va md pd f v i 0 e1 e2 e3 hf hv (by omega) (by omega)) kk_T_sumOf wl_T_60 rfl rfl ⟨Nat.le_of_ble_eq_true rfl, Nat.le_of_ble_eq_true rfl⟩ (z_preVR (q := (RT, TT, 19)) hP hK rfl e1) rfl hl.1 rfl (Nat.le_of_ble_eq_true rfl) dT_firstOpen_13 ⟨Nat.zero_le _, Nat.zero_le _⟩) ?_
    refine lv_aload_n F.1 F.2.1 dT_firstOpen_16 rfl (lv_at hl 1 rfl) ?_
    refine lv_iload_n F.1 F.2.1 dT_firstOpen_17 rfl (lv_at hl 0 rfl) ?_
    refine z_iconst (v := 1) F (by decide) dT_firstOpen_18 ?_
    refine z_call (z_runV [.int (nI i), .int (nI 1)] [.long (lN (sg 16 (fun t => f ((i * 3 + 0) * 16 + t) * v t) % 998244353))] F (ct_sumOf l dC dI cI cL ws q1 q2 q3 y0 yR yV yI yX yP yQ yS yD th cn pb ta al be ga de va md pd f v i 1 e1 e2 e3 hf hv (by omega) (by omega)) kk_T_sumOf wl_T_60 rfl rfl ⟨Nat.le_of_ble_eq_true rfl, Nat.le_of_ble_eq_true rfl⟩ (z_preVR (q := (RT, TT, 19)) hP hK rfl e1) rfl hl.1 rfl (Nat.le_of_ble_eq_true rfl) dT_firstOpen_19 ⟨Nat.zero_le _, Nat.zero_le _⟩) ?_
    have hm := z_mb (a := sg 16 (fun t => f ((i * 3 + 0) * 16 + t) * v t) % 998244353) (b := sg 16 (fun t => f ((i * 3 + 1) * 16 + t) * v t) % 998244353) (Nat.lt_trans (ltP _) (by decide)) (Nat.lt_trans (ltP _) (by decide))
    refine z_lmul F dT_firstOpen_22 ?_
    refine z_ldc2 F 998244353 (v0 := 998244353) wk_T_38 rfl dT_firstOpen_23 ?_
    refine z_lrem F (by omega) (by omega) (by omega) dT_firstOpen_26 ?_
    refine lv_lstore_n F.1 F.2.1 (lv' := [(2, .long (lN (((sg 16 (fun t => f ((i * 3 + 0) * 16 + t) * v t) % 998244353) * (sg 16 (fun t => f ((i * 3 + 1) * 16 + t) * v t) % 998244353)) % 998244353))), (1, .int (nI i)), (0, .ref y0)]) dT_firstOpen_27 rfl hl (by decide) rfl (fun ls hl => ?_)
    refine lv_lload_n F.1 F.2.1 dT_firstOpen_28 rfl (lv_at hl 0 rfl) ?_
    refine lv_aload_n F.1 F.2.1 dT_firstOpen_29 rfl (lv_at hl 2 rfl) ?_
    refine lv_iload_n F.1 F.2.1 dT_firstOpen_30 rfl (lv_at hl 1 rfl) ?_
    refine z_iconst (v := 2) F (by decide) dT_firstOpen_31 ?_
    refine z_call (z_runV [.int (nI i), .int (nI 2)] [.long (lN (((sg 16 (fun t => f ((i * 3 + 0) * 16 + t) * v t) % 998244353) * (sg 16 (fun t => f ((i * 3 + 1) * 16 + t) * v t) % 998244353)) % 998244353))] F (ct_sumOf l dC dI cI cL ws q1 q2 q3 y0 yR yV yI yX yP yQ yS yD th cn pb ta al be ga de va md pd f v i 2 e1 e2 e3 hf hv (by omega) (by omega)) kk_T_sumOf wl_T_60 rfl rfl ⟨Nat.le_of_ble_eq_true rfl, Nat.le_of_ble_eq_true rfl⟩ (z_preVR (q := (RT, TT, 19)) hP hK rfl e1) rfl hl.1 rfl (Nat.le_of_ble_eq_true rfl) dT_firstOpen_32 ⟨Nat.zero_le _, Nat.zero_le _⟩) ?_
    refine z_lcmp F dT_firstOpen_35 ?_
    refine z_ifl_eq F (Nat.lt_trans (ltP _) (by decide)) (Nat.lt_trans (ltP _) (by decide)) (tgt := 41) dT_firstOpen_36 rfl (fun h2 => ?_) (fun h2 => ?_)
    · refine lv_iinc F.1 F.2.1 (k := 1) (v := nI (i + 1)) (lv' := [(1, .int (nI (i + 1))), (2, .long (lN (((sg 16 (fun t => f ((i * 3 + 0) * 16 + t) * v t) % 998244353) * (sg 16 (fun t => f ((i * 3 + 1) * 16 + t) * v t) % 998244353)) % 998244353))), (0, .ref y0)]) dT_firstOpen_41 hl rfl (nI_1 i) (by decide) rfl (fun ls hl => ?_)
      refine lv_goto F.1 F.2.1 (tgt := 2) dT_firstOpen_44 rfl ?_
      have hl : lv_has ls 4 [(1, .int (nI ((i + 1)))), (0, .ref y0)] := lv_sub hl [0, 2] rfl
      exact ih (by omega)  ls (by rw [← hb, show cn - i = (cn - (i + 1)) + 1 by omega, fo_s, if_neg (bad_no h2)]) hl
    · refine lv_iload_n F.1 F.2.1 dT_firstOpen_39 rfl (lv_at hl 1 rfl) ?_
      refine z_topV (fo (bad f v) 0 cn) (by rw [← hb, show cn - i = (cn - (i + 1)) + 1 by omega, fo_s, if_pos (bad_yes h2)]) ?_
      exact W.iret F.1 F.2.1 hr (fun t ht hW => ⟨rfl, ht⟩) (fun _ h => by cases h) dT_firstOpen_40
theorem co_turn (n k j : Nat) : bk n ^ (j * k) % 998244353 * pw (bk n) k % 998244353 = bk n ^ ((j + 1) * k) % 998244353 := by
  rw [Nat.add_mul, Nat.one_mul, Nat.pow_add]
  exact (cg.md _).mul (cg.md _)
theorem co_sum (n k j : Nat) (p : Nat → Nat) : (sg j (fun t => p t * bk n ^ (t * k)) % 998244353 + p j * (bk n ^ (j * k) % 998244353)) % 998244353 = sg (j + 1) (fun t => p t * bk n ^ (t * k)) % 998244353 := by
  rw [sg_s]
  exact (cg.md _).add (cg.mr _ (cg.md _))
theorem co_end (m n k : Nat) (p : Nat → Nat) : sg m (fun j => p j * bk n ^ (j * k)) % 998244353 * iv n % 998244353 = cf m n p k := cg.ml _ (cg.md _)
set_option maxHeartbeats 4000000 in
set_option maxRecDepth 100000 in
theorem ct_coefficient (l : Launch) (dC : Nat → ClassId) (dI : Nat → Nat → Nat) (cI cL : ClassId) (ws : va_W) (q1 q2 : Nat) (y0 yR yV yI yX yP yQ yS yD : Nat) (th cn pb ta al be ga de va : Nat) (md pd : Bool) (f : Nat → Nat) (row i k : Nat) (e1 : ws[q1]? = some (y0, .inr (5, [.int (nI th), .ref yR, .int (nI cn), .int (nI pb), .ref yV, .ref yI, .int (z_b md), .long (lN ta), .long (lN al), .long (lN be), .long (lN ga), .long (lN de), .long (lN va), .ref yX, .int (z_b pd), .ref yP, .ref yQ, .ref yS, .ref yD]))) (e2 : ws[q2]? = some (yR, .inl (cL, 816, .inr (.inl (fun x9 => lN (f x9)))))) (hf : ∀ j, f j < 998244353) (hi : i < 16) (hw : row < 3) (hn : cn ≤ 16) (hk : k < 16) : Met l yT_coefficient (zW yT_coefficient cT_coefficient 14 (.some .long)) ({ frames := 2, cells := 0, slots := 0, locals := 49 }) (va_Pc [.ref y0, .int (nI row), .int (nI i), .int (nI k)] (z_R (dC, dI) vwCl [(cI, .int), (cL, .long)] ws)) (k2_QcV (.long (lN (cf cn (szN cn) (fun t => f ((t * 3 + row) * 16 + i)) k)))) 0 0 (fun _ => False) := by
  refine Met.ofW (cc := cT_coefficient) (maxL := 14) (ret := (.some .long)) (by decide) rfl ?_
  intro p e s m args below meth c s₁ B hml hv
  obtain ⟨rfl, hP, hK⟩ := hv
  have F : CallFix p m c cT_coefficient 14 s _ zT RT := ⟨B.exec, B.bytes, hml, findClass_of_methodNamed B.named, fun w h => atoms_spec (ws := (zW yT_coefficient cT_coefficient 14 (.some .long))) B.pre w (List.mem_cons_of_mem _ h)⟩
  have hr := B.returns
  have hlocks := B.notSynchronized
  have hl := lv_entry ([.ref y0, .int (nI row), .int (nI i), .int (nI k)]) (n := 14) (Nat.le_of_ble_eq_true rfl)
  rw [lg_entry_eq]
  generalize (lg_sl ([.ref y0, .int (nI row), .int (nI i), .int (nI k)]) ++ List.replicate (14 - (lg_sl ([.ref y0, .int (nI row), .int (nI i), .int (nI k)])).length) Slot.unset).toArray = ls at hl ⊢
  have hl : lv_has ls 14 [(0, .ref y0), (1, .int (nI row)), (2, .int (nI i)), (3, .int (nI k))] := hl
  have hlo := szN_lo cn
  have hhi := szN_hi cn
  refine lv_aload_n F.1 F.2.1 dT_coefficient_0 rfl (lv_at hl 0 rfl) ?_
  refine z_call (z_runV [] [] F (ct_size l dC dI cI cL ws q1 y0 yR yV yI yX yP yQ yS yD th cn pb ta al be ga de va md pd e1 hn) kk_T_size wl_T_68 rfl rfl ⟨Nat.le_of_ble_eq_true rfl, Nat.le_of_ble_eq_true rfl⟩ (z_preVR (q := (RT, TT, 19)) hP hK rfl e1) rfl hl.1 rfl (Nat.le_of_ble_eq_true rfl) dT_coefficient_1 ⟨Nat.zero_le _, Nat.zero_le _⟩) ?_
  refine lv_istore F.1 F.2.1 (lv' := [(4, .int (nI (szN cn))), (0, .ref y0), (1, .int (nI row)), (2, .int (nI i)), (3, .int (nI k))]) dT_coefficient_4 hl (by decide) rfl (fun ls hl => ?_)
  refine z_ldc2 F 3 (v0 := 3) wk_T_71 rfl dT_coefficient_6 ?_
  refine z_ldc2 F 998244352 (v0 := 998244352) wk_T_73 rfl dT_coefficient_9 ?_
  refine lv_iload F.1 F.2.1 dT_coefficient_12 (lv_at hl 0 rfl) ?_
  refine z_i2l F (by omega) dT_coefficient_14 ?_
  refine z_ldiv F (by omega) (by omega) (by omega) dT_coefficient_15 ?_
  refine z_call (z_runS [.long (lN 3), .long (lN (998244352 / (szN cn)))] [] F (ct_power l 3 (998244352 / szN cn) (by decide) (Nat.lt_of_le_of_lt (Nat.div_le_self _ _) (by decide))) kk_T_power wl_T_42 rfl rfl ⟨Nat.le_of_ble_eq_true rfl, Nat.le_of_ble_eq_true rfl⟩ z_preN rfl hl.1 rfl (Nat.le_of_ble_eq_true rfl) dT_coefficient_16 ⟨Nat.zero_le _, Nat.zero_le _⟩) ?_
  refine lv_lstore F.1 F.2.1 (lv' := [(5, .long (lN (pw 3 (998244352 / szN cn)))), (4, .int (nI (szN cn))), (0, .ref y0), (1, .int (nI row)), (2, .int (nI i)), (3, .int (nI k))]) dT_coefficient_19 hl (by decide) rfl (fun ls hl => ?_)
  refine lv_lload F.1 F.2.1 dT_coefficient_21 (lv_at hl 0 rfl) ?_
  refine z_call (z_runS [.long (lN (pw 3 (998244352 / szN cn)))] [] F (ct_inverse l (pw 3 (998244352 / szN cn)) (Nat.lt_trans (pw_lt _ _) (by decide))) kk_T_inverse wl_T_75 rfl rfl ⟨Nat.le_of_ble_eq_true rfl, Nat.le_of_ble_eq_true rfl⟩ z_preN rfl hl.1 rfl (Nat.le_of_ble_eq_true rfl) dT_coefficient_23 ⟨Nat.zero_le _, Nat.zero_le _⟩) ?_
  refine z_topL (bk (szN cn)) (rfl) ?_
  refine lv_iload_n F.1 F.2.1 dT_coefficient_26 rfl (lv_at hl 5 rfl) ?_
  refine z_i2l F (by omega) dT_coefficient_27 ?_
  refine z_call (z_runS [.long (lN (bk (szN cn))), .long (lN k)] [] F (ct_power l (bk (szN cn)) k (Nat.lt_trans (bk_lt _) (by decide)) (by omega)) kk_T_power wl_T_42 rfl rfl ⟨Nat.le_of_ble_eq_true rfl, Nat.le_of_ble_eq_true rfl⟩ z_preN rfl hl.1 rfl (Nat.le_of_ble_eq_true rfl) dT_coefficient_28 ⟨Nat.zero_le _, Nat.zero_le _⟩) ?_
  refine lv_lstore F.1 F.2.1 (lv' := [(7, .long (lN (pw (bk (szN cn)) k))), (5, .long (lN (pw 3 (998244352 / szN cn)))), (4, .int (nI (szN cn))), (0, .ref y0), (1, .int (nI row)), (2, .int (nI i)), (3, .int (nI k))]) dT_coefficient_31 hl (by decide) rfl (fun ls hl => ?_)
  refine z_lconst (v := 1) F (by decide) dT_coefficient_33 ?_
  refine z_topL (bk (szN cn) ^ (0 * k) % 998244353) (by rw [Nat.zero_mul, Nat.pow_zero]) ?_
  refine lv_lstore F.1 F.2.1 (lv' := [(9, .long (lN (bk (szN cn) ^ (0 * k) % 998244353))), (7, .long (lN (pw (bk (szN cn)) k))), (5, .long (lN (pw 3 (998244352 / szN cn)))), (4, .int (nI (szN cn))), (0, .ref y0), (1, .int (nI row)), (2, .int (nI i)), (3, .int (nI k))]) dT_coefficient_34 hl (by decide) rfl (fun ls hl => ?_)
  refine z_lconst (v := 0) F (by decide) dT_coefficient_36 ?_
  refine lv_lstore F.1 F.2.1 (lv' := [(11, .long (lN 0)), (9, .long (lN (bk (szN cn) ^ (0 * k) % 998244353))), (7, .long (lN (pw (bk (szN cn)) k))), (5, .long (lN (pw 3 (998244352 / szN cn)))), (4, .int (nI (szN cn))), (0, .ref y0), (1, .int (nI row)), (2, .int (nI i)), (3, .int (nI k))]) dT_coefficient_37 hl (by decide) rfl (fun ls hl => ?_)
  refine z_iconst (v := 0) F (by decide) dT_coefficient_39 ?_
  refine lv_istore F.1 F.2.1 (lv' := [(13, .int (nI 0)), (11, .long (lN 0)), (9, .long (lN (bk (szN cn) ^ (0 * k) % 998244353))), (7, .long (lN (pw (bk (szN cn)) k))), (5, .long (lN (pw 3 (998244352 / szN cn)))), (4, .int (nI (szN cn))), (0, .ref y0), (1, .int (nI row)), (2, .int (nI i)), (3, .int (nI k))]) dT_coefficient_40 hl (by decide) rfl (fun ls hl => ?_)
  have hl : lv_has ls 14 [(13, .int (nI 0)), (11, .long (lN (sg 0 (fun t => f ((t * 3 + row) * 16 + i) * bk (szN cn) ^ (t * k)) % 998244353))), (9, .long (lN (bk (szN cn) ^ (0 * k) % 998244353))), (7, .long (lN (pw (bk (szN cn)) k))), (0, .ref y0), (1, .int (nI row)), (2, .int (nI i)), (4, .int (nI (szN cn)))] := lv_sub hl [0, 1, 2, 3, 6, 7, 8, 5] rfl
  refine z_up (E := cn) (P := fun j => ∀  (ls : Array Slot), lv_has ls 14 [(13, .int (nI j)), (11, .long (lN (sg j (fun t => f ((t * 3 + row) * 16 + i) * bk (szN cn) ^ (t * k)) % 998244353))), (9, .long (lN (bk (szN cn) ^ (j * k) % 998244353))), (7, .long (lN (pw (bk (szN cn)) k))), (0, .ref y0), (1, .int (nI row)), (2, .int (nI i)), (4, .int (nI (szN cn)))] → W p l e _ s m _ below meth c s.heap [] _ _ _ (F0 m 42 ls [])) ?_ 0 (Nat.zero_le _)  ls  hl
  intro j hj ih  ls  hl
  refine lv_iload F.1 F.2.1 dT_coefficient_42 (lv_at hl 0 rfl) ?_
  refine lv_aload_n F.1 F.2.1 dT_coefficient_44 rfl (lv_at hl 4 rfl) ?_
  refine z_get F hK hP hinT q1 e1 rfl 2 (by decide) rfl wf_T_46 rfl dT_coefficient_45 ?_
  refine z_icmp_ge F (by omega) (by omega) (tgt := 97) dT_coefficient_48 rfl (fun h1 => ?_) (fun h1 => ?_)
  · refine lv_lload F.1 F.2.1 dT_coefficient_97 (lv_at hl 1 rfl) ?_
    refine lv_iload F.1 F.2.1 dT_coefficient_99 (lv_at hl 7 rfl) ?_
    refine z_i2l F (by omega) dT_coefficient_101 ?_
    refine z_call (z_runS [.long (lN (szN cn))] [.long (lN (sg j (fun t => f ((t * 3 + row) * 16 + i) * bk (szN cn) ^ (t * k)) % 998244353))] F (ct_inverse l (szN cn) (by omega)) kk_T_inverse wl_T_75 rfl rfl ⟨Nat.le_of_ble_eq_true rfl, Nat.le_of_ble_eq_true rfl⟩ z_preN rfl hl.1 rfl (Nat.le_of_ble_eq_true rfl) dT_coefficient_102 ⟨Nat.zero_le _, Nat.zero_le _⟩) ?_
    have hm := z_mb (a := sg j (fun t => f ((t * 3 + row) * 16 + i) * bk (szN cn) ^ (t * k)) % 998244353) (b := iv (szN cn)) (Nat.lt_trans (ltP _) (by decide)) (Nat.lt_trans (iv_lt _) (by decide))
    refine z_lmul F dT_coefficient_105 ?_
    refine z_ldc2 F 998244353 (v0 := 998244353) wk_T_38 rfl dT_coefficient_106 ?_
    refine z_lrem F (by omega) (by omega) (by omega) dT_coefficient_109 ?_
    refine z_topL (cf cn (szN cn) (fun t => f ((t * 3 + row) * 16 + i)) k) (by rw [show j = cn by omega]; exact co_end cn (szN cn) k (fun t => f ((t * 3 + row) * 16 + i))) ?_
    exact W.lret F.1 F.2.1 hr (fun t ht hW => ⟨rfl, ht⟩) (fun _ h => by cases h) dT_coefficient_110
  · refine lv_lload F.1 F.2.1 dT_coefficient_51 (lv_at hl 1 rfl) ?_
    refine lv_aload_n F.1 F.2.1 dT_coefficient_53 rfl (lv_at hl 4 rfl) ?_
    refine z_get F hK hP hinT q1 e1 rfl 1 (by decide) rfl wf_T_7 rfl dT_coefficient_54 ?_
    refine z_bipush (v := 48) F (by decide) dT_coefficient_57 ?_
    refine lv_iload F.1 F.2.1 dT_coefficient_59 (lv_at hl 0 rfl) ?_
    refine z_imul F dT_coefficient_61 ?_
    refine z_bipush (v := 16) F (by decide) dT_coefficient_62 ?_
    refine lv_iload_n F.1 F.2.1 dT_coefficient_64 rfl (lv_at hl 5 rfl) ?_
    refine z_imul F dT_coefficient_65 ?_
    refine z_iadd F dT_coefficient_66 ?_
    refine lv_iload_n F.1 F.2.1 dT_coefficient_67 rfl (lv_at hl 6 rfl) ?_
    refine z_iadd F dT_coefficient_68 ?_
    refine z_top ((j * 3 + row) * 16 + i) (by omega) ?_
    refine z_lald F hK hP q2 1 e2 rfl (by omega) (by decide) dT_coefficient_69 ?_
    have hm := z_mb (a := f ((j * 3 + row) * 16 + i)) (b := bk (szN cn) ^ (j * k) % 998244353) (Nat.lt_trans (hf _) (by decide)) (Nat.lt_trans (ltP _) (by decide))
    have hm2 := z_mb (a := bk (szN cn) ^ (j * k) % 998244353) (b := pw (bk (szN cn)) k) (Nat.lt_trans (ltP _) (by decide)) (Nat.lt_trans (pw_lt _ _) (by decide))
    refine lv_lload F.1 F.2.1 dT_coefficient_70 (lv_at hl 2 rfl) ?_
    refine z_lmul F dT_coefficient_72 ?_
    refine z_ladd F dT_coefficient_73 ?_
    refine z_ldc2 F 998244353 (v0 := 998244353) wk_T_38 rfl dT_coefficient_74 ?_
    refine z_lrem F (by omega) (by omega) (by omega) dT_coefficient_77 ?_
    refine z_topL (sg (j + 1) (fun t => f ((t * 3 + row) * 16 + i) * bk (szN cn) ^ (t * k)) % 998244353) (co_sum (szN cn) k j (fun t => f ((t * 3 + row) * 16 + i))) ?_
    refine lv_lstore F.1 F.2.1 (lv' := [(11, .long (lN (sg (j + 1) (fun t => f ((t * 3 + row) * 16 + i) * bk (szN cn) ^ (t * k)) % 998244353))), (13, .int (nI j)), (9, .long (lN (bk (szN cn) ^ (j * k) % 998244353))), (7, .long (lN (pw (bk (szN cn)) k))), (0, .ref y0), (1, .int (nI row)), (2, .int (nI i)), (4, .int (nI (szN cn)))]) dT_coefficient_78 hl (by decide) rfl (fun ls hl => ?_)
    refine lv_lload F.1 F.2.1 dT_coefficient_80 (lv_at hl 2 rfl) ?_
    refine lv_lload F.1 F.2.1 dT_coefficient_82 (lv_at hl 3 rfl) ?_
    refine z_lmul F dT_coefficient_84 ?_
    refine z_ldc2 F 998244353 (v0 := 998244353) wk_T_38 rfl dT_coefficient_85 ?_
    refine z_lrem F (by omega) (by omega) (by omega) dT_coefficient_88 ?_
    refine z_topL (bk (szN cn) ^ ((j + 1) * k) % 998244353) (co_turn (szN cn) k j) ?_
    refine lv_lstore F.1 F.2.1 (lv' := [(9, .long (lN (bk (szN cn) ^ ((j + 1) * k) % 998244353))), (11, .long (lN (sg (j + 1) (fun t => f ((t * 3 + row) * 16 + i) * bk (szN cn) ^ (t * k)) % 998244353))), (13, .int (nI j)), (7, .long (lN (pw (bk (szN cn)) k))), (0, .ref y0), (1, .int (nI row)), (2, .int (nI i)), (4, .int (nI (szN cn)))]) dT_coefficient_89 hl (by decide) rfl (fun ls hl => ?_)
    refine lv_iinc F.1 F.2.1 (k := 2) (v := nI (j + 1)) (lv' := [(13, .int (nI (j + 1))), (9, .long (lN (bk (szN cn) ^ ((j + 1) * k) % 998244353))), (11, .long (lN (sg (j + 1) (fun t => f ((t * 3 + row) * 16 + i) * bk (szN cn) ^ (t * k)) % 998244353))), (7, .long (lN (pw (bk (szN cn)) k))), (0, .ref y0), (1, .int (nI row)), (2, .int (nI i)), (4, .int (nI (szN cn)))]) dT_coefficient_91 hl rfl (nI_1 j) (by decide) rfl (fun ls hl => ?_)
    refine lv_goto F.1 F.2.1 (tgt := 42) dT_coefficient_94 rfl ?_
    have hl : lv_has ls 14 [(13, .int (nI ((j + 1)))), (11, .long (lN (sg (j + 1) (fun t => f ((t * 3 + row) * 16 + i) * bk (szN cn) ^ (t * k)) % 998244353))), (9, .long (lN (bk (szN cn) ^ ((j + 1) * k) % 998244353))), (7, .long (lN (pw (bk (szN cn)) k))), (0, .ref y0), (1, .int (nI row)), (2, .int (nI i)), (4, .int (nI (szN cn)))] := lv_sub hl [0, 2, 1, 3, 4, 5, 6, 7] rfl
    exact ih (by omega)  ls  hl
