set_option maxHeartbeats 4000000 in
set_option maxRecDepth 100000 in
theorem c_start (l : Launch) (j row : Nat)  : Met l yC_start (zW yC_start cC_start 2 (.some .int)) ({ frames := 0, cells := 0, slots := 0, locals := 0 }) (va_Pc [.int (nI j), .int (nI row)] (fun _ => True)) (k2_QcV (.int (nI ((j * 3 + row) * 16)))) 0 0 (fun _ => False) := by
  refine Met.ofW (cc := cC_start) (maxL := 2) (ret := (.some .int)) (by decide) rfl ?_
  intro p e s m args below meth c s₁ B hml hv
  obtain ⟨rfl, -⟩ := hv
  have F : CallFix p m c cC_start 2 s _ zT RC := ⟨B.exec, B.bytes, hml, findClass_of_methodNamed B.named, fun w h => atoms_spec (ws := (zW yC_start cC_start 2 (.some .int))) B.pre w (List.mem_cons_of_mem _ h)⟩
  have hr := B.returns
  have hlocks := B.notSynchronized
  have hl := lv_entry ([.int (nI j), .int (nI row)]) (n := 2) (Nat.le_of_ble_eq_true rfl)
  rw [lg_entry_eq]
  generalize (lg_sl ([.int (nI j), .int (nI row)]) ++ List.replicate (2 - (lg_sl ([.int (nI j), .int (nI row)])).length) Slot.unset).toArray = ls at hl ⊢
  have hl : lv_has ls 2 [(0, .int (nI j)), (1, .int (nI row))] := hl
  refine lv_iload_n F.1 F.2.1 dC_start_0 rfl (lv_at hl 0 rfl) ?_
  refine z_iconst (v := 3) F (by decide) dC_start_1 ?_
  refine z_imul F dC_start_2 ?_
  refine lv_iload_n F.1 F.2.1 dC_start_3 rfl (lv_at hl 1 rfl) ?_
  refine z_iadd F dC_start_4 ?_
  refine z_bipush (v := 16) F (by decide) dC_start_5 ?_
  refine z_imul F dC_start_7 ?_
  exact W.iret F.1 F.2.1 hr (fun t ht hW => ⟨rfl, ht⟩) (fun _ h => by cases h) dC_start_8
set_option maxHeartbeats 4000000 in
set_option maxRecDepth 100000 in
theorem c_count (l : Launch) (dC : Nat → ClassId) (dI : Nat → Nat → Nat) (cI cL : ClassId) (ws : va_W) (q1 : Nat) (h0 hA cn : Nat) (e1 : ws[q1]? = some (h0, .inr (0, [.ref hA, .int (nI cn)])))  : Met l yC_count (zW yC_count cC_count 1 (.some .int)) ({ frames := 0, cells := 0, slots := 0, locals := 0 }) (va_Pc [.ref h0] (z_R (dC, dI) vwCl [(cI, .int), (cL, .long)] ws)) (k2_QcV (.int (nI cn))) 0 0 (fun _ => False) := by
  refine Met.ofW (cc := cC_count) (maxL := 1) (ret := (.some .int)) (by decide) rfl ?_
  intro p e s m args below meth c s₁ B hml hv
  obtain ⟨rfl, hP, hK⟩ := hv
  have F : CallFix p m c cC_count 1 s _ zT RC := ⟨B.exec, B.bytes, hml, findClass_of_methodNamed B.named, fun w h => atoms_spec (ws := (zW yC_count cC_count 1 (.some .int))) B.pre w (List.mem_cons_of_mem _ h)⟩
  have hr := B.returns
  have hlocks := B.notSynchronized
  have hl := lv_entry ([.ref h0]) (n := 1) (Nat.le_of_ble_eq_true rfl)
  rw [lg_entry_eq]
  generalize (lg_sl ([.ref h0]) ++ List.replicate (1 - (lg_sl ([.ref h0])).length) Slot.unset).toArray = ls at hl ⊢
  have hl : lv_has ls 1 [(0, .ref h0)] := hl
  refine lv_aload_n F.1 F.2.1 dC_count_0 rfl (lv_at hl 0 rfl) ?_
  refine z_get F hK hP hinC q1 e1 rfl 1 (by decide) rfl wf_C_15 rfl dC_count_1 ?_
  exact W.iret F.1 F.2.1 hr (fun t ht hW => ⟨rfl, ht⟩) (fun _ h => by cases h) dC_count_4
set_option maxHeartbeats 4000000 in
set_option maxRecDepth 100000 in
theorem c_rowSum (l : Launch) (dC : Nat → ClassId) (dI : Nat → Nat → Nat) (cI cL : ClassId) (ws : va_W) (q1 q2 q3 : Nat) (h0 hA hV cn : Nat) (f v : Nat → Nat) (j row : Nat) (e1 : ws[q1]? = some (h0, .inr (0, [.ref hA, .int (nI cn)]))) (e2 : ws[q2]? = some (hA, .inl (cI, 816, .inl (fun j => nI (f j))))) (e3 : ws[q3]? = some (hV, .inl (cI, 16, .inl (fun j => nI (v j))))) (hf : ∀ j, f j < 998244353) (hv : ∀ j, v j < 998244353) (hj : j < 16) (hw : row < 3) : Met l yC_rowSum (zW yC_rowSum cC_rowSum 7 (.some .int)) ({ frames := 1, cells := 0, slots := 0, locals := 22 }) (va_Pc [.ref h0, .int (nI j), .int (nI row), .ref hV] (z_R (dC, dI) vwCl [(cI, .int), (cL, .long)] ws)) (k2_QcV (.int (nI (sg 16 (fun t => f ((j * 3 + row) * 16 + t) * v t) % 998244353)))) 0 0 (fun _ => False) := by
  refine Met.ofW (cc := cC_rowSum) (maxL := 7) (ret := (.some .int)) (by decide) rfl ?_
  intro p e s m args below meth c s₁ B hml hv
  obtain ⟨rfl, hP, hK⟩ := hv
  have F : CallFix p m c cC_rowSum 7 s _ zT RC := ⟨B.exec, B.bytes, hml, findClass_of_methodNamed B.named, fun w h => atoms_spec (ws := (zW yC_rowSum cC_rowSum 7 (.some .int))) B.pre w (List.mem_cons_of_mem _ h)⟩
  have hr := B.returns
  have hlocks := B.notSynchronized
  have hl := lv_entry ([.ref h0, .int (nI j), .int (nI row), .ref hV]) (n := 7) (Nat.le_of_ble_eq_true rfl)
  rw [lg_entry_eq]
  generalize (lg_sl ([.ref h0, .int (nI j), .int (nI row), .ref hV]) ++ List.replicate (7 - (lg_sl ([.ref h0, .int (nI j), .int (nI row), .ref hV])).length) Slot.unset).toArray = ls at hl ⊢
  have hl : lv_has ls 7 [(0, .ref h0), (1, .int (nI j)), (2, .int (nI row)), (3, .ref hV)] := hl
  refine lv_iload_n F.1 F.2.1 dC_rowSum_0 rfl (lv_at hl 1 rfl) ?_
  refine lv_iload_n F.1 F.2.1 dC_rowSum_1 rfl (lv_at hl 2 rfl) ?_
  refine z_call (z_runS [.int (nI j), .int (nI row)] [] F (c_start l j row) kk_C_start wl_C_19 rfl rfl ⟨Nat.le_of_ble_eq_true rfl, Nat.le_of_ble_eq_true rfl⟩ z_preN rfl hl.1 rfl (Nat.le_of_ble_eq_true rfl) dC_rowSum_2 ⟨Nat.zero_le _, Nat.zero_le _⟩) ?_
  refine lv_istore F.1 F.2.1 (lv' := [(4, .int (nI ((j * 3 + row) * 16))), (0, .ref h0), (1, .int (nI j)), (2, .int (nI row)), (3, .ref hV)]) dC_rowSum_5 hl (by decide) rfl (fun ls hl => ?_)
  refine z_iconst (v := 0) F (by decide) dC_rowSum_7 ?_
  refine lv_istore F.1 F.2.1 (lv' := [(5, .int (nI 0)), (4, .int (nI ((j * 3 + row) * 16))), (0, .ref h0), (1, .int (nI j)), (2, .int (nI row)), (3, .ref hV)]) dC_rowSum_8 hl (by decide) rfl (fun ls hl => ?_)
  refine z_iconst (v := 0) F (by decide) dC_rowSum_10 ?_
  refine lv_istore F.1 F.2.1 (lv' := [(6, .int (nI 0)), (5, .int (nI 0)), (4, .int (nI ((j * 3 + row) * 16))), (0, .ref h0), (1, .int (nI j)), (2, .int (nI row)), (3, .ref hV)]) dC_rowSum_11 hl (by decide) rfl (fun ls hl => ?_)
  have hl : lv_has ls 7 [(6, .int (nI 0)), (5, .int (nI (sg 0 (fun t => f ((j * 3 + row) * 16 + t) * v t) % 998244353))), (0, .ref h0), (1, .int (nI j)), (2, .int (nI row)), (3, .ref hV), (4, .int (nI ((j * 3 + row) * 16)))] := lv_sub hl [0, 1, 3, 4, 5, 6, 2] rfl
  refine z_up (E := 16) (P := fun i => ∀  (ls : Array Slot), lv_has ls 7 [(6, .int (nI i)), (5, .int (nI (sg i (fun t => f ((j * 3 + row) * 16 + t) * v t) % 998244353))), (0, .ref h0), (1, .int (nI j)), (2, .int (nI row)), (3, .ref hV), (4, .int (nI ((j * 3 + row) * 16)))] → W p l e _ s m _ below meth c s.heap [] _ _ _ (F0 m 13 ls [])) ?_ 0 (Nat.zero_le _)  ls  hl
  intro i hi ih  ls  hl
  refine lv_iload F.1 F.2.1 dC_rowSum_13 (lv_at hl 0 rfl) ?_
  refine z_bipush (v := 16) F (by decide) dC_rowSum_15 ?_
  refine z_icmp_ge F (by omega) (by omega) (tgt := 50) dC_rowSum_17 rfl (fun h1 => ?_) (fun h1 => ?_)
  · refine lv_iload F.1 F.2.1 dC_rowSum_50 (lv_at hl 1 rfl) ?_
    refine z_top (sg 16 (fun t => f ((j * 3 + row) * 16 + t) * v t) % 998244353) (by rw [show i = 16 by omega]) ?_
    exact W.iret F.1 F.2.1 hr (fun t ht hW => ⟨rfl, ht⟩) (fun _ h => by cases h) dC_rowSum_52
  · refine lv_iload F.1 F.2.1 dC_rowSum_20 (lv_at hl 1 rfl) ?_
    refine lv_aload_n F.1 F.2.1 dC_rowSum_22 rfl (lv_at hl 2 rfl) ?_
    refine z_get F hK hP hinC q1 e1 rfl 0 (by decide) rfl wf_C_9 rfl dC_rowSum_23 ?_
    refine lv_iload F.1 F.2.1 dC_rowSum_26 (lv_at hl 6 rfl) ?_
    refine lv_iload F.1 F.2.1 dC_rowSum_28 (lv_at hl 0 rfl) ?_
    refine z_iadd F dC_rowSum_30 ?_
    refine z_iald F hK hP q2 0 e2 rfl (by omega) (by decide) dC_rowSum_31 ?_
    refine lv_aload_n F.1 F.2.1 dC_rowSum_32 rfl (lv_at hl 5 rfl) ?_
    refine lv_iload F.1 F.2.1 dC_rowSum_33 (lv_at hl 0 rfl) ?_
    refine z_iald F hK hP q3 0 e3 rfl (by omega) (by decide) dC_rowSum_35 ?_
    refine z_call (z_runS [.int (nI (f (((j * 3 + row) * 16) + i))), .int (nI (v i))] [.int (nI (sg i (fun t => f ((j * 3 + row) * 16 + t) * v t) % 998244353))] F (c_product l (f ((j * 3 + row) * 16 + i)) (v i) (Nat.lt_trans (hf _) (by decide)) (Nat.lt_trans (hv _) (by decide))) kk_F_product wl_C_32 rfl rfl ⟨Nat.le_of_ble_eq_true rfl, Nat.le_of_ble_eq_true rfl⟩ z_preN rfl hl.1 rfl (Nat.le_of_ble_eq_true rfl) dC_rowSum_36 ⟨Nat.zero_le _, Nat.zero_le _⟩) ?_
    refine z_call (z_runS [.int (nI (sg i (fun t => f ((j * 3 + row) * 16 + t) * v t) % 998244353)), .int (nI ((f ((j * 3 + row) * 16 + i)) * (v i) % 998244353))] [] F (c_sum l (sg i (fun t => f ((j * 3 + row) * 16 + t) * v t) % 998244353) ((f ((j * 3 + row) * 16 + i)) * (v i) % 998244353) (ltP _) (ltP _)) kk_F_sum wl_C_23 rfl rfl ⟨Nat.le_of_ble_eq_true rfl, Nat.le_of_ble_eq_true rfl⟩ z_preN rfl hl.1 rfl (Nat.le_of_ble_eq_true rfl) dC_rowSum_39 ⟨Nat.zero_le _, Nat.zero_le _⟩) ?_
    refine z_top (sg (i + 1) (fun t => f ((j * 3 + row) * 16 + t) * v t) % 998244353) (sm1 i (fun t => f ((j * 3 + row) * 16 + t) * v t)) ?_
    refine lv_istore F.1 F.2.1 (lv' := [(5, .int (nI (sg (i + 1) (fun t => f ((j * 3 + row) * 16 + t) * v t) % 998244353))), (6, .int (nI i)), (0, .ref h0), (1, .int (nI j)), (2, .int (nI row)), (3, .ref hV), (4, .int (nI ((j * 3 + row) * 16)))]) dC_rowSum_42 hl (by decide) rfl (fun ls hl => ?_)
    refine lv_iinc F.1 F.2.1 (k := 1) (v := nI (i + 1)) (lv' := [(6, .int (nI (i + 1))), (5, .int (nI (sg (i + 1) (fun t => f ((j * 3 + row) * 16 + t) * v t) % 998244353))), (0, .ref h0), (1, .int (nI j)), (2, .int (nI row)), (3, .ref hV), (4, .int (nI ((j * 3 + row) * 16)))]) dC_rowSum_44 hl rfl (nI_1 i) (by decide) rfl (fun ls hl => ?_)
    refine lv_goto F.1 F.2.1 (tgt := 13) dC_rowSum_47 rfl ?_
    have hl : lv_has ls 7 [(6, .int (nI ((i + 1)))), (5, .int (nI (sg (i + 1) (fun t => f ((j * 3 + row) * 16 + t) * v t) % 998244353))), (0, .ref h0), (1, .int (nI j)), (2, .int (nI row)), (3, .ref hV), (4, .int (nI ((j * 3 + row) * 16)))] := lv_sub hl [0, 1, 2, 3, 4, 5, 6] rfl
    exact ih (by omega)  ls  hl
/-- is the product of the first two sums of constraint j another than the third -/
def bad (f v : Nat → Nat) (j : Nat) : Bool := decide (sg 16 (fun t => f ((j * 3 + 0) * 16 + t) * v t) % 998244353 * (sg 16 (fun t => f ((j * 3 + 1) * 16 + t) * v t) % 998244353) % 998244353 ≠ sg 16 (fun t => f ((j * 3 + 2) * 16 + t) * v t) % 998244353)
theorem bad_no {f v : Nat → Nat} {j : Nat} (h : sg 16 (fun t => f ((j * 3 + 0) * 16 + t) * v t) % 998244353 * (sg 16 (fun t => f ((j * 3 + 1) * 16 + t) * v t) % 998244353) % 998244353 = sg 16 (fun t => f ((j * 3 + 2) * 16 + t) * v t) % 998244353) : ¬ bad f v j = true := fun q => of_decide_eq_true q h
theorem bad_yes {f v : Nat → Nat} {j : Nat} (h : sg 16 (fun t => f ((j * 3 + 0) * 16 + t) * v t) % 998244353 * (sg 16 (fun t => f ((j * 3 + 1) * 16 + t) * v t) % 998244353) % 998244353 ≠ sg 16 (fun t => f ((j * 3 + 2) * 16 + t) * v t) % 998244353) : bad f v j = true := decide_eq_true h
/-- the first of n numbers from i on that is so, as an int; else -1 -/
def fo (g : Nat → Bool) : Nat → Nat → Int32
  | _, 0 => -1
  | i, n + 1 => if g i = true then nI i else fo g (i + 1) n
theorem fo_s (g : Nat → Bool) (i n : Nat) : fo g i (n + 1) = if g i = true then nI i else fo g (i + 1) n := rfl
set_option maxHeartbeats 4000000 in
set_option maxRecDepth 100000 in
theorem c_firstOpen (l : Launch) (dC : Nat → ClassId) (dI : Nat → Nat → Nat) (cI cL : ClassId) (ws : va_W) (q1 q2 q3 : Nat) (h0 hA hV cn : Nat) (f v : Nat → Nat) (e1 : ws[q1]? = some (h0, .inr (0, [.ref hA, .int (nI cn)]))) (e2 : ws[q2]? = some (hA, .inl (cI, 816, .inl (fun j => nI (f j))))) (e3 : ws[q3]? = some (hV, .inl (cI, 16, .inl (fun j => nI (v j))))) (hf : ∀ j, f j < 998244353) (hv : ∀ j, v j < 998244353) (hn : cn ≤ 16) : Met l yC_firstOpen (zW yC_firstOpen cC_firstOpen 4 (.some .int)) ({ frames := 2, cells := 0, slots := 0, locals := 48 }) (va_Pc [.ref h0, .ref hV] (z_R (dC, dI) vwCl [(cI, .int), (cL, .long)] ws)) (k2_QcV (.int (fo (bad f v) 0 cn))) 0 0 (fun _ => False) := by
  refine Met.ofW (cc := cC_firstOpen) (maxL := 4) (ret := (.some .int)) (by decide) rfl ?_
  intro p e s m args below meth c s₁ B hml hv
  obtain ⟨rfl, hP, hK⟩ := hv
  have F : CallFix p m c cC_firstOpen 4 s _ zT RC := ⟨B.exec, B.bytes, hml, findClass_of_methodNamed B.named, fun w h => atoms_spec (ws := (zW yC_firstOpen cC_firstOpen 4 (.some .int))) B.pre w (List.mem_cons_of_mem _ h)⟩
  have hr := B.returns
  have hlocks := B.notSynchronized
  have hl := lv_entry ([.ref h0, .ref hV]) (n := 4) (Nat.le_of_ble_eq_true rfl)
  rw [lg_entry_eq]
  generalize (lg_sl ([.ref h0, .ref hV]) ++ List.replicate (4 - (lg_sl ([.ref h0, .ref hV])).length) Slot.unset).toArray = ls at hl ⊢
  have hl : lv_has ls 4 [(0, .ref h0), (1, .ref hV)] := hl
  refine z_iconst (v := 0) F (by decide) dC_firstOpen_0 ?_
  refine lv_istore_n F.1 F.2.1 (lv' := [(2, .int (nI 0)), (0, .ref h0), (1, .ref hV)]) dC_firstOpen_1 rfl hl (by decide) rfl (fun ls hl => ?_)
  have hl : lv_has ls 4 [(2, .int (nI 0)), (0, .ref h0), (1, .ref hV)] := lv_sub hl [0, 1, 2] rfl
  refine z_up (E := cn) (P := fun i => ∀  (ls : Array Slot), fo (bad f v) i (cn - i) = fo (bad f v) 0 cn → lv_has ls 4 [(2, .int (nI i)), (0, .ref h0), (1, .ref hV)] → W p l e _ s m _ below meth c s.heap [] _ _ _ (F0 m 2 ls [])) ?_ 0 (Nat.zero_le _)  ls (rfl) hl
  intro i hi ih  ls hb hl
  refine lv_iload_n F.1 F.2.1 dC_firstOpen_2 rfl (lv_at hl 0 rfl) ?_
  refine lv_aload_n F.1 F.2.1 dC_firstOpen_3 rfl (lv_at hl 1 rfl) ?_
  refine z_get F hK hP hinC q1 e1 rfl 1 (by decide) rfl wf_C_15 rfl dC_firstOpen_4 ?_
  refine z_icmp_ge F (by omega) (by omega) (tgt := 47) dC_firstOpen_7 rfl (fun h1 => ?_) (fun h1 => ?_)
  · refine lv_iconst (v := -1) F.1 F.2.1 dC_firstOpen_47 (by decide) ?_
    refine z_topV (fo (bad f v) 0 cn) (by rw [← hb, show cn - i = 0 by omega]; rfl) ?_
    exact W.iret F.1 F.2.1 hr (fun t ht hW => ⟨rfl, ht⟩) (fun _ h => by cases h) dC_firstOpen_48
  · refine lv_aload_n F.1 F.2.1 dC_firstOpen_10 rfl (lv_at hl 1 rfl) ?_
    refine lv_iload_n F.1 F.2.1 dC_firstOpen_11 rfl (lv_at hl 0 rfl) ?_
    refine z_iconst (v := 0) F (by decide) dC_firstOpen_12 ?_
    refine lv_aload_n F.1 F.2.1 dC_firstOpen_13 rfl (lv_at hl 2 rfl) ?_
    refine z_call (z_runV [.int (nI i), .int (nI 0), .ref hV] [] F (c_rowSum l dC dI cI cL ws q1 q2 q3 h0 hA hV cn f v i 0 e1 e2 e3 hf hv (by omega) (by omega)) kk_C_rowSum wl_C_28 rfl rfl ⟨Nat.le_of_ble_eq_true rfl, Nat.le_of_ble_eq_true rfl⟩ (z_preVR (q := (RC, TC, 2)) hP hK rfl e1) rfl hl.1 rfl (Nat.le_of_ble_eq_true rfl) dC_firstOpen_14 ⟨Nat.zero_le _, Nat.zero_le _⟩) ?_
    refine lv_aload_n F.1 F.2.1 dC_firstOpen_17 rfl (lv_at hl 1 rfl) ?_
    refine lv_iload_n F.1 F.2.1 dC_firstOpen_18 rfl (lv_at hl 0 rfl) ?_
    refine z_iconst (v := 1) F (by decide) dC_firstOpen_19 ?_
    refine lv_aload_n F.1 F.2.1 dC_firstOpen_20 rfl (lv_at hl 2 rfl) ?_
    refine z_call (z_runV [.int (nI i), .int (nI 1), .ref hV] [.int (nI (sg 16 (fun t => f ((i * 3 + 0) * 16 + t) * v t) % 998244353))] F (c_rowSum l dC dI cI cL ws q1 q2 q3 h0 hA hV cn f v i 1 e1 e2 e3 hf hv (by omega) (by omega)) kk_C_rowSum wl_C_28 rfl rfl ⟨Nat.le_of_ble_eq_true rfl, Nat.le_of_ble_eq_true rfl⟩ (z_preVR (q := (RC, TC, 2)) hP hK rfl e1) rfl hl.1 rfl (Nat.le_of_ble_eq_true rfl) dC_firstOpen_21 ⟨Nat.zero_le _, Nat.zero_le _⟩) ?_
    refine z_call (z_runS [.int (nI (sg 16 (fun t => f ((i * 3 + 0) * 16 + t) * v t) % 998244353)), .int (nI (sg 16 (fun t => f ((i * 3 + 1) * 16 + t) * v t) % 998244353))] [] F (c_product l (sg 16 (fun t => f ((i * 3 + 0) * 16 + t) * v t) % 998244353) (sg 16 (fun t => f ((i * 3 + 1) * 16 + t) * v t) % 998244353) (Nat.lt_trans (ltP _) (by decide)) (Nat.lt_trans (ltP _) (by decide))) kk_F_product wl_C_32 rfl rfl ⟨Nat.le_of_ble_eq_true rfl, Nat.le_of_ble_eq_true rfl⟩ z_preN rfl hl.1 rfl (Nat.le_of_ble_eq_true rfl) dC_firstOpen_24 ⟨Nat.zero_le _, Nat.zero_le _⟩) ?_
    refine lv_istore_n F.1 F.2.1 (lv' := [(3, .int (nI ((sg 16 (fun t => f ((i * 3 + 0) * 16 + t) * v t) % 998244353) * (sg 16 (fun t => f ((i * 3 + 1) * 16 + t) * v t) % 998244353) % 998244353))), (2, .int (nI i)), (0, .ref h0), (1, .ref hV)]) dC_firstOpen_27 rfl hl (by decide) rfl (fun ls hl => ?_)
    refine lv_iload_n F.1 F.2.1 dC_firstOpen_28 rfl (lv_at hl 0 rfl) ?_
    refine lv_aload_n F.1 F.2.1 dC_firstOpen_29 rfl (lv_at hl 2 rfl) ?_
    refine lv_iload_n F.1 F.2.1 dC_firstOpen_30 rfl (lv_at hl 1 rfl) ?_
    refine z_iconst (v := 2) F (by decide) dC_firstOpen_31 ?_
    refine lv_aload_n F.1 F.2.1 dC_firstOpen_32 rfl (lv_at hl 3 rfl) ?_
    refine z_call (z_runV [.int (nI i), .int (nI 2), .ref hV] [.int (nI ((sg 16 (fun t => f ((i * 3 + 0) * 16 + t) * v t) % 998244353) * (sg 16 (fun t => f ((i * 3 + 1) * 16 + t) * v t) % 998244353) % 998244353))] F (c_rowSum l dC dI cI cL ws q1 q2 q3 h0 hA hV cn f v i 2 e1 e2 e3 hf hv (by omega) (by omega)) kk_C_rowSum wl_C_28 rfl rfl ⟨Nat.le_of_ble_eq_true rfl, Nat.le_of_ble_eq_true rfl⟩ (z_preVR (q := (RC, TC, 2)) hP hK rfl e1) rfl hl.1 rfl (Nat.le_of_ble_eq_true rfl) dC_firstOpen_33 ⟨Nat.zero_le _, Nat.zero_le _⟩) ?_
    refine z_icmp_eq F (by omega) (by omega) (tgt := 41) dC_firstOpen_36 rfl (fun h2 => ?_) (fun h2 => ?_)
    · refine lv_iinc F.1 F.2.1 (k := 1) (v := nI (i + 1)) (lv' := [(2, .int (nI (i + 1))), (3, .int (nI ((sg 16 (fun t => f ((i * 3 + 0) * 16 + t) * v t) % 998244353) * (sg 16 (fun t => f ((i * 3 + 1) * 16 + t) * v t) % 998244353) % 998244353))), (0, .ref h0), (1, .ref hV)]) dC_firstOpen_41 hl rfl (nI_1 i) (by decide) rfl (fun ls hl => ?_)
      refine lv_goto F.1 F.2.1 (tgt := 2) dC_firstOpen_44 rfl ?_
      have hl : lv_has ls 4 [(2, .int (nI ((i + 1)))), (0, .ref h0), (1, .ref hV)] := lv_sub hl [0, 2, 3] rfl
      exact ih (by omega)  ls (by rw [← hb, show cn - i = (cn - (i + 1)) + 1 by omega, fo_s, if_neg (bad_no h2)]) hl
    · refine lv_iload_n F.1 F.2.1 dC_firstOpen_39 rfl (lv_at hl 1 rfl) ?_
      refine z_topV (fo (bad f v) 0 cn) (by rw [← hb, show cn - i = (cn - (i + 1)) + 1 by omega, fo_s, if_pos (bad_yes h2)]) ?_
      exact W.iret F.1 F.2.1 hr (fun t ht hW => ⟨rfl, ht⟩) (fun _ h => by cases h) dC_firstOpen_40
set_option maxHeartbeats 4000000 in
set_option maxRecDepth 100000 in
theorem c_columnAt (l : Launch) (dC : Nat → ClassId) (dI : Nat → Nat → Nat) (cI cL : ClassId) (ws : va_W) (q1 q2 q3 : Nat) (h0 hA hV cn : Nat) (f v : Nat → Nat) (row i : Nat) (e1 : ws[q1]? = some (h0, .inr (0, [.ref hA, .int (nI cn)]))) (e2 : ws[q2]? = some (hA, .inl (cI, 816, .inl (fun j => nI (f j))))) (e3 : ws[q3]? = some (hV, .inl (cI, 16, .inl (fun j => nI (v j))))) (hf : ∀ j, f j < 998244353) (hv : ∀ j, v j < 998244353) (hi : i < 16) (hw : row < 3) (hn : cn ≤ 16) : Met l yC_columnAt (zW yC_columnAt cC_columnAt 6 (.some .int)) ({ frames := 1, cells := 0, slots := 0, locals := 22 }) (va_Pc [.ref h0, .int (nI row), .int (nI i), .ref hV] (z_R (dC, dI) vwCl [(cI, .int), (cL, .long)] ws)) (k2_QcV (.int (nI (sg cn (fun t => f ((t * 3 + row) * 16 + i) * v t) % 998244353)))) 0 0 (fun _ => False) := by
  refine Met.ofW (cc := cC_columnAt) (maxL := 6) (ret := (.some .int)) (by decide) rfl ?_
  intro p e s m args below meth c s₁ B hml hv
  obtain ⟨rfl, hP, hK⟩ := hv
  have F : CallFix p m c cC_columnAt 6 s _ zT RC := ⟨B.exec, B.bytes, hml, findClass_of_methodNamed B.named, fun w h => atoms_spec (ws := (zW yC_columnAt cC_columnAt 6 (.some .int))) B.pre w (List.mem_cons_of_mem _ h)⟩
  have hr := B.returns
  have hlocks := B.notSynchronized
  have hl := lv_entry ([.ref h0, .int (nI row), .int (nI i), .ref hV]) (n := 6) (Nat.le_of_ble_eq_true rfl)
  rw [lg_entry_eq]
  generalize (lg_sl ([.ref h0, .int (nI row), .int (nI i), .ref hV]) ++ List.replicate (6 - (lg_sl ([.ref h0, .int (nI row), .int (nI i), .ref hV])).length) Slot.unset).toArray = ls at hl ⊢
  have hl : lv_has ls 6 [(0, .ref h0), (1, .int (nI row)), (2, .int (nI i)), (3, .ref hV)] := hl
  refine z_iconst (v := 0) F (by decide) dC_columnAt_0 ?_
  refine lv_istore F.1 F.2.1 (lv' := [(4, .int (nI 0)), (0, .ref h0), (1, .int (nI row)), (2, .int (nI i)), (3, .ref hV)]) dC_columnAt_1 hl (by decide) rfl (fun ls hl => ?_)
  refine z_iconst (v := 0) F (by decide) dC_columnAt_3 ?_
  refine lv_istore F.1 F.2.1 (lv' := [(5, .int (nI 0)), (4, .int (nI 0)), (0, .ref h0), (1, .int (nI row)), (2, .int (nI i)), (3, .ref hV)]) dC_columnAt_4 hl (by decide) rfl (fun ls hl => ?_)
  have hl : lv_has ls 6 [(5, .int (nI 0)), (4, .int (nI (sg 0 (fun t => f ((t * 3 + row) * 16 + i) * v t) % 998244353))), (0, .ref h0), (1, .int (nI row)), (2, .int (nI i)), (3, .ref hV)] := lv_sub hl [0, 1, 2, 3, 4, 5] rfl
  refine z_up (E := cn) (P := fun j => ∀  (ls : Array Slot), lv_has ls 6 [(5, .int (nI j)), (4, .int (nI (sg j (fun t => f ((t * 3 + row) * 16 + i) * v t) % 998244353))), (0, .ref h0), (1, .int (nI row)), (2, .int (nI i)), (3, .ref hV)] → W p l e _ s m _ below meth c s.heap [] _ _ _ (F0 m 6 ls [])) ?_ 0 (Nat.zero_le _)  ls  hl
  intro j hj ih  ls  hl
  refine lv_iload F.1 F.2.1 dC_columnAt_6 (lv_at hl 0 rfl) ?_
  refine lv_aload_n F.1 F.2.1 dC_columnAt_8 rfl (lv_at hl 2 rfl) ?_
  refine z_get F hK hP hinC q1 e1 rfl 1 (by decide) rfl wf_C_15 rfl dC_columnAt_9 ?_
  refine z_icmp_ge F (by omega) (by omega) (tgt := 48) dC_columnAt_12 rfl (fun h1 => ?_) (fun h1 => ?_)
  · refine lv_iload F.1 F.2.1 dC_columnAt_48 (lv_at hl 1 rfl) ?_
    refine z_top (sg cn (fun t => f ((t * 3 + row) * 16 + i) * v t) % 998244353) (by rw [show j = cn by omega]) ?_
    exact W.iret F.1 F.2.1 hr (fun t ht hW => ⟨rfl, ht⟩) (fun _ h => by cases h) dC_columnAt_50
  · refine lv_iload F.1 F.2.1 dC_columnAt_15 (lv_at hl 1 rfl) ?_
    refine lv_aload_n F.1 F.2.1 dC_columnAt_17 rfl (lv_at hl 2 rfl) ?_
    refine z_get F hK hP hinC q1 e1 rfl 0 (by decide) rfl wf_C_9 rfl dC_columnAt_18 ?_
    refine lv_iload F.1 F.2.1 dC_columnAt_21 (lv_at hl 0 rfl) ?_
    refine lv_iload_n F.1 F.2.1 dC_columnAt_23 rfl (lv_at hl 3 rfl) ?_
    refine z_call (z_runS [.int (nI j), .int (nI row)] [.ref hA, .int (nI (sg j (fun t => f ((t * 3 + row) * 16 + i) * v t) % 998244353))] F (c_start l j row) kk_C_start wl_C_19 rfl rfl ⟨Nat.le_of_ble_eq_true rfl, Nat.le_of_ble_eq_true rfl⟩ z_preN rfl hl.1 rfl (Nat.le_of_ble_eq_true rfl) dC_columnAt_24 ⟨Nat.zero_le _, Nat.zero_le _⟩) ?_
    refine lv_iload_n F.1 F.2.1 dC_columnAt_27 rfl (lv_at hl 4 rfl) ?_
    refine z_iadd F dC_columnAt_28 ?_
    refine z_iald F hK hP q2 0 e2 rfl (by omega) (by decide) dC_columnAt_29 ?_
    refine lv_aload_n F.1 F.2.1 dC_columnAt_30 rfl (lv_at hl 5 rfl) ?_
    refine lv_iload F.1 F.2.1 dC_columnAt_31 (lv_at hl 0 rfl) ?_
    refine z_iald F hK hP q3 0 e3 rfl (by omega) (by decide) dC_columnAt_33 ?_
    refine z_call (z_runS [.int (nI (f (((j * 3 + row) * 16) + i))), .int (nI (v j))] [.int (nI (sg j (fun t => f ((t * 3 + row) * 16 + i) * v t) % 998244353))] F (c_product l (f ((j * 3 + row) * 16 + i)) (v j) (Nat.lt_trans (hf _) (by decide)) (Nat.lt_trans (hv _) (by decide))) kk_F_product wl_C_32 rfl rfl ⟨Nat.le_of_ble_eq_true rfl, Nat.le_of_ble_eq_true rfl⟩ z_preN rfl hl.1 rfl (Nat.le_of_ble_eq_true rfl) dC_columnAt_34 ⟨Nat.zero_le _, Nat.zero_le _⟩) ?_
    refine z_call (z_runS [.int (nI (sg j (fun t => f ((t * 3 + row) * 16 + i) * v t) % 998244353)), .int (nI ((f ((j * 3 + row) * 16 + i)) * (v j) % 998244353))] [] F (c_sum l (sg j (fun t => f ((t * 3 + row) * 16 + i) * v t) % 998244353) ((f ((j * 3 + row) * 16 + i)) * (v j) % 998244353) (ltP _) (ltP _)) kk_F_sum wl_C_23 rfl rfl ⟨Nat.le_of_ble_eq_true rfl, Nat.le_of_ble_eq_true rfl⟩ z_preN rfl hl.1 rfl (Nat.le_of_ble_eq_true rfl) dC_columnAt_37 ⟨Nat.zero_le _, Nat.zero_le _⟩) ?_
    refine z_top (sg (j + 1) (fun t => f ((t * 3 + row) * 16 + i) * v t) % 998244353) (sm1 j (fun t => f ((t * 3 + row) * 16 + i) * v t)) ?_
    refine lv_istore F.1 F.2.1 (lv' := [(4, .int (nI (sg (j + 1) (fun t => f ((t * 3 + row) * 16 + i) * v t) % 998244353))), (5, .int (nI j)), (0, .ref h0), (1, .int (nI row)), (2, .int (nI i)), (3, .ref hV)]) dC_columnAt_40 hl (by decide) rfl (fun ls hl => ?_)
    refine lv_iinc F.1 F.2.1 (k := 1) (v := nI (j + 1)) (lv' := [(5, .int (nI (j + 1))), (4, .int (nI (sg (j + 1) (fun t => f ((t * 3 + row) * 16 + i) * v t) % 998244353))), (0, .ref h0), (1, .int (nI row)), (2, .int (nI i)), (3, .ref hV)]) dC_columnAt_42 hl rfl (nI_1 j) (by decide) rfl (fun ls hl => ?_)
    refine lv_goto F.1 F.2.1 (tgt := 6) dC_columnAt_45 rfl ?_
    have hl : lv_has ls 6 [(5, .int (nI ((j + 1)))), (4, .int (nI (sg (j + 1) (fun t => f ((t * 3 + row) * 16 + i) * v t) % 998244353))), (0, .ref h0), (1, .int (nI row)), (2, .int (nI i)), (3, .ref hV)] := lv_sub hl [0, 1, 2, 3, 4, 5] rfl
    exact ih (by omega)  ls  hl
