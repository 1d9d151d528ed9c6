set_option maxHeartbeats 4000000 in
set_option maxRecDepth 100000 in
theorem c_closeDraft (l : Launch) (dC : Nat → ClassId) (dI : Nat → Nat → Nat) (cI cL : ClassId) (wr : va_W) (zz : Nat) (h0 hA cn : Nat)  : Met l yC_closeDraft (zW yC_closeDraft cC_closeDraft 2 (.some .int)) ({ frames := 0, cells := 0, slots := 0, locals := 0 }) (va_Pc [.ref h0] (z_P (dC, dI) vwCl [(cI, .int), (cL, .long)] zz ((h0, .inr (0, [.ref hA, .int (nI cn)])) :: wr))) (z_Q (dC, dI) vwCl [(cI, .int), (cL, .long)] (some (.int (nI cn))) ((h0, .inr (0, [.ref hA, .int (nI (cn + 1))])) :: wr) (va_A ((h0, .inr (0, [.ref hA, .int (nI cn)])) :: wr) zz)) 0 0 (va_A ((h0, .inr (0, [.ref hA, .int (nI cn)])) :: wr) zz) := by
  refine Met.ofW (cc := cC_closeDraft) (maxL := 2) (ret := (.some .int)) (by decide) rfl ?_
  intro p e s m args below meth c s₁ B hml hv
  obtain ⟨rfl, hsz, hP, hK, hD0⟩ := hv
  have F : CallFix p m c cC_closeDraft 2 s _ zT RC := ⟨B.exec, B.bytes, hml, findClass_of_methodNamed B.named, fun w h => atoms_spec (ws := (zW yC_closeDraft cC_closeDraft 2 (.some .int))) B.pre w (List.mem_cons_of_mem _ h)⟩
  have hr := B.returns
  have hlocks := B.notSynchronized
  subst hsz
  have hD := hD0.self (sz := s.heap.size)
  generalize hAe : va_A ((h0, .inr (0, [.ref hA, .int (nI cn)])) :: wr) s.heap.size = A at hD ⊢
  have hAA : ∀ q : Nat, s.heap.size ≤ q → A q := fun q h => by rw [← hAe]; exact Or.inr h
  have hS : va_S A s.heap s.heap [] := va_S.rf
  have hl := lv_entry ([.ref h0]) (n := 2) (Nat.le_of_ble_eq_true rfl)
  rw [lg_entry_eq]
  generalize (lg_sl ([.ref h0]) ++ List.replicate (2 - (lg_sl ([.ref h0])).length) Slot.unset).toArray = ls at hl ⊢
  have hl : lv_has ls 2 [(0, .ref h0)] := hl
  refine lv_aload_n F.1 F.2.1 dC_closeDraft_0 rfl (lv_at hl 0 rfl) ?_
  refine z_get F hK hP hinC 0 rfl rfl 1 (by decide) rfl wf_C_15 rfl dC_closeDraft_1 ?_
  refine lv_istore_n F.1 F.2.1 (lv' := [(1, .int (nI cn)), (0, .ref h0)]) dC_closeDraft_4 rfl hl (by decide) rfl (fun ls hl => ?_)
  refine lv_aload_n F.1 F.2.1 dC_closeDraft_5 rfl (lv_at hl 1 rfl) ?_
  refine lv_iload_n F.1 F.2.1 dC_closeDraft_6 rfl (lv_at hl 0 rfl) ?_
  refine z_iconst (v := 1) F (by decide) dC_closeDraft_7 ?_
  refine z_iadd F dC_closeDraft_8 ?_
  refine z_put F hK hP hD hS hinC tyC tyC_ok nmC 0 rfl rfl 1 (by decide) rfl rfl wf_C_15 (rfl) (rfl) (Nat.le_of_ble_eq_true rfl) dC_closeDraft_9 (fun H locs hP hD hS => ?_)
  have hP : va_P (dC, dI) vwCl ((h0, .inr (0, [.ref hA, .int (nI (cn + 1))])) :: wr) H := hP
  have hD : va_D A ((h0, .inr (0, [.ref hA, .int (nI (cn + 1))])) :: wr) := hD
  refine lv_iload_n F.1 F.2.1 dC_closeDraft_12 rfl (lv_at hl 0 rfl) ?_
  exact W.iret F.1 F.2.1 hr (fun t ht hW => ⟨rfl, by rw [ht]; exact hP, va_K.moved hW.alike hK, hD, hS.F ht⟩) hS.2.2 dC_closeDraft_13
set_option maxHeartbeats 4000000 in
set_option maxRecDepth 100000 in
theorem c_growDraft (l : Launch) (dC : Nat → ClassId) (dI : Nat → Nat → Nat) (cI cL : ClassId) (wr : va_W) (zz : Nat) (h0 hA cn : Nat) (f : Nat → Nat) (row i x : Nat) (hf : ∀ j, f j < 998244353) (hx : x < 998244353) (hw : row < 3) (hi : i < 16) (hn : cn ≤ 16) : Met l yC_growDraft (zW yC_growDraft cC_growDraft 5 (.some .int)) ({ frames := 1, cells := 0, slots := 0, locals := 22 }) (va_Pc [.ref h0, .int (nI row), .int (nI i), .int (nI x)] (z_P (dC, dI) vwCl [(cI, .int), (cL, .long)] zz ((h0, .inr (0, [.ref hA, .int (nI cn)])) :: (hA, .inl (cI, 816, .inl (fun x9 => nI (f x9)))) :: wr))) (z_Q (dC, dI) vwCl [(cI, .int), (cL, .long)] (some (.int (nI ((f ((cn * 3 + row) * 16 + i) + x) % 998244353)))) ((h0, .inr (0, [.ref hA, .int (nI cn)])) :: (hA, .inl (cI, 816, .inl (fun x9 => nI ((va_up f ((cn * 3 + row) * 16 + i) ((f ((cn * 3 + row) * 16 + i) + x) % 998244353)) x9)))) :: wr) (va_A ((h0, .inr (0, [.ref hA, .int (nI cn)])) :: (hA, .inl (cI, 816, .inl (fun x9 => nI (f x9)))) :: wr) zz)) 0 0 (va_A ((h0, .inr (0, [.ref hA, .int (nI cn)])) :: (hA, .inl (cI, 816, .inl (fun x9 => nI (f x9)))) :: wr) zz) := by
  refine Met.ofW (cc := cC_growDraft) (maxL := 5) (ret := (.some .int)) (by decide) rfl ?_
  intro p e s m args below meth c s₁ B hml hv
  obtain ⟨rfl, hsz, hP, hK, hD0⟩ := hv
  have F : CallFix p m c cC_growDraft 5 s _ zT RC := ⟨B.exec, B.bytes, hml, findClass_of_methodNamed B.named, fun w h => atoms_spec (ws := (zW yC_growDraft cC_growDraft 5 (.some .int))) B.pre w (List.mem_cons_of_mem _ h)⟩
  have hr := B.returns
  have hlocks := B.notSynchronized
  subst hsz
  have hD := hD0.self (sz := s.heap.size)
  generalize hAe : va_A ((h0, .inr (0, [.ref hA, .int (nI cn)])) :: (hA, .inl (cI, 816, .inl (fun x9 => nI (f x9)))) :: wr) s.heap.size = A at hD ⊢
  have hAA : ∀ q : Nat, s.heap.size ≤ q → A q := fun q h => by rw [← hAe]; exact Or.inr h
  have hS : va_S A s.heap s.heap [] := va_S.rf
  have hl := lv_entry ([.ref h0, .int (nI row), .int (nI i), .int (nI x)]) (n := 5) (Nat.le_of_ble_eq_true rfl)
  rw [lg_entry_eq]
  generalize (lg_sl ([.ref h0, .int (nI row), .int (nI i), .int (nI x)]) ++ List.replicate (5 - (lg_sl ([.ref h0, .int (nI row), .int (nI i), .int (nI x)])).length) Slot.unset).toArray = ls at hl ⊢
  have hl : lv_has ls 5 [(0, .ref h0), (1, .int (nI row)), (2, .int (nI i)), (3, .int (nI x))] := hl
  refine lv_aload_n F.1 F.2.1 dC_growDraft_0 rfl (lv_at hl 0 rfl) ?_
  refine z_get F hK hP hinC 0 rfl rfl 1 (by decide) rfl wf_C_15 rfl dC_growDraft_1 ?_
  refine lv_iload_n F.1 F.2.1 dC_growDraft_4 rfl (lv_at hl 1 rfl) ?_
  refine z_call (z_runS [.int (nI cn), .int (nI row)] [] F (c_start l cn row) kk_C_start wl_C_19 rfl rfl ⟨Nat.le_of_ble_eq_true rfl, Nat.le_of_ble_eq_true rfl⟩ z_preN rfl hl.1 rfl (Nat.le_of_ble_eq_true rfl) dC_growDraft_5 ⟨Nat.zero_le _, Nat.zero_le _⟩) ?_
  refine lv_iload_n F.1 F.2.1 dC_growDraft_8 rfl (lv_at hl 2 rfl) ?_
  refine z_iadd F dC_growDraft_9 ?_
  refine lv_istore F.1 F.2.1 (lv' := [(4, .int (nI (((cn * 3 + row) * 16) + i))), (0, .ref h0), (1, .int (nI row)), (2, .int (nI i)), (3, .int (nI x))]) dC_growDraft_10 hl (by decide) rfl (fun ls hl => ?_)
  refine lv_aload_n F.1 F.2.1 dC_growDraft_12 rfl (lv_at hl 1 rfl) ?_
  refine z_get F hK hP hinC 0 rfl rfl 0 (by decide) rfl wf_C_9 rfl dC_growDraft_13 ?_
  refine lv_iload F.1 F.2.1 dC_growDraft_16 (lv_at hl 0 rfl) ?_
  refine lv_aload_n F.1 F.2.1 dC_growDraft_18 rfl (lv_at hl 1 rfl) ?_
  refine z_get F hK hP hinC 0 rfl rfl 0 (by decide) rfl wf_C_9 rfl dC_growDraft_19 ?_
  refine lv_iload F.1 F.2.1 dC_growDraft_22 (lv_at hl 0 rfl) ?_
  refine z_iald F hK hP 1 0 rfl rfl (by omega) (by decide) dC_growDraft_24 ?_
  refine lv_iload_n F.1 F.2.1 dC_growDraft_25 rfl (lv_at hl 4 rfl) ?_
  refine z_call (z_runS [.int (nI (f (((cn * 3 + row) * 16) + i))), .int (nI x)] [.int (nI (((cn * 3 + row) * 16) + i)), .ref hA] F (c_sum l (f ((cn * 3 + row) * 16 + i)) x (hf _) hx) kk_F_sum wl_C_23 rfl rfl ⟨Nat.le_of_ble_eq_true rfl, Nat.le_of_ble_eq_true rfl⟩ z_preN rfl hl.1 rfl (Nat.le_of_ble_eq_true rfl) dC_growDraft_26 ⟨Nat.zero_le _, Nat.zero_le _⟩) ?_
  refine z_iast F hK hP hD hS 1 0 rfl rfl (by omega) (by decide) dC_growDraft_29 (fun H locs hP hD hS => ?_)
  have hP : va_P (dC, dI) vwCl ((h0, .inr (0, [.ref hA, .int (nI cn)])) :: (hA, .inl (cI, 816, .inl (fun x9 => nI ((va_up f (((cn * 3 + row) * 16) + i) ((f ((cn * 3 + row) * 16 + i) + x) % 998244353)) x9)))) :: wr) H := hP
  have hD : va_D A ((h0, .inr (0, [.ref hA, .int (nI cn)])) :: (hA, .inl (cI, 816, .inl (fun x9 => nI ((va_up f (((cn * 3 + row) * 16) + i) ((f ((cn * 3 + row) * 16 + i) + x) % 998244353)) x9)))) :: wr) := hD
  refine lv_aload_n F.1 F.2.1 dC_growDraft_30 rfl (lv_at hl 1 rfl) ?_
  refine z_get F hK hP hinC 0 rfl rfl 0 (by decide) rfl wf_C_9 rfl dC_growDraft_31 ?_
  refine lv_iload F.1 F.2.1 dC_growDraft_34 (lv_at hl 0 rfl) ?_
  refine z_iald F hK hP 1 0 rfl rfl (by omega) (by decide) dC_growDraft_36 ?_
  refine z_top ((f ((cn * 3 + row) * 16 + i) + x) % 998244353) (up_at _ _ _) ?_
  exact W.iret F.1 F.2.1 hr (fun t ht hW => ⟨rfl, by rw [ht]; exact hP, va_K.moved hW.alike hK, hD, hS.F ht⟩) hS.2.2 dC_growDraft_37
set_option maxHeartbeats 4000000 in
set_option maxRecDepth 100000 in
theorem c_rowSums (l : Launch) (dC : Nat → ClassId) (dI : Nat → Nat → Nat) (cI cL : ClassId) (wr : va_W) (zz : Nat) (h0 hA hV hO cn : Nat) (f v o : Nat → Nat) (row : Nat) (hf : ∀ j, f j < 998244353) (hv : ∀ j, v j < 998244353) (hw : row < 3) (hn : cn ≤ 16) : Met l yC_rowSums (zW yC_rowSums cC_rowSums 5 none) ({ frames := 2, cells := 0, slots := 0, locals := 48 }) (va_Pc [.ref h0, .int (nI row), .ref hV, .ref hO] (z_P (dC, dI) vwCl [(cI, .int), (cL, .long)] zz ((h0, .inr (0, [.ref hA, .int (nI cn)])) :: (hA, .inl (cI, 816, .inl (fun x9 => nI (f x9)))) :: (hV, .inl (cI, 16, .inl (fun x9 => nI (v x9)))) :: (hO, .inl (cI, 16, .inl (fun x9 => nI (o x9)))) :: wr))) (z_Q (dC, dI) vwCl [(cI, .int), (cL, .long)] none ((h0, .inr (0, [.ref hA, .int (nI cn)])) :: (hA, .inl (cI, 816, .inl (fun x9 => nI (f x9)))) :: (hV, .inl (cI, 16, .inl (fun x9 => nI (v x9)))) :: (hO, .inl (cI, 16, .inl (fun x9 => nI (((fun j => if j < cn then sg 16 (fun t => f ((j * 3 + row) * 16 + t) * v t) % 998244353 else 0)) x9)))) :: wr) (va_A ((h0, .inr (0, [.ref hA, .int (nI cn)])) :: (hA, .inl (cI, 816, .inl (fun x9 => nI (f x9)))) :: (hV, .inl (cI, 16, .inl (fun x9 => nI (v x9)))) :: (hO, .inl (cI, 16, .inl (fun x9 => nI (o x9)))) :: wr) zz)) 0 0 (va_A ((h0, .inr (0, [.ref hA, .int (nI cn)])) :: (hA, .inl (cI, 816, .inl (fun x9 => nI (f x9)))) :: (hV, .inl (cI, 16, .inl (fun x9 => nI (v x9)))) :: (hO, .inl (cI, 16, .inl (fun x9 => nI (o x9)))) :: wr) zz) := by
  refine Met.ofW (cc := cC_rowSums) (maxL := 5) (ret := none) (by decide) rfl ?_
  intro p e s m args below meth c s₁ B hml hv
  obtain ⟨rfl, hsz, hP, hK, hD0⟩ := hv
  have F : CallFix p m c cC_rowSums 5 s _ zT RC := ⟨B.exec, B.bytes, hml, findClass_of_methodNamed B.named, fun w h => atoms_spec (ws := (zW yC_rowSums cC_rowSums 5 none)) B.pre w (List.mem_cons_of_mem _ h)⟩
  have hr := B.returns
  have hlocks := B.notSynchronized
  subst hsz
  have hD := hD0.self (sz := s.heap.size)
  generalize hAe : va_A ((h0, .inr (0, [.ref hA, .int (nI cn)])) :: (hA, .inl (cI, 816, .inl (fun x9 => nI (f x9)))) :: (hV, .inl (cI, 16, .inl (fun x9 => nI (v x9)))) :: (hO, .inl (cI, 16, .inl (fun x9 => nI (o x9)))) :: wr) s.heap.size = A at hD ⊢
  have hAA : ∀ q : Nat, s.heap.size ≤ q → A q := fun q h => by rw [← hAe]; exact Or.inr h
  have hS : va_S A s.heap s.heap [] := va_S.rf
  have hl := lv_entry ([.ref h0, .int (nI row), .ref hV, .ref hO]) (n := 5) (Nat.le_of_ble_eq_true rfl)
  rw [lg_entry_eq]
  generalize (lg_sl ([.ref h0, .int (nI row), .ref hV, .ref hO]) ++ List.replicate (5 - (lg_sl ([.ref h0, .int (nI row), .ref hV, .ref hO])).length) Slot.unset).toArray = ls at hl ⊢
  have hl : lv_has ls 5 [(0, .ref h0), (1, .int (nI row)), (2, .ref hV), (3, .ref hO)] := hl
  refine z_iconst (v := 0) F (by decide) dC_rowSums_0 ?_
  refine lv_istore F.1 F.2.1 (lv' := [(4, .int (nI 0)), (0, .ref h0), (1, .int (nI row)), (2, .ref hV), (3, .ref hO)]) dC_rowSums_1 hl (by decide) rfl (fun ls hl => ?_)
  have hl : lv_has ls 5 [(4, .int (nI 0)), (0, .ref h0), (1, .int (nI row)), (2, .ref hV), (3, .ref hO)] := lv_sub hl [0, 1, 2, 3, 4] rfl
  refine z_up (E := 16) (P := fun j => ∀ (o : Nat → Nat) (ls : Array Slot) (H : Heap) (locs : List Loc), (∀ t, t < j → o t = (fun j => if j < cn then sg 16 (fun t => f ((j * 3 + row) * 16 + t) * v t) % 998244353 else 0) t) → va_P (dC, dI) vwCl ((h0, .inr (0, [.ref hA, .int (nI cn)])) :: (hA, .inl (cI, 816, .inl (fun x9 => nI (f x9)))) :: (hV, .inl (cI, 16, .inl (fun x9 => nI (v x9)))) :: (hO, .inl (cI, 16, .inl (fun x9 => nI (o x9)))) :: wr) H → va_D A ((h0, .inr (0, [.ref hA, .int (nI cn)])) :: (hA, .inl (cI, 816, .inl (fun x9 => nI (f x9)))) :: (hV, .inl (cI, 16, .inl (fun x9 => nI (v x9)))) :: (hO, .inl (cI, 16, .inl (fun x9 => nI (o x9)))) :: wr) → va_S A s.heap H locs → lv_has ls 5 [(4, .int (nI j)), (0, .ref h0), (1, .int (nI row)), (2, .ref hV), (3, .ref hO)] → W p l e _ s m _ below meth c H locs _ _ _ (F0 m 3 ls [])) ?_ 0 (Nat.zero_le _) o ls s.heap [] (fun t h => absurd h (Nat.not_lt_zero t)) hP hD hS hl
  intro j hj ih o ls H locs ho hP hD hS hl
  refine lv_iload F.1 F.2.1 dC_rowSums_3 (lv_at hl 0 rfl) ?_
  refine z_bipush (v := 16) F (by decide) dC_rowSums_5 ?_
  refine z_icmp_ge F (by omega) (by omega) (tgt := 41) dC_rowSums_7 rfl (fun h1 => ?_) (fun h1 => ?_)
  · have hP := z_fI (k := 3) (fun j => if j < cn then sg 16 (fun t => f ((j * 3 + row) * 16 + t) * v t) % 998244353 else 0) hP rfl (fun t ht => ho t (by omega))
    have hD := hD.set (p := 3) (e := .inl (cI, 16, .inl (fun x9 => nI ((fun j => if j < cn then sg 16 (fun t => f ((j * 3 + row) * 16 + t) * v t) % 998244353 else 0) x9)))) rfl
    exact W.vret F.1 F.2.1 hr (fun t ht hW => ⟨rfl, by rw [ht]; exact hP, va_K.moved hW.alike hK, hD, hS.F ht⟩) hS.2.2 dC_rowSums_41
  · refine lv_aload_n F.1 F.2.1 dC_rowSums_10 rfl (lv_at hl 4 rfl) ?_
    refine lv_iload F.1 F.2.1 dC_rowSums_11 (lv_at hl 0 rfl) ?_
    refine lv_iload F.1 F.2.1 dC_rowSums_13 (lv_at hl 0 rfl) ?_
    refine lv_aload_n F.1 F.2.1 dC_rowSums_15 rfl (lv_at hl 1 rfl) ?_
    refine z_get F hK hP hinC 0 rfl rfl 1 (by decide) rfl wf_C_15 rfl dC_rowSums_16 ?_
    refine z_icmp_ge F (by omega) (by omega) (tgt := 33) dC_rowSums_19 rfl (fun h2 => ?_) (fun h2 => ?_)
    · refine z_iconst (v := 0) F (by decide) dC_rowSums_33 ?_
      refine z_iast F hK hP hD hS 3 0 rfl rfl (by omega) (by decide) dC_rowSums_34 (fun H locs hP hD hS => ?_)
      have hP : va_P (dC, dI) vwCl ((h0, .inr (0, [.ref hA, .int (nI cn)])) :: (hA, .inl (cI, 816, .inl (fun x9 => nI (f x9)))) :: (hV, .inl (cI, 16, .inl (fun x9 => nI (v x9)))) :: (hO, .inl (cI, 16, .inl (fun x9 => nI ((va_up o j 0) x9)))) :: wr) H := hP
      have hD : va_D A ((h0, .inr (0, [.ref hA, .int (nI cn)])) :: (hA, .inl (cI, 816, .inl (fun x9 => nI (f x9)))) :: (hV, .inl (cI, 16, .inl (fun x9 => nI (v x9)))) :: (hO, .inl (cI, 16, .inl (fun x9 => nI ((va_up o j 0) x9)))) :: wr) := hD
      refine lv_iinc F.1 F.2.1 (k := 0) (v := nI (j + 1)) (lv' := [(4, .int (nI (j + 1))), (0, .ref h0), (1, .int (nI row)), (2, .ref hV), (3, .ref hO)]) dC_rowSums_35 hl rfl (nI_1 j) (by decide) rfl (fun ls hl => ?_)
      refine lv_goto F.1 F.2.1 (tgt := 3) dC_rowSums_38 rfl ?_
      have hl : lv_has ls 5 [(4, .int (nI ((j + 1)))), (0, .ref h0), (1, .int (nI row)), (2, .ref hV), (3, .ref hO)] := lv_sub hl [0, 1, 2, 3, 4] rfl
      exact ih (by omega) (va_up o j (0)) ls H locs (fun t ht => by by_cases e9 : t = j; (rw [e9, up_at]; exact (if_neg (by omega)).symm); (rw [up_ne _ _ e9]; exact ho t (by omega))) hP hD hS hl
    · refine lv_aload_n F.1 F.2.1 dC_rowSums_22 rfl (lv_at hl 1 rfl) ?_
      refine lv_iload F.1 F.2.1 dC_rowSums_23 (lv_at hl 0 rfl) ?_
      refine lv_iload_n F.1 F.2.1 dC_rowSums_25 rfl (lv_at hl 2 rfl) ?_
      refine lv_aload_n F.1 F.2.1 dC_rowSums_26 rfl (lv_at hl 3 rfl) ?_
      refine z_call (z_runV [.int (nI j), .int (nI row), .ref hV] [.int (nI j), .ref hO] F (c_rowSum l dC dI cI cL _ 0 1 2 h0 hA hV cn f v j row rfl rfl rfl hf hv (by omega) hw) kk_C_rowSum wl_C_28 rfl rfl ⟨Nat.le_of_ble_eq_true rfl, Nat.le_of_ble_eq_true rfl⟩ (z_preVR (q := (RC, TC, 2)) hP hK rfl (q0 := 0) rfl) rfl hl.1 rfl (Nat.le_of_ble_eq_true rfl) dC_rowSums_27 ⟨Nat.zero_le _, Nat.zero_le _⟩) ?_
      refine lv_goto F.1 F.2.1 (tgt := 34) dC_rowSums_30 rfl ?_
      refine z_iast F hK hP hD hS 3 0 rfl rfl (by omega) (by decide) dC_rowSums_34 (fun H locs hP hD hS => ?_)
      have hP : va_P (dC, dI) vwCl ((h0, .inr (0, [.ref hA, .int (nI cn)])) :: (hA, .inl (cI, 816, .inl (fun x9 => nI (f x9)))) :: (hV, .inl (cI, 16, .inl (fun x9 => nI (v x9)))) :: (hO, .inl (cI, 16, .inl (fun x9 => nI ((va_up o j (sg 16 (fun t => f ((j * 3 + row) * 16 + t) * v t) % 998244353)) x9)))) :: wr) H := hP
      have hD : va_D A ((h0, .inr (0, [.ref hA, .int (nI cn)])) :: (hA, .inl (cI, 816, .inl (fun x9 => nI (f x9)))) :: (hV, .inl (cI, 16, .inl (fun x9 => nI (v x9)))) :: (hO, .inl (cI, 16, .inl (fun x9 => nI ((va_up o j (sg 16 (fun t => f ((j * 3 + row) * 16 + t) * v t) % 998244353)) x9)))) :: wr) := hD
      refine lv_iinc F.1 F.2.1 (k := 0) (v := nI (j + 1)) (lv' := [(4, .int (nI (j + 1))), (0, .ref h0), (1, .int (nI row)), (2, .ref hV), (3, .ref hO)]) dC_rowSums_35 hl rfl (nI_1 j) (by decide) rfl (fun ls hl => ?_)
      refine lv_goto F.1 F.2.1 (tgt := 3) dC_rowSums_38 rfl ?_
      have hl : lv_has ls 5 [(4, .int (nI ((j + 1)))), (0, .ref h0), (1, .int (nI row)), (2, .ref hV), (3, .ref hO)] := lv_sub hl [0, 1, 2, 3, 4] rfl
      exact ih (by omega) (va_up o j (sg 16 (fun t => f ((j * 3 + row) * 16 + t) * v t) % 998244353)) ls H locs (fun t ht => by by_cases e9 : t = j; (rw [e9, up_at]; exact (if_pos (by omega)).symm); (rw [up_ne _ _ e9]; exact ho t (by omega))) hP hD hS hl
set_option maxHeartbeats 4000000 in
set_option maxRecDepth 100000 in
theorem c_column (l : Launch) (dC : Nat → ClassId) (dI : Nat → Nat → Nat) (cI cL : ClassId) (wr : va_W) (zz : Nat) (h0 hA hO cn : Nat) (f o : Nat → Nat) (row i : Nat) (hw : row < 3) (hi : i < 16) (hn : cn ≤ 16) : Met l yC_column (zW yC_column cC_column 5 none) ({ frames := 1, cells := 0, slots := 0, locals := 21 }) (va_Pc [.ref h0, .int (nI row), .int (nI i), .ref hO] (z_P (dC, dI) vwCl [(cI, .int), (cL, .long)] zz ((h0, .inr (0, [.ref hA, .int (nI cn)])) :: (hA, .inl (cI, 816, .inl (fun x9 => nI (f x9)))) :: (hO, .inl (cI, 16, .inl (fun x9 => nI (o x9)))) :: wr))) (z_Q (dC, dI) vwCl [(cI, .int), (cL, .long)] none ((h0, .inr (0, [.ref hA, .int (nI cn)])) :: (hA, .inl (cI, 816, .inl (fun x9 => nI (f x9)))) :: (hO, .inl (cI, 16, .inl (fun x9 => nI (((fun j => if j < cn then f ((j * 3 + row) * 16 + i) else 0)) x9)))) :: wr) (va_A ((h0, .inr (0, [.ref hA, .int (nI cn)])) :: (hA, .inl (cI, 816, .inl (fun x9 => nI (f x9)))) :: (hO, .inl (cI, 16, .inl (fun x9 => nI (o x9)))) :: wr) zz)) 0 0 (va_A ((h0, .inr (0, [.ref hA, .int (nI cn)])) :: (hA, .inl (cI, 816, .inl (fun x9 => nI (f x9)))) :: (hO, .inl (cI, 16, .inl (fun x9 => nI (o x9)))) :: wr) zz) := by
  refine Met.ofW (cc := cC_column) (maxL := 5) (ret := none) (by decide) rfl ?_
  intro p e s m args below meth c s₁ B hml hv
  obtain ⟨rfl, hsz, hP, hK, hD0⟩ := hv
  have F : CallFix p m c cC_column 5 s _ zT RC := ⟨B.exec, B.bytes, hml, findClass_of_methodNamed B.named, fun w h => atoms_spec (ws := (zW yC_column cC_column 5 none)) B.pre w (List.mem_cons_of_mem _ h)⟩
  have hr := B.returns
  have hlocks := B.notSynchronized
  subst hsz
  have hD := hD0.self (sz := s.heap.size)
  generalize hAe : va_A ((h0, .inr (0, [.ref hA, .int (nI cn)])) :: (hA, .inl (cI, 816, .inl (fun x9 => nI (f x9)))) :: (hO, .inl (cI, 16, .inl (fun x9 => nI (o x9)))) :: wr) s.heap.size = A at hD ⊢
  have hAA : ∀ q : Nat, s.heap.size ≤ q → A q := fun q h => by rw [← hAe]; exact Or.inr h
  have hS : va_S A s.heap s.heap [] := va_S.rf
  have hl := lv_entry ([.ref h0, .int (nI row), .int (nI i), .ref hO]) (n := 5) (Nat.le_of_ble_eq_true rfl)
  rw [lg_entry_eq]
  generalize (lg_sl ([.ref h0, .int (nI row), .int (nI i), .ref hO]) ++ List.replicate (5 - (lg_sl ([.ref h0, .int (nI row), .int (nI i), .ref hO])).length) Slot.unset).toArray = ls at hl ⊢
  have hl : lv_has ls 5 [(0, .ref h0), (1, .int (nI row)), (2, .int (nI i)), (3, .ref hO)] := hl
  refine z_iconst (v := 0) F (by decide) dC_column_0 ?_
  refine lv_istore F.1 F.2.1 (lv' := [(4, .int (nI 0)), (0, .ref h0), (1, .int (nI row)), (2, .int (nI i)), (3, .ref hO)]) dC_column_1 hl (by decide) rfl (fun ls hl => ?_)
  have hl : lv_has ls 5 [(4, .int (nI 0)), (0, .ref h0), (1, .int (nI row)), (2, .int (nI i)), (3, .ref hO)] := lv_sub hl [0, 1, 2, 3, 4] rfl
  refine z_up (E := 16) (P := fun j => ∀ (o : Nat → Nat) (ls : Array Slot) (H : Heap) (locs : List Loc), (∀ t, t < j → o t = (fun j => if j < cn then f ((j * 3 + row) * 16 + i) else 0) t) → va_P (dC, dI) vwCl ((h0, .inr (0, [.ref hA, .int (nI cn)])) :: (hA, .inl (cI, 816, .inl (fun x9 => nI (f x9)))) :: (hO, .inl (cI, 16, .inl (fun x9 => nI (o x9)))) :: wr) H → va_D A ((h0, .inr (0, [.ref hA, .int (nI cn)])) :: (hA, .inl (cI, 816, .inl (fun x9 => nI (f x9)))) :: (hO, .inl (cI, 16, .inl (fun x9 => nI (o x9)))) :: wr) → va_S A s.heap H locs → lv_has ls 5 [(4, .int (nI j)), (0, .ref h0), (1, .int (nI row)), (2, .int (nI i)), (3, .ref hO)] → W p l e _ s m _ below meth c H locs _ _ _ (F0 m 3 ls [])) ?_ 0 (Nat.zero_le _) o ls s.heap [] (fun t h => absurd h (Nat.not_lt_zero t)) hP hD hS hl
  intro j hj ih o ls H locs ho hP hD hS hl
  refine lv_iload F.1 F.2.1 dC_column_3 (lv_at hl 0 rfl) ?_
  refine z_bipush (v := 16) F (by decide) dC_column_5 ?_
  refine z_icmp_ge F (by omega) (by omega) (tgt := 46) dC_column_7 rfl (fun h1 => ?_) (fun h1 => ?_)
  · have hP := z_fI (k := 2) (fun j => if j < cn then f ((j * 3 + row) * 16 + i) else 0) hP rfl (fun t ht => ho t (by omega))
    have hD := hD.set (p := 2) (e := .inl (cI, 16, .inl (fun x9 => nI ((fun j => if j < cn then f ((j * 3 + row) * 16 + i) else 0) x9)))) rfl
    exact W.vret F.1 F.2.1 hr (fun t ht hW => ⟨rfl, by rw [ht]; exact hP, va_K.moved hW.alike hK, hD, hS.F ht⟩) hS.2.2 dC_column_46
  · refine lv_aload_n F.1 F.2.1 dC_column_10 rfl (lv_at hl 4 rfl) ?_
    refine lv_iload F.1 F.2.1 dC_column_11 (lv_at hl 0 rfl) ?_
    refine lv_iload F.1 F.2.1 dC_column_13 (lv_at hl 0 rfl) ?_
    refine lv_aload_n F.1 F.2.1 dC_column_15 rfl (lv_at hl 1 rfl) ?_
    refine z_get F hK hP hinC 0 rfl rfl 1 (by decide) rfl wf_C_15 rfl dC_column_16 ?_
    refine z_icmp_ge F (by omega) (by omega) (tgt := 38) dC_column_19 rfl (fun h2 => ?_) (fun h2 => ?_)
    · refine z_iconst (v := 0) F (by decide) dC_column_38 ?_
      refine z_iast F hK hP hD hS 2 0 rfl rfl (by omega) (by decide) dC_column_39 (fun H locs hP hD hS => ?_)
      have hP : va_P (dC, dI) vwCl ((h0, .inr (0, [.ref hA, .int (nI cn)])) :: (hA, .inl (cI, 816, .inl (fun x9 => nI (f x9)))) :: (hO, .inl (cI, 16, .inl (fun x9 => nI ((va_up o j 0) x9)))) :: wr) H := hP
      have hD : va_D A ((h0, .inr (0, [.ref hA, .int (nI cn)])) :: (hA, .inl (cI, 816, .inl (fun x9 => nI (f x9)))) :: (hO, .inl (cI, 16, .inl (fun x9 => nI ((va_up o j 0) x9)))) :: wr) := hD
      refine lv_iinc F.1 F.2.1 (k := 0) (v := nI (j + 1)) (lv' := [(4, .int (nI (j + 1))), (0, .ref h0), (1, .int (nI row)), (2, .int (nI i)), (3, .ref hO)]) dC_column_40 hl rfl (nI_1 j) (by decide) rfl (fun ls hl => ?_)
      refine lv_goto F.1 F.2.1 (tgt := 3) dC_column_43 rfl ?_
      have hl : lv_has ls 5 [(4, .int (nI ((j + 1)))), (0, .ref h0), (1, .int (nI row)), (2, .int (nI i)), (3, .ref hO)] := lv_sub hl [0, 1, 2, 3, 4] rfl
      exact ih (by omega) (va_up o j (0)) ls H locs (fun t ht => by by_cases e9 : t = j; (rw [e9, up_at]; exact (if_neg (by omega)).symm); (rw [up_ne _ _ e9]; exact ho t (by omega))) hP hD hS hl
    · refine lv_aload_n F.1 F.2.1 dC_column_22 rfl (lv_at hl 1 rfl) ?_
      refine z_get F hK hP hinC 0 rfl rfl 0 (by decide) rfl wf_C_9 rfl dC_column_23 ?_
      refine lv_iload F.1 F.2.1 dC_column_26 (lv_at hl 0 rfl) ?_
      refine lv_iload_n F.1 F.2.1 dC_column_28 rfl (lv_at hl 2 rfl) ?_
      refine z_call (z_runS [.int (nI j), .int (nI row)] [.ref hA, .int (nI j), .ref hO] F (c_start l j row) kk_C_start wl_C_19 rfl rfl ⟨Nat.le_of_ble_eq_true rfl, Nat.le_of_ble_eq_true rfl⟩ z_preN rfl hl.1 rfl (Nat.le_of_ble_eq_true rfl) dC_column_29 ⟨Nat.zero_le _, Nat.zero_le _⟩) ?_
      refine lv_iload_n F.1 F.2.1 dC_column_32 rfl (lv_at hl 3 rfl) ?_
      refine z_iadd F dC_column_33 ?_
      refine z_iald F hK hP 1 0 rfl rfl (by omega) (by decide) dC_column_34 ?_
      refine lv_goto F.1 F.2.1 (tgt := 39) dC_column_35 rfl ?_
      refine z_iast F hK hP hD hS 2 0 rfl rfl (by omega) (by decide) dC_column_39 (fun H locs hP hD hS => ?_)
      have hP : va_P (dC, dI) vwCl ((h0, .inr (0, [.ref hA, .int (nI cn)])) :: (hA, .inl (cI, 816, .inl (fun x9 => nI (f x9)))) :: (hO, .inl (cI, 16, .inl (fun x9 => nI ((va_up o j (f (((j * 3 + row) * 16) + i))) x9)))) :: wr) H := hP
      have hD : va_D A ((h0, .inr (0, [.ref hA, .int (nI cn)])) :: (hA, .inl (cI, 816, .inl (fun x9 => nI (f x9)))) :: (hO, .inl (cI, 16, .inl (fun x9 => nI ((va_up o j (f (((j * 3 + row) * 16) + i))) x9)))) :: wr) := hD
      refine lv_iinc F.1 F.2.1 (k := 0) (v := nI (j + 1)) (lv' := [(4, .int (nI (j + 1))), (0, .ref h0), (1, .int (nI row)), (2, .int (nI i)), (3, .ref hO)]) dC_column_40 hl rfl (nI_1 j) (by decide) rfl (fun ls hl => ?_)
      refine lv_goto F.1 F.2.1 (tgt := 3) dC_column_43 rfl ?_
      have hl : lv_has ls 5 [(4, .int (nI ((j + 1)))), (0, .ref h0), (1, .int (nI row)), (2, .int (nI i)), (3, .ref hO)] := lv_sub hl [0, 1, 2, 3, 4] rfl
      exact ih (by omega) (va_up o j (f ((j * 3 + row) * 16 + i))) ls H locs (fun t ht => by by_cases e9 : t = j; (rw [e9, up_at]; exact (if_pos (by omega)).symm); (rw [up_ne _ _ e9]; exact ho t (by omega))) hP hD hS hl
