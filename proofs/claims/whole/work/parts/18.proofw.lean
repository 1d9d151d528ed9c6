set_option maxHeartbeats 4000000 in
set_option maxRecDepth 100000 in
theorem cq_setElement (l : Launch) (dC : Nat → ClassId) (dI : Nat → Nat → Nat) (cI cL : ClassId) (wr : va_W) (zz : Nat) (h0 hE hQ : Nat) (md : Bool) (w : Nat → Nat) (k v : Nat) (hk : k < 3) : Met l yQ_setElement (zW yQ_setElement cQ_setElement 3 none) ({ frames := 0, cells := 0, slots := 0, locals := 0 }) (va_Pc [.ref h0, .int (nI k), .int (nI v)] (z_P (dC, dI) vwCl [(cI, .int), (cL, .long)] zz ((h0, .inr (3, [.ref hE, .ref hQ, .int (z_b md)])) :: (hE, .inl (cI, 3, .inl (fun x9 => nI (w x9)))) :: wr))) (z_Q (dC, dI) vwCl [(cI, .int), (cL, .long)] none ((h0, .inr (3, [.ref hE, .ref hQ, .int (z_b md)])) :: (hE, .inl (cI, 3, .inl (fun x9 => nI ((va_up w k v) x9)))) :: wr) (va_A ((h0, .inr (3, [.ref hE, .ref hQ, .int (z_b md)])) :: (hE, .inl (cI, 3, .inl (fun x9 => nI (w x9)))) :: wr) zz)) 0 0 (va_A ((h0, .inr (3, [.ref hE, .ref hQ, .int (z_b md)])) :: (hE, .inl (cI, 3, .inl (fun x9 => nI (w x9)))) :: wr) zz) := by
  refine Met.ofW (cc := cQ_setElement) (maxL := 3) (ret := none) (by decide) rfl ?_
  intro p e s m args below meth c s₁ B hml hv
  obtain ⟨rfl, hsz, hP, hK, hD0⟩ := hv
  have F : CallFix p m c cQ_setElement 3 s _ zT RQ := ⟨B.exec, B.bytes, hml, findClass_of_methodNamed B.named, fun w h => atoms_spec (ws := (zW yQ_setElement cQ_setElement 3 none)) B.pre w (List.mem_cons_of_mem _ h)⟩
  have hr := B.returns
  have hlocks := B.notSynchronized
  subst hsz
  have hD := hD0.self (sz := s.heap.size)
  generalize hAe : va_A ((h0, .inr (3, [.ref hE, .ref hQ, .int (z_b md)])) :: (hE, .inl (cI, 3, .inl (fun x9 => nI (w x9)))) :: wr) s.heap.size = A at hD ⊢
  have hAA : ∀ q : Nat, s.heap.size ≤ q → A q := fun q h => by rw [← hAe]; exact Or.inr h
  have hS : va_S A s.heap s.heap [] := va_S.rf
  have hl := lv_entry ([.ref h0, .int (nI k), .int (nI v)]) (n := 3) (Nat.le_of_ble_eq_true rfl)
  rw [lg_entry_eq]
  generalize (lg_sl ([.ref h0, .int (nI k), .int (nI v)]) ++ List.replicate (3 - (lg_sl ([.ref h0, .int (nI k), .int (nI v)])).length) Slot.unset).toArray = ls at hl ⊢
  have hl : lv_has ls 3 [(0, .ref h0), (1, .int (nI k)), (2, .int (nI v))] := hl
  refine lv_aload_n F.1 F.2.1 dQ_setElement_0 rfl (lv_at hl 0 rfl) ?_
  refine z_get F hK hP hinQ 0 rfl rfl 0 (by decide) rfl wf_Q_9 rfl dQ_setElement_1 ?_
  refine lv_iload_n F.1 F.2.1 dQ_setElement_4 rfl (lv_at hl 1 rfl) ?_
  refine lv_iload_n F.1 F.2.1 dQ_setElement_5 rfl (lv_at hl 2 rfl) ?_
  refine z_iast F hK hP hD hS 1 0 rfl rfl (by omega) (by decide) dQ_setElement_6 (fun H locs hP hD hS => ?_)
  have hP : va_P (dC, dI) vwCl ((h0, .inr (3, [.ref hE, .ref hQ, .int (z_b md)])) :: (hE, .inl (cI, 3, .inl (fun x9 => nI ((va_up w k v) x9)))) :: wr) H := hP
  have hD : va_D A ((h0, .inr (3, [.ref hE, .ref hQ, .int (z_b md)])) :: (hE, .inl (cI, 3, .inl (fun x9 => nI ((va_up w k v) x9)))) :: wr) := hD
  exact W.vret F.1 F.2.1 hr (fun t ht hW => ⟨rfl, by rw [ht]; exact hP, va_K.moved hW.alike hK, hD, hS.F ht⟩) hS.2.2 dQ_setElement_7
set_option maxHeartbeats 4000000 in
set_option maxRecDepth 100000 in
theorem cq_keep (l : Launch) (dC : Nat → ClassId) (dI : Nat → Nat → Nat) (cI cL : ClassId) (wr : va_W) (zz : Nat) (h0 hE hQ : Nat) (md : Bool) (w : Nat → Nat) (a b c2 : Nat)  : Met l yQ_keep (zW yQ_keep cQ_keep 4 none) ({ frames := 0, cells := 0, slots := 0, locals := 0 }) (va_Pc [.ref h0, .int (nI a), .int (nI b), .int (nI c2)] (z_P (dC, dI) vwCl [(cI, .int), (cL, .long)] zz ((h0, .inr (3, [.ref hE, .ref hQ, .int (z_b md)])) :: (hE, .inl (cI, 3, .inl (fun x9 => nI (w x9)))) :: wr))) (z_Q (dC, dI) vwCl [(cI, .int), (cL, .long)] none ((h0, .inr (3, [.ref hE, .ref hQ, .int (z_b true)])) :: (hE, .inl (cI, 3, .inl (fun x9 => nI ((va_up (va_up (va_up w 0 a) 1 b) 2 c2) x9)))) :: wr) (va_A ((h0, .inr (3, [.ref hE, .ref hQ, .int (z_b md)])) :: (hE, .inl (cI, 3, .inl (fun x9 => nI (w x9)))) :: wr) zz)) 0 0 (va_A ((h0, .inr (3, [.ref hE, .ref hQ, .int (z_b md)])) :: (hE, .inl (cI, 3, .inl (fun x9 => nI (w x9)))) :: wr) zz) := by
  refine Met.ofW (cc := cQ_keep) (maxL := 4) (ret := none) (by decide) rfl ?_
  intro p e s m args below meth c s₁ B hml hv
  obtain ⟨rfl, hsz, hP, hK, hD0⟩ := hv
  have F : CallFix p m c cQ_keep 4 s _ zT RQ := ⟨B.exec, B.bytes, hml, findClass_of_methodNamed B.named, fun w h => atoms_spec (ws := (zW yQ_keep cQ_keep 4 none)) B.pre w (List.mem_cons_of_mem _ h)⟩
  have hr := B.returns
  have hlocks := B.notSynchronized
  subst hsz
  have hD := hD0.self (sz := s.heap.size)
  generalize hAe : va_A ((h0, .inr (3, [.ref hE, .ref hQ, .int (z_b md)])) :: (hE, .inl (cI, 3, .inl (fun x9 => nI (w x9)))) :: wr) s.heap.size = A at hD ⊢
  have hAA : ∀ q : Nat, s.heap.size ≤ q → A q := fun q h => by rw [← hAe]; exact Or.inr h
  have hS : va_S A s.heap s.heap [] := va_S.rf
  have hl := lv_entry ([.ref h0, .int (nI a), .int (nI b), .int (nI c2)]) (n := 4) (Nat.le_of_ble_eq_true rfl)
  rw [lg_entry_eq]
  generalize (lg_sl ([.ref h0, .int (nI a), .int (nI b), .int (nI c2)]) ++ List.replicate (4 - (lg_sl ([.ref h0, .int (nI a), .int (nI b), .int (nI c2)])).length) Slot.unset).toArray = ls at hl ⊢
  have hl : lv_has ls 4 [(0, .ref h0), (1, .int (nI a)), (2, .int (nI b)), (3, .int (nI c2))] := hl
  refine lv_aload_n F.1 F.2.1 dQ_keep_0 rfl (lv_at hl 0 rfl) ?_
  refine z_get F hK hP hinQ 0 rfl rfl 0 (by decide) rfl wf_Q_9 rfl dQ_keep_1 ?_
  refine z_iconst (v := 0) F (by decide) dQ_keep_4 ?_
  refine lv_iload_n F.1 F.2.1 dQ_keep_5 rfl (lv_at hl 1 rfl) ?_
  refine z_iast F hK hP hD hS 1 0 rfl rfl (by omega) (by decide) dQ_keep_6 (fun H locs hP hD hS => ?_)
  have hP : va_P (dC, dI) vwCl ((h0, .inr (3, [.ref hE, .ref hQ, .int (z_b md)])) :: (hE, .inl (cI, 3, .inl (fun x9 => nI ((va_up w 0 a) x9)))) :: wr) H := hP
  have hD : va_D A ((h0, .inr (3, [.ref hE, .ref hQ, .int (z_b md)])) :: (hE, .inl (cI, 3, .inl (fun x9 => nI ((va_up w 0 a) x9)))) :: wr) := hD
  refine lv_aload_n F.1 F.2.1 dQ_keep_7 rfl (lv_at hl 0 rfl) ?_
  refine z_get F hK hP hinQ 0 rfl rfl 0 (by decide) rfl wf_Q_9 rfl dQ_keep_8 ?_
  refine z_iconst (v := 1) F (by decide) dQ_keep_11 ?_
  refine lv_iload_n F.1 F.2.1 dQ_keep_12 rfl (lv_at hl 2 rfl) ?_
  refine z_iast F hK hP hD hS 1 0 rfl rfl (by omega) (by decide) dQ_keep_13 (fun H locs hP hD hS => ?_)
  have hP : va_P (dC, dI) vwCl ((h0, .inr (3, [.ref hE, .ref hQ, .int (z_b md)])) :: (hE, .inl (cI, 3, .inl (fun x9 => nI ((va_up (va_up w 0 a) 1 b) x9)))) :: wr) H := hP
  have hD : va_D A ((h0, .inr (3, [.ref hE, .ref hQ, .int (z_b md)])) :: (hE, .inl (cI, 3, .inl (fun x9 => nI ((va_up (va_up w 0 a) 1 b) x9)))) :: wr) := hD
  refine lv_aload_n F.1 F.2.1 dQ_keep_14 rfl (lv_at hl 0 rfl) ?_
  refine z_get F hK hP hinQ 0 rfl rfl 0 (by decide) rfl wf_Q_9 rfl dQ_keep_15 ?_
  refine z_iconst (v := 2) F (by decide) dQ_keep_18 ?_
  refine lv_iload_n F.1 F.2.1 dQ_keep_19 rfl (lv_at hl 3 rfl) ?_
  refine z_iast F hK hP hD hS 1 0 rfl rfl (by omega) (by decide) dQ_keep_20 (fun H locs hP hD hS => ?_)
  have hP : va_P (dC, dI) vwCl ((h0, .inr (3, [.ref hE, .ref hQ, .int (z_b md)])) :: (hE, .inl (cI, 3, .inl (fun x9 => nI ((va_up (va_up (va_up w 0 a) 1 b) 2 c2) x9)))) :: wr) H := hP
  have hD : va_D A ((h0, .inr (3, [.ref hE, .ref hQ, .int (z_b md)])) :: (hE, .inl (cI, 3, .inl (fun x9 => nI ((va_up (va_up (va_up w 0 a) 1 b) 2 c2) x9)))) :: wr) := hD
  refine lv_aload_n F.1 F.2.1 dQ_keep_21 rfl (lv_at hl 0 rfl) ?_
  refine z_iconst (v := 1) F (by decide) dQ_keep_22 ?_
  refine z_topV (z_b true) (by decide) ?_
  refine z_put F hK hP hD hS hinQ tyQ tyQ_ok nmQ 0 rfl rfl 2 (by decide) rfl rfl wf_Q_18 (rfl) (rfl) (Nat.le_of_ble_eq_true rfl) dQ_keep_23 (fun H locs hP hD hS => ?_)
  have hP : va_P (dC, dI) vwCl ((h0, .inr (3, [.ref hE, .ref hQ, .int (z_b true)])) :: (hE, .inl (cI, 3, .inl (fun x9 => nI ((va_up (va_up (va_up w 0 a) 1 b) 2 c2) x9)))) :: wr) H := hP
  have hD : va_D A ((h0, .inr (3, [.ref hE, .ref hQ, .int (z_b true)])) :: (hE, .inl (cI, 3, .inl (fun x9 => nI ((va_up (va_up (va_up w 0 a) 1 b) 2 c2) x9)))) :: wr) := hD
  exact W.vret F.1 F.2.1 hr (fun t ht hW => ⟨rfl, by rw [ht]; exact hP, va_K.moved hW.alike hK, hD, hS.F ht⟩) hS.2.2 dQ_keep_26
set_option maxHeartbeats 4000000 in
set_option maxRecDepth 100000 in
theorem cq_divide (l : Launch) (dC : Nat → ClassId) (dI : Nat → Nat → Nat) (cI cL : ClassId) (wr : va_W) (zz : Nat) (h0 hE hQ hL hR sz : Nat) (md : Bool) (q lf rt : Nat → Nat) (hlf : ∀ j, lf j < 998244353) (hrt : ∀ j, rt j < 998244353) (hz : sz ≤ 16) : Met l yQ_divide (zW yQ_divide cQ_divide 7 none) ({ frames := 1, cells := 0, slots := 0, locals := 22 }) (va_Pc [.ref h0, .ref hL, .ref hR, .int (nI sz)] (z_P (dC, dI) vwCl [(cI, .int), (cL, .long)] zz ((h0, .inr (3, [.ref hE, .ref hQ, .int (z_b md)])) :: (hQ, .inl (cI, 16, .inl (fun x9 => nI (q x9)))) :: (hL, .inl (cI, 16, .inl (fun x9 => nI (lf x9)))) :: (hR, .inl (cI, 16, .inl (fun x9 => nI (rt x9)))) :: wr))) (z_Q (dC, dI) vwCl [(cI, .int), (cL, .long)] none ((h0, .inr (3, [.ref hE, .ref hQ, .int (z_b md)])) :: (hQ, .inl (cI, 16, .inl (fun x9 => nI (((fun k => sg (sz - (k + 1)) (fun t => lf (k + 1 + t) * rt (k + sz - (k + 1 + t))) % 998244353)) x9)))) :: (hL, .inl (cI, 16, .inl (fun x9 => nI (lf x9)))) :: (hR, .inl (cI, 16, .inl (fun x9 => nI (rt x9)))) :: wr) (va_A ((h0, .inr (3, [.ref hE, .ref hQ, .int (z_b md)])) :: (hQ, .inl (cI, 16, .inl (fun x9 => nI (q x9)))) :: (hL, .inl (cI, 16, .inl (fun x9 => nI (lf x9)))) :: (hR, .inl (cI, 16, .inl (fun x9 => nI (rt x9)))) :: wr) zz)) 0 0 (va_A ((h0, .inr (3, [.ref hE, .ref hQ, .int (z_b md)])) :: (hQ, .inl (cI, 16, .inl (fun x9 => nI (q x9)))) :: (hL, .inl (cI, 16, .inl (fun x9 => nI (lf x9)))) :: (hR, .inl (cI, 16, .inl (fun x9 => nI (rt x9)))) :: wr) zz) := by
  refine Met.ofW (cc := cQ_divide) (maxL := 7) (ret := none) (by decide) rfl ?_
  intro p e s m args below meth c s₁ B hml hv
  obtain ⟨rfl, hsz, hP, hK, hD0⟩ := hv
  have F : CallFix p m c cQ_divide 7 s _ zT RQ := ⟨B.exec, B.bytes, hml, findClass_of_methodNamed B.named, fun w h => atoms_spec (ws := (zW yQ_divide cQ_divide 7 none)) B.pre w (List.mem_cons_of_mem _ h)⟩
  have hr := B.returns
  have hlocks := B.notSynchronized
  subst hsz
  have hD := hD0.self (sz := s.heap.size)
  generalize hAe : va_A ((h0, .inr (3, [.ref hE, .ref hQ, .int (z_b md)])) :: (hQ, .inl (cI, 16, .inl (fun x9 => nI (q x9)))) :: (hL, .inl (cI, 16, .inl (fun x9 => nI (lf x9)))) :: (hR, .inl (cI, 16, .inl (fun x9 => nI (rt x9)))) :: wr) s.heap.size = A at hD ⊢
  have hAA : ∀ q : Nat, s.heap.size ≤ q → A q := fun q h => by rw [← hAe]; exact Or.inr h
  have hS : va_S A s.heap s.heap [] := va_S.rf
  have hl := lv_entry ([.ref h0, .ref hL, .ref hR, .int (nI sz)]) (n := 7) (Nat.le_of_ble_eq_true rfl)
  rw [lg_entry_eq]
  generalize (lg_sl ([.ref h0, .ref hL, .ref hR, .int (nI sz)]) ++ List.replicate (7 - (lg_sl ([.ref h0, .ref hL, .ref hR, .int (nI sz)])).length) Slot.unset).toArray = ls at hl ⊢
  have hl : lv_has ls 7 [(0, .ref h0), (1, .ref hL), (2, .ref hR), (3, .int (nI sz))] := hl
  refine z_iconst (v := 0) F (by decide) dQ_divide_0 ?_
  refine lv_istore F.1 F.2.1 (lv' := [(4, .int (nI 0)), (0, .ref h0), (1, .ref hL), (2, .ref hR), (3, .int (nI sz))]) dQ_divide_1 hl (by decide) rfl (fun ls hl => ?_)
  have hl : lv_has ls 7 [(4, .int (nI 0)), (0, .ref h0), (1, .ref hL), (2, .ref hR), (3, .int (nI sz))] := lv_sub hl [0, 1, 2, 3, 4] rfl
  refine z_up (E := 16) (P := fun k => ∀ (o : Nat → Nat) (ls : Array Slot) (H : Heap) (locs : List Loc), (∀ t, t < k → o t = (fun k => sg (sz - (k + 1)) (fun t => lf (k + 1 + t) * rt (k + sz - (k + 1 + t))) % 998244353) t) → va_P (dC, dI) vwCl ((h0, .inr (3, [.ref hE, .ref hQ, .int (z_b md)])) :: (hQ, .inl (cI, 16, .inl (fun x9 => nI (o x9)))) :: (hL, .inl (cI, 16, .inl (fun x9 => nI (lf x9)))) :: (hR, .inl (cI, 16, .inl (fun x9 => nI (rt x9)))) :: wr) H → va_D A ((h0, .inr (3, [.ref hE, .ref hQ, .int (z_b md)])) :: (hQ, .inl (cI, 16, .inl (fun x9 => nI (o x9)))) :: (hL, .inl (cI, 16, .inl (fun x9 => nI (lf x9)))) :: (hR, .inl (cI, 16, .inl (fun x9 => nI (rt x9)))) :: wr) → va_S A s.heap H locs → lv_has ls 7 [(4, .int (nI k)), (0, .ref h0), (1, .ref hL), (2, .ref hR), (3, .int (nI sz))] → W p l e _ s m _ below meth c H locs _ _ _ (F0 m 3 ls [])) ?_ 0 (Nat.zero_le _) q ls s.heap [] (fun t h => absurd h (Nat.not_lt_zero t)) hP hD hS hl
  intro k hk ih o ls H locs h2 hP hD hS hl
  refine lv_iload F.1 F.2.1 dQ_divide_3 (lv_at hl 0 rfl) ?_
  refine z_bipush (v := 16) F (by decide) dQ_divide_5 ?_
  refine z_icmp_ge F (by omega) (by omega) (tgt := 69) dQ_divide_7 rfl (fun h1 => ?_) (fun h1 => ?_)
  · have hP := z_fI (k := 1) (fun k => sg (sz - (k + 1)) (fun t => lf (k + 1 + t) * rt (k + sz - (k + 1 + t))) % 998244353) hP rfl (fun t ht => h2 t (by omega))
    have hD := hD.set (p := 1) (e := .inl (cI, 16, .inl (fun x9 => nI ((fun k => sg (sz - (k + 1)) (fun t => lf (k + 1 + t) * rt (k + sz - (k + 1 + t))) % 998244353) x9)))) rfl
    exact W.vret F.1 F.2.1 hr (fun t ht hW => ⟨rfl, by rw [ht]; exact hP, va_K.moved hW.alike hK, hD, hS.F ht⟩) hS.2.2 dQ_divide_69
  · refine z_iconst (v := 0) F (by decide) dQ_divide_10 ?_
    refine lv_istore F.1 F.2.1 (lv' := [(5, .int (nI 0)), (4, .int (nI k)), (0, .ref h0), (1, .ref hL), (2, .ref hR), (3, .int (nI sz))]) dQ_divide_11 hl (by decide) rfl (fun ls hl => ?_)
    refine lv_iload F.1 F.2.1 dQ_divide_13 (lv_at hl 1 rfl) ?_
    refine z_iconst (v := 1) F (by decide) dQ_divide_15 ?_
    refine z_iadd F dQ_divide_16 ?_
    refine lv_istore F.1 F.2.1 (lv' := [(6, .int (nI (k + 1))), (5, .int (nI 0)), (4, .int (nI k)), (0, .ref h0), (1, .ref hL), (2, .ref hR), (3, .int (nI sz))]) dQ_divide_17 hl (by decide) rfl (fun ls hl => ?_)
    have hl : lv_has ls 7 [(6, .int (nI (k + 1 + 0))), (5, .int (nI (sg 0 (fun t => lf (k + 1 + t) * rt (k + sz - (k + 1 + t))) % 998244353))), (4, .int (nI k)), (0, .ref h0), (1, .ref hL), (2, .ref hR), (3, .int (nI sz))] := lv_sub hl [0, 1, 2, 3, 4, 5, 6] rfl
    refine z_up (E := sz - (k + 1)) (P := fun u => ∀  (ls : Array Slot), lv_has ls 7 [(6, .int (nI (k + 1 + u))), (5, .int (nI (sg u (fun t => lf (k + 1 + t) * rt (k + sz - (k + 1 + t))) % 998244353))), (4, .int (nI k)), (0, .ref h0), (1, .ref hL), (2, .ref hR), (3, .int (nI sz))] → W p l e _ s m _ below meth c H locs _ _ _ (F0 m 19 ls [])) ?_ 0 (Nat.zero_le _)  ls  hl
    intro u hu ih2  ls  hl
    refine lv_iload F.1 F.2.1 dQ_divide_19 (lv_at hl 0 rfl) ?_
    refine lv_iload_n F.1 F.2.1 dQ_divide_21 rfl (lv_at hl 6 rfl) ?_
    refine z_icmp_ge F (by omega) (by omega) (tgt := 54) dQ_divide_22 rfl (fun h5 => ?_) (fun h5 => ?_)
    · refine lv_aload_n F.1 F.2.1 dQ_divide_54 rfl (lv_at hl 3 rfl) ?_
      refine z_get F hK hP hinQ 0 rfl rfl 1 (by decide) rfl wf_Q_15 rfl dQ_divide_55 ?_
      refine lv_iload F.1 F.2.1 dQ_divide_58 (lv_at hl 2 rfl) ?_
      refine lv_iload F.1 F.2.1 dQ_divide_60 (lv_at hl 1 rfl) ?_
      refine z_top (sg (sz - (k + 1)) (fun t => lf (k + 1 + t) * rt (k + sz - (k + 1 + t))) % 998244353) (by rw [show u = sz - (k + 1) by omega]) ?_
      refine z_iast F hK hP hD hS 1 0 rfl rfl (by omega) (by decide) dQ_divide_62 (fun H locs hP hD hS => ?_)
      have hP : va_P (dC, dI) vwCl ((h0, .inr (3, [.ref hE, .ref hQ, .int (z_b md)])) :: (hQ, .inl (cI, 16, .inl (fun x9 => nI ((va_up o k (sg (sz - (k + 1)) (fun t => lf (k + 1 + t) * rt (k + sz - (k + 1 + t))) % 998244353)) x9)))) :: (hL, .inl (cI, 16, .inl (fun x9 => nI (lf x9)))) :: (hR, .inl (cI, 16, .inl (fun x9 => nI (rt x9)))) :: wr) H := hP
      have hD : va_D A ((h0, .inr (3, [.ref hE, .ref hQ, .int (z_b md)])) :: (hQ, .inl (cI, 16, .inl (fun x9 => nI ((va_up o k (sg (sz - (k + 1)) (fun t => lf (k + 1 + t) * rt (k + sz - (k + 1 + t))) % 998244353)) x9)))) :: (hL, .inl (cI, 16, .inl (fun x9 => nI (lf x9)))) :: (hR, .inl (cI, 16, .inl (fun x9 => nI (rt x9)))) :: wr) := hD
      refine lv_iinc F.1 F.2.1 (k := 2) (v := nI (k + 1)) (lv' := [(4, .int (nI (k + 1))), (6, .int (nI (k + 1 + u))), (5, .int (nI (sg u (fun t => lf (k + 1 + t) * rt (k + sz - (k + 1 + t))) % 998244353))), (0, .ref h0), (1, .ref hL), (2, .ref hR), (3, .int (nI sz))]) dQ_divide_63 hl rfl (nI_1 k) (by decide) rfl (fun ls hl => ?_)
      refine lv_goto F.1 F.2.1 (tgt := 3) dQ_divide_66 rfl ?_
      have hl : lv_has ls 7 [(4, .int (nI ((k + 1)))), (0, .ref h0), (1, .ref hL), (2, .ref hR), (3, .int (nI sz))] := lv_sub hl [0, 3, 4, 5, 6] rfl
      exact ih (by omega) (va_up o k (sg (sz - (k + 1)) (fun t => lf (k + 1 + t) * rt (k + sz - (k + 1 + t))) % 998244353)) ls H locs (fun t ht => by by_cases e9 : t = k; (rw [e9, up_at]); (rw [up_ne _ _ e9]; exact h2 t (by omega))) hP hD hS hl
    · refine lv_iload F.1 F.2.1 dQ_divide_25 (lv_at hl 1 rfl) ?_
      refine lv_aload_n F.1 F.2.1 dQ_divide_27 rfl (lv_at hl 4 rfl) ?_
      refine lv_iload F.1 F.2.1 dQ_divide_28 (lv_at hl 0 rfl) ?_
      refine z_iald F hK hP 2 0 rfl rfl (by omega) (by decide) dQ_divide_30 ?_
      refine lv_aload_n F.1 F.2.1 dQ_divide_31 rfl (lv_at hl 5 rfl) ?_
      refine lv_iload F.1 F.2.1 dQ_divide_32 (lv_at hl 2 rfl) ?_
      refine lv_iload_n F.1 F.2.1 dQ_divide_34 rfl (lv_at hl 6 rfl) ?_
      refine z_iadd F dQ_divide_35 ?_
      refine lv_iload F.1 F.2.1 dQ_divide_36 (lv_at hl 0 rfl) ?_
      refine z_isub F (by omega) dQ_divide_38 ?_
      refine z_iald F hK hP 3 0 rfl rfl (by omega) (by decide) dQ_divide_39 ?_
      refine z_call (z_runS [.int (nI (lf (k + 1 + u))), .int (nI (rt ((k + sz) - (k + 1 + u))))] [.int (nI (sg u (fun t => lf (k + 1 + t) * rt (k + sz - (k + 1 + t))) % 998244353))] F (c_product l (lf (k + 1 + u)) (rt (k + sz - (k + 1 + u))) (Nat.lt_trans (hlf _) (by decide)) (Nat.lt_trans (hrt _) (by decide))) kk_F_product wl_Q_22 rfl rfl ⟨Nat.le_of_ble_eq_true rfl, Nat.le_of_ble_eq_true rfl⟩ z_preN rfl hl.1 rfl (Nat.le_of_ble_eq_true rfl) dQ_divide_40 ⟨Nat.zero_le _, Nat.zero_le _⟩) ?_
      refine z_call (z_runS [.int (nI (sg u (fun t => lf (k + 1 + t) * rt (k + sz - (k + 1 + t))) % 998244353)), .int (nI ((lf (k + 1 + u)) * (rt (k + sz - (k + 1 + u))) % 998244353))] [] F (c_sum l (sg u (fun t => lf (k + 1 + t) * rt (k + sz - (k + 1 + t))) % 998244353) ((lf (k + 1 + u)) * (rt (k + sz - (k + 1 + u))) % 998244353) (ltP _) (ltP _)) kk_F_sum wl_Q_28 rfl rfl ⟨Nat.le_of_ble_eq_true rfl, Nat.le_of_ble_eq_true rfl⟩ z_preN rfl hl.1 rfl (Nat.le_of_ble_eq_true rfl) dQ_divide_43 ⟨Nat.zero_le _, Nat.zero_le _⟩) ?_
      refine z_top (sg (u + 1) (fun t => lf (k + 1 + t) * rt (k + sz - (k + 1 + t))) % 998244353) (sm1 u (fun t => lf (k + 1 + t) * rt (k + sz - (k + 1 + t)))) ?_
      refine lv_istore F.1 F.2.1 (lv' := [(5, .int (nI (sg (u + 1) (fun t => lf (k + 1 + t) * rt (k + sz - (k + 1 + t))) % 998244353))), (6, .int (nI (k + 1 + u))), (4, .int (nI k)), (0, .ref h0), (1, .ref hL), (2, .ref hR), (3, .int (nI sz))]) dQ_divide_46 hl (by decide) rfl (fun ls hl => ?_)
      refine lv_iinc F.1 F.2.1 (k := 1) (v := nI (k + 1 + u + 1)) (lv' := [(6, .int (nI (k + 1 + u + 1))), (5, .int (nI (sg (u + 1) (fun t => lf (k + 1 + t) * rt (k + sz - (k + 1 + t))) % 998244353))), (4, .int (nI k)), (0, .ref h0), (1, .ref hL), (2, .ref hR), (3, .int (nI sz))]) dQ_divide_48 hl rfl (nI_1 (k + 1 + u)) (by decide) rfl (fun ls hl => ?_)
      refine lv_goto F.1 F.2.1 (tgt := 19) dQ_divide_51 rfl ?_
      have hl : lv_has ls 7 [(6, .int (nI (k + 1 + (u + 1)))), (5, .int (nI (sg (u + 1) (fun t => lf (k + 1 + t) * rt (k + sz - (k + 1 + t))) % 998244353))), (4, .int (nI k)), (0, .ref h0), (1, .ref hL), (2, .ref hR), (3, .int (nI sz))] := lv_sub hl [0, 1, 2, 3, 4, 5, 6] rfl
      exact ih2 (by omega)  ls  hl
