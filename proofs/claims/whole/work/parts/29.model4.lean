theorem ct_isNumber_t (l : Launch) (a : Nat) (h : a < 998244353) : Met l yT_isNumber (zW yT_isNumber cT_isNumber 1 (.some .boolean)) ({ frames := 0, cells := 0, slots := 0, locals := 0 }) (va_Pc [.int (nI a)] (fun _ => True)) (k2_QcV (.int (nI 1))) 0 0 (fun _ => False) := by
  have := ct_isNumber l (nI a)
  rw [bl_t h (by decide)] at this
  exact this
set_option maxHeartbeats 4000000 in
set_option maxRecDepth 100000 in
theorem ct_thrown (l : Launch) (dC : Nat → ClassId) (dI : Nat → Nat → Nat) (cI cL : ClassId) (ws : va_W) (q1 : Nat) (y0 yR yV yI yX yP yQ yS yD : Nat) (th cn pb ta al be ga de va : Nat) (md pd : Bool) (e1 : ws[q1]? = some (y0, .inr (5, [.int (nI th), .ref yR, .int (nI cn), .int (nI pb), .ref yV, .ref yI, .int (z_b md), .long (lN ta), .long (lN al), .long (lN be), .long (lN ga), .long (lN de), .long (lN va), .ref yX, .int (z_b pd), .ref yP, .ref yQ, .ref yS, .ref yD])))  : Met l yT_thrown (zW yT_thrown cT_thrown 1 (.some .int)) ({ frames := 0, cells := 0, slots := 0, locals := 0 }) (va_Pc [.ref y0] (z_R (dC, dI) vwCl [(cI, .int), (cL, .long)] ws)) (k2_QcV (.int (nI th))) 0 0 (fun _ => False) := by
  refine Met.ofW (cc := cT_thrown) (maxL := 1) (ret := (.some .int)) (by decide) rfl ?_
  intro p e s m args below meth c s₁ B hml hv
  obtain ⟨rfl, hP, hK⟩ := hv
  have F : CallFix p m c cT_thrown 1 s _ zT RT := ⟨B.exec, B.bytes, hml, findClass_of_methodNamed B.named, fun w h => atoms_spec (ws := (zW yT_thrown cT_thrown 1 (.some .int))) B.pre w (List.mem_cons_of_mem _ h)⟩
  have hr := B.returns
  have hlocks := B.notSynchronized
  have hl := lv_entry ([.ref y0]) (n := 1) (Nat.le_of_ble_eq_true rfl)
  rw [lg_entry_eq]
  generalize (lg_sl ([.ref y0]) ++ List.replicate (1 - (lg_sl ([.ref y0])).length) Slot.unset).toArray = ls at hl ⊢
  have hl : lv_has ls 1 [(0, .ref y0)] := hl
  refine lv_aload_n F.1 F.2.1 dT_thrown_0 rfl (lv_at hl 0 rfl) ?_
  refine z_get F hK hP hinT q1 e1 rfl 0 (by decide) rfl wf_T_34 rfl dT_thrown_1 ?_
  exact W.iret F.1 F.2.1 hr (fun t ht hW => ⟨rfl, ht⟩) (fun _ h => by cases h) dT_thrown_4
set_option maxHeartbeats 4000000 in
set_option maxRecDepth 100000 in
theorem ct_term (l : Launch) (dC : Nat → ClassId) (dI : Nat → Nat → Nat) (cI cL : ClassId) (zz : Nat) (y0 yR yV yI yX yP yQ yS yD : Nat) (th cn pb ta al be ga de va : Nat) (md pd : Bool) (f v inp mx el qt su pr : Nat → Nat) (row i x : Nat) (hf : ∀ j, f j < 998244353) (hx : x < 998244353) (hrow : row < 3) (hi : i < 16) (hn : cn ≤ 16) : Met l yT_term (zW yT_term cT_term 5 (.some .int)) ({ frames := 1, cells := 0, slots := 0, locals := 20 }) (va_Pc [.ref y0, .int (nI row), .int (nI i), .int (nI x)] (z_P (dC, dI) vwCl [(cI, .int), (cL, .long)] zz ([(y0, .inr (5, [.int (nI th), .ref yR, .int (nI cn), .int (nI pb), .ref yV, .ref yI, .int (z_b md), .long (lN ta), .long (lN al), .long (lN be), .long (lN ga), .long (lN de), .long (lN va), .ref yX, .int (z_b pd), .ref yP, .ref yQ, .ref yS, .ref yD])), (yR, .inl (cL, 816, .inr (.inl (fun x9 => lN (f x9))))), (yV, .inl (cL, 16, .inr (.inl (fun x9 => lN (v x9))))), (yI, .inl (cL, 16, .inr (.inl (fun x9 => lN (inp x9))))), (yX, .inl (cL, 16, .inr (.inl (fun x9 => lN (mx x9))))), (yP, .inl (cL, 3, .inr (.inl (fun x9 => lN (el x9))))), (yQ, .inl (cL, 32, .inr (.inl (fun x9 => lN (qt x9))))), (yS, .inl (cL, 48, .inr (.inl (fun x9 => lN (su x9))))), (yD, .inl (cL, 32, .inr (.inl (fun x9 => lN (pr x9)))))]))) (z_Q (dC, dI) vwCl [(cI, .int), (cL, .long)] (some (.int (nI ((f ((cn * 3 + row) * 16 + i) + x) % 998244353)))) ([(y0, .inr (5, [.int (nI 0), .ref yR, .int (nI cn), .int (nI pb), .ref yV, .ref yI, .int (z_b md), .long (lN ta), .long (lN al), .long (lN be), .long (lN ga), .long (lN de), .long (lN va), .ref yX, .int (z_b pd), .ref yP, .ref yQ, .ref yS, .ref yD])), (yR, .inl (cL, 816, .inr (.inl (fun x9 => lN ((va_up f ((cn * 3 + row) * 16 + i) ((f ((cn * 3 + row) * 16 + i) + x) % 998244353)) x9))))), (yV, .inl (cL, 16, .inr (.inl (fun x9 => lN (v x9))))), (yI, .inl (cL, 16, .inr (.inl (fun x9 => lN (inp x9))))), (yX, .inl (cL, 16, .inr (.inl (fun x9 => lN (mx x9))))), (yP, .inl (cL, 3, .inr (.inl (fun x9 => lN (el x9))))), (yQ, .inl (cL, 32, .inr (.inl (fun x9 => lN (qt x9))))), (yS, .inl (cL, 48, .inr (.inl (fun x9 => lN (su x9))))), (yD, .inl (cL, 32, .inr (.inl (fun x9 => lN (pr x9)))))]) (va_A ([(y0, .inr (5, [.int (nI th), .ref yR, .int (nI cn), .int (nI pb), .ref yV, .ref yI, .int (z_b md), .long (lN ta), .long (lN al), .long (lN be), .long (lN ga), .long (lN de), .long (lN va), .ref yX, .int (z_b pd), .ref yP, .ref yQ, .ref yS, .ref yD])), (yR, .inl (cL, 816, .inr (.inl (fun x9 => lN (f x9))))), (yV, .inl (cL, 16, .inr (.inl (fun x9 => lN (v x9))))), (yI, .inl (cL, 16, .inr (.inl (fun x9 => lN (inp x9))))), (yX, .inl (cL, 16, .inr (.inl (fun x9 => lN (mx x9))))), (yP, .inl (cL, 3, .inr (.inl (fun x9 => lN (el x9))))), (yQ, .inl (cL, 32, .inr (.inl (fun x9 => lN (qt x9))))), (yS, .inl (cL, 48, .inr (.inl (fun x9 => lN (su x9))))), (yD, .inl (cL, 32, .inr (.inl (fun x9 => lN (pr x9)))))]) zz)) 0 0 (va_A ([(y0, .inr (5, [.int (nI th), .ref yR, .int (nI cn), .int (nI pb), .ref yV, .ref yI, .int (z_b md), .long (lN ta), .long (lN al), .long (lN be), .long (lN ga), .long (lN de), .long (lN va), .ref yX, .int (z_b pd), .ref yP, .ref yQ, .ref yS, .ref yD])), (yR, .inl (cL, 816, .inr (.inl (fun x9 => lN (f x9))))), (yV, .inl (cL, 16, .inr (.inl (fun x9 => lN (v x9))))), (yI, .inl (cL, 16, .inr (.inl (fun x9 => lN (inp x9))))), (yX, .inl (cL, 16, .inr (.inl (fun x9 => lN (mx x9))))), (yP, .inl (cL, 3, .inr (.inl (fun x9 => lN (el x9))))), (yQ, .inl (cL, 32, .inr (.inl (fun x9 => lN (qt x9))))), (yS, .inl (cL, 48, .inr (.inl (fun x9 => lN (su x9))))), (yD, .inl (cL, 32, .inr (.inl (fun x9 => lN (pr x9)))))]) zz) := by
  refine Met.ofW (cc := cT_term) (maxL := 5) (ret := (.some .int)) (by decide) rfl ?_
  intro p e s m args below meth c s₁ B hml hv
  obtain ⟨rfl, hsz, hP, hK, hD0⟩ := hv
  have F : CallFix p m c cT_term 5 s _ zT RT := ⟨B.exec, B.bytes, hml, findClass_of_methodNamed B.named, fun w h => atoms_spec (ws := (zW yT_term cT_term 5 (.some .int))) B.pre w (List.mem_cons_of_mem _ h)⟩
  have hr := B.returns
  have hlocks := B.notSynchronized
  subst hsz
  have hD := hD0.self (sz := s.heap.size)
  generalize hAe : va_A ([(y0, .inr (5, [.int (nI th), .ref yR, .int (nI cn), .int (nI pb), .ref yV, .ref yI, .int (z_b md), .long (lN ta), .long (lN al), .long (lN be), .long (lN ga), .long (lN de), .long (lN va), .ref yX, .int (z_b pd), .ref yP, .ref yQ, .ref yS, .ref yD])), (yR, .inl (cL, 816, .inr (.inl (fun x9 => lN (f x9))))), (yV, .inl (cL, 16, .inr (.inl (fun x9 => lN (v x9))))), (yI, .inl (cL, 16, .inr (.inl (fun x9 => lN (inp x9))))), (yX, .inl (cL, 16, .inr (.inl (fun x9 => lN (mx x9))))), (yP, .inl (cL, 3, .inr (.inl (fun x9 => lN (el x9))))), (yQ, .inl (cL, 32, .inr (.inl (fun x9 => lN (qt x9))))), (yS, .inl (cL, 48, .inr (.inl (fun x9 => lN (su x9))))), (yD, .inl (cL, 32, .inr (.inl (fun x9 => lN (pr x9)))))]) s.heap.size = A at hD ⊢
  have hAA : ∀ q : Nat, s.heap.size ≤ q → A q := fun q h => by rw [← hAe]; exact Or.inr h
  have hS : va_S A s.heap s.heap [] := va_S.rf
  have hl := lv_entry ([.ref y0, .int (nI row), .int (nI i), .int (nI x)]) (n := 5) (Nat.le_of_ble_eq_true rfl)
  rw [lg_entry_eq]
  generalize (lg_sl ([.ref y0, .int (nI row), .int (nI i), .int (nI x)]) ++ List.replicate (5 - (lg_sl ([.ref y0, .int (nI row), .int (nI i), .int (nI x)])).length) Slot.unset).toArray = ls at hl ⊢
  have hl : lv_has ls 5 [(0, .ref y0), (1, .int (nI row)), (2, .int (nI i)), (3, .int (nI x))] := hl
  refine lv_aload_n F.1 F.2.1 dT_term_0 rfl (lv_at hl 0 rfl) ?_
  refine lv_iload_n F.1 F.2.1 dT_term_1 rfl (lv_at hl 1 rfl) ?_
  refine lv_if_lt F.1 F.2.1 (tgt := 27) dT_term_2 rfl (fun h => absurd h (nI_pos (by omega))) (fun h => ?_)
  refine lv_iload_n F.1 F.2.1 dT_term_5 rfl (lv_at hl 1 rfl) ?_
  refine z_iconst (v := 2) F (by decide) dT_term_6 ?_
  refine z_icmp_gt F (by omega) (by omega) (tgt := 27) dT_term_7 rfl (fun h => absurd h (by omega)) (fun h => ?_)
  refine lv_iload_n F.1 F.2.1 dT_term_10 rfl (lv_at hl 2 rfl) ?_
  refine lv_if_lt F.1 F.2.1 (tgt := 27) dT_term_11 rfl (fun h => absurd h (nI_pos (by omega))) (fun h => ?_)
  refine lv_iload_n F.1 F.2.1 dT_term_14 rfl (lv_at hl 2 rfl) ?_
  refine z_bipush (v := 15) F (by decide) dT_term_15 ?_
  refine z_icmp_gt F (by omega) (by omega) (tgt := 27) dT_term_17 rfl (fun h => absurd h (by omega)) (fun h => ?_)
  refine lv_iload_n F.1 F.2.1 dT_term_20 rfl (lv_at hl 3 rfl) ?_
  refine z_call (z_runS [.int (nI x)] [.ref y0] F (ct_isNumber_t l x (by omega)) kk_T_isNumber wl_T_49 rfl rfl ⟨Nat.le_of_ble_eq_true rfl, Nat.le_of_ble_eq_true rfl⟩ z_preN rfl hl.1 rfl (Nat.le_of_ble_eq_true rfl) dT_term_21 ⟨Nat.zero_le _, Nat.zero_le _⟩) ?_
  refine z_if_ne F (by omega) (tgt := 31) dT_term_24 rfl (fun h => ?_) (fun h => absurd h (by decide))
  refine z_iconst (v := 0) F (by decide) dT_term_31 ?_
  refine z_put F hK hP hD hS hinT tyT tyT_ok nmT 0 rfl rfl 0 (by decide) rfl rfl wf_T_34 (rfl) (rfl) (Nat.le_of_ble_eq_true rfl) dT_term_32 (fun H locs hP hD hS => ?_)
  have hP : va_P (dC, dI) vwCl ([(y0, .inr (5, [.int (nI 0), .ref yR, .int (nI cn), .int (nI pb), .ref yV, .ref yI, .int (z_b md), .long (lN ta), .long (lN al), .long (lN be), .long (lN ga), .long (lN de), .long (lN va), .ref yX, .int (z_b pd), .ref yP, .ref yQ, .ref yS, .ref yD])), (yR, .inl (cL, 816, .inr (.inl (fun x9 => lN (f x9))))), (yV, .inl (cL, 16, .inr (.inl (fun x9 => lN (v x9))))), (yI, .inl (cL, 16, .inr (.inl (fun x9 => lN (inp x9))))), (yX, .inl (cL, 16, .inr (.inl (fun x9 => lN (mx x9))))), (yP, .inl (cL, 3, .inr (.inl (fun x9 => lN (el x9))))), (yQ, .inl (cL, 32, .inr (.inl (fun x9 => lN (qt x9))))), (yS, .inl (cL, 48, .inr (.inl (fun x9 => lN (su x9))))), (yD, .inl (cL, 32, .inr (.inl (fun x9 => lN (pr x9)))))]) H := hP
  have hD : va_D A ([(y0, .inr (5, [.int (nI 0), .ref yR, .int (nI cn), .int (nI pb), .ref yV, .ref yI, .int (z_b md), .long (lN ta), .long (lN al), .long (lN be), .long (lN ga), .long (lN de), .long (lN va), .ref yX, .int (z_b pd), .ref yP, .ref yQ, .ref yS, .ref yD])), (yR, .inl (cL, 816, .inr (.inl (fun x9 => lN (f x9))))), (yV, .inl (cL, 16, .inr (.inl (fun x9 => lN (v x9))))), (yI, .inl (cL, 16, .inr (.inl (fun x9 => lN (inp x9))))), (yX, .inl (cL, 16, .inr (.inl (fun x9 => lN (mx x9))))), (yP, .inl (cL, 3, .inr (.inl (fun x9 => lN (el x9))))), (yQ, .inl (cL, 32, .inr (.inl (fun x9 => lN (qt x9))))), (yS, .inl (cL, 48, .inr (.inl (fun x9 => lN (su x9))))), (yD, .inl (cL, 32, .inr (.inl (fun x9 => lN (pr x9)))))]) := hD
  refine lv_aload_n F.1 F.2.1 dT_term_35 rfl (lv_at hl 0 rfl) ?_
  refine z_get F hK hP hinT 0 rfl rfl 0 (by decide) rfl wf_T_34 rfl dT_term_36 ?_
  refine z_if_le F (by omega) (tgt := 44) dT_term_39 rfl (fun h => ?_) (fun h => absurd h (by decide))
  refine z_bipush (v := 48) F (by decide) dT_term_44 ?_
  refine lv_aload_n F.1 F.2.1 dT_term_46 rfl (lv_at hl 0 rfl) ?_
  refine z_get F hK hP hinT 0 rfl rfl 2 (by decide) rfl wf_T_46 rfl dT_term_47 ?_
  refine z_imul F dT_term_50 ?_
  refine z_bipush (v := 16) F (by decide) dT_term_51 ?_
  refine lv_iload_n F.1 F.2.1 dT_term_53 rfl (lv_at hl 1 rfl) ?_
  refine z_imul F dT_term_54 ?_
  refine z_iadd F dT_term_55 ?_
  refine lv_iload_n F.1 F.2.1 dT_term_56 rfl (lv_at hl 2 rfl) ?_
  refine z_iadd F dT_term_57 ?_
  refine z_top (((cn * 3 + row) * 16 + i)) (by omega) ?_
  refine lv_istore F.1 F.2.1 (lv' := [(4, .int (nI (((cn * 3 + row) * 16 + i)))), (0, .ref y0), (1, .int (nI row)), (2, .int (nI i)), (3, .int (nI x))]) dT_term_58 hl (by decide) rfl (fun ls hl => ?_)
  have hfx := hf ((cn * 3 + row) * 16 + i)
  refine lv_aload_n F.1 F.2.1 dT_term_60 rfl (lv_at hl 1 rfl) ?_
  refine z_get F hK hP hinT 0 rfl rfl 1 (by decide) rfl wf_T_7 rfl dT_term_61 ?_
  refine lv_iload F.1 F.2.1 dT_term_64 (lv_at hl 0 rfl) ?_
  refine lv_aload_n F.1 F.2.1 dT_term_66 rfl (lv_at hl 1 rfl) ?_
  refine z_get F hK hP hinT 0 rfl rfl 1 (by decide) rfl wf_T_7 rfl dT_term_67 ?_
  refine lv_iload F.1 F.2.1 dT_term_70 (lv_at hl 0 rfl) ?_
  refine z_lald F hK hP 1 1 rfl rfl (by omega) (by decide) dT_term_72 ?_
  refine lv_iload_n F.1 F.2.1 dT_term_73 rfl (lv_at hl 4 rfl) ?_
  refine z_i2l F (by omega) dT_term_74 ?_
  refine z_ladd F dT_term_75 ?_
  refine z_ldc2 F 998244353 (v0 := 998244353) wk_T_38 rfl dT_term_76 ?_
  refine z_lrem F (by omega) (by omega) (by omega) dT_term_79 ?_
  refine z_last F hK hP hD hS 1 1 rfl rfl (by omega) (by decide) dT_term_80 (fun H locs hP hD hS => ?_)
  have hP : va_P (dC, dI) vwCl ([(y0, .inr (5, [.int (nI 0), .ref yR, .int (nI cn), .int (nI pb), .ref yV, .ref yI, .int (z_b md), .long (lN ta), .long (lN al), .long (lN be), .long (lN ga), .long (lN de), .long (lN va), .ref yX, .int (z_b pd), .ref yP, .ref yQ, .ref yS, .ref yD])), (yR, .inl (cL, 816, .inr (.inl (fun x9 => lN ((va_up f (((cn * 3 + row) * 16 + i)) (((f (((cn * 3 + row) * 16 + i))) + x) % 998244353)) x9))))), (yV, .inl (cL, 16, .inr (.inl (fun x9 => lN (v x9))))), (yI, .inl (cL, 16, .inr (.inl (fun x9 => lN (inp x9))))), (yX, .inl (cL, 16, .inr (.inl (fun x9 => lN (mx x9))))), (yP, .inl (cL, 3, .inr (.inl (fun x9 => lN (el x9))))), (yQ, .inl (cL, 32, .inr (.inl (fun x9 => lN (qt x9))))), (yS, .inl (cL, 48, .inr (.inl (fun x9 => lN (su x9))))), (yD, .inl (cL, 32, .inr (.inl (fun x9 => lN (pr x9)))))]) H := hP
  have hD : va_D A ([(y0, .inr (5, [.int (nI 0), .ref yR, .int (nI cn), .int (nI pb), .ref yV, .ref yI, .int (z_b md), .long (lN ta), .long (lN al), .long (lN be), .long (lN ga), .long (lN de), .long (lN va), .ref yX, .int (z_b pd), .ref yP, .ref yQ, .ref yS, .ref yD])), (yR, .inl (cL, 816, .inr (.inl (fun x9 => lN ((va_up f (((cn * 3 + row) * 16 + i)) (((f (((cn * 3 + row) * 16 + i))) + x) % 998244353)) x9))))), (yV, .inl (cL, 16, .inr (.inl (fun x9 => lN (v x9))))), (yI, .inl (cL, 16, .inr (.inl (fun x9 => lN (inp x9))))), (yX, .inl (cL, 16, .inr (.inl (fun x9 => lN (mx x9))))), (yP, .inl (cL, 3, .inr (.inl (fun x9 => lN (el x9))))), (yQ, .inl (cL, 32, .inr (.inl (fun x9 => lN (qt x9))))), (yS, .inl (cL, 48, .inr (.inl (fun x9 => lN (su x9))))), (yD, .inl (cL, 32, .inr (.inl (fun x9 => lN (pr x9)))))]) := hD
  refine lv_aload_n F.1 F.2.1 dT_term_81 rfl (lv_at hl 1 rfl) ?_
  refine z_get F hK hP hinT 0 rfl rfl 1 (by decide) rfl wf_T_7 rfl dT_term_82 ?_
  refine lv_iload F.1 F.2.1 dT_term_85 (lv_at hl 0 rfl) ?_
  refine z_lald F hK hP 1 1 rfl rfl (by omega) (by decide) dT_term_87 ?_
  refine z_topL ((f ((cn * 3 + row) * 16 + i) + x) % 998244353) (up_at _ _ _) ?_
  refine z_l2i F dT_term_88 ?_
  exact W.iret F.1 F.2.1 hr (fun t ht hW => ⟨rfl, by rw [ht]; exact hP, va_K.moved hW.alike hK, hD, hS.F ht⟩) hS.2.2 dT_term_89
set_option maxHeartbeats 4000000 in
set_option maxRecDepth 100000 in
theorem ct_term_no (l : Launch) (dC : Nat → ClassId) (dI : Nat → Nat → Nat) (cI cL : ClassId) (zz : Nat) (y0 yR yV yI yX yP yQ yS yD : Nat) (th cn pb ta al be ga de va : Nat) (md pd : Bool) (f v inp mx el qt su pr : Nat → Nat) (x y z : Int32) (hq : (bl x 3 && (bl y 16 && bl z 998244353)) = false) : Met l yT_term (zW yT_term cT_term 5 (.some .int)) ({ frames := 1, cells := 0, slots := 0, locals := 20 }) (va_Pc [.ref y0, .int x, .int y, .int z] (z_P (dC, dI) vwCl [(cI, .int), (cL, .long)] zz ([(y0, .inr (5, [.int (nI th), .ref yR, .int (nI cn), .int (nI pb), .ref yV, .ref yI, .int (z_b md), .long (lN ta), .long (lN al), .long (lN be), .long (lN ga), .long (lN de), .long (lN va), .ref yX, .int (z_b pd), .ref yP, .ref yQ, .ref yS, .ref yD])), (yR, .inl (cL, 816, .inr (.inl (fun x9 => lN (f x9))))), (yV, .inl (cL, 16, .inr (.inl (fun x9 => lN (v x9))))), (yI, .inl (cL, 16, .inr (.inl (fun x9 => lN (inp x9))))), (yX, .inl (cL, 16, .inr (.inl (fun x9 => lN (mx x9))))), (yP, .inl (cL, 3, .inr (.inl (fun x9 => lN (el x9))))), (yQ, .inl (cL, 32, .inr (.inl (fun x9 => lN (qt x9))))), (yS, .inl (cL, 48, .inr (.inl (fun x9 => lN (su x9))))), (yD, .inl (cL, 32, .inr (.inl (fun x9 => lN (pr x9)))))]))) (z_Q (dC, dI) vwCl [(cI, .int), (cL, .long)] (some (.int (nI 0))) ([(y0, .inr (5, [.int (nI 1), .ref yR, .int (nI cn), .int (nI pb), .ref yV, .ref yI, .int (z_b md), .long (lN ta), .long (lN al), .long (lN be), .long (lN ga), .long (lN de), .long (lN va), .ref yX, .int (z_b pd), .ref yP, .ref yQ, .ref yS, .ref yD])), (yR, .inl (cL, 816, .inr (.inl (fun x9 => lN (f x9))))), (yV, .inl (cL, 16, .inr (.inl (fun x9 => lN (v x9))))), (yI, .inl (cL, 16, .inr (.inl (fun x9 => lN (inp x9))))), (yX, .inl (cL, 16, .inr (.inl (fun x9 => lN (mx x9))))), (yP, .inl (cL, 3, .inr (.inl (fun x9 => lN (el x9))))), (yQ, .inl (cL, 32, .inr (.inl (fun x9 => lN (qt x9))))), (yS, .inl (cL, 48, .inr (.inl (fun x9 => lN (su x9))))), (yD, .inl (cL, 32, .inr (.inl (fun x9 => lN (pr x9)))))]) (va_A ([(y0, .inr (5, [.int (nI th), .ref yR, .int (nI cn), .int (nI pb), .ref yV, .ref yI, .int (z_b md), .long (lN ta), .long (lN al), .long (lN be), .long (lN ga), .long (lN de), .long (lN va), .ref yX, .int (z_b pd), .ref yP, .ref yQ, .ref yS, .ref yD])), (yR, .inl (cL, 816, .inr (.inl (fun x9 => lN (f x9))))), (yV, .inl (cL, 16, .inr (.inl (fun x9 => lN (v x9))))), (yI, .inl (cL, 16, .inr (.inl (fun x9 => lN (inp x9))))), (yX, .inl (cL, 16, .inr (.inl (fun x9 => lN (mx x9))))), (yP, .inl (cL, 3, .inr (.inl (fun x9 => lN (el x9))))), (yQ, .inl (cL, 32, .inr (.inl (fun x9 => lN (qt x9))))), (yS, .inl (cL, 48, .inr (.inl (fun x9 => lN (su x9))))), (yD, .inl (cL, 32, .inr (.inl (fun x9 => lN (pr x9)))))]) zz)) 0 0 (va_A ([(y0, .inr (5, [.int (nI th), .ref yR, .int (nI cn), .int (nI pb), .ref yV, .ref yI, .int (z_b md), .long (lN ta), .long (lN al), .long (lN be), .long (lN ga), .long (lN de), .long (lN va), .ref yX, .int (z_b pd), .ref yP, .ref yQ, .ref yS, .ref yD])), (yR, .inl (cL, 816, .inr (.inl (fun x9 => lN (f x9))))), (yV, .inl (cL, 16, .inr (.inl (fun x9 => lN (v x9))))), (yI, .inl (cL, 16, .inr (.inl (fun x9 => lN (inp x9))))), (yX, .inl (cL, 16, .inr (.inl (fun x9 => lN (mx x9))))), (yP, .inl (cL, 3, .inr (.inl (fun x9 => lN (el x9))))), (yQ, .inl (cL, 32, .inr (.inl (fun x9 => lN (qt x9))))), (yS, .inl (cL, 48, .inr (.inl (fun x9 => lN (su x9))))), (yD, .inl (cL, 32, .inr (.inl (fun x9 => lN (pr x9)))))]) zz) := by
  refine Met.ofW (cc := cT_term) (maxL := 5) (ret := (.some .int)) (by decide) rfl ?_
  intro p e s m args below meth c s₁ B hml hv
  obtain ⟨rfl, hsz, hP, hK, hD0⟩ := hv
  have F : CallFix p m c cT_term 5 s _ zT RT := ⟨B.exec, B.bytes, hml, findClass_of_methodNamed B.named, fun w h => atoms_spec (ws := (zW yT_term cT_term 5 (.some .int))) B.pre w (List.mem_cons_of_mem _ h)⟩
  have hr := B.returns
  have hlocks := B.notSynchronized
  subst hsz
  have hD := hD0.self (sz := s.heap.size)
  generalize hAe : va_A ([(y0, .inr (5, [.int (nI th), .ref yR, .int (nI cn), .int (nI pb), .ref yV, .ref yI, .int (z_b md), .long (lN ta), .long (lN al), .long (lN be), .long (lN ga), .long (lN de), .long (lN va), .ref yX, .int (z_b pd), .ref yP, .ref yQ, .ref yS, .ref yD])), (yR, .inl (cL, 816, .inr (.inl (fun x9 => lN (f x9))))), (yV, .inl (cL, 16, .inr (.inl (fun x9 => lN (v x9))))), (yI, .inl (cL, 16, .inr (.inl (fun x9 => lN (inp x9))))), (yX, .inl (cL, 16, .inr (.inl (fun x9 => lN (mx x9))))), (yP, .inl (cL, 3, .inr (.inl (fun x9 => lN (el x9))))), (yQ, .inl (cL, 32, .inr (.inl (fun x9 => lN (qt x9))))), (yS, .inl (cL, 48, .inr (.inl (fun x9 => lN (su x9))))), (yD, .inl (cL, 32, .inr (.inl (fun x9 => lN (pr x9)))))]) s.heap.size = A at hD ⊢
  have hAA : ∀ q : Nat, s.heap.size ≤ q → A q := fun q h => by rw [← hAe]; exact Or.inr h
  have hS : va_S A s.heap s.heap [] := va_S.rf
  have hl := lv_entry ([.ref y0, .int x, .int y, .int z]) (n := 5) (Nat.le_of_ble_eq_true rfl)
  rw [lg_entry_eq]
  generalize (lg_sl ([.ref y0, .int x, .int y, .int z]) ++ List.replicate (5 - (lg_sl ([.ref y0, .int x, .int y, .int z])).length) Slot.unset).toArray = ls at hl ⊢
  have hl : lv_has ls 5 [(0, .ref y0), (1, .int x), (2, .int y), (3, .int z)] := hl
  cases h9 : bl x 3 with
  | false =>
    refine lv_aload_n F.1 F.2.1 dT_term_0 rfl (lv_at hl 0 rfl) ?_
    refine lv_iload_n F.1 F.2.1 dT_term_1 rfl (lv_at hl 1 rfl) ?_
    refine lv_if_lt F.1 F.2.1 (tgt := 27) dT_term_2 rfl (fun h1 => ?_) (fun h1 => ?_)
    · refine z_iconst (v := 1) F (by decide) dT_term_27 ?_
      refine lv_goto F.1 F.2.1 (tgt := 32) dT_term_28 rfl ?_
      refine z_put F hK hP hD hS hinT tyT tyT_ok nmT 0 rfl rfl 0 (by decide) rfl rfl wf_T_34 (rfl) (rfl) (Nat.le_of_ble_eq_true rfl) dT_term_32 (fun H locs hP hD hS => ?_)
      have hP : va_P (dC, dI) vwCl ([(y0, .inr (5, [.int (nI 1), .ref yR, .int (nI cn), .int (nI pb), .ref yV, .ref yI, .int (z_b md), .long (lN ta), .long (lN al), .long (lN be), .long (lN ga), .long (lN de), .long (lN va), .ref yX, .int (z_b pd), .ref yP, .ref yQ, .ref yS, .ref yD])), (yR, .inl (cL, 816, .inr (.inl (fun x9 => lN (f x9))))), (yV, .inl (cL, 16, .inr (.inl (fun x9 => lN (v x9))))), (yI, .inl (cL, 16, .inr (.inl (fun x9 => lN (inp x9))))), (yX, .inl (cL, 16, .inr (.inl (fun x9 => lN (mx x9))))), (yP, .inl (cL, 3, .inr (.inl (fun x9 => lN (el x9))))), (yQ, .inl (cL, 32, .inr (.inl (fun x9 => lN (qt x9))))), (yS, .inl (cL, 48, .inr (.inl (fun x9 => lN (su x9))))), (yD, .inl (cL, 32, .inr (.inl (fun x9 => lN (pr x9)))))]) H := hP
      have hD : va_D A ([(y0, .inr (5, [.int (nI 1), .ref yR, .int (nI cn), .int (nI pb), .ref yV, .ref yI, .int (z_b md), .long (lN ta), .long (lN al), .long (lN be), .long (lN ga), .long (lN de), .long (lN va), .ref yX, .int (z_b pd), .ref yP, .ref yQ, .ref yS, .ref yD])), (yR, .inl (cL, 816, .inr (.inl (fun x9 => lN (f x9))))), (yV, .inl (cL, 16, .inr (.inl (fun x9 => lN (v x9))))), (yI, .inl (cL, 16, .inr (.inl (fun x9 => lN (inp x9))))), (yX, .inl (cL, 16, .inr (.inl (fun x9 => lN (mx x9))))), (yP, .inl (cL, 3, .inr (.inl (fun x9 => lN (el x9))))), (yQ, .inl (cL, 32, .inr (.inl (fun x9 => lN (qt x9))))), (yS, .inl (cL, 48, .inr (.inl (fun x9 => lN (su x9))))), (yD, .inl (cL, 32, .inr (.inl (fun x9 => lN (pr x9)))))]) := hD
      refine lv_aload_n F.1 F.2.1 dT_term_35 rfl (lv_at hl 0 rfl) ?_
      refine z_get F hK hP hinT 0 rfl rfl 0 (by decide) rfl wf_T_34 rfl dT_term_36 ?_
      refine z_if_le F (by omega) (tgt := 44) dT_term_39 rfl (fun h => absurd h (by decide)) (fun h => ?_)
      refine z_iconst (v := 0) F (by decide) dT_term_42 ?_
      exact W.iret F.1 F.2.1 hr (fun t ht hW => ⟨rfl, by rw [ht]; exact hP, va_K.moved hW.alike hK, hD, hS.F ht⟩) hS.2.2 dT_term_43
    · obtain ⟨j9, hj9, rfl⟩ := nI_of h1
      have hl : lv_has ls 5 [(0, .ref y0), (1, .int (nI j9)), (2, .int y), (3, .int z)] := hl
      rw [bl_nI _ hj9] at h9
      have h8 := of_decide_eq_false h9
      refine lv_iload_n F.1 F.2.1 dT_term_5 rfl (lv_at hl 1 rfl) ?_
      refine z_iconst (v := 2) F (by decide) dT_term_6 ?_
      refine z_icmp_gt F (by omega) (by omega) (tgt := 27) dT_term_7 rfl (fun h => ?_) (fun h => absurd h (by omega))
      refine z_iconst (v := 1) F (by decide) dT_term_27 ?_
      refine lv_goto F.1 F.2.1 (tgt := 32) dT_term_28 rfl ?_
      refine z_put F hK hP hD hS hinT tyT tyT_ok nmT 0 rfl rfl 0 (by decide) rfl rfl wf_T_34 (rfl) (rfl) (Nat.le_of_ble_eq_true rfl) dT_term_32 (fun H locs hP hD hS => ?_)
      have hP : va_P (dC, dI) vwCl ([(y0, .inr (5, [.int (nI 1), .ref yR, .int (nI cn), .int (nI pb), .ref yV, .ref yI, .int (z_b md), .long (lN ta), .long (lN al), .long (lN be), .long (lN ga), .long (lN de), .long (lN va), .ref yX, .int (z_b pd), .ref yP, .ref yQ, .ref yS, .ref yD])), (yR, .inl (cL, 816, .inr (.inl (fun x9 => lN (f x9))))), (yV, .inl (cL, 16, .inr (.inl (fun x9 => lN (v x9))))), (yI, .inl (cL, 16, .inr (.inl (fun x9 => lN (inp x9))))), (yX, .inl (cL, 16, .inr (.inl (fun x9 => lN (mx x9))))), (yP, .inl (cL, 3, .inr (.inl (fun x9 => lN (el x9))))), (yQ, .inl (cL, 32, .inr (.inl (fun x9 => lN (qt x9))))), (yS, .inl (cL, 48, .inr (.inl (fun x9 => lN (su x9))))), (yD, .inl (cL, 32, .inr (.inl (fun x9 => lN (pr x9)))))]) H := hP
      have hD : va_D A ([(y0, .inr (5, [.int (nI 1), .ref yR, .int (nI cn), .int (nI pb), .ref yV, .ref yI, .int (z_b md), .long (lN ta), .long (lN al), .long (lN be), .long (lN ga), .long (lN de), .long (lN va), .ref yX, .int (z_b pd), .ref yP, .ref yQ, .ref yS, .ref yD])), (yR, .inl (cL, 816, .inr (.inl (fun x9 => lN (f x9))))), (yV, .inl (cL, 16, .inr (.inl (fun x9 => lN (v x9))))), (yI, .inl (cL, 16, .inr (.inl (fun x9 => lN (inp x9))))), (yX, .inl (cL, 16, .inr (.inl (fun x9 => lN (mx x9))))), (yP, .inl (cL, 3, .inr (.inl (fun x9 => lN (el x9))))), (yQ, .inl (cL, 32, .inr (.inl (fun x9 => lN (qt x9))))), (yS, .inl (cL, 48, .inr (.inl (fun x9 => lN (su x9))))), (yD, .inl (cL, 32, .inr (.inl (fun x9 => lN (pr x9)))))]) := hD
      refine lv_aload_n F.1 F.2.1 dT_term_35 rfl (lv_at hl 0 rfl) ?_
      refine z_get F hK hP hinT 0 rfl rfl 0 (by decide) rfl wf_T_34 rfl dT_term_36 ?_
      refine z_if_le F (by omega) (tgt := 44) dT_term_39 rfl (fun h => absurd h (by decide)) (fun h => ?_)
      refine z_iconst (v := 0) F (by decide) dT_term_42 ?_
      exact W.iret F.1 F.2.1 hr (fun t ht hW => ⟨rfl, by rw [ht]; exact hP, va_K.moved hW.alike hK, hD, hS.F ht⟩) hS.2.2 dT_term_43
  | true =>
    rw [h9, Bool.true_and] at hq
    obtain ⟨x, hx, rfl⟩ := bl_of h9 (by decide)
    have hl : lv_has ls 5 [(0, .ref y0), (1, .int (nI x)), (2, .int y), (3, .int z)] := hl
    clear h9
    refine lv_aload_n F.1 F.2.1 dT_term_0 rfl (lv_at hl 0 rfl) ?_
    refine lv_iload_n F.1 F.2.1 dT_term_1 rfl (lv_at hl 1 rfl) ?_
    refine lv_if_lt F.1 F.2.1 (tgt := 27) dT_term_2 rfl (fun h => absurd h (nI_pos (by omega))) (fun h => ?_)
    refine lv_iload_n F.1 F.2.1 dT_term_5 rfl (lv_at hl 1 rfl) ?_
    refine z_iconst (v := 2) F (by decide) dT_term_6 ?_
    refine z_icmp_gt F (by omega) (by omega) (tgt := 27) dT_term_7 rfl (fun h => absurd h (by omega)) (fun h => ?_)
    cases h9 : bl y 16 with
    | false =>
      refine lv_iload_n F.1 F.2.1 dT_term_10 rfl (lv_at hl 2 rfl) ?_
      refine lv_if_lt F.1 F.2.1 (tgt := 27) dT_term_11 rfl (fun h1 => ?_) (fun h1 => ?_)
      · refine z_iconst (v := 1) F (by decide) dT_term_27 ?_
        refine lv_goto F.1 F.2.1 (tgt := 32) dT_term_28 rfl ?_
        refine z_put F hK hP hD hS hinT tyT tyT_ok nmT 0 rfl rfl 0 (by decide) rfl rfl wf_T_34 (rfl) (rfl) (Nat.le_of_ble_eq_true rfl) dT_term_32 (fun H locs hP hD hS => ?_)
        have hP : va_P (dC, dI) vwCl ([(y0, .inr (5, [.int (nI 1), .ref yR, .int (nI cn), .int (nI pb), .ref yV, .ref yI, .int (z_b md), .long (lN ta), .long (lN al), .long (lN be), .long (lN ga), .long (lN de), .long (lN va), .ref yX, .int (z_b pd), .ref yP, .ref yQ, .ref yS, .ref yD])), (yR, .inl (cL, 816, .inr (.inl (fun x9 => lN (f x9))))), (yV, .inl (cL, 16, .inr (.inl (fun x9 => lN (v x9))))), (yI, .inl (cL, 16, .inr (.inl (fun x9 => lN (inp x9))))), (yX, .inl (cL, 16, .inr (.inl (fun x9 => lN (mx x9))))), (yP, .inl (cL, 3, .inr (.inl (fun x9 => lN (el x9))))), (yQ, .inl (cL, 32, .inr (.inl (fun x9 => lN (qt x9))))), (yS, .inl (cL, 48, .inr (.inl (fun x9 => lN (su x9))))), (yD, .inl (cL, 32, .inr (.inl (fun x9 => lN (pr x9)))))]) H := hP
        have hD : va_D A ([(y0, .inr (5, [.int (nI 1), .ref yR, .int (nI cn), .int (nI pb), .ref yV, .ref yI, .int (z_b md), .long (lN ta), .long (lN al), .long (lN be), .long (lN ga), .long (lN de), .long (lN va), .ref yX, .int (z_b pd), .ref yP, .ref yQ, .ref yS, .ref yD])), (yR, .inl (cL, 816, .inr (.inl (fun x9 => lN (f x9))))), (yV, .inl (cL, 16, .inr (.inl (fun x9 => lN (v x9))))), (yI, .inl (cL, 16, .inr (.inl (fun x9 => lN (inp x9))))), (yX, .inl (cL, 16, .inr (.inl (fun x9 => lN (mx x9))))), (yP, .inl (cL, 3, .inr (.inl (fun x9 => lN (el x9))))), (yQ, .inl (cL, 32, .inr (.inl (fun x9 => lN (qt x9))))), (yS, .inl (cL, 48, .inr (.inl (fun x9 => lN (su x9))))), (yD, .inl (cL, 32, .inr (.inl (fun x9 => lN (pr x9)))))]) := hD
        refine lv_aload_n F.1 F.2.1 dT_term_35 rfl (lv_at hl 0 rfl) ?_
        refine z_get F hK hP hinT 0 rfl rfl 0 (by decide) rfl wf_T_34 rfl dT_term_36 ?_
        refine z_if_le F (by omega) (tgt := 44) dT_term_39 rfl (fun h => absurd h (by decide)) (fun h => ?_)
        refine z_iconst (v := 0) F (by decide) dT_term_42 ?_
        exact W.iret F.1 F.2.1 hr (fun t ht hW => ⟨rfl, by rw [ht]; exact hP, va_K.moved hW.alike hK, hD, hS.F ht⟩) hS.2.2 dT_term_43
      · obtain ⟨j9, hj9, rfl⟩ := nI_of h1
        have hl : lv_has ls 5 [(0, .ref y0), (1, .int (nI x)), (2, .int (nI j9)), (3, .int z)] := hl
        rw [bl_nI _ hj9] at h9
        have h8 := of_decide_eq_false h9
        refine lv_iload_n F.1 F.2.1 dT_term_14 rfl (lv_at hl 2 rfl) ?_
        refine z_bipush (v := 15) F (by decide) dT_term_15 ?_
        refine z_icmp_gt F (by omega) (by omega) (tgt := 27) dT_term_17 rfl (fun h => ?_) (fun h => absurd h (by omega))
        refine z_iconst (v := 1) F (by decide) dT_term_27 ?_
        refine lv_goto F.1 F.2.1 (tgt := 32) dT_term_28 rfl ?_
        refine z_put F hK hP hD hS hinT tyT tyT_ok nmT 0 rfl rfl 0 (by decide) rfl rfl wf_T_34 (rfl) (rfl) (Nat.le_of_ble_eq_true rfl) dT_term_32 (fun H locs hP hD hS => ?_)
        have hP : va_P (dC, dI) vwCl ([(y0, .inr (5, [.int (nI 1), .ref yR, .int (nI cn), .int (nI pb), .ref yV, .ref yI, .int (z_b md), .long (lN ta), .long (lN al), .long (lN be), .long (lN ga), .long (lN de), .long (lN va), .ref yX, .int (z_b pd), .ref yP, .ref yQ, .ref yS, .ref yD])), (yR, .inl (cL, 816, .inr (.inl (fun x9 => lN (f x9))))), (yV, .inl (cL, 16, .inr (.inl (fun x9 => lN (v x9))))), (yI, .inl (cL, 16, .inr (.inl (fun x9 => lN (inp x9))))), (yX, .inl (cL, 16, .inr (.inl (fun x9 => lN (mx x9))))), (yP, .inl (cL, 3, .inr (.inl (fun x9 => lN (el x9))))), (yQ, .inl (cL, 32, .inr (.inl (fun x9 => lN (qt x9))))), (yS, .inl (cL, 48, .inr (.inl (fun x9 => lN (su x9))))), (yD, .inl (cL, 32, .inr (.inl (fun x9 => lN (pr x9)))))]) H := hP
        have hD : va_D A ([(y0, .inr (5, [.int (nI 1), .ref yR, .int (nI cn), .int (nI pb), .ref yV, .ref yI, .int (z_b md), .long (lN ta), .long (lN al), .long (lN be), .long (lN ga), .long (lN de), .long (lN va), .ref yX, .int (z_b pd), .ref yP, .ref yQ, .ref yS, .ref yD])), (yR, .inl (cL, 816, .inr (.inl (fun x9 => lN (f x9))))), (yV, .inl (cL, 16, .inr (.inl (fun x9 => lN (v x9))))), (yI, .inl (cL, 16, .inr (.inl (fun x9 => lN (inp x9))))), (yX, .inl (cL, 16, .inr (.inl (fun x9 => lN (mx x9))))), (yP, .inl (cL, 3, .inr (.inl (fun x9 => lN (el x9))))), (yQ, .inl (cL, 32, .inr (.inl (fun x9 => lN (qt x9))))), (yS, .inl (cL, 48, .inr (.inl (fun x9 => lN (su x9))))), (yD, .inl (cL, 32, .inr (.inl (fun x9 => lN (pr x9)))))]) := hD
        refine lv_aload_n F.1 F.2.1 dT_term_35 rfl (lv_at hl 0 rfl) ?_
        refine z_get F hK hP hinT 0 rfl rfl 0 (by decide) rfl wf_T_34 rfl dT_term_36 ?_
        refine z_if_le F (by omega) (tgt := 44) dT_term_39 rfl (fun h => absurd h (by decide)) (fun h => ?_)
        refine z_iconst (v := 0) F (by decide) dT_term_42 ?_
        exact W.iret F.1 F.2.1 hr (fun t ht hW => ⟨rfl, by rw [ht]; exact hP, va_K.moved hW.alike hK, hD, hS.F ht⟩) hS.2.2 dT_term_43
    | true =>
      rw [h9, Bool.true_and] at hq
      obtain ⟨y, hy, rfl⟩ := bl_of h9 (by decide)
      have hl : lv_has ls 5 [(0, .ref y0), (1, .int (nI x)), (2, .int (nI y)), (3, .int z)] := hl
      clear h9
      refine lv_iload_n F.1 F.2.1 dT_term_10 rfl (lv_at hl 2 rfl) ?_
      refine lv_if_lt F.1 F.2.1 (tgt := 27) dT_term_11 rfl (fun h => absurd h (nI_pos (by omega))) (fun h => ?_)
      refine lv_iload_n F.1 F.2.1 dT_term_14 rfl (lv_at hl 2 rfl) ?_
      refine z_bipush (v := 15) F (by decide) dT_term_15 ?_
      refine z_icmp_gt F (by omega) (by omega) (tgt := 27) dT_term_17 rfl (fun h => absurd h (by omega)) (fun h => ?_)
      cases h9 : bl z 998244353 with
      | false =>
        refine lv_iload_n F.1 F.2.1 dT_term_20 rfl (lv_at hl 3 rfl) ?_
        refine z_call (z_runS [.int z] [.ref y0] F (ct_isNumber l z) kk_T_isNumber wl_T_49 rfl rfl ⟨Nat.le_of_ble_eq_true rfl, Nat.le_of_ble_eq_true rfl⟩ z_preN rfl hl.1 rfl (Nat.le_of_ble_eq_true rfl) dT_term_21 ⟨Nat.zero_le _, Nat.zero_le _⟩) ?_
        refine z_ifb_ne F (tgt := 31) dT_term_24 rfl (fun h => by rw [h9] at h; cases h) (fun h => ?_)
        refine z_iconst (v := 1) F (by decide) dT_term_27 ?_
        refine lv_goto F.1 F.2.1 (tgt := 32) dT_term_28 rfl ?_
        refine z_put F hK hP hD hS hinT tyT tyT_ok nmT 0 rfl rfl 0 (by decide) rfl rfl wf_T_34 (rfl) (rfl) (Nat.le_of_ble_eq_true rfl) dT_term_32 (fun H locs hP hD hS => ?_)
        have hP : va_P (dC, dI) vwCl ([(y0, .inr (5, [.int (nI 1), .ref yR, .int (nI cn), .int (nI pb), .ref yV, .ref yI, .int (z_b md), .long (lN ta), .long (lN al), .long (lN be), .long (lN ga), .long (lN de), .long (lN va), .ref yX, .int (z_b pd), .ref yP, .ref yQ, .ref yS, .ref yD])), (yR, .inl (cL, 816, .inr (.inl (fun x9 => lN (f x9))))), (yV, .inl (cL, 16, .inr (.inl (fun x9 => lN (v x9))))), (yI, .inl (cL, 16, .inr (.inl (fun x9 => lN (inp x9))))), (yX, .inl (cL, 16, .inr (.inl (fun x9 => lN (mx x9))))), (yP, .inl (cL, 3, .inr (.inl (fun x9 => lN (el x9))))), (yQ, .inl (cL, 32, .inr (.inl (fun x9 => lN (qt x9))))), (yS, .inl (cL, 48, .inr (.inl (fun x9 => lN (su x9))))), (yD, .inl (cL, 32, .inr (.inl (fun x9 => lN (pr x9)))))]) H := hP
        have hD : va_D A ([(y0, .inr (5, [.int (nI 1), .ref yR, .int (nI cn), .int (nI pb), .ref yV, .ref yI, .int (z_b md), .long (lN ta), .long (lN al), .long (lN be), .long (lN ga), .long (lN de), .long (lN va), .ref yX, .int (z_b pd), .ref yP, .ref yQ, .ref yS, .ref yD])), (yR, .inl (cL, 816, .inr (.inl (fun x9 => lN (f x9))))), (yV, .inl (cL, 16, .inr (.inl (fun x9 => lN (v x9))))), (yI, .inl (cL, 16, .inr (.inl (fun x9 => lN (inp x9))))), (yX, .inl (cL, 16, .inr (.inl (fun x9 => lN (mx x9))))), (yP, .inl (cL, 3, .inr (.inl (fun x9 => lN (el x9))))), (yQ, .inl (cL, 32, .inr (.inl (fun x9 => lN (qt x9))))), (yS, .inl (cL, 48, .inr (.inl (fun x9 => lN (su x9))))), (yD, .inl (cL, 32, .inr (.inl (fun x9 => lN (pr x9)))))]) := hD
        refine lv_aload_n F.1 F.2.1 dT_term_35 rfl (lv_at hl 0 rfl) ?_
        refine z_get F hK hP hinT 0 rfl rfl 0 (by decide) rfl wf_T_34 rfl dT_term_36 ?_
        refine z_if_le F (by omega) (tgt := 44) dT_term_39 rfl (fun h => absurd h (by decide)) (fun h => ?_)
        refine z_iconst (v := 0) F (by decide) dT_term_42 ?_
        exact W.iret F.1 F.2.1 hr (fun t ht hW => ⟨rfl, by rw [ht]; exact hP, va_K.moved hW.alike hK, hD, hS.F ht⟩) hS.2.2 dT_term_43
      | true =>
        rw [h9] at hq
        cases hq
set_option maxHeartbeats 4000000 in
set_option maxRecDepth 100000 in
theorem ct_constraint (l : Launch) (dC : Nat → ClassId) (dI : Nat → Nat → Nat) (cI cL : ClassId) (zz : Nat) (y0 yR yV yI yX yP yQ yS yD : Nat) (th cn pb ta al be ga de va : Nat) (md pd : Bool) (f v inp mx el qt su pr : Nat → Nat) (hn : cn < 16) : Met l yT_constraint (zW yT_constraint cT_constraint 2 (.some .int)) ({ frames := 0, cells := 0, slots := 0, locals := 0 }) (va_Pc [.ref y0] (z_P (dC, dI) vwCl [(cI, .int), (cL, .long)] zz ([(y0, .inr (5, [.int (nI th), .ref yR, .int (nI cn), .int (nI pb), .ref yV, .ref yI, .int (z_b md), .long (lN ta), .long (lN al), .long (lN be), .long (lN ga), .long (lN de), .long (lN va), .ref yX, .int (z_b pd), .ref yP, .ref yQ, .ref yS, .ref yD])), (yR, .inl (cL, 816, .inr (.inl (fun x9 => lN (f x9))))), (yV, .inl (cL, 16, .inr (.inl (fun x9 => lN (v x9))))), (yI, .inl (cL, 16, .inr (.inl (fun x9 => lN (inp x9))))), (yX, .inl (cL, 16, .inr (.inl (fun x9 => lN (mx x9))))), (yP, .inl (cL, 3, .inr (.inl (fun x9 => lN (el x9))))), (yQ, .inl (cL, 32, .inr (.inl (fun x9 => lN (qt x9))))), (yS, .inl (cL, 48, .inr (.inl (fun x9 => lN (su x9))))), (yD, .inl (cL, 32, .inr (.inl (fun x9 => lN (pr x9)))))]))) (z_Q (dC, dI) vwCl [(cI, .int), (cL, .long)] (some (.int (nI cn))) ([(y0, .inr (5, [.int (nI 0), .ref yR, .int (nI (cn + 1)), .int (nI pb), .ref yV, .ref yI, .int (z_b false), .long (lN ta), .long (lN al), .long (lN be), .long (lN ga), .long (lN de), .long (lN va), .ref yX, .int (z_b pd), .ref yP, .ref yQ, .ref yS, .ref yD])), (yR, .inl (cL, 816, .inr (.inl (fun x9 => lN (((fun t => if 48 * (cn + 1) ≤ t ∧ t < 48 * (cn + 1) + 48 then 0 else f t)) x9))))), (yV, .inl (cL, 16, .inr (.inl (fun x9 => lN (v x9))))), (yI, .inl (cL, 16, .inr (.inl (fun x9 => lN (inp x9))))), (yX, .inl (cL, 16, .inr (.inl (fun x9 => lN (mx x9))))), (yP, .inl (cL, 3, .inr (.inl (fun x9 => lN (el x9))))), (yQ, .inl (cL, 32, .inr (.inl (fun x9 => lN (qt x9))))), (yS, .inl (cL, 48, .inr (.inl (fun x9 => lN (su x9))))), (yD, .inl (cL, 32, .inr (.inl (fun x9 => lN (pr x9)))))]) (va_A ([(y0, .inr (5, [.int (nI th), .ref yR, .int (nI cn), .int (nI pb), .ref yV, .ref yI, .int (z_b md), .long (lN ta), .long (lN al), .long (lN be), .long (lN ga), .long (lN de), .long (lN va), .ref yX, .int (z_b pd), .ref yP, .ref yQ, .ref yS, .ref yD])), (yR, .inl (cL, 816, .inr (.inl (fun x9 => lN (f x9))))), (yV, .inl (cL, 16, .inr (.inl (fun x9 => lN (v x9))))), (yI, .inl (cL, 16, .inr (.inl (fun x9 => lN (inp x9))))), (yX, .inl (cL, 16, .inr (.inl (fun x9 => lN (mx x9))))), (yP, .inl (cL, 3, .inr (.inl (fun x9 => lN (el x9))))), (yQ, .inl (cL, 32, .inr (.inl (fun x9 => lN (qt x9))))), (yS, .inl (cL, 48, .inr (.inl (fun x9 => lN (su x9))))), (yD, .inl (cL, 32, .inr (.inl (fun x9 => lN (pr x9)))))]) zz)) 0 0 (va_A ([(y0, .inr (5, [.int (nI th), .ref yR, .int (nI cn), .int (nI pb), .ref yV, .ref yI, .int (z_b md), .long (lN ta), .long (lN al), .long (lN be), .long (lN ga), .long (lN de), .long (lN va), .ref yX, .int (z_b pd), .ref yP, .ref yQ, .ref yS, .ref yD])), (yR, .inl (cL, 816, .inr (.inl (fun x9 => lN (f x9))))), (yV, .inl (cL, 16, .inr (.inl (fun x9 => lN (v x9))))), (yI, .inl (cL, 16, .inr (.inl (fun x9 => lN (inp x9))))), (yX, .inl (cL, 16, .inr (.inl (fun x9 => lN (mx x9))))), (yP, .inl (cL, 3, .inr (.inl (fun x9 => lN (el x9))))), (yQ, .inl (cL, 32, .inr (.inl (fun x9 => lN (qt x9))))), (yS, .inl (cL, 48, .inr (.inl (fun x9 => lN (su x9))))), (yD, .inl (cL, 32, .inr (.inl (fun x9 => lN (pr x9)))))]) zz) := by
  refine Met.ofW (cc := cT_constraint) (maxL := 2) (ret := (.some .int)) (by decide) rfl ?_
  intro p e s m args below meth c s₁ B hml hv
  obtain ⟨rfl, hsz, hP, hK, hD0⟩ := hv
  have F : CallFix p m c cT_constraint 2 s _ zT RT := ⟨B.exec, B.bytes, hml, findClass_of_methodNamed B.named, fun w h => atoms_spec (ws := (zW yT_constraint cT_constraint 2 (.some .int))) B.pre w (List.mem_cons_of_mem _ h)⟩
  have hr := B.returns
  have hlocks := B.notSynchronized
  subst hsz
  have hD := hD0.self (sz := s.heap.size)
  generalize hAe : va_A ([(y0, .inr (5, [.int (nI th), .ref yR, .int (nI cn), .int (nI pb), .ref yV, .ref yI, .int (z_b md), .long (lN ta), .long (lN al), .long (lN be), .long (lN ga), .long (lN de), .long (lN va), .ref yX, .int (z_b pd), .ref yP, .ref yQ, .ref yS, .ref yD])), (yR, .inl (cL, 816, .inr (.inl (fun x9 => lN (f x9))))), (yV, .inl (cL, 16, .inr (.inl (fun x9 => lN (v x9))))), (yI, .inl (cL, 16, .inr (.inl (fun x9 => lN (inp x9))))), (yX, .inl (cL, 16, .inr (.inl (fun x9 => lN (mx x9))))), (yP, .inl (cL, 3, .inr (.inl (fun x9 => lN (el x9))))), (yQ, .inl (cL, 32, .inr (.inl (fun x9 => lN (qt x9))))), (yS, .inl (cL, 48, .inr (.inl (fun x9 => lN (su x9))))), (yD, .inl (cL, 32, .inr (.inl (fun x9 => lN (pr x9)))))]) s.heap.size = A at hD ⊢
  have hAA : ∀ q : Nat, s.heap.size ≤ q → A q := fun q h => by rw [← hAe]; exact Or.inr h
  have hS : va_S A s.heap s.heap [] := va_S.rf
  have hl := lv_entry ([.ref y0]) (n := 2) (Nat.le_of_ble_eq_true rfl)
  rw [lg_entry_eq]
  generalize (lg_sl ([.ref y0]) ++ List.replicate (2 - (lg_sl ([.ref y0])).length) Slot.unset).toArray = ls at hl ⊢
  have hl : lv_has ls 2 [(0, .ref y0)] := hl
  refine lv_aload_n F.1 F.2.1 dT_constraint_0 rfl (lv_at hl 0 rfl) ?_
  refine lv_aload_n F.1 F.2.1 dT_constraint_1 rfl (lv_at hl 0 rfl) ?_
  refine z_get F hK hP hinT 0 rfl rfl 2 (by decide) rfl wf_T_46 rfl dT_constraint_2 ?_
  refine z_bipush (v := 16) F (by decide) dT_constraint_5 ?_
  refine z_icmp_ne F (by omega) (by omega) (tgt := 14) dT_constraint_7 rfl (fun h => ?_) (fun h => absurd h (by omega))
  refine z_iconst (v := 0) F (by decide) dT_constraint_14 ?_
  refine z_put F hK hP hD hS hinT tyT tyT_ok nmT 0 rfl rfl 0 (by decide) rfl rfl wf_T_34 (rfl) (rfl) (Nat.le_of_ble_eq_true rfl) dT_constraint_15 (fun H locs hP hD hS => ?_)
  have hP : va_P (dC, dI) vwCl ([(y0, .inr (5, [.int (nI 0), .ref yR, .int (nI cn), .int (nI pb), .ref yV, .ref yI, .int (z_b md), .long (lN ta), .long (lN al), .long (lN be), .long (lN ga), .long (lN de), .long (lN va), .ref yX, .int (z_b pd), .ref yP, .ref yQ, .ref yS, .ref yD])), (yR, .inl (cL, 816, .inr (.inl (fun x9 => lN (f x9))))), (yV, .inl (cL, 16, .inr (.inl (fun x9 => lN (v x9))))), (yI, .inl (cL, 16, .inr (.inl (fun x9 => lN (inp x9))))), (yX, .inl (cL, 16, .inr (.inl (fun x9 => lN (mx x9))))), (yP, .inl (cL, 3, .inr (.inl (fun x9 => lN (el x9))))), (yQ, .inl (cL, 32, .inr (.inl (fun x9 => lN (qt x9))))), (yS, .inl (cL, 48, .inr (.inl (fun x9 => lN (su x9))))), (yD, .inl (cL, 32, .inr (.inl (fun x9 => lN (pr x9)))))]) H := hP
  have hD : va_D A ([(y0, .inr (5, [.int (nI 0), .ref yR, .int (nI cn), .int (nI pb), .ref yV, .ref yI, .int (z_b md), .long (lN ta), .long (lN al), .long (lN be), .long (lN ga), .long (lN de), .long (lN va), .ref yX, .int (z_b pd), .ref yP, .ref yQ, .ref yS, .ref yD])), (yR, .inl (cL, 816, .inr (.inl (fun x9 => lN (f x9))))), (yV, .inl (cL, 16, .inr (.inl (fun x9 => lN (v x9))))), (yI, .inl (cL, 16, .inr (.inl (fun x9 => lN (inp x9))))), (yX, .inl (cL, 16, .inr (.inl (fun x9 => lN (mx x9))))), (yP, .inl (cL, 3, .inr (.inl (fun x9 => lN (el x9))))), (yQ, .inl (cL, 32, .inr (.inl (fun x9 => lN (qt x9))))), (yS, .inl (cL, 48, .inr (.inl (fun x9 => lN (su x9))))), (yD, .inl (cL, 32, .inr (.inl (fun x9 => lN (pr x9)))))]) := hD
  refine lv_aload_n F.1 F.2.1 dT_constraint_18 rfl (lv_at hl 0 rfl) ?_
  refine z_get F hK hP hinT 0 rfl rfl 0 (by decide) rfl wf_T_34 rfl dT_constraint_19 ?_
  refine z_if_le F (by omega) (tgt := 27) dT_constraint_22 rfl (fun h => ?_) (fun h => absurd h (by decide))
  refine lv_aload_n F.1 F.2.1 dT_constraint_27 rfl (lv_at hl 0 rfl) ?_
  refine lv_dup F.1 F.2.1 dT_constraint_28 rfl ?_
  refine z_get F hK hP hinT 0 rfl rfl 2 (by decide) rfl wf_T_46 rfl dT_constraint_29 ?_
  refine z_iconst (v := 1) F (by decide) dT_constraint_32 ?_
  refine z_iadd F dT_constraint_33 ?_
  refine z_put F hK hP hD hS hinT tyT tyT_ok nmT 0 rfl rfl 2 (by decide) rfl rfl wf_T_46 (rfl) (rfl) (Nat.le_of_ble_eq_true rfl) dT_constraint_34 (fun H locs hP hD hS => ?_)
  have hP : va_P (dC, dI) vwCl ([(y0, .inr (5, [.int (nI 0), .ref yR, .int (nI (cn + 1)), .int (nI pb), .ref yV, .ref yI, .int (z_b md), .long (lN ta), .long (lN al), .long (lN be), .long (lN ga), .long (lN de), .long (lN va), .ref yX, .int (z_b pd), .ref yP, .ref yQ, .ref yS, .ref yD])), (yR, .inl (cL, 816, .inr (.inl (fun x9 => lN (f x9))))), (yV, .inl (cL, 16, .inr (.inl (fun x9 => lN (v x9))))), (yI, .inl (cL, 16, .inr (.inl (fun x9 => lN (inp x9))))), (yX, .inl (cL, 16, .inr (.inl (fun x9 => lN (mx x9))))), (yP, .inl (cL, 3, .inr (.inl (fun x9 => lN (el x9))))), (yQ, .inl (cL, 32, .inr (.inl (fun x9 => lN (qt x9))))), (yS, .inl (cL, 48, .inr (.inl (fun x9 => lN (su x9))))), (yD, .inl (cL, 32, .inr (.inl (fun x9 => lN (pr x9)))))]) H := hP
  have hD : va_D A ([(y0, .inr (5, [.int (nI 0), .ref yR, .int (nI (cn + 1)), .int (nI pb), .ref yV, .ref yI, .int (z_b md), .long (lN ta), .long (lN al), .long (lN be), .long (lN ga), .long (lN de), .long (lN va), .ref yX, .int (z_b pd), .ref yP, .ref yQ, .ref yS, .ref yD])), (yR, .inl (cL, 816, .inr (.inl (fun x9 => lN (f x9))))), (yV, .inl (cL, 16, .inr (.inl (fun x9 => lN (v x9))))), (yI, .inl (cL, 16, .inr (.inl (fun x9 => lN (inp x9))))), (yX, .inl (cL, 16, .inr (.inl (fun x9 => lN (mx x9))))), (yP, .inl (cL, 3, .inr (.inl (fun x9 => lN (el x9))))), (yQ, .inl (cL, 32, .inr (.inl (fun x9 => lN (qt x9))))), (yS, .inl (cL, 48, .inr (.inl (fun x9 => lN (su x9))))), (yD, .inl (cL, 32, .inr (.inl (fun x9 => lN (pr x9)))))]) := hD
  refine z_bipush (v := 48) F (by decide) dT_constraint_37 ?_
  refine lv_aload_n F.1 F.2.1 dT_constraint_39 rfl (lv_at hl 0 rfl) ?_
  refine z_get F hK hP hinT 0 rfl rfl 2 (by decide) rfl wf_T_46 rfl dT_constraint_40 ?_
  refine z_imul F dT_constraint_43 ?_
  refine lv_istore_n F.1 F.2.1 (lv' := [(1, .int (nI (48 * (cn + 1)))), (0, .ref y0)]) dT_constraint_44 rfl hl (by decide) rfl (fun ls hl => ?_)
  have hl : lv_has ls 2 [(1, .int (nI (48 * (cn + 1) + 0))), (0, .ref y0)] := lv_sub hl [0, 1] rfl
  refine z_up (E := 48) (P := fun u => ∀ (o : Nat → Nat) (ls : Array Slot) (H : Heap) (locs : List Loc), (∀ t, 48 * (cn + 1) ≤ t → t < 48 * (cn + 1) + u → o t = 0) → (∀ t, t < 48 * (cn + 1) ∨ 48 * (cn + 1) + u ≤ t → o t = f t) → va_P (dC, dI) vwCl ([(y0, .inr (5, [.int (nI 0), .ref yR, .int (nI (cn + 1)), .int (nI pb), .ref yV, .ref yI, .int (z_b md), .long (lN ta), .long (lN al), .long (lN be), .long (lN ga), .long (lN de), .long (lN va), .ref yX, .int (z_b pd), .ref yP, .ref yQ, .ref yS, .ref yD])), (yR, .inl (cL, 816, .inr (.inl (fun x9 => lN (o x9))))), (yV, .inl (cL, 16, .inr (.inl (fun x9 => lN (v x9))))), (yI, .inl (cL, 16, .inr (.inl (fun x9 => lN (inp x9))))), (yX, .inl (cL, 16, .inr (.inl (fun x9 => lN (mx x9))))), (yP, .inl (cL, 3, .inr (.inl (fun x9 => lN (el x9))))), (yQ, .inl (cL, 32, .inr (.inl (fun x9 => lN (qt x9))))), (yS, .inl (cL, 48, .inr (.inl (fun x9 => lN (su x9))))), (yD, .inl (cL, 32, .inr (.inl (fun x9 => lN (pr x9)))))]) H → va_D A ([(y0, .inr (5, [.int (nI 0), .ref yR, .int (nI (cn + 1)), .int (nI pb), .ref yV, .ref yI, .int (z_b md), .long (lN ta), .long (lN al), .long (lN be), .long (lN ga), .long (lN de), .long (lN va), .ref yX, .int (z_b pd), .ref yP, .ref yQ, .ref yS, .ref yD])), (yR, .inl (cL, 816, .inr (.inl (fun x9 => lN (o x9))))), (yV, .inl (cL, 16, .inr (.inl (fun x9 => lN (v x9))))), (yI, .inl (cL, 16, .inr (.inl (fun x9 => lN (inp x9))))), (yX, .inl (cL, 16, .inr (.inl (fun x9 => lN (mx x9))))), (yP, .inl (cL, 3, .inr (.inl (fun x9 => lN (el x9))))), (yQ, .inl (cL, 32, .inr (.inl (fun x9 => lN (qt x9))))), (yS, .inl (cL, 48, .inr (.inl (fun x9 => lN (su x9))))), (yD, .inl (cL, 32, .inr (.inl (fun x9 => lN (pr x9)))))]) → va_S A s.heap H locs → lv_has ls 2 [(1, .int (nI (48 * (cn + 1) + u))), (0, .ref y0)] → W p l e _ s m _ below meth c H locs _ _ _ (F0 m 45 ls [])) ?_ 0 (Nat.zero_le _) f ls H locs (fun t _ _ => by omega) (fun _ _ => rfl) hP hD hS hl
  intro u hu ih o ls H locs h2 h3 hP hD hS hl
  refine lv_iload_n F.1 F.2.1 dT_constraint_45 rfl (lv_at hl 0 rfl) ?_
  refine z_bipush (v := 48) F (by decide) dT_constraint_46 ?_
  refine lv_aload_n F.1 F.2.1 dT_constraint_48 rfl (lv_at hl 1 rfl) ?_
  refine z_get F hK hP hinT 0 rfl rfl 2 (by decide) rfl wf_T_46 rfl dT_constraint_49 ?_
  refine z_imul F dT_constraint_52 ?_
  refine z_bipush (v := 48) F (by decide) dT_constraint_53 ?_
  refine z_iadd F dT_constraint_55 ?_
  refine z_icmp_ge F (by omega) (by omega) (tgt := 72) dT_constraint_56 rfl (fun h1 => ?_) (fun h1 => ?_)
  · have hP := z_fL (k := 1) (fun t => if 48 * (cn + 1) ≤ t ∧ t < 48 * (cn + 1) + 48 then 0 else f t) hP rfl (fun t ht => by by_cases e9 : 48 * (cn + 1) ≤ t ∧ t < 48 * (cn + 1) + 48; (rw [h2 t e9.1 (by omega)]; exact (if_pos e9).symm); (rw [h3 t (by omega)]; exact (if_neg e9).symm))
    have hD := hD.set (p := 1) (e := .inl (cL, 816, .inr (.inl (fun x9 => lN ((fun t => if 48 * (cn + 1) ≤ t ∧ t < 48 * (cn + 1) + 48 then 0 else f t) x9))))) rfl
    have hP : va_P (dC, dI) vwCl ([(y0, .inr (5, [.int (nI 0), .ref yR, .int (nI (cn + 1)), .int (nI pb), .ref yV, .ref yI, .int (z_b md), .long (lN ta), .long (lN al), .long (lN be), .long (lN ga), .long (lN de), .long (lN va), .ref yX, .int (z_b pd), .ref yP, .ref yQ, .ref yS, .ref yD])), (yR, .inl (cL, 816, .inr (.inl (fun x9 => lN (((fun t => if 48 * (cn + 1) ≤ t ∧ t < 48 * (cn + 1) + 48 then 0 else f t)) x9))))), (yV, .inl (cL, 16, .inr (.inl (fun x9 => lN (v x9))))), (yI, .inl (cL, 16, .inr (.inl (fun x9 => lN (inp x9))))), (yX, .inl (cL, 16, .inr (.inl (fun x9 => lN (mx x9))))), (yP, .inl (cL, 3, .inr (.inl (fun x9 => lN (el x9))))), (yQ, .inl (cL, 32, .inr (.inl (fun x9 => lN (qt x9))))), (yS, .inl (cL, 48, .inr (.inl (fun x9 => lN (su x9))))), (yD, .inl (cL, 32, .inr (.inl (fun x9 => lN (pr x9)))))]) H := hP
    have hD : va_D A ([(y0, .inr (5, [.int (nI 0), .ref yR, .int (nI (cn + 1)), .int (nI pb), .ref yV, .ref yI, .int (z_b md), .long (lN ta), .long (lN al), .long (lN be), .long (lN ga), .long (lN de), .long (lN va), .ref yX, .int (z_b pd), .ref yP, .ref yQ, .ref yS, .ref yD])), (yR, .inl (cL, 816, .inr (.inl (fun x9 => lN (((fun t => if 48 * (cn + 1) ≤ t ∧ t < 48 * (cn + 1) + 48 then 0 else f t)) x9))))), (yV, .inl (cL, 16, .inr (.inl (fun x9 => lN (v x9))))), (yI, .inl (cL, 16, .inr (.inl (fun x9 => lN (inp x9))))), (yX, .inl (cL, 16, .inr (.inl (fun x9 => lN (mx x9))))), (yP, .inl (cL, 3, .inr (.inl (fun x9 => lN (el x9))))), (yQ, .inl (cL, 32, .inr (.inl (fun x9 => lN (qt x9))))), (yS, .inl (cL, 48, .inr (.inl (fun x9 => lN (su x9))))), (yD, .inl (cL, 32, .inr (.inl (fun x9 => lN (pr x9)))))]) := hD
    refine lv_aload_n F.1 F.2.1 dT_constraint_72 rfl (lv_at hl 1 rfl) ?_
    refine z_iconst (v := 0) F (by decide) dT_constraint_73 ?_
    refine z_topV (z_b false) (by decide) ?_
    refine z_put F hK hP hD hS hinT tyT tyT_ok nmT 0 rfl rfl 6 (by decide) rfl rfl wf_T_53 (rfl) (rfl) (Nat.le_of_ble_eq_true rfl) dT_constraint_74 (fun H locs hP hD hS => ?_)
    have hP : va_P (dC, dI) vwCl ([(y0, .inr (5, [.int (nI 0), .ref yR, .int (nI (cn + 1)), .int (nI pb), .ref yV, .ref yI, .int (z_b false), .long (lN ta), .long (lN al), .long (lN be), .long (lN ga), .long (lN de), .long (lN va), .ref yX, .int (z_b pd), .ref yP, .ref yQ, .ref yS, .ref yD])), (yR, .inl (cL, 816, .inr (.inl (fun x9 => lN (((fun t => if 48 * (cn + 1) ≤ t ∧ t < 48 * (cn + 1) + 48 then 0 else f t)) x9))))), (yV, .inl (cL, 16, .inr (.inl (fun x9 => lN (v x9))))), (yI, .inl (cL, 16, .inr (.inl (fun x9 => lN (inp x9))))), (yX, .inl (cL, 16, .inr (.inl (fun x9 => lN (mx x9))))), (yP, .inl (cL, 3, .inr (.inl (fun x9 => lN (el x9))))), (yQ, .inl (cL, 32, .inr (.inl (fun x9 => lN (qt x9))))), (yS, .inl (cL, 48, .inr (.inl (fun x9 => lN (su x9))))), (yD, .inl (cL, 32, .inr (.inl (fun x9 => lN (pr x9)))))]) H := hP
    have hD : va_D A ([(y0, .inr (5, [.int (nI 0), .ref yR, .int (nI (cn + 1)), .int (nI pb), .ref yV, .ref yI, .int (z_b false), .long (lN ta), .long (lN al), .long (lN be), .long (lN ga), .long (lN de), .long (lN va), .ref yX, .int (z_b pd), .ref yP, .ref yQ, .ref yS, .ref yD])), (yR, .inl (cL, 816, .inr (.inl (fun x9 => lN (((fun t => if 48 * (cn + 1) ≤ t ∧ t < 48 * (cn + 1) + 48 then 0 else f t)) x9))))), (yV, .inl (cL, 16, .inr (.inl (fun x9 => lN (v x9))))), (yI, .inl (cL, 16, .inr (.inl (fun x9 => lN (inp x9))))), (yX, .inl (cL, 16, .inr (.inl (fun x9 => lN (mx x9))))), (yP, .inl (cL, 3, .inr (.inl (fun x9 => lN (el x9))))), (yQ, .inl (cL, 32, .inr (.inl (fun x9 => lN (qt x9))))), (yS, .inl (cL, 48, .inr (.inl (fun x9 => lN (su x9))))), (yD, .inl (cL, 32, .inr (.inl (fun x9 => lN (pr x9)))))]) := hD
    refine lv_aload_n F.1 F.2.1 dT_constraint_77 rfl (lv_at hl 1 rfl) ?_
    refine z_get F hK hP hinT 0 rfl rfl 2 (by decide) rfl wf_T_46 rfl dT_constraint_78 ?_
    refine z_iconst (v := 1) F (by decide) dT_constraint_81 ?_
    refine z_isub F (by omega) dT_constraint_82 ?_
    refine z_top cn (by omega) ?_
    exact W.iret F.1 F.2.1 hr (fun t ht hW => ⟨rfl, by rw [ht]; exact hP, va_K.moved hW.alike hK, hD, hS.F ht⟩) hS.2.2 dT_constraint_83
  · refine lv_aload_n F.1 F.2.1 dT_constraint_59 rfl (lv_at hl 1 rfl) ?_
    refine z_get F hK hP hinT 0 rfl rfl 1 (by decide) rfl wf_T_7 rfl dT_constraint_60 ?_
    refine lv_iload_n F.1 F.2.1 dT_constraint_63 rfl (lv_at hl 0 rfl) ?_
    refine z_lconst (v := 0) F (by decide) dT_constraint_64 ?_
    refine z_last F hK hP hD hS 1 1 rfl rfl (by omega) (by decide) dT_constraint_65 (fun H locs hP hD hS => ?_)
    have hP : va_P (dC, dI) vwCl ([(y0, .inr (5, [.int (nI 0), .ref yR, .int (nI (cn + 1)), .int (nI pb), .ref yV, .ref yI, .int (z_b md), .long (lN ta), .long (lN al), .long (lN be), .long (lN ga), .long (lN de), .long (lN va), .ref yX, .int (z_b pd), .ref yP, .ref yQ, .ref yS, .ref yD])), (yR, .inl (cL, 816, .inr (.inl (fun x9 => lN ((va_up o (48 * (cn + 1) + u) 0) x9))))), (yV, .inl (cL, 16, .inr (.inl (fun x9 => lN (v x9))))), (yI, .inl (cL, 16, .inr (.inl (fun x9 => lN (inp x9))))), (yX, .inl (cL, 16, .inr (.inl (fun x9 => lN (mx x9))))), (yP, .inl (cL, 3, .inr (.inl (fun x9 => lN (el x9))))), (yQ, .inl (cL, 32, .inr (.inl (fun x9 => lN (qt x9))))), (yS, .inl (cL, 48, .inr (.inl (fun x9 => lN (su x9))))), (yD, .inl (cL, 32, .inr (.inl (fun x9 => lN (pr x9)))))]) H := hP
    have hD : va_D A ([(y0, .inr (5, [.int (nI 0), .ref yR, .int (nI (cn + 1)), .int (nI pb), .ref yV, .ref yI, .int (z_b md), .long (lN ta), .long (lN al), .long (lN be), .long (lN ga), .long (lN de), .long (lN va), .ref yX, .int (z_b pd), .ref yP, .ref yQ, .ref yS, .ref yD])), (yR, .inl (cL, 816, .inr (.inl (fun x9 => lN ((va_up o (48 * (cn + 1) + u) 0) x9))))), (yV, .inl (cL, 16, .inr (.inl (fun x9 => lN (v x9))))), (yI, .inl (cL, 16, .inr (.inl (fun x9 => lN (inp x9))))), (yX, .inl (cL, 16, .inr (.inl (fun x9 => lN (mx x9))))), (yP, .inl (cL, 3, .inr (.inl (fun x9 => lN (el x9))))), (yQ, .inl (cL, 32, .inr (.inl (fun x9 => lN (qt x9))))), (yS, .inl (cL, 48, .inr (.inl (fun x9 => lN (su x9))))), (yD, .inl (cL, 32, .inr (.inl (fun x9 => lN (pr x9)))))]) := hD
    refine lv_iinc F.1 F.2.1 (k := 0) (v := nI (48 * (cn + 1) + u + 1)) (lv' := [(1, .int (nI (48 * (cn + 1) + u + 1))), (0, .ref y0)]) dT_constraint_66 hl rfl (nI_1 (48 * (cn + 1) + u)) (by decide) rfl (fun ls hl => ?_)
    refine lv_goto F.1 F.2.1 (tgt := 45) dT_constraint_69 rfl ?_
    have hl : lv_has ls 2 [(1, .int (nI (48 * (cn + 1) + (u + 1)))), (0, .ref y0)] := hl
    have hl : lv_has ls 2 [(1, .int (nI (48 * (cn + 1) + (u + 1)))), (0, .ref y0)] := lv_sub hl [0, 1] rfl
    exact ih (by omega) (va_up o (48 * (cn + 1) + u) 0) ls H locs (fun t h8 h9 => by by_cases e9 : t = 48 * (cn + 1) + u; (rw [e9, up_at]); (rw [up_ne _ _ e9]; exact h2 t h8 (by omega))) (fun t ht => by rw [up_ne _ _ (by omega)]; exact h3 t (by omega)) hP hD hS hl
set_option maxHeartbeats 4000000 in
set_option maxRecDepth 100000 in
theorem ct_constraint_no (l : Launch) (dC : Nat → ClassId) (dI : Nat → Nat → Nat) (cI cL : ClassId) (zz : Nat) (y0 yR yV yI yX yP yQ yS yD : Nat) (th cn pb ta al be ga de va : Nat) (md pd : Bool) (f v inp mx el qt su pr : Nat → Nat) (hn : cn = 16) : Met l yT_constraint (zW yT_constraint cT_constraint 2 (.some .int)) ({ frames := 0, cells := 0, slots := 0, locals := 0 }) (va_Pc [.ref y0] (z_P (dC, dI) vwCl [(cI, .int), (cL, .long)] zz ([(y0, .inr (5, [.int (nI th), .ref yR, .int (nI cn), .int (nI pb), .ref yV, .ref yI, .int (z_b md), .long (lN ta), .long (lN al), .long (lN be), .long (lN ga), .long (lN de), .long (lN va), .ref yX, .int (z_b pd), .ref yP, .ref yQ, .ref yS, .ref yD])), (yR, .inl (cL, 816, .inr (.inl (fun x9 => lN (f x9))))), (yV, .inl (cL, 16, .inr (.inl (fun x9 => lN (v x9))))), (yI, .inl (cL, 16, .inr (.inl (fun x9 => lN (inp x9))))), (yX, .inl (cL, 16, .inr (.inl (fun x9 => lN (mx x9))))), (yP, .inl (cL, 3, .inr (.inl (fun x9 => lN (el x9))))), (yQ, .inl (cL, 32, .inr (.inl (fun x9 => lN (qt x9))))), (yS, .inl (cL, 48, .inr (.inl (fun x9 => lN (su x9))))), (yD, .inl (cL, 32, .inr (.inl (fun x9 => lN (pr x9)))))]))) (z_Q (dC, dI) vwCl [(cI, .int), (cL, .long)] (some (.int (nI 0))) ([(y0, .inr (5, [.int (nI 1), .ref yR, .int (nI cn), .int (nI pb), .ref yV, .ref yI, .int (z_b md), .long (lN ta), .long (lN al), .long (lN be), .long (lN ga), .long (lN de), .long (lN va), .ref yX, .int (z_b pd), .ref yP, .ref yQ, .ref yS, .ref yD])), (yR, .inl (cL, 816, .inr (.inl (fun x9 => lN (f x9))))), (yV, .inl (cL, 16, .inr (.inl (fun x9 => lN (v x9))))), (yI, .inl (cL, 16, .inr (.inl (fun x9 => lN (inp x9))))), (yX, .inl (cL, 16, .inr (.inl (fun x9 => lN (mx x9))))), (yP, .inl (cL, 3, .inr (.inl (fun x9 => lN (el x9))))), (yQ, .inl (cL, 32, .inr (.inl (fun x9 => lN (qt x9))))), (yS, .inl (cL, 48, .inr (.inl (fun x9 => lN (su x9))))), (yD, .inl (cL, 32, .inr (.inl (fun x9 => lN (pr x9)))))]) (va_A ([(y0, .inr (5, [.int (nI th), .ref yR, .int (nI cn), .int (nI pb), .ref yV, .ref yI, .int (z_b md), .long (lN ta), .long (lN al), .long (lN be), .long (lN ga), .long (lN de), .long (lN va), .ref yX, .int (z_b pd), .ref yP, .ref yQ, .ref yS, .ref yD])), (yR, .inl (cL, 816, .inr (.inl (fun x9 => lN (f x9))))), (yV, .inl (cL, 16, .inr (.inl (fun x9 => lN (v x9))))), (yI, .inl (cL, 16, .inr (.inl (fun x9 => lN (inp x9))))), (yX, .inl (cL, 16, .inr (.inl (fun x9 => lN (mx x9))))), (yP, .inl (cL, 3, .inr (.inl (fun x9 => lN (el x9))))), (yQ, .inl (cL, 32, .inr (.inl (fun x9 => lN (qt x9))))), (yS, .inl (cL, 48, .inr (.inl (fun x9 => lN (su x9))))), (yD, .inl (cL, 32, .inr (.inl (fun x9 => lN (pr x9)))))]) zz)) 0 0 (va_A ([(y0, .inr (5, [.int (nI th), .ref yR, .int (nI cn), .int (nI pb), .ref yV, .ref yI, .int (z_b md), .long (lN ta), .long (lN al), .long (lN be), .long (lN ga), .long (lN de), .long (lN va), .ref yX, .int (z_b pd), .ref yP, .ref yQ, .ref yS, .ref yD])), (yR, .inl (cL, 816, .inr (.inl (fun x9 => lN (f x9))))), (yV, .inl (cL, 16, .inr (.inl (fun x9 => lN (v x9))))), (yI, .inl (cL, 16, .inr (.inl (fun x9 => lN (inp x9))))), (yX, .inl (cL, 16, .inr (.inl (fun x9 => lN (mx x9))))), (yP, .inl (cL, 3, .inr (.inl (fun x9 => lN (el x9))))), (yQ, .inl (cL, 32, .inr (.inl (fun x9 => lN (qt x9))))), (yS, .inl (cL, 48, .inr (.inl (fun x9 => lN (su x9))))), (yD, .inl (cL, 32, .inr (.inl (fun x9 => lN (pr x9)))))]) zz) := by
  refine Met.ofW (cc := cT_constraint) (maxL := 2) (ret := (.some .int)) (by decide) rfl ?_
  intro p e s m args below meth c s₁ B hml hv
  obtain ⟨rfl, hsz, hP, hK, hD0⟩ := hv
  have F : CallFix p m c cT_constraint 2 s _ zT RT := ⟨B.exec, B.bytes, hml, findClass_of_methodNamed B.named, fun w h => atoms_spec (ws := (zW yT_constraint cT_constraint 2 (.some .int))) B.pre w (List.mem_cons_of_mem _ h)⟩
  have hr := B.returns
  have hlocks := B.notSynchronized
  subst hsz
  have hD := hD0.self (sz := s.heap.size)
  generalize hAe : va_A ([(y0, .inr (5, [.int (nI th), .ref yR, .int (nI cn), .int (nI pb), .ref yV, .ref yI, .int (z_b md), .long (lN ta), .long (lN al), .long (lN be), .long (lN ga), .long (lN de), .long (lN va), .ref yX, .int (z_b pd), .ref yP, .ref yQ, .ref yS, .ref yD])), (yR, .inl (cL, 816, .inr (.inl (fun x9 => lN (f x9))))), (yV, .inl (cL, 16, .inr (.inl (fun x9 => lN (v x9))))), (yI, .inl (cL, 16, .inr (.inl (fun x9 => lN (inp x9))))), (yX, .inl (cL, 16, .inr (.inl (fun x9 => lN (mx x9))))), (yP, .inl (cL, 3, .inr (.inl (fun x9 => lN (el x9))))), (yQ, .inl (cL, 32, .inr (.inl (fun x9 => lN (qt x9))))), (yS, .inl (cL, 48, .inr (.inl (fun x9 => lN (su x9))))), (yD, .inl (cL, 32, .inr (.inl (fun x9 => lN (pr x9)))))]) s.heap.size = A at hD ⊢
  have hAA : ∀ q : Nat, s.heap.size ≤ q → A q := fun q h => by rw [← hAe]; exact Or.inr h
  have hS : va_S A s.heap s.heap [] := va_S.rf
  have hl := lv_entry ([.ref y0]) (n := 2) (Nat.le_of_ble_eq_true rfl)
  rw [lg_entry_eq]
  generalize (lg_sl ([.ref y0]) ++ List.replicate (2 - (lg_sl ([.ref y0])).length) Slot.unset).toArray = ls at hl ⊢
  have hl : lv_has ls 2 [(0, .ref y0)] := hl
  refine lv_aload_n F.1 F.2.1 dT_constraint_0 rfl (lv_at hl 0 rfl) ?_
  refine lv_aload_n F.1 F.2.1 dT_constraint_1 rfl (lv_at hl 0 rfl) ?_
  refine z_get F hK hP hinT 0 rfl rfl 2 (by decide) rfl wf_T_46 rfl dT_constraint_2 ?_
  refine z_bipush (v := 16) F (by decide) dT_constraint_5 ?_
  refine z_icmp_ne F (by omega) (by omega) (tgt := 14) dT_constraint_7 rfl (fun h => absurd h (by omega)) (fun h => ?_)
  refine z_iconst (v := 1) F (by decide) dT_constraint_10 ?_
  refine lv_goto F.1 F.2.1 (tgt := 15) dT_constraint_11 rfl ?_
  refine z_put F hK hP hD hS hinT tyT tyT_ok nmT 0 rfl rfl 0 (by decide) rfl rfl wf_T_34 (rfl) (rfl) (Nat.le_of_ble_eq_true rfl) dT_constraint_15 (fun H locs hP hD hS => ?_)
  have hP : va_P (dC, dI) vwCl ([(y0, .inr (5, [.int (nI 1), .ref yR, .int (nI cn), .int (nI pb), .ref yV, .ref yI, .int (z_b md), .long (lN ta), .long (lN al), .long (lN be), .long (lN ga), .long (lN de), .long (lN va), .ref yX, .int (z_b pd), .ref yP, .ref yQ, .ref yS, .ref yD])), (yR, .inl (cL, 816, .inr (.inl (fun x9 => lN (f x9))))), (yV, .inl (cL, 16, .inr (.inl (fun x9 => lN (v x9))))), (yI, .inl (cL, 16, .inr (.inl (fun x9 => lN (inp x9))))), (yX, .inl (cL, 16, .inr (.inl (fun x9 => lN (mx x9))))), (yP, .inl (cL, 3, .inr (.inl (fun x9 => lN (el x9))))), (yQ, .inl (cL, 32, .inr (.inl (fun x9 => lN (qt x9))))), (yS, .inl (cL, 48, .inr (.inl (fun x9 => lN (su x9))))), (yD, .inl (cL, 32, .inr (.inl (fun x9 => lN (pr x9)))))]) H := hP
  have hD : va_D A ([(y0, .inr (5, [.int (nI 1), .ref yR, .int (nI cn), .int (nI pb), .ref yV, .ref yI, .int (z_b md), .long (lN ta), .long (lN al), .long (lN be), .long (lN ga), .long (lN de), .long (lN va), .ref yX, .int (z_b pd), .ref yP, .ref yQ, .ref yS, .ref yD])), (yR, .inl (cL, 816, .inr (.inl (fun x9 => lN (f x9))))), (yV, .inl (cL, 16, .inr (.inl (fun x9 => lN (v x9))))), (yI, .inl (cL, 16, .inr (.inl (fun x9 => lN (inp x9))))), (yX, .inl (cL, 16, .inr (.inl (fun x9 => lN (mx x9))))), (yP, .inl (cL, 3, .inr (.inl (fun x9 => lN (el x9))))), (yQ, .inl (cL, 32, .inr (.inl (fun x9 => lN (qt x9))))), (yS, .inl (cL, 48, .inr (.inl (fun x9 => lN (su x9))))), (yD, .inl (cL, 32, .inr (.inl (fun x9 => lN (pr x9)))))]) := hD
  refine lv_aload_n F.1 F.2.1 dT_constraint_18 rfl (lv_at hl 0 rfl) ?_
  refine z_get F hK hP hinT 0 rfl rfl 0 (by decide) rfl wf_T_34 rfl dT_constraint_19 ?_
  refine z_if_le F (by omega) (tgt := 27) dT_constraint_22 rfl (fun h => absurd h (by decide)) (fun h => ?_)
  refine z_iconst (v := 0) F (by decide) dT_constraint_25 ?_
  exact W.iret F.1 F.2.1 hr (fun t ht hW => ⟨rfl, by rw [ht]; exact hP, va_K.moved hW.alike hK, hD, hS.F ht⟩) hS.2.2 dT_constraint_26
set_option maxHeartbeats 4000000 in
set_option maxRecDepth 100000 in
theorem ct_publics (l : Launch) (dC : Nat → ClassId) (dI : Nat → Nat → Nat) (cI cL : ClassId) (zz : Nat) (y0 yR yV yI yX yP yQ yS yD : Nat) (th cn pb ta al be ga de va : Nat) (md pd : Bool) (f v inp mx el qt su pr : Nat → Nat) (k : Nat) (hk : k < 7) : Met l yT_publics (zW yT_publics cT_publics 2 (.some .boolean)) ({ frames := 0, cells := 0, slots := 0, locals := 0 }) (va_Pc [.ref y0, .int (nI k)] (z_P (dC, dI) vwCl [(cI, .int), (cL, .long)] zz ([(y0, .inr (5, [.int (nI th), .ref yR, .int (nI cn), .int (nI pb), .ref yV, .ref yI, .int (z_b md), .long (lN ta), .long (lN al), .long (lN be), .long (lN ga), .long (lN de), .long (lN va), .ref yX, .int (z_b pd), .ref yP, .ref yQ, .ref yS, .ref yD])), (yR, .inl (cL, 816, .inr (.inl (fun x9 => lN (f x9))))), (yV, .inl (cL, 16, .inr (.inl (fun x9 => lN (v x9))))), (yI, .inl (cL, 16, .inr (.inl (fun x9 => lN (inp x9))))), (yX, .inl (cL, 16, .inr (.inl (fun x9 => lN (mx x9))))), (yP, .inl (cL, 3, .inr (.inl (fun x9 => lN (el x9))))), (yQ, .inl (cL, 32, .inr (.inl (fun x9 => lN (qt x9))))), (yS, .inl (cL, 48, .inr (.inl (fun x9 => lN (su x9))))), (yD, .inl (cL, 32, .inr (.inl (fun x9 => lN (pr x9)))))]))) (z_Q (dC, dI) vwCl [(cI, .int), (cL, .long)] (some (.int (z_b true))) ([(y0, .inr (5, [.int (nI 0), .ref yR, .int (nI cn), .int (nI k), .ref yV, .ref yI, .int (z_b false), .long (lN ta), .long (lN al), .long (lN be), .long (lN ga), .long (lN de), .long (lN va), .ref yX, .int (z_b pd), .ref yP, .ref yQ, .ref yS, .ref yD])), (yR, .inl (cL, 816, .inr (.inl (fun x9 => lN (f x9))))), (yV, .inl (cL, 16, .inr (.inl (fun x9 => lN (v x9))))), (yI, .inl (cL, 16, .inr (.inl (fun x9 => lN (inp x9))))), (yX, .inl (cL, 16, .inr (.inl (fun x9 => lN (mx x9))))), (yP, .inl (cL, 3, .inr (.inl (fun x9 => lN (el x9))))), (yQ, .inl (cL, 32, .inr (.inl (fun x9 => lN (qt x9))))), (yS, .inl (cL, 48, .inr (.inl (fun x9 => lN (su x9))))), (yD, .inl (cL, 32, .inr (.inl (fun x9 => lN (pr x9)))))]) (va_A ([(y0, .inr (5, [.int (nI th), .ref yR, .int (nI cn), .int (nI pb), .ref yV, .ref yI, .int (z_b md), .long (lN ta), .long (lN al), .long (lN be), .long (lN ga), .long (lN de), .long (lN va), .ref yX, .int (z_b pd), .ref yP, .ref yQ, .ref yS, .ref yD])), (yR, .inl (cL, 816, .inr (.inl (fun x9 => lN (f x9))))), (yV, .inl (cL, 16, .inr (.inl (fun x9 => lN (v x9))))), (yI, .inl (cL, 16, .inr (.inl (fun x9 => lN (inp x9))))), (yX, .inl (cL, 16, .inr (.inl (fun x9 => lN (mx x9))))), (yP, .inl (cL, 3, .inr (.inl (fun x9 => lN (el x9))))), (yQ, .inl (cL, 32, .inr (.inl (fun x9 => lN (qt x9))))), (yS, .inl (cL, 48, .inr (.inl (fun x9 => lN (su x9))))), (yD, .inl (cL, 32, .inr (.inl (fun x9 => lN (pr x9)))))]) zz)) 0 0 (va_A ([(y0, .inr (5, [.int (nI th), .ref yR, .int (nI cn), .int (nI pb), .ref yV, .ref yI, .int (z_b md), .long (lN ta), .long (lN al), .long (lN be), .long (lN ga), .long (lN de), .long (lN va), .ref yX, .int (z_b pd), .ref yP, .ref yQ, .ref yS, .ref yD])), (yR, .inl (cL, 816, .inr (.inl (fun x9 => lN (f x9))))), (yV, .inl (cL, 16, .inr (.inl (fun x9 => lN (v x9))))), (yI, .inl (cL, 16, .inr (.inl (fun x9 => lN (inp x9))))), (yX, .inl (cL, 16, .inr (.inl (fun x9 => lN (mx x9))))), (yP, .inl (cL, 3, .inr (.inl (fun x9 => lN (el x9))))), (yQ, .inl (cL, 32, .inr (.inl (fun x9 => lN (qt x9))))), (yS, .inl (cL, 48, .inr (.inl (fun x9 => lN (su x9))))), (yD, .inl (cL, 32, .inr (.inl (fun x9 => lN (pr x9)))))]) zz) := by
  refine Met.ofW (cc := cT_publics) (maxL := 2) (ret := (.some .boolean)) (by decide) rfl ?_
  intro p e s m args below meth c s₁ B hml hv
  obtain ⟨rfl, hsz, hP, hK, hD0⟩ := hv
  have F : CallFix p m c cT_publics 2 s _ zT RT := ⟨B.exec, B.bytes, hml, findClass_of_methodNamed B.named, fun w h => atoms_spec (ws := (zW yT_publics cT_publics 2 (.some .boolean))) B.pre w (List.mem_cons_of_mem _ h)⟩
  have hr := B.returns
  have hlocks := B.notSynchronized
  subst hsz
  have hD := hD0.self (sz := s.heap.size)
  generalize hAe : va_A ([(y0, .inr (5, [.int (nI th), .ref yR, .int (nI cn), .int (nI pb), .ref yV, .ref yI, .int (z_b md), .long (lN ta), .long (lN al), .long (lN be), .long (lN ga), .long (lN de), .long (lN va), .ref yX, .int (z_b pd), .ref yP, .ref yQ, .ref yS, .ref yD])), (yR, .inl (cL, 816, .inr (.inl (fun x9 => lN (f x9))))), (yV, .inl (cL, 16, .inr (.inl (fun x9 => lN (v x9))))), (yI, .inl (cL, 16, .inr (.inl (fun x9 => lN (inp x9))))), (yX, .inl (cL, 16, .inr (.inl (fun x9 => lN (mx x9))))), (yP, .inl (cL, 3, .inr (.inl (fun x9 => lN (el x9))))), (yQ, .inl (cL, 32, .inr (.inl (fun x9 => lN (qt x9))))), (yS, .inl (cL, 48, .inr (.inl (fun x9 => lN (su x9))))), (yD, .inl (cL, 32, .inr (.inl (fun x9 => lN (pr x9)))))]) s.heap.size = A at hD ⊢
  have hAA : ∀ q : Nat, s.heap.size ≤ q → A q := fun q h => by rw [← hAe]; exact Or.inr h
  have hS : va_S A s.heap s.heap [] := va_S.rf
  have hl := lv_entry ([.ref y0, .int (nI k)]) (n := 2) (Nat.le_of_ble_eq_true rfl)
  rw [lg_entry_eq]
  generalize (lg_sl ([.ref y0, .int (nI k)]) ++ List.replicate (2 - (lg_sl ([.ref y0, .int (nI k)])).length) Slot.unset).toArray = ls at hl ⊢
  have hl : lv_has ls 2 [(0, .ref y0), (1, .int (nI k))] := hl
  refine lv_aload_n F.1 F.2.1 dT_publics_0 rfl (lv_at hl 0 rfl) ?_
  refine lv_iload_n F.1 F.2.1 dT_publics_1 rfl (lv_at hl 1 rfl) ?_
  refine lv_if_lt F.1 F.2.1 (tgt := 11) dT_publics_2 rfl (fun h => absurd h (nI_pos (by omega))) (fun h => ?_)
  refine lv_iload_n F.1 F.2.1 dT_publics_5 rfl (lv_at hl 1 rfl) ?_
  refine z_bipush (v := 6) F (by decide) dT_publics_6 ?_
  refine z_icmp_le F (by omega) (by omega) (tgt := 15) dT_publics_8 rfl (fun h => ?_) (fun h => absurd h (by omega))
  refine z_iconst (v := 0) F (by decide) dT_publics_15 ?_
  refine z_put F hK hP hD hS hinT tyT tyT_ok nmT 0 rfl rfl 0 (by decide) rfl rfl wf_T_34 (rfl) (rfl) (Nat.le_of_ble_eq_true rfl) dT_publics_16 (fun H locs hP hD hS => ?_)
  have hP : va_P (dC, dI) vwCl ([(y0, .inr (5, [.int (nI 0), .ref yR, .int (nI cn), .int (nI pb), .ref yV, .ref yI, .int (z_b md), .long (lN ta), .long (lN al), .long (lN be), .long (lN ga), .long (lN de), .long (lN va), .ref yX, .int (z_b pd), .ref yP, .ref yQ, .ref yS, .ref yD])), (yR, .inl (cL, 816, .inr (.inl (fun x9 => lN (f x9))))), (yV, .inl (cL, 16, .inr (.inl (fun x9 => lN (v x9))))), (yI, .inl (cL, 16, .inr (.inl (fun x9 => lN (inp x9))))), (yX, .inl (cL, 16, .inr (.inl (fun x9 => lN (mx x9))))), (yP, .inl (cL, 3, .inr (.inl (fun x9 => lN (el x9))))), (yQ, .inl (cL, 32, .inr (.inl (fun x9 => lN (qt x9))))), (yS, .inl (cL, 48, .inr (.inl (fun x9 => lN (su x9))))), (yD, .inl (cL, 32, .inr (.inl (fun x9 => lN (pr x9)))))]) H := hP
  have hD : va_D A ([(y0, .inr (5, [.int (nI 0), .ref yR, .int (nI cn), .int (nI pb), .ref yV, .ref yI, .int (z_b md), .long (lN ta), .long (lN al), .long (lN be), .long (lN ga), .long (lN de), .long (lN va), .ref yX, .int (z_b pd), .ref yP, .ref yQ, .ref yS, .ref yD])), (yR, .inl (cL, 816, .inr (.inl (fun x9 => lN (f x9))))), (yV, .inl (cL, 16, .inr (.inl (fun x9 => lN (v x9))))), (yI, .inl (cL, 16, .inr (.inl (fun x9 => lN (inp x9))))), (yX, .inl (cL, 16, .inr (.inl (fun x9 => lN (mx x9))))), (yP, .inl (cL, 3, .inr (.inl (fun x9 => lN (el x9))))), (yQ, .inl (cL, 32, .inr (.inl (fun x9 => lN (qt x9))))), (yS, .inl (cL, 48, .inr (.inl (fun x9 => lN (su x9))))), (yD, .inl (cL, 32, .inr (.inl (fun x9 => lN (pr x9)))))]) := hD
  refine lv_aload_n F.1 F.2.1 dT_publics_19 rfl (lv_at hl 0 rfl) ?_
  refine z_get F hK hP hinT 0 rfl rfl 0 (by decide) rfl wf_T_34 rfl dT_publics_20 ?_
  refine z_if_le F (by omega) (tgt := 28) dT_publics_23 rfl (fun h => ?_) (fun h => absurd h (by decide))
  refine lv_aload_n F.1 F.2.1 dT_publics_28 rfl (lv_at hl 0 rfl) ?_
  refine lv_iload_n F.1 F.2.1 dT_publics_29 rfl (lv_at hl 1 rfl) ?_
  refine z_put F hK hP hD hS hinT tyT tyT_ok nmT 0 rfl rfl 3 (by decide) rfl rfl wf_T_57 (rfl) (rfl) (Nat.le_of_ble_eq_true rfl) dT_publics_30 (fun H locs hP hD hS => ?_)
  have hP : va_P (dC, dI) vwCl ([(y0, .inr (5, [.int (nI 0), .ref yR, .int (nI cn), .int (nI k), .ref yV, .ref yI, .int (z_b md), .long (lN ta), .long (lN al), .long (lN be), .long (lN ga), .long (lN de), .long (lN va), .ref yX, .int (z_b pd), .ref yP, .ref yQ, .ref yS, .ref yD])), (yR, .inl (cL, 816, .inr (.inl (fun x9 => lN (f x9))))), (yV, .inl (cL, 16, .inr (.inl (fun x9 => lN (v x9))))), (yI, .inl (cL, 16, .inr (.inl (fun x9 => lN (inp x9))))), (yX, .inl (cL, 16, .inr (.inl (fun x9 => lN (mx x9))))), (yP, .inl (cL, 3, .inr (.inl (fun x9 => lN (el x9))))), (yQ, .inl (cL, 32, .inr (.inl (fun x9 => lN (qt x9))))), (yS, .inl (cL, 48, .inr (.inl (fun x9 => lN (su x9))))), (yD, .inl (cL, 32, .inr (.inl (fun x9 => lN (pr x9)))))]) H := hP
  have hD : va_D A ([(y0, .inr (5, [.int (nI 0), .ref yR, .int (nI cn), .int (nI k), .ref yV, .ref yI, .int (z_b md), .long (lN ta), .long (lN al), .long (lN be), .long (lN ga), .long (lN de), .long (lN va), .ref yX, .int (z_b pd), .ref yP, .ref yQ, .ref yS, .ref yD])), (yR, .inl (cL, 816, .inr (.inl (fun x9 => lN (f x9))))), (yV, .inl (cL, 16, .inr (.inl (fun x9 => lN (v x9))))), (yI, .inl (cL, 16, .inr (.inl (fun x9 => lN (inp x9))))), (yX, .inl (cL, 16, .inr (.inl (fun x9 => lN (mx x9))))), (yP, .inl (cL, 3, .inr (.inl (fun x9 => lN (el x9))))), (yQ, .inl (cL, 32, .inr (.inl (fun x9 => lN (qt x9))))), (yS, .inl (cL, 48, .inr (.inl (fun x9 => lN (su x9))))), (yD, .inl (cL, 32, .inr (.inl (fun x9 => lN (pr x9)))))]) := hD
  refine lv_aload_n F.1 F.2.1 dT_publics_33 rfl (lv_at hl 0 rfl) ?_
  refine z_iconst (v := 0) F (by decide) dT_publics_34 ?_
  refine z_topV (z_b false) (by decide) ?_
  refine z_put F hK hP hD hS hinT tyT tyT_ok nmT 0 rfl rfl 6 (by decide) rfl rfl wf_T_53 (rfl) (rfl) (Nat.le_of_ble_eq_true rfl) dT_publics_35 (fun H locs hP hD hS => ?_)
  have hP : va_P (dC, dI) vwCl ([(y0, .inr (5, [.int (nI 0), .ref yR, .int (nI cn), .int (nI k), .ref yV, .ref yI, .int (z_b false), .long (lN ta), .long (lN al), .long (lN be), .long (lN ga), .long (lN de), .long (lN va), .ref yX, .int (z_b pd), .ref yP, .ref yQ, .ref yS, .ref yD])), (yR, .inl (cL, 816, .inr (.inl (fun x9 => lN (f x9))))), (yV, .inl (cL, 16, .inr (.inl (fun x9 => lN (v x9))))), (yI, .inl (cL, 16, .inr (.inl (fun x9 => lN (inp x9))))), (yX, .inl (cL, 16, .inr (.inl (fun x9 => lN (mx x9))))), (yP, .inl (cL, 3, .inr (.inl (fun x9 => lN (el x9))))), (yQ, .inl (cL, 32, .inr (.inl (fun x9 => lN (qt x9))))), (yS, .inl (cL, 48, .inr (.inl (fun x9 => lN (su x9))))), (yD, .inl (cL, 32, .inr (.inl (fun x9 => lN (pr x9)))))]) H := hP
  have hD : va_D A ([(y0, .inr (5, [.int (nI 0), .ref yR, .int (nI cn), .int (nI k), .ref yV, .ref yI, .int (z_b false), .long (lN ta), .long (lN al), .long (lN be), .long (lN ga), .long (lN de), .long (lN va), .ref yX, .int (z_b pd), .ref yP, .ref yQ, .ref yS, .ref yD])), (yR, .inl (cL, 816, .inr (.inl (fun x9 => lN (f x9))))), (yV, .inl (cL, 16, .inr (.inl (fun x9 => lN (v x9))))), (yI, .inl (cL, 16, .inr (.inl (fun x9 => lN (inp x9))))), (yX, .inl (cL, 16, .inr (.inl (fun x9 => lN (mx x9))))), (yP, .inl (cL, 3, .inr (.inl (fun x9 => lN (el x9))))), (yQ, .inl (cL, 32, .inr (.inl (fun x9 => lN (qt x9))))), (yS, .inl (cL, 48, .inr (.inl (fun x9 => lN (su x9))))), (yD, .inl (cL, 32, .inr (.inl (fun x9 => lN (pr x9)))))]) := hD
  refine z_iconst (v := 1) F (by decide) dT_publics_38 ?_
  refine z_topV (z_b true) (by decide) ?_
  exact W.zret F.1 F.2.1 hr rfl (fun t ht hW => ⟨rfl, by rw [ht]; exact hP, va_K.moved hW.alike hK, hD, hS.F ht⟩) hS.2.2 dT_publics_39
set_option maxHeartbeats 4000000 in
set_option maxRecDepth 100000 in
theorem ct_publics_no (l : Launch) (dC : Nat → ClassId) (dI : Nat → Nat → Nat) (cI cL : ClassId) (zz : Nat) (y0 yR yV yI yX yP yQ yS yD : Nat) (th cn pb ta al be ga de va : Nat) (md pd : Bool) (f v inp mx el qt su pr : Nat → Nat) (x : Int32) (h9 : bl x 7 = false) : Met l yT_publics (zW yT_publics cT_publics 2 (.some .boolean)) ({ frames := 0, cells := 0, slots := 0, locals := 0 }) (va_Pc [.ref y0, .int x] (z_P (dC, dI) vwCl [(cI, .int), (cL, .long)] zz ([(y0, .inr (5, [.int (nI th), .ref yR, .int (nI cn), .int (nI pb), .ref yV, .ref yI, .int (z_b md), .long (lN ta), .long (lN al), .long (lN be), .long (lN ga), .long (lN de), .long (lN va), .ref yX, .int (z_b pd), .ref yP, .ref yQ, .ref yS, .ref yD])), (yR, .inl (cL, 816, .inr (.inl (fun x9 => lN (f x9))))), (yV, .inl (cL, 16, .inr (.inl (fun x9 => lN (v x9))))), (yI, .inl (cL, 16, .inr (.inl (fun x9 => lN (inp x9))))), (yX, .inl (cL, 16, .inr (.inl (fun x9 => lN (mx x9))))), (yP, .inl (cL, 3, .inr (.inl (fun x9 => lN (el x9))))), (yQ, .inl (cL, 32, .inr (.inl (fun x9 => lN (qt x9))))), (yS, .inl (cL, 48, .inr (.inl (fun x9 => lN (su x9))))), (yD, .inl (cL, 32, .inr (.inl (fun x9 => lN (pr x9)))))]))) (z_Q (dC, dI) vwCl [(cI, .int), (cL, .long)] (some (.int (z_b false))) ([(y0, .inr (5, [.int (nI 1), .ref yR, .int (nI cn), .int (nI pb), .ref yV, .ref yI, .int (z_b md), .long (lN ta), .long (lN al), .long (lN be), .long (lN ga), .long (lN de), .long (lN va), .ref yX, .int (z_b pd), .ref yP, .ref yQ, .ref yS, .ref yD])), (yR, .inl (cL, 816, .inr (.inl (fun x9 => lN (f x9))))), (yV, .inl (cL, 16, .inr (.inl (fun x9 => lN (v x9))))), (yI, .inl (cL, 16, .inr (.inl (fun x9 => lN (inp x9))))), (yX, .inl (cL, 16, .inr (.inl (fun x9 => lN (mx x9))))), (yP, .inl (cL, 3, .inr (.inl (fun x9 => lN (el x9))))), (yQ, .inl (cL, 32, .inr (.inl (fun x9 => lN (qt x9))))), (yS, .inl (cL, 48, .inr (.inl (fun x9 => lN (su x9))))), (yD, .inl (cL, 32, .inr (.inl (fun x9 => lN (pr x9)))))]) (va_A ([(y0, .inr (5, [.int (nI th), .ref yR, .int (nI cn), .int (nI pb), .ref yV, .ref yI, .int (z_b md), .long (lN ta), .long (lN al), .long (lN be), .long (lN ga), .long (lN de), .long (lN va), .ref yX, .int (z_b pd), .ref yP, .ref yQ, .ref yS, .ref yD])), (yR, .inl (cL, 816, .inr (.inl (fun x9 => lN (f x9))))), (yV, .inl (cL, 16, .inr (.inl (fun x9 => lN (v x9))))), (yI, .inl (cL, 16, .inr (.inl (fun x9 => lN (inp x9))))), (yX, .inl (cL, 16, .inr (.inl (fun x9 => lN (mx x9))))), (yP, .inl (cL, 3, .inr (.inl (fun x9 => lN (el x9))))), (yQ, .inl (cL, 32, .inr (.inl (fun x9 => lN (qt x9))))), (yS, .inl (cL, 48, .inr (.inl (fun x9 => lN (su x9))))), (yD, .inl (cL, 32, .inr (.inl (fun x9 => lN (pr x9)))))]) zz)) 0 0 (va_A ([(y0, .inr (5, [.int (nI th), .ref yR, .int (nI cn), .int (nI pb), .ref yV, .ref yI, .int (z_b md), .long (lN ta), .long (lN al), .long (lN be), .long (lN ga), .long (lN de), .long (lN va), .ref yX, .int (z_b pd), .ref yP, .ref yQ, .ref yS, .ref yD])), (yR, .inl (cL, 816, .inr (.inl (fun x9 => lN (f x9))))), (yV, .inl (cL, 16, .inr (.inl (fun x9 => lN (v x9))))), (yI, .inl (cL, 16, .inr (.inl (fun x9 => lN (inp x9))))), (yX, .inl (cL, 16, .inr (.inl (fun x9 => lN (mx x9))))), (yP, .inl (cL, 3, .inr (.inl (fun x9 => lN (el x9))))), (yQ, .inl (cL, 32, .inr (.inl (fun x9 => lN (qt x9))))), (yS, .inl (cL, 48, .inr (.inl (fun x9 => lN (su x9))))), (yD, .inl (cL, 32, .inr (.inl (fun x9 => lN (pr x9)))))]) zz) := by
  refine Met.ofW (cc := cT_publics) (maxL := 2) (ret := (.some .boolean)) (by decide) rfl ?_
  intro p e s m args below meth c s₁ B hml hv
  obtain ⟨rfl, hsz, hP, hK, hD0⟩ := hv
  have F : CallFix p m c cT_publics 2 s _ zT RT := ⟨B.exec, B.bytes, hml, findClass_of_methodNamed B.named, fun w h => atoms_spec (ws := (zW yT_publics cT_publics 2 (.some .boolean))) B.pre w (List.mem_cons_of_mem _ h)⟩
  have hr := B.returns
  have hlocks := B.notSynchronized
  subst hsz
  have hD := hD0.self (sz := s.heap.size)
  generalize hAe : va_A ([(y0, .inr (5, [.int (nI th), .ref yR, .int (nI cn), .int (nI pb), .ref yV, .ref yI, .int (z_b md), .long (lN ta), .long (lN al), .long (lN be), .long (lN ga), .long (lN de), .long (lN va), .ref yX, .int (z_b pd), .ref yP, .ref yQ, .ref yS, .ref yD])), (yR, .inl (cL, 816, .inr (.inl (fun x9 => lN (f x9))))), (yV, .inl (cL, 16, .inr (.inl (fun x9 => lN (v x9))))), (yI, .inl (cL, 16, .inr (.inl (fun x9 => lN (inp x9))))), (yX, .inl (cL, 16, .inr (.inl (fun x9 => lN (mx x9))))), (yP, .inl (cL, 3, .inr (.inl (fun x9 => lN (el x9))))), (yQ, .inl (cL, 32, .inr (.inl (fun x9 => lN (qt x9))))), (yS, .inl (cL, 48, .inr (.inl (fun x9 => lN (su x9))))), (yD, .inl (cL, 32, .inr (.inl (fun x9 => lN (pr x9)))))]) s.heap.size = A at hD ⊢
  have hAA : ∀ q : Nat, s.heap.size ≤ q → A q := fun q h => by rw [← hAe]; exact Or.inr h
  have hS : va_S A s.heap s.heap [] := va_S.rf
  have hl := lv_entry ([.ref y0, .int x]) (n := 2) (Nat.le_of_ble_eq_true rfl)
  rw [lg_entry_eq]
  generalize (lg_sl ([.ref y0, .int x]) ++ List.replicate (2 - (lg_sl ([.ref y0, .int x])).length) Slot.unset).toArray = ls at hl ⊢
  have hl : lv_has ls 2 [(0, .ref y0), (1, .int x)] := hl
  refine lv_aload_n F.1 F.2.1 dT_publics_0 rfl (lv_at hl 0 rfl) ?_
  refine lv_iload_n F.1 F.2.1 dT_publics_1 rfl (lv_at hl 1 rfl) ?_
  refine lv_if_lt F.1 F.2.1 (tgt := 11) dT_publics_2 rfl (fun h1 => ?_) (fun h1 => ?_)
  · refine z_iconst (v := 1) F (by decide) dT_publics_11 ?_
    refine lv_goto F.1 F.2.1 (tgt := 16) dT_publics_12 rfl ?_
    refine z_put F hK hP hD hS hinT tyT tyT_ok nmT 0 rfl rfl 0 (by decide) rfl rfl wf_T_34 (rfl) (rfl) (Nat.le_of_ble_eq_true rfl) dT_publics_16 (fun H locs hP hD hS => ?_)
    have hP : va_P (dC, dI) vwCl ([(y0, .inr (5, [.int (nI 1), .ref yR, .int (nI cn), .int (nI pb), .ref yV, .ref yI, .int (z_b md), .long (lN ta), .long (lN al), .long (lN be), .long (lN ga), .long (lN de), .long (lN va), .ref yX, .int (z_b pd), .ref yP, .ref yQ, .ref yS, .ref yD])), (yR, .inl (cL, 816, .inr (.inl (fun x9 => lN (f x9))))), (yV, .inl (cL, 16, .inr (.inl (fun x9 => lN (v x9))))), (yI, .inl (cL, 16, .inr (.inl (fun x9 => lN (inp x9))))), (yX, .inl (cL, 16, .inr (.inl (fun x9 => lN (mx x9))))), (yP, .inl (cL, 3, .inr (.inl (fun x9 => lN (el x9))))), (yQ, .inl (cL, 32, .inr (.inl (fun x9 => lN (qt x9))))), (yS, .inl (cL, 48, .inr (.inl (fun x9 => lN (su x9))))), (yD, .inl (cL, 32, .inr (.inl (fun x9 => lN (pr x9)))))]) H := hP
    have hD : va_D A ([(y0, .inr (5, [.int (nI 1), .ref yR, .int (nI cn), .int (nI pb), .ref yV, .ref yI, .int (z_b md), .long (lN ta), .long (lN al), .long (lN be), .long (lN ga), .long (lN de), .long (lN va), .ref yX, .int (z_b pd), .ref yP, .ref yQ, .ref yS, .ref yD])), (yR, .inl (cL, 816, .inr (.inl (fun x9 => lN (f x9))))), (yV, .inl (cL, 16, .inr (.inl (fun x9 => lN (v x9))))), (yI, .inl (cL, 16, .inr (.inl (fun x9 => lN (inp x9))))), (yX, .inl (cL, 16, .inr (.inl (fun x9 => lN (mx x9))))), (yP, .inl (cL, 3, .inr (.inl (fun x9 => lN (el x9))))), (yQ, .inl (cL, 32, .inr (.inl (fun x9 => lN (qt x9))))), (yS, .inl (cL, 48, .inr (.inl (fun x9 => lN (su x9))))), (yD, .inl (cL, 32, .inr (.inl (fun x9 => lN (pr x9)))))]) := hD
    refine lv_aload_n F.1 F.2.1 dT_publics_19 rfl (lv_at hl 0 rfl) ?_
    refine z_get F hK hP hinT 0 rfl rfl 0 (by decide) rfl wf_T_34 rfl dT_publics_20 ?_
    refine z_if_le F (by omega) (tgt := 28) dT_publics_23 rfl (fun h => absurd h (by decide)) (fun h => ?_)
    refine z_iconst (v := 0) F (by decide) dT_publics_26 ?_
    refine z_topV (z_b false) (by decide) ?_
    exact W.zret F.1 F.2.1 hr rfl (fun t ht hW => ⟨rfl, by rw [ht]; exact hP, va_K.moved hW.alike hK, hD, hS.F ht⟩) hS.2.2 dT_publics_27
  · obtain ⟨j9, hj9, rfl⟩ := nI_of h1
    have hl : lv_has ls 2 [(0, .ref y0), (1, .int (nI j9))] := hl
    rw [bl_nI _ hj9] at h9
    have h8 := of_decide_eq_false h9
    refine lv_iload_n F.1 F.2.1 dT_publics_5 rfl (lv_at hl 1 rfl) ?_
    refine z_bipush (v := 6) F (by decide) dT_publics_6 ?_
    refine z_icmp_le F (by omega) (by omega) (tgt := 15) dT_publics_8 rfl (fun h => absurd h (by omega)) (fun h => ?_)
    refine z_iconst (v := 1) F (by decide) dT_publics_11 ?_
    refine lv_goto F.1 F.2.1 (tgt := 16) dT_publics_12 rfl ?_
    refine z_put F hK hP hD hS hinT tyT tyT_ok nmT 0 rfl rfl 0 (by decide) rfl rfl wf_T_34 (rfl) (rfl) (Nat.le_of_ble_eq_true rfl) dT_publics_16 (fun H locs hP hD hS => ?_)
    have hP : va_P (dC, dI) vwCl ([(y0, .inr (5, [.int (nI 1), .ref yR, .int (nI cn), .int (nI pb), .ref yV, .ref yI, .int (z_b md), .long (lN ta), .long (lN al), .long (lN be), .long (lN ga), .long (lN de), .long (lN va), .ref yX, .int (z_b pd), .ref yP, .ref yQ, .ref yS, .ref yD])), (yR, .inl (cL, 816, .inr (.inl (fun x9 => lN (f x9))))), (yV, .inl (cL, 16, .inr (.inl (fun x9 => lN (v x9))))), (yI, .inl (cL, 16, .inr (.inl (fun x9 => lN (inp x9))))), (yX, .inl (cL, 16, .inr (.inl (fun x9 => lN (mx x9))))), (yP, .inl (cL, 3, .inr (.inl (fun x9 => lN (el x9))))), (yQ, .inl (cL, 32, .inr (.inl (fun x9 => lN (qt x9))))), (yS, .inl (cL, 48, .inr (.inl (fun x9 => lN (su x9))))), (yD, .inl (cL, 32, .inr (.inl (fun x9 => lN (pr x9)))))]) H := hP
    have hD : va_D A ([(y0, .inr (5, [.int (nI 1), .ref yR, .int (nI cn), .int (nI pb), .ref yV, .ref yI, .int (z_b md), .long (lN ta), .long (lN al), .long (lN be), .long (lN ga), .long (lN de), .long (lN va), .ref yX, .int (z_b pd), .ref yP, .ref yQ, .ref yS, .ref yD])), (yR, .inl (cL, 816, .inr (.inl (fun x9 => lN (f x9))))), (yV, .inl (cL, 16, .inr (.inl (fun x9 => lN (v x9))))), (yI, .inl (cL, 16, .inr (.inl (fun x9 => lN (inp x9))))), (yX, .inl (cL, 16, .inr (.inl (fun x9 => lN (mx x9))))), (yP, .inl (cL, 3, .inr (.inl (fun x9 => lN (el x9))))), (yQ, .inl (cL, 32, .inr (.inl (fun x9 => lN (qt x9))))), (yS, .inl (cL, 48, .inr (.inl (fun x9 => lN (su x9))))), (yD, .inl (cL, 32, .inr (.inl (fun x9 => lN (pr x9)))))]) := hD
    refine lv_aload_n F.1 F.2.1 dT_publics_19 rfl (lv_at hl 0 rfl) ?_
    refine z_get F hK hP hinT 0 rfl rfl 0 (by decide) rfl wf_T_34 rfl dT_publics_20 ?_
    refine z_if_le F (by omega) (tgt := 28) dT_publics_23 rfl (fun h => absurd h (by decide)) (fun h => ?_)
    refine z_iconst (v := 0) F (by decide) dT_publics_26 ?_
    refine z_topV (z_b false) (by decide) ?_
    exact W.zret F.1 F.2.1 hr rfl (fun t ht hW => ⟨rfl, by rw [ht]; exact hP, va_K.moved hW.alike hK, hD, hS.F ht⟩) hS.2.2 dT_publics_27
/-- is x a number from 1 to n - 1 -/
def b1 (x : Int32) (n : Nat) : Bool := bl x n && !decide (x = 0)
theorem b1_of {x : Int32} {n : Nat} (h : b1 x n = true) (hn : n < 2 ^ 31) : ∃ j, 0 < j ∧ j < n ∧ x = nI j := by
  unfold b1 at h
  rw [Bool.and_eq_true] at h
  obtain ⟨j, hj, rfl⟩ := bl_of h.1 hn
  refine ⟨j, Nat.pos_of_ne_zero (fun q => ?_), hj, rfl⟩
  subst q
  exact absurd h.2 (by decide)
theorem b1_t {j n : Nat} (h0 : 0 < j) (h : j < n) (hn : n < 2 ^ 31) : b1 (nI j) n = true := by
  unfold b1
  rw [bl_t h hn, decide_eq_false (nI_ne0 h0 (by omega))]
  rfl
theorem b1_no {x : Int32} {n : Nat} (h : b1 x n = false) (hn : n < 2 ^ 31) : x < 1 ∨ ∃ j, j < 2 ^ 31 ∧ n ≤ j ∧ x = nI j := by
  by_cases hx : x < 1
  · exact Or.inl hx
  · have h1 : (1 : Int32).toInt = 1 := by decide
    rw [Int32.lt_iff_toInt_lt, h1] at hx
    obtain ⟨j, hj, rfl⟩ := nI_of (x := x) (by rw [Int32.lt_iff_toInt_lt, Int32.toInt_zero]; omega)
    rw [nI_toInt hj] at hx
    refine Or.inr ⟨j, hj, Nat.not_lt.mp (fun q => ?_), rfl⟩
    rw [b1_t (by omega) q hn] at h
    cases h
set_option maxHeartbeats 4000000 in
set_option maxRecDepth 100000 in
theorem ct_value (l : Launch) (dC : Nat → ClassId) (dI : Nat → Nat → Nat) (cI cL : ClassId) (zz : Nat) (y0 yR yV yI yX yP yQ yS yD : Nat) (th cn pb ta al be ga de va : Nat) (md pd : Bool) (f v inp mx el qt su pr : Nat → Nat) (k y : Nat) (h0 : 0 < k) (hk : k < 16) (hy : y < 998244353) : Met l yT_value (zW yT_value cT_value 3 (.some .boolean)) ({ frames := 1, cells := 0, slots := 0, locals := 20 }) (va_Pc [.ref y0, .int (nI k), .int (nI y)] (z_P (dC, dI) vwCl [(cI, .int), (cL, .long)] zz ([(y0, .inr (5, [.int (nI th), .ref yR, .int (nI cn), .int (nI pb), .ref yV, .ref yI, .int (z_b md), .long (lN ta), .long (lN al), .long (lN be), .long (lN ga), .long (lN de), .long (lN va), .ref yX, .int (z_b pd), .ref yP, .ref yQ, .ref yS, .ref yD])), (yR, .inl (cL, 816, .inr (.inl (fun x9 => lN (f x9))))), (yV, .inl (cL, 16, .inr (.inl (fun x9 => lN (v x9))))), (yI, .inl (cL, 16, .inr (.inl (fun x9 => lN (inp x9))))), (yX, .inl (cL, 16, .inr (.inl (fun x9 => lN (mx x9))))), (yP, .inl (cL, 3, .inr (.inl (fun x9 => lN (el x9))))), (yQ, .inl (cL, 32, .inr (.inl (fun x9 => lN (qt x9))))), (yS, .inl (cL, 48, .inr (.inl (fun x9 => lN (su x9))))), (yD, .inl (cL, 32, .inr (.inl (fun x9 => lN (pr x9)))))]))) (z_Q (dC, dI) vwCl [(cI, .int), (cL, .long)] (some (.int (z_b true))) ([(y0, .inr (5, [.int (nI 0), .ref yR, .int (nI cn), .int (nI pb), .ref yV, .ref yI, .int (z_b md), .long (lN ta), .long (lN al), .long (lN be), .long (lN ga), .long (lN de), .long (lN va), .ref yX, .int (z_b pd), .ref yP, .ref yQ, .ref yS, .ref yD])), (yR, .inl (cL, 816, .inr (.inl (fun x9 => lN (f x9))))), (yV, .inl (cL, 16, .inr (.inl (fun x9 => lN ((va_up v k y) x9))))), (yI, .inl (cL, 16, .inr (.inl (fun x9 => lN (inp x9))))), (yX, .inl (cL, 16, .inr (.inl (fun x9 => lN (mx x9))))), (yP, .inl (cL, 3, .inr (.inl (fun x9 => lN (el x9))))), (yQ, .inl (cL, 32, .inr (.inl (fun x9 => lN (qt x9))))), (yS, .inl (cL, 48, .inr (.inl (fun x9 => lN (su x9))))), (yD, .inl (cL, 32, .inr (.inl (fun x9 => lN (pr x9)))))]) (va_A ([(y0, .inr (5, [.int (nI th), .ref yR, .int (nI cn), .int (nI pb), .ref yV, .ref yI, .int (z_b md), .long (lN ta), .long (lN al), .long (lN be), .long (lN ga), .long (lN de), .long (lN va), .ref yX, .int (z_b pd), .ref yP, .ref yQ, .ref yS, .ref yD])), (yR, .inl (cL, 816, .inr (.inl (fun x9 => lN (f x9))))), (yV, .inl (cL, 16, .inr (.inl (fun x9 => lN (v x9))))), (yI, .inl (cL, 16, .inr (.inl (fun x9 => lN (inp x9))))), (yX, .inl (cL, 16, .inr (.inl (fun x9 => lN (mx x9))))), (yP, .inl (cL, 3, .inr (.inl (fun x9 => lN (el x9))))), (yQ, .inl (cL, 32, .inr (.inl (fun x9 => lN (qt x9))))), (yS, .inl (cL, 48, .inr (.inl (fun x9 => lN (su x9))))), (yD, .inl (cL, 32, .inr (.inl (fun x9 => lN (pr x9)))))]) zz)) 0 0 (va_A ([(y0, .inr (5, [.int (nI th), .ref yR, .int (nI cn), .int (nI pb), .ref yV, .ref yI, .int (z_b md), .long (lN ta), .long (lN al), .long (lN be), .long (lN ga), .long (lN de), .long (lN va), .ref yX, .int (z_b pd), .ref yP, .ref yQ, .ref yS, .ref yD])), (yR, .inl (cL, 816, .inr (.inl (fun x9 => lN (f x9))))), (yV, .inl (cL, 16, .inr (.inl (fun x9 => lN (v x9))))), (yI, .inl (cL, 16, .inr (.inl (fun x9 => lN (inp x9))))), (yX, .inl (cL, 16, .inr (.inl (fun x9 => lN (mx x9))))), (yP, .inl (cL, 3, .inr (.inl (fun x9 => lN (el x9))))), (yQ, .inl (cL, 32, .inr (.inl (fun x9 => lN (qt x9))))), (yS, .inl (cL, 48, .inr (.inl (fun x9 => lN (su x9))))), (yD, .inl (cL, 32, .inr (.inl (fun x9 => lN (pr x9)))))]) zz) := by
  refine Met.ofW (cc := cT_value) (maxL := 3) (ret := (.some .boolean)) (by decide) rfl ?_
  intro p e s m args below meth c s₁ B hml hv
  obtain ⟨rfl, hsz, hP, hK, hD0⟩ := hv
  have F : CallFix p m c cT_value 3 s _ zT RT := ⟨B.exec, B.bytes, hml, findClass_of_methodNamed B.named, fun w h => atoms_spec (ws := (zW yT_value cT_value 3 (.some .boolean))) B.pre w (List.mem_cons_of_mem _ h)⟩
  have hr := B.returns
  have hlocks := B.notSynchronized
  subst hsz
  have hD := hD0.self (sz := s.heap.size)
  generalize hAe : va_A ([(y0, .inr (5, [.int (nI th), .ref yR, .int (nI cn), .int (nI pb), .ref yV, .ref yI, .int (z_b md), .long (lN ta), .long (lN al), .long (lN be), .long (lN ga), .long (lN de), .long (lN va), .ref yX, .int (z_b pd), .ref yP, .ref yQ, .ref yS, .ref yD])), (yR, .inl (cL, 816, .inr (.inl (fun x9 => lN (f x9))))), (yV, .inl (cL, 16, .inr (.inl (fun x9 => lN (v x9))))), (yI, .inl (cL, 16, .inr (.inl (fun x9 => lN (inp x9))))), (yX, .inl (cL, 16, .inr (.inl (fun x9 => lN (mx x9))))), (yP, .inl (cL, 3, .inr (.inl (fun x9 => lN (el x9))))), (yQ, .inl (cL, 32, .inr (.inl (fun x9 => lN (qt x9))))), (yS, .inl (cL, 48, .inr (.inl (fun x9 => lN (su x9))))), (yD, .inl (cL, 32, .inr (.inl (fun x9 => lN (pr x9)))))]) s.heap.size = A at hD ⊢
  have hAA : ∀ q : Nat, s.heap.size ≤ q → A q := fun q h => by rw [← hAe]; exact Or.inr h
  have hS : va_S A s.heap s.heap [] := va_S.rf
  have hl := lv_entry ([.ref y0, .int (nI k), .int (nI y)]) (n := 3) (Nat.le_of_ble_eq_true rfl)
  rw [lg_entry_eq]
  generalize (lg_sl ([.ref y0, .int (nI k), .int (nI y)]) ++ List.replicate (3 - (lg_sl ([.ref y0, .int (nI k), .int (nI y)])).length) Slot.unset).toArray = ls at hl ⊢
  have hl : lv_has ls 3 [(0, .ref y0), (1, .int (nI k)), (2, .int (nI y))] := hl
  refine lv_aload_n F.1 F.2.1 dT_value_0 rfl (lv_at hl 0 rfl) ?_
  refine lv_iload_n F.1 F.2.1 dT_value_1 rfl (lv_at hl 1 rfl) ?_
  refine z_iconst (v := 1) F (by decide) dT_value_2 ?_
  refine z_icmp_lt F (by omega) (by omega) (tgt := 19) dT_value_3 rfl (fun h => absurd h (by omega)) (fun h => ?_)
  refine lv_iload_n F.1 F.2.1 dT_value_6 rfl (lv_at hl 1 rfl) ?_
  refine z_bipush (v := 15) F (by decide) dT_value_7 ?_
  refine z_icmp_gt F (by omega) (by omega) (tgt := 19) dT_value_9 rfl (fun h => absurd h (by omega)) (fun h => ?_)
  refine lv_iload_n F.1 F.2.1 dT_value_12 rfl (lv_at hl 2 rfl) ?_
  refine z_call (z_runS [.int (nI y)] [.ref y0] F (ct_isNumber_t l y (by omega)) kk_T_isNumber wl_T_49 rfl rfl ⟨Nat.le_of_ble_eq_true rfl, Nat.le_of_ble_eq_true rfl⟩ z_preN rfl hl.1 rfl (Nat.le_of_ble_eq_true rfl) dT_value_13 ⟨Nat.zero_le _, Nat.zero_le _⟩) ?_
  refine z_if_ne F (by omega) (tgt := 23) dT_value_16 rfl (fun h => ?_) (fun h => absurd h (by decide))
  refine z_iconst (v := 0) F (by decide) dT_value_23 ?_
  refine z_put F hK hP hD hS hinT tyT tyT_ok nmT 0 rfl rfl 0 (by decide) rfl rfl wf_T_34 (rfl) (rfl) (Nat.le_of_ble_eq_true rfl) dT_value_24 (fun H locs hP hD hS => ?_)
  have hP : va_P (dC, dI) vwCl ([(y0, .inr (5, [.int (nI 0), .ref yR, .int (nI cn), .int (nI pb), .ref yV, .ref yI, .int (z_b md), .long (lN ta), .long (lN al), .long (lN be), .long (lN ga), .long (lN de), .long (lN va), .ref yX, .int (z_b pd), .ref yP, .ref yQ, .ref yS, .ref yD])), (yR, .inl (cL, 816, .inr (.inl (fun x9 => lN (f x9))))), (yV, .inl (cL, 16, .inr (.inl (fun x9 => lN (v x9))))), (yI, .inl (cL, 16, .inr (.inl (fun x9 => lN (inp x9))))), (yX, .inl (cL, 16, .inr (.inl (fun x9 => lN (mx x9))))), (yP, .inl (cL, 3, .inr (.inl (fun x9 => lN (el x9))))), (yQ, .inl (cL, 32, .inr (.inl (fun x9 => lN (qt x9))))), (yS, .inl (cL, 48, .inr (.inl (fun x9 => lN (su x9))))), (yD, .inl (cL, 32, .inr (.inl (fun x9 => lN (pr x9)))))]) H := hP
  have hD : va_D A ([(y0, .inr (5, [.int (nI 0), .ref yR, .int (nI cn), .int (nI pb), .ref yV, .ref yI, .int (z_b md), .long (lN ta), .long (lN al), .long (lN be), .long (lN ga), .long (lN de), .long (lN va), .ref yX, .int (z_b pd), .ref yP, .ref yQ, .ref yS, .ref yD])), (yR, .inl (cL, 816, .inr (.inl (fun x9 => lN (f x9))))), (yV, .inl (cL, 16, .inr (.inl (fun x9 => lN (v x9))))), (yI, .inl (cL, 16, .inr (.inl (fun x9 => lN (inp x9))))), (yX, .inl (cL, 16, .inr (.inl (fun x9 => lN (mx x9))))), (yP, .inl (cL, 3, .inr (.inl (fun x9 => lN (el x9))))), (yQ, .inl (cL, 32, .inr (.inl (fun x9 => lN (qt x9))))), (yS, .inl (cL, 48, .inr (.inl (fun x9 => lN (su x9))))), (yD, .inl (cL, 32, .inr (.inl (fun x9 => lN (pr x9)))))]) := hD
  refine lv_aload_n F.1 F.2.1 dT_value_27 rfl (lv_at hl 0 rfl) ?_
  refine z_get F hK hP hinT 0 rfl rfl 0 (by decide) rfl wf_T_34 rfl dT_value_28 ?_
  refine z_if_le F (by omega) (tgt := 36) dT_value_31 rfl (fun h => ?_) (fun h => absurd h (by decide))
  refine lv_aload_n F.1 F.2.1 dT_value_36 rfl (lv_at hl 0 rfl) ?_
  refine z_get F hK hP hinT 0 rfl rfl 4 (by decide) rfl wf_T_13 rfl dT_value_37 ?_
  refine lv_iload_n F.1 F.2.1 dT_value_40 rfl (lv_at hl 1 rfl) ?_
  refine lv_iload_n F.1 F.2.1 dT_value_41 rfl (lv_at hl 2 rfl) ?_
  refine z_i2l F (by omega) dT_value_42 ?_
  refine z_last F hK hP hD hS 2 1 rfl rfl (by omega) (by decide) dT_value_43 (fun H locs hP hD hS => ?_)
  have hP : va_P (dC, dI) vwCl ([(y0, .inr (5, [.int (nI 0), .ref yR, .int (nI cn), .int (nI pb), .ref yV, .ref yI, .int (z_b md), .long (lN ta), .long (lN al), .long (lN be), .long (lN ga), .long (lN de), .long (lN va), .ref yX, .int (z_b pd), .ref yP, .ref yQ, .ref yS, .ref yD])), (yR, .inl (cL, 816, .inr (.inl (fun x9 => lN (f x9))))), (yV, .inl (cL, 16, .inr (.inl (fun x9 => lN ((va_up v k y) x9))))), (yI, .inl (cL, 16, .inr (.inl (fun x9 => lN (inp x9))))), (yX, .inl (cL, 16, .inr (.inl (fun x9 => lN (mx x9))))), (yP, .inl (cL, 3, .inr (.inl (fun x9 => lN (el x9))))), (yQ, .inl (cL, 32, .inr (.inl (fun x9 => lN (qt x9))))), (yS, .inl (cL, 48, .inr (.inl (fun x9 => lN (su x9))))), (yD, .inl (cL, 32, .inr (.inl (fun x9 => lN (pr x9)))))]) H := hP
  have hD : va_D A ([(y0, .inr (5, [.int (nI 0), .ref yR, .int (nI cn), .int (nI pb), .ref yV, .ref yI, .int (z_b md), .long (lN ta), .long (lN al), .long (lN be), .long (lN ga), .long (lN de), .long (lN va), .ref yX, .int (z_b pd), .ref yP, .ref yQ, .ref yS, .ref yD])), (yR, .inl (cL, 816, .inr (.inl (fun x9 => lN (f x9))))), (yV, .inl (cL, 16, .inr (.inl (fun x9 => lN ((va_up v k y) x9))))), (yI, .inl (cL, 16, .inr (.inl (fun x9 => lN (inp x9))))), (yX, .inl (cL, 16, .inr (.inl (fun x9 => lN (mx x9))))), (yP, .inl (cL, 3, .inr (.inl (fun x9 => lN (el x9))))), (yQ, .inl (cL, 32, .inr (.inl (fun x9 => lN (qt x9))))), (yS, .inl (cL, 48, .inr (.inl (fun x9 => lN (su x9))))), (yD, .inl (cL, 32, .inr (.inl (fun x9 => lN (pr x9)))))]) := hD
  refine z_iconst (v := 1) F (by decide) dT_value_44 ?_
  refine z_topV (z_b true) (by decide) ?_
  exact W.zret F.1 F.2.1 hr rfl (fun t ht hW => ⟨rfl, by rw [ht]; exact hP, va_K.moved hW.alike hK, hD, hS.F ht⟩) hS.2.2 dT_value_45
set_option maxHeartbeats 4000000 in
set_option maxRecDepth 100000 in
theorem ct_value_no (l : Launch) (dC : Nat → ClassId) (dI : Nat → Nat → Nat) (cI cL : ClassId) (zz : Nat) (y0 yR yV yI yX yP yQ yS yD : Nat) (th cn pb ta al be ga de va : Nat) (md pd : Bool) (f v inp mx el qt su pr : Nat → Nat) (x y : Int32) (h : (b1 x 16 && bl y 998244353) = false) : Met l yT_value (zW yT_value cT_value 3 (.some .boolean)) ({ frames := 1, cells := 0, slots := 0, locals := 20 }) (va_Pc [.ref y0, .int x, .int y] (z_P (dC, dI) vwCl [(cI, .int), (cL, .long)] zz ([(y0, .inr (5, [.int (nI th), .ref yR, .int (nI cn), .int (nI pb), .ref yV, .ref yI, .int (z_b md), .long (lN ta), .long (lN al), .long (lN be), .long (lN ga), .long (lN de), .long (lN va), .ref yX, .int (z_b pd), .ref yP, .ref yQ, .ref yS, .ref yD])), (yR, .inl (cL, 816, .inr (.inl (fun x9 => lN (f x9))))), (yV, .inl (cL, 16, .inr (.inl (fun x9 => lN (v x9))))), (yI, .inl (cL, 16, .inr (.inl (fun x9 => lN (inp x9))))), (yX, .inl (cL, 16, .inr (.inl (fun x9 => lN (mx x9))))), (yP, .inl (cL, 3, .inr (.inl (fun x9 => lN (el x9))))), (yQ, .inl (cL, 32, .inr (.inl (fun x9 => lN (qt x9))))), (yS, .inl (cL, 48, .inr (.inl (fun x9 => lN (su x9))))), (yD, .inl (cL, 32, .inr (.inl (fun x9 => lN (pr x9)))))]))) (z_Q (dC, dI) vwCl [(cI, .int), (cL, .long)] (some (.int (z_b false))) ([(y0, .inr (5, [.int (nI 1), .ref yR, .int (nI cn), .int (nI pb), .ref yV, .ref yI, .int (z_b md), .long (lN ta), .long (lN al), .long (lN be), .long (lN ga), .long (lN de), .long (lN va), .ref yX, .int (z_b pd), .ref yP, .ref yQ, .ref yS, .ref yD])), (yR, .inl (cL, 816, .inr (.inl (fun x9 => lN (f x9))))), (yV, .inl (cL, 16, .inr (.inl (fun x9 => lN (v x9))))), (yI, .inl (cL, 16, .inr (.inl (fun x9 => lN (inp x9))))), (yX, .inl (cL, 16, .inr (.inl (fun x9 => lN (mx x9))))), (yP, .inl (cL, 3, .inr (.inl (fun x9 => lN (el x9))))), (yQ, .inl (cL, 32, .inr (.inl (fun x9 => lN (qt x9))))), (yS, .inl (cL, 48, .inr (.inl (fun x9 => lN (su x9))))), (yD, .inl (cL, 32, .inr (.inl (fun x9 => lN (pr x9)))))]) (va_A ([(y0, .inr (5, [.int (nI th), .ref yR, .int (nI cn), .int (nI pb), .ref yV, .ref yI, .int (z_b md), .long (lN ta), .long (lN al), .long (lN be), .long (lN ga), .long (lN de), .long (lN va), .ref yX, .int (z_b pd), .ref yP, .ref yQ, .ref yS, .ref yD])), (yR, .inl (cL, 816, .inr (.inl (fun x9 => lN (f x9))))), (yV, .inl (cL, 16, .inr (.inl (fun x9 => lN (v x9))))), (yI, .inl (cL, 16, .inr (.inl (fun x9 => lN (inp x9))))), (yX, .inl (cL, 16, .inr (.inl (fun x9 => lN (mx x9))))), (yP, .inl (cL, 3, .inr (.inl (fun x9 => lN (el x9))))), (yQ, .inl (cL, 32, .inr (.inl (fun x9 => lN (qt x9))))), (yS, .inl (cL, 48, .inr (.inl (fun x9 => lN (su x9))))), (yD, .inl (cL, 32, .inr (.inl (fun x9 => lN (pr x9)))))]) zz)) 0 0 (va_A ([(y0, .inr (5, [.int (nI th), .ref yR, .int (nI cn), .int (nI pb), .ref yV, .ref yI, .int (z_b md), .long (lN ta), .long (lN al), .long (lN be), .long (lN ga), .long (lN de), .long (lN va), .ref yX, .int (z_b pd), .ref yP, .ref yQ, .ref yS, .ref yD])), (yR, .inl (cL, 816, .inr (.inl (fun x9 => lN (f x9))))), (yV, .inl (cL, 16, .inr (.inl (fun x9 => lN (v x9))))), (yI, .inl (cL, 16, .inr (.inl (fun x9 => lN (inp x9))))), (yX, .inl (cL, 16, .inr (.inl (fun x9 => lN (mx x9))))), (yP, .inl (cL, 3, .inr (.inl (fun x9 => lN (el x9))))), (yQ, .inl (cL, 32, .inr (.inl (fun x9 => lN (qt x9))))), (yS, .inl (cL, 48, .inr (.inl (fun x9 => lN (su x9))))), (yD, .inl (cL, 32, .inr (.inl (fun x9 => lN (pr x9)))))]) zz) := by
  refine Met.ofW (cc := cT_value) (maxL := 3) (ret := (.some .boolean)) (by decide) rfl ?_
  intro p e s m args below meth c s₁ B hml hv
  obtain ⟨rfl, hsz, hP, hK, hD0⟩ := hv
  have F : CallFix p m c cT_value 3 s _ zT RT := ⟨B.exec, B.bytes, hml, findClass_of_methodNamed B.named, fun w h => atoms_spec (ws := (zW yT_value cT_value 3 (.some .boolean))) B.pre w (List.mem_cons_of_mem _ h)⟩
  have hr := B.returns
  have hlocks := B.notSynchronized
  subst hsz
  have hD := hD0.self (sz := s.heap.size)
  generalize hAe : va_A ([(y0, .inr (5, [.int (nI th), .ref yR, .int (nI cn), .int (nI pb), .ref yV, .ref yI, .int (z_b md), .long (lN ta), .long (lN al), .long (lN be), .long (lN ga), .long (lN de), .long (lN va), .ref yX, .int (z_b pd), .ref yP, .ref yQ, .ref yS, .ref yD])), (yR, .inl (cL, 816, .inr (.inl (fun x9 => lN (f x9))))), (yV, .inl (cL, 16, .inr (.inl (fun x9 => lN (v x9))))), (yI, .inl (cL, 16, .inr (.inl (fun x9 => lN (inp x9))))), (yX, .inl (cL, 16, .inr (.inl (fun x9 => lN (mx x9))))), (yP, .inl (cL, 3, .inr (.inl (fun x9 => lN (el x9))))), (yQ, .inl (cL, 32, .inr (.inl (fun x9 => lN (qt x9))))), (yS, .inl (cL, 48, .inr (.inl (fun x9 => lN (su x9))))), (yD, .inl (cL, 32, .inr (.inl (fun x9 => lN (pr x9)))))]) s.heap.size = A at hD ⊢
  have hAA : ∀ q : Nat, s.heap.size ≤ q → A q := fun q h => by rw [← hAe]; exact Or.inr h
  have hS : va_S A s.heap s.heap [] := va_S.rf
  have hl := lv_entry ([.ref y0, .int x, .int y]) (n := 3) (Nat.le_of_ble_eq_true rfl)
  rw [lg_entry_eq]
  generalize (lg_sl ([.ref y0, .int x, .int y]) ++ List.replicate (3 - (lg_sl ([.ref y0, .int x, .int y])).length) Slot.unset).toArray = ls at hl ⊢
  have hl : lv_has ls 3 [(0, .ref y0), (1, .int x), (2, .int y)] := hl
  cases h9 : b1 x 16 with
  | false =>
    rcases b1_no h9 (by decide) with h8 | ⟨j, hj, h8, rfl⟩
    · refine lv_aload_n F.1 F.2.1 dT_value_0 rfl (lv_at hl 0 rfl) ?_
      refine lv_iload_n F.1 F.2.1 dT_value_1 rfl (lv_at hl 1 rfl) ?_
      refine z_iconst (v := 1) F (by decide) dT_value_2 ?_
      refine lv_icmp_lt F.1 F.2.1 (tgt := 19) dT_value_3 rfl (fun h => ?_) (fun h => absurd h8 h)
      refine z_iconst (v := 1) F (by decide) dT_value_19 ?_
      refine lv_goto F.1 F.2.1 (tgt := 24) dT_value_20 rfl ?_
      refine z_put F hK hP hD hS hinT tyT tyT_ok nmT 0 rfl rfl 0 (by decide) rfl rfl wf_T_34 (rfl) (rfl) (Nat.le_of_ble_eq_true rfl) dT_value_24 (fun H locs hP hD hS => ?_)
      have hP : va_P (dC, dI) vwCl ([(y0, .inr (5, [.int (nI 1), .ref yR, .int (nI cn), .int (nI pb), .ref yV, .ref yI, .int (z_b md), .long (lN ta), .long (lN al), .long (lN be), .long (lN ga), .long (lN de), .long (lN va), .ref yX, .int (z_b pd), .ref yP, .ref yQ, .ref yS, .ref yD])), (yR, .inl (cL, 816, .inr (.inl (fun x9 => lN (f x9))))), (yV, .inl (cL, 16, .inr (.inl (fun x9 => lN (v x9))))), (yI, .inl (cL, 16, .inr (.inl (fun x9 => lN (inp x9))))), (yX, .inl (cL, 16, .inr (.inl (fun x9 => lN (mx x9))))), (yP, .inl (cL, 3, .inr (.inl (fun x9 => lN (el x9))))), (yQ, .inl (cL, 32, .inr (.inl (fun x9 => lN (qt x9))))), (yS, .inl (cL, 48, .inr (.inl (fun x9 => lN (su x9))))), (yD, .inl (cL, 32, .inr (.inl (fun x9 => lN (pr x9)))))]) H := hP
      have hD : va_D A ([(y0, .inr (5, [.int (nI 1), .ref yR, .int (nI cn), .int (nI pb), .ref yV, .ref yI, .int (z_b md), .long (lN ta), .long (lN al), .long (lN be), .long (lN ga), .long (lN de), .long (lN va), .ref yX, .int (z_b pd), .ref yP, .ref yQ, .ref yS, .ref yD])), (yR, .inl (cL, 816, .inr (.inl (fun x9 => lN (f x9))))), (yV, .inl (cL, 16, .inr (.inl (fun x9 => lN (v x9))))), (yI, .inl (cL, 16, .inr (.inl (fun x9 => lN (inp x9))))), (yX, .inl (cL, 16, .inr (.inl (fun x9 => lN (mx x9))))), (yP, .inl (cL, 3, .inr (.inl (fun x9 => lN (el x9))))), (yQ, .inl (cL, 32, .inr (.inl (fun x9 => lN (qt x9))))), (yS, .inl (cL, 48, .inr (.inl (fun x9 => lN (su x9))))), (yD, .inl (cL, 32, .inr (.inl (fun x9 => lN (pr x9)))))]) := hD
      refine lv_aload_n F.1 F.2.1 dT_value_27 rfl (lv_at hl 0 rfl) ?_
      refine z_get F hK hP hinT 0 rfl rfl 0 (by decide) rfl wf_T_34 rfl dT_value_28 ?_
      refine z_if_le F (by omega) (tgt := 36) dT_value_31 rfl (fun h => absurd h (by decide)) (fun h => ?_)
      refine z_iconst (v := 0) F (by decide) dT_value_34 ?_
      refine z_topV (z_b false) (by decide) ?_
      exact W.zret F.1 F.2.1 hr rfl (fun t ht hW => ⟨rfl, by rw [ht]; exact hP, va_K.moved hW.alike hK, hD, hS.F ht⟩) hS.2.2 dT_value_35
    · have hl : lv_has ls 3 [(0, .ref y0), (1, .int (nI j)), (2, .int y)] := hl
      refine lv_aload_n F.1 F.2.1 dT_value_0 rfl (lv_at hl 0 rfl) ?_
      refine lv_iload_n F.1 F.2.1 dT_value_1 rfl (lv_at hl 1 rfl) ?_
      refine z_iconst (v := 1) F (by decide) dT_value_2 ?_
      refine z_icmp_lt F (by omega) (by omega) (tgt := 19) dT_value_3 rfl (fun h => absurd h (by omega)) (fun h => ?_)
      refine lv_iload_n F.1 F.2.1 dT_value_6 rfl (lv_at hl 1 rfl) ?_
      refine z_bipush (v := 15) F (by decide) dT_value_7 ?_
      refine z_icmp_gt F (by omega) (by omega) (tgt := 19) dT_value_9 rfl (fun h => ?_) (fun h => absurd h (by omega))
      refine z_iconst (v := 1) F (by decide) dT_value_19 ?_
      refine lv_goto F.1 F.2.1 (tgt := 24) dT_value_20 rfl ?_
      refine z_put F hK hP hD hS hinT tyT tyT_ok nmT 0 rfl rfl 0 (by decide) rfl rfl wf_T_34 (rfl) (rfl) (Nat.le_of_ble_eq_true rfl) dT_value_24 (fun H locs hP hD hS => ?_)
      have hP : va_P (dC, dI) vwCl ([(y0, .inr (5, [.int (nI 1), .ref yR, .int (nI cn), .int (nI pb), .ref yV, .ref yI, .int (z_b md), .long (lN ta), .long (lN al), .long (lN be), .long (lN ga), .long (lN de), .long (lN va), .ref yX, .int (z_b pd), .ref yP, .ref yQ, .ref yS, .ref yD])), (yR, .inl (cL, 816, .inr (.inl (fun x9 => lN (f x9))))), (yV, .inl (cL, 16, .inr (.inl (fun x9 => lN (v x9))))), (yI, .inl (cL, 16, .inr (.inl (fun x9 => lN (inp x9))))), (yX, .inl (cL, 16, .inr (.inl (fun x9 => lN (mx x9))))), (yP, .inl (cL, 3, .inr (.inl (fun x9 => lN (el x9))))), (yQ, .inl (cL, 32, .inr (.inl (fun x9 => lN (qt x9))))), (yS, .inl (cL, 48, .inr (.inl (fun x9 => lN (su x9))))), (yD, .inl (cL, 32, .inr (.inl (fun x9 => lN (pr x9)))))]) H := hP
      have hD : va_D A ([(y0, .inr (5, [.int (nI 1), .ref yR, .int (nI cn), .int (nI pb), .ref yV, .ref yI, .int (z_b md), .long (lN ta), .long (lN al), .long (lN be), .long (lN ga), .long (lN de), .long (lN va), .ref yX, .int (z_b pd), .ref yP, .ref yQ, .ref yS, .ref yD])), (yR, .inl (cL, 816, .inr (.inl (fun x9 => lN (f x9))))), (yV, .inl (cL, 16, .inr (.inl (fun x9 => lN (v x9))))), (yI, .inl (cL, 16, .inr (.inl (fun x9 => lN (inp x9))))), (yX, .inl (cL, 16, .inr (.inl (fun x9 => lN (mx x9))))), (yP, .inl (cL, 3, .inr (.inl (fun x9 => lN (el x9))))), (yQ, .inl (cL, 32, .inr (.inl (fun x9 => lN (qt x9))))), (yS, .inl (cL, 48, .inr (.inl (fun x9 => lN (su x9))))), (yD, .inl (cL, 32, .inr (.inl (fun x9 => lN (pr x9)))))]) := hD
      refine lv_aload_n F.1 F.2.1 dT_value_27 rfl (lv_at hl 0 rfl) ?_
      refine z_get F hK hP hinT 0 rfl rfl 0 (by decide) rfl wf_T_34 rfl dT_value_28 ?_
      refine z_if_le F (by omega) (tgt := 36) dT_value_31 rfl (fun h => absurd h (by decide)) (fun h => ?_)
      refine z_iconst (v := 0) F (by decide) dT_value_34 ?_
      refine z_topV (z_b false) (by decide) ?_
      exact W.zret F.1 F.2.1 hr rfl (fun t ht hW => ⟨rfl, by rw [ht]; exact hP, va_K.moved hW.alike hK, hD, hS.F ht⟩) hS.2.2 dT_value_35
  | true =>
    rw [h9, Bool.true_and] at h
    obtain ⟨j, hj0, hj, rfl⟩ := b1_of h9 (by decide)
    have hl : lv_has ls 3 [(0, .ref y0), (1, .int (nI j)), (2, .int y)] := hl
    clear h9
    have h9 := h
    refine lv_aload_n F.1 F.2.1 dT_value_0 rfl (lv_at hl 0 rfl) ?_
    refine lv_iload_n F.1 F.2.1 dT_value_1 rfl (lv_at hl 1 rfl) ?_
    refine z_iconst (v := 1) F (by decide) dT_value_2 ?_
    refine z_icmp_lt F (by omega) (by omega) (tgt := 19) dT_value_3 rfl (fun h => absurd h (by omega)) (fun h => ?_)
    refine lv_iload_n F.1 F.2.1 dT_value_6 rfl (lv_at hl 1 rfl) ?_
    refine z_bipush (v := 15) F (by decide) dT_value_7 ?_
    refine z_icmp_gt F (by omega) (by omega) (tgt := 19) dT_value_9 rfl (fun h => absurd h (by omega)) (fun h => ?_)
    refine lv_iload_n F.1 F.2.1 dT_value_12 rfl (lv_at hl 2 rfl) ?_
    refine z_call (z_runS [.int y] [.ref y0] F (ct_isNumber l y) kk_T_isNumber wl_T_49 rfl rfl ⟨Nat.le_of_ble_eq_true rfl, Nat.le_of_ble_eq_true rfl⟩ z_preN rfl hl.1 rfl (Nat.le_of_ble_eq_true rfl) dT_value_13 ⟨Nat.zero_le _, Nat.zero_le _⟩) ?_
    refine z_ifb_ne F (tgt := 23) dT_value_16 rfl (fun h => by rw [h9] at h; cases h) (fun h => ?_)
    refine z_iconst (v := 1) F (by decide) dT_value_19 ?_
    refine lv_goto F.1 F.2.1 (tgt := 24) dT_value_20 rfl ?_
    refine z_put F hK hP hD hS hinT tyT tyT_ok nmT 0 rfl rfl 0 (by decide) rfl rfl wf_T_34 (rfl) (rfl) (Nat.le_of_ble_eq_true rfl) dT_value_24 (fun H locs hP hD hS => ?_)
    have hP : va_P (dC, dI) vwCl ([(y0, .inr (5, [.int (nI 1), .ref yR, .int (nI cn), .int (nI pb), .ref yV, .ref yI, .int (z_b md), .long (lN ta), .long (lN al), .long (lN be), .long (lN ga), .long (lN de), .long (lN va), .ref yX, .int (z_b pd), .ref yP, .ref yQ, .ref yS, .ref yD])), (yR, .inl (cL, 816, .inr (.inl (fun x9 => lN (f x9))))), (yV, .inl (cL, 16, .inr (.inl (fun x9 => lN (v x9))))), (yI, .inl (cL, 16, .inr (.inl (fun x9 => lN (inp x9))))), (yX, .inl (cL, 16, .inr (.inl (fun x9 => lN (mx x9))))), (yP, .inl (cL, 3, .inr (.inl (fun x9 => lN (el x9))))), (yQ, .inl (cL, 32, .inr (.inl (fun x9 => lN (qt x9))))), (yS, .inl (cL, 48, .inr (.inl (fun x9 => lN (su x9))))), (yD, .inl (cL, 32, .inr (.inl (fun x9 => lN (pr x9)))))]) H := hP
    have hD : va_D A ([(y0, .inr (5, [.int (nI 1), .ref yR, .int (nI cn), .int (nI pb), .ref yV, .ref yI, .int (z_b md), .long (lN ta), .long (lN al), .long (lN be), .long (lN ga), .long (lN de), .long (lN va), .ref yX, .int (z_b pd), .ref yP, .ref yQ, .ref yS, .ref yD])), (yR, .inl (cL, 816, .inr (.inl (fun x9 => lN (f x9))))), (yV, .inl (cL, 16, .inr (.inl (fun x9 => lN (v x9))))), (yI, .inl (cL, 16, .inr (.inl (fun x9 => lN (inp x9))))), (yX, .inl (cL, 16, .inr (.inl (fun x9 => lN (mx x9))))), (yP, .inl (cL, 3, .inr (.inl (fun x9 => lN (el x9))))), (yQ, .inl (cL, 32, .inr (.inl (fun x9 => lN (qt x9))))), (yS, .inl (cL, 48, .inr (.inl (fun x9 => lN (su x9))))), (yD, .inl (cL, 32, .inr (.inl (fun x9 => lN (pr x9)))))]) := hD
    refine lv_aload_n F.1 F.2.1 dT_value_27 rfl (lv_at hl 0 rfl) ?_
    refine z_get F hK hP hinT 0 rfl rfl 0 (by decide) rfl wf_T_34 rfl dT_value_28 ?_
    refine z_if_le F (by omega) (tgt := 36) dT_value_31 rfl (fun h => absurd h (by decide)) (fun h => ?_)
    refine z_iconst (v := 0) F (by decide) dT_value_34 ?_
    refine z_topV (z_b false) (by decide) ?_
    exact W.zret F.1 F.2.1 hr rfl (fun t ht hW => ⟨rfl, by rw [ht]; exact hP, va_K.moved hW.alike hK, hD, hS.F ht⟩) hS.2.2 dT_value_35
set_option maxHeartbeats 4000000 in
set_option maxRecDepth 100000 in
theorem ct_input (l : Launch) (dC : Nat → ClassId) (dI : Nat → Nat → Nat) (cI cL : ClassId) (zz : Nat) (y0 yR yV yI yX yP yQ yS yD : Nat) (th cn pb ta al be ga de va : Nat) (md pd : Bool) (f v inp mx el qt su pr : Nat → Nat) (k y : Nat) (h0 : 0 < k) (hk : k < 7) (hy : y < 998244353) : Met l yT_input (zW yT_input cT_input 3 (.some .boolean)) ({ frames := 1, cells := 0, slots := 0, locals := 20 }) (va_Pc [.ref y0, .int (nI k), .int (nI y)] (z_P (dC, dI) vwCl [(cI, .int), (cL, .long)] zz ([(y0, .inr (5, [.int (nI th), .ref yR, .int (nI cn), .int (nI pb), .ref yV, .ref yI, .int (z_b md), .long (lN ta), .long (lN al), .long (lN be), .long (lN ga), .long (lN de), .long (lN va), .ref yX, .int (z_b pd), .ref yP, .ref yQ, .ref yS, .ref yD])), (yR, .inl (cL, 816, .inr (.inl (fun x9 => lN (f x9))))), (yV, .inl (cL, 16, .inr (.inl (fun x9 => lN (v x9))))), (yI, .inl (cL, 16, .inr (.inl (fun x9 => lN (inp x9))))), (yX, .inl (cL, 16, .inr (.inl (fun x9 => lN (mx x9))))), (yP, .inl (cL, 3, .inr (.inl (fun x9 => lN (el x9))))), (yQ, .inl (cL, 32, .inr (.inl (fun x9 => lN (qt x9))))), (yS, .inl (cL, 48, .inr (.inl (fun x9 => lN (su x9))))), (yD, .inl (cL, 32, .inr (.inl (fun x9 => lN (pr x9)))))]))) (z_Q (dC, dI) vwCl [(cI, .int), (cL, .long)] (some (.int (z_b true))) ([(y0, .inr (5, [.int (nI 0), .ref yR, .int (nI cn), .int (nI pb), .ref yV, .ref yI, .int (z_b md), .long (lN ta), .long (lN al), .long (lN be), .long (lN ga), .long (lN de), .long (lN va), .ref yX, .int (z_b pd), .ref yP, .ref yQ, .ref yS, .ref yD])), (yR, .inl (cL, 816, .inr (.inl (fun x9 => lN (f x9))))), (yV, .inl (cL, 16, .inr (.inl (fun x9 => lN (v x9))))), (yI, .inl (cL, 16, .inr (.inl (fun x9 => lN ((va_up inp k y) x9))))), (yX, .inl (cL, 16, .inr (.inl (fun x9 => lN (mx x9))))), (yP, .inl (cL, 3, .inr (.inl (fun x9 => lN (el x9))))), (yQ, .inl (cL, 32, .inr (.inl (fun x9 => lN (qt x9))))), (yS, .inl (cL, 48, .inr (.inl (fun x9 => lN (su x9))))), (yD, .inl (cL, 32, .inr (.inl (fun x9 => lN (pr x9)))))]) (va_A ([(y0, .inr (5, [.int (nI th), .ref yR, .int (nI cn), .int (nI pb), .ref yV, .ref yI, .int (z_b md), .long (lN ta), .long (lN al), .long (lN be), .long (lN ga), .long (lN de), .long (lN va), .ref yX, .int (z_b pd), .ref yP, .ref yQ, .ref yS, .ref yD])), (yR, .inl (cL, 816, .inr (.inl (fun x9 => lN (f x9))))), (yV, .inl (cL, 16, .inr (.inl (fun x9 => lN (v x9))))), (yI, .inl (cL, 16, .inr (.inl (fun x9 => lN (inp x9))))), (yX, .inl (cL, 16, .inr (.inl (fun x9 => lN (mx x9))))), (yP, .inl (cL, 3, .inr (.inl (fun x9 => lN (el x9))))), (yQ, .inl (cL, 32, .inr (.inl (fun x9 => lN (qt x9))))), (yS, .inl (cL, 48, .inr (.inl (fun x9 => lN (su x9))))), (yD, .inl (cL, 32, .inr (.inl (fun x9 => lN (pr x9)))))]) zz)) 0 0 (va_A ([(y0, .inr (5, [.int (nI th), .ref yR, .int (nI cn), .int (nI pb), .ref yV, .ref yI, .int (z_b md), .long (lN ta), .long (lN al), .long (lN be), .long (lN ga), .long (lN de), .long (lN va), .ref yX, .int (z_b pd), .ref yP, .ref yQ, .ref yS, .ref yD])), (yR, .inl (cL, 816, .inr (.inl (fun x9 => lN (f x9))))), (yV, .inl (cL, 16, .inr (.inl (fun x9 => lN (v x9))))), (yI, .inl (cL, 16, .inr (.inl (fun x9 => lN (inp x9))))), (yX, .inl (cL, 16, .inr (.inl (fun x9 => lN (mx x9))))), (yP, .inl (cL, 3, .inr (.inl (fun x9 => lN (el x9))))), (yQ, .inl (cL, 32, .inr (.inl (fun x9 => lN (qt x9))))), (yS, .inl (cL, 48, .inr (.inl (fun x9 => lN (su x9))))), (yD, .inl (cL, 32, .inr (.inl (fun x9 => lN (pr x9)))))]) zz) := by
  refine Met.ofW (cc := cT_input) (maxL := 3) (ret := (.some .boolean)) (by decide) rfl ?_
  intro p e s m args below meth c s₁ B hml hv
  obtain ⟨rfl, hsz, hP, hK, hD0⟩ := hv
  have F : CallFix p m c cT_input 3 s _ zT RT := ⟨B.exec, B.bytes, hml, findClass_of_methodNamed B.named, fun w h => atoms_spec (ws := (zW yT_input cT_input 3 (.some .boolean))) B.pre w (List.mem_cons_of_mem _ h)⟩
  have hr := B.returns
  have hlocks := B.notSynchronized
  subst hsz
  have hD := hD0.self (sz := s.heap.size)
  generalize hAe : va_A ([(y0, .inr (5, [.int (nI th), .ref yR, .int (nI cn), .int (nI pb), .ref yV, .ref yI, .int (z_b md), .long (lN ta), .long (lN al), .long (lN be), .long (lN ga), .long (lN de), .long (lN va), .ref yX, .int (z_b pd), .ref yP, .ref yQ, .ref yS, .ref yD])), (yR, .inl (cL, 816, .inr (.inl (fun x9 => lN (f x9))))), (yV, .inl (cL, 16, .inr (.inl (fun x9 => lN (v x9))))), (yI, .inl (cL, 16, .inr (.inl (fun x9 => lN (inp x9))))), (yX, .inl (cL, 16, .inr (.inl (fun x9 => lN (mx x9))))), (yP, .inl (cL, 3, .inr (.inl (fun x9 => lN (el x9))))), (yQ, .inl (cL, 32, .inr (.inl (fun x9 => lN (qt x9))))), (yS, .inl (cL, 48, .inr (.inl (fun x9 => lN (su x9))))), (yD, .inl (cL, 32, .inr (.inl (fun x9 => lN (pr x9)))))]) s.heap.size = A at hD ⊢
  have hAA : ∀ q : Nat, s.heap.size ≤ q → A q := fun q h => by rw [← hAe]; exact Or.inr h
  have hS : va_S A s.heap s.heap [] := va_S.rf
  have hl := lv_entry ([.ref y0, .int (nI k), .int (nI y)]) (n := 3) (Nat.le_of_ble_eq_true rfl)
  rw [lg_entry_eq]
  generalize (lg_sl ([.ref y0, .int (nI k), .int (nI y)]) ++ List.replicate (3 - (lg_sl ([.ref y0, .int (nI k), .int (nI y)])).length) Slot.unset).toArray = ls at hl ⊢
  have hl : lv_has ls 3 [(0, .ref y0), (1, .int (nI k)), (2, .int (nI y))] := hl
  refine lv_aload_n F.1 F.2.1 dT_input_0 rfl (lv_at hl 0 rfl) ?_
  refine lv_iload_n F.1 F.2.1 dT_input_1 rfl (lv_at hl 1 rfl) ?_
  refine z_iconst (v := 1) F (by decide) dT_input_2 ?_
  refine z_icmp_lt F (by omega) (by omega) (tgt := 19) dT_input_3 rfl (fun h => absurd h (by omega)) (fun h => ?_)
  refine lv_iload_n F.1 F.2.1 dT_input_6 rfl (lv_at hl 1 rfl) ?_
  refine z_bipush (v := 6) F (by decide) dT_input_7 ?_
  refine z_icmp_gt F (by omega) (by omega) (tgt := 19) dT_input_9 rfl (fun h => absurd h (by omega)) (fun h => ?_)
  refine lv_iload_n F.1 F.2.1 dT_input_12 rfl (lv_at hl 2 rfl) ?_
  refine z_call (z_runS [.int (nI y)] [.ref y0] F (ct_isNumber_t l y (by omega)) kk_T_isNumber wl_T_49 rfl rfl ⟨Nat.le_of_ble_eq_true rfl, Nat.le_of_ble_eq_true rfl⟩ z_preN rfl hl.1 rfl (Nat.le_of_ble_eq_true rfl) dT_input_13 ⟨Nat.zero_le _, Nat.zero_le _⟩) ?_
  refine z_if_ne F (by omega) (tgt := 23) dT_input_16 rfl (fun h => ?_) (fun h => absurd h (by decide))
  refine z_iconst (v := 0) F (by decide) dT_input_23 ?_
  refine z_put F hK hP hD hS hinT tyT tyT_ok nmT 0 rfl rfl 0 (by decide) rfl rfl wf_T_34 (rfl) (rfl) (Nat.le_of_ble_eq_true rfl) dT_input_24 (fun H locs hP hD hS => ?_)
  have hP : va_P (dC, dI) vwCl ([(y0, .inr (5, [.int (nI 0), .ref yR, .int (nI cn), .int (nI pb), .ref yV, .ref yI, .int (z_b md), .long (lN ta), .long (lN al), .long (lN be), .long (lN ga), .long (lN de), .long (lN va), .ref yX, .int (z_b pd), .ref yP, .ref yQ, .ref yS, .ref yD])), (yR, .inl (cL, 816, .inr (.inl (fun x9 => lN (f x9))))), (yV, .inl (cL, 16, .inr (.inl (fun x9 => lN (v x9))))), (yI, .inl (cL, 16, .inr (.inl (fun x9 => lN (inp x9))))), (yX, .inl (cL, 16, .inr (.inl (fun x9 => lN (mx x9))))), (yP, .inl (cL, 3, .inr (.inl (fun x9 => lN (el x9))))), (yQ, .inl (cL, 32, .inr (.inl (fun x9 => lN (qt x9))))), (yS, .inl (cL, 48, .inr (.inl (fun x9 => lN (su x9))))), (yD, .inl (cL, 32, .inr (.inl (fun x9 => lN (pr x9)))))]) H := hP
  have hD : va_D A ([(y0, .inr (5, [.int (nI 0), .ref yR, .int (nI cn), .int (nI pb), .ref yV, .ref yI, .int (z_b md), .long (lN ta), .long (lN al), .long (lN be), .long (lN ga), .long (lN de), .long (lN va), .ref yX, .int (z_b pd), .ref yP, .ref yQ, .ref yS, .ref yD])), (yR, .inl (cL, 816, .inr (.inl (fun x9 => lN (f x9))))), (yV, .inl (cL, 16, .inr (.inl (fun x9 => lN (v x9))))), (yI, .inl (cL, 16, .inr (.inl (fun x9 => lN (inp x9))))), (yX, .inl (cL, 16, .inr (.inl (fun x9 => lN (mx x9))))), (yP, .inl (cL, 3, .inr (.inl (fun x9 => lN (el x9))))), (yQ, .inl (cL, 32, .inr (.inl (fun x9 => lN (qt x9))))), (yS, .inl (cL, 48, .inr (.inl (fun x9 => lN (su x9))))), (yD, .inl (cL, 32, .inr (.inl (fun x9 => lN (pr x9)))))]) := hD
  refine lv_aload_n F.1 F.2.1 dT_input_27 rfl (lv_at hl 0 rfl) ?_
  refine z_get F hK hP hinT 0 rfl rfl 0 (by decide) rfl wf_T_34 rfl dT_input_28 ?_
  refine z_if_le F (by omega) (tgt := 36) dT_input_31 rfl (fun h => ?_) (fun h => absurd h (by decide))
  refine lv_aload_n F.1 F.2.1 dT_input_36 rfl (lv_at hl 0 rfl) ?_
  refine z_get F hK hP hinT 0 rfl rfl 5 (by decide) rfl wf_T_16 rfl dT_input_37 ?_
  refine lv_iload_n F.1 F.2.1 dT_input_40 rfl (lv_at hl 1 rfl) ?_
  refine lv_iload_n F.1 F.2.1 dT_input_41 rfl (lv_at hl 2 rfl) ?_
  refine z_i2l F (by omega) dT_input_42 ?_
  refine z_last F hK hP hD hS 3 1 rfl rfl (by omega) (by decide) dT_input_43 (fun H locs hP hD hS => ?_)
  have hP : va_P (dC, dI) vwCl ([(y0, .inr (5, [.int (nI 0), .ref yR, .int (nI cn), .int (nI pb), .ref yV, .ref yI, .int (z_b md), .long (lN ta), .long (lN al), .long (lN be), .long (lN ga), .long (lN de), .long (lN va), .ref yX, .int (z_b pd), .ref yP, .ref yQ, .ref yS, .ref yD])), (yR, .inl (cL, 816, .inr (.inl (fun x9 => lN (f x9))))), (yV, .inl (cL, 16, .inr (.inl (fun x9 => lN (v x9))))), (yI, .inl (cL, 16, .inr (.inl (fun x9 => lN ((va_up inp k y) x9))))), (yX, .inl (cL, 16, .inr (.inl (fun x9 => lN (mx x9))))), (yP, .inl (cL, 3, .inr (.inl (fun x9 => lN (el x9))))), (yQ, .inl (cL, 32, .inr (.inl (fun x9 => lN (qt x9))))), (yS, .inl (cL, 48, .inr (.inl (fun x9 => lN (su x9))))), (yD, .inl (cL, 32, .inr (.inl (fun x9 => lN (pr x9)))))]) H := hP
  have hD : va_D A ([(y0, .inr (5, [.int (nI 0), .ref yR, .int (nI cn), .int (nI pb), .ref yV, .ref yI, .int (z_b md), .long (lN ta), .long (lN al), .long (lN be), .long (lN ga), .long (lN de), .long (lN va), .ref yX, .int (z_b pd), .ref yP, .ref yQ, .ref yS, .ref yD])), (yR, .inl (cL, 816, .inr (.inl (fun x9 => lN (f x9))))), (yV, .inl (cL, 16, .inr (.inl (fun x9 => lN (v x9))))), (yI, .inl (cL, 16, .inr (.inl (fun x9 => lN ((va_up inp k y) x9))))), (yX, .inl (cL, 16, .inr (.inl (fun x9 => lN (mx x9))))), (yP, .inl (cL, 3, .inr (.inl (fun x9 => lN (el x9))))), (yQ, .inl (cL, 32, .inr (.inl (fun x9 => lN (qt x9))))), (yS, .inl (cL, 48, .inr (.inl (fun x9 => lN (su x9))))), (yD, .inl (cL, 32, .inr (.inl (fun x9 => lN (pr x9)))))]) := hD
  refine z_iconst (v := 1) F (by decide) dT_input_44 ?_
  refine z_topV (z_b true) (by decide) ?_
  exact W.zret F.1 F.2.1 hr rfl (fun t ht hW => ⟨rfl, by rw [ht]; exact hP, va_K.moved hW.alike hK, hD, hS.F ht⟩) hS.2.2 dT_input_45
set_option maxHeartbeats 4000000 in
set_option maxRecDepth 100000 in
theorem ct_input_no (l : Launch) (dC : Nat → ClassId) (dI : Nat → Nat → Nat) (cI cL : ClassId) (zz : Nat) (y0 yR yV yI yX yP yQ yS yD : Nat) (th cn pb ta al be ga de va : Nat) (md pd : Bool) (f v inp mx el qt su pr : Nat → Nat) (x y : Int32) (h : (b1 x 7 && bl y 998244353) = false) : Met l yT_input (zW yT_input cT_input 3 (.some .boolean)) ({ frames := 1, cells := 0, slots := 0, locals := 20 }) (va_Pc [.ref y0, .int x, .int y] (z_P (dC, dI) vwCl [(cI, .int), (cL, .long)] zz ([(y0, .inr (5, [.int (nI th), .ref yR, .int (nI cn), .int (nI pb), .ref yV, .ref yI, .int (z_b md), .long (lN ta), .long (lN al), .long (lN be), .long (lN ga), .long (lN de), .long (lN va), .ref yX, .int (z_b pd), .ref yP, .ref yQ, .ref yS, .ref yD])), (yR, .inl (cL, 816, .inr (.inl (fun x9 => lN (f x9))))), (yV, .inl (cL, 16, .inr (.inl (fun x9 => lN (v x9))))), (yI, .inl (cL, 16, .inr (.inl (fun x9 => lN (inp x9))))), (yX, .inl (cL, 16, .inr (.inl (fun x9 => lN (mx x9))))), (yP, .inl (cL, 3, .inr (.inl (fun x9 => lN (el x9))))), (yQ, .inl (cL, 32, .inr (.inl (fun x9 => lN (qt x9))))), (yS, .inl (cL, 48, .inr (.inl (fun x9 => lN (su x9))))), (yD, .inl (cL, 32, .inr (.inl (fun x9 => lN (pr x9)))))]))) (z_Q (dC, dI) vwCl [(cI, .int), (cL, .long)] (some (.int (z_b false))) ([(y0, .inr (5, [.int (nI 1), .ref yR, .int (nI cn), .int (nI pb), .ref yV, .ref yI, .int (z_b md), .long (lN ta), .long (lN al), .long (lN be), .long (lN ga), .long (lN de), .long (lN va), .ref yX, .int (z_b pd), .ref yP, .ref yQ, .ref yS, .ref yD])), (yR, .inl (cL, 816, .inr (.inl (fun x9 => lN (f x9))))), (yV, .inl (cL, 16, .inr (.inl (fun x9 => lN (v x9))))), (yI, .inl (cL, 16, .inr (.inl (fun x9 => lN (inp x9))))), (yX, .inl (cL, 16, .inr (.inl (fun x9 => lN (mx x9))))), (yP, .inl (cL, 3, .inr (.inl (fun x9 => lN (el x9))))), (yQ, .inl (cL, 32, .inr (.inl (fun x9 => lN (qt x9))))), (yS, .inl (cL, 48, .inr (.inl (fun x9 => lN (su x9))))), (yD, .inl (cL, 32, .inr (.inl (fun x9 => lN (pr x9)))))]) (va_A ([(y0, .inr (5, [.int (nI th), .ref yR, .int (nI cn), .int (nI pb), .ref yV, .ref yI, .int (z_b md), .long (lN ta), .long (lN al), .long (lN be), .long (lN ga), .long (lN de), .long (lN va), .ref yX, .int (z_b pd), .ref yP, .ref yQ, .ref yS, .ref yD])), (yR, .inl (cL, 816, .inr (.inl (fun x9 => lN (f x9))))), (yV, .inl (cL, 16, .inr (.inl (fun x9 => lN (v x9))))), (yI, .inl (cL, 16, .inr (.inl (fun x9 => lN (inp x9))))), (yX, .inl (cL, 16, .inr (.inl (fun x9 => lN (mx x9))))), (yP, .inl (cL, 3, .inr (.inl (fun x9 => lN (el x9))))), (yQ, .inl (cL, 32, .inr (.inl (fun x9 => lN (qt x9))))), (yS, .inl (cL, 48, .inr (.inl (fun x9 => lN (su x9))))), (yD, .inl (cL, 32, .inr (.inl (fun x9 => lN (pr x9)))))]) zz)) 0 0 (va_A ([(y0, .inr (5, [.int (nI th), .ref yR, .int (nI cn), .int (nI pb), .ref yV, .ref yI, .int (z_b md), .long (lN ta), .long (lN al), .long (lN be), .long (lN ga), .long (lN de), .long (lN va), .ref yX, .int (z_b pd), .ref yP, .ref yQ, .ref yS, .ref yD])), (yR, .inl (cL, 816, .inr (.inl (fun x9 => lN (f x9))))), (yV, .inl (cL, 16, .inr (.inl (fun x9 => lN (v x9))))), (yI, .inl (cL, 16, .inr (.inl (fun x9 => lN (inp x9))))), (yX, .inl (cL, 16, .inr (.inl (fun x9 => lN (mx x9))))), (yP, .inl (cL, 3, .inr (.inl (fun x9 => lN (el x9))))), (yQ, .inl (cL, 32, .inr (.inl (fun x9 => lN (qt x9))))), (yS, .inl (cL, 48, .inr (.inl (fun x9 => lN (su x9))))), (yD, .inl (cL, 32, .inr (.inl (fun x9 => lN (pr x9)))))]) zz) := by
  refine Met.ofW (cc := cT_input) (maxL := 3) (ret := (.some .boolean)) (by decide) rfl ?_
  intro p e s m args below meth c s₁ B hml hv
  obtain ⟨rfl, hsz, hP, hK, hD0⟩ := hv
  have F : CallFix p m c cT_input 3 s _ zT RT := ⟨B.exec, B.bytes, hml, findClass_of_methodNamed B.named, fun w h => atoms_spec (ws := (zW yT_input cT_input 3 (.some .boolean))) B.pre w (List.mem_cons_of_mem _ h)⟩
  have hr := B.returns
  have hlocks := B.notSynchronized
  subst hsz
  have hD := hD0.self (sz := s.heap.size)
  generalize hAe : va_A ([(y0, .inr (5, [.int (nI th), .ref yR, .int (nI cn), .int (nI pb), .ref yV, .ref yI, .int (z_b md), .long (lN ta), .long (lN al), .long (lN be), .long (lN ga), .long (lN de), .long (lN va), .ref yX, .int (z_b pd), .ref yP, .ref yQ, .ref yS, .ref yD])), (yR, .inl (cL, 816, .inr (.inl (fun x9 => lN (f x9))))), (yV, .inl (cL, 16, .inr (.inl (fun x9 => lN (v x9))))), (yI, .inl (cL, 16, .inr (.inl (fun x9 => lN (inp x9))))), (yX, .inl (cL, 16, .inr (.inl (fun x9 => lN (mx x9))))), (yP, .inl (cL, 3, .inr (.inl (fun x9 => lN (el x9))))), (yQ, .inl (cL, 32, .inr (.inl (fun x9 => lN (qt x9))))), (yS, .inl (cL, 48, .inr (.inl (fun x9 => lN (su x9))))), (yD, .inl (cL, 32, .inr (.inl (fun x9 => lN (pr x9)))))]) s.heap.size = A at hD ⊢
  have hAA : ∀ q : Nat, s.heap.size ≤ q → A q := fun q h => by rw [← hAe]; exact Or.inr h
  have hS : va_S A s.heap s.heap [] := va_S.rf
  have hl := lv_entry ([.ref y0, .int x, .int y]) (n := 3) (Nat.le_of_ble_eq_true rfl)
  rw [lg_entry_eq]
  generalize (lg_sl ([.ref y0, .int x, .int y]) ++ List.replicate (3 - (lg_sl ([.ref y0, .int x, .int y])).length) Slot.unset).toArray = ls at hl ⊢
  have hl : lv_has ls 3 [(0, .ref y0), (1, .int x), (2, .int y)] := hl
  cases h9 : b1 x 7 with
  | false =>
    rcases b1_no h9 (by decide) with h8 | ⟨j, hj, h8, rfl⟩
    · refine lv_aload_n F.1 F.2.1 dT_input_0 rfl (lv_at hl 0 rfl) ?_
      refine lv_iload_n F.1 F.2.1 dT_input_1 rfl (lv_at hl 1 rfl) ?_
      refine z_iconst (v := 1) F (by decide) dT_input_2 ?_
      refine lv_icmp_lt F.1 F.2.1 (tgt := 19) dT_input_3 rfl (fun h => ?_) (fun h => absurd h8 h)
      refine z_iconst (v := 1) F (by decide) dT_input_19 ?_
      refine lv_goto F.1 F.2.1 (tgt := 24) dT_input_20 rfl ?_
      refine z_put F hK hP hD hS hinT tyT tyT_ok nmT 0 rfl rfl 0 (by decide) rfl rfl wf_T_34 (rfl) (rfl) (Nat.le_of_ble_eq_true rfl) dT_input_24 (fun H locs hP hD hS => ?_)
      have hP : va_P (dC, dI) vwCl ([(y0, .inr (5, [.int (nI 1), .ref yR, .int (nI cn), .int (nI pb), .ref yV, .ref yI, .int (z_b md), .long (lN ta), .long (lN al), .long (lN be), .long (lN ga), .long (lN de), .long (lN va), .ref yX, .int (z_b pd), .ref yP, .ref yQ, .ref yS, .ref yD])), (yR, .inl (cL, 816, .inr (.inl (fun x9 => lN (f x9))))), (yV, .inl (cL, 16, .inr (.inl (fun x9 => lN (v x9))))), (yI, .inl (cL, 16, .inr (.inl (fun x9 => lN (inp x9))))), (yX, .inl (cL, 16, .inr (.inl (fun x9 => lN (mx x9))))), (yP, .inl (cL, 3, .inr (.inl (fun x9 => lN (el x9))))), (yQ, .inl (cL, 32, .inr (.inl (fun x9 => lN (qt x9))))), (yS, .inl (cL, 48, .inr (.inl (fun x9 => lN (su x9))))), (yD, .inl (cL, 32, .inr (.inl (fun x9 => lN (pr x9)))))]) H := hP
      have hD : va_D A ([(y0, .inr (5, [.int (nI 1), .ref yR, .int (nI cn), .int (nI pb), .ref yV, .ref yI, .int (z_b md), .long (lN ta), .long (lN al), .long (lN be), .long (lN ga), .long (lN de), .long (lN va), .ref yX, .int (z_b pd), .ref yP, .ref yQ, .ref yS, .ref yD])), (yR, .inl (cL, 816, .inr (.inl (fun x9 => lN (f x9))))), (yV, .inl (cL, 16, .inr (.inl (fun x9 => lN (v x9))))), (yI, .inl (cL, 16, .inr (.inl (fun x9 => lN (inp x9))))), (yX, .inl (cL, 16, .inr (.inl (fun x9 => lN (mx x9))))), (yP, .inl (cL, 3, .inr (.inl (fun x9 => lN (el x9))))), (yQ, .inl (cL, 32, .inr (.inl (fun x9 => lN (qt x9))))), (yS, .inl (cL, 48, .inr (.inl (fun x9 => lN (su x9))))), (yD, .inl (cL, 32, .inr (.inl (fun x9 => lN (pr x9)))))]) := hD
      refine lv_aload_n F.1 F.2.1 dT_input_27 rfl (lv_at hl 0 rfl) ?_
      refine z_get F hK hP hinT 0 rfl rfl 0 (by decide) rfl wf_T_34 rfl dT_input_28 ?_
      refine z_if_le F (by omega) (tgt := 36) dT_input_31 rfl (fun h => absurd h (by decide)) (fun h => ?_)
      refine z_iconst (v := 0) F (by decide) dT_input_34 ?_
      refine z_topV (z_b false) (by decide) ?_
      exact W.zret F.1 F.2.1 hr rfl (fun t ht hW => ⟨rfl, by rw [ht]; exact hP, va_K.moved hW.alike hK, hD, hS.F ht⟩) hS.2.2 dT_input_35
    · have hl : lv_has ls 3 [(0, .ref y0), (1, .int (nI j)), (2, .int y)] := hl
      refine lv_aload_n F.1 F.2.1 dT_input_0 rfl (lv_at hl 0 rfl) ?_
      refine lv_iload_n F.1 F.2.1 dT_input_1 rfl (lv_at hl 1 rfl) ?_
      refine z_iconst (v := 1) F (by decide) dT_input_2 ?_
      refine z_icmp_lt F (by omega) (by omega) (tgt := 19) dT_input_3 rfl (fun h => absurd h (by omega)) (fun h => ?_)
      refine lv_iload_n F.1 F.2.1 dT_input_6 rfl (lv_at hl 1 rfl) ?_
      refine z_bipush (v := 6) F (by decide) dT_input_7 ?_
      refine z_icmp_gt F (by omega) (by omega) (tgt := 19) dT_input_9 rfl (fun h => ?_) (fun h => absurd h (by omega))
      refine z_iconst (v := 1) F (by decide) dT_input_19 ?_
      refine lv_goto F.1 F.2.1 (tgt := 24) dT_input_20 rfl ?_
      refine z_put F hK hP hD hS hinT tyT tyT_ok nmT 0 rfl rfl 0 (by decide) rfl rfl wf_T_34 (rfl) (rfl) (Nat.le_of_ble_eq_true rfl) dT_input_24 (fun H locs hP hD hS => ?_)
      have hP : va_P (dC, dI) vwCl ([(y0, .inr (5, [.int (nI 1), .ref yR, .int (nI cn), .int (nI pb), .ref yV, .ref yI, .int (z_b md), .long (lN ta), .long (lN al), .long (lN be), .long (lN ga), .long (lN de), .long (lN va), .ref yX, .int (z_b pd), .ref yP, .ref yQ, .ref yS, .ref yD])), (yR, .inl (cL, 816, .inr (.inl (fun x9 => lN (f x9))))), (yV, .inl (cL, 16, .inr (.inl (fun x9 => lN (v x9))))), (yI, .inl (cL, 16, .inr (.inl (fun x9 => lN (inp x9))))), (yX, .inl (cL, 16, .inr (.inl (fun x9 => lN (mx x9))))), (yP, .inl (cL, 3, .inr (.inl (fun x9 => lN (el x9))))), (yQ, .inl (cL, 32, .inr (.inl (fun x9 => lN (qt x9))))), (yS, .inl (cL, 48, .inr (.inl (fun x9 => lN (su x9))))), (yD, .inl (cL, 32, .inr (.inl (fun x9 => lN (pr x9)))))]) H := hP
      have hD : va_D A ([(y0, .inr (5, [.int (nI 1), .ref yR, .int (nI cn), .int (nI pb), .ref yV, .ref yI, .int (z_b md), .long (lN ta), .long (lN al), .long (lN be), .long (lN ga), .long (lN de), .long (lN va), .ref yX, .int (z_b pd), .ref yP, .ref yQ, .ref yS, .ref yD])), (yR, .inl (cL, 816, .inr (.inl (fun x9 => lN (f x9))))), (yV, .inl (cL, 16, .inr (.inl (fun x9 => lN (v x9))))), (yI, .inl (cL, 16, .inr (.inl (fun x9 => lN (inp x9))))), (yX, .inl (cL, 16, .inr (.inl (fun x9 => lN (mx x9))))), (yP, .inl (cL, 3, .inr (.inl (fun x9 => lN (el x9))))), (yQ, .inl (cL, 32, .inr (.inl (fun x9 => lN (qt x9))))), (yS, .inl (cL, 48, .inr (.inl (fun x9 => lN (su x9))))), (yD, .inl (cL, 32, .inr (.inl (fun x9 => lN (pr x9)))))]) := hD
      refine lv_aload_n F.1 F.2.1 dT_input_27 rfl (lv_at hl 0 rfl) ?_
      refine z_get F hK hP hinT 0 rfl rfl 0 (by decide) rfl wf_T_34 rfl dT_input_28 ?_
      refine z_if_le F (by omega) (tgt := 36) dT_input_31 rfl (fun h => absurd h (by decide)) (fun h => ?_)
      refine z_iconst (v := 0) F (by decide) dT_input_34 ?_
      refine z_topV (z_b false) (by decide) ?_
      exact W.zret F.1 F.2.1 hr rfl (fun t ht hW => ⟨rfl, by rw [ht]; exact hP, va_K.moved hW.alike hK, hD, hS.F ht⟩) hS.2.2 dT_input_35
  | true =>
    rw [h9, Bool.true_and] at h
    obtain ⟨j, hj0, hj, rfl⟩ := b1_of h9 (by decide)
    have hl : lv_has ls 3 [(0, .ref y0), (1, .int (nI j)), (2, .int y)] := hl
    clear h9
    have h9 := h
    refine lv_aload_n F.1 F.2.1 dT_input_0 rfl (lv_at hl 0 rfl) ?_
    refine lv_iload_n F.1 F.2.1 dT_input_1 rfl (lv_at hl 1 rfl) ?_
    refine z_iconst (v := 1) F (by decide) dT_input_2 ?_
    refine z_icmp_lt F (by omega) (by omega) (tgt := 19) dT_input_3 rfl (fun h => absurd h (by omega)) (fun h => ?_)
    refine lv_iload_n F.1 F.2.1 dT_input_6 rfl (lv_at hl 1 rfl) ?_
    refine z_bipush (v := 6) F (by decide) dT_input_7 ?_
    refine z_icmp_gt F (by omega) (by omega) (tgt := 19) dT_input_9 rfl (fun h => absurd h (by omega)) (fun h => ?_)
    refine lv_iload_n F.1 F.2.1 dT_input_12 rfl (lv_at hl 2 rfl) ?_
    refine z_call (z_runS [.int y] [.ref y0] F (ct_isNumber l y) kk_T_isNumber wl_T_49 rfl rfl ⟨Nat.le_of_ble_eq_true rfl, Nat.le_of_ble_eq_true rfl⟩ z_preN rfl hl.1 rfl (Nat.le_of_ble_eq_true rfl) dT_input_13 ⟨Nat.zero_le _, Nat.zero_le _⟩) ?_
    refine z_ifb_ne F (tgt := 23) dT_input_16 rfl (fun h => by rw [h9] at h; cases h) (fun h => ?_)
    refine z_iconst (v := 1) F (by decide) dT_input_19 ?_
    refine lv_goto F.1 F.2.1 (tgt := 24) dT_input_20 rfl ?_
    refine z_put F hK hP hD hS hinT tyT tyT_ok nmT 0 rfl rfl 0 (by decide) rfl rfl wf_T_34 (rfl) (rfl) (Nat.le_of_ble_eq_true rfl) dT_input_24 (fun H locs hP hD hS => ?_)
    have hP : va_P (dC, dI) vwCl ([(y0, .inr (5, [.int (nI 1), .ref yR, .int (nI cn), .int (nI pb), .ref yV, .ref yI, .int (z_b md), .long (lN ta), .long (lN al), .long (lN be), .long (lN ga), .long (lN de), .long (lN va), .ref yX, .int (z_b pd), .ref yP, .ref yQ, .ref yS, .ref yD])), (yR, .inl (cL, 816, .inr (.inl (fun x9 => lN (f x9))))), (yV, .inl (cL, 16, .inr (.inl (fun x9 => lN (v x9))))), (yI, .inl (cL, 16, .inr (.inl (fun x9 => lN (inp x9))))), (yX, .inl (cL, 16, .inr (.inl (fun x9 => lN (mx x9))))), (yP, .inl (cL, 3, .inr (.inl (fun x9 => lN (el x9))))), (yQ, .inl (cL, 32, .inr (.inl (fun x9 => lN (qt x9))))), (yS, .inl (cL, 48, .inr (.inl (fun x9 => lN (su x9))))), (yD, .inl (cL, 32, .inr (.inl (fun x9 => lN (pr x9)))))]) H := hP
    have hD : va_D A ([(y0, .inr (5, [.int (nI 1), .ref yR, .int (nI cn), .int (nI pb), .ref yV, .ref yI, .int (z_b md), .long (lN ta), .long (lN al), .long (lN be), .long (lN ga), .long (lN de), .long (lN va), .ref yX, .int (z_b pd), .ref yP, .ref yQ, .ref yS, .ref yD])), (yR, .inl (cL, 816, .inr (.inl (fun x9 => lN (f x9))))), (yV, .inl (cL, 16, .inr (.inl (fun x9 => lN (v x9))))), (yI, .inl (cL, 16, .inr (.inl (fun x9 => lN (inp x9))))), (yX, .inl (cL, 16, .inr (.inl (fun x9 => lN (mx x9))))), (yP, .inl (cL, 3, .inr (.inl (fun x9 => lN (el x9))))), (yQ, .inl (cL, 32, .inr (.inl (fun x9 => lN (qt x9))))), (yS, .inl (cL, 48, .inr (.inl (fun x9 => lN (su x9))))), (yD, .inl (cL, 32, .inr (.inl (fun x9 => lN (pr x9)))))]) := hD
    refine lv_aload_n F.1 F.2.1 dT_input_27 rfl (lv_at hl 0 rfl) ?_
    refine z_get F hK hP hinT 0 rfl rfl 0 (by decide) rfl wf_T_34 rfl dT_input_28 ?_
    refine z_if_le F (by omega) (tgt := 36) dT_input_31 rfl (fun h => absurd h (by decide)) (fun h => ?_)
    refine z_iconst (v := 0) F (by decide) dT_input_34 ?_
    refine z_topV (z_b false) (by decide) ?_
    exact W.zret F.1 F.2.1 hr rfl (fun t ht hW => ⟨rfl, by rw [ht]; exact hP, va_K.moved hW.alike hK, hD, hS.F ht⟩) hS.2.2 dT_input_35
set_option maxHeartbeats 4000000 in
set_option maxRecDepth 100000 in
theorem ct_alter (l : Launch) (dC : Nat → ClassId) (dI : Nat → Nat → Nat) (cI cL : ClassId) (zz : Nat) (y0 yR yV yI yX yP yQ yS yD : Nat) (th cn pb ta al be ga de va : Nat) (md pd : Bool) (f v inp mx el qt su pr : Nat → Nat) (k y : Nat) (hk : k < 3) (hy : y < 998244353) (hp : pd = true) : Met l yT_alter (zW yT_alter cT_alter 3 (.some .boolean)) ({ frames := 1, cells := 0, slots := 0, locals := 20 }) (va_Pc [.ref y0, .int (nI k), .int (nI y)] (z_P (dC, dI) vwCl [(cI, .int), (cL, .long)] zz ([(y0, .inr (5, [.int (nI th), .ref yR, .int (nI cn), .int (nI pb), .ref yV, .ref yI, .int (z_b md), .long (lN ta), .long (lN al), .long (lN be), .long (lN ga), .long (lN de), .long (lN va), .ref yX, .int (z_b pd), .ref yP, .ref yQ, .ref yS, .ref yD])), (yR, .inl (cL, 816, .inr (.inl (fun x9 => lN (f x9))))), (yV, .inl (cL, 16, .inr (.inl (fun x9 => lN (v x9))))), (yI, .inl (cL, 16, .inr (.inl (fun x9 => lN (inp x9))))), (yX, .inl (cL, 16, .inr (.inl (fun x9 => lN (mx x9))))), (yP, .inl (cL, 3, .inr (.inl (fun x9 => lN (el x9))))), (yQ, .inl (cL, 32, .inr (.inl (fun x9 => lN (qt x9))))), (yS, .inl (cL, 48, .inr (.inl (fun x9 => lN (su x9))))), (yD, .inl (cL, 32, .inr (.inl (fun x9 => lN (pr x9)))))]))) (z_Q (dC, dI) vwCl [(cI, .int), (cL, .long)] (some (.int (z_b true))) ([(y0, .inr (5, [.int (nI 0), .ref yR, .int (nI cn), .int (nI pb), .ref yV, .ref yI, .int (z_b md), .long (lN ta), .long (lN al), .long (lN be), .long (lN ga), .long (lN de), .long (lN va), .ref yX, .int (z_b pd), .ref yP, .ref yQ, .ref yS, .ref yD])), (yR, .inl (cL, 816, .inr (.inl (fun x9 => lN (f x9))))), (yV, .inl (cL, 16, .inr (.inl (fun x9 => lN (v x9))))), (yI, .inl (cL, 16, .inr (.inl (fun x9 => lN (inp x9))))), (yX, .inl (cL, 16, .inr (.inl (fun x9 => lN (mx x9))))), (yP, .inl (cL, 3, .inr (.inl (fun x9 => lN ((va_up el k y) x9))))), (yQ, .inl (cL, 32, .inr (.inl (fun x9 => lN (qt x9))))), (yS, .inl (cL, 48, .inr (.inl (fun x9 => lN (su x9))))), (yD, .inl (cL, 32, .inr (.inl (fun x9 => lN (pr x9)))))]) (va_A ([(y0, .inr (5, [.int (nI th), .ref yR, .int (nI cn), .int (nI pb), .ref yV, .ref yI, .int (z_b md), .long (lN ta), .long (lN al), .long (lN be), .long (lN ga), .long (lN de), .long (lN va), .ref yX, .int (z_b pd), .ref yP, .ref yQ, .ref yS, .ref yD])), (yR, .inl (cL, 816, .inr (.inl (fun x9 => lN (f x9))))), (yV, .inl (cL, 16, .inr (.inl (fun x9 => lN (v x9))))), (yI, .inl (cL, 16, .inr (.inl (fun x9 => lN (inp x9))))), (yX, .inl (cL, 16, .inr (.inl (fun x9 => lN (mx x9))))), (yP, .inl (cL, 3, .inr (.inl (fun x9 => lN (el x9))))), (yQ, .inl (cL, 32, .inr (.inl (fun x9 => lN (qt x9))))), (yS, .inl (cL, 48, .inr (.inl (fun x9 => lN (su x9))))), (yD, .inl (cL, 32, .inr (.inl (fun x9 => lN (pr x9)))))]) zz)) 0 0 (va_A ([(y0, .inr (5, [.int (nI th), .ref yR, .int (nI cn), .int (nI pb), .ref yV, .ref yI, .int (z_b md), .long (lN ta), .long (lN al), .long (lN be), .long (lN ga), .long (lN de), .long (lN va), .ref yX, .int (z_b pd), .ref yP, .ref yQ, .ref yS, .ref yD])), (yR, .inl (cL, 816, .inr (.inl (fun x9 => lN (f x9))))), (yV, .inl (cL, 16, .inr (.inl (fun x9 => lN (v x9))))), (yI, .inl (cL, 16, .inr (.inl (fun x9 => lN (inp x9))))), (yX, .inl (cL, 16, .inr (.inl (fun x9 => lN (mx x9))))), (yP, .inl (cL, 3, .inr (.inl (fun x9 => lN (el x9))))), (yQ, .inl (cL, 32, .inr (.inl (fun x9 => lN (qt x9))))), (yS, .inl (cL, 48, .inr (.inl (fun x9 => lN (su x9))))), (yD, .inl (cL, 32, .inr (.inl (fun x9 => lN (pr x9)))))]) zz) := by
  refine Met.ofW (cc := cT_alter) (maxL := 3) (ret := (.some .boolean)) (by decide) rfl ?_
  intro p e s m args below meth c s₁ B hml hv
  obtain ⟨rfl, hsz, hP, hK, hD0⟩ := hv
  have F : CallFix p m c cT_alter 3 s _ zT RT := ⟨B.exec, B.bytes, hml, findClass_of_methodNamed B.named, fun w h => atoms_spec (ws := (zW yT_alter cT_alter 3 (.some .boolean))) B.pre w (List.mem_cons_of_mem _ h)⟩
  have hr := B.returns
  have hlocks := B.notSynchronized
  subst hsz
  have hD := hD0.self (sz := s.heap.size)
  generalize hAe : va_A ([(y0, .inr (5, [.int (nI th), .ref yR, .int (nI cn), .int (nI pb), .ref yV, .ref yI, .int (z_b md), .long (lN ta), .long (lN al), .long (lN be), .long (lN ga), .long (lN de), .long (lN va), .ref yX, .int (z_b pd), .ref yP, .ref yQ, .ref yS, .ref yD])), (yR, .inl (cL, 816, .inr (.inl (fun x9 => lN (f x9))))), (yV, .inl (cL, 16, .inr (.inl (fun x9 => lN (v x9))))), (yI, .inl (cL, 16, .inr (.inl (fun x9 => lN (inp x9))))), (yX, .inl (cL, 16, .inr (.inl (fun x9 => lN (mx x9))))), (yP, .inl (cL, 3, .inr (.inl (fun x9 => lN (el x9))))), (yQ, .inl (cL, 32, .inr (.inl (fun x9 => lN (qt x9))))), (yS, .inl (cL, 48, .inr (.inl (fun x9 => lN (su x9))))), (yD, .inl (cL, 32, .inr (.inl (fun x9 => lN (pr x9)))))]) s.heap.size = A at hD ⊢
  have hAA : ∀ q : Nat, s.heap.size ≤ q → A q := fun q h => by rw [← hAe]; exact Or.inr h
  have hS : va_S A s.heap s.heap [] := va_S.rf
  have hl := lv_entry ([.ref y0, .int (nI k), .int (nI y)]) (n := 3) (Nat.le_of_ble_eq_true rfl)
  rw [lg_entry_eq]
  generalize (lg_sl ([.ref y0, .int (nI k), .int (nI y)]) ++ List.replicate (3 - (lg_sl ([.ref y0, .int (nI k), .int (nI y)])).length) Slot.unset).toArray = ls at hl ⊢
  have hl : lv_has ls 3 [(0, .ref y0), (1, .int (nI k)), (2, .int (nI y))] := hl
  refine lv_aload_n F.1 F.2.1 dT_alter_0 rfl (lv_at hl 0 rfl) ?_
  refine lv_iload_n F.1 F.2.1 dT_alter_1 rfl (lv_at hl 1 rfl) ?_
  refine lv_if_lt F.1 F.2.1 (tgt := 17) dT_alter_2 rfl (fun h => absurd h (nI_pos (by omega))) (fun h => ?_)
  refine lv_iload_n F.1 F.2.1 dT_alter_5 rfl (lv_at hl 1 rfl) ?_
  refine z_iconst (v := 2) F (by decide) dT_alter_6 ?_
  refine z_icmp_gt F (by omega) (by omega) (tgt := 17) dT_alter_7 rfl (fun h => absurd h (by omega)) (fun h => ?_)
  refine lv_iload_n F.1 F.2.1 dT_alter_10 rfl (lv_at hl 2 rfl) ?_
  refine z_call (z_runS [.int (nI y)] [.ref y0] F (ct_isNumber_t l y (by omega)) kk_T_isNumber wl_T_49 rfl rfl ⟨Nat.le_of_ble_eq_true rfl, Nat.le_of_ble_eq_true rfl⟩ z_preN rfl hl.1 rfl (Nat.le_of_ble_eq_true rfl) dT_alter_11 ⟨Nat.zero_le _, Nat.zero_le _⟩) ?_
  refine z_if_ne F (by omega) (tgt := 21) dT_alter_14 rfl (fun h => ?_) (fun h => absurd h (by decide))
  refine lv_aload_n F.1 F.2.1 dT_alter_21 rfl (lv_at hl 0 rfl) ?_
  refine z_get F hK hP hinT 0 rfl rfl 14 (by decide) rfl wf_T_119 rfl dT_alter_22 ?_
  refine z_ifb_ne F (tgt := 32) dT_alter_25 rfl (fun h => ?_) (fun h => by rw [hp] at h; cases h)
  refine z_iconst (v := 0) F (by decide) dT_alter_32 ?_
  refine z_put F hK hP hD hS hinT tyT tyT_ok nmT 0 rfl rfl 0 (by decide) rfl rfl wf_T_34 (rfl) (rfl) (Nat.le_of_ble_eq_true rfl) dT_alter_33 (fun H locs hP hD hS => ?_)
  have hP : va_P (dC, dI) vwCl ([(y0, .inr (5, [.int (nI 0), .ref yR, .int (nI cn), .int (nI pb), .ref yV, .ref yI, .int (z_b md), .long (lN ta), .long (lN al), .long (lN be), .long (lN ga), .long (lN de), .long (lN va), .ref yX, .int (z_b pd), .ref yP, .ref yQ, .ref yS, .ref yD])), (yR, .inl (cL, 816, .inr (.inl (fun x9 => lN (f x9))))), (yV, .inl (cL, 16, .inr (.inl (fun x9 => lN (v x9))))), (yI, .inl (cL, 16, .inr (.inl (fun x9 => lN (inp x9))))), (yX, .inl (cL, 16, .inr (.inl (fun x9 => lN (mx x9))))), (yP, .inl (cL, 3, .inr (.inl (fun x9 => lN (el x9))))), (yQ, .inl (cL, 32, .inr (.inl (fun x9 => lN (qt x9))))), (yS, .inl (cL, 48, .inr (.inl (fun x9 => lN (su x9))))), (yD, .inl (cL, 32, .inr (.inl (fun x9 => lN (pr x9)))))]) H := hP
  have hD : va_D A ([(y0, .inr (5, [.int (nI 0), .ref yR, .int (nI cn), .int (nI pb), .ref yV, .ref yI, .int (z_b md), .long (lN ta), .long (lN al), .long (lN be), .long (lN ga), .long (lN de), .long (lN va), .ref yX, .int (z_b pd), .ref yP, .ref yQ, .ref yS, .ref yD])), (yR, .inl (cL, 816, .inr (.inl (fun x9 => lN (f x9))))), (yV, .inl (cL, 16, .inr (.inl (fun x9 => lN (v x9))))), (yI, .inl (cL, 16, .inr (.inl (fun x9 => lN (inp x9))))), (yX, .inl (cL, 16, .inr (.inl (fun x9 => lN (mx x9))))), (yP, .inl (cL, 3, .inr (.inl (fun x9 => lN (el x9))))), (yQ, .inl (cL, 32, .inr (.inl (fun x9 => lN (qt x9))))), (yS, .inl (cL, 48, .inr (.inl (fun x9 => lN (su x9))))), (yD, .inl (cL, 32, .inr (.inl (fun x9 => lN (pr x9)))))]) := hD
  refine lv_aload_n F.1 F.2.1 dT_alter_36 rfl (lv_at hl 0 rfl) ?_
  refine z_get F hK hP hinT 0 rfl rfl 0 (by decide) rfl wf_T_34 rfl dT_alter_37 ?_
  refine z_if_le F (by omega) (tgt := 45) dT_alter_40 rfl (fun h => ?_) (fun h => absurd h (by decide))
  refine lv_aload_n F.1 F.2.1 dT_alter_45 rfl (lv_at hl 0 rfl) ?_
  refine z_get F hK hP hinT 0 rfl rfl 15 (by decide) rfl wf_T_22 rfl dT_alter_46 ?_
  refine lv_iload_n F.1 F.2.1 dT_alter_49 rfl (lv_at hl 1 rfl) ?_
  refine lv_iload_n F.1 F.2.1 dT_alter_50 rfl (lv_at hl 2 rfl) ?_
  refine z_i2l F (by omega) dT_alter_51 ?_
  refine z_last F hK hP hD hS 5 1 rfl rfl (by omega) (by decide) dT_alter_52 (fun H locs hP hD hS => ?_)
  have hP : va_P (dC, dI) vwCl ([(y0, .inr (5, [.int (nI 0), .ref yR, .int (nI cn), .int (nI pb), .ref yV, .ref yI, .int (z_b md), .long (lN ta), .long (lN al), .long (lN be), .long (lN ga), .long (lN de), .long (lN va), .ref yX, .int (z_b pd), .ref yP, .ref yQ, .ref yS, .ref yD])), (yR, .inl (cL, 816, .inr (.inl (fun x9 => lN (f x9))))), (yV, .inl (cL, 16, .inr (.inl (fun x9 => lN (v x9))))), (yI, .inl (cL, 16, .inr (.inl (fun x9 => lN (inp x9))))), (yX, .inl (cL, 16, .inr (.inl (fun x9 => lN (mx x9))))), (yP, .inl (cL, 3, .inr (.inl (fun x9 => lN ((va_up el k y) x9))))), (yQ, .inl (cL, 32, .inr (.inl (fun x9 => lN (qt x9))))), (yS, .inl (cL, 48, .inr (.inl (fun x9 => lN (su x9))))), (yD, .inl (cL, 32, .inr (.inl (fun x9 => lN (pr x9)))))]) H := hP
  have hD : va_D A ([(y0, .inr (5, [.int (nI 0), .ref yR, .int (nI cn), .int (nI pb), .ref yV, .ref yI, .int (z_b md), .long (lN ta), .long (lN al), .long (lN be), .long (lN ga), .long (lN de), .long (lN va), .ref yX, .int (z_b pd), .ref yP, .ref yQ, .ref yS, .ref yD])), (yR, .inl (cL, 816, .inr (.inl (fun x9 => lN (f x9))))), (yV, .inl (cL, 16, .inr (.inl (fun x9 => lN (v x9))))), (yI, .inl (cL, 16, .inr (.inl (fun x9 => lN (inp x9))))), (yX, .inl (cL, 16, .inr (.inl (fun x9 => lN (mx x9))))), (yP, .inl (cL, 3, .inr (.inl (fun x9 => lN ((va_up el k y) x9))))), (yQ, .inl (cL, 32, .inr (.inl (fun x9 => lN (qt x9))))), (yS, .inl (cL, 48, .inr (.inl (fun x9 => lN (su x9))))), (yD, .inl (cL, 32, .inr (.inl (fun x9 => lN (pr x9)))))]) := hD
  refine z_iconst (v := 1) F (by decide) dT_alter_53 ?_
  refine z_topV (z_b true) (by decide) ?_
  exact W.zret F.1 F.2.1 hr rfl (fun t ht hW => ⟨rfl, by rw [ht]; exact hP, va_K.moved hW.alike hK, hD, hS.F ht⟩) hS.2.2 dT_alter_54
set_option maxHeartbeats 4000000 in
set_option maxRecDepth 100000 in
theorem ct_alter_no (l : Launch) (dC : Nat → ClassId) (dI : Nat → Nat → Nat) (cI cL : ClassId) (zz : Nat) (y0 yR yV yI yX yP yQ yS yD : Nat) (th cn pb ta al be ga de va : Nat) (md pd : Bool) (f v inp mx el qt su pr : Nat → Nat) (x y : Int32) (h : (bl x 3 && bl y 998244353) = false) : Met l yT_alter (zW yT_alter cT_alter 3 (.some .boolean)) ({ frames := 1, cells := 0, slots := 0, locals := 20 }) (va_Pc [.ref y0, .int x, .int y] (z_P (dC, dI) vwCl [(cI, .int), (cL, .long)] zz ([(y0, .inr (5, [.int (nI th), .ref yR, .int (nI cn), .int (nI pb), .ref yV, .ref yI, .int (z_b md), .long (lN ta), .long (lN al), .long (lN be), .long (lN ga), .long (lN de), .long (lN va), .ref yX, .int (z_b pd), .ref yP, .ref yQ, .ref yS, .ref yD])), (yR, .inl (cL, 816, .inr (.inl (fun x9 => lN (f x9))))), (yV, .inl (cL, 16, .inr (.inl (fun x9 => lN (v x9))))), (yI, .inl (cL, 16, .inr (.inl (fun x9 => lN (inp x9))))), (yX, .inl (cL, 16, .inr (.inl (fun x9 => lN (mx x9))))), (yP, .inl (cL, 3, .inr (.inl (fun x9 => lN (el x9))))), (yQ, .inl (cL, 32, .inr (.inl (fun x9 => lN (qt x9))))), (yS, .inl (cL, 48, .inr (.inl (fun x9 => lN (su x9))))), (yD, .inl (cL, 32, .inr (.inl (fun x9 => lN (pr x9)))))]))) (z_Q (dC, dI) vwCl [(cI, .int), (cL, .long)] (some (.int (z_b false))) ([(y0, .inr (5, [.int (nI 1), .ref yR, .int (nI cn), .int (nI pb), .ref yV, .ref yI, .int (z_b md), .long (lN ta), .long (lN al), .long (lN be), .long (lN ga), .long (lN de), .long (lN va), .ref yX, .int (z_b pd), .ref yP, .ref yQ, .ref yS, .ref yD])), (yR, .inl (cL, 816, .inr (.inl (fun x9 => lN (f x9))))), (yV, .inl (cL, 16, .inr (.inl (fun x9 => lN (v x9))))), (yI, .inl (cL, 16, .inr (.inl (fun x9 => lN (inp x9))))), (yX, .inl (cL, 16, .inr (.inl (fun x9 => lN (mx x9))))), (yP, .inl (cL, 3, .inr (.inl (fun x9 => lN (el x9))))), (yQ, .inl (cL, 32, .inr (.inl (fun x9 => lN (qt x9))))), (yS, .inl (cL, 48, .inr (.inl (fun x9 => lN (su x9))))), (yD, .inl (cL, 32, .inr (.inl (fun x9 => lN (pr x9)))))]) (va_A ([(y0, .inr (5, [.int (nI th), .ref yR, .int (nI cn), .int (nI pb), .ref yV, .ref yI, .int (z_b md), .long (lN ta), .long (lN al), .long (lN be), .long (lN ga), .long (lN de), .long (lN va), .ref yX, .int (z_b pd), .ref yP, .ref yQ, .ref yS, .ref yD])), (yR, .inl (cL, 816, .inr (.inl (fun x9 => lN (f x9))))), (yV, .inl (cL, 16, .inr (.inl (fun x9 => lN (v x9))))), (yI, .inl (cL, 16, .inr (.inl (fun x9 => lN (inp x9))))), (yX, .inl (cL, 16, .inr (.inl (fun x9 => lN (mx x9))))), (yP, .inl (cL, 3, .inr (.inl (fun x9 => lN (el x9))))), (yQ, .inl (cL, 32, .inr (.inl (fun x9 => lN (qt x9))))), (yS, .inl (cL, 48, .inr (.inl (fun x9 => lN (su x9))))), (yD, .inl (cL, 32, .inr (.inl (fun x9 => lN (pr x9)))))]) zz)) 0 0 (va_A ([(y0, .inr (5, [.int (nI th), .ref yR, .int (nI cn), .int (nI pb), .ref yV, .ref yI, .int (z_b md), .long (lN ta), .long (lN al), .long (lN be), .long (lN ga), .long (lN de), .long (lN va), .ref yX, .int (z_b pd), .ref yP, .ref yQ, .ref yS, .ref yD])), (yR, .inl (cL, 816, .inr (.inl (fun x9 => lN (f x9))))), (yV, .inl (cL, 16, .inr (.inl (fun x9 => lN (v x9))))), (yI, .inl (cL, 16, .inr (.inl (fun x9 => lN (inp x9))))), (yX, .inl (cL, 16, .inr (.inl (fun x9 => lN (mx x9))))), (yP, .inl (cL, 3, .inr (.inl (fun x9 => lN (el x9))))), (yQ, .inl (cL, 32, .inr (.inl (fun x9 => lN (qt x9))))), (yS, .inl (cL, 48, .inr (.inl (fun x9 => lN (su x9))))), (yD, .inl (cL, 32, .inr (.inl (fun x9 => lN (pr x9)))))]) zz) := by
  refine Met.ofW (cc := cT_alter) (maxL := 3) (ret := (.some .boolean)) (by decide) rfl ?_
  intro p e s m args below meth c s₁ B hml hv
  obtain ⟨rfl, hsz, hP, hK, hD0⟩ := hv
  have F : CallFix p m c cT_alter 3 s _ zT RT := ⟨B.exec, B.bytes, hml, findClass_of_methodNamed B.named, fun w h => atoms_spec (ws := (zW yT_alter cT_alter 3 (.some .boolean))) B.pre w (List.mem_cons_of_mem _ h)⟩
  have hr := B.returns
  have hlocks := B.notSynchronized
  subst hsz
  have hD := hD0.self (sz := s.heap.size)
  generalize hAe : va_A ([(y0, .inr (5, [.int (nI th), .ref yR, .int (nI cn), .int (nI pb), .ref yV, .ref yI, .int (z_b md), .long (lN ta), .long (lN al), .long (lN be), .long (lN ga), .long (lN de), .long (lN va), .ref yX, .int (z_b pd), .ref yP, .ref yQ, .ref yS, .ref yD])), (yR, .inl (cL, 816, .inr (.inl (fun x9 => lN (f x9))))), (yV, .inl (cL, 16, .inr (.inl (fun x9 => lN (v x9))))), (yI, .inl (cL, 16, .inr (.inl (fun x9 => lN (inp x9))))), (yX, .inl (cL, 16, .inr (.inl (fun x9 => lN (mx x9))))), (yP, .inl (cL, 3, .inr (.inl (fun x9 => lN (el x9))))), (yQ, .inl (cL, 32, .inr (.inl (fun x9 => lN (qt x9))))), (yS, .inl (cL, 48, .inr (.inl (fun x9 => lN (su x9))))), (yD, .inl (cL, 32, .inr (.inl (fun x9 => lN (pr x9)))))]) s.heap.size = A at hD ⊢
  have hAA : ∀ q : Nat, s.heap.size ≤ q → A q := fun q h => by rw [← hAe]; exact Or.inr h
  have hS : va_S A s.heap s.heap [] := va_S.rf
  have hl := lv_entry ([.ref y0, .int x, .int y]) (n := 3) (Nat.le_of_ble_eq_true rfl)
  rw [lg_entry_eq]
  generalize (lg_sl ([.ref y0, .int x, .int y]) ++ List.replicate (3 - (lg_sl ([.ref y0, .int x, .int y])).length) Slot.unset).toArray = ls at hl ⊢
  have hl : lv_has ls 3 [(0, .ref y0), (1, .int x), (2, .int y)] := hl
  cases h9 : bl x 3 with
  | false =>
    refine lv_aload_n F.1 F.2.1 dT_alter_0 rfl (lv_at hl 0 rfl) ?_
    refine lv_iload_n F.1 F.2.1 dT_alter_1 rfl (lv_at hl 1 rfl) ?_
    refine lv_if_lt F.1 F.2.1 (tgt := 17) dT_alter_2 rfl (fun h1 => ?_) (fun h1 => ?_)
    · refine z_iconst (v := 1) F (by decide) dT_alter_17 ?_
      refine lv_goto F.1 F.2.1 (tgt := 33) dT_alter_18 rfl ?_
      refine z_put F hK hP hD hS hinT tyT tyT_ok nmT 0 rfl rfl 0 (by decide) rfl rfl wf_T_34 (rfl) (rfl) (Nat.le_of_ble_eq_true rfl) dT_alter_33 (fun H locs hP hD hS => ?_)
      have hP : va_P (dC, dI) vwCl ([(y0, .inr (5, [.int (nI 1), .ref yR, .int (nI cn), .int (nI pb), .ref yV, .ref yI, .int (z_b md), .long (lN ta), .long (lN al), .long (lN be), .long (lN ga), .long (lN de), .long (lN va), .ref yX, .int (z_b pd), .ref yP, .ref yQ, .ref yS, .ref yD])), (yR, .inl (cL, 816, .inr (.inl (fun x9 => lN (f x9))))), (yV, .inl (cL, 16, .inr (.inl (fun x9 => lN (v x9))))), (yI, .inl (cL, 16, .inr (.inl (fun x9 => lN (inp x9))))), (yX, .inl (cL, 16, .inr (.inl (fun x9 => lN (mx x9))))), (yP, .inl (cL, 3, .inr (.inl (fun x9 => lN (el x9))))), (yQ, .inl (cL, 32, .inr (.inl (fun x9 => lN (qt x9))))), (yS, .inl (cL, 48, .inr (.inl (fun x9 => lN (su x9))))), (yD, .inl (cL, 32, .inr (.inl (fun x9 => lN (pr x9)))))]) H := hP
      have hD : va_D A ([(y0, .inr (5, [.int (nI 1), .ref yR, .int (nI cn), .int (nI pb), .ref yV, .ref yI, .int (z_b md), .long (lN ta), .long (lN al), .long (lN be), .long (lN ga), .long (lN de), .long (lN va), .ref yX, .int (z_b pd), .ref yP, .ref yQ, .ref yS, .ref yD])), (yR, .inl (cL, 816, .inr (.inl (fun x9 => lN (f x9))))), (yV, .inl (cL, 16, .inr (.inl (fun x9 => lN (v x9))))), (yI, .inl (cL, 16, .inr (.inl (fun x9 => lN (inp x9))))), (yX, .inl (cL, 16, .inr (.inl (fun x9 => lN (mx x9))))), (yP, .inl (cL, 3, .inr (.inl (fun x9 => lN (el x9))))), (yQ, .inl (cL, 32, .inr (.inl (fun x9 => lN (qt x9))))), (yS, .inl (cL, 48, .inr (.inl (fun x9 => lN (su x9))))), (yD, .inl (cL, 32, .inr (.inl (fun x9 => lN (pr x9)))))]) := hD
      refine lv_aload_n F.1 F.2.1 dT_alter_36 rfl (lv_at hl 0 rfl) ?_
      refine z_get F hK hP hinT 0 rfl rfl 0 (by decide) rfl wf_T_34 rfl dT_alter_37 ?_
      refine z_if_le F (by omega) (tgt := 45) dT_alter_40 rfl (fun h => absurd h (by decide)) (fun h => ?_)
      refine z_iconst (v := 0) F (by decide) dT_alter_43 ?_
      refine z_topV (z_b false) (by decide) ?_
      exact W.zret F.1 F.2.1 hr rfl (fun t ht hW => ⟨rfl, by rw [ht]; exact hP, va_K.moved hW.alike hK, hD, hS.F ht⟩) hS.2.2 dT_alter_44
    · obtain ⟨j9, hj9, rfl⟩ := nI_of h1
      have hl : lv_has ls 3 [(0, .ref y0), (1, .int (nI j9)), (2, .int y)] := hl
      rw [bl_nI _ hj9] at h9
      have h8 := of_decide_eq_false h9
      refine lv_iload_n F.1 F.2.1 dT_alter_5 rfl (lv_at hl 1 rfl) ?_
      refine z_iconst (v := 2) F (by decide) dT_alter_6 ?_
      refine z_icmp_gt F (by omega) (by omega) (tgt := 17) dT_alter_7 rfl (fun h => ?_) (fun h => absurd h (by omega))
      refine z_iconst (v := 1) F (by decide) dT_alter_17 ?_
      refine lv_goto F.1 F.2.1 (tgt := 33) dT_alter_18 rfl ?_
      refine z_put F hK hP hD hS hinT tyT tyT_ok nmT 0 rfl rfl 0 (by decide) rfl rfl wf_T_34 (rfl) (rfl) (Nat.le_of_ble_eq_true rfl) dT_alter_33 (fun H locs hP hD hS => ?_)
      have hP : va_P (dC, dI) vwCl ([(y0, .inr (5, [.int (nI 1), .ref yR, .int (nI cn), .int (nI pb), .ref yV, .ref yI, .int (z_b md), .long (lN ta), .long (lN al), .long (lN be), .long (lN ga), .long (lN de), .long (lN va), .ref yX, .int (z_b pd), .ref yP, .ref yQ, .ref yS, .ref yD])), (yR, .inl (cL, 816, .inr (.inl (fun x9 => lN (f x9))))), (yV, .inl (cL, 16, .inr (.inl (fun x9 => lN (v x9))))), (yI, .inl (cL, 16, .inr (.inl (fun x9 => lN (inp x9))))), (yX, .inl (cL, 16, .inr (.inl (fun x9 => lN (mx x9))))), (yP, .inl (cL, 3, .inr (.inl (fun x9 => lN (el x9))))), (yQ, .inl (cL, 32, .inr (.inl (fun x9 => lN (qt x9))))), (yS, .inl (cL, 48, .inr (.inl (fun x9 => lN (su x9))))), (yD, .inl (cL, 32, .inr (.inl (fun x9 => lN (pr x9)))))]) H := hP
      have hD : va_D A ([(y0, .inr (5, [.int (nI 1), .ref yR, .int (nI cn), .int (nI pb), .ref yV, .ref yI, .int (z_b md), .long (lN ta), .long (lN al), .long (lN be), .long (lN ga), .long (lN de), .long (lN va), .ref yX, .int (z_b pd), .ref yP, .ref yQ, .ref yS, .ref yD])), (yR, .inl (cL, 816, .inr (.inl (fun x9 => lN (f x9))))), (yV, .inl (cL, 16, .inr (.inl (fun x9 => lN (v x9))))), (yI, .inl (cL, 16, .inr (.inl (fun x9 => lN (inp x9))))), (yX, .inl (cL, 16, .inr (.inl (fun x9 => lN (mx x9))))), (yP, .inl (cL, 3, .inr (.inl (fun x9 => lN (el x9))))), (yQ, .inl (cL, 32, .inr (.inl (fun x9 => lN (qt x9))))), (yS, .inl (cL, 48, .inr (.inl (fun x9 => lN (su x9))))), (yD, .inl (cL, 32, .inr (.inl (fun x9 => lN (pr x9)))))]) := hD
      refine lv_aload_n F.1 F.2.1 dT_alter_36 rfl (lv_at hl 0 rfl) ?_
      refine z_get F hK hP hinT 0 rfl rfl 0 (by decide) rfl wf_T_34 rfl dT_alter_37 ?_
      refine z_if_le F (by omega) (tgt := 45) dT_alter_40 rfl (fun h => absurd h (by decide)) (fun h => ?_)
      refine z_iconst (v := 0) F (by decide) dT_alter_43 ?_
      refine z_topV (z_b false) (by decide) ?_
      exact W.zret F.1 F.2.1 hr rfl (fun t ht hW => ⟨rfl, by rw [ht]; exact hP, va_K.moved hW.alike hK, hD, hS.F ht⟩) hS.2.2 dT_alter_44
  | true =>
    rw [h9, Bool.true_and] at h
    obtain ⟨x, hx, rfl⟩ := bl_of h9 (by decide)
    have hl : lv_has ls 3 [(0, .ref y0), (1, .int (nI x)), (2, .int y)] := hl
    clear h9
    have h9 := h
    refine lv_aload_n F.1 F.2.1 dT_alter_0 rfl (lv_at hl 0 rfl) ?_
    refine lv_iload_n F.1 F.2.1 dT_alter_1 rfl (lv_at hl 1 rfl) ?_
    refine lv_if_lt F.1 F.2.1 (tgt := 17) dT_alter_2 rfl (fun h => absurd h (nI_pos (by omega))) (fun h => ?_)
    refine lv_iload_n F.1 F.2.1 dT_alter_5 rfl (lv_at hl 1 rfl) ?_
    refine z_iconst (v := 2) F (by decide) dT_alter_6 ?_
    refine z_icmp_gt F (by omega) (by omega) (tgt := 17) dT_alter_7 rfl (fun h => absurd h (by omega)) (fun h => ?_)
    refine lv_iload_n F.1 F.2.1 dT_alter_10 rfl (lv_at hl 2 rfl) ?_
    refine z_call (z_runS [.int y] [.ref y0] F (ct_isNumber l y) kk_T_isNumber wl_T_49 rfl rfl ⟨Nat.le_of_ble_eq_true rfl, Nat.le_of_ble_eq_true rfl⟩ z_preN rfl hl.1 rfl (Nat.le_of_ble_eq_true rfl) dT_alter_11 ⟨Nat.zero_le _, Nat.zero_le _⟩) ?_
    refine z_ifb_ne F (tgt := 21) dT_alter_14 rfl (fun h => by rw [h9] at h; cases h) (fun h => ?_)
    refine z_iconst (v := 1) F (by decide) dT_alter_17 ?_
    refine lv_goto F.1 F.2.1 (tgt := 33) dT_alter_18 rfl ?_
    refine z_put F hK hP hD hS hinT tyT tyT_ok nmT 0 rfl rfl 0 (by decide) rfl rfl wf_T_34 (rfl) (rfl) (Nat.le_of_ble_eq_true rfl) dT_alter_33 (fun H locs hP hD hS => ?_)
    have hP : va_P (dC, dI) vwCl ([(y0, .inr (5, [.int (nI 1), .ref yR, .int (nI cn), .int (nI pb), .ref yV, .ref yI, .int (z_b md), .long (lN ta), .long (lN al), .long (lN be), .long (lN ga), .long (lN de), .long (lN va), .ref yX, .int (z_b pd), .ref yP, .ref yQ, .ref yS, .ref yD])), (yR, .inl (cL, 816, .inr (.inl (fun x9 => lN (f x9))))), (yV, .inl (cL, 16, .inr (.inl (fun x9 => lN (v x9))))), (yI, .inl (cL, 16, .inr (.inl (fun x9 => lN (inp x9))))), (yX, .inl (cL, 16, .inr (.inl (fun x9 => lN (mx x9))))), (yP, .inl (cL, 3, .inr (.inl (fun x9 => lN (el x9))))), (yQ, .inl (cL, 32, .inr (.inl (fun x9 => lN (qt x9))))), (yS, .inl (cL, 48, .inr (.inl (fun x9 => lN (su x9))))), (yD, .inl (cL, 32, .inr (.inl (fun x9 => lN (pr x9)))))]) H := hP
    have hD : va_D A ([(y0, .inr (5, [.int (nI 1), .ref yR, .int (nI cn), .int (nI pb), .ref yV, .ref yI, .int (z_b md), .long (lN ta), .long (lN al), .long (lN be), .long (lN ga), .long (lN de), .long (lN va), .ref yX, .int (z_b pd), .ref yP, .ref yQ, .ref yS, .ref yD])), (yR, .inl (cL, 816, .inr (.inl (fun x9 => lN (f x9))))), (yV, .inl (cL, 16, .inr (.inl (fun x9 => lN (v x9))))), (yI, .inl (cL, 16, .inr (.inl (fun x9 => lN (inp x9))))), (yX, .inl (cL, 16, .inr (.inl (fun x9 => lN (mx x9))))), (yP, .inl (cL, 3, .inr (.inl (fun x9 => lN (el x9))))), (yQ, .inl (cL, 32, .inr (.inl (fun x9 => lN (qt x9))))), (yS, .inl (cL, 48, .inr (.inl (fun x9 => lN (su x9))))), (yD, .inl (cL, 32, .inr (.inl (fun x9 => lN (pr x9)))))]) := hD
    refine lv_aload_n F.1 F.2.1 dT_alter_36 rfl (lv_at hl 0 rfl) ?_
    refine z_get F hK hP hinT 0 rfl rfl 0 (by decide) rfl wf_T_34 rfl dT_alter_37 ?_
    refine z_if_le F (by omega) (tgt := 45) dT_alter_40 rfl (fun h => absurd h (by decide)) (fun h => ?_)
    refine z_iconst (v := 0) F (by decide) dT_alter_43 ?_
    refine z_topV (z_b false) (by decide) ?_
    exact W.zret F.1 F.2.1 hr rfl (fun t ht hW => ⟨rfl, by rw [ht]; exact hP, va_K.moved hW.alike hK, hD, hS.F ht⟩) hS.2.2 dT_alter_44
set_option maxHeartbeats 4000000 in
set_option maxRecDepth 100000 in
theorem ct_alter_np (l : Launch) (dC : Nat → ClassId) (dI : Nat → Nat → Nat) (cI cL : ClassId) (zz : Nat) (y0 yR yV yI yX yP yQ yS yD : Nat) (th cn pb ta al be ga de va : Nat) (md pd : Bool) (f v inp mx el qt su pr : Nat → Nat) (k y : Nat) (hk : k < 3) (hy : y < 998244353) (hp : pd = false) : Met l yT_alter (zW yT_alter cT_alter 3 (.some .boolean)) ({ frames := 1, cells := 0, slots := 0, locals := 20 }) (va_Pc [.ref y0, .int (nI k), .int (nI y)] (z_P (dC, dI) vwCl [(cI, .int), (cL, .long)] zz ([(y0, .inr (5, [.int (nI th), .ref yR, .int (nI cn), .int (nI pb), .ref yV, .ref yI, .int (z_b md), .long (lN ta), .long (lN al), .long (lN be), .long (lN ga), .long (lN de), .long (lN va), .ref yX, .int (z_b pd), .ref yP, .ref yQ, .ref yS, .ref yD])), (yR, .inl (cL, 816, .inr (.inl (fun x9 => lN (f x9))))), (yV, .inl (cL, 16, .inr (.inl (fun x9 => lN (v x9))))), (yI, .inl (cL, 16, .inr (.inl (fun x9 => lN (inp x9))))), (yX, .inl (cL, 16, .inr (.inl (fun x9 => lN (mx x9))))), (yP, .inl (cL, 3, .inr (.inl (fun x9 => lN (el x9))))), (yQ, .inl (cL, 32, .inr (.inl (fun x9 => lN (qt x9))))), (yS, .inl (cL, 48, .inr (.inl (fun x9 => lN (su x9))))), (yD, .inl (cL, 32, .inr (.inl (fun x9 => lN (pr x9)))))]))) (z_Q (dC, dI) vwCl [(cI, .int), (cL, .long)] (some (.int (z_b false))) ([(y0, .inr (5, [.int (nI 2), .ref yR, .int (nI cn), .int (nI pb), .ref yV, .ref yI, .int (z_b md), .long (lN ta), .long (lN al), .long (lN be), .long (lN ga), .long (lN de), .long (lN va), .ref yX, .int (z_b pd), .ref yP, .ref yQ, .ref yS, .ref yD])), (yR, .inl (cL, 816, .inr (.inl (fun x9 => lN (f x9))))), (yV, .inl (cL, 16, .inr (.inl (fun x9 => lN (v x9))))), (yI, .inl (cL, 16, .inr (.inl (fun x9 => lN (inp x9))))), (yX, .inl (cL, 16, .inr (.inl (fun x9 => lN (mx x9))))), (yP, .inl (cL, 3, .inr (.inl (fun x9 => lN (el x9))))), (yQ, .inl (cL, 32, .inr (.inl (fun x9 => lN (qt x9))))), (yS, .inl (cL, 48, .inr (.inl (fun x9 => lN (su x9))))), (yD, .inl (cL, 32, .inr (.inl (fun x9 => lN (pr x9)))))]) (va_A ([(y0, .inr (5, [.int (nI th), .ref yR, .int (nI cn), .int (nI pb), .ref yV, .ref yI, .int (z_b md), .long (lN ta), .long (lN al), .long (lN be), .long (lN ga), .long (lN de), .long (lN va), .ref yX, .int (z_b pd), .ref yP, .ref yQ, .ref yS, .ref yD])), (yR, .inl (cL, 816, .inr (.inl (fun x9 => lN (f x9))))), (yV, .inl (cL, 16, .inr (.inl (fun x9 => lN (v x9))))), (yI, .inl (cL, 16, .inr (.inl (fun x9 => lN (inp x9))))), (yX, .inl (cL, 16, .inr (.inl (fun x9 => lN (mx x9))))), (yP, .inl (cL, 3, .inr (.inl (fun x9 => lN (el x9))))), (yQ, .inl (cL, 32, .inr (.inl (fun x9 => lN (qt x9))))), (yS, .inl (cL, 48, .inr (.inl (fun x9 => lN (su x9))))), (yD, .inl (cL, 32, .inr (.inl (fun x9 => lN (pr x9)))))]) zz)) 0 0 (va_A ([(y0, .inr (5, [.int (nI th), .ref yR, .int (nI cn), .int (nI pb), .ref yV, .ref yI, .int (z_b md), .long (lN ta), .long (lN al), .long (lN be), .long (lN ga), .long (lN de), .long (lN va), .ref yX, .int (z_b pd), .ref yP, .ref yQ, .ref yS, .ref yD])), (yR, .inl (cL, 816, .inr (.inl (fun x9 => lN (f x9))))), (yV, .inl (cL, 16, .inr (.inl (fun x9 => lN (v x9))))), (yI, .inl (cL, 16, .inr (.inl (fun x9 => lN (inp x9))))), (yX, .inl (cL, 16, .inr (.inl (fun x9 => lN (mx x9))))), (yP, .inl (cL, 3, .inr (.inl (fun x9 => lN (el x9))))), (yQ, .inl (cL, 32, .inr (.inl (fun x9 => lN (qt x9))))), (yS, .inl (cL, 48, .inr (.inl (fun x9 => lN (su x9))))), (yD, .inl (cL, 32, .inr (.inl (fun x9 => lN (pr x9)))))]) zz) := by
  refine Met.ofW (cc := cT_alter) (maxL := 3) (ret := (.some .boolean)) (by decide) rfl ?_
  intro p e s m args below meth c s₁ B hml hv
  obtain ⟨rfl, hsz, hP, hK, hD0⟩ := hv
  have F : CallFix p m c cT_alter 3 s _ zT RT := ⟨B.exec, B.bytes, hml, findClass_of_methodNamed B.named, fun w h => atoms_spec (ws := (zW yT_alter cT_alter 3 (.some .boolean))) B.pre w (List.mem_cons_of_mem _ h)⟩
  have hr := B.returns
  have hlocks := B.notSynchronized
  subst hsz
  have hD := hD0.self (sz := s.heap.size)
  generalize hAe : va_A ([(y0, .inr (5, [.int (nI th), .ref yR, .int (nI cn), .int (nI pb), .ref yV, .ref yI, .int (z_b md), .long (lN ta), .long (lN al), .long (lN be), .long (lN ga), .long (lN de), .long (lN va), .ref yX, .int (z_b pd), .ref yP, .ref yQ, .ref yS, .ref yD])), (yR, .inl (cL, 816, .inr (.inl (fun x9 => lN (f x9))))), (yV, .inl (cL, 16, .inr (.inl (fun x9 => lN (v x9))))), (yI, .inl (cL, 16, .inr (.inl (fun x9 => lN (inp x9))))), (yX, .inl (cL, 16, .inr (.inl (fun x9 => lN (mx x9))))), (yP, .inl (cL, 3, .inr (.inl (fun x9 => lN (el x9))))), (yQ, .inl (cL, 32, .inr (.inl (fun x9 => lN (qt x9))))), (yS, .inl (cL, 48, .inr (.inl (fun x9 => lN (su x9))))), (yD, .inl (cL, 32, .inr (.inl (fun x9 => lN (pr x9)))))]) s.heap.size = A at hD ⊢
  have hAA : ∀ q : Nat, s.heap.size ≤ q → A q := fun q h => by rw [← hAe]; exact Or.inr h
  have hS : va_S A s.heap s.heap [] := va_S.rf
  have hl := lv_entry ([.ref y0, .int (nI k), .int (nI y)]) (n := 3) (Nat.le_of_ble_eq_true rfl)
  rw [lg_entry_eq]
  generalize (lg_sl ([.ref y0, .int (nI k), .int (nI y)]) ++ List.replicate (3 - (lg_sl ([.ref y0, .int (nI k), .int (nI y)])).length) Slot.unset).toArray = ls at hl ⊢
  have hl : lv_has ls 3 [(0, .ref y0), (1, .int (nI k)), (2, .int (nI y))] := hl
  refine lv_aload_n F.1 F.2.1 dT_alter_0 rfl (lv_at hl 0 rfl) ?_
  refine lv_iload_n F.1 F.2.1 dT_alter_1 rfl (lv_at hl 1 rfl) ?_
  refine lv_if_lt F.1 F.2.1 (tgt := 17) dT_alter_2 rfl (fun h => absurd h (nI_pos (by omega))) (fun h => ?_)
  refine lv_iload_n F.1 F.2.1 dT_alter_5 rfl (lv_at hl 1 rfl) ?_
  refine z_iconst (v := 2) F (by decide) dT_alter_6 ?_
  refine z_icmp_gt F (by omega) (by omega) (tgt := 17) dT_alter_7 rfl (fun h => absurd h (by omega)) (fun h => ?_)
  refine lv_iload_n F.1 F.2.1 dT_alter_10 rfl (lv_at hl 2 rfl) ?_
  refine z_call (z_runS [.int (nI y)] [.ref y0] F (ct_isNumber_t l y (by omega)) kk_T_isNumber wl_T_49 rfl rfl ⟨Nat.le_of_ble_eq_true rfl, Nat.le_of_ble_eq_true rfl⟩ z_preN rfl hl.1 rfl (Nat.le_of_ble_eq_true rfl) dT_alter_11 ⟨Nat.zero_le _, Nat.zero_le _⟩) ?_
  refine z_if_ne F (by omega) (tgt := 21) dT_alter_14 rfl (fun h => ?_) (fun h => absurd h (by decide))
  refine lv_aload_n F.1 F.2.1 dT_alter_21 rfl (lv_at hl 0 rfl) ?_
  refine z_get F hK hP hinT 0 rfl rfl 14 (by decide) rfl wf_T_119 rfl dT_alter_22 ?_
  refine z_ifb_ne F (tgt := 32) dT_alter_25 rfl (fun h => by rw [hp] at h; cases h) (fun h => ?_)
  refine z_iconst (v := 2) F (by decide) dT_alter_28 ?_
  refine lv_goto F.1 F.2.1 (tgt := 33) dT_alter_29 rfl ?_
  refine z_put F hK hP hD hS hinT tyT tyT_ok nmT 0 rfl rfl 0 (by decide) rfl rfl wf_T_34 (rfl) (rfl) (Nat.le_of_ble_eq_true rfl) dT_alter_33 (fun H locs hP hD hS => ?_)
  have hP : va_P (dC, dI) vwCl ([(y0, .inr (5, [.int (nI 2), .ref yR, .int (nI cn), .int (nI pb), .ref yV, .ref yI, .int (z_b md), .long (lN ta), .long (lN al), .long (lN be), .long (lN ga), .long (lN de), .long (lN va), .ref yX, .int (z_b pd), .ref yP, .ref yQ, .ref yS, .ref yD])), (yR, .inl (cL, 816, .inr (.inl (fun x9 => lN (f x9))))), (yV, .inl (cL, 16, .inr (.inl (fun x9 => lN (v x9))))), (yI, .inl (cL, 16, .inr (.inl (fun x9 => lN (inp x9))))), (yX, .inl (cL, 16, .inr (.inl (fun x9 => lN (mx x9))))), (yP, .inl (cL, 3, .inr (.inl (fun x9 => lN (el x9))))), (yQ, .inl (cL, 32, .inr (.inl (fun x9 => lN (qt x9))))), (yS, .inl (cL, 48, .inr (.inl (fun x9 => lN (su x9))))), (yD, .inl (cL, 32, .inr (.inl (fun x9 => lN (pr x9)))))]) H := hP
  have hD : va_D A ([(y0, .inr (5, [.int (nI 2), .ref yR, .int (nI cn), .int (nI pb), .ref yV, .ref yI, .int (z_b md), .long (lN ta), .long (lN al), .long (lN be), .long (lN ga), .long (lN de), .long (lN va), .ref yX, .int (z_b pd), .ref yP, .ref yQ, .ref yS, .ref yD])), (yR, .inl (cL, 816, .inr (.inl (fun x9 => lN (f x9))))), (yV, .inl (cL, 16, .inr (.inl (fun x9 => lN (v x9))))), (yI, .inl (cL, 16, .inr (.inl (fun x9 => lN (inp x9))))), (yX, .inl (cL, 16, .inr (.inl (fun x9 => lN (mx x9))))), (yP, .inl (cL, 3, .inr (.inl (fun x9 => lN (el x9))))), (yQ, .inl (cL, 32, .inr (.inl (fun x9 => lN (qt x9))))), (yS, .inl (cL, 48, .inr (.inl (fun x9 => lN (su x9))))), (yD, .inl (cL, 32, .inr (.inl (fun x9 => lN (pr x9)))))]) := hD
  refine lv_aload_n F.1 F.2.1 dT_alter_36 rfl (lv_at hl 0 rfl) ?_
  refine z_get F hK hP hinT 0 rfl rfl 0 (by decide) rfl wf_T_34 rfl dT_alter_37 ?_
  refine z_if_le F (by omega) (tgt := 45) dT_alter_40 rfl (fun h => absurd h (by decide)) (fun h => ?_)
  refine z_iconst (v := 0) F (by decide) dT_alter_43 ?_
  refine z_topV (z_b false) (by decide) ?_
  exact W.zret F.1 F.2.1 hr rfl (fun t ht hW => ⟨rfl, by rw [ht]; exact hP, va_K.moved hW.alike hK, hD, hS.F ht⟩) hS.2.2 dT_alter_44
