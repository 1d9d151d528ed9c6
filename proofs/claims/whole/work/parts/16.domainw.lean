set_option maxHeartbeats 4000000 in
set_option maxRecDepth 100000 in
theorem c_interpolate (l : Launch) (dC : Nat → ClassId) (dI : Nat → Nat → Nat) (cI cL : ClassId) (wr : va_W) (zz : Nat) (h0 hB hV hO sz ov : Nat) (b d o : Nat → Nat) (hd : ∀ j, d j < 998244353) (hb : ∀ j, b j < 998244353) (ho : ov < 998244353) (kk : Nat) (h4 : kk ≤ 4) (hz : sz = 2 ^ kk) : Met l yD_interpolate (zW yD_interpolate cD_interpolate 4 none) ({ frames := 2, cells := 0, slots := 0, locals := 46 }) (va_Pc [.ref h0, .ref hV, .ref hO] (z_P (dC, dI) vwCl [(cI, .int), (cL, .long)] zz ((h0, .inr (1, [.ref hB, .int (nI sz), .int (nI ov)])) :: (hB, .inl (cI, 16, .inl (fun x9 => nI (b x9)))) :: (hV, .inl (cI, 16, .inl (fun x9 => nI (d x9)))) :: (hO, .inl (cI, 16, .inl (fun x9 => nI (o x9)))) :: wr))) (z_Q (dC, dI) vwCl [(cI, .int), (cL, .long)] none ((h0, .inr (1, [.ref hB, .int (nI sz), .int (nI ov)])) :: (hB, .inl (cI, 16, .inl (fun x9 => nI (b x9)))) :: (hV, .inl (cI, 16, .inl (fun x9 => nI (d x9)))) :: (hO, .inl (cI, 16, .inl (fun x9 => nI (((fun k => if k < sz then (sg sz (fun u => d u * b (u * k % sz)) % 998244353 * ov % 998244353) else o k)) x9)))) :: wr) (va_A ((h0, .inr (1, [.ref hB, .int (nI sz), .int (nI ov)])) :: (hB, .inl (cI, 16, .inl (fun x9 => nI (b x9)))) :: (hV, .inl (cI, 16, .inl (fun x9 => nI (d x9)))) :: (hO, .inl (cI, 16, .inl (fun x9 => nI (o x9)))) :: wr) zz)) 0 0 (va_A ((h0, .inr (1, [.ref hB, .int (nI sz), .int (nI ov)])) :: (hB, .inl (cI, 16, .inl (fun x9 => nI (b x9)))) :: (hV, .inl (cI, 16, .inl (fun x9 => nI (d x9)))) :: (hO, .inl (cI, 16, .inl (fun x9 => nI (o x9)))) :: wr) zz) := by
  refine Met.ofW (cc := cD_interpolate) (maxL := 4) (ret := none) (by decide) rfl ?_
  intro p e s m args below meth c s₁ B hml hv
  obtain ⟨rfl, hsz, hP, hK, hD0⟩ := hv
  have F : CallFix p m c cD_interpolate 4 s _ zT RD := ⟨B.exec, B.bytes, hml, findClass_of_methodNamed B.named, fun w h => atoms_spec (ws := (zW yD_interpolate cD_interpolate 4 none)) B.pre w (List.mem_cons_of_mem _ h)⟩
  have hr := B.returns
  have hlocks := B.notSynchronized
  subst hsz
  have hD := hD0.self (sz := s.heap.size)
  generalize hAe : va_A ((h0, .inr (1, [.ref hB, .int (nI sz), .int (nI ov)])) :: (hB, .inl (cI, 16, .inl (fun x9 => nI (b x9)))) :: (hV, .inl (cI, 16, .inl (fun x9 => nI (d x9)))) :: (hO, .inl (cI, 16, .inl (fun x9 => nI (o x9)))) :: wr) s.heap.size = A at hD ⊢
  have hAA : ∀ q : Nat, s.heap.size ≤ q → A q := fun q h => by rw [← hAe]; exact Or.inr h
  have hS : va_S A s.heap s.heap [] := va_S.rf
  have hl := lv_entry ([.ref h0, .ref hV, .ref hO]) (n := 4) (Nat.le_of_ble_eq_true rfl)
  rw [lg_entry_eq]
  generalize (lg_sl ([.ref h0, .ref hV, .ref hO]) ++ List.replicate (4 - (lg_sl ([.ref h0, .ref hV, .ref hO])).length) Slot.unset).toArray = ls at hl ⊢
  have hl : lv_has ls 4 [(0, .ref h0), (1, .ref hV), (2, .ref hO)] := hl
  have hs : sz ≤ 16 := by rw [hz]; exact Nat.pow_le_pow_right (by decide) h4
  refine z_iconst (v := 0) F (by decide) dD_interpolate_0 ?_
  refine lv_istore_n F.1 F.2.1 (lv' := [(3, .int (nI 0)), (0, .ref h0), (1, .ref hV), (2, .ref hO)]) dD_interpolate_1 rfl hl (by decide) rfl (fun ls hl => ?_)
  have hl : lv_has ls 4 [(3, .int (nI 0)), (0, .ref h0), (1, .ref hV), (2, .ref hO)] := lv_sub hl [0, 1, 2, 3] rfl
  refine z_up (E := sz) (P := fun j => ∀ (o2 : Nat → Nat) (ls : Array Slot) (H : Heap) (locs : List Loc), (∀ t, t < j → o2 t = (sg sz (fun u => d u * b (u * t % sz)) % 998244353 * ov % 998244353)) → (∀ t, j ≤ t → o2 t = o t) → va_P (dC, dI) vwCl ((h0, .inr (1, [.ref hB, .int (nI sz), .int (nI ov)])) :: (hB, .inl (cI, 16, .inl (fun x9 => nI (b x9)))) :: (hV, .inl (cI, 16, .inl (fun x9 => nI (d x9)))) :: (hO, .inl (cI, 16, .inl (fun x9 => nI (o2 x9)))) :: wr) H → va_D A ((h0, .inr (1, [.ref hB, .int (nI sz), .int (nI ov)])) :: (hB, .inl (cI, 16, .inl (fun x9 => nI (b x9)))) :: (hV, .inl (cI, 16, .inl (fun x9 => nI (d x9)))) :: (hO, .inl (cI, 16, .inl (fun x9 => nI (o2 x9)))) :: wr) → va_S A s.heap H locs → lv_has ls 4 [(3, .int (nI j)), (0, .ref h0), (1, .ref hV), (2, .ref hO)] → W p l e _ s m _ below meth c H locs _ _ _ (F0 m 2 ls [])) ?_ 0 (Nat.zero_le _) o ls s.heap [] (fun t h => absurd h (Nat.not_lt_zero t)) (fun _ _ => rfl) hP hD hS hl
  intro j hj ih o2 ls H locs h2 h3 hP hD hS hl
  refine lv_iload_n F.1 F.2.1 dD_interpolate_2 rfl (lv_at hl 0 rfl) ?_
  refine lv_aload_n F.1 F.2.1 dD_interpolate_3 rfl (lv_at hl 1 rfl) ?_
  refine z_get F hK hP hinD 0 rfl rfl 1 (by decide) rfl wf_D_19 rfl dD_interpolate_4 ?_
  refine z_icmp_ge F (by omega) (by omega) (tgt := 25) dD_interpolate_7 rfl (fun h1 => ?_) (fun h1 => ?_)
  · have hP := z_fI (k := 3) (fun k => if k < sz then (sg sz (fun u => d u * b (u * k % sz)) % 998244353 * ov % 998244353) else o k) hP rfl (fun t ht => by by_cases e9 : t < sz; (rw [h2 t (by omega)]; exact (if_pos e9).symm); (rw [h3 t (by omega)]; exact (if_neg e9).symm))
    have hD := hD.set (p := 3) (e := .inl (cI, 16, .inl (fun x9 => nI ((fun k => if k < sz then (sg sz (fun u => d u * b (u * k % sz)) % 998244353 * ov % 998244353) else o k) x9)))) rfl
    exact W.vret F.1 F.2.1 hr (fun t ht hW => ⟨rfl, by rw [ht]; exact hP, va_K.moved hW.alike hK, hD, hS.F ht⟩) hS.2.2 dD_interpolate_25
  · refine lv_aload_n F.1 F.2.1 dD_interpolate_10 rfl (lv_at hl 3 rfl) ?_
    refine lv_iload_n F.1 F.2.1 dD_interpolate_11 rfl (lv_at hl 0 rfl) ?_
    refine lv_aload_n F.1 F.2.1 dD_interpolate_12 rfl (lv_at hl 1 rfl) ?_
    refine lv_aload_n F.1 F.2.1 dD_interpolate_13 rfl (lv_at hl 2 rfl) ?_
    refine lv_iload_n F.1 F.2.1 dD_interpolate_14 rfl (lv_at hl 0 rfl) ?_
    refine z_call (z_runV [.ref hV, .int (nI j)] [.int (nI j), .ref hO] F (c_coefficient l dC dI cI cL _ 0 1 2 h0 hB hV sz ov b d j rfl rfl rfl hd hb ho (by omega) kk h4 hz) kk_D_coefficient wl_D_45 rfl rfl ⟨Nat.le_of_ble_eq_true rfl, Nat.le_of_ble_eq_true rfl⟩ (z_preVR (q := (RD, TD, 3)) hP hK rfl (q0 := 0) rfl) rfl hl.1 rfl (Nat.le_of_ble_eq_true rfl) dD_interpolate_15 ⟨Nat.zero_le _, Nat.zero_le _⟩) ?_
    refine z_iast F hK hP hD hS 3 0 rfl rfl (by omega) (by decide) dD_interpolate_18 (fun H locs hP hD hS => ?_)
    have hP : va_P (dC, dI) vwCl ((h0, .inr (1, [.ref hB, .int (nI sz), .int (nI ov)])) :: (hB, .inl (cI, 16, .inl (fun x9 => nI (b x9)))) :: (hV, .inl (cI, 16, .inl (fun x9 => nI (d x9)))) :: (hO, .inl (cI, 16, .inl (fun x9 => nI ((va_up o2 j (sg sz (fun u => d u * b (u * j % sz)) % 998244353 * ov % 998244353)) x9)))) :: wr) H := hP
    have hD : va_D A ((h0, .inr (1, [.ref hB, .int (nI sz), .int (nI ov)])) :: (hB, .inl (cI, 16, .inl (fun x9 => nI (b x9)))) :: (hV, .inl (cI, 16, .inl (fun x9 => nI (d x9)))) :: (hO, .inl (cI, 16, .inl (fun x9 => nI ((va_up o2 j (sg sz (fun u => d u * b (u * j % sz)) % 998244353 * ov % 998244353)) x9)))) :: wr) := hD
    refine lv_iinc F.1 F.2.1 (k := 0) (v := nI (j + 1)) (lv' := [(3, .int (nI (j + 1))), (0, .ref h0), (1, .ref hV), (2, .ref hO)]) dD_interpolate_19 hl rfl (nI_1 j) (by decide) rfl (fun ls hl => ?_)
    refine lv_goto F.1 F.2.1 (tgt := 2) dD_interpolate_22 rfl ?_
    have hl : lv_has ls 4 [(3, .int (nI ((j + 1)))), (0, .ref h0), (1, .ref hV), (2, .ref hO)] := lv_sub hl [0, 1, 2, 3] rfl
    exact ih (by omega) (va_up o2 j (sg sz (fun u => d u * b (u * j % sz)) % 998244353 * ov % 998244353)) ls H locs (fun t ht => by by_cases e9 : t = j; (rw [e9, up_at]); (rw [up_ne _ _ e9]; exact h2 t (by omega))) (fun t ht => by rw [up_ne _ _ (by omega)]; exact h3 t (by omega)) hP hD hS hl
set_option maxHeartbeats 4000000 in
set_option maxRecDepth 100000 in
theorem c_fit (l : Launch) (dC : Nat → ClassId) (dI : Nat → Nat → Nat) (cI cL : ClassId) (wr : va_W) (zz : Nat) (h0 hB sz0 ov0 mm : Nat) (b : Nat → Nat) (hm : mm ≤ 16) : Met l yD_fit (zW yD_fit cD_fit 5 none) ({ frames := 3, cells := 0, slots := 0, locals := 66 }) (va_Pc [.ref h0, .int (nI mm)] (z_P (dC, dI) vwCl [(cI, .int), (cL, .long)] zz ((h0, .inr (1, [.ref hB, .int (nI sz0), .int (nI ov0)])) :: (hB, .inl (cI, 16, .inl (fun x9 => nI (b x9)))) :: wr))) (z_Q (dC, dI) vwCl [(cI, .int), (cL, .long)] none ((h0, .inr (1, [.ref hB, .int (nI (szN mm)), .int (nI (iv (szN mm)))])) :: (hB, .inl (cI, 16, .inl (fun x9 => nI (((fun j => if j < szN mm then bk (szN mm) ^ j % 998244353 else b j)) x9)))) :: wr) (va_A ((h0, .inr (1, [.ref hB, .int (nI sz0), .int (nI ov0)])) :: (hB, .inl (cI, 16, .inl (fun x9 => nI (b x9)))) :: wr) zz)) 0 0 (va_A ((h0, .inr (1, [.ref hB, .int (nI sz0), .int (nI ov0)])) :: (hB, .inl (cI, 16, .inl (fun x9 => nI (b x9)))) :: wr) zz) := by
  refine Met.ofW (cc := cD_fit) (maxL := 5) (ret := none) (by decide) rfl ?_
  intro p e s m args below meth c s₁ B hml hv
  obtain ⟨rfl, hsz, hP, hK, hD0⟩ := hv
  have F : CallFix p m c cD_fit 5 s _ zT RD := ⟨B.exec, B.bytes, hml, findClass_of_methodNamed B.named, fun w h => atoms_spec (ws := (zW yD_fit cD_fit 5 none)) B.pre w (List.mem_cons_of_mem _ h)⟩
  have hr := B.returns
  have hlocks := B.notSynchronized
  subst hsz
  have hD := hD0.self (sz := s.heap.size)
  generalize hAe : va_A ((h0, .inr (1, [.ref hB, .int (nI sz0), .int (nI ov0)])) :: (hB, .inl (cI, 16, .inl (fun x9 => nI (b x9)))) :: wr) s.heap.size = A at hD ⊢
  have hAA : ∀ q : Nat, s.heap.size ≤ q → A q := fun q h => by rw [← hAe]; exact Or.inr h
  have hS : va_S A s.heap s.heap [] := va_S.rf
  have hl := lv_entry ([.ref h0, .int (nI mm)]) (n := 5) (Nat.le_of_ble_eq_true rfl)
  rw [lg_entry_eq]
  generalize (lg_sl ([.ref h0, .int (nI mm)]) ++ List.replicate (5 - (lg_sl ([.ref h0, .int (nI mm)])).length) Slot.unset).toArray = ls at hl ⊢
  have hl : lv_has ls 5 [(0, .ref h0), (1, .int (nI mm))] := hl
  refine lv_aload_n F.1 F.2.1 dD_fit_0 rfl (lv_at hl 0 rfl) ?_
  refine z_iconst (v := 2) F (by decide) dD_fit_1 ?_
  refine z_put F hK hP hD hS hinD tyD tyD_ok nmD 0 rfl rfl 1 (by decide) rfl rfl wf_D_19 (rfl) (rfl) (Nat.le_of_ble_eq_true rfl) dD_fit_2 (fun H locs hP hD hS => ?_)
  have hP : va_P (dC, dI) vwCl ((h0, .inr (1, [.ref hB, .int (nI 2), .int (nI ov0)])) :: (hB, .inl (cI, 16, .inl (fun x9 => nI (b x9)))) :: wr) H := hP
  have hD : va_D A ((h0, .inr (1, [.ref hB, .int (nI 2), .int (nI ov0)])) :: (hB, .inl (cI, 16, .inl (fun x9 => nI (b x9)))) :: wr) := hD
  refine z_ldc F 499122176 (v0 := 499122176) wk_D_23 rfl dD_fit_5 ?_
  refine lv_istore_n F.1 F.2.1 (lv' := [(2, .int (nI 499122176)), (0, .ref h0), (1, .int (nI mm))]) dD_fit_7 rfl hl (by decide) rfl (fun ls hl => ?_)
  have hl : lv_has ls 5 [(2, .int (nI 499122176)), (0, .ref h0), (1, .int (nI mm))] := lv_sub hl [0, 1, 2] rfl
  refine z_fall (P := fun w => ∀ (z ex : Nat) (ls : Array Slot) (H : Heap) (locs : List Loc), (w = 16 - z) → ((z = 2 ∧ ex = 499122176) ∨ (z = 4 ∧ ex = 249561088 ∧ 2 < mm) ∨ (z = 8 ∧ ex = 124780544 ∧ 4 < mm) ∨ (z = 16 ∧ ex = 62390272 ∧ 8 < mm)) → va_P (dC, dI) vwCl ((h0, .inr (1, [.ref hB, .int (nI z), .int (nI ov0)])) :: (hB, .inl (cI, 16, .inl (fun x9 => nI (b x9)))) :: wr) H → va_D A ((h0, .inr (1, [.ref hB, .int (nI z), .int (nI ov0)])) :: (hB, .inl (cI, 16, .inl (fun x9 => nI (b x9)))) :: wr) → va_S A s.heap H locs → lv_has ls 5 [(2, .int (nI ex)), (0, .ref h0), (1, .int (nI mm))] → W p l e _ s m _ below meth c H locs _ _ _ (F0 m 8 ls [])) ?_ 14 2 499122176 ls H locs (rfl) (Or.inl ⟨rfl, rfl⟩) hP hD hS hl
  intro w ih z ex ls H locs hw hs hP hD hS hl
  refine lv_aload_n F.1 F.2.1 dD_fit_8 rfl (lv_at hl 1 rfl) ?_
  refine z_get F hK hP hinD 0 rfl rfl 1 (by decide) rfl wf_D_19 rfl dD_fit_9 ?_
  refine lv_iload_n F.1 F.2.1 dD_fit_12 rfl (lv_at hl 2 rfl) ?_
  refine z_icmp_ge F (by omega) (by omega) (tgt := 42) dD_fit_13 rfl (fun h1 => ?_) (fun h1 => ?_)
  · have hz : szN mm = z := by unfold szN; (repeat' split) <;> omega
    have hx : 998244352 / szN mm = ex := by rw [hz]; rcases hs with ⟨rfl, rfl⟩ | ⟨rfl, rfl, -⟩ | ⟨rfl, rfl, -⟩ | ⟨rfl, rfl, -⟩ <;> rfl
    have hb : 1 * iv (pw 3 ex) % 998244353 = bk (szN mm) := by unfold bk; rw [hx, Nat.one_mul, Nat.mod_eq_of_lt (iv_lt _)]
    refine lv_aload_n F.1 F.2.1 dD_fit_42 rfl (lv_at hl 1 rfl) ?_
    refine z_iconst (v := 1) F (by decide) dD_fit_43 ?_
    refine lv_aload_n F.1 F.2.1 dD_fit_44 rfl (lv_at hl 1 rfl) ?_
    refine z_get F hK hP hinD 0 rfl rfl 1 (by decide) rfl wf_D_19 rfl dD_fit_45 ?_
    refine z_call (z_runS [.int (nI 1), .int (nI z)] [.ref h0] F (c_ratio l 1 z (by decide) (by omega)) kk_F_ratio wl_D_24 rfl rfl ⟨Nat.le_of_ble_eq_true rfl, Nat.le_of_ble_eq_true rfl⟩ z_preN rfl hl.1 rfl (Nat.le_of_ble_eq_true rfl) dD_fit_48 ⟨Nat.zero_le _, Nat.zero_le _⟩) ?_
    refine z_top (iv (szN mm)) (by rw [hz, Nat.one_mul, Nat.mod_eq_of_lt (iv_lt _)]) ?_
    refine z_put F hK hP hD hS hinD tyD tyD_ok nmD 0 rfl rfl 2 (by decide) rfl rfl wf_D_30 (rfl) (rfl) (Nat.le_of_ble_eq_true rfl) dD_fit_51 (fun H locs hP hD hS => ?_)
    have hP : va_P (dC, dI) vwCl ((h0, .inr (1, [.ref hB, .int (nI z), .int (nI (iv (szN mm)))])) :: (hB, .inl (cI, 16, .inl (fun x9 => nI (b x9)))) :: wr) H := hP
    have hD : va_D A ((h0, .inr (1, [.ref hB, .int (nI z), .int (nI (iv (szN mm)))])) :: (hB, .inl (cI, 16, .inl (fun x9 => nI (b x9)))) :: wr) := hD
    refine z_iconst (v := 1) F (by decide) dD_fit_54 ?_
    refine z_iconst (v := 3) F (by decide) dD_fit_55 ?_
    refine lv_iload_n F.1 F.2.1 dD_fit_56 rfl (lv_at hl 0 rfl) ?_
    refine z_call (z_runS [.int (nI 3), .int (nI ex)] [.int (nI 1)] F (c_power l 3 ex (by decide) (by omega)) kk_F_power wl_D_33 rfl rfl ⟨Nat.le_of_ble_eq_true rfl, Nat.le_of_ble_eq_true rfl⟩ z_preN rfl hl.1 rfl (Nat.le_of_ble_eq_true rfl) dD_fit_57 ⟨Nat.zero_le _, Nat.zero_le _⟩) ?_
    refine z_call (z_runS [.int (nI 1), .int (nI (pw 3 ex))] [] F (c_ratio l 1 (pw 3 ex) (by decide) (Nat.lt_trans (pw_lt _ _) (by decide))) kk_F_ratio wl_D_24 rfl rfl ⟨Nat.le_of_ble_eq_true rfl, Nat.le_of_ble_eq_true rfl⟩ z_preN rfl hl.1 rfl (Nat.le_of_ble_eq_true rfl) dD_fit_60 ⟨Nat.zero_le _, Nat.zero_le _⟩) ?_
    refine z_top (bk (szN mm)) (hb) ?_
    refine lv_istore_n F.1 F.2.1 (lv' := [(3, .int (nI (bk (szN mm)))), (2, .int (nI ex)), (0, .ref h0), (1, .int (nI mm))]) dD_fit_63 rfl hl (by decide) rfl (fun ls hl => ?_)
    refine lv_aload_n F.1 F.2.1 dD_fit_64 rfl (lv_at hl 2 rfl) ?_
    refine z_get F hK hP hinD 0 rfl rfl 0 (by decide) rfl wf_D_9 rfl dD_fit_65 ?_
    refine z_iconst (v := 0) F (by decide) dD_fit_68 ?_
    refine z_iconst (v := 1) F (by decide) dD_fit_69 ?_
    refine z_iast F hK hP hD hS 1 0 rfl rfl (by omega) (by decide) dD_fit_70 (fun H locs hP hD hS => ?_)
    have hP : va_P (dC, dI) vwCl ((h0, .inr (1, [.ref hB, .int (nI z), .int (nI (iv (szN mm)))])) :: (hB, .inl (cI, 16, .inl (fun x9 => nI ((va_up b 0 1) x9)))) :: wr) H := hP
    have hD : va_D A ((h0, .inr (1, [.ref hB, .int (nI z), .int (nI (iv (szN mm)))])) :: (hB, .inl (cI, 16, .inl (fun x9 => nI ((va_up b 0 1) x9)))) :: wr) := hD
    refine z_iconst (v := 1) F (by decide) dD_fit_71 ?_
    refine lv_istore F.1 F.2.1 (lv' := [(4, .int (nI 1)), (3, .int (nI (bk (szN mm)))), (2, .int (nI ex)), (0, .ref h0), (1, .int (nI mm))]) dD_fit_72 hl (by decide) rfl (fun ls hl => ?_)
    have hl : lv_has ls 5 [(4, .int (nI (1 + 0))), (3, .int (nI (bk (szN mm)))), (0, .ref h0), (1, .int (nI mm)), (2, .int (nI ex))] := lv_sub hl [0, 1, 3, 4, 2] rfl
    refine z_up (E := szN mm - 1) (P := fun j => ∀ (o : Nat → Nat) (ls : Array Slot) (H : Heap) (locs : List Loc), (∀ t, t < 1 + j → o t = bk (szN mm) ^ t % 998244353) → (∀ t, 1 + j ≤ t → o t = b t) → va_P (dC, dI) vwCl ((h0, .inr (1, [.ref hB, .int (nI z), .int (nI (iv (szN mm)))])) :: (hB, .inl (cI, 16, .inl (fun x9 => nI (o x9)))) :: wr) H → va_D A ((h0, .inr (1, [.ref hB, .int (nI z), .int (nI (iv (szN mm)))])) :: (hB, .inl (cI, 16, .inl (fun x9 => nI (o x9)))) :: wr) → va_S A s.heap H locs → lv_has ls 5 [(4, .int (nI (1 + j))), (3, .int (nI (bk (szN mm)))), (0, .ref h0), (1, .int (nI mm)), (2, .int (nI ex))] → W p l e _ s m _ below meth c H locs _ _ _ (F0 m 74 ls [])) ?_ 0 (Nat.zero_le _) (va_up b 0 1) ls H locs (fun t h => by rw [show t = 0 by omega, up_at, Nat.pow_zero]) (fun t h => by rw [up_ne _ _ (by omega)]) hP hD hS hl
    intro j hj ih2 o ls H locs h2 h3 hP hD hS hl
    have hlo := szN_lo mm
    have hhi := szN_hi mm
    refine lv_iload F.1 F.2.1 dD_fit_74 (lv_at hl 0 rfl) ?_
    refine lv_aload_n F.1 F.2.1 dD_fit_76 rfl (lv_at hl 2 rfl) ?_
    refine z_get F hK hP hinD 0 rfl rfl 1 (by decide) rfl wf_D_19 rfl dD_fit_77 ?_
    refine z_icmp_ge F (by omega) (by omega) (tgt := 109) dD_fit_80 rfl (fun h5 => ?_) (fun h5 => ?_)
    · have hP := z_fI (k := 1) (fun j => if j < szN mm then bk (szN mm) ^ j % 998244353 else b j) hP rfl (fun t ht => by by_cases e9 : t < szN mm; (rw [h2 t (by omega)]; exact (if_pos e9).symm); (rw [h3 t (by omega)]; exact (if_neg e9).symm))
      have hD := hD.set (p := 1) (e := .inl (cI, 16, .inl (fun x9 => nI ((fun j => if j < szN mm then bk (szN mm) ^ j % 998244353 else b j) x9)))) rfl
      rw [← hz] at hP hD
      exact W.vret F.1 F.2.1 hr (fun t ht hW => ⟨rfl, by rw [ht]; exact hP, va_K.moved hW.alike hK, hD, hS.F ht⟩) hS.2.2 dD_fit_109
    · refine lv_aload_n F.1 F.2.1 dD_fit_83 rfl (lv_at hl 2 rfl) ?_
      refine z_get F hK hP hinD 0 rfl rfl 0 (by decide) rfl wf_D_9 rfl dD_fit_84 ?_
      refine lv_iload F.1 F.2.1 dD_fit_87 (lv_at hl 0 rfl) ?_
      refine lv_aload_n F.1 F.2.1 dD_fit_89 rfl (lv_at hl 2 rfl) ?_
      refine z_get F hK hP hinD 0 rfl rfl 0 (by decide) rfl wf_D_9 rfl dD_fit_90 ?_
      refine lv_iload F.1 F.2.1 dD_fit_93 (lv_at hl 0 rfl) ?_
      refine z_iconst (v := 1) F (by decide) dD_fit_95 ?_
      refine z_isub F (by omega) dD_fit_96 ?_
      refine z_iald F hK hP 1 0 rfl rfl (by omega) (by decide) dD_fit_97 ?_
      refine z_top (bk (szN mm) ^ j % 998244353) (by rw [show 1 + j - 1 = j by omega]; exact h2 j (by omega)) ?_
      refine lv_iload_n F.1 F.2.1 dD_fit_98 rfl (lv_at hl 1 rfl) ?_
      refine z_call (z_runS [.int (nI (bk (szN mm) ^ j % 998244353)), .int (nI (bk (szN mm)))] [.int (nI (1 + j)), .ref hB] F (c_product l (bk (szN mm) ^ j % 998244353) (bk (szN mm)) (Nat.lt_trans (ltP _) (by decide)) (Nat.lt_trans (bk_lt _) (by decide))) kk_F_product wl_D_36 rfl rfl ⟨Nat.le_of_ble_eq_true rfl, Nat.le_of_ble_eq_true rfl⟩ z_preN rfl hl.1 rfl (Nat.le_of_ble_eq_true rfl) dD_fit_99 ⟨Nat.zero_le _, Nat.zero_le _⟩) ?_
      refine z_top (bk (szN mm) ^ (1 + j) % 998244353) (by rw [Nat.add_comm 1 j, Nat.pow_succ, Nat.mod_mul_mod]) ?_
      refine z_iast F hK hP hD hS 1 0 rfl rfl (by omega) (by decide) dD_fit_102 (fun H locs hP hD hS => ?_)
      have hP : va_P (dC, dI) vwCl ((h0, .inr (1, [.ref hB, .int (nI z), .int (nI (iv (szN mm)))])) :: (hB, .inl (cI, 16, .inl (fun x9 => nI ((va_up o (1 + j) (bk (szN mm) ^ (1 + j) % 998244353)) x9)))) :: wr) H := hP
      have hD : va_D A ((h0, .inr (1, [.ref hB, .int (nI z), .int (nI (iv (szN mm)))])) :: (hB, .inl (cI, 16, .inl (fun x9 => nI ((va_up o (1 + j) (bk (szN mm) ^ (1 + j) % 998244353)) x9)))) :: wr) := hD
      refine lv_iinc F.1 F.2.1 (k := 0) (v := nI (1 + j + 1)) (lv' := [(4, .int (nI (1 + j + 1))), (3, .int (nI (bk (szN mm)))), (0, .ref h0), (1, .int (nI mm)), (2, .int (nI ex))]) dD_fit_103 hl rfl (nI_1 (1 + j)) (by decide) rfl (fun ls hl => ?_)
      have hl : lv_has ls 5 [(4, .int (nI (1 + (j + 1)))), (3, .int (nI (bk (szN mm)))), (0, .ref h0), (1, .int (nI mm)), (2, .int (nI ex))] := hl
      refine lv_goto F.1 F.2.1 (tgt := 74) dD_fit_106 rfl ?_
      have hl : lv_has ls 5 [(4, .int (nI (1 + (j + 1)))), (3, .int (nI (bk (szN mm)))), (0, .ref h0), (1, .int (nI mm)), (2, .int (nI ex))] := lv_sub hl [0, 1, 2, 3, 4] rfl
      exact ih2 (by omega) (va_up o (1 + j) (bk (szN mm) ^ (1 + j) % 998244353)) ls H locs (fun t ht => by by_cases e9 : t = 1 + j; (rw [e9, up_at]); (rw [up_ne _ _ e9]; exact h2 t (by omega))) (fun t ht => by rw [up_ne _ _ (by omega)]; exact h3 t (by omega)) hP hD hS hl
  · refine lv_aload_n F.1 F.2.1 dD_fit_16 rfl (lv_at hl 1 rfl) ?_
    refine z_get F hK hP hinD 0 rfl rfl 1 (by decide) rfl wf_D_19 rfl dD_fit_17 ?_
    refine z_bipush (v := 16) F (by decide) dD_fit_20 ?_
    refine z_icmp_ge F (by omega) (by omega) (tgt := 42) dD_fit_22 rfl (fun h6 => ?_) (fun h6 => ?_)
    · have hz : szN mm = z := by unfold szN; (repeat' split) <;> omega
      have hx : 998244352 / szN mm = ex := by rw [hz]; rcases hs with ⟨rfl, rfl⟩ | ⟨rfl, rfl, -⟩ | ⟨rfl, rfl, -⟩ | ⟨rfl, rfl, -⟩ <;> rfl
      have hb : 1 * iv (pw 3 ex) % 998244353 = bk (szN mm) := by unfold bk; rw [hx, Nat.one_mul, Nat.mod_eq_of_lt (iv_lt _)]
      refine lv_aload_n F.1 F.2.1 dD_fit_42 rfl (lv_at hl 1 rfl) ?_
      refine z_iconst (v := 1) F (by decide) dD_fit_43 ?_
      refine lv_aload_n F.1 F.2.1 dD_fit_44 rfl (lv_at hl 1 rfl) ?_
      refine z_get F hK hP hinD 0 rfl rfl 1 (by decide) rfl wf_D_19 rfl dD_fit_45 ?_
      refine z_call (z_runS [.int (nI 1), .int (nI z)] [.ref h0] F (c_ratio l 1 z (by decide) (by omega)) kk_F_ratio wl_D_24 rfl rfl ⟨Nat.le_of_ble_eq_true rfl, Nat.le_of_ble_eq_true rfl⟩ z_preN rfl hl.1 rfl (Nat.le_of_ble_eq_true rfl) dD_fit_48 ⟨Nat.zero_le _, Nat.zero_le _⟩) ?_
      refine z_top (iv (szN mm)) (by rw [hz, Nat.one_mul, Nat.mod_eq_of_lt (iv_lt _)]) ?_
      refine z_put F hK hP hD hS hinD tyD tyD_ok nmD 0 rfl rfl 2 (by decide) rfl rfl wf_D_30 (rfl) (rfl) (Nat.le_of_ble_eq_true rfl) dD_fit_51 (fun H locs hP hD hS => ?_)
      have hP : va_P (dC, dI) vwCl ((h0, .inr (1, [.ref hB, .int (nI z), .int (nI (iv (szN mm)))])) :: (hB, .inl (cI, 16, .inl (fun x9 => nI (b x9)))) :: wr) H := hP
      have hD : va_D A ((h0, .inr (1, [.ref hB, .int (nI z), .int (nI (iv (szN mm)))])) :: (hB, .inl (cI, 16, .inl (fun x9 => nI (b x9)))) :: wr) := hD
      refine z_iconst (v := 1) F (by decide) dD_fit_54 ?_
      refine z_iconst (v := 3) F (by decide) dD_fit_55 ?_
      refine lv_iload_n F.1 F.2.1 dD_fit_56 rfl (lv_at hl 0 rfl) ?_
      refine z_call (z_runS [.int (nI 3), .int (nI ex)] [.int (nI 1)] F (c_power l 3 ex (by decide) (by omega)) kk_F_power wl_D_33 rfl rfl ⟨Nat.le_of_ble_eq_true rfl, Nat.le_of_ble_eq_true rfl⟩ z_preN rfl hl.1 rfl (Nat.le_of_ble_eq_true rfl) dD_fit_57 ⟨Nat.zero_le _, Nat.zero_le _⟩) ?_
      refine z_call (z_runS [.int (nI 1), .int (nI (pw 3 ex))] [] F (c_ratio l 1 (pw 3 ex) (by decide) (Nat.lt_trans (pw_lt _ _) (by decide))) kk_F_ratio wl_D_24 rfl rfl ⟨Nat.le_of_ble_eq_true rfl, Nat.le_of_ble_eq_true rfl⟩ z_preN rfl hl.1 rfl (Nat.le_of_ble_eq_true rfl) dD_fit_60 ⟨Nat.zero_le _, Nat.zero_le _⟩) ?_
      refine z_top (bk (szN mm)) (hb) ?_
      refine lv_istore_n F.1 F.2.1 (lv' := [(3, .int (nI (bk (szN mm)))), (2, .int (nI ex)), (0, .ref h0), (1, .int (nI mm))]) dD_fit_63 rfl hl (by decide) rfl (fun ls hl => ?_)
      refine lv_aload_n F.1 F.2.1 dD_fit_64 rfl (lv_at hl 2 rfl) ?_
      refine z_get F hK hP hinD 0 rfl rfl 0 (by decide) rfl wf_D_9 rfl dD_fit_65 ?_
      refine z_iconst (v := 0) F (by decide) dD_fit_68 ?_
      refine z_iconst (v := 1) F (by decide) dD_fit_69 ?_
      refine z_iast F hK hP hD hS 1 0 rfl rfl (by omega) (by decide) dD_fit_70 (fun H locs hP hD hS => ?_)
      have hP : va_P (dC, dI) vwCl ((h0, .inr (1, [.ref hB, .int (nI z), .int (nI (iv (szN mm)))])) :: (hB, .inl (cI, 16, .inl (fun x9 => nI ((va_up b 0 1) x9)))) :: wr) H := hP
      have hD : va_D A ((h0, .inr (1, [.ref hB, .int (nI z), .int (nI (iv (szN mm)))])) :: (hB, .inl (cI, 16, .inl (fun x9 => nI ((va_up b 0 1) x9)))) :: wr) := hD
      refine z_iconst (v := 1) F (by decide) dD_fit_71 ?_
      refine lv_istore F.1 F.2.1 (lv' := [(4, .int (nI 1)), (3, .int (nI (bk (szN mm)))), (2, .int (nI ex)), (0, .ref h0), (1, .int (nI mm))]) dD_fit_72 hl (by decide) rfl (fun ls hl => ?_)
      have hl : lv_has ls 5 [(4, .int (nI (1 + 0))), (3, .int (nI (bk (szN mm)))), (0, .ref h0), (1, .int (nI mm)), (2, .int (nI ex))] := lv_sub hl [0, 1, 3, 4, 2] rfl
      refine z_up (E := szN mm - 1) (P := fun j => ∀ (o : Nat → Nat) (ls : Array Slot) (H : Heap) (locs : List Loc), (∀ t, t < 1 + j → o t = bk (szN mm) ^ t % 998244353) → (∀ t, 1 + j ≤ t → o t = b t) → va_P (dC, dI) vwCl ((h0, .inr (1, [.ref hB, .int (nI z), .int (nI (iv (szN mm)))])) :: (hB, .inl (cI, 16, .inl (fun x9 => nI (o x9)))) :: wr) H → va_D A ((h0, .inr (1, [.ref hB, .int (nI z), .int (nI (iv (szN mm)))])) :: (hB, .inl (cI, 16, .inl (fun x9 => nI (o x9)))) :: wr) → va_S A s.heap H locs → lv_has ls 5 [(4, .int (nI (1 + j))), (3, .int (nI (bk (szN mm)))), (0, .ref h0), (1, .int (nI mm)), (2, .int (nI ex))] → W p l e _ s m _ below meth c H locs _ _ _ (F0 m 74 ls [])) ?_ 0 (Nat.zero_le _) (va_up b 0 1) ls H locs (fun t h => by rw [show t = 0 by omega, up_at, Nat.pow_zero]) (fun t h => by rw [up_ne _ _ (by omega)]) hP hD hS hl
      intro j hj ih2 o ls H locs h2 h3 hP hD hS hl
      have hlo := szN_lo mm
      have hhi := szN_hi mm
      refine lv_iload F.1 F.2.1 dD_fit_74 (lv_at hl 0 rfl) ?_
      refine lv_aload_n F.1 F.2.1 dD_fit_76 rfl (lv_at hl 2 rfl) ?_
      refine z_get F hK hP hinD 0 rfl rfl 1 (by decide) rfl wf_D_19 rfl dD_fit_77 ?_
      refine z_icmp_ge F (by omega) (by omega) (tgt := 109) dD_fit_80 rfl (fun h5 => ?_) (fun h5 => ?_)
      · have hP := z_fI (k := 1) (fun j => if j < szN mm then bk (szN mm) ^ j % 998244353 else b j) hP rfl (fun t ht => by by_cases e9 : t < szN mm; (rw [h2 t (by omega)]; exact (if_pos e9).symm); (rw [h3 t (by omega)]; exact (if_neg e9).symm))
        have hD := hD.set (p := 1) (e := .inl (cI, 16, .inl (fun x9 => nI ((fun j => if j < szN mm then bk (szN mm) ^ j % 998244353 else b j) x9)))) rfl
        rw [← hz] at hP hD
        exact W.vret F.1 F.2.1 hr (fun t ht hW => ⟨rfl, by rw [ht]; exact hP, va_K.moved hW.alike hK, hD, hS.F ht⟩) hS.2.2 dD_fit_109
      · refine lv_aload_n F.1 F.2.1 dD_fit_83 rfl (lv_at hl 2 rfl) ?_
        refine z_get F hK hP hinD 0 rfl rfl 0 (by decide) rfl wf_D_9 rfl dD_fit_84 ?_
        refine lv_iload F.1 F.2.1 dD_fit_87 (lv_at hl 0 rfl) ?_
        refine lv_aload_n F.1 F.2.1 dD_fit_89 rfl (lv_at hl 2 rfl) ?_
        refine z_get F hK hP hinD 0 rfl rfl 0 (by decide) rfl wf_D_9 rfl dD_fit_90 ?_
        refine lv_iload F.1 F.2.1 dD_fit_93 (lv_at hl 0 rfl) ?_
        refine z_iconst (v := 1) F (by decide) dD_fit_95 ?_
        refine z_isub F (by omega) dD_fit_96 ?_
        refine z_iald F hK hP 1 0 rfl rfl (by omega) (by decide) dD_fit_97 ?_
        refine z_top (bk (szN mm) ^ j % 998244353) (by rw [show 1 + j - 1 = j by omega]; exact h2 j (by omega)) ?_
        refine lv_iload_n F.1 F.2.1 dD_fit_98 rfl (lv_at hl 1 rfl) ?_
        refine z_call (z_runS [.int (nI (bk (szN mm) ^ j % 998244353)), .int (nI (bk (szN mm)))] [.int (nI (1 + j)), .ref hB] F (c_product l (bk (szN mm) ^ j % 998244353) (bk (szN mm)) (Nat.lt_trans (ltP _) (by decide)) (Nat.lt_trans (bk_lt _) (by decide))) kk_F_product wl_D_36 rfl rfl ⟨Nat.le_of_ble_eq_true rfl, Nat.le_of_ble_eq_true rfl⟩ z_preN rfl hl.1 rfl (Nat.le_of_ble_eq_true rfl) dD_fit_99 ⟨Nat.zero_le _, Nat.zero_le _⟩) ?_
        refine z_top (bk (szN mm) ^ (1 + j) % 998244353) (by rw [Nat.add_comm 1 j, Nat.pow_succ, Nat.mod_mul_mod]) ?_
        refine z_iast F hK hP hD hS 1 0 rfl rfl (by omega) (by decide) dD_fit_102 (fun H locs hP hD hS => ?_)
        have hP : va_P (dC, dI) vwCl ((h0, .inr (1, [.ref hB, .int (nI z), .int (nI (iv (szN mm)))])) :: (hB, .inl (cI, 16, .inl (fun x9 => nI ((va_up o (1 + j) (bk (szN mm) ^ (1 + j) % 998244353)) x9)))) :: wr) H := hP
        have hD : va_D A ((h0, .inr (1, [.ref hB, .int (nI z), .int (nI (iv (szN mm)))])) :: (hB, .inl (cI, 16, .inl (fun x9 => nI ((va_up o (1 + j) (bk (szN mm) ^ (1 + j) % 998244353)) x9)))) :: wr) := hD
        refine lv_iinc F.1 F.2.1 (k := 0) (v := nI (1 + j + 1)) (lv' := [(4, .int (nI (1 + j + 1))), (3, .int (nI (bk (szN mm)))), (0, .ref h0), (1, .int (nI mm)), (2, .int (nI ex))]) dD_fit_103 hl rfl (nI_1 (1 + j)) (by decide) rfl (fun ls hl => ?_)
        have hl : lv_has ls 5 [(4, .int (nI (1 + (j + 1)))), (3, .int (nI (bk (szN mm)))), (0, .ref h0), (1, .int (nI mm)), (2, .int (nI ex))] := hl
        refine lv_goto F.1 F.2.1 (tgt := 74) dD_fit_106 rfl ?_
        have hl : lv_has ls 5 [(4, .int (nI (1 + (j + 1)))), (3, .int (nI (bk (szN mm)))), (0, .ref h0), (1, .int (nI mm)), (2, .int (nI ex))] := lv_sub hl [0, 1, 2, 3, 4] rfl
        exact ih2 (by omega) (va_up o (1 + j) (bk (szN mm) ^ (1 + j) % 998244353)) ls H locs (fun t ht => by by_cases e9 : t = 1 + j; (rw [e9, up_at]); (rw [up_ne _ _ e9]; exact h2 t (by omega))) (fun t ht => by rw [up_ne _ _ (by omega)]; exact h3 t (by omega)) hP hD hS hl
    · refine lv_aload_n F.1 F.2.1 dD_fit_25 rfl (lv_at hl 1 rfl) ?_
      refine lv_dup F.1 F.2.1 dD_fit_26 rfl ?_
      refine z_get F hK hP hinD 0 rfl rfl 1 (by decide) rfl wf_D_19 rfl dD_fit_27 ?_
      refine z_iconst (v := 2) F (by decide) dD_fit_30 ?_
      refine z_imul F dD_fit_31 ?_
      refine z_put F hK hP hD hS hinD tyD tyD_ok nmD 0 rfl rfl 1 (by decide) rfl rfl wf_D_19 (rfl) (rfl) (Nat.le_of_ble_eq_true rfl) dD_fit_32 (fun H locs hP hD hS => ?_)
      have hP : va_P (dC, dI) vwCl ((h0, .inr (1, [.ref hB, .int (nI (z * 2)), .int (nI ov0)])) :: (hB, .inl (cI, 16, .inl (fun x9 => nI (b x9)))) :: wr) H := hP
      have hD : va_D A ((h0, .inr (1, [.ref hB, .int (nI (z * 2)), .int (nI ov0)])) :: (hB, .inl (cI, 16, .inl (fun x9 => nI (b x9)))) :: wr) := hD
      refine lv_iload_n F.1 F.2.1 dD_fit_35 rfl (lv_at hl 0 rfl) ?_
      refine z_iconst (v := 2) F (by decide) dD_fit_36 ?_
      refine z_idiv F (by omega) (by omega) (by omega) dD_fit_37 ?_
      refine lv_istore_n F.1 F.2.1 (lv' := [(2, .int (nI (ex / 2))), (0, .ref h0), (1, .int (nI mm))]) dD_fit_38 rfl hl (by decide) rfl (fun ls hl => ?_)
      refine lv_goto F.1 F.2.1 (tgt := 8) dD_fit_39 rfl ?_
      have hl : lv_has ls 5 [(2, .int (nI (ex / 2))), (0, .ref h0), (1, .int (nI mm))] := lv_sub hl [0, 1, 2] rfl
      exact ih (16 - z * 2) (by omega) (z * 2) (ex / 2) ls H locs (rfl) (by omega) hP hD hS hl
