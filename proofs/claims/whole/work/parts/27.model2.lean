set_option maxHeartbeats 4000000 in
set_option maxRecDepth 100000 in
theorem ct_atTau (l : Launch) (dC : Nat → ClassId) (dI : Nat → Nat → Nat) (cI cL : ClassId) (ws : va_W) (q1 q2 : Nat) (y0 yR yV yI yX yP yQ yS yD : Nat) (th cn pb ta al be ga de va : Nat) (md pd : Bool) (f : Nat → Nat) (row i : Nat) (e1 : ws[q1]? = some (y0, .inr (5, [.int (nI th), .ref yR, .int (nI cn), .int (nI pb), .ref yV, .ref yI, .int (z_b md), .long (lN ta), .long (lN al), .long (lN be), .long (lN ga), .long (lN de), .long (lN va), .ref yX, .int (z_b pd), .ref yP, .ref yQ, .ref yS, .ref yD]))) (e2 : ws[q2]? = some (yR, .inl (cL, 816, .inr (.inl (fun x9 => lN (f x9)))))) (hf : ∀ j, f j < 998244353) (hi : i < 16) (hw : row < 3) (hn : cn ≤ 16) (ht : ta < 998244353) : Met l yT_atTau (zW yT_atTau cT_atTau 6 (.some .long)) ({ frames := 3, cells := 0, slots := 0, locals := 82 }) (va_Pc [.ref y0, .int (nI row), .int (nI i)] (z_R (dC, dI) vwCl [(cI, .int), (cL, .long)] ws)) (k2_QcV (.long (lN (sg (szN cn) (fun k => cf cn (szN cn) (fun t => f ((t * 3 + row) * 16 + i)) k * pw ta k) % 998244353)))) 0 0 (fun _ => False) := by
  refine Met.ofW (cc := cT_atTau) (maxL := 6) (ret := (.some .long)) (by decide) rfl ?_
  intro p e s m args below meth c s₁ B hml hv
  obtain ⟨rfl, hP, hK⟩ := hv
  have F : CallFix p m c cT_atTau 6 s _ zT RT := ⟨B.exec, B.bytes, hml, findClass_of_methodNamed B.named, fun w h => atoms_spec (ws := (zW yT_atTau cT_atTau 6 (.some .long))) B.pre w (List.mem_cons_of_mem _ h)⟩
  have hr := B.returns
  have hlocks := B.notSynchronized
  have hl := lv_entry ([.ref y0, .int (nI row), .int (nI i)]) (n := 6) (Nat.le_of_ble_eq_true rfl)
  rw [lg_entry_eq]
  generalize (lg_sl ([.ref y0, .int (nI row), .int (nI i)]) ++ List.replicate (6 - (lg_sl ([.ref y0, .int (nI row), .int (nI i)])).length) Slot.unset).toArray = ls at hl ⊢
  have hl : lv_has ls 6 [(0, .ref y0), (1, .int (nI row)), (2, .int (nI i))] := hl
  have hlo := szN_lo cn
  have hhi := szN_hi cn
  refine z_lconst (v := 0) F (by decide) dT_atTau_0 ?_
  refine lv_lstore_n F.1 F.2.1 (lv' := [(3, .long (lN 0)), (0, .ref y0), (1, .int (nI row)), (2, .int (nI i))]) dT_atTau_1 rfl hl (by decide) rfl (fun ls hl => ?_)
  refine z_iconst (v := 0) F (by decide) dT_atTau_2 ?_
  refine lv_istore F.1 F.2.1 (lv' := [(5, .int (nI 0)), (3, .long (lN 0)), (0, .ref y0), (1, .int (nI row)), (2, .int (nI i))]) dT_atTau_3 hl (by decide) rfl (fun ls hl => ?_)
  have hl : lv_has ls 6 [(5, .int (nI 0)), (3, .long (lN (sg 0 (fun k => cf cn (szN cn) (fun t => f ((t * 3 + row) * 16 + i)) k * pw ta k) % 998244353))), (0, .ref y0), (1, .int (nI row)), (2, .int (nI i))] := lv_sub hl [0, 1, 2, 3, 4] rfl
  refine z_up (E := szN cn) (P := fun j => ∀  (ls : Array Slot), lv_has ls 6 [(5, .int (nI j)), (3, .long (lN (sg j (fun k => cf cn (szN cn) (fun t => f ((t * 3 + row) * 16 + i)) k * pw ta k) % 998244353))), (0, .ref y0), (1, .int (nI row)), (2, .int (nI i))] → W p l e _ s m _ below meth c s.heap [] _ _ _ (F0 m 5 ls [])) ?_ 0 (Nat.zero_le _)  ls  hl
  intro j hj ih  ls  hl
  refine lv_iload F.1 F.2.1 dT_atTau_5 (lv_at hl 0 rfl) ?_
  refine lv_aload_n F.1 F.2.1 dT_atTau_7 rfl (lv_at hl 2 rfl) ?_
  refine z_call (z_runV [] [.int (nI j)] F (ct_size l dC dI cI cL ws q1 y0 yR yV yI yX yP yQ yS yD th cn pb ta al be ga de va md pd e1 hn) kk_T_size wl_T_68 rfl rfl ⟨Nat.le_of_ble_eq_true rfl, Nat.le_of_ble_eq_true rfl⟩ (z_preVR (q := (RT, TT, 19)) hP hK rfl e1) rfl hl.1 rfl (Nat.le_of_ble_eq_true rfl) dT_atTau_8 ⟨Nat.zero_le _, Nat.zero_le _⟩) ?_
  refine z_icmp_ge F (by omega) (by omega) (tgt := 46) dT_atTau_11 rfl (fun h1 => ?_) (fun h1 => ?_)
  · refine lv_lload_n F.1 F.2.1 dT_atTau_46 rfl (lv_at hl 1 rfl) ?_
    refine z_topL (sg (szN cn) (fun k => cf cn (szN cn) (fun t => f ((t * 3 + row) * 16 + i)) k * pw ta k) % 998244353) (by rw [show j = szN cn by omega]) ?_
    exact W.lret F.1 F.2.1 hr (fun t ht hW => ⟨rfl, ht⟩) (fun _ h => by cases h) dT_atTau_47
  · refine lv_lload_n F.1 F.2.1 dT_atTau_14 rfl (lv_at hl 1 rfl) ?_
    refine lv_aload_n F.1 F.2.1 dT_atTau_15 rfl (lv_at hl 2 rfl) ?_
    refine lv_iload_n F.1 F.2.1 dT_atTau_16 rfl (lv_at hl 3 rfl) ?_
    refine lv_iload_n F.1 F.2.1 dT_atTau_17 rfl (lv_at hl 4 rfl) ?_
    refine lv_iload F.1 F.2.1 dT_atTau_18 (lv_at hl 0 rfl) ?_
    refine z_call (z_runV [.int (nI row), .int (nI i), .int (nI j)] [.long (lN (sg j (fun k => cf cn (szN cn) (fun t => f ((t * 3 + row) * 16 + i)) k * pw ta k) % 998244353))] F (ct_coefficient l dC dI cI cL ws q1 q2 y0 yR yV yI yX yP yQ yS yD th cn pb ta al be ga de va md pd f row i j e1 e2 hf hi hw hn (by omega)) kk_T_coefficient wl_T_79 rfl rfl ⟨Nat.le_of_ble_eq_true rfl, Nat.le_of_ble_eq_true rfl⟩ (z_preVR (q := (RT, TT, 19)) hP hK rfl e1) rfl hl.1 rfl (Nat.le_of_ble_eq_true rfl) dT_atTau_20 ⟨Nat.zero_le _, Nat.zero_le _⟩) ?_
    refine lv_aload_n F.1 F.2.1 dT_atTau_23 rfl (lv_at hl 2 rfl) ?_
    refine z_get F hK hP hinT q1 e1 rfl 7 (by decide) rfl wf_T_83 rfl dT_atTau_24 ?_
    refine lv_iload F.1 F.2.1 dT_atTau_27 (lv_at hl 0 rfl) ?_
    refine z_i2l F (by omega) dT_atTau_29 ?_
    refine z_call (z_runS [.long (lN ta), .long (lN j)] [.long (lN (cf cn (szN cn) (fun t => f ((t * 3 + row) * 16 + i)) j)), .long (lN (sg j (fun k => cf cn (szN cn) (fun t => f ((t * 3 + row) * 16 + i)) k * pw ta k) % 998244353))] F (ct_power l ta j (Nat.lt_trans (ht) (by decide)) (by omega)) kk_T_power wl_T_42 rfl rfl ⟨Nat.le_of_ble_eq_true rfl, Nat.le_of_ble_eq_true rfl⟩ z_preN rfl hl.1 rfl (Nat.le_of_ble_eq_true rfl) dT_atTau_30 ⟨Nat.zero_le _, Nat.zero_le _⟩) ?_
    have hm := z_mb (a := cf cn (szN cn) (fun t => f ((t * 3 + row) * 16 + i)) j) (b := pw ta j) (Nat.lt_trans (cf_lt _ _ _ _) (by decide)) (Nat.lt_trans (pw_lt _ _) (by decide))
    refine z_lmul F dT_atTau_33 ?_
    refine z_ladd F dT_atTau_34 ?_
    refine z_ldc2 F 998244353 (v0 := 998244353) wk_T_38 rfl dT_atTau_35 ?_
    refine z_lrem F (by omega) (by omega) (by omega) dT_atTau_38 ?_
    refine z_topL (sg (j + 1) (fun k => cf cn (szN cn) (fun t => f ((t * 3 + row) * 16 + i)) k * pw ta k) % 998244353) (sm2 j (fun k => cf cn (szN cn) (fun t => f ((t * 3 + row) * 16 + i)) k * pw ta k)) ?_
    refine lv_lstore_n F.1 F.2.1 (lv' := [(3, .long (lN (sg (j + 1) (fun k => cf cn (szN cn) (fun t => f ((t * 3 + row) * 16 + i)) k * pw ta k) % 998244353))), (5, .int (nI j)), (0, .ref y0), (1, .int (nI row)), (2, .int (nI i))]) dT_atTau_39 rfl hl (by decide) rfl (fun ls hl => ?_)
    refine lv_iinc F.1 F.2.1 (k := 1) (v := nI (j + 1)) (lv' := [(5, .int (nI (j + 1))), (3, .long (lN (sg (j + 1) (fun k => cf cn (szN cn) (fun t => f ((t * 3 + row) * 16 + i)) k * pw ta k) % 998244353))), (0, .ref y0), (1, .int (nI row)), (2, .int (nI i))]) dT_atTau_40 hl rfl (nI_1 j) (by decide) rfl (fun ls hl => ?_)
    refine lv_goto F.1 F.2.1 (tgt := 5) dT_atTau_43 rfl ?_
    have hl : lv_has ls 6 [(5, .int (nI ((j + 1)))), (3, .long (lN (sg (j + 1) (fun k => cf cn (szN cn) (fun t => f ((t * 3 + row) * 16 + i)) k * pw ta k) % 998244353))), (0, .ref y0), (1, .int (nI row)), (2, .int (nI i))] := lv_sub hl [0, 1, 2, 3, 4] rfl
    exact ih (by omega)  ls  hl
set_option maxHeartbeats 4000000 in
set_option maxRecDepth 100000 in
theorem ct_sumAtTau (l : Launch) (dC : Nat → ClassId) (dI : Nat → Nat → Nat) (cI cL : ClassId) (ws : va_W) (q1 q2 : Nat) (y0 yR yV yI yX yP yQ yS yD : Nat) (th cn pb ta al be ga de va : Nat) (md pd : Bool) (su : Nat → Nat) (row : Nat) (e1 : ws[q1]? = some (y0, .inr (5, [.int (nI th), .ref yR, .int (nI cn), .int (nI pb), .ref yV, .ref yI, .int (z_b md), .long (lN ta), .long (lN al), .long (lN be), .long (lN ga), .long (lN de), .long (lN va), .ref yX, .int (z_b pd), .ref yP, .ref yQ, .ref yS, .ref yD]))) (e2 : ws[q2]? = some (yS, .inl (cL, 48, .inr (.inl (fun x9 => lN (su x9)))))) (hsu : ∀ j, su j < 998244353) (hw : row < 3) (hn : cn ≤ 16) (ht : ta < 998244353) : Met l yT_sumAtTau (zW yT_sumAtTau cT_sumAtTau 5 (.some .long)) ({ frames := 1, cells := 0, slots := 0, locals := 28 }) (va_Pc [.ref y0, .int (nI row)] (z_R (dC, dI) vwCl [(cI, .int), (cL, .long)] ws)) (k2_QcV (.long (lN (sg (szN cn) (fun k => su (16 * row + k) * pw ta k) % 998244353)))) 0 0 (fun _ => False) := by
  refine Met.ofW (cc := cT_sumAtTau) (maxL := 5) (ret := (.some .long)) (by decide) rfl ?_
  intro p e s m args below meth c s₁ B hml hv
  obtain ⟨rfl, hP, hK⟩ := hv
  have F : CallFix p m c cT_sumAtTau 5 s _ zT RT := ⟨B.exec, B.bytes, hml, findClass_of_methodNamed B.named, fun w h => atoms_spec (ws := (zW yT_sumAtTau cT_sumAtTau 5 (.some .long))) B.pre w (List.mem_cons_of_mem _ h)⟩
  have hr := B.returns
  have hlocks := B.notSynchronized
  have hl := lv_entry ([.ref y0, .int (nI row)]) (n := 5) (Nat.le_of_ble_eq_true rfl)
  rw [lg_entry_eq]
  generalize (lg_sl ([.ref y0, .int (nI row)]) ++ List.replicate (5 - (lg_sl ([.ref y0, .int (nI row)])).length) Slot.unset).toArray = ls at hl ⊢
  have hl : lv_has ls 5 [(0, .ref y0), (1, .int (nI row))] := hl
  have hlo := szN_lo cn
  have hhi := szN_hi cn
  refine z_lconst (v := 0) F (by decide) dT_sumAtTau_0 ?_
  refine lv_lstore_n F.1 F.2.1 (lv' := [(2, .long (lN 0)), (0, .ref y0), (1, .int (nI row))]) dT_sumAtTau_1 rfl hl (by decide) rfl (fun ls hl => ?_)
  refine z_iconst (v := 0) F (by decide) dT_sumAtTau_2 ?_
  refine lv_istore F.1 F.2.1 (lv' := [(4, .int (nI 0)), (2, .long (lN 0)), (0, .ref y0), (1, .int (nI row))]) dT_sumAtTau_3 hl (by decide) rfl (fun ls hl => ?_)
  have hl : lv_has ls 5 [(4, .int (nI 0)), (2, .long (lN (sg 0 (fun k => su (16 * row + k) * pw ta k) % 998244353))), (0, .ref y0), (1, .int (nI row))] := lv_sub hl [0, 1, 2, 3] rfl
  refine z_up (E := szN cn) (P := fun j => ∀  (ls : Array Slot), lv_has ls 5 [(4, .int (nI j)), (2, .long (lN (sg j (fun k => su (16 * row + k) * pw ta k) % 998244353))), (0, .ref y0), (1, .int (nI row))] → W p l e _ s m _ below meth c s.heap [] _ _ _ (F0 m 5 ls [])) ?_ 0 (Nat.zero_le _)  ls  hl
  intro j hj ih  ls  hl
  refine lv_iload F.1 F.2.1 dT_sumAtTau_5 (lv_at hl 0 rfl) ?_
  refine lv_aload_n F.1 F.2.1 dT_sumAtTau_7 rfl (lv_at hl 2 rfl) ?_
  refine z_call (z_runV [] [.int (nI j)] F (ct_size l dC dI cI cL ws q1 y0 yR yV yI yX yP yQ yS yD th cn pb ta al be ga de va md pd e1 hn) kk_T_size wl_T_68 rfl rfl ⟨Nat.le_of_ble_eq_true rfl, Nat.le_of_ble_eq_true rfl⟩ (z_preVR (q := (RT, TT, 19)) hP hK rfl e1) rfl hl.1 rfl (Nat.le_of_ble_eq_true rfl) dT_sumAtTau_8 ⟨Nat.zero_le _, Nat.zero_le _⟩) ?_
  refine z_icmp_ge F (by omega) (by omega) (tgt := 50) dT_sumAtTau_11 rfl (fun h1 => ?_) (fun h1 => ?_)
  · refine lv_lload_n F.1 F.2.1 dT_sumAtTau_50 rfl (lv_at hl 1 rfl) ?_
    refine z_topL (sg (szN cn) (fun k => su (16 * row + k) * pw ta k) % 998244353) (by rw [show j = szN cn by omega]) ?_
    exact W.lret F.1 F.2.1 hr (fun t ht hW => ⟨rfl, ht⟩) (fun _ h => by cases h) dT_sumAtTau_51
  · refine lv_lload_n F.1 F.2.1 dT_sumAtTau_14 rfl (lv_at hl 1 rfl) ?_
    refine lv_aload_n F.1 F.2.1 dT_sumAtTau_15 rfl (lv_at hl 2 rfl) ?_
    refine z_get F hK hP hinT q1 e1 rfl 17 (by decide) rfl wf_T_28 rfl dT_sumAtTau_16 ?_
    refine z_bipush (v := 16) F (by decide) dT_sumAtTau_19 ?_
    refine lv_iload_n F.1 F.2.1 dT_sumAtTau_21 rfl (lv_at hl 3 rfl) ?_
    refine z_imul F dT_sumAtTau_22 ?_
    refine lv_iload F.1 F.2.1 dT_sumAtTau_23 (lv_at hl 0 rfl) ?_
    refine z_iadd F dT_sumAtTau_25 ?_
    refine z_lald F hK hP q2 1 e2 rfl (by omega) (by decide) dT_sumAtTau_26 ?_
    refine lv_aload_n F.1 F.2.1 dT_sumAtTau_27 rfl (lv_at hl 2 rfl) ?_
    refine z_get F hK hP hinT q1 e1 rfl 7 (by decide) rfl wf_T_83 rfl dT_sumAtTau_28 ?_
    refine lv_iload F.1 F.2.1 dT_sumAtTau_31 (lv_at hl 0 rfl) ?_
    refine z_i2l F (by omega) dT_sumAtTau_33 ?_
    refine z_call (z_runS [.long (lN ta), .long (lN j)] [.long (lN (su ((16 * row) + j))), .long (lN (sg j (fun k => su (16 * row + k) * pw ta k) % 998244353))] F (ct_power l ta j (Nat.lt_trans (ht) (by decide)) (by omega)) kk_T_power wl_T_42 rfl rfl ⟨Nat.le_of_ble_eq_true rfl, Nat.le_of_ble_eq_true rfl⟩ z_preN rfl hl.1 rfl (Nat.le_of_ble_eq_true rfl) dT_sumAtTau_34 ⟨Nat.zero_le _, Nat.zero_le _⟩) ?_
    have hm := z_mb (a := su (16 * row + j)) (b := pw ta j) (Nat.lt_trans (hsu _) (by decide)) (Nat.lt_trans (pw_lt _ _) (by decide))
    refine z_lmul F dT_sumAtTau_37 ?_
    refine z_ladd F dT_sumAtTau_38 ?_
    refine z_ldc2 F 998244353 (v0 := 998244353) wk_T_38 rfl dT_sumAtTau_39 ?_
    refine z_lrem F (by omega) (by omega) (by omega) dT_sumAtTau_42 ?_
    refine z_topL (sg (j + 1) (fun k => su (16 * row + k) * pw ta k) % 998244353) (sm2 j (fun k => su (16 * row + k) * pw ta k)) ?_
    refine lv_lstore_n F.1 F.2.1 (lv' := [(2, .long (lN (sg (j + 1) (fun k => su (16 * row + k) * pw ta k) % 998244353))), (4, .int (nI j)), (0, .ref y0), (1, .int (nI row))]) dT_sumAtTau_43 rfl hl (by decide) rfl (fun ls hl => ?_)
    refine lv_iinc F.1 F.2.1 (k := 1) (v := nI (j + 1)) (lv' := [(4, .int (nI (j + 1))), (2, .long (lN (sg (j + 1) (fun k => su (16 * row + k) * pw ta k) % 998244353))), (0, .ref y0), (1, .int (nI row))]) dT_sumAtTau_44 hl rfl (nI_1 j) (by decide) rfl (fun ls hl => ?_)
    refine lv_goto F.1 F.2.1 (tgt := 5) dT_sumAtTau_47 rfl ?_
    have hl : lv_has ls 5 [(4, .int (nI ((j + 1)))), (2, .long (lN (sg (j + 1) (fun k => su (16 * row + k) * pw ta k) % 998244353))), (0, .ref y0), (1, .int (nI row))] := lv_sub hl [0, 1, 2, 3] rfl
    exact ih (by omega)  ls  hl
/-- a coefficient of the sum of a row's polynomials -/
def suC (cn : Nat) (f v : Nat → Nat) (row k : Nat) : Nat := if k < szN cn then sg 16 (fun i => v i * cf cn (szN cn) (fun t => f ((t * 3 + row) * 16 + i)) k) % 998244353 else 0
theorem suC_lt {cn : Nat} {f v : Nat → Nat} {row : Nat} : ∀ k, suC cn f v row k < 998244353 := fun k => by
  unfold suC
  split
  · exact ltP _
  · decide
/-- .. in their place -/
def suR (cn : Nat) (f v : Nat → Nat) (row : Nat) (su : Nat → Nat) (t : Nat) : Nat := if 16 * row ≤ t ∧ t < 16 * row + 16 then suC cn f v row (t - 16 * row) else su t
theorem suR_lt {cn : Nat} {f v : Nat → Nat} {row : Nat} {su : Nat → Nat} (h : ∀ j, su j < 998244353) : ∀ t, suR cn f v row su t < 998244353 := fun t => by
  unfold suR
  split
  · exact suC_lt _
  · exact h t
set_option maxHeartbeats 4000000 in
set_option maxRecDepth 100000 in
theorem ct_sum (l : Launch) (dC : Nat → ClassId) (dI : Nat → Nat → Nat) (cI cL : ClassId) (zz : Nat) (y0 yR yV yI yX yP yQ yS yD : Nat) (th cn pb ta al be ga de va : Nat) (md pd : Bool) (f v inp mx el qt su pr : Nat → Nat) (row : Nat) (hf : ∀ j, f j < 998244353) (hv : ∀ j, v j < 998244353) (hw : row < 3) (hn : cn ≤ 16) : Met l yT_sum (zW yT_sum cT_sum 6 none) ({ frames := 3, cells := 0, slots := 0, locals := 82 }) (va_Pc [.ref y0, .int (nI row)] (z_P (dC, dI) vwCl [(cI, .int), (cL, .long)] zz ([(y0, .inr (5, [.int (nI th), .ref yR, .int (nI cn), .int (nI pb), .ref yV, .ref yI, .int (z_b md), .long (lN ta), .long (lN al), .long (lN be), .long (lN ga), .long (lN de), .long (lN va), .ref yX, .int (z_b pd), .ref yP, .ref yQ, .ref yS, .ref yD])), (yR, .inl (cL, 816, .inr (.inl (fun x9 => lN (f x9))))), (yV, .inl (cL, 16, .inr (.inl (fun x9 => lN (v x9))))), (yI, .inl (cL, 16, .inr (.inl (fun x9 => lN (inp x9))))), (yX, .inl (cL, 16, .inr (.inl (fun x9 => lN (mx x9))))), (yP, .inl (cL, 3, .inr (.inl (fun x9 => lN (el x9))))), (yQ, .inl (cL, 32, .inr (.inl (fun x9 => lN (qt x9))))), (yS, .inl (cL, 48, .inr (.inl (fun x9 => lN (su x9))))), (yD, .inl (cL, 32, .inr (.inl (fun x9 => lN (pr x9)))))]))) (z_Q (dC, dI) vwCl [(cI, .int), (cL, .long)] none ([(y0, .inr (5, [.int (nI th), .ref yR, .int (nI cn), .int (nI pb), .ref yV, .ref yI, .int (z_b md), .long (lN ta), .long (lN al), .long (lN be), .long (lN ga), .long (lN de), .long (lN va), .ref yX, .int (z_b pd), .ref yP, .ref yQ, .ref yS, .ref yD])), (yR, .inl (cL, 816, .inr (.inl (fun x9 => lN (f x9))))), (yV, .inl (cL, 16, .inr (.inl (fun x9 => lN (v x9))))), (yI, .inl (cL, 16, .inr (.inl (fun x9 => lN (inp x9))))), (yX, .inl (cL, 16, .inr (.inl (fun x9 => lN (mx x9))))), (yP, .inl (cL, 3, .inr (.inl (fun x9 => lN (el x9))))), (yQ, .inl (cL, 32, .inr (.inl (fun x9 => lN (qt x9))))), (yS, .inl (cL, 48, .inr (.inl (fun x9 => lN ((suR cn f v row su) x9))))), (yD, .inl (cL, 32, .inr (.inl (fun x9 => lN (pr x9)))))]) (va_A ([(y0, .inr (5, [.int (nI th), .ref yR, .int (nI cn), .int (nI pb), .ref yV, .ref yI, .int (z_b md), .long (lN ta), .long (lN al), .long (lN be), .long (lN ga), .long (lN de), .long (lN va), .ref yX, .int (z_b pd), .ref yP, .ref yQ, .ref yS, .ref yD])), (yR, .inl (cL, 816, .inr (.inl (fun x9 => lN (f x9))))), (yV, .inl (cL, 16, .inr (.inl (fun x9 => lN (v x9))))), (yI, .inl (cL, 16, .inr (.inl (fun x9 => lN (inp x9))))), (yX, .inl (cL, 16, .inr (.inl (fun x9 => lN (mx x9))))), (yP, .inl (cL, 3, .inr (.inl (fun x9 => lN (el x9))))), (yQ, .inl (cL, 32, .inr (.inl (fun x9 => lN (qt x9))))), (yS, .inl (cL, 48, .inr (.inl (fun x9 => lN (su x9))))), (yD, .inl (cL, 32, .inr (.inl (fun x9 => lN (pr x9)))))]) zz)) 0 0 (va_A ([(y0, .inr (5, [.int (nI th), .ref yR, .int (nI cn), .int (nI pb), .ref yV, .ref yI, .int (z_b md), .long (lN ta), .long (lN al), .long (lN be), .long (lN ga), .long (lN de), .long (lN va), .ref yX, .int (z_b pd), .ref yP, .ref yQ, .ref yS, .ref yD])), (yR, .inl (cL, 816, .inr (.inl (fun x9 => lN (f x9))))), (yV, .inl (cL, 16, .inr (.inl (fun x9 => lN (v x9))))), (yI, .inl (cL, 16, .inr (.inl (fun x9 => lN (inp x9))))), (yX, .inl (cL, 16, .inr (.inl (fun x9 => lN (mx x9))))), (yP, .inl (cL, 3, .inr (.inl (fun x9 => lN (el x9))))), (yQ, .inl (cL, 32, .inr (.inl (fun x9 => lN (qt x9))))), (yS, .inl (cL, 48, .inr (.inl (fun x9 => lN (su x9))))), (yD, .inl (cL, 32, .inr (.inl (fun x9 => lN (pr x9)))))]) zz) := by
  refine Met.ofW (cc := cT_sum) (maxL := 6) (ret := none) (by decide) rfl ?_
  intro p e s m args below meth c s₁ B hml hv
  obtain ⟨rfl, hsz, hP, hK, hD0⟩ := hv
  have F : CallFix p m c cT_sum 6 s _ zT RT := ⟨B.exec, B.bytes, hml, findClass_of_methodNamed B.named, fun w h => atoms_spec (ws := (zW yT_sum cT_sum 6 none)) B.pre w (List.mem_cons_of_mem _ h)⟩
  have hr := B.returns
  have hlocks := B.notSynchronized
  subst hsz
  have hD := hD0.self (sz := s.heap.size)
  generalize hAe : va_A ([(y0, .inr (5, [.int (nI th), .ref yR, .int (nI cn), .int (nI pb), .ref yV, .ref yI, .int (z_b md), .long (lN ta), .long (lN al), .long (lN be), .long (lN ga), .long (lN de), .long (lN va), .ref yX, .int (z_b pd), .ref yP, .ref yQ, .ref yS, .ref yD])), (yR, .inl (cL, 816, .inr (.inl (fun x9 => lN (f x9))))), (yV, .inl (cL, 16, .inr (.inl (fun x9 => lN (v x9))))), (yI, .inl (cL, 16, .inr (.inl (fun x9 => lN (inp x9))))), (yX, .inl (cL, 16, .inr (.inl (fun x9 => lN (mx x9))))), (yP, .inl (cL, 3, .inr (.inl (fun x9 => lN (el x9))))), (yQ, .inl (cL, 32, .inr (.inl (fun x9 => lN (qt x9))))), (yS, .inl (cL, 48, .inr (.inl (fun x9 => lN (su x9))))), (yD, .inl (cL, 32, .inr (.inl (fun x9 => lN (pr x9)))))]) s.heap.size = A at hD ⊢
  have hAA : ∀ q : Nat, s.heap.size ≤ q → A q := fun q h => by rw [← hAe]; exact Or.inr h
  have hS : va_S A s.heap s.heap [] := va_S.rf
  have hl := lv_entry ([.ref y0, .int (nI row)]) (n := 6) (Nat.le_of_ble_eq_true rfl)
  rw [lg_entry_eq]
  generalize (lg_sl ([.ref y0, .int (nI row)]) ++ List.replicate (6 - (lg_sl ([.ref y0, .int (nI row)])).length) Slot.unset).toArray = ls at hl ⊢
  have hl : lv_has ls 6 [(0, .ref y0), (1, .int (nI row))] := hl
  have hlo := szN_lo cn
  have hhi := szN_hi cn
  refine z_iconst (v := 0) F (by decide) dT_sum_0 ?_
  refine lv_istore_n F.1 F.2.1 (lv' := [(2, .int (nI 0)), (0, .ref y0), (1, .int (nI row))]) dT_sum_1 rfl hl (by decide) rfl (fun ls hl => ?_)
  have hl : lv_has ls 6 [(2, .int (nI 0)), (0, .ref y0), (1, .int (nI row))] := lv_sub hl [0, 1, 2] rfl
  refine z_up (E := 16) (P := fun k => ∀ (o : Nat → Nat) (ls : Array Slot) (H : Heap) (locs : List Loc), (∀ t, t < k → o (16 * row + t) = suC cn f v row t) → (∀ t, t < 16 * row ∨ 16 * row + k ≤ t → o t = su t) → va_P (dC, dI) vwCl ([(y0, .inr (5, [.int (nI th), .ref yR, .int (nI cn), .int (nI pb), .ref yV, .ref yI, .int (z_b md), .long (lN ta), .long (lN al), .long (lN be), .long (lN ga), .long (lN de), .long (lN va), .ref yX, .int (z_b pd), .ref yP, .ref yQ, .ref yS, .ref yD])), (yR, .inl (cL, 816, .inr (.inl (fun x9 => lN (f x9))))), (yV, .inl (cL, 16, .inr (.inl (fun x9 => lN (v x9))))), (yI, .inl (cL, 16, .inr (.inl (fun x9 => lN (inp x9))))), (yX, .inl (cL, 16, .inr (.inl (fun x9 => lN (mx x9))))), (yP, .inl (cL, 3, .inr (.inl (fun x9 => lN (el x9))))), (yQ, .inl (cL, 32, .inr (.inl (fun x9 => lN (qt x9))))), (yS, .inl (cL, 48, .inr (.inl (fun x9 => lN (o x9))))), (yD, .inl (cL, 32, .inr (.inl (fun x9 => lN (pr x9)))))]) H → va_D A ([(y0, .inr (5, [.int (nI th), .ref yR, .int (nI cn), .int (nI pb), .ref yV, .ref yI, .int (z_b md), .long (lN ta), .long (lN al), .long (lN be), .long (lN ga), .long (lN de), .long (lN va), .ref yX, .int (z_b pd), .ref yP, .ref yQ, .ref yS, .ref yD])), (yR, .inl (cL, 816, .inr (.inl (fun x9 => lN (f x9))))), (yV, .inl (cL, 16, .inr (.inl (fun x9 => lN (v x9))))), (yI, .inl (cL, 16, .inr (.inl (fun x9 => lN (inp x9))))), (yX, .inl (cL, 16, .inr (.inl (fun x9 => lN (mx x9))))), (yP, .inl (cL, 3, .inr (.inl (fun x9 => lN (el x9))))), (yQ, .inl (cL, 32, .inr (.inl (fun x9 => lN (qt x9))))), (yS, .inl (cL, 48, .inr (.inl (fun x9 => lN (o x9))))), (yD, .inl (cL, 32, .inr (.inl (fun x9 => lN (pr x9)))))]) → va_S A s.heap H locs → lv_has ls 6 [(2, .int (nI k)), (0, .ref y0), (1, .int (nI row))] → W p l e _ s m _ below meth c H locs _ _ _ (F0 m 2 ls [])) ?_ 0 (Nat.zero_le _) su ls s.heap [] (fun t h => absurd h (Nat.not_lt_zero t)) (fun _ _ => rfl) hP hD hS hl
  intro k hk ih o ls H locs h2 h3 hP hD hS hl
  refine lv_iload_n F.1 F.2.1 dT_sum_2 rfl (lv_at hl 0 rfl) ?_
  refine z_bipush (v := 16) F (by decide) dT_sum_3 ?_
  refine z_icmp_ge F (by omega) (by omega) (tgt := 75) dT_sum_5 rfl (fun h1 => ?_) (fun h1 => ?_)
  · have hP := z_fL (k := 7) (suR cn f v row su) hP rfl (fun t ht => by unfold suR; by_cases e9 : 16 * row ≤ t ∧ t < 16 * row + 16; (rw [if_pos e9, ← h2 (t - 16 * row) (by omega), show 16 * row + (t - 16 * row) = t by omega]); (rw [if_neg e9]; exact h3 t (by omega)))
    have hD := hD.set (p := 7) (e := .inl (cL, 48, .inr (.inl (fun x9 => lN (suR cn f v row su x9))))) rfl
    exact W.vret F.1 F.2.1 hr (fun t ht hW => ⟨rfl, by rw [ht]; exact hP, va_K.moved hW.alike hK, hD, hS.F ht⟩) hS.2.2 dT_sum_75
  · refine z_lconst (v := 0) F (by decide) dT_sum_8 ?_
    refine lv_lstore_n F.1 F.2.1 (lv' := [(3, .long (lN 0)), (2, .int (nI k)), (0, .ref y0), (1, .int (nI row))]) dT_sum_9 rfl hl (by decide) rfl (fun ls hl => ?_)
    refine z_iconst (v := 0) F (by decide) dT_sum_10 ?_
    refine lv_istore F.1 F.2.1 (lv' := [(5, .int (nI 0)), (3, .long (lN 0)), (2, .int (nI k)), (0, .ref y0), (1, .int (nI row))]) dT_sum_11 hl (by decide) rfl (fun ls hl => ?_)
    have hl : lv_has ls 6 [(5, .int (nI 0)), (3, .long (lN (sg 0 (fun i => v i * cf cn (szN cn) (fun t => f ((t * 3 + row) * 16 + i)) k) % 998244353))), (2, .int (nI k)), (0, .ref y0), (1, .int (nI row))] := lv_sub hl [0, 1, 2, 3, 4] rfl
    refine z_up (E := 16) (P := fun j => ∀  (ls : Array Slot), (k < szN cn ∨ j = 0) → lv_has ls 6 [(5, .int (nI j)), (3, .long (lN (sg j (fun i => v i * cf cn (szN cn) (fun t => f ((t * 3 + row) * 16 + i)) k) % 998244353))), (2, .int (nI k)), (0, .ref y0), (1, .int (nI row))] → W p l e _ s m _ below meth c H locs _ _ _ (F0 m 13 ls [])) ?_ 0 (Nat.zero_le _)  ls (Or.inr rfl) hl
    intro j hj ih2  ls h6 hl
    refine lv_iload F.1 F.2.1 dT_sum_13 (lv_at hl 0 rfl) ?_
    refine z_bipush (v := 16) F (by decide) dT_sum_15 ?_
    refine z_icmp_ge F (by omega) (by omega) (tgt := 57) dT_sum_17 rfl (fun h5 => ?_) (fun h5 => ?_)
    · refine lv_aload_n F.1 F.2.1 dT_sum_57 rfl (lv_at hl 3 rfl) ?_
      refine z_get F hK hP hinT 0 rfl rfl 17 (by decide) rfl wf_T_28 rfl dT_sum_58 ?_
      refine z_bipush (v := 16) F (by decide) dT_sum_61 ?_
      refine lv_iload_n F.1 F.2.1 dT_sum_63 rfl (lv_at hl 4 rfl) ?_
      refine z_imul F dT_sum_64 ?_
      refine lv_iload_n F.1 F.2.1 dT_sum_65 rfl (lv_at hl 2 rfl) ?_
      refine z_iadd F dT_sum_66 ?_
      refine lv_lload_n F.1 F.2.1 dT_sum_67 rfl (lv_at hl 1 rfl) ?_
      refine z_topL (suC cn f v row k) (by unfold suC; rw [if_pos (by omega), show j = 16 by omega]) ?_
      refine z_last F hK hP hD hS 7 1 rfl rfl (by omega) (by decide) dT_sum_68 (fun H locs hP hD hS => ?_)
      have hP : va_P (dC, dI) vwCl ([(y0, .inr (5, [.int (nI th), .ref yR, .int (nI cn), .int (nI pb), .ref yV, .ref yI, .int (z_b md), .long (lN ta), .long (lN al), .long (lN be), .long (lN ga), .long (lN de), .long (lN va), .ref yX, .int (z_b pd), .ref yP, .ref yQ, .ref yS, .ref yD])), (yR, .inl (cL, 816, .inr (.inl (fun x9 => lN (f x9))))), (yV, .inl (cL, 16, .inr (.inl (fun x9 => lN (v x9))))), (yI, .inl (cL, 16, .inr (.inl (fun x9 => lN (inp x9))))), (yX, .inl (cL, 16, .inr (.inl (fun x9 => lN (mx x9))))), (yP, .inl (cL, 3, .inr (.inl (fun x9 => lN (el x9))))), (yQ, .inl (cL, 32, .inr (.inl (fun x9 => lN (qt x9))))), (yS, .inl (cL, 48, .inr (.inl (fun x9 => lN ((va_up o ((16 * row) + k) (suC cn f v row k)) x9))))), (yD, .inl (cL, 32, .inr (.inl (fun x9 => lN (pr x9)))))]) H := hP
      have hD : va_D A ([(y0, .inr (5, [.int (nI th), .ref yR, .int (nI cn), .int (nI pb), .ref yV, .ref yI, .int (z_b md), .long (lN ta), .long (lN al), .long (lN be), .long (lN ga), .long (lN de), .long (lN va), .ref yX, .int (z_b pd), .ref yP, .ref yQ, .ref yS, .ref yD])), (yR, .inl (cL, 816, .inr (.inl (fun x9 => lN (f x9))))), (yV, .inl (cL, 16, .inr (.inl (fun x9 => lN (v x9))))), (yI, .inl (cL, 16, .inr (.inl (fun x9 => lN (inp x9))))), (yX, .inl (cL, 16, .inr (.inl (fun x9 => lN (mx x9))))), (yP, .inl (cL, 3, .inr (.inl (fun x9 => lN (el x9))))), (yQ, .inl (cL, 32, .inr (.inl (fun x9 => lN (qt x9))))), (yS, .inl (cL, 48, .inr (.inl (fun x9 => lN ((va_up o ((16 * row) + k) (suC cn f v row k)) x9))))), (yD, .inl (cL, 32, .inr (.inl (fun x9 => lN (pr x9)))))]) := hD
      refine lv_iinc F.1 F.2.1 (k := 2) (v := nI (k + 1)) (lv' := [(2, .int (nI (k + 1))), (5, .int (nI j)), (3, .long (lN (sg j (fun i => v i * cf cn (szN cn) (fun t => f ((t * 3 + row) * 16 + i)) k) % 998244353))), (0, .ref y0), (1, .int (nI row))]) dT_sum_69 hl rfl (nI_1 k) (by decide) rfl (fun ls hl => ?_)
      refine lv_goto F.1 F.2.1 (tgt := 2) dT_sum_72 rfl ?_
      have hl : lv_has ls 6 [(2, .int (nI ((k + 1)))), (0, .ref y0), (1, .int (nI row))] := lv_sub hl [0, 3, 4] rfl
      exact ih (by omega) (va_up o (16 * row + k) (suC cn f v row k)) ls H locs (fun t ht => by by_cases e9 : t = k; (rw [e9, up_at]); (rw [up_ne _ _ (by omega)]; exact h2 t (by omega))) (fun t ht => by rw [up_ne _ _ (by omega)]; exact h3 t (by omega)) hP hD hS hl
    · refine lv_iload_n F.1 F.2.1 dT_sum_20 rfl (lv_at hl 2 rfl) ?_
      refine lv_aload_n F.1 F.2.1 dT_sum_21 rfl (lv_at hl 3 rfl) ?_
      refine z_call (z_runV [] [.int (nI k)] F (ct_size l dC dI cI cL _ 0 y0 yR yV yI yX yP yQ yS yD th cn pb ta al be ga de va md pd rfl hn) kk_T_size wl_T_68 rfl rfl ⟨Nat.le_of_ble_eq_true rfl, Nat.le_of_ble_eq_true rfl⟩ (z_preVR (q := (RT, TT, 19)) hP hK rfl (q0 := 0) rfl) rfl hl.1 rfl (Nat.le_of_ble_eq_true rfl) dT_sum_22 ⟨Nat.zero_le _, Nat.zero_le _⟩) ?_
      refine z_icmp_ge F (by omega) (by omega) (tgt := 57) dT_sum_25 rfl (fun h7 => ?_) (fun h7 => ?_)
      · refine lv_aload_n F.1 F.2.1 dT_sum_57 rfl (lv_at hl 3 rfl) ?_
        refine z_get F hK hP hinT 0 rfl rfl 17 (by decide) rfl wf_T_28 rfl dT_sum_58 ?_
        refine z_bipush (v := 16) F (by decide) dT_sum_61 ?_
        refine lv_iload_n F.1 F.2.1 dT_sum_63 rfl (lv_at hl 4 rfl) ?_
        refine z_imul F dT_sum_64 ?_
        refine lv_iload_n F.1 F.2.1 dT_sum_65 rfl (lv_at hl 2 rfl) ?_
        refine z_iadd F dT_sum_66 ?_
        refine lv_lload_n F.1 F.2.1 dT_sum_67 rfl (lv_at hl 1 rfl) ?_
        refine z_topL (suC cn f v row k) (by unfold suC; rw [if_neg (by omega), show j = 0 by omega]; rfl) ?_
        refine z_last F hK hP hD hS 7 1 rfl rfl (by omega) (by decide) dT_sum_68 (fun H locs hP hD hS => ?_)
        have hP : va_P (dC, dI) vwCl ([(y0, .inr (5, [.int (nI th), .ref yR, .int (nI cn), .int (nI pb), .ref yV, .ref yI, .int (z_b md), .long (lN ta), .long (lN al), .long (lN be), .long (lN ga), .long (lN de), .long (lN va), .ref yX, .int (z_b pd), .ref yP, .ref yQ, .ref yS, .ref yD])), (yR, .inl (cL, 816, .inr (.inl (fun x9 => lN (f x9))))), (yV, .inl (cL, 16, .inr (.inl (fun x9 => lN (v x9))))), (yI, .inl (cL, 16, .inr (.inl (fun x9 => lN (inp x9))))), (yX, .inl (cL, 16, .inr (.inl (fun x9 => lN (mx x9))))), (yP, .inl (cL, 3, .inr (.inl (fun x9 => lN (el x9))))), (yQ, .inl (cL, 32, .inr (.inl (fun x9 => lN (qt x9))))), (yS, .inl (cL, 48, .inr (.inl (fun x9 => lN ((va_up o ((16 * row) + k) (suC cn f v row k)) x9))))), (yD, .inl (cL, 32, .inr (.inl (fun x9 => lN (pr x9)))))]) H := hP
        have hD : va_D A ([(y0, .inr (5, [.int (nI th), .ref yR, .int (nI cn), .int (nI pb), .ref yV, .ref yI, .int (z_b md), .long (lN ta), .long (lN al), .long (lN be), .long (lN ga), .long (lN de), .long (lN va), .ref yX, .int (z_b pd), .ref yP, .ref yQ, .ref yS, .ref yD])), (yR, .inl (cL, 816, .inr (.inl (fun x9 => lN (f x9))))), (yV, .inl (cL, 16, .inr (.inl (fun x9 => lN (v x9))))), (yI, .inl (cL, 16, .inr (.inl (fun x9 => lN (inp x9))))), (yX, .inl (cL, 16, .inr (.inl (fun x9 => lN (mx x9))))), (yP, .inl (cL, 3, .inr (.inl (fun x9 => lN (el x9))))), (yQ, .inl (cL, 32, .inr (.inl (fun x9 => lN (qt x9))))), (yS, .inl (cL, 48, .inr (.inl (fun x9 => lN ((va_up o ((16 * row) + k) (suC cn f v row k)) x9))))), (yD, .inl (cL, 32, .inr (.inl (fun x9 => lN (pr x9)))))]) := hD
        refine lv_iinc F.1 F.2.1 (k := 2) (v := nI (k + 1)) (lv' := [(2, .int (nI (k + 1))), (5, .int (nI j)), (3, .long (lN (sg j (fun i => v i * cf cn (szN cn) (fun t => f ((t * 3 + row) * 16 + i)) k) % 998244353))), (0, .ref y0), (1, .int (nI row))]) dT_sum_69 hl rfl (nI_1 k) (by decide) rfl (fun ls hl => ?_)
        refine lv_goto F.1 F.2.1 (tgt := 2) dT_sum_72 rfl ?_
        have hl : lv_has ls 6 [(2, .int (nI ((k + 1)))), (0, .ref y0), (1, .int (nI row))] := lv_sub hl [0, 3, 4] rfl
        exact ih (by omega) (va_up o (16 * row + k) (suC cn f v row k)) ls H locs (fun t ht => by by_cases e9 : t = k; (rw [e9, up_at]); (rw [up_ne _ _ (by omega)]; exact h2 t (by omega))) (fun t ht => by rw [up_ne _ _ (by omega)]; exact h3 t (by omega)) hP hD hS hl
      · refine lv_lload_n F.1 F.2.1 dT_sum_28 rfl (lv_at hl 1 rfl) ?_
        refine lv_aload_n F.1 F.2.1 dT_sum_29 rfl (lv_at hl 3 rfl) ?_
        refine z_get F hK hP hinT 0 rfl rfl 4 (by decide) rfl wf_T_13 rfl dT_sum_30 ?_
        refine lv_iload F.1 F.2.1 dT_sum_33 (lv_at hl 0 rfl) ?_
        refine z_lald F hK hP 2 1 rfl rfl (by omega) (by decide) dT_sum_35 ?_
        refine lv_aload_n F.1 F.2.1 dT_sum_36 rfl (lv_at hl 3 rfl) ?_
        refine lv_iload_n F.1 F.2.1 dT_sum_37 rfl (lv_at hl 4 rfl) ?_
        refine lv_iload F.1 F.2.1 dT_sum_38 (lv_at hl 0 rfl) ?_
        refine lv_iload_n F.1 F.2.1 dT_sum_40 rfl (lv_at hl 2 rfl) ?_
        refine z_call (z_runV [.int (nI row), .int (nI j), .int (nI k)] [.long (lN (v j)), .long (lN (sg j (fun i => v i * cf cn (szN cn) (fun t => f ((t * 3 + row) * 16 + i)) k) % 998244353))] F (ct_coefficient l dC dI cI cL _ 0 1 y0 yR yV yI yX yP yQ yS yD th cn pb ta al be ga de va md pd f row j k rfl rfl hf (by omega) hw hn (by omega)) kk_T_coefficient wl_T_79 rfl rfl ⟨Nat.le_of_ble_eq_true rfl, Nat.le_of_ble_eq_true rfl⟩ (z_preVR (q := (RT, TT, 19)) hP hK rfl (q0 := 0) rfl) rfl hl.1 rfl (Nat.le_of_ble_eq_true rfl) dT_sum_41 ⟨Nat.zero_le _, Nat.zero_le _⟩) ?_
        have hm := z_mb (a := v j) (b := cf cn (szN cn) (fun t => f ((t * 3 + row) * 16 + j)) k) (Nat.lt_trans (hv _) (by decide)) (Nat.lt_trans (cf_lt _ _ _ _) (by decide))
        refine z_lmul F dT_sum_44 ?_
        refine z_ladd F dT_sum_45 ?_
        refine z_ldc2 F 998244353 (v0 := 998244353) wk_T_38 rfl dT_sum_46 ?_
        refine z_lrem F (by omega) (by omega) (by omega) dT_sum_49 ?_
        refine z_topL (sg (j + 1) (fun i => v i * cf cn (szN cn) (fun t => f ((t * 3 + row) * 16 + i)) k) % 998244353) (sm2 j (fun i => v i * cf cn (szN cn) (fun t => f ((t * 3 + row) * 16 + i)) k)) ?_
        refine lv_lstore_n F.1 F.2.1 (lv' := [(3, .long (lN (sg (j + 1) (fun i => v i * cf cn (szN cn) (fun t => f ((t * 3 + row) * 16 + i)) k) % 998244353))), (5, .int (nI j)), (2, .int (nI k)), (0, .ref y0), (1, .int (nI row))]) dT_sum_50 rfl hl (by decide) rfl (fun ls hl => ?_)
        refine lv_iinc F.1 F.2.1 (k := 1) (v := nI (j + 1)) (lv' := [(5, .int (nI (j + 1))), (3, .long (lN (sg (j + 1) (fun i => v i * cf cn (szN cn) (fun t => f ((t * 3 + row) * 16 + i)) k) % 998244353))), (2, .int (nI k)), (0, .ref y0), (1, .int (nI row))]) dT_sum_51 hl rfl (nI_1 j) (by decide) rfl (fun ls hl => ?_)
        refine lv_goto F.1 F.2.1 (tgt := 13) dT_sum_54 rfl ?_
        have hl : lv_has ls 6 [(5, .int (nI ((j + 1)))), (3, .long (lN (sg (j + 1) (fun i => v i * cf cn (szN cn) (fun t => f ((t * 3 + row) * 16 + i)) k) % 998244353))), (2, .int (nI k)), (0, .ref y0), (1, .int (nI row))] := lv_sub hl [0, 1, 2, 3, 4] rfl
        exact ih2 (by omega)  ls (Or.inl h7) hl
