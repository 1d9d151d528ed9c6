set_option maxHeartbeats 4000000 in
set_option maxRecDepth 100000 in
theorem ct_setup (l : Launch) (dC : Nat → ClassId) (dI : Nat → Nat → Nat) (cI cL : ClassId) (zz : Nat) (y0 yR yV yI yX yP yQ yS yD : Nat) (th cn pb ta al be ga de va : Nat) (md pd : Bool) (f v inp mx el qt su pr : Nat → Nat) (t2 a2 b2 g2 d2 : Nat) (hf : ∀ j, f j < 998244353) (hn : cn ≤ 16) (pt2 : 0 < t2) (ht2 : t2 < 998244353) (pa2 : 0 < a2) (ha2 : a2 < 998244353) (pb2 : 0 < b2) (hb2 : b2 < 998244353) (pg2 : 0 < g2) (hg2 : g2 < 998244353) (pd2 : 0 < d2) (hd2 : d2 < 998244353) (hv : van t2 (szN cn) ≠ 0) : Met l yT_setup (zW yT_setup cT_setup 14 (.some .int)) ({ frames := 4, cells := 0, slots := 0, locals := 107 }) (va_Pc [.ref y0, .int (nI t2), .int (nI a2), .int (nI b2), .int (nI g2), .int (nI d2)] (z_P (dC, dI) vwCl [(cI, .int), (cL, .long)] zz ([(y0, .inr (5, [.int (nI th), .ref yR, .int (nI cn), .int (nI pb), .ref yV, .ref yI, .int (z_b md), .long (lN ta), .long (lN al), .long (lN be), .long (lN ga), .long (lN de), .long (lN va), .ref yX, .int (z_b pd), .ref yP, .ref yQ, .ref yS, .ref yD])), (yR, .inl (cL, 816, .inr (.inl (fun x9 => lN (f x9))))), (yV, .inl (cL, 16, .inr (.inl (fun x9 => lN (v x9))))), (yI, .inl (cL, 16, .inr (.inl (fun x9 => lN (inp x9))))), (yX, .inl (cL, 16, .inr (.inl (fun x9 => lN (mx x9))))), (yP, .inl (cL, 3, .inr (.inl (fun x9 => lN (el x9))))), (yQ, .inl (cL, 32, .inr (.inl (fun x9 => lN (qt x9))))), (yS, .inl (cL, 48, .inr (.inl (fun x9 => lN (su x9))))), (yD, .inl (cL, 32, .inr (.inl (fun x9 => lN (pr x9)))))]))) (z_Q (dC, dI) vwCl [(cI, .int), (cL, .long)] (some (.int (nI (szN cn)))) ([(y0, .inr (5, [.int (nI 0), .ref yR, .int (nI cn), .int (nI pb), .ref yV, .ref yI, .int (z_b true), .long (lN t2), .long (lN a2), .long (lN b2), .long (lN g2), .long (lN d2), .long (lN (van t2 (szN cn))), .ref yX, .int (z_b pd), .ref yP, .ref yQ, .ref yS, .ref yD])), (yR, .inl (cL, 816, .inr (.inl (fun x9 => lN (f x9))))), (yV, .inl (cL, 16, .inr (.inl (fun x9 => lN (v x9))))), (yI, .inl (cL, 16, .inr (.inl (fun x9 => lN (inp x9))))), (yX, .inl (cL, 16, .inr (.inl (fun x9 => lN ((mxT cn t2 a2 b2 f) x9))))), (yP, .inl (cL, 3, .inr (.inl (fun x9 => lN (el x9))))), (yQ, .inl (cL, 32, .inr (.inl (fun x9 => lN (qt x9))))), (yS, .inl (cL, 48, .inr (.inl (fun x9 => lN (su x9))))), (yD, .inl (cL, 32, .inr (.inl (fun x9 => lN (pr x9)))))]) (va_A ([(y0, .inr (5, [.int (nI th), .ref yR, .int (nI cn), .int (nI pb), .ref yV, .ref yI, .int (z_b md), .long (lN ta), .long (lN al), .long (lN be), .long (lN ga), .long (lN de), .long (lN va), .ref yX, .int (z_b pd), .ref yP, .ref yQ, .ref yS, .ref yD])), (yR, .inl (cL, 816, .inr (.inl (fun x9 => lN (f x9))))), (yV, .inl (cL, 16, .inr (.inl (fun x9 => lN (v x9))))), (yI, .inl (cL, 16, .inr (.inl (fun x9 => lN (inp x9))))), (yX, .inl (cL, 16, .inr (.inl (fun x9 => lN (mx x9))))), (yP, .inl (cL, 3, .inr (.inl (fun x9 => lN (el x9))))), (yQ, .inl (cL, 32, .inr (.inl (fun x9 => lN (qt x9))))), (yS, .inl (cL, 48, .inr (.inl (fun x9 => lN (su x9))))), (yD, .inl (cL, 32, .inr (.inl (fun x9 => lN (pr x9)))))]) zz)) 0 0 (va_A ([(y0, .inr (5, [.int (nI th), .ref yR, .int (nI cn), .int (nI pb), .ref yV, .ref yI, .int (z_b md), .long (lN ta), .long (lN al), .long (lN be), .long (lN ga), .long (lN de), .long (lN va), .ref yX, .int (z_b pd), .ref yP, .ref yQ, .ref yS, .ref yD])), (yR, .inl (cL, 816, .inr (.inl (fun x9 => lN (f x9))))), (yV, .inl (cL, 16, .inr (.inl (fun x9 => lN (v x9))))), (yI, .inl (cL, 16, .inr (.inl (fun x9 => lN (inp x9))))), (yX, .inl (cL, 16, .inr (.inl (fun x9 => lN (mx x9))))), (yP, .inl (cL, 3, .inr (.inl (fun x9 => lN (el x9))))), (yQ, .inl (cL, 32, .inr (.inl (fun x9 => lN (qt x9))))), (yS, .inl (cL, 48, .inr (.inl (fun x9 => lN (su x9))))), (yD, .inl (cL, 32, .inr (.inl (fun x9 => lN (pr x9)))))]) zz) := by
  refine Met.ofW (cc := cT_setup) (maxL := 14) (ret := (.some .int)) (by decide) rfl ?_
  intro p e s m args below meth c s₁ B hml hv
  obtain ⟨rfl, hsz, hP, hK, hD0⟩ := hv
  have F : CallFix p m c cT_setup 14 s _ zT RT := ⟨B.exec, B.bytes, hml, findClass_of_methodNamed B.named, fun w h => atoms_spec (ws := (zW yT_setup cT_setup 14 (.some .int))) B.pre w (List.mem_cons_of_mem _ h)⟩
  have hr := B.returns
  have hlocks := B.notSynchronized
  subst hsz
  have hD := hD0.self (sz := s.heap.size)
  generalize hAe : va_A ([(y0, .inr (5, [.int (nI th), .ref yR, .int (nI cn), .int (nI pb), .ref yV, .ref yI, .int (z_b md), .long (lN ta), .long (lN al), .long (lN be), .long (lN ga), .long (lN de), .long (lN va), .ref yX, .int (z_b pd), .ref yP, .ref yQ, .ref yS, .ref yD])), (yR, .inl (cL, 816, .inr (.inl (fun x9 => lN (f x9))))), (yV, .inl (cL, 16, .inr (.inl (fun x9 => lN (v x9))))), (yI, .inl (cL, 16, .inr (.inl (fun x9 => lN (inp x9))))), (yX, .inl (cL, 16, .inr (.inl (fun x9 => lN (mx x9))))), (yP, .inl (cL, 3, .inr (.inl (fun x9 => lN (el x9))))), (yQ, .inl (cL, 32, .inr (.inl (fun x9 => lN (qt x9))))), (yS, .inl (cL, 48, .inr (.inl (fun x9 => lN (su x9))))), (yD, .inl (cL, 32, .inr (.inl (fun x9 => lN (pr x9)))))]) s.heap.size = A at hD ⊢
  have hAA : ∀ q : Nat, s.heap.size ≤ q → A q := fun q h => by rw [← hAe]; exact Or.inr h
  have hS : va_S A s.heap s.heap [] := va_S.rf
  have hl := lv_entry ([.ref y0, .int (nI t2), .int (nI a2), .int (nI b2), .int (nI g2), .int (nI d2)]) (n := 14) (Nat.le_of_ble_eq_true rfl)
  rw [lg_entry_eq]
  generalize (lg_sl ([.ref y0, .int (nI t2), .int (nI a2), .int (nI b2), .int (nI g2), .int (nI d2)]) ++ List.replicate (14 - (lg_sl ([.ref y0, .int (nI t2), .int (nI a2), .int (nI b2), .int (nI g2), .int (nI d2)])).length) Slot.unset).toArray = ls at hl ⊢
  have hl : lv_has ls 14 [(0, .ref y0), (1, .int (nI t2)), (2, .int (nI a2)), (3, .int (nI b2)), (4, .int (nI g2)), (5, .int (nI d2))] := hl
  have hlo := szN_lo cn
  have hhi := szN_hi cn
  have hvl := van_lt t2 (szN cn)
  refine lv_iload_n F.1 F.2.1 dT_setup_0 rfl (lv_at hl 1 rfl) ?_
  refine z_call (z_runS [.int (nI t2)] [] F (ct_isNumber_t l t2 (by omega)) kk_T_isNumber wl_T_49 rfl rfl ⟨Nat.le_of_ble_eq_true rfl, Nat.le_of_ble_eq_true rfl⟩ z_preN rfl hl.1 rfl (Nat.le_of_ble_eq_true rfl) dT_setup_1 ⟨Nat.zero_le _, Nat.zero_le _⟩) ?_
  refine z_if_eq F (by omega) (tgt := 63) dT_setup_4 rfl (fun h => absurd h (by decide)) (fun h => ?_)
  refine lv_iload_n F.1 F.2.1 dT_setup_7 rfl (lv_at hl 2 rfl) ?_
  refine z_call (z_runS [.int (nI a2)] [] F (ct_isNumber_t l a2 (by omega)) kk_T_isNumber wl_T_49 rfl rfl ⟨Nat.le_of_ble_eq_true rfl, Nat.le_of_ble_eq_true rfl⟩ z_preN rfl hl.1 rfl (Nat.le_of_ble_eq_true rfl) dT_setup_8 ⟨Nat.zero_le _, Nat.zero_le _⟩) ?_
  refine z_if_eq F (by omega) (tgt := 63) dT_setup_11 rfl (fun h => absurd h (by decide)) (fun h => ?_)
  refine lv_iload_n F.1 F.2.1 dT_setup_14 rfl (lv_at hl 3 rfl) ?_
  refine z_call (z_runS [.int (nI b2)] [] F (ct_isNumber_t l b2 (by omega)) kk_T_isNumber wl_T_49 rfl rfl ⟨Nat.le_of_ble_eq_true rfl, Nat.le_of_ble_eq_true rfl⟩ z_preN rfl hl.1 rfl (Nat.le_of_ble_eq_true rfl) dT_setup_15 ⟨Nat.zero_le _, Nat.zero_le _⟩) ?_
  refine z_if_eq F (by omega) (tgt := 63) dT_setup_18 rfl (fun h => absurd h (by decide)) (fun h => ?_)
  refine lv_iload F.1 F.2.1 dT_setup_21 (lv_at hl 4 rfl) ?_
  refine z_call (z_runS [.int (nI g2)] [] F (ct_isNumber_t l g2 (by omega)) kk_T_isNumber wl_T_49 rfl rfl ⟨Nat.le_of_ble_eq_true rfl, Nat.le_of_ble_eq_true rfl⟩ z_preN rfl hl.1 rfl (Nat.le_of_ble_eq_true rfl) dT_setup_23 ⟨Nat.zero_le _, Nat.zero_le _⟩) ?_
  refine z_if_eq F (by omega) (tgt := 63) dT_setup_26 rfl (fun h => absurd h (by decide)) (fun h => ?_)
  refine lv_iload F.1 F.2.1 dT_setup_29 (lv_at hl 5 rfl) ?_
  refine z_call (z_runS [.int (nI d2)] [] F (ct_isNumber_t l d2 (by omega)) kk_T_isNumber wl_T_49 rfl rfl ⟨Nat.le_of_ble_eq_true rfl, Nat.le_of_ble_eq_true rfl⟩ z_preN rfl hl.1 rfl (Nat.le_of_ble_eq_true rfl) dT_setup_31 ⟨Nat.zero_le _, Nat.zero_le _⟩) ?_
  refine z_if_eq F (by omega) (tgt := 63) dT_setup_34 rfl (fun h => absurd h (by decide)) (fun h => ?_)
  refine lv_iload_n F.1 F.2.1 dT_setup_37 rfl (lv_at hl 1 rfl) ?_
  refine z_if_le F (by omega) (tgt := 63) dT_setup_38 rfl (fun h => absurd h (by omega)) (fun h => ?_)
  refine lv_iload_n F.1 F.2.1 dT_setup_41 rfl (lv_at hl 2 rfl) ?_
  refine z_if_le F (by omega) (tgt := 63) dT_setup_42 rfl (fun h => absurd h (by omega)) (fun h => ?_)
  refine lv_iload_n F.1 F.2.1 dT_setup_45 rfl (lv_at hl 3 rfl) ?_
  refine z_if_le F (by omega) (tgt := 63) dT_setup_46 rfl (fun h => absurd h (by omega)) (fun h => ?_)
  refine lv_iload F.1 F.2.1 dT_setup_49 (lv_at hl 4 rfl) ?_
  refine z_if_le F (by omega) (tgt := 63) dT_setup_51 rfl (fun h => absurd h (by omega)) (fun h => ?_)
  refine lv_iload F.1 F.2.1 dT_setup_54 (lv_at hl 5 rfl) ?_
  refine z_if_le F (by omega) (tgt := 63) dT_setup_56 rfl (fun h => absurd h (by omega)) (fun h => ?_)
  refine z_iconst (v := 1) F (by decide) dT_setup_59 ?_
  refine lv_goto F.1 F.2.1 (tgt := 64) dT_setup_60 rfl ?_
  refine lv_istore F.1 F.2.1 (lv' := [(6, .int (nI 1)), (0, .ref y0), (1, .int (nI t2)), (2, .int (nI a2)), (3, .int (nI b2)), (4, .int (nI g2)), (5, .int (nI d2))]) dT_setup_64 hl (by decide) rfl (fun ls hl => ?_)
  refine lv_iload F.1 F.2.1 dT_setup_66 (lv_at hl 0 rfl) ?_
  refine z_if_eq F (by omega) (tgt := 88) dT_setup_68 rfl (fun h => absurd h (by decide)) (fun h => ?_)
  refine lv_iload_n F.1 F.2.1 dT_setup_71 rfl (lv_at hl 2 rfl) ?_
  refine z_i2l F (by omega) dT_setup_72 ?_
  refine lv_aload_n F.1 F.2.1 dT_setup_73 rfl (lv_at hl 1 rfl) ?_
  refine z_call (z_runV [] [.long (lN t2)] F (ct_size l dC dI cI cL _ 0 y0 yR yV yI yX yP yQ yS yD th cn pb ta al be ga de va md pd rfl hn) kk_T_size wl_T_68 rfl rfl ⟨Nat.le_of_ble_eq_true rfl, Nat.le_of_ble_eq_true rfl⟩ (z_preVR (q := (RT, TT, 19)) hP hK rfl (q0 := 0) rfl) rfl hl.1 rfl (Nat.le_of_ble_eq_true rfl) dT_setup_74 ⟨Nat.zero_le _, Nat.zero_le _⟩) ?_
  refine z_i2l F (by omega) dT_setup_77 ?_
  refine z_call (z_runS [.long (lN t2), .long (lN (szN cn))] [] F (ct_power l t2 (szN cn) (by omega) (by omega)) kk_T_power wl_T_42 rfl rfl ⟨Nat.le_of_ble_eq_true rfl, Nat.le_of_ble_eq_true rfl⟩ z_preN rfl hl.1 rfl (Nat.le_of_ble_eq_true rfl) dT_setup_78 ⟨Nat.zero_le _, Nat.zero_le _⟩) ?_
  refine z_lconst (v := 1) F (by decide) dT_setup_81 ?_
  refine z_call (z_runS [.long (lN (pw t2 (szN cn))), .long (lN 1)] [] F (ct_less l (pw t2 (szN cn)) 1 (pw_lt _ _) (by decide)) kk_T_less wl_T_87 rfl rfl ⟨Nat.le_of_ble_eq_true rfl, Nat.le_of_ble_eq_true rfl⟩ z_preN rfl hl.1 rfl (Nat.le_of_ble_eq_true rfl) dT_setup_82 ⟨Nat.zero_le _, Nat.zero_le _⟩) ?_
  refine z_topL (van t2 (szN cn)) (rfl) ?_
  refine lv_goto F.1 F.2.1 (tgt := 89) dT_setup_85 rfl ?_
  refine lv_lstore F.1 F.2.1 (lv' := [(7, .long (lN (van t2 (szN cn)))), (6, .int (nI 1)), (0, .ref y0), (1, .int (nI t2)), (2, .int (nI a2)), (3, .int (nI b2)), (4, .int (nI g2)), (5, .int (nI d2))]) dT_setup_89 hl (by decide) rfl (fun ls hl => ?_)
  refine lv_aload_n F.1 F.2.1 dT_setup_91 rfl (lv_at hl 2 rfl) ?_
  refine lv_iload F.1 F.2.1 dT_setup_92 (lv_at hl 1 rfl) ?_
  refine z_if_ne F (by omega) (tgt := 101) dT_setup_94 rfl (fun h => ?_) (fun h => absurd h (by decide))
  refine lv_lload F.1 F.2.1 dT_setup_101 (lv_at hl 0 rfl) ?_
  refine z_lconst (v := 0) F (by decide) dT_setup_103 ?_
  refine z_lcmp F dT_setup_104 ?_
  refine z_ifl_ne F (by omega) (by decide) (tgt := 112) dT_setup_105 rfl (fun h => ?_) (fun h => absurd h (hv))
  refine z_iconst (v := 0) F (by decide) dT_setup_112 ?_
  refine z_put F hK hP hD hS hinT tyT tyT_ok nmT 0 rfl rfl 0 (by decide) rfl rfl wf_T_34 (rfl) (rfl) (Nat.le_of_ble_eq_true rfl) dT_setup_113 (fun H locs hP hD hS => ?_)
  have hP : va_P (dC, dI) vwCl ([(y0, .inr (5, [.int (nI 0), .ref yR, .int (nI cn), .int (nI pb), .ref yV, .ref yI, .int (z_b md), .long (lN ta), .long (lN al), .long (lN be), .long (lN ga), .long (lN de), .long (lN va), .ref yX, .int (z_b pd), .ref yP, .ref yQ, .ref yS, .ref yD])), (yR, .inl (cL, 816, .inr (.inl (fun x9 => lN (f x9))))), (yV, .inl (cL, 16, .inr (.inl (fun x9 => lN (v x9))))), (yI, .inl (cL, 16, .inr (.inl (fun x9 => lN (inp x9))))), (yX, .inl (cL, 16, .inr (.inl (fun x9 => lN (mx x9))))), (yP, .inl (cL, 3, .inr (.inl (fun x9 => lN (el x9))))), (yQ, .inl (cL, 32, .inr (.inl (fun x9 => lN (qt x9))))), (yS, .inl (cL, 48, .inr (.inl (fun x9 => lN (su x9))))), (yD, .inl (cL, 32, .inr (.inl (fun x9 => lN (pr x9)))))]) H := hP
  have hD : va_D A ([(y0, .inr (5, [.int (nI 0), .ref yR, .int (nI cn), .int (nI pb), .ref yV, .ref yI, .int (z_b md), .long (lN ta), .long (lN al), .long (lN be), .long (lN ga), .long (lN de), .long (lN va), .ref yX, .int (z_b pd), .ref yP, .ref yQ, .ref yS, .ref yD])), (yR, .inl (cL, 816, .inr (.inl (fun x9 => lN (f x9))))), (yV, .inl (cL, 16, .inr (.inl (fun x9 => lN (v x9))))), (yI, .inl (cL, 16, .inr (.inl (fun x9 => lN (inp x9))))), (yX, .inl (cL, 16, .inr (.inl (fun x9 => lN (mx x9))))), (yP, .inl (cL, 3, .inr (.inl (fun x9 => lN (el x9))))), (yQ, .inl (cL, 32, .inr (.inl (fun x9 => lN (qt x9))))), (yS, .inl (cL, 48, .inr (.inl (fun x9 => lN (su x9))))), (yD, .inl (cL, 32, .inr (.inl (fun x9 => lN (pr x9)))))]) := hD
  refine lv_aload_n F.1 F.2.1 dT_setup_116 rfl (lv_at hl 2 rfl) ?_
  refine z_get F hK hP hinT 0 rfl rfl 0 (by decide) rfl wf_T_34 rfl dT_setup_117 ?_
  refine z_if_le F (by omega) (tgt := 125) dT_setup_120 rfl (fun h => ?_) (fun h => absurd h (by decide))
  refine lv_aload_n F.1 F.2.1 dT_setup_125 rfl (lv_at hl 2 rfl) ?_
  refine z_iconst (v := 1) F (by decide) dT_setup_126 ?_
  refine z_topV (z_b true) (by decide) ?_
  refine z_put F hK hP hD hS hinT tyT tyT_ok nmT 0 rfl rfl 6 (by decide) rfl rfl wf_T_53 (rfl) (rfl) (Nat.le_of_ble_eq_true rfl) dT_setup_127 (fun H locs hP hD hS => ?_)
  have hP : va_P (dC, dI) vwCl ([(y0, .inr (5, [.int (nI 0), .ref yR, .int (nI cn), .int (nI pb), .ref yV, .ref yI, .int (z_b true), .long (lN ta), .long (lN al), .long (lN be), .long (lN ga), .long (lN de), .long (lN va), .ref yX, .int (z_b pd), .ref yP, .ref yQ, .ref yS, .ref yD])), (yR, .inl (cL, 816, .inr (.inl (fun x9 => lN (f x9))))), (yV, .inl (cL, 16, .inr (.inl (fun x9 => lN (v x9))))), (yI, .inl (cL, 16, .inr (.inl (fun x9 => lN (inp x9))))), (yX, .inl (cL, 16, .inr (.inl (fun x9 => lN (mx x9))))), (yP, .inl (cL, 3, .inr (.inl (fun x9 => lN (el x9))))), (yQ, .inl (cL, 32, .inr (.inl (fun x9 => lN (qt x9))))), (yS, .inl (cL, 48, .inr (.inl (fun x9 => lN (su x9))))), (yD, .inl (cL, 32, .inr (.inl (fun x9 => lN (pr x9)))))]) H := hP
  have hD : va_D A ([(y0, .inr (5, [.int (nI 0), .ref yR, .int (nI cn), .int (nI pb), .ref yV, .ref yI, .int (z_b true), .long (lN ta), .long (lN al), .long (lN be), .long (lN ga), .long (lN de), .long (lN va), .ref yX, .int (z_b pd), .ref yP, .ref yQ, .ref yS, .ref yD])), (yR, .inl (cL, 816, .inr (.inl (fun x9 => lN (f x9))))), (yV, .inl (cL, 16, .inr (.inl (fun x9 => lN (v x9))))), (yI, .inl (cL, 16, .inr (.inl (fun x9 => lN (inp x9))))), (yX, .inl (cL, 16, .inr (.inl (fun x9 => lN (mx x9))))), (yP, .inl (cL, 3, .inr (.inl (fun x9 => lN (el x9))))), (yQ, .inl (cL, 32, .inr (.inl (fun x9 => lN (qt x9))))), (yS, .inl (cL, 48, .inr (.inl (fun x9 => lN (su x9))))), (yD, .inl (cL, 32, .inr (.inl (fun x9 => lN (pr x9)))))]) := hD
  refine lv_aload_n F.1 F.2.1 dT_setup_130 rfl (lv_at hl 2 rfl) ?_
  refine lv_iload_n F.1 F.2.1 dT_setup_131 rfl (lv_at hl 3 rfl) ?_
  refine z_i2l F (by omega) dT_setup_132 ?_
  refine z_put F hK hP hD hS hinT tyT tyT_ok nmT 0 rfl rfl 7 (by decide) rfl rfl wf_T_83 (rfl) (rfl) (Nat.le_of_ble_eq_true rfl) dT_setup_133 (fun H locs hP hD hS => ?_)
  have hP : va_P (dC, dI) vwCl ([(y0, .inr (5, [.int (nI 0), .ref yR, .int (nI cn), .int (nI pb), .ref yV, .ref yI, .int (z_b true), .long (lN t2), .long (lN al), .long (lN be), .long (lN ga), .long (lN de), .long (lN va), .ref yX, .int (z_b pd), .ref yP, .ref yQ, .ref yS, .ref yD])), (yR, .inl (cL, 816, .inr (.inl (fun x9 => lN (f x9))))), (yV, .inl (cL, 16, .inr (.inl (fun x9 => lN (v x9))))), (yI, .inl (cL, 16, .inr (.inl (fun x9 => lN (inp x9))))), (yX, .inl (cL, 16, .inr (.inl (fun x9 => lN (mx x9))))), (yP, .inl (cL, 3, .inr (.inl (fun x9 => lN (el x9))))), (yQ, .inl (cL, 32, .inr (.inl (fun x9 => lN (qt x9))))), (yS, .inl (cL, 48, .inr (.inl (fun x9 => lN (su x9))))), (yD, .inl (cL, 32, .inr (.inl (fun x9 => lN (pr x9)))))]) H := hP
  have hD : va_D A ([(y0, .inr (5, [.int (nI 0), .ref yR, .int (nI cn), .int (nI pb), .ref yV, .ref yI, .int (z_b true), .long (lN t2), .long (lN al), .long (lN be), .long (lN ga), .long (lN de), .long (lN va), .ref yX, .int (z_b pd), .ref yP, .ref yQ, .ref yS, .ref yD])), (yR, .inl (cL, 816, .inr (.inl (fun x9 => lN (f x9))))), (yV, .inl (cL, 16, .inr (.inl (fun x9 => lN (v x9))))), (yI, .inl (cL, 16, .inr (.inl (fun x9 => lN (inp x9))))), (yX, .inl (cL, 16, .inr (.inl (fun x9 => lN (mx x9))))), (yP, .inl (cL, 3, .inr (.inl (fun x9 => lN (el x9))))), (yQ, .inl (cL, 32, .inr (.inl (fun x9 => lN (qt x9))))), (yS, .inl (cL, 48, .inr (.inl (fun x9 => lN (su x9))))), (yD, .inl (cL, 32, .inr (.inl (fun x9 => lN (pr x9)))))]) := hD
  refine lv_aload_n F.1 F.2.1 dT_setup_136 rfl (lv_at hl 2 rfl) ?_
  refine lv_iload_n F.1 F.2.1 dT_setup_137 rfl (lv_at hl 4 rfl) ?_
  refine z_i2l F (by omega) dT_setup_138 ?_
  refine z_put F hK hP hD hS hinT tyT tyT_ok nmT 0 rfl rfl 8 (by decide) rfl rfl wf_T_90 (rfl) (rfl) (Nat.le_of_ble_eq_true rfl) dT_setup_139 (fun H locs hP hD hS => ?_)
  have hP : va_P (dC, dI) vwCl ([(y0, .inr (5, [.int (nI 0), .ref yR, .int (nI cn), .int (nI pb), .ref yV, .ref yI, .int (z_b true), .long (lN t2), .long (lN a2), .long (lN be), .long (lN ga), .long (lN de), .long (lN va), .ref yX, .int (z_b pd), .ref yP, .ref yQ, .ref yS, .ref yD])), (yR, .inl (cL, 816, .inr (.inl (fun x9 => lN (f x9))))), (yV, .inl (cL, 16, .inr (.inl (fun x9 => lN (v x9))))), (yI, .inl (cL, 16, .inr (.inl (fun x9 => lN (inp x9))))), (yX, .inl (cL, 16, .inr (.inl (fun x9 => lN (mx x9))))), (yP, .inl (cL, 3, .inr (.inl (fun x9 => lN (el x9))))), (yQ, .inl (cL, 32, .inr (.inl (fun x9 => lN (qt x9))))), (yS, .inl (cL, 48, .inr (.inl (fun x9 => lN (su x9))))), (yD, .inl (cL, 32, .inr (.inl (fun x9 => lN (pr x9)))))]) H := hP
  have hD : va_D A ([(y0, .inr (5, [.int (nI 0), .ref yR, .int (nI cn), .int (nI pb), .ref yV, .ref yI, .int (z_b true), .long (lN t2), .long (lN a2), .long (lN be), .long (lN ga), .long (lN de), .long (lN va), .ref yX, .int (z_b pd), .ref yP, .ref yQ, .ref yS, .ref yD])), (yR, .inl (cL, 816, .inr (.inl (fun x9 => lN (f x9))))), (yV, .inl (cL, 16, .inr (.inl (fun x9 => lN (v x9))))), (yI, .inl (cL, 16, .inr (.inl (fun x9 => lN (inp x9))))), (yX, .inl (cL, 16, .inr (.inl (fun x9 => lN (mx x9))))), (yP, .inl (cL, 3, .inr (.inl (fun x9 => lN (el x9))))), (yQ, .inl (cL, 32, .inr (.inl (fun x9 => lN (qt x9))))), (yS, .inl (cL, 48, .inr (.inl (fun x9 => lN (su x9))))), (yD, .inl (cL, 32, .inr (.inl (fun x9 => lN (pr x9)))))]) := hD
  refine lv_aload_n F.1 F.2.1 dT_setup_142 rfl (lv_at hl 2 rfl) ?_
  refine lv_iload_n F.1 F.2.1 dT_setup_143 rfl (lv_at hl 5 rfl) ?_
  refine z_i2l F (by omega) dT_setup_144 ?_
  refine z_put F hK hP hD hS hinT tyT tyT_ok nmT 0 rfl rfl 9 (by decide) rfl rfl wf_T_93 (rfl) (rfl) (Nat.le_of_ble_eq_true rfl) dT_setup_145 (fun H locs hP hD hS => ?_)
  have hP : va_P (dC, dI) vwCl ([(y0, .inr (5, [.int (nI 0), .ref yR, .int (nI cn), .int (nI pb), .ref yV, .ref yI, .int (z_b true), .long (lN t2), .long (lN a2), .long (lN b2), .long (lN ga), .long (lN de), .long (lN va), .ref yX, .int (z_b pd), .ref yP, .ref yQ, .ref yS, .ref yD])), (yR, .inl (cL, 816, .inr (.inl (fun x9 => lN (f x9))))), (yV, .inl (cL, 16, .inr (.inl (fun x9 => lN (v x9))))), (yI, .inl (cL, 16, .inr (.inl (fun x9 => lN (inp x9))))), (yX, .inl (cL, 16, .inr (.inl (fun x9 => lN (mx x9))))), (yP, .inl (cL, 3, .inr (.inl (fun x9 => lN (el x9))))), (yQ, .inl (cL, 32, .inr (.inl (fun x9 => lN (qt x9))))), (yS, .inl (cL, 48, .inr (.inl (fun x9 => lN (su x9))))), (yD, .inl (cL, 32, .inr (.inl (fun x9 => lN (pr x9)))))]) H := hP
  have hD : va_D A ([(y0, .inr (5, [.int (nI 0), .ref yR, .int (nI cn), .int (nI pb), .ref yV, .ref yI, .int (z_b true), .long (lN t2), .long (lN a2), .long (lN b2), .long (lN ga), .long (lN de), .long (lN va), .ref yX, .int (z_b pd), .ref yP, .ref yQ, .ref yS, .ref yD])), (yR, .inl (cL, 816, .inr (.inl (fun x9 => lN (f x9))))), (yV, .inl (cL, 16, .inr (.inl (fun x9 => lN (v x9))))), (yI, .inl (cL, 16, .inr (.inl (fun x9 => lN (inp x9))))), (yX, .inl (cL, 16, .inr (.inl (fun x9 => lN (mx x9))))), (yP, .inl (cL, 3, .inr (.inl (fun x9 => lN (el x9))))), (yQ, .inl (cL, 32, .inr (.inl (fun x9 => lN (qt x9))))), (yS, .inl (cL, 48, .inr (.inl (fun x9 => lN (su x9))))), (yD, .inl (cL, 32, .inr (.inl (fun x9 => lN (pr x9)))))]) := hD
  refine lv_aload_n F.1 F.2.1 dT_setup_148 rfl (lv_at hl 2 rfl) ?_
  refine lv_iload F.1 F.2.1 dT_setup_149 (lv_at hl 6 rfl) ?_
  refine z_i2l F (by omega) dT_setup_151 ?_
  refine z_put F hK hP hD hS hinT tyT tyT_ok nmT 0 rfl rfl 10 (by decide) rfl rfl wf_T_96 (rfl) (rfl) (Nat.le_of_ble_eq_true rfl) dT_setup_152 (fun H locs hP hD hS => ?_)
  have hP : va_P (dC, dI) vwCl ([(y0, .inr (5, [.int (nI 0), .ref yR, .int (nI cn), .int (nI pb), .ref yV, .ref yI, .int (z_b true), .long (lN t2), .long (lN a2), .long (lN b2), .long (lN g2), .long (lN de), .long (lN va), .ref yX, .int (z_b pd), .ref yP, .ref yQ, .ref yS, .ref yD])), (yR, .inl (cL, 816, .inr (.inl (fun x9 => lN (f x9))))), (yV, .inl (cL, 16, .inr (.inl (fun x9 => lN (v x9))))), (yI, .inl (cL, 16, .inr (.inl (fun x9 => lN (inp x9))))), (yX, .inl (cL, 16, .inr (.inl (fun x9 => lN (mx x9))))), (yP, .inl (cL, 3, .inr (.inl (fun x9 => lN (el x9))))), (yQ, .inl (cL, 32, .inr (.inl (fun x9 => lN (qt x9))))), (yS, .inl (cL, 48, .inr (.inl (fun x9 => lN (su x9))))), (yD, .inl (cL, 32, .inr (.inl (fun x9 => lN (pr x9)))))]) H := hP
  have hD : va_D A ([(y0, .inr (5, [.int (nI 0), .ref yR, .int (nI cn), .int (nI pb), .ref yV, .ref yI, .int (z_b true), .long (lN t2), .long (lN a2), .long (lN b2), .long (lN g2), .long (lN de), .long (lN va), .ref yX, .int (z_b pd), .ref yP, .ref yQ, .ref yS, .ref yD])), (yR, .inl (cL, 816, .inr (.inl (fun x9 => lN (f x9))))), (yV, .inl (cL, 16, .inr (.inl (fun x9 => lN (v x9))))), (yI, .inl (cL, 16, .inr (.inl (fun x9 => lN (inp x9))))), (yX, .inl (cL, 16, .inr (.inl (fun x9 => lN (mx x9))))), (yP, .inl (cL, 3, .inr (.inl (fun x9 => lN (el x9))))), (yQ, .inl (cL, 32, .inr (.inl (fun x9 => lN (qt x9))))), (yS, .inl (cL, 48, .inr (.inl (fun x9 => lN (su x9))))), (yD, .inl (cL, 32, .inr (.inl (fun x9 => lN (pr x9)))))]) := hD
  refine lv_aload_n F.1 F.2.1 dT_setup_155 rfl (lv_at hl 2 rfl) ?_
  refine lv_iload F.1 F.2.1 dT_setup_156 (lv_at hl 7 rfl) ?_
  refine z_i2l F (by omega) dT_setup_158 ?_
  refine z_put F hK hP hD hS hinT tyT tyT_ok nmT 0 rfl rfl 11 (by decide) rfl rfl wf_T_99 (rfl) (rfl) (Nat.le_of_ble_eq_true rfl) dT_setup_159 (fun H locs hP hD hS => ?_)
  have hP : va_P (dC, dI) vwCl ([(y0, .inr (5, [.int (nI 0), .ref yR, .int (nI cn), .int (nI pb), .ref yV, .ref yI, .int (z_b true), .long (lN t2), .long (lN a2), .long (lN b2), .long (lN g2), .long (lN d2), .long (lN va), .ref yX, .int (z_b pd), .ref yP, .ref yQ, .ref yS, .ref yD])), (yR, .inl (cL, 816, .inr (.inl (fun x9 => lN (f x9))))), (yV, .inl (cL, 16, .inr (.inl (fun x9 => lN (v x9))))), (yI, .inl (cL, 16, .inr (.inl (fun x9 => lN (inp x9))))), (yX, .inl (cL, 16, .inr (.inl (fun x9 => lN (mx x9))))), (yP, .inl (cL, 3, .inr (.inl (fun x9 => lN (el x9))))), (yQ, .inl (cL, 32, .inr (.inl (fun x9 => lN (qt x9))))), (yS, .inl (cL, 48, .inr (.inl (fun x9 => lN (su x9))))), (yD, .inl (cL, 32, .inr (.inl (fun x9 => lN (pr x9)))))]) H := hP
  have hD : va_D A ([(y0, .inr (5, [.int (nI 0), .ref yR, .int (nI cn), .int (nI pb), .ref yV, .ref yI, .int (z_b true), .long (lN t2), .long (lN a2), .long (lN b2), .long (lN g2), .long (lN d2), .long (lN va), .ref yX, .int (z_b pd), .ref yP, .ref yQ, .ref yS, .ref yD])), (yR, .inl (cL, 816, .inr (.inl (fun x9 => lN (f x9))))), (yV, .inl (cL, 16, .inr (.inl (fun x9 => lN (v x9))))), (yI, .inl (cL, 16, .inr (.inl (fun x9 => lN (inp x9))))), (yX, .inl (cL, 16, .inr (.inl (fun x9 => lN (mx x9))))), (yP, .inl (cL, 3, .inr (.inl (fun x9 => lN (el x9))))), (yQ, .inl (cL, 32, .inr (.inl (fun x9 => lN (qt x9))))), (yS, .inl (cL, 48, .inr (.inl (fun x9 => lN (su x9))))), (yD, .inl (cL, 32, .inr (.inl (fun x9 => lN (pr x9)))))]) := hD
  refine lv_aload_n F.1 F.2.1 dT_setup_162 rfl (lv_at hl 2 rfl) ?_
  refine lv_lload F.1 F.2.1 dT_setup_163 (lv_at hl 0 rfl) ?_
  refine z_put F hK hP hD hS hinT tyT tyT_ok nmT 0 rfl rfl 12 (by decide) rfl rfl wf_T_102 (rfl) (rfl) (Nat.le_of_ble_eq_true rfl) dT_setup_165 (fun H locs hP hD hS => ?_)
  have hP : va_P (dC, dI) vwCl ([(y0, .inr (5, [.int (nI 0), .ref yR, .int (nI cn), .int (nI pb), .ref yV, .ref yI, .int (z_b true), .long (lN t2), .long (lN a2), .long (lN b2), .long (lN g2), .long (lN d2), .long (lN (van t2 (szN cn))), .ref yX, .int (z_b pd), .ref yP, .ref yQ, .ref yS, .ref yD])), (yR, .inl (cL, 816, .inr (.inl (fun x9 => lN (f x9))))), (yV, .inl (cL, 16, .inr (.inl (fun x9 => lN (v x9))))), (yI, .inl (cL, 16, .inr (.inl (fun x9 => lN (inp x9))))), (yX, .inl (cL, 16, .inr (.inl (fun x9 => lN (mx x9))))), (yP, .inl (cL, 3, .inr (.inl (fun x9 => lN (el x9))))), (yQ, .inl (cL, 32, .inr (.inl (fun x9 => lN (qt x9))))), (yS, .inl (cL, 48, .inr (.inl (fun x9 => lN (su x9))))), (yD, .inl (cL, 32, .inr (.inl (fun x9 => lN (pr x9)))))]) H := hP
  have hD : va_D A ([(y0, .inr (5, [.int (nI 0), .ref yR, .int (nI cn), .int (nI pb), .ref yV, .ref yI, .int (z_b true), .long (lN t2), .long (lN a2), .long (lN b2), .long (lN g2), .long (lN d2), .long (lN (van t2 (szN cn))), .ref yX, .int (z_b pd), .ref yP, .ref yQ, .ref yS, .ref yD])), (yR, .inl (cL, 816, .inr (.inl (fun x9 => lN (f x9))))), (yV, .inl (cL, 16, .inr (.inl (fun x9 => lN (v x9))))), (yI, .inl (cL, 16, .inr (.inl (fun x9 => lN (inp x9))))), (yX, .inl (cL, 16, .inr (.inl (fun x9 => lN (mx x9))))), (yP, .inl (cL, 3, .inr (.inl (fun x9 => lN (el x9))))), (yQ, .inl (cL, 32, .inr (.inl (fun x9 => lN (qt x9))))), (yS, .inl (cL, 48, .inr (.inl (fun x9 => lN (su x9))))), (yD, .inl (cL, 32, .inr (.inl (fun x9 => lN (pr x9)))))]) := hD
  refine z_iconst (v := 0) F (by decide) dT_setup_168 ?_
  refine lv_istore F.1 F.2.1 (lv' := [(9, .int (nI 0)), (7, .long (lN (van t2 (szN cn)))), (6, .int (nI 1)), (0, .ref y0), (1, .int (nI t2)), (2, .int (nI a2)), (3, .int (nI b2)), (4, .int (nI g2)), (5, .int (nI d2))]) dT_setup_169 hl (by decide) rfl (fun ls hl => ?_)
  have hl : lv_has ls 14 [(9, .int (nI 0)), (0, .ref y0)] := lv_sub hl [0, 3] rfl
  refine z_up (E := 16) (P := fun i => ∀ (o : Nat → Nat) (ls : Array Slot) (H : Heap) (locs : List Loc), (∀ t, t < i → o t = mxT cn t2 a2 b2 f t) → va_P (dC, dI) vwCl ([(y0, .inr (5, [.int (nI 0), .ref yR, .int (nI cn), .int (nI pb), .ref yV, .ref yI, .int (z_b true), .long (lN t2), .long (lN a2), .long (lN b2), .long (lN g2), .long (lN d2), .long (lN (van t2 (szN cn))), .ref yX, .int (z_b pd), .ref yP, .ref yQ, .ref yS, .ref yD])), (yR, .inl (cL, 816, .inr (.inl (fun x9 => lN (f x9))))), (yV, .inl (cL, 16, .inr (.inl (fun x9 => lN (v x9))))), (yI, .inl (cL, 16, .inr (.inl (fun x9 => lN (inp x9))))), (yX, .inl (cL, 16, .inr (.inl (fun x9 => lN (o x9))))), (yP, .inl (cL, 3, .inr (.inl (fun x9 => lN (el x9))))), (yQ, .inl (cL, 32, .inr (.inl (fun x9 => lN (qt x9))))), (yS, .inl (cL, 48, .inr (.inl (fun x9 => lN (su x9))))), (yD, .inl (cL, 32, .inr (.inl (fun x9 => lN (pr x9)))))]) H → va_D A ([(y0, .inr (5, [.int (nI 0), .ref yR, .int (nI cn), .int (nI pb), .ref yV, .ref yI, .int (z_b true), .long (lN t2), .long (lN a2), .long (lN b2), .long (lN g2), .long (lN d2), .long (lN (van t2 (szN cn))), .ref yX, .int (z_b pd), .ref yP, .ref yQ, .ref yS, .ref yD])), (yR, .inl (cL, 816, .inr (.inl (fun x9 => lN (f x9))))), (yV, .inl (cL, 16, .inr (.inl (fun x9 => lN (v x9))))), (yI, .inl (cL, 16, .inr (.inl (fun x9 => lN (inp x9))))), (yX, .inl (cL, 16, .inr (.inl (fun x9 => lN (o x9))))), (yP, .inl (cL, 3, .inr (.inl (fun x9 => lN (el x9))))), (yQ, .inl (cL, 32, .inr (.inl (fun x9 => lN (qt x9))))), (yS, .inl (cL, 48, .inr (.inl (fun x9 => lN (su x9))))), (yD, .inl (cL, 32, .inr (.inl (fun x9 => lN (pr x9)))))]) → va_S A s.heap H locs → lv_has ls 14 [(9, .int (nI i)), (0, .ref y0)] → W p l e _ s m _ below meth c H locs _ _ _ (F0 m 171 ls [])) ?_ 0 (Nat.zero_le _) mx ls H locs (fun t h => absurd h (Nat.not_lt_zero t)) hP hD hS hl
  intro i hi ih o ls H locs h2 hP hD hS hl
  refine lv_iload F.1 F.2.1 dT_setup_171 (lv_at hl 0 rfl) ?_
  refine z_bipush (v := 16) F (by decide) dT_setup_173 ?_
  refine z_icmp_ge F (by omega) (by omega) (tgt := 244) dT_setup_175 rfl (fun h1 => ?_) (fun h1 => ?_)
  · have hP := z_fL (k := 4) (mxT cn t2 a2 b2 f) hP rfl (fun t ht => h2 t (by omega))
    have hD := hD.set (p := 4) (e := .inl (cL, 16, .inr (.inl (fun x9 => lN ((mxT cn t2 a2 b2 f) x9))))) rfl
    have hP : va_P (dC, dI) vwCl ([(y0, .inr (5, [.int (nI 0), .ref yR, .int (nI cn), .int (nI pb), .ref yV, .ref yI, .int (z_b true), .long (lN t2), .long (lN a2), .long (lN b2), .long (lN g2), .long (lN d2), .long (lN (van t2 (szN cn))), .ref yX, .int (z_b pd), .ref yP, .ref yQ, .ref yS, .ref yD])), (yR, .inl (cL, 816, .inr (.inl (fun x9 => lN (f x9))))), (yV, .inl (cL, 16, .inr (.inl (fun x9 => lN (v x9))))), (yI, .inl (cL, 16, .inr (.inl (fun x9 => lN (inp x9))))), (yX, .inl (cL, 16, .inr (.inl (fun x9 => lN ((mxT cn t2 a2 b2 f) x9))))), (yP, .inl (cL, 3, .inr (.inl (fun x9 => lN (el x9))))), (yQ, .inl (cL, 32, .inr (.inl (fun x9 => lN (qt x9))))), (yS, .inl (cL, 48, .inr (.inl (fun x9 => lN (su x9))))), (yD, .inl (cL, 32, .inr (.inl (fun x9 => lN (pr x9)))))]) H := hP
    have hD : va_D A ([(y0, .inr (5, [.int (nI 0), .ref yR, .int (nI cn), .int (nI pb), .ref yV, .ref yI, .int (z_b true), .long (lN t2), .long (lN a2), .long (lN b2), .long (lN g2), .long (lN d2), .long (lN (van t2 (szN cn))), .ref yX, .int (z_b pd), .ref yP, .ref yQ, .ref yS, .ref yD])), (yR, .inl (cL, 816, .inr (.inl (fun x9 => lN (f x9))))), (yV, .inl (cL, 16, .inr (.inl (fun x9 => lN (v x9))))), (yI, .inl (cL, 16, .inr (.inl (fun x9 => lN (inp x9))))), (yX, .inl (cL, 16, .inr (.inl (fun x9 => lN ((mxT cn t2 a2 b2 f) x9))))), (yP, .inl (cL, 3, .inr (.inl (fun x9 => lN (el x9))))), (yQ, .inl (cL, 32, .inr (.inl (fun x9 => lN (qt x9))))), (yS, .inl (cL, 48, .inr (.inl (fun x9 => lN (su x9))))), (yD, .inl (cL, 32, .inr (.inl (fun x9 => lN (pr x9)))))]) := hD
    refine lv_aload_n F.1 F.2.1 dT_setup_244 rfl (lv_at hl 1 rfl) ?_
    refine z_call (z_runV [] [] F (ct_size l dC dI cI cL _ 0 y0 yR yV yI yX yP yQ yS yD 0 cn pb t2 a2 b2 g2 d2 (van t2 (szN cn)) true pd rfl hn) kk_T_size wl_T_68 rfl rfl ⟨Nat.le_of_ble_eq_true rfl, Nat.le_of_ble_eq_true rfl⟩ (z_preVR (q := (RT, TT, 19)) hP hK rfl (q0 := 0) rfl) rfl hl.1 rfl (Nat.le_of_ble_eq_true rfl) dT_setup_245 ⟨Nat.zero_le _, Nat.zero_le _⟩) ?_
    exact W.iret F.1 F.2.1 hr (fun t ht hW => ⟨rfl, by rw [ht]; exact hP, va_K.moved hW.alike hK, hD, hS.F ht⟩) hS.2.2 dT_setup_248
  · refine lv_aload_n F.1 F.2.1 dT_setup_178 rfl (lv_at hl 1 rfl) ?_
    refine z_get F hK hP hinT 0 rfl rfl 9 (by decide) rfl wf_T_93 rfl dT_setup_179 ?_
    refine lv_aload_n F.1 F.2.1 dT_setup_182 rfl (lv_at hl 1 rfl) ?_
    refine z_iconst (v := 0) F (by decide) dT_setup_183 ?_
    refine lv_iload F.1 F.2.1 dT_setup_184 (lv_at hl 0 rfl) ?_
    refine z_call (z_runV [.int (nI 0), .int (nI i)] [.long (lN b2)] F (ct_atTau l dC dI cI cL _ 0 1 y0 yR yV yI yX yP yQ yS yD 0 cn pb t2 a2 b2 g2 d2 (van t2 (szN cn)) true pd f 0 i rfl rfl hf (by omega) (by decide) hn ht2) kk_T_atTau wl_T_105 rfl rfl ⟨Nat.le_of_ble_eq_true rfl, Nat.le_of_ble_eq_true rfl⟩ (z_preVR (q := (RT, TT, 19)) hP hK rfl (q0 := 0) rfl) rfl hl.1 rfl (Nat.le_of_ble_eq_true rfl) dT_setup_186 ⟨Nat.zero_le _, Nat.zero_le _⟩) ?_
    have hm := z_mb (a := b2) (b := sg (szN cn) (fun k => cf cn (szN cn) (fun t => f ((t * 3 + 0) * 16 + i)) k * pw t2 k) % 998244353) (by omega) (Nat.lt_trans (ltP _) (by decide))
    refine z_lmul F dT_setup_189 ?_
    refine z_ldc2 F 998244353 (v0 := 998244353) wk_T_38 rfl dT_setup_190 ?_
    refine z_lrem F (by omega) (by omega) (by omega) dT_setup_193 ?_
    refine lv_lstore F.1 F.2.1 (lv' := [(10, .long (lN ((b2 * (sg (szN cn) (fun k => cf cn (szN cn) (fun t => f ((t * 3 + 0) * 16 + i)) k * pw t2 k) % 998244353)) % 998244353))), (9, .int (nI i)), (0, .ref y0)]) dT_setup_194 hl (by decide) rfl (fun ls hl => ?_)
    refine lv_aload_n F.1 F.2.1 dT_setup_196 rfl (lv_at hl 2 rfl) ?_
    refine z_get F hK hP hinT 0 rfl rfl 8 (by decide) rfl wf_T_90 rfl dT_setup_197 ?_
    refine lv_aload_n F.1 F.2.1 dT_setup_200 rfl (lv_at hl 2 rfl) ?_
    refine z_iconst (v := 1) F (by decide) dT_setup_201 ?_
    refine lv_iload F.1 F.2.1 dT_setup_202 (lv_at hl 1 rfl) ?_
    refine z_call (z_runV [.int (nI 1), .int (nI i)] [.long (lN a2)] F (ct_atTau l dC dI cI cL _ 0 1 y0 yR yV yI yX yP yQ yS yD 0 cn pb t2 a2 b2 g2 d2 (van t2 (szN cn)) true pd f 1 i rfl rfl hf (by omega) (by decide) hn ht2) kk_T_atTau wl_T_105 rfl rfl ⟨Nat.le_of_ble_eq_true rfl, Nat.le_of_ble_eq_true rfl⟩ (z_preVR (q := (RT, TT, 19)) hP hK rfl (q0 := 0) rfl) rfl hl.1 rfl (Nat.le_of_ble_eq_true rfl) dT_setup_204 ⟨Nat.zero_le _, Nat.zero_le _⟩) ?_
    have hm2 := z_mb (a := a2) (b := sg (szN cn) (fun k => cf cn (szN cn) (fun t => f ((t * 3 + 1) * 16 + i)) k * pw t2 k) % 998244353) (by omega) (Nat.lt_trans (ltP _) (by decide))
    refine z_lmul F dT_setup_207 ?_
    refine z_ldc2 F 998244353 (v0 := 998244353) wk_T_38 rfl dT_setup_208 ?_
    refine z_lrem F (by omega) (by omega) (by omega) dT_setup_211 ?_
    refine lv_lstore F.1 F.2.1 (lv' := [(12, .long (lN ((a2 * (sg (szN cn) (fun k => cf cn (szN cn) (fun t => f ((t * 3 + 1) * 16 + i)) k * pw t2 k) % 998244353)) % 998244353))), (10, .long (lN ((b2 * (sg (szN cn) (fun k => cf cn (szN cn) (fun t => f ((t * 3 + 0) * 16 + i)) k * pw t2 k) % 998244353)) % 998244353))), (9, .int (nI i)), (0, .ref y0)]) dT_setup_212 hl (by decide) rfl (fun ls hl => ?_)
    refine lv_aload_n F.1 F.2.1 dT_setup_214 rfl (lv_at hl 3 rfl) ?_
    refine z_get F hK hP hinT 0 rfl rfl 13 (by decide) rfl wf_T_19 rfl dT_setup_215 ?_
    refine lv_iload F.1 F.2.1 dT_setup_218 (lv_at hl 2 rfl) ?_
    refine lv_lload F.1 F.2.1 dT_setup_220 (lv_at hl 1 rfl) ?_
    refine lv_lload F.1 F.2.1 dT_setup_222 (lv_at hl 0 rfl) ?_
    refine z_ladd F dT_setup_224 ?_
    refine lv_aload_n F.1 F.2.1 dT_setup_225 rfl (lv_at hl 3 rfl) ?_
    refine z_iconst (v := 2) F (by decide) dT_setup_226 ?_
    refine lv_iload F.1 F.2.1 dT_setup_227 (lv_at hl 2 rfl) ?_
    refine z_call (z_runV [.int (nI 2), .int (nI i)] [.long (lN (((b2 * (sg (szN cn) (fun k => cf cn (szN cn) (fun t => f ((t * 3 + 0) * 16 + i)) k * pw t2 k) % 998244353)) % 998244353) + ((a2 * (sg (szN cn) (fun k => cf cn (szN cn) (fun t => f ((t * 3 + 1) * 16 + i)) k * pw t2 k) % 998244353)) % 998244353))), .int (nI i), .ref yX] F (ct_atTau l dC dI cI cL _ 0 1 y0 yR yV yI yX yP yQ yS yD 0 cn pb t2 a2 b2 g2 d2 (van t2 (szN cn)) true pd f 2 i rfl rfl hf (by omega) (by decide) hn ht2) kk_T_atTau wl_T_105 rfl rfl ⟨Nat.le_of_ble_eq_true rfl, Nat.le_of_ble_eq_true rfl⟩ (z_preVR (q := (RT, TT, 19)) hP hK rfl (q0 := 0) rfl) rfl hl.1 rfl (Nat.le_of_ble_eq_true rfl) dT_setup_229 ⟨Nat.zero_le _, Nat.zero_le _⟩) ?_
    refine z_ladd F dT_setup_232 ?_
    refine z_ldc2 F 998244353 (v0 := 998244353) wk_T_38 rfl dT_setup_233 ?_
    refine z_lrem F (by omega) (by omega) (by omega) dT_setup_236 ?_
    refine z_topL ((mxT cn t2 a2 b2 f) i) (rfl) ?_
    refine z_last F hK hP hD hS 4 1 rfl rfl (by omega) (by decide) dT_setup_237 (fun H locs hP hD hS => ?_)
    have hP : va_P (dC, dI) vwCl ([(y0, .inr (5, [.int (nI 0), .ref yR, .int (nI cn), .int (nI pb), .ref yV, .ref yI, .int (z_b true), .long (lN t2), .long (lN a2), .long (lN b2), .long (lN g2), .long (lN d2), .long (lN (van t2 (szN cn))), .ref yX, .int (z_b pd), .ref yP, .ref yQ, .ref yS, .ref yD])), (yR, .inl (cL, 816, .inr (.inl (fun x9 => lN (f x9))))), (yV, .inl (cL, 16, .inr (.inl (fun x9 => lN (v x9))))), (yI, .inl (cL, 16, .inr (.inl (fun x9 => lN (inp x9))))), (yX, .inl (cL, 16, .inr (.inl (fun x9 => lN ((va_up o i ((mxT cn t2 a2 b2 f) i)) x9))))), (yP, .inl (cL, 3, .inr (.inl (fun x9 => lN (el x9))))), (yQ, .inl (cL, 32, .inr (.inl (fun x9 => lN (qt x9))))), (yS, .inl (cL, 48, .inr (.inl (fun x9 => lN (su x9))))), (yD, .inl (cL, 32, .inr (.inl (fun x9 => lN (pr x9)))))]) H := hP
    have hD : va_D A ([(y0, .inr (5, [.int (nI 0), .ref yR, .int (nI cn), .int (nI pb), .ref yV, .ref yI, .int (z_b true), .long (lN t2), .long (lN a2), .long (lN b2), .long (lN g2), .long (lN d2), .long (lN (van t2 (szN cn))), .ref yX, .int (z_b pd), .ref yP, .ref yQ, .ref yS, .ref yD])), (yR, .inl (cL, 816, .inr (.inl (fun x9 => lN (f x9))))), (yV, .inl (cL, 16, .inr (.inl (fun x9 => lN (v x9))))), (yI, .inl (cL, 16, .inr (.inl (fun x9 => lN (inp x9))))), (yX, .inl (cL, 16, .inr (.inl (fun x9 => lN ((va_up o i ((mxT cn t2 a2 b2 f) i)) x9))))), (yP, .inl (cL, 3, .inr (.inl (fun x9 => lN (el x9))))), (yQ, .inl (cL, 32, .inr (.inl (fun x9 => lN (qt x9))))), (yS, .inl (cL, 48, .inr (.inl (fun x9 => lN (su x9))))), (yD, .inl (cL, 32, .inr (.inl (fun x9 => lN (pr x9)))))]) := hD
    refine lv_iinc F.1 F.2.1 (k := 2) (v := nI (i + 1)) (lv' := [(9, .int (nI (i + 1))), (12, .long (lN ((a2 * (sg (szN cn) (fun k => cf cn (szN cn) (fun t => f ((t * 3 + 1) * 16 + i)) k * pw t2 k) % 998244353)) % 998244353))), (10, .long (lN ((b2 * (sg (szN cn) (fun k => cf cn (szN cn) (fun t => f ((t * 3 + 0) * 16 + i)) k * pw t2 k) % 998244353)) % 998244353))), (0, .ref y0)]) dT_setup_238 hl rfl (nI_1 i) (by decide) rfl (fun ls hl => ?_)
    refine lv_goto F.1 F.2.1 (tgt := 171) dT_setup_241 rfl ?_
    have hl : lv_has ls 14 [(9, .int (nI ((i + 1)))), (0, .ref y0)] := lv_sub hl [0, 3] rfl
    exact ih (by omega) (va_up o i ((mxT cn t2 a2 b2 f) i)) ls H locs (fun t ht => by by_cases e9 : t = i; (rw [e9, up_at]); (rw [up_ne _ _ e9]; exact h2 t (by omega))) hP hD hS hl
set_option maxHeartbeats 4000000 in
set_option maxRecDepth 100000 in
theorem ct_setup_nv (l : Launch) (dC : Nat → ClassId) (dI : Nat → Nat → Nat) (cI cL : ClassId) (zz : Nat) (y0 yR yV yI yX yP yQ yS yD : Nat) (th cn pb ta al be ga de va : Nat) (md pd : Bool) (f v inp mx el qt su pr : Nat → Nat) (t2 a2 b2 g2 d2 : Nat) (hf : ∀ j, f j < 998244353) (hn : cn ≤ 16) (pt2 : 0 < t2) (ht2 : t2 < 998244353) (pa2 : 0 < a2) (ha2 : a2 < 998244353) (pb2 : 0 < b2) (hb2 : b2 < 998244353) (pg2 : 0 < g2) (hg2 : g2 < 998244353) (pd2 : 0 < d2) (hd2 : d2 < 998244353) (hv : van t2 (szN cn) = 0) : Met l yT_setup (zW yT_setup cT_setup 14 (.some .int)) ({ frames := 1, cells := 0, slots := 0, locals := 28 }) (va_Pc [.ref y0, .int (nI t2), .int (nI a2), .int (nI b2), .int (nI g2), .int (nI d2)] (z_P (dC, dI) vwCl [(cI, .int), (cL, .long)] zz ([(y0, .inr (5, [.int (nI th), .ref yR, .int (nI cn), .int (nI pb), .ref yV, .ref yI, .int (z_b md), .long (lN ta), .long (lN al), .long (lN be), .long (lN ga), .long (lN de), .long (lN va), .ref yX, .int (z_b pd), .ref yP, .ref yQ, .ref yS, .ref yD])), (yR, .inl (cL, 816, .inr (.inl (fun x9 => lN (f x9))))), (yV, .inl (cL, 16, .inr (.inl (fun x9 => lN (v x9))))), (yI, .inl (cL, 16, .inr (.inl (fun x9 => lN (inp x9))))), (yX, .inl (cL, 16, .inr (.inl (fun x9 => lN (mx x9))))), (yP, .inl (cL, 3, .inr (.inl (fun x9 => lN (el x9))))), (yQ, .inl (cL, 32, .inr (.inl (fun x9 => lN (qt x9))))), (yS, .inl (cL, 48, .inr (.inl (fun x9 => lN (su x9))))), (yD, .inl (cL, 32, .inr (.inl (fun x9 => lN (pr x9)))))]))) (z_Q (dC, dI) vwCl [(cI, .int), (cL, .long)] (some (.int (nI 0))) ([(y0, .inr (5, [.int (nI 2), .ref yR, .int (nI cn), .int (nI pb), .ref yV, .ref yI, .int (z_b md), .long (lN ta), .long (lN al), .long (lN be), .long (lN ga), .long (lN de), .long (lN va), .ref yX, .int (z_b pd), .ref yP, .ref yQ, .ref yS, .ref yD])), (yR, .inl (cL, 816, .inr (.inl (fun x9 => lN (f x9))))), (yV, .inl (cL, 16, .inr (.inl (fun x9 => lN (v x9))))), (yI, .inl (cL, 16, .inr (.inl (fun x9 => lN (inp x9))))), (yX, .inl (cL, 16, .inr (.inl (fun x9 => lN (mx x9))))), (yP, .inl (cL, 3, .inr (.inl (fun x9 => lN (el x9))))), (yQ, .inl (cL, 32, .inr (.inl (fun x9 => lN (qt x9))))), (yS, .inl (cL, 48, .inr (.inl (fun x9 => lN (su x9))))), (yD, .inl (cL, 32, .inr (.inl (fun x9 => lN (pr x9)))))]) (va_A ([(y0, .inr (5, [.int (nI th), .ref yR, .int (nI cn), .int (nI pb), .ref yV, .ref yI, .int (z_b md), .long (lN ta), .long (lN al), .long (lN be), .long (lN ga), .long (lN de), .long (lN va), .ref yX, .int (z_b pd), .ref yP, .ref yQ, .ref yS, .ref yD])), (yR, .inl (cL, 816, .inr (.inl (fun x9 => lN (f x9))))), (yV, .inl (cL, 16, .inr (.inl (fun x9 => lN (v x9))))), (yI, .inl (cL, 16, .inr (.inl (fun x9 => lN (inp x9))))), (yX, .inl (cL, 16, .inr (.inl (fun x9 => lN (mx x9))))), (yP, .inl (cL, 3, .inr (.inl (fun x9 => lN (el x9))))), (yQ, .inl (cL, 32, .inr (.inl (fun x9 => lN (qt x9))))), (yS, .inl (cL, 48, .inr (.inl (fun x9 => lN (su x9))))), (yD, .inl (cL, 32, .inr (.inl (fun x9 => lN (pr x9)))))]) zz)) 0 0 (va_A ([(y0, .inr (5, [.int (nI th), .ref yR, .int (nI cn), .int (nI pb), .ref yV, .ref yI, .int (z_b md), .long (lN ta), .long (lN al), .long (lN be), .long (lN ga), .long (lN de), .long (lN va), .ref yX, .int (z_b pd), .ref yP, .ref yQ, .ref yS, .ref yD])), (yR, .inl (cL, 816, .inr (.inl (fun x9 => lN (f x9))))), (yV, .inl (cL, 16, .inr (.inl (fun x9 => lN (v x9))))), (yI, .inl (cL, 16, .inr (.inl (fun x9 => lN (inp x9))))), (yX, .inl (cL, 16, .inr (.inl (fun x9 => lN (mx x9))))), (yP, .inl (cL, 3, .inr (.inl (fun x9 => lN (el x9))))), (yQ, .inl (cL, 32, .inr (.inl (fun x9 => lN (qt x9))))), (yS, .inl (cL, 48, .inr (.inl (fun x9 => lN (su x9))))), (yD, .inl (cL, 32, .inr (.inl (fun x9 => lN (pr x9)))))]) zz) := by
  refine Met.ofW (cc := cT_setup) (maxL := 14) (ret := (.some .int)) (by decide) rfl ?_
  intro p e s m args below meth c s₁ B hml hv
  obtain ⟨rfl, hsz, hP, hK, hD0⟩ := hv
  have F : CallFix p m c cT_setup 14 s _ zT RT := ⟨B.exec, B.bytes, hml, findClass_of_methodNamed B.named, fun w h => atoms_spec (ws := (zW yT_setup cT_setup 14 (.some .int))) B.pre w (List.mem_cons_of_mem _ h)⟩
  have hr := B.returns
  have hlocks := B.notSynchronized
  subst hsz
  have hD := hD0.self (sz := s.heap.size)
  generalize hAe : va_A ([(y0, .inr (5, [.int (nI th), .ref yR, .int (nI cn), .int (nI pb), .ref yV, .ref yI, .int (z_b md), .long (lN ta), .long (lN al), .long (lN be), .long (lN ga), .long (lN de), .long (lN va), .ref yX, .int (z_b pd), .ref yP, .ref yQ, .ref yS, .ref yD])), (yR, .inl (cL, 816, .inr (.inl (fun x9 => lN (f x9))))), (yV, .inl (cL, 16, .inr (.inl (fun x9 => lN (v x9))))), (yI, .inl (cL, 16, .inr (.inl (fun x9 => lN (inp x9))))), (yX, .inl (cL, 16, .inr (.inl (fun x9 => lN (mx x9))))), (yP, .inl (cL, 3, .inr (.inl (fun x9 => lN (el x9))))), (yQ, .inl (cL, 32, .inr (.inl (fun x9 => lN (qt x9))))), (yS, .inl (cL, 48, .inr (.inl (fun x9 => lN (su x9))))), (yD, .inl (cL, 32, .inr (.inl (fun x9 => lN (pr x9)))))]) s.heap.size = A at hD ⊢
  have hAA : ∀ q : Nat, s.heap.size ≤ q → A q := fun q h => by rw [← hAe]; exact Or.inr h
  have hS : va_S A s.heap s.heap [] := va_S.rf
  have hl := lv_entry ([.ref y0, .int (nI t2), .int (nI a2), .int (nI b2), .int (nI g2), .int (nI d2)]) (n := 14) (Nat.le_of_ble_eq_true rfl)
  rw [lg_entry_eq]
  generalize (lg_sl ([.ref y0, .int (nI t2), .int (nI a2), .int (nI b2), .int (nI g2), .int (nI d2)]) ++ List.replicate (14 - (lg_sl ([.ref y0, .int (nI t2), .int (nI a2), .int (nI b2), .int (nI g2), .int (nI d2)])).length) Slot.unset).toArray = ls at hl ⊢
  have hl : lv_has ls 14 [(0, .ref y0), (1, .int (nI t2)), (2, .int (nI a2)), (3, .int (nI b2)), (4, .int (nI g2)), (5, .int (nI d2))] := hl
  have hlo := szN_lo cn
  have hhi := szN_hi cn
  have hvl := van_lt t2 (szN cn)
  refine lv_iload_n F.1 F.2.1 dT_setup_0 rfl (lv_at hl 1 rfl) ?_
  refine z_call (z_runS [.int (nI t2)] [] F (ct_isNumber_t l t2 (by omega)) kk_T_isNumber wl_T_49 rfl rfl ⟨Nat.le_of_ble_eq_true rfl, Nat.le_of_ble_eq_true rfl⟩ z_preN rfl hl.1 rfl (Nat.le_of_ble_eq_true rfl) dT_setup_1 ⟨Nat.zero_le _, Nat.zero_le _⟩) ?_
  refine z_if_eq F (by omega) (tgt := 63) dT_setup_4 rfl (fun h => absurd h (by decide)) (fun h => ?_)
  refine lv_iload_n F.1 F.2.1 dT_setup_7 rfl (lv_at hl 2 rfl) ?_
  refine z_call (z_runS [.int (nI a2)] [] F (ct_isNumber_t l a2 (by omega)) kk_T_isNumber wl_T_49 rfl rfl ⟨Nat.le_of_ble_eq_true rfl, Nat.le_of_ble_eq_true rfl⟩ z_preN rfl hl.1 rfl (Nat.le_of_ble_eq_true rfl) dT_setup_8 ⟨Nat.zero_le _, Nat.zero_le _⟩) ?_
  refine z_if_eq F (by omega) (tgt := 63) dT_setup_11 rfl (fun h => absurd h (by decide)) (fun h => ?_)
  refine lv_iload_n F.1 F.2.1 dT_setup_14 rfl (lv_at hl 3 rfl) ?_
  refine z_call (z_runS [.int (nI b2)] [] F (ct_isNumber_t l b2 (by omega)) kk_T_isNumber wl_T_49 rfl rfl ⟨Nat.le_of_ble_eq_true rfl, Nat.le_of_ble_eq_true rfl⟩ z_preN rfl hl.1 rfl (Nat.le_of_ble_eq_true rfl) dT_setup_15 ⟨Nat.zero_le _, Nat.zero_le _⟩) ?_
  refine z_if_eq F (by omega) (tgt := 63) dT_setup_18 rfl (fun h => absurd h (by decide)) (fun h => ?_)
  refine lv_iload F.1 F.2.1 dT_setup_21 (lv_at hl 4 rfl) ?_
  refine z_call (z_runS [.int (nI g2)] [] F (ct_isNumber_t l g2 (by omega)) kk_T_isNumber wl_T_49 rfl rfl ⟨Nat.le_of_ble_eq_true rfl, Nat.le_of_ble_eq_true rfl⟩ z_preN rfl hl.1 rfl (Nat.le_of_ble_eq_true rfl) dT_setup_23 ⟨Nat.zero_le _, Nat.zero_le _⟩) ?_
  refine z_if_eq F (by omega) (tgt := 63) dT_setup_26 rfl (fun h => absurd h (by decide)) (fun h => ?_)
  refine lv_iload F.1 F.2.1 dT_setup_29 (lv_at hl 5 rfl) ?_
  refine z_call (z_runS [.int (nI d2)] [] F (ct_isNumber_t l d2 (by omega)) kk_T_isNumber wl_T_49 rfl rfl ⟨Nat.le_of_ble_eq_true rfl, Nat.le_of_ble_eq_true rfl⟩ z_preN rfl hl.1 rfl (Nat.le_of_ble_eq_true rfl) dT_setup_31 ⟨Nat.zero_le _, Nat.zero_le _⟩) ?_
  refine z_if_eq F (by omega) (tgt := 63) dT_setup_34 rfl (fun h => absurd h (by decide)) (fun h => ?_)
  refine lv_iload_n F.1 F.2.1 dT_setup_37 rfl (lv_at hl 1 rfl) ?_
  refine z_if_le F (by omega) (tgt := 63) dT_setup_38 rfl (fun h => absurd h (by omega)) (fun h => ?_)
  refine lv_iload_n F.1 F.2.1 dT_setup_41 rfl (lv_at hl 2 rfl) ?_
  refine z_if_le F (by omega) (tgt := 63) dT_setup_42 rfl (fun h => absurd h (by omega)) (fun h => ?_)
  refine lv_iload_n F.1 F.2.1 dT_setup_45 rfl (lv_at hl 3 rfl) ?_
  refine z_if_le F (by omega) (tgt := 63) dT_setup_46 rfl (fun h => absurd h (by omega)) (fun h => ?_)
  refine lv_iload F.1 F.2.1 dT_setup_49 (lv_at hl 4 rfl) ?_
  refine z_if_le F (by omega) (tgt := 63) dT_setup_51 rfl (fun h => absurd h (by omega)) (fun h => ?_)
  refine lv_iload F.1 F.2.1 dT_setup_54 (lv_at hl 5 rfl) ?_
  refine z_if_le F (by omega) (tgt := 63) dT_setup_56 rfl (fun h => absurd h (by omega)) (fun h => ?_)
  refine z_iconst (v := 1) F (by decide) dT_setup_59 ?_
  refine lv_goto F.1 F.2.1 (tgt := 64) dT_setup_60 rfl ?_
  refine lv_istore F.1 F.2.1 (lv' := [(6, .int (nI 1)), (0, .ref y0), (1, .int (nI t2)), (2, .int (nI a2)), (3, .int (nI b2)), (4, .int (nI g2)), (5, .int (nI d2))]) dT_setup_64 hl (by decide) rfl (fun ls hl => ?_)
  refine lv_iload F.1 F.2.1 dT_setup_66 (lv_at hl 0 rfl) ?_
  refine z_if_eq F (by omega) (tgt := 88) dT_setup_68 rfl (fun h => absurd h (by decide)) (fun h => ?_)
  refine lv_iload_n F.1 F.2.1 dT_setup_71 rfl (lv_at hl 2 rfl) ?_
  refine z_i2l F (by omega) dT_setup_72 ?_
  refine lv_aload_n F.1 F.2.1 dT_setup_73 rfl (lv_at hl 1 rfl) ?_
  refine z_call (z_runV [] [.long (lN t2)] F (ct_size l dC dI cI cL _ 0 y0 yR yV yI yX yP yQ yS yD th cn pb ta al be ga de va md pd rfl hn) kk_T_size wl_T_68 rfl rfl ⟨Nat.le_of_ble_eq_true rfl, Nat.le_of_ble_eq_true rfl⟩ (z_preVR (q := (RT, TT, 19)) hP hK rfl (q0 := 0) rfl) rfl hl.1 rfl (Nat.le_of_ble_eq_true rfl) dT_setup_74 ⟨Nat.zero_le _, Nat.zero_le _⟩) ?_
  refine z_i2l F (by omega) dT_setup_77 ?_
  refine z_call (z_runS [.long (lN t2), .long (lN (szN cn))] [] F (ct_power l t2 (szN cn) (by omega) (by omega)) kk_T_power wl_T_42 rfl rfl ⟨Nat.le_of_ble_eq_true rfl, Nat.le_of_ble_eq_true rfl⟩ z_preN rfl hl.1 rfl (Nat.le_of_ble_eq_true rfl) dT_setup_78 ⟨Nat.zero_le _, Nat.zero_le _⟩) ?_
  refine z_lconst (v := 1) F (by decide) dT_setup_81 ?_
  refine z_call (z_runS [.long (lN (pw t2 (szN cn))), .long (lN 1)] [] F (ct_less l (pw t2 (szN cn)) 1 (pw_lt _ _) (by decide)) kk_T_less wl_T_87 rfl rfl ⟨Nat.le_of_ble_eq_true rfl, Nat.le_of_ble_eq_true rfl⟩ z_preN rfl hl.1 rfl (Nat.le_of_ble_eq_true rfl) dT_setup_82 ⟨Nat.zero_le _, Nat.zero_le _⟩) ?_
  refine z_topL (van t2 (szN cn)) (rfl) ?_
  refine lv_goto F.1 F.2.1 (tgt := 89) dT_setup_85 rfl ?_
  refine lv_lstore F.1 F.2.1 (lv' := [(7, .long (lN (van t2 (szN cn)))), (6, .int (nI 1)), (0, .ref y0), (1, .int (nI t2)), (2, .int (nI a2)), (3, .int (nI b2)), (4, .int (nI g2)), (5, .int (nI d2))]) dT_setup_89 hl (by decide) rfl (fun ls hl => ?_)
  refine lv_aload_n F.1 F.2.1 dT_setup_91 rfl (lv_at hl 2 rfl) ?_
  refine lv_iload F.1 F.2.1 dT_setup_92 (lv_at hl 1 rfl) ?_
  refine z_if_ne F (by omega) (tgt := 101) dT_setup_94 rfl (fun h => ?_) (fun h => absurd h (by decide))
  refine lv_lload F.1 F.2.1 dT_setup_101 (lv_at hl 0 rfl) ?_
  refine z_lconst (v := 0) F (by decide) dT_setup_103 ?_
  refine z_lcmp F dT_setup_104 ?_
  refine z_ifl_ne F (by omega) (by decide) (tgt := 112) dT_setup_105 rfl (fun h => absurd h (fun q => q hv)) (fun h => ?_)
  refine z_iconst (v := 2) F (by decide) dT_setup_108 ?_
  refine lv_goto F.1 F.2.1 (tgt := 113) dT_setup_109 rfl ?_
  refine z_put F hK hP hD hS hinT tyT tyT_ok nmT 0 rfl rfl 0 (by decide) rfl rfl wf_T_34 (rfl) (rfl) (Nat.le_of_ble_eq_true rfl) dT_setup_113 (fun H locs hP hD hS => ?_)
  have hP : va_P (dC, dI) vwCl ([(y0, .inr (5, [.int (nI 2), .ref yR, .int (nI cn), .int (nI pb), .ref yV, .ref yI, .int (z_b md), .long (lN ta), .long (lN al), .long (lN be), .long (lN ga), .long (lN de), .long (lN va), .ref yX, .int (z_b pd), .ref yP, .ref yQ, .ref yS, .ref yD])), (yR, .inl (cL, 816, .inr (.inl (fun x9 => lN (f x9))))), (yV, .inl (cL, 16, .inr (.inl (fun x9 => lN (v x9))))), (yI, .inl (cL, 16, .inr (.inl (fun x9 => lN (inp x9))))), (yX, .inl (cL, 16, .inr (.inl (fun x9 => lN (mx x9))))), (yP, .inl (cL, 3, .inr (.inl (fun x9 => lN (el x9))))), (yQ, .inl (cL, 32, .inr (.inl (fun x9 => lN (qt x9))))), (yS, .inl (cL, 48, .inr (.inl (fun x9 => lN (su x9))))), (yD, .inl (cL, 32, .inr (.inl (fun x9 => lN (pr x9)))))]) H := hP
  have hD : va_D A ([(y0, .inr (5, [.int (nI 2), .ref yR, .int (nI cn), .int (nI pb), .ref yV, .ref yI, .int (z_b md), .long (lN ta), .long (lN al), .long (lN be), .long (lN ga), .long (lN de), .long (lN va), .ref yX, .int (z_b pd), .ref yP, .ref yQ, .ref yS, .ref yD])), (yR, .inl (cL, 816, .inr (.inl (fun x9 => lN (f x9))))), (yV, .inl (cL, 16, .inr (.inl (fun x9 => lN (v x9))))), (yI, .inl (cL, 16, .inr (.inl (fun x9 => lN (inp x9))))), (yX, .inl (cL, 16, .inr (.inl (fun x9 => lN (mx x9))))), (yP, .inl (cL, 3, .inr (.inl (fun x9 => lN (el x9))))), (yQ, .inl (cL, 32, .inr (.inl (fun x9 => lN (qt x9))))), (yS, .inl (cL, 48, .inr (.inl (fun x9 => lN (su x9))))), (yD, .inl (cL, 32, .inr (.inl (fun x9 => lN (pr x9)))))]) := hD
  refine lv_aload_n F.1 F.2.1 dT_setup_116 rfl (lv_at hl 2 rfl) ?_
  refine z_get F hK hP hinT 0 rfl rfl 0 (by decide) rfl wf_T_34 rfl dT_setup_117 ?_
  refine z_if_le F (by omega) (tgt := 125) dT_setup_120 rfl (fun h => absurd h (by decide)) (fun h => ?_)
  refine z_iconst (v := 0) F (by decide) dT_setup_123 ?_
  exact W.iret F.1 F.2.1 hr (fun t ht hW => ⟨rfl, by rw [ht]; exact hP, va_K.moved hW.alike hK, hD, hS.F ht⟩) hS.2.2 dT_setup_124
set_option maxHeartbeats 4000000 in
set_option maxRecDepth 100000 in
theorem ct_setup_no (l : Launch) (dC : Nat → ClassId) (dI : Nat → Nat → Nat) (cI cL : ClassId) (zz : Nat) (y0 yR yV yI yX yP yQ yS yD : Nat) (th cn pb ta al be ga de va : Nat) (md pd : Bool) (f v inp mx el qt su pr : Nat → Nat) (x1 x2 x3 x4 x5 : Int32) (hq : (un x1 && (un x2 && (un x3 && (un x4 && un x5)))) = false) : Met l yT_setup (zW yT_setup cT_setup 14 (.some .int)) ({ frames := 1, cells := 0, slots := 0, locals := 20 }) (va_Pc [.ref y0, .int x1, .int x2, .int x3, .int x4, .int x5] (z_P (dC, dI) vwCl [(cI, .int), (cL, .long)] zz ([(y0, .inr (5, [.int (nI th), .ref yR, .int (nI cn), .int (nI pb), .ref yV, .ref yI, .int (z_b md), .long (lN ta), .long (lN al), .long (lN be), .long (lN ga), .long (lN de), .long (lN va), .ref yX, .int (z_b pd), .ref yP, .ref yQ, .ref yS, .ref yD])), (yR, .inl (cL, 816, .inr (.inl (fun x9 => lN (f x9))))), (yV, .inl (cL, 16, .inr (.inl (fun x9 => lN (v x9))))), (yI, .inl (cL, 16, .inr (.inl (fun x9 => lN (inp x9))))), (yX, .inl (cL, 16, .inr (.inl (fun x9 => lN (mx x9))))), (yP, .inl (cL, 3, .inr (.inl (fun x9 => lN (el x9))))), (yQ, .inl (cL, 32, .inr (.inl (fun x9 => lN (qt x9))))), (yS, .inl (cL, 48, .inr (.inl (fun x9 => lN (su x9))))), (yD, .inl (cL, 32, .inr (.inl (fun x9 => lN (pr x9)))))]))) (z_Q (dC, dI) vwCl [(cI, .int), (cL, .long)] (some (.int (nI 0))) ([(y0, .inr (5, [.int (nI 1), .ref yR, .int (nI cn), .int (nI pb), .ref yV, .ref yI, .int (z_b md), .long (lN ta), .long (lN al), .long (lN be), .long (lN ga), .long (lN de), .long (lN va), .ref yX, .int (z_b pd), .ref yP, .ref yQ, .ref yS, .ref yD])), (yR, .inl (cL, 816, .inr (.inl (fun x9 => lN (f x9))))), (yV, .inl (cL, 16, .inr (.inl (fun x9 => lN (v x9))))), (yI, .inl (cL, 16, .inr (.inl (fun x9 => lN (inp x9))))), (yX, .inl (cL, 16, .inr (.inl (fun x9 => lN (mx x9))))), (yP, .inl (cL, 3, .inr (.inl (fun x9 => lN (el x9))))), (yQ, .inl (cL, 32, .inr (.inl (fun x9 => lN (qt x9))))), (yS, .inl (cL, 48, .inr (.inl (fun x9 => lN (su x9))))), (yD, .inl (cL, 32, .inr (.inl (fun x9 => lN (pr x9)))))]) (va_A ([(y0, .inr (5, [.int (nI th), .ref yR, .int (nI cn), .int (nI pb), .ref yV, .ref yI, .int (z_b md), .long (lN ta), .long (lN al), .long (lN be), .long (lN ga), .long (lN de), .long (lN va), .ref yX, .int (z_b pd), .ref yP, .ref yQ, .ref yS, .ref yD])), (yR, .inl (cL, 816, .inr (.inl (fun x9 => lN (f x9))))), (yV, .inl (cL, 16, .inr (.inl (fun x9 => lN (v x9))))), (yI, .inl (cL, 16, .inr (.inl (fun x9 => lN (inp x9))))), (yX, .inl (cL, 16, .inr (.inl (fun x9 => lN (mx x9))))), (yP, .inl (cL, 3, .inr (.inl (fun x9 => lN (el x9))))), (yQ, .inl (cL, 32, .inr (.inl (fun x9 => lN (qt x9))))), (yS, .inl (cL, 48, .inr (.inl (fun x9 => lN (su x9))))), (yD, .inl (cL, 32, .inr (.inl (fun x9 => lN (pr x9)))))]) zz)) 0 0 (va_A ([(y0, .inr (5, [.int (nI th), .ref yR, .int (nI cn), .int (nI pb), .ref yV, .ref yI, .int (z_b md), .long (lN ta), .long (lN al), .long (lN be), .long (lN ga), .long (lN de), .long (lN va), .ref yX, .int (z_b pd), .ref yP, .ref yQ, .ref yS, .ref yD])), (yR, .inl (cL, 816, .inr (.inl (fun x9 => lN (f x9))))), (yV, .inl (cL, 16, .inr (.inl (fun x9 => lN (v x9))))), (yI, .inl (cL, 16, .inr (.inl (fun x9 => lN (inp x9))))), (yX, .inl (cL, 16, .inr (.inl (fun x9 => lN (mx x9))))), (yP, .inl (cL, 3, .inr (.inl (fun x9 => lN (el x9))))), (yQ, .inl (cL, 32, .inr (.inl (fun x9 => lN (qt x9))))), (yS, .inl (cL, 48, .inr (.inl (fun x9 => lN (su x9))))), (yD, .inl (cL, 32, .inr (.inl (fun x9 => lN (pr x9)))))]) zz) := by
  refine Met.ofW (cc := cT_setup) (maxL := 14) (ret := (.some .int)) (by decide) rfl ?_
  intro p e s m args below meth c s₁ B hml hv
  obtain ⟨rfl, hsz, hP, hK, hD0⟩ := hv
  have F : CallFix p m c cT_setup 14 s _ zT RT := ⟨B.exec, B.bytes, hml, findClass_of_methodNamed B.named, fun w h => atoms_spec (ws := (zW yT_setup cT_setup 14 (.some .int))) B.pre w (List.mem_cons_of_mem _ h)⟩
  have hr := B.returns
  have hlocks := B.notSynchronized
  subst hsz
  have hD := hD0.self (sz := s.heap.size)
  generalize hAe : va_A ([(y0, .inr (5, [.int (nI th), .ref yR, .int (nI cn), .int (nI pb), .ref yV, .ref yI, .int (z_b md), .long (lN ta), .long (lN al), .long (lN be), .long (lN ga), .long (lN de), .long (lN va), .ref yX, .int (z_b pd), .ref yP, .ref yQ, .ref yS, .ref yD])), (yR, .inl (cL, 816, .inr (.inl (fun x9 => lN (f x9))))), (yV, .inl (cL, 16, .inr (.inl (fun x9 => lN (v x9))))), (yI, .inl (cL, 16, .inr (.inl (fun x9 => lN (inp x9))))), (yX, .inl (cL, 16, .inr (.inl (fun x9 => lN (mx x9))))), (yP, .inl (cL, 3, .inr (.inl (fun x9 => lN (el x9))))), (yQ, .inl (cL, 32, .inr (.inl (fun x9 => lN (qt x9))))), (yS, .inl (cL, 48, .inr (.inl (fun x9 => lN (su x9))))), (yD, .inl (cL, 32, .inr (.inl (fun x9 => lN (pr x9)))))]) s.heap.size = A at hD ⊢
  have hAA : ∀ q : Nat, s.heap.size ≤ q → A q := fun q h => by rw [← hAe]; exact Or.inr h
  have hS : va_S A s.heap s.heap [] := va_S.rf
  have hl := lv_entry ([.ref y0, .int x1, .int x2, .int x3, .int x4, .int x5]) (n := 14) (Nat.le_of_ble_eq_true rfl)
  rw [lg_entry_eq]
  generalize (lg_sl ([.ref y0, .int x1, .int x2, .int x3, .int x4, .int x5]) ++ List.replicate (14 - (lg_sl ([.ref y0, .int x1, .int x2, .int x3, .int x4, .int x5])).length) Slot.unset).toArray = ls at hl ⊢
  have hl : lv_has ls 14 [(0, .ref y0), (1, .int x1), (2, .int x2), (3, .int x3), (4, .int x4), (5, .int x5)] := hl
  refine lv_iload_n F.1 F.2.1 dT_setup_0 rfl (lv_at hl 1 rfl) ?_
  refine z_call (z_runS [.int x1] [] F (ct_isNumber l x1) kk_T_isNumber wl_T_49 rfl rfl ⟨Nat.le_of_ble_eq_true rfl, Nat.le_of_ble_eq_true rfl⟩ z_preN rfl hl.1 rfl (Nat.le_of_ble_eq_true rfl) dT_setup_1 ⟨Nat.zero_le _, Nat.zero_le _⟩) ?_
  refine z_ifb_eq F (tgt := 63) dT_setup_4 rfl (fun h1 => ?_) (fun h1 => ?_)
  · refine z_iconst (v := 0) F (by decide) dT_setup_63 ?_
    refine lv_istore F.1 F.2.1 (lv' := [(6, .int (nI 0)), (0, .ref y0), (1, .int x1), (2, .int x2), (3, .int x3), (4, .int x4), (5, .int x5)]) dT_setup_64 hl (by decide) rfl (fun ls hl => ?_)
    refine lv_iload F.1 F.2.1 dT_setup_66 (lv_at hl 0 rfl) ?_
    refine z_if_eq F (by omega) (tgt := 88) dT_setup_68 rfl (fun h => ?_) (fun h => absurd h (by decide))
    refine z_lconst (v := 0) F (by decide) dT_setup_88 ?_
    refine lv_lstore F.1 F.2.1 (lv' := [(7, .long (lN 0)), (6, .int (nI 0)), (0, .ref y0), (1, .int x1), (2, .int x2), (3, .int x3), (4, .int x4), (5, .int x5)]) dT_setup_89 hl (by decide) rfl (fun ls hl => ?_)
    refine lv_aload_n F.1 F.2.1 dT_setup_91 rfl (lv_at hl 2 rfl) ?_
    refine lv_iload F.1 F.2.1 dT_setup_92 (lv_at hl 1 rfl) ?_
    refine z_if_ne F (by omega) (tgt := 101) dT_setup_94 rfl (fun h => absurd h (by decide)) (fun h => ?_)
    refine z_iconst (v := 1) F (by decide) dT_setup_97 ?_
    refine lv_goto F.1 F.2.1 (tgt := 113) dT_setup_98 rfl ?_
    refine z_put F hK hP hD hS hinT tyT tyT_ok nmT 0 rfl rfl 0 (by decide) rfl rfl wf_T_34 (rfl) (rfl) (Nat.le_of_ble_eq_true rfl) dT_setup_113 (fun H locs hP hD hS => ?_)
    have hP : va_P (dC, dI) vwCl ([(y0, .inr (5, [.int (nI 1), .ref yR, .int (nI cn), .int (nI pb), .ref yV, .ref yI, .int (z_b md), .long (lN ta), .long (lN al), .long (lN be), .long (lN ga), .long (lN de), .long (lN va), .ref yX, .int (z_b pd), .ref yP, .ref yQ, .ref yS, .ref yD])), (yR, .inl (cL, 816, .inr (.inl (fun x9 => lN (f x9))))), (yV, .inl (cL, 16, .inr (.inl (fun x9 => lN (v x9))))), (yI, .inl (cL, 16, .inr (.inl (fun x9 => lN (inp x9))))), (yX, .inl (cL, 16, .inr (.inl (fun x9 => lN (mx x9))))), (yP, .inl (cL, 3, .inr (.inl (fun x9 => lN (el x9))))), (yQ, .inl (cL, 32, .inr (.inl (fun x9 => lN (qt x9))))), (yS, .inl (cL, 48, .inr (.inl (fun x9 => lN (su x9))))), (yD, .inl (cL, 32, .inr (.inl (fun x9 => lN (pr x9)))))]) H := hP
    have hD : va_D A ([(y0, .inr (5, [.int (nI 1), .ref yR, .int (nI cn), .int (nI pb), .ref yV, .ref yI, .int (z_b md), .long (lN ta), .long (lN al), .long (lN be), .long (lN ga), .long (lN de), .long (lN va), .ref yX, .int (z_b pd), .ref yP, .ref yQ, .ref yS, .ref yD])), (yR, .inl (cL, 816, .inr (.inl (fun x9 => lN (f x9))))), (yV, .inl (cL, 16, .inr (.inl (fun x9 => lN (v x9))))), (yI, .inl (cL, 16, .inr (.inl (fun x9 => lN (inp x9))))), (yX, .inl (cL, 16, .inr (.inl (fun x9 => lN (mx x9))))), (yP, .inl (cL, 3, .inr (.inl (fun x9 => lN (el x9))))), (yQ, .inl (cL, 32, .inr (.inl (fun x9 => lN (qt x9))))), (yS, .inl (cL, 48, .inr (.inl (fun x9 => lN (su x9))))), (yD, .inl (cL, 32, .inr (.inl (fun x9 => lN (pr x9)))))]) := hD
    refine lv_aload_n F.1 F.2.1 dT_setup_116 rfl (lv_at hl 2 rfl) ?_
    refine z_get F hK hP hinT 0 rfl rfl 0 (by decide) rfl wf_T_34 rfl dT_setup_117 ?_
    refine z_if_le F (by omega) (tgt := 125) dT_setup_120 rfl (fun h => absurd h (by decide)) (fun h => ?_)
    refine z_iconst (v := 0) F (by decide) dT_setup_123 ?_
    exact W.iret F.1 F.2.1 hr (fun t ht hW => ⟨rfl, by rw [ht]; exact hP, va_K.moved hW.alike hK, hD, hS.F ht⟩) hS.2.2 dT_setup_124
  · obtain ⟨x1, hx1, rfl⟩ := bl_of h1 (by decide)
    have hl : lv_has ls 14 [(0, .ref y0), (1, .int (nI x1)), (2, .int x2), (3, .int x3), (4, .int x4), (5, .int x5)] := hl
    clear h1
    refine lv_iload_n F.1 F.2.1 dT_setup_7 rfl (lv_at hl 2 rfl) ?_
    refine z_call (z_runS [.int x2] [] F (ct_isNumber l x2) kk_T_isNumber wl_T_49 rfl rfl ⟨Nat.le_of_ble_eq_true rfl, Nat.le_of_ble_eq_true rfl⟩ z_preN rfl hl.1 rfl (Nat.le_of_ble_eq_true rfl) dT_setup_8 ⟨Nat.zero_le _, Nat.zero_le _⟩) ?_
    refine z_ifb_eq F (tgt := 63) dT_setup_11 rfl (fun h1 => ?_) (fun h1 => ?_)
    · refine z_iconst (v := 0) F (by decide) dT_setup_63 ?_
      refine lv_istore F.1 F.2.1 (lv' := [(6, .int (nI 0)), (0, .ref y0), (1, .int (nI x1)), (2, .int x2), (3, .int x3), (4, .int x4), (5, .int x5)]) dT_setup_64 hl (by decide) rfl (fun ls hl => ?_)
      refine lv_iload F.1 F.2.1 dT_setup_66 (lv_at hl 0 rfl) ?_
      refine z_if_eq F (by omega) (tgt := 88) dT_setup_68 rfl (fun h => ?_) (fun h => absurd h (by decide))
      refine z_lconst (v := 0) F (by decide) dT_setup_88 ?_
      refine lv_lstore F.1 F.2.1 (lv' := [(7, .long (lN 0)), (6, .int (nI 0)), (0, .ref y0), (1, .int (nI x1)), (2, .int x2), (3, .int x3), (4, .int x4), (5, .int x5)]) dT_setup_89 hl (by decide) rfl (fun ls hl => ?_)
      refine lv_aload_n F.1 F.2.1 dT_setup_91 rfl (lv_at hl 2 rfl) ?_
      refine lv_iload F.1 F.2.1 dT_setup_92 (lv_at hl 1 rfl) ?_
      refine z_if_ne F (by omega) (tgt := 101) dT_setup_94 rfl (fun h => absurd h (by decide)) (fun h => ?_)
      refine z_iconst (v := 1) F (by decide) dT_setup_97 ?_
      refine lv_goto F.1 F.2.1 (tgt := 113) dT_setup_98 rfl ?_
      refine z_put F hK hP hD hS hinT tyT tyT_ok nmT 0 rfl rfl 0 (by decide) rfl rfl wf_T_34 (rfl) (rfl) (Nat.le_of_ble_eq_true rfl) dT_setup_113 (fun H locs hP hD hS => ?_)
      have hP : va_P (dC, dI) vwCl ([(y0, .inr (5, [.int (nI 1), .ref yR, .int (nI cn), .int (nI pb), .ref yV, .ref yI, .int (z_b md), .long (lN ta), .long (lN al), .long (lN be), .long (lN ga), .long (lN de), .long (lN va), .ref yX, .int (z_b pd), .ref yP, .ref yQ, .ref yS, .ref yD])), (yR, .inl (cL, 816, .inr (.inl (fun x9 => lN (f x9))))), (yV, .inl (cL, 16, .inr (.inl (fun x9 => lN (v x9))))), (yI, .inl (cL, 16, .inr (.inl (fun x9 => lN (inp x9))))), (yX, .inl (cL, 16, .inr (.inl (fun x9 => lN (mx x9))))), (yP, .inl (cL, 3, .inr (.inl (fun x9 => lN (el x9))))), (yQ, .inl (cL, 32, .inr (.inl (fun x9 => lN (qt x9))))), (yS, .inl (cL, 48, .inr (.inl (fun x9 => lN (su x9))))), (yD, .inl (cL, 32, .inr (.inl (fun x9 => lN (pr x9)))))]) H := hP
      have hD : va_D A ([(y0, .inr (5, [.int (nI 1), .ref yR, .int (nI cn), .int (nI pb), .ref yV, .ref yI, .int (z_b md), .long (lN ta), .long (lN al), .long (lN be), .long (lN ga), .long (lN de), .long (lN va), .ref yX, .int (z_b pd), .ref yP, .ref yQ, .ref yS, .ref yD])), (yR, .inl (cL, 816, .inr (.inl (fun x9 => lN (f x9))))), (yV, .inl (cL, 16, .inr (.inl (fun x9 => lN (v x9))))), (yI, .inl (cL, 16, .inr (.inl (fun x9 => lN (inp x9))))), (yX, .inl (cL, 16, .inr (.inl (fun x9 => lN (mx x9))))), (yP, .inl (cL, 3, .inr (.inl (fun x9 => lN (el x9))))), (yQ, .inl (cL, 32, .inr (.inl (fun x9 => lN (qt x9))))), (yS, .inl (cL, 48, .inr (.inl (fun x9 => lN (su x9))))), (yD, .inl (cL, 32, .inr (.inl (fun x9 => lN (pr x9)))))]) := hD
      refine lv_aload_n F.1 F.2.1 dT_setup_116 rfl (lv_at hl 2 rfl) ?_
      refine z_get F hK hP hinT 0 rfl rfl 0 (by decide) rfl wf_T_34 rfl dT_setup_117 ?_
      refine z_if_le F (by omega) (tgt := 125) dT_setup_120 rfl (fun h => absurd h (by decide)) (fun h => ?_)
      refine z_iconst (v := 0) F (by decide) dT_setup_123 ?_
      exact W.iret F.1 F.2.1 hr (fun t ht hW => ⟨rfl, by rw [ht]; exact hP, va_K.moved hW.alike hK, hD, hS.F ht⟩) hS.2.2 dT_setup_124
    · obtain ⟨x2, hx2, rfl⟩ := bl_of h1 (by decide)
      have hl : lv_has ls 14 [(0, .ref y0), (1, .int (nI x1)), (2, .int (nI x2)), (3, .int x3), (4, .int x4), (5, .int x5)] := hl
      clear h1
      refine lv_iload_n F.1 F.2.1 dT_setup_14 rfl (lv_at hl 3 rfl) ?_
      refine z_call (z_runS [.int x3] [] F (ct_isNumber l x3) kk_T_isNumber wl_T_49 rfl rfl ⟨Nat.le_of_ble_eq_true rfl, Nat.le_of_ble_eq_true rfl⟩ z_preN rfl hl.1 rfl (Nat.le_of_ble_eq_true rfl) dT_setup_15 ⟨Nat.zero_le _, Nat.zero_le _⟩) ?_
      refine z_ifb_eq F (tgt := 63) dT_setup_18 rfl (fun h1 => ?_) (fun h1 => ?_)
      · refine z_iconst (v := 0) F (by decide) dT_setup_63 ?_
        refine lv_istore F.1 F.2.1 (lv' := [(6, .int (nI 0)), (0, .ref y0), (1, .int (nI x1)), (2, .int (nI x2)), (3, .int x3), (4, .int x4), (5, .int x5)]) dT_setup_64 hl (by decide) rfl (fun ls hl => ?_)
        refine lv_iload F.1 F.2.1 dT_setup_66 (lv_at hl 0 rfl) ?_
        refine z_if_eq F (by omega) (tgt := 88) dT_setup_68 rfl (fun h => ?_) (fun h => absurd h (by decide))
        refine z_lconst (v := 0) F (by decide) dT_setup_88 ?_
        refine lv_lstore F.1 F.2.1 (lv' := [(7, .long (lN 0)), (6, .int (nI 0)), (0, .ref y0), (1, .int (nI x1)), (2, .int (nI x2)), (3, .int x3), (4, .int x4), (5, .int x5)]) dT_setup_89 hl (by decide) rfl (fun ls hl => ?_)
        refine lv_aload_n F.1 F.2.1 dT_setup_91 rfl (lv_at hl 2 rfl) ?_
        refine lv_iload F.1 F.2.1 dT_setup_92 (lv_at hl 1 rfl) ?_
        refine z_if_ne F (by omega) (tgt := 101) dT_setup_94 rfl (fun h => absurd h (by decide)) (fun h => ?_)
        refine z_iconst (v := 1) F (by decide) dT_setup_97 ?_
        refine lv_goto F.1 F.2.1 (tgt := 113) dT_setup_98 rfl ?_
        refine z_put F hK hP hD hS hinT tyT tyT_ok nmT 0 rfl rfl 0 (by decide) rfl rfl wf_T_34 (rfl) (rfl) (Nat.le_of_ble_eq_true rfl) dT_setup_113 (fun H locs hP hD hS => ?_)
        have hP : va_P (dC, dI) vwCl ([(y0, .inr (5, [.int (nI 1), .ref yR, .int (nI cn), .int (nI pb), .ref yV, .ref yI, .int (z_b md), .long (lN ta), .long (lN al), .long (lN be), .long (lN ga), .long (lN de), .long (lN va), .ref yX, .int (z_b pd), .ref yP, .ref yQ, .ref yS, .ref yD])), (yR, .inl (cL, 816, .inr (.inl (fun x9 => lN (f x9))))), (yV, .inl (cL, 16, .inr (.inl (fun x9 => lN (v x9))))), (yI, .inl (cL, 16, .inr (.inl (fun x9 => lN (inp x9))))), (yX, .inl (cL, 16, .inr (.inl (fun x9 => lN (mx x9))))), (yP, .inl (cL, 3, .inr (.inl (fun x9 => lN (el x9))))), (yQ, .inl (cL, 32, .inr (.inl (fun x9 => lN (qt x9))))), (yS, .inl (cL, 48, .inr (.inl (fun x9 => lN (su x9))))), (yD, .inl (cL, 32, .inr (.inl (fun x9 => lN (pr x9)))))]) H := hP
        have hD : va_D A ([(y0, .inr (5, [.int (nI 1), .ref yR, .int (nI cn), .int (nI pb), .ref yV, .ref yI, .int (z_b md), .long (lN ta), .long (lN al), .long (lN be), .long (lN ga), .long (lN de), .long (lN va), .ref yX, .int (z_b pd), .ref yP, .ref yQ, .ref yS, .ref yD])), (yR, .inl (cL, 816, .inr (.inl (fun x9 => lN (f x9))))), (yV, .inl (cL, 16, .inr (.inl (fun x9 => lN (v x9))))), (yI, .inl (cL, 16, .inr (.inl (fun x9 => lN (inp x9))))), (yX, .inl (cL, 16, .inr (.inl (fun x9 => lN (mx x9))))), (yP, .inl (cL, 3, .inr (.inl (fun x9 => lN (el x9))))), (yQ, .inl (cL, 32, .inr (.inl (fun x9 => lN (qt x9))))), (yS, .inl (cL, 48, .inr (.inl (fun x9 => lN (su x9))))), (yD, .inl (cL, 32, .inr (.inl (fun x9 => lN (pr x9)))))]) := hD
        refine lv_aload_n F.1 F.2.1 dT_setup_116 rfl (lv_at hl 2 rfl) ?_
        refine z_get F hK hP hinT 0 rfl rfl 0 (by decide) rfl wf_T_34 rfl dT_setup_117 ?_
        refine z_if_le F (by omega) (tgt := 125) dT_setup_120 rfl (fun h => absurd h (by decide)) (fun h => ?_)
        refine z_iconst (v := 0) F (by decide) dT_setup_123 ?_
        exact W.iret F.1 F.2.1 hr (fun t ht hW => ⟨rfl, by rw [ht]; exact hP, va_K.moved hW.alike hK, hD, hS.F ht⟩) hS.2.2 dT_setup_124
      · obtain ⟨x3, hx3, rfl⟩ := bl_of h1 (by decide)
        have hl : lv_has ls 14 [(0, .ref y0), (1, .int (nI x1)), (2, .int (nI x2)), (3, .int (nI x3)), (4, .int x4), (5, .int x5)] := hl
        clear h1
        refine lv_iload F.1 F.2.1 dT_setup_21 (lv_at hl 4 rfl) ?_
        refine z_call (z_runS [.int x4] [] F (ct_isNumber l x4) kk_T_isNumber wl_T_49 rfl rfl ⟨Nat.le_of_ble_eq_true rfl, Nat.le_of_ble_eq_true rfl⟩ z_preN rfl hl.1 rfl (Nat.le_of_ble_eq_true rfl) dT_setup_23 ⟨Nat.zero_le _, Nat.zero_le _⟩) ?_
        refine z_ifb_eq F (tgt := 63) dT_setup_26 rfl (fun h1 => ?_) (fun h1 => ?_)
        · refine z_iconst (v := 0) F (by decide) dT_setup_63 ?_
          refine lv_istore F.1 F.2.1 (lv' := [(6, .int (nI 0)), (0, .ref y0), (1, .int (nI x1)), (2, .int (nI x2)), (3, .int (nI x3)), (4, .int x4), (5, .int x5)]) dT_setup_64 hl (by decide) rfl (fun ls hl => ?_)
          refine lv_iload F.1 F.2.1 dT_setup_66 (lv_at hl 0 rfl) ?_
          refine z_if_eq F (by omega) (tgt := 88) dT_setup_68 rfl (fun h => ?_) (fun h => absurd h (by decide))
          refine z_lconst (v := 0) F (by decide) dT_setup_88 ?_
          refine lv_lstore F.1 F.2.1 (lv' := [(7, .long (lN 0)), (6, .int (nI 0)), (0, .ref y0), (1, .int (nI x1)), (2, .int (nI x2)), (3, .int (nI x3)), (4, .int x4), (5, .int x5)]) dT_setup_89 hl (by decide) rfl (fun ls hl => ?_)
          refine lv_aload_n F.1 F.2.1 dT_setup_91 rfl (lv_at hl 2 rfl) ?_
          refine lv_iload F.1 F.2.1 dT_setup_92 (lv_at hl 1 rfl) ?_
          refine z_if_ne F (by omega) (tgt := 101) dT_setup_94 rfl (fun h => absurd h (by decide)) (fun h => ?_)
          refine z_iconst (v := 1) F (by decide) dT_setup_97 ?_
          refine lv_goto F.1 F.2.1 (tgt := 113) dT_setup_98 rfl ?_
          refine z_put F hK hP hD hS hinT tyT tyT_ok nmT 0 rfl rfl 0 (by decide) rfl rfl wf_T_34 (rfl) (rfl) (Nat.le_of_ble_eq_true rfl) dT_setup_113 (fun H locs hP hD hS => ?_)
          have hP : va_P (dC, dI) vwCl ([(y0, .inr (5, [.int (nI 1), .ref yR, .int (nI cn), .int (nI pb), .ref yV, .ref yI, .int (z_b md), .long (lN ta), .long (lN al), .long (lN be), .long (lN ga), .long (lN de), .long (lN va), .ref yX, .int (z_b pd), .ref yP, .ref yQ, .ref yS, .ref yD])), (yR, .inl (cL, 816, .inr (.inl (fun x9 => lN (f x9))))), (yV, .inl (cL, 16, .inr (.inl (fun x9 => lN (v x9))))), (yI, .inl (cL, 16, .inr (.inl (fun x9 => lN (inp x9))))), (yX, .inl (cL, 16, .inr (.inl (fun x9 => lN (mx x9))))), (yP, .inl (cL, 3, .inr (.inl (fun x9 => lN (el x9))))), (yQ, .inl (cL, 32, .inr (.inl (fun x9 => lN (qt x9))))), (yS, .inl (cL, 48, .inr (.inl (fun x9 => lN (su x9))))), (yD, .inl (cL, 32, .inr (.inl (fun x9 => lN (pr x9)))))]) H := hP
          have hD : va_D A ([(y0, .inr (5, [.int (nI 1), .ref yR, .int (nI cn), .int (nI pb), .ref yV, .ref yI, .int (z_b md), .long (lN ta), .long (lN al), .long (lN be), .long (lN ga), .long (lN de), .long (lN va), .ref yX, .int (z_b pd), .ref yP, .ref yQ, .ref yS, .ref yD])), (yR, .inl (cL, 816, .inr (.inl (fun x9 => lN (f x9))))), (yV, .inl (cL, 16, .inr (.inl (fun x9 => lN (v x9))))), (yI, .inl (cL, 16, .inr (.inl (fun x9 => lN (inp x9))))), (yX, .inl (cL, 16, .inr (.inl (fun x9 => lN (mx x9))))), (yP, .inl (cL, 3, .inr (.inl (fun x9 => lN (el x9))))), (yQ, .inl (cL, 32, .inr (.inl (fun x9 => lN (qt x9))))), (yS, .inl (cL, 48, .inr (.inl (fun x9 => lN (su x9))))), (yD, .inl (cL, 32, .inr (.inl (fun x9 => lN (pr x9)))))]) := hD
          refine lv_aload_n F.1 F.2.1 dT_setup_116 rfl (lv_at hl 2 rfl) ?_
          refine z_get F hK hP hinT 0 rfl rfl 0 (by decide) rfl wf_T_34 rfl dT_setup_117 ?_
          refine z_if_le F (by omega) (tgt := 125) dT_setup_120 rfl (fun h => absurd h (by decide)) (fun h => ?_)
          refine z_iconst (v := 0) F (by decide) dT_setup_123 ?_
          exact W.iret F.1 F.2.1 hr (fun t ht hW => ⟨rfl, by rw [ht]; exact hP, va_K.moved hW.alike hK, hD, hS.F ht⟩) hS.2.2 dT_setup_124
        · obtain ⟨x4, hx4, rfl⟩ := bl_of h1 (by decide)
          have hl : lv_has ls 14 [(0, .ref y0), (1, .int (nI x1)), (2, .int (nI x2)), (3, .int (nI x3)), (4, .int (nI x4)), (5, .int x5)] := hl
          clear h1
          refine lv_iload F.1 F.2.1 dT_setup_29 (lv_at hl 5 rfl) ?_
          refine z_call (z_runS [.int x5] [] F (ct_isNumber l x5) kk_T_isNumber wl_T_49 rfl rfl ⟨Nat.le_of_ble_eq_true rfl, Nat.le_of_ble_eq_true rfl⟩ z_preN rfl hl.1 rfl (Nat.le_of_ble_eq_true rfl) dT_setup_31 ⟨Nat.zero_le _, Nat.zero_le _⟩) ?_
          refine z_ifb_eq F (tgt := 63) dT_setup_34 rfl (fun h1 => ?_) (fun h1 => ?_)
          · refine z_iconst (v := 0) F (by decide) dT_setup_63 ?_
            refine lv_istore F.1 F.2.1 (lv' := [(6, .int (nI 0)), (0, .ref y0), (1, .int (nI x1)), (2, .int (nI x2)), (3, .int (nI x3)), (4, .int (nI x4)), (5, .int x5)]) dT_setup_64 hl (by decide) rfl (fun ls hl => ?_)
            refine lv_iload F.1 F.2.1 dT_setup_66 (lv_at hl 0 rfl) ?_
            refine z_if_eq F (by omega) (tgt := 88) dT_setup_68 rfl (fun h => ?_) (fun h => absurd h (by decide))
            refine z_lconst (v := 0) F (by decide) dT_setup_88 ?_
            refine lv_lstore F.1 F.2.1 (lv' := [(7, .long (lN 0)), (6, .int (nI 0)), (0, .ref y0), (1, .int (nI x1)), (2, .int (nI x2)), (3, .int (nI x3)), (4, .int (nI x4)), (5, .int x5)]) dT_setup_89 hl (by decide) rfl (fun ls hl => ?_)
            refine lv_aload_n F.1 F.2.1 dT_setup_91 rfl (lv_at hl 2 rfl) ?_
            refine lv_iload F.1 F.2.1 dT_setup_92 (lv_at hl 1 rfl) ?_
            refine z_if_ne F (by omega) (tgt := 101) dT_setup_94 rfl (fun h => absurd h (by decide)) (fun h => ?_)
            refine z_iconst (v := 1) F (by decide) dT_setup_97 ?_
            refine lv_goto F.1 F.2.1 (tgt := 113) dT_setup_98 rfl ?_
            refine z_put F hK hP hD hS hinT tyT tyT_ok nmT 0 rfl rfl 0 (by decide) rfl rfl wf_T_34 (rfl) (rfl) (Nat.le_of_ble_eq_true rfl) dT_setup_113 (fun H locs hP hD hS => ?_)
            have hP : va_P (dC, dI) vwCl ([(y0, .inr (5, [.int (nI 1), .ref yR, .int (nI cn), .int (nI pb), .ref yV, .ref yI, .int (z_b md), .long (lN ta), .long (lN al), .long (lN be), .long (lN ga), .long (lN de), .long (lN va), .ref yX, .int (z_b pd), .ref yP, .ref yQ, .ref yS, .ref yD])), (yR, .inl (cL, 816, .inr (.inl (fun x9 => lN (f x9))))), (yV, .inl (cL, 16, .inr (.inl (fun x9 => lN (v x9))))), (yI, .inl (cL, 16, .inr (.inl (fun x9 => lN (inp x9))))), (yX, .inl (cL, 16, .inr (.inl (fun x9 => lN (mx x9))))), (yP, .inl (cL, 3, .inr (.inl (fun x9 => lN (el x9))))), (yQ, .inl (cL, 32, .inr (.inl (fun x9 => lN (qt x9))))), (yS, .inl (cL, 48, .inr (.inl (fun x9 => lN (su x9))))), (yD, .inl (cL, 32, .inr (.inl (fun x9 => lN (pr x9)))))]) H := hP
            have hD : va_D A ([(y0, .inr (5, [.int (nI 1), .ref yR, .int (nI cn), .int (nI pb), .ref yV, .ref yI, .int (z_b md), .long (lN ta), .long (lN al), .long (lN be), .long (lN ga), .long (lN de), .long (lN va), .ref yX, .int (z_b pd), .ref yP, .ref yQ, .ref yS, .ref yD])), (yR, .inl (cL, 816, .inr (.inl (fun x9 => lN (f x9))))), (yV, .inl (cL, 16, .inr (.inl (fun x9 => lN (v x9))))), (yI, .inl (cL, 16, .inr (.inl (fun x9 => lN (inp x9))))), (yX, .inl (cL, 16, .inr (.inl (fun x9 => lN (mx x9))))), (yP, .inl (cL, 3, .inr (.inl (fun x9 => lN (el x9))))), (yQ, .inl (cL, 32, .inr (.inl (fun x9 => lN (qt x9))))), (yS, .inl (cL, 48, .inr (.inl (fun x9 => lN (su x9))))), (yD, .inl (cL, 32, .inr (.inl (fun x9 => lN (pr x9)))))]) := hD
            refine lv_aload_n F.1 F.2.1 dT_setup_116 rfl (lv_at hl 2 rfl) ?_
            refine z_get F hK hP hinT 0 rfl rfl 0 (by decide) rfl wf_T_34 rfl dT_setup_117 ?_
            refine z_if_le F (by omega) (tgt := 125) dT_setup_120 rfl (fun h => absurd h (by decide)) (fun h => ?_)
            refine z_iconst (v := 0) F (by decide) dT_setup_123 ?_
            exact W.iret F.1 F.2.1 hr (fun t ht hW => ⟨rfl, by rw [ht]; exact hP, va_K.moved hW.alike hK, hD, hS.F ht⟩) hS.2.2 dT_setup_124
          · obtain ⟨x5, hx5, rfl⟩ := bl_of h1 (by decide)
            have hl : lv_has ls 14 [(0, .ref y0), (1, .int (nI x1)), (2, .int (nI x2)), (3, .int (nI x3)), (4, .int (nI x4)), (5, .int (nI x5))] := hl
            clear h1
            refine lv_iload_n F.1 F.2.1 dT_setup_37 rfl (lv_at hl 1 rfl) ?_
            refine z_if_le F (by omega) (tgt := 63) dT_setup_38 rfl (fun h1 => ?_) (fun hp1 => ?_)
            · refine z_iconst (v := 0) F (by decide) dT_setup_63 ?_
              refine lv_istore F.1 F.2.1 (lv' := [(6, .int (nI 0)), (0, .ref y0), (1, .int (nI x1)), (2, .int (nI x2)), (3, .int (nI x3)), (4, .int (nI x4)), (5, .int (nI x5))]) dT_setup_64 hl (by decide) rfl (fun ls hl => ?_)
              refine lv_iload F.1 F.2.1 dT_setup_66 (lv_at hl 0 rfl) ?_
              refine z_if_eq F (by omega) (tgt := 88) dT_setup_68 rfl (fun h => ?_) (fun h => absurd h (by decide))
              refine z_lconst (v := 0) F (by decide) dT_setup_88 ?_
              refine lv_lstore F.1 F.2.1 (lv' := [(7, .long (lN 0)), (6, .int (nI 0)), (0, .ref y0), (1, .int (nI x1)), (2, .int (nI x2)), (3, .int (nI x3)), (4, .int (nI x4)), (5, .int (nI x5))]) dT_setup_89 hl (by decide) rfl (fun ls hl => ?_)
              refine lv_aload_n F.1 F.2.1 dT_setup_91 rfl (lv_at hl 2 rfl) ?_
              refine lv_iload F.1 F.2.1 dT_setup_92 (lv_at hl 1 rfl) ?_
              refine z_if_ne F (by omega) (tgt := 101) dT_setup_94 rfl (fun h => absurd h (by decide)) (fun h => ?_)
              refine z_iconst (v := 1) F (by decide) dT_setup_97 ?_
              refine lv_goto F.1 F.2.1 (tgt := 113) dT_setup_98 rfl ?_
              refine z_put F hK hP hD hS hinT tyT tyT_ok nmT 0 rfl rfl 0 (by decide) rfl rfl wf_T_34 (rfl) (rfl) (Nat.le_of_ble_eq_true rfl) dT_setup_113 (fun H locs hP hD hS => ?_)
              have hP : va_P (dC, dI) vwCl ([(y0, .inr (5, [.int (nI 1), .ref yR, .int (nI cn), .int (nI pb), .ref yV, .ref yI, .int (z_b md), .long (lN ta), .long (lN al), .long (lN be), .long (lN ga), .long (lN de), .long (lN va), .ref yX, .int (z_b pd), .ref yP, .ref yQ, .ref yS, .ref yD])), (yR, .inl (cL, 816, .inr (.inl (fun x9 => lN (f x9))))), (yV, .inl (cL, 16, .inr (.inl (fun x9 => lN (v x9))))), (yI, .inl (cL, 16, .inr (.inl (fun x9 => lN (inp x9))))), (yX, .inl (cL, 16, .inr (.inl (fun x9 => lN (mx x9))))), (yP, .inl (cL, 3, .inr (.inl (fun x9 => lN (el x9))))), (yQ, .inl (cL, 32, .inr (.inl (fun x9 => lN (qt x9))))), (yS, .inl (cL, 48, .inr (.inl (fun x9 => lN (su x9))))), (yD, .inl (cL, 32, .inr (.inl (fun x9 => lN (pr x9)))))]) H := hP
              have hD : va_D A ([(y0, .inr (5, [.int (nI 1), .ref yR, .int (nI cn), .int (nI pb), .ref yV, .ref yI, .int (z_b md), .long (lN ta), .long (lN al), .long (lN be), .long (lN ga), .long (lN de), .long (lN va), .ref yX, .int (z_b pd), .ref yP, .ref yQ, .ref yS, .ref yD])), (yR, .inl (cL, 816, .inr (.inl (fun x9 => lN (f x9))))), (yV, .inl (cL, 16, .inr (.inl (fun x9 => lN (v x9))))), (yI, .inl (cL, 16, .inr (.inl (fun x9 => lN (inp x9))))), (yX, .inl (cL, 16, .inr (.inl (fun x9 => lN (mx x9))))), (yP, .inl (cL, 3, .inr (.inl (fun x9 => lN (el x9))))), (yQ, .inl (cL, 32, .inr (.inl (fun x9 => lN (qt x9))))), (yS, .inl (cL, 48, .inr (.inl (fun x9 => lN (su x9))))), (yD, .inl (cL, 32, .inr (.inl (fun x9 => lN (pr x9)))))]) := hD
              refine lv_aload_n F.1 F.2.1 dT_setup_116 rfl (lv_at hl 2 rfl) ?_
              refine z_get F hK hP hinT 0 rfl rfl 0 (by decide) rfl wf_T_34 rfl dT_setup_117 ?_
              refine z_if_le F (by omega) (tgt := 125) dT_setup_120 rfl (fun h => absurd h (by decide)) (fun h => ?_)
              refine z_iconst (v := 0) F (by decide) dT_setup_123 ?_
              exact W.iret F.1 F.2.1 hr (fun t ht hW => ⟨rfl, by rw [ht]; exact hP, va_K.moved hW.alike hK, hD, hS.F ht⟩) hS.2.2 dT_setup_124
            · refine lv_iload_n F.1 F.2.1 dT_setup_41 rfl (lv_at hl 2 rfl) ?_
              refine z_if_le F (by omega) (tgt := 63) dT_setup_42 rfl (fun h1 => ?_) (fun hp2 => ?_)
              · refine z_iconst (v := 0) F (by decide) dT_setup_63 ?_
                refine lv_istore F.1 F.2.1 (lv' := [(6, .int (nI 0)), (0, .ref y0), (1, .int (nI x1)), (2, .int (nI x2)), (3, .int (nI x3)), (4, .int (nI x4)), (5, .int (nI x5))]) dT_setup_64 hl (by decide) rfl (fun ls hl => ?_)
                refine lv_iload F.1 F.2.1 dT_setup_66 (lv_at hl 0 rfl) ?_
                refine z_if_eq F (by omega) (tgt := 88) dT_setup_68 rfl (fun h => ?_) (fun h => absurd h (by decide))
                refine z_lconst (v := 0) F (by decide) dT_setup_88 ?_
                refine lv_lstore F.1 F.2.1 (lv' := [(7, .long (lN 0)), (6, .int (nI 0)), (0, .ref y0), (1, .int (nI x1)), (2, .int (nI x2)), (3, .int (nI x3)), (4, .int (nI x4)), (5, .int (nI x5))]) dT_setup_89 hl (by decide) rfl (fun ls hl => ?_)
                refine lv_aload_n F.1 F.2.1 dT_setup_91 rfl (lv_at hl 2 rfl) ?_
                refine lv_iload F.1 F.2.1 dT_setup_92 (lv_at hl 1 rfl) ?_
                refine z_if_ne F (by omega) (tgt := 101) dT_setup_94 rfl (fun h => absurd h (by decide)) (fun h => ?_)
                refine z_iconst (v := 1) F (by decide) dT_setup_97 ?_
                refine lv_goto F.1 F.2.1 (tgt := 113) dT_setup_98 rfl ?_
                refine z_put F hK hP hD hS hinT tyT tyT_ok nmT 0 rfl rfl 0 (by decide) rfl rfl wf_T_34 (rfl) (rfl) (Nat.le_of_ble_eq_true rfl) dT_setup_113 (fun H locs hP hD hS => ?_)
                have hP : va_P (dC, dI) vwCl ([(y0, .inr (5, [.int (nI 1), .ref yR, .int (nI cn), .int (nI pb), .ref yV, .ref yI, .int (z_b md), .long (lN ta), .long (lN al), .long (lN be), .long (lN ga), .long (lN de), .long (lN va), .ref yX, .int (z_b pd), .ref yP, .ref yQ, .ref yS, .ref yD])), (yR, .inl (cL, 816, .inr (.inl (fun x9 => lN (f x9))))), (yV, .inl (cL, 16, .inr (.inl (fun x9 => lN (v x9))))), (yI, .inl (cL, 16, .inr (.inl (fun x9 => lN (inp x9))))), (yX, .inl (cL, 16, .inr (.inl (fun x9 => lN (mx x9))))), (yP, .inl (cL, 3, .inr (.inl (fun x9 => lN (el x9))))), (yQ, .inl (cL, 32, .inr (.inl (fun x9 => lN (qt x9))))), (yS, .inl (cL, 48, .inr (.inl (fun x9 => lN (su x9))))), (yD, .inl (cL, 32, .inr (.inl (fun x9 => lN (pr x9)))))]) H := hP
                have hD : va_D A ([(y0, .inr (5, [.int (nI 1), .ref yR, .int (nI cn), .int (nI pb), .ref yV, .ref yI, .int (z_b md), .long (lN ta), .long (lN al), .long (lN be), .long (lN ga), .long (lN de), .long (lN va), .ref yX, .int (z_b pd), .ref yP, .ref yQ, .ref yS, .ref yD])), (yR, .inl (cL, 816, .inr (.inl (fun x9 => lN (f x9))))), (yV, .inl (cL, 16, .inr (.inl (fun x9 => lN (v x9))))), (yI, .inl (cL, 16, .inr (.inl (fun x9 => lN (inp x9))))), (yX, .inl (cL, 16, .inr (.inl (fun x9 => lN (mx x9))))), (yP, .inl (cL, 3, .inr (.inl (fun x9 => lN (el x9))))), (yQ, .inl (cL, 32, .inr (.inl (fun x9 => lN (qt x9))))), (yS, .inl (cL, 48, .inr (.inl (fun x9 => lN (su x9))))), (yD, .inl (cL, 32, .inr (.inl (fun x9 => lN (pr x9)))))]) := hD
                refine lv_aload_n F.1 F.2.1 dT_setup_116 rfl (lv_at hl 2 rfl) ?_
                refine z_get F hK hP hinT 0 rfl rfl 0 (by decide) rfl wf_T_34 rfl dT_setup_117 ?_
                refine z_if_le F (by omega) (tgt := 125) dT_setup_120 rfl (fun h => absurd h (by decide)) (fun h => ?_)
                refine z_iconst (v := 0) F (by decide) dT_setup_123 ?_
                exact W.iret F.1 F.2.1 hr (fun t ht hW => ⟨rfl, by rw [ht]; exact hP, va_K.moved hW.alike hK, hD, hS.F ht⟩) hS.2.2 dT_setup_124
              · refine lv_iload_n F.1 F.2.1 dT_setup_45 rfl (lv_at hl 3 rfl) ?_
                refine z_if_le F (by omega) (tgt := 63) dT_setup_46 rfl (fun h1 => ?_) (fun hp3 => ?_)
                · refine z_iconst (v := 0) F (by decide) dT_setup_63 ?_
                  refine lv_istore F.1 F.2.1 (lv' := [(6, .int (nI 0)), (0, .ref y0), (1, .int (nI x1)), (2, .int (nI x2)), (3, .int (nI x3)), (4, .int (nI x4)), (5, .int (nI x5))]) dT_setup_64 hl (by decide) rfl (fun ls hl => ?_)
                  refine lv_iload F.1 F.2.1 dT_setup_66 (lv_at hl 0 rfl) ?_
                  refine z_if_eq F (by omega) (tgt := 88) dT_setup_68 rfl (fun h => ?_) (fun h => absurd h (by decide))
                  refine z_lconst (v := 0) F (by decide) dT_setup_88 ?_
                  refine lv_lstore F.1 F.2.1 (lv' := [(7, .long (lN 0)), (6, .int (nI 0)), (0, .ref y0), (1, .int (nI x1)), (2, .int (nI x2)), (3, .int (nI x3)), (4, .int (nI x4)), (5, .int (nI x5))]) dT_setup_89 hl (by decide) rfl (fun ls hl => ?_)
                  refine lv_aload_n F.1 F.2.1 dT_setup_91 rfl (lv_at hl 2 rfl) ?_
                  refine lv_iload F.1 F.2.1 dT_setup_92 (lv_at hl 1 rfl) ?_
                  refine z_if_ne F (by omega) (tgt := 101) dT_setup_94 rfl (fun h => absurd h (by decide)) (fun h => ?_)
                  refine z_iconst (v := 1) F (by decide) dT_setup_97 ?_
                  refine lv_goto F.1 F.2.1 (tgt := 113) dT_setup_98 rfl ?_
                  refine z_put F hK hP hD hS hinT tyT tyT_ok nmT 0 rfl rfl 0 (by decide) rfl rfl wf_T_34 (rfl) (rfl) (Nat.le_of_ble_eq_true rfl) dT_setup_113 (fun H locs hP hD hS => ?_)
                  have hP : va_P (dC, dI) vwCl ([(y0, .inr (5, [.int (nI 1), .ref yR, .int (nI cn), .int (nI pb), .ref yV, .ref yI, .int (z_b md), .long (lN ta), .long (lN al), .long (lN be), .long (lN ga), .long (lN de), .long (lN va), .ref yX, .int (z_b pd), .ref yP, .ref yQ, .ref yS, .ref yD])), (yR, .inl (cL, 816, .inr (.inl (fun x9 => lN (f x9))))), (yV, .inl (cL, 16, .inr (.inl (fun x9 => lN (v x9))))), (yI, .inl (cL, 16, .inr (.inl (fun x9 => lN (inp x9))))), (yX, .inl (cL, 16, .inr (.inl (fun x9 => lN (mx x9))))), (yP, .inl (cL, 3, .inr (.inl (fun x9 => lN (el x9))))), (yQ, .inl (cL, 32, .inr (.inl (fun x9 => lN (qt x9))))), (yS, .inl (cL, 48, .inr (.inl (fun x9 => lN (su x9))))), (yD, .inl (cL, 32, .inr (.inl (fun x9 => lN (pr x9)))))]) H := hP
                  have hD : va_D A ([(y0, .inr (5, [.int (nI 1), .ref yR, .int (nI cn), .int (nI pb), .ref yV, .ref yI, .int (z_b md), .long (lN ta), .long (lN al), .long (lN be), .long (lN ga), .long (lN de), .long (lN va), .ref yX, .int (z_b pd), .ref yP, .ref yQ, .ref yS, .ref yD])), (yR, .inl (cL, 816, .inr (.inl (fun x9 => lN (f x9))))), (yV, .inl (cL, 16, .inr (.inl (fun x9 => lN (v x9))))), (yI, .inl (cL, 16, .inr (.inl (fun x9 => lN (inp x9))))), (yX, .inl (cL, 16, .inr (.inl (fun x9 => lN (mx x9))))), (yP, .inl (cL, 3, .inr (.inl (fun x9 => lN (el x9))))), (yQ, .inl (cL, 32, .inr (.inl (fun x9 => lN (qt x9))))), (yS, .inl (cL, 48, .inr (.inl (fun x9 => lN (su x9))))), (yD, .inl (cL, 32, .inr (.inl (fun x9 => lN (pr x9)))))]) := hD
                  refine lv_aload_n F.1 F.2.1 dT_setup_116 rfl (lv_at hl 2 rfl) ?_
                  refine z_get F hK hP hinT 0 rfl rfl 0 (by decide) rfl wf_T_34 rfl dT_setup_117 ?_
                  refine z_if_le F (by omega) (tgt := 125) dT_setup_120 rfl (fun h => absurd h (by decide)) (fun h => ?_)
                  refine z_iconst (v := 0) F (by decide) dT_setup_123 ?_
                  exact W.iret F.1 F.2.1 hr (fun t ht hW => ⟨rfl, by rw [ht]; exact hP, va_K.moved hW.alike hK, hD, hS.F ht⟩) hS.2.2 dT_setup_124
                · refine lv_iload F.1 F.2.1 dT_setup_49 (lv_at hl 4 rfl) ?_
                  refine z_if_le F (by omega) (tgt := 63) dT_setup_51 rfl (fun h1 => ?_) (fun hp4 => ?_)
                  · refine z_iconst (v := 0) F (by decide) dT_setup_63 ?_
                    refine lv_istore F.1 F.2.1 (lv' := [(6, .int (nI 0)), (0, .ref y0), (1, .int (nI x1)), (2, .int (nI x2)), (3, .int (nI x3)), (4, .int (nI x4)), (5, .int (nI x5))]) dT_setup_64 hl (by decide) rfl (fun ls hl => ?_)
                    refine lv_iload F.1 F.2.1 dT_setup_66 (lv_at hl 0 rfl) ?_
                    refine z_if_eq F (by omega) (tgt := 88) dT_setup_68 rfl (fun h => ?_) (fun h => absurd h (by decide))
                    refine z_lconst (v := 0) F (by decide) dT_setup_88 ?_
                    refine lv_lstore F.1 F.2.1 (lv' := [(7, .long (lN 0)), (6, .int (nI 0)), (0, .ref y0), (1, .int (nI x1)), (2, .int (nI x2)), (3, .int (nI x3)), (4, .int (nI x4)), (5, .int (nI x5))]) dT_setup_89 hl (by decide) rfl (fun ls hl => ?_)
                    refine lv_aload_n F.1 F.2.1 dT_setup_91 rfl (lv_at hl 2 rfl) ?_
                    refine lv_iload F.1 F.2.1 dT_setup_92 (lv_at hl 1 rfl) ?_
                    refine z_if_ne F (by omega) (tgt := 101) dT_setup_94 rfl (fun h => absurd h (by decide)) (fun h => ?_)
                    refine z_iconst (v := 1) F (by decide) dT_setup_97 ?_
                    refine lv_goto F.1 F.2.1 (tgt := 113) dT_setup_98 rfl ?_
                    refine z_put F hK hP hD hS hinT tyT tyT_ok nmT 0 rfl rfl 0 (by decide) rfl rfl wf_T_34 (rfl) (rfl) (Nat.le_of_ble_eq_true rfl) dT_setup_113 (fun H locs hP hD hS => ?_)
                    have hP : va_P (dC, dI) vwCl ([(y0, .inr (5, [.int (nI 1), .ref yR, .int (nI cn), .int (nI pb), .ref yV, .ref yI, .int (z_b md), .long (lN ta), .long (lN al), .long (lN be), .long (lN ga), .long (lN de), .long (lN va), .ref yX, .int (z_b pd), .ref yP, .ref yQ, .ref yS, .ref yD])), (yR, .inl (cL, 816, .inr (.inl (fun x9 => lN (f x9))))), (yV, .inl (cL, 16, .inr (.inl (fun x9 => lN (v x9))))), (yI, .inl (cL, 16, .inr (.inl (fun x9 => lN (inp x9))))), (yX, .inl (cL, 16, .inr (.inl (fun x9 => lN (mx x9))))), (yP, .inl (cL, 3, .inr (.inl (fun x9 => lN (el x9))))), (yQ, .inl (cL, 32, .inr (.inl (fun x9 => lN (qt x9))))), (yS, .inl (cL, 48, .inr (.inl (fun x9 => lN (su x9))))), (yD, .inl (cL, 32, .inr (.inl (fun x9 => lN (pr x9)))))]) H := hP
                    have hD : va_D A ([(y0, .inr (5, [.int (nI 1), .ref yR, .int (nI cn), .int (nI pb), .ref yV, .ref yI, .int (z_b md), .long (lN ta), .long (lN al), .long (lN be), .long (lN ga), .long (lN de), .long (lN va), .ref yX, .int (z_b pd), .ref yP, .ref yQ, .ref yS, .ref yD])), (yR, .inl (cL, 816, .inr (.inl (fun x9 => lN (f x9))))), (yV, .inl (cL, 16, .inr (.inl (fun x9 => lN (v x9))))), (yI, .inl (cL, 16, .inr (.inl (fun x9 => lN (inp x9))))), (yX, .inl (cL, 16, .inr (.inl (fun x9 => lN (mx x9))))), (yP, .inl (cL, 3, .inr (.inl (fun x9 => lN (el x9))))), (yQ, .inl (cL, 32, .inr (.inl (fun x9 => lN (qt x9))))), (yS, .inl (cL, 48, .inr (.inl (fun x9 => lN (su x9))))), (yD, .inl (cL, 32, .inr (.inl (fun x9 => lN (pr x9)))))]) := hD
                    refine lv_aload_n F.1 F.2.1 dT_setup_116 rfl (lv_at hl 2 rfl) ?_
                    refine z_get F hK hP hinT 0 rfl rfl 0 (by decide) rfl wf_T_34 rfl dT_setup_117 ?_
                    refine z_if_le F (by omega) (tgt := 125) dT_setup_120 rfl (fun h => absurd h (by decide)) (fun h => ?_)
                    refine z_iconst (v := 0) F (by decide) dT_setup_123 ?_
                    exact W.iret F.1 F.2.1 hr (fun t ht hW => ⟨rfl, by rw [ht]; exact hP, va_K.moved hW.alike hK, hD, hS.F ht⟩) hS.2.2 dT_setup_124
                  · refine lv_iload F.1 F.2.1 dT_setup_54 (lv_at hl 5 rfl) ?_
                    refine z_if_le F (by omega) (tgt := 63) dT_setup_56 rfl (fun h1 => ?_) (fun hp5 => ?_)
                    · refine z_iconst (v := 0) F (by decide) dT_setup_63 ?_
                      refine lv_istore F.1 F.2.1 (lv' := [(6, .int (nI 0)), (0, .ref y0), (1, .int (nI x1)), (2, .int (nI x2)), (3, .int (nI x3)), (4, .int (nI x4)), (5, .int (nI x5))]) dT_setup_64 hl (by decide) rfl (fun ls hl => ?_)
                      refine lv_iload F.1 F.2.1 dT_setup_66 (lv_at hl 0 rfl) ?_
                      refine z_if_eq F (by omega) (tgt := 88) dT_setup_68 rfl (fun h => ?_) (fun h => absurd h (by decide))
                      refine z_lconst (v := 0) F (by decide) dT_setup_88 ?_
                      refine lv_lstore F.1 F.2.1 (lv' := [(7, .long (lN 0)), (6, .int (nI 0)), (0, .ref y0), (1, .int (nI x1)), (2, .int (nI x2)), (3, .int (nI x3)), (4, .int (nI x4)), (5, .int (nI x5))]) dT_setup_89 hl (by decide) rfl (fun ls hl => ?_)
                      refine lv_aload_n F.1 F.2.1 dT_setup_91 rfl (lv_at hl 2 rfl) ?_
                      refine lv_iload F.1 F.2.1 dT_setup_92 (lv_at hl 1 rfl) ?_
                      refine z_if_ne F (by omega) (tgt := 101) dT_setup_94 rfl (fun h => absurd h (by decide)) (fun h => ?_)
                      refine z_iconst (v := 1) F (by decide) dT_setup_97 ?_
                      refine lv_goto F.1 F.2.1 (tgt := 113) dT_setup_98 rfl ?_
                      refine z_put F hK hP hD hS hinT tyT tyT_ok nmT 0 rfl rfl 0 (by decide) rfl rfl wf_T_34 (rfl) (rfl) (Nat.le_of_ble_eq_true rfl) dT_setup_113 (fun H locs hP hD hS => ?_)
                      have hP : va_P (dC, dI) vwCl ([(y0, .inr (5, [.int (nI 1), .ref yR, .int (nI cn), .int (nI pb), .ref yV, .ref yI, .int (z_b md), .long (lN ta), .long (lN al), .long (lN be), .long (lN ga), .long (lN de), .long (lN va), .ref yX, .int (z_b pd), .ref yP, .ref yQ, .ref yS, .ref yD])), (yR, .inl (cL, 816, .inr (.inl (fun x9 => lN (f x9))))), (yV, .inl (cL, 16, .inr (.inl (fun x9 => lN (v x9))))), (yI, .inl (cL, 16, .inr (.inl (fun x9 => lN (inp x9))))), (yX, .inl (cL, 16, .inr (.inl (fun x9 => lN (mx x9))))), (yP, .inl (cL, 3, .inr (.inl (fun x9 => lN (el x9))))), (yQ, .inl (cL, 32, .inr (.inl (fun x9 => lN (qt x9))))), (yS, .inl (cL, 48, .inr (.inl (fun x9 => lN (su x9))))), (yD, .inl (cL, 32, .inr (.inl (fun x9 => lN (pr x9)))))]) H := hP
                      have hD : va_D A ([(y0, .inr (5, [.int (nI 1), .ref yR, .int (nI cn), .int (nI pb), .ref yV, .ref yI, .int (z_b md), .long (lN ta), .long (lN al), .long (lN be), .long (lN ga), .long (lN de), .long (lN va), .ref yX, .int (z_b pd), .ref yP, .ref yQ, .ref yS, .ref yD])), (yR, .inl (cL, 816, .inr (.inl (fun x9 => lN (f x9))))), (yV, .inl (cL, 16, .inr (.inl (fun x9 => lN (v x9))))), (yI, .inl (cL, 16, .inr (.inl (fun x9 => lN (inp x9))))), (yX, .inl (cL, 16, .inr (.inl (fun x9 => lN (mx x9))))), (yP, .inl (cL, 3, .inr (.inl (fun x9 => lN (el x9))))), (yQ, .inl (cL, 32, .inr (.inl (fun x9 => lN (qt x9))))), (yS, .inl (cL, 48, .inr (.inl (fun x9 => lN (su x9))))), (yD, .inl (cL, 32, .inr (.inl (fun x9 => lN (pr x9)))))]) := hD
                      refine lv_aload_n F.1 F.2.1 dT_setup_116 rfl (lv_at hl 2 rfl) ?_
                      refine z_get F hK hP hinT 0 rfl rfl 0 (by decide) rfl wf_T_34 rfl dT_setup_117 ?_
                      refine z_if_le F (by omega) (tgt := 125) dT_setup_120 rfl (fun h => absurd h (by decide)) (fun h => ?_)
                      refine z_iconst (v := 0) F (by decide) dT_setup_123 ?_
                      exact W.iret F.1 F.2.1 hr (fun t ht hW => ⟨rfl, by rw [ht]; exact hP, va_K.moved hW.alike hK, hD, hS.F ht⟩) hS.2.2 dT_setup_124
                    · rw [un_t hp1 hx1, un_t hp2 hx2, un_t hp3 hx3, un_t hp4 hx4, un_t hp5 hx5] at hq
                      cases hq
set_option maxHeartbeats 4000000 in
set_option maxRecDepth 100000 in
theorem ct_prove (l : Launch) (dC : Nat → ClassId) (dI : Nat → Nat → Nat) (cI cL : ClassId) (zz : Nat) (y0 yR yV yI yX yP yQ yS yD : Nat) (th cn pb ta al be ga de va : Nat) (md pd : Bool) (f v inp mx el qt su pr : Nat → Nat) (x y : Nat) (hmd : md = true) (hop : fo (bad f v) 0 cn = -1) (hn : cn ≤ 16) (hf : ∀ j, f j < 998244353) (hv : ∀ j, v j < 998244353) (hmx : ∀ j, mx j < 998244353) (hsu : ∀ j, su j < 998244353) (hx : x < 998244353) (hy : y < 998244353) (hal : al < 998244353) (hbe : be < 998244353) (hde : de < 998244353) (hta : ta < 998244353) (hva : va < 998244353) (hpb : pb ≤ 6) : Met l yT_prove (zW yT_prove cT_prove 12 (.some .boolean)) ({ frames := 4, cells := 0, slots := 0, locals := 107 }) (va_Pc [.ref y0, .int (nI x), .int (nI y)] (z_P (dC, dI) vwCl [(cI, .int), (cL, .long)] zz [(y0, .inr (5, [.int (nI th), .ref yR, .int (nI cn), .int (nI pb), .ref yV, .ref yI, .int (z_b md), .long (lN ta), .long (lN al), .long (lN be), .long (lN ga), .long (lN de), .long (lN va), .ref yX, .int (z_b pd), .ref yP, .ref yQ, .ref yS, .ref yD])), (yR, .inl (cL, 816, .inr (.inl (fun x9 => lN (f x9))))), (yV, .inl (cL, 16, .inr (.inl (fun x9 => lN (v x9))))), (yI, .inl (cL, 16, .inr (.inl (fun x9 => lN (inp x9))))), (yX, .inl (cL, 16, .inr (.inl (fun x9 => lN (mx x9))))), (yP, .inl (cL, 3, .inr (.inl (fun x9 => lN (el x9))))), (yQ, .inl (cL, 32, .inr (.inl (fun x9 => lN (qt x9))))), (yS, .inl (cL, 48, .inr (.inl (fun x9 => lN (su x9))))), (yD, .inl (cL, 32, .inr (.inl (fun x9 => lN (pr x9)))))])) (z_QE (dC, dI) vwCl [(cI, .int), (cL, .long)] (some (.int (z_b true))) (fun pr2 : Nat → Nat => [(y0, .inr (5, [.int (nI 0), .ref yR, .int (nI cn), .int (nI pb), .ref yV, .ref yI, .int (z_b md), .long (lN ta), .long (lN al), .long (lN be), .long (lN ga), .long (lN de), .long (lN va), .ref yX, .int (z_b true), .ref yP, .ref yQ, .ref yS, .ref yD])), (yR, .inl (cL, 816, .inr (.inl (fun x9 => lN (f x9))))), (yV, .inl (cL, 16, .inr (.inl (fun x9 => lN (v x9))))), (yI, .inl (cL, 16, .inr (.inl (fun x9 => lN (inp x9))))), (yX, .inl (cL, 16, .inr (.inl (fun x9 => lN (mx x9))))), (yP, .inl (cL, 3, .inr (.inl (fun x9 => lN ((va_up (va_up (va_up el 0 (tA al de x (szN cn) ta (suR cn f v 2 (suR cn f v 1 (suR cn f v 0 su))) 0)) 1 (tA be de y (szN cn) ta (suR cn f v 2 (suR cn f v 1 (suR cn f v 0 su))) 1)) 2 (tC (tG pb va v mx (tH ta (qtC (szN cn) (suR cn f v 2 (suR cn f v 1 (suR cn f v 0 su)))))) de (tA al de x (szN cn) ta (suR cn f v 2 (suR cn f v 1 (suR cn f v 0 su))) 0) (tA be de y (szN cn) ta (suR cn f v 2 (suR cn f v 1 (suR cn f v 0 su))) 1) x y)) x9))))), (yQ, .inl (cL, 32, .inr (.inl (fun x9 => lN ((qtC (szN cn) (suR cn f v 2 (suR cn f v 1 (suR cn f v 0 su)))) x9))))), (yS, .inl (cL, 48, .inr (.inl (fun x9 => lN ((suR cn f v 2 (suR cn f v 1 (suR cn f v 0 su))) x9))))), (yD, .inl (cL, 32, .inr (.inl (fun x9 => lN (pr2 x9)))))]) (va_A [(y0, .inr (5, [.int (nI th), .ref yR, .int (nI cn), .int (nI pb), .ref yV, .ref yI, .int (z_b md), .long (lN ta), .long (lN al), .long (lN be), .long (lN ga), .long (lN de), .long (lN va), .ref yX, .int (z_b pd), .ref yP, .ref yQ, .ref yS, .ref yD])), (yR, .inl (cL, 816, .inr (.inl (fun x9 => lN (f x9))))), (yV, .inl (cL, 16, .inr (.inl (fun x9 => lN (v x9))))), (yI, .inl (cL, 16, .inr (.inl (fun x9 => lN (inp x9))))), (yX, .inl (cL, 16, .inr (.inl (fun x9 => lN (mx x9))))), (yP, .inl (cL, 3, .inr (.inl (fun x9 => lN (el x9))))), (yQ, .inl (cL, 32, .inr (.inl (fun x9 => lN (qt x9))))), (yS, .inl (cL, 48, .inr (.inl (fun x9 => lN (su x9))))), (yD, .inl (cL, 32, .inr (.inl (fun x9 => lN (pr x9)))))] zz)) 0 0 (va_A [(y0, .inr (5, [.int (nI th), .ref yR, .int (nI cn), .int (nI pb), .ref yV, .ref yI, .int (z_b md), .long (lN ta), .long (lN al), .long (lN be), .long (lN ga), .long (lN de), .long (lN va), .ref yX, .int (z_b pd), .ref yP, .ref yQ, .ref yS, .ref yD])), (yR, .inl (cL, 816, .inr (.inl (fun x9 => lN (f x9))))), (yV, .inl (cL, 16, .inr (.inl (fun x9 => lN (v x9))))), (yI, .inl (cL, 16, .inr (.inl (fun x9 => lN (inp x9))))), (yX, .inl (cL, 16, .inr (.inl (fun x9 => lN (mx x9))))), (yP, .inl (cL, 3, .inr (.inl (fun x9 => lN (el x9))))), (yQ, .inl (cL, 32, .inr (.inl (fun x9 => lN (qt x9))))), (yS, .inl (cL, 48, .inr (.inl (fun x9 => lN (su x9))))), (yD, .inl (cL, 32, .inr (.inl (fun x9 => lN (pr x9)))))] zz) := by
  refine Met.ofW (cc := cT_prove) (maxL := 12) (ret := (.some .boolean)) (by decide) rfl ?_
  intro p e s m args below meth c s₁ B hml hv
  obtain ⟨rfl, hsz, hP, hK, hD0⟩ := hv
  have F : CallFix p m c cT_prove 12 s _ zT RT := ⟨B.exec, B.bytes, hml, findClass_of_methodNamed B.named, fun w h => atoms_spec (ws := (zW yT_prove cT_prove 12 (.some .boolean))) B.pre w (List.mem_cons_of_mem _ h)⟩
  have hr := B.returns
  have hlocks := B.notSynchronized
  subst hsz
  have hD := hD0.self (sz := s.heap.size)
  generalize hAe : va_A ([(y0, .inr (5, [.int (nI th), .ref yR, .int (nI cn), .int (nI pb), .ref yV, .ref yI, .int (z_b md), .long (lN ta), .long (lN al), .long (lN be), .long (lN ga), .long (lN de), .long (lN va), .ref yX, .int (z_b pd), .ref yP, .ref yQ, .ref yS, .ref yD])), (yR, .inl (cL, 816, .inr (.inl (fun x9 => lN (f x9))))), (yV, .inl (cL, 16, .inr (.inl (fun x9 => lN (v x9))))), (yI, .inl (cL, 16, .inr (.inl (fun x9 => lN (inp x9))))), (yX, .inl (cL, 16, .inr (.inl (fun x9 => lN (mx x9))))), (yP, .inl (cL, 3, .inr (.inl (fun x9 => lN (el x9))))), (yQ, .inl (cL, 32, .inr (.inl (fun x9 => lN (qt x9))))), (yS, .inl (cL, 48, .inr (.inl (fun x9 => lN (su x9))))), (yD, .inl (cL, 32, .inr (.inl (fun x9 => lN (pr x9)))))]) s.heap.size = A at hD ⊢
  have hAA : ∀ q : Nat, s.heap.size ≤ q → A q := fun q h => by rw [← hAe]; exact Or.inr h
  have hS : va_S A s.heap s.heap [] := va_S.rf
  have hl := lv_entry ([.ref y0, .int (nI x), .int (nI y)]) (n := 12) (Nat.le_of_ble_eq_true rfl)
  rw [lg_entry_eq]
  generalize (lg_sl ([.ref y0, .int (nI x), .int (nI y)]) ++ List.replicate (12 - (lg_sl ([.ref y0, .int (nI x), .int (nI y)])).length) Slot.unset).toArray = ls at hl ⊢
  have hl : lv_has ls 12 [(0, .ref y0), (1, .int (nI x)), (2, .int (nI y))] := hl
  have hlo := szN_lo cn
  have hhi := szN_hi cn
  refine lv_aload_n F.1 F.2.1 dT_prove_0 rfl (lv_at hl 0 rfl) ?_
  refine lv_iload_n F.1 F.2.1 dT_prove_1 rfl (lv_at hl 1 rfl) ?_
  refine z_call (z_runS [.int (nI x)] [.ref y0] F (ct_isNumber_t l x (by omega)) kk_T_isNumber wl_T_49 rfl rfl ⟨Nat.le_of_ble_eq_true rfl, Nat.le_of_ble_eq_true rfl⟩ z_preN rfl hl.1 rfl (Nat.le_of_ble_eq_true rfl) dT_prove_2 ⟨Nat.zero_le _, Nat.zero_le _⟩) ?_
  refine z_if_eq F (by omega) (tgt := 15) dT_prove_5 rfl (fun h => absurd h (by decide)) (fun h => ?_)
  refine lv_iload_n F.1 F.2.1 dT_prove_8 rfl (lv_at hl 2 rfl) ?_
  refine z_call (z_runS [.int (nI y)] [.ref y0] F (ct_isNumber_t l y (by omega)) kk_T_isNumber wl_T_49 rfl rfl ⟨Nat.le_of_ble_eq_true rfl, Nat.le_of_ble_eq_true rfl⟩ z_preN rfl hl.1 rfl (Nat.le_of_ble_eq_true rfl) dT_prove_9 ⟨Nat.zero_le _, Nat.zero_le _⟩) ?_
  refine z_if_ne F (by omega) (tgt := 19) dT_prove_12 rfl (fun h => ?_) (fun h => absurd h (by decide))
  refine lv_aload_n F.1 F.2.1 dT_prove_19 rfl (lv_at hl 0 rfl) ?_
  refine z_get F hK hP hinT 0 rfl rfl 6 (by decide) rfl wf_T_53 rfl dT_prove_20 ?_
  refine z_ifb_ne F (tgt := 30) dT_prove_23 rfl (fun h => ?_) (fun h => by rw [hmd] at h; cases h)
  refine lv_aload_n F.1 F.2.1 dT_prove_30 rfl (lv_at hl 0 rfl) ?_
  refine z_call (z_runV [] [.ref y0] F (ct_firstOpen l dC dI cI cL _ 0 1 2 y0 yR yV yI yX yP yQ yS yD th cn pb ta al be ga de va md pd f v rfl rfl rfl hf hv hn) kk_T_firstOpen wl_T_64 rfl rfl ⟨Nat.le_of_ble_eq_true rfl, Nat.le_of_ble_eq_true rfl⟩ (z_preVR (q := (RT, TT, 19)) hP hK rfl (q0 := 0) rfl) rfl hl.1 rfl (Nat.le_of_ble_eq_true rfl) dT_prove_31 ⟨Nat.zero_le _, Nat.zero_le _⟩) ?_
  refine lv_iconst (v := -1) F.1 F.2.1 dT_prove_34 (by decide) ?_
  refine lv_icmp_eq F.1 F.2.1 (tgt := 42) dT_prove_35 rfl (fun h => ?_) (fun h => absurd hop h)
  refine z_iconst (v := 0) F (by decide) dT_prove_42 ?_
  refine z_put F hK hP hD hS hinT tyT tyT_ok nmT 0 rfl rfl 0 (by decide) rfl rfl wf_T_34 (rfl) (rfl) (Nat.le_of_ble_eq_true rfl) dT_prove_43 (fun H locs hP hD hS => ?_)
  have hP : va_P (dC, dI) vwCl ([(y0, .inr (5, [.int (nI 0), .ref yR, .int (nI cn), .int (nI pb), .ref yV, .ref yI, .int (z_b md), .long (lN ta), .long (lN al), .long (lN be), .long (lN ga), .long (lN de), .long (lN va), .ref yX, .int (z_b pd), .ref yP, .ref yQ, .ref yS, .ref yD])), (yR, .inl (cL, 816, .inr (.inl (fun x9 => lN (f x9))))), (yV, .inl (cL, 16, .inr (.inl (fun x9 => lN (v x9))))), (yI, .inl (cL, 16, .inr (.inl (fun x9 => lN (inp x9))))), (yX, .inl (cL, 16, .inr (.inl (fun x9 => lN (mx x9))))), (yP, .inl (cL, 3, .inr (.inl (fun x9 => lN (el x9))))), (yQ, .inl (cL, 32, .inr (.inl (fun x9 => lN (qt x9))))), (yS, .inl (cL, 48, .inr (.inl (fun x9 => lN (su x9))))), (yD, .inl (cL, 32, .inr (.inl (fun x9 => lN (pr x9)))))]) H := hP
  have hD : va_D A ([(y0, .inr (5, [.int (nI 0), .ref yR, .int (nI cn), .int (nI pb), .ref yV, .ref yI, .int (z_b md), .long (lN ta), .long (lN al), .long (lN be), .long (lN ga), .long (lN de), .long (lN va), .ref yX, .int (z_b pd), .ref yP, .ref yQ, .ref yS, .ref yD])), (yR, .inl (cL, 816, .inr (.inl (fun x9 => lN (f x9))))), (yV, .inl (cL, 16, .inr (.inl (fun x9 => lN (v x9))))), (yI, .inl (cL, 16, .inr (.inl (fun x9 => lN (inp x9))))), (yX, .inl (cL, 16, .inr (.inl (fun x9 => lN (mx x9))))), (yP, .inl (cL, 3, .inr (.inl (fun x9 => lN (el x9))))), (yQ, .inl (cL, 32, .inr (.inl (fun x9 => lN (qt x9))))), (yS, .inl (cL, 48, .inr (.inl (fun x9 => lN (su x9))))), (yD, .inl (cL, 32, .inr (.inl (fun x9 => lN (pr x9)))))]) := hD
  refine lv_aload_n F.1 F.2.1 dT_prove_46 rfl (lv_at hl 0 rfl) ?_
  refine z_get F hK hP hinT 0 rfl rfl 0 (by decide) rfl wf_T_34 rfl dT_prove_47 ?_
  refine z_if_le F (by omega) (tgt := 55) dT_prove_50 rfl (fun h => ?_) (fun h => absurd h (by decide))
  refine lv_aload_n F.1 F.2.1 dT_prove_55 rfl (lv_at hl 0 rfl) ?_
  refine z_iconst (v := 0) F (by decide) dT_prove_56 ?_
  refine z_callW (z_runV [.int (nI 0)] [] F (ct_sum l dC dI cI cL H.size y0 yR yV yI yX yP yQ yS yD 0 cn pb ta al be ga de va md pd f v inp mx el qt su pr 0 hf hv (by decide) hn) kk_T_sum wl_T_108 rfl rfl ⟨Nat.le_of_ble_eq_true rfl, Nat.le_of_ble_eq_true rfl⟩ (z_preVP (q := (RT, TT, 19)) hP hK hD rfl (q0 := 0) rfl) rfl hl.1 rfl (Nat.le_of_ble_eq_true rfl) dT_prove_57 ⟨Nat.zero_le _, Nat.zero_le _⟩) hD hS hAA (fun H locs hP hD hS => ?_)
  have hP : va_P (dC, dI) vwCl ([(y0, .inr (5, [.int (nI 0), .ref yR, .int (nI cn), .int (nI pb), .ref yV, .ref yI, .int (z_b md), .long (lN ta), .long (lN al), .long (lN be), .long (lN ga), .long (lN de), .long (lN va), .ref yX, .int (z_b pd), .ref yP, .ref yQ, .ref yS, .ref yD])), (yR, .inl (cL, 816, .inr (.inl (fun x9 => lN (f x9))))), (yV, .inl (cL, 16, .inr (.inl (fun x9 => lN (v x9))))), (yI, .inl (cL, 16, .inr (.inl (fun x9 => lN (inp x9))))), (yX, .inl (cL, 16, .inr (.inl (fun x9 => lN (mx x9))))), (yP, .inl (cL, 3, .inr (.inl (fun x9 => lN (el x9))))), (yQ, .inl (cL, 32, .inr (.inl (fun x9 => lN (qt x9))))), (yS, .inl (cL, 48, .inr (.inl (fun x9 => lN ((suR cn f v 0 su) x9))))), (yD, .inl (cL, 32, .inr (.inl (fun x9 => lN (pr x9)))))]) H := hP
  have hD : va_D A ([(y0, .inr (5, [.int (nI 0), .ref yR, .int (nI cn), .int (nI pb), .ref yV, .ref yI, .int (z_b md), .long (lN ta), .long (lN al), .long (lN be), .long (lN ga), .long (lN de), .long (lN va), .ref yX, .int (z_b pd), .ref yP, .ref yQ, .ref yS, .ref yD])), (yR, .inl (cL, 816, .inr (.inl (fun x9 => lN (f x9))))), (yV, .inl (cL, 16, .inr (.inl (fun x9 => lN (v x9))))), (yI, .inl (cL, 16, .inr (.inl (fun x9 => lN (inp x9))))), (yX, .inl (cL, 16, .inr (.inl (fun x9 => lN (mx x9))))), (yP, .inl (cL, 3, .inr (.inl (fun x9 => lN (el x9))))), (yQ, .inl (cL, 32, .inr (.inl (fun x9 => lN (qt x9))))), (yS, .inl (cL, 48, .inr (.inl (fun x9 => lN ((suR cn f v 0 su) x9))))), (yD, .inl (cL, 32, .inr (.inl (fun x9 => lN (pr x9)))))]) := hD
  refine lv_aload_n F.1 F.2.1 dT_prove_60 rfl (lv_at hl 0 rfl) ?_
  refine z_iconst (v := 1) F (by decide) dT_prove_61 ?_
  refine z_callW (z_runV [.int (nI 1)] [] F (ct_sum l dC dI cI cL H.size y0 yR yV yI yX yP yQ yS yD 0 cn pb ta al be ga de va md pd f v inp mx el qt (suR cn f v 0 su) pr 1 hf hv (by decide) hn) kk_T_sum wl_T_108 rfl rfl ⟨Nat.le_of_ble_eq_true rfl, Nat.le_of_ble_eq_true rfl⟩ (z_preVP (q := (RT, TT, 19)) hP hK hD rfl (q0 := 0) rfl) rfl hl.1 rfl (Nat.le_of_ble_eq_true rfl) dT_prove_62 ⟨Nat.zero_le _, Nat.zero_le _⟩) hD hS hAA (fun H locs hP hD hS => ?_)
  have hP : va_P (dC, dI) vwCl ([(y0, .inr (5, [.int (nI 0), .ref yR, .int (nI cn), .int (nI pb), .ref yV, .ref yI, .int (z_b md), .long (lN ta), .long (lN al), .long (lN be), .long (lN ga), .long (lN de), .long (lN va), .ref yX, .int (z_b pd), .ref yP, .ref yQ, .ref yS, .ref yD])), (yR, .inl (cL, 816, .inr (.inl (fun x9 => lN (f x9))))), (yV, .inl (cL, 16, .inr (.inl (fun x9 => lN (v x9))))), (yI, .inl (cL, 16, .inr (.inl (fun x9 => lN (inp x9))))), (yX, .inl (cL, 16, .inr (.inl (fun x9 => lN (mx x9))))), (yP, .inl (cL, 3, .inr (.inl (fun x9 => lN (el x9))))), (yQ, .inl (cL, 32, .inr (.inl (fun x9 => lN (qt x9))))), (yS, .inl (cL, 48, .inr (.inl (fun x9 => lN ((suR cn f v 1 (suR cn f v 0 su)) x9))))), (yD, .inl (cL, 32, .inr (.inl (fun x9 => lN (pr x9)))))]) H := hP
  have hD : va_D A ([(y0, .inr (5, [.int (nI 0), .ref yR, .int (nI cn), .int (nI pb), .ref yV, .ref yI, .int (z_b md), .long (lN ta), .long (lN al), .long (lN be), .long (lN ga), .long (lN de), .long (lN va), .ref yX, .int (z_b pd), .ref yP, .ref yQ, .ref yS, .ref yD])), (yR, .inl (cL, 816, .inr (.inl (fun x9 => lN (f x9))))), (yV, .inl (cL, 16, .inr (.inl (fun x9 => lN (v x9))))), (yI, .inl (cL, 16, .inr (.inl (fun x9 => lN (inp x9))))), (yX, .inl (cL, 16, .inr (.inl (fun x9 => lN (mx x9))))), (yP, .inl (cL, 3, .inr (.inl (fun x9 => lN (el x9))))), (yQ, .inl (cL, 32, .inr (.inl (fun x9 => lN (qt x9))))), (yS, .inl (cL, 48, .inr (.inl (fun x9 => lN ((suR cn f v 1 (suR cn f v 0 su)) x9))))), (yD, .inl (cL, 32, .inr (.inl (fun x9 => lN (pr x9)))))]) := hD
  refine lv_aload_n F.1 F.2.1 dT_prove_65 rfl (lv_at hl 0 rfl) ?_
  refine z_iconst (v := 2) F (by decide) dT_prove_66 ?_
  refine z_callW (z_runV [.int (nI 2)] [] F (ct_sum l dC dI cI cL H.size y0 yR yV yI yX yP yQ yS yD 0 cn pb ta al be ga de va md pd f v inp mx el qt (suR cn f v 1 (suR cn f v 0 su)) pr 2 hf hv (by decide) hn) kk_T_sum wl_T_108 rfl rfl ⟨Nat.le_of_ble_eq_true rfl, Nat.le_of_ble_eq_true rfl⟩ (z_preVP (q := (RT, TT, 19)) hP hK hD rfl (q0 := 0) rfl) rfl hl.1 rfl (Nat.le_of_ble_eq_true rfl) dT_prove_67 ⟨Nat.zero_le _, Nat.zero_le _⟩) hD hS hAA (fun H locs hP hD hS => ?_)
  have hP : va_P (dC, dI) vwCl ([(y0, .inr (5, [.int (nI 0), .ref yR, .int (nI cn), .int (nI pb), .ref yV, .ref yI, .int (z_b md), .long (lN ta), .long (lN al), .long (lN be), .long (lN ga), .long (lN de), .long (lN va), .ref yX, .int (z_b pd), .ref yP, .ref yQ, .ref yS, .ref yD])), (yR, .inl (cL, 816, .inr (.inl (fun x9 => lN (f x9))))), (yV, .inl (cL, 16, .inr (.inl (fun x9 => lN (v x9))))), (yI, .inl (cL, 16, .inr (.inl (fun x9 => lN (inp x9))))), (yX, .inl (cL, 16, .inr (.inl (fun x9 => lN (mx x9))))), (yP, .inl (cL, 3, .inr (.inl (fun x9 => lN (el x9))))), (yQ, .inl (cL, 32, .inr (.inl (fun x9 => lN (qt x9))))), (yS, .inl (cL, 48, .inr (.inl (fun x9 => lN ((suR cn f v 2 (suR cn f v 1 (suR cn f v 0 su))) x9))))), (yD, .inl (cL, 32, .inr (.inl (fun x9 => lN (pr x9)))))]) H := hP
  have hD : va_D A ([(y0, .inr (5, [.int (nI 0), .ref yR, .int (nI cn), .int (nI pb), .ref yV, .ref yI, .int (z_b md), .long (lN ta), .long (lN al), .long (lN be), .long (lN ga), .long (lN de), .long (lN va), .ref yX, .int (z_b pd), .ref yP, .ref yQ, .ref yS, .ref yD])), (yR, .inl (cL, 816, .inr (.inl (fun x9 => lN (f x9))))), (yV, .inl (cL, 16, .inr (.inl (fun x9 => lN (v x9))))), (yI, .inl (cL, 16, .inr (.inl (fun x9 => lN (inp x9))))), (yX, .inl (cL, 16, .inr (.inl (fun x9 => lN (mx x9))))), (yP, .inl (cL, 3, .inr (.inl (fun x9 => lN (el x9))))), (yQ, .inl (cL, 32, .inr (.inl (fun x9 => lN (qt x9))))), (yS, .inl (cL, 48, .inr (.inl (fun x9 => lN ((suR cn f v 2 (suR cn f v 1 (suR cn f v 0 su))) x9))))), (yD, .inl (cL, 32, .inr (.inl (fun x9 => lN (pr x9)))))]) := hD
  have hsu2 : ∀ j, (suR cn f v 2 (suR cn f v 1 (suR cn f v 0 su))) j < 998244353 := suR_lt (suR_lt (suR_lt hsu))
  have hqt2 : ∀ j, (qtC (szN cn) (suR cn f v 2 (suR cn f v 1 (suR cn f v 0 su)))) j < 998244353 := qtC_lt
  refine lv_aload_n F.1 F.2.1 dT_prove_70 rfl (lv_at hl 0 rfl) ?_
  refine z_callE (wr := []) (z_runV [] [] F (ct_divide l dC dI cI cL H.size y0 yR yV yI yX yP yQ yS yD 0 cn pb ta al be ga de va md pd f v inp mx el qt (suR cn f v 2 (suR cn f v 1 (suR cn f v 0 su))) pr hsu2 hn) kk_T_divide wl_T_112 rfl rfl ⟨Nat.le_of_ble_eq_true rfl, Nat.le_of_ble_eq_true rfl⟩ (z_preVP (q := (RT, TT, 19)) hP hK hD rfl (q0 := 0) rfl) rfl hl.1 rfl (Nat.le_of_ble_eq_true rfl) dT_prove_71 ⟨Nat.zero_le _, Nat.zero_le _⟩) hP hD hS hAA [0, 1, 2, 3, 4, 5, 6, 7, 8] [] rfl rfl (by decide) (by decide) (fun pr2 H locs hP hD hS => ?_)
  have hP : va_P (dC, dI) vwCl ([(y0, .inr (5, [.int (nI 0), .ref yR, .int (nI cn), .int (nI pb), .ref yV, .ref yI, .int (z_b md), .long (lN ta), .long (lN al), .long (lN be), .long (lN ga), .long (lN de), .long (lN va), .ref yX, .int (z_b pd), .ref yP, .ref yQ, .ref yS, .ref yD])), (yR, .inl (cL, 816, .inr (.inl (fun x9 => lN (f x9))))), (yV, .inl (cL, 16, .inr (.inl (fun x9 => lN (v x9))))), (yI, .inl (cL, 16, .inr (.inl (fun x9 => lN (inp x9))))), (yX, .inl (cL, 16, .inr (.inl (fun x9 => lN (mx x9))))), (yP, .inl (cL, 3, .inr (.inl (fun x9 => lN (el x9))))), (yQ, .inl (cL, 32, .inr (.inl (fun x9 => lN ((qtC (szN cn) (suR cn f v 2 (suR cn f v 1 (suR cn f v 0 su)))) x9))))), (yS, .inl (cL, 48, .inr (.inl (fun x9 => lN ((suR cn f v 2 (suR cn f v 1 (suR cn f v 0 su))) x9))))), (yD, .inl (cL, 32, .inr (.inl (fun x9 => lN (pr2 x9)))))]) H := hP
  have hD : va_D A ([(y0, .inr (5, [.int (nI 0), .ref yR, .int (nI cn), .int (nI pb), .ref yV, .ref yI, .int (z_b md), .long (lN ta), .long (lN al), .long (lN be), .long (lN ga), .long (lN de), .long (lN va), .ref yX, .int (z_b pd), .ref yP, .ref yQ, .ref yS, .ref yD])), (yR, .inl (cL, 816, .inr (.inl (fun x9 => lN (f x9))))), (yV, .inl (cL, 16, .inr (.inl (fun x9 => lN (v x9))))), (yI, .inl (cL, 16, .inr (.inl (fun x9 => lN (inp x9))))), (yX, .inl (cL, 16, .inr (.inl (fun x9 => lN (mx x9))))), (yP, .inl (cL, 3, .inr (.inl (fun x9 => lN (el x9))))), (yQ, .inl (cL, 32, .inr (.inl (fun x9 => lN ((qtC (szN cn) (suR cn f v 2 (suR cn f v 1 (suR cn f v 0 su)))) x9))))), (yS, .inl (cL, 48, .inr (.inl (fun x9 => lN ((suR cn f v 2 (suR cn f v 1 (suR cn f v 0 su))) x9))))), (yD, .inl (cL, 32, .inr (.inl (fun x9 => lN (pr2 x9)))))]) := hD
  refine z_lconst (v := 0) F (by decide) dT_prove_74 ?_
  refine lv_lstore_n F.1 F.2.1 (lv' := [(3, .long (lN 0)), (0, .ref y0), (1, .int (nI x)), (2, .int (nI y))]) dT_prove_75 rfl hl (by decide) rfl (fun ls hl => ?_)
  refine z_iconst (v := 0) F (by decide) dT_prove_76 ?_
  refine lv_istore F.1 F.2.1 (lv' := [(5, .int (nI 0)), (3, .long (lN 0)), (0, .ref y0), (1, .int (nI x)), (2, .int (nI y))]) dT_prove_77 hl (by decide) rfl (fun ls hl => ?_)
  have hl : lv_has ls 12 [(5, .int (nI 0)), (3, .long (lN (sg 0 (fun e => (qtC (szN cn) (suR cn f v 2 (suR cn f v 1 (suR cn f v 0 su)))) e * pw ta e) % 998244353))), (0, .ref y0), (1, .int (nI x)), (2, .int (nI y))] := lv_sub hl [0, 1, 2, 3, 4] rfl
  refine z_up (E := 16) (P := fun k => ∀  (ls : Array Slot), lv_has ls 12 [(5, .int (nI k)), (3, .long (lN (sg k (fun e => (qtC (szN cn) (suR cn f v 2 (suR cn f v 1 (suR cn f v 0 su)))) e * pw ta e) % 998244353))), (0, .ref y0), (1, .int (nI x)), (2, .int (nI y))] → W p l e _ s m _ below meth c H locs _ _ _ (F0 m 79 ls [])) ?_ 0 (Nat.zero_le _)  ls  hl
  intro k hk ih  ls  hl
  refine lv_iload F.1 F.2.1 dT_prove_79 (lv_at hl 0 rfl) ?_
  refine z_bipush (v := 16) F (by decide) dT_prove_81 ?_
  refine z_icmp_ge F (by omega) (by omega) (tgt := 117) dT_prove_83 rfl (fun h1 => ?_) (fun h1 => ?_)
  · have hl : lv_has ls 12 [(3, .long (lN (sg k (fun e => (qtC (szN cn) (suR cn f v 2 (suR cn f v 1 (suR cn f v 0 su)))) e * pw ta e) % 998244353))), (0, .ref y0), (1, .int (nI x)), (2, .int (nI y))] := lv_sub hl [1, 2, 3, 4] rfl
    have hl : lv_has ls 12 [(3, .long (lN (tH ta (qtC (szN cn) (suR cn f v 2 (suR cn f v 1 (suR cn f v 0 su))))))), (0, .ref y0), (1, .int (nI x)), (2, .int (nI y))] := by rw [show k = 16 by omega] at hl; exact hl
    refine lv_aload_n F.1 F.2.1 dT_prove_117 rfl (lv_at hl 1 rfl) ?_
    refine z_get F hK hP hinT 0 rfl rfl 8 (by decide) rfl wf_T_90 rfl dT_prove_118 ?_
    refine lv_aload_n F.1 F.2.1 dT_prove_121 rfl (lv_at hl 1 rfl) ?_
    refine z_iconst (v := 0) F (by decide) dT_prove_122 ?_
    refine z_call (z_runV [.int (nI 0)] [.long (lN al)] F (ct_sumAtTau l dC dI cI cL _ 0 7 y0 yR yV yI yX yP yQ yS yD 0 cn pb ta al be ga de va md pd (suR cn f v 2 (suR cn f v 1 (suR cn f v 0 su))) 0 rfl rfl hsu2 (by decide) hn hta) kk_T_sumAtTau wl_T_115 rfl rfl ⟨Nat.le_of_ble_eq_true rfl, Nat.le_of_ble_eq_true rfl⟩ (z_preVR (q := (RT, TT, 19)) hP hK rfl (q0 := 0) rfl) rfl hl.1 rfl (Nat.le_of_ble_eq_true rfl) dT_prove_123 ⟨Nat.zero_le _, Nat.zero_le _⟩) ?_
    have hs0 := ltP (sg (szN cn) (fun k => (suR cn f v 2 (suR cn f v 1 (suR cn f v 0 su))) (16 * 0 + k) * pw ta k))
    have hm0 := z_mb (a := x) (b := de) (by omega) (by omega)
    refine z_ladd F dT_prove_126 ?_
    refine lv_iload_n F.1 F.2.1 dT_prove_127 rfl (lv_at hl 2 rfl) ?_
    refine z_i2l F (by omega) dT_prove_128 ?_
    refine lv_aload_n F.1 F.2.1 dT_prove_129 rfl (lv_at hl 1 rfl) ?_
    refine z_get F hK hP hinT 0 rfl rfl 11 (by decide) rfl wf_T_99 rfl dT_prove_130 ?_
    refine z_lmul F dT_prove_133 ?_
    refine z_ladd F dT_prove_134 ?_
    refine z_ldc2 F 998244353 (v0 := 998244353) wk_T_38 rfl dT_prove_135 ?_
    refine z_lrem F (by omega) (by omega) (by omega) dT_prove_138 ?_
    refine z_topL (tA al de x (szN cn) ta (suR cn f v 2 (suR cn f v 1 (suR cn f v 0 su))) 0) (rfl) ?_
    refine lv_lstore F.1 F.2.1 (lv' := [(5, .long (lN (tA al de x (szN cn) ta (suR cn f v 2 (suR cn f v 1 (suR cn f v 0 su))) 0))), (3, .long (lN (tH ta (qtC (szN cn) (suR cn f v 2 (suR cn f v 1 (suR cn f v 0 su))))))), (0, .ref y0), (1, .int (nI x)), (2, .int (nI y))]) dT_prove_139 hl (by decide) rfl (fun ls hl => ?_)
    refine lv_aload_n F.1 F.2.1 dT_prove_141 rfl (lv_at hl 2 rfl) ?_
    refine z_get F hK hP hinT 0 rfl rfl 9 (by decide) rfl wf_T_93 rfl dT_prove_142 ?_
    refine lv_aload_n F.1 F.2.1 dT_prove_145 rfl (lv_at hl 2 rfl) ?_
    refine z_iconst (v := 1) F (by decide) dT_prove_146 ?_
    refine z_call (z_runV [.int (nI 1)] [.long (lN be)] F (ct_sumAtTau l dC dI cI cL _ 0 7 y0 yR yV yI yX yP yQ yS yD 0 cn pb ta al be ga de va md pd (suR cn f v 2 (suR cn f v 1 (suR cn f v 0 su))) 1 rfl rfl hsu2 (by decide) hn hta) kk_T_sumAtTau wl_T_115 rfl rfl ⟨Nat.le_of_ble_eq_true rfl, Nat.le_of_ble_eq_true rfl⟩ (z_preVR (q := (RT, TT, 19)) hP hK rfl (q0 := 0) rfl) rfl hl.1 rfl (Nat.le_of_ble_eq_true rfl) dT_prove_147 ⟨Nat.zero_le _, Nat.zero_le _⟩) ?_
    have hs1 := ltP (sg (szN cn) (fun k => (suR cn f v 2 (suR cn f v 1 (suR cn f v 0 su))) (16 * 1 + k) * pw ta k))
    have hm1 := z_mb (a := y) (b := de) (by omega) (by omega)
    refine z_ladd F dT_prove_150 ?_
    refine lv_iload_n F.1 F.2.1 dT_prove_151 rfl (lv_at hl 4 rfl) ?_
    refine z_i2l F (by omega) dT_prove_152 ?_
    refine lv_aload_n F.1 F.2.1 dT_prove_153 rfl (lv_at hl 2 rfl) ?_
    refine z_get F hK hP hinT 0 rfl rfl 11 (by decide) rfl wf_T_99 rfl dT_prove_154 ?_
    refine z_lmul F dT_prove_157 ?_
    refine z_ladd F dT_prove_158 ?_
    refine z_ldc2 F 998244353 (v0 := 998244353) wk_T_38 rfl dT_prove_159 ?_
    refine z_lrem F (by omega) (by omega) (by omega) dT_prove_162 ?_
    refine z_topL (tA be de y (szN cn) ta (suR cn f v 2 (suR cn f v 1 (suR cn f v 0 su))) 1) (rfl) ?_
    refine lv_lstore F.1 F.2.1 (lv' := [(7, .long (lN (tA be de y (szN cn) ta (suR cn f v 2 (suR cn f v 1 (suR cn f v 0 su))) 1))), (5, .long (lN (tA al de x (szN cn) ta (suR cn f v 2 (suR cn f v 1 (suR cn f v 0 su))) 0))), (3, .long (lN (tH ta (qtC (szN cn) (suR cn f v 2 (suR cn f v 1 (suR cn f v 0 su))))))), (0, .ref y0), (1, .int (nI x)), (2, .int (nI y))]) dT_prove_163 hl (by decide) rfl (fun ls hl => ?_)
    have hh := tH_lt ta (qtC (szN cn) (suR cn f v 2 (suR cn f v 1 (suR cn f v 0 su))))
    have hm3 := z_mb (a := tH ta (qtC (szN cn) (suR cn f v 2 (suR cn f v 1 (suR cn f v 0 su))))) (b := va) (by omega) (by omega)
    refine lv_lload_n F.1 F.2.1 dT_prove_165 rfl (lv_at hl 2 rfl) ?_
    refine lv_aload_n F.1 F.2.1 dT_prove_166 rfl (lv_at hl 3 rfl) ?_
    refine z_get F hK hP hinT 0 rfl rfl 12 (by decide) rfl wf_T_102 rfl dT_prove_167 ?_
    refine z_lmul F dT_prove_170 ?_
    refine z_ldc2 F 998244353 (v0 := 998244353) wk_T_38 rfl dT_prove_171 ?_
    refine z_lrem F (by omega) (by omega) (by omega) dT_prove_174 ?_
    refine z_topL (((tH ta (qtC (szN cn) (suR cn f v 2 (suR cn f v 1 (suR cn f v 0 su))))) * va % 998244353 + sg 0 (fun t => v (pb + 1 + t) * mx (pb + 1 + t))) % 998244353) (by rw [sg_0, Nat.add_zero, Nat.mod_mod]) ?_
    refine lv_lstore F.1 F.2.1 (lv' := [(9, .long (lN (((tH ta (qtC (szN cn) (suR cn f v 2 (suR cn f v 1 (suR cn f v 0 su))))) * va % 998244353 + sg 0 (fun t => v (pb + 1 + t) * mx (pb + 1 + t))) % 998244353))), (7, .long (lN (tA be de y (szN cn) ta (suR cn f v 2 (suR cn f v 1 (suR cn f v 0 su))) 1))), (5, .long (lN (tA al de x (szN cn) ta (suR cn f v 2 (suR cn f v 1 (suR cn f v 0 su))) 0))), (3, .long (lN (tH ta (qtC (szN cn) (suR cn f v 2 (suR cn f v 1 (suR cn f v 0 su))))))), (0, .ref y0), (1, .int (nI x)), (2, .int (nI y))]) dT_prove_175 hl (by decide) rfl (fun ls hl => ?_)
    refine lv_aload_n F.1 F.2.1 dT_prove_177 rfl (lv_at hl 4 rfl) ?_
    refine z_get F hK hP hinT 0 rfl rfl 3 (by decide) rfl wf_T_57 rfl dT_prove_178 ?_
    refine z_iconst (v := 1) F (by decide) dT_prove_181 ?_
    refine z_iadd F dT_prove_182 ?_
    refine lv_istore F.1 F.2.1 (lv' := [(11, .int (nI (pb + 1))), (9, .long (lN (((tH ta (qtC (szN cn) (suR cn f v 2 (suR cn f v 1 (suR cn f v 0 su))))) * va % 998244353 + sg 0 (fun t => v (pb + 1 + t) * mx (pb + 1 + t))) % 998244353))), (7, .long (lN (tA be de y (szN cn) ta (suR cn f v 2 (suR cn f v 1 (suR cn f v 0 su))) 1))), (5, .long (lN (tA al de x (szN cn) ta (suR cn f v 2 (suR cn f v 1 (suR cn f v 0 su))) 0))), (3, .long (lN (tH ta (qtC (szN cn) (suR cn f v 2 (suR cn f v 1 (suR cn f v 0 su))))))), (0, .ref y0), (1, .int (nI x)), (2, .int (nI y))]) dT_prove_183 hl (by decide) rfl (fun ls hl => ?_)
    have hl : lv_has ls 12 [(11, .int (nI (pb + 1 + 0))), (9, .long (lN (((tH ta (qtC (szN cn) (suR cn f v 2 (suR cn f v 1 (suR cn f v 0 su))))) * va % 998244353 + sg 0 (fun t => v (pb + 1 + t) * mx (pb + 1 + t))) % 998244353))), (7, .long (lN (tA be de y (szN cn) ta (suR cn f v 2 (suR cn f v 1 (suR cn f v 0 su))) 1))), (5, .long (lN (tA al de x (szN cn) ta (suR cn f v 2 (suR cn f v 1 (suR cn f v 0 su))) 0))), (0, .ref y0), (1, .int (nI x)), (2, .int (nI y))] := lv_sub hl [0, 1, 2, 3, 5, 6, 7] rfl
    refine z_up (E := 15 - pb) (P := fun u => ∀  (ls : Array Slot), lv_has ls 12 [(11, .int (nI (pb + 1 + u))), (9, .long (lN (((tH ta (qtC (szN cn) (suR cn f v 2 (suR cn f v 1 (suR cn f v 0 su))))) * va % 998244353 + sg u (fun t => v (pb + 1 + t) * mx (pb + 1 + t))) % 998244353))), (7, .long (lN (tA be de y (szN cn) ta (suR cn f v 2 (suR cn f v 1 (suR cn f v 0 su))) 1))), (5, .long (lN (tA al de x (szN cn) ta (suR cn f v 2 (suR cn f v 1 (suR cn f v 0 su))) 0))), (0, .ref y0), (1, .int (nI x)), (2, .int (nI y))] → W p l e _ s m _ below meth c H locs _ _ _ (F0 m 185 ls [])) ?_ 0 (Nat.zero_le _)  ls  hl
    intro u hu ih2  ls  hl
    refine lv_iload F.1 F.2.1 dT_prove_185 (lv_at hl 0 rfl) ?_
    refine z_bipush (v := 16) F (by decide) dT_prove_187 ?_
    refine z_icmp_ge F (by omega) (by omega) (tgt := 222) dT_prove_189 rfl (fun h2 => ?_) (fun h2 => ?_)
    · have hl : lv_has ls 12 [(9, .long (lN (((tH ta (qtC (szN cn) (suR cn f v 2 (suR cn f v 1 (suR cn f v 0 su))))) * va % 998244353 + sg u (fun t => v (pb + 1 + t) * mx (pb + 1 + t))) % 998244353))), (7, .long (lN (tA be de y (szN cn) ta (suR cn f v 2 (suR cn f v 1 (suR cn f v 0 su))) 1))), (5, .long (lN (tA al de x (szN cn) ta (suR cn f v 2 (suR cn f v 1 (suR cn f v 0 su))) 0))), (0, .ref y0), (1, .int (nI x)), (2, .int (nI y))] := lv_sub hl [1, 2, 3, 4, 5, 6] rfl
      have hl : lv_has ls 12 [(9, .long (lN (tG pb va v mx (tH ta (qtC (szN cn) (suR cn f v 2 (suR cn f v 1 (suR cn f v 0 su)))))))), (7, .long (lN (tA be de y (szN cn) ta (suR cn f v 2 (suR cn f v 1 (suR cn f v 0 su))) 1))), (5, .long (lN (tA al de x (szN cn) ta (suR cn f v 2 (suR cn f v 1 (suR cn f v 0 su))) 0))), (0, .ref y0), (1, .int (nI x)), (2, .int (nI y))] := by rw [show u = 15 - pb by omega] at hl; exact hl
      generalize hGe : tG pb va v mx (tH ta (qtC (szN cn) (suR cn f v 2 (suR cn f v 1 (suR cn f v 0 su))))) = gg at hl ⊢
      generalize hAe2 : tA al de x (szN cn) ta (suR cn f v 2 (suR cn f v 1 (suR cn f v 0 su))) 0 = ga2 at hl ⊢
      generalize hBe : tA be de y (szN cn) ta (suR cn f v 2 (suR cn f v 1 (suR cn f v 0 su))) 1 = gb2 at hl ⊢
      have hg1 : gg < 998244353 := by rw [← hGe]; exact ltP _
      have hg2 : ga2 < 998244353 := by rw [← hAe2]; exact ltP _
      have hg3 : gb2 < 998244353 := by rw [← hBe]; exact ltP _
      have hl : lv_has ls 12 [(9, .long (lN gg)), (7, .long (lN gb2)), (5, .long (lN ga2)), (0, .ref y0), (1, .int (nI x)), (2, .int (nI y))] := hl
      refine lv_lload F.1 F.2.1 dT_prove_222 (lv_at hl 0 rfl) ?_
      refine lv_aload_n F.1 F.2.1 dT_prove_224 rfl (lv_at hl 3 rfl) ?_
      refine z_get F hK hP hinT 0 rfl rfl 11 (by decide) rfl wf_T_99 rfl dT_prove_225 ?_
      refine z_call (z_runS [.long (lN de)] [.long (lN gg)] F (ct_inverse l de (by omega)) kk_T_inverse wl_T_75 rfl rfl ⟨Nat.le_of_ble_eq_true rfl, Nat.le_of_ble_eq_true rfl⟩ z_preN rfl hl.1 rfl (Nat.le_of_ble_eq_true rfl) dT_prove_228 ⟨Nat.zero_le _, Nat.zero_le _⟩) ?_
      have hi := iv_lt de
      have hm4 := z_mb (a := gg) (b := iv de) (by omega) (by omega)
      refine z_lmul F dT_prove_231 ?_
      refine z_ldc2 F 998244353 (v0 := 998244353) wk_T_38 rfl dT_prove_232 ?_
      refine z_lrem F (by omega) (by omega) (by omega) dT_prove_235 ?_
      refine lv_lstore F.1 F.2.1 (lv' := [(9, .long (lN ((gg * (iv de)) % 998244353))), (7, .long (lN gb2)), (5, .long (lN ga2)), (0, .ref y0), (1, .int (nI x)), (2, .int (nI y))]) dT_prove_236 hl (by decide) rfl (fun ls hl => ?_)
      have hm5 := z_mb (a := ga2) (b := y) (by omega) (by omega)
      have hm6 := z_mb (a := gb2) (b := x) (by omega) (by omega)
      have hm7 := z_mb (a := x) (b := y) (by omega) (by omega)
      have hm8 := z_mb (a := x * y % 998244353) (b := de) (Nat.lt_trans (ltP _) (by decide)) (by omega)
      refine lv_lload F.1 F.2.1 dT_prove_238 (lv_at hl 0 rfl) ?_
      refine lv_lload F.1 F.2.1 dT_prove_240 (lv_at hl 2 rfl) ?_
      refine lv_iload_n F.1 F.2.1 dT_prove_242 rfl (lv_at hl 5 rfl) ?_
      refine z_i2l F (by omega) dT_prove_243 ?_
      refine z_lmul F dT_prove_244 ?_
      refine z_ldc2 F 998244353 (v0 := 998244353) wk_T_38 rfl dT_prove_245 ?_
      refine z_lrem F (by omega) (by omega) (by omega) dT_prove_248 ?_
      refine z_ladd F dT_prove_249 ?_
      refine lv_lload F.1 F.2.1 dT_prove_250 (lv_at hl 1 rfl) ?_
      refine lv_iload_n F.1 F.2.1 dT_prove_252 rfl (lv_at hl 4 rfl) ?_
      refine z_i2l F (by omega) dT_prove_253 ?_
      refine z_lmul F dT_prove_254 ?_
      refine z_ldc2 F 998244353 (v0 := 998244353) wk_T_38 rfl dT_prove_255 ?_
      refine z_lrem F (by omega) (by omega) (by omega) dT_prove_258 ?_
      refine z_ladd F dT_prove_259 ?_
      refine z_ldc2 F 998244353 (v0 := 998244353) wk_T_38 rfl dT_prove_260 ?_
      refine z_lrem F (by omega) (by omega) (by omega) dT_prove_263 ?_
      refine lv_lstore F.1 F.2.1 (lv' := [(9, .long (lN (((((gg * (iv de)) % 998244353) + ((ga2 * y) % 998244353)) + ((gb2 * x) % 998244353)) % 998244353))), (7, .long (lN gb2)), (5, .long (lN ga2)), (0, .ref y0), (1, .int (nI x)), (2, .int (nI y))]) dT_prove_264 hl (by decide) rfl (fun ls hl => ?_)
      refine lv_lload F.1 F.2.1 dT_prove_266 (lv_at hl 0 rfl) ?_
      refine lv_iload_n F.1 F.2.1 dT_prove_268 rfl (lv_at hl 4 rfl) ?_
      refine z_i2l F (by omega) dT_prove_269 ?_
      refine lv_iload_n F.1 F.2.1 dT_prove_270 rfl (lv_at hl 5 rfl) ?_
      refine z_i2l F (by omega) dT_prove_271 ?_
      refine z_lmul F dT_prove_272 ?_
      refine z_ldc2 F 998244353 (v0 := 998244353) wk_T_38 rfl dT_prove_273 ?_
      refine z_lrem F (by omega) (by omega) (by omega) dT_prove_276 ?_
      refine lv_aload_n F.1 F.2.1 dT_prove_277 rfl (lv_at hl 3 rfl) ?_
      refine z_get F hK hP hinT 0 rfl rfl 11 (by decide) rfl wf_T_99 rfl dT_prove_278 ?_
      refine z_lmul F dT_prove_281 ?_
      refine z_ldc2 F 998244353 (v0 := 998244353) wk_T_38 rfl dT_prove_282 ?_
      refine z_lrem F (by omega) (by omega) (by omega) dT_prove_285 ?_
      refine z_call (z_runS [.long (lN (((((gg * (iv de)) % 998244353) + ((ga2 * y) % 998244353)) + ((gb2 * x) % 998244353)) % 998244353)), .long (lN ((((x * y) % 998244353) * de) % 998244353))] [] F (ct_less l (((((gg * (iv de)) % 998244353) + ((ga2 * y) % 998244353)) + ((gb2 * x) % 998244353)) % 998244353) ((((x * y) % 998244353) * de) % 998244353) (ltP _) (ltP _)) kk_T_less wl_T_87 rfl rfl ⟨Nat.le_of_ble_eq_true rfl, Nat.le_of_ble_eq_true rfl⟩ z_preN rfl hl.1 rfl (Nat.le_of_ble_eq_true rfl) dT_prove_286 ⟨Nat.zero_le _, Nat.zero_le _⟩) ?_
      refine lv_lstore F.1 F.2.1 (lv' := [(9, .long (lN (tC gg de ga2 gb2 x y))), (7, .long (lN gb2)), (5, .long (lN ga2)), (0, .ref y0), (1, .int (nI x)), (2, .int (nI y))]) dT_prove_289 hl (by decide) rfl (fun ls hl => ?_)
      refine lv_aload_n F.1 F.2.1 dT_prove_291 rfl (lv_at hl 3 rfl) ?_
      refine z_get F hK hP hinT 0 rfl rfl 15 (by decide) rfl wf_T_22 rfl dT_prove_292 ?_
      refine z_iconst (v := 0) F (by decide) dT_prove_295 ?_
      refine lv_lload F.1 F.2.1 dT_prove_296 (lv_at hl 2 rfl) ?_
      refine z_last F hK hP hD hS 5 1 rfl rfl (by omega) (by decide) dT_prove_298 (fun H locs hP hD hS => ?_)
      have hP : va_P (dC, dI) vwCl ([(y0, .inr (5, [.int (nI 0), .ref yR, .int (nI cn), .int (nI pb), .ref yV, .ref yI, .int (z_b md), .long (lN ta), .long (lN al), .long (lN be), .long (lN ga), .long (lN de), .long (lN va), .ref yX, .int (z_b pd), .ref yP, .ref yQ, .ref yS, .ref yD])), (yR, .inl (cL, 816, .inr (.inl (fun x9 => lN (f x9))))), (yV, .inl (cL, 16, .inr (.inl (fun x9 => lN (v x9))))), (yI, .inl (cL, 16, .inr (.inl (fun x9 => lN (inp x9))))), (yX, .inl (cL, 16, .inr (.inl (fun x9 => lN (mx x9))))), (yP, .inl (cL, 3, .inr (.inl (fun x9 => lN ((va_up el 0 ga2) x9))))), (yQ, .inl (cL, 32, .inr (.inl (fun x9 => lN ((qtC (szN cn) (suR cn f v 2 (suR cn f v 1 (suR cn f v 0 su)))) x9))))), (yS, .inl (cL, 48, .inr (.inl (fun x9 => lN ((suR cn f v 2 (suR cn f v 1 (suR cn f v 0 su))) x9))))), (yD, .inl (cL, 32, .inr (.inl (fun x9 => lN (pr2 x9)))))]) H := hP
      have hD : va_D A ([(y0, .inr (5, [.int (nI 0), .ref yR, .int (nI cn), .int (nI pb), .ref yV, .ref yI, .int (z_b md), .long (lN ta), .long (lN al), .long (lN be), .long (lN ga), .long (lN de), .long (lN va), .ref yX, .int (z_b pd), .ref yP, .ref yQ, .ref yS, .ref yD])), (yR, .inl (cL, 816, .inr (.inl (fun x9 => lN (f x9))))), (yV, .inl (cL, 16, .inr (.inl (fun x9 => lN (v x9))))), (yI, .inl (cL, 16, .inr (.inl (fun x9 => lN (inp x9))))), (yX, .inl (cL, 16, .inr (.inl (fun x9 => lN (mx x9))))), (yP, .inl (cL, 3, .inr (.inl (fun x9 => lN ((va_up el 0 ga2) x9))))), (yQ, .inl (cL, 32, .inr (.inl (fun x9 => lN ((qtC (szN cn) (suR cn f v 2 (suR cn f v 1 (suR cn f v 0 su)))) x9))))), (yS, .inl (cL, 48, .inr (.inl (fun x9 => lN ((suR cn f v 2 (suR cn f v 1 (suR cn f v 0 su))) x9))))), (yD, .inl (cL, 32, .inr (.inl (fun x9 => lN (pr2 x9)))))]) := hD
      refine lv_aload_n F.1 F.2.1 dT_prove_299 rfl (lv_at hl 3 rfl) ?_
      refine z_get F hK hP hinT 0 rfl rfl 15 (by decide) rfl wf_T_22 rfl dT_prove_300 ?_
      refine z_iconst (v := 1) F (by decide) dT_prove_303 ?_
      refine lv_lload F.1 F.2.1 dT_prove_304 (lv_at hl 1 rfl) ?_
      refine z_last F hK hP hD hS 5 1 rfl rfl (by omega) (by decide) dT_prove_306 (fun H locs hP hD hS => ?_)
      have hP : va_P (dC, dI) vwCl ([(y0, .inr (5, [.int (nI 0), .ref yR, .int (nI cn), .int (nI pb), .ref yV, .ref yI, .int (z_b md), .long (lN ta), .long (lN al), .long (lN be), .long (lN ga), .long (lN de), .long (lN va), .ref yX, .int (z_b pd), .ref yP, .ref yQ, .ref yS, .ref yD])), (yR, .inl (cL, 816, .inr (.inl (fun x9 => lN (f x9))))), (yV, .inl (cL, 16, .inr (.inl (fun x9 => lN (v x9))))), (yI, .inl (cL, 16, .inr (.inl (fun x9 => lN (inp x9))))), (yX, .inl (cL, 16, .inr (.inl (fun x9 => lN (mx x9))))), (yP, .inl (cL, 3, .inr (.inl (fun x9 => lN ((va_up (va_up el 0 ga2) 1 gb2) x9))))), (yQ, .inl (cL, 32, .inr (.inl (fun x9 => lN ((qtC (szN cn) (suR cn f v 2 (suR cn f v 1 (suR cn f v 0 su)))) x9))))), (yS, .inl (cL, 48, .inr (.inl (fun x9 => lN ((suR cn f v 2 (suR cn f v 1 (suR cn f v 0 su))) x9))))), (yD, .inl (cL, 32, .inr (.inl (fun x9 => lN (pr2 x9)))))]) H := hP
      have hD : va_D A ([(y0, .inr (5, [.int (nI 0), .ref yR, .int (nI cn), .int (nI pb), .ref yV, .ref yI, .int (z_b md), .long (lN ta), .long (lN al), .long (lN be), .long (lN ga), .long (lN de), .long (lN va), .ref yX, .int (z_b pd), .ref yP, .ref yQ, .ref yS, .ref yD])), (yR, .inl (cL, 816, .inr (.inl (fun x9 => lN (f x9))))), (yV, .inl (cL, 16, .inr (.inl (fun x9 => lN (v x9))))), (yI, .inl (cL, 16, .inr (.inl (fun x9 => lN (inp x9))))), (yX, .inl (cL, 16, .inr (.inl (fun x9 => lN (mx x9))))), (yP, .inl (cL, 3, .inr (.inl (fun x9 => lN ((va_up (va_up el 0 ga2) 1 gb2) x9))))), (yQ, .inl (cL, 32, .inr (.inl (fun x9 => lN ((qtC (szN cn) (suR cn f v 2 (suR cn f v 1 (suR cn f v 0 su)))) x9))))), (yS, .inl (cL, 48, .inr (.inl (fun x9 => lN ((suR cn f v 2 (suR cn f v 1 (suR cn f v 0 su))) x9))))), (yD, .inl (cL, 32, .inr (.inl (fun x9 => lN (pr2 x9)))))]) := hD
      refine lv_aload_n F.1 F.2.1 dT_prove_307 rfl (lv_at hl 3 rfl) ?_
      refine z_get F hK hP hinT 0 rfl rfl 15 (by decide) rfl wf_T_22 rfl dT_prove_308 ?_
      refine z_iconst (v := 2) F (by decide) dT_prove_311 ?_
      refine lv_lload F.1 F.2.1 dT_prove_312 (lv_at hl 0 rfl) ?_
      refine z_last F hK hP hD hS 5 1 rfl rfl (by omega) (by decide) dT_prove_314 (fun H locs hP hD hS => ?_)
      have hP : va_P (dC, dI) vwCl ([(y0, .inr (5, [.int (nI 0), .ref yR, .int (nI cn), .int (nI pb), .ref yV, .ref yI, .int (z_b md), .long (lN ta), .long (lN al), .long (lN be), .long (lN ga), .long (lN de), .long (lN va), .ref yX, .int (z_b pd), .ref yP, .ref yQ, .ref yS, .ref yD])), (yR, .inl (cL, 816, .inr (.inl (fun x9 => lN (f x9))))), (yV, .inl (cL, 16, .inr (.inl (fun x9 => lN (v x9))))), (yI, .inl (cL, 16, .inr (.inl (fun x9 => lN (inp x9))))), (yX, .inl (cL, 16, .inr (.inl (fun x9 => lN (mx x9))))), (yP, .inl (cL, 3, .inr (.inl (fun x9 => lN ((va_up (va_up (va_up el 0 ga2) 1 gb2) 2 (tC gg de ga2 gb2 x y)) x9))))), (yQ, .inl (cL, 32, .inr (.inl (fun x9 => lN ((qtC (szN cn) (suR cn f v 2 (suR cn f v 1 (suR cn f v 0 su)))) x9))))), (yS, .inl (cL, 48, .inr (.inl (fun x9 => lN ((suR cn f v 2 (suR cn f v 1 (suR cn f v 0 su))) x9))))), (yD, .inl (cL, 32, .inr (.inl (fun x9 => lN (pr2 x9)))))]) H := hP
      have hD : va_D A ([(y0, .inr (5, [.int (nI 0), .ref yR, .int (nI cn), .int (nI pb), .ref yV, .ref yI, .int (z_b md), .long (lN ta), .long (lN al), .long (lN be), .long (lN ga), .long (lN de), .long (lN va), .ref yX, .int (z_b pd), .ref yP, .ref yQ, .ref yS, .ref yD])), (yR, .inl (cL, 816, .inr (.inl (fun x9 => lN (f x9))))), (yV, .inl (cL, 16, .inr (.inl (fun x9 => lN (v x9))))), (yI, .inl (cL, 16, .inr (.inl (fun x9 => lN (inp x9))))), (yX, .inl (cL, 16, .inr (.inl (fun x9 => lN (mx x9))))), (yP, .inl (cL, 3, .inr (.inl (fun x9 => lN ((va_up (va_up (va_up el 0 ga2) 1 gb2) 2 (tC gg de ga2 gb2 x y)) x9))))), (yQ, .inl (cL, 32, .inr (.inl (fun x9 => lN ((qtC (szN cn) (suR cn f v 2 (suR cn f v 1 (suR cn f v 0 su)))) x9))))), (yS, .inl (cL, 48, .inr (.inl (fun x9 => lN ((suR cn f v 2 (suR cn f v 1 (suR cn f v 0 su))) x9))))), (yD, .inl (cL, 32, .inr (.inl (fun x9 => lN (pr2 x9)))))]) := hD
      refine lv_aload_n F.1 F.2.1 dT_prove_315 rfl (lv_at hl 3 rfl) ?_
      refine z_iconst (v := 1) F (by decide) dT_prove_316 ?_
      refine z_topV (z_b true) (by decide) ?_
      refine z_put F hK hP hD hS hinT tyT tyT_ok nmT 0 rfl rfl 14 (by decide) rfl rfl wf_T_119 (rfl) (rfl) (Nat.le_of_ble_eq_true rfl) dT_prove_317 (fun H locs hP hD hS => ?_)
      have hP : va_P (dC, dI) vwCl ([(y0, .inr (5, [.int (nI 0), .ref yR, .int (nI cn), .int (nI pb), .ref yV, .ref yI, .int (z_b md), .long (lN ta), .long (lN al), .long (lN be), .long (lN ga), .long (lN de), .long (lN va), .ref yX, .int (z_b true), .ref yP, .ref yQ, .ref yS, .ref yD])), (yR, .inl (cL, 816, .inr (.inl (fun x9 => lN (f x9))))), (yV, .inl (cL, 16, .inr (.inl (fun x9 => lN (v x9))))), (yI, .inl (cL, 16, .inr (.inl (fun x9 => lN (inp x9))))), (yX, .inl (cL, 16, .inr (.inl (fun x9 => lN (mx x9))))), (yP, .inl (cL, 3, .inr (.inl (fun x9 => lN ((va_up (va_up (va_up el 0 ga2) 1 gb2) 2 (tC gg de ga2 gb2 x y)) x9))))), (yQ, .inl (cL, 32, .inr (.inl (fun x9 => lN ((qtC (szN cn) (suR cn f v 2 (suR cn f v 1 (suR cn f v 0 su)))) x9))))), (yS, .inl (cL, 48, .inr (.inl (fun x9 => lN ((suR cn f v 2 (suR cn f v 1 (suR cn f v 0 su))) x9))))), (yD, .inl (cL, 32, .inr (.inl (fun x9 => lN (pr2 x9)))))]) H := hP
      have hD : va_D A ([(y0, .inr (5, [.int (nI 0), .ref yR, .int (nI cn), .int (nI pb), .ref yV, .ref yI, .int (z_b md), .long (lN ta), .long (lN al), .long (lN be), .long (lN ga), .long (lN de), .long (lN va), .ref yX, .int (z_b true), .ref yP, .ref yQ, .ref yS, .ref yD])), (yR, .inl (cL, 816, .inr (.inl (fun x9 => lN (f x9))))), (yV, .inl (cL, 16, .inr (.inl (fun x9 => lN (v x9))))), (yI, .inl (cL, 16, .inr (.inl (fun x9 => lN (inp x9))))), (yX, .inl (cL, 16, .inr (.inl (fun x9 => lN (mx x9))))), (yP, .inl (cL, 3, .inr (.inl (fun x9 => lN ((va_up (va_up (va_up el 0 ga2) 1 gb2) 2 (tC gg de ga2 gb2 x y)) x9))))), (yQ, .inl (cL, 32, .inr (.inl (fun x9 => lN ((qtC (szN cn) (suR cn f v 2 (suR cn f v 1 (suR cn f v 0 su)))) x9))))), (yS, .inl (cL, 48, .inr (.inl (fun x9 => lN ((suR cn f v 2 (suR cn f v 1 (suR cn f v 0 su))) x9))))), (yD, .inl (cL, 32, .inr (.inl (fun x9 => lN (pr2 x9)))))]) := hD
      refine z_iconst (v := 1) F (by decide) dT_prove_320 ?_
      refine z_topV (z_b true) (by decide) ?_
      subst hGe; subst hAe2; subst hBe
      exact W.zret F.1 F.2.1 hr rfl (fun t ht hWm => ⟨pr2, rfl, by rw [ht]; exact hP, va_K.moved hWm.alike hK, hD, hS.F ht⟩) hS.2.2 dT_prove_321
    · refine lv_lload F.1 F.2.1 dT_prove_192 (lv_at hl 1 rfl) ?_
      refine lv_aload_n F.1 F.2.1 dT_prove_194 rfl (lv_at hl 4 rfl) ?_
      refine z_get F hK hP hinT 0 rfl rfl 4 (by decide) rfl wf_T_13 rfl dT_prove_195 ?_
      refine lv_iload F.1 F.2.1 dT_prove_198 (lv_at hl 0 rfl) ?_
      refine z_lald F hK hP 2 1 rfl rfl (by omega) (by decide) dT_prove_200 ?_
      refine lv_aload_n F.1 F.2.1 dT_prove_201 rfl (lv_at hl 4 rfl) ?_
      refine z_get F hK hP hinT 0 rfl rfl 13 (by decide) rfl wf_T_19 rfl dT_prove_202 ?_
      refine lv_iload F.1 F.2.1 dT_prove_205 (lv_at hl 0 rfl) ?_
      refine z_lald F hK hP 4 1 rfl rfl (by omega) (by decide) dT_prove_207 ?_
      have hm4 := z_mb (a := v (pb + 1 + u)) (b := mx (pb + 1 + u)) (Nat.lt_trans (hv _) (by decide)) (Nat.lt_trans (hmx _) (by decide))
      have hgu := ltP ((tH ta (qtC (szN cn) (suR cn f v 2 (suR cn f v 1 (suR cn f v 0 su))))) * va % 998244353 + sg u (fun t => v (pb + 1 + t) * mx (pb + 1 + t)))
      refine z_lmul F dT_prove_208 ?_
      refine z_ladd F dT_prove_209 ?_
      refine z_ldc2 F 998244353 (v0 := 998244353) wk_T_38 rfl dT_prove_210 ?_
      refine z_lrem F (by omega) (by omega) (by omega) dT_prove_213 ?_
      refine z_topL (((tH ta (qtC (szN cn) (suR cn f v 2 (suR cn f v 1 (suR cn f v 0 su))))) * va % 998244353 + sg (u + 1) (fun t => v (pb + 1 + t) * mx (pb + 1 + t))) % 998244353) (sm3 _ u (fun t => v (pb + 1 + t) * mx (pb + 1 + t))) ?_
      refine lv_lstore F.1 F.2.1 (lv' := [(9, .long (lN (((tH ta (qtC (szN cn) (suR cn f v 2 (suR cn f v 1 (suR cn f v 0 su))))) * va % 998244353 + sg (u + 1) (fun t => v (pb + 1 + t) * mx (pb + 1 + t))) % 998244353))), (11, .int (nI (pb + 1 + u))), (7, .long (lN (tA be de y (szN cn) ta (suR cn f v 2 (suR cn f v 1 (suR cn f v 0 su))) 1))), (5, .long (lN (tA al de x (szN cn) ta (suR cn f v 2 (suR cn f v 1 (suR cn f v 0 su))) 0))), (0, .ref y0), (1, .int (nI x)), (2, .int (nI y))]) dT_prove_214 hl (by decide) rfl (fun ls hl => ?_)
      refine lv_iinc F.1 F.2.1 (k := 1) (v := nI (pb + 1 + u + 1)) (lv' := [(11, .int (nI (pb + 1 + u + 1))), (9, .long (lN (((tH ta (qtC (szN cn) (suR cn f v 2 (suR cn f v 1 (suR cn f v 0 su))))) * va % 998244353 + sg (u + 1) (fun t => v (pb + 1 + t) * mx (pb + 1 + t))) % 998244353))), (7, .long (lN (tA be de y (szN cn) ta (suR cn f v 2 (suR cn f v 1 (suR cn f v 0 su))) 1))), (5, .long (lN (tA al de x (szN cn) ta (suR cn f v 2 (suR cn f v 1 (suR cn f v 0 su))) 0))), (0, .ref y0), (1, .int (nI x)), (2, .int (nI y))]) dT_prove_216 hl rfl (nI_1 (pb + 1 + u)) (by decide) rfl (fun ls hl => ?_)
      have hl : lv_has ls 12 [(11, .int (nI (pb + 1 + (u + 1)))), (9, .long (lN (((tH ta (qtC (szN cn) (suR cn f v 2 (suR cn f v 1 (suR cn f v 0 su))))) * va % 998244353 + sg (u + 1) (fun t => v (pb + 1 + t) * mx (pb + 1 + t))) % 998244353))), (7, .long (lN (tA be de y (szN cn) ta (suR cn f v 2 (suR cn f v 1 (suR cn f v 0 su))) 1))), (5, .long (lN (tA al de x (szN cn) ta (suR cn f v 2 (suR cn f v 1 (suR cn f v 0 su))) 0))), (0, .ref y0), (1, .int (nI x)), (2, .int (nI y))] := hl
      refine lv_goto F.1 F.2.1 (tgt := 185) dT_prove_219 rfl ?_
      have hl : lv_has ls 12 [(11, .int (nI (pb + 1 + (u + 1)))), (9, .long (lN (((tH ta (qtC (szN cn) (suR cn f v 2 (suR cn f v 1 (suR cn f v 0 su))))) * va % 998244353 + sg (u + 1) (fun t => v (pb + 1 + t) * mx (pb + 1 + t))) % 998244353))), (7, .long (lN (tA be de y (szN cn) ta (suR cn f v 2 (suR cn f v 1 (suR cn f v 0 su))) 1))), (5, .long (lN (tA al de x (szN cn) ta (suR cn f v 2 (suR cn f v 1 (suR cn f v 0 su))) 0))), (0, .ref y0), (1, .int (nI x)), (2, .int (nI y))] := lv_sub hl [0, 1, 2, 3, 4, 5, 6] rfl
      exact ih2 (by omega)  ls  hl
  · refine lv_lload_n F.1 F.2.1 dT_prove_86 rfl (lv_at hl 1 rfl) ?_
    refine lv_aload_n F.1 F.2.1 dT_prove_87 rfl (lv_at hl 2 rfl) ?_
    refine z_get F hK hP hinT 0 rfl rfl 16 (by decide) rfl wf_T_25 rfl dT_prove_88 ?_
    refine lv_iload F.1 F.2.1 dT_prove_91 (lv_at hl 0 rfl) ?_
    refine z_lald F hK hP 6 1 rfl rfl (by omega) (by decide) dT_prove_93 ?_
    refine lv_aload_n F.1 F.2.1 dT_prove_94 rfl (lv_at hl 2 rfl) ?_
    refine z_get F hK hP hinT 0 rfl rfl 7 (by decide) rfl wf_T_83 rfl dT_prove_95 ?_
    refine lv_iload F.1 F.2.1 dT_prove_98 (lv_at hl 0 rfl) ?_
    refine z_i2l F (by omega) dT_prove_100 ?_
    refine z_call (z_runS [.long (lN ta), .long (lN k)] [.long (lN ((qtC (szN cn) (suR cn f v 2 (suR cn f v 1 (suR cn f v 0 su)))) k)), .long (lN (sg k (fun e => (qtC (szN cn) (suR cn f v 2 (suR cn f v 1 (suR cn f v 0 su)))) e * pw ta e) % 998244353))] F (ct_power l ta k (by omega) (by omega)) kk_T_power wl_T_42 rfl rfl ⟨Nat.le_of_ble_eq_true rfl, Nat.le_of_ble_eq_true rfl⟩ z_preN rfl hl.1 rfl (Nat.le_of_ble_eq_true rfl) dT_prove_101 ⟨Nat.zero_le _, Nat.zero_le _⟩) ?_
    have hm := z_mb (a := (qtC (szN cn) (suR cn f v 2 (suR cn f v 1 (suR cn f v 0 su)))) k) (b := pw ta k) (Nat.lt_trans (hqt2 _) (by decide)) (Nat.lt_trans (pw_lt _ _) (by decide))
    refine z_lmul F dT_prove_104 ?_
    refine z_ladd F dT_prove_105 ?_
    refine z_ldc2 F 998244353 (v0 := 998244353) wk_T_38 rfl dT_prove_106 ?_
    refine z_lrem F (by omega) (by omega) (by omega) dT_prove_109 ?_
    refine z_topL (sg (k + 1) (fun e => (qtC (szN cn) (suR cn f v 2 (suR cn f v 1 (suR cn f v 0 su)))) e * pw ta e) % 998244353) (sm2 k (fun e => (qtC (szN cn) (suR cn f v 2 (suR cn f v 1 (suR cn f v 0 su)))) e * pw ta e)) ?_
    refine lv_lstore_n F.1 F.2.1 (lv' := [(3, .long (lN (sg (k + 1) (fun e => (qtC (szN cn) (suR cn f v 2 (suR cn f v 1 (suR cn f v 0 su)))) e * pw ta e) % 998244353))), (5, .int (nI k)), (0, .ref y0), (1, .int (nI x)), (2, .int (nI y))]) dT_prove_110 rfl hl (by decide) rfl (fun ls hl => ?_)
    refine lv_iinc F.1 F.2.1 (k := 1) (v := nI (k + 1)) (lv' := [(5, .int (nI (k + 1))), (3, .long (lN (sg (k + 1) (fun e => (qtC (szN cn) (suR cn f v 2 (suR cn f v 1 (suR cn f v 0 su)))) e * pw ta e) % 998244353))), (0, .ref y0), (1, .int (nI x)), (2, .int (nI y))]) dT_prove_111 hl rfl (nI_1 k) (by decide) rfl (fun ls hl => ?_)
    refine lv_goto F.1 F.2.1 (tgt := 79) dT_prove_114 rfl ?_
    have hl : lv_has ls 12 [(5, .int (nI ((k + 1)))), (3, .long (lN (sg (k + 1) (fun e => (qtC (szN cn) (suR cn f v 2 (suR cn f v 1 (suR cn f v 0 su)))) e * pw ta e) % 998244353))), (0, .ref y0), (1, .int (nI x)), (2, .int (nI y))] := lv_sub hl [0, 1, 2, 3, 4] rfl
    exact ih (by omega)  ls  hl
set_option maxHeartbeats 4000000 in
set_option maxRecDepth 100000 in
theorem ct_prove_no (l : Launch) (dC : Nat → ClassId) (dI : Nat → Nat → Nat) (cI cL : ClassId) (zz : Nat) (y0 yR yV yI yX yP yQ yS yD : Nat) (th cn pb ta al be ga de va : Nat) (md pd : Bool) (f v inp mx el qt su pr : Nat → Nat) (x y : Int32) (hq : (bl x 998244353 && bl y 998244353) = false) : Met l yT_prove (zW yT_prove cT_prove 12 (.some .boolean)) ({ frames := 1, cells := 0, slots := 0, locals := 20 }) (va_Pc [.ref y0, .int x, .int y] (z_P (dC, dI) vwCl [(cI, .int), (cL, .long)] zz ([(y0, .inr (5, [.int (nI th), .ref yR, .int (nI cn), .int (nI pb), .ref yV, .ref yI, .int (z_b md), .long (lN ta), .long (lN al), .long (lN be), .long (lN ga), .long (lN de), .long (lN va), .ref yX, .int (z_b pd), .ref yP, .ref yQ, .ref yS, .ref yD])), (yR, .inl (cL, 816, .inr (.inl (fun x9 => lN (f x9))))), (yV, .inl (cL, 16, .inr (.inl (fun x9 => lN (v x9))))), (yI, .inl (cL, 16, .inr (.inl (fun x9 => lN (inp x9))))), (yX, .inl (cL, 16, .inr (.inl (fun x9 => lN (mx x9))))), (yP, .inl (cL, 3, .inr (.inl (fun x9 => lN (el x9))))), (yQ, .inl (cL, 32, .inr (.inl (fun x9 => lN (qt x9))))), (yS, .inl (cL, 48, .inr (.inl (fun x9 => lN (su x9))))), (yD, .inl (cL, 32, .inr (.inl (fun x9 => lN (pr x9)))))]))) (z_Q (dC, dI) vwCl [(cI, .int), (cL, .long)] (some (.int (z_b false))) ([(y0, .inr (5, [.int (nI 1), .ref yR, .int (nI cn), .int (nI pb), .ref yV, .ref yI, .int (z_b md), .long (lN ta), .long (lN al), .long (lN be), .long (lN ga), .long (lN de), .long (lN va), .ref yX, .int (z_b pd), .ref yP, .ref yQ, .ref yS, .ref yD])), (yR, .inl (cL, 816, .inr (.inl (fun x9 => lN (f x9))))), (yV, .inl (cL, 16, .inr (.inl (fun x9 => lN (v x9))))), (yI, .inl (cL, 16, .inr (.inl (fun x9 => lN (inp x9))))), (yX, .inl (cL, 16, .inr (.inl (fun x9 => lN (mx x9))))), (yP, .inl (cL, 3, .inr (.inl (fun x9 => lN (el x9))))), (yQ, .inl (cL, 32, .inr (.inl (fun x9 => lN (qt x9))))), (yS, .inl (cL, 48, .inr (.inl (fun x9 => lN (su x9))))), (yD, .inl (cL, 32, .inr (.inl (fun x9 => lN (pr x9)))))]) (va_A ([(y0, .inr (5, [.int (nI th), .ref yR, .int (nI cn), .int (nI pb), .ref yV, .ref yI, .int (z_b md), .long (lN ta), .long (lN al), .long (lN be), .long (lN ga), .long (lN de), .long (lN va), .ref yX, .int (z_b pd), .ref yP, .ref yQ, .ref yS, .ref yD])), (yR, .inl (cL, 816, .inr (.inl (fun x9 => lN (f x9))))), (yV, .inl (cL, 16, .inr (.inl (fun x9 => lN (v x9))))), (yI, .inl (cL, 16, .inr (.inl (fun x9 => lN (inp x9))))), (yX, .inl (cL, 16, .inr (.inl (fun x9 => lN (mx x9))))), (yP, .inl (cL, 3, .inr (.inl (fun x9 => lN (el x9))))), (yQ, .inl (cL, 32, .inr (.inl (fun x9 => lN (qt x9))))), (yS, .inl (cL, 48, .inr (.inl (fun x9 => lN (su x9))))), (yD, .inl (cL, 32, .inr (.inl (fun x9 => lN (pr x9)))))]) zz)) 0 0 (va_A ([(y0, .inr (5, [.int (nI th), .ref yR, .int (nI cn), .int (nI pb), .ref yV, .ref yI, .int (z_b md), .long (lN ta), .long (lN al), .long (lN be), .long (lN ga), .long (lN de), .long (lN va), .ref yX, .int (z_b pd), .ref yP, .ref yQ, .ref yS, .ref yD])), (yR, .inl (cL, 816, .inr (.inl (fun x9 => lN (f x9))))), (yV, .inl (cL, 16, .inr (.inl (fun x9 => lN (v x9))))), (yI, .inl (cL, 16, .inr (.inl (fun x9 => lN (inp x9))))), (yX, .inl (cL, 16, .inr (.inl (fun x9 => lN (mx x9))))), (yP, .inl (cL, 3, .inr (.inl (fun x9 => lN (el x9))))), (yQ, .inl (cL, 32, .inr (.inl (fun x9 => lN (qt x9))))), (yS, .inl (cL, 48, .inr (.inl (fun x9 => lN (su x9))))), (yD, .inl (cL, 32, .inr (.inl (fun x9 => lN (pr x9)))))]) zz) := by
  refine Met.ofW (cc := cT_prove) (maxL := 12) (ret := (.some .boolean)) (by decide) rfl ?_
  intro p e s m args below meth c s₁ B hml hv
  obtain ⟨rfl, hsz, hP, hK, hD0⟩ := hv
  have F : CallFix p m c cT_prove 12 s _ zT RT := ⟨B.exec, B.bytes, hml, findClass_of_methodNamed B.named, fun w h => atoms_spec (ws := (zW yT_prove cT_prove 12 (.some .boolean))) B.pre w (List.mem_cons_of_mem _ h)⟩
  have hr := B.returns
  have hlocks := B.notSynchronized
  subst hsz
  have hD := hD0.self (sz := s.heap.size)
  generalize hAe : va_A ([(y0, .inr (5, [.int (nI th), .ref yR, .int (nI cn), .int (nI pb), .ref yV, .ref yI, .int (z_b md), .long (lN ta), .long (lN al), .long (lN be), .long (lN ga), .long (lN de), .long (lN va), .ref yX, .int (z_b pd), .ref yP, .ref yQ, .ref yS, .ref yD])), (yR, .inl (cL, 816, .inr (.inl (fun x9 => lN (f x9))))), (yV, .inl (cL, 16, .inr (.inl (fun x9 => lN (v x9))))), (yI, .inl (cL, 16, .inr (.inl (fun x9 => lN (inp x9))))), (yX, .inl (cL, 16, .inr (.inl (fun x9 => lN (mx x9))))), (yP, .inl (cL, 3, .inr (.inl (fun x9 => lN (el x9))))), (yQ, .inl (cL, 32, .inr (.inl (fun x9 => lN (qt x9))))), (yS, .inl (cL, 48, .inr (.inl (fun x9 => lN (su x9))))), (yD, .inl (cL, 32, .inr (.inl (fun x9 => lN (pr x9)))))]) s.heap.size = A at hD ⊢
  have hAA : ∀ q : Nat, s.heap.size ≤ q → A q := fun q h => by rw [← hAe]; exact Or.inr h
  have hS : va_S A s.heap s.heap [] := va_S.rf
  have hl := lv_entry ([.ref y0, .int x, .int y]) (n := 12) (Nat.le_of_ble_eq_true rfl)
  rw [lg_entry_eq]
  generalize (lg_sl ([.ref y0, .int x, .int y]) ++ List.replicate (12 - (lg_sl ([.ref y0, .int x, .int y])).length) Slot.unset).toArray = ls at hl ⊢
  have hl : lv_has ls 12 [(0, .ref y0), (1, .int x), (2, .int y)] := hl
  refine lv_aload_n F.1 F.2.1 dT_prove_0 rfl (lv_at hl 0 rfl) ?_
  refine lv_iload_n F.1 F.2.1 dT_prove_1 rfl (lv_at hl 1 rfl) ?_
  refine z_call (z_runS [.int x] [.ref y0] F (ct_isNumber l x) kk_T_isNumber wl_T_49 rfl rfl ⟨Nat.le_of_ble_eq_true rfl, Nat.le_of_ble_eq_true rfl⟩ z_preN rfl hl.1 rfl (Nat.le_of_ble_eq_true rfl) dT_prove_2 ⟨Nat.zero_le _, Nat.zero_le _⟩) ?_
  refine z_ifb_eq F (tgt := 15) dT_prove_5 rfl (fun h1 => ?_) (fun h1 => ?_)
  · refine z_iconst (v := 1) F (by decide) dT_prove_15 ?_
    refine lv_goto F.1 F.2.1 (tgt := 43) dT_prove_16 rfl ?_
    refine z_put F hK hP hD hS hinT tyT tyT_ok nmT 0 rfl rfl 0 (by decide) rfl rfl wf_T_34 (rfl) (rfl) (Nat.le_of_ble_eq_true rfl) dT_prove_43 (fun H locs hP hD hS => ?_)
    have hP : va_P (dC, dI) vwCl ([(y0, .inr (5, [.int (nI 1), .ref yR, .int (nI cn), .int (nI pb), .ref yV, .ref yI, .int (z_b md), .long (lN ta), .long (lN al), .long (lN be), .long (lN ga), .long (lN de), .long (lN va), .ref yX, .int (z_b pd), .ref yP, .ref yQ, .ref yS, .ref yD])), (yR, .inl (cL, 816, .inr (.inl (fun x9 => lN (f x9))))), (yV, .inl (cL, 16, .inr (.inl (fun x9 => lN (v x9))))), (yI, .inl (cL, 16, .inr (.inl (fun x9 => lN (inp x9))))), (yX, .inl (cL, 16, .inr (.inl (fun x9 => lN (mx x9))))), (yP, .inl (cL, 3, .inr (.inl (fun x9 => lN (el x9))))), (yQ, .inl (cL, 32, .inr (.inl (fun x9 => lN (qt x9))))), (yS, .inl (cL, 48, .inr (.inl (fun x9 => lN (su x9))))), (yD, .inl (cL, 32, .inr (.inl (fun x9 => lN (pr x9)))))]) H := hP
    have hD : va_D A ([(y0, .inr (5, [.int (nI 1), .ref yR, .int (nI cn), .int (nI pb), .ref yV, .ref yI, .int (z_b md), .long (lN ta), .long (lN al), .long (lN be), .long (lN ga), .long (lN de), .long (lN va), .ref yX, .int (z_b pd), .ref yP, .ref yQ, .ref yS, .ref yD])), (yR, .inl (cL, 816, .inr (.inl (fun x9 => lN (f x9))))), (yV, .inl (cL, 16, .inr (.inl (fun x9 => lN (v x9))))), (yI, .inl (cL, 16, .inr (.inl (fun x9 => lN (inp x9))))), (yX, .inl (cL, 16, .inr (.inl (fun x9 => lN (mx x9))))), (yP, .inl (cL, 3, .inr (.inl (fun x9 => lN (el x9))))), (yQ, .inl (cL, 32, .inr (.inl (fun x9 => lN (qt x9))))), (yS, .inl (cL, 48, .inr (.inl (fun x9 => lN (su x9))))), (yD, .inl (cL, 32, .inr (.inl (fun x9 => lN (pr x9)))))]) := hD
    refine lv_aload_n F.1 F.2.1 dT_prove_46 rfl (lv_at hl 0 rfl) ?_
    refine z_get F hK hP hinT 0 rfl rfl 0 (by decide) rfl wf_T_34 rfl dT_prove_47 ?_
    refine z_if_le F (by omega) (tgt := 55) dT_prove_50 rfl (fun h => absurd h (by decide)) (fun h => ?_)
    refine z_iconst (v := 0) F (by decide) dT_prove_53 ?_
    refine z_topV (z_b false) (by decide) ?_
    exact W.zret F.1 F.2.1 hr rfl (fun t ht hW => ⟨rfl, by rw [ht]; exact hP, va_K.moved hW.alike hK, hD, hS.F ht⟩) hS.2.2 dT_prove_54
  · rw [h1, Bool.true_and] at hq
    refine lv_iload_n F.1 F.2.1 dT_prove_8 rfl (lv_at hl 2 rfl) ?_
    refine z_call (z_runS [.int y] [.ref y0] F (ct_isNumber l y) kk_T_isNumber wl_T_49 rfl rfl ⟨Nat.le_of_ble_eq_true rfl, Nat.le_of_ble_eq_true rfl⟩ z_preN rfl hl.1 rfl (Nat.le_of_ble_eq_true rfl) dT_prove_9 ⟨Nat.zero_le _, Nat.zero_le _⟩) ?_
    refine z_ifb_ne F (tgt := 19) dT_prove_12 rfl (fun h => by rw [hq] at h; cases h) (fun h => ?_)
    refine z_iconst (v := 1) F (by decide) dT_prove_15 ?_
    refine lv_goto F.1 F.2.1 (tgt := 43) dT_prove_16 rfl ?_
    refine z_put F hK hP hD hS hinT tyT tyT_ok nmT 0 rfl rfl 0 (by decide) rfl rfl wf_T_34 (rfl) (rfl) (Nat.le_of_ble_eq_true rfl) dT_prove_43 (fun H locs hP hD hS => ?_)
    have hP : va_P (dC, dI) vwCl ([(y0, .inr (5, [.int (nI 1), .ref yR, .int (nI cn), .int (nI pb), .ref yV, .ref yI, .int (z_b md), .long (lN ta), .long (lN al), .long (lN be), .long (lN ga), .long (lN de), .long (lN va), .ref yX, .int (z_b pd), .ref yP, .ref yQ, .ref yS, .ref yD])), (yR, .inl (cL, 816, .inr (.inl (fun x9 => lN (f x9))))), (yV, .inl (cL, 16, .inr (.inl (fun x9 => lN (v x9))))), (yI, .inl (cL, 16, .inr (.inl (fun x9 => lN (inp x9))))), (yX, .inl (cL, 16, .inr (.inl (fun x9 => lN (mx x9))))), (yP, .inl (cL, 3, .inr (.inl (fun x9 => lN (el x9))))), (yQ, .inl (cL, 32, .inr (.inl (fun x9 => lN (qt x9))))), (yS, .inl (cL, 48, .inr (.inl (fun x9 => lN (su x9))))), (yD, .inl (cL, 32, .inr (.inl (fun x9 => lN (pr x9)))))]) H := hP
    have hD : va_D A ([(y0, .inr (5, [.int (nI 1), .ref yR, .int (nI cn), .int (nI pb), .ref yV, .ref yI, .int (z_b md), .long (lN ta), .long (lN al), .long (lN be), .long (lN ga), .long (lN de), .long (lN va), .ref yX, .int (z_b pd), .ref yP, .ref yQ, .ref yS, .ref yD])), (yR, .inl (cL, 816, .inr (.inl (fun x9 => lN (f x9))))), (yV, .inl (cL, 16, .inr (.inl (fun x9 => lN (v x9))))), (yI, .inl (cL, 16, .inr (.inl (fun x9 => lN (inp x9))))), (yX, .inl (cL, 16, .inr (.inl (fun x9 => lN (mx x9))))), (yP, .inl (cL, 3, .inr (.inl (fun x9 => lN (el x9))))), (yQ, .inl (cL, 32, .inr (.inl (fun x9 => lN (qt x9))))), (yS, .inl (cL, 48, .inr (.inl (fun x9 => lN (su x9))))), (yD, .inl (cL, 32, .inr (.inl (fun x9 => lN (pr x9)))))]) := hD
    refine lv_aload_n F.1 F.2.1 dT_prove_46 rfl (lv_at hl 0 rfl) ?_
    refine z_get F hK hP hinT 0 rfl rfl 0 (by decide) rfl wf_T_34 rfl dT_prove_47 ?_
    refine z_if_le F (by omega) (tgt := 55) dT_prove_50 rfl (fun h => absurd h (by decide)) (fun h => ?_)
    refine z_iconst (v := 0) F (by decide) dT_prove_53 ?_
    refine z_topV (z_b false) (by decide) ?_
    exact W.zret F.1 F.2.1 hr rfl (fun t ht hW => ⟨rfl, by rw [ht]; exact hP, va_K.moved hW.alike hK, hD, hS.F ht⟩) hS.2.2 dT_prove_54
set_option maxHeartbeats 4000000 in
set_option maxRecDepth 100000 in
theorem ct_prove_nk (l : Launch) (dC : Nat → ClassId) (dI : Nat → Nat → Nat) (cI cL : ClassId) (zz : Nat) (y0 yR yV yI yX yP yQ yS yD : Nat) (th cn pb ta al be ga de va : Nat) (md pd : Bool) (f v inp mx el qt su pr : Nat → Nat) (x y : Nat) (hx : x < 998244353) (hy : y < 998244353) (hmd : md = false) : Met l yT_prove (zW yT_prove cT_prove 12 (.some .boolean)) ({ frames := 1, cells := 0, slots := 0, locals := 20 }) (va_Pc [.ref y0, .int (nI x), .int (nI y)] (z_P (dC, dI) vwCl [(cI, .int), (cL, .long)] zz ([(y0, .inr (5, [.int (nI th), .ref yR, .int (nI cn), .int (nI pb), .ref yV, .ref yI, .int (z_b md), .long (lN ta), .long (lN al), .long (lN be), .long (lN ga), .long (lN de), .long (lN va), .ref yX, .int (z_b pd), .ref yP, .ref yQ, .ref yS, .ref yD])), (yR, .inl (cL, 816, .inr (.inl (fun x9 => lN (f x9))))), (yV, .inl (cL, 16, .inr (.inl (fun x9 => lN (v x9))))), (yI, .inl (cL, 16, .inr (.inl (fun x9 => lN (inp x9))))), (yX, .inl (cL, 16, .inr (.inl (fun x9 => lN (mx x9))))), (yP, .inl (cL, 3, .inr (.inl (fun x9 => lN (el x9))))), (yQ, .inl (cL, 32, .inr (.inl (fun x9 => lN (qt x9))))), (yS, .inl (cL, 48, .inr (.inl (fun x9 => lN (su x9))))), (yD, .inl (cL, 32, .inr (.inl (fun x9 => lN (pr x9)))))]))) (z_Q (dC, dI) vwCl [(cI, .int), (cL, .long)] (some (.int (z_b false))) ([(y0, .inr (5, [.int (nI 2), .ref yR, .int (nI cn), .int (nI pb), .ref yV, .ref yI, .int (z_b md), .long (lN ta), .long (lN al), .long (lN be), .long (lN ga), .long (lN de), .long (lN va), .ref yX, .int (z_b pd), .ref yP, .ref yQ, .ref yS, .ref yD])), (yR, .inl (cL, 816, .inr (.inl (fun x9 => lN (f x9))))), (yV, .inl (cL, 16, .inr (.inl (fun x9 => lN (v x9))))), (yI, .inl (cL, 16, .inr (.inl (fun x9 => lN (inp x9))))), (yX, .inl (cL, 16, .inr (.inl (fun x9 => lN (mx x9))))), (yP, .inl (cL, 3, .inr (.inl (fun x9 => lN (el x9))))), (yQ, .inl (cL, 32, .inr (.inl (fun x9 => lN (qt x9))))), (yS, .inl (cL, 48, .inr (.inl (fun x9 => lN (su x9))))), (yD, .inl (cL, 32, .inr (.inl (fun x9 => lN (pr x9)))))]) (va_A ([(y0, .inr (5, [.int (nI th), .ref yR, .int (nI cn), .int (nI pb), .ref yV, .ref yI, .int (z_b md), .long (lN ta), .long (lN al), .long (lN be), .long (lN ga), .long (lN de), .long (lN va), .ref yX, .int (z_b pd), .ref yP, .ref yQ, .ref yS, .ref yD])), (yR, .inl (cL, 816, .inr (.inl (fun x9 => lN (f x9))))), (yV, .inl (cL, 16, .inr (.inl (fun x9 => lN (v x9))))), (yI, .inl (cL, 16, .inr (.inl (fun x9 => lN (inp x9))))), (yX, .inl (cL, 16, .inr (.inl (fun x9 => lN (mx x9))))), (yP, .inl (cL, 3, .inr (.inl (fun x9 => lN (el x9))))), (yQ, .inl (cL, 32, .inr (.inl (fun x9 => lN (qt x9))))), (yS, .inl (cL, 48, .inr (.inl (fun x9 => lN (su x9))))), (yD, .inl (cL, 32, .inr (.inl (fun x9 => lN (pr x9)))))]) zz)) 0 0 (va_A ([(y0, .inr (5, [.int (nI th), .ref yR, .int (nI cn), .int (nI pb), .ref yV, .ref yI, .int (z_b md), .long (lN ta), .long (lN al), .long (lN be), .long (lN ga), .long (lN de), .long (lN va), .ref yX, .int (z_b pd), .ref yP, .ref yQ, .ref yS, .ref yD])), (yR, .inl (cL, 816, .inr (.inl (fun x9 => lN (f x9))))), (yV, .inl (cL, 16, .inr (.inl (fun x9 => lN (v x9))))), (yI, .inl (cL, 16, .inr (.inl (fun x9 => lN (inp x9))))), (yX, .inl (cL, 16, .inr (.inl (fun x9 => lN (mx x9))))), (yP, .inl (cL, 3, .inr (.inl (fun x9 => lN (el x9))))), (yQ, .inl (cL, 32, .inr (.inl (fun x9 => lN (qt x9))))), (yS, .inl (cL, 48, .inr (.inl (fun x9 => lN (su x9))))), (yD, .inl (cL, 32, .inr (.inl (fun x9 => lN (pr x9)))))]) zz) := by
  refine Met.ofW (cc := cT_prove) (maxL := 12) (ret := (.some .boolean)) (by decide) rfl ?_
  intro p e s m args below meth c s₁ B hml hv
  obtain ⟨rfl, hsz, hP, hK, hD0⟩ := hv
  have F : CallFix p m c cT_prove 12 s _ zT RT := ⟨B.exec, B.bytes, hml, findClass_of_methodNamed B.named, fun w h => atoms_spec (ws := (zW yT_prove cT_prove 12 (.some .boolean))) B.pre w (List.mem_cons_of_mem _ h)⟩
  have hr := B.returns
  have hlocks := B.notSynchronized
  subst hsz
  have hD := hD0.self (sz := s.heap.size)
  generalize hAe : va_A ([(y0, .inr (5, [.int (nI th), .ref yR, .int (nI cn), .int (nI pb), .ref yV, .ref yI, .int (z_b md), .long (lN ta), .long (lN al), .long (lN be), .long (lN ga), .long (lN de), .long (lN va), .ref yX, .int (z_b pd), .ref yP, .ref yQ, .ref yS, .ref yD])), (yR, .inl (cL, 816, .inr (.inl (fun x9 => lN (f x9))))), (yV, .inl (cL, 16, .inr (.inl (fun x9 => lN (v x9))))), (yI, .inl (cL, 16, .inr (.inl (fun x9 => lN (inp x9))))), (yX, .inl (cL, 16, .inr (.inl (fun x9 => lN (mx x9))))), (yP, .inl (cL, 3, .inr (.inl (fun x9 => lN (el x9))))), (yQ, .inl (cL, 32, .inr (.inl (fun x9 => lN (qt x9))))), (yS, .inl (cL, 48, .inr (.inl (fun x9 => lN (su x9))))), (yD, .inl (cL, 32, .inr (.inl (fun x9 => lN (pr x9)))))]) s.heap.size = A at hD ⊢
  have hAA : ∀ q : Nat, s.heap.size ≤ q → A q := fun q h => by rw [← hAe]; exact Or.inr h
  have hS : va_S A s.heap s.heap [] := va_S.rf
  have hl := lv_entry ([.ref y0, .int (nI x), .int (nI y)]) (n := 12) (Nat.le_of_ble_eq_true rfl)
  rw [lg_entry_eq]
  generalize (lg_sl ([.ref y0, .int (nI x), .int (nI y)]) ++ List.replicate (12 - (lg_sl ([.ref y0, .int (nI x), .int (nI y)])).length) Slot.unset).toArray = ls at hl ⊢
  have hl : lv_has ls 12 [(0, .ref y0), (1, .int (nI x)), (2, .int (nI y))] := hl
  refine lv_aload_n F.1 F.2.1 dT_prove_0 rfl (lv_at hl 0 rfl) ?_
  refine lv_iload_n F.1 F.2.1 dT_prove_1 rfl (lv_at hl 1 rfl) ?_
  refine z_call (z_runS [.int (nI x)] [.ref y0] F (ct_isNumber_t l x (by omega)) kk_T_isNumber wl_T_49 rfl rfl ⟨Nat.le_of_ble_eq_true rfl, Nat.le_of_ble_eq_true rfl⟩ z_preN rfl hl.1 rfl (Nat.le_of_ble_eq_true rfl) dT_prove_2 ⟨Nat.zero_le _, Nat.zero_le _⟩) ?_
  refine z_if_eq F (by omega) (tgt := 15) dT_prove_5 rfl (fun h => absurd h (by decide)) (fun h => ?_)
  refine lv_iload_n F.1 F.2.1 dT_prove_8 rfl (lv_at hl 2 rfl) ?_
  refine z_call (z_runS [.int (nI y)] [.ref y0] F (ct_isNumber_t l y (by omega)) kk_T_isNumber wl_T_49 rfl rfl ⟨Nat.le_of_ble_eq_true rfl, Nat.le_of_ble_eq_true rfl⟩ z_preN rfl hl.1 rfl (Nat.le_of_ble_eq_true rfl) dT_prove_9 ⟨Nat.zero_le _, Nat.zero_le _⟩) ?_
  refine z_if_ne F (by omega) (tgt := 19) dT_prove_12 rfl (fun h => ?_) (fun h => absurd h (by decide))
  refine lv_aload_n F.1 F.2.1 dT_prove_19 rfl (lv_at hl 0 rfl) ?_
  refine z_get F hK hP hinT 0 rfl rfl 6 (by decide) rfl wf_T_53 rfl dT_prove_20 ?_
  refine z_ifb_ne F (tgt := 30) dT_prove_23 rfl (fun h => by rw [hmd] at h; cases h) (fun h => ?_)
  refine z_iconst (v := 2) F (by decide) dT_prove_26 ?_
  refine lv_goto F.1 F.2.1 (tgt := 43) dT_prove_27 rfl ?_
  refine z_put F hK hP hD hS hinT tyT tyT_ok nmT 0 rfl rfl 0 (by decide) rfl rfl wf_T_34 (rfl) (rfl) (Nat.le_of_ble_eq_true rfl) dT_prove_43 (fun H locs hP hD hS => ?_)
  have hP : va_P (dC, dI) vwCl ([(y0, .inr (5, [.int (nI 2), .ref yR, .int (nI cn), .int (nI pb), .ref yV, .ref yI, .int (z_b md), .long (lN ta), .long (lN al), .long (lN be), .long (lN ga), .long (lN de), .long (lN va), .ref yX, .int (z_b pd), .ref yP, .ref yQ, .ref yS, .ref yD])), (yR, .inl (cL, 816, .inr (.inl (fun x9 => lN (f x9))))), (yV, .inl (cL, 16, .inr (.inl (fun x9 => lN (v x9))))), (yI, .inl (cL, 16, .inr (.inl (fun x9 => lN (inp x9))))), (yX, .inl (cL, 16, .inr (.inl (fun x9 => lN (mx x9))))), (yP, .inl (cL, 3, .inr (.inl (fun x9 => lN (el x9))))), (yQ, .inl (cL, 32, .inr (.inl (fun x9 => lN (qt x9))))), (yS, .inl (cL, 48, .inr (.inl (fun x9 => lN (su x9))))), (yD, .inl (cL, 32, .inr (.inl (fun x9 => lN (pr x9)))))]) H := hP
  have hD : va_D A ([(y0, .inr (5, [.int (nI 2), .ref yR, .int (nI cn), .int (nI pb), .ref yV, .ref yI, .int (z_b md), .long (lN ta), .long (lN al), .long (lN be), .long (lN ga), .long (lN de), .long (lN va), .ref yX, .int (z_b pd), .ref yP, .ref yQ, .ref yS, .ref yD])), (yR, .inl (cL, 816, .inr (.inl (fun x9 => lN (f x9))))), (yV, .inl (cL, 16, .inr (.inl (fun x9 => lN (v x9))))), (yI, .inl (cL, 16, .inr (.inl (fun x9 => lN (inp x9))))), (yX, .inl (cL, 16, .inr (.inl (fun x9 => lN (mx x9))))), (yP, .inl (cL, 3, .inr (.inl (fun x9 => lN (el x9))))), (yQ, .inl (cL, 32, .inr (.inl (fun x9 => lN (qt x9))))), (yS, .inl (cL, 48, .inr (.inl (fun x9 => lN (su x9))))), (yD, .inl (cL, 32, .inr (.inl (fun x9 => lN (pr x9)))))]) := hD
  refine lv_aload_n F.1 F.2.1 dT_prove_46 rfl (lv_at hl 0 rfl) ?_
  refine z_get F hK hP hinT 0 rfl rfl 0 (by decide) rfl wf_T_34 rfl dT_prove_47 ?_
  refine z_if_le F (by omega) (tgt := 55) dT_prove_50 rfl (fun h => absurd h (by decide)) (fun h => ?_)
  refine z_iconst (v := 0) F (by decide) dT_prove_53 ?_
  refine z_topV (z_b false) (by decide) ?_
  exact W.zret F.1 F.2.1 hr rfl (fun t ht hW => ⟨rfl, by rw [ht]; exact hP, va_K.moved hW.alike hK, hD, hS.F ht⟩) hS.2.2 dT_prove_54
set_option maxHeartbeats 4000000 in
set_option maxRecDepth 100000 in
theorem ct_prove_np (l : Launch) (dC : Nat → ClassId) (dI : Nat → Nat → Nat) (cI cL : ClassId) (zz : Nat) (y0 yR yV yI yX yP yQ yS yD : Nat) (th cn pb ta al be ga de va : Nat) (md pd : Bool) (f v inp mx el qt su pr : Nat → Nat) (x y : Nat) (hx : x < 998244353) (hy : y < 998244353) (hmd : md = true) (hop : ¬ fo (bad f v) 0 cn = -1) (hn : cn ≤ 16) (hf : ∀ j, f j < 998244353) (hv : ∀ j, v j < 998244353) : Met l yT_prove (zW yT_prove cT_prove 12 (.some .boolean)) ({ frames := 2, cells := 0, slots := 0, locals := 48 }) (va_Pc [.ref y0, .int (nI x), .int (nI y)] (z_P (dC, dI) vwCl [(cI, .int), (cL, .long)] zz ([(y0, .inr (5, [.int (nI th), .ref yR, .int (nI cn), .int (nI pb), .ref yV, .ref yI, .int (z_b md), .long (lN ta), .long (lN al), .long (lN be), .long (lN ga), .long (lN de), .long (lN va), .ref yX, .int (z_b pd), .ref yP, .ref yQ, .ref yS, .ref yD])), (yR, .inl (cL, 816, .inr (.inl (fun x9 => lN (f x9))))), (yV, .inl (cL, 16, .inr (.inl (fun x9 => lN (v x9))))), (yI, .inl (cL, 16, .inr (.inl (fun x9 => lN (inp x9))))), (yX, .inl (cL, 16, .inr (.inl (fun x9 => lN (mx x9))))), (yP, .inl (cL, 3, .inr (.inl (fun x9 => lN (el x9))))), (yQ, .inl (cL, 32, .inr (.inl (fun x9 => lN (qt x9))))), (yS, .inl (cL, 48, .inr (.inl (fun x9 => lN (su x9))))), (yD, .inl (cL, 32, .inr (.inl (fun x9 => lN (pr x9)))))]))) (z_Q (dC, dI) vwCl [(cI, .int), (cL, .long)] (some (.int (z_b false))) ([(y0, .inr (5, [.int (nI 3), .ref yR, .int (nI cn), .int (nI pb), .ref yV, .ref yI, .int (z_b md), .long (lN ta), .long (lN al), .long (lN be), .long (lN ga), .long (lN de), .long (lN va), .ref yX, .int (z_b pd), .ref yP, .ref yQ, .ref yS, .ref yD])), (yR, .inl (cL, 816, .inr (.inl (fun x9 => lN (f x9))))), (yV, .inl (cL, 16, .inr (.inl (fun x9 => lN (v x9))))), (yI, .inl (cL, 16, .inr (.inl (fun x9 => lN (inp x9))))), (yX, .inl (cL, 16, .inr (.inl (fun x9 => lN (mx x9))))), (yP, .inl (cL, 3, .inr (.inl (fun x9 => lN (el x9))))), (yQ, .inl (cL, 32, .inr (.inl (fun x9 => lN (qt x9))))), (yS, .inl (cL, 48, .inr (.inl (fun x9 => lN (su x9))))), (yD, .inl (cL, 32, .inr (.inl (fun x9 => lN (pr x9)))))]) (va_A ([(y0, .inr (5, [.int (nI th), .ref yR, .int (nI cn), .int (nI pb), .ref yV, .ref yI, .int (z_b md), .long (lN ta), .long (lN al), .long (lN be), .long (lN ga), .long (lN de), .long (lN va), .ref yX, .int (z_b pd), .ref yP, .ref yQ, .ref yS, .ref yD])), (yR, .inl (cL, 816, .inr (.inl (fun x9 => lN (f x9))))), (yV, .inl (cL, 16, .inr (.inl (fun x9 => lN (v x9))))), (yI, .inl (cL, 16, .inr (.inl (fun x9 => lN (inp x9))))), (yX, .inl (cL, 16, .inr (.inl (fun x9 => lN (mx x9))))), (yP, .inl (cL, 3, .inr (.inl (fun x9 => lN (el x9))))), (yQ, .inl (cL, 32, .inr (.inl (fun x9 => lN (qt x9))))), (yS, .inl (cL, 48, .inr (.inl (fun x9 => lN (su x9))))), (yD, .inl (cL, 32, .inr (.inl (fun x9 => lN (pr x9)))))]) zz)) 0 0 (va_A ([(y0, .inr (5, [.int (nI th), .ref yR, .int (nI cn), .int (nI pb), .ref yV, .ref yI, .int (z_b md), .long (lN ta), .long (lN al), .long (lN be), .long (lN ga), .long (lN de), .long (lN va), .ref yX, .int (z_b pd), .ref yP, .ref yQ, .ref yS, .ref yD])), (yR, .inl (cL, 816, .inr (.inl (fun x9 => lN (f x9))))), (yV, .inl (cL, 16, .inr (.inl (fun x9 => lN (v x9))))), (yI, .inl (cL, 16, .inr (.inl (fun x9 => lN (inp x9))))), (yX, .inl (cL, 16, .inr (.inl (fun x9 => lN (mx x9))))), (yP, .inl (cL, 3, .inr (.inl (fun x9 => lN (el x9))))), (yQ, .inl (cL, 32, .inr (.inl (fun x9 => lN (qt x9))))), (yS, .inl (cL, 48, .inr (.inl (fun x9 => lN (su x9))))), (yD, .inl (cL, 32, .inr (.inl (fun x9 => lN (pr x9)))))]) zz) := by
  refine Met.ofW (cc := cT_prove) (maxL := 12) (ret := (.some .boolean)) (by decide) rfl ?_
  intro p e s m args below meth c s₁ B hml hv
  obtain ⟨rfl, hsz, hP, hK, hD0⟩ := hv
  have F : CallFix p m c cT_prove 12 s _ zT RT := ⟨B.exec, B.bytes, hml, findClass_of_methodNamed B.named, fun w h => atoms_spec (ws := (zW yT_prove cT_prove 12 (.some .boolean))) B.pre w (List.mem_cons_of_mem _ h)⟩
  have hr := B.returns
  have hlocks := B.notSynchronized
  subst hsz
  have hD := hD0.self (sz := s.heap.size)
  generalize hAe : va_A ([(y0, .inr (5, [.int (nI th), .ref yR, .int (nI cn), .int (nI pb), .ref yV, .ref yI, .int (z_b md), .long (lN ta), .long (lN al), .long (lN be), .long (lN ga), .long (lN de), .long (lN va), .ref yX, .int (z_b pd), .ref yP, .ref yQ, .ref yS, .ref yD])), (yR, .inl (cL, 816, .inr (.inl (fun x9 => lN (f x9))))), (yV, .inl (cL, 16, .inr (.inl (fun x9 => lN (v x9))))), (yI, .inl (cL, 16, .inr (.inl (fun x9 => lN (inp x9))))), (yX, .inl (cL, 16, .inr (.inl (fun x9 => lN (mx x9))))), (yP, .inl (cL, 3, .inr (.inl (fun x9 => lN (el x9))))), (yQ, .inl (cL, 32, .inr (.inl (fun x9 => lN (qt x9))))), (yS, .inl (cL, 48, .inr (.inl (fun x9 => lN (su x9))))), (yD, .inl (cL, 32, .inr (.inl (fun x9 => lN (pr x9)))))]) s.heap.size = A at hD ⊢
  have hAA : ∀ q : Nat, s.heap.size ≤ q → A q := fun q h => by rw [← hAe]; exact Or.inr h
  have hS : va_S A s.heap s.heap [] := va_S.rf
  have hl := lv_entry ([.ref y0, .int (nI x), .int (nI y)]) (n := 12) (Nat.le_of_ble_eq_true rfl)
  rw [lg_entry_eq]
  generalize (lg_sl ([.ref y0, .int (nI x), .int (nI y)]) ++ List.replicate (12 - (lg_sl ([.ref y0, .int (nI x), .int (nI y)])).length) Slot.unset).toArray = ls at hl ⊢
  have hl : lv_has ls 12 [(0, .ref y0), (1, .int (nI x)), (2, .int (nI y))] := hl
  refine lv_aload_n F.1 F.2.1 dT_prove_0 rfl (lv_at hl 0 rfl) ?_
  refine lv_iload_n F.1 F.2.1 dT_prove_1 rfl (lv_at hl 1 rfl) ?_
  refine z_call (z_runS [.int (nI x)] [.ref y0] F (ct_isNumber_t l x (by omega)) kk_T_isNumber wl_T_49 rfl rfl ⟨Nat.le_of_ble_eq_true rfl, Nat.le_of_ble_eq_true rfl⟩ z_preN rfl hl.1 rfl (Nat.le_of_ble_eq_true rfl) dT_prove_2 ⟨Nat.zero_le _, Nat.zero_le _⟩) ?_
  refine z_if_eq F (by omega) (tgt := 15) dT_prove_5 rfl (fun h => absurd h (by decide)) (fun h => ?_)
  refine lv_iload_n F.1 F.2.1 dT_prove_8 rfl (lv_at hl 2 rfl) ?_
  refine z_call (z_runS [.int (nI y)] [.ref y0] F (ct_isNumber_t l y (by omega)) kk_T_isNumber wl_T_49 rfl rfl ⟨Nat.le_of_ble_eq_true rfl, Nat.le_of_ble_eq_true rfl⟩ z_preN rfl hl.1 rfl (Nat.le_of_ble_eq_true rfl) dT_prove_9 ⟨Nat.zero_le _, Nat.zero_le _⟩) ?_
  refine z_if_ne F (by omega) (tgt := 19) dT_prove_12 rfl (fun h => ?_) (fun h => absurd h (by decide))
  refine lv_aload_n F.1 F.2.1 dT_prove_19 rfl (lv_at hl 0 rfl) ?_
  refine z_get F hK hP hinT 0 rfl rfl 6 (by decide) rfl wf_T_53 rfl dT_prove_20 ?_
  refine z_ifb_ne F (tgt := 30) dT_prove_23 rfl (fun h => ?_) (fun h => by rw [hmd] at h; cases h)
  refine lv_aload_n F.1 F.2.1 dT_prove_30 rfl (lv_at hl 0 rfl) ?_
  refine z_call (z_runV [] [.ref y0] F (ct_firstOpen l dC dI cI cL _ 0 1 2 y0 yR yV yI yX yP yQ yS yD th cn pb ta al be ga de va md pd f v rfl rfl rfl hf hv hn) kk_T_firstOpen wl_T_64 rfl rfl ⟨Nat.le_of_ble_eq_true rfl, Nat.le_of_ble_eq_true rfl⟩ (z_preVR (q := (RT, TT, 19)) hP hK rfl (q0 := 0) rfl) rfl hl.1 rfl (Nat.le_of_ble_eq_true rfl) dT_prove_31 ⟨Nat.zero_le _, Nat.zero_le _⟩) ?_
  refine lv_iconst (v := -1) F.1 F.2.1 dT_prove_34 (by decide) ?_
  refine lv_icmp_eq F.1 F.2.1 (tgt := 42) dT_prove_35 rfl (fun h => absurd h hop) (fun h => ?_)
  refine z_iconst (v := 3) F (by decide) dT_prove_38 ?_
  refine lv_goto F.1 F.2.1 (tgt := 43) dT_prove_39 rfl ?_
  refine z_put F hK hP hD hS hinT tyT tyT_ok nmT 0 rfl rfl 0 (by decide) rfl rfl wf_T_34 (rfl) (rfl) (Nat.le_of_ble_eq_true rfl) dT_prove_43 (fun H locs hP hD hS => ?_)
  have hP : va_P (dC, dI) vwCl ([(y0, .inr (5, [.int (nI 3), .ref yR, .int (nI cn), .int (nI pb), .ref yV, .ref yI, .int (z_b md), .long (lN ta), .long (lN al), .long (lN be), .long (lN ga), .long (lN de), .long (lN va), .ref yX, .int (z_b pd), .ref yP, .ref yQ, .ref yS, .ref yD])), (yR, .inl (cL, 816, .inr (.inl (fun x9 => lN (f x9))))), (yV, .inl (cL, 16, .inr (.inl (fun x9 => lN (v x9))))), (yI, .inl (cL, 16, .inr (.inl (fun x9 => lN (inp x9))))), (yX, .inl (cL, 16, .inr (.inl (fun x9 => lN (mx x9))))), (yP, .inl (cL, 3, .inr (.inl (fun x9 => lN (el x9))))), (yQ, .inl (cL, 32, .inr (.inl (fun x9 => lN (qt x9))))), (yS, .inl (cL, 48, .inr (.inl (fun x9 => lN (su x9))))), (yD, .inl (cL, 32, .inr (.inl (fun x9 => lN (pr x9)))))]) H := hP
  have hD : va_D A ([(y0, .inr (5, [.int (nI 3), .ref yR, .int (nI cn), .int (nI pb), .ref yV, .ref yI, .int (z_b md), .long (lN ta), .long (lN al), .long (lN be), .long (lN ga), .long (lN de), .long (lN va), .ref yX, .int (z_b pd), .ref yP, .ref yQ, .ref yS, .ref yD])), (yR, .inl (cL, 816, .inr (.inl (fun x9 => lN (f x9))))), (yV, .inl (cL, 16, .inr (.inl (fun x9 => lN (v x9))))), (yI, .inl (cL, 16, .inr (.inl (fun x9 => lN (inp x9))))), (yX, .inl (cL, 16, .inr (.inl (fun x9 => lN (mx x9))))), (yP, .inl (cL, 3, .inr (.inl (fun x9 => lN (el x9))))), (yQ, .inl (cL, 32, .inr (.inl (fun x9 => lN (qt x9))))), (yS, .inl (cL, 48, .inr (.inl (fun x9 => lN (su x9))))), (yD, .inl (cL, 32, .inr (.inl (fun x9 => lN (pr x9)))))]) := hD
  refine lv_aload_n F.1 F.2.1 dT_prove_46 rfl (lv_at hl 0 rfl) ?_
  refine z_get F hK hP hinT 0 rfl rfl 0 (by decide) rfl wf_T_34 rfl dT_prove_47 ?_
  refine z_if_le F (by omega) (tgt := 55) dT_prove_50 rfl (fun h => absurd h (by decide)) (fun h => ?_)
  refine z_iconst (v := 0) F (by decide) dT_prove_53 ?_
  refine z_topV (z_b false) (by decide) ?_
  exact W.zret F.1 F.2.1 hr rfl (fun t ht hW => ⟨rfl, by rw [ht]; exact hP, va_K.moved hW.alike hK, hD, hS.F ht⟩) hS.2.2 dT_prove_54
