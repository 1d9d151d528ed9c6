theorem bl_out {x : Int32} {n : Nat} (h : bl x n = false) (hn : n < 2 ^ 31) : x.toInt < 0 ∨ (n : Int) - 1 < x.toInt := by
  by_cases hx : x < 0
  · left
    rwa [Int32.lt_iff_toInt_lt, Int32.toInt_zero] at hx
  · obtain ⟨j, hj, rfl⟩ := nI_of hx
    rw [bl_nI n hj] at h
    have := of_decide_eq_false h
    right
    rw [nI_toInt hj]
    omega
theorem bl_ne {x : Int32} {n j : Nat} (h : bl x n = false) (hj : j < n) (hn : n < 2 ^ 31) : ¬ x = nI j := fun q => by
  rw [q, bl_t hj hn] at h
  cases h
/-- what about answers -/
def abv (cn pb : Nat) (md pd : Bool) (x : Int32) : Int32 := if x = nI 0 then nI cn else if x = nI 1 then nI (szN cn) else if x = nI 2 then nI pb else if x = nI 3 then z_b md else if x = nI 4 then z_b pd else -1
/-- what key answers -/
def kyv (md : Bool) (sz pb ta ga de va : Nat) (mx : Nat → Nat) (x y : Int32) : Int32 := if md = true then (if x = nI 0 then (if bl y sz = true then nI (pw ta y.toNatClampNeg) else -1) else if x = nI 1 then (if bl y 16 = true then nI (mx y.toNatClampNeg * iv (if y.toNatClampNeg ≤ pb then ga else de) % 998244353) else -1) else if x = nI 2 then (if bl y (sz - 1) = true then nI (pw ta y.toNatClampNeg * va % 998244353 * iv de % 998244353) else -1) else -1) else -1
theorem kyv_1 {sz pb ta ga de va : Nat} {mx : Nat → Nat} {y : Nat} (h : bl (nI y) 16 = true) (hy : y < 2 ^ 31) : kyv true sz pb ta ga de va mx (nI 1) (nI y) = nI (mx y * iv (if y ≤ pb then ga else de) % 998244353) := by
  unfold kyv
  rw [if_pos rfl, if_neg (by decide), if_pos rfl, if_pos h, nI_clamp hy]
set_option maxHeartbeats 4000000 in
set_option maxRecDepth 100000 in
theorem cm_about (l : Launch) (dC : Nat → ClassId) (dI : Nat → Nat → Nat) (cI cL : ClassId) (x0 xC xD xK xQ xV xI xL xR xS xT xA xB xW xX xE xF : Nat) (pb cn ta al be ga de va : Nat) (md pd : Bool) (v inp sL sR sS sT f bb w mx el qt : Nat → Nat) (x : Int32)  : Met l yM_about (zW yM_about cM_about 2 (.some .int)) ({ frames := 1, cells := 0, slots := 0, locals := 20 }) (va_Pc [.ref x0, .int x] (z_R (dC, dI) vwCl [(cI, .int), (cL, .long)] [(x0, .inr (4, [.ref xC, .ref xD, .ref xK, .ref xQ, .ref xV, .ref xI, .int (nI pb), .ref xL, .ref xR, .ref xS, .ref xT])), (xC, .inr (0, [.ref xA, .int (nI cn)])), (xD, .inr (1, [.ref xB, .int (nI (szN cn)), .int (nI (iv (szN cn)))])), (xK, .inr (2, [.ref xW, .ref xX, .int (z_b md), .int (nI ta), .int (nI al), .int (nI be), .int (nI ga), .int (nI de), .int (nI va)])), (xQ, .inr (3, [.ref xE, .ref xF, .int (z_b pd)])), (xV, .inl (cI, 16, .inl (fun x9 => nI (v x9)))), (xI, .inl (cI, 7, .inl (fun x9 => nI (inp x9)))), (xL, .inl (cI, 16, .inl (fun x9 => nI (sL x9)))), (xR, .inl (cI, 16, .inl (fun x9 => nI (sR x9)))), (xS, .inl (cI, 16, .inl (fun x9 => nI (sS x9)))), (xT, .inl (cI, 16, .inl (fun x9 => nI (sT x9)))), (xA, .inl (cI, 816, .inl (fun x9 => nI (f x9)))), (xB, .inl (cI, 16, .inl (fun x9 => nI (bb x9)))), (xW, .inl (cI, 16, .inl (fun x9 => nI (w x9)))), (xX, .inl (cI, 16, .inl (fun x9 => nI (mx x9)))), (xE, .inl (cI, 3, .inl (fun x9 => nI (el x9)))), (xF, .inl (cI, 16, .inl (fun x9 => nI (qt x9))))])) (k2_QcV (.int (abv cn pb md pd x))) 0 0 (fun _ => False) := by
  refine Met.ofW (cc := cM_about) (maxL := 2) (ret := (.some .int)) (by decide) rfl ?_
  intro p e s m args below meth c s₁ B hml hv
  obtain ⟨rfl, hP, hK⟩ := hv
  have F : CallFix p m c cM_about 2 s _ zT RM := ⟨B.exec, B.bytes, hml, findClass_of_methodNamed B.named, fun w h => atoms_spec (ws := (zW yM_about cM_about 2 (.some .int))) B.pre w (List.mem_cons_of_mem _ h)⟩
  have hr := B.returns
  have hlocks := B.notSynchronized
  have hl := lv_entry ([.ref x0, .int x]) (n := 2) (Nat.le_of_ble_eq_true rfl)
  rw [lg_entry_eq]
  generalize (lg_sl ([.ref x0, .int x]) ++ List.replicate (2 - (lg_sl ([.ref x0, .int x])).length) Slot.unset).toArray = ls at hl ⊢
  have hl : lv_has ls 2 [(0, .ref x0), (1, .int x)] := hl
  generalize hR : abv cn pb md pd x = rr
  cases hb : bl x 5 with
  | false =>
    refine lv_iload_n F.1 F.2.1 dM_about_0 rfl (lv_at hl 1 rfl) ?_
    refine lv_tableOut F.1 F.2.1 (tgt := 89) dM_about_1 (bl_out hb (by decide)) rfl ?_
    refine lv_iconst (v := -1) F.1 F.2.1 dM_about_89 (by decide) ?_
    refine z_topV rr (by rw [← hR]; unfold abv; rw [if_neg (bl_ne hb (by decide) (by decide)), if_neg (bl_ne hb (by decide) (by decide)), if_neg (bl_ne hb (by decide) (by decide)), if_neg (bl_ne hb (by decide) (by decide)), if_neg (bl_ne hb (by decide) (by decide))]) ?_
    exact W.iret F.1 F.2.1 hr (fun t ht hW => ⟨rfl, ht⟩) (fun _ h => by cases h) dM_about_90
  | true =>
    obtain ⟨j, hj, rfl⟩ := bl_of hb (by decide)
    have hl : lv_has ls 2 [(0, .ref x0), (1, .int (nI j))] := hl
    rcases (show j = 0 ∨ j = 1 ∨ j = 2 ∨ j = 3 ∨ j = 4 by omega) with rfl | rfl | rfl | rfl | rfl
    · refine lv_iload_n F.1 F.2.1 dM_about_0 rfl (lv_at hl 1 rfl) ?_
      refine lv_tableIn F.1 F.2.1 (off := 35) (tgt := 36) dM_about_1 (by decide) (by decide) (by decide) rfl ?_
      refine lv_aload_n F.1 F.2.1 dM_about_36 rfl (lv_at hl 0 rfl) ?_
      refine z_get F hK hP hinM 0 rfl rfl 0 (by decide) rfl wf_M_10 rfl dM_about_37 ?_
      refine z_call (z_runV [] [] F (c_count l dC dI cI cL _ 1 xC xA cn rfl) kk_C_count wl_M_68 rfl rfl ⟨Nat.le_of_ble_eq_true rfl, Nat.le_of_ble_eq_true rfl⟩ (z_preVR (q := (RC, TC, 2)) hP hK rfl (q0 := 1) rfl) rfl hl.1 rfl (Nat.le_of_ble_eq_true rfl) dM_about_40 ⟨Nat.zero_le _, Nat.zero_le _⟩) ?_
      refine z_topV rr (by rw [← hR]; unfold abv; rw [if_pos rfl]) ?_
      exact W.iret F.1 F.2.1 hr (fun t ht hW => ⟨rfl, ht⟩) (fun _ h => by cases h) dM_about_43
    · refine lv_iload_n F.1 F.2.1 dM_about_0 rfl (lv_at hl 1 rfl) ?_
      refine lv_tableIn F.1 F.2.1 (off := 43) (tgt := 44) dM_about_1 (by decide) (by decide) (by decide) rfl ?_
      refine lv_aload_n F.1 F.2.1 dM_about_44 rfl (lv_at hl 0 rfl) ?_
      refine z_get F hK hP hinM 0 rfl rfl 1 (by decide) rfl wf_M_19 rfl dM_about_45 ?_
      refine z_call (z_runV [] [] F (c_size l dC dI cI cL _ 2 xD xB (szN cn) (iv (szN cn)) rfl) kk_D_size wl_M_112 rfl rfl ⟨Nat.le_of_ble_eq_true rfl, Nat.le_of_ble_eq_true rfl⟩ (z_preVR (q := (RD, TD, 3)) hP hK rfl (q0 := 2) rfl) rfl hl.1 rfl (Nat.le_of_ble_eq_true rfl) dM_about_48 ⟨Nat.zero_le _, Nat.zero_le _⟩) ?_
      refine z_topV rr (by rw [← hR]; unfold abv; rw [if_neg (by decide), if_pos rfl]) ?_
      exact W.iret F.1 F.2.1 hr (fun t ht hW => ⟨rfl, ht⟩) (fun _ h => by cases h) dM_about_51
    · refine lv_iload_n F.1 F.2.1 dM_about_0 rfl (lv_at hl 1 rfl) ?_
      refine lv_tableIn F.1 F.2.1 (off := 51) (tgt := 52) dM_about_1 (by decide) (by decide) (by decide) rfl ?_
      refine lv_aload_n F.1 F.2.1 dM_about_52 rfl (lv_at hl 0 rfl) ?_
      refine z_get F hK hP hinM 0 rfl rfl 6 (by decide) rfl wf_M_85 rfl dM_about_53 ?_
      refine z_topV rr (by rw [← hR]; unfold abv; rw [if_neg (by decide), if_neg (by decide), if_pos rfl]) ?_
      exact W.iret F.1 F.2.1 hr (fun t ht hW => ⟨rfl, ht⟩) (fun _ h => by cases h) dM_about_56
    · refine lv_iload_n F.1 F.2.1 dM_about_0 rfl (lv_at hl 1 rfl) ?_
      refine lv_tableIn F.1 F.2.1 (off := 56) (tgt := 57) dM_about_1 (by decide) (by decide) (by decide) rfl ?_
      refine lv_aload_n F.1 F.2.1 dM_about_57 rfl (lv_at hl 0 rfl) ?_
      refine z_get F hK hP hinM 0 rfl rfl 2 (by decide) rfl wf_M_26 rfl dM_about_58 ?_
      refine z_call (z_runV [] [] F (ck_isMade l dC dI cI cL _ 3 xK xW xX ta al be ga de va md rfl) kk_K_isMade wl_M_115 rfl rfl ⟨Nat.le_of_ble_eq_true rfl, Nat.le_of_ble_eq_true rfl⟩ (z_preVR (q := (RK, TK, 9)) hP hK rfl (q0 := 3) rfl) rfl hl.1 rfl (Nat.le_of_ble_eq_true rfl) dM_about_61 ⟨Nat.zero_le _, Nat.zero_le _⟩) ?_
      refine z_ifb_eq F (tgt := 71) dM_about_64 rfl (fun h1 => ?_) (fun h1 => ?_)
      · refine z_iconst (v := 0) F (by decide) dM_about_71 ?_
        refine z_topV rr (by rw [← hR]; unfold abv; rw [if_neg (by decide), if_neg (by decide), if_neg (by decide), if_pos rfl, h1]; decide) ?_
        exact W.iret F.1 F.2.1 hr (fun t ht hW => ⟨rfl, ht⟩) (fun _ h => by cases h) dM_about_72
      · refine z_iconst (v := 1) F (by decide) dM_about_67 ?_
        refine lv_goto F.1 F.2.1 (tgt := 72) dM_about_68 rfl ?_
        refine z_topV rr (by rw [← hR]; unfold abv; rw [if_neg (by decide), if_neg (by decide), if_neg (by decide), if_pos rfl, h1]; decide) ?_
        exact W.iret F.1 F.2.1 hr (fun t ht hW => ⟨rfl, ht⟩) (fun _ h => by cases h) dM_about_72
    · refine lv_iload_n F.1 F.2.1 dM_about_0 rfl (lv_at hl 1 rfl) ?_
      refine lv_tableIn F.1 F.2.1 (off := 72) (tgt := 73) dM_about_1 (by decide) (by decide) (by decide) rfl ?_
      refine lv_aload_n F.1 F.2.1 dM_about_73 rfl (lv_at hl 0 rfl) ?_
      refine z_get F hK hP hinM 0 rfl rfl 3 (by decide) rfl wf_M_33 rfl dM_about_74 ?_
      refine z_call (z_runV [] [] F (cq_isMade l dC dI cI cL _ 4 xQ xE xF pd rfl) kk_Q_isMade wl_M_176 rfl rfl ⟨Nat.le_of_ble_eq_true rfl, Nat.le_of_ble_eq_true rfl⟩ (z_preVR (q := (RQ, TQ, 3)) hP hK rfl (q0 := 4) rfl) rfl hl.1 rfl (Nat.le_of_ble_eq_true rfl) dM_about_77 ⟨Nat.zero_le _, Nat.zero_le _⟩) ?_
      refine z_ifb_eq F (tgt := 87) dM_about_80 rfl (fun h1 => ?_) (fun h1 => ?_)
      · refine z_iconst (v := 0) F (by decide) dM_about_87 ?_
        refine z_topV rr (by rw [← hR]; unfold abv; rw [if_neg (by decide), if_neg (by decide), if_neg (by decide), if_neg (by decide), if_pos rfl, h1]; decide) ?_
        exact W.iret F.1 F.2.1 hr (fun t ht hW => ⟨rfl, ht⟩) (fun _ h => by cases h) dM_about_88
      · refine z_iconst (v := 1) F (by decide) dM_about_83 ?_
        refine lv_goto F.1 F.2.1 (tgt := 88) dM_about_84 rfl ?_
        refine z_topV rr (by rw [← hR]; unfold abv; rw [if_neg (by decide), if_neg (by decide), if_neg (by decide), if_neg (by decide), if_pos rfl, h1]; decide) ?_
        exact W.iret F.1 F.2.1 hr (fun t ht hW => ⟨rfl, ht⟩) (fun _ h => by cases h) dM_about_88
set_option maxHeartbeats 4000000 in
set_option maxRecDepth 100000 in
theorem cm_key (l : Launch) (dC : Nat → ClassId) (dI : Nat → Nat → Nat) (cI cL : ClassId) (x0 xC xD xK xQ xV xI xL xR xS xT xA xB xW xX xE xF : Nat) (pb cn ta al be ga de va : Nat) (md pd : Bool) (v inp sL sR sS sT f bb w mx el qt : Nat → Nat) (x y : Int32) (hw : ∀ j, mx j < 998244353) (ht : ta < 998244353) (hva : va < 998244353) (hg : ga < 998244353) (hd : de < 998244353) (hp : pb ≤ 6) : Met l yM_key (zW yM_key cM_key 3 (.some .int)) ({ frames := 4, cells := 0, slots := 0, locals := 88 }) (va_Pc [.ref x0, .int x, .int y] (z_R (dC, dI) vwCl [(cI, .int), (cL, .long)] [(x0, .inr (4, [.ref xC, .ref xD, .ref xK, .ref xQ, .ref xV, .ref xI, .int (nI pb), .ref xL, .ref xR, .ref xS, .ref xT])), (xC, .inr (0, [.ref xA, .int (nI cn)])), (xD, .inr (1, [.ref xB, .int (nI (szN cn)), .int (nI (iv (szN cn)))])), (xK, .inr (2, [.ref xW, .ref xX, .int (z_b md), .int (nI ta), .int (nI al), .int (nI be), .int (nI ga), .int (nI de), .int (nI va)])), (xQ, .inr (3, [.ref xE, .ref xF, .int (z_b pd)])), (xV, .inl (cI, 16, .inl (fun x9 => nI (v x9)))), (xI, .inl (cI, 7, .inl (fun x9 => nI (inp x9)))), (xL, .inl (cI, 16, .inl (fun x9 => nI (sL x9)))), (xR, .inl (cI, 16, .inl (fun x9 => nI (sR x9)))), (xS, .inl (cI, 16, .inl (fun x9 => nI (sS x9)))), (xT, .inl (cI, 16, .inl (fun x9 => nI (sT x9)))), (xA, .inl (cI, 816, .inl (fun x9 => nI (f x9)))), (xB, .inl (cI, 16, .inl (fun x9 => nI (bb x9)))), (xW, .inl (cI, 16, .inl (fun x9 => nI (w x9)))), (xX, .inl (cI, 16, .inl (fun x9 => nI (mx x9)))), (xE, .inl (cI, 3, .inl (fun x9 => nI (el x9)))), (xF, .inl (cI, 16, .inl (fun x9 => nI (qt x9))))])) (k2_QcV (.int (kyv md (szN cn) pb ta ga de va mx x y))) 0 0 (fun _ => False) := by
  refine Met.ofW (cc := cM_key) (maxL := 3) (ret := (.some .int)) (by decide) rfl ?_
  intro p e s m args below meth c s₁ B hml hv
  obtain ⟨rfl, hP, hK⟩ := hv
  have F : CallFix p m c cM_key 3 s _ zT RM := ⟨B.exec, B.bytes, hml, findClass_of_methodNamed B.named, fun w h => atoms_spec (ws := (zW yM_key cM_key 3 (.some .int))) B.pre w (List.mem_cons_of_mem _ h)⟩
  have hr := B.returns
  have hlocks := B.notSynchronized
  have hl := lv_entry ([.ref x0, .int x, .int y]) (n := 3) (Nat.le_of_ble_eq_true rfl)
  rw [lg_entry_eq]
  generalize (lg_sl ([.ref x0, .int x, .int y]) ++ List.replicate (3 - (lg_sl ([.ref x0, .int x, .int y])).length) Slot.unset).toArray = ls at hl ⊢
  have hl : lv_has ls 3 [(0, .ref x0), (1, .int x), (2, .int y)] := hl
  generalize hR : kyv md (szN cn) pb ta ga de va mx x y = rr
  have hlo := szN_lo cn
  have hhi := szN_hi cn
  refine lv_aload_n F.1 F.2.1 dM_key_0 rfl (lv_at hl 0 rfl) ?_
  refine z_get F hK hP hinM 0 rfl rfl 2 (by decide) rfl wf_M_26 rfl dM_key_1 ?_
  refine z_call (z_runV [] [] F (ck_isMade l dC dI cI cL _ 3 xK xW xX ta al be ga de va md rfl) kk_K_isMade wl_M_115 rfl rfl ⟨Nat.le_of_ble_eq_true rfl, Nat.le_of_ble_eq_true rfl⟩ (z_preVR (q := (RK, TK, 9)) hP hK rfl (q0 := 3) rfl) rfl hl.1 rfl (Nat.le_of_ble_eq_true rfl) dM_key_4 ⟨Nat.zero_le _, Nat.zero_le _⟩) ?_
  refine z_ifb_ne F (tgt := 12) dM_key_7 rfl (fun h1 => ?_) (fun h1 => ?_)
  · cases hb : bl x 3 with
    | false =>
      refine lv_iload_n F.1 F.2.1 dM_key_12 rfl (lv_at hl 1 rfl) ?_
      refine lv_tableOut F.1 F.2.1 (tgt := 125) dM_key_13 (bl_out hb (by decide)) rfl ?_
      refine lv_iconst (v := -1) F.1 F.2.1 dM_key_125 (by decide) ?_
      refine z_topV rr (by rw [← hR, h1]; unfold kyv; rw [if_pos rfl, if_neg (bl_ne hb (by decide) (by decide)), if_neg (bl_ne hb (by decide) (by decide)), if_neg (bl_ne hb (by decide) (by decide))]) ?_
      exact W.iret F.1 F.2.1 hr (fun t ht hW => ⟨rfl, ht⟩) (fun _ h => by cases h) dM_key_126
    | true =>
      obtain ⟨j, hj, rfl⟩ := bl_of hb (by decide)
      have hl : lv_has ls 3 [(0, .ref x0), (1, .int (nI j)), (2, .int y)] := hl
      rcases (show j = 0 ∨ j = 1 ∨ j = 2 by omega) with rfl | rfl | rfl
      · refine lv_iload_n F.1 F.2.1 dM_key_12 rfl (lv_at hl 1 rfl) ?_
        refine lv_tableIn F.1 F.2.1 (off := 27) (tgt := 40) dM_key_13 (by decide) (by decide) (by decide) rfl ?_
        refine lv_iload_n F.1 F.2.1 dM_key_40 rfl (lv_at hl 2 rfl) ?_
        refine lv_aload_n F.1 F.2.1 dM_key_41 rfl (lv_at hl 0 rfl) ?_
        refine z_get F hK hP hinM 0 rfl rfl 1 (by decide) rfl wf_M_19 rfl dM_key_42 ?_
        refine z_call (z_runV [] [.int y] F (c_size l dC dI cI cL _ 2 xD xB (szN cn) (iv (szN cn)) rfl) kk_D_size wl_M_112 rfl rfl ⟨Nat.le_of_ble_eq_true rfl, Nat.le_of_ble_eq_true rfl⟩ (z_preVR (q := (RD, TD, 3)) hP hK rfl (q0 := 2) rfl) rfl hl.1 rfl (Nat.le_of_ble_eq_true rfl) dM_key_45 ⟨Nat.zero_le _, Nat.zero_le _⟩) ?_
        refine z_call (z_runS [.int y, .int (nI (szN cn))] [] F (c_isBelow l y (szN cn) (by omega)) kk_M_isBelow wl_M_56 rfl rfl ⟨Nat.le_of_ble_eq_true rfl, Nat.le_of_ble_eq_true rfl⟩ z_preN rfl hl.1 rfl (Nat.le_of_ble_eq_true rfl) dM_key_48 ⟨Nat.zero_le _, Nat.zero_le _⟩) ?_
        refine z_ifb_eq F (tgt := 68) dM_key_51 rfl (fun h2 => ?_) (fun h2 => ?_)
        · refine lv_iconst (v := -1) F.1 F.2.1 dM_key_68 (by decide) ?_
          refine z_topV rr (by rw [← hR, h1]; unfold kyv; rw [if_pos rfl, if_pos rfl, h2]; rfl) ?_
          exact W.iret F.1 F.2.1 hr (fun t ht hW => ⟨rfl, ht⟩) (fun _ h => by cases h) dM_key_69
        · obtain ⟨y, hy, rfl⟩ := bl_of h2 (by omega)
          have hl : lv_has ls 3 [(0, .ref x0), (1, .int (nI 0)), (2, .int (nI y))] := hl
          refine lv_aload_n F.1 F.2.1 dM_key_54 rfl (lv_at hl 0 rfl) ?_
          refine z_get F hK hP hinM 0 rfl rfl 2 (by decide) rfl wf_M_26 rfl dM_key_55 ?_
          refine z_call (z_runV [] [] F (ck_tau l dC dI cI cL _ 3 xK xW xX ta al be ga de va md rfl) kk_K_tau wl_M_157 rfl rfl ⟨Nat.le_of_ble_eq_true rfl, Nat.le_of_ble_eq_true rfl⟩ (z_preVR (q := (RK, TK, 9)) hP hK rfl (q0 := 3) rfl) rfl hl.1 rfl (Nat.le_of_ble_eq_true rfl) dM_key_58 ⟨Nat.zero_le _, Nat.zero_le _⟩) ?_
          refine lv_iload_n F.1 F.2.1 dM_key_61 rfl (lv_at hl 2 rfl) ?_
          refine z_call (z_runS [.int (nI ta), .int (nI y)] [] F (c_power l ta y (Nat.lt_trans (ht) (by decide)) (by omega)) kk_F_power wl_M_200 rfl rfl ⟨Nat.le_of_ble_eq_true rfl, Nat.le_of_ble_eq_true rfl⟩ z_preN rfl hl.1 rfl (Nat.le_of_ble_eq_true rfl) dM_key_62 ⟨Nat.zero_le _, Nat.zero_le _⟩) ?_
          refine lv_goto F.1 F.2.1 (tgt := 69) dM_key_65 rfl ?_
          refine z_topV rr (by rw [← hR, h1]; unfold kyv; rw [if_pos rfl, if_pos rfl, h2, if_pos rfl, nI_clamp (by omega)]) ?_
          exact W.iret F.1 F.2.1 hr (fun t ht hW => ⟨rfl, ht⟩) (fun _ h => by cases h) dM_key_69
      · refine lv_iload_n F.1 F.2.1 dM_key_12 rfl (lv_at hl 1 rfl) ?_
        refine lv_tableIn F.1 F.2.1 (off := 57) (tgt := 70) dM_key_13 (by decide) (by decide) (by decide) rfl ?_
        refine lv_iload_n F.1 F.2.1 dM_key_70 rfl (lv_at hl 2 rfl) ?_
        refine z_bipush (v := 16) F (by decide) dM_key_71 ?_
        refine z_call (z_runS [.int y, .int (nI 16)] [] F (c_isBelow l y (16) (by omega)) kk_M_isBelow wl_M_56 rfl rfl ⟨Nat.le_of_ble_eq_true rfl, Nat.le_of_ble_eq_true rfl⟩ z_preN rfl hl.1 rfl (Nat.le_of_ble_eq_true rfl) dM_key_73 ⟨Nat.zero_le _, Nat.zero_le _⟩) ?_
        refine z_ifb_eq F (tgt := 94) dM_key_76 rfl (fun h2 => ?_) (fun h2 => ?_)
        · refine lv_iconst (v := -1) F.1 F.2.1 dM_key_94 (by decide) ?_
          refine z_topV rr (by rw [← hR, h1]; unfold kyv; rw [if_pos rfl, if_neg (by decide), if_pos rfl, h2]; rfl) ?_
          exact W.iret F.1 F.2.1 hr (fun t ht hW => ⟨rfl, ht⟩) (fun _ h => by cases h) dM_key_95
        · obtain ⟨y, hy, rfl⟩ := bl_of h2 (by omega)
          have hl : lv_has ls 3 [(0, .ref x0), (1, .int (nI 1)), (2, .int (nI y))] := hl
          refine lv_aload_n F.1 F.2.1 dM_key_79 rfl (lv_at hl 0 rfl) ?_
          refine z_get F hK hP hinM 0 rfl rfl 2 (by decide) rfl wf_M_26 rfl dM_key_80 ?_
          refine lv_iload_n F.1 F.2.1 dM_key_83 rfl (lv_at hl 2 rfl) ?_
          refine lv_aload_n F.1 F.2.1 dM_key_84 rfl (lv_at hl 0 rfl) ?_
          refine z_get F hK hP hinM 0 rfl rfl 6 (by decide) rfl wf_M_85 rfl dM_key_85 ?_
          refine z_call (z_runV [.int (nI y), .int (nI pb)] [] F (ck_sharedMix l dC dI cI cL _ 3 14 xK xW xX ta al be ga de va md mx y pb rfl rfl hw (by omega) (by omega) hg hd) kk_K_sharedMix wl_M_203 rfl rfl ⟨Nat.le_of_ble_eq_true rfl, Nat.le_of_ble_eq_true rfl⟩ (z_preVR (q := (RK, TK, 9)) hP hK rfl (q0 := 3) rfl) rfl hl.1 rfl (Nat.le_of_ble_eq_true rfl) dM_key_88 ⟨Nat.zero_le _, Nat.zero_le _⟩) ?_
          refine lv_goto F.1 F.2.1 (tgt := 95) dM_key_91 rfl ?_
          refine z_topV rr (by rw [← hR, h1]; exact (kyv_1 h2 (by omega)).symm) ?_
          exact W.iret F.1 F.2.1 hr (fun t ht hW => ⟨rfl, ht⟩) (fun _ h => by cases h) dM_key_95
      · refine lv_iload_n F.1 F.2.1 dM_key_12 rfl (lv_at hl 1 rfl) ?_
        refine lv_tableIn F.1 F.2.1 (off := 83) (tgt := 96) dM_key_13 (by decide) (by decide) (by decide) rfl ?_
        refine lv_iload_n F.1 F.2.1 dM_key_96 rfl (lv_at hl 2 rfl) ?_
        refine lv_aload_n F.1 F.2.1 dM_key_97 rfl (lv_at hl 0 rfl) ?_
        refine z_get F hK hP hinM 0 rfl rfl 1 (by decide) rfl wf_M_19 rfl dM_key_98 ?_
        refine z_call (z_runV [] [.int y] F (c_size l dC dI cI cL _ 2 xD xB (szN cn) (iv (szN cn)) rfl) kk_D_size wl_M_112 rfl rfl ⟨Nat.le_of_ble_eq_true rfl, Nat.le_of_ble_eq_true rfl⟩ (z_preVR (q := (RD, TD, 3)) hP hK rfl (q0 := 2) rfl) rfl hl.1 rfl (Nat.le_of_ble_eq_true rfl) dM_key_101 ⟨Nat.zero_le _, Nat.zero_le _⟩) ?_
        refine z_iconst (v := 1) F (by decide) dM_key_104 ?_
        refine z_isub F (by omega) dM_key_105 ?_
        refine z_call (z_runS [.int y, .int (nI ((szN cn) - 1))] [] F (c_isBelow l y (szN cn - 1) (by omega)) kk_M_isBelow wl_M_56 rfl rfl ⟨Nat.le_of_ble_eq_true rfl, Nat.le_of_ble_eq_true rfl⟩ z_preN rfl hl.1 rfl (Nat.le_of_ble_eq_true rfl) dM_key_106 ⟨Nat.zero_le _, Nat.zero_le _⟩) ?_
        refine z_ifb_eq F (tgt := 123) dM_key_109 rfl (fun h2 => ?_) (fun h2 => ?_)
        · refine lv_iconst (v := -1) F.1 F.2.1 dM_key_123 (by decide) ?_
          refine z_topV rr (by rw [← hR, h1]; unfold kyv; rw [if_pos rfl, if_neg (by decide), if_neg (by decide), if_pos rfl, h2]; rfl) ?_
          exact W.iret F.1 F.2.1 hr (fun t ht hW => ⟨rfl, ht⟩) (fun _ h => by cases h) dM_key_124
        · obtain ⟨y, hy, rfl⟩ := bl_of h2 (by omega)
          have hl : lv_has ls 3 [(0, .ref x0), (1, .int (nI 2)), (2, .int (nI y))] := hl
          refine lv_aload_n F.1 F.2.1 dM_key_112 rfl (lv_at hl 0 rfl) ?_
          refine z_get F hK hP hinM 0 rfl rfl 2 (by decide) rfl wf_M_26 rfl dM_key_113 ?_
          refine lv_iload_n F.1 F.2.1 dM_key_116 rfl (lv_at hl 2 rfl) ?_
          refine z_call (z_runV [.int (nI y)] [] F (ck_vanishingStep l dC dI cI cL _ 3 xK xW xX ta al be ga de va md y rfl (by omega) ht hva hd) kk_K_vanishingStep wl_M_206 rfl rfl ⟨Nat.le_of_ble_eq_true rfl, Nat.le_of_ble_eq_true rfl⟩ (z_preVR (q := (RK, TK, 9)) hP hK rfl (q0 := 3) rfl) rfl hl.1 rfl (Nat.le_of_ble_eq_true rfl) dM_key_117 ⟨Nat.zero_le _, Nat.zero_le _⟩) ?_
          refine lv_goto F.1 F.2.1 (tgt := 124) dM_key_120 rfl ?_
          refine z_topV rr (by rw [← hR, h1]; unfold kyv; rw [if_pos rfl, if_neg (by decide), if_neg (by decide), if_pos rfl, h2, if_pos rfl, nI_clamp (by omega)]) ?_
          exact W.iret F.1 F.2.1 hr (fun t ht hW => ⟨rfl, ht⟩) (fun _ h => by cases h) dM_key_124
  · refine lv_iconst (v := -1) F.1 F.2.1 dM_key_10 (by decide) ?_
    refine z_topV rr (by rw [← hR, h1]; rfl) ?_
    exact W.iret F.1 F.2.1 hr (fun t ht hW => ⟨rfl, ht⟩) (fun _ h => by cases h) dM_key_11
