/-- is x a number below n -/
def bl (x : Int32) (n : Nat) : Bool := decide (0 ≤ x.toInt) && decide (x.toInt < (n : Int))
theorem bl_neg {x : Int32} {n : Nat} (h : x < 0) : bl x n = false := by
  rw [Int32.lt_iff_toInt_lt, Int32.toInt_zero] at h
  unfold bl
  rw [decide_eq_false (by omega), Bool.false_and]
theorem bl_nI {j : Nat} (n : Nat) (h : j < 2 ^ 31) : bl (nI j) n = decide (j < n) := by
  unfold bl
  rw [nI_toInt h, decide_eq_true (by omega), Bool.true_and]
  by_cases hj : j < n
  · rw [decide_eq_true hj, decide_eq_true (by omega)]
  · rw [decide_eq_false hj, decide_eq_false (by omega)]
theorem bl_t {j n : Nat} (h : j < n) (hn : n < 2 ^ 31) : bl (nI j) n = true := by rw [bl_nI n (by omega), decide_eq_true h]
theorem bl_of {x : Int32} {n : Nat} (h : bl x n = true) (hn : n < 2 ^ 31) : ∃ j, j < n ∧ x = nI j := by
  by_cases hx : x < 0
  · rw [bl_neg hx] at h; cases h
  · obtain ⟨j, hj, rfl⟩ := nI_of hx
    rw [bl_nI n hj] at h
    exact ⟨j, of_decide_eq_true h, rfl⟩
/-- is x a number from 1 to P - 1 -/
def un (x : Int32) : Bool := bl x 998244353 && !decide (x = 0)
theorem un_of {x : Int32} (h : un x = true) : ∃ j, 0 < j ∧ j < 998244353 ∧ x = nI j := by
  unfold un at h
  rw [Bool.and_eq_true] at h
  obtain ⟨j, hj, rfl⟩ := bl_of h.1 (by decide)
  refine ⟨j, Nat.pos_of_ne_zero (fun q => ?_), hj, rfl⟩
  subst q
  exact absurd h.2 (by decide)
theorem un_t {j : Nat} (h0 : 0 < j) (h : j < 998244353) : un (nI j) = true := by
  unfold un
  rw [bl_t h (by decide), decide_eq_false (nI_ne0 h0 (by omega))]
  rfl
set_option maxHeartbeats 4000000 in
set_option maxRecDepth 100000 in
theorem c_isBelow (l : Launch) (x : Int32) (k : Nat) (hk : k < 2 ^ 31) : Met l yM_isBelow (zW yM_isBelow cM_isBelow 2 (.some .boolean)) ({ frames := 0, cells := 0, slots := 0, locals := 0 }) (va_Pc [.int x, .int (nI k)] (fun _ => True)) (k2_QcV (.int (z_b (bl x k)))) 0 0 (fun _ => False) := by
  refine Met.ofW (cc := cM_isBelow) (maxL := 2) (ret := (.some .boolean)) (by decide) rfl ?_
  intro p e s m args below meth c s₁ B hml hv
  obtain ⟨rfl, -⟩ := hv
  have F : CallFix p m c cM_isBelow 2 s _ zT RM := ⟨B.exec, B.bytes, hml, findClass_of_methodNamed B.named, fun w h => atoms_spec (ws := (zW yM_isBelow cM_isBelow 2 (.some .boolean))) B.pre w (List.mem_cons_of_mem _ h)⟩
  have hr := B.returns
  have hlocks := B.notSynchronized
  have hl := lv_entry ([.int x, .int (nI k)]) (n := 2) (Nat.le_of_ble_eq_true rfl)
  rw [lg_entry_eq]
  generalize (lg_sl ([.int x, .int (nI k)]) ++ List.replicate (2 - (lg_sl ([.int x, .int (nI k)])).length) Slot.unset).toArray = ls at hl ⊢
  have hl : lv_has ls 2 [(0, .int x), (1, .int (nI k))] := hl
  refine lv_iload_n F.1 F.2.1 dM_isBelow_0 rfl (lv_at hl 0 rfl) ?_
  refine lv_if_lt F.1 F.2.1 (tgt := 13) dM_isBelow_1 rfl (fun h1 => ?_) (fun h1 => ?_)
  · refine z_iconst (v := 0) F (by decide) dM_isBelow_13 ?_
    refine z_topV (z_b (bl x k)) (by rw [bl_neg h1]; decide) ?_
    exact W.zret F.1 F.2.1 hr (by cases bl x k <;> rfl) (fun t ht hW => ⟨rfl, ht⟩) (fun _ h => by cases h) dM_isBelow_14
  · obtain ⟨j, hj, rfl⟩ := nI_of h1
    have hl : lv_has ls 2 [(0, .int (nI j)), (1, .int (nI k))] := hl
    refine lv_iload_n F.1 F.2.1 dM_isBelow_4 rfl (lv_at hl 0 rfl) ?_
    refine lv_iload_n F.1 F.2.1 dM_isBelow_5 rfl (lv_at hl 1 rfl) ?_
    refine z_icmp_ge F (by omega) (by omega) (tgt := 13) dM_isBelow_6 rfl (fun h2 => ?_) (fun h2 => ?_)
    · refine z_iconst (v := 0) F (by decide) dM_isBelow_13 ?_
      refine z_topV (z_b (bl (nI j) k)) (by rw [bl_nI k hj, decide_eq_false (by omega)]; decide) ?_
      exact W.zret F.1 F.2.1 hr (by cases bl (nI j) k <;> rfl) (fun t ht hW => ⟨rfl, ht⟩) (fun _ h => by cases h) dM_isBelow_14
    · refine z_iconst (v := 1) F (by decide) dM_isBelow_9 ?_
      refine lv_goto F.1 F.2.1 (tgt := 14) dM_isBelow_10 rfl ?_
      refine z_topV (z_b (bl (nI j) k)) (by rw [bl_nI k hj, decide_eq_true (by omega)]; decide) ?_
      exact W.zret F.1 F.2.1 hr (by cases bl (nI j) k <;> rfl) (fun t ht hW => ⟨rfl, ht⟩) (fun _ h => by cases h) dM_isBelow_14
theorem un_le {x : Int32} (h : x ≤ 0) : un x = false := by
  by_cases hx : x < 0
  · unfold un; rw [bl_neg hx, Bool.false_and]
  · have : x = 0 := by
      rw [Int32.le_iff_toInt_le, Int32.toInt_zero] at h
      rw [Int32.lt_iff_toInt_lt, Int32.toInt_zero] at hx
      exact Int32.toInt_inj.mp (by rw [Int32.toInt_zero]; omega)
    subst this
    decide
theorem un_gt {x : Int32} (h : ¬ x ≤ 0) : ∃ j, 0 < j ∧ j < 2 ^ 31 ∧ x = nI j := by
  rw [Int32.le_iff_toInt_le, Int32.toInt_zero] at h
  obtain ⟨j, hj, rfl⟩ := nI_of (x := x) (by rw [Int32.lt_iff_toInt_lt, Int32.toInt_zero]; omega)
  rw [nI_toInt hj] at h
  exact ⟨j, by omega, hj, rfl⟩
theorem un_no {j : Nat} (h : j < 2 ^ 31) (h2 : 998244353 ≤ j) : un (nI j) = false := by
  unfold un
  rw [bl_nI _ h, decide_eq_false (by omega), Bool.false_and]
set_option maxHeartbeats 4000000 in
set_option maxRecDepth 100000 in
theorem c_isUnit (l : Launch) (x : Int32)  : Met l yM_isUnit (zW yM_isUnit cM_isUnit 1 (.some .boolean)) ({ frames := 0, cells := 0, slots := 0, locals := 0 }) (va_Pc [.int x] (fun _ => True)) (k2_QcV (.int (z_b (un x)))) 0 0 (fun _ => False) := by
  refine Met.ofW (cc := cM_isUnit) (maxL := 1) (ret := (.some .boolean)) (by decide) rfl ?_
  intro p e s m args below meth c s₁ B hml hv
  obtain ⟨rfl, -⟩ := hv
  have F : CallFix p m c cM_isUnit 1 s _ zT RM := ⟨B.exec, B.bytes, hml, findClass_of_methodNamed B.named, fun w h => atoms_spec (ws := (zW yM_isUnit cM_isUnit 1 (.some .boolean))) B.pre w (List.mem_cons_of_mem _ h)⟩
  have hr := B.returns
  have hlocks := B.notSynchronized
  have hl := lv_entry ([.int x]) (n := 1) (Nat.le_of_ble_eq_true rfl)
  rw [lg_entry_eq]
  generalize (lg_sl ([.int x]) ++ List.replicate (1 - (lg_sl ([.int x])).length) Slot.unset).toArray = ls at hl ⊢
  have hl : lv_has ls 1 [(0, .int x)] := hl
  refine lv_iload_n F.1 F.2.1 dM_isUnit_0 rfl (lv_at hl 0 rfl) ?_
  refine lv_if_le F.1 F.2.1 (tgt := 14) dM_isUnit_1 rfl (fun h1 => ?_) (fun h1 => ?_)
  · refine z_iconst (v := 0) F (by decide) dM_isUnit_14 ?_
    refine z_topV (z_b (un x)) (by rw [un_le h1]; decide) ?_
    exact W.zret F.1 F.2.1 hr (by cases un x <;> rfl) (fun t ht hW => ⟨rfl, ht⟩) (fun _ h => by cases h) dM_isUnit_15
  · obtain ⟨j, h0, hj, rfl⟩ := un_gt h1
    have hl : lv_has ls 1 [(0, .int (nI j))] := hl
    refine lv_iload_n F.1 F.2.1 dM_isUnit_4 rfl (lv_at hl 0 rfl) ?_
    refine z_ldc F 998244353 (v0 := 998244353) wk_M_60 rfl dM_isUnit_5 ?_
    refine z_icmp_ge F (by omega) (by omega) (tgt := 14) dM_isUnit_7 rfl (fun h2 => ?_) (fun h2 => ?_)
    · refine z_iconst (v := 0) F (by decide) dM_isUnit_14 ?_
      refine z_topV (z_b (un (nI j))) (by rw [un_no hj h2]; decide) ?_
      exact W.zret F.1 F.2.1 hr (by cases un (nI j) <;> rfl) (fun t ht hW => ⟨rfl, ht⟩) (fun _ h => by cases h) dM_isUnit_15
    · refine z_iconst (v := 1) F (by decide) dM_isUnit_10 ?_
      refine lv_goto F.1 F.2.1 (tgt := 15) dM_isUnit_11 rfl ?_
      refine z_topV (z_b (un (nI j))) (by rw [un_t h0 h2]; decide) ?_
      exact W.zret F.1 F.2.1 hr (by cases un (nI j) <;> rfl) (fun t ht hW => ⟨rfl, ht⟩) (fun _ h => by cases h) dM_isUnit_15
theorem c_isBelow_t (l : Launch) (a k : Nat) (h : a < k) (hk : k < 2 ^ 31) : Met l yM_isBelow (zW yM_isBelow cM_isBelow 2 (.some .boolean)) ({ frames := 0, cells := 0, slots := 0, locals := 0 }) (va_Pc [.int (nI a), .int (nI k)] (fun _ => True)) (k2_QcV (.int (nI 1))) 0 0 (fun _ => False) := by
  have := c_isBelow l (nI a) k hk
  rw [bl_t h hk] at this
  exact this
theorem c_isUnit_t (l : Launch) (a : Nat) (h0 : 0 < a) (h : a < 998244353) : Met l yM_isUnit (zW yM_isUnit cM_isUnit 1 (.some .boolean)) ({ frames := 0, cells := 0, slots := 0, locals := 0 }) (va_Pc [.int (nI a)] (fun _ => True)) (k2_QcV (.int (nI 1))) 0 0 (fun _ => False) := by
  have := c_isUnit l (nI a)
  rw [un_t h0 h] at this
  exact this
set_option maxHeartbeats 4000000 in
set_option maxRecDepth 100000 in
theorem cm_open (l : Launch) (dC : Nat → ClassId) (dI : Nat → Nat → Nat) (cI cL : ClassId) (x0 xC xD xK xQ xV xI xL xR xS xT xA xB xW xX xE xF : Nat) (pb cn ta al be ga de va : Nat) (md pd : Bool) (v inp sL sR sS sT f bb w mx el qt : Nat → Nat) (hf : ∀ j, f j < 998244353) (hv : ∀ j, v j < 998244353) (hn : cn ≤ 16) : Met l yM_open (zW yM_open cM_open 1 (.some .int)) ({ frames := 3, cells := 0, slots := 0, locals := 71 }) (va_Pc [.ref x0] (z_R (dC, dI) vwCl [(cI, .int), (cL, .long)] [(x0, .inr (4, [.ref xC, .ref xD, .ref xK, .ref xQ, .ref xV, .ref xI, .int (nI pb), .ref xL, .ref xR, .ref xS, .ref xT])), (xC, .inr (0, [.ref xA, .int (nI cn)])), (xD, .inr (1, [.ref xB, .int (nI (szN cn)), .int (nI (iv (szN cn)))])), (xK, .inr (2, [.ref xW, .ref xX, .int (z_b md), .int (nI ta), .int (nI al), .int (nI be), .int (nI ga), .int (nI de), .int (nI va)])), (xQ, .inr (3, [.ref xE, .ref xF, .int (z_b pd)])), (xV, .inl (cI, 16, .inl (fun x9 => nI (v x9)))), (xI, .inl (cI, 7, .inl (fun x9 => nI (inp x9)))), (xL, .inl (cI, 16, .inl (fun x9 => nI (sL x9)))), (xR, .inl (cI, 16, .inl (fun x9 => nI (sR x9)))), (xS, .inl (cI, 16, .inl (fun x9 => nI (sS x9)))), (xT, .inl (cI, 16, .inl (fun x9 => nI (sT x9)))), (xA, .inl (cI, 816, .inl (fun x9 => nI (f x9)))), (xB, .inl (cI, 16, .inl (fun x9 => nI (bb x9)))), (xW, .inl (cI, 16, .inl (fun x9 => nI (w x9)))), (xX, .inl (cI, 16, .inl (fun x9 => nI (mx x9)))), (xE, .inl (cI, 3, .inl (fun x9 => nI (el x9)))), (xF, .inl (cI, 16, .inl (fun x9 => nI (qt x9))))])) (k2_QcV (.int (fo (bad f v) 0 cn))) 0 0 (fun _ => False) := by
  refine Met.ofW (cc := cM_open) (maxL := 1) (ret := (.some .int)) (by decide) rfl ?_
  intro p e s m args below meth c s₁ B hml hv
  obtain ⟨rfl, hP, hK⟩ := hv
  have F : CallFix p m c cM_open 1 s _ zT RM := ⟨B.exec, B.bytes, hml, findClass_of_methodNamed B.named, fun w h => atoms_spec (ws := (zW yM_open cM_open 1 (.some .int))) B.pre w (List.mem_cons_of_mem _ h)⟩
  have hr := B.returns
  have hlocks := B.notSynchronized
  have hl := lv_entry ([.ref x0]) (n := 1) (Nat.le_of_ble_eq_true rfl)
  rw [lg_entry_eq]
  generalize (lg_sl ([.ref x0]) ++ List.replicate (1 - (lg_sl ([.ref x0])).length) Slot.unset).toArray = ls at hl ⊢
  have hl : lv_has ls 1 [(0, .ref x0)] := hl
  refine lv_aload_n F.1 F.2.1 dM_open_0 rfl (lv_at hl 0 rfl) ?_
  refine z_get F hK hP hinM 0 rfl rfl 0 (by decide) rfl wf_M_10 rfl dM_open_1 ?_
  refine lv_aload_n F.1 F.2.1 dM_open_4 rfl (lv_at hl 0 rfl) ?_
  refine z_get F hK hP hinM 0 rfl rfl 4 (by decide) rfl wf_M_37 rfl dM_open_5 ?_
  refine z_call (z_runV [.ref xV] [] F (c_firstOpen l dC dI cI cL _ 1 11 5 xC xA xV cn f v rfl rfl rfl hf hv hn) kk_C_firstOpen wl_M_89 rfl rfl ⟨Nat.le_of_ble_eq_true rfl, Nat.le_of_ble_eq_true rfl⟩ (z_preVR (q := (RC, TC, 2)) hP hK rfl (q0 := 1) rfl) rfl hl.1 rfl (Nat.le_of_ble_eq_true rfl) dM_open_8 ⟨Nat.zero_le _, Nat.zero_le _⟩) ?_
  exact W.iret F.1 F.2.1 hr (fun t ht hW => ⟨rfl, ht⟩) (fun _ h => by cases h) dM_open_11
set_option maxHeartbeats 4000000 in
set_option maxRecDepth 100000 in
theorem cm_proof (l : Launch) (dC : Nat → ClassId) (dI : Nat → Nat → Nat) (cI cL : ClassId) (x0 xC xD xK xQ xV xI xL xR xS xT xA xB xW xX xE xF : Nat) (pb cn ta al be ga de va : Nat) (md pd : Bool) (v inp sL sR sS sT f bb w mx el qt : Nat → Nat) (x : Int32)  : Met l yM_proof (zW yM_proof cM_proof 2 (.some .int)) ({ frames := 1, cells := 0, slots := 0, locals := 21 }) (va_Pc [.ref x0, .int x] (z_R (dC, dI) vwCl [(cI, .int), (cL, .long)] [(x0, .inr (4, [.ref xC, .ref xD, .ref xK, .ref xQ, .ref xV, .ref xI, .int (nI pb), .ref xL, .ref xR, .ref xS, .ref xT])), (xC, .inr (0, [.ref xA, .int (nI cn)])), (xD, .inr (1, [.ref xB, .int (nI (szN cn)), .int (nI (iv (szN cn)))])), (xK, .inr (2, [.ref xW, .ref xX, .int (z_b md), .int (nI ta), .int (nI al), .int (nI be), .int (nI ga), .int (nI de), .int (nI va)])), (xQ, .inr (3, [.ref xE, .ref xF, .int (z_b pd)])), (xV, .inl (cI, 16, .inl (fun x9 => nI (v x9)))), (xI, .inl (cI, 7, .inl (fun x9 => nI (inp x9)))), (xL, .inl (cI, 16, .inl (fun x9 => nI (sL x9)))), (xR, .inl (cI, 16, .inl (fun x9 => nI (sR x9)))), (xS, .inl (cI, 16, .inl (fun x9 => nI (sS x9)))), (xT, .inl (cI, 16, .inl (fun x9 => nI (sT x9)))), (xA, .inl (cI, 816, .inl (fun x9 => nI (f x9)))), (xB, .inl (cI, 16, .inl (fun x9 => nI (bb x9)))), (xW, .inl (cI, 16, .inl (fun x9 => nI (w x9)))), (xX, .inl (cI, 16, .inl (fun x9 => nI (mx x9)))), (xE, .inl (cI, 3, .inl (fun x9 => nI (el x9)))), (xF, .inl (cI, 16, .inl (fun x9 => nI (qt x9))))])) (k2_QcV (.int (if (pd && bl x 3) = true then nI (el x.toNatClampNeg) else -1))) 0 0 (fun _ => False) := by
  refine Met.ofW (cc := cM_proof) (maxL := 2) (ret := (.some .int)) (by decide) rfl ?_
  intro p e s m args below meth c s₁ B hml hv
  obtain ⟨rfl, hP, hK⟩ := hv
  have F : CallFix p m c cM_proof 2 s _ zT RM := ⟨B.exec, B.bytes, hml, findClass_of_methodNamed B.named, fun w h => atoms_spec (ws := (zW yM_proof cM_proof 2 (.some .int))) B.pre w (List.mem_cons_of_mem _ h)⟩
  have hr := B.returns
  have hlocks := B.notSynchronized
  have hl := lv_entry ([.ref x0, .int x]) (n := 2) (Nat.le_of_ble_eq_true rfl)
  rw [lg_entry_eq]
  generalize (lg_sl ([.ref x0, .int x]) ++ List.replicate (2 - (lg_sl ([.ref x0, .int x])).length) Slot.unset).toArray = ls at hl ⊢
  have hl : lv_has ls 2 [(0, .ref x0), (1, .int x)] := hl
  generalize hR : (if (pd && bl x 3) = true then nI (el x.toNatClampNeg) else -1) = rr
  refine lv_aload_n F.1 F.2.1 dM_proof_0 rfl (lv_at hl 0 rfl) ?_
  refine z_get F hK hP hinM 0 rfl rfl 3 (by decide) rfl wf_M_33 rfl dM_proof_1 ?_
  refine z_call (z_runV [] [] F (cq_isMade l dC dI cI cL _ 4 xQ xE xF pd rfl) kk_Q_isMade wl_M_176 rfl rfl ⟨Nat.le_of_ble_eq_true rfl, Nat.le_of_ble_eq_true rfl⟩ (z_preVR (q := (RQ, TQ, 3)) hP hK rfl (q0 := 4) rfl) rfl hl.1 rfl (Nat.le_of_ble_eq_true rfl) dM_proof_4 ⟨Nat.zero_le _, Nat.zero_le _⟩) ?_
  refine z_ifb_eq F (tgt := 29) dM_proof_7 rfl (fun h1 => ?_) (fun h1 => ?_)
  · refine lv_iconst (v := -1) F.1 F.2.1 dM_proof_29 (by decide) ?_
    refine z_topV rr (by rw [← hR, h1]; rfl) ?_
    exact W.iret F.1 F.2.1 hr (fun t ht hW => ⟨rfl, ht⟩) (fun _ h => by cases h) dM_proof_30
  · refine lv_iload_n F.1 F.2.1 dM_proof_10 rfl (lv_at hl 1 rfl) ?_
    refine z_iconst (v := 3) F (by decide) dM_proof_11 ?_
    refine z_call (z_runS [.int x, .int (nI 3)] [] F (c_isBelow l x 3 (by decide)) kk_M_isBelow wl_M_56 rfl rfl ⟨Nat.le_of_ble_eq_true rfl, Nat.le_of_ble_eq_true rfl⟩ z_preN rfl hl.1 rfl (Nat.le_of_ble_eq_true rfl) dM_proof_12 ⟨Nat.zero_le _, Nat.zero_le _⟩) ?_
    refine z_ifb_eq F (tgt := 29) dM_proof_15 rfl (fun h2 => ?_) (fun h2 => ?_)
    · refine lv_iconst (v := -1) F.1 F.2.1 dM_proof_29 (by decide) ?_
      refine z_topV rr (by rw [← hR, h1, h2]; rfl) ?_
      exact W.iret F.1 F.2.1 hr (fun t ht hW => ⟨rfl, ht⟩) (fun _ h => by cases h) dM_proof_30
    · obtain ⟨j, hj, rfl⟩ := bl_of h2 (by decide)
      have hl : lv_has ls 2 [(0, .ref x0), (1, .int (nI j))] := hl
      refine lv_aload_n F.1 F.2.1 dM_proof_18 rfl (lv_at hl 0 rfl) ?_
      refine z_get F hK hP hinM 0 rfl rfl 3 (by decide) rfl wf_M_33 rfl dM_proof_19 ?_
      refine lv_iload_n F.1 F.2.1 dM_proof_22 rfl (lv_at hl 1 rfl) ?_
      refine z_call (z_runV [.int (nI j)] [] F (cq_element l dC dI cI cL _ 4 15 xQ xE xF pd el j rfl rfl hj) kk_Q_element wl_M_180 rfl rfl ⟨Nat.le_of_ble_eq_true rfl, Nat.le_of_ble_eq_true rfl⟩ (z_preVR (q := (RQ, TQ, 3)) hP hK rfl (q0 := 4) rfl) rfl hl.1 rfl (Nat.le_of_ble_eq_true rfl) dM_proof_23 ⟨Nat.zero_le _, Nat.zero_le _⟩) ?_
      refine lv_goto F.1 F.2.1 (tgt := 30) dM_proof_26 rfl ?_
      refine z_topV rr (by rw [← hR, h1, h2, nI_clamp (by omega)]; rfl) ?_
      exact W.iret F.1 F.2.1 hr (fun t ht hW => ⟨rfl, ht⟩) (fun _ h => by cases h) dM_proof_30
set_option maxHeartbeats 4000000 in
set_option maxRecDepth 100000 in
theorem cm_quotient (l : Launch) (dC : Nat → ClassId) (dI : Nat → Nat → Nat) (cI cL : ClassId) (x0 xC xD xK xQ xV xI xL xR xS xT xA xB xW xX xE xF : Nat) (pb cn ta al be ga de va : Nat) (md pd : Bool) (v inp sL sR sS sT f bb w mx el qt : Nat → Nat) (x : Int32)  : Met l yM_quotient (zW yM_quotient cM_quotient 2 (.some .int)) ({ frames := 1, cells := 0, slots := 0, locals := 21 }) (va_Pc [.ref x0, .int x] (z_R (dC, dI) vwCl [(cI, .int), (cL, .long)] [(x0, .inr (4, [.ref xC, .ref xD, .ref xK, .ref xQ, .ref xV, .ref xI, .int (nI pb), .ref xL, .ref xR, .ref xS, .ref xT])), (xC, .inr (0, [.ref xA, .int (nI cn)])), (xD, .inr (1, [.ref xB, .int (nI (szN cn)), .int (nI (iv (szN cn)))])), (xK, .inr (2, [.ref xW, .ref xX, .int (z_b md), .int (nI ta), .int (nI al), .int (nI be), .int (nI ga), .int (nI de), .int (nI va)])), (xQ, .inr (3, [.ref xE, .ref xF, .int (z_b pd)])), (xV, .inl (cI, 16, .inl (fun x9 => nI (v x9)))), (xI, .inl (cI, 7, .inl (fun x9 => nI (inp x9)))), (xL, .inl (cI, 16, .inl (fun x9 => nI (sL x9)))), (xR, .inl (cI, 16, .inl (fun x9 => nI (sR x9)))), (xS, .inl (cI, 16, .inl (fun x9 => nI (sS x9)))), (xT, .inl (cI, 16, .inl (fun x9 => nI (sT x9)))), (xA, .inl (cI, 816, .inl (fun x9 => nI (f x9)))), (xB, .inl (cI, 16, .inl (fun x9 => nI (bb x9)))), (xW, .inl (cI, 16, .inl (fun x9 => nI (w x9)))), (xX, .inl (cI, 16, .inl (fun x9 => nI (mx x9)))), (xE, .inl (cI, 3, .inl (fun x9 => nI (el x9)))), (xF, .inl (cI, 16, .inl (fun x9 => nI (qt x9))))])) (k2_QcV (.int (if (pd && bl x 16) = true then nI (qt x.toNatClampNeg) else -1))) 0 0 (fun _ => False) := by
  refine Met.ofW (cc := cM_quotient) (maxL := 2) (ret := (.some .int)) (by decide) rfl ?_
  intro p e s m args below meth c s₁ B hml hv
  obtain ⟨rfl, hP, hK⟩ := hv
  have F : CallFix p m c cM_quotient 2 s _ zT RM := ⟨B.exec, B.bytes, hml, findClass_of_methodNamed B.named, fun w h => atoms_spec (ws := (zW yM_quotient cM_quotient 2 (.some .int))) B.pre w (List.mem_cons_of_mem _ h)⟩
  have hr := B.returns
  have hlocks := B.notSynchronized
  have hl := lv_entry ([.ref x0, .int x]) (n := 2) (Nat.le_of_ble_eq_true rfl)
  rw [lg_entry_eq]
  generalize (lg_sl ([.ref x0, .int x]) ++ List.replicate (2 - (lg_sl ([.ref x0, .int x])).length) Slot.unset).toArray = ls at hl ⊢
  have hl : lv_has ls 2 [(0, .ref x0), (1, .int x)] := hl
  generalize hR : (if (pd && bl x 16) = true then nI (qt x.toNatClampNeg) else -1) = rr
  refine lv_aload_n F.1 F.2.1 dM_quotient_0 rfl (lv_at hl 0 rfl) ?_
  refine z_get F hK hP hinM 0 rfl rfl 3 (by decide) rfl wf_M_33 rfl dM_quotient_1 ?_
  refine z_call (z_runV [] [] F (cq_isMade l dC dI cI cL _ 4 xQ xE xF pd rfl) kk_Q_isMade wl_M_176 rfl rfl ⟨Nat.le_of_ble_eq_true rfl, Nat.le_of_ble_eq_true rfl⟩ (z_preVR (q := (RQ, TQ, 3)) hP hK rfl (q0 := 4) rfl) rfl hl.1 rfl (Nat.le_of_ble_eq_true rfl) dM_quotient_4 ⟨Nat.zero_le _, Nat.zero_le _⟩) ?_
  refine z_ifb_eq F (tgt := 30) dM_quotient_7 rfl (fun h1 => ?_) (fun h1 => ?_)
  · refine lv_iconst (v := -1) F.1 F.2.1 dM_quotient_30 (by decide) ?_
    refine z_topV rr (by rw [← hR, h1]; rfl) ?_
    exact W.iret F.1 F.2.1 hr (fun t ht hW => ⟨rfl, ht⟩) (fun _ h => by cases h) dM_quotient_31
  · refine lv_iload_n F.1 F.2.1 dM_quotient_10 rfl (lv_at hl 1 rfl) ?_
    refine z_bipush (v := 16) F (by decide) dM_quotient_11 ?_
    refine z_call (z_runS [.int x, .int (nI 16)] [] F (c_isBelow l x 16 (by decide)) kk_M_isBelow wl_M_56 rfl rfl ⟨Nat.le_of_ble_eq_true rfl, Nat.le_of_ble_eq_true rfl⟩ z_preN rfl hl.1 rfl (Nat.le_of_ble_eq_true rfl) dM_quotient_13 ⟨Nat.zero_le _, Nat.zero_le _⟩) ?_
    refine z_ifb_eq F (tgt := 30) dM_quotient_16 rfl (fun h2 => ?_) (fun h2 => ?_)
    · refine lv_iconst (v := -1) F.1 F.2.1 dM_quotient_30 (by decide) ?_
      refine z_topV rr (by rw [← hR, h1, h2]; rfl) ?_
      exact W.iret F.1 F.2.1 hr (fun t ht hW => ⟨rfl, ht⟩) (fun _ h => by cases h) dM_quotient_31
    · obtain ⟨j, hj, rfl⟩ := bl_of h2 (by decide)
      have hl : lv_has ls 2 [(0, .ref x0), (1, .int (nI j))] := hl
      refine lv_aload_n F.1 F.2.1 dM_quotient_19 rfl (lv_at hl 0 rfl) ?_
      refine z_get F hK hP hinM 0 rfl rfl 3 (by decide) rfl wf_M_33 rfl dM_quotient_20 ?_
      refine lv_iload_n F.1 F.2.1 dM_quotient_23 rfl (lv_at hl 1 rfl) ?_
      refine z_call (z_runV [.int (nI j)] [] F (cq_quotientCoefficient l dC dI cI cL _ 4 16 xQ xE xF pd qt j rfl rfl hj) kk_Q_quotientCoefficient wl_M_189 rfl rfl ⟨Nat.le_of_ble_eq_true rfl, Nat.le_of_ble_eq_true rfl⟩ (z_preVR (q := (RQ, TQ, 3)) hP hK rfl (q0 := 4) rfl) rfl hl.1 rfl (Nat.le_of_ble_eq_true rfl) dM_quotient_24 ⟨Nat.zero_le _, Nat.zero_le _⟩) ?_
      refine lv_goto F.1 F.2.1 (tgt := 31) dM_quotient_27 rfl ?_
      refine z_topV rr (by rw [← hR, h1, h2, nI_clamp (by omega)]; rfl) ?_
      exact W.iret F.1 F.2.1 hr (fun t ht hW => ⟨rfl, ht⟩) (fun _ h => by cases h) dM_quotient_31
