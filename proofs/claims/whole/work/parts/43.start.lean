/-! the law's start -/
theorem z_K0 {s : State} {A : Array Value} (hts : ∀ w ∈ zT, w.before A s = true) : ∃ (dC : Nat → ClassId) (dI : Nat → Nat → Nat) (cI cL : ClassId), va_K (dC, dI) vwCl [(cI, .int), (cL, .long)] s := by
  obtain ⟨c0, i0, k0⟩ := u_known hts hinC (hts _ wt_C)
  obtain ⟨c1, i1, k1⟩ := u_known hts hinD (hts _ wt_D)
  obtain ⟨c2, i2, k2⟩ := u_known hts hinK (hts _ wt_K)
  obtain ⟨c3, i3, k3⟩ := u_known hts hinQ (hts _ wt_Q)
  obtain ⟨c4, i4, k4⟩ := u_known hts hinM (hts _ wt_M)
  obtain ⟨c5, i5, k5⟩ := u_known hts hinT (hts _ wt_T)
  obtain ⟨cI, kI, gI, a1, a2, a3⟩ := Cond.arrayClass_spec (hts _ wa_int)
  obtain ⟨cL, kL, gL, b1, b2, b3⟩ := Cond.arrayClass_spec (hts _ wa_long)
  refine ⟨fun k => match k with | 0 => c0 | 1 => c1 | 2 => c2 | 3 => c3 | 4 => c4 | _ => c5, fun k => match k with | 0 => i0 | 1 => i1 | 2 => i2 | 3 => i3 | 4 => i4 | _ => i5, cI, cL, ?_, ?_⟩
  · intro c q hq
    match c, hq with
    | 0, hq => cases hq; exact k0
    | 1, hq => cases hq; exact k1
    | 2, hq => cases hq; exact k2
    | 3, hq => cases hq; exact k3
    | 4, hq => cases hq; exact k4
    | 5, hq => cases hq; exact k5
    | (n + 6), hq => cases hq
  · intro k q hq
    match k, hq with
    | 0, hq => cases hq; exact ⟨fun n z => ⟨fun k h => (by cases h), kI, a2, gI, a3⟩, a1⟩
    | 1, hq => cases hq; exact ⟨fun n z => ⟨fun k h => (by cases h), kL, b2, gL, b3⟩, b1⟩
    | (n + 2), hq => cases hq
theorem z_S0 {s : State} {A : Array Value} (hts : ∀ w ∈ lw_tbl, w.before A s = true) (hg : (Jvm.Cond.and given_1 narrow_1).before A s = true) : zS s s.heap := by
  have hs := flat_of_before _ hg
  refine ⟨⟨zS1.of (hts _ (by decide +kernel)) (hs _ (by decide +kernel)), zS1.of (hts _ (by decide +kernel)) (hs _ (by decide +kernel))⟩, ?_, va_Nc.of (hs (Cond.not (.castable zISE zIAE)) (by decide +kernel)), va_Nc.of (hs (Cond.not (.castable zAE zIAE)) (by decide +kernel)), va_Nc.of (hs (Cond.not (.castable zAE zISE)) (by decide +kernel))⟩
  intro w hw
  have hb := hts w ((by decide +kernel : ∀ w ∈ zCp, w ∈ lw_tbl) w hw)
  simp only [zCp, List.mem_cons, List.not_mem_nil, or_false] at hw
  rcases hw with rfl | rfl | rfl | rfl | rfl | rfl <;> exact va_any rfl hb
set_option maxHeartbeats 4000000 in
set_option maxRecDepth 100000 in
theorem whole_start {p : Program} {e : Env} {s : State} {m : MethodId} {below : List Frame} {meth : Method} {c : Code} (l : Launch) (hl9 : l.stackTraces = false) {b L : Nat} {xs : Nat → Int32} (hL : L ≤ 3072) (C0 : lw_At p s m meth c b L xs) : W p l e room_1 s m #[Value.ref b] below meth c s.heap [] 0 0 (lw_Z below #[Value.ref b] s) (entryFrame m ([Value.ref b] : List Value).toArray 7) := by
  obtain ⟨hx, hcode, hr, hml, hown, hts0, hX, hbl, hlk, hgv⟩ := C0
  have F : CallFix p m c cL_law 7 s #[Value.ref b] zT RL := ⟨hx, hcode, hml, hown, fun w h => hts0 w (zT_in w h)⟩
  obtain ⟨dC, dI, cI, cL, hK⟩ := z_K0 F.2.2.2.2
  have hZ := z_S0 hts0 hgv
  have C : Zcx p l s m c dC dI cI cL b L xs := ⟨F, hK, hX, hbl, hL, hZ, hl9⟩
  have hAA : ∀ q, s.heap.size ≤ q → zA s q := fun q h => h
  have hS : va_S (zA s) s.heap s.heap [] := va_S.rf
  have hP : va_P (dC, dI) vwCl [] s.heap := fun k q h => by simp at h
  have hD : va_D (zA s) [] := ⟨fun i j p q h => by simp at h, fun k q h => by simp at h⟩
  have hl := lv_entry ([.ref b]) (n := 7) (Nat.le_of_ble_eq_true rfl)
  rw [lg_entry_eq]
  generalize (lg_sl ([.ref b]) ++ List.replicate (7 - (lg_sl ([.ref b])).length) Slot.unset).toArray = ls at hl ⊢
  have hl : lv_has ls 7 [(0, .ref b)] := hl
  refine va_new (ci := 4) (fs := [.null, .null, .null, .null, .null, .null, .int (nI 0), .null, .null, .null, .null]) (C := RM) (T := TM) (N := 11) F.1 F.2.1 F.2.2.2.2 hinM tyM tyM_ok F.2.2.2.1 (F.2.2.2.2 _ wx_L_8) (F.2.2.2.2 _ wt_M) (F.2.2.2.2 _ wn_M) hK hP hD hS hAA rfl (by decide +kernel) (Nat.le_of_ble_eq_true rfl) (Nat.le_of_ble_eq_true rfl) dL_law_0 (fun x0 H hP hD hS => ?_)
  have hP : va_P (dC, dI) vwCl [(x0, .inr (4, [.null, .null, .null, .null, .null, .null, .int (nI 0), .null, .null, .null, .null]))] H := hP
  have hD : va_D (zA s) [(x0, .inr (4, [.null, .null, .null, .null, .null, .null, .int (nI 0), .null, .null, .null, .null]))] := hD
  refine lv_dup F.1 F.2.1 dL_law_3 rfl ?_
  refine z_callE (wr := []) (z_runI [] [.ref x0] F (cm_init l dC dI cI cL H.size x0) kk_M_init wl_L_48 rfl rfl ⟨Nat.le_of_ble_eq_true rfl, Nat.le_of_ble_eq_true rfl⟩ (z_preP hP hK hD) rfl hl.1 rfl (Nat.le_of_ble_eq_true rfl) dL_law_4 ⟨Nat.le_of_ble_eq_true rfl, Nat.le_of_ble_eq_true rfl⟩) hP hD hS hAA [0] [] rfl rfl (by decide) (by decide) (fun u H locs hP hD hS => ?_)
  obtain ⟨xC, xD, xK, xQ, xV, xI, xL, xR, xS, xT, xA, xB, xW, xX, xE, xF⟩ := u
  have hP : va_P (dC, dI) vwCl (mNew cI x0 (xC, xD, xK, xQ, xV, xI, xL, xR, xS, xT, xA, xB, xW, xX, xE, xF)) H := hP
  have hD : va_D (zA s) (mNew cI x0 (xC, xD, xK, xQ, xV, xI, xL, xR, xS, xT, xA, xB, xW, xX, xE, xF)) := hD
  refine lv_astore_n F.1 F.2.1 (lv' := [(1, .ref x0), (0, .ref b)]) dL_law_7 rfl hl (by decide) rfl (fun ls hl => ?_)
  refine va_new (ci := 5) (fs := [.int (nI 0), .null, .int (nI 0), .int (nI 0), .null, .null, .int (z_b false), .long (lN 0), .long (lN 0), .long (lN 0), .long (lN 0), .long (lN 0), .long (lN 0), .null, .int (z_b false), .null, .null, .null, .null]) (C := RT) (T := TT) (N := 19) F.1 F.2.1 F.2.2.2.2 hinT tyT tyT_ok F.2.2.2.1 (F.2.2.2.2 _ wx_L_49) (F.2.2.2.2 _ wt_T) (F.2.2.2.2 _ wn_T) hK hP hD hS hAA rfl (by decide +kernel) (Nat.le_of_ble_eq_true rfl) (Nat.le_of_ble_eq_true rfl) dL_law_8 (fun y0 H hP hD hS => ?_)
  refine lv_dup F.1 F.2.1 dL_law_11 rfl ?_
  have hP2 : va_P (dC, dI) vwCl [(y0, .inr (5, [.int (nI 0), .null, .int (nI 0), .int (nI 0), .null, .null, .int (z_b false), .long (lN 0), .long (lN 0), .long (lN 0), .long (lN 0), .long (lN 0), .long (lN 0), .null, .int (z_b false), .null, .null, .null, .null]))] H := z_right hP
  have hD2 : va_D (zA s) [(y0, .inr (5, [.int (nI 0), .null, .int (nI 0), .int (nI 0), .null, .null, .int (z_b false), .long (lN 0), .long (lN 0), .long (lN 0), .long (lN 0), .long (lN 0), .long (lN 0), .null, .int (z_b false), .null, .null, .null, .null]))] := z_rightD hD
  refine z_callE (wr := mNew cI x0 (xC, xD, xK, xQ, xV, xI, xL, xR, xS, xT, xA, xB, xW, xX, xE, xF)) (z_runI [] [.ref y0] F (ct_init l dC dI cI cL H.size y0) kk_T_init wl_L_51 rfl rfl ⟨Nat.le_of_ble_eq_true rfl, Nat.le_of_ble_eq_true rfl⟩ (z_preP hP2 hK hD2) rfl hl.1 rfl (Nat.le_of_ble_eq_true rfl) dL_law_12 ⟨Nat.le_of_ble_eq_true rfl, Nat.le_of_ble_eq_true rfl⟩) hP hD hS hAA [17] [0, 1, 2, 3, 4, 5, 6, 7, 8, 9, 10, 11, 12, 13, 14, 15, 16] rfl rfl (by decide) (by decide) (fun u H locs hP hD hS => ?_)
  obtain ⟨yR, yV, yI, yX, yP, yQ, yS, yD⟩ := u
  refine lv_astore_n F.1 F.2.1 (lv' := [(2, .ref y0), (1, .ref x0), (0, .ref b)]) dL_law_15 rfl hl (by decide) rfl (fun ls hl => ?_)
  refine z_iconst (v := 1) F (by decide) dL_law_16 ?_
  refine z_newL F hK hP hD hS hAA 1 rfl (n := 1) (by decide) wa_long (Nat.le_of_ble_eq_true rfl) (Nat.le_of_ble_eq_true rfl) dL_law_17 (fun xO H hP hD hS => ?_)
  refine lv_astore_n F.1 F.2.1 (lv' := [(3, .ref xO), (2, .ref y0), (1, .ref x0), (0, .ref b)]) dL_law_19 rfl hl (by decide) rfl (fun ls hl => ?_)
  refine z_iconst (v := 0) F (by decide) dL_law_20 ?_
  refine lv_istore F.1 F.2.1 (lv' := [(4, .int (nI 0)), (3, .ref xO), (2, .ref y0), (1, .ref x0), (0, .ref b)]) dL_law_21 hl (by decide) rfl (fun ls hl => ?_)
  have hl : lv_has ls 7 [(0, .ref b), (1, .ref x0), (2, .ref y0), (3, .ref xO), (4, .int (nI 0))] := lv_sub hl [4, 3, 2, 1, 0] rfl
  have hP : va_P (dC, dI) vwCl (wT cL (mkA9 x0 xC xD xK xQ xV xI xL xR xS xT xA xB xW xX xE xF xO y0 yR yV yI yX yP yQ yS yD) 0 0 0 0 0 0 0 0 0 false false ((fun _ => 0)) (va_up (fun _ => 0) 0 1) (va_up (fun _ => 0) 0 1) ((fun _ => 0)) ((fun _ => 0)) ((fun _ => 0)) ((fun _ => 0)) ((fun _ => 0)) ++ (wM cI (mkA9 x0 xC xD xK xQ xV xI xL xR xS xT xA xB xW xX xE xF xO y0 yR yV yI yX yP yQ yS yD) 0 0 0 0 0 0 0 0 false false (va_up (fun _ => 0) 0 1) (va_up (fun _ => 0) 0 1) ((fun _ => 0)) ((fun _ => 0)) ((fun _ => 0)) ((fun _ => 0)) ((fun _ => 0)) ((fun j => if j < szN 0 then bk (szN 0) ^ j % 998244353 else (fun _ => 0) j)) ((fun _ => 0)) ((fun _ => 0)) ((fun _ => 0)) ((fun _ => 0)) ++ wO cL (mkA9 x0 xC xD xK xQ xV xI xL xR xS xT xA xB xW xX xE xF xO y0 yR yV yI yX yP yQ yS yD) ((fun _ => 0)))) H := hP.sub [17, 18, 19, 20, 21, 22, 23, 24, 25, 0, 1, 2, 3, 4, 5, 6, 7, 8, 9, 10, 11, 12, 13, 14, 15, 16, 26] rfl
  have hD : va_D (zA s) (wT cL (mkA9 x0 xC xD xK xQ xV xI xL xR xS xT xA xB xW xX xE xF xO y0 yR yV yI yX yP yQ yS yD) 0 0 0 0 0 0 0 0 0 false false ((fun _ => 0)) (va_up (fun _ => 0) 0 1) (va_up (fun _ => 0) 0 1) ((fun _ => 0)) ((fun _ => 0)) ((fun _ => 0)) ((fun _ => 0)) ((fun _ => 0)) ++ (wM cI (mkA9 x0 xC xD xK xQ xV xI xL xR xS xT xA xB xW xX xE xF xO y0 yR yV yI yX yP yQ yS yD) 0 0 0 0 0 0 0 0 false false (va_up (fun _ => 0) 0 1) (va_up (fun _ => 0) 0 1) ((fun _ => 0)) ((fun _ => 0)) ((fun _ => 0)) ((fun _ => 0)) ((fun _ => 0)) ((fun j => if j < szN 0 then bk (szN 0) ^ j % 998244353 else (fun _ => 0) j)) ((fun _ => 0)) ((fun _ => 0)) ((fun _ => 0)) ((fun _ => 0)) ++ wO cL (mkA9 x0 xC xD xK xQ xV xI xL xR xS xT xA xB xW xX xE xF xO y0 yR yV yI yX yP yQ yS yD) ((fun _ => 0)))) := hD.sub [17, 18, 19, 20, 21, 22, 23, 24, 25, 0, 1, 2, 3, 4, 5, 6, 7, 8, 9, 10, 11, 12, 13, 14, 15, 16, 26] (by decide) rfl
  refine z_more 27 1997 (Nat.le_of_ble_eq_true rfl) (Nat.le_of_ble_eq_true rfl) ?_
  have hok : zok 0 0 0 0 0 0 0 0 false ((fun _ => 0)) (va_up (fun _ => 0) 0 1) (va_up (fun _ => 0) 0 1) ((fun _ => 0)) ((fun _ => 0)) ((fun j => if j < szN 0 then bk (szN 0) ^ j % 998244353 else (fun _ => 0) j)) ((fun _ => 0)) ((fun _ => 0)) ((fun _ => 0)) ((fun _ => 0)) := ⟨by decide, by decide, by decide, by decide, by decide, by decide, by decide, by decide, fun _ => (by decide : 0 < 998244353), z_upl (fun _ => (by decide : 0 < 998244353)) (by decide), z_upl (fun _ => (by decide : 0 < 998244353)) (by decide), fun _ => (by decide : 0 < 998244353), fun _ => (by decide : 0 < 998244353), fun j => by
      show (if _ then _ else 0) < _
      split
      · exact ltP _
      · exact (by decide : 0 < 998244353), fun _ => (by decide : 0 < 998244353), fun _ => (by decide : 0 < 998244353), fun _ => (by decide : 0 < 998244353), fun _ => (by decide : 0 < 998244353), fun j hj => if_pos hj, fun h => absurd h (by decide), fun _ _ => rfl⟩
  exact lw_loop (a := (mkA9 x0 xC xD xK xQ xV xI xL xR xS xT xA xB xW xX xE xF xO y0 yR yV yI yX yP yQ yS yD)) C hr hlk 512 0 27 1997 (by omega) (by omega) (by omega) (by omega) 0 0 0 0 0 0 0 0 0 false false (va_up (fun _ => 0) 0 1) (va_up (fun _ => 0) 0 1) ((fun _ => 0)) ((fun _ => 0)) ((fun _ => 0)) ((fun _ => 0)) ((fun _ => 0)) ((fun j => if j < szN 0 then bk (szN 0) ^ j % 998244353 else (fun _ => 0) j)) ((fun _ => 0)) ((fun _ => 0)) ((fun _ => 0)) ((fun _ => 0)) ((fun _ => 0)) ((fun _ => 0)) ((fun _ => 0)) ls H locs hok hP hD hS hl
