set_option maxHeartbeats 4000000 in
set_option maxRecDepth 100000 in
theorem lc_12 {p : Program} {l : Launch} {e : Env} {s : State} {m : MethodId} {below : List Frame} {meth : Method} {c : Code} {dC : Nat → ClassId} {dI : Nat → Nat → Nat} {cI cL : ClassId} {b L : Nat} {xs : Nat → Int32} {a : Zad} {pb : Nat} {cn : Nat} {ta : Nat} {al : Nat} {be : Nat} {ga : Nat} {de : Nat} {va : Nat} {th : Nat} {md : Bool} {pd : Bool} {v : Nat → Nat} {inp : Nat → Nat} {sL : Nat → Nat} {sR : Nat → Nat} {sS : Nat → Nat} {sT : Nat → Nat} {f : Nat → Nat} {bb : Nat → Nat} {w : Nat → Nat} {mx : Nat → Nat} {el : Nat → Nat} {qt : Nat → Nat} {su : Nat → Nat} {pr : Nat → Nat} {o : Nat → Nat} {i cells slots : Nat} {Q : State → Prop} {ls : Array Slot} {H : Heap} {locs : List Loc} (C : Zcx p l s m c dC dI cI cL b L xs) (hI : zok pb cn ta al be ga de va md f v inp mx el bb w sS sT su) (hi : i + 6 ≤ L) (hP : va_P (dC, dI) vwCl (wT cL a th cn pb ta al be ga de va md pd f v inp mx el qt su pr ++ (wM cI a pb cn ta al be ga de va md pd v inp sL sR sS sT f bb w mx el qt ++ wO cL a o)) H) (hD : va_D (zA s) (wT cL a th cn pb ta al be ga de va md pd f v inp mx el qt su pr ++ (wM cI a pb cn ta al be ga de va md pd v inp sL sR sS sT f bb w mx el qt ++ wO cL a o))) (hS : va_S (zA s) s.heap H locs) (hl : lv_has ls 7 [(0, .ref b), (1, .ref a.x0), (2, .ref a.y0), (3, .ref a.xO), (4, .int (nI i))]) (hcc : cells + 1 ≤ 1064) (hss : slots + 6 ≤ 10267) (kk : zNext p l e s m below meth c dC dI cI cL b i a (cells + 1) (slots + 6) Q 932) : W p l e room_1 s m #[Value.ref b] below meth c H locs cells slots Q (F0 m 821 ls []) := by
  obtain ⟨F, hK, hX, hbl, hL, hZ, h9⟩ := C
  have hAA : ∀ q, s.heap.size ≤ q → zA s q := fun q h => h
  have hc0 : cells ≤ 1064 := by omega
  have hs0 : slots ≤ 10267 := by omega
  have hhi := szN_hi cn
  by_cases hq : (bl (xs (i + 1)) 3 && (bl (xs (i + 2)) 16 && bl (xs (i + 3)) (szN cn))) = true
  · rw [Bool.and_eq_true, Bool.and_eq_true] at hq
    obtain ⟨r0, hr0, e1⟩ := bl_of hq.1 (by decide)
    obtain ⟨r1, hr1, e2⟩ := bl_of hq.2.1 (by decide)
    obtain ⟨r2, hr2, e3⟩ := bl_of hq.2.2 (by omega)
    refine lv_aload_n F.1 F.2.1 dL_law_821 rfl (lv_at hl 1 rfl) ?_
    refine lv_aload_n F.1 F.2.1 dL_law_822 rfl (lv_at hl 0 rfl) ?_
    refine lv_iload F.1 F.2.1 dL_law_823 (lv_at hl 4 rfl) ?_
    refine z_iconst (v := 1) F (by decide) dL_law_825 ?_
    refine z_iadd F dL_law_826 ?_
    refine z_sld F hX hbl hS hL (by omega) dL_law_827 ?_
    refine z_topI r0 (e1) ?_
    refine lv_aload_n F.1 F.2.1 dL_law_828 rfl (lv_at hl 0 rfl) ?_
    refine lv_iload F.1 F.2.1 dL_law_829 (lv_at hl 4 rfl) ?_
    refine z_iconst (v := 2) F (by decide) dL_law_831 ?_
    refine z_iadd F dL_law_832 ?_
    refine z_sld F hX hbl hS hL (by omega) dL_law_833 ?_
    refine z_topI r1 (e2) ?_
    refine lv_aload_n F.1 F.2.1 dL_law_834 rfl (lv_at hl 0 rfl) ?_
    refine lv_iload F.1 F.2.1 dL_law_835 (lv_at hl 4 rfl) ?_
    refine z_iconst (v := 3) F (by decide) dL_law_837 ?_
    refine z_iadd F dL_law_838 ?_
    refine z_sld F hX hbl hS hL (by omega) dL_law_839 ?_
    refine z_topI r2 (e3) ?_
    refine z_callM (wa := wT cL a th cn pb ta al be ga de va md pd f v inp mx el qt su pr) (wc := wM cI a pb cn ta al be ga de va md pd v inp sL sR sS sT f bb w mx el qt) (wb := wO cL a o) (z_runV [.int (nI r0), .int (nI r1), .int (nI r2)] [] F (cm_polynomial l dC dI cI cL _ a.x0 a.xC a.xD a.xK a.xQ a.xV a.xI a.xL a.xR a.xS a.xT a.xA a.xB a.xW a.xX a.xE a.xF pb cn ta al be ga de va md pd v inp sL sR sS sT f bb w mx el qt r0 r1 r2 hI.hf hI.hbb hI.hn hr0 hr1 hr2) kk_M_polynomial wl_L_102 rfl rfl ⟨Nat.le_of_ble_eq_true rfl, Nat.le_of_ble_eq_true rfl⟩ (z_preMP (q := (RM, TM, 11)) hP hK hD rfl (q0 := 0) rfl) rfl hl.1 rfl (Nat.le_of_ble_eq_true rfl) dL_law_840 ⟨hc0, hs0⟩) hP hD hS hAA (fun H locs hP hD hS => ?_)
    have hP : va_P (dC, dI) vwCl (wT cL a th cn pb ta al be ga de va md pd f v inp mx el qt su pr ++ (wM cI a pb cn ta al be ga de va md pd v inp ((fun j => if j < cn then f ((j * 3 + r0) * 16 + r1) else 0)) sR sS sT f bb w mx el qt ++ wO cL a o)) H := hP
    have hD : va_D (zA s) (wT cL a th cn pb ta al be ga de va md pd f v inp mx el qt su pr ++ (wM cI a pb cn ta al be ga de va md pd v inp ((fun j => if j < cn then f ((j * 3 + r0) * 16 + r1) else 0)) sR sS sT f bb w mx el qt ++ wO cL a o)) := hD
    refine z_top (cf cn (szN cn) (fun t => f ((t * 3 + r0) * 16 + r1)) r2) (pol_same cn r0 r1 r2 f bb hI.hn hI.hb0) ?_
    refine lv_aload_n F.1 F.2.1 dL_law_843 rfl (lv_at hl 2 rfl) ?_
    refine lv_aload_n F.1 F.2.1 dL_law_844 rfl (lv_at hl 0 rfl) ?_
    refine lv_iload F.1 F.2.1 dL_law_845 (lv_at hl 4 rfl) ?_
    refine z_iconst (v := 1) F (by decide) dL_law_847 ?_
    refine z_iadd F dL_law_848 ?_
    refine z_sld F hX hbl hS hL (by omega) dL_law_849 ?_
    refine z_topI r0 (e1) ?_
    refine lv_aload_n F.1 F.2.1 dL_law_850 rfl (lv_at hl 0 rfl) ?_
    refine lv_iload F.1 F.2.1 dL_law_851 (lv_at hl 4 rfl) ?_
    refine z_iconst (v := 2) F (by decide) dL_law_853 ?_
    refine z_iadd F dL_law_854 ?_
    refine z_sld F hX hbl hS hL (by omega) dL_law_855 ?_
    refine z_topI r1 (e2) ?_
    refine lv_aload_n F.1 F.2.1 dL_law_856 rfl (lv_at hl 0 rfl) ?_
    refine lv_iload F.1 F.2.1 dL_law_857 (lv_at hl 4 rfl) ?_
    refine z_iconst (v := 3) F (by decide) dL_law_859 ?_
    refine z_iadd F dL_law_860 ?_
    refine z_sld F hX hbl hS hL (by omega) dL_law_861 ?_
    refine z_topI r2 (e3) ?_
    refine z_callF (wb := wM cI a pb cn ta al be ga de va md pd v inp ((fun j => if j < cn then f ((j * 3 + r0) * 16 + r1) else 0)) sR sS sT f bb w mx el qt ++ wO cL a o) (z_runV [.int (nI r0), .int (nI r1), .int (nI r2)] [.int (nI (cf cn (szN cn) (fun t => f ((t * 3 + r0) * 16 + r1)) r2))] F (ct_polynomial l dC dI cI cL _ a.y0 a.yR a.yV a.yI a.yX a.yP a.yQ a.yS a.yD th cn pb ta al be ga de va md pd f v inp mx el qt su pr r0 r1 r2 hI.hf hI.hn hr0 hr1 hr2) kk_T_polynomial wl_L_105 rfl rfl ⟨Nat.le_of_ble_eq_true rfl, Nat.le_of_ble_eq_true rfl⟩ (z_preF (q := (RT, TT, 19)) hP hK hD rfl (q0 := 0) rfl) rfl hl.1 rfl (Nat.le_of_ble_eq_true rfl) dL_law_862 ⟨hc0, hs0⟩) hP hD hS hAA (fun H locs hP hD hS => ?_)
    have hP : va_P (dC, dI) vwCl (wT cL a 0 cn pb ta al be ga de va md pd f v inp mx el qt su pr ++ (wM cI a pb cn ta al be ga de va md pd v inp ((fun j => if j < cn then f ((j * 3 + r0) * 16 + r1) else 0)) sR sS sT f bb w mx el qt ++ wO cL a o)) H := hP
    have hD : va_D (zA s) (wT cL a 0 cn pb ta al be ga de va md pd f v inp mx el qt su pr ++ (wM cI a pb cn ta al be ga de va md pd v inp ((fun j => if j < cn then f ((j * 3 + r0) * 16 + r1) else 0)) sR sS sT f bb w mx el qt ++ wO cL a o)) := hD
    refine z_icmp_eq F (Nat.lt_trans (cf_lt _ _ _ _) (by decide)) (Nat.lt_trans (cf_lt _ _ _ _) (by decide)) (tgt := 932) dL_law_865 rfl (fun h => ?_) (fun h => absurd rfl h)
    refine z_more (cells + 1) (slots + 6) (Nat.le_succ _) (Nat.le_add_right _ _) ?_
    have hl : lv_has ls 7 [(0, .ref b), (1, .ref a.x0), (2, .ref a.y0), (3, .ref a.xO), (4, .int (nI i))] := lv_sub hl [0, 1, 2, 3, 4] rfl
    exact kk pb cn ta al be ga de va 0 md pd v inp ((fun j => if j < cn then f ((j * 3 + r0) * 16 + r1) else 0)) sR sS sT f bb w mx el qt su pr o ls H locs (show zok pb cn ta al be ga de va md f v inp mx el bb w sS sT su from ⟨hI.hn, hI.hpb, hI.hta, hI.hal, hI.hbe, hI.hga, hI.hde, hI.hva, hI.hf, hI.hv, hI.hinp, hI.hmx, hI.hel, hI.hbb, hI.hw, hI.hsS, hI.hsT, hI.hsu, hI.hb0, hI.hw0, hI.hf0⟩) hP hD hS hl
  · have hq : _ = false := Bool.eq_false_iff.mpr hq
    refine lv_aload_n F.1 F.2.1 dL_law_821 rfl (lv_at hl 1 rfl) ?_
    refine lv_aload_n F.1 F.2.1 dL_law_822 rfl (lv_at hl 0 rfl) ?_
    refine lv_iload F.1 F.2.1 dL_law_823 (lv_at hl 4 rfl) ?_
    refine z_iconst (v := 1) F (by decide) dL_law_825 ?_
    refine z_iadd F dL_law_826 ?_
    refine z_sld F hX hbl hS hL (by omega) dL_law_827 ?_
    refine lv_aload_n F.1 F.2.1 dL_law_828 rfl (lv_at hl 0 rfl) ?_
    refine lv_iload F.1 F.2.1 dL_law_829 (lv_at hl 4 rfl) ?_
    refine z_iconst (v := 2) F (by decide) dL_law_831 ?_
    refine z_iadd F dL_law_832 ?_
    refine z_sld F hX hbl hS hL (by omega) dL_law_833 ?_
    refine lv_aload_n F.1 F.2.1 dL_law_834 rfl (lv_at hl 0 rfl) ?_
    refine lv_iload F.1 F.2.1 dL_law_835 (lv_at hl 4 rfl) ?_
    refine z_iconst (v := 3) F (by decide) dL_law_837 ?_
    refine z_iadd F dL_law_838 ?_
    refine z_sld F hX hbl hS hL (by omega) dL_law_839 ?_
    refine z_call (z_runV [.int (xs (i + 1)), .int (xs (i + 2)), .int (xs (i + 3))] [] F (cm_polynomial_no l dC dI cI cL a.x0 a.xC a.xD a.xK a.xQ a.xV a.xI a.xL a.xR a.xS a.xT a.xA a.xB a.xW a.xX a.xE a.xF pb cn ta al be ga de va md pd v inp sL sR sS sT f bb w mx el qt _ _ _ hq) kk_M_polynomial wl_L_102 rfl rfl ⟨Nat.le_of_ble_eq_true rfl, Nat.le_of_ble_eq_true rfl⟩ (z_preMR (wa := wT cL a th cn pb ta al be ga de va md pd f v inp mx el qt su pr) (wc := wM cI a pb cn ta al be ga de va md pd v inp sL sR sS sT f bb w mx el qt) (wb := wO cL a o) (q := (RM, TM, 11)) hP hK rfl (q0 := 0) rfl) rfl hl.1 rfl (Nat.le_of_ble_eq_true rfl) dL_law_840 ⟨hc0, hs0⟩) ?_
    refine lv_aload_n F.1 F.2.1 dL_law_843 rfl (lv_at hl 2 rfl) ?_
    refine lv_aload_n F.1 F.2.1 dL_law_844 rfl (lv_at hl 0 rfl) ?_
    refine lv_iload F.1 F.2.1 dL_law_845 (lv_at hl 4 rfl) ?_
    refine z_iconst (v := 1) F (by decide) dL_law_847 ?_
    refine z_iadd F dL_law_848 ?_
    refine z_sld F hX hbl hS hL (by omega) dL_law_849 ?_
    refine lv_aload_n F.1 F.2.1 dL_law_850 rfl (lv_at hl 0 rfl) ?_
    refine lv_iload F.1 F.2.1 dL_law_851 (lv_at hl 4 rfl) ?_
    refine z_iconst (v := 2) F (by decide) dL_law_853 ?_
    refine z_iadd F dL_law_854 ?_
    refine z_sld F hX hbl hS hL (by omega) dL_law_855 ?_
    refine lv_aload_n F.1 F.2.1 dL_law_856 rfl (lv_at hl 0 rfl) ?_
    refine lv_iload F.1 F.2.1 dL_law_857 (lv_at hl 4 rfl) ?_
    refine z_iconst (v := 3) F (by decide) dL_law_859 ?_
    refine z_iadd F dL_law_860 ?_
    refine z_sld F hX hbl hS hL (by omega) dL_law_861 ?_
    refine z_callF (wb := wM cI a pb cn ta al be ga de va md pd v inp sL sR sS sT f bb w mx el qt ++ wO cL a o) (z_runV [.int (xs (i + 1)), .int (xs (i + 2)), .int (xs (i + 3))] [.int ((-1))] F (ct_polynomial_no l dC dI cI cL _ a.y0 a.yR a.yV a.yI a.yX a.yP a.yQ a.yS a.yD th cn pb ta al be ga de va md pd f v inp mx el qt su pr _ _ _ hI.hn hq) kk_T_polynomial wl_L_105 rfl rfl ⟨Nat.le_of_ble_eq_true rfl, Nat.le_of_ble_eq_true rfl⟩ (z_preF (q := (RT, TT, 19)) hP hK hD rfl (q0 := 0) rfl) rfl hl.1 rfl (Nat.le_of_ble_eq_true rfl) dL_law_862 ⟨hc0, hs0⟩) hP hD hS hAA (fun H locs hP hD hS => ?_)
    have hP : va_P (dC, dI) vwCl (wT cL a 0 cn pb ta al be ga de va md pd f v inp mx el qt su pr ++ (wM cI a pb cn ta al be ga de va md pd v inp sL sR sS sT f bb w mx el qt ++ wO cL a o)) H := hP
    have hD : va_D (zA s) (wT cL a 0 cn pb ta al be ga de va md pd f v inp mx el qt su pr ++ (wM cI a pb cn ta al be ga de va md pd v inp sL sR sS sT f bb w mx el qt ++ wO cL a o)) := hD
    refine lv_icmp_eq F.1 F.2.1 (tgt := 932) dL_law_865 rfl (fun h => ?_) (fun h => absurd rfl h)
    refine z_more (cells + 1) (slots + 6) (Nat.le_succ _) (Nat.le_add_right _ _) ?_
    have hl : lv_has ls 7 [(0, .ref b), (1, .ref a.x0), (2, .ref a.y0), (3, .ref a.xO), (4, .int (nI i))] := lv_sub hl [0, 1, 2, 3, 4] rfl
    exact kk pb cn ta al be ga de va 0 md pd v inp sL sR sS sT f bb w mx el qt su pr o ls H locs (show zok pb cn ta al be ga de va md f v inp mx el bb w sS sT su from ⟨hI.hn, hI.hpb, hI.hta, hI.hal, hI.hbe, hI.hga, hI.hde, hI.hva, hI.hf, hI.hv, hI.hinp, hI.hmx, hI.hel, hI.hbb, hI.hw, hI.hsS, hI.hsT, hI.hsu, hI.hb0, hI.hw0, hI.hf0⟩) hP hD hS hl
set_option maxHeartbeats 4000000 in
set_option maxRecDepth 100000 in
theorem lc_5 {p : Program} {l : Launch} {e : Env} {s : State} {m : MethodId} {below : List Frame} {meth : Method} {c : Code} {dC : Nat → ClassId} {dI : Nat → Nat → Nat} {cI cL : ClassId} {b L : Nat} {xs : Nat → Int32} {a : Zad} {pb : Nat} {cn : Nat} {ta : Nat} {al : Nat} {be : Nat} {ga : Nat} {de : Nat} {va : Nat} {th : Nat} {md : Bool} {pd : Bool} {v : Nat → Nat} {inp : Nat → Nat} {sL : Nat → Nat} {sR : Nat → Nat} {sS : Nat → Nat} {sT : Nat → Nat} {f : Nat → Nat} {bb : Nat → Nat} {w : Nat → Nat} {mx : Nat → Nat} {el : Nat → Nat} {qt : Nat → Nat} {su : Nat → Nat} {pr : Nat → Nat} {o : Nat → Nat} {i cells slots : Nat} {Q : State → Prop} {ls : Array Slot} {H : Heap} {locs : List Loc} (C : Zcx p l s m c dC dI cI cL b L xs) (hI : zok pb cn ta al be ga de va md f v inp mx el bb w sS sT su) (hi : i + 6 ≤ L) (hP : va_P (dC, dI) vwCl (wT cL a th cn pb ta al be ga de va md pd f v inp mx el qt su pr ++ (wM cI a pb cn ta al be ga de va md pd v inp sL sR sS sT f bb w mx el qt ++ wO cL a o)) H) (hD : va_D (zA s) (wT cL a th cn pb ta al be ga de va md pd f v inp mx el qt su pr ++ (wM cI a pb cn ta al be ga de va md pd v inp sL sR sS sT f bb w mx el qt ++ wO cL a o))) (hS : va_S (zA s) s.heap H locs) (hl : lv_has ls 7 [(0, .ref b), (1, .ref a.x0), (2, .ref a.y0), (3, .ref a.xO), (4, .int (nI i))]) (hcc : cells + 1 ≤ 1064) (hss : slots + 6 ≤ 10267) (kk : zNext p l e s m below meth c dC dI cI cL b i a (cells + 1) (slots + 6) Q 932) : W p l e room_1 s m #[Value.ref b] below meth c H locs cells slots Q (F0 m 391 ls []) := by
  obtain ⟨F, hK, hX, hbl, hL, hZ, h9⟩ := C
  have hAA : ∀ q, s.heap.size ≤ q → zA s q := fun q h => h
  have hc0 : cells ≤ 1064 := by omega
  have hs0 : slots ≤ 10267 := by omega
  by_cases hq : (un (xs (i + 1)) && (un (xs (i + 2)) && (un (xs (i + 3)) && (un (xs (i + 4)) && un (xs (i + 5)))))) = true
  · rw [Bool.and_eq_true, Bool.and_eq_true, Bool.and_eq_true, Bool.and_eq_true] at hq
    obtain ⟨r1, p1, h1, e1⟩ := un_of hq.1
    obtain ⟨r2, p2, h2, e2⟩ := un_of hq.2.1
    obtain ⟨r3, p3, h3, e3⟩ := un_of hq.2.2.1
    obtain ⟨r4, p4, h4, e4⟩ := un_of hq.2.2.2.1
    obtain ⟨r5, p5, h5, e5⟩ := un_of hq.2.2.2.2
    have hhi := szN_hi cn
    by_cases hv : van r1 (szN cn) = 0
    · refine lv_aload_n F.1 F.2.1 dL_law_391 rfl (lv_at hl 1 rfl) ?_
      refine lv_aload_n F.1 F.2.1 dL_law_392 rfl (lv_at hl 0 rfl) ?_
      refine lv_iload F.1 F.2.1 dL_law_393 (lv_at hl 4 rfl) ?_
      refine z_iconst (v := 1) F (by decide) dL_law_395 ?_
      refine z_iadd F dL_law_396 ?_
      refine z_sld F hX hbl hS hL (by omega) dL_law_397 ?_
      refine z_topI r1 (e1) ?_
      refine lv_aload_n F.1 F.2.1 dL_law_398 rfl (lv_at hl 0 rfl) ?_
      refine lv_iload F.1 F.2.1 dL_law_399 (lv_at hl 4 rfl) ?_
      refine z_iconst (v := 2) F (by decide) dL_law_401 ?_
      refine z_iadd F dL_law_402 ?_
      refine z_sld F hX hbl hS hL (by omega) dL_law_403 ?_
      refine z_topI r2 (e2) ?_
      refine lv_aload_n F.1 F.2.1 dL_law_404 rfl (lv_at hl 0 rfl) ?_
      refine lv_iload F.1 F.2.1 dL_law_405 (lv_at hl 4 rfl) ?_
      refine z_iconst (v := 3) F (by decide) dL_law_407 ?_
      refine z_iadd F dL_law_408 ?_
      refine z_sld F hX hbl hS hL (by omega) dL_law_409 ?_
      refine z_topI r3 (e3) ?_
      refine lv_aload_n F.1 F.2.1 dL_law_410 rfl (lv_at hl 0 rfl) ?_
      refine lv_iload F.1 F.2.1 dL_law_411 (lv_at hl 4 rfl) ?_
      refine z_iconst (v := 4) F (by decide) dL_law_413 ?_
      refine z_iadd F dL_law_414 ?_
      refine z_sld F hX hbl hS hL (by omega) dL_law_415 ?_
      refine z_topI r4 (e4) ?_
      refine lv_aload_n F.1 F.2.1 dL_law_416 rfl (lv_at hl 0 rfl) ?_
      refine lv_iload F.1 F.2.1 dL_law_417 (lv_at hl 4 rfl) ?_
      refine z_iconst (v := 5) F (by decide) dL_law_419 ?_
      refine z_iadd F dL_law_420 ?_
      refine z_sld F hX hbl hS hL (by omega) dL_law_421 ?_
      refine z_topI r5 (e5) ?_
      refine lv_aload_n F.1 F.2.1 dL_law_422 rfl (lv_at hl 3 rfl) ?_
      refine z_callR (wa := wT cL a th cn pb ta al be ga de va md pd f v inp mx el qt su pr) (wc := wM cI a pb cn ta al be ga de va md pd v inp sL sR sS sT f bb w mx el qt ++ wO cL a o) (z_runSW [.ref a.x0, .int (nI r1), .int (nI r2), .int (nI r3), .int (nI r4), .int (nI r5), .ref a.xO] [] F (wx_setup_nv l h9 dC dI cI cL _ a.x0 a.xC a.xD a.xK a.xQ a.xV a.xI a.xL a.xR a.xS a.xT a.xA a.xB a.xW a.xX a.xE a.xF pb cn ta al be ga de va md pd v inp sL sR sS sT f bb w mx el qt a.xO o r1 r2 r3 r4 r5 p1 h1 p2 h2 p3 h3 p4 h4 p5 h5 hv) kk_L_setup wl_L_77 rfl rfl ⟨Nat.le_of_ble_eq_true rfl, Nat.le_of_ble_eq_true rfl⟩ (z_preSR hP hK hD (z_zs hZ hS)) rfl hl.1 rfl (Nat.le_of_ble_eq_true rfl) dL_law_423 ⟨hcc, hss⟩) hP hD hS hAA (fun H locs hP hD hS => ?_)
      have hP : va_P (dC, dI) vwCl (wT cL a th cn pb ta al be ga de va md pd f v inp mx el qt su pr ++ (wM cI a pb cn ta al be ga de va md pd v inp sL sR sS sT f bb w mx el qt ++ wO cL a o)) H := hP
      have hD : va_D (zA s) (wT cL a th cn pb ta al be ga de va md pd f v inp mx el qt su pr ++ (wM cI a pb cn ta al be ga de va md pd v inp sL sR sS sT f bb w mx el qt ++ wO cL a o)) := hD
      refine lv_istore F.1 F.2.1 (lv' := [(5, .int (nI 2)), (0, .ref b), (1, .ref a.x0), (2, .ref a.y0), (3, .ref a.xO), (4, .int (nI i))]) dL_law_426 hl (by decide) rfl (fun ls hl => ?_)
      refine lv_aload_n F.1 F.2.1 dL_law_428 rfl (lv_at hl 3 rfl) ?_
      refine lv_aload_n F.1 F.2.1 dL_law_429 rfl (lv_at hl 1 rfl) ?_
      refine lv_iload F.1 F.2.1 dL_law_430 (lv_at hl 5 rfl) ?_
      refine z_iconst (v := 1) F (by decide) dL_law_432 ?_
      refine z_iadd F dL_law_433 ?_
      refine z_sld F hX hbl hS hL (by omega) dL_law_434 ?_
      refine z_topI r1 (e1) ?_
      refine lv_aload_n F.1 F.2.1 dL_law_435 rfl (lv_at hl 1 rfl) ?_
      refine lv_iload F.1 F.2.1 dL_law_436 (lv_at hl 5 rfl) ?_
      refine z_iconst (v := 2) F (by decide) dL_law_438 ?_
      refine z_iadd F dL_law_439 ?_
      refine z_sld F hX hbl hS hL (by omega) dL_law_440 ?_
      refine z_topI r2 (e2) ?_
      refine lv_aload_n F.1 F.2.1 dL_law_441 rfl (lv_at hl 1 rfl) ?_
      refine lv_iload F.1 F.2.1 dL_law_442 (lv_at hl 5 rfl) ?_
      refine z_iconst (v := 3) F (by decide) dL_law_444 ?_
      refine z_iadd F dL_law_445 ?_
      refine z_sld F hX hbl hS hL (by omega) dL_law_446 ?_
      refine z_topI r3 (e3) ?_
      refine lv_aload_n F.1 F.2.1 dL_law_447 rfl (lv_at hl 1 rfl) ?_
      refine lv_iload F.1 F.2.1 dL_law_448 (lv_at hl 5 rfl) ?_
      refine z_iconst (v := 4) F (by decide) dL_law_450 ?_
      refine z_iadd F dL_law_451 ?_
      refine z_sld F hX hbl hS hL (by omega) dL_law_452 ?_
      refine z_topI r4 (e4) ?_
      refine lv_aload_n F.1 F.2.1 dL_law_453 rfl (lv_at hl 1 rfl) ?_
      refine lv_iload F.1 F.2.1 dL_law_454 (lv_at hl 5 rfl) ?_
      refine z_iconst (v := 5) F (by decide) dL_law_456 ?_
      refine z_iadd F dL_law_457 ?_
      refine z_sld F hX hbl hS hL (by omega) dL_law_458 ?_
      refine z_topI r5 (e5) ?_
      refine z_callF (wb := wM cI a pb cn ta al be ga de va md pd v inp sL sR sS sT f bb w mx el qt ++ wO cL a o) (z_runV [.int (nI r1), .int (nI r2), .int (nI r3), .int (nI r4), .int (nI r5)] [] F (ct_setup_nv l dC dI cI cL _ a.y0 a.yR a.yV a.yI a.yX a.yP a.yQ a.yS a.yD th cn pb ta al be ga de va md pd f v inp mx el qt su pr r1 r2 r3 r4 r5 hI.hf hI.hn p1 h1 p2 h2 p3 h3 p4 h4 p5 h5 hv) kk_T_setup wl_L_80 rfl rfl ⟨Nat.le_of_ble_eq_true rfl, Nat.le_of_ble_eq_true rfl⟩ (z_preF (q := (RT, TT, 19)) hP hK hD rfl (q0 := 0) rfl) rfl hl.1 rfl (Nat.le_of_ble_eq_true rfl) dL_law_459 ⟨hcc, hss⟩) hP hD hS hAA (fun H locs hP hD hS => ?_)
      have hP : va_P (dC, dI) vwCl (wT cL a 2 cn pb ta al be ga de va md pd f v inp mx el qt su pr ++ (wM cI a pb cn ta al be ga de va md pd v inp sL sR sS sT f bb w mx el qt ++ wO cL a o)) H := hP
      have hD : va_D (zA s) (wT cL a 2 cn pb ta al be ga de va md pd f v inp mx el qt su pr ++ (wM cI a pb cn ta al be ga de va md pd v inp sL sR sS sT f bb w mx el qt ++ wO cL a o)) := hD
      refine lv_istore F.1 F.2.1 (lv' := [(6, .int (nI 0)), (5, .int (nI 2)), (0, .ref b), (1, .ref a.x0), (2, .ref a.y0), (3, .ref a.xO), (4, .int (nI i))]) dL_law_462 hl (by decide) rfl (fun ls hl => ?_)
      refine lv_aload_n F.1 F.2.1 dL_law_464 rfl (lv_at hl 4 rfl) ?_
      refine z_call (z_runV [] [] F (ct_thrown l dC dI cI cL _ 0 a.y0 a.yR a.yV a.yI a.yX a.yP a.yQ a.yS a.yD 2 cn pb ta al be ga de va md pd rfl) kk_T_thrown wl_L_58 rfl rfl ⟨Nat.le_of_ble_eq_true rfl, Nat.le_of_ble_eq_true rfl⟩ (z_preVR (q := (RT, TT, 19)) hP hK rfl (q0 := 0) rfl) rfl hl.1 rfl (Nat.le_of_ble_eq_true rfl) dL_law_465 ⟨hcc, hss⟩) ?_
      refine lv_iload F.1 F.2.1 dL_law_468 (lv_at hl 1 rfl) ?_
      refine z_icmp_eq F (by decide) (by decide) (tgt := 475) dL_law_470 rfl (fun h => ?_) (fun h => absurd rfl h)
      refine lv_iload F.1 F.2.1 dL_law_475 (lv_at hl 1 rfl) ?_
      refine z_if_ne F (by decide) (tgt := 492) dL_law_477 rfl (fun h => ?_) (fun h => absurd h (by decide))
      refine lv_goto F.1 F.2.1 (tgt := 932) dL_law_492 rfl ?_
      have hl : lv_has ls 7 [(0, .ref b), (1, .ref a.x0), (2, .ref a.y0), (3, .ref a.xO), (4, .int (nI i))] := lv_sub hl [2, 3, 4, 5, 6] rfl
      exact kk pb cn ta al be ga de va 2 md pd v inp sL sR sS sT f bb w mx el qt su pr o ls H locs (show zok pb cn ta al be ga de va md f v inp mx el bb w sS sT su from ⟨hI.hn, hI.hpb, hI.hta, hI.hal, hI.hbe, hI.hga, hI.hde, hI.hva, hI.hf, hI.hv, hI.hinp, hI.hmx, hI.hel, hI.hbb, hI.hw, hI.hsS, hI.hsT, hI.hsu, hI.hb0, hI.hw0, hI.hf0⟩) hP hD hS hl
    · have hw1 : ∀ j, j < cn → wts (szN cn) (iv (szN cn)) r1 bb j = wt (szN cn) r1 j := fun j hj => wts_wt hI.hb0 r1 j (Nat.lt_of_lt_of_le hj (szN_ge hI.hn))
      have hmm : mxs cn r2 r3 f (wts (szN cn) (iv (szN cn)) r1 bb) = mxT cn r1 r2 r3 f := funext (fun q => mxs_mxT r1 r2 r3 f _ q hw1)
      refine lv_aload_n F.1 F.2.1 dL_law_391 rfl (lv_at hl 1 rfl) ?_
      refine lv_aload_n F.1 F.2.1 dL_law_392 rfl (lv_at hl 0 rfl) ?_
      refine lv_iload F.1 F.2.1 dL_law_393 (lv_at hl 4 rfl) ?_
      refine z_iconst (v := 1) F (by decide) dL_law_395 ?_
      refine z_iadd F dL_law_396 ?_
      refine z_sld F hX hbl hS hL (by omega) dL_law_397 ?_
      refine z_topI r1 (e1) ?_
      refine lv_aload_n F.1 F.2.1 dL_law_398 rfl (lv_at hl 0 rfl) ?_
      refine lv_iload F.1 F.2.1 dL_law_399 (lv_at hl 4 rfl) ?_
      refine z_iconst (v := 2) F (by decide) dL_law_401 ?_
      refine z_iadd F dL_law_402 ?_
      refine z_sld F hX hbl hS hL (by omega) dL_law_403 ?_
      refine z_topI r2 (e2) ?_
      refine lv_aload_n F.1 F.2.1 dL_law_404 rfl (lv_at hl 0 rfl) ?_
      refine lv_iload F.1 F.2.1 dL_law_405 (lv_at hl 4 rfl) ?_
      refine z_iconst (v := 3) F (by decide) dL_law_407 ?_
      refine z_iadd F dL_law_408 ?_
      refine z_sld F hX hbl hS hL (by omega) dL_law_409 ?_
      refine z_topI r3 (e3) ?_
      refine lv_aload_n F.1 F.2.1 dL_law_410 rfl (lv_at hl 0 rfl) ?_
      refine lv_iload F.1 F.2.1 dL_law_411 (lv_at hl 4 rfl) ?_
      refine z_iconst (v := 4) F (by decide) dL_law_413 ?_
      refine z_iadd F dL_law_414 ?_
      refine z_sld F hX hbl hS hL (by omega) dL_law_415 ?_
      refine z_topI r4 (e4) ?_
      refine lv_aload_n F.1 F.2.1 dL_law_416 rfl (lv_at hl 0 rfl) ?_
      refine lv_iload F.1 F.2.1 dL_law_417 (lv_at hl 4 rfl) ?_
      refine z_iconst (v := 5) F (by decide) dL_law_419 ?_
      refine z_iadd F dL_law_420 ?_
      refine z_sld F hX hbl hS hL (by omega) dL_law_421 ?_
      refine z_topI r5 (e5) ?_
      refine lv_aload_n F.1 F.2.1 dL_law_422 rfl (lv_at hl 3 rfl) ?_
      refine z_callR (wa := wT cL a th cn pb ta al be ga de va md pd f v inp mx el qt su pr) (wc := wM cI a pb cn ta al be ga de va md pd v inp sL sR sS sT f bb w mx el qt ++ wO cL a o) (z_runSW [.ref a.x0, .int (nI r1), .int (nI r2), .int (nI r3), .int (nI r4), .int (nI r5), .ref a.xO] [] F (ww_setup l dC dI cI cL _ a.x0 a.xC a.xD a.xK a.xQ a.xV a.xI a.xL a.xR a.xS a.xT a.xA a.xB a.xW a.xX a.xE a.xF pb cn ta al be ga de va md pd v inp sL sR sS sT f bb w mx el qt a.xO o r1 r2 r3 r4 r5 hI.hf hI.hbb hI.hn p1 h1 p2 h2 p3 h3 p4 h4 p5 h5 hv) kk_L_setup wl_L_77 rfl rfl ⟨Nat.le_of_ble_eq_true rfl, Nat.le_of_ble_eq_true rfl⟩ (z_preSR hP hK hD (z_zs hZ hS)) rfl hl.1 rfl (Nat.le_of_ble_eq_true rfl) dL_law_423 ⟨hcc, hss⟩) hP hD hS hAA (fun H locs hP hD hS => ?_)
      have hP : va_P (dC, dI) vwCl (wT cL a th cn pb ta al be ga de va md pd f v inp mx el qt su pr ++ (wM cI a pb cn r1 r2 r3 r4 r5 (van r1 (szN cn)) true pd v inp sL sR sS sT f bb (wts (szN cn) (iv (szN cn)) r1 bb) (mxs cn r2 r3 f (wts (szN cn) (iv (szN cn)) r1 bb)) el qt ++ wO cL a (va_up o 0 (szN cn)))) H := hP
      have hD : va_D (zA s) (wT cL a th cn pb ta al be ga de va md pd f v inp mx el qt su pr ++ (wM cI a pb cn r1 r2 r3 r4 r5 (van r1 (szN cn)) true pd v inp sL sR sS sT f bb (wts (szN cn) (iv (szN cn)) r1 bb) (mxs cn r2 r3 f (wts (szN cn) (iv (szN cn)) r1 bb)) el qt ++ wO cL a (va_up o 0 (szN cn)))) := hD
      rw [hmm] at hP hD
      refine lv_istore F.1 F.2.1 (lv' := [(5, .int (nI 0)), (0, .ref b), (1, .ref a.x0), (2, .ref a.y0), (3, .ref a.xO), (4, .int (nI i))]) dL_law_426 hl (by decide) rfl (fun ls hl => ?_)
      refine lv_aload_n F.1 F.2.1 dL_law_428 rfl (lv_at hl 3 rfl) ?_
      refine lv_aload_n F.1 F.2.1 dL_law_429 rfl (lv_at hl 1 rfl) ?_
      refine lv_iload F.1 F.2.1 dL_law_430 (lv_at hl 5 rfl) ?_
      refine z_iconst (v := 1) F (by decide) dL_law_432 ?_
      refine z_iadd F dL_law_433 ?_
      refine z_sld F hX hbl hS hL (by omega) dL_law_434 ?_
      refine z_topI r1 (e1) ?_
      refine lv_aload_n F.1 F.2.1 dL_law_435 rfl (lv_at hl 1 rfl) ?_
      refine lv_iload F.1 F.2.1 dL_law_436 (lv_at hl 5 rfl) ?_
      refine z_iconst (v := 2) F (by decide) dL_law_438 ?_
      refine z_iadd F dL_law_439 ?_
      refine z_sld F hX hbl hS hL (by omega) dL_law_440 ?_
      refine z_topI r2 (e2) ?_
      refine lv_aload_n F.1 F.2.1 dL_law_441 rfl (lv_at hl 1 rfl) ?_
      refine lv_iload F.1 F.2.1 dL_law_442 (lv_at hl 5 rfl) ?_
      refine z_iconst (v := 3) F (by decide) dL_law_444 ?_
      refine z_iadd F dL_law_445 ?_
      refine z_sld F hX hbl hS hL (by omega) dL_law_446 ?_
      refine z_topI r3 (e3) ?_
      refine lv_aload_n F.1 F.2.1 dL_law_447 rfl (lv_at hl 1 rfl) ?_
      refine lv_iload F.1 F.2.1 dL_law_448 (lv_at hl 5 rfl) ?_
      refine z_iconst (v := 4) F (by decide) dL_law_450 ?_
      refine z_iadd F dL_law_451 ?_
      refine z_sld F hX hbl hS hL (by omega) dL_law_452 ?_
      refine z_topI r4 (e4) ?_
      refine lv_aload_n F.1 F.2.1 dL_law_453 rfl (lv_at hl 1 rfl) ?_
      refine lv_iload F.1 F.2.1 dL_law_454 (lv_at hl 5 rfl) ?_
      refine z_iconst (v := 5) F (by decide) dL_law_456 ?_
      refine z_iadd F dL_law_457 ?_
      refine z_sld F hX hbl hS hL (by omega) dL_law_458 ?_
      refine z_topI r5 (e5) ?_
      refine z_callF (wb := wM cI a pb cn r1 r2 r3 r4 r5 (van r1 (szN cn)) true pd v inp sL sR sS sT f bb (wts (szN cn) (iv (szN cn)) r1 bb) (mxT cn r1 r2 r3 f) el qt ++ wO cL a (va_up o 0 (szN cn))) (z_runV [.int (nI r1), .int (nI r2), .int (nI r3), .int (nI r4), .int (nI r5)] [] F (ct_setup l dC dI cI cL _ a.y0 a.yR a.yV a.yI a.yX a.yP a.yQ a.yS a.yD th cn pb ta al be ga de va md pd f v inp mx el qt su pr r1 r2 r3 r4 r5 hI.hf hI.hn p1 h1 p2 h2 p3 h3 p4 h4 p5 h5 hv) kk_T_setup wl_L_80 rfl rfl ⟨Nat.le_of_ble_eq_true rfl, Nat.le_of_ble_eq_true rfl⟩ (z_preF (q := (RT, TT, 19)) hP hK hD rfl (q0 := 0) rfl) rfl hl.1 rfl (Nat.le_of_ble_eq_true rfl) dL_law_459 ⟨hcc, hss⟩) hP hD hS hAA (fun H locs hP hD hS => ?_)
      have hP : va_P (dC, dI) vwCl (wT cL a 0 cn pb r1 r2 r3 r4 r5 (van r1 (szN cn)) true pd f v inp (mxT cn r1 r2 r3 f) el qt su pr ++ (wM cI a pb cn r1 r2 r3 r4 r5 (van r1 (szN cn)) true pd v inp sL sR sS sT f bb (wts (szN cn) (iv (szN cn)) r1 bb) (mxT cn r1 r2 r3 f) el qt ++ wO cL a (va_up o 0 (szN cn)))) H := hP
      have hD : va_D (zA s) (wT cL a 0 cn pb r1 r2 r3 r4 r5 (van r1 (szN cn)) true pd f v inp (mxT cn r1 r2 r3 f) el qt su pr ++ (wM cI a pb cn r1 r2 r3 r4 r5 (van r1 (szN cn)) true pd v inp sL sR sS sT f bb (wts (szN cn) (iv (szN cn)) r1 bb) (mxT cn r1 r2 r3 f) el qt ++ wO cL a (va_up o 0 (szN cn)))) := hD
      refine lv_istore F.1 F.2.1 (lv' := [(6, .int (nI (szN cn))), (5, .int (nI 0)), (0, .ref b), (1, .ref a.x0), (2, .ref a.y0), (3, .ref a.xO), (4, .int (nI i))]) dL_law_462 hl (by decide) rfl (fun ls hl => ?_)
      refine lv_aload_n F.1 F.2.1 dL_law_464 rfl (lv_at hl 4 rfl) ?_
      refine z_call (z_runV [] [] F (ct_thrown l dC dI cI cL _ 0 a.y0 a.yR a.yV a.yI a.yX a.yP a.yQ a.yS a.yD 0 cn pb r1 r2 r3 r4 r5 (van r1 (szN cn)) true pd rfl) kk_T_thrown wl_L_58 rfl rfl ⟨Nat.le_of_ble_eq_true rfl, Nat.le_of_ble_eq_true rfl⟩ (z_preVR (q := (RT, TT, 19)) hP hK rfl (q0 := 0) rfl) rfl hl.1 rfl (Nat.le_of_ble_eq_true rfl) dL_law_465 ⟨hcc, hss⟩) ?_
      refine lv_iload F.1 F.2.1 dL_law_468 (lv_at hl 1 rfl) ?_
      refine z_icmp_eq F (by decide) (by decide) (tgt := 475) dL_law_470 rfl (fun h => ?_) (fun h => absurd rfl h)
      refine lv_iload F.1 F.2.1 dL_law_475 (lv_at hl 1 rfl) ?_
      refine z_if_ne F (by decide) (tgt := 492) dL_law_477 rfl (fun h => absurd rfl h) (fun h => ?_)
      refine lv_aload_n F.1 F.2.1 dL_law_480 rfl (lv_at hl 5 rfl) ?_
      refine z_iconst (v := 0) F (by decide) dL_law_481 ?_
      refine z_lald F hK hP 26 1 rfl rfl (by decide) (by decide) dL_law_482 ?_
      refine z_topL (szN cn) (va_up_self _ _ _) ?_
      refine lv_iload F.1 F.2.1 dL_law_483 (lv_at hl 0 rfl) ?_
      refine z_i2l F (by omega) dL_law_485 ?_
      refine z_lcmp F dL_law_486 ?_
      refine z_ifl_eq F (by omega) (by omega) (tgt := 492) dL_law_487 rfl (fun h => ?_) (fun h => absurd rfl h)
      refine lv_goto F.1 F.2.1 (tgt := 932) dL_law_492 rfl ?_
      have hl : lv_has ls 7 [(0, .ref b), (1, .ref a.x0), (2, .ref a.y0), (3, .ref a.xO), (4, .int (nI i))] := lv_sub hl [2, 3, 4, 5, 6] rfl
      exact kk pb cn r1 r2 r3 r4 r5 (van r1 (szN cn)) 0 true pd v inp sL sR sS sT f bb (wts (szN cn) (iv (szN cn)) r1 bb) (mxT cn r1 r2 r3 f) el qt su pr (va_up o 0 (szN cn)) ls H locs (show zok pb cn r1 r2 r3 r4 r5 (van r1 (szN cn)) true f v inp (mxT cn r1 r2 r3 f) el bb (wts (szN cn) (iv (szN cn)) r1 bb) sS sT su from ⟨hI.hn, hI.hpb, h1, h2, h3, h4, h5, van_lt _ _, hI.hf, hI.hv, hI.hinp, fun j => by rw [← hmm]; exact mxs_lt j, hI.hel, hI.hbb, wts_lt, hI.hsS, hI.hsT, hI.hsu, hI.hb0, fun _ => hw1, hI.hf0⟩) hP hD hS hl
  · have hq : _ = false := Bool.eq_false_iff.mpr hq
    refine lv_aload_n F.1 F.2.1 dL_law_391 rfl (lv_at hl 1 rfl) ?_
    refine lv_aload_n F.1 F.2.1 dL_law_392 rfl (lv_at hl 0 rfl) ?_
    refine lv_iload F.1 F.2.1 dL_law_393 (lv_at hl 4 rfl) ?_
    refine z_iconst (v := 1) F (by decide) dL_law_395 ?_
    refine z_iadd F dL_law_396 ?_
    refine z_sld F hX hbl hS hL (by omega) dL_law_397 ?_
    refine lv_aload_n F.1 F.2.1 dL_law_398 rfl (lv_at hl 0 rfl) ?_
    refine lv_iload F.1 F.2.1 dL_law_399 (lv_at hl 4 rfl) ?_
    refine z_iconst (v := 2) F (by decide) dL_law_401 ?_
    refine z_iadd F dL_law_402 ?_
    refine z_sld F hX hbl hS hL (by omega) dL_law_403 ?_
    refine lv_aload_n F.1 F.2.1 dL_law_404 rfl (lv_at hl 0 rfl) ?_
    refine lv_iload F.1 F.2.1 dL_law_405 (lv_at hl 4 rfl) ?_
    refine z_iconst (v := 3) F (by decide) dL_law_407 ?_
    refine z_iadd F dL_law_408 ?_
    refine z_sld F hX hbl hS hL (by omega) dL_law_409 ?_
    refine lv_aload_n F.1 F.2.1 dL_law_410 rfl (lv_at hl 0 rfl) ?_
    refine lv_iload F.1 F.2.1 dL_law_411 (lv_at hl 4 rfl) ?_
    refine z_iconst (v := 4) F (by decide) dL_law_413 ?_
    refine z_iadd F dL_law_414 ?_
    refine z_sld F hX hbl hS hL (by omega) dL_law_415 ?_
    refine lv_aload_n F.1 F.2.1 dL_law_416 rfl (lv_at hl 0 rfl) ?_
    refine lv_iload F.1 F.2.1 dL_law_417 (lv_at hl 4 rfl) ?_
    refine z_iconst (v := 5) F (by decide) dL_law_419 ?_
    refine z_iadd F dL_law_420 ?_
    refine z_sld F hX hbl hS hL (by omega) dL_law_421 ?_
    refine lv_aload_n F.1 F.2.1 dL_law_422 rfl (lv_at hl 3 rfl) ?_
    refine z_callR (wa := wT cL a th cn pb ta al be ga de va md pd f v inp mx el qt su pr) (wc := wM cI a pb cn ta al be ga de va md pd v inp sL sR sS sT f bb w mx el qt ++ wO cL a o) (z_runSW [.ref a.x0, .int (xs (i + 1)), .int (xs (i + 2)), .int (xs (i + 3)), .int (xs (i + 4)), .int (xs (i + 5)), .ref a.xO] [] F (wx_setup l h9 dC dI cI cL _ a.x0 a.xC a.xD a.xK a.xQ a.xV a.xI a.xL a.xR a.xS a.xT a.xA a.xB a.xW a.xX a.xE a.xF pb cn ta al be ga de va md pd v inp sL sR sS sT f bb w mx el qt a.xO o _ _ _ _ _ hq) kk_L_setup wl_L_77 rfl rfl ⟨Nat.le_of_ble_eq_true rfl, Nat.le_of_ble_eq_true rfl⟩ (z_preSR hP hK hD (z_zs hZ hS)) rfl hl.1 rfl (Nat.le_of_ble_eq_true rfl) dL_law_423 ⟨hcc, hss⟩) hP hD hS hAA (fun H locs hP hD hS => ?_)
    have hP : va_P (dC, dI) vwCl (wT cL a th cn pb ta al be ga de va md pd f v inp mx el qt su pr ++ (wM cI a pb cn ta al be ga de va md pd v inp sL sR sS sT f bb w mx el qt ++ wO cL a o)) H := hP
    have hD : va_D (zA s) (wT cL a th cn pb ta al be ga de va md pd f v inp mx el qt su pr ++ (wM cI a pb cn ta al be ga de va md pd v inp sL sR sS sT f bb w mx el qt ++ wO cL a o)) := hD
    refine lv_istore F.1 F.2.1 (lv' := [(5, .int (nI 1)), (0, .ref b), (1, .ref a.x0), (2, .ref a.y0), (3, .ref a.xO), (4, .int (nI i))]) dL_law_426 hl (by decide) rfl (fun ls hl => ?_)
    refine lv_aload_n F.1 F.2.1 dL_law_428 rfl (lv_at hl 3 rfl) ?_
    refine lv_aload_n F.1 F.2.1 dL_law_429 rfl (lv_at hl 1 rfl) ?_
    refine lv_iload F.1 F.2.1 dL_law_430 (lv_at hl 5 rfl) ?_
    refine z_iconst (v := 1) F (by decide) dL_law_432 ?_
    refine z_iadd F dL_law_433 ?_
    refine z_sld F hX hbl hS hL (by omega) dL_law_434 ?_
    refine lv_aload_n F.1 F.2.1 dL_law_435 rfl (lv_at hl 1 rfl) ?_
    refine lv_iload F.1 F.2.1 dL_law_436 (lv_at hl 5 rfl) ?_
    refine z_iconst (v := 2) F (by decide) dL_law_438 ?_
    refine z_iadd F dL_law_439 ?_
    refine z_sld F hX hbl hS hL (by omega) dL_law_440 ?_
    refine lv_aload_n F.1 F.2.1 dL_law_441 rfl (lv_at hl 1 rfl) ?_
    refine lv_iload F.1 F.2.1 dL_law_442 (lv_at hl 5 rfl) ?_
    refine z_iconst (v := 3) F (by decide) dL_law_444 ?_
    refine z_iadd F dL_law_445 ?_
    refine z_sld F hX hbl hS hL (by omega) dL_law_446 ?_
    refine lv_aload_n F.1 F.2.1 dL_law_447 rfl (lv_at hl 1 rfl) ?_
    refine lv_iload F.1 F.2.1 dL_law_448 (lv_at hl 5 rfl) ?_
    refine z_iconst (v := 4) F (by decide) dL_law_450 ?_
    refine z_iadd F dL_law_451 ?_
    refine z_sld F hX hbl hS hL (by omega) dL_law_452 ?_
    refine lv_aload_n F.1 F.2.1 dL_law_453 rfl (lv_at hl 1 rfl) ?_
    refine lv_iload F.1 F.2.1 dL_law_454 (lv_at hl 5 rfl) ?_
    refine z_iconst (v := 5) F (by decide) dL_law_456 ?_
    refine z_iadd F dL_law_457 ?_
    refine z_sld F hX hbl hS hL (by omega) dL_law_458 ?_
    refine z_callF (wb := wM cI a pb cn ta al be ga de va md pd v inp sL sR sS sT f bb w mx el qt ++ wO cL a o) (z_runV [.int (xs (i + 1)), .int (xs (i + 2)), .int (xs (i + 3)), .int (xs (i + 4)), .int (xs (i + 5))] [] F (ct_setup_no l dC dI cI cL _ a.y0 a.yR a.yV a.yI a.yX a.yP a.yQ a.yS a.yD th cn pb ta al be ga de va md pd f v inp mx el qt su pr _ _ _ _ _ hq) kk_T_setup wl_L_80 rfl rfl ⟨Nat.le_of_ble_eq_true rfl, Nat.le_of_ble_eq_true rfl⟩ (z_preF (q := (RT, TT, 19)) hP hK hD rfl (q0 := 0) rfl) rfl hl.1 rfl (Nat.le_of_ble_eq_true rfl) dL_law_459 ⟨hcc, hss⟩) hP hD hS hAA (fun H locs hP hD hS => ?_)
    have hP : va_P (dC, dI) vwCl (wT cL a 1 cn pb ta al be ga de va md pd f v inp mx el qt su pr ++ (wM cI a pb cn ta al be ga de va md pd v inp sL sR sS sT f bb w mx el qt ++ wO cL a o)) H := hP
    have hD : va_D (zA s) (wT cL a 1 cn pb ta al be ga de va md pd f v inp mx el qt su pr ++ (wM cI a pb cn ta al be ga de va md pd v inp sL sR sS sT f bb w mx el qt ++ wO cL a o)) := hD
    refine lv_istore F.1 F.2.1 (lv' := [(6, .int (nI 0)), (5, .int (nI 1)), (0, .ref b), (1, .ref a.x0), (2, .ref a.y0), (3, .ref a.xO), (4, .int (nI i))]) dL_law_462 hl (by decide) rfl (fun ls hl => ?_)
    refine lv_aload_n F.1 F.2.1 dL_law_464 rfl (lv_at hl 4 rfl) ?_
    refine z_call (z_runV [] [] F (ct_thrown l dC dI cI cL _ 0 a.y0 a.yR a.yV a.yI a.yX a.yP a.yQ a.yS a.yD 1 cn pb ta al be ga de va md pd rfl) kk_T_thrown wl_L_58 rfl rfl ⟨Nat.le_of_ble_eq_true rfl, Nat.le_of_ble_eq_true rfl⟩ (z_preVR (q := (RT, TT, 19)) hP hK rfl (q0 := 0) rfl) rfl hl.1 rfl (Nat.le_of_ble_eq_true rfl) dL_law_465 ⟨hcc, hss⟩) ?_
    refine lv_iload F.1 F.2.1 dL_law_468 (lv_at hl 1 rfl) ?_
    refine z_icmp_eq F (by decide) (by decide) (tgt := 475) dL_law_470 rfl (fun h => ?_) (fun h => absurd rfl h)
    refine lv_iload F.1 F.2.1 dL_law_475 (lv_at hl 1 rfl) ?_
    refine z_if_ne F (by decide) (tgt := 492) dL_law_477 rfl (fun h => ?_) (fun h => absurd h (by decide))
    refine lv_goto F.1 F.2.1 (tgt := 932) dL_law_492 rfl ?_
    have hl : lv_has ls 7 [(0, .ref b), (1, .ref a.x0), (2, .ref a.y0), (3, .ref a.xO), (4, .int (nI i))] := lv_sub hl [2, 3, 4, 5, 6] rfl
    exact kk pb cn ta al be ga de va 1 md pd v inp sL sR sS sT f bb w mx el qt su pr o ls H locs (show zok pb cn ta al be ga de va md f v inp mx el bb w sS sT su from ⟨hI.hn, hI.hpb, hI.hta, hI.hal, hI.hbe, hI.hga, hI.hde, hI.hva, hI.hf, hI.hv, hI.hinp, hI.hmx, hI.hel, hI.hbb, hI.hw, hI.hsS, hI.hsT, hI.hsu, hI.hb0, hI.hw0, hI.hf0⟩) hP hD hS hl
set_option maxHeartbeats 4000000 in
set_option maxRecDepth 100000 in
theorem lc_9 {p : Program} {l : Launch} {e : Env} {s : State} {m : MethodId} {below : List Frame} {meth : Method} {c : Code} {dC : Nat → ClassId} {dI : Nat → Nat → Nat} {cI cL : ClassId} {b L : Nat} {xs : Nat → Int32} {a : Zad} {pb : Nat} {cn : Nat} {ta : Nat} {al : Nat} {be : Nat} {ga : Nat} {de : Nat} {va : Nat} {th : Nat} {md : Bool} {pd : Bool} {v : Nat → Nat} {inp : Nat → Nat} {sL : Nat → Nat} {sR : Nat → Nat} {sS : Nat → Nat} {sT : Nat → Nat} {f : Nat → Nat} {bb : Nat → Nat} {w : Nat → Nat} {mx : Nat → Nat} {el : Nat → Nat} {qt : Nat → Nat} {su : Nat → Nat} {pr : Nat → Nat} {o : Nat → Nat} {i cells slots : Nat} {Q : State → Prop} {ls : Array Slot} {H : Heap} {locs : List Loc} (C : Zcx p l s m c dC dI cI cL b L xs) (hI : zok pb cn ta al be ga de va md f v inp mx el bb w sS sT su) (hi : i + 6 ≤ L) (hP : va_P (dC, dI) vwCl (wT cL a th cn pb ta al be ga de va md pd f v inp mx el qt su pr ++ (wM cI a pb cn ta al be ga de va md pd v inp sL sR sS sT f bb w mx el qt ++ wO cL a o)) H) (hD : va_D (zA s) (wT cL a th cn pb ta al be ga de va md pd f v inp mx el qt su pr ++ (wM cI a pb cn ta al be ga de va md pd v inp sL sR sS sT f bb w mx el qt ++ wO cL a o))) (hS : va_S (zA s) s.heap H locs) (hl : lv_has ls 7 [(0, .ref b), (1, .ref a.x0), (2, .ref a.y0), (3, .ref a.xO), (4, .int (nI i))]) (hcc : cells + 1 ≤ 1064) (hss : slots + 6 ≤ 10267) (kk : zNext p l e s m below meth c dC dI cI cL b i a (cells + 1) (slots + 6) Q 932) : W p l e room_1 s m #[Value.ref b] below meth c H locs cells slots Q (F0 m 720 ls []) := by
  obtain ⟨F, hK, hX, hbl, hL, hZ, h9⟩ := C
  have hAA : ∀ q, s.heap.size ≤ q → zA s q := fun q h => h
  have hc0 : cells ≤ 1064 := by omega
  have hs0 : slots ≤ 10267 := by omega
  by_cases hq : (md && pd) = true
  · rw [Bool.and_eq_true] at hq
    have hsame : decide (el 0 * el 1 % 998244353 = ((al * be % 998244353 + sg (pb + 1) (fun t => inp t * mx t)) % 998244353 + el 2 * de) % 998244353) = decide (el 0 * el 1 % 998244353 = ((al * be % 998244353 + sg (pb + 1 - 0) (fun t => inp (0 + t) * mx (0 + t)) % 998244353) % 998244353 + el 2 * de % 998244353) % 998244353) := by rw [ver_same pb al be de (el 0) (el 1) (el 2) inp mx mx hI.hpb (fun _ _ => rfl)]
    cases hb : decide (el 0 * el 1 % 998244353 = ((al * be % 998244353 + sg (pb + 1 - 0) (fun t => inp (0 + t) * mx (0 + t)) % 998244353) % 998244353 + el 2 * de % 998244353) % 998244353)
    · refine lv_aload_n F.1 F.2.1 dL_law_720 rfl (lv_at hl 1 rfl) ?_
      refine lv_aload_n F.1 F.2.1 dL_law_721 rfl (lv_at hl 3 rfl) ?_
      refine z_callR (wa := wT cL a th cn pb ta al be ga de va md pd f v inp mx el qt su pr) (wc := wM cI a pb cn ta al be ga de va md pd v inp sL sR sS sT f bb w mx el qt ++ wO cL a o) (z_runSW [.ref a.x0, .ref a.xO] [] F (ww_verify_false l dC dI cI cL _ a.x0 a.xC a.xD a.xK a.xQ a.xV a.xI a.xL a.xR a.xS a.xT a.xA a.xB a.xW a.xX a.xE a.xF pb cn ta al be ga de va md pd v inp sL sR sS sT f bb w mx el qt a.xO o hq.1 hq.2 hI.hel hI.hinp hI.hmx hI.hal hI.hbe hI.hde hI.hpb hb) kk_L_verify wl_L_90 rfl rfl ⟨Nat.le_of_ble_eq_true rfl, Nat.le_of_ble_eq_true rfl⟩ (z_preSR hP hK hD (z_zs hZ hS)) rfl hl.1 rfl (Nat.le_of_ble_eq_true rfl) dL_law_722 ⟨hcc, hss⟩) hP hD hS hAA (fun H locs hP hD hS => ?_)
      have hP : va_P (dC, dI) vwCl (wT cL a th cn pb ta al be ga de va md pd f v inp mx el qt su pr ++ (wM cI a pb cn ta al be ga de va md pd v inp sL sR sS sT f bb w mx el qt ++ wO cL a (va_up o 0 0))) H := hP
      have hD : va_D (zA s) (wT cL a th cn pb ta al be ga de va md pd f v inp mx el qt su pr ++ (wM cI a pb cn ta al be ga de va md pd v inp sL sR sS sT f bb w mx el qt ++ wO cL a (va_up o 0 0))) := hD
      refine lv_istore F.1 F.2.1 (lv' := [(5, .int (nI 0)), (0, .ref b), (1, .ref a.x0), (2, .ref a.y0), (3, .ref a.xO), (4, .int (nI i))]) dL_law_725 hl (by decide) rfl (fun ls hl => ?_)
      refine lv_aload_n F.1 F.2.1 dL_law_727 rfl (lv_at hl 3 rfl) ?_
      refine z_callF (wb := wM cI a pb cn ta al be ga de va md pd v inp sL sR sS sT f bb w mx el qt ++ wO cL a (va_up o 0 0)) (z_runV [] [] F (ct_verify l dC dI cI cL _ a.y0 a.yR a.yV a.yI a.yX a.yP a.yQ a.yS a.yD th cn pb ta al be ga de va md pd f v inp mx el qt su pr hq.1 hq.2 hI.hel hI.hinp hI.hmx hI.hal hI.hbe hI.hde hI.hpb) kk_T_verify wl_L_92 rfl rfl ⟨Nat.le_of_ble_eq_true rfl, Nat.le_of_ble_eq_true rfl⟩ (z_preF (q := (RT, TT, 19)) hP hK hD rfl (q0 := 0) rfl) rfl hl.1 rfl (Nat.le_of_ble_eq_true rfl) dL_law_728 ⟨hcc, hss⟩) hP hD hS hAA (fun H locs hP hD hS => ?_)
      have hP : va_P (dC, dI) vwCl (wT cL a 0 cn pb ta al be ga de va md pd f v inp mx el qt su pr ++ (wM cI a pb cn ta al be ga de va md pd v inp sL sR sS sT f bb w mx el qt ++ wO cL a (va_up o 0 0))) H := hP
      have hD : va_D (zA s) (wT cL a 0 cn pb ta al be ga de va md pd f v inp mx el qt su pr ++ (wM cI a pb cn ta al be ga de va md pd v inp sL sR sS sT f bb w mx el qt ++ wO cL a (va_up o 0 0))) := hD
      refine z_topB false (hsame.trans hb) ?_
      refine lv_istore F.1 F.2.1 (lv' := [(6, .int (z_b false)), (5, .int (nI 0)), (0, .ref b), (1, .ref a.x0), (2, .ref a.y0), (3, .ref a.xO), (4, .int (nI i))]) dL_law_731 hl (by decide) rfl (fun ls hl => ?_)
      refine lv_aload_n F.1 F.2.1 dL_law_733 rfl (lv_at hl 4 rfl) ?_
      refine z_call (z_runV [] [] F (ct_thrown l dC dI cI cL _ 0 a.y0 a.yR a.yV a.yI a.yX a.yP a.yQ a.yS a.yD 0 cn pb ta al be ga de va md pd rfl) kk_T_thrown wl_L_58 rfl rfl ⟨Nat.le_of_ble_eq_true rfl, Nat.le_of_ble_eq_true rfl⟩ (z_preVR (q := (RT, TT, 19)) hP hK rfl (q0 := 0) rfl) rfl hl.1 rfl (Nat.le_of_ble_eq_true rfl) dL_law_734 ⟨hcc, hss⟩) ?_
      refine lv_iload F.1 F.2.1 dL_law_737 (lv_at hl 1 rfl) ?_
      refine z_icmp_eq F (by decide) (by decide) (tgt := 744) dL_law_739 rfl (fun h => ?_) (fun h => absurd rfl h)
      refine lv_iload F.1 F.2.1 dL_law_744 (lv_at hl 1 rfl) ?_
      refine z_if_ne F (by decide) (tgt := 768) dL_law_746 rfl (fun h => absurd rfl h) (fun h => ?_)
      refine lv_aload_n F.1 F.2.1 dL_law_749 rfl (lv_at hl 5 rfl) ?_
      refine z_iconst (v := 0) F (by decide) dL_law_750 ?_
      refine z_lald F hK hP 26 1 rfl rfl (by decide) (by decide) dL_law_751 ?_
      refine z_topL 0 (va_up_self _ _ _) ?_
      refine lv_iload F.1 F.2.1 dL_law_752 (lv_at hl 0 rfl) ?_
      refine z_ifb_eq F (tgt := 761) dL_law_754 rfl (fun h => ?_) (fun h => absurd h (by decide))
      refine z_lconst (v := 0) F (by decide) dL_law_761 ?_
      refine z_lcmp F dL_law_762 ?_
      refine z_ifl_eq F (by decide) (by decide) (tgt := 768) dL_law_763 rfl (fun h => ?_) (fun h => absurd rfl h)
      refine lv_goto F.1 F.2.1 (tgt := 932) dL_law_768 rfl ?_
      have hl : lv_has ls 7 [(0, .ref b), (1, .ref a.x0), (2, .ref a.y0), (3, .ref a.xO), (4, .int (nI i))] := lv_sub hl [2, 3, 4, 5, 6] rfl
      exact kk pb cn ta al be ga de va 0 md pd v inp sL sR sS sT f bb w mx el qt su pr (va_up o 0 0) ls H locs (show zok pb cn ta al be ga de va md f v inp mx el bb w sS sT su from ⟨hI.hn, hI.hpb, hI.hta, hI.hal, hI.hbe, hI.hga, hI.hde, hI.hva, hI.hf, hI.hv, hI.hinp, hI.hmx, hI.hel, hI.hbb, hI.hw, hI.hsS, hI.hsT, hI.hsu, hI.hb0, hI.hw0, hI.hf0⟩) hP hD hS hl
    · refine lv_aload_n F.1 F.2.1 dL_law_720 rfl (lv_at hl 1 rfl) ?_
      refine lv_aload_n F.1 F.2.1 dL_law_721 rfl (lv_at hl 3 rfl) ?_
      refine z_callR (wa := wT cL a th cn pb ta al be ga de va md pd f v inp mx el qt su pr) (wc := wM cI a pb cn ta al be ga de va md pd v inp sL sR sS sT f bb w mx el qt ++ wO cL a o) (z_runSW [.ref a.x0, .ref a.xO] [] F (ww_verify_true l dC dI cI cL _ a.x0 a.xC a.xD a.xK a.xQ a.xV a.xI a.xL a.xR a.xS a.xT a.xA a.xB a.xW a.xX a.xE a.xF pb cn ta al be ga de va md pd v inp sL sR sS sT f bb w mx el qt a.xO o hq.1 hq.2 hI.hel hI.hinp hI.hmx hI.hal hI.hbe hI.hde hI.hpb hb) kk_L_verify wl_L_90 rfl rfl ⟨Nat.le_of_ble_eq_true rfl, Nat.le_of_ble_eq_true rfl⟩ (z_preSR hP hK hD (z_zs hZ hS)) rfl hl.1 rfl (Nat.le_of_ble_eq_true rfl) dL_law_722 ⟨hcc, hss⟩) hP hD hS hAA (fun H locs hP hD hS => ?_)
      have hP : va_P (dC, dI) vwCl (wT cL a th cn pb ta al be ga de va md pd f v inp mx el qt su pr ++ (wM cI a pb cn ta al be ga de va md pd v inp sL sR sS sT f bb w mx el qt ++ wO cL a (va_up o 0 1))) H := hP
      have hD : va_D (zA s) (wT cL a th cn pb ta al be ga de va md pd f v inp mx el qt su pr ++ (wM cI a pb cn ta al be ga de va md pd v inp sL sR sS sT f bb w mx el qt ++ wO cL a (va_up o 0 1))) := hD
      refine lv_istore F.1 F.2.1 (lv' := [(5, .int (nI 0)), (0, .ref b), (1, .ref a.x0), (2, .ref a.y0), (3, .ref a.xO), (4, .int (nI i))]) dL_law_725 hl (by decide) rfl (fun ls hl => ?_)
      refine lv_aload_n F.1 F.2.1 dL_law_727 rfl (lv_at hl 3 rfl) ?_
      refine z_callF (wb := wM cI a pb cn ta al be ga de va md pd v inp sL sR sS sT f bb w mx el qt ++ wO cL a (va_up o 0 1)) (z_runV [] [] F (ct_verify l dC dI cI cL _ a.y0 a.yR a.yV a.yI a.yX a.yP a.yQ a.yS a.yD th cn pb ta al be ga de va md pd f v inp mx el qt su pr hq.1 hq.2 hI.hel hI.hinp hI.hmx hI.hal hI.hbe hI.hde hI.hpb) kk_T_verify wl_L_92 rfl rfl ⟨Nat.le_of_ble_eq_true rfl, Nat.le_of_ble_eq_true rfl⟩ (z_preF (q := (RT, TT, 19)) hP hK hD rfl (q0 := 0) rfl) rfl hl.1 rfl (Nat.le_of_ble_eq_true rfl) dL_law_728 ⟨hcc, hss⟩) hP hD hS hAA (fun H locs hP hD hS => ?_)
      have hP : va_P (dC, dI) vwCl (wT cL a 0 cn pb ta al be ga de va md pd f v inp mx el qt su pr ++ (wM cI a pb cn ta al be ga de va md pd v inp sL sR sS sT f bb w mx el qt ++ wO cL a (va_up o 0 1))) H := hP
      have hD : va_D (zA s) (wT cL a 0 cn pb ta al be ga de va md pd f v inp mx el qt su pr ++ (wM cI a pb cn ta al be ga de va md pd v inp sL sR sS sT f bb w mx el qt ++ wO cL a (va_up o 0 1))) := hD
      refine z_topB true (hsame.trans hb) ?_
      refine lv_istore F.1 F.2.1 (lv' := [(6, .int (z_b true)), (5, .int (nI 0)), (0, .ref b), (1, .ref a.x0), (2, .ref a.y0), (3, .ref a.xO), (4, .int (nI i))]) dL_law_731 hl (by decide) rfl (fun ls hl => ?_)
      refine lv_aload_n F.1 F.2.1 dL_law_733 rfl (lv_at hl 4 rfl) ?_
      refine z_call (z_runV [] [] F (ct_thrown l dC dI cI cL _ 0 a.y0 a.yR a.yV a.yI a.yX a.yP a.yQ a.yS a.yD 0 cn pb ta al be ga de va md pd rfl) kk_T_thrown wl_L_58 rfl rfl ⟨Nat.le_of_ble_eq_true rfl, Nat.le_of_ble_eq_true rfl⟩ (z_preVR (q := (RT, TT, 19)) hP hK rfl (q0 := 0) rfl) rfl hl.1 rfl (Nat.le_of_ble_eq_true rfl) dL_law_734 ⟨hcc, hss⟩) ?_
      refine lv_iload F.1 F.2.1 dL_law_737 (lv_at hl 1 rfl) ?_
      refine z_icmp_eq F (by decide) (by decide) (tgt := 744) dL_law_739 rfl (fun h => ?_) (fun h => absurd rfl h)
      refine lv_iload F.1 F.2.1 dL_law_744 (lv_at hl 1 rfl) ?_
      refine z_if_ne F (by decide) (tgt := 768) dL_law_746 rfl (fun h => absurd rfl h) (fun h => ?_)
      refine lv_aload_n F.1 F.2.1 dL_law_749 rfl (lv_at hl 5 rfl) ?_
      refine z_iconst (v := 0) F (by decide) dL_law_750 ?_
      refine z_lald F hK hP 26 1 rfl rfl (by decide) (by decide) dL_law_751 ?_
      refine z_topL 1 (va_up_self _ _ _) ?_
      refine lv_iload F.1 F.2.1 dL_law_752 (lv_at hl 0 rfl) ?_
      refine z_ifb_eq F (tgt := 761) dL_law_754 rfl (fun h => absurd h (by decide)) (fun h => ?_)
      refine z_lconst (v := 1) F (by decide) dL_law_757 ?_
      refine lv_goto F.1 F.2.1 (tgt := 762) dL_law_758 rfl ?_
      refine z_lcmp F dL_law_762 ?_
      refine z_ifl_eq F (by decide) (by decide) (tgt := 768) dL_law_763 rfl (fun h => ?_) (fun h => absurd rfl h)
      refine lv_goto F.1 F.2.1 (tgt := 932) dL_law_768 rfl ?_
      have hl : lv_has ls 7 [(0, .ref b), (1, .ref a.x0), (2, .ref a.y0), (3, .ref a.xO), (4, .int (nI i))] := lv_sub hl [2, 3, 4, 5, 6] rfl
      exact kk pb cn ta al be ga de va 0 md pd v inp sL sR sS sT f bb w mx el qt su pr (va_up o 0 1) ls H locs (show zok pb cn ta al be ga de va md f v inp mx el bb w sS sT su from ⟨hI.hn, hI.hpb, hI.hta, hI.hal, hI.hbe, hI.hga, hI.hde, hI.hva, hI.hf, hI.hv, hI.hinp, hI.hmx, hI.hel, hI.hbb, hI.hw, hI.hsS, hI.hsT, hI.hsu, hI.hb0, hI.hw0, hI.hf0⟩) hP hD hS hl
  · have hq : _ = false := Bool.eq_false_iff.mpr hq
    refine lv_aload_n F.1 F.2.1 dL_law_720 rfl (lv_at hl 1 rfl) ?_
    refine lv_aload_n F.1 F.2.1 dL_law_721 rfl (lv_at hl 3 rfl) ?_
    refine z_callR (wa := wT cL a th cn pb ta al be ga de va md pd f v inp mx el qt su pr) (wc := wM cI a pb cn ta al be ga de va md pd v inp sL sR sS sT f bb w mx el qt ++ wO cL a o) (z_runSW [.ref a.x0, .ref a.xO] [] F (wx_verify l h9 dC dI cI cL _ a.x0 a.xC a.xD a.xK a.xQ a.xV a.xI a.xL a.xR a.xS a.xT a.xA a.xB a.xW a.xX a.xE a.xF pb cn ta al be ga de va md pd v inp sL sR sS sT f bb w mx el qt a.xO o hq) kk_L_verify wl_L_90 rfl rfl ⟨Nat.le_of_ble_eq_true rfl, Nat.le_of_ble_eq_true rfl⟩ (z_preSR hP hK hD (z_zs hZ hS)) rfl hl.1 rfl (Nat.le_of_ble_eq_true rfl) dL_law_722 ⟨hcc, hss⟩) hP hD hS hAA (fun H locs hP hD hS => ?_)
    have hP : va_P (dC, dI) vwCl (wT cL a th cn pb ta al be ga de va md pd f v inp mx el qt su pr ++ (wM cI a pb cn ta al be ga de va md pd v inp sL sR sS sT f bb w mx el qt ++ wO cL a o)) H := hP
    have hD : va_D (zA s) (wT cL a th cn pb ta al be ga de va md pd f v inp mx el qt su pr ++ (wM cI a pb cn ta al be ga de va md pd v inp sL sR sS sT f bb w mx el qt ++ wO cL a o)) := hD
    refine lv_istore F.1 F.2.1 (lv' := [(5, .int (nI 1)), (0, .ref b), (1, .ref a.x0), (2, .ref a.y0), (3, .ref a.xO), (4, .int (nI i))]) dL_law_725 hl (by decide) rfl (fun ls hl => ?_)
    refine lv_aload_n F.1 F.2.1 dL_law_727 rfl (lv_at hl 3 rfl) ?_
    refine z_callF (wb := wM cI a pb cn ta al be ga de va md pd v inp sL sR sS sT f bb w mx el qt ++ wO cL a o) (z_runV [] [] F (ct_verify_no l dC dI cI cL _ a.y0 a.yR a.yV a.yI a.yX a.yP a.yQ a.yS a.yD th cn pb ta al be ga de va md pd f v inp mx el qt su pr hq) kk_T_verify wl_L_92 rfl rfl ⟨Nat.le_of_ble_eq_true rfl, Nat.le_of_ble_eq_true rfl⟩ (z_preF (q := (RT, TT, 19)) hP hK hD rfl (q0 := 0) rfl) rfl hl.1 rfl (Nat.le_of_ble_eq_true rfl) dL_law_728 ⟨hcc, hss⟩) hP hD hS hAA (fun H locs hP hD hS => ?_)
    have hP : va_P (dC, dI) vwCl (wT cL a 1 cn pb ta al be ga de va md pd f v inp mx el qt su pr ++ (wM cI a pb cn ta al be ga de va md pd v inp sL sR sS sT f bb w mx el qt ++ wO cL a o)) H := hP
    have hD : va_D (zA s) (wT cL a 1 cn pb ta al be ga de va md pd f v inp mx el qt su pr ++ (wM cI a pb cn ta al be ga de va md pd v inp sL sR sS sT f bb w mx el qt ++ wO cL a o)) := hD
    refine lv_istore F.1 F.2.1 (lv' := [(6, .int (z_b false)), (5, .int (nI 1)), (0, .ref b), (1, .ref a.x0), (2, .ref a.y0), (3, .ref a.xO), (4, .int (nI i))]) dL_law_731 hl (by decide) rfl (fun ls hl => ?_)
    refine lv_aload_n F.1 F.2.1 dL_law_733 rfl (lv_at hl 4 rfl) ?_
    refine z_call (z_runV [] [] F (ct_thrown l dC dI cI cL _ 0 a.y0 a.yR a.yV a.yI a.yX a.yP a.yQ a.yS a.yD 1 cn pb ta al be ga de va md pd rfl) kk_T_thrown wl_L_58 rfl rfl ⟨Nat.le_of_ble_eq_true rfl, Nat.le_of_ble_eq_true rfl⟩ (z_preVR (q := (RT, TT, 19)) hP hK rfl (q0 := 0) rfl) rfl hl.1 rfl (Nat.le_of_ble_eq_true rfl) dL_law_734 ⟨hcc, hss⟩) ?_
    refine lv_iload F.1 F.2.1 dL_law_737 (lv_at hl 1 rfl) ?_
    refine z_icmp_eq F (by decide) (by decide) (tgt := 744) dL_law_739 rfl (fun h => ?_) (fun h => absurd rfl h)
    refine lv_iload F.1 F.2.1 dL_law_744 (lv_at hl 1 rfl) ?_
    refine z_if_ne F (by decide) (tgt := 768) dL_law_746 rfl (fun h => ?_) (fun h => absurd h (by decide))
    refine lv_goto F.1 F.2.1 (tgt := 932) dL_law_768 rfl ?_
    have hl : lv_has ls 7 [(0, .ref b), (1, .ref a.x0), (2, .ref a.y0), (3, .ref a.xO), (4, .int (nI i))] := lv_sub hl [2, 3, 4, 5, 6] rfl
    exact kk pb cn ta al be ga de va 1 md pd v inp sL sR sS sT f bb w mx el qt su pr o ls H locs (show zok pb cn ta al be ga de va md f v inp mx el bb w sS sT su from ⟨hI.hn, hI.hpb, hI.hta, hI.hal, hI.hbe, hI.hga, hI.hde, hI.hva, hI.hf, hI.hv, hI.hinp, hI.hmx, hI.hel, hI.hbb, hI.hw, hI.hsS, hI.hsT, hI.hsu, hI.hb0, hI.hw0, hI.hf0⟩) hP hD hS hl
set_option maxHeartbeats 4000000 in
set_option maxRecDepth 100000 in
theorem lc_6 {p : Program} {l : Launch} {e : Env} {s : State} {m : MethodId} {below : List Frame} {meth : Method} {c : Code} {dC : Nat → ClassId} {dI : Nat → Nat → Nat} {cI cL : ClassId} {b L : Nat} {xs : Nat → Int32} {a : Zad} {pb : Nat} {cn : Nat} {ta : Nat} {al : Nat} {be : Nat} {ga : Nat} {de : Nat} {va : Nat} {th : Nat} {md : Bool} {pd : Bool} {v : Nat → Nat} {inp : Nat → Nat} {sL : Nat → Nat} {sR : Nat → Nat} {sS : Nat → Nat} {sT : Nat → Nat} {f : Nat → Nat} {bb : Nat → Nat} {w : Nat → Nat} {mx : Nat → Nat} {el : Nat → Nat} {qt : Nat → Nat} {su : Nat → Nat} {pr : Nat → Nat} {o : Nat → Nat} {i cells slots : Nat} {Q : State → Prop} {ls : Array Slot} {H : Heap} {locs : List Loc} (C : Zcx p l s m c dC dI cI cL b L xs) (hI : zok pb cn ta al be ga de va md f v inp mx el bb w sS sT su) (hi : i + 6 ≤ L) (hP : va_P (dC, dI) vwCl (wT cL a th cn pb ta al be ga de va md pd f v inp mx el qt su pr ++ (wM cI a pb cn ta al be ga de va md pd v inp sL sR sS sT f bb w mx el qt ++ wO cL a o)) H) (hD : va_D (zA s) (wT cL a th cn pb ta al be ga de va md pd f v inp mx el qt su pr ++ (wM cI a pb cn ta al be ga de va md pd v inp sL sR sS sT f bb w mx el qt ++ wO cL a o))) (hS : va_S (zA s) s.heap H locs) (hl : lv_has ls 7 [(0, .ref b), (1, .ref a.x0), (2, .ref a.y0), (3, .ref a.xO), (4, .int (nI i))]) (hcc : cells + 1 ≤ 1064) (hss : slots + 6 ≤ 10267) (kk : zNext p l e s m below meth c dC dI cI cL b i a (cells + 1) (slots + 6) Q 932) : W p l e room_1 s m #[Value.ref b] below meth c H locs cells slots Q (F0 m 495 ls []) := by
  obtain ⟨F, hK, hX, hbl, hL, hZ, h9⟩ := C
  have hAA : ∀ q, s.heap.size ≤ q → zA s q := fun q h => h
  have hc0 : cells ≤ 1064 := by omega
  have hs0 : slots ≤ 10267 := by omega
  by_cases hq : (bl (xs (i + 1)) 998244353 && bl (xs (i + 2)) 998244353) = true
  · rw [Bool.and_eq_true] at hq
    obtain ⟨r1, h1, e1⟩ := bl_of hq.1 (by decide)
    obtain ⟨r2, h2, e2⟩ := bl_of hq.2 (by decide)
    by_cases hmd : md = true
    · by_cases hop : fo (bad f v) 0 cn = -1
      · have hqe : dvd (szN cn) (itp (szN cn) (iv (szN cn)) bb (pts cn f v 0) sS) (itp (szN cn) (iv (szN cn)) bb (pts cn f v 1) sT) = qtC (szN cn) (suR cn f v 2 (suR cn f v 1 (suR cn f v 0 su))) := funext (fun q => dvd_qtC hI.hn hI.hb0 f v sS sT su q)
        have hA : mkA al de r1 (pts cn f v 0) w = tA al de r1 (szN cn) ta (suR cn f v 2 (suR cn f v 1 (suR cn f v 0 su))) 0 := mkA_tA hI.hn al de r1 ta 0 f v w _ (hI.hw0 hmd) (fun k hk => by rw [show 16 * 0 + k = k by omega]; exact suR_0 f v su k hk)
        have hB : mkA be de r2 (pts cn f v 1) w = tA be de r2 (szN cn) ta (suR cn f v 2 (suR cn f v 1 (suR cn f v 0 su))) 1 := mkA_tA hI.hn be de r2 ta 1 f v w _ (hI.hw0 hmd) (fun k hk => by rw [show 16 * 1 + k = 16 + k by omega]; exact suR_1 f v su k hk)
        have hC : mkC (mkH pb ta va v mx (dvd (szN cn) (itp (szN cn) (iv (szN cn)) bb (pts cn f v 0) sS) (itp (szN cn) (iv (szN cn)) bb (pts cn f v 1) sT))) de (mkA al de r1 (pts cn f v 0) w) (mkA be de r2 (pts cn f v 1) w) r1 r2 = tC (tG pb va v mx (tH ta (qtC (szN cn) (suR cn f v 2 (suR cn f v 1 (suR cn f v 0 su)))))) de (tA al de r1 (szN cn) ta (suR cn f v 2 (suR cn f v 1 (suR cn f v 0 su))) 0) (tA be de r2 (szN cn) ta (suR cn f v 2 (suR cn f v 1 (suR cn f v 0 su))) 1) r1 r2 := by
          rw [hA, hB]
          exact mkC_tC _ _ _ _ _ _ _ (mkH_tG pb ta va v mx mx _ _ hI.hpb (fun _ _ => rfl) (fun j _ => congrFun hqe j))
        refine lv_aload_n F.1 F.2.1 dL_law_495 rfl (lv_at hl 1 rfl) ?_
        refine lv_aload_n F.1 F.2.1 dL_law_496 rfl (lv_at hl 0 rfl) ?_
        refine lv_iload F.1 F.2.1 dL_law_497 (lv_at hl 4 rfl) ?_
        refine z_iconst (v := 1) F (by decide) dL_law_499 ?_
        refine z_iadd F dL_law_500 ?_
        refine z_sld F hX hbl hS hL (by omega) dL_law_501 ?_
        refine z_topI r1 (e1) ?_
        refine lv_aload_n F.1 F.2.1 dL_law_502 rfl (lv_at hl 0 rfl) ?_
        refine lv_iload F.1 F.2.1 dL_law_503 (lv_at hl 4 rfl) ?_
        refine z_iconst (v := 2) F (by decide) dL_law_505 ?_
        refine z_iadd F dL_law_506 ?_
        refine z_sld F hX hbl hS hL (by omega) dL_law_507 ?_
        refine z_topI r2 (e2) ?_
        refine lv_aload_n F.1 F.2.1 dL_law_508 rfl (lv_at hl 3 rfl) ?_
        refine z_callR (wa := wT cL a th cn pb ta al be ga de va md pd f v inp mx el qt su pr) (wc := wM cI a pb cn ta al be ga de va md pd v inp sL sR sS sT f bb w mx el qt ++ wO cL a o) (z_runSW [.ref a.x0, .int (nI r1), .int (nI r2), .ref a.xO] [] F (ww_prove l dC dI cI cL _ a.x0 a.xC a.xD a.xK a.xQ a.xV a.xI a.xL a.xR a.xS a.xT a.xA a.xB a.xW a.xX a.xE a.xF pb cn ta al be ga de va md pd v inp sL sR sS sT f bb w mx el qt a.xO o r1 r2 hmd hop hI.hn hI.hf hI.hbb hI.hsS hI.hsT hI.hv hI.hw hI.hmx h1 h2 hI.hal hI.hbe hI.hde hI.hta hI.hva hI.hpb) kk_L_prove wl_L_81 rfl rfl ⟨Nat.le_of_ble_eq_true rfl, Nat.le_of_ble_eq_true rfl⟩ (z_preSR hP hK hD (z_zs hZ hS)) rfl hl.1 rfl (Nat.le_of_ble_eq_true rfl) dL_law_509 ⟨hcc, hss⟩) hP hD hS hAA (fun H locs hP hD hS => ?_)
        have hP : va_P (dC, dI) vwCl (wT cL a th cn pb ta al be ga de va md pd f v inp mx el qt su pr ++ (wM cI a pb cn ta al be ga de va md true v inp (pts cn f v 0) (pts cn f v 1) (itp (szN cn) (iv (szN cn)) bb (pts cn f v 0) sS) (itp (szN cn) (iv (szN cn)) bb (pts cn f v 1) sT) f bb w mx (va_up (va_up (va_up el 0 (mkA al de r1 (pts cn f v 0) w)) 1 (mkA be de r2 (pts cn f v 1) w)) 2 (mkC (mkH pb ta va v mx (dvd (szN cn) (itp (szN cn) (iv (szN cn)) bb (pts cn f v 0) sS) (itp (szN cn) (iv (szN cn)) bb (pts cn f v 1) sT))) de (mkA al de r1 (pts cn f v 0) w) (mkA be de r2 (pts cn f v 1) w) r1 r2)) (dvd (szN cn) (itp (szN cn) (iv (szN cn)) bb (pts cn f v 0) sS) (itp (szN cn) (iv (szN cn)) bb (pts cn f v 1) sT)) ++ wO cL a (va_up o 0 1))) H := hP
        have hD : va_D (zA s) (wT cL a th cn pb ta al be ga de va md pd f v inp mx el qt su pr ++ (wM cI a pb cn ta al be ga de va md true v inp (pts cn f v 0) (pts cn f v 1) (itp (szN cn) (iv (szN cn)) bb (pts cn f v 0) sS) (itp (szN cn) (iv (szN cn)) bb (pts cn f v 1) sT) f bb w mx (va_up (va_up (va_up el 0 (mkA al de r1 (pts cn f v 0) w)) 1 (mkA be de r2 (pts cn f v 1) w)) 2 (mkC (mkH pb ta va v mx (dvd (szN cn) (itp (szN cn) (iv (szN cn)) bb (pts cn f v 0) sS) (itp (szN cn) (iv (szN cn)) bb (pts cn f v 1) sT))) de (mkA al de r1 (pts cn f v 0) w) (mkA be de r2 (pts cn f v 1) w) r1 r2)) (dvd (szN cn) (itp (szN cn) (iv (szN cn)) bb (pts cn f v 0) sS) (itp (szN cn) (iv (szN cn)) bb (pts cn f v 1) sT)) ++ wO cL a (va_up o 0 1))) := hD
        rw [hC, hA, hB, hqe] at hP hD
        refine lv_istore F.1 F.2.1 (lv' := [(5, .int (nI 0)), (0, .ref b), (1, .ref a.x0), (2, .ref a.y0), (3, .ref a.xO), (4, .int (nI i))]) dL_law_512 hl (by decide) rfl (fun ls hl => ?_)
        refine lv_aload_n F.1 F.2.1 dL_law_514 rfl (lv_at hl 3 rfl) ?_
        refine lv_aload_n F.1 F.2.1 dL_law_515 rfl (lv_at hl 1 rfl) ?_
        refine lv_iload F.1 F.2.1 dL_law_516 (lv_at hl 5 rfl) ?_
        refine z_iconst (v := 1) F (by decide) dL_law_518 ?_
        refine z_iadd F dL_law_519 ?_
        refine z_sld F hX hbl hS hL (by omega) dL_law_520 ?_
        refine z_topI r1 (e1) ?_
        refine lv_aload_n F.1 F.2.1 dL_law_521 rfl (lv_at hl 1 rfl) ?_
        refine lv_iload F.1 F.2.1 dL_law_522 (lv_at hl 5 rfl) ?_
        refine z_iconst (v := 2) F (by decide) dL_law_524 ?_
        refine z_iadd F dL_law_525 ?_
        refine z_sld F hX hbl hS hL (by omega) dL_law_526 ?_
        refine z_topI r2 (e2) ?_
        refine z_callFE (wb := wM cI a pb cn ta al be ga de va md true v inp (pts cn f v 0) (pts cn f v 1) (itp (szN cn) (iv (szN cn)) bb (pts cn f v 0) sS) (itp (szN cn) (iv (szN cn)) bb (pts cn f v 1) sT) f bb w mx (va_up (va_up (va_up el 0 (tA al de r1 (szN cn) ta (suR cn f v 2 (suR cn f v 1 (suR cn f v 0 su))) 0)) 1 (tA be de r2 (szN cn) ta (suR cn f v 2 (suR cn f v 1 (suR cn f v 0 su))) 1)) 2 (tC (tG pb va v mx (tH ta (qtC (szN cn) (suR cn f v 2 (suR cn f v 1 (suR cn f v 0 su)))))) de (tA al de r1 (szN cn) ta (suR cn f v 2 (suR cn f v 1 (suR cn f v 0 su))) 0) (tA be de r2 (szN cn) ta (suR cn f v 2 (suR cn f v 1 (suR cn f v 0 su))) 1) r1 r2)) (qtC (szN cn) (suR cn f v 2 (suR cn f v 1 (suR cn f v 0 su)))) ++ wO cL a (va_up o 0 1)) (z_runV [.int (nI r1), .int (nI r2)] [] F (ct_prove l dC dI cI cL _ a.y0 a.yR a.yV a.yI a.yX a.yP a.yQ a.yS a.yD th cn pb ta al be ga de va md pd f v inp mx el qt su pr r1 r2 hmd hop hI.hn hI.hf hI.hv hI.hmx hI.hsu h1 h2 hI.hal hI.hbe hI.hde hI.hta hI.hva hI.hpb) kk_T_prove wl_L_83 rfl rfl ⟨Nat.le_of_ble_eq_true rfl, Nat.le_of_ble_eq_true rfl⟩ (z_preF (q := (RT, TT, 19)) hP hK hD rfl (q0 := 0) rfl) rfl hl.1 rfl (Nat.le_of_ble_eq_true rfl) dL_law_527 ⟨hcc, hss⟩) hP hD hS hAA (fun pr2 H locs hP hD hS => ?_)
        have hP : va_P (dC, dI) vwCl (wT cL a 0 cn pb ta al be ga de va md true f v inp mx (va_up (va_up (va_up el 0 (tA al de r1 (szN cn) ta (suR cn f v 2 (suR cn f v 1 (suR cn f v 0 su))) 0)) 1 (tA be de r2 (szN cn) ta (suR cn f v 2 (suR cn f v 1 (suR cn f v 0 su))) 1)) 2 (tC (tG pb va v mx (tH ta (qtC (szN cn) (suR cn f v 2 (suR cn f v 1 (suR cn f v 0 su)))))) de (tA al de r1 (szN cn) ta (suR cn f v 2 (suR cn f v 1 (suR cn f v 0 su))) 0) (tA be de r2 (szN cn) ta (suR cn f v 2 (suR cn f v 1 (suR cn f v 0 su))) 1) r1 r2)) (qtC (szN cn) (suR cn f v 2 (suR cn f v 1 (suR cn f v 0 su)))) (suR cn f v 2 (suR cn f v 1 (suR cn f v 0 su))) pr2 ++ (wM cI a pb cn ta al be ga de va md true v inp (pts cn f v 0) (pts cn f v 1) (itp (szN cn) (iv (szN cn)) bb (pts cn f v 0) sS) (itp (szN cn) (iv (szN cn)) bb (pts cn f v 1) sT) f bb w mx (va_up (va_up (va_up el 0 (tA al de r1 (szN cn) ta (suR cn f v 2 (suR cn f v 1 (suR cn f v 0 su))) 0)) 1 (tA be de r2 (szN cn) ta (suR cn f v 2 (suR cn f v 1 (suR cn f v 0 su))) 1)) 2 (tC (tG pb va v mx (tH ta (qtC (szN cn) (suR cn f v 2 (suR cn f v 1 (suR cn f v 0 su)))))) de (tA al de r1 (szN cn) ta (suR cn f v 2 (suR cn f v 1 (suR cn f v 0 su))) 0) (tA be de r2 (szN cn) ta (suR cn f v 2 (suR cn f v 1 (suR cn f v 0 su))) 1) r1 r2)) (qtC (szN cn) (suR cn f v 2 (suR cn f v 1 (suR cn f v 0 su)))) ++ wO cL a (va_up o 0 1))) H := hP
        have hD : va_D (zA s) (wT cL a 0 cn pb ta al be ga de va md true f v inp mx (va_up (va_up (va_up el 0 (tA al de r1 (szN cn) ta (suR cn f v 2 (suR cn f v 1 (suR cn f v 0 su))) 0)) 1 (tA be de r2 (szN cn) ta (suR cn f v 2 (suR cn f v 1 (suR cn f v 0 su))) 1)) 2 (tC (tG pb va v mx (tH ta (qtC (szN cn) (suR cn f v 2 (suR cn f v 1 (suR cn f v 0 su)))))) de (tA al de r1 (szN cn) ta (suR cn f v 2 (suR cn f v 1 (suR cn f v 0 su))) 0) (tA be de r2 (szN cn) ta (suR cn f v 2 (suR cn f v 1 (suR cn f v 0 su))) 1) r1 r2)) (qtC (szN cn) (suR cn f v 2 (suR cn f v 1 (suR cn f v 0 su)))) (suR cn f v 2 (suR cn f v 1 (suR cn f v 0 su))) pr2 ++ (wM cI a pb cn ta al be ga de va md true v inp (pts cn f v 0) (pts cn f v 1) (itp (szN cn) (iv (szN cn)) bb (pts cn f v 0) sS) (itp (szN cn) (iv (szN cn)) bb (pts cn f v 1) sT) f bb w mx (va_up (va_up (va_up el 0 (tA al de r1 (szN cn) ta (suR cn f v 2 (suR cn f v 1 (suR cn f v 0 su))) 0)) 1 (tA be de r2 (szN cn) ta (suR cn f v 2 (suR cn f v 1 (suR cn f v 0 su))) 1)) 2 (tC (tG pb va v mx (tH ta (qtC (szN cn) (suR cn f v 2 (suR cn f v 1 (suR cn f v 0 su)))))) de (tA al de r1 (szN cn) ta (suR cn f v 2 (suR cn f v 1 (suR cn f v 0 su))) 0) (tA be de r2 (szN cn) ta (suR cn f v 2 (suR cn f v 1 (suR cn f v 0 su))) 1) r1 r2)) (qtC (szN cn) (suR cn f v 2 (suR cn f v 1 (suR cn f v 0 su)))) ++ wO cL a (va_up o 0 1))) := hD
        refine lv_istore F.1 F.2.1 (lv' := [(6, .int (z_b true)), (5, .int (nI 0)), (0, .ref b), (1, .ref a.x0), (2, .ref a.y0), (3, .ref a.xO), (4, .int (nI i))]) dL_law_530 hl (by decide) rfl (fun ls hl => ?_)
        refine lv_aload_n F.1 F.2.1 dL_law_532 rfl (lv_at hl 4 rfl) ?_
        refine z_call (z_runV [] [] F (ct_thrown l dC dI cI cL _ 0 a.y0 a.yR a.yV a.yI a.yX a.yP a.yQ a.yS a.yD 0 cn pb ta al be ga de va md true rfl) kk_T_thrown wl_L_58 rfl rfl ⟨Nat.le_of_ble_eq_true rfl, Nat.le_of_ble_eq_true rfl⟩ (z_preVR (q := (RT, TT, 19)) hP hK rfl (q0 := 0) rfl) rfl hl.1 rfl (Nat.le_of_ble_eq_true rfl) dL_law_533 ⟨hcc, hss⟩) ?_
        refine lv_iload F.1 F.2.1 dL_law_536 (lv_at hl 1 rfl) ?_
        refine z_icmp_eq F (by decide) (by decide) (tgt := 543) dL_law_538 rfl (fun h => ?_) (fun h => absurd rfl h)
        refine lv_iload F.1 F.2.1 dL_law_543 (lv_at hl 1 rfl) ?_
        refine z_if_ne F (by decide) (tgt := 567) dL_law_545 rfl (fun h => absurd rfl h) (fun h => ?_)
        refine lv_aload_n F.1 F.2.1 dL_law_548 rfl (lv_at hl 5 rfl) ?_
        refine z_iconst (v := 0) F (by decide) dL_law_549 ?_
        refine z_lald F hK hP 26 1 rfl rfl (by decide) (by decide) dL_law_550 ?_
        refine z_topL 1 (va_up_self _ _ _) ?_
        refine lv_iload F.1 F.2.1 dL_law_551 (lv_at hl 0 rfl) ?_
        refine z_ifb_eq F (tgt := 560) dL_law_553 rfl (fun h => absurd h (by decide)) (fun h => ?_)
        refine z_lconst (v := 1) F (by decide) dL_law_556 ?_
        refine lv_goto F.1 F.2.1 (tgt := 561) dL_law_557 rfl ?_
        refine z_lcmp F dL_law_561 ?_
        refine z_ifl_eq F (by decide) (by decide) (tgt := 567) dL_law_562 rfl (fun h => ?_) (fun h => absurd rfl h)
        refine lv_goto F.1 F.2.1 (tgt := 932) dL_law_567 rfl ?_
        have hl : lv_has ls 7 [(0, .ref b), (1, .ref a.x0), (2, .ref a.y0), (3, .ref a.xO), (4, .int (nI i))] := lv_sub hl [2, 3, 4, 5, 6] rfl
        exact kk pb cn ta al be ga de va 0 md true v inp (pts cn f v 0) (pts cn f v 1) (itp (szN cn) (iv (szN cn)) bb (pts cn f v 0) sS) (itp (szN cn) (iv (szN cn)) bb (pts cn f v 1) sT) f bb w mx (va_up (va_up (va_up el 0 (tA al de r1 (szN cn) ta (suR cn f v 2 (suR cn f v 1 (suR cn f v 0 su))) 0)) 1 (tA be de r2 (szN cn) ta (suR cn f v 2 (suR cn f v 1 (suR cn f v 0 su))) 1)) 2 (tC (tG pb va v mx (tH ta (qtC (szN cn) (suR cn f v 2 (suR cn f v 1 (suR cn f v 0 su)))))) de (tA al de r1 (szN cn) ta (suR cn f v 2 (suR cn f v 1 (suR cn f v 0 su))) 0) (tA be de r2 (szN cn) ta (suR cn f v 2 (suR cn f v 1 (suR cn f v 0 su))) 1) r1 r2)) (qtC (szN cn) (suR cn f v 2 (suR cn f v 1 (suR cn f v 0 su)))) (suR cn f v 2 (suR cn f v 1 (suR cn f v 0 su))) pr2 (va_up o 0 1) ls H locs (show zok pb cn ta al be ga de va md f v inp mx (va_up (va_up (va_up el 0 (tA al de r1 (szN cn) ta (suR cn f v 2 (suR cn f v 1 (suR cn f v 0 su))) 0)) 1 (tA be de r2 (szN cn) ta (suR cn f v 2 (suR cn f v 1 (suR cn f v 0 su))) 1)) 2 (tC (tG pb va v mx (tH ta (qtC (szN cn) (suR cn f v 2 (suR cn f v 1 (suR cn f v 0 su)))))) de (tA al de r1 (szN cn) ta (suR cn f v 2 (suR cn f v 1 (suR cn f v 0 su))) 0) (tA be de r2 (szN cn) ta (suR cn f v 2 (suR cn f v 1 (suR cn f v 0 su))) 1) r1 r2)) bb w (itp (szN cn) (iv (szN cn)) bb (pts cn f v 0) sS) (itp (szN cn) (iv (szN cn)) bb (pts cn f v 1) sT) (suR cn f v 2 (suR cn f v 1 (suR cn f v 0 su))) from ⟨hI.hn, hI.hpb, hI.hta, hI.hal, hI.hbe, hI.hga, hI.hde, hI.hva, hI.hf, hI.hv, hI.hinp, hI.hmx, z_upl (z_upl (z_upl hI.hel (tA_lt _ _ _ _ _ _ _)) (tA_lt _ _ _ _ _ _ _)) (ltP _), hI.hbb, hI.hw, itp_lt hI.hsS, itp_lt hI.hsT, suR_lt (suR_lt (suR_lt hI.hsu)), hI.hb0, hI.hw0, hI.hf0⟩) hP hD hS hl
      · refine lv_aload_n F.1 F.2.1 dL_law_495 rfl (lv_at hl 1 rfl) ?_
        refine lv_aload_n F.1 F.2.1 dL_law_496 rfl (lv_at hl 0 rfl) ?_
        refine lv_iload F.1 F.2.1 dL_law_497 (lv_at hl 4 rfl) ?_
        refine z_iconst (v := 1) F (by decide) dL_law_499 ?_
        refine z_iadd F dL_law_500 ?_
        refine z_sld F hX hbl hS hL (by omega) dL_law_501 ?_
        refine z_topI r1 (e1) ?_
        refine lv_aload_n F.1 F.2.1 dL_law_502 rfl (lv_at hl 0 rfl) ?_
        refine lv_iload F.1 F.2.1 dL_law_503 (lv_at hl 4 rfl) ?_
        refine z_iconst (v := 2) F (by decide) dL_law_505 ?_
        refine z_iadd F dL_law_506 ?_
        refine z_sld F hX hbl hS hL (by omega) dL_law_507 ?_
        refine z_topI r2 (e2) ?_
        refine lv_aload_n F.1 F.2.1 dL_law_508 rfl (lv_at hl 3 rfl) ?_
        refine z_callR (wa := wT cL a th cn pb ta al be ga de va md pd f v inp mx el qt su pr) (wc := wM cI a pb cn ta al be ga de va md pd v inp sL sR sS sT f bb w mx el qt ++ wO cL a o) (z_runSW [.ref a.x0, .int (nI r1), .int (nI r2), .ref a.xO] [] F (wx_prove_np l h9 dC dI cI cL _ a.x0 a.xC a.xD a.xK a.xQ a.xV a.xI a.xL a.xR a.xS a.xT a.xA a.xB a.xW a.xX a.xE a.xF pb cn ta al be ga de va md pd v inp sL sR sS sT f bb w mx el qt a.xO o r1 r2 h1 h2 hmd hop hI.hn hI.hf hI.hv) kk_L_prove wl_L_81 rfl rfl ⟨Nat.le_of_ble_eq_true rfl, Nat.le_of_ble_eq_true rfl⟩ (z_preSR hP hK hD (z_zs hZ hS)) rfl hl.1 rfl (Nat.le_of_ble_eq_true rfl) dL_law_509 ⟨hcc, hss⟩) hP hD hS hAA (fun H locs hP hD hS => ?_)
        have hP : va_P (dC, dI) vwCl (wT cL a th cn pb ta al be ga de va md pd f v inp mx el qt su pr ++ (wM cI a pb cn ta al be ga de va md pd v inp sL sR sS sT f bb w mx el qt ++ wO cL a o)) H := hP
        have hD : va_D (zA s) (wT cL a th cn pb ta al be ga de va md pd f v inp mx el qt su pr ++ (wM cI a pb cn ta al be ga de va md pd v inp sL sR sS sT f bb w mx el qt ++ wO cL a o)) := hD
        refine lv_istore F.1 F.2.1 (lv' := [(5, .int (nI 3)), (0, .ref b), (1, .ref a.x0), (2, .ref a.y0), (3, .ref a.xO), (4, .int (nI i))]) dL_law_512 hl (by decide) rfl (fun ls hl => ?_)
        refine lv_aload_n F.1 F.2.1 dL_law_514 rfl (lv_at hl 3 rfl) ?_
        refine lv_aload_n F.1 F.2.1 dL_law_515 rfl (lv_at hl 1 rfl) ?_
        refine lv_iload F.1 F.2.1 dL_law_516 (lv_at hl 5 rfl) ?_
        refine z_iconst (v := 1) F (by decide) dL_law_518 ?_
        refine z_iadd F dL_law_519 ?_
        refine z_sld F hX hbl hS hL (by omega) dL_law_520 ?_
        refine z_topI r1 (e1) ?_
        refine lv_aload_n F.1 F.2.1 dL_law_521 rfl (lv_at hl 1 rfl) ?_
        refine lv_iload F.1 F.2.1 dL_law_522 (lv_at hl 5 rfl) ?_
        refine z_iconst (v := 2) F (by decide) dL_law_524 ?_
        refine z_iadd F dL_law_525 ?_
        refine z_sld F hX hbl hS hL (by omega) dL_law_526 ?_
        refine z_topI r2 (e2) ?_
        refine z_callF (wb := wM cI a pb cn ta al be ga de va md pd v inp sL sR sS sT f bb w mx el qt ++ wO cL a o) (z_runV [.int (nI r1), .int (nI r2)] [] F (ct_prove_np l dC dI cI cL _ a.y0 a.yR a.yV a.yI a.yX a.yP a.yQ a.yS a.yD th cn pb ta al be ga de va md pd f v inp mx el qt su pr r1 r2 h1 h2 hmd hop hI.hn hI.hf hI.hv) kk_T_prove wl_L_83 rfl rfl ⟨Nat.le_of_ble_eq_true rfl, Nat.le_of_ble_eq_true rfl⟩ (z_preF (q := (RT, TT, 19)) hP hK hD rfl (q0 := 0) rfl) rfl hl.1 rfl (Nat.le_of_ble_eq_true rfl) dL_law_527 ⟨hcc, hss⟩) hP hD hS hAA (fun H locs hP hD hS => ?_)
        have hP : va_P (dC, dI) vwCl (wT cL a 3 cn pb ta al be ga de va md pd f v inp mx el qt su pr ++ (wM cI a pb cn ta al be ga de va md pd v inp sL sR sS sT f bb w mx el qt ++ wO cL a o)) H := hP
        have hD : va_D (zA s) (wT cL a 3 cn pb ta al be ga de va md pd f v inp mx el qt su pr ++ (wM cI a pb cn ta al be ga de va md pd v inp sL sR sS sT f bb w mx el qt ++ wO cL a o)) := hD
        refine lv_istore F.1 F.2.1 (lv' := [(6, .int (z_b false)), (5, .int (nI 3)), (0, .ref b), (1, .ref a.x0), (2, .ref a.y0), (3, .ref a.xO), (4, .int (nI i))]) dL_law_530 hl (by decide) rfl (fun ls hl => ?_)
        refine lv_aload_n F.1 F.2.1 dL_law_532 rfl (lv_at hl 4 rfl) ?_
        refine z_call (z_runV [] [] F (ct_thrown l dC dI cI cL _ 0 a.y0 a.yR a.yV a.yI a.yX a.yP a.yQ a.yS a.yD 3 cn pb ta al be ga de va md pd rfl) kk_T_thrown wl_L_58 rfl rfl ⟨Nat.le_of_ble_eq_true rfl, Nat.le_of_ble_eq_true rfl⟩ (z_preVR (q := (RT, TT, 19)) hP hK rfl (q0 := 0) rfl) rfl hl.1 rfl (Nat.le_of_ble_eq_true rfl) dL_law_533 ⟨hcc, hss⟩) ?_
        refine lv_iload F.1 F.2.1 dL_law_536 (lv_at hl 1 rfl) ?_
        refine z_icmp_eq F (by decide) (by decide) (tgt := 543) dL_law_538 rfl (fun h => ?_) (fun h => absurd rfl h)
        refine lv_iload F.1 F.2.1 dL_law_543 (lv_at hl 1 rfl) ?_
        refine z_if_ne F (by decide) (tgt := 567) dL_law_545 rfl (fun h => ?_) (fun h => absurd h (by decide))
        refine lv_goto F.1 F.2.1 (tgt := 932) dL_law_567 rfl ?_
        have hl : lv_has ls 7 [(0, .ref b), (1, .ref a.x0), (2, .ref a.y0), (3, .ref a.xO), (4, .int (nI i))] := lv_sub hl [2, 3, 4, 5, 6] rfl
        exact kk pb cn ta al be ga de va 3 md pd v inp sL sR sS sT f bb w mx el qt su pr o ls H locs (show zok pb cn ta al be ga de va md f v inp mx el bb w sS sT su from ⟨hI.hn, hI.hpb, hI.hta, hI.hal, hI.hbe, hI.hga, hI.hde, hI.hva, hI.hf, hI.hv, hI.hinp, hI.hmx, hI.hel, hI.hbb, hI.hw, hI.hsS, hI.hsT, hI.hsu, hI.hb0, hI.hw0, hI.hf0⟩) hP hD hS hl
    · have hmd : md = false := Bool.eq_false_iff.mpr hmd
      refine lv_aload_n F.1 F.2.1 dL_law_495 rfl (lv_at hl 1 rfl) ?_
      refine lv_aload_n F.1 F.2.1 dL_law_496 rfl (lv_at hl 0 rfl) ?_
      refine lv_iload F.1 F.2.1 dL_law_497 (lv_at hl 4 rfl) ?_
      refine z_iconst (v := 1) F (by decide) dL_law_499 ?_
      refine z_iadd F dL_law_500 ?_
      refine z_sld F hX hbl hS hL (by omega) dL_law_501 ?_
      refine z_topI r1 (e1) ?_
      refine lv_aload_n F.1 F.2.1 dL_law_502 rfl (lv_at hl 0 rfl) ?_
      refine lv_iload F.1 F.2.1 dL_law_503 (lv_at hl 4 rfl) ?_
      refine z_iconst (v := 2) F (by decide) dL_law_505 ?_
      refine z_iadd F dL_law_506 ?_
      refine z_sld F hX hbl hS hL (by omega) dL_law_507 ?_
      refine z_topI r2 (e2) ?_
      refine lv_aload_n F.1 F.2.1 dL_law_508 rfl (lv_at hl 3 rfl) ?_
      refine z_callR (wa := wT cL a th cn pb ta al be ga de va md pd f v inp mx el qt su pr) (wc := wM cI a pb cn ta al be ga de va md pd v inp sL sR sS sT f bb w mx el qt ++ wO cL a o) (z_runSW [.ref a.x0, .int (nI r1), .int (nI r2), .ref a.xO] [] F (wx_prove_nk l h9 dC dI cI cL _ a.x0 a.xC a.xD a.xK a.xQ a.xV a.xI a.xL a.xR a.xS a.xT a.xA a.xB a.xW a.xX a.xE a.xF pb cn ta al be ga de va md pd v inp sL sR sS sT f bb w mx el qt a.xO o r1 r2 h1 h2 hmd) kk_L_prove wl_L_81 rfl rfl ⟨Nat.le_of_ble_eq_true rfl, Nat.le_of_ble_eq_true rfl⟩ (z_preSR hP hK hD (z_zs hZ hS)) rfl hl.1 rfl (Nat.le_of_ble_eq_true rfl) dL_law_509 ⟨hcc, hss⟩) hP hD hS hAA (fun H locs hP hD hS => ?_)
      have hP : va_P (dC, dI) vwCl (wT cL a th cn pb ta al be ga de va md pd f v inp mx el qt su pr ++ (wM cI a pb cn ta al be ga de va md pd v inp sL sR sS sT f bb w mx el qt ++ wO cL a o)) H := hP
      have hD : va_D (zA s) (wT cL a th cn pb ta al be ga de va md pd f v inp mx el qt su pr ++ (wM cI a pb cn ta al be ga de va md pd v inp sL sR sS sT f bb w mx el qt ++ wO cL a o)) := hD
      refine lv_istore F.1 F.2.1 (lv' := [(5, .int (nI 2)), (0, .ref b), (1, .ref a.x0), (2, .ref a.y0), (3, .ref a.xO), (4, .int (nI i))]) dL_law_512 hl (by decide) rfl (fun ls hl => ?_)
      refine lv_aload_n F.1 F.2.1 dL_law_514 rfl (lv_at hl 3 rfl) ?_
      refine lv_aload_n F.1 F.2.1 dL_law_515 rfl (lv_at hl 1 rfl) ?_
      refine lv_iload F.1 F.2.1 dL_law_516 (lv_at hl 5 rfl) ?_
      refine z_iconst (v := 1) F (by decide) dL_law_518 ?_
      refine z_iadd F dL_law_519 ?_
      refine z_sld F hX hbl hS hL (by omega) dL_law_520 ?_
      refine z_topI r1 (e1) ?_
      refine lv_aload_n F.1 F.2.1 dL_law_521 rfl (lv_at hl 1 rfl) ?_
      refine lv_iload F.1 F.2.1 dL_law_522 (lv_at hl 5 rfl) ?_
      refine z_iconst (v := 2) F (by decide) dL_law_524 ?_
      refine z_iadd F dL_law_525 ?_
      refine z_sld F hX hbl hS hL (by omega) dL_law_526 ?_
      refine z_topI r2 (e2) ?_
      refine z_callF (wb := wM cI a pb cn ta al be ga de va md pd v inp sL sR sS sT f bb w mx el qt ++ wO cL a o) (z_runV [.int (nI r1), .int (nI r2)] [] F (ct_prove_nk l dC dI cI cL _ a.y0 a.yR a.yV a.yI a.yX a.yP a.yQ a.yS a.yD th cn pb ta al be ga de va md pd f v inp mx el qt su pr r1 r2 h1 h2 hmd) kk_T_prove wl_L_83 rfl rfl ⟨Nat.le_of_ble_eq_true rfl, Nat.le_of_ble_eq_true rfl⟩ (z_preF (q := (RT, TT, 19)) hP hK hD rfl (q0 := 0) rfl) rfl hl.1 rfl (Nat.le_of_ble_eq_true rfl) dL_law_527 ⟨hcc, hss⟩) hP hD hS hAA (fun H locs hP hD hS => ?_)
      have hP : va_P (dC, dI) vwCl (wT cL a 2 cn pb ta al be ga de va md pd f v inp mx el qt su pr ++ (wM cI a pb cn ta al be ga de va md pd v inp sL sR sS sT f bb w mx el qt ++ wO cL a o)) H := hP
      have hD : va_D (zA s) (wT cL a 2 cn pb ta al be ga de va md pd f v inp mx el qt su pr ++ (wM cI a pb cn ta al be ga de va md pd v inp sL sR sS sT f bb w mx el qt ++ wO cL a o)) := hD
      refine lv_istore F.1 F.2.1 (lv' := [(6, .int (z_b false)), (5, .int (nI 2)), (0, .ref b), (1, .ref a.x0), (2, .ref a.y0), (3, .ref a.xO), (4, .int (nI i))]) dL_law_530 hl (by decide) rfl (fun ls hl => ?_)
      refine lv_aload_n F.1 F.2.1 dL_law_532 rfl (lv_at hl 4 rfl) ?_
      refine z_call (z_runV [] [] F (ct_thrown l dC dI cI cL _ 0 a.y0 a.yR a.yV a.yI a.yX a.yP a.yQ a.yS a.yD 2 cn pb ta al be ga de va md pd rfl) kk_T_thrown wl_L_58 rfl rfl ⟨Nat.le_of_ble_eq_true rfl, Nat.le_of_ble_eq_true rfl⟩ (z_preVR (q := (RT, TT, 19)) hP hK rfl (q0 := 0) rfl) rfl hl.1 rfl (Nat.le_of_ble_eq_true rfl) dL_law_533 ⟨hcc, hss⟩) ?_
      refine lv_iload F.1 F.2.1 dL_law_536 (lv_at hl 1 rfl) ?_
      refine z_icmp_eq F (by decide) (by decide) (tgt := 543) dL_law_538 rfl (fun h => ?_) (fun h => absurd rfl h)
      refine lv_iload F.1 F.2.1 dL_law_543 (lv_at hl 1 rfl) ?_
      refine z_if_ne F (by decide) (tgt := 567) dL_law_545 rfl (fun h => ?_) (fun h => absurd h (by decide))
      refine lv_goto F.1 F.2.1 (tgt := 932) dL_law_567 rfl ?_
      have hl : lv_has ls 7 [(0, .ref b), (1, .ref a.x0), (2, .ref a.y0), (3, .ref a.xO), (4, .int (nI i))] := lv_sub hl [2, 3, 4, 5, 6] rfl
      exact kk pb cn ta al be ga de va 2 md pd v inp sL sR sS sT f bb w mx el qt su pr o ls H locs (show zok pb cn ta al be ga de va md f v inp mx el bb w sS sT su from ⟨hI.hn, hI.hpb, hI.hta, hI.hal, hI.hbe, hI.hga, hI.hde, hI.hva, hI.hf, hI.hv, hI.hinp, hI.hmx, hI.hel, hI.hbb, hI.hw, hI.hsS, hI.hsT, hI.hsu, hI.hb0, hI.hw0, hI.hf0⟩) hP hD hS hl
  · have hq : _ = false := Bool.eq_false_iff.mpr hq
    refine lv_aload_n F.1 F.2.1 dL_law_495 rfl (lv_at hl 1 rfl) ?_
    refine lv_aload_n F.1 F.2.1 dL_law_496 rfl (lv_at hl 0 rfl) ?_
    refine lv_iload F.1 F.2.1 dL_law_497 (lv_at hl 4 rfl) ?_
    refine z_iconst (v := 1) F (by decide) dL_law_499 ?_
    refine z_iadd F dL_law_500 ?_
    refine z_sld F hX hbl hS hL (by omega) dL_law_501 ?_
    refine lv_aload_n F.1 F.2.1 dL_law_502 rfl (lv_at hl 0 rfl) ?_
    refine lv_iload F.1 F.2.1 dL_law_503 (lv_at hl 4 rfl) ?_
    refine z_iconst (v := 2) F (by decide) dL_law_505 ?_
    refine z_iadd F dL_law_506 ?_
    refine z_sld F hX hbl hS hL (by omega) dL_law_507 ?_
    refine lv_aload_n F.1 F.2.1 dL_law_508 rfl (lv_at hl 3 rfl) ?_
    refine z_callR (wa := wT cL a th cn pb ta al be ga de va md pd f v inp mx el qt su pr) (wc := wM cI a pb cn ta al be ga de va md pd v inp sL sR sS sT f bb w mx el qt ++ wO cL a o) (z_runSW [.ref a.x0, .int (xs (i + 1)), .int (xs (i + 2)), .ref a.xO] [] F (wx_prove l h9 dC dI cI cL _ a.x0 a.xC a.xD a.xK a.xQ a.xV a.xI a.xL a.xR a.xS a.xT a.xA a.xB a.xW a.xX a.xE a.xF pb cn ta al be ga de va md pd v inp sL sR sS sT f bb w mx el qt a.xO o _ _ hq) kk_L_prove wl_L_81 rfl rfl ⟨Nat.le_of_ble_eq_true rfl, Nat.le_of_ble_eq_true rfl⟩ (z_preSR hP hK hD (z_zs hZ hS)) rfl hl.1 rfl (Nat.le_of_ble_eq_true rfl) dL_law_509 ⟨hcc, hss⟩) hP hD hS hAA (fun H locs hP hD hS => ?_)
    have hP : va_P (dC, dI) vwCl (wT cL a th cn pb ta al be ga de va md pd f v inp mx el qt su pr ++ (wM cI a pb cn ta al be ga de va md pd v inp sL sR sS sT f bb w mx el qt ++ wO cL a o)) H := hP
    have hD : va_D (zA s) (wT cL a th cn pb ta al be ga de va md pd f v inp mx el qt su pr ++ (wM cI a pb cn ta al be ga de va md pd v inp sL sR sS sT f bb w mx el qt ++ wO cL a o)) := hD
    refine lv_istore F.1 F.2.1 (lv' := [(5, .int (nI 1)), (0, .ref b), (1, .ref a.x0), (2, .ref a.y0), (3, .ref a.xO), (4, .int (nI i))]) dL_law_512 hl (by decide) rfl (fun ls hl => ?_)
    refine lv_aload_n F.1 F.2.1 dL_law_514 rfl (lv_at hl 3 rfl) ?_
    refine lv_aload_n F.1 F.2.1 dL_law_515 rfl (lv_at hl 1 rfl) ?_
    refine lv_iload F.1 F.2.1 dL_law_516 (lv_at hl 5 rfl) ?_
    refine z_iconst (v := 1) F (by decide) dL_law_518 ?_
    refine z_iadd F dL_law_519 ?_
    refine z_sld F hX hbl hS hL (by omega) dL_law_520 ?_
    refine lv_aload_n F.1 F.2.1 dL_law_521 rfl (lv_at hl 1 rfl) ?_
    refine lv_iload F.1 F.2.1 dL_law_522 (lv_at hl 5 rfl) ?_
    refine z_iconst (v := 2) F (by decide) dL_law_524 ?_
    refine z_iadd F dL_law_525 ?_
    refine z_sld F hX hbl hS hL (by omega) dL_law_526 ?_
    refine z_callF (wb := wM cI a pb cn ta al be ga de va md pd v inp sL sR sS sT f bb w mx el qt ++ wO cL a o) (z_runV [.int (xs (i + 1)), .int (xs (i + 2))] [] F (ct_prove_no l dC dI cI cL _ a.y0 a.yR a.yV a.yI a.yX a.yP a.yQ a.yS a.yD th cn pb ta al be ga de va md pd f v inp mx el qt su pr _ _ hq) kk_T_prove wl_L_83 rfl rfl ⟨Nat.le_of_ble_eq_true rfl, Nat.le_of_ble_eq_true rfl⟩ (z_preF (q := (RT, TT, 19)) hP hK hD rfl (q0 := 0) rfl) rfl hl.1 rfl (Nat.le_of_ble_eq_true rfl) dL_law_527 ⟨hcc, hss⟩) hP hD hS hAA (fun H locs hP hD hS => ?_)
    have hP : va_P (dC, dI) vwCl (wT cL a 1 cn pb ta al be ga de va md pd f v inp mx el qt su pr ++ (wM cI a pb cn ta al be ga de va md pd v inp sL sR sS sT f bb w mx el qt ++ wO cL a o)) H := hP
    have hD : va_D (zA s) (wT cL a 1 cn pb ta al be ga de va md pd f v inp mx el qt su pr ++ (wM cI a pb cn ta al be ga de va md pd v inp sL sR sS sT f bb w mx el qt ++ wO cL a o)) := hD
    refine lv_istore F.1 F.2.1 (lv' := [(6, .int (z_b false)), (5, .int (nI 1)), (0, .ref b), (1, .ref a.x0), (2, .ref a.y0), (3, .ref a.xO), (4, .int (nI i))]) dL_law_530 hl (by decide) rfl (fun ls hl => ?_)
    refine lv_aload_n F.1 F.2.1 dL_law_532 rfl (lv_at hl 4 rfl) ?_
    refine z_call (z_runV [] [] F (ct_thrown l dC dI cI cL _ 0 a.y0 a.yR a.yV a.yI a.yX a.yP a.yQ a.yS a.yD 1 cn pb ta al be ga de va md pd rfl) kk_T_thrown wl_L_58 rfl rfl ⟨Nat.le_of_ble_eq_true rfl, Nat.le_of_ble_eq_true rfl⟩ (z_preVR (q := (RT, TT, 19)) hP hK rfl (q0 := 0) rfl) rfl hl.1 rfl (Nat.le_of_ble_eq_true rfl) dL_law_533 ⟨hcc, hss⟩) ?_
    refine lv_iload F.1 F.2.1 dL_law_536 (lv_at hl 1 rfl) ?_
    refine z_icmp_eq F (by decide) (by decide) (tgt := 543) dL_law_538 rfl (fun h => ?_) (fun h => absurd rfl h)
    refine lv_iload F.1 F.2.1 dL_law_543 (lv_at hl 1 rfl) ?_
    refine z_if_ne F (by decide) (tgt := 567) dL_law_545 rfl (fun h => ?_) (fun h => absurd h (by decide))
    refine lv_goto F.1 F.2.1 (tgt := 932) dL_law_567 rfl ?_
    have hl : lv_has ls 7 [(0, .ref b), (1, .ref a.x0), (2, .ref a.y0), (3, .ref a.xO), (4, .int (nI i))] := lv_sub hl [2, 3, 4, 5, 6] rfl
    exact kk pb cn ta al be ga de va 1 md pd v inp sL sR sS sT f bb w mx el qt su pr o ls H locs (show zok pb cn ta al be ga de va md f v inp mx el bb w sS sT su from ⟨hI.hn, hI.hpb, hI.hta, hI.hal, hI.hbe, hI.hga, hI.hde, hI.hva, hI.hf, hI.hv, hI.hinp, hI.hmx, hI.hel, hI.hbb, hI.hw, hI.hsS, hI.hsT, hI.hsu, hI.hb0, hI.hw0, hI.hf0⟩) hP hD hS hl
