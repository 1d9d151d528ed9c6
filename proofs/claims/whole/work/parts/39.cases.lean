/-- numbers stay small -/
theorem z_upl {f : Nat → Nat} {k x : Nat} (h : ∀ j, f j < 998244353) (hx : x < 998244353) : ∀ j, va_up f k x j < 998244353 := fun j => by
  by_cases e : j = k
  · subst e; rw [va_up_self]; exact hx
  · rw [va_up_ne _ _ e]; exact h j
set_option maxHeartbeats 4000000 in
set_option maxRecDepth 100000 in
theorem lc_0 {p : Program} {l : Launch} {e : Env} {s : State} {m : MethodId} {below : List Frame} {meth : Method} {c : Code} {dC : Nat → ClassId} {dI : Nat → Nat → Nat} {cI cL : ClassId} {b L : Nat} {xs : Nat → Int32} {a : Zad} {pb : Nat} {cn : Nat} {ta : Nat} {al : Nat} {be : Nat} {ga : Nat} {de : Nat} {va : Nat} {th : Nat} {md : Bool} {pd : Bool} {v : Nat → Nat} {inp : Nat → Nat} {sL : Nat → Nat} {sR : Nat → Nat} {sS : Nat → Nat} {sT : Nat → Nat} {f : Nat → Nat} {bb : Nat → Nat} {w : Nat → Nat} {mx : Nat → Nat} {el : Nat → Nat} {qt : Nat → Nat} {su : Nat → Nat} {pr : Nat → Nat} {o : Nat → Nat} {i cells slots : Nat} {Q : State → Prop} {ls : Array Slot} {H : Heap} {locs : List Loc} (C : Zcx p l s m c dC dI cI cL b L xs) (hI : zok pb cn ta al be ga de va md f v inp mx el bb w sS sT su) (hi : i + 6 ≤ L) (hP : va_P (dC, dI) vwCl (wT cL a th cn pb ta al be ga de va md pd f v inp mx el qt su pr ++ (wM cI a pb cn ta al be ga de va md pd v inp sL sR sS sT f bb w mx el qt ++ wO cL a o)) H) (hD : va_D (zA s) (wT cL a th cn pb ta al be ga de va md pd f v inp mx el qt su pr ++ (wM cI a pb cn ta al be ga de va md pd v inp sL sR sS sT f bb w mx el qt ++ wO cL a o))) (hS : va_S (zA s) s.heap H locs) (hl : lv_has ls 7 [(0, .ref b), (1, .ref a.x0), (2, .ref a.y0), (3, .ref a.xO), (4, .int (nI i))]) (hcc : cells + 1 ≤ 1064) (hss : slots + 6 ≤ 10267) (kk : zNext p l e s m below meth c dC dI cI cL b i a (cells + 1) (slots + 6) Q 932) : W p l e room_1 s m #[Value.ref b] below meth c H locs cells slots Q (F0 m 116 ls []) := by
  obtain ⟨F, hK, hX, hbl, hL, hZ, h9⟩ := C
  have hAA : ∀ q, s.heap.size ≤ q → zA s q := fun q h => h
  by_cases hq : (bl (xs (i + 1)) 3 && (bl (xs (i + 2)) 16 && bl (xs (i + 3)) 998244353)) = true
  · rw [Bool.and_eq_true, Bool.and_eq_true] at hq
    obtain ⟨r0, hr0, e1⟩ := bl_of hq.1 (by decide)
    obtain ⟨r1, hr1, e2⟩ := bl_of hq.2.1 (by decide)
    obtain ⟨r2, hr2, e3⟩ := bl_of hq.2.2 (by decide)
    refine lv_aload_n F.1 F.2.1 dL_law_116 rfl (lv_at hl 1 rfl) ?_
    refine lv_aload_n F.1 F.2.1 dL_law_117 rfl (lv_at hl 0 rfl) ?_
    refine lv_iload F.1 F.2.1 dL_law_118 (lv_at hl 4 rfl) ?_
    refine z_iconst (v := 1) F (by decide) dL_law_120 ?_
    refine z_iadd F dL_law_121 ?_
    refine z_sld F hX hbl hS hL (by omega) dL_law_122 ?_
    refine z_topI r0 (e1) ?_
    refine lv_aload_n F.1 F.2.1 dL_law_123 rfl (lv_at hl 0 rfl) ?_
    refine lv_iload F.1 F.2.1 dL_law_124 (lv_at hl 4 rfl) ?_
    refine z_iconst (v := 2) F (by decide) dL_law_126 ?_
    refine z_iadd F dL_law_127 ?_
    refine z_sld F hX hbl hS hL (by omega) dL_law_128 ?_
    refine z_topI r1 (e2) ?_
    refine lv_aload_n F.1 F.2.1 dL_law_129 rfl (lv_at hl 0 rfl) ?_
    refine lv_iload F.1 F.2.1 dL_law_130 (lv_at hl 4 rfl) ?_
    refine z_iconst (v := 3) F (by decide) dL_law_132 ?_
    refine z_iadd F dL_law_133 ?_
    refine z_sld F hX hbl hS hL (by omega) dL_law_134 ?_
    refine z_topI r2 (e3) ?_
    refine lv_aload_n F.1 F.2.1 dL_law_135 rfl (lv_at hl 3 rfl) ?_
    refine z_callR (wa := wT cL a th cn pb ta al be ga de va md pd f v inp mx el qt su pr) (wc := wM cI a pb cn ta al be ga de va md pd v inp sL sR sS sT f bb w mx el qt ++ wO cL a o) (z_runSW [.ref a.x0, .int (nI r0), .int (nI r1), .int (nI r2), .ref a.xO] [] F (ww_term l dC dI cI cL _ a.x0 a.xC a.xD a.xK a.xQ a.xV a.xI a.xL a.xR a.xS a.xT a.xA a.xB a.xW a.xX a.xE a.xF pb cn ta al be ga de va md pd v inp sL sR sS sT f bb w mx el qt a.xO o r0 r1 r2 hI.hf hr2 hr0 hr1 hI.hn) kk_L_term wl_L_52 rfl rfl ⟨Nat.le_of_ble_eq_true rfl, Nat.le_of_ble_eq_true rfl⟩ (z_preSR hP hK hD (z_zs hZ hS)) rfl hl.1 rfl (Nat.le_of_ble_eq_true rfl) dL_law_136 ⟨hcc, hss⟩) hP hD hS hAA (fun H locs hP hD hS => ?_)
    have hP : va_P (dC, dI) vwCl (wT cL a th cn pb ta al be ga de va md pd f v inp mx el qt su pr ++ (wM cI a pb cn ta al be ga de va md pd v inp sL sR sS sT (va_up f ((cn * 3 + r0) * 16 + r1) ((f ((cn * 3 + r0) * 16 + r1) + r2) % 998244353)) bb w mx el qt ++ wO cL a (va_up o 0 ((f ((cn * 3 + r0) * 16 + r1) + r2) % 998244353)))) H := hP
    have hD : va_D (zA s) (wT cL a th cn pb ta al be ga de va md pd f v inp mx el qt su pr ++ (wM cI a pb cn ta al be ga de va md pd v inp sL sR sS sT (va_up f ((cn * 3 + r0) * 16 + r1) ((f ((cn * 3 + r0) * 16 + r1) + r2) % 998244353)) bb w mx el qt ++ wO cL a (va_up o 0 ((f ((cn * 3 + r0) * 16 + r1) + r2) % 998244353)))) := hD
    refine lv_istore F.1 F.2.1 (lv' := [(5, .int (nI 0)), (0, .ref b), (1, .ref a.x0), (2, .ref a.y0), (3, .ref a.xO), (4, .int (nI i))]) dL_law_139 hl (by decide) rfl (fun ls hl => ?_)
    refine lv_aload_n F.1 F.2.1 dL_law_141 rfl (lv_at hl 3 rfl) ?_
    refine lv_aload_n F.1 F.2.1 dL_law_142 rfl (lv_at hl 1 rfl) ?_
    refine lv_iload F.1 F.2.1 dL_law_143 (lv_at hl 5 rfl) ?_
    refine z_iconst (v := 1) F (by decide) dL_law_145 ?_
    refine z_iadd F dL_law_146 ?_
    refine z_sld F hX hbl hS hL (by omega) dL_law_147 ?_
    refine z_topI r0 (e1) ?_
    refine lv_aload_n F.1 F.2.1 dL_law_148 rfl (lv_at hl 1 rfl) ?_
    refine lv_iload F.1 F.2.1 dL_law_149 (lv_at hl 5 rfl) ?_
    refine z_iconst (v := 2) F (by decide) dL_law_151 ?_
    refine z_iadd F dL_law_152 ?_
    refine z_sld F hX hbl hS hL (by omega) dL_law_153 ?_
    refine z_topI r1 (e2) ?_
    refine lv_aload_n F.1 F.2.1 dL_law_154 rfl (lv_at hl 1 rfl) ?_
    refine lv_iload F.1 F.2.1 dL_law_155 (lv_at hl 5 rfl) ?_
    refine z_iconst (v := 3) F (by decide) dL_law_157 ?_
    refine z_iadd F dL_law_158 ?_
    refine z_sld F hX hbl hS hL (by omega) dL_law_159 ?_
    refine z_topI r2 (e3) ?_
    refine z_callF (wb := wM cI a pb cn ta al be ga de va md pd v inp sL sR sS sT (va_up f ((cn * 3 + r0) * 16 + r1) ((f ((cn * 3 + r0) * 16 + r1) + r2) % 998244353)) bb w mx el qt ++ wO cL a (va_up o 0 ((f ((cn * 3 + r0) * 16 + r1) + r2) % 998244353))) (z_runV [.int (nI r0), .int (nI r1), .int (nI r2)] [] F (ct_term l dC dI cI cL _ a.y0 a.yR a.yV a.yI a.yX a.yP a.yQ a.yS a.yD th cn pb ta al be ga de va md pd f v inp mx el qt su pr r0 r1 r2 hI.hf hr2 hr0 hr1 hI.hn) kk_T_term wl_L_57 rfl rfl ⟨Nat.le_of_ble_eq_true rfl, Nat.le_of_ble_eq_true rfl⟩ (z_preF (q := (RT, TT, 19)) hP hK hD rfl (q0 := 0) rfl) rfl hl.1 rfl (Nat.le_of_ble_eq_true rfl) dL_law_160 ⟨hcc, hss⟩) hP hD hS hAA (fun H locs hP hD hS => ?_)
    have hP : va_P (dC, dI) vwCl (wT cL a 0 cn pb ta al be ga de va md pd (va_up f ((cn * 3 + r0) * 16 + r1) ((f ((cn * 3 + r0) * 16 + r1) + r2) % 998244353)) v inp mx el qt su pr ++ (wM cI a pb cn ta al be ga de va md pd v inp sL sR sS sT (va_up f ((cn * 3 + r0) * 16 + r1) ((f ((cn * 3 + r0) * 16 + r1) + r2) % 998244353)) bb w mx el qt ++ wO cL a (va_up o 0 ((f ((cn * 3 + r0) * 16 + r1) + r2) % 998244353)))) H := hP
    have hD : va_D (zA s) (wT cL a 0 cn pb ta al be ga de va md pd (va_up f ((cn * 3 + r0) * 16 + r1) ((f ((cn * 3 + r0) * 16 + r1) + r2) % 998244353)) v inp mx el qt su pr ++ (wM cI a pb cn ta al be ga de va md pd v inp sL sR sS sT (va_up f ((cn * 3 + r0) * 16 + r1) ((f ((cn * 3 + r0) * 16 + r1) + r2) % 998244353)) bb w mx el qt ++ wO cL a (va_up o 0 ((f ((cn * 3 + r0) * 16 + r1) + r2) % 998244353)))) := hD
    refine lv_istore F.1 F.2.1 (lv' := [(6, .int (nI ((f ((cn * 3 + r0) * 16 + r1) + r2) % 998244353))), (5, .int (nI 0)), (0, .ref b), (1, .ref a.x0), (2, .ref a.y0), (3, .ref a.xO), (4, .int (nI i))]) dL_law_163 hl (by decide) rfl (fun ls hl => ?_)
    refine lv_aload_n F.1 F.2.1 dL_law_165 rfl (lv_at hl 4 rfl) ?_
    refine z_call (z_runV [] [] F (ct_thrown l dC dI cI cL _ 0 a.y0 a.yR a.yV a.yI a.yX a.yP a.yQ a.yS a.yD 0 cn pb ta al be ga de va md pd rfl) kk_T_thrown wl_L_58 rfl rfl ⟨Nat.le_of_ble_eq_true rfl, Nat.le_of_ble_eq_true rfl⟩ (z_preVR (q := (RT, TT, 19)) hP hK rfl (q0 := 0) rfl) rfl hl.1 rfl (Nat.le_of_ble_eq_true rfl) dL_law_166 ⟨hcc, hss⟩) ?_
    refine lv_iload F.1 F.2.1 dL_law_169 (lv_at hl 1 rfl) ?_
    refine z_icmp_eq F (by decide) (by decide) (tgt := 176) dL_law_171 rfl (fun h => ?_) (fun h => absurd rfl h)
    refine lv_iload F.1 F.2.1 dL_law_176 (lv_at hl 1 rfl) ?_
    refine z_if_ne F (by decide) (tgt := 193) dL_law_178 rfl (fun h => absurd rfl h) (fun h => ?_)
    refine lv_aload_n F.1 F.2.1 dL_law_181 rfl (lv_at hl 5 rfl) ?_
    refine z_iconst (v := 0) F (by decide) dL_law_182 ?_
    refine z_lald F hK hP 26 1 rfl rfl (by decide) (by decide) dL_law_183 ?_
    refine z_topL ((f ((cn * 3 + r0) * 16 + r1) + r2) % 998244353) (va_up_self _ _ _) ?_
    refine lv_iload F.1 F.2.1 dL_law_184 (lv_at hl 0 rfl) ?_
    refine z_i2l F (Nat.lt_trans (ltP _) (by decide)) dL_law_186 ?_
    refine z_lcmp F dL_law_187 ?_
    refine z_ifl_eq F (Nat.lt_trans (ltP _) (by decide)) (Nat.lt_trans (ltP _) (by decide)) (tgt := 193) dL_law_188 rfl (fun h => ?_) (fun h => absurd rfl h)
    refine lv_goto F.1 F.2.1 (tgt := 932) dL_law_193 rfl ?_
    have hl : lv_has ls 7 [(0, .ref b), (1, .ref a.x0), (2, .ref a.y0), (3, .ref a.xO), (4, .int (nI i))] := lv_sub hl [2, 3, 4, 5, 6] rfl
    exact kk pb cn ta al be ga de va 0 md pd v inp sL sR sS sT (va_up f ((cn * 3 + r0) * 16 + r1) ((f ((cn * 3 + r0) * 16 + r1) + r2) % 998244353)) bb w mx el qt su pr (va_up o 0 ((f ((cn * 3 + r0) * 16 + r1) + r2) % 998244353)) ls H locs (show zok pb cn ta al be ga de va md (va_up f ((cn * 3 + r0) * 16 + r1) ((f ((cn * 3 + r0) * 16 + r1) + r2) % 998244353)) v inp mx el bb w sS sT su from ⟨hI.hn, hI.hpb, hI.hta, hI.hal, hI.hbe, hI.hga, hI.hde, hI.hva, z_upl hI.hf (ltP _), hI.hv, hI.hinp, hI.hmx, hI.hel, hI.hbb, hI.hw, hI.hsS, hI.hsT, hI.hsu, hI.hb0, hI.hw0, fun j hj => by rw [va_up_ne _ _ (by omega)]; exact hI.hf0 j hj⟩) hP hD hS hl
  · have hq : _ = false := Bool.eq_false_iff.mpr hq
    refine lv_aload_n F.1 F.2.1 dL_law_116 rfl (lv_at hl 1 rfl) ?_
    refine lv_aload_n F.1 F.2.1 dL_law_117 rfl (lv_at hl 0 rfl) ?_
    refine lv_iload F.1 F.2.1 dL_law_118 (lv_at hl 4 rfl) ?_
    refine z_iconst (v := 1) F (by decide) dL_law_120 ?_
    refine z_iadd F dL_law_121 ?_
    refine z_sld F hX hbl hS hL (by omega) dL_law_122 ?_
    refine lv_aload_n F.1 F.2.1 dL_law_123 rfl (lv_at hl 0 rfl) ?_
    refine lv_iload F.1 F.2.1 dL_law_124 (lv_at hl 4 rfl) ?_
    refine z_iconst (v := 2) F (by decide) dL_law_126 ?_
    refine z_iadd F dL_law_127 ?_
    refine z_sld F hX hbl hS hL (by omega) dL_law_128 ?_
    refine lv_aload_n F.1 F.2.1 dL_law_129 rfl (lv_at hl 0 rfl) ?_
    refine lv_iload F.1 F.2.1 dL_law_130 (lv_at hl 4 rfl) ?_
    refine z_iconst (v := 3) F (by decide) dL_law_132 ?_
    refine z_iadd F dL_law_133 ?_
    refine z_sld F hX hbl hS hL (by omega) dL_law_134 ?_
    refine lv_aload_n F.1 F.2.1 dL_law_135 rfl (lv_at hl 3 rfl) ?_
    refine z_callR (wa := wT cL a th cn pb ta al be ga de va md pd f v inp mx el qt su pr) (wc := wM cI a pb cn ta al be ga de va md pd v inp sL sR sS sT f bb w mx el qt ++ wO cL a o) (z_runSW [.ref a.x0, .int (xs (i + 1)), .int (xs (i + 2)), .int (xs (i + 3)), .ref a.xO] [] F (wx_term l h9 dC dI cI cL _ a.x0 a.xC a.xD a.xK a.xQ a.xV a.xI a.xL a.xR a.xS a.xT a.xA a.xB a.xW a.xX a.xE a.xF pb cn ta al be ga de va md pd v inp sL sR sS sT f bb w mx el qt a.xO o _ _ _ hq) kk_L_term wl_L_52 rfl rfl ⟨Nat.le_of_ble_eq_true rfl, Nat.le_of_ble_eq_true rfl⟩ (z_preSR hP hK hD (z_zs hZ hS)) rfl hl.1 rfl (Nat.le_of_ble_eq_true rfl) dL_law_136 ⟨hcc, hss⟩) hP hD hS hAA (fun H locs hP hD hS => ?_)
    have hP : va_P (dC, dI) vwCl (wT cL a th cn pb ta al be ga de va md pd f v inp mx el qt su pr ++ (wM cI a pb cn ta al be ga de va md pd v inp sL sR sS sT f bb w mx el qt ++ wO cL a o)) H := hP
    have hD : va_D (zA s) (wT cL a th cn pb ta al be ga de va md pd f v inp mx el qt su pr ++ (wM cI a pb cn ta al be ga de va md pd v inp sL sR sS sT f bb w mx el qt ++ wO cL a o)) := hD
    refine lv_istore F.1 F.2.1 (lv' := [(5, .int (nI 1)), (0, .ref b), (1, .ref a.x0), (2, .ref a.y0), (3, .ref a.xO), (4, .int (nI i))]) dL_law_139 hl (by decide) rfl (fun ls hl => ?_)
    refine lv_aload_n F.1 F.2.1 dL_law_141 rfl (lv_at hl 3 rfl) ?_
    refine lv_aload_n F.1 F.2.1 dL_law_142 rfl (lv_at hl 1 rfl) ?_
    refine lv_iload F.1 F.2.1 dL_law_143 (lv_at hl 5 rfl) ?_
    refine z_iconst (v := 1) F (by decide) dL_law_145 ?_
    refine z_iadd F dL_law_146 ?_
    refine z_sld F hX hbl hS hL (by omega) dL_law_147 ?_
    refine lv_aload_n F.1 F.2.1 dL_law_148 rfl (lv_at hl 1 rfl) ?_
    refine lv_iload F.1 F.2.1 dL_law_149 (lv_at hl 5 rfl) ?_
    refine z_iconst (v := 2) F (by decide) dL_law_151 ?_
    refine z_iadd F dL_law_152 ?_
    refine z_sld F hX hbl hS hL (by omega) dL_law_153 ?_
    refine lv_aload_n F.1 F.2.1 dL_law_154 rfl (lv_at hl 1 rfl) ?_
    refine lv_iload F.1 F.2.1 dL_law_155 (lv_at hl 5 rfl) ?_
    refine z_iconst (v := 3) F (by decide) dL_law_157 ?_
    refine z_iadd F dL_law_158 ?_
    refine z_sld F hX hbl hS hL (by omega) dL_law_159 ?_
    refine z_callF (wb := wM cI a pb cn ta al be ga de va md pd v inp sL sR sS sT f bb w mx el qt ++ wO cL a o) (z_runV [.int (xs (i + 1)), .int (xs (i + 2)), .int (xs (i + 3))] [] F (ct_term_no l dC dI cI cL _ a.y0 a.yR a.yV a.yI a.yX a.yP a.yQ a.yS a.yD th cn pb ta al be ga de va md pd f v inp mx el qt su pr _ _ _ hq) kk_T_term wl_L_57 rfl rfl ⟨Nat.le_of_ble_eq_true rfl, Nat.le_of_ble_eq_true rfl⟩ (z_preF (q := (RT, TT, 19)) hP hK hD rfl (q0 := 0) rfl) rfl hl.1 rfl (Nat.le_of_ble_eq_true rfl) dL_law_160 ⟨hcc, hss⟩) hP hD hS hAA (fun H locs hP hD hS => ?_)
    have hP : va_P (dC, dI) vwCl (wT cL a 1 cn pb ta al be ga de va md pd f v inp mx el qt su pr ++ (wM cI a pb cn ta al be ga de va md pd v inp sL sR sS sT f bb w mx el qt ++ wO cL a o)) H := hP
    have hD : va_D (zA s) (wT cL a 1 cn pb ta al be ga de va md pd f v inp mx el qt su pr ++ (wM cI a pb cn ta al be ga de va md pd v inp sL sR sS sT f bb w mx el qt ++ wO cL a o)) := hD
    refine lv_istore F.1 F.2.1 (lv' := [(6, .int (nI 0)), (5, .int (nI 1)), (0, .ref b), (1, .ref a.x0), (2, .ref a.y0), (3, .ref a.xO), (4, .int (nI i))]) dL_law_163 hl (by decide) rfl (fun ls hl => ?_)
    refine lv_aload_n F.1 F.2.1 dL_law_165 rfl (lv_at hl 4 rfl) ?_
    refine z_call (z_runV [] [] F (ct_thrown l dC dI cI cL _ 0 a.y0 a.yR a.yV a.yI a.yX a.yP a.yQ a.yS a.yD 1 cn pb ta al be ga de va md pd rfl) kk_T_thrown wl_L_58 rfl rfl ⟨Nat.le_of_ble_eq_true rfl, Nat.le_of_ble_eq_true rfl⟩ (z_preVR (q := (RT, TT, 19)) hP hK rfl (q0 := 0) rfl) rfl hl.1 rfl (Nat.le_of_ble_eq_true rfl) dL_law_166 ⟨hcc, hss⟩) ?_
    refine lv_iload F.1 F.2.1 dL_law_169 (lv_at hl 1 rfl) ?_
    refine z_icmp_eq F (by decide) (by decide) (tgt := 176) dL_law_171 rfl (fun h => ?_) (fun h => absurd rfl h)
    refine lv_iload F.1 F.2.1 dL_law_176 (lv_at hl 1 rfl) ?_
    refine z_if_ne F (by decide) (tgt := 193) dL_law_178 rfl (fun h => ?_) (fun h => absurd h (by decide))
    refine lv_goto F.1 F.2.1 (tgt := 932) dL_law_193 rfl ?_
    have hl : lv_has ls 7 [(0, .ref b), (1, .ref a.x0), (2, .ref a.y0), (3, .ref a.xO), (4, .int (nI i))] := lv_sub hl [2, 3, 4, 5, 6] rfl
    exact kk pb cn ta al be ga de va 1 md pd v inp sL sR sS sT f bb w mx el qt su pr o ls H locs (show zok pb cn ta al be ga de va md f v inp mx el bb w sS sT su from ⟨hI.hn, hI.hpb, hI.hta, hI.hal, hI.hbe, hI.hga, hI.hde, hI.hva, hI.hf, hI.hv, hI.hinp, hI.hmx, hI.hel, hI.hbb, hI.hw, hI.hsS, hI.hsT, hI.hsu, hI.hb0, hI.hw0, hI.hf0⟩) hP hD hS hl
