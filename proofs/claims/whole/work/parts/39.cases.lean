/-- numbers stay small -/
theorem z_upl {f : Nat → Nat} {k x : Nat} (h : ∀ j, f j < 998244353) (hx : x < 998244353) : ∀ j, va_up f k x j < 998244353 := fun j => by
  by_cases e : j = k
  · subst e; rw [va_up_self]; exact hx
  · rw [va_up_ne _ _ e]; exact h j
theorem z_topB {p : Program} {l : Launch} {e : Env} {R : Room} {s : State} {m : MethodId} {args : Array Value} {below : List Frame} {meth : Method} {c : Code} {H : Heap} {locs : List Loc} {cells slots : Nat} {Q : State → Prop} {pc : Nat} {ls : Array Slot} {rest : List Value} {x : Bool} (y : Bool) (h : x = y) (k : W p l e R s m args below meth c H locs cells slots Q (F0 m pc ls (.int (z_b y) :: rest))) : W p l e R s m args below meth c H locs cells slots Q (F0 m pc ls (.int (z_b x) :: rest)) := h ▸ k
set_option maxHeartbeats 4000000 in
set_option maxRecDepth 100000 in
theorem lc_0 {p : Program} {l : Launch} {e : Env} {s : State} {m : MethodId} {below : List Frame} {meth : Method} {c : Code} {dC : Nat → ClassId} {dI : Nat → Nat → Nat} {cI cL : ClassId} {b L : Nat} {xs : Nat → Int32} {a : Zad} {pb : Nat} {cn : Nat} {ta : Nat} {al : Nat} {be : Nat} {ga : Nat} {de : Nat} {va : Nat} {th : Nat} {md : Bool} {pd : Bool} {v : Nat → Nat} {inp : Nat → Nat} {sL : Nat → Nat} {sR : Nat → Nat} {sS : Nat → Nat} {sT : Nat → Nat} {f : Nat → Nat} {bb : Nat → Nat} {w : Nat → Nat} {mx : Nat → Nat} {el : Nat → Nat} {qt : Nat → Nat} {su : Nat → Nat} {pr : Nat → Nat} {o : Nat → Nat} {i cells slots : Nat} {Q : State → Prop} {ls : Array Slot} {H : Heap} {locs : List Loc} (C : Zcx p l s m c dC dI cI cL b L xs) (hI : zok pb cn ta al be ga de va md f v inp mx el bb w sS sT su) (hi : i + 6 ≤ L) (hP : va_P (dC, dI) vwCl (wT cL a th cn pb ta al be ga de va md pd f v inp mx el qt su pr ++ (wM cI a pb cn ta al be ga de va md pd v inp sL sR sS sT f bb w mx el qt ++ wO cL a o)) H) (hD : va_D (zA s) (wT cL a th cn pb ta al be ga de va md pd f v inp mx el qt su pr ++ (wM cI a pb cn ta al be ga de va md pd v inp sL sR sS sT f bb w mx el qt ++ wO cL a o))) (hS : va_S (zA s) s.heap H locs) (hl : lv_has ls 7 [(0, .ref b), (1, .ref a.x0), (2, .ref a.y0), (3, .ref a.xO), (4, .int (nI i))]) (hcc : cells + 1 ≤ 1064) (hss : slots + 6 ≤ 10267) (kk : zNext p l e s m below meth c dC dI cI cL b i a (cells + 1) (slots + 6) Q 932) : W p l e room_1 s m #[Value.ref b] below meth c H locs cells slots Q (F0 m 116 ls []) := by
  obtain ⟨F, hK, hX, hbl, hL, hZ, h9⟩ := C
  have hAA : ∀ q, s.heap.size ≤ q → zA s q := fun q h => h
  have hc0 : cells ≤ 1064 := by omega
  have hs0 : slots ≤ 10267 := by omega
  by_cases hq : (bl (xs (i + 1)) 3 && (bl (xs (i + 2)) 16 && bl (xs (i + 3)) 998244353)) = true
  · rw [Bool.and_eq_true, Bool.and_eq_true] at hq
    obtain ⟨r0, hr0, e1⟩ := bl_of hq.1 (by decide)
    obtain ⟨r1, hr1, e2⟩ := bl_of hq.2.1 (by decide)
    obtain ⟨r2, hr2, e3⟩ := bl_of hq.2.2 (by decide)
    refine lv_aload_n F.1 F.2.1 dL_law_116 rfl (lv_at hl 1 rfl) ?_
    refine lv_aload_n F.1 F.2.1 dL_law_117 rfl (lv_at hl 0 rfl) ?_
    refine lv_iload F.1 F.2.1 dL_law_118 (lv_at hl 4 rfl) ?_
    refine z_iconst (v := 1) F (by decide) dL_law_120 ?_
    refine z_iadd F dL_law_121 ?_
    refine z_sld F hX hbl hS hL (by omega) dL_law_122 ?_
    refine z_topI r0 (e1) ?_
    refine lv_aload_n F.1 F.2.1 dL_law_123 rfl (lv_at hl 0 rfl) ?_
    refine lv_iload F.1 F.2.1 dL_law_124 (lv_at hl 4 rfl) ?_
    refine z_iconst (v := 2) F (by decide) dL_law_126 ?_
    refine z_iadd F dL_law_127 ?_
    refine z_sld F hX hbl hS hL (by omega) dL_law_128 ?_
    refine z_topI r1 (e2) ?_
    refine lv_aload_n F.1 F.2.1 dL_law_129 rfl (lv_at hl 0 rfl) ?_
    refine lv_iload F.1 F.2.1 dL_law_130 (lv_at hl 4 rfl) ?_
    refine z_iconst (v := 3) F (by decide) dL_law_132 ?_
    refine z_iadd F dL_law_133 ?_
    refine z_sld F hX hbl hS hL (by omega) dL_law_134 ?_
    refine z_topI r2 (e3) ?_
    refine lv_aload_n F.1 F.2.1 dL_law_135 rfl (lv_at hl 3 rfl) ?_
    refine z_callR (wa := wT cL a th cn pb ta al be ga de va md pd f v inp mx el qt su pr) (wc := wM cI a pb cn ta al be ga de va md pd v inp sL sR sS sT f bb w mx el qt ++ wO cL a o) (z_runSW [.ref a.x0, .int (nI r0), .int (nI r1), .int (nI r2), .ref a.xO] [] F (ww_term l dC dI cI cL _ a.x0 a.xC a.xD a.xK a.xQ a.xV a.xI a.xL a.xR a.xS a.xT a.xA a.xB a.xW a.xX a.xE a.xF pb cn ta al be ga de va md pd v inp sL sR sS sT f bb w mx el qt a.xO o r0 r1 r2 hI.hf hr2 hr0 hr1 hI.hn) kk_L_term wl_L_52 rfl rfl ⟨Nat.le_of_ble_eq_true rfl, Nat.le_of_ble_eq_true rfl⟩ (z_preSR hP hK hD (z_zs hZ hS)) rfl hl.1 rfl (Nat.le_of_ble_eq_true rfl) dL_law_136 ⟨hcc, hss⟩) hP hD hS hAA (fun H locs hP hD hS => ?_)
    have hP : va_P (dC, dI) vwCl (wT cL a th cn pb ta al be ga de va md pd f v inp mx el qt su pr ++ (wM cI a pb cn ta al be ga de va md pd v inp sL sR sS sT (va_up f ((cn * 3 + r0) * 16 + r1) ((f ((cn * 3 + r0) * 16 + r1) + r2) % 998244353)) bb w mx el qt ++ wO cL a (va_up o 0 ((f ((cn * 3 + r0) * 16 + r1) + r2) % 998244353)))) H := hP
    have hD : va_D (zA s) (wT cL a th cn pb ta al be ga de va md pd f v inp mx el qt su pr ++ (wM cI a pb cn ta al be ga de va md pd v inp sL sR sS sT (va_up f ((cn * 3 + r0) * 16 + r1) ((f ((cn * 3 + r0) * 16 + r1) + r2) % 998244353)) bb w mx el qt ++ wO cL a (va_up o 0 ((f ((cn * 3 + r0) * 16 + r1) + r2) % 998244353)))) := hD
    refine lv_istore F.1 F.2.1 (lv' := [(5, .int (nI 0)), (0, .ref b), (1, .ref a.x0), (2, .ref a.y0), (3, .ref a.xO), (4, .int (nI i))]) dL_law_139 hl (by decide) rfl (fun ls hl => ?_)
    refine lv_aload_n F.1 F.2.1 dL_law_141 rfl (lv_at hl 3 rfl) ?_
    refine lv_aload_n F.1 F.2.1 dL_law_142 rfl (lv_at hl 1 rfl) ?_
    refine lv_iload F.1 F.2.1 dL_law_143 (lv_at hl 5 rfl) ?_
    refine z_iconst (v := 1) F (by decide) dL_law_145 ?_
    refine z_iadd F dL_law_146 ?_
    refine z_sld F hX hbl hS hL (by omega) dL_law_147 ?_
    refine z_topI r0 (e1) ?_
    refine lv_aload_n F.1 F.2.1 dL_law_148 rfl (lv_at hl 1 rfl) ?_
    refine lv_iload F.1 F.2.1 dL_law_149 (lv_at hl 5 rfl) ?_
    refine z_iconst (v := 2) F (by decide) dL_law_151 ?_
    refine z_iadd F dL_law_152 ?_
    refine z_sld F hX hbl hS hL (by omega) dL_law_153 ?_
    refine z_topI r1 (e2) ?_
    refine lv_aload_n F.1 F.2.1 dL_law_154 rfl (lv_at hl 1 rfl) ?_
    refine lv_iload F.1 F.2.1 dL_law_155 (lv_at hl 5 rfl) ?_
    refine z_iconst (v := 3) F (by decide) dL_law_157 ?_
    refine z_iadd F dL_law_158 ?_
    refine z_sld F hX hbl hS hL (by omega) dL_law_159 ?_
    refine z_topI r2 (e3) ?_
    refine z_callF (wb := wM cI a pb cn ta al be ga de va md pd v inp sL sR sS sT (va_up f ((cn * 3 + r0) * 16 + r1) ((f ((cn * 3 + r0) * 16 + r1) + r2) % 998244353)) bb w mx el qt ++ wO cL a (va_up o 0 ((f ((cn * 3 + r0) * 16 + r1) + r2) % 998244353))) (z_runV [.int (nI r0), .int (nI r1), .int (nI r2)] [] F (ct_term l dC dI cI cL _ a.y0 a.yR a.yV a.yI a.yX a.yP a.yQ a.yS a.yD th cn pb ta al be ga de va md pd f v inp mx el qt su pr r0 r1 r2 hI.hf hr2 hr0 hr1 hI.hn) kk_T_term wl_L_57 rfl rfl ⟨Nat.le_of_ble_eq_true rfl, Nat.le_of_ble_eq_true rfl⟩ (z_preF (q := (RT, TT, 19)) hP hK hD rfl (q0 := 0) rfl) rfl hl.1 rfl (Nat.le_of_ble_eq_true rfl) dL_law_160 ⟨hcc, hss⟩) hP hD hS hAA (fun H locs hP hD hS => ?_)
    have hP : va_P (dC, dI) vwCl (wT cL a 0 cn pb ta al be ga de va md pd (va_up f ((cn * 3 + r0) * 16 + r1) ((f ((cn * 3 + r0) * 16 + r1) + r2) % 998244353)) v inp mx el qt su pr ++ (wM cI a pb cn ta al be ga de va md pd v inp sL sR sS sT (va_up f ((cn * 3 + r0) * 16 + r1) ((f ((cn * 3 + r0) * 16 + r1) + r2) % 998244353)) bb w mx el qt ++ wO cL a (va_up o 0 ((f ((cn * 3 + r0) * 16 + r1) + r2) % 998244353)))) H := hP
    have hD : va_D (zA s) (wT cL a 0 cn pb ta al be ga de va md pd (va_up f ((cn * 3 + r0) * 16 + r1) ((f ((cn * 3 + r0) * 16 + r1) + r2) % 998244353)) v inp mx el qt su pr ++ (wM cI a pb cn ta al be ga de va md pd v inp sL sR sS sT (va_up f ((cn * 3 + r0) * 16 + r1) ((f ((cn * 3 + r0) * 16 + r1) + r2) % 998244353)) bb w mx el qt ++ wO cL a (va_up o 0 ((f ((cn * 3 + r0) * 16 + r1) + r2) % 998244353)))) := hD
    refine lv_istore F.1 F.2.1 (lv' := [(6, .int (nI ((f ((cn * 3 + r0) * 16 + r1) + r2) % 998244353))), (5, .int (nI 0)), (0, .ref b), (1, .ref a.x0), (2, .ref a.y0), (3, .ref a.xO), (4, .int (nI i))]) dL_law_163 hl (by decide) rfl (fun ls hl => ?_)
    refine lv_aload_n F.1 F.2.1 dL_law_165 rfl (lv_at hl 4 rfl) ?_
    refine z_call (z_runV [] [] F (ct_thrown l dC dI cI cL _ 0 a.y0 a.yR a.yV a.yI a.yX a.yP a.yQ a.yS a.yD 0 cn pb ta al be ga de va md pd rfl) kk_T_thrown wl_L_58 rfl rfl ⟨Nat.le_of_ble_eq_true rfl, Nat.le_of_ble_eq_true rfl⟩ (z_preVR (q := (RT, TT, 19)) hP hK rfl (q0 := 0) rfl) rfl hl.1 rfl (Nat.le_of_ble_eq_true rfl) dL_law_166 ⟨hcc, hss⟩) ?_
    refine lv_iload F.1 F.2.1 dL_law_169 (lv_at hl 1 rfl) ?_
    refine z_icmp_eq F (by decide) (by decide) (tgt := 176) dL_law_171 rfl (fun h => ?_) (fun h => absurd rfl h)
    refine lv_iload F.1 F.2.1 dL_law_176 (lv_at hl 1 rfl) ?_
    refine z_if_ne F (by decide) (tgt := 193) dL_law_178 rfl (fun h => absurd rfl h) (fun h => ?_)
    refine lv_aload_n F.1 F.2.1 dL_law_181 rfl (lv_at hl 5 rfl) ?_
    refine z_iconst (v := 0) F (by decide) dL_law_182 ?_
    refine z_lald F hK hP 26 1 rfl rfl (by decide) (by decide) dL_law_183 ?_
    refine z_topL ((f ((cn * 3 + r0) * 16 + r1) + r2) % 998244353) (va_up_self _ _ _) ?_
    refine lv_iload F.1 F.2.1 dL_law_184 (lv_at hl 0 rfl) ?_
    refine z_i2l F (Nat.lt_trans (ltP _) (by decide)) dL_law_186 ?_
    refine z_lcmp F dL_law_187 ?_
    refine z_ifl_eq F (Nat.lt_trans (ltP _) (by decide)) (Nat.lt_trans (ltP _) (by decide)) (tgt := 193) dL_law_188 rfl (fun h => ?_) (fun h => absurd rfl h)
    refine lv_goto F.1 F.2.1 (tgt := 932) dL_law_193 rfl ?_
    have hl : lv_has ls 7 [(0, .ref b), (1, .ref a.x0), (2, .ref a.y0), (3, .ref a.xO), (4, .int (nI i))] := lv_sub hl [2, 3, 4, 5, 6] rfl
    exact kk pb cn ta al be ga de va 0 md pd v inp sL sR sS sT (va_up f ((cn * 3 + r0) * 16 + r1) ((f ((cn * 3 + r0) * 16 + r1) + r2) % 998244353)) bb w mx el qt su pr (va_up o 0 ((f ((cn * 3 + r0) * 16 + r1) + r2) % 998244353)) ls H locs (show zok pb cn ta al be ga de va md (va_up f ((cn * 3 + r0) * 16 + r1) ((f ((cn * 3 + r0) * 16 + r1) + r2) % 998244353)) v inp mx el bb w sS sT su from ⟨hI.hn, hI.hpb, hI.hta, hI.hal, hI.hbe, hI.hga, hI.hde, hI.hva, z_upl hI.hf (ltP _), hI.hv, hI.hinp, hI.hmx, hI.hel, hI.hbb, hI.hw, hI.hsS, hI.hsT, hI.hsu, hI.hb0, hI.hw0, fun j hj => by rw [va_up_ne _ _ (by omega)]; exact hI.hf0 j hj⟩) hP hD hS hl
  · have hq : _ = false := Bool.eq_false_iff.mpr hq
    refine lv_aload_n F.1 F.2.1 dL_law_116 rfl (lv_at hl 1 rfl) ?_
    refine lv_aload_n F.1 F.2.1 dL_law_117 rfl (lv_at hl 0 rfl) ?_
    refine lv_iload F.1 F.2.1 dL_law_118 (lv_at hl 4 rfl) ?_
    refine z_iconst (v := 1) F (by decide) dL_law_120 ?_
    refine z_iadd F dL_law_121 ?_
    refine z_sld F hX hbl hS hL (by omega) dL_law_122 ?_
    refine lv_aload_n F.1 F.2.1 dL_law_123 rfl (lv_at hl 0 rfl) ?_
    refine lv_iload F.1 F.2.1 dL_law_124 (lv_at hl 4 rfl) ?_
    refine z_iconst (v := 2) F (by decide) dL_law_126 ?_
    refine z_iadd F dL_law_127 ?_
    refine z_sld F hX hbl hS hL (by omega) dL_law_128 ?_
    refine lv_aload_n F.1 F.2.1 dL_law_129 rfl (lv_at hl 0 rfl) ?_
    refine lv_iload F.1 F.2.1 dL_law_130 (lv_at hl 4 rfl) ?_
    refine z_iconst (v := 3) F (by decide) dL_law_132 ?_
    refine z_iadd F dL_law_133 ?_
    refine z_sld F hX hbl hS hL (by omega) dL_law_134 ?_
    refine lv_aload_n F.1 F.2.1 dL_law_135 rfl (lv_at hl 3 rfl) ?_
    refine z_callR (wa := wT cL a th cn pb ta al be ga de va md pd f v inp mx el qt su pr) (wc := wM cI a pb cn ta al be ga de va md pd v inp sL sR sS sT f bb w mx el qt ++ wO cL a o) (z_runSW [.ref a.x0, .int (xs (i + 1)), .int (xs (i + 2)), .int (xs (i + 3)), .ref a.xO] [] F (wx_term l h9 dC dI cI cL _ a.x0 a.xC a.xD a.xK a.xQ a.xV a.xI a.xL a.xR a.xS a.xT a.xA a.xB a.xW a.xX a.xE a.xF pb cn ta al be ga de va md pd v inp sL sR sS sT f bb w mx el qt a.xO o _ _ _ hq) kk_L_term wl_L_52 rfl rfl ⟨Nat.le_of_ble_eq_true rfl, Nat.le_of_ble_eq_true rfl⟩ (z_preSR hP hK hD (z_zs hZ hS)) rfl hl.1 rfl (Nat.le_of_ble_eq_true rfl) dL_law_136 ⟨hcc, hss⟩) hP hD hS hAA (fun H locs hP hD hS => ?_)
    have hP : va_P (dC, dI) vwCl (wT cL a th cn pb ta al be ga de va md pd f v inp mx el qt su pr ++ (wM cI a pb cn ta al be ga de va md pd v inp sL sR sS sT f bb w mx el qt ++ wO cL a o)) H := hP
    have hD : va_D (zA s) (wT cL a th cn pb ta al be ga de va md pd f v inp mx el qt su pr ++ (wM cI a pb cn ta al be ga de va md pd v inp sL sR sS sT f bb w mx el qt ++ wO cL a o)) := hD
    refine lv_istore F.1 F.2.1 (lv' := [(5, .int (nI 1)), (0, .ref b), (1, .ref a.x0), (2, .ref a.y0), (3, .ref a.xO), (4, .int (nI i))]) dL_law_139 hl (by decide) rfl (fun ls hl => ?_)
    refine lv_aload_n F.1 F.2.1 dL_law_141 rfl (lv_at hl 3 rfl) ?_
    refine lv_aload_n F.1 F.2.1 dL_law_142 rfl (lv_at hl 1 rfl) ?_
    refine lv_iload F.1 F.2.1 dL_law_143 (lv_at hl 5 rfl) ?_
    refine z_iconst (v := 1) F (by decide) dL_law_145 ?_
    refine z_iadd F dL_law_146 ?_
    refine z_sld F hX hbl hS hL (by omega) dL_law_147 ?_
    refine lv_aload_n F.1 F.2.1 dL_law_148 rfl (lv_at hl 1 rfl) ?_
    refine lv_iload F.1 F.2.1 dL_law_149 (lv_at hl 5 rfl) ?_
    refine z_iconst (v := 2) F (by decide) dL_law_151 ?_
    refine z_iadd F dL_law_152 ?_
    refine z_sld F hX hbl hS hL (by omega) dL_law_153 ?_
    refine lv_aload_n F.1 F.2.1 dL_law_154 rfl (lv_at hl 1 rfl) ?_
    refine lv_iload F.1 F.2.1 dL_law_155 (lv_at hl 5 rfl) ?_
    refine z_iconst (v := 3) F (by decide) dL_law_157 ?_
    refine z_iadd F dL_law_158 ?_
    refine z_sld F hX hbl hS hL (by omega) dL_law_159 ?_
    refine z_callF (wb := wM cI a pb cn ta al be ga de va md pd v inp sL sR sS sT f bb w mx el qt ++ wO cL a o) (z_runV [.int (xs (i + 1)), .int (xs (i + 2)), .int (xs (i + 3))] [] F (ct_term_no l dC dI cI cL _ a.y0 a.yR a.yV a.yI a.yX a.yP a.yQ a.yS a.yD th cn pb ta al be ga de va md pd f v inp mx el qt su pr _ _ _ hq) kk_T_term wl_L_57 rfl rfl ⟨Nat.le_of_ble_eq_true rfl, Nat.le_of_ble_eq_true rfl⟩ (z_preF (q := (RT, TT, 19)) hP hK hD rfl (q0 := 0) rfl) rfl hl.1 rfl (Nat.le_of_ble_eq_true rfl) dL_law_160 ⟨hcc, hss⟩) hP hD hS hAA (fun H locs hP hD hS => ?_)
    have hP : va_P (dC, dI) vwCl (wT cL a 1 cn pb ta al be ga de va md pd f v inp mx el qt su pr ++ (wM cI a pb cn ta al be ga de va md pd v inp sL sR sS sT f bb w mx el qt ++ wO cL a o)) H := hP
    have hD : va_D (zA s) (wT cL a 1 cn pb ta al be ga de va md pd f v inp mx el qt su pr ++ (wM cI a pb cn ta al be ga de va md pd v inp sL sR sS sT f bb w mx el qt ++ wO cL a o)) := hD
    refine lv_istore F.1 F.2.1 (lv' := [(6, .int (nI 0)), (5, .int (nI 1)), (0, .ref b), (1, .ref a.x0), (2, .ref a.y0), (3, .ref a.xO), (4, .int (nI i))]) dL_law_163 hl (by decide) rfl (fun ls hl => ?_)
    refine lv_aload_n F.1 F.2.1 dL_law_165 rfl (lv_at hl 4 rfl) ?_
    refine z_call (z_runV [] [] F (ct_thrown l dC dI cI cL _ 0 a.y0 a.yR a.yV a.yI a.yX a.yP a.yQ a.yS a.yD 1 cn pb ta al be ga de va md pd rfl) kk_T_thrown wl_L_58 rfl rfl ⟨Nat.le_of_ble_eq_true rfl, Nat.le_of_ble_eq_true rfl⟩ (z_preVR (q := (RT, TT, 19)) hP hK rfl (q0 := 0) rfl) rfl hl.1 rfl (Nat.le_of_ble_eq_true rfl) dL_law_166 ⟨hcc, hss⟩) ?_
    refine lv_iload F.1 F.2.1 dL_law_169 (lv_at hl 1 rfl) ?_
    refine z_icmp_eq F (by decide) (by decide) (tgt := 176) dL_law_171 rfl (fun h => ?_) (fun h => absurd rfl h)
    refine lv_iload F.1 F.2.1 dL_law_176 (lv_at hl 1 rfl) ?_
    refine z_if_ne F (by decide) (tgt := 193) dL_law_178 rfl (fun h => ?_) (fun h => absurd h (by decide))
    refine lv_goto F.1 F.2.1 (tgt := 932) dL_law_193 rfl ?_
    have hl : lv_has ls 7 [(0, .ref b), (1, .ref a.x0), (2, .ref a.y0), (3, .ref a.xO), (4, .int (nI i))] := lv_sub hl [2, 3, 4, 5, 6] rfl
    exact kk pb cn ta al be ga de va 1 md pd v inp sL sR sS sT f bb w mx el qt su pr o ls H locs (show zok pb cn ta al be ga de va md f v inp mx el bb w sS sT su from ⟨hI.hn, hI.hpb, hI.hta, hI.hal, hI.hbe, hI.hga, hI.hde, hI.hva, hI.hf, hI.hv, hI.hinp, hI.hmx, hI.hel, hI.hbb, hI.hw, hI.hsS, hI.hsT, hI.hsu, hI.hb0, hI.hw0, hI.hf0⟩) hP hD hS hl
set_option maxHeartbeats 4000000 in
set_option maxRecDepth 100000 in
theorem lc_1 {p : Program} {l : Launch} {e : Env} {s : State} {m : MethodId} {below : List Frame} {meth : Method} {c : Code} {dC : Nat → ClassId} {dI : Nat → Nat → Nat} {cI cL : ClassId} {b L : Nat} {xs : Nat → Int32} {a : Zad} {pb : Nat} {cn : Nat} {ta : Nat} {al : Nat} {be : Nat} {ga : Nat} {de : Nat} {va : Nat} {th : Nat} {md : Bool} {pd : Bool} {v : Nat → Nat} {inp : Nat → Nat} {sL : Nat → Nat} {sR : Nat → Nat} {sS : Nat → Nat} {sT : Nat → Nat} {f : Nat → Nat} {bb : Nat → Nat} {w : Nat → Nat} {mx : Nat → Nat} {el : Nat → Nat} {qt : Nat → Nat} {su : Nat → Nat} {pr : Nat → Nat} {o : Nat → Nat} {i cells slots : Nat} {Q : State → Prop} {ls : Array Slot} {H : Heap} {locs : List Loc} (C : Zcx p l s m c dC dI cI cL b L xs) (hI : zok pb cn ta al be ga de va md f v inp mx el bb w sS sT su) (hi : i + 6 ≤ L) (hP : va_P (dC, dI) vwCl (wT cL a th cn pb ta al be ga de va md pd f v inp mx el qt su pr ++ (wM cI a pb cn ta al be ga de va md pd v inp sL sR sS sT f bb w mx el qt ++ wO cL a o)) H) (hD : va_D (zA s) (wT cL a th cn pb ta al be ga de va md pd f v inp mx el qt su pr ++ (wM cI a pb cn ta al be ga de va md pd v inp sL sR sS sT f bb w mx el qt ++ wO cL a o))) (hS : va_S (zA s) s.heap H locs) (hl : lv_has ls 7 [(0, .ref b), (1, .ref a.x0), (2, .ref a.y0), (3, .ref a.xO), (4, .int (nI i))]) (hcc : cells + 1 ≤ 1064) (hss : slots + 6 ≤ 10267) (kk : zNext p l e s m below meth c dC dI cI cL b i a (cells + 1) (slots + 6) Q 932) : W p l e room_1 s m #[Value.ref b] below meth c H locs cells slots Q (F0 m 196 ls []) := by
  obtain ⟨F, hK, hX, hbl, hL, hZ, h9⟩ := C
  have hAA : ∀ q, s.heap.size ≤ q → zA s q := fun q h => h
  have hc0 : cells ≤ 1064 := by omega
  have hs0 : slots ≤ 10267 := by omega
  by_cases hq : cn < 16
  · have hfe : (fun t => if 48 * (cn + 1) ≤ t ∧ t < 48 * (cn + 1) + 48 then 0 else f t) = f := funext (fun t => by
        by_cases h : 48 * (cn + 1) ≤ t ∧ t < 48 * (cn + 1) + 48
        · show (if _ then 0 else f t) = f t
          rw [if_pos h, hI.hf0 t h.1]
        · show (if _ then 0 else f t) = f t
          rw [if_neg h])
    refine lv_aload_n F.1 F.2.1 dL_law_196 rfl (lv_at hl 1 rfl) ?_
    refine lv_aload_n F.1 F.2.1 dL_law_197 rfl (lv_at hl 3 rfl) ?_
    refine z_callR (wa := wT cL a th cn pb ta al be ga de va md pd f v inp mx el qt su pr) (wc := wM cI a pb cn ta al be ga de va md pd v inp sL sR sS sT f bb w mx el qt ++ wO cL a o) (z_runSW [.ref a.x0, .ref a.xO] [] F (ww_constraint l dC dI cI cL _ a.x0 a.xC a.xD a.xK a.xQ a.xV a.xI a.xL a.xR a.xS a.xT a.xA a.xB a.xW a.xX a.xE a.xF pb cn ta al be ga de va md pd v inp sL sR sS sT f bb w mx el qt a.xO o hq) kk_L_constraint wl_L_61 rfl rfl ⟨Nat.le_of_ble_eq_true rfl, Nat.le_of_ble_eq_true rfl⟩ (z_preSR hP hK hD (z_zs hZ hS)) rfl hl.1 rfl (Nat.le_of_ble_eq_true rfl) dL_law_198 ⟨hcc, hss⟩) hP hD hS hAA (fun H locs hP hD hS => ?_)
    have hP : va_P (dC, dI) vwCl (wT cL a th cn pb ta al be ga de va md pd f v inp mx el qt su pr ++ (wM cI a pb (cn + 1) ta al be ga de va false pd v inp sL sR sS sT f ((fun j => if j < szN (cn + 1) then bk (szN (cn + 1)) ^ j % 998244353 else bb j)) w mx el qt ++ wO cL a (va_up o 0 cn))) H := hP
    have hD : va_D (zA s) (wT cL a th cn pb ta al be ga de va md pd f v inp mx el qt su pr ++ (wM cI a pb (cn + 1) ta al be ga de va false pd v inp sL sR sS sT f ((fun j => if j < szN (cn + 1) then bk (szN (cn + 1)) ^ j % 998244353 else bb j)) w mx el qt ++ wO cL a (va_up o 0 cn))) := hD
    refine lv_istore F.1 F.2.1 (lv' := [(5, .int (nI 0)), (0, .ref b), (1, .ref a.x0), (2, .ref a.y0), (3, .ref a.xO), (4, .int (nI i))]) dL_law_201 hl (by decide) rfl (fun ls hl => ?_)
    refine lv_aload_n F.1 F.2.1 dL_law_203 rfl (lv_at hl 3 rfl) ?_
    refine z_callF (wb := wM cI a pb (cn + 1) ta al be ga de va false pd v inp sL sR sS sT f ((fun j => if j < szN (cn + 1) then bk (szN (cn + 1)) ^ j % 998244353 else bb j)) w mx el qt ++ wO cL a (va_up o 0 cn)) (z_runV [] [] F (ct_constraint l dC dI cI cL _ a.y0 a.yR a.yV a.yI a.yX a.yP a.yQ a.yS a.yD th cn pb ta al be ga de va md pd f v inp mx el qt su pr hq) kk_T_constraint wl_L_64 rfl rfl ⟨Nat.le_of_ble_eq_true rfl, Nat.le_of_ble_eq_true rfl⟩ (z_preF (q := (RT, TT, 19)) hP hK hD rfl (q0 := 0) rfl) rfl hl.1 rfl (Nat.le_of_ble_eq_true rfl) dL_law_204 ⟨hcc, hss⟩) hP hD hS hAA (fun H locs hP hD hS => ?_)
    have hP : va_P (dC, dI) vwCl (wT cL a 0 (cn + 1) pb ta al be ga de va false pd ((fun t => if 48 * (cn + 1) ≤ t ∧ t < 48 * (cn + 1) + 48 then 0 else f t)) v inp mx el qt su pr ++ (wM cI a pb (cn + 1) ta al be ga de va false pd v inp sL sR sS sT f ((fun j => if j < szN (cn + 1) then bk (szN (cn + 1)) ^ j % 998244353 else bb j)) w mx el qt ++ wO cL a (va_up o 0 cn))) H := hP
    have hD : va_D (zA s) (wT cL a 0 (cn + 1) pb ta al be ga de va false pd ((fun t => if 48 * (cn + 1) ≤ t ∧ t < 48 * (cn + 1) + 48 then 0 else f t)) v inp mx el qt su pr ++ (wM cI a pb (cn + 1) ta al be ga de va false pd v inp sL sR sS sT f ((fun j => if j < szN (cn + 1) then bk (szN (cn + 1)) ^ j % 998244353 else bb j)) w mx el qt ++ wO cL a (va_up o 0 cn))) := hD
    rw [hfe] at hP hD
    refine lv_istore F.1 F.2.1 (lv' := [(6, .int (nI cn)), (5, .int (nI 0)), (0, .ref b), (1, .ref a.x0), (2, .ref a.y0), (3, .ref a.xO), (4, .int (nI i))]) dL_law_207 hl (by decide) rfl (fun ls hl => ?_)
    refine lv_aload_n F.1 F.2.1 dL_law_209 rfl (lv_at hl 4 rfl) ?_
    refine z_call (z_runV [] [] F (ct_thrown l dC dI cI cL _ 0 a.y0 a.yR a.yV a.yI a.yX a.yP a.yQ a.yS a.yD 0 (cn + 1) pb ta al be ga de va false pd rfl) kk_T_thrown wl_L_58 rfl rfl ⟨Nat.le_of_ble_eq_true rfl, Nat.le_of_ble_eq_true rfl⟩ (z_preVR (q := (RT, TT, 19)) hP hK rfl (q0 := 0) rfl) rfl hl.1 rfl (Nat.le_of_ble_eq_true rfl) dL_law_210 ⟨hcc, hss⟩) ?_
    refine lv_iload F.1 F.2.1 dL_law_213 (lv_at hl 1 rfl) ?_
    refine z_icmp_eq F (by decide) (by decide) (tgt := 220) dL_law_215 rfl (fun h => ?_) (fun h => absurd rfl h)
    refine lv_iload F.1 F.2.1 dL_law_220 (lv_at hl 1 rfl) ?_
    refine z_if_ne F (by decide) (tgt := 237) dL_law_222 rfl (fun h => absurd rfl h) (fun h => ?_)
    refine lv_aload_n F.1 F.2.1 dL_law_225 rfl (lv_at hl 5 rfl) ?_
    refine z_iconst (v := 0) F (by decide) dL_law_226 ?_
    refine z_lald F hK hP 26 1 rfl rfl (by decide) (by decide) dL_law_227 ?_
    refine z_topL cn (va_up_self _ _ _) ?_
    refine lv_iload F.1 F.2.1 dL_law_228 (lv_at hl 0 rfl) ?_
    refine z_i2l F (by omega) dL_law_230 ?_
    refine z_lcmp F dL_law_231 ?_
    refine z_ifl_eq F (by omega) (by omega) (tgt := 237) dL_law_232 rfl (fun h => ?_) (fun h => absurd rfl h)
    refine lv_goto F.1 F.2.1 (tgt := 932) dL_law_237 rfl ?_
    have hl : lv_has ls 7 [(0, .ref b), (1, .ref a.x0), (2, .ref a.y0), (3, .ref a.xO), (4, .int (nI i))] := lv_sub hl [2, 3, 4, 5, 6] rfl
    exact kk pb (cn + 1) ta al be ga de va 0 false pd v inp sL sR sS sT f ((fun j => if j < szN (cn + 1) then bk (szN (cn + 1)) ^ j % 998244353 else bb j)) w mx el qt su pr (va_up o 0 cn) ls H locs (show zok pb (cn + 1) ta al be ga de va false f v inp mx el ((fun j => if j < szN (cn + 1) then bk (szN (cn + 1)) ^ j % 998244353 else bb j)) w sS sT su from ⟨hq, hI.hpb, hI.hta, hI.hal, hI.hbe, hI.hga, hI.hde, hI.hva, hI.hf, hI.hv, hI.hinp, hI.hmx, hI.hel, fun j => by
          show (if _ then _ else bb j) < _
          split
          · exact ltP _
          · exact hI.hbb j, hI.hw, hI.hsS, hI.hsT, hI.hsu, fun j hj => if_pos hj, fun h => absurd h (by decide), fun j hj => hI.hf0 j (by omega)⟩) hP hD hS hl
  · have hq : cn = 16 := by have := hI.hn; omega
    refine lv_aload_n F.1 F.2.1 dL_law_196 rfl (lv_at hl 1 rfl) ?_
    refine lv_aload_n F.1 F.2.1 dL_law_197 rfl (lv_at hl 3 rfl) ?_
    refine z_callR (wa := wT cL a th cn pb ta al be ga de va md pd f v inp mx el qt su pr) (wc := wM cI a pb cn ta al be ga de va md pd v inp sL sR sS sT f bb w mx el qt ++ wO cL a o) (z_runSW [.ref a.x0, .ref a.xO] [] F (wx_constraint l h9 dC dI cI cL _ a.x0 a.xC a.xD a.xK a.xQ a.xV a.xI a.xL a.xR a.xS a.xT a.xA a.xB a.xW a.xX a.xE a.xF pb cn ta al be ga de va md pd v inp sL sR sS sT f bb w mx el qt a.xO o hq) kk_L_constraint wl_L_61 rfl rfl ⟨Nat.le_of_ble_eq_true rfl, Nat.le_of_ble_eq_true rfl⟩ (z_preSR hP hK hD (z_zs hZ hS)) rfl hl.1 rfl (Nat.le_of_ble_eq_true rfl) dL_law_198 ⟨hcc, hss⟩) hP hD hS hAA (fun H locs hP hD hS => ?_)
    have hP : va_P (dC, dI) vwCl (wT cL a th cn pb ta al be ga de va md pd f v inp mx el qt su pr ++ (wM cI a pb cn ta al be ga de va md pd v inp sL sR sS sT f bb w mx el qt ++ wO cL a o)) H := hP
    have hD : va_D (zA s) (wT cL a th cn pb ta al be ga de va md pd f v inp mx el qt su pr ++ (wM cI a pb cn ta al be ga de va md pd v inp sL sR sS sT f bb w mx el qt ++ wO cL a o)) := hD
    refine lv_istore F.1 F.2.1 (lv' := [(5, .int (nI 1)), (0, .ref b), (1, .ref a.x0), (2, .ref a.y0), (3, .ref a.xO), (4, .int (nI i))]) dL_law_201 hl (by decide) rfl (fun ls hl => ?_)
    refine lv_aload_n F.1 F.2.1 dL_law_203 rfl (lv_at hl 3 rfl) ?_
    refine z_callF (wb := wM cI a pb cn ta al be ga de va md pd v inp sL sR sS sT f bb w mx el qt ++ wO cL a o) (z_runV [] [] F (ct_constraint_no l dC dI cI cL _ a.y0 a.yR a.yV a.yI a.yX a.yP a.yQ a.yS a.yD th cn pb ta al be ga de va md pd f v inp mx el qt su pr hq) kk_T_constraint wl_L_64 rfl rfl ⟨Nat.le_of_ble_eq_true rfl, Nat.le_of_ble_eq_true rfl⟩ (z_preF (q := (RT, TT, 19)) hP hK hD rfl (q0 := 0) rfl) rfl hl.1 rfl (Nat.le_of_ble_eq_true rfl) dL_law_204 ⟨hcc, hss⟩) hP hD hS hAA (fun H locs hP hD hS => ?_)
    have hP : va_P (dC, dI) vwCl (wT cL a 1 cn pb ta al be ga de va md pd f v inp mx el qt su pr ++ (wM cI a pb cn ta al be ga de va md pd v inp sL sR sS sT f bb w mx el qt ++ wO cL a o)) H := hP
    have hD : va_D (zA s) (wT cL a 1 cn pb ta al be ga de va md pd f v inp mx el qt su pr ++ (wM cI a pb cn ta al be ga de va md pd v inp sL sR sS sT f bb w mx el qt ++ wO cL a o)) := hD
    refine lv_istore F.1 F.2.1 (lv' := [(6, .int (nI 0)), (5, .int (nI 1)), (0, .ref b), (1, .ref a.x0), (2, .ref a.y0), (3, .ref a.xO), (4, .int (nI i))]) dL_law_207 hl (by decide) rfl (fun ls hl => ?_)
    refine lv_aload_n F.1 F.2.1 dL_law_209 rfl (lv_at hl 4 rfl) ?_
    refine z_call (z_runV [] [] F (ct_thrown l dC dI cI cL _ 0 a.y0 a.yR a.yV a.yI a.yX a.yP a.yQ a.yS a.yD 1 cn pb ta al be ga de va md pd rfl) kk_T_thrown wl_L_58 rfl rfl ⟨Nat.le_of_ble_eq_true rfl, Nat.le_of_ble_eq_true rfl⟩ (z_preVR (q := (RT, TT, 19)) hP hK rfl (q0 := 0) rfl) rfl hl.1 rfl (Nat.le_of_ble_eq_true rfl) dL_law_210 ⟨hcc, hss⟩) ?_
    refine lv_iload F.1 F.2.1 dL_law_213 (lv_at hl 1 rfl) ?_
    refine z_icmp_eq F (by decide) (by decide) (tgt := 220) dL_law_215 rfl (fun h => ?_) (fun h => absurd rfl h)
    refine lv_iload F.1 F.2.1 dL_law_220 (lv_at hl 1 rfl) ?_
    refine z_if_ne F (by decide) (tgt := 237) dL_law_222 rfl (fun h => ?_) (fun h => absurd h (by decide))
    refine lv_goto F.1 F.2.1 (tgt := 932) dL_law_237 rfl ?_
    have hl : lv_has ls 7 [(0, .ref b), (1, .ref a.x0), (2, .ref a.y0), (3, .ref a.xO), (4, .int (nI i))] := lv_sub hl [2, 3, 4, 5, 6] rfl
    exact kk pb cn ta al be ga de va 1 md pd v inp sL sR sS sT f bb w mx el qt su pr o ls H locs (show zok pb cn ta al be ga de va md f v inp mx el bb w sS sT su from ⟨hI.hn, hI.hpb, hI.hta, hI.hal, hI.hbe, hI.hga, hI.hde, hI.hva, hI.hf, hI.hv, hI.hinp, hI.hmx, hI.hel, hI.hbb, hI.hw, hI.hsS, hI.hsT, hI.hsu, hI.hb0, hI.hw0, hI.hf0⟩) hP hD hS hl
set_option maxHeartbeats 4000000 in
set_option maxRecDepth 100000 in
theorem lc_2 {p : Program} {l : Launch} {e : Env} {s : State} {m : MethodId} {below : List Frame} {meth : Method} {c : Code} {dC : Nat → ClassId} {dI : Nat → Nat → Nat} {cI cL : ClassId} {b L : Nat} {xs : Nat → Int32} {a : Zad} {pb : Nat} {cn : Nat} {ta : Nat} {al : Nat} {be : Nat} {ga : Nat} {de : Nat} {va : Nat} {th : Nat} {md : Bool} {pd : Bool} {v : Nat → Nat} {inp : Nat → Nat} {sL : Nat → Nat} {sR : Nat → Nat} {sS : Nat → Nat} {sT : Nat → Nat} {f : Nat → Nat} {bb : Nat → Nat} {w : Nat → Nat} {mx : Nat → Nat} {el : Nat → Nat} {qt : Nat → Nat} {su : Nat → Nat} {pr : Nat → Nat} {o : Nat → Nat} {i cells slots : Nat} {Q : State → Prop} {ls : Array Slot} {H : Heap} {locs : List Loc} (C : Zcx p l s m c dC dI cI cL b L xs) (hI : zok pb cn ta al be ga de va md f v inp mx el bb w sS sT su) (hi : i + 6 ≤ L) (hP : va_P (dC, dI) vwCl (wT cL a th cn pb ta al be ga de va md pd f v inp mx el qt su pr ++ (wM cI a pb cn ta al be ga de va md pd v inp sL sR sS sT f bb w mx el qt ++ wO cL a o)) H) (hD : va_D (zA s) (wT cL a th cn pb ta al be ga de va md pd f v inp mx el qt su pr ++ (wM cI a pb cn ta al be ga de va md pd v inp sL sR sS sT f bb w mx el qt ++ wO cL a o))) (hS : va_S (zA s) s.heap H locs) (hl : lv_has ls 7 [(0, .ref b), (1, .ref a.x0), (2, .ref a.y0), (3, .ref a.xO), (4, .int (nI i))]) (hcc : cells + 1 ≤ 1064) (hss : slots + 6 ≤ 10267) (kk : zNext p l e s m below meth c dC dI cI cL b i a (cells + 1) (slots + 6) Q 932) : W p l e room_1 s m #[Value.ref b] below meth c H locs cells slots Q (F0 m 240 ls []) := by
  obtain ⟨F, hK, hX, hbl, hL, hZ, h9⟩ := C
  have hAA : ∀ q, s.heap.size ≤ q → zA s q := fun q h => h
  have hc0 : cells ≤ 1064 := by omega
  have hs0 : slots ≤ 10267 := by omega
  by_cases hq : (bl (xs (i + 1)) 7) = true
  · obtain ⟨r0, hr0, e1⟩ := bl_of hq (by decide)
    refine lv_aload_n F.1 F.2.1 dL_law_240 rfl (lv_at hl 1 rfl) ?_
    refine lv_aload_n F.1 F.2.1 dL_law_241 rfl (lv_at hl 0 rfl) ?_
    refine lv_iload F.1 F.2.1 dL_law_242 (lv_at hl 4 rfl) ?_
    refine z_iconst (v := 1) F (by decide) dL_law_244 ?_
    refine z_iadd F dL_law_245 ?_
    refine z_sld F hX hbl hS hL (by omega) dL_law_246 ?_
    refine z_topI r0 (e1) ?_
    refine lv_aload_n F.1 F.2.1 dL_law_247 rfl (lv_at hl 3 rfl) ?_
    refine z_callR (wa := wT cL a th cn pb ta al be ga de va md pd f v inp mx el qt su pr) (wc := wM cI a pb cn ta al be ga de va md pd v inp sL sR sS sT f bb w mx el qt ++ wO cL a o) (z_runSW [.ref a.x0, .int (nI r0), .ref a.xO] [] F (ww_publics l dC dI cI cL _ a.x0 a.xC a.xD a.xK a.xQ a.xV a.xI a.xL a.xR a.xS a.xT a.xA a.xB a.xW a.xX a.xE a.xF pb cn ta al be ga de va md pd v inp sL sR sS sT f bb w mx el qt a.xO o r0 hr0) kk_L_publics wl_L_65 rfl rfl ⟨Nat.le_of_ble_eq_true rfl, Nat.le_of_ble_eq_true rfl⟩ (z_preSR hP hK hD (z_zs hZ hS)) rfl hl.1 rfl (Nat.le_of_ble_eq_true rfl) dL_law_248 ⟨hcc, hss⟩) hP hD hS hAA (fun H locs hP hD hS => ?_)
    have hP : va_P (dC, dI) vwCl (wT cL a th cn pb ta al be ga de va md pd f v inp mx el qt su pr ++ (wM cI a r0 cn ta al be ga de va false pd v inp sL sR sS sT f bb w mx el qt ++ wO cL a (va_up o 0 1))) H := hP
    have hD : va_D (zA s) (wT cL a th cn pb ta al be ga de va md pd f v inp mx el qt su pr ++ (wM cI a r0 cn ta al be ga de va false pd v inp sL sR sS sT f bb w mx el qt ++ wO cL a (va_up o 0 1))) := hD
    refine lv_istore F.1 F.2.1 (lv' := [(5, .int (nI 0)), (0, .ref b), (1, .ref a.x0), (2, .ref a.y0), (3, .ref a.xO), (4, .int (nI i))]) dL_law_251 hl (by decide) rfl (fun ls hl => ?_)
    refine lv_aload_n F.1 F.2.1 dL_law_253 rfl (lv_at hl 3 rfl) ?_
    refine lv_aload_n F.1 F.2.1 dL_law_254 rfl (lv_at hl 1 rfl) ?_
    refine lv_iload F.1 F.2.1 dL_law_255 (lv_at hl 5 rfl) ?_
    refine z_iconst (v := 1) F (by decide) dL_law_257 ?_
    refine z_iadd F dL_law_258 ?_
    refine z_sld F hX hbl hS hL (by omega) dL_law_259 ?_
    refine z_topI r0 (e1) ?_
    refine z_callF (wb := wM cI a r0 cn ta al be ga de va false pd v inp sL sR sS sT f bb w mx el qt ++ wO cL a (va_up o 0 1)) (z_runV [.int (nI r0)] [] F (ct_publics l dC dI cI cL _ a.y0 a.yR a.yV a.yI a.yX a.yP a.yQ a.yS a.yD th cn pb ta al be ga de va md pd f v inp mx el qt su pr r0 hr0) kk_T_publics wl_L_68 rfl rfl ⟨Nat.le_of_ble_eq_true rfl, Nat.le_of_ble_eq_true rfl⟩ (z_preF (q := (RT, TT, 19)) hP hK hD rfl (q0 := 0) rfl) rfl hl.1 rfl (Nat.le_of_ble_eq_true rfl) dL_law_260 ⟨hcc, hss⟩) hP hD hS hAA (fun H locs hP hD hS => ?_)
    have hP : va_P (dC, dI) vwCl (wT cL a 0 cn r0 ta al be ga de va false pd f v inp mx el qt su pr ++ (wM cI a r0 cn ta al be ga de va false pd v inp sL sR sS sT f bb w mx el qt ++ wO cL a (va_up o 0 1))) H := hP
    have hD : va_D (zA s) (wT cL a 0 cn r0 ta al be ga de va false pd f v inp mx el qt su pr ++ (wM cI a r0 cn ta al be ga de va false pd v inp sL sR sS sT f bb w mx el qt ++ wO cL a (va_up o 0 1))) := hD
    refine lv_istore F.1 F.2.1 (lv' := [(6, .int (z_b true)), (5, .int (nI 0)), (0, .ref b), (1, .ref a.x0), (2, .ref a.y0), (3, .ref a.xO), (4, .int (nI i))]) dL_law_263 hl (by decide) rfl (fun ls hl => ?_)
    refine lv_aload_n F.1 F.2.1 dL_law_265 rfl (lv_at hl 4 rfl) ?_
    refine z_call (z_runV [] [] F (ct_thrown l dC dI cI cL _ 0 a.y0 a.yR a.yV a.yI a.yX a.yP a.yQ a.yS a.yD 0 cn r0 ta al be ga de va false pd rfl) kk_T_thrown wl_L_58 rfl rfl ⟨Nat.le_of_ble_eq_true rfl, Nat.le_of_ble_eq_true rfl⟩ (z_preVR (q := (RT, TT, 19)) hP hK rfl (q0 := 0) rfl) rfl hl.1 rfl (Nat.le_of_ble_eq_true rfl) dL_law_266 ⟨hcc, hss⟩) ?_
    refine lv_iload F.1 F.2.1 dL_law_269 (lv_at hl 1 rfl) ?_
    refine z_icmp_eq F (by decide) (by decide) (tgt := 276) dL_law_271 rfl (fun h => ?_) (fun h => absurd rfl h)
    refine lv_iload F.1 F.2.1 dL_law_276 (lv_at hl 1 rfl) ?_
    refine z_if_ne F (by decide) (tgt := 300) dL_law_278 rfl (fun h => absurd rfl h) (fun h => ?_)
    refine lv_aload_n F.1 F.2.1 dL_law_281 rfl (lv_at hl 5 rfl) ?_
    refine z_iconst (v := 0) F (by decide) dL_law_282 ?_
    refine z_lald F hK hP 26 1 rfl rfl (by decide) (by decide) dL_law_283 ?_
    refine z_topL 1 (va_up_self _ _ _) ?_
    refine lv_iload F.1 F.2.1 dL_law_284 (lv_at hl 0 rfl) ?_
    refine z_ifb_eq F (tgt := 293) dL_law_286 rfl (fun h => absurd h (by decide)) (fun h => ?_)
    refine z_lconst (v := 1) F (by decide) dL_law_289 ?_
    refine lv_goto F.1 F.2.1 (tgt := 294) dL_law_290 rfl ?_
    refine z_lcmp F dL_law_294 ?_
    refine z_ifl_eq F (by decide) (by decide) (tgt := 300) dL_law_295 rfl (fun h => ?_) (fun h => absurd rfl h)
    refine lv_goto F.1 F.2.1 (tgt := 932) dL_law_300 rfl ?_
    have hl : lv_has ls 7 [(0, .ref b), (1, .ref a.x0), (2, .ref a.y0), (3, .ref a.xO), (4, .int (nI i))] := lv_sub hl [2, 3, 4, 5, 6] rfl
    exact kk r0 cn ta al be ga de va 0 false pd v inp sL sR sS sT f bb w mx el qt su pr (va_up o 0 1) ls H locs (show zok r0 cn ta al be ga de va false f v inp mx el bb w sS sT su from ⟨hI.hn, Nat.le_of_lt_succ hr0, hI.hta, hI.hal, hI.hbe, hI.hga, hI.hde, hI.hva, hI.hf, hI.hv, hI.hinp, hI.hmx, hI.hel, hI.hbb, hI.hw, hI.hsS, hI.hsT, hI.hsu, hI.hb0, fun h => absurd h (by decide), hI.hf0⟩) hP hD hS hl
  · have hq : _ = false := Bool.eq_false_iff.mpr hq
    refine lv_aload_n F.1 F.2.1 dL_law_240 rfl (lv_at hl 1 rfl) ?_
    refine lv_aload_n F.1 F.2.1 dL_law_241 rfl (lv_at hl 0 rfl) ?_
    refine lv_iload F.1 F.2.1 dL_law_242 (lv_at hl 4 rfl) ?_
    refine z_iconst (v := 1) F (by decide) dL_law_244 ?_
    refine z_iadd F dL_law_245 ?_
    refine z_sld F hX hbl hS hL (by omega) dL_law_246 ?_
    refine lv_aload_n F.1 F.2.1 dL_law_247 rfl (lv_at hl 3 rfl) ?_
    refine z_callR (wa := wT cL a th cn pb ta al be ga de va md pd f v inp mx el qt su pr) (wc := wM cI a pb cn ta al be ga de va md pd v inp sL sR sS sT f bb w mx el qt ++ wO cL a o) (z_runSW [.ref a.x0, .int (xs (i + 1)), .ref a.xO] [] F (wx_publics l h9 dC dI cI cL _ a.x0 a.xC a.xD a.xK a.xQ a.xV a.xI a.xL a.xR a.xS a.xT a.xA a.xB a.xW a.xX a.xE a.xF pb cn ta al be ga de va md pd v inp sL sR sS sT f bb w mx el qt a.xO o _ hq) kk_L_publics wl_L_65 rfl rfl ⟨Nat.le_of_ble_eq_true rfl, Nat.le_of_ble_eq_true rfl⟩ (z_preSR hP hK hD (z_zs hZ hS)) rfl hl.1 rfl (Nat.le_of_ble_eq_true rfl) dL_law_248 ⟨hcc, hss⟩) hP hD hS hAA (fun H locs hP hD hS => ?_)
    have hP : va_P (dC, dI) vwCl (wT cL a th cn pb ta al be ga de va md pd f v inp mx el qt su pr ++ (wM cI a pb cn ta al be ga de va md pd v inp sL sR sS sT f bb w mx el qt ++ wO cL a o)) H := hP
    have hD : va_D (zA s) (wT cL a th cn pb ta al be ga de va md pd f v inp mx el qt su pr ++ (wM cI a pb cn ta al be ga de va md pd v inp sL sR sS sT f bb w mx el qt ++ wO cL a o)) := hD
    refine lv_istore F.1 F.2.1 (lv' := [(5, .int (nI 1)), (0, .ref b), (1, .ref a.x0), (2, .ref a.y0), (3, .ref a.xO), (4, .int (nI i))]) dL_law_251 hl (by decide) rfl (fun ls hl => ?_)
    refine lv_aload_n F.1 F.2.1 dL_law_253 rfl (lv_at hl 3 rfl) ?_
    refine lv_aload_n F.1 F.2.1 dL_law_254 rfl (lv_at hl 1 rfl) ?_
    refine lv_iload F.1 F.2.1 dL_law_255 (lv_at hl 5 rfl) ?_
    refine z_iconst (v := 1) F (by decide) dL_law_257 ?_
    refine z_iadd F dL_law_258 ?_
    refine z_sld F hX hbl hS hL (by omega) dL_law_259 ?_
    refine z_callF (wb := wM cI a pb cn ta al be ga de va md pd v inp sL sR sS sT f bb w mx el qt ++ wO cL a o) (z_runV [.int (xs (i + 1))] [] F (ct_publics_no l dC dI cI cL _ a.y0 a.yR a.yV a.yI a.yX a.yP a.yQ a.yS a.yD th cn pb ta al be ga de va md pd f v inp mx el qt su pr _ hq) kk_T_publics wl_L_68 rfl rfl ⟨Nat.le_of_ble_eq_true rfl, Nat.le_of_ble_eq_true rfl⟩ (z_preF (q := (RT, TT, 19)) hP hK hD rfl (q0 := 0) rfl) rfl hl.1 rfl (Nat.le_of_ble_eq_true rfl) dL_law_260 ⟨hcc, hss⟩) hP hD hS hAA (fun H locs hP hD hS => ?_)
    have hP : va_P (dC, dI) vwCl (wT cL a 1 cn pb ta al be ga de va md pd f v inp mx el qt su pr ++ (wM cI a pb cn ta al be ga de va md pd v inp sL sR sS sT f bb w mx el qt ++ wO cL a o)) H := hP
    have hD : va_D (zA s) (wT cL a 1 cn pb ta al be ga de va md pd f v inp mx el qt su pr ++ (wM cI a pb cn ta al be ga de va md pd v inp sL sR sS sT f bb w mx el qt ++ wO cL a o)) := hD
    refine lv_istore F.1 F.2.1 (lv' := [(6, .int (z_b false)), (5, .int (nI 1)), (0, .ref b), (1, .ref a.x0), (2, .ref a.y0), (3, .ref a.xO), (4, .int (nI i))]) dL_law_263 hl (by decide) rfl (fun ls hl => ?_)
    refine lv_aload_n F.1 F.2.1 dL_law_265 rfl (lv_at hl 4 rfl) ?_
    refine z_call (z_runV [] [] F (ct_thrown l dC dI cI cL _ 0 a.y0 a.yR a.yV a.yI a.yX a.yP a.yQ a.yS a.yD 1 cn pb ta al be ga de va md pd rfl) kk_T_thrown wl_L_58 rfl rfl ⟨Nat.le_of_ble_eq_true rfl, Nat.le_of_ble_eq_true rfl⟩ (z_preVR (q := (RT, TT, 19)) hP hK rfl (q0 := 0) rfl) rfl hl.1 rfl (Nat.le_of_ble_eq_true rfl) dL_law_266 ⟨hcc, hss⟩) ?_
    refine lv_iload F.1 F.2.1 dL_law_269 (lv_at hl 1 rfl) ?_
    refine z_icmp_eq F (by decide) (by decide) (tgt := 276) dL_law_271 rfl (fun h => ?_) (fun h => absurd rfl h)
    refine lv_iload F.1 F.2.1 dL_law_276 (lv_at hl 1 rfl) ?_
    refine z_if_ne F (by decide) (tgt := 300) dL_law_278 rfl (fun h => ?_) (fun h => absurd h (by decide))
    refine lv_goto F.1 F.2.1 (tgt := 932) dL_law_300 rfl ?_
    have hl : lv_has ls 7 [(0, .ref b), (1, .ref a.x0), (2, .ref a.y0), (3, .ref a.xO), (4, .int (nI i))] := lv_sub hl [2, 3, 4, 5, 6] rfl
    exact kk pb cn ta al be ga de va 1 md pd v inp sL sR sS sT f bb w mx el qt su pr o ls H locs (show zok pb cn ta al be ga de va md f v inp mx el bb w sS sT su from ⟨hI.hn, hI.hpb, hI.hta, hI.hal, hI.hbe, hI.hga, hI.hde, hI.hva, hI.hf, hI.hv, hI.hinp, hI.hmx, hI.hel, hI.hbb, hI.hw, hI.hsS, hI.hsT, hI.hsu, hI.hb0, hI.hw0, hI.hf0⟩) hP hD hS hl
set_option maxHeartbeats 4000000 in
set_option maxRecDepth 100000 in
theorem lc_3 {p : Program} {l : Launch} {e : Env} {s : State} {m : MethodId} {below : List Frame} {meth : Method} {c : Code} {dC : Nat → ClassId} {dI : Nat → Nat → Nat} {cI cL : ClassId} {b L : Nat} {xs : Nat → Int32} {a : Zad} {pb : Nat} {cn : Nat} {ta : Nat} {al : Nat} {be : Nat} {ga : Nat} {de : Nat} {va : Nat} {th : Nat} {md : Bool} {pd : Bool} {v : Nat → Nat} {inp : Nat → Nat} {sL : Nat → Nat} {sR : Nat → Nat} {sS : Nat → Nat} {sT : Nat → Nat} {f : Nat → Nat} {bb : Nat → Nat} {w : Nat → Nat} {mx : Nat → Nat} {el : Nat → Nat} {qt : Nat → Nat} {su : Nat → Nat} {pr : Nat → Nat} {o : Nat → Nat} {i cells slots : Nat} {Q : State → Prop} {ls : Array Slot} {H : Heap} {locs : List Loc} (C : Zcx p l s m c dC dI cI cL b L xs) (hI : zok pb cn ta al be ga de va md f v inp mx el bb w sS sT su) (hi : i + 6 ≤ L) (hP : va_P (dC, dI) vwCl (wT cL a th cn pb ta al be ga de va md pd f v inp mx el qt su pr ++ (wM cI a pb cn ta al be ga de va md pd v inp sL sR sS sT f bb w mx el qt ++ wO cL a o)) H) (hD : va_D (zA s) (wT cL a th cn pb ta al be ga de va md pd f v inp mx el qt su pr ++ (wM cI a pb cn ta al be ga de va md pd v inp sL sR sS sT f bb w mx el qt ++ wO cL a o))) (hS : va_S (zA s) s.heap H locs) (hl : lv_has ls 7 [(0, .ref b), (1, .ref a.x0), (2, .ref a.y0), (3, .ref a.xO), (4, .int (nI i))]) (hcc : cells + 1 ≤ 1064) (hss : slots + 6 ≤ 10267) (kk : zNext p l e s m below meth c dC dI cI cL b i a (cells + 1) (slots + 6) Q 932) : W p l e room_1 s m #[Value.ref b] below meth c H locs cells slots Q (F0 m 303 ls []) := by
  obtain ⟨F, hK, hX, hbl, hL, hZ, h9⟩ := C
  have hAA : ∀ q, s.heap.size ≤ q → zA s q := fun q h => h
  have hc0 : cells ≤ 1064 := by omega
  have hs0 : slots ≤ 10267 := by omega
  by_cases hq : (b1 (xs (i + 1)) 16 && bl (xs (i + 2)) 998244353) = true
  · rw [Bool.and_eq_true] at hq
    obtain ⟨r0, hp0, hr0, e1⟩ := b1_of hq.1 (by decide)
    obtain ⟨r1, hr1, e2⟩ := bl_of hq.2 (by decide)
    refine lv_aload_n F.1 F.2.1 dL_law_303 rfl (lv_at hl 1 rfl) ?_
    refine lv_aload_n F.1 F.2.1 dL_law_304 rfl (lv_at hl 0 rfl) ?_
    refine lv_iload F.1 F.2.1 dL_law_305 (lv_at hl 4 rfl) ?_
    refine z_iconst (v := 1) F (by decide) dL_law_307 ?_
    refine z_iadd F dL_law_308 ?_
    refine z_sld F hX hbl hS hL (by omega) dL_law_309 ?_
    refine z_topI r0 (e1) ?_
    refine lv_aload_n F.1 F.2.1 dL_law_310 rfl (lv_at hl 0 rfl) ?_
    refine lv_iload F.1 F.2.1 dL_law_311 (lv_at hl 4 rfl) ?_
    refine z_iconst (v := 2) F (by decide) dL_law_313 ?_
    refine z_iadd F dL_law_314 ?_
    refine z_sld F hX hbl hS hL (by omega) dL_law_315 ?_
    refine z_topI r1 (e2) ?_
    refine lv_aload_n F.1 F.2.1 dL_law_316 rfl (lv_at hl 3 rfl) ?_
    refine z_callR (wa := wT cL a th cn pb ta al be ga de va md pd f v inp mx el qt su pr) (wc := wM cI a pb cn ta al be ga de va md pd v inp sL sR sS sT f bb w mx el qt ++ wO cL a o) (z_runSW [.ref a.x0, .int (nI r0), .int (nI r1), .ref a.xO] [] F (ww_value l dC dI cI cL _ a.x0 a.xC a.xD a.xK a.xQ a.xV a.xI a.xL a.xR a.xS a.xT a.xA a.xB a.xW a.xX a.xE a.xF pb cn ta al be ga de va md pd v inp sL sR sS sT f bb w mx el qt a.xO o r0 r1 hp0 hr0 hr1) kk_L_value wl_L_69 rfl rfl ⟨Nat.le_of_ble_eq_true rfl, Nat.le_of_ble_eq_true rfl⟩ (z_preSR hP hK hD (z_zs hZ hS)) rfl hl.1 rfl (Nat.le_of_ble_eq_true rfl) dL_law_317 ⟨hcc, hss⟩) hP hD hS hAA (fun H locs hP hD hS => ?_)
    have hP : va_P (dC, dI) vwCl (wT cL a th cn pb ta al be ga de va md pd f v inp mx el qt su pr ++ (wM cI a pb cn ta al be ga de va md pd (va_up v r0 r1) inp sL sR sS sT f bb w mx el qt ++ wO cL a (va_up o 0 1))) H := hP
    have hD : va_D (zA s) (wT cL a th cn pb ta al be ga de va md pd f v inp mx el qt su pr ++ (wM cI a pb cn ta al be ga de va md pd (va_up v r0 r1) inp sL sR sS sT f bb w mx el qt ++ wO cL a (va_up o 0 1))) := hD
    refine lv_istore F.1 F.2.1 (lv' := [(5, .int (nI 0)), (0, .ref b), (1, .ref a.x0), (2, .ref a.y0), (3, .ref a.xO), (4, .int (nI i))]) dL_law_320 hl (by decide) rfl (fun ls hl => ?_)
    refine lv_aload_n F.1 F.2.1 dL_law_322 rfl (lv_at hl 3 rfl) ?_
    refine lv_aload_n F.1 F.2.1 dL_law_323 rfl (lv_at hl 1 rfl) ?_
    refine lv_iload F.1 F.2.1 dL_law_324 (lv_at hl 5 rfl) ?_
    refine z_iconst (v := 1) F (by decide) dL_law_326 ?_
    refine z_iadd F dL_law_327 ?_
    refine z_sld F hX hbl hS hL (by omega) dL_law_328 ?_
    refine z_topI r0 (e1) ?_
    refine lv_aload_n F.1 F.2.1 dL_law_329 rfl (lv_at hl 1 rfl) ?_
    refine lv_iload F.1 F.2.1 dL_law_330 (lv_at hl 5 rfl) ?_
    refine z_iconst (v := 2) F (by decide) dL_law_332 ?_
    refine z_iadd F dL_law_333 ?_
    refine z_sld F hX hbl hS hL (by omega) dL_law_334 ?_
    refine z_topI r1 (e2) ?_
    refine z_callF (wb := wM cI a pb cn ta al be ga de va md pd (va_up v r0 r1) inp sL sR sS sT f bb w mx el qt ++ wO cL a (va_up o 0 1)) (z_runV [.int (nI r0), .int (nI r1)] [] F (ct_value l dC dI cI cL _ a.y0 a.yR a.yV a.yI a.yX a.yP a.yQ a.yS a.yD th cn pb ta al be ga de va md pd f v inp mx el qt su pr r0 r1 hp0 hr0 hr1) kk_T_value wl_L_72 rfl rfl ⟨Nat.le_of_ble_eq_true rfl, Nat.le_of_ble_eq_true rfl⟩ (z_preF (q := (RT, TT, 19)) hP hK hD rfl (q0 := 0) rfl) rfl hl.1 rfl (Nat.le_of_ble_eq_true rfl) dL_law_335 ⟨hcc, hss⟩) hP hD hS hAA (fun H locs hP hD hS => ?_)
    have hP : va_P (dC, dI) vwCl (wT cL a 0 cn pb ta al be ga de va md pd f (va_up v r0 r1) inp mx el qt su pr ++ (wM cI a pb cn ta al be ga de va md pd (va_up v r0 r1) inp sL sR sS sT f bb w mx el qt ++ wO cL a (va_up o 0 1))) H := hP
    have hD : va_D (zA s) (wT cL a 0 cn pb ta al be ga de va md pd f (va_up v r0 r1) inp mx el qt su pr ++ (wM cI a pb cn ta al be ga de va md pd (va_up v r0 r1) inp sL sR sS sT f bb w mx el qt ++ wO cL a (va_up o 0 1))) := hD
    refine lv_istore F.1 F.2.1 (lv' := [(6, .int (z_b true)), (5, .int (nI 0)), (0, .ref b), (1, .ref a.x0), (2, .ref a.y0), (3, .ref a.xO), (4, .int (nI i))]) dL_law_338 hl (by decide) rfl (fun ls hl => ?_)
    refine lv_aload_n F.1 F.2.1 dL_law_340 rfl (lv_at hl 4 rfl) ?_
    refine z_call (z_runV [] [] F (ct_thrown l dC dI cI cL _ 0 a.y0 a.yR a.yV a.yI a.yX a.yP a.yQ a.yS a.yD 0 cn pb ta al be ga de va md pd rfl) kk_T_thrown wl_L_58 rfl rfl ⟨Nat.le_of_ble_eq_true rfl, Nat.le_of_ble_eq_true rfl⟩ (z_preVR (q := (RT, TT, 19)) hP hK rfl (q0 := 0) rfl) rfl hl.1 rfl (Nat.le_of_ble_eq_true rfl) dL_law_341 ⟨hcc, hss⟩) ?_
    refine lv_iload F.1 F.2.1 dL_law_344 (lv_at hl 1 rfl) ?_
    refine z_icmp_eq F (by decide) (by decide) (tgt := 351) dL_law_346 rfl (fun h => ?_) (fun h => absurd rfl h)
    refine lv_iload F.1 F.2.1 dL_law_351 (lv_at hl 1 rfl) ?_
    refine z_if_ne F (by decide) (tgt := 375) dL_law_353 rfl (fun h => absurd rfl h) (fun h => ?_)
    refine lv_aload_n F.1 F.2.1 dL_law_356 rfl (lv_at hl 5 rfl) ?_
    refine z_iconst (v := 0) F (by decide) dL_law_357 ?_
    refine z_lald F hK hP 26 1 rfl rfl (by decide) (by decide) dL_law_358 ?_
    refine z_topL 1 (va_up_self _ _ _) ?_
    refine lv_iload F.1 F.2.1 dL_law_359 (lv_at hl 0 rfl) ?_
    refine z_ifb_eq F (tgt := 368) dL_law_361 rfl (fun h => absurd h (by decide)) (fun h => ?_)
    refine z_lconst (v := 1) F (by decide) dL_law_364 ?_
    refine lv_goto F.1 F.2.1 (tgt := 369) dL_law_365 rfl ?_
    refine z_lcmp F dL_law_369 ?_
    refine z_ifl_eq F (by decide) (by decide) (tgt := 375) dL_law_370 rfl (fun h => ?_) (fun h => absurd rfl h)
    refine lv_goto F.1 F.2.1 (tgt := 932) dL_law_375 rfl ?_
    have hl : lv_has ls 7 [(0, .ref b), (1, .ref a.x0), (2, .ref a.y0), (3, .ref a.xO), (4, .int (nI i))] := lv_sub hl [2, 3, 4, 5, 6] rfl
    exact kk pb cn ta al be ga de va 0 md pd (va_up v r0 r1) inp sL sR sS sT f bb w mx el qt su pr (va_up o 0 1) ls H locs (show zok pb cn ta al be ga de va md f (va_up v r0 r1) inp mx el bb w sS sT su from ⟨hI.hn, hI.hpb, hI.hta, hI.hal, hI.hbe, hI.hga, hI.hde, hI.hva, hI.hf, z_upl hI.hv hr1, hI.hinp, hI.hmx, hI.hel, hI.hbb, hI.hw, hI.hsS, hI.hsT, hI.hsu, hI.hb0, hI.hw0, hI.hf0⟩) hP hD hS hl
  · have hq : _ = false := Bool.eq_false_iff.mpr hq
    refine lv_aload_n F.1 F.2.1 dL_law_303 rfl (lv_at hl 1 rfl) ?_
    refine lv_aload_n F.1 F.2.1 dL_law_304 rfl (lv_at hl 0 rfl) ?_
    refine lv_iload F.1 F.2.1 dL_law_305 (lv_at hl 4 rfl) ?_
    refine z_iconst (v := 1) F (by decide) dL_law_307 ?_
    refine z_iadd F dL_law_308 ?_
    refine z_sld F hX hbl hS hL (by omega) dL_law_309 ?_
    refine lv_aload_n F.1 F.2.1 dL_law_310 rfl (lv_at hl 0 rfl) ?_
    refine lv_iload F.1 F.2.1 dL_law_311 (lv_at hl 4 rfl) ?_
    refine z_iconst (v := 2) F (by decide) dL_law_313 ?_
    refine z_iadd F dL_law_314 ?_
    refine z_sld F hX hbl hS hL (by omega) dL_law_315 ?_
    refine lv_aload_n F.1 F.2.1 dL_law_316 rfl (lv_at hl 3 rfl) ?_
    refine z_callR (wa := wT cL a th cn pb ta al be ga de va md pd f v inp mx el qt su pr) (wc := wM cI a pb cn ta al be ga de va md pd v inp sL sR sS sT f bb w mx el qt ++ wO cL a o) (z_runSW [.ref a.x0, .int (xs (i + 1)), .int (xs (i + 2)), .ref a.xO] [] F (wx_value l h9 dC dI cI cL _ a.x0 a.xC a.xD a.xK a.xQ a.xV a.xI a.xL a.xR a.xS a.xT a.xA a.xB a.xW a.xX a.xE a.xF pb cn ta al be ga de va md pd v inp sL sR sS sT f bb w mx el qt a.xO o _ _ hq) kk_L_value wl_L_69 rfl rfl ⟨Nat.le_of_ble_eq_true rfl, Nat.le_of_ble_eq_true rfl⟩ (z_preSR hP hK hD (z_zs hZ hS)) rfl hl.1 rfl (Nat.le_of_ble_eq_true rfl) dL_law_317 ⟨hcc, hss⟩) hP hD hS hAA (fun H locs hP hD hS => ?_)
    have hP : va_P (dC, dI) vwCl (wT cL a th cn pb ta al be ga de va md pd f v inp mx el qt su pr ++ (wM cI a pb cn ta al be ga de va md pd v inp sL sR sS sT f bb w mx el qt ++ wO cL a o)) H := hP
    have hD : va_D (zA s) (wT cL a th cn pb ta al be ga de va md pd f v inp mx el qt su pr ++ (wM cI a pb cn ta al be ga de va md pd v inp sL sR sS sT f bb w mx el qt ++ wO cL a o)) := hD
    refine lv_istore F.1 F.2.1 (lv' := [(5, .int (nI 1)), (0, .ref b), (1, .ref a.x0), (2, .ref a.y0), (3, .ref a.xO), (4, .int (nI i))]) dL_law_320 hl (by decide) rfl (fun ls hl => ?_)
    refine lv_aload_n F.1 F.2.1 dL_law_322 rfl (lv_at hl 3 rfl) ?_
    refine lv_aload_n F.1 F.2.1 dL_law_323 rfl (lv_at hl 1 rfl) ?_
    refine lv_iload F.1 F.2.1 dL_law_324 (lv_at hl 5 rfl) ?_
    refine z_iconst (v := 1) F (by decide) dL_law_326 ?_
    refine z_iadd F dL_law_327 ?_
    refine z_sld F hX hbl hS hL (by omega) dL_law_328 ?_
    refine lv_aload_n F.1 F.2.1 dL_law_329 rfl (lv_at hl 1 rfl) ?_
    refine lv_iload F.1 F.2.1 dL_law_330 (lv_at hl 5 rfl) ?_
    refine z_iconst (v := 2) F (by decide) dL_law_332 ?_
    refine z_iadd F dL_law_333 ?_
    refine z_sld F hX hbl hS hL (by omega) dL_law_334 ?_
    refine z_callF (wb := wM cI a pb cn ta al be ga de va md pd v inp sL sR sS sT f bb w mx el qt ++ wO cL a o) (z_runV [.int (xs (i + 1)), .int (xs (i + 2))] [] F (ct_value_no l dC dI cI cL _ a.y0 a.yR a.yV a.yI a.yX a.yP a.yQ a.yS a.yD th cn pb ta al be ga de va md pd f v inp mx el qt su pr _ _ hq) kk_T_value wl_L_72 rfl rfl ⟨Nat.le_of_ble_eq_true rfl, Nat.le_of_ble_eq_true rfl⟩ (z_preF (q := (RT, TT, 19)) hP hK hD rfl (q0 := 0) rfl) rfl hl.1 rfl (Nat.le_of_ble_eq_true rfl) dL_law_335 ⟨hcc, hss⟩) hP hD hS hAA (fun H locs hP hD hS => ?_)
    have hP : va_P (dC, dI) vwCl (wT cL a 1 cn pb ta al be ga de va md pd f v inp mx el qt su pr ++ (wM cI a pb cn ta al be ga de va md pd v inp sL sR sS sT f bb w mx el qt ++ wO cL a o)) H := hP
    have hD : va_D (zA s) (wT cL a 1 cn pb ta al be ga de va md pd f v inp mx el qt su pr ++ (wM cI a pb cn ta al be ga de va md pd v inp sL sR sS sT f bb w mx el qt ++ wO cL a o)) := hD
    refine lv_istore F.1 F.2.1 (lv' := [(6, .int (z_b false)), (5, .int (nI 1)), (0, .ref b), (1, .ref a.x0), (2, .ref a.y0), (3, .ref a.xO), (4, .int (nI i))]) dL_law_338 hl (by decide) rfl (fun ls hl => ?_)
    refine lv_aload_n F.1 F.2.1 dL_law_340 rfl (lv_at hl 4 rfl) ?_
    refine z_call (z_runV [] [] F (ct_thrown l dC dI cI cL _ 0 a.y0 a.yR a.yV a.yI a.yX a.yP a.yQ a.yS a.yD 1 cn pb ta al be ga de va md pd rfl) kk_T_thrown wl_L_58 rfl rfl ⟨Nat.le_of_ble_eq_true rfl, Nat.le_of_ble_eq_true rfl⟩ (z_preVR (q := (RT, TT, 19)) hP hK rfl (q0 := 0) rfl) rfl hl.1 rfl (Nat.le_of_ble_eq_true rfl) dL_law_341 ⟨hcc, hss⟩) ?_
    refine lv_iload F.1 F.2.1 dL_law_344 (lv_at hl 1 rfl) ?_
    refine z_icmp_eq F (by decide) (by decide) (tgt := 351) dL_law_346 rfl (fun h => ?_) (fun h => absurd rfl h)
    refine lv_iload F.1 F.2.1 dL_law_351 (lv_at hl 1 rfl) ?_
    refine z_if_ne F (by decide) (tgt := 375) dL_law_353 rfl (fun h => ?_) (fun h => absurd h (by decide))
    refine lv_goto F.1 F.2.1 (tgt := 932) dL_law_375 rfl ?_
    have hl : lv_has ls 7 [(0, .ref b), (1, .ref a.x0), (2, .ref a.y0), (3, .ref a.xO), (4, .int (nI i))] := lv_sub hl [2, 3, 4, 5, 6] rfl
    exact kk pb cn ta al be ga de va 1 md pd v inp sL sR sS sT f bb w mx el qt su pr o ls H locs (show zok pb cn ta al be ga de va md f v inp mx el bb w sS sT su from ⟨hI.hn, hI.hpb, hI.hta, hI.hal, hI.hbe, hI.hga, hI.hde, hI.hva, hI.hf, hI.hv, hI.hinp, hI.hmx, hI.hel, hI.hbb, hI.hw, hI.hsS, hI.hsT, hI.hsu, hI.hb0, hI.hw0, hI.hf0⟩) hP hD hS hl
set_option maxHeartbeats 4000000 in
set_option maxRecDepth 100000 in
theorem lc_8 {p : Program} {l : Launch} {e : Env} {s : State} {m : MethodId} {below : List Frame} {meth : Method} {c : Code} {dC : Nat → ClassId} {dI : Nat → Nat → Nat} {cI cL : ClassId} {b L : Nat} {xs : Nat → Int32} {a : Zad} {pb : Nat} {cn : Nat} {ta : Nat} {al : Nat} {be : Nat} {ga : Nat} {de : Nat} {va : Nat} {th : Nat} {md : Bool} {pd : Bool} {v : Nat → Nat} {inp : Nat → Nat} {sL : Nat → Nat} {sR : Nat → Nat} {sS : Nat → Nat} {sT : Nat → Nat} {f : Nat → Nat} {bb : Nat → Nat} {w : Nat → Nat} {mx : Nat → Nat} {el : Nat → Nat} {qt : Nat → Nat} {su : Nat → Nat} {pr : Nat → Nat} {o : Nat → Nat} {i cells slots : Nat} {Q : State → Prop} {ls : Array Slot} {H : Heap} {locs : List Loc} (C : Zcx p l s m c dC dI cI cL b L xs) (hI : zok pb cn ta al be ga de va md f v inp mx el bb w sS sT su) (hi : i + 6 ≤ L) (hP : va_P (dC, dI) vwCl (wT cL a th cn pb ta al be ga de va md pd f v inp mx el qt su pr ++ (wM cI a pb cn ta al be ga de va md pd v inp sL sR sS sT f bb w mx el qt ++ wO cL a o)) H) (hD : va_D (zA s) (wT cL a th cn pb ta al be ga de va md pd f v inp mx el qt su pr ++ (wM cI a pb cn ta al be ga de va md pd v inp sL sR sS sT f bb w mx el qt ++ wO cL a o))) (hS : va_S (zA s) s.heap H locs) (hl : lv_has ls 7 [(0, .ref b), (1, .ref a.x0), (2, .ref a.y0), (3, .ref a.xO), (4, .int (nI i))]) (hcc : cells + 1 ≤ 1064) (hss : slots + 6 ≤ 10267) (kk : zNext p l e s m below meth c dC dI cI cL b i a (cells + 1) (slots + 6) Q 932) : W p l e room_1 s m #[Value.ref b] below meth c H locs cells slots Q (F0 m 645 ls []) := by
  obtain ⟨F, hK, hX, hbl, hL, hZ, h9⟩ := C
  have hAA : ∀ q, s.heap.size ≤ q → zA s q := fun q h => h
  have hc0 : cells ≤ 1064 := by omega
  have hs0 : slots ≤ 10267 := by omega
  by_cases hq : (b1 (xs (i + 1)) 7 && bl (xs (i + 2)) 998244353) = true
  · rw [Bool.and_eq_true] at hq
    obtain ⟨r0, hp0, hr0, e1⟩ := b1_of hq.1 (by decide)
    obtain ⟨r1, hr1, e2⟩ := bl_of hq.2 (by decide)
    refine lv_aload_n F.1 F.2.1 dL_law_645 rfl (lv_at hl 1 rfl) ?_
    refine lv_aload_n F.1 F.2.1 dL_law_646 rfl (lv_at hl 0 rfl) ?_
    refine lv_iload F.1 F.2.1 dL_law_647 (lv_at hl 4 rfl) ?_
    refine z_iconst (v := 1) F (by decide) dL_law_649 ?_
    refine z_iadd F dL_law_650 ?_
    refine z_sld F hX hbl hS hL (by omega) dL_law_651 ?_
    refine z_topI r0 (e1) ?_
    refine lv_aload_n F.1 F.2.1 dL_law_652 rfl (lv_at hl 0 rfl) ?_
    refine lv_iload F.1 F.2.1 dL_law_653 (lv_at hl 4 rfl) ?_
    refine z_iconst (v := 2) F (by decide) dL_law_655 ?_
    refine z_iadd F dL_law_656 ?_
    refine z_sld F hX hbl hS hL (by omega) dL_law_657 ?_
    refine z_topI r1 (e2) ?_
    refine lv_aload_n F.1 F.2.1 dL_law_658 rfl (lv_at hl 3 rfl) ?_
    refine z_callR (wa := wT cL a th cn pb ta al be ga de va md pd f v inp mx el qt su pr) (wc := wM cI a pb cn ta al be ga de va md pd v inp sL sR sS sT f bb w mx el qt ++ wO cL a o) (z_runSW [.ref a.x0, .int (nI r0), .int (nI r1), .ref a.xO] [] F (ww_input l dC dI cI cL _ a.x0 a.xC a.xD a.xK a.xQ a.xV a.xI a.xL a.xR a.xS a.xT a.xA a.xB a.xW a.xX a.xE a.xF pb cn ta al be ga de va md pd v inp sL sR sS sT f bb w mx el qt a.xO o r0 r1 hp0 hr0 hr1) kk_L_input wl_L_87 rfl rfl ⟨Nat.le_of_ble_eq_true rfl, Nat.le_of_ble_eq_true rfl⟩ (z_preSR hP hK hD (z_zs hZ hS)) rfl hl.1 rfl (Nat.le_of_ble_eq_true rfl) dL_law_659 ⟨hcc, hss⟩) hP hD hS hAA (fun H locs hP hD hS => ?_)
    have hP : va_P (dC, dI) vwCl (wT cL a th cn pb ta al be ga de va md pd f v inp mx el qt su pr ++ (wM cI a pb cn ta al be ga de va md pd v (va_up inp r0 r1) sL sR sS sT f bb w mx el qt ++ wO cL a (va_up o 0 1))) H := hP
    have hD : va_D (zA s) (wT cL a th cn pb ta al be ga de va md pd f v inp mx el qt su pr ++ (wM cI a pb cn ta al be ga de va md pd v (va_up inp r0 r1) sL sR sS sT f bb w mx el qt ++ wO cL a (va_up o 0 1))) := hD
    refine lv_istore F.1 F.2.1 (lv' := [(5, .int (nI 0)), (0, .ref b), (1, .ref a.x0), (2, .ref a.y0), (3, .ref a.xO), (4, .int (nI i))]) dL_law_662 hl (by decide) rfl (fun ls hl => ?_)
    refine lv_aload_n F.1 F.2.1 dL_law_664 rfl (lv_at hl 3 rfl) ?_
    refine lv_aload_n F.1 F.2.1 dL_law_665 rfl (lv_at hl 1 rfl) ?_
    refine lv_iload F.1 F.2.1 dL_law_666 (lv_at hl 5 rfl) ?_
    refine z_iconst (v := 1) F (by decide) dL_law_668 ?_
    refine z_iadd F dL_law_669 ?_
    refine z_sld F hX hbl hS hL (by omega) dL_law_670 ?_
    refine z_topI r0 (e1) ?_
    refine lv_aload_n F.1 F.2.1 dL_law_671 rfl (lv_at hl 1 rfl) ?_
    refine lv_iload F.1 F.2.1 dL_law_672 (lv_at hl 5 rfl) ?_
    refine z_iconst (v := 2) F (by decide) dL_law_674 ?_
    refine z_iadd F dL_law_675 ?_
    refine z_sld F hX hbl hS hL (by omega) dL_law_676 ?_
    refine z_topI r1 (e2) ?_
    refine z_callF (wb := wM cI a pb cn ta al be ga de va md pd v (va_up inp r0 r1) sL sR sS sT f bb w mx el qt ++ wO cL a (va_up o 0 1)) (z_runV [.int (nI r0), .int (nI r1)] [] F (ct_input l dC dI cI cL _ a.y0 a.yR a.yV a.yI a.yX a.yP a.yQ a.yS a.yD th cn pb ta al be ga de va md pd f v inp mx el qt su pr r0 r1 hp0 hr0 hr1) kk_T_input wl_L_89 rfl rfl ⟨Nat.le_of_ble_eq_true rfl, Nat.le_of_ble_eq_true rfl⟩ (z_preF (q := (RT, TT, 19)) hP hK hD rfl (q0 := 0) rfl) rfl hl.1 rfl (Nat.le_of_ble_eq_true rfl) dL_law_677 ⟨hcc, hss⟩) hP hD hS hAA (fun H locs hP hD hS => ?_)
    have hP : va_P (dC, dI) vwCl (wT cL a 0 cn pb ta al be ga de va md pd f v (va_up inp r0 r1) mx el qt su pr ++ (wM cI a pb cn ta al be ga de va md pd v (va_up inp r0 r1) sL sR sS sT f bb w mx el qt ++ wO cL a (va_up o 0 1))) H := hP
    have hD : va_D (zA s) (wT cL a 0 cn pb ta al be ga de va md pd f v (va_up inp r0 r1) mx el qt su pr ++ (wM cI a pb cn ta al be ga de va md pd v (va_up inp r0 r1) sL sR sS sT f bb w mx el qt ++ wO cL a (va_up o 0 1))) := hD
    refine lv_istore F.1 F.2.1 (lv' := [(6, .int (z_b true)), (5, .int (nI 0)), (0, .ref b), (1, .ref a.x0), (2, .ref a.y0), (3, .ref a.xO), (4, .int (nI i))]) dL_law_680 hl (by decide) rfl (fun ls hl => ?_)
    refine lv_aload_n F.1 F.2.1 dL_law_682 rfl (lv_at hl 4 rfl) ?_
    refine z_call (z_runV [] [] F (ct_thrown l dC dI cI cL _ 0 a.y0 a.yR a.yV a.yI a.yX a.yP a.yQ a.yS a.yD 0 cn pb ta al be ga de va md pd rfl) kk_T_thrown wl_L_58 rfl rfl ⟨Nat.le_of_ble_eq_true rfl, Nat.le_of_ble_eq_true rfl⟩ (z_preVR (q := (RT, TT, 19)) hP hK rfl (q0 := 0) rfl) rfl hl.1 rfl (Nat.le_of_ble_eq_true rfl) dL_law_683 ⟨hcc, hss⟩) ?_
    refine lv_iload F.1 F.2.1 dL_law_686 (lv_at hl 1 rfl) ?_
    refine z_icmp_eq F (by decide) (by decide) (tgt := 693) dL_law_688 rfl (fun h => ?_) (fun h => absurd rfl h)
    refine lv_iload F.1 F.2.1 dL_law_693 (lv_at hl 1 rfl) ?_
    refine z_if_ne F (by decide) (tgt := 717) dL_law_695 rfl (fun h => absurd rfl h) (fun h => ?_)
    refine lv_aload_n F.1 F.2.1 dL_law_698 rfl (lv_at hl 5 rfl) ?_
    refine z_iconst (v := 0) F (by decide) dL_law_699 ?_
    refine z_lald F hK hP 26 1 rfl rfl (by decide) (by decide) dL_law_700 ?_
    refine z_topL 1 (va_up_self _ _ _) ?_
    refine lv_iload F.1 F.2.1 dL_law_701 (lv_at hl 0 rfl) ?_
    refine z_ifb_eq F (tgt := 710) dL_law_703 rfl (fun h => absurd h (by decide)) (fun h => ?_)
    refine z_lconst (v := 1) F (by decide) dL_law_706 ?_
    refine lv_goto F.1 F.2.1 (tgt := 711) dL_law_707 rfl ?_
    refine z_lcmp F dL_law_711 ?_
    refine z_ifl_eq F (by decide) (by decide) (tgt := 717) dL_law_712 rfl (fun h => ?_) (fun h => absurd rfl h)
    refine lv_goto F.1 F.2.1 (tgt := 932) dL_law_717 rfl ?_
    have hl : lv_has ls 7 [(0, .ref b), (1, .ref a.x0), (2, .ref a.y0), (3, .ref a.xO), (4, .int (nI i))] := lv_sub hl [2, 3, 4, 5, 6] rfl
    exact kk pb cn ta al be ga de va 0 md pd v (va_up inp r0 r1) sL sR sS sT f bb w mx el qt su pr (va_up o 0 1) ls H locs (show zok pb cn ta al be ga de va md f v (va_up inp r0 r1) mx el bb w sS sT su from ⟨hI.hn, hI.hpb, hI.hta, hI.hal, hI.hbe, hI.hga, hI.hde, hI.hva, hI.hf, hI.hv, z_upl hI.hinp hr1, hI.hmx, hI.hel, hI.hbb, hI.hw, hI.hsS, hI.hsT, hI.hsu, hI.hb0, hI.hw0, hI.hf0⟩) hP hD hS hl
  · have hq : _ = false := Bool.eq_false_iff.mpr hq
    refine lv_aload_n F.1 F.2.1 dL_law_645 rfl (lv_at hl 1 rfl) ?_
    refine lv_aload_n F.1 F.2.1 dL_law_646 rfl (lv_at hl 0 rfl) ?_
    refine lv_iload F.1 F.2.1 dL_law_647 (lv_at hl 4 rfl) ?_
    refine z_iconst (v := 1) F (by decide) dL_law_649 ?_
    refine z_iadd F dL_law_650 ?_
    refine z_sld F hX hbl hS hL (by omega) dL_law_651 ?_
    refine lv_aload_n F.1 F.2.1 dL_law_652 rfl (lv_at hl 0 rfl) ?_
    refine lv_iload F.1 F.2.1 dL_law_653 (lv_at hl 4 rfl) ?_
    refine z_iconst (v := 2) F (by decide) dL_law_655 ?_
    refine z_iadd F dL_law_656 ?_
    refine z_sld F hX hbl hS hL (by omega) dL_law_657 ?_
    refine lv_aload_n F.1 F.2.1 dL_law_658 rfl (lv_at hl 3 rfl) ?_
    refine z_callR (wa := wT cL a th cn pb ta al be ga de va md pd f v inp mx el qt su pr) (wc := wM cI a pb cn ta al be ga de va md pd v inp sL sR sS sT f bb w mx el qt ++ wO cL a o) (z_runSW [.ref a.x0, .int (xs (i + 1)), .int (xs (i + 2)), .ref a.xO] [] F (wx_input l h9 dC dI cI cL _ a.x0 a.xC a.xD a.xK a.xQ a.xV a.xI a.xL a.xR a.xS a.xT a.xA a.xB a.xW a.xX a.xE a.xF pb cn ta al be ga de va md pd v inp sL sR sS sT f bb w mx el qt a.xO o _ _ hq) kk_L_input wl_L_87 rfl rfl ⟨Nat.le_of_ble_eq_true rfl, Nat.le_of_ble_eq_true rfl⟩ (z_preSR hP hK hD (z_zs hZ hS)) rfl hl.1 rfl (Nat.le_of_ble_eq_true rfl) dL_law_659 ⟨hcc, hss⟩) hP hD hS hAA (fun H locs hP hD hS => ?_)
    have hP : va_P (dC, dI) vwCl (wT cL a th cn pb ta al be ga de va md pd f v inp mx el qt su pr ++ (wM cI a pb cn ta al be ga de va md pd v inp sL sR sS sT f bb w mx el qt ++ wO cL a o)) H := hP
    have hD : va_D (zA s) (wT cL a th cn pb ta al be ga de va md pd f v inp mx el qt su pr ++ (wM cI a pb cn ta al be ga de va md pd v inp sL sR sS sT f bb w mx el qt ++ wO cL a o)) := hD
    refine lv_istore F.1 F.2.1 (lv' := [(5, .int (nI 1)), (0, .ref b), (1, .ref a.x0), (2, .ref a.y0), (3, .ref a.xO), (4, .int (nI i))]) dL_law_662 hl (by decide) rfl (fun ls hl => ?_)
    refine lv_aload_n F.1 F.2.1 dL_law_664 rfl (lv_at hl 3 rfl) ?_
    refine lv_aload_n F.1 F.2.1 dL_law_665 rfl (lv_at hl 1 rfl) ?_
    refine lv_iload F.1 F.2.1 dL_law_666 (lv_at hl 5 rfl) ?_
    refine z_iconst (v := 1) F (by decide) dL_law_668 ?_
    refine z_iadd F dL_law_669 ?_
    refine z_sld F hX hbl hS hL (by omega) dL_law_670 ?_
    refine lv_aload_n F.1 F.2.1 dL_law_671 rfl (lv_at hl 1 rfl) ?_
    refine lv_iload F.1 F.2.1 dL_law_672 (lv_at hl 5 rfl) ?_
    refine z_iconst (v := 2) F (by decide) dL_law_674 ?_
    refine z_iadd F dL_law_675 ?_
    refine z_sld F hX hbl hS hL (by omega) dL_law_676 ?_
    refine z_callF (wb := wM cI a pb cn ta al be ga de va md pd v inp sL sR sS sT f bb w mx el qt ++ wO cL a o) (z_runV [.int (xs (i + 1)), .int (xs (i + 2))] [] F (ct_input_no l dC dI cI cL _ a.y0 a.yR a.yV a.yI a.yX a.yP a.yQ a.yS a.yD th cn pb ta al be ga de va md pd f v inp mx el qt su pr _ _ hq) kk_T_input wl_L_89 rfl rfl ⟨Nat.le_of_ble_eq_true rfl, Nat.le_of_ble_eq_true rfl⟩ (z_preF (q := (RT, TT, 19)) hP hK hD rfl (q0 := 0) rfl) rfl hl.1 rfl (Nat.le_of_ble_eq_true rfl) dL_law_677 ⟨hcc, hss⟩) hP hD hS hAA (fun H locs hP hD hS => ?_)
    have hP : va_P (dC, dI) vwCl (wT cL a 1 cn pb ta al be ga de va md pd f v inp mx el qt su pr ++ (wM cI a pb cn ta al be ga de va md pd v inp sL sR sS sT f bb w mx el qt ++ wO cL a o)) H := hP
    have hD : va_D (zA s) (wT cL a 1 cn pb ta al be ga de va md pd f v inp mx el qt su pr ++ (wM cI a pb cn ta al be ga de va md pd v inp sL sR sS sT f bb w mx el qt ++ wO cL a o)) := hD
    refine lv_istore F.1 F.2.1 (lv' := [(6, .int (z_b false)), (5, .int (nI 1)), (0, .ref b), (1, .ref a.x0), (2, .ref a.y0), (3, .ref a.xO), (4, .int (nI i))]) dL_law_680 hl (by decide) rfl (fun ls hl => ?_)
    refine lv_aload_n F.1 F.2.1 dL_law_682 rfl (lv_at hl 4 rfl) ?_
    refine z_call (z_runV [] [] F (ct_thrown l dC dI cI cL _ 0 a.y0 a.yR a.yV a.yI a.yX a.yP a.yQ a.yS a.yD 1 cn pb ta al be ga de va md pd rfl) kk_T_thrown wl_L_58 rfl rfl ⟨Nat.le_of_ble_eq_true rfl, Nat.le_of_ble_eq_true rfl⟩ (z_preVR (q := (RT, TT, 19)) hP hK rfl (q0 := 0) rfl) rfl hl.1 rfl (Nat.le_of_ble_eq_true rfl) dL_law_683 ⟨hcc, hss⟩) ?_
    refine lv_iload F.1 F.2.1 dL_law_686 (lv_at hl 1 rfl) ?_
    refine z_icmp_eq F (by decide) (by decide) (tgt := 693) dL_law_688 rfl (fun h => ?_) (fun h => absurd rfl h)
    refine lv_iload F.1 F.2.1 dL_law_693 (lv_at hl 1 rfl) ?_
    refine z_if_ne F (by decide) (tgt := 717) dL_law_695 rfl (fun h => ?_) (fun h => absurd h (by decide))
    refine lv_goto F.1 F.2.1 (tgt := 932) dL_law_717 rfl ?_
    have hl : lv_has ls 7 [(0, .ref b), (1, .ref a.x0), (2, .ref a.y0), (3, .ref a.xO), (4, .int (nI i))] := lv_sub hl [2, 3, 4, 5, 6] rfl
    exact kk pb cn ta al be ga de va 1 md pd v inp sL sR sS sT f bb w mx el qt su pr o ls H locs (show zok pb cn ta al be ga de va md f v inp mx el bb w sS sT su from ⟨hI.hn, hI.hpb, hI.hta, hI.hal, hI.hbe, hI.hga, hI.hde, hI.hva, hI.hf, hI.hv, hI.hinp, hI.hmx, hI.hel, hI.hbb, hI.hw, hI.hsS, hI.hsT, hI.hsu, hI.hb0, hI.hw0, hI.hf0⟩) hP hD hS hl
set_option maxHeartbeats 4000000 in
set_option maxRecDepth 100000 in
theorem lc_7 {p : Program} {l : Launch} {e : Env} {s : State} {m : MethodId} {below : List Frame} {meth : Method} {c : Code} {dC : Nat → ClassId} {dI : Nat → Nat → Nat} {cI cL : ClassId} {b L : Nat} {xs : Nat → Int32} {a : Zad} {pb : Nat} {cn : Nat} {ta : Nat} {al : Nat} {be : Nat} {ga : Nat} {de : Nat} {va : Nat} {th : Nat} {md : Bool} {pd : Bool} {v : Nat → Nat} {inp : Nat → Nat} {sL : Nat → Nat} {sR : Nat → Nat} {sS : Nat → Nat} {sT : Nat → Nat} {f : Nat → Nat} {bb : Nat → Nat} {w : Nat → Nat} {mx : Nat → Nat} {el : Nat → Nat} {qt : Nat → Nat} {su : Nat → Nat} {pr : Nat → Nat} {o : Nat → Nat} {i cells slots : Nat} {Q : State → Prop} {ls : Array Slot} {H : Heap} {locs : List Loc} (C : Zcx p l s m c dC dI cI cL b L xs) (hI : zok pb cn ta al be ga de va md f v inp mx el bb w sS sT su) (hi : i + 6 ≤ L) (hP : va_P (dC, dI) vwCl (wT cL a th cn pb ta al be ga de va md pd f v inp mx el qt su pr ++ (wM cI a pb cn ta al be ga de va md pd v inp sL sR sS sT f bb w mx el qt ++ wO cL a o)) H) (hD : va_D (zA s) (wT cL a th cn pb ta al be ga de va md pd f v inp mx el qt su pr ++ (wM cI a pb cn ta al be ga de va md pd v inp sL sR sS sT f bb w mx el qt ++ wO cL a o))) (hS : va_S (zA s) s.heap H locs) (hl : lv_has ls 7 [(0, .ref b), (1, .ref a.x0), (2, .ref a.y0), (3, .ref a.xO), (4, .int (nI i))]) (hcc : cells + 1 ≤ 1064) (hss : slots + 6 ≤ 10267) (kk : zNext p l e s m below meth c dC dI cI cL b i a (cells + 1) (slots + 6) Q 932) : W p l e room_1 s m #[Value.ref b] below meth c H locs cells slots Q (F0 m 570 ls []) := by
  obtain ⟨F, hK, hX, hbl, hL, hZ, h9⟩ := C
  have hAA : ∀ q, s.heap.size ≤ q → zA s q := fun q h => h
  have hc0 : cells ≤ 1064 := by omega
  have hs0 : slots ≤ 10267 := by omega
  by_cases hq : (bl (xs (i + 1)) 3 && bl (xs (i + 2)) 998244353) = true
  · rw [Bool.and_eq_true] at hq
    obtain ⟨r0, hr0, e1⟩ := bl_of hq.1 (by decide)
    obtain ⟨r1, hr1, e2⟩ := bl_of hq.2 (by decide)
    by_cases hpd : pd = true
    · refine lv_aload_n F.1 F.2.1 dL_law_570 rfl (lv_at hl 1 rfl) ?_
      refine lv_aload_n F.1 F.2.1 dL_law_571 rfl (lv_at hl 0 rfl) ?_
      refine lv_iload F.1 F.2.1 dL_law_572 (lv_at hl 4 rfl) ?_
      refine z_iconst (v := 1) F (by decide) dL_law_574 ?_
      refine z_iadd F dL_law_575 ?_
      refine z_sld F hX hbl hS hL (by omega) dL_law_576 ?_
      refine z_topI r0 (e1) ?_
      refine lv_aload_n F.1 F.2.1 dL_law_577 rfl (lv_at hl 0 rfl) ?_
      refine lv_iload F.1 F.2.1 dL_law_578 (lv_at hl 4 rfl) ?_
      refine z_iconst (v := 2) F (by decide) dL_law_580 ?_
      refine z_iadd F dL_law_581 ?_
      refine z_sld F hX hbl hS hL (by omega) dL_law_582 ?_
      refine z_topI r1 (e2) ?_
      refine lv_aload_n F.1 F.2.1 dL_law_583 rfl (lv_at hl 3 rfl) ?_
      refine z_callR (wa := wT cL a th cn pb ta al be ga de va md pd f v inp mx el qt su pr) (wc := wM cI a pb cn ta al be ga de va md pd v inp sL sR sS sT f bb w mx el qt ++ wO cL a o) (z_runSW [.ref a.x0, .int (nI r0), .int (nI r1), .ref a.xO] [] F (ww_alter l dC dI cI cL _ a.x0 a.xC a.xD a.xK a.xQ a.xV a.xI a.xL a.xR a.xS a.xT a.xA a.xB a.xW a.xX a.xE a.xF pb cn ta al be ga de va md pd v inp sL sR sS sT f bb w mx el qt a.xO o r0 r1 hr0 hr1 hpd) kk_L_alter wl_L_84 rfl rfl ⟨Nat.le_of_ble_eq_true rfl, Nat.le_of_ble_eq_true rfl⟩ (z_preSR hP hK hD (z_zs hZ hS)) rfl hl.1 rfl (Nat.le_of_ble_eq_true rfl) dL_law_584 ⟨hcc, hss⟩) hP hD hS hAA (fun H locs hP hD hS => ?_)
      have hP : va_P (dC, dI) vwCl (wT cL a th cn pb ta al be ga de va md pd f v inp mx el qt su pr ++ (wM cI a pb cn ta al be ga de va md pd v inp sL sR sS sT f bb w mx (va_up el r0 r1) qt ++ wO cL a (va_up o 0 1))) H := hP
      have hD : va_D (zA s) (wT cL a th cn pb ta al be ga de va md pd f v inp mx el qt su pr ++ (wM cI a pb cn ta al be ga de va md pd v inp sL sR sS sT f bb w mx (va_up el r0 r1) qt ++ wO cL a (va_up o 0 1))) := hD
      refine lv_istore F.1 F.2.1 (lv' := [(5, .int (nI 0)), (0, .ref b), (1, .ref a.x0), (2, .ref a.y0), (3, .ref a.xO), (4, .int (nI i))]) dL_law_587 hl (by decide) rfl (fun ls hl => ?_)
      refine lv_aload_n F.1 F.2.1 dL_law_589 rfl (lv_at hl 3 rfl) ?_
      refine lv_aload_n F.1 F.2.1 dL_law_590 rfl (lv_at hl 1 rfl) ?_
      refine lv_iload F.1 F.2.1 dL_law_591 (lv_at hl 5 rfl) ?_
      refine z_iconst (v := 1) F (by decide) dL_law_593 ?_
      refine z_iadd F dL_law_594 ?_
      refine z_sld F hX hbl hS hL (by omega) dL_law_595 ?_
      refine z_topI r0 (e1) ?_
      refine lv_aload_n F.1 F.2.1 dL_law_596 rfl (lv_at hl 1 rfl) ?_
      refine lv_iload F.1 F.2.1 dL_law_597 (lv_at hl 5 rfl) ?_
      refine z_iconst (v := 2) F (by decide) dL_law_599 ?_
      refine z_iadd F dL_law_600 ?_
      refine z_sld F hX hbl hS hL (by omega) dL_law_601 ?_
      refine z_topI r1 (e2) ?_
      refine z_callF (wb := wM cI a pb cn ta al be ga de va md pd v inp sL sR sS sT f bb w mx (va_up el r0 r1) qt ++ wO cL a (va_up o 0 1)) (z_runV [.int (nI r0), .int (nI r1)] [] F (ct_alter l dC dI cI cL _ a.y0 a.yR a.yV a.yI a.yX a.yP a.yQ a.yS a.yD th cn pb ta al be ga de va md pd f v inp mx el qt su pr r0 r1 hr0 hr1 hpd) kk_T_alter wl_L_86 rfl rfl ⟨Nat.le_of_ble_eq_true rfl, Nat.le_of_ble_eq_true rfl⟩ (z_preF (q := (RT, TT, 19)) hP hK hD rfl (q0 := 0) rfl) rfl hl.1 rfl (Nat.le_of_ble_eq_true rfl) dL_law_602 ⟨hcc, hss⟩) hP hD hS hAA (fun H locs hP hD hS => ?_)
      have hP : va_P (dC, dI) vwCl (wT cL a 0 cn pb ta al be ga de va md pd f v inp mx (va_up el r0 r1) qt su pr ++ (wM cI a pb cn ta al be ga de va md pd v inp sL sR sS sT f bb w mx (va_up el r0 r1) qt ++ wO cL a (va_up o 0 1))) H := hP
      have hD : va_D (zA s) (wT cL a 0 cn pb ta al be ga de va md pd f v inp mx (va_up el r0 r1) qt su pr ++ (wM cI a pb cn ta al be ga de va md pd v inp sL sR sS sT f bb w mx (va_up el r0 r1) qt ++ wO cL a (va_up o 0 1))) := hD
      refine lv_istore F.1 F.2.1 (lv' := [(6, .int (z_b true)), (5, .int (nI 0)), (0, .ref b), (1, .ref a.x0), (2, .ref a.y0), (3, .ref a.xO), (4, .int (nI i))]) dL_law_605 hl (by decide) rfl (fun ls hl => ?_)
      refine lv_aload_n F.1 F.2.1 dL_law_607 rfl (lv_at hl 4 rfl) ?_
      refine z_call (z_runV [] [] F (ct_thrown l dC dI cI cL _ 0 a.y0 a.yR a.yV a.yI a.yX a.yP a.yQ a.yS a.yD 0 cn pb ta al be ga de va md pd rfl) kk_T_thrown wl_L_58 rfl rfl ⟨Nat.le_of_ble_eq_true rfl, Nat.le_of_ble_eq_true rfl⟩ (z_preVR (q := (RT, TT, 19)) hP hK rfl (q0 := 0) rfl) rfl hl.1 rfl (Nat.le_of_ble_eq_true rfl) dL_law_608 ⟨hcc, hss⟩) ?_
      refine lv_iload F.1 F.2.1 dL_law_611 (lv_at hl 1 rfl) ?_
      refine z_icmp_eq F (by decide) (by decide) (tgt := 618) dL_law_613 rfl (fun h => ?_) (fun h => absurd rfl h)
      refine lv_iload F.1 F.2.1 dL_law_618 (lv_at hl 1 rfl) ?_
      refine z_if_ne F (by decide) (tgt := 642) dL_law_620 rfl (fun h => absurd rfl h) (fun h => ?_)
      refine lv_aload_n F.1 F.2.1 dL_law_623 rfl (lv_at hl 5 rfl) ?_
      refine z_iconst (v := 0) F (by decide) dL_law_624 ?_
      refine z_lald F hK hP 26 1 rfl rfl (by decide) (by decide) dL_law_625 ?_
      refine z_topL 1 (va_up_self _ _ _) ?_
      refine lv_iload F.1 F.2.1 dL_law_626 (lv_at hl 0 rfl) ?_
      refine z_ifb_eq F (tgt := 635) dL_law_628 rfl (fun h => absurd h (by decide)) (fun h => ?_)
      refine z_lconst (v := 1) F (by decide) dL_law_631 ?_
      refine lv_goto F.1 F.2.1 (tgt := 636) dL_law_632 rfl ?_
      refine z_lcmp F dL_law_636 ?_
      refine z_ifl_eq F (by decide) (by decide) (tgt := 642) dL_law_637 rfl (fun h => ?_) (fun h => absurd rfl h)
      refine lv_goto F.1 F.2.1 (tgt := 932) dL_law_642 rfl ?_
      have hl : lv_has ls 7 [(0, .ref b), (1, .ref a.x0), (2, .ref a.y0), (3, .ref a.xO), (4, .int (nI i))] := lv_sub hl [2, 3, 4, 5, 6] rfl
      exact kk pb cn ta al be ga de va 0 md pd v inp sL sR sS sT f bb w mx (va_up el r0 r1) qt su pr (va_up o 0 1) ls H locs (show zok pb cn ta al be ga de va md f v inp mx (va_up el r0 r1) bb w sS sT su from ⟨hI.hn, hI.hpb, hI.hta, hI.hal, hI.hbe, hI.hga, hI.hde, hI.hva, hI.hf, hI.hv, hI.hinp, hI.hmx, z_upl hI.hel hr1, hI.hbb, hI.hw, hI.hsS, hI.hsT, hI.hsu, hI.hb0, hI.hw0, hI.hf0⟩) hP hD hS hl
    · have hpd : pd = false := Bool.eq_false_iff.mpr hpd
      refine lv_aload_n F.1 F.2.1 dL_law_570 rfl (lv_at hl 1 rfl) ?_
      refine lv_aload_n F.1 F.2.1 dL_law_571 rfl (lv_at hl 0 rfl) ?_
      refine lv_iload F.1 F.2.1 dL_law_572 (lv_at hl 4 rfl) ?_
      refine z_iconst (v := 1) F (by decide) dL_law_574 ?_
      refine z_iadd F dL_law_575 ?_
      refine z_sld F hX hbl hS hL (by omega) dL_law_576 ?_
      refine z_topI r0 (e1) ?_
      refine lv_aload_n F.1 F.2.1 dL_law_577 rfl (lv_at hl 0 rfl) ?_
      refine lv_iload F.1 F.2.1 dL_law_578 (lv_at hl 4 rfl) ?_
      refine z_iconst (v := 2) F (by decide) dL_law_580 ?_
      refine z_iadd F dL_law_581 ?_
      refine z_sld F hX hbl hS hL (by omega) dL_law_582 ?_
      refine z_topI r1 (e2) ?_
      refine lv_aload_n F.1 F.2.1 dL_law_583 rfl (lv_at hl 3 rfl) ?_
      refine z_callR (wa := wT cL a th cn pb ta al be ga de va md pd f v inp mx el qt su pr) (wc := wM cI a pb cn ta al be ga de va md pd v inp sL sR sS sT f bb w mx el qt ++ wO cL a o) (z_runSW [.ref a.x0, .int (nI r0), .int (nI r1), .ref a.xO] [] F (wx_alter_np l h9 dC dI cI cL _ a.x0 a.xC a.xD a.xK a.xQ a.xV a.xI a.xL a.xR a.xS a.xT a.xA a.xB a.xW a.xX a.xE a.xF pb cn ta al be ga de va md pd v inp sL sR sS sT f bb w mx el qt a.xO o r0 r1 hr0 hr1 hpd) kk_L_alter wl_L_84 rfl rfl ⟨Nat.le_of_ble_eq_true rfl, Nat.le_of_ble_eq_true rfl⟩ (z_preSR hP hK hD (z_zs hZ hS)) rfl hl.1 rfl (Nat.le_of_ble_eq_true rfl) dL_law_584 ⟨hcc, hss⟩) hP hD hS hAA (fun H locs hP hD hS => ?_)
      have hP : va_P (dC, dI) vwCl (wT cL a th cn pb ta al be ga de va md pd f v inp mx el qt su pr ++ (wM cI a pb cn ta al be ga de va md pd v inp sL sR sS sT f bb w mx el qt ++ wO cL a o)) H := hP
      have hD : va_D (zA s) (wT cL a th cn pb ta al be ga de va md pd f v inp mx el qt su pr ++ (wM cI a pb cn ta al be ga de va md pd v inp sL sR sS sT f bb w mx el qt ++ wO cL a o)) := hD
      refine lv_istore F.1 F.2.1 (lv' := [(5, .int (nI 2)), (0, .ref b), (1, .ref a.x0), (2, .ref a.y0), (3, .ref a.xO), (4, .int (nI i))]) dL_law_587 hl (by decide) rfl (fun ls hl => ?_)
      refine lv_aload_n F.1 F.2.1 dL_law_589 rfl (lv_at hl 3 rfl) ?_
      refine lv_aload_n F.1 F.2.1 dL_law_590 rfl (lv_at hl 1 rfl) ?_
      refine lv_iload F.1 F.2.1 dL_law_591 (lv_at hl 5 rfl) ?_
      refine z_iconst (v := 1) F (by decide) dL_law_593 ?_
      refine z_iadd F dL_law_594 ?_
      refine z_sld F hX hbl hS hL (by omega) dL_law_595 ?_
      refine z_topI r0 (e1) ?_
      refine lv_aload_n F.1 F.2.1 dL_law_596 rfl (lv_at hl 1 rfl) ?_
      refine lv_iload F.1 F.2.1 dL_law_597 (lv_at hl 5 rfl) ?_
      refine z_iconst (v := 2) F (by decide) dL_law_599 ?_
      refine z_iadd F dL_law_600 ?_
      refine z_sld F hX hbl hS hL (by omega) dL_law_601 ?_
      refine z_topI r1 (e2) ?_
      refine z_callF (wb := wM cI a pb cn ta al be ga de va md pd v inp sL sR sS sT f bb w mx el qt ++ wO cL a o) (z_runV [.int (nI r0), .int (nI r1)] [] F (ct_alter_np l dC dI cI cL _ a.y0 a.yR a.yV a.yI a.yX a.yP a.yQ a.yS a.yD th cn pb ta al be ga de va md pd f v inp mx el qt su pr r0 r1 hr0 hr1 hpd) kk_T_alter wl_L_86 rfl rfl ⟨Nat.le_of_ble_eq_true rfl, Nat.le_of_ble_eq_true rfl⟩ (z_preF (q := (RT, TT, 19)) hP hK hD rfl (q0 := 0) rfl) rfl hl.1 rfl (Nat.le_of_ble_eq_true rfl) dL_law_602 ⟨hcc, hss⟩) hP hD hS hAA (fun H locs hP hD hS => ?_)
      have hP : va_P (dC, dI) vwCl (wT cL a 2 cn pb ta al be ga de va md pd f v inp mx el qt su pr ++ (wM cI a pb cn ta al be ga de va md pd v inp sL sR sS sT f bb w mx el qt ++ wO cL a o)) H := hP
      have hD : va_D (zA s) (wT cL a 2 cn pb ta al be ga de va md pd f v inp mx el qt su pr ++ (wM cI a pb cn ta al be ga de va md pd v inp sL sR sS sT f bb w mx el qt ++ wO cL a o)) := hD
      refine lv_istore F.1 F.2.1 (lv' := [(6, .int (z_b false)), (5, .int (nI 2)), (0, .ref b), (1, .ref a.x0), (2, .ref a.y0), (3, .ref a.xO), (4, .int (nI i))]) dL_law_605 hl (by decide) rfl (fun ls hl => ?_)
      refine lv_aload_n F.1 F.2.1 dL_law_607 rfl (lv_at hl 4 rfl) ?_
      refine z_call (z_runV [] [] F (ct_thrown l dC dI cI cL _ 0 a.y0 a.yR a.yV a.yI a.yX a.yP a.yQ a.yS a.yD 2 cn pb ta al be ga de va md pd rfl) kk_T_thrown wl_L_58 rfl rfl ⟨Nat.le_of_ble_eq_true rfl, Nat.le_of_ble_eq_true rfl⟩ (z_preVR (q := (RT, TT, 19)) hP hK rfl (q0 := 0) rfl) rfl hl.1 rfl (Nat.le_of_ble_eq_true rfl) dL_law_608 ⟨hcc, hss⟩) ?_
      refine lv_iload F.1 F.2.1 dL_law_611 (lv_at hl 1 rfl) ?_
      refine z_icmp_eq F (by decide) (by decide) (tgt := 618) dL_law_613 rfl (fun h => ?_) (fun h => absurd rfl h)
      refine lv_iload F.1 F.2.1 dL_law_618 (lv_at hl 1 rfl) ?_
      refine z_if_ne F (by decide) (tgt := 642) dL_law_620 rfl (fun h => ?_) (fun h => absurd h (by decide))
      refine lv_goto F.1 F.2.1 (tgt := 932) dL_law_642 rfl ?_
      have hl : lv_has ls 7 [(0, .ref b), (1, .ref a.x0), (2, .ref a.y0), (3, .ref a.xO), (4, .int (nI i))] := lv_sub hl [2, 3, 4, 5, 6] rfl
      exact kk pb cn ta al be ga de va 2 md pd v inp sL sR sS sT f bb w mx el qt su pr o ls H locs (show zok pb cn ta al be ga de va md f v inp mx el bb w sS sT su from ⟨hI.hn, hI.hpb, hI.hta, hI.hal, hI.hbe, hI.hga, hI.hde, hI.hva, hI.hf, hI.hv, hI.hinp, hI.hmx, hI.hel, hI.hbb, hI.hw, hI.hsS, hI.hsT, hI.hsu, hI.hb0, hI.hw0, hI.hf0⟩) hP hD hS hl
  · have hq : _ = false := Bool.eq_false_iff.mpr hq
    refine lv_aload_n F.1 F.2.1 dL_law_570 rfl (lv_at hl 1 rfl) ?_
    refine lv_aload_n F.1 F.2.1 dL_law_571 rfl (lv_at hl 0 rfl) ?_
    refine lv_iload F.1 F.2.1 dL_law_572 (lv_at hl 4 rfl) ?_
    refine z_iconst (v := 1) F (by decide) dL_law_574 ?_
    refine z_iadd F dL_law_575 ?_
    refine z_sld F hX hbl hS hL (by omega) dL_law_576 ?_
    refine lv_aload_n F.1 F.2.1 dL_law_577 rfl (lv_at hl 0 rfl) ?_
    refine lv_iload F.1 F.2.1 dL_law_578 (lv_at hl 4 rfl) ?_
    refine z_iconst (v := 2) F (by decide) dL_law_580 ?_
    refine z_iadd F dL_law_581 ?_
    refine z_sld F hX hbl hS hL (by omega) dL_law_582 ?_
    refine lv_aload_n F.1 F.2.1 dL_law_583 rfl (lv_at hl 3 rfl) ?_
    refine z_callR (wa := wT cL a th cn pb ta al be ga de va md pd f v inp mx el qt su pr) (wc := wM cI a pb cn ta al be ga de va md pd v inp sL sR sS sT f bb w mx el qt ++ wO cL a o) (z_runSW [.ref a.x0, .int (xs (i + 1)), .int (xs (i + 2)), .ref a.xO] [] F (wx_alter l h9 dC dI cI cL _ a.x0 a.xC a.xD a.xK a.xQ a.xV a.xI a.xL a.xR a.xS a.xT a.xA a.xB a.xW a.xX a.xE a.xF pb cn ta al be ga de va md pd v inp sL sR sS sT f bb w mx el qt a.xO o _ _ hq) kk_L_alter wl_L_84 rfl rfl ⟨Nat.le_of_ble_eq_true rfl, Nat.le_of_ble_eq_true rfl⟩ (z_preSR hP hK hD (z_zs hZ hS)) rfl hl.1 rfl (Nat.le_of_ble_eq_true rfl) dL_law_584 ⟨hcc, hss⟩) hP hD hS hAA (fun H locs hP hD hS => ?_)
    have hP : va_P (dC, dI) vwCl (wT cL a th cn pb ta al be ga de va md pd f v inp mx el qt su pr ++ (wM cI a pb cn ta al be ga de va md pd v inp sL sR sS sT f bb w mx el qt ++ wO cL a o)) H := hP
    have hD : va_D (zA s) (wT cL a th cn pb ta al be ga de va md pd f v inp mx el qt su pr ++ (wM cI a pb cn ta al be ga de va md pd v inp sL sR sS sT f bb w mx el qt ++ wO cL a o)) := hD
    refine lv_istore F.1 F.2.1 (lv' := [(5, .int (nI 1)), (0, .ref b), (1, .ref a.x0), (2, .ref a.y0), (3, .ref a.xO), (4, .int (nI i))]) dL_law_587 hl (by decide) rfl (fun ls hl => ?_)
    refine lv_aload_n F.1 F.2.1 dL_law_589 rfl (lv_at hl 3 rfl) ?_
    refine lv_aload_n F.1 F.2.1 dL_law_590 rfl (lv_at hl 1 rfl) ?_
    refine lv_iload F.1 F.2.1 dL_law_591 (lv_at hl 5 rfl) ?_
    refine z_iconst (v := 1) F (by decide) dL_law_593 ?_
    refine z_iadd F dL_law_594 ?_
    refine z_sld F hX hbl hS hL (by omega) dL_law_595 ?_
    refine lv_aload_n F.1 F.2.1 dL_law_596 rfl (lv_at hl 1 rfl) ?_
    refine lv_iload F.1 F.2.1 dL_law_597 (lv_at hl 5 rfl) ?_
    refine z_iconst (v := 2) F (by decide) dL_law_599 ?_
    refine z_iadd F dL_law_600 ?_
    refine z_sld F hX hbl hS hL (by omega) dL_law_601 ?_
    refine z_callF (wb := wM cI a pb cn ta al be ga de va md pd v inp sL sR sS sT f bb w mx el qt ++ wO cL a o) (z_runV [.int (xs (i + 1)), .int (xs (i + 2))] [] F (ct_alter_no l dC dI cI cL _ a.y0 a.yR a.yV a.yI a.yX a.yP a.yQ a.yS a.yD th cn pb ta al be ga de va md pd f v inp mx el qt su pr _ _ hq) kk_T_alter wl_L_86 rfl rfl ⟨Nat.le_of_ble_eq_true rfl, Nat.le_of_ble_eq_true rfl⟩ (z_preF (q := (RT, TT, 19)) hP hK hD rfl (q0 := 0) rfl) rfl hl.1 rfl (Nat.le_of_ble_eq_true rfl) dL_law_602 ⟨hcc, hss⟩) hP hD hS hAA (fun H locs hP hD hS => ?_)
    have hP : va_P (dC, dI) vwCl (wT cL a 1 cn pb ta al be ga de va md pd f v inp mx el qt su pr ++ (wM cI a pb cn ta al be ga de va md pd v inp sL sR sS sT f bb w mx el qt ++ wO cL a o)) H := hP
    have hD : va_D (zA s) (wT cL a 1 cn pb ta al be ga de va md pd f v inp mx el qt su pr ++ (wM cI a pb cn ta al be ga de va md pd v inp sL sR sS sT f bb w mx el qt ++ wO cL a o)) := hD
    refine lv_istore F.1 F.2.1 (lv' := [(6, .int (z_b false)), (5, .int (nI 1)), (0, .ref b), (1, .ref a.x0), (2, .ref a.y0), (3, .ref a.xO), (4, .int (nI i))]) dL_law_605 hl (by decide) rfl (fun ls hl => ?_)
    refine lv_aload_n F.1 F.2.1 dL_law_607 rfl (lv_at hl 4 rfl) ?_
    refine z_call (z_runV [] [] F (ct_thrown l dC dI cI cL _ 0 a.y0 a.yR a.yV a.yI a.yX a.yP a.yQ a.yS a.yD 1 cn pb ta al be ga de va md pd rfl) kk_T_thrown wl_L_58 rfl rfl ⟨Nat.le_of_ble_eq_true rfl, Nat.le_of_ble_eq_true rfl⟩ (z_preVR (q := (RT, TT, 19)) hP hK rfl (q0 := 0) rfl) rfl hl.1 rfl (Nat.le_of_ble_eq_true rfl) dL_law_608 ⟨hcc, hss⟩) ?_
    refine lv_iload F.1 F.2.1 dL_law_611 (lv_at hl 1 rfl) ?_
    refine z_icmp_eq F (by decide) (by decide) (tgt := 618) dL_law_613 rfl (fun h => ?_) (fun h => absurd rfl h)
    refine lv_iload F.1 F.2.1 dL_law_618 (lv_at hl 1 rfl) ?_
    refine z_if_ne F (by decide) (tgt := 642) dL_law_620 rfl (fun h => ?_) (fun h => absurd h (by decide))
    refine lv_goto F.1 F.2.1 (tgt := 932) dL_law_642 rfl ?_
    have hl : lv_has ls 7 [(0, .ref b), (1, .ref a.x0), (2, .ref a.y0), (3, .ref a.xO), (4, .int (nI i))] := lv_sub hl [2, 3, 4, 5, 6] rfl
    exact kk pb cn ta al be ga de va 1 md pd v inp sL sR sS sT f bb w mx el qt su pr o ls H locs (show zok pb cn ta al be ga de va md f v inp mx el bb w sS sT su from ⟨hI.hn, hI.hpb, hI.hta, hI.hal, hI.hbe, hI.hga, hI.hde, hI.hva, hI.hf, hI.hv, hI.hinp, hI.hmx, hI.hel, hI.hbb, hI.hw, hI.hsS, hI.hsT, hI.hsu, hI.hb0, hI.hw0, hI.hf0⟩) hP hD hS hl
set_option maxHeartbeats 4000000 in
set_option maxRecDepth 100000 in
theorem lc_4 {p : Program} {l : Launch} {e : Env} {s : State} {m : MethodId} {below : List Frame} {meth : Method} {c : Code} {dC : Nat → ClassId} {dI : Nat → Nat → Nat} {cI cL : ClassId} {b L : Nat} {xs : Nat → Int32} {a : Zad} {pb : Nat} {cn : Nat} {ta : Nat} {al : Nat} {be : Nat} {ga : Nat} {de : Nat} {va : Nat} {th : Nat} {md : Bool} {pd : Bool} {v : Nat → Nat} {inp : Nat → Nat} {sL : Nat → Nat} {sR : Nat → Nat} {sS : Nat → Nat} {sT : Nat → Nat} {f : Nat → Nat} {bb : Nat → Nat} {w : Nat → Nat} {mx : Nat → Nat} {el : Nat → Nat} {qt : Nat → Nat} {su : Nat → Nat} {pr : Nat → Nat} {o : Nat → Nat} {i cells slots : Nat} {Q : State → Prop} {ls : Array Slot} {H : Heap} {locs : List Loc} (C : Zcx p l s m c dC dI cI cL b L xs) (hI : zok pb cn ta al be ga de va md f v inp mx el bb w sS sT su) (hi : i + 6 ≤ L) (hP : va_P (dC, dI) vwCl (wT cL a th cn pb ta al be ga de va md pd f v inp mx el qt su pr ++ (wM cI a pb cn ta al be ga de va md pd v inp sL sR sS sT f bb w mx el qt ++ wO cL a o)) H) (hD : va_D (zA s) (wT cL a th cn pb ta al be ga de va md pd f v inp mx el qt su pr ++ (wM cI a pb cn ta al be ga de va md pd v inp sL sR sS sT f bb w mx el qt ++ wO cL a o))) (hS : va_S (zA s) s.heap H locs) (hl : lv_has ls 7 [(0, .ref b), (1, .ref a.x0), (2, .ref a.y0), (3, .ref a.xO), (4, .int (nI i))]) (hcc : cells + 1 ≤ 1064) (hss : slots + 6 ≤ 10267) (kk : zNext p l e s m below meth c dC dI cI cL b i a (cells + 1) (slots + 6) Q 932) : W p l e room_1 s m #[Value.ref b] below meth c H locs cells slots Q (F0 m 378 ls []) := by
  obtain ⟨F, hK, hX, hbl, hL, hZ, h9⟩ := C
  have hAA : ∀ q, s.heap.size ≤ q → zA s q := fun q h => h
  have hc0 : cells ≤ 1064 := by omega
  have hs0 : slots ≤ 10267 := by omega
  refine lv_aload_n F.1 F.2.1 dL_law_378 rfl (lv_at hl 1 rfl) ?_
  refine z_call (z_runV [] [] F (cm_open l dC dI cI cL a.x0 a.xC a.xD a.xK a.xQ a.xV a.xI a.xL a.xR a.xS a.xT a.xA a.xB a.xW a.xX a.xE a.xF pb cn ta al be ga de va md pd v inp sL sR sS sT f bb w mx el qt hI.hf hI.hv hI.hn) kk_M_open wl_L_73 rfl rfl ⟨Nat.le_of_ble_eq_true rfl, Nat.le_of_ble_eq_true rfl⟩ (z_preMR (wa := wT cL a th cn pb ta al be ga de va md pd f v inp mx el qt su pr) (wc := wM cI a pb cn ta al be ga de va md pd v inp sL sR sS sT f bb w mx el qt) (wb := wO cL a o) (q := (RM, TM, 11)) hP hK rfl (q0 := 0) rfl) rfl hl.1 rfl (Nat.le_of_ble_eq_true rfl) dL_law_379 ⟨hc0, hs0⟩) ?_
  refine lv_aload_n F.1 F.2.1 dL_law_382 rfl (lv_at hl 2 rfl) ?_
  refine z_callF (wb := wM cI a pb cn ta al be ga de va md pd v inp sL sR sS sT f bb w mx el qt ++ wO cL a o) (z_runV [] [.int (fo (bad f v) 0 cn)] F (ct_open l dC dI cI cL _ a.y0 a.yR a.yV a.yI a.yX a.yP a.yQ a.yS a.yD th cn pb ta al be ga de va md pd f v inp mx el qt su pr hI.hf hI.hv hI.hn) kk_T_open wl_L_76 rfl rfl ⟨Nat.le_of_ble_eq_true rfl, Nat.le_of_ble_eq_true rfl⟩ (z_preF (q := (RT, TT, 19)) hP hK hD rfl (q0 := 0) rfl) rfl hl.1 rfl (Nat.le_of_ble_eq_true rfl) dL_law_383 ⟨hc0, hs0⟩) hP hD hS hAA (fun H locs hP hD hS => ?_)
  have hP : va_P (dC, dI) vwCl (wT cL a 0 cn pb ta al be ga de va md pd f v inp mx el qt su pr ++ (wM cI a pb cn ta al be ga de va md pd v inp sL sR sS sT f bb w mx el qt ++ wO cL a o)) H := hP
  have hD : va_D (zA s) (wT cL a 0 cn pb ta al be ga de va md pd f v inp mx el qt su pr ++ (wM cI a pb cn ta al be ga de va md pd v inp sL sR sS sT f bb w mx el qt ++ wO cL a o)) := hD
  refine lv_icmp_eq F.1 F.2.1 (tgt := 932) dL_law_386 rfl (fun h => ?_) (fun h => absurd rfl h)
  refine z_more (cells + 1) (slots + 6) (Nat.le_succ _) (Nat.le_add_right _ _) ?_
  have hl : lv_has ls 7 [(0, .ref b), (1, .ref a.x0), (2, .ref a.y0), (3, .ref a.xO), (4, .int (nI i))] := lv_sub hl [0, 1, 2, 3, 4] rfl
  exact kk pb cn ta al be ga de va 0 md pd v inp sL sR sS sT f bb w mx el qt su pr o ls H locs (show zok pb cn ta al be ga de va md f v inp mx el bb w sS sT su from ⟨hI.hn, hI.hpb, hI.hta, hI.hal, hI.hbe, hI.hga, hI.hde, hI.hva, hI.hf, hI.hv, hI.hinp, hI.hmx, hI.hel, hI.hbb, hI.hw, hI.hsS, hI.hsT, hI.hsu, hI.hb0, hI.hw0, hI.hf0⟩) hP hD hS hl
set_option maxHeartbeats 4000000 in
set_option maxRecDepth 100000 in
theorem lc_10 {p : Program} {l : Launch} {e : Env} {s : State} {m : MethodId} {below : List Frame} {meth : Method} {c : Code} {dC : Nat → ClassId} {dI : Nat → Nat → Nat} {cI cL : ClassId} {b L : Nat} {xs : Nat → Int32} {a : Zad} {pb : Nat} {cn : Nat} {ta : Nat} {al : Nat} {be : Nat} {ga : Nat} {de : Nat} {va : Nat} {th : Nat} {md : Bool} {pd : Bool} {v : Nat → Nat} {inp : Nat → Nat} {sL : Nat → Nat} {sR : Nat → Nat} {sS : Nat → Nat} {sT : Nat → Nat} {f : Nat → Nat} {bb : Nat → Nat} {w : Nat → Nat} {mx : Nat → Nat} {el : Nat → Nat} {qt : Nat → Nat} {su : Nat → Nat} {pr : Nat → Nat} {o : Nat → Nat} {i cells slots : Nat} {Q : State → Prop} {ls : Array Slot} {H : Heap} {locs : List Loc} (C : Zcx p l s m c dC dI cI cL b L xs) (hI : zok pb cn ta al be ga de va md f v inp mx el bb w sS sT su) (hi : i + 6 ≤ L) (hP : va_P (dC, dI) vwCl (wT cL a th cn pb ta al be ga de va md pd f v inp mx el qt su pr ++ (wM cI a pb cn ta al be ga de va md pd v inp sL sR sS sT f bb w mx el qt ++ wO cL a o)) H) (hD : va_D (zA s) (wT cL a th cn pb ta al be ga de va md pd f v inp mx el qt su pr ++ (wM cI a pb cn ta al be ga de va md pd v inp sL sR sS sT f bb w mx el qt ++ wO cL a o))) (hS : va_S (zA s) s.heap H locs) (hl : lv_has ls 7 [(0, .ref b), (1, .ref a.x0), (2, .ref a.y0), (3, .ref a.xO), (4, .int (nI i))]) (hcc : cells + 1 ≤ 1064) (hss : slots + 6 ≤ 10267) (kk : zNext p l e s m below meth c dC dI cI cL b i a (cells + 1) (slots + 6) Q 932) : W p l e room_1 s m #[Value.ref b] below meth c H locs cells slots Q (F0 m 771 ls []) := by
  obtain ⟨F, hK, hX, hbl, hL, hZ, h9⟩ := C
  have hAA : ∀ q, s.heap.size ≤ q → zA s q := fun q h => h
  have hc0 : cells ≤ 1064 := by omega
  have hs0 : slots ≤ 10267 := by omega
  refine lv_aload_n F.1 F.2.1 dL_law_771 rfl (lv_at hl 1 rfl) ?_
  refine lv_aload_n F.1 F.2.1 dL_law_772 rfl (lv_at hl 0 rfl) ?_
  refine lv_iload F.1 F.2.1 dL_law_773 (lv_at hl 4 rfl) ?_
  refine z_iconst (v := 1) F (by decide) dL_law_775 ?_
  refine z_iadd F dL_law_776 ?_
  refine z_sld F hX hbl hS hL (by omega) dL_law_777 ?_
  refine z_call (z_runV [.int (xs (i + 1))] [] F (cm_proof l dC dI cI cL a.x0 a.xC a.xD a.xK a.xQ a.xV a.xI a.xL a.xR a.xS a.xT a.xA a.xB a.xW a.xX a.xE a.xF pb cn ta al be ga de va md pd v inp sL sR sS sT f bb w mx el qt (xs (i + 1))) kk_M_proof wl_L_93 rfl rfl ⟨Nat.le_of_ble_eq_true rfl, Nat.le_of_ble_eq_true rfl⟩ (z_preMR (wa := wT cL a th cn pb ta al be ga de va md pd f v inp mx el qt su pr) (wc := wM cI a pb cn ta al be ga de va md pd v inp sL sR sS sT f bb w mx el qt) (wb := wO cL a o) (q := (RM, TM, 11)) hP hK rfl (q0 := 0) rfl) rfl hl.1 rfl (Nat.le_of_ble_eq_true rfl) dL_law_778 ⟨hc0, hs0⟩) ?_
  refine lv_aload_n F.1 F.2.1 dL_law_781 rfl (lv_at hl 2 rfl) ?_
  refine lv_aload_n F.1 F.2.1 dL_law_782 rfl (lv_at hl 0 rfl) ?_
  refine lv_iload F.1 F.2.1 dL_law_783 (lv_at hl 4 rfl) ?_
  refine z_iconst (v := 1) F (by decide) dL_law_785 ?_
  refine z_iadd F dL_law_786 ?_
  refine z_sld F hX hbl hS hL (by omega) dL_law_787 ?_
  refine z_callF (wb := wM cI a pb cn ta al be ga de va md pd v inp sL sR sS sT f bb w mx el qt ++ wO cL a o) (z_runV [.int (xs (i + 1))] [.int (if (pd && bl (xs (i + 1)) 3) = true then nI (el (xs (i + 1)).toNatClampNeg) else -1)] F (ct_proof l dC dI cI cL _ a.y0 a.yR a.yV a.yI a.yX a.yP a.yQ a.yS a.yD th cn pb ta al be ga de va md pd f v inp mx el qt su pr (xs (i + 1))) kk_T_proof wl_L_97 rfl rfl ⟨Nat.le_of_ble_eq_true rfl, Nat.le_of_ble_eq_true rfl⟩ (z_preF (q := (RT, TT, 19)) hP hK hD rfl (q0 := 0) rfl) rfl hl.1 rfl (Nat.le_of_ble_eq_true rfl) dL_law_788 ⟨hc0, hs0⟩) hP hD hS hAA (fun H locs hP hD hS => ?_)
  have hP : va_P (dC, dI) vwCl (wT cL a 0 cn pb ta al be ga de va md pd f v inp mx el qt su pr ++ (wM cI a pb cn ta al be ga de va md pd v inp sL sR sS sT f bb w mx el qt ++ wO cL a o)) H := hP
  have hD : va_D (zA s) (wT cL a 0 cn pb ta al be ga de va md pd f v inp mx el qt su pr ++ (wM cI a pb cn ta al be ga de va md pd v inp sL sR sS sT f bb w mx el qt ++ wO cL a o)) := hD
  refine lv_icmp_eq F.1 F.2.1 (tgt := 932) dL_law_791 rfl (fun h => ?_) (fun h => absurd rfl h)
  refine z_more (cells + 1) (slots + 6) (Nat.le_succ _) (Nat.le_add_right _ _) ?_
  have hl : lv_has ls 7 [(0, .ref b), (1, .ref a.x0), (2, .ref a.y0), (3, .ref a.xO), (4, .int (nI i))] := lv_sub hl [0, 1, 2, 3, 4] rfl
  exact kk pb cn ta al be ga de va 0 md pd v inp sL sR sS sT f bb w mx el qt su pr o ls H locs (show zok pb cn ta al be ga de va md f v inp mx el bb w sS sT su from ⟨hI.hn, hI.hpb, hI.hta, hI.hal, hI.hbe, hI.hga, hI.hde, hI.hva, hI.hf, hI.hv, hI.hinp, hI.hmx, hI.hel, hI.hbb, hI.hw, hI.hsS, hI.hsT, hI.hsu, hI.hb0, hI.hw0, hI.hf0⟩) hP hD hS hl
set_option maxHeartbeats 4000000 in
set_option maxRecDepth 100000 in
theorem lc_11 {p : Program} {l : Launch} {e : Env} {s : State} {m : MethodId} {below : List Frame} {meth : Method} {c : Code} {dC : Nat → ClassId} {dI : Nat → Nat → Nat} {cI cL : ClassId} {b L : Nat} {xs : Nat → Int32} {a : Zad} {pb : Nat} {cn : Nat} {ta : Nat} {al : Nat} {be : Nat} {ga : Nat} {de : Nat} {va : Nat} {th : Nat} {md : Bool} {pd : Bool} {v : Nat → Nat} {inp : Nat → Nat} {sL : Nat → Nat} {sR : Nat → Nat} {sS : Nat → Nat} {sT : Nat → Nat} {f : Nat → Nat} {bb : Nat → Nat} {w : Nat → Nat} {mx : Nat → Nat} {el : Nat → Nat} {qt : Nat → Nat} {su : Nat → Nat} {pr : Nat → Nat} {o : Nat → Nat} {i cells slots : Nat} {Q : State → Prop} {ls : Array Slot} {H : Heap} {locs : List Loc} (C : Zcx p l s m c dC dI cI cL b L xs) (hI : zok pb cn ta al be ga de va md f v inp mx el bb w sS sT su) (hi : i + 6 ≤ L) (hP : va_P (dC, dI) vwCl (wT cL a th cn pb ta al be ga de va md pd f v inp mx el qt su pr ++ (wM cI a pb cn ta al be ga de va md pd v inp sL sR sS sT f bb w mx el qt ++ wO cL a o)) H) (hD : va_D (zA s) (wT cL a th cn pb ta al be ga de va md pd f v inp mx el qt su pr ++ (wM cI a pb cn ta al be ga de va md pd v inp sL sR sS sT f bb w mx el qt ++ wO cL a o))) (hS : va_S (zA s) s.heap H locs) (hl : lv_has ls 7 [(0, .ref b), (1, .ref a.x0), (2, .ref a.y0), (3, .ref a.xO), (4, .int (nI i))]) (hcc : cells + 1 ≤ 1064) (hss : slots + 6 ≤ 10267) (kk : zNext p l e s m below meth c dC dI cI cL b i a (cells + 1) (slots + 6) Q 932) : W p l e room_1 s m #[Value.ref b] below meth c H locs cells slots Q (F0 m 796 ls []) := by
  obtain ⟨F, hK, hX, hbl, hL, hZ, h9⟩ := C
  have hAA : ∀ q, s.heap.size ≤ q → zA s q := fun q h => h
  have hc0 : cells ≤ 1064 := by omega
  have hs0 : slots ≤ 10267 := by omega
  refine lv_aload_n F.1 F.2.1 dL_law_796 rfl (lv_at hl 1 rfl) ?_
  refine lv_aload_n F.1 F.2.1 dL_law_797 rfl (lv_at hl 0 rfl) ?_
  refine lv_iload F.1 F.2.1 dL_law_798 (lv_at hl 4 rfl) ?_
  refine z_iconst (v := 1) F (by decide) dL_law_800 ?_
  refine z_iadd F dL_law_801 ?_
  refine z_sld F hX hbl hS hL (by omega) dL_law_802 ?_
  refine z_call (z_runV [.int (xs (i + 1))] [] F (cm_quotient l dC dI cI cL a.x0 a.xC a.xD a.xK a.xQ a.xV a.xI a.xL a.xR a.xS a.xT a.xA a.xB a.xW a.xX a.xE a.xF pb cn ta al be ga de va md pd v inp sL sR sS sT f bb w mx el qt (xs (i + 1))) kk_M_quotient wl_L_98 rfl rfl ⟨Nat.le_of_ble_eq_true rfl, Nat.le_of_ble_eq_true rfl⟩ (z_preMR (wa := wT cL a th cn pb ta al be ga de va md pd f v inp mx el qt su pr) (wc := wM cI a pb cn ta al be ga de va md pd v inp sL sR sS sT f bb w mx el qt) (wb := wO cL a o) (q := (RM, TM, 11)) hP hK rfl (q0 := 0) rfl) rfl hl.1 rfl (Nat.le_of_ble_eq_true rfl) dL_law_803 ⟨hc0, hs0⟩) ?_
  refine lv_aload_n F.1 F.2.1 dL_law_806 rfl (lv_at hl 2 rfl) ?_
  refine lv_aload_n F.1 F.2.1 dL_law_807 rfl (lv_at hl 0 rfl) ?_
  refine lv_iload F.1 F.2.1 dL_law_808 (lv_at hl 4 rfl) ?_
  refine z_iconst (v := 1) F (by decide) dL_law_810 ?_
  refine z_iadd F dL_law_811 ?_
  refine z_sld F hX hbl hS hL (by omega) dL_law_812 ?_
  refine z_callF (wb := wM cI a pb cn ta al be ga de va md pd v inp sL sR sS sT f bb w mx el qt ++ wO cL a o) (z_runV [.int (xs (i + 1))] [.int (if (pd && bl (xs (i + 1)) 16) = true then nI (qt (xs (i + 1)).toNatClampNeg) else -1)] F (ct_quotient l dC dI cI cL _ a.y0 a.yR a.yV a.yI a.yX a.yP a.yQ a.yS a.yD th cn pb ta al be ga de va md pd f v inp mx el qt su pr (xs (i + 1))) kk_T_quotient wl_L_101 rfl rfl ⟨Nat.le_of_ble_eq_true rfl, Nat.le_of_ble_eq_true rfl⟩ (z_preF (q := (RT, TT, 19)) hP hK hD rfl (q0 := 0) rfl) rfl hl.1 rfl (Nat.le_of_ble_eq_true rfl) dL_law_813 ⟨hc0, hs0⟩) hP hD hS hAA (fun H locs hP hD hS => ?_)
  have hP : va_P (dC, dI) vwCl (wT cL a 0 cn pb ta al be ga de va md pd f v inp mx el qt su pr ++ (wM cI a pb cn ta al be ga de va md pd v inp sL sR sS sT f bb w mx el qt ++ wO cL a o)) H := hP
  have hD : va_D (zA s) (wT cL a 0 cn pb ta al be ga de va md pd f v inp mx el qt su pr ++ (wM cI a pb cn ta al be ga de va md pd v inp sL sR sS sT f bb w mx el qt ++ wO cL a o)) := hD
  refine lv_icmp_eq F.1 F.2.1 (tgt := 932) dL_law_816 rfl (fun h => ?_) (fun h => absurd rfl h)
  refine z_more (cells + 1) (slots + 6) (Nat.le_succ _) (Nat.le_add_right _ _) ?_
  have hl : lv_has ls 7 [(0, .ref b), (1, .ref a.x0), (2, .ref a.y0), (3, .ref a.xO), (4, .int (nI i))] := lv_sub hl [0, 1, 2, 3, 4] rfl
  exact kk pb cn ta al be ga de va 0 md pd v inp sL sR sS sT f bb w mx el qt su pr o ls H locs (show zok pb cn ta al be ga de va md f v inp mx el bb w sS sT su from ⟨hI.hn, hI.hpb, hI.hta, hI.hal, hI.hbe, hI.hga, hI.hde, hI.hva, hI.hf, hI.hv, hI.hinp, hI.hmx, hI.hel, hI.hbb, hI.hw, hI.hsS, hI.hsT, hI.hsu, hI.hb0, hI.hw0, hI.hf0⟩) hP hD hS hl
set_option maxHeartbeats 4000000 in
set_option maxRecDepth 100000 in
theorem lc_14 {p : Program} {l : Launch} {e : Env} {s : State} {m : MethodId} {below : List Frame} {meth : Method} {c : Code} {dC : Nat → ClassId} {dI : Nat → Nat → Nat} {cI cL : ClassId} {b L : Nat} {xs : Nat → Int32} {a : Zad} {pb : Nat} {cn : Nat} {ta : Nat} {al : Nat} {be : Nat} {ga : Nat} {de : Nat} {va : Nat} {th : Nat} {md : Bool} {pd : Bool} {v : Nat → Nat} {inp : Nat → Nat} {sL : Nat → Nat} {sR : Nat → Nat} {sS : Nat → Nat} {sT : Nat → Nat} {f : Nat → Nat} {bb : Nat → Nat} {w : Nat → Nat} {mx : Nat → Nat} {el : Nat → Nat} {qt : Nat → Nat} {su : Nat → Nat} {pr : Nat → Nat} {o : Nat → Nat} {i cells slots : Nat} {Q : State → Prop} {ls : Array Slot} {H : Heap} {locs : List Loc} (C : Zcx p l s m c dC dI cI cL b L xs) (hI : zok pb cn ta al be ga de va md f v inp mx el bb w sS sT su) (hi : i + 6 ≤ L) (hP : va_P (dC, dI) vwCl (wT cL a th cn pb ta al be ga de va md pd f v inp mx el qt su pr ++ (wM cI a pb cn ta al be ga de va md pd v inp sL sR sS sT f bb w mx el qt ++ wO cL a o)) H) (hD : va_D (zA s) (wT cL a th cn pb ta al be ga de va md pd f v inp mx el qt su pr ++ (wM cI a pb cn ta al be ga de va md pd v inp sL sR sS sT f bb w mx el qt ++ wO cL a o))) (hS : va_S (zA s) s.heap H locs) (hl : lv_has ls 7 [(0, .ref b), (1, .ref a.x0), (2, .ref a.y0), (3, .ref a.xO), (4, .int (nI i))]) (hcc : cells + 1 ≤ 1064) (hss : slots + 6 ≤ 10267) (kk : zNext p l e s m below meth c dC dI cI cL b i a (cells + 1) (slots + 6) Q 932) : W p l e room_1 s m #[Value.ref b] below meth c H locs cells slots Q (F0 m 907 ls []) := by
  obtain ⟨F, hK, hX, hbl, hL, hZ, h9⟩ := C
  have hAA : ∀ q, s.heap.size ≤ q → zA s q := fun q h => h
  have hc0 : cells ≤ 1064 := by omega
  have hs0 : slots ≤ 10267 := by omega
  refine lv_aload_n F.1 F.2.1 dL_law_907 rfl (lv_at hl 1 rfl) ?_
  refine lv_aload_n F.1 F.2.1 dL_law_908 rfl (lv_at hl 0 rfl) ?_
  refine lv_iload F.1 F.2.1 dL_law_909 (lv_at hl 4 rfl) ?_
  refine z_iconst (v := 1) F (by decide) dL_law_911 ?_
  refine z_iadd F dL_law_912 ?_
  refine z_sld F hX hbl hS hL (by omega) dL_law_913 ?_
  refine z_call (z_runV [.int (xs (i + 1))] [] F (cm_about l dC dI cI cL a.x0 a.xC a.xD a.xK a.xQ a.xV a.xI a.xL a.xR a.xS a.xT a.xA a.xB a.xW a.xX a.xE a.xF pb cn ta al be ga de va md pd v inp sL sR sS sT f bb w mx el qt (xs (i + 1))) kk_M_about wl_L_111 rfl rfl ⟨Nat.le_of_ble_eq_true rfl, Nat.le_of_ble_eq_true rfl⟩ (z_preMR (wa := wT cL a th cn pb ta al be ga de va md pd f v inp mx el qt su pr) (wc := wM cI a pb cn ta al be ga de va md pd v inp sL sR sS sT f bb w mx el qt) (wb := wO cL a o) (q := (RM, TM, 11)) hP hK rfl (q0 := 0) rfl) rfl hl.1 rfl (Nat.le_of_ble_eq_true rfl) dL_law_914 ⟨hc0, hs0⟩) ?_
  refine lv_aload_n F.1 F.2.1 dL_law_917 rfl (lv_at hl 2 rfl) ?_
  refine lv_aload_n F.1 F.2.1 dL_law_918 rfl (lv_at hl 0 rfl) ?_
  refine lv_iload F.1 F.2.1 dL_law_919 (lv_at hl 4 rfl) ?_
  refine z_iconst (v := 1) F (by decide) dL_law_921 ?_
  refine z_iadd F dL_law_922 ?_
  refine z_sld F hX hbl hS hL (by omega) dL_law_923 ?_
  refine z_callF (wb := wM cI a pb cn ta al be ga de va md pd v inp sL sR sS sT f bb w mx el qt ++ wO cL a o) (z_runV [.int (xs (i + 1))] [.int (abv cn pb md pd (xs (i + 1)))] F (ct_about l dC dI cI cL _ a.y0 a.yR a.yV a.yI a.yX a.yP a.yQ a.yS a.yD th cn pb ta al be ga de va md pd f v inp mx el qt su pr (xs (i + 1)) hI.hn) kk_T_about wl_L_114 rfl rfl ⟨Nat.le_of_ble_eq_true rfl, Nat.le_of_ble_eq_true rfl⟩ (z_preF (q := (RT, TT, 19)) hP hK hD rfl (q0 := 0) rfl) rfl hl.1 rfl (Nat.le_of_ble_eq_true rfl) dL_law_924 ⟨hc0, hs0⟩) hP hD hS hAA (fun H locs hP hD hS => ?_)
  have hP : va_P (dC, dI) vwCl (wT cL a 0 cn pb ta al be ga de va md pd f v inp mx el qt su pr ++ (wM cI a pb cn ta al be ga de va md pd v inp sL sR sS sT f bb w mx el qt ++ wO cL a o)) H := hP
  have hD : va_D (zA s) (wT cL a 0 cn pb ta al be ga de va md pd f v inp mx el qt su pr ++ (wM cI a pb cn ta al be ga de va md pd v inp sL sR sS sT f bb w mx el qt ++ wO cL a o)) := hD
  refine lv_icmp_eq F.1 F.2.1 (tgt := 932) dL_law_927 rfl (fun h => ?_) (fun h => absurd rfl h)
  refine z_more (cells + 1) (slots + 6) (Nat.le_succ _) (Nat.le_add_right _ _) ?_
  have hl : lv_has ls 7 [(0, .ref b), (1, .ref a.x0), (2, .ref a.y0), (3, .ref a.xO), (4, .int (nI i))] := lv_sub hl [0, 1, 2, 3, 4] rfl
  exact kk pb cn ta al be ga de va 0 md pd v inp sL sR sS sT f bb w mx el qt su pr o ls H locs (show zok pb cn ta al be ga de va md f v inp mx el bb w sS sT su from ⟨hI.hn, hI.hpb, hI.hta, hI.hal, hI.hbe, hI.hga, hI.hde, hI.hva, hI.hf, hI.hv, hI.hinp, hI.hmx, hI.hel, hI.hbb, hI.hw, hI.hsS, hI.hsT, hI.hsu, hI.hb0, hI.hw0, hI.hf0⟩) hP hD hS hl
set_option maxHeartbeats 4000000 in
set_option maxRecDepth 100000 in
theorem lc_13 {p : Program} {l : Launch} {e : Env} {s : State} {m : MethodId} {below : List Frame} {meth : Method} {c : Code} {dC : Nat → ClassId} {dI : Nat → Nat → Nat} {cI cL : ClassId} {b L : Nat} {xs : Nat → Int32} {a : Zad} {pb : Nat} {cn : Nat} {ta : Nat} {al : Nat} {be : Nat} {ga : Nat} {de : Nat} {va : Nat} {th : Nat} {md : Bool} {pd : Bool} {v : Nat → Nat} {inp : Nat → Nat} {sL : Nat → Nat} {sR : Nat → Nat} {sS : Nat → Nat} {sT : Nat → Nat} {f : Nat → Nat} {bb : Nat → Nat} {w : Nat → Nat} {mx : Nat → Nat} {el : Nat → Nat} {qt : Nat → Nat} {su : Nat → Nat} {pr : Nat → Nat} {o : Nat → Nat} {i cells slots : Nat} {Q : State → Prop} {ls : Array Slot} {H : Heap} {locs : List Loc} (C : Zcx p l s m c dC dI cI cL b L xs) (hI : zok pb cn ta al be ga de va md f v inp mx el bb w sS sT su) (hi : i + 6 ≤ L) (hP : va_P (dC, dI) vwCl (wT cL a th cn pb ta al be ga de va md pd f v inp mx el qt su pr ++ (wM cI a pb cn ta al be ga de va md pd v inp sL sR sS sT f bb w mx el qt ++ wO cL a o)) H) (hD : va_D (zA s) (wT cL a th cn pb ta al be ga de va md pd f v inp mx el qt su pr ++ (wM cI a pb cn ta al be ga de va md pd v inp sL sR sS sT f bb w mx el qt ++ wO cL a o))) (hS : va_S (zA s) s.heap H locs) (hl : lv_has ls 7 [(0, .ref b), (1, .ref a.x0), (2, .ref a.y0), (3, .ref a.xO), (4, .int (nI i))]) (hcc : cells + 1 ≤ 1064) (hss : slots + 6 ≤ 10267) (kk : zNext p l e s m below meth c dC dI cI cL b i a (cells + 1) (slots + 6) Q 932) : W p l e room_1 s m #[Value.ref b] below meth c H locs cells slots Q (F0 m 870 ls []) := by
  obtain ⟨F, hK, hX, hbl, hL, hZ, h9⟩ := C
  have hAA : ∀ q, s.heap.size ≤ q → zA s q := fun q h => h
  have hc0 : cells ≤ 1064 := by omega
  have hs0 : slots ≤ 10267 := by omega
  refine lv_aload_n F.1 F.2.1 dL_law_870 rfl (lv_at hl 1 rfl) ?_
  refine lv_aload_n F.1 F.2.1 dL_law_871 rfl (lv_at hl 0 rfl) ?_
  refine lv_iload F.1 F.2.1 dL_law_872 (lv_at hl 4 rfl) ?_
  refine z_iconst (v := 1) F (by decide) dL_law_874 ?_
  refine z_iadd F dL_law_875 ?_
  refine z_sld F hX hbl hS hL (by omega) dL_law_876 ?_
  refine lv_aload_n F.1 F.2.1 dL_law_877 rfl (lv_at hl 0 rfl) ?_
  refine lv_iload F.1 F.2.1 dL_law_878 (lv_at hl 4 rfl) ?_
  refine z_iconst (v := 2) F (by decide) dL_law_880 ?_
  refine z_iadd F dL_law_881 ?_
  refine z_sld F hX hbl hS hL (by omega) dL_law_882 ?_
  refine z_call (z_runV [.int (xs (i + 1)), .int (xs (i + 2))] [] F (cm_key l dC dI cI cL a.x0 a.xC a.xD a.xK a.xQ a.xV a.xI a.xL a.xR a.xS a.xT a.xA a.xB a.xW a.xX a.xE a.xF pb cn ta al be ga de va md pd v inp sL sR sS sT f bb w mx el qt (xs (i + 1)) (xs (i + 2)) hI.hmx hI.hta hI.hva hI.hga hI.hde hI.hpb) kk_M_key wl_L_106 rfl rfl ⟨Nat.le_of_ble_eq_true rfl, Nat.le_of_ble_eq_true rfl⟩ (z_preMR (wa := wT cL a th cn pb ta al be ga de va md pd f v inp mx el qt su pr) (wc := wM cI a pb cn ta al be ga de va md pd v inp sL sR sS sT f bb w mx el qt) (wb := wO cL a o) (q := (RM, TM, 11)) hP hK rfl (q0 := 0) rfl) rfl hl.1 rfl (Nat.le_of_ble_eq_true rfl) dL_law_883 ⟨hc0, hs0⟩) ?_
  refine lv_aload_n F.1 F.2.1 dL_law_886 rfl (lv_at hl 2 rfl) ?_
  refine lv_aload_n F.1 F.2.1 dL_law_887 rfl (lv_at hl 0 rfl) ?_
  refine lv_iload F.1 F.2.1 dL_law_888 (lv_at hl 4 rfl) ?_
  refine z_iconst (v := 1) F (by decide) dL_law_890 ?_
  refine z_iadd F dL_law_891 ?_
  refine z_sld F hX hbl hS hL (by omega) dL_law_892 ?_
  refine lv_aload_n F.1 F.2.1 dL_law_893 rfl (lv_at hl 0 rfl) ?_
  refine lv_iload F.1 F.2.1 dL_law_894 (lv_at hl 4 rfl) ?_
  refine z_iconst (v := 2) F (by decide) dL_law_896 ?_
  refine z_iadd F dL_law_897 ?_
  refine z_sld F hX hbl hS hL (by omega) dL_law_898 ?_
  refine z_callF (wb := wM cI a pb cn ta al be ga de va md pd v inp sL sR sS sT f bb w mx el qt ++ wO cL a o) (z_runV [.int (xs (i + 1)), .int (xs (i + 2))] [.int (kyv md (szN cn) pb ta ga de va mx (xs (i + 1)) (xs (i + 2)))] F (ct_key l dC dI cI cL _ a.y0 a.yR a.yV a.yI a.yX a.yP a.yQ a.yS a.yD th cn pb ta al be ga de va md pd f v inp mx el qt su pr (xs (i + 1)) (xs (i + 2)) hI.hn hI.hmx hI.hta hI.hva hI.hga hI.hde hI.hpb) kk_T_key wl_L_110 rfl rfl ⟨Nat.le_of_ble_eq_true rfl, Nat.le_of_ble_eq_true rfl⟩ (z_preF (q := (RT, TT, 19)) hP hK hD rfl (q0 := 0) rfl) rfl hl.1 rfl (Nat.le_of_ble_eq_true rfl) dL_law_899 ⟨hc0, hs0⟩) hP hD hS hAA (fun H locs hP hD hS => ?_)
  have hP : va_P (dC, dI) vwCl (wT cL a 0 cn pb ta al be ga de va md pd f v inp mx el qt su pr ++ (wM cI a pb cn ta al be ga de va md pd v inp sL sR sS sT f bb w mx el qt ++ wO cL a o)) H := hP
  have hD : va_D (zA s) (wT cL a 0 cn pb ta al be ga de va md pd f v inp mx el qt su pr ++ (wM cI a pb cn ta al be ga de va md pd v inp sL sR sS sT f bb w mx el qt ++ wO cL a o)) := hD
  refine lv_icmp_eq F.1 F.2.1 (tgt := 932) dL_law_902 rfl (fun h => ?_) (fun h => absurd rfl h)
  refine z_more (cells + 1) (slots + 6) (Nat.le_succ _) (Nat.le_add_right _ _) ?_
  have hl : lv_has ls 7 [(0, .ref b), (1, .ref a.x0), (2, .ref a.y0), (3, .ref a.xO), (4, .int (nI i))] := lv_sub hl [0, 1, 2, 3, 4] rfl
  exact kk pb cn ta al be ga de va 0 md pd v inp sL sR sS sT f bb w mx el qt su pr o ls H locs (show zok pb cn ta al be ga de va md f v inp mx el bb w sS sT su from ⟨hI.hn, hI.hpb, hI.hta, hI.hal, hI.hbe, hI.hga, hI.hde, hI.hva, hI.hf, hI.hv, hI.hinp, hI.hmx, hI.hel, hI.hbb, hI.hw, hI.hsS, hI.hsT, hI.hsu, hI.hb0, hI.hw0, hI.hf0⟩) hP hD hS hl
