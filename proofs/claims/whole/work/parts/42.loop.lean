/-! the law's loop -/
theorem z_gt {i L : Nat} (hi : i ≤ 4000) (hL : L ≤ 3072) : (Int32.ofNat L - nI 6 < nI i) ↔ L < i + 6 := by
  have h1 : (nI i).toInt = (i : Int) := Int32.toInt_ofNat_of_lt (by omega)
  have h2 : (Int32.ofNat L).toInt = (L : Int) := Int32.toInt_ofNat_of_lt (by omega)
  have h3 : (nI 6).toInt = 6 := by decide
  have h4 : (Int32.ofNat L - nI 6).toInt = (L : Int) - 6 := by
    rw [Int32.toInt_sub, h2, h3]
    simp only [Int.bmod]
    omega
  rw [Int32.lt_iff_toInt_lt, h1, h4]
  omega
theorem z_law {p : Program} {l : Launch} {e : Env} {s : State} {m : MethodId} {args : Array Value} {below : List Frame} {meth : Method} {c : Code} {H : Heap} {locs : List Loc} {cells slots : Nat} {Q : State → Prop} {g : JFrame} (hS : ∀ x ∈ locs, s.heap.size ≤ x.base) (h1 : cells ≤ 1064) (h2 : slots ≤ 10267) (k : W p l e room_1 s m args below meth c H [] 1064 10267 Q g) : W p l e room_1 s m args below meth c H locs cells slots Q g :=
  fun T hT X => k T hT ⟨X.admits, X.cas, X.clock, X.frames, X.room, X.hears, X.method, X.code, X.here, X.tail, X.warmed, X.limits, X.bytes, X.same.weaken (fun x hx hb => absurd hb (Nat.not_lt.mpr (hS x hx))) h1 h2⟩
theorem lw_loop {p : Program} {l : Launch} {e : Env} {s : State} {m : MethodId} {below : List Frame} {meth : Method} {c : Code} {dC : Nat → ClassId} {dI : Nat → Nat → Nat} {cI cL : ClassId} {b L : Nat} {xs : Nat → Int32} {a : Zad} (C : Zcx p l s m c dC dI cI cL b L xs) (hr : meth.sig.returnType = ret) (hlk : meth.locks = false) :
    ∀ (n i cells slots : Nat), L < i + 6 * n + 6 → i ≤ L + 6 → cells + n ≤ 1064 → slots + 6 * n ≤ 10267 → zNext p l e s m below meth c dC dI cI cL b i a cells slots (lw_Z below #[Value.ref b] s) 23 := by
  intro n
  induction n with
  | zero =>
    intro i cells slots hn hi hc hs pb cn ta al be ga de va th md pd v inp sL sR sS sT f bb w mx el qt su pr o ls H locs hI hP hD hS hl
    obtain ⟨F, hK, hX, hbl, hL, hZ, h9⟩ := C
    refine lv_iload F.1 F.2.1 dL_law_23 (lv_at hl 4 rfl) ?_
    refine lv_aload_n F.1 F.2.1 dL_law_25 rfl (lv_at hl 0 rfl) ?_
    refine va_slen F.1 F.2.1 hX hbl (by show ¬ s.heap.size ≤ b; omega) hS dL_law_26 ?_
    refine z_bipush (v := 6) F (by decide) dL_law_27 ?_
    refine lv_isub F.1 F.2.1 dL_law_29 ?_
    refine lv_icmp_gt F.1 F.2.1 (tgt := 938) dL_law_30 rfl (fun h => ?_) (fun h => absurd ((z_gt (by omega) hL).mpr (by omega)) h)
    refine z_iconst (v := 1) F (by decide) dL_law_938 ?_
    exact z_law hS.2.2 (by omega) (by omega) (lw_ret F.1 F.2.1 hr hlk dL_law_939)
  | succ n ih =>
    intro i cells slots hn hi hc hs pb cn ta al be ga de va th md pd v inp sL sR sS sT f bb w mx el qt su pr o ls H locs hI hP hD hS hl
    have C0 := C
    obtain ⟨F, hK, hX, hbl, hL, hZ, h9⟩ := C0
    refine lv_iload F.1 F.2.1 dL_law_23 (lv_at hl 4 rfl) ?_
    refine lv_aload_n F.1 F.2.1 dL_law_25 rfl (lv_at hl 0 rfl) ?_
    refine va_slen F.1 F.2.1 hX hbl (by show ¬ s.heap.size ≤ b; omega) hS dL_law_26 ?_
    refine z_bipush (v := 6) F (by decide) dL_law_27 ?_
    refine lv_isub F.1 F.2.1 dL_law_29 ?_
    refine lv_icmp_gt F.1 F.2.1 (tgt := 938) dL_law_30 rfl (fun h => ?_) (fun h => ?_)
    · refine z_iconst (v := 1) F (by decide) dL_law_938 ?_
      exact z_law hS.2.2 (by omega) (by omega) (lw_ret F.1 F.2.1 hr hlk dL_law_939)
    have hle : ¬ L < i + 6 := fun q => h ((z_gt (by omega) hL).mpr q)
    refine lv_aload_n F.1 F.2.1 dL_law_33 rfl (lv_at hl 0 rfl) ?_
    refine lv_iload F.1 F.2.1 dL_law_34 (lv_at hl 4 rfl) ?_
    refine z_sld F hX hbl hS hL (by omega) dL_law_36 ?_
    refine z_bipush (v := 15) F (by decide) dL_law_37 ?_
    refine lv_iand F.1 F.2.1 dL_law_39 ?_
    rw [pk_and (xs i) (m := nI 15) 4 (by decide)]
    have next : zNext p l e s m below meth c dC dI cI cL b i a (cells + 1) (slots + 6) (lw_Z below #[Value.ref b] s) 932 := by
      intro pb cn ta al be ga de va th md pd v inp sL sR sS sT f bb w mx el qt su pr o ls H locs hI hP hD hS hl
      refine lv_iinc F.1 F.2.1 (k := 4) (v := nI (i + 6)) (lv' := [(4, .int (nI (i + 6))), (0, .ref b), (1, .ref a.x0), (2, .ref a.y0), (3, .ref a.xO)]) dL_law_932 hl rfl (nI_add i 6) (by decide) rfl (fun ls hl => ?_)
      refine lv_goto F.1 F.2.1 (tgt := 23) dL_law_935 rfl ?_
      have hl : lv_has ls 7 [(0, .ref b), (1, .ref a.x0), (2, .ref a.y0), (3, .ref a.xO), (4, .int (nI (i + 6)))] := lv_sub hl [1, 2, 3, 4, 0] rfl
      exact ih (i + 6) (cells + 1) (slots + 6) (by omega) (by omega) (by omega) (by omega) pb cn ta al be ga de va th md pd v inp sL sR sS sT f bb w mx el qt su pr o ls H locs hI hP hD hS hl
    have hq : (xs i).toBitVec.toNat % 2 ^ 4 < 16 := Nat.mod_lt _ (by decide)
    generalize (xs i).toBitVec.toNat % 2 ^ 4 = q at hq ⊢
    rcases (show q = 0 ∨ q = 1 ∨ q = 2 ∨ q = 3 ∨ q = 4 ∨ q = 5 ∨ q = 6 ∨ q = 7 ∨ q = 8 ∨ q = 9 ∨ q = 10 ∨ q = 11 ∨ q = 12 ∨ q = 13 ∨ q = 14 ∨ q = 15 by omega) with rfl | rfl | rfl | rfl | rfl | rfl | rfl | rfl | rfl | rfl | rfl | rfl | rfl | rfl | rfl | rfl
    · refine lv_tableIn F.1 F.2.1 (tgt := 116) dL_law_40 (by decide) (by decide) rfl rfl ?_
      exact lc_0 C hI (by omega) hP hD hS hl (by omega) (by omega) next
    · refine lv_tableIn F.1 F.2.1 (tgt := 196) dL_law_40 (by decide) (by decide) rfl rfl ?_
      exact lc_1 C hI (by omega) hP hD hS hl (by omega) (by omega) next
    · refine lv_tableIn F.1 F.2.1 (tgt := 240) dL_law_40 (by decide) (by decide) rfl rfl ?_
      exact lc_2 C hI (by omega) hP hD hS hl (by omega) (by omega) next
    · refine lv_tableIn F.1 F.2.1 (tgt := 303) dL_law_40 (by decide) (by decide) rfl rfl ?_
      exact lc_3 C hI (by omega) hP hD hS hl (by omega) (by omega) next
    · refine lv_tableIn F.1 F.2.1 (tgt := 378) dL_law_40 (by decide) (by decide) rfl rfl ?_
      exact lc_4 C hI (by omega) hP hD hS hl (by omega) (by omega) next
    · refine lv_tableIn F.1 F.2.1 (tgt := 391) dL_law_40 (by decide) (by decide) rfl rfl ?_
      exact lc_5 C hI (by omega) hP hD hS hl (by omega) (by omega) next
    · refine lv_tableIn F.1 F.2.1 (tgt := 495) dL_law_40 (by decide) (by decide) rfl rfl ?_
      exact lc_6 C hI (by omega) hP hD hS hl (by omega) (by omega) next
    · refine lv_tableIn F.1 F.2.1 (tgt := 570) dL_law_40 (by decide) (by decide) rfl rfl ?_
      exact lc_7 C hI (by omega) hP hD hS hl (by omega) (by omega) next
    · refine lv_tableIn F.1 F.2.1 (tgt := 645) dL_law_40 (by decide) (by decide) rfl rfl ?_
      exact lc_8 C hI (by omega) hP hD hS hl (by omega) (by omega) next
    · refine lv_tableIn F.1 F.2.1 (tgt := 720) dL_law_40 (by decide) (by decide) rfl rfl ?_
      exact lc_9 C hI (by omega) hP hD hS hl (by omega) (by omega) next
    · refine lv_tableIn F.1 F.2.1 (tgt := 771) dL_law_40 (by decide) (by decide) rfl rfl ?_
      exact lc_10 C hI (by omega) hP hD hS hl (by omega) (by omega) next
    · refine lv_tableIn F.1 F.2.1 (tgt := 796) dL_law_40 (by decide) (by decide) rfl rfl ?_
      exact lc_11 C hI (by omega) hP hD hS hl (by omega) (by omega) next
    · refine lv_tableIn F.1 F.2.1 (tgt := 821) dL_law_40 (by decide) (by decide) rfl rfl ?_
      exact lc_12 C hI (by omega) hP hD hS hl (by omega) (by omega) next
    · refine lv_tableIn F.1 F.2.1 (tgt := 870) dL_law_40 (by decide) (by decide) rfl rfl ?_
      exact lc_13 C hI (by omega) hP hD hS hl (by omega) (by omega) next
    · refine lv_tableIn F.1 F.2.1 (tgt := 907) dL_law_40 (by decide) (by decide) rfl rfl ?_
      exact lc_14 C hI (by omega) hP hD hS hl (by omega) (by omega) next
    · refine lv_tableOut F.1 F.2.1 (tgt := 932) dL_law_40 (Or.inr (by decide)) rfl ?_
      exact z_more (cells + 1) (slots + 6) (Nat.le_succ _) (Nat.le_add_right _ _) (next pb cn ta al be ga de va th md pd v inp sL sR sS sT f bb w mx el qt su pr o ls H locs hI hP hD hS hl)
