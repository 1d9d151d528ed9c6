/-- the mixes, by the coefficients -/
def mxT (cn ta al be : Nat) (f : Nat → Nat) (i : Nat) : Nat := (be * (sg (szN cn) (fun k => cf cn (szN cn) (fun t => f ((t * 3 + 0) * 16 + i)) k * pw ta k) % 998244353) % 998244353 + al * (sg (szN cn) (fun k => cf cn (szN cn) (fun t => f ((t * 3 + 1) * 16 + i)) k * pw ta k) % 998244353) % 998244353 + sg (szN cn) (fun k => cf cn (szN cn) (fun t => f ((t * 3 + 2) * 16 + i)) k * pw ta k) % 998244353) % 998244353
def tA (al de x n ta : Nat) (su : Nat → Nat) (row : Nat) : Nat := (al + sg n (fun k => su (16 * row + k) * pw ta k) % 998244353 + x * de) % 998244353
def tH (ta : Nat) (qt : Nat → Nat) : Nat := sg 16 (fun k => qt k * pw ta k) % 998244353
def tG (pb va : Nat) (v mx : Nat → Nat) (h : Nat) : Nat := (h * va % 998244353 + sg (15 - pb) (fun t => v (pb + 1 + t) * mx (pb + 1 + t))) % 998244353
def tC (g de a b x y : Nat) : Nat := ((g * iv de % 998244353 + a * y % 998244353 + b * x % 998244353) % 998244353 + 998244353 - x * y % 998244353 * de % 998244353) % 998244353
theorem tA_lt (al de x n ta : Nat) (su : Nat → Nat) (row : Nat) : tA al de x n ta su row < 998244353 := ltP _
theorem tH_lt (ta : Nat) (qt : Nat → Nat) : tH ta qt < 998244353 := ltP _
theorem tG_lt (pb va : Nat) (v mx : Nat → Nat) (h : Nat) : tG pb va v mx h < 998244353 := ltP _
theorem sm3 (a i : Nat) (f : Nat → Nat) : ((a + sg i f) % 998244353 + f i) % 998244353 = (a + sg (i + 1) f) % 998244353 := by
  rw [sg_s, Nat.mod_add_mod, Nat.add_assoc]
set_option maxHeartbeats 4000000 in
set_option maxRecDepth 100000 in
theorem ct_open (l : Launch) (dC : Nat → ClassId) (dI : Nat → Nat → Nat) (cI cL : ClassId) (zz : Nat) (y0 yR yV yI yX yP yQ yS yD : Nat) (th cn pb ta al be ga de va : Nat) (md pd : Bool) (f v inp mx el qt su pr : Nat → Nat) (hf : ∀ j, f j < 998244353) (hv : ∀ j, v j < 998244353) (hn : cn ≤ 16) : Met l yT_open (zW yT_open cT_open 1 (.some .int)) ({ frames := 2, cells := 0, slots := 0, locals := 48 }) (va_Pc [.ref y0] (z_P (dC, dI) vwCl [(cI, .int), (cL, .long)] zz ([(y0, .inr (5, [.int (nI th), .ref yR, .int (nI cn), .int (nI pb), .ref yV, .ref yI, .int (z_b md), .long (lN ta), .long (lN al), .long (lN be), .long (lN ga), .long (lN de), .long (lN va), .ref yX, .int (z_b pd), .ref yP, .ref yQ, .ref yS, .ref yD])), (yR, .inl (cL, 816, .inr (.inl (fun x9 => lN (f x9))))), (yV, .inl (cL, 16, .inr (.inl (fun x9 => lN (v x9))))), (yI, .inl (cL, 16, .inr (.inl (fun x9 => lN (inp x9))))), (yX, .inl (cL, 16, .inr (.inl (fun x9 => lN (mx x9))))), (yP, .inl (cL, 3, .inr (.inl (fun x9 => lN (el x9))))), (yQ, .inl (cL, 32, .inr (.inl (fun x9 => lN (qt x9))))), (yS, .inl (cL, 48, .inr (.inl (fun x9 => lN (su x9))))), (yD, .inl (cL, 32, .inr (.inl (fun x9 => lN (pr x9)))))]))) (z_Q (dC, dI) vwCl [(cI, .int), (cL, .long)] (some (.int (fo (bad f v) 0 cn))) ([(y0, .inr (5, [.int (nI 0), .ref yR, .int (nI cn), .int (nI pb), .ref yV, .ref yI, .int (z_b md), .long (lN ta), .long (lN al), .long (lN be), .long (lN ga), .long (lN de), .long (lN va), .ref yX, .int (z_b pd), .ref yP, .ref yQ, .ref yS, .ref yD])), (yR, .inl (cL, 816, .inr (.inl (fun x9 => lN (f x9))))), (yV, .inl (cL, 16, .inr (.inl (fun x9 => lN (v x9))))), (yI, .inl (cL, 16, .inr (.inl (fun x9 => lN (inp x9))))), (yX, .inl (cL, 16, .inr (.inl (fun x9 => lN (mx x9))))), (yP, .inl (cL, 3, .inr (.inl (fun x9 => lN (el x9))))), (yQ, .inl (cL, 32, .inr (.inl (fun x9 => lN (qt x9))))), (yS, .inl (cL, 48, .inr (.inl (fun x9 => lN (su x9))))), (yD, .inl (cL, 32, .inr (.inl (fun x9 => lN (pr x9)))))]) (va_A ([(y0, .inr (5, [.int (nI th), .ref yR, .int (nI cn), .int (nI pb), .ref yV, .ref yI, .int (z_b md), .long (lN ta), .long (lN al), .long (lN be), .long (lN ga), .long (lN de), .long (lN va), .ref yX, .int (z_b pd), .ref yP, .ref yQ, .ref yS, .ref yD])), (yR, .inl (cL, 816, .inr (.inl (fun x9 => lN (f x9))))), (yV, .inl (cL, 16, .inr (.inl (fun x9 => lN (v x9))))), (yI, .inl (cL, 16, .inr (.inl (fun x9 => lN (inp x9))))), (yX, .inl (cL, 16, .inr (.inl (fun x9 => lN (mx x9))))), (yP, .inl (cL, 3, .inr (.inl (fun x9 => lN (el x9))))), (yQ, .inl (cL, 32, .inr (.inl (fun x9 => lN (qt x9))))), (yS, .inl (cL, 48, .inr (.inl (fun x9 => lN (su x9))))), (yD, .inl (cL, 32, .inr (.inl (fun x9 => lN (pr x9)))))]) zz)) 0 0 (va_A ([(y0, .inr (5, [.int (nI th), .ref yR, .int (nI cn), .int (nI pb), .ref yV, .ref yI, .int (z_b md), .long (lN ta), .long (lN al), .long (lN be), .long (lN ga), .long (lN de), .long (lN va), .ref yX, .int (z_b pd), .ref yP, .ref yQ, .ref yS, .ref yD])), (yR, .inl (cL, 816, .inr (.inl (fun x9 => lN (f x9))))), (yV, .inl (cL, 16, .inr (.inl (fun x9 => lN (v x9))))), (yI, .inl (cL, 16, .inr (.inl (fun x9 => lN (inp x9))))), (yX, .inl (cL, 16, .inr (.inl (fun x9 => lN (mx x9))))), (yP, .inl (cL, 3, .inr (.inl (fun x9 => lN (el x9))))), (yQ, .inl (cL, 32, .inr (.inl (fun x9 => lN (qt x9))))), (yS, .inl (cL, 48, .inr (.inl (fun x9 => lN (su x9))))), (yD, .inl (cL, 32, .inr (.inl (fun x9 => lN (pr x9)))))]) zz) := by
  refine Met.ofW (cc := cT_open) (maxL := 1) (ret := (.some .int)) (by decide) rfl ?_
  intro p e s m args below meth c s₁ B hml hv
  obtain ⟨rfl, hsz, hP, hK, hD0⟩ := hv
  have F : CallFix p m c cT_open 1 s _ zT RT := ⟨B.exec, B.bytes, hml, findClass_of_methodNamed B.named, fun w h => atoms_spec (ws := (zW yT_open cT_open 1 (.some .int))) B.pre w (List.mem_cons_of_mem _ h)⟩
  have hr := B.returns
  have hlocks := B.notSynchronized
  subst hsz
  have hD := hD0.self (sz := s.heap.size)
  generalize hAe : va_A ([(y0, .inr (5, [.int (nI th), .ref yR, .int (nI cn), .int (nI pb), .ref yV, .ref yI, .int (z_b md), .long (lN ta), .long (lN al), .long (lN be), .long (lN ga), .long (lN de), .long (lN va), .ref yX, .int (z_b pd), .ref yP, .ref yQ, .ref yS, .ref yD])), (yR, .inl (cL, 816, .inr (.inl (fun x9 => lN (f x9))))), (yV, .inl (cL, 16, .inr (.inl (fun x9 => lN (v x9))))), (yI, .inl (cL, 16, .inr (.inl (fun x9 => lN (inp x9))))), (yX, .inl (cL, 16, .inr (.inl (fun x9 => lN (mx x9))))), (yP, .inl (cL, 3, .inr (.inl (fun x9 => lN (el x9))))), (yQ, .inl (cL, 32, .inr (.inl (fun x9 => lN (qt x9))))), (yS, .inl (cL, 48, .inr (.inl (fun x9 => lN (su x9))))), (yD, .inl (cL, 32, .inr (.inl (fun x9 => lN (pr x9)))))]) s.heap.size = A at hD ⊢
  have hAA : ∀ q : Nat, s.heap.size ≤ q → A q := fun q h => by rw [← hAe]; exact Or.inr h
  have hS : va_S A s.heap s.heap [] := va_S.rf
  have hl := lv_entry ([.ref y0]) (n := 1) (Nat.le_of_ble_eq_true rfl)
  rw [lg_entry_eq]
  generalize (lg_sl ([.ref y0]) ++ List.replicate (1 - (lg_sl ([.ref y0])).length) Slot.unset).toArray = ls at hl ⊢
  have hl : lv_has ls 1 [(0, .ref y0)] := hl
  refine lv_aload_n F.1 F.2.1 dT_open_0 rfl (lv_at hl 0 rfl) ?_
  refine z_iconst (v := 0) F (by decide) dT_open_1 ?_
  refine z_put F hK hP hD hS hinT tyT tyT_ok nmT 0 rfl rfl 0 (by decide) rfl rfl wf_T_34 (rfl) (rfl) (Nat.le_of_ble_eq_true rfl) dT_open_2 (fun H locs hP hD hS => ?_)
  have hP : va_P (dC, dI) vwCl ([(y0, .inr (5, [.int (nI 0), .ref yR, .int (nI cn), .int (nI pb), .ref yV, .ref yI, .int (z_b md), .long (lN ta), .long (lN al), .long (lN be), .long (lN ga), .long (lN de), .long (lN va), .ref yX, .int (z_b pd), .ref yP, .ref yQ, .ref yS, .ref yD])), (yR, .inl (cL, 816, .inr (.inl (fun x9 => lN (f x9))))), (yV, .inl (cL, 16, .inr (.inl (fun x9 => lN (v x9))))), (yI, .inl (cL, 16, .inr (.inl (fun x9 => lN (inp x9))))), (yX, .inl (cL, 16, .inr (.inl (fun x9 => lN (mx x9))))), (yP, .inl (cL, 3, .inr (.inl (fun x9 => lN (el x9))))), (yQ, .inl (cL, 32, .inr (.inl (fun x9 => lN (qt x9))))), (yS, .inl (cL, 48, .inr (.inl (fun x9 => lN (su x9))))), (yD, .inl (cL, 32, .inr (.inl (fun x9 => lN (pr x9)))))]) H := hP
  have hD : va_D A ([(y0, .inr (5, [.int (nI 0), .ref yR, .int (nI cn), .int (nI pb), .ref yV, .ref yI, .int (z_b md), .long (lN ta), .long (lN al), .long (lN be), .long (lN ga), .long (lN de), .long (lN va), .ref yX, .int (z_b pd), .ref yP, .ref yQ, .ref yS, .ref yD])), (yR, .inl (cL, 816, .inr (.inl (fun x9 => lN (f x9))))), (yV, .inl (cL, 16, .inr (.inl (fun x9 => lN (v x9))))), (yI, .inl (cL, 16, .inr (.inl (fun x9 => lN (inp x9))))), (yX, .inl (cL, 16, .inr (.inl (fun x9 => lN (mx x9))))), (yP, .inl (cL, 3, .inr (.inl (fun x9 => lN (el x9))))), (yQ, .inl (cL, 32, .inr (.inl (fun x9 => lN (qt x9))))), (yS, .inl (cL, 48, .inr (.inl (fun x9 => lN (su x9))))), (yD, .inl (cL, 32, .inr (.inl (fun x9 => lN (pr x9)))))]) := hD
  refine lv_aload_n F.1 F.2.1 dT_open_5 rfl (lv_at hl 0 rfl) ?_
  refine z_call (z_runV [] [] F (ct_firstOpen l dC dI cI cL _ 0 1 2 y0 yR yV yI yX yP yQ yS yD 0 cn pb ta al be ga de va md pd f v rfl rfl rfl hf hv hn) kk_T_firstOpen wl_T_64 rfl rfl ⟨Nat.le_of_ble_eq_true rfl, Nat.le_of_ble_eq_true rfl⟩ (z_preVR (q := (RT, TT, 19)) hP hK rfl (q0 := 0) rfl) rfl hl.1 rfl (Nat.le_of_ble_eq_true rfl) dT_open_6 ⟨Nat.zero_le _, Nat.zero_le _⟩) ?_
  exact W.iret F.1 F.2.1 hr (fun t ht hW => ⟨rfl, by rw [ht]; exact hP, va_K.moved hW.alike hK, hD, hS.F ht⟩) hS.2.2 dT_open_9
set_option maxHeartbeats 4000000 in
set_option maxRecDepth 100000 in
theorem ct_polynomial (l : Launch) (dC : Nat → ClassId) (dI : Nat → Nat → Nat) (cI cL : ClassId) (zz : Nat) (y0 yR yV yI yX yP yQ yS yD : Nat) (th cn pb ta al be ga de va : Nat) (md pd : Bool) (f v inp mx el qt su pr : Nat → Nat) (row i k : Nat) (hf : ∀ j, f j < 998244353) (hn : cn ≤ 16) (hrow : row < 3) (hi : i < 16) (hk : k < szN cn) : Met l yT_polynomial (zW yT_polynomial cT_polynomial 4 (.some .int)) ({ frames := 3, cells := 0, slots := 0, locals := 82 }) (va_Pc [.ref y0, .int (nI row), .int (nI i), .int (nI k)] (z_P (dC, dI) vwCl [(cI, .int), (cL, .long)] zz ([(y0, .inr (5, [.int (nI th), .ref yR, .int (nI cn), .int (nI pb), .ref yV, .ref yI, .int (z_b md), .long (lN ta), .long (lN al), .long (lN be), .long (lN ga), .long (lN de), .long (lN va), .ref yX, .int (z_b pd), .ref yP, .ref yQ, .ref yS, .ref yD])), (yR, .inl (cL, 816, .inr (.inl (fun x9 => lN (f x9))))), (yV, .inl (cL, 16, .inr (.inl (fun x9 => lN (v x9))))), (yI, .inl (cL, 16, .inr (.inl (fun x9 => lN (inp x9))))), (yX, .inl (cL, 16, .inr (.inl (fun x9 => lN (mx x9))))), (yP, .inl (cL, 3, .inr (.inl (fun x9 => lN (el x9))))), (yQ, .inl (cL, 32, .inr (.inl (fun x9 => lN (qt x9))))), (yS, .inl (cL, 48, .inr (.inl (fun x9 => lN (su x9))))), (yD, .inl (cL, 32, .inr (.inl (fun x9 => lN (pr x9)))))]))) (z_Q (dC, dI) vwCl [(cI, .int), (cL, .long)] (some (.int (nI (cf cn (szN cn) (fun t => f ((t * 3 + row) * 16 + i)) k)))) ([(y0, .inr (5, [.int (nI 0), .ref yR, .int (nI cn), .int (nI pb), .ref yV, .ref yI, .int (z_b md), .long (lN ta), .long (lN al), .long (lN be), .long (lN ga), .long (lN de), .long (lN va), .ref yX, .int (z_b pd), .ref yP, .ref yQ, .ref yS, .ref yD])), (yR, .inl (cL, 816, .inr (.inl (fun x9 => lN (f x9))))), (yV, .inl (cL, 16, .inr (.inl (fun x9 => lN (v x9))))), (yI, .inl (cL, 16, .inr (.inl (fun x9 => lN (inp x9))))), (yX, .inl (cL, 16, .inr (.inl (fun x9 => lN (mx x9))))), (yP, .inl (cL, 3, .inr (.inl (fun x9 => lN (el x9))))), (yQ, .inl (cL, 32, .inr (.inl (fun x9 => lN (qt x9))))), (yS, .inl (cL, 48, .inr (.inl (fun x9 => lN (su x9))))), (yD, .inl (cL, 32, .inr (.inl (fun x9 => lN (pr x9)))))]) (va_A ([(y0, .inr (5, [.int (nI th), .ref yR, .int (nI cn), .int (nI pb), .ref yV, .ref yI, .int (z_b md), .long (lN ta), .long (lN al), .long (lN be), .long (lN ga), .long (lN de), .long (lN va), .ref yX, .int (z_b pd), .ref yP, .ref yQ, .ref yS, .ref yD])), (yR, .inl (cL, 816, .inr (.inl (fun x9 => lN (f x9))))), (yV, .inl (cL, 16, .inr (.inl (fun x9 => lN (v x9))))), (yI, .inl (cL, 16, .inr (.inl (fun x9 => lN (inp x9))))), (yX, .inl (cL, 16, .inr (.inl (fun x9 => lN (mx x9))))), (yP, .inl (cL, 3, .inr (.inl (fun x9 => lN (el x9))))), (yQ, .inl (cL, 32, .inr (.inl (fun x9 => lN (qt x9))))), (yS, .inl (cL, 48, .inr (.inl (fun x9 => lN (su x9))))), (yD, .inl (cL, 32, .inr (.inl (fun x9 => lN (pr x9)))))]) zz)) 0 0 (va_A ([(y0, .inr (5, [.int (nI th), .ref yR, .int (nI cn), .int (nI pb), .ref yV, .ref yI, .int (z_b md), .long (lN ta), .long (lN al), .long (lN be), .long (lN ga), .long (lN de), .long (lN va), .ref yX, .int (z_b pd), .ref yP, .ref yQ, .ref yS, .ref yD])), (yR, .inl (cL, 816, .inr (.inl (fun x9 => lN (f x9))))), (yV, .inl (cL, 16, .inr (.inl (fun x9 => lN (v x9))))), (yI, .inl (cL, 16, .inr (.inl (fun x9 => lN (inp x9))))), (yX, .inl (cL, 16, .inr (.inl (fun x9 => lN (mx x9))))), (yP, .inl (cL, 3, .inr (.inl (fun x9 => lN (el x9))))), (yQ, .inl (cL, 32, .inr (.inl (fun x9 => lN (qt x9))))), (yS, .inl (cL, 48, .inr (.inl (fun x9 => lN (su x9))))), (yD, .inl (cL, 32, .inr (.inl (fun x9 => lN (pr x9)))))]) zz) := by
  refine Met.ofW (cc := cT_polynomial) (maxL := 4) (ret := (.some .int)) (by decide) rfl ?_
  intro p e s m args below meth c s₁ B hml hv
  obtain ⟨rfl, hsz, hP, hK, hD0⟩ := hv
  have F : CallFix p m c cT_polynomial 4 s _ zT RT := ⟨B.exec, B.bytes, hml, findClass_of_methodNamed B.named, fun w h => atoms_spec (ws := (zW yT_polynomial cT_polynomial 4 (.some .int))) B.pre w (List.mem_cons_of_mem _ h)⟩
  have hr := B.returns
  have hlocks := B.notSynchronized
  subst hsz
  have hD := hD0.self (sz := s.heap.size)
  generalize hAe : va_A ([(y0, .inr (5, [.int (nI th), .ref yR, .int (nI cn), .int (nI pb), .ref yV, .ref yI, .int (z_b md), .long (lN ta), .long (lN al), .long (lN be), .long (lN ga), .long (lN de), .long (lN va), .ref yX, .int (z_b pd), .ref yP, .ref yQ, .ref yS, .ref yD])), (yR, .inl (cL, 816, .inr (.inl (fun x9 => lN (f x9))))), (yV, .inl (cL, 16, .inr (.inl (fun x9 => lN (v x9))))), (yI, .inl (cL, 16, .inr (.inl (fun x9 => lN (inp x9))))), (yX, .inl (cL, 16, .inr (.inl (fun x9 => lN (mx x9))))), (yP, .inl (cL, 3, .inr (.inl (fun x9 => lN (el x9))))), (yQ, .inl (cL, 32, .inr (.inl (fun x9 => lN (qt x9))))), (yS, .inl (cL, 48, .inr (.inl (fun x9 => lN (su x9))))), (yD, .inl (cL, 32, .inr (.inl (fun x9 => lN (pr x9)))))]) s.heap.size = A at hD ⊢
  have hAA : ∀ q : Nat, s.heap.size ≤ q → A q := fun q h => by rw [← hAe]; exact Or.inr h
  have hS : va_S A s.heap s.heap [] := va_S.rf
  have hl := lv_entry ([.ref y0, .int (nI row), .int (nI i), .int (nI k)]) (n := 4) (Nat.le_of_ble_eq_true rfl)
  rw [lg_entry_eq]
  generalize (lg_sl ([.ref y0, .int (nI row), .int (nI i), .int (nI k)]) ++ List.replicate (4 - (lg_sl ([.ref y0, .int (nI row), .int (nI i), .int (nI k)])).length) Slot.unset).toArray = ls at hl ⊢
  have hl : lv_has ls 4 [(0, .ref y0), (1, .int (nI row)), (2, .int (nI i)), (3, .int (nI k))] := hl
  have hlo := szN_lo cn
  have hhi := szN_hi cn
  refine lv_aload_n F.1 F.2.1 dT_polynomial_0 rfl (lv_at hl 0 rfl) ?_
  refine z_iconst (v := 0) F (by decide) dT_polynomial_1 ?_
  refine z_put F hK hP hD hS hinT tyT tyT_ok nmT 0 rfl rfl 0 (by decide) rfl rfl wf_T_34 (rfl) (rfl) (Nat.le_of_ble_eq_true rfl) dT_polynomial_2 (fun H locs hP hD hS => ?_)
  have hP : va_P (dC, dI) vwCl ([(y0, .inr (5, [.int (nI 0), .ref yR, .int (nI cn), .int (nI pb), .ref yV, .ref yI, .int (z_b md), .long (lN ta), .long (lN al), .long (lN be), .long (lN ga), .long (lN de), .long (lN va), .ref yX, .int (z_b pd), .ref yP, .ref yQ, .ref yS, .ref yD])), (yR, .inl (cL, 816, .inr (.inl (fun x9 => lN (f x9))))), (yV, .inl (cL, 16, .inr (.inl (fun x9 => lN (v x9))))), (yI, .inl (cL, 16, .inr (.inl (fun x9 => lN (inp x9))))), (yX, .inl (cL, 16, .inr (.inl (fun x9 => lN (mx x9))))), (yP, .inl (cL, 3, .inr (.inl (fun x9 => lN (el x9))))), (yQ, .inl (cL, 32, .inr (.inl (fun x9 => lN (qt x9))))), (yS, .inl (cL, 48, .inr (.inl (fun x9 => lN (su x9))))), (yD, .inl (cL, 32, .inr (.inl (fun x9 => lN (pr x9)))))]) H := hP
  have hD : va_D A ([(y0, .inr (5, [.int (nI 0), .ref yR, .int (nI cn), .int (nI pb), .ref yV, .ref yI, .int (z_b md), .long (lN ta), .long (lN al), .long (lN be), .long (lN ga), .long (lN de), .long (lN va), .ref yX, .int (z_b pd), .ref yP, .ref yQ, .ref yS, .ref yD])), (yR, .inl (cL, 816, .inr (.inl (fun x9 => lN (f x9))))), (yV, .inl (cL, 16, .inr (.inl (fun x9 => lN (v x9))))), (yI, .inl (cL, 16, .inr (.inl (fun x9 => lN (inp x9))))), (yX, .inl (cL, 16, .inr (.inl (fun x9 => lN (mx x9))))), (yP, .inl (cL, 3, .inr (.inl (fun x9 => lN (el x9))))), (yQ, .inl (cL, 32, .inr (.inl (fun x9 => lN (qt x9))))), (yS, .inl (cL, 48, .inr (.inl (fun x9 => lN (su x9))))), (yD, .inl (cL, 32, .inr (.inl (fun x9 => lN (pr x9)))))]) := hD
  refine lv_iload_n F.1 F.2.1 dT_polynomial_5 rfl (lv_at hl 1 rfl) ?_
  refine lv_if_lt F.1 F.2.1 (tgt := 36) dT_polynomial_6 rfl (fun h => absurd h (nI_pos (by omega))) (fun h => ?_)
  refine lv_iload_n F.1 F.2.1 dT_polynomial_9 rfl (lv_at hl 1 rfl) ?_
  refine z_iconst (v := 2) F (by decide) dT_polynomial_10 ?_
  refine z_icmp_gt F (by omega) (by omega) (tgt := 36) dT_polynomial_11 rfl (fun h => absurd h (by omega)) (fun h => ?_)
  refine lv_iload_n F.1 F.2.1 dT_polynomial_14 rfl (lv_at hl 2 rfl) ?_
  refine lv_if_lt F.1 F.2.1 (tgt := 36) dT_polynomial_15 rfl (fun h => absurd h (nI_pos (by omega))) (fun h => ?_)
  refine lv_iload_n F.1 F.2.1 dT_polynomial_18 rfl (lv_at hl 2 rfl) ?_
  refine z_bipush (v := 15) F (by decide) dT_polynomial_19 ?_
  refine z_icmp_gt F (by omega) (by omega) (tgt := 36) dT_polynomial_21 rfl (fun h => absurd h (by omega)) (fun h => ?_)
  refine lv_iload_n F.1 F.2.1 dT_polynomial_24 rfl (lv_at hl 3 rfl) ?_
  refine lv_if_lt F.1 F.2.1 (tgt := 36) dT_polynomial_25 rfl (fun h => absurd h (nI_pos (by omega))) (fun h => ?_)
  refine lv_iload_n F.1 F.2.1 dT_polynomial_28 rfl (lv_at hl 3 rfl) ?_
  refine lv_aload_n F.1 F.2.1 dT_polynomial_29 rfl (lv_at hl 0 rfl) ?_
  refine z_call (z_runV [] [.int (nI k)] F (ct_size l dC dI cI cL _ 0 y0 yR yV yI yX yP yQ yS yD 0 cn pb ta al be ga de va md pd rfl hn) kk_T_size wl_T_68 rfl rfl ⟨Nat.le_of_ble_eq_true rfl, Nat.le_of_ble_eq_true rfl⟩ (z_preVR (q := (RT, TT, 19)) hP hK rfl (q0 := 0) rfl) rfl hl.1 rfl (Nat.le_of_ble_eq_true rfl) dT_polynomial_30 ⟨Nat.zero_le _, Nat.zero_le _⟩) ?_
  refine z_icmp_lt F (by omega) (by omega) (tgt := 40) dT_polynomial_33 rfl (fun h => ?_) (fun h => absurd h (by omega))
  refine lv_aload_n F.1 F.2.1 dT_polynomial_40 rfl (lv_at hl 0 rfl) ?_
  refine lv_iload_n F.1 F.2.1 dT_polynomial_41 rfl (lv_at hl 1 rfl) ?_
  refine lv_iload_n F.1 F.2.1 dT_polynomial_42 rfl (lv_at hl 2 rfl) ?_
  refine lv_iload_n F.1 F.2.1 dT_polynomial_43 rfl (lv_at hl 3 rfl) ?_
  refine z_call (z_runV [.int (nI row), .int (nI i), .int (nI k)] [] F (ct_coefficient l dC dI cI cL _ 0 1 y0 yR yV yI yX yP yQ yS yD 0 cn pb ta al be ga de va md pd f row i k rfl rfl hf hi hrow hn (by omega)) kk_T_coefficient wl_T_79 rfl rfl ⟨Nat.le_of_ble_eq_true rfl, Nat.le_of_ble_eq_true rfl⟩ (z_preVR (q := (RT, TT, 19)) hP hK rfl (q0 := 0) rfl) rfl hl.1 rfl (Nat.le_of_ble_eq_true rfl) dT_polynomial_44 ⟨Nat.zero_le _, Nat.zero_le _⟩) ?_
  refine z_l2i F dT_polynomial_47 ?_
  exact W.iret F.1 F.2.1 hr (fun t ht hW => ⟨rfl, by rw [ht]; exact hP, va_K.moved hW.alike hK, hD, hS.F ht⟩) hS.2.2 dT_polynomial_48
set_option maxHeartbeats 4000000 in
set_option maxRecDepth 100000 in
theorem ct_polynomial_no (l : Launch) (dC : Nat → ClassId) (dI : Nat → Nat → Nat) (cI cL : ClassId) (zz : Nat) (y0 yR yV yI yX yP yQ yS yD : Nat) (th cn pb ta al be ga de va : Nat) (md pd : Bool) (f v inp mx el qt su pr : Nat → Nat) (x y z : Int32) (hn : cn ≤ 16) (hq : (bl x 3 && (bl y 16 && bl z (szN cn))) = false) : Met l yT_polynomial (zW yT_polynomial cT_polynomial 4 (.some .int)) ({ frames := 1, cells := 0, slots := 0, locals := 20 }) (va_Pc [.ref y0, .int x, .int y, .int z] (z_P (dC, dI) vwCl [(cI, .int), (cL, .long)] zz ([(y0, .inr (5, [.int (nI th), .ref yR, .int (nI cn), .int (nI pb), .ref yV, .ref yI, .int (z_b md), .long (lN ta), .long (lN al), .long (lN be), .long (lN ga), .long (lN de), .long (lN va), .ref yX, .int (z_b pd), .ref yP, .ref yQ, .ref yS, .ref yD])), (yR, .inl (cL, 816, .inr (.inl (fun x9 => lN (f x9))))), (yV, .inl (cL, 16, .inr (.inl (fun x9 => lN (v x9))))), (yI, .inl (cL, 16, .inr (.inl (fun x9 => lN (inp x9))))), (yX, .inl (cL, 16, .inr (.inl (fun x9 => lN (mx x9))))), (yP, .inl (cL, 3, .inr (.inl (fun x9 => lN (el x9))))), (yQ, .inl (cL, 32, .inr (.inl (fun x9 => lN (qt x9))))), (yS, .inl (cL, 48, .inr (.inl (fun x9 => lN (su x9))))), (yD, .inl (cL, 32, .inr (.inl (fun x9 => lN (pr x9)))))]))) (z_Q (dC, dI) vwCl [(cI, .int), (cL, .long)] (some (.int ((-1)))) ([(y0, .inr (5, [.int (nI 0), .ref yR, .int (nI cn), .int (nI pb), .ref yV, .ref yI, .int (z_b md), .long (lN ta), .long (lN al), .long (lN be), .long (lN ga), .long (lN de), .long (lN va), .ref yX, .int (z_b pd), .ref yP, .ref yQ, .ref yS, .ref yD])), (yR, .inl (cL, 816, .inr (.inl (fun x9 => lN (f x9))))), (yV, .inl (cL, 16, .inr (.inl (fun x9 => lN (v x9))))), (yI, .inl (cL, 16, .inr (.inl (fun x9 => lN (inp x9))))), (yX, .inl (cL, 16, .inr (.inl (fun x9 => lN (mx x9))))), (yP, .inl (cL, 3, .inr (.inl (fun x9 => lN (el x9))))), (yQ, .inl (cL, 32, .inr (.inl (fun x9 => lN (qt x9))))), (yS, .inl (cL, 48, .inr (.inl (fun x9 => lN (su x9))))), (yD, .inl (cL, 32, .inr (.inl (fun x9 => lN (pr x9)))))]) (va_A ([(y0, .inr (5, [.int (nI th), .ref yR, .int (nI cn), .int (nI pb), .ref yV, .ref yI, .int (z_b md), .long (lN ta), .long (lN al), .long (lN be), .long (lN ga), .long (lN de), .long (lN va), .ref yX, .int (z_b pd), .ref yP, .ref yQ, .ref yS, .ref yD])), (yR, .inl (cL, 816, .inr (.inl (fun x9 => lN (f x9))))), (yV, .inl (cL, 16, .inr (.inl (fun x9 => lN (v x9))))), (yI, .inl (cL, 16, .inr (.inl (fun x9 => lN (inp x9))))), (yX, .inl (cL, 16, .inr (.inl (fun x9 => lN (mx x9))))), (yP, .inl (cL, 3, .inr (.inl (fun x9 => lN (el x9))))), (yQ, .inl (cL, 32, .inr (.inl (fun x9 => lN (qt x9))))), (yS, .inl (cL, 48, .inr (.inl (fun x9 => lN (su x9))))), (yD, .inl (cL, 32, .inr (.inl (fun x9 => lN (pr x9)))))]) zz)) 0 0 (va_A ([(y0, .inr (5, [.int (nI th), .ref yR, .int (nI cn), .int (nI pb), .ref yV, .ref yI, .int (z_b md), .long (lN ta), .long (lN al), .long (lN be), .long (lN ga), .long (lN de), .long (lN va), .ref yX, .int (z_b pd), .ref yP, .ref yQ, .ref yS, .ref yD])), (yR, .inl (cL, 816, .inr (.inl (fun x9 => lN (f x9))))), (yV, .inl (cL, 16, .inr (.inl (fun x9 => lN (v x9))))), (yI, .inl (cL, 16, .inr (.inl (fun x9 => lN (inp x9))))), (yX, .inl (cL, 16, .inr (.inl (fun x9 => lN (mx x9))))), (yP, .inl (cL, 3, .inr (.inl (fun x9 => lN (el x9))))), (yQ, .inl (cL, 32, .inr (.inl (fun x9 => lN (qt x9))))), (yS, .inl (cL, 48, .inr (.inl (fun x9 => lN (su x9))))), (yD, .inl (cL, 32, .inr (.inl (fun x9 => lN (pr x9)))))]) zz) := by
  refine Met.ofW (cc := cT_polynomial) (maxL := 4) (ret := (.some .int)) (by decide) rfl ?_
  intro p e s m args below meth c s₁ B hml hv
  obtain ⟨rfl, hsz, hP, hK, hD0⟩ := hv
  have F : CallFix p m c cT_polynomial 4 s _ zT RT := ⟨B.exec, B.bytes, hml, findClass_of_methodNamed B.named, fun w h => atoms_spec (ws := (zW yT_polynomial cT_polynomial 4 (.some .int))) B.pre w (List.mem_cons_of_mem _ h)⟩
  have hr := B.returns
  have hlocks := B.notSynchronized
  subst hsz
  have hD := hD0.self (sz := s.heap.size)
  generalize hAe : va_A ([(y0, .inr (5, [.int (nI th), .ref yR, .int (nI cn), .int (nI pb), .ref yV, .ref yI, .int (z_b md), .long (lN ta), .long (lN al), .long (lN be), .long (lN ga), .long (lN de), .long (lN va), .ref yX, .int (z_b pd), .ref yP, .ref yQ, .ref yS, .ref yD])), (yR, .inl (cL, 816, .inr (.inl (fun x9 => lN (f x9))))), (yV, .inl (cL, 16, .inr (.inl (fun x9 => lN (v x9))))), (yI, .inl (cL, 16, .inr (.inl (fun x9 => lN (inp x9))))), (yX, .inl (cL, 16, .inr (.inl (fun x9 => lN (mx x9))))), (yP, .inl (cL, 3, .inr (.inl (fun x9 => lN (el x9))))), (yQ, .inl (cL, 32, .inr (.inl (fun x9 => lN (qt x9))))), (yS, .inl (cL, 48, .inr (.inl (fun x9 => lN (su x9))))), (yD, .inl (cL, 32, .inr (.inl (fun x9 => lN (pr x9)))))]) s.heap.size = A at hD ⊢
  have hAA : ∀ q : Nat, s.heap.size ≤ q → A q := fun q h => by rw [← hAe]; exact Or.inr h
  have hS : va_S A s.heap s.heap [] := va_S.rf
  have hl := lv_entry ([.ref y0, .int x, .int y, .int z]) (n := 4) (Nat.le_of_ble_eq_true rfl)
  rw [lg_entry_eq]
  generalize (lg_sl ([.ref y0, .int x, .int y, .int z]) ++ List.replicate (4 - (lg_sl ([.ref y0, .int x, .int y, .int z])).length) Slot.unset).toArray = ls at hl ⊢
  have hl : lv_has ls 4 [(0, .ref y0), (1, .int x), (2, .int y), (3, .int z)] := hl
  have hlo := szN_lo cn
  have hhi := szN_hi cn
  refine lv_aload_n F.1 F.2.1 dT_polynomial_0 rfl (lv_at hl 0 rfl) ?_
  refine z_iconst (v := 0) F (by decide) dT_polynomial_1 ?_
  refine z_put F hK hP hD hS hinT tyT tyT_ok nmT 0 rfl rfl 0 (by decide) rfl rfl wf_T_34 (rfl) (rfl) (Nat.le_of_ble_eq_true rfl) dT_polynomial_2 (fun H locs hP hD hS => ?_)
  have hP : va_P (dC, dI) vwCl ([(y0, .inr (5, [.int (nI 0), .ref yR, .int (nI cn), .int (nI pb), .ref yV, .ref yI, .int (z_b md), .long (lN ta), .long (lN al), .long (lN be), .long (lN ga), .long (lN de), .long (lN va), .ref yX, .int (z_b pd), .ref yP, .ref yQ, .ref yS, .ref yD])), (yR, .inl (cL, 816, .inr (.inl (fun x9 => lN (f x9))))), (yV, .inl (cL, 16, .inr (.inl (fun x9 => lN (v x9))))), (yI, .inl (cL, 16, .inr (.inl (fun x9 => lN (inp x9))))), (yX, .inl (cL, 16, .inr (.inl (fun x9 => lN (mx x9))))), (yP, .inl (cL, 3, .inr (.inl (fun x9 => lN (el x9))))), (yQ, .inl (cL, 32, .inr (.inl (fun x9 => lN (qt x9))))), (yS, .inl (cL, 48, .inr (.inl (fun x9 => lN (su x9))))), (yD, .inl (cL, 32, .inr (.inl (fun x9 => lN (pr x9)))))]) H := hP
  have hD : va_D A ([(y0, .inr (5, [.int (nI 0), .ref yR, .int (nI cn), .int (nI pb), .ref yV, .ref yI, .int (z_b md), .long (lN ta), .long (lN al), .long (lN be), .long (lN ga), .long (lN de), .long (lN va), .ref yX, .int (z_b pd), .ref yP, .ref yQ, .ref yS, .ref yD])), (yR, .inl (cL, 816, .inr (.inl (fun x9 => lN (f x9))))), (yV, .inl (cL, 16, .inr (.inl (fun x9 => lN (v x9))))), (yI, .inl (cL, 16, .inr (.inl (fun x9 => lN (inp x9))))), (yX, .inl (cL, 16, .inr (.inl (fun x9 => lN (mx x9))))), (yP, .inl (cL, 3, .inr (.inl (fun x9 => lN (el x9))))), (yQ, .inl (cL, 32, .inr (.inl (fun x9 => lN (qt x9))))), (yS, .inl (cL, 48, .inr (.inl (fun x9 => lN (su x9))))), (yD, .inl (cL, 32, .inr (.inl (fun x9 => lN (pr x9)))))]) := hD
  cases h9 : bl x 3 with
  | false =>
    refine lv_iload_n F.1 F.2.1 dT_polynomial_5 rfl (lv_at hl 1 rfl) ?_
    refine lv_if_lt F.1 F.2.1 (tgt := 36) dT_polynomial_6 rfl (fun h1 => ?_) (fun h1 => ?_)
    · refine lv_iconst (v := -1) F.1 F.2.1 dT_polynomial_36 (by decide) ?_
      refine lv_goto F.1 F.2.1 (tgt := 48) dT_polynomial_37 rfl ?_
      exact W.iret F.1 F.2.1 hr (fun t ht hW => ⟨rfl, by rw [ht]; exact hP, va_K.moved hW.alike hK, hD, hS.F ht⟩) hS.2.2 dT_polynomial_48
    · obtain ⟨j9, hj9, rfl⟩ := nI_of h1
      have hl : lv_has ls 4 [(0, .ref y0), (1, .int (nI j9)), (2, .int y), (3, .int z)] := hl
      rw [bl_nI _ hj9] at h9
      have h8 := of_decide_eq_false h9
      refine lv_iload_n F.1 F.2.1 dT_polynomial_9 rfl (lv_at hl 1 rfl) ?_
      refine z_iconst (v := 2) F (by decide) dT_polynomial_10 ?_
      refine z_icmp_gt F (by omega) (by omega) (tgt := 36) dT_polynomial_11 rfl (fun h => ?_) (fun h => absurd h (by omega))
      refine lv_iconst (v := -1) F.1 F.2.1 dT_polynomial_36 (by decide) ?_
      refine lv_goto F.1 F.2.1 (tgt := 48) dT_polynomial_37 rfl ?_
      exact W.iret F.1 F.2.1 hr (fun t ht hW => ⟨rfl, by rw [ht]; exact hP, va_K.moved hW.alike hK, hD, hS.F ht⟩) hS.2.2 dT_polynomial_48
  | true =>
    rw [h9, Bool.true_and] at hq
    obtain ⟨x, hx, rfl⟩ := bl_of h9 (by decide)
    have hl : lv_has ls 4 [(0, .ref y0), (1, .int (nI x)), (2, .int y), (3, .int z)] := hl
    clear h9
    refine lv_iload_n F.1 F.2.1 dT_polynomial_5 rfl (lv_at hl 1 rfl) ?_
    refine lv_if_lt F.1 F.2.1 (tgt := 36) dT_polynomial_6 rfl (fun h => absurd h (nI_pos (by omega))) (fun h => ?_)
    refine lv_iload_n F.1 F.2.1 dT_polynomial_9 rfl (lv_at hl 1 rfl) ?_
    refine z_iconst (v := 2) F (by decide) dT_polynomial_10 ?_
    refine z_icmp_gt F (by omega) (by omega) (tgt := 36) dT_polynomial_11 rfl (fun h => absurd h (by omega)) (fun h => ?_)
    cases h9 : bl y 16 with
    | false =>
      refine lv_iload_n F.1 F.2.1 dT_polynomial_14 rfl (lv_at hl 2 rfl) ?_
      refine lv_if_lt F.1 F.2.1 (tgt := 36) dT_polynomial_15 rfl (fun h1 => ?_) (fun h1 => ?_)
      · refine lv_iconst (v := -1) F.1 F.2.1 dT_polynomial_36 (by decide) ?_
        refine lv_goto F.1 F.2.1 (tgt := 48) dT_polynomial_37 rfl ?_
        exact W.iret F.1 F.2.1 hr (fun t ht hW => ⟨rfl, by rw [ht]; exact hP, va_K.moved hW.alike hK, hD, hS.F ht⟩) hS.2.2 dT_polynomial_48
      · obtain ⟨j9, hj9, rfl⟩ := nI_of h1
        have hl : lv_has ls 4 [(0, .ref y0), (1, .int (nI x)), (2, .int (nI j9)), (3, .int z)] := hl
        rw [bl_nI _ hj9] at h9
        have h8 := of_decide_eq_false h9
        refine lv_iload_n F.1 F.2.1 dT_polynomial_18 rfl (lv_at hl 2 rfl) ?_
        refine z_bipush (v := 15) F (by decide) dT_polynomial_19 ?_
        refine z_icmp_gt F (by omega) (by omega) (tgt := 36) dT_polynomial_21 rfl (fun h => ?_) (fun h => absurd h (by omega))
        refine lv_iconst (v := -1) F.1 F.2.1 dT_polynomial_36 (by decide) ?_
        refine lv_goto F.1 F.2.1 (tgt := 48) dT_polynomial_37 rfl ?_
        exact W.iret F.1 F.2.1 hr (fun t ht hW => ⟨rfl, by rw [ht]; exact hP, va_K.moved hW.alike hK, hD, hS.F ht⟩) hS.2.2 dT_polynomial_48
    | true =>
      rw [h9, Bool.true_and] at hq
      obtain ⟨y, hy, rfl⟩ := bl_of h9 (by decide)
      have hl : lv_has ls 4 [(0, .ref y0), (1, .int (nI x)), (2, .int (nI y)), (3, .int z)] := hl
      clear h9
      refine lv_iload_n F.1 F.2.1 dT_polynomial_14 rfl (lv_at hl 2 rfl) ?_
      refine lv_if_lt F.1 F.2.1 (tgt := 36) dT_polynomial_15 rfl (fun h => absurd h (nI_pos (by omega))) (fun h => ?_)
      refine lv_iload_n F.1 F.2.1 dT_polynomial_18 rfl (lv_at hl 2 rfl) ?_
      refine z_bipush (v := 15) F (by decide) dT_polynomial_19 ?_
      refine z_icmp_gt F (by omega) (by omega) (tgt := 36) dT_polynomial_21 rfl (fun h => absurd h (by omega)) (fun h => ?_)
      cases h9 : bl z (szN cn) with
      | false =>
        refine lv_iload_n F.1 F.2.1 dT_polynomial_24 rfl (lv_at hl 3 rfl) ?_
        refine lv_if_lt F.1 F.2.1 (tgt := 36) dT_polynomial_25 rfl (fun h1 => ?_) (fun h1 => ?_)
        · refine lv_iconst (v := -1) F.1 F.2.1 dT_polynomial_36 (by decide) ?_
          refine lv_goto F.1 F.2.1 (tgt := 48) dT_polynomial_37 rfl ?_
          exact W.iret F.1 F.2.1 hr (fun t ht hW => ⟨rfl, by rw [ht]; exact hP, va_K.moved hW.alike hK, hD, hS.F ht⟩) hS.2.2 dT_polynomial_48
        · obtain ⟨j9, hj9, rfl⟩ := nI_of h1
          have hl : lv_has ls 4 [(0, .ref y0), (1, .int (nI x)), (2, .int (nI y)), (3, .int (nI j9))] := hl
          rw [bl_nI _ hj9] at h9
          have h8 := of_decide_eq_false h9
          refine lv_iload_n F.1 F.2.1 dT_polynomial_28 rfl (lv_at hl 3 rfl) ?_
          refine lv_aload_n F.1 F.2.1 dT_polynomial_29 rfl (lv_at hl 0 rfl) ?_
          refine z_call (z_runV [] [.int (nI j9)] F (ct_size l dC dI cI cL _ 0 y0 yR yV yI yX yP yQ yS yD 0 cn pb ta al be ga de va md pd rfl hn) kk_T_size wl_T_68 rfl rfl ⟨Nat.le_of_ble_eq_true rfl, Nat.le_of_ble_eq_true rfl⟩ (z_preVR (q := (RT, TT, 19)) hP hK rfl (q0 := 0) rfl) rfl hl.1 rfl (Nat.le_of_ble_eq_true rfl) dT_polynomial_30 ⟨Nat.zero_le _, Nat.zero_le _⟩) ?_
          refine z_icmp_lt F (by omega) (by omega) (tgt := 40) dT_polynomial_33 rfl (fun h => absurd h (by omega)) (fun h => ?_)
          refine lv_iconst (v := -1) F.1 F.2.1 dT_polynomial_36 (by decide) ?_
          refine lv_goto F.1 F.2.1 (tgt := 48) dT_polynomial_37 rfl ?_
          exact W.iret F.1 F.2.1 hr (fun t ht hW => ⟨rfl, by rw [ht]; exact hP, va_K.moved hW.alike hK, hD, hS.F ht⟩) hS.2.2 dT_polynomial_48
      | true =>
        rw [h9] at hq
        cases hq
set_option maxHeartbeats 4000000 in
set_option maxRecDepth 100000 in
theorem ct_proof (l : Launch) (dC : Nat → ClassId) (dI : Nat → Nat → Nat) (cI cL : ClassId) (zz : Nat) (y0 yR yV yI yX yP yQ yS yD : Nat) (th cn pb ta al be ga de va : Nat) (md pd : Bool) (f v inp mx el qt su pr : Nat → Nat) (x : Int32)  : Met l yT_proof (zW yT_proof cT_proof 2 (.some .int)) ({ frames := 0, cells := 0, slots := 0, locals := 0 }) (va_Pc [.ref y0, .int x] (z_P (dC, dI) vwCl [(cI, .int), (cL, .long)] zz ([(y0, .inr (5, [.int (nI th), .ref yR, .int (nI cn), .int (nI pb), .ref yV, .ref yI, .int (z_b md), .long (lN ta), .long (lN al), .long (lN be), .long (lN ga), .long (lN de), .long (lN va), .ref yX, .int (z_b pd), .ref yP, .ref yQ, .ref yS, .ref yD])), (yR, .inl (cL, 816, .inr (.inl (fun x9 => lN (f x9))))), (yV, .inl (cL, 16, .inr (.inl (fun x9 => lN (v x9))))), (yI, .inl (cL, 16, .inr (.inl (fun x9 => lN (inp x9))))), (yX, .inl (cL, 16, .inr (.inl (fun x9 => lN (mx x9))))), (yP, .inl (cL, 3, .inr (.inl (fun x9 => lN (el x9))))), (yQ, .inl (cL, 32, .inr (.inl (fun x9 => lN (qt x9))))), (yS, .inl (cL, 48, .inr (.inl (fun x9 => lN (su x9))))), (yD, .inl (cL, 32, .inr (.inl (fun x9 => lN (pr x9)))))]))) (z_Q (dC, dI) vwCl [(cI, .int), (cL, .long)] (some (.int (if (pd && bl x 3) = true then nI (el x.toNatClampNeg) else -1))) ([(y0, .inr (5, [.int (nI 0), .ref yR, .int (nI cn), .int (nI pb), .ref yV, .ref yI, .int (z_b md), .long (lN ta), .long (lN al), .long (lN be), .long (lN ga), .long (lN de), .long (lN va), .ref yX, .int (z_b pd), .ref yP, .ref yQ, .ref yS, .ref yD])), (yR, .inl (cL, 816, .inr (.inl (fun x9 => lN (f x9))))), (yV, .inl (cL, 16, .inr (.inl (fun x9 => lN (v x9))))), (yI, .inl (cL, 16, .inr (.inl (fun x9 => lN (inp x9))))), (yX, .inl (cL, 16, .inr (.inl (fun x9 => lN (mx x9))))), (yP, .inl (cL, 3, .inr (.inl (fun x9 => lN (el x9))))), (yQ, .inl (cL, 32, .inr (.inl (fun x9 => lN (qt x9))))), (yS, .inl (cL, 48, .inr (.inl (fun x9 => lN (su x9))))), (yD, .inl (cL, 32, .inr (.inl (fun x9 => lN (pr x9)))))]) (va_A ([(y0, .inr (5, [.int (nI th), .ref yR, .int (nI cn), .int (nI pb), .ref yV, .ref yI, .int (z_b md), .long (lN ta), .long (lN al), .long (lN be), .long (lN ga), .long (lN de), .long (lN va), .ref yX, .int (z_b pd), .ref yP, .ref yQ, .ref yS, .ref yD])), (yR, .inl (cL, 816, .inr (.inl (fun x9 => lN (f x9))))), (yV, .inl (cL, 16, .inr (.inl (fun x9 => lN (v x9))))), (yI, .inl (cL, 16, .inr (.inl (fun x9 => lN (inp x9))))), (yX, .inl (cL, 16, .inr (.inl (fun x9 => lN (mx x9))))), (yP, .inl (cL, 3, .inr (.inl (fun x9 => lN (el x9))))), (yQ, .inl (cL, 32, .inr (.inl (fun x9 => lN (qt x9))))), (yS, .inl (cL, 48, .inr (.inl (fun x9 => lN (su x9))))), (yD, .inl (cL, 32, .inr (.inl (fun x9 => lN (pr x9)))))]) zz)) 0 0 (va_A ([(y0, .inr (5, [.int (nI th), .ref yR, .int (nI cn), .int (nI pb), .ref yV, .ref yI, .int (z_b md), .long (lN ta), .long (lN al), .long (lN be), .long (lN ga), .long (lN de), .long (lN va), .ref yX, .int (z_b pd), .ref yP, .ref yQ, .ref yS, .ref yD])), (yR, .inl (cL, 816, .inr (.inl (fun x9 => lN (f x9))))), (yV, .inl (cL, 16, .inr (.inl (fun x9 => lN (v x9))))), (yI, .inl (cL, 16, .inr (.inl (fun x9 => lN (inp x9))))), (yX, .inl (cL, 16, .inr (.inl (fun x9 => lN (mx x9))))), (yP, .inl (cL, 3, .inr (.inl (fun x9 => lN (el x9))))), (yQ, .inl (cL, 32, .inr (.inl (fun x9 => lN (qt x9))))), (yS, .inl (cL, 48, .inr (.inl (fun x9 => lN (su x9))))), (yD, .inl (cL, 32, .inr (.inl (fun x9 => lN (pr x9)))))]) zz) := by
  refine Met.ofW (cc := cT_proof) (maxL := 2) (ret := (.some .int)) (by decide) rfl ?_
  intro p e s m args below meth c s₁ B hml hv
  obtain ⟨rfl, hsz, hP, hK, hD0⟩ := hv
  have F : CallFix p m c cT_proof 2 s _ zT RT := ⟨B.exec, B.bytes, hml, findClass_of_methodNamed B.named, fun w h => atoms_spec (ws := (zW yT_proof cT_proof 2 (.some .int))) B.pre w (List.mem_cons_of_mem _ h)⟩
  have hr := B.returns
  have hlocks := B.notSynchronized
  subst hsz
  have hD := hD0.self (sz := s.heap.size)
  generalize hAe : va_A ([(y0, .inr (5, [.int (nI th), .ref yR, .int (nI cn), .int (nI pb), .ref yV, .ref yI, .int (z_b md), .long (lN ta), .long (lN al), .long (lN be), .long (lN ga), .long (lN de), .long (lN va), .ref yX, .int (z_b pd), .ref yP, .ref yQ, .ref yS, .ref yD])), (yR, .inl (cL, 816, .inr (.inl (fun x9 => lN (f x9))))), (yV, .inl (cL, 16, .inr (.inl (fun x9 => lN (v x9))))), (yI, .inl (cL, 16, .inr (.inl (fun x9 => lN (inp x9))))), (yX, .inl (cL, 16, .inr (.inl (fun x9 => lN (mx x9))))), (yP, .inl (cL, 3, .inr (.inl (fun x9 => lN (el x9))))), (yQ, .inl (cL, 32, .inr (.inl (fun x9 => lN (qt x9))))), (yS, .inl (cL, 48, .inr (.inl (fun x9 => lN (su x9))))), (yD, .inl (cL, 32, .inr (.inl (fun x9 => lN (pr x9)))))]) s.heap.size = A at hD ⊢
  have hAA : ∀ q : Nat, s.heap.size ≤ q → A q := fun q h => by rw [← hAe]; exact Or.inr h
  have hS : va_S A s.heap s.heap [] := va_S.rf
  have hl := lv_entry ([.ref y0, .int x]) (n := 2) (Nat.le_of_ble_eq_true rfl)
  rw [lg_entry_eq]
  generalize (lg_sl ([.ref y0, .int x]) ++ List.replicate (2 - (lg_sl ([.ref y0, .int x])).length) Slot.unset).toArray = ls at hl ⊢
  have hl : lv_has ls 2 [(0, .ref y0), (1, .int x)] := hl
  generalize hR : (if (pd && bl x 3) = true then nI (el x.toNatClampNeg) else -1) = rr
  refine lv_aload_n F.1 F.2.1 dT_proof_0 rfl (lv_at hl 0 rfl) ?_
  refine z_iconst (v := 0) F (by decide) dT_proof_1 ?_
  refine z_put F hK hP hD hS hinT tyT tyT_ok nmT 0 rfl rfl 0 (by decide) rfl rfl wf_T_34 (rfl) (rfl) (Nat.le_of_ble_eq_true rfl) dT_proof_2 (fun H locs hP hD hS => ?_)
  have hP : va_P (dC, dI) vwCl ([(y0, .inr (5, [.int (nI 0), .ref yR, .int (nI cn), .int (nI pb), .ref yV, .ref yI, .int (z_b md), .long (lN ta), .long (lN al), .long (lN be), .long (lN ga), .long (lN de), .long (lN va), .ref yX, .int (z_b pd), .ref yP, .ref yQ, .ref yS, .ref yD])), (yR, .inl (cL, 816, .inr (.inl (fun x9 => lN (f x9))))), (yV, .inl (cL, 16, .inr (.inl (fun x9 => lN (v x9))))), (yI, .inl (cL, 16, .inr (.inl (fun x9 => lN (inp x9))))), (yX, .inl (cL, 16, .inr (.inl (fun x9 => lN (mx x9))))), (yP, .inl (cL, 3, .inr (.inl (fun x9 => lN (el x9))))), (yQ, .inl (cL, 32, .inr (.inl (fun x9 => lN (qt x9))))), (yS, .inl (cL, 48, .inr (.inl (fun x9 => lN (su x9))))), (yD, .inl (cL, 32, .inr (.inl (fun x9 => lN (pr x9)))))]) H := hP
  have hD : va_D A ([(y0, .inr (5, [.int (nI 0), .ref yR, .int (nI cn), .int (nI pb), .ref yV, .ref yI, .int (z_b md), .long (lN ta), .long (lN al), .long (lN be), .long (lN ga), .long (lN de), .long (lN va), .ref yX, .int (z_b pd), .ref yP, .ref yQ, .ref yS, .ref yD])), (yR, .inl (cL, 816, .inr (.inl (fun x9 => lN (f x9))))), (yV, .inl (cL, 16, .inr (.inl (fun x9 => lN (v x9))))), (yI, .inl (cL, 16, .inr (.inl (fun x9 => lN (inp x9))))), (yX, .inl (cL, 16, .inr (.inl (fun x9 => lN (mx x9))))), (yP, .inl (cL, 3, .inr (.inl (fun x9 => lN (el x9))))), (yQ, .inl (cL, 32, .inr (.inl (fun x9 => lN (qt x9))))), (yS, .inl (cL, 48, .inr (.inl (fun x9 => lN (su x9))))), (yD, .inl (cL, 32, .inr (.inl (fun x9 => lN (pr x9)))))]) := hD
  refine lv_aload_n F.1 F.2.1 dT_proof_5 rfl (lv_at hl 0 rfl) ?_
  refine z_get F hK hP hinT 0 rfl rfl 14 (by decide) rfl wf_T_119 rfl dT_proof_6 ?_
  refine z_ifb_eq F (tgt := 21) dT_proof_9 rfl (fun h0 => ?_) (fun h0 => ?_)
  · refine lv_iconst (v := -1) F.1 F.2.1 dT_proof_21 (by decide) ?_
    refine lv_goto F.1 F.2.1 (tgt := 32) dT_proof_22 rfl ?_
    refine z_topV rr (by rw [← hR, h0]; rfl) ?_
    exact W.iret F.1 F.2.1 hr (fun t ht hW => ⟨rfl, by rw [ht]; exact hP, va_K.moved hW.alike hK, hD, hS.F ht⟩) hS.2.2 dT_proof_32
  · cases h9 : bl x 3 with
    | false =>
      have h7 := h9
      refine lv_iload_n F.1 F.2.1 dT_proof_12 rfl (lv_at hl 1 rfl) ?_
      refine lv_if_lt F.1 F.2.1 (tgt := 21) dT_proof_13 rfl (fun h1 => ?_) (fun h1 => ?_)
      · refine lv_iconst (v := -1) F.1 F.2.1 dT_proof_21 (by decide) ?_
        refine lv_goto F.1 F.2.1 (tgt := 32) dT_proof_22 rfl ?_
        refine z_topV rr (by rw [← hR, h0, h7]; rfl) ?_
        exact W.iret F.1 F.2.1 hr (fun t ht hW => ⟨rfl, by rw [ht]; exact hP, va_K.moved hW.alike hK, hD, hS.F ht⟩) hS.2.2 dT_proof_32
      · obtain ⟨j9, hj9, rfl⟩ := nI_of h1
        have hl : lv_has ls 2 [(0, .ref y0), (1, .int (nI j9))] := hl
        rw [bl_nI _ hj9] at h9
        have h8 := of_decide_eq_false h9
        refine lv_iload_n F.1 F.2.1 dT_proof_16 rfl (lv_at hl 1 rfl) ?_
        refine z_iconst (v := 2) F (by decide) dT_proof_17 ?_
        refine z_icmp_le F (by omega) (by omega) (tgt := 25) dT_proof_18 rfl (fun h => absurd h (by omega)) (fun h => ?_)
        refine lv_iconst (v := -1) F.1 F.2.1 dT_proof_21 (by decide) ?_
        refine lv_goto F.1 F.2.1 (tgt := 32) dT_proof_22 rfl ?_
        refine z_topV rr (by rw [← hR, h0, h7]; rfl) ?_
        exact W.iret F.1 F.2.1 hr (fun t ht hW => ⟨rfl, by rw [ht]; exact hP, va_K.moved hW.alike hK, hD, hS.F ht⟩) hS.2.2 dT_proof_32
    | true =>
      obtain ⟨j, hj, rfl⟩ := bl_of h9 (by decide)
      have hl : lv_has ls 2 [(0, .ref y0), (1, .int (nI j))] := hl
      refine lv_iload_n F.1 F.2.1 dT_proof_12 rfl (lv_at hl 1 rfl) ?_
      refine lv_if_lt F.1 F.2.1 (tgt := 21) dT_proof_13 rfl (fun h => absurd h (nI_pos (by omega))) (fun h => ?_)
      refine lv_iload_n F.1 F.2.1 dT_proof_16 rfl (lv_at hl 1 rfl) ?_
      refine z_iconst (v := 2) F (by decide) dT_proof_17 ?_
      refine z_icmp_le F (by omega) (by omega) (tgt := 25) dT_proof_18 rfl (fun h => ?_) (fun h => absurd h (by omega))
      refine lv_aload_n F.1 F.2.1 dT_proof_25 rfl (lv_at hl 0 rfl) ?_
      refine z_get F hK hP hinT 0 rfl rfl 15 (by decide) rfl wf_T_22 rfl dT_proof_26 ?_
      refine lv_iload_n F.1 F.2.1 dT_proof_29 rfl (lv_at hl 1 rfl) ?_
      refine z_lald F hK hP 5 1 rfl rfl (by omega) (by decide) dT_proof_30 ?_
      refine z_l2i F dT_proof_31 ?_
      refine z_topV rr (by rw [← hR, h0, h9, nI_clamp (by omega)]; rfl) ?_
      exact W.iret F.1 F.2.1 hr (fun t ht hW => ⟨rfl, by rw [ht]; exact hP, va_K.moved hW.alike hK, hD, hS.F ht⟩) hS.2.2 dT_proof_32
set_option maxHeartbeats 4000000 in
set_option maxRecDepth 100000 in
theorem ct_quotient (l : Launch) (dC : Nat → ClassId) (dI : Nat → Nat → Nat) (cI cL : ClassId) (zz : Nat) (y0 yR yV yI yX yP yQ yS yD : Nat) (th cn pb ta al be ga de va : Nat) (md pd : Bool) (f v inp mx el qt su pr : Nat → Nat) (x : Int32)  : Met l yT_quotient (zW yT_quotient cT_quotient 2 (.some .int)) ({ frames := 0, cells := 0, slots := 0, locals := 0 }) (va_Pc [.ref y0, .int x] (z_P (dC, dI) vwCl [(cI, .int), (cL, .long)] zz ([(y0, .inr (5, [.int (nI th), .ref yR, .int (nI cn), .int (nI pb), .ref yV, .ref yI, .int (z_b md), .long (lN ta), .long (lN al), .long (lN be), .long (lN ga), .long (lN de), .long (lN va), .ref yX, .int (z_b pd), .ref yP, .ref yQ, .ref yS, .ref yD])), (yR, .inl (cL, 816, .inr (.inl (fun x9 => lN (f x9))))), (yV, .inl (cL, 16, .inr (.inl (fun x9 => lN (v x9))))), (yI, .inl (cL, 16, .inr (.inl (fun x9 => lN (inp x9))))), (yX, .inl (cL, 16, .inr (.inl (fun x9 => lN (mx x9))))), (yP, .inl (cL, 3, .inr (.inl (fun x9 => lN (el x9))))), (yQ, .inl (cL, 32, .inr (.inl (fun x9 => lN (qt x9))))), (yS, .inl (cL, 48, .inr (.inl (fun x9 => lN (su x9))))), (yD, .inl (cL, 32, .inr (.inl (fun x9 => lN (pr x9)))))]))) (z_Q (dC, dI) vwCl [(cI, .int), (cL, .long)] (some (.int (if (pd && bl x 16) = true then nI (qt x.toNatClampNeg) else -1))) ([(y0, .inr (5, [.int (nI 0), .ref yR, .int (nI cn), .int (nI pb), .ref yV, .ref yI, .int (z_b md), .long (lN ta), .long (lN al), .long (lN be), .long (lN ga), .long (lN de), .long (lN va), .ref yX, .int (z_b pd), .ref yP, .ref yQ, .ref yS, .ref yD])), (yR, .inl (cL, 816, .inr (.inl (fun x9 => lN (f x9))))), (yV, .inl (cL, 16, .inr (.inl (fun x9 => lN (v x9))))), (yI, .inl (cL, 16, .inr (.inl (fun x9 => lN (inp x9))))), (yX, .inl (cL, 16, .inr (.inl (fun x9 => lN (mx x9))))), (yP, .inl (cL, 3, .inr (.inl (fun x9 => lN (el x9))))), (yQ, .inl (cL, 32, .inr (.inl (fun x9 => lN (qt x9))))), (yS, .inl (cL, 48, .inr (.inl (fun x9 => lN (su x9))))), (yD, .inl (cL, 32, .inr (.inl (fun x9 => lN (pr x9)))))]) (va_A ([(y0, .inr (5, [.int (nI th), .ref yR, .int (nI cn), .int (nI pb), .ref yV, .ref yI, .int (z_b md), .long (lN ta), .long (lN al), .long (lN be), .long (lN ga), .long (lN de), .long (lN va), .ref yX, .int (z_b pd), .ref yP, .ref yQ, .ref yS, .ref yD])), (yR, .inl (cL, 816, .inr (.inl (fun x9 => lN (f x9))))), (yV, .inl (cL, 16, .inr (.inl (fun x9 => lN (v x9))))), (yI, .inl (cL, 16, .inr (.inl (fun x9 => lN (inp x9))))), (yX, .inl (cL, 16, .inr (.inl (fun x9 => lN (mx x9))))), (yP, .inl (cL, 3, .inr (.inl (fun x9 => lN (el x9))))), (yQ, .inl (cL, 32, .inr (.inl (fun x9 => lN (qt x9))))), (yS, .inl (cL, 48, .inr (.inl (fun x9 => lN (su x9))))), (yD, .inl (cL, 32, .inr (.inl (fun x9 => lN (pr x9)))))]) zz)) 0 0 (va_A ([(y0, .inr (5, [.int (nI th), .ref yR, .int (nI cn), .int (nI pb), .ref yV, .ref yI, .int (z_b md), .long (lN ta), .long (lN al), .long (lN be), .long (lN ga), .long (lN de), .long (lN va), .ref yX, .int (z_b pd), .ref yP, .ref yQ, .ref yS, .ref yD])), (yR, .inl (cL, 816, .inr (.inl (fun x9 => lN (f x9))))), (yV, .inl (cL, 16, .inr (.inl (fun x9 => lN (v x9))))), (yI, .inl (cL, 16, .inr (.inl (fun x9 => lN (inp x9))))), (yX, .inl (cL, 16, .inr (.inl (fun x9 => lN (mx x9))))), (yP, .inl (cL, 3, .inr (.inl (fun x9 => lN (el x9))))), (yQ, .inl (cL, 32, .inr (.inl (fun x9 => lN (qt x9))))), (yS, .inl (cL, 48, .inr (.inl (fun x9 => lN (su x9))))), (yD, .inl (cL, 32, .inr (.inl (fun x9 => lN (pr x9)))))]) zz) := by
  refine Met.ofW (cc := cT_quotient) (maxL := 2) (ret := (.some .int)) (by decide) rfl ?_
  intro p e s m args below meth c s₁ B hml hv
  obtain ⟨rfl, hsz, hP, hK, hD0⟩ := hv
  have F : CallFix p m c cT_quotient 2 s _ zT RT := ⟨B.exec, B.bytes, hml, findClass_of_methodNamed B.named, fun w h => atoms_spec (ws := (zW yT_quotient cT_quotient 2 (.some .int))) B.pre w (List.mem_cons_of_mem _ h)⟩
  have hr := B.returns
  have hlocks := B.notSynchronized
  subst hsz
  have hD := hD0.self (sz := s.heap.size)
  generalize hAe : va_A ([(y0, .inr (5, [.int (nI th), .ref yR, .int (nI cn), .int (nI pb), .ref yV, .ref yI, .int (z_b md), .long (lN ta), .long (lN al), .long (lN be), .long (lN ga), .long (lN de), .long (lN va), .ref yX, .int (z_b pd), .ref yP, .ref yQ, .ref yS, .ref yD])), (yR, .inl (cL, 816, .inr (.inl (fun x9 => lN (f x9))))), (yV, .inl (cL, 16, .inr (.inl (fun x9 => lN (v x9))))), (yI, .inl (cL, 16, .inr (.inl (fun x9 => lN (inp x9))))), (yX, .inl (cL, 16, .inr (.inl (fun x9 => lN (mx x9))))), (yP, .inl (cL, 3, .inr (.inl (fun x9 => lN (el x9))))), (yQ, .inl (cL, 32, .inr (.inl (fun x9 => lN (qt x9))))), (yS, .inl (cL, 48, .inr (.inl (fun x9 => lN (su x9))))), (yD, .inl (cL, 32, .inr (.inl (fun x9 => lN (pr x9)))))]) s.heap.size = A at hD ⊢
  have hAA : ∀ q : Nat, s.heap.size ≤ q → A q := fun q h => by rw [← hAe]; exact Or.inr h
  have hS : va_S A s.heap s.heap [] := va_S.rf
  have hl := lv_entry ([.ref y0, .int x]) (n := 2) (Nat.le_of_ble_eq_true rfl)
  rw [lg_entry_eq]
  generalize (lg_sl ([.ref y0, .int x]) ++ List.replicate (2 - (lg_sl ([.ref y0, .int x])).length) Slot.unset).toArray = ls at hl ⊢
  have hl : lv_has ls 2 [(0, .ref y0), (1, .int x)] := hl
  generalize hR : (if (pd && bl x 16) = true then nI (qt x.toNatClampNeg) else -1) = rr
  refine lv_aload_n F.1 F.2.1 dT_quotient_0 rfl (lv_at hl 0 rfl) ?_
  refine z_iconst (v := 0) F (by decide) dT_quotient_1 ?_
  refine z_put F hK hP hD hS hinT tyT tyT_ok nmT 0 rfl rfl 0 (by decide) rfl rfl wf_T_34 (rfl) (rfl) (Nat.le_of_ble_eq_true rfl) dT_quotient_2 (fun H locs hP hD hS => ?_)
  have hP : va_P (dC, dI) vwCl ([(y0, .inr (5, [.int (nI 0), .ref yR, .int (nI cn), .int (nI pb), .ref yV, .ref yI, .int (z_b md), .long (lN ta), .long (lN al), .long (lN be), .long (lN ga), .long (lN de), .long (lN va), .ref yX, .int (z_b pd), .ref yP, .ref yQ, .ref yS, .ref yD])), (yR, .inl (cL, 816, .inr (.inl (fun x9 => lN (f x9))))), (yV, .inl (cL, 16, .inr (.inl (fun x9 => lN (v x9))))), (yI, .inl (cL, 16, .inr (.inl (fun x9 => lN (inp x9))))), (yX, .inl (cL, 16, .inr (.inl (fun x9 => lN (mx x9))))), (yP, .inl (cL, 3, .inr (.inl (fun x9 => lN (el x9))))), (yQ, .inl (cL, 32, .inr (.inl (fun x9 => lN (qt x9))))), (yS, .inl (cL, 48, .inr (.inl (fun x9 => lN (su x9))))), (yD, .inl (cL, 32, .inr (.inl (fun x9 => lN (pr x9)))))]) H := hP
  have hD : va_D A ([(y0, .inr (5, [.int (nI 0), .ref yR, .int (nI cn), .int (nI pb), .ref yV, .ref yI, .int (z_b md), .long (lN ta), .long (lN al), .long (lN be), .long (lN ga), .long (lN de), .long (lN va), .ref yX, .int (z_b pd), .ref yP, .ref yQ, .ref yS, .ref yD])), (yR, .inl (cL, 816, .inr (.inl (fun x9 => lN (f x9))))), (yV, .inl (cL, 16, .inr (.inl (fun x9 => lN (v x9))))), (yI, .inl (cL, 16, .inr (.inl (fun x9 => lN (inp x9))))), (yX, .inl (cL, 16, .inr (.inl (fun x9 => lN (mx x9))))), (yP, .inl (cL, 3, .inr (.inl (fun x9 => lN (el x9))))), (yQ, .inl (cL, 32, .inr (.inl (fun x9 => lN (qt x9))))), (yS, .inl (cL, 48, .inr (.inl (fun x9 => lN (su x9))))), (yD, .inl (cL, 32, .inr (.inl (fun x9 => lN (pr x9)))))]) := hD
  refine lv_aload_n F.1 F.2.1 dT_quotient_5 rfl (lv_at hl 0 rfl) ?_
  refine z_get F hK hP hinT 0 rfl rfl 14 (by decide) rfl wf_T_119 rfl dT_quotient_6 ?_
  refine z_ifb_eq F (tgt := 22) dT_quotient_9 rfl (fun h0 => ?_) (fun h0 => ?_)
  · refine lv_iconst (v := -1) F.1 F.2.1 dT_quotient_22 (by decide) ?_
    refine lv_goto F.1 F.2.1 (tgt := 33) dT_quotient_23 rfl ?_
    refine z_topV rr (by rw [← hR, h0]; rfl) ?_
    exact W.iret F.1 F.2.1 hr (fun t ht hW => ⟨rfl, by rw [ht]; exact hP, va_K.moved hW.alike hK, hD, hS.F ht⟩) hS.2.2 dT_quotient_33
  · cases h9 : bl x 16 with
    | false =>
      have h7 := h9
      refine lv_iload_n F.1 F.2.1 dT_quotient_12 rfl (lv_at hl 1 rfl) ?_
      refine lv_if_lt F.1 F.2.1 (tgt := 22) dT_quotient_13 rfl (fun h1 => ?_) (fun h1 => ?_)
      · refine lv_iconst (v := -1) F.1 F.2.1 dT_quotient_22 (by decide) ?_
        refine lv_goto F.1 F.2.1 (tgt := 33) dT_quotient_23 rfl ?_
        refine z_topV rr (by rw [← hR, h0, h7]; rfl) ?_
        exact W.iret F.1 F.2.1 hr (fun t ht hW => ⟨rfl, by rw [ht]; exact hP, va_K.moved hW.alike hK, hD, hS.F ht⟩) hS.2.2 dT_quotient_33
      · obtain ⟨j9, hj9, rfl⟩ := nI_of h1
        have hl : lv_has ls 2 [(0, .ref y0), (1, .int (nI j9))] := hl
        rw [bl_nI _ hj9] at h9
        have h8 := of_decide_eq_false h9
        refine lv_iload_n F.1 F.2.1 dT_quotient_16 rfl (lv_at hl 1 rfl) ?_
        refine z_bipush (v := 15) F (by decide) dT_quotient_17 ?_
        refine z_icmp_le F (by omega) (by omega) (tgt := 26) dT_quotient_19 rfl (fun h => absurd h (by omega)) (fun h => ?_)
        refine lv_iconst (v := -1) F.1 F.2.1 dT_quotient_22 (by decide) ?_
        refine lv_goto F.1 F.2.1 (tgt := 33) dT_quotient_23 rfl ?_
        refine z_topV rr (by rw [← hR, h0, h7]; rfl) ?_
        exact W.iret F.1 F.2.1 hr (fun t ht hW => ⟨rfl, by rw [ht]; exact hP, va_K.moved hW.alike hK, hD, hS.F ht⟩) hS.2.2 dT_quotient_33
    | true =>
      obtain ⟨j, hj, rfl⟩ := bl_of h9 (by decide)
      have hl : lv_has ls 2 [(0, .ref y0), (1, .int (nI j))] := hl
      refine lv_iload_n F.1 F.2.1 dT_quotient_12 rfl (lv_at hl 1 rfl) ?_
      refine lv_if_lt F.1 F.2.1 (tgt := 22) dT_quotient_13 rfl (fun h => absurd h (nI_pos (by omega))) (fun h => ?_)
      refine lv_iload_n F.1 F.2.1 dT_quotient_16 rfl (lv_at hl 1 rfl) ?_
      refine z_bipush (v := 15) F (by decide) dT_quotient_17 ?_
      refine z_icmp_le F (by omega) (by omega) (tgt := 26) dT_quotient_19 rfl (fun h => ?_) (fun h => absurd h (by omega))
      refine lv_aload_n F.1 F.2.1 dT_quotient_26 rfl (lv_at hl 0 rfl) ?_
      refine z_get F hK hP hinT 0 rfl rfl 16 (by decide) rfl wf_T_25 rfl dT_quotient_27 ?_
      refine lv_iload_n F.1 F.2.1 dT_quotient_30 rfl (lv_at hl 1 rfl) ?_
      refine z_lald F hK hP 6 1 rfl rfl (by omega) (by decide) dT_quotient_31 ?_
      refine z_l2i F dT_quotient_32 ?_
      refine z_topV rr (by rw [← hR, h0, h9, nI_clamp (by omega)]; rfl) ?_
      exact W.iret F.1 F.2.1 hr (fun t ht hW => ⟨rfl, by rw [ht]; exact hP, va_K.moved hW.alike hK, hD, hS.F ht⟩) hS.2.2 dT_quotient_33
set_option maxHeartbeats 4000000 in
set_option maxRecDepth 100000 in
theorem ct_about (l : Launch) (dC : Nat → ClassId) (dI : Nat → Nat → Nat) (cI cL : ClassId) (zz : Nat) (y0 yR yV yI yX yP yQ yS yD : Nat) (th cn pb ta al be ga de va : Nat) (md pd : Bool) (f v inp mx el qt su pr : Nat → Nat) (x : Int32) (hn : cn ≤ 16) : Met l yT_about (zW yT_about cT_about 2 (.some .int)) ({ frames := 1, cells := 0, slots := 0, locals := 20 }) (va_Pc [.ref y0, .int x] (z_P (dC, dI) vwCl [(cI, .int), (cL, .long)] zz ([(y0, .inr (5, [.int (nI th), .ref yR, .int (nI cn), .int (nI pb), .ref yV, .ref yI, .int (z_b md), .long (lN ta), .long (lN al), .long (lN be), .long (lN ga), .long (lN de), .long (lN va), .ref yX, .int (z_b pd), .ref yP, .ref yQ, .ref yS, .ref yD])), (yR, .inl (cL, 816, .inr (.inl (fun x9 => lN (f x9))))), (yV, .inl (cL, 16, .inr (.inl (fun x9 => lN (v x9))))), (yI, .inl (cL, 16, .inr (.inl (fun x9 => lN (inp x9))))), (yX, .inl (cL, 16, .inr (.inl (fun x9 => lN (mx x9))))), (yP, .inl (cL, 3, .inr (.inl (fun x9 => lN (el x9))))), (yQ, .inl (cL, 32, .inr (.inl (fun x9 => lN (qt x9))))), (yS, .inl (cL, 48, .inr (.inl (fun x9 => lN (su x9))))), (yD, .inl (cL, 32, .inr (.inl (fun x9 => lN (pr x9)))))]))) (z_Q (dC, dI) vwCl [(cI, .int), (cL, .long)] (some (.int (abv cn pb md pd x))) ([(y0, .inr (5, [.int (nI 0), .ref yR, .int (nI cn), .int (nI pb), .ref yV, .ref yI, .int (z_b md), .long (lN ta), .long (lN al), .long (lN be), .long (lN ga), .long (lN de), .long (lN va), .ref yX, .int (z_b pd), .ref yP, .ref yQ, .ref yS, .ref yD])), (yR, .inl (cL, 816, .inr (.inl (fun x9 => lN (f x9))))), (yV, .inl (cL, 16, .inr (.inl (fun x9 => lN (v x9))))), (yI, .inl (cL, 16, .inr (.inl (fun x9 => lN (inp x9))))), (yX, .inl (cL, 16, .inr (.inl (fun x9 => lN (mx x9))))), (yP, .inl (cL, 3, .inr (.inl (fun x9 => lN (el x9))))), (yQ, .inl (cL, 32, .inr (.inl (fun x9 => lN (qt x9))))), (yS, .inl (cL, 48, .inr (.inl (fun x9 => lN (su x9))))), (yD, .inl (cL, 32, .inr (.inl (fun x9 => lN (pr x9)))))]) (va_A ([(y0, .inr (5, [.int (nI th), .ref yR, .int (nI cn), .int (nI pb), .ref yV, .ref yI, .int (z_b md), .long (lN ta), .long (lN al), .long (lN be), .long (lN ga), .long (lN de), .long (lN va), .ref yX, .int (z_b pd), .ref yP, .ref yQ, .ref yS, .ref yD])), (yR, .inl (cL, 816, .inr (.inl (fun x9 => lN (f x9))))), (yV, .inl (cL, 16, .inr (.inl (fun x9 => lN (v x9))))), (yI, .inl (cL, 16, .inr (.inl (fun x9 => lN (inp x9))))), (yX, .inl (cL, 16, .inr (.inl (fun x9 => lN (mx x9))))), (yP, .inl (cL, 3, .inr (.inl (fun x9 => lN (el x9))))), (yQ, .inl (cL, 32, .inr (.inl (fun x9 => lN (qt x9))))), (yS, .inl (cL, 48, .inr (.inl (fun x9 => lN (su x9))))), (yD, .inl (cL, 32, .inr (.inl (fun x9 => lN (pr x9)))))]) zz)) 0 0 (va_A ([(y0, .inr (5, [.int (nI th), .ref yR, .int (nI cn), .int (nI pb), .ref yV, .ref yI, .int (z_b md), .long (lN ta), .long (lN al), .long (lN be), .long (lN ga), .long (lN de), .long (lN va), .ref yX, .int (z_b pd), .ref yP, .ref yQ, .ref yS, .ref yD])), (yR, .inl (cL, 816, .inr (.inl (fun x9 => lN (f x9))))), (yV, .inl (cL, 16, .inr (.inl (fun x9 => lN (v x9))))), (yI, .inl (cL, 16, .inr (.inl (fun x9 => lN (inp x9))))), (yX, .inl (cL, 16, .inr (.inl (fun x9 => lN (mx x9))))), (yP, .inl (cL, 3, .inr (.inl (fun x9 => lN (el x9))))), (yQ, .inl (cL, 32, .inr (.inl (fun x9 => lN (qt x9))))), (yS, .inl (cL, 48, .inr (.inl (fun x9 => lN (su x9))))), (yD, .inl (cL, 32, .inr (.inl (fun x9 => lN (pr x9)))))]) zz) := by
  refine Met.ofW (cc := cT_about) (maxL := 2) (ret := (.some .int)) (by decide) rfl ?_
  intro p e s m args below meth c s₁ B hml hv
  obtain ⟨rfl, hsz, hP, hK, hD0⟩ := hv
  have F : CallFix p m c cT_about 2 s _ zT RT := ⟨B.exec, B.bytes, hml, findClass_of_methodNamed B.named, fun w h => atoms_spec (ws := (zW yT_about cT_about 2 (.some .int))) B.pre w (List.mem_cons_of_mem _ h)⟩
  have hr := B.returns
  have hlocks := B.notSynchronized
  subst hsz
  have hD := hD0.self (sz := s.heap.size)
  generalize hAe : va_A ([(y0, .inr (5, [.int (nI th), .ref yR, .int (nI cn), .int (nI pb), .ref yV, .ref yI, .int (z_b md), .long (lN ta), .long (lN al), .long (lN be), .long (lN ga), .long (lN de), .long (lN va), .ref yX, .int (z_b pd), .ref yP, .ref yQ, .ref yS, .ref yD])), (yR, .inl (cL, 816, .inr (.inl (fun x9 => lN (f x9))))), (yV, .inl (cL, 16, .inr (.inl (fun x9 => lN (v x9))))), (yI, .inl (cL, 16, .inr (.inl (fun x9 => lN (inp x9))))), (yX, .inl (cL, 16, .inr (.inl (fun x9 => lN (mx x9))))), (yP, .inl (cL, 3, .inr (.inl (fun x9 => lN (el x9))))), (yQ, .inl (cL, 32, .inr (.inl (fun x9 => lN (qt x9))))), (yS, .inl (cL, 48, .inr (.inl (fun x9 => lN (su x9))))), (yD, .inl (cL, 32, .inr (.inl (fun x9 => lN (pr x9)))))]) s.heap.size = A at hD ⊢
  have hAA : ∀ q : Nat, s.heap.size ≤ q → A q := fun q h => by rw [← hAe]; exact Or.inr h
  have hS : va_S A s.heap s.heap [] := va_S.rf
  have hl := lv_entry ([.ref y0, .int x]) (n := 2) (Nat.le_of_ble_eq_true rfl)
  rw [lg_entry_eq]
  generalize (lg_sl ([.ref y0, .int x]) ++ List.replicate (2 - (lg_sl ([.ref y0, .int x])).length) Slot.unset).toArray = ls at hl ⊢
  have hl : lv_has ls 2 [(0, .ref y0), (1, .int x)] := hl
  generalize hR : abv cn pb md pd x = rr
  refine lv_aload_n F.1 F.2.1 dT_about_0 rfl (lv_at hl 0 rfl) ?_
  refine z_iconst (v := 0) F (by decide) dT_about_1 ?_
  refine z_put F hK hP hD hS hinT tyT tyT_ok nmT 0 rfl rfl 0 (by decide) rfl rfl wf_T_34 (rfl) (rfl) (Nat.le_of_ble_eq_true rfl) dT_about_2 (fun H locs hP hD hS => ?_)
  have hP : va_P (dC, dI) vwCl ([(y0, .inr (5, [.int (nI 0), .ref yR, .int (nI cn), .int (nI pb), .ref yV, .ref yI, .int (z_b md), .long (lN ta), .long (lN al), .long (lN be), .long (lN ga), .long (lN de), .long (lN va), .ref yX, .int (z_b pd), .ref yP, .ref yQ, .ref yS, .ref yD])), (yR, .inl (cL, 816, .inr (.inl (fun x9 => lN (f x9))))), (yV, .inl (cL, 16, .inr (.inl (fun x9 => lN (v x9))))), (yI, .inl (cL, 16, .inr (.inl (fun x9 => lN (inp x9))))), (yX, .inl (cL, 16, .inr (.inl (fun x9 => lN (mx x9))))), (yP, .inl (cL, 3, .inr (.inl (fun x9 => lN (el x9))))), (yQ, .inl (cL, 32, .inr (.inl (fun x9 => lN (qt x9))))), (yS, .inl (cL, 48, .inr (.inl (fun x9 => lN (su x9))))), (yD, .inl (cL, 32, .inr (.inl (fun x9 => lN (pr x9)))))]) H := hP
  have hD : va_D A ([(y0, .inr (5, [.int (nI 0), .ref yR, .int (nI cn), .int (nI pb), .ref yV, .ref yI, .int (z_b md), .long (lN ta), .long (lN al), .long (lN be), .long (lN ga), .long (lN de), .long (lN va), .ref yX, .int (z_b pd), .ref yP, .ref yQ, .ref yS, .ref yD])), (yR, .inl (cL, 816, .inr (.inl (fun x9 => lN (f x9))))), (yV, .inl (cL, 16, .inr (.inl (fun x9 => lN (v x9))))), (yI, .inl (cL, 16, .inr (.inl (fun x9 => lN (inp x9))))), (yX, .inl (cL, 16, .inr (.inl (fun x9 => lN (mx x9))))), (yP, .inl (cL, 3, .inr (.inl (fun x9 => lN (el x9))))), (yQ, .inl (cL, 32, .inr (.inl (fun x9 => lN (qt x9))))), (yS, .inl (cL, 48, .inr (.inl (fun x9 => lN (su x9))))), (yD, .inl (cL, 32, .inr (.inl (fun x9 => lN (pr x9)))))]) := hD
  cases hb : bl x 5 with
  | false =>
    refine lv_iload_n F.1 F.2.1 dT_about_5 rfl (lv_at hl 1 rfl) ?_
    refine lv_tableOut F.1 F.2.1 (tgt := 81) dT_about_6 (bl_out hb (by decide)) rfl ?_
    refine lv_iconst (v := -1) F.1 F.2.1 dT_about_81 (by decide) ?_
    refine z_topV rr (by rw [← hR]; unfold abv; rw [if_neg (bl_ne hb (by decide) (by decide)), if_neg (bl_ne hb (by decide) (by decide)), if_neg (bl_ne hb (by decide) (by decide)), if_neg (bl_ne hb (by decide) (by decide)), if_neg (bl_ne hb (by decide) (by decide))]) ?_
    exact W.iret F.1 F.2.1 hr (fun t ht hW => ⟨rfl, by rw [ht]; exact hP, va_K.moved hW.alike hK, hD, hS.F ht⟩) hS.2.2 dT_about_82
  | true =>
    obtain ⟨j, hj, rfl⟩ := bl_of hb (by decide)
    have hl : lv_has ls 2 [(0, .ref y0), (1, .int (nI j))] := hl
    rcases (show j = 0 ∨ j = 1 ∨ j = 2 ∨ j = 3 ∨ j = 4 by omega) with rfl | rfl | rfl | rfl | rfl
    · refine lv_iload_n F.1 F.2.1 dT_about_5 rfl (lv_at hl 1 rfl) ?_
      refine lv_tableIn F.1 F.2.1 (off := 34) (tgt := 40) dT_about_6 (by decide) (by decide) (by decide) rfl ?_
      refine lv_aload_n F.1 F.2.1 dT_about_40 rfl (lv_at hl 0 rfl) ?_
      refine z_get F hK hP hinT 0 rfl rfl 2 (by decide) rfl wf_T_46 rfl dT_about_41 ?_
      refine z_topV rr (by rw [← hR]; unfold abv; rw [if_pos rfl]) ?_
      exact W.iret F.1 F.2.1 hr (fun t ht hW => ⟨rfl, by rw [ht]; exact hP, va_K.moved hW.alike hK, hD, hS.F ht⟩) hS.2.2 dT_about_44
    · refine lv_iload_n F.1 F.2.1 dT_about_5 rfl (lv_at hl 1 rfl) ?_
      refine lv_tableIn F.1 F.2.1 (off := 39) (tgt := 45) dT_about_6 (by decide) (by decide) (by decide) rfl ?_
      refine lv_aload_n F.1 F.2.1 dT_about_45 rfl (lv_at hl 0 rfl) ?_
      refine z_call (z_runV [] [] F (ct_size l dC dI cI cL _ 0 y0 yR yV yI yX yP yQ yS yD 0 cn pb ta al be ga de va md pd rfl hn) kk_T_size wl_T_68 rfl rfl ⟨Nat.le_of_ble_eq_true rfl, Nat.le_of_ble_eq_true rfl⟩ (z_preVR (q := (RT, TT, 19)) hP hK rfl (q0 := 0) rfl) rfl hl.1 rfl (Nat.le_of_ble_eq_true rfl) dT_about_46 ⟨Nat.zero_le _, Nat.zero_le _⟩) ?_
      refine z_topV rr (by rw [← hR]; unfold abv; rw [if_neg (by decide), if_pos rfl]) ?_
      exact W.iret F.1 F.2.1 hr (fun t ht hW => ⟨rfl, by rw [ht]; exact hP, va_K.moved hW.alike hK, hD, hS.F ht⟩) hS.2.2 dT_about_49
    · refine lv_iload_n F.1 F.2.1 dT_about_5 rfl (lv_at hl 1 rfl) ?_
      refine lv_tableIn F.1 F.2.1 (off := 44) (tgt := 50) dT_about_6 (by decide) (by decide) (by decide) rfl ?_
      refine lv_aload_n F.1 F.2.1 dT_about_50 rfl (lv_at hl 0 rfl) ?_
      refine z_get F hK hP hinT 0 rfl rfl 3 (by decide) rfl wf_T_57 rfl dT_about_51 ?_
      refine z_topV rr (by rw [← hR]; unfold abv; rw [if_neg (by decide), if_neg (by decide), if_pos rfl]) ?_
      exact W.iret F.1 F.2.1 hr (fun t ht hW => ⟨rfl, by rw [ht]; exact hP, va_K.moved hW.alike hK, hD, hS.F ht⟩) hS.2.2 dT_about_54
    · refine lv_iload_n F.1 F.2.1 dT_about_5 rfl (lv_at hl 1 rfl) ?_
      refine lv_tableIn F.1 F.2.1 (off := 49) (tgt := 55) dT_about_6 (by decide) (by decide) (by decide) rfl ?_
      refine lv_aload_n F.1 F.2.1 dT_about_55 rfl (lv_at hl 0 rfl) ?_
      refine z_get F hK hP hinT 0 rfl rfl 6 (by decide) rfl wf_T_53 rfl dT_about_56 ?_
      refine z_ifb_eq F (tgt := 66) dT_about_59 rfl (fun h1 => ?_) (fun h1 => ?_)
      · refine z_iconst (v := 0) F (by decide) dT_about_66 ?_
        refine z_topV rr (by rw [← hR]; unfold abv; rw [if_neg (by decide), if_neg (by decide), if_neg (by decide), if_pos rfl, h1]; decide) ?_
        exact W.iret F.1 F.2.1 hr (fun t ht hW => ⟨rfl, by rw [ht]; exact hP, va_K.moved hW.alike hK, hD, hS.F ht⟩) hS.2.2 dT_about_67
      · refine z_iconst (v := 1) F (by decide) dT_about_62 ?_
        refine lv_goto F.1 F.2.1 (tgt := 67) dT_about_63 rfl ?_
        refine z_topV rr (by rw [← hR]; unfold abv; rw [if_neg (by decide), if_neg (by decide), if_neg (by decide), if_pos rfl, h1]; decide) ?_
        exact W.iret F.1 F.2.1 hr (fun t ht hW => ⟨rfl, by rw [ht]; exact hP, va_K.moved hW.alike hK, hD, hS.F ht⟩) hS.2.2 dT_about_67
    · refine lv_iload_n F.1 F.2.1 dT_about_5 rfl (lv_at hl 1 rfl) ?_
      refine lv_tableIn F.1 F.2.1 (off := 62) (tgt := 68) dT_about_6 (by decide) (by decide) (by decide) rfl ?_
      refine lv_aload_n F.1 F.2.1 dT_about_68 rfl (lv_at hl 0 rfl) ?_
      refine z_get F hK hP hinT 0 rfl rfl 14 (by decide) rfl wf_T_119 rfl dT_about_69 ?_
      refine z_ifb_eq F (tgt := 79) dT_about_72 rfl (fun h1 => ?_) (fun h1 => ?_)
      · refine z_iconst (v := 0) F (by decide) dT_about_79 ?_
        refine z_topV rr (by rw [← hR]; unfold abv; rw [if_neg (by decide), if_neg (by decide), if_neg (by decide), if_neg (by decide), if_pos rfl, h1]; decide) ?_
        exact W.iret F.1 F.2.1 hr (fun t ht hW => ⟨rfl, by rw [ht]; exact hP, va_K.moved hW.alike hK, hD, hS.F ht⟩) hS.2.2 dT_about_80
      · refine z_iconst (v := 1) F (by decide) dT_about_75 ?_
        refine lv_goto F.1 F.2.1 (tgt := 80) dT_about_76 rfl ?_
        refine z_topV rr (by rw [← hR]; unfold abv; rw [if_neg (by decide), if_neg (by decide), if_neg (by decide), if_neg (by decide), if_pos rfl, h1]; decide) ?_
        exact W.iret F.1 F.2.1 hr (fun t ht hW => ⟨rfl, by rw [ht]; exact hP, va_K.moved hW.alike hK, hD, hS.F ht⟩) hS.2.2 dT_about_80
theorem kyv_neg {sz pb ta ga de va : Nat} {mx : Nat → Nat} {x y : Int32} (h : y < 0) : kyv true sz pb ta ga de va mx x y = -1 := by
  unfold kyv
  rw [if_pos rfl, bl_neg h, bl_neg h, bl_neg h]
  simp
set_option maxHeartbeats 4000000 in
set_option maxRecDepth 100000 in
theorem ct_key (l : Launch) (dC : Nat → ClassId) (dI : Nat → Nat → Nat) (cI cL : ClassId) (zz : Nat) (y0 yR yV yI yX yP yQ yS yD : Nat) (th cn pb ta al be ga de va : Nat) (md pd : Bool) (f v inp mx el qt su pr : Nat → Nat) (x y : Int32) (hn : cn ≤ 16) (hw : ∀ j, mx j < 998244353) (ht : ta < 998244353) (hva : va < 998244353) (hg : ga < 998244353) (hd : de < 998244353) (hp : pb ≤ 6) : Met l yT_key (zW yT_key cT_key 3 (.some .int)) ({ frames := 2, cells := 0, slots := 0, locals := 49 }) (va_Pc [.ref y0, .int x, .int y] (z_P (dC, dI) vwCl [(cI, .int), (cL, .long)] zz ([(y0, .inr (5, [.int (nI th), .ref yR, .int (nI cn), .int (nI pb), .ref yV, .ref yI, .int (z_b md), .long (lN ta), .long (lN al), .long (lN be), .long (lN ga), .long (lN de), .long (lN va), .ref yX, .int (z_b pd), .ref yP, .ref yQ, .ref yS, .ref yD])), (yR, .inl (cL, 816, .inr (.inl (fun x9 => lN (f x9))))), (yV, .inl (cL, 16, .inr (.inl (fun x9 => lN (v x9))))), (yI, .inl (cL, 16, .inr (.inl (fun x9 => lN (inp x9))))), (yX, .inl (cL, 16, .inr (.inl (fun x9 => lN (mx x9))))), (yP, .inl (cL, 3, .inr (.inl (fun x9 => lN (el x9))))), (yQ, .inl (cL, 32, .inr (.inl (fun x9 => lN (qt x9))))), (yS, .inl (cL, 48, .inr (.inl (fun x9 => lN (su x9))))), (yD, .inl (cL, 32, .inr (.inl (fun x9 => lN (pr x9)))))]))) (z_Q (dC, dI) vwCl [(cI, .int), (cL, .long)] (some (.int (kyv md (szN cn) pb ta ga de va mx x y))) ([(y0, .inr (5, [.int (nI 0), .ref yR, .int (nI cn), .int (nI pb), .ref yV, .ref yI, .int (z_b md), .long (lN ta), .long (lN al), .long (lN be), .long (lN ga), .long (lN de), .long (lN va), .ref yX, .int (z_b pd), .ref yP, .ref yQ, .ref yS, .ref yD])), (yR, .inl (cL, 816, .inr (.inl (fun x9 => lN (f x9))))), (yV, .inl (cL, 16, .inr (.inl (fun x9 => lN (v x9))))), (yI, .inl (cL, 16, .inr (.inl (fun x9 => lN (inp x9))))), (yX, .inl (cL, 16, .inr (.inl (fun x9 => lN (mx x9))))), (yP, .inl (cL, 3, .inr (.inl (fun x9 => lN (el x9))))), (yQ, .inl (cL, 32, .inr (.inl (fun x9 => lN (qt x9))))), (yS, .inl (cL, 48, .inr (.inl (fun x9 => lN (su x9))))), (yD, .inl (cL, 32, .inr (.inl (fun x9 => lN (pr x9)))))]) (va_A ([(y0, .inr (5, [.int (nI th), .ref yR, .int (nI cn), .int (nI pb), .ref yV, .ref yI, .int (z_b md), .long (lN ta), .long (lN al), .long (lN be), .long (lN ga), .long (lN de), .long (lN va), .ref yX, .int (z_b pd), .ref yP, .ref yQ, .ref yS, .ref yD])), (yR, .inl (cL, 816, .inr (.inl (fun x9 => lN (f x9))))), (yV, .inl (cL, 16, .inr (.inl (fun x9 => lN (v x9))))), (yI, .inl (cL, 16, .inr (.inl (fun x9 => lN (inp x9))))), (yX, .inl (cL, 16, .inr (.inl (fun x9 => lN (mx x9))))), (yP, .inl (cL, 3, .inr (.inl (fun x9 => lN (el x9))))), (yQ, .inl (cL, 32, .inr (.inl (fun x9 => lN (qt x9))))), (yS, .inl (cL, 48, .inr (.inl (fun x9 => lN (su x9))))), (yD, .inl (cL, 32, .inr (.inl (fun x9 => lN (pr x9)))))]) zz)) 0 0 (va_A ([(y0, .inr (5, [.int (nI th), .ref yR, .int (nI cn), .int (nI pb), .ref yV, .ref yI, .int (z_b md), .long (lN ta), .long (lN al), .long (lN be), .long (lN ga), .long (lN de), .long (lN va), .ref yX, .int (z_b pd), .ref yP, .ref yQ, .ref yS, .ref yD])), (yR, .inl (cL, 816, .inr (.inl (fun x9 => lN (f x9))))), (yV, .inl (cL, 16, .inr (.inl (fun x9 => lN (v x9))))), (yI, .inl (cL, 16, .inr (.inl (fun x9 => lN (inp x9))))), (yX, .inl (cL, 16, .inr (.inl (fun x9 => lN (mx x9))))), (yP, .inl (cL, 3, .inr (.inl (fun x9 => lN (el x9))))), (yQ, .inl (cL, 32, .inr (.inl (fun x9 => lN (qt x9))))), (yS, .inl (cL, 48, .inr (.inl (fun x9 => lN (su x9))))), (yD, .inl (cL, 32, .inr (.inl (fun x9 => lN (pr x9)))))]) zz) := by
  refine Met.ofW (cc := cT_key) (maxL := 3) (ret := (.some .int)) (by decide) rfl ?_
  intro p e s m args below meth c s₁ B hml hv
  obtain ⟨rfl, hsz, hP, hK, hD0⟩ := hv
  have F : CallFix p m c cT_key 3 s _ zT RT := ⟨B.exec, B.bytes, hml, findClass_of_methodNamed B.named, fun w h => atoms_spec (ws := (zW yT_key cT_key 3 (.some .int))) B.pre w (List.mem_cons_of_mem _ h)⟩
  have hr := B.returns
  have hlocks := B.notSynchronized
  subst hsz
  have hD := hD0.self (sz := s.heap.size)
  generalize hAe : va_A ([(y0, .inr (5, [.int (nI th), .ref yR, .int (nI cn), .int (nI pb), .ref yV, .ref yI, .int (z_b md), .long (lN ta), .long (lN al), .long (lN be), .long (lN ga), .long (lN de), .long (lN va), .ref yX, .int (z_b pd), .ref yP, .ref yQ, .ref yS, .ref yD])), (yR, .inl (cL, 816, .inr (.inl (fun x9 => lN (f x9))))), (yV, .inl (cL, 16, .inr (.inl (fun x9 => lN (v x9))))), (yI, .inl (cL, 16, .inr (.inl (fun x9 => lN (inp x9))))), (yX, .inl (cL, 16, .inr (.inl (fun x9 => lN (mx x9))))), (yP, .inl (cL, 3, .inr (.inl (fun x9 => lN (el x9))))), (yQ, .inl (cL, 32, .inr (.inl (fun x9 => lN (qt x9))))), (yS, .inl (cL, 48, .inr (.inl (fun x9 => lN (su x9))))), (yD, .inl (cL, 32, .inr (.inl (fun x9 => lN (pr x9)))))]) s.heap.size = A at hD ⊢
  have hAA : ∀ q : Nat, s.heap.size ≤ q → A q := fun q h => by rw [← hAe]; exact Or.inr h
  have hS : va_S A s.heap s.heap [] := va_S.rf
  have hl := lv_entry ([.ref y0, .int x, .int y]) (n := 3) (Nat.le_of_ble_eq_true rfl)
  rw [lg_entry_eq]
  generalize (lg_sl ([.ref y0, .int x, .int y]) ++ List.replicate (3 - (lg_sl ([.ref y0, .int x, .int y])).length) Slot.unset).toArray = ls at hl ⊢
  have hl : lv_has ls 3 [(0, .ref y0), (1, .int x), (2, .int y)] := hl
  generalize hR : kyv md (szN cn) pb ta ga de va mx x y = rr
  have hlo := szN_lo cn
  have hhi := szN_hi cn
  refine lv_aload_n F.1 F.2.1 dT_key_0 rfl (lv_at hl 0 rfl) ?_
  refine z_iconst (v := 0) F (by decide) dT_key_1 ?_
  refine z_put F hK hP hD hS hinT tyT tyT_ok nmT 0 rfl rfl 0 (by decide) rfl rfl wf_T_34 (rfl) (rfl) (Nat.le_of_ble_eq_true rfl) dT_key_2 (fun H locs hP hD hS => ?_)
  have hP : va_P (dC, dI) vwCl ([(y0, .inr (5, [.int (nI 0), .ref yR, .int (nI cn), .int (nI pb), .ref yV, .ref yI, .int (z_b md), .long (lN ta), .long (lN al), .long (lN be), .long (lN ga), .long (lN de), .long (lN va), .ref yX, .int (z_b pd), .ref yP, .ref yQ, .ref yS, .ref yD])), (yR, .inl (cL, 816, .inr (.inl (fun x9 => lN (f x9))))), (yV, .inl (cL, 16, .inr (.inl (fun x9 => lN (v x9))))), (yI, .inl (cL, 16, .inr (.inl (fun x9 => lN (inp x9))))), (yX, .inl (cL, 16, .inr (.inl (fun x9 => lN (mx x9))))), (yP, .inl (cL, 3, .inr (.inl (fun x9 => lN (el x9))))), (yQ, .inl (cL, 32, .inr (.inl (fun x9 => lN (qt x9))))), (yS, .inl (cL, 48, .inr (.inl (fun x9 => lN (su x9))))), (yD, .inl (cL, 32, .inr (.inl (fun x9 => lN (pr x9)))))]) H := hP
  have hD : va_D A ([(y0, .inr (5, [.int (nI 0), .ref yR, .int (nI cn), .int (nI pb), .ref yV, .ref yI, .int (z_b md), .long (lN ta), .long (lN al), .long (lN be), .long (lN ga), .long (lN de), .long (lN va), .ref yX, .int (z_b pd), .ref yP, .ref yQ, .ref yS, .ref yD])), (yR, .inl (cL, 816, .inr (.inl (fun x9 => lN (f x9))))), (yV, .inl (cL, 16, .inr (.inl (fun x9 => lN (v x9))))), (yI, .inl (cL, 16, .inr (.inl (fun x9 => lN (inp x9))))), (yX, .inl (cL, 16, .inr (.inl (fun x9 => lN (mx x9))))), (yP, .inl (cL, 3, .inr (.inl (fun x9 => lN (el x9))))), (yQ, .inl (cL, 32, .inr (.inl (fun x9 => lN (qt x9))))), (yS, .inl (cL, 48, .inr (.inl (fun x9 => lN (su x9))))), (yD, .inl (cL, 32, .inr (.inl (fun x9 => lN (pr x9)))))]) := hD
  refine lv_aload_n F.1 F.2.1 dT_key_5 rfl (lv_at hl 0 rfl) ?_
  refine z_get F hK hP hinT 0 rfl rfl 6 (by decide) rfl wf_T_53 rfl dT_key_6 ?_
  refine z_ifb_eq F (tgt := 16) dT_key_9 rfl (fun h1 => ?_) (fun h1 => ?_)
  · refine lv_iconst (v := -1) F.1 F.2.1 dT_key_16 (by decide) ?_
    refine z_topV rr (by rw [← hR, h1]; rfl) ?_
    exact W.iret F.1 F.2.1 hr (fun t ht hW => ⟨rfl, by rw [ht]; exact hP, va_K.moved hW.alike hK, hD, hS.F ht⟩) hS.2.2 dT_key_17
  · refine lv_iload_n F.1 F.2.1 dT_key_12 rfl (lv_at hl 2 rfl) ?_
    refine lv_if_ge F.1 F.2.1 (tgt := 18) dT_key_13 rfl (fun h2 => ?_) (fun h2 => ?_)
    · obtain ⟨y, hy, rfl⟩ := nI_of (x := y) (by rw [Int32.lt_iff_toInt_lt]; rw [Int32.le_iff_toInt_le] at h2; omega)
      have hl : lv_has ls 3 [(0, .ref y0), (1, .int x), (2, .int (nI y))] := hl
      cases hb : bl x 3 with
      | false =>
        refine lv_iload_n F.1 F.2.1 dT_key_18 rfl (lv_at hl 1 rfl) ?_
        refine lv_tableOut F.1 F.2.1 (tgt := 158) dT_key_19 (bl_out hb (by decide)) rfl ?_
        refine lv_iconst (v := -1) F.1 F.2.1 dT_key_158 (by decide) ?_
        refine z_topV rr (by rw [← hR, h1]; unfold kyv; rw [if_pos rfl, if_neg (bl_ne hb (by decide) (by decide)), if_neg (bl_ne hb (by decide) (by decide)), if_neg (bl_ne hb (by decide) (by decide))]) ?_
        exact W.iret F.1 F.2.1 hr (fun t ht hW => ⟨rfl, by rw [ht]; exact hP, va_K.moved hW.alike hK, hD, hS.F ht⟩) hS.2.2 dT_key_159
      | true =>
        obtain ⟨j, hj, rfl⟩ := bl_of hb (by decide)
        have hl : lv_has ls 3 [(0, .ref y0), (1, .int (nI j)), (2, .int (nI y))] := hl
        rcases (show j = 0 ∨ j = 1 ∨ j = 2 by omega) with rfl | rfl | rfl
        · refine lv_iload_n F.1 F.2.1 dT_key_18 rfl (lv_at hl 1 rfl) ?_
          refine lv_tableIn F.1 F.2.1 (off := 25) (tgt := 44) dT_key_19 (by decide) (by decide) (by decide) rfl ?_
          refine lv_iload_n F.1 F.2.1 dT_key_44 rfl (lv_at hl 2 rfl) ?_
          refine lv_aload_n F.1 F.2.1 dT_key_45 rfl (lv_at hl 0 rfl) ?_
          refine z_call (z_runV [] [.int (nI y)] F (ct_size l dC dI cI cL _ 0 y0 yR yV yI yX yP yQ yS yD 0 cn pb ta al be ga de va md pd rfl hn) kk_T_size wl_T_68 rfl rfl ⟨Nat.le_of_ble_eq_true rfl, Nat.le_of_ble_eq_true rfl⟩ (z_preVR (q := (RT, TT, 19)) hP hK rfl (q0 := 0) rfl) rfl hl.1 rfl (Nat.le_of_ble_eq_true rfl) dT_key_46 ⟨Nat.zero_le _, Nat.zero_le _⟩) ?_
          refine z_icmp_lt F (by omega) (by omega) (tgt := 56) dT_key_49 rfl (fun h3 => ?_) (fun h3 => ?_)
          · refine lv_aload_n F.1 F.2.1 dT_key_56 rfl (lv_at hl 0 rfl) ?_
            refine z_get F hK hP hinT 0 rfl rfl 7 (by decide) rfl wf_T_83 rfl dT_key_57 ?_
            refine lv_iload_n F.1 F.2.1 dT_key_60 rfl (lv_at hl 2 rfl) ?_
            refine z_i2l F (by omega) dT_key_61 ?_
            refine z_call (z_runS [.long (lN ta), .long (lN y)] [] F (ct_power l ta y (Nat.lt_trans (ht) (by decide)) (by omega)) kk_T_power wl_T_42 rfl rfl ⟨Nat.le_of_ble_eq_true rfl, Nat.le_of_ble_eq_true rfl⟩ z_preN rfl hl.1 rfl (Nat.le_of_ble_eq_true rfl) dT_key_62 ⟨Nat.zero_le _, Nat.zero_le _⟩) ?_
            refine z_l2i F dT_key_65 ?_
            refine z_topV rr (by rw [← hR, h1]; unfold kyv; rw [if_pos rfl, if_pos rfl, bl_nI _ hy, decide_eq_true (by omega), if_pos rfl, nI_clamp hy]) ?_
            exact W.iret F.1 F.2.1 hr (fun t ht hW => ⟨rfl, by rw [ht]; exact hP, va_K.moved hW.alike hK, hD, hS.F ht⟩) hS.2.2 dT_key_66
          · refine lv_iconst (v := -1) F.1 F.2.1 dT_key_52 (by decide) ?_
            refine lv_goto F.1 F.2.1 (tgt := 66) dT_key_53 rfl ?_
            refine z_topV rr (by rw [← hR, h1]; unfold kyv; rw [if_pos rfl, if_pos rfl, bl_nI _ hy, decide_eq_false (by omega)]; rfl) ?_
            exact W.iret F.1 F.2.1 hr (fun t ht hW => ⟨rfl, by rw [ht]; exact hP, va_K.moved hW.alike hK, hD, hS.F ht⟩) hS.2.2 dT_key_66
        · refine lv_iload_n F.1 F.2.1 dT_key_18 rfl (lv_at hl 1 rfl) ?_
          refine lv_tableIn F.1 F.2.1 (off := 48) (tgt := 67) dT_key_19 (by decide) (by decide) (by decide) rfl ?_
          refine lv_iload_n F.1 F.2.1 dT_key_67 rfl (lv_at hl 2 rfl) ?_
          refine z_bipush (v := 15) F (by decide) dT_key_68 ?_
          refine z_icmp_le F (by omega) (by omega) (tgt := 77) dT_key_70 rfl (fun h3 => ?_) (fun h3 => ?_)
          · refine lv_aload_n F.1 F.2.1 dT_key_77 rfl (lv_at hl 0 rfl) ?_
            refine z_get F hK hP hinT 0 rfl rfl 13 (by decide) rfl wf_T_19 rfl dT_key_78 ?_
            refine lv_iload_n F.1 F.2.1 dT_key_81 rfl (lv_at hl 2 rfl) ?_
            refine z_lald F hK hP 4 1 rfl rfl (by omega) (by decide) dT_key_82 ?_
            refine lv_iload_n F.1 F.2.1 dT_key_83 rfl (lv_at hl 2 rfl) ?_
            refine lv_aload_n F.1 F.2.1 dT_key_84 rfl (lv_at hl 0 rfl) ?_
            refine z_get F hK hP hinT 0 rfl rfl 3 (by decide) rfl wf_T_57 rfl dT_key_85 ?_
            refine z_icmp_gt F (by omega) (by omega) (tgt := 98) dT_key_88 rfl (fun h4 => ?_) (fun h4 => ?_)
            · refine lv_aload_n F.1 F.2.1 dT_key_98 rfl (lv_at hl 0 rfl) ?_
              refine z_get F hK hP hinT 0 rfl rfl 11 (by decide) rfl wf_T_99 rfl dT_key_99 ?_
              refine z_call (z_runS [.long (lN de)] [.long (lN (mx y))] F (ct_inverse l de (Nat.lt_trans (hd) (by decide))) kk_T_inverse wl_T_75 rfl rfl ⟨Nat.le_of_ble_eq_true rfl, Nat.le_of_ble_eq_true rfl⟩ z_preN rfl hl.1 rfl (Nat.le_of_ble_eq_true rfl) dT_key_102 ⟨Nat.zero_le _, Nat.zero_le _⟩) ?_
              have hm := z_mb (a := mx y) (b := iv de) (Nat.lt_trans (hw _) (by decide)) (Nat.lt_trans (iv_lt _) (by decide))
              refine z_lmul F dT_key_105 ?_
              refine z_ldc2 F 998244353 (v0 := 998244353) wk_T_38 rfl dT_key_106 ?_
              refine z_lrem F (by omega) (by omega) (by omega) dT_key_109 ?_
              refine z_l2i F dT_key_110 ?_
              refine z_topV rr (by rw [← hR, h1, kyv_1 (bl_t (by omega) (by decide)) hy, if_neg (by omega)]) ?_
              exact W.iret F.1 F.2.1 hr (fun t ht hW => ⟨rfl, by rw [ht]; exact hP, va_K.moved hW.alike hK, hD, hS.F ht⟩) hS.2.2 dT_key_111
            · refine lv_aload_n F.1 F.2.1 dT_key_91 rfl (lv_at hl 0 rfl) ?_
              refine z_get F hK hP hinT 0 rfl rfl 10 (by decide) rfl wf_T_96 rfl dT_key_92 ?_
              refine lv_goto F.1 F.2.1 (tgt := 102) dT_key_95 rfl ?_
              refine z_call (z_runS [.long (lN ga)] [.long (lN (mx y))] F (ct_inverse l ga (Nat.lt_trans (hg) (by decide))) kk_T_inverse wl_T_75 rfl rfl ⟨Nat.le_of_ble_eq_true rfl, Nat.le_of_ble_eq_true rfl⟩ z_preN rfl hl.1 rfl (Nat.le_of_ble_eq_true rfl) dT_key_102 ⟨Nat.zero_le _, Nat.zero_le _⟩) ?_
              have hm := z_mb (a := mx y) (b := iv ga) (Nat.lt_trans (hw _) (by decide)) (Nat.lt_trans (iv_lt _) (by decide))
              refine z_lmul F dT_key_105 ?_
              refine z_ldc2 F 998244353 (v0 := 998244353) wk_T_38 rfl dT_key_106 ?_
              refine z_lrem F (by omega) (by omega) (by omega) dT_key_109 ?_
              refine z_l2i F dT_key_110 ?_
              refine z_topV rr (by rw [← hR, h1, kyv_1 (bl_t (by omega) (by decide)) hy, if_pos (by omega)]) ?_
              exact W.iret F.1 F.2.1 hr (fun t ht hW => ⟨rfl, by rw [ht]; exact hP, va_K.moved hW.alike hK, hD, hS.F ht⟩) hS.2.2 dT_key_111
          · refine lv_iconst (v := -1) F.1 F.2.1 dT_key_73 (by decide) ?_
            refine lv_goto F.1 F.2.1 (tgt := 111) dT_key_74 rfl ?_
            refine z_topV rr (by rw [← hR, h1]; unfold kyv; rw [if_pos rfl, if_neg (by decide), if_pos rfl, bl_nI _ hy, decide_eq_false (by omega)]; rfl) ?_
            exact W.iret F.1 F.2.1 hr (fun t ht hW => ⟨rfl, by rw [ht]; exact hP, va_K.moved hW.alike hK, hD, hS.F ht⟩) hS.2.2 dT_key_111
        · refine lv_iload_n F.1 F.2.1 dT_key_18 rfl (lv_at hl 1 rfl) ?_
          refine lv_tableIn F.1 F.2.1 (off := 93) (tgt := 112) dT_key_19 (by decide) (by decide) (by decide) rfl ?_
          refine lv_iload_n F.1 F.2.1 dT_key_112 rfl (lv_at hl 2 rfl) ?_
          refine lv_aload_n F.1 F.2.1 dT_key_113 rfl (lv_at hl 0 rfl) ?_
          refine z_call (z_runV [] [.int (nI y)] F (ct_size l dC dI cI cL _ 0 y0 yR yV yI yX yP yQ yS yD 0 cn pb ta al be ga de va md pd rfl hn) kk_T_size wl_T_68 rfl rfl ⟨Nat.le_of_ble_eq_true rfl, Nat.le_of_ble_eq_true rfl⟩ (z_preVR (q := (RT, TT, 19)) hP hK rfl (q0 := 0) rfl) rfl hl.1 rfl (Nat.le_of_ble_eq_true rfl) dT_key_114 ⟨Nat.zero_le _, Nat.zero_le _⟩) ?_
          refine z_iconst (v := 2) F (by decide) dT_key_117 ?_
          refine z_isub F (by omega) dT_key_118 ?_
          refine z_icmp_le F (by omega) (by omega) (tgt := 126) dT_key_119 rfl (fun h3 => ?_) (fun h3 => ?_)
          · refine lv_aload_n F.1 F.2.1 dT_key_126 rfl (lv_at hl 0 rfl) ?_
            refine z_get F hK hP hinT 0 rfl rfl 7 (by decide) rfl wf_T_83 rfl dT_key_127 ?_
            refine lv_iload_n F.1 F.2.1 dT_key_130 rfl (lv_at hl 2 rfl) ?_
            refine z_i2l F (by omega) dT_key_131 ?_
            refine z_call (z_runS [.long (lN ta), .long (lN y)] [] F (ct_power l ta y (Nat.lt_trans (ht) (by decide)) (by omega)) kk_T_power wl_T_42 rfl rfl ⟨Nat.le_of_ble_eq_true rfl, Nat.le_of_ble_eq_true rfl⟩ z_preN rfl hl.1 rfl (Nat.le_of_ble_eq_true rfl) dT_key_132 ⟨Nat.zero_le _, Nat.zero_le _⟩) ?_
            have hm := z_mb (a := pw ta y) (b := va) (Nat.lt_trans (pw_lt _ _) (by decide)) (Nat.lt_trans (hva) (by decide))
            refine lv_aload_n F.1 F.2.1 dT_key_135 rfl (lv_at hl 0 rfl) ?_
            refine z_get F hK hP hinT 0 rfl rfl 12 (by decide) rfl wf_T_102 rfl dT_key_136 ?_
            refine z_lmul F dT_key_139 ?_
            refine z_ldc2 F 998244353 (v0 := 998244353) wk_T_38 rfl dT_key_140 ?_
            refine z_lrem F (by omega) (by omega) (by omega) dT_key_143 ?_
            refine lv_aload_n F.1 F.2.1 dT_key_144 rfl (lv_at hl 0 rfl) ?_
            refine z_get F hK hP hinT 0 rfl rfl 11 (by decide) rfl wf_T_99 rfl dT_key_145 ?_
            refine z_call (z_runS [.long (lN de)] [.long (lN (((pw ta y) * va) % 998244353))] F (ct_inverse l de (Nat.lt_trans (hd) (by decide))) kk_T_inverse wl_T_75 rfl rfl ⟨Nat.le_of_ble_eq_true rfl, Nat.le_of_ble_eq_true rfl⟩ z_preN rfl hl.1 rfl (Nat.le_of_ble_eq_true rfl) dT_key_148 ⟨Nat.zero_le _, Nat.zero_le _⟩) ?_
            have hm2 := z_mb (a := pw ta y * va % 998244353) (b := iv de) (Nat.lt_trans (ltP _) (by decide)) (Nat.lt_trans (iv_lt _) (by decide))
            refine z_lmul F dT_key_151 ?_
            refine z_ldc2 F 998244353 (v0 := 998244353) wk_T_38 rfl dT_key_152 ?_
            refine z_lrem F (by omega) (by omega) (by omega) dT_key_155 ?_
            refine z_l2i F dT_key_156 ?_
            refine z_topV rr (by rw [← hR, h1]; unfold kyv; rw [if_pos rfl, if_neg (by decide), if_neg (by decide), if_pos rfl, bl_nI _ hy, decide_eq_true (by omega), if_pos rfl, nI_clamp hy]) ?_
            exact W.iret F.1 F.2.1 hr (fun t ht hW => ⟨rfl, by rw [ht]; exact hP, va_K.moved hW.alike hK, hD, hS.F ht⟩) hS.2.2 dT_key_157
          · refine lv_iconst (v := -1) F.1 F.2.1 dT_key_122 (by decide) ?_
            refine lv_goto F.1 F.2.1 (tgt := 157) dT_key_123 rfl ?_
            refine z_topV rr (by rw [← hR, h1]; unfold kyv; rw [if_pos rfl, if_neg (by decide), if_neg (by decide), if_pos rfl, bl_nI _ hy, decide_eq_false (by omega)]; rfl) ?_
            exact W.iret F.1 F.2.1 hr (fun t ht hW => ⟨rfl, by rw [ht]; exact hP, va_K.moved hW.alike hK, hD, hS.F ht⟩) hS.2.2 dT_key_157
    · refine lv_iconst (v := -1) F.1 F.2.1 dT_key_16 (by decide) ?_
      refine z_topV rr (by rw [← hR, h1]; exact (kyv_neg (by rw [Int32.lt_iff_toInt_lt]; rw [Int32.le_iff_toInt_le] at h2; omega)).symm) ?_
      exact W.iret F.1 F.2.1 hr (fun t ht hW => ⟨rfl, by rw [ht]; exact hP, va_K.moved hW.alike hK, hD, hS.F ht⟩) hS.2.2 dT_key_17
set_option maxHeartbeats 4000000 in
set_option maxRecDepth 100000 in
theorem ct_verify (l : Launch) (dC : Nat → ClassId) (dI : Nat → Nat → Nat) (cI cL : ClassId) (zz : Nat) (y0 yR yV yI yX yP yQ yS yD : Nat) (th cn pb ta al be ga de va : Nat) (md pd : Bool) (f v inp mx el qt su pr : Nat → Nat) (hmd : md = true) (hpd : pd = true) (hel : ∀ j, el j < 998244353) (hin : ∀ j, inp j < 998244353) (hmx : ∀ j, mx j < 998244353) (hal : al < 998244353) (hbe : be < 998244353) (hde : de < 998244353) (hpb : pb ≤ 6) : Met l yT_verify (zW yT_verify cT_verify 4 (.some .boolean)) ({ frames := 0, cells := 0, slots := 0, locals := 0 }) (va_Pc [.ref y0] (z_P (dC, dI) vwCl [(cI, .int), (cL, .long)] zz ([(y0, .inr (5, [.int (nI th), .ref yR, .int (nI cn), .int (nI pb), .ref yV, .ref yI, .int (z_b md), .long (lN ta), .long (lN al), .long (lN be), .long (lN ga), .long (lN de), .long (lN va), .ref yX, .int (z_b pd), .ref yP, .ref yQ, .ref yS, .ref yD])), (yR, .inl (cL, 816, .inr (.inl (fun x9 => lN (f x9))))), (yV, .inl (cL, 16, .inr (.inl (fun x9 => lN (v x9))))), (yI, .inl (cL, 16, .inr (.inl (fun x9 => lN (inp x9))))), (yX, .inl (cL, 16, .inr (.inl (fun x9 => lN (mx x9))))), (yP, .inl (cL, 3, .inr (.inl (fun x9 => lN (el x9))))), (yQ, .inl (cL, 32, .inr (.inl (fun x9 => lN (qt x9))))), (yS, .inl (cL, 48, .inr (.inl (fun x9 => lN (su x9))))), (yD, .inl (cL, 32, .inr (.inl (fun x9 => lN (pr x9)))))]))) (z_Q (dC, dI) vwCl [(cI, .int), (cL, .long)] (some (.int (z_b (decide (el 0 * el 1 % 998244353 = ((al * be % 998244353 + sg (pb + 1) (fun t => inp t * mx t)) % 998244353 + el 2 * de) % 998244353))))) ([(y0, .inr (5, [.int (nI 0), .ref yR, .int (nI cn), .int (nI pb), .ref yV, .ref yI, .int (z_b md), .long (lN ta), .long (lN al), .long (lN be), .long (lN ga), .long (lN de), .long (lN va), .ref yX, .int (z_b pd), .ref yP, .ref yQ, .ref yS, .ref yD])), (yR, .inl (cL, 816, .inr (.inl (fun x9 => lN (f x9))))), (yV, .inl (cL, 16, .inr (.inl (fun x9 => lN (v x9))))), (yI, .inl (cL, 16, .inr (.inl (fun x9 => lN (inp x9))))), (yX, .inl (cL, 16, .inr (.inl (fun x9 => lN (mx x9))))), (yP, .inl (cL, 3, .inr (.inl (fun x9 => lN (el x9))))), (yQ, .inl (cL, 32, .inr (.inl (fun x9 => lN (qt x9))))), (yS, .inl (cL, 48, .inr (.inl (fun x9 => lN (su x9))))), (yD, .inl (cL, 32, .inr (.inl (fun x9 => lN (pr x9)))))]) (va_A ([(y0, .inr (5, [.int (nI th), .ref yR, .int (nI cn), .int (nI pb), .ref yV, .ref yI, .int (z_b md), .long (lN ta), .long (lN al), .long (lN be), .long (lN ga), .long (lN de), .long (lN va), .ref yX, .int (z_b pd), .ref yP, .ref yQ, .ref yS, .ref yD])), (yR, .inl (cL, 816, .inr (.inl (fun x9 => lN (f x9))))), (yV, .inl (cL, 16, .inr (.inl (fun x9 => lN (v x9))))), (yI, .inl (cL, 16, .inr (.inl (fun x9 => lN (inp x9))))), (yX, .inl (cL, 16, .inr (.inl (fun x9 => lN (mx x9))))), (yP, .inl (cL, 3, .inr (.inl (fun x9 => lN (el x9))))), (yQ, .inl (cL, 32, .inr (.inl (fun x9 => lN (qt x9))))), (yS, .inl (cL, 48, .inr (.inl (fun x9 => lN (su x9))))), (yD, .inl (cL, 32, .inr (.inl (fun x9 => lN (pr x9)))))]) zz)) 0 0 (va_A ([(y0, .inr (5, [.int (nI th), .ref yR, .int (nI cn), .int (nI pb), .ref yV, .ref yI, .int (z_b md), .long (lN ta), .long (lN al), .long (lN be), .long (lN ga), .long (lN de), .long (lN va), .ref yX, .int (z_b pd), .ref yP, .ref yQ, .ref yS, .ref yD])), (yR, .inl (cL, 816, .inr (.inl (fun x9 => lN (f x9))))), (yV, .inl (cL, 16, .inr (.inl (fun x9 => lN (v x9))))), (yI, .inl (cL, 16, .inr (.inl (fun x9 => lN (inp x9))))), (yX, .inl (cL, 16, .inr (.inl (fun x9 => lN (mx x9))))), (yP, .inl (cL, 3, .inr (.inl (fun x9 => lN (el x9))))), (yQ, .inl (cL, 32, .inr (.inl (fun x9 => lN (qt x9))))), (yS, .inl (cL, 48, .inr (.inl (fun x9 => lN (su x9))))), (yD, .inl (cL, 32, .inr (.inl (fun x9 => lN (pr x9)))))]) zz) := by
  refine Met.ofW (cc := cT_verify) (maxL := 4) (ret := (.some .boolean)) (by decide) rfl ?_
  intro p e s m args below meth c s₁ B hml hv
  obtain ⟨rfl, hsz, hP, hK, hD0⟩ := hv
  have F : CallFix p m c cT_verify 4 s _ zT RT := ⟨B.exec, B.bytes, hml, findClass_of_methodNamed B.named, fun w h => atoms_spec (ws := (zW yT_verify cT_verify 4 (.some .boolean))) B.pre w (List.mem_cons_of_mem _ h)⟩
  have hr := B.returns
  have hlocks := B.notSynchronized
  subst hsz
  have hD := hD0.self (sz := s.heap.size)
  generalize hAe : va_A ([(y0, .inr (5, [.int (nI th), .ref yR, .int (nI cn), .int (nI pb), .ref yV, .ref yI, .int (z_b md), .long (lN ta), .long (lN al), .long (lN be), .long (lN ga), .long (lN de), .long (lN va), .ref yX, .int (z_b pd), .ref yP, .ref yQ, .ref yS, .ref yD])), (yR, .inl (cL, 816, .inr (.inl (fun x9 => lN (f x9))))), (yV, .inl (cL, 16, .inr (.inl (fun x9 => lN (v x9))))), (yI, .inl (cL, 16, .inr (.inl (fun x9 => lN (inp x9))))), (yX, .inl (cL, 16, .inr (.inl (fun x9 => lN (mx x9))))), (yP, .inl (cL, 3, .inr (.inl (fun x9 => lN (el x9))))), (yQ, .inl (cL, 32, .inr (.inl (fun x9 => lN (qt x9))))), (yS, .inl (cL, 48, .inr (.inl (fun x9 => lN (su x9))))), (yD, .inl (cL, 32, .inr (.inl (fun x9 => lN (pr x9)))))]) s.heap.size = A at hD ⊢
  have hAA : ∀ q : Nat, s.heap.size ≤ q → A q := fun q h => by rw [← hAe]; exact Or.inr h
  have hS : va_S A s.heap s.heap [] := va_S.rf
  have hl := lv_entry ([.ref y0]) (n := 4) (Nat.le_of_ble_eq_true rfl)
  rw [lg_entry_eq]
  generalize (lg_sl ([.ref y0]) ++ List.replicate (4 - (lg_sl ([.ref y0])).length) Slot.unset).toArray = ls at hl ⊢
  have hl : lv_has ls 4 [(0, .ref y0)] := hl
  refine lv_aload_n F.1 F.2.1 dT_verify_0 rfl (lv_at hl 0 rfl) ?_
  refine lv_aload_n F.1 F.2.1 dT_verify_1 rfl (lv_at hl 0 rfl) ?_
  refine z_get F hK hP hinT 0 rfl rfl 6 (by decide) rfl wf_T_53 rfl dT_verify_2 ?_
  refine z_ifb_eq F (tgt := 15) dT_verify_5 rfl (fun h => by rw [hmd] at h; cases h) (fun h => ?_)
  refine lv_aload_n F.1 F.2.1 dT_verify_8 rfl (lv_at hl 0 rfl) ?_
  refine z_get F hK hP hinT 0 rfl rfl 14 (by decide) rfl wf_T_119 rfl dT_verify_9 ?_
  refine z_ifb_ne F (tgt := 19) dT_verify_12 rfl (fun h => ?_) (fun h => by rw [hpd] at h; cases h)
  refine z_iconst (v := 0) F (by decide) dT_verify_19 ?_
  refine z_put F hK hP hD hS hinT tyT tyT_ok nmT 0 rfl rfl 0 (by decide) rfl rfl wf_T_34 (rfl) (rfl) (Nat.le_of_ble_eq_true rfl) dT_verify_20 (fun H locs hP hD hS => ?_)
  have hP : va_P (dC, dI) vwCl ([(y0, .inr (5, [.int (nI 0), .ref yR, .int (nI cn), .int (nI pb), .ref yV, .ref yI, .int (z_b md), .long (lN ta), .long (lN al), .long (lN be), .long (lN ga), .long (lN de), .long (lN va), .ref yX, .int (z_b pd), .ref yP, .ref yQ, .ref yS, .ref yD])), (yR, .inl (cL, 816, .inr (.inl (fun x9 => lN (f x9))))), (yV, .inl (cL, 16, .inr (.inl (fun x9 => lN (v x9))))), (yI, .inl (cL, 16, .inr (.inl (fun x9 => lN (inp x9))))), (yX, .inl (cL, 16, .inr (.inl (fun x9 => lN (mx x9))))), (yP, .inl (cL, 3, .inr (.inl (fun x9 => lN (el x9))))), (yQ, .inl (cL, 32, .inr (.inl (fun x9 => lN (qt x9))))), (yS, .inl (cL, 48, .inr (.inl (fun x9 => lN (su x9))))), (yD, .inl (cL, 32, .inr (.inl (fun x9 => lN (pr x9)))))]) H := hP
  have hD : va_D A ([(y0, .inr (5, [.int (nI 0), .ref yR, .int (nI cn), .int (nI pb), .ref yV, .ref yI, .int (z_b md), .long (lN ta), .long (lN al), .long (lN be), .long (lN ga), .long (lN de), .long (lN va), .ref yX, .int (z_b pd), .ref yP, .ref yQ, .ref yS, .ref yD])), (yR, .inl (cL, 816, .inr (.inl (fun x9 => lN (f x9))))), (yV, .inl (cL, 16, .inr (.inl (fun x9 => lN (v x9))))), (yI, .inl (cL, 16, .inr (.inl (fun x9 => lN (inp x9))))), (yX, .inl (cL, 16, .inr (.inl (fun x9 => lN (mx x9))))), (yP, .inl (cL, 3, .inr (.inl (fun x9 => lN (el x9))))), (yQ, .inl (cL, 32, .inr (.inl (fun x9 => lN (qt x9))))), (yS, .inl (cL, 48, .inr (.inl (fun x9 => lN (su x9))))), (yD, .inl (cL, 32, .inr (.inl (fun x9 => lN (pr x9)))))]) := hD
  refine lv_aload_n F.1 F.2.1 dT_verify_23 rfl (lv_at hl 0 rfl) ?_
  refine z_get F hK hP hinT 0 rfl rfl 0 (by decide) rfl wf_T_34 rfl dT_verify_24 ?_
  refine z_if_le F (by omega) (tgt := 32) dT_verify_27 rfl (fun h => ?_) (fun h => absurd h (by decide))
  have hm := z_mb (a := al) (b := be) (Nat.lt_trans (hal) (by decide)) (Nat.lt_trans (hbe) (by decide))
  refine lv_aload_n F.1 F.2.1 dT_verify_32 rfl (lv_at hl 0 rfl) ?_
  refine z_get F hK hP hinT 0 rfl rfl 8 (by decide) rfl wf_T_90 rfl dT_verify_33 ?_
  refine lv_aload_n F.1 F.2.1 dT_verify_36 rfl (lv_at hl 0 rfl) ?_
  refine z_get F hK hP hinT 0 rfl rfl 9 (by decide) rfl wf_T_93 rfl dT_verify_37 ?_
  refine z_lmul F dT_verify_40 ?_
  refine z_ldc2 F 998244353 (v0 := 998244353) wk_T_38 rfl dT_verify_41 ?_
  refine z_lrem F (by omega) (by omega) (by omega) dT_verify_44 ?_
  refine z_topL ((al * be % 998244353 + sg 0 (fun t => inp t * mx t)) % 998244353) (by rw [sg_0, Nat.add_zero, Nat.mod_mod]) ?_
  refine lv_lstore_n F.1 F.2.1 (lv' := [(1, .long (lN ((al * be % 998244353 + sg 0 (fun t => inp t * mx t)) % 998244353))), (0, .ref y0)]) dT_verify_45 rfl hl (by decide) rfl (fun ls hl => ?_)
  refine z_iconst (v := 0) F (by decide) dT_verify_46 ?_
  refine lv_istore_n F.1 F.2.1 (lv' := [(3, .int (nI 0)), (1, .long (lN ((al * be % 998244353 + sg 0 (fun t => inp t * mx t)) % 998244353))), (0, .ref y0)]) dT_verify_47 rfl hl (by decide) rfl (fun ls hl => ?_)
  have hl : lv_has ls 4 [(3, .int (nI 0)), (1, .long (lN ((al * be % 998244353 + sg 0 (fun t => inp t * mx t)) % 998244353))), (0, .ref y0)] := lv_sub hl [0, 1, 2] rfl
  refine z_up (E := pb + 1) (P := fun u => ∀  (ls : Array Slot), lv_has ls 4 [(3, .int (nI u)), (1, .long (lN ((al * be % 998244353 + sg u (fun t => inp t * mx t)) % 998244353))), (0, .ref y0)] → W p l e _ s m _ below meth c H locs _ _ _ (F0 m 48 ls [])) ?_ 0 (Nat.zero_le _)  ls  hl
  intro u hu ih  ls  hl
  refine lv_iload_n F.1 F.2.1 dT_verify_48 rfl (lv_at hl 0 rfl) ?_
  refine lv_aload_n F.1 F.2.1 dT_verify_49 rfl (lv_at hl 2 rfl) ?_
  refine z_get F hK hP hinT 0 rfl rfl 3 (by decide) rfl wf_T_57 rfl dT_verify_50 ?_
  refine z_icmp_gt F (by omega) (by omega) (tgt := 82) dT_verify_53 rfl (fun h1 => ?_) (fun h1 => ?_)
  · have hm2 := z_mb (a := el 2) (b := de) (Nat.lt_trans (hel _) (by decide)) (Nat.lt_trans (hde) (by decide))
    have hm3 := z_mb (a := el 0) (b := el 1) (Nat.lt_trans (hel _) (by decide)) (Nat.lt_trans (hel _) (by decide))
    have hri := ltP (al * be % 998244353 + sg u (fun t => inp t * mx t))
    refine lv_lload_n F.1 F.2.1 dT_verify_82 rfl (lv_at hl 1 rfl) ?_
    refine lv_aload_n F.1 F.2.1 dT_verify_83 rfl (lv_at hl 2 rfl) ?_
    refine z_get F hK hP hinT 0 rfl rfl 15 (by decide) rfl wf_T_22 rfl dT_verify_84 ?_
    refine z_iconst (v := 2) F (by decide) dT_verify_87 ?_
    refine z_lald F hK hP 5 1 rfl rfl (by omega) (by decide) dT_verify_88 ?_
    refine lv_aload_n F.1 F.2.1 dT_verify_89 rfl (lv_at hl 2 rfl) ?_
    refine z_get F hK hP hinT 0 rfl rfl 11 (by decide) rfl wf_T_99 rfl dT_verify_90 ?_
    refine z_lmul F dT_verify_93 ?_
    refine z_ladd F dT_verify_94 ?_
    refine z_ldc2 F 998244353 (v0 := 998244353) wk_T_38 rfl dT_verify_95 ?_
    refine z_lrem F (by omega) (by omega) (by omega) dT_verify_98 ?_
    refine z_topL (((al * be % 998244353 + sg (pb + 1) (fun t => inp t * mx t)) % 998244353 + el 2 * de) % 998244353) (by rw [show u = pb + 1 by omega]) ?_
    refine lv_lstore_n F.1 F.2.1 (lv' := [(1, .long (lN (((al * be % 998244353 + sg (pb + 1) (fun t => inp t * mx t)) % 998244353 + el 2 * de) % 998244353))), (3, .int (nI u)), (0, .ref y0)]) dT_verify_99 rfl hl (by decide) rfl (fun ls hl => ?_)
    refine lv_aload_n F.1 F.2.1 dT_verify_100 rfl (lv_at hl 2 rfl) ?_
    refine z_get F hK hP hinT 0 rfl rfl 15 (by decide) rfl wf_T_22 rfl dT_verify_101 ?_
    refine z_iconst (v := 0) F (by decide) dT_verify_104 ?_
    refine z_lald F hK hP 5 1 rfl rfl (by omega) (by decide) dT_verify_105 ?_
    refine lv_aload_n F.1 F.2.1 dT_verify_106 rfl (lv_at hl 2 rfl) ?_
    refine z_get F hK hP hinT 0 rfl rfl 15 (by decide) rfl wf_T_22 rfl dT_verify_107 ?_
    refine z_iconst (v := 1) F (by decide) dT_verify_110 ?_
    refine z_lald F hK hP 5 1 rfl rfl (by omega) (by decide) dT_verify_111 ?_
    refine z_lmul F dT_verify_112 ?_
    refine z_ldc2 F 998244353 (v0 := 998244353) wk_T_38 rfl dT_verify_113 ?_
    refine z_lrem F (by omega) (by omega) (by omega) dT_verify_116 ?_
    refine lv_lload_n F.1 F.2.1 dT_verify_117 rfl (lv_at hl 0 rfl) ?_
    refine z_lcmp F dT_verify_118 ?_
    refine z_ifl_ne F (Nat.lt_trans (ltP _) (by decide)) (Nat.lt_trans (ltP _) (by decide)) (tgt := 126) dT_verify_119 rfl (fun h2 => ?_) (fun h2 => ?_)
    · refine z_iconst (v := 0) F (by decide) dT_verify_126 ?_
      refine z_topV (z_b (decide (el 0 * el 1 % 998244353 = ((al * be % 998244353 + sg (pb + 1) (fun t => inp t * mx t)) % 998244353 + el 2 * de) % 998244353))) (by rw [decide_eq_false h2]; decide) ?_
      exact W.zret F.1 F.2.1 hr (by cases decide (el 0 * el 1 % 998244353 = ((al * be % 998244353 + sg (pb + 1) (fun t => inp t * mx t)) % 998244353 + el 2 * de) % 998244353) <;> rfl) (fun t ht hW => ⟨rfl, by rw [ht]; exact hP, va_K.moved hW.alike hK, hD, hS.F ht⟩) hS.2.2 dT_verify_127
    · refine z_iconst (v := 1) F (by decide) dT_verify_122 ?_
      refine lv_goto F.1 F.2.1 (tgt := 127) dT_verify_123 rfl ?_
      refine z_topV (z_b (decide (el 0 * el 1 % 998244353 = ((al * be % 998244353 + sg (pb + 1) (fun t => inp t * mx t)) % 998244353 + el 2 * de) % 998244353))) (by rw [decide_eq_true h2]; decide) ?_
      exact W.zret F.1 F.2.1 hr (by cases decide (el 0 * el 1 % 998244353 = ((al * be % 998244353 + sg (pb + 1) (fun t => inp t * mx t)) % 998244353 + el 2 * de) % 998244353) <;> rfl) (fun t ht hW => ⟨rfl, by rw [ht]; exact hP, va_K.moved hW.alike hK, hD, hS.F ht⟩) hS.2.2 dT_verify_127
  · refine lv_lload_n F.1 F.2.1 dT_verify_56 rfl (lv_at hl 1 rfl) ?_
    refine lv_aload_n F.1 F.2.1 dT_verify_57 rfl (lv_at hl 2 rfl) ?_
    refine z_get F hK hP hinT 0 rfl rfl 5 (by decide) rfl wf_T_16 rfl dT_verify_58 ?_
    refine lv_iload_n F.1 F.2.1 dT_verify_61 rfl (lv_at hl 0 rfl) ?_
    refine z_lald F hK hP 3 1 rfl rfl (by omega) (by decide) dT_verify_62 ?_
    refine lv_aload_n F.1 F.2.1 dT_verify_63 rfl (lv_at hl 2 rfl) ?_
    refine z_get F hK hP hinT 0 rfl rfl 13 (by decide) rfl wf_T_19 rfl dT_verify_64 ?_
    refine lv_iload_n F.1 F.2.1 dT_verify_67 rfl (lv_at hl 0 rfl) ?_
    refine z_lald F hK hP 4 1 rfl rfl (by omega) (by decide) dT_verify_68 ?_
    have hm2 := z_mb (a := inp u) (b := mx u) (Nat.lt_trans (hin _) (by decide)) (Nat.lt_trans (hmx _) (by decide))
    have hri := ltP (al * be % 998244353 + sg u (fun t => inp t * mx t))
    refine z_lmul F dT_verify_69 ?_
    refine z_ladd F dT_verify_70 ?_
    refine z_ldc2 F 998244353 (v0 := 998244353) wk_T_38 rfl dT_verify_71 ?_
    refine z_lrem F (by omega) (by omega) (by omega) dT_verify_74 ?_
    refine z_topL ((al * be % 998244353 + sg (u + 1) (fun t => inp t * mx t)) % 998244353) (sm3 _ u (fun t => inp t * mx t)) ?_
    refine lv_lstore_n F.1 F.2.1 (lv' := [(1, .long (lN ((al * be % 998244353 + sg (u + 1) (fun t => inp t * mx t)) % 998244353))), (3, .int (nI u)), (0, .ref y0)]) dT_verify_75 rfl hl (by decide) rfl (fun ls hl => ?_)
    refine lv_iinc F.1 F.2.1 (k := 1) (v := nI (u + 1)) (lv' := [(3, .int (nI (u + 1))), (1, .long (lN ((al * be % 998244353 + sg (u + 1) (fun t => inp t * mx t)) % 998244353))), (0, .ref y0)]) dT_verify_76 hl rfl (nI_1 u) (by decide) rfl (fun ls hl => ?_)
    refine lv_goto F.1 F.2.1 (tgt := 48) dT_verify_79 rfl ?_
    have hl : lv_has ls 4 [(3, .int (nI ((u + 1)))), (1, .long (lN ((al * be % 998244353 + sg (u + 1) (fun t => inp t * mx t)) % 998244353))), (0, .ref y0)] := lv_sub hl [0, 1, 2] rfl
    exact ih (by omega)  ls  hl
set_option maxHeartbeats 4000000 in
set_option maxRecDepth 100000 in
theorem ct_verify_no (l : Launch) (dC : Nat → ClassId) (dI : Nat → Nat → Nat) (cI cL : ClassId) (zz : Nat) (y0 yR yV yI yX yP yQ yS yD : Nat) (th cn pb ta al be ga de va : Nat) (md pd : Bool) (f v inp mx el qt su pr : Nat → Nat) (hq : (md && pd) = false) : Met l yT_verify (zW yT_verify cT_verify 4 (.some .boolean)) ({ frames := 0, cells := 0, slots := 0, locals := 0 }) (va_Pc [.ref y0] (z_P (dC, dI) vwCl [(cI, .int), (cL, .long)] zz ([(y0, .inr (5, [.int (nI th), .ref yR, .int (nI cn), .int (nI pb), .ref yV, .ref yI, .int (z_b md), .long (lN ta), .long (lN al), .long (lN be), .long (lN ga), .long (lN de), .long (lN va), .ref yX, .int (z_b pd), .ref yP, .ref yQ, .ref yS, .ref yD])), (yR, .inl (cL, 816, .inr (.inl (fun x9 => lN (f x9))))), (yV, .inl (cL, 16, .inr (.inl (fun x9 => lN (v x9))))), (yI, .inl (cL, 16, .inr (.inl (fun x9 => lN (inp x9))))), (yX, .inl (cL, 16, .inr (.inl (fun x9 => lN (mx x9))))), (yP, .inl (cL, 3, .inr (.inl (fun x9 => lN (el x9))))), (yQ, .inl (cL, 32, .inr (.inl (fun x9 => lN (qt x9))))), (yS, .inl (cL, 48, .inr (.inl (fun x9 => lN (su x9))))), (yD, .inl (cL, 32, .inr (.inl (fun x9 => lN (pr x9)))))]))) (z_Q (dC, dI) vwCl [(cI, .int), (cL, .long)] (some (.int (z_b false))) ([(y0, .inr (5, [.int (nI 1), .ref yR, .int (nI cn), .int (nI pb), .ref yV, .ref yI, .int (z_b md), .long (lN ta), .long (lN al), .long (lN be), .long (lN ga), .long (lN de), .long (lN va), .ref yX, .int (z_b pd), .ref yP, .ref yQ, .ref yS, .ref yD])), (yR, .inl (cL, 816, .inr (.inl (fun x9 => lN (f x9))))), (yV, .inl (cL, 16, .inr (.inl (fun x9 => lN (v x9))))), (yI, .inl (cL, 16, .inr (.inl (fun x9 => lN (inp x9))))), (yX, .inl (cL, 16, .inr (.inl (fun x9 => lN (mx x9))))), (yP, .inl (cL, 3, .inr (.inl (fun x9 => lN (el x9))))), (yQ, .inl (cL, 32, .inr (.inl (fun x9 => lN (qt x9))))), (yS, .inl (cL, 48, .inr (.inl (fun x9 => lN (su x9))))), (yD, .inl (cL, 32, .inr (.inl (fun x9 => lN (pr x9)))))]) (va_A ([(y0, .inr (5, [.int (nI th), .ref yR, .int (nI cn), .int (nI pb), .ref yV, .ref yI, .int (z_b md), .long (lN ta), .long (lN al), .long (lN be), .long (lN ga), .long (lN de), .long (lN va), .ref yX, .int (z_b pd), .ref yP, .ref yQ, .ref yS, .ref yD])), (yR, .inl (cL, 816, .inr (.inl (fun x9 => lN (f x9))))), (yV, .inl (cL, 16, .inr (.inl (fun x9 => lN (v x9))))), (yI, .inl (cL, 16, .inr (.inl (fun x9 => lN (inp x9))))), (yX, .inl (cL, 16, .inr (.inl (fun x9 => lN (mx x9))))), (yP, .inl (cL, 3, .inr (.inl (fun x9 => lN (el x9))))), (yQ, .inl (cL, 32, .inr (.inl (fun x9 => lN (qt x9))))), (yS, .inl (cL, 48, .inr (.inl (fun x9 => lN (su x9))))), (yD, .inl (cL, 32, .inr (.inl (fun x9 => lN (pr x9)))))]) zz)) 0 0 (va_A ([(y0, .inr (5, [.int (nI th), .ref yR, .int (nI cn), .int (nI pb), .ref yV, .ref yI, .int (z_b md), .long (lN ta), .long (lN al), .long (lN be), .long (lN ga), .long (lN de), .long (lN va), .ref yX, .int (z_b pd), .ref yP, .ref yQ, .ref yS, .ref yD])), (yR, .inl (cL, 816, .inr (.inl (fun x9 => lN (f x9))))), (yV, .inl (cL, 16, .inr (.inl (fun x9 => lN (v x9))))), (yI, .inl (cL, 16, .inr (.inl (fun x9 => lN (inp x9))))), (yX, .inl (cL, 16, .inr (.inl (fun x9 => lN (mx x9))))), (yP, .inl (cL, 3, .inr (.inl (fun x9 => lN (el x9))))), (yQ, .inl (cL, 32, .inr (.inl (fun x9 => lN (qt x9))))), (yS, .inl (cL, 48, .inr (.inl (fun x9 => lN (su x9))))), (yD, .inl (cL, 32, .inr (.inl (fun x9 => lN (pr x9)))))]) zz) := by
  refine Met.ofW (cc := cT_verify) (maxL := 4) (ret := (.some .boolean)) (by decide) rfl ?_
  intro p e s m args below meth c s₁ B hml hv
  obtain ⟨rfl, hsz, hP, hK, hD0⟩ := hv
  have F : CallFix p m c cT_verify 4 s _ zT RT := ⟨B.exec, B.bytes, hml, findClass_of_methodNamed B.named, fun w h => atoms_spec (ws := (zW yT_verify cT_verify 4 (.some .boolean))) B.pre w (List.mem_cons_of_mem _ h)⟩
  have hr := B.returns
  have hlocks := B.notSynchronized
  subst hsz
  have hD := hD0.self (sz := s.heap.size)
  generalize hAe : va_A ([(y0, .inr (5, [.int (nI th), .ref yR, .int (nI cn), .int (nI pb), .ref yV, .ref yI, .int (z_b md), .long (lN ta), .long (lN al), .long (lN be), .long (lN ga), .long (lN de), .long (lN va), .ref yX, .int (z_b pd), .ref yP, .ref yQ, .ref yS, .ref yD])), (yR, .inl (cL, 816, .inr (.inl (fun x9 => lN (f x9))))), (yV, .inl (cL, 16, .inr (.inl (fun x9 => lN (v x9))))), (yI, .inl (cL, 16, .inr (.inl (fun x9 => lN (inp x9))))), (yX, .inl (cL, 16, .inr (.inl (fun x9 => lN (mx x9))))), (yP, .inl (cL, 3, .inr (.inl (fun x9 => lN (el x9))))), (yQ, .inl (cL, 32, .inr (.inl (fun x9 => lN (qt x9))))), (yS, .inl (cL, 48, .inr (.inl (fun x9 => lN (su x9))))), (yD, .inl (cL, 32, .inr (.inl (fun x9 => lN (pr x9)))))]) s.heap.size = A at hD ⊢
  have hAA : ∀ q : Nat, s.heap.size ≤ q → A q := fun q h => by rw [← hAe]; exact Or.inr h
  have hS : va_S A s.heap s.heap [] := va_S.rf
  have hl := lv_entry ([.ref y0]) (n := 4) (Nat.le_of_ble_eq_true rfl)
  rw [lg_entry_eq]
  generalize (lg_sl ([.ref y0]) ++ List.replicate (4 - (lg_sl ([.ref y0])).length) Slot.unset).toArray = ls at hl ⊢
  have hl : lv_has ls 4 [(0, .ref y0)] := hl
  refine lv_aload_n F.1 F.2.1 dT_verify_0 rfl (lv_at hl 0 rfl) ?_
  refine lv_aload_n F.1 F.2.1 dT_verify_1 rfl (lv_at hl 0 rfl) ?_
  refine z_get F hK hP hinT 0 rfl rfl 6 (by decide) rfl wf_T_53 rfl dT_verify_2 ?_
  refine z_ifb_eq F (tgt := 15) dT_verify_5 rfl (fun h1 => ?_) (fun h1 => ?_)
  · refine z_iconst (v := 1) F (by decide) dT_verify_15 ?_
    refine lv_goto F.1 F.2.1 (tgt := 20) dT_verify_16 rfl ?_
    refine z_put F hK hP hD hS hinT tyT tyT_ok nmT 0 rfl rfl 0 (by decide) rfl rfl wf_T_34 (rfl) (rfl) (Nat.le_of_ble_eq_true rfl) dT_verify_20 (fun H locs hP hD hS => ?_)
    have hP : va_P (dC, dI) vwCl ([(y0, .inr (5, [.int (nI 1), .ref yR, .int (nI cn), .int (nI pb), .ref yV, .ref yI, .int (z_b md), .long (lN ta), .long (lN al), .long (lN be), .long (lN ga), .long (lN de), .long (lN va), .ref yX, .int (z_b pd), .ref yP, .ref yQ, .ref yS, .ref yD])), (yR, .inl (cL, 816, .inr (.inl (fun x9 => lN (f x9))))), (yV, .inl (cL, 16, .inr (.inl (fun x9 => lN (v x9))))), (yI, .inl (cL, 16, .inr (.inl (fun x9 => lN (inp x9))))), (yX, .inl (cL, 16, .inr (.inl (fun x9 => lN (mx x9))))), (yP, .inl (cL, 3, .inr (.inl (fun x9 => lN (el x9))))), (yQ, .inl (cL, 32, .inr (.inl (fun x9 => lN (qt x9))))), (yS, .inl (cL, 48, .inr (.inl (fun x9 => lN (su x9))))), (yD, .inl (cL, 32, .inr (.inl (fun x9 => lN (pr x9)))))]) H := hP
    have hD : va_D A ([(y0, .inr (5, [.int (nI 1), .ref yR, .int (nI cn), .int (nI pb), .ref yV, .ref yI, .int (z_b md), .long (lN ta), .long (lN al), .long (lN be), .long (lN ga), .long (lN de), .long (lN va), .ref yX, .int (z_b pd), .ref yP, .ref yQ, .ref yS, .ref yD])), (yR, .inl (cL, 816, .inr (.inl (fun x9 => lN (f x9))))), (yV, .inl (cL, 16, .inr (.inl (fun x9 => lN (v x9))))), (yI, .inl (cL, 16, .inr (.inl (fun x9 => lN (inp x9))))), (yX, .inl (cL, 16, .inr (.inl (fun x9 => lN (mx x9))))), (yP, .inl (cL, 3, .inr (.inl (fun x9 => lN (el x9))))), (yQ, .inl (cL, 32, .inr (.inl (fun x9 => lN (qt x9))))), (yS, .inl (cL, 48, .inr (.inl (fun x9 => lN (su x9))))), (yD, .inl (cL, 32, .inr (.inl (fun x9 => lN (pr x9)))))]) := hD
    refine lv_aload_n F.1 F.2.1 dT_verify_23 rfl (lv_at hl 0 rfl) ?_
    refine z_get F hK hP hinT 0 rfl rfl 0 (by decide) rfl wf_T_34 rfl dT_verify_24 ?_
    refine z_if_le F (by omega) (tgt := 32) dT_verify_27 rfl (fun h => absurd h (by decide)) (fun h => ?_)
    refine z_iconst (v := 0) F (by decide) dT_verify_30 ?_
    refine z_topV (z_b false) (by decide) ?_
    exact W.zret F.1 F.2.1 hr rfl (fun t ht hW => ⟨rfl, by rw [ht]; exact hP, va_K.moved hW.alike hK, hD, hS.F ht⟩) hS.2.2 dT_verify_31
  · rw [h1, Bool.true_and] at hq
    refine lv_aload_n F.1 F.2.1 dT_verify_8 rfl (lv_at hl 0 rfl) ?_
    refine z_get F hK hP hinT 0 rfl rfl 14 (by decide) rfl wf_T_119 rfl dT_verify_9 ?_
    refine z_ifb_ne F (tgt := 19) dT_verify_12 rfl (fun h => by rw [hq] at h; cases h) (fun h => ?_)
    refine z_iconst (v := 1) F (by decide) dT_verify_15 ?_
    refine lv_goto F.1 F.2.1 (tgt := 20) dT_verify_16 rfl ?_
    refine z_put F hK hP hD hS hinT tyT tyT_ok nmT 0 rfl rfl 0 (by decide) rfl rfl wf_T_34 (rfl) (rfl) (Nat.le_of_ble_eq_true rfl) dT_verify_20 (fun H locs hP hD hS => ?_)
    have hP : va_P (dC, dI) vwCl ([(y0, .inr (5, [.int (nI 1), .ref yR, .int (nI cn), .int (nI pb), .ref yV, .ref yI, .int (z_b md), .long (lN ta), .long (lN al), .long (lN be), .long (lN ga), .long (lN de), .long (lN va), .ref yX, .int (z_b pd), .ref yP, .ref yQ, .ref yS, .ref yD])), (yR, .inl (cL, 816, .inr (.inl (fun x9 => lN (f x9))))), (yV, .inl (cL, 16, .inr (.inl (fun x9 => lN (v x9))))), (yI, .inl (cL, 16, .inr (.inl (fun x9 => lN (inp x9))))), (yX, .inl (cL, 16, .inr (.inl (fun x9 => lN (mx x9))))), (yP, .inl (cL, 3, .inr (.inl (fun x9 => lN (el x9))))), (yQ, .inl (cL, 32, .inr (.inl (fun x9 => lN (qt x9))))), (yS, .inl (cL, 48, .inr (.inl (fun x9 => lN (su x9))))), (yD, .inl (cL, 32, .inr (.inl (fun x9 => lN (pr x9)))))]) H := hP
    have hD : va_D A ([(y0, .inr (5, [.int (nI 1), .ref yR, .int (nI cn), .int (nI pb), .ref yV, .ref yI, .int (z_b md), .long (lN ta), .long (lN al), .long (lN be), .long (lN ga), .long (lN de), .long (lN va), .ref yX, .int (z_b pd), .ref yP, .ref yQ, .ref yS, .ref yD])), (yR, .inl (cL, 816, .inr (.inl (fun x9 => lN (f x9))))), (yV, .inl (cL, 16, .inr (.inl (fun x9 => lN (v x9))))), (yI, .inl (cL, 16, .inr (.inl (fun x9 => lN (inp x9))))), (yX, .inl (cL, 16, .inr (.inl (fun x9 => lN (mx x9))))), (yP, .inl (cL, 3, .inr (.inl (fun x9 => lN (el x9))))), (yQ, .inl (cL, 32, .inr (.inl (fun x9 => lN (qt x9))))), (yS, .inl (cL, 48, .inr (.inl (fun x9 => lN (su x9))))), (yD, .inl (cL, 32, .inr (.inl (fun x9 => lN (pr x9)))))]) := hD
    refine lv_aload_n F.1 F.2.1 dT_verify_23 rfl (lv_at hl 0 rfl) ?_
    refine z_get F hK hP hinT 0 rfl rfl 0 (by decide) rfl wf_T_34 rfl dT_verify_24 ?_
    refine z_if_le F (by omega) (tgt := 32) dT_verify_27 rfl (fun h => absurd h (by decide)) (fun h => ?_)
    refine z_iconst (v := 0) F (by decide) dT_verify_30 ?_
    refine z_topV (z_b false) (by decide) ?_
    exact W.zret F.1 F.2.1 hr rfl (fun t ht hW => ⟨rfl, by rw [ht]; exact hP, va_K.moved hW.alike hK, hD, hS.F ht⟩) hS.2.2 dT_verify_31
