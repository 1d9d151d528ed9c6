/-! the class's numbers are the reference's -/
section ZSAME
variable {cn : Nat} {bb : Nat → Nat}
/-- the points' weights -/
theorem wts_wt (hb : ∀ j, j < szN cn → bb j = bk (szN cn) ^ j % 998244353) (ta j : Nat) (hj : j < szN cn) : wts (szN cn) (iv (szN cn)) ta bb j = wt (szN cn) ta j := by
  unfold wts
  rw [if_pos hj]
  have h1 : cg (sg (szN cn) (fun u => (ta * bb j % 998244353) ^ u)) (sg (szN cn) (fun k => (ta * bk (szN cn) ^ j) ^ k)) := by
    refine cg.sum (fun u _ => cg.pow ?_ u)
    rw [hb j hj]
    exact (cg.md _).tr (cg.mr _ (cg.md _))
  exact ((cg.md _).tr h1).ml _
theorem at_wt (ta : Nat) (p w : Nat → Nat) (hw : ∀ j, j < cn → w j = wt (szN cn) ta j) : cg (sg (szN cn) (fun k => cf cn (szN cn) p k * pw ta k)) (sg cn (fun t => p t * w t)) := by
  refine cg.tr (cg.sum (fun k _ => cg.mr _ (pw_cg ta k))) ((cf_at cn (szN cn) ta p).tr (cg.of (sg_congr (fun j hj => by rw [hw j hj]))))
/-- the mixes -/
theorem mxs_mxT (ta al be : Nat) (f w : Nat → Nat) (i : Nat) (hw : ∀ j, j < cn → w j = wt (szN cn) ta j) : mxs cn al be f w i = mxT cn ta al be f i := by
  have h := fun row => at_wt ta (fun t => f ((t * 3 + row) * 16 + i)) w hw
  have h0 : sg (szN cn) (fun k => cf cn (szN cn) (fun t => f ((t * 3 + 0) * 16 + i)) k * pw ta k) % 998244353 = sg cn (fun t => f ((t * 3 + 0) * 16 + i) * w t) % 998244353 := h 0
  have h1 : sg (szN cn) (fun k => cf cn (szN cn) (fun t => f ((t * 3 + 1) * 16 + i)) k * pw ta k) % 998244353 = sg cn (fun t => f ((t * 3 + 1) * 16 + i) * w t) % 998244353 := h 1
  have h2 : sg (szN cn) (fun k => cf cn (szN cn) (fun t => f ((t * 3 + 2) * 16 + i)) k * pw ta k) % 998244353 = sg cn (fun t => f ((t * 3 + 2) * 16 + i) * w t) % 998244353 := h 2
  unfold mxs mxT
  rw [h0, h1, h2, Nat.mod_add_mod]
theorem pts_cg (f v : Nat → Nat) (row : Nat) : ∀ j, j < cn → cg (pts cn f v row j) (sg 16 (fun i => f ((j * 3 + row) * 16 + i) * v i)) := fun j hj => by
  unfold pts
  rw [if_pos hj]
  exact cg.md _
/-- the sums' coefficients -/
theorem itp_suC (hn : cn ≤ 16) (hb : ∀ j, j < szN cn → bb j = bk (szN cn) ^ j % 998244353) (f v o : Nat → Nat) (row k : Nat) (hk : k < szN cn) : itp (szN cn) (iv (szN cn)) bb (pts cn f v row) o k = suC cn f v row k := by
  unfold itp suC
  rw [if_pos hk, if_pos hk, cf_by cn k (pts cn f v row) (pts cn f v row) hn (fun j hj => by unfold pts; rw [if_neg (by omega)]) (fun _ _ => rfl) bb hb]
  have h1 := cf_lin cn (szN cn) k v (fun i j => f ((j * 3 + row) * 16 + i))
  have h2 : cf cn (szN cn) (pts cn f v row) k = cf cn (szN cn) (fun j => sg 16 (fun i => f ((j * 3 + row) * 16 + i) * v i)) k := cf_congr (pts_cg f v row)
  rw [h2]
  exact (cg.eq ((cg.md _).tr h1) (ltP _) (cf_lt _ _ _ _)).symm
theorem suR_0 (f v su : Nat → Nat) (a : Nat) (ha : a < 16) : suR cn f v 2 (suR cn f v 1 (suR cn f v 0 su)) a = suC cn f v 0 a := by
  unfold suR
  rw [if_neg (by omega), if_neg (by omega), if_pos (by omega)]
  rfl
theorem suR_1 (f v su : Nat → Nat) (a : Nat) (ha : a < 16) : suR cn f v 2 (suR cn f v 1 (suR cn f v 0 su)) (16 + a) = suC cn f v 1 a := by
  unfold suR
  rw [if_neg (by omega), if_pos (by omega), show 16 + a - 16 * 1 = a by omega]
/-- the quotient -/
theorem dvd_qtC (hn : cn ≤ 16) (hb : ∀ j, j < szN cn → bb j = bk (szN cn) ^ j % 998244353) (f v o1 o2 su : Nat → Nat) (k : Nat) :
    dvd (szN cn) (itp (szN cn) (iv (szN cn)) bb (pts cn f v 0) o1) (itp (szN cn) (iv (szN cn)) bb (pts cn f v 1) o2) k = qtC (szN cn) (suR cn f v 2 (suR cn f v 1 (suR cn f v 0 su))) k := by
  have hhi := szN_hi cn
  unfold dvd qtC
  by_cases hk : k < szN cn
  · rw [if_pos hk]
    have e1 : sg (szN cn) (fun a => tm (szN cn) (suR cn f v 2 (suR cn f v 1 (suR cn f v 0 su))) a (k + szN cn)) = sg (szN cn) (fun a => if k < a then suC cn f v 0 a * suC cn f v 1 (k + szN cn - a) else 0) := by
      refine sg_congr (fun a ha => ?_)
      unfold tm
      by_cases h : k < a
      · rw [if_pos h, if_pos (by omega), suR_0 f v su a (by omega), suR_1 f v su _ (by omega)]
      · rw [if_neg h, if_neg (by omega)]
    rw [e1, sg_shift]
    refine congrArg (· % 998244353) ?_
    rw [show szN cn - (k + 1) = szN cn - 1 - k by omega]
    refine sg_congr (fun t ht => ?_)
    rw [itp_suC hn hb f v o1 0 _ (by omega), itp_suC hn hb f v o2 1 _ (by omega)]
  · rw [if_neg hk, show szN cn - (k + 1) = 0 by omega]
    rfl
/-- A, B -/
theorem mkA_tA (hn : cn ≤ 16) (al de x ta row : Nat) (f v w su : Nat → Nat) (hw : ∀ j, j < cn → w j = wt (szN cn) ta j) (hsu : ∀ k, k < 16 → su (16 * row + k) = suC cn f v row k) : mkA al de x (pts cn f v row) w = tA al de x (szN cn) ta su row := by
  have hhi := szN_hi cn
  have e1 : sg 16 (fun t => pts cn f v row t * w t) = sg cn (fun t => pts cn f v row t * w t) := sg_ext hn (fun i h _ => by unfold pts; rw [if_neg (by omega), Nat.zero_mul])
  have e2 : cg (sg (szN cn) (fun k => su (16 * row + k) * pw ta k)) (sg (szN cn) (fun k => cf cn (szN cn) (pts cn f v row) k * pw ta k)) := by
    refine cg.sum (fun k hk => cg.ml _ ?_)
    rw [hsu k (by omega)]
    unfold suC
    rw [if_pos hk]
    have h2 : cf cn (szN cn) (pts cn f v row) k = cf cn (szN cn) (fun j => sg 16 (fun i => f ((j * 3 + row) * 16 + i) * v i)) k := cf_congr (pts_cg f v row)
    rw [h2]
    exact (cg.md _).tr (cf_lin cn (szN cn) k v (fun i j => f ((j * 3 + row) * 16 + i)))
  have e3 : sg (szN cn) (fun k => su (16 * row + k) * pw ta k) % 998244353 = sg cn (fun t => pts cn f v row t * w t) % 998244353 := e2.tr (at_wt ta (pts cn f v row) w hw)
  unfold mkA tA
  rw [e1, e3]
  exact ((cg.md _).add (cg.md _))
end ZSAME
/-- what is hidden in the third element -/
theorem mkH_tG (pb ta va : Nat) (v m1 m2 q1 q2 : Nat → Nat) (hpb : pb ≤ 6) (hm : ∀ j, j < 16 → m1 j = m2 j) (hq : ∀ j, j < 16 → q1 j = q2 j) : mkH pb ta va v m1 q1 = tG pb va v m2 (tH ta q2) := by
  unfold mkH tG tH
  have e1 : sg (15 + 1 - (pb + 1)) (fun t => v (pb + 1 + t) * m1 (pb + 1 + t)) = sg (15 - pb) (fun t => v (pb + 1 + t) * m2 (pb + 1 + t)) := by
    rw [show 15 + 1 - (pb + 1) = 15 - pb by omega]
    exact sg_congr (fun t ht => by rw [hm _ (by omega)])
  have e2 : sg 16 (fun i => q1 i * ta ^ i) % 998244353 = sg 16 (fun k => q2 k * pw ta k) % 998244353 := cg.sum (fun i hi => by rw [hq i hi]; exact cg.mr _ (pw_cg ta i).sy)
  rw [e1, e2, Nat.add_comm]
  exact (cg.rf _).add (cg.md _)
theorem mkC_tC (h g de a b x y : Nat) (hh : h = g) : mkC h de a b x y = tC g de a b x y := by
  subst hh
  unfold mkC tC
  rw [Nat.mod_add_mod]
/-- the equation -/
theorem ver_same (pb al be de e0 e1 e2 : Nat) (inp m1 m2 : Nat → Nat) (hpb : pb ≤ 6) (hm : ∀ j, j < 16 → m1 j = m2 j) :
    ((al * be % 998244353 + sg (pb + 1 - 0) (fun t => inp (0 + t) * m1 (0 + t)) % 998244353) % 998244353 + e2 * de % 998244353) % 998244353 = ((al * be % 998244353 + sg (pb + 1) (fun t => inp t * m2 t)) % 998244353 + e2 * de) % 998244353 := by
  have e1 : sg (pb + 1 - 0) (fun t => inp (0 + t) * m1 (0 + t)) = sg (pb + 1) (fun t => inp t * m2 t) := by
    rw [Nat.sub_zero]
    exact sg_congr (fun t ht => by rw [Nat.zero_add, hm t (by omega)])
  rw [e1, Nat.add_mod_mod, Nat.add_mod_mod]
/-- polynomial -/
theorem pol_same (cn row i k : Nat) (f bb : Nat → Nat) (hn : cn ≤ 16) (hb : ∀ j, j < szN cn → bb j = bk (szN cn) ^ j % 998244353) : sg (szN cn) (fun t => (fun j => if j < cn then f ((j * 3 + row) * 16 + i) else 0) t * bb (t * k % szN cn)) % 998244353 * iv (szN cn) % 998244353 = cf cn (szN cn) (fun t => f ((t * 3 + row) * 16 + i)) k :=
  cf_by cn k (fun t => f ((t * 3 + row) * 16 + i)) (fun j => if j < cn then f ((j * 3 + row) * 16 + i) else 0) hn (fun j hj => by show (if j < cn then _ else 0) = 0; rw [if_neg (by omega)]) (fun j hj => by show (if j < cn then _ else 0) = _; rw [if_pos hj]) bb hb
