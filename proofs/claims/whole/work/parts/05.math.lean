/-! numbers modulo P = 998244353, sums, powers -/
def sg : Nat → (Nat → Nat) → Nat
  | 0, _ => 0
  | n + 1, f => sg n f + f n
theorem sg_0 (f : Nat → Nat) : sg 0 f = 0 := rfl
theorem sg_s (n : Nat) (f : Nat → Nat) : sg (n + 1) f = sg n f + f n := rfl
theorem sg_congr {n : Nat} {f g : Nat → Nat} (h : ∀ i, i < n → f i = g i) : sg n f = sg n g := by
  induction n with
  | zero => rfl
  | succ n ih => rw [sg_s, sg_s, ih (fun i hi => h i (by omega)), h n (by omega)]
theorem sg_zero (n : Nat) : sg n (fun _ => 0) = 0 := by
  induction n with
  | zero => rfl
  | succ n ih => rw [sg_s, ih]
theorem sg_add (n : Nat) (f g : Nat → Nat) : sg n (fun i => f i + g i) = sg n f + sg n g := by
  induction n with
  | zero => rfl
  | succ n ih => rw [sg_s, sg_s, sg_s, ih]; omega
theorem sg_mul (n a : Nat) (f : Nat → Nat) : sg n (fun i => a * f i) = a * sg n f := by
  induction n with
  | zero => rfl
  | succ n ih => rw [sg_s, sg_s, ih, Nat.mul_add]
theorem sg_mulr (n a : Nat) (f : Nat → Nat) : sg n (fun i => f i * a) = sg n f * a := by
  induction n with
  | zero => rw [sg_0, sg_0, Nat.zero_mul]
  | succ n ih => rw [sg_s, sg_s, ih, Nat.add_mul]
theorem sg_swap (n m : Nat) (f : Nat → Nat → Nat) : sg n (fun i => sg m (fun j => f i j)) = sg m (fun j => sg n (fun i => f i j)) := by
  induction n with
  | zero => exact (sg_zero m).symm
  | succ n ih => rw [sg_s, ih]; exact (sg_add m _ _).symm
/-- a sum whose later terms are nothing -/
theorem sg_ext {m n : Nat} {f : Nat → Nat} (h : m ≤ n) (h0 : ∀ i, m ≤ i → i < n → f i = 0) : sg n f = sg m f := by
  induction n with
  | zero => rw [show m = 0 by omega]
  | succ n ih =>
    by_cases hm : m = n + 1
    · rw [hm]
    · rw [sg_s, ih (by omega) (fun i h1 h2 => h0 i h1 (by omega)), h0 n (by omega) (by omega), Nat.add_zero]
/-- a sum whose first terms are nothing -/
theorem sg_shift (k n : Nat) (f : Nat → Nat) : sg n (fun a => if k < a then f a else 0) = sg (n - 1 - k) (fun t => f (k + 1 + t)) := by
  induction n with
  | zero => simp [sg]
  | succ n ih =>
    rw [sg_s, ih]
    by_cases h : k < n
    · rw [if_pos h, show n + 1 - 1 - k = (n - 1 - k) + 1 by omega, sg_s, show k + 1 + (n - 1 - k) = n by omega]
    · rw [if_neg h, show n + 1 - 1 - k = 0 by omega, show n - 1 - k = 0 by omega, Nat.add_zero]
/-- the same residue -/
def cg (a b : Nat) : Prop := a % 998244353 = b % 998244353
theorem cg.rf (a : Nat) : cg a a := rfl
theorem cg.of {a b : Nat} (h : a = b) : cg a b := h ▸ rfl
theorem cg.sy {a b : Nat} (h : cg a b) : cg b a := Eq.symm h
theorem cg.tr {a b c : Nat} (h : cg a b) (g : cg b c) : cg a c := Eq.trans h g
theorem cg.add {a b c d : Nat} (h : cg a b) (g : cg c d) : cg (a + c) (b + d) := by
  unfold cg at *
  rw [Nat.add_mod, h, g, ← Nat.add_mod]
theorem cg.mul {a b c d : Nat} (h : cg a b) (g : cg c d) : cg (a * c) (b * d) := by
  unfold cg at *
  rw [Nat.mul_mod, h, g, ← Nat.mul_mod]
theorem cg.md (a : Nat) : cg (a % 998244353) a := Nat.mod_mod _ _
theorem cg.sum {n : Nat} {f g : Nat → Nat} (h : ∀ i, i < n → cg (f i) (g i)) : cg (sg n f) (sg n g) := by
  induction n with
  | zero => exact cg.rf 0
  | succ n ih => exact (ih (fun i hi => h i (by omega))).add (h n (by omega))
theorem cg.pow {a b : Nat} (h : cg a b) (n : Nat) : cg (a ^ n) (b ^ n) := by
  induction n with
  | zero => exact cg.rf _
  | succ n ih => rw [Nat.pow_succ, Nat.pow_succ]; exact ih.mul h
theorem cg.eq {a b : Nat} (h : cg a b) (ha : a < 998244353) (hb : b < 998244353) : a = b := by
  unfold cg at h
  rwa [Nat.mod_eq_of_lt ha, Nat.mod_eq_of_lt hb] at h
theorem cg.ml {a b : Nat} (c : Nat) (h : cg a b) : cg (a * c) (b * c) := h.mul (cg.rf c)
theorem cg.mr {a b : Nat} (c : Nat) (h : cg a b) : cg (c * a) (c * b) := (cg.rf c).mul h
theorem ltP (a : Nat) : a % 998244353 < 998244353 := Nat.mod_lt _ (by decide)
/-- a power -/
def pw (b e : Nat) : Nat := b ^ e % 998244353
theorem pw_lt (b e : Nat) : pw b e < 998244353 := ltP _
theorem pw_cg (b e : Nat) : cg (pw b e) (b ^ e) := cg.md _
theorem pw_0 (b : Nat) : pw b 0 = 1 := by
  unfold pw
  rw [Nat.pow_zero]
/-- one turn of the power's loop -/
theorem pw_even (r q e : Nat) (h : e % 2 = 0) : cg (r * q ^ e) (r * (q * q % 998244353) ^ (e / 2)) := by
  have h1 : q ^ e = (q * q) ^ (e / 2) := by
    rw [Nat.mul_pow, ← Nat.pow_add, show e / 2 + e / 2 = e by omega]
  rw [h1]
  exact cg.mr r ((cg.md (q * q)).sy.pow _)
theorem pw_odd (r q e : Nat) (h : e % 2 = 1) : cg (r * q ^ e) (r * q % 998244353 * (q * q % 998244353) ^ (e / 2)) := by
  have h1 : q ^ e = q * (q * q) ^ (e / 2) := by
    rw [Nat.mul_pow, ← Nat.pow_add, show e / 2 + e / 2 = e - 1 by omega]
    have h2 : e = (e - 1) + 1 := by omega
    rw [show q ^ e = q ^ ((e - 1) + 1) by rw [← h2], Nat.pow_succ, Nat.mul_comm]
  rw [h1, ← Nat.mul_assoc]
  exact (cg.md (r * q)).sy.mul ((cg.md (q * q)).sy.pow _)
/-- the power, reckoned: for numbers that are to be known -/
def mp : Nat → Nat → Nat → Nat → Nat
  | 0, r, _, _ => r
  | k + 1, r, q, e => mp k (if e % 2 = 1 then r * q % 998244353 else r) (q * q % 998244353) (e / 2)
theorem mp_cg : ∀ (k r q e : Nat), e < 2 ^ k → cg (mp k r q e) (r * q ^ e)
  | 0, r, q, e, h => by
    have : e = 0 := by simpa using h
    subst this
    show cg r (r * q ^ 0)
    rw [Nat.pow_zero, Nat.mul_one]
    exact cg.rf r
  | k + 1, r, q, e, h => by
    have h2 : e / 2 < 2 ^ k := by
      rw [Nat.pow_succ] at h
      omega
    refine (mp_cg k _ _ _ h2).tr ?_
    by_cases he : e % 2 = 1
    · rw [if_pos he]
      exact (pw_odd r q e he).sy
    · rw [if_neg he]
      exact (pw_even r q e (by omega)).sy
theorem pw_is (b e v : Nat) (he : e < 2 ^ 30) (h : mp 30 1 b e % 998244353 = v) : pw b e = v := by
  have h1 := mp_cg 30 1 b e he
  rw [Nat.one_mul] at h1
  exact h1.symm.trans h
/-- what the number of constraints makes of N -/
def szN (m : Nat) : Nat := if m ≤ 2 then 2 else if m ≤ 4 then 4 else if m ≤ 8 then 8 else 16
theorem szN_of {m : Nat} : szN m = 2 ∨ szN m = 4 ∨ szN m = 8 ∨ szN m = 16 := by
  unfold szN
  split
  · exact Or.inl rfl
  · split
    · exact Or.inr (Or.inl rfl)
    · split
      · exact Or.inr (Or.inr (Or.inl rfl))
      · exact Or.inr (Or.inr (Or.inr rfl))
theorem szN_ge {m : Nat} (h : m ≤ 16) : m ≤ szN m := by
  unfold szN
  split
  · assumption
  · split
    · assumption
    · split
      · assumption
      · assumption
theorem szN_lo (m : Nat) : 2 ≤ szN m := by
  rcases szN_of (m := m) with h | h | h | h <;> rw [h] <;> decide
theorem szN_hi (m : Nat) : szN m ≤ 16 := by
  rcases szN_of (m := m) with h | h | h | h <;> rw [h] <;> decide
/-- 1 / v -/
def iv (v : Nat) : Nat := pw v 998244351
theorem iv_lt (v : Nat) : iv v < 998244353 := pw_lt _ _
/-- the root of one, backwards -/
def bk (n : Nat) : Nat := iv (pw 3 (998244352 / n))
theorem bk_lt (n : Nat) : bk n < 998244353 := iv_lt _
theorem bk_2 : bk 2 = 998244352 := by
  have h : pw 3 (998244352 / 2) = 998244352 := pw_is _ _ _ (by decide) (by decide +kernel)
  unfold bk iv
  rw [h]
  exact pw_is _ _ _ (by decide) (by decide +kernel)
theorem bk_4 : bk 4 = 86583718 := by
  have h : pw 3 (998244352 / 4) = 911660635 := pw_is _ _ _ (by decide) (by decide +kernel)
  unfold bk iv
  rw [h]
  exact pw_is _ _ _ (by decide) (by decide +kernel)
theorem bk_8 : bk 8 = 509520358 := by
  have h : pw 3 (998244352 / 8) = 372528824 := pw_is _ _ _ (by decide) (by decide +kernel)
  unfold bk iv
  rw [h]
  exact pw_is _ _ _ (by decide) (by decide +kernel)
theorem bk_16 : bk 16 = 337190230 := by
  have h : pw 3 (998244352 / 16) = 929031873 := pw_is _ _ _ (by decide) (by decide +kernel)
  unfold bk iv
  rw [h]
  exact pw_is _ _ _ (by decide) (by decide +kernel)
theorem bk_one (m : Nat) : cg (bk (szN m) ^ szN m) 1 := by
  rcases szN_of (m := m) with h | h | h | h <;> rw [h]
  · rw [bk_2]; unfold cg; decide +kernel
  · rw [bk_4]; unfold cg; decide +kernel
  · rw [bk_8]; unfold cg; decide +kernel
  · rw [bk_16]; unfold cg; decide +kernel
theorem bk_mod (m a : Nat) : cg (bk (szN m) ^ (a % szN m)) (bk (szN m) ^ a) := by
  have h : bk (szN m) ^ a = (bk (szN m) ^ szN m) ^ (a / szN m) * bk (szN m) ^ (a % szN m) := by
    rw [← Nat.pow_mul, ← Nat.pow_add, Nat.div_add_mod]
  rw [h]
  have h2 : cg ((bk (szN m) ^ szN m) ^ (a / szN m)) 1 := by
    have := (bk_one m).pow (a / szN m)
    rwa [Nat.one_pow] at this
  have h3 := cg.ml (bk (szN m) ^ (a % szN m)) h2
  rw [Nat.one_mul] at h3
  exact h3.sy
/-- coefficient k of the polynomial that has the values p j at the first m points, 0 at the others -/
def cf (m n : Nat) (p : Nat → Nat) (k : Nat) : Nat := sg m (fun j => p j * bk n ^ (j * k)) * iv n % 998244353
theorem cf_lt (m n : Nat) (p : Nat → Nat) (k : Nat) : cf m n p k < 998244353 := ltP _
theorem cf_cg (m n : Nat) (p : Nat → Nat) (k : Nat) : cg (cf m n p k) (sg m (fun j => p j * bk n ^ (j * k)) * iv n) := cg.md _
/-- what the value at point j counts at x -/
def wt (n x j : Nat) : Nat := sg n (fun k => (x * bk n ^ j) ^ k) * iv n % 998244353
theorem wt_lt (n x j : Nat) : wt n x j < 998244353 := ltP _
theorem wt_cg (n x j : Nat) : cg (wt n x j) (sg n (fun k => (x * bk n ^ j) ^ k) * iv n) := cg.md _
/-- the polynomial's value at x, by its coefficients or by the points' weights -/
theorem cf_at (m n x : Nat) (p : Nat → Nat) : cg (sg n (fun k => cf m n p k * x ^ k)) (sg m (fun j => p j * wt n x j)) := by
  have h1 : cg (sg n (fun k => cf m n p k * x ^ k)) (sg n (fun k => sg m (fun j => p j * bk n ^ (j * k)) * iv n * x ^ k)) := cg.sum (fun k _ => cg.ml _ (cf_cg m n p k))
  have h2 : sg n (fun k => sg m (fun j => p j * bk n ^ (j * k)) * iv n * x ^ k) = sg n (fun k => sg m (fun j => p j * bk n ^ (j * k) * (iv n * x ^ k))) :=
    sg_congr (fun k _ => by rw [sg_mulr, Nat.mul_assoc])
  have h3 : ∀ j, sg n (fun k => p j * bk n ^ (j * k) * (iv n * x ^ k)) = p j * (sg n (fun k => (x * bk n ^ j) ^ k) * iv n) := by
    intro j
    rw [← sg_mulr, ← sg_mul]
    refine sg_congr (fun k _ => ?_)
    rw [Nat.mul_pow, ← Nat.pow_mul]
    rw [Nat.mul_assoc, Nat.mul_assoc (x ^ k), Nat.mul_comm (x ^ k), Nat.mul_assoc (bk n ^ (j * k))]
  refine h1.tr ?_
  rw [h2, sg_swap, sg_congr (fun j _ => h3 j)]
  exact cg.sum (fun j _ => cg.mr _ (wt_cg n x j).sy)
/-- the coefficients of a sum of polynomials -/
theorem cf_lin (m n k : Nat) (v : Nat → Nat) (p : Nat → Nat → Nat) : cg (sg 16 (fun i => v i * cf m n (p i) k)) (cf m n (fun j => sg 16 (fun i => p i j * v i)) k) := by
  have h1 : cg (sg 16 (fun i => v i * cf m n (p i) k)) (sg 16 (fun i => v i * (sg m (fun j => p i j * bk n ^ (j * k)) * iv n))) := cg.sum (fun i _ => cg.mr _ (cf_cg m n (p i) k))
  refine h1.tr ((cg.of ?_).tr (cf_cg m n _ k).sy)
  have h2 : sg 16 (fun i => v i * (sg m (fun j => p i j * bk n ^ (j * k)) * iv n)) = sg 16 (fun i => sg m (fun j => p i j * v i * bk n ^ (j * k))) * iv n := by
    rw [← sg_mulr]
    refine sg_congr (fun i _ => ?_)
    rw [← Nat.mul_assoc, ← sg_mul]
    refine congrArg (· * iv n) (sg_congr (fun j _ => ?_))
    rw [← Nat.mul_assoc, Nat.mul_comm (v i)]
  rw [h2, sg_swap]
  refine congrArg (· * iv n) (sg_congr (fun j _ => ?_))
  rw [← sg_mulr]
/-- coefficients of points that agree modulo P -/
theorem cf_congr {m n k : Nat} {p q : Nat → Nat} (h : ∀ j, j < m → cg (p j) (q j)) : cf m n p k = cf m n q k := by
  have h1 : cg (sg m (fun j => p j * bk n ^ (j * k)) * iv n) (sg m (fun j => q j * bk n ^ (j * k)) * iv n) := cg.ml _ (cg.sum (fun j hj => cg.ml _ (h j hj)))
  exact h1
/-- one turn of a loop that sums products -/
theorem sm1 (i : Nat) (f : Nat → Nat) : (sg i f % 998244353 + f i % 998244353) % 998244353 = sg (i + 1) f % 998244353 := by
  rw [sg_s, ← Nat.add_mod]
theorem sm2 (i : Nat) (f : Nat → Nat) : (sg i f % 998244353 + f i) % 998244353 = sg (i + 1) f % 998244353 := by
  rw [sg_s, Nat.mod_add_mod]
theorem sg_front (n : Nat) (f : Nat → Nat) : sg (n + 1) f = f 0 + sg n (fun i => f (i + 1)) := by
  induction n with
  | zero => rw [sg_s, sg_0, sg_0]; omega
  | succ n ih => rw [sg_s, ih, sg_s]; omega
theorem sg_geo (k t : Nat) : sg (k + 1) (fun i => t ^ i) = sg k (fun i => t ^ i) * t + 1 := by
  rw [sg_front, Nat.pow_zero, ← sg_mulr, Nat.add_comm]
  refine congrArg (· + 1) (sg_congr (fun i _ => ?_))
  rw [Nat.pow_succ]
/-- Horner's rule from the last of n numbers down -/
theorem sg_horner (n t x : Nat) (q : Nat → Nat) (h : t < n) : sg (t + 1) (fun i => q (n - (t + 1) + i) * x ^ i) = sg t (fun i => q (n - t + i) * x ^ i) * x + q (n - (t + 1)) := by
  rw [sg_front, Nat.pow_zero, Nat.mul_one, Nat.add_zero, ← sg_mulr, Nat.add_comm]
  refine congrArg (· + q (n - (t + 1))) (sg_congr (fun i _ => ?_))
  rw [Nat.pow_succ, Nat.mul_assoc, show n - (t + 1) + (i + 1) = n - t + i by omega]
/-- the coefficients as the points' values, the exponent taken modulo N, give them -/
theorem cf_by (m k : Nat) (p d : Nat → Nat) (hm : m ≤ 16) (h0 : ∀ j, m ≤ j → d j = 0) (h1 : ∀ j, j < m → d j = p j) (r : Nat → Nat) (hr : ∀ j, j < szN m → r j = bk (szN m) ^ j % 998244353) :
    sg (szN m) (fun j => d j * r (j * k % szN m)) % 998244353 * iv (szN m) % 998244353 = cf m (szN m) p k := by
  have hlo := szN_lo m
  have e1 : sg (szN m) (fun j => d j * r (j * k % szN m)) = sg m (fun j => d j * r (j * k % szN m)) :=
    sg_ext (szN_ge hm) (fun j h _ => by rw [h0 j h, Nat.zero_mul])
  have e2 : cg (sg m (fun j => d j * r (j * k % szN m))) (sg m (fun j => p j * bk (szN m) ^ (j * k))) := by
    refine cg.sum (fun j hj => ?_)
    rw [h1 j hj, hr _ (Nat.mod_lt _ (by omega))]
    exact cg.mr _ ((cg.md _).tr (bk_mod m (j * k)))
  rw [e1]
  exact ((cg.md _).tr e2).ml _
