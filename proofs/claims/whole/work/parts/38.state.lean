/-! the law's world, and the invariant of its loop -/
def Zad : Type := (Nat) × (Nat) × (Nat) × (Nat) × (Nat) × (Nat) × (Nat) × (Nat) × (Nat) × (Nat) × (Nat) × (Nat) × (Nat) × (Nat) × (Nat) × (Nat) × (Nat) × (Nat) × (Nat) × (Nat) × (Nat) × (Nat) × (Nat) × (Nat) × (Nat) × (Nat) × (Nat)
def Zad.x0 (S : Zad) : Nat := S.1
def Zad.xC (S : Zad) : Nat := S.2.1
def Zad.xD (S : Zad) : Nat := S.2.2.1
def Zad.xK (S : Zad) : Nat := S.2.2.2.1
def Zad.xQ (S : Zad) : Nat := S.2.2.2.2.1
def Zad.xV (S : Zad) : Nat := S.2.2.2.2.2.1
def Zad.xI (S : Zad) : Nat := S.2.2.2.2.2.2.1
def Zad.xL (S : Zad) : Nat := S.2.2.2.2.2.2.2.1
def Zad.xR (S : Zad) : Nat := S.2.2.2.2.2.2.2.2.1
def Zad.xS (S : Zad) : Nat := S.2.2.2.2.2.2.2.2.2.1
def Zad.xT (S : Zad) : Nat := S.2.2.2.2.2.2.2.2.2.2.1
def Zad.xA (S : Zad) : Nat := S.2.2.2.2.2.2.2.2.2.2.2.1
def Zad.xB (S : Zad) : Nat := S.2.2.2.2.2.2.2.2.2.2.2.2.1
def Zad.xW (S : Zad) : Nat := S.2.2.2.2.2.2.2.2.2.2.2.2.2.1
def Zad.xX (S : Zad) : Nat := S.2.2.2.2.2.2.2.2.2.2.2.2.2.2.1
def Zad.xE (S : Zad) : Nat := S.2.2.2.2.2.2.2.2.2.2.2.2.2.2.2.1
def Zad.xF (S : Zad) : Nat := S.2.2.2.2.2.2.2.2.2.2.2.2.2.2.2.2.1
def Zad.xO (S : Zad) : Nat := S.2.2.2.2.2.2.2.2.2.2.2.2.2.2.2.2.2.1
def Zad.y0 (S : Zad) : Nat := S.2.2.2.2.2.2.2.2.2.2.2.2.2.2.2.2.2.2.1
def Zad.yR (S : Zad) : Nat := S.2.2.2.2.2.2.2.2.2.2.2.2.2.2.2.2.2.2.2.1
def Zad.yV (S : Zad) : Nat := S.2.2.2.2.2.2.2.2.2.2.2.2.2.2.2.2.2.2.2.2.1
def Zad.yI (S : Zad) : Nat := S.2.2.2.2.2.2.2.2.2.2.2.2.2.2.2.2.2.2.2.2.2.1
def Zad.yX (S : Zad) : Nat := S.2.2.2.2.2.2.2.2.2.2.2.2.2.2.2.2.2.2.2.2.2.2.1
def Zad.yP (S : Zad) : Nat := S.2.2.2.2.2.2.2.2.2.2.2.2.2.2.2.2.2.2.2.2.2.2.2.1
def Zad.yQ (S : Zad) : Nat := S.2.2.2.2.2.2.2.2.2.2.2.2.2.2.2.2.2.2.2.2.2.2.2.2.1
def Zad.yS (S : Zad) : Nat := S.2.2.2.2.2.2.2.2.2.2.2.2.2.2.2.2.2.2.2.2.2.2.2.2.2.1
def Zad.yD (S : Zad) : Nat := S.2.2.2.2.2.2.2.2.2.2.2.2.2.2.2.2.2.2.2.2.2.2.2.2.2.2
def Zst : Type := (Nat) × (Nat) × (Nat) × (Nat) × (Nat) × (Nat) × (Nat) × (Nat) × (Nat) × (Bool) × (Bool) × (Nat → Nat) × (Nat → Nat) × (Nat → Nat) × (Nat → Nat) × (Nat → Nat) × (Nat → Nat) × (Nat → Nat) × (Nat → Nat) × (Nat → Nat) × (Nat → Nat) × (Nat → Nat) × (Nat → Nat) × (Nat → Nat) × (Nat → Nat) × (Nat → Nat)
def Zst.pb (S : Zst) : Nat := S.1
def Zst.cn (S : Zst) : Nat := S.2.1
def Zst.ta (S : Zst) : Nat := S.2.2.1
def Zst.al (S : Zst) : Nat := S.2.2.2.1
def Zst.be (S : Zst) : Nat := S.2.2.2.2.1
def Zst.ga (S : Zst) : Nat := S.2.2.2.2.2.1
def Zst.de (S : Zst) : Nat := S.2.2.2.2.2.2.1
def Zst.va (S : Zst) : Nat := S.2.2.2.2.2.2.2.1
def Zst.th (S : Zst) : Nat := S.2.2.2.2.2.2.2.2.1
def Zst.md (S : Zst) : Bool := S.2.2.2.2.2.2.2.2.2.1
def Zst.pd (S : Zst) : Bool := S.2.2.2.2.2.2.2.2.2.2.1
def Zst.v (S : Zst) : Nat → Nat := S.2.2.2.2.2.2.2.2.2.2.2.1
def Zst.inp (S : Zst) : Nat → Nat := S.2.2.2.2.2.2.2.2.2.2.2.2.1
def Zst.sL (S : Zst) : Nat → Nat := S.2.2.2.2.2.2.2.2.2.2.2.2.2.1
def Zst.sR (S : Zst) : Nat → Nat := S.2.2.2.2.2.2.2.2.2.2.2.2.2.2.1
def Zst.sS (S : Zst) : Nat → Nat := S.2.2.2.2.2.2.2.2.2.2.2.2.2.2.2.1
def Zst.sT (S : Zst) : Nat → Nat := S.2.2.2.2.2.2.2.2.2.2.2.2.2.2.2.2.1
def Zst.f (S : Zst) : Nat → Nat := S.2.2.2.2.2.2.2.2.2.2.2.2.2.2.2.2.2.1
def Zst.bb (S : Zst) : Nat → Nat := S.2.2.2.2.2.2.2.2.2.2.2.2.2.2.2.2.2.2.1
def Zst.w (S : Zst) : Nat → Nat := S.2.2.2.2.2.2.2.2.2.2.2.2.2.2.2.2.2.2.2.1
def Zst.mx (S : Zst) : Nat → Nat := S.2.2.2.2.2.2.2.2.2.2.2.2.2.2.2.2.2.2.2.2.1
def Zst.el (S : Zst) : Nat → Nat := S.2.2.2.2.2.2.2.2.2.2.2.2.2.2.2.2.2.2.2.2.2.1
def Zst.qt (S : Zst) : Nat → Nat := S.2.2.2.2.2.2.2.2.2.2.2.2.2.2.2.2.2.2.2.2.2.2.1
def Zst.su (S : Zst) : Nat → Nat := S.2.2.2.2.2.2.2.2.2.2.2.2.2.2.2.2.2.2.2.2.2.2.2.1
def Zst.pr (S : Zst) : Nat → Nat := S.2.2.2.2.2.2.2.2.2.2.2.2.2.2.2.2.2.2.2.2.2.2.2.2.1
def Zst.o (S : Zst) : Nat → Nat := S.2.2.2.2.2.2.2.2.2.2.2.2.2.2.2.2.2.2.2.2.2.2.2.2.2
def mkS (pb : Nat) (cn : Nat) (ta : Nat) (al : Nat) (be : Nat) (ga : Nat) (de : Nat) (va : Nat) (th : Nat) (md : Bool) (pd : Bool) (v : Nat → Nat) (inp : Nat → Nat) (sL : Nat → Nat) (sR : Nat → Nat) (sS : Nat → Nat) (sT : Nat → Nat) (f : Nat → Nat) (bb : Nat → Nat) (w : Nat → Nat) (mx : Nat → Nat) (el : Nat → Nat) (qt : Nat → Nat) (su : Nat → Nat) (pr : Nat → Nat) (o : Nat → Nat) : Zst := (pb, cn, ta, al, be, ga, de, va, th, md, pd, v, inp, sL, sR, sS, sT, f, bb, w, mx, el, qt, su, pr, o)
def mkA9 (x0 xC xD xK xQ xV xI xL xR xS xT xA xB xW xX xE xF xO y0 yR yV yI yX yP yQ yS yD : Nat) : Zad := (x0, xC, xD, xK, xQ, xV, xI, xL, xR, xS, xT, xA, xB, xW, xX, xE, xF, xO, y0, yR, yV, yI, yX, yP, yQ, yS, yD)
def wT (cL : ClassId) (a : Zad) (S : Zst) : va_W := [(a.y0, .inr (5, [.int (nI S.th), .ref a.yR, .int (nI S.cn), .int (nI S.pb), .ref a.yV, .ref a.yI, .int (z_b S.md), .long (lN S.ta), .long (lN S.al), .long (lN S.be), .long (lN S.ga), .long (lN S.de), .long (lN S.va), .ref a.yX, .int (z_b S.pd), .ref a.yP, .ref a.yQ, .ref a.yS, .ref a.yD])), (a.yR, .inl (cL, 816, .inr (.inl (fun x9 => lN (S.f x9))))), (a.yV, .inl (cL, 16, .inr (.inl (fun x9 => lN (S.v x9))))), (a.yI, .inl (cL, 16, .inr (.inl (fun x9 => lN (S.inp x9))))), (a.yX, .inl (cL, 16, .inr (.inl (fun x9 => lN (S.mx x9))))), (a.yP, .inl (cL, 3, .inr (.inl (fun x9 => lN (S.el x9))))), (a.yQ, .inl (cL, 32, .inr (.inl (fun x9 => lN (S.qt x9))))), (a.yS, .inl (cL, 48, .inr (.inl (fun x9 => lN (S.su x9))))), (a.yD, .inl (cL, 32, .inr (.inl (fun x9 => lN (S.pr x9)))))]
def wM (cI : ClassId) (a : Zad) (S : Zst) : va_W := [(a.x0, .inr (4, [.ref a.xC, .ref a.xD, .ref a.xK, .ref a.xQ, .ref a.xV, .ref a.xI, .int (nI S.pb), .ref a.xL, .ref a.xR, .ref a.xS, .ref a.xT])), (a.xC, .inr (0, [.ref a.xA, .int (nI S.cn)])), (a.xD, .inr (1, [.ref a.xB, .int (nI (szN S.cn)), .int (nI (iv (szN S.cn)))])), (a.xK, .inr (2, [.ref a.xW, .ref a.xX, .int (z_b S.md), .int (nI S.ta), .int (nI S.al), .int (nI S.be), .int (nI S.ga), .int (nI S.de), .int (nI S.va)])), (a.xQ, .inr (3, [.ref a.xE, .ref a.xF, .int (z_b S.pd)])), (a.xV, .inl (cI, 16, .inl (fun x9 => nI (S.v x9)))), (a.xI, .inl (cI, 7, .inl (fun x9 => nI (S.inp x9)))), (a.xL, .inl (cI, 16, .inl (fun x9 => nI (S.sL x9)))), (a.xR, .inl (cI, 16, .inl (fun x9 => nI (S.sR x9)))), (a.xS, .inl (cI, 16, .inl (fun x9 => nI (S.sS x9)))), (a.xT, .inl (cI, 16, .inl (fun x9 => nI (S.sT x9)))), (a.xA, .inl (cI, 816, .inl (fun x9 => nI (S.f x9)))), (a.xB, .inl (cI, 16, .inl (fun x9 => nI (S.bb x9)))), (a.xW, .inl (cI, 16, .inl (fun x9 => nI (S.w x9)))), (a.xX, .inl (cI, 16, .inl (fun x9 => nI (S.mx x9)))), (a.xE, .inl (cI, 3, .inl (fun x9 => nI (S.el x9)))), (a.xF, .inl (cI, 16, .inl (fun x9 => nI (S.qt x9))))]
def wO (cL : ClassId) (a : Zad) (S : Zst) : va_W := [(a.xO, .inl (cL, 1, .inr (.inl (fun x9 => lN (S.o x9)))))]
def zok (pb cn ta al be ga de va : Nat) (md : Bool) (f v inp mx el bb w sS sT su : Nat → Nat) : Prop := (cn ≤ 16) ∧ (pb ≤ 6) ∧ (ta < 998244353) ∧ (al < 998244353) ∧ (be < 998244353) ∧ (ga < 998244353) ∧ (de < 998244353) ∧ (va < 998244353) ∧ (∀ j, f j < 998244353) ∧ (∀ j, v j < 998244353) ∧ (∀ j, inp j < 998244353) ∧ (∀ j, mx j < 998244353) ∧ (∀ j, el j < 998244353) ∧ (∀ j, bb j < 998244353) ∧ (∀ j, w j < 998244353) ∧ (∀ j, sS j < 998244353) ∧ (∀ j, sT j < 998244353) ∧ (∀ j, su j < 998244353) ∧ (∀ j, j < szN cn → bb j = bk (szN cn) ^ j % 998244353) ∧ (md = true → ∀ j, j < cn → w j = wt (szN cn) ta j) ∧ (∀ j, 48 * (cn + 1) ≤ j → f j = 0)
def Zok (S : Zst) : Prop := zok S.pb S.cn S.ta S.al S.be S.ga S.de S.va S.md S.f S.v S.inp S.mx S.el S.bb S.w S.sS S.sT S.su
theorem Zok.hn {S : Zst} (h : Zok S) : S.cn ≤ 16 := h.1
theorem Zok.hpb {S : Zst} (h : Zok S) : S.pb ≤ 6 := h.2.1
theorem Zok.hta {S : Zst} (h : Zok S) : S.ta < 998244353 := h.2.2.1
theorem Zok.hal {S : Zst} (h : Zok S) : S.al < 998244353 := h.2.2.2.1
theorem Zok.hbe {S : Zst} (h : Zok S) : S.be < 998244353 := h.2.2.2.2.1
theorem Zok.hga {S : Zst} (h : Zok S) : S.ga < 998244353 := h.2.2.2.2.2.1
theorem Zok.hde {S : Zst} (h : Zok S) : S.de < 998244353 := h.2.2.2.2.2.2.1
theorem Zok.hva {S : Zst} (h : Zok S) : S.va < 998244353 := h.2.2.2.2.2.2.2.1
theorem Zok.hf {S : Zst} (h : Zok S) : ∀ j, S.f j < 998244353 := h.2.2.2.2.2.2.2.2.1
theorem Zok.hv {S : Zst} (h : Zok S) : ∀ j, S.v j < 998244353 := h.2.2.2.2.2.2.2.2.2.1
theorem Zok.hinp {S : Zst} (h : Zok S) : ∀ j, S.inp j < 998244353 := h.2.2.2.2.2.2.2.2.2.2.1
theorem Zok.hmx {S : Zst} (h : Zok S) : ∀ j, S.mx j < 998244353 := h.2.2.2.2.2.2.2.2.2.2.2.1
theorem Zok.hel {S : Zst} (h : Zok S) : ∀ j, S.el j < 998244353 := h.2.2.2.2.2.2.2.2.2.2.2.2.1
theorem Zok.hbb {S : Zst} (h : Zok S) : ∀ j, S.bb j < 998244353 := h.2.2.2.2.2.2.2.2.2.2.2.2.2.1
theorem Zok.hw {S : Zst} (h : Zok S) : ∀ j, S.w j < 998244353 := h.2.2.2.2.2.2.2.2.2.2.2.2.2.2.1
theorem Zok.hsS {S : Zst} (h : Zok S) : ∀ j, S.sS j < 998244353 := h.2.2.2.2.2.2.2.2.2.2.2.2.2.2.2.1
theorem Zok.hsT {S : Zst} (h : Zok S) : ∀ j, S.sT j < 998244353 := h.2.2.2.2.2.2.2.2.2.2.2.2.2.2.2.2.1
theorem Zok.hsu {S : Zst} (h : Zok S) : ∀ j, S.su j < 998244353 := h.2.2.2.2.2.2.2.2.2.2.2.2.2.2.2.2.2.1
theorem Zok.hb0 {S : Zst} (h : Zok S) : ∀ j, j < szN S.cn → S.bb j = bk (szN S.cn) ^ j % 998244353 := h.2.2.2.2.2.2.2.2.2.2.2.2.2.2.2.2.2.2.1
theorem Zok.hw0 {S : Zst} (h : Zok S) : S.md = true → ∀ j, j < S.cn → S.w j = wt (szN S.cn) S.ta j := h.2.2.2.2.2.2.2.2.2.2.2.2.2.2.2.2.2.2.2.1
theorem Zok.hf0 {S : Zst} (h : Zok S) : ∀ j, 48 * (S.cn + 1) ≤ j → S.f j = 0 := h.2.2.2.2.2.2.2.2.2.2.2.2.2.2.2.2.2.2.2.2
/-- what stays through the law -/
def Zcx (p : Program) (l : Launch) (s : State) (m : MethodId) (c : Code) (dC : Nat → ClassId) (dI : Nat → Nat → Nat) (cI cL : ClassId) (b L : Nat) (xs : Nat → Int32) : Prop := (CallFix p m c cL_law 7 s #[Value.ref b] zT RL) ∧ (va_K (dC, dI) vwCl [(cI, .int), (cL, .long)] s) ∧ (va_X b L xs s s.heap) ∧ (b < s.heap.size) ∧ (L ≤ 3072) ∧ (zS s s.heap) ∧ (l.stackTraces = false)

abbrev zA (s : State) : Nat → Prop := fun q => s.heap.size ≤ q
section ZL2
variable {p : Program} {l : Launch} {e : Env} {R : Room} {s : State} {m : MethodId} {args : Array Value} {below : List Frame} {meth : Method} {c : Code} {H : Heap} {locs : List Loc} {cells slots : Nat} {Q : State → Prop}
variable {cc : ByteArray} {pc nL : Nat} {ls : Array Slot} {rest : List Value} {own : String} {Ts : List Cond}
variable {D : va_G} {cl : List vw_C} {A : Nat → Prop} {tys : List (ClassId × FieldType)} {H0 : Heap}
theorem z_sld (F : CallFix p m c cc nL s args Ts own) {b L : Nat} {xs : Nat → Int32} (hX : va_X b L xs s s.heap) (hbl : b < s.heap.size) (hS : va_S (zA s) s.heap H locs) (hL : L ≤ 3072) {j : Nat} (hj : j < L) (hdg : decode cc pc = .ok (.iaload, 1))
    (kk : W p l e R s m args below meth c H locs cells slots Q (F0 m (pc + 1) ls (.int (xs j) :: rest))) : W p l e R s m args below meth c H locs cells slots Q (F0 m pc ls (.int (nI j) :: .ref b :: rest)) := by
  have h1 : (nI j).toNatClampNeg = j := nI_clamp (by omega)
  refine va_sld F.1 F.2.1 hX hbl (by show ¬ s.heap.size ≤ b; omega) hS (fun h => ?_) hdg (by rw [h1]; exact kk)
  rcases h with h | h
  · exact nI_pos (by omega) h
  · rw [h1] at h
    omega
theorem z_zs (hZ : zS s s.heap) (hS : va_S (zA s) s.heap H locs) : zS s H := hZ.kept (fun q hq => hS.2.1 q hq (by show ¬ s.heap.size ≤ q; omega))
/-- a call that has the back of the world; one that has its front -/
theorem z_callR {st : List Value} {av : Array Value} {r : Option Value} {wa wc wd : va_W} {mc ms : Nat} (hr : va_Run p l e R s m args below meth c H locs cells slots mc ms (F0 m pc ls st) rest (z_Q D cl tys r wd (va_A wc H.size) av) (va_A wc H.size)) (hP : va_P D cl (wa ++ wc) H) (hD : va_D A (wa ++ wc)) (hS : va_S A H0 H locs) (hA : ∀ q, H0.size ≤ q → A q)
    (k : ∀ (H1 : Heap) (locs1 : List Loc), va_P D cl (wa ++ wd) H1 → va_D A (wa ++ wd) → va_S A H0 H1 locs1 → W p l e R s m args below meth c H1 locs1 (cells + mc) (slots + ms) Q (F0 m (pc + 3) ls (r.toList ++ rest))) : W p l e R s m args below meth c H locs cells slots Q (F0 m pc ls st) := by
  refine z_callM (wb := []) hr (by rw [List.append_nil]; exact hP) (by rw [List.append_nil]; exact hD) hS hA (fun H1 locs1 h1 h2 h3 => ?_)
  rw [List.append_nil] at h1 h2
  exact k H1 locs1 h1 h2 h3
theorem z_callFE {S : Type} {st : List Value} {av : Array Value} {r : Option Value} {wf : S → va_W} {wc wb : va_W} {mc ms : Nat} (hr : va_Run p l e R s m args below meth c H locs cells slots mc ms (F0 m pc ls st) rest (z_QE D cl tys r wf (va_A wc H.size) av) (va_A wc H.size)) (hP : va_P D cl (wc ++ wb) H) (hD : va_D A (wc ++ wb)) (hS : va_S A H0 H locs) (hA : ∀ q, H0.size ≤ q → A q)
    (k : ∀ (u : S) (H1 : Heap) (locs1 : List Loc), va_P D cl (wf u ++ wb) H1 → va_D A (wf u ++ wb) → va_S A H0 H1 locs1 → W p l e R s m args below meth c H1 locs1 (cells + mc) (slots + ms) Q (F0 m (pc + 3) ls (r.toList ++ rest))) : W p l e R s m args below meth c H locs cells slots Q (F0 m pc ls st) :=
  z_callME (wa := []) hr hP hD hS hA k
theorem z_callF {st : List Value} {av : Array Value} {r : Option Value} {wc wb wd : va_W} {mc ms : Nat} (hr : va_Run p l e R s m args below meth c H locs cells slots mc ms (F0 m pc ls st) rest (z_Q D cl tys r wd (va_A wc H.size) av) (va_A wc H.size)) (hP : va_P D cl (wc ++ wb) H) (hD : va_D A (wc ++ wb)) (hS : va_S A H0 H locs) (hA : ∀ q, H0.size ≤ q → A q)
    (k : ∀ (H1 : Heap) (locs1 : List Loc), va_P D cl (wd ++ wb) H1 → va_D A (wd ++ wb) → va_S A H0 H1 locs1 → W p l e R s m args below meth c H1 locs1 (cells + mc) (slots + ms) Q (F0 m (pc + 3) ls (r.toList ++ rest))) : W p l e R s m args below meth c H locs cells slots Q (F0 m pc ls st) :=
  z_callM (wa := []) hr hP hD hS hA k
theorem z_preSR {As : List Value} {wa wc : va_W} (hP : va_P D cl (wa ++ wc) H) (hK : va_K D cl tys s) (hD : va_D A (wa ++ wc)) (hz : zS s H) : PreS s H (va_Pc As (z_PS D cl tys H.size wc)) As := z_preSM (wa := wa) (wb := []) (by rw [List.append_nil]; exact hP) hK (by rw [List.append_nil]; exact hD) hz
theorem z_preF {As : List Value} {b q0 ci : Nat} {q : vw_C} {fs : List Value} {wc wb : va_W} (hP : va_P D cl (wc ++ wb) H) (hK : va_K D cl tys s) (hD : va_D A (wc ++ wb)) (hc : cl[ci]? = some q) (he : wc[q0]? = some (b, .inr (ci, fs))) : PreV s H q.1 b (va_Pc (.ref b :: As) (z_P D cl tys H.size wc)) As := z_preVP (z_left hP) hK (z_leftD hD) hc he
end ZL2
/-- the law's loop at the head of the next turn -/
abbrev zNext (p : Program) (l : Launch) (e : Env) (s : State) (m : MethodId) (below : List Frame) (meth : Method) (c : Code) (dC : Nat → ClassId) (dI : Nat → Nat → Nat) (cI cL : ClassId) (b i : Nat) (a : Zad) (cells slots : Nat) (Q : State → Prop) (pc : Nat) : Prop :=
  ∀ (S : Zst) (ls : Array Slot) (H : Heap) (locs : List Loc), Zok S → va_P (dC, dI) vwCl (wT cL a S ++ (wM cI a S ++ wO cL a S)) H → va_D (zA s) (wT cL a S ++ (wM cI a S ++ wO cL a S)) → va_S (zA s) s.heap H locs → lv_has ls 7 [(0, .ref b), (1, .ref a.x0), (2, .ref a.y0), (3, .ref a.xO), (4, .int (nI i))] → W p l e room_1 s m #[Value.ref b] below meth c H locs cells slots Q (F0 m pc ls [])
