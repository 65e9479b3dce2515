/-! PURE: what holds between the class's numbers I and the reference's numbers J -/
/-- the inserts that are held, in their order: what of the reference's order waits still -/
def zhl (J : nh_N → Nat → Int32) (nb : Nat) : List Nat := (List.range nb).filterMap (fun q => if J (zA 11) (J (zA 24) q).toNatClampNeg = 0 ∧ ¬ J (zA 8) (J (zA 24) q).toNatClampNeg ≤ 0 then some (J (zA 24) q).toNatClampNeg else none)
/-- first and latest page of an insert, out of the log -/
def zab (J : nh_N → Nat → Int32) (a : Int32) : Nat → Nat → Int32 → Int32 → Int32 × Int32
  | 0, _, x3, x4 => (x3, x4)
  | r + 1, j, x3, x4 => if J (zA 20) (nI j).toNatClampNeg = a then (if 0 ≤ x3 then zab J a r (j + 1) x3 (J (zA 19) (nI j).toNatClampNeg) else zab J a r (j + 1) (J (zA 19) (nI j).toNatClampNeg) (J (zA 19) (nI j).toNatClampNeg)) else zab J a r (j + 1) x3 x4
theorem zl_about_eq (J : nh_N → Nat → Int32) (a b : Int32) : ∀ (r j : Nat) (x3 x4 : Int32), zl_about J a b r j x3 x4 = (if b = 0 then J (zA 8) a.toNatClampNeg else if b = 1 then (zab J a r j x3 x4).1 else if b = 2 then (zab J a r j x3 x4).2 else if b = 3 then (if J (zA 12) a.toNatClampNeg ≤ 0 then -1 else J (zA 10) a.toNatClampNeg) else if b = 4 then J (zA 12) a.toNatClampNeg else -2) := by
  intro r
  induction r with
  | zero => intro j x3 x4; rfl
  | succ r ih =>
    intro j x3 x4
    unfold zl_about zab
    by_cases h1 : J (zA 20) (nI j).toNatClampNeg = a
    · rw [if_pos h1, if_pos h1]
      by_cases h2 : 0 ≤ x3
      · rw [if_pos h2, if_pos h2]; exact ih _ _ _
      · rw [if_neg h2, if_neg h2]; exact ih _ _ _
    · rw [if_neg h1, if_neg h1]; exact ih _ _ _
def xNum (I J : nh_N → Nat → Int32) (nk ni nm nc np nb : Nat) : Prop := I xX 0 = J zM 0 ∧ (∃ pr, J zM 0 = nI pr ∧ 1 ≤ pr ∧ pr ≤ 30000) ∧ I xX 5 = nI nk ∧ J zM 1 = nI nk ∧ I xX 6 = nI ni ∧ J zM 6 = nI ni ∧ I xX 7 = nI nm ∧ J zM 13 = nI nm ∧ nm ≤ 300 ∧ I xX 8 = nI nc ∧ J zM 17 = nI nc ∧ J zM 18 = nI np ∧ np ≤ 200 * nc ∧ J zM 23 = nI nb ∧ nb ≤ 200
def xKin (I J : nh_N → Nat → Int32) (nk : Nat) : Prop := (∀ k, k < nk → (J (zA 2) k = -1 ∨ ∃ r, r ≤ 10000 ∧ J (zA 2) k = nI r) ∧ I (xK k) 0 = (if J (zA 2) k = -1 then J zM 0 else J (zA 2) k) ∧ (∃ r, r ≤ 10000 ∧ J (zA 3) k = nI r) ∧ I (xK k) 1 = J (zA 3) k ∧ I (xK k) 2 = J (zA 4) k ∧ I (xK k) 7 = J (zA 5) k) ∧ ∀ k, nk ≤ k → k < 8 → J (zA 5) k = 0
def xInA (I J : nh_N → Nat → Int32) (kd : Nat → Nat) (np i : Nat) : Prop := J (zA 7) i = nI (kd i) ∧ I (xN i) 0 = nI i ∧ I (xN i) 2 = J (zA 9) i ∧ (∃ q, q < 40 ∧ J (zA 9) i = nI q) ∧ I (xN i) 3 = J (zA 8) i ∧ (∃ r, r ≤ 10000 ∧ J (zA 8) i = nI r) ∧ I (xN i) 7 = J (zA 12) i ∧ (∃ c, c ≤ np ∧ J (zA 12) i = nI c) ∧ I (xN i) 4 = (if J (zA 12) i = 0 then -1 else J (zA 10) i) ∧ I (xN i) 5 = (zab J (nI i) np 0 (-1) (-1)).1 ∧ I (xN i) 6 = (zab J (nI i) np 0 (-1) (-1)).2 ∧ (¬ J (zA 12) i = 0 → 0 ≤ (zab J (nI i) np 0 (-1) (-1)).1) ∧ ((J (zA 11) i = 0 ∧ ¬ (J (zA 8) i = 0 ∧ J (zA 12) i = 0)) ∨ (J (zA 11) i = 1 ∧ J (zA 8) i = 0 ∧ J (zA 12) i = 0))
def xIns (I J : nh_N → Nat → Int32) (ni np : Nat) (kd : Nat → Nat) : Prop := (∀ i, i < ni → xInA I J kd np i) ∧ ∀ i, ni ≤ i → i < 200 → J (zA 11) i = 0 ∧ J (zA 12) i = 0
def xLog (J : nh_N → Nat → Int32) (ni nc np : Nat) (st li : Nat → Nat) : Prop := st 0 = 0 ∧ (∀ q, q < nc → st q ≤ st (q + 1) ∧ st (q + 1) ≤ st q + 200) ∧ st nc = np ∧ (∀ t, t < np → J (zA 20) t = nI (li t) ∧ li t < ni ∧ ¬ J (zA 12) (li t) = 0 ∧ (∃ z, z ≤ 10000 ∧ J (zA 21) t = nI z) ∧ (J (zA 22) t = 0 ∨ J (zA 22) t = 1)) ∧ ∀ q, q < nc → ∀ t, st q ≤ t → t < st (q + 1) → J (zA 19) t = nI q
def xPag (I J : nh_N → Nat → Int32) (nk nc np : Nat) (st : Nat → Nat) : Prop := (∀ q, q < nc → I (xP q) 0 = nI q ∧ I (xP q) 2 = nI (st (q + 1) - st q) ∧ I (xP q) 3 = zf_standing J np (nI q) (-1) ∧ ∀ j, j < st (q + 1) - st q → I (xQ q j) 1 = J (zA 21) (st q + j) ∧ I (xQ q j) 2 = J (zA 22) (st q + j)) ∧ ∀ k, k < nk → ∀ q, q < 40 → I (xSO k) q = zf_standing J np (nI q) (nI k)
def xMrA (I J : nh_N → Nat → Int32) (nm k q : Nat) : Prop := (zf_markOn J nm (nI k) (nI q) 1 < 0 ∧ zf_markOn J nm (nI k) (nI q) 0 < 0 ∧ I (xHM k) q = 0) ∨ (¬ zf_markOn J nm (nI k) (nI q) 1 < 0 ∧ ¬ zf_markOn J nm (nI k) (nI q) 0 < 0 ∧ I (xHM k) q = 1 ∧ I (xFT k) q = J (zA 16) (zf_markOn J nm (nI k) (nI q) 1).toNatClampNeg ∧ I (xLT k) q = J (zA 16) (zf_markOn J nm (nI k) (nI q) 0).toNatClampNeg)
def xMrk (I J : nh_N → Nat → Int32) (nk nm : Nat) : Prop := (∀ k, k < nk → ∀ q, q < 40 → xMrA I J nm k q) ∧ ∀ t, t < nm → ∃ k, k < nk ∧ J (zA 14) t = nI k
def xOrd (J : nh_N → Nat → Int32) (ni nc nb : Nat) : Prop := (∀ q, q < nb → ∃ i, i < ni ∧ J (zA 24) q = nI i ∧ ∃ t, t < nc ∧ J (zA 9) i = nI t) ∧ (∀ q q', q < nb → q' < nb → J (zA 24) q = J (zA 24) q' → q = q') ∧ ∀ i t, i < ni → J (zA 9) i = nI t → t < nc → J (zA 11) i = 0 → ¬ J (zA 8) i ≤ 0 → ∃ q, q < nb ∧ J (zA 24) q = nI i
def xLin (I J : nh_N → Nat → Int32) (nb : Nat) : Prop := I xLN 1 = nI (zhl J nb).length ∧ ∀ t i, (zhl J nb)[t]? = some i → I xLR t = nI i
/-- which names are free -/
def xFr (S : nh_N → Option nh_C) (nk ni nc : Nat) : Prop := (∀ k, nk ≤ k → S (xK k) = none ∧ S (xSO k) = none ∧ S (xHM k) = none ∧ S (xFT k) = none ∧ S (xLT k) = none) ∧ (∀ i, ni ≤ i → S (xN i) = none) ∧ ∀ q, nc ≤ q → S (xP q) = none ∧ S (xPP q) = none ∧ ∀ j, S (xQ q j) = none
def xPn (st : Nat → Nat) : Nat → Nat := fun q => st (q + 1) - st q
def xOw (st li : Nat → Nat) : Nat → Nat → Nat := fun q j => li (st q + j)
def xRel (I J : nh_N → Nat → Int32) (nk ni nm nc np nb : Nat) (kd st li : Nat → Nat) : Prop := xNum I J nk ni nm nc np nb ∧ xKin I J nk ∧ xIns I J ni np kd ∧ xLog J ni nc np st li ∧ xPag I J nk nc np st ∧ xMrk I J nk nm ∧ xOrd J ni nc nb ∧ xLin I J nb
/-- THE RELATION -/
def xSim (nc : Nat) : xSt2 := fun S _ I R S2 _ J R2 => ∃ (nk ni nm np nb : Nat) (kd pl st li : Nat → Nat), xSh S R nk ni nc kd pl (xPn st) (xOw st li) ∧ xFr S nk ni nc ∧ zSh S2 R2 ∧ xRel I J nk ni nm nc np nb kd st li
/-- a call that changes nothing -/
theorem lwOp_ro {l : Launch} {D : va_G} {cA : Nat → ClassId} {Sim : Nat → xSt2} {y5 y6 : MethodName} {v5 v6 : List Cond} {fr5 lo5 fr6 lo6 : Nat} {av : List Value} (hX : ∀ nc S g I R S2 g2 J R2, Sim nc S g I R S2 g2 J R2 → nc ≤ 40 ∧ S xX = some (0, 5) ∧ S2 zM = some (0, 6))
    (h : ∀ nc S g I R S2 g2 J R2, Sim nc S g I R S2 g2 J R2 → ∃ a1 a2 : Int32, im_M l D cA y5 v5 fr5 lo5 0 0 (.ref (g xX) :: av) S g I R (im_eq (some (.int a1)) S g I R) ∧ im_M l D cA y6 v6 fr6 lo6 0 0 (.ref (g2 zM) :: av) S2 g2 J R2 (im_eq (some (.int a2)) S2 g2 J R2) ∧ a1 = a2) : lwOp l D cA Sim y5 v5 fr5 lo5 y6 v6 fr6 lo6 av := by
  intro nc S g I R S2 g2 J R2 hS
  obtain ⟨a1, a2, h1, h2, rfl⟩ := h nc S g I R S2 g2 J R2 hS
  obtain ⟨hn, hx1, hz1⟩ := hX nc S g I R S2 g2 J R2 hS
  refine ⟨nc, 0, 0, a1, _, _, Nat.le_refl _, hn, by omega, by omega, h1, h2, ?_, ?_, ?_⟩
  · rintro v S' g' I' R' ⟨rfl, rfl, rfl, rfl, rfl⟩; exact ⟨rfl, rfl, hx1⟩
  · rintro v S' g' I' R' ⟨rfl, rfl, rfl, rfl, rfl⟩; exact ⟨rfl, rfl, hz1⟩
  · rintro v S' g' I' R' v2 S2' g2' J' R2' ⟨rfl, rfl, rfl, rfl, rfl⟩ ⟨rfl, rfl, rfl, rfl, rfl⟩; exact hS
theorem xSim_X {nc : Nat} {S : nh_N → Option nh_C} {g : nh_N → Nat} {I : nh_N → Nat → Int32} {R : nh_N → Nat → Option nh_N} {S2 : nh_N → Option nh_C} {g2 : nh_N → Nat} {J : nh_N → Nat → Int32} {R2 : nh_N → Nat → Option nh_N} (h : xSim nc S g I R S2 g2 J R2) : nc ≤ 40 ∧ S xX = some (0, 5) ∧ S2 zM = some (0, 6) := by
  obtain ⟨nk, ni, nm, np, nb, kd, pl, st, li, hsh, -, hz, -⟩ := h
  exact ⟨hsh.nc4, hsh.X.1, zs_m hz⟩
/-! small rows on numbers -/
theorem zin_x (J : nh_N → Nat → Int32) (a : Int32) {x : Int32} {n : Nat} (hx : x = nI n - 1) (hn : n < 2 ^ 30) : zf_in J a 0 x = if (xat n a).isSome then 1 else 0 := by
  subst hx
  have e2 : (nI n - 1).toInt = (n : Int) - 1 := pk_sub_toInt (a := n) (b := 1) (by omega) (by omega)
  unfold zf_in xat
  by_cases h1 : a < 0
  · have h1' := Int32.lt_iff_toInt_lt.mp h1
    rw [Int32.toInt_zero] at h1'
    rw [if_pos h1, if_neg (show ¬ (0 ≤ a.toInt ∧ a.toInt < (n : Int)) by omega)]; rfl
  · have h1' : ¬ a.toInt < 0 := fun q => h1 (Int32.lt_iff_toInt_lt.mpr (by rw [Int32.toInt_zero]; exact q))
    rw [if_neg h1]
    by_cases h2 : nI n - 1 < a
    · have h2' := Int32.lt_iff_toInt_lt.mp h2
      rw [e2] at h2'
      rw [if_pos h2, if_neg (show ¬ (0 ≤ a.toInt ∧ a.toInt < (n : Int)) by omega)]; rfl
    · have h2' : ¬ (n : Int) - 1 < a.toInt := fun q => h2 (Int32.lt_iff_toInt_lt.mpr (by rw [e2]; exact q))
      rw [if_neg h2, if_pos (show 0 ≤ a.toInt ∧ a.toInt < (n : Int) by omega)]; rfl
theorem xin_x (J : nh_N → Nat → Int32) (a : Int32) {x : Int32} {n : Nat} (hx : x = nI n - 1) (hn : n < 2 ^ 30) : xf_isWithin J a 0 x = if (xat n a).isSome then 1 else 0 := zin_x J a hx hn
theorem zin_40 (J : nh_N → Nat → Int32) (a : Int32) : zf_in J a 0 39 = if (xat 40 a).isSome then 1 else 0 := zin_x J a (by decide) (by decide)
theorem xpg_40 (J : nh_N → Nat → Int32) (a : Int32) : xf_isPage J a = if (xat 40 a).isSome then 1 else 0 := zin_x J a (by decide) (by decide)
theorem xat_iff {n : Nat} (hn : n < 2 ^ 31) {a : Int32} : (xat n a).isSome = true ↔ ∃ j, j < n ∧ a = nI j := by
  cases h : xat n a with
  | none =>
    simp
    intro j hj e
    rw [e, xat_nI (by omega), if_pos hj] at h
    cases h
  | some j =>
    simp
    exact ⟨j, (xat_some h hn).2, (xat_some h hn).1⟩
