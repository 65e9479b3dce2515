/-! PURE: the loops step by step; what they read -/
def zsP (J : nh_N → Nat → Int32) (a b : Int32) (t : Nat) (x : Int32) : Int32 := if J (zA 19) t = a ∧ (b < 0 ∨ J (zA 7) (J (zA 20) t).toNatClampNeg = b) then x + J (zA 21) t else x
theorem zst_f (J : nh_N → Nat → Int32) (a b : Int32) (r j : Nat) (x : Int32) (h : j < 2 ^ 31) : zl_standing J a b (r + 1) j x = zl_standing J a b r (j + 1) (zsP J a b j x) := by
  rw [zl_standing, nI_clamp h, zsP]
  by_cases h1 : J (zA 19) j = a
  · rw [if_pos h1]
    by_cases h2 : b < 0
    · rw [if_pos h2, if_pos ⟨h1, .inl h2⟩]
    · rw [if_neg h2]
      by_cases h3 : J (zA 7) (J (zA 20) j).toNatClampNeg = b
      · rw [if_pos h3, if_pos ⟨h1, .inr h3⟩]
      · rw [if_neg h3, if_neg (fun w => w.2.elim h2 h3), Int32.add_zero]
  · rw [if_neg h1, if_neg (fun w => h1 w.1), Int32.add_zero]
theorem zst_snoc (J : nh_N → Nat → Int32) (a b : Int32) : ∀ (r j : Nat) (x : Int32), j + r < 2 ^ 31 → zl_standing J a b (r + 1) j x = zsP J a b (j + r) (zl_standing J a b r j x) := by
  intro r
  induction r with
  | zero => intro j x h; rw [zst_f J a b 0 j x (by omega)]; rfl
  | succ r ih =>
    intro j x h
    rw [zst_f J a b (r + 1) j x (by omega), ih (j + 1) _ (by omega), zst_f J a b r j x (by omega), show j + 1 + r = j + (r + 1) by omega]
theorem zst_cong {J J' : nh_N → Nat → Int32} (a b : Int32) : ∀ (r j : Nat) (x : Int32), j + r < 2 ^ 31 → (∀ t, j ≤ t → t < j + r → J' (zA 19) t = J (zA 19) t ∧ J' (zA 21) t = J (zA 21) t ∧ J' (zA 7) (J' (zA 20) t).toNatClampNeg = J (zA 7) (J (zA 20) t).toNatClampNeg) → zl_standing J' a b r j x = zl_standing J a b r j x := by
  intro r
  induction r with
  | zero => intro j x _ _; rfl
  | succ r ih =>
    intro j x h hc
    obtain ⟨h1, h2, h3⟩ := hc j (by omega) (by omega)
    rw [zst_f J a b r j x (by omega), zst_f J' a b r j x (by omega), ih (j + 1) _ (by omega) (fun t q w => hc t (by omega) (by omega))]
    unfold zsP
    rw [h1, h2, h3]
theorem zst_no2 (J : nh_N → Nat → Int32) (a b : Int32) (hb : ¬ b < 0) : ∀ (r j : Nat) (x : Int32), j + r < 2 ^ 31 → (∀ t, j ≤ t → t < j + r → ¬ J (zA 7) (J (zA 20) t).toNatClampNeg = b) → zl_standing J a b r j x = x := by
  intro r
  induction r with
  | zero => intro j x _ _; rfl
  | succ r ih =>
    intro j x h hc
    rw [zst_f J a b r j x (by omega), ih (j + 1) _ (by omega) (fun t q w => hc t (by omega) (by omega))]
    unfold zsP
    rw [if_neg (fun w => w.2.elim hb (hc j (by omega) (by omega)))]
def zaP (J : nh_N → Nat → Int32) (a : Int32) (t : Nat) (x : Int32 × Int32) : Int32 × Int32 := if J (zA 20) t = a then ((if 0 ≤ x.1 then x.1 else J (zA 19) t), J (zA 19) t) else x
theorem zab_f (J : nh_N → Nat → Int32) (a : Int32) (r j : Nat) (x y : Int32) (h : j < 2 ^ 31) : zab J a (r + 1) j x y = zab J a r (j + 1) (zaP J a j (x, y)).1 (zaP J a j (x, y)).2 := by
  rw [zab, nI_clamp h, zaP]
  by_cases h1 : J (zA 20) j = a
  · rw [if_pos h1, if_pos h1]
    by_cases h2 : 0 ≤ x
    · rw [if_pos h2, if_pos h2]
    · rw [if_neg h2, if_neg h2]
  · rw [if_neg h1, if_neg h1]
theorem zab_snoc (J : nh_N → Nat → Int32) (a : Int32) : ∀ (r j : Nat) (x y : Int32), j + r < 2 ^ 31 → zab J a (r + 1) j x y = zaP J a (j + r) (zab J a r j x y) := by
  intro r
  induction r with
  | zero => intro j x y h; rw [zab_f J a 0 j x y (by omega)]; rfl
  | succ r ih =>
    intro j x y h
    rw [zab_f J a (r + 1) j x y (by omega), ih (j + 1) _ _ (by omega), zab_f J a r j x y (by omega), show j + 1 + r = j + (r + 1) by omega]
theorem zab_cong {J J' : nh_N → Nat → Int32} (a : Int32) : ∀ (r j : Nat) (x y : Int32), j + r < 2 ^ 31 → (∀ t, j ≤ t → t < j + r → J' (zA 19) t = J (zA 19) t ∧ J' (zA 20) t = J (zA 20) t) → zab J' a r j x y = zab J a r j x y := by
  intro r
  induction r with
  | zero => intro j x y _ _; rfl
  | succ r ih =>
    intro j x y h hc
    obtain ⟨h1, h2⟩ := hc j (by omega) (by omega)
    rw [zab_f J a r j x y (by omega), zab_f J' a r j x y (by omega), ih (j + 1) _ _ (by omega) (fun t q w => hc t (by omega) (by omega))]
    unfold zaP
    rw [h1, h2]
theorem zab_no (J : nh_N → Nat → Int32) (a : Int32) : ∀ (r j : Nat) (x y : Int32), j + r < 2 ^ 31 → (∀ t, j ≤ t → t < j + r → ¬ J (zA 20) t = a) → zab J a r j x y = (x, y) := by
  intro r
  induction r with
  | zero => intro j x y _ _; rfl
  | succ r ih =>
    intro j x y h hc
    rw [zab_f J a r j x y (by omega), ih (j + 1) _ _ (by omega) (fun t q w => hc t (by omega) (by omega))]
    unfold zaP
    rw [if_neg (hc j (by omega) (by omega))]
def zmP (J : nh_N → Nat → Int32) (a b d : Int32) (t : Nat) (y : Int32) : Int32 := if J (zA 14) t = a ∧ J (zA 15) t = b ∧ (y < 0 ∨ d = 0) then nI t else y
theorem zmk_f (J : nh_N → Nat → Int32) (a b d : Int32) (r j : Nat) (x : Int32) (h : j < 2 ^ 31) : zl_markOn J a b d (r + 1) j x = zl_markOn J a b d r (j + 1) (zmP J a b d j x) := by
  rw [zl_markOn, nI_clamp h, zmP]
  by_cases h1 : J (zA 14) j = a
  · rw [if_pos h1]
    by_cases h2 : J (zA 15) j = b
    · rw [if_pos h2]
      by_cases h3 : x < 0
      · rw [if_pos h3, if_pos ⟨h1, h2, .inl h3⟩]
      · rw [if_neg h3]
        by_cases h4 : d = 0
        · rw [if_pos h4, if_pos ⟨h1, h2, .inr h4⟩]
        · rw [if_neg h4, if_neg (fun w => w.2.2.elim h3 h4)]
    · rw [if_neg h2, if_neg (fun w => h2 w.2.1)]
  · rw [if_neg h1, if_neg (fun w => h1 w.1)]
theorem zmk_snoc (J : nh_N → Nat → Int32) (a b d : Int32) : ∀ (r j : Nat) (x : Int32), j + r < 2 ^ 31 → zl_markOn J a b d (r + 1) j x = zmP J a b d (j + r) (zl_markOn J a b d r j x) := by
  intro r
  induction r with
  | zero => intro j x h; rw [zmk_f J a b d 0 j x (by omega)]; rfl
  | succ r ih =>
    intro j x h
    rw [zmk_f J a b d (r + 1) j x (by omega), ih (j + 1) _ (by omega), zmk_f J a b d r j x (by omega), show j + 1 + r = j + (r + 1) by omega]
theorem zmk_cong {J J' : nh_N → Nat → Int32} (a b d : Int32) : ∀ (r j : Nat) (x : Int32), j + r < 2 ^ 31 → (∀ t, j ≤ t → t < j + r → J' (zA 14) t = J (zA 14) t ∧ J' (zA 15) t = J (zA 15) t) → zl_markOn J' a b d r j x = zl_markOn J a b d r j x := by
  intro r
  induction r with
  | zero => intro j x _ _; rfl
  | succ r ih =>
    intro j x h hc
    obtain ⟨h1, h2⟩ := hc j (by omega) (by omega)
    rw [zmk_f J a b d r j x (by omega), zmk_f J' a b d r j x (by omega), ih (j + 1) _ (by omega) (fun t q w => hc t (by omega) (by omega))]
    unfold zmP
    rw [h1, h2]
theorem zmk_no (J : nh_N → Nat → Int32) (a b d : Int32) : ∀ (r j : Nat) (x : Int32), j + r < 2 ^ 31 → (∀ t, j ≤ t → t < j + r → ¬ J (zA 14) t = a) → zl_markOn J a b d r j x = x := by
  intro r
  induction r with
  | zero => intro j x _ _; rfl
  | succ r ih =>
    intro j x h hc
    rw [zmk_f J a b d r j x (by omega), ih (j + 1) _ (by omega) (fun t q w => hc t (by omega) (by omega))]
    unfold zmP
    rw [if_neg (fun w => hc j (by omega) (by omega) w.1)]
theorem zmk_in (J : nh_N → Nat → Int32) (a b d : Int32) : ∀ (r j : Nat) (x : Int32), j + r < 2 ^ 31 → zl_markOn J a b d r j x = x ∨ ∃ t, j ≤ t ∧ t < j + r ∧ zl_markOn J a b d r j x = nI t := by
  intro r
  induction r with
  | zero => intro j x _; exact .inl rfl
  | succ r ih =>
    intro j x h
    rw [zmk_snoc J a b d r j x (by omega)]
    unfold zmP
    split
    · exact .inr ⟨j + r, by omega, by omega, rfl⟩
    · rcases ih j x (by omega) with h1 | ⟨t, h1, h2, h3⟩
      · exact .inl h1
      · exact .inr ⟨t, h1, by omega, h3⟩
theorem fm_congr {α β : Type} {f f' : α → Option β} : ∀ (l : List α), (∀ q, q ∈ l → f' q = f q) → l.filterMap f' = l.filterMap f := by
  intro l
  induction l with
  | nil => intro _; rfl
  | cons x l ih =>
    intro h
    rw [List.filterMap_cons, List.filterMap_cons, h x (List.mem_cons_self), ih (fun q hq => h q (List.mem_cons_of_mem _ hq))]
theorem zhl_cong {J J' : nh_N → Nat → Int32} {nb : Nat} (h : ∀ q, q < nb → J' (zA 24) q = J (zA 24) q ∧ J' (zA 11) (J (zA 24) q).toNatClampNeg = J (zA 11) (J (zA 24) q).toNatClampNeg ∧ J' (zA 8) (J (zA 24) q).toNatClampNeg = J (zA 8) (J (zA 24) q).toNatClampNeg) : zhl J' nb = zhl J nb := by
  unfold zhl
  apply fm_congr
  intro q hq
  obtain ⟨h1, h2, h3⟩ := h q (List.mem_range.mp hq)
  rw [h1, h2, h3]
/-! what each piece of the relation reads -/
section CONG
variable {I I' J J' : nh_N → Nat → Int32} {nk ni nm nc np nb : Nat} {kd st li : Nat → Nat}
theorem xKin_cong (h : xKin I J nk) (hI : ∀ k, I' (xK k) = I (xK k)) (h0 : J' zM 0 = J zM 0) (h2 : J' (zA 2) = J (zA 2)) (h3 : J' (zA 3) = J (zA 3)) (h4 : J' (zA 4) = J (zA 4)) (h5 : J' (zA 5) = J (zA 5)) : xKin I' J' nk := by
  unfold xKin at h ⊢
  simp only [hI, h0, h2, h3, h4, h5]
  exact h
theorem xIns_cong (h : xIns I J ni np kd) (hp : np < 2 ^ 31) (hI : ∀ i, I' (xN i) = I (xN i)) (h7 : J' (zA 7) = J (zA 7)) (h8 : J' (zA 8) = J (zA 8)) (h9 : J' (zA 9) = J (zA 9)) (h10 : J' (zA 10) = J (zA 10)) (h11 : J' (zA 11) = J (zA 11)) (h12 : J' (zA 12) = J (zA 12)) (h19 : J' (zA 19) = J (zA 19)) (h20 : J' (zA 20) = J (zA 20)) : xIns I' J' ni np kd := by
  have hz : ∀ a, zab J' a np 0 (-1) (-1) = zab J a np 0 (-1) (-1) := fun a => zab_cong a np 0 _ _ (by omega) (fun t _ _ => ⟨by rw [h19], by rw [h20]⟩)
  unfold xIns xInA at h ⊢
  simp only [hI, hz, h7, h8, h9, h10, h11, h12]
  exact h
theorem xLog_cong (h : xLog J ni nc np st li) (h12 : J' (zA 12) = J (zA 12)) (h19 : J' (zA 19) = J (zA 19)) (h20 : J' (zA 20) = J (zA 20)) (h21 : J' (zA 21) = J (zA 21)) (h22 : J' (zA 22) = J (zA 22)) : xLog J' ni nc np st li := by
  unfold xLog at h ⊢
  simp only [h12, h19, h20, h21, h22]
  exact h
theorem xPag_cong (h : xPag I J nk nc np st) (hp : np < 2 ^ 31) (hI1 : ∀ q, I' (xP q) = I (xP q)) (hI2 : ∀ q j, I' (xQ q j) = I (xQ q j)) (hI3 : ∀ k, I' (xSO k) = I (xSO k)) (h7 : J' (zA 7) = J (zA 7)) (h19 : J' (zA 19) = J (zA 19)) (h20 : J' (zA 20) = J (zA 20)) (h21 : J' (zA 21) = J (zA 21)) (h22 : J' (zA 22) = J (zA 22)) : xPag I' J' nk nc np st := by
  have hz : ∀ a b, zf_standing J' np a b = zf_standing J np a b := fun a b => zst_cong a b np 0 _ (by omega) (fun t _ _ => ⟨by rw [h19], by rw [h21], by rw [h20, h7]⟩)
  unfold xPag at h ⊢
  simp only [hI1, hI2, hI3, hz, h21, h22]
  exact h
theorem xMrk_cong (h : xMrk I J nk nm) (hp : nm < 2 ^ 31) (hI1 : ∀ q, I' (xHM q) = I (xHM q)) (hI2 : ∀ q, I' (xFT q) = I (xFT q)) (hI3 : ∀ k, I' (xLT k) = I (xLT k)) (h14 : J' (zA 14) = J (zA 14)) (h15 : J' (zA 15) = J (zA 15)) (h16 : J' (zA 16) = J (zA 16)) : xMrk I' J' nk nm := by
  have hz : ∀ a b d, zf_markOn J' nm a b d = zf_markOn J nm a b d := fun a b d => zmk_cong a b d nm 0 _ (by omega) (fun t _ _ => ⟨by rw [h14], by rw [h15]⟩)
  unfold xMrk xMrA at h ⊢
  simp only [hI1, hI2, hI3, hz, h14, h16]
  exact h
theorem xOrd_cong (h : xOrd J ni nc nb) (h24 : J' (zA 24) = J (zA 24)) (h9 : J' (zA 9) = J (zA 9)) (h11 : J' (zA 11) = J (zA 11)) (h8 : J' (zA 8) = J (zA 8)) : xOrd J' ni nc nb := by
  unfold xOrd at h ⊢
  simp only [h24, h9, h11, h8]
  exact h
theorem xLin_cong (h : xLin I J nb) (hI1 : I' xLN = I xLN) (hI2 : I' xLR = I xLR) (h24 : J' (zA 24) = J (zA 24)) (h11 : J' (zA 11) = J (zA 11)) (h8 : J' (zA 8) = J (zA 8)) : xLin I' J' nb := by
  have hz : zhl J' nb = zhl J nb := zhl_cong (fun q _ => ⟨by rw [h24], by rw [h11], by rw [h8]⟩)
  unfold xLin at h ⊢
  simp only [hI1, hI2, hz]
  exact h
end CONG
theorem iu_o (I : nh_N → Nat → Int32) {n m : nh_N} (k : Nat) (x : Int32) (h : m ≠ n) : iu I n k x m = I m := by
  funext j; rw [iu_e, if_neg (fun w => h w.1)]
/-- calls that change numbers only -/
theorem lwOp_eq {l : Launch} {D : va_G} {cA : Nat → ClassId} {Sim : Nat → xSt2} {y5 y6 : MethodName} {v5 v6 : List Cond} {fr5 lo5 fr6 lo6 : Nat} {av : List Value} (hX : ∀ nc S g I R S2 g2 J R2, Sim nc S g I R S2 g2 J R2 → nc ≤ 40 ∧ S xX = some (0, 5) ∧ S2 zM = some (0, 6))
    (h : ∀ nc S g I R S2 g2 J R2, Sim nc S g I R S2 g2 J R2 → ∃ (a1 a2 : Int32) (I' J' : nh_N → Nat → Int32), im_M l D cA y5 v5 fr5 lo5 0 0 (.ref (g xX) :: av) S g I R (im_eq (some (.int a1)) S g I' R) ∧ im_M l D cA y6 v6 fr6 lo6 0 0 (.ref (g2 zM) :: av) S2 g2 J R2 (im_eq (some (.int a2)) S2 g2 J' R2) ∧ a1 = a2 ∧ Sim nc S g I' R S2 g2 J' R2) : lwOp l D cA Sim y5 v5 fr5 lo5 y6 v6 fr6 lo6 av := by
  intro nc S g I R S2 g2 J R2 hS
  obtain ⟨a1, a2, I', J', h1, h2, rfl, h3⟩ := h nc S g I R S2 g2 J R2 hS
  obtain ⟨hn, hx1, hz1⟩ := hX nc S g I R S2 g2 J R2 hS
  refine ⟨nc, 0, 0, a1, _, _, Nat.le_refl _, hn, by omega, by omega, h1, h2, ?_, ?_, ?_⟩
  · rintro v S' g' I' R' ⟨rfl, rfl, rfl, rfl, rfl⟩; exact ⟨rfl, rfl, hx1⟩
  · rintro v S' g' I' R' ⟨rfl, rfl, rfl, rfl, rfl⟩; exact ⟨rfl, rfl, hz1⟩
  · rintro v S' g' I' R' v2 S2' g2' J' R2' ⟨rfl, rfl, rfl, rfl, rfl⟩ ⟨rfl, rfl, rfl, rfl, rfl⟩; exact h3
