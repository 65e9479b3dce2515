/-! PURE: the reference's close, as one walk over a list -/
def zgo (J : nh_N → Nat → Int32) (i : Nat) : nh_N → Nat → Int32 := (zf_go J (J zM 18).toNatClampNeg (nI i)).2
def zB (J : nh_N → Nat → Int32) (nc t : Nat) : List Nat := (List.range t).filter (fun i => decide (J (zA 9) i = nI nc ∧ ¬ J (zA 8) i ≤ 0))
def zW (J : nh_N → Nat → Int32) (nb ni nc : Nat) : List Nat := zhl J nb ++ zB J nc ni
theorem zB_succ (J : nh_N → Nat → Int32) (nc t : Nat) : zB J nc (t + 1) = zB J nc t ++ (if J (zA 9) t = nI nc ∧ ¬ J (zA 8) t ≤ 0 then [t] else []) := by
  unfold zB
  rw [List.range_succ, List.filter_append]
  congr 1
  by_cases h : J (zA 9) t = nI nc ∧ ¬ J (zA 8) t ≤ 0
  · rw [if_pos h, List.filter_cons_of_pos (by simpa using h)]; rfl
  · rw [if_neg h, List.filter_cons_of_neg (by simpa using h)]; rfl
theorem zhl_succ (J : nh_N → Nat → Int32) (t : Nat) : zhl J (t + 1) = zhl J t ++ (if J (zA 11) (J (zA 24) t).toNatClampNeg = 0 ∧ ¬ J (zA 8) (J (zA 24) t).toNatClampNeg ≤ 0 then [(J (zA 24) t).toNatClampNeg] else []) := by
  unfold zhl
  rw [List.range_succ, List.filterMap_append]
  congr 1
  by_cases h : J (zA 11) (J (zA 24) t).toNatClampNeg = 0 ∧ ¬ J (zA 8) (J (zA 24) t).toNatClampNeg ≤ 0
  · rw [if_pos h, List.filterMap_cons, if_pos h]; rfl
  · rw [if_neg h, List.filterMap_cons, if_neg h]; rfl
theorem zB_mem {J : nh_N → Nat → Int32} {nc t i : Nat} : i ∈ zB J nc t ↔ i < t ∧ J (zA 9) i = nI nc ∧ ¬ J (zA 8) i ≤ 0 := by
  unfold zB; rw [List.mem_filter, List.mem_range]; simp
theorem zhl_mem {J : nh_N → Nat → Int32} {t i : Nat} : i ∈ zhl J t ↔ ∃ q, q < t ∧ (J (zA 24) q).toNatClampNeg = i ∧ J (zA 11) i = 0 ∧ ¬ J (zA 8) i ≤ 0 := by
  unfold zhl
  rw [List.mem_filterMap]
  constructor
  · rintro ⟨q, hq, e⟩
    by_cases h : J (zA 11) (J (zA 24) q).toNatClampNeg = 0 ∧ ¬ J (zA 8) (J (zA 24) q).toNatClampNeg ≤ 0
    · rw [if_pos h] at e; cases e
      exact ⟨q, List.mem_range.mp hq, rfl, h⟩
    · rw [if_neg h] at e; cases e
  · rintro ⟨q, hq, rfl, h⟩
    exact ⟨q, List.mem_range.mpr hq, by rw [if_pos h]⟩
theorem pigeon : ∀ (n : Nat) (l : List Nat), l.Nodup → (∀ x, x ∈ l → x < n) → l.length ≤ n := by
  intro n
  induction n with
  | zero =>
    intro l _ h
    cases l with
    | nil => exact Nat.le_refl _
    | cons x l => exact absurd (h x List.mem_cons_self) (by omega)
  | succ n ih =>
    intro l hn h
    by_cases hm : n ∈ l
    · have := ih (l.erase n) (hn.erase n) (fun x hx => by
        have := (hn.mem_erase_iff).mp hx
        have := h x this.2
        omega)
      rw [List.length_erase_of_mem hm] at this
      omega
    · exact Nat.le_succ_of_le (ih l hn (fun x hx => by
        have := h x hx
        have : x ≠ n := fun e => hm (e ▸ hx)
        omega))
/-- what of go holds in the reference alone -/
theorem zgo_cases (J : nh_N → Nat → Int32) {np nc i k j : Nat} (hi : i < 200) (hk : k < 8) (hj : j < 200) (hp : np < 9000) (e7 : J (zA 7) i = nI k) (e17 : J zM 17 = nI nc) (e18 : J zM 18 = nI np) (e25 : J zM 25 = nI j) : ∃ J1, (J1 = zJ2 J j i ∨ ∃ a d, J1 = (zf_place (zJ2 J j i) (nI i) a d).2) ∧ (zgo J i = J1 ∨ zgo J i = iu J1 (zA 27) k 1) := by
  unfold zgo
  rw [e18, nI_clamp (n := np) (by omega), zf_go_eq J hi hk hj e7 e17 e25]
  by_cases h : J (zA 27) k = 0
  · rw [if_pos h]
    generalize zf_standing (zJ2 J j i) np (nI nc) (-1) = x3
    generalize zfree (zJ2 J j i) np nc k = x4
    unfold zf_go2
    rw [nI_clamp (n := i) (by omega), nI_clamp (n := k) (by omega)]
    by_cases c1 : x4 < zJ2 J j i (zA 8) i
    · rw [if_pos c1]
      have X : ∃ J1, (J1 = zJ2 J j i ∨ ∃ a d, J1 = (zf_place (zJ2 J j i) (nI i) a d).2) ∧ ((if x3 = 0 then ((0 : Int32), (zf_place (zJ2 J j i) (nI i) (zJ2 J j i (zA 8) i) 1).2) else (0, iu (zJ2 J j i) (zA 27) k 1)).2 = J1 ∨ (if x3 = 0 then ((0 : Int32), (zf_place (zJ2 J j i) (nI i) (zJ2 J j i (zA 8) i) 1).2) else (0, iu (zJ2 J j i) (zA 27) k 1)).2 = iu J1 (zA 27) k 1) := by
        by_cases c5 : x3 = 0
        · rw [if_pos c5]; exact ⟨_, .inr ⟨_, _, rfl⟩, .inl rfl⟩
        · rw [if_neg c5]; exact ⟨_, .inl rfl, .inr rfl⟩
      by_cases c2 : zJ2 J j i (zA 3) k ≤ 0
      · rw [if_pos c2]; exact X
      · rw [if_neg c2]
        by_cases c3 : x4 < zJ2 J j i (zA 3) k
        · rw [if_pos c3]; exact X
        · rw [if_neg c3]
          by_cases c4 : zJ2 J j i (zA 8) i - x4 < zJ2 J j i (zA 3) k
          · rw [if_pos c4]; exact X
          · rw [if_neg c4]; exact ⟨_, .inr ⟨_, _, rfl⟩, .inr rfl⟩
    · rw [if_neg c1]; exact ⟨_, .inr ⟨_, _, rfl⟩, .inl rfl⟩
  · rw [if_neg h]; exact ⟨_, .inl rfl, .inl rfl⟩
def zMd (J0 : nh_N → Nat → Int32) (ni nc np0 nb : Nat) (W : List Nat) (j : Nat) (J : nh_N → Nat → Int32) : Prop := ∃ np, np ≤ np0 + j ∧ J zM 18 = nI np ∧ J zM 25 = nI j ∧ J zM 17 = nI nc ∧ J zM 23 = nI nb ∧ J zM 6 = nI ni ∧ (∀ q, q < np → ∃ i, i < 200 ∧ J (zA 20) q = nI i) ∧ xNx J W j ∧ xUn J J0 W j
theorem zMd_step {J0 J : nh_N → Nat → Int32} {ni nc np0 nb j i : Nat} {W : List Nat} (hW : xWok W J0 ni) (hi2 : ni ≤ 200) (hn9 : np0 ≤ 7800) (hk : ∀ i, i < ni → ∃ k, k < 8 ∧ J0 (zA 7) i = nI k) (hj : W[j]? = some i) (h : zMd J0 ni nc np0 nb W j J) : zMd J0 ni nc np0 nb W (j + 1) (zgo J i) := by
  obtain ⟨np, h1, h2, h3, h4, h5, h6, h7, h8, u1, u2, u3, u4, u5⟩ := h
  obtain ⟨w1, w2, w3⟩ := hW
  have hjl : j < W.length := (List.getElem?_eq_some_iff.mp hj).1
  obtain ⟨v1, v2, v3⟩ := w3 i (List.mem_of_getElem? hj)
  obtain ⟨k, k1, k2⟩ := hk i v1
  obtain ⟨J1, hJ1, hgo⟩ := zgo_cases J (i := i) (by omega) k1 (by omega) (by omega) (by rw [u2]; exact k2) h4 h2 h3
  have b26 : ∀ t, zJ2 J j i (zA 26) t = if t = j then nI i else J (zA 26) t := fun t => by simp [zJ2, iu_e]
  have bo : ∀ s, s ≠ 26 → zJ2 J j i (zA s) = J (zA s) := fun s hs => by funext t; simp [zJ2, iu_e, hs]
  have bm : ∀ s, s ≠ 25 → zJ2 J j i zM s = J zM s := fun s hs => by simp [zJ2, iu_e, hs]
  have b25 : zJ2 J j i zM 25 = nI (j + 1) := by simp [zJ2, iu_e]
  have key : ∃ np', np' ≤ np0 + (j + 1) ∧ J1 zM 18 = nI np' ∧ J1 zM 25 = nI (j + 1) ∧ J1 zM 17 = nI nc ∧ J1 zM 23 = nI nb ∧ J1 zM 6 = nI ni ∧ (∀ q, q < np' → ∃ i, i < 200 ∧ J1 (zA 20) q = nI i) ∧ (∀ t, J1 (zA 26) t = if t = j then nI i else J (zA 26) t) ∧ (∀ x, x ≠ i → J1 (zA 8) x = J (zA 8) x) ∧ J1 (zA 7) = J (zA 7) ∧ J1 (zA 9) = J (zA 9) ∧ J1 (zA 11) = J (zA 11) ∧ J1 (zA 24) = J (zA 24) := by
    rcases hJ1 with rfl | ⟨a, d, rfl⟩
    · refine ⟨np, by omega, by rw [bm _ (by omega)]; exact h2, b25, by rw [bm _ (by omega)]; exact h4, by rw [bm _ (by omega)]; exact h5, by rw [bm _ (by omega)]; exact h6, ?_, b26, fun x _ => by rw [bo _ (by omega)], bo _ (by omega), bo _ (by omega), bo _ (by omega), bo _ (by omega)⟩
      rw [bo _ (by omega)]; exact h7
    · obtain ⟨z1, z2, z3, z4, z5, z6, z7, z8, z9, z10, z11⟩ := zpE_of (zJ2 J j i) (nc := nc) (np := np) (i := i) (k := k) a d (by omega) k1 (by omega) (by rw [bo _ (by omega), u2]; exact k2) (by rw [bm _ (by omega)]; exact h4) (by rw [bm _ (by omega)]; exact h2)
      refine ⟨np + 1, by omega, z2, by rw [z1 _ (by omega)]; exact b25, by rw [z1 _ (by omega), bm _ (by omega)]; exact h4, by rw [z1 _ (by omega), bm _ (by omega)]; exact h5, by rw [z1 _ (by omega), bm _ (by omega)]; exact h6, ?_, by rw [z3 26 (by decide)]; exact b26, fun x hx => by rw [z7, if_neg hx, bo _ (by omega)], by rw [z3 7 (by decide), bo _ (by omega)], by rw [z3 9 (by decide), bo _ (by omega)], by rw [z3 11 (by decide), bo _ (by omega)], by rw [z3 24 (by decide), bo _ (by omega)]⟩
      intro q hq
      rw [z9, bo _ (by omega)]
      by_cases e : q = np
      · rw [if_pos e]; exact ⟨i, by omega, rfl⟩
      · rw [if_neg e]; exact h7 q (by omega)
  have key2 : ∃ np', np' ≤ np0 + (j + 1) ∧ zgo J i zM 18 = nI np' ∧ zgo J i zM 25 = nI (j + 1) ∧ zgo J i zM 17 = nI nc ∧ zgo J i zM 23 = nI nb ∧ zgo J i zM 6 = nI ni ∧ (∀ q, q < np' → ∃ x, x < 200 ∧ zgo J i (zA 20) q = nI x) ∧ (∀ t, zgo J i (zA 26) t = if t = j then nI i else J (zA 26) t) ∧ (∀ x, x ≠ i → zgo J i (zA 8) x = J (zA 8) x) ∧ zgo J i (zA 7) = J (zA 7) ∧ zgo J i (zA 9) = J (zA 9) ∧ zgo J i (zA 11) = J (zA 11) ∧ zgo J i (zA 24) = J (zA 24) := by
    rcases hgo with e | e
    · rw [e]; exact key
    · have o : ∀ s, s ≠ 27 → zgo J i (zA s) = J1 (zA s) := fun s hs => by rw [e, iu_o _ _ _ (by simp [hs])]
      have om : zgo J i zM = J1 zM := by rw [e, iu_o _ _ _ (by simp)]
      rw [om, o 20 (by omega), o 26 (by omega), o 8 (by omega), o 7 (by omega), o 9 (by omega), o 11 (by omega), o 24 (by omega)]
      exact key
  obtain ⟨np', y1, y2, y3, y4, y5, y6, y7, y8, y9, y10, y11, y12, y13⟩ := key2
  refine ⟨np', y1, y2, y3, y4, y5, y6, y7, fun t x ht hx => ?_, fun x hx => ?_, y10.trans u2, y11.trans u3, y12.trans u4, y13.trans u5⟩
  · rw [y8]
    by_cases e : t = j
    · subst e; rw [if_pos rfl]; rw [hj] at hx; cases hx; rfl
    · rw [if_neg e]; exact h8 t x (by omega) hx
  · rw [take_nx hj, List.mem_append, not_or] at hx
    rw [y9 x (fun e => hx.2 (by rw [e]; simp)), u1 x hx.1]
theorem zMd_all {J0 : nh_N → Nat → Int32} {ni nc np0 nb : Nat} {W : List Nat} (hW : xWok W J0 ni) (hi2 : ni ≤ 200) (hn9 : np0 ≤ 7800) (hk : ∀ i, i < ni → ∃ k, k < 8 ∧ J0 (zA 7) i = nI k) (h0 : zMd J0 ni nc np0 nb W 0 J0) : ∀ j, j ≤ W.length → zMd J0 ni nc np0 nb W j ((W.take j).foldl zgo J0) := by
  intro j
  induction j with
  | zero => intro _; exact h0
  | succ j ih =>
    intro hj
    obtain ⟨i, hi⟩ : ∃ i, W[j]? = some i := ⟨_, List.getElem?_eq_getElem (by omega)⟩
    rw [take_nx hi, List.foldl_append]
    exact zMd_step hW hi2 hn9 hk hi (ih (by omega))
theorem cl2_snoc : ∀ (t j : Nat) (J : nh_N → Nat → Int32), zl_cl2 (t + 1) j J = zs_cl2 (j + t) (zl_cl2 t j J) := by
  intro t
  induction t with
  | zero => intro j J; rfl
  | succ t ih => intro j J; rw [zl_cl2, ih (j + 1), zl_cl2, show j + 1 + t = j + (t + 1) by omega]
theorem cl3_snoc (mn : Nat) (x : Int32) : ∀ (t j : Nat) (J : nh_N → Nat → Int32), zl_cl3 mn x (t + 1) j J = zs_cl3 mn x (j + t) (zl_cl3 mn x t j J) := by
  intro t
  induction t with
  | zero => intro j J; rfl
  | succ t ih => intro j J; rw [zl_cl3, ih (j + 1), zl_cl3, show j + 1 + t = j + (t + 1) by omega]
theorem cl4_eq : ∀ (r j : Nat) (J : nh_N → Nat → Int32), j + r ≤ 200 → (∀ t, zl_cl4 r j J (zA 24) t = if j ≤ t ∧ t < j + r then J (zA 26) t else J (zA 24) t) ∧ ∀ m, m ≠ zA 24 → zl_cl4 r j J m = J m := by
  intro r
  induction r with
  | zero => intro j J _; exact ⟨fun t => by rw [if_neg (by omega)]; rfl, fun _ _ => rfl⟩
  | succ r ih =>
    intro j J hj
    obtain ⟨h1, h2⟩ := ih (j + 1) (zs_cl4 j J) (by omega)
    have e : zs_cl4 j J = iu J (zA 24) j (J (zA 26) j) := by unfold zs_cl4; rw [nI_clamp (by omega)]
    rw [zl_cl4]
    refine ⟨fun t => ?_, fun m hm => ?_⟩
    · rw [h1, e, iu_o _ _ _ (show zA 26 ≠ zA 24 by simp), iu_e]
      by_cases q : t = j
      · subst q
        rw [if_neg (by omega), if_pos ⟨rfl, rfl⟩, if_pos (by omega)]
      · rw [if_neg (show ¬ (zA 24 = zA 24 ∧ t = j) from fun w => q w.2)]
        by_cases q2 : j ≤ t ∧ t < j + (r + 1)
        · rw [if_pos q2, if_pos (by omega)]
        · rw [if_neg q2, if_neg (by omega)]
    · rw [h2 m hm, e, iu_o _ _ _ hm]
theorem cl1_eq : ∀ (r j : Nat) (J : nh_N → Nat → Int32), j + r ≤ 8 → (∀ t, zl_cl1 r j J (zA 27) t = if j ≤ t ∧ t < j + r then 0 else J (zA 27) t) ∧ (∀ t, zl_cl1 r j J (zA 5) t = if (j ≤ t ∧ t < j + r) ∧ ¬ J (zA 4) t = 0 then 0 else J (zA 5) t) ∧ ∀ m, m ≠ zA 27 → m ≠ zA 5 → zl_cl1 r j J m = J m := by
  intro r
  induction r with
  | zero => intro j J _; exact ⟨fun t => by rw [if_neg (by omega)]; rfl, fun t => by rw [if_neg (by omega)]; rfl, fun _ _ _ => rfl⟩
  | succ r ih =>
    intro j J hj
    obtain ⟨h1, h2, h3⟩ := ih (j + 1) (zs_cl1 j J) (by omega)
    have e : zs_cl1 j J = iu (iu J (zA 27) j 0) (zA 5) j (if J (zA 4) j = 0 then J (zA 5) j else 0) := by
      unfold zs_cl1; rw [nI_clamp (by omega)]
      have a1 : iu J (zA 27) j 0 (zA 4) j = J (zA 4) j := by simp [iu_e]
      have a2 : iu J (zA 27) j 0 (zA 5) j = J (zA 5) j := by simp [iu_e]
      rw [a1, a2]
      by_cases q : J (zA 4) j = 0
      · rw [if_pos q, if_pos q]
      · rw [if_neg q, if_neg q]
    rw [zl_cl1]
    generalize zs_cl1 j J = J1 at *
    subst e
    refine ⟨fun t => ?_, fun t => ?_, fun m m1 m2 => ?_⟩
    · rw [h1, iu_o _ _ _ (show zA 27 ≠ zA 5 by simp), iu_e]
      by_cases q : t = j
      · subst q
        rw [if_neg (by omega), if_pos ⟨rfl, rfl⟩, if_pos (by omega)]
      · rw [if_neg (show ¬ (zA 27 = zA 27 ∧ t = j) from fun w => q w.2)]
        by_cases q2 : j ≤ t ∧ t < j + (r + 1)
        · rw [if_pos q2, if_pos (by omega)]
        · rw [if_neg q2, if_neg (by omega)]
    · rw [h2, iu_o _ _ _ (show zA 4 ≠ zA 5 by simp), iu_o _ _ _ (show zA 4 ≠ zA 27 by simp), iu_e]
      by_cases q : t = j
      · subst q
        rw [if_neg (by omega), if_pos ⟨rfl, rfl⟩]
        by_cases q3 : J (zA 4) t = 0
        · rw [if_pos q3, if_neg (fun w => w.2 q3)]
        · rw [if_neg q3, if_pos ⟨by omega, q3⟩]
      · rw [if_neg (show ¬ (zA 5 = zA 5 ∧ t = j) from fun w => q w.2), iu_o _ _ _ (show zA 5 ≠ zA 27 by simp)]
        by_cases q2 : (j ≤ t ∧ t < j + (r + 1)) ∧ ¬ J (zA 4) t = 0
        · rw [if_pos q2, if_pos ⟨by omega, q2.2⟩]
        · rw [if_neg q2, if_neg (fun w => q2 ⟨by omega, w.2⟩)]
    · rw [h3 m m1 m2, iu_o _ _ _ m2, iu_o _ _ _ m1]
