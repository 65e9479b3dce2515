theorem zRdy_next {J : nh_N → Nat → Int32} {ni nc np nb : Nat} (h : zRdy J ni nc np nb) : ∃ np' nb', (nc + 1 < 40 → zRdy (zNx J) ni (nc + 1) np' nb') ∧ zhd (zNx J) nb' ∧ zNx J zM 17 = nI (nc + 1) := by
  obtain ⟨mn, nw, P1, P2, P3, -, -, e3, hmd, hP1⟩ := zcl_ok h
  obtain ⟨v1, v2⟩ := zWc_eq h
  obtain ⟨c1, c2, c3⟩ := cl1_eq 8 0 J (by omega)
  rw [hP1] at c1 c2 c3
  have o : ∀ s, s ≠ 27 → s ≠ 5 → iu P1 zM 25 0 (zA s) = J (zA s) := fun s s1 s2 => by rw [iu_o _ _ _ (by simp), c3 _ (by simp [s1]) (by simp [s2])]
  obtain ⟨w1, w2, w3⟩ := zRdy_W h (o 8 (by omega) (by omega)) (o 11 (by omega) (by omega))
  obtain ⟨a1, a2, a3, a4, a5, a6, a7, a8, a9, a10, a11, a12, o1, o2, o3⟩ := h
  rw [o 8 (by omega) (by omega), o 11 (by omega) (by omega)] at w3
  obtain ⟨np', y1, y2, y3, y4, y5, y6, y7, y8, u1, u2, u3, u4, u5⟩ := hmd
  rw [o 7 (by omega) (by omega)] at u2
  rw [o 9 (by omega) (by omega)] at u3
  rw [o 11 (by omega) (by omega)] at u4
  rw [List.take_length, o 8 (by omega) (by omega)] at u1
  have hP4 : zP4 J = zl_cl4 (zW J nb ni nc).length 0 (iu P3 zM 23 (P3 zM 25)) := by unfold zP4; rw [← e3, v1]
  obtain ⟨d1, d2⟩ := cl4_eq (zW J nb ni nc).length 0 (iu P3 zM 23 (P3 zM 25)) (by omega)
  rw [← hP4] at d1 d2
  have pm : ∀ s, s ≠ 23 → zP4 J zM s = P3 zM s := fun s hs => by rw [d2 _ (by simp), iu_e, if_neg (fun w => hs w.2)]
  have jo : ∀ s, s ≠ 24 → zNx J (zA s) = P3 (zA s) := fun s hs => by rw [zNx, iu_o _ _ _ (by simp), d2 _ (by simp [hs]), iu_o _ _ _ (by simp)]
  have jm : ∀ s, s ≠ 17 → s ≠ 23 → zNx J zM s = P3 zM s := fun s s1 s2 => by rw [zNx, iu_e, if_neg (fun w => s1 w.2), pm s s2]
  have j24 : ∀ t i, (zW J nb ni nc)[t]? = some i → zNx J (zA 24) t = nI i := fun t i ht => by
    have hl := (List.getElem?_eq_some_iff.mp ht).1
    rw [zNx, iu_o _ _ _ (by simp), d1, if_pos (by omega), iu_o _ _ _ (by simp)]
    exact y8 t i hl ht
  have e17 : zNx J zM 17 = nI (nc + 1) := by rw [zNx, iu_e, if_pos ⟨rfl, rfl⟩, pm 17 (by omega), y4, nI_1]
  have e23 : zNx J zM 23 = nI (zW J nb ni nc).length := by rw [zNx, iu_e, if_neg (by omega), d2 _ (by simp), iu_e, if_pos ⟨rfl, rfl⟩, y3]
  refine ⟨np', (zW J nb ni nc).length, ?_, ⟨e23, w2, fun q hq => ?_⟩, e17⟩
  case refine_2 =>
    obtain ⟨i, hi⟩ : ∃ i, (zW J nb ni nc)[q]? = some i := ⟨_, List.getElem?_eq_getElem hq⟩
    exact ⟨i, by have := (w3 i (List.mem_of_getElem? hi)).1; omega, j24 q i hi⟩
  intro hc
  refine ⟨a1, hc, by omega, w2, by rw [jm _ (by omega) (by omega)]; exact y6, ?_, by rw [jm _ (by omega) (by omega)]; exact y2, ?_, by rw [jo _ (by omega)]; exact y7, by rw [jo _ (by omega), u2]; exact a10, by rw [jo _ (by omega), u3]; exact a11, ?_, ?_, ?_, ?_⟩
  · exact e17
  · exact e23
  · intro i hi h8
    rw [jo 8 (by omega)] at h8
    rw [jo 11 (by omega), u4]
    by_cases hm : i ∈ zW J nb ni nc
    · exact (w3 i hm).2.1
    · rw [u1 i hm] at h8; exact a12 i hi h8
  · intro q hq
    obtain ⟨i, hi⟩ : ∃ i, (zW J nb ni nc)[q]? = some i := ⟨_, List.getElem?_eq_getElem hq⟩
    have him := List.mem_of_getElem? hi
    refine ⟨i, (w3 i him).1, j24 q i hi, ?_⟩
    rw [jo 9 (by omega), u3]
    rcases List.mem_append.mp him with w | w
    · obtain ⟨z, z1, z2, -⟩ := zhl_mem.mp w
      obtain ⟨i', i1, i2, s, s1, s2⟩ := o1 z z1
      rw [i2, nI_clamp (by omega)] at z2
      subst z2
      exact ⟨s, by omega, s2⟩
    · exact ⟨nc, by omega, (zB_mem.mp w).2.1⟩
  · intro q q' hq hq' e
    obtain ⟨i, hi⟩ : ∃ i, (zW J nb ni nc)[q]? = some i := ⟨_, List.getElem?_eq_getElem hq⟩
    obtain ⟨i', hi'⟩ : ∃ i, (zW J nb ni nc)[q']? = some i := ⟨_, List.getElem?_eq_getElem hq'⟩
    have b1 := (w3 i (List.mem_of_getElem? hi)).1
    have b2 := (w3 i' (List.mem_of_getElem? hi')).1
    rw [j24 q i hi, j24 q' i' hi', nI_eq (by omega) (by omega)] at e
    subst e
    obtain ⟨r1, r2⟩ := List.getElem?_eq_some_iff.mp hi
    obtain ⟨r3, r4⟩ := List.getElem?_eq_some_iff.mp hi'
    exact (List.getElem_inj w1).mp (r2.trans r4.symm)
  · intro i t h1 h2 h3 h4 h5
    rw [jo 9 (by omega), u3] at h2
    rw [jo 11 (by omega), u4] at h4
    rw [jo 8 (by omega)] at h5
    have hmem : i ∈ zW J nb ni nc := by
      by_cases hm' : i ∈ zW J nb ni nc
      · exact hm'
      · rw [u1 i hm'] at h5
        by_cases e : t = nc
        · subst e
          exact List.mem_append_right _ (zB_mem.mpr ⟨h1, h2, h5⟩)
        · obtain ⟨z, z1, z2⟩ := o3 i t h1 h2 (by omega) h4 h5
          exact List.mem_append_left _ (zhl_mem.mpr ⟨z, z1, by rw [z2, nI_clamp (by omega)], h4, h5⟩)
    obtain ⟨q, hq⟩ := List.mem_iff_getElem?.mp hmem
    exact ⟨q, (List.getElem?_eq_some_iff.mp hq).1, j24 q i hq⟩
def zIt (J : nh_N → Nat → Int32) : Nat → nh_N → Nat → Int32
  | 0 => J
  | t + 1 => zNx (zIt J t)
theorem zIt_rdy {J : nh_N → Nat → Int32} {ni nc np nb : Nat} (h : zRdy J ni nc np nb) : ∀ t, nc + t < 40 → ∃ np' nb', zRdy (zIt J t) ni (nc + t) np' nb' := by
  intro t
  induction t with
  | zero => intro _; exact ⟨np, nb, h⟩
  | succ t ih =>
    intro ht
    obtain ⟨np', nb', h'⟩ := ih (by omega)
    obtain ⟨np2, nb2, h2, -⟩ := zRdy_next h'
    exact ⟨np2, nb2, h2 (by omega)⟩
theorem zhd_0 {J : nh_N → Nat → Int32} {nb : Nat} (h : zhd J nb) : zNb J = nb ∧ (zf_heldAt J nb 0 < 0 ↔ (zhl J (zNb J)).length = 0) := by
  obtain ⟨h1, h2, h3⟩ := h
  have e : zNb J = nb := by unfold zNb; rw [h1, nI_clamp (by omega)]
  refine ⟨e, ?_⟩
  rw [e]
  have := zf_heldAt_nI J h2 h3 (c := 0) (by omega)
  rw [show (0 : Int32) = nI 0 from rfl, this]
  cases hl : zhl J nb with
  | nil => exact ⟨fun _ => rfl, fun _ => by decide⟩
  | cons x L =>
    have hx := zhl_200 J h2 h3 x (by rw [hl]; exact List.mem_cons_self)
    constructor
    · intro w; exact absurd w (nI_pos (by omega))
    · intro w; cases w
theorem zRdy_hd {J : nh_N → Nat → Int32} {ni nc np nb : Nat} (h : zRdy J ni nc np nb) : zhd J nb := by
  obtain ⟨a1, a2, a3, a4, a5, a6, a7, a8, a9, a10, a11, a12, o1⟩ := h
  exact ⟨a8, a4, xOrd_o o1 a1⟩
theorem xh_flush (l : Launch) (D : va_G) (cA : Nat → ClassId) : lwOp l D cA xSim yX5_flush vX5_flush 6 136 yX6_flush vX6_flush 3 76 [] := by
  intro nc S g I R S2 g2 J R2 hS
  obtain ⟨hn4, hx1, hz1⟩ := xSim_X hS
  obtain ⟨nk, ni, nm, np, nb, kd, pl, st, li, hsh, hfr, hz, hrel⟩ := id hS
  have e8 : I xX 8 = nI nc := hrel.1.2.2.2.2.2.2.2.2.2.1
  have e9 : J zM 17 = nI nc := hrel.1.2.2.2.2.2.2.2.2.2.2.1
  have hd0 : zhd J nb := ⟨hrel.1.2.2.2.2.2.2.2.2.2.2.2.2.2.1, hrel.1.2.2.2.2.2.2.2.2.2.2.2.2.2.2, xOrd_o hrel.2.2.2.2.2.2.1 hsh.ni2⟩
  obtain ⟨M, hM1, hM2⟩ := pk_least (fun t => 40 ≤ nc + t ∨ (zhl (zIt J t) (zNb (zIt J t))).length = 0) ⟨40 - nc, .inl (by omega)⟩
  have hMb : nc + M ≤ 40 := by
    by_cases w : nc + M ≤ 40
    · exact w
    · exact absurd (.inl (by omega)) (hM2 (M - 1) (by omega))
  have hst : ∀ t, t < M → nc + t < 40 ∧ ¬ (zhl (zIt J t) (zNb (zIt J t))).length = 0 := fun t ht => by
    have := hM2 t ht
    exact ⟨by by_cases w : 40 ≤ nc + t; exact absurd (.inl w) this; omega, fun w => this (.inr w)⟩
  have hit : ∀ t, t < M → ∃ np' nb', zRdy (zIt J t) ni (nc + t) np' nb' := fun t ht => by
    have hc0 : nc < 40 := by have := (hst t ht).1; omega
    exact zIt_rdy (xSim_rdy hsh hrel hc0) t (hst t ht).1
  have hzf := zc_flush l D cA (g := g2) hz (zIt J) M rfl (fun t ht => by
    obtain ⟨np', nb', hr⟩ := hit t ht
    obtain ⟨mn, nw, P1, P2, P3, q1, q2, -⟩ := zcl_ok hr
    have hd := zRdy_hd hr
    refine ⟨nb', hd, fun w => (hst t ht).2 ((zhd_0 hd).2.mp w), ?_, nb', mn, ni, nw, P1, P2, P3, _, q1, by rw [q2]; rfl⟩
    have := hr.2.2.2.2.2.1
    rw [this, show (40 : Int32) = nI 40 from rfl, nI_leI (by omega) (by omega)]
    have := (hst t ht).1
    omega) (by
    cases M with
    | zero =>
      refine ⟨nb, hd0, ?_⟩
      rcases hM1 with w | w
      · right
        show 40 ≤ J zM 17
        rw [e9, show (40 : Int32) = nI 40 from rfl]
        exact nI_le (by omega) (by omega)
      · left; exact (zhd_0 hd0).2.mpr w
    | succ M =>
      obtain ⟨np', nb', hr⟩ := hit M (by omega)
      obtain ⟨np2, nb2, -, hd, e17⟩ := zRdy_next hr
      refine ⟨nb2, hd, ?_⟩
      rcases hM1 with w | w
      · right
        show 40 ≤ zNx (zIt J M) zM 17
        rw [e17, show (40 : Int32) = nI 40 from rfl]
        exact nI_le (by omega) (by omega)
      · left; exact (zhd_0 hd).2.mpr w)
  have hlx : ∀ (j : Nat) (S : nh_N → Option nh_C) (g : nh_N → Nat) (I : nh_N → Nat → Int32) (R : nh_N → Nat → Option nh_N), xSim (nc + j) S g I R S2 g2 (zIt J j) R2 → I xLN 1 = nI (zhl (zIt J j) (zNb (zIt J j))).length ∧ (zhl (zIt J j) (zNb (zIt J j))).length ≤ 200 ∧ xXs S R := fun j S g I R h => by
    obtain ⟨nk, ni, nm, np, nb, kd, pl, st, li, hsh, hfr, hz, hrel⟩ := h
    have e12 : zIt J j zM 23 = nI nb := hrel.1.2.2.2.2.2.2.2.2.2.2.2.2.2.1
    have e13 : nb ≤ 200 := hrel.1.2.2.2.2.2.2.2.2.2.2.2.2.2.2
    have e : zNb (zIt J j) = nb := by unfold zNb; rw [e12, nI_clamp (by omega)]
    have hL := hrel.2.2.2.2.2.2.2
    have := zhl_len (zIt J j) nb
    rw [e]
    exact ⟨hL.1, by omega, hsh.X⟩
  have hcf := cx_flush l D cA (S := S) (g := g) (J := I) (R := R) (fun j S g I R => xSim (nc + j) S g I R S2 g2 (zIt J j) R2) M (40 - nc) hsh.X (by rw [e8, show (40 : Int32) = nI 40 from rfl, pk_sub hn4]) (by omega) (by omega) hS (fun j S g I R hj hI => by
    obtain ⟨h1, h2, h3⟩ := hlx j S g I R hI
    refine ⟨h3, fun hjM => ⟨by have := (hst j hjM).1; omega, ?_, ?_⟩, fun hjM => ?_⟩
    · rw [h1, nI_le0 (by omega)]; exact (hst j hjM).2
    · obtain ⟨ni', np', nb', -, hM⟩ := close_page hI (hst j hjM).1
      refine nh_M_mono ?_ (hM l D cA)
      rintro v S' g' I' R' ⟨q1, q2, q3⟩
      exact ⟨⟨_, q1⟩, q3, q2⟩
    · subst hjM
      rcases hM1 with w | w
      · left; omega
      · right; rw [h1, w]; decide)
  refine ⟨nc + M, 202 * M, 804 * M, nI M, _, _, by omega, hMb, by omega, by omega, hcf, hzf, ?_, ?_, ?_⟩
  · rintro v S' g' I' R' ⟨q1, q2, q3⟩
    exact ⟨q1, q3, (xSim_X q2).2.1⟩
  · rintro v S' g' I' R' ⟨rfl, rfl, rfl, rfl, rfl⟩; exact ⟨rfl, rfl, hz1⟩
  · rintro v S' g' I' R' v2 S2' g2' J' R2' ⟨q1, q2, q3⟩ ⟨rfl, rfl, rfl, rfl, rfl⟩
    exact q2
