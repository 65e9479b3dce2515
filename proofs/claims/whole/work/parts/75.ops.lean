/-! PURE: close and flush -/
def zNb (J : nh_N → Nat → Int32) : Nat := (J zM 23).toNatClampNeg
def zWc (J : nh_N → Nat → Int32) : List Nat := zW J (zNb J) (J zM 6).toNatClampNeg (J zM 17).toNatClampNeg
def zP3 (J : nh_N → Nat → Int32) : nh_N → Nat → Int32 := (zWc J).foldl zgo (iu (zl_cl1 8 0 J) zM 25 0)
def zP4 (J : nh_N → Nat → Int32) : nh_N → Nat → Int32 := zl_cl4 (zWc J).length 0 (iu (zP3 J) zM 23 (zP3 J zM 25))
def zNx (J : nh_N → Nat → Int32) : nh_N → Nat → Int32 := iu (zP4 J) zM 17 (zP4 J zM 17 + 1)
theorem zWc_eq {J : nh_N → Nat → Int32} {ni nc np nb : Nat} (h : zRdy J ni nc np nb) : zWc J = zW J nb ni nc ∧ zNb J = nb := by
  obtain ⟨a1, a2, a3, a4, a5, a6, a7, a8, -⟩ := h
  unfold zWc zNb
  rw [a5, a6, a8, nI_clamp (by omega), nI_clamp (by omega), nI_clamp (by omega)]
  exact ⟨rfl, rfl⟩
theorem zcl_ok {J : nh_N → Nat → Int32} {ni nc np nb : Nat} (h : zRdy J ni nc np nb) : ∃ (mn nw : Nat) (P1 P2 P3 : nh_N → Nat → Int32), zclOK J nb mn ni nw P1 P2 P3 (zP4 J) ∧ (zf_close J P1 (zP4 J)) = (zP4 J zM 18 - nI np, zNx J) ∧ P3 = zP3 J ∧ zMd (iu P1 zM 25 0) ni nc np nb (zW J nb ni nc) (zW J nb ni nc).length P3 ∧ zl_cl1 8 0 J = P1 := by
  obtain ⟨P1, hP1⟩ : ∃ P, zl_cl1 8 0 J = P := ⟨_, rfl⟩
  obtain ⟨P2, P3, P4, h1, h2, h3, h4⟩ := zclOK_of h hP1
  obtain ⟨w1, w2⟩ := zWc_eq h
  have e3 : zP3 J = P3 := by unfold zP3; rw [w1, hP1, h2]
  have e4 : zP4 J = P4 := by unfold zP4; rw [e3, w1, h3]
  refine ⟨_, _, P1, P2, P3, e4 ▸ h1, ?_, e3.symm, h4, hP1⟩
  obtain ⟨a1, a2, a3, a4, a5, a6, a7, -⟩ := h
  obtain ⟨-, -, c3⟩ := cl1_eq 8 0 J (by omega)
  rw [hP1] at c3
  unfold zf_close zNx
  rw [a6, if_neg (show ¬ nI nc = 40 by rw [show (40 : Int32) = nI 40 from rfl, nI_eq (by omega) (by omega)]; omega), c3 zM (by simp) (by simp), a7]
theorem close_page {nc : Nat} {S S2 : nh_N → Option nh_C} {g g2 : nh_N → Nat} {I J : nh_N → Nat → Int32} {R R2 : nh_N → Nat → Option nh_N} (h : xSim nc S g I R S2 g2 J R2) (hc : nc < 40) : ∃ (ni np nb : Nat), zRdy J ni nc np nb ∧ ∀ (l : Launch) (D : va_G) (cA : Nat → ClassId), im_M l D cA yX5_closeNextPage vX5_closeNextPage 5 115 202 804 [.ref (g xX)] S g I R (fun v S' g' I' R' => v = some (.int (zP4 J zM 18 - nI np)) ∧ g' xX = g xX ∧ xSim (nc + 1) S' g' I' R' S2 g2 (zNx J) R2) := by
  obtain ⟨nk, ni, nm, np, nb, kd, pl, st, li, hsh, hfr, hz, hrel⟩ := h
  have hr := xSim_rdy hsh hrel hc
  refine ⟨ni, np, nb, hr, fun l D cA => ?_⟩
  obtain ⟨P1, hP1⟩ : ∃ P, zl_cl1 8 0 J = P := ⟨_, rfl⟩
  obtain ⟨w1, w2⟩ := zWc_eq hr
  obtain ⟨c1, c2, c3⟩ := cl1_eq 8 0 J (by omega)
  rw [hP1] at c1 c2 c3
  have o8 : iu P1 zM 25 0 (zA 8) = J (zA 8) := by rw [iu_o _ _ _ (by simp), c3 _ (by simp) (by simp)]
  have o9 : iu P1 zM 25 0 (zA 9) = J (zA 9) := by rw [iu_o _ _ _ (by simp), c3 _ (by simp) (by simp)]
  have o11 : iu P1 zM 25 0 (zA 11) = J (zA 11) := by rw [iu_o _ _ _ (by simp), c3 _ (by simp) (by simp)]
  have hW := zRdy_W hr o8 o11
  obtain ⟨hN, -, -, -, -, -, -, hL⟩ := id hrel
  obtain ⟨e0, e0', e1, e2, e3, e4, e5, e6, e7, e8, e9, e10, e11, e12, e13⟩ := hN
  obtain ⟨f0, f1, -⟩ := hfr.2.2 nc (Nat.le_refl _)
  obtain ⟨i1, i2⟩ := xMid_init hsh hfr hrel hc hP1 hW.2.1
  have hstep := xMid_step (nk := nk) (nm := nm) (nc := nc) (np0 := np) (nb := nb) (kd := kd) (fun j => ((zW J nb ni nc).take j).foldl zgo (iu P1 zM 25 0)) hW (by omega) e7 (fun j i hi => by
    rw [take_nx hi, fold_app]; rfl)
  have hlen := zhl_len J nb
  have hcx := cx_closeNextPage l D cA (g := g) hsh (fun j S _ I R => xMid nk ni nm nc np nb kd (zW J nb ni nc) (iu P1 zM 25 0) j S I R (((zW J nb ni nc).take j).foldl zgo (iu P1 zM 25 0))) (zW J nb ni nc).length f0 f1 e1 e3 e8 hc ⟨_, hL.1, by omega⟩ i1 hW.2.1 (fun _ _ => i2) (fun j S g I R hj hI => hstep j S g I R hj hI) (fun S g I R hI => by
    obtain ⟨_, _, _, -, -, hMN, -⟩ := hI
    exact hMN.2.2.2.2.2.2.2.2.1)
  refine nh_M_mono ?_ hcx
  rintro v S' g' I' R' ⟨I3, R3, hinv, rfl, rfl, rfl, hg, -⟩
  rw [List.take_length] at hinv
  have e3' : zP3 J = (zW J nb ni nc).foldl zgo (iu P1 zM 25 0) := by unfold zP3; rw [w1, hP1]
  have e4' : zP4 J = zl_cl4 (zW J nb ni nc).length 0 (iu ((zW J nb ni nc).foldl zgo (iu P1 zM 25 0)) zM 23 (((zW J nb ni nc).foldl zgo (iu P1 zM 25 0)) zM 25)) := by unfold zP4; rw [e3', w1]
  obtain ⟨y1, y2⟩ := xMid_fin (g := g') (g2 := g2) hr e7 hz o8 o9 o11 hinv e4'
  exact ⟨by rw [y1], hg, y2⟩
theorem xh_close (l : Launch) (D : va_G) (cA : Nat → ClassId) : lwOp l D cA xSim yX5_close vX5_close 6 136 yX6_close vX6_close 2 53 [] := by
  intro nc S g I R S2 g2 J R2 hS
  obtain ⟨hn4, hx1, hz1⟩ := xSim_X hS
  obtain ⟨nk, ni, nm, np, nb, kd, pl, st, li, hsh, hfr, hz, hrel⟩ := id hS
  have e8 : I xX 8 = nI nc := hrel.1.2.2.2.2.2.2.2.2.2.1
  have e9 : J zM 17 = nI nc := hrel.1.2.2.2.2.2.2.2.2.2.2.1
  by_cases hc : nc < 40
  · obtain ⟨ni', np', nb', hr, hM⟩ := close_page hS hc
    obtain ⟨mn, nw, P1, P2, P3, h1, h2, -, -, -⟩ := zcl_ok hr
    have hz5 := zc_close l D cA (g := g2) hz nb' mn ni' nw P1 P2 P3 (zP4 J) (fun _ => h1)
    rw [h2] at hz5
    refine ⟨nc + 1, 202, 804, zP4 J zM 18 - nI np', _, _, by omega, by omega, by omega, by omega, cx_close l D cA hsh.X 202 804 (fun _ => hM l D cA) (fun v S' g' I' R' hp => ⟨_, hp.1⟩), hz5, ?_, ?_, ?_⟩
    · rintro v S' g' I' R' (⟨q, -⟩ | ⟨-, q1, q2, q3⟩)
      · exact absurd (by rw [e8, show (40 : Int32) = nI 40 from rfl]; exact nI_lt hc (by omega)) q
      · exact ⟨q1, q2, (xSim_X q3).2.1⟩
    · rintro v S' g' I' R' ⟨rfl, rfl, rfl, rfl, rfl⟩; exact ⟨rfl, rfl, hz1⟩
    · rintro v S' g' I' R' v2 S2' g2' J' R2' (⟨q, -⟩ | ⟨-, q1, q2, q3⟩) ⟨rfl, rfl, rfl, rfl, rfl⟩
      · exact absurd (by rw [e8, show (40 : Int32) = nI 40 from rfl]; exact nI_lt hc (by omega)) q
      · exact q3
  · have h40 : nc = 40 := by omega
    have e40 : J zM 17 = 40 := by rw [e9, h40]; rfl
    have hz5 := zc_close l D cA (g := g2) (J := J) hz 0 0 0 0 J J J J (fun w => absurd e40 w)
    have hcl : zf_close J J J = (-3, J) := by unfold zf_close; rw [if_pos e40]
    rw [hcl] at hz5
    have hx8 : ¬ I xX 8 < 40 := by rw [e8, h40]; decide
    refine ⟨nc, 0, 0, -3, _, _, by omega, by omega, by omega, by omega, cx_close l D cA hsh.X (post0 := fun _ _ _ _ _ => False) 0 0 (fun w => absurd w hx8) (fun v S' g' I' R' hp => hp.elim), hz5, ?_, ?_, ?_⟩
    · rintro v S' g' I' R' (⟨-, rfl, rfl, rfl, rfl, rfl⟩ | ⟨-, q⟩)
      · exact ⟨rfl, rfl, hx1⟩
      · exact q.elim
    · rintro v S' g' I' R' ⟨rfl, rfl, rfl, rfl, rfl⟩; exact ⟨rfl, rfl, hz1⟩
    · rintro v S' g' I' R' v2 S2' g2' J' R2' (⟨-, rfl, rfl, rfl, rfl, rfl⟩ | ⟨-, q⟩) ⟨rfl, rfl, rfl, rfl, rfl⟩
      · exact hS
      · exact q.elim
