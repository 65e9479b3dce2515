/-! PURE: cls and insert -/
theorem lwOp_p {l : Launch} {D : va_G} {cA : Nat → ClassId} {y5 y6 : MethodName} {v5 v6 : List Cond} {fr5 lo5 fr6 lo6 : Nat} {av : List Value}
    (h : ∀ nc S g I R S2 g2 J R2, xSim nc S g I R S2 g2 J R2 → ∃ (mc ms : Nat) (p5 : nh_post) (a2 : Int32) (J' : nh_N → Nat → Int32), mc ≤ 5 ∧ ms ≤ 169 ∧ im_M l D cA y5 v5 fr5 lo5 mc ms (.ref (g xX) :: av) S g I R p5 ∧ im_M l D cA y6 v6 fr6 lo6 0 0 (.ref (g2 zM) :: av) S2 g2 J R2 (im_eq (some (.int a2)) S2 g2 J' R2) ∧ ∀ v S' g' I' R', p5 v S' g' I' R' → v = some (.int a2) ∧ g' xX = g xX ∧ xSim nc S' g' I' R' S2 g2 J' R2) : lwOp l D cA xSim y5 v5 fr5 lo5 y6 v6 fr6 lo6 av := by
  intro nc S g I R S2 g2 J R2 hS
  obtain ⟨mc, ms, p5, a2, J', q1, q2, h1, h2, h3⟩ := h nc S g I R S2 g2 J R2 hS
  obtain ⟨hn, hx1, hz1⟩ := xSim_X hS
  refine ⟨nc, mc, ms, a2, _, _, Nat.le_refl _, hn, by omega, by omega, h1, h2, ?_, ?_, ?_⟩
  · intro v S' g' I' R' hp
    obtain ⟨w1, w2, w3⟩ := h3 _ _ _ _ _ hp
    exact ⟨w1, w2, (xSim_X w3).2.1⟩
  · rintro v S' g' I' R' ⟨rfl, rfl, rfl, rfl, rfl⟩; exact ⟨rfl, rfl, hz1⟩
  · rintro v S' g' I' R' v2 S2' g2' J' R2' hp ⟨rfl, rfl, rfl, rfl, rfl⟩; exact (h3 _ _ _ _ _ hp).2.2
theorem in_1 {J : nh_N → Nat → Int32} {a : Int32} (h : ¬ zf_in J a (-1) 10000 = 0) : a = -1 ∨ ∃ r, r ≤ 10000 ∧ a = nI r := by
  unfold zf_in at h
  by_cases h1 : a < -1
  · rw [if_pos h1] at h; exact absurd rfl h
  rw [if_neg h1] at h
  by_cases h2 : 10000 < a
  · rw [if_pos h2] at h; exact absurd rfl h
  rw [Int32.lt_iff_toInt_lt] at h1 h2
  have e1 : (-1 : Int32).toInt = -1 := by decide
  have e2 : (10000 : Int32).toInt = 10000 := by decide
  rw [e1] at h1
  rw [e2] at h2
  by_cases h3 : a < 0
  · left
    rw [Int32.lt_iff_toInt_lt, Int32.toInt_zero] at h3
    exact Int32.toInt_inj.mp (by rw [e1]; omega)
  · right
    obtain ⟨r, hr, rfl⟩ := nI_of h3
    rw [nI_toInt hr] at h2
    exact ⟨r, by omega, rfl⟩
theorem in_0 {J : nh_N → Nat → Int32} {a : Int32} (h : ¬ zf_in J a 0 10000 = 0) : ∃ r, r ≤ 10000 ∧ a = nI r := by
  rw [zin_x J a (n := 10001) (by decide) (by omega)] at h
  cases e : xat 10001 a with
  | none => rw [e] at h; exact absurd rfl h
  | some r => obtain ⟨e1, e2⟩ := xat_some e (by omega); exact ⟨r, by omega, e1⟩
theorem in_p {J : nh_N → Nat → Int32} {a : Int32} (h : ¬ zf_in J a 1 10000 = 0) : ∃ r, 1 ≤ r ∧ r ≤ 10000 ∧ a = nI r := by
  have h0 : ¬ zf_in J a 0 10000 = 0 := by
    unfold zf_in at h ⊢
    by_cases h1 : a < 1
    · rw [if_pos h1] at h; exact absurd rfl h
    · rw [if_neg (fun w => h1 (by rw [Int32.lt_iff_toInt_lt] at w ⊢; rw [Int32.toInt_zero] at w; have : (1 : Int32).toInt = 1 := by decide
                                  omega))]
      rwa [if_neg h1] at h
  obtain ⟨r, hr, rfl⟩ := in_0 h0
  refine ⟨r, ?_, hr, rfl⟩
  unfold zf_in at h
  cases r with
  | zero => rw [if_pos (by decide)] at h; exact absurd rfl h
  | succ r => omega
theorem nc_of {S : nh_N → Option nh_C} {g g' : nh_N → Nat} {R : nh_N → Nat → Option nh_N} (h : xgk S g g') (hX : xXs S R) : g' xX = g xX := h _ _ hX.1
theorem xSh_cls {S : nh_N → Option nh_C} {R : nh_N → Nat → Option nh_N} {nk ni nc : Nat} {kd pl pn : Nat → Nat} {ow : Nat → Nat → Nat} (h : xSh S R nk ni nc kd pl pn ow) (hk : nk < 8) : xSh (xS_kind (nu S (xK nk) (some (0, 1))) nk) (ru (xR_kind (nu R (xK nk) (fun _ => none)) nk) xKA nk (some (xK nk))) (nk + 1) ni nc kd pl pn ow := by
  obtain ⟨h1, h2, h3, h4, h5, h6, h7, h8, h9, h10⟩ := h
  refine ⟨?_, ?_, ?_, ?_, ?_, ?_, ?_, by omega, h9, h10⟩
  · simpa [xXs, xLs, xS_kind, xR_kind, nu, ru_e] using h1
  · intro j hj
    have := h2 j hj
    by_cases e : j = nk
    · subst e; simp [ru_e]
    · simp only [ru_e, e, and_false, if_false]
      rw [show (if j < nk + 1 then some (xK j) else none) = (if j < nk then some (xK j) else none) by
        by_cases q : j < nk
        · rw [if_pos q, if_pos (by omega)]
        · rw [if_neg q, if_neg (by omega)]]
      simpa [xR_kind, nu, ru_e] using this
  · intro k hk'
    by_cases e : k = nk
    · subst e; simp [xKs, xS_kind, xR_kind, nu, ru_e]
    · have := h3 k (by omega)
      simpa [xKs, xS_kind, xR_kind, nu, ru_e, e] using this
  · intro j hj
    have := h4 j hj
    simpa [xR_kind, nu, ru_e] using this
  · intro i hi
    have := h5 i hi
    refine ⟨?_, by omega⟩
    simpa [xNs, xS_kind, xR_kind, nu, ru_e] using this.1
  · intro j hj
    have := h6 j hj
    simpa [xR_kind, nu, ru_e] using this
  · intro q hq
    have := h7 q hq
    simpa [xPs, xS_kind, xR_kind, nu, ru_e] using this
theorem xFr_cls {S : nh_N → Option nh_C} {nk ni nc : Nat} (h : xFr S nk ni nc) : xFr (xS_kind (nu S (xK nk) (some (0, 1))) nk) (nk + 1) ni nc := by
  obtain ⟨h1, h2, h3⟩ := h
  refine ⟨fun k hk => ?_, fun i hi => ?_, fun q hq => ?_⟩
  · have := h1 k (by omega)
    simpa [xS_kind, nu, show k ≠ nk by omega] using this
  · have := h2 i hi
    simpa [xS_kind, nu] using this
  · have := h3 q hq
    simpa [xS_kind, nu] using this
theorem xcls_e (J : nh_N → Nat → Int32) (nk : Nat) (a b d : Int32) (m : nh_N) (j : Nat) : xI_cls J nk a b d m j = if m = xX ∧ j = 5 then J xX 5 + 1 else if m = xK nk ∧ j = 2 then d else if m = xK nk ∧ j = 1 then b else if m = xK nk ∧ j = 0 then a else if m = xK nk ∨ m = xSO nk ∨ m = xHM nk ∨ m = xFT nk ∨ m = xLT nk then 0 else J m j := by
  unfold xI_cls xI_kind
  simp only [iu_e]
  by_cases h1 : m = xX ∧ j = 5
  · rw [if_pos h1, if_pos h1]; simp [nu]
  rw [if_neg h1, if_neg h1]
  by_cases h2 : m = xK nk ∧ j = 2
  · rw [if_pos h2, if_pos h2]
  rw [if_neg h2, if_neg h2]
  by_cases h3 : m = xK nk ∧ j = 1
  · rw [if_pos h3, if_pos h3]
  rw [if_neg h3, if_neg h3]
  by_cases h4 : m = xK nk ∧ j = 0
  · rw [if_pos h4, if_pos h4]
  rw [if_neg h4, if_neg h4]
  unfold nu
  by_cases k1 : m = xLT nk
  · simp [k1]
  rw [if_neg k1]
  by_cases k2 : m = xFT nk
  · simp [k2]
  rw [if_neg k2]
  by_cases k3 : m = xHM nk
  · simp [k3]
  rw [if_neg k3]
  by_cases k4 : m = xSO nk
  · simp [k4]
  rw [if_neg k4]
  by_cases k5 : m = xK nk
  · simp [k5]
  rw [if_neg k5, if_neg (by simp [k1, k2, k3, k4, k5])]
theorem xh_cls (l : Launch) (D : va_G) (cA : Nat → ClassId) (a b d : Int32) (hd : d = 0 ∨ d = 1) : lwOp l D cA xSim yX5_cls vX5_cls 2 35 yX6_cls vX6_cls 1 22 [.int a, .int b, .int d] := by
  refine lwOp_p ?_
  rintro nc S g I R S2 g2 J R2 hS
  obtain ⟨nk, ni, nm, np, nb, kd, pl, st, li, hsh, hfr, hz, hN, hK, hI, hG, hP, hM, hO, hL⟩ := id hS
  obtain ⟨e0, e0', e1, e2, e3, e4, e5, e6, e7, e8, e9, e10, e11, e12, e13⟩ := id hN
  have hk8 := hsh.nk8
  have hi2 := hsh.ni2
  have hc4 := hsh.nc4
  obtain ⟨f0, f1, f2, f3, f4⟩ := hfr.1 nk (Nat.le_refl _)
  refine ⟨5, 169, _, _, _, by omega, by omega, cx_cls l D cA nk hsh.X f0 f1 f2 f3 f4 a b d e1 hk8 hd, zc_cls l D cA hz a b d nk e2 hk8 hd, ?_⟩
  have xz : ∀ x y z, xf_isWithin I x y z = zf_in J x y z := fun _ _ _ => rfl
  intro v S' g' I' R' hp
  unfold xclsP at hp
  unfold zf_cls
  rw [xz, xz, e1] at hp
  rw [e2]
  rcases hp with ⟨q1, rfl, rfl, rfl, rfl, rfl⟩ | ⟨q1, q2, rfl, rfl, rfl, rfl, rfl⟩ | ⟨q1, q2, q3, rfl, rfl, rfl, rfl, rfl⟩ | ⟨q1, q2, q3, rfl, rfl, q4, rfl, rfl⟩
  · rw [if_pos q1]; exact ⟨rfl, rfl, hS⟩
  · rw [if_neg q1, if_pos q2]; exact ⟨rfl, rfl, hS⟩
  · have : nk = 8 := by
      by_cases w : nk < 8
      · exact absurd (by rw [show (8 : Int32) = nI 8 from rfl]; exact nI_lt w (by omega)) q3
      · omega
    rw [if_neg q1, if_neg q2, if_pos (by rw [this]; rfl)]; exact ⟨rfl, rfl, hS⟩
  · have hlt : nk < 8 := (nI_ltI (by omega) (by omega)).mp (show nI nk < nI 8 from q3)
    rw [if_neg q1, if_neg q2, if_neg (show ¬ nI nk = 8 by rw [show (8 : Int32) = nI 8 from rfl, nI_eq (by omega) (by omega)]; omega)]
    dsimp only
    rw [nI_clamp (n := nk) (by omega), nI_1, nI_pred]
    refine ⟨rfl, nc_of q4 hsh.X, nk + 1, ni, nm, np, nb, kd, pl, st, li, xSh_cls hsh hlt, xFr_cls hfr, hz, ?_, ?_, ?_, ?_, ?_, ?_, ?_, ?_⟩
    · unfold xNum
      obtain ⟨pr, p1, p2, p3⟩ := e0'
      simp [iu_e, xcls_e, e0, e1, e2, e3, e4, e5, e6, e7, e8, e9, e10, e11, e12, e13, nI_1]
      exact ⟨pr, p1, p2, p3⟩
    · refine ⟨fun k hk => ?_, fun k h1 h2 => ?_⟩
      · by_cases e : k = nk
        · subst e
          have h5 := hK.2 k (Nat.le_refl _) hlt
          simp [iu_e, xcls_e, h5, e0]
          refine ⟨?_, in_0 q2⟩
          rcases in_1 q1 with w | w
          · exact .inl w
          · exact .inr w
        · have := hK.1 k (by omega)
          simpa [iu_e, xcls_e, e] using this
      · have := hK.2 k (by omega) h2
        simpa [iu_e] using this
    · exact xIns_cong hI (by omega) (fun k => by funext j; simp [xcls_e]) (by funext j; simp [iu_e]) (by funext j; simp [iu_e]) (by funext j; simp [iu_e]) (by funext j; simp [iu_e]) (by funext j; simp [iu_e]) (by funext j; simp [iu_e]) (by funext j; simp [iu_e]) (by funext j; simp [iu_e])
    · exact xLog_cong hG (by funext j; simp [iu_e]) (by funext j; simp [iu_e]) (by funext j; simp [iu_e]) (by funext j; simp [iu_e]) (by funext j; simp [iu_e])
    · generalize hJ' : iu (iu (iu (iu J (zA 2) nk a) (zA 3) nk b) (zA 4) nk d) zM 1 (nI (nk + 1)) = J'
      have hzz : ∀ a b, zf_standing J' np a b = zf_standing J np a b := fun a b => zst_cong a b np 0 _ (by omega) (fun t _ _ => ⟨by rw [← hJ']; simp [iu_e], by rw [← hJ']; simp [iu_e], by rw [← hJ']; simp [iu_e]⟩)
      have x21 : J' (zA 21) = J (zA 21) := by rw [← hJ']; funext j; simp [iu_e]
      have x22 : J' (zA 22) = J (zA 22) := by rw [← hJ']; funext j; simp [iu_e]
      refine ⟨fun q hq => ?_, fun k hk q hq => ?_⟩
      · have := hP.1 q hq
        rw [hzz, x21, x22]
        simpa [xcls_e] using this
      · rw [hzz]
        by_cases e : k = nk
        · subst e
          rw [xcls_e]
          simp
          refine (zst_no2 J _ _ (nI_pos (by omega)) np 0 0 (by omega) (fun t _ ht => ?_)).symm
          obtain ⟨w1, w2, -⟩ := hG.2.2.2.1 t (by omega)
          rw [w1, nI_clamp (by omega), (hI.1 _ w2).1, nI_eq (by have := (hsh.N _ w2).2; omega) (by omega)]
          have := (hsh.N _ w2).2
          omega
        · have := hP.2 k (by omega) q hq
          simpa [xcls_e, e] using this
    · generalize hJ' : iu (iu (iu (iu J (zA 2) nk a) (zA 3) nk b) (zA 4) nk d) zM 1 (nI (nk + 1)) = J'
      have hzz : ∀ a b d, zf_markOn J' nm a b d = zf_markOn J nm a b d := fun a b d => zmk_cong a b d nm 0 _ (by omega) (fun t _ _ => ⟨by rw [← hJ']; simp [iu_e], by rw [← hJ']; simp [iu_e]⟩)
      have x16 : J' (zA 16) = J (zA 16) := by rw [← hJ']; funext j; simp [iu_e]
      have x14 : J' (zA 14) = J (zA 14) := by rw [← hJ']; funext j; simp [iu_e]
      refine ⟨fun k hk q hq => ?_, fun t ht => ?_⟩
      · unfold xMrA
        rw [hzz, hzz, x16]
        by_cases e : k = nk
        · subst e
          left
          have hno : ∀ d, zf_markOn J nm (nI k) (nI q) d = -1 := fun d => zmk_no J _ _ _ nm 0 _ (by omega) (fun t _ ht => by
            obtain ⟨k', w1, w2⟩ := hM.2 t (by omega)
            rw [w2, nI_eq (by omega) (by omega)]; omega)
          rw [hno, hno, xcls_e]
          simp
        · have := hM.1 k (by omega) q hq
          simpa [xMrA, xcls_e, e] using this
      · rw [x14]
        obtain ⟨k', w1, w2⟩ := hM.2 t ht
        exact ⟨k', by omega, w2⟩
    · exact xOrd_cong hO (by funext j; simp [iu_e]) (by funext j; simp [iu_e]) (by funext j; simp [iu_e]) (by funext j; simp [iu_e])
    · exact xLin_cong hL (by funext j; simp [xcls_e]) (by funext j; simp [xcls_e]) (by funext j; simp [iu_e]) (by funext j; simp [iu_e]) (by funext j; simp [iu_e])
