theorem xins_e (J : nh_N → Nat → Int32) (ni : Nat) (b d : Int32) (m : nh_N) (j : Nat) : xI_ins J ni b d m j = if m = xX ∧ j = 6 then J xX 6 + 1 else if m = xN ni then (if j = 3 then b else if j = 2 then d else if j = 0 then J xX 6 else if j = 6 then -1 else if j = 5 then -1 else if j = 4 then -1 else 0) else J m j := by
  unfold xI_ins
  simp only [iu_e]
  by_cases h1 : m = xX ∧ j = 6
  · rw [if_pos h1, if_pos h1]; simp [nu]
  rw [if_neg h1, if_neg h1]
  by_cases h2 : m = xN ni
  · rw [if_pos h2]
    simp only [h2, true_and]
    simp [nu]
  · rw [if_neg h2]
    simp [h2, nu]
theorem xSh_ins {S : nh_N → Option nh_C} {R : nh_N → Nat → Option nh_N} {nk ni nc k : Nat} {kd pl pn : Nat → Nat} {ow : Nat → Nat → Nat} (h : xSh S R nk ni nc kd pl pn ow) (hi : ni < 200) (hk : k < nk) : xSh (nu S (xN ni) (some (0, 0))) (ru (ru (nu R (xN ni) (fun _ => none)) (xN ni) 1 (some (xK k))) xIA ni (some (xN ni))) nk (ni + 1) nc (fun i => if i = ni then k else kd i) pl pn ow := by
  obtain ⟨h1, h2, h3, h4, h5, h6, h7, h8, h9, h10⟩ := h
  refine ⟨?_, ?_, ?_, ?_, ?_, ?_, ?_, h8, by omega, h10⟩
  · simpa [xXs, xLs, nu, ru_e] using h1
  · intro j hj
    have := h2 j hj
    simpa [nu, ru_e] using this
  · intro k hk'
    have := h3 k hk'
    simpa [xKs, nu, ru_e] using this
  · intro j hj
    have := h4 j hj
    by_cases e : j = ni
    · subst e; simp [ru_e]
    · simp only [ru_e, e, and_false, if_false]
      rw [show (if j < ni + 1 then some (xN j) else none) = (if j < ni then some (xN j) else none) by
        by_cases q : j < ni
        · rw [if_pos q, if_pos (by omega)]
        · rw [if_neg q, if_neg (by omega)]]
      simpa [nu, ru_e] using this
  · intro i hi'
    by_cases e : i = ni
    · subst e
      refine ⟨?_, by simpa using hk⟩
      simp [xNs, nu, ru_e]
    · have := h5 i (by omega)
      simpa [xNs, nu, ru_e, e] using this
  · intro j hj
    have := h6 j hj
    simpa [nu, ru_e] using this
  · intro q hq
    obtain ⟨w1, w2, w3, w4⟩ := h7 q hq
    refine ⟨by simpa [xPs, nu, ru_e] using w1, w2, w3, fun j hj => ?_⟩
    obtain ⟨y1, y2, y3, y4⟩ := w4 j hj
    exact ⟨by simpa [nu, ru_e] using y1, by simpa [nu] using y2, by simpa [nu, ru_e] using y3, by omega⟩
theorem xFr_ins {S : nh_N → Option nh_C} {nk ni nc : Nat} (h : xFr S nk ni nc) : xFr (nu S (xN ni) (some (0, 0))) nk (ni + 1) nc := by
  obtain ⟨h1, h2, h3⟩ := h
  refine ⟨fun k hk => ?_, fun i hi => ?_, fun q hq => ?_⟩
  · have := h1 k hk
    simpa [nu] using this
  · have := h2 i (by omega)
    simpa [nu, show i ≠ ni by omega] using this
  · have := h3 q hq
    simpa [nu] using this
theorem xh_insert (l : Launch) (D : va_G) (cA : Nat → ClassId) (a b d : Int32) : lwOp l D cA xSim yX5_insert vX5_insert 2 43 yX6_insert vX6_insert 2 43 [.int a, .int b, .int d] := by
  refine lwOp_p ?_
  rintro nc S g I R S2 g2 J R2 hS
  obtain ⟨nk, ni, nm, np, nb, kd, pl, st, li, hsh, hfr, hz, hN, hK, hI, hG, hP, hM, hO, hL⟩ := id hS
  obtain ⟨e0, e0', e1, e2, e3, e4, e5, e6, e7, e8, e9, e10, e11, e12, e13⟩ := id hN
  have hk8 := hsh.nk8
  have hi2 := hsh.ni2
  have hc4 := hsh.nc4
  have f0 := hfr.2.1 ni (Nat.le_refl _)
  refine ⟨1, 8, _, _, _, by omega, by omega, cx_insert l D cA nk ni hsh.X f0 hk8 hsh.KA hsh.K a b d e3 hi2, zc_insert l D cA hz a b d ni e4 hi2, ?_⟩
  have xz : ∀ x y z, xf_isWithin I x y z = zf_in J x y z := fun _ _ _ => rfl
  have xz2 : ∀ x, xf_isPage I x = zf_in J x 0 39 := fun _ => rfl
  intro v S' g' I' R' hp
  unfold xinsP at hp
  unfold zf_insert zf_isClass
  rw [zin_x J a (show J zM 1 - 1 = nI nk - 1 by rw [e2]) (by omega)]
  rw [xz, xz2, e3] at hp
  have hcl : xf_isClosed I d = if J zM 17 ≤ d then 0 else 1 := by unfold xf_isClosed; rw [e8, e9]
  rw [hcl] at hp
  rw [e4]
  rcases hp with ⟨q1, rfl, rfl, rfl, rfl, rfl⟩ | ⟨k, q1, q2, rfl, rfl, rfl, rfl, rfl⟩ | ⟨k, q1, q2, q3, rfl, rfl, rfl, rfl, rfl⟩ | ⟨k, q1, q2, q3, q4, rfl, rfl, rfl, rfl, rfl⟩ | ⟨k, q1, q2, q3, q4, q5, rfl, rfl, rfl, rfl, rfl⟩ | ⟨k, q1, q2, q3, q4, q5, rfl, rfl, q6, rfl, rfl⟩
  · rw [q1]; exact ⟨rfl, rfl, hS⟩
  · rw [q1, if_neg (show ¬ (if (some k).isSome = true then (1 : Int32) else 0) = 0 by simp), if_pos q2]; exact ⟨rfl, rfl, hS⟩
  · rw [q1, if_neg (show ¬ (if (some k).isSome = true then (1 : Int32) else 0) = 0 by simp), if_neg q2, if_pos q3]; exact ⟨rfl, rfl, hS⟩
  · have : ¬ J zM 17 ≤ d := fun w => q4 (by rw [if_pos w])
    rw [q1, if_neg (show ¬ (if (some k).isSome = true then (1 : Int32) else 0) = 0 by simp), if_neg q2, if_neg q3, if_neg this]; exact ⟨rfl, rfl, hS⟩
  · have h17 : J zM 17 ≤ d := by
      by_cases w : J zM 17 ≤ d
      · exact w
      · rw [if_neg w] at q4; exact absurd q4 one_ne0
    have : ni = 200 := by
      by_cases w : ni < 200
      · exact absurd (by rw [show (200 : Int32) = nI 200 from rfl]; exact nI_lt w (by omega)) q5
      · omega
    rw [q1, if_neg (show ¬ (if (some k).isSome = true then (1 : Int32) else 0) = 0 by simp), if_neg q2, if_neg q3, if_pos h17, if_pos (by rw [this]; rfl)]; exact ⟨rfl, rfl, hS⟩
  · have h17 : J zM 17 ≤ d := by
      by_cases w : J zM 17 ≤ d
      · exact w
      · rw [if_neg w] at q4; exact absurd q4 one_ne0
    have hlt : ni < 200 := (nI_ltI (by omega) (by omega)).mp (show nI ni < nI 200 from q5)
    obtain ⟨rfl, hk⟩ := xat_some q1 (by omega)
    obtain ⟨h, hh1, hh2, rfl⟩ := in_p q2
    rw [zin_40] at q3
    cases ed : xat 40 d with
    | none => rw [ed] at q3; exact absurd rfl q3
    | some q =>
    obtain ⟨rfl, hq⟩ := xat_some ed (by omega)
    have hqc : nc ≤ q := (nI_leI (by omega) (by omega)).mp (by rw [← e9]; exact h17)
    rw [q1, if_neg (show ¬ (if (some k).isSome = true then (1 : Int32) else 0) = 0 by simp), if_neg q2, zin_40, if_neg q3, if_pos h17, if_neg (show ¬ nI ni = 200 by rw [show (200 : Int32) = nI 200 from rfl, nI_eq (by omega) (by omega)]; omega)]
    dsimp only
    rw [nI_clamp (n := ni) (by omega), nI_1, nI_pred]
    have li_ni : ∀ t, t < np → (J (zA 20) t).toNatClampNeg < ni ∧ ¬ J (zA 20) t = nI ni := fun t ht => by
      obtain ⟨w1, w2, -⟩ := hG.2.2.2.1 t ht
      rw [w1, nI_clamp (by omega), nI_eq (by omega) (by omega)]
      exact ⟨w2, by omega⟩
    generalize hJ' : iu (iu (iu (iu J (zA 7) ni (nI k)) (zA 8) ni (nI h)) (zA 9) ni (nI q)) zM 6 (nI (ni + 1)) = J'
    have x7 : ∀ i, J' (zA 7) i = if i = ni then nI k else J (zA 7) i := fun i => by rw [← hJ']; simp [iu_e]
    have x8 : ∀ i, J' (zA 8) i = if i = ni then nI h else J (zA 8) i := fun i => by rw [← hJ']; simp [iu_e]
    have x9 : ∀ i, J' (zA 9) i = if i = ni then nI q else J (zA 9) i := fun i => by rw [← hJ']; simp [iu_e]
    have xo : ∀ s, s ≠ 7 → s ≠ 8 → s ≠ 9 → J' (zA s) = J (zA s) := fun s s1 s2 s3 => by rw [← hJ']; funext j; simp [iu_e, s1, s2, s3]
    have hzz : ∀ a b, zf_standing J' np a b = zf_standing J np a b := fun a b => zst_cong a b np 0 _ (by omega) (fun t _ ht => ⟨by rw [xo 19 (by omega) (by omega) (by omega)], by rw [xo 21 (by omega) (by omega) (by omega)], by
      have := (li_ni t (by omega)).1
      rw [xo 20 (by omega) (by omega) (by omega), x7, if_neg (by omega)]⟩)
    have hzb : ∀ a, zab J' a np 0 (-1) (-1) = zab J a np 0 (-1) (-1) := fun a => zab_cong a np 0 _ _ (by omega) (fun t _ ht => ⟨by rw [xo 19 (by omega) (by omega) (by omega)], by rw [xo 20 (by omega) (by omega) (by omega)]⟩)
    have hh : zhl J' nb = zhl J nb := zhl_cong (fun q hq => by
      obtain ⟨i, w1, w2, -⟩ := hO.1 q hq
      rw [w2, nI_clamp (by omega), xo 24 (by omega) (by omega) (by omega), xo 11 (by omega) (by omega) (by omega), x8, if_neg (by omega)]
      exact ⟨w2, rfl, rfl⟩)
    refine ⟨rfl, nc_of q6 hsh.X, nk, ni + 1, nm, np, nb, _, pl, st, li, xSh_ins hsh hlt hk, xFr_ins hfr, hz, ?_, ?_, ?_, ?_, ?_, ?_, ?_, ?_⟩
    · unfold xNum
      obtain ⟨pr, p1, p2, p3⟩ := e0'
      rw [← hJ']
      simp [iu_e, xins_e, e0, e1, e2, e3, e4, e5, e6, e7, e8, e9, e10, e11, e12, e13, nI_1]
      exact ⟨pr, p1, p2, p3⟩
    · exact xKin_cong hK (fun k => by funext j; simp [xins_e]) (by rw [← hJ']; simp [iu_e]) (xo 2 (by omega) (by omega) (by omega)) (xo 3 (by omega) (by omega) (by omega)) (xo 4 (by omega) (by omega) (by omega)) (xo 5 (by omega) (by omega) (by omega))
    · have o10 := xo 10 (by omega) (by omega) (by omega)
      have o11 := xo 11 (by omega) (by omega) (by omega)
      have o12 := xo 12 (by omega) (by omega) (by omega)
      refine ⟨fun i hi => ?_, fun i h1 h2 => ?_⟩
      · unfold xInA
        rw [hzb, o10, o11, o12, x7, x8, x9]
        by_cases e : i = ni
        · subst e
          obtain ⟨w1, w2⟩ := hI.2 i (Nat.le_refl _) hlt
          rw [zab_no J (nI i) np 0 _ _ (by omega) (fun t _ ht => (li_ni t (by omega)).2), w1, w2]
          simp [xins_e, e3, nI_eq0 (n := h) (by omega)]
          exact ⟨⟨q, hq, rfl⟩, ⟨h, hh2, rfl⟩, ⟨0, by omega, rfl⟩, by omega⟩
        · have := hI.1 i (by omega)
          unfold xInA at this
          simpa [xins_e, e] using this
      · rw [o11, o12]; exact hI.2 i (by omega) h2
    · obtain ⟨g1, g2', g3, g4, g5⟩ := hG
      refine ⟨g1, g2', g3, fun t ht => ?_, ?_⟩
      · rw [xo 20 (by omega) (by omega) (by omega), xo 12 (by omega) (by omega) (by omega), xo 21 (by omega) (by omega) (by omega), xo 22 (by omega) (by omega) (by omega)]
        obtain ⟨w1, w2, w3⟩ := g4 t ht
        exact ⟨w1, by omega, w3⟩
      · rw [xo 19 (by omega) (by omega) (by omega)]; exact g5
    · refine ⟨fun q hq => ?_, fun k hk q hq => ?_⟩
      · have := hP.1 q hq
        rw [hzz, xo 21 (by omega) (by omega) (by omega), xo 22 (by omega) (by omega) (by omega)]
        simpa [xins_e] using this
      · have := hP.2 k hk q hq
        rw [hzz]
        simpa [xins_e] using this
    · exact xMrk_cong hM (by omega) (fun k => by funext j; simp [xins_e]) (fun k => by funext j; simp [xins_e]) (fun k => by funext j; simp [xins_e]) (xo 14 (by omega) (by omega) (by omega)) (xo 15 (by omega) (by omega) (by omega)) (xo 16 (by omega) (by omega) (by omega))
    · obtain ⟨o1, o2, o3⟩ := hO
      rw [xOrd, xo 24 (by omega) (by omega) (by omega), xo 11 (by omega) (by omega) (by omega)]
      refine ⟨fun q hq => ?_, o2, fun i t h1 h2 h3 h4 h5 => ?_⟩
      · obtain ⟨i, w1, w2, t, w3, w4⟩ := o1 q hq
        exact ⟨i, by omega, w2, t, w3, by rw [x9, if_neg (by omega)]; exact w4⟩
      · rw [x9] at h2
        rw [x8] at h5
        by_cases e : i = ni
        · rw [if_pos e, nI_eq (by omega) (by omega)] at h2
          omega
        · rw [if_neg e] at h2 h5
          exact o3 i t (by omega) h2 h3 h4 h5
    · unfold xLin
      rw [hh]
      have := hL
      unfold xLin at this
      simpa [xins_e] using this
