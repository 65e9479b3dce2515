theorem d4 (d : Int32) : d = 0 ∨ d = 1 ∨ d = 2 ∨ d = 3 ∨ ((xat 4 d).isSome = false ∧ ¬ d = 0 ∧ ¬ d = 1 ∧ ¬ d = 2 ∧ ¬ d = 3) := by
  cases h : xat 4 d with
  | some t =>
    obtain ⟨rfl, ht⟩ := xat_some h (by omega)
    have : t = 0 ∨ t = 1 ∨ t = 2 ∨ t = 3 := by omega
    rcases this with rfl | rfl | rfl | rfl
    · exact .inl rfl
    · exact .inr (.inl rfl)
    · exact .inr (.inr (.inl rfl))
    · exact .inr (.inr (.inr (.inl rfl)))
  | none =>
    have hd : ∀ t, t < 4 → ¬ d = nI t := fun t ht e => by
      rw [e, xat_nI (by omega), if_pos ht] at h; cases h
    exact .inr (.inr (.inr (.inr ⟨rfl, hd 0 (by omega), hd 1 (by omega), hd 2 (by omega), hd 3 (by omega)⟩)))
theorem d3 (d : Int32) : d = 0 ∨ d = 1 ∨ d = 2 ∨ ((xat 3 d).isSome = false ∧ ¬ d = 0 ∧ ¬ d = 1 ∧ ¬ d = 2) := by
  cases h : xat 3 d with
  | some t =>
    obtain ⟨rfl, ht⟩ := xat_some h (by omega)
    have : t = 0 ∨ t = 1 ∨ t = 2 := by omega
    rcases this with rfl | rfl | rfl
    · exact .inl rfl
    · exact .inr (.inl rfl)
    · exact .inr (.inr (.inl rfl))
  | none =>
    have hd : ∀ t, t < 3 → ¬ d = nI t := fun t ht e => by
      rw [e, xat_nI (by omega), if_pos ht] at h; cases h
    exact .inr (.inr (.inr ⟨rfl, hd 0 (by omega), hd 1 (by omega), hd 2 (by omega)⟩))
theorem one_ne0 : ¬ (1 : Int32) = 0 := by decide
theorem zl_partAt_skip (J : nh_N → Nat → Int32) (a b : Int32) (hb : ¬ b < 0) : ∀ (m r j : Nat) (x : Int32), j + m + r ≤ 9000 → (∀ t, j ≤ t → t < j + m → ¬ J (zA 19) t = a) → zl_partAt J a b (m + r) j x = zl_partAt J a b r (j + m) x := by
  intro m
  induction m with
  | zero => intro r j x _ _; rw [Nat.zero_add]; rfl
  | succ m ih =>
    intro r j x hj h
    rw [show m + 1 + r = (m + r) + 1 by omega, zl_partAt, if_neg hb, nI_clamp (n := j) (by omega), if_neg (h j (by omega) (by omega)), ih r (j + 1) x (by omega) (fun t a b => h t (by omega) (by omega)), show j + 1 + m = j + (m + 1) by omega]
theorem zl_partAt_hit (J : nh_N → Nat → Int32) (a b : Int32) (hb : ¬ b < 0) : ∀ (m r j c : Nat), j + m + r ≤ 9000 → c < 2 ^ 31 → (∀ t, j ≤ t → t < j + m → J (zA 19) t = a) → zl_partAt J a b (m + r) j (nI c) = if c < m then nI (j + c) else zl_partAt J a b r (j + m) (nI (c - m)) := by
  intro m
  induction m with
  | zero => intro r j c _ _ _; rw [Nat.zero_add, if_neg (by omega)]; rfl
  | succ m ih =>
    intro r j c hj hc h
    rw [show m + 1 + r = (m + r) + 1 by omega, zl_partAt, if_neg hb, nI_clamp (n := j) (by omega), if_pos (h j (by omega) (by omega))]
    cases c with
    | zero => rw [if_pos (by rfl), if_pos (by omega)]; rfl
    | succ c =>
      rw [if_neg (nI_ne0 (by omega) hc), pk_m1, ih r (j + 1) c (by omega) (by omega) (fun t a b => h t (by omega) (by omega)), show j + 1 + m = j + (m + 1) by omega, show j + 1 + c = j + (c + 1) by omega, show c + 1 - (m + 1) = c - m by omega]
      by_cases q : c < m
      · rw [if_pos q, if_pos (by omega)]
      · rw [if_neg q, if_neg (by omega)]
theorem zl_partAt_neg (J : nh_N → Nat → Int32) (a b x : Int32) (hb : b < 0) (r j : Nat) : zl_partAt J a b r j x = -1 := by
  cases r with
  | zero => rfl
  | succ r => unfold zl_partAt; rw [if_pos hb]
/-- where the part b of page p lies in the log -/
theorem zf_partAt_eq {J : nh_N → Nat → Int32} {ni nc np : Nat} {st li : Nat → Nat} (h : xLog J ni nc np st li) (hc : nc ≤ 40) (hn : np ≤ 9000) (a b : Int32) : zf_partAt J np a b = (match xat nc a with | none => -1 | some q => match xat (xPn st q) b with | none => -1 | some j => nI (st q + j)) := by
  unfold zf_partAt
  by_cases hb : b < 0
  · rw [zl_partAt_neg J a b b hb]
    have : ∀ n, n < 2 ^ 31 → xat n b = none := fun n hn => by
      cases e : xat n b with
      | none => rfl
      | some j =>
        obtain ⟨rfl, hj⟩ := xat_some e hn
        exact absurd hb (nI_pos (by omega))
    cases e : xat nc a with
    | none => rfl
    | some q =>
      have hq := (xat_some e (by omega)).2
      have := (h.2.1 q hq).2
      dsimp only
      rw [‹∀ n, n < 2 ^ 31 → xat n b = none› (xPn st q) (by unfold xPn; omega)]
  · obtain ⟨c, hc31, rfl⟩ := nI_of hb
    have skip := zl_partAt_skip J a (nI c) hb
    cases e : xat nc a with
    | none =>
      have hno : ∀ t, 0 ≤ t → t < 0 + np → ¬ J (zA 19) t = a := fun t _ ht ea => by
        obtain ⟨q, h1, h2, h3, h4⟩ := xLog_pg h (t := t) (by omega)
        rw [← ea, h4, xat_nI (by omega), if_pos h1] at e
        cases e
      have := skip np 0 0 (nI c) (by omega) hno
      rw [Nat.add_zero] at this
      rw [this]; rfl
    | some q =>
      obtain ⟨rfl, hq⟩ := xat_some e (by omega)
      have hm := xLog_mono h
      have hs1 := h.2.1 q hq
      have hs2 := hm (q + 1) nc (by omega) (by omega)
      rw [h.2.2.1] at hs2
      have s1 := skip (st q) (st (q + 1) - st q + (np - st (q + 1))) 0 (nI c) (by omega) (fun t _ ht => xLog_out h hc (by omega) (by omega) (by omega))
      have s2 := zl_partAt_hit J (nI q) (nI c) hb (st (q + 1) - st q) (np - st (q + 1)) (0 + st q) c (by omega) hc31 (fun t h1 h2 => h.2.2.2.2 q hq t (by omega) (by omega))
      have s3 := skip (np - st (q + 1)) 0 (0 + st q + (st (q + 1) - st q)) (nI (c - (st (q + 1) - st q))) (by omega) (fun t h1 h2 => xLog_out h hc (by omega) (by omega) (by omega))
      rw [show st q + (st (q + 1) - st q + (np - st (q + 1))) = np by omega] at s1
      rw [s1, s2]
      rw [Nat.add_zero] at s3
      rw [s3]
      show _ = (match xat (xPn st q) (nI c) with | none => -1 | some j => nI (st q + j))
      rw [xat_nI hc31]
      unfold xPn
      by_cases q2 : c < st (q + 1) - st q
      · rw [if_pos q2, if_pos q2, Nat.zero_add]
      · rw [if_neg q2, if_neg q2]; rfl
theorem xLog_pi {J : nh_N → Nat → Int32} {ni nc np : Nat} {st li : Nat → Nat} (h : xLog J ni nc np st li) (hn : ni ≤ 200) : ∀ q, q < np → ∃ i, i < 200 ∧ J (zA 20) q = nI i := fun q hq => by
  obtain ⟨a, b, -⟩ := h.2.2.2.1 q hq
  exact ⟨li q, by omega, a⟩
theorem zin_3 (J : nh_N → Nat → Int32) (d : Int32) : zf_in J d 0 3 = if (xat 4 d).isSome then 1 else 0 := zin_x J d (by decide) (by decide)
theorem zin_2 (J : nh_N → Nat → Int32) (d : Int32) : zf_in J d 0 2 = if (xat 3 d).isSome then 1 else 0 := zin_x J d (by decide) (by decide)
theorem xh_placed (l : Launch) (D : va_G) (cA : Nat → ClassId) (a b d : Int32) : lwOp l D cA xSim yX5_placed vX5_placed 3 63 yX6_placed vX6_placed 1 24 [.int a, .int b, .int d] := by
  refine lwOp_ro (fun _ _ _ _ _ _ _ _ _ h => xSim_X h) ?_
  rintro nc S g I R S2 g2 J R2 ⟨nk, ni, nm, np, nb, kd, pl, st, li, hsh, -, hz, hN, hK, hI, hG, hP, hM, hO, hL⟩
  obtain ⟨e0, e0', e1, e2, e3, e4, e5, e6, e7, e8, e9, e10, e11, e12, e13⟩ := hN
  have hc4 := hsh.nc4
  have hi2 := hsh.ni2
  have hn9 : np ≤ 9000 := by omega
  refine ⟨_, _, cxf_placed l D cA hsh a b d (fun q hq => (hP.1 q hq).2.1), zc_placed l D cA hz a b d np e10 hn9 (xLog_pi hG hi2), ?_⟩
  have hp := zf_partAt_eq hG hc4 hn9 a b
  unfold xf_placed zf_placed
  generalize zf_partAt J np a b = P at hp ⊢
  cases ea : xat nc a with
  | none => rw [ea] at hp; subst hp; rfl
  | some q =>
    rw [ea] at hp
    obtain ⟨-, hq⟩ := xat_some ea (by omega)
    have hs1 := hG.2.1 q hq
    have hs2 := xLog_mono hG (q + 1) nc (by omega) (by omega)
    rw [hG.2.2.1] at hs2
    dsimp only at hp ⊢
    cases eb : xat (xPn st q) b with
    | none => rw [eb] at hp; subst hp; rfl
    | some j =>
      rw [eb] at hp
      dsimp only at hp
      subst hp
      obtain ⟨-, hj⟩ := xat_some eb (by unfold xPn; omega)
      unfold xPn at hj
      have hlt : st q + j < np := by omega
      obtain ⟨b1, b2, b3, -, b5⟩ := hG.2.2.2.1 (st q + j) hlt
      obtain ⟨c1, c2⟩ := (hP.1 q hq).2.2.2 j hj
      obtain ⟨a1, a2, a3, a4, a5, a6, a7, -, a9, -⟩ := hI.1 _ b2
      dsimp only
      rw [if_neg (nI_pos (by omega)), nI_clamp (n := st q + j) (by omega), b1, nI_clamp (n := li (st q + j)) (by omega), c1, c2, zin_3]
      show (if d = 0 then I (xN (li (st q + j))) 0 else if d = 1 then _ else if d = 2 then I (xN (li (st q + j))) 4 else _) = _
      rw [a2, a9, if_neg b3]
      rcases d4 d with rfl | rfl | rfl | rfl | ⟨hx, d0, d1, d2, d3⟩
      · rw [show (xat 4 (0 : Int32)).isSome = true by decide]; rfl
      · rw [show (xat 4 (1 : Int32)).isSome = true by decide]; rfl
      · rw [show (xat 4 (2 : Int32)).isSome = true by decide]; rfl
      · rw [show (xat 4 (3 : Int32)).isSome = true by decide]; rfl
      · rw [if_neg d0, if_neg d1, if_neg d2, if_neg d3, hx]; rfl
/-! used -/
theorem zl_standing_no (J : nh_N → Nat → Int32) (a b : Int32) : ∀ (r j : Nat) (x : Int32), j + r ≤ 9000 → (∀ t, j ≤ t → t < j + r → ¬ J (zA 19) t = a) → zl_standing J a b r j x = x := by
  intro r
  induction r with
  | zero => intro j x _ _; rfl
  | succ r ih =>
    intro j x hj h
    unfold zl_standing
    rw [nI_clamp (n := j) (by omega), if_neg (h j (by omega) (by omega)), Int32.add_zero]
    exact ih (j + 1) x (by omega) (fun t a b => h t (by omega) (by omega))
theorem xh_used (l : Launch) (D : va_G) (cA : Nat → ClassId) (a b : Int32) : lwOp l D cA xSim yX5_used vX5_used 3 63 yX6_used vX6_used 2 43 [.int a, .int b] := by
  refine lwOp_ro (fun _ _ _ _ _ _ _ _ _ h => xSim_X h) ?_
  rintro nc S g I R S2 g2 J R2 ⟨nk, ni, nm, np, nb, kd, pl, st, li, hsh, -, hz, hN, hK, hI, hG, hP, hM, hO, hL⟩
  obtain ⟨e0, e0', e1, e2, e3, e4, e5, e6, e7, e8, e9, e10, e11, e12, e13⟩ := hN
  have hc4 := hsh.nc4
  have hi2 := hsh.ni2
  have hk8 := hsh.nk8
  have hn9 : np ≤ 9000 := by omega
  refine ⟨_, _, cxf_used l D cA hsh a b, zc_used l D cA hz a b np e10 hn9 (xLog_pi hG hi2), ?_⟩
  unfold xf_used zf_used zf_isClass
  rw [zin_40, xpg_40, zin_x J b (show J zM 1 - 1 = nI nk - 1 by rw [e2]) (by omega)]
  cases ea : xat 40 a with
  | none => cases eb : xat nk b with
    | none => rfl
    | some k => rfl
  | some q =>
    obtain ⟨rfl, hq⟩ := xat_some ea (by omega)
    cases eb : xat nk b with
    | some k =>
      obtain ⟨rfl, hk⟩ := xat_some eb (by omega)
      simp only [Option.isSome_some, if_true]
      rw [if_neg (nI_nm1 (by omega)), nI_clamp (n := q) (by omega), hP.2 k hk q hq]
      rfl
    | none =>
      simp only [Option.isSome_some, Option.isSome_none, if_true]
      by_cases hb : b = -1
      · rw [if_pos hb, if_pos hb, xat_nI (by omega), hb]
        by_cases hqc : q < nc
        · rw [if_pos hqc]
          exact (hP.1 q hqc).2.2.1
        · rw [if_neg hqc]
          unfold zf_standing
          rw [zl_standing_no J _ _ np 0 0 (by omega) (fun t _ ht => xLog_out hG hc4 (by omega) (by omega) (by omega))]
      · rw [if_neg hb, if_neg hb]; rfl
/-! seen -/
theorem top_eq {I J : nh_N → Nat → Int32} {nk nm : Nat} (h : xMrk I J nk nm) {k : Nat} (hk : k < nk) (a : Int32) : ∀ r, r ≤ 40 → xl_topMark I k a r = zl_lastBefore J nm (nI k) a r := by
  intro r
  induction r with
  | zero => intro _; rfl
  | succ r ih =>
    intro hr
    unfold xl_topMark zl_lastBefore
    rw [nI_clamp (n := r) (by omega)]
    rcases h.1 k hk r (by omega) with ⟨h1, h2, h3⟩ | ⟨h1, h2, h3, h4, h5⟩
    · rw [if_pos h3, if_pos h2]; exact ih (by omega)
    · rw [if_neg (by rw [h3]; decide), if_neg h2, h5]
theorem nle_lt {x : Int32} : (0 ≤ x) ↔ ¬ x < 0 := by
  rw [Int32.le_iff_toInt_le, Int32.lt_iff_toInt_lt]; omega
theorem xh_seen (l : Launch) (D : va_G) (cA : Nat → ClassId) (a b d : Int32) : lwOp l D cA xSim yX5_seen vX5_seen 2 44 yX6_seen vX6_seen 2 49 [.int a, .int b, .int d] := by
  refine lwOp_ro (fun _ _ _ _ _ _ _ _ _ h => xSim_X h) ?_
  rintro nc S g I R S2 g2 J R2 ⟨nk, ni, nm, np, nb, kd, pl, st, li, hsh, -, hz, hN, hK, hI, hG, hP, hM, hO, hL⟩
  obtain ⟨e0, e0', e1, e2, e3, e4, e5, e6, e7, e8, e9, e10, e11, e12, e13⟩ := hN
  have hk8 := hsh.nk8
  refine ⟨_, _, cxf_seen l D cA hsh a b d, zc_seen l D cA hz a b d nm e6 e7, ?_⟩
  unfold xf_seen zf_seen zf_isClass
  rw [zin_40, xpg_40, zin_2, zin_x J a (show J zM 1 - 1 = nI nk - 1 by rw [e2]) (by omega)]
  cases ea : xat nk a with
  | none => rfl
  | some k =>
    obtain ⟨rfl, hk⟩ := xat_some ea (by omega)
    simp only [Option.isSome_some, if_true]
    rw [if_neg one_ne0]
    cases eb : xat 40 b with
    | none => rfl
    | some q =>
      obtain ⟨rfl, hq⟩ := xat_some eb (by omega)
      simp only [Option.isSome_some, if_true]
      rw [if_neg one_ne0, if_neg one_ne0, nI_clamp (n := q) (by omega)]
      unfold xf_firstMark xf_lastMark xf_topMark zf_lastBefore
      rw [top_eq hM hk _ q (by omega), nI_clamp (n := q) (by omega)]
      simp only [nle_lt]
      have hm := hM.1 k hk q hq
      rcases d3 d with rfl | rfl | rfl | ⟨hx, d0, d1, d2⟩
      · rw [show (xat 3 (0 : Int32)).isSome = true by decide]; rfl
      · rw [show (xat 3 (1 : Int32)).isSome = true by decide]
        show (if I (xHM k) q = 0 then zl_lastBefore J nm (nI k) (nI q) q else I (xFT k) q) = (if ¬zf_markOn J nm (nI k) (nI q) 1 < 0 then J (zA 16) (zf_markOn J nm (nI k) (nI q) 1).toNatClampNeg else zl_lastBefore J nm (nI k) (nI q) q)
        rcases hm with ⟨h1, h2, h3⟩ | ⟨h1, h2, h3, h4, h5⟩
        · rw [if_pos h3, if_neg (fun z => z h1)]
        · rw [if_neg (by rw [h3]; decide), if_pos h1, h4]
      · rw [show (xat 3 (2 : Int32)).isSome = true by decide]
        show (if I (xHM k) q = 0 then zl_lastBefore J nm (nI k) (nI q) q else I (xLT k) q) = (if ¬zf_markOn J nm (nI k) (nI q) 0 < 0 then J (zA 16) (zf_markOn J nm (nI k) (nI q) 0).toNatClampNeg else zl_lastBefore J nm (nI k) (nI q) q)
        rcases hm with ⟨h1, h2, h3⟩ | ⟨h1, h2, h3, h4, h5⟩
        · rw [if_pos h3, if_neg (fun z => z h2)]
        · rw [if_neg (by rw [h3]; decide), if_pos h2, h5]
      · rw [if_neg d0, if_neg d1, if_neg d2, hx]; rfl
