/-! PURE: a page is closed on both sides -/
theorem nh_M_mono {l : Launch} {D : va_G} {cA : Nat → ClassId} {y : MethodName} {ws : List Cond} {fr lo mc ms : Nat} {av : List Value} {S : nh_N → Option nh_C} {g : nh_N → Nat} {I : nh_N → Nat → Int32} {R : nh_N → Nat → Option nh_N} {p p' : nh_post} (hpp : ∀ v S' g' I' R', p v S' g' I' R' → p' v S' g' I' R') (h : im_M l D cA y ws fr lo mc ms av S g I R p) : im_M l D cA y ws fr lo mc ms av S g I R p' := by
  intro sz
  have := h sz
  unfold Met at this ⊢
  refine MetFree.imp this ?_
  rintro a st o t ⟨⟨⟨v, S', g', I', R', q1, q2, q3⟩, q4⟩, q5⟩
  exact ⟨⟨⟨v, S', g', I', R', q1, hpp _ _ _ _ _ q2, q3⟩, q4⟩, q5⟩
theorem xSim_rdy {I J : nh_N → Nat → Int32} {S : nh_N → Option nh_C} {R : nh_N → Nat → Option nh_N} {nk ni nm nc np nb : Nat} {kd pl st li : Nat → Nat} (hsh : xSh S R nk ni nc kd pl (xPn st) (xOw st li)) (h : xRel I J nk ni nm nc np nb kd st li) (hc : nc < 40) : zRdy J ni nc np nb := by
  obtain ⟨hN, hK, hI, hG, hP, hM, hO, hL⟩ := h
  obtain ⟨e0, e0', e1, e2, e3, e4, e5, e6, e7, e8, e9, e10, e11, e12, e13⟩ := hN
  refine ⟨hsh.ni2, hc, e11, e13, e4, e9, e10, e12, xLog_pi hG hsh.ni2, fun i hi => ?_, fun i hi => (hI.1 i hi).2.2.2.1, fun i hi h8 => ?_, hO⟩
  · have := (hsh.N i hi).2
    have := hsh.nk8
    exact ⟨kd i, by omega, (hI.1 i hi).1⟩
  · obtain ⟨-, -, -, -, -, -, -, -, -, -, -, -, w⟩ := hI.1 i hi
    rcases w with w | ⟨-, w, -⟩
    · exact w.1
    · rw [w] at h8; exact absurd (by decide) h8
/-- at the start of the walk -/
theorem xMid_init {S : nh_N → Option nh_C} {I J P1 : nh_N → Nat → Int32} {R : nh_N → Nat → Option nh_N} {nk ni nm nc np nb : Nat} {kd pl st li : Nat → Nat} (hsh : xSh S R nk ni nc kd pl (xPn st) (xOw st li)) (hfr : xFr S nk ni nc) (h : xRel I J nk ni nm nc np nb kd st li) (hc : nc < 40) (hP1 : zl_cl1 8 0 J = P1) (hW2 : (zW J nb ni nc).length ≤ 200) : xcA I nk ni xLN 1 = nI (zW J nb ni nc).length ∧ xMid nk ni nm nc np nb kd (zW J nb ni nc) (iu P1 zM 25 0) 0 (xcS S nc (zW J nb ni nc).length) (iu (xcI I nk ni nc) xLN 1 0) (xcR R nc) (iu P1 zM 25 0) := by
  obtain ⟨hN, hK, hI, hG, hP, hM, hO, hL⟩ := h
  obtain ⟨e0, e0', e1, e2, e3, e4, e5, e6, e7, e8, e9, e10, e11, e12, e13⟩ := hN
  have hk8 := hsh.nk8
  have hi2 := hsh.ni2
  obtain ⟨c1, c2, c3⟩ := cl1_eq 8 0 J (by omega)
  rw [hP1] at c1 c2 c3
  generalize hJ0 : iu P1 zM 25 0 = J0
  have o : ∀ s, s ≠ 27 → s ≠ 5 → J0 (zA s) = J (zA s) := fun s s1 s2 => by rw [← hJ0, iu_o _ _ _ (by simp), c3 _ (by simp [s1]) (by simp [s2])]
  have om : ∀ s, s ≠ 25 → J0 zM s = J zM s := fun s hs => by rw [← hJ0, iu_e, if_neg (fun w => hs w.2), c3 _ (by simp) (by simp)]
  have o27 : ∀ k, k < 8 → J0 (zA 27) k = 0 := fun k hk => by rw [← hJ0, iu_o _ _ _ (by simp), c1, if_pos (by omega)]
  have o5 : ∀ k, k < 8 → J0 (zA 5) k = if J (zA 4) k = 0 then J (zA 5) k else 0 := fun k hk => by
    rw [← hJ0, iu_o _ _ _ (by simp), c2]
    by_cases q : J (zA 4) k = 0
    · rw [if_pos q, if_neg (fun w => w.2 q)]
    · rw [if_neg q, if_pos ⟨by omega, q⟩]
  obtain ⟨l1, l2⟩ := lu_eq (I := I) (J := J) (nc := nc) (A := zhl J nb) hi2 (fun i hi => (hI.1 i hi).2.2.1) (fun i hi => (hI.1 i hi).2.2.2.2.1) hW2 hL.1 hL.2 ni (Nat.le_refl _)
  generalize hY : xcA I nk ni = Y
  have y0 : ∀ m, (∀ k, m ≠ xK k) → Y m = xl_lu (nI nc) ni 0 I m := fun m hm => by
    rw [← hY, xcA, e8]; funext s; exact xsp_o nk 0 _ m s hm
  have y1 : ∀ m, m ≠ xLN → m ≠ xLR → (∀ k, m ≠ xK k) → Y m = I m := fun m m1 m2 m3 => by
    rw [y0 m m3]; funext s; exact xlu_o ni 0 I m s m1 m2
  have y2 : ∀ k s, Y (xK k) s = if k < nk then (if s = 8 then 0 else if s = 7 ∧ ¬ I (xK k) 2 = 0 then 0 else I (xK k) s) else I (xK k) s := fun k s => by
    rw [← hY, xcA, sp_eq, xlu_o _ _ _ _ _ (by simp) (by simp), xlu_o _ _ _ _ _ (by simp) (by simp)]
    by_cases q : k < nk
    · rw [if_pos q, if_pos (by omega)]
    · rw [if_neg q, if_neg (by omega)]
  have y3 : Y xLN 1 = nI (zW J nb ni nc).length := by rw [y0 _ (by simp)]; exact l1
  have y4 : ∀ s i, (zW J nb ni nc)[s]? = some i → Y xLR s = nI i := fun s i hs => by rw [y0 _ (by simp)]; exact l2 s i hs
  refine ⟨y3, ?_⟩
  unfold xcI
  rw [hY]
  generalize hX : iu (nu (iu (nu Y (xP nc) (fun _ => 0)) (xP nc) 0 (nI nc)) (xPP nc) (fun _ => 0)) xLN 1 0 = X
  have x1 : ∀ m, m ≠ xLN → m ≠ xLR → (∀ k, m ≠ xK k) → m ≠ xP nc → m ≠ xPP nc → X m = I m := fun m m1 m2 m3 m4 m5 => by
    rw [← hX, iu_o _ _ _ m1, nu_n _ _ m5, iu_o _ _ _ m4, nu_n _ _ m4, y1 m m1 m2 m3]
  have x2 : ∀ k s, X (xK k) s = Y (xK k) s := fun k s => by
    rw [← hX, iu_o _ _ _ (by simp), nu_n _ _ (by simp), iu_o _ _ _ (by simp), nu_n _ _ (by simp)]
  have x3 : ∀ s, X (xP nc) s = if s = 0 then nI nc else 0 := fun s => by
    rw [← hX]; simp [iu_e, nu]
  have x4 : X xLR = Y xLR := by
    rw [← hX, iu_o _ _ _ (by simp), nu_n _ _ (by simp), iu_o _ _ _ (by simp), nu_n _ _ (by simp)]
  have x5 : X xLN 1 = 0 := by rw [← hX, iu_e, if_pos ⟨rfl, rfl⟩]
  have xX' : X xX = I xX := x1 _ (by simp) (by simp) (by simp) (by simp) (by simp)
  have g3 := hG.2.2.1
  have hzz : ∀ a b, zf_standing J0 np a b = zf_standing J np a b := fun a b => zst_cong a b np 0 _ (by omega) (fun t _ _ => ⟨by rw [o 19 (by omega) (by omega)], by rw [o 21 (by omega) (by omega)], by rw [o 20 (by omega) (by omega), o 7 (by omega) (by omega)]⟩)
  refine ⟨np, xst1 st nc np, li, xShM_init hsh hfr hW2 hc g3, ⟨?_, ?_, ?_, ?_, ?_⟩, ?_, ?_, ?_, ?_, ?_, ⟨?_, ?_, ?_⟩, ?_⟩
  · refine ⟨fun k hk => ?_, fun k h1 h2 => ?_⟩
    · obtain ⟨k1, k2, k3, k4, k5, k6⟩ := hK.1 k hk
      rw [x2, x2, x2, x2, y2, y2, y2, y2, if_pos hk, if_pos hk, if_pos hk, if_pos hk, o 2 (by omega) (by omega), o 3 (by omega) (by omega), o 4 (by omega) (by omega), om 0 (by omega), o5 k (by omega)]
      simp only [show ¬ (0 = 8) by omega, show ¬ (1 = 8) by omega, show ¬ (2 = 8) by omega, show ¬ (7 = 8) by omega, show ¬ (0 = 7) by omega, show ¬ (1 = 7) by omega, show ¬ (2 = 7) by omega, false_and, true_and, if_false]
      refine ⟨k1, k2, k3, k4, k5, ?_⟩
      rw [k5, k6]
      by_cases q : J (zA 4) k = 0
      · rw [if_pos q, if_neg (fun w => w q)]
      · rw [if_neg q, if_pos q]
    · rw [o5 k h2, hK.2 k h1 h2]; split <;> rfl
  · exact xIns_cong hI (by omega) (fun i => x1 _ (by simp) (by simp) (by simp) (by simp) (by simp)) (o _ (by omega) (by omega)) (o _ (by omega) (by omega)) (o _ (by omega) (by omega)) (o _ (by omega) (by omega)) (o _ (by omega) (by omega)) (o _ (by omega) (by omega)) (o _ (by omega) (by omega)) (o _ (by omega) (by omega))
  · have hG' := xLog_cong (J' := J0) hG (o _ (by omega) (by omega)) (o _ (by omega) (by omega)) (o _ (by omega) (by omega)) (o _ (by omega) (by omega)) (o _ (by omega) (by omega))
    obtain ⟨q1, q2, q3, q4, q5⟩ := hG'
    refine ⟨by rw [xst1_o st np (by omega)]; exact q1, fun q hq => ?_, xst1_n st nc np, q4, fun q hq t h1 h2 => ?_⟩
    · by_cases e : q = nc
      · subst e; rw [xst1_n, xst1_o st np (Nat.le_refl _)]; omega
      · rw [xst1_o st np (by omega), xst1_o st np (by omega)]; exact q2 q (by omega)
    · by_cases e : q = nc
      · subst e; rw [xst1_n] at h2; rw [xst1_o st np (Nat.le_refl _)] at h1; omega
      · rw [xst1_o st np (by omega)] at h1 h2; exact q5 q (by omega) t h1 h2
  · refine ⟨fun q hq => ?_, fun k hk q hq => ?_⟩
    · rw [hzz]
      by_cases e : q = nc
      · subst e
        rw [x3, x3, x3, xst1_n, xst1_o st np (Nat.le_refl _), g3, Nat.sub_self]
        refine ⟨rfl, rfl, ?_, fun j hj => by omega⟩
        have := zl_standing_no J (nI q) (-1) np 0 0 (by omega) (fun t _ ht => xLog_out hG (by omega) (by omega) (by omega) (by omega))
        exact this.symm
      · rw [x1 (xP q) (by simp) (by simp) (by simp) (by simp [e]) (by simp), xst1_o st np (by omega), xst1_o st np (by omega), o 21 (by omega) (by omega), o 22 (by omega) (by omega)]
        obtain ⟨p1, p2, p3, p4⟩ := hP.1 q (by omega)
        refine ⟨p1, p2, p3, fun j hj => ?_⟩
        rw [x1 (xQ q j) (by simp) (by simp) (by simp) (by simp) (by simp)]
        exact p4 j hj
    · rw [hzz, x1 (xSO k) (by simp) (by simp) (by simp) (by simp) (by simp)]
      exact hP.2 k hk q hq
  · exact xMrk_cong hM (by omega) (fun i => x1 _ (by simp) (by simp) (by simp) (by simp) (by simp)) (fun i => x1 _ (by simp) (by simp) (by simp) (by simp) (by simp)) (fun i => x1 _ (by simp) (by simp) (by simp) (by simp) (by simp)) (o _ (by omega) (by omega)) (o _ (by omega) (by omega)) (o _ (by omega) (by omega))
  · unfold xMN
    rw [xX', om 0 (by omega), om 1 (by omega), om 6 (by omega), om 13 (by omega), om 17 (by omega), om 18 (by omega), om 23 (by omega)]
    exact ⟨e0, e0', e1, e2, e3, e4, e5, e6, e8, e9, e10, e12, by rw [← hJ0, iu_e, if_pos ⟨rfl, rfl⟩]; rfl⟩
  · rw [xst1_o st np (Nat.le_refl _)]; exact g3
  · rw [xst1_o st np (Nat.le_refl _)]; omega
  · intro k hk
    rw [x2, y2, if_pos hk, if_pos rfl, o27 k (by omega)]
    exact ⟨rfl, .inl rfl⟩
  · intro t i ht; omega
  · exact x5
  · intro t i ht; simp [xhW] at ht
  · intro t i _ hi; rw [x4]; exact y4 t i hi
  · exact ⟨fun _ _ => rfl, rfl, rfl, rfl, rfl⟩
/-- at its end -/
theorem xMid_fin {S S2 : nh_N → Option nh_C} {g g2 : nh_N → Nat} {I J J0 P3 P4 : nh_N → Nat → Int32} {R R2 : nh_N → Nat → Option nh_N} {nk ni nm nc np0 nb : Nat} {kd : Nat → Nat} (hr : zRdy J ni nc np0 nb) (hm : nm ≤ 300) (hz : zSh S2 R2) (h8 : J0 (zA 8) = J (zA 8)) (h9 : J0 (zA 9) = J (zA 9)) (h11 : J0 (zA 11) = J (zA 11)) (h : xMid nk ni nm nc np0 nb kd (zW J nb ni nc) J0 (zW J nb ni nc).length S I R P3) (hP4 : P4 = zl_cl4 (zW J nb ni nc).length 0 (iu P3 zM 23 (P3 zM 25))) : I (xP nc) 2 = P4 zM 18 - nI np0 ∧ xSim (nc + 1) S g (iu I xX 8 (nI nc + 1)) (ru R xPA nc (some (xP nc))) S2 g2 (iu P4 zM 17 (P4 zM 17 + 1)) R2 := by
  obtain ⟨w1, w2, w3⟩ := zRdy_W hr h8 h11
  obtain ⟨a1, a2, a3, a4, a5, a6, a7, a8, a9, a10, a11, a12, o1, o2, o3⟩ := hr
  obtain ⟨np, st, li, ⟨pl, hsh, hpl, hfr, -⟩, hC, hMN, n4, n5, n6, n7, ⟨l1, l2, -⟩, u1, u2, u3, u4, u5⟩ := h
  obtain ⟨m1, m2, m3, m4, m5, m6, m7, m8, m9, m10, m11, m12, m13⟩ := hMN
  obtain ⟨c1, c2⟩ := cl4_eq (zW J nb ni nc).length 0 (iu P3 zM 23 (P3 zM 25)) (by omega)
  rw [← hP4] at c1 c2
  have pm : ∀ s, s ≠ 23 → P4 zM s = P3 zM s := fun s hs => by rw [c2 _ (by simp), iu_e, if_neg (fun w => hs w.2)]
  have p23 : P4 zM 23 = nI (zW J nb ni nc).length := by rw [c2 _ (by simp), iu_e, if_pos ⟨rfl, rfl⟩, m13]
  have po : ∀ s, s ≠ 24 → P4 (zA s) = P3 (zA s) := fun s hs => by rw [c2 _ (by simp [hs]), iu_o _ _ _ (by simp)]
  have p24 : ∀ t i, (zW J nb ni nc)[t]? = some i → P4 (zA 24) t = nI i := fun t i ht => by
    have hl := (List.getElem?_eq_some_iff.mp ht).1
    rw [c1, if_pos (by omega), iu_o _ _ _ (by simp)]
    exact n7 t i hl ht
  have hG := hC.2.2.1
  have hst : st nc ≤ np := by rw [← hG.2.2.1]; exact (hG.2.1 nc (by omega)).1
  have p2 := (hC.2.2.2.1.1 nc (by omega)).2.1
  rw [hG.2.2.1] at p2
  refine ⟨by rw [p2, pm 18 (by omega), m11, pk_sub (by omega), n4], ?_⟩
  generalize hI' : iu I xX 8 (nI nc + 1) = I'
  generalize hJ' : iu P4 zM 17 (P4 zM 17 + 1) = J'
  have io : ∀ m, m ≠ xX → I' m = I m := fun m hm => by rw [← hI', iu_o _ _ _ hm]
  have jo : ∀ s, s ≠ 24 → J' (zA s) = P3 (zA s) := fun s hs => by rw [← hJ', iu_o _ _ _ (by simp), po s hs]
  have j24 : J' (zA 24) = P4 (zA 24) := by rw [← hJ', iu_o _ _ _ (by simp)]
  have jm : ∀ s, s ≠ 17 → s ≠ 23 → J' zM s = P3 zM s := fun s s1 s2 => by rw [← hJ', iu_e, if_neg (fun w => s1 w.2), pm s s2]
  have j17 : J' zM 17 = nI (nc + 1) := by rw [← hJ', iu_e, if_pos ⟨rfl, rfl⟩, pm 17 (by omega), m10, nI_1]
  have j23 : J' zM 23 = nI (zW J nb ni nc).length := by rw [← hJ', iu_e, if_neg (by omega), p23]
  have ix : ∀ s, s ≠ 8 → I' xX s = I xX s := fun s hs => by rw [← hI', iu_e, if_neg (fun w => hs w.2)]
  have ix8 : I' xX 8 = nI (nc + 1) := by rw [← hI', iu_e, if_pos ⟨rfl, rfl⟩, nI_1]
  obtain ⟨hK, hI, -, hP, hM⟩ := hC
  have hWt : (zW J nb ni nc).take (zW J nb ni nc).length = zW J nb ni nc := List.take_length
  have hzh : zhl J' (zW J nb ni nc).length = xhW P3 (zW J nb ni nc) (zW J nb ni nc).length := by
    unfold xhW
    rw [hWt]
    have key : ∀ (V : List Nat) (N : Nat), N ≤ 200 → V.length = N → (∀ t i, V[t]? = some i → J' (zA 24) t = nI i) → (∀ i, i ∈ V → i < 200 ∧ J' (zA 11) i = 0) → zhl J' N = V.filter (fun i => decide (¬ P3 (zA 8) i ≤ 0)) := by
      intro V N hN hV h1 h2
      have : ∀ n, n ≤ N → zhl J' n = (V.take n).filter (fun i => decide (¬ P3 (zA 8) i ≤ 0)) := by
        intro n
        induction n with
        | zero => intro _; rfl
        | succ n ih =>
          intro hn
          obtain ⟨i, hi⟩ : ∃ i, V[n]? = some i := ⟨_, List.getElem?_eq_getElem (by omega)⟩
          obtain ⟨q1, q2⟩ := h2 i (List.mem_of_getElem? hi)
          rw [zhl_succ, ih (by omega), take_nx hi, List.filter_append, h1 n i hi, nI_clamp (by omega), q2, jo 8 (by omega)]
          congr 1
          by_cases q : P3 (zA 8) i ≤ 0
          · rw [if_neg (fun w => w.2 q), List.filter_cons_of_neg (by simpa using q)]; rfl
          · rw [if_pos ⟨rfl, q⟩, List.filter_cons_of_pos (by simpa using q)]; rfl
      rw [this N (Nat.le_refl _), ← hV, List.take_length]
    exact key _ _ w2 rfl (fun t i ht => by rw [j24]; exact p24 t i ht) (fun i hi => ⟨by have := (w3 i hi).1; omega, by rw [jo 11 (by omega), u4]; exact (w3 i hi).2.1⟩)
  refine ⟨nk, ni, nm, np, (zW J nb ni nc).length, kd, pl, st, li, hsh, hfr, hz, ?_, ?_, ?_, ?_, ?_, ?_, ?_, ?_⟩
  · unfold xNum
    rw [ix 0 (by omega), ix 5 (by omega), ix 6 (by omega), ix 7 (by omega), ix8, jm 0 (by omega) (by omega), jm 1 (by omega) (by omega), jm 6 (by omega) (by omega), jm 13 (by omega) (by omega), jm 18 (by omega) (by omega), j17, j23]
    exact ⟨m1, m2, m3, m4, m5, m6, m7, m8, hm, rfl, rfl, m11, by omega, rfl, w2⟩
  · exact xKin_cong hK (fun k => io _ (by simp)) (jm 0 (by omega) (by omega)) (jo _ (by omega)) (jo _ (by omega)) (jo _ (by omega)) (jo _ (by omega))
  · exact xIns_cong hI (by omega) (fun k => io _ (by simp)) (jo _ (by omega)) (jo _ (by omega)) (jo _ (by omega)) (jo _ (by omega)) (jo _ (by omega)) (jo _ (by omega)) (jo _ (by omega)) (jo _ (by omega))
  · exact xLog_cong hG (jo _ (by omega)) (jo _ (by omega)) (jo _ (by omega)) (jo _ (by omega)) (jo _ (by omega))
  · exact xPag_cong hP (by omega) (fun k => io _ (by simp)) (fun k j => io _ (by simp)) (fun k => io _ (by simp)) (jo _ (by omega)) (jo _ (by omega)) (jo _ (by omega)) (jo _ (by omega)) (jo _ (by omega))
  · exact xMrk_cong hM (by omega) (fun k => io _ (by simp)) (fun k => io _ (by simp)) (fun k => io _ (by simp)) (jo _ (by omega)) (jo _ (by omega)) (jo _ (by omega))
  · refine ⟨fun q hq => ?_, fun q q' hq hq' e => ?_, fun i t h1 h2 h3 h4 h5 => ?_⟩
    · obtain ⟨i, hi⟩ : ∃ i, (zW J nb ni nc)[q]? = some i := ⟨_, List.getElem?_eq_getElem hq⟩
      have him := List.mem_of_getElem? hi
      refine ⟨i, (w3 i him).1, by rw [j24]; exact p24 q i hi, ?_⟩
      rw [jo 9 (by omega), u3, h9]
      rcases List.mem_append.mp him with w | w
      · obtain ⟨z, z1, z2, -⟩ := zhl_mem.mp w
        obtain ⟨i', i1, i2, s, s1, s2⟩ := o1 z z1
        rw [i2, nI_clamp (by omega)] at z2
        subst z2
        exact ⟨s, by omega, s2⟩
      · exact ⟨nc, by omega, (zB_mem.mp w).2.1⟩
    · obtain ⟨i, hi⟩ : ∃ i, (zW J nb ni nc)[q]? = some i := ⟨_, List.getElem?_eq_getElem hq⟩
      obtain ⟨i', hi'⟩ : ∃ i, (zW J nb ni nc)[q']? = some i := ⟨_, List.getElem?_eq_getElem hq'⟩
      have b1 := (w3 i (List.mem_of_getElem? hi)).1
      have b2 := (w3 i' (List.mem_of_getElem? hi')).1
      rw [j24, p24 q i hi, p24 q' i' hi', nI_eq (by omega) (by omega)] at e
      subst e
      obtain ⟨r1, r2⟩ := List.getElem?_eq_some_iff.mp hi
      obtain ⟨r3, r4⟩ := List.getElem?_eq_some_iff.mp hi'
      exact (List.getElem_inj w1).mp (r2.trans r4.symm)
    · rw [jo 9 (by omega), u3, h9] at h2
      rw [jo 11 (by omega), u4, h11] at h4
      rw [jo 8 (by omega)] at h5
      have hmem : i ∈ zW J nb ni nc := by
        by_cases hm' : i ∈ zW J nb ni nc
        · exact hm'
        · rw [u1 i (by rw [hWt]; exact hm'), h8] at h5
          by_cases e : t = nc
          · subst e
            exact List.mem_append_right _ (zB_mem.mpr ⟨h1, h2, h5⟩)
          · obtain ⟨z, z1, z2⟩ := o3 i t h1 h2 (by omega) h4 h5
            exact List.mem_append_left _ (zhl_mem.mpr ⟨z, z1, by rw [z2, nI_clamp (by omega)], h4, h5⟩)
      obtain ⟨q, hq⟩ := List.mem_iff_getElem?.mp hmem
      exact ⟨q, (List.getElem?_eq_some_iff.mp hq).1, by rw [j24]; exact p24 q i hq⟩
  · unfold xLin
    rw [hzh, io _ (by simp), io _ (by simp)]
    exact ⟨l1, l2⟩
