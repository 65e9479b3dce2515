/-! PURE: one insert is gone through -/
theorem free32 (A B : Int32) : (if 0 < (if A < B then A else B) then (if A < B then A else B) else 0) = (if A ≤ B then (if 0 ≤ A then A else 0) else (if 0 ≤ B then B else 0)) := by
  apply Int32.toInt_inj.mp
  simp only [Int32.lt_iff_toInt_lt, Int32.le_iff_toInt_le, Int32.toInt_zero]
  by_cases h1 : A.toInt < B.toInt
  · rw [if_pos h1, if_pos (show A.toInt ≤ B.toInt by omega)]
    by_cases h2 : 0 < A.toInt
    · rw [if_pos h2, if_pos (by omega)]
    · rw [if_neg h2]
      by_cases h3 : 0 ≤ A.toInt
      · rw [if_pos h3, Int32.toInt_zero]; omega
      · rw [if_neg h3]
  · rw [if_neg h1]
    by_cases h4 : A.toInt ≤ B.toInt
    · rw [if_pos h4]
      have : A.toInt = B.toInt := by omega
      by_cases h2 : 0 < B.toInt
      · rw [if_pos h2, if_pos (by omega)]; omega
      · rw [if_neg h2]
        by_cases h3 : 0 ≤ A.toInt
        · rw [if_pos h3, Int32.toInt_zero]; omega
        · rw [if_neg h3]
    · rw [if_neg h4]
      by_cases h2 : 0 < B.toInt
      · rw [if_pos h2, if_pos (by omega)]
      · rw [if_neg h2]
        by_cases h3 : 0 ≤ B.toInt
        · rw [if_pos h3, Int32.toInt_zero]; omega
        · rw [if_neg h3]
theorem free32' {A B : Int32} (h : A.toInt ≤ B.toInt) : (if 0 < (if A < B then A else B) then (if A < B then A else B) else 0) = (if 0 ≤ A then A else 0) := by
  rw [free32, if_pos (Int32.le_iff_toInt_le.mpr h)]
theorem clip32 {A : Int32} {n : Nat} (h : A.toInt ≤ n) : ∃ f : Nat, f ≤ n ∧ (if 0 ≤ A then A else 0) = nI f := by
  by_cases h0 : 0 ≤ A
  · rw [if_pos h0]
    obtain ⟨f, hf, rfl⟩ := nI_of (nle_lt.mp h0)
    rw [nI_toInt hf] at h
    exact ⟨f, by omega, rfl⟩
  · rw [if_neg h0]; exact ⟨0, by omega, rfl⟩
/-- the reference's free room of sort k on the page that is closed -/
def zfree (J : nh_N → Nat → Int32) (np nc k : Nat) : Int32 := if J (zA 2) k < 0 then (if 0 ≤ J zM 0 - zf_standing J np (nI nc) (-1) then J zM 0 - zf_standing J np (nI nc) (-1) else 0) else (if J zM 0 - zf_standing J np (nI nc) (-1) ≤ J (zA 2) k - zf_standing J np (nI nc) (nI k) then (if 0 ≤ J zM 0 - zf_standing J np (nI nc) (-1) then J zM 0 - zf_standing J np (nI nc) (-1) else 0) else (if 0 ≤ J (zA 2) k - zf_standing J np (nI nc) (nI k) then J (zA 2) k - zf_standing J np (nI nc) (nI k) else 0))
theorem free_eq {I J : nh_N → Nat → Int32} {nk ni nm nc np k : Nat} {kd st li : Nat → Nat} (h : xCor I J nk ni nm nc np kd st li) (hk : k < nk) (hc4 : nc < 40) (hn9 : np ≤ 9000) (e0 : I xX 0 = J zM 0) (e0' : ∃ pr, J zM 0 = nI pr ∧ 1 ≤ pr ∧ pr ≤ 30000) : ∃ f, f ≤ 30000 ∧ xf_freeOn I nc k = nI f ∧ zfree J np nc k = nI f := by
  obtain ⟨hK, hI, hG, hP, hM⟩ := h
  obtain ⟨pr, p1, p2, p3⟩ := e0'
  obtain ⟨u, v, h1, h2, h3, h4⟩ := zst_nat (J := J) (nI nc) (nI k) np hn9 (fun t ht => (hG.2.2.2.1 t ht).2.2.2.1)
  obtain ⟨q1, q2, q3, -⟩ := hP.1 nc (by omega)
  have q4 := hP.2 k hk nc (by omega)
  obtain ⟨k1, k2, -⟩ := hK.1 k hk
  unfold xf_freeOn zfree
  have s1 : zf_standing J np (nI nc) (-1) = nI v := h4
  have s2 : zf_standing J np (nI nc) (nI k) = nI u := h3
  rw [e0, q1, nI_clamp (n := nc) (by omega), q3, q4, k2, p1, s1, s2]
  have tA : (nI pr - nI v).toInt = (pr : Int) - v := pk_sub_toInt (by omega) (by omega)
  rcases k1 with w | ⟨r, hr, w⟩
  · rw [w, if_pos rfl, if_pos (show (-1 : Int32) < 0 by decide)]
    have tB : (nI pr - nI u).toInt = (pr : Int) - u := pk_sub_toInt (by omega) (by omega)
    rw [free32' (by rw [tA, tB]; omega)]
    obtain ⟨f, f1, f2⟩ := clip32 (A := nI pr - nI v) (n := 30000) (by rw [tA]; omega)
    exact ⟨f, f1, f2, f2⟩
  · have tB : (nI r - nI u).toInt = (r : Int) - u := pk_sub_toInt (by omega) (by omega)
    rw [w, if_neg (nI_nm1 (by omega)), if_neg (nI_pos (by omega)), free32]
    by_cases c : nI pr - nI v ≤ nI r - nI u
    · simp only [if_pos c]
      obtain ⟨f, f1, f2⟩ := clip32 (A := nI pr - nI v) (n := 30000) (by rw [tA]; omega)
      exact ⟨f, f1, f2, f2⟩
    · simp only [if_neg c]
      obtain ⟨f, f1, f2⟩ := clip32 (A := nI r - nI u) (n := 30000) (by rw [tB]; omega)
      exact ⟨f, f1, f2, f2⟩
/-- go, in short -/
def zJ2 (J : nh_N → Nat → Int32) (j i : Nat) : nh_N → Nat → Int32 := iu (iu J (zA 26) j (nI i)) zM 25 (nI (j + 1))
theorem zf_go_eq (J : nh_N → Nat → Int32) {np nc i k j : Nat} (hi : i < 200) (hk : k < 8) (hj : j < 200) (e7 : J (zA 7) i = nI k) (e17 : J zM 17 = nI nc) (e25 : J zM 25 = nI j) : (zf_go J np (nI i)).2 = if J (zA 27) k = 0 then (zf_go2 (zJ2 J j i) (nI i) (nI k) (zf_standing (zJ2 J j i) np (nI nc) (-1)) (zfree (zJ2 J j i) np nc k)).2 else zJ2 J j i := by
  have c1 : (nI i).toNatClampNeg = i := nI_clamp (by omega)
  have c2 : (nI k).toNatClampNeg = k := nI_clamp (by omega)
  have c3 : (nI j).toNatClampNeg = j := nI_clamp (by omega)
  unfold zf_go
  rw [c1, e25, c3, e17, nI_1]
  rw [show iu (iu J (zA 26) j (nI i)) zM 25 (nI (j + 1)) = zJ2 J j i from rfl]
  have d7 : zJ2 J j i (zA 7) i = nI k := by simp [zJ2, iu_e, e7]
  have d27 : zJ2 J j i (zA 27) k = J (zA 27) k := by simp [zJ2, iu_e]
  have d0 : J zM 0 = zJ2 J j i zM 0 := by simp [zJ2, iu_e]
  rw [d7, c2, d27, d0]
  by_cases h : J (zA 27) k = 0
  · rw [if_pos h, if_pos h]
    unfold zfree
    generalize zJ2 J j i zM 0 - zf_standing (zJ2 J j i) np (nI nc) (-1) = A
    generalize zJ2 J j i (zA 2) k - zf_standing (zJ2 J j i) np (nI nc) (nI k) = B
    by_cases h1 : zJ2 J j i (zA 2) k < 0
    · rw [if_pos h1, if_pos h1]
      by_cases h2 : 0 ≤ A
      · rw [if_pos h2, if_pos h2]
      · rw [if_neg h2, if_neg h2]
    · rw [if_neg h1, if_neg h1]
      by_cases h3 : A ≤ B
      · rw [if_pos h3, if_pos h3]
        by_cases h2 : 0 ≤ A
        · rw [if_pos h2, if_pos h2]
        · rw [if_neg h2, if_neg h2]
      · rw [if_neg h3, if_neg h3]
        by_cases h2 : 0 ≤ B
        · rw [if_pos h2, if_pos h2]
        · rw [if_neg h2, if_neg h2]
  · rw [if_neg h, if_neg h]
theorem xCor_cong {I I' J J' : nh_N → Nat → Int32} {nk ni nm nc np : Nat} {kd st li : Nat → Nat} (h : xCor I J nk ni nm nc np kd st li) (hp : np ≤ 9000) (hm : nm ≤ 300) (hI : ∀ m, m ≠ xLN → m ≠ xLR → (∀ k, m ≠ xK k) → I' m = I m) (hK : ∀ k s, s ≠ 8 → I' (xK k) s = I (xK k) s) (h0 : J' zM 0 = J zM 0) (hJ : ∀ s, s ≠ 26 → s ≠ 27 → J' (zA s) = J (zA s)) : xCor I' J' nk ni nm nc np kd st li := by
  obtain ⟨h1, h2, h3, h4, h5⟩ := h
  refine ⟨?_, ?_, ?_, ?_, ?_⟩
  · unfold xKin at h1 ⊢
    simp only [hK _ 0 (by omega), hK _ 1 (by omega), hK _ 2 (by omega), hK _ 7 (by omega), h0, hJ 2 (by omega) (by omega), hJ 3 (by omega) (by omega), hJ 4 (by omega) (by omega), hJ 5 (by omega) (by omega)]
    exact h1
  · exact xIns_cong h2 (by omega) (fun i => hI _ (by simp) (by simp) (by simp)) (hJ _ (by omega) (by omega)) (hJ _ (by omega) (by omega)) (hJ _ (by omega) (by omega)) (hJ _ (by omega) (by omega)) (hJ _ (by omega) (by omega)) (hJ _ (by omega) (by omega)) (hJ _ (by omega) (by omega)) (hJ _ (by omega) (by omega))
  · exact xLog_cong h3 (hJ _ (by omega) (by omega)) (hJ _ (by omega) (by omega)) (hJ _ (by omega) (by omega)) (hJ _ (by omega) (by omega)) (hJ _ (by omega) (by omega))
  · exact xPag_cong h4 (by omega) (fun i => hI _ (by simp) (by simp) (by simp)) (fun i j => hI _ (by simp) (by simp) (by simp)) (fun i => hI _ (by simp) (by simp) (by simp)) (hJ _ (by omega) (by omega)) (hJ _ (by omega) (by omega)) (hJ _ (by omega) (by omega)) (hJ _ (by omega) (by omega)) (hJ _ (by omega) (by omega))
  · exact xMrk_cong h5 (by omega) (fun i => hI _ (by simp) (by simp) (by simp)) (fun i => hI _ (by simp) (by simp) (by simp)) (fun i => hI _ (by simp) (by simp) (by simp)) (hJ _ (by omega) (by omega)) (hJ _ (by omega) (by omega)) (hJ _ (by omega) (by omega))
/-- the shape while page nc is being closed -/
def xShM (S : nh_N → Option nh_C) (R : nh_N → Nat → Option nh_N) (nk ni nc np N : Nat) (kd st li : Nat → Nat) : Prop := ∃ pl : Nat → Nat, xSh S (ru R xPA nc (some (xP nc))) nk ni (nc + 1) kd pl (xPn st) (xOw st li) ∧ pl nc = N ∧ xFr S nk ni (nc + 1) ∧ ∀ t, np - st nc ≤ t → S (xQ nc t) = none
theorem xst'_o (st : Nat → Nat) {nc : Nat} (np : Nat) {q : Nat} (h : q ≤ nc) : xst' st nc np q = st q := if_neg (by omega)
theorem xst'_n (st : Nat → Nat) (nc np : Nat) : xst' st nc np (nc + 1) = np + 1 := if_pos rfl
theorem xli'_o (li : Nat → Nat) {np : Nat} (i : Nat) {t : Nat} (h : t ≠ np) : xli' li np i t = li t := if_neg h
theorem xli'_n (li : Nat → Nat) (np i : Nat) : xli' li np i np = i := if_pos rfl
theorem xShM_place {S : nh_N → Option nh_C} {R : nh_N → Nat → Option nh_N} {J : nh_N → Nat → Int32} {nk ni nc np N i : Nat} {kd st li : Nat → Nat} (h : xShM S R nk ni nc np N kd st li) (hG : xLog J ni (nc + 1) np st li) (hi : i < ni) (hN : np - st nc < N) : xShM (nu S (xQ nc (np - st nc)) (some (0, 4))) (xR_place R nc (np - st nc) i) nk ni nc (np + 1) N kd (xst' st nc np) (xli' li np i) := by
  obtain ⟨pl, ⟨h1, h2, h3, h4, h5, h6, h7, h8, h9, h10⟩, hpl, hfr, hq⟩ := h
  have g3 := hG.2.2.1
  have hst : st nc ≤ np := by rw [← g3]; exact (hG.2.1 nc (by omega)).1
  refine ⟨pl, ⟨?_, ?_, ?_, ?_, ?_, ?_, ?_, h8, h9, h10⟩, hpl, ?_, ?_⟩
  · simpa [xXs, xLs, xR_place, nu, ru_e] using h1
  · intro j hj
    have := h2 j hj
    simpa [xR_place, nu, ru_e] using this
  · intro k hk
    have := h3 k hk
    simpa [xKs, xR_place, nu, ru_e] using this
  · intro j hj
    have := h4 j hj
    simpa [xR_place, nu, ru_e] using this
  · intro i hi
    have := h5 i hi
    simpa [xNs, xR_place, nu, ru_e] using this
  · intro j hj
    have := h6 j hj
    simpa [xR_place, nu, ru_e] using this
  · intro q hq'
    obtain ⟨w1, w2, w3, w4⟩ := h7 q hq'
    refine ⟨by simpa [xPs, xR_place, nu, ru_e] using w1, ?_, w3, fun j hj => ?_⟩
    · unfold xPn at w2 ⊢
      by_cases e : q = nc
      · subst e; rw [xst'_n, xst'_o st np (Nat.le_refl _), hpl]; omega
      · rw [xst'_o st np (by omega), xst'_o st np (by omega)]; exact w2
    · by_cases e : q = nc ∧ j = np - st nc
      · obtain ⟨rfl, rfl⟩ := e
        refine ⟨by simp [xR_place, nu, ru_e], by simp [nu], ?_, ?_⟩
        · have : xOw (xst' st q np) (xli' li np i) q (np - st q) = i := by
            unfold xOw
            rw [xst'_o st np (Nat.le_refl _), show st q + (np - st q) = np by omega, xli'_n]
          rw [this]; simp [xR_place, nu, ru_e]
        · have : xOw (xst' st q np) (xli' li np i) q (np - st q) = i := by
            unfold xOw
            rw [xst'_o st np (Nat.le_refl _), show st q + (np - st q) = np by omega, xli'_n]
          rw [this]; exact hi
      · have hj' : j < xPn st q := by
          unfold xPn at hj ⊢
          by_cases e2 : q = nc
          · subst e2
            rw [xst'_n, xst'_o st np (Nat.le_refl _)] at hj
            rw [g3]
            have : j ≠ np - st q := fun w => e ⟨rfl, w⟩
            omega
          · rw [xst'_o st np (by omega), xst'_o st np (by omega)] at hj; exact hj
        obtain ⟨y1, y2, y3, y4⟩ := w4 j hj'
        have hlt : st q + j < np := by
          have hm := xLog_mono hG (q + 1) (nc + 1) (by omega) (by omega)
          rw [g3] at hm
          unfold xPn at hj'
          omega
        have ho : xOw (xst' st nc np) (xli' li np i) q j = xOw st li q j := by
          unfold xOw
          rw [xst'_o st np (by omega), xli'_o li i (by omega)]
        rw [ho]
        refine ⟨?_, ?_, ?_, y4⟩
        · simpa [xR_place, ru_e, nu, e] using y1
        · simpa [nu, e] using y2
        · simpa [xR_place, ru_e, nu, e] using y3
  · obtain ⟨f1, f2, f3⟩ := hfr
    refine ⟨fun k hk => ?_, fun i hi => ?_, fun q hq => ?_⟩
    · simpa [nu] using f1 k hk
    · simpa [nu] using f2 i hi
    · have := f3 q hq
      refine ⟨by simpa [nu] using this.1, by simpa [nu] using this.2.1, fun j => ?_⟩
      simpa [nu, show q ≠ nc by omega] using this.2.2 j
  · intro t ht
    rw [xst'_o st np (Nat.le_refl _)] at ht
    have := hq t (by omega)
    simpa [nu, show t ≠ np - st nc by omega] using this
