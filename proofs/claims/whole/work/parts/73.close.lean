/-! PURE: the class's close -/
theorem lu_snoc (a : Int32) : ∀ (t j : Nat) (J : nh_N → Nat → Int32), xl_lu a (t + 1) j J = xs_lu a (j + t) (xl_lu a t j J) := by
  intro t
  induction t with
  | zero => intro j J; rfl
  | succ t ih => intro j J; rw [xl_lu, ih (j + 1), xl_lu, show j + 1 + t = j + (t + 1) by omega]
theorem sps_eq (j : Nat) (J : nh_N → Nat → Int32) (k s : Nat) : xs_sp j J (xK k) s = if k = j then (if s = 8 then 0 else if s = 7 ∧ ¬ J (xK k) 2 = 0 then 0 else J (xK k) s) else J (xK k) s := by
  unfold xs_sp xf_startPage
  by_cases h : J (xK j) 2 = 0
  · rw [if_pos h]
    dsimp only
    rw [iu_e]
    by_cases q : k = j
    · subst q
      rw [if_pos rfl]
      by_cases q8 : s = 8
      · subst q8; simp
      · simp [q8, h]
    · rw [if_neg (fun w => q (by simpa using w.1)), if_neg q]
  · rw [if_neg h]
    dsimp only
    rw [iu_e, iu_e]
    by_cases q : k = j
    · subst q
      rw [if_pos rfl]
      by_cases q8 : s = 8
      · subst q8; simp
      · simp [q8, h]
    · rw [if_neg (fun w => q (by simpa using w.1)), if_neg (fun w => q (by simpa using w.1)), if_neg q]
theorem sp_eq : ∀ (r j : Nat) (J : nh_N → Nat → Int32) (k s : Nat), xl_sp r j J (xK k) s = if j ≤ k ∧ k < j + r then (if s = 8 then 0 else if s = 7 ∧ ¬ J (xK k) 2 = 0 then 0 else J (xK k) s) else J (xK k) s := by
  intro r
  induction r with
  | zero => intro j J k s; rw [if_neg (by omega)]; rfl
  | succ r ih =>
    intro j J k s
    rw [xl_sp, ih]
    have e2 := sps_eq j J k 2
    have es := sps_eq j J k s
    generalize xs_sp j J = X at e2 es ⊢
    by_cases c1 : j + 1 ≤ k ∧ k < j + 1 + r
    · rw [if_neg (by omega)] at e2 es
      rw [if_pos c1, e2, es, if_pos (show j ≤ k ∧ k < j + (r + 1) by omega)]
    · rw [if_neg c1, es]
      by_cases q : k = j
      · rw [if_pos q, if_pos (show j ≤ k ∧ k < j + (r + 1) by omega)]
      · rw [if_neg q, if_neg (show ¬ (j ≤ k ∧ k < j + (r + 1)) by omega)]
theorem lu_eq {I J : nh_N → Nat → Int32} {ni nc : Nat} {A : List Nat} (hi2 : ni ≤ 200) (h2 : ∀ i, i < ni → I (xN i) 2 = J (zA 9) i) (h3 : ∀ i, i < ni → I (xN i) 3 = J (zA 8) i) (hl : (A ++ zB J nc ni).length ≤ 200) (hA1 : I xLN 1 = nI A.length) (hA2 : ∀ s i, A[s]? = some i → I xLR s = nI i) : ∀ t, t ≤ ni → xl_lu (nI nc) t 0 I xLN 1 = nI (A ++ zB J nc t).length ∧ ∀ s i, (A ++ zB J nc t)[s]? = some i → xl_lu (nI nc) t 0 I xLR s = nI i := by
  intro t
  induction t with
  | zero => intro _; rw [show zB J nc 0 = [] from rfl, List.append_nil]; exact ⟨hA1, hA2⟩
  | succ t ih =>
    intro ht
    obtain ⟨e1, e2⟩ := ih (by omega)
    have x2 := (xlu_o (a := nI nc) t 0 I (xN t) 2 (by simp) (by simp)).trans (h2 t (by omega))
    have x3 := (xlu_o (a := nI nc) t 0 I (xN t) 3 (by simp) (by simp)).trans (h3 t (by omega))
    rw [lu_snoc, Nat.zero_add, zB_succ]
    generalize xl_lu (nI nc) t 0 I = X at *
    unfold xs_lu
    rw [x2, x3]
    by_cases c1 : J (zA 9) t = nI nc
    · rw [if_pos c1]
      by_cases c2 : J (zA 8) t ≤ 0
      · rw [if_pos c2, if_neg (fun w => w.2 c2), List.append_nil]; exact ⟨e1, e2⟩
      · rw [if_neg c2, if_pos ⟨c1, c2⟩, ← List.append_assoc]
        have hlen : (A ++ zB J nc t).length < 200 := by
          obtain ⟨M, hM⟩ := zB_pre J nc ni (t + 1) ht
          rw [hM, zB_succ, if_pos ⟨c1, c2⟩] at hl
          simp only [List.length_append, List.length_cons, List.length_nil] at hl ⊢
          omega
        unfold xf_append
        rw [e1, if_neg (nI_ge hlen (by omega)), nI_clamp (by omega), nI_1]
        dsimp only
        refine ⟨by rw [iu_e, if_pos ⟨rfl, rfl⟩, List.length_append (bs := [t])]; rfl, fun s i hs => ?_⟩
        rw [iu_o _ _ _ (show xLR ≠ xLN by simp), iu_e]
        by_cases q : s = (A ++ zB J nc t).length
        · subst q
          rw [List.getElem?_append_right (Nat.le_refl _), Nat.sub_self] at hs
          rw [if_pos ⟨rfl, rfl⟩]
          have : t = i := by simpa using hs
          rw [this]
        · rw [if_neg (fun w => q w.2)]
          have : s < (A ++ zB J nc t).length := by
            have := (List.getElem?_eq_some_iff.mp hs).1
            rw [List.length_append (bs := [t])] at this
            simp only [List.length_cons, List.length_nil] at this; omega
          rw [List.getElem?_append_left this] at hs
          exact e2 s i hs
    · rw [if_neg c1, if_neg (fun w => c1 w.1), List.append_nil]; exact ⟨e1, e2⟩
def xst1 (st : Nat → Nat) (nc np : Nat) : Nat → Nat := fun q => if q = nc + 1 then np else st q
theorem xst1_o (st : Nat → Nat) {nc : Nat} (np : Nat) {q : Nat} (h : q ≤ nc) : xst1 st nc np q = st q := if_neg (by omega)
theorem xst1_n (st : Nat → Nat) (nc np : Nat) : xst1 st nc np (nc + 1) = np := if_pos rfl
theorem xShM_init {S : nh_N → Option nh_C} {R : nh_N → Nat → Option nh_N} {nk ni nc np N : Nat} {kd pl st li : Nat → Nat} (h : xSh S R nk ni nc kd pl (xPn st) (xOw st li)) (hfr : xFr S nk ni nc) (hN : N ≤ 200) (hc : nc < 40) (hst : st nc = np) : xShM (xcS S nc N) (xcR R nc) nk ni nc np N kd (xst1 st nc np) li := by
  obtain ⟨h1, h2, h3, h4, h5, h6, h7, h8, h9, h10⟩ := h
  refine ⟨fun q => if q = nc then N else pl q, ⟨?_, ?_, ?_, ?_, ?_, ?_, ?_, h8, h9, by omega⟩, if_pos rfl, ?_, ?_⟩
  · simpa [xXs, xLs, xcS, xcR, nu, ru_e] using h1
  · intro j hj
    have := h2 j hj
    simpa [xcR, nu, ru_e] using this
  · intro k hk
    have := h3 k hk
    simpa [xKs, xcS, xcR, nu, ru_e] using this
  · intro j hj
    have := h4 j hj
    simpa [xcR, nu, ru_e] using this
  · intro i hi
    have := h5 i hi
    simpa [xNs, xcS, xcR, nu, ru_e] using this
  · intro j hj
    have := h6 j hj
    by_cases e : j = nc
    · subst e; simp [ru_e]
    · simp only [ru_e, e, and_false, if_false]
      rw [show (if j < nc + 1 then some (xP j) else none) = (if j < nc then some (xP j) else none) by
        by_cases q : j < nc
        · rw [if_pos q, if_pos (by omega)]
        · rw [if_neg q, if_neg (by omega)]]
      simpa [xcR, nu, ru_e] using this
  · intro q hq
    by_cases e : q = nc
    · subst e
      have hz : xPn (xst1 st q np) q = 0 := by unfold xPn; rw [xst1_n, xst1_o st np (Nat.le_refl _)]; omega
      rw [hz]
      refine ⟨?_, by omega, by simpa using hN, fun j hj => by omega⟩
      simp [xPs, xcS, xcR, nu, ru_e]
    · have hz : xPn (xst1 st nc np) q = xPn st q := by unfold xPn; rw [xst1_o st np (by omega), xst1_o st np (by omega)]
      have ho : ∀ j, xOw (xst1 st nc np) li q j = xOw st li q j := fun j => by unfold xOw; rw [xst1_o st np (by omega)]
      obtain ⟨w1, w2, w3, w4⟩ := h7 q (by omega)
      rw [hz]
      simp only [ho, if_neg e]
      refine ⟨by simpa [xPs, xcS, xcR, nu, ru_e, e] using w1, w2, w3, fun j hj => ?_⟩
      have := w4 j hj
      simpa [xcS, xcR, nu, ru_e, e] using this
  · obtain ⟨f1, f2, f3⟩ := hfr
    refine ⟨fun k hk => ?_, fun i hi => ?_, fun q hq => ?_⟩
    · simpa [xcS, nu] using f1 k hk
    · simpa [xcS, nu] using f2 i hi
    · have := f3 q (by omega)
      simpa [xcS, nu, show q ≠ nc by omega] using this
  · intro t _
    have := (hfr.2.2 nc (Nat.le_refl _)).2.2 t
    simpa [xcS, nu] using this
