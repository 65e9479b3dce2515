/-! PURE: what the reference's close does, as a whole -/
theorem zl_isIn_eq (J : nh_N → Nat → Int32) (a b : Int32) (A : List Nat) : ∀ (r j : Nat), j + r ≤ A.length → A.length ≤ 200 → (∀ t i, A[t]? = some i → J (zA 26) t = nI i) → (zl_isIn J a b r j 1 = 1 ∧ (zl_isIn J a b r j 0 = 0 ∨ zl_isIn J a b r j 0 = 1) ∧ (zl_isIn J a b r j 0 = 0 ↔ ∀ t i, j ≤ t → t < j + r → A[t]? = some i → ¬ nI i = a)) := by
  intro r
  induction r with
  | zero => intro j _ _ _; exact ⟨rfl, .inl rfl, fun _ t i h1 h2 => by omega, fun _ => rfl⟩
  | succ r ih =>
    intro j hj hA h
    obtain ⟨i1, i2, i3⟩ := ih (j + 1) (by omega) hA h
    obtain ⟨i, hi⟩ : ∃ i, A[j]? = some i := ⟨_, List.getElem?_eq_getElem (by omega)⟩
    have e := h j i hi
    refine ⟨by rw [zl_isIn, if_neg one_ne0]; exact i1, ?_, ?_⟩
    · rw [zl_isIn, if_pos rfl, nI_clamp (by omega), e]
      by_cases c : nI i = a
      · rw [if_pos c]; exact .inr i1
      · rw [if_neg c]; exact i2
    · rw [zl_isIn, if_pos rfl, nI_clamp (by omega), e]
      by_cases c : nI i = a
      · rw [if_pos c, i1]
        exact ⟨fun w => absurd w one_ne0, fun w => absurd c (w j i (Nat.le_refl _) (by omega) hi)⟩
      · rw [if_neg c, i3]
        constructor
        · intro w t x h1 h2 h3
          by_cases q : t = j
          · subst q; rw [hi] at h3; cases h3; exact c
          · exact w t x (by omega) (by omega) h3
        · intro w t x h1 h2 h3
          exact w t x (by omega) (by omega) h3
theorem fold_app (L M : List Nat) (J : nh_N → Nat → Int32) : (L ++ M).foldl zgo J = M.foldl zgo (L.foldl zgo J) := List.foldl_append
/-- what the reference needs to be closed -/
def zRdy (J : nh_N → Nat → Int32) (ni nc np nb : Nat) : Prop := ni ≤ 200 ∧ nc < 40 ∧ np ≤ 200 * nc ∧ nb ≤ 200 ∧ J zM 6 = nI ni ∧ J zM 17 = nI nc ∧ J zM 18 = nI np ∧ J zM 23 = nI nb ∧ (∀ q, q < np → ∃ i, i < 200 ∧ J (zA 20) q = nI i) ∧ (∀ i, i < ni → ∃ k, k < 8 ∧ J (zA 7) i = nI k) ∧ (∀ i, i < ni → ∃ q, q < 40 ∧ J (zA 9) i = nI q) ∧ (∀ i, i < ni → ¬ J (zA 8) i ≤ 0 → J (zA 11) i = 0) ∧ xOrd J ni nc nb
theorem zRdy_W {J J0 : nh_N → Nat → Int32} {ni nc np nb : Nat} (h : zRdy J ni nc np nb) (h8 : J0 (zA 8) = J (zA 8)) (h11 : J0 (zA 11) = J (zA 11)) : xWok (zW J nb ni nc) J0 ni := by
  obtain ⟨a1, a2, a3, a4, a5, a6, a7, a8, a9, a10, a11, a12, o1, o2, o3⟩ := h
  have hA : ∀ t, t ≤ nb → (zhl J t).Nodup := by
    intro t
    induction t with
    | zero => intro _; exact List.nodup_nil
    | succ t ih =>
      intro ht
      rw [zhl_succ]
      by_cases c : J (zA 11) (J (zA 24) t).toNatClampNeg = 0 ∧ ¬ J (zA 8) (J (zA 24) t).toNatClampNeg ≤ 0
      · rw [if_pos c, List.nodup_append]
        refine ⟨ih (by omega), by simp, fun x hx y hy => ?_⟩
        obtain ⟨q, q1, q2, -⟩ := zhl_mem.mp hx
        have : y = (J (zA 24) t).toNatClampNeg := by simpa using hy
        rw [this]
        intro e
        obtain ⟨i, i1, i2, -⟩ := o1 t (by omega)
        obtain ⟨i', i1', i2', -⟩ := o1 q (by omega)
        rw [i2, nI_clamp (by omega)] at e
        rw [i2', nI_clamp (by omega)] at q2
        have := o2 q t (by omega) (by omega) (by rw [i2, i2', q2, e])
        omega
      · rw [if_neg c, List.append_nil]; exact ih (by omega)
  have hmem : ∀ i, i ∈ zhl J nb → i < ni ∧ J (zA 11) i = 0 ∧ ¬ J (zA 8) i ≤ 0 ∧ ∃ t, t < nc ∧ J (zA 9) i = nI t := fun i hi => by
    obtain ⟨q, q1, q2, q3, q4⟩ := zhl_mem.mp hi
    obtain ⟨i', i1, i2, t, i3, i4⟩ := o1 q q1
    rw [i2, nI_clamp (by omega)] at q2
    subst q2
    exact ⟨i1, q3, q4, t, i3, i4⟩
  have hall : ∀ i, i ∈ zW J nb ni nc → i < ni ∧ J (zA 11) i = 0 ∧ ¬ J (zA 8) i ≤ 0 := fun i hi => by
    rcases List.mem_append.mp hi with w | w
    · obtain ⟨y1, y2, y3, -⟩ := hmem i w; exact ⟨y1, y2, y3⟩
    · obtain ⟨y1, y2, y3⟩ := zB_mem.mp w; exact ⟨y1, a12 i y1 y3, y3⟩
  have hnd : (zW J nb ni nc).Nodup := by
    unfold zW
    rw [List.nodup_append]
    refine ⟨hA nb (Nat.le_refl _), List.nodup_range.filter _, fun x hx y hy e => ?_⟩
    subst e
    obtain ⟨-, -, -, t, t1, t2⟩ := hmem x hx
    have := (zB_mem.mp hy).2.1
    rw [t2, nI_eq (by omega) (by omega)] at this
    omega
  refine ⟨hnd, Nat.le_trans (pigeon ni _ hnd (fun x hx => (hall x hx).1)) a1, fun i hi => ?_⟩
  rw [h8, h11]; exact hall i hi
theorem take_pre {L M W : List Nat} (h : W = L ++ M) : W.take L.length = L := by
  rw [h, List.take_append_of_le_length (Nat.le_refl _), List.take_length]
theorem zhl_pre (J : nh_N → Nat → Int32) : ∀ nb t, t ≤ nb → ∃ M, zhl J nb = zhl J t ++ M := by
  intro nb
  induction nb with
  | zero => intro t ht; rw [show t = 0 by omega]; exact ⟨[], by rw [List.append_nil]⟩
  | succ nb ih =>
    intro t ht
    by_cases e : t = nb + 1
    · rw [e]; exact ⟨[], by rw [List.append_nil]⟩
    · obtain ⟨M, hM⟩ := ih t (by omega)
      rw [zhl_succ, hM, List.append_assoc]; exact ⟨_, rfl⟩
theorem zB_pre (J : nh_N → Nat → Int32) (nc : Nat) : ∀ nb t, t ≤ nb → ∃ M, zB J nc nb = zB J nc t ++ M := by
  intro nb
  induction nb with
  | zero => intro t ht; rw [show t = 0 by omega]; exact ⟨[], by rw [List.append_nil]⟩
  | succ nb ih =>
    intro t ht
    by_cases e : t = nb + 1
    · rw [e]; exact ⟨[], by rw [List.append_nil]⟩
    · obtain ⟨M, hM⟩ := ih t (by omega)
      rw [zB_succ, hM, List.append_assoc]; exact ⟨_, rfl⟩
/-- the reference's close: its four loops are one walk over zW -/
theorem zclOK_of {J P1 : nh_N → Nat → Int32} {ni nc np nb : Nat} (h : zRdy J ni nc np nb) (hP1 : zl_cl1 8 0 J = P1) : ∃ P2 P3 P4, zclOK J nb (zhl J nb).length ni (zW J nb ni nc).length P1 P2 P3 P4 ∧ P3 = (zW J nb ni nc).foldl zgo (iu P1 zM 25 0) ∧ P4 = zl_cl4 (zW J nb ni nc).length 0 (iu P3 zM 23 (P3 zM 25)) ∧ zMd (iu P1 zM 25 0) ni nc np nb (zW J nb ni nc) (zW J nb ni nc).length P3 := by
  obtain ⟨c1, c2, c3⟩ := cl1_eq 8 0 J (by omega)
  rw [hP1] at c1 c2 c3
  generalize hJ0 : iu P1 zM 25 0 = J0
  have o : ∀ s, s ≠ 27 → s ≠ 5 → J0 (zA s) = J (zA s) := fun s s1 s2 => by rw [← hJ0, iu_o _ _ _ (by simp), c3 _ (by simp [s1]) (by simp [s2])]
  have om : ∀ s, s ≠ 25 → J0 zM s = J zM s := fun s hs => by rw [← hJ0, iu_e, if_neg (fun w => hs w.2), c3 _ (by simp) (by simp)]
  have hW := zRdy_W (J0 := J0) h (o 8 (by omega) (by omega)) (o 11 (by omega) (by omega))
  obtain ⟨a1, a2, a3, a4, a5, a6, a7, a8, a9, a10, a11, a12, o1, o2, o3⟩ := h
  have hlen := zhl_len J nb
  have hmd := zMd_all (J0 := J0) (nc := nc) (np0 := np) (nb := nb) hW a1 (by omega) (fun i hi => by rw [o 7 (by omega) (by omega)]; exact a10 i hi) ⟨np, by omega, by rw [om _ (by omega)]; exact a7, by rw [← hJ0, iu_e, if_pos ⟨rfl, rfl⟩]; rfl, by rw [om _ (by omega)]; exact a6, by rw [om _ (by omega)]; exact a8, by rw [om _ (by omega)]; exact a5, by rw [o 20 (by omega) (by omega)]; exact a9, fun t i ht => by omega, fun _ _ => rfl, rfl, rfl, rfl, rfl⟩
  obtain ⟨w1, w2, w3⟩ := id hW
  have hpre : ∀ L M, zW J nb ni nc = L ++ M → zMd J0 ni nc np nb (zW J nb ni nc) L.length (L.foldl zgo J0) := fun L M e => by
    have := hmd L.length (by rw [e, List.length_append]; omega)
    rw [take_pre e] at this
    exact this
  -- the first loop
  have hgok : ∀ L M i j, zW J nb ni nc = L ++ M → L.length = j → i < ni → j < 200 → zgoOK i (L.foldl zgo J0) := fun L M i j e hl hi hj => by
    obtain ⟨np', y1, y2, y3, y4, y5, y6, y7, -, u1, u2, -⟩ := hpre L M e
    obtain ⟨k, k1, k2⟩ := a10 i hi
    refine ⟨k, np', L.length, ?_, k1, y2, ?_, y7, y3, by omega⟩
    · rw [u2, o 7 (by omega) (by omega)]; exact k2
    · have : L.length ≤ 200 := by omega
      omega
  have L2 : ∀ t, t ≤ nb → zl_cl2 t 0 J0 = (zhl J t).foldl zgo J0 ∧ (t < nb → zO2 (0 + t) (zl_cl2 t 0 J0)) ∧ zH2 nb (zl_cl2 t 0 J0) := by
    intro t
    induction t with
    | zero =>
      intro _
      refine ⟨rfl, fun ht => ?_, ?_⟩
      · obtain ⟨i, i1, i2, -⟩ := o1 0 ht
        refine ⟨i, by show J0 (zA 24) 0 = _; rw [o 24 (by omega) (by omega)]; exact i2, by omega, fun hw => ?_⟩
        refine hgok [] _ i 0 rfl rfl i1 (by omega)
      · show J0 zM 23 = _; rw [om _ (by omega)]; exact a8
    | succ t ih =>
      intro ht
      obtain ⟨e1, -, -⟩ := ih (by omega)
      obtain ⟨i, i1, i2, s, s1, s2⟩ := o1 t (by omega)
      obtain ⟨M, hM⟩ := zhl_pre J nb t (by omega)
      have hWt : zW J nb ni nc = zhl J t ++ (M ++ zB J nc ni) := by unfold zW; rw [hM, List.append_assoc]
      obtain ⟨np', y1, y2, y3, y4, y5, y6, y7, y8, u1, u2, u3, u4, u5⟩ := hpre _ _ hWt
      have hstep : zl_cl2 (t + 1) 0 J0 = (zhl J (t + 1)).foldl zgo J0 := by
        rw [cl2_snoc, e1, Nat.zero_add, zs_cl2, nI_clamp (by omega), u5, o 24 (by omega) (by omega), i2, zhl_succ, i2, nI_clamp (by omega), zf_waits, nI_clamp (by omega), u4, u3, o 11 (by omega) (by omega), o 9 (by omega) (by omega), y4, s2, if_neg (nI_nlt (a := nc) (b := s) (by omega) (by omega))]
        have hnot : i ∉ (zW J nb ni nc).take (zhl J t).length := by
          rw [take_pre hWt]
          intro hm
          obtain ⟨q, q1, q2, -⟩ := zhl_mem.mp hm
          obtain ⟨i', i1', i2', -⟩ := o1 q (by omega)
          rw [i2', nI_clamp (by omega)] at q2
          have := o2 q t (by omega) (by omega) (by rw [i2, i2', q2])
          omega
        rw [u1 i hnot, o 8 (by omega) (by omega)]
        by_cases d1 : J (zA 11) i = 0
        · rw [if_pos d1]
          by_cases d2 : J (zA 8) i ≤ 0
          · rw [if_pos d2, if_pos rfl, if_neg (fun w => w.2 d2), List.append_nil]
          · rw [if_neg d2, if_neg one_ne0, if_pos ⟨d1, d2⟩, List.foldl_append]; rfl
        · rw [if_neg d1, if_pos rfl, if_neg (fun w => d1 w.1), List.append_nil]
      obtain ⟨M', hM'⟩ := zhl_pre J nb (t + 1) ht
      have hWt' : zW J nb ni nc = zhl J (t + 1) ++ (M' ++ zB J nc ni) := by unfold zW; rw [hM', List.append_assoc]
      obtain ⟨np2, v1, v2, v3, v4, v5, v6, v7, v8, x1, x2, x3, x4, x5⟩ := hpre _ _ hWt'
      refine ⟨hstep, fun ht' => ?_, ?_⟩
      · obtain ⟨i', i1', i2', -⟩ := o1 (t + 1) ht'
        refine ⟨i', by rw [hstep, x5, o 24 (by omega) (by omega), Nat.zero_add]; exact i2', by omega, fun _ => ?_⟩
        rw [hstep]
        exact hgok _ _ i' _ hWt' rfl i1' (by have := zhl_len J (t + 1); omega)
      · rw [zH2, hstep]; exact v5
  obtain ⟨f1, -, -⟩ := L2 nb (Nat.le_refl _)
  obtain ⟨np2, v1, v2, v3, v4, v5, v6, v7, v8, x1, x2, x3, x4, x5⟩ := hpre (zhl J nb) (zB J nc ni) rfl
  -- the second
  have side : ∀ t, t ≤ ni → (t < ni → zO3 (zhl J nb).length (0 + t) ((zhl J nb ++ zB J nc t).foldl zgo J0)) ∧ zH3 ni ((zhl J nb ++ zB J nc t).foldl zgo J0)   := fun t ht => by
      obtain ⟨M, hM⟩ := zB_pre J nc ni t ht
      have hWt : zW J nb ni nc = (zhl J nb ++ zB J nc t) ++ M := by unfold zW; rw [hM, List.append_assoc]
      obtain ⟨np', y1, y2, y3, y4, y5, y6, y7, y8, u1, u2, u3, u4, u5⟩ := hpre _ _ hWt
      refine ⟨fun ht' => ?_, y6⟩
      intro hw hin
      rw [Nat.zero_add] at hw hin ⊢
      by_cases hfull : (zhl J nb ++ zB J nc t).length < 200
      · exact hgok _ _ t _ hWt rfl ht' hfull
      · exfalso
        have hmem : t ∈ zhl J nb ++ zB J nc t := by
          by_cases hm : t ∈ zhl J nb ++ zB J nc t
          · exact hm
          · have nd : (t :: (zhl J nb ++ zB J nc t)).Nodup := List.nodup_cons.mpr ⟨hm, by rw [hWt] at w1; exact (List.nodup_append.mp w1).1⟩
            have := pigeon ni _ nd (fun x hx => by
              rcases List.mem_cons.mp hx with rfl | hx
              · exact ht'
              · exact (w3 x (by rw [hWt]; exact List.mem_append_left _ hx)).1)
            rw [List.length_cons] at this
            omega
        rcases List.mem_append.mp hmem with hm | hm
        · obtain ⟨q, hq⟩ := List.mem_iff_getElem?.mp hm
          have hql := (List.getElem?_eq_some_iff.mp hq).1
          have := ((zl_isIn_eq ((zhl J nb ++ zB J nc t).foldl zgo J0) (nI t) (nI (zhl J nb).length) (zhl J nb) (zhl J nb).length 0 (by omega) (by omega) (fun t' i' hi' => y8 t' i' (by have := (List.getElem?_eq_some_iff.mp hi').1; rw [List.length_append]; omega) (by rw [hWt, List.append_assoc, List.getElem?_append_left (List.getElem?_eq_some_iff.mp hi').1]; exact hi'))).2.2.mp hin) q t (Nat.zero_le _) (by omega) hq
          exact this rfl
        · have := (zB_mem.mp hm).1; omega
  have L3 : ∀ t, t ≤ ni → zl_cl3 (zhl J nb).length (nI (zhl J nb).length) t 0 ((zhl J nb).foldl zgo J0) = (zhl J nb ++ zB J nc t).foldl zgo J0 ∧ (t < ni → zO3 (zhl J nb).length (0 + t) ((zhl J nb ++ zB J nc t).foldl zgo J0)) ∧ zH3 ni ((zhl J nb ++ zB J nc t).foldl zgo J0) := by
    intro t
    induction t with
    | zero => intro ht; exact ⟨by show _ = (zhl J nb ++ zB J nc 0).foldl zgo J0; rw [show zB J nc 0 = [] from rfl, List.append_nil]; rfl, side 0 ht⟩
    | succ t ih =>
      intro ht
      refine ⟨?_, side (t + 1) ht⟩
      obtain ⟨e1, -⟩ := ih (by omega)
      obtain ⟨M, hM⟩ := zB_pre J nc ni t (by omega)
      have hWt : zW J nb ni nc = (zhl J nb ++ zB J nc t) ++ M := by unfold zW; rw [hM, List.append_assoc]
      obtain ⟨np', y1, y2, y3, y4, y5, y6, y7, y8, u1, u2, u3, u4, u5⟩ := hpre _ _ hWt
      rw [cl3_snoc, e1, Nat.zero_add, zs_cl3, zB_succ, ← List.append_assoc, fold_app (zhl J nb ++ zB J nc t)]
      generalize (zhl J nb ++ zB J nc t).foldl zgo J0 = X at *
      obtain ⟨q, hq, eq⟩ := a11 t (by omega)
      have isin := (zl_isIn_eq X (nI t) (nI (zhl J nb).length) (zhl J nb) (zhl J nb).length 0 (by omega) (by omega) (fun t' i' hi' => y8 t' i' (by have := (List.getElem?_eq_some_iff.mp hi').1; rw [List.length_append]; omega) (by rw [hWt, List.append_assoc, List.getElem?_append_left (List.getElem?_eq_some_iff.mp hi').1]; exact hi'))).2.2
      by_cases hA : t ∈ zhl J nb
      · have hne : ¬ zf_isIn X (zhl J nb).length (nI t) (nI (zhl J nb).length) = 0 := fun w => by
          obtain ⟨z, hz⟩ := List.mem_iff_getElem?.mp hA
          exact isin.mp w z t (Nat.zero_le _) (by have := (List.getElem?_eq_some_iff.mp hz).1; omega) hz rfl
        obtain ⟨z, z1, z2, -⟩ := zhl_mem.mp hA
        obtain ⟨i', i1, i2, s, s1, s2⟩ := o1 z z1
        rw [i2, nI_clamp (by omega)] at z2
        subst z2
        rw [if_neg hne, if_neg (show ¬ (J (zA 9) i' = nI nc ∧ ¬ J (zA 8) i' ≤ 0) from fun w => by
          have := w.1
          rw [s2, nI_eq (by omega) (by omega)] at this
          omega), List.foldl_nil]
        split <;> rfl
      · have h0 : zf_isIn X (zhl J nb).length (nI t) (nI (zhl J nb).length) = 0 := isin.mpr (fun z i h1 h2 h3 e => by
          have hi := (w3 i (by rw [hWt]; exact List.mem_append_left _ (List.mem_append_left _ (List.mem_of_getElem? h3)))).1
          have := (nI_eq (by omega) (by omega)).mp e
          subst this
          exact hA (List.mem_of_getElem? h3))
        have hnot : t ∉ (zW J nb ni nc).take (zhl J nb ++ zB J nc t).length := by
          rw [take_pre hWt]
          intro hm
          rcases List.mem_append.mp hm with w | w
          · exact hA w
          · have := (zB_mem.mp w).1; omega
        rw [if_pos h0]
        unfold zf_waits
        rw [nI_clamp (n := t) (by omega), u4, u3, u1 t hnot, o 11 (by omega) (by omega), o 9 (by omega) (by omega), o 8 (by omega) (by omega), y4, eq]
        by_cases hp : nI q = nI nc ∧ ¬ J (zA 8) t ≤ 0
        · rw [if_pos hp, if_pos (a12 t (by omega) hp.2), if_neg hp.2, hp.1, if_neg (nI_nlt (Nat.le_refl _) (by omega)), if_neg one_ne0]
          rfl
        · rw [if_neg hp, List.foldl_nil]
          by_cases d1 : J (zA 11) t = 0
          · rw [if_pos d1]
            by_cases d2 : J (zA 8) t ≤ 0
            · rw [if_pos d2, if_pos rfl]
            · rw [if_neg d2]
              by_cases d3 : nI nc < nI q
              · rw [if_pos d3, if_pos rfl]
              · exfalso
                have hqn : q ≤ nc := by
                  by_cases w : q ≤ nc
                  · exact w
                  · exact absurd (nI_lt (by omega) (by omega)) d3
                by_cases w : q = nc
                · exact hp ⟨by rw [w], d2⟩
                · obtain ⟨z, z1, z2⟩ := o3 t q (by omega) eq (by omega) d1 d2
                  exact hA (zhl_mem.mpr ⟨z, z1, by rw [z2, nI_clamp (by omega)], d1, d2⟩)
          · rw [if_neg d1, if_pos rfl]
  obtain ⟨np3, k1, k2, k3, k4⟩ := hpre (zW J nb ni nc) [] (by rw [List.append_nil])
  refine ⟨(zhl J nb).foldl zgo J0, (zW J nb ni nc).foldl zgo J0, zl_cl4 (zW J nb ni nc).length 0 (iu ((zW J nb ni nc).foldl zgo J0) zM 23 (((zW J nb ni nc).foldl zgo J0) zM 25)), ?_, rfl, rfl, hpre (zW J nb ni nc) [] (by rw [List.append_nil])⟩
  unfold zclOK
  rw [hJ0]
  refine ⟨hP1, f1, (L3 ni (Nat.le_refl _)).1, rfl, a4, fun t ht => (L2 t ht).2.2, fun t ht => (L2 t (by omega)).2.1 ht, v3, by omega, a1, fun t ht => ?_, fun t ht => ?_, w2, fun t ht => ?_⟩
  · rw [(L3 t ht).1]; exact (L3 t ht).2.2
  · rw [(L3 t (by omega)).1]; exact (L3 t (by omega)).2.1 ht
  · unfold zH4
    rw [(cl4_eq t 0 _ (by omega)).2 zM (by simp), iu_e, if_neg (by omega)]
    exact k3
