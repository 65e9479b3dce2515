theorem zRdy_next {J : nh_N → Nat → Int32} {ni nc np nb : Nat} (h : zRdy J ni nc np nb) (hc : nc + 1 < 40) : ∃ np' nb', zRdy (zNx J) ni (nc + 1) np' nb' := by
  obtain ⟨mn, nw, P1, P2, P3, -, -, e3, hmd, hP1⟩ := zcl_ok h
  obtain ⟨v1, v2⟩ := zWc_eq h
  obtain ⟨c1, c2, c3⟩ := cl1_eq 8 0 J (by omega)
  rw [hP1] at c1 c2 c3
  have o : ∀ s, s ≠ 27 → s ≠ 5 → iu P1 zM 25 0 (zA s) = J (zA s) := fun s s1 s2 => by rw [iu_o _ _ _ (by simp), c3 _ (by simp [s1]) (by simp [s2])]
  obtain ⟨w1, w2, w3⟩ := zRdy_W h (o 8 (by omega) (by omega)) (o 11 (by omega) (by omega))
  obtain ⟨a1, a2, a3, a4, a5, a6, a7, a8, a9, a10, a11, a12, o1, o2, o3⟩ := h
  rw [o 8 (by omega) (by omega), o 11 (by omega) (by omega)] at w3
  obtain ⟨np', y1, y2, y3, y4, y5, y6, y7, y8, u1, u2, u3, u4, u5⟩ := hmd
  rw [o 7 (by omega) (by omega)] at u2
  rw [o 9 (by omega) (by omega)] at u3
  rw [o 11 (by omega) (by omega)] at u4
  rw [List.take_length, o 8 (by omega) (by omega)] at u1
  have hP4 : zP4 J = zl_cl4 (zW J nb ni nc).length 0 (iu P3 zM 23 (P3 zM 25)) := by unfold zP4; rw [← e3, v1]
  obtain ⟨d1, d2⟩ := cl4_eq (zW J nb ni nc).length 0 (iu P3 zM 23 (P3 zM 25)) (by omega)
  rw [← hP4] at d1 d2
  have pm : ∀ s, s ≠ 23 → zP4 J zM s = P3 zM s := fun s hs => by rw [d2 _ (by simp), iu_e, if_neg (fun w => hs w.2)]
  have jo : ∀ s, s ≠ 24 → zNx J (zA s) = P3 (zA s) := fun s hs => by rw [zNx, iu_o _ _ _ (by simp), d2 _ (by simp [hs]), iu_o _ _ _ (by simp)]
  have jm : ∀ s, s ≠ 17 → s ≠ 23 → zNx J zM s = P3 zM s := fun s s1 s2 => by rw [zNx, iu_e, if_neg (fun w => s1 w.2), pm s s2]
  have j24 : ∀ t i, (zW J nb ni nc)[t]? = some i → zNx J (zA 24) t = nI i := fun t i ht => by
    have hl := (List.getElem?_eq_some_iff.mp ht).1
    rw [zNx, iu_o _ _ _ (by simp), d1, if_pos (by omega), iu_o _ _ _ (by simp)]
    exact y8 t i hl ht
  refine ⟨np', (zW J nb ni nc).length, a1, hc, by omega, w2, by rw [jm _ (by omega) (by omega)]; exact y6, ?_, by rw [jm _ (by omega) (by omega)]; exact y2, ?_, by rw [jo _ (by omega)]; exact y7, by rw [jo _ (by omega), u2]; exact a10, by rw [jo _ (by omega), u3]; exact a11, ?_, ?_, ?_, ?_⟩
  · rw [zNx, iu_e, if_pos ⟨rfl, rfl⟩, pm 17 (by omega), y4, nI_1]
  · rw [zNx, iu_e, if_neg (by omega), d2 _ (by simp), iu_e, if_pos ⟨rfl, rfl⟩, y3]
  · intro i hi h8
    rw [jo 8 (by omega)] at h8
    rw [jo 11 (by omega), u4]
    by_cases hm : i ∈ zW J nb ni nc
    · exact (w3 i hm).2.1
    · rw [u1 i hm] at h8; exact a12 i hi h8
  · intro q hq
    obtain ⟨i, hi⟩ : ∃ i, (zW J nb ni nc)[q]? = some i := ⟨_, List.getElem?_eq_getElem hq⟩
    have him := List.mem_of_getElem? hi
    refine ⟨i, (w3 i him).1, j24 q i hi, ?_⟩
    rw [jo 9 (by omega), u3]
    rcases List.mem_append.mp him with w | w
    · obtain ⟨z, z1, z2, -⟩ := zhl_mem.mp w
      obtain ⟨i', i1, i2, s, s1, s2⟩ := o1 z z1
      rw [i2, nI_clamp (by omega)] at z2
      subst z2
      exact ⟨s, by omega, s2⟩
    · exact ⟨nc, by omega, (zB_mem.mp w).2.1⟩
  · intro q q' hq hq' e
    obtain ⟨i, hi⟩ : ∃ i, (zW J nb ni nc)[q]? = some i := ⟨_, List.getElem?_eq_getElem hq⟩
    obtain ⟨i', hi'⟩ : ∃ i, (zW J nb ni nc)[q']? = some i := ⟨_, List.getElem?_eq_getElem hq'⟩
    have b1 := (w3 i (List.mem_of_getElem? hi)).1
    have b2 := (w3 i' (List.mem_of_getElem? hi')).1
    rw [j24 q i hi, j24 q' i' hi', nI_eq (by omega) (by omega)] at e
    subst e
    obtain ⟨r1, r2⟩ := List.getElem?_eq_some_iff.mp hi
    obtain ⟨r3, r4⟩ := List.getElem?_eq_some_iff.mp hi'
    exact (List.getElem_inj w1).mp (r2.trans r4.symm)
  · intro i t h1 h2 h3 h4 h5
    rw [jo 9 (by omega), u3] at h2
    rw [jo 11 (by omega), u4] at h4
    rw [jo 8 (by omega)] at h5
    have hmem : i ∈ zW J nb ni nc := by
      by_cases hm' : i ∈ zW J nb ni nc
      · exact hm'
      · rw [u1 i hm'] at h5
        by_cases e : t = nc
        · subst e
          exact List.mem_append_right _ (zB_mem.mpr ⟨h1, h2, h5⟩)
        · obtain ⟨z, z1, z2⟩ := o3 i t h1 h2 (by omega) h4 h5
          exact List.mem_append_left _ (zhl_mem.mpr ⟨z, z1, by rw [z2, nI_clamp (by omega)], h4, h5⟩)
    obtain ⟨q, hq⟩ := List.mem_iff_getElem?.mp hmem
    exact ⟨q, (List.getElem?_eq_some_iff.mp hq).1, j24 q i hq⟩
