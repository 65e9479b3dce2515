theorem xMid_step {nk ni nm nc np0 nb : Nat} {kd : Nat → Nat} {W : List Nat} {J0 : nh_N → Nat → Int32} (Jf : Nat → nh_N → Nat → Int32) (hW : xWok W J0 ni) (hn9 : np0 ≤ 7800) (hm : nm ≤ 300) (hJf : ∀ j i, W[j]? = some i → Jf (j + 1) = (zf_go (Jf j) (Jf j zM 18).toNatClampNeg (nI i)).2) : ∀ j S g I R, j < W.length → xMid nk ni nm nc np0 nb kd W J0 j S I R (Jf j) → xglS (fun j S _ I R => xMid nk ni nm nc np0 nb kd W J0 j S I R (Jf j)) nc j S g I R := by
  intro j S g I R hj hM
  obtain ⟨i, hi⟩ : ∃ i, W[j]? = some i := ⟨_, List.getElem?_eq_getElem hj⟩
  have hJ' := hJf j i hi
  have hM0 := hM
  generalize hJ : Jf j = J at hM hJ'
  obtain ⟨np, st, li, n1, n2, n3, n4, n5, n6, n7, n8, n9⟩ := hM
  obtain ⟨pl, hsh, hpl, hfr, hq⟩ := id n1
  have hk8 := hsh.nk8
  have hi2 := hsh.ni2
  have hc4 : nc < 40 := hsh.nc4
  obtain ⟨w1, w2, w3⟩ := id hW
  obtain ⟨v1, v2, v3⟩ := w3 i (List.mem_of_getElem? hi)
  have hkd := (hsh.N i v1).2
  have hG := n2.2.2.1
  have hst : st nc ≤ np := by rw [← hG.2.2.1]; exact (hG.2.1 nc (by omega)).1
  obtain ⟨m1, m2, m3, m4, m5, m6, m7, m8, m9, m10, m11, m12, m13⟩ := id n3
  obtain ⟨p1, p2, p3, -⟩ := n2.2.2.2.1.1 nc (by omega)
  rw [hG.2.2.1] at p2
  obtain ⟨a1, a2, a3, a4, a5, ⟨r, hr, a6⟩, -⟩ := n2.2.1.1 i v1
  have hnt := not_take w1 hi
  have h8 : J (zA 8) i = J0 (zA 8) i := n9.1 i hnt
  have hgo : J (zA 11) i = 0 := by rw [n9.2.2.2.1]; exact v2
  have hr0 : r ≠ 0 := fun e => v3 (by rw [← h8, a6, e]; decide)
  obtain ⟨b1, b2⟩ := n6 (kd i) hkd
  refine ⟨i, kd i, W.length, np - st nc, ni, n8.2.2 j i (Nat.le_refl _) hi, v1, hi2, ?_, ?_, ?_, ?_, ?_, hq _ (Nat.le_refl _), p2, by omega, w2, p1, hc4, ?_⟩
  · intro t ht
    have := hsh.IA t ht
    simpa [ru_e] using this
  · have := hsh.X
    simpa [xXs, xLs, ru_e] using this
  · have := (hsh.P nc (by omega)).1
    rw [hpl] at this
    simpa [xPs, ru_e] using this
  · have := (hsh.N i v1).1
    simpa [xNs, ru_e] using this
  · have := hsh.K (kd i) hkd
    simpa [xKs, ru_e] using this
  intro v S' g' I' R' hp
  rw [m11, nI_clamp (n := np) (by omega), zf_go_eq J (k := kd i) (nc := nc) (j := j) (by omega) (by omega) (by omega) a1 m10 m13] at hJ'
  have asm := fun {I1 J1 : nh_N → Nat → Int32} {S' : nh_N → Option nh_C} {R' : nh_N → Nat → Option nh_N} (h : xNew I J S' R' I1 J1 nk ni nm nc np0 nb kd W.length j i) => xMid_asm hW hi hn9 hm n7 n8 n9 h
  have base := xNew_base (i := i) hn9 (by omega) hm (hJ ▸ hM0)
  have hb8 : zJ2 J j i (zA 8) i = nI r := by simpa [zJ2, iu_e] using a6
  have hrr : ¬ nI r ≤ 0 := nI_nle (by omega) (by omega)
  obtain ⟨bnp, bst, bli, -, bC, -⟩ := id base
  have hC2 : xCor I (zJ2 J j i) nk ni nm nc np kd st li := xCor_cong n2 (by omega) hm (fun m _ _ _ => rfl) (fun _ _ _ => rfl) (by simp [zJ2, iu_e]) (fun s hs _ => by funext t; simp [zJ2, iu_e, hs])
  obtain ⟨f, f1, f2, f3⟩ := free_eq hC2 hkd hc4 (by omega) (by simpa [zJ2, iu_e] using m1) (by simpa [zJ2, iu_e] using m2)
  have p3' : zf_standing (zJ2 J j i) np (nI nc) (-1) = I (xP nc) 3 := (hC2.2.2.2.1.1 nc (by omega)).2.2.1.symm
  have hl : zJ2 J j i (zA 3) (kd i) = I (xK (kd i)) 1 := (hC2.1.1 (kd i) hkd).2.2.2.1.symm
  obtain ⟨ls, l1, l2⟩ := (hC2.1.1 (kd i) hkd).2.2.1
  have hl2 : I (xK (kd i)) 1 = nI ls := by rw [← hl]; exact l2
  rw [f3, p3'] at hJ'
  have hgo2 : (zf_go2 (zJ2 J j i) (nI i) (nI (kd i)) (I (xP nc) 3) (nI f)).2 = if nI f < nI r then (if xf_mayCut I (kd i) (nI r) (nI f) = 0 then (if I (xP nc) 3 = 0 then (zf_place (zJ2 J j i) (nI i) (nI r) 1).2 else iu (zJ2 J j i) (zA 27) (kd i) 1) else iu (zf_place (zJ2 J j i) (nI i) (nI f) 0).2 (zA 27) (kd i) 1) else (zf_place (zJ2 J j i) (nI i) (nI r) 0).2 := by
    unfold zf_go2 xf_mayCut
    rw [nI_clamp (n := i) (by omega), nI_clamp (n := kd i) (by omega), hb8, hl]
    by_cases c1 : nI f < nI r
    · rw [if_pos c1, if_pos c1]
      by_cases c2 : I (xK (kd i)) 1 ≤ 0
      · rw [if_pos c2, if_pos c2, if_pos rfl]
        by_cases c5 : I (xP nc) 3 = 0
        · rw [if_pos c5, if_pos c5]
        · rw [if_neg c5, if_neg c5]
      · rw [if_neg c2, if_neg c2]
        by_cases c3 : nI f < I (xK (kd i)) 1
        · rw [if_pos c3, if_pos c3, if_pos rfl]
          by_cases c5 : I (xP nc) 3 = 0
          · rw [if_pos c5, if_pos c5]
          · rw [if_neg c5, if_neg c5]
        · rw [if_neg c3, if_neg c3]
          by_cases c4 : nI r - nI f < I (xK (kd i)) 1
          · rw [if_pos c4, if_pos c4, if_pos rfl]
            by_cases c5 : I (xP nc) 3 = 0
            · rw [if_pos c5, if_pos c5]
            · rw [if_neg c5, if_neg c5]
          · rw [if_neg c4, if_neg c4, if_neg one_ne0]
    · rw [if_neg c1, if_neg c1]
  rw [hgo2] at hJ'
  unfold xgoP at hp
  rw [a5, a6, f2, b1] at hp
  dsimp only
  have place := fun {z : Nat} {d : Int32} (hz : z ≤ r) (hd : d = 0 ∨ d = 1) => xNew_place (J0 := J0) (z := z) (r := r) (d := d) hn9 hj w2 hm n1 n2 n3 n4 n5 n6 v1 hgo a6 hr hz hd
  rcases hp with ⟨q1, rfl, rfl, rfl, rfl, rfl⟩ | ⟨q1, q2, rfl, rfl, q3, rfl, rfl⟩ | ⟨q1, q2, q3, rfl, rfl, q4, rfl, rfl⟩ | ⟨q1, q2, q3, q4, rfl, rfl, q5, rfl, rfl⟩ | ⟨q1, q2, q3, q4, rfl, rfl, rfl, rfl, rfl⟩
  · rw [if_neg q1] at hJ'
    rw [hJ']
    exact .inr ⟨rfl, (asm base).2 (by rw [hb8]; exact hrr)⟩
  · rw [if_pos q1, if_neg q2] at hJ'
    rw [hJ']
    obtain ⟨y1, y2⟩ := place (z := r) (d := 0) (Nat.le_refl _) (.inl rfl)
    exact .inl ⟨rfl, (asm y1).1 (by rw [y2, Nat.sub_self]; decide)⟩
  · rw [if_pos q1, if_pos q2, if_neg q3] at hJ'
    rw [hJ']
    have hfr := (nI_ltI (by omega) (by omega)).mp q2
    obtain ⟨y1, y2⟩ := place (z := f) (d := 0) (by omega) (.inl rfl)
    exact .inr ⟨rfl, (asm (xNew_flag hn9 (by omega) hm y1)).2 (by rw [iu_o _ _ _ (show zA 8 ≠ zA 27 by simp), y2]; exact nI_nle (by omega) (by omega))⟩
  · rw [if_pos q1, if_pos q2, if_pos q3, if_pos q4] at hJ'
    rw [hJ']
    obtain ⟨y1, y2⟩ := place (z := r) (d := 1) (Nat.le_refl _) (.inr rfl)
    exact .inl ⟨rfl, (asm y1).1 (by rw [y2, Nat.sub_self]; decide)⟩
  · rw [if_pos q1, if_pos q2, if_pos q3, if_neg q4] at hJ'
    rw [hJ']
    exact .inr ⟨rfl, (asm (xNew_flag hn9 (by omega) hm base)).2 (by rw [iu_o _ _ _ (show zA 8 ≠ zA 27 by simp), hb8]; exact hrr)⟩
