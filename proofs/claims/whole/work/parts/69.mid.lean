/-! PURE: the line is gone through, step by step -/
def xMN (I J : nh_N → Nat → Int32) (nk ni nm nc np nb j : Nat) : Prop := I xX 0 = J zM 0 ∧ (∃ pr, J zM 0 = nI pr ∧ 1 ≤ pr ∧ pr ≤ 30000) ∧ I xX 5 = nI nk ∧ J zM 1 = nI nk ∧ I xX 6 = nI ni ∧ J zM 6 = nI ni ∧ I xX 7 = nI nm ∧ J zM 13 = nI nm ∧ I xX 8 = nI nc ∧ J zM 17 = nI nc ∧ J zM 18 = nI np ∧ J zM 23 = nI nb ∧ J zM 25 = nI j
def xHo (I J : nh_N → Nat → Int32) (nk : Nat) : Prop := ∀ k, k < nk → I (xK k) 8 = J (zA 27) k ∧ (J (zA 27) k = 0 ∨ J (zA 27) k = 1)
def xhW (J : nh_N → Nat → Int32) (W : List Nat) (j : Nat) : List Nat := (W.take j).filter (fun i => decide (¬ J (zA 8) i ≤ 0))
def xNx (J : nh_N → Nat → Int32) (W : List Nat) (j : Nat) : Prop := ∀ t i, t < j → W[t]? = some i → J (zA 26) t = nI i
def xLi (I J : nh_N → Nat → Int32) (W : List Nat) (j : Nat) : Prop := I xLN 1 = nI (xhW J W j).length ∧ (∀ t i, (xhW J W j)[t]? = some i → I xLR t = nI i) ∧ ∀ t i, j ≤ t → W[t]? = some i → I xLR t = nI i
def xUn (J J0 : nh_N → Nat → Int32) (W : List Nat) (j : Nat) : Prop := (∀ i, i ∉ W.take j → J (zA 8) i = J0 (zA 8) i) ∧ J (zA 7) = J0 (zA 7) ∧ J (zA 9) = J0 (zA 9) ∧ J (zA 11) = J0 (zA 11) ∧ J (zA 24) = J0 (zA 24)
def xMid (nk ni nm nc np0 nb : Nat) (kd : Nat → Nat) (W : List Nat) (J0 : nh_N → Nat → Int32) (j : Nat) (S : nh_N → Option nh_C) (I : nh_N → Nat → Int32) (R : nh_N → Nat → Option nh_N) (J : nh_N → Nat → Int32) : Prop := ∃ (np : Nat) (st li : Nat → Nat), xShM S R nk ni nc np W.length kd st li ∧ xCor I J nk ni nm nc np kd st li ∧ xMN I J nk ni nm nc np nb j ∧ st nc = np0 ∧ np - st nc ≤ j ∧ xHo I J nk ∧ xNx J W j ∧ xLi I J W j ∧ xUn J J0 W j
def xWok (W : List Nat) (J0 : nh_N → Nat → Int32) (ni : Nat) : Prop := W.Nodup ∧ W.length ≤ 200 ∧ ∀ i, i ∈ W → i < ni ∧ J0 (zA 11) i = 0 ∧ ¬ J0 (zA 8) i ≤ 0
def xNew (I J : nh_N → Nat → Int32) (S' : nh_N → Option nh_C) (R' : nh_N → Nat → Option nh_N) (I1 J1 : nh_N → Nat → Int32) (nk ni nm nc np0 nb : Nat) (kd : Nat → Nat) (N j i : Nat) : Prop := ∃ (np : Nat) (st li : Nat → Nat), xShM S' R' nk ni nc np N kd st li ∧ xCor I1 J1 nk ni nm nc np kd st li ∧ xMN I1 J1 nk ni nm nc np nb (j + 1) ∧ st nc = np0 ∧ np - st nc ≤ j + 1 ∧ xHo I1 J1 nk ∧ (∀ t, J1 (zA 26) t = if t = j then nI i else J (zA 26) t) ∧ (∀ i', i' ≠ i → J1 (zA 8) i' = J (zA 8) i') ∧ J1 (zA 7) = J (zA 7) ∧ J1 (zA 9) = J (zA 9) ∧ J1 (zA 11) = J (zA 11) ∧ J1 (zA 24) = J (zA 24) ∧ I1 xLN = I xLN ∧ I1 xLR = I xLR
theorem take_nx {W : List Nat} {j i : Nat} (h : W[j]? = some i) : W.take (j + 1) = W.take j ++ [i] := by
  rw [List.take_add_one, h]; rfl
theorem not_take {W : List Nat} {j i : Nat} (hn : W.Nodup) (h : W[j]? = some i) : i ∉ W.take j := by
  intro hm
  obtain ⟨t, ht⟩ := List.mem_iff_getElem?.mp hm
  have htj : t < j := by
    have := (List.getElem?_eq_some_iff.mp ht).1
    rw [List.length_take] at this; omega
  rw [List.getElem?_take_of_lt htj] at ht
  obtain ⟨a1, a2⟩ := List.getElem?_eq_some_iff.mp ht
  obtain ⟨b1, b2⟩ := List.getElem?_eq_some_iff.mp h
  have := (List.getElem_inj hn).mp (a2.trans b2.symm)
  omega
theorem xMid_asm {nk ni nm nc np0 nb : Nat} {kd : Nat → Nat} {W : List Nat} {J0 I J I1 J1 : nh_N → Nat → Int32} {j i : Nat} {S' : nh_N → Option nh_C} {R' : nh_N → Nat → Option nh_N} (hW : xWok W J0 ni) (hj : W[j]? = some i) (hn9 : np0 ≤ 7800) (hm : nm ≤ 300) (h1 : xNx J W j) (h2 : xLi I J W j) (h3 : xUn J J0 W j) (hN : xNew I J S' R' I1 J1 nk ni nm nc np0 nb kd W.length j i) :
    (J1 (zA 8) i ≤ 0 → xMid nk ni nm nc np0 nb kd W J0 (j + 1) S' I1 R' J1) ∧ (¬ J1 (zA 8) i ≤ 0 → (∃ n, I1 xLN 1 = nI n ∧ n ≤ 200) ∧ xMid nk ni nm nc np0 nb kd W J0 (j + 1) S' (xf_append I1 (nI i)).2 R' J1) := by
  obtain ⟨np, st, li, n1, n2, n3, n4, n5, n6, n7, n8, n9, n10, n11, n12, n13, n14⟩ := hN
  obtain ⟨w1, w2, w3⟩ := hW
  have hjl : j < W.length := (List.getElem?_eq_some_iff.mp hj).1
  have hnt := not_take w1 hj
  have htk := take_nx hj
  have hf : (W.take j).filter (fun i => decide (¬ J1 (zA 8) i ≤ 0)) = xhW J W j := by
    unfold xhW
    apply List.filter_congr
    intro x hx
    rw [n8 x (fun e => hnt (e ▸ hx))]
  have hlen : (xhW J W j).length ≤ j := by
    unfold xhW
    exact Nat.le_trans (List.length_filter_le _ _) (by rw [List.length_take]; omega)
  have hnx : xNx J1 W (j + 1) := fun t x ht hx => by
    rw [n7]
    by_cases e : t = j
    · subst e; rw [if_pos rfl]; rw [hj] at hx; cases hx; rfl
    · rw [if_neg e]; exact h1 t x (by omega) hx
  have hun : xUn J1 J0 W (j + 1) := by
    obtain ⟨u1, u2, u3, u4, u5⟩ := h3
    refine ⟨fun x hx => ?_, n9.trans u2, n10.trans u3, n11.trans u4, n12.trans u5⟩
    rw [htk, List.mem_append, not_or] at hx
    rw [n8 x (fun e => hx.2 (by rw [e]; simp)), u1 x hx.1]
  constructor
  · intro hr
    have hh : xhW J1 W (j + 1) = xhW J W j := by
      rw [xhW, htk, List.filter_append, hf]
      simp [hr]
    refine ⟨np, st, li, n1, n2, n3, n4, n5, n6, hnx, ⟨?_, ?_, ?_⟩, hun⟩
    · rw [hh, n13]; exact h2.1
    · rw [hh, n14]; exact h2.2.1
    · intro t x ht hx; rw [n14]; exact h2.2.2 t x (by omega) hx
  · intro hr
    have hh : xhW J1 W (j + 1) = xhW J W j ++ [i] := by
      rw [xhW, htk, List.filter_append, hf]
      rw [List.filter_cons_of_pos (by simpa using hr)]; rfl
    have hln : I1 xLN 1 = nI (xhW J W j).length := by rw [n13]; exact h2.1
    refine ⟨⟨_, hln, by omega⟩, ?_⟩
    have ha : (xf_append I1 (nI i)).2 = iu (iu I1 xLR (xhW J W j).length (nI i)) xLN 1 (nI ((xhW J W j).length + 1)) := by
      unfold xf_append
      rw [hln, if_neg (nI_ge (by omega) (by omega)), nI_clamp (by omega), nI_1]
    rw [ha]
    refine ⟨np, st, li, n1, ?_, ?_, n4, n5, ?_, hnx, ⟨?_, ?_, ?_⟩, hun⟩
    · exact xCor_cong n2 (by omega) hm (fun m a b _ => by rw [iu_o _ _ _ a, iu_o _ _ _ b]) (fun k s _ => by rw [iu_o _ _ _ (by simp), iu_o _ _ _ (by simp)]) rfl (fun _ _ _ => rfl)
    · unfold xMN at n3 ⊢
      rw [iu_o _ _ _ (show xX ≠ xLN by simp), iu_o _ _ _ (show xX ≠ xLR by simp)]
      exact n3
    · intro k hk
      rw [iu_o _ _ _ (show xK k ≠ xLN by simp), iu_o _ _ _ (show xK k ≠ xLR by simp)]
      exact n6 k hk
    · rw [hh, iu_e, if_pos ⟨rfl, rfl⟩, List.length_append]; rfl
    · intro t x hx
      rw [hh] at hx
      rw [iu_o _ _ _ (show xLR ≠ xLN by simp), iu_e]
      by_cases e : t = (xhW J W j).length
      · subst e
        rw [List.getElem?_append_right (Nat.le_refl _), Nat.sub_self] at hx
        rw [if_pos ⟨rfl, rfl⟩]
        have : i = x := by simpa using hx
        rw [this]
      · rw [if_neg (fun w => e w.2), n14]
        have : t < (xhW J W j).length := by
          have := (List.getElem?_eq_some_iff.mp hx).1
          rw [List.length_append] at this
          simp at this; omega
        rw [List.getElem?_append_left this] at hx
        exact h2.2.1 t x hx
    · intro t x ht hx
      rw [iu_o _ _ _ (show xLR ≠ xLN by simp), iu_e, if_neg (fun w => by have := w.2; omega), n14]
      exact h2.2.2 t x (by omega) hx
theorem xNew_flag {nk ni nm nc np0 nb : Nat} {kd : Nat → Nat} {N : Nat} {I J I1 J1 : nh_N → Nat → Int32} {j i k : Nat} {S' : nh_N → Option nh_C} {R' : nh_N → Nat → Option nh_N} (hn9 : np0 ≤ 7800) (hj : j < 200) (hm : nm ≤ 300) (h : xNew I J S' R' I1 J1 nk ni nm nc np0 nb kd N j i) : xNew I J S' R' (iu I1 (xK k) 8 1) (iu J1 (zA 27) k 1) nk ni nm nc np0 nb kd N j i := by
  obtain ⟨np, st, li, n1, n2, n3, n4, n5, n6, n7, n8, n9, n10, n11, n12, n13, n14⟩ := h
  refine ⟨np, st, li, n1, ?_, ?_, n4, n5, ?_, ?_, ?_, ?_, ?_, ?_, ?_, ?_, ?_⟩
  · exact xCor_cong n2 (by omega) hm (fun m _ _ c => iu_o _ _ _ (c k)) (fun k' s hs => by rw [iu_e, if_neg (fun w => hs w.2)]) (by simp [iu_e]) (fun s _ hs => iu_o _ _ _ (by simp [hs]))
  · unfold xMN at n3 ⊢
    rw [iu_o _ _ _ (show xX ≠ xK k by simp), iu_o _ _ _ (show zM ≠ zA 27 by simp)]
    exact n3
  · intro k' hk'
    rw [iu_e, iu_e]
    by_cases e : k' = k
    · subst e; rw [if_pos ⟨rfl, rfl⟩, if_pos ⟨rfl, rfl⟩]; exact ⟨rfl, .inr rfl⟩
    · rw [if_neg (fun w => e (by simpa using w.1)), if_neg (fun w => e w.2)]; exact n6 k' hk'
  · intro t; rw [iu_o _ _ _ (show zA 26 ≠ zA 27 by simp)]; exact n7 t
  · intro t; rw [iu_o _ _ _ (show zA 8 ≠ zA 27 by simp)]; exact n8 t
  all_goals (rw [iu_o _ _ _ (by simp)]; assumption)
theorem xNew_base {nk ni nm nc np0 nb : Nat} {kd : Nat → Nat} {W : List Nat} {I J J0 : nh_N → Nat → Int32} {j i : Nat} {S : nh_N → Option nh_C} {R : nh_N → Nat → Option nh_N} (hn9 : np0 ≤ 7800) (hj : j < 200) (hm : nm ≤ 300) (h : xMid nk ni nm nc np0 nb kd W J0 j S I R J) : xNew I J S R I (zJ2 J j i) nk ni nm nc np0 nb kd W.length j i := by
  obtain ⟨np, st, li, n1, n2, n3, n4, n5, n6, n7, n8, n9⟩ := h
  refine ⟨np, st, li, n1, ?_, ?_, n4, by omega, ?_, ?_, ?_, ?_, ?_, ?_, ?_, rfl, rfl⟩
  · exact xCor_cong n2 (by omega) hm (fun m _ _ _ => rfl) (fun _ _ _ => rfl) (by simp [zJ2, iu_e]) (fun s hs _ => by funext t; simp [zJ2, iu_e, hs])
  · obtain ⟨m1, m2, m3, m4, m5, m6, m7, m8, m9, m10, m11, m12, m13⟩ := n3
    unfold xMN
    simpa [zJ2, iu_e, m1, m3, m4, m5, m6, m7, m8, m9, m10, m11, m12] using m2
  · intro k hk
    have := n6 k hk
    simpa [zJ2, iu_e] using this
  · intro t; simp [zJ2, iu_e]
  · intro i' hi'; simp [zJ2, iu_e]
  all_goals (funext t; simp [zJ2, iu_e])
theorem xNew_place {nk ni nm nc np0 nb : Nat} {kd : Nat → Nat} {W : List Nat} {I J J0 : nh_N → Nat → Int32} {j i : Nat} {S : nh_N → Option nh_C} {R : nh_N → Nat → Option nh_N} {z r : Nat} {d : Int32} (hn9 : np0 ≤ 7800) (hjW : j < W.length) (hW2 : W.length ≤ 200) (hm : nm ≤ 300) {np : Nat} {st li : Nat → Nat} (n1 : xShM S R nk ni nc np W.length kd st li) (n2 : xCor I J nk ni nm nc np kd st li) (n3 : xMN I J nk ni nm nc np nb j) (n4 : st nc = np0) (n5 : np - st nc ≤ j) (n6 : xHo I J nk) (hi : i < ni) (hgo : J (zA 11) i = 0) (hr : J (zA 8) i = nI r) (hr1 : r ≤ 10000) (hz : z ≤ r) (hd : d = 0 ∨ d = 1) : xNew I J (nu S (xQ nc (np - st nc)) (some (0, 4))) (xR_place R nc (np - st nc) i) (xI_place I nc (np - st nc) i (kd i) (nI z) d) (zf_place (zJ2 J j i) (nI i) (nI z) d).2 nk ni nm nc np0 nb kd W.length j i ∧ (zf_place (zJ2 J j i) (nI i) (nI z) d).2 (zA 8) i = nI (r - z) := by
  obtain ⟨pl, hsh, -⟩ := id n1
  have hk8 := hsh.nk8
  have hi2 := hsh.ni2
  have hc4 : nc < 40 := hsh.nc4
  have hkd := (hsh.N i hi).2
  have hG := n2.2.2.1
  obtain ⟨m1, m2, m3, m4, m5, m6, m7, m8, m9, m10, m11, m12, m13⟩ := id n3
  have hC2 : xCor I (zJ2 J j i) nk ni nm nc np kd st li := xCor_cong n2 (by omega) hm (fun m _ _ _ => rfl) (fun _ _ _ => rfl) (by simp [zJ2, iu_e]) (fun s hs _ => by funext t; simp [zJ2, iu_e, hs])
  have hx := xpE_of I (c := np - st nc) (i := i) (k := kd i) (nI z) d hc4 (n2.2.2.2.1.1 nc (by omega)).1
  have j7 : zJ2 J j i (zA 7) i = nI (kd i) := by
    have := (n2.2.1.1 i hi).1
    simpa [zJ2, iu_e] using this
  have hzp := zpE_of (zJ2 J j i) (nc := nc) (np := np) (i := i) (k := kd i) (nI z) d (by omega) (by omega) (by omega) j7 (by simpa [zJ2, iu_e] using m10) (by simpa [zJ2, iu_e] using m11)
  have hres := xCor_place hC2 hk8 (fun i hi => (hsh.N i hi).2) hi2 hc4 (by omega) hm hi hx hzp (by simpa [zJ2, iu_e] using hgo) ⟨z, r, rfl, hz, hr1, by simpa [zJ2, iu_e] using hr⟩ hd (by omega)
  generalize (zf_place (zJ2 J j i) (nI i) (nI z) d).2 = J1 at hzp hres ⊢
  generalize xI_place I nc (np - st nc) i (kd i) (nI z) d = I1 at hx hres ⊢
  obtain ⟨x1, x2, x3, x4, x5, x6, x7⟩ := hx
  obtain ⟨z1, z2, z3, z4, z5, z6, z7, z8, z9, z10, z11⟩ := hzp
  have hst : st nc ≤ np := by rw [← hG.2.2.1]; exact (hG.2.1 nc (by omega)).1
  refine ⟨⟨np + 1, xst' st nc np, xli' li np i, xShM_place n1 hG hi (by omega), hres, ?_, ?_, ?_, ?_, ?_, ?_, ?_, ?_, ?_, ?_, ?_, ?_⟩, ?_⟩
  · have hxX : I1 xX = I xX := x1 _ (by simp) (by simp) (by simp) (by simp) (by simp)
    unfold xMN
    rw [hxX, z1 0 (by omega), z1 1 (by omega), z1 6 (by omega), z1 13 (by omega), z1 17 (by omega), z1 23 (by omega), z1 25 (by omega), z2]
    unfold xMN at n3
    simpa [zJ2, iu_e, m1, m3, m4, m5, m6, m7, m8, m9, m10, m12] using m2
  · rw [xst'_o st np (Nat.le_refl _)]; exact n4
  · rw [xst'_o st np (Nat.le_refl _)]; omega
  · intro k hk
    have := n6 k hk
    rw [z3 27 (by decide)]
    have e8 : I1 (xK k) 8 = I (xK k) 8 := by
      by_cases e : k = kd i
      · subst e; rw [x7, if_neg (by omega)]
      · rw [x1 (xK k) (by simp) (by simp) (by simp) (by simp) (by simp [e])]
    rw [e8]
    simpa [zJ2, iu_e] using this
  · intro t; rw [z3 26 (by decide)]; simp [zJ2, iu_e]
  · intro i' hi'; rw [z7, if_neg hi']; simp [zJ2, iu_e]
  · rw [z3 7 (by decide)]; funext t; simp [zJ2, iu_e]
  · rw [z3 9 (by decide)]; funext t; simp [zJ2, iu_e]
  · rw [z3 11 (by decide)]; funext t; simp [zJ2, iu_e]
  · rw [z3 24 (by decide)]; funext t; simp [zJ2, iu_e]
  · exact x1 _ (by simp) (by simp) (by simp) (by simp) (by simp)
  · exact x1 _ (by simp) (by simp) (by simp) (by simp) (by simp)
  · rw [z7, if_pos rfl]
    have : zJ2 J j i (zA 8) i = nI r := by simpa [zJ2, iu_e] using hr
    rw [this, pk_sub hz]
