/-! PURE: mark and cancel -/
theorem xMrk_add {I J I' J' : nh_N → Nat → Int32} {nk nm k q : Nat} {b : Int32} (h : xMrk I J nk nm) (hk : k < nk) (hq : q < 40) (hk8 : nk ≤ 8 ∧ nm < 300) (e14 : ∀ t, J' (zA 14) t = if t = nm then nI k else J (zA 14) t) (e15 : ∀ t, J' (zA 15) t = if t = nm then nI q else J (zA 15) t) (e16 : ∀ t, J' (zA 16) t = if t = nm then b else J (zA 16) t) (hHM : ∀ k' q', I' (xHM k') q' = if k' = k ∧ q' = q then 1 else I (xHM k') q') (hFT : ∀ k' q', I' (xFT k') q' = if (k' = k ∧ q' = q) ∧ I (xHM k) q = 0 then b else I (xFT k') q') (hLT : ∀ k' q', I' (xLT k') q' = if k' = k ∧ q' = q then b else I (xLT k') q') : xMrk I' J' nk (nm + 1) := by
  have hs : ∀ a c d, zf_markOn J' (nm + 1) a c d = zmP J' a c d nm (zf_markOn J nm a c d) := fun a c d => by
    unfold zf_markOn
    rw [zmk_snoc J' a c d nm 0 _ (by omega), Nat.zero_add, zmk_cong (J := J) a c d nm 0 _ (by omega) (fun t _ ht => ⟨by rw [e14, if_neg (by omega)], by rw [e15, if_neg (by omega)]⟩)]
  have hv : ∀ a c d, ¬ zf_markOn J nm a c d < 0 → J' (zA 16) (zf_markOn J nm a c d).toNatClampNeg = J (zA 16) (zf_markOn J nm a c d).toNatClampNeg := fun a c d hn => by
    rcases zmk_in J a c d nm 0 (-1) (by omega) with w | ⟨t, -, w2, w3⟩
    · exact absurd (show zf_markOn J nm a c d < 0 by unfold zf_markOn; rw [w]; decide) hn
    · rw [show zf_markOn J nm a c d = nI t from w3, nI_clamp (by omega), e16, if_neg (by omega)]
  refine ⟨fun k' hk' q' hq' => ?_, fun t ht => ?_⟩
  · unfold xMrA
    rw [hs, hs]
    have ho := h.1 k' hk' q' hq'
    by_cases he : k' = k ∧ q' = q
    · obtain ⟨rfl, rfl⟩ := he
      rw [hHM, if_pos ⟨rfl, rfl⟩, hFT, hLT, if_pos (show k' = k' ∧ q' = q' from ⟨rfl, rfl⟩)]
      unfold zmP
      rw [e14, e15, if_pos rfl, if_pos rfl]
      rcases ho with ⟨h1, h2, h3⟩ | ⟨h1, h2, h3, h4, h5⟩
      · rw [if_pos ⟨rfl, rfl, .inl h1⟩, if_pos ⟨rfl, rfl, .inl h2⟩, if_pos ⟨⟨rfl, rfl⟩, h3⟩, nI_clamp (by omega), e16, if_pos rfl]
        exact .inr ⟨nI_pos (by omega), nI_pos (by omega), rfl, rfl, rfl⟩
      · rw [if_neg (fun w => w.2.2.elim h1 one_ne0), if_pos ⟨rfl, rfl, .inr rfl⟩, if_neg (fun w => by rw [h3] at w; exact one_ne0 w.2), hv _ _ _ h1, nI_clamp (by omega), e16, if_pos rfl]
        exact .inr ⟨h1, nI_pos (by omega), rfl, h4, rfl⟩
    · have hz : ∀ d, zmP J' (nI k') (nI q') d nm (zf_markOn J nm (nI k') (nI q') d) = zf_markOn J nm (nI k') (nI q') d := fun d => by
        unfold zmP
        rw [e14, e15, if_pos rfl, if_pos rfl, if_neg (fun w => he ⟨((nI_eq (by omega) (by omega)).mp w.1).symm, ((nI_eq (by omega) (by omega)).mp w.2.1).symm⟩)]
      rw [hz, hz, hHM, if_neg he, hFT, if_neg (fun w => he w.1), hLT, if_neg he]
      rcases ho with ⟨h1, h2, h3⟩ | ⟨h1, h2, h3, h4, h5⟩
      · exact .inl ⟨h1, h2, h3⟩
      · rw [hv _ _ _ h1, hv _ _ _ h2]
        exact .inr ⟨h1, h2, h3, h4, h5⟩
  · rw [e14]
    by_cases e : t = nm
    · rw [if_pos e]; exact ⟨k, hk, rfl⟩
    · rw [if_neg e]; exact h.2 t (by omega)
theorem xh_mark (l : Launch) (D : va_G) (cA : Nat → ClassId) (a b d : Int32) : lwOp l D cA xSim yX5_mark vX5_mark 2 43 yX6_mark vX6_mark 2 43 [.int a, .int b, .int d] := by
  refine lwOp_eq (fun _ _ _ _ _ _ _ _ _ h => xSim_X h) ?_
  rintro nc S g I R S2 g2 J R2 hS
  obtain ⟨nk, ni, nm, np, nb, kd, pl, st, li, hsh, hfr, hz, hN, hK, hI, hG, hP, hM, hO, hL⟩ := id hS
  obtain ⟨e0, e0', e1, e2, e3, e4, e5, e6, e7, e8, e9, e10, e11, e12, e13⟩ := id hN
  have hk8 := hsh.nk8
  have hc4 := hsh.nc4
  refine ⟨_, _, _, _, cxf_mark l D cA hsh a b d, zc_mark l D cA hz a b d nm e6 e7, ?_⟩
  unfold xf_mark zf_mark zf_isClass xf_isClosed
  rw [zin_40, xpg_40, zin_x J a (show J zM 1 - 1 = nI nk - 1 by rw [e2]) (by omega)]
  cases ea : xat nk a with
  | none => exact ⟨rfl, hS⟩
  | some k =>
    obtain ⟨rfl, hk⟩ := xat_some ea (by omega)
    simp only [Option.isSome_some, if_true]
    rw [if_neg one_ne0]
    cases ed : xat 40 d with
    | none => exact ⟨rfl, hS⟩
    | some q =>
      obtain ⟨rfl, hq⟩ := xat_some ed (by omega)
      simp only [Option.isSome_some, if_true]
      rw [if_neg one_ne0, if_neg one_ne0, e8, e9, e5, e6]
      by_cases h1 : nI nc ≤ nI q
      · simp only [if_pos h1, if_true]
        by_cases h2 : nm = 300
        · rw [if_neg (by rw [h2]; decide), if_pos (by rw [h2]; rfl)]
          exact ⟨rfl, hS⟩
        · rw [if_pos (by rw [show (300 : Int32) = nI 300 from rfl]; exact nI_lt (by omega) (by omega)), if_neg (by rw [show (300 : Int32) = nI 300 from rfl, nI_eq (by omega) (by omega)]; exact h2)]
          have hd : (xf_addMark I k (nI q) b).2 = (if I (xHM k) q = 0 then iu (iu (iu I (xHM k) q 1) (xFT k) q b) (xLT k) q b else iu I (xLT k) q b) := by
            unfold xf_addMark; rw [nI_clamp (by omega)]; split <;> rfl
          rw [hd, nI_clamp (n := nm) (by omega)]
          generalize hI1 : (if I (xHM k) q = 0 then iu (iu (iu I (xHM k) q 1) (xFT k) q b) (xLT k) q b else iu I (xLT k) q b) = I1
          have o1 : ∀ n : nh_N, n.1 ≠ 8 → n.1 ≠ 9 → n.1 ≠ 10 → I1 n = I n := fun n n1 n2 n3 => by
            have a1 : n ≠ xHM k := fun w => n1 (by rw [w])
            have a2 : n ≠ xFT k := fun w => n2 (by rw [w])
            have a3 : n ≠ xLT k := fun w => n3 (by rw [w])
            rw [← hI1]; split
            · rw [iu_o _ _ _ a3, iu_o _ _ _ a2, iu_o _ _ _ a1]
            · rw [iu_o _ _ _ a3]
          have ox : I1 xX = I xX := o1 _ (by decide) (by decide) (by decide)
          dsimp only
          refine ⟨by rw [ox, e5], nk, ni, nm + 1, np, nb, kd, pl, st, li, hsh, hfr, hz, ?_, ?_, ?_, ?_, ?_, ?_, ?_, ?_⟩
          · unfold xNum
            simp [iu_e, ox, e0, e1, e2, e3, e4, e5, e6, e8, e9, e10, e11, e12, e13, nI_1]
            refine ⟨?_, by omega⟩
            obtain ⟨pr, p1, p2, p3⟩ := e0'
            exact ⟨pr, p1, p2, p3⟩
          · exact xKin_cong hK (fun k => by rw [iu_o _ _ _ (by simp), o1 _ (by simp) (by simp) (by simp)]) (by simp [iu_e]) (by funext j; simp [iu_e]) (by funext j; simp [iu_e]) (by funext j; simp [iu_e]) (by funext j; simp [iu_e])
          · exact xIns_cong hI (by omega) (fun k => by rw [iu_o _ _ _ (by simp), o1 _ (by simp) (by simp) (by simp)]) (by funext j; simp [iu_e]) (by funext j; simp [iu_e]) (by funext j; simp [iu_e]) (by funext j; simp [iu_e]) (by funext j; simp [iu_e]) (by funext j; simp [iu_e]) (by funext j; simp [iu_e]) (by funext j; simp [iu_e])
          · exact xLog_cong hG (by funext j; simp [iu_e]) (by funext j; simp [iu_e]) (by funext j; simp [iu_e]) (by funext j; simp [iu_e]) (by funext j; simp [iu_e])
          · exact xPag_cong hP (by omega) (fun k => by rw [iu_o _ _ _ (by simp), o1 _ (by simp) (by simp) (by simp)]) (fun k j => by rw [iu_o _ _ _ (by simp), o1 _ (by simp) (by simp) (by simp)]) (fun k => by rw [iu_o _ _ _ (by simp), o1 _ (by simp) (by simp) (by simp)]) (by funext j; simp [iu_e]) (by funext j; simp [iu_e]) (by funext j; simp [iu_e]) (by funext j; simp [iu_e]) (by funext j; simp [iu_e])
          · refine xMrk_add (k := k) (q := q) (b := b) hM hk hq (by omega) (fun t => by simp [iu_e]) (fun t => by simp [iu_e]) (fun t => by simp [iu_e]) (fun k' q' => ?_) (fun k' q' => ?_) (fun k' q' => ?_)
            · rw [iu_o _ _ _ (by simp), ← hI1]
              split
              · rename_i z; simp [iu_e]
              · rename_i z
                simp [iu_e]
                rintro rfl rfl
                exact (hM.1 _ hk _ hq).elim (fun w => absurd w.2.2 z) (fun w => w.2.2.1)
            · rw [iu_o _ _ _ (by simp), ← hI1]
              split
              · rename_i z; simp [iu_e, z]
              · rename_i z; simp [iu_e, z]
            · rw [iu_o _ _ _ (by simp), ← hI1]
              split
              · rename_i z; simp [iu_e, z]
              · rename_i z; simp [iu_e, z]
          · exact xOrd_cong hO (by funext j; simp [iu_e]) (by funext j; simp [iu_e]) (by funext j; simp [iu_e]) (by funext j; simp [iu_e])
          · exact xLin_cong hL (by rw [iu_o _ _ _ (by simp), o1 _ (by simp) (by simp) (by simp)]) (by rw [iu_o _ _ _ (by simp), o1 _ (by simp) (by simp) (by simp)]) (by funext j; simp [iu_e]) (by funext j; simp [iu_e]) (by funext j; simp [iu_e])
      · simp only [if_neg h1]
        rw [if_neg one_ne0]
        exact ⟨rfl, hS⟩
/-! cancel -/
theorem fm_filter {f f' : Nat → Option Nat} {i : Nat} : ∀ (l : List Nat), (∀ q, q ∈ l → f' q = if f q = some i then none else f q) → l.filterMap f' = (l.filterMap f).filter (fun x => x != i) := by
  intro l
  induction l with
  | nil => intro _; rfl
  | cons x l ih =>
    intro h
    rw [List.filterMap_cons, List.filterMap_cons, h x List.mem_cons_self, ih (fun q hq => h q (List.mem_cons_of_mem _ hq))]
    cases e : f x with
    | none => simp
    | some y =>
      by_cases e2 : y = i
      · subst e2; simp
      · rw [if_neg (by simp [e2])]
        simp [e2]
theorem xtk_spec (i : Nat) (hi : i < 200) : ∀ (r j c : Nat) (J : nh_N → Nat → Int32) (L K : List Nat), L.length = r → K.length = c → c ≤ j → j + r ≤ 200 → (∀ t x, L[t]? = some x → x < 200 ∧ J xLR (j + t) = nI x) → (∀ t x, K[t]? = some x → J xLR t = nI x) → (xl_tk (nI i) r j c J).1 = (K ++ L.filter (fun x => x != i)).length ∧ (∀ t x, (K ++ L.filter (fun x => x != i))[t]? = some x → (xl_tk (nI i) r j c J).2 xLR t = nI x) ∧ ∀ m, m ≠ xLR → (xl_tk (nI i) r j c J).2 m = J m := by
  intro r
  induction r with
  | zero =>
    intro j c J L K hL hK _ _ _ h2
    have : L = [] := List.length_eq_zero_iff.mp hL
    subst this
    simp only [List.filter_nil, List.append_nil]
    exact ⟨hK.symm, h2, fun _ _ => rfl⟩
  | succ r ih =>
    intro j c J L K hL hK hc hj h1 h2
    cases L with
    | nil => cases hL
    | cons y L =>
      obtain ⟨hy, hyr⟩ := h1 0 y rfl
      rw [Nat.add_zero] at hyr
      have hL' : L.length = r := by simpa using hL
      rw [xl_tk]
      unfold xs_tk
      rw [nI_clamp (n := j) (by omega), hyr, nI_clamp (n := c) (by omega)]
      by_cases e : y = i
      · subst e
        rw [if_pos rfl, List.filter_cons_of_neg (by simp)]
        exact ih (j + 1) c J L K hL' hK (by omega) (by omega) (fun t x hx => by
          have := h1 (t + 1) x (by simpa using hx)
          rw [show j + 1 + t = j + (t + 1) by omega]; exact this) h2
      · rw [if_neg (fun w => e ((nI_eq (by omega) (by omega)).mp w)), List.filter_cons_of_pos (by simp [e])]
        have := ih (j + 1) (c + 1) (iu J xLR c (nI y)) L (K ++ [y]) hL' (by simp [hK]) (by omega) (by omega) (fun t x hx => by
          have := h1 (t + 1) x (by simpa using hx)
          rw [show j + 1 + t = j + (t + 1) by omega, iu_e, if_neg (by omega)]; exact this) (fun t x hx => by
          rw [iu_e]
          by_cases e3 : t = c
          · subst e3
            rw [List.getElem?_append_right (by omega), hK, Nat.sub_self] at hx
            rw [if_pos ⟨rfl, rfl⟩]
            have : y = x := by simpa using hx
            rw [this]
          · rw [if_neg (fun w => e3 w.2)]
            have : t < c := by
              have := (List.getElem?_eq_some_iff.mp hx).1
              simp [hK] at this; omega
            rw [List.getElem?_append_left (by omega)] at hx
            exact h2 t x hx)
        rw [List.append_assoc, List.singleton_append] at this
        refine ⟨this.1, this.2.1, fun m hm => ?_⟩
        rw [this.2.2 m hm, iu_o _ _ _ hm]
theorem xh_cancel (l : Launch) (D : va_G) (cA : Nat → ClassId) (a : Int32) : lwOp l D cA xSim yX5_cancel vX5_cancel 2 43 yX6_cancel vX6_cancel 1 22 [.int a] := by
  refine lwOp_eq (fun _ _ _ _ _ _ _ _ _ h => xSim_X h) ?_
  rintro nc S g I R S2 g2 J R2 hS
  obtain ⟨nk, ni, nm, np, nb, kd, pl, st, li, hsh, hfr, hz, hN, hK, hI, hG, hP, hM, hO, hL⟩ := id hS
  obtain ⟨e0, e0', e1, e2, e3, e4, e5, e6, e7, e8, e9, e10, e11, e12, e13⟩ := id hN
  have hi2 := hsh.ni2
  have hc4 := hsh.nc4
  have hlen := zhl_len J nb
  refine ⟨_, _, _, _, cxf_cancel l D cA hsh a _ hL.1 (by omega), zc_cancel l D cA hz a ni e4 hi2, ?_⟩
  unfold xf_cancel zf_cancel
  rw [zin_x J a (show J zM 6 - 1 = nI ni - 1 by rw [e4]) (by omega)]
  cases ea : xat ni a with
  | none => exact ⟨rfl, hS⟩
  | some i =>
    obtain ⟨rfl, hi⟩ := xat_some ea (by omega)
    have hIi := hI.1 i hi
    obtain ⟨a1, a2, a3, a4, a5, ⟨rr, hr, a6⟩, a7, ⟨c, hc, a8⟩, a9, a10, a11, a13, a12⟩ := id hIi
    simp only [Option.isSome_some, if_true]
    rw [if_neg one_ne0, nI_clamp (n := i) (by omega), a7, a8]
    by_cases hc0 : c = 0
    · subst hc0
      have h00 : ¬ (0 : Int32) < nI 0 := by decide
      simp only [if_neg h00]
      unfold xf_isTakenBack
      rw [a7, a8, a5]
      rcases a12 with ⟨b1, b2⟩ | ⟨b1, b2, b3⟩
      · have hr0 : ¬ J (zA 8) i = 0 := fun w => b2 ⟨w, a8⟩
        rw [if_neg hr0, if_pos rfl, if_pos b1]
        dsimp only
        have hlx : ∀ t x, (zhl J nb)[t]? = some x → x < 200 ∧ (iu I (xN i) 3 0) xLR (0 + t) = nI x := fun t x hx => ⟨zhl_200 J e13 (xOrd_o hO hi2) x (List.mem_of_getElem? hx), by rw [iu_o _ _ _ (by simp), Nat.zero_add]; exact hL.2 t x hx⟩
        obtain ⟨t1, t2, t3⟩ := xtk_spec i (by omega) (zhl J nb).length 0 0 (iu I (xN i) 3 0) (zhl J nb) [] rfl rfl (Nat.le_refl _) (by omega) hlx (fun t x hx => by cases hx)
        unfold xf_takeOut
        generalize xl_tk (nI i) (zhl J nb).length 0 0 (iu I (xN i) 3 0) = P at t1 t2 t3 ⊢
        rw [List.nil_append] at t1 t2
        have hfl : zhl (iu (iu J (zA 11) i 1) (zA 8) i 0) nb = (zhl J nb).filter (fun x => x != i) := by
          unfold zhl
          apply fm_filter
          intro q hq
          obtain ⟨i', w1, w2⟩ := xOrd_o hO hi2 q (List.mem_range.mp hq)
          have e24 : iu (iu J (zA 11) i 1) (zA 8) i 0 (zA 24) = J (zA 24) := by funext j; simp [iu_e]
          rw [e24, w2, nI_clamp (n := i') (by omega)]
          by_cases e : i' = i
          · subst e
            rw [if_neg (by simp [iu_e])]
            by_cases A : J (zA 11) i' = 0 ∧ ¬ J (zA 8) i' ≤ 0
            · rw [if_pos A, if_pos rfl]
            · rw [if_neg A, if_neg (by simp)]
          · have x1 : iu (iu J (zA 11) i 1) (zA 8) i 0 (zA 11) i' = J (zA 11) i' := by simp [iu_e, e]
            have x2 : iu (iu J (zA 11) i 1) (zA 8) i 0 (zA 8) i' = J (zA 8) i' := by simp [iu_e, e]
            rw [x1, x2]
            by_cases A : J (zA 11) i' = 0 ∧ ¬ J (zA 8) i' ≤ 0
            · rw [if_pos A, if_neg (by simp [e])]
            · rw [if_neg A, if_neg (by simp)]
        have oN : ∀ n : nh_N, n ≠ xLR → n ≠ xLN → iu P.2 xLN 1 (nI P.1) n = iu I (xN i) 3 0 n := fun n n1 n2 => by rw [iu_o _ _ _ n2, t3 n n1]
        refine ⟨rfl, nk, ni, nm, np, nb, kd, pl, st, li, hsh, hfr, hz, ?_, ?_, ?_, ?_, ?_, ?_, ?_, ?_⟩
        · unfold xNum
          have ox : iu P.2 xLN 1 (nI P.1) xX = I xX := by rw [oN _ (by simp) (by simp), iu_o _ _ _ (by simp)]
          rw [ox]
          simp only [iu_o _ _ _ (show zM ≠ zA 8 by simp), iu_o _ _ _ (show zM ≠ zA 11 by simp)]
          exact hN
        · exact xKin_cong hK (fun k => by rw [oN _ (by simp) (by simp), iu_o _ _ _ (by simp)]) (by simp [iu_e]) (by funext j; simp [iu_e]) (by funext j; simp [iu_e]) (by funext j; simp [iu_e]) (by funext j; simp [iu_e])
        · refine ⟨fun i' hi' => ?_, fun i' h1 h2 => ?_⟩
          · have ho := hI.1 i' hi'
            have hzb : ∀ x, zab (iu (iu J (zA 11) i 1) (zA 8) i 0) x np 0 (-1) (-1) = zab J x np 0 (-1) (-1) := fun x => zab_cong x np 0 _ _ (by omega) (fun t _ _ => ⟨by simp [iu_e], by simp [iu_e]⟩)
            unfold xInA at ho ⊢
            rw [oN _ (by simp) (by simp), hzb]
            by_cases e : i' = i
            · subst e
              simp [iu_e, a1, a2, a3, a4, a7, a8, a9, a10, a11]
              exact ⟨⟨0, by omega, rfl⟩, ⟨0, by omega, rfl⟩, by simp [nI_0]⟩
            · simpa [iu_e, e] using ho
          · have := hI.2 i' h1 h2
            simpa [iu_e, show i' ≠ i by omega] using this
        · exact xLog_cong hG (by funext j; simp [iu_e]) (by funext j; simp [iu_e]) (by funext j; simp [iu_e]) (by funext j; simp [iu_e]) (by funext j; simp [iu_e])
        · exact xPag_cong hP (by omega) (fun k => by rw [oN _ (by simp) (by simp), iu_o _ _ _ (by simp)]) (fun k j => by rw [oN _ (by simp) (by simp), iu_o _ _ _ (by simp)]) (fun k => by rw [oN _ (by simp) (by simp), iu_o _ _ _ (by simp)]) (by funext j; simp [iu_e]) (by funext j; simp [iu_e]) (by funext j; simp [iu_e]) (by funext j; simp [iu_e]) (by funext j; simp [iu_e])
        · exact xMrk_cong hM (by omega) (fun k => by rw [oN _ (by simp) (by simp), iu_o _ _ _ (by simp)]) (fun k => by rw [oN _ (by simp) (by simp), iu_o _ _ _ (by simp)]) (fun k => by rw [oN _ (by simp) (by simp), iu_o _ _ _ (by simp)]) (by funext j; simp [iu_e]) (by funext j; simp [iu_e]) (by funext j; simp [iu_e])
        · obtain ⟨o1, o2, o3⟩ := hO
          refine ⟨by simpa [iu_e] using o1, by simpa [iu_e] using o2, ?_⟩
          intro i' t h1 h2 h3 h4 h5
          by_cases e : i' = i
          · subst e; simp [iu_e] at h4
          · have := o3 i' t h1 (by simpa [iu_e] using h2) h3 (by simpa [iu_e, e] using h4) (by simpa [iu_e, e] using h5)
            simpa [iu_e] using this
        · refine ⟨?_, fun t x hx => ?_⟩
          · rw [hfl, iu_e, if_pos ⟨rfl, rfl⟩, t1]
          · rw [hfl] at hx
            rw [iu_o _ _ _ (by simp)]
            exact t2 t x hx
      · rw [if_pos b2, if_pos (show nI 0 = 0 from rfl), if_neg one_ne0, if_neg (by rw [b1]; decide)]
        exact ⟨rfl, hS⟩
    · rw [if_pos (by rw [show (0 : Int32) = nI 0 from rfl]; exact nI_lt (by omega) (by omega)), if_pos (by rw [show (0 : Int32) = nI 0 from rfl]; exact nI_lt (by omega) (by omega))]
      exact ⟨rfl, hS⟩
