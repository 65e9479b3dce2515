/-! PURE: a part is placed -/
theorem zst_nat {J : nh_N → Nat → Int32} (a b : Int32) : ∀ (r : Nat), r ≤ 9000 → (∀ t, t < r → ∃ z, z ≤ 10000 ∧ J (zA 21) t = nI z) → ∃ u v, u ≤ v ∧ v ≤ 10000 * r ∧ zl_standing J a b r 0 0 = nI u ∧ zl_standing J a (-1) r 0 0 = nI v := by
  intro r
  induction r with
  | zero => intro _ _; exact ⟨0, 0, by omega, by omega, rfl, rfl⟩
  | succ r ih =>
    intro hr h
    obtain ⟨u, v, h1, h2, h3, h4⟩ := ih (by omega) (fun t ht => h t (by omega))
    obtain ⟨z, hz, ez⟩ := h r (by omega)
    rw [zst_snoc J a b r 0 0 (by omega), zst_snoc J a (-1) r 0 0 (by omega), h3, h4, Nat.zero_add]
    unfold zsP
    rw [ez, nI_add, nI_add]
    by_cases c1 : J (zA 19) r = a
    · rw [if_pos (show J (zA 19) r = a ∧ ((-1 : Int32) < 0 ∨ J (zA 7) (J (zA 20) r).toNatClampNeg = -1) from ⟨c1, .inl (by decide)⟩)]
      split
      · exact ⟨u + z, v + z, by omega, by omega, rfl, rfl⟩
      · exact ⟨u, v + z, by omega, by omega, rfl, rfl⟩
    · rw [if_neg (fun w => c1 w.1), if_neg (fun w => c1 w.1)]
      exact ⟨u, v, h1, by omega, rfl, rfl⟩
/-- what the class does when it places: cell by cell -/
def xpE (I I' : nh_N → Nat → Int32) (nc c i k : Nat) (a d : Int32) : Prop := (∀ m, m ≠ xQ nc c → m ≠ xP nc → m ≠ xSO k → m ≠ xN i → m ≠ xK k → I' m = I m) ∧ I' (xQ nc c) 1 = a ∧ I' (xQ nc c) 2 = d ∧ (∀ s, I' (xP nc) s = if s = 2 then I (xP nc) 2 + 1 else if s = 3 then I (xP nc) 3 + a else I (xP nc) s) ∧ (∀ s, I' (xSO k) s = if s = nc then I (xSO k) nc + a else I (xSO k) s) ∧ (∀ s, I' (xN i) s = if s = 7 then I (xN i) 7 + 1 else if s = 3 then I (xN i) 3 - a else if s = 6 then nI nc else if s = 5 ∧ I (xN i) 7 = 0 then nI nc else if s = 4 ∧ I (xN i) 7 = 0 then I (xK k) 7 + 1 else I (xN i) s) ∧ ∀ s, I' (xK k) s = if s = 7 ∧ I (xN i) 7 = 0 then I (xK k) 7 + 1 else I (xK k) s
theorem xpE_of (I : nh_N → Nat → Int32) {nc c i k : Nat} (a d : Int32) (hc : nc < 40) (h0 : I (xP nc) 0 = nI nc) : xpE I (xI_place I nc c i k a d) nc c i k a d := by
  have hcl : (nI nc).toNatClampNeg = nc := nI_clamp (by omega)
  by_cases h7 : I (xN i) 7 = 0
  · have e : (xf_addPart I i k (I (xP nc) 0) a).2 = iu (iu (iu (iu (iu (iu I (xN i) 5 (nI nc)) (xK k) 7 (I (xK k) 7 + 1)) (xN i) 4 (I (xK k) 7 + 1)) (xN i) 6 (nI nc)) (xN i) 7 (I (xN i) 7 + 1)) (xN i) 3 (I (xN i) 3 - a) := by
      unfold xf_addPart xf_nextNumber
      rw [if_pos h7, h0]
      simp [iu_e]
    unfold xI_place
    rw [e]
    refine ⟨fun m m1 m2 m3 m4 m5 => ?_, ?_, ?_, fun s => ?_, fun s => ?_, fun s => ?_, fun s => ?_⟩
    · funext s; simp [iu_e, nu, m1, m2, m3, m4, m5]
    · simp [iu_e, nu]
    · simp [iu_e, nu]
    · by_cases s2 : s = 2
      · subst s2; simp [iu_e, nu]
      by_cases s3 : s = 3
      · subst s3; simp [iu_e, nu]
      simp [iu_e, nu, s2, s3]
    · simp [iu_e, nu, h0, hcl]
    · simp [iu_e, nu, h7]
      by_cases s3 : s = 3
      · subst s3; simp
      · simp [s3]
        by_cases s7 : s = 7
        · subst s7; simp
        · simp [s7]
          by_cases s6 : s = 6
          · subst s6; simp
          · simp [s6]
            by_cases s4 : s = 4
            · subst s4; simp
            · simp [s4]
    · simp [iu_e, nu, h7]
  · have e : (xf_addPart I i k (I (xP nc) 0) a).2 = iu (iu (iu I (xN i) 6 (nI nc)) (xN i) 7 (I (xN i) 7 + 1)) (xN i) 3 (I (xN i) 3 - a) := by
      unfold xf_addPart
      rw [if_neg h7, h0]
    unfold xI_place
    rw [e]
    refine ⟨fun m m1 m2 m3 m4 m5 => ?_, ?_, ?_, fun s => ?_, fun s => ?_, fun s => ?_, fun s => ?_⟩
    · funext s; simp [iu_e, nu, m1, m2, m3, m4]
    · simp [iu_e, nu]
    · simp [iu_e, nu]
    · by_cases s2 : s = 2
      · subst s2; simp [iu_e, nu]
      by_cases s3 : s = 3
      · subst s3; simp [iu_e, nu]
      simp [iu_e, nu, s2, s3]
    · simp [iu_e, nu, h0, hcl]
    · simp [iu_e, nu, h7]
      by_cases s3 : s = 3
      · subst s3; simp
      · simp [s3]
    · simp [iu_e, nu, h7]
/-- the same of the reference -/
def zpE (J J' : nh_N → Nat → Int32) (nc np i k : Nat) (a d : Int32) : Prop := (∀ s, s ≠ 18 → J' zM s = J zM s) ∧ J' zM 18 = nI (np + 1) ∧ (∀ s, s ∉ ([5, 8, 10, 12, 19, 20, 21, 22] : List Nat) → J' (zA s) = J (zA s)) ∧ (∀ j, J' (zA 5) j = if j = k ∧ J (zA 12) i = 0 then J (zA 5) k + 1 else J (zA 5) j) ∧ (∀ j, J' (zA 10) j = if j = i ∧ J (zA 12) i = 0 then J (zA 5) k + 1 else J (zA 10) j) ∧ (∀ j, J' (zA 12) j = if j = i then J (zA 12) i + 1 else J (zA 12) j) ∧ (∀ j, J' (zA 8) j = if j = i then J (zA 8) i - a else J (zA 8) j) ∧ (∀ j, J' (zA 19) j = if j = np then nI nc else J (zA 19) j) ∧ (∀ j, J' (zA 20) j = if j = np then nI i else J (zA 20) j) ∧ (∀ j, J' (zA 21) j = if j = np then a else J (zA 21) j) ∧ ∀ j, J' (zA 22) j = if j = np then d else J (zA 22) j
theorem zpE_of (J : nh_N → Nat → Int32) {nc np i k : Nat} (a d : Int32) (hi : i < 200) (hk : k < 8) (hp : np < 9000) (e7 : J (zA 7) i = nI k) (e17 : J zM 17 = nI nc) (e18 : J zM 18 = nI np) : zpE J (zf_place J (nI i) a d).2 nc np i k a d := by
  have ci : (nI i).toNatClampNeg = i := nI_clamp (by omega)
  have ck : (nI k).toNatClampNeg = k := nI_clamp (by omega)
  have cp : (nI np).toNatClampNeg = np := nI_clamp (by omega)
  unfold zf_place
  rw [ci, e7, e17, e18, ck, cp]
  by_cases h : J (zA 12) i = 0
  · rw [if_pos h]
    dsimp only
    refine ⟨fun s hs => ?_, ?_, fun s hs => ?_, fun j => ?_, fun j => ?_, fun j => ?_, fun j => ?_, fun j => ?_, fun j => ?_, fun j => ?_, fun j => ?_⟩
    · simp [iu_e, hs]
    · simp [iu_e, nI_1]
    · funext j
      simp only [List.mem_cons, List.not_mem_nil, or_false, not_or] at hs
      obtain ⟨s1, s2, s3, s4, s5, s6, s7, s8⟩ := hs
      simp [iu_e, s1, s2, s3, s4, s5, s6, s7, s8]
    all_goals simp [iu_e, h]
  · rw [if_neg h]
    dsimp only
    refine ⟨fun s hs => ?_, ?_, fun s hs => ?_, fun j => ?_, fun j => ?_, fun j => ?_, fun j => ?_, fun j => ?_, fun j => ?_, fun j => ?_, fun j => ?_⟩
    · simp [iu_e, hs]
    · simp [iu_e, nI_1]
    · funext j
      simp only [List.mem_cons, List.not_mem_nil, or_false, not_or] at hs
      obtain ⟨s1, s2, s3, s4, s5, s6, s7, s8⟩ := hs
      simp [iu_e, s1, s2, s3, s4, s5, s6, s7, s8]
    all_goals simp [iu_e, h]
/-- the numbers while page nc is being closed -/
def xCor (I J : nh_N → Nat → Int32) (nk ni nm nc np : Nat) (kd st li : Nat → Nat) : Prop := xKin I J nk ∧ xIns I J ni np kd ∧ xLog J ni (nc + 1) np st li ∧ xPag I J nk (nc + 1) np st ∧ xMrk I J nk nm
def xst' (st : Nat → Nat) (nc np : Nat) : Nat → Nat := fun q => if q = nc + 1 then np + 1 else st q
def xli' (li : Nat → Nat) (np i : Nat) : Nat → Nat := fun t => if t = np then i else li t
theorem xCor_place {I I' J J' : nh_N → Nat → Int32} {nk ni nm nc np i : Nat} {kd st li : Nat → Nat} {a d : Int32} (h : xCor I J nk ni nm nc np kd st li) (hk8 : nk ≤ 8) (hkd : ∀ i, i < ni → kd i < nk) (hi2 : ni ≤ 200) (hc4 : nc < 40) (hn9 : np < 9000) (hm : nm ≤ 300) (hi : i < ni) (hx : xpE I I' nc (np - st nc) i (kd i) a d) (hzp : zpE J J' nc np i (kd i) a d) (hgo : J (zA 11) i = 0) (hr : ∃ z r, a = nI z ∧ z ≤ r ∧ r ≤ 10000 ∧ J (zA 8) i = nI r) (hd : d = 0 ∨ d = 1) (hc2 : np - st nc < 200) : xCor I' J' nk ni nm nc (np + 1) kd (xst' st nc np) (xli' li np i) := by
  obtain ⟨hK, hI, hG, hP, hM⟩ := h
  obtain ⟨x1, x2, x3, x4, x5, x6, x7⟩ := hx
  obtain ⟨z1, z2, z3, z4, z5, z6, z7, z8, z9, z10, z11⟩ := hzp
  obtain ⟨z, r, rfl, hzr, hr1, er⟩ := hr
  have hki := hkd i hi
  have hIi := hI.1 i hi
  obtain ⟨a1, a2, a3, a4, a5, -, a7, ⟨c, hc, a8⟩, a9, a10, a11, a13, a12⟩ := id hIi
  have g1 := hG.1
  have g2 := hG.2.1
  have g3 := hG.2.2.1
  have g4 := hG.2.2.2.1
  have g5 := hG.2.2.2.2
  have hst : st nc ≤ np := by rw [← g3]; exact (g2 nc (by omega)).1
  have s7 : J' (zA 7) = J (zA 7) := z3 7 (by decide)
  have hz12 : ¬ J' (zA 12) i = 0 := by rw [z6, if_pos rfl, a8, nI_1]; exact nI_ne0 (by omega) (by omega)
  have hli : ∀ t, t < np → (J (zA 20) t).toNatClampNeg < 200 := fun t ht => by
    obtain ⟨w1, w2, -⟩ := g4 t ht
    rw [w1, nI_clamp (by omega)]; omega
  have hst' : ∀ x y, zf_standing J' (np + 1) x y = if x = nI nc ∧ (y < 0 ∨ nI (kd i) = y) then zf_standing J np x y + nI z else zf_standing J np x y := fun x y => by
    unfold zf_standing
    rw [zst_snoc J' x y np 0 _ (by omega), Nat.zero_add, zst_cong (J := J) x y np 0 _ (by omega) (fun t _ ht => ⟨by rw [z8, if_neg (by omega)], by rw [z10, if_neg (by omega)], by rw [z9, if_neg (by omega), s7]⟩)]
    unfold zsP
    rw [z8, if_pos rfl, z9, if_pos rfl, z10, if_pos rfl, s7, nI_clamp (by omega), a1]
    by_cases q : x = nI nc ∧ (y < 0 ∨ nI (kd i) = y)
    · rw [if_pos q, if_pos ⟨q.1.symm, q.2⟩]
    · rw [if_neg q, if_neg (fun w => q ⟨w.1.symm, w.2⟩)]
  have hzb : ∀ x, zab J' x (np + 1) 0 (-1) (-1) = if nI i = x then ((if 0 ≤ (zab J x np 0 (-1) (-1)).1 then (zab J x np 0 (-1) (-1)).1 else nI nc), nI nc) else zab J x np 0 (-1) (-1) := fun x => by
    rw [zab_snoc J' x np 0 _ _ (by omega), Nat.zero_add, zab_cong (J := J) x np 0 _ _ (by omega) (fun t _ ht => ⟨by rw [z8, if_neg (by omega)], by rw [z9, if_neg (by omega)]⟩)]
    unfold zaP
    rw [z8, if_pos rfl, z9, if_pos rfl]
  refine ⟨?_, ?_, ?_, ?_, ?_⟩
  · refine ⟨fun k hk => ?_, fun k h1 h2 => ?_⟩
    · have := hK.1 k hk
      rw [z3 2 (by decide), z3 3 (by decide), z3 4 (by decide), z1 0 (by decide), z4]
      by_cases e : k = kd i
      · subst e
        rw [x7, x7, x7, x7]
        obtain ⟨k1, k2, k3, k4, k5, k6⟩ := this
        simp only [show ¬ (0 = 7) by omega, show ¬ (1 = 7) by omega, show ¬ (2 = 7) by omega, false_and, if_false, true_and, a7]
        refine ⟨k1, k2, k3, k4, k5, ?_⟩
        rw [k6]
      · rw [x1 (xK k) (by simp) (by simp) (by simp) (by simp) (by simp [e]), if_neg (show ¬ (k = kd i ∧ J (zA 12) i = 0) from fun w => e w.1)]
        exact this
    · rw [z4, if_neg (by omega)]; exact hK.2 k h1 h2
  · refine ⟨fun i' hi' => ?_, fun i' h1 h2 => ?_⟩
    · by_cases e : i' = i
      · subst e
        unfold xInA
        rw [hzb, if_pos rfl, s7, z3 9 (by decide), z3 11 (by decide), z5, z6, z7, x6, x6, x6, x6, x6, x6, x6, er, pk_sub hzr, a8, nI_1]
        have ne : ¬ nI (c + 1) = 0 := nI_ne0 (by omega) (by omega)
        simp only [show ¬ (0 = 7) by omega, show ¬ (2 = 7) by omega, show ¬ (3 = 7) by omega, show ¬ (4 = 7) by omega, show ¬ (5 = 7) by omega, show ¬ (6 = 7) by omega, show ¬ (0 = 3) by omega, show ¬ (2 = 3) by omega, show ¬ (4 = 3) by omega, show ¬ (5 = 3) by omega, show ¬ (6 = 3) by omega, show ¬ (7 = 3) by omega, show ¬ (0 = 6) by omega, show ¬ (2 = 6) by omega, show ¬ (4 = 6) by omega, show ¬ (5 = 6) by omega, show ¬ (0 = 5) by omega, show ¬ (2 = 5) by omega, show ¬ (4 = 5) by omega, show ¬ (0 = 4) by omega, show ¬ (2 = 4) by omega, show ¬ (5 = 4) by omega, false_and, if_false, true_and, if_true, a7, a8, a5, er, ne, not_false_eq_true]
        refine ⟨a1, a2, a3, a4, pk_sub hzr, ⟨r - z, by omega, rfl⟩, nI_1 c, ⟨c + 1, by omega, rfl⟩, ?_, ?_, fun _ => ?_, .inl ⟨hgo, fun w => w.2⟩⟩
        · have k6 := (hK.1 (kd i') hki).2.2.2.2.2
          by_cases w : nI c = 0
          · rw [if_pos w, if_pos w, k6]
          · rw [if_neg w, if_neg w, a9, a8, if_neg w]
        · by_cases w : nI c = 0
          · rw [if_pos w, zab_no J (nI i') np 0 _ _ (by omega) (fun t _ ht => fun q => by
              obtain ⟨w1, w2, w3, -⟩ := g4 t (by omega)
              rw [w1, nI_eq (by omega) (by omega)] at q
              rw [q, a8] at w3
              exact w3 w)]
            rw [if_neg (by decide)]
          · rw [if_neg w, if_pos (a13 (by rw [a8]; exact w)), a10]
        · split
          · assumption
          · exact nI_pos' (by omega)
      · have := hI.1 i' hi'
        unfold xInA at this ⊢
        rw [hzb, if_neg (fun q => e ((nI_eq (by omega) (by omega)).mp q).symm), x1 (xN i') (by simp) (by simp) (by simp) (by simp [e]) (by simp), s7, z3 9 (by decide), z3 11 (by decide), z5, if_neg (show ¬ (i' = i ∧ J (zA 12) i = 0) from fun w => e w.1), z6, if_neg e, z7, if_neg e]
        obtain ⟨b1, b2, b3, b4, b5, b6, b7, ⟨c', b8, b8'⟩, b9⟩ := this
        exact ⟨b1, b2, b3, b4, b5, b6, b7, ⟨c', by omega, b8'⟩, b9⟩
    · rw [z3 11 (by decide), z6, if_neg (by omega)]; exact hI.2 i' h1 h2
  · refine ⟨?_, fun q hq => ?_, ?_, fun t ht => ?_, fun q hq t h1 h2 => ?_⟩
    · unfold xst'; rw [if_neg (by omega)]; exact g1
    · have := g2 q hq
      unfold xst'
      by_cases e : q = nc
      · subst e
        rw [if_neg (by omega), if_pos rfl]; omega
      · rw [if_neg (by omega), if_neg (by omega)]; exact this
    · unfold xst'; rw [if_pos rfl]
    · unfold xli'
      rw [z9, z10, z11]
      by_cases e : t = np
      · rw [if_pos e, if_pos e, if_pos e, if_pos e]
        exact ⟨rfl, hi, hz12, ⟨z, by omega, rfl⟩, hd⟩
      · rw [if_neg e, if_neg e, if_neg e, if_neg e]
        obtain ⟨w1, w2, w3, w4⟩ := g4 t (by omega)
        refine ⟨w1, w2, ?_, w4⟩
        rw [z6]
        by_cases e2 : li t = i
        · rw [if_pos e2, a8, nI_1]; exact nI_ne0 (by omega) (by omega)
        · rw [if_neg e2]; exact w3
    · unfold xst' at h1 h2
      rw [if_neg (by omega)] at h1
      rw [z8]
      by_cases e : q = nc
      · subst e
        rw [if_pos rfl] at h2
        by_cases e2 : t = np
        · rw [if_pos e2]
        · rw [if_neg e2]; exact g5 q hq t h1 (by omega)
      · rw [if_neg (by omega)] at h2
        have hm := xLog_mono hG (q + 1) nc (by omega) (by omega)
        rw [if_neg (by omega)]; exact g5 q hq t h1 h2
  · refine ⟨fun q hq => ?_, fun k hk q hq => ?_⟩
    · rw [hst']
      obtain ⟨p1, p2, p3, p4⟩ := hP.1 q hq
      by_cases e : q = nc
      · subst e
        rw [x4, x4, x4, if_pos (show nI q = nI q ∧ ((-1 : Int32) < 0 ∨ nI (kd i) = -1) from ⟨rfl, .inl (by decide)⟩)]
        simp only [show ¬ (0 = 2) by omega, show ¬ (0 = 3) by omega, show ¬ (3 = 2) by omega, if_false, if_true]
        rw [g3] at p2 p4
        unfold xst'
        rw [if_pos rfl, if_neg (by omega), p2, p3, nI_1]
        refine ⟨p1, by rw [show np - st q + 1 = np + 1 - st q by omega], rfl, fun j hj => ?_⟩
        rw [z10, z11]
        by_cases e2 : j = np - st q
        · subst e2
          rw [if_pos (by omega), if_pos (by omega)]; exact ⟨x2, x3⟩
        · rw [if_neg (by omega), if_neg (by omega), x1 (xQ q j) (by simp [e2]) (by simp) (by simp) (by simp) (by simp)]
          exact p4 j (by omega)
      · rw [if_neg (fun w => e ((nI_eq (by omega) (by omega)).mp w.1)), x1 (xP q) (by simp) (by simp [e]) (by simp) (by simp) (by simp)]
        unfold xst'
        rw [if_neg (by omega), if_neg (by omega)]
        refine ⟨p1, p2, p3, fun j hj => ?_⟩
        have hm := xLog_mono hG (q + 1) nc (by omega) (by omega)
        rw [z10, z11, if_neg (by omega), if_neg (by omega), x1 (xQ q j) (by simp [e]) (by simp) (by simp) (by simp) (by simp)]
        exact p4 j hj
    · rw [hst']
      have p := hP.2 k hk q hq
      by_cases e : k = kd i
      · subst e
        rw [x5]
        by_cases e2 : q = nc
        · subst e2
          rw [if_pos rfl, if_pos ⟨rfl, .inr rfl⟩, p]
        · rw [if_neg e2, if_neg (fun w => e2 ((nI_eq (by omega) (by omega)).mp w.1)), p]
      · rw [x1 (xSO k) (by simp) (by simp) (by simp [e]) (by simp) (by simp), if_neg (fun w => w.2.elim (nI_pos (by omega)) (fun w => e ((nI_eq (by omega) (by omega)).mp w).symm)), p]
  · exact xMrk_cong hM (by omega) (fun q => x1 _ (by simp) (by simp) (by simp) (by simp) (by simp)) (fun q => x1 _ (by simp) (by simp) (by simp) (by simp) (by simp)) (fun q => x1 _ (by simp) (by simp) (by simp) (by simp) (by simp)) (z3 14 (by decide)) (z3 15 (by decide)) (z3 16 (by decide))
