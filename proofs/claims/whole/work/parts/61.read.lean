/-! PURE: the calls that only read -/
theorem nI_nm1 {n : Nat} (h : n < 2 ^ 31) : ¬ nI n = -1 := fun e => nI_pos h (by rw [e]; decide)
theorem nI_le0 {n : Nat} (h : n < 2 ^ 31) : nI n ≤ 0 ↔ n = 0 := by
  constructor
  · intro q; cases n with
    | zero => rfl
    | succ n => exact absurd q (nI_nle (by omega) h)
  · rintro rfl; decide
theorem nI_eq0 {n : Nat} (h : n < 2 ^ 31) : nI n = 0 ↔ n = 0 := by
  rw [← nI_0]; exact nI_eq h (by omega)
/-- the held, by recursion -/
def zhr (J : nh_N → Nat → Int32) : Nat → Nat → List Nat
  | 0, _ => []
  | r + 1, j => if J (zA 11) (J (zA 24) j).toNatClampNeg = 0 ∧ ¬ J (zA 8) (J (zA 24) j).toNatClampNeg ≤ 0 then (J (zA 24) j).toNatClampNeg :: zhr J r (j + 1) else zhr J r (j + 1)
theorem zhr_eq (J : nh_N → Nat → Int32) : ∀ r j, zhr J r j = (List.range' j r).filterMap (fun q => if J (zA 11) (J (zA 24) q).toNatClampNeg = 0 ∧ ¬ J (zA 8) (J (zA 24) q).toNatClampNeg ≤ 0 then some (J (zA 24) q).toNatClampNeg else none) := by
  intro r
  induction r with
  | zero => intro j; rfl
  | succ r ih =>
    intro j
    rw [List.range'_succ, List.filterMap_cons, zhr, ih (j + 1)]
    by_cases h : J (zA 11) (J (zA 24) j).toNatClampNeg = 0 ∧ ¬ J (zA 8) (J (zA 24) j).toNatClampNeg ≤ 0
    · rw [if_pos h, if_pos h]
    · rw [if_neg h, if_neg h]
theorem zhl_eq (J : nh_N → Nat → Int32) (nb : Nat) : zhl J nb = zhr J nb 0 := by
  rw [zhr_eq, ← List.range_eq_range']; rfl
theorem zhl_len (J : nh_N → Nat → Int32) (nb : Nat) : (zhl J nb).length ≤ nb := by
  unfold zhl
  exact Nat.le_trans (List.length_filterMap_le _ _) (by rw [List.length_range]; exact Nat.le_refl _)
theorem zl_heldAt_eq (J : nh_N → Nat → Int32) (a : Int32) (ha : ¬ a < 0) : ∀ (r j c : Nat), j + r ≤ 200 → c < 2 ^ 31 → (∀ q, j ≤ q → q < j + r → ∃ i, i < 200 ∧ J (zA 24) q = nI i) → zl_heldAt J a r j (nI c) = (match (zhr J r j)[c]? with | some i => nI i | none => -1) := by
  intro r
  induction r with
  | zero => intro j c _ _ _; rfl
  | succ r ih =>
    intro j c hj hc ho
    obtain ⟨i, hi, ei⟩ := ho j (by omega) (by omega)
    have ih' := ih (j + 1)
    unfold zl_heldAt zhr
    rw [if_neg ha, nI_clamp (n := j) (by omega), ei, nI_clamp (n := i) (by omega)]
    have e0 : nI c - 0 = nI c := by rw [show (0 : Int32) = nI 0 from rfl, pk_sub (by omega)]; rfl
    by_cases h1 : J (zA 11) i = 0
    · rw [if_pos h1]
      by_cases h2 : J (zA 8) i ≤ 0
      · rw [if_pos h2, if_neg (fun q => q.2 h2), e0]
        exact ih' c (by omega) hc (fun q a b => ho q (by omega) (by omega))
      · rw [if_neg h2, if_pos (show J (zA 11) i = 0 ∧ ¬ J (zA 8) i ≤ 0 from ⟨h1, h2⟩)]
        cases c with
        | zero => rw [if_pos (by rfl)]; rfl
        | succ c =>
          rw [if_neg (nI_ne0 (by omega) (by omega)), nI_pred, List.getElem?_cons_succ]
          exact ih' c (by omega) (by omega) (fun q a b => ho q (by omega) (by omega))
    · rw [if_neg h1, if_neg (fun q => h1 q.1), e0]
      exact ih' c (by omega) hc (fun q a b => ho q (by omega) (by omega))
theorem zl_heldAt_neg (J : nh_N → Nat → Int32) (a x : Int32) (ha : a < 0) : ∀ (r j : Nat), zl_heldAt J a r j x = -1 := by
  intro r j
  cases r with
  | zero => rfl
  | succ r => unfold zl_heldAt; rw [if_pos ha]
theorem zf_heldAt_nI (J : nh_N → Nat → Int32) {nb : Nat} (hb : nb ≤ 200) (ho : ∀ q, q < nb → ∃ i, i < 200 ∧ J (zA 24) q = nI i) {c : Nat} (hc : c < 2 ^ 31) : zf_heldAt J nb (nI c) = (match (zhl J nb)[c]? with | some i => nI i | none => -1) := by
  unfold zf_heldAt
  rw [zl_heldAt_eq J _ (nI_pos (by omega)) nb 0 c (by omega) hc (fun q _ h => ho q (by omega)), zhl_eq]
theorem zhl_200 (J : nh_N → Nat → Int32) {nb : Nat} (hb : nb ≤ 200) (ho : ∀ q, q < nb → ∃ i, i < 200 ∧ J (zA 24) q = nI i) : ∀ i, i ∈ zhl J nb → i < 200 := by
  intro i h
  unfold zhl at h
  obtain ⟨q, hq, e⟩ := List.mem_filterMap.mp h
  obtain ⟨i', h', e'⟩ := ho q (List.mem_range.mp hq)
  rw [e', nI_clamp (by omega)] at e
  split at e
  · cases e; exact h'
  · cases e
theorem xOrd_o {J : nh_N → Nat → Int32} {ni nc nb : Nat} (h : xOrd J ni nc nb) (hn : ni ≤ 200) : ∀ q, q < nb → ∃ i, i < 200 ∧ J (zA 24) q = nI i := fun q hq => by
  obtain ⟨i, h1, h2, -⟩ := h.1 q hq
  exact ⟨i, by omega, h2⟩
theorem held_eq {I J : nh_N → Nat → Int32} {nb : Nat} (hb : nb ≤ 200) (ho : ∀ q, q < nb → ∃ i, i < 200 ∧ J (zA 24) q = nI i) (hL : xLin I J nb) (a : Int32) : xf_held I a = zf_held J nb a := by
  have hlen := zhl_len J nb
  unfold xf_held zf_held xf_indexAt
  rw [hL.1, xin_x I a rfl (by omega)]
  cases h : xat (zhl J nb).length a with
  | some t =>
    obtain ⟨rfl, ht⟩ := xat_some h (by omega)
    obtain ⟨i, hi⟩ : ∃ i, (zhl J nb)[t]? = some i := ⟨_, List.getElem?_eq_getElem ht⟩
    rw [zf_heldAt_nI J hb ho (by omega), hi, nI_clamp (by omega), hL.2 t i hi]
    simp
  | none =>
    simp
    by_cases ha : a < 0
    · unfold zf_heldAt; rw [zl_heldAt_neg J a a ha]
    · unfold zf_heldAt
      obtain ⟨c, hc, rfl⟩ := nI_of ha
      rw [xat_nI (by omega)] at h
      have := zf_heldAt_nI J hb ho hc
      unfold zf_heldAt at this
      rw [this, List.getElem?_eq_none (by by_cases q : c < (zhl J nb).length; (rw [if_pos q] at h; cases h); omega)]
theorem xh_count (l : Launch) (D : va_G) (cA : Nat → ClassId) (a : Int32) : lwOp l D cA xSim yX5_count vX5_count 0 0 yX6_count vX6_count 1 24 [.int a] := by
  refine lwOp_ro (fun _ _ _ _ _ _ _ _ _ h => xSim_X h) ?_
  rintro nc S g I R S2 g2 J R2 ⟨nk, ni, nm, np, nb, kd, pl, st, li, hsh, -, hz, hN, hK, hI, hG, hP, hM, hO, hL⟩
  obtain ⟨e0, e0', e1, e2, e3, e4, e5, e6, e7, e8, e9, e10, e11, e12, e13⟩ := hN
  have ho := xOrd_o hO hsh.ni2
  have hlen := zhl_len J nb
  refine ⟨_, _, cxf_count l D cA hsh a, zc_count l D cA hz a nb e12 e13 ho (zhl J nb).length (by omega) ?_ ?_, ?_⟩
  · intro j hj
    obtain ⟨i, hi⟩ : ∃ i, (zhl J nb)[j]? = some i := ⟨_, List.getElem?_eq_getElem hj⟩
    rw [zf_heldAt_nI J e13 ho (by omega), hi]
    have := zhl_200 J e13 ho i (List.mem_of_getElem? hi)
    exact nI_pos (by omega)
  · rw [zf_heldAt_nI J e13 ho (by omega), List.getElem?_eq_none (Nat.le_refl _)]; decide
  · have hc : ∀ r j, zl_count J a r j = nI (j + r) := by
      intro r
      induction r with
      | zero => intro j; rfl
      | succ r ih => intro j; unfold zl_count; rw [ih, show j + 1 + r = j + (r + 1) by omega]
    unfold xf_count zf_count
    rw [hc, e1, e2, e3, e4, e5, e6, e8, e9, hL.1, Nat.zero_add]
theorem xh_held (l : Launch) (D : va_G) (cA : Nat → ClassId) (a : Int32) : lwOp l D cA xSim yX5_held vX5_held 2 43 yX6_held vX6_held 1 24 [.int a] := by
  refine lwOp_ro (fun _ _ _ _ _ _ _ _ _ h => xSim_X h) ?_
  rintro nc S g I R S2 g2 J R2 ⟨nk, ni, nm, np, nb, kd, pl, st, li, hsh, -, hz, hN, hK, hI, hG, hP, hM, hO, hL⟩
  obtain ⟨e0, e0', e1, e2, e3, e4, e5, e6, e7, e8, e9, e10, e11, e12, e13⟩ := hN
  have ho := xOrd_o hO hsh.ni2
  have hlen := zhl_len J nb
  exact ⟨_, _, cxf_held l D cA hsh a _ hL.1 (by omega), zc_held l D cA hz a nb e12 e13 ho, held_eq e13 ho hL a⟩
theorem xh_about (l : Launch) (D : va_G) (cA : Nat → ClassId) (a b : Int32) : lwOp l D cA xSim yX5_about vX5_about 2 43 yX6_about vX6_about 1 22 [.int a, .int b] := by
  refine lwOp_ro (fun _ _ _ _ _ _ _ _ _ h => xSim_X h) ?_
  rintro nc S g I R S2 g2 J R2 ⟨nk, ni, nm, np, nb, kd, pl, st, li, hsh, -, hz, hN, hK, hI, hG, hP, hM, hO, hL⟩
  obtain ⟨e0, e0', e1, e2, e3, e4, e5, e6, e7, e8, e9, e10, e11, e12, e13⟩ := hN
  have hc4 := hsh.nc4
  have hi2 := hsh.ni2
  refine ⟨_, _, cxf_about l D cA hsh a b, zc_about l D cA hz a b ni e4 hi2 np e10 (by omega), ?_⟩
  unfold xf_about zf_about
  rw [zl_about_eq, zin_x J a (show J zM 6 - 1 = nI ni - 1 by rw [e4]) (by omega)]
  cases h : xat ni a with
  | none => simp
  | some i =>
    obtain ⟨rfl, hi⟩ := xat_some h (by omega)
    obtain ⟨a1, a2, a3, a4, a5, a6, a7, ⟨c, hc, a8⟩, a9, a10, a11, a12⟩ := hI.1 i hi
    simp only [Option.isSome_some, if_true, nI_clamp (n := i) (by omega), a5, a7, a9, a10, a11, a8, nI_eq0 (n := c) (by omega), nI_le0 (n := c) (by omega)]
    rfl
/-! pages of the log -/
theorem xst_mono {st : Nat → Nat} {nc : Nat} (h : ∀ q, q < nc → st q ≤ st (q + 1)) : ∀ q p, q ≤ p → p ≤ nc → st q ≤ st p := by
  intro q p hq
  induction p with
  | zero => intro _; rw [show q = 0 by omega]; exact Nat.le_refl _
  | succ p ih =>
    intro hp
    by_cases e : q = p + 1
    · rw [e]; exact Nat.le_refl _
    · exact Nat.le_trans (ih (by omega) (by omega)) (h p (by omega))
theorem xst_pg {st : Nat → Nat} (h0 : st 0 = 0) : ∀ nc t, t < st nc → ∃ q, q < nc ∧ st q ≤ t ∧ t < st (q + 1) := by
  intro nc
  induction nc with
  | zero => intro t ht; omega
  | succ nc ih =>
    intro t ht
    by_cases h : t < st nc
    · obtain ⟨q, a, b, c⟩ := ih t h
      exact ⟨q, by omega, b, c⟩
    · exact ⟨nc, by omega, by omega, ht⟩
theorem xLog_pg {J : nh_N → Nat → Int32} {ni nc np : Nat} {st li : Nat → Nat} (h : xLog J ni nc np st li) {t : Nat} (ht : t < np) : ∃ q, q < nc ∧ st q ≤ t ∧ t < st (q + 1) ∧ J (zA 19) t = nI q := by
  obtain ⟨q, a, b, c⟩ := xst_pg h.1 nc t (by rw [h.2.2.1]; exact ht)
  exact ⟨q, a, b, c, h.2.2.2.2 q a t b c⟩
theorem xLog_mono {J : nh_N → Nat → Int32} {ni nc np : Nat} {st li : Nat → Nat} (h : xLog J ni nc np st li) : ∀ q p, q ≤ p → p ≤ nc → st q ≤ st p := xst_mono (fun q hq => (h.2.1 q hq).1)
/-- what of the log stands on page p lies between st p and st (p + 1) -/
theorem xLog_out {J : nh_N → Nat → Int32} {ni nc np : Nat} {st li : Nat → Nat} (h : xLog J ni nc np st li) (hc : nc ≤ 40) {p t : Nat} (hp : p < 2 ^ 30) (ht : t < np) (ho : nc ≤ p ∨ t < st p ∨ st (p + 1) ≤ t) : ¬ J (zA 19) t = nI p := by
  obtain ⟨q, a, b, c, d⟩ := xLog_pg h ht
  rw [d]
  intro e
  have := (nI_eq (by omega) (by omega)).mp e
  subst this
  omega
