/-! THE LAW: cell, two systems side by side -/
set_option maxHeartbeats 4000000 in
set_option maxRecDepth 100000 in
theorem c_cell (l : Launch) (b Ln : Nat) (xs : Nat → Int32) (hL : Ln ≤ 2049) : Met l yX7_cell vX7_cell { frames := 0, cells := 0, slots := 0, locals := 0 } (va_Pc [.ref b, .int 0] (fun U => b < U.heap.size ∧ va_X b Ln xs U U.heap)) (QcRead (if 0 < Ln then xs 0 else 0)) 0 0 (fun _ => False) := by
  refine Met.ofW (cc := cX7_cell) (maxL := 2) (ret := (some .int)) (by decide) rfl ?_
  intro p e s m args below meth c s₁ B hml hv
  obtain ⟨rfl, hbl, hX⟩ := hv
  have hx := B.exec
  have hb := B.bytes
  have hr := B.returns
  have hlocks := B.notSynchronized
  have hS : va_S (fun _ => False) s.heap s.heap [] := va_S.rf
  have hbA : ¬ (fun _ : Nat => False) b := fun h => h
  have hl := lv_entry ([.ref b, .int 0]) (n := 2) (Nat.le_of_ble_eq_true rfl)
  rw [lg_entry_eq]
  generalize (lg_sl ([.ref b, .int 0]) ++ List.replicate (2 - (lg_sl ([.ref b, .int 0])).length) Slot.unset).toArray = ls at hl ⊢
  have hl : lv_has ls 2 [(0, .ref b), (1, .int 0)] := hl
  refine lv_iload_n hx hb dX7_cell_0 rfl (lv_at hl 1 rfl) ?_
  refine lv_aload_n hx hb dX7_cell_1 rfl (lv_at hl 0 rfl) ?_
  refine va_slen hx hb hX hbl hbA hS dX7_cell_2 ?_
  refine lv_icmp_ge (tgt := 12) hx hb dX7_cell_3 (by decide) (fun c3 => ?_) (fun c3 => ?_)
  · have h0 : ¬ 0 < Ln := fun h => nI_ge (a := 0) (b := Ln) h (by omega) c3
    refine lv_iconst (v := 0) hx hb dX7_cell_12 (by decide) ?_
    rw [if_neg h0]
    exact W.iret hx hb hr (fun t ht hW => ⟨rfl, ht⟩) (fun q h => by cases h) dX7_cell_13
  · have h0 : 0 < Ln := by
      rcases Nat.lt_or_ge 0 Ln with h | h
      · exact h
      · exact absurd (nI_le (a := Ln) (b := 0) h (by omega)) c3
    refine lv_aload_n hx hb dX7_cell_6 rfl (lv_at hl 0 rfl) ?_
    refine lv_iload_n hx hb dX7_cell_7 rfl (lv_at hl 1 rfl) ?_
    refine va_sld hx hb hX hbl hbA hS (show vp_in (nI 0) Ln from vp_in_nI h0 (by omega)) dX7_cell_8 ?_
    refine lv_goto (tgt := 13) hx hb dX7_cell_9 (by decide) ?_
    rw [if_pos h0]
    exact W.iret hx hb hr (fun t ht hW => ⟨rfl, ht⟩) (fun q h => by cases h) dX7_cell_13
/-- two systems' cells are apart -/
def xap2 (S : nh_N → Option nh_C) (g : nh_N → Nat) (S2 : nh_N → Option nh_C) (g2 : nh_N → Nat) : Prop := ∀ n c n' c', S n = some c → S2 n' = some c' → g n ≠ g2 n'
theorem xap2_sym {S S2 : nh_N → Option nh_C} {g g2 : nh_N → Nat} (h : xap2 S g S2 g2) : xap2 S2 g2 S g := fun n c n' c' h1 h2 q => h n' c' n c h2 h1 q.symm
/-- behind a call of the one, the other is as it was -/
theorem two_keep {D : va_G} {cA : Nat → ClassId} {A0 : Nat → Prop} {H0 H H1 : Heap} {locs locs1 : List Loc} {S S' S2 : nh_N → Option nh_C} {g g' g2 : nh_N → Nat} {I' J : nh_N → Nat → Int32} {R' R2 : nh_N → Nat → Option nh_N} (hm : nh_S D im_cl im_sk cA A0 H0 S2 g2 J R2 H locs) (hd : xap2 S g S2 g2) (hw : nh_S D im_cl im_sk cA A0 H0 S' g' I' R' H1 locs1) (hfr : ∀ q, q < H.size → ¬ nh_A S g H.size q → H1[q]? = H[q]?) (hA : ∀ n c, S' n = some c → nh_A S g H.size (g' n)) : nh_S D im_cl im_sk cA A0 H0 S2 g2 J R2 H1 locs1 ∧ xap2 S' g' S2 g2 := by
  obtain ⟨⟨h1, h2, h3⟩, h4, h5, h6⟩ := hm
  have hno : ∀ n c, S2 n = some c → g2 n < H.size ∧ ¬ nh_A S g H.size (g2 n) := by
    intro n c hn
    have hlt := (h1 n c hn).lt
    refine ⟨hlt, fun q => ?_⟩
    rcases q with ⟨n', c', a1, a2⟩ | q
    · exact hd n' c' n c a1 hn a2
    · omega
  refine ⟨⟨⟨fun n c hn => (h1 n c hn).kept (hfr _ (hno n c hn).1 (hno n c hn).2), h2, h3⟩, h4, hw.2.2.1, h6⟩, fun n c n' c' a1 a2 q => ?_⟩
  have := hA n c a1
  rw [q] at this
  exact (hno n' c' a2).2 this
abbrev xSt2 : Type := (nh_N → Option nh_C) → (nh_N → Nat) → (nh_N → Nat → Int32) → (nh_N → Nat → Option nh_N) → (nh_N → Option nh_C) → (nh_N → Nat) → (nh_N → Nat → Int32) → (nh_N → Nat → Option nh_N) → Prop
/-- a call of both: the same answer, and they stay together; nc: pages that are closed -/
def lwOp (l : Launch) (D : va_G) (cA : Nat → ClassId) (Sim : Nat → xSt2) (y5 : MethodName) (v5 : List Cond) (fr5 lo5 : Nat) (y6 : MethodName) (v6 : List Cond) (fr6 lo6 : Nat) (av : List Value) : Prop := ∀ nc S g I R S2 g2 J R2, Sim nc S g I R S2 g2 J R2 → ∃ (nc' mc ms : Nat) (ans : Int32) (p5 p6 : nh_post), nc ≤ nc' ∧ nc' ≤ 40 ∧ mc ≤ 5 + 202 * (nc' - nc) ∧ ms ≤ 169 + 804 * (nc' - nc) ∧ im_M l D cA y5 v5 fr5 lo5 mc ms (.ref (g xX) :: av) S g I R p5 ∧ im_M l D cA y6 v6 fr6 lo6 0 0 (.ref (g2 zM) :: av) S2 g2 J R2 p6 ∧ (∀ v S' g' I' R', p5 v S' g' I' R' → v = some (.int ans) ∧ g' xX = g xX ∧ S' xX = some (0, 5)) ∧ (∀ v S' g' I' R', p6 v S' g' I' R' → v = some (.int ans) ∧ g' zM = g2 zM ∧ S' zM = some (0, 6)) ∧ ∀ v S' g' I' R' v2 S2' g2' J' R2', p5 v S' g' I' R' → p6 v2 S2' g2' J' R2' → Sim nc' S' g' I' R' S2' g2' J' R2'
