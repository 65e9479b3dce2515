set_option maxHeartbeats 4000000 in
set_option maxRecDepth 100000 in
theorem cx_close (l : Launch) (D : va_G) (cA : Nat → ClassId) {S : nh_N → Option nh_C} {g : nh_N → Nat} {J : (nh_N → Nat → Int32)} {R : nh_N → Nat → Option nh_N} (hXs : xXs S R) {post0 : nh_post} (mc ms : Nat)  (hC : J xX 8 < 40 → im_M l D cA yX5_closeNextPage vX5_closeNextPage 5 115 mc ms [.ref (g xX)] S g J R post0) (hv : ∀ v S' g' I' R', post0 v S' g' I' R' → ∃ x, v = some (.int x)) : im_M l D cA yX5_close vX5_close 6 136 mc ms [.ref (g xX)] S g J R (fun v S' g' I' R' => (¬ J xX 8 < 40 ∧ xno (-3) S g J R v S' g' I' R') ∨ (J xX 8 < 40 ∧ post0 v S' g' I' R')) := by
  refine nh_of (cc := cX5_close) (maxL := 1) (ret := (some .int)) (by decide) rfl (Nat.le_of_ble_eq_true rfl) ?_
  intro p e s m below meth c A ls hx hb hr hml hts hown hlocks hin hK hw hl
  have ht : ∀ w ∈ im_ws, w.before _ s = true := fun w h => hts w (List.mem_cons_of_mem _ h)
  have hl : lv_has ls 1 [(0, .ref (g xX))] := hl
  refine lv_aload_n hx hb dX5_close_0 rfl (lv_at hl 0 rfl) ?_
  refine fg5 (v := .int (J xX 8)) hx hb ht hown hK hw hXs.1 rfl 8 wf5_81 (by decide) (nh_vi rfl) dX5_close_1 ?_
  refine lv_bipush (v := 40) hx hb dX5_close_4 (by decide) ?_
  refine lv_icmp_lt (tgt := 12) hx hb dX5_close_6 (by decide) (fun c6 => ?_) (fun c6 => ?_)
  · refine lv_aload_n hx hb dX5_close_12 rfl (lv_at hl 0 rfl) ?_
    refine kcX5_closeNextPage (As := []) (rest := []) wm5_84 (hC c6) hx hb hml ht hown hK hw hXs.1 rfl rfl hl.1 rfl (by simp [Value.category]) ⟨(by first | decide | (simp; done) | (simp; omega) | omega), (by first | decide | (simp; done) | (simp; omega) | omega)⟩ ⟨(by first | decide | (simp; done) | (simp; omega) | omega), (by first | decide | (simp; done) | (simp; omega) | omega)⟩ dX5_close_13 (fun v S1 g1 I1 R1 H locs hp hw => ?_)
    obtain ⟨x, rfl⟩ := hv _ _ _ _ _ hp
    show W _ _ _ _ _ _ _ _ _ _ _ _ _ _ _ (F0 m 16 ls [.int x])
    refine nh_iret hx hb hr rfl hlocks hw (by first | decide | (simp; done) | (simp; omega) | omega) (by first | decide | (simp; done) | (simp; omega) | omega) dX5_close_16 ?_
    exact Or.inr ⟨c6, hp⟩
  · refine lv_bipush (v := (-3)) hx hb dX5_close_9 (by decide) ?_
    refine nh_iret hx hb hr rfl hlocks hw (by first | decide | (simp; done) | (simp; omega) | omega) (by first | decide | (simp; done) | (simp; omega) | omega) dX5_close_11 ?_
    exact Or.inl ⟨c6, rfl, rfl, rfl, rfl, rfl⟩
def xflF (l : Launch) (D : va_G) (cA : Nat → ClassId) (Inv : Nat → xSt) (M O : Nat) : Prop := ∀ j S g J R, j ≤ M → Inv j S g J R → xXs S R ∧ (j < M → j < O ∧ ¬ J xLN 1 ≤ 0 ∧ im_M l D cA yX5_closeNextPage vX5_closeNextPage 5 115 202 804 [.ref (g xX)] S g J R (fun v S' g' I' R' => (∃ x, v = some (.int x)) ∧ Inv (j + 1) S' g' I' R' ∧ g' xX = g xX)) ∧ (j = M → O ≤ j ∨ J xLN 1 ≤ 0)
set_option maxHeartbeats 4000000 in
set_option maxRecDepth 100000 in
theorem cx_flush (l : Launch) (D : va_G) (cA : Nat → ClassId) {S : nh_N → Option nh_C} {g : nh_N → Nat} {J : (nh_N → Nat → Int32)} {R : nh_N → Nat → Option nh_N} (Inv : Nat → xSt) (M O : Nat) (hXs0 : xXs S R)  (hO : (40 : Int32) - J xX 8 = nI O) (hO2 : O ≤ 40) (hM : M ≤ 40) (hI0 : Inv 0 S g J R) (hF : xflF l D cA Inv M O) : im_M l D cA yX5_flush vX5_flush 6 136 (202 * M) (804 * M) [.ref (g xX)] S g J R (fun v S' g' I' R' => v = some (.int (nI M)) ∧ Inv M S' g' I' R' ∧ g' xX = g xX) := by
  refine nh_of (cc := cX5_flush) (maxL := 3) (ret := (some .int)) (by decide) rfl (Nat.le_of_ble_eq_true rfl) ?_
  intro p e s m below meth c A ls hx hb hr hml hts hown hlocks hin hK hw hl
  have ht : ∀ w ∈ im_ws, w.before _ s = true := fun w h => hts w (List.mem_cons_of_mem _ h)
  have hl : lv_has ls 3 [(0, .ref (g xX))] := hl
  generalize hav : ([.ref (g xX)] : List Value).toArray = av at ht hts ⊢
  obtain ⟨aX, eaX⟩ : ∃ X, g xX = X := ⟨_, rfl⟩
  have loop : ∀ (r j : Nat) (S : nh_N → Option nh_C) (g : nh_N → Nat) (J : (nh_N → Nat → Int32)) (R : nh_N → Nat → Option nh_N) (H : Heap) (locs : List Loc) (ls : Array Slot), j + r = M → Inv j S g J R → g xX = aX → nh_S D im_cl im_sk cA A s.heap S g J R H locs → lv_has ls 3 [(0, .ref aX), (1, .int (nI O)), (2, .int (nI j))] → W p l e { frames := 6, cells := 202 * M, slots := 804 * M, locals := 136 } s m av below meth c H locs (202 * j) (804 * j) (MQ below (nh_Q D im_cl im_sk cA A (fun v S' g' I' R' => v = some (.int (nI M)) ∧ Inv M S' g' I' R' ∧ g' xX = aX)) av s (202 * M) (804 * M) A) (F0 m 10 ls []) := by
    intro r
    induction r with
    | zero =>
      intro j S g J R H locs ls hj hI hgX hw hl
      obtain rfl : j = M := by omega
      obtain ⟨hXs, -, hend⟩ := hF j S g J R (by omega) hI
      have hend := hend rfl
      refine lv_iload_n hx hb dX5_flush_10 rfl (lv_at hl 2 rfl) ?_
      refine lv_iload_n hx hb dX5_flush_11 rfl (lv_at hl 1 rfl) ?_
      refine lv_icmp_ge (tgt := 36) hx hb dX5_flush_12 (by decide) (fun c12 => ?_) (fun c12 => ?_)
      · refine lv_iload_n hx hb dX5_flush_36 rfl (lv_at hl 2 rfl) ?_
        refine nh_iret hx hb hr rfl hlocks hw (by first | decide | (simp; done) | (simp; omega) | omega) (by first | decide | (simp; done) | (simp; omega) | omega) dX5_flush_37 ?_
        exact ⟨rfl, hI, hgX⟩
      · refine lv_aload_n hx hb dX5_flush_15 rfl (lv_at hl 0 rfl) ?_
        refine fg5 (v := .ref (g xLN)) hx hb ht hown hK hw hXs.1 hgX 4 wf5_30 (by decide) (nh_vr rfl hXs.2.2.2.2.2.2.2.1) dX5_flush_16 ?_
        refine fg2 (v := .int (J xLN 1)) hx hb ht hown hK hw hXs.2.2.2.2.2.2.2.2.1 rfl 1 wf5_88 (by decide) (nh_vi rfl) dX5_flush_19 ?_
        refine lv_if_le (tgt := 36) hx hb dX5_flush_22 (by decide) (fun c22 => ?_) (fun c22 => ?_)
        · refine lv_iload_n hx hb dX5_flush_36 rfl (lv_at hl 2 rfl) ?_
          refine nh_iret hx hb hr rfl hlocks hw (by first | decide | (simp; done) | (simp; omega) | omega) (by first | decide | (simp; done) | (simp; omega) | omega) dX5_flush_37 ?_
          exact ⟨rfl, hI, hgX⟩
        · rcases hend with h | h
          · exact absurd (nI_le h (by omega)) c12
          · exact absurd h c22
    | succ r ih =>
      intro j S g J R H locs ls hj hI hgX hw hl
      obtain ⟨hXs, hs, -⟩ := hF j S g J R (by omega) hI
      obtain ⟨hs1, hs2, hs3⟩ := hs (by omega)
      refine lv_iload_n hx hb dX5_flush_10 rfl (lv_at hl 2 rfl) ?_
      refine lv_iload_n hx hb dX5_flush_11 rfl (lv_at hl 1 rfl) ?_
      refine lv_icmp_ge (tgt := 36) hx hb dX5_flush_12 (by decide) (fun c12 => ?_) (fun c12 => ?_)
      · exact absurd c12 (nI_ge hs1 (by omega))
      · refine lv_aload_n hx hb dX5_flush_15 rfl (lv_at hl 0 rfl) ?_
        refine fg5 (v := .ref (g xLN)) hx hb ht hown hK hw hXs.1 hgX 4 wf5_30 (by decide) (nh_vr rfl hXs.2.2.2.2.2.2.2.1) dX5_flush_16 ?_
        refine fg2 (v := .int (J xLN 1)) hx hb ht hown hK hw hXs.2.2.2.2.2.2.2.2.1 rfl 1 wf5_88 (by decide) (nh_vi rfl) dX5_flush_19 ?_
        refine lv_if_le (tgt := 36) hx hb dX5_flush_22 (by decide) (fun c22 => ?_) (fun c22 => ?_)
        · exact absurd c22 hs2
        · refine lv_aload_n hx hb dX5_flush_25 rfl (lv_at hl 0 rfl) ?_
          refine kcX5_closeNextPage (As := []) (rest := []) wm5_84 (by have h := hs3; rw [hgX] at h; exact h) hx hb hml ht hown hK hw hXs.1 hgX rfl hl.1 rfl (by simp [Value.category]) ⟨(by first | decide | (simp; done) | (simp; omega) | omega), (by first | decide | (simp; done) | (simp; omega) | omega)⟩ ⟨(by first | decide | (simp; done) | (simp; omega) | omega), (by first | decide | (simp; done) | (simp; omega) | omega)⟩ dX5_flush_26 (fun v S1 g1 I1 R1 H locs hp hw => ?_)
          obtain ⟨⟨x, rfl⟩, hI1, gX1⟩ := hp
          show W _ _ _ _ _ _ _ _ _ _ _ _ _ _ _ (F0 m 29 ls [.int x])
          refine lv_pop hx hb dX5_flush_29 rfl ?_
          refine lv_iinc (v := (nI j) + 1) (lv' := [(2, .int ((nI j) + 1)), (0, .ref aX), (1, .int (nI O))]) hx hb dX5_flush_30 hl (k := 2) rfl rfl (by decide) rfl (fun ls hl => ?_)
          refine lv_goto (tgt := 10) hx hb dX5_flush_33 (by decide) ?_
          have h9 : lv_has ls 3 [(0, .ref aX), (1, .int (nI O)), (2, .int ((nI j) + 1))] := lv_sub hl [1, 2, 0] rfl
          rw [nI_1] at h9
          refine W.widen (k := 202 * (j + 1)) (n := 804 * (j + 1)) (by first | decide | (simp; done) | (simp; omega) | omega) (by first | decide | (simp; done) | (simp; omega) | omega) ?_
          exact ih (j + 1) _ _ _ _ _ _ ls (by omega) hI1 gX1 hw h9
  subst eaX
  refine lv_bipush (v := 40) hx hb dX5_flush_0 (by decide) ?_
  refine lv_aload_n hx hb dX5_flush_2 rfl (lv_at hl 0 rfl) ?_
  refine fg5 (v := .int (J xX 8)) hx hb ht hown hK hw hXs0.1 rfl 8 wf5_81 (by decide) (nh_vi rfl) dX5_flush_3 ?_
  refine lv_isub hx hb dX5_flush_6 ?_
  rw [show (40 : Int32) - J xX 8 = nI O from hO]
  refine lv_istore_n (lv' := [(1, .int (nI O)), (0, .ref (g xX))]) hx hb dX5_flush_7 rfl hl (by decide) rfl (fun ls hl => ?_)
  refine lv_iconst (v := 0) hx hb dX5_flush_8 (by decide) ?_
  refine lv_istore_n (lv' := [(2, .int 0), (1, .int (nI O)), (0, .ref (g xX))]) hx hb dX5_flush_9 rfl hl (by decide) rfl (fun ls hl => ?_)
  exact loop M 0 S g J R _ _ ls (by omega) hI0 rfl hw (by rw [nI_0]; exact lv_sub hl [2, 1, 0] rfl)
