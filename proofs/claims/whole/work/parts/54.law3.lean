theorem nh_S.sub {D : va_G} {cl : List vw_C} {sk : Nat → Nat → Bool} {cA : Nat → ClassId} {A : Nat → Prop} {H0 H : Heap} {S S' : nh_N → Option nh_C} {g : nh_N → Nat} {I : nh_N → Nat → Int32} {R : nh_N → Nat → Option nh_N} {locs : List Loc} (h : nh_S D cl sk cA A H0 S g I R H locs) (hs : ∀ n c, S' n = some c → S n = some c) (hr : ∀ n c k m, S' n = some c → R n k = some m → ∃ c', S' m = some c') : nh_S D cl sk cA A H0 S' g I R H locs :=
  ⟨⟨fun n c hn => h.1.1 n c (hs n c hn), fun n n' c c' h1 h2 e => h.1.2.1 n n' c c' (hs n c h1) (hs n' c' h2) e, hr⟩, fun n c hn => h.2.1 n c (hs n c hn), h.2.2.1, h.2.2.2⟩
theorem xS_new_out {S : nh_N → Option nh_C} {n : nh_N} (h : 20 ≤ n.1) : xS_new S n = S n := by
  unfold xS_new
  obtain ⟨a, b, d⟩ := n
  have h : 20 ≤ a := h
  rw [nu_n _ _ (by simp [xX, xKA, xIA, xPA, xLN, xLR, xK, xSO, xHM, xFT, xLT, xN, xP, xPP, xQ]; omega), nu_n _ _ (by simp [xX, xKA, xIA, xPA, xLN, xLR, xK, xSO, xHM, xFT, xLT, xN, xP, xPP, xQ]; omega), nu_n _ _ (by simp [xX, xKA, xIA, xPA, xLN, xLR, xK, xSO, xHM, xFT, xLT, xN, xP, xPP, xQ]; omega), nu_n _ _ (by simp [xX, xKA, xIA, xPA, xLN, xLR, xK, xSO, xHM, xFT, xLT, xN, xP, xPP, xQ]; omega), nu_n _ _ (by simp [xX, xKA, xIA, xPA, xLN, xLR, xK, xSO, xHM, xFT, xLT, xN, xP, xPP, xQ]; omega)]
set_option maxHeartbeats 8000000 in
set_option maxRecDepth 100000 in
theorem whole_open (Sim : Nat → xSt2) (h_cls : ∀ (l : Launch) (D : va_G) (cA : Nat → ClassId) (a b1 d : Int32), (d = 0 ∨ d = 1) → lwOp l D cA Sim yX5_cls vX5_cls 2 35 yX6_cls vX6_cls 1 22 [.int a, .int b1, .int d]) (h_insert : ∀ (l : Launch) (D : va_G) (cA : Nat → ClassId) (a b1 d : Int32), lwOp l D cA Sim yX5_insert vX5_insert 2 43 yX6_insert vX6_insert 2 43 [.int a, .int b1, .int d]) (h_mark : ∀ (l : Launch) (D : va_G) (cA : Nat → ClassId) (a b1 d : Int32), lwOp l D cA Sim yX5_mark vX5_mark 2 43 yX6_mark vX6_mark 2 43 [.int a, .int b1, .int d]) (h_close : ∀ (l : Launch) (D : va_G) (cA : Nat → ClassId) , lwOp l D cA Sim yX5_close vX5_close 6 136 yX6_close vX6_close 2 53 []) (h_flush : ∀ (l : Launch) (D : va_G) (cA : Nat → ClassId) , lwOp l D cA Sim yX5_flush vX5_flush 6 136 yX6_flush vX6_flush 3 76 []) (h_cancel : ∀ (l : Launch) (D : va_G) (cA : Nat → ClassId) (a : Int32), lwOp l D cA Sim yX5_cancel vX5_cancel 2 43 yX6_cancel vX6_cancel 1 22 [.int a]) (h_placed : ∀ (l : Launch) (D : va_G) (cA : Nat → ClassId) (a b1 d : Int32), lwOp l D cA Sim yX5_placed vX5_placed 3 63 yX6_placed vX6_placed 1 24 [.int a, .int b1, .int d]) (h_about : ∀ (l : Launch) (D : va_G) (cA : Nat → ClassId) (a b1 : Int32), lwOp l D cA Sim yX5_about vX5_about 2 43 yX6_about vX6_about 1 22 [.int a, .int b1]) (h_held : ∀ (l : Launch) (D : va_G) (cA : Nat → ClassId) (a : Int32), lwOp l D cA Sim yX5_held vX5_held 2 43 yX6_held vX6_held 1 24 [.int a]) (h_used : ∀ (l : Launch) (D : va_G) (cA : Nat → ClassId) (a b1 : Int32), lwOp l D cA Sim yX5_used vX5_used 3 63 yX6_used vX6_used 2 43 [.int a, .int b1]) (h_seen : ∀ (l : Launch) (D : va_G) (cA : Nat → ClassId) (a b1 d : Int32), lwOp l D cA Sim yX5_seen vX5_seen 2 44 yX6_seen vX6_seen 2 49 [.int a, .int b1, .int d]) (h_count : ∀ (l : Launch) (D : va_G) (cA : Nat → ClassId) (a : Int32), lwOp l D cA Sim yX5_count vX5_count 0 0 yX6_count vX6_count 1 24 [.int a]) (h_init : ∀ (a : Int32) (g g2 : nh_N → Nat) (S2 : nh_N → Option nh_C) (J : nh_N → Nat → Int32) (R2 : nh_N → Nat → Option nh_N), zSh S2 R2 → zini J a → Sim 0 (xS_new (nu (fun _ => none) xX (some (0, 5)))) g (nu (xI_new (nu (fun _ _ => 0) xX (fun _ => 0)) a) zM (fun _ => 0)) (nu (xR_new (nu (fun _ _ => none) xX (fun _ => none))) zM (fun _ => none)) S2 g2 J R2)
    {p : Program} {e : Env} {s : State} {m : MethodId} {below : List Frame} {meth : Method} {c : Code} (l : Launch) {b Ln : Nat} {xs : Nat → Int32} (hL : Ln ≤ 2049) (C0 : lw_At p s m meth c b Ln xs) : W p l e room_1 s m #[Value.ref b] below meth c s.heap [] 0 0 (lw_Z below #[Value.ref b] s) (entryFrame m ([Value.ref b] : List Value).toArray 4) := by
  obtain ⟨hx, hb, hr, hml, hown0, hts, hX, hbl, hlocks, hgv⟩ := id C0
  have hown : s.vm.findClass "InsertMarksLaw" = some m.cls := hown0
  have ht : ∀ w ∈ im_ws, w.before #[Value.ref b] s = true := fun w h => hts w (im_good h).1
  have hbA : ¬ (fun q : Nat => s.heap.size ≤ q) b := Nat.not_le.mpr hbl
  have hrc : room_1.cells = 600000 := rfl
  have hrs : room_1.slots = 7302250 := rfl
  obtain ⟨D, cA, hK⟩ := im_start hts
  obtain ⟨a, ea⟩ : ∃ a : Int32, (if 0 < Ln then xs 0 else 0) = a := ⟨_, rfl⟩
  have hw : nh_S D im_cl im_sk cA (fun q : Nat => s.heap.size ≤ q) s.heap (fun _ => none) (fun _ => 0) (fun _ _ => 0) (fun _ _ => none) s.heap [] := ⟨⟨fun n c h => (by cases h), fun n n' c c' h => (by cases h), fun n c k m h => (by cases h)⟩, fun n c h => (by cases h), va_S.rf, fun q h => h⟩
  have hl := lv_entry ([.ref b]) (n := 4) (Nat.le_of_ble_eq_true rfl)
  rw [lg_entry_eq]
  generalize (lg_sl ([.ref b]) ++ List.replicate (4 - (lg_sl ([.ref b])).length) Slot.unset).toArray = ls at hl ⊢
  have hl : lv_has ls 4 [(0, .ref b)] := hl
  refine fn5 xX hx hb ht hown hK hw rfl wl7_7 (by rw [hrc]; omega) (by rw [hrs]; omega) dL_law_0 (fun q1 H S1 g1 I1 R1 eS1 eg1 eI1 eR1 hw => ?_)
  refine lv_dup hx hb dL_law_3 rfl ?_
  refine lv_aload_n hx hb dL_law_4 rfl (lv_at hl 0 rfl) ?_
  refine lv_iconst (v := 0) hx hb dL_law_5 (by decide) ?_
  refine W.callR (W.runS (cc := code) (nL := 4) (Ts := im_ws) (own := "InsertMarksLaw") (bytes := cX7_cell) (maxL := 2) (ret := some .int) (index := 9) (n := 2) (rm := { frames := 0, cells := 0, slots := 0, locals := 0 }) (As := [.ref b, .int 0]) (rest := [.ref q1, .ref q1]) ⟨hx, hb, hml, hown, ht⟩ (c_cell l b Ln xs hL) (cwS 2 ht (gd_S wcX7_cell wm7_9 wtX7_cell wz7) rfl rfl rfl (by decide +kernel) ⟨by decide, by decide⟩) ⟨fun a U g' mk q => by
    obtain ⟨q0, q1, q2⟩ := q
    exact ⟨q0, q1, q2.moved (Vm.Alike.refl U.vm)⟩, fun U hU hW => ⟨rfl, by rw [hU]; exact Nat.lt_of_lt_of_le hbl hw.2.2.1.1, by rw [hU]; exact (hX.moved hW.alike).kept (hw.2.2.1.2.1 b hbl hbA)⟩⟩ rfl rfl hl.1 rfl (lv_room (by simp [Value.category])) dL_law_6 ⟨by rw [hrc]; omega, by rw [hrs]; omega⟩) ?_
  show W _ _ _ _ _ _ _ _ _ _ _ _ _ _ _ (F0 m 9 ls (.int (if 0 < Ln then xs 0 else 0) :: [.ref q1, .ref q1]))
  rw [ea]
  have hX0 : S1 xX = some (0, 5) := by rw [eS1]; exact nu_s _ _ _
  have hq1 : g1 xX = q1 := by rw [eg1]; exact nu_s _ _ _
  have hM0 := cx_init l D cA (S := S1) (g := g1) (J := I1) (R := R1) hX0 (by rw [eS1, nu_n _ _ (by simp [xX, xKA, xIA, xPA, xLN, xLR, xK, xSO, xHM, xFT, xLT, xN, xP, xPP, xQ])]) (by rw [eS1, nu_n _ _ (by simp [xX, xKA, xIA, xPA, xLN, xLR, xK, xSO, xHM, xFT, xLT, xN, xP, xPP, xQ])]) (by rw [eS1, nu_n _ _ (by simp [xX, xKA, xIA, xPA, xLN, xLR, xK, xSO, xHM, xFT, xLT, xN, xP, xPP, xQ])]) (by rw [eS1, nu_n _ _ (by simp [xX, xKA, xIA, xPA, xLN, xLR, xK, xSO, xHM, xFT, xLT, xN, xP, xPP, xQ])]) (by rw [eS1, nu_n _ _ (by simp [xX, xKA, xIA, xPA, xLN, xLR, xK, xSO, xHM, xFT, xLT, xN, xP, xPP, xQ])]) a
  rw [hq1] at hM0
  refine kcX5_init (As := [.int a]) (rest := [.ref q1]) wm7_15 hM0 hx hb hml ht hown hK hw rfl hl.1 rfl (by simp [Value.category]) ⟨by decide, by decide⟩ ⟨by rw [hrc]; omega, by rw [hrs]; omega⟩ dL_law_9 (fun v S2 g2 I2 R2 H locs hp hw _ _ => ?_)
  obtain ⟨rfl, eS2, hg2, eI2, eR2⟩ := hp
  show W _ _ _ _ _ _ _ _ _ _ _ _ _ _ _ (F0 m 12 ls [.ref q1])
  refine lv_astore_n (lv' := [(1, .ref q1), (0, .ref b)]) hx hb dL_law_12 rfl hl (by decide) rfl (fun ls hl => ?_)
  have hzn : S2 zM = none := by rw [eS2, xS_new_out (by decide), eS1, nu_n _ _ (by simp [xX, xKA, xIA, xPA, xLN, xLR, xK, xSO, xHM, xFT, xLT, xN, xP, xPP, xQ, zM])]
  refine fn6 zM hx hb ht hown hK hw hzn wl7_18 (by rw [hrc]; omega) (by rw [hrs]; omega) dL_law_13 (fun q3 H S3 g3 I3 R3 eS3 eg3 eI3 eR3 hw3 => ?_)
  have hzg : g3 zM = q3 := by rw [eg3]; exact nu_s _ _ _
  have hx2 : S2 xX = some (0, 5) := by rw [eS2]; unfold xS_new; rw [nu_n _ _ (by simp [xX, xKA, xIA, xPA, xLN, xLR, xK, xSO, xHM, xFT, xLT, xN, xP, xPP, xQ]), nu_n _ _ (by simp [xX, xKA, xIA, xPA, xLN, xLR, xK, xSO, xHM, xFT, xLT, xN, xP, xPP, xQ]), nu_n _ _ (by simp [xX, xKA, xIA, xPA, xLN, xLR, xK, xSO, xHM, xFT, xLT, xN, xP, xPP, xQ]), nu_n _ _ (by simp [xX, xKA, xIA, xPA, xLN, xLR, xK, xSO, xHM, xFT, xLT, xN, xP, xPP, xQ]), nu_n _ _ (by simp [xX, xKA, xIA, xPA, xLN, xLR, xK, xSO, xHM, xFT, xLT, xN, xP, xPP, xQ])]; exact hX0
  have hxg : g3 xX = q1 := by rw [eg3, nu_gl hx2 hzn]; exact (hg2 _ _ hX0).trans hq1
  have hw1 : nh_S D im_cl im_sk cA (fun q : Nat => s.heap.size ≤ q) s.heap S2 g3 I3 R3 H locs := hw3.sub (fun n c h => by rw [eS3]; exact nu_al h hzn) (fun n c k m' h1 h2 => hw.1.2.2 n c k m' h1 (by rw [eR3, nu_gl h1 hzn] at h2; exact h2))
  have hw2 : nh_S D im_cl im_sk cA (fun q : Nat => s.heap.size ≤ q) s.heap (fun n => if n = zM then some (0, 6) else none) g3 I3 R3 H locs := hw3.sub (fun n c h => by
    by_cases e1 : n = zM
    · subst e1; rw [if_pos rfl] at h; rw [eS3, nu_s]; exact h
    · rw [if_neg e1] at h; cases h) (fun n c k m' h1 h2 => by
    by_cases e1 : n = zM
    · subst e1; rw [eR3, nu_s] at h2; cases h2
    · rw [if_neg e1] at h1; cases h1)
  have hap : xap2 S2 g3 (fun n => if n = zM then some ((0, 6) : nh_C) else none) g3 := fun n c n' c' h1 h2 q => by
    by_cases e1 : n' = zM
    · subst e1
      have := hw3.1.2.1 n zM c (0, 6) (by rw [eS3]; exact nu_al h1 hzn) (by rw [eS3, nu_s]) q
      rw [this, hzn] at h1; cases h1
    · have h2 : (if n' = zM then some ((0, 6) : nh_C) else none) = some c' := h2
      rw [if_neg e1] at h2; cases h2
  refine lv_dup hx hb dL_law_16 rfl ?_
  refine lv_aload_n hx hb dL_law_17 rfl (lv_at hl 1 rfl) ?_
  refine lv_iconst (v := 0) hx hb dL_law_18 (by decide) ?_
  refine W.callR (W.runS (cc := code) (nL := 4) (Ts := im_ws) (own := "InsertMarksLaw") (bytes := cX7_cell) (maxL := 2) (ret := some .int) (index := 9) (n := 2) (rm := { frames := 0, cells := 0, slots := 0, locals := 0 }) (As := [.ref b, .int 0]) (rest := [.ref q3, .ref q3]) ⟨hx, hb, hml, hown, ht⟩ (c_cell l b Ln xs hL) (cwS 2 ht (gd_S wcX7_cell wm7_9 wtX7_cell wz7) rfl rfl rfl (by decide +kernel) ⟨by decide, by decide⟩) ⟨fun a U g' mk q => by
    obtain ⟨q0, q1, q2⟩ := q
    exact ⟨q0, q1, q2.moved (Vm.Alike.refl U.vm)⟩, fun U hU hW => ⟨rfl, by rw [hU]; exact Nat.lt_of_lt_of_le hbl hw1.2.2.1.1, by rw [hU]; exact (hX.moved hW.alike).kept (hw1.2.2.1.2.1 b hbl hbA)⟩⟩ rfl rfl hl.1 rfl (lv_room (by simp [Value.category])) dL_law_19 ⟨by rw [hrc]; omega, by rw [hrs]; omega⟩) ?_
  show W _ _ _ _ _ _ _ _ _ _ _ _ _ _ _ (F0 m 22 ls (.int (if 0 < Ln then xs 0 else 0) :: [.ref q3, .ref q3]))
  rw [ea]
  have hz0 : zst [] (fun n => if n = zM then some ((0, 6) : nh_C) else none) I3 R3 := ⟨if_pos rfl, fun s h => (by cases h), fun s _ => if_neg (by simp [zM, zA]), fun s => by rw [eI3, nu_s]⟩
  have hM1 := zc_init l D cA (S := fun n => if n = zM then some ((0, 6) : nh_C) else none) (g := g3) (I := I3) (R := R3) hz0 a
  rw [hzg] at hM1
  refine kcX6_init (As := [.int a]) (rest := [.ref q3]) wm7_20 hM1 hx hb hml ht hown hK hw2 rfl hl.1 rfl (by simp [Value.category]) ⟨by decide, by decide⟩ ⟨by rw [hrc]; omega, by rw [hrs]; omega⟩ dL_law_22 (fun v S4 g4 I4 R4 H locs hp hw4 hfr hA => ?_)
  obtain ⟨rfl, hzs, hg4, hin4⟩ := hp
  obtain ⟨hw1, hd⟩ := two_keep hw1 (xap2_sym hap) hw4 hfr hA
  show W _ _ _ _ _ _ _ _ _ _ _ _ _ _ _ (F0 m 25 ls [.ref q3])
  refine lv_astore_n (lv' := [(2, .ref q3), (1, .ref q1), (0, .ref b)]) hx hb dL_law_25 rfl hl (by decide) rfl (fun ls hl => ?_)
  refine lv_iconst (v := 1) hx hb dL_law_26 (by decide) ?_
  refine lv_istore_n (lv' := [(3, .int 1), (2, .ref q3), (1, .ref q1), (0, .ref b)]) hx hb dL_law_27 rfl hl (by decide) rfl (fun ls hl => ?_)
  refine W.widen (k := 30 + 5 * 0 + 202 * 0) (n := 39100 + 169 * 0 + 804 * 0) (by omega) (by omega) ?_
  have hS0 := h_init a g3 g4 S4 I4 R4 hzs hin4
  have e1 : xS_new (nu (fun _ => none) xX (some (0, 5))) = S2 := by rw [eS2, eS1]
  have e2 : nu (xI_new (nu (fun _ _ => 0) xX (fun _ => 0)) a) zM (fun _ => 0) = I3 := by rw [eI3, eI2, eI1]
  have e3 : nu (xR_new (nu (fun _ _ => none) xX (fun _ => none))) zM (fun _ => none) = R3 := by rw [eR3, eR2, eR1]
  rw [e1, e2, e3] at hS0
  exact law_loop hL C0 hK Sim (h_cls l D cA) (h_insert l D cA) (h_mark l D cA) (h_close l D cA) (h_flush l D cA) (h_cancel l D cA) (h_placed l D cA) (h_about l D cA) (h_held l D cA) (h_used l D cA) (h_seen l D cA) (h_count l D cA) (Ln + 1) 0 0 _ _ _ _ _ _ _ _ _ _ ls (by omega) (by omega) (by omega) hS0 hx2 (zs_m hzs) hxg hg4 hw1 hw4 (xap2_sym hd) (lv_sub hl [3, 2, 1, 0] rfl)
