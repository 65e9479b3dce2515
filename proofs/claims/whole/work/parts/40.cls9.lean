set_option maxHeartbeats 4000000 in
set_option maxRecDepth 100000 in
theorem cx_goThroughLine (l : Launch) (D : va_G) (cA : Nat → ClassId) {S : nh_N → Option nh_C} {g : nh_N → Nat} {J : (nh_N → Nat → Int32)} {R : nh_N → Nat → Option nh_N} (Inv : Nat → xSt) (q N : Nat) (hXs : xXs S R) (hP0 : S (xP q) = some (0, 3))  (hN0 : J xLN 1 = nI N) (hN : N ≤ 200) (hI0 : Inv 0 S g (iu J xLN 1 0) R) (hT : ∀ j S g J R, j < N → Inv j S g J R → xglS Inv q j S g J R) : im_M l D cA yX5_goThroughLine vX5_goThroughLine 4 90 N (3 * N) [.ref (g xX), .ref (g (xP q))] S g J R (fun v S' g' I' R' => v = none ∧ Inv N S' g' I' R' ∧ xXs S' R' ∧ S' (xP q) = some (0, 3) ∧ g' xX = g xX ∧ g' (xP q) = g (xP q)) := by
  refine nh_of (cc := cX5_goThroughLine) (maxL := 6) (ret := none) (by decide) rfl (Nat.le_of_ble_eq_true rfl) ?_
  intro p e s m below meth c A ls hx hb hr hml hts hown hlocks hin hK hw hl
  have ht : ∀ w ∈ im_ws, w.before _ s = true := fun w h => hts w (List.mem_cons_of_mem _ h)
  have hl : lv_has ls 6 [(0, .ref (g xX)), (1, .ref (g (xP q)))] := hl
  refine lv_aload_n hx hb dX5_goThroughLine_0 rfl (lv_at hl 0 rfl) ?_
  refine fg5 (v := .ref (g xLN)) hx hb ht hown hK hw hXs.1 rfl 4 wf5_30 (by decide) (nh_vr rfl hXs.2.2.2.2.2.2.2.1) dX5_goThroughLine_1 ?_
  refine fg2 (v := .int (J xLN 1)) hx hb ht hown hK hw hXs.2.2.2.2.2.2.2.2.1 rfl 1 wf5_88 (by decide) (nh_vi rfl) dX5_goThroughLine_4 ?_
  rw [hN0]
  refine lv_istore_n (lv' := [(2, .int (nI N)), (0, .ref (g xX)), (1, .ref (g (xP q)))]) hx hb dX5_goThroughLine_7 rfl hl (by decide) rfl (fun ls hl => ?_)
  refine lv_aload_n hx hb dX5_goThroughLine_8 rfl (lv_at hl 1 rfl) ?_
  refine fg5 (v := .ref (g xLN)) hx hb ht hown hK hw hXs.1 rfl 4 wf5_30 (by decide) (nh_vr rfl hXs.2.2.2.2.2.2.2.1) dX5_goThroughLine_9 ?_
  refine lv_iconst (v := 0) hx hb dX5_goThroughLine_12 (by decide) ?_
  refine fp2 hx hb ht hown hK hw hXs.2.2.2.2.2.2.2.2.1 rfl 1 wf5_88 (by decide) rfl rfl rfl rfl dX5_goThroughLine_13 (fun H locs J1 eJ1 hw => ?_)
  refine lv_iconst (v := 0) hx hb dX5_goThroughLine_16 (by decide) ?_
  refine lv_istore_n (lv' := [(3, .int 0), (2, .int (nI N)), (0, .ref (g xX)), (1, .ref (g (xP q)))]) hx hb dX5_goThroughLine_17 rfl hl (by decide) rfl (fun ls hl => ?_)
  subst eJ1
  refine xw_gl hx hb hml ht hown hK Inv q N (g xX) (g (xP q)) hN hT N 0 S g (iu J xLN 1 0) R _ _ ls (by omega) hI0 hXs hP0 rfl rfl hw (by rw [nI_0]; exact lv_sub hl [2, 3, 1, 0] rfl) (fun S1 g1 I1 R1 H locs ls hI1 hX1 hP1 hgX1 hgP1 hw hl => ?_)
  refine nh_vret hx hb hr hlocks hw (by first | decide | (simp; done) | (simp; omega) | omega) (by first | decide | (simp; done) | (simp; omega) | omega) dX5_goThroughLine_72 ?_
  exact ⟨rfl, hI1, hX1, hP1, hgX1, hgP1⟩
/-- the heap of closeNextPage ahead of its line: what is lined up, the sorts begun anew -/
def xcA (J : nh_N → Nat → Int32) (nk ni : Nat) : nh_N → Nat → Int32 := xl_sp nk 0 (xl_lu (J xX 8) ni 0 J)
def xcS (S : nh_N → Option nh_C) (nc N : Nat) : nh_N → Option nh_C := nu (nu S (xP nc) (some (0, 3))) (xPP nc) (some (6, N))
def xcI (J : nh_N → Nat → Int32) (nk ni nc : Nat) : nh_N → Nat → Int32 := nu (iu (nu (xcA J nk ni) (xP nc) (fun _ => 0)) (xP nc) 0 (nI nc)) (xPP nc) (fun _ => 0)
def xcR (R : nh_N → Nat → Option nh_N) (nc : Nat) : nh_N → Nat → Option nh_N := ru (nu (nu R (xP nc) (fun _ => none)) (xPP nc) (fun _ => none)) (xP nc) 1 (some (xPP nc))
theorem xsp_o : ∀ (t j : Nat) (J : nh_N → Nat → Int32) (n : nh_N) (s : Nat), (∀ k, n ≠ xK k) → xl_sp t j J n s = J n s := by
  intro t
  induction t with
  | zero => intro j J n s h; rfl
  | succ t ih =>
    intro j J n s h
    show xl_sp t (j + 1) (xs_sp j J) n s = _
    rw [ih (j + 1) _ n s h]
    unfold xs_sp xf_startPage
    split <;> simp [iu_e, h j]
theorem xlu_o {a : Int32} : ∀ (t j : Nat) (J : nh_N → Nat → Int32) (n : nh_N) (s : Nat), n ≠ xLN → n ≠ xLR → xl_lu a t j J n s = J n s := by
  intro t
  induction t with
  | zero => intro j J n s h1 h2; rfl
  | succ t ih =>
    intro j J n s h1 h2
    show xl_lu a t (j + 1) (xs_lu a j J) n s = _
    rw [ih (j + 1) _ n s h1 h2]
    unfold xs_lu
    split
    · split
      · rfl
      · rw [xap_x _ _ _ _ h1 h2]
    · rfl
set_option maxHeartbeats 4000000 in
set_option maxRecDepth 100000 in
theorem cx_closeNextPage (l : Launch) (D : va_G) (cA : Nat → ClassId) {S : nh_N → Option nh_C} {g : nh_N → Nat} {J : (nh_N → Nat → Int32)} {R : nh_N → Nat → Option nh_N} {nk ni nc : Nat} {kd pl pn : Nat → Nat} {ow : Nat → Nat → Nat} (hsh : xSh S R nk ni nc kd pl pn ow) (Inv : Nat → xSt) (N : Nat) (hf0 : S (xP nc) = none) (hf1 : S (xPP nc) = none)  (hk0 : J xX 5 = nI nk) (hi0 : J xX 6 = nI ni) (hc0 : J xX 8 = nI nc) (hc4 : nc < 40) (hl0 : ∃ n, J xLN 1 = nI n ∧ n ≤ 200) (hN0 : xcA J nk ni xLN 1 = nI N) (hN : N ≤ 200) (hI0 : ∀ g2, xgk S g g2 → Inv 0 (xcS S nc N) g2 (iu (xcI J nk ni nc) xLN 1 0) (xcR R nc)) (hT : ∀ j S g J R, j < N → Inv j S g J R → xglS Inv nc j S g J R) (hfin : ∀ S g J R, Inv N S g J R → J xX 8 = nI nc) : im_M l D cA yX5_closeNextPage vX5_closeNextPage 5 115 202 804 [.ref (g xX)] S g J R (fun v S' g' I' R' => ∃ I3 R3, Inv N S' g' I3 R3 ∧ I' = iu I3 xX 8 (nI nc + 1) ∧ R' = ru R3 xPA nc (some (xP nc)) ∧ v = some (.int (I3 (xP nc) 2)) ∧ g' xX = g xX ∧ S' xX = some (0, 5)) := by
  refine nh_of (cc := cX5_closeNextPage) (maxL := 2) (ret := (some .int)) (by decide) rfl (Nat.le_of_ble_eq_true rfl) ?_
  intro p e s m below meth c A ls hx hb hr hml hts hown hlocks hin hK hw hl
  have ht : ∀ w ∈ im_ws, w.before _ s = true := fun w h => hts w (List.mem_cons_of_mem _ h)
  have hl : lv_has ls 2 [(0, .ref (g xX))] := hl
  have hXs := hsh.X
  refine lv_aload_n hx hb dX5_closeNextPage_0 rfl (lv_at hl 0 rfl) ?_
  refine lv_aload_n hx hb dX5_closeNextPage_1 rfl (lv_at hl 0 rfl) ?_
  refine fg5 (v := .int (J xX 8)) hx hb ht hown hK hw hXs.1 rfl 8 wf5_81 (by decide) (nh_vi rfl) dX5_closeNextPage_2 ?_
  refine kcX5_lineUpInsertsOf (As := [.int (J xX 8)]) (rest := []) wm5_160 (cxf_lineUp l D cA hsh (J xX 8) hi0 hl0) hx hb hml ht hown hK hw hXs.1 rfl rfl hl.1 rfl (by simp [Value.category]) ⟨(by first | decide | (simp; done) | (simp; omega) | omega), (by first | decide | (simp; done) | (simp; omega) | omega)⟩ ⟨(by first | decide | (simp; done) | (simp; omega) | omega), (by first | decide | (simp; done) | (simp; omega) | omega)⟩ dX5_closeNextPage_5 (fun v S1 g1 J1 R1 H locs hp hw => ?_)
  obtain ⟨rfl, h1, h2, eJ1, h4⟩ := hp
  rw [h1, h2, h4] at hw
  clear h1 h2 h4
  show W _ _ _ _ _ _ _ _ _ _ _ _ _ _ _ (F0 m 8 ls [])
  refine lv_aload_n hx hb dX5_closeNextPage_8 rfl (lv_at hl 0 rfl) ?_
  refine kcX5_startPageInKinds (As := []) (rest := []) wm5_163 (cxf_startPages l D cA hsh (by rw [eJ1, xlu_o _ _ _ _ _ (by simp [xX, xKA, xIA, xPA, xLN, xLR, xK, xSO, xHM, xFT, xLT, xN, xP, xPP, xQ]) (by simp [xX, xKA, xIA, xPA, xLN, xLR, xK, xSO, xHM, xFT, xLT, xN, xP, xPP, xQ])]; exact hk0)) hx hb hml ht hown hK hw hXs.1 rfl rfl hl.1 rfl (by simp [Value.category]) ⟨(by first | decide | (simp; done) | (simp; omega) | omega), (by first | decide | (simp; done) | (simp; omega) | omega)⟩ ⟨(by first | decide | (simp; done) | (simp; omega) | omega), (by first | decide | (simp; done) | (simp; omega) | omega)⟩ dX5_closeNextPage_9 (fun v S1 g1 J2 R1 H locs hp hw => ?_)
  obtain ⟨rfl, h1, h2, eJ2, h4⟩ := hp
  rw [h1, h2, h4] at hw
  clear h1 h2 h4
  show W _ _ _ _ _ _ _ _ _ _ _ _ _ _ _ (F0 m 12 ls [])
  refine fn3 (xP nc) hx hb ht hown hK hw hf0 wl5_21 (by first | decide | (simp; done) | (simp; omega) | omega) (by first | decide | (simp; done) | (simp; omega) | omega) dX5_closeNextPage_12 (fun q1 H S1 g1 I1 R1 eS1 eg1 eI1 eR1 hw => ?_)
  have a1_xX : S1 xX = some (0, 5) := by rw [eS1]; exact nu_al hXs.1 hf0
  have a1_xXg : g1 xX = g xX := by rw [eg1]; exact (nu_gl hXs.1 hf0).trans rfl
  have a1_xXr1 : R1 xX 1 = some xKA := by rw [eR1, nu_gl hXs.1 hf0]; exact hXs.2.1
  have a1_xXr2 : R1 xX 2 = some xIA := by rw [eR1, nu_gl hXs.1 hf0]; exact hXs.2.2.2.1
  have a1_xXr3 : R1 xX 3 = some xPA := by rw [eR1, nu_gl hXs.1 hf0]; exact hXs.2.2.2.2.2.1
  have a1_xXr4 : R1 xX 4 = some xLN := by rw [eR1, nu_gl hXs.1 hf0]; exact hXs.2.2.2.2.2.2.2.1
  have a1_xPA : S1 xPA = some (5, 40) := by rw [eS1]; exact nu_al hXs.2.2.2.2.2.2.1 hf0
  have a1_xPAg : g1 xPA = g xPA := by rw [eg1]; exact (nu_gl hXs.2.2.2.2.2.2.1 hf0).trans rfl
  have a1_xLN : S1 xLN = some (0, 2) := by rw [eS1]; exact nu_al hXs.2.2.2.2.2.2.2.2.1 hf0
  have a1_xLNg : g1 xLN = g xLN := by rw [eg1]; exact (nu_gl hXs.2.2.2.2.2.2.2.2.1 hf0).trans rfl
  have a1_xLNr0 : R1 xLN 0 = some xLR := by rw [eR1, nu_gl hXs.2.2.2.2.2.2.2.2.1 hf0]; exact hXs.2.2.2.2.2.2.2.2.2.1
  have a1_xKA : S1 xKA = some (3, 8) := by rw [eS1]; exact nu_al hXs.2.2.1 hf0
  have a1_xKAg : g1 xKA = g xKA := by rw [eg1]; exact (nu_gl hXs.2.2.1 hf0).trans rfl
  have a1_xIA : S1 xIA = some (4, 200) := by rw [eS1]; exact nu_al hXs.2.2.2.2.1 hf0
  have a1_xIAg : g1 xIA = g xIA := by rw [eg1]; exact (nu_gl hXs.2.2.2.2.1 hf0).trans rfl
  have a1_xLR : S1 xLR = some (1, 200) := by rw [eS1]; exact nu_al hXs.2.2.2.2.2.2.2.2.2.2 hf0
  have a1_xLRg : g1 xLR = g xLR := by rw [eg1]; exact (nu_gl hXs.2.2.2.2.2.2.2.2.2.2 hf0).trans rfl
  have b1 : S1 (xP nc) = some (0, 3) := by rw [eS1]; exact nu_s _ _ _
  have b1g : g1 (xP nc) = q1 := by rw [eg1]; exact nu_s _ _ _
  refine lv_dup hx hb dX5_closeNextPage_15 rfl ?_
  refine lv_aload_n hx hb dX5_closeNextPage_16 rfl (lv_at hl 0 rfl) ?_
  refine fg5 (v := .int (J2 xX 8)) hx hb ht hown hK hw a1_xX a1_xXg 8 wf5_81 (by decide) (by simp [nh_v, im_sk, iu_e, nu, xX, xKA, xIA, xPA, xLN, xLR, xK, xSO, xHM, xFT, xLT, xN, xP, xPP, xQ, eS1, eg1, eI1, eR1]) dX5_closeNextPage_17 ?_
  rw [show J2 xX 8 = nI nc by rw [eJ2, xsp_o _ _ _ _ _ (by simp [xX, xKA, xIA, xPA, xLN, xLR, xK, xSO, xHM, xFT, xLT, xN, xP, xPP, xQ]), eJ1, xlu_o _ _ _ _ _ (by simp [xX, xKA, xIA, xPA, xLN, xLR, xK, xSO, xHM, xFT, xLT, xN, xP, xPP, xQ]) (by simp [xX, xKA, xIA, xPA, xLN, xLR, xK, xSO, xHM, xFT, xLT, xN, xP, xPP, xQ])]; exact hc0]
  refine lv_aload_n hx hb dX5_closeNextPage_20 rfl (lv_at hl 0 rfl) ?_
  refine fg5 (v := .ref (g xLN)) hx hb ht hown hK hw a1_xX a1_xXg 4 wf5_30 (by decide) ((nh_vr rfl a1_xXr4).trans (congrArg Value.ref a1_xLNg)) dX5_closeNextPage_21 ?_
  refine fg2 (v := .int (J2 xLN 1)) hx hb ht hown hK hw a1_xLN a1_xLNg 1 wf5_88 (by decide) (by simp [nh_v, im_sk, iu_e, nu, xX, xKA, xIA, xPA, xLN, xLR, xK, xSO, xHM, xFT, xLT, xN, xP, xPP, xQ, eS1, eg1, eI1, eR1]) dX5_closeNextPage_24 ?_
  rw [show J2 xLN 1 = nI N by rw [eJ2, eJ1]; exact hN0]
  have hM0 := cxn_Page l D cA (S := S1) (g := g1) (J := I1) (R := R1) nc N b1 (by rw [eS1, nu_n _ _ (by simp [xX, xKA, xIA, xPA, xLN, xLR, xK, xSO, xHM, xFT, xLT, xN, xP, xPP, xQ])]; exact hf1) (nI nc) (nI N) rfl hN
  rw [b1g] at hM0
  refine kcX3_init (As := [.int (nI nc), .int (nI N)]) (rest := [.ref q1]) wm5_166 hM0 hx hb hml ht hown hK hw rfl hl.1 rfl (by simp [Value.category]) ⟨(by first | decide | (simp; done) | (simp; omega) | omega), (by first | decide | (simp; done) | (simp; omega) | omega)⟩ ⟨(by first | decide | (simp; done) | (simp; omega) | omega), (by first | decide | (simp; done) | (simp; omega) | omega)⟩ dX5_closeNextPage_27 (fun v S2 g2 I2 R2 H locs hp hw _ _ => ?_)
  obtain ⟨rfl, eS2, hg2, eI2, eR2⟩ := hp
  clear hM0
  have m1 : ∀ m c, S m = some c → S1 m = some c := by rw [eS1]; exact nu_mono (fun _ _ h => h) hf0
  have fPP : S1 (xPP nc) = none := (by rw [eS1, nu_n _ _ (by simp [xX, xKA, xIA, xPA, xLN, xLR, xK, xSO, xHM, xFT, xLT, xN, xP, xPP, xQ])]; exact hf1)
  have m2 : ∀ m c, S m = some c → S2 m = some c := by rw [eS2]; exact nu_mono m1 fPP
  have k2 : xgk S g g2 := xgk_tr (by rw [eg1]; exact xgk_nu (xgk_rf S g) (fun _ _ h => h) hf0) m1 hg2
  have eS : S2 = xcS S nc N := by rw [eS2, eS1]; rfl
  have eI : I2 = xcI J nk ni nc := by rw [eI2, eI1, eJ2, eJ1]; rfl
  have eR : R2 = xcR R nc := by rw [eR2, eR1]; rfl
  have hX2 : xXs S2 R2 := xXs_keep hXs m2 (fun j => by rw [eR2, ru_e, if_neg (by simp [xX, xKA, xIA, xPA, xLN, xLR, xK, xSO, xHM, xFT, xLT, xN, xP, xPP, xQ]), nu_n _ _ (by simp [xX, xKA, xIA, xPA, xLN, xLR, xK, xSO, xHM, xFT, xLT, xN, xP, xPP, xQ]), eR1, nu_n _ _ (by simp [xX, xKA, xIA, xPA, xLN, xLR, xK, xSO, xHM, xFT, xLT, xN, xP, xPP, xQ])]) (fun j => by rw [eR2, ru_e, if_neg (by simp [xX, xKA, xIA, xPA, xLN, xLR, xK, xSO, xHM, xFT, xLT, xN, xP, xPP, xQ]), nu_n _ _ (by simp [xX, xKA, xIA, xPA, xLN, xLR, xK, xSO, xHM, xFT, xLT, xN, xP, xPP, xQ]), eR1, nu_n _ _ (by simp [xX, xKA, xIA, xPA, xLN, xLR, xK, xSO, xHM, xFT, xLT, xN, xP, xPP, xQ])])
  have hP2 : S2 (xP nc) = some (0, 3) := by rw [eS2]; exact nu_al b1 fPP
  have gX2 : g2 xX = g xX := k2 _ _ hXs.1
  have gP2 : g2 (xP nc) = q1 := (hg2 _ _ b1).trans b1g
  clear eS2 eI2 eR2
  show W _ _ _ _ _ _ _ _ _ _ _ _ _ _ _ (F0 m 30 ls [.ref q1])
  refine lv_astore_n (lv' := [(1, .ref q1), (0, .ref (g xX))]) hx hb dX5_closeNextPage_30 rfl hl (by decide) rfl (fun ls hl => ?_)
  refine lv_aload_n hx hb dX5_closeNextPage_31 rfl (lv_at hl 1 rfl) ?_
  refine lv_aload_n hx hb dX5_closeNextPage_32 rfl (lv_at hl 0 rfl) ?_
  have hM0 := cx_goThroughLine l D cA (S := S2) (g := g2) (J := I2) (R := R2) Inv nc N hX2 hP2 (by rw [eI]; simp [xcI, nu, iu_e, xX, xKA, xIA, xPA, xLN, xLR, xK, xSO, xHM, xFT, xLT, xN, xP, xPP, xQ]; exact hN0) hN (by have h := hI0 g2 k2; rw [← eS, ← eI, ← eR] at h; exact h) hT
  rw [gX2, gP2] at hM0
  refine kcX5_goThroughLine (As := [.ref q1]) (rest := []) wm5_168 hM0 hx hb hml ht hown hK hw hX2.1 gX2 rfl hl.1 rfl (by simp [Value.category]) ⟨(by first | decide | (simp; done) | (simp; omega) | omega), (by first | decide | (simp; done) | (simp; omega) | omega)⟩ ⟨(by first | decide | (simp; done) | (simp; omega) | omega), (by first | decide | (simp; done) | (simp; omega) | omega)⟩ dX5_closeNextPage_33 (fun v S3 g3 I3 R3 H locs hp hw => ?_)
  obtain ⟨rfl, hI3, hX3, hP3, gX3, gP3⟩ := hp
  clear hM0
  have hc3 : I3 xX 8 = nI nc := hfin _ _ _ _ hI3
  show W _ _ _ _ _ _ _ _ _ _ _ _ _ _ _ (F0 m 36 ls [])
  refine lv_aload_n hx hb dX5_closeNextPage_36 rfl (lv_at hl 1 rfl) ?_
  refine fg5 (v := .ref (g3 xPA)) hx hb ht hown hK hw hX3.1 gX3 3 wf5_23 (by decide) (nh_vr rfl hX3.2.2.2.2.2.1) dX5_closeNextPage_37 ?_
  refine lv_aload_n hx hb dX5_closeNextPage_40 rfl (lv_at hl 1 rfl) ?_
  refine fg5 (v := .int (I3 xX 8)) hx hb ht hown hK hw hX3.1 gX3 8 wf5_81 (by decide) (nh_vi rfl) dX5_closeNextPage_41 ?_
  refine lv_aload_n hx hb dX5_closeNextPage_44 rfl (lv_at hl 0 rfl) ?_
  refine ar_st3 hx hb hK hw hX3.2.2.2.2.2.2.1 rfl (xP nc) hP3 gP3 (ix_of nc hc3 hc4 (by decide)) dX5_closeNextPage_45 (fun H locs T1 eT1 hw => ?_)
  have u1_xX_1 : T1 xX 1 = some xKA := by rw [eT1, ru_e, if_neg (by simp [xX, xKA, xIA, xPA, xLN, xLR, xK, xSO, xHM, xFT, xLT, xN, xP, xPP, xQ])]; exact hX3.2.1
  have u1_xX_2 : T1 xX 2 = some xIA := by rw [eT1, ru_e, if_neg (by simp [xX, xKA, xIA, xPA, xLN, xLR, xK, xSO, xHM, xFT, xLT, xN, xP, xPP, xQ])]; exact hX3.2.2.2.1
  have u1_xX_3 : T1 xX 3 = some xPA := by rw [eT1, ru_e, if_neg (by simp [xX, xKA, xIA, xPA, xLN, xLR, xK, xSO, xHM, xFT, xLT, xN, xP, xPP, xQ])]; exact hX3.2.2.2.2.2.1
  have u1_xX_4 : T1 xX 4 = some xLN := by rw [eT1, ru_e, if_neg (by simp [xX, xKA, xIA, xPA, xLN, xLR, xK, xSO, xHM, xFT, xLT, xN, xP, xPP, xQ])]; exact hX3.2.2.2.2.2.2.2.1
  have u1_xLN_0 : T1 xLN 0 = some xLR := by rw [eT1, ru_e, if_neg (by simp [xX, xKA, xIA, xPA, xLN, xLR, xK, xSO, xHM, xFT, xLT, xN, xP, xPP, xQ])]; exact hX3.2.2.2.2.2.2.2.2.2.1
  refine lv_aload_n hx hb dX5_closeNextPage_46 rfl (lv_at hl 1 rfl) ?_
  refine lv_dup hx hb dX5_closeNextPage_47 rfl ?_
  refine fg5 (v := .int (I3 xX 8)) hx hb ht hown hK hw hX3.1 gX3 8 wf5_81 (by decide) (by simp [nh_v, im_sk, iu_e, nu, xX, xKA, xIA, xPA, xLN, xLR, xK, xSO, xHM, xFT, xLT, xN, xP, xPP, xQ, eT1]) dX5_closeNextPage_48 ?_
  refine lv_iconst (v := 1) hx hb dX5_closeNextPage_51 (by decide) ?_
  refine lv_iadd hx hb dX5_closeNextPage_52 ?_
  refine fp5 hx hb ht hown hK hw hX3.1 gX3 8 wf5_81 (by decide) rfl rfl rfl rfl dX5_closeNextPage_53 (fun H locs J3 eJ3 hw => ?_)
  refine lv_aload_n hx hb dX5_closeNextPage_56 rfl (lv_at hl 0 rfl) ?_
  refine fg3 (v := .int (I3 (xP nc) 2)) hx hb ht hown hK hw hP3 gP3 2 wf5_172 (by decide) (by simp [nh_v, im_sk, iu_e, nu, xX, xKA, xIA, xPA, xLN, xLR, xK, xSO, xHM, xFT, xLT, xN, xP, xPP, xQ, eJ3, eT1]) dX5_closeNextPage_57 ?_
  refine nh_iret hx hb hr rfl hlocks hw (by first | decide | (simp; done) | (simp; omega) | omega) (by first | decide | (simp; done) | (simp; omega) | omega) dX5_closeNextPage_60 ?_
  subst eJ3
  subst eT1
  exact ⟨I3, R3, hI3, by rw [hc3], by rw [hc3, nI_clamp (show nc < 2 ^ 31 by omega)], by simp [iu_e, xX, xKA, xIA, xPA, xLN, xLR, xK, xSO, xHM, xFT, xLT, xN, xP, xPP, xQ], gX3, hX3.1⟩
