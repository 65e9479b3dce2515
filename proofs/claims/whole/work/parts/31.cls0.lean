/-! THE SYSTEM'S CELLS, by name -/
abbrev xX : nh_N := (0, 0, 0)
abbrev xKA : nh_N := (1, 0, 0)
abbrev xIA : nh_N := (2, 0, 0)
abbrev xPA : nh_N := (3, 0, 0)
abbrev xLN : nh_N := (4, 0, 0)
abbrev xLR : nh_N := (5, 0, 0)
abbrev xK (k : Nat) : nh_N := (6, k, 0)
abbrev xSO (k : Nat) : nh_N := (7, k, 0)
abbrev xHM (k : Nat) : nh_N := (8, k, 0)
abbrev xFT (k : Nat) : nh_N := (9, k, 0)
abbrev xLT (k : Nat) : nh_N := (10, k, 0)
abbrev xN (i : Nat) : nh_N := (11, i, 0)
abbrev xP (p : Nat) : nh_N := (12, p, 0)
abbrev xPP (p : Nat) : nh_N := (13, p, 0)
abbrev xQ (p j : Nat) : nh_N := (14, p, j)
def xKs (S : nh_N → Option nh_C) (R : nh_N → Nat → Option nh_N) (k : Nat) : Prop := S (xK k) = some (0, 1) ∧ R (xK k) 3 = some (xSO k) ∧ S (xSO k) = some (1, 40) ∧ R (xK k) 4 = some (xHM k) ∧ S (xHM k) = some (2, 40) ∧ R (xK k) 5 = some (xFT k) ∧ S (xFT k) = some (1, 40) ∧ R (xK k) 6 = some (xLT k) ∧ S (xLT k) = some (1, 40)
def xLs (S : nh_N → Option nh_C) (R : nh_N → Nat → Option nh_N) : Prop := S xLN = some (0, 2) ∧ R xLN 0 = some xLR ∧ S xLR = some (1, 200)
def xNs (S : nh_N → Option nh_C) (R : nh_N → Nat → Option nh_N) (i k : Nat) : Prop := S (xN i) = some (0, 0) ∧ R (xN i) 1 = some (xK k)
def xPs (S : nh_N → Option nh_C) (R : nh_N → Nat → Option nh_N) (q n : Nat) : Prop := S (xP q) = some (0, 3) ∧ R (xP q) 1 = some (xPP q) ∧ S (xPP q) = some (6, n)
def xXs (S : nh_N → Option nh_C) (R : nh_N → Nat → Option nh_N) : Prop := S xX = some (0, 5) ∧ R xX 1 = some xKA ∧ S xKA = some (3, 8) ∧ R xX 2 = some xIA ∧ S xIA = some (4, 200) ∧ R xX 3 = some xPA ∧ S xPA = some (5, 40) ∧ R xX 4 = some xLN ∧ xLs S R
def xf_isWithin (J : (nh_N → Nat → Int32))  (a : Int32) (b : Int32) (d : Int32) : Int32 := (if a < b then 0 else (if d < a then 0 else 1))
set_option maxHeartbeats 4000000 in
set_option maxRecDepth 100000 in
theorem cxf_isWithin (l : Launch) (D : va_G) (cA : Nat → ClassId) {S : nh_N → Option nh_C} {g : nh_N → Nat} {J : (nh_N → Nat → Int32)} {R : nh_N → Nat → Option nh_N}   (a : Int32) (b : Int32) (d : Int32)  : im_M l D cA yX5_isWithin vX5_isWithin 0 0 0 0 [.int a, .int b, .int d] S g J R (im_eq (some (.int (xf_isWithin J a b d))) S g J R) := by
  refine nh_of (cc := cX5_isWithin) (maxL := 3) (ret := (some .boolean)) (by decide) rfl (Nat.le_of_ble_eq_true rfl) ?_
  intro p e s m below meth c A ls hx hb hr hml hts hown hlocks hin hK hw hl
  have ht : ∀ w ∈ im_ws, w.before _ s = true := fun w h => hts w (List.mem_cons_of_mem _ h)
  have hl : lv_has ls 3 [(0, .int a), (1, .int b), (2, .int d)] := hl
  refine lv_iload_n hx hb dX5_isWithin_0 rfl (lv_at hl 1 rfl) ?_
  refine lv_iload_n hx hb dX5_isWithin_1 rfl (lv_at hl 0 rfl) ?_
  refine lv_icmp_gt (tgt := 14) hx hb dX5_isWithin_2 (by decide) (fun c2 => ?_) (fun c2 => ?_)
  · refine lv_iconst (v := 0) hx hb dX5_isWithin_14 (by decide) ?_
    refine nh_iret hx hb hr rfl hlocks hw (Nat.zero_le _) (Nat.zero_le _) dX5_isWithin_15 ?_
    simp only [xf_isWithin, if_pos c2]
    exact im_fin rfl rfl
  · refine lv_iload_n hx hb dX5_isWithin_5 rfl (lv_at hl 0 rfl) ?_
    refine lv_iload_n hx hb dX5_isWithin_6 rfl (lv_at hl 2 rfl) ?_
    refine lv_icmp_gt (tgt := 14) hx hb dX5_isWithin_7 (by decide) (fun c7 => ?_) (fun c7 => ?_)
    · refine lv_iconst (v := 0) hx hb dX5_isWithin_14 (by decide) ?_
      refine nh_iret hx hb hr rfl hlocks hw (Nat.zero_le _) (Nat.zero_le _) dX5_isWithin_15 ?_
      simp only [xf_isWithin, if_neg c2, if_pos c7]
      exact im_fin rfl rfl
    · refine lv_iconst (v := 1) hx hb dX5_isWithin_10 (by decide) ?_
      refine lv_goto (tgt := 15) hx hb dX5_isWithin_11 (by decide) ?_
      refine nh_iret hx hb hr rfl hlocks hw (Nat.zero_le _) (Nat.zero_le _) dX5_isWithin_15 ?_
      simp only [xf_isWithin, if_neg c2, if_neg c7]
      exact im_fin rfl rfl
theorem xb_isWithin (J : nh_N → Nat → Int32) (a b d : Int32) : xf_isWithin J a b d = 0 ∨ xf_isWithin J a b d = 1 := by
  unfold xf_isWithin
  split <;> (try split) <;> simp
def xf_isPage (J : (nh_N → Nat → Int32))  (a : Int32) : Int32 := (xf_isWithin J a 0 39)
set_option maxHeartbeats 4000000 in
set_option maxRecDepth 100000 in
theorem cxf_isPage (l : Launch) (D : va_G) (cA : Nat → ClassId) {S : nh_N → Option nh_C} {g : nh_N → Nat} {J : (nh_N → Nat → Int32)} {R : nh_N → Nat → Option nh_N}   (a : Int32)  : im_M l D cA yX5_isPage vX5_isPage 1 22 0 0 [.int a] S g J R (im_eq (some (.int (xf_isPage J a))) S g J R) := by
  refine nh_of (cc := cX5_isPage) (maxL := 1) (ret := (some .boolean)) (by decide) rfl (Nat.le_of_ble_eq_true rfl) ?_
  intro p e s m below meth c A ls hx hb hr hml hts hown hlocks hin hK hw hl
  have ht : ∀ w ∈ im_ws, w.before _ s = true := fun w h => hts w (List.mem_cons_of_mem _ h)
  have hl : lv_has ls 1 [(0, .int a)] := hl
  refine lv_iload_n hx hb dX5_isPage_0 rfl (lv_at hl 0 rfl) ?_
  refine lv_iconst (v := 0) hx hb dX5_isPage_1 (by decide) ?_
  refine lv_bipush (v := 39) hx hb dX5_isPage_2 (by decide) ?_
  refine kcX5_isWithin (As := [.int a, .int 0, .int 39]) (rest := []) wm5_47 (cxf_isWithin l D cA a 0 39) hx hb hml ht hown hK hw rfl hl.1 rfl (by simp [Value.category]) ⟨by decide, by decide⟩ ⟨by simp, by simp⟩ dX5_isPage_4 (fun v S1 g1 I1 R1 H locs hp hw => ?_)
  obtain ⟨rfl, h1, h2, h3, h4⟩ := hp
  rw [h1, h2, h3, h4] at hw
  clear h1 h2 h3 h4
  show W _ _ _ _ _ _ _ _ _ _ _ _ _ _ _ (F0 m 7 ls [.int (xf_isWithin J a 0 39)])
  refine nh_iret hx hb hr (nb_of (xb_isWithin _ _ _ _)) hlocks hw (Nat.zero_le _) (Nat.zero_le _) dX5_isPage_7 ?_
  exact im_fin rfl rfl
theorem xb_isPage (J : nh_N → Nat → Int32) (a : Int32) : xf_isPage J a = 0 ∨ xf_isPage J a = 1 := xb_isWithin _ _ _ _
def xf_isClosed (J : (nh_N → Nat → Int32))  (a : Int32) : Int32 := (if (J xX 8) ≤ a then 0 else 1)
set_option maxHeartbeats 4000000 in
set_option maxRecDepth 100000 in
theorem cxf_isClosed (l : Launch) (D : va_G) (cA : Nat → ClassId) {S : nh_N → Option nh_C} {g : nh_N → Nat} {J : (nh_N → Nat → Int32)} {R : nh_N → Nat → Option nh_N}  (hX : xXs S R) (a : Int32)  : im_M l D cA yX5_isClosed vX5_isClosed 0 0 0 0 [.ref (g xX), .int a] S g J R (im_eq (some (.int (xf_isClosed J a))) S g J R) := by
  refine nh_of (cc := cX5_isClosed) (maxL := 2) (ret := (some .boolean)) (by decide) rfl (Nat.le_of_ble_eq_true rfl) ?_
  intro p e s m below meth c A ls hx hb hr hml hts hown hlocks hin hK hw hl
  have ht : ∀ w ∈ im_ws, w.before _ s = true := fun w h => hts w (List.mem_cons_of_mem _ h)
  have hl : lv_has ls 2 [(0, .ref (g xX)), (1, .int a)] := hl
  refine lv_iload_n hx hb dX5_isClosed_0 rfl (lv_at hl 1 rfl) ?_
  refine lv_aload_n hx hb dX5_isClosed_1 rfl (lv_at hl 0 rfl) ?_
  refine fg5 (v := .int (J xX 8)) hx hb ht hown hK hw hX.1 rfl 8 wf5_81 (by decide) (nh_vi rfl) dX5_isClosed_2 ?_
  refine lv_icmp_ge (tgt := 12) hx hb dX5_isClosed_5 (by decide) (fun c5 => ?_) (fun c5 => ?_)
  · refine lv_iconst (v := 0) hx hb dX5_isClosed_12 (by decide) ?_
    refine nh_iret hx hb hr rfl hlocks hw (Nat.zero_le _) (Nat.zero_le _) dX5_isClosed_13 ?_
    simp only [xf_isClosed, if_pos c5]
    exact im_fin rfl rfl
  · refine lv_iconst (v := 1) hx hb dX5_isClosed_8 (by decide) ?_
    refine lv_goto (tgt := 13) hx hb dX5_isClosed_9 (by decide) ?_
    refine nh_iret hx hb hr rfl hlocks hw (Nat.zero_le _) (Nat.zero_le _) dX5_isClosed_13 ?_
    simp only [xf_isClosed, if_neg c5]
    exact im_fin rfl rfl
def xf_startPage (J : (nh_N → Nat → Int32)) (k : Nat)  : Int32 × (nh_N → Nat → Int32) := (if (J (xK k) 2) = 0 then (0, (iu J (xK k) 8 0)) else (0, (iu (iu J (xK k) 8 0) (xK k) 7 0)))
set_option maxHeartbeats 4000000 in
set_option maxRecDepth 100000 in
theorem cxf_startPage (l : Launch) (D : va_G) (cA : Nat → ClassId) {S : nh_N → Option nh_C} {g : nh_N → Nat} {J : (nh_N → Nat → Int32)} {R : nh_N → Nat → Option nh_N} (k : Nat) (hk : xKs S R k)   : im_M l D cA yX1_startPage vX1_startPage 0 0 0 0 [.ref (g (xK k))] S g J R (im_eq none S g (xf_startPage J k).2 R) := by
  refine nh_of (cc := cX1_startPage) (maxL := 1) (ret := none) (by decide) rfl (Nat.le_of_ble_eq_true rfl) ?_
  intro p e s m below meth c A ls hx hb hr hml hts hown hlocks hin hK hw hl
  have ht : ∀ w ∈ im_ws, w.before _ s = true := fun w h => hts w (List.mem_cons_of_mem _ h)
  have hl : lv_has ls 1 [(0, .ref (g (xK k)))] := hl
  refine lv_aload_n hx hb dX1_startPage_0 rfl (lv_at hl 0 rfl) ?_
  refine lv_iconst (v := 0) hx hb dX1_startPage_1 (by decide) ?_
  refine fp1 hx hb ht hown hK hw hk.1 rfl 8 wf1_36 (by decide) rfl rfl rfl rfl dX1_startPage_2 (fun H locs J1 eJ1 hw => ?_)
  refine lv_aload_n hx hb dX1_startPage_5 rfl (lv_at hl 0 rfl) ?_
  refine fg1 (v := .int (J (xK k) 2)) hx hb ht hown hK hw hk.1 rfl 2 wf1_32 (by decide) (by simp [nh_v, im_sk, iu_e, xX, xKA, xIA, xPA, xLN, xLR, xK, xSO, xHM, xFT, xLT, xN, xP, xPP, xQ, eJ1]) dX1_startPage_6 ?_
  refine lv_if_eq (tgt := 17) hx hb dX1_startPage_9 (by decide) (fun c9 => ?_) (fun c9 => ?_)
  · refine nh_vret hx hb hr hlocks hw (Nat.zero_le _) (Nat.zero_le _) dX1_startPage_17 ?_
    subst eJ1
    simp only [xf_startPage, if_pos c9]
    exact im_fin rfl rfl
  · refine lv_aload_n hx hb dX1_startPage_12 rfl (lv_at hl 0 rfl) ?_
    refine lv_iconst (v := 0) hx hb dX1_startPage_13 (by decide) ?_
    refine fp1 hx hb ht hown hK hw hk.1 rfl 7 wf1_39 (by decide) rfl rfl rfl rfl dX1_startPage_14 (fun H locs J2 eJ2 hw => ?_)
    refine nh_vret hx hb hr hlocks hw (Nat.zero_le _) (Nat.zero_le _) dX1_startPage_17 ?_
    subst eJ2
    subst eJ1
    simp only [xf_startPage, if_neg c9]
    exact im_fin rfl rfl
def xf_mayCut (J : (nh_N → Nat → Int32)) (k : Nat) (a : Int32) (b : Int32) : Int32 := (if (J (xK k) 1) ≤ 0 then 0 else (if b < (J (xK k) 1) then 0 else (if (a - b) < (J (xK k) 1) then 0 else 1)))
set_option maxHeartbeats 4000000 in
set_option maxRecDepth 100000 in
theorem cxf_mayCut (l : Launch) (D : va_G) (cA : Nat → ClassId) {S : nh_N → Option nh_C} {g : nh_N → Nat} {J : (nh_N → Nat → Int32)} {R : nh_N → Nat → Option nh_N} (k : Nat) (hk : xKs S R k) (a : Int32) (b : Int32)  : im_M l D cA yX1_mayCut vX1_mayCut 0 0 0 0 [.ref (g (xK k)), .int a, .int b] S g J R (im_eq (some (.int (xf_mayCut J k a b))) S g J R) := by
  refine nh_of (cc := cX1_mayCut) (maxL := 3) (ret := (some .boolean)) (by decide) rfl (Nat.le_of_ble_eq_true rfl) ?_
  intro p e s m below meth c A ls hx hb hr hml hts hown hlocks hin hK hw hl
  have ht : ∀ w ∈ im_ws, w.before _ s = true := fun w h => hts w (List.mem_cons_of_mem _ h)
  have hl : lv_has ls 3 [(0, .ref (g (xK k))), (1, .int a), (2, .int b)] := hl
  refine lv_aload_n hx hb dX1_mayCut_0 rfl (lv_at hl 0 rfl) ?_
  refine fg1 (v := .int (J (xK k) 1)) hx hb ht hown hK hw hk.1 rfl 1 wf1_29 (by decide) (nh_vi rfl) dX1_mayCut_1 ?_
  refine lv_if_le (tgt := 29) hx hb dX1_mayCut_4 (by decide) (fun c4 => ?_) (fun c4 => ?_)
  · refine lv_iconst (v := 0) hx hb dX1_mayCut_29 (by decide) ?_
    refine nh_iret hx hb hr rfl hlocks hw (Nat.zero_le _) (Nat.zero_le _) dX1_mayCut_30 ?_
    simp only [xf_mayCut, if_pos c4]
    exact im_fin rfl rfl
  · refine lv_iload_n hx hb dX1_mayCut_7 rfl (lv_at hl 2 rfl) ?_
    refine lv_aload_n hx hb dX1_mayCut_8 rfl (lv_at hl 0 rfl) ?_
    refine fg1 (v := .int (J (xK k) 1)) hx hb ht hown hK hw hk.1 rfl 1 wf1_29 (by decide) (nh_vi rfl) dX1_mayCut_9 ?_
    refine lv_icmp_lt (tgt := 29) hx hb dX1_mayCut_12 (by decide) (fun c12 => ?_) (fun c12 => ?_)
    · refine lv_iconst (v := 0) hx hb dX1_mayCut_29 (by decide) ?_
      refine nh_iret hx hb hr rfl hlocks hw (Nat.zero_le _) (Nat.zero_le _) dX1_mayCut_30 ?_
      simp only [xf_mayCut, if_neg c4, if_pos c12]
      exact im_fin rfl rfl
    · refine lv_iload_n hx hb dX1_mayCut_15 rfl (lv_at hl 1 rfl) ?_
      refine lv_iload_n hx hb dX1_mayCut_16 rfl (lv_at hl 2 rfl) ?_
      refine lv_isub hx hb dX1_mayCut_17 ?_
      refine lv_aload_n hx hb dX1_mayCut_18 rfl (lv_at hl 0 rfl) ?_
      refine fg1 (v := .int (J (xK k) 1)) hx hb ht hown hK hw hk.1 rfl 1 wf1_29 (by decide) (nh_vi rfl) dX1_mayCut_19 ?_
      refine lv_icmp_lt (tgt := 29) hx hb dX1_mayCut_22 (by decide) (fun c22 => ?_) (fun c22 => ?_)
      · refine lv_iconst (v := 0) hx hb dX1_mayCut_29 (by decide) ?_
        refine nh_iret hx hb hr rfl hlocks hw (Nat.zero_le _) (Nat.zero_le _) dX1_mayCut_30 ?_
        simp only [xf_mayCut, if_neg c4, if_neg c12, if_pos c22]
        exact im_fin rfl rfl
      · refine lv_iconst (v := 1) hx hb dX1_mayCut_25 (by decide) ?_
        refine lv_goto (tgt := 30) hx hb dX1_mayCut_26 (by decide) ?_
        refine nh_iret hx hb hr rfl hlocks hw (Nat.zero_le _) (Nat.zero_le _) dX1_mayCut_30 ?_
        simp only [xf_mayCut, if_neg c4, if_neg c12, if_neg c22]
        exact im_fin rfl rfl
theorem xb_mayCut (J : nh_N → Nat → Int32) (k : Nat) (a b : Int32) : xf_mayCut J k a b = 0 ∨ xf_mayCut J k a b = 1 := by
  unfold xf_mayCut
  split <;> (try split) <;> (try split) <;> simp
def xf_nextNumber (J : (nh_N → Nat → Int32)) (k : Nat)  : Int32 × (nh_N → Nat → Int32) := ((J (xK k) 7) + 1, (iu J (xK k) 7 ((J (xK k) 7) + 1)))
set_option maxHeartbeats 4000000 in
set_option maxRecDepth 100000 in
theorem cxf_nextNumber (l : Launch) (D : va_G) (cA : Nat → ClassId) {S : nh_N → Option nh_C} {g : nh_N → Nat} {J : (nh_N → Nat → Int32)} {R : nh_N → Nat → Option nh_N} (k : Nat) (hk : xKs S R k)   : im_M l D cA yX1_nextNumber vX1_nextNumber 0 0 0 0 [.ref (g (xK k))] S g J R (im_eq (some (.int (xf_nextNumber J k).1)) S g (xf_nextNumber J k).2 R) := by
  refine nh_of (cc := cX1_nextNumber) (maxL := 1) (ret := (some .int)) (by decide) rfl (Nat.le_of_ble_eq_true rfl) ?_
  intro p e s m below meth c A ls hx hb hr hml hts hown hlocks hin hK hw hl
  have ht : ∀ w ∈ im_ws, w.before _ s = true := fun w h => hts w (List.mem_cons_of_mem _ h)
  have hl : lv_has ls 1 [(0, .ref (g (xK k)))] := hl
  refine lv_aload_n hx hb dX1_nextNumber_0 rfl (lv_at hl 0 rfl) ?_
  refine lv_dup hx hb dX1_nextNumber_1 rfl ?_
  refine fg1 (v := .int (J (xK k) 7)) hx hb ht hown hK hw hk.1 rfl 7 wf1_39 (by decide) (nh_vi rfl) dX1_nextNumber_2 ?_
  refine lv_iconst (v := 1) hx hb dX1_nextNumber_5 (by decide) ?_
  refine lv_iadd hx hb dX1_nextNumber_6 ?_
  refine fp1 hx hb ht hown hK hw hk.1 rfl 7 wf1_39 (by decide) rfl rfl rfl rfl dX1_nextNumber_7 (fun H locs J1 eJ1 hw => ?_)
  refine lv_aload_n hx hb dX1_nextNumber_10 rfl (lv_at hl 0 rfl) ?_
  refine fg1 (v := .int ((J (xK k) 7) + 1)) hx hb ht hown hK hw hk.1 rfl 7 wf1_39 (by decide) (by simp [nh_v, im_sk, iu_e, xX, xKA, xIA, xPA, xLN, xLR, xK, xSO, xHM, xFT, xLT, xN, xP, xPP, xQ, eJ1]) dX1_nextNumber_11 ?_
  refine nh_iret hx hb hr rfl hlocks hw (Nat.zero_le _) (Nat.zero_le _) dX1_nextNumber_14 ?_
  subst eJ1
  exact im_fin rfl rfl
def xf_addMark (J : (nh_N → Nat → Int32)) (k : Nat) (a : Int32) (b : Int32) : Int32 × (nh_N → Nat → Int32) := (if (J (xHM k) a.toNatClampNeg) = 0 then (0, (iu (iu (iu J (xHM k) a.toNatClampNeg 1) (xFT k) a.toNatClampNeg b) (xLT k) a.toNatClampNeg b)) else (0, (iu J (xLT k) a.toNatClampNeg b)))
set_option maxHeartbeats 4000000 in
set_option maxRecDepth 100000 in
theorem cxf_addMark (l : Launch) (D : va_G) (cA : Nat → ClassId) {S : nh_N → Option nh_C} {g : nh_N → Nat} {J : (nh_N → Nat → Int32)} {R : nh_N → Nat → Option nh_N} (k : Nat) (hk : xKs S R k) (a : Int32) (b : Int32) (hpa : vp_in a 40) : im_M l D cA yX1_addMark vX1_addMark 0 0 0 0 [.ref (g (xK k)), .int a, .int b] S g J R (im_eq none S g (xf_addMark J k a b).2 R) := by
  refine nh_of (cc := cX1_addMark) (maxL := 3) (ret := none) (by decide) rfl (Nat.le_of_ble_eq_true rfl) ?_
  intro p e s m below meth c A ls hx hb hr hml hts hown hlocks hin hK hw hl
  have ht : ∀ w ∈ im_ws, w.before _ s = true := fun w h => hts w (List.mem_cons_of_mem _ h)
  have hl : lv_has ls 3 [(0, .ref (g (xK k))), (1, .int a), (2, .int b)] := hl
  refine lv_aload_n hx hb dX1_addMark_0 rfl (lv_at hl 0 rfl) ?_
  refine fg1 hx hb ht hown hK hw hk.1 rfl 4 wf1_15 (by decide) (nh_vr rfl hk.2.2.2.1) dX1_addMark_1 ?_
  refine lv_iload_n hx hb dX1_addMark_4 rfl (lv_at hl 1 rfl) ?_
  refine az_ld hx hb hK hw hk.2.2.2.2.1 rfl hpa dX1_addMark_5 ?_
  refine lv_if_ne (tgt := 23) hx hb dX1_addMark_6 (by decide) (fun c6 => ?_) (fun c6 => ?_)
  · refine lv_aload_n hx hb dX1_addMark_23 rfl (lv_at hl 0 rfl) ?_
    refine fg1 hx hb ht hown hK hw hk.1 rfl 6 wf1_22 (by decide) (nh_vr rfl hk.2.2.2.2.2.2.2.1) dX1_addMark_24 ?_
    refine lv_iload_n hx hb dX1_addMark_27 rfl (lv_at hl 1 rfl) ?_
    refine lv_iload_n hx hb dX1_addMark_28 rfl (lv_at hl 2 rfl) ?_
    refine ai_st hx hb hK hw hk.2.2.2.2.2.2.2.2 rfl hpa dX1_addMark_29 (fun H locs J1 eJ1 hw => ?_)
    refine nh_vret hx hb hr hlocks hw (Nat.zero_le _) (Nat.zero_le _) dX1_addMark_30 ?_
    subst eJ1
    simp only [xf_addMark, if_neg c6]
    exact im_fin rfl rfl
  · refine lv_aload_n hx hb dX1_addMark_9 rfl (lv_at hl 0 rfl) ?_
    refine fg1 hx hb ht hown hK hw hk.1 rfl 4 wf1_15 (by decide) (nh_vr rfl hk.2.2.2.1) dX1_addMark_10 ?_
    refine lv_iload_n hx hb dX1_addMark_13 rfl (lv_at hl 1 rfl) ?_
    refine lv_iconst (v := 1) hx hb dX1_addMark_14 (by decide) ?_
    refine az_st hx hb hK hw hk.2.2.2.2.1 rfl hpa rfl dX1_addMark_15 (fun H locs J2 eJ2 hw => ?_)
    refine lv_aload_n hx hb dX1_addMark_16 rfl (lv_at hl 0 rfl) ?_
    refine fg1 hx hb ht hown hK hw hk.1 rfl 5 wf1_19 (by decide) (nh_vr rfl hk.2.2.2.2.2.1) dX1_addMark_17 ?_
    refine lv_iload_n hx hb dX1_addMark_20 rfl (lv_at hl 1 rfl) ?_
    refine lv_iload_n hx hb dX1_addMark_21 rfl (lv_at hl 2 rfl) ?_
    refine ai_st hx hb hK hw hk.2.2.2.2.2.2.1 rfl hpa dX1_addMark_22 (fun H locs J3 eJ3 hw => ?_)
    refine lv_aload_n hx hb dX1_addMark_23 rfl (lv_at hl 0 rfl) ?_
    refine fg1 hx hb ht hown hK hw hk.1 rfl 6 wf1_22 (by decide) (nh_vr rfl hk.2.2.2.2.2.2.2.1) dX1_addMark_24 ?_
    refine lv_iload_n hx hb dX1_addMark_27 rfl (lv_at hl 1 rfl) ?_
    refine lv_iload_n hx hb dX1_addMark_28 rfl (lv_at hl 2 rfl) ?_
    refine ai_st hx hb hK hw hk.2.2.2.2.2.2.2.2 rfl hpa dX1_addMark_29 (fun H locs J4 eJ4 hw => ?_)
    refine nh_vret hx hb hr hlocks hw (Nat.zero_le _) (Nat.zero_le _) dX1_addMark_30 ?_
    subst eJ4
    subst eJ3
    subst eJ2
    simp only [xf_addMark, if_pos c6]
    exact im_fin rfl rfl
def xf_isTakenBack (J : (nh_N → Nat → Int32)) (i k : Nat)  : Int32 := (if (J (xN i) 3) = 0 then (if (J (xN i) 7) = 0 then 1 else 0) else 0)
set_option maxHeartbeats 4000000 in
set_option maxRecDepth 100000 in
theorem cxf_isTakenBack (l : Launch) (D : va_G) (cA : Nat → ClassId) {S : nh_N → Option nh_C} {g : nh_N → Nat} {J : (nh_N → Nat → Int32)} {R : nh_N → Nat → Option nh_N} (i k : Nat) (hn : xNs S R i k)   : im_M l D cA yX0_isTakenBack vX0_isTakenBack 0 0 0 0 [.ref (g (xN i))] S g J R (im_eq (some (.int (xf_isTakenBack J i k))) S g J R) := by
  refine nh_of (cc := cX0_isTakenBack) (maxL := 1) (ret := (some .boolean)) (by decide) rfl (Nat.le_of_ble_eq_true rfl) ?_
  intro p e s m below meth c A ls hx hb hr hml hts hown hlocks hin hK hw hl
  have ht : ∀ w ∈ im_ws, w.before _ s = true := fun w h => hts w (List.mem_cons_of_mem _ h)
  have hl : lv_has ls 1 [(0, .ref (g (xN i)))] := hl
  refine lv_aload_n hx hb dX0_isTakenBack_0 rfl (lv_at hl 0 rfl) ?_
  refine fg0 (v := .int (J (xN i) 3)) hx hb ht hown hK hw hn.1 rfl 3 wf0_31 (by decide) (nh_vi rfl) dX0_isTakenBack_1 ?_
  refine lv_if_ne (tgt := 18) hx hb dX0_isTakenBack_4 (by decide) (fun c4 => ?_) (fun c4 => ?_)
  · refine lv_iconst (v := 0) hx hb dX0_isTakenBack_18 (by decide) ?_
    refine nh_iret hx hb hr rfl hlocks hw (Nat.zero_le _) (Nat.zero_le _) dX0_isTakenBack_19 ?_
    simp only [xf_isTakenBack, if_neg c4]
    exact im_fin rfl rfl
  · refine lv_aload_n hx hb dX0_isTakenBack_7 rfl (lv_at hl 0 rfl) ?_
    refine fg0 (v := .int (J (xN i) 7)) hx hb ht hown hK hw hn.1 rfl 7 wf0_34 (by decide) (nh_vi rfl) dX0_isTakenBack_8 ?_
    refine lv_if_ne (tgt := 18) hx hb dX0_isTakenBack_11 (by decide) (fun c11 => ?_) (fun c11 => ?_)
    · refine lv_iconst (v := 0) hx hb dX0_isTakenBack_18 (by decide) ?_
      refine nh_iret hx hb hr rfl hlocks hw (Nat.zero_le _) (Nat.zero_le _) dX0_isTakenBack_19 ?_
      simp only [xf_isTakenBack, if_pos c4, if_neg c11]
      exact im_fin rfl rfl
    · refine lv_iconst (v := 1) hx hb dX0_isTakenBack_14 (by decide) ?_
      refine lv_goto (tgt := 19) hx hb dX0_isTakenBack_15 (by decide) ?_
      refine nh_iret hx hb hr rfl hlocks hw (Nat.zero_le _) (Nat.zero_le _) dX0_isTakenBack_19 ?_
      simp only [xf_isTakenBack, if_pos c4, if_pos c11]
      exact im_fin rfl rfl
def xf_addPart (J : (nh_N → Nat → Int32)) (i k : Nat) (a : Int32) (b : Int32) : Int32 × (nh_N → Nat → Int32) := (if (J (xN i) 7) = 0 then (0, (iu (iu (iu (iu (xf_nextNumber (iu J (xN i) 5 a) k).2 (xN i) 4 ((xf_nextNumber (iu J (xN i) 5 a) k).1)) (xN i) 6 a) (xN i) 7 (((xf_nextNumber (iu J (xN i) 5 a) k).2 (xN i) 7) + 1)) (xN i) 3 (((xf_nextNumber (iu J (xN i) 5 a) k).2 (xN i) 3) - b))) else (0, (iu (iu (iu J (xN i) 6 a) (xN i) 7 ((J (xN i) 7) + 1)) (xN i) 3 ((J (xN i) 3) - b))))
set_option maxHeartbeats 4000000 in
set_option maxRecDepth 100000 in
theorem cxf_addPart (l : Launch) (D : va_G) (cA : Nat → ClassId) {S : nh_N → Option nh_C} {g : nh_N → Nat} {J : (nh_N → Nat → Int32)} {R : nh_N → Nat → Option nh_N} (i k : Nat) (hn : xNs S R i k) (hk : xKs S R k) (a : Int32) (b : Int32)  : im_M l D cA yX0_addPart vX0_addPart 1 20 0 0 [.ref (g (xN i)), .int a, .int b] S g J R (im_eq none S g (xf_addPart J i k a b).2 R) := by
  refine nh_of (cc := cX0_addPart) (maxL := 3) (ret := none) (by decide) rfl (Nat.le_of_ble_eq_true rfl) ?_
  intro p e s m below meth c A ls hx hb hr hml hts hown hlocks hin hK hw hl
  have ht : ∀ w ∈ im_ws, w.before _ s = true := fun w h => hts w (List.mem_cons_of_mem _ h)
  have hl : lv_has ls 3 [(0, .ref (g (xN i))), (1, .int a), (2, .int b)] := hl
  refine lv_aload_n hx hb dX0_addPart_0 rfl (lv_at hl 0 rfl) ?_
  refine fg0 (v := .int (J (xN i) 7)) hx hb ht hown hK hw hn.1 rfl 7 wf0_34 (by decide) (nh_vi rfl) dX0_addPart_1 ?_
  refine lv_if_ne (tgt := 23) hx hb dX0_addPart_4 (by decide) (fun c4 => ?_) (fun c4 => ?_)
  · refine lv_aload_n hx hb dX0_addPart_23 rfl (lv_at hl 0 rfl) ?_
    refine lv_iload_n hx hb dX0_addPart_24 rfl (lv_at hl 1 rfl) ?_
    refine fp0 hx hb ht hown hK hw hn.1 rfl 6 wf0_18 (by decide) rfl rfl rfl rfl dX0_addPart_25 (fun H locs J1 eJ1 hw => ?_)
    refine lv_aload_n hx hb dX0_addPart_28 rfl (lv_at hl 0 rfl) ?_
    refine lv_dup hx hb dX0_addPart_29 rfl ?_
    refine fg0 (v := .int (J (xN i) 7)) hx hb ht hown hK hw hn.1 rfl 7 wf0_34 (by decide) (by simp [nh_v, im_sk, iu_e, xX, xKA, xIA, xPA, xLN, xLR, xK, xSO, xHM, xFT, xLT, xN, xP, xPP, xQ, eJ1]) dX0_addPart_30 ?_
    refine lv_iconst (v := 1) hx hb dX0_addPart_33 (by decide) ?_
    refine lv_iadd hx hb dX0_addPart_34 ?_
    refine fp0 hx hb ht hown hK hw hn.1 rfl 7 wf0_34 (by decide) rfl rfl rfl rfl dX0_addPart_35 (fun H locs J2 eJ2 hw => ?_)
    refine lv_aload_n hx hb dX0_addPart_38 rfl (lv_at hl 0 rfl) ?_
    refine lv_dup hx hb dX0_addPart_39 rfl ?_
    refine fg0 (v := .int (J (xN i) 3)) hx hb ht hown hK hw hn.1 rfl 3 wf0_31 (by decide) (by simp [nh_v, im_sk, iu_e, xX, xKA, xIA, xPA, xLN, xLR, xK, xSO, xHM, xFT, xLT, xN, xP, xPP, xQ, eJ2, eJ1]) dX0_addPart_40 ?_
    refine lv_iload_n hx hb dX0_addPart_43 rfl (lv_at hl 2 rfl) ?_
    refine lv_isub hx hb dX0_addPart_44 ?_
    refine fp0 hx hb ht hown hK hw hn.1 rfl 3 wf0_31 (by decide) rfl rfl rfl rfl dX0_addPart_45 (fun H locs J3 eJ3 hw => ?_)
    refine nh_vret hx hb hr hlocks hw (Nat.zero_le _) (Nat.zero_le _) dX0_addPart_48 ?_
    subst eJ3
    subst eJ2
    subst eJ1
    simp only [xf_addPart, if_neg c4]
    exact im_fin rfl rfl
  · refine lv_aload_n hx hb dX0_addPart_7 rfl (lv_at hl 0 rfl) ?_
    refine lv_iload_n hx hb dX0_addPart_8 rfl (lv_at hl 1 rfl) ?_
    refine fp0 hx hb ht hown hK hw hn.1 rfl 5 wf0_15 (by decide) rfl rfl rfl rfl dX0_addPart_9 (fun H locs J4 eJ4 hw => ?_)
    refine lv_aload_n hx hb dX0_addPart_12 rfl (lv_at hl 0 rfl) ?_
    refine lv_aload_n hx hb dX0_addPart_13 rfl (lv_at hl 0 rfl) ?_
    refine fg0 hx hb ht hown hK hw hn.1 rfl 1 wf0_24 (by decide) (nh_vr rfl hn.2) dX0_addPart_14 ?_
    refine kcX1_nextNumber (As := []) (rest := [.ref (g (xN i))]) wm0_37 (cxf_nextNumber l D cA k hk) hx hb hml ht hown hK hw hk.1 rfl rfl hl.1 rfl (by simp [Value.category]) ⟨by decide, by decide⟩ ⟨by simp, by simp⟩ dX0_addPart_17 (fun v S1 g1 J5 R1 H locs hp hw => ?_)
    obtain ⟨rfl, h1, h2, eJ5, h4⟩ := hp
    rw [h1, h2, h4] at hw
    clear h1 h2 h4
    show W _ _ _ _ _ _ _ _ _ _ _ _ _ _ _ (F0 m 20 ls [.int ((xf_nextNumber J4 k).1), .ref (g (xN i))])
    refine fp0 hx hb ht hown hK hw hn.1 rfl 4 wf0_9 (by decide) rfl rfl rfl rfl dX0_addPart_20 (fun H locs J6 eJ6 hw => ?_)
    refine lv_aload_n hx hb dX0_addPart_23 rfl (lv_at hl 0 rfl) ?_
    refine lv_iload_n hx hb dX0_addPart_24 rfl (lv_at hl 1 rfl) ?_
    refine fp0 hx hb ht hown hK hw hn.1 rfl 6 wf0_18 (by decide) rfl rfl rfl rfl dX0_addPart_25 (fun H locs J7 eJ7 hw => ?_)
    refine lv_aload_n hx hb dX0_addPart_28 rfl (lv_at hl 0 rfl) ?_
    refine lv_dup hx hb dX0_addPart_29 rfl ?_
    refine fg0 (v := .int (J5 (xN i) 7)) hx hb ht hown hK hw hn.1 rfl 7 wf0_34 (by decide) (by simp [nh_v, im_sk, iu_e, xX, xKA, xIA, xPA, xLN, xLR, xK, xSO, xHM, xFT, xLT, xN, xP, xPP, xQ, eJ7, eJ6]) dX0_addPart_30 ?_
    refine lv_iconst (v := 1) hx hb dX0_addPart_33 (by decide) ?_
    refine lv_iadd hx hb dX0_addPart_34 ?_
    refine fp0 hx hb ht hown hK hw hn.1 rfl 7 wf0_34 (by decide) rfl rfl rfl rfl dX0_addPart_35 (fun H locs J8 eJ8 hw => ?_)
    refine lv_aload_n hx hb dX0_addPart_38 rfl (lv_at hl 0 rfl) ?_
    refine lv_dup hx hb dX0_addPart_39 rfl ?_
    refine fg0 (v := .int (J5 (xN i) 3)) hx hb ht hown hK hw hn.1 rfl 3 wf0_31 (by decide) (by simp [nh_v, im_sk, iu_e, xX, xKA, xIA, xPA, xLN, xLR, xK, xSO, xHM, xFT, xLT, xN, xP, xPP, xQ, eJ8, eJ7, eJ6]) dX0_addPart_40 ?_
    refine lv_iload_n hx hb dX0_addPart_43 rfl (lv_at hl 2 rfl) ?_
    refine lv_isub hx hb dX0_addPart_44 ?_
    refine fp0 hx hb ht hown hK hw hn.1 rfl 3 wf0_31 (by decide) rfl rfl rfl rfl dX0_addPart_45 (fun H locs J9 eJ9 hw => ?_)
    refine nh_vret hx hb hr hlocks hw (Nat.zero_le _) (Nat.zero_le _) dX0_addPart_48 ?_
    subst eJ9
    subst eJ8
    subst eJ7
    subst eJ6
    subst eJ5
    subst eJ4
    simp only [xf_addPart, if_pos c4]
    exact im_fin rfl rfl
def xf_append (J : (nh_N → Nat → Int32))  (a : Int32) : Int32 × (nh_N → Nat → Int32) := (if (nI 200) ≤ (J xLN 1) then (0, J) else (0, (iu (iu J xLR (J xLN 1).toNatClampNeg a) xLN 1 ((J xLN 1) + 1))))
set_option maxHeartbeats 4000000 in
set_option maxRecDepth 100000 in
theorem cxf_append (l : Launch) (D : va_G) (cA : Nat → ClassId) {S : nh_N → Option nh_C} {g : nh_N → Nat} {J : (nh_N → Nat → Int32)} {R : nh_N → Nat → Option nh_N}  (hln : xLs S R) (a : Int32) (n : Nat) (hn : J xLN 1 = nI n) (hn2 : n ≤ 200) : im_M l D cA yX2_append vX2_append 0 0 0 0 [.ref (g xLN), .int a] S g J R (im_eq none S g (xf_append J a).2 R) := by
  refine nh_of (cc := cX2_append) (maxL := 2) (ret := none) (by decide) rfl (Nat.le_of_ble_eq_true rfl) ?_
  intro p e s m below meth c A ls hx hb hr hml hts hown hlocks hin hK hw hl
  have ht : ∀ w ∈ im_ws, w.before _ s = true := fun w h => hts w (List.mem_cons_of_mem _ h)
  have hl : lv_has ls 2 [(0, .ref (g xLN)), (1, .int a)] := hl
  refine lv_aload_n hx hb dX2_append_0 rfl (lv_at hl 0 rfl) ?_
  refine fg2 (v := .int (J xLN 1)) hx hb ht hown hK hw hln.1 rfl 1 wf2_15 (by decide) (nh_vi rfl) dX2_append_1 ?_
  refine lv_aload_n hx hb dX2_append_4 rfl (lv_at hl 0 rfl) ?_
  refine fg2 hx hb ht hown hK hw hln.1 rfl 0 wf2_9 (by decide) (nh_vr rfl hln.2.1) dX2_append_5 ?_
  refine ai_len hx hb hK hw hln.2.2 rfl dX2_append_8 ?_
  refine lv_icmp_ge (tgt := 32) hx hb dX2_append_9 (by decide) (fun c9 => ?_) (fun c9 => ?_)
  · refine nh_vret hx hb hr hlocks hw (Nat.zero_le _) (Nat.zero_le _) dX2_append_32 ?_
    simp only [xf_append, if_pos c9]
    exact im_fin rfl rfl
  · refine lv_aload_n hx hb dX2_append_12 rfl (lv_at hl 0 rfl) ?_
    refine fg2 hx hb ht hown hK hw hln.1 rfl 0 wf2_9 (by decide) (nh_vr rfl hln.2.1) dX2_append_13 ?_
    refine lv_aload_n hx hb dX2_append_16 rfl (lv_at hl 0 rfl) ?_
    refine fg2 (v := .int (J xLN 1)) hx hb ht hown hK hw hln.1 rfl 1 wf2_15 (by decide) (nh_vi rfl) dX2_append_17 ?_
    refine lv_iload_n hx hb dX2_append_20 rfl (lv_at hl 1 rfl) ?_
    refine ai_st hx hb hK hw hln.2.2 rfl (ix_of n hn (by rcases Nat.lt_or_ge n 200 with h | h; exact h; exact absurd (by rw [hn]; exact nI_le h (by omega)) c9) (by decide)) dX2_append_21 (fun H locs J1 eJ1 hw => ?_)
    refine lv_aload_n hx hb dX2_append_22 rfl (lv_at hl 0 rfl) ?_
    refine lv_dup hx hb dX2_append_23 rfl ?_
    refine fg2 (v := .int (J xLN 1)) hx hb ht hown hK hw hln.1 rfl 1 wf2_15 (by decide) (by simp [nh_v, im_sk, iu_e, xX, xKA, xIA, xPA, xLN, xLR, xK, xSO, xHM, xFT, xLT, xN, xP, xPP, xQ, eJ1]) dX2_append_24 ?_
    refine lv_iconst (v := 1) hx hb dX2_append_27 (by decide) ?_
    refine lv_iadd hx hb dX2_append_28 ?_
    refine fp2 hx hb ht hown hK hw hln.1 rfl 1 wf2_15 (by decide) rfl rfl rfl rfl dX2_append_29 (fun H locs J2 eJ2 hw => ?_)
    refine nh_vret hx hb hr hlocks hw (Nat.zero_le _) (Nat.zero_le _) dX2_append_32 ?_
    subst eJ2
    subst eJ1
    simp only [xf_append, if_neg c9]
    exact im_fin rfl rfl
theorem xi_in {J : nh_N → Nat → Int32} {a x : Int32} {n N : Nat} (h : ¬ xf_isWithin J a 0 (x - 1) = 0) (hx : x = nI n) (hn : n ≤ N) (hN : N < 2 ^ 30 := by decide) : vp_in a N := by
  unfold xf_isWithin at h
  by_cases h1 : a < 0
  · simp [Int32.not_le.mpr h1] at h
  · by_cases h2 : x - 1 < a
    · simp [Int32.not_le.mpr h2] at h
    · obtain ⟨j, hj, rfl⟩ := nI_of h1
      refine vp_in_nI ?_ (by omega)
      subst hx
      rw [Int32.lt_iff_toInt_lt] at h2
      have e1 : (nI j).toInt = (j : Int) := nI_toInt hj
      have e2 : (nI n - 1).toInt = (n : Int) - 1 := pk_sub_toInt (a := n) (b := 1) (by omega) (by omega)
      rw [e1, e2] at h2
      omega
def xf_indexAt (J : (nh_N → Nat → Int32))  (a : Int32) : Int32 := (if (xf_isWithin J a 0 ((J xLN 1) - 1)) = 0 then (-1) else (J xLR a.toNatClampNeg))
set_option maxHeartbeats 4000000 in
set_option maxRecDepth 100000 in
theorem cxf_indexAt (l : Launch) (D : va_G) (cA : Nat → ClassId) {S : nh_N → Option nh_C} {g : nh_N → Nat} {J : (nh_N → Nat → Int32)} {R : nh_N → Nat → Option nh_N}  (hln : xLs S R) (a : Int32) (n : Nat) (hn : J xLN 1 = nI n) (hn2 : n ≤ 200) : im_M l D cA yX2_indexAt vX2_indexAt 1 22 0 0 [.ref (g xLN), .int a] S g J R (im_eq (some (.int (xf_indexAt J a))) S g J R) := by
  refine nh_of (cc := cX2_indexAt) (maxL := 2) (ret := (some .int)) (by decide) rfl (Nat.le_of_ble_eq_true rfl) ?_
  intro p e s m below meth c A ls hx hb hr hml hts hown hlocks hin hK hw hl
  have ht : ∀ w ∈ im_ws, w.before _ s = true := fun w h => hts w (List.mem_cons_of_mem _ h)
  have hl : lv_has ls 2 [(0, .ref (g xLN)), (1, .int a)] := hl
  refine lv_iload_n hx hb dX2_indexAt_0 rfl (lv_at hl 1 rfl) ?_
  refine lv_iconst (v := 0) hx hb dX2_indexAt_1 (by decide) ?_
  refine lv_aload_n hx hb dX2_indexAt_2 rfl (lv_at hl 0 rfl) ?_
  refine fg2 (v := .int (J xLN 1)) hx hb ht hown hK hw hln.1 rfl 1 wf2_15 (by decide) (nh_vi rfl) dX2_indexAt_3 ?_
  refine lv_iconst (v := 1) hx hb dX2_indexAt_6 (by decide) ?_
  refine lv_isub hx hb dX2_indexAt_7 ?_
  refine kn2_isWithin (As := [.int a, .int 0, .int ((J xLN 1) - 1)]) (rest := []) (cxf_isWithin l D cA a 0 ((J xLN 1) - 1)) hx hb hml ht hown hK hw rfl hl.1 rfl (by simp [Value.category]) ⟨by decide, by decide⟩ ⟨by simp, by simp⟩ dX2_indexAt_8 (fun v S1 g1 I1 R1 H locs hp hw => ?_)
  obtain ⟨rfl, h1, h2, h3, h4⟩ := hp
  rw [h1, h2, h3, h4] at hw
  clear h1 h2 h3 h4
  show W _ _ _ _ _ _ _ _ _ _ _ _ _ _ _ (F0 m 11 ls [.int (xf_isWithin J a 0 ((J xLN 1) - 1))])
  refine lv_if_eq (tgt := 23) hx hb dX2_indexAt_11 (by decide) (fun c11 => ?_) (fun c11 => ?_)
  · refine lv_iconst (v := (-1)) hx hb dX2_indexAt_23 (by decide) ?_
    refine nh_iret hx hb hr rfl hlocks hw (Nat.zero_le _) (Nat.zero_le _) dX2_indexAt_24 ?_
    simp only [xf_indexAt, if_pos c11]
    exact im_fin rfl rfl
  · refine lv_aload_n hx hb dX2_indexAt_14 rfl (lv_at hl 0 rfl) ?_
    refine fg2 hx hb ht hown hK hw hln.1 rfl 0 wf2_9 (by decide) (nh_vr rfl hln.2.1) dX2_indexAt_15 ?_
    refine lv_iload_n hx hb dX2_indexAt_18 rfl (lv_at hl 1 rfl) ?_
    refine ai_ld hx hb hK hw hln.2.2 rfl (xi_in c11 hn hn2) dX2_indexAt_19 ?_
    refine lv_goto (tgt := 24) hx hb dX2_indexAt_20 (by decide) ?_
    refine nh_iret hx hb hr rfl hlocks hw (Nat.zero_le _) (Nat.zero_le _) dX2_indexAt_24 ?_
    simp only [xf_indexAt, if_neg c11]
    exact im_fin rfl rfl
