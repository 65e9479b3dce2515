/-! METHODS THAT MAKE CELLS -/
theorem nu_al {S : nh_N → Option nh_C} {m n : nh_N} {c : nh_C} {v : Option nh_C} (h : S m = some c) (hn : S n = none) : nu S n v m = some c := by
  rw [nu_n _ _ (fun q => by rw [q, hn] at h; cases h)]
  exact h
theorem nu_gl {α : Type} {S : nh_N → Option nh_C} {f : nh_N → α} {m n : nh_N} {c : nh_C} {v : α} (h : S m = some c) (hn : S n = none) : nu f n v m = f m := nu_n _ _ (fun q => by rw [q, hn] at h; cases h)
/-- what was there keeps its address -/
def xgk (S : nh_N → Option nh_C) (g g' : nh_N → Nat) : Prop := ∀ m c, S m = some c → g' m = g m
theorem xgk_rf (S : nh_N → Option nh_C) (g : nh_N → Nat) : xgk S g g := fun _ _ _ => rfl
theorem xgk_nu {S S0 : nh_N → Option nh_C} {g g0 : nh_N → Nat} {n : nh_N} {q : Nat} (h : xgk S0 g0 g) (hs : ∀ m c, S0 m = some c → S m = some c) (hn : S n = none) : xgk S0 g0 (nu g n q) := fun m c hm => (nu_gl (hs m c hm) hn).trans (h m c hm)
theorem nu_mono {S0 S : nh_N → Option nh_C} {n : nh_N} {v : Option nh_C} (hs : ∀ m c, S0 m = some c → S m = some c) (hn : S n = none) : ∀ m c, S0 m = some c → nu S n v m = some c := fun m c hm => nu_al (hs m c hm) hn
set_option maxHeartbeats 4000000 in
set_option maxRecDepth 100000 in
theorem cxn_Insert (l : Launch) (D : va_G) (cA : Nat → ClassId) {S : nh_N → Option nh_C} {g : nh_N → Nat} {J : (nh_N → Nat → Int32)} {R : nh_N → Nat → Option nh_N} (i k : Nat) (hn0 : S (xN i) = some (0, 0)) (hk0 : S (xK k) = some (0, 1)) (a : Int32) (b : Int32) (d : Int32)  : im_M l D cA yX0_init vX0_init 1 12 0 0 [.ref (g (xN i)), .int a, .ref (g (xK k)), .int b, .int d] S g J R (im_eq none S g (iu (iu (iu (iu (iu (iu J (xN i) 4 (-1)) (xN i) 5 (-1)) (xN i) 6 (-1)) (xN i) 0 a) (xN i) 2 d) (xN i) 3 b) (ru R (xN i) 1 (some (xK k)))) := by
  refine nh_of (cc := cX0_init) (maxL := 5) (ret := none) (by decide) rfl (Nat.le_of_ble_eq_true rfl) ?_
  intro p e s m below meth c A ls hx hb hr hml hts hown hlocks hin hK hw hl
  have ht : ∀ w ∈ im_ws, w.before _ s = true := fun w h => hts w (List.mem_cons_of_mem _ h)
  have hl : lv_has ls 5 [(0, .ref (g (xN i))), (1, .int a), (2, .ref (g (xK k))), (3, .int b), (4, .int d)] := hl
  refine lv_aload_n hx hb dX0_init_0 rfl (lv_at hl 0 rfl) ?_
  refine im_objInit hx hb ht hown wm0_3 (by rw [hml]; exact hl.1) (by first | decide | (simp; done) | (simp; omega) | omega) (by first | decide | (simp; done) | (simp; omega) | omega) dX0_init_1 ?_
  refine lv_aload_n hx hb dX0_init_4 rfl (lv_at hl 0 rfl) ?_
  refine lv_iconst (v := (-1)) hx hb dX0_init_5 (by decide) ?_
  refine fp0 hx hb ht hown hK hw hn0 rfl 4 wf0_9 (by decide) rfl rfl rfl rfl dX0_init_6 (fun H locs J1 eJ1 hw => ?_)
  refine lv_aload_n hx hb dX0_init_9 rfl (lv_at hl 0 rfl) ?_
  refine lv_iconst (v := (-1)) hx hb dX0_init_10 (by decide) ?_
  refine fp0 hx hb ht hown hK hw hn0 rfl 5 wf0_15 (by decide) rfl rfl rfl rfl dX0_init_11 (fun H locs J2 eJ2 hw => ?_)
  refine lv_aload_n hx hb dX0_init_14 rfl (lv_at hl 0 rfl) ?_
  refine lv_iconst (v := (-1)) hx hb dX0_init_15 (by decide) ?_
  refine fp0 hx hb ht hown hK hw hn0 rfl 6 wf0_18 (by decide) rfl rfl rfl rfl dX0_init_16 (fun H locs J3 eJ3 hw => ?_)
  refine lv_aload_n hx hb dX0_init_19 rfl (lv_at hl 0 rfl) ?_
  refine lv_iload_n hx hb dX0_init_20 rfl (lv_at hl 1 rfl) ?_
  refine fP0 hx hb ht hown hK hw hn0 rfl 0 wf0_21 (by decide) rfl hin rfl rfl rfl rfl dX0_init_21 (fun H locs J4 eJ4 hw => ?_)
  refine lv_aload_n hx hb dX0_init_24 rfl (lv_at hl 0 rfl) ?_
  refine lv_aload_n hx hb dX0_init_25 rfl (lv_at hl 2 rfl) ?_
  refine fQ0 hx hb ht hown hK hw hn0 rfl 1 wf0_24 (by decide) rfl hin rfl (some (xK k)) (fun m hm => ⟨_, by cases hm; exact hk0⟩) (by first | rfl | (simp only [Option.map_some, va_rf]; rw [show g (xK k) = g (xK k) from rfl])) rfl rfl rfl dX0_init_26 (fun H locs T1 eT1 hw => ?_)
  have u1_new : T1 (xN i) 1 = some (xK k) := by rw [eT1, ru_e]; simp
  refine lv_aload_n hx hb dX0_init_29 rfl (lv_at hl 0 rfl) ?_
  refine lv_iload hx hb dX0_init_30 (lv_at hl 4 rfl) ?_
  refine fP0 hx hb ht hown hK hw hn0 rfl 2 wf0_28 (by decide) rfl hin rfl rfl rfl rfl dX0_init_32 (fun H locs J5 eJ5 hw => ?_)
  refine lv_aload_n hx hb dX0_init_35 rfl (lv_at hl 0 rfl) ?_
  refine lv_iload_n hx hb dX0_init_36 rfl (lv_at hl 3 rfl) ?_
  refine fp0 hx hb ht hown hK hw hn0 rfl 3 wf0_31 (by decide) rfl rfl rfl rfl dX0_init_37 (fun H locs J6 eJ6 hw => ?_)
  refine nh_vret hx hb hr hlocks hw (by first | decide | (simp; done) | (simp; omega) | omega) (by first | decide | (simp; done) | (simp; omega) | omega) dX0_init_40 ?_
  subst eJ6
  subst eJ5
  subst eT1
  subst eJ4
  subst eJ3
  subst eJ2
  subst eJ1
  exact ⟨rfl, rfl, rfl, rfl, rfl⟩
set_option maxHeartbeats 4000000 in
set_option maxRecDepth 100000 in
theorem cxn_Part (l : Launch) (D : va_G) (cA : Nat → ClassId) {S : nh_N → Option nh_C} {g : nh_N → Nat} {J : (nh_N → Nat → Int32)} {R : nh_N → Nat → Option nh_N} (q j i : Nat) (hq0 : S (xQ q j) = some (0, 4)) (hn0 : S (xN i) = some (0, 0)) (a : Int32) (b : Int32) (hb0 : b = 0 ∨ b = 1) : im_M l D cA yX4_init vX4_init 1 12 0 0 [.ref (g (xQ q j)), .ref (g (xN i)), .int a, .int b] S g J R (im_eq none S g (iu (iu J (xQ q j) 1 a) (xQ q j) 2 b) (ru R (xQ q j) 0 (some (xN i)))) := by
  refine nh_of (cc := cX4_init) (maxL := 4) (ret := none) (by decide) rfl (Nat.le_of_ble_eq_true rfl) ?_
  intro p e s m below meth c A ls hx hb hr hml hts hown hlocks hin hK hw hl
  have ht : ∀ w ∈ im_ws, w.before _ s = true := fun w h => hts w (List.mem_cons_of_mem _ h)
  have hl : lv_has ls 4 [(0, .ref (g (xQ q j))), (1, .ref (g (xN i))), (2, .int a), (3, .int b)] := hl
  refine lv_aload_n hx hb dX4_init_0 rfl (lv_at hl 0 rfl) ?_
  refine im_objInit hx hb ht hown wm4_1 (by rw [hml]; exact hl.1) (by first | decide | (simp; done) | (simp; omega) | omega) (by first | decide | (simp; done) | (simp; omega) | omega) dX4_init_1 ?_
  refine lv_aload_n hx hb dX4_init_4 rfl (lv_at hl 0 rfl) ?_
  refine lv_aload_n hx hb dX4_init_5 rfl (lv_at hl 1 rfl) ?_
  refine fQ4 hx hb ht hown hK hw hq0 rfl 0 wf4_7 (by decide) rfl hin rfl (some (xN i)) (fun m hm => ⟨_, by cases hm; exact hn0⟩) (by first | rfl | (simp only [Option.map_some, va_rf]; rw [show g (xN i) = g (xN i) from rfl])) rfl rfl rfl dX4_init_6 (fun H locs T1 eT1 hw => ?_)
  have u1_new : T1 (xQ q j) 0 = some (xN i) := by rw [eT1, ru_e]; simp
  refine lv_aload_n hx hb dX4_init_9 rfl (lv_at hl 0 rfl) ?_
  refine lv_iload_n hx hb dX4_init_10 rfl (lv_at hl 2 rfl) ?_
  refine fP4 hx hb ht hown hK hw hq0 rfl 1 wf4_13 (by decide) rfl hin rfl rfl rfl rfl dX4_init_11 (fun H locs J1 eJ1 hw => ?_)
  refine lv_aload_n hx hb dX4_init_14 rfl (lv_at hl 0 rfl) ?_
  refine lv_iload_n hx hb dX4_init_15 rfl (lv_at hl 3 rfl) ?_
  refine fP4 hx hb ht hown hK hw hq0 rfl 2 wf4_17 (by decide) rfl hin rfl (nb_of hb0) (fb_of hb0) rfl dX4_init_16 (fun H locs J2 eJ2 hw => ?_)
  refine nh_vret hx hb hr hlocks hw (by first | decide | (simp; done) | (simp; omega) | omega) (by first | decide | (simp; done) | (simp; omega) | omega) dX4_init_19 ?_
  subst eJ2
  subst eJ1
  subst eT1
  exact ⟨rfl, rfl, rfl, rfl, rfl⟩
set_option maxHeartbeats 4000000 in
set_option maxRecDepth 100000 in
theorem cxn_Line (l : Launch) (D : va_G) (cA : Nat → ClassId) {S : nh_N → Option nh_C} {g : nh_N → Nat} {J : (nh_N → Nat → Int32)} {R : nh_N → Nat → Option nh_N} (hl0 : S xLN = some (0, 2)) (hf : S xLR = none)   : im_M l D cA yX2_init vX2_init 1 12 1 200 [.ref (g xLN)] S g J R (fun v S' g' I' R' => v = none ∧ S' = nu S xLR (some (1, 200)) ∧ xgk S g g' ∧ I' = nu J xLR (fun _ => 0) ∧ R' = ru (nu R xLR (fun _ => none)) xLN 0 (some xLR)) := by
  refine nh_of (cc := cX2_init) (maxL := 1) (ret := none) (by decide) rfl (Nat.le_of_ble_eq_true rfl) ?_
  intro p e s m below meth c A ls hx hb hr hml hts hown hlocks hin hK hw hl
  have ht : ∀ w ∈ im_ws, w.before _ s = true := fun w h => hts w (List.mem_cons_of_mem _ h)
  have hl : lv_has ls 1 [(0, .ref (g xLN))] := hl
  refine lv_aload_n hx hb dX2_init_0 rfl (lv_at hl 0 rfl) ?_
  refine im_objInit hx hb ht hown wm2_3 (by rw [hml]; exact hl.1) (by first | decide | (simp; done) | (simp; omega) | omega) (by first | decide | (simp; done) | (simp; omega) | omega) dX2_init_1 ?_
  refine lv_aload_n hx hb dX2_init_4 rfl (lv_at hl 0 rfl) ?_
  refine lv_sipush (v := 200) hx hb dX2_init_5 (by decide) ?_
  refine ai_new xLR ht hx hb hK hw hf (by decide) (show _ = 200 from rfl) (by decide) (by first | decide | (simp; done) | (simp; omega) | omega) (by first | decide | (simp; done) | (simp; omega) | omega) dX2_init_8 (fun q1 H S1 g1 I1 R1 eS1 eg1 eI1 eR1 hw => ?_)
  have a1_xLN : S1 xLN = some (0, 2) := by rw [eS1]; exact nu_al hl0 hf
  have a1_xLNg : g1 xLN = g xLN := by rw [eg1]; exact (nu_gl hl0 hf).trans rfl
  have b1 : S1 xLR = some (1, 200) := by rw [eS1]; exact nu_s _ _ _
  have b1g : g1 xLR = q1 := by rw [eg1]; exact nu_s _ _ _
  refine fQ2 hx hb ht hown hK hw a1_xLN a1_xLNg 0 wf2_9 (by decide) rfl hin rfl (some xLR) (fun m hm => ⟨_, by cases hm; exact b1⟩) (by first | rfl | (simp only [Option.map_some, va_rf]; rw [show g1 xLR = q1 from b1g])) rfl rfl rfl dX2_init_10 (fun H locs T1 eT1 hw => ?_)
  have u1_new : T1 xLN 0 = some xLR := by rw [eT1, ru_e]; simp
  refine nh_vret hx hb hr hlocks hw (by first | decide | (simp; done) | (simp; omega) | omega) (by first | decide | (simp; done) | (simp; omega) | omega) dX2_init_13 ?_
  subst eT1
  subst eS1
  subst eg1
  subst eI1
  subst eR1
  exact ⟨rfl, rfl, xgk_nu (xgk_rf S g) (fun _ _ h => h) hf, rfl, rfl⟩
def xS_kind (S : nh_N → Option nh_C) (k : Nat) : nh_N → Option nh_C := nu (nu (nu (nu S (xSO k) (some (1, 40))) (xHM k) (some (2, 40))) (xFT k) (some (1, 40))) (xLT k) (some (1, 40))
def xI_kind (J : nh_N → Nat → Int32) (k : Nat) (a b d : Int32) : nh_N → Nat → Int32 := iu (iu (iu (nu (nu (nu (nu J (xSO k) (fun _ => 0)) (xHM k) (fun _ => 0)) (xFT k) (fun _ => 0)) (xLT k) (fun _ => 0)) (xK k) 0 a) (xK k) 1 b) (xK k) 2 d
def xR_kind (R : nh_N → Nat → Option nh_N) (k : Nat) : nh_N → Nat → Option nh_N := ru (nu (ru (nu (ru (nu (ru (nu R (xSO k) (fun _ => none)) (xK k) 3 (some (xSO k))) (xHM k) (fun _ => none)) (xK k) 4 (some (xHM k))) (xFT k) (fun _ => none)) (xK k) 5 (some (xFT k))) (xLT k) (fun _ => none)) (xK k) 6 (some (xLT k))
set_option maxHeartbeats 4000000 in
set_option maxRecDepth 100000 in
theorem cxn_Kind (l : Launch) (D : va_G) (cA : Nat → ClassId) {S : nh_N → Option nh_C} {g : nh_N → Nat} {J : (nh_N → Nat → Int32)} {R : nh_N → Nat → Option nh_N} (k : Nat) (hk0 : S (xK k) = some (0, 1)) (hf1 : S (xSO k) = none) (hf2 : S (xHM k) = none) (hf3 : S (xFT k) = none) (hf4 : S (xLT k) = none) (a : Int32) (b : Int32) (d : Int32) (hd0 : d = 0 ∨ d = 1) : im_M l D cA yX1_init vX1_init 1 12 4 160 [.ref (g (xK k)), .int a, .int b, .int d] S g J R (fun v S' g' I' R' => v = none ∧ S' = xS_kind S k ∧ xgk S g g' ∧ I' = xI_kind J k a b d ∧ R' = xR_kind R k) := by
  refine nh_of (cc := cX1_init) (maxL := 4) (ret := none) (by decide) rfl (Nat.le_of_ble_eq_true rfl) ?_
  intro p e s m below meth c A ls hx hb hr hml hts hown hlocks hin hK hw hl
  have ht : ∀ w ∈ im_ws, w.before _ s = true := fun w h => hts w (List.mem_cons_of_mem _ h)
  have hl : lv_has ls 4 [(0, .ref (g (xK k))), (1, .int a), (2, .int b), (3, .int d)] := hl
  refine lv_aload_n hx hb dX1_init_0 rfl (lv_at hl 0 rfl) ?_
  refine im_objInit hx hb ht hown wm1_3 (by rw [hml]; exact hl.1) (by first | decide | (simp; done) | (simp; omega) | omega) (by first | decide | (simp; done) | (simp; omega) | omega) dX1_init_1 ?_
  refine lv_aload_n hx hb dX1_init_4 rfl (lv_at hl 0 rfl) ?_
  refine lv_bipush (v := 40) hx hb dX1_init_5 (by decide) ?_
  refine ai_new (xSO k) ht hx hb hK hw hf1 (by decide) (show _ = 40 from rfl) (by decide) (by first | decide | (simp; done) | (simp; omega) | omega) (by first | decide | (simp; done) | (simp; omega) | omega) dX1_init_7 (fun q1 H S1 g1 I1 R1 eS1 eg1 eI1 eR1 hw => ?_)
  have a1_xK_k : S1 (xK k) = some (0, 1) := by rw [eS1]; exact nu_al hk0 hf1
  have a1_xK_kg : g1 (xK k) = g (xK k) := by rw [eg1]; exact (nu_gl hk0 hf1).trans rfl
  have b1 : S1 (xSO k) = some (1, 40) := by rw [eS1]; exact nu_s _ _ _
  have b1g : g1 (xSO k) = q1 := by rw [eg1]; exact nu_s _ _ _
  refine fQ1 hx hb ht hown hK hw a1_xK_k a1_xK_kg 3 wf1_9 (by decide) rfl hin rfl (some (xSO k)) (fun m hm => ⟨_, by cases hm; exact b1⟩) (by first | rfl | (simp only [Option.map_some, va_rf]; rw [show g1 (xSO k) = q1 from b1g])) rfl rfl rfl dX1_init_9 (fun H locs T1 eT1 hw => ?_)
  have u1_new : T1 (xK k) 3 = some (xSO k) := by rw [eT1, ru_e]; simp
  refine lv_aload_n hx hb dX1_init_12 rfl (lv_at hl 0 rfl) ?_
  refine lv_bipush (v := 40) hx hb dX1_init_13 (by decide) ?_
  refine az_new (xHM k) ht hx hb hK hw (by rw [eS1, nu_n _ _ (by simp [xX, xKA, xIA, xPA, xLN, xLR, xK, xSO, xHM, xFT, xLT, xN, xP, xPP, xQ])]; exact hf2) (by decide) (show _ = 40 from rfl) (by decide) (by first | decide | (simp; done) | (simp; omega) | omega) (by first | decide | (simp; done) | (simp; omega) | omega) dX1_init_15 (fun q2 H S2 g2 I2 R2 eS2 eg2 eI2 eR2 hw => ?_)
  have a2_xK_k : S2 (xK k) = some (0, 1) := by rw [eS2]; exact nu_al a1_xK_k (by rw [eS1, nu_n _ _ (by simp [xX, xKA, xIA, xPA, xLN, xLR, xK, xSO, xHM, xFT, xLT, xN, xP, xPP, xQ])]; exact hf2)
  have a2_xK_kg : g2 (xK k) = g (xK k) := by rw [eg2]; exact (nu_gl a1_xK_k (by rw [eS1, nu_n _ _ (by simp [xX, xKA, xIA, xPA, xLN, xLR, xK, xSO, xHM, xFT, xLT, xN, xP, xPP, xQ])]; exact hf2)).trans a1_xK_kg
  have a2_xK_kr3 : R2 (xK k) 3 = some (xSO k) := by rw [eR2, nu_gl a1_xK_k (by rw [eS1, nu_n _ _ (by simp [xX, xKA, xIA, xPA, xLN, xLR, xK, xSO, xHM, xFT, xLT, xN, xP, xPP, xQ])]; exact hf2)]; exact u1_new
  have a2_xSO_k : S2 (xSO k) = some (1, 40) := by rw [eS2]; exact nu_al b1 (by rw [eS1, nu_n _ _ (by simp [xX, xKA, xIA, xPA, xLN, xLR, xK, xSO, xHM, xFT, xLT, xN, xP, xPP, xQ])]; exact hf2)
  have a2_xSO_kg : g2 (xSO k) = q1 := by rw [eg2]; exact (nu_gl b1 (by rw [eS1, nu_n _ _ (by simp [xX, xKA, xIA, xPA, xLN, xLR, xK, xSO, xHM, xFT, xLT, xN, xP, xPP, xQ])]; exact hf2)).trans b1g
  have b2 : S2 (xHM k) = some (2, 40) := by rw [eS2]; exact nu_s _ _ _
  have b2g : g2 (xHM k) = q2 := by rw [eg2]; exact nu_s _ _ _
  refine fQ1 hx hb ht hown hK hw a2_xK_k a2_xK_kg 4 wf1_15 (by decide) rfl hin rfl (some (xHM k)) (fun m hm => ⟨_, by cases hm; exact b2⟩) (by first | rfl | (simp only [Option.map_some, va_rf]; rw [show g2 (xHM k) = q2 from b2g])) rfl rfl rfl dX1_init_17 (fun H locs T2 eT2 hw => ?_)
  have u2_xK_k_3 : T2 (xK k) 3 = some (xSO k) := by rw [eT2, ru_e, if_neg (by simp [xX, xKA, xIA, xPA, xLN, xLR, xK, xSO, xHM, xFT, xLT, xN, xP, xPP, xQ])]; exact a2_xK_kr3
  have u2_new : T2 (xK k) 4 = some (xHM k) := by rw [eT2, ru_e]; simp
  refine lv_aload_n hx hb dX1_init_20 rfl (lv_at hl 0 rfl) ?_
  refine lv_bipush (v := 40) hx hb dX1_init_21 (by decide) ?_
  refine ai_new (xFT k) ht hx hb hK hw (by rw [eS2, nu_n _ _ (by simp [xX, xKA, xIA, xPA, xLN, xLR, xK, xSO, xHM, xFT, xLT, xN, xP, xPP, xQ]), eS1, nu_n _ _ (by simp [xX, xKA, xIA, xPA, xLN, xLR, xK, xSO, xHM, xFT, xLT, xN, xP, xPP, xQ])]; exact hf3) (by decide) (show _ = 40 from rfl) (by decide) (by first | decide | (simp; done) | (simp; omega) | omega) (by first | decide | (simp; done) | (simp; omega) | omega) dX1_init_23 (fun q3 H S3 g3 I3 R3 eS3 eg3 eI3 eR3 hw => ?_)
  have a3_xK_k : S3 (xK k) = some (0, 1) := by rw [eS3]; exact nu_al a2_xK_k (by rw [eS2, nu_n _ _ (by simp [xX, xKA, xIA, xPA, xLN, xLR, xK, xSO, xHM, xFT, xLT, xN, xP, xPP, xQ]), eS1, nu_n _ _ (by simp [xX, xKA, xIA, xPA, xLN, xLR, xK, xSO, xHM, xFT, xLT, xN, xP, xPP, xQ])]; exact hf3)
  have a3_xK_kg : g3 (xK k) = g (xK k) := by rw [eg3]; exact (nu_gl a2_xK_k (by rw [eS2, nu_n _ _ (by simp [xX, xKA, xIA, xPA, xLN, xLR, xK, xSO, xHM, xFT, xLT, xN, xP, xPP, xQ]), eS1, nu_n _ _ (by simp [xX, xKA, xIA, xPA, xLN, xLR, xK, xSO, xHM, xFT, xLT, xN, xP, xPP, xQ])]; exact hf3)).trans a2_xK_kg
  have a3_xK_kr3 : R3 (xK k) 3 = some (xSO k) := by rw [eR3, nu_gl a2_xK_k (by rw [eS2, nu_n _ _ (by simp [xX, xKA, xIA, xPA, xLN, xLR, xK, xSO, xHM, xFT, xLT, xN, xP, xPP, xQ]), eS1, nu_n _ _ (by simp [xX, xKA, xIA, xPA, xLN, xLR, xK, xSO, xHM, xFT, xLT, xN, xP, xPP, xQ])]; exact hf3)]; exact u2_xK_k_3
  have a3_xK_kr4 : R3 (xK k) 4 = some (xHM k) := by rw [eR3, nu_gl a2_xK_k (by rw [eS2, nu_n _ _ (by simp [xX, xKA, xIA, xPA, xLN, xLR, xK, xSO, xHM, xFT, xLT, xN, xP, xPP, xQ]), eS1, nu_n _ _ (by simp [xX, xKA, xIA, xPA, xLN, xLR, xK, xSO, xHM, xFT, xLT, xN, xP, xPP, xQ])]; exact hf3)]; exact u2_new
  have a3_xSO_k : S3 (xSO k) = some (1, 40) := by rw [eS3]; exact nu_al a2_xSO_k (by rw [eS2, nu_n _ _ (by simp [xX, xKA, xIA, xPA, xLN, xLR, xK, xSO, xHM, xFT, xLT, xN, xP, xPP, xQ]), eS1, nu_n _ _ (by simp [xX, xKA, xIA, xPA, xLN, xLR, xK, xSO, xHM, xFT, xLT, xN, xP, xPP, xQ])]; exact hf3)
  have a3_xSO_kg : g3 (xSO k) = q1 := by rw [eg3]; exact (nu_gl a2_xSO_k (by rw [eS2, nu_n _ _ (by simp [xX, xKA, xIA, xPA, xLN, xLR, xK, xSO, xHM, xFT, xLT, xN, xP, xPP, xQ]), eS1, nu_n _ _ (by simp [xX, xKA, xIA, xPA, xLN, xLR, xK, xSO, xHM, xFT, xLT, xN, xP, xPP, xQ])]; exact hf3)).trans a2_xSO_kg
  have a3_xHM_k : S3 (xHM k) = some (2, 40) := by rw [eS3]; exact nu_al b2 (by rw [eS2, nu_n _ _ (by simp [xX, xKA, xIA, xPA, xLN, xLR, xK, xSO, xHM, xFT, xLT, xN, xP, xPP, xQ]), eS1, nu_n _ _ (by simp [xX, xKA, xIA, xPA, xLN, xLR, xK, xSO, xHM, xFT, xLT, xN, xP, xPP, xQ])]; exact hf3)
  have a3_xHM_kg : g3 (xHM k) = q2 := by rw [eg3]; exact (nu_gl b2 (by rw [eS2, nu_n _ _ (by simp [xX, xKA, xIA, xPA, xLN, xLR, xK, xSO, xHM, xFT, xLT, xN, xP, xPP, xQ]), eS1, nu_n _ _ (by simp [xX, xKA, xIA, xPA, xLN, xLR, xK, xSO, xHM, xFT, xLT, xN, xP, xPP, xQ])]; exact hf3)).trans b2g
  have b3 : S3 (xFT k) = some (1, 40) := by rw [eS3]; exact nu_s _ _ _
  have b3g : g3 (xFT k) = q3 := by rw [eg3]; exact nu_s _ _ _
  refine fQ1 hx hb ht hown hK hw a3_xK_k a3_xK_kg 5 wf1_19 (by decide) rfl hin rfl (some (xFT k)) (fun m hm => ⟨_, by cases hm; exact b3⟩) (by first | rfl | (simp only [Option.map_some, va_rf]; rw [show g3 (xFT k) = q3 from b3g])) rfl rfl rfl dX1_init_25 (fun H locs T3 eT3 hw => ?_)
  have u3_xK_k_3 : T3 (xK k) 3 = some (xSO k) := by rw [eT3, ru_e, if_neg (by simp [xX, xKA, xIA, xPA, xLN, xLR, xK, xSO, xHM, xFT, xLT, xN, xP, xPP, xQ])]; exact a3_xK_kr3
  have u3_xK_k_4 : T3 (xK k) 4 = some (xHM k) := by rw [eT3, ru_e, if_neg (by simp [xX, xKA, xIA, xPA, xLN, xLR, xK, xSO, xHM, xFT, xLT, xN, xP, xPP, xQ])]; exact a3_xK_kr4
  have u3_new : T3 (xK k) 5 = some (xFT k) := by rw [eT3, ru_e]; simp
  refine lv_aload_n hx hb dX1_init_28 rfl (lv_at hl 0 rfl) ?_
  refine lv_bipush (v := 40) hx hb dX1_init_29 (by decide) ?_
  refine ai_new (xLT k) ht hx hb hK hw (by rw [eS3, nu_n _ _ (by simp [xX, xKA, xIA, xPA, xLN, xLR, xK, xSO, xHM, xFT, xLT, xN, xP, xPP, xQ]), eS2, nu_n _ _ (by simp [xX, xKA, xIA, xPA, xLN, xLR, xK, xSO, xHM, xFT, xLT, xN, xP, xPP, xQ]), eS1, nu_n _ _ (by simp [xX, xKA, xIA, xPA, xLN, xLR, xK, xSO, xHM, xFT, xLT, xN, xP, xPP, xQ])]; exact hf4) (by decide) (show _ = 40 from rfl) (by decide) (by first | decide | (simp; done) | (simp; omega) | omega) (by first | decide | (simp; done) | (simp; omega) | omega) dX1_init_31 (fun q4 H S4 g4 I4 R4 eS4 eg4 eI4 eR4 hw => ?_)
  have a4_xK_k : S4 (xK k) = some (0, 1) := by rw [eS4]; exact nu_al a3_xK_k (by rw [eS3, nu_n _ _ (by simp [xX, xKA, xIA, xPA, xLN, xLR, xK, xSO, xHM, xFT, xLT, xN, xP, xPP, xQ]), eS2, nu_n _ _ (by simp [xX, xKA, xIA, xPA, xLN, xLR, xK, xSO, xHM, xFT, xLT, xN, xP, xPP, xQ]), eS1, nu_n _ _ (by simp [xX, xKA, xIA, xPA, xLN, xLR, xK, xSO, xHM, xFT, xLT, xN, xP, xPP, xQ])]; exact hf4)
  have a4_xK_kg : g4 (xK k) = g (xK k) := by rw [eg4]; exact (nu_gl a3_xK_k (by rw [eS3, nu_n _ _ (by simp [xX, xKA, xIA, xPA, xLN, xLR, xK, xSO, xHM, xFT, xLT, xN, xP, xPP, xQ]), eS2, nu_n _ _ (by simp [xX, xKA, xIA, xPA, xLN, xLR, xK, xSO, xHM, xFT, xLT, xN, xP, xPP, xQ]), eS1, nu_n _ _ (by simp [xX, xKA, xIA, xPA, xLN, xLR, xK, xSO, xHM, xFT, xLT, xN, xP, xPP, xQ])]; exact hf4)).trans a3_xK_kg
  have a4_xK_kr3 : R4 (xK k) 3 = some (xSO k) := by rw [eR4, nu_gl a3_xK_k (by rw [eS3, nu_n _ _ (by simp [xX, xKA, xIA, xPA, xLN, xLR, xK, xSO, xHM, xFT, xLT, xN, xP, xPP, xQ]), eS2, nu_n _ _ (by simp [xX, xKA, xIA, xPA, xLN, xLR, xK, xSO, xHM, xFT, xLT, xN, xP, xPP, xQ]), eS1, nu_n _ _ (by simp [xX, xKA, xIA, xPA, xLN, xLR, xK, xSO, xHM, xFT, xLT, xN, xP, xPP, xQ])]; exact hf4)]; exact u3_xK_k_3
  have a4_xK_kr4 : R4 (xK k) 4 = some (xHM k) := by rw [eR4, nu_gl a3_xK_k (by rw [eS3, nu_n _ _ (by simp [xX, xKA, xIA, xPA, xLN, xLR, xK, xSO, xHM, xFT, xLT, xN, xP, xPP, xQ]), eS2, nu_n _ _ (by simp [xX, xKA, xIA, xPA, xLN, xLR, xK, xSO, xHM, xFT, xLT, xN, xP, xPP, xQ]), eS1, nu_n _ _ (by simp [xX, xKA, xIA, xPA, xLN, xLR, xK, xSO, xHM, xFT, xLT, xN, xP, xPP, xQ])]; exact hf4)]; exact u3_xK_k_4
  have a4_xK_kr5 : R4 (xK k) 5 = some (xFT k) := by rw [eR4, nu_gl a3_xK_k (by rw [eS3, nu_n _ _ (by simp [xX, xKA, xIA, xPA, xLN, xLR, xK, xSO, xHM, xFT, xLT, xN, xP, xPP, xQ]), eS2, nu_n _ _ (by simp [xX, xKA, xIA, xPA, xLN, xLR, xK, xSO, xHM, xFT, xLT, xN, xP, xPP, xQ]), eS1, nu_n _ _ (by simp [xX, xKA, xIA, xPA, xLN, xLR, xK, xSO, xHM, xFT, xLT, xN, xP, xPP, xQ])]; exact hf4)]; exact u3_new
  have a4_xSO_k : S4 (xSO k) = some (1, 40) := by rw [eS4]; exact nu_al a3_xSO_k (by rw [eS3, nu_n _ _ (by simp [xX, xKA, xIA, xPA, xLN, xLR, xK, xSO, xHM, xFT, xLT, xN, xP, xPP, xQ]), eS2, nu_n _ _ (by simp [xX, xKA, xIA, xPA, xLN, xLR, xK, xSO, xHM, xFT, xLT, xN, xP, xPP, xQ]), eS1, nu_n _ _ (by simp [xX, xKA, xIA, xPA, xLN, xLR, xK, xSO, xHM, xFT, xLT, xN, xP, xPP, xQ])]; exact hf4)
  have a4_xSO_kg : g4 (xSO k) = q1 := by rw [eg4]; exact (nu_gl a3_xSO_k (by rw [eS3, nu_n _ _ (by simp [xX, xKA, xIA, xPA, xLN, xLR, xK, xSO, xHM, xFT, xLT, xN, xP, xPP, xQ]), eS2, nu_n _ _ (by simp [xX, xKA, xIA, xPA, xLN, xLR, xK, xSO, xHM, xFT, xLT, xN, xP, xPP, xQ]), eS1, nu_n _ _ (by simp [xX, xKA, xIA, xPA, xLN, xLR, xK, xSO, xHM, xFT, xLT, xN, xP, xPP, xQ])]; exact hf4)).trans a3_xSO_kg
  have a4_xHM_k : S4 (xHM k) = some (2, 40) := by rw [eS4]; exact nu_al a3_xHM_k (by rw [eS3, nu_n _ _ (by simp [xX, xKA, xIA, xPA, xLN, xLR, xK, xSO, xHM, xFT, xLT, xN, xP, xPP, xQ]), eS2, nu_n _ _ (by simp [xX, xKA, xIA, xPA, xLN, xLR, xK, xSO, xHM, xFT, xLT, xN, xP, xPP, xQ]), eS1, nu_n _ _ (by simp [xX, xKA, xIA, xPA, xLN, xLR, xK, xSO, xHM, xFT, xLT, xN, xP, xPP, xQ])]; exact hf4)
  have a4_xHM_kg : g4 (xHM k) = q2 := by rw [eg4]; exact (nu_gl a3_xHM_k (by rw [eS3, nu_n _ _ (by simp [xX, xKA, xIA, xPA, xLN, xLR, xK, xSO, xHM, xFT, xLT, xN, xP, xPP, xQ]), eS2, nu_n _ _ (by simp [xX, xKA, xIA, xPA, xLN, xLR, xK, xSO, xHM, xFT, xLT, xN, xP, xPP, xQ]), eS1, nu_n _ _ (by simp [xX, xKA, xIA, xPA, xLN, xLR, xK, xSO, xHM, xFT, xLT, xN, xP, xPP, xQ])]; exact hf4)).trans a3_xHM_kg
  have a4_xFT_k : S4 (xFT k) = some (1, 40) := by rw [eS4]; exact nu_al b3 (by rw [eS3, nu_n _ _ (by simp [xX, xKA, xIA, xPA, xLN, xLR, xK, xSO, xHM, xFT, xLT, xN, xP, xPP, xQ]), eS2, nu_n _ _ (by simp [xX, xKA, xIA, xPA, xLN, xLR, xK, xSO, xHM, xFT, xLT, xN, xP, xPP, xQ]), eS1, nu_n _ _ (by simp [xX, xKA, xIA, xPA, xLN, xLR, xK, xSO, xHM, xFT, xLT, xN, xP, xPP, xQ])]; exact hf4)
  have a4_xFT_kg : g4 (xFT k) = q3 := by rw [eg4]; exact (nu_gl b3 (by rw [eS3, nu_n _ _ (by simp [xX, xKA, xIA, xPA, xLN, xLR, xK, xSO, xHM, xFT, xLT, xN, xP, xPP, xQ]), eS2, nu_n _ _ (by simp [xX, xKA, xIA, xPA, xLN, xLR, xK, xSO, xHM, xFT, xLT, xN, xP, xPP, xQ]), eS1, nu_n _ _ (by simp [xX, xKA, xIA, xPA, xLN, xLR, xK, xSO, xHM, xFT, xLT, xN, xP, xPP, xQ])]; exact hf4)).trans b3g
  have b4 : S4 (xLT k) = some (1, 40) := by rw [eS4]; exact nu_s _ _ _
  have b4g : g4 (xLT k) = q4 := by rw [eg4]; exact nu_s _ _ _
  refine fQ1 hx hb ht hown hK hw a4_xK_k a4_xK_kg 6 wf1_22 (by decide) rfl hin rfl (some (xLT k)) (fun m hm => ⟨_, by cases hm; exact b4⟩) (by first | rfl | (simp only [Option.map_some, va_rf]; rw [show g4 (xLT k) = q4 from b4g])) rfl rfl rfl dX1_init_33 (fun H locs T4 eT4 hw => ?_)
  have u4_xK_k_3 : T4 (xK k) 3 = some (xSO k) := by rw [eT4, ru_e, if_neg (by simp [xX, xKA, xIA, xPA, xLN, xLR, xK, xSO, xHM, xFT, xLT, xN, xP, xPP, xQ])]; exact a4_xK_kr3
  have u4_xK_k_4 : T4 (xK k) 4 = some (xHM k) := by rw [eT4, ru_e, if_neg (by simp [xX, xKA, xIA, xPA, xLN, xLR, xK, xSO, xHM, xFT, xLT, xN, xP, xPP, xQ])]; exact a4_xK_kr4
  have u4_xK_k_5 : T4 (xK k) 5 = some (xFT k) := by rw [eT4, ru_e, if_neg (by simp [xX, xKA, xIA, xPA, xLN, xLR, xK, xSO, xHM, xFT, xLT, xN, xP, xPP, xQ])]; exact a4_xK_kr5
  have u4_new : T4 (xK k) 6 = some (xLT k) := by rw [eT4, ru_e]; simp
  refine lv_aload_n hx hb dX1_init_36 rfl (lv_at hl 0 rfl) ?_
  refine lv_iload_n hx hb dX1_init_37 rfl (lv_at hl 1 rfl) ?_
  refine fP1 hx hb ht hown hK hw a4_xK_k a4_xK_kg 0 wf1_25 (by decide) rfl hin rfl rfl rfl rfl dX1_init_38 (fun H locs J1 eJ1 hw => ?_)
  refine lv_aload_n hx hb dX1_init_41 rfl (lv_at hl 0 rfl) ?_
  refine lv_iload_n hx hb dX1_init_42 rfl (lv_at hl 2 rfl) ?_
  refine fP1 hx hb ht hown hK hw a4_xK_k a4_xK_kg 1 wf1_29 (by decide) rfl hin rfl rfl rfl rfl dX1_init_43 (fun H locs J2 eJ2 hw => ?_)
  refine lv_aload_n hx hb dX1_init_46 rfl (lv_at hl 0 rfl) ?_
  refine lv_iload_n hx hb dX1_init_47 rfl (lv_at hl 3 rfl) ?_
  refine fP1 hx hb ht hown hK hw a4_xK_k a4_xK_kg 2 wf1_32 (by decide) rfl hin rfl (nb_of hd0) (fb_of hd0) rfl dX1_init_48 (fun H locs J3 eJ3 hw => ?_)
  refine nh_vret hx hb hr hlocks hw (by first | decide | (simp; done) | (simp; omega) | omega) (by first | decide | (simp; done) | (simp; omega) | omega) dX1_init_51 ?_
  have f2 : S1 (xHM k) = none := (by rw [eS1, nu_n _ _ (by simp [xX, xKA, xIA, xPA, xLN, xLR, xK, xSO, xHM, xFT, xLT, xN, xP, xPP, xQ])]; exact hf2)
  have f3 : S2 (xFT k) = none := (by rw [eS2, nu_n _ _ (by simp [xX, xKA, xIA, xPA, xLN, xLR, xK, xSO, xHM, xFT, xLT, xN, xP, xPP, xQ]), eS1, nu_n _ _ (by simp [xX, xKA, xIA, xPA, xLN, xLR, xK, xSO, xHM, xFT, xLT, xN, xP, xPP, xQ])]; exact hf3)
  have f4 : S3 (xLT k) = none := (by rw [eS3, nu_n _ _ (by simp [xX, xKA, xIA, xPA, xLN, xLR, xK, xSO, xHM, xFT, xLT, xN, xP, xPP, xQ]), eS2, nu_n _ _ (by simp [xX, xKA, xIA, xPA, xLN, xLR, xK, xSO, xHM, xFT, xLT, xN, xP, xPP, xQ]), eS1, nu_n _ _ (by simp [xX, xKA, xIA, xPA, xLN, xLR, xK, xSO, xHM, xFT, xLT, xN, xP, xPP, xQ])]; exact hf4)
  have m1 : ∀ m c, S m = some c → S1 m = some c := by rw [eS1]; exact nu_mono (fun _ _ h => h) hf1
  have m2 : ∀ m c, S m = some c → S2 m = some c := by rw [eS2]; exact nu_mono m1 f2
  have m3 : ∀ m c, S m = some c → S3 m = some c := by rw [eS3]; exact nu_mono m2 f3
  have k1 : xgk S g g1 := by rw [eg1]; exact xgk_nu (xgk_rf S g) (fun _ _ h => h) hf1
  have k2 : xgk S g g2 := by rw [eg2]; exact xgk_nu k1 m1 f2
  have k3 : xgk S g g3 := by rw [eg3]; exact xgk_nu k2 m2 f3
  have k4 : xgk S g g4 := by rw [eg4]; exact xgk_nu k3 m3 f4
  refine ⟨rfl, ?_, k4, ?_, ?_⟩
  · rw [eS4, eS3, eS2, eS1]; rfl
  · subst eJ3
    subst eJ2
    subst eJ1
    subst eT4
    subst eS4
    subst eg4
    subst eI4
    subst eR4
    subst eT3
    subst eS3
    subst eg3
    subst eI3
    subst eR3
    subst eT2
    subst eS2
    subst eg2
    subst eI2
    subst eR2
    subst eT1
    subst eS1
    subst eg1
    subst eI1
    subst eR1
    rfl
  · subst eJ3
    subst eJ2
    subst eJ1
    subst eT4
    subst eS4
    subst eg4
    subst eI4
    subst eR4
    subst eT3
    subst eS3
    subst eg3
    subst eI3
    subst eR3
    subst eT2
    subst eS2
    subst eg2
    subst eI2
    subst eR2
    subst eT1
    subst eS1
    subst eg1
    subst eI1
    subst eR1
    rfl
set_option maxHeartbeats 4000000 in
set_option maxRecDepth 100000 in
theorem cxn_Page (l : Launch) (D : va_G) (cA : Nat → ClassId) {S : nh_N → Option nh_C} {g : nh_N → Nat} {J : (nh_N → Nat → Int32)} {R : nh_N → Nat → Option nh_N} (q n : Nat) (hp0 : S (xP q) = some (0, 3)) (hf : S (xPP q) = none) (a : Int32) (b : Int32) (hb0 : b = nI n) (hn2 : n ≤ 200) : im_M l D cA yX3_init vX3_init 1 14 1 n [.ref (g (xP q)), .int a, .int b] S g J R (fun v S' g' I' R' => v = none ∧ S' = nu S (xPP q) (some (6, n)) ∧ xgk S g g' ∧ I' = nu (iu J (xP q) 0 a) (xPP q) (fun _ => 0) ∧ R' = ru (nu R (xPP q) (fun _ => none)) (xP q) 1 (some (xPP q))) := by
  refine nh_of (cc := cX3_init) (maxL := 3) (ret := none) (by decide) rfl (Nat.le_of_ble_eq_true rfl) ?_
  intro p e s m below meth c A ls hx hb hr hml hts hown hlocks hin hK hw hl
  have ht : ∀ w ∈ im_ws, w.before _ s = true := fun w h => hts w (List.mem_cons_of_mem _ h)
  have hl : lv_has ls 3 [(0, .ref (g (xP q))), (1, .int a), (2, .int b)] := hl
  have hmx : (if (0 : Int32) < b then b else 0) = nI n := by
    rw [hb0]
    by_cases h : 0 < n
    · rw [if_pos (show (0 : Int32) < nI n from nI_lt (a := 0) h (by omega))]
    · rw [if_neg (fun w => by have := (nI_ltI (a := 0) (b := n) (by omega) (by omega)).mp w; omega), show n = 0 by omega]; rfl
  refine lv_aload_n hx hb dX3_init_0 rfl (lv_at hl 0 rfl) ?_
  refine im_objInit hx hb ht hown wm3_1 (by rw [hml]; exact hl.1) (by first | decide | (simp; done) | (simp; omega) | omega) (by first | decide | (simp; done) | (simp; omega) | omega) dX3_init_1 ?_
  refine lv_aload_n hx hb dX3_init_4 rfl (lv_at hl 0 rfl) ?_
  refine lv_iload_n hx hb dX3_init_5 rfl (lv_at hl 1 rfl) ?_
  refine fP3 hx hb ht hown hK hw hp0 rfl 0 wf3_7 (by decide) rfl hin rfl rfl rfl rfl dX3_init_6 (fun H locs J1 eJ1 hw => ?_)
  refine lv_aload_n hx hb dX3_init_9 rfl (lv_at hl 0 rfl) ?_
  refine lv_iconst (v := 0) hx hb dX3_init_10 (by decide) ?_
  refine lv_iload_n hx hb dX3_init_11 rfl (lv_at hl 2 rfl) ?_
  refine im_max hx hb (by rw [hml]; exact hl.1.symm) ht hown wm3_13 (by first | decide | (simp; done) | (simp; omega) | omega) (by simp [Value.category]) (by first | decide | (simp; done) | (simp; omega) | omega) (by first | decide | (simp; done) | (simp; omega) | omega) dX3_init_12 ?_
  refine ar_new4 (N' := n) (xPP q) hx hb ht hown hK hw hf wl3_19 (by rw [hmx]; exact nI_pos (by omega)) (by rw [hmx]; exact nI_clamp (by omega)) (by omega) (by first | decide | (simp; done) | (simp; omega) | omega) (by first | decide | (simp; done) | (simp; omega) | omega) dX3_init_15 (fun q1 H S1 g1 I1 R1 eS1 eg1 eI1 eR1 hw => ?_)
  have a1_xP_q : S1 (xP q) = some (0, 3) := by rw [eS1]; exact nu_al hp0 hf
  have a1_xP_qg : g1 (xP q) = g (xP q) := by rw [eg1]; exact (nu_gl hp0 hf).trans rfl
  have b1 : S1 (xPP q) = some (6, n) := by rw [eS1]; exact nu_s _ _ _
  have b1g : g1 (xPP q) = q1 := by rw [eg1]; exact nu_s _ _ _
  refine fQ3 hx hb ht hown hK hw a1_xP_q a1_xP_qg 1 wf3_21 (by decide) rfl hin rfl (some (xPP q)) (fun m hm => ⟨_, by cases hm; exact b1⟩) (by first | rfl | (simp only [Option.map_some, va_rf]; rw [show g1 (xPP q) = q1 from b1g])) rfl rfl rfl dX3_init_18 (fun H locs T1 eT1 hw => ?_)
  have u1_new : T1 (xP q) 1 = some (xPP q) := by rw [eT1, ru_e]; simp
  refine nh_vret hx hb hr hlocks hw (by first | decide | (simp; done) | (simp; omega) | omega) (by first | decide | (simp; done) | (simp; omega) | omega) dX3_init_21 ?_
  subst eT1
  subst eS1
  subst eg1
  subst eI1
  subst eR1
  subst eJ1
  exact ⟨rfl, rfl, xgk_nu (xgk_rf S g) (fun _ _ h => h) hf, rfl, rfl⟩
