def xS_new (S : nh_N → Option nh_C) : nh_N → Option nh_C := nu (nu (nu (nu (nu S xKA (some (3, 8))) xIA (some (4, 200))) xPA (some (5, 40))) xLN (some (0, 2))) xLR (some (1, 200))
def xI_new (J : nh_N → Nat → Int32) (a : Int32) : nh_N → Nat → Int32 := (iu (nu (nu (nu (nu (nu J xKA (fun _ => 0)) xIA (fun _ => 0)) xPA (fun _ => 0)) xLN (fun _ => 0)) xLR (fun _ => 0)) xX 0 (if 1 < (if 30000 < a then 30000 else a) then (if 30000 < a then 30000 else a) else 1))
def xR_new (R : nh_N → Nat → Option nh_N) : nh_N → Nat → Option nh_N := ru (ru (nu (nu (ru (nu (ru (nu (ru (nu R xKA (fun _ => none)) xX 1 (some xKA)) xIA (fun _ => none)) xX 2 (some xIA)) xPA (fun _ => none)) xX 3 (some xPA)) xLN (fun _ => none)) xLR (fun _ => none)) xLN 0 (some xLR)) xX 4 (some xLN)
set_option maxHeartbeats 4000000 in
set_option maxRecDepth 100000 in
theorem cx_init (l : Launch) (D : va_G) (cA : Nat → ClassId) {S : nh_N → Option nh_C} {g : nh_N → Nat} {J : (nh_N → Nat → Int32)} {R : nh_N → Nat → Option nh_N} (hX0 : S xX = some (0, 5)) (hf1 : S xKA = none) (hf2 : S xIA = none) (hf3 : S xPA = none) (hf4 : S xLN = none) (hf5 : S xLR = none) (a : Int32)  : im_M l D cA yX5_init vX5_init 2 32 5 450 [.ref (g xX), .int a] S g J R (fun v S' g' I' R' => v = none ∧ S' = xS_new S ∧ xgk S g g' ∧ I' = xI_new J a ∧ R' = xR_new R) := by
  refine nh_of (cc := cX5_init) (maxL := 2) (ret := none) (by decide) rfl (Nat.le_of_ble_eq_true rfl) ?_
  intro p e s m below meth c A ls hx hb hr hml hts hown hlocks hin hK hw hl
  have ht : ∀ w ∈ im_ws, w.before _ s = true := fun w h => hts w (List.mem_cons_of_mem _ h)
  have hl : lv_has ls 2 [(0, .ref (g xX)), (1, .int a)] := hl
  refine lv_aload_n hx hb dX5_init_0 rfl (lv_at hl 0 rfl) ?_
  refine im_objInit hx hb ht hown wm5_1 (by rw [hml]; exact hl.1) (by first | decide | (simp; done) | (simp; omega) | omega) (by first | decide | (simp; done) | (simp; omega) | omega) dX5_init_1 ?_
  refine lv_aload_n hx hb dX5_init_4 rfl (lv_at hl 0 rfl) ?_
  refine lv_bipush (v := 8) hx hb dX5_init_5 (by decide) ?_
  refine ar_new1 (N' := 8) xKA hx hb ht hown hK hw hf1 wl5_9 (by decide) (show _ = 8 from rfl) (by decide) (by first | decide | (simp; done) | (simp; omega) | omega) (by first | decide | (simp; done) | (simp; omega) | omega) dX5_init_7 (fun q1 H S1 g1 I1 R1 eS1 eg1 eI1 eR1 hw => ?_)
  have a1_xX : S1 xX = some (0, 5) := by rw [eS1]; exact nu_al hX0 hf1
  have a1_xXg : g1 xX = g xX := by rw [eg1]; exact (nu_gl hX0 hf1).trans rfl
  have b1 : S1 xKA = some (3, 8) := by rw [eS1]; exact nu_s _ _ _
  have b1g : g1 xKA = q1 := by rw [eg1]; exact nu_s _ _ _
  refine fQ5 hx hb ht hown hK hw a1_xX a1_xXg 1 wf5_11 (by decide) rfl hin rfl (some xKA) (fun m hm => ⟨_, by cases hm; exact b1⟩) (by first | rfl | (simp only [Option.map_some, va_rf]; rw [show g1 xKA = q1 from b1g])) rfl rfl rfl dX5_init_10 (fun H locs T1 eT1 hw => ?_)
  have u1_new : T1 xX 1 = some xKA := by rw [eT1, ru_e]; simp
  refine lv_aload_n hx hb dX5_init_13 rfl (lv_at hl 0 rfl) ?_
  refine lv_sipush (v := 200) hx hb dX5_init_14 (by decide) ?_
  refine ar_new0 (N' := 200) xIA hx hb ht hown hK hw (by rw [eS1, nu_n _ _ (by simp [xX, xKA, xIA, xPA, xLN, xLR, xK, xSO, xHM, xFT, xLT, xN, xP, xPP, xQ])]; exact hf2) wl5_15 (by decide) (show _ = 200 from rfl) (by decide) (by first | decide | (simp; done) | (simp; omega) | omega) (by first | decide | (simp; done) | (simp; omega) | omega) dX5_init_17 (fun q2 H S2 g2 I2 R2 eS2 eg2 eI2 eR2 hw => ?_)
  have a2_xX : S2 xX = some (0, 5) := by rw [eS2]; exact nu_al a1_xX (by rw [eS1, nu_n _ _ (by simp [xX, xKA, xIA, xPA, xLN, xLR, xK, xSO, xHM, xFT, xLT, xN, xP, xPP, xQ])]; exact hf2)
  have a2_xXg : g2 xX = g xX := by rw [eg2]; exact (nu_gl a1_xX (by rw [eS1, nu_n _ _ (by simp [xX, xKA, xIA, xPA, xLN, xLR, xK, xSO, xHM, xFT, xLT, xN, xP, xPP, xQ])]; exact hf2)).trans a1_xXg
  have a2_xXr1 : R2 xX 1 = some xKA := by rw [eR2, nu_gl a1_xX (by rw [eS1, nu_n _ _ (by simp [xX, xKA, xIA, xPA, xLN, xLR, xK, xSO, xHM, xFT, xLT, xN, xP, xPP, xQ])]; exact hf2)]; exact u1_new
  have a2_xKA : S2 xKA = some (3, 8) := by rw [eS2]; exact nu_al b1 (by rw [eS1, nu_n _ _ (by simp [xX, xKA, xIA, xPA, xLN, xLR, xK, xSO, xHM, xFT, xLT, xN, xP, xPP, xQ])]; exact hf2)
  have a2_xKAg : g2 xKA = q1 := by rw [eg2]; exact (nu_gl b1 (by rw [eS1, nu_n _ _ (by simp [xX, xKA, xIA, xPA, xLN, xLR, xK, xSO, xHM, xFT, xLT, xN, xP, xPP, xQ])]; exact hf2)).trans b1g
  have b2 : S2 xIA = some (4, 200) := by rw [eS2]; exact nu_s _ _ _
  have b2g : g2 xIA = q2 := by rw [eg2]; exact nu_s _ _ _
  refine fQ5 hx hb ht hown hK hw a2_xX a2_xXg 2 wf5_17 (by decide) rfl hin rfl (some xIA) (fun m hm => ⟨_, by cases hm; exact b2⟩) (by first | rfl | (simp only [Option.map_some, va_rf]; rw [show g2 xIA = q2 from b2g])) rfl rfl rfl dX5_init_20 (fun H locs T2 eT2 hw => ?_)
  have u2_xX_1 : T2 xX 1 = some xKA := by rw [eT2, ru_e, if_neg (by simp [xX, xKA, xIA, xPA, xLN, xLR, xK, xSO, xHM, xFT, xLT, xN, xP, xPP, xQ])]; exact a2_xXr1
  have u2_new : T2 xX 2 = some xIA := by rw [eT2, ru_e]; simp
  refine lv_aload_n hx hb dX5_init_23 rfl (lv_at hl 0 rfl) ?_
  refine lv_bipush (v := 40) hx hb dX5_init_24 (by decide) ?_
  refine ar_new3 (N' := 40) xPA hx hb ht hown hK hw (by rw [eS2, nu_n _ _ (by simp [xX, xKA, xIA, xPA, xLN, xLR, xK, xSO, xHM, xFT, xLT, xN, xP, xPP, xQ]), eS1, nu_n _ _ (by simp [xX, xKA, xIA, xPA, xLN, xLR, xK, xSO, xHM, xFT, xLT, xN, xP, xPP, xQ])]; exact hf3) wl5_21 (by decide) (show _ = 40 from rfl) (by decide) (by first | decide | (simp; done) | (simp; omega) | omega) (by first | decide | (simp; done) | (simp; omega) | omega) dX5_init_26 (fun q3 H S3 g3 I3 R3 eS3 eg3 eI3 eR3 hw => ?_)
  have a3_xX : S3 xX = some (0, 5) := by rw [eS3]; exact nu_al a2_xX (by rw [eS2, nu_n _ _ (by simp [xX, xKA, xIA, xPA, xLN, xLR, xK, xSO, xHM, xFT, xLT, xN, xP, xPP, xQ]), eS1, nu_n _ _ (by simp [xX, xKA, xIA, xPA, xLN, xLR, xK, xSO, xHM, xFT, xLT, xN, xP, xPP, xQ])]; exact hf3)
  have a3_xXg : g3 xX = g xX := by rw [eg3]; exact (nu_gl a2_xX (by rw [eS2, nu_n _ _ (by simp [xX, xKA, xIA, xPA, xLN, xLR, xK, xSO, xHM, xFT, xLT, xN, xP, xPP, xQ]), eS1, nu_n _ _ (by simp [xX, xKA, xIA, xPA, xLN, xLR, xK, xSO, xHM, xFT, xLT, xN, xP, xPP, xQ])]; exact hf3)).trans a2_xXg
  have a3_xXr1 : R3 xX 1 = some xKA := by rw [eR3, nu_gl a2_xX (by rw [eS2, nu_n _ _ (by simp [xX, xKA, xIA, xPA, xLN, xLR, xK, xSO, xHM, xFT, xLT, xN, xP, xPP, xQ]), eS1, nu_n _ _ (by simp [xX, xKA, xIA, xPA, xLN, xLR, xK, xSO, xHM, xFT, xLT, xN, xP, xPP, xQ])]; exact hf3)]; exact u2_xX_1
  have a3_xXr2 : R3 xX 2 = some xIA := by rw [eR3, nu_gl a2_xX (by rw [eS2, nu_n _ _ (by simp [xX, xKA, xIA, xPA, xLN, xLR, xK, xSO, xHM, xFT, xLT, xN, xP, xPP, xQ]), eS1, nu_n _ _ (by simp [xX, xKA, xIA, xPA, xLN, xLR, xK, xSO, xHM, xFT, xLT, xN, xP, xPP, xQ])]; exact hf3)]; exact u2_new
  have a3_xKA : S3 xKA = some (3, 8) := by rw [eS3]; exact nu_al a2_xKA (by rw [eS2, nu_n _ _ (by simp [xX, xKA, xIA, xPA, xLN, xLR, xK, xSO, xHM, xFT, xLT, xN, xP, xPP, xQ]), eS1, nu_n _ _ (by simp [xX, xKA, xIA, xPA, xLN, xLR, xK, xSO, xHM, xFT, xLT, xN, xP, xPP, xQ])]; exact hf3)
  have a3_xKAg : g3 xKA = q1 := by rw [eg3]; exact (nu_gl a2_xKA (by rw [eS2, nu_n _ _ (by simp [xX, xKA, xIA, xPA, xLN, xLR, xK, xSO, xHM, xFT, xLT, xN, xP, xPP, xQ]), eS1, nu_n _ _ (by simp [xX, xKA, xIA, xPA, xLN, xLR, xK, xSO, xHM, xFT, xLT, xN, xP, xPP, xQ])]; exact hf3)).trans a2_xKAg
  have a3_xIA : S3 xIA = some (4, 200) := by rw [eS3]; exact nu_al b2 (by rw [eS2, nu_n _ _ (by simp [xX, xKA, xIA, xPA, xLN, xLR, xK, xSO, xHM, xFT, xLT, xN, xP, xPP, xQ]), eS1, nu_n _ _ (by simp [xX, xKA, xIA, xPA, xLN, xLR, xK, xSO, xHM, xFT, xLT, xN, xP, xPP, xQ])]; exact hf3)
  have a3_xIAg : g3 xIA = q2 := by rw [eg3]; exact (nu_gl b2 (by rw [eS2, nu_n _ _ (by simp [xX, xKA, xIA, xPA, xLN, xLR, xK, xSO, xHM, xFT, xLT, xN, xP, xPP, xQ]), eS1, nu_n _ _ (by simp [xX, xKA, xIA, xPA, xLN, xLR, xK, xSO, xHM, xFT, xLT, xN, xP, xPP, xQ])]; exact hf3)).trans b2g
  have b3 : S3 xPA = some (5, 40) := by rw [eS3]; exact nu_s _ _ _
  have b3g : g3 xPA = q3 := by rw [eg3]; exact nu_s _ _ _
  refine fQ5 hx hb ht hown hK hw a3_xX a3_xXg 3 wf5_23 (by decide) rfl hin rfl (some xPA) (fun m hm => ⟨_, by cases hm; exact b3⟩) (by first | rfl | (simp only [Option.map_some, va_rf]; rw [show g3 xPA = q3 from b3g])) rfl rfl rfl dX5_init_29 (fun H locs T3 eT3 hw => ?_)
  have u3_xX_1 : T3 xX 1 = some xKA := by rw [eT3, ru_e, if_neg (by simp [xX, xKA, xIA, xPA, xLN, xLR, xK, xSO, xHM, xFT, xLT, xN, xP, xPP, xQ])]; exact a3_xXr1
  have u3_xX_2 : T3 xX 2 = some xIA := by rw [eT3, ru_e, if_neg (by simp [xX, xKA, xIA, xPA, xLN, xLR, xK, xSO, xHM, xFT, xLT, xN, xP, xPP, xQ])]; exact a3_xXr2
  have u3_new : T3 xX 3 = some xPA := by rw [eT3, ru_e]; simp
  refine lv_aload_n hx hb dX5_init_32 rfl (lv_at hl 0 rfl) ?_
  refine fn2 xLN hx hb ht hown hK hw (by rw [eS3, nu_n _ _ (by simp [xX, xKA, xIA, xPA, xLN, xLR, xK, xSO, xHM, xFT, xLT, xN, xP, xPP, xQ]), eS2, nu_n _ _ (by simp [xX, xKA, xIA, xPA, xLN, xLR, xK, xSO, xHM, xFT, xLT, xN, xP, xPP, xQ]), eS1, nu_n _ _ (by simp [xX, xKA, xIA, xPA, xLN, xLR, xK, xSO, xHM, xFT, xLT, xN, xP, xPP, xQ])]; exact hf4) wl5_27 (by first | decide | (simp; done) | (simp; omega) | omega) (by first | decide | (simp; done) | (simp; omega) | omega) dX5_init_33 (fun q4 H S4 g4 I4 R4 eS4 eg4 eI4 eR4 hw => ?_)
  have a4_xX : S4 xX = some (0, 5) := by rw [eS4]; exact nu_al a3_xX (by rw [eS3, nu_n _ _ (by simp [xX, xKA, xIA, xPA, xLN, xLR, xK, xSO, xHM, xFT, xLT, xN, xP, xPP, xQ]), eS2, nu_n _ _ (by simp [xX, xKA, xIA, xPA, xLN, xLR, xK, xSO, xHM, xFT, xLT, xN, xP, xPP, xQ]), eS1, nu_n _ _ (by simp [xX, xKA, xIA, xPA, xLN, xLR, xK, xSO, xHM, xFT, xLT, xN, xP, xPP, xQ])]; exact hf4)
  have a4_xXg : g4 xX = g xX := by rw [eg4]; exact (nu_gl a3_xX (by rw [eS3, nu_n _ _ (by simp [xX, xKA, xIA, xPA, xLN, xLR, xK, xSO, xHM, xFT, xLT, xN, xP, xPP, xQ]), eS2, nu_n _ _ (by simp [xX, xKA, xIA, xPA, xLN, xLR, xK, xSO, xHM, xFT, xLT, xN, xP, xPP, xQ]), eS1, nu_n _ _ (by simp [xX, xKA, xIA, xPA, xLN, xLR, xK, xSO, xHM, xFT, xLT, xN, xP, xPP, xQ])]; exact hf4)).trans a3_xXg
  have a4_xXr1 : R4 xX 1 = some xKA := by rw [eR4, nu_gl a3_xX (by rw [eS3, nu_n _ _ (by simp [xX, xKA, xIA, xPA, xLN, xLR, xK, xSO, xHM, xFT, xLT, xN, xP, xPP, xQ]), eS2, nu_n _ _ (by simp [xX, xKA, xIA, xPA, xLN, xLR, xK, xSO, xHM, xFT, xLT, xN, xP, xPP, xQ]), eS1, nu_n _ _ (by simp [xX, xKA, xIA, xPA, xLN, xLR, xK, xSO, xHM, xFT, xLT, xN, xP, xPP, xQ])]; exact hf4)]; exact u3_xX_1
  have a4_xXr2 : R4 xX 2 = some xIA := by rw [eR4, nu_gl a3_xX (by rw [eS3, nu_n _ _ (by simp [xX, xKA, xIA, xPA, xLN, xLR, xK, xSO, xHM, xFT, xLT, xN, xP, xPP, xQ]), eS2, nu_n _ _ (by simp [xX, xKA, xIA, xPA, xLN, xLR, xK, xSO, xHM, xFT, xLT, xN, xP, xPP, xQ]), eS1, nu_n _ _ (by simp [xX, xKA, xIA, xPA, xLN, xLR, xK, xSO, xHM, xFT, xLT, xN, xP, xPP, xQ])]; exact hf4)]; exact u3_xX_2
  have a4_xXr3 : R4 xX 3 = some xPA := by rw [eR4, nu_gl a3_xX (by rw [eS3, nu_n _ _ (by simp [xX, xKA, xIA, xPA, xLN, xLR, xK, xSO, xHM, xFT, xLT, xN, xP, xPP, xQ]), eS2, nu_n _ _ (by simp [xX, xKA, xIA, xPA, xLN, xLR, xK, xSO, xHM, xFT, xLT, xN, xP, xPP, xQ]), eS1, nu_n _ _ (by simp [xX, xKA, xIA, xPA, xLN, xLR, xK, xSO, xHM, xFT, xLT, xN, xP, xPP, xQ])]; exact hf4)]; exact u3_new
  have a4_xKA : S4 xKA = some (3, 8) := by rw [eS4]; exact nu_al a3_xKA (by rw [eS3, nu_n _ _ (by simp [xX, xKA, xIA, xPA, xLN, xLR, xK, xSO, xHM, xFT, xLT, xN, xP, xPP, xQ]), eS2, nu_n _ _ (by simp [xX, xKA, xIA, xPA, xLN, xLR, xK, xSO, xHM, xFT, xLT, xN, xP, xPP, xQ]), eS1, nu_n _ _ (by simp [xX, xKA, xIA, xPA, xLN, xLR, xK, xSO, xHM, xFT, xLT, xN, xP, xPP, xQ])]; exact hf4)
  have a4_xKAg : g4 xKA = q1 := by rw [eg4]; exact (nu_gl a3_xKA (by rw [eS3, nu_n _ _ (by simp [xX, xKA, xIA, xPA, xLN, xLR, xK, xSO, xHM, xFT, xLT, xN, xP, xPP, xQ]), eS2, nu_n _ _ (by simp [xX, xKA, xIA, xPA, xLN, xLR, xK, xSO, xHM, xFT, xLT, xN, xP, xPP, xQ]), eS1, nu_n _ _ (by simp [xX, xKA, xIA, xPA, xLN, xLR, xK, xSO, xHM, xFT, xLT, xN, xP, xPP, xQ])]; exact hf4)).trans a3_xKAg
  have a4_xIA : S4 xIA = some (4, 200) := by rw [eS4]; exact nu_al a3_xIA (by rw [eS3, nu_n _ _ (by simp [xX, xKA, xIA, xPA, xLN, xLR, xK, xSO, xHM, xFT, xLT, xN, xP, xPP, xQ]), eS2, nu_n _ _ (by simp [xX, xKA, xIA, xPA, xLN, xLR, xK, xSO, xHM, xFT, xLT, xN, xP, xPP, xQ]), eS1, nu_n _ _ (by simp [xX, xKA, xIA, xPA, xLN, xLR, xK, xSO, xHM, xFT, xLT, xN, xP, xPP, xQ])]; exact hf4)
  have a4_xIAg : g4 xIA = q2 := by rw [eg4]; exact (nu_gl a3_xIA (by rw [eS3, nu_n _ _ (by simp [xX, xKA, xIA, xPA, xLN, xLR, xK, xSO, xHM, xFT, xLT, xN, xP, xPP, xQ]), eS2, nu_n _ _ (by simp [xX, xKA, xIA, xPA, xLN, xLR, xK, xSO, xHM, xFT, xLT, xN, xP, xPP, xQ]), eS1, nu_n _ _ (by simp [xX, xKA, xIA, xPA, xLN, xLR, xK, xSO, xHM, xFT, xLT, xN, xP, xPP, xQ])]; exact hf4)).trans a3_xIAg
  have a4_xPA : S4 xPA = some (5, 40) := by rw [eS4]; exact nu_al b3 (by rw [eS3, nu_n _ _ (by simp [xX, xKA, xIA, xPA, xLN, xLR, xK, xSO, xHM, xFT, xLT, xN, xP, xPP, xQ]), eS2, nu_n _ _ (by simp [xX, xKA, xIA, xPA, xLN, xLR, xK, xSO, xHM, xFT, xLT, xN, xP, xPP, xQ]), eS1, nu_n _ _ (by simp [xX, xKA, xIA, xPA, xLN, xLR, xK, xSO, xHM, xFT, xLT, xN, xP, xPP, xQ])]; exact hf4)
  have a4_xPAg : g4 xPA = q3 := by rw [eg4]; exact (nu_gl b3 (by rw [eS3, nu_n _ _ (by simp [xX, xKA, xIA, xPA, xLN, xLR, xK, xSO, xHM, xFT, xLT, xN, xP, xPP, xQ]), eS2, nu_n _ _ (by simp [xX, xKA, xIA, xPA, xLN, xLR, xK, xSO, xHM, xFT, xLT, xN, xP, xPP, xQ]), eS1, nu_n _ _ (by simp [xX, xKA, xIA, xPA, xLN, xLR, xK, xSO, xHM, xFT, xLT, xN, xP, xPP, xQ])]; exact hf4)).trans b3g
  have b4 : S4 xLN = some (0, 2) := by rw [eS4]; exact nu_s _ _ _
  have b4g : g4 xLN = q4 := by rw [eg4]; exact nu_s _ _ _
  refine lv_dup hx hb dX5_init_36 rfl ?_
  have hM0 := cxn_Line l D cA (S := S4) (g := g4) (J := I4) (R := R4) b4 (by rw [eS4, nu_n _ _ (by simp [xX, xKA, xIA, xPA, xLN, xLR, xK, xSO, xHM, xFT, xLT, xN, xP, xPP, xQ]), eS3, nu_n _ _ (by simp [xX, xKA, xIA, xPA, xLN, xLR, xK, xSO, xHM, xFT, xLT, xN, xP, xPP, xQ]), eS2, nu_n _ _ (by simp [xX, xKA, xIA, xPA, xLN, xLR, xK, xSO, xHM, xFT, xLT, xN, xP, xPP, xQ]), eS1, nu_n _ _ (by simp [xX, xKA, xIA, xPA, xLN, xLR, xK, xSO, xHM, xFT, xLT, xN, xP, xPP, xQ])]; exact hf5)
  rw [b4g] at hM0
  refine kcX2_init (As := []) (rest := [.ref q4, .ref (g xX)]) hM0 hx hb hml ht hown hK hw rfl hl.1 rfl (by simp [Value.category]) ⟨(by first | decide | (simp; done) | (simp; omega) | omega), (by first | decide | (simp; done) | (simp; omega) | omega)⟩ ⟨(by first | decide | (simp; done) | (simp; omega) | omega), (by first | decide | (simp; done) | (simp; omega) | omega)⟩ rfl dX5_init_37 (fun v S5 g5 I5 R5 H locs hp hw => ?_)
  obtain ⟨rfl, eS5, hg5, eI5, eR5⟩ := hp
  clear hM0
  have k5_xX : S5 xX = some (0, 5) := by rw [eS5]; exact nu_al a4_xX (by rw [eS4, nu_n _ _ (by simp [xX, xKA, xIA, xPA, xLN, xLR, xK, xSO, xHM, xFT, xLT, xN, xP, xPP, xQ]), eS3, nu_n _ _ (by simp [xX, xKA, xIA, xPA, xLN, xLR, xK, xSO, xHM, xFT, xLT, xN, xP, xPP, xQ]), eS2, nu_n _ _ (by simp [xX, xKA, xIA, xPA, xLN, xLR, xK, xSO, xHM, xFT, xLT, xN, xP, xPP, xQ]), eS1, nu_n _ _ (by simp [xX, xKA, xIA, xPA, xLN, xLR, xK, xSO, xHM, xFT, xLT, xN, xP, xPP, xQ])]; exact hf5)
  have k5_xXg : g5 xX = g xX := (hg5 _ _ a4_xX).trans a4_xXg
  have k5_xKA : S5 xKA = some (3, 8) := by rw [eS5]; exact nu_al a4_xKA (by rw [eS4, nu_n _ _ (by simp [xX, xKA, xIA, xPA, xLN, xLR, xK, xSO, xHM, xFT, xLT, xN, xP, xPP, xQ]), eS3, nu_n _ _ (by simp [xX, xKA, xIA, xPA, xLN, xLR, xK, xSO, xHM, xFT, xLT, xN, xP, xPP, xQ]), eS2, nu_n _ _ (by simp [xX, xKA, xIA, xPA, xLN, xLR, xK, xSO, xHM, xFT, xLT, xN, xP, xPP, xQ]), eS1, nu_n _ _ (by simp [xX, xKA, xIA, xPA, xLN, xLR, xK, xSO, xHM, xFT, xLT, xN, xP, xPP, xQ])]; exact hf5)
  have k5_xKAg : g5 xKA = q1 := (hg5 _ _ a4_xKA).trans a4_xKAg
  have k5_xIA : S5 xIA = some (4, 200) := by rw [eS5]; exact nu_al a4_xIA (by rw [eS4, nu_n _ _ (by simp [xX, xKA, xIA, xPA, xLN, xLR, xK, xSO, xHM, xFT, xLT, xN, xP, xPP, xQ]), eS3, nu_n _ _ (by simp [xX, xKA, xIA, xPA, xLN, xLR, xK, xSO, xHM, xFT, xLT, xN, xP, xPP, xQ]), eS2, nu_n _ _ (by simp [xX, xKA, xIA, xPA, xLN, xLR, xK, xSO, xHM, xFT, xLT, xN, xP, xPP, xQ]), eS1, nu_n _ _ (by simp [xX, xKA, xIA, xPA, xLN, xLR, xK, xSO, xHM, xFT, xLT, xN, xP, xPP, xQ])]; exact hf5)
  have k5_xIAg : g5 xIA = q2 := (hg5 _ _ a4_xIA).trans a4_xIAg
  have k5_xPA : S5 xPA = some (5, 40) := by rw [eS5]; exact nu_al a4_xPA (by rw [eS4, nu_n _ _ (by simp [xX, xKA, xIA, xPA, xLN, xLR, xK, xSO, xHM, xFT, xLT, xN, xP, xPP, xQ]), eS3, nu_n _ _ (by simp [xX, xKA, xIA, xPA, xLN, xLR, xK, xSO, xHM, xFT, xLT, xN, xP, xPP, xQ]), eS2, nu_n _ _ (by simp [xX, xKA, xIA, xPA, xLN, xLR, xK, xSO, xHM, xFT, xLT, xN, xP, xPP, xQ]), eS1, nu_n _ _ (by simp [xX, xKA, xIA, xPA, xLN, xLR, xK, xSO, xHM, xFT, xLT, xN, xP, xPP, xQ])]; exact hf5)
  have k5_xPAg : g5 xPA = q3 := (hg5 _ _ a4_xPA).trans a4_xPAg
  have k5_xLN : S5 xLN = some (0, 2) := by rw [eS5]; exact nu_al b4 (by rw [eS4, nu_n _ _ (by simp [xX, xKA, xIA, xPA, xLN, xLR, xK, xSO, xHM, xFT, xLT, xN, xP, xPP, xQ]), eS3, nu_n _ _ (by simp [xX, xKA, xIA, xPA, xLN, xLR, xK, xSO, xHM, xFT, xLT, xN, xP, xPP, xQ]), eS2, nu_n _ _ (by simp [xX, xKA, xIA, xPA, xLN, xLR, xK, xSO, xHM, xFT, xLT, xN, xP, xPP, xQ]), eS1, nu_n _ _ (by simp [xX, xKA, xIA, xPA, xLN, xLR, xK, xSO, xHM, xFT, xLT, xN, xP, xPP, xQ])]; exact hf5)
  have k5_xLNg : g5 xLN = q4 := (hg5 _ _ b4).trans b4g
  show W _ _ _ _ _ _ _ _ _ _ _ _ _ _ _ (F0 m 40 ls [.ref q4, .ref (g xX)])
  refine fQ5 hx hb ht hown hK hw k5_xX k5_xXg 4 wf5_30 (by decide) rfl hin rfl (some xLN) (fun m hm => ⟨_, by cases hm; exact k5_xLN⟩) (by first | rfl | (simp only [Option.map_some, va_rf]; rw [show g5 xLN = q4 from k5_xLNg])) rfl rfl rfl dX5_init_40 (fun H locs T4 eT4 hw => ?_)
  have u4_new : T4 xX 4 = some xLN := by rw [eT4, ru_e]; simp
  refine lv_aload_n hx hb dX5_init_43 rfl (lv_at hl 0 rfl) ?_
  refine lv_iconst (v := 1) hx hb dX5_init_44 (by decide) ?_
  refine lv_iload_n hx hb dX5_init_45 rfl (lv_at hl 1 rfl) ?_
  refine lv_sipush (v := 30000) hx hb dX5_init_46 (by decide) ?_
  refine im_min hx hb (by rw [hml]; exact hl.1.symm) ht hown wm5_34 (by first | decide | (simp; done) | (simp; omega) | omega) (by simp [Value.category]) (by first | decide | (simp; done) | (simp; omega) | omega) (by first | decide | (simp; done) | (simp; omega) | omega) dX5_init_49 ?_
  refine im_max hx hb (by rw [hml]; exact hl.1.symm) ht hown wm5_40 (by first | decide | (simp; done) | (simp; omega) | omega) (by simp [Value.category]) (by first | decide | (simp; done) | (simp; omega) | omega) (by first | decide | (simp; done) | (simp; omega) | omega) dX5_init_52 ?_
  refine fP5 hx hb ht hown hK hw k5_xX k5_xXg 0 wf5_43 (by decide) rfl hin rfl rfl rfl rfl dX5_init_55 (fun H locs J1 eJ1 hw => ?_)
  refine nh_vret hx hb hr hlocks hw (by first | decide | (simp; done) | (simp; omega) | omega) (by first | decide | (simp; done) | (simp; omega) | omega) dX5_init_58 ?_
  have f1 : S xKA = none := hf1
  have f2 : S1 xIA = none := (by rw [eS1, nu_n _ _ (by simp [xX, xKA, xIA, xPA, xLN, xLR, xK, xSO, xHM, xFT, xLT, xN, xP, xPP, xQ])]; exact hf2)
  have f3 : S2 xPA = none := (by rw [eS2, nu_n _ _ (by simp [xX, xKA, xIA, xPA, xLN, xLR, xK, xSO, xHM, xFT, xLT, xN, xP, xPP, xQ]), eS1, nu_n _ _ (by simp [xX, xKA, xIA, xPA, xLN, xLR, xK, xSO, xHM, xFT, xLT, xN, xP, xPP, xQ])]; exact hf3)
  have f4 : S3 xLN = none := (by rw [eS3, nu_n _ _ (by simp [xX, xKA, xIA, xPA, xLN, xLR, xK, xSO, xHM, xFT, xLT, xN, xP, xPP, xQ]), eS2, nu_n _ _ (by simp [xX, xKA, xIA, xPA, xLN, xLR, xK, xSO, xHM, xFT, xLT, xN, xP, xPP, xQ]), eS1, nu_n _ _ (by simp [xX, xKA, xIA, xPA, xLN, xLR, xK, xSO, xHM, xFT, xLT, xN, xP, xPP, xQ])]; exact hf4)
  have f5 : S4 xLR = none := (by rw [eS4, nu_n _ _ (by simp [xX, xKA, xIA, xPA, xLN, xLR, xK, xSO, xHM, xFT, xLT, xN, xP, xPP, xQ]), eS3, nu_n _ _ (by simp [xX, xKA, xIA, xPA, xLN, xLR, xK, xSO, xHM, xFT, xLT, xN, xP, xPP, xQ]), eS2, nu_n _ _ (by simp [xX, xKA, xIA, xPA, xLN, xLR, xK, xSO, xHM, xFT, xLT, xN, xP, xPP, xQ]), eS1, nu_n _ _ (by simp [xX, xKA, xIA, xPA, xLN, xLR, xK, xSO, xHM, xFT, xLT, xN, xP, xPP, xQ])]; exact hf5)
  have m1 : ∀ m c, S m = some c → S1 m = some c := by rw [eS1]; exact nu_mono (fun _ _ h => h) f1
  have k1 : xgk S g g1 := by rw [eg1]; exact xgk_nu (xgk_rf S g) (fun _ _ h => h) f1
  have m2 : ∀ m c, S m = some c → S2 m = some c := by rw [eS2]; exact nu_mono m1 f2
  have k2 : xgk S g g2 := by rw [eg2]; exact xgk_nu k1 m1 f2
  have m3 : ∀ m c, S m = some c → S3 m = some c := by rw [eS3]; exact nu_mono m2 f3
  have k3 : xgk S g g3 := by rw [eg3]; exact xgk_nu k2 m2 f3
  have m4 : ∀ m c, S m = some c → S4 m = some c := by rw [eS4]; exact nu_mono m3 f4
  have k4 : xgk S g g4 := by rw [eg4]; exact xgk_nu k3 m3 f4
  refine ⟨rfl, ?_, xgk_tr k4 m4 hg5, ?_, ?_⟩
  · rw [eS5, eS4, eS3, eS2, eS1]; rfl
  · subst eJ1
    subst eI5
    subst eI4
    subst eI3
    subst eI2
    subst eI1
    rfl
  · subst eT4
    subst eR5
    subst eR4
    subst eT3
    subst eR3
    subst eT2
    subst eR2
    subst eT1
    subst eR1
    rfl
theorem xgoP_keep {S S' : nh_N → Option nh_C} {g g' : nh_N → Nat} {J I' : nh_N → Nat → Int32} {R R' : nh_N → Nat → Option nh_N} {q c0 i k : Nat} {v : Option Value} (h : xgoP S g J R q c0 i k v S' g' I' R') (hf : S (xQ q c0) = none) : (∀ m c, S m = some c → S' m = some c) ∧ xgk S g g' ∧ ∀ m j, m ≠ xQ q c0 → m ≠ xPP q → R' m j = R m j := by
  have hno : ∀ (x : Int32) (I0 : nh_N → Nat → Int32), xno x S g I0 R v S' g' I' R' → (∀ m c, S m = some c → S' m = some c) ∧ xgk S g g' ∧ ∀ m j, m ≠ xQ q c0 → m ≠ xPP q → R' m j = R m j := by
    intro x I0 w
    obtain ⟨-, e1, e2, -, e4⟩ := w
    subst e1 e2 e4
    exact ⟨fun _ _ h => h, xgk_rf _ _, fun _ _ _ _ => rfl⟩
  have hpl : ∀ (x : Int32) (I0 : nh_N → Nat → Int32), xpl x S g I0 R q c0 i v S' g' I' R' → (∀ m c, S m = some c → S' m = some c) ∧ xgk S g g' ∧ ∀ m j, m ≠ xQ q c0 → m ≠ xPP q → R' m j = R m j := by
    intro x I0 w
    obtain ⟨-, e1, e2, -, e4⟩ := w
    subst e1 e4
    exact ⟨nu_mono (fun _ _ h => h) hf, e2, fun m j h1 h2 => xR_pl_o h1 h2⟩
  rcases h with ⟨-, w⟩ | ⟨-, -, w⟩ | ⟨-, -, -, w⟩ | ⟨-, -, -, -, w⟩ | ⟨-, -, -, -, w⟩
  · exact hno _ _ w
  · exact hpl _ _ w
  · exact hpl _ _ w
  · exact hpl _ _ w
  · exact hno _ _ w
theorem xXs_keep {S S' : nh_N → Option nh_C} {R R' : nh_N → Nat → Option nh_N} (h : xXs S R) (hm : ∀ m c, S m = some c → S' m = some c) (h1 : ∀ j, R' xX j = R xX j) (h2 : ∀ j, R' xLN j = R xLN j) : xXs S' R' := by
  obtain ⟨a1, a2, a3, a4, a5, a6, a7, a8, a9, a10, a11⟩ := h
  exact ⟨hm _ _ a1, by rw [h1]; exact a2, hm _ _ a3, by rw [h1]; exact a4, hm _ _ a5, by rw [h1]; exact a6, hm _ _ a7, by rw [h1]; exact a8, hm _ _ a9, by rw [h2]; exact a10, hm _ _ a11⟩
abbrev xSt : Type := (nh_N → Option nh_C) → (nh_N → Nat) → (nh_N → Nat → Int32) → (nh_N → Nat → Option nh_N) → Prop
/-- what a turn of goThroughLine needs, and what it gives -/
def xglS (Inv : Nat → xSt) (q j : Nat) : xSt := fun S g J R => ∃ i k n c0 ni, J xLR j = nI i ∧ i < ni ∧ ni ≤ 200 ∧ (∀ t, t < 200 → R xIA t = if t < ni then some (xN t) else none) ∧ xXs S R ∧ xPs S R q n ∧ xNs S R i k ∧ xKs S R k ∧ S (xQ q c0) = none ∧ J (xP q) 2 = nI c0 ∧ c0 < n ∧ n ≤ 200 ∧ J (xP q) 0 = nI q ∧ q < 40 ∧
  ∀ v S' g' I' R', xgoP S g J R q c0 i k v S' g' I' R' → (v = some (.int 0) ∧ Inv (j + 1) S' g' I' R') ∨ (v = some (.int 1) ∧ (∃ n, I' xLN 1 = nI n ∧ n ≤ 200) ∧ Inv (j + 1) S' g' (xf_append I' (nI i)).2 R')
set_option maxHeartbeats 4000000 in
set_option maxRecDepth 100000 in
theorem xw_gl {p : Program} {l : Launch} {e : Env} {s : State} {m : MethodId} {below : List Frame} {meth : Method} {c1 : Code} {A : Nat → Prop} {D : va_G} {cA : Nat → ClassId} {av : Array Value} {Q : State → Prop} (hx : p.tables.exec = Jvm.exec) (hb : c1.code = cX5_goThroughLine) (hml : c1.maxLocals = 6) (ht : ∀ w ∈ im_ws, w.before av s = true) (hown : s.vm.findClass qR5 = some m.cls) (hK : im_K D cA s) (Inv : Nat → xSt) (q N aX aP : Nat) (hN : N ≤ 200) (hT : ∀ j S g J R, j < N → Inv j S g J R → xglS Inv q j S g J R) : ∀ (r j : Nat) (S : nh_N → Option nh_C) (g : nh_N → Nat) (J : (nh_N → Nat → Int32)) (R : nh_N → Nat → Option nh_N) (H : Heap) (locs : List Loc) (ls : Array Slot), j + r = N → Inv j S g J R → xXs S R → S (xP q) = some (0, 3) → g xX = aX → g (xP q) = aP → nh_S D im_cl im_sk cA A s.heap S g J R H locs → lv_has ls 6 [(0, .ref aX), (1, .ref aP), (2, .int (nI N)), (3, .int (nI j))] → (∀ (S : nh_N → Option nh_C) (g : nh_N → Nat) (J : (nh_N → Nat → Int32)) (R : nh_N → Nat → Option nh_N) (H : Heap) (locs : List Loc) (ls : Array Slot), Inv N S g J R → xXs S R → S (xP q) = some (0, 3) → g xX = aX → g (xP q) = aP → nh_S D im_cl im_sk cA A s.heap S g J R H locs → lv_has ls 6 [(0, .ref aX), (1, .ref aP), (2, .int (nI N)), (3, .int (nI N))] → W p l e { frames := 4, cells := N, slots := 3 * N, locals := 90 } s m av below meth c1 H locs N (3 * N) Q (F0 m 72 ls [])) → W p l e { frames := 4, cells := N, slots := 3 * N, locals := 90 } s m av below meth c1 H locs j (3 * j) Q (F0 m 18 ls []) := by
  intro r
  induction r with
  | zero =>
    intro j S g J R H locs ls hj hI hXs0 hP0 hgX hgP hw hl kk
    obtain rfl : j = N := by omega
    refine lv_iload_n hx hb dX5_goThroughLine_18 rfl (lv_at hl 3 rfl) ?_
    refine lv_iload_n hx hb dX5_goThroughLine_19 rfl (lv_at hl 2 rfl) ?_
    refine lv_icmp_ge (tgt := 72) hx hb dX5_goThroughLine_20 (by decide) (fun c20 => ?_) (fun c20 => ?_)
    · exact kk _ _ _ _ _ _ ls hI hXs0 hP0 hgX hgP hw (lv_sub hl [0, 1, 2, 3] rfl)
    · exact absurd (nI_le (by omega) (by omega)) c20
  | succ r ih =>
    intro j S g J R H locs ls hj hI hXs0 hP0 hgX hgP hw hl kk
    obtain ⟨i, k, n, c0, ni, hi, hin2, hni2, hIA, hXs, hps, hns, hks, hfq, hc0, hcn, hn2, hq0, hq4, hout⟩ := hT j S g J R (by omega) hI
    refine lv_iload_n hx hb dX5_goThroughLine_18 rfl (lv_at hl 3 rfl) ?_
    refine lv_iload_n hx hb dX5_goThroughLine_19 rfl (lv_at hl 2 rfl) ?_
    refine lv_icmp_ge (tgt := 72) hx hb dX5_goThroughLine_20 (by decide) (fun c20 => ?_) (fun c20 => ?_)
    · exact absurd c20 (nI_ge (by omega) (by omega))
    · refine lv_aload_n hx hb dX5_goThroughLine_23 rfl (lv_at hl 0 rfl) ?_
      refine fg5 (v := .ref (g xLN)) hx hb ht hown hK hw hXs.1 hgX 4 wf5_30 (by decide) (nh_vr rfl hXs.2.2.2.2.2.2.2.1) dX5_goThroughLine_24 ?_
      refine fg2 (v := .ref (g xLR)) hx hb ht hown hK hw hXs.2.2.2.2.2.2.2.2.1 rfl 0 wf5_173 (by decide) (nh_vr rfl hXs.2.2.2.2.2.2.2.2.2.1) dX5_goThroughLine_27 ?_
      refine lv_iload_n hx hb dX5_goThroughLine_30 rfl (lv_at hl 3 rfl) ?_
      refine ai_ld hx hb hK hw hXs.2.2.2.2.2.2.2.2.2.2 rfl (vp_in_nI (by omega) (by decide)) dX5_goThroughLine_31 ?_
      rw [show J xLR (nI j).toNatClampNeg = nI i by rw [nI_clamp (by omega)]; exact hi]
      refine lv_istore (lv' := [(4, .int (nI i)), (0, .ref aX), (1, .ref aP), (2, .int (nI N)), (3, .int (nI j))]) hx hb dX5_goThroughLine_32 hl (by decide) rfl (fun ls hl => ?_)
      refine lv_aload_n hx hb dX5_goThroughLine_34 rfl (lv_at hl 1 rfl) ?_
      refine lv_iload hx hb dX5_goThroughLine_35 (lv_at hl 0 rfl) ?_
      refine kcX5_insertAt (As := [.int (nI i)]) (rest := []) wm5_91 (by have h := cxf_insertAt l D cA (g := g) (J := J) hXs (nI i) ni hni2 hIA; rw [hgX] at h; exact h) hx hb hml ht hown hK hw hXs.1 hgX rfl hl.1 rfl (by simp [Value.category]) ⟨(by first | decide | (simp; done) | (simp; omega) | omega), (by first | decide | (simp; done) | (simp; omega) | omega)⟩ ⟨(by first | decide | (simp; done) | (simp; omega) | omega), (by first | decide | (simp; done) | (simp; omega) | omega)⟩ dX5_goThroughLine_37 (fun v S1 g1 I1 R1 H locs hp hw => ?_)
      obtain ⟨rfl, h1, h2, h3, h4⟩ := hp
      rw [h1, h2, h3, h4] at hw
      clear h1 h2 h3 h4
      rw [show xat ni (nI i) = some i by rw [xat_nI (by omega), if_pos hin2]]
      show W _ _ _ _ _ _ _ _ _ _ _ _ _ _ _ (F0 m 40 ls [.ref (g (xN i))])
      refine lv_astore (lv' := [(5, .ref (g (xN i))), (4, .int (nI i)), (0, .ref aX), (1, .ref aP), (2, .int (nI N)), (3, .int (nI j))]) hx hb dX5_goThroughLine_40 hl (by decide) rfl (fun ls hl => ?_)
      refine lv_aload hx hb dX5_goThroughLine_42 (lv_at hl 0 rfl) ?_
      refine lv_ifnull hx hb dX5_goThroughLine_44 ?_
      refine lv_aload_n hx hb dX5_goThroughLine_47 rfl (lv_at hl 2 rfl) ?_
      refine lv_aload_n hx hb dX5_goThroughLine_48 rfl (lv_at hl 3 rfl) ?_
      refine lv_aload hx hb dX5_goThroughLine_49 (lv_at hl 0 rfl) ?_
      have hM0 := cx_goThrough l D cA (S := S) (g := g) (J := J) (R := R) q n i k c0 hXs hps hns hks hfq hc0 hcn hn2 hq0 hq4
      rw [hgX, hgP] at hM0
      refine kcX5_goThrough (As := [.ref aP, .ref (g (xN i))]) (rest := []) wm5_176 hM0 hx hb hml ht hown hK hw hXs.1 hgX rfl hl.1 rfl (by simp [Value.category]) ⟨(by first | decide | (simp; done) | (simp; omega) | omega), (by first | decide | (simp; done) | (simp; omega) | omega)⟩ ⟨(by first | decide | (simp; done) | (simp; omega) | omega), (by first | decide | (simp; done) | (simp; omega) | omega)⟩ dX5_goThroughLine_51 (fun v S1 g1 I1 R1 H locs hp hw => ?_)
      have hkp := xgoP_keep hp hfq
      have hX1 : xXs S1 R1 := xXs_keep hXs hkp.1 (fun j => hkp.2.2 _ j (by simp [xX, xKA, xIA, xPA, xLN, xLR, xK, xSO, xHM, xFT, xLT, xN, xP, xPP, xQ]) (by simp [xX, xKA, xIA, xPA, xLN, xLR, xK, xSO, xHM, xFT, xLT, xN, xP, xPP, xQ])) (fun j => hkp.2.2 _ j (by simp [xX, xKA, xIA, xPA, xLN, xLR, xK, xSO, xHM, xFT, xLT, xN, xP, xPP, xQ]) (by simp [xX, xKA, xIA, xPA, xLN, xLR, xK, xSO, xHM, xFT, xLT, xN, xP, xPP, xQ]))
      have hgX1 : g1 xX = aX := (hkp.2.1 _ _ hXs.1).trans hgX
      have hgP1 : g1 (xP q) = aP := (hkp.2.1 _ _ hps.1).trans hgP
      have hP1 : S1 (xP q) = some (0, 3) := hkp.1 _ _ hps.1
      rcases hout v S1 g1 I1 R1 hp with ⟨rfl, hI1⟩ | ⟨rfl, hln1, hI1⟩
      · show W _ _ _ _ _ _ _ _ _ _ _ _ _ _ _ (F0 m 54 ls [.int 0])
        refine lv_if_eq (tgt := 66) hx hb dX5_goThroughLine_54 (by decide) (fun c54 => ?_) (fun c54 => absurd c54 (by decide))
        refine lv_iinc (v := (nI j) + 1) (lv' := [(3, .int ((nI j) + 1)), (5, .ref (g (xN i))), (4, .int (nI i)), (0, .ref aX), (1, .ref aP), (2, .int (nI N))]) hx hb dX5_goThroughLine_66 hl (k := 5) rfl rfl (by decide) rfl (fun ls hl => ?_)
        refine lv_goto (tgt := 18) hx hb dX5_goThroughLine_69 (by decide) ?_
        have h9 : lv_has ls 6 [(0, .ref aX), (1, .ref aP), (2, .int (nI N)), (3, .int ((nI j) + 1))] := lv_sub hl [3, 4, 5, 0] rfl
        rw [nI_1] at h9
        refine W.widen (k := j + 1) (n := 3 * (j + 1)) (by first | decide | (simp; done) | (simp; omega) | omega) (by first | decide | (simp; done) | (simp; omega) | omega) ?_
        exact ih (j + 1) _ _ _ _ _ _ ls (by omega) hI1 hX1 hP1 hgX1 hgP1 hw h9 kk
      · show W _ _ _ _ _ _ _ _ _ _ _ _ _ _ _ (F0 m 54 ls [.int 1])
        refine lv_if_eq (tgt := 66) hx hb dX5_goThroughLine_54 (by decide) (fun c54 => absurd c54 (by decide)) (fun c54 => ?_)
        refine lv_aload_n hx hb dX5_goThroughLine_57 rfl (lv_at hl 2 rfl) ?_
        refine fg5 (v := .ref (g1 xLN)) hx hb ht hown hK hw hX1.1 hgX1 4 wf5_30 (by decide) (nh_vr rfl hX1.2.2.2.2.2.2.2.1) dX5_goThroughLine_58 ?_
        refine lv_iload hx hb dX5_goThroughLine_61 (lv_at hl 1 rfl) ?_
        refine kcX2_append (As := [.int (nI i)]) (rest := []) wm5_180 (by obtain ⟨ln, hln, hl2⟩ := hln1; exact cxf_append l D cA hX1.2.2.2.2.2.2.2.2 (nI i) ln hln hl2) hx hb hml ht hown hK hw hX1.2.2.2.2.2.2.2.2.1 rfl rfl hl.1 rfl (by simp [Value.category]) ⟨(by first | decide | (simp; done) | (simp; omega) | omega), (by first | decide | (simp; done) | (simp; omega) | omega)⟩ ⟨(by first | decide | (simp; done) | (simp; omega) | omega), (by first | decide | (simp; done) | (simp; omega) | omega)⟩ dX5_goThroughLine_63 (fun v S1 g1 I1 R1 H locs hp hw => ?_)
        obtain ⟨rfl, h1, h2, h3, h4⟩ := hp
        rw [h1, h2, h3, h4] at hw
        clear h1 h2 h3 h4
        show W _ _ _ _ _ _ _ _ _ _ _ _ _ _ _ (F0 m 66 ls [])
        refine lv_iinc (v := (nI j) + 1) (lv' := [(3, .int ((nI j) + 1)), (5, .ref (g (xN i))), (4, .int (nI i)), (0, .ref aX), (1, .ref aP), (2, .int (nI N))]) hx hb dX5_goThroughLine_66 hl (k := 5) rfl rfl (by decide) rfl (fun ls hl => ?_)
        refine lv_goto (tgt := 18) hx hb dX5_goThroughLine_69 (by decide) ?_
        have h9 : lv_has ls 6 [(0, .ref aX), (1, .ref aP), (2, .int (nI N)), (3, .int ((nI j) + 1))] := lv_sub hl [3, 4, 5, 0] rfl
        rw [nI_1] at h9
        refine W.widen (k := j + 1) (n := 3 * (j + 1)) (by first | decide | (simp; done) | (simp; omega) | omega) (by first | decide | (simp; done) | (simp; omega) | omega) ?_
        exact ih (j + 1) _ _ _ _ _ _ ls (by omega) hI1 hX1 hP1 hgX1 hgP1 hw h9 kk
