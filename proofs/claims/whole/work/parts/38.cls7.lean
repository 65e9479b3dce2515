theorem xSk_al {S : nh_N → Option nh_C} {k : Nat} {m : nh_N} {c : nh_C} (h : S m = some c) (h1 : S (xSO k) = none) (h2 : S (xHM k) = none) (h3 : S (xFT k) = none) (h4 : S (xLT k) = none) : xS_kind S k m = some c := by
  unfold xS_kind
  have d1 : m ≠ xSO k := fun q => by rw [q, h1] at h; cases h
  have d2 : m ≠ xHM k := fun q => by rw [q, h2] at h; cases h
  have d3 : m ≠ xFT k := fun q => by rw [q, h3] at h; cases h
  have d4 : m ≠ xLT k := fun q => by rw [q, h4] at h; cases h
  rw [nu_n _ _ d4, nu_n _ _ d3, nu_n _ _ d2, nu_n _ _ d1]
  exact h
theorem xRk_o {R : nh_N → Nat → Option nh_N} {k : Nat} {m : nh_N} {j : Nat} (d0 : m ≠ xK k) (d1 : m ≠ xSO k) (d2 : m ≠ xHM k) (d3 : m ≠ xFT k) (d4 : m ≠ xLT k) : xR_kind R k m j = R m j := by
  unfold xR_kind
  rw [ru_e, if_neg (fun w => d0 w.1), nu_n _ _ d4, ru_e, if_neg (fun w => d0 w.1), nu_n _ _ d3, ru_e, if_neg (fun w => d0 w.1), nu_n _ _ d2, ru_e, if_neg (fun w => d0 w.1), nu_n _ _ d1]
theorem xgk_tr {S S1 : nh_N → Option nh_C} {g g1 g2 : nh_N → Nat} (h : xgk S g g1) (hs : ∀ m c, S m = some c → S1 m = some c) (h2 : xgk S1 g1 g2) : xgk S g g2 := fun m c hm => (h2 m c (hs m c hm)).trans (h m c hm)
def xI_cls (J : nh_N → Nat → Int32) (nk : Nat) (a b d : Int32) : nh_N → Nat → Int32 := iu (xI_kind (nu J (xK nk) (fun _ => 0)) nk a b d) xX 5 (xI_kind (nu J (xK nk) (fun _ => 0)) nk a b d xX 5 + 1)
def xclsP (S : nh_N → Option nh_C) (g : nh_N → Nat) (J : nh_N → Nat → Int32) (R : nh_N → Nat → Option nh_N) (nk : Nat) (a b d : Int32) : nh_post := fun v S' g' I' R' =>
  (xf_isWithin J a (-1) 10000 = 0 ∧ xno (-2) S g J R v S' g' I' R') ∨ (¬ xf_isWithin J a (-1) 10000 = 0 ∧ xf_isWithin J b 0 10000 = 0 ∧ xno (-2) S g J R v S' g' I' R') ∨
  (¬ xf_isWithin J a (-1) 10000 = 0 ∧ ¬ xf_isWithin J b 0 10000 = 0 ∧ ¬ J xX 5 < 8 ∧ xno (-4) S g J R v S' g' I' R') ∨
  (¬ xf_isWithin J a (-1) 10000 = 0 ∧ ¬ xf_isWithin J b 0 10000 = 0 ∧ J xX 5 < 8 ∧ v = some (.int (J xX 5)) ∧ S' = xS_kind (nu S (xK nk) (some (0, 1))) nk ∧ xgk S g g' ∧ I' = xI_cls J nk (if a = -1 then J xX 0 else a) b d ∧ R' = ru (xR_kind (nu R (xK nk) (fun _ => none)) nk) xKA nk (some (xK nk)))
set_option maxHeartbeats 4000000 in
set_option maxRecDepth 100000 in
theorem cx_cls (l : Launch) (D : va_G) (cA : Nat → ClassId) {S : nh_N → Option nh_C} {g : nh_N → Nat} {J : (nh_N → Nat → Int32)} {R : nh_N → Nat → Option nh_N} (nk : Nat) (hX : xXs S R) (hf0 : S (xK nk) = none) (hf1 : S (xSO nk) = none) (hf2 : S (xHM nk) = none) (hf3 : S (xFT nk) = none) (hf4 : S (xLT nk) = none) (a : Int32) (b : Int32) (d : Int32) (hk0 : J xX 5 = nI nk) (hk8 : nk ≤ 8) (hd0 : d = 0 ∨ d = 1) : im_M l D cA yX5_cls vX5_cls 2 35 5 169 [.ref (g xX), .int a, .int b, .int d] S g J R (xclsP S g J R nk a b d) := by
  refine nh_of (cc := cX5_cls) (maxL := 5) (ret := (some .int)) (by decide) rfl (Nat.le_of_ble_eq_true rfl) ?_
  intro p e s m below meth c A ls hx hb hr hml hts hown hlocks hin hK hw hl
  have ht : ∀ w ∈ im_ws, w.before _ s = true := fun w h => hts w (List.mem_cons_of_mem _ h)
  have hl : lv_has ls 5 [(0, .ref (g xX)), (1, .int a), (2, .int b), (3, .int d)] := hl
  refine lv_iload_n hx hb dX5_cls_0 rfl (lv_at hl 1 rfl) ?_
  refine lv_iconst (v := (-1)) hx hb dX5_cls_1 (by decide) ?_
  refine lv_sipush (v := 10000) hx hb dX5_cls_2 (by decide) ?_
  refine kcX5_isWithin (As := [.int a, .int (-1), .int 10000]) (rest := []) wm5_47 (cxf_isWithin l D cA a (-1) 10000) hx hb hml ht hown hK hw rfl hl.1 rfl (by simp [Value.category]) ⟨by decide, by decide⟩ ⟨(by first | decide | (simp; done) | (simp; omega) | omega), (by first | decide | (simp; done) | (simp; omega) | omega)⟩ dX5_cls_5 (fun v S1 g1 I1 R1 H locs hp hw => ?_)
  obtain ⟨rfl, h1, h2, h3, h4⟩ := hp
  rw [h1, h2, h3, h4] at hw
  clear h1 h2 h3 h4
  show W _ _ _ _ _ _ _ _ _ _ _ _ _ _ _ (F0 m 8 ls [.int (xf_isWithin J a (-1) 10000)])
  refine lv_if_eq (tgt := 22) hx hb dX5_cls_8 (by decide) (fun c8 => ?_) (fun c8 => ?_)
  · refine lv_bipush (v := (-2)) hx hb dX5_cls_22 (by decide) ?_
    refine nh_iret hx hb hr rfl hlocks hw (by first | decide | (simp; done) | (simp; omega) | omega) (by first | decide | (simp; done) | (simp; omega) | omega) dX5_cls_24 ?_
    exact Or.inl ⟨c8, rfl, rfl, rfl, rfl, rfl⟩
  · refine lv_iload_n hx hb dX5_cls_11 rfl (lv_at hl 2 rfl) ?_
    refine lv_iconst (v := 0) hx hb dX5_cls_12 (by decide) ?_
    refine lv_sipush (v := 10000) hx hb dX5_cls_13 (by decide) ?_
    refine kcX5_isWithin (As := [.int b, .int 0, .int 10000]) (rest := []) wm5_47 (cxf_isWithin l D cA b 0 10000) hx hb hml ht hown hK hw rfl hl.1 rfl (by simp [Value.category]) ⟨by decide, by decide⟩ ⟨(by first | decide | (simp; done) | (simp; omega) | omega), (by first | decide | (simp; done) | (simp; omega) | omega)⟩ dX5_cls_16 (fun v S1 g1 I1 R1 H locs hp hw => ?_)
    obtain ⟨rfl, h1, h2, h3, h4⟩ := hp
    rw [h1, h2, h3, h4] at hw
    clear h1 h2 h3 h4
    show W _ _ _ _ _ _ _ _ _ _ _ _ _ _ _ (F0 m 19 ls [.int (xf_isWithin J b 0 10000)])
    refine lv_if_ne (tgt := 25) hx hb dX5_cls_19 (by decide) (fun c19 => ?_) (fun c19 => ?_)
    · refine lv_aload_n hx hb dX5_cls_25 rfl (lv_at hl 0 rfl) ?_
      refine fg5 (v := .int (J xX 5)) hx hb ht hown hK hw hX.1 rfl 5 wf5_51 (by decide) (nh_vi rfl) dX5_cls_26 ?_
      refine lv_bipush (v := 8) hx hb dX5_cls_29 (by decide) ?_
      refine lv_icmp_lt (tgt := 37) hx hb dX5_cls_31 (by decide) (fun c31 => ?_) (fun c31 => ?_)
      · refine lv_aload_n hx hb dX5_cls_37 rfl (lv_at hl 0 rfl) ?_
        refine fg5 (v := .int (J xX 5)) hx hb ht hown hK hw hX.1 rfl 5 wf5_51 (by decide) (nh_vi rfl) dX5_cls_38 ?_
        refine lv_istore (lv' := [(4, .int (J xX 5)), (0, .ref (g xX)), (1, .int a), (2, .int b), (3, .int d)]) hx hb dX5_cls_41 hl (by decide) rfl (fun ls hl => ?_)
        refine lv_aload_n hx hb dX5_cls_43 rfl (lv_at hl 1 rfl) ?_
        refine fg5 (v := .ref (g xKA)) hx hb ht hown hK hw hX.1 rfl 1 wf5_11 (by decide) (nh_vr rfl hX.2.1) dX5_cls_44 ?_
        refine lv_iload hx hb dX5_cls_47 (lv_at hl 0 rfl) ?_
        refine fn1 (xK nk) hx hb ht hown hK hw hf0 wl5_9 (by first | decide | (simp; done) | (simp; omega) | omega) (by first | decide | (simp; done) | (simp; omega) | omega) dX5_cls_49 (fun q1 H S1 g1 I1 R1 eS1 eg1 eI1 eR1 hw => ?_)
        have a1_xX : S1 xX = some (0, 5) := by rw [eS1]; exact nu_al hX.1 hf0
        have a1_xXg : g1 xX = g xX := by rw [eg1]; exact (nu_gl hX.1 hf0).trans rfl
        have a1_xXr1 : R1 xX 1 = some xKA := by rw [eR1, nu_gl hX.1 hf0]; exact hX.2.1
        have a1_xXr2 : R1 xX 2 = some xIA := by rw [eR1, nu_gl hX.1 hf0]; exact hX.2.2.2.1
        have a1_xKA : S1 xKA = some (3, 8) := by rw [eS1]; exact nu_al hX.2.2.1 hf0
        have a1_xKAg : g1 xKA = g xKA := by rw [eg1]; exact (nu_gl hX.2.2.1 hf0).trans rfl
        have a1_xIA : S1 xIA = some (4, 200) := by rw [eS1]; exact nu_al hX.2.2.2.2.1 hf0
        have a1_xIAg : g1 xIA = g xIA := by rw [eg1]; exact (nu_gl hX.2.2.2.2.1 hf0).trans rfl
        have b1 : S1 (xK nk) = some (0, 1) := by rw [eS1]; exact nu_s _ _ _
        have b1g : g1 (xK nk) = q1 := by rw [eg1]; exact nu_s _ _ _
        refine lv_dup hx hb dX5_cls_52 rfl ?_
        refine lv_iload_n hx hb dX5_cls_53 rfl (lv_at hl 2 rfl) ?_
        refine lv_iconst (v := (-1)) hx hb dX5_cls_54 (by decide) ?_
        refine lv_icmp_ne (tgt := 65) hx hb dX5_cls_55 (by decide) (fun c55 => ?_) (fun c55 => ?_)
        · refine lv_iload_n hx hb dX5_cls_65 rfl (lv_at hl 2 rfl) ?_
          refine lv_iload_n hx hb dX5_cls_66 rfl (lv_at hl 3 rfl) ?_
          refine lv_iload_n hx hb dX5_cls_67 rfl (lv_at hl 4 rfl) ?_
          have hM0 := cxn_Kind l D cA (S := S1) (g := g1) (J := I1) (R := R1) nk b1 (by rw [eS1, nu_n _ _ (by simp [xX, xKA, xIA, xPA, xLN, xLR, xK, xSO, xHM, xFT, xLT, xN, xP, xPP, xQ])]; exact hf1) (by rw [eS1, nu_n _ _ (by simp [xX, xKA, xIA, xPA, xLN, xLR, xK, xSO, xHM, xFT, xLT, xN, xP, xPP, xQ])]; exact hf2) (by rw [eS1, nu_n _ _ (by simp [xX, xKA, xIA, xPA, xLN, xLR, xK, xSO, xHM, xFT, xLT, xN, xP, xPP, xQ])]; exact hf3) (by rw [eS1, nu_n _ _ (by simp [xX, xKA, xIA, xPA, xLN, xLR, xK, xSO, xHM, xFT, xLT, xN, xP, xPP, xQ])]; exact hf4) a b d hd0
          rw [b1g] at hM0
          refine kcX1_init (As := [.int a, .int b, .int d]) (rest := [.ref q1, .int (J xX 5), .ref (g xKA)]) wm5_54 hM0 hx hb hml ht hown hK hw rfl hl.1 rfl (by simp [Value.category]) ⟨(by first | decide | (simp; done) | (simp; omega) | omega), (by first | decide | (simp; done) | (simp; omega) | omega)⟩ ⟨(by first | decide | (simp; done) | (simp; omega) | omega), (by first | decide | (simp; done) | (simp; omega) | omega)⟩ dX5_cls_68 (fun v S2 g2 I2 R2 H locs hp hw _ _ => ?_)
          obtain ⟨rfl, eS2, hg2, eI2, eR2⟩ := hp
          clear hM0
          have k2_xX : S2 xX = some (0, 5) := by rw [eS2]; exact xSk_al a1_xX (by rw [eS1, nu_n _ _ (by simp [xX, xKA, xIA, xPA, xLN, xLR, xK, xSO, xHM, xFT, xLT, xN, xP, xPP, xQ])]; exact hf1) (by rw [eS1, nu_n _ _ (by simp [xX, xKA, xIA, xPA, xLN, xLR, xK, xSO, xHM, xFT, xLT, xN, xP, xPP, xQ])]; exact hf2) (by rw [eS1, nu_n _ _ (by simp [xX, xKA, xIA, xPA, xLN, xLR, xK, xSO, xHM, xFT, xLT, xN, xP, xPP, xQ])]; exact hf3) (by rw [eS1, nu_n _ _ (by simp [xX, xKA, xIA, xPA, xLN, xLR, xK, xSO, xHM, xFT, xLT, xN, xP, xPP, xQ])]; exact hf4)
          have k2_xXg : g2 xX = g xX := (hg2 _ _ a1_xX).trans a1_xXg
          have k2_xXr1 : R2 xX 1 = some xKA := by rw [eR2, xRk_o (by simp [xX, xKA, xIA, xPA, xLN, xLR, xK, xSO, xHM, xFT, xLT, xN, xP, xPP, xQ]) (by simp [xX, xKA, xIA, xPA, xLN, xLR, xK, xSO, xHM, xFT, xLT, xN, xP, xPP, xQ]) (by simp [xX, xKA, xIA, xPA, xLN, xLR, xK, xSO, xHM, xFT, xLT, xN, xP, xPP, xQ]) (by simp [xX, xKA, xIA, xPA, xLN, xLR, xK, xSO, xHM, xFT, xLT, xN, xP, xPP, xQ]) (by simp [xX, xKA, xIA, xPA, xLN, xLR, xK, xSO, xHM, xFT, xLT, xN, xP, xPP, xQ])]; exact a1_xXr1
          have k2_xXr2 : R2 xX 2 = some xIA := by rw [eR2, xRk_o (by simp [xX, xKA, xIA, xPA, xLN, xLR, xK, xSO, xHM, xFT, xLT, xN, xP, xPP, xQ]) (by simp [xX, xKA, xIA, xPA, xLN, xLR, xK, xSO, xHM, xFT, xLT, xN, xP, xPP, xQ]) (by simp [xX, xKA, xIA, xPA, xLN, xLR, xK, xSO, xHM, xFT, xLT, xN, xP, xPP, xQ]) (by simp [xX, xKA, xIA, xPA, xLN, xLR, xK, xSO, xHM, xFT, xLT, xN, xP, xPP, xQ]) (by simp [xX, xKA, xIA, xPA, xLN, xLR, xK, xSO, xHM, xFT, xLT, xN, xP, xPP, xQ])]; exact a1_xXr2
          have k2_xKA : S2 xKA = some (3, 8) := by rw [eS2]; exact xSk_al a1_xKA (by rw [eS1, nu_n _ _ (by simp [xX, xKA, xIA, xPA, xLN, xLR, xK, xSO, xHM, xFT, xLT, xN, xP, xPP, xQ])]; exact hf1) (by rw [eS1, nu_n _ _ (by simp [xX, xKA, xIA, xPA, xLN, xLR, xK, xSO, xHM, xFT, xLT, xN, xP, xPP, xQ])]; exact hf2) (by rw [eS1, nu_n _ _ (by simp [xX, xKA, xIA, xPA, xLN, xLR, xK, xSO, xHM, xFT, xLT, xN, xP, xPP, xQ])]; exact hf3) (by rw [eS1, nu_n _ _ (by simp [xX, xKA, xIA, xPA, xLN, xLR, xK, xSO, xHM, xFT, xLT, xN, xP, xPP, xQ])]; exact hf4)
          have k2_xKAg : g2 xKA = g xKA := (hg2 _ _ a1_xKA).trans a1_xKAg
          have k2_xIA : S2 xIA = some (4, 200) := by rw [eS2]; exact xSk_al a1_xIA (by rw [eS1, nu_n _ _ (by simp [xX, xKA, xIA, xPA, xLN, xLR, xK, xSO, xHM, xFT, xLT, xN, xP, xPP, xQ])]; exact hf1) (by rw [eS1, nu_n _ _ (by simp [xX, xKA, xIA, xPA, xLN, xLR, xK, xSO, xHM, xFT, xLT, xN, xP, xPP, xQ])]; exact hf2) (by rw [eS1, nu_n _ _ (by simp [xX, xKA, xIA, xPA, xLN, xLR, xK, xSO, xHM, xFT, xLT, xN, xP, xPP, xQ])]; exact hf3) (by rw [eS1, nu_n _ _ (by simp [xX, xKA, xIA, xPA, xLN, xLR, xK, xSO, xHM, xFT, xLT, xN, xP, xPP, xQ])]; exact hf4)
          have k2_xIAg : g2 xIA = g xIA := (hg2 _ _ a1_xIA).trans a1_xIAg
          have k2_xK_nk : S2 (xK nk) = some (0, 1) := by rw [eS2]; exact xSk_al b1 (by rw [eS1, nu_n _ _ (by simp [xX, xKA, xIA, xPA, xLN, xLR, xK, xSO, xHM, xFT, xLT, xN, xP, xPP, xQ])]; exact hf1) (by rw [eS1, nu_n _ _ (by simp [xX, xKA, xIA, xPA, xLN, xLR, xK, xSO, xHM, xFT, xLT, xN, xP, xPP, xQ])]; exact hf2) (by rw [eS1, nu_n _ _ (by simp [xX, xKA, xIA, xPA, xLN, xLR, xK, xSO, xHM, xFT, xLT, xN, xP, xPP, xQ])]; exact hf3) (by rw [eS1, nu_n _ _ (by simp [xX, xKA, xIA, xPA, xLN, xLR, xK, xSO, xHM, xFT, xLT, xN, xP, xPP, xQ])]; exact hf4)
          have k2_xK_nkg : g2 (xK nk) = q1 := (hg2 _ _ b1).trans b1g
          show W _ _ _ _ _ _ _ _ _ _ _ _ _ _ _ (F0 m 71 ls [.ref q1, .int (J xX 5), .ref (g xKA)])
          refine ar_st1 hx hb hK hw k2_xKA k2_xKAg (xK nk) k2_xK_nk k2_xK_nkg (ix_of nk hk0 (by rcases Nat.lt_or_ge nk 8 with h | h; exact h; exact absurd c31 (by rw [hk0]; exact nI_nlt (b := 8) h (by omega))) (by decide)) dX5_cls_71 (fun H locs T1 eT1 hw => ?_)
          have u1_xX_1 : T1 xX 1 = some xKA := by rw [eT1, ru_e, if_neg (by simp [xX, xKA, xIA, xPA, xLN, xLR, xK, xSO, xHM, xFT, xLT, xN, xP, xPP, xQ])]; exact k2_xXr1
          have u1_xX_2 : T1 xX 2 = some xIA := by rw [eT1, ru_e, if_neg (by simp [xX, xKA, xIA, xPA, xLN, xLR, xK, xSO, xHM, xFT, xLT, xN, xP, xPP, xQ])]; exact k2_xXr2
          refine lv_aload_n hx hb dX5_cls_72 rfl (lv_at hl 1 rfl) ?_
          refine lv_dup hx hb dX5_cls_73 rfl ?_
          refine fg5 (v := .int (I2 xX 5)) hx hb ht hown hK hw k2_xX k2_xXg 5 wf5_51 (by decide) (by simp [nh_v, im_sk, iu_e, nu, xX, xKA, xIA, xPA, xLN, xLR, xK, xSO, xHM, xFT, xLT, xN, xP, xPP, xQ, eT1]) dX5_cls_74 ?_
          refine lv_iconst (v := 1) hx hb dX5_cls_77 (by decide) ?_
          refine lv_iadd hx hb dX5_cls_78 ?_
          refine fp5 hx hb ht hown hK hw k2_xX k2_xXg 5 wf5_51 (by decide) rfl rfl rfl rfl dX5_cls_79 (fun H locs J1 eJ1 hw => ?_)
          refine lv_iload hx hb dX5_cls_82 (lv_at hl 0 rfl) ?_
          refine nh_iret hx hb hr rfl hlocks hw (by first | decide | (simp; done) | (simp; omega) | omega) (by first | decide | (simp; done) | (simp; omega) | omega) dX5_cls_84 ?_
          have m1 : ∀ m c, S m = some c → S1 m = some c := by rw [eS1]; exact nu_mono (fun _ _ h => h) hf0
          have k1 : xgk S g g2 := xgk_tr (by rw [eg1]; exact xgk_nu (xgk_rf S g) (fun _ _ h => h) hf0) m1 hg2
          refine Or.inr (Or.inr (Or.inr ⟨c8, c19, c31, rfl, ?_, k1, ?_, ?_⟩))
          · rw [eS2, eS1]
          · rw [if_neg c55]
            subst eJ1
            subst eI2
            subst eI1
            simp only [xI_cls, hk0, nI_clamp (show nk < 2 ^ 31 by omega)]
          · subst eT1
            subst eR2
            subst eR1
            rw [hk0, nI_clamp (show nk < 2 ^ 31 by omega)]
        · refine lv_aload_n hx hb dX5_cls_58 rfl (lv_at hl 1 rfl) ?_
          refine fg5 (v := .int (J xX 0)) hx hb ht hown hK hw a1_xX a1_xXg 0 wf5_43 (by decide) (by simp [nh_v, im_sk, iu_e, nu, xX, xKA, xIA, xPA, xLN, xLR, xK, xSO, xHM, xFT, xLT, xN, xP, xPP, xQ, eS1, eg1, eI1, eR1]) dX5_cls_59 ?_
          refine lv_goto (tgt := 66) hx hb dX5_cls_62 (by decide) ?_
          refine lv_iload_n hx hb dX5_cls_66 rfl (lv_at hl 3 rfl) ?_
          refine lv_iload_n hx hb dX5_cls_67 rfl (lv_at hl 4 rfl) ?_
          have hM0 := cxn_Kind l D cA (S := S1) (g := g1) (J := I1) (R := R1) nk b1 (by rw [eS1, nu_n _ _ (by simp [xX, xKA, xIA, xPA, xLN, xLR, xK, xSO, xHM, xFT, xLT, xN, xP, xPP, xQ])]; exact hf1) (by rw [eS1, nu_n _ _ (by simp [xX, xKA, xIA, xPA, xLN, xLR, xK, xSO, xHM, xFT, xLT, xN, xP, xPP, xQ])]; exact hf2) (by rw [eS1, nu_n _ _ (by simp [xX, xKA, xIA, xPA, xLN, xLR, xK, xSO, xHM, xFT, xLT, xN, xP, xPP, xQ])]; exact hf3) (by rw [eS1, nu_n _ _ (by simp [xX, xKA, xIA, xPA, xLN, xLR, xK, xSO, xHM, xFT, xLT, xN, xP, xPP, xQ])]; exact hf4) (J xX 0) b d hd0
          rw [b1g] at hM0
          refine kcX1_init (As := [.int (J xX 0), .int b, .int d]) (rest := [.ref q1, .int (J xX 5), .ref (g xKA)]) wm5_54 hM0 hx hb hml ht hown hK hw rfl hl.1 rfl (by simp [Value.category]) ⟨(by first | decide | (simp; done) | (simp; omega) | omega), (by first | decide | (simp; done) | (simp; omega) | omega)⟩ ⟨(by first | decide | (simp; done) | (simp; omega) | omega), (by first | decide | (simp; done) | (simp; omega) | omega)⟩ dX5_cls_68 (fun v S2 g2 I2 R2 H locs hp hw _ _ => ?_)
          obtain ⟨rfl, eS2, hg2, eI2, eR2⟩ := hp
          clear hM0
          have k2_xX : S2 xX = some (0, 5) := by rw [eS2]; exact xSk_al a1_xX (by rw [eS1, nu_n _ _ (by simp [xX, xKA, xIA, xPA, xLN, xLR, xK, xSO, xHM, xFT, xLT, xN, xP, xPP, xQ])]; exact hf1) (by rw [eS1, nu_n _ _ (by simp [xX, xKA, xIA, xPA, xLN, xLR, xK, xSO, xHM, xFT, xLT, xN, xP, xPP, xQ])]; exact hf2) (by rw [eS1, nu_n _ _ (by simp [xX, xKA, xIA, xPA, xLN, xLR, xK, xSO, xHM, xFT, xLT, xN, xP, xPP, xQ])]; exact hf3) (by rw [eS1, nu_n _ _ (by simp [xX, xKA, xIA, xPA, xLN, xLR, xK, xSO, xHM, xFT, xLT, xN, xP, xPP, xQ])]; exact hf4)
          have k2_xXg : g2 xX = g xX := (hg2 _ _ a1_xX).trans a1_xXg
          have k2_xXr1 : R2 xX 1 = some xKA := by rw [eR2, xRk_o (by simp [xX, xKA, xIA, xPA, xLN, xLR, xK, xSO, xHM, xFT, xLT, xN, xP, xPP, xQ]) (by simp [xX, xKA, xIA, xPA, xLN, xLR, xK, xSO, xHM, xFT, xLT, xN, xP, xPP, xQ]) (by simp [xX, xKA, xIA, xPA, xLN, xLR, xK, xSO, xHM, xFT, xLT, xN, xP, xPP, xQ]) (by simp [xX, xKA, xIA, xPA, xLN, xLR, xK, xSO, xHM, xFT, xLT, xN, xP, xPP, xQ]) (by simp [xX, xKA, xIA, xPA, xLN, xLR, xK, xSO, xHM, xFT, xLT, xN, xP, xPP, xQ])]; exact a1_xXr1
          have k2_xXr2 : R2 xX 2 = some xIA := by rw [eR2, xRk_o (by simp [xX, xKA, xIA, xPA, xLN, xLR, xK, xSO, xHM, xFT, xLT, xN, xP, xPP, xQ]) (by simp [xX, xKA, xIA, xPA, xLN, xLR, xK, xSO, xHM, xFT, xLT, xN, xP, xPP, xQ]) (by simp [xX, xKA, xIA, xPA, xLN, xLR, xK, xSO, xHM, xFT, xLT, xN, xP, xPP, xQ]) (by simp [xX, xKA, xIA, xPA, xLN, xLR, xK, xSO, xHM, xFT, xLT, xN, xP, xPP, xQ]) (by simp [xX, xKA, xIA, xPA, xLN, xLR, xK, xSO, xHM, xFT, xLT, xN, xP, xPP, xQ])]; exact a1_xXr2
          have k2_xKA : S2 xKA = some (3, 8) := by rw [eS2]; exact xSk_al a1_xKA (by rw [eS1, nu_n _ _ (by simp [xX, xKA, xIA, xPA, xLN, xLR, xK, xSO, xHM, xFT, xLT, xN, xP, xPP, xQ])]; exact hf1) (by rw [eS1, nu_n _ _ (by simp [xX, xKA, xIA, xPA, xLN, xLR, xK, xSO, xHM, xFT, xLT, xN, xP, xPP, xQ])]; exact hf2) (by rw [eS1, nu_n _ _ (by simp [xX, xKA, xIA, xPA, xLN, xLR, xK, xSO, xHM, xFT, xLT, xN, xP, xPP, xQ])]; exact hf3) (by rw [eS1, nu_n _ _ (by simp [xX, xKA, xIA, xPA, xLN, xLR, xK, xSO, xHM, xFT, xLT, xN, xP, xPP, xQ])]; exact hf4)
          have k2_xKAg : g2 xKA = g xKA := (hg2 _ _ a1_xKA).trans a1_xKAg
          have k2_xIA : S2 xIA = some (4, 200) := by rw [eS2]; exact xSk_al a1_xIA (by rw [eS1, nu_n _ _ (by simp [xX, xKA, xIA, xPA, xLN, xLR, xK, xSO, xHM, xFT, xLT, xN, xP, xPP, xQ])]; exact hf1) (by rw [eS1, nu_n _ _ (by simp [xX, xKA, xIA, xPA, xLN, xLR, xK, xSO, xHM, xFT, xLT, xN, xP, xPP, xQ])]; exact hf2) (by rw [eS1, nu_n _ _ (by simp [xX, xKA, xIA, xPA, xLN, xLR, xK, xSO, xHM, xFT, xLT, xN, xP, xPP, xQ])]; exact hf3) (by rw [eS1, nu_n _ _ (by simp [xX, xKA, xIA, xPA, xLN, xLR, xK, xSO, xHM, xFT, xLT, xN, xP, xPP, xQ])]; exact hf4)
          have k2_xIAg : g2 xIA = g xIA := (hg2 _ _ a1_xIA).trans a1_xIAg
          have k2_xK_nk : S2 (xK nk) = some (0, 1) := by rw [eS2]; exact xSk_al b1 (by rw [eS1, nu_n _ _ (by simp [xX, xKA, xIA, xPA, xLN, xLR, xK, xSO, xHM, xFT, xLT, xN, xP, xPP, xQ])]; exact hf1) (by rw [eS1, nu_n _ _ (by simp [xX, xKA, xIA, xPA, xLN, xLR, xK, xSO, xHM, xFT, xLT, xN, xP, xPP, xQ])]; exact hf2) (by rw [eS1, nu_n _ _ (by simp [xX, xKA, xIA, xPA, xLN, xLR, xK, xSO, xHM, xFT, xLT, xN, xP, xPP, xQ])]; exact hf3) (by rw [eS1, nu_n _ _ (by simp [xX, xKA, xIA, xPA, xLN, xLR, xK, xSO, xHM, xFT, xLT, xN, xP, xPP, xQ])]; exact hf4)
          have k2_xK_nkg : g2 (xK nk) = q1 := (hg2 _ _ b1).trans b1g
          show W _ _ _ _ _ _ _ _ _ _ _ _ _ _ _ (F0 m 71 ls [.ref q1, .int (J xX 5), .ref (g xKA)])
          refine ar_st1 hx hb hK hw k2_xKA k2_xKAg (xK nk) k2_xK_nk k2_xK_nkg (ix_of nk hk0 (by rcases Nat.lt_or_ge nk 8 with h | h; exact h; exact absurd c31 (by rw [hk0]; exact nI_nlt (b := 8) h (by omega))) (by decide)) dX5_cls_71 (fun H locs T2 eT2 hw => ?_)
          have u2_xX_1 : T2 xX 1 = some xKA := by rw [eT2, ru_e, if_neg (by simp [xX, xKA, xIA, xPA, xLN, xLR, xK, xSO, xHM, xFT, xLT, xN, xP, xPP, xQ])]; exact k2_xXr1
          have u2_xX_2 : T2 xX 2 = some xIA := by rw [eT2, ru_e, if_neg (by simp [xX, xKA, xIA, xPA, xLN, xLR, xK, xSO, xHM, xFT, xLT, xN, xP, xPP, xQ])]; exact k2_xXr2
          refine lv_aload_n hx hb dX5_cls_72 rfl (lv_at hl 1 rfl) ?_
          refine lv_dup hx hb dX5_cls_73 rfl ?_
          refine fg5 (v := .int (I2 xX 5)) hx hb ht hown hK hw k2_xX k2_xXg 5 wf5_51 (by decide) (by simp [nh_v, im_sk, iu_e, nu, xX, xKA, xIA, xPA, xLN, xLR, xK, xSO, xHM, xFT, xLT, xN, xP, xPP, xQ, eT2]) dX5_cls_74 ?_
          refine lv_iconst (v := 1) hx hb dX5_cls_77 (by decide) ?_
          refine lv_iadd hx hb dX5_cls_78 ?_
          refine fp5 hx hb ht hown hK hw k2_xX k2_xXg 5 wf5_51 (by decide) rfl rfl rfl rfl dX5_cls_79 (fun H locs J2 eJ2 hw => ?_)
          refine lv_iload hx hb dX5_cls_82 (lv_at hl 0 rfl) ?_
          refine nh_iret hx hb hr rfl hlocks hw (by first | decide | (simp; done) | (simp; omega) | omega) (by first | decide | (simp; done) | (simp; omega) | omega) dX5_cls_84 ?_
          have m1 : ∀ m c, S m = some c → S1 m = some c := by rw [eS1]; exact nu_mono (fun _ _ h => h) hf0
          have k1 : xgk S g g2 := xgk_tr (by rw [eg1]; exact xgk_nu (xgk_rf S g) (fun _ _ h => h) hf0) m1 hg2
          refine Or.inr (Or.inr (Or.inr ⟨c8, c19, c31, rfl, ?_, k1, ?_, ?_⟩))
          · rw [eS2, eS1]
          · rw [if_pos c55]
            subst eJ2
            subst eI2
            subst eI1
            simp only [xI_cls, hk0, nI_clamp (show nk < 2 ^ 31 by omega)]
          · subst eT2
            subst eR2
            subst eR1
            rw [hk0, nI_clamp (show nk < 2 ^ 31 by omega)]
      · refine lv_bipush (v := (-4)) hx hb dX5_cls_34 (by decide) ?_
        refine nh_iret hx hb hr rfl hlocks hw (by first | decide | (simp; done) | (simp; omega) | omega) (by first | decide | (simp; done) | (simp; omega) | omega) dX5_cls_36 ?_
        exact Or.inr (Or.inr (Or.inl ⟨c8, c19, c31, rfl, rfl, rfl, rfl, rfl⟩))
    · refine lv_bipush (v := (-2)) hx hb dX5_cls_22 (by decide) ?_
      refine nh_iret hx hb hr rfl hlocks hw (by first | decide | (simp; done) | (simp; omega) | omega) (by first | decide | (simp; done) | (simp; omega) | omega) dX5_cls_24 ?_
      exact Or.inr (Or.inl ⟨c8, c19, rfl, rfl, rfl, rfl, rfl⟩)
def xI_ins (J : nh_N → Nat → Int32) (ni : Nat) (b d : Int32) : nh_N → Nat → Int32 := iu (iu (iu (iu (iu (iu (iu (nu J (xN ni) (fun _ => 0)) (xN ni) 4 (-1)) (xN ni) 5 (-1)) (xN ni) 6 (-1)) (xN ni) 0 (J xX 6)) (xN ni) 2 d) (xN ni) 3 b) xX 6 (iu (iu (iu (iu (iu (iu (nu J (xN ni) (fun _ => 0)) (xN ni) 4 (-1)) (xN ni) 5 (-1)) (xN ni) 6 (-1)) (xN ni) 0 (J xX 6)) (xN ni) 2 d) (xN ni) 3 b xX 6 + 1)
def xinsP (S : nh_N → Option nh_C) (g : nh_N → Nat) (J : nh_N → Nat → Int32) (R : nh_N → Nat → Option nh_N) (nk ni : Nat) (a b d : Int32) : nh_post := fun v S' g' I' R' =>
  (xat nk a = none ∧ xno (-1) S g J R v S' g' I' R') ∨ (∃ j, xat nk a = some j ∧ xf_isWithin J b 1 10000 = 0 ∧ xno (-2) S g J R v S' g' I' R') ∨ (∃ j, xat nk a = some j ∧ ¬ xf_isWithin J b 1 10000 = 0 ∧ xf_isPage J d = 0 ∧ xno (-2) S g J R v S' g' I' R') ∨
  (∃ j, xat nk a = some j ∧ ¬ xf_isWithin J b 1 10000 = 0 ∧ ¬ xf_isPage J d = 0 ∧ ¬ xf_isClosed J d = 0 ∧ xno (-3) S g J R v S' g' I' R') ∨
  (∃ j, xat nk a = some j ∧ ¬ xf_isWithin J b 1 10000 = 0 ∧ ¬ xf_isPage J d = 0 ∧ xf_isClosed J d = 0 ∧ ¬ J xX 6 < 200 ∧ xno (-4) S g J R v S' g' I' R') ∨
  (∃ j, xat nk a = some j ∧ ¬ xf_isWithin J b 1 10000 = 0 ∧ ¬ xf_isPage J d = 0 ∧ xf_isClosed J d = 0 ∧ J xX 6 < 200 ∧ v = some (.int (J xX 6)) ∧ S' = nu S (xN ni) (some (0, 0)) ∧ xgk S g g' ∧ I' = xI_ins J ni b d ∧ R' = ru (ru (nu R (xN ni) (fun _ => none)) (xN ni) 1 (some (xK j))) xIA ni (some (xN ni)))
set_option maxHeartbeats 4000000 in
set_option maxRecDepth 100000 in
theorem cx_insert (l : Launch) (D : va_G) (cA : Nat → ClassId) {S : nh_N → Option nh_C} {g : nh_N → Nat} {J : (nh_N → Nat → Int32)} {R : nh_N → Nat → Option nh_N} (nk ni : Nat) (hX : xXs S R) (hf0 : S (xN ni) = none) (hnk8 : nk ≤ 8) (hKA : ∀ j, j < 8 → R xKA j = if j < nk then some (xK j) else none) (hKs : ∀ k, k < nk → xKs S R k) (a : Int32) (b : Int32) (d : Int32) (hi0 : J xX 6 = nI ni) (hi2 : ni ≤ 200) : im_M l D cA yX5_insert vX5_insert 2 43 1 8 [.ref (g xX), .int a, .int b, .int d] S g J R (xinsP S g J R nk ni a b d) := by
  refine nh_of (cc := cX5_insert) (maxL := 6) (ret := (some .int)) (by decide) rfl (Nat.le_of_ble_eq_true rfl) ?_
  intro p e s m below meth c A ls hx hb hr hml hts hown hlocks hin hK hw hl
  have ht : ∀ w ∈ im_ws, w.before _ s = true := fun w h => hts w (List.mem_cons_of_mem _ h)
  have hl : lv_has ls 6 [(0, .ref (g xX)), (1, .int a), (2, .int b), (3, .int d)] := hl
  refine lv_aload_n hx hb dX5_insert_0 rfl (lv_at hl 0 rfl) ?_
  refine lv_iload_n hx hb dX5_insert_1 rfl (lv_at hl 1 rfl) ?_
  refine kcX5_kindAt (As := [.int a]) (rest := []) wm5_57 (cxf_kindAt l D cA hX a nk hnk8 hKA) hx hb hml ht hown hK hw hX.1 rfl rfl hl.1 rfl (by simp [Value.category]) ⟨by decide, by decide⟩ ⟨(by first | decide | (simp; done) | (simp; omega) | omega), (by first | decide | (simp; done) | (simp; omega) | omega)⟩ dX5_insert_2 (fun v S1 g1 I1 R1 H locs hp hw => ?_)
  obtain ⟨rfl, h1, h2, h3, h4⟩ := hp
  rw [h1, h2, h3, h4] at hw
  clear h1 h2 h3 h4
  rcases ho2 : xat nk a with _ | j1
  · skip
    show W _ _ _ _ _ _ _ _ _ _ _ _ _ _ _ (F0 m 5 ls [.null])
    refine lv_astoreN (lv' := [(4, .null), (0, .ref (g xX)), (1, .int a), (2, .int b), (3, .int d)]) hx hb dX5_insert_5 hl (by decide) rfl (fun ls hl => ?_)
    refine lv_aloadN hx hb dX5_insert_7 (lv_at hl 0 rfl) ?_
    refine lv_ifnonnullN hx hb dX5_insert_9 ?_
    refine lv_iconst (v := (-1)) hx hb dX5_insert_12 (by decide) ?_
    refine nh_iret hx hb hr rfl hlocks hw (by first | decide | (simp; done) | (simp; omega) | omega) (by first | decide | (simp; done) | (simp; omega) | omega) dX5_insert_13 ?_
    exact Or.inl ⟨ho2, rfl, rfl, rfl, rfl, rfl⟩
  · obtain ⟨ej1, hj1⟩ := xat_some ho2 (Nat.lt_of_le_of_lt hnk8 (by decide))
    have hk1 := hKs j1 hj1
    show W _ _ _ _ _ _ _ _ _ _ _ _ _ _ _ (F0 m 5 ls [.ref (g (xK j1))])
    refine lv_astore (lv' := [(4, .ref (g (xK j1))), (0, .ref (g xX)), (1, .int a), (2, .int b), (3, .int d)]) hx hb dX5_insert_5 hl (by decide) rfl (fun ls hl => ?_)
    refine lv_aload hx hb dX5_insert_7 (lv_at hl 0 rfl) ?_
    refine lv_ifnonnull (tgt := 14) hx hb dX5_insert_9 (by decide) ?_
    refine lv_iload_n hx hb dX5_insert_14 rfl (lv_at hl 3 rfl) ?_
    refine lv_iconst (v := 1) hx hb dX5_insert_15 (by decide) ?_
    refine lv_sipush (v := 10000) hx hb dX5_insert_16 (by decide) ?_
    refine kcX5_isWithin (As := [.int b, .int 1, .int 10000]) (rest := []) wm5_47 (cxf_isWithin l D cA b 1 10000) hx hb hml ht hown hK hw rfl hl.1 rfl (by simp [Value.category]) ⟨by decide, by decide⟩ ⟨(by first | decide | (simp; done) | (simp; omega) | omega), (by first | decide | (simp; done) | (simp; omega) | omega)⟩ dX5_insert_19 (fun v S1 g1 I1 R1 H locs hp hw => ?_)
    obtain ⟨rfl, h1, h2, h3, h4⟩ := hp
    rw [h1, h2, h3, h4] at hw
    clear h1 h2 h3 h4
    show W _ _ _ _ _ _ _ _ _ _ _ _ _ _ _ (F0 m 22 ls [.int (xf_isWithin J b 1 10000)])
    refine lv_if_eq (tgt := 32) hx hb dX5_insert_22 (by decide) (fun c22 => ?_) (fun c22 => ?_)
    · refine lv_bipush (v := (-2)) hx hb dX5_insert_32 (by decide) ?_
      refine nh_iret hx hb hr rfl hlocks hw (by first | decide | (simp; done) | (simp; omega) | omega) (by first | decide | (simp; done) | (simp; omega) | omega) dX5_insert_34 ?_
      exact Or.inr (Or.inl ⟨j1, ho2, c22, rfl, rfl, rfl, rfl, rfl⟩)
    · refine lv_iload_n hx hb dX5_insert_25 rfl (lv_at hl 4 rfl) ?_
      refine kcX5_isPage (As := [.int d]) (rest := []) wm5_61 (cxf_isPage l D cA d) hx hb hml ht hown hK hw rfl hl.1 rfl (by simp [Value.category]) ⟨by decide, by decide⟩ ⟨(by first | decide | (simp; done) | (simp; omega) | omega), (by first | decide | (simp; done) | (simp; omega) | omega)⟩ dX5_insert_26 (fun v S1 g1 I1 R1 H locs hp hw => ?_)
      obtain ⟨rfl, h1, h2, h3, h4⟩ := hp
      rw [h1, h2, h3, h4] at hw
      clear h1 h2 h3 h4
      show W _ _ _ _ _ _ _ _ _ _ _ _ _ _ _ (F0 m 29 ls [.int (xf_isPage J d)])
      refine lv_if_ne (tgt := 35) hx hb dX5_insert_29 (by decide) (fun c29 => ?_) (fun c29 => ?_)
      · refine lv_aload_n hx hb dX5_insert_35 rfl (lv_at hl 1 rfl) ?_
        refine lv_iload_n hx hb dX5_insert_36 rfl (lv_at hl 4 rfl) ?_
        refine kcX5_isClosed (As := [.int d]) (rest := []) wm5_65 (cxf_isClosed l D cA hX d) hx hb hml ht hown hK hw hX.1 rfl rfl hl.1 rfl (by simp [Value.category]) ⟨by decide, by decide⟩ ⟨(by first | decide | (simp; done) | (simp; omega) | omega), (by first | decide | (simp; done) | (simp; omega) | omega)⟩ dX5_insert_37 (fun v S1 g1 I1 R1 H locs hp hw => ?_)
        obtain ⟨rfl, h1, h2, h3, h4⟩ := hp
        rw [h1, h2, h3, h4] at hw
        clear h1 h2 h3 h4
        show W _ _ _ _ _ _ _ _ _ _ _ _ _ _ _ (F0 m 40 ls [.int (xf_isClosed J d)])
        refine lv_if_eq (tgt := 46) hx hb dX5_insert_40 (by decide) (fun c40 => ?_) (fun c40 => ?_)
        · refine lv_aload_n hx hb dX5_insert_46 rfl (lv_at hl 1 rfl) ?_
          refine fg5 (v := .int (J xX 6)) hx hb ht hown hK hw hX.1 rfl 6 wf5_68 (by decide) (nh_vi rfl) dX5_insert_47 ?_
          refine lv_sipush (v := 200) hx hb dX5_insert_50 (by decide) ?_
          refine lv_icmp_lt (tgt := 59) hx hb dX5_insert_53 (by decide) (fun c53 => ?_) (fun c53 => ?_)
          · refine lv_aload_n hx hb dX5_insert_59 rfl (lv_at hl 1 rfl) ?_
            refine fg5 (v := .int (J xX 6)) hx hb ht hown hK hw hX.1 rfl 6 wf5_68 (by decide) (nh_vi rfl) dX5_insert_60 ?_
            refine lv_istore (lv' := [(5, .int (J xX 6)), (4, .ref (g (xK j1))), (0, .ref (g xX)), (1, .int a), (2, .int b), (3, .int d)]) hx hb dX5_insert_63 hl (by decide) rfl (fun ls hl => ?_)
            refine lv_aload_n hx hb dX5_insert_65 rfl (lv_at hl 2 rfl) ?_
            refine fg5 (v := .ref (g xIA)) hx hb ht hown hK hw hX.1 rfl 2 wf5_17 (by decide) (nh_vr rfl hX.2.2.2.1) dX5_insert_66 ?_
            refine lv_iload hx hb dX5_insert_69 (lv_at hl 0 rfl) ?_
            refine fn0 (xN ni) hx hb ht hown hK hw hf0 wl5_15 (by first | decide | (simp; done) | (simp; omega) | omega) (by first | decide | (simp; done) | (simp; omega) | omega) dX5_insert_71 (fun q1 H S1 g1 I1 R1 eS1 eg1 eI1 eR1 hw => ?_)
            have a1_xX : S1 xX = some (0, 5) := by rw [eS1]; exact nu_al hX.1 hf0
            have a1_xXg : g1 xX = g xX := by rw [eg1]; exact (nu_gl hX.1 hf0).trans rfl
            have a1_xXr1 : R1 xX 1 = some xKA := by rw [eR1, nu_gl hX.1 hf0]; exact hX.2.1
            have a1_xXr2 : R1 xX 2 = some xIA := by rw [eR1, nu_gl hX.1 hf0]; exact hX.2.2.2.1
            have a1_xKA : S1 xKA = some (3, 8) := by rw [eS1]; exact nu_al hX.2.2.1 hf0
            have a1_xKAg : g1 xKA = g xKA := by rw [eg1]; exact (nu_gl hX.2.2.1 hf0).trans rfl
            have a1_xIA : S1 xIA = some (4, 200) := by rw [eS1]; exact nu_al hX.2.2.2.2.1 hf0
            have a1_xIAg : g1 xIA = g xIA := by rw [eg1]; exact (nu_gl hX.2.2.2.2.1 hf0).trans rfl
            have a1_xK_j1 : S1 (xK j1) = some (0, 1) := by rw [eS1]; exact nu_al hk1.1 hf0
            have a1_xK_j1g : g1 (xK j1) = g (xK j1) := by rw [eg1]; exact (nu_gl hk1.1 hf0).trans rfl
            have b1 : S1 (xN ni) = some (0, 0) := by rw [eS1]; exact nu_s _ _ _
            have b1g : g1 (xN ni) = q1 := by rw [eg1]; exact nu_s _ _ _
            refine lv_dup hx hb dX5_insert_74 rfl ?_
            refine lv_iload hx hb dX5_insert_75 (lv_at hl 0 rfl) ?_
            refine lv_aload hx hb dX5_insert_77 (lv_at hl 1 rfl) ?_
            refine lv_iload_n hx hb dX5_insert_79 rfl (lv_at hl 4 rfl) ?_
            refine lv_iload_n hx hb dX5_insert_80 rfl (lv_at hl 5 rfl) ?_
            have hM0 := (cxn_Insert l D cA (S := S1) (g := g1) (J := I1) (R := R1) ni j1 b1 a1_xK_j1 (J xX 6) b d)
            rw [show g1 (xN ni) = q1 from b1g, show g1 (xK j1) = g (xK j1) from a1_xK_j1g] at hM0
            refine kcX0_init (As := [.int (J xX 6), .ref (g (xK j1)), .int b, .int d]) (rest := [.ref q1, .int (J xX 6), .ref (g xIA)]) wm5_71 hM0 hx hb hml ht hown hK hw rfl hl.1 rfl (by simp [Value.category]) ⟨(by first | decide | (simp; done) | (simp; omega) | omega), (by first | decide | (simp; done) | (simp; omega) | omega)⟩ ⟨(by first | decide | (simp; done) | (simp; omega) | omega), (by first | decide | (simp; done) | (simp; omega) | omega)⟩ dX5_insert_81 (fun v S0 g0 J1 T1 H locs hp hw _ _ => ?_)
            obtain ⟨rfl, h1, h2, eJ1, eT1⟩ := hp
            rw [h1, h2] at hw
            clear h1 h2 hM0
            have u1_xX_1 : T1 xX 1 = some xKA := by rw [eT1, ru_e, if_neg (by simp [xX, xKA, xIA, xPA, xLN, xLR, xK, xSO, xHM, xFT, xLT, xN, xP, xPP, xQ])]; exact a1_xXr1
            have u1_xX_2 : T1 xX 2 = some xIA := by rw [eT1, ru_e, if_neg (by simp [xX, xKA, xIA, xPA, xLN, xLR, xK, xSO, xHM, xFT, xLT, xN, xP, xPP, xQ])]; exact a1_xXr2
            have u1_new : T1 (xN ni) 1 = some (xK j1) := by rw [eT1, ru_e]; simp
            show W _ _ _ _ _ _ _ _ _ _ _ _ _ _ _ (F0 m 84 ls [.ref q1, .int (J xX 6), .ref (g xIA)])
            refine ar_st0 hx hb hK hw a1_xIA a1_xIAg (xN ni) b1 b1g (ix_of ni hi0 (by rcases Nat.lt_or_ge ni 200 with h | h; exact h; exact absurd c53 (by rw [hi0]; exact nI_nlt (b := 200) h (by omega))) (by decide)) dX5_insert_84 (fun H locs T2 eT2 hw => ?_)
            have u2_xX_1 : T2 xX 1 = some xKA := by rw [eT2, ru_e, if_neg (by simp [xX, xKA, xIA, xPA, xLN, xLR, xK, xSO, xHM, xFT, xLT, xN, xP, xPP, xQ])]; exact u1_xX_1
            have u2_xX_2 : T2 xX 2 = some xIA := by rw [eT2, ru_e, if_neg (by simp [xX, xKA, xIA, xPA, xLN, xLR, xK, xSO, xHM, xFT, xLT, xN, xP, xPP, xQ])]; exact u1_xX_2
            have u2_xN_ni_1 : T2 (xN ni) 1 = some (xK j1) := by rw [eT2, ru_e, if_neg (by simp [xX, xKA, xIA, xPA, xLN, xLR, xK, xSO, xHM, xFT, xLT, xN, xP, xPP, xQ])]; exact u1_new
            refine lv_aload_n hx hb dX5_insert_85 rfl (lv_at hl 2 rfl) ?_
            refine lv_dup hx hb dX5_insert_86 rfl ?_
            refine fg5 (v := .int (J1 xX 6)) hx hb ht hown hK hw a1_xX a1_xXg 6 wf5_68 (by decide) (by simp [nh_v, im_sk, iu_e, nu, xX, xKA, xIA, xPA, xLN, xLR, xK, xSO, xHM, xFT, xLT, xN, xP, xPP, xQ, eT2]) dX5_insert_87 ?_
            refine lv_iconst (v := 1) hx hb dX5_insert_90 (by decide) ?_
            refine lv_iadd hx hb dX5_insert_91 ?_
            refine fp5 hx hb ht hown hK hw a1_xX a1_xXg 6 wf5_68 (by decide) rfl rfl rfl rfl dX5_insert_92 (fun H locs J2 eJ2 hw => ?_)
            refine lv_iload hx hb dX5_insert_95 (lv_at hl 0 rfl) ?_
            refine nh_iret hx hb hr rfl hlocks hw (by first | decide | (simp; done) | (simp; omega) | omega) (by first | decide | (simp; done) | (simp; omega) | omega) dX5_insert_97 ?_
            refine Or.inr (Or.inr (Or.inr (Or.inr (Or.inr ⟨j1, ho2, c22, c29, c40, c53, rfl, eS1, by rw [eg1]; exact xgk_nu (xgk_rf S g) (fun _ _ h => h) hf0, ?_, ?_⟩))))
            · subst eJ2
              subst eJ1
              subst eI1
              rfl
            · subst eT2
              subst eT1
              subst eR1
              rw [hi0, nI_clamp (show ni < 2 ^ 31 by omega)]
          · refine lv_bipush (v := (-4)) hx hb dX5_insert_56 (by decide) ?_
            refine nh_iret hx hb hr rfl hlocks hw (by first | decide | (simp; done) | (simp; omega) | omega) (by first | decide | (simp; done) | (simp; omega) | omega) dX5_insert_58 ?_
            exact Or.inr (Or.inr (Or.inr (Or.inr (Or.inl ⟨j1, ho2, c22, c29, c40, c53, rfl, rfl, rfl, rfl, rfl⟩))))
        · refine lv_bipush (v := (-3)) hx hb dX5_insert_43 (by decide) ?_
          refine nh_iret hx hb hr rfl hlocks hw (by first | decide | (simp; done) | (simp; omega) | omega) (by first | decide | (simp; done) | (simp; omega) | omega) dX5_insert_45 ?_
          exact Or.inr (Or.inr (Or.inr (Or.inl ⟨j1, ho2, c22, c29, c40, rfl, rfl, rfl, rfl, rfl⟩)))
      · refine lv_bipush (v := (-2)) hx hb dX5_insert_32 (by decide) ?_
        refine nh_iret hx hb hr rfl hlocks hw (by first | decide | (simp; done) | (simp; omega) | omega) (by first | decide | (simp; done) | (simp; omega) | omega) dX5_insert_34 ?_
        exact Or.inr (Or.inr (Or.inl ⟨j1, ho2, c22, c29, rfl, rfl, rfl, rfl, rfl⟩))
