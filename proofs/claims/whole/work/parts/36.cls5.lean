theorem xpl_h (J : nh_N → Nat → Int32) (q c0 i k : Nat) (a d : Int32) : xI_place J q c0 i k a d (xK k) 8 = J (xK k) 8 := by
  unfold xI_place xf_addPart xf_nextNumber
  split <;> simp [iu_e, nu, xX, xKA, xIA, xPA, xLN, xLR, xK, xSO, xHM, xFT, xLT, xN, xP, xPP, xQ]
theorem xR_pl_o {R : nh_N → Nat → Option nh_N} {q c0 i : Nat} {m : nh_N} {j : Nat} (h1 : m ≠ xQ q c0) (h2 : m ≠ xPP q) : xR_place R q c0 i m j = R m j := by
  unfold xR_place
  rw [ru_e, if_neg (fun w => h2 w.1), ru_e, if_neg (fun w => h1 w.1), nu_n _ _ h1]
/-- nothing was made -/
def xno (v0 : Int32) (S : nh_N → Option nh_C) (g : nh_N → Nat) (I0 : nh_N → Nat → Int32) (R : nh_N → Nat → Option nh_N) : nh_post := fun v S' g' I' R' => v = some (.int v0) ∧ S' = S ∧ g' = g ∧ I' = I0 ∧ R' = R
/-- one part was made: the part c0 of page q, of insert i -/
def xpl (v0 : Int32) (S : nh_N → Option nh_C) (g : nh_N → Nat) (I0 : nh_N → Nat → Int32) (R : nh_N → Nat → Option nh_N) (q c0 i : Nat) : nh_post := fun v S' g' I' R' => v = some (.int v0) ∧ S' = nu S (xQ q c0) (some (0, 4)) ∧ xgk S g g' ∧ I' = I0 ∧ R' = xR_place R q c0 i
def xgoP (S : nh_N → Option nh_C) (g : nh_N → Nat) (J : nh_N → Nat → Int32) (R : nh_N → Nat → Option nh_N) (q c0 i k : Nat) : nh_post := fun v S' g' I' R' =>
  (¬ J (xK k) 8 = 0 ∧ xno 1 S g J R v S' g' I' R') ∨ (J (xK k) 8 = 0 ∧ ¬ xf_freeOn J q k < J (xN i) 3 ∧ xpl 0 S g (xI_place J q c0 i k (J (xN i) 3) 0) R q c0 i v S' g' I' R') ∨
  (J (xK k) 8 = 0 ∧ xf_freeOn J q k < J (xN i) 3 ∧ ¬ xf_mayCut J k (J (xN i) 3) (xf_freeOn J q k) = 0 ∧ xpl 1 S g (iu (xI_place J q c0 i k (xf_freeOn J q k) 0) (xK k) 8 1) R q c0 i v S' g' I' R') ∨
  (J (xK k) 8 = 0 ∧ xf_freeOn J q k < J (xN i) 3 ∧ xf_mayCut J k (J (xN i) 3) (xf_freeOn J q k) = 0 ∧ J (xP q) 3 = 0 ∧ xpl 0 S g (xI_place J q c0 i k (J (xN i) 3) 1) R q c0 i v S' g' I' R') ∨
  (J (xK k) 8 = 0 ∧ xf_freeOn J q k < J (xN i) 3 ∧ xf_mayCut J k (J (xN i) 3) (xf_freeOn J q k) = 0 ∧ ¬ J (xP q) 3 = 0 ∧ xno 1 S g (iu J (xK k) 8 1) R v S' g' I' R')
set_option maxHeartbeats 4000000 in
set_option maxRecDepth 100000 in
theorem cx_goThrough (l : Launch) (D : va_G) (cA : Nat → ClassId) {S : nh_N → Option nh_C} {g : nh_N → Nat} {J : (nh_N → Nat → Int32)} {R : nh_N → Nat → Option nh_N} (q n i k c0 : Nat) (hX : xXs S R) (hp0 : xPs S R q n) (hn : xNs S R i k) (hk : xKs S R k) (hfq : S (xQ q c0) = none)  (hc0 : J (xP q) 2 = nI c0) (hcn : c0 < n) (hn2 : n ≤ 200) (hq0 : J (xP q) 0 = nI q) (hq4 : q < 40) : im_M l D cA yX5_goThrough vX5_goThrough 3 65 1 3 [.ref (g xX), .ref (g (xP q)), .ref (g (xN i))] S g J R (xgoP S g J R q c0 i k) := by
  refine nh_of (cc := cX5_goThrough) (maxL := 5) (ret := (some .boolean)) (by decide) rfl (Nat.le_of_ble_eq_true rfl) ?_
  intro p e s m below meth c A ls hx hb hr hml hts hown hlocks hin hK hw hl
  have ht : ∀ w ∈ im_ws, w.before _ s = true := fun w h => hts w (List.mem_cons_of_mem _ h)
  have hl : lv_has ls 5 [(0, .ref (g xX)), (1, .ref (g (xP q))), (2, .ref (g (xN i)))] := hl
  refine lv_aload_n hx hb dX5_goThrough_0 rfl (lv_at hl 2 rfl) ?_
  refine fg0 (v := .ref (g (xK k))) hx hb ht hown hK hw hn.1 rfl 1 wf5_189 (by decide) (nh_vr rfl hn.2) dX5_goThrough_1 ?_
  refine lv_astore_n (lv' := [(3, .ref (g (xK k))), (0, .ref (g xX)), (1, .ref (g (xP q))), (2, .ref (g (xN i)))]) hx hb dX5_goThrough_4 rfl hl (by decide) rfl (fun ls hl => ?_)
  refine lv_aload_n hx hb dX5_goThrough_5 rfl (lv_at hl 0 rfl) ?_
  refine fg1 (v := .int (J (xK k) 8)) hx hb ht hown hK hw hk.1 rfl 8 wf5_193 (by decide) (nh_vi rfl) dX5_goThrough_6 ?_
  refine lv_if_eq (tgt := 14) hx hb dX5_goThrough_9 (by decide) (fun c9 => ?_) (fun c9 => ?_)
  · refine lv_aload_n hx hb dX5_goThrough_14 rfl (lv_at hl 1 rfl) ?_
    refine lv_aload_n hx hb dX5_goThrough_15 rfl (lv_at hl 2 rfl) ?_
    refine lv_aload_n hx hb dX5_goThrough_16 rfl (lv_at hl 0 rfl) ?_
    refine kcX5_freeOn (As := [.ref (g (xP q)), .ref (g (xK k))]) (rest := []) wm5_196 (cxf_freeOn l D cA q k hX hp0 hk hq0 hq4) hx hb hml ht hown hK hw hX.1 rfl rfl hl.1 rfl (by simp [Value.category]) ⟨by decide, by decide⟩ ⟨by simp, by simp⟩ dX5_goThrough_17 (fun v S1 g1 I1 R1 H locs hp hw => ?_)
    obtain ⟨rfl, h1, h2, h3, h4⟩ := hp
    rw [h1, h2, h3, h4] at hw
    clear h1 h2 h3 h4
    show W _ _ _ _ _ _ _ _ _ _ _ _ _ _ _ (F0 m 20 ls [.int (xf_freeOn J q k)])
    refine lv_istore (lv' := [(4, .int (xf_freeOn J q k)), (3, .ref (g (xK k))), (0, .ref (g xX)), (1, .ref (g (xP q))), (2, .ref (g (xN i)))]) hx hb dX5_goThrough_20 hl (by decide) rfl (fun ls hl => ?_)
    refine lv_aload_n hx hb dX5_goThrough_22 rfl (lv_at hl 4 rfl) ?_
    refine fg0 (v := .int (J (xN i) 3)) hx hb ht hown hK hw hn.1 rfl 3 wf5_102 (by decide) (nh_vi rfl) dX5_goThrough_23 ?_
    refine lv_iload hx hb dX5_goThrough_26 (lv_at hl 0 rfl) ?_
    refine lv_icmp_gt (tgt := 44) hx hb dX5_goThrough_28 (by decide) (fun c28 => ?_) (fun c28 => ?_)
    · refine lv_aload_n hx hb dX5_goThrough_44 rfl (lv_at hl 1 rfl) ?_
      refine lv_aload_n hx hb dX5_goThrough_45 rfl (lv_at hl 4 rfl) ?_
      refine fg0 (v := .int (J (xN i) 3)) hx hb ht hown hK hw hn.1 rfl 3 wf5_102 (by decide) (nh_vi rfl) dX5_goThrough_46 ?_
      refine lv_iload hx hb dX5_goThrough_49 (lv_at hl 0 rfl) ?_
      refine kcX1_mayCut (As := [.int (J (xN i) 3), .int (xf_freeOn J q k)]) (rest := []) wm5_204 (cxf_mayCut l D cA k hk (J (xN i) 3) (xf_freeOn J q k)) hx hb hml ht hown hK hw hk.1 rfl rfl hl.1 rfl (by simp [Value.category]) ⟨by decide, by decide⟩ ⟨by simp, by simp⟩ dX5_goThrough_51 (fun v S1 g1 I1 R1 H locs hp hw => ?_)
      obtain ⟨rfl, h1, h2, h3, h4⟩ := hp
      rw [h1, h2, h3, h4] at hw
      clear h1 h2 h3 h4
      show W _ _ _ _ _ _ _ _ _ _ _ _ _ _ _ (F0 m 54 ls [.int (xf_mayCut J k (J (xN i) 3) (xf_freeOn J q k))])
      refine lv_if_eq (tgt := 73) hx hb dX5_goThrough_54 (by decide) (fun c54 => ?_) (fun c54 => ?_)
      · refine lv_aload_n hx hb dX5_goThrough_73 rfl (lv_at hl 3 rfl) ?_
        refine fg3 (v := .int (J (xP q) 3)) hx hb ht hown hK hw hp0.1 rfl 3 wf5_150 (by decide) (nh_vi rfl) dX5_goThrough_74 ?_
        refine lv_if_ne (tgt := 93) hx hb dX5_goThrough_77 (by decide) (fun c77 => ?_) (fun c77 => ?_)
        · refine lv_aload_n hx hb dX5_goThrough_93 rfl (lv_at hl 1 rfl) ?_
          refine lv_iconst (v := 1) hx hb dX5_goThrough_94 (by decide) ?_
          refine fp1 hx hb ht hown hK hw hk.1 rfl 8 wf5_193 (by decide) rfl rfl rfl rfl dX5_goThrough_95 (fun H locs J1 eJ1 hw => ?_)
          refine lv_aload_n hx hb dX5_goThrough_98 rfl (lv_at hl 1 rfl) ?_
          refine fg1 (v := .int 1) hx hb ht hown hK hw hk.1 rfl 8 wf5_193 (by decide) (by simp [nh_v, im_sk, iu_e, xX, xKA, xIA, xPA, xLN, xLR, xK, xSO, xHM, xFT, xLT, xN, xP, xPP, xQ, eJ1]) dX5_goThrough_99 ?_
          refine nh_iret hx hb hr rfl hlocks hw (by first | decide | (simp; done) | (simp; omega) | omega) (by first | decide | (simp; done) | (simp; omega) | omega) dX5_goThrough_102 ?_
          subst eJ1
          exact Or.inr (Or.inr (Or.inr (Or.inr ⟨c9, c28, c54, c77, rfl, rfl, rfl, rfl, rfl⟩)))
        · refine lv_aload_n hx hb dX5_goThrough_80 rfl (lv_at hl 3 rfl) ?_
          refine lv_aload_n hx hb dX5_goThrough_81 rfl (lv_at hl 4 rfl) ?_
          refine lv_aload_n hx hb dX5_goThrough_82 rfl (lv_at hl 4 rfl) ?_
          refine fg0 (v := .int (J (xN i) 3)) hx hb ht hown hK hw hn.1 rfl 3 wf5_102 (by decide) (nh_vi rfl) dX5_goThrough_83 ?_
          refine lv_iconst (v := 1) hx hb dX5_goThrough_86 (by decide) ?_
          refine kcX3_place (As := [.ref (g (xN i)), .int (J (xN i) 3), .int 1]) (rest := []) wm5_200 (cx_place l D cA q n i k c0 hp0 hn hk hfq (J (xN i) 3) 1 hc0 hcn hn2 hq0 hq4 (by simp)) hx hb hml ht hown hK hw hp0.1 rfl rfl hl.1 rfl (by simp [Value.category]) ⟨by decide, by decide⟩ ⟨(by first | decide | (simp; done) | (simp; omega) | omega), (by first | decide | (simp; done) | (simp; omega) | omega)⟩ dX5_goThrough_87 (fun v S1 g1 I1 R1 H locs hp hw => ?_)
          obtain ⟨rfl, eS1, hg1, eI1, eR1⟩ := hp
          have a1_xX : S1 xX = some (0, 5) := by rw [eS1]; exact nu_al hX.1 hfq
          have a1_xXg : g1 xX = g xX := hg1 _ _ hX.1
          have a1_xP_q : S1 (xP q) = some (0, 3) := by rw [eS1]; exact nu_al hp0.1 hfq
          have a1_xP_qg : g1 (xP q) = g (xP q) := hg1 _ _ hp0.1
          have a1_xP_qr1 : R1 (xP q) 1 = some (xPP q) := by rw [eR1, xR_pl_o (by simp [xX, xKA, xIA, xPA, xLN, xLR, xK, xSO, xHM, xFT, xLT, xN, xP, xPP, xQ]) (by simp [xX, xKA, xIA, xPA, xLN, xLR, xK, xSO, xHM, xFT, xLT, xN, xP, xPP, xQ])]; exact hp0.2.1
          have a1_xN_i : S1 (xN i) = some (0, 0) := by rw [eS1]; exact nu_al hn.1 hfq
          have a1_xN_ig : g1 (xN i) = g (xN i) := hg1 _ _ hn.1
          have a1_xN_ir1 : R1 (xN i) 1 = some (xK k) := by rw [eR1, xR_pl_o (by simp [xX, xKA, xIA, xPA, xLN, xLR, xK, xSO, xHM, xFT, xLT, xN, xP, xPP, xQ]) (by simp [xX, xKA, xIA, xPA, xLN, xLR, xK, xSO, xHM, xFT, xLT, xN, xP, xPP, xQ])]; exact hn.2
          have a1_xK_k : S1 (xK k) = some (0, 1) := by rw [eS1]; exact nu_al hk.1 hfq
          have a1_xK_kg : g1 (xK k) = g (xK k) := hg1 _ _ hk.1
          have a1_xPP_q : S1 (xPP q) = some (6, n) := by rw [eS1]; exact nu_al hp0.2.2 hfq
          have a1_xPP_qg : g1 (xPP q) = g (xPP q) := hg1 _ _ hp0.2.2
          have hh0 : I1 (xK k) 8 = 0 := by rw [eI1, xpl_h]; exact c9
          show W _ _ _ _ _ _ _ _ _ _ _ _ _ _ _ (F0 m 90 ls [])
          refine lv_goto (tgt := 98) hx hb dX5_goThrough_90 (by decide) ?_
          refine lv_aload_n hx hb dX5_goThrough_98 rfl (lv_at hl 1 rfl) ?_
          refine fg1 (v := .int (I1 (xK k) 8)) hx hb ht hown hK hw a1_xK_k a1_xK_kg 8 wf5_193 (by decide) (nh_vi rfl) dX5_goThrough_99 ?_
          rw [hh0]
          refine nh_iret hx hb hr rfl hlocks hw (by first | decide | (simp; done) | (simp; omega) | omega) (by first | decide | (simp; done) | (simp; omega) | omega) dX5_goThrough_102 ?_
          exact Or.inr (Or.inr (Or.inr (Or.inl ⟨c9, c28, c54, c77, rfl, eS1, hg1, eI1, eR1⟩)))
      · refine lv_aload_n hx hb dX5_goThrough_57 rfl (lv_at hl 3 rfl) ?_
        refine lv_aload_n hx hb dX5_goThrough_58 rfl (lv_at hl 4 rfl) ?_
        refine lv_iload hx hb dX5_goThrough_59 (lv_at hl 0 rfl) ?_
        refine lv_iconst (v := 0) hx hb dX5_goThrough_61 (by decide) ?_
        refine kcX3_place (As := [.ref (g (xN i)), .int (xf_freeOn J q k), .int 0]) (rest := []) wm5_200 (cx_place l D cA q n i k c0 hp0 hn hk hfq (xf_freeOn J q k) 0 hc0 hcn hn2 hq0 hq4 (by simp)) hx hb hml ht hown hK hw hp0.1 rfl rfl hl.1 rfl (by simp [Value.category]) ⟨by decide, by decide⟩ ⟨(by first | decide | (simp; done) | (simp; omega) | omega), (by first | decide | (simp; done) | (simp; omega) | omega)⟩ dX5_goThrough_62 (fun v S1 g1 I1 R1 H locs hp hw => ?_)
        obtain ⟨rfl, eS1, hg1, eI1, eR1⟩ := hp
        have a1_xX : S1 xX = some (0, 5) := by rw [eS1]; exact nu_al hX.1 hfq
        have a1_xXg : g1 xX = g xX := hg1 _ _ hX.1
        have a1_xP_q : S1 (xP q) = some (0, 3) := by rw [eS1]; exact nu_al hp0.1 hfq
        have a1_xP_qg : g1 (xP q) = g (xP q) := hg1 _ _ hp0.1
        have a1_xP_qr1 : R1 (xP q) 1 = some (xPP q) := by rw [eR1, xR_pl_o (by simp [xX, xKA, xIA, xPA, xLN, xLR, xK, xSO, xHM, xFT, xLT, xN, xP, xPP, xQ]) (by simp [xX, xKA, xIA, xPA, xLN, xLR, xK, xSO, xHM, xFT, xLT, xN, xP, xPP, xQ])]; exact hp0.2.1
        have a1_xN_i : S1 (xN i) = some (0, 0) := by rw [eS1]; exact nu_al hn.1 hfq
        have a1_xN_ig : g1 (xN i) = g (xN i) := hg1 _ _ hn.1
        have a1_xN_ir1 : R1 (xN i) 1 = some (xK k) := by rw [eR1, xR_pl_o (by simp [xX, xKA, xIA, xPA, xLN, xLR, xK, xSO, xHM, xFT, xLT, xN, xP, xPP, xQ]) (by simp [xX, xKA, xIA, xPA, xLN, xLR, xK, xSO, xHM, xFT, xLT, xN, xP, xPP, xQ])]; exact hn.2
        have a1_xK_k : S1 (xK k) = some (0, 1) := by rw [eS1]; exact nu_al hk.1 hfq
        have a1_xK_kg : g1 (xK k) = g (xK k) := hg1 _ _ hk.1
        have a1_xPP_q : S1 (xPP q) = some (6, n) := by rw [eS1]; exact nu_al hp0.2.2 hfq
        have a1_xPP_qg : g1 (xPP q) = g (xPP q) := hg1 _ _ hp0.2.2
        have hh0 : I1 (xK k) 8 = 0 := by rw [eI1, xpl_h]; exact c9
        show W _ _ _ _ _ _ _ _ _ _ _ _ _ _ _ (F0 m 65 ls [])
        refine lv_aload_n hx hb dX5_goThrough_65 rfl (lv_at hl 1 rfl) ?_
        refine lv_iconst (v := 1) hx hb dX5_goThrough_66 (by decide) ?_
        refine fp1 hx hb ht hown hK hw a1_xK_k a1_xK_kg 8 wf5_193 (by decide) rfl rfl rfl rfl dX5_goThrough_67 (fun H locs J2 eJ2 hw => ?_)
        refine lv_goto (tgt := 98) hx hb dX5_goThrough_70 (by decide) ?_
        refine lv_aload_n hx hb dX5_goThrough_98 rfl (lv_at hl 1 rfl) ?_
        refine fg1 (v := .int 1) hx hb ht hown hK hw a1_xK_k a1_xK_kg 8 wf5_193 (by decide) (by simp [nh_v, im_sk, iu_e, xX, xKA, xIA, xPA, xLN, xLR, xK, xSO, xHM, xFT, xLT, xN, xP, xPP, xQ, eJ2]) dX5_goThrough_99 ?_
        refine nh_iret hx hb hr rfl hlocks hw (by first | decide | (simp; done) | (simp; omega) | omega) (by first | decide | (simp; done) | (simp; omega) | omega) dX5_goThrough_102 ?_
        subst eJ2
        subst eI1
        exact Or.inr (Or.inr (Or.inl ⟨c9, c28, c54, rfl, eS1, hg1, rfl, eR1⟩))
    · refine lv_aload_n hx hb dX5_goThrough_31 rfl (lv_at hl 3 rfl) ?_
      refine lv_aload_n hx hb dX5_goThrough_32 rfl (lv_at hl 4 rfl) ?_
      refine lv_aload_n hx hb dX5_goThrough_33 rfl (lv_at hl 4 rfl) ?_
      refine fg0 (v := .int (J (xN i) 3)) hx hb ht hown hK hw hn.1 rfl 3 wf5_102 (by decide) (nh_vi rfl) dX5_goThrough_34 ?_
      refine lv_iconst (v := 0) hx hb dX5_goThrough_37 (by decide) ?_
      refine kcX3_place (As := [.ref (g (xN i)), .int (J (xN i) 3), .int 0]) (rest := []) wm5_200 (cx_place l D cA q n i k c0 hp0 hn hk hfq (J (xN i) 3) 0 hc0 hcn hn2 hq0 hq4 (by simp)) hx hb hml ht hown hK hw hp0.1 rfl rfl hl.1 rfl (by simp [Value.category]) ⟨by decide, by decide⟩ ⟨(by first | decide | (simp; done) | (simp; omega) | omega), (by first | decide | (simp; done) | (simp; omega) | omega)⟩ dX5_goThrough_38 (fun v S1 g1 I1 R1 H locs hp hw => ?_)
      obtain ⟨rfl, eS1, hg1, eI1, eR1⟩ := hp
      have a1_xX : S1 xX = some (0, 5) := by rw [eS1]; exact nu_al hX.1 hfq
      have a1_xXg : g1 xX = g xX := hg1 _ _ hX.1
      have a1_xP_q : S1 (xP q) = some (0, 3) := by rw [eS1]; exact nu_al hp0.1 hfq
      have a1_xP_qg : g1 (xP q) = g (xP q) := hg1 _ _ hp0.1
      have a1_xP_qr1 : R1 (xP q) 1 = some (xPP q) := by rw [eR1, xR_pl_o (by simp [xX, xKA, xIA, xPA, xLN, xLR, xK, xSO, xHM, xFT, xLT, xN, xP, xPP, xQ]) (by simp [xX, xKA, xIA, xPA, xLN, xLR, xK, xSO, xHM, xFT, xLT, xN, xP, xPP, xQ])]; exact hp0.2.1
      have a1_xN_i : S1 (xN i) = some (0, 0) := by rw [eS1]; exact nu_al hn.1 hfq
      have a1_xN_ig : g1 (xN i) = g (xN i) := hg1 _ _ hn.1
      have a1_xN_ir1 : R1 (xN i) 1 = some (xK k) := by rw [eR1, xR_pl_o (by simp [xX, xKA, xIA, xPA, xLN, xLR, xK, xSO, xHM, xFT, xLT, xN, xP, xPP, xQ]) (by simp [xX, xKA, xIA, xPA, xLN, xLR, xK, xSO, xHM, xFT, xLT, xN, xP, xPP, xQ])]; exact hn.2
      have a1_xK_k : S1 (xK k) = some (0, 1) := by rw [eS1]; exact nu_al hk.1 hfq
      have a1_xK_kg : g1 (xK k) = g (xK k) := hg1 _ _ hk.1
      have a1_xPP_q : S1 (xPP q) = some (6, n) := by rw [eS1]; exact nu_al hp0.2.2 hfq
      have a1_xPP_qg : g1 (xPP q) = g (xPP q) := hg1 _ _ hp0.2.2
      have hh0 : I1 (xK k) 8 = 0 := by rw [eI1, xpl_h]; exact c9
      show W _ _ _ _ _ _ _ _ _ _ _ _ _ _ _ (F0 m 41 ls [])
      refine lv_goto (tgt := 98) hx hb dX5_goThrough_41 (by decide) ?_
      refine lv_aload_n hx hb dX5_goThrough_98 rfl (lv_at hl 1 rfl) ?_
      refine fg1 (v := .int (I1 (xK k) 8)) hx hb ht hown hK hw a1_xK_k a1_xK_kg 8 wf5_193 (by decide) (nh_vi rfl) dX5_goThrough_99 ?_
      rw [hh0]
      refine nh_iret hx hb hr rfl hlocks hw (by first | decide | (simp; done) | (simp; omega) | omega) (by first | decide | (simp; done) | (simp; omega) | omega) dX5_goThrough_102 ?_
      exact Or.inr (Or.inl ⟨c9, c28, rfl, eS1, hg1, eI1, eR1⟩)
  · refine lv_iconst (v := 1) hx hb dX5_goThrough_12 (by decide) ?_
    refine nh_iret hx hb hr rfl hlocks hw (by first | decide | (simp; done) | (simp; omega) | omega) (by first | decide | (simp; done) | (simp; omega) | omega) dX5_goThrough_13 ?_
    exact Or.inl ⟨c9, rfl, rfl, rfl, rfl, rfl⟩
