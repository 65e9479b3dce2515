theorem xap_o (J : nh_N → Nat → Int32) (i k : Nat) (a b : Int32) (n : nh_N) (j : Nat) (h1 : n ≠ xN i) (h2 : n ≠ xK k) : (xf_addPart J i k a b).2 n j = J n j := by
  unfold xf_addPart xf_nextNumber
  split <;> simp [iu_e, h1, h2]
def xI_place (J : nh_N → Nat → Int32) (q c0 i k : Nat) (a d : Int32) : nh_N → Nat → Int32 := (iu (iu (iu (iu (iu (nu (xf_addPart J i k (J (xP q) 0) a).2 (xQ q c0) (fun _ => 0)) (xQ q c0) 1 a) (xQ q c0) 2 d) (xP q) 2 (((iu (iu (nu (xf_addPart J i k (J (xP q) 0) a).2 (xQ q c0) (fun _ => 0)) (xQ q c0) 1 a) (xQ q c0) 2 d) (xP q) 2) + 1)) (xP q) 3 (((iu (iu (nu (xf_addPart J i k (J (xP q) 0) a).2 (xQ q c0) (fun _ => 0)) (xQ q c0) 1 a) (xQ q c0) 2 d) (xP q) 3) + a)) (xSO k) ((iu (iu (nu (xf_addPart J i k (J (xP q) 0) a).2 (xQ q c0) (fun _ => 0)) (xQ q c0) 1 a) (xQ q c0) 2 d) (xP q) 0).toNatClampNeg (((iu (iu (iu (iu (nu (xf_addPart J i k (J (xP q) 0) a).2 (xQ q c0) (fun _ => 0)) (xQ q c0) 1 a) (xQ q c0) 2 d) (xP q) 2 (((iu (iu (nu (xf_addPart J i k (J (xP q) 0) a).2 (xQ q c0) (fun _ => 0)) (xQ q c0) 1 a) (xQ q c0) 2 d) (xP q) 2) + 1)) (xP q) 3 (((iu (iu (nu (xf_addPart J i k (J (xP q) 0) a).2 (xQ q c0) (fun _ => 0)) (xQ q c0) 1 a) (xQ q c0) 2 d) (xP q) 3) + a)) (xSO k) ((iu (iu (nu (xf_addPart J i k (J (xP q) 0) a).2 (xQ q c0) (fun _ => 0)) (xQ q c0) 1 a) (xQ q c0) 2 d) (xP q) 0).toNatClampNeg) + a))
def xR_place (R : nh_N → Nat → Option nh_N) (q c0 i : Nat) : nh_N → Nat → Option nh_N := ru (ru (nu R (xQ q c0) (fun _ => none)) (xQ q c0) 0 (some (xN i))) (xPP q) c0 (some (xQ q c0))
set_option maxHeartbeats 4000000 in
set_option maxRecDepth 100000 in
theorem cx_place (l : Launch) (D : va_G) (cA : Nat → ClassId) {S : nh_N → Option nh_C} {g : nh_N → Nat} {J : (nh_N → Nat → Int32)} {R : nh_N → Nat → Option nh_N} (q n i k c0 : Nat) (hp0 : xPs S R q n) (hn : xNs S R i k) (hk : xKs S R k) (hfq : S (xQ q c0) = none) (a : Int32) (d : Int32) (hc0 : J (xP q) 2 = nI c0) (hcn : c0 < n) (hn2 : n ≤ 200) (hq0 : J (xP q) 0 = nI q) (hq4 : q < 40) (hd0 : d = 0 ∨ d = 1) : im_M l D cA yX3_place vX3_place 2 42 1 3 [.ref (g (xP q)), .ref (g (xN i)), .int a, .int d] S g J R (fun v S' g' I' R' => v = none ∧ S' = nu S (xQ q c0) (some (0, 4)) ∧ xgk S g g' ∧ I' = xI_place J q c0 i k a d ∧ R' = xR_place R q c0 i) := by
  refine nh_of (cc := cX3_place) (maxL := 4) (ret := none) (by decide) rfl (Nat.le_of_ble_eq_true rfl) ?_
  intro p e s m below meth c A ls hx hb hr hml hts hown hlocks hin hK hw hl
  have ht : ∀ w ∈ im_ws, w.before _ s = true := fun w h => hts w (List.mem_cons_of_mem _ h)
  have hl : lv_has ls 4 [(0, .ref (g (xP q))), (1, .ref (g (xN i))), (2, .int a), (3, .int d)] := hl
  refine lv_aload_n hx hb dX3_place_0 rfl (lv_at hl 0 rfl) ?_
  refine fg3 (v := .int (J (xP q) 2)) hx hb ht hown hK hw hp0.1 rfl 2 wf3_25 (by decide) (nh_vi rfl) dX3_place_1 ?_
  refine lv_aload_n hx hb dX3_place_4 rfl (lv_at hl 0 rfl) ?_
  refine fg3 (v := .ref (g (xPP q))) hx hb ht hown hK hw hp0.1 rfl 1 wf3_21 (by decide) (nh_vr rfl hp0.2.1) dX3_place_5 ?_
  refine ar_len4 hx hb hK hw hp0.2.2 rfl dX3_place_8 ?_
  refine lv_icmp_lt (tgt := 13) hx hb dX3_place_9 (by decide) (fun c9 => ?_) (fun c9 => ?_)
  · refine lv_aload_n hx hb dX3_place_13 rfl (lv_at hl 1 rfl) ?_
    refine lv_aload_n hx hb dX3_place_14 rfl (lv_at hl 0 rfl) ?_
    refine fg3 (v := .int (J (xP q) 0)) hx hb ht hown hK hw hp0.1 rfl 0 wf3_7 (by decide) (nh_vi rfl) dX3_place_15 ?_
    refine lv_iload_n hx hb dX3_place_18 rfl (lv_at hl 2 rfl) ?_
    refine kcX0_addPart (As := [.int (J (xP q) 0), .int a]) (rest := []) wm3_28 (cxf_addPart l D cA i k hn hk (J (xP q) 0) a) hx hb hml ht hown hK hw hn.1 rfl rfl hl.1 rfl (by simp [Value.category]) ⟨by decide, by decide⟩ ⟨by simp, by simp⟩ dX3_place_19 (fun v S1 g1 J1 R1 H locs hp hw => ?_)
    obtain ⟨rfl, h1, h2, eJ1, h4⟩ := hp
    rw [h1, h2, h4] at hw
    clear h1 h2 h4
    show W _ _ _ _ _ _ _ _ _ _ _ _ _ _ _ (F0 m 22 ls [])
    refine lv_aload_n hx hb dX3_place_22 rfl (lv_at hl 0 rfl) ?_
    refine fg3 (v := .ref (g (xPP q))) hx hb ht hown hK hw hp0.1 rfl 1 wf3_21 (by decide) (nh_vr rfl hp0.2.1) dX3_place_23 ?_
    refine lv_aload_n hx hb dX3_place_26 rfl (lv_at hl 0 rfl) ?_
    refine fg3 (v := .int (J1 (xP q) 2)) hx hb ht hown hK hw hp0.1 rfl 2 wf3_25 (by decide) (nh_vi rfl) dX3_place_27 ?_
    refine fn4 (xQ q c0) hx hb ht hown hK hw hfq wl3_19 (by first | decide | (simp; done) | (simp; omega) | omega) (by first | decide | (simp; done) | (simp; omega) | omega) dX3_place_30 (fun q1 H S1 g1 I1 R1 eS1 eg1 eI1 eR1 hw => ?_)
    have a1_xP_q : S1 (xP q) = some (0, 3) := by rw [eS1]; exact nu_al hp0.1 hfq
    have a1_xP_qg : g1 (xP q) = g (xP q) := by rw [eg1]; exact (nu_gl hp0.1 hfq).trans rfl
    have a1_xP_qr1 : R1 (xP q) 1 = some (xPP q) := by rw [eR1, nu_gl hp0.1 hfq]; exact hp0.2.1
    have a1_xPP_q : S1 (xPP q) = some (6, n) := by rw [eS1]; exact nu_al hp0.2.2 hfq
    have a1_xPP_qg : g1 (xPP q) = g (xPP q) := by rw [eg1]; exact (nu_gl hp0.2.2 hfq).trans rfl
    have a1_xN_i : S1 (xN i) = some (0, 0) := by rw [eS1]; exact nu_al hn.1 hfq
    have a1_xN_ig : g1 (xN i) = g (xN i) := by rw [eg1]; exact (nu_gl hn.1 hfq).trans rfl
    have a1_xN_ir1 : R1 (xN i) 1 = some (xK k) := by rw [eR1, nu_gl hn.1 hfq]; exact hn.2
    have a1_xK_k : S1 (xK k) = some (0, 1) := by rw [eS1]; exact nu_al hk.1 hfq
    have a1_xK_kg : g1 (xK k) = g (xK k) := by rw [eg1]; exact (nu_gl hk.1 hfq).trans rfl
    have a1_xK_kr3 : R1 (xK k) 3 = some (xSO k) := by rw [eR1, nu_gl hk.1 hfq]; exact hk.2.1
    have a1_xSO_k : S1 (xSO k) = some (1, 40) := by rw [eS1]; exact nu_al hk.2.2.1 hfq
    have a1_xSO_kg : g1 (xSO k) = g (xSO k) := by rw [eg1]; exact (nu_gl hk.2.2.1 hfq).trans rfl
    have b1 : S1 (xQ q c0) = some (0, 4) := by rw [eS1]; exact nu_s _ _ _
    have b1g : g1 (xQ q c0) = q1 := by rw [eg1]; exact nu_s _ _ _
    refine lv_dup hx hb dX3_place_33 rfl ?_
    refine lv_aload_n hx hb dX3_place_34 rfl (lv_at hl 1 rfl) ?_
    refine lv_iload_n hx hb dX3_place_35 rfl (lv_at hl 2 rfl) ?_
    refine lv_iload_n hx hb dX3_place_36 rfl (lv_at hl 3 rfl) ?_
    have hM0 := (cxn_Part l D cA (S := S1) (g := g1) (J := I1) (R := R1) q c0 i b1 a1_xN_i a d hd0)
    rw [show g1 (xQ q c0) = q1 from b1g, show g1 (xN i) = g (xN i) from a1_xN_ig] at hM0
    refine kcX4_init (As := [.ref (g (xN i)), .int a, .int d]) (rest := [.ref q1, .int (J1 (xP q) 2), .ref (g (xPP q))]) wm3_34 hM0 hx hb hml ht hown hK hw rfl hl.1 rfl (by simp [Value.category]) ⟨(by first | decide | (simp; done) | (simp; omega) | omega), (by first | decide | (simp; done) | (simp; omega) | omega)⟩ ⟨(by first | decide | (simp; done) | (simp; omega) | omega), (by first | decide | (simp; done) | (simp; omega) | omega)⟩ dX3_place_37 (fun v S0 g0 J2 T1 H locs hp hw _ _ => ?_)
    obtain ⟨rfl, h1, h2, eJ2, eT1⟩ := hp
    rw [h1, h2] at hw
    clear h1 h2 hM0
    have u1_xP_q_1 : T1 (xP q) 1 = some (xPP q) := by rw [eT1, ru_e, if_neg (by simp [xX, xKA, xIA, xPA, xLN, xLR, xK, xSO, xHM, xFT, xLT, xN, xP, xPP, xQ])]; exact a1_xP_qr1
    have u1_xN_i_1 : T1 (xN i) 1 = some (xK k) := by rw [eT1, ru_e, if_neg (by simp [xX, xKA, xIA, xPA, xLN, xLR, xK, xSO, xHM, xFT, xLT, xN, xP, xPP, xQ])]; exact a1_xN_ir1
    have u1_xK_k_3 : T1 (xK k) 3 = some (xSO k) := by rw [eT1, ru_e, if_neg (by simp [xX, xKA, xIA, xPA, xLN, xLR, xK, xSO, xHM, xFT, xLT, xN, xP, xPP, xQ])]; exact a1_xK_kr3
    have u1_new : T1 (xQ q c0) 0 = some (xN i) := by rw [eT1, ru_e]; simp
    show W _ _ _ _ _ _ _ _ _ _ _ _ _ _ _ (F0 m 40 ls [.ref q1, .int (J1 (xP q) 2), .ref (g (xPP q))])
    refine ar_st4 hx hb hK hw a1_xPP_q a1_xPP_qg (xQ q c0) b1 b1g (ix_of c0 (by rw [eJ1, xap_o _ _ _ _ _ _ _ (by simp [xX, xKA, xIA, xPA, xLN, xLR, xK, xSO, xHM, xFT, xLT, xN, xP, xPP, xQ]) (by simp [xX, xKA, xIA, xPA, xLN, xLR, xK, xSO, xHM, xFT, xLT, xN, xP, xPP, xQ])]; exact hc0) hcn (by omega)) dX3_place_40 (fun H locs T2 eT2 hw => ?_)
    have u2_xP_q_1 : T2 (xP q) 1 = some (xPP q) := by rw [eT2, ru_e, if_neg (by simp [xX, xKA, xIA, xPA, xLN, xLR, xK, xSO, xHM, xFT, xLT, xN, xP, xPP, xQ])]; exact u1_xP_q_1
    have u2_xN_i_1 : T2 (xN i) 1 = some (xK k) := by rw [eT2, ru_e, if_neg (by simp [xX, xKA, xIA, xPA, xLN, xLR, xK, xSO, xHM, xFT, xLT, xN, xP, xPP, xQ])]; exact u1_xN_i_1
    have u2_xK_k_3 : T2 (xK k) 3 = some (xSO k) := by rw [eT2, ru_e, if_neg (by simp [xX, xKA, xIA, xPA, xLN, xLR, xK, xSO, xHM, xFT, xLT, xN, xP, xPP, xQ])]; exact u1_xK_k_3
    have u2_xQ_q_c0_0 : T2 (xQ q c0) 0 = some (xN i) := by rw [eT2, ru_e, if_neg (by simp [xX, xKA, xIA, xPA, xLN, xLR, xK, xSO, xHM, xFT, xLT, xN, xP, xPP, xQ])]; exact u1_new
    refine lv_aload_n hx hb dX3_place_41 rfl (lv_at hl 0 rfl) ?_
    refine lv_dup hx hb dX3_place_42 rfl ?_
    refine fg3 (v := .int (J2 (xP q) 2)) hx hb ht hown hK hw a1_xP_q a1_xP_qg 2 wf3_25 (by decide) (by simp [nh_v, im_sk, iu_e, xX, xKA, xIA, xPA, xLN, xLR, xK, xSO, xHM, xFT, xLT, xN, xP, xPP, xQ, eT2]) dX3_place_43 ?_
    refine lv_iconst (v := 1) hx hb dX3_place_46 (by decide) ?_
    refine lv_iadd hx hb dX3_place_47 ?_
    refine fp3 hx hb ht hown hK hw a1_xP_q a1_xP_qg 2 wf3_25 (by decide) rfl rfl rfl rfl dX3_place_48 (fun H locs J3 eJ3 hw => ?_)
    refine lv_aload_n hx hb dX3_place_51 rfl (lv_at hl 0 rfl) ?_
    refine lv_dup hx hb dX3_place_52 rfl ?_
    refine fg3 (v := .int (J2 (xP q) 3)) hx hb ht hown hK hw a1_xP_q a1_xP_qg 3 wf3_37 (by decide) (by simp [nh_v, im_sk, iu_e, xX, xKA, xIA, xPA, xLN, xLR, xK, xSO, xHM, xFT, xLT, xN, xP, xPP, xQ, eJ3, eT2]) dX3_place_53 ?_
    refine lv_iload_n hx hb dX3_place_56 rfl (lv_at hl 2 rfl) ?_
    refine lv_iadd hx hb dX3_place_57 ?_
    refine fp3 hx hb ht hown hK hw a1_xP_q a1_xP_qg 3 wf3_37 (by decide) rfl rfl rfl rfl dX3_place_58 (fun H locs J4 eJ4 hw => ?_)
    refine lv_aload_n hx hb dX3_place_61 rfl (lv_at hl 1 rfl) ?_
    refine fg0 (v := .ref (g (xK k))) hx hb ht hown hK hw a1_xN_i a1_xN_ig 1 wf3_40 (by decide) ((nh_vr rfl u2_xN_i_1).trans (congrArg Value.ref a1_xK_kg)) dX3_place_62 ?_
    refine fg1 (v := .ref (g (xSO k))) hx hb ht hown hK hw a1_xK_k a1_xK_kg 3 wf3_44 (by decide) ((nh_vr rfl u2_xK_k_3).trans (congrArg Value.ref a1_xSO_kg)) dX3_place_65 ?_
    refine lv_aload_n hx hb dX3_place_68 rfl (lv_at hl 0 rfl) ?_
    refine fg3 (v := .int (J2 (xP q) 0)) hx hb ht hown hK hw a1_xP_q a1_xP_qg 0 wf3_7 (by decide) (by simp [nh_v, im_sk, iu_e, xX, xKA, xIA, xPA, xLN, xLR, xK, xSO, xHM, xFT, xLT, xN, xP, xPP, xQ, eJ4, eJ3, eT2]) dX3_place_69 ?_
    refine lv_dup2_11 hx hb dX3_place_72 rfl rfl ?_
    refine ai_ld hx hb hK hw a1_xSO_k a1_xSO_kg (ix_of q (by simp [xX, xKA, xIA, xPA, xLN, xLR, xK, xSO, xHM, xFT, xLT, xN, xP, xPP, xQ, iu_e, nu, eJ4, eJ3, eJ2, eI1, eJ1, xap_o, hq0]) hq4 (by decide)) dX3_place_73 ?_
    refine lv_iload_n hx hb dX3_place_74 rfl (lv_at hl 2 rfl) ?_
    refine lv_iadd hx hb dX3_place_75 ?_
    refine ai_st hx hb hK hw a1_xSO_k a1_xSO_kg (ix_of q (by simp [xX, xKA, xIA, xPA, xLN, xLR, xK, xSO, xHM, xFT, xLT, xN, xP, xPP, xQ, iu_e, nu, eJ4, eJ3, eJ2, eI1, eJ1, xap_o, hq0]) hq4 (by decide)) dX3_place_76 (fun H locs J5 eJ5 hw => ?_)
    refine nh_vret hx hb hr hlocks hw (by first | decide | (simp; done) | (simp; omega) | omega) (by first | decide | (simp; done) | (simp; omega) | omega) dX3_place_77 ?_
    subst eJ5
    subst eJ4
    subst eJ3
    subst eT2
    subst eT1
    subst eJ2
    subst eS1
    subst eg1
    subst eI1
    subst eR1
    subst eJ1
    exact ⟨rfl, rfl, xgk_nu (xgk_rf S g) (fun _ _ h => h) hfq, rfl, by rw [xap_o _ _ _ _ _ _ _ (by simp [xX, xKA, xIA, xPA, xLN, xLR, xK, xSO, xHM, xFT, xLT, xN, xP, xPP, xQ]) (by simp [xX, xKA, xIA, xPA, xLN, xLR, xK, xSO, xHM, xFT, xLT, xN, xP, xPP, xQ]), hc0, nI_clamp (by omega)]; rfl⟩
  · exact absurd (by rw [hc0]; exact nI_lt hcn (by omega)) c9
