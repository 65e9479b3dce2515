def zf_insert (J : (nh_N → Nat → Int32))  (a : Int32) (b : Int32) (d : Int32) : Int32 × (nh_N → Nat → Int32) := (if (zf_isClass J a) = 0 then ((-1), J) else (if (zf_in J b 1 10000) = 0 then ((-2), J) else (if (zf_in J d 0 39) = 0 then ((-2), J) else (if (J zM 17) ≤ d then (if (J zM 6) = 200 then ((-4), J) else (((J zM 6) + 1) - 1, (iu (iu (iu (iu J (zA 7) (J zM 6).toNatClampNeg a) (zA 8) (J zM 6).toNatClampNeg b) (zA 9) (J zM 6).toNatClampNeg d) zM 6 ((J zM 6) + 1)))) else ((-3), J)))))
set_option maxHeartbeats 4000000 in
set_option maxRecDepth 100000 in
theorem zc_insert (l : Launch) (D : va_G) (cA : Nat → ClassId) {S : nh_N → Option nh_C} {g : nh_N → Nat} {J : (nh_N → Nat → Int32)} {R : nh_N → Nat → Option nh_N} (hz : zSh S R) (a : Int32) (b : Int32) (d : Int32) (ni : Nat) (hni : J zM 6 = nI ni) (hi2 : ni ≤ 200) : im_M l D cA yX6_insert vX6_insert 2 43 0 0 [.ref (g zM), .int a, .int b, .int d] S g J R (im_eq (some (.int (zf_insert J a b d).1)) S g (zf_insert J a b d).2 R) := by
  refine nh_of (cc := cX6_insert) (maxL := 4) (ret := (some .int)) (by decide) rfl (Nat.le_of_ble_eq_true rfl) ?_
  intro p e s m below meth c A ls hx hb hr hml hts hown hlocks hin hK hw hl
  have ht : ∀ w ∈ im_ws, w.before _ s = true := fun w h => hts w (List.mem_cons_of_mem _ h)
  have hl : lv_has ls 4 [(0, .ref (g zM)), (1, .int a), (2, .int b), (3, .int d)] := hl
  refine lv_aload_n hx hb dX6_insert_0 rfl (lv_at hl 0 rfl) ?_
  refine lv_iload_n hx hb dX6_insert_1 rfl (lv_at hl 1 rfl) ?_
  refine kcX6_isClass (As := [.int a]) (rest := []) wm6_82 (zc_isClass l D cA hz a) hx hb hml ht hown hK hw (zs_m hz) rfl rfl hl.1 rfl (by simp [Value.category]) ⟨by decide, by decide⟩ ⟨by simp, by simp⟩ dX6_insert_2 (fun v S1 g1 I1 R1 H locs hp hw => ?_)
  obtain ⟨rfl, h1, h2, h3, h4⟩ := hp
  rw [h1, h2, h3, h4] at hw
  clear h1 h2 h3 h4
  show W _ _ _ _ _ _ _ _ _ _ _ _ _ _ _ (F0 m 5 ls [.int (zf_isClass J a)])
  refine lv_if_ne (tgt := 10) hx hb dX6_insert_5 (by decide) (fun c5 => ?_) (fun c5 => ?_)
  · refine lv_iload_n hx hb dX6_insert_10 rfl (lv_at hl 2 rfl) ?_
    refine lv_iconst (v := 1) hx hb dX6_insert_11 (by decide) ?_
    refine lv_sipush (v := 10000) hx hb dX6_insert_12 (by decide) ?_
    refine kcX6_in (As := [.int b, .int 1, .int 10000]) (rest := []) wm6_78 (zc_in l D cA b 1 10000) hx hb hml ht hown hK hw rfl hl.1 rfl (by simp [Value.category]) ⟨by decide, by decide⟩ ⟨by simp, by simp⟩ dX6_insert_15 (fun v S1 g1 I1 R1 H locs hp hw => ?_)
    obtain ⟨rfl, h1, h2, h3, h4⟩ := hp
    rw [h1, h2, h3, h4] at hw
    clear h1 h2 h3 h4
    show W _ _ _ _ _ _ _ _ _ _ _ _ _ _ _ (F0 m 18 ls [.int (zf_in J b 1 10000)])
    refine lv_if_eq (tgt := 31) hx hb dX6_insert_18 (by decide) (fun c18 => ?_) (fun c18 => ?_)
    · refine lv_bipush (v := (-2)) hx hb dX6_insert_31 (by decide) ?_
      refine nh_iret hx hb hr rfl hlocks hw (Nat.zero_le _) (Nat.zero_le _) dX6_insert_33 ?_
      simp only [zf_insert, if_neg c5, if_pos c18]
      exact im_fin rfl rfl
    · refine lv_iload_n hx hb dX6_insert_21 rfl (lv_at hl 3 rfl) ?_
      refine lv_iconst (v := 0) hx hb dX6_insert_22 (by decide) ?_
      refine lv_bipush (v := 39) hx hb dX6_insert_23 (by decide) ?_
      refine kcX6_in (As := [.int d, .int 0, .int 39]) (rest := []) wm6_78 (zc_in l D cA d 0 39) hx hb hml ht hown hK hw rfl hl.1 rfl (by simp [Value.category]) ⟨by decide, by decide⟩ ⟨by simp, by simp⟩ dX6_insert_25 (fun v S1 g1 I1 R1 H locs hp hw => ?_)
      obtain ⟨rfl, h1, h2, h3, h4⟩ := hp
      rw [h1, h2, h3, h4] at hw
      clear h1 h2 h3 h4
      show W _ _ _ _ _ _ _ _ _ _ _ _ _ _ _ (F0 m 28 ls [.int (zf_in J d 0 39)])
      refine lv_if_ne (tgt := 34) hx hb dX6_insert_28 (by decide) (fun c28 => ?_) (fun c28 => ?_)
      · refine lv_iload_n hx hb dX6_insert_34 rfl (lv_at hl 3 rfl) ?_
        refine lv_aload_n hx hb dX6_insert_35 rfl (lv_at hl 0 rfl) ?_
        refine fg6 (v := .int (J zM 17)) hx hb ht hown hK hw (zs_m hz) rfl 17 wf6_86 (by decide) (nh_vi rfl) dX6_insert_36 ?_
        refine lv_icmp_ge (tgt := 45) hx hb dX6_insert_39 (by decide) (fun c39 => ?_) (fun c39 => ?_)
        · refine lv_aload_n hx hb dX6_insert_45 rfl (lv_at hl 0 rfl) ?_
          refine fg6 (v := .int (J zM 6)) hx hb ht hown hK hw (zs_m hz) rfl 6 wf6_89 (by decide) (nh_vi rfl) dX6_insert_46 ?_
          refine lv_sipush (v := 200) hx hb dX6_insert_49 (by decide) ?_
          refine lv_icmp_ne (tgt := 58) hx hb dX6_insert_52 (by decide) (fun c52 => ?_) (fun c52 => ?_)
          · refine lv_aload_n hx hb dX6_insert_58 rfl (lv_at hl 0 rfl) ?_
            refine fg6 hx hb ht hown hK hw (zs_m hz) rfl 7 wf6_23 (by decide) (nh_vr rfl (zr7 hz)) dX6_insert_59 ?_
            refine lv_aload_n hx hb dX6_insert_62 rfl (lv_at hl 0 rfl) ?_
            refine fg6 (v := .int (J zM 6)) hx hb ht hown hK hw (zs_m hz) rfl 6 wf6_89 (by decide) (nh_vi rfl) dX6_insert_63 ?_
            refine lv_iload_n hx hb dX6_insert_66 rfl (lv_at hl 1 rfl) ?_
            refine ai_st hx hb hK hw (zs7 hz) rfl (ix_of ni (by simp [hni]) (by rcases Nat.lt_or_ge ni 200 with h | h; exact h; exact absurd (by rw [hni, show ni = 200 by omega]; rfl) c52) (by decide)) dX6_insert_67 (fun H locs J1 eJ1 hw => ?_)
            refine lv_aload_n hx hb dX6_insert_68 rfl (lv_at hl 0 rfl) ?_
            refine fg6 hx hb ht hown hK hw (zs_m hz) rfl 8 wf6_26 (by decide) (nh_vr rfl (zr8 hz)) dX6_insert_69 ?_
            refine lv_aload_n hx hb dX6_insert_72 rfl (lv_at hl 0 rfl) ?_
            refine fg6 (v := .int (J zM 6)) hx hb ht hown hK hw (zs_m hz) rfl 6 wf6_89 (by decide) (by simp [nh_v, im_sk, iu_e, zM, zA, eJ1]) dX6_insert_73 ?_
            refine lv_iload_n hx hb dX6_insert_76 rfl (lv_at hl 2 rfl) ?_
            refine ai_st hx hb hK hw (zs8 hz) rfl (ix_of ni (by simp [hni]) (by rcases Nat.lt_or_ge ni 200 with h | h; exact h; exact absurd (by rw [hni, show ni = 200 by omega]; rfl) c52) (by decide)) dX6_insert_77 (fun H locs J2 eJ2 hw => ?_)
            refine lv_aload_n hx hb dX6_insert_78 rfl (lv_at hl 0 rfl) ?_
            refine fg6 hx hb ht hown hK hw (zs_m hz) rfl 9 wf6_29 (by decide) (nh_vr rfl (zr9 hz)) dX6_insert_79 ?_
            refine lv_aload_n hx hb dX6_insert_82 rfl (lv_at hl 0 rfl) ?_
            refine fg6 (v := .int (J zM 6)) hx hb ht hown hK hw (zs_m hz) rfl 6 wf6_89 (by decide) (by simp [nh_v, im_sk, iu_e, zM, zA, eJ2, eJ1]) dX6_insert_83 ?_
            refine lv_iload_n hx hb dX6_insert_86 rfl (lv_at hl 3 rfl) ?_
            refine ai_st hx hb hK hw (zs9 hz) rfl (ix_of ni (by simp [hni]) (by rcases Nat.lt_or_ge ni 200 with h | h; exact h; exact absurd (by rw [hni, show ni = 200 by omega]; rfl) c52) (by decide)) dX6_insert_87 (fun H locs J3 eJ3 hw => ?_)
            refine lv_aload_n hx hb dX6_insert_88 rfl (lv_at hl 0 rfl) ?_
            refine lv_dup hx hb dX6_insert_89 rfl ?_
            refine fg6 (v := .int (J zM 6)) hx hb ht hown hK hw (zs_m hz) rfl 6 wf6_89 (by decide) (by simp [nh_v, im_sk, iu_e, zM, zA, eJ3, eJ2, eJ1]) dX6_insert_90 ?_
            refine lv_iconst (v := 1) hx hb dX6_insert_93 (by decide) ?_
            refine lv_iadd hx hb dX6_insert_94 ?_
            refine fp6 hx hb ht hown hK hw (zs_m hz) rfl 6 wf6_89 (by decide) rfl rfl rfl rfl dX6_insert_95 (fun H locs J4 eJ4 hw => ?_)
            refine lv_aload_n hx hb dX6_insert_98 rfl (lv_at hl 0 rfl) ?_
            refine fg6 (v := .int ((J zM 6) + 1)) hx hb ht hown hK hw (zs_m hz) rfl 6 wf6_89 (by decide) (by simp [nh_v, im_sk, iu_e, zM, zA, eJ4, eJ3, eJ2, eJ1]) dX6_insert_99 ?_
            refine lv_iconst (v := 1) hx hb dX6_insert_102 (by decide) ?_
            refine lv_isub hx hb dX6_insert_103 ?_
            refine nh_iret hx hb hr rfl hlocks hw (Nat.zero_le _) (Nat.zero_le _) dX6_insert_104 ?_
            subst eJ4
            subst eJ3
            subst eJ2
            subst eJ1
            simp only [zf_insert, if_neg c5, if_neg c18, if_neg c28, if_pos c39, if_neg c52]
            exact im_fin rfl rfl
          · refine lv_bipush (v := (-4)) hx hb dX6_insert_55 (by decide) ?_
            refine nh_iret hx hb hr rfl hlocks hw (Nat.zero_le _) (Nat.zero_le _) dX6_insert_57 ?_
            simp only [zf_insert, if_neg c5, if_neg c18, if_neg c28, if_pos c39, if_pos c52]
            exact im_fin rfl rfl
        · refine lv_bipush (v := (-3)) hx hb dX6_insert_42 (by decide) ?_
          refine nh_iret hx hb hr rfl hlocks hw (Nat.zero_le _) (Nat.zero_le _) dX6_insert_44 ?_
          simp only [zf_insert, if_neg c5, if_neg c18, if_neg c28, if_neg c39]
          exact im_fin rfl rfl
      · refine lv_bipush (v := (-2)) hx hb dX6_insert_31 (by decide) ?_
        refine nh_iret hx hb hr rfl hlocks hw (Nat.zero_le _) (Nat.zero_le _) dX6_insert_33 ?_
        simp only [zf_insert, if_neg c5, if_neg c18, if_pos c28]
        exact im_fin rfl rfl
  · refine lv_iconst (v := (-1)) hx hb dX6_insert_8 (by decide) ?_
    refine nh_iret hx hb hr rfl hlocks hw (Nat.zero_le _) (Nat.zero_le _) dX6_insert_9 ?_
    simp only [zf_insert, if_pos c5]
    exact im_fin rfl rfl
def zf_mark (J : (nh_N → Nat → Int32))  (a : Int32) (b : Int32) (d : Int32) : Int32 × (nh_N → Nat → Int32) := (if (zf_isClass J a) = 0 then ((-1), J) else (if (zf_in J d 0 39) = 0 then ((-2), J) else (if (J zM 17) ≤ d then (if (J zM 13) = 300 then ((-4), J) else ((J zM 13) + 1, (iu (iu (iu (iu J (zA 14) (J zM 13).toNatClampNeg a) (zA 16) (J zM 13).toNatClampNeg b) (zA 15) (J zM 13).toNatClampNeg d) zM 13 ((J zM 13) + 1)))) else ((-3), J))))
set_option maxHeartbeats 4000000 in
set_option maxRecDepth 100000 in
theorem zc_mark (l : Launch) (D : va_G) (cA : Nat → ClassId) {S : nh_N → Option nh_C} {g : nh_N → Nat} {J : (nh_N → Nat → Int32)} {R : nh_N → Nat → Option nh_N} (hz : zSh S R) (a : Int32) (b : Int32) (d : Int32) (nm : Nat) (hnm : J zM 13 = nI nm) (hm3 : nm ≤ 300) : im_M l D cA yX6_mark vX6_mark 2 43 0 0 [.ref (g zM), .int a, .int b, .int d] S g J R (im_eq (some (.int (zf_mark J a b d).1)) S g (zf_mark J a b d).2 R) := by
  refine nh_of (cc := cX6_mark) (maxL := 4) (ret := (some .int)) (by decide) rfl (Nat.le_of_ble_eq_true rfl) ?_
  intro p e s m below meth c A ls hx hb hr hml hts hown hlocks hin hK hw hl
  have ht : ∀ w ∈ im_ws, w.before _ s = true := fun w h => hts w (List.mem_cons_of_mem _ h)
  have hl : lv_has ls 4 [(0, .ref (g zM)), (1, .int a), (2, .int b), (3, .int d)] := hl
  refine lv_aload_n hx hb dX6_mark_0 rfl (lv_at hl 0 rfl) ?_
  refine lv_iload_n hx hb dX6_mark_1 rfl (lv_at hl 1 rfl) ?_
  refine kcX6_isClass (As := [.int a]) (rest := []) wm6_82 (zc_isClass l D cA hz a) hx hb hml ht hown hK hw (zs_m hz) rfl rfl hl.1 rfl (by simp [Value.category]) ⟨by decide, by decide⟩ ⟨by simp, by simp⟩ dX6_mark_2 (fun v S1 g1 I1 R1 H locs hp hw => ?_)
  obtain ⟨rfl, h1, h2, h3, h4⟩ := hp
  rw [h1, h2, h3, h4] at hw
  clear h1 h2 h3 h4
  show W _ _ _ _ _ _ _ _ _ _ _ _ _ _ _ (F0 m 5 ls [.int (zf_isClass J a)])
  refine lv_if_ne (tgt := 10) hx hb dX6_mark_5 (by decide) (fun c5 => ?_) (fun c5 => ?_)
  · refine lv_iload_n hx hb dX6_mark_10 rfl (lv_at hl 3 rfl) ?_
    refine lv_iconst (v := 0) hx hb dX6_mark_11 (by decide) ?_
    refine lv_bipush (v := 39) hx hb dX6_mark_12 (by decide) ?_
    refine kcX6_in (As := [.int d, .int 0, .int 39]) (rest := []) wm6_78 (zc_in l D cA d 0 39) hx hb hml ht hown hK hw rfl hl.1 rfl (by simp [Value.category]) ⟨by decide, by decide⟩ ⟨by simp, by simp⟩ dX6_mark_14 (fun v S1 g1 I1 R1 H locs hp hw => ?_)
    obtain ⟨rfl, h1, h2, h3, h4⟩ := hp
    rw [h1, h2, h3, h4] at hw
    clear h1 h2 h3 h4
    show W _ _ _ _ _ _ _ _ _ _ _ _ _ _ _ (F0 m 17 ls [.int (zf_in J d 0 39)])
    refine lv_if_ne (tgt := 23) hx hb dX6_mark_17 (by decide) (fun c17 => ?_) (fun c17 => ?_)
    · refine lv_iload_n hx hb dX6_mark_23 rfl (lv_at hl 3 rfl) ?_
      refine lv_aload_n hx hb dX6_mark_24 rfl (lv_at hl 0 rfl) ?_
      refine fg6 (v := .int (J zM 17)) hx hb ht hown hK hw (zs_m hz) rfl 17 wf6_86 (by decide) (nh_vi rfl) dX6_mark_25 ?_
      refine lv_icmp_ge (tgt := 34) hx hb dX6_mark_28 (by decide) (fun c28 => ?_) (fun c28 => ?_)
      · refine lv_aload_n hx hb dX6_mark_34 rfl (lv_at hl 0 rfl) ?_
        refine fg6 (v := .int (J zM 13)) hx hb ht hown hK hw (zs_m hz) rfl 13 wf6_92 (by decide) (nh_vi rfl) dX6_mark_35 ?_
        refine lv_sipush (v := 300) hx hb dX6_mark_38 (by decide) ?_
        refine lv_icmp_ne (tgt := 47) hx hb dX6_mark_41 (by decide) (fun c41 => ?_) (fun c41 => ?_)
        · refine lv_aload_n hx hb dX6_mark_47 rfl (lv_at hl 0 rfl) ?_
          refine fg6 hx hb ht hown hK hw (zs_m hz) rfl 14 wf6_41 (by decide) (nh_vr rfl (zr14 hz)) dX6_mark_48 ?_
          refine lv_aload_n hx hb dX6_mark_51 rfl (lv_at hl 0 rfl) ?_
          refine fg6 (v := .int (J zM 13)) hx hb ht hown hK hw (zs_m hz) rfl 13 wf6_92 (by decide) (nh_vi rfl) dX6_mark_52 ?_
          refine lv_iload_n hx hb dX6_mark_55 rfl (lv_at hl 1 rfl) ?_
          refine ai_st hx hb hK hw (zs14 hz) rfl (ix_of nm (by simp [hnm]) (by rcases Nat.lt_or_ge nm 300 with h | h; exact h; exact absurd (by rw [hnm, show nm = 300 by omega]; rfl) c41) (by decide)) dX6_mark_56 (fun H locs J1 eJ1 hw => ?_)
          refine lv_aload_n hx hb dX6_mark_57 rfl (lv_at hl 0 rfl) ?_
          refine fg6 hx hb ht hown hK hw (zs_m hz) rfl 16 wf6_47 (by decide) (nh_vr rfl (zr16 hz)) dX6_mark_58 ?_
          refine lv_aload_n hx hb dX6_mark_61 rfl (lv_at hl 0 rfl) ?_
          refine fg6 (v := .int (J zM 13)) hx hb ht hown hK hw (zs_m hz) rfl 13 wf6_92 (by decide) (by simp [nh_v, im_sk, iu_e, zM, zA, eJ1]) dX6_mark_62 ?_
          refine lv_iload_n hx hb dX6_mark_65 rfl (lv_at hl 2 rfl) ?_
          refine ai_st hx hb hK hw (zs16 hz) rfl (ix_of nm (by simp [hnm]) (by rcases Nat.lt_or_ge nm 300 with h | h; exact h; exact absurd (by rw [hnm, show nm = 300 by omega]; rfl) c41) (by decide)) dX6_mark_66 (fun H locs J2 eJ2 hw => ?_)
          refine lv_aload_n hx hb dX6_mark_67 rfl (lv_at hl 0 rfl) ?_
          refine fg6 hx hb ht hown hK hw (zs_m hz) rfl 15 wf6_44 (by decide) (nh_vr rfl (zr15 hz)) dX6_mark_68 ?_
          refine lv_aload_n hx hb dX6_mark_71 rfl (lv_at hl 0 rfl) ?_
          refine fg6 (v := .int (J zM 13)) hx hb ht hown hK hw (zs_m hz) rfl 13 wf6_92 (by decide) (by simp [nh_v, im_sk, iu_e, zM, zA, eJ2, eJ1]) dX6_mark_72 ?_
          refine lv_iload_n hx hb dX6_mark_75 rfl (lv_at hl 3 rfl) ?_
          refine ai_st hx hb hK hw (zs15 hz) rfl (ix_of nm (by simp [hnm]) (by rcases Nat.lt_or_ge nm 300 with h | h; exact h; exact absurd (by rw [hnm, show nm = 300 by omega]; rfl) c41) (by decide)) dX6_mark_76 (fun H locs J3 eJ3 hw => ?_)
          refine lv_aload_n hx hb dX6_mark_77 rfl (lv_at hl 0 rfl) ?_
          refine lv_dup hx hb dX6_mark_78 rfl ?_
          refine fg6 (v := .int (J zM 13)) hx hb ht hown hK hw (zs_m hz) rfl 13 wf6_92 (by decide) (by simp [nh_v, im_sk, iu_e, zM, zA, eJ3, eJ2, eJ1]) dX6_mark_79 ?_
          refine lv_iconst (v := 1) hx hb dX6_mark_82 (by decide) ?_
          refine lv_iadd hx hb dX6_mark_83 ?_
          refine fp6 hx hb ht hown hK hw (zs_m hz) rfl 13 wf6_92 (by decide) rfl rfl rfl rfl dX6_mark_84 (fun H locs J4 eJ4 hw => ?_)
          refine lv_aload_n hx hb dX6_mark_87 rfl (lv_at hl 0 rfl) ?_
          refine fg6 (v := .int ((J zM 13) + 1)) hx hb ht hown hK hw (zs_m hz) rfl 13 wf6_92 (by decide) (by simp [nh_v, im_sk, iu_e, zM, zA, eJ4, eJ3, eJ2, eJ1]) dX6_mark_88 ?_
          refine nh_iret hx hb hr rfl hlocks hw (Nat.zero_le _) (Nat.zero_le _) dX6_mark_91 ?_
          subst eJ4
          subst eJ3
          subst eJ2
          subst eJ1
          simp only [zf_mark, if_neg c5, if_neg c17, if_pos c28, if_neg c41]
          exact im_fin rfl rfl
        · refine lv_bipush (v := (-4)) hx hb dX6_mark_44 (by decide) ?_
          refine nh_iret hx hb hr rfl hlocks hw (Nat.zero_le _) (Nat.zero_le _) dX6_mark_46 ?_
          simp only [zf_mark, if_neg c5, if_neg c17, if_pos c28, if_pos c41]
          exact im_fin rfl rfl
      · refine lv_bipush (v := (-3)) hx hb dX6_mark_31 (by decide) ?_
        refine nh_iret hx hb hr rfl hlocks hw (Nat.zero_le _) (Nat.zero_le _) dX6_mark_33 ?_
        simp only [zf_mark, if_neg c5, if_neg c17, if_neg c28]
        exact im_fin rfl rfl
    · refine lv_bipush (v := (-2)) hx hb dX6_mark_20 (by decide) ?_
      refine nh_iret hx hb hr rfl hlocks hw (Nat.zero_le _) (Nat.zero_le _) dX6_mark_22 ?_
      simp only [zf_mark, if_neg c5, if_pos c17]
      exact im_fin rfl rfl
  · refine lv_iconst (v := (-1)) hx hb dX6_mark_8 (by decide) ?_
    refine nh_iret hx hb hr rfl hlocks hw (Nat.zero_le _) (Nat.zero_le _) dX6_mark_9 ?_
    simp only [zf_mark, if_pos c5]
    exact im_fin rfl rfl
def zf_waits (J : (nh_N → Nat → Int32))  (a : Int32) : Int32 := (if (J (zA 11) a.toNatClampNeg) = 0 then (if (J (zA 8) a.toNatClampNeg) ≤ 0 then 0 else (if (J zM 17) < (J (zA 9) a.toNatClampNeg) then 0 else 1)) else 0)
set_option maxHeartbeats 4000000 in
set_option maxRecDepth 100000 in
theorem zc_waits (l : Launch) (D : va_G) (cA : Nat → ClassId) {S : nh_N → Option nh_C} {g : nh_N → Nat} {J : (nh_N → Nat → Int32)} {R : nh_N → Nat → Option nh_N} (hz : zSh S R) (a : Int32) (i : Nat) (hi : a = nI i) (hi2 : i < 200) : im_M l D cA yX6_waits vX6_waits 0 0 0 0 [.ref (g zM), .int a] S g J R (im_eq (some (.int (zf_waits J a))) S g J R) := by
  refine nh_of (cc := cX6_waits) (maxL := 2) (ret := (some .boolean)) (by decide) rfl (Nat.le_of_ble_eq_true rfl) ?_
  intro p e s m below meth c A ls hx hb hr hml hts hown hlocks hin hK hw hl
  have ht : ∀ w ∈ im_ws, w.before _ s = true := fun w h => hts w (List.mem_cons_of_mem _ h)
  have hl : lv_has ls 2 [(0, .ref (g zM)), (1, .int a)] := hl
  refine lv_aload_n hx hb dX6_waits_0 rfl (lv_at hl 0 rfl) ?_
  refine fg6 hx hb ht hown hK hw (zs_m hz) rfl 11 wf6_35 (by decide) (nh_vr rfl (zr11 hz)) dX6_waits_1 ?_
  refine lv_iload_n hx hb dX6_waits_4 rfl (lv_at hl 1 rfl) ?_
  refine az_ld hx hb hK hw (zs11 hz) rfl (ix_of i hi hi2 (by decide)) dX6_waits_5 ?_
  refine lv_if_ne (tgt := 35) hx hb dX6_waits_6 (by decide) (fun c6 => ?_) (fun c6 => ?_)
  · refine lv_iconst (v := 0) hx hb dX6_waits_35 (by decide) ?_
    refine nh_iret hx hb hr rfl hlocks hw (Nat.zero_le _) (Nat.zero_le _) dX6_waits_36 ?_
    simp only [zf_waits, if_neg c6]
    exact im_fin rfl rfl
  · refine lv_aload_n hx hb dX6_waits_9 rfl (lv_at hl 0 rfl) ?_
    refine fg6 hx hb ht hown hK hw (zs_m hz) rfl 8 wf6_26 (by decide) (nh_vr rfl (zr8 hz)) dX6_waits_10 ?_
    refine lv_iload_n hx hb dX6_waits_13 rfl (lv_at hl 1 rfl) ?_
    refine ai_ld hx hb hK hw (zs8 hz) rfl (ix_of i hi hi2 (by decide)) dX6_waits_14 ?_
    refine lv_if_le (tgt := 35) hx hb dX6_waits_15 (by decide) (fun c15 => ?_) (fun c15 => ?_)
    · refine lv_iconst (v := 0) hx hb dX6_waits_35 (by decide) ?_
      refine nh_iret hx hb hr rfl hlocks hw (Nat.zero_le _) (Nat.zero_le _) dX6_waits_36 ?_
      simp only [zf_waits, if_pos c6, if_pos c15]
      exact im_fin rfl rfl
    · refine lv_aload_n hx hb dX6_waits_18 rfl (lv_at hl 0 rfl) ?_
      refine fg6 hx hb ht hown hK hw (zs_m hz) rfl 9 wf6_29 (by decide) (nh_vr rfl (zr9 hz)) dX6_waits_19 ?_
      refine lv_iload_n hx hb dX6_waits_22 rfl (lv_at hl 1 rfl) ?_
      refine ai_ld hx hb hK hw (zs9 hz) rfl (ix_of i hi hi2 (by decide)) dX6_waits_23 ?_
      refine lv_aload_n hx hb dX6_waits_24 rfl (lv_at hl 0 rfl) ?_
      refine fg6 (v := .int (J zM 17)) hx hb ht hown hK hw (zs_m hz) rfl 17 wf6_86 (by decide) (nh_vi rfl) dX6_waits_25 ?_
      refine lv_icmp_gt (tgt := 35) hx hb dX6_waits_28 (by decide) (fun c28 => ?_) (fun c28 => ?_)
      · refine lv_iconst (v := 0) hx hb dX6_waits_35 (by decide) ?_
        refine nh_iret hx hb hr rfl hlocks hw (Nat.zero_le _) (Nat.zero_le _) dX6_waits_36 ?_
        simp only [zf_waits, if_pos c6, if_neg c15, if_pos c28]
        exact im_fin rfl rfl
      · refine lv_iconst (v := 1) hx hb dX6_waits_31 (by decide) ?_
        refine lv_goto (tgt := 36) hx hb dX6_waits_32 (by decide) ?_
        refine nh_iret hx hb hr rfl hlocks hw (Nat.zero_le _) (Nat.zero_le _) dX6_waits_36 ?_
        simp only [zf_waits, if_pos c6, if_neg c15, if_neg c28]
        exact im_fin rfl rfl
theorem zi_in {J : nh_N → Nat → Int32} {a x : Int32} {n N : Nat} (h : ¬ zf_in J a 0 (x - 1) = 0) (hx : x = nI n) (hn : n ≤ N) (hN : N < 2 ^ 30 := by decide) : vp_in a N := by
  unfold zf_in at h
  by_cases h1 : a < 0
  · simp [h1] at h
  · rw [if_neg h1] at h
    by_cases h2 : x - 1 < a
    · simp [h2] at h
    · obtain ⟨j, hj, rfl⟩ := nI_of h1
      refine vp_in_nI ?_ (by omega)
      subst hx
      rw [Int32.lt_iff_toInt_lt] at h2
      have e1 : (nI j).toInt = (j : Int) := nI_toInt hj
      have e2 : (nI n - 1).toInt = (n : Int) - 1 := by
        have := pk_sub_toInt (a := n) (b := 1) (by omega) (by omega)
        exact this
      rw [e1, e2] at h2
      omega
def zf_cancel (J : (nh_N → Nat → Int32))  (a : Int32) : Int32 × (nh_N → Nat → Int32) := (if (zf_in J a 0 ((J zM 6) - 1)) = 0 then ((-1), J) else (if 0 < (J (zA 12) a.toNatClampNeg) then ((-3), J) else (if (J (zA 11) a.toNatClampNeg) = 0 then (1, (iu (iu J (zA 11) a.toNatClampNeg 1) (zA 8) a.toNatClampNeg 0)) else ((-3), J))))
set_option maxHeartbeats 4000000 in
set_option maxRecDepth 100000 in
theorem zc_cancel (l : Launch) (D : va_G) (cA : Nat → ClassId) {S : nh_N → Option nh_C} {g : nh_N → Nat} {J : (nh_N → Nat → Int32)} {R : nh_N → Nat → Option nh_N} (hz : zSh S R) (a : Int32) (ni : Nat) (hni : J zM 6 = nI ni) (hi2 : ni ≤ 200) : im_M l D cA yX6_cancel vX6_cancel 1 22 0 0 [.ref (g zM), .int a] S g J R (im_eq (some (.int (zf_cancel J a).1)) S g (zf_cancel J a).2 R) := by
  refine nh_of (cc := cX6_cancel) (maxL := 2) (ret := (some .int)) (by decide) rfl (Nat.le_of_ble_eq_true rfl) ?_
  intro p e s m below meth c A ls hx hb hr hml hts hown hlocks hin hK hw hl
  have ht : ∀ w ∈ im_ws, w.before _ s = true := fun w h => hts w (List.mem_cons_of_mem _ h)
  have hl : lv_has ls 2 [(0, .ref (g zM)), (1, .int a)] := hl
  refine lv_iload_n hx hb dX6_cancel_0 rfl (lv_at hl 1 rfl) ?_
  refine lv_iconst (v := 0) hx hb dX6_cancel_1 (by decide) ?_
  refine lv_aload_n hx hb dX6_cancel_2 rfl (lv_at hl 0 rfl) ?_
  refine fg6 (v := .int (J zM 6)) hx hb ht hown hK hw (zs_m hz) rfl 6 wf6_89 (by decide) (nh_vi rfl) dX6_cancel_3 ?_
  refine lv_iconst (v := 1) hx hb dX6_cancel_6 (by decide) ?_
  refine lv_isub hx hb dX6_cancel_7 ?_
  refine kcX6_in (As := [.int a, .int 0, .int ((J zM 6) - 1)]) (rest := []) wm6_78 (zc_in l D cA a 0 ((J zM 6) - 1)) hx hb hml ht hown hK hw rfl hl.1 rfl (by simp [Value.category]) ⟨by decide, by decide⟩ ⟨by simp, by simp⟩ dX6_cancel_8 (fun v S1 g1 I1 R1 H locs hp hw => ?_)
  obtain ⟨rfl, h1, h2, h3, h4⟩ := hp
  rw [h1, h2, h3, h4] at hw
  clear h1 h2 h3 h4
  show W _ _ _ _ _ _ _ _ _ _ _ _ _ _ _ (F0 m 11 ls [.int (zf_in J a 0 ((J zM 6) - 1))])
  refine lv_if_ne (tgt := 16) hx hb dX6_cancel_11 (by decide) (fun c11 => ?_) (fun c11 => ?_)
  · refine lv_aload_n hx hb dX6_cancel_16 rfl (lv_at hl 0 rfl) ?_
    refine fg6 hx hb ht hown hK hw (zs_m hz) rfl 12 wf6_38 (by decide) (nh_vr rfl (zr12 hz)) dX6_cancel_17 ?_
    refine lv_iload_n hx hb dX6_cancel_20 rfl (lv_at hl 1 rfl) ?_
    refine ai_ld hx hb hK hw (zs12 hz) rfl (zi_in c11 hni hi2) dX6_cancel_21 ?_
    refine lv_if_gt (tgt := 34) hx hb dX6_cancel_22 (by decide) (fun c22 => ?_) (fun c22 => ?_)
    · refine lv_bipush (v := (-3)) hx hb dX6_cancel_34 (by decide) ?_
      refine nh_iret hx hb hr rfl hlocks hw (Nat.zero_le _) (Nat.zero_le _) dX6_cancel_36 ?_
      simp only [zf_cancel, if_neg c11, if_pos c22]
      exact im_fin rfl rfl
    · refine lv_aload_n hx hb dX6_cancel_25 rfl (lv_at hl 0 rfl) ?_
      refine fg6 hx hb ht hown hK hw (zs_m hz) rfl 11 wf6_35 (by decide) (nh_vr rfl (zr11 hz)) dX6_cancel_26 ?_
      refine lv_iload_n hx hb dX6_cancel_29 rfl (lv_at hl 1 rfl) ?_
      refine az_ld hx hb hK hw (zs11 hz) rfl (zi_in c11 hni hi2) dX6_cancel_30 ?_
      refine lv_if_eq (tgt := 37) hx hb dX6_cancel_31 (by decide) (fun c31 => ?_) (fun c31 => ?_)
      · refine lv_aload_n hx hb dX6_cancel_37 rfl (lv_at hl 0 rfl) ?_
        refine fg6 hx hb ht hown hK hw (zs_m hz) rfl 11 wf6_35 (by decide) (nh_vr rfl (zr11 hz)) dX6_cancel_38 ?_
        refine lv_iload_n hx hb dX6_cancel_41 rfl (lv_at hl 1 rfl) ?_
        refine lv_iconst (v := 1) hx hb dX6_cancel_42 (by decide) ?_
        refine az_st hx hb hK hw (zs11 hz) rfl (zi_in c11 hni hi2) rfl dX6_cancel_43 (fun H locs J1 eJ1 hw => ?_)
        refine lv_aload_n hx hb dX6_cancel_44 rfl (lv_at hl 0 rfl) ?_
        refine fg6 hx hb ht hown hK hw (zs_m hz) rfl 8 wf6_26 (by decide) (nh_vr rfl (zr8 hz)) dX6_cancel_45 ?_
        refine lv_iload_n hx hb dX6_cancel_48 rfl (lv_at hl 1 rfl) ?_
        refine lv_iconst (v := 0) hx hb dX6_cancel_49 (by decide) ?_
        refine ai_st hx hb hK hw (zs8 hz) rfl (zi_in c11 hni hi2) dX6_cancel_50 (fun H locs J2 eJ2 hw => ?_)
        refine lv_iconst (v := 1) hx hb dX6_cancel_51 (by decide) ?_
        refine nh_iret hx hb hr rfl hlocks hw (Nat.zero_le _) (Nat.zero_le _) dX6_cancel_52 ?_
        subst eJ2
        subst eJ1
        simp only [zf_cancel, if_neg c11, if_neg c22, if_pos c31]
        exact im_fin rfl rfl
      · refine lv_bipush (v := (-3)) hx hb dX6_cancel_34 (by decide) ?_
        refine nh_iret hx hb hr rfl hlocks hw (Nat.zero_le _) (Nat.zero_le _) dX6_cancel_36 ?_
        simp only [zf_cancel, if_neg c11, if_neg c22, if_neg c31]
        exact im_fin rfl rfl
  · refine lv_iconst (v := (-1)) hx hb dX6_cancel_14 (by decide) ?_
    refine nh_iret hx hb hr rfl hlocks hw (Nat.zero_le _) (Nat.zero_le _) dX6_cancel_15 ?_
    simp only [zf_cancel, if_pos c11]
    exact im_fin rfl rfl
def zl_standing (J : (nh_N → Nat → Int32))  (a : Int32) (b : Int32) : Nat → Nat → Int32 → Int32
  | 0, j, x3 => x3
  | r + 1, j, x3 => (if (J (zA 19) (nI j).toNatClampNeg) = a then (if b < 0 then zl_standing J  a b r (j + 1) (x3 + (J (zA 21) (nI j).toNatClampNeg)) else (if (J (zA 7) (J (zA 20) (nI j).toNatClampNeg).toNatClampNeg) = b then zl_standing J  a b r (j + 1) (x3 + (J (zA 21) (nI j).toNatClampNeg)) else zl_standing J  a b r (j + 1) (x3 + 0))) else zl_standing J  a b r (j + 1) (x3 + 0))
def zf_standing (J : (nh_N → Nat → Int32))  (np : Nat) (a : Int32) (b : Int32) : Int32 := zl_standing J  a b np 0 0
set_option maxHeartbeats 4000000 in
set_option maxRecDepth 100000 in
theorem zc_standing (l : Launch) (D : va_G) (cA : Nat → ClassId) {S : nh_N → Option nh_C} {g : nh_N → Nat} {J : (nh_N → Nat → Int32)} {R : nh_N → Nat → Option nh_N} (hz : zSh S R) (a : Int32) (b : Int32) (np : Nat) (hnp : J zM 18 = nI np) (hp9 : np ≤ 9000) (hpi : ∀ q, q < np → ∃ i, i < 200 ∧ J (zA 20) q = nI i) : im_M l D cA yX6_standing vX6_standing 0 0 0 0 [.ref (g zM), .int a, .int b] S g J R (im_eq (some (.int (zf_standing J  np a b))) S g J R) := by
  refine nh_of (cc := cX6_standing) (maxL := 5) (ret := (some .int)) (by decide) rfl (Nat.le_of_ble_eq_true rfl) ?_
  intro p e s m below meth c A ls hx hb hr hml hts hown hlocks hin hK hw hl
  have ht : ∀ w ∈ im_ws, w.before _ s = true := fun w h => hts w (List.mem_cons_of_mem _ h)
  have hl : lv_has ls 5 [(0, .ref (g zM)), (1, .int a), (2, .int b)] := hl
  have loop : ∀ (r j : Nat) (x3 : Int32) (ls : Array Slot) (H : Heap) (locs : List Loc), nh_S D im_cl im_sk cA A s.heap S g J R H locs → j + r = np → lv_has ls 5 [(0, .ref (g zM)), (1, .int a), (2, .int b), (3, .int x3), (4, .int (nI j))] → W p l e { frames := 0, cells := 0, slots := 0, locals := 0 } s m ([.ref (g zM), .int a, .int b] : List Value).toArray below meth c H locs 0 0 (MQ below (nh_Q D im_cl im_sk cA A (im_eq (some (.int (zl_standing J  a b r j x3))) S g J R)) ([.ref (g zM), .int a, .int b] : List Value).toArray s 0 0 A) (F0 m 5 ls []) := by
    intro r
    induction r with
    | zero =>
      intro j x3 ls H locs hw hj hl
      refine lv_iload hx hb dX6_standing_5 (lv_at hl 4 rfl) ?_
      refine lv_aload_n hx hb dX6_standing_7 rfl (lv_at hl 0 rfl) ?_
      refine fg6 (v := .int (J zM 18)) hx hb ht hown hK hw (zs_m hz) rfl 18 wf6_95 (by decide) (nh_vi rfl) dX6_standing_8 ?_
      refine lv_icmp_ge (tgt := 65) hx hb dX6_standing_11 (by decide) (fun c11 => ?_) (fun c11 => ?_)
      · refine lv_iload_n hx hb dX6_standing_65 rfl (lv_at hl 3 rfl) ?_
        refine nh_iret hx hb hr rfl hlocks hw (Nat.zero_le _) (Nat.zero_le _) dX6_standing_66 ?_
        exact im_fin rfl rfl
      · exact absurd (by rw [hnp]; exact nI_le (by omega) (by omega)) c11
    | succ r ih =>
      intro j x3 ls H locs hw hj hl
      have hj9 : vp_in (nI j) 9000 := vp_in_nI (by omega) (by decide)
      have hjc : (nI j).toNatClampNeg = j := nI_clamp (by omega)
      obtain ⟨i9, hi9, ei9⟩ := hpi j (by omega)
      refine lv_iload hx hb dX6_standing_5 (lv_at hl 4 rfl) ?_
      refine lv_aload_n hx hb dX6_standing_7 rfl (lv_at hl 0 rfl) ?_
      refine fg6 (v := .int (J zM 18)) hx hb ht hown hK hw (zs_m hz) rfl 18 wf6_95 (by decide) (nh_vi rfl) dX6_standing_8 ?_
      refine lv_icmp_ge (tgt := 65) hx hb dX6_standing_11 (by decide) (fun c11 => ?_) (fun c11 => ?_)
      · exact absurd c11 (by rw [hnp]; exact nI_ge (by omega) (by omega))
      · refine lv_iload_n hx hb dX6_standing_14 rfl (lv_at hl 3 rfl) ?_
        refine lv_aload_n hx hb dX6_standing_15 rfl (lv_at hl 0 rfl) ?_
        refine fg6 hx hb ht hown hK hw (zs_m hz) rfl 19 wf6_50 (by decide) (nh_vr rfl (zr19 hz)) dX6_standing_16 ?_
        refine lv_iload hx hb dX6_standing_19 (lv_at hl 4 rfl) ?_
        refine ai_ld hx hb hK hw (zs19 hz) rfl hj9 dX6_standing_21 ?_
        refine lv_iload_n hx hb dX6_standing_22 rfl (lv_at hl 1 rfl) ?_
        refine lv_icmp_ne (tgt := 56) hx hb dX6_standing_23 (by decide) (fun c23 => ?_) (fun c23 => ?_)
        · refine lv_iconst (v := 0) hx hb dX6_standing_56 (by decide) ?_
          refine lv_iadd hx hb dX6_standing_57 ?_
          refine lv_istore_n (lv' := [(3, .int (x3 + 0)), (0, .ref (g zM)), (1, .int a), (2, .int b), (4, .int (nI j))]) hx hb dX6_standing_58 rfl hl (by decide) rfl (fun ls hl => ?_)
          refine lv_iinc (v := (nI j) + 1) (lv' := [(4, .int ((nI j) + 1)), (3, .int (x3 + 0)), (0, .ref (g zM)), (1, .int a), (2, .int b)]) hx hb dX6_standing_59 hl (k := 4) rfl rfl (by decide) rfl (fun ls hl => ?_)
          refine lv_goto (tgt := 5) hx hb dX6_standing_62 (by decide) ?_
          have h9 : lv_has ls 5 [(0, .ref (g zM)), (1, .int a), (2, .int b), (3, .int (x3 + 0)), (4, .int ((nI j) + 1))] := lv_sub hl [2, 3, 4, 1, 0] rfl
          rw [nI_1] at h9
          simp only [zl_standing, if_neg c23]
          exact ih (j + 1) (x3 + 0) ls _ _ hw (by omega) h9
        · refine lv_iload_n hx hb dX6_standing_26 rfl (lv_at hl 2 rfl) ?_
          refine lv_if_lt (tgt := 46) hx hb dX6_standing_27 (by decide) (fun c27 => ?_) (fun c27 => ?_)
          · refine lv_aload_n hx hb dX6_standing_46 rfl (lv_at hl 0 rfl) ?_
            refine fg6 hx hb ht hown hK hw (zs_m hz) rfl 21 wf6_56 (by decide) (nh_vr rfl (zr21 hz)) dX6_standing_47 ?_
            refine lv_iload hx hb dX6_standing_50 (lv_at hl 4 rfl) ?_
            refine ai_ld hx hb hK hw (zs21 hz) rfl hj9 dX6_standing_52 ?_
            refine lv_goto (tgt := 57) hx hb dX6_standing_53 (by decide) ?_
            refine lv_iadd hx hb dX6_standing_57 ?_
            refine lv_istore_n (lv' := [(3, .int (x3 + (J (zA 21) (nI j).toNatClampNeg))), (0, .ref (g zM)), (1, .int a), (2, .int b), (4, .int (nI j))]) hx hb dX6_standing_58 rfl hl (by decide) rfl (fun ls hl => ?_)
            refine lv_iinc (v := (nI j) + 1) (lv' := [(4, .int ((nI j) + 1)), (3, .int (x3 + (J (zA 21) (nI j).toNatClampNeg))), (0, .ref (g zM)), (1, .int a), (2, .int b)]) hx hb dX6_standing_59 hl (k := 4) rfl rfl (by decide) rfl (fun ls hl => ?_)
            refine lv_goto (tgt := 5) hx hb dX6_standing_62 (by decide) ?_
            have h9 : lv_has ls 5 [(0, .ref (g zM)), (1, .int a), (2, .int b), (3, .int (x3 + (J (zA 21) (nI j).toNatClampNeg))), (4, .int ((nI j) + 1))] := lv_sub hl [2, 3, 4, 1, 0] rfl
            rw [nI_1] at h9
            simp only [zl_standing, if_pos c23, if_pos c27]
            exact ih (j + 1) (x3 + (J (zA 21) (nI j).toNatClampNeg)) ls _ _ hw (by omega) h9
          · refine lv_aload_n hx hb dX6_standing_30 rfl (lv_at hl 0 rfl) ?_
            refine fg6 hx hb ht hown hK hw (zs_m hz) rfl 7 wf6_23 (by decide) (nh_vr rfl (zr7 hz)) dX6_standing_31 ?_
            refine lv_aload_n hx hb dX6_standing_34 rfl (lv_at hl 0 rfl) ?_
            refine fg6 hx hb ht hown hK hw (zs_m hz) rfl 20 wf6_53 (by decide) (nh_vr rfl (zr20 hz)) dX6_standing_35 ?_
            refine lv_iload hx hb dX6_standing_38 (lv_at hl 4 rfl) ?_
            refine ai_ld hx hb hK hw (zs20 hz) rfl hj9 dX6_standing_40 ?_
            refine ai_ld hx hb hK hw (zs7 hz) rfl (ix_of i9 (by rw [hjc]; exact ei9) hi9 (by decide)) dX6_standing_41 ?_
            refine lv_iload_n hx hb dX6_standing_42 rfl (lv_at hl 2 rfl) ?_
            refine lv_icmp_ne (tgt := 56) hx hb dX6_standing_43 (by decide) (fun c43 => ?_) (fun c43 => ?_)
            · refine lv_iconst (v := 0) hx hb dX6_standing_56 (by decide) ?_
              refine lv_iadd hx hb dX6_standing_57 ?_
              refine lv_istore_n (lv' := [(3, .int (x3 + 0)), (0, .ref (g zM)), (1, .int a), (2, .int b), (4, .int (nI j))]) hx hb dX6_standing_58 rfl hl (by decide) rfl (fun ls hl => ?_)
              refine lv_iinc (v := (nI j) + 1) (lv' := [(4, .int ((nI j) + 1)), (3, .int (x3 + 0)), (0, .ref (g zM)), (1, .int a), (2, .int b)]) hx hb dX6_standing_59 hl (k := 4) rfl rfl (by decide) rfl (fun ls hl => ?_)
              refine lv_goto (tgt := 5) hx hb dX6_standing_62 (by decide) ?_
              have h9 : lv_has ls 5 [(0, .ref (g zM)), (1, .int a), (2, .int b), (3, .int (x3 + 0)), (4, .int ((nI j) + 1))] := lv_sub hl [2, 3, 4, 1, 0] rfl
              rw [nI_1] at h9
              simp only [zl_standing, if_pos c23, if_neg c27, if_neg c43]
              exact ih (j + 1) (x3 + 0) ls _ _ hw (by omega) h9
            · refine lv_aload_n hx hb dX6_standing_46 rfl (lv_at hl 0 rfl) ?_
              refine fg6 hx hb ht hown hK hw (zs_m hz) rfl 21 wf6_56 (by decide) (nh_vr rfl (zr21 hz)) dX6_standing_47 ?_
              refine lv_iload hx hb dX6_standing_50 (lv_at hl 4 rfl) ?_
              refine ai_ld hx hb hK hw (zs21 hz) rfl hj9 dX6_standing_52 ?_
              refine lv_goto (tgt := 57) hx hb dX6_standing_53 (by decide) ?_
              refine lv_iadd hx hb dX6_standing_57 ?_
              refine lv_istore_n (lv' := [(3, .int (x3 + (J (zA 21) (nI j).toNatClampNeg))), (0, .ref (g zM)), (1, .int a), (2, .int b), (4, .int (nI j))]) hx hb dX6_standing_58 rfl hl (by decide) rfl (fun ls hl => ?_)
              refine lv_iinc (v := (nI j) + 1) (lv' := [(4, .int ((nI j) + 1)), (3, .int (x3 + (J (zA 21) (nI j).toNatClampNeg))), (0, .ref (g zM)), (1, .int a), (2, .int b)]) hx hb dX6_standing_59 hl (k := 4) rfl rfl (by decide) rfl (fun ls hl => ?_)
              refine lv_goto (tgt := 5) hx hb dX6_standing_62 (by decide) ?_
              have h9 : lv_has ls 5 [(0, .ref (g zM)), (1, .int a), (2, .int b), (3, .int (x3 + (J (zA 21) (nI j).toNatClampNeg))), (4, .int ((nI j) + 1))] := lv_sub hl [2, 3, 4, 1, 0] rfl
              rw [nI_1] at h9
              simp only [zl_standing, if_pos c23, if_neg c27, if_pos c43]
              exact ih (j + 1) (x3 + (J (zA 21) (nI j).toNatClampNeg)) ls _ _ hw (by omega) h9
  refine lv_iconst (v := 0) hx hb dX6_standing_0 (by decide) ?_
  refine lv_istore_n (lv' := [(3, .int 0), (0, .ref (g zM)), (1, .int a), (2, .int b)]) hx hb dX6_standing_1 rfl hl (by decide) rfl (fun ls hl => ?_)
  refine lv_iconst (v := 0) hx hb dX6_standing_2 (by decide) ?_
  refine lv_istore (lv' := [(4, .int 0), (3, .int 0), (0, .ref (g zM)), (1, .int a), (2, .int b)]) hx hb dX6_standing_3 hl (by decide) rfl (fun ls hl => ?_)
  exact loop np 0 0 ls _ _ hw (by omega) (by rw [nI_0]; exact lv_sub hl [2, 3, 4, 1, 0] rfl)
def zl_isIn (J : (nh_N → Nat → Int32))  (a : Int32) (b : Int32) : Nat → Nat → Int32 → Int32
  | 0, j, x3 => x3
  | r + 1, j, x3 => (if x3 = 0 then (if (J (zA 26) (nI j).toNatClampNeg) = a then zl_isIn J  a b r (j + 1) 1 else zl_isIn J  a b r (j + 1) 0) else zl_isIn J  a b r (j + 1) 1)
def zf_isIn (J : (nh_N → Nat → Int32))  (mn : Nat) (a : Int32) (b : Int32) : Int32 := zl_isIn J  a b mn 0 0
set_option maxHeartbeats 4000000 in
set_option maxRecDepth 100000 in
theorem zc_isIn (l : Launch) (D : va_G) (cA : Nat → ClassId) {S : nh_N → Option nh_C} {g : nh_N → Nat} {J : (nh_N → Nat → Int32)} {R : nh_N → Nat → Option nh_N} (hz : zSh S R) (a : Int32) (b : Int32) (mn : Nat) (hmn : b = nI mn) (hm2 : mn ≤ 200) : im_M l D cA yX6_isIn vX6_isIn 0 0 0 0 [.ref (g zM), .int a, .int b] S g J R (im_eq (some (.int (zf_isIn J  mn a b))) S g J R) := by
  refine nh_of (cc := cX6_isIn) (maxL := 5) (ret := (some .boolean)) (by decide) rfl (Nat.le_of_ble_eq_true rfl) ?_
  intro p e s m below meth c A ls hx hb hr hml hts hown hlocks hin hK hw hl
  have ht : ∀ w ∈ im_ws, w.before _ s = true := fun w h => hts w (List.mem_cons_of_mem _ h)
  have hl : lv_has ls 5 [(0, .ref (g zM)), (1, .int a), (2, .int b)] := hl
  have loop : ∀ (r j : Nat) (x3 : Int32) (ls : Array Slot) (H : Heap) (locs : List Loc), nh_S D im_cl im_sk cA A s.heap S g J R H locs → j + r = mn → (x3 = 0 ∨ x3 = 1) → lv_has ls 5 [(0, .ref (g zM)), (1, .int a), (2, .int b), (3, .int x3), (4, .int (nI j))] → W p l e { frames := 0, cells := 0, slots := 0, locals := 0 } s m ([.ref (g zM), .int a, .int b] : List Value).toArray below meth c H locs 0 0 (MQ below (nh_Q D im_cl im_sk cA A (im_eq (some (.int (zl_isIn J  a b r j x3))) S g J R)) ([.ref (g zM), .int a, .int b] : List Value).toArray s 0 0 A) (F0 m 5 ls []) := by
    intro r
    induction r with
    | zero =>
      intro j x3 ls H locs hw hj hinv hl
      refine lv_iload hx hb dX6_isIn_5 (lv_at hl 4 rfl) ?_
      refine lv_iload_n hx hb dX6_isIn_7 rfl (lv_at hl 2 rfl) ?_
      refine lv_icmp_ge (tgt := 38) hx hb dX6_isIn_8 (by decide) (fun c8 => ?_) (fun c8 => ?_)
      · refine lv_iload_n hx hb dX6_isIn_38 rfl (lv_at hl 3 rfl) ?_
        refine nh_iret hx hb hr (nb_of hinv) hlocks hw (Nat.zero_le _) (Nat.zero_le _) dX6_isIn_39 ?_
        exact im_fin rfl rfl
      · exact absurd (by rw [hmn]; exact nI_le (by omega) (by omega)) c8
    | succ r ih =>
      intro j x3 ls H locs hw hj hinv hl
      have hj9 : vp_in (nI j) 200 := vp_in_nI (by omega) (by decide)
      refine lv_iload hx hb dX6_isIn_5 (lv_at hl 4 rfl) ?_
      refine lv_iload_n hx hb dX6_isIn_7 rfl (lv_at hl 2 rfl) ?_
      refine lv_icmp_ge (tgt := 38) hx hb dX6_isIn_8 (by decide) (fun c8 => ?_) (fun c8 => ?_)
      · exact absurd c8 (by rw [hmn]; exact nI_ge (by omega) (by omega))
      · refine lv_iload_n hx hb dX6_isIn_11 rfl (lv_at hl 3 rfl) ?_
        refine lv_if_ne (tgt := 26) hx hb dX6_isIn_12 (by decide) (fun c12 => ?_) (fun c12 => ?_)
        · refine lv_iconst (v := 1) hx hb dX6_isIn_26 (by decide) ?_
          refine lv_goto (tgt := 31) hx hb dX6_isIn_27 (by decide) ?_
          refine lv_istore_n (lv' := [(3, .int 1), (0, .ref (g zM)), (1, .int a), (2, .int b), (4, .int (nI j))]) hx hb dX6_isIn_31 rfl hl (by decide) rfl (fun ls hl => ?_)
          refine lv_iinc (v := (nI j) + 1) (lv' := [(4, .int ((nI j) + 1)), (3, .int 1), (0, .ref (g zM)), (1, .int a), (2, .int b)]) hx hb dX6_isIn_32 hl (k := 4) rfl rfl (by decide) rfl (fun ls hl => ?_)
          refine lv_goto (tgt := 5) hx hb dX6_isIn_35 (by decide) ?_
          have h9 : lv_has ls 5 [(0, .ref (g zM)), (1, .int a), (2, .int b), (3, .int 1), (4, .int ((nI j) + 1))] := lv_sub hl [2, 3, 4, 1, 0] rfl
          rw [nI_1] at h9
          simp only [zl_isIn, if_neg c12]
          exact ih (j + 1) 1 ls _ _ hw (by omega) (by simp) h9
        · refine lv_aload_n hx hb dX6_isIn_15 rfl (lv_at hl 0 rfl) ?_
          refine fg6 hx hb ht hown hK hw (zs_m hz) rfl 26 wf6_65 (by decide) (nh_vr rfl (zr26 hz)) dX6_isIn_16 ?_
          refine lv_iload hx hb dX6_isIn_19 (lv_at hl 4 rfl) ?_
          refine ai_ld hx hb hK hw (zs26 hz) rfl hj9 dX6_isIn_21 ?_
          refine lv_iload_n hx hb dX6_isIn_22 rfl (lv_at hl 1 rfl) ?_
          refine lv_icmp_ne (tgt := 30) hx hb dX6_isIn_23 (by decide) (fun c23 => ?_) (fun c23 => ?_)
          · refine lv_iconst (v := 0) hx hb dX6_isIn_30 (by decide) ?_
            refine lv_istore_n (lv' := [(3, .int 0), (0, .ref (g zM)), (1, .int a), (2, .int b), (4, .int (nI j))]) hx hb dX6_isIn_31 rfl hl (by decide) rfl (fun ls hl => ?_)
            refine lv_iinc (v := (nI j) + 1) (lv' := [(4, .int ((nI j) + 1)), (3, .int 0), (0, .ref (g zM)), (1, .int a), (2, .int b)]) hx hb dX6_isIn_32 hl (k := 4) rfl rfl (by decide) rfl (fun ls hl => ?_)
            refine lv_goto (tgt := 5) hx hb dX6_isIn_35 (by decide) ?_
            have h9 : lv_has ls 5 [(0, .ref (g zM)), (1, .int a), (2, .int b), (3, .int 0), (4, .int ((nI j) + 1))] := lv_sub hl [2, 3, 4, 1, 0] rfl
            rw [nI_1] at h9
            simp only [zl_isIn, if_pos c12, if_neg c23]
            exact ih (j + 1) 0 ls _ _ hw (by omega) (by simp) h9
          · refine lv_iconst (v := 1) hx hb dX6_isIn_26 (by decide) ?_
            refine lv_goto (tgt := 31) hx hb dX6_isIn_27 (by decide) ?_
            refine lv_istore_n (lv' := [(3, .int 1), (0, .ref (g zM)), (1, .int a), (2, .int b), (4, .int (nI j))]) hx hb dX6_isIn_31 rfl hl (by decide) rfl (fun ls hl => ?_)
            refine lv_iinc (v := (nI j) + 1) (lv' := [(4, .int ((nI j) + 1)), (3, .int 1), (0, .ref (g zM)), (1, .int a), (2, .int b)]) hx hb dX6_isIn_32 hl (k := 4) rfl rfl (by decide) rfl (fun ls hl => ?_)
            refine lv_goto (tgt := 5) hx hb dX6_isIn_35 (by decide) ?_
            have h9 : lv_has ls 5 [(0, .ref (g zM)), (1, .int a), (2, .int b), (3, .int 1), (4, .int ((nI j) + 1))] := lv_sub hl [2, 3, 4, 1, 0] rfl
            rw [nI_1] at h9
            simp only [zl_isIn, if_pos c12, if_pos c23]
            exact ih (j + 1) 1 ls _ _ hw (by omega) (by simp) h9
  refine lv_iconst (v := 0) hx hb dX6_isIn_0 (by decide) ?_
  refine lv_istore_n (lv' := [(3, .int 0), (0, .ref (g zM)), (1, .int a), (2, .int b)]) hx hb dX6_isIn_1 rfl hl (by decide) rfl (fun ls hl => ?_)
  refine lv_iconst (v := 0) hx hb dX6_isIn_2 (by decide) ?_
  refine lv_istore (lv' := [(4, .int 0), (3, .int 0), (0, .ref (g zM)), (1, .int a), (2, .int b)]) hx hb dX6_isIn_3 hl (by decide) rfl (fun ls hl => ?_)
  exact loop mn 0 0 ls _ _ hw (by omega) (by simp) (by rw [nI_0]; exact lv_sub hl [2, 3, 4, 1, 0] rfl)
theorem zb_isIn (J : nh_N → Nat → Int32) (a b : Int32) : ∀ (r j : Nat) (x : Int32), x = 0 ∨ x = 1 → zl_isIn J a b r j x = 0 ∨ zl_isIn J a b r j x = 1 := by
  intro r
  induction r with
  | zero => intro j x h; exact h
  | succ r ih =>
    intro j x h
    unfold zl_isIn
    split
    · split <;> exact ih _ _ (by simp)
    · exact ih _ _ (by simp)
theorem zb_waits (J : nh_N → Nat → Int32) (a : Int32) : zf_waits J a = 0 ∨ zf_waits J a = 1 := by
  unfold zf_waits
  split <;> (try split) <;> (try split) <;> simp
