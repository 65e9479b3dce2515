def zl_partAt (J : (nh_N → Nat → Int32))  (a : Int32) (b : Int32) : Nat → Nat → Int32 → Int32
  | 0, j, x3 => (-1)
  | r + 1, j, x3 => (if b < 0 then (-1) else (if (J (zA 19) (nI j).toNatClampNeg) = a then (if x3 = 0 then (nI j) else zl_partAt J  a b r (j + 1) (x3 + (-1))) else zl_partAt J  a b r (j + 1) x3))
def zf_partAt (J : (nh_N → Nat → Int32))  (np : Nat) (a : Int32) (b : Int32) : Int32 := zl_partAt J  a b np 0 b
set_option maxHeartbeats 4000000 in
set_option maxRecDepth 100000 in
theorem zc_partAt (l : Launch) (D : va_G) (cA : Nat → ClassId) {S : nh_N → Option nh_C} {g : nh_N → Nat} {J : (nh_N → Nat → Int32)} {R : nh_N → Nat → Option nh_N} (hz : zSh S R) (a : Int32) (b : Int32) (np : Nat) (hnp : J zM 18 = nI np) (hp9 : np ≤ 9000) : im_M l D cA yX6_partAt vX6_partAt 0 0 0 0 [.ref (g zM), .int a, .int b] S g J R (im_eq (some (.int (zf_partAt J  np a b))) S g J R) := by
  refine nh_of (cc := cX6_partAt) (maxL := 5) (ret := (some .int)) (by decide) rfl (Nat.le_of_ble_eq_true rfl) ?_
  intro p e s m below meth c A ls hx hb hr hml hts hown hlocks hin hK hw hl
  have ht : ∀ w ∈ im_ws, w.before _ s = true := fun w h => hts w (List.mem_cons_of_mem _ h)
  have hl : lv_has ls 5 [(0, .ref (g zM)), (1, .int a), (2, .int b)] := hl
  have loop : ∀ (r j : Nat) (x3 : Int32) (ls : Array Slot) (H : Heap) (locs : List Loc), nh_S D im_cl im_sk cA A s.heap S g J R H locs → j + r = np → lv_has ls 5 [(0, .ref (g zM)), (1, .int a), (2, .int b), (3, .int x3), (4, .int (nI j))] → W p l e { frames := 0, cells := 0, slots := 0, locals := 0 } s m ([.ref (g zM), .int a, .int b] : List Value).toArray below meth c H locs 0 0 (MQ below (nh_Q D im_cl im_sk cA A (im_eq (some (.int (zl_partAt J  a b r j x3))) S g J R)) ([.ref (g zM), .int a, .int b] : List Value).toArray s 0 0 A) (F0 m 5 ls []) := by
    intro r
    induction r with
    | zero =>
      intro j x3 ls H locs hw hj hl
      refine lv_iload hx hb dX6_partAt_5 (lv_at hl 4 rfl) ?_
      refine lv_aload_n hx hb dX6_partAt_7 rfl (lv_at hl 0 rfl) ?_
      refine fg6 (v := .int (J zM 18)) hx hb ht hown hK hw (zs_m hz) rfl 18 wf6_95 (by decide) (nh_vi rfl) dX6_partAt_8 ?_
      refine lv_icmp_ge (tgt := 45) hx hb dX6_partAt_11 (by decide) (fun c11 => ?_) (fun c11 => ?_)
      · refine lv_iconst (v := (-1)) hx hb dX6_partAt_45 (by decide) ?_
        refine nh_iret hx hb hr rfl hlocks hw (Nat.zero_le _) (Nat.zero_le _) dX6_partAt_46 ?_
        exact im_fin rfl rfl
      · exact absurd (by rw [hnp]; exact nI_le (by omega) (by omega)) c11
    | succ r ih =>
      intro j x3 ls H locs hw hj hl
      have hj9 : vp_in (nI j) 9000 := vp_in_nI (by omega) (by decide)
      refine lv_iload hx hb dX6_partAt_5 (lv_at hl 4 rfl) ?_
      refine lv_aload_n hx hb dX6_partAt_7 rfl (lv_at hl 0 rfl) ?_
      refine fg6 (v := .int (J zM 18)) hx hb ht hown hK hw (zs_m hz) rfl 18 wf6_95 (by decide) (nh_vi rfl) dX6_partAt_8 ?_
      refine lv_icmp_ge (tgt := 45) hx hb dX6_partAt_11 (by decide) (fun c11 => ?_) (fun c11 => ?_)
      · exact absurd c11 (by rw [hnp]; exact nI_ge (by omega) (by omega))
      · refine lv_iload_n hx hb dX6_partAt_14 rfl (lv_at hl 2 rfl) ?_
        refine lv_if_lt (tgt := 45) hx hb dX6_partAt_15 (by decide) (fun c15 => ?_) (fun c15 => ?_)
        · refine lv_iconst (v := (-1)) hx hb dX6_partAt_45 (by decide) ?_
          refine nh_iret hx hb hr rfl hlocks hw (Nat.zero_le _) (Nat.zero_le _) dX6_partAt_46 ?_
          simp only [zl_partAt, if_pos c15]
          exact im_fin rfl rfl
        · refine lv_aload_n hx hb dX6_partAt_18 rfl (lv_at hl 0 rfl) ?_
          refine fg6 hx hb ht hown hK hw (zs_m hz) rfl 19 wf6_50 (by decide) (nh_vr rfl (zr19 hz)) dX6_partAt_19 ?_
          refine lv_iload hx hb dX6_partAt_22 (lv_at hl 4 rfl) ?_
          refine ai_ld hx hb hK hw (zs19 hz) rfl hj9 dX6_partAt_24 ?_
          refine lv_iload_n hx hb dX6_partAt_25 rfl (lv_at hl 1 rfl) ?_
          refine lv_icmp_ne (tgt := 39) hx hb dX6_partAt_26 (by decide) (fun c26 => ?_) (fun c26 => ?_)
          · refine lv_iinc (v := (nI j) + 1) (lv' := [(4, .int ((nI j) + 1)), (0, .ref (g zM)), (1, .int a), (2, .int b), (3, .int x3)]) hx hb dX6_partAt_39 hl (k := 4) rfl rfl (by decide) rfl (fun ls hl => ?_)
            refine lv_goto (tgt := 5) hx hb dX6_partAt_42 (by decide) ?_
            have h9 : lv_has ls 5 [(0, .ref (g zM)), (1, .int a), (2, .int b), (3, .int x3), (4, .int ((nI j) + 1))] := lv_sub hl [1, 2, 3, 4, 0] rfl
            rw [nI_1] at h9
            simp only [zl_partAt, if_neg c15, if_neg c26]
            exact ih (j + 1) x3 ls _ _ hw (by omega) h9
          · refine lv_iload_n hx hb dX6_partAt_29 rfl (lv_at hl 3 rfl) ?_
            refine lv_if_ne (tgt := 36) hx hb dX6_partAt_30 (by decide) (fun c30 => ?_) (fun c30 => ?_)
            · refine lv_iinc (v := x3 + (-1)) (lv' := [(3, .int (x3 + (-1))), (0, .ref (g zM)), (1, .int a), (2, .int b), (4, .int (nI j))]) hx hb dX6_partAt_36 hl (k := 3) rfl rfl (by decide) rfl (fun ls hl => ?_)
              refine lv_iinc (v := (nI j) + 1) (lv' := [(4, .int ((nI j) + 1)), (3, .int (x3 + (-1))), (0, .ref (g zM)), (1, .int a), (2, .int b)]) hx hb dX6_partAt_39 hl (k := 4) rfl rfl (by decide) rfl (fun ls hl => ?_)
              refine lv_goto (tgt := 5) hx hb dX6_partAt_42 (by decide) ?_
              have h9 : lv_has ls 5 [(0, .ref (g zM)), (1, .int a), (2, .int b), (3, .int (x3 + (-1))), (4, .int ((nI j) + 1))] := lv_sub hl [2, 3, 4, 1, 0] rfl
              rw [nI_1] at h9
              simp only [zl_partAt, if_neg c15, if_pos c26, if_neg c30]
              exact ih (j + 1) (x3 + (-1)) ls _ _ hw (by omega) h9
            · refine lv_iload hx hb dX6_partAt_33 (lv_at hl 4 rfl) ?_
              refine nh_iret hx hb hr rfl hlocks hw (Nat.zero_le _) (Nat.zero_le _) dX6_partAt_35 ?_
              simp only [zl_partAt, if_neg c15, if_pos c26, if_pos c30]
              exact im_fin rfl rfl
  refine lv_iload_n hx hb dX6_partAt_0 rfl (lv_at hl 2 rfl) ?_
  refine lv_istore_n (lv' := [(3, .int b), (0, .ref (g zM)), (1, .int a), (2, .int b)]) hx hb dX6_partAt_1 rfl hl (by decide) rfl (fun ls hl => ?_)
  refine lv_iconst (v := 0) hx hb dX6_partAt_2 (by decide) ?_
  refine lv_istore (lv' := [(4, .int 0), (3, .int b), (0, .ref (g zM)), (1, .int a), (2, .int b)]) hx hb dX6_partAt_3 hl (by decide) rfl (fun ls hl => ?_)
  exact loop np 0 b ls _ _ hw (by omega) (by rw [nI_0]; exact lv_sub hl [2, 3, 4, 1, 0] rfl)
theorem zb_partAt (J : nh_N → Nat → Int32) (a b : Int32) : ∀ (r j : Nat) (x : Int32) (N : Nat), j + r ≤ N → zl_partAt J a b r j x = -1 ∨ ∃ q, q < N ∧ zl_partAt J a b r j x = nI q := by
  intro r
  induction r with
  | zero => intro j x N h; exact Or.inl rfl
  | succ r ih =>
    intro j x N h
    unfold zl_partAt
    split
    · exact Or.inl rfl
    · split
      · split
        · exact Or.inr ⟨j, by omega, rfl⟩
        · exact ih _ _ N (by omega)
      · exact ih _ _ N (by omega)
theorem zx_partAt {J : nh_N → Nat → Int32} {np N : Nat} {a b : Int32} (hN : np ≤ N) (hN2 : N < 2 ^ 31) (h : ¬ zf_partAt J np a b < 0) : ∃ q, q < np ∧ zf_partAt J np a b = nI q := by
  rcases zb_partAt J a b np 0 b np (by omega) with h1 | h1
  · exact absurd (by show zl_partAt J a b np 0 b < 0; rw [h1]; decide) h
  · exact h1
def zf_placed (J : (nh_N → Nat → Int32)) (np : Nat) (a : Int32) (b : Int32) (d : Int32) : Int32 := (if (zf_partAt J np a b) < 0 then (-1) else (if (zf_in J d 0 3) = 0 then (-1) else (if d = 0 then (J (zA 20) (zf_partAt J np a b).toNatClampNeg) else (if d = 1 then (J (zA 21) (zf_partAt J np a b).toNatClampNeg) else (if d = 2 then (J (zA 10) (J (zA 20) (zf_partAt J np a b).toNatClampNeg).toNatClampNeg) else (if (J (zA 22) (zf_partAt J np a b).toNatClampNeg) = 0 then 0 else 1))))))
set_option maxHeartbeats 4000000 in
set_option maxRecDepth 100000 in
theorem zc_placed (l : Launch) (D : va_G) (cA : Nat → ClassId) {S : nh_N → Option nh_C} {g : nh_N → Nat} {J : (nh_N → Nat → Int32)} {R : nh_N → Nat → Option nh_N} (hz : zSh S R) (a : Int32) (b : Int32) (d : Int32) (np : Nat) (hnp : J zM 18 = nI np) (hp9 : np ≤ 9000) (hpi : ∀ q, q < np → ∃ i, i < 200 ∧ J (zA 20) q = nI i) : im_M l D cA yX6_placed vX6_placed 1 24 0 0 [.ref (g zM), .int a, .int b, .int d] S g J R (im_eq (some (.int (zf_placed J np a b d))) S g J R) := by
  refine nh_of (cc := cX6_placed) (maxL := 5) (ret := (some .int)) (by decide) rfl (Nat.le_of_ble_eq_true rfl) ?_
  intro p e s m below meth c A ls hx hb hr hml hts hown hlocks hin hK hw hl
  have ht : ∀ w ∈ im_ws, w.before _ s = true := fun w h => hts w (List.mem_cons_of_mem _ h)
  have hl : lv_has ls 5 [(0, .ref (g zM)), (1, .int a), (2, .int b), (3, .int d)] := hl
  refine lv_aload_n hx hb dX6_placed_0 rfl (lv_at hl 0 rfl) ?_
  refine lv_iload_n hx hb dX6_placed_1 rfl (lv_at hl 1 rfl) ?_
  refine lv_iload_n hx hb dX6_placed_2 rfl (lv_at hl 2 rfl) ?_
  refine kcX6_partAt (As := [.int a, .int b]) (rest := []) wm6_131 (zc_partAt l D cA hz a b np hnp hp9) hx hb hml ht hown hK hw (zs_m hz) rfl rfl hl.1 rfl (by simp [Value.category]) ⟨by decide, by decide⟩ ⟨by simp, by simp⟩ dX6_placed_3 (fun v S1 g1 I1 R1 H locs hp hw => ?_)
  obtain ⟨rfl, h1, h2, h3, h4⟩ := hp
  rw [h1, h2, h3, h4] at hw
  clear h1 h2 h3 h4
  show W _ _ _ _ _ _ _ _ _ _ _ _ _ _ _ (F0 m 6 ls [.int (zf_partAt J np a b)])
  refine lv_istore (lv' := [(4, .int (zf_partAt J np a b)), (0, .ref (g zM)), (1, .int a), (2, .int b), (3, .int d)]) hx hb dX6_placed_6 hl (by decide) rfl (fun ls hl => ?_)
  refine lv_iload hx hb dX6_placed_8 (lv_at hl 0 rfl) ?_
  refine lv_if_lt (tgt := 22) hx hb dX6_placed_10 (by decide) (fun c10 => ?_) (fun c10 => ?_)
  · refine lv_iconst (v := (-1)) hx hb dX6_placed_22 (by decide) ?_
    refine nh_iret hx hb hr rfl hlocks hw (Nat.zero_le _) (Nat.zero_le _) dX6_placed_23 ?_
    simp only [zf_placed, if_pos c10]
    exact im_fin rfl rfl
  · refine lv_iload_n hx hb dX6_placed_13 rfl (lv_at hl 4 rfl) ?_
    refine lv_iconst (v := 0) hx hb dX6_placed_14 (by decide) ?_
    refine lv_iconst (v := 3) hx hb dX6_placed_15 (by decide) ?_
    refine kcX6_in (As := [.int d, .int 0, .int 3]) (rest := []) wm6_78 (zc_in l D cA d 0 3) hx hb hml ht hown hK hw rfl hl.1 rfl (by simp [Value.category]) ⟨by decide, by decide⟩ ⟨by simp, by simp⟩ dX6_placed_16 (fun v S1 g1 I1 R1 H locs hp hw => ?_)
    obtain ⟨rfl, h1, h2, h3, h4⟩ := hp
    rw [h1, h2, h3, h4] at hw
    clear h1 h2 h3 h4
    show W _ _ _ _ _ _ _ _ _ _ _ _ _ _ _ (F0 m 19 ls [.int (zf_in J d 0 3)])
    refine lv_if_ne (tgt := 24) hx hb dX6_placed_19 (by decide) (fun c19 => ?_) (fun c19 => ?_)
    · obtain ⟨q9, hq9, eq9⟩ := zx_partAt (N := np) (Nat.le_refl _) (by omega) c10
      have hj9 : vp_in (zf_partAt J np a b) 9000 := ix_of q9 eq9 (by omega) (by decide)
      obtain ⟨i9, hi9, ei9⟩ := hpi q9 hq9
      have ei8 : J (zA 20) (zf_partAt J np a b).toNatClampNeg = nI i9 := by rw [eq9, nI_clamp (by omega)]; exact ei9
      refine lv_iload_n hx hb dX6_placed_24 rfl (lv_at hl 4 rfl) ?_
      refine lv_if_ne (tgt := 38) hx hb dX6_placed_25 (by decide) (fun c25 => ?_) (fun c25 => ?_)
      · refine lv_iload_n hx hb dX6_placed_38 rfl (lv_at hl 4 rfl) ?_
        refine lv_iconst (v := 1) hx hb dX6_placed_39 (by decide) ?_
        refine lv_icmp_ne (tgt := 53) hx hb dX6_placed_40 (by decide) (fun c40 => ?_) (fun c40 => ?_)
        · refine lv_iload_n hx hb dX6_placed_53 rfl (lv_at hl 4 rfl) ?_
          refine lv_iconst (v := 2) hx hb dX6_placed_54 (by decide) ?_
          refine lv_icmp_ne (tgt := 73) hx hb dX6_placed_55 (by decide) (fun c55 => ?_) (fun c55 => ?_)
          · refine lv_aload_n hx hb dX6_placed_73 rfl (lv_at hl 1 rfl) ?_
            refine fg6 hx hb ht hown hK hw (zs_m hz) rfl 22 wf6_59 (by decide) (nh_vr rfl (zr22 hz)) dX6_placed_74 ?_
            refine lv_iload hx hb dX6_placed_77 (lv_at hl 0 rfl) ?_
            refine az_ld hx hb hK hw (zs22 hz) rfl hj9 dX6_placed_79 ?_
            refine lv_if_eq (tgt := 87) hx hb dX6_placed_80 (by decide) (fun c80 => ?_) (fun c80 => ?_)
            · refine lv_iconst (v := 0) hx hb dX6_placed_87 (by decide) ?_
              refine nh_iret hx hb hr rfl hlocks hw (Nat.zero_le _) (Nat.zero_le _) dX6_placed_88 ?_
              simp only [zf_placed, if_neg c10, if_neg c19, if_neg c25, if_neg c40, if_neg c55, if_pos c80]
              exact im_fin rfl rfl
            · refine lv_iconst (v := 1) hx hb dX6_placed_83 (by decide) ?_
              refine lv_goto (tgt := 88) hx hb dX6_placed_84 (by decide) ?_
              refine nh_iret hx hb hr rfl hlocks hw (Nat.zero_le _) (Nat.zero_le _) dX6_placed_88 ?_
              simp only [zf_placed, if_neg c10, if_neg c19, if_neg c25, if_neg c40, if_neg c55, if_neg c80]
              exact im_fin rfl rfl
          · refine lv_aload_n hx hb dX6_placed_58 rfl (lv_at hl 1 rfl) ?_
            refine fg6 hx hb ht hown hK hw (zs_m hz) rfl 10 wf6_32 (by decide) (nh_vr rfl (zr10 hz)) dX6_placed_59 ?_
            refine lv_aload_n hx hb dX6_placed_62 rfl (lv_at hl 1 rfl) ?_
            refine fg6 hx hb ht hown hK hw (zs_m hz) rfl 20 wf6_53 (by decide) (nh_vr rfl (zr20 hz)) dX6_placed_63 ?_
            refine lv_iload hx hb dX6_placed_66 (lv_at hl 0 rfl) ?_
            refine ai_ld hx hb hK hw (zs20 hz) rfl hj9 dX6_placed_68 ?_
            refine ai_ld hx hb hK hw (zs10 hz) rfl (ix_of i9 ei8 hi9 (by decide)) dX6_placed_69 ?_
            refine lv_goto (tgt := 88) hx hb dX6_placed_70 (by decide) ?_
            refine nh_iret hx hb hr rfl hlocks hw (Nat.zero_le _) (Nat.zero_le _) dX6_placed_88 ?_
            simp only [zf_placed, if_neg c10, if_neg c19, if_neg c25, if_neg c40, if_pos c55]
            exact im_fin rfl rfl
        · refine lv_aload_n hx hb dX6_placed_43 rfl (lv_at hl 1 rfl) ?_
          refine fg6 hx hb ht hown hK hw (zs_m hz) rfl 21 wf6_56 (by decide) (nh_vr rfl (zr21 hz)) dX6_placed_44 ?_
          refine lv_iload hx hb dX6_placed_47 (lv_at hl 0 rfl) ?_
          refine ai_ld hx hb hK hw (zs21 hz) rfl hj9 dX6_placed_49 ?_
          refine lv_goto (tgt := 88) hx hb dX6_placed_50 (by decide) ?_
          refine nh_iret hx hb hr rfl hlocks hw (Nat.zero_le _) (Nat.zero_le _) dX6_placed_88 ?_
          simp only [zf_placed, if_neg c10, if_neg c19, if_neg c25, if_pos c40]
          exact im_fin rfl rfl
      · refine lv_aload_n hx hb dX6_placed_28 rfl (lv_at hl 1 rfl) ?_
        refine fg6 hx hb ht hown hK hw (zs_m hz) rfl 20 wf6_53 (by decide) (nh_vr rfl (zr20 hz)) dX6_placed_29 ?_
        refine lv_iload hx hb dX6_placed_32 (lv_at hl 0 rfl) ?_
        refine ai_ld hx hb hK hw (zs20 hz) rfl hj9 dX6_placed_34 ?_
        refine lv_goto (tgt := 88) hx hb dX6_placed_35 (by decide) ?_
        refine nh_iret hx hb hr rfl hlocks hw (Nat.zero_le _) (Nat.zero_le _) dX6_placed_88 ?_
        simp only [zf_placed, if_neg c10, if_neg c19, if_pos c25]
        exact im_fin rfl rfl
    · refine lv_iconst (v := (-1)) hx hb dX6_placed_22 (by decide) ?_
      refine nh_iret hx hb hr rfl hlocks hw (Nat.zero_le _) (Nat.zero_le _) dX6_placed_23 ?_
      simp only [zf_placed, if_neg c10, if_pos c19]
      exact im_fin rfl rfl
def zl_about (J : (nh_N → Nat → Int32))  (a : Int32) (b : Int32) : Nat → Nat → Int32 → Int32 → Int32
  | 0, j, x3, x4 => (if b = 0 then (J (zA 8) a.toNatClampNeg) else (if b = 1 then x3 else (if b = 2 then x4 else (if b = 3 then (if (J (zA 12) a.toNatClampNeg) ≤ 0 then (-1) else (J (zA 10) a.toNatClampNeg)) else (if b = 4 then (J (zA 12) a.toNatClampNeg) else (-2))))))
  | r + 1, j, x3, x4 => (if (J (zA 20) (nI j).toNatClampNeg) = a then (if 0 ≤ x3 then zl_about J  a b r (j + 1) x3 (J (zA 19) (nI j).toNatClampNeg) else zl_about J  a b r (j + 1) (J (zA 19) (nI j).toNatClampNeg) (J (zA 19) (nI j).toNatClampNeg)) else zl_about J  a b r (j + 1) x3 x4)
def zf_about (J : (nh_N → Nat → Int32))  (np : Nat) (a : Int32) (b : Int32) : Int32 := (if (zf_in J a 0 ((J zM 6) - 1)) = 0 then (-1) else zl_about J  a b np 0 (-1) (-1))
set_option maxHeartbeats 4000000 in
set_option maxRecDepth 100000 in
theorem zc_about (l : Launch) (D : va_G) (cA : Nat → ClassId) {S : nh_N → Option nh_C} {g : nh_N → Nat} {J : (nh_N → Nat → Int32)} {R : nh_N → Nat → Option nh_N} (hz : zSh S R) (a : Int32) (b : Int32) (ni : Nat) (hni : J zM 6 = nI ni) (hi2 : ni ≤ 200) (np : Nat) (hnp : J zM 18 = nI np) (hp9 : np ≤ 9000) : im_M l D cA yX6_about vX6_about 1 22 0 0 [.ref (g zM), .int a, .int b] S g J R (im_eq (some (.int (zf_about J  np a b))) S g J R) := by
  refine nh_of (cc := cX6_about) (maxL := 6) (ret := (some .int)) (by decide) rfl (Nat.le_of_ble_eq_true rfl) ?_
  intro p e s m below meth c A ls hx hb hr hml hts hown hlocks hin hK hw hl
  have ht : ∀ w ∈ im_ws, w.before _ s = true := fun w h => hts w (List.mem_cons_of_mem _ h)
  have hl : lv_has ls 6 [(0, .ref (g zM)), (1, .int a), (2, .int b)] := hl
  have loop : ∀ (r j : Nat) (x3 : Int32) (x4 : Int32) (ls : Array Slot) (H : Heap) (locs : List Loc), nh_S D im_cl im_sk cA A s.heap S g J R H locs → j + r = np → vp_in a 200 → lv_has ls 6 [(0, .ref (g zM)), (1, .int a), (2, .int b), (3, .int x3), (4, .int x4), (5, .int (nI j))] → W p l e { frames := 1, cells := 0, slots := 0, locals := 22 } s m ([.ref (g zM), .int a, .int b] : List Value).toArray below meth c H locs 0 0 (MQ below (nh_Q D im_cl im_sk cA A (im_eq (some (.int (zl_about J  a b r j x3 x4))) S g J R)) ([.ref (g zM), .int a, .int b] : List Value).toArray s 0 0 A) (F0 m 24 ls []) := by
    intro r
    induction r with
    | zero =>
      intro j x3 x4 ls H locs hw hj hinv hl
      refine lv_iload hx hb dX6_about_24 (lv_at hl 5 rfl) ?_
      refine lv_aload_n hx hb dX6_about_26 rfl (lv_at hl 0 rfl) ?_
      refine fg6 (v := .int (J zM 18)) hx hb ht hown hK hw (zs_m hz) rfl 18 wf6_95 (by decide) (nh_vi rfl) dX6_about_27 ?_
      refine lv_icmp_ge (tgt := 75) hx hb dX6_about_30 (by decide) (fun c30 => ?_) (fun c30 => ?_)
      · refine lv_iload_n hx hb dX6_about_75 rfl (lv_at hl 2 rfl) ?_
        by_cases c76_0 : b = 0
        · refine lv_tableIn (tgt := 112) hx hb dX6_about_76 (by rw [c76_0]; decide) (by rw [c76_0]; decide) (by rw [c76_0]; rfl) (by decide) ?_
          refine lv_aload_n hx hb dX6_about_112 rfl (lv_at hl 0 rfl) ?_
          refine fg6 hx hb ht hown hK hw (zs_m hz) rfl 8 wf6_26 (by decide) (nh_vr rfl (zr8 hz)) dX6_about_113 ?_
          refine lv_iload_n hx hb dX6_about_116 rfl (lv_at hl 1 rfl) ?_
          refine ai_ld hx hb hK hw (zs8 hz) rfl hinv dX6_about_117 ?_
          refine nh_iret hx hb hr rfl hlocks hw (Nat.zero_le _) (Nat.zero_le _) dX6_about_118 ?_
          simp only [zl_about, if_pos c76_0]
          exact im_fin rfl rfl
        by_cases c76_1 : b = 1
        · refine lv_tableIn (tgt := 119) hx hb dX6_about_76 (by rw [c76_1]; decide) (by rw [c76_1]; decide) (by rw [c76_1]; rfl) (by decide) ?_
          refine lv_iload_n hx hb dX6_about_119 rfl (lv_at hl 3 rfl) ?_
          refine nh_iret hx hb hr rfl hlocks hw (Nat.zero_le _) (Nat.zero_le _) dX6_about_120 ?_
          simp only [zl_about, if_neg c76_0, if_pos c76_1]
          exact im_fin rfl rfl
        by_cases c76_2 : b = 2
        · refine lv_tableIn (tgt := 121) hx hb dX6_about_76 (by rw [c76_2]; decide) (by rw [c76_2]; decide) (by rw [c76_2]; rfl) (by decide) ?_
          refine lv_iload hx hb dX6_about_121 (lv_at hl 4 rfl) ?_
          refine nh_iret hx hb hr rfl hlocks hw (Nat.zero_le _) (Nat.zero_le _) dX6_about_123 ?_
          simp only [zl_about, if_neg c76_0, if_neg c76_1, if_pos c76_2]
          exact im_fin rfl rfl
        by_cases c76_3 : b = 3
        · refine lv_tableIn (tgt := 124) hx hb dX6_about_76 (by rw [c76_3]; decide) (by rw [c76_3]; decide) (by rw [c76_3]; rfl) (by decide) ?_
          refine lv_aload_n hx hb dX6_about_124 rfl (lv_at hl 0 rfl) ?_
          refine fg6 hx hb ht hown hK hw (zs_m hz) rfl 12 wf6_38 (by decide) (nh_vr rfl (zr12 hz)) dX6_about_125 ?_
          refine lv_iload_n hx hb dX6_about_128 rfl (lv_at hl 1 rfl) ?_
          refine ai_ld hx hb hK hw (zs12 hz) rfl hinv dX6_about_129 ?_
          refine lv_if_le (tgt := 142) hx hb dX6_about_130 (by decide) (fun c130 => ?_) (fun c130 => ?_)
          · refine lv_iconst (v := (-1)) hx hb dX6_about_142 (by decide) ?_
            refine nh_iret hx hb hr rfl hlocks hw (Nat.zero_le _) (Nat.zero_le _) dX6_about_143 ?_
            simp only [zl_about, if_neg c76_0, if_neg c76_1, if_neg c76_2, if_pos c76_3, if_pos c130]
            exact im_fin rfl rfl
          · refine lv_aload_n hx hb dX6_about_133 rfl (lv_at hl 0 rfl) ?_
            refine fg6 hx hb ht hown hK hw (zs_m hz) rfl 10 wf6_32 (by decide) (nh_vr rfl (zr10 hz)) dX6_about_134 ?_
            refine lv_iload_n hx hb dX6_about_137 rfl (lv_at hl 1 rfl) ?_
            refine ai_ld hx hb hK hw (zs10 hz) rfl hinv dX6_about_138 ?_
            refine lv_goto (tgt := 143) hx hb dX6_about_139 (by decide) ?_
            refine nh_iret hx hb hr rfl hlocks hw (Nat.zero_le _) (Nat.zero_le _) dX6_about_143 ?_
            simp only [zl_about, if_neg c76_0, if_neg c76_1, if_neg c76_2, if_pos c76_3, if_neg c130]
            exact im_fin rfl rfl
        by_cases c76_4 : b = 4
        · refine lv_tableIn (tgt := 144) hx hb dX6_about_76 (by rw [c76_4]; decide) (by rw [c76_4]; decide) (by rw [c76_4]; rfl) (by decide) ?_
          refine lv_aload_n hx hb dX6_about_144 rfl (lv_at hl 0 rfl) ?_
          refine fg6 hx hb ht hown hK hw (zs_m hz) rfl 12 wf6_38 (by decide) (nh_vr rfl (zr12 hz)) dX6_about_145 ?_
          refine lv_iload_n hx hb dX6_about_148 rfl (lv_at hl 1 rfl) ?_
          refine ai_ld hx hb hK hw (zs12 hz) rfl hinv dX6_about_149 ?_
          refine nh_iret hx hb hr rfl hlocks hw (Nat.zero_le _) (Nat.zero_le _) dX6_about_150 ?_
          simp only [zl_about, if_neg c76_0, if_neg c76_1, if_neg c76_2, if_neg c76_3, if_pos c76_4]
          exact im_fin rfl rfl
        · refine lv_tableOut (tgt := 151) hx hb dX6_about_76 (by have h0 := lv_neT c76_0 (show ((0 : Int32)).toInt = 0 from rfl); have h1 := lv_neT c76_1 (show ((1 : Int32)).toInt = 1 from rfl); have h2 := lv_neT c76_2 (show ((2 : Int32)).toInt = 2 from rfl); have h3 := lv_neT c76_3 (show ((3 : Int32)).toInt = 3 from rfl); have h4 := lv_neT c76_4 (show ((4 : Int32)).toInt = 4 from rfl); omega) (by decide) ?_
          refine lv_bipush (v := (-2)) hx hb dX6_about_151 (by decide) ?_
          refine nh_iret hx hb hr rfl hlocks hw (Nat.zero_le _) (Nat.zero_le _) dX6_about_153 ?_
          simp only [zl_about, if_neg c76_0, if_neg c76_1, if_neg c76_2, if_neg c76_3, if_neg c76_4]
          exact im_fin rfl rfl
      · exact absurd (by rw [hnp]; exact nI_le (by omega) (by omega)) c30
    | succ r ih =>
      intro j x3 x4 ls H locs hw hj hinv hl
      have hj9 : vp_in (nI j) 9000 := vp_in_nI (by omega) (by decide)
      refine lv_iload hx hb dX6_about_24 (lv_at hl 5 rfl) ?_
      refine lv_aload_n hx hb dX6_about_26 rfl (lv_at hl 0 rfl) ?_
      refine fg6 (v := .int (J zM 18)) hx hb ht hown hK hw (zs_m hz) rfl 18 wf6_95 (by decide) (nh_vi rfl) dX6_about_27 ?_
      refine lv_icmp_ge (tgt := 75) hx hb dX6_about_30 (by decide) (fun c30 => ?_) (fun c30 => ?_)
      · exact absurd c30 (by rw [hnp]; exact nI_ge (by omega) (by omega))
      · refine lv_aload_n hx hb dX6_about_33 rfl (lv_at hl 0 rfl) ?_
        refine fg6 hx hb ht hown hK hw (zs_m hz) rfl 20 wf6_53 (by decide) (nh_vr rfl (zr20 hz)) dX6_about_34 ?_
        refine lv_iload hx hb dX6_about_37 (lv_at hl 5 rfl) ?_
        refine ai_ld hx hb hK hw (zs20 hz) rfl hj9 dX6_about_39 ?_
        refine lv_iload_n hx hb dX6_about_40 rfl (lv_at hl 1 rfl) ?_
        refine lv_icmp_ne (tgt := 69) hx hb dX6_about_41 (by decide) (fun c41 => ?_) (fun c41 => ?_)
        · refine lv_iinc (v := (nI j) + 1) (lv' := [(5, .int ((nI j) + 1)), (0, .ref (g zM)), (1, .int a), (2, .int b), (3, .int x3), (4, .int x4)]) hx hb dX6_about_69 hl (k := 5) rfl rfl (by decide) rfl (fun ls hl => ?_)
          refine lv_goto (tgt := 24) hx hb dX6_about_72 (by decide) ?_
          have h9 : lv_has ls 6 [(0, .ref (g zM)), (1, .int a), (2, .int b), (3, .int x3), (4, .int x4), (5, .int ((nI j) + 1))] := lv_sub hl [1, 2, 3, 4, 5, 0] rfl
          rw [nI_1] at h9
          simp only [zl_about, if_neg c41]
          exact ih (j + 1) x3 x4 ls _ _ hw (by omega) hinv h9
        · refine lv_iload_n hx hb dX6_about_44 rfl (lv_at hl 3 rfl) ?_
          refine lv_if_ge (tgt := 58) hx hb dX6_about_45 (by decide) (fun c45 => ?_) (fun c45 => ?_)
          · refine lv_iload_n hx hb dX6_about_58 rfl (lv_at hl 3 rfl) ?_
            refine lv_istore_n (lv' := [(3, .int x3), (0, .ref (g zM)), (1, .int a), (2, .int b), (4, .int x4), (5, .int (nI j))]) hx hb dX6_about_59 rfl hl (by decide) rfl (fun ls hl => ?_)
            refine lv_aload_n hx hb dX6_about_60 rfl (lv_at hl 1 rfl) ?_
            refine fg6 hx hb ht hown hK hw (zs_m hz) rfl 19 wf6_50 (by decide) (nh_vr rfl (zr19 hz)) dX6_about_61 ?_
            refine lv_iload hx hb dX6_about_64 (lv_at hl 5 rfl) ?_
            refine ai_ld hx hb hK hw (zs19 hz) rfl hj9 dX6_about_66 ?_
            refine lv_istore (lv' := [(4, .int (J (zA 19) (nI j).toNatClampNeg)), (3, .int x3), (0, .ref (g zM)), (1, .int a), (2, .int b), (5, .int (nI j))]) hx hb dX6_about_67 hl (by decide) rfl (fun ls hl => ?_)
            refine lv_iinc (v := (nI j) + 1) (lv' := [(5, .int ((nI j) + 1)), (4, .int (J (zA 19) (nI j).toNatClampNeg)), (3, .int x3), (0, .ref (g zM)), (1, .int a), (2, .int b)]) hx hb dX6_about_69 hl (k := 5) rfl rfl (by decide) rfl (fun ls hl => ?_)
            refine lv_goto (tgt := 24) hx hb dX6_about_72 (by decide) ?_
            have h9 : lv_has ls 6 [(0, .ref (g zM)), (1, .int a), (2, .int b), (3, .int x3), (4, .int (J (zA 19) (nI j).toNatClampNeg)), (5, .int ((nI j) + 1))] := lv_sub hl [3, 4, 5, 2, 1, 0] rfl
            rw [nI_1] at h9
            simp only [zl_about, if_pos c41, if_pos c45]
            exact ih (j + 1) x3 (J (zA 19) (nI j).toNatClampNeg) ls _ _ hw (by omega) hinv h9
          · refine lv_aload_n hx hb dX6_about_48 rfl (lv_at hl 0 rfl) ?_
            refine fg6 hx hb ht hown hK hw (zs_m hz) rfl 19 wf6_50 (by decide) (nh_vr rfl (zr19 hz)) dX6_about_49 ?_
            refine lv_iload hx hb dX6_about_52 (lv_at hl 5 rfl) ?_
            refine ai_ld hx hb hK hw (zs19 hz) rfl hj9 dX6_about_54 ?_
            refine lv_goto (tgt := 59) hx hb dX6_about_55 (by decide) ?_
            refine lv_istore_n (lv' := [(3, .int (J (zA 19) (nI j).toNatClampNeg)), (0, .ref (g zM)), (1, .int a), (2, .int b), (4, .int x4), (5, .int (nI j))]) hx hb dX6_about_59 rfl hl (by decide) rfl (fun ls hl => ?_)
            refine lv_aload_n hx hb dX6_about_60 rfl (lv_at hl 1 rfl) ?_
            refine fg6 hx hb ht hown hK hw (zs_m hz) rfl 19 wf6_50 (by decide) (nh_vr rfl (zr19 hz)) dX6_about_61 ?_
            refine lv_iload hx hb dX6_about_64 (lv_at hl 5 rfl) ?_
            refine ai_ld hx hb hK hw (zs19 hz) rfl hj9 dX6_about_66 ?_
            refine lv_istore (lv' := [(4, .int (J (zA 19) (nI j).toNatClampNeg)), (3, .int (J (zA 19) (nI j).toNatClampNeg)), (0, .ref (g zM)), (1, .int a), (2, .int b), (5, .int (nI j))]) hx hb dX6_about_67 hl (by decide) rfl (fun ls hl => ?_)
            refine lv_iinc (v := (nI j) + 1) (lv' := [(5, .int ((nI j) + 1)), (4, .int (J (zA 19) (nI j).toNatClampNeg)), (3, .int (J (zA 19) (nI j).toNatClampNeg)), (0, .ref (g zM)), (1, .int a), (2, .int b)]) hx hb dX6_about_69 hl (k := 5) rfl rfl (by decide) rfl (fun ls hl => ?_)
            refine lv_goto (tgt := 24) hx hb dX6_about_72 (by decide) ?_
            have h9 : lv_has ls 6 [(0, .ref (g zM)), (1, .int a), (2, .int b), (3, .int (J (zA 19) (nI j).toNatClampNeg)), (4, .int (J (zA 19) (nI j).toNatClampNeg)), (5, .int ((nI j) + 1))] := lv_sub hl [3, 4, 5, 2, 1, 0] rfl
            rw [nI_1] at h9
            simp only [zl_about, if_pos c41, if_neg c45]
            exact ih (j + 1) (J (zA 19) (nI j).toNatClampNeg) (J (zA 19) (nI j).toNatClampNeg) ls _ _ hw (by omega) hinv h9
  refine lv_iload_n hx hb dX6_about_0 rfl (lv_at hl 1 rfl) ?_
  refine lv_iconst (v := 0) hx hb dX6_about_1 (by decide) ?_
  refine lv_aload_n hx hb dX6_about_2 rfl (lv_at hl 0 rfl) ?_
  refine fg6 (v := .int (J zM 6)) hx hb ht hown hK hw (zs_m hz) rfl 6 wf6_89 (by decide) (nh_vi rfl) dX6_about_3 ?_
  refine lv_iconst (v := 1) hx hb dX6_about_6 (by decide) ?_
  refine lv_isub hx hb dX6_about_7 ?_
  refine kcX6_in (As := [.int a, .int 0, .int ((J zM 6) - 1)]) (rest := []) wm6_78 (zc_in l D cA a 0 ((J zM 6) - 1)) hx hb hml ht hown hK hw rfl hl.1 rfl (by simp [Value.category]) ⟨by decide, by decide⟩ ⟨by simp, by simp⟩ dX6_about_8 (fun v S1 g1 I1 R1 H locs hp hw => ?_)
  obtain ⟨rfl, h1, h2, h3, h4⟩ := hp
  rw [h1, h2, h3, h4] at hw
  clear h1 h2 h3 h4
  show W _ _ _ _ _ _ _ _ _ _ _ _ _ _ _ (F0 m 11 ls [.int (zf_in J a 0 ((J zM 6) - 1))])
  refine lv_if_ne (tgt := 16) hx hb dX6_about_11 (by decide) (fun c11 => ?_) (fun c11 => ?_)
  · refine lv_iconst (v := (-1)) hx hb dX6_about_16 (by decide) ?_
    refine lv_istore_n (lv' := [(3, .int (-1)), (0, .ref (g zM)), (1, .int a), (2, .int b)]) hx hb dX6_about_17 rfl hl (by decide) rfl (fun ls hl => ?_)
    refine lv_iconst (v := (-1)) hx hb dX6_about_18 (by decide) ?_
    refine lv_istore (lv' := [(4, .int (-1)), (3, .int (-1)), (0, .ref (g zM)), (1, .int a), (2, .int b)]) hx hb dX6_about_19 hl (by decide) rfl (fun ls hl => ?_)
    refine lv_iconst (v := 0) hx hb dX6_about_21 (by decide) ?_
    refine lv_istore (lv' := [(5, .int 0), (4, .int (-1)), (3, .int (-1)), (0, .ref (g zM)), (1, .int a), (2, .int b)]) hx hb dX6_about_22 hl (by decide) rfl (fun ls hl => ?_)
    simp only [zf_about, if_neg c11]
    exact loop np 0 (-1) (-1) ls _ _ hw (by omega) (zi_in c11 hni hi2) (by rw [nI_0]; exact lv_sub hl [3, 4, 5, 2, 1, 0] rfl)
  · refine lv_iconst (v := (-1)) hx hb dX6_about_14 (by decide) ?_
    refine nh_iret hx hb hr rfl hlocks hw (Nat.zero_le _) (Nat.zero_le _) dX6_about_15 ?_
    simp only [zf_about, if_pos c11]
    exact im_fin rfl rfl
def zl_markOn (J : (nh_N → Nat → Int32))  (a : Int32) (b : Int32) (d : Int32) : Nat → Nat → Int32 → Int32
  | 0, j, x4 => x4
  | r + 1, j, x4 => (if (J (zA 14) (nI j).toNatClampNeg) = a then (if (J (zA 15) (nI j).toNatClampNeg) = b then (if x4 < 0 then zl_markOn J  a b d r (j + 1) (nI j) else (if d = 0 then zl_markOn J  a b d r (j + 1) (nI j) else zl_markOn J  a b d r (j + 1) x4)) else zl_markOn J  a b d r (j + 1) x4) else zl_markOn J  a b d r (j + 1) x4)
def zf_markOn (J : (nh_N → Nat → Int32))  (nm : Nat) (a : Int32) (b : Int32) (d : Int32) : Int32 := zl_markOn J  a b d nm 0 (-1)
set_option maxHeartbeats 4000000 in
set_option maxRecDepth 100000 in
theorem zc_markOn (l : Launch) (D : va_G) (cA : Nat → ClassId) {S : nh_N → Option nh_C} {g : nh_N → Nat} {J : (nh_N → Nat → Int32)} {R : nh_N → Nat → Option nh_N} (hz : zSh S R) (a : Int32) (b : Int32) (d : Int32) (nm : Nat) (hnm : J zM 13 = nI nm) (hm3 : nm ≤ 300) : im_M l D cA yX6_markOn vX6_markOn 0 0 0 0 [.ref (g zM), .int a, .int b, .int d] S g J R (im_eq (some (.int (zf_markOn J  nm a b d))) S g J R) := by
  refine nh_of (cc := cX6_markOn) (maxL := 6) (ret := (some .int)) (by decide) rfl (Nat.le_of_ble_eq_true rfl) ?_
  intro p e s m below meth c A ls hx hb hr hml hts hown hlocks hin hK hw hl
  have ht : ∀ w ∈ im_ws, w.before _ s = true := fun w h => hts w (List.mem_cons_of_mem _ h)
  have hl : lv_has ls 6 [(0, .ref (g zM)), (1, .int a), (2, .int b), (3, .int d)] := hl
  have loop : ∀ (r j : Nat) (x4 : Int32) (ls : Array Slot) (H : Heap) (locs : List Loc), nh_S D im_cl im_sk cA A s.heap S g J R H locs → j + r = nm → lv_has ls 6 [(0, .ref (g zM)), (1, .int a), (2, .int b), (3, .int d), (4, .int x4), (5, .int (nI j))] → W p l e { frames := 0, cells := 0, slots := 0, locals := 0 } s m ([.ref (g zM), .int a, .int b, .int d] : List Value).toArray below meth c H locs 0 0 (MQ below (nh_Q D im_cl im_sk cA A (im_eq (some (.int (zl_markOn J  a b d r j x4))) S g J R)) ([.ref (g zM), .int a, .int b, .int d] : List Value).toArray s 0 0 A) (F0 m 6 ls []) := by
    intro r
    induction r with
    | zero =>
      intro j x4 ls H locs hw hj hl
      refine lv_iload hx hb dX6_markOn_6 (lv_at hl 5 rfl) ?_
      refine lv_aload_n hx hb dX6_markOn_8 rfl (lv_at hl 0 rfl) ?_
      refine fg6 (v := .int (J zM 13)) hx hb ht hown hK hw (zs_m hz) rfl 13 wf6_92 (by decide) (nh_vi rfl) dX6_markOn_9 ?_
      refine lv_icmp_ge (tgt := 56) hx hb dX6_markOn_12 (by decide) (fun c12 => ?_) (fun c12 => ?_)
      · refine lv_iload hx hb dX6_markOn_56 (lv_at hl 4 rfl) ?_
        refine nh_iret hx hb hr rfl hlocks hw (Nat.zero_le _) (Nat.zero_le _) dX6_markOn_58 ?_
        exact im_fin rfl rfl
      · exact absurd (by rw [hnm]; exact nI_le (by omega) (by omega)) c12
    | succ r ih =>
      intro j x4 ls H locs hw hj hl
      have hj9 : vp_in (nI j) 300 := vp_in_nI (by omega) (by decide)
      refine lv_iload hx hb dX6_markOn_6 (lv_at hl 5 rfl) ?_
      refine lv_aload_n hx hb dX6_markOn_8 rfl (lv_at hl 0 rfl) ?_
      refine fg6 (v := .int (J zM 13)) hx hb ht hown hK hw (zs_m hz) rfl 13 wf6_92 (by decide) (nh_vi rfl) dX6_markOn_9 ?_
      refine lv_icmp_ge (tgt := 56) hx hb dX6_markOn_12 (by decide) (fun c12 => ?_) (fun c12 => ?_)
      · exact absurd c12 (by rw [hnm]; exact nI_ge (by omega) (by omega))
      · refine lv_aload_n hx hb dX6_markOn_15 rfl (lv_at hl 0 rfl) ?_
        refine fg6 hx hb ht hown hK hw (zs_m hz) rfl 14 wf6_41 (by decide) (nh_vr rfl (zr14 hz)) dX6_markOn_16 ?_
        refine lv_iload hx hb dX6_markOn_19 (lv_at hl 5 rfl) ?_
        refine ai_ld hx hb hK hw (zs14 hz) rfl hj9 dX6_markOn_21 ?_
        refine lv_iload_n hx hb dX6_markOn_22 rfl (lv_at hl 1 rfl) ?_
        refine lv_icmp_ne (tgt := 50) hx hb dX6_markOn_23 (by decide) (fun c23 => ?_) (fun c23 => ?_)
        · refine lv_iinc (v := (nI j) + 1) (lv' := [(5, .int ((nI j) + 1)), (0, .ref (g zM)), (1, .int a), (2, .int b), (3, .int d), (4, .int x4)]) hx hb dX6_markOn_50 hl (k := 5) rfl rfl (by decide) rfl (fun ls hl => ?_)
          refine lv_goto (tgt := 6) hx hb dX6_markOn_53 (by decide) ?_
          have h9 : lv_has ls 6 [(0, .ref (g zM)), (1, .int a), (2, .int b), (3, .int d), (4, .int x4), (5, .int ((nI j) + 1))] := lv_sub hl [1, 2, 3, 4, 5, 0] rfl
          rw [nI_1] at h9
          simp only [zl_markOn, if_neg c23]
          exact ih (j + 1) x4 ls _ _ hw (by omega) h9
        · refine lv_aload_n hx hb dX6_markOn_26 rfl (lv_at hl 0 rfl) ?_
          refine fg6 hx hb ht hown hK hw (zs_m hz) rfl 15 wf6_44 (by decide) (nh_vr rfl (zr15 hz)) dX6_markOn_27 ?_
          refine lv_iload hx hb dX6_markOn_30 (lv_at hl 5 rfl) ?_
          refine ai_ld hx hb hK hw (zs15 hz) rfl hj9 dX6_markOn_32 ?_
          refine lv_iload_n hx hb dX6_markOn_33 rfl (lv_at hl 2 rfl) ?_
          refine lv_icmp_ne (tgt := 50) hx hb dX6_markOn_34 (by decide) (fun c34 => ?_) (fun c34 => ?_)
          · refine lv_iinc (v := (nI j) + 1) (lv' := [(5, .int ((nI j) + 1)), (0, .ref (g zM)), (1, .int a), (2, .int b), (3, .int d), (4, .int x4)]) hx hb dX6_markOn_50 hl (k := 5) rfl rfl (by decide) rfl (fun ls hl => ?_)
            refine lv_goto (tgt := 6) hx hb dX6_markOn_53 (by decide) ?_
            have h9 : lv_has ls 6 [(0, .ref (g zM)), (1, .int a), (2, .int b), (3, .int d), (4, .int x4), (5, .int ((nI j) + 1))] := lv_sub hl [1, 2, 3, 4, 5, 0] rfl
            rw [nI_1] at h9
            simp only [zl_markOn, if_pos c23, if_neg c34]
            exact ih (j + 1) x4 ls _ _ hw (by omega) h9
          · refine lv_iload hx hb dX6_markOn_37 (lv_at hl 4 rfl) ?_
            refine lv_if_lt (tgt := 46) hx hb dX6_markOn_39 (by decide) (fun c39 => ?_) (fun c39 => ?_)
            · refine lv_iload hx hb dX6_markOn_46 (lv_at hl 5 rfl) ?_
              refine lv_istore (lv' := [(4, .int (nI j)), (0, .ref (g zM)), (1, .int a), (2, .int b), (3, .int d), (5, .int (nI j))]) hx hb dX6_markOn_48 hl (by decide) rfl (fun ls hl => ?_)
              refine lv_iinc (v := (nI j) + 1) (lv' := [(5, .int ((nI j) + 1)), (4, .int (nI j)), (0, .ref (g zM)), (1, .int a), (2, .int b), (3, .int d)]) hx hb dX6_markOn_50 hl (k := 5) rfl rfl (by decide) rfl (fun ls hl => ?_)
              refine lv_goto (tgt := 6) hx hb dX6_markOn_53 (by decide) ?_
              have h9 : lv_has ls 6 [(0, .ref (g zM)), (1, .int a), (2, .int b), (3, .int d), (4, .int (nI j)), (5, .int ((nI j) + 1))] := lv_sub hl [2, 3, 4, 5, 1, 0] rfl
              rw [nI_1] at h9
              simp only [zl_markOn, if_pos c23, if_pos c34, if_pos c39]
              exact ih (j + 1) (nI j) ls _ _ hw (by omega) h9
            · refine lv_iload_n hx hb dX6_markOn_42 rfl (lv_at hl 3 rfl) ?_
              refine lv_if_ne (tgt := 50) hx hb dX6_markOn_43 (by decide) (fun c43 => ?_) (fun c43 => ?_)
              · refine lv_iinc (v := (nI j) + 1) (lv' := [(5, .int ((nI j) + 1)), (0, .ref (g zM)), (1, .int a), (2, .int b), (3, .int d), (4, .int x4)]) hx hb dX6_markOn_50 hl (k := 5) rfl rfl (by decide) rfl (fun ls hl => ?_)
                refine lv_goto (tgt := 6) hx hb dX6_markOn_53 (by decide) ?_
                have h9 : lv_has ls 6 [(0, .ref (g zM)), (1, .int a), (2, .int b), (3, .int d), (4, .int x4), (5, .int ((nI j) + 1))] := lv_sub hl [1, 2, 3, 4, 5, 0] rfl
                rw [nI_1] at h9
                simp only [zl_markOn, if_pos c23, if_pos c34, if_neg c39, if_neg c43]
                exact ih (j + 1) x4 ls _ _ hw (by omega) h9
              · refine lv_iload hx hb dX6_markOn_46 (lv_at hl 5 rfl) ?_
                refine lv_istore (lv' := [(4, .int (nI j)), (0, .ref (g zM)), (1, .int a), (2, .int b), (3, .int d), (5, .int (nI j))]) hx hb dX6_markOn_48 hl (by decide) rfl (fun ls hl => ?_)
                refine lv_iinc (v := (nI j) + 1) (lv' := [(5, .int ((nI j) + 1)), (4, .int (nI j)), (0, .ref (g zM)), (1, .int a), (2, .int b), (3, .int d)]) hx hb dX6_markOn_50 hl (k := 5) rfl rfl (by decide) rfl (fun ls hl => ?_)
                refine lv_goto (tgt := 6) hx hb dX6_markOn_53 (by decide) ?_
                have h9 : lv_has ls 6 [(0, .ref (g zM)), (1, .int a), (2, .int b), (3, .int d), (4, .int (nI j)), (5, .int ((nI j) + 1))] := lv_sub hl [2, 3, 4, 5, 1, 0] rfl
                rw [nI_1] at h9
                simp only [zl_markOn, if_pos c23, if_pos c34, if_neg c39, if_pos c43]
                exact ih (j + 1) (nI j) ls _ _ hw (by omega) h9
  refine lv_iconst (v := (-1)) hx hb dX6_markOn_0 (by decide) ?_
  refine lv_istore (lv' := [(4, .int (-1)), (0, .ref (g zM)), (1, .int a), (2, .int b), (3, .int d)]) hx hb dX6_markOn_1 hl (by decide) rfl (fun ls hl => ?_)
  refine lv_iconst (v := 0) hx hb dX6_markOn_3 (by decide) ?_
  refine lv_istore (lv' := [(5, .int 0), (4, .int (-1)), (0, .ref (g zM)), (1, .int a), (2, .int b), (3, .int d)]) hx hb dX6_markOn_4 hl (by decide) rfl (fun ls hl => ?_)
  exact loop nm 0 (-1) ls _ _ hw (by omega) (by rw [nI_0]; exact lv_sub hl [2, 3, 4, 5, 1, 0] rfl)
theorem zb_markOn (J : nh_N → Nat → Int32) (a b d : Int32) : ∀ (r j : Nat) (x : Int32) (N : Nat), j + r ≤ N → (x = -1 ∨ ∃ q, q < N ∧ x = nI q) → zl_markOn J a b d r j x = -1 ∨ ∃ q, q < N ∧ zl_markOn J a b d r j x = nI q := by
  intro r
  induction r with
  | zero => intro j x N h hx; exact hx
  | succ r ih =>
    intro j x N h hx
    unfold zl_markOn
    split
    · split
      · split
        · exact ih _ _ N (by omega) (Or.inr ⟨j, by omega, rfl⟩)
        · split
          · exact ih _ _ N (by omega) (Or.inr ⟨j, by omega, rfl⟩)
          · exact ih _ _ N (by omega) hx
      · exact ih _ _ N (by omega) hx
    · exact ih _ _ N (by omega) hx
theorem zx_markOn {J : nh_N → Nat → Int32} {nm : Nat} {a b d : Int32} (hN2 : nm < 2 ^ 31) (h : ¬ zf_markOn J nm a b d < 0) : ∃ q, q < nm ∧ zf_markOn J nm a b d = nI q := by
  rcases zb_markOn J a b d nm 0 (-1) nm (by omega) (Or.inl rfl) with h1 | h1
  · exact absurd (by show zl_markOn J a b d nm 0 (-1) < 0; rw [h1]; decide) h
  · exact h1
def zl_lastBefore (J : (nh_N → Nat → Int32)) (nm : Nat) (a : Int32) (b : Int32) : Nat → Int32
  | 0 => 0
  | r + 1 => (if (zf_markOn J nm a (nI r) 0) < 0 then zl_lastBefore J nm a b r  else (J (zA 16) (zf_markOn J nm a (nI r) 0).toNatClampNeg))
def zf_lastBefore (J : (nh_N → Nat → Int32)) (nm : Nat) (pg : Nat) (a : Int32) (b : Int32) : Int32 := zl_lastBefore J nm a b pg 
set_option maxHeartbeats 4000000 in
set_option maxRecDepth 100000 in
theorem zc_lastBefore (l : Launch) (D : va_G) (cA : Nat → ClassId) {S : nh_N → Option nh_C} {g : nh_N → Nat} {J : (nh_N → Nat → Int32)} {R : nh_N → Nat → Option nh_N} (hz : zSh S R) (a : Int32) (b : Int32) (pg : Nat) (hpg : b = nI pg) (hp4 : pg ≤ 40) (nm : Nat) (hnm : J zM 13 = nI nm) (hm3 : nm ≤ 300) : im_M l D cA yX6_lastBefore vX6_lastBefore 1 25 0 0 [.ref (g zM), .int a, .int b] S g J R (im_eq (some (.int (zf_lastBefore J nm pg a b))) S g J R) := by
  refine nh_of (cc := cX6_lastBefore) (maxL := 5) (ret := (some .int)) (by decide) rfl (Nat.le_of_ble_eq_true rfl) ?_
  intro p e s m below meth c A ls hx hb hr hml hts hown hlocks hin hK hw hl
  have ht : ∀ w ∈ im_ws, w.before _ s = true := fun w h => hts w (List.mem_cons_of_mem _ h)
  have hl : lv_has ls 5 [(0, .ref (g zM)), (1, .int a), (2, .int b)] := hl
  have loop : ∀ (r : Nat)  (ls : Array Slot) (H : Heap) (locs : List Loc), nh_S D im_cl im_sk cA A s.heap S g J R H locs → r ≤ pg → lv_has ls 5 [(0, .ref (g zM)), (1, .int a), (2, .int b), (3, .int (nI r - 1))] → W p l e { frames := 1, cells := 0, slots := 0, locals := 25 } s m ([.ref (g zM), .int a, .int b] : List Value).toArray below meth c H locs 0 0 (MQ below (nh_Q D im_cl im_sk cA A (im_eq (some (.int (zl_lastBefore J nm a b r ))) S g J R)) ([.ref (g zM), .int a, .int b] : List Value).toArray s 0 0 A) (F0 m 4 ls []) := by
    intro r
    induction r with
    | zero =>
      intro  ls H locs hw hj hl
      refine lv_iload_n hx hb dX6_lastBefore_4 rfl (lv_at hl 3 rfl) ?_
      refine lv_if_lt (tgt := 36) hx hb dX6_lastBefore_5 (by decide) (fun c5 => ?_) (fun c5 => ?_)
      · refine lv_iconst (v := 0) hx hb dX6_lastBefore_36 (by decide) ?_
        refine nh_iret hx hb hr rfl hlocks hw (Nat.zero_le _) (Nat.zero_le _) dX6_lastBefore_37 ?_
        exact im_fin rfl rfl
      · exact absurd (by decide) c5
    | succ r ih =>
      intro  ls H locs hw hj hl
      rw [nI_pred] at hl
      refine lv_iload_n hx hb dX6_lastBefore_4 rfl (lv_at hl 3 rfl) ?_
      refine lv_if_lt (tgt := 36) hx hb dX6_lastBefore_5 (by decide) (fun c5 => ?_) (fun c5 => ?_)
      · exact absurd c5 (nI_pos (by omega))
      · refine lv_aload_n hx hb dX6_lastBefore_8 rfl (lv_at hl 0 rfl) ?_
        refine lv_iload_n hx hb dX6_lastBefore_9 rfl (lv_at hl 1 rfl) ?_
        refine lv_iload_n hx hb dX6_lastBefore_10 rfl (lv_at hl 3 rfl) ?_
        refine lv_iconst (v := 0) hx hb dX6_lastBefore_11 (by decide) ?_
        refine kcX6_markOn (As := [.int a, .int (nI r), .int 0]) (rest := []) wm6_134 (zc_markOn l D cA hz a (nI r) 0 nm hnm hm3) hx hb hml ht hown hK hw (zs_m hz) rfl rfl hl.1 rfl (by simp [Value.category]) ⟨by decide, by decide⟩ ⟨by simp, by simp⟩ dX6_lastBefore_12 (fun v S1 g1 I1 R1 H locs hp hw => ?_)
        obtain ⟨rfl, h1, h2, h3, h4⟩ := hp
        rw [h1, h2, h3, h4] at hw
        clear h1 h2 h3 h4
        show W _ _ _ _ _ _ _ _ _ _ _ _ _ _ _ (F0 m 15 ls [.int (zf_markOn J nm a (nI r) 0)])
        refine lv_istore (lv' := [(4, .int (zf_markOn J nm a (nI r) 0)), (0, .ref (g zM)), (1, .int a), (2, .int b), (3, .int (nI r))]) hx hb dX6_lastBefore_15 hl (by decide) rfl (fun ls hl => ?_)
        refine lv_iload hx hb dX6_lastBefore_17 (lv_at hl 0 rfl) ?_
        refine lv_if_lt (tgt := 30) hx hb dX6_lastBefore_19 (by decide) (fun c19 => ?_) (fun c19 => ?_)
        · refine lv_iinc (v := (nI r) + (-1)) (lv' := [(3, .int ((nI r) + (-1))), (4, .int (zf_markOn J nm a (nI r) 0)), (0, .ref (g zM)), (1, .int a), (2, .int b)]) hx hb dX6_lastBefore_30 hl (k := 4) rfl rfl (by decide) rfl (fun ls hl => ?_)
          refine lv_goto (tgt := 4) hx hb dX6_lastBefore_33 (by decide) ?_
          have h9 : lv_has ls 5 [(0, .ref (g zM)), (1, .int a), (2, .int b), (3, .int ((nI r) + (-1)))] := lv_sub hl [2, 3, 4, 0] rfl
          rw [show nI r + (-1) = nI r - 1 from (Int32.sub_eq_add_neg _ _).symm] at h9
          simp only [zl_lastBefore, if_pos c19]
          exact ih  ls _ _ hw (by omega) h9
        · obtain ⟨q9, hq9, eq9⟩ := zx_markOn (by omega) c19
          refine lv_aload_n hx hb dX6_lastBefore_22 rfl (lv_at hl 1 rfl) ?_
          refine fg6 hx hb ht hown hK hw (zs_m hz) rfl 16 wf6_47 (by decide) (nh_vr rfl (zr16 hz)) dX6_lastBefore_23 ?_
          refine lv_iload hx hb dX6_lastBefore_26 (lv_at hl 0 rfl) ?_
          refine ai_ld hx hb hK hw (zs16 hz) rfl (ix_of q9 eq9 (by omega) (by decide)) dX6_lastBefore_28 ?_
          refine nh_iret hx hb hr rfl hlocks hw (Nat.zero_le _) (Nat.zero_le _) dX6_lastBefore_29 ?_
          simp only [zl_lastBefore, if_neg c19]
          exact im_fin rfl rfl
  refine lv_iload_n hx hb dX6_lastBefore_0 rfl (lv_at hl 2 rfl) ?_
  refine lv_iconst (v := 1) hx hb dX6_lastBefore_1 (by decide) ?_
  refine lv_isub hx hb dX6_lastBefore_2 ?_
  refine lv_istore_n (lv' := [(3, .int (b - 1)), (0, .ref (g zM)), (1, .int a), (2, .int b)]) hx hb dX6_lastBefore_3 rfl hl (by decide) rfl (fun ls hl => ?_)
  exact loop pg  ls _ _ hw (by omega) (by rw [← hpg]; exact lv_sub hl [1, 2, 3, 0] rfl)
